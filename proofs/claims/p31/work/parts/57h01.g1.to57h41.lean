section
/-! cells and sides -/
def dxI (s : Int) : Int := if s = 1 ∨ s = 2 ∨ s = 3 then 1 else if s = 5 ∨ s = 6 ∨ s = 7 then -1 else 0
def dyI (s : Int) : Int := if s = 0 ∨ s = 1 ∨ s = 7 then -1 else if s = 3 ∨ s = 4 ∨ s = 5 then 1 else 0
def onI (c s y : Int) : Int := if 0 ≤ c % 16 + y * dxI s ∧ c % 16 + y * dxI s ≤ 15 ∧ 0 ≤ c / 16 + y * dyI s ∧ c / 16 + y * dyI s ≤ 11 then 16 * (c / 16 + y * dyI s) + (c % 16 + y * dxI s) else -1
theorem side8 {s : Int} (h : 0 ≤ s ∧ s ≤ 7) : s = 0 ∨ s = 1 ∨ s = 2 ∨ s = 3 ∨ s = 4 ∨ s = 5 ∨ s = 6 ∨ s = 7 := by omega
theorem dx_b (s : Int) : -1 ≤ dxI s ∧ dxI s ≤ 1 := by unfold dxI; split <;> (try split) <;> omega
theorem dy_b (s : Int) : -1 ≤ dyI s ∧ dyI s ≤ 1 := by unfold dyI; split <;> (try split) <;> omega
theorem tbl_dx : ∀ j : Nat, j < 8 → (([0, 1, 1, 1, 0, -1, -1, -1] : List Int32).getD j 0).toInt = dxI (j : Int) := by decide +kernel
theorem tbl_dy : ∀ j : Nat, j < 8 → (([-1, -1, 0, 1, 1, 1, 0, -1] : List Int32).getD j 0).toInt = dyI (j : Int) := by decide +kernel
theorem mul_b {y d : Int} (hy : 0 ≤ y ∧ y ≤ 16) (hd : -1 ≤ d ∧ d ≤ 1) : -16 ≤ y * d ∧ y * d ≤ 16 := by
  obtain h | h | h : d = -1 ∨ d = 0 ∨ d = 1 := by omega
  all_goals (rw [h]; omega)
theorem cx_spec {v s y a b c z : Int32} {j : Nat} (h1 : a.toInt = v.toInt % 16) (hj : (j : Int) = s.toInt) (e : b = ([0, 1, 1, 1, 0, -1, -1, -1] : List Int32).getD j 0) (h2 : c = y * b) (h3 : z = a + c) (hs : 0 ≤ s.toInt ∧ s.toInt ≤ 7) (hy : 0 ≤ y.toInt ∧ y.toInt ≤ 16) : z.toInt = v.toInt % 16 + y.toInt * dxI s.toInt := by
  have e1 : b.toInt = dxI s.toInt := by rw [e, tbl_dx j (by omega), hj]
  have b1 := dx_b s.toInt
  have b2 := mul_b hy b1
  have e2 : c.toInt = y.toInt * dxI s.toInt := by rw [h2]; exact mulI rfl e1 (by omega) (by omega)
  rw [h3]; exact addI h1 e2 (by omega) (by omega)
theorem cy_spec {v s y a b c z : Int32} {j : Nat} (h1 : a.toInt = v.toInt / 16) (hv : 0 ≤ v.toInt ∧ v.toInt ≤ 191) (hj : (j : Int) = s.toInt) (e : b = ([-1, -1, 0, 1, 1, 1, 0, -1] : List Int32).getD j 0) (h2 : c = y * b) (h3 : z = a + c) (hs : 0 ≤ s.toInt ∧ s.toInt ≤ 7) (hy : 0 ≤ y.toInt ∧ y.toInt ≤ 16) : z.toInt = v.toInt / 16 + y.toInt * dyI s.toInt := by
  have e1 : b.toInt = dyI s.toInt := by rw [e, tbl_dy j (by omega), hj]
  have b1 := dy_b s.toInt
  have b2 := mul_b hy b1
  have e2 : c.toInt = y.toInt * dyI s.toInt := by rw [h2]; exact mulI rfl e1 (by omega) (by omega)
  rw [h3]; exact addI h1 e2 (by omega) (by omega)
theorem cF_spec {v s y : Int32} {M : mM} {r : Int32} (h : SP_X7_cellFrom v s y M r) : (((0 ≤ v.toInt ∧ v.toInt ≤ 191) ∧ (0 ≤ s.toInt ∧ s.toInt ≤ 7) ∧ (0 ≤ y.toInt ∧ y.toInt ≤ 16)) ∧ r.toInt = onI v.toInt s.toInt y.toInt) ∨ (¬ ((0 ≤ v.toInt ∧ v.toInt ≤ 191) ∧ (0 ≤ s.toInt ∧ s.toInt ≤ 7) ∧ (0 ≤ y.toInt ∧ y.toInt ≤ 16)) ∧ r.toInt = -1) := by
  have qm := il_m1
  refine xE_SP_X7_cellFrom h ⟨(fun hs5_ h4_ => ⟨(fun hs11_ h10_ => ⟨(fun h13_ hr_ => ?_), (fun h13_ => ⟨(fun h14_ z15_ h16_ j19_ h20_ z17_ e18_ z21_ h22_ z23_ h24_ z25_ h26_ j29_ h30_ z27_ e28_ z31_ h32_ z33_ h34_ => ⟨(fun h35_ hr_ => ?_), (fun h35_ => ⟨(fun h36_ hr_ => ?_), (fun h36_ => ⟨(fun h37_ hr_ => ?_), (fun h37_ => ⟨(fun h38_ z39_ h40_ z41_ h42_ hr_ => ?_), (fun h38_ hr_ => ?_)⟩)⟩)⟩)⟩), (fun h14_ hr_ => ?_)⟩)⟩), (fun hs11_ h10_ hr_ => ?_)⟩), (fun hs5_ h4_ hr_ => ?_)⟩
  · have := eT hr_; omega
  iterate 5
    · left
      refine ⟨by omega, ?_⟩
      have X := cx_spec h16_ h20_ e18_ h22_ h24_ h10_ (by omega)
      have Y := cy_spec h26_ h4_ h30_ e28_ h32_ h34_ h10_ (by omega)
      have := eT hr_
      unfold onI
      rw [← X, ← Y]
      split <;> omega
  · have := eT hr_; omega
  · have := eT hr_; omega
  · have := eT hr_; omega
theorem tbl_EA : ∀ j : Nat, j < 8 → (EAq.getD j 0).toInt = dxI (j : Int) := by decide +kernel
theorem tbl_SO : ∀ j : Nat, j < 8 → (SOq.getD j 0).toInt = dyI (j : Int) := by decide +kernel
theorem onX_spec {c s y : Int32} (hc : 0 ≤ c.toInt ∧ c.toInt ≤ 191) (hs : 0 ≤ s.toInt ∧ s.toInt ≤ 7) (hy : 0 ≤ y.toInt ∧ y.toInt ≤ 16) : (onX c s y).toInt = c.toInt % 16 + y.toInt * dxI s.toInt := by
  have e1 : (EAq.getD s.toInt.toNat 0).toInt = dxI s.toInt := by rw [tbl_EA _ (by omega), show ((s.toInt.toNat : Nat) : Int) = s.toInt by omega]
  have b1 := dx_b s.toInt
  have b2 := mul_b hy b1
  have i16 : (16 : Int32).toInt = 16 := by decide
  have e2 : (y * EAq.getD s.toInt.toNat 0).toInt = y.toInt * dxI s.toInt := mulI rfl e1 (by omega) (by omega)
  have e3 : (c - c / 16 * 16).toInt = c.toInt % 16 := remI rfl i16 (by omega) (by omega)
  unfold onX
  exact addI e3 e2 (by omega) (by omega)
theorem onY_spec {c s y : Int32} (hc : 0 ≤ c.toInt ∧ c.toInt ≤ 191) (hs : 0 ≤ s.toInt ∧ s.toInt ≤ 7) (hy : 0 ≤ y.toInt ∧ y.toInt ≤ 16) : (onY c s y).toInt = c.toInt / 16 + y.toInt * dyI s.toInt := by
  have e1 : (SOq.getD s.toInt.toNat 0).toInt = dyI s.toInt := by rw [tbl_SO _ (by omega), show ((s.toInt.toNat : Nat) : Int) = s.toInt by omega]
  have b1 := dy_b s.toInt
  have b2 := mul_b hy b1
  have i16 : (16 : Int32).toInt = 16 := by decide
  have e2 : (y * SOq.getD s.toInt.toNat 0).toInt = y.toInt * dyI s.toInt := mulI rfl e1 (by omega) (by omega)
  have e3 : (c / 16).toInt = c.toInt / 16 := divI rfl i16 (by omega) (by omega)
  unfold onY
  exact addI e3 e2 (by omega) (by omega)
theorem on_spec {c s y r : Int32} (h : onP c s y r) (hc : 0 ≤ c.toInt ∧ c.toInt ≤ 191) (hs : 0 ≤ s.toInt ∧ s.toInt ≤ 7) (hy : 0 ≤ y.toInt ∧ y.toInt ≤ 16) : r.toInt = onI c.toInt s.toInt y.toInt := by
  have X := onX_spec hc hs hy
  have Y := onY_spec hc hs hy
  unfold onP onIn at h
  unfold onI
  rw [← X, ← Y]
  split <;> omega
/-- a cell some yards on is another one -/
theorem onI_ne {c s y : Int} (hc : 0 ≤ c ∧ c ≤ 191) (hs : 0 ≤ s ∧ s ≤ 7) (hy : 1 ≤ y ∧ y ≤ 15) : onI c s y ≠ c := by
  unfold onI
  split
  · rename_i h
    obtain e | e | e | e | e | e | e | e := side8 hs
    all_goals
      subst e
      simp only [dxI, dyI] at h ⊢
      simp at h ⊢
      omega
  · omega
theorem onI_b {c s y : Int} : -1 ≤ onI c s y ∧ onI c s y ≤ 191 := by
  unfold onI
  split <;> omega
/-! who is in a cell: the class's row, the model's lists -/
def occ (b : Nat) (m : rf → Nat → Int32) (c : Nat) : Int := (m (35, b, 0) c).toInt
def tcl (n : Nat → Int32) (t : Nat) : Int := (n (21 + 4 * t)).toInt
def wcl (n : Nat → Int32) (w : Nat) : Int := (n (181 + 9 * w)).toInt
def nTh (n : Nat → Int32) : Int := (n 1).toInt
def nWa (n : Nat → Int32) : Int := (n 2).toInt
def OCC (b : Nat) (q : rf → Nat → Int32) (n : Nat → Int32) : Prop :=
  (∀ t : Nat, (t : Int) < nTh n → 0 ≤ tcl n t → occ b q (tcl n t).toNat = t) ∧
  (∀ w : Nat, (w : Int) < nWa n → occ b q (wcl n w).toNat = 100 + w) ∧
  (∀ c : Nat, c < 192 → occ b q c = -1 ∨ (0 ≤ occ b q c ∧ occ b q c < nTh n ∧ tcl n (occ b q c).toNat = c) ∨ (100 ≤ occ b q c ∧ occ b q c < 100 + nWa n ∧ wcl n (occ b q c - 100).toNat = c))
theorem in2 {v z : Int32} {M : mM} (h : RCH (fun x_ y_ => ST_X12_in_2 v M x_ y_) (0 : Int32) z) : 0 ≤ z.toInt ∧ ∀ t : Nat, (t : Int) < z.toInt → ¬ tcl (M.1 (50, 0, 0)) t = v.toInt := by
  have q0 := il_0
  exact RCH.ind (P := fun x : Int32 => 0 ≤ x.toInt ∧ ∀ t : Nat, (t : Int) < x.toInt → ¬ tcl (M.1 (50, 0, 0)) t = v.toInt) ⟨by omega, fun t ht => by omega⟩ (fun x z hp hst => by
    (try dsimp only at hp hst ⊢)
    refine xE_ST_X12_in_2 hst (fun p_hv0_2 p_z2_ p_e3_ p_h4_ p_h5_ p_r33_ p_hs37_ p_h36_ p_z38_ p_h39_ p_j42_ p_h43_ p_z40_ p_e41_ p_h44_ p_h45_ p_z46_ p_h47_ p_hq_v2_2y => ?_)
    refine ⟨by rw [p_hq_v2_2y]; omega, fun t ht => ?_⟩
    rw [p_hq_v2_2y] at ht
    by_cases e : (t : Int) = x.toInt
    · obtain rfl : p_j42_ = 21 + 4 * t := by omega
      unfold tcl
      rw [← p_e41_]; exact p_h45_
    · exact hp.2 t (by omega)) h
theorem in38 {v z : Int32} {M : mM} (h : RCH (fun x_ y_ => ST_X12_in_38 v M x_ y_) (0 : Int32) z) : 0 ≤ z.toInt ∧ ∀ w : Nat, (w : Int) < z.toInt → (¬ wcl (M.1 (50, 0, 0)) w = v.toInt ∨ (w : Int) = (M.1 (12, 0, 0) 7).toInt) := by
  have q0 := il_0
  exact RCH.ind (P := fun x : Int32 => 0 ≤ x.toInt ∧ ∀ w : Nat, (w : Int) < x.toInt → (¬ wcl (M.1 (50, 0, 0)) w = v.toInt ∨ (w : Int) = (M.1 (12, 0, 0) 7).toInt)) ⟨by omega, fun t ht => by omega⟩ (fun x z hp hst => by
    (try dsimp only at hp hst ⊢)
    refine xE_ST_X12_in_38 hst (fun p_hv0_38 p_z7_ p_e8_ p_h9_ p_h10_ p_r11_ p_hs15_ p_h14_ p_z16_ p_h17_ p_j20_ p_h21_ p_z18_ p_e19_ p_h22_ => ⟨(fun p_h23_ p_z24_ p_h25_ p_hq_v2_38y => ?_), (fun p_h23_ p_z26_ p_e27_ p_h28_ p_z29_ p_h30_ p_hq_v2_38y => ?_)⟩)
    · refine ⟨by rw [p_hq_v2_38y]; omega, fun t ht => ?_⟩
      rw [p_hq_v2_38y] at ht
      by_cases e : (t : Int) = x.toInt
      · obtain rfl : p_j20_ = 181 + 9 * t := by omega
        unfold wcl
        rw [← p_e19_]; exact Or.inl p_h23_
      · exact hp.2 t (by omega)
    · refine ⟨by rw [p_hq_v2_38y]; omega, fun t ht => ?_⟩
      rw [p_hq_v2_38y] at ht
      by_cases e : (t : Int) = x.toInt
      · right; rw [e, p_h28_, p_e27_]
      · exact hp.2 t (by omega)) h
/-- who is in a cell, by the model, where one walker isn't seen -/
theorem x12in {v : Int32} {M : mM} {r : Int32} {b : Nat} {q : rf → Nat → Int32} (h : SP_X12_in v M r) (hO : OCC b q (M.1 (50, 0, 0))) (hv : 0 ≤ v.toInt ∧ v.toInt ≤ 191) (hu : -1 ≤ (M.1 (12, 0, 0) 7).toInt) :
    r.toInt = if occ b q v.toInt.toNat = 100 + (M.1 (12, 0, 0) 7).toInt ∧ 100 ≤ occ b q v.toInt.toNat then -1 else occ b q v.toInt.toNat := by
  have qm := il_m1
  obtain ⟨o1, o2, o3⟩ := hO
  have o3 := o3 v.toInt.toNat (by omega)
  refine xE_SP_X12_in h (fun v2_2 hv0_2 hL_2 z2_ e3_ h4_ => ⟨(fun h5_ v2_38 hv0_38 hL_38 z7_ e8_ h9_ => ⟨(fun h10_ hr_ => ?_), (fun h10_ r11_ hs15_ h14_ z16_ h17_ j20_ h21_ z18_ e19_ h22_ h23_ z26_ e27_ h28_ z31_ h32_ hr_ => ?_)⟩), (fun h5_ r33_ hs37_ h36_ z38_ h39_ j42_ h43_ z40_ e41_ h44_ h45_ hr_ => ?_)⟩)
  · have a := in2 hL_2
    have c := in38 hL_38
    have y1 := eT e3_
    have y2 := eT e8_
    have yr := eT hr_
    unfold nTh nWa at o3
    rcases o3 with o3 | ⟨o3, o4, o5⟩ | ⟨o3, o4, o5⟩
    · rw [if_neg (by omega)]; omega
    · exact absurd o5 (by have := a.2 (occ b q v.toInt.toNat).toNat (by omega); omega)
    · have := c.2 (occ b q v.toInt.toNat - 100).toNat (by omega)
      rw [if_pos (by omega)]; omega
  · have y2 := eT e8_
    have y3 := eT e27_
    have yr := eT hr_
    have g := o2 v2_38.toInt.toNat (by unfold nWa; omega)
    have e : wcl (M.1 (50, 0, 0)) v2_38.toInt.toNat = v.toInt := by
      unfold wcl
      rw [show 181 + 9 * v2_38.toInt.toNat = j20_ by omega, ← e19_]; exact h23_
    rw [e] at g
    rw [if_neg (by omega)]; omega
  · have y1 := eT e3_
    have yr := eT hr_
    have e : tcl (M.1 (50, 0, 0)) v2_2.toInt.toNat = v.toInt := by
      unfold tcl
      rw [show 21 + 4 * v2_2.toInt.toNat = j42_ by omega, ← e41_]; exact h45_
    have g := o1 v2_2.toInt.toNat (by unfold nTh; omega) (by omega)
    rw [e] at g
    rw [if_neg (by omega)]; omega
theorem x12free {v : Int32} {M : mM} {r : Int32} {b : Nat} {q : rf → Nat → Int32} (h : SP_X12_isFree v M r) (hO : OCC b q (M.1 (50, 0, 0))) (hv : 0 ≤ v.toInt ∧ v.toInt ≤ 191) (hu : -1 ≤ (M.1 (12, 0, 0) 7).toInt) :
    (r.toInt = 1 ∧ (occ b q v.toInt.toNat = -1 ∨ (occ b q v.toInt.toNat = 100 + (M.1 (12, 0, 0) 7).toInt ∧ 100 ≤ occ b q v.toInt.toNat))) ∨ (r.toInt = 0 ∧ ¬ (occ b q v.toInt.toNat = -1 ∨ (occ b q v.toInt.toNat = 100 + (M.1 (12, 0, 0) 7).toInt ∧ 100 ≤ occ b q v.toInt.toNat))) := by
  have q0 := il_0
  have q1 := il_1
  have o3 := hO.2.2 v.toInt.toNat (by omega)
  refine xE_SP_X12_isFree h (fun r1_ hs5_ h4_ => ⟨(fun h6_ hr_ => ?_), (fun h6_ hr_ => ?_)⟩)
  all_goals
    have a := x12in hs5_ hO hv hu
    have yr := eT hr_
    split at a <;> omega
theorem x7free {b : Nat} {v : Int32} {M : mM} {r : Int32} (h : SP_X7_isFree b v M r) : (r.toInt = 1 ∧ (0 ≤ v.toInt ∧ v.toInt ≤ 191) ∧ occ b M.1 v.toInt.toNat = -1) ∨ (r.toInt = 0 ∧ ¬ ((0 ≤ v.toInt ∧ v.toInt ≤ 191) ∧ occ b M.1 v.toInt.toNat = -1)) := by
  have q0 := il_0
  have q1 := il_1
  unfold occ
  refine xE_SP_X7_isFree h ⟨(fun hs5_ h4_ j9_ h10_ z7_ e8_ => ⟨(fun h11_ hr_ => ?_), (fun h11_ hr_ => ?_)⟩), (fun hs5_ h4_ hr_ => ?_)⟩
  · obtain rfl : j9_ = v.toInt.toNat := by omega
    have := eT e8_; have := eT hr_; omega
  · obtain rfl : j9_ = v.toInt.toNat := by omega
    have := eT e8_; have := eT hr_; omega
  · have := eT hr_; omega
theorem x10but {b : Nat} {v u : Int32} {M : mM} {r : Int32} (h : SP_X10_isFreeBut b v u M r) (hv : 0 ≤ v.toInt ∧ v.toInt ≤ 7) : (r.toInt = 1 ∧ (0 ≤ u.toInt ∧ u.toInt ≤ 191) ∧ (occ b M.1 u.toInt.toNat = -1 ∨ occ b M.1 u.toInt.toNat = 100 + v.toInt)) ∨ (r.toInt = 0 ∧ ¬ ((0 ≤ u.toInt ∧ u.toInt ≤ 191) ∧ (occ b M.1 u.toInt.toNat = -1 ∨ occ b M.1 u.toInt.toNat = 100 + v.toInt))) := by
  have q0 := il_0
  have q1 := il_1
  have i100 : (100 : Int32).toInt = 100 := by decide
  unfold occ
  refine xE_SP_X10_isFreeBut h ⟨(fun h1_ hr_ => ?_), (fun h1_ => ⟨(fun h2_ j5_ h6_ z3_ e4_ => ⟨(fun h7_ hr_ => ?_), (fun h7_ z8_ h9_ => ⟨(fun h10_ hr_ => ?_), (fun h10_ hr_ => ?_)⟩)⟩), (fun h2_ hr_ => ?_)⟩)⟩
  · have := eT hr_; omega
  · obtain rfl : j5_ = u.toInt.toNat := by omega
    have := eT e4_; have := eT hr_; omega
  · obtain rfl : j5_ = u.toInt.toNat := by omega
    have a : z8_.toInt = 100 + v.toInt := by rw [h9_]; exact addI i100 rfl (by omega) (by omega)
    have := eT e4_; have := eT hr_; omega
  · obtain rfl : j5_ = u.toInt.toNat := by omega
    have a : z8_.toInt = 100 + v.toInt := by rw [h9_]; exact addI i100 rfl (by omega) (by omega)
    have := eT e4_; have := eT hr_; omega
  · have := eT hr_; omega
end
section
/-! what a text gives: codes of the model's row, a pile -/
def cmI (c : Int) : Int := if c = 2000 then 2060 else if c = 2001 then 2061 else if c = 2002 then 2062 else if c = 2003 then 2043 else if c = 2004 then 2045 else if c = 2005 then 2042 else if c = 2006 then 2047 else if c = 2007 then 2037 else if c = 2008 then 2126 else if c = 2009 then 2063 else c
def dnS (c : Int) (x y : Int32) : Int32 := if c = 2000 then (if x.toInt < y.toInt then 1 else 0) else if c = 2001 then (if x.toInt = y.toInt then 1 else 0) else if c = 2002 then (if y.toInt < x.toInt then 1 else 0) else if c = 2003 then x + y else if c = 2004 then x - y else if c = 2005 then x * y else if c = 2006 then (if y.toInt = 0 then 0 else x / y) else (if y.toInt = 0 then 0 else x - x / y * y)
def svS (v : Nat → Int32) (c : Int32) (p : Nat × (Nat → Int32)) : Nat × (Nat → Int32) :=
  if c.toInt < 2000 then (p.1 + 1, upd p.2 p.1 (if c.toInt < 1000 then c else v (c.toInt - 1000).toNat))
  else if c.toInt = 2008 then (p.1, upd p.2 (p.1 - 1) (-(p.2 (p.1 - 1))))
  else if c.toInt = 2009 then (p.1 - 2, upd p.2 (p.1 - 3) (if (p.2 (p.1 - 3)).toInt = 0 then p.2 (p.1 - 1) else p.2 (p.1 - 2)))
  else (p.1 - 1, upd p.2 (p.1 - 2) (dnS c.toInt (p.2 (p.1 - 2)) (p.2 (p.1 - 1))))
def evS (f : Nat → Int32) (a : Nat) (v : Nat → Int32) : Nat → Nat × (Nat → Int32)
  | 0 => (0, fun _ => 0)
  | n + 1 => svS v (f (a + n)) (evS f a v n)
theorem sv_push {v : Nat → Int32} {c : Int32} {p : Nat × (Nat → Int32)} (h : c.toInt < 2000) : svS v c p = (p.1 + 1, upd p.2 p.1 (if c.toInt < 1000 then c else v (c.toInt - 1000).toNat)) := if_pos h
theorem sv_neg {v : Nat → Int32} {c : Int32} {p : Nat × (Nat → Int32)} (h : c.toInt = 2008) : svS v c p = (p.1, upd p.2 (p.1 - 1) (-(p.2 (p.1 - 1)))) := by
  unfold svS
  rw [if_neg (by omega), if_pos h]
theorem sv_cho {v : Nat → Int32} {c : Int32} {p : Nat × (Nat → Int32)} (h : c.toInt = 2009) : svS v c p = (p.1 - 2, upd p.2 (p.1 - 3) (if (p.2 (p.1 - 3)).toInt = 0 then p.2 (p.1 - 1) else p.2 (p.1 - 2))) := by
  unfold svS
  rw [if_neg (by omega), if_neg (by omega), if_pos h]
theorem sv_bin {v : Nat → Int32} {c : Int32} {p : Nat × (Nat → Int32)} (h : 2000 ≤ c.toInt ∧ c.toInt < 2008) : svS v c p = (p.1 - 1, upd p.2 (p.1 - 2) (dnS c.toInt (p.2 (p.1 - 2)) (p.2 (p.1 - 1)))) := by
  unfold svS
  rw [if_neg (by omega), if_neg (by omega), if_neg (by omega)]
theorem dn_0 {c : Int} {x y : Int32} (h : c = 2000) : dnS c x y = (if x.toInt < y.toInt then 1 else 0) := if_pos h
theorem dn_1 {c : Int} {x y : Int32} (h : c = 2001) : dnS c x y = (if x.toInt = y.toInt then 1 else 0) := by
  unfold dnS
  rw [if_neg (by omega), if_pos h]
theorem dn_2 {c : Int} {x y : Int32} (h : c = 2002) : dnS c x y = (if y.toInt < x.toInt then 1 else 0) := by
  unfold dnS
  rw [if_neg (by omega), if_neg (by omega), if_pos h]
theorem dn_3 {c : Int} {x y : Int32} (h : c = 2003) : dnS c x y = x + y := by
  unfold dnS
  rw [if_neg (by omega), if_neg (by omega), if_neg (by omega), if_pos h]
theorem dn_4 {c : Int} {x y : Int32} (h : c = 2004) : dnS c x y = x - y := by
  unfold dnS
  rw [if_neg (by omega), if_neg (by omega), if_neg (by omega), if_neg (by omega), if_pos h]
theorem dn_5 {c : Int} {x y : Int32} (h : c = 2005) : dnS c x y = x * y := by
  unfold dnS
  rw [if_neg (by omega), if_neg (by omega), if_neg (by omega), if_neg (by omega), if_neg (by omega), if_pos h]
theorem dn_6 {c : Int} {x y : Int32} (h : c = 2006) : dnS c x y = (if y.toInt = 0 then 0 else x / y) := by
  unfold dnS
  rw [if_neg (by omega), if_neg (by omega), if_neg (by omega), if_neg (by omega), if_neg (by omega), if_neg (by omega), if_pos h]
theorem dn_7 {c : Int} {x y : Int32} (h : 2007 ≤ c ∨ c < 2000) : dnS c x y = (if y.toInt = 0 then 0 else x - x / y * y) := by
  unfold dnS
  rw [if_neg (by omega), if_neg (by omega), if_neg (by omega), if_neg (by omega), if_neg (by omega), if_neg (by omega), if_neg (by omega)]
/-- piles that are alike below the top -/
def AGs (p q : Nat × (Nat → Int32)) : Prop := p.1 = q.1 ∧ ∀ i, i < p.1 → p.2 i = q.2 i
theorem AGs_upd {p q : Nat × (Nat → Int32)} {k t : Nat} {x y : Int32} (h : AGs p q) (hk : t ≤ p.1 + 1 ∧ (t = p.1 + 1 → k = p.1)) (hx : x = y) : AGs (t, upd p.2 k x) (t, upd q.2 k y) := by
  refine ⟨rfl, fun i hi => ?_⟩
  replace hi : i < t := hi
  show upd p.2 k x i = upd q.2 k y i
  unfold upd
  by_cases e : i = k
  · rw [if_pos e, if_pos e]; exact hx
  · rw [if_neg e, if_neg e]; exact h.2 i (by omega)
def cOK (nn : Int) (c : Int32) : Prop := 0 ≤ c.toInt ∧ (c.toInt < 2000 → c.toInt < 1000 + nn)
theorem sv_ag {v v' : Nat → Int32} {nn : Nat} {c : Int32} {p q : Nat × (Nat → Int32)} (h : AGs p q) (hv : ∀ i, i < nn → v i = v' i) (hc : cOK nn c) (hd : c.toInt < 2000 ∨ (c.toInt = 2008 ∧ 1 ≤ p.1) ∨ (c.toInt = 2009 ∧ 3 ≤ p.1) ∨ (2000 ≤ c.toInt ∧ c.toInt < 2008 ∧ 2 ≤ p.1)) : AGs (svS v c p) (svS v' c q) := by
  unfold cOK at hc
  rcases hd with d | d | d | d
  · rw [sv_push d, sv_push d, ← h.1]
    refine AGs_upd h (by omega) ?_
    by_cases e : c.toInt < 1000
    · rw [if_pos e, if_pos e]
    · rw [if_neg e, if_neg e]; exact hv _ (by omega)
  · rw [sv_neg d.1, sv_neg d.1, ← h.1]
    exact AGs_upd h (by omega) (by rw [h.2 _ (by omega)])
  · rw [sv_cho d.1, sv_cho d.1, ← h.1]
    exact AGs_upd h (by omega) (by rw [h.2 _ (by omega), h.2 (p.1 - 1) (by omega), h.2 (p.1 - 2) (by omega)])
  · rw [sv_bin ⟨d.1, d.2.1⟩, sv_bin ⟨d.1, d.2.1⟩, ← h.1]
    exact AGs_upd h (by omega) (by rw [h.2 _ (by omega), h.2 (p.1 - 1) (by omega)])
theorem AGs.refl {p : Nat × (Nat → Int32)} : AGs p p := ⟨rfl, fun _ _ => rfl⟩
theorem dpt_sv {f : Nat → Int32} {a : Nat} {v : Nat → Int32} {m D : Nat} (h : dpt f a m = some D) : ∀ n : Nat, n ≤ m → dpt f a n = some (evS f a v n).1
  | 0, _ => rfl
  | n + 1, hn => by
    have ih := dpt_sv (v := v) h n (by omega)
    have nx := dpt_next ih (by omega) h
    show _ = some (svS v (f (a + n)) (evS f a v n)).1
    rcases nx with ⟨q1, q2, q3⟩ | ⟨q1, q2, q3⟩ | ⟨q1, q2, q3⟩ | ⟨q1, q2, q3, q4⟩
    · rw [q3, sv_push (by omega)]
    · rw [q3, sv_neg q1]
    · rw [q3, sv_cho q1]
    · rw [q4, sv_bin ⟨q1, q2⟩]
/-- one code, where the pile is no more than the spec's -/
theorem dpt_ok {f : Nat → Int32} {a : Nat} {v : Nat → Int32} {m D : Nat} (h : dpt f a m = some D) {n : Nat} (hn : n < m) : (0 ≤ (f (a + n)).toInt ∧ (f (a + n)).toInt < 1005) ∨ ((f (a + n)).toInt = 2008 ∧ 1 ≤ (evS f a v n).1) ∨ ((f (a + n)).toInt = 2009 ∧ 3 ≤ (evS f a v n).1) ∨ (2000 ≤ (f (a + n)).toInt ∧ (f (a + n)).toInt < 2008 ∧ 2 ≤ (evS f a v n).1) := by
  have nx := dpt_next (dpt_sv (v := v) h n (by omega)) hn h
  rcases nx with ⟨q1, q2, q3⟩ | ⟨q1, q2, q3⟩ | ⟨q1, q2, q3⟩ | ⟨q1, q2, q3, q4⟩
  · exact Or.inl ⟨q1, q2⟩
  · exact Or.inr (Or.inl ⟨q1, q2⟩)
  · exact Or.inr (Or.inr (Or.inl ⟨q1, q2⟩))
  · exact Or.inr (Or.inr (Or.inr ⟨q1, q2, q3⟩))
theorem dpt_pos {f : Nat → Int32} {a : Nat} {v : Nat → Int32} {m D : Nat} (h : dpt f a m = some D) : ∀ n : Nat, n < m → 1 ≤ (evS f a v (n + 1)).1
  | 0, hn => by
    have nx := dpt_ok (v := v) h hn
    show 1 ≤ (svS v (f (a + 0)) (evS f a v 0)).1
    have e0 : (evS f a v 0).1 = 0 := rfl
    rw [e0] at nx
    rw [sv_push (by omega)]; omega
  | n + 1, hn => by
    have ih := dpt_pos (v := v) h n (by omega)
    have nx := dpt_ok (v := v) h hn
    show 1 ≤ (svS v (f (a + (n + 1))) (evS f a v (n + 1))).1
    rcases nx with q | q | q | q
    · rw [sv_push (by omega)]; omega
    · rw [sv_neg q.1]; exact ih
    · rw [sv_cho q.1]; show 1 ≤ _ - 2; omega
    · rw [sv_bin ⟨q.1, q.2.1⟩]; show 1 ≤ _ - 1; omega
/-- what a text gives -/
def evR (n : Nat → Int32) (u : Nat) (v : Nat → Int32) : Int32 := (evS n (346 + 50 * u) v (n (345 + 50 * u)).toInt.toNat).2 0
theorem cm_lo {c : Int} (h : c < 1005) : cmI c = c := by
  unfold cmI
  rw [if_neg (by omega), if_neg (by omega), if_neg (by omega), if_neg (by omega), if_neg (by omega), if_neg (by omega), if_neg (by omega), if_neg (by omega), if_neg (by omega), if_neg (by omega)]
theorem wk_cm {z c : Int32} {t : Int} (h : z.toInt = cmI c.toInt) (hd : (0 ≤ c.toInt ∧ c.toInt < 1005 ∧ t < 48) ∨ (c.toInt = 2008 ∧ 1 ≤ t) ∨ (c.toInt = 2009 ∧ 3 ≤ t) ∨ (2000 ≤ c.toInt ∧ c.toInt < 2008 ∧ 2 ≤ t)) :
    (z.toInt = c.toInt ∧ 0 ≤ c.toInt ∧ c.toInt < 1005 ∧ t < 48) ∨ (z.toInt = 2126 ∧ c.toInt = 2008 ∧ 1 ≤ t) ∨ (z.toInt = 2063 ∧ c.toInt = 2009 ∧ 3 ≤ t) ∨ (2 ≤ t ∧ ((z.toInt = 2060 ∧ c.toInt = 2000) ∨ (z.toInt = 2061 ∧ c.toInt = 2001) ∨ (z.toInt = 2062 ∧ c.toInt = 2002) ∨ (z.toInt = 2043 ∧ c.toInt = 2003) ∨ (z.toInt = 2045 ∧ c.toInt = 2004) ∨ (z.toInt = 2042 ∧ c.toInt = 2005) ∨ (z.toInt = 2047 ∧ c.toInt = 2006) ∨ (z.toInt = 2037 ∧ c.toInt = 2007))) := by
  rcases hd with d | d | d | d
  · exact Or.inl ⟨h.trans (cm_lo d.2.1), d⟩
  · exact Or.inr (Or.inl ⟨h.trans (by rw [d.1]; decide), d⟩)
  · exact Or.inr (Or.inr (Or.inl ⟨h.trans (by rw [d.1]; decide), d⟩))
  · refine Or.inr (Or.inr (Or.inr ⟨d.2.2, ?_⟩))
    by_cases e0 : c.toInt = 2000
    · exact Or.inl ⟨h.trans (by rw [e0]; decide), e0⟩
    refine Or.inr ?_
    by_cases e1 : c.toInt = 2001
    · exact Or.inl ⟨h.trans (by rw [e1]; decide), e1⟩
    refine Or.inr ?_
    by_cases e2 : c.toInt = 2002
    · exact Or.inl ⟨h.trans (by rw [e2]; decide), e2⟩
    refine Or.inr ?_
    by_cases e3 : c.toInt = 2003
    · exact Or.inl ⟨h.trans (by rw [e3]; decide), e3⟩
    refine Or.inr ?_
    by_cases e4 : c.toInt = 2004
    · exact Or.inl ⟨h.trans (by rw [e4]; decide), e4⟩
    refine Or.inr ?_
    by_cases e5 : c.toInt = 2005
    · exact Or.inl ⟨h.trans (by rw [e5]; decide), e5⟩
    refine Or.inr ?_
    by_cases e6 : c.toInt = 2006
    · exact Or.inl ⟨h.trans (by rw [e6]; decide), e6⟩
    refine Or.inr ?_
    have e7 : c.toInt = 2007 := by omega
    exact ⟨h.trans (by rw [e7]; decide), e7⟩
def HKc (z c : Int32) (t : Int) : Prop := (z.toInt = c.toInt ∧ 0 ≤ c.toInt ∧ c.toInt < 1005 ∧ t < 48) ∨ (z.toInt = 2126 ∧ c.toInt = 2008 ∧ 1 ≤ t) ∨ (z.toInt = 2063 ∧ c.toInt = 2009 ∧ 3 ≤ t) ∨ (2 ≤ t ∧ ((z.toInt = 2060 ∧ c.toInt = 2000) ∨ (z.toInt = 2061 ∧ c.toInt = 2001) ∨ (z.toInt = 2062 ∧ c.toInt = 2002) ∨ (z.toInt = 2043 ∧ c.toInt = 2003) ∨ (z.toInt = 2045 ∧ c.toInt = 2004) ∨ (z.toInt = 2042 ∧ c.toInt = 2005) ∨ (z.toInt = 2047 ∧ c.toInt = 2006) ∨ (z.toInt = 2037 ∧ c.toInt = 2007)))
theorem HKc.low {z c : Int32} {t : Int} (h : HKc z c t) (l : z.toInt < 2000) : c.toInt < 2000 ∧ z.toInt = c.toInt ∧ 0 ≤ c.toInt ∧ c.toInt < 1005 ∧ t < 48 := by
  rcases h with h | h | h | ⟨h2, h | h | h | h | h | h | h | h⟩ <;> omega
theorem HKc.lowD {z c : Int32} {t : Int} (h : HKc z c t) (l : z.toInt < 2000) (g : 48 ≤ t) : False := by
  have := h.low l; omega
theorem HKc.neg {z c : Int32} {t : Int} (h : HKc z c t) (l : z.toInt = 2126) : c.toInt = 2008 ∧ 1 ≤ t := by
  rcases h with h | h | h | ⟨h2, h | h | h | h | h | h | h | h⟩ <;> omega
theorem HKc.negD {z c : Int32} {t : Int} (h : HKc z c t) (l : z.toInt = 2126) (g : t < 1) : False := by
  have := h.neg l; omega
theorem HKc.cho {z c : Int32} {t : Int} (h : HKc z c t) (l : z.toInt = 2063) : c.toInt = 2009 ∧ 3 ≤ t := by
  rcases h with h | h | h | ⟨h2, h | h | h | h | h | h | h | h⟩ <;> omega
theorem HKc.choD {z c : Int32} {t : Int} (h : HKc z c t) (l : z.toInt = 2063) (g : t < 3) : False := by
  have := h.cho l; omega
theorem HKc.two {z c : Int32} {t : Int} (h : HKc z c t) (l : 2000 ≤ z.toInt) (n1 : ¬ z.toInt = 2126) (n2 : ¬ z.toInt = 2063) (g : t < 2) : False := by
  rcases h with h | h | h | ⟨h2, h | h | h | h | h | h | h | h⟩ <;> omega
theorem HKc.op {z c x : Int32} {t k m : Int} (h : HKc z c t) (e : x.toInt = z.toInt - 2000) (f : x.toInt = k) (g : (k = 60 ∧ m = 2000) ∨ (k = 61 ∧ m = 2001) ∨ (k = 62 ∧ m = 2002) ∨ (k = 43 ∧ m = 2003) ∨ (k = 45 ∧ m = 2004) ∨ (k = 42 ∧ m = 2005) ∨ (k = 47 ∧ m = 2006)) : c.toInt = m ∧ 2 ≤ t := by
  rcases h with h | h | h | ⟨h2, h | h | h | h | h | h | h | h⟩ <;> rcases g with g | g | g | g | g | g | g <;> omega
theorem HKc.dead {z c x : Int32} {t k : Int} (h : HKc z c t) (e : x.toInt = z.toInt - 2000) (f : x.toInt = k) (g : 0 ≤ k ∧ k ≠ 60 ∧ k ≠ 61 ∧ k ≠ 62 ∧ k ≠ 43 ∧ k ≠ 45 ∧ k ≠ 42 ∧ k ≠ 47 ∧ k ≠ 37 ∧ k ≠ 126 ∧ k ≠ 63) : False := by
  obtain ⟨g0, g1, g2, g3, g4, g5, g6, g7, g8, g9, g10⟩ := g
  rcases h with h | h | h | ⟨h2, h | h | h | h | h | h | h | h⟩
  · omega
  · exact g9 (by omega)
  · exact g10 (by omega)
  · exact g1 (by omega)
  · exact g2 (by omega)
  · exact g3 (by omega)
  · exact g4 (by omega)
  · exact g5 (by omega)
  · exact g6 (by omega)
  · exact g7 (by omega)
  · exact g8 (by omega)
theorem HKc.dflt {z c x : Int32} {t : Int} (h : HKc z c t) (l : 2000 ≤ z.toInt) (n1 : ¬ z.toInt = 2126) (n2 : ¬ z.toInt = 2063) (e : x.toInt = z.toInt - 2000) (g1 : ¬ x.toInt = 60) (g2 : ¬ x.toInt = 61) (g3 : ¬ x.toInt = 62) (g4 : ¬ x.toInt = 43) (g5 : ¬ x.toInt = 45) (g6 : ¬ x.toInt = 42) (g7 : ¬ x.toInt = 47) : c.toInt = 2007 ∧ 2 ≤ t := by
  rcases h with h | h | h | ⟨h2, h | h | h | h | h | h | h | h⟩
  · exfalso; omega
  · exact absurd h.1 n1
  · exact absurd h.1 n2
  · exact absurd (show x.toInt = 60 by omega) g1
  · exact absurd (show x.toInt = 61 by omega) g2
  · exact absurd (show x.toInt = 62 by omega) g3
  · exact absurd (show x.toInt = 43 by omega) g4
  · exact absurd (show x.toInt = 45 by omega) g5
  · exact absurd (show x.toInt = 42 by omega) g6
  · exact absurd (show x.toInt = 47 by omega) g7
  · exact ⟨h.2, h2⟩
def wkG (b w b2 : Nat) (c : Int32) (i t : Int32) (M : mM) (i' t' : Int32) (M' : mM) : Prop := i'.toInt = i.toInt + 1 ∧ t'.toInt = ((svS (fun j => M.1 (29, b2, 0) j) c (t.toInt.toNat, M.1 (25, b, w))).1 : Int) ∧ M'.1 (25, b, w) = (svS (fun j => M.1 (29, b2, 0) j) c (t.toInt.toNat, M.1 (25, b, w))).2
theorem jn_ {j : Nat} {x : Int} (h : (j : Int) = x) : j = x.toNat := by omega
theorem hk_at {b w j : Nat} {M : mM} {z c i : Int32} {t : Int} (hk : HKc (M.1 (24, b, w) i.toInt.toNat) c t) (h : (j : Int) = i.toInt) (e : z = M.1 (24, b, w) j) : HKc z c t := by
  obtain rfl := jn_ h
  rw [e]; exact hk
theorem ex_e {α : Sort _} {p : α → Prop} {C : Prop} (h : ∃ x, p x) (f : ∀ x, p x → C) : C := h.elim f
theorem an_e {a b C : Prop} (h : a ∧ b) (f : a → b → C) : C := f h.1 h.2
theorem or_e {a b C : Prop} (h : a ∨ b) (f : a → C) (g : b → C) : C := h.elim f g
theorem wk_p1 {b w b2 : Nat} {v3_4 v2_4 v3_4y v2_4y c : Int32} {M_4 M_4y : mM} {j14_ : Nat} {z12_ : Int32} {z16_ : Int32} {z24_ : Int32} {z26_ : Int32} {j30_ : Nat} {z28_ : Int32} {j34_ : Nat} {z32_ : Int32} {z39_ : Int32} {z41_ : Int32} {j45_ : Nat} {M43_ : mM} {z49_ : Int32} (ec : c.toInt = 2005 ∧ 2 ≤ v2_4.toInt) (hv0_4 : 0 ≤ v3_4.toInt) (hv1_4 : 0 ≤ v2_4.toInt) (hv2_4 : v2_4.toInt ≤ 48) (h15_ : (j14_ : Int) = v3_4.toInt) (e13_ : z12_ = M_4.1 (24, b, w) j14_) (h17_ : z16_ = z12_ - (1000 : Int32)) (h18_ : 2000 ≤ z12_.toInt) (h21_ : 2 ≤ v2_4.toInt) (h25_ : z24_.toInt = v2_4.toInt + (-1)) (h27_ : z26_.toInt = z24_.toInt - 1) (h31_ : (j30_ : Int) = z26_.toInt) (e29_ : z28_ = M_4.1 (25, b, w) j30_) (h35_ : (j34_ : Int) = z24_.toInt) (e33_ : z32_ = M_4.1 (25, b, w) j34_) (h40_ : z39_ = z28_ * z32_) (h42_ : z41_.toInt = z24_.toInt - 1) (h46_ : (j45_ : Int) = z41_.toInt) (hM44_ : M43_ = up M_4 (25, b, w) j45_ z39_) (h50_ : z49_.toInt = v3_4.toInt + 1) (hq_v3_4y : v3_4y = z49_) (hq_v2_4y : v2_4y = z24_) (hM_ : M_4y = M43_) : wkG b w b2 c v3_4 v2_4 M_4 v3_4y v2_4y M_4y := by
  have i1000 : (1000 : Int32).toInt = 1000 := by decide
  have i0 := il_0
  unfold wkG
  obtain ⟨ec, ek⟩ := ec
  obtain rfl : j45_ = v2_4.toInt.toNat - 2 := by omega
  obtain rfl : j30_ = v2_4.toInt.toNat - 2 := by omega
  obtain rfl : j34_ = v2_4.toInt.toNat - 1 := by omega
  rw [sv_bin (by omega)]
  refine ⟨by rw [hq_v3_4y]; omega, by rw [hq_v2_4y]; show _ = ((v2_4.toInt.toNat - 1 : Nat) : Int); omega, ?_⟩
  rw [hM_, hM44_, up_row, dn_5 (by omega)]
  show upd _ _ _ = upd _ _ _
  (try dsimp only)
  subst e29_ e33_
  rw [h40_]
theorem wk_p2 {b w b2 : Nat} {v3_4 v2_4 v3_4y v2_4y c : Int32} {M_4 M_4y : mM} {j14_ : Nat} {z12_ : Int32} {z16_ : Int32} {z24_ : Int32} {z26_ : Int32} {j30_ : Nat} {z28_ : Int32} {j34_ : Nat} {z32_ : Int32} {z51_ : Int32} {z53_ : Int32} {j57_ : Nat} {M55_ : mM} {z61_ : Int32} (ec : c.toInt = 2003 ∧ 2 ≤ v2_4.toInt) (hv0_4 : 0 ≤ v3_4.toInt) (hv1_4 : 0 ≤ v2_4.toInt) (hv2_4 : v2_4.toInt ≤ 48) (h15_ : (j14_ : Int) = v3_4.toInt) (e13_ : z12_ = M_4.1 (24, b, w) j14_) (h17_ : z16_ = z12_ - (1000 : Int32)) (h18_ : 2000 ≤ z12_.toInt) (h21_ : 2 ≤ v2_4.toInt) (h25_ : z24_.toInt = v2_4.toInt + (-1)) (h27_ : z26_.toInt = z24_.toInt - 1) (h31_ : (j30_ : Int) = z26_.toInt) (e29_ : z28_ = M_4.1 (25, b, w) j30_) (h35_ : (j34_ : Int) = z24_.toInt) (e33_ : z32_ = M_4.1 (25, b, w) j34_) (h52_ : z51_ = z28_ + z32_) (h54_ : z53_.toInt = z24_.toInt - 1) (h58_ : (j57_ : Int) = z53_.toInt) (hM56_ : M55_ = up M_4 (25, b, w) j57_ z51_) (h62_ : z61_.toInt = v3_4.toInt + 1) (hq_v3_4y : v3_4y = z61_) (hq_v2_4y : v2_4y = z24_) (hM_ : M_4y = M55_) : wkG b w b2 c v3_4 v2_4 M_4 v3_4y v2_4y M_4y := by
  have i1000 : (1000 : Int32).toInt = 1000 := by decide
  have i0 := il_0
  unfold wkG
  obtain ⟨ec, ek⟩ := ec
  obtain rfl : j57_ = v2_4.toInt.toNat - 2 := by omega
  obtain rfl : j30_ = v2_4.toInt.toNat - 2 := by omega
  obtain rfl : j34_ = v2_4.toInt.toNat - 1 := by omega
  rw [sv_bin (by omega)]
  refine ⟨by rw [hq_v3_4y]; omega, by rw [hq_v2_4y]; show _ = ((v2_4.toInt.toNat - 1 : Nat) : Int); omega, ?_⟩
  rw [hM_, hM56_, up_row, dn_3 (by omega)]
  show upd _ _ _ = upd _ _ _
  (try dsimp only)
  subst e29_ e33_
  rw [h52_]
theorem wk_p5 {b w b2 : Nat} {v3_4 v2_4 v3_4y v2_4y c : Int32} {M_4 M_4y : mM} {j14_ : Nat} {z12_ : Int32} {z16_ : Int32} {z24_ : Int32} {z26_ : Int32} {j30_ : Nat} {z28_ : Int32} {j34_ : Nat} {z32_ : Int32} {z86_ : Int32} {z88_ : Int32} {j92_ : Nat} {M90_ : mM} {z96_ : Int32} (ec : c.toInt = 2004 ∧ 2 ≤ v2_4.toInt) (hv0_4 : 0 ≤ v3_4.toInt) (hv1_4 : 0 ≤ v2_4.toInt) (hv2_4 : v2_4.toInt ≤ 48) (h15_ : (j14_ : Int) = v3_4.toInt) (e13_ : z12_ = M_4.1 (24, b, w) j14_) (h17_ : z16_ = z12_ - (1000 : Int32)) (h18_ : 2000 ≤ z12_.toInt) (h21_ : 2 ≤ v2_4.toInt) (h25_ : z24_.toInt = v2_4.toInt + (-1)) (h27_ : z26_.toInt = z24_.toInt - 1) (h31_ : (j30_ : Int) = z26_.toInt) (e29_ : z28_ = M_4.1 (25, b, w) j30_) (h35_ : (j34_ : Int) = z24_.toInt) (e33_ : z32_ = M_4.1 (25, b, w) j34_) (h87_ : z86_ = z28_ - z32_) (h89_ : z88_.toInt = z24_.toInt - 1) (h93_ : (j92_ : Int) = z88_.toInt) (hM91_ : M90_ = up M_4 (25, b, w) j92_ z86_) (h97_ : z96_.toInt = v3_4.toInt + 1) (hq_v3_4y : v3_4y = z96_) (hq_v2_4y : v2_4y = z24_) (hM_ : M_4y = M90_) : wkG b w b2 c v3_4 v2_4 M_4 v3_4y v2_4y M_4y := by
  have i1000 : (1000 : Int32).toInt = 1000 := by decide
  have i0 := il_0
  unfold wkG
  obtain ⟨ec, ek⟩ := ec
  obtain rfl : j92_ = v2_4.toInt.toNat - 2 := by omega
  obtain rfl : j30_ = v2_4.toInt.toNat - 2 := by omega
  obtain rfl : j34_ = v2_4.toInt.toNat - 1 := by omega
  rw [sv_bin (by omega)]
  refine ⟨by rw [hq_v3_4y]; omega, by rw [hq_v2_4y]; show _ = ((v2_4.toInt.toNat - 1 : Nat) : Int); omega, ?_⟩
  rw [hM_, hM91_, up_row, dn_4 (by omega)]
  show upd _ _ _ = upd _ _ _
  (try dsimp only)
  subst e29_ e33_
  rw [h87_]
theorem wk_p8 {b w b2 : Nat} {v3_4 v2_4 v3_4y v2_4y c : Int32} {M_4 M_4y : mM} {j14_ : Nat} {z12_ : Int32} {z16_ : Int32} {z24_ : Int32} {z26_ : Int32} {j30_ : Nat} {z28_ : Int32} {j34_ : Nat} {z32_ : Int32} {z122_ : Int32} {z124_ : Int32} {j128_ : Nat} {M126_ : mM} {z132_ : Int32} (ec : c.toInt = 2006 ∧ 2 ≤ v2_4.toInt) (hv0_4 : 0 ≤ v3_4.toInt) (hv1_4 : 0 ≤ v2_4.toInt) (hv2_4 : v2_4.toInt ≤ 48) (h15_ : (j14_ : Int) = v3_4.toInt) (e13_ : z12_ = M_4.1 (24, b, w) j14_) (h17_ : z16_ = z12_ - (1000 : Int32)) (h18_ : 2000 ≤ z12_.toInt) (h21_ : 2 ≤ v2_4.toInt) (h25_ : z24_.toInt = v2_4.toInt + (-1)) (h27_ : z26_.toInt = z24_.toInt - 1) (h31_ : (j30_ : Int) = z26_.toInt) (e29_ : z28_ = M_4.1 (25, b, w) j30_) (h35_ : (j34_ : Int) = z24_.toInt) (e33_ : z32_ = M_4.1 (25, b, w) j34_) (h121_ : ¬ z32_.toInt = 0) (h123_ : z122_ = z28_ / z32_) (h125_ : z124_.toInt = z24_.toInt - 1) (h129_ : (j128_ : Int) = z124_.toInt) (hM127_ : M126_ = up M_4 (25, b, w) j128_ z122_) (h133_ : z132_.toInt = v3_4.toInt + 1) (hq_v3_4y : v3_4y = z132_) (hq_v2_4y : v2_4y = z24_) (hM_ : M_4y = M126_) : wkG b w b2 c v3_4 v2_4 M_4 v3_4y v2_4y M_4y := by
  have i1000 : (1000 : Int32).toInt = 1000 := by decide
  have i0 := il_0
  unfold wkG
  obtain ⟨ec, ek⟩ := ec
  obtain rfl : j128_ = v2_4.toInt.toNat - 2 := by omega
  obtain rfl : j30_ = v2_4.toInt.toNat - 2 := by omega
  obtain rfl : j34_ = v2_4.toInt.toNat - 1 := by omega
  rw [sv_bin (by omega)]
  refine ⟨by rw [hq_v3_4y]; omega, by rw [hq_v2_4y]; show _ = ((v2_4.toInt.toNat - 1 : Nat) : Int); omega, ?_⟩
  rw [hM_, hM127_, up_row, dn_6 (by omega)]
  show upd _ _ _ = upd _ _ _
  (try dsimp only)
  subst e29_ e33_
  rw [if_neg h121_, h123_]
theorem wk_p9 {b w b2 : Nat} {v3_4 v2_4 v3_4y v2_4y c : Int32} {M_4 M_4y : mM} {j14_ : Nat} {z12_ : Int32} {z16_ : Int32} {z24_ : Int32} {z26_ : Int32} {j30_ : Nat} {z28_ : Int32} {j34_ : Nat} {z32_ : Int32} {z134_ : Int32} {j138_ : Nat} {M136_ : mM} {z142_ : Int32} (ec : c.toInt = 2006 ∧ 2 ≤ v2_4.toInt) (hv0_4 : 0 ≤ v3_4.toInt) (hv1_4 : 0 ≤ v2_4.toInt) (hv2_4 : v2_4.toInt ≤ 48) (h15_ : (j14_ : Int) = v3_4.toInt) (e13_ : z12_ = M_4.1 (24, b, w) j14_) (h17_ : z16_ = z12_ - (1000 : Int32)) (h18_ : 2000 ≤ z12_.toInt) (h21_ : 2 ≤ v2_4.toInt) (h25_ : z24_.toInt = v2_4.toInt + (-1)) (h27_ : z26_.toInt = z24_.toInt - 1) (h31_ : (j30_ : Int) = z26_.toInt) (e29_ : z28_ = M_4.1 (25, b, w) j30_) (h35_ : (j34_ : Int) = z24_.toInt) (e33_ : z32_ = M_4.1 (25, b, w) j34_) (h121_ : z32_.toInt = 0) (h135_ : z134_.toInt = z24_.toInt - 1) (h139_ : (j138_ : Int) = z134_.toInt) (hM137_ : M136_ = up M_4 (25, b, w) j138_ 0) (h143_ : z142_.toInt = v3_4.toInt + 1) (hq_v3_4y : v3_4y = z142_) (hq_v2_4y : v2_4y = z24_) (hM_ : M_4y = M136_) : wkG b w b2 c v3_4 v2_4 M_4 v3_4y v2_4y M_4y := by
  have i1000 : (1000 : Int32).toInt = 1000 := by decide
  have i0 := il_0
  unfold wkG
  obtain ⟨ec, ek⟩ := ec
  obtain rfl : j138_ = v2_4.toInt.toNat - 2 := by omega
  obtain rfl : j30_ = v2_4.toInt.toNat - 2 := by omega
  obtain rfl : j34_ = v2_4.toInt.toNat - 1 := by omega
  rw [sv_bin (by omega)]
  refine ⟨by rw [hq_v3_4y]; omega, by rw [hq_v2_4y]; show _ = ((v2_4.toInt.toNat - 1 : Nat) : Int); omega, ?_⟩
  rw [hM_, hM137_, up_row, dn_6 (by omega)]
  show upd _ _ _ = upd _ _ _
  (try dsimp only)
  subst e29_ e33_
  rw [if_pos h121_]
theorem wk_p34 {b w b2 : Nat} {v3_4 v2_4 v3_4y v2_4y c : Int32} {M_4 M_4y : mM} {j14_ : Nat} {z12_ : Int32} {z16_ : Int32} {z24_ : Int32} {z26_ : Int32} {j30_ : Nat} {z28_ : Int32} {j34_ : Nat} {z32_ : Int32} {z421_ : Int32} {j425_ : Nat} {M423_ : mM} {z429_ : Int32} (ec : c.toInt = 2000 ∧ 2 ≤ v2_4.toInt) (hv0_4 : 0 ≤ v3_4.toInt) (hv1_4 : 0 ≤ v2_4.toInt) (hv2_4 : v2_4.toInt ≤ 48) (h15_ : (j14_ : Int) = v3_4.toInt) (e13_ : z12_ = M_4.1 (24, b, w) j14_) (h17_ : z16_ = z12_ - (1000 : Int32)) (h18_ : 2000 ≤ z12_.toInt) (h21_ : 2 ≤ v2_4.toInt) (h25_ : z24_.toInt = v2_4.toInt + (-1)) (h27_ : z26_.toInt = z24_.toInt - 1) (h31_ : (j30_ : Int) = z26_.toInt) (e29_ : z28_ = M_4.1 (25, b, w) j30_) (h35_ : (j34_ : Int) = z24_.toInt) (e33_ : z32_ = M_4.1 (25, b, w) j34_) (h420_ : z32_.toInt ≤ z28_.toInt) (h422_ : z421_.toInt = z24_.toInt - 1) (h426_ : (j425_ : Int) = z421_.toInt) (hM424_ : M423_ = up M_4 (25, b, w) j425_ 0) (h430_ : z429_.toInt = v3_4.toInt + 1) (hq_v3_4y : v3_4y = z429_) (hq_v2_4y : v2_4y = z24_) (hM_ : M_4y = M423_) : wkG b w b2 c v3_4 v2_4 M_4 v3_4y v2_4y M_4y := by
  have i1000 : (1000 : Int32).toInt = 1000 := by decide
  have i0 := il_0
  unfold wkG
  obtain ⟨ec, ek⟩ := ec
  obtain rfl : j425_ = v2_4.toInt.toNat - 2 := by omega
  obtain rfl : j30_ = v2_4.toInt.toNat - 2 := by omega
  obtain rfl : j34_ = v2_4.toInt.toNat - 1 := by omega
  rw [sv_bin (by omega)]
  refine ⟨by rw [hq_v3_4y]; omega, by rw [hq_v2_4y]; show _ = ((v2_4.toInt.toNat - 1 : Nat) : Int); omega, ?_⟩
  rw [hM_, hM424_, up_row, dn_0 (by omega)]
  show upd _ _ _ = upd _ _ _
  (try dsimp only)
  subst e29_ e33_
  first | rw [if_pos (by omega)] | rw [if_neg (by omega)]
theorem wk_p35 {b w b2 : Nat} {v3_4 v2_4 v3_4y v2_4y c : Int32} {M_4 M_4y : mM} {j14_ : Nat} {z12_ : Int32} {z16_ : Int32} {z24_ : Int32} {z26_ : Int32} {j30_ : Nat} {z28_ : Int32} {j34_ : Nat} {z32_ : Int32} {z431_ : Int32} {j435_ : Nat} {M433_ : mM} {z439_ : Int32} (ec : c.toInt = 2000 ∧ 2 ≤ v2_4.toInt) (hv0_4 : 0 ≤ v3_4.toInt) (hv1_4 : 0 ≤ v2_4.toInt) (hv2_4 : v2_4.toInt ≤ 48) (h15_ : (j14_ : Int) = v3_4.toInt) (e13_ : z12_ = M_4.1 (24, b, w) j14_) (h17_ : z16_ = z12_ - (1000 : Int32)) (h18_ : 2000 ≤ z12_.toInt) (h21_ : 2 ≤ v2_4.toInt) (h25_ : z24_.toInt = v2_4.toInt + (-1)) (h27_ : z26_.toInt = z24_.toInt - 1) (h31_ : (j30_ : Int) = z26_.toInt) (e29_ : z28_ = M_4.1 (25, b, w) j30_) (h35_ : (j34_ : Int) = z24_.toInt) (e33_ : z32_ = M_4.1 (25, b, w) j34_) (h420_ : z28_.toInt < z32_.toInt) (h432_ : z431_.toInt = z24_.toInt - 1) (h436_ : (j435_ : Int) = z431_.toInt) (hM434_ : M433_ = up M_4 (25, b, w) j435_ 1) (h440_ : z439_.toInt = v3_4.toInt + 1) (hq_v3_4y : v3_4y = z439_) (hq_v2_4y : v2_4y = z24_) (hM_ : M_4y = M433_) : wkG b w b2 c v3_4 v2_4 M_4 v3_4y v2_4y M_4y := by
  have i1000 : (1000 : Int32).toInt = 1000 := by decide
  have i0 := il_0
  unfold wkG
  obtain ⟨ec, ek⟩ := ec
  obtain rfl : j435_ = v2_4.toInt.toNat - 2 := by omega
  obtain rfl : j30_ = v2_4.toInt.toNat - 2 := by omega
  obtain rfl : j34_ = v2_4.toInt.toNat - 1 := by omega
  rw [sv_bin (by omega)]
  refine ⟨by rw [hq_v3_4y]; omega, by rw [hq_v2_4y]; show _ = ((v2_4.toInt.toNat - 1 : Nat) : Int); omega, ?_⟩
  rw [hM_, hM434_, up_row, dn_0 (by omega)]
  show upd _ _ _ = upd _ _ _
  (try dsimp only)
  subst e29_ e33_
  first | rw [if_pos (by omega)] | rw [if_neg (by omega)]
theorem wk_p36 {b w b2 : Nat} {v3_4 v2_4 v3_4y v2_4y c : Int32} {M_4 M_4y : mM} {j14_ : Nat} {z12_ : Int32} {z16_ : Int32} {z24_ : Int32} {z26_ : Int32} {j30_ : Nat} {z28_ : Int32} {j34_ : Nat} {z32_ : Int32} {z442_ : Int32} {j446_ : Nat} {M444_ : mM} {z450_ : Int32} (ec : c.toInt = 2001 ∧ 2 ≤ v2_4.toInt) (hv0_4 : 0 ≤ v3_4.toInt) (hv1_4 : 0 ≤ v2_4.toInt) (hv2_4 : v2_4.toInt ≤ 48) (h15_ : (j14_ : Int) = v3_4.toInt) (e13_ : z12_ = M_4.1 (24, b, w) j14_) (h17_ : z16_ = z12_ - (1000 : Int32)) (h18_ : 2000 ≤ z12_.toInt) (h21_ : 2 ≤ v2_4.toInt) (h25_ : z24_.toInt = v2_4.toInt + (-1)) (h27_ : z26_.toInt = z24_.toInt - 1) (h31_ : (j30_ : Int) = z26_.toInt) (e29_ : z28_ = M_4.1 (25, b, w) j30_) (h35_ : (j34_ : Int) = z24_.toInt) (e33_ : z32_ = M_4.1 (25, b, w) j34_) (h441_ : ¬ z28_.toInt = z32_.toInt) (h443_ : z442_.toInt = z24_.toInt - 1) (h447_ : (j446_ : Int) = z442_.toInt) (hM445_ : M444_ = up M_4 (25, b, w) j446_ 0) (h451_ : z450_.toInt = v3_4.toInt + 1) (hq_v3_4y : v3_4y = z450_) (hq_v2_4y : v2_4y = z24_) (hM_ : M_4y = M444_) : wkG b w b2 c v3_4 v2_4 M_4 v3_4y v2_4y M_4y := by
  have i1000 : (1000 : Int32).toInt = 1000 := by decide
  have i0 := il_0
  unfold wkG
  obtain ⟨ec, ek⟩ := ec
  obtain rfl : j446_ = v2_4.toInt.toNat - 2 := by omega
  obtain rfl : j30_ = v2_4.toInt.toNat - 2 := by omega
  obtain rfl : j34_ = v2_4.toInt.toNat - 1 := by omega
  rw [sv_bin (by omega)]
  refine ⟨by rw [hq_v3_4y]; omega, by rw [hq_v2_4y]; show _ = ((v2_4.toInt.toNat - 1 : Nat) : Int); omega, ?_⟩
  rw [hM_, hM445_, up_row, dn_1 (by omega)]
  show upd _ _ _ = upd _ _ _
  (try dsimp only)
  subst e29_ e33_
  first | rw [if_pos (by omega)] | rw [if_neg (by omega)]
theorem wk_p37 {b w b2 : Nat} {v3_4 v2_4 v3_4y v2_4y c : Int32} {M_4 M_4y : mM} {j14_ : Nat} {z12_ : Int32} {z16_ : Int32} {z24_ : Int32} {z26_ : Int32} {j30_ : Nat} {z28_ : Int32} {j34_ : Nat} {z32_ : Int32} {z452_ : Int32} {j456_ : Nat} {M454_ : mM} {z460_ : Int32} (ec : c.toInt = 2001 ∧ 2 ≤ v2_4.toInt) (hv0_4 : 0 ≤ v3_4.toInt) (hv1_4 : 0 ≤ v2_4.toInt) (hv2_4 : v2_4.toInt ≤ 48) (h15_ : (j14_ : Int) = v3_4.toInt) (e13_ : z12_ = M_4.1 (24, b, w) j14_) (h17_ : z16_ = z12_ - (1000 : Int32)) (h18_ : 2000 ≤ z12_.toInt) (h21_ : 2 ≤ v2_4.toInt) (h25_ : z24_.toInt = v2_4.toInt + (-1)) (h27_ : z26_.toInt = z24_.toInt - 1) (h31_ : (j30_ : Int) = z26_.toInt) (e29_ : z28_ = M_4.1 (25, b, w) j30_) (h35_ : (j34_ : Int) = z24_.toInt) (e33_ : z32_ = M_4.1 (25, b, w) j34_) (h441_ : z28_.toInt = z32_.toInt) (h453_ : z452_.toInt = z24_.toInt - 1) (h457_ : (j456_ : Int) = z452_.toInt) (hM455_ : M454_ = up M_4 (25, b, w) j456_ 1) (h461_ : z460_.toInt = v3_4.toInt + 1) (hq_v3_4y : v3_4y = z460_) (hq_v2_4y : v2_4y = z24_) (hM_ : M_4y = M454_) : wkG b w b2 c v3_4 v2_4 M_4 v3_4y v2_4y M_4y := by
  have i1000 : (1000 : Int32).toInt = 1000 := by decide
  have i0 := il_0
  unfold wkG
  obtain ⟨ec, ek⟩ := ec
  obtain rfl : j456_ = v2_4.toInt.toNat - 2 := by omega
  obtain rfl : j30_ = v2_4.toInt.toNat - 2 := by omega
  obtain rfl : j34_ = v2_4.toInt.toNat - 1 := by omega
  rw [sv_bin (by omega)]
  refine ⟨by rw [hq_v3_4y]; omega, by rw [hq_v2_4y]; show _ = ((v2_4.toInt.toNat - 1 : Nat) : Int); omega, ?_⟩
  rw [hM_, hM455_, up_row, dn_1 (by omega)]
  show upd _ _ _ = upd _ _ _
  (try dsimp only)
  subst e29_ e33_
  first | rw [if_pos (by omega)] | rw [if_neg (by omega)]
theorem wk_p38 {b w b2 : Nat} {v3_4 v2_4 v3_4y v2_4y c : Int32} {M_4 M_4y : mM} {j14_ : Nat} {z12_ : Int32} {z16_ : Int32} {z24_ : Int32} {z26_ : Int32} {j30_ : Nat} {z28_ : Int32} {j34_ : Nat} {z32_ : Int32} {z463_ : Int32} {j467_ : Nat} {M465_ : mM} {z471_ : Int32} (ec : c.toInt = 2002 ∧ 2 ≤ v2_4.toInt) (hv0_4 : 0 ≤ v3_4.toInt) (hv1_4 : 0 ≤ v2_4.toInt) (hv2_4 : v2_4.toInt ≤ 48) (h15_ : (j14_ : Int) = v3_4.toInt) (e13_ : z12_ = M_4.1 (24, b, w) j14_) (h17_ : z16_ = z12_ - (1000 : Int32)) (h18_ : 2000 ≤ z12_.toInt) (h21_ : 2 ≤ v2_4.toInt) (h25_ : z24_.toInt = v2_4.toInt + (-1)) (h27_ : z26_.toInt = z24_.toInt - 1) (h31_ : (j30_ : Int) = z26_.toInt) (e29_ : z28_ = M_4.1 (25, b, w) j30_) (h35_ : (j34_ : Int) = z24_.toInt) (e33_ : z32_ = M_4.1 (25, b, w) j34_) (h462_ : z28_.toInt ≤ z32_.toInt) (h464_ : z463_.toInt = z24_.toInt - 1) (h468_ : (j467_ : Int) = z463_.toInt) (hM466_ : M465_ = up M_4 (25, b, w) j467_ 0) (h472_ : z471_.toInt = v3_4.toInt + 1) (hq_v3_4y : v3_4y = z471_) (hq_v2_4y : v2_4y = z24_) (hM_ : M_4y = M465_) : wkG b w b2 c v3_4 v2_4 M_4 v3_4y v2_4y M_4y := by
  have i1000 : (1000 : Int32).toInt = 1000 := by decide
  have i0 := il_0
  unfold wkG
  obtain ⟨ec, ek⟩ := ec
  obtain rfl : j467_ = v2_4.toInt.toNat - 2 := by omega
  obtain rfl : j30_ = v2_4.toInt.toNat - 2 := by omega
  obtain rfl : j34_ = v2_4.toInt.toNat - 1 := by omega
  rw [sv_bin (by omega)]
  refine ⟨by rw [hq_v3_4y]; omega, by rw [hq_v2_4y]; show _ = ((v2_4.toInt.toNat - 1 : Nat) : Int); omega, ?_⟩
  rw [hM_, hM466_, up_row, dn_2 (by omega)]
  show upd _ _ _ = upd _ _ _
  (try dsimp only)
  subst e29_ e33_
  first | rw [if_pos (by omega)] | rw [if_neg (by omega)]
theorem wk_p39 {b w b2 : Nat} {v3_4 v2_4 v3_4y v2_4y c : Int32} {M_4 M_4y : mM} {j14_ : Nat} {z12_ : Int32} {z16_ : Int32} {z24_ : Int32} {z26_ : Int32} {j30_ : Nat} {z28_ : Int32} {j34_ : Nat} {z32_ : Int32} {z473_ : Int32} {j477_ : Nat} {M475_ : mM} {z481_ : Int32} (ec : c.toInt = 2002 ∧ 2 ≤ v2_4.toInt) (hv0_4 : 0 ≤ v3_4.toInt) (hv1_4 : 0 ≤ v2_4.toInt) (hv2_4 : v2_4.toInt ≤ 48) (h15_ : (j14_ : Int) = v3_4.toInt) (e13_ : z12_ = M_4.1 (24, b, w) j14_) (h17_ : z16_ = z12_ - (1000 : Int32)) (h18_ : 2000 ≤ z12_.toInt) (h21_ : 2 ≤ v2_4.toInt) (h25_ : z24_.toInt = v2_4.toInt + (-1)) (h27_ : z26_.toInt = z24_.toInt - 1) (h31_ : (j30_ : Int) = z26_.toInt) (e29_ : z28_ = M_4.1 (25, b, w) j30_) (h35_ : (j34_ : Int) = z24_.toInt) (e33_ : z32_ = M_4.1 (25, b, w) j34_) (h462_ : z32_.toInt < z28_.toInt) (h474_ : z473_.toInt = z24_.toInt - 1) (h478_ : (j477_ : Int) = z473_.toInt) (hM476_ : M475_ = up M_4 (25, b, w) j477_ 1) (h482_ : z481_.toInt = v3_4.toInt + 1) (hq_v3_4y : v3_4y = z481_) (hq_v2_4y : v2_4y = z24_) (hM_ : M_4y = M475_) : wkG b w b2 c v3_4 v2_4 M_4 v3_4y v2_4y M_4y := by
  have i1000 : (1000 : Int32).toInt = 1000 := by decide
  have i0 := il_0
  unfold wkG
  obtain ⟨ec, ek⟩ := ec
  obtain rfl : j477_ = v2_4.toInt.toNat - 2 := by omega
  obtain rfl : j30_ = v2_4.toInt.toNat - 2 := by omega
  obtain rfl : j34_ = v2_4.toInt.toNat - 1 := by omega
  rw [sv_bin (by omega)]
  refine ⟨by rw [hq_v3_4y]; omega, by rw [hq_v2_4y]; show _ = ((v2_4.toInt.toNat - 1 : Nat) : Int); omega, ?_⟩
  rw [hM_, hM476_, up_row, dn_2 (by omega)]
  show upd _ _ _ = upd _ _ _
  (try dsimp only)
  subst e29_ e33_
  first | rw [if_pos (by omega)] | rw [if_neg (by omega)]
theorem wk_p40 {b w b2 : Nat} {v3_4 v2_4 v3_4y v2_4y c : Int32} {M_4 M_4y : mM} {j14_ : Nat} {z12_ : Int32} {z16_ : Int32} {z24_ : Int32} {z26_ : Int32} {j30_ : Nat} {z28_ : Int32} {j34_ : Nat} {z32_ : Int32} {z484_ : Int32} {z486_ : Int32} {j490_ : Nat} {M488_ : mM} {z494_ : Int32} (ec : c.toInt = 2007 ∧ 2 ≤ v2_4.toInt) (hv0_4 : 0 ≤ v3_4.toInt) (hv1_4 : 0 ≤ v2_4.toInt) (hv2_4 : v2_4.toInt ≤ 48) (h15_ : (j14_ : Int) = v3_4.toInt) (e13_ : z12_ = M_4.1 (24, b, w) j14_) (h17_ : z16_ = z12_ - (1000 : Int32)) (h18_ : 2000 ≤ z12_.toInt) (h21_ : 2 ≤ v2_4.toInt) (h25_ : z24_.toInt = v2_4.toInt + (-1)) (h27_ : z26_.toInt = z24_.toInt - 1) (h31_ : (j30_ : Int) = z26_.toInt) (e29_ : z28_ = M_4.1 (25, b, w) j30_) (h35_ : (j34_ : Int) = z24_.toInt) (e33_ : z32_ = M_4.1 (25, b, w) j34_) (h483_ : ¬ z32_.toInt = 0) (h485_ : z484_ = z28_ - z28_ / z32_ * z32_) (h487_ : z486_.toInt = z24_.toInt - 1) (h491_ : (j490_ : Int) = z486_.toInt) (hM489_ : M488_ = up M_4 (25, b, w) j490_ z484_) (h495_ : z494_.toInt = v3_4.toInt + 1) (hq_v3_4y : v3_4y = z494_) (hq_v2_4y : v2_4y = z24_) (hM_ : M_4y = M488_) : wkG b w b2 c v3_4 v2_4 M_4 v3_4y v2_4y M_4y := by
  have i1000 : (1000 : Int32).toInt = 1000 := by decide
  have i0 := il_0
  unfold wkG
  obtain ⟨ec, ek⟩ := ec
  obtain rfl : j490_ = v2_4.toInt.toNat - 2 := by omega
  obtain rfl : j30_ = v2_4.toInt.toNat - 2 := by omega
  obtain rfl : j34_ = v2_4.toInt.toNat - 1 := by omega
  rw [sv_bin (by omega)]
  refine ⟨by rw [hq_v3_4y]; omega, by rw [hq_v2_4y]; show _ = ((v2_4.toInt.toNat - 1 : Nat) : Int); omega, ?_⟩
  rw [hM_, hM489_, up_row, dn_7 (by omega)]
  show upd _ _ _ = upd _ _ _
  (try dsimp only)
  subst e29_ e33_
  rw [if_neg h483_, h485_]
theorem wk_p41 {b w b2 : Nat} {v3_4 v2_4 v3_4y v2_4y c : Int32} {M_4 M_4y : mM} {j14_ : Nat} {z12_ : Int32} {z16_ : Int32} {z24_ : Int32} {z26_ : Int32} {j30_ : Nat} {z28_ : Int32} {j34_ : Nat} {z32_ : Int32} {z496_ : Int32} {j500_ : Nat} {M498_ : mM} {z504_ : Int32} (ec : c.toInt = 2007 ∧ 2 ≤ v2_4.toInt) (hv0_4 : 0 ≤ v3_4.toInt) (hv1_4 : 0 ≤ v2_4.toInt) (hv2_4 : v2_4.toInt ≤ 48) (h15_ : (j14_ : Int) = v3_4.toInt) (e13_ : z12_ = M_4.1 (24, b, w) j14_) (h17_ : z16_ = z12_ - (1000 : Int32)) (h18_ : 2000 ≤ z12_.toInt) (h21_ : 2 ≤ v2_4.toInt) (h25_ : z24_.toInt = v2_4.toInt + (-1)) (h27_ : z26_.toInt = z24_.toInt - 1) (h31_ : (j30_ : Int) = z26_.toInt) (e29_ : z28_ = M_4.1 (25, b, w) j30_) (h35_ : (j34_ : Int) = z24_.toInt) (e33_ : z32_ = M_4.1 (25, b, w) j34_) (h483_ : z32_.toInt = 0) (h497_ : z496_.toInt = z24_.toInt - 1) (h501_ : (j500_ : Int) = z496_.toInt) (hM499_ : M498_ = up M_4 (25, b, w) j500_ 0) (h505_ : z504_.toInt = v3_4.toInt + 1) (hq_v3_4y : v3_4y = z504_) (hq_v2_4y : v2_4y = z24_) (hM_ : M_4y = M498_) : wkG b w b2 c v3_4 v2_4 M_4 v3_4y v2_4y M_4y := by
  have i1000 : (1000 : Int32).toInt = 1000 := by decide
  have i0 := il_0
  unfold wkG
  obtain ⟨ec, ek⟩ := ec
  obtain rfl : j500_ = v2_4.toInt.toNat - 2 := by omega
  obtain rfl : j30_ = v2_4.toInt.toNat - 2 := by omega
  obtain rfl : j34_ = v2_4.toInt.toNat - 1 := by omega
  rw [sv_bin (by omega)]
  refine ⟨by rw [hq_v3_4y]; omega, by rw [hq_v2_4y]; show _ = ((v2_4.toInt.toNat - 1 : Nat) : Int); omega, ?_⟩
  rw [hM_, hM499_, up_row, dn_7 (by omega)]
  show upd _ _ _ = upd _ _ _
  (try dsimp only)
  subst e29_ e33_
  rw [if_pos h483_]
theorem wk_p45 {b w b2 : Nat} {v3_4 v2_4 v3_4y v2_4y c : Int32} {M_4 M_4y : mM} {j14_ : Nat} {z12_ : Int32} {z16_ : Int32} {z547_ : Int32} {z549_ : Int32} {z551_ : Int32} {j555_ : Nat} {z553_ : Int32} {z558_ : Int32} {j562_ : Nat} {z560_ : Int32} {j566_ : Nat} {M564_ : mM} {z570_ : Int32} (ec : c.toInt = 2009 ∧ 3 ≤ v2_4.toInt) (hv0_4 : 0 ≤ v3_4.toInt) (hv1_4 : 0 ≤ v2_4.toInt) (hv2_4 : v2_4.toInt ≤ 48) (h15_ : (j14_ : Int) = v3_4.toInt) (e13_ : z12_ = M_4.1 (24, b, w) j14_) (h17_ : z16_ = z12_ - (1000 : Int32)) (h18_ : 2000 ≤ z12_.toInt) (h20_ : z12_.toInt = 2063) (h506_ : 3 ≤ v2_4.toInt) (h548_ : z547_.toInt = v2_4.toInt + (-2)) (h550_ : z549_.toInt = z547_.toInt - 1) (h552_ : z551_.toInt = z547_.toInt - 1) (h556_ : (j555_ : Int) = z551_.toInt) (e554_ : z553_ = M_4.1 (25, b, w) j555_) (h557_ : z553_.toInt = 0) (h559_ : z558_.toInt = z547_.toInt + 1) (h563_ : (j562_ : Int) = z558_.toInt) (e561_ : z560_ = M_4.1 (25, b, w) j562_) (h567_ : (j566_ : Int) = z549_.toInt) (hM565_ : M564_ = up M_4 (25, b, w) j566_ z560_) (h571_ : z570_.toInt = v3_4.toInt + 1) (hq_v3_4y : v3_4y = z570_) (hq_v2_4y : v2_4y = z547_) (hM_ : M_4y = M564_) : wkG b w b2 c v3_4 v2_4 M_4 v3_4y v2_4y M_4y := by
  have i1000 : (1000 : Int32).toInt = 1000 := by decide
  have i0 := il_0
  unfold wkG
  obtain ⟨ec, ek⟩ := ec
  obtain rfl : j566_ = v2_4.toInt.toNat - 3 := by omega
  obtain rfl : j562_ = v2_4.toInt.toNat - 1 := by omega
  obtain rfl : j555_ = v2_4.toInt.toNat - 3 := by omega
  rw [sv_cho ec]
  refine ⟨by rw [hq_v3_4y]; omega, by rw [hq_v2_4y]; show _ = ((v2_4.toInt.toNat - 2 : Nat) : Int); omega, ?_⟩
  rw [hM_, hM565_, up_row, e561_]
  show upd _ _ _ = upd _ _ _
  (try dsimp only)
  rw [if_pos (by rw [← e554_]; exact h557_)]
theorem wk_p46 {b w b2 : Nat} {v3_4 v2_4 v3_4y v2_4y c : Int32} {M_4 M_4y : mM} {j14_ : Nat} {z12_ : Int32} {z16_ : Int32} {z547_ : Int32} {z549_ : Int32} {z551_ : Int32} {j555_ : Nat} {z553_ : Int32} {j574_ : Nat} {z572_ : Int32} {j578_ : Nat} {M576_ : mM} {z582_ : Int32} (ec : c.toInt = 2009 ∧ 3 ≤ v2_4.toInt) (hv0_4 : 0 ≤ v3_4.toInt) (hv1_4 : 0 ≤ v2_4.toInt) (hv2_4 : v2_4.toInt ≤ 48) (h15_ : (j14_ : Int) = v3_4.toInt) (e13_ : z12_ = M_4.1 (24, b, w) j14_) (h17_ : z16_ = z12_ - (1000 : Int32)) (h18_ : 2000 ≤ z12_.toInt) (h20_ : z12_.toInt = 2063) (h506_ : 3 ≤ v2_4.toInt) (h548_ : z547_.toInt = v2_4.toInt + (-2)) (h550_ : z549_.toInt = z547_.toInt - 1) (h552_ : z551_.toInt = z547_.toInt - 1) (h556_ : (j555_ : Int) = z551_.toInt) (e554_ : z553_ = M_4.1 (25, b, w) j555_) (h557_ : ¬ z553_.toInt = 0) (h575_ : (j574_ : Int) = z547_.toInt) (e573_ : z572_ = M_4.1 (25, b, w) j574_) (h579_ : (j578_ : Int) = z549_.toInt) (hM577_ : M576_ = up M_4 (25, b, w) j578_ z572_) (h583_ : z582_.toInt = v3_4.toInt + 1) (hq_v3_4y : v3_4y = z582_) (hq_v2_4y : v2_4y = z547_) (hM_ : M_4y = M576_) : wkG b w b2 c v3_4 v2_4 M_4 v3_4y v2_4y M_4y := by
  have i1000 : (1000 : Int32).toInt = 1000 := by decide
  have i0 := il_0
  unfold wkG
  obtain ⟨ec, ek⟩ := ec
  obtain rfl : j578_ = v2_4.toInt.toNat - 3 := by omega
  obtain rfl : j574_ = v2_4.toInt.toNat - 2 := by omega
  obtain rfl : j555_ = v2_4.toInt.toNat - 3 := by omega
  rw [sv_cho ec]
  refine ⟨by rw [hq_v3_4y]; omega, by rw [hq_v2_4y]; show _ = ((v2_4.toInt.toNat - 2 : Nat) : Int); omega, ?_⟩
  rw [hM_, hM577_, up_row, e573_]
  show upd _ _ _ = upd _ _ _
  (try dsimp only)
  rw [if_neg (by rw [← e554_]; exact h557_)]
theorem wk_p48 {b w b2 : Nat} {v3_4 v2_4 v3_4y v2_4y c : Int32} {M_4 M_4y : mM} {j14_ : Nat} {z12_ : Int32} {z16_ : Int32} {z589_ : Int32} {z591_ : Int32} {j595_ : Nat} {z593_ : Int32} {z597_ : Int32} {j601_ : Nat} {M599_ : mM} {z605_ : Int32} (ec : c.toInt = 2008 ∧ 1 ≤ v2_4.toInt) (hv0_4 : 0 ≤ v3_4.toInt) (hv1_4 : 0 ≤ v2_4.toInt) (hv2_4 : v2_4.toInt ≤ 48) (h15_ : (j14_ : Int) = v3_4.toInt) (e13_ : z12_ = M_4.1 (24, b, w) j14_) (h17_ : z16_ = z12_ - (1000 : Int32)) (h18_ : 2000 ≤ z12_.toInt) (h19_ : z12_.toInt = 2126) (h584_ : 1 ≤ v2_4.toInt) (h590_ : z589_.toInt = v2_4.toInt - 1) (h592_ : z591_.toInt = v2_4.toInt - 1) (h596_ : (j595_ : Int) = z591_.toInt) (e594_ : z593_ = M_4.1 (25, b, w) j595_) (h598_ : z597_ = -z593_) (h602_ : (j601_ : Int) = z589_.toInt) (hM600_ : M599_ = up M_4 (25, b, w) j601_ z597_) (h606_ : z605_.toInt = v3_4.toInt + 1) (hq_v3_4y : v3_4y = z605_) (hq_v2_4y : v2_4y = v2_4) (hM_ : M_4y = M599_) : wkG b w b2 c v3_4 v2_4 M_4 v3_4y v2_4y M_4y := by
  have i1000 : (1000 : Int32).toInt = 1000 := by decide
  have i0 := il_0
  unfold wkG
  obtain ⟨ec, ek⟩ := ec
  obtain rfl : j601_ = v2_4.toInt.toNat - 1 := by omega
  obtain rfl : j595_ = v2_4.toInt.toNat - 1 := by omega
  rw [sv_neg ec]
  refine ⟨by rw [hq_v3_4y]; omega, by rw [hq_v2_4y]; show _ = ((v2_4.toInt.toNat : Nat) : Int); omega, ?_⟩
  rw [hM_, hM600_, up_row, h598_, e594_]
theorem wk_p90 {b w b2 : Nat} {v3_4 v2_4 v3_4y v2_4y c : Int32} {M_4 M_4y : mM} {j14_ : Nat} {z12_ : Int32} {z16_ : Int32} {j1097_ : Nat} {M1095_ : mM} {z1101_ : Int32} {z1103_ : Int32} (ec : c.toInt < 2000 ∧ z12_.toInt = c.toInt ∧ 0 ≤ c.toInt ∧ c.toInt < 1005 ∧ v2_4.toInt < 48) (hv0_4 : 0 ≤ v3_4.toInt) (hv1_4 : 0 ≤ v2_4.toInt) (hv2_4 : v2_4.toInt ≤ 48) (h15_ : (j14_ : Int) = v3_4.toInt) (e13_ : z12_ = M_4.1 (24, b, w) j14_) (h17_ : z16_ = z12_ - (1000 : Int32)) (h18_ : z12_.toInt < 2000) (h607_ : v2_4.toInt < 48) (h1093_ : 0 ≤ z16_.toInt) (h1094_ : 5 ≤ z16_.toInt) (h1098_ : (j1097_ : Int) = v2_4.toInt) (hM1096_ : M1095_ = up M_4 (25, b, w) j1097_ 0) (h1102_ : z1101_.toInt = v2_4.toInt + 1) (h1104_ : z1103_.toInt = v3_4.toInt + 1) (hq_v3_4y : v3_4y = z1103_) (hq_v2_4y : v2_4y = z1101_) (hM_ : M_4y = M1095_) : wkG b w b2 c v3_4 v2_4 M_4 v3_4y v2_4y M_4y := by
  have i1000 : (1000 : Int32).toInt = 1000 := by decide
  have i0 := il_0
  unfold wkG
  obtain ⟨ec, ek1, ek2, ek3, ek4⟩ := ec
  exfalso; have := subI (x := z12_) (y := (1000 : Int32)) rfl i1000 (by omega) (by omega); rw [← h17_] at this; omega
theorem wk_p91 {b w b2 : Nat} {v3_4 v2_4 v3_4y v2_4y c : Int32} {M_4 M_4y : mM} {j14_ : Nat} {z12_ : Int32} {z16_ : Int32} {j1107_ : Nat} {z1105_ : Int32} {j1111_ : Nat} {M1109_ : mM} {z1115_ : Int32} {z1117_ : Int32} (ec : c.toInt < 2000 ∧ z12_.toInt = c.toInt ∧ 0 ≤ c.toInt ∧ c.toInt < 1005 ∧ v2_4.toInt < 48) (hv0_4 : 0 ≤ v3_4.toInt) (hv1_4 : 0 ≤ v2_4.toInt) (hv2_4 : v2_4.toInt ≤ 48) (h15_ : (j14_ : Int) = v3_4.toInt) (e13_ : z12_ = M_4.1 (24, b, w) j14_) (h17_ : z16_ = z12_ - (1000 : Int32)) (h18_ : z12_.toInt < 2000) (h607_ : v2_4.toInt < 48) (h1093_ : 0 ≤ z16_.toInt) (h1094_ : z16_.toInt < 5) (h1108_ : (j1107_ : Int) = z16_.toInt) (e1106_ : z1105_ = M_4.1 (29, b2, 0) j1107_) (h1112_ : (j1111_ : Int) = v2_4.toInt) (hM1110_ : M1109_ = up M_4 (25, b, w) j1111_ z1105_) (h1116_ : z1115_.toInt = v2_4.toInt + 1) (h1118_ : z1117_.toInt = v3_4.toInt + 1) (hq_v3_4y : v3_4y = z1117_) (hq_v2_4y : v2_4y = z1115_) (hM_ : M_4y = M1109_) : wkG b w b2 c v3_4 v2_4 M_4 v3_4y v2_4y M_4y := by
  have i1000 : (1000 : Int32).toInt = 1000 := by decide
  have i0 := il_0
  unfold wkG
  obtain ⟨ec, ek1, ek2, ek3, ek4⟩ := ec
  obtain rfl : j1111_ = v2_4.toInt.toNat := by omega
  rw [sv_push ec]
  refine ⟨by rw [hq_v3_4y]; omega, by rw [hq_v2_4y]; show _ = ((v2_4.toInt.toNat + 1 : Nat) : Int); omega, ?_⟩
  rw [hM_, hM1110_, up_row]
  show upd _ _ _ = upd _ _ _
  have := subI (x := z12_) (y := (1000 : Int32)) rfl i1000 (by omega) (by omega)
  rw [← h17_] at this
  obtain rfl : j1107_ = (c.toInt - 1000).toNat := by omega
  rw [if_neg (by omega), e1106_]
theorem wk_p92 {b w b2 : Nat} {v3_4 v2_4 v3_4y v2_4y c : Int32} {M_4 M_4y : mM} {j14_ : Nat} {z12_ : Int32} {z16_ : Int32} {j1121_ : Nat} {M1119_ : mM} {z1125_ : Int32} {z1127_ : Int32} (ec : c.toInt < 2000 ∧ z12_.toInt = c.toInt ∧ 0 ≤ c.toInt ∧ c.toInt < 1005 ∧ v2_4.toInt < 48) (hv0_4 : 0 ≤ v3_4.toInt) (hv1_4 : 0 ≤ v2_4.toInt) (hv2_4 : v2_4.toInt ≤ 48) (h15_ : (j14_ : Int) = v3_4.toInt) (e13_ : z12_ = M_4.1 (24, b, w) j14_) (h17_ : z16_ = z12_ - (1000 : Int32)) (h18_ : z12_.toInt < 2000) (h607_ : v2_4.toInt < 48) (h1093_ : z16_.toInt < 0) (h1122_ : (j1121_ : Int) = v2_4.toInt) (hM1120_ : M1119_ = up M_4 (25, b, w) j1121_ z12_) (h1126_ : z1125_.toInt = v2_4.toInt + 1) (h1128_ : z1127_.toInt = v3_4.toInt + 1) (hq_v3_4y : v3_4y = z1127_) (hq_v2_4y : v2_4y = z1125_) (hM_ : M_4y = M1119_) : wkG b w b2 c v3_4 v2_4 M_4 v3_4y v2_4y M_4y := by
  have i1000 : (1000 : Int32).toInt = 1000 := by decide
  have i0 := il_0
  unfold wkG
  obtain ⟨ec, ek1, ek2, ek3, ek4⟩ := ec
  obtain rfl : j1121_ = v2_4.toInt.toNat := by omega
  rw [sv_push ec]
  refine ⟨by rw [hq_v3_4y]; omega, by rw [hq_v2_4y]; show _ = ((v2_4.toInt.toNat + 1 : Nat) : Int); omega, ?_⟩
  rw [hM_, hM1120_, up_row]
  show upd _ _ _ = upd _ _ _
  have := subI (x := z12_) (y := (1000 : Int32)) rfl i1000 (by omega) (by omega)
  rw [← h17_] at this
  rw [if_pos (by omega), show z12_ = c from i32e (by omega)]
theorem wk_step {b w b2 : Nat} {Mz : mM} {v3_4 v2_4 v3_4y v2_4y : Int32} {M_4 M_4y : mM} (h : ST_X1_work_4 b w b2 Mz v3_4 v2_4 M_4 v3_4y v2_4y M_4y) {c : Int32} (hc : (M_4.1 (24, b, w) v3_4.toInt.toNat).toInt = cmI c.toInt) (hd : (0 ≤ c.toInt ∧ c.toInt < 1005 ∧ v2_4.toInt < 48) ∨ (c.toInt = 2008 ∧ 1 ≤ v2_4.toInt) ∨ (c.toInt = 2009 ∧ 3 ≤ v2_4.toInt) ∨ (2000 ≤ c.toInt ∧ c.toInt < 2008 ∧ 2 ≤ v2_4.toInt)) : wkG b w b2 c v3_4 v2_4 M_4 v3_4y v2_4y M_4y := by
  have hk : HKc (M_4.1 (24, b, w) v3_4.toInt.toNat) c v2_4.toInt := wk_cm hc hd
  clear hd hc
  have x0_ := h
  unfold ST_X1_work_4 at x0_
  exact an_e x0_ (fun hv0_4 x1_ => an_e x1_ (fun hv1_4 x2_ => an_e x2_ (fun hv2_4 x3_ => an_e x3_ (fun hI_4 x4_ => an_e x4_ (fun hF_4 x5_ => ex_e x5_ (fun z2_ x6_ => an_e x6_ (fun e3_ x7_ => an_e x7_ (fun h4_ x8_ => an_e x8_ (fun h8_ x9_ => ex_e x9_ (fun j14_ x10_ => an_e x10_ (fun h15_ x11_ => ex_e x11_ (fun z12_ x12_ => an_e x12_ (fun e13_ x13_ => ex_e x13_ (fun z16_ x14_ => an_e x14_ (fun h17_ x15_ => or_e x15_ (fun x16_ => an_e x16_ (fun h18_ x17_ => or_e x17_ (fun x18_ => an_e x18_ (fun h19_ x19_ => or_e x19_ (fun x20_ => an_e x20_ (fun h20_ x21_ => or_e x21_ (fun x22_ => an_e x22_ (fun h21_ x23_ => ex_e x23_ (fun z22_ x24_ => an_e x24_ (fun h23_ x25_ => an_e x25_ (fun hq_v3_4y x26_ => an_e x26_ (fun hq_v2_4y x27_ => (fun hM_ => ((hk_at hk h15_ e13_).two h18_ h19_ h20_ h21_).elim) x27_)))))) (fun x22_ => an_e x22_ (fun h21_ x23_ => ex_e x23_ (fun z24_ x24_ => an_e x24_ (fun h25_ x25_ => ex_e x25_ (fun z26_ x26_ => an_e x26_ (fun h27_ x27_ => ex_e x27_ (fun j30_ x28_ => an_e x28_ (fun h31_ x29_ => ex_e x29_ (fun z28_ x30_ => an_e x30_ (fun e29_ x31_ => ex_e x31_ (fun j34_ x32_ => an_e x32_ (fun h35_ x33_ => ex_e x33_ (fun z32_ x34_ => an_e x34_ (fun e33_ x35_ => ex_e x35_ (fun z36_ x36_ => an_e x36_ (fun h37_ x37_ => or_e x37_ (fun x38_ => an_e x38_ (fun e38_ x39_ => ex_e x39_ (fun z39_ x40_ => an_e x40_ (fun h40_ x41_ => ex_e x41_ (fun z41_ x42_ => an_e x42_ (fun h42_ x43_ => ex_e x43_ (fun j45_ x44_ => an_e x44_ (fun h46_ x45_ => ex_e x45_ (fun M43_ x46_ => an_e x46_ (fun hM44_ x47_ => ex_e x47_ (fun z49_ x48_ => an_e x48_ (fun h50_ x49_ => an_e x49_ (fun hq_v3_4y x50_ => an_e x50_ (fun hq_v2_4y x51_ => (fun hM_ => wk_p1 ((hk_at hk h15_ e13_).op (m := 2005) h37_ e38_ (by decide)) hv0_4 hv1_4 hv2_4 h15_ e13_ h17_ h18_ h21_ h25_ h27_ h31_ e29_ h35_ e33_ h40_ h42_ h46_ hM44_ h50_ hq_v3_4y hq_v2_4y hM_) x51_)))))))))))))) (fun x38_ => or_e x38_ (fun x39_ => an_e x39_ (fun e38_ x40_ => ex_e x40_ (fun z51_ x41_ => an_e x41_ (fun h52_ x42_ => ex_e x42_ (fun z53_ x43_ => an_e x43_ (fun h54_ x44_ => ex_e x44_ (fun j57_ x45_ => an_e x45_ (fun h58_ x46_ => ex_e x46_ (fun M55_ x47_ => an_e x47_ (fun hM56_ x48_ => ex_e x48_ (fun z61_ x49_ => an_e x49_ (fun h62_ x50_ => an_e x50_ (fun hq_v3_4y x51_ => an_e x51_ (fun hq_v2_4y x52_ => (fun hM_ => wk_p2 ((hk_at hk h15_ e13_).op (m := 2003) h37_ e38_ (by decide)) hv0_4 hv1_4 hv2_4 h15_ e13_ h17_ h18_ h21_ h25_ h27_ h31_ e29_ h35_ e33_ h52_ h54_ h58_ hM56_ h62_ hq_v3_4y hq_v2_4y hM_) x52_)))))))))))))) (fun x39_ => or_e x39_ (fun x40_ => an_e x40_ (fun e38_ x41_ => or_e x41_ (fun x42_ => an_e x42_ (fun h63_ x43_ => ex_e x43_ (fun z64_ x44_ => an_e x44_ (fun h65_ x45_ => ex_e x45_ (fun z66_ x46_ => an_e x46_ (fun h67_ x47_ => ex_e x47_ (fun j70_ x48_ => an_e x48_ (fun h71_ x49_ => ex_e x49_ (fun M68_ x50_ => an_e x50_ (fun hM69_ x51_ => ex_e x51_ (fun z74_ x52_ => an_e x52_ (fun h75_ x53_ => an_e x53_ (fun hq_v3_4y x54_ => an_e x54_ (fun hq_v2_4y x55_ => (fun hM_ => ((hk_at hk h15_ e13_).dead h37_ e38_ (by decide)).elim) x55_)))))))))))))) (fun x42_ => an_e x42_ (fun h63_ x43_ => ex_e x43_ (fun z76_ x44_ => an_e x44_ (fun h77_ x45_ => ex_e x45_ (fun j80_ x46_ => an_e x46_ (fun h81_ x47_ => ex_e x47_ (fun M78_ x48_ => an_e x48_ (fun hM79_ x49_ => ex_e x49_ (fun z84_ x50_ => an_e x50_ (fun h85_ x51_ => an_e x51_ (fun hq_v3_4y x52_ => an_e x52_ (fun hq_v2_4y x53_ => (fun hM_ => ((hk_at hk h15_ e13_).dead h37_ e38_ (by decide)).elim) x53_)))))))))))))) (fun x40_ => or_e x40_ (fun x41_ => an_e x41_ (fun e38_ x42_ => ex_e x42_ (fun z86_ x43_ => an_e x43_ (fun h87_ x44_ => ex_e x44_ (fun z88_ x45_ => an_e x45_ (fun h89_ x46_ => ex_e x46_ (fun j92_ x47_ => an_e x47_ (fun h93_ x48_ => ex_e x48_ (fun M90_ x49_ => an_e x49_ (fun hM91_ x50_ => ex_e x50_ (fun z96_ x51_ => an_e x51_ (fun h97_ x52_ => an_e x52_ (fun hq_v3_4y x53_ => an_e x53_ (fun hq_v2_4y x54_ => (fun hM_ => wk_p5 ((hk_at hk h15_ e13_).op (m := 2004) h37_ e38_ (by decide)) hv0_4 hv1_4 hv2_4 h15_ e13_ h17_ h18_ h21_ h25_ h27_ h31_ e29_ h35_ e33_ h87_ h89_ h93_ hM91_ h97_ hq_v3_4y hq_v2_4y hM_) x54_)))))))))))))) (fun x41_ => or_e x41_ (fun x42_ => an_e x42_ (fun e38_ x43_ => or_e x43_ (fun x44_ => an_e x44_ (fun h98_ x45_ => ex_e x45_ (fun z99_ x46_ => an_e x46_ (fun h100_ x47_ => ex_e x47_ (fun z101_ x48_ => an_e x48_ (fun h102_ x49_ => ex_e x49_ (fun j105_ x50_ => an_e x50_ (fun h106_ x51_ => ex_e x51_ (fun M103_ x52_ => an_e x52_ (fun hM104_ x53_ => ex_e x53_ (fun z109_ x54_ => an_e x54_ (fun h110_ x55_ => an_e x55_ (fun hq_v3_4y x56_ => an_e x56_ (fun hq_v2_4y x57_ => (fun hM_ => ((hk_at hk h15_ e13_).dead h37_ e38_ (by decide)).elim) x57_)))))))))))))) (fun x44_ => an_e x44_ (fun h98_ x45_ => ex_e x45_ (fun z111_ x46_ => an_e x46_ (fun h112_ x47_ => ex_e x47_ (fun j115_ x48_ => an_e x48_ (fun h116_ x49_ => ex_e x49_ (fun M113_ x50_ => an_e x50_ (fun hM114_ x51_ => ex_e x51_ (fun z119_ x52_ => an_e x52_ (fun h120_ x53_ => an_e x53_ (fun hq_v3_4y x54_ => an_e x54_ (fun hq_v2_4y x55_ => (fun hM_ => ((hk_at hk h15_ e13_).dead h37_ e38_ (by decide)).elim) x55_)))))))))))))) (fun x42_ => or_e x42_ (fun x43_ => an_e x43_ (fun e38_ x44_ => or_e x44_ (fun x45_ => an_e x45_ (fun h121_ x46_ => ex_e x46_ (fun z122_ x47_ => an_e x47_ (fun h123_ x48_ => ex_e x48_ (fun z124_ x49_ => an_e x49_ (fun h125_ x50_ => ex_e x50_ (fun j128_ x51_ => an_e x51_ (fun h129_ x52_ => ex_e x52_ (fun M126_ x53_ => an_e x53_ (fun hM127_ x54_ => ex_e x54_ (fun z132_ x55_ => an_e x55_ (fun h133_ x56_ => an_e x56_ (fun hq_v3_4y x57_ => an_e x57_ (fun hq_v2_4y x58_ => (fun hM_ => wk_p8 ((hk_at hk h15_ e13_).op (m := 2006) h37_ e38_ (by decide)) hv0_4 hv1_4 hv2_4 h15_ e13_ h17_ h18_ h21_ h25_ h27_ h31_ e29_ h35_ e33_ h121_ h123_ h125_ h129_ hM127_ h133_ hq_v3_4y hq_v2_4y hM_) x58_)))))))))))))) (fun x45_ => an_e x45_ (fun h121_ x46_ => ex_e x46_ (fun z134_ x47_ => an_e x47_ (fun h135_ x48_ => ex_e x48_ (fun j138_ x49_ => an_e x49_ (fun h139_ x50_ => ex_e x50_ (fun M136_ x51_ => an_e x51_ (fun hM137_ x52_ => ex_e x52_ (fun z142_ x53_ => an_e x53_ (fun h143_ x54_ => an_e x54_ (fun hq_v3_4y x55_ => an_e x55_ (fun hq_v2_4y x56_ => (fun hM_ => wk_p9 ((hk_at hk h15_ e13_).op (m := 2006) h37_ e38_ (by decide)) hv0_4 hv1_4 hv2_4 h15_ e13_ h17_ h18_ h21_ h25_ h27_ h31_ e29_ h35_ e33_ h121_ h135_ h139_ hM137_ h143_ hq_v3_4y hq_v2_4y hM_) x56_)))))))))))))) (fun x43_ => or_e x43_ (fun x44_ => an_e x44_ (fun e38_ x45_ => or_e x45_ (fun x46_ => an_e x46_ (fun h144_ x47_ => ex_e x47_ (fun z145_ x48_ => an_e x48_ (fun h146_ x49_ => ex_e x49_ (fun z147_ x50_ => an_e x50_ (fun h148_ x51_ => ex_e x51_ (fun j151_ x52_ => an_e x52_ (fun h152_ x53_ => ex_e x53_ (fun M149_ x54_ => an_e x54_ (fun hM150_ x55_ => ex_e x55_ (fun z155_ x56_ => an_e x56_ (fun h156_ x57_ => an_e x57_ (fun hq_v3_4y x58_ => an_e x58_ (fun hq_v2_4y x59_ => (fun hM_ => ((hk_at hk h15_ e13_).dead h37_ e38_ (by decide)).elim) x59_)))))))))))))) (fun x46_ => an_e x46_ (fun h144_ x47_ => ex_e x47_ (fun z157_ x48_ => an_e x48_ (fun h158_ x49_ => ex_e x49_ (fun j161_ x50_ => an_e x50_ (fun h162_ x51_ => ex_e x51_ (fun M159_ x52_ => an_e x52_ (fun hM160_ x53_ => ex_e x53_ (fun z165_ x54_ => an_e x54_ (fun h166_ x55_ => an_e x55_ (fun hq_v3_4y x56_ => an_e x56_ (fun hq_v2_4y x57_ => (fun hM_ => ((hk_at hk h15_ e13_).dead h37_ e38_ (by decide)).elim) x57_)))))))))))))) (fun x44_ => or_e x44_ (fun x45_ => an_e x45_ (fun e38_ x46_ => or_e x46_ (fun x47_ => an_e x47_ (fun h167_ x48_ => ex_e x48_ (fun z168_ x49_ => an_e x49_ (fun h169_ x50_ => ex_e x50_ (fun z170_ x51_ => an_e x51_ (fun h171_ x52_ => ex_e x52_ (fun j174_ x53_ => an_e x53_ (fun h175_ x54_ => ex_e x54_ (fun M172_ x55_ => an_e x55_ (fun hM173_ x56_ => ex_e x56_ (fun z178_ x57_ => an_e x57_ (fun h179_ x58_ => an_e x58_ (fun hq_v3_4y x59_ => an_e x59_ (fun hq_v2_4y x60_ => (fun hM_ => ((hk_at hk h15_ e13_).dead h37_ e38_ (by decide)).elim) x60_)))))))))))))) (fun x47_ => an_e x47_ (fun h167_ x48_ => ex_e x48_ (fun z180_ x49_ => an_e x49_ (fun h181_ x50_ => ex_e x50_ (fun j184_ x51_ => an_e x51_ (fun h185_ x52_ => ex_e x52_ (fun M182_ x53_ => an_e x53_ (fun hM183_ x54_ => ex_e x54_ (fun z188_ x55_ => an_e x55_ (fun h189_ x56_ => an_e x56_ (fun hq_v3_4y x57_ => an_e x57_ (fun hq_v2_4y x58_ => (fun hM_ => ((hk_at hk h15_ e13_).dead h37_ e38_ (by decide)).elim) x58_)))))))))))))) (fun x45_ => or_e x45_ (fun x46_ => an_e x46_ (fun e38_ x47_ => or_e x47_ (fun x48_ => an_e x48_ (fun h190_ x49_ => ex_e x49_ (fun z191_ x50_ => an_e x50_ (fun h192_ x51_ => ex_e x51_ (fun z193_ x52_ => an_e x52_ (fun h194_ x53_ => ex_e x53_ (fun j197_ x54_ => an_e x54_ (fun h198_ x55_ => ex_e x55_ (fun M195_ x56_ => an_e x56_ (fun hM196_ x57_ => ex_e x57_ (fun z201_ x58_ => an_e x58_ (fun h202_ x59_ => an_e x59_ (fun hq_v3_4y x60_ => an_e x60_ (fun hq_v2_4y x61_ => (fun hM_ => ((hk_at hk h15_ e13_).dead h37_ e38_ (by decide)).elim) x61_)))))))))))))) (fun x48_ => an_e x48_ (fun h190_ x49_ => ex_e x49_ (fun z203_ x50_ => an_e x50_ (fun h204_ x51_ => ex_e x51_ (fun j207_ x52_ => an_e x52_ (fun h208_ x53_ => ex_e x53_ (fun M205_ x54_ => an_e x54_ (fun hM206_ x55_ => ex_e x55_ (fun z211_ x56_ => an_e x56_ (fun h212_ x57_ => an_e x57_ (fun hq_v3_4y x58_ => an_e x58_ (fun hq_v2_4y x59_ => (fun hM_ => ((hk_at hk h15_ e13_).dead h37_ e38_ (by decide)).elim) x59_)))))))))))))) (fun x46_ => or_e x46_ (fun x47_ => an_e x47_ (fun e38_ x48_ => or_e x48_ (fun x49_ => an_e x49_ (fun h213_ x50_ => ex_e x50_ (fun z214_ x51_ => an_e x51_ (fun h215_ x52_ => ex_e x52_ (fun z216_ x53_ => an_e x53_ (fun h217_ x54_ => ex_e x54_ (fun j220_ x55_ => an_e x55_ (fun h221_ x56_ => ex_e x56_ (fun M218_ x57_ => an_e x57_ (fun hM219_ x58_ => ex_e x58_ (fun z224_ x59_ => an_e x59_ (fun h225_ x60_ => an_e x60_ (fun hq_v3_4y x61_ => an_e x61_ (fun hq_v2_4y x62_ => (fun hM_ => ((hk_at hk h15_ e13_).dead h37_ e38_ (by decide)).elim) x62_)))))))))))))) (fun x49_ => an_e x49_ (fun h213_ x50_ => ex_e x50_ (fun z226_ x51_ => an_e x51_ (fun h227_ x52_ => ex_e x52_ (fun j230_ x53_ => an_e x53_ (fun h231_ x54_ => ex_e x54_ (fun M228_ x55_ => an_e x55_ (fun hM229_ x56_ => ex_e x56_ (fun z234_ x57_ => an_e x57_ (fun h235_ x58_ => an_e x58_ (fun hq_v3_4y x59_ => an_e x59_ (fun hq_v2_4y x60_ => (fun hM_ => ((hk_at hk h15_ e13_).dead h37_ e38_ (by decide)).elim) x60_)))))))))))))) (fun x47_ => or_e x47_ (fun x48_ => an_e x48_ (fun e38_ x49_ => or_e x49_ (fun x50_ => an_e x50_ (fun h236_ x51_ => ex_e x51_ (fun z237_ x52_ => an_e x52_ (fun h238_ x53_ => ex_e x53_ (fun z239_ x54_ => an_e x54_ (fun h240_ x55_ => ex_e x55_ (fun j243_ x56_ => an_e x56_ (fun h244_ x57_ => ex_e x57_ (fun M241_ x58_ => an_e x58_ (fun hM242_ x59_ => ex_e x59_ (fun z247_ x60_ => an_e x60_ (fun h248_ x61_ => an_e x61_ (fun hq_v3_4y x62_ => an_e x62_ (fun hq_v2_4y x63_ => (fun hM_ => ((hk_at hk h15_ e13_).dead h37_ e38_ (by decide)).elim) x63_)))))))))))))) (fun x50_ => an_e x50_ (fun h236_ x51_ => ex_e x51_ (fun z249_ x52_ => an_e x52_ (fun h250_ x53_ => ex_e x53_ (fun j253_ x54_ => an_e x54_ (fun h254_ x55_ => ex_e x55_ (fun M251_ x56_ => an_e x56_ (fun hM252_ x57_ => ex_e x57_ (fun z257_ x58_ => an_e x58_ (fun h258_ x59_ => an_e x59_ (fun hq_v3_4y x60_ => an_e x60_ (fun hq_v2_4y x61_ => (fun hM_ => ((hk_at hk h15_ e13_).dead h37_ e38_ (by decide)).elim) x61_)))))))))))))) (fun x48_ => or_e x48_ (fun x49_ => an_e x49_ (fun e38_ x50_ => or_e x50_ (fun x51_ => an_e x51_ (fun h259_ x52_ => ex_e x52_ (fun z260_ x53_ => an_e x53_ (fun h261_ x54_ => ex_e x54_ (fun z262_ x55_ => an_e x55_ (fun h263_ x56_ => ex_e x56_ (fun j266_ x57_ => an_e x57_ (fun h267_ x58_ => ex_e x58_ (fun M264_ x59_ => an_e x59_ (fun hM265_ x60_ => ex_e x60_ (fun z270_ x61_ => an_e x61_ (fun h271_ x62_ => an_e x62_ (fun hq_v3_4y x63_ => an_e x63_ (fun hq_v2_4y x64_ => (fun hM_ => ((hk_at hk h15_ e13_).dead h37_ e38_ (by decide)).elim) x64_)))))))))))))) (fun x51_ => an_e x51_ (fun h259_ x52_ => ex_e x52_ (fun z272_ x53_ => an_e x53_ (fun h273_ x54_ => ex_e x54_ (fun j276_ x55_ => an_e x55_ (fun h277_ x56_ => ex_e x56_ (fun M274_ x57_ => an_e x57_ (fun hM275_ x58_ => ex_e x58_ (fun z280_ x59_ => an_e x59_ (fun h281_ x60_ => an_e x60_ (fun hq_v3_4y x61_ => an_e x61_ (fun hq_v2_4y x62_ => (fun hM_ => ((hk_at hk h15_ e13_).dead h37_ e38_ (by decide)).elim) x62_)))))))))))))) (fun x49_ => or_e x49_ (fun x50_ => an_e x50_ (fun e38_ x51_ => or_e x51_ (fun x52_ => an_e x52_ (fun h282_ x53_ => ex_e x53_ (fun z283_ x54_ => an_e x54_ (fun h284_ x55_ => ex_e x55_ (fun z285_ x56_ => an_e x56_ (fun h286_ x57_ => ex_e x57_ (fun j289_ x58_ => an_e x58_ (fun h290_ x59_ => ex_e x59_ (fun M287_ x60_ => an_e x60_ (fun hM288_ x61_ => ex_e x61_ (fun z293_ x62_ => an_e x62_ (fun h294_ x63_ => an_e x63_ (fun hq_v3_4y x64_ => an_e x64_ (fun hq_v2_4y x65_ => (fun hM_ => ((hk_at hk h15_ e13_).dead h37_ e38_ (by decide)).elim) x65_)))))))))))))) (fun x52_ => an_e x52_ (fun h282_ x53_ => ex_e x53_ (fun z295_ x54_ => an_e x54_ (fun h296_ x55_ => ex_e x55_ (fun j299_ x56_ => an_e x56_ (fun h300_ x57_ => ex_e x57_ (fun M297_ x58_ => an_e x58_ (fun hM298_ x59_ => ex_e x59_ (fun z303_ x60_ => an_e x60_ (fun h304_ x61_ => an_e x61_ (fun hq_v3_4y x62_ => an_e x62_ (fun hq_v2_4y x63_ => (fun hM_ => ((hk_at hk h15_ e13_).dead h37_ e38_ (by decide)).elim) x63_)))))))))))))) (fun x50_ => or_e x50_ (fun x51_ => an_e x51_ (fun e38_ x52_ => or_e x52_ (fun x53_ => an_e x53_ (fun h305_ x54_ => ex_e x54_ (fun z306_ x55_ => an_e x55_ (fun h307_ x56_ => ex_e x56_ (fun z308_ x57_ => an_e x57_ (fun h309_ x58_ => ex_e x58_ (fun j312_ x59_ => an_e x59_ (fun h313_ x60_ => ex_e x60_ (fun M310_ x61_ => an_e x61_ (fun hM311_ x62_ => ex_e x62_ (fun z316_ x63_ => an_e x63_ (fun h317_ x64_ => an_e x64_ (fun hq_v3_4y x65_ => an_e x65_ (fun hq_v2_4y x66_ => (fun hM_ => ((hk_at hk h15_ e13_).dead h37_ e38_ (by decide)).elim) x66_)))))))))))))) (fun x53_ => an_e x53_ (fun h305_ x54_ => ex_e x54_ (fun z318_ x55_ => an_e x55_ (fun h319_ x56_ => ex_e x56_ (fun j322_ x57_ => an_e x57_ (fun h323_ x58_ => ex_e x58_ (fun M320_ x59_ => an_e x59_ (fun hM321_ x60_ => ex_e x60_ (fun z326_ x61_ => an_e x61_ (fun h327_ x62_ => an_e x62_ (fun hq_v3_4y x63_ => an_e x63_ (fun hq_v2_4y x64_ => (fun hM_ => ((hk_at hk h15_ e13_).dead h37_ e38_ (by decide)).elim) x64_)))))))))))))) (fun x51_ => or_e x51_ (fun x52_ => an_e x52_ (fun e38_ x53_ => or_e x53_ (fun x54_ => an_e x54_ (fun h328_ x55_ => ex_e x55_ (fun z329_ x56_ => an_e x56_ (fun h330_ x57_ => ex_e x57_ (fun z331_ x58_ => an_e x58_ (fun h332_ x59_ => ex_e x59_ (fun j335_ x60_ => an_e x60_ (fun h336_ x61_ => ex_e x61_ (fun M333_ x62_ => an_e x62_ (fun hM334_ x63_ => ex_e x63_ (fun z339_ x64_ => an_e x64_ (fun h340_ x65_ => an_e x65_ (fun hq_v3_4y x66_ => an_e x66_ (fun hq_v2_4y x67_ => (fun hM_ => ((hk_at hk h15_ e13_).dead h37_ e38_ (by decide)).elim) x67_)))))))))))))) (fun x54_ => an_e x54_ (fun h328_ x55_ => ex_e x55_ (fun z341_ x56_ => an_e x56_ (fun h342_ x57_ => ex_e x57_ (fun j345_ x58_ => an_e x58_ (fun h346_ x59_ => ex_e x59_ (fun M343_ x60_ => an_e x60_ (fun hM344_ x61_ => ex_e x61_ (fun z349_ x62_ => an_e x62_ (fun h350_ x63_ => an_e x63_ (fun hq_v3_4y x64_ => an_e x64_ (fun hq_v2_4y x65_ => (fun hM_ => ((hk_at hk h15_ e13_).dead h37_ e38_ (by decide)).elim) x65_)))))))))))))) (fun x52_ => or_e x52_ (fun x53_ => an_e x53_ (fun e38_ x54_ => or_e x54_ (fun x55_ => an_e x55_ (fun h351_ x56_ => ex_e x56_ (fun z352_ x57_ => an_e x57_ (fun h353_ x58_ => ex_e x58_ (fun z354_ x59_ => an_e x59_ (fun h355_ x60_ => ex_e x60_ (fun j358_ x61_ => an_e x61_ (fun h359_ x62_ => ex_e x62_ (fun M356_ x63_ => an_e x63_ (fun hM357_ x64_ => ex_e x64_ (fun z362_ x65_ => an_e x65_ (fun h363_ x66_ => an_e x66_ (fun hq_v3_4y x67_ => an_e x67_ (fun hq_v2_4y x68_ => (fun hM_ => ((hk_at hk h15_ e13_).dead h37_ e38_ (by decide)).elim) x68_)))))))))))))) (fun x55_ => an_e x55_ (fun h351_ x56_ => ex_e x56_ (fun z364_ x57_ => an_e x57_ (fun h365_ x58_ => ex_e x58_ (fun j368_ x59_ => an_e x59_ (fun h369_ x60_ => ex_e x60_ (fun M366_ x61_ => an_e x61_ (fun hM367_ x62_ => ex_e x62_ (fun z372_ x63_ => an_e x63_ (fun h373_ x64_ => an_e x64_ (fun hq_v3_4y x65_ => an_e x65_ (fun hq_v2_4y x66_ => (fun hM_ => ((hk_at hk h15_ e13_).dead h37_ e38_ (by decide)).elim) x66_)))))))))))))) (fun x53_ => or_e x53_ (fun x54_ => an_e x54_ (fun e38_ x55_ => or_e x55_ (fun x56_ => an_e x56_ (fun h374_ x57_ => ex_e x57_ (fun z375_ x58_ => an_e x58_ (fun h376_ x59_ => ex_e x59_ (fun z377_ x60_ => an_e x60_ (fun h378_ x61_ => ex_e x61_ (fun j381_ x62_ => an_e x62_ (fun h382_ x63_ => ex_e x63_ (fun M379_ x64_ => an_e x64_ (fun hM380_ x65_ => ex_e x65_ (fun z385_ x66_ => an_e x66_ (fun h386_ x67_ => an_e x67_ (fun hq_v3_4y x68_ => an_e x68_ (fun hq_v2_4y x69_ => (fun hM_ => ((hk_at hk h15_ e13_).dead h37_ e38_ (by decide)).elim) x69_)))))))))))))) (fun x56_ => an_e x56_ (fun h374_ x57_ => ex_e x57_ (fun z387_ x58_ => an_e x58_ (fun h388_ x59_ => ex_e x59_ (fun j391_ x60_ => an_e x60_ (fun h392_ x61_ => ex_e x61_ (fun M389_ x62_ => an_e x62_ (fun hM390_ x63_ => ex_e x63_ (fun z395_ x64_ => an_e x64_ (fun h396_ x65_ => an_e x65_ (fun hq_v3_4y x66_ => an_e x66_ (fun hq_v2_4y x67_ => (fun hM_ => ((hk_at hk h15_ e13_).dead h37_ e38_ (by decide)).elim) x67_)))))))))))))) (fun x54_ => or_e x54_ (fun x55_ => an_e x55_ (fun e38_ x56_ => or_e x56_ (fun x57_ => an_e x57_ (fun h397_ x58_ => ex_e x58_ (fun z398_ x59_ => an_e x59_ (fun h399_ x60_ => ex_e x60_ (fun z400_ x61_ => an_e x61_ (fun h401_ x62_ => ex_e x62_ (fun j404_ x63_ => an_e x63_ (fun h405_ x64_ => ex_e x64_ (fun M402_ x65_ => an_e x65_ (fun hM403_ x66_ => ex_e x66_ (fun z408_ x67_ => an_e x67_ (fun h409_ x68_ => an_e x68_ (fun hq_v3_4y x69_ => an_e x69_ (fun hq_v2_4y x70_ => (fun hM_ => ((hk_at hk h15_ e13_).dead h37_ e38_ (by decide)).elim) x70_)))))))))))))) (fun x57_ => an_e x57_ (fun h397_ x58_ => ex_e x58_ (fun z410_ x59_ => an_e x59_ (fun h411_ x60_ => ex_e x60_ (fun j414_ x61_ => an_e x61_ (fun h415_ x62_ => ex_e x62_ (fun M412_ x63_ => an_e x63_ (fun hM413_ x64_ => ex_e x64_ (fun z418_ x65_ => an_e x65_ (fun h419_ x66_ => an_e x66_ (fun hq_v3_4y x67_ => an_e x67_ (fun hq_v2_4y x68_ => (fun hM_ => ((hk_at hk h15_ e13_).dead h37_ e38_ (by decide)).elim) x68_)))))))))))))) (fun x55_ => or_e x55_ (fun x56_ => an_e x56_ (fun e38_ x57_ => or_e x57_ (fun x58_ => an_e x58_ (fun h420_ x59_ => ex_e x59_ (fun z421_ x60_ => an_e x60_ (fun h422_ x61_ => ex_e x61_ (fun j425_ x62_ => an_e x62_ (fun h426_ x63_ => ex_e x63_ (fun M423_ x64_ => an_e x64_ (fun hM424_ x65_ => ex_e x65_ (fun z429_ x66_ => an_e x66_ (fun h430_ x67_ => an_e x67_ (fun hq_v3_4y x68_ => an_e x68_ (fun hq_v2_4y x69_ => (fun hM_ => wk_p34 ((hk_at hk h15_ e13_).op (m := 2000) h37_ e38_ (by decide)) hv0_4 hv1_4 hv2_4 h15_ e13_ h17_ h18_ h21_ h25_ h27_ h31_ e29_ h35_ e33_ h420_ h422_ h426_ hM424_ h430_ hq_v3_4y hq_v2_4y hM_) x69_)))))))))))) (fun x58_ => an_e x58_ (fun h420_ x59_ => ex_e x59_ (fun z431_ x60_ => an_e x60_ (fun h432_ x61_ => ex_e x61_ (fun j435_ x62_ => an_e x62_ (fun h436_ x63_ => ex_e x63_ (fun M433_ x64_ => an_e x64_ (fun hM434_ x65_ => ex_e x65_ (fun z439_ x66_ => an_e x66_ (fun h440_ x67_ => an_e x67_ (fun hq_v3_4y x68_ => an_e x68_ (fun hq_v2_4y x69_ => (fun hM_ => wk_p35 ((hk_at hk h15_ e13_).op (m := 2000) h37_ e38_ (by decide)) hv0_4 hv1_4 hv2_4 h15_ e13_ h17_ h18_ h21_ h25_ h27_ h31_ e29_ h35_ e33_ h420_ h432_ h436_ hM434_ h440_ hq_v3_4y hq_v2_4y hM_) x69_)))))))))))))) (fun x56_ => or_e x56_ (fun x57_ => an_e x57_ (fun e38_ x58_ => or_e x58_ (fun x59_ => an_e x59_ (fun h441_ x60_ => ex_e x60_ (fun z442_ x61_ => an_e x61_ (fun h443_ x62_ => ex_e x62_ (fun j446_ x63_ => an_e x63_ (fun h447_ x64_ => ex_e x64_ (fun M444_ x65_ => an_e x65_ (fun hM445_ x66_ => ex_e x66_ (fun z450_ x67_ => an_e x67_ (fun h451_ x68_ => an_e x68_ (fun hq_v3_4y x69_ => an_e x69_ (fun hq_v2_4y x70_ => (fun hM_ => wk_p36 ((hk_at hk h15_ e13_).op (m := 2001) h37_ e38_ (by decide)) hv0_4 hv1_4 hv2_4 h15_ e13_ h17_ h18_ h21_ h25_ h27_ h31_ e29_ h35_ e33_ h441_ h443_ h447_ hM445_ h451_ hq_v3_4y hq_v2_4y hM_) x70_)))))))))))) (fun x59_ => an_e x59_ (fun h441_ x60_ => ex_e x60_ (fun z452_ x61_ => an_e x61_ (fun h453_ x62_ => ex_e x62_ (fun j456_ x63_ => an_e x63_ (fun h457_ x64_ => ex_e x64_ (fun M454_ x65_ => an_e x65_ (fun hM455_ x66_ => ex_e x66_ (fun z460_ x67_ => an_e x67_ (fun h461_ x68_ => an_e x68_ (fun hq_v3_4y x69_ => an_e x69_ (fun hq_v2_4y x70_ => (fun hM_ => wk_p37 ((hk_at hk h15_ e13_).op (m := 2001) h37_ e38_ (by decide)) hv0_4 hv1_4 hv2_4 h15_ e13_ h17_ h18_ h21_ h25_ h27_ h31_ e29_ h35_ e33_ h441_ h453_ h457_ hM455_ h461_ hq_v3_4y hq_v2_4y hM_) x70_)))))))))))))) (fun x57_ => or_e x57_ (fun x58_ => an_e x58_ (fun e38_ x59_ => or_e x59_ (fun x60_ => an_e x60_ (fun h462_ x61_ => ex_e x61_ (fun z463_ x62_ => an_e x62_ (fun h464_ x63_ => ex_e x63_ (fun j467_ x64_ => an_e x64_ (fun h468_ x65_ => ex_e x65_ (fun M465_ x66_ => an_e x66_ (fun hM466_ x67_ => ex_e x67_ (fun z471_ x68_ => an_e x68_ (fun h472_ x69_ => an_e x69_ (fun hq_v3_4y x70_ => an_e x70_ (fun hq_v2_4y x71_ => (fun hM_ => wk_p38 ((hk_at hk h15_ e13_).op (m := 2002) h37_ e38_ (by decide)) hv0_4 hv1_4 hv2_4 h15_ e13_ h17_ h18_ h21_ h25_ h27_ h31_ e29_ h35_ e33_ h462_ h464_ h468_ hM466_ h472_ hq_v3_4y hq_v2_4y hM_) x71_)))))))))))) (fun x60_ => an_e x60_ (fun h462_ x61_ => ex_e x61_ (fun z473_ x62_ => an_e x62_ (fun h474_ x63_ => ex_e x63_ (fun j477_ x64_ => an_e x64_ (fun h478_ x65_ => ex_e x65_ (fun M475_ x66_ => an_e x66_ (fun hM476_ x67_ => ex_e x67_ (fun z481_ x68_ => an_e x68_ (fun h482_ x69_ => an_e x69_ (fun hq_v3_4y x70_ => an_e x70_ (fun hq_v2_4y x71_ => (fun hM_ => wk_p39 ((hk_at hk h15_ e13_).op (m := 2002) h37_ e38_ (by decide)) hv0_4 hv1_4 hv2_4 h15_ e13_ h17_ h18_ h21_ h25_ h27_ h31_ e29_ h35_ e33_ h462_ h474_ h478_ hM476_ h482_ hq_v3_4y hq_v2_4y hM_) x71_)))))))))))))) (fun x58_ => an_e x58_ (fun e38_ x59_ => or_e x59_ (fun x60_ => an_e x60_ (fun h483_ x61_ => ex_e x61_ (fun z484_ x62_ => an_e x62_ (fun h485_ x63_ => ex_e x63_ (fun z486_ x64_ => an_e x64_ (fun h487_ x65_ => ex_e x65_ (fun j490_ x66_ => an_e x66_ (fun h491_ x67_ => ex_e x67_ (fun M488_ x68_ => an_e x68_ (fun hM489_ x69_ => ex_e x69_ (fun z494_ x70_ => an_e x70_ (fun h495_ x71_ => an_e x71_ (fun hq_v3_4y x72_ => an_e x72_ (fun hq_v2_4y x73_ => (fun hM_ => wk_p40 ((hk_at hk h15_ e13_).dflt h18_ h19_ h20_ h37_ e38_.2.2.2.2.2.2.2.2.2.2.2.2.2.2.2.2.2.2.1 e38_.2.2.2.2.2.2.2.2.2.2.2.2.2.2.2.2.2.2.2.1 e38_.2.2.2.2.2.2.2.2.2.2.2.2.2.2.2.2.2.2.2.2 e38_.2.1 e38_.2.2.2.1 e38_.1 e38_.2.2.2.2.2.1) hv0_4 hv1_4 hv2_4 h15_ e13_ h17_ h18_ h21_ h25_ h27_ h31_ e29_ h35_ e33_ h483_ h485_ h487_ h491_ hM489_ h495_ hq_v3_4y hq_v2_4y hM_) x73_)))))))))))))) (fun x60_ => an_e x60_ (fun h483_ x61_ => ex_e x61_ (fun z496_ x62_ => an_e x62_ (fun h497_ x63_ => ex_e x63_ (fun j500_ x64_ => an_e x64_ (fun h501_ x65_ => ex_e x65_ (fun M498_ x66_ => an_e x66_ (fun hM499_ x67_ => ex_e x67_ (fun z504_ x68_ => an_e x68_ (fun h505_ x69_ => an_e x69_ (fun hq_v3_4y x70_ => an_e x70_ (fun hq_v2_4y x71_ => (fun hM_ => wk_p41 ((hk_at hk h15_ e13_).dflt h18_ h19_ h20_ h37_ e38_.2.2.2.2.2.2.2.2.2.2.2.2.2.2.2.2.2.2.1 e38_.2.2.2.2.2.2.2.2.2.2.2.2.2.2.2.2.2.2.2.1 e38_.2.2.2.2.2.2.2.2.2.2.2.2.2.2.2.2.2.2.2.2 e38_.2.1 e38_.2.2.2.1 e38_.1 e38_.2.2.2.2.2.1) hv0_4 hv1_4 hv2_4 h15_ e13_ h17_ h18_ h21_ h25_ h27_ h31_ e29_ h35_ e33_ h483_ h497_ h501_ hM499_ h505_ hq_v3_4y hq_v2_4y hM_) x71_)))))))))))))))))))))))))))))))))))))))))))))))))))) (fun x20_ => an_e x20_ (fun h20_ x21_ => or_e x21_ (fun x22_ => an_e x22_ (fun h506_ x23_ => or_e x23_ (fun x24_ => an_e x24_ (fun h507_ x25_ => ex_e x25_ (fun z508_ x26_ => an_e x26_ (fun h509_ x27_ => an_e x27_ (fun hq_v3_4y x28_ => an_e x28_ (fun hq_v2_4y x29_ => (fun hM_ => ((hk_at hk h15_ e13_).choD h20_ h506_).elim) x29_)))))) (fun x24_ => an_e x24_ (fun h507_ x25_ => ex_e x25_ (fun z510_ x26_ => an_e x26_ (fun h511_ x27_ => ex_e x27_ (fun z512_ x28_ => an_e x28_ (fun h513_ x29_ => ex_e x29_ (fun j516_ x30_ => an_e x30_ (fun h517_ x31_ => ex_e x31_ (fun z514_ x32_ => an_e x32_ (fun e515_ x33_ => ex_e x33_ (fun j520_ x34_ => an_e x34_ (fun h521_ x35_ => ex_e x35_ (fun z518_ x36_ => an_e x36_ (fun e519_ x37_ => ex_e x37_ (fun z522_ x38_ => an_e x38_ (fun h523_ x39_ => or_e x39_ (fun x40_ => an_e x40_ (fun h524_ x41_ => ex_e x41_ (fun z525_ x42_ => an_e x42_ (fun h526_ x43_ => ex_e x43_ (fun z527_ x44_ => an_e x44_ (fun h528_ x45_ => ex_e x45_ (fun j531_ x46_ => an_e x46_ (fun h532_ x47_ => ex_e x47_ (fun M529_ x48_ => an_e x48_ (fun hM530_ x49_ => ex_e x49_ (fun z535_ x50_ => an_e x50_ (fun h536_ x51_ => an_e x51_ (fun hq_v3_4y x52_ => an_e x52_ (fun hq_v2_4y x53_ => (fun hM_ => ((hk_at hk h15_ e13_).choD h20_ h506_).elim) x53_)))))))))))))) (fun x40_ => an_e x40_ (fun h524_ x41_ => ex_e x41_ (fun z537_ x42_ => an_e x42_ (fun h538_ x43_ => ex_e x43_ (fun j541_ x44_ => an_e x44_ (fun h542_ x45_ => ex_e x45_ (fun M539_ x46_ => an_e x46_ (fun hM540_ x47_ => ex_e x47_ (fun z545_ x48_ => an_e x48_ (fun h546_ x49_ => an_e x49_ (fun hq_v3_4y x50_ => an_e x50_ (fun hq_v2_4y x51_ => (fun hM_ => ((hk_at hk h15_ e13_).choD h20_ h506_).elim) x51_)))))))))))))))))))))))))))))) (fun x22_ => an_e x22_ (fun h506_ x23_ => ex_e x23_ (fun z547_ x24_ => an_e x24_ (fun h548_ x25_ => ex_e x25_ (fun z549_ x26_ => an_e x26_ (fun h550_ x27_ => ex_e x27_ (fun z551_ x28_ => an_e x28_ (fun h552_ x29_ => ex_e x29_ (fun j555_ x30_ => an_e x30_ (fun h556_ x31_ => ex_e x31_ (fun z553_ x32_ => an_e x32_ (fun e554_ x33_ => or_e x33_ (fun x34_ => an_e x34_ (fun h557_ x35_ => ex_e x35_ (fun z558_ x36_ => an_e x36_ (fun h559_ x37_ => ex_e x37_ (fun j562_ x38_ => an_e x38_ (fun h563_ x39_ => ex_e x39_ (fun z560_ x40_ => an_e x40_ (fun e561_ x41_ => ex_e x41_ (fun j566_ x42_ => an_e x42_ (fun h567_ x43_ => ex_e x43_ (fun M564_ x44_ => an_e x44_ (fun hM565_ x45_ => ex_e x45_ (fun z570_ x46_ => an_e x46_ (fun h571_ x47_ => an_e x47_ (fun hq_v3_4y x48_ => an_e x48_ (fun hq_v2_4y x49_ => (fun hM_ => wk_p45 ((hk_at hk h15_ e13_).cho h20_) hv0_4 hv1_4 hv2_4 h15_ e13_ h17_ h18_ h20_ h506_ h548_ h550_ h552_ h556_ e554_ h557_ h559_ h563_ e561_ h567_ hM565_ h571_ hq_v3_4y hq_v2_4y hM_) x49_)))))))))))))))) (fun x34_ => an_e x34_ (fun h557_ x35_ => ex_e x35_ (fun j574_ x36_ => an_e x36_ (fun h575_ x37_ => ex_e x37_ (fun z572_ x38_ => an_e x38_ (fun e573_ x39_ => ex_e x39_ (fun j578_ x40_ => an_e x40_ (fun h579_ x41_ => ex_e x41_ (fun M576_ x42_ => an_e x42_ (fun hM577_ x43_ => ex_e x43_ (fun z582_ x44_ => an_e x44_ (fun h583_ x45_ => an_e x45_ (fun hq_v3_4y x46_ => an_e x46_ (fun hq_v2_4y x47_ => (fun hM_ => wk_p46 ((hk_at hk h15_ e13_).cho h20_) hv0_4 hv1_4 hv2_4 h15_ e13_ h17_ h18_ h20_ h506_ h548_ h550_ h552_ h556_ e554_ h557_ h575_ e573_ h579_ hM577_ h583_ hq_v3_4y hq_v2_4y hM_) x47_)))))))))))))))))))))))))))))) (fun x18_ => an_e x18_ (fun h19_ x19_ => or_e x19_ (fun x20_ => an_e x20_ (fun h584_ x21_ => an_e x21_ (fun h585_ x22_ => an_e x22_ (fun h586_ x23_ => ex_e x23_ (fun z587_ x24_ => an_e x24_ (fun h588_ x25_ => an_e x25_ (fun hq_v3_4y x26_ => an_e x26_ (fun hq_v2_4y x27_ => (fun hM_ => ((hk_at hk h15_ e13_).negD h19_ h584_).elim) x27_)))))))) (fun x20_ => an_e x20_ (fun h584_ x21_ => ex_e x21_ (fun z589_ x22_ => an_e x22_ (fun h590_ x23_ => ex_e x23_ (fun z591_ x24_ => an_e x24_ (fun h592_ x25_ => ex_e x25_ (fun j595_ x26_ => an_e x26_ (fun h596_ x27_ => ex_e x27_ (fun z593_ x28_ => an_e x28_ (fun e594_ x29_ => ex_e x29_ (fun z597_ x30_ => an_e x30_ (fun h598_ x31_ => ex_e x31_ (fun j601_ x32_ => an_e x32_ (fun h602_ x33_ => ex_e x33_ (fun M599_ x34_ => an_e x34_ (fun hM600_ x35_ => ex_e x35_ (fun z605_ x36_ => an_e x36_ (fun h606_ x37_ => an_e x37_ (fun hq_v3_4y x38_ => an_e x38_ (fun hq_v2_4y x39_ => (fun hM_ => wk_p48 ((hk_at hk h15_ e13_).neg h19_) hv0_4 hv1_4 hv2_4 h15_ e13_ h17_ h18_ h19_ h584_ h590_ h592_ h596_ e594_ h598_ h602_ hM600_ h606_ hq_v3_4y hq_v2_4y hM_) x39_)))))))))))))))))))))))) (fun x16_ => an_e x16_ (fun h18_ x17_ => or_e x17_ (fun x18_ => an_e x18_ (fun h607_ x19_ => an_e x19_ (fun h608_ x20_ => an_e x20_ (fun h609_ x21_ => an_e x21_ (fun h610_ x22_ => ex_e x22_ (fun z611_ x23_ => an_e x23_ (fun h612_ x24_ => ex_e x24_ (fun z613_ x25_ => an_e x25_ (fun h614_ x26_ => ex_e x26_ (fun j617_ x27_ => an_e x27_ (fun h618_ x28_ => ex_e x28_ (fun z615_ x29_ => an_e x29_ (fun e616_ x30_ => ex_e x30_ (fun j621_ x31_ => an_e x31_ (fun h622_ x32_ => ex_e x32_ (fun z619_ x33_ => an_e x33_ (fun e620_ x34_ => ex_e x34_ (fun z623_ x35_ => an_e x35_ (fun h624_ x36_ => or_e x36_ (fun x37_ => an_e x37_ (fun e625_ x38_ => ex_e x38_ (fun z626_ x39_ => an_e x39_ (fun h627_ x40_ => ex_e x40_ (fun z628_ x41_ => an_e x41_ (fun h629_ x42_ => ex_e x42_ (fun j632_ x43_ => an_e x43_ (fun h633_ x44_ => ex_e x44_ (fun M630_ x45_ => an_e x45_ (fun hM631_ x46_ => ex_e x46_ (fun z636_ x47_ => an_e x47_ (fun h637_ x48_ => an_e x48_ (fun hq_v3_4y x49_ => an_e x49_ (fun hq_v2_4y x50_ => (fun hM_ => ((hk_at hk h15_ e13_).lowD h18_ h607_).elim) x50_)))))))))))))) (fun x37_ => or_e x37_ (fun x38_ => an_e x38_ (fun e625_ x39_ => ex_e x39_ (fun z638_ x40_ => an_e x40_ (fun h639_ x41_ => ex_e x41_ (fun z640_ x42_ => an_e x42_ (fun h641_ x43_ => ex_e x43_ (fun j644_ x44_ => an_e x44_ (fun h645_ x45_ => ex_e x45_ (fun M642_ x46_ => an_e x46_ (fun hM643_ x47_ => ex_e x47_ (fun z648_ x48_ => an_e x48_ (fun h649_ x49_ => an_e x49_ (fun hq_v3_4y x50_ => an_e x50_ (fun hq_v2_4y x51_ => (fun hM_ => ((hk_at hk h15_ e13_).lowD h18_ h607_).elim) x51_)))))))))))))) (fun x38_ => or_e x38_ (fun x39_ => an_e x39_ (fun e625_ x40_ => or_e x40_ (fun x41_ => an_e x41_ (fun h650_ x42_ => ex_e x42_ (fun z651_ x43_ => an_e x43_ (fun h652_ x44_ => ex_e x44_ (fun z653_ x45_ => an_e x45_ (fun h654_ x46_ => ex_e x46_ (fun j657_ x47_ => an_e x47_ (fun h658_ x48_ => ex_e x48_ (fun M655_ x49_ => an_e x49_ (fun hM656_ x50_ => ex_e x50_ (fun z661_ x51_ => an_e x51_ (fun h662_ x52_ => an_e x52_ (fun hq_v3_4y x53_ => an_e x53_ (fun hq_v2_4y x54_ => (fun hM_ => ((hk_at hk h15_ e13_).lowD h18_ h607_).elim) x54_)))))))))))))) (fun x41_ => an_e x41_ (fun h650_ x42_ => ex_e x42_ (fun z663_ x43_ => an_e x43_ (fun h664_ x44_ => ex_e x44_ (fun j667_ x45_ => an_e x45_ (fun h668_ x46_ => ex_e x46_ (fun M665_ x47_ => an_e x47_ (fun hM666_ x48_ => ex_e x48_ (fun z671_ x49_ => an_e x49_ (fun h672_ x50_ => an_e x50_ (fun hq_v3_4y x51_ => an_e x51_ (fun hq_v2_4y x52_ => (fun hM_ => ((hk_at hk h15_ e13_).lowD h18_ h607_).elim) x52_)))))))))))))) (fun x39_ => or_e x39_ (fun x40_ => an_e x40_ (fun e625_ x41_ => ex_e x41_ (fun z673_ x42_ => an_e x42_ (fun h674_ x43_ => ex_e x43_ (fun z675_ x44_ => an_e x44_ (fun h676_ x45_ => ex_e x45_ (fun j679_ x46_ => an_e x46_ (fun h680_ x47_ => ex_e x47_ (fun M677_ x48_ => an_e x48_ (fun hM678_ x49_ => ex_e x49_ (fun z683_ x50_ => an_e x50_ (fun h684_ x51_ => an_e x51_ (fun hq_v3_4y x52_ => an_e x52_ (fun hq_v2_4y x53_ => (fun hM_ => ((hk_at hk h15_ e13_).lowD h18_ h607_).elim) x53_)))))))))))))) (fun x40_ => or_e x40_ (fun x41_ => an_e x41_ (fun e625_ x42_ => or_e x42_ (fun x43_ => an_e x43_ (fun h685_ x44_ => ex_e x44_ (fun z686_ x45_ => an_e x45_ (fun h687_ x46_ => ex_e x46_ (fun z688_ x47_ => an_e x47_ (fun h689_ x48_ => ex_e x48_ (fun j692_ x49_ => an_e x49_ (fun h693_ x50_ => ex_e x50_ (fun M690_ x51_ => an_e x51_ (fun hM691_ x52_ => ex_e x52_ (fun z696_ x53_ => an_e x53_ (fun h697_ x54_ => an_e x54_ (fun hq_v3_4y x55_ => an_e x55_ (fun hq_v2_4y x56_ => (fun hM_ => ((hk_at hk h15_ e13_).lowD h18_ h607_).elim) x56_)))))))))))))) (fun x43_ => an_e x43_ (fun h685_ x44_ => ex_e x44_ (fun z698_ x45_ => an_e x45_ (fun h699_ x46_ => ex_e x46_ (fun j702_ x47_ => an_e x47_ (fun h703_ x48_ => ex_e x48_ (fun M700_ x49_ => an_e x49_ (fun hM701_ x50_ => ex_e x50_ (fun z706_ x51_ => an_e x51_ (fun h707_ x52_ => an_e x52_ (fun hq_v3_4y x53_ => an_e x53_ (fun hq_v2_4y x54_ => (fun hM_ => ((hk_at hk h15_ e13_).lowD h18_ h607_).elim) x54_)))))))))))))) (fun x41_ => or_e x41_ (fun x42_ => an_e x42_ (fun e625_ x43_ => or_e x43_ (fun x44_ => an_e x44_ (fun h708_ x45_ => ex_e x45_ (fun z709_ x46_ => an_e x46_ (fun h710_ x47_ => ex_e x47_ (fun z711_ x48_ => an_e x48_ (fun h712_ x49_ => ex_e x49_ (fun j715_ x50_ => an_e x50_ (fun h716_ x51_ => ex_e x51_ (fun M713_ x52_ => an_e x52_ (fun hM714_ x53_ => ex_e x53_ (fun z719_ x54_ => an_e x54_ (fun h720_ x55_ => an_e x55_ (fun hq_v3_4y x56_ => an_e x56_ (fun hq_v2_4y x57_ => (fun hM_ => ((hk_at hk h15_ e13_).lowD h18_ h607_).elim) x57_)))))))))))))) (fun x44_ => an_e x44_ (fun h708_ x45_ => ex_e x45_ (fun z721_ x46_ => an_e x46_ (fun h722_ x47_ => ex_e x47_ (fun j725_ x48_ => an_e x48_ (fun h726_ x49_ => ex_e x49_ (fun M723_ x50_ => an_e x50_ (fun hM724_ x51_ => ex_e x51_ (fun z729_ x52_ => an_e x52_ (fun h730_ x53_ => an_e x53_ (fun hq_v3_4y x54_ => an_e x54_ (fun hq_v2_4y x55_ => (fun hM_ => ((hk_at hk h15_ e13_).lowD h18_ h607_).elim) x55_)))))))))))))) (fun x42_ => or_e x42_ (fun x43_ => an_e x43_ (fun e625_ x44_ => or_e x44_ (fun x45_ => an_e x45_ (fun h731_ x46_ => ex_e x46_ (fun z732_ x47_ => an_e x47_ (fun h733_ x48_ => ex_e x48_ (fun z734_ x49_ => an_e x49_ (fun h735_ x50_ => ex_e x50_ (fun j738_ x51_ => an_e x51_ (fun h739_ x52_ => ex_e x52_ (fun M736_ x53_ => an_e x53_ (fun hM737_ x54_ => ex_e x54_ (fun z742_ x55_ => an_e x55_ (fun h743_ x56_ => an_e x56_ (fun hq_v3_4y x57_ => an_e x57_ (fun hq_v2_4y x58_ => (fun hM_ => ((hk_at hk h15_ e13_).lowD h18_ h607_).elim) x58_)))))))))))))) (fun x45_ => an_e x45_ (fun h731_ x46_ => ex_e x46_ (fun z744_ x47_ => an_e x47_ (fun h745_ x48_ => ex_e x48_ (fun j748_ x49_ => an_e x49_ (fun h749_ x50_ => ex_e x50_ (fun M746_ x51_ => an_e x51_ (fun hM747_ x52_ => ex_e x52_ (fun z752_ x53_ => an_e x53_ (fun h753_ x54_ => an_e x54_ (fun hq_v3_4y x55_ => an_e x55_ (fun hq_v2_4y x56_ => (fun hM_ => ((hk_at hk h15_ e13_).lowD h18_ h607_).elim) x56_)))))))))))))) (fun x43_ => or_e x43_ (fun x44_ => an_e x44_ (fun e625_ x45_ => or_e x45_ (fun x46_ => an_e x46_ (fun h754_ x47_ => ex_e x47_ (fun z755_ x48_ => an_e x48_ (fun h756_ x49_ => ex_e x49_ (fun z757_ x50_ => an_e x50_ (fun h758_ x51_ => ex_e x51_ (fun j761_ x52_ => an_e x52_ (fun h762_ x53_ => ex_e x53_ (fun M759_ x54_ => an_e x54_ (fun hM760_ x55_ => ex_e x55_ (fun z765_ x56_ => an_e x56_ (fun h766_ x57_ => an_e x57_ (fun hq_v3_4y x58_ => an_e x58_ (fun hq_v2_4y x59_ => (fun hM_ => ((hk_at hk h15_ e13_).lowD h18_ h607_).elim) x59_)))))))))))))) (fun x46_ => an_e x46_ (fun h754_ x47_ => ex_e x47_ (fun z767_ x48_ => an_e x48_ (fun h768_ x49_ => ex_e x49_ (fun j771_ x50_ => an_e x50_ (fun h772_ x51_ => ex_e x51_ (fun M769_ x52_ => an_e x52_ (fun hM770_ x53_ => ex_e x53_ (fun z775_ x54_ => an_e x54_ (fun h776_ x55_ => an_e x55_ (fun hq_v3_4y x56_ => an_e x56_ (fun hq_v2_4y x57_ => (fun hM_ => ((hk_at hk h15_ e13_).lowD h18_ h607_).elim) x57_)))))))))))))) (fun x44_ => or_e x44_ (fun x45_ => an_e x45_ (fun e625_ x46_ => or_e x46_ (fun x47_ => an_e x47_ (fun h777_ x48_ => ex_e x48_ (fun z778_ x49_ => an_e x49_ (fun h779_ x50_ => ex_e x50_ (fun z780_ x51_ => an_e x51_ (fun h781_ x52_ => ex_e x52_ (fun j784_ x53_ => an_e x53_ (fun h785_ x54_ => ex_e x54_ (fun M782_ x55_ => an_e x55_ (fun hM783_ x56_ => ex_e x56_ (fun z788_ x57_ => an_e x57_ (fun h789_ x58_ => an_e x58_ (fun hq_v3_4y x59_ => an_e x59_ (fun hq_v2_4y x60_ => (fun hM_ => ((hk_at hk h15_ e13_).lowD h18_ h607_).elim) x60_)))))))))))))) (fun x47_ => an_e x47_ (fun h777_ x48_ => ex_e x48_ (fun z790_ x49_ => an_e x49_ (fun h791_ x50_ => ex_e x50_ (fun j794_ x51_ => an_e x51_ (fun h795_ x52_ => ex_e x52_ (fun M792_ x53_ => an_e x53_ (fun hM793_ x54_ => ex_e x54_ (fun z798_ x55_ => an_e x55_ (fun h799_ x56_ => an_e x56_ (fun hq_v3_4y x57_ => an_e x57_ (fun hq_v2_4y x58_ => (fun hM_ => ((hk_at hk h15_ e13_).lowD h18_ h607_).elim) x58_)))))))))))))) (fun x45_ => or_e x45_ (fun x46_ => an_e x46_ (fun e625_ x47_ => or_e x47_ (fun x48_ => an_e x48_ (fun h800_ x49_ => ex_e x49_ (fun z801_ x50_ => an_e x50_ (fun h802_ x51_ => ex_e x51_ (fun z803_ x52_ => an_e x52_ (fun h804_ x53_ => ex_e x53_ (fun j807_ x54_ => an_e x54_ (fun h808_ x55_ => ex_e x55_ (fun M805_ x56_ => an_e x56_ (fun hM806_ x57_ => ex_e x57_ (fun z811_ x58_ => an_e x58_ (fun h812_ x59_ => an_e x59_ (fun hq_v3_4y x60_ => an_e x60_ (fun hq_v2_4y x61_ => (fun hM_ => ((hk_at hk h15_ e13_).lowD h18_ h607_).elim) x61_)))))))))))))) (fun x48_ => an_e x48_ (fun h800_ x49_ => ex_e x49_ (fun z813_ x50_ => an_e x50_ (fun h814_ x51_ => ex_e x51_ (fun j817_ x52_ => an_e x52_ (fun h818_ x53_ => ex_e x53_ (fun M815_ x54_ => an_e x54_ (fun hM816_ x55_ => ex_e x55_ (fun z821_ x56_ => an_e x56_ (fun h822_ x57_ => an_e x57_ (fun hq_v3_4y x58_ => an_e x58_ (fun hq_v2_4y x59_ => (fun hM_ => ((hk_at hk h15_ e13_).lowD h18_ h607_).elim) x59_)))))))))))))) (fun x46_ => or_e x46_ (fun x47_ => an_e x47_ (fun e625_ x48_ => or_e x48_ (fun x49_ => an_e x49_ (fun h823_ x50_ => ex_e x50_ (fun z824_ x51_ => an_e x51_ (fun h825_ x52_ => ex_e x52_ (fun z826_ x53_ => an_e x53_ (fun h827_ x54_ => ex_e x54_ (fun j830_ x55_ => an_e x55_ (fun h831_ x56_ => ex_e x56_ (fun M828_ x57_ => an_e x57_ (fun hM829_ x58_ => ex_e x58_ (fun z834_ x59_ => an_e x59_ (fun h835_ x60_ => an_e x60_ (fun hq_v3_4y x61_ => an_e x61_ (fun hq_v2_4y x62_ => (fun hM_ => ((hk_at hk h15_ e13_).lowD h18_ h607_).elim) x62_)))))))))))))) (fun x49_ => an_e x49_ (fun h823_ x50_ => ex_e x50_ (fun z836_ x51_ => an_e x51_ (fun h837_ x52_ => ex_e x52_ (fun j840_ x53_ => an_e x53_ (fun h841_ x54_ => ex_e x54_ (fun M838_ x55_ => an_e x55_ (fun hM839_ x56_ => ex_e x56_ (fun z844_ x57_ => an_e x57_ (fun h845_ x58_ => an_e x58_ (fun hq_v3_4y x59_ => an_e x59_ (fun hq_v2_4y x60_ => (fun hM_ => ((hk_at hk h15_ e13_).lowD h18_ h607_).elim) x60_)))))))))))))) (fun x47_ => or_e x47_ (fun x48_ => an_e x48_ (fun e625_ x49_ => or_e x49_ (fun x50_ => an_e x50_ (fun h846_ x51_ => ex_e x51_ (fun z847_ x52_ => an_e x52_ (fun h848_ x53_ => ex_e x53_ (fun z849_ x54_ => an_e x54_ (fun h850_ x55_ => ex_e x55_ (fun j853_ x56_ => an_e x56_ (fun h854_ x57_ => ex_e x57_ (fun M851_ x58_ => an_e x58_ (fun hM852_ x59_ => ex_e x59_ (fun z857_ x60_ => an_e x60_ (fun h858_ x61_ => an_e x61_ (fun hq_v3_4y x62_ => an_e x62_ (fun hq_v2_4y x63_ => (fun hM_ => ((hk_at hk h15_ e13_).lowD h18_ h607_).elim) x63_)))))))))))))) (fun x50_ => an_e x50_ (fun h846_ x51_ => ex_e x51_ (fun z859_ x52_ => an_e x52_ (fun h860_ x53_ => ex_e x53_ (fun j863_ x54_ => an_e x54_ (fun h864_ x55_ => ex_e x55_ (fun M861_ x56_ => an_e x56_ (fun hM862_ x57_ => ex_e x57_ (fun z867_ x58_ => an_e x58_ (fun h868_ x59_ => an_e x59_ (fun hq_v3_4y x60_ => an_e x60_ (fun hq_v2_4y x61_ => (fun hM_ => ((hk_at hk h15_ e13_).lowD h18_ h607_).elim) x61_)))))))))))))) (fun x48_ => or_e x48_ (fun x49_ => an_e x49_ (fun e625_ x50_ => or_e x50_ (fun x51_ => an_e x51_ (fun h869_ x52_ => ex_e x52_ (fun z870_ x53_ => an_e x53_ (fun h871_ x54_ => ex_e x54_ (fun z872_ x55_ => an_e x55_ (fun h873_ x56_ => ex_e x56_ (fun j876_ x57_ => an_e x57_ (fun h877_ x58_ => ex_e x58_ (fun M874_ x59_ => an_e x59_ (fun hM875_ x60_ => ex_e x60_ (fun z880_ x61_ => an_e x61_ (fun h881_ x62_ => an_e x62_ (fun hq_v3_4y x63_ => an_e x63_ (fun hq_v2_4y x64_ => (fun hM_ => ((hk_at hk h15_ e13_).lowD h18_ h607_).elim) x64_)))))))))))))) (fun x51_ => an_e x51_ (fun h869_ x52_ => ex_e x52_ (fun z882_ x53_ => an_e x53_ (fun h883_ x54_ => ex_e x54_ (fun j886_ x55_ => an_e x55_ (fun h887_ x56_ => ex_e x56_ (fun M884_ x57_ => an_e x57_ (fun hM885_ x58_ => ex_e x58_ (fun z890_ x59_ => an_e x59_ (fun h891_ x60_ => an_e x60_ (fun hq_v3_4y x61_ => an_e x61_ (fun hq_v2_4y x62_ => (fun hM_ => ((hk_at hk h15_ e13_).lowD h18_ h607_).elim) x62_)))))))))))))) (fun x49_ => or_e x49_ (fun x50_ => an_e x50_ (fun e625_ x51_ => or_e x51_ (fun x52_ => an_e x52_ (fun h892_ x53_ => ex_e x53_ (fun z893_ x54_ => an_e x54_ (fun h894_ x55_ => ex_e x55_ (fun z895_ x56_ => an_e x56_ (fun h896_ x57_ => ex_e x57_ (fun j899_ x58_ => an_e x58_ (fun h900_ x59_ => ex_e x59_ (fun M897_ x60_ => an_e x60_ (fun hM898_ x61_ => ex_e x61_ (fun z903_ x62_ => an_e x62_ (fun h904_ x63_ => an_e x63_ (fun hq_v3_4y x64_ => an_e x64_ (fun hq_v2_4y x65_ => (fun hM_ => ((hk_at hk h15_ e13_).lowD h18_ h607_).elim) x65_)))))))))))))) (fun x52_ => an_e x52_ (fun h892_ x53_ => ex_e x53_ (fun z905_ x54_ => an_e x54_ (fun h906_ x55_ => ex_e x55_ (fun j909_ x56_ => an_e x56_ (fun h910_ x57_ => ex_e x57_ (fun M907_ x58_ => an_e x58_ (fun hM908_ x59_ => ex_e x59_ (fun z913_ x60_ => an_e x60_ (fun h914_ x61_ => an_e x61_ (fun hq_v3_4y x62_ => an_e x62_ (fun hq_v2_4y x63_ => (fun hM_ => ((hk_at hk h15_ e13_).lowD h18_ h607_).elim) x63_)))))))))))))) (fun x50_ => or_e x50_ (fun x51_ => an_e x51_ (fun e625_ x52_ => or_e x52_ (fun x53_ => an_e x53_ (fun h915_ x54_ => ex_e x54_ (fun z916_ x55_ => an_e x55_ (fun h917_ x56_ => ex_e x56_ (fun z918_ x57_ => an_e x57_ (fun h919_ x58_ => ex_e x58_ (fun j922_ x59_ => an_e x59_ (fun h923_ x60_ => ex_e x60_ (fun M920_ x61_ => an_e x61_ (fun hM921_ x62_ => ex_e x62_ (fun z926_ x63_ => an_e x63_ (fun h927_ x64_ => an_e x64_ (fun hq_v3_4y x65_ => an_e x65_ (fun hq_v2_4y x66_ => (fun hM_ => ((hk_at hk h15_ e13_).lowD h18_ h607_).elim) x66_)))))))))))))) (fun x53_ => an_e x53_ (fun h915_ x54_ => ex_e x54_ (fun z928_ x55_ => an_e x55_ (fun h929_ x56_ => ex_e x56_ (fun j932_ x57_ => an_e x57_ (fun h933_ x58_ => ex_e x58_ (fun M930_ x59_ => an_e x59_ (fun hM931_ x60_ => ex_e x60_ (fun z936_ x61_ => an_e x61_ (fun h937_ x62_ => an_e x62_ (fun hq_v3_4y x63_ => an_e x63_ (fun hq_v2_4y x64_ => (fun hM_ => ((hk_at hk h15_ e13_).lowD h18_ h607_).elim) x64_)))))))))))))) (fun x51_ => or_e x51_ (fun x52_ => an_e x52_ (fun e625_ x53_ => or_e x53_ (fun x54_ => an_e x54_ (fun h938_ x55_ => ex_e x55_ (fun z939_ x56_ => an_e x56_ (fun h940_ x57_ => ex_e x57_ (fun z941_ x58_ => an_e x58_ (fun h942_ x59_ => ex_e x59_ (fun j945_ x60_ => an_e x60_ (fun h946_ x61_ => ex_e x61_ (fun M943_ x62_ => an_e x62_ (fun hM944_ x63_ => ex_e x63_ (fun z949_ x64_ => an_e x64_ (fun h950_ x65_ => an_e x65_ (fun hq_v3_4y x66_ => an_e x66_ (fun hq_v2_4y x67_ => (fun hM_ => ((hk_at hk h15_ e13_).lowD h18_ h607_).elim) x67_)))))))))))))) (fun x54_ => an_e x54_ (fun h938_ x55_ => ex_e x55_ (fun z951_ x56_ => an_e x56_ (fun h952_ x57_ => ex_e x57_ (fun j955_ x58_ => an_e x58_ (fun h956_ x59_ => ex_e x59_ (fun M953_ x60_ => an_e x60_ (fun hM954_ x61_ => ex_e x61_ (fun z959_ x62_ => an_e x62_ (fun h960_ x63_ => an_e x63_ (fun hq_v3_4y x64_ => an_e x64_ (fun hq_v2_4y x65_ => (fun hM_ => ((hk_at hk h15_ e13_).lowD h18_ h607_).elim) x65_)))))))))))))) (fun x52_ => or_e x52_ (fun x53_ => an_e x53_ (fun e625_ x54_ => or_e x54_ (fun x55_ => an_e x55_ (fun h961_ x56_ => ex_e x56_ (fun z962_ x57_ => an_e x57_ (fun h963_ x58_ => ex_e x58_ (fun z964_ x59_ => an_e x59_ (fun h965_ x60_ => ex_e x60_ (fun j968_ x61_ => an_e x61_ (fun h969_ x62_ => ex_e x62_ (fun M966_ x63_ => an_e x63_ (fun hM967_ x64_ => ex_e x64_ (fun z972_ x65_ => an_e x65_ (fun h973_ x66_ => an_e x66_ (fun hq_v3_4y x67_ => an_e x67_ (fun hq_v2_4y x68_ => (fun hM_ => ((hk_at hk h15_ e13_).lowD h18_ h607_).elim) x68_)))))))))))))) (fun x55_ => an_e x55_ (fun h961_ x56_ => ex_e x56_ (fun z974_ x57_ => an_e x57_ (fun h975_ x58_ => ex_e x58_ (fun j978_ x59_ => an_e x59_ (fun h979_ x60_ => ex_e x60_ (fun M976_ x61_ => an_e x61_ (fun hM977_ x62_ => ex_e x62_ (fun z982_ x63_ => an_e x63_ (fun h983_ x64_ => an_e x64_ (fun hq_v3_4y x65_ => an_e x65_ (fun hq_v2_4y x66_ => (fun hM_ => ((hk_at hk h15_ e13_).lowD h18_ h607_).elim) x66_)))))))))))))) (fun x53_ => or_e x53_ (fun x54_ => an_e x54_ (fun e625_ x55_ => or_e x55_ (fun x56_ => an_e x56_ (fun h984_ x57_ => ex_e x57_ (fun z985_ x58_ => an_e x58_ (fun h986_ x59_ => ex_e x59_ (fun z987_ x60_ => an_e x60_ (fun h988_ x61_ => ex_e x61_ (fun j991_ x62_ => an_e x62_ (fun h992_ x63_ => ex_e x63_ (fun M989_ x64_ => an_e x64_ (fun hM990_ x65_ => ex_e x65_ (fun z995_ x66_ => an_e x66_ (fun h996_ x67_ => an_e x67_ (fun hq_v3_4y x68_ => an_e x68_ (fun hq_v2_4y x69_ => (fun hM_ => ((hk_at hk h15_ e13_).lowD h18_ h607_).elim) x69_)))))))))))))) (fun x56_ => an_e x56_ (fun h984_ x57_ => ex_e x57_ (fun z997_ x58_ => an_e x58_ (fun h998_ x59_ => ex_e x59_ (fun j1001_ x60_ => an_e x60_ (fun h1002_ x61_ => ex_e x61_ (fun M999_ x62_ => an_e x62_ (fun hM1000_ x63_ => ex_e x63_ (fun z1005_ x64_ => an_e x64_ (fun h1006_ x65_ => an_e x65_ (fun hq_v3_4y x66_ => an_e x66_ (fun hq_v2_4y x67_ => (fun hM_ => ((hk_at hk h15_ e13_).lowD h18_ h607_).elim) x67_)))))))))))))) (fun x54_ => or_e x54_ (fun x55_ => an_e x55_ (fun e625_ x56_ => or_e x56_ (fun x57_ => an_e x57_ (fun h1007_ x58_ => ex_e x58_ (fun z1008_ x59_ => an_e x59_ (fun h1009_ x60_ => ex_e x60_ (fun j1012_ x61_ => an_e x61_ (fun h1013_ x62_ => ex_e x62_ (fun M1010_ x63_ => an_e x63_ (fun hM1011_ x64_ => ex_e x64_ (fun z1016_ x65_ => an_e x65_ (fun h1017_ x66_ => an_e x66_ (fun hq_v3_4y x67_ => an_e x67_ (fun hq_v2_4y x68_ => (fun hM_ => ((hk_at hk h15_ e13_).lowD h18_ h607_).elim) x68_)))))))))))) (fun x57_ => an_e x57_ (fun h1007_ x58_ => ex_e x58_ (fun z1018_ x59_ => an_e x59_ (fun h1019_ x60_ => ex_e x60_ (fun j1022_ x61_ => an_e x61_ (fun h1023_ x62_ => ex_e x62_ (fun M1020_ x63_ => an_e x63_ (fun hM1021_ x64_ => ex_e x64_ (fun z1026_ x65_ => an_e x65_ (fun h1027_ x66_ => an_e x66_ (fun hq_v3_4y x67_ => an_e x67_ (fun hq_v2_4y x68_ => (fun hM_ => ((hk_at hk h15_ e13_).lowD h18_ h607_).elim) x68_)))))))))))))) (fun x55_ => or_e x55_ (fun x56_ => an_e x56_ (fun e625_ x57_ => or_e x57_ (fun x58_ => an_e x58_ (fun h1028_ x59_ => ex_e x59_ (fun z1029_ x60_ => an_e x60_ (fun h1030_ x61_ => ex_e x61_ (fun j1033_ x62_ => an_e x62_ (fun h1034_ x63_ => ex_e x63_ (fun M1031_ x64_ => an_e x64_ (fun hM1032_ x65_ => ex_e x65_ (fun z1037_ x66_ => an_e x66_ (fun h1038_ x67_ => an_e x67_ (fun hq_v3_4y x68_ => an_e x68_ (fun hq_v2_4y x69_ => (fun hM_ => ((hk_at hk h15_ e13_).lowD h18_ h607_).elim) x69_)))))))))))) (fun x58_ => an_e x58_ (fun h1028_ x59_ => ex_e x59_ (fun z1039_ x60_ => an_e x60_ (fun h1040_ x61_ => ex_e x61_ (fun j1043_ x62_ => an_e x62_ (fun h1044_ x63_ => ex_e x63_ (fun M1041_ x64_ => an_e x64_ (fun hM1042_ x65_ => ex_e x65_ (fun z1047_ x66_ => an_e x66_ (fun h1048_ x67_ => an_e x67_ (fun hq_v3_4y x68_ => an_e x68_ (fun hq_v2_4y x69_ => (fun hM_ => ((hk_at hk h15_ e13_).lowD h18_ h607_).elim) x69_)))))))))))))) (fun x56_ => or_e x56_ (fun x57_ => an_e x57_ (fun e625_ x58_ => or_e x58_ (fun x59_ => an_e x59_ (fun h1049_ x60_ => ex_e x60_ (fun z1050_ x61_ => an_e x61_ (fun h1051_ x62_ => ex_e x62_ (fun j1054_ x63_ => an_e x63_ (fun h1055_ x64_ => ex_e x64_ (fun M1052_ x65_ => an_e x65_ (fun hM1053_ x66_ => ex_e x66_ (fun z1058_ x67_ => an_e x67_ (fun h1059_ x68_ => an_e x68_ (fun hq_v3_4y x69_ => an_e x69_ (fun hq_v2_4y x70_ => (fun hM_ => ((hk_at hk h15_ e13_).lowD h18_ h607_).elim) x70_)))))))))))) (fun x59_ => an_e x59_ (fun h1049_ x60_ => ex_e x60_ (fun z1060_ x61_ => an_e x61_ (fun h1061_ x62_ => ex_e x62_ (fun j1064_ x63_ => an_e x63_ (fun h1065_ x64_ => ex_e x64_ (fun M1062_ x65_ => an_e x65_ (fun hM1063_ x66_ => ex_e x66_ (fun z1068_ x67_ => an_e x67_ (fun h1069_ x68_ => an_e x68_ (fun hq_v3_4y x69_ => an_e x69_ (fun hq_v2_4y x70_ => (fun hM_ => ((hk_at hk h15_ e13_).lowD h18_ h607_).elim) x70_)))))))))))))) (fun x57_ => an_e x57_ (fun e625_ x58_ => or_e x58_ (fun x59_ => an_e x59_ (fun h1070_ x60_ => ex_e x60_ (fun z1071_ x61_ => an_e x61_ (fun h1072_ x62_ => ex_e x62_ (fun z1073_ x63_ => an_e x63_ (fun h1074_ x64_ => ex_e x64_ (fun j1077_ x65_ => an_e x65_ (fun h1078_ x66_ => ex_e x66_ (fun M1075_ x67_ => an_e x67_ (fun hM1076_ x68_ => ex_e x68_ (fun z1081_ x69_ => an_e x69_ (fun h1082_ x70_ => an_e x70_ (fun hq_v3_4y x71_ => an_e x71_ (fun hq_v2_4y x72_ => (fun hM_ => ((hk_at hk h15_ e13_).lowD h18_ h607_).elim) x72_)))))))))))))) (fun x59_ => an_e x59_ (fun h1070_ x60_ => ex_e x60_ (fun z1083_ x61_ => an_e x61_ (fun h1084_ x62_ => ex_e x62_ (fun j1087_ x63_ => an_e x63_ (fun h1088_ x64_ => ex_e x64_ (fun M1085_ x65_ => an_e x65_ (fun hM1086_ x66_ => ex_e x66_ (fun z1091_ x67_ => an_e x67_ (fun h1092_ x68_ => an_e x68_ (fun hq_v3_4y x69_ => an_e x69_ (fun hq_v2_4y x70_ => (fun hM_ => ((hk_at hk h15_ e13_).lowD h18_ h607_).elim) x70_))))))))))))))))))))))))))))))))))))))))))))))))))))) (fun x18_ => an_e x18_ (fun h607_ x19_ => or_e x19_ (fun x20_ => an_e x20_ (fun h1093_ x21_ => or_e x21_ (fun x22_ => an_e x22_ (fun h1094_ x23_ => ex_e x23_ (fun j1097_ x24_ => an_e x24_ (fun h1098_ x25_ => ex_e x25_ (fun M1095_ x26_ => an_e x26_ (fun hM1096_ x27_ => ex_e x27_ (fun z1101_ x28_ => an_e x28_ (fun h1102_ x29_ => ex_e x29_ (fun z1103_ x30_ => an_e x30_ (fun h1104_ x31_ => an_e x31_ (fun hq_v3_4y x32_ => an_e x32_ (fun hq_v2_4y x33_ => (fun hM_ => wk_p90 ((hk_at hk h15_ e13_).low h18_) hv0_4 hv1_4 hv2_4 h15_ e13_ h17_ h18_ h607_ h1093_ h1094_ h1098_ hM1096_ h1102_ h1104_ hq_v3_4y hq_v2_4y hM_) x33_)))))))))))) (fun x22_ => an_e x22_ (fun h1094_ x23_ => ex_e x23_ (fun j1107_ x24_ => an_e x24_ (fun h1108_ x25_ => ex_e x25_ (fun z1105_ x26_ => an_e x26_ (fun e1106_ x27_ => ex_e x27_ (fun j1111_ x28_ => an_e x28_ (fun h1112_ x29_ => ex_e x29_ (fun M1109_ x30_ => an_e x30_ (fun hM1110_ x31_ => ex_e x31_ (fun z1115_ x32_ => an_e x32_ (fun h1116_ x33_ => ex_e x33_ (fun z1117_ x34_ => an_e x34_ (fun h1118_ x35_ => an_e x35_ (fun hq_v3_4y x36_ => an_e x36_ (fun hq_v2_4y x37_ => (fun hM_ => wk_p91 ((hk_at hk h15_ e13_).low h18_) hv0_4 hv1_4 hv2_4 h15_ e13_ h17_ h18_ h607_ h1093_ h1094_ h1108_ e1106_ h1112_ hM1110_ h1116_ h1118_ hq_v3_4y hq_v2_4y hM_) x37_)))))))))))))))))) (fun x20_ => an_e x20_ (fun h1093_ x21_ => ex_e x21_ (fun j1121_ x22_ => an_e x22_ (fun h1122_ x23_ => ex_e x23_ (fun M1119_ x24_ => an_e x24_ (fun hM1120_ x25_ => ex_e x25_ (fun z1125_ x26_ => an_e x26_ (fun h1126_ x27_ => ex_e x27_ (fun z1127_ x28_ => an_e x28_ (fun h1128_ x29_ => an_e x29_ (fun hq_v3_4y x30_ => an_e x30_ (fun hq_v2_4y x31_ => (fun hM_ => wk_p92 ((hk_at hk h15_ e13_).low h18_) hv0_4 hv1_4 hv2_4 h15_ e13_ h17_ h18_ h607_ h1093_ h1122_ hM1120_ h1126_ h1128_ hq_v3_4y hq_v2_4y hM_) x31_)))))))))))))))))))))))))))))))
theorem fr_eq {S : rf → Nat → Prop} {M M1 M2 : mM} (h : FR S M M1) (e : M2 = M1) : FR S M M2 := by rw [e]; exact h
theorem wk_fr {b w b2 : Nat} {Mz : mM} {v3_4 v2_4 v3_4y v2_4y : Int32} {M_4 M_4y : mM} (h : ST_X1_work_4 b w b2 Mz v3_4 v2_4 M_4 v3_4y v2_4y M_4y) : FR (S_c_X1_work b w b2) Mz M_4y := by
  have x0_ := h
  unfold ST_X1_work_4 at x0_
  exact an_e x0_ (fun hv0_4 x1_ => an_e x1_ (fun hv1_4 x2_ => an_e x2_ (fun hv2_4 x3_ => an_e x3_ (fun hI_4 x4_ => an_e x4_ (fun hF_4 x5_ => ex_e x5_ (fun z2_ x6_ => an_e x6_ (fun e3_ x7_ => an_e x7_ (fun h4_ x8_ => an_e x8_ (fun h8_ x9_ => ex_e x9_ (fun j14_ x10_ => an_e x10_ (fun h15_ x11_ => ex_e x11_ (fun z12_ x12_ => an_e x12_ (fun e13_ x13_ => ex_e x13_ (fun z16_ x14_ => an_e x14_ (fun h17_ x15_ => or_e x15_ (fun x16_ => an_e x16_ (fun h18_ x17_ => or_e x17_ (fun x18_ => an_e x18_ (fun h19_ x19_ => or_e x19_ (fun x20_ => an_e x20_ (fun h20_ x21_ => or_e x21_ (fun x22_ => an_e x22_ (fun h21_ x23_ => ex_e x23_ (fun z22_ x24_ => an_e x24_ (fun h23_ x25_ => an_e x25_ (fun hq_v3_4y x26_ => an_e x26_ (fun hq_v2_4y x27_ => (fun hM_ => fr_eq hF_4 hM_) x27_)))))) (fun x22_ => an_e x22_ (fun h21_ x23_ => ex_e x23_ (fun z24_ x24_ => an_e x24_ (fun h25_ x25_ => ex_e x25_ (fun z26_ x26_ => an_e x26_ (fun h27_ x27_ => ex_e x27_ (fun j30_ x28_ => an_e x28_ (fun h31_ x29_ => ex_e x29_ (fun z28_ x30_ => an_e x30_ (fun e29_ x31_ => ex_e x31_ (fun j34_ x32_ => an_e x32_ (fun h35_ x33_ => ex_e x33_ (fun z32_ x34_ => an_e x34_ (fun e33_ x35_ => ex_e x35_ (fun z36_ x36_ => an_e x36_ (fun h37_ x37_ => or_e x37_ (fun x38_ => an_e x38_ (fun e38_ x39_ => ex_e x39_ (fun z39_ x40_ => an_e x40_ (fun h40_ x41_ => ex_e x41_ (fun z41_ x42_ => an_e x42_ (fun h42_ x43_ => ex_e x43_ (fun j45_ x44_ => an_e x44_ (fun h46_ x45_ => ex_e x45_ (fun M43_ x46_ => an_e x46_ (fun hM44_ x47_ => ex_e x47_ (fun z49_ x48_ => an_e x48_ (fun h50_ x49_ => an_e x49_ (fun hq_v3_4y x50_ => an_e x50_ (fun hq_v2_4y x51_ => (fun hM_ => fr_eq (FR.put hF_4 hM44_ (Or.inl ⟨rfl, rfl, rfl⟩)) hM_) x51_)))))))))))))) (fun x38_ => or_e x38_ (fun x39_ => an_e x39_ (fun e38_ x40_ => ex_e x40_ (fun z51_ x41_ => an_e x41_ (fun h52_ x42_ => ex_e x42_ (fun z53_ x43_ => an_e x43_ (fun h54_ x44_ => ex_e x44_ (fun j57_ x45_ => an_e x45_ (fun h58_ x46_ => ex_e x46_ (fun M55_ x47_ => an_e x47_ (fun hM56_ x48_ => ex_e x48_ (fun z61_ x49_ => an_e x49_ (fun h62_ x50_ => an_e x50_ (fun hq_v3_4y x51_ => an_e x51_ (fun hq_v2_4y x52_ => (fun hM_ => fr_eq (FR.put hF_4 hM56_ (Or.inl ⟨rfl, rfl, rfl⟩)) hM_) x52_)))))))))))))) (fun x39_ => or_e x39_ (fun x40_ => an_e x40_ (fun e38_ x41_ => or_e x41_ (fun x42_ => an_e x42_ (fun h63_ x43_ => ex_e x43_ (fun z64_ x44_ => an_e x44_ (fun h65_ x45_ => ex_e x45_ (fun z66_ x46_ => an_e x46_ (fun h67_ x47_ => ex_e x47_ (fun j70_ x48_ => an_e x48_ (fun h71_ x49_ => ex_e x49_ (fun M68_ x50_ => an_e x50_ (fun hM69_ x51_ => ex_e x51_ (fun z74_ x52_ => an_e x52_ (fun h75_ x53_ => an_e x53_ (fun hq_v3_4y x54_ => an_e x54_ (fun hq_v2_4y x55_ => (fun hM_ => fr_eq (FR.put hF_4 hM69_ (Or.inl ⟨rfl, rfl, rfl⟩)) hM_) x55_)))))))))))))) (fun x42_ => an_e x42_ (fun h63_ x43_ => ex_e x43_ (fun z76_ x44_ => an_e x44_ (fun h77_ x45_ => ex_e x45_ (fun j80_ x46_ => an_e x46_ (fun h81_ x47_ => ex_e x47_ (fun M78_ x48_ => an_e x48_ (fun hM79_ x49_ => ex_e x49_ (fun z84_ x50_ => an_e x50_ (fun h85_ x51_ => an_e x51_ (fun hq_v3_4y x52_ => an_e x52_ (fun hq_v2_4y x53_ => (fun hM_ => fr_eq (FR.put hF_4 hM79_ (Or.inl ⟨rfl, rfl, rfl⟩)) hM_) x53_)))))))))))))) (fun x40_ => or_e x40_ (fun x41_ => an_e x41_ (fun e38_ x42_ => ex_e x42_ (fun z86_ x43_ => an_e x43_ (fun h87_ x44_ => ex_e x44_ (fun z88_ x45_ => an_e x45_ (fun h89_ x46_ => ex_e x46_ (fun j92_ x47_ => an_e x47_ (fun h93_ x48_ => ex_e x48_ (fun M90_ x49_ => an_e x49_ (fun hM91_ x50_ => ex_e x50_ (fun z96_ x51_ => an_e x51_ (fun h97_ x52_ => an_e x52_ (fun hq_v3_4y x53_ => an_e x53_ (fun hq_v2_4y x54_ => (fun hM_ => fr_eq (FR.put hF_4 hM91_ (Or.inl ⟨rfl, rfl, rfl⟩)) hM_) x54_)))))))))))))) (fun x41_ => or_e x41_ (fun x42_ => an_e x42_ (fun e38_ x43_ => or_e x43_ (fun x44_ => an_e x44_ (fun h98_ x45_ => ex_e x45_ (fun z99_ x46_ => an_e x46_ (fun h100_ x47_ => ex_e x47_ (fun z101_ x48_ => an_e x48_ (fun h102_ x49_ => ex_e x49_ (fun j105_ x50_ => an_e x50_ (fun h106_ x51_ => ex_e x51_ (fun M103_ x52_ => an_e x52_ (fun hM104_ x53_ => ex_e x53_ (fun z109_ x54_ => an_e x54_ (fun h110_ x55_ => an_e x55_ (fun hq_v3_4y x56_ => an_e x56_ (fun hq_v2_4y x57_ => (fun hM_ => fr_eq (FR.put hF_4 hM104_ (Or.inl ⟨rfl, rfl, rfl⟩)) hM_) x57_)))))))))))))) (fun x44_ => an_e x44_ (fun h98_ x45_ => ex_e x45_ (fun z111_ x46_ => an_e x46_ (fun h112_ x47_ => ex_e x47_ (fun j115_ x48_ => an_e x48_ (fun h116_ x49_ => ex_e x49_ (fun M113_ x50_ => an_e x50_ (fun hM114_ x51_ => ex_e x51_ (fun z119_ x52_ => an_e x52_ (fun h120_ x53_ => an_e x53_ (fun hq_v3_4y x54_ => an_e x54_ (fun hq_v2_4y x55_ => (fun hM_ => fr_eq (FR.put hF_4 hM114_ (Or.inl ⟨rfl, rfl, rfl⟩)) hM_) x55_)))))))))))))) (fun x42_ => or_e x42_ (fun x43_ => an_e x43_ (fun e38_ x44_ => or_e x44_ (fun x45_ => an_e x45_ (fun h121_ x46_ => ex_e x46_ (fun z122_ x47_ => an_e x47_ (fun h123_ x48_ => ex_e x48_ (fun z124_ x49_ => an_e x49_ (fun h125_ x50_ => ex_e x50_ (fun j128_ x51_ => an_e x51_ (fun h129_ x52_ => ex_e x52_ (fun M126_ x53_ => an_e x53_ (fun hM127_ x54_ => ex_e x54_ (fun z132_ x55_ => an_e x55_ (fun h133_ x56_ => an_e x56_ (fun hq_v3_4y x57_ => an_e x57_ (fun hq_v2_4y x58_ => (fun hM_ => fr_eq (FR.put hF_4 hM127_ (Or.inl ⟨rfl, rfl, rfl⟩)) hM_) x58_)))))))))))))) (fun x45_ => an_e x45_ (fun h121_ x46_ => ex_e x46_ (fun z134_ x47_ => an_e x47_ (fun h135_ x48_ => ex_e x48_ (fun j138_ x49_ => an_e x49_ (fun h139_ x50_ => ex_e x50_ (fun M136_ x51_ => an_e x51_ (fun hM137_ x52_ => ex_e x52_ (fun z142_ x53_ => an_e x53_ (fun h143_ x54_ => an_e x54_ (fun hq_v3_4y x55_ => an_e x55_ (fun hq_v2_4y x56_ => (fun hM_ => fr_eq (FR.put hF_4 hM137_ (Or.inl ⟨rfl, rfl, rfl⟩)) hM_) x56_)))))))))))))) (fun x43_ => or_e x43_ (fun x44_ => an_e x44_ (fun e38_ x45_ => or_e x45_ (fun x46_ => an_e x46_ (fun h144_ x47_ => ex_e x47_ (fun z145_ x48_ => an_e x48_ (fun h146_ x49_ => ex_e x49_ (fun z147_ x50_ => an_e x50_ (fun h148_ x51_ => ex_e x51_ (fun j151_ x52_ => an_e x52_ (fun h152_ x53_ => ex_e x53_ (fun M149_ x54_ => an_e x54_ (fun hM150_ x55_ => ex_e x55_ (fun z155_ x56_ => an_e x56_ (fun h156_ x57_ => an_e x57_ (fun hq_v3_4y x58_ => an_e x58_ (fun hq_v2_4y x59_ => (fun hM_ => fr_eq (FR.put hF_4 hM150_ (Or.inl ⟨rfl, rfl, rfl⟩)) hM_) x59_)))))))))))))) (fun x46_ => an_e x46_ (fun h144_ x47_ => ex_e x47_ (fun z157_ x48_ => an_e x48_ (fun h158_ x49_ => ex_e x49_ (fun j161_ x50_ => an_e x50_ (fun h162_ x51_ => ex_e x51_ (fun M159_ x52_ => an_e x52_ (fun hM160_ x53_ => ex_e x53_ (fun z165_ x54_ => an_e x54_ (fun h166_ x55_ => an_e x55_ (fun hq_v3_4y x56_ => an_e x56_ (fun hq_v2_4y x57_ => (fun hM_ => fr_eq (FR.put hF_4 hM160_ (Or.inl ⟨rfl, rfl, rfl⟩)) hM_) x57_)))))))))))))) (fun x44_ => or_e x44_ (fun x45_ => an_e x45_ (fun e38_ x46_ => or_e x46_ (fun x47_ => an_e x47_ (fun h167_ x48_ => ex_e x48_ (fun z168_ x49_ => an_e x49_ (fun h169_ x50_ => ex_e x50_ (fun z170_ x51_ => an_e x51_ (fun h171_ x52_ => ex_e x52_ (fun j174_ x53_ => an_e x53_ (fun h175_ x54_ => ex_e x54_ (fun M172_ x55_ => an_e x55_ (fun hM173_ x56_ => ex_e x56_ (fun z178_ x57_ => an_e x57_ (fun h179_ x58_ => an_e x58_ (fun hq_v3_4y x59_ => an_e x59_ (fun hq_v2_4y x60_ => (fun hM_ => fr_eq (FR.put hF_4 hM173_ (Or.inl ⟨rfl, rfl, rfl⟩)) hM_) x60_)))))))))))))) (fun x47_ => an_e x47_ (fun h167_ x48_ => ex_e x48_ (fun z180_ x49_ => an_e x49_ (fun h181_ x50_ => ex_e x50_ (fun j184_ x51_ => an_e x51_ (fun h185_ x52_ => ex_e x52_ (fun M182_ x53_ => an_e x53_ (fun hM183_ x54_ => ex_e x54_ (fun z188_ x55_ => an_e x55_ (fun h189_ x56_ => an_e x56_ (fun hq_v3_4y x57_ => an_e x57_ (fun hq_v2_4y x58_ => (fun hM_ => fr_eq (FR.put hF_4 hM183_ (Or.inl ⟨rfl, rfl, rfl⟩)) hM_) x58_)))))))))))))) (fun x45_ => or_e x45_ (fun x46_ => an_e x46_ (fun e38_ x47_ => or_e x47_ (fun x48_ => an_e x48_ (fun h190_ x49_ => ex_e x49_ (fun z191_ x50_ => an_e x50_ (fun h192_ x51_ => ex_e x51_ (fun z193_ x52_ => an_e x52_ (fun h194_ x53_ => ex_e x53_ (fun j197_ x54_ => an_e x54_ (fun h198_ x55_ => ex_e x55_ (fun M195_ x56_ => an_e x56_ (fun hM196_ x57_ => ex_e x57_ (fun z201_ x58_ => an_e x58_ (fun h202_ x59_ => an_e x59_ (fun hq_v3_4y x60_ => an_e x60_ (fun hq_v2_4y x61_ => (fun hM_ => fr_eq (FR.put hF_4 hM196_ (Or.inl ⟨rfl, rfl, rfl⟩)) hM_) x61_)))))))))))))) (fun x48_ => an_e x48_ (fun h190_ x49_ => ex_e x49_ (fun z203_ x50_ => an_e x50_ (fun h204_ x51_ => ex_e x51_ (fun j207_ x52_ => an_e x52_ (fun h208_ x53_ => ex_e x53_ (fun M205_ x54_ => an_e x54_ (fun hM206_ x55_ => ex_e x55_ (fun z211_ x56_ => an_e x56_ (fun h212_ x57_ => an_e x57_ (fun hq_v3_4y x58_ => an_e x58_ (fun hq_v2_4y x59_ => (fun hM_ => fr_eq (FR.put hF_4 hM206_ (Or.inl ⟨rfl, rfl, rfl⟩)) hM_) x59_)))))))))))))) (fun x46_ => or_e x46_ (fun x47_ => an_e x47_ (fun e38_ x48_ => or_e x48_ (fun x49_ => an_e x49_ (fun h213_ x50_ => ex_e x50_ (fun z214_ x51_ => an_e x51_ (fun h215_ x52_ => ex_e x52_ (fun z216_ x53_ => an_e x53_ (fun h217_ x54_ => ex_e x54_ (fun j220_ x55_ => an_e x55_ (fun h221_ x56_ => ex_e x56_ (fun M218_ x57_ => an_e x57_ (fun hM219_ x58_ => ex_e x58_ (fun z224_ x59_ => an_e x59_ (fun h225_ x60_ => an_e x60_ (fun hq_v3_4y x61_ => an_e x61_ (fun hq_v2_4y x62_ => (fun hM_ => fr_eq (FR.put hF_4 hM219_ (Or.inl ⟨rfl, rfl, rfl⟩)) hM_) x62_)))))))))))))) (fun x49_ => an_e x49_ (fun h213_ x50_ => ex_e x50_ (fun z226_ x51_ => an_e x51_ (fun h227_ x52_ => ex_e x52_ (fun j230_ x53_ => an_e x53_ (fun h231_ x54_ => ex_e x54_ (fun M228_ x55_ => an_e x55_ (fun hM229_ x56_ => ex_e x56_ (fun z234_ x57_ => an_e x57_ (fun h235_ x58_ => an_e x58_ (fun hq_v3_4y x59_ => an_e x59_ (fun hq_v2_4y x60_ => (fun hM_ => fr_eq (FR.put hF_4 hM229_ (Or.inl ⟨rfl, rfl, rfl⟩)) hM_) x60_)))))))))))))) (fun x47_ => or_e x47_ (fun x48_ => an_e x48_ (fun e38_ x49_ => or_e x49_ (fun x50_ => an_e x50_ (fun h236_ x51_ => ex_e x51_ (fun z237_ x52_ => an_e x52_ (fun h238_ x53_ => ex_e x53_ (fun z239_ x54_ => an_e x54_ (fun h240_ x55_ => ex_e x55_ (fun j243_ x56_ => an_e x56_ (fun h244_ x57_ => ex_e x57_ (fun M241_ x58_ => an_e x58_ (fun hM242_ x59_ => ex_e x59_ (fun z247_ x60_ => an_e x60_ (fun h248_ x61_ => an_e x61_ (fun hq_v3_4y x62_ => an_e x62_ (fun hq_v2_4y x63_ => (fun hM_ => fr_eq (FR.put hF_4 hM242_ (Or.inl ⟨rfl, rfl, rfl⟩)) hM_) x63_)))))))))))))) (fun x50_ => an_e x50_ (fun h236_ x51_ => ex_e x51_ (fun z249_ x52_ => an_e x52_ (fun h250_ x53_ => ex_e x53_ (fun j253_ x54_ => an_e x54_ (fun h254_ x55_ => ex_e x55_ (fun M251_ x56_ => an_e x56_ (fun hM252_ x57_ => ex_e x57_ (fun z257_ x58_ => an_e x58_ (fun h258_ x59_ => an_e x59_ (fun hq_v3_4y x60_ => an_e x60_ (fun hq_v2_4y x61_ => (fun hM_ => fr_eq (FR.put hF_4 hM252_ (Or.inl ⟨rfl, rfl, rfl⟩)) hM_) x61_)))))))))))))) (fun x48_ => or_e x48_ (fun x49_ => an_e x49_ (fun e38_ x50_ => or_e x50_ (fun x51_ => an_e x51_ (fun h259_ x52_ => ex_e x52_ (fun z260_ x53_ => an_e x53_ (fun h261_ x54_ => ex_e x54_ (fun z262_ x55_ => an_e x55_ (fun h263_ x56_ => ex_e x56_ (fun j266_ x57_ => an_e x57_ (fun h267_ x58_ => ex_e x58_ (fun M264_ x59_ => an_e x59_ (fun hM265_ x60_ => ex_e x60_ (fun z270_ x61_ => an_e x61_ (fun h271_ x62_ => an_e x62_ (fun hq_v3_4y x63_ => an_e x63_ (fun hq_v2_4y x64_ => (fun hM_ => fr_eq (FR.put hF_4 hM265_ (Or.inl ⟨rfl, rfl, rfl⟩)) hM_) x64_)))))))))))))) (fun x51_ => an_e x51_ (fun h259_ x52_ => ex_e x52_ (fun z272_ x53_ => an_e x53_ (fun h273_ x54_ => ex_e x54_ (fun j276_ x55_ => an_e x55_ (fun h277_ x56_ => ex_e x56_ (fun M274_ x57_ => an_e x57_ (fun hM275_ x58_ => ex_e x58_ (fun z280_ x59_ => an_e x59_ (fun h281_ x60_ => an_e x60_ (fun hq_v3_4y x61_ => an_e x61_ (fun hq_v2_4y x62_ => (fun hM_ => fr_eq (FR.put hF_4 hM275_ (Or.inl ⟨rfl, rfl, rfl⟩)) hM_) x62_)))))))))))))) (fun x49_ => or_e x49_ (fun x50_ => an_e x50_ (fun e38_ x51_ => or_e x51_ (fun x52_ => an_e x52_ (fun h282_ x53_ => ex_e x53_ (fun z283_ x54_ => an_e x54_ (fun h284_ x55_ => ex_e x55_ (fun z285_ x56_ => an_e x56_ (fun h286_ x57_ => ex_e x57_ (fun j289_ x58_ => an_e x58_ (fun h290_ x59_ => ex_e x59_ (fun M287_ x60_ => an_e x60_ (fun hM288_ x61_ => ex_e x61_ (fun z293_ x62_ => an_e x62_ (fun h294_ x63_ => an_e x63_ (fun hq_v3_4y x64_ => an_e x64_ (fun hq_v2_4y x65_ => (fun hM_ => fr_eq (FR.put hF_4 hM288_ (Or.inl ⟨rfl, rfl, rfl⟩)) hM_) x65_)))))))))))))) (fun x52_ => an_e x52_ (fun h282_ x53_ => ex_e x53_ (fun z295_ x54_ => an_e x54_ (fun h296_ x55_ => ex_e x55_ (fun j299_ x56_ => an_e x56_ (fun h300_ x57_ => ex_e x57_ (fun M297_ x58_ => an_e x58_ (fun hM298_ x59_ => ex_e x59_ (fun z303_ x60_ => an_e x60_ (fun h304_ x61_ => an_e x61_ (fun hq_v3_4y x62_ => an_e x62_ (fun hq_v2_4y x63_ => (fun hM_ => fr_eq (FR.put hF_4 hM298_ (Or.inl ⟨rfl, rfl, rfl⟩)) hM_) x63_)))))))))))))) (fun x50_ => or_e x50_ (fun x51_ => an_e x51_ (fun e38_ x52_ => or_e x52_ (fun x53_ => an_e x53_ (fun h305_ x54_ => ex_e x54_ (fun z306_ x55_ => an_e x55_ (fun h307_ x56_ => ex_e x56_ (fun z308_ x57_ => an_e x57_ (fun h309_ x58_ => ex_e x58_ (fun j312_ x59_ => an_e x59_ (fun h313_ x60_ => ex_e x60_ (fun M310_ x61_ => an_e x61_ (fun hM311_ x62_ => ex_e x62_ (fun z316_ x63_ => an_e x63_ (fun h317_ x64_ => an_e x64_ (fun hq_v3_4y x65_ => an_e x65_ (fun hq_v2_4y x66_ => (fun hM_ => fr_eq (FR.put hF_4 hM311_ (Or.inl ⟨rfl, rfl, rfl⟩)) hM_) x66_)))))))))))))) (fun x53_ => an_e x53_ (fun h305_ x54_ => ex_e x54_ (fun z318_ x55_ => an_e x55_ (fun h319_ x56_ => ex_e x56_ (fun j322_ x57_ => an_e x57_ (fun h323_ x58_ => ex_e x58_ (fun M320_ x59_ => an_e x59_ (fun hM321_ x60_ => ex_e x60_ (fun z326_ x61_ => an_e x61_ (fun h327_ x62_ => an_e x62_ (fun hq_v3_4y x63_ => an_e x63_ (fun hq_v2_4y x64_ => (fun hM_ => fr_eq (FR.put hF_4 hM321_ (Or.inl ⟨rfl, rfl, rfl⟩)) hM_) x64_)))))))))))))) (fun x51_ => or_e x51_ (fun x52_ => an_e x52_ (fun e38_ x53_ => or_e x53_ (fun x54_ => an_e x54_ (fun h328_ x55_ => ex_e x55_ (fun z329_ x56_ => an_e x56_ (fun h330_ x57_ => ex_e x57_ (fun z331_ x58_ => an_e x58_ (fun h332_ x59_ => ex_e x59_ (fun j335_ x60_ => an_e x60_ (fun h336_ x61_ => ex_e x61_ (fun M333_ x62_ => an_e x62_ (fun hM334_ x63_ => ex_e x63_ (fun z339_ x64_ => an_e x64_ (fun h340_ x65_ => an_e x65_ (fun hq_v3_4y x66_ => an_e x66_ (fun hq_v2_4y x67_ => (fun hM_ => fr_eq (FR.put hF_4 hM334_ (Or.inl ⟨rfl, rfl, rfl⟩)) hM_) x67_)))))))))))))) (fun x54_ => an_e x54_ (fun h328_ x55_ => ex_e x55_ (fun z341_ x56_ => an_e x56_ (fun h342_ x57_ => ex_e x57_ (fun j345_ x58_ => an_e x58_ (fun h346_ x59_ => ex_e x59_ (fun M343_ x60_ => an_e x60_ (fun hM344_ x61_ => ex_e x61_ (fun z349_ x62_ => an_e x62_ (fun h350_ x63_ => an_e x63_ (fun hq_v3_4y x64_ => an_e x64_ (fun hq_v2_4y x65_ => (fun hM_ => fr_eq (FR.put hF_4 hM344_ (Or.inl ⟨rfl, rfl, rfl⟩)) hM_) x65_)))))))))))))) (fun x52_ => or_e x52_ (fun x53_ => an_e x53_ (fun e38_ x54_ => or_e x54_ (fun x55_ => an_e x55_ (fun h351_ x56_ => ex_e x56_ (fun z352_ x57_ => an_e x57_ (fun h353_ x58_ => ex_e x58_ (fun z354_ x59_ => an_e x59_ (fun h355_ x60_ => ex_e x60_ (fun j358_ x61_ => an_e x61_ (fun h359_ x62_ => ex_e x62_ (fun M356_ x63_ => an_e x63_ (fun hM357_ x64_ => ex_e x64_ (fun z362_ x65_ => an_e x65_ (fun h363_ x66_ => an_e x66_ (fun hq_v3_4y x67_ => an_e x67_ (fun hq_v2_4y x68_ => (fun hM_ => fr_eq (FR.put hF_4 hM357_ (Or.inl ⟨rfl, rfl, rfl⟩)) hM_) x68_)))))))))))))) (fun x55_ => an_e x55_ (fun h351_ x56_ => ex_e x56_ (fun z364_ x57_ => an_e x57_ (fun h365_ x58_ => ex_e x58_ (fun j368_ x59_ => an_e x59_ (fun h369_ x60_ => ex_e x60_ (fun M366_ x61_ => an_e x61_ (fun hM367_ x62_ => ex_e x62_ (fun z372_ x63_ => an_e x63_ (fun h373_ x64_ => an_e x64_ (fun hq_v3_4y x65_ => an_e x65_ (fun hq_v2_4y x66_ => (fun hM_ => fr_eq (FR.put hF_4 hM367_ (Or.inl ⟨rfl, rfl, rfl⟩)) hM_) x66_)))))))))))))) (fun x53_ => or_e x53_ (fun x54_ => an_e x54_ (fun e38_ x55_ => or_e x55_ (fun x56_ => an_e x56_ (fun h374_ x57_ => ex_e x57_ (fun z375_ x58_ => an_e x58_ (fun h376_ x59_ => ex_e x59_ (fun z377_ x60_ => an_e x60_ (fun h378_ x61_ => ex_e x61_ (fun j381_ x62_ => an_e x62_ (fun h382_ x63_ => ex_e x63_ (fun M379_ x64_ => an_e x64_ (fun hM380_ x65_ => ex_e x65_ (fun z385_ x66_ => an_e x66_ (fun h386_ x67_ => an_e x67_ (fun hq_v3_4y x68_ => an_e x68_ (fun hq_v2_4y x69_ => (fun hM_ => fr_eq (FR.put hF_4 hM380_ (Or.inl ⟨rfl, rfl, rfl⟩)) hM_) x69_)))))))))))))) (fun x56_ => an_e x56_ (fun h374_ x57_ => ex_e x57_ (fun z387_ x58_ => an_e x58_ (fun h388_ x59_ => ex_e x59_ (fun j391_ x60_ => an_e x60_ (fun h392_ x61_ => ex_e x61_ (fun M389_ x62_ => an_e x62_ (fun hM390_ x63_ => ex_e x63_ (fun z395_ x64_ => an_e x64_ (fun h396_ x65_ => an_e x65_ (fun hq_v3_4y x66_ => an_e x66_ (fun hq_v2_4y x67_ => (fun hM_ => fr_eq (FR.put hF_4 hM390_ (Or.inl ⟨rfl, rfl, rfl⟩)) hM_) x67_)))))))))))))) (fun x54_ => or_e x54_ (fun x55_ => an_e x55_ (fun e38_ x56_ => or_e x56_ (fun x57_ => an_e x57_ (fun h397_ x58_ => ex_e x58_ (fun z398_ x59_ => an_e x59_ (fun h399_ x60_ => ex_e x60_ (fun z400_ x61_ => an_e x61_ (fun h401_ x62_ => ex_e x62_ (fun j404_ x63_ => an_e x63_ (fun h405_ x64_ => ex_e x64_ (fun M402_ x65_ => an_e x65_ (fun hM403_ x66_ => ex_e x66_ (fun z408_ x67_ => an_e x67_ (fun h409_ x68_ => an_e x68_ (fun hq_v3_4y x69_ => an_e x69_ (fun hq_v2_4y x70_ => (fun hM_ => fr_eq (FR.put hF_4 hM403_ (Or.inl ⟨rfl, rfl, rfl⟩)) hM_) x70_)))))))))))))) (fun x57_ => an_e x57_ (fun h397_ x58_ => ex_e x58_ (fun z410_ x59_ => an_e x59_ (fun h411_ x60_ => ex_e x60_ (fun j414_ x61_ => an_e x61_ (fun h415_ x62_ => ex_e x62_ (fun M412_ x63_ => an_e x63_ (fun hM413_ x64_ => ex_e x64_ (fun z418_ x65_ => an_e x65_ (fun h419_ x66_ => an_e x66_ (fun hq_v3_4y x67_ => an_e x67_ (fun hq_v2_4y x68_ => (fun hM_ => fr_eq (FR.put hF_4 hM413_ (Or.inl ⟨rfl, rfl, rfl⟩)) hM_) x68_)))))))))))))) (fun x55_ => or_e x55_ (fun x56_ => an_e x56_ (fun e38_ x57_ => or_e x57_ (fun x58_ => an_e x58_ (fun h420_ x59_ => ex_e x59_ (fun z421_ x60_ => an_e x60_ (fun h422_ x61_ => ex_e x61_ (fun j425_ x62_ => an_e x62_ (fun h426_ x63_ => ex_e x63_ (fun M423_ x64_ => an_e x64_ (fun hM424_ x65_ => ex_e x65_ (fun z429_ x66_ => an_e x66_ (fun h430_ x67_ => an_e x67_ (fun hq_v3_4y x68_ => an_e x68_ (fun hq_v2_4y x69_ => (fun hM_ => fr_eq (FR.put hF_4 hM424_ (Or.inl ⟨rfl, rfl, rfl⟩)) hM_) x69_)))))))))))) (fun x58_ => an_e x58_ (fun h420_ x59_ => ex_e x59_ (fun z431_ x60_ => an_e x60_ (fun h432_ x61_ => ex_e x61_ (fun j435_ x62_ => an_e x62_ (fun h436_ x63_ => ex_e x63_ (fun M433_ x64_ => an_e x64_ (fun hM434_ x65_ => ex_e x65_ (fun z439_ x66_ => an_e x66_ (fun h440_ x67_ => an_e x67_ (fun hq_v3_4y x68_ => an_e x68_ (fun hq_v2_4y x69_ => (fun hM_ => fr_eq (FR.put hF_4 hM434_ (Or.inl ⟨rfl, rfl, rfl⟩)) hM_) x69_)))))))))))))) (fun x56_ => or_e x56_ (fun x57_ => an_e x57_ (fun e38_ x58_ => or_e x58_ (fun x59_ => an_e x59_ (fun h441_ x60_ => ex_e x60_ (fun z442_ x61_ => an_e x61_ (fun h443_ x62_ => ex_e x62_ (fun j446_ x63_ => an_e x63_ (fun h447_ x64_ => ex_e x64_ (fun M444_ x65_ => an_e x65_ (fun hM445_ x66_ => ex_e x66_ (fun z450_ x67_ => an_e x67_ (fun h451_ x68_ => an_e x68_ (fun hq_v3_4y x69_ => an_e x69_ (fun hq_v2_4y x70_ => (fun hM_ => fr_eq (FR.put hF_4 hM445_ (Or.inl ⟨rfl, rfl, rfl⟩)) hM_) x70_)))))))))))) (fun x59_ => an_e x59_ (fun h441_ x60_ => ex_e x60_ (fun z452_ x61_ => an_e x61_ (fun h453_ x62_ => ex_e x62_ (fun j456_ x63_ => an_e x63_ (fun h457_ x64_ => ex_e x64_ (fun M454_ x65_ => an_e x65_ (fun hM455_ x66_ => ex_e x66_ (fun z460_ x67_ => an_e x67_ (fun h461_ x68_ => an_e x68_ (fun hq_v3_4y x69_ => an_e x69_ (fun hq_v2_4y x70_ => (fun hM_ => fr_eq (FR.put hF_4 hM455_ (Or.inl ⟨rfl, rfl, rfl⟩)) hM_) x70_)))))))))))))) (fun x57_ => or_e x57_ (fun x58_ => an_e x58_ (fun e38_ x59_ => or_e x59_ (fun x60_ => an_e x60_ (fun h462_ x61_ => ex_e x61_ (fun z463_ x62_ => an_e x62_ (fun h464_ x63_ => ex_e x63_ (fun j467_ x64_ => an_e x64_ (fun h468_ x65_ => ex_e x65_ (fun M465_ x66_ => an_e x66_ (fun hM466_ x67_ => ex_e x67_ (fun z471_ x68_ => an_e x68_ (fun h472_ x69_ => an_e x69_ (fun hq_v3_4y x70_ => an_e x70_ (fun hq_v2_4y x71_ => (fun hM_ => fr_eq (FR.put hF_4 hM466_ (Or.inl ⟨rfl, rfl, rfl⟩)) hM_) x71_)))))))))))) (fun x60_ => an_e x60_ (fun h462_ x61_ => ex_e x61_ (fun z473_ x62_ => an_e x62_ (fun h474_ x63_ => ex_e x63_ (fun j477_ x64_ => an_e x64_ (fun h478_ x65_ => ex_e x65_ (fun M475_ x66_ => an_e x66_ (fun hM476_ x67_ => ex_e x67_ (fun z481_ x68_ => an_e x68_ (fun h482_ x69_ => an_e x69_ (fun hq_v3_4y x70_ => an_e x70_ (fun hq_v2_4y x71_ => (fun hM_ => fr_eq (FR.put hF_4 hM476_ (Or.inl ⟨rfl, rfl, rfl⟩)) hM_) x71_)))))))))))))) (fun x58_ => an_e x58_ (fun e38_ x59_ => or_e x59_ (fun x60_ => an_e x60_ (fun h483_ x61_ => ex_e x61_ (fun z484_ x62_ => an_e x62_ (fun h485_ x63_ => ex_e x63_ (fun z486_ x64_ => an_e x64_ (fun h487_ x65_ => ex_e x65_ (fun j490_ x66_ => an_e x66_ (fun h491_ x67_ => ex_e x67_ (fun M488_ x68_ => an_e x68_ (fun hM489_ x69_ => ex_e x69_ (fun z494_ x70_ => an_e x70_ (fun h495_ x71_ => an_e x71_ (fun hq_v3_4y x72_ => an_e x72_ (fun hq_v2_4y x73_ => (fun hM_ => fr_eq (FR.put hF_4 hM489_ (Or.inl ⟨rfl, rfl, rfl⟩)) hM_) x73_)))))))))))))) (fun x60_ => an_e x60_ (fun h483_ x61_ => ex_e x61_ (fun z496_ x62_ => an_e x62_ (fun h497_ x63_ => ex_e x63_ (fun j500_ x64_ => an_e x64_ (fun h501_ x65_ => ex_e x65_ (fun M498_ x66_ => an_e x66_ (fun hM499_ x67_ => ex_e x67_ (fun z504_ x68_ => an_e x68_ (fun h505_ x69_ => an_e x69_ (fun hq_v3_4y x70_ => an_e x70_ (fun hq_v2_4y x71_ => (fun hM_ => fr_eq (FR.put hF_4 hM499_ (Or.inl ⟨rfl, rfl, rfl⟩)) hM_) x71_)))))))))))))))))))))))))))))))))))))))))))))))))))) (fun x20_ => an_e x20_ (fun h20_ x21_ => or_e x21_ (fun x22_ => an_e x22_ (fun h506_ x23_ => or_e x23_ (fun x24_ => an_e x24_ (fun h507_ x25_ => ex_e x25_ (fun z508_ x26_ => an_e x26_ (fun h509_ x27_ => an_e x27_ (fun hq_v3_4y x28_ => an_e x28_ (fun hq_v2_4y x29_ => (fun hM_ => fr_eq hF_4 hM_) x29_)))))) (fun x24_ => an_e x24_ (fun h507_ x25_ => ex_e x25_ (fun z510_ x26_ => an_e x26_ (fun h511_ x27_ => ex_e x27_ (fun z512_ x28_ => an_e x28_ (fun h513_ x29_ => ex_e x29_ (fun j516_ x30_ => an_e x30_ (fun h517_ x31_ => ex_e x31_ (fun z514_ x32_ => an_e x32_ (fun e515_ x33_ => ex_e x33_ (fun j520_ x34_ => an_e x34_ (fun h521_ x35_ => ex_e x35_ (fun z518_ x36_ => an_e x36_ (fun e519_ x37_ => ex_e x37_ (fun z522_ x38_ => an_e x38_ (fun h523_ x39_ => or_e x39_ (fun x40_ => an_e x40_ (fun h524_ x41_ => ex_e x41_ (fun z525_ x42_ => an_e x42_ (fun h526_ x43_ => ex_e x43_ (fun z527_ x44_ => an_e x44_ (fun h528_ x45_ => ex_e x45_ (fun j531_ x46_ => an_e x46_ (fun h532_ x47_ => ex_e x47_ (fun M529_ x48_ => an_e x48_ (fun hM530_ x49_ => ex_e x49_ (fun z535_ x50_ => an_e x50_ (fun h536_ x51_ => an_e x51_ (fun hq_v3_4y x52_ => an_e x52_ (fun hq_v2_4y x53_ => (fun hM_ => fr_eq (FR.put hF_4 hM530_ (Or.inl ⟨rfl, rfl, rfl⟩)) hM_) x53_)))))))))))))) (fun x40_ => an_e x40_ (fun h524_ x41_ => ex_e x41_ (fun z537_ x42_ => an_e x42_ (fun h538_ x43_ => ex_e x43_ (fun j541_ x44_ => an_e x44_ (fun h542_ x45_ => ex_e x45_ (fun M539_ x46_ => an_e x46_ (fun hM540_ x47_ => ex_e x47_ (fun z545_ x48_ => an_e x48_ (fun h546_ x49_ => an_e x49_ (fun hq_v3_4y x50_ => an_e x50_ (fun hq_v2_4y x51_ => (fun hM_ => fr_eq (FR.put hF_4 hM540_ (Or.inl ⟨rfl, rfl, rfl⟩)) hM_) x51_)))))))))))))))))))))))))))))) (fun x22_ => an_e x22_ (fun h506_ x23_ => ex_e x23_ (fun z547_ x24_ => an_e x24_ (fun h548_ x25_ => ex_e x25_ (fun z549_ x26_ => an_e x26_ (fun h550_ x27_ => ex_e x27_ (fun z551_ x28_ => an_e x28_ (fun h552_ x29_ => ex_e x29_ (fun j555_ x30_ => an_e x30_ (fun h556_ x31_ => ex_e x31_ (fun z553_ x32_ => an_e x32_ (fun e554_ x33_ => or_e x33_ (fun x34_ => an_e x34_ (fun h557_ x35_ => ex_e x35_ (fun z558_ x36_ => an_e x36_ (fun h559_ x37_ => ex_e x37_ (fun j562_ x38_ => an_e x38_ (fun h563_ x39_ => ex_e x39_ (fun z560_ x40_ => an_e x40_ (fun e561_ x41_ => ex_e x41_ (fun j566_ x42_ => an_e x42_ (fun h567_ x43_ => ex_e x43_ (fun M564_ x44_ => an_e x44_ (fun hM565_ x45_ => ex_e x45_ (fun z570_ x46_ => an_e x46_ (fun h571_ x47_ => an_e x47_ (fun hq_v3_4y x48_ => an_e x48_ (fun hq_v2_4y x49_ => (fun hM_ => fr_eq (FR.put hF_4 hM565_ (Or.inl ⟨rfl, rfl, rfl⟩)) hM_) x49_)))))))))))))))) (fun x34_ => an_e x34_ (fun h557_ x35_ => ex_e x35_ (fun j574_ x36_ => an_e x36_ (fun h575_ x37_ => ex_e x37_ (fun z572_ x38_ => an_e x38_ (fun e573_ x39_ => ex_e x39_ (fun j578_ x40_ => an_e x40_ (fun h579_ x41_ => ex_e x41_ (fun M576_ x42_ => an_e x42_ (fun hM577_ x43_ => ex_e x43_ (fun z582_ x44_ => an_e x44_ (fun h583_ x45_ => an_e x45_ (fun hq_v3_4y x46_ => an_e x46_ (fun hq_v2_4y x47_ => (fun hM_ => fr_eq (FR.put hF_4 hM577_ (Or.inl ⟨rfl, rfl, rfl⟩)) hM_) x47_)))))))))))))))))))))))))))))) (fun x18_ => an_e x18_ (fun h19_ x19_ => or_e x19_ (fun x20_ => an_e x20_ (fun h584_ x21_ => an_e x21_ (fun h585_ x22_ => an_e x22_ (fun h586_ x23_ => ex_e x23_ (fun z587_ x24_ => an_e x24_ (fun h588_ x25_ => an_e x25_ (fun hq_v3_4y x26_ => an_e x26_ (fun hq_v2_4y x27_ => (fun hM_ => fr_eq hF_4 hM_) x27_)))))))) (fun x20_ => an_e x20_ (fun h584_ x21_ => ex_e x21_ (fun z589_ x22_ => an_e x22_ (fun h590_ x23_ => ex_e x23_ (fun z591_ x24_ => an_e x24_ (fun h592_ x25_ => ex_e x25_ (fun j595_ x26_ => an_e x26_ (fun h596_ x27_ => ex_e x27_ (fun z593_ x28_ => an_e x28_ (fun e594_ x29_ => ex_e x29_ (fun z597_ x30_ => an_e x30_ (fun h598_ x31_ => ex_e x31_ (fun j601_ x32_ => an_e x32_ (fun h602_ x33_ => ex_e x33_ (fun M599_ x34_ => an_e x34_ (fun hM600_ x35_ => ex_e x35_ (fun z605_ x36_ => an_e x36_ (fun h606_ x37_ => an_e x37_ (fun hq_v3_4y x38_ => an_e x38_ (fun hq_v2_4y x39_ => (fun hM_ => fr_eq (FR.put hF_4 hM600_ (Or.inl ⟨rfl, rfl, rfl⟩)) hM_) x39_)))))))))))))))))))))))) (fun x16_ => an_e x16_ (fun h18_ x17_ => or_e x17_ (fun x18_ => an_e x18_ (fun h607_ x19_ => an_e x19_ (fun h608_ x20_ => an_e x20_ (fun h609_ x21_ => an_e x21_ (fun h610_ x22_ => ex_e x22_ (fun z611_ x23_ => an_e x23_ (fun h612_ x24_ => ex_e x24_ (fun z613_ x25_ => an_e x25_ (fun h614_ x26_ => ex_e x26_ (fun j617_ x27_ => an_e x27_ (fun h618_ x28_ => ex_e x28_ (fun z615_ x29_ => an_e x29_ (fun e616_ x30_ => ex_e x30_ (fun j621_ x31_ => an_e x31_ (fun h622_ x32_ => ex_e x32_ (fun z619_ x33_ => an_e x33_ (fun e620_ x34_ => ex_e x34_ (fun z623_ x35_ => an_e x35_ (fun h624_ x36_ => or_e x36_ (fun x37_ => an_e x37_ (fun e625_ x38_ => ex_e x38_ (fun z626_ x39_ => an_e x39_ (fun h627_ x40_ => ex_e x40_ (fun z628_ x41_ => an_e x41_ (fun h629_ x42_ => ex_e x42_ (fun j632_ x43_ => an_e x43_ (fun h633_ x44_ => ex_e x44_ (fun M630_ x45_ => an_e x45_ (fun hM631_ x46_ => ex_e x46_ (fun z636_ x47_ => an_e x47_ (fun h637_ x48_ => an_e x48_ (fun hq_v3_4y x49_ => an_e x49_ (fun hq_v2_4y x50_ => (fun hM_ => fr_eq (FR.put hF_4 hM631_ (Or.inl ⟨rfl, rfl, rfl⟩)) hM_) x50_)))))))))))))) (fun x37_ => or_e x37_ (fun x38_ => an_e x38_ (fun e625_ x39_ => ex_e x39_ (fun z638_ x40_ => an_e x40_ (fun h639_ x41_ => ex_e x41_ (fun z640_ x42_ => an_e x42_ (fun h641_ x43_ => ex_e x43_ (fun j644_ x44_ => an_e x44_ (fun h645_ x45_ => ex_e x45_ (fun M642_ x46_ => an_e x46_ (fun hM643_ x47_ => ex_e x47_ (fun z648_ x48_ => an_e x48_ (fun h649_ x49_ => an_e x49_ (fun hq_v3_4y x50_ => an_e x50_ (fun hq_v2_4y x51_ => (fun hM_ => fr_eq (FR.put hF_4 hM643_ (Or.inl ⟨rfl, rfl, rfl⟩)) hM_) x51_)))))))))))))) (fun x38_ => or_e x38_ (fun x39_ => an_e x39_ (fun e625_ x40_ => or_e x40_ (fun x41_ => an_e x41_ (fun h650_ x42_ => ex_e x42_ (fun z651_ x43_ => an_e x43_ (fun h652_ x44_ => ex_e x44_ (fun z653_ x45_ => an_e x45_ (fun h654_ x46_ => ex_e x46_ (fun j657_ x47_ => an_e x47_ (fun h658_ x48_ => ex_e x48_ (fun M655_ x49_ => an_e x49_ (fun hM656_ x50_ => ex_e x50_ (fun z661_ x51_ => an_e x51_ (fun h662_ x52_ => an_e x52_ (fun hq_v3_4y x53_ => an_e x53_ (fun hq_v2_4y x54_ => (fun hM_ => fr_eq (FR.put hF_4 hM656_ (Or.inl ⟨rfl, rfl, rfl⟩)) hM_) x54_)))))))))))))) (fun x41_ => an_e x41_ (fun h650_ x42_ => ex_e x42_ (fun z663_ x43_ => an_e x43_ (fun h664_ x44_ => ex_e x44_ (fun j667_ x45_ => an_e x45_ (fun h668_ x46_ => ex_e x46_ (fun M665_ x47_ => an_e x47_ (fun hM666_ x48_ => ex_e x48_ (fun z671_ x49_ => an_e x49_ (fun h672_ x50_ => an_e x50_ (fun hq_v3_4y x51_ => an_e x51_ (fun hq_v2_4y x52_ => (fun hM_ => fr_eq (FR.put hF_4 hM666_ (Or.inl ⟨rfl, rfl, rfl⟩)) hM_) x52_)))))))))))))) (fun x39_ => or_e x39_ (fun x40_ => an_e x40_ (fun e625_ x41_ => ex_e x41_ (fun z673_ x42_ => an_e x42_ (fun h674_ x43_ => ex_e x43_ (fun z675_ x44_ => an_e x44_ (fun h676_ x45_ => ex_e x45_ (fun j679_ x46_ => an_e x46_ (fun h680_ x47_ => ex_e x47_ (fun M677_ x48_ => an_e x48_ (fun hM678_ x49_ => ex_e x49_ (fun z683_ x50_ => an_e x50_ (fun h684_ x51_ => an_e x51_ (fun hq_v3_4y x52_ => an_e x52_ (fun hq_v2_4y x53_ => (fun hM_ => fr_eq (FR.put hF_4 hM678_ (Or.inl ⟨rfl, rfl, rfl⟩)) hM_) x53_)))))))))))))) (fun x40_ => or_e x40_ (fun x41_ => an_e x41_ (fun e625_ x42_ => or_e x42_ (fun x43_ => an_e x43_ (fun h685_ x44_ => ex_e x44_ (fun z686_ x45_ => an_e x45_ (fun h687_ x46_ => ex_e x46_ (fun z688_ x47_ => an_e x47_ (fun h689_ x48_ => ex_e x48_ (fun j692_ x49_ => an_e x49_ (fun h693_ x50_ => ex_e x50_ (fun M690_ x51_ => an_e x51_ (fun hM691_ x52_ => ex_e x52_ (fun z696_ x53_ => an_e x53_ (fun h697_ x54_ => an_e x54_ (fun hq_v3_4y x55_ => an_e x55_ (fun hq_v2_4y x56_ => (fun hM_ => fr_eq (FR.put hF_4 hM691_ (Or.inl ⟨rfl, rfl, rfl⟩)) hM_) x56_)))))))))))))) (fun x43_ => an_e x43_ (fun h685_ x44_ => ex_e x44_ (fun z698_ x45_ => an_e x45_ (fun h699_ x46_ => ex_e x46_ (fun j702_ x47_ => an_e x47_ (fun h703_ x48_ => ex_e x48_ (fun M700_ x49_ => an_e x49_ (fun hM701_ x50_ => ex_e x50_ (fun z706_ x51_ => an_e x51_ (fun h707_ x52_ => an_e x52_ (fun hq_v3_4y x53_ => an_e x53_ (fun hq_v2_4y x54_ => (fun hM_ => fr_eq (FR.put hF_4 hM701_ (Or.inl ⟨rfl, rfl, rfl⟩)) hM_) x54_)))))))))))))) (fun x41_ => or_e x41_ (fun x42_ => an_e x42_ (fun e625_ x43_ => or_e x43_ (fun x44_ => an_e x44_ (fun h708_ x45_ => ex_e x45_ (fun z709_ x46_ => an_e x46_ (fun h710_ x47_ => ex_e x47_ (fun z711_ x48_ => an_e x48_ (fun h712_ x49_ => ex_e x49_ (fun j715_ x50_ => an_e x50_ (fun h716_ x51_ => ex_e x51_ (fun M713_ x52_ => an_e x52_ (fun hM714_ x53_ => ex_e x53_ (fun z719_ x54_ => an_e x54_ (fun h720_ x55_ => an_e x55_ (fun hq_v3_4y x56_ => an_e x56_ (fun hq_v2_4y x57_ => (fun hM_ => fr_eq (FR.put hF_4 hM714_ (Or.inl ⟨rfl, rfl, rfl⟩)) hM_) x57_)))))))))))))) (fun x44_ => an_e x44_ (fun h708_ x45_ => ex_e x45_ (fun z721_ x46_ => an_e x46_ (fun h722_ x47_ => ex_e x47_ (fun j725_ x48_ => an_e x48_ (fun h726_ x49_ => ex_e x49_ (fun M723_ x50_ => an_e x50_ (fun hM724_ x51_ => ex_e x51_ (fun z729_ x52_ => an_e x52_ (fun h730_ x53_ => an_e x53_ (fun hq_v3_4y x54_ => an_e x54_ (fun hq_v2_4y x55_ => (fun hM_ => fr_eq (FR.put hF_4 hM724_ (Or.inl ⟨rfl, rfl, rfl⟩)) hM_) x55_)))))))))))))) (fun x42_ => or_e x42_ (fun x43_ => an_e x43_ (fun e625_ x44_ => or_e x44_ (fun x45_ => an_e x45_ (fun h731_ x46_ => ex_e x46_ (fun z732_ x47_ => an_e x47_ (fun h733_ x48_ => ex_e x48_ (fun z734_ x49_ => an_e x49_ (fun h735_ x50_ => ex_e x50_ (fun j738_ x51_ => an_e x51_ (fun h739_ x52_ => ex_e x52_ (fun M736_ x53_ => an_e x53_ (fun hM737_ x54_ => ex_e x54_ (fun z742_ x55_ => an_e x55_ (fun h743_ x56_ => an_e x56_ (fun hq_v3_4y x57_ => an_e x57_ (fun hq_v2_4y x58_ => (fun hM_ => fr_eq (FR.put hF_4 hM737_ (Or.inl ⟨rfl, rfl, rfl⟩)) hM_) x58_)))))))))))))) (fun x45_ => an_e x45_ (fun h731_ x46_ => ex_e x46_ (fun z744_ x47_ => an_e x47_ (fun h745_ x48_ => ex_e x48_ (fun j748_ x49_ => an_e x49_ (fun h749_ x50_ => ex_e x50_ (fun M746_ x51_ => an_e x51_ (fun hM747_ x52_ => ex_e x52_ (fun z752_ x53_ => an_e x53_ (fun h753_ x54_ => an_e x54_ (fun hq_v3_4y x55_ => an_e x55_ (fun hq_v2_4y x56_ => (fun hM_ => fr_eq (FR.put hF_4 hM747_ (Or.inl ⟨rfl, rfl, rfl⟩)) hM_) x56_)))))))))))))) (fun x43_ => or_e x43_ (fun x44_ => an_e x44_ (fun e625_ x45_ => or_e x45_ (fun x46_ => an_e x46_ (fun h754_ x47_ => ex_e x47_ (fun z755_ x48_ => an_e x48_ (fun h756_ x49_ => ex_e x49_ (fun z757_ x50_ => an_e x50_ (fun h758_ x51_ => ex_e x51_ (fun j761_ x52_ => an_e x52_ (fun h762_ x53_ => ex_e x53_ (fun M759_ x54_ => an_e x54_ (fun hM760_ x55_ => ex_e x55_ (fun z765_ x56_ => an_e x56_ (fun h766_ x57_ => an_e x57_ (fun hq_v3_4y x58_ => an_e x58_ (fun hq_v2_4y x59_ => (fun hM_ => fr_eq (FR.put hF_4 hM760_ (Or.inl ⟨rfl, rfl, rfl⟩)) hM_) x59_)))))))))))))) (fun x46_ => an_e x46_ (fun h754_ x47_ => ex_e x47_ (fun z767_ x48_ => an_e x48_ (fun h768_ x49_ => ex_e x49_ (fun j771_ x50_ => an_e x50_ (fun h772_ x51_ => ex_e x51_ (fun M769_ x52_ => an_e x52_ (fun hM770_ x53_ => ex_e x53_ (fun z775_ x54_ => an_e x54_ (fun h776_ x55_ => an_e x55_ (fun hq_v3_4y x56_ => an_e x56_ (fun hq_v2_4y x57_ => (fun hM_ => fr_eq (FR.put hF_4 hM770_ (Or.inl ⟨rfl, rfl, rfl⟩)) hM_) x57_)))))))))))))) (fun x44_ => or_e x44_ (fun x45_ => an_e x45_ (fun e625_ x46_ => or_e x46_ (fun x47_ => an_e x47_ (fun h777_ x48_ => ex_e x48_ (fun z778_ x49_ => an_e x49_ (fun h779_ x50_ => ex_e x50_ (fun z780_ x51_ => an_e x51_ (fun h781_ x52_ => ex_e x52_ (fun j784_ x53_ => an_e x53_ (fun h785_ x54_ => ex_e x54_ (fun M782_ x55_ => an_e x55_ (fun hM783_ x56_ => ex_e x56_ (fun z788_ x57_ => an_e x57_ (fun h789_ x58_ => an_e x58_ (fun hq_v3_4y x59_ => an_e x59_ (fun hq_v2_4y x60_ => (fun hM_ => fr_eq (FR.put hF_4 hM783_ (Or.inl ⟨rfl, rfl, rfl⟩)) hM_) x60_)))))))))))))) (fun x47_ => an_e x47_ (fun h777_ x48_ => ex_e x48_ (fun z790_ x49_ => an_e x49_ (fun h791_ x50_ => ex_e x50_ (fun j794_ x51_ => an_e x51_ (fun h795_ x52_ => ex_e x52_ (fun M792_ x53_ => an_e x53_ (fun hM793_ x54_ => ex_e x54_ (fun z798_ x55_ => an_e x55_ (fun h799_ x56_ => an_e x56_ (fun hq_v3_4y x57_ => an_e x57_ (fun hq_v2_4y x58_ => (fun hM_ => fr_eq (FR.put hF_4 hM793_ (Or.inl ⟨rfl, rfl, rfl⟩)) hM_) x58_)))))))))))))) (fun x45_ => or_e x45_ (fun x46_ => an_e x46_ (fun e625_ x47_ => or_e x47_ (fun x48_ => an_e x48_ (fun h800_ x49_ => ex_e x49_ (fun z801_ x50_ => an_e x50_ (fun h802_ x51_ => ex_e x51_ (fun z803_ x52_ => an_e x52_ (fun h804_ x53_ => ex_e x53_ (fun j807_ x54_ => an_e x54_ (fun h808_ x55_ => ex_e x55_ (fun M805_ x56_ => an_e x56_ (fun hM806_ x57_ => ex_e x57_ (fun z811_ x58_ => an_e x58_ (fun h812_ x59_ => an_e x59_ (fun hq_v3_4y x60_ => an_e x60_ (fun hq_v2_4y x61_ => (fun hM_ => fr_eq (FR.put hF_4 hM806_ (Or.inl ⟨rfl, rfl, rfl⟩)) hM_) x61_)))))))))))))) (fun x48_ => an_e x48_ (fun h800_ x49_ => ex_e x49_ (fun z813_ x50_ => an_e x50_ (fun h814_ x51_ => ex_e x51_ (fun j817_ x52_ => an_e x52_ (fun h818_ x53_ => ex_e x53_ (fun M815_ x54_ => an_e x54_ (fun hM816_ x55_ => ex_e x55_ (fun z821_ x56_ => an_e x56_ (fun h822_ x57_ => an_e x57_ (fun hq_v3_4y x58_ => an_e x58_ (fun hq_v2_4y x59_ => (fun hM_ => fr_eq (FR.put hF_4 hM816_ (Or.inl ⟨rfl, rfl, rfl⟩)) hM_) x59_)))))))))))))) (fun x46_ => or_e x46_ (fun x47_ => an_e x47_ (fun e625_ x48_ => or_e x48_ (fun x49_ => an_e x49_ (fun h823_ x50_ => ex_e x50_ (fun z824_ x51_ => an_e x51_ (fun h825_ x52_ => ex_e x52_ (fun z826_ x53_ => an_e x53_ (fun h827_ x54_ => ex_e x54_ (fun j830_ x55_ => an_e x55_ (fun h831_ x56_ => ex_e x56_ (fun M828_ x57_ => an_e x57_ (fun hM829_ x58_ => ex_e x58_ (fun z834_ x59_ => an_e x59_ (fun h835_ x60_ => an_e x60_ (fun hq_v3_4y x61_ => an_e x61_ (fun hq_v2_4y x62_ => (fun hM_ => fr_eq (FR.put hF_4 hM829_ (Or.inl ⟨rfl, rfl, rfl⟩)) hM_) x62_)))))))))))))) (fun x49_ => an_e x49_ (fun h823_ x50_ => ex_e x50_ (fun z836_ x51_ => an_e x51_ (fun h837_ x52_ => ex_e x52_ (fun j840_ x53_ => an_e x53_ (fun h841_ x54_ => ex_e x54_ (fun M838_ x55_ => an_e x55_ (fun hM839_ x56_ => ex_e x56_ (fun z844_ x57_ => an_e x57_ (fun h845_ x58_ => an_e x58_ (fun hq_v3_4y x59_ => an_e x59_ (fun hq_v2_4y x60_ => (fun hM_ => fr_eq (FR.put hF_4 hM839_ (Or.inl ⟨rfl, rfl, rfl⟩)) hM_) x60_)))))))))))))) (fun x47_ => or_e x47_ (fun x48_ => an_e x48_ (fun e625_ x49_ => or_e x49_ (fun x50_ => an_e x50_ (fun h846_ x51_ => ex_e x51_ (fun z847_ x52_ => an_e x52_ (fun h848_ x53_ => ex_e x53_ (fun z849_ x54_ => an_e x54_ (fun h850_ x55_ => ex_e x55_ (fun j853_ x56_ => an_e x56_ (fun h854_ x57_ => ex_e x57_ (fun M851_ x58_ => an_e x58_ (fun hM852_ x59_ => ex_e x59_ (fun z857_ x60_ => an_e x60_ (fun h858_ x61_ => an_e x61_ (fun hq_v3_4y x62_ => an_e x62_ (fun hq_v2_4y x63_ => (fun hM_ => fr_eq (FR.put hF_4 hM852_ (Or.inl ⟨rfl, rfl, rfl⟩)) hM_) x63_)))))))))))))) (fun x50_ => an_e x50_ (fun h846_ x51_ => ex_e x51_ (fun z859_ x52_ => an_e x52_ (fun h860_ x53_ => ex_e x53_ (fun j863_ x54_ => an_e x54_ (fun h864_ x55_ => ex_e x55_ (fun M861_ x56_ => an_e x56_ (fun hM862_ x57_ => ex_e x57_ (fun z867_ x58_ => an_e x58_ (fun h868_ x59_ => an_e x59_ (fun hq_v3_4y x60_ => an_e x60_ (fun hq_v2_4y x61_ => (fun hM_ => fr_eq (FR.put hF_4 hM862_ (Or.inl ⟨rfl, rfl, rfl⟩)) hM_) x61_)))))))))))))) (fun x48_ => or_e x48_ (fun x49_ => an_e x49_ (fun e625_ x50_ => or_e x50_ (fun x51_ => an_e x51_ (fun h869_ x52_ => ex_e x52_ (fun z870_ x53_ => an_e x53_ (fun h871_ x54_ => ex_e x54_ (fun z872_ x55_ => an_e x55_ (fun h873_ x56_ => ex_e x56_ (fun j876_ x57_ => an_e x57_ (fun h877_ x58_ => ex_e x58_ (fun M874_ x59_ => an_e x59_ (fun hM875_ x60_ => ex_e x60_ (fun z880_ x61_ => an_e x61_ (fun h881_ x62_ => an_e x62_ (fun hq_v3_4y x63_ => an_e x63_ (fun hq_v2_4y x64_ => (fun hM_ => fr_eq (FR.put hF_4 hM875_ (Or.inl ⟨rfl, rfl, rfl⟩)) hM_) x64_)))))))))))))) (fun x51_ => an_e x51_ (fun h869_ x52_ => ex_e x52_ (fun z882_ x53_ => an_e x53_ (fun h883_ x54_ => ex_e x54_ (fun j886_ x55_ => an_e x55_ (fun h887_ x56_ => ex_e x56_ (fun M884_ x57_ => an_e x57_ (fun hM885_ x58_ => ex_e x58_ (fun z890_ x59_ => an_e x59_ (fun h891_ x60_ => an_e x60_ (fun hq_v3_4y x61_ => an_e x61_ (fun hq_v2_4y x62_ => (fun hM_ => fr_eq (FR.put hF_4 hM885_ (Or.inl ⟨rfl, rfl, rfl⟩)) hM_) x62_)))))))))))))) (fun x49_ => or_e x49_ (fun x50_ => an_e x50_ (fun e625_ x51_ => or_e x51_ (fun x52_ => an_e x52_ (fun h892_ x53_ => ex_e x53_ (fun z893_ x54_ => an_e x54_ (fun h894_ x55_ => ex_e x55_ (fun z895_ x56_ => an_e x56_ (fun h896_ x57_ => ex_e x57_ (fun j899_ x58_ => an_e x58_ (fun h900_ x59_ => ex_e x59_ (fun M897_ x60_ => an_e x60_ (fun hM898_ x61_ => ex_e x61_ (fun z903_ x62_ => an_e x62_ (fun h904_ x63_ => an_e x63_ (fun hq_v3_4y x64_ => an_e x64_ (fun hq_v2_4y x65_ => (fun hM_ => fr_eq (FR.put hF_4 hM898_ (Or.inl ⟨rfl, rfl, rfl⟩)) hM_) x65_)))))))))))))) (fun x52_ => an_e x52_ (fun h892_ x53_ => ex_e x53_ (fun z905_ x54_ => an_e x54_ (fun h906_ x55_ => ex_e x55_ (fun j909_ x56_ => an_e x56_ (fun h910_ x57_ => ex_e x57_ (fun M907_ x58_ => an_e x58_ (fun hM908_ x59_ => ex_e x59_ (fun z913_ x60_ => an_e x60_ (fun h914_ x61_ => an_e x61_ (fun hq_v3_4y x62_ => an_e x62_ (fun hq_v2_4y x63_ => (fun hM_ => fr_eq (FR.put hF_4 hM908_ (Or.inl ⟨rfl, rfl, rfl⟩)) hM_) x63_)))))))))))))) (fun x50_ => or_e x50_ (fun x51_ => an_e x51_ (fun e625_ x52_ => or_e x52_ (fun x53_ => an_e x53_ (fun h915_ x54_ => ex_e x54_ (fun z916_ x55_ => an_e x55_ (fun h917_ x56_ => ex_e x56_ (fun z918_ x57_ => an_e x57_ (fun h919_ x58_ => ex_e x58_ (fun j922_ x59_ => an_e x59_ (fun h923_ x60_ => ex_e x60_ (fun M920_ x61_ => an_e x61_ (fun hM921_ x62_ => ex_e x62_ (fun z926_ x63_ => an_e x63_ (fun h927_ x64_ => an_e x64_ (fun hq_v3_4y x65_ => an_e x65_ (fun hq_v2_4y x66_ => (fun hM_ => fr_eq (FR.put hF_4 hM921_ (Or.inl ⟨rfl, rfl, rfl⟩)) hM_) x66_)))))))))))))) (fun x53_ => an_e x53_ (fun h915_ x54_ => ex_e x54_ (fun z928_ x55_ => an_e x55_ (fun h929_ x56_ => ex_e x56_ (fun j932_ x57_ => an_e x57_ (fun h933_ x58_ => ex_e x58_ (fun M930_ x59_ => an_e x59_ (fun hM931_ x60_ => ex_e x60_ (fun z936_ x61_ => an_e x61_ (fun h937_ x62_ => an_e x62_ (fun hq_v3_4y x63_ => an_e x63_ (fun hq_v2_4y x64_ => (fun hM_ => fr_eq (FR.put hF_4 hM931_ (Or.inl ⟨rfl, rfl, rfl⟩)) hM_) x64_)))))))))))))) (fun x51_ => or_e x51_ (fun x52_ => an_e x52_ (fun e625_ x53_ => or_e x53_ (fun x54_ => an_e x54_ (fun h938_ x55_ => ex_e x55_ (fun z939_ x56_ => an_e x56_ (fun h940_ x57_ => ex_e x57_ (fun z941_ x58_ => an_e x58_ (fun h942_ x59_ => ex_e x59_ (fun j945_ x60_ => an_e x60_ (fun h946_ x61_ => ex_e x61_ (fun M943_ x62_ => an_e x62_ (fun hM944_ x63_ => ex_e x63_ (fun z949_ x64_ => an_e x64_ (fun h950_ x65_ => an_e x65_ (fun hq_v3_4y x66_ => an_e x66_ (fun hq_v2_4y x67_ => (fun hM_ => fr_eq (FR.put hF_4 hM944_ (Or.inl ⟨rfl, rfl, rfl⟩)) hM_) x67_)))))))))))))) (fun x54_ => an_e x54_ (fun h938_ x55_ => ex_e x55_ (fun z951_ x56_ => an_e x56_ (fun h952_ x57_ => ex_e x57_ (fun j955_ x58_ => an_e x58_ (fun h956_ x59_ => ex_e x59_ (fun M953_ x60_ => an_e x60_ (fun hM954_ x61_ => ex_e x61_ (fun z959_ x62_ => an_e x62_ (fun h960_ x63_ => an_e x63_ (fun hq_v3_4y x64_ => an_e x64_ (fun hq_v2_4y x65_ => (fun hM_ => fr_eq (FR.put hF_4 hM954_ (Or.inl ⟨rfl, rfl, rfl⟩)) hM_) x65_)))))))))))))) (fun x52_ => or_e x52_ (fun x53_ => an_e x53_ (fun e625_ x54_ => or_e x54_ (fun x55_ => an_e x55_ (fun h961_ x56_ => ex_e x56_ (fun z962_ x57_ => an_e x57_ (fun h963_ x58_ => ex_e x58_ (fun z964_ x59_ => an_e x59_ (fun h965_ x60_ => ex_e x60_ (fun j968_ x61_ => an_e x61_ (fun h969_ x62_ => ex_e x62_ (fun M966_ x63_ => an_e x63_ (fun hM967_ x64_ => ex_e x64_ (fun z972_ x65_ => an_e x65_ (fun h973_ x66_ => an_e x66_ (fun hq_v3_4y x67_ => an_e x67_ (fun hq_v2_4y x68_ => (fun hM_ => fr_eq (FR.put hF_4 hM967_ (Or.inl ⟨rfl, rfl, rfl⟩)) hM_) x68_)))))))))))))) (fun x55_ => an_e x55_ (fun h961_ x56_ => ex_e x56_ (fun z974_ x57_ => an_e x57_ (fun h975_ x58_ => ex_e x58_ (fun j978_ x59_ => an_e x59_ (fun h979_ x60_ => ex_e x60_ (fun M976_ x61_ => an_e x61_ (fun hM977_ x62_ => ex_e x62_ (fun z982_ x63_ => an_e x63_ (fun h983_ x64_ => an_e x64_ (fun hq_v3_4y x65_ => an_e x65_ (fun hq_v2_4y x66_ => (fun hM_ => fr_eq (FR.put hF_4 hM977_ (Or.inl ⟨rfl, rfl, rfl⟩)) hM_) x66_)))))))))))))) (fun x53_ => or_e x53_ (fun x54_ => an_e x54_ (fun e625_ x55_ => or_e x55_ (fun x56_ => an_e x56_ (fun h984_ x57_ => ex_e x57_ (fun z985_ x58_ => an_e x58_ (fun h986_ x59_ => ex_e x59_ (fun z987_ x60_ => an_e x60_ (fun h988_ x61_ => ex_e x61_ (fun j991_ x62_ => an_e x62_ (fun h992_ x63_ => ex_e x63_ (fun M989_ x64_ => an_e x64_ (fun hM990_ x65_ => ex_e x65_ (fun z995_ x66_ => an_e x66_ (fun h996_ x67_ => an_e x67_ (fun hq_v3_4y x68_ => an_e x68_ (fun hq_v2_4y x69_ => (fun hM_ => fr_eq (FR.put hF_4 hM990_ (Or.inl ⟨rfl, rfl, rfl⟩)) hM_) x69_)))))))))))))) (fun x56_ => an_e x56_ (fun h984_ x57_ => ex_e x57_ (fun z997_ x58_ => an_e x58_ (fun h998_ x59_ => ex_e x59_ (fun j1001_ x60_ => an_e x60_ (fun h1002_ x61_ => ex_e x61_ (fun M999_ x62_ => an_e x62_ (fun hM1000_ x63_ => ex_e x63_ (fun z1005_ x64_ => an_e x64_ (fun h1006_ x65_ => an_e x65_ (fun hq_v3_4y x66_ => an_e x66_ (fun hq_v2_4y x67_ => (fun hM_ => fr_eq (FR.put hF_4 hM1000_ (Or.inl ⟨rfl, rfl, rfl⟩)) hM_) x67_)))))))))))))) (fun x54_ => or_e x54_ (fun x55_ => an_e x55_ (fun e625_ x56_ => or_e x56_ (fun x57_ => an_e x57_ (fun h1007_ x58_ => ex_e x58_ (fun z1008_ x59_ => an_e x59_ (fun h1009_ x60_ => ex_e x60_ (fun j1012_ x61_ => an_e x61_ (fun h1013_ x62_ => ex_e x62_ (fun M1010_ x63_ => an_e x63_ (fun hM1011_ x64_ => ex_e x64_ (fun z1016_ x65_ => an_e x65_ (fun h1017_ x66_ => an_e x66_ (fun hq_v3_4y x67_ => an_e x67_ (fun hq_v2_4y x68_ => (fun hM_ => fr_eq (FR.put hF_4 hM1011_ (Or.inl ⟨rfl, rfl, rfl⟩)) hM_) x68_)))))))))))) (fun x57_ => an_e x57_ (fun h1007_ x58_ => ex_e x58_ (fun z1018_ x59_ => an_e x59_ (fun h1019_ x60_ => ex_e x60_ (fun j1022_ x61_ => an_e x61_ (fun h1023_ x62_ => ex_e x62_ (fun M1020_ x63_ => an_e x63_ (fun hM1021_ x64_ => ex_e x64_ (fun z1026_ x65_ => an_e x65_ (fun h1027_ x66_ => an_e x66_ (fun hq_v3_4y x67_ => an_e x67_ (fun hq_v2_4y x68_ => (fun hM_ => fr_eq (FR.put hF_4 hM1021_ (Or.inl ⟨rfl, rfl, rfl⟩)) hM_) x68_)))))))))))))) (fun x55_ => or_e x55_ (fun x56_ => an_e x56_ (fun e625_ x57_ => or_e x57_ (fun x58_ => an_e x58_ (fun h1028_ x59_ => ex_e x59_ (fun z1029_ x60_ => an_e x60_ (fun h1030_ x61_ => ex_e x61_ (fun j1033_ x62_ => an_e x62_ (fun h1034_ x63_ => ex_e x63_ (fun M1031_ x64_ => an_e x64_ (fun hM1032_ x65_ => ex_e x65_ (fun z1037_ x66_ => an_e x66_ (fun h1038_ x67_ => an_e x67_ (fun hq_v3_4y x68_ => an_e x68_ (fun hq_v2_4y x69_ => (fun hM_ => fr_eq (FR.put hF_4 hM1032_ (Or.inl ⟨rfl, rfl, rfl⟩)) hM_) x69_)))))))))))) (fun x58_ => an_e x58_ (fun h1028_ x59_ => ex_e x59_ (fun z1039_ x60_ => an_e x60_ (fun h1040_ x61_ => ex_e x61_ (fun j1043_ x62_ => an_e x62_ (fun h1044_ x63_ => ex_e x63_ (fun M1041_ x64_ => an_e x64_ (fun hM1042_ x65_ => ex_e x65_ (fun z1047_ x66_ => an_e x66_ (fun h1048_ x67_ => an_e x67_ (fun hq_v3_4y x68_ => an_e x68_ (fun hq_v2_4y x69_ => (fun hM_ => fr_eq (FR.put hF_4 hM1042_ (Or.inl ⟨rfl, rfl, rfl⟩)) hM_) x69_)))))))))))))) (fun x56_ => or_e x56_ (fun x57_ => an_e x57_ (fun e625_ x58_ => or_e x58_ (fun x59_ => an_e x59_ (fun h1049_ x60_ => ex_e x60_ (fun z1050_ x61_ => an_e x61_ (fun h1051_ x62_ => ex_e x62_ (fun j1054_ x63_ => an_e x63_ (fun h1055_ x64_ => ex_e x64_ (fun M1052_ x65_ => an_e x65_ (fun hM1053_ x66_ => ex_e x66_ (fun z1058_ x67_ => an_e x67_ (fun h1059_ x68_ => an_e x68_ (fun hq_v3_4y x69_ => an_e x69_ (fun hq_v2_4y x70_ => (fun hM_ => fr_eq (FR.put hF_4 hM1053_ (Or.inl ⟨rfl, rfl, rfl⟩)) hM_) x70_)))))))))))) (fun x59_ => an_e x59_ (fun h1049_ x60_ => ex_e x60_ (fun z1060_ x61_ => an_e x61_ (fun h1061_ x62_ => ex_e x62_ (fun j1064_ x63_ => an_e x63_ (fun h1065_ x64_ => ex_e x64_ (fun M1062_ x65_ => an_e x65_ (fun hM1063_ x66_ => ex_e x66_ (fun z1068_ x67_ => an_e x67_ (fun h1069_ x68_ => an_e x68_ (fun hq_v3_4y x69_ => an_e x69_ (fun hq_v2_4y x70_ => (fun hM_ => fr_eq (FR.put hF_4 hM1063_ (Or.inl ⟨rfl, rfl, rfl⟩)) hM_) x70_)))))))))))))) (fun x57_ => an_e x57_ (fun e625_ x58_ => or_e x58_ (fun x59_ => an_e x59_ (fun h1070_ x60_ => ex_e x60_ (fun z1071_ x61_ => an_e x61_ (fun h1072_ x62_ => ex_e x62_ (fun z1073_ x63_ => an_e x63_ (fun h1074_ x64_ => ex_e x64_ (fun j1077_ x65_ => an_e x65_ (fun h1078_ x66_ => ex_e x66_ (fun M1075_ x67_ => an_e x67_ (fun hM1076_ x68_ => ex_e x68_ (fun z1081_ x69_ => an_e x69_ (fun h1082_ x70_ => an_e x70_ (fun hq_v3_4y x71_ => an_e x71_ (fun hq_v2_4y x72_ => (fun hM_ => fr_eq (FR.put hF_4 hM1076_ (Or.inl ⟨rfl, rfl, rfl⟩)) hM_) x72_)))))))))))))) (fun x59_ => an_e x59_ (fun h1070_ x60_ => ex_e x60_ (fun z1083_ x61_ => an_e x61_ (fun h1084_ x62_ => ex_e x62_ (fun j1087_ x63_ => an_e x63_ (fun h1088_ x64_ => ex_e x64_ (fun M1085_ x65_ => an_e x65_ (fun hM1086_ x66_ => ex_e x66_ (fun z1091_ x67_ => an_e x67_ (fun h1092_ x68_ => an_e x68_ (fun hq_v3_4y x69_ => an_e x69_ (fun hq_v2_4y x70_ => (fun hM_ => fr_eq (FR.put hF_4 hM1086_ (Or.inl ⟨rfl, rfl, rfl⟩)) hM_) x70_))))))))))))))))))))))))))))))))))))))))))))))))))))) (fun x18_ => an_e x18_ (fun h607_ x19_ => or_e x19_ (fun x20_ => an_e x20_ (fun h1093_ x21_ => or_e x21_ (fun x22_ => an_e x22_ (fun h1094_ x23_ => ex_e x23_ (fun j1097_ x24_ => an_e x24_ (fun h1098_ x25_ => ex_e x25_ (fun M1095_ x26_ => an_e x26_ (fun hM1096_ x27_ => ex_e x27_ (fun z1101_ x28_ => an_e x28_ (fun h1102_ x29_ => ex_e x29_ (fun z1103_ x30_ => an_e x30_ (fun h1104_ x31_ => an_e x31_ (fun hq_v3_4y x32_ => an_e x32_ (fun hq_v2_4y x33_ => (fun hM_ => fr_eq (FR.put hF_4 hM1096_ (Or.inl ⟨rfl, rfl, rfl⟩)) hM_) x33_)))))))))))) (fun x22_ => an_e x22_ (fun h1094_ x23_ => ex_e x23_ (fun j1107_ x24_ => an_e x24_ (fun h1108_ x25_ => ex_e x25_ (fun z1105_ x26_ => an_e x26_ (fun e1106_ x27_ => ex_e x27_ (fun j1111_ x28_ => an_e x28_ (fun h1112_ x29_ => ex_e x29_ (fun M1109_ x30_ => an_e x30_ (fun hM1110_ x31_ => ex_e x31_ (fun z1115_ x32_ => an_e x32_ (fun h1116_ x33_ => ex_e x33_ (fun z1117_ x34_ => an_e x34_ (fun h1118_ x35_ => an_e x35_ (fun hq_v3_4y x36_ => an_e x36_ (fun hq_v2_4y x37_ => (fun hM_ => fr_eq (FR.put hF_4 hM1110_ (Or.inl ⟨rfl, rfl, rfl⟩)) hM_) x37_)))))))))))))))))) (fun x20_ => an_e x20_ (fun h1093_ x21_ => ex_e x21_ (fun j1121_ x22_ => an_e x22_ (fun h1122_ x23_ => ex_e x23_ (fun M1119_ x24_ => an_e x24_ (fun hM1120_ x25_ => ex_e x25_ (fun z1125_ x26_ => an_e x26_ (fun h1126_ x27_ => ex_e x27_ (fun z1127_ x28_ => an_e x28_ (fun h1128_ x29_ => an_e x29_ (fun hq_v3_4y x30_ => an_e x30_ (fun hq_v2_4y x31_ => (fun hM_ => fr_eq (FR.put hF_4 hM1120_ (Or.inl ⟨rfl, rfl, rfl⟩)) hM_) x31_)))))))))))))))))))))))))))))))
theorem x12done {v u t : Int32} {M : mM} {r : Int32} (h : SP_X12_done v u t M r) : r = dnS v.toInt u t := by
  refine xE_SP_X12_done h ⟨(fun e1_ => ⟨(fun h2_ hr_ => ?_), (fun h2_ hr_ => ?_)⟩), (fun e1_ => ⟨(fun h3_ hr_ => ?_), (fun h3_ hr_ => ?_)⟩), (fun e1_ => ⟨(fun h4_ hr_ => ?_), (fun h4_ hr_ => ?_)⟩), (fun e1_ z5_ h6_ hr_ => ?_), (fun e1_ z7_ h8_ hr_ => ?_), (fun e1_ z9_ h10_ hr_ => ?_), (fun e1_ => ⟨(fun h11_ z12_ h13_ hr_ => ?_), (fun h11_ hr_ => ?_)⟩), (fun e1_ => ⟨(fun h14_ z15_ h16_ hr_ => ?_), (fun h14_ hr_ => ?_)⟩)⟩
  · rw [hr_, dn_0 e1_, if_neg (by omega)]
  · rw [hr_, dn_0 e1_, if_pos (by omega)]
  · rw [hr_, dn_1 e1_, if_neg (by omega)]
  · rw [hr_, dn_1 e1_, if_pos (by omega)]
  · rw [hr_, dn_2 e1_, if_neg (by omega)]
  · rw [hr_, dn_2 e1_, if_pos (by omega)]
  · rw [hr_, dn_3 e1_, h6_]
  · rw [hr_, dn_4 e1_, h8_]
  · rw [hr_, dn_5 e1_, h10_]
  · rw [hr_, dn_6 e1_, if_neg h11_, h13_]
  · rw [hr_, dn_6 e1_, if_pos h11_]
  · unfold dnS
    rw [if_neg (by omega), if_neg (by omega), if_neg (by omega), if_neg (by omega), if_neg (by omega), if_neg (by omega), if_neg (by omega), hr_, if_neg h14_, h16_]
  · unfold dnS
    rw [if_neg (by omega), if_neg (by omega), if_neg (by omega), if_neg (by omega), if_neg (by omega), if_neg (by omega), if_neg (by omega), hr_, if_pos h14_]
theorem AGs.trans_ {p q q' : Nat × (Nat → Int32)} (h : AGs p q) (e : q = q') : AGs p q' := e ▸ h

theorem S1_c {b w b2 : Nat} {M M' : mM} (h : FR (S_c_X1_work b w b2) M M') {c : rf} {k : Nat} (hc : c.1 ≠ 25) : M'.1 c k = M.1 c k := h c k (fun q => by simp only [S_c_X1_work, or_false] at q; exact hc q.1)
/-- the class works a text out -/
theorem x1work {b u b2 : Nat} {M M' : mM} {r : Int32} {n : Nat → Int32} {nn : Nat} {v : Nat → Int32} (h : SP_X1_work b u b2 M r M') (hu : u < 3)
    (hw : WT n) (hs : M.1 (1, b, u) 2 = n (345 + 50 * u)) (hx : ∀ i : Nat, (i : Int) < (n (345 + 50 * u)).toInt → (M.1 (24, b, u) i).toInt = cmI (n (346 + 50 * u + i)).toInt ∧ cOK nn (n (346 + 50 * u + i)))
    (hv : ∀ i, i < nn → M.1 (29, b2, 0) i = v i) (h0 : 0 < (n (345 + 50 * u)).toInt) : r = evR n u v := by
  obtain ⟨m, D, hm, hsz, hdp⟩ := hw u hu
  rw [show 345 + 50 * u + 1 = 346 + 50 * u by omega] at hdp
  have key : ∀ z : Int32 × Int32 × mM, RCH (fun x_ y_ => ST_X1_work_4 b u b2 M x_.1 x_.2.1 x_.2.2 y_.1 y_.2.1 y_.2.2) ((0 : Int32), (0 : Int32), M) z → 0 ≤ z.1.toInt ∧ z.1.toInt ≤ m ∧ FR (S_c_X1_work b u b2) M z.2.2 ∧ 0 ≤ z.2.1.toInt ∧ AGs (evS n (346 + 50 * u) v z.1.toInt.toNat) (z.2.1.toInt.toNat, z.2.2.1 (25, b, u)) := by
    intro z hz
    refine rind hz (fun z => 0 ≤ z.1.toInt ∧ z.1.toInt ≤ m ∧ FR (S_c_X1_work b u b2) M z.2.2 ∧ 0 ≤ z.2.1.toInt ∧ AGs (evS n (346 + 50 * u) v z.1.toInt.toNat) (z.2.1.toInt.toNat, z.2.2.1 (25, b, u))) ?_ ?_
    · have i0 := il_0
      refine ⟨by dsimp only; omega, by dsimp only; omega, FR.self, by dsimp only; omega, ?_⟩
      (try dsimp only)
      rw [il_0]
      exact ⟨rfl, fun i hi => absurd hi (Nat.not_lt_zero i)⟩
    · intro x z hp hst
      obtain ⟨x1, x2, x3⟩ := x
      obtain ⟨z1, z2, z3⟩ := z
      (try dsimp only at hp hst ⊢)
      obtain ⟨p1, p2, p3, p4, p5⟩ := hp
      have hlt : x1.toInt < m := by
        unfold ST_X1_work_4 at hst
        obtain ⟨-, -, -, -, hF, z2_, e3_, h4_, -⟩ := hst
        have := eT e3_
        rw [S1_c hF (by simp), hs] at this
        omega
      have hFR : FR (S_c_X1_work b u b2) M z3 := wk_fr hst
      have g := hx x1.toInt.toNat (by omega)
      have ok := dpt_ok (v := v) hdp (n := x1.toInt.toNat) (by omega)
      have tp := p5.1
      (try dsimp only at tp)
      have dl := dpt_le (dpt_sv (v := v) hdp x1.toInt.toNat (by omega))
      have st := wk_step hst (c := n (346 + 50 * u + x1.toInt.toNat)) (by rw [S1_c p3 (by simp)]; exact g.1) (by omega)
      unfold wkG at st
      refine ⟨by omega, by omega, hFR, by rw [st.2.1]; exact Int.natCast_nonneg _, ?_⟩
      rw [show z1.toInt.toNat = x1.toInt.toNat + 1 by omega, st.2.1, Int.toNat_natCast, st.2.2]
      show AGs (svS v (n (346 + 50 * u + x1.toInt.toNat)) (evS n (346 + 50 * u) v x1.toInt.toNat)) _
      exact sv_ag (nn := nn) p5 (fun i hi => by rw [S1_c p3 (by simp)]; exact (hv i hi).symm) g.2 (by omega)
  refine xE_SP_X1_work h (fun v3_4 hv0_4 v2_4 hv1_4 hv2_4 M_4 hL_4 _ hF_4 z2_ e3_ => ⟨(fun h4_ => ⟨(fun h5_ hr_ hM_ => ?_), (fun h5_ z6_ e7_ hr_ hM_ => ?_)⟩), (fun h4_ h8_ => ⟨(fun h9_ hr_ hM_ => ?_), (fun h9_ z10_ e11_ hr_ hM_ => ?_)⟩)⟩)
  all_goals
    have k := key _ hL_4
    (try dsimp only at k)
    obtain ⟨k1, k2, k3, k4, k5⟩ := k
    have y := eT e3_
    rw [S1_c k3 (by simp), hs] at y
    have e5 : v3_4.toInt.toNat = (n (345 + 50 * u)).toInt.toNat := by omega
    have po := dpt_pos (v := v) hdp ((n (345 + 50 * u)).toInt.toNat - 1) (by omega)
    rw [show (n (345 + 50 * u)).toInt.toNat - 1 + 1 = (n (345 + 50 * u)).toInt.toNat by omega] at po
    rw [e5] at k5
    have k6 := k5.1
    (try dsimp only at k6)
    first
      | (exfalso; omega)
      | (unfold evR; rw [hr_, k5.2 0 (by omega)]; assumption)
/-- the model works a text out -/
theorem x12given {w : Int32} {u : Nat} {M M' : mM} {r : Int32} {v : Nat → Int32} {nn : Nat} (h : SP_X12_given w M r M') (hD : InvD M) (hw : w.toInt = u ∧ u < 3)
    (hx : ∀ i : Nat, (i : Int) < (M.1 (50, 0, 0) (345 + 50 * u)).toInt → cOK nn (M.1 (50, 0, 0) (346 + 50 * u + i)))
    (hv : ∀ i, i < nn → M.1 (58, 0, 0) i = v i) (h0 : 0 < (M.1 (50, 0, 0) (345 + 50 * u)).toInt) : r = evR (M.1 (50, 0, 0)) u v := by
  obtain ⟨m, D, hm, hsz, hdp⟩ := hD.2.1.2 u hw.2
  rw [show 345 + 50 * u + 1 = 346 + 50 * u by omega] at hdp
  have q0 := il_0
  refine xE_SP_X12_given h (fun z1_ h2_ z3_ h4_ z5_ h6_ v4_16 hv0_16 hv1_16 v3_16 hv2_16 hv3_16 M_16 hv4_16 hL_16 _ hF_16 z8_ h9_ j12_ h13_ z10_ e11_ h14_ z15_ h16_ h17_ z18_ e19_ hr_ hM_ => ?_)
  have ea : z5_.toInt.toNat = 346 + 50 * u := by omega
  have g50 : M_16.1 (50, 0, 0) = M.1 (50, 0, 0) := funext fun j => hF_16 _ _ (by simp [S_c_X12_given])
  have key : ∀ z : Int32 × Int32 × mM, RCH (fun x_ y_ => ST_X12_given_16 M z5_ x_.1 x_.2.1 x_.2.2 y_.1 y_.2.1 y_.2.2) (z5_, (0 : Int32), M) z → z5_.toInt ≤ z.1.toInt ∧ z.1.toInt ≤ z5_.toInt + m ∧ (∀ (c : rf) (k : Nat), c.1 ≠ 59 → z.2.2.1 c k = M.1 c k) ∧ z.2.1.toInt = ((evS (M.1 (50, 0, 0)) (346 + 50 * u) v (z.1.toInt - z5_.toInt).toNat).1 : Int) ∧ AGs (evS (M.1 (50, 0, 0)) (346 + 50 * u) v (z.1.toInt - z5_.toInt).toNat) (z.2.1.toInt.toNat, z.2.2.1 (59, 0, 0)) := by
    intro z hz
    refine rind hz (fun z => z5_.toInt ≤ z.1.toInt ∧ z.1.toInt ≤ z5_.toInt + m ∧ (∀ (c : rf) (k : Nat), c.1 ≠ 59 → z.2.2.1 c k = M.1 c k) ∧ z.2.1.toInt = ((evS (M.1 (50, 0, 0)) (346 + 50 * u) v (z.1.toInt - z5_.toInt).toNat).1 : Int) ∧ AGs (evS (M.1 (50, 0, 0)) (346 + 50 * u) v (z.1.toInt - z5_.toInt).toNat) (z.2.1.toInt.toNat, z.2.2.1 (59, 0, 0))) ?_ ?_
    · refine ⟨by dsimp only; omega, by dsimp only; omega, fun _ _ _ => rfl, ?_, ?_⟩
      · (try dsimp only)
        rw [Int.sub_self, il_0]; rfl
      · (try dsimp only)
        rw [Int.sub_self, il_0]
        exact ⟨rfl, fun i hi => absurd hi (Nat.not_lt_zero i)⟩
    · intro x z hp hst
      obtain ⟨x1, x2, x3⟩ := x
      obtain ⟨z1, z2, z3⟩ := z
      (try dsimp only at hp hst ⊢)
      obtain ⟨p1, p2, p3, p4, p5⟩ := hp
      have row : x3.1 (50, 0, 0) = M.1 (50, 0, 0) := funext fun j => p3 _ _ (by decide)
      refine xE_ST_X12_given_16 hst (fun w_hv0_16 w_hv1_16 w_hv2_16 w_hv3_16 w_hv4_16 _ w_hF_16 w_z8_ w_h9_ w_j12_ w_h13_ w_z10_ w_e11_ w_h14_ w_z15_ w_h16_ w_h17_ w_j22_ w_h23_ w_z20_ w_e21_ w_h24_ => ?_)
      have hn : (x1.toInt - z5_.toInt).toNat < m := by
        have y := eT w_e11_
        rw [row, show w_j12_ = 345 + 50 * u by omega, hsz] at y
        omega
      have ok := dpt_ok (v := v) hdp hn
      obtain rfl : w_j22_ = 346 + 50 * u + (x1.toInt - z5_.toInt).toNat := by omega
      have y := eT w_e21_
      rw [row] at y
      have cg := hx (x1.toInt - z5_.toInt).toNat (by omega)
      refine ⟨(fun w_h25_ w_h25_x w_h26_ w_h27_ => ⟨(fun w_h28_ w_z29_ w_h30_ w_j33_ w_h34_ w_z31_ w_e32_ w_j37_ w_h38_ w_M35_ w_hM36_ w_z42_ w_h43_ w_z44_ w_h45_ w_hq_v4_16y w_hq_v3_16y w_hM_ => ?_), (fun w_h28_ w_j48_ w_h49_ w_M46_ w_hM47_ w_z53_ w_h54_ w_z55_ w_h56_ w_hq_v4_16y w_hq_v3_16y w_hM_ => ?_)⟩), (fun w_h25_ w_h26_ w_h57_ w_h58_ w_z59_ w_h60_ w_z61_ w_h62_ w_j65_ w_h66_ w_z63_ w_e64_ w_z67_ w_h68_ w_j71_ w_h72_ w_M69_ w_hM70_ w_z76_ w_h77_ w_hq_v4_16y w_hq_v3_16y w_hM_ => ?_), (fun w_h25_ w_h26_ w_h78_ w_h79_ w_h80_ w_z81_ w_h82_ w_z83_ w_h84_ w_z85_ w_h86_ w_j89_ w_h90_ w_z87_ w_e88_ => ⟨(fun w_h91_ w_z92_ w_h93_ w_j96_ w_h97_ w_z94_ w_e95_ w_j100_ w_h101_ w_M98_ w_hM99_ w_z105_ w_h106_ w_hq_v4_16y w_hq_v3_16y w_hM_ => ?_), (fun w_h91_ w_j109_ w_h110_ w_z107_ w_e108_ w_j113_ w_h114_ w_M111_ w_hM112_ w_z118_ w_h119_ w_hq_v4_16y w_hq_v3_16y w_hM_ => ?_)⟩), (fun w_h25_ w_h26_ w_h120_ w_h121_ w_h122_ w_z123_ w_h124_ w_z125_ w_h126_ w_z127_ w_h128_ w_j131_ w_h132_ w_z129_ w_e130_ w_j135_ w_h136_ w_z133_ w_e134_ w_r137_ w_hs141_ w_j144_ w_h145_ w_M142_ w_hM143_ w_z149_ w_h150_ w_hq_v4_16y w_hq_v3_16y w_hM_ => ?_)⟩
      · have en : (z1.toInt - z5_.toInt).toNat = (x1.toInt - z5_.toInt).toNat + 1 := by rw [w_hq_v4_16y]; omega
        rw [en]
        show _ ∧ _ ∧ _ ∧ z2.toInt = ((svS v (M.1 (50, 0, 0) (346 + 50 * u + (x1.toInt - z5_.toInt).toNat)) (evS (M.1 (50, 0, 0)) (346 + 50 * u) v (x1.toInt - z5_.toInt).toNat)).1 : Int) ∧ AGs (svS v (M.1 (50, 0, 0) (346 + 50 * u + (x1.toInt - z5_.toInt).toNat)) (evS (M.1 (50, 0, 0)) (346 + 50 * u) v (x1.toInt - z5_.toInt).toNat)) (z2.toInt.toNat, z3.1 (59, 0, 0))
        refine ⟨by rw [w_hq_v4_16y]; omega, by rw [w_hq_v4_16y]; omega, fun c k hc => by rw [w_hM_, w_hM36_, up_other _ _ (fun q => hc (by rw [q]))]; exact p3 c k hc, ?_, ?_⟩
        · rw [sv_push (by omega), w_hq_v3_16y]
          (try dsimp only)
          omega
        · obtain rfl : w_j37_ = x2.toInt.toNat := by omega
          have sa := sv_ag (v := v) (v' := fun i => M.1 (58, 0, 0) i) (nn := nn) (c := M.1 (50, 0, 0) (346 + 50 * u + (x1.toInt - z5_.toInt).toNat)) p5 (fun i hi => (hv i hi).symm) cg (by omega)
          rw [sv_push (v := fun i => M.1 (58, 0, 0) i) (by omega)] at sa
          refine sa.trans_ ?_
          rw [w_hM_, w_hM36_, up_row, show z2.toInt.toNat = x2.toInt.toNat + 1 by have e_ := eT w_hq_v3_16y; omega]
          (try dsimp only)
          rw [if_neg (by omega), w_e32_, p3 _ _ (by decide), show w_j33_ = ((M.1 (50, 0, 0) (346 + 50 * u + (x1.toInt - z5_.toInt).toNat)).toInt - 1000).toNat by omega]
      · have en : (z1.toInt - z5_.toInt).toNat = (x1.toInt - z5_.toInt).toNat + 1 := by rw [w_hq_v4_16y]; omega
        rw [en]
        show _ ∧ _ ∧ _ ∧ z2.toInt = ((svS v (M.1 (50, 0, 0) (346 + 50 * u + (x1.toInt - z5_.toInt).toNat)) (evS (M.1 (50, 0, 0)) (346 + 50 * u) v (x1.toInt - z5_.toInt).toNat)).1 : Int) ∧ AGs (svS v (M.1 (50, 0, 0) (346 + 50 * u + (x1.toInt - z5_.toInt).toNat)) (evS (M.1 (50, 0, 0)) (346 + 50 * u) v (x1.toInt - z5_.toInt).toNat)) (z2.toInt.toNat, z3.1 (59, 0, 0))
        refine ⟨by rw [w_hq_v4_16y]; omega, by rw [w_hq_v4_16y]; omega, fun c k hc => by rw [w_hM_, w_hM47_, up_other _ _ (fun q => hc (by rw [q]))]; exact p3 c k hc, ?_, ?_⟩
        · rw [sv_push (by omega), w_hq_v3_16y]
          (try dsimp only)
          omega
        · obtain rfl : w_j48_ = x2.toInt.toNat := by omega
          have sa := sv_ag (v := v) (v' := fun i => M.1 (58, 0, 0) i) (nn := nn) (c := M.1 (50, 0, 0) (346 + 50 * u + (x1.toInt - z5_.toInt).toNat)) p5 (fun i hi => (hv i hi).symm) cg (by omega)
          rw [sv_push (v := fun i => M.1 (58, 0, 0) i) (by omega)] at sa
          refine sa.trans_ ?_
          rw [w_hM_, w_hM47_, up_row, show z2.toInt.toNat = x2.toInt.toNat + 1 by have e_ := eT w_hq_v3_16y; omega]
          (try dsimp only)
          rw [if_pos (by omega), w_e21_, row]
      · have en : (z1.toInt - z5_.toInt).toNat = (x1.toInt - z5_.toInt).toNat + 1 := by rw [w_hq_v4_16y]; omega
        rw [en]
        show _ ∧ _ ∧ _ ∧ z2.toInt = ((svS v (M.1 (50, 0, 0) (346 + 50 * u + (x1.toInt - z5_.toInt).toNat)) (evS (M.1 (50, 0, 0)) (346 + 50 * u) v (x1.toInt - z5_.toInt).toNat)).1 : Int) ∧ AGs (svS v (M.1 (50, 0, 0) (346 + 50 * u + (x1.toInt - z5_.toInt).toNat)) (evS (M.1 (50, 0, 0)) (346 + 50 * u) v (x1.toInt - z5_.toInt).toNat)) (z2.toInt.toNat, z3.1 (59, 0, 0))
        refine ⟨by rw [w_hq_v4_16y]; omega, by rw [w_hq_v4_16y]; omega, fun c k hc => by rw [w_hM_, w_hM70_, up_other _ _ (fun q => hc (by rw [q]))]; exact p3 c k hc, ?_, ?_⟩
        · rw [sv_neg (by omega), w_hq_v3_16y]
          (try dsimp only)
          omega
        · obtain rfl : w_j71_ = x2.toInt.toNat - 1 := by omega
          have sa := sv_ag (v := v) (v' := fun i => M.1 (58, 0, 0) i) (nn := nn) (c := M.1 (50, 0, 0) (346 + 50 * u + (x1.toInt - z5_.toInt).toNat)) p5 (fun i hi => (hv i hi).symm) cg (by omega)
          rw [sv_neg (v := fun i => M.1 (58, 0, 0) i) (by omega)] at sa
          refine sa.trans_ ?_
          rw [w_hM_, w_hM70_, up_row, show z2.toInt.toNat = x2.toInt.toNat by have e_ := eT w_hq_v3_16y; omega]
          (try dsimp only)
          rw [w_h68_, w_e64_, show w_j65_ = x2.toInt.toNat - 1 by omega]
      · have en : (z1.toInt - z5_.toInt).toNat = (x1.toInt - z5_.toInt).toNat + 1 := by rw [w_hq_v4_16y]; omega
        rw [en]
        show _ ∧ _ ∧ _ ∧ z2.toInt = ((svS v (M.1 (50, 0, 0) (346 + 50 * u + (x1.toInt - z5_.toInt).toNat)) (evS (M.1 (50, 0, 0)) (346 + 50 * u) v (x1.toInt - z5_.toInt).toNat)).1 : Int) ∧ AGs (svS v (M.1 (50, 0, 0) (346 + 50 * u + (x1.toInt - z5_.toInt).toNat)) (evS (M.1 (50, 0, 0)) (346 + 50 * u) v (x1.toInt - z5_.toInt).toNat)) (z2.toInt.toNat, z3.1 (59, 0, 0))
        refine ⟨by rw [w_hq_v4_16y]; omega, by rw [w_hq_v4_16y]; omega, fun c k hc => by rw [w_hM_, w_hM99_, up_other _ _ (fun q => hc (by rw [q]))]; exact p3 c k hc, ?_, ?_⟩
        · rw [sv_cho (by omega), w_hq_v3_16y]
          (try dsimp only)
          omega
        · obtain rfl : w_j100_ = x2.toInt.toNat - 3 := by omega
          have sa := sv_ag (v := v) (v' := fun i => M.1 (58, 0, 0) i) (nn := nn) (c := M.1 (50, 0, 0) (346 + 50 * u + (x1.toInt - z5_.toInt).toNat)) p5 (fun i hi => (hv i hi).symm) cg (by omega)
          rw [sv_cho (v := fun i => M.1 (58, 0, 0) i) (by omega)] at sa
          refine sa.trans_ ?_
          rw [w_hM_, w_hM99_, up_row, show z2.toInt.toNat = x2.toInt.toNat - 2 by have e_ := eT w_hq_v3_16y; omega]
          (try dsimp only)
          rw [show w_j89_ = x2.toInt.toNat - 3 by omega] at w_e88_
          rw [if_pos (by rw [← w_e88_]; exact w_h91_), w_e95_, show w_j96_ = x2.toInt.toNat - 1 by omega]
      · have en : (z1.toInt - z5_.toInt).toNat = (x1.toInt - z5_.toInt).toNat + 1 := by rw [w_hq_v4_16y]; omega
        rw [en]
        show _ ∧ _ ∧ _ ∧ z2.toInt = ((svS v (M.1 (50, 0, 0) (346 + 50 * u + (x1.toInt - z5_.toInt).toNat)) (evS (M.1 (50, 0, 0)) (346 + 50 * u) v (x1.toInt - z5_.toInt).toNat)).1 : Int) ∧ AGs (svS v (M.1 (50, 0, 0) (346 + 50 * u + (x1.toInt - z5_.toInt).toNat)) (evS (M.1 (50, 0, 0)) (346 + 50 * u) v (x1.toInt - z5_.toInt).toNat)) (z2.toInt.toNat, z3.1 (59, 0, 0))
        refine ⟨by rw [w_hq_v4_16y]; omega, by rw [w_hq_v4_16y]; omega, fun c k hc => by rw [w_hM_, w_hM112_, up_other _ _ (fun q => hc (by rw [q]))]; exact p3 c k hc, ?_, ?_⟩
        · rw [sv_cho (by omega), w_hq_v3_16y]
          (try dsimp only)
          omega
        · obtain rfl : w_j113_ = x2.toInt.toNat - 3 := by omega
          have sa := sv_ag (v := v) (v' := fun i => M.1 (58, 0, 0) i) (nn := nn) (c := M.1 (50, 0, 0) (346 + 50 * u + (x1.toInt - z5_.toInt).toNat)) p5 (fun i hi => (hv i hi).symm) cg (by omega)
          rw [sv_cho (v := fun i => M.1 (58, 0, 0) i) (by omega)] at sa
          refine sa.trans_ ?_
          rw [w_hM_, w_hM112_, up_row, show z2.toInt.toNat = x2.toInt.toNat - 2 by have e_ := eT w_hq_v3_16y; omega]
          (try dsimp only)
          rw [show w_j89_ = x2.toInt.toNat - 3 by omega] at w_e88_
          rw [if_neg (by rw [← w_e88_]; exact w_h91_), w_e108_, show w_j109_ = x2.toInt.toNat - 2 by omega]
      · have en : (z1.toInt - z5_.toInt).toNat = (x1.toInt - z5_.toInt).toNat + 1 := by rw [w_hq_v4_16y]; omega
        rw [en]
        show _ ∧ _ ∧ _ ∧ z2.toInt = ((svS v (M.1 (50, 0, 0) (346 + 50 * u + (x1.toInt - z5_.toInt).toNat)) (evS (M.1 (50, 0, 0)) (346 + 50 * u) v (x1.toInt - z5_.toInt).toNat)).1 : Int) ∧ AGs (svS v (M.1 (50, 0, 0) (346 + 50 * u + (x1.toInt - z5_.toInt).toNat)) (evS (M.1 (50, 0, 0)) (346 + 50 * u) v (x1.toInt - z5_.toInt).toNat)) (z2.toInt.toNat, z3.1 (59, 0, 0))
        refine ⟨by rw [w_hq_v4_16y]; omega, by rw [w_hq_v4_16y]; omega, fun c k hc => by rw [w_hM_, w_hM143_, up_other _ _ (fun q => hc (by rw [q]))]; exact p3 c k hc, ?_, ?_⟩
        · rw [sv_bin (by omega), w_hq_v3_16y]
          (try dsimp only)
          omega
        · obtain rfl : w_j144_ = x2.toInt.toNat - 2 := by omega
          have sa := sv_ag (v := v) (v' := fun i => M.1 (58, 0, 0) i) (nn := nn) (c := M.1 (50, 0, 0) (346 + 50 * u + (x1.toInt - z5_.toInt).toNat)) p5 (fun i hi => (hv i hi).symm) cg (by omega)
          rw [sv_bin (v := fun i => M.1 (58, 0, 0) i) (by omega)] at sa
          refine sa.trans_ ?_
          rw [w_hM_, w_hM143_, up_row, show z2.toInt.toNat = x2.toInt.toNat - 1 by have e_ := eT w_hq_v3_16y; omega]
          (try dsimp only)
          rw [x12done w_hs141_, w_e130_, w_e134_, show w_j131_ = x2.toInt.toNat - 2 by omega, show w_j135_ = x2.toInt.toNat - 1 by omega, w_e21_, row]
  have k := key _ hL_16
  (try dsimp only at k)
  obtain ⟨k1, k2, k3, k4, k5⟩ := k
  have y := eT e11_
  rw [g50, show j12_ = 345 + 50 * u by omega, hsz] at y
  rw [show (v4_16.toInt - z5_.toInt).toNat = m by omega] at k5
  have po := dpt_pos (v := v) hdp (m - 1) (by omega)
  rw [show m - 1 + 1 = m by omega] at po
  unfold evR
  rw [hsz, Int.toNat_natCast, k5.2 0 (by omega), hr_, e19_]
end
section
/-! class and model row: who is alike -/
def nnU (u : Nat) : Nat := if u = 0 then 4 else if u = 1 then 3 else 5
def LWR (b : Nat) (q : rf → Nat → Int32) (n : Nat → Int32) : Prop := q (10, b, 0) 7 = n 0 ∧ (∀ k, k < 3 → q (2, b, 0) k = n (6 + k)) ∧ (∀ k, k < 5 → q (26, b, 0) k = n (9 + k) ∧ q (27, b, 0) k = n (14 + k))
def THR (b : Nat) (q : rf → Nat → Int32) (n : Nat → Int32) : Prop := q (7, b, 0) 5 = n 1 ∧ ∀ t : Nat, (t : Int) < nTh n → q (36, b, 0) t = n (20 + 4 * t) ∧ q (37, b, 0) t = n (21 + 4 * t) ∧ q (38, b, 0) t = n (22 + 4 * t) ∧ q (39, b, 0) t = n (23 + 4 * t)
def WAR (b : Nat) (q : rf → Nat → Int32) (n : Nat → Int32) : Prop := q (10, b, 0) 6 = n 2 ∧ ∀ w : Nat, (w : Int) < nWa n → (∀ k, k < 9 → q (9, b, w) k = n (180 + 9 * w + k)) ∧ (∀ c, c < 192 → q (40, b, w) c = n (495 + 384 * w + c) ∧ q (41, b, w) c = n (687 + 384 * w + c))
def TXR (b : Nat) (q : rf → Nat → Int32) (n : Nat → Int32) : Prop := ∀ u, u < 3 → q (1, b, u) 2 = n (345 + 50 * u) ∧ ∀ i : Nat, (i : Int) < (n (345 + 50 * u)).toInt → (q (24, b, u) i).toInt = cmI (n (346 + 50 * u + i)).toInt ∧ cOK (nnU u) (n (346 + 50 * u + i))
/-- of the model's row alone -/
def MIR (n : Nat → Int32) : Prop := (∀ w : Nat, (w : Int) < nWa n → (1 ≤ (n (183 + 9 * w)).toInt ∧ (n (183 + 9 * w)).toInt ≤ 9) ∧ (1 ≤ (n (184 + 9 * w)).toInt ∧ (n (184 + 9 * w)).toInt ≤ 99)) ∧
  (∀ t : Nat, (t : Int) < nTh n → 0 ≤ (n (23 + 4 * t)).toInt ∧ ((n (20 + 4 * t)).toInt < 3 → (n (23 + 4 * t)).toInt = 0)) ∧
  (∀ w : Nat, nWa n ≤ (w : Int) → w < 8 → (∀ k, k < 9 → n (180 + 9 * w + k) = 0) ∧ (∀ c, c < 384 → n (495 + 384 * w + c) = 0))
/-! strength, heard -/
theorem ofIe {x : Int32} {z : Int} (h : x.toInt = z) : x = Int32.ofInt z := by rw [← h, Int32.ofInt_toInt]
def clS (t s : Int32) : Int := if s.toInt = 1 then (if t.toInt < 0 then 0 else if 999 < t.toInt then 999 else t.toInt) / 2 else (if t.toInt < 0 then 0 else if 999 < t.toInt then 999 else t.toInt)
def raV (n : Nat → Int32) (k : Nat) (p l y : Int32) : Nat → Int32 := fun i => if i = 0 then l else if i = 1 then n (9 + k) else if i = 2 then y else p
def raS (n : Nat → Int32) (k : Nat) (p l y : Int32) : Int32 := if (n 345).toInt ≤ 0 then l * n (9 + k) / (50 : Int32) - (2 : Int32) * y else evR n 0 (raV n k p l y)
def strI (n : Nat → Int32) (k : Nat) (p l y : Int32) : Int := if p.toInt < (n (14 + k)).toInt then 0 else clS (raS n k p l y) (n 8)
theorem cl1 {t z z2 s : Int32} (h1 : (z.toInt = 999 ∧ 999 ≤ t.toInt) ∨ (z.toInt = t.toInt ∧ t.toInt ≤ 999)) (h2 : (z2.toInt = 0 ∧ z.toInt ≤ 0) ∨ (z2.toInt = z.toInt ∧ 0 ≤ z.toInt)) (h3 : ¬ s.toInt = 1) : z2.toInt = clS t s := by
  unfold clS
  rw [if_neg h3]
  repeat' split
  all_goals omega
theorem cl2 {t z z2 z3 s : Int32} (h1 : (z.toInt = 999 ∧ 999 ≤ t.toInt) ∨ (z.toInt = t.toInt ∧ t.toInt ≤ 999)) (h2 : (z2.toInt = 0 ∧ z.toInt ≤ 0) ∨ (z2.toInt = z.toInt ∧ 0 ≤ z.toInt)) (h3 : s.toInt = 1) (h4 : z3.toInt = z2.toInt / 2) : z3.toInt = clS t s := by
  unfold clS
  rw [if_pos h3, h4]
  repeat' split
  all_goals omega
theorem x1given {b w : Nat} {M : mM} {r : Int32} (h : SP_X1_isGiven b w M r) : (r.toInt = 0 ∧ (M.1 (1, b, w) 2).toInt ≤ 0) ∨ (r.toInt = 1 ∧ 0 < (M.1 (1, b, w) 2).toInt) := by
  have q0 := il_0
  have q1 := il_1
  refine xE_SP_X1_isGiven h (fun z1_ e2_ => ⟨(fun h3_ hr_ => ?_), (fun h3_ hr_ => ?_)⟩)
  all_goals (have y1 := eT e2_; have y2 := eT hr_; omega)
theorem x12has {u : Nat} {v : Int32} {M : mM} {r : Int32} (h : SP_X12_hasText v M r) (hv : v.toInt = u) : (r.toInt = 0 ∧ (M.1 (50, 0, 0) (345 + 50 * u)).toInt ≤ 0) ∨ (r.toInt = 1 ∧ 0 < (M.1 (50, 0, 0) (345 + 50 * u)).toInt) := by
  have q0 := il_0
  have q1 := il_1
  refine xE_SP_X12_hasText h (fun z1_ h2_ z3_ h4_ j7_ h8_ z5_ e6_ => ⟨(fun h9_ hr_ => ?_), (fun h9_ hr_ => ?_)⟩)
  all_goals
    obtain rfl : j7_ = 345 + 50 * u := by omega
    have y1 := eT e6_
    have y2 := eT hr_
    omega
theorem sval {M M1 M2 M3 M4 : mM} {c : rf} {a0 a1 a2 a3 : Int32} (h1 : M1 = up M c 0 a0) (h2 : M2 = up M1 c 1 a1) (h3 : M3 = up M2 c 2 a2) (h4 : M4 = up M3 c 3 a3) : ∀ i, i < 4 → M4.1 c i = if i = 0 then a0 else if i = 1 then a1 else if i = 2 then a2 else a3 := fun i hi => by
  obtain rfl | rfl | rfl | rfl : i = 0 ∨ i = 1 ∨ i = 2 ∨ i = 3 := by omega
  · rw [zupN h4 (by simp), zupN h3 (by simp), zupN h2 (by simp), zupE h1 rfl rfl]; rfl
  · rw [zupN h4 (by simp), zupN h3 (by simp), zupE h2 rfl rfl]; rfl
  · rw [zupN h4 (by simp), zupE h3 rfl rfl]; rfl
  · rw [zupE h4 rfl rfl]; rfl
theorem x2strength {b : Nat} {v u t : Int32} {M M' : mM} {r : Int32} {n : Nat → Int32} (h : SP_X2_strength b v u t M r M') (hL : LWR b M.1 n) (hT : TXR b M.1 n) (hW : WT n) (hv : 0 ≤ v.toInt ∧ v.toInt ≤ 4) : r.toInt = strI n v.toInt.toNat (u / 100) (u - u / (100 : Int32) * (100 : Int32)) t := by
  have q0 := il_0
  obtain ⟨-, l2, l3⟩ := hL
  have T := hT 0 (by omega)
  simp only [Nat.mul_zero, Nat.add_zero] at T
  have s8 := l2 2 (by omega)
  unfold strI
  refine xE_SP_X2_strength h (fun z1_ h2_ z3_ h4_ => ⟨(fun h5_ hr_ hM_ => ?_), (fun h5_ => ⟨(fun h6_ hr_ hM_ => ?_), (fun h6_ j9_ h10_ z7_ e8_ => ⟨(fun h11_ j14_ h15_ z12_ e13_ z16_ h17_ z18_ h19_ z20_ h21_ z22_ h23_ r24_ hs28_ h27_ => ⟨(fun h29_ z30_ h31_ z32_ h33_ z34_ e35_ => ⟨(fun h36_ hr_ hM_ => ?_), (fun h36_ z37_ h38_ hr_ hM_ => ?_)⟩), (fun h29_ M39_ hM40_ j45_ h46_ z43_ e44_ M47_ hM48_ M51_ hM52_ M55_ hM56_ _ M60_ _ hF64_ r59_ hs66_ z67_ h68_ z69_ h70_ z71_ e72_ => ⟨(fun h73_ hr_ hM_ => ?_), (fun h73_ z74_ h75_ hr_ hM_ => ?_)⟩)⟩), (fun h11_ hr_ hM_ => ?_)⟩)⟩)⟩)
  · omega
  · omega
  · obtain rfl : j9_ = v.toInt.toNat := by omega
    obtain rfl : j14_ = v.toInt.toNat := by omega
    have y0 := eT e8_
    rw [(l3 _ (by omega)).2] at y0
    have g := x1given hs28_
    rw [T.1] at g
    rw [h2_] at h11_
    rw [if_neg (by omega), hr_]
    have er : z22_ = raS n v.toInt.toNat (u / 100) (u - u / (100 : Int32) * (100 : Int32)) t := by
      unfold raS
      rw [if_pos (show (n 345).toInt ≤ 0 by omega), h23_, h21_, h19_, h17_, e13_, (l3 _ (by omega)).1, h4_]
    rw [← er]
    exact cl1 h31_ h33_ (by rw [← s8, ← e35_]; exact h36_)
  · obtain rfl : j9_ = v.toInt.toNat := by omega
    obtain rfl : j14_ = v.toInt.toNat := by omega
    have y0 := eT e8_
    rw [(l3 _ (by omega)).2] at y0
    have g := x1given hs28_
    rw [T.1] at g
    rw [h2_] at h11_
    rw [if_neg (by omega), hr_]
    have er : z22_ = raS n v.toInt.toNat (u / 100) (u - u / (100 : Int32) * (100 : Int32)) t := by
      unfold raS
      rw [if_pos (show (n 345).toInt ≤ 0 by omega), h23_, h21_, h19_, h17_, e13_, (l3 _ (by omega)).1, h4_]
    rw [← er]
    exact cl2 h31_ h33_ (by rw [← s8, ← e35_]; exact h36_) h38_
  · obtain rfl : j9_ = v.toInt.toNat := by omega
    obtain rfl : j14_ = v.toInt.toNat := by omega
    obtain rfl : j45_ = v.toInt.toNat := by omega
    have y0 := eT e8_
    rw [(l3 _ (by omega)).2] at y0
    have g := x1given hs28_
    rw [T.1] at g
    rw [h2_] at h11_
    have er : r59_ = raS n v.toInt.toNat (u / 100) (u - u / (100 : Int32) * (100 : Int32)) t := by
      unfold raS
      rw [if_neg (show ¬ (n 345).toInt ≤ 0 by omega)]
      have k : ∀ (c : rf) (j : Nat), c.1 ≠ 29 → M55_.1 c j = M.1 c j := fun c j hc => by
        rw [zupR hM56_ hc, zupR hM52_ hc, zupR hM48_ hc, zupR hM40_ hc]
      refine x1work (nn := 4) hs66_ (by omega) hW (by rw [k _ _ (by first | decide | simp | (dsimp only; omega))]; exact T.1) (fun i hi => by rw [k _ _ (by first | decide | simp | (dsimp only; omega))]; exact T.2 i hi) (fun i hi => ?_) (show 0 < (n 345).toInt by omega)
      rw [sval hM40_ hM48_ hM52_ hM56_ i hi, e44_, zupR hM40_ (by first | decide | simp | (dsimp only; omega)), (l3 _ (by omega)).1, h4_, h2_]; rfl
    rw [if_neg (by omega), hr_, ← er]
    have s9 : M60_.1 (2, b, 0) 2 = n 8 := by rw [S1_c hF64_ (by first | decide | simp | (dsimp only; omega)), zupR hM56_ (by first | decide | simp | (dsimp only; omega)), zupR hM52_ (by first | decide | simp | (dsimp only; omega)), zupR hM48_ (by first | decide | simp | (dsimp only; omega)), zupR hM40_ (by first | decide | simp | (dsimp only; omega))]; exact s8
    exact cl1 h68_ h70_ (by rw [← s9, ← e72_]; exact h73_)
  · obtain rfl : j9_ = v.toInt.toNat := by omega
    obtain rfl : j14_ = v.toInt.toNat := by omega
    obtain rfl : j45_ = v.toInt.toNat := by omega
    have y0 := eT e8_
    rw [(l3 _ (by omega)).2] at y0
    have g := x1given hs28_
    rw [T.1] at g
    rw [h2_] at h11_
    have er : r59_ = raS n v.toInt.toNat (u / 100) (u - u / (100 : Int32) * (100 : Int32)) t := by
      unfold raS
      rw [if_neg (show ¬ (n 345).toInt ≤ 0 by omega)]
      have k : ∀ (c : rf) (j : Nat), c.1 ≠ 29 → M55_.1 c j = M.1 c j := fun c j hc => by
        rw [zupR hM56_ hc, zupR hM52_ hc, zupR hM48_ hc, zupR hM40_ hc]
      refine x1work (nn := 4) hs66_ (by omega) hW (by rw [k _ _ (by first | decide | simp | (dsimp only; omega))]; exact T.1) (fun i hi => by rw [k _ _ (by first | decide | simp | (dsimp only; omega))]; exact T.2 i hi) (fun i hi => ?_) (show 0 < (n 345).toInt by omega)
      rw [sval hM40_ hM48_ hM52_ hM56_ i hi, e44_, zupR hM40_ (by first | decide | simp | (dsimp only; omega)), (l3 _ (by omega)).1, h4_, h2_]; rfl
    rw [if_neg (by omega), hr_, ← er]
    have s9 : M60_.1 (2, b, 0) 2 = n 8 := by rw [S1_c hF64_ (by first | decide | simp | (dsimp only; omega)), zupR hM56_ (by first | decide | simp | (dsimp only; omega)), zupR hM52_ (by first | decide | simp | (dsimp only; omega)), zupR hM48_ (by first | decide | simp | (dsimp only; omega)), zupR hM40_ (by first | decide | simp | (dsimp only; omega))]; exact s8
    exact cl2 h68_ h70_ (by rw [← s9, ← e72_]; exact h73_) h75_
  · obtain rfl : j9_ = v.toInt.toNat := by omega
    have y0 := eT e8_
    rw [(l3 _ (by omega)).2] at y0
    rw [h2_] at h11_
    rw [if_pos (by omega), hr_]; exact il_0
theorem x12strength {v u t s : Int32} {M M' : mM} {r : Int32} (h : SP_X12_strength v u t s M r M') (hD : InvD M) (hx : ∀ i : Nat, (i : Int) < (M.1 (50, 0, 0) 345).toInt → cOK 4 (M.1 (50, 0, 0) (346 + i))) (hv : 0 ≤ v.toInt ∧ v.toInt ≤ 4) : r.toInt = strI (M.1 (50, 0, 0)) v.toInt.toNat u t s := by
  have q0 := il_0
  unfold strI
  unfold SP_X12_strength at h
  obtain ⟨z1_, h2_, j5_, h6_, z3_, e4_, M7_, hM8_, M11_, hM12_, M15_, hM16_, M19_, hM20_, hI21_, r23_, hs27_, h26_, h⟩ := h
  obtain rfl : j5_ = 9 + v.toInt.toNat := by omega
  have k : ∀ (c : rf) (j : Nat), c.1 ≠ 58 → M19_.1 c j = M.1 c j := fun c j hc => by
    rw [zupR hM20_ hc, zupR hM16_ hc, zupR hM12_ hc, zupR hM8_ hc]
  have k50 : M19_.1 (50, 0, 0) = M.1 (50, 0, 0) := funext fun j => k _ _ (by first | decide | simp | (dsimp only; omega))
  have g := x12has (u := 0) hs27_ (by first | decide | simp | (dsimp only; omega))
  rw [k50] at g
  simp only [Nat.mul_zero, Nat.add_zero] at g
  rcases h with ⟨h28_, z29_, h30_, z31_, h32_, z33_, h34_, z35_, h36_, z37_, h38_, z39_, h40_, z41_, e42_, h⟩ | ⟨h28_, M61_, -, hF65_, r60_, hs67_, z68_, h69_, z70_, h71_, z72_, e73_, h⟩
  · have er : z35_ = raS (M.1 (50, 0, 0)) v.toInt.toNat u t s := by
      unfold raS
      rw [if_pos (by omega), h36_, h34_, h32_, h30_, e4_]
    have s9 : z41_ = M.1 (50, 0, 0) 8 := by rw [e42_, k50]
    rcases h with ⟨h43_, z44_, h45_, j48_, h49_, z46_, e47_, h⟩ | ⟨h43_, z51_, h52_, z53_, h54_, j57_, h58_, z55_, e56_, h⟩
    · obtain rfl : j48_ = 14 + v.toInt.toNat := by omega
      rw [k50] at e47_
      have y := eT e47_
      rcases h with ⟨h50_, hr_, hM_⟩ | ⟨h50_, hr_, hM_⟩
      · rw [if_neg (by omega), hr_, ← er]
        exact cl1 h38_ h40_ (by rw [← s9]; exact h43_)
      · rw [if_pos (by omega), hr_]; exact il_0
    · obtain rfl : j57_ = 14 + v.toInt.toNat := by omega
      rw [k50] at e56_
      have y := eT e56_
      rcases h with ⟨h50_, hr_, hM_⟩ | ⟨h50_, hr_, hM_⟩
      · rw [if_neg (by omega), hr_, ← er]
        exact cl2 h38_ h40_ (by rw [← s9]; exact h43_) h52_
      · rw [if_pos (by omega), hr_]; exact il_0
  · have er : r60_ = raS (M.1 (50, 0, 0)) v.toInt.toNat u t s := by
      unfold raS
      rw [if_neg (by omega), ← k50]
      refine x12given (nn := 4) hs67_ hI21_ ⟨by decide, by omega⟩ (fun i hi => ?_) (fun i hi => ?_) (by rw [k50]; simp only [Nat.mul_zero, Nat.add_zero]; omega)
      · rw [k50] at hi ⊢
        simp only [Nat.mul_zero, Nat.add_zero] at hi ⊢
        exact hx i hi
      · rw [sval hM8_ hM12_ hM16_ hM20_ i hi, e4_]
        unfold raV
        rw [k50]
    have g50 : M61_.1 (50, 0, 0) = M.1 (50, 0, 0) := (funext fun j => hF65_ _ _ (by simp [S_c_X12_given])).trans k50
    rw [g50] at e73_
    rcases h with ⟨h43_, z44_, h45_, j48_, h49_, z46_, e47_, h⟩ | ⟨h43_, z51_, h52_, z53_, h54_, j57_, h58_, z55_, e56_, h⟩
    · obtain rfl : j48_ = 14 + v.toInt.toNat := by omega
      rw [g50] at e47_
      have y := eT e47_
      rcases h with ⟨h50_, hr_, hM_⟩ | ⟨h50_, hr_, hM_⟩
      · rw [if_neg (by omega), hr_, ← er]
        exact cl1 h69_ h71_ (by rw [← e73_]; exact h43_)
      · rw [if_pos (by omega), hr_]; exact il_0
    · obtain rfl : j57_ = 14 + v.toInt.toNat := by omega
      rw [g50] at e56_
      have y := eT e56_
      rcases h with ⟨h50_, hr_, hM_⟩ | ⟨h50_, hr_, hM_⟩
      · rw [if_neg (by omega), hr_, ← er]
        exact cl2 h69_ h71_ (by rw [← e73_]; exact h43_) h52_
      · rw [if_pos (by omega), hr_]; exact il_0
end
section
/-! late, heard -/
def lateN (s y : Int) : Int := if s % 2 = 1 then 8 * y else 6 * y
theorem emod_bits (a : Int32) (k : Nat) (hk : k ≤ 30) : ((a.toBitVec.toNat % 2 ^ k : Nat) : Int) = a.toInt % ((2 ^ k : Nat) : Int) := by
  have h : a.toInt = a.toBitVec.toInt := rfl
  have hd : (2 ^ k : Nat) ∣ 2 ^ 32 := Nat.pow_dvd_pow 2 (by omega)
  obtain ⟨d, hd⟩ := hd
  rw [h, BitVec.toInt_eq_toNat_cond]
  split
  · exact Int.natCast_emod _ _
  · rw [hd]
    rw [Int.natCast_emod, Int.natCast_mul, Int.sub_mul_emod_self_left]
theorem and_mod (a : Int32) {m : Int32} (k : Nat) (hm : m.toBitVec.toNat = 2 ^ k - 1) (hk : k ≤ 30) : (a &&& m).toInt = a.toInt % ((2 ^ k : Nat) : Int) := by
  have h3 : 2 ^ k ≤ 2 ^ 30 := Nat.pow_le_pow_right (by first | decide | simp | (dsimp only; omega)) hk
  have h4 := Nat.mod_lt a.toBitVec.toNat (Nat.two_pow_pos k)
  rw [pk_and a k hm, nI_toInt (by omega), emod_bits a k hk]
theorem and1 {v : Int32} (h : 0 ≤ v.toInt ∧ v.toInt ≤ 7) : (v &&& (1 : Int32)).toInt = v.toInt % 2 := and_mod v 1 (by first | decide | simp | (dsimp only; omega)) (by omega)
theorem and3 (v : Int32) : (v &&& (3 : Int32)).toInt = v.toInt % 4 := and_mod v 2 (by first | decide | simp | (dsimp only; omega)) (by omega)
theorem and7 (v : Int32) : (v &&& (7 : Int32)).toInt = v.toInt % 8 := and_mod v 3 (by first | decide | simp | (dsimp only; omega)) (by omega)
theorem x2late {v u : Int32} {M : mM} {r : Int32} (h : SP_X2_late v u M r) (hv : 0 ≤ v.toInt ∧ v.toInt ≤ 7) (hu : 0 ≤ u.toInt ∧ u.toInt ≤ 16) : r.toInt = lateN v.toInt u.toInt := by
  have i6 : (6 : Int32).toInt = 6 := by decide
  have i8 : (8 : Int32).toInt = 8 := by decide
  unfold lateN
  have a := and1 hv
  refine xE_SP_X2_late h (fun z1_ h3_ h2_ => ⟨(fun h4_ z5_ h6_ hr_ => ?_), (fun h4_ z7_ h8_ hr_ => ?_)⟩)
  · rw [← h3_] at a
    rw [hr_, h6_, mulI rfl i6 (by omega) (by omega), if_neg (by omega)]; omega
  · rw [← h3_] at a
    rw [hr_, h8_, mulI rfl i8 (by omega) (by omega), if_pos (by omega)]; omega
theorem x12late {v u : Int32} {M : mM} {r : Int32} (h : SP_X12_late v u M r) (hv : 0 ≤ v.toInt ∧ v.toInt ≤ 7) (hu : 0 ≤ u.toInt ∧ u.toInt ≤ 16) : r.toInt = lateN v.toInt u.toInt := by
  have i6 : (6 : Int32).toInt = 6 := by decide
  have i8 : (8 : Int32).toInt = 8 := by decide
  have i2 : (2 : Int32).toInt = 2 := by decide
  unfold lateN
  have a := remI (x := v) (y := (2 : Int32)) rfl i2 hv.1 (by omega)
  refine xE_SP_X12_late h (fun z1_ h2_ => ⟨(fun h3_ z4_ h5_ hr_ => ?_), (fun h3_ z6_ h7_ hr_ => ?_)⟩)
  · rw [← h2_] at a
    rw [hr_, h5_, mulI i6 rfl (by omega) (by omega), if_neg (by omega)]
  · rw [← h2_] at a
    rw [hr_, h7_, mulI i8 rfl (by omega) (by omega), if_pos (by omega)]
def heV (n : Nat → Int32) (la st : Int32) : Nat → Int32 := fun i => if i = 0 then st else if i = 1 then n 6 else la
def hdS (n : Nat → Int32) (ears p : Int) (la st : Int32) : Prop := p ≤ ears ∧ (n 7).toInt < la.toInt ∧ ¬ st.toInt = 0 ∧ (((n 395).toInt ≤ 0 ∧ (n 6).toInt < st.toInt) ∨ (0 < (n 395).toInt ∧ ¬ (evR n 1 (heV n la st)).toInt = 0))
theorem sval3 {M M1 M2 M3 : mM} {c : rf} {a0 a1 a2 : Int32} (h1 : M1 = up M c 0 a0) (h2 : M2 = up M1 c 1 a1) (h3 : M3 = up M2 c 2 a2) : ∀ i, i < 3 → M3.1 c i = if i = 0 then a0 else if i = 1 then a1 else a2 := fun i hi => by
  obtain rfl | rfl | rfl : i = 0 ∨ i = 1 ∨ i = 2 := by omega
  · rw [zupN h3 (by simp), zupN h2 (by simp), zupE h1 rfl rfl]; rfl
  · rw [zupN h3 (by simp), zupE h2 rfl rfl]; rfl
  · rw [zupE h3 rfl rfl]; rfl
theorem x2isHeard {b : Nat} {v u t s : Int32} {M M' : mM} {r : Int32} {n : Nat → Int32} (h : SP_X2_isHeard b v u t s M r M') (hL : LWR b M.1 n) (hT : TXR b M.1 n) (hW : WT n) : (r.toInt = 1 ∧ hdS n v.toInt (u / (100 : Int32)).toInt t s) ∨ (r.toInt = 0 ∧ ¬ hdS n v.toInt (u / (100 : Int32)).toInt t s) := by
  have q0 := il_0
  have q1 := il_1
  obtain ⟨-, l2, l3⟩ := hL
  have T := hT 1 (by omega)
  simp only [Nat.mul_one, Nat.reduceAdd] at T
  have s6 : M.1 (2, b, 0) 0 = n 6 := l2 0 (by omega)
  have s7 : M.1 (2, b, 0) 1 = n 7 := l2 1 (by omega)
  unfold hdS
  refine xE_SP_X2_isHeard h (fun z1_ h2_ => ⟨(fun h3_ hr_ hM_ => ?_), (fun h3_ z4_ e5_ => ⟨(fun h6_ hr_ hM_ => ?_), (fun h6_ => ⟨(fun h7_ r8_ hs12_ h11_ => ⟨(fun h13_ M14_ hM15_ z18_ e19_ M20_ hM21_ M24_ hM25_ _ M29_ _ hF33_ r28_ hs35_ => ⟨(fun h36_ hr_ hM_ => ?_), (fun h36_ hr_ hM_ => ?_)⟩), (fun h13_ z37_ e38_ => ⟨(fun h39_ hr_ hM_ => ?_), (fun h39_ hr_ hM_ => ?_)⟩)⟩), (fun h7_ hr_ hM_ => ?_)⟩)⟩)⟩)
  · have := eT hr_; rw [h2_] at h3_; omega
  · have := eT hr_; have y := eT e5_; rw [s7] at y; omega
  · have g := x1given hs12_
    rw [T.1] at g
    have y := eT e5_; rw [s7] at y
    rw [h2_] at h3_
    have k : ∀ (c : rf) (j : Nat), c.1 ≠ 29 → M24_.1 c j = M.1 c j := fun c j hc => by
      rw [zupR hM25_ hc, zupR hM21_ hc, zupR hM15_ hc]
    have er : r28_ = evR n 1 (heV n t s) := by
      refine x1work (nn := 3) hs35_ (by omega) hW (by rw [k _ _ (by first | decide | simp | (dsimp only; omega))]; exact T.1) (fun i hi => by rw [k _ _ (by first | decide | simp | (dsimp only; omega))]; exact T.2 i hi) (fun i hi => ?_) (show 0 < (n 395).toInt by omega)
      rw [sval3 hM15_ hM21_ hM25_ i hi, e19_, zupR hM15_ (by first | decide | simp | (dsimp only; omega)), s6]; rfl
    have := eT hr_
    rw [er] at h36_
    omega
  · have g := x1given hs12_
    rw [T.1] at g
    have y := eT e5_; rw [s7] at y
    rw [h2_] at h3_
    have k : ∀ (c : rf) (j : Nat), c.1 ≠ 29 → M24_.1 c j = M.1 c j := fun c j hc => by
      rw [zupR hM25_ hc, zupR hM21_ hc, zupR hM15_ hc]
    have er : r28_ = evR n 1 (heV n t s) := by
      refine x1work (nn := 3) hs35_ (by omega) hW (by rw [k _ _ (by first | decide | simp | (dsimp only; omega))]; exact T.1) (fun i hi => by rw [k _ _ (by first | decide | simp | (dsimp only; omega))]; exact T.2 i hi) (fun i hi => ?_) (show 0 < (n 395).toInt by omega)
      rw [sval3 hM15_ hM21_ hM25_ i hi, e19_, zupR hM15_ (by first | decide | simp | (dsimp only; omega)), s6]; rfl
    have := eT hr_
    rw [er] at h36_
    omega
  · have g := x1given hs12_
    rw [T.1] at g
    have y := eT e5_; rw [s7] at y
    have y2 := eT e38_; rw [s6] at y2
    rw [h2_] at h3_
    have := eT hr_
    omega
  · have g := x1given hs12_
    rw [T.1] at g
    have y := eT e5_; rw [s7] at y
    have y2 := eT e38_; rw [s6] at y2
    rw [h2_] at h3_
    have := eT hr_
    omega
  · have := eT hr_; omega
/-- whether a kind would be heard, by both -/
def heS (n : Nat → Int32) (ears : Int) (k : Nat) (p l s y : Int32) : Prop := hdS n ears p.toInt (Int32.ofInt (lateN s.toInt y.toInt)) (Int32.ofInt (strI n k p l y))
theorem x2hears {b : Nat} {v u t s q : Int32} {M M' : mM} {r : Int32} {n : Nat → Int32} (h : SP_X2_hears b v u t s q M r M') (hL : LWR b M.1 n) (hT : TXR b M.1 n) (hW : WT n) (hu : 0 ≤ u.toInt ∧ u.toInt ≤ 4) (hs : 0 ≤ s.toInt ∧ s.toInt ≤ 16) (hq : 0 ≤ q.toInt ∧ q.toInt ≤ 7) :
    (r.toInt = 1 ∧ heS n v.toInt u.toInt.toNat (t / (100 : Int32)) (t - t / (100 : Int32) * (100 : Int32)) q s) ∨ (r.toInt = 0 ∧ ¬ heS n v.toInt u.toInt.toNat (t / (100 : Int32)) (t - t / (100 : Int32) * (100 : Int32)) q s) := by
  unfold heS
  refine xE_SP_X2_hears h (fun r1_ hs5_ M7_ _ hF11_ r6_ hs13_ M15_ _ hF19_ r14_ hs21_ h17_ hr_ hM_ => ?_)
  have a := x2late hs5_ hq hs
  have c := x2strength hs13_ hL hT hW hu
  have k : ∀ (d : rf) (j : Nat), d.1 ≠ 29 → d.1 ≠ 25 → M7_.1 d j = M.1 d j := fun d j h1 h2 => hF11_ d j (fun q => by simp only [S_c_X2_strength, or_false] at q; omega)
  have g := x2isHeard (n := n) hs21_ ⟨by rw [k _ _ (by first | decide | simp | (dsimp only; omega)) (by first | decide | simp | (dsimp only; omega))]; exact hL.1, fun j hj => by rw [k _ _ (by simp) (by simp)]; exact hL.2.1 j hj, fun j hj => by rw [k _ _ (by simp) (by simp), k _ _ (by simp) (by simp)]; exact hL.2.2 j hj⟩ (fun w hw => ⟨by rw [k _ _ (by simp) (by simp)]; exact (hT w hw).1, fun i hi => by rw [k _ _ (by simp) (by simp)]; exact (hT w hw).2 i hi⟩) hW
  rw [← ofIe a, ← ofIe c, hr_]
  exact g
theorem x12isHeard {q v u t s p : Int32} {M M' : mM} {r : Int32} (h : SP_X12_isHeard q v u t s p M r M') (hD : InvD M) (hx : ∀ w, w < 3 → ∀ i : Nat, (i : Int) < (M.1 (50, 0, 0) (345 + 50 * w)).toInt → cOK (nnU w) (M.1 (50, 0, 0) (346 + 50 * w + i))) (hv : 0 ≤ v.toInt ∧ v.toInt ≤ 4) (hs : 0 ≤ s.toInt ∧ s.toInt ≤ 7) (hp : 0 ≤ p.toInt ∧ p.toInt ≤ 16) :
    (r.toInt = 1 ∧ heS (M.1 (50, 0, 0)) q.toInt v.toInt.toNat u t s p) ∨ (r.toInt = 0 ∧ ¬ heS (M.1 (50, 0, 0)) q.toInt v.toInt.toNat u t s p) := by
  have q0 := il_0
  have q1 := il_1
  unfold heS
  unfold SP_X12_isHeard at h
  obtain ⟨r1_, hs5_, M7_, hI10_, hF11_, r6_, hs13_, h⟩ := h
  have a := x12late hs5_ hs hp
  have x0 := hx 0 (by omega)
  simp only [Nat.mul_zero, Nat.add_zero] at x0
  have c := x12strength hs13_ hD x0 hv
  rw [← ofIe a, ← ofIe c]
  have k7 : M7_.1 (50, 0, 0) = M.1 (50, 0, 0) := funext fun j => hF11_ _ _ (by simp [S_c_X12_strength])
  unfold hdS
  rcases h with ⟨h14_, hr_, -⟩ | ⟨h14_, z15_, e16_, h⟩
  · have := eT hr_; omega
  · rw [k7] at e16_
    have y7 := eT e16_
    rcases h with ⟨h17_, hr_, -⟩ | ⟨h17_, h⟩
    · have := eT hr_; omega
    · rcases h with ⟨h18_, M19_, hM20_, z23_, e24_, M25_, hM26_, M29_, hM30_, hI31_, r33_, hs37_, h36_, h⟩ | ⟨h18_, hr_, -⟩
      · have k29 : ∀ (d : rf) (j : Nat), d.1 ≠ 58 → M29_.1 d j = M7_.1 d j := fun d j hc => by
          rw [zupR hM30_ hc, zupR hM26_ hc, zupR hM20_ hc]
        have k50 : M29_.1 (50, 0, 0) = M.1 (50, 0, 0) := (funext fun j => k29 _ _ (by first | decide | simp | (dsimp only; omega))).trans k7
        have g := x12has (u := 1) hs37_ (by first | decide | simp | (dsimp only; omega))
        rw [k50] at g
        simp only [Nat.mul_one, Nat.reduceAdd] at g
        rcases h with ⟨h38_, z39_, e40_, h⟩ | ⟨h38_, M43_, hI46_, hF47_, r42_, hs49_, h⟩
        · rw [k50] at e40_
          have y6 := eT e40_
          rcases h with ⟨h41_, hr_, -⟩ | ⟨h41_, hr_, -⟩
          · have := eT hr_; omega
          · have := eT hr_; omega
        · have er : r42_ = evR (M.1 (50, 0, 0)) 1 (heV (M.1 (50, 0, 0)) r1_ r6_) := by
            rw [← k50]
            refine x12given (nn := 3) hs49_ hI31_ ⟨by decide, by omega⟩ (fun i hi => ?_) (fun i hi => ?_) (by rw [k50]; simp only [Nat.mul_one, Nat.reduceAdd]; omega)
            · rw [k50] at hi ⊢
              exact hx 1 (by omega) i hi
            · rw [sval3 hM20_ hM26_ hM30_ i hi, e24_, zupR hM20_ (by first | decide | simp | (dsimp only; omega)), k7, k50]
              unfold heV
              rfl
          rcases h with ⟨h50_, hr_, -⟩ | ⟨h50_, hr_, -⟩
          · have := eT hr_; rw [er] at h50_; omega
          · have := eT hr_; rw [er] at h50_; omega
      · have := eT hr_; omega
end
section
/-! kinds of walkers -/
def reachI (k : Int) : Int := if k = 0 then 3 else if k = 1 then 12 else if k = 2 then 1 else if k = 3 then 6 else if k = 4 then 0 else if k = 5 then 6 else if k = 6 then 5 else 10
def earsI (k : Int) : Int := if k = 6 then 5 else 9
def speedI (k : Int) : Int := if k = 7 then 2 else 1
def abI (k : Int) : Int := if k ≤ 0 then -1 else if k = 5 ∨ k = 7 then 1 else if k = 6 then 3 else 0
def dpI (k : Int) : Int := if k < 0 then 0 else if k = 0 then 1 else if k ≤ 4 then 2 else 3
def undP (k o : Int) : Prop := 0 ≤ k ∧ (o = k ∨ o = 0 ∨ ((k = 5 ∨ k = 7) ∧ o = 1) ∨ (k = 6 ∧ o = 3))
theorem tbl_re : ∀ j : Nat, j < 8 → (([3, 12, 1, 6, 0, 6, 5, 10] : List Int32).getD j 0).toInt = reachI (j : Int) := by decide +kernel
theorem tbl_ears : ∀ j : Nat, j < 8 → (([9, 9, 9, 9, 9, 9, 5, 9] : List Int32).getD j 0).toInt = earsI (j : Int) := by decide +kernel
theorem tbl_spd : ∀ j : Nat, j < 8 → (([1, 1, 1, 1, 1, 1, 1, 2] : List Int32).getD j 0).toInt = speedI (j : Int) := by decide +kernel
theorem tbl_abv : ∀ j : Nat, j < 8 → (([-1, 0, 0, 0, 0, 1, 3, 1] : List Int32).getD j 0).toInt = abI (j : Int) := by decide +kernel
theorem reachI_b (k : Int) : 0 ≤ reachI k ∧ reachI k ≤ 12 := by
  unfold reachI
  repeat' split
  all_goals omega
theorem x9reach {b w : Nat} {M : mM} {r : Int32} (h : SP_X9_reach b w M r) (hk : 0 ≤ (M.1 (9, b, w) 0).toInt ∧ (M.1 (9, b, w) 0).toInt ≤ 7) : r.toInt = reachI (M.1 (9, b, w) 0).toInt := by
  refine xE_SP_X9_reach h (fun z1_ e2_ => ⟨(fun h3_ hr_ => ?_), (fun h3_ => ⟨(fun h6_ hr_ => ?_), (fun h6_ j11_ h12_ z9_ e10_ h13_ hr_ => ?_)⟩)⟩)
  · have := eT e2_; omega
  · have := eT e2_; omega
  · have y := eT e2_
    rw [eT hr_, e10_, tbl_re j11_ (by omega), h12_, y]
theorem x9ears {b w : Nat} {M : mM} {r : Int32} (h : SP_X9_ears b w M r) (hk : 0 ≤ (M.1 (9, b, w) 0).toInt ∧ (M.1 (9, b, w) 0).toInt ≤ 7) : r.toInt = earsI (M.1 (9, b, w) 0).toInt := by
  refine xE_SP_X9_ears h (fun z1_ e2_ => ⟨(fun h3_ hr_ => ?_), (fun h3_ => ⟨(fun h6_ hr_ => ?_), (fun h6_ j11_ h12_ z9_ e10_ h13_ hr_ => ?_)⟩)⟩)
  · have := eT e2_; omega
  · have := eT e2_; omega
  · have y := eT e2_
    rw [eT hr_, e10_, tbl_ears j11_ (by omega), h12_, y]
theorem x9speed {b w : Nat} {M : mM} {r : Int32} (h : SP_X9_speed b w M r) (hk : 0 ≤ (M.1 (9, b, w) 0).toInt ∧ (M.1 (9, b, w) 0).toInt ≤ 7) : r.toInt = speedI (M.1 (9, b, w) 0).toInt := by
  refine xE_SP_X9_speed h (fun z1_ e2_ => ⟨(fun h3_ hr_ => ?_), (fun h3_ => ⟨(fun h6_ hr_ => ?_), (fun h6_ j11_ h12_ z9_ e10_ h13_ hr_ => ?_)⟩)⟩)
  · have := eT e2_; omega
  · have := eT e2_; omega
  · have y := eT e2_
    rw [eT hr_, e10_, tbl_spd j11_ (by omega), h12_, y]
theorem x9above {v : Int32} {M : mM} {r : Int32} (h : SP_X9_kindAbove v M r) (hv : -1 ≤ v.toInt ∧ v.toInt ≤ 7) : r.toInt = abI v.toInt := by
  have qm := il_m1
  unfold abI
  refine xE_SP_X9_kindAbove h ⟨(fun h1_ hr_ => ?_), (fun h1_ => ⟨(fun h2_ hr_ => ?_), (fun h2_ j5_ h6_ z3_ e4_ hr_ => ?_)⟩)⟩
  · have := eT hr_; rw [if_pos (by omega)]; omega
  · omega
  · have e := tbl_abv j5_ (by omega)
    rw [← e4_, ← hr_, h6_] at e
    exact e
theorem und_step {k x o a : Int} (hx : 0 ≤ x ∧ x ≤ 7) (hn : ¬ x = o) (ha : a = abI x) (h : undP k o ↔ undP x o) : undP k o ↔ undP a o := by
  rw [h, ha]
  unfold undP abI
  repeat' split
  all_goals omega
theorem dp3 (k : Int) : 0 ≤ dpI k ∧ dpI k ≤ 3 := by
  unfold dpI
  repeat' split
  all_goals omega
theorem ab_rng (k : Int) : -1 ≤ abI k ∧ abI k ≤ 7 := by
  unfold abI
  repeat' split
  all_goals omega
theorem dp_ab {k : Int} (h : 0 ≤ k) (h7 : k ≤ 7) : dpI (abI k) + 1 ≤ dpI k := by
  rcases (show k = 0 ∨ k = 1 ∨ k = 2 ∨ k = 3 ∨ k = 4 ∨ k = 5 ∨ k = 6 ∨ k = 7 by omega) with rfl | rfl | rfl | rfl | rfl | rfl | rfl | rfl <;> decide
theorem x9isOf {b w : Nat} {v : Int32} {M : mM} {r : Int32} (h : SP_X9_isOf b w v M r) (hk : 0 ≤ (M.1 (9, b, w) 0).toInt ∧ (M.1 (9, b, w) 0).toInt ≤ 7) : (r.toInt = 1 ∧ undP (M.1 (9, b, w) 0).toInt v.toInt) ∨ (r.toInt = 0 ∧ ¬ undP (M.1 (9, b, w) 0).toInt v.toInt) := by
  have q0 := il_0
  have q1 := il_1
  refine xE_SP_X9_isOf h (fun z1_ e2_ v3_7 hv0_7 hv1_7 v2_7 hL_7 => ⟨(fun h4_ hr_ => ?_), (fun h4_ => ⟨(fun h5_ hr_ => ?_), (fun h5_ h6_ hr_ => ?_)⟩)⟩)
  all_goals
    have g := rind hL_7 (fun z => 0 ≤ z.1.toInt ∧ (-1 ≤ z.2.toInt ∧ z.2.toInt ≤ 7) ∧ z.1.toInt + dpI z.2.toInt ≤ 3 ∧ (undP (M.1 (9, b, w) 0).toInt v.toInt ↔ undP z.2.toInt v.toInt)) (by
      have y := eT e2_
      (try dsimp only)
      refine ⟨by omega, by omega, ?_, by rw [y]⟩
      first
        | (rw [il_0, Int.zero_add]; exact (dp3 _).2)
        | (unfold dpI; repeat' split; all_goals omega)) (fun x z hp hst => by
      obtain ⟨x1, x2⟩ := x
      obtain ⟨z1, z2⟩ := z
      (try dsimp only at hp hst ⊢)
      refine xE_ST_X9_isOf_7 hst (fun p_hv0_7 p_hv1_7 p_h4_ p_h5_ p_h6_ p_r7_ p_hs11_ p_z12_ p_h13_ p_hq_v3_7y p_hq_v2_7y => ?_)
      have a := x9above p_hs11_ hp.2.1
      rw [p_hq_v3_7y, p_hq_v2_7y]
      refine ⟨by omega, ?_, ?_, und_step ⟨p_h5_, hp.2.1.2⟩ p_h6_ a hp.2.2.2⟩
      · rw [a]
        exact ab_rng _
      · have d := hp.2.2.1
        rw [a, p_h13_]
        have e := dp_ab p_h5_ hp.2.1.2
        omega)
    (try dsimp only at g)
  · have := eT hr_
    have d := g.2.2.1
    unfold dpI at d
    repeat' split at d
    all_goals omega
  · have := eT hr_
    right
    refine ⟨by omega, fun u => ?_⟩
    have := g.2.2.2.mp u
    unfold undP at this
    omega
  · have := eT hr_
    left
    refine ⟨by omega, g.2.2.2.mpr ?_⟩
    unfold undP
    omega
theorem x12above {v : Int32} {M : mM} {r : Int32} (h : SP_X12_above v M r) (hv : 0 ≤ v.toInt ∧ v.toInt ≤ 7) : r.toInt = abI v.toInt := by
  have qm := il_m1
  have q0 := il_0
  have q1 := il_1
  have q3 : (3 : Int32).toInt = 3 := by decide
  unfold abI
  refine xE_SP_X12_above h ⟨(fun h1_ => ⟨(fun h2_ hr_ => ?_), (fun h2_ => ⟨(fun h3_ => ⟨(fun h4_ hr_ => ?_), (fun h4_ hr_ => ?_)⟩), (fun h3_ hr_ => ?_)⟩)⟩), (fun h1_ hr_ => ?_)⟩
  all_goals
    have := eT hr_
    repeat' split
    all_goals omega
theorem x12isUnder {v u : Int32} {M : mM} {r : Int32} (h : SP_X12_isUnder v u M r) (hk : 0 ≤ v.toInt ∧ v.toInt ≤ 7) : (r.toInt = 1 ∧ undP v.toInt u.toInt) ∨ (r.toInt = 0 ∧ ¬ undP v.toInt u.toInt) := by
  have q0 := il_0
  have q1 := il_1
  refine xE_SP_X12_isUnder h (fun v2_2 hL_2 => ⟨(fun h2_ h3_ hr_ => ?_), (fun h2_ h4_ h5_ hr_ => ?_)⟩)
  all_goals
    have g := rind hL_2 (fun z => (-1 ≤ z.toInt ∧ z.toInt ≤ 7) ∧ (undP v.toInt u.toInt ↔ undP z.toInt u.toInt)) ⟨by omega, Iff.rfl⟩ (fun x z hp hst => by
      (try dsimp only at hp hst ⊢)
      refine xE_ST_X12_isUnder_2 hst (fun p_h2_ p_h4_ p_r6_ p_hs10_ p_h9_ p_hq_v2_2y => ?_)
      have a := x12above p_hs10_ ⟨p_h2_, hp.1.2⟩
      rw [p_hq_v2_2y]
      refine ⟨?_, und_step ⟨p_h2_, hp.1.2⟩ p_h4_ a hp.2⟩
      rw [a]
      unfold abI
      repeat' split
      all_goals omega)
    (try dsimp only at g)
  · have := eT hr_
    right
    refine ⟨by omega, fun u => ?_⟩
    have := g.2.mp u
    unfold undP at this
    omega
  · have := eT hr_
    left
    refine ⟨by omega, g.2.mpr ?_⟩
    unfold undP
    omega
theorem x12kindOf {v : Int32} {M : mM} {r : Int32} (h : SP_X12_kindOf v M r) (hv : 0 ≤ v.toInt ∧ v.toInt ≤ 7) : r = M.1 (50, 0, 0) (180 + 9 * v.toInt.toNat) := by
  refine xE_SP_X12_kindOf h (fun r1_ hs5_ h4_ z6_ h7_ j10_ h11_ z8_ e9_ h12_ hr_ => ?_)
  obtain rfl : j10_ = 180 + 9 * v.toInt.toNat := by omega
  rw [hr_, e9_]
theorem x12reachOf {v : Int32} {M : mM} {r : Int32} (h : SP_X12_reachOf v M r) (hv : 0 ≤ v.toInt ∧ v.toInt ≤ 7) : r.toInt = reachI v.toInt := by
  have i3 : (3 : Int32).toInt = 3 := by decide
  have i0 := il_0
  have i1 := il_1
  unfold reachI
  refine xE_SP_X12_reachOf h ⟨(fun e1_ hr_ => ?_), (fun e1_ r2_ hs6_ h5_ z7_ h8_ hr_ => ?_), (fun e1_ hr_ => ?_), (fun e1_ r9_ hs13_ h12_ z14_ h15_ hr_ => ?_), (fun e1_ hr_ => ?_), (fun e1_ r16_ hs20_ h19_ z21_ h22_ hr_ => ?_), (fun e1_ r23_ hs27_ h26_ z28_ h29_ hr_ => ?_), (fun e1_ r30_ hs34_ h33_ z35_ h36_ hr_ => ?_)⟩
  all_goals
    have := eT hr_
    repeat' split
    all_goals omega
theorem x12reach {v : Int32} {M : mM} {r : Int32} (h : SP_X12_reach v M r) (hv : 0 ≤ v.toInt ∧ v.toInt ≤ 7) : r.toInt = reachI (M.1 (50, 0, 0) (180 + 9 * v.toInt.toNat)).toInt := by
  refine xE_SP_X12_reach h (fun r1_ hs5_ h4_ r6_ hs10_ h9_ hr_ => ?_)
  have a := x12kindOf hs5_ hv
  have c := x12reachOf hs10_ h4_
  rw [hr_, c, a]
theorem x12ears {v : Int32} {M : mM} {r : Int32} (h : SP_X12_ears v M r) (hv : 0 ≤ v.toInt ∧ v.toInt ≤ 7) : r.toInt = earsI (M.1 (50, 0, 0) (180 + 9 * v.toInt.toNat)).toInt := by
  have i5 : (5 : Int32).toInt = 5 := by decide
  have i9 : (9 : Int32).toInt = 9 := by decide
  refine xE_SP_X12_ears h (fun r1_ hs5_ h4_ => ⟨(fun h6_ hr_ => ?_), (fun h6_ hr_ => ?_)⟩)
  all_goals
    have a := x12kindOf hs5_ hv
    rw [← a]
    unfold earsI
    have := eT hr_
    split <;> omega
end
section
/-! what comes back from a side -/
def FrS (o : Nat → Int) (w x : Int) : Prop := o x.toNat = -1 ∨ o x.toNat = 100 + w
def FrM (o : Nat → Int) (w x : Int) : Prop := o x.toNat = -1 ∨ (o x.toNat = 100 + w ∧ 100 ≤ o x.toNat)
def EchoP (F : Int → Prop) (c s R y : Int) : Prop := (1 ≤ y ∧ y ≤ R ∧ (∀ j : Int, 1 ≤ j → j < y → 0 ≤ onI c s j ∧ F (onI c s j)) ∧ 0 ≤ onI c s y ∧ ¬ F (onI c s y)) ∨
  (y = 0 ∧ ((∀ j : Int, 1 ≤ j → j ≤ R → 0 ≤ onI c s j ∧ F (onI c s j)) ∨ ∃ e : Int, 1 ≤ e ∧ e ≤ R ∧ (∀ j : Int, 1 ≤ j → j < e → 0 ≤ onI c s j ∧ F (onI c s j)) ∧ onI c s e < 0))
theorem EchoP_uniq {F : Int → Prop} {c s R y z : Int} (h : EchoP F c s R y) (g : EchoP F c s R z) : y = z := by
  have key : ∀ {a b : Int}, (1 ≤ a ∧ a ≤ R ∧ (∀ j : Int, 1 ≤ j → j < a → 0 ≤ onI c s j ∧ F (onI c s j)) ∧ 0 ≤ onI c s a ∧ ¬ F (onI c s a)) → (1 ≤ b ∧ b ≤ R ∧ (∀ j : Int, 1 ≤ j → j < b → 0 ≤ onI c s j ∧ F (onI c s j)) ∧ 0 ≤ onI c s b ∧ ¬ F (onI c s b)) → ¬ a < b := fun h g q => h.2.2.2.2 (g.2.2.1 _ h.1 q).2
  have key2 : ∀ {a : Int}, (1 ≤ a ∧ a ≤ R ∧ (∀ j : Int, 1 ≤ j → j < a → 0 ≤ onI c s j ∧ F (onI c s j)) ∧ 0 ≤ onI c s a ∧ ¬ F (onI c s a)) → ((∀ j : Int, 1 ≤ j → j ≤ R → 0 ≤ onI c s j ∧ F (onI c s j)) ∨ ∃ e : Int, 1 ≤ e ∧ e ≤ R ∧ (∀ j : Int, 1 ≤ j → j < e → 0 ≤ onI c s j ∧ F (onI c s j)) ∧ onI c s e < 0) → False := fun {a} h g => by
    rcases g with g | ⟨e, e1, e2, e3, e4⟩
    · exact h.2.2.2.2 (g a h.1 h.2.1).2
    · rcases Int.lt_trichotomy e a with q | q | q
      · have := (h.2.2.1 e e1 q).1; omega
      · have := h.2.2.2.1; rw [← q] at this; omega
      · exact h.2.2.2.2 (e3 a h.1 q).2
  rcases h with h | h <;> rcases g with g | g
  · have a := key h g
    have b := key g h
    omega
  · exact (key2 h g.2).elim
  · exact (key2 g h.2).elim
  · rw [h.1, g.1]
theorem EchoP_cong {F G : Int → Prop} {c s R y : Int} (e : ∀ j : Int, 1 ≤ j → j ≤ R → 0 ≤ onI c s j → (F (onI c s j) ↔ G (onI c s j))) (h : EchoP F c s R y) : EchoP G c s R y := by
  have k : ∀ {a : Int}, a ≤ R + 1 → (∀ j : Int, 1 ≤ j → j < a → 0 ≤ onI c s j ∧ F (onI c s j)) → (∀ j : Int, 1 ≤ j → j < a → 0 ≤ onI c s j ∧ G (onI c s j)) := fun ha h j h1 h2 => ⟨(h j h1 h2).1, (e j h1 (by omega) (h j h1 h2).1).mp (h j h1 h2).2⟩
  rcases h with ⟨h1, h2, h3, h4, h5⟩ | ⟨h1, h2 | ⟨d, h2, h3, h4, h5⟩⟩
  · exact Or.inl ⟨h1, h2, k (by omega) h3, h4, fun q => h5 ((e y h1 h2 h4).mpr q)⟩
  · exact Or.inr ⟨h1, Or.inl (fun j a b => ⟨(h2 j a b).1, (e j a b (h2 j a b).1).mp (h2 j a b).2⟩)⟩
  · exact Or.inr ⟨h1, Or.inr ⟨d, h2, h3, k (by omega) h4, h5⟩⟩
theorem x10has {b : Nat} {v : Int32} {M : mM} {r : Int32} (h : SP_X10_hasWalker b v M r) : (r.toInt = 1 ∧ 0 ≤ v.toInt ∧ v.toInt < (M.1 (10, b, 0) 6).toInt ∧ v.toInt < 8) ∨ (r.toInt = 0 ∧ ¬ (0 ≤ v.toInt ∧ v.toInt < (M.1 (10, b, 0) 6).toInt ∧ v.toInt < 8)) := by
  have q0 := il_0
  have q1 := il_1
  refine xE_SP_X10_hasWalker h ⟨(fun h1_ hr_ => ?_), (fun h1_ z2_ e3_ => ⟨(fun h4_ hr_ => ?_), (fun h4_ => ⟨(fun h5_ hr_ => ?_), (fun h5_ hr_ => ?_)⟩)⟩)⟩
  · have := eT hr_; omega
  · have := eT hr_; have := eT e3_; omega
  · have := eT hr_; have := eT e3_; omega
  · have := eT hr_; have := eT e3_; omega
theorem x10echo {b : Nat} {v u t : Int32} {M : mM} {r : Int32} (h : SP_X10_echoYards b v u t M r) (hv : 0 ≤ v.toInt ∧ v.toInt ≤ 7 ∧ v.toInt < (M.1 (10, b, 0) 6).toInt) (hk : 0 ≤ (M.1 (9, b, v.toInt.toNat) 0).toInt ∧ (M.1 (9, b, v.toInt.toNat) 0).toInt ≤ 7) (hu : 0 ≤ u.toInt ∧ u.toInt ≤ 191) (ht : 0 ≤ t.toInt ∧ t.toInt ≤ 7) : EchoP (FrS (occ b M.1) v.toInt) u.toInt t.toInt (reachI (M.1 (9, b, v.toInt.toNat) 0).toInt) r.toInt := by
  have q0 := il_0
  have q1 := il_1
  have rb := reachI_b (M.1 (9, b, v.toInt.toNat) 0).toInt
  have G : ∀ (R x : Int32), RCH (fun x_ y_ => ST_X10_echoYards_26 b v u t M R x_ y_) (1 : Int32) x → R.toInt ≤ 12 → 1 ≤ x.toInt ∧ ∀ j : Int, 1 ≤ j → j < x.toInt → 0 ≤ onI u.toInt t.toInt j ∧ FrS (occ b M.1) v.toInt (onI u.toInt t.toInt j) := fun R x hL hR =>
    rind hL (fun x => 1 ≤ x.toInt ∧ ∀ j : Int, 1 ≤ j → j < x.toInt → 0 ≤ onI u.toInt t.toInt j ∧ FrS (occ b M.1) v.toInt (onI u.toInt t.toInt j)) ⟨by omega, fun j h1 h2 => by omega⟩ (fun x z hp hst => by
      (try dsimp only at hp hst ⊢)
      refine xE_ST_X10_echoYards_26 hst (fun p_hv0_26 p_h16_ p_r17_ p_hs21_ p_h20_ p_h22_ p_r23_ p_hs27_ p_h26_ p_h28_ p_z29_ p_h30_ p_hq_v5_26y => ?_)
      have cf := cF_spec p_hs21_
      have bt := x10but p_hs27_ ⟨hv.1, hv.2.1⟩
      rw [p_hq_v5_26y]
      refine ⟨by omega, fun j h1 h2 => ?_⟩
      by_cases e : j = x.toInt
      · have e2 : p_r17_.toInt = onI u.toInt t.toInt x.toInt := by omega
        rw [e, ← e2]
        exact ⟨p_h22_, by unfold FrS; omega⟩
      · exact hp.2 j h1 (by omega))
  refine xE_SP_X10_echoYards h ⟨(fun hs5_ h4_ j7_ h8_ h9_ r10_ hs14_ h13_ v5_26 hv0_26 hL_26 => ⟨(fun h16_ hr_ => ?_), (fun h16_ r17_ hs21_ h20_ => ⟨(fun h22_ r23_ hs27_ h26_ h28_ hr_ => ?_), (fun h22_ hr_ => ?_)⟩)⟩), (fun hs5_ v5_26 hv0_26 hL_26 h33_ hr_ => ?_)⟩
  · obtain rfl : j7_ = v.toInt.toNat := by omega
    have a := x9reach hs14_ hk
    have g := G _ _ hL_26 (by omega)
    rw [hr_, il_0]
    exact Or.inr ⟨rfl, Or.inl (fun j h1 h2 => g.2 j h1 (by omega))⟩
  · obtain rfl : j7_ = v.toInt.toNat := by omega
    have a := x9reach hs14_ hk
    have g := G _ _ hL_26 (by omega)
    have cf := cF_spec hs21_
    have bt := x10but hs27_ ⟨hv.1, hv.2.1⟩
    have e2 : r17_.toInt = onI u.toInt t.toInt v5_26.toInt := by omega
    rw [hr_]
    exact Or.inl ⟨g.1, by omega, g.2, by omega, by rw [← e2]; unfold FrS; omega⟩
  · obtain rfl : j7_ = v.toInt.toNat := by omega
    have a := x9reach hs14_ hk
    have g := G _ _ hL_26 (by omega)
    have cf := cF_spec hs21_
    have e2 : r17_.toInt = onI u.toInt t.toInt v5_26.toInt := by omega
    rw [hr_, il_0]
    exact Or.inr ⟨rfl, Or.inr ⟨v5_26.toInt, g.1, by omega, g.2, by omega⟩⟩
  · have := x10has hs5_
    omega
theorem x12echo {b : Nat} {q : rf → Nat → Int32} {v u t : Int32} {M : mM} {r : Int32} (h : SP_X12_echoFrom v u t M r) (hO : OCC b q (M.1 (50, 0, 0))) (hu : 0 ≤ v.toInt ∧ v.toInt ≤ 191) (hs : 0 ≤ u.toInt ∧ u.toInt ≤ 7) (ht : 0 ≤ t.toInt ∧ t.toInt ≤ 12) (hn : -1 ≤ (M.1 (12, 0, 0) 7).toInt) : EchoP (FrM (occ b q) (M.1 (12, 0, 0) 7).toInt) v.toInt u.toInt t.toInt r.toInt := by
  have q0 := il_0
  have q1 := il_1
  refine xE_SP_X12_echoFrom h (fun v4_3 hv0_3 hv1_3 hv2_3 hL_3 => ?_)
  have g := rind hL_3 (fun x => 1 ≤ x.toInt ∧ ∀ j : Int, 1 ≤ j → j < x.toInt → 0 ≤ onI v.toInt u.toInt j ∧ FrM (occ b q) (M.1 (12, 0, 0) 7).toInt (onI v.toInt u.toInt j)) ⟨by omega, fun j h1 h2 => by omega⟩ (fun x z hp hst => by
    (try dsimp only at hp hst ⊢)
    refine xE_ST_X12_echoFrom_3 hst (fun p_hv0_3 p_hv1_3 p_hv2_3 p_h2_ p_r3_ p_hs7_ p_h6_ p_h8_ p_h9_ p_r10_ p_hs14_ p_h13_ p_r15_ p_hs19_ p_h18_ p_h20_ p_z21_ p_h22_ p_hq_v4_3y => ?_)
    have c1 := on_spec p_h6_.1 hu hs (by omega)
    have c2 := on_spec p_h13_.1 hu hs (by omega)
    have bt := x12free p_hs19_ hO (by omega) hn
    rw [p_hq_v4_3y]
    refine ⟨by omega, fun j h1 h2 => ?_⟩
    by_cases e : j = x.toInt
    · rw [e, ← c2]
      exact ⟨by omega, by unfold FrM; omega⟩
    · exact hp.2 j h1 (by omega))
  (try dsimp only at g)
  refine ⟨(fun h2_ hr_ => ?_), (fun h2_ r3_ hs7_ h6_ => ⟨(fun h8_ hr_ => ?_), (fun h8_ h9_ r10_ hs14_ h13_ r15_ hs19_ h18_ h20_ hr_ => ?_)⟩)⟩
  · rw [hr_, il_0]
    exact Or.inr ⟨rfl, Or.inl (fun j h1 h2 => g.2 j h1 (by omega))⟩
  · have c1 := on_spec h6_.1 hu hs (by omega)
    rw [hr_, il_0]
    exact Or.inr ⟨rfl, Or.inr ⟨v4_3.toInt, g.1, by omega, g.2, by omega⟩⟩
  · have c1 := on_spec h6_.1 hu hs (by omega)
    have c2 := on_spec h13_.1 hu hs (by omega)
    have bt := x12free hs19_ hO (by omega) hn
    rw [hr_]
    exact Or.inl ⟨g.1, by omega, g.2, by omega, by rw [← c2]; unfold FrM; omega⟩
/-- the kind in a cell -/
def kindS (n : Nat → Int32) (o : Nat → Int) (x : Int) : Int := if 0 ≤ o x.toNat ∧ o x.toNat < nTh n then (n (20 + 4 * (o x.toNat).toNat)).toInt else 3
theorem x7has {b : Nat} {v : Int32} {M : mM} {r : Int32} (h : SP_X7_hasThing b v M r) : (r.toInt = 1 ∧ 0 ≤ v.toInt ∧ v.toInt < (M.1 (7, b, 0) 5).toInt ∧ v.toInt < 40) ∨ (r.toInt = 0 ∧ ¬ (0 ≤ v.toInt ∧ v.toInt < (M.1 (7, b, 0) 5).toInt ∧ v.toInt < 40)) := by
  have q0 := il_0
  have q1 := il_1
  refine xE_SP_X7_hasThing h ⟨(fun h1_ hr_ => ?_), (fun h1_ z2_ e3_ => ⟨(fun h4_ hr_ => ?_), (fun h4_ => ⟨(fun h5_ hr_ => ?_), (fun h5_ hr_ => ?_)⟩)⟩)⟩
  · have := eT hr_; omega
  · have := eT hr_; have := eT e3_; omega
  · have := eT hr_; have := eT e3_; omega
  · have := eT hr_; have := eT e3_; omega
theorem nTh_b {n : Nat → Int32} (h : NW5 n) : 0 ≤ nTh n ∧ nTh n ≤ 40 := (h.1 1).1 rfl
theorem nWa_b {n : Nat → Int32} (h : NW5 n) : 0 ≤ nWa n ∧ nWa n ≤ 8 := (h.1 2).2.1 rfl
theorem kindS_b {n : Nat → Int32} {o : Nat → Int} {x : Int} (h : NW5 n) : 0 ≤ kindS n o x ∧ kindS n o x ≤ 4 := by
  unfold kindS
  have := nTh_b h
  split
  · rename_i g
    exact ((h.1 (20 + 4 * (o x.toNat).toNat)).2.2.2.2.2.2.1 (by omega) (by omega)).1 (by omega)
  · omega
theorem x7kindIn {b : Nat} {v : Int32} {M : mM} {r : Int32} {n : Nat → Int32} (h : SP_X7_kindIn b v M r) (hv : 0 ≤ v.toInt ∧ v.toInt ≤ 191) (hT : THR b M.1 n) (hN : NW5 n) : r.toInt = kindS n (occ b M.1) v.toInt := by
  have q0 := il_0
  have q1 := il_1
  have q3 : (3 : Int32).toInt = 3 := by decide
  have nb := nTh_b hN
  have e1 := eT hT.1
  unfold nTh at nb
  unfold kindS occ
  refine xE_SP_X7_kindIn h ⟨(fun hs5_ h4_ j9_ h10_ z7_ e8_ => ⟨(fun hs15_ h14_ j19_ h20_ z17_ e18_ hr_ => ?_), (fun hs15_ hr_ => ?_)⟩), (fun hs5_ h4_ hs27_ hr_ => ?_)⟩
  · obtain rfl : j9_ = v.toInt.toNat := by omega
    have g := x7has hs15_
    have y := eT e8_
    rw [if_pos (by unfold nTh; omega), hr_, e18_, (hT.2 j19_ (by unfold nTh; omega)).1]
    rw [show j19_ = (M.1 (35, b, 0) v.toInt.toNat).toInt.toNat by omega]
  · obtain rfl : j9_ = v.toInt.toNat := by omega
    have g := x7has hs15_
    have y := eT e8_
    rw [if_neg (by unfold nTh; omega), hr_, q3]
  · omega
theorem x12kindIn {b : Nat} {q : rf → Nat → Int32} {v : Int32} {M : mM} {r : Int32} (h : SP_X12_kindIn v M r) (hO : OCC b q (M.1 (50, 0, 0))) (hv : 0 ≤ v.toInt ∧ v.toInt ≤ 191) (hn : -1 ≤ (M.1 (12, 0, 0) 7).toInt) (hf : ¬ FrM (occ b q) (M.1 (12, 0, 0) 7).toInt v.toInt) (hD : InvD M) : r.toInt = kindS (M.1 (50, 0, 0)) (occ b q) v.toInt := by
  have q3 : (3 : Int32).toInt = 3 := by decide
  have o3 := hO.2.2 v.toInt.toNat (by omega)
  have nb := nTh_b hD.2.1
  unfold FrM at hf
  unfold kindS
  refine xE_SP_X12_kindIn h (fun r1_ hs5_ h4_ => ⟨(fun h6_ hr_ => ?_), (fun h6_ r7_ hs11_ h10_ z12_ h13_ j16_ h17_ z14_ e15_ h18_ hr_ => ?_)⟩)
  all_goals
    have a := x12in hs5_ hO hv hn
    rw [if_neg (by omega)] at a
  · rw [if_neg (by omega), hr_, q3]
  · rw [if_pos (by omega), hr_, e15_, show j16_ = 20 + 4 * (occ b q v.toInt.toNat).toNat by omega]
/-- what a walker would hear by its own click from a cell, by sides -/
def HyP (n : Nat → Int32) (o : Nat → Int) (w : Nat) (c s : Int32) (r : Int) : Prop := ∃ y : Int32, EchoP (FrS o w) c.toInt s.toInt (reachI (n (180 + 9 * w)).toInt) y.toInt ∧
  ((y.toInt = 0 ∧ r = 0) ∨ (¬ y.toInt = 0 ∧ ((r = y.toInt ∧ heS n (earsI (n (180 + 9 * w)).toInt) (kindS n o (onI c.toInt s.toInt y.toInt)).toNat (n (183 + 9 * w)) (n (184 + 9 * w)) s y) ∨ (r = 0 ∧ ¬ heS n (earsI (n (180 + 9 * w)).toInt) (kindS n o (onI c.toInt s.toInt y.toInt)).toNat (n (183 + 9 * w)) (n (184 + 9 * w)) s y))))
theorem HyP_uniq {n : Nat → Int32} {o : Nat → Int} {w : Nat} {c s : Int32} {r z : Int} (h : HyP n o w c s r) (g : HyP n o w c s z) : r = z := by
  obtain ⟨y, h1, h2⟩ := h
  obtain ⟨y', g1, g2⟩ := g
  obtain rfl : y = y' := i32e (EchoP_uniq h1 g1)
  rcases h2 with h2 | ⟨h2, h3 | h3⟩ <;> rcases g2 with g2 | ⟨g2, g3 | g3⟩
  · omega
  · omega
  · omega
  · omega
  · omega
  · exact absurd h3.2 g3.2
  · omega
  · exact absurd g3.2 h3.2
  · omega
theorem own_pl {p l z a : Int32} (h1 : a = (100 : Int32) * p) (h2 : z = a + l) (hp : 1 ≤ p.toInt ∧ p.toInt ≤ 9) (hl : 1 ≤ l.toInt ∧ l.toInt ≤ 99) : z / (100 : Int32) = p ∧ z - z / (100 : Int32) * (100 : Int32) = l := by
  have i100 : (100 : Int32).toInt = 100 := by decide
  have e1 : a.toInt = 100 * p.toInt := by rw [h1]; exact mulI i100 rfl (by omega) (by omega)
  have e2 : z.toInt = 100 * p.toInt + l.toInt := by rw [h2]; exact addI e1 rfl (by omega) (by omega)
  have d := divI (x := z) (y := (100 : Int32)) rfl i100 (by omega) (by omega)
  have m := remI (x := z) (y := (100 : Int32)) rfl i100 (by omega) (by omega)
  exact ⟨i32e (by omega), i32e (by omega)⟩
def WRR (b : Nat) (q : rf → Nat → Int32) (n : Nat → Int32) : Prop := LWR b q n ∧ THR b q n ∧ WAR b q n ∧ TXR b q n ∧ OCC b q n ∧ MIR n
theorem x10heard {b : Nat} {v u t : Int32} {M M' : mM} {r : Int32} {n : Nat → Int32} (h : SP_X10_heardYards b v u t M r M') (hR : WRR b M.1 n) (hN : NW5 n) (hv : 0 ≤ v.toInt ∧ v.toInt < nWa n) (hu : 0 ≤ u.toInt ∧ u.toInt ≤ 191) (ht : 0 ≤ t.toInt ∧ t.toInt ≤ 7) : HyP n (occ b M.1) v.toInt.toNat u t r.toInt := by
  have q0 := il_0
  obtain ⟨hL, hT, hW, hX, hO, hM⟩ := hR
  have nw := nWa_b hN
  have ec := eT hW.1
  have w1 := (hW.2 v.toInt.toNat (by omega)).1
  have k0 := w1 0 (by omega)
  have k3 := w1 3 (by omega)
  have k4 := w1 4 (by omega)
  simp only [Nat.add_zero] at k0
  have kb := ((hN.1 (180 + 9 * v.toInt.toNat)).2.2.2.2.2.2.2 (by omega) (by omega)).1 (by omega)
  have mp := hM.1 v.toInt.toNat (by omega)
  unfold HyP
  unfold nWa at hv nw
  unfold SP_X10_heardYards at h
  obtain ⟨r1_, hs5_, h4_, h⟩ := h
  have E := x10echo hs5_ ⟨hv.1, by omega, by omega⟩ (by rw [k0]; exact kb) hu ht
  rw [k0] at E
  have ev : FrS (occ b M.1) v.toInt = FrS (occ b M.1) ((v.toInt.toNat : Nat) : Int) := by rw [show ((v.toInt.toNat : Nat) : Int) = v.toInt by omega]
  rw [ev] at E
  refine ⟨r1_, E, ?_⟩
  rcases h with ⟨h6_, hr_, -⟩ | ⟨h6_, h⟩
  · exact Or.inl ⟨h6_, by rw [hr_]; exact il_0⟩
  · right
    refine ⟨h6_, ?_⟩
    rcases h with ⟨hs11_, h10_, j13_, h14_, h15_, r16_, hs20_, h19_, r21_, hs25_, r26_, hs30_, h29_, r31_, hs35_, M37_, hI40_, hF41_, r36_, hs43_, h39_, h⟩ | ⟨hs11_, hr_, -⟩
    · obtain rfl : j13_ = v.toInt.toNat := by omega
      have cf := cF_spec hs20_
      have e16 : r16_.toInt = onI u.toInt t.toInt r1_.toInt := by omega
      have c16 : 0 ≤ r16_.toInt := by
        unfold EchoP at E
        omega
      have kk := x7kindIn hs25_ ⟨c16, h19_.2⟩ hT hN
      have kb2 := kindS_b (o := occ b M.1) (x := r16_.toInt) hN
      have ee := x9ears hs30_ (by rw [k0]; exact kb)
      rw [k0] at ee
      have oc : r31_ / (100 : Int32) = n (183 + 9 * v.toInt.toNat) ∧ r31_ - r31_ / (100 : Int32) * (100 : Int32) = n (184 + 9 * v.toInt.toNat) := by
        refine xE_SP_X9_ownClick hs35_ (fun z1_ e2_ z3_ h4_ z5_ e6_ z7_ h8_ hr_ => ?_)
        rw [k3, show 180 + 9 * v.toInt.toNat + 3 = 183 + 9 * v.toInt.toNat by omega] at e2_
        rw [k4, show 180 + 9 * v.toInt.toNat + 4 = 184 + 9 * v.toInt.toNat by omega] at e6_
        rw [← e2_, ← e6_, hr_]
        exact own_pl h4_ h8_ (by rw [e2_]; exact mp.1) (by rw [e6_]; exact mp.2)
      have hh := x2hears hs43_ hL hX hN.2 (by omega) (by omega) ht
      rw [oc.2, oc.1, ee, kk, e16] at hh
      rcases h with ⟨h44_, hr_, -⟩ | ⟨h44_, hr_, -⟩
      · exact Or.inr ⟨by rw [hr_]; exact il_0, (hh.resolve_left (fun q => by omega)).2⟩
      · exact Or.inl ⟨by rw [hr_], (hh.resolve_right (fun q => by omega)).2⟩
    · have := x10has hs11_
      omega
theorem x12heard {b : Nat} {q : rf → Nat → Int32} {v u t : Int32} {M M' : mM} {r : Int32} (h : SP_X12_heardFrom v u t M r M') (hO : OCC b q (M.1 (50, 0, 0))) (hD : InvD M) (hx : ∀ w, w < 3 → ∀ i : Nat, (i : Int) < (M.1 (50, 0, 0) (345 + 50 * w)).toInt → cOK (nnU w) (M.1 (50, 0, 0) (346 + 50 * w + i))) (hv : 0 ≤ v.toInt ∧ v.toInt < nWa (M.1 (50, 0, 0))) (hu : 0 ≤ u.toInt ∧ u.toInt ≤ 191) (ht : 0 ≤ t.toInt ∧ t.toInt ≤ 7)
    (hn : (M.1 (12, 0, 0) 7).toInt = v.toInt ∨ ((M.1 (12, 0, 0) 7).toInt = -1 ∧ u.toInt = wcl (M.1 (50, 0, 0)) v.toInt.toNat)) : HyP (M.1 (50, 0, 0)) (occ b q) v.toInt.toNat u t r.toInt := by
  have q0 := il_0
  have nw := nWa_b hD.2.1
  have nT := nTh_b hD.2.1
  have fr : ∀ j : Int, 1 ≤ j → j ≤ 12 → 0 ≤ onI u.toInt t.toInt j → (FrM (occ b q) (M.1 (12, 0, 0) 7).toInt (onI u.toInt t.toInt j) ↔ FrS (occ b q) ((v.toInt.toNat : Nat) : Int) (onI u.toInt t.toInt j)) := fun j h1 h2 h3 => by
    have b := onI_b (c := u.toInt) (s := t.toInt) (y := j)
    have o3 := hO.2.2 (onI u.toInt t.toInt j).toNat (by omega)
    unfold FrM FrS
    rcases hn with hn | ⟨hn, hc⟩
    · omega
    · have ne := onI_ne hu ht ⟨h1, (by omega : j ≤ 15)⟩
      refine ⟨fun z => by omega, fun z => ?_⟩
      rcases o3 with o | o | o
      · omega
      · omega
      · rcases z with z | z
        · omega
        · exfalso
          have e := o.2.2
          rw [z, show (100 + ((v.toInt.toNat : Nat) : Int) - 100).toNat = v.toInt.toNat by omega, ← hc] at e
          omega
  unfold HyP
  unfold SP_X12_heardFrom at h
  obtain ⟨r1_, hs5_, h4_, r6_, hs10_, h9_, r11_, hs15_, h14_, h⟩ := h
  have rr := x12reach hs5_ ⟨hv.1, by omega⟩
  have E := x12echo hs10_ hO hu ht h4_ (by omega)
  have E2 := EchoP_cong (fun j a c d => fr j a (by omega) d) E
  rw [rr] at E2
  refine ⟨r6_, E2, ?_⟩
  rcases h with ⟨h16_, hr_, -⟩ | ⟨h16_, r18_, hs22_, h21_, r23_, hs27_, h26_, r28_, hs32_, h31_, z33_, h34_, j37_, h38_, z35_, e36_, z39_, h40_, j43_, h44_, z41_, e42_, M46_, hI49_, hF50_, r45_, hs52_, h48_, h⟩
  · exact Or.inl ⟨by omega, by rw [hr_]; exact il_0⟩
  · right
    refine ⟨by omega, ?_⟩
    have e23 := on_spec h26_.1 hu ht (by omega)
    have nf : 0 ≤ r23_.toInt ∧ ¬ FrM (occ b q) (M.1 (12, 0, 0) 7).toInt r23_.toInt := by
      rw [e23]
      rcases E with E | E
      · exact E.2.2.2
      · omega
    have kk := x12kindIn hs32_ hO ⟨nf.1, by omega⟩ (by omega) nf.2 hD
    have kb2 := kindS_b (n := M.1 (50, 0, 0)) (o := occ b q) (x := r23_.toInt) hD.2.1
    have ee := x12ears hs22_ ⟨hv.1, by omega⟩
    have hh := x12isHeard hs52_ hD hx (by omega) ht (by omega)
    rw [ee, kk, e23, e36_, e42_, show j37_ = 183 + 9 * v.toInt.toNat by omega, show j43_ = 184 + 9 * v.toInt.toNat by omega] at hh
    rcases h with ⟨h53_, hr_, -⟩ | ⟨h53_, hr_, -⟩
    · exact Or.inr ⟨by rw [hr_]; exact il_0, (hh.resolve_left (fun q => by omega)).2⟩
    · exact Or.inl ⟨by rw [hr_], (hh.resolve_right (fun q => by omega)).2⟩
end
section
/-! what is kept -/
theorem LWR_keep {b : Nat} {q q2 : rf → Nat → Int32} {n n2 : Nat → Int32} (h : LWR b q n) (hq : ∀ (r k : Nat), r = 10 ∧ k = 7 ∨ r = 2 ∨ r = 26 ∨ r = 27 → q2 (r, b, 0) k = q (r, b, 0) k) (hn : ∀ j, j = 0 ∨ (6 ≤ j ∧ j < 20) → n2 j = n j) : LWR b q2 n2 :=
  ⟨by rw [hq 10 7 (by simp), hn 0 (by omega)]; exact h.1, fun k hk => by rw [hq 2 k (by simp), hn _ (by omega)]; exact h.2.1 k hk, fun k hk => by rw [hq 26 k (by simp), hq 27 k (by simp), hn _ (by omega), hn _ (by omega)]; exact h.2.2 k hk⟩
theorem THR_keep {b : Nat} {q q2 : rf → Nat → Int32} {n n2 : Nat → Int32} (h : THR b q n) (hb : nTh n ≤ 40) (hq : ∀ (r k : Nat), r = 7 ∧ k = 5 ∨ r = 36 ∨ r = 37 ∨ r = 38 ∨ r = 39 → q2 (r, b, 0) k = q (r, b, 0) k) (hn : ∀ j, j = 1 ∨ (20 ≤ j ∧ j < 180) → n2 j = n j) : THR b q2 n2 := by
  have e : nTh n2 = nTh n := by unfold nTh; rw [hn 1 (by omega)]
  refine ⟨by rw [hq 7 5 (by simp), hn 1 (by omega)]; exact h.1, fun t ht => ?_⟩
  rw [e] at ht
  rw [hq 36 t (by simp), hq 37 t (by simp), hq 38 t (by simp), hq 39 t (by simp), hn _ (by omega), hn _ (by omega), hn _ (by omega), hn _ (by omega)]
  exact h.2 t ht
theorem WAR_keep {b : Nat} {q q2 : rf → Nat → Int32} {n n2 : Nat → Int32} (h : WAR b q n) (hb : nWa n ≤ 8) (hq : ∀ (r w k : Nat), r = 9 ∨ r = 40 ∨ r = 41 → q2 (r, b, w) k = q (r, b, w) k) (hc : q2 (10, b, 0) 6 = q (10, b, 0) 6) (hn : ∀ j, j = 2 ∨ (180 ≤ j ∧ j < 252) ∨ (495 ≤ j ∧ j < 3567) → n2 j = n j) : WAR b q2 n2 := by
  have e : nWa n2 = nWa n := by unfold nWa; rw [hn 2 (by omega)]
  refine ⟨by rw [hc, hn 2 (by omega)]; exact h.1, fun w hw => ?_⟩
  rw [e] at hw
  refine ⟨fun k hk => ?_, fun c hc => ?_⟩
  · rw [hq 9 w k (by simp), hn _ (by omega)]; exact (h.2 w hw).1 k hk
  · rw [hq 40 w c (by simp), hq 41 w c (by simp), hn _ (by omega), hn _ (by omega)]; exact (h.2 w hw).2 c hc
theorem TXR_keep {b : Nat} {q q2 : rf → Nat → Int32} {n n2 : Nat → Int32} (h : TXR b q n) (hz : ∀ u, u < 3 → (n (345 + 50 * u)).toInt ≤ 48) (hq : ∀ (r u k : Nat), r = 1 ∨ r = 24 → u < 3 → q2 (r, b, u) k = q (r, b, u) k) (hn : ∀ j, 345 ≤ j → j < 495 → n2 j = n j) : TXR b q2 n2 := fun u hu => by
  have hs := hz u hu
  rw [hq 1 u 2 (by simp) hu, hn _ (by omega) (by omega)]
  refine ⟨(h u hu).1, fun i hi => ?_⟩
  rw [hq 24 u i (by simp) hu, hn _ (by omega) (by omega)]
  exact (h u hu).2 i hi
theorem OCC_keep {b : Nat} {q q2 : rf → Nat → Int32} {n n2 : Nat → Int32} (h : OCC b q n) (ht : nTh n ≤ 40) (hw : nWa n ≤ 8) (hq : ∀ k, q2 (35, b, 0) k = q (35, b, 0) k) (hn1 : ∀ j, j = 1 ∨ (20 ≤ j ∧ j < 180 ∧ j % 4 = 1) → n2 j = n j) (hn2 : ∀ j, j = 2 ∨ (180 ≤ j ∧ j < 252 ∧ j % 9 = 1) → n2 j = n j) : OCC b q2 n2 := by
  have eo : occ b q2 = occ b q := funext fun k => by unfold occ; rw [hq]
  have et : nTh n2 = nTh n := by unfold nTh; rw [hn1 1 (by omega)]
  have ew : nWa n2 = nWa n := by unfold nWa; rw [hn2 2 (by omega)]
  have tc : ∀ t : Nat, (t : Int) < nTh n → tcl n2 t = tcl n t := fun t h => by unfold tcl; rw [hn1 _ (by omega)]
  have wc : ∀ t : Nat, (t : Int) < nWa n → wcl n2 t = wcl n t := fun t h => by unfold wcl; rw [hn2 _ (by omega)]
  obtain ⟨h1, h2, h3⟩ := h
  unfold OCC
  rw [eo, et, ew]
  refine ⟨fun t a c => ?_, fun w a => ?_, fun c hc => ?_⟩
  · rw [tc t a] at c ⊢; exact h1 t a c
  · rw [wc w a]; exact h2 w a
  · rcases h3 c hc with o | ⟨o1, o2, o3⟩ | ⟨o1, o2, o3⟩
    · exact Or.inl o
    · exact Or.inr (Or.inl ⟨o1, o2, by rw [tc _ (by omega)]; exact o3⟩)
    · exact Or.inr (Or.inr ⟨o1, o2, by rw [wc _ (by omega)]; exact o3⟩)
theorem MIR_keep {n n2 : Nat → Int32} (h : MIR n) (ht : nTh n ≤ 40) (hb : nWa n ≤ 8) (hn : ∀ j, j = 1 ∨ j = 2 ∨ (20 ≤ j ∧ j < 180 ∧ (j % 4 = 0 ∨ j % 4 = 3)) ∨ (180 ≤ j ∧ j < 252 ∧ (j % 9 = 3 ∨ j % 9 = 4)) → n2 j = n j) (hz : ∀ w : Nat, nWa n ≤ (w : Int) → w < 8 → (∀ k, k < 9 → n2 (180 + 9 * w + k) = n (180 + 9 * w + k)) ∧ (∀ c, c < 384 → n2 (495 + 384 * w + c) = n (495 + 384 * w + c))) : MIR n2 := by
  have et : nTh n2 = nTh n := by unfold nTh; rw [hn 1 (by omega)]
  have ew : nWa n2 = nWa n := by unfold nWa; rw [hn 2 (by omega)]
  obtain ⟨h1, h2, h3⟩ := h
  unfold MIR
  rw [et, ew]
  refine ⟨fun w hw => ?_, fun t hh => ?_, fun w a c => ⟨fun k hk => ?_, fun k hk => ?_⟩⟩
  · rw [hn _ (by omega), hn _ (by omega)]; exact h1 w hw
  · rw [hn _ (by omega), hn _ (by omega)]; exact h2 t hh
  · rw [(hz w a c).1 k hk]; exact (h3 w a c).1 k hk
  · rw [(hz w a c).2 k hk]; exact (h3 w a c).2 k hk
theorem TXz {n : Nat → Int32} (h : NW5 n) : ∀ u, u < 3 → (n (345 + 50 * u)).toInt ≤ 48 := fun u hu => by
  obtain ⟨m, D, h1, h2, h3⟩ := h.2 u hu
  omega
/-- scratch cells of the class change -/
theorem WRR_q {b : Nat} {q q2 : rf → Nat → Int32} {n : Nat → Int32} (h : WRR b q n) (hN : NW5 n) (hq : ∀ (c : rf) (k : Nat), c.1 ≠ 25 → c.1 ≠ 29 → q2 c k = q c k) : WRR b q2 n :=
  ⟨LWR_keep h.1 (fun r k hr => hq _ _ (by dsimp only; omega) (by dsimp only; omega)) (fun _ _ => rfl),
   THR_keep h.2.1 (nTh_b hN).2 (fun r k hr => hq _ _ (by dsimp only; omega) (by dsimp only; omega)) (fun _ _ => rfl),
   WAR_keep h.2.2.1 (nWa_b hN).2 (fun r w k hr => hq _ _ (by dsimp only; omega) (by dsimp only; omega)) (hq _ _ (by first | decide | simp | (dsimp only; omega)) (by first | decide | simp | (dsimp only; omega))) (fun _ _ => rfl),
   TXR_keep h.2.2.2.1 (TXz hN) (fun r u k hr hu => hq _ _ (by dsimp only; omega) (by dsimp only; omega)) (fun _ _ _ => rfl),
   OCC_keep h.2.2.2.2.1 (nTh_b hN).2 (nWa_b hN).2 (fun k => hq _ _ (by first | decide | simp | (dsimp only; omega)) (by first | decide | simp | (dsimp only; omega))) (fun _ _ => rfl) (fun _ _ => rfl), h.2.2.2.2.2⟩
theorem updN {f : Nat → Int32} {k j : Nat} {x : Int32} (h : ¬ j = k) : upd f k x j = f j := if_neg h
theorem updE {f : Nat → Int32} {k j : Nat} {x : Int32} (h : j = k) : upd f k x j = x := if_pos h
/-! two loops that go along with each other -/
theorem RTC_cnt {α : Type} {S : α → α → Prop} {f : α → Int} {N : Int} (hS : ∀ x z, S x z → f x < N ∧ f z = f x + 1) {a : α} : ∀ (n : Nat) (z : α), RTC S a n z → f z = f a + n ∧ (0 < n → f z ≤ N)
  | 0, z, h => by
    have e : a = z := h
    subst e
    exact ⟨by omega, fun q => absurd q (Nat.lt_irrefl 0)⟩
  | n + 1, z, h => by
    obtain ⟨x, h1, h2⟩ := h
    have ih := RTC_cnt hS n x h1
    have s := hS x z h2
    exact ⟨by omega, fun _ => by omega⟩
theorem lock {α β : Type} {S : α → α → Prop} {T : β → β → Prop} (f : α → Int) (g : β → Int) (R : α → β → Prop) (N : Int) {a z : α} {b w : β} (ha : RCH S a z) (hb : RCH T b w)
    (hS : ∀ x z, S x z → f x < N ∧ f z = f x + 1) (hT : ∀ x z, T x z → g x < N ∧ g z = g x + 1) (h0 : R a b) (hf : f a = g b) (hz : N ≤ f z) (hw : N ≤ g w)
    (hst : ∀ x z y w, R x y → f x = g y → S x z → T y w → R z w) : R z w := by
  obtain ⟨n, hn⟩ := ha
  obtain ⟨m, hm⟩ := hb
  have c1 := RTC_cnt hS _ _ hn
  have c2 := RTC_cnt hT _ _ hm
  have e : n = m := by
    rcases Nat.eq_zero_or_pos n with q | q <;> rcases Nat.eq_zero_or_pos m with p | p
    · omega
    · have := c2.2 p; omega
    · have := c1.2 q; omega
    · have := c2.2 p; have := c1.2 q; omega
  subst e
  clear c1 c2 hz hw
  induction n generalizing z w with
  | zero =>
    have e1 : a = z := hn
    have e2 : b = w := hm
    subst e1 e2
    exact h0
  | succ n ih =>
    obtain ⟨x, h1, h2⟩ := hn
    obtain ⟨y, g1, g2⟩ := hm
    have d1 := (RTC_cnt hS _ _ h1).1
    have d2 := (RTC_cnt hT _ _ g1).1
    exact hst x z y w (ih h1 g1) (by omega) h2 g2
end
section
/-! things go on -/
theorem OCC_move {b : Nat} {q q2 : rf → Nat → Int32} {n : Nat → Int32} {t : Nat} {x : Int32} {to c0 : Nat} (h : OCC b q n) (hN : nTh n ≤ 40) (hW : nWa n ≤ 8) (ht : (t : Int) < nTh n) (h0 : tcl n t = (c0 : Int)) (hx : x.toInt = (to : Int)) (hto : to < 192) (hf : occ b q to = -1)
    (ho : ∀ k, occ b q2 k = if k = to then (t : Int) else if k = c0 then -1 else occ b q k) : OCC b q2 (upd n (21 + 4 * t) x) := by
  obtain ⟨h1, h2, h3⟩ := h
  have o0 := h1 t ht (by omega)
  rw [h0, Int.toNat_natCast] at o0
  have et : nTh (upd n (21 + 4 * t) x) = nTh n := by unfold nTh; rw [updN (by omega)]
  have ew : nWa (upd n (21 + 4 * t) x) = nWa n := by unfold nWa; rw [updN (by omega)]
  have tE : tcl (upd n (21 + 4 * t) x) t = (to : Int) := by unfold tcl; rw [updE rfl]; exact hx
  have tN : ∀ s : Nat, ¬ s = t → tcl (upd n (21 + 4 * t) x) s = tcl n s := fun s hs => by unfold tcl; rw [updN (by omega)]
  have wN : ∀ w : Nat, wcl (upd n (21 + 4 * t) x) w = wcl n w := fun w => by unfold wcl; rw [updN (by omega)]
  unfold OCC
  rw [et, ew]
  refine ⟨fun s hs hp => ?_, fun w hw => ?_, fun c hc => ?_⟩
  · by_cases e : s = t
    · rw [e, tE, ho, if_pos (by omega)]
    · rw [tN s e] at hp ⊢
      have g := h1 s hs hp
      rw [ho, if_neg (fun z => by rw [z] at g; omega), if_neg (fun z => by rw [z] at g; omega)]
      exact g
  · rw [wN]
    have g := h2 w hw
    rw [ho, if_neg (fun z => by rw [z] at g; omega), if_neg (fun z => by rw [z] at g; omega)]
    exact g
  · rw [ho]
    by_cases e : c = to
    · rw [if_pos e]
      exact Or.inr (Or.inl ⟨by omega, ht, by rw [Int.toNat_natCast, tE, e]⟩)
    · rw [if_neg e]
      by_cases e2 : c = c0
      · rw [if_pos e2]; exact Or.inl rfl
      · rw [if_neg e2]
        rcases h3 c hc with o | ⟨o1, o2, o3⟩ | ⟨o1, o2, o3⟩
        · exact Or.inl o
        · refine Or.inr (Or.inl ⟨o1, o2, ?_⟩)
          rw [tN _ (fun z => by rw [z, h0] at o3; omega)]
          exact o3
        · exact Or.inr (Or.inr ⟨o1, o2, by rw [wN]; exact o3⟩)
theorem THR_one {b : Nat} {q q2 : rf → Nat → Int32} {n : Nat → Int32} {t f : Nat} {x : Int32} (h : THR b q n) (hN : nTh n ≤ 40) (hf : f < 4) (h7 : q2 (7, b, 0) 5 = q (7, b, 0) 5) (hq : ∀ g k, g < 4 → q2 (36 + g, b, 0) k = if g = f ∧ k = t then x else q (36 + g, b, 0) k) : THR b q2 (upd n (20 + 4 * t + f) x) := by
  have et : nTh (upd n (20 + 4 * t + f) x) = nTh n := by unfold nTh; rw [updN (by omega)]
  refine ⟨by rw [h7, updN (by omega)]; exact h.1, fun s hs => ?_⟩
  rw [et] at hs
  have g := h.2 s hs
  have one : ∀ g, g < 4 → q (36 + g, b, 0) s = n (20 + g + 4 * s) → q2 (36 + g, b, 0) s = upd n (20 + 4 * t + f) x (20 + g + 4 * s) := fun g hg e => by
    rw [hq g s hg]
    by_cases z : g = f ∧ s = t
    · rw [if_pos z, updE (by omega)]
    · rw [if_neg z, updN (by omega)]; exact e
  exact ⟨one 0 (by omega) g.1, one 1 (by omega) g.2.1, one 2 (by omega) g.2.2.1, one 3 (by omega) g.2.2.2⟩
/-- a thing turns about -/
theorem WRR_turn {b : Nat} {M D : mM} {t : Nat} {x : Int32} (h : WRR b M.1 (D.1 (50, 0, 0))) (hN : NW5 (D.1 (50, 0, 0))) (ht : (t : Int) < nTh (D.1 (50, 0, 0))) : WRR b (up M (38, b, 0) t x).1 ((up D (50, 0, 0) (22 + 4 * t) x).1 (50, 0, 0)) := by
  have b1 := nTh_b hN
  have b2 := nWa_b hN
  rw [up_row]
  have nn : ∀ j, ¬ j = 22 + 4 * t → upd (D.1 (50, 0, 0)) (22 + 4 * t) x j = D.1 (50, 0, 0) j := fun j hj => updN hj
  refine ⟨LWR_keep h.1 (fun r k hr => zupR rfl (by dsimp only; omega)) (fun j hj => nn j (by omega)), ?_, WAR_keep h.2.2.1 b2.2 (fun r w k hr => zupR rfl (by dsimp only; omega)) (zupR rfl (by first | decide | simp | (dsimp only; omega))) (fun j hj => nn j (by omega)),
    TXR_keep h.2.2.2.1 (TXz hN) (fun r u k hr hu => zupR rfl (by dsimp only; omega)) (fun j h1 h2 => nn j (by omega)), OCC_keep h.2.2.2.2.1 b1.2 b2.2 (fun k => zupR rfl (by simp)) (fun j hj => nn j (by omega)) (fun j hj => nn j (by omega)), MIR_keep h.2.2.2.2.2 b1.2 b2.2 (fun j hj => nn j (by omega)) (fun w h1 h2 => ⟨fun k hk => nn _ (by omega), fun c hc => nn _ (by omega)⟩)⟩
  have g := THR_one (q2 := (up M (38, b, 0) t x).1) (t := t) (f := 2) (x := x) h.2.1 b1.2 (by omega) (zupR rfl (by simp)) (fun g k hg => by
    by_cases e : g = 2 ∧ k = t
    · rw [if_pos e]; exact zupE rfl (by rw [e.1]) e.2
    · rw [if_neg e]; exact zupN rfl (fun z => e ⟨by have := congrArg (fun c : rf => c.1) z.1; dsimp only at this; omega, z.2⟩))
  rw [show 20 + 4 * t + 2 = 22 + 4 * t by omega] at g
  exact g
/-- a thing goes to the next cell -/
theorem WRR_move {b : Nat} {M D : mM} {t to c0 : Nat} {x i : Int32} (h : WRR b M.1 (D.1 (50, 0, 0))) (hN : NW5 (D.1 (50, 0, 0))) (ht : (t : Int) < nTh (D.1 (50, 0, 0))) (hi : i.toInt = (t : Int)) (h0 : tcl (D.1 (50, 0, 0)) t = (c0 : Int)) (hx : x.toInt = (to : Int)) (hto : to < 192) (hf : occ b M.1 to = -1) :
    WRR b (up (up (up M (35, b, 0) c0 (-1)) (35, b, 0) to i) (37, b, 0) t x).1 ((up D (50, 0, 0) (21 + 4 * t) x).1 (50, 0, 0)) := by
  have b1 := nTh_b hN
  have b2 := nWa_b hN
  rw [up_row]
  have nn : ∀ j, ¬ j = 21 + 4 * t → upd (D.1 (50, 0, 0)) (21 + 4 * t) x j = D.1 (50, 0, 0) j := fun j hj => updN hj
  have qq : ∀ (c : rf) (k : Nat), ¬ c.1 = 35 → ¬ c.1 = 37 → (up (up (up M (35, b, 0) c0 (-1)) (35, b, 0) to i) (37, b, 0) t x).1 c k = M.1 c k := fun c k h1 h2 => by
    rw [zupR rfl h2, zupR rfl h1, zupR rfl h1]
  refine ⟨LWR_keep h.1 (fun r k hr => qq _ _ (by dsimp only; omega) (by dsimp only; omega)) (fun j hj => nn j (by omega)), ?_, WAR_keep h.2.2.1 b2.2 (fun r w k hr => qq _ _ (by dsimp only; omega) (by dsimp only; omega)) (qq _ _ (by simp) (by simp)) (fun j hj => nn j (by omega)),
    TXR_keep h.2.2.2.1 (TXz hN) (fun r u k hr hu => qq _ _ (by dsimp only; omega) (by dsimp only; omega)) (fun j h1 h2 => nn j (by omega)), ?_, MIR_keep h.2.2.2.2.2 b1.2 b2.2 (fun j hj => nn j (by omega)) (fun w h1 h2 => ⟨fun k hk => nn _ (by omega), fun c hc => nn _ (by omega)⟩)⟩
  · have g := THR_one (q2 := (up (up (up M (35, b, 0) c0 (-1)) (35, b, 0) to i) (37, b, 0) t x).1) (t := t) (f := 1) (x := x) h.2.1 b1.2 (by omega) (qq _ _ (by simp) (by simp)) (fun g k hg => by
      by_cases e : g = 1 ∧ k = t
      · rw [if_pos e]; exact zupE rfl (by rw [e.1]) e.2
      · rw [if_neg e, zupN rfl (fun z => e ⟨by have := congrArg (fun c : rf => c.1) z.1; dsimp only at this; omega, z.2⟩), zupR rfl (by dsimp only; omega), zupR rfl (by dsimp only; omega)])
    rw [show 20 + 4 * t + 1 = 21 + 4 * t by omega] at g
    exact g
  · refine OCC_move h.2.2.2.2.1 b1.2 b2.2 ht h0 hx hto hf (fun k => ?_)
    unfold occ
    rw [zupR (c' := (35, b, 0)) rfl (by simp)]
    by_cases e : k = to
    · rw [if_pos e, zupE rfl rfl e]; exact hi
    · rw [if_neg e, zupN rfl (fun z => e z.2)]
      by_cases e2 : k = c0
      · rw [if_pos e2, zupE rfl rfl e2]; exact il_m1
      · rw [if_neg e2, zupN rfl (fun z => e2 z.2)]
theorem x7settle {b : Nat} {v u : Int32} {M M' : mM} (h : SP_X7_settle b v u M M') (hv : 0 ≤ v.toInt ∧ v.toInt ≤ 191) : M' = up M (35, b, 0) v.toInt.toNat u := by
  refine xE_SP_X7_settle h ⟨(fun hs5_ h4_ j9_ h10_ M7_ hM8_ hM_ => ?_), (fun hs5_ h4_ hM_ => ?_)⟩
  · obtain rfl : j9_ = v.toInt.toNat := by omega
    rw [hM_, hM8_]
  · omega
def goC (now step cell : Int32) : Prop := 0 ≤ cell.toInt ∧ 0 < step.toInt ∧ (now - now / step * step).toInt = 0
theorem thC {b : Nat} {now i i2 : Int32} {Mz M M' : mM} (h : ST_X7_letThingsGo_2 b now Mz i M i2 M') (hs : 0 ≤ (M.1 (38, b, 0) i.toInt.toNat).toInt ∧ (M.1 (38, b, 0) i.toInt.toNat).toInt ≤ 7) (hc : (M.1 (37, b, 0) i.toInt.toNat).toInt ≤ 191) :
    (¬ goC now (M.1 (39, b, 0) i.toInt.toNat) (M.1 (37, b, 0) i.toInt.toNat) ∧ M' = M) ∨ (goC now (M.1 (39, b, 0) i.toInt.toNat) (M.1 (37, b, 0) i.toInt.toNat) ∧ ∃ r : Int32, r.toInt = onI (M.1 (37, b, 0) i.toInt.toNat).toInt (M.1 (38, b, 0) i.toInt.toNat).toInt 1 ∧
      (((0 ≤ r.toInt ∧ r.toInt ≤ 191 ∧ occ b M.1 r.toInt.toNat = -1) ∧ M' = up (up (up M (35, b, 0) (M.1 (37, b, 0) i.toInt.toNat).toInt.toNat (-1)) (35, b, 0) r.toInt.toNat i) (37, b, 0) i.toInt.toNat r) ∨
       (¬ (0 ≤ r.toInt ∧ r.toInt ≤ 191 ∧ occ b M.1 r.toInt.toNat = -1) ∧ M' = up M (38, b, 0) i.toInt.toNat ((M.1 (38, b, 0) i.toInt.toNat + (4 : Int32)) &&& (7 : Int32))))) := by
  have q0 := il_0
  have q1 := il_1
  unfold goC
  refine xE_ST_X7_letThingsGo_2 h (fun hv0_2 _ hF_2 z2_ e3_ h4_ h5_ j8_ h9_ z6_ e7_ j12_ h13_ z10_ e11_ => ⟨(fun h14_ z15_ h16_ hq_v2_2y hM_ => ?_), (fun h14_ => ⟨(fun h17_ z18_ h19_ hq_v2_2y hM_ => ?_), (fun h17_ z20_ h21_ => ⟨(fun h22_ z23_ h24_ hq_v2_2y hM_ => ?_), (fun h22_ M25_ _ hF29_ hs31_ z32_ h33_ hq_v2_2y hM_ => ?_)⟩)⟩)⟩)
  · obtain rfl : j12_ = i.toInt.toNat := by omega
    have := eT e11_
    exact Or.inl ⟨by omega, hM_⟩
  · obtain rfl : j8_ = i.toInt.toNat := by omega
    have := eT e7_
    exact Or.inl ⟨by omega, hM_⟩
  · obtain rfl : j8_ = i.toInt.toNat := by omega
    rw [h21_, e7_] at h22_
    exact Or.inl ⟨by omega, hM_⟩
  · obtain rfl : j8_ = i.toInt.toNat := by omega
    obtain rfl : j12_ = i.toInt.toNat := by omega
    have y1 := eT e7_
    have y2 := eT e11_
    rw [h21_, e7_] at h22_
    refine Or.inr ⟨⟨by omega, by omega, h22_⟩, ?_⟩
    refine xE_SP_X7_letThingGo hs31_ ⟨(fun k_hs5_ k_h4_ k_j9_ k_h10_ k_z7_ k_e8_ k_j13_ k_h14_ k_z11_ k_e12_ k_r15_ k_hs19_ k_h18_ => ⟨(fun k_hs24_ k_h23_ k_j28_ k_h29_ k_z26_ k_e27_ k_M30_ _ k_hF34_ k_hs36_ k_M37_ _ k_hF41_ k_hs43_ k_j46_ k_h47_ k_M44_ k_hM45_ k_hM_ => ?_), (fun k_hs24_ k_j53_ k_h54_ k_z51_ k_e52_ k_z55_ k_h56_ k_z57_ k_h59_ k_h58_ k_j62_ k_h63_ k_M60_ k_hM61_ k_hM_ => ?_)⟩), (fun k_hs5_ k_hM_ => ?_)⟩
    · obtain rfl : k_j9_ = i.toInt.toNat := by omega
      obtain rfl : k_j13_ = i.toInt.toNat := by omega
      obtain rfl : k_j28_ = i.toInt.toNat := by omega
      obtain rfl : k_j46_ = i.toInt.toNat := by omega
      have cf := cF_spec k_hs19_
      rw [k_e8_, k_e12_] at cf
      have fr := x7free k_hs24_
      have r1 : k_r15_.toInt = onI (M.1 (37, b, 0) i.toInt.toNat).toInt (M.1 (38, b, 0) i.toInt.toNat).toInt 1 := by
        rcases cf with cf | cf
        · rw [cf.2, q1]
        · omega
      have s1 := x7settle k_hs36_ (by rw [k_e27_]; omega)
      have s2 := x7settle k_hs43_ k_h23_
      refine ⟨k_r15_, r1, Or.inl ⟨by omega, ?_⟩⟩
      rw [hM_, k_hM_, k_hM45_, s2, s1, k_e27_]
    · obtain rfl : k_j9_ = i.toInt.toNat := by omega
      obtain rfl : k_j13_ = i.toInt.toNat := by omega
      obtain rfl : k_j53_ = i.toInt.toNat := by omega
      obtain rfl : k_j62_ = i.toInt.toNat := by omega
      have cf := cF_spec k_hs19_
      rw [k_e8_, k_e12_] at cf
      have fr := x7free k_hs24_
      have r1 : k_r15_.toInt = onI (M.1 (37, b, 0) i.toInt.toNat).toInt (M.1 (38, b, 0) i.toInt.toNat).toInt 1 := by
        rcases cf with cf | cf
        · rw [cf.2, q1]
        · omega
      refine ⟨k_r15_, r1, Or.inr ⟨by omega, ?_⟩⟩
      rw [hM_, k_hM_, k_hM61_, k_h59_, k_h56_, k_e52_]
    · have g := x7has k_hs5_
      have y3 := eT e3_
      omega
def goD (now kind step cell : Int32) : Prop := 3 ≤ kind.toInt ∧ ¬ step.toInt = 0 ∧ 0 ≤ cell.toInt ∧ (now - now / step * step).toInt = 0
theorem thD {b : Nat} {q : rf → Nat → Int32} {i : Int32} {D D2 : mM} (h : SP_X12_thingGoes i D D2) (hO : OCC b q (D.1 (50, 0, 0))) (hu : (D.1 (12, 0, 0) 7).toInt = -1) (hi : 0 ≤ i.toInt ∧ i.toInt ≤ 39) :
    (¬ goD (D.1 (50, 0, 0) 0) (D.1 (50, 0, 0) (20 + 4 * i.toInt.toNat)) (D.1 (50, 0, 0) (23 + 4 * i.toInt.toNat)) (D.1 (50, 0, 0) (21 + 4 * i.toInt.toNat)) ∧ D2 = D) ∨
    (goD (D.1 (50, 0, 0) 0) (D.1 (50, 0, 0) (20 + 4 * i.toInt.toNat)) (D.1 (50, 0, 0) (23 + 4 * i.toInt.toNat)) (D.1 (50, 0, 0) (21 + 4 * i.toInt.toNat)) ∧ ∃ r : Int32, r.toInt = onI (D.1 (50, 0, 0) (21 + 4 * i.toInt.toNat)).toInt (D.1 (50, 0, 0) (22 + 4 * i.toInt.toNat)).toInt 1 ∧
      (((0 ≤ r.toInt ∧ r.toInt ≤ 191 ∧ occ b q r.toInt.toNat = -1) ∧ D2 = up D (50, 0, 0) (21 + 4 * i.toInt.toNat) r) ∨
       (¬ (0 ≤ r.toInt ∧ r.toInt ≤ 191 ∧ occ b q r.toInt.toNat = -1) ∧ D2 = up D (50, 0, 0) (22 + 4 * i.toInt.toNat) ((D.1 (50, 0, 0) (22 + 4 * i.toInt.toNat) + (4 : Int32)) &&& (7 : Int32))))) := by
  have q1 := il_1
  have q4 : (4 : Int32).toInt = 4 := by decide
  unfold goD
  unfold SP_X12_thingGoes at h
  obtain ⟨r1_, hs5_, h4_, z6_, h7_, j10_, h11_, z8_, e9_, r12_, hs16_, h15_, z17_, h18_, j21_, h22_, z19_, e20_, h23_, r24_, hs28_, h27_, z29_, h30_, j33_, h34_, z31_, e32_, h35_, h⟩ := h
  obtain rfl : j10_ = 23 + 4 * i.toInt.toNat := by omega
  obtain rfl : j21_ = 21 + 4 * i.toInt.toNat := by omega
  obtain rfl : j33_ = 20 + 4 * i.toInt.toNat := by omega
  rw [← e9_, ← e20_, ← e32_]
  rcases h with ⟨h36_, hM_⟩ | ⟨h36_, h⟩
  · exact Or.inl ⟨by omega, hM_⟩
  rcases h with ⟨h37_, hM_⟩ | ⟨h37_, h⟩
  · exact Or.inl ⟨by omega, hM_⟩
  rcases h with ⟨h38_, hM_⟩ | ⟨h38_, z39_, e40_, z41_, h42_, h⟩
  · exact Or.inl ⟨by omega, hM_⟩
  rw [← e40_, ← h42_]
  rcases h with ⟨h43_, r44_, hs48_, h47_, z49_, h50_, j53_, h54_, z51_, e52_, h55_, r56_, hs60_, h59_, h⟩ | ⟨h43_, hM_⟩
  · refine Or.inr ⟨⟨h36_, h37_, h38_, h43_⟩, r56_, ?_⟩
    obtain rfl : j53_ = 22 + 4 * i.toInt.toNat := by omega
    rw [← e52_]
    have on := on_spec h59_.1 ⟨h38_, h23_.2⟩ h55_ (by omega)
    rw [q1] at on
    refine ⟨on, ?_⟩
    have tn : ∀ {z a x j : Int32}, z = D.1 (50, 0, 0) (22 + 4 * i.toInt.toNat) → a.toInt = z.toInt + 4 → 0 ≤ z.toInt ∧ z.toInt ≤ 7 → x = a &&& (7 : Int32) → x = (z51_ + (4 : Int32)) &&& (7 : Int32) := fun {z a x j} hz ha hb hx => by
      have e : a = z51_ + (4 : Int32) := i32e (by rw [ha, addI (x := z51_) rfl q4 (by omega) (by omega), e52_, hz])
      rw [hx, e]
    rcases h with ⟨h61_, r62_, hs66_, h65_, z67_, h68_, r69_, hs73_, h72_, z74_, h75_, j78_, h79_, z76_, e77_, h80_, z81_, h82_, z83_, h85_, h84_, j88_, h89_, M86_, hM87_, hM_⟩ | ⟨h61_, r92_, hs96_, h95_, h⟩
    · refine Or.inr ⟨by omega, ?_⟩
      obtain rfl : j78_ = 22 + 4 * i.toInt.toNat := by omega
      obtain rfl : j88_ = 22 + 4 * i.toInt.toNat := by omega
      rw [hM_, hM87_, tn (j := 0) e77_ h82_ h80_ h85_]
    · have fr := x12free hs96_ hO (by omega) (by omega)
      rcases h with ⟨h97_, r98_, hs102_, h101_, z103_, h104_, r105_, hs109_, h108_, z110_, h111_, j114_, h115_, z112_, e113_, h116_, z117_, h118_, z119_, h121_, h120_, j124_, h125_, M122_, hM123_, hM_⟩ | ⟨h97_, r128_, hs132_, h131_, z133_, h134_, j137_, h138_, M135_, hM136_, hM_⟩
      · refine Or.inr ⟨by omega, ?_⟩
        obtain rfl : j114_ = 22 + 4 * i.toInt.toNat := by omega
        obtain rfl : j124_ = 22 + 4 * i.toInt.toNat := by omega
        rw [hM_, hM123_, tn (j := 0) e113_ h118_ h116_ h121_]
      · refine Or.inl ⟨by omega, ?_⟩
        obtain rfl : j137_ = 21 + 4 * i.toInt.toNat := by omega
        rw [hM_, hM136_]
  · exact Or.inl ⟨fun z => h43_ z.2.2.2, hM_⟩
theorem th_step {b : Nat} {now i i2 : Int32} {Mz M M' D D2 : mM} (h1 : ST_X7_letThingsGo_2 b now Mz i M i2 M') (h2 : SP_X12_thingGoes i D D2) (hR : WRR b M.1 (D.1 (50, 0, 0))) (hD : InvD D) (hu : (D.1 (12, 0, 0) 7).toInt = -1) (hnow : now = D.1 (50, 0, 0) 0) (hi : 0 ≤ i.toInt ∧ i.toInt < nTh (D.1 (50, 0, 0))) : WRR b M'.1 (D2.1 (50, 0, 0)) ∧ (∀ j, j < 20 → D2.1 (50, 0, 0) j = D.1 (50, 0, 0) j) ∧ ∀ (d : rf) (k : Nat), d.1 ≠ 50 → D2.1 d k = D.1 d k := by
  have b1 := nTh_b hD.2.1
  have T := hR.2.1.2 i.toInt.toNat (by omega)
  have P1 := ((hD.2.1.1 (21 + 4 * i.toInt.toNat)).2.2.2.2.2.2.1 (by omega) (by omega)).2.1 (by omega)
  have P2 := ((hD.2.1.1 (22 + 4 * i.toInt.toNat)).2.2.2.2.2.2.1 (by omega) (by omega)).2.2 (by omega)
  have MI := hR.2.2.2.2.2.2.1 i.toInt.toNat (by omega)
  have c := thC h1 (by rw [T.2.2.1]; exact P2) (by rw [T.2.1]; exact P1.2)
  have d := thD h2 hR.2.2.2.2.1 hu (by omega)
  rw [T.2.1, T.2.2.1, T.2.2.2, hnow] at c
  have go : goC (D.1 (50, 0, 0) 0) (D.1 (50, 0, 0) (23 + 4 * i.toInt.toNat)) (D.1 (50, 0, 0) (21 + 4 * i.toInt.toNat)) ↔ goD (D.1 (50, 0, 0) 0) (D.1 (50, 0, 0) (20 + 4 * i.toInt.toNat)) (D.1 (50, 0, 0) (23 + 4 * i.toInt.toNat)) (D.1 (50, 0, 0) (21 + 4 * i.toInt.toNat)) := by
    unfold goC goD
    omega
  rcases c with ⟨c1, c2⟩ | ⟨c1, r, c2, c3⟩ <;> rcases d with ⟨d1, d2⟩ | ⟨d1, r', d2, d3⟩
  · rw [c2, d2]; exact ⟨hR, fun _ _ => rfl, fun _ _ _ => rfl⟩
  · exact absurd (go.mpr d1) c1
  · exact absurd (go.mp c1) d1
  · obtain rfl : r = r' := i32e (c2.trans d2.symm)
    rcases c3 with ⟨c3, c4⟩ | ⟨c3, c4⟩ <;> rcases d3 with ⟨d3, d4⟩ | ⟨d3, d4⟩
    · rw [c4, d4]
      refine ⟨WRR_move hR hD.2.1 (by omega) (by omega) ?_ (by omega) (by omega) c3.2.2, fun j hj => by rw [up_row, updN (by omega)], fun d k hd => by rw [up_other _ _ (fun z => hd (by rw [z]))]⟩
      unfold tcl
      unfold goD at d1
      omega
    · exact absurd c3 d3
    · exact absurd d3 c3
    · rw [c4, d4]
      exact ⟨WRR_turn hR hD.2.1 (by omega), fun j hj => by rw [up_row, updN (by omega)], fun d k hd => by rw [up_other _ _ (fun z => hd (by rw [z]))]⟩
end
section
/-! a click: what a head keeps of it -/
def bmp (x k : Int32) : Int32 := Int32.ofInt (if 99 ≤ (x + k).toInt then 99 else (x + k).toInt)
theorem bmp_of {x k s z : Int32} (h1 : s = x + k) (h2 : (z.toInt = 99 ∧ 99 ≤ s.toInt) ∨ (z.toInt = s.toInt ∧ s.toInt ≤ 99)) : z = bmp x k := by
  unfold bmp
  refine ofIe ?_
  rw [← h1]
  split <;> omega
def noF (f : Nat → Int32) (c s : Int) : Nat → Nat → Int32
  | 0 => f
  | k + 1 => upd (noF f c s k) (onI c s ((k + 1 : Nat) : Int)).toNat (bmp (noF f c s k (onI c s ((k + 1 : Nat) : Int)).toNat) 1)
theorem noF_cong {f g : Nat → Int32} {c s : Int} (h : ∀ k, k < 192 → f k = g k) : ∀ m : Nat, (∀ j : Nat, 1 ≤ j → j ≤ m → 0 ≤ onI c s (j : Int)) → ∀ k, k < 192 → noF f c s m k = noF g c s m k
  | 0, _, k, hk => h k hk
  | m + 1, hp, k, hk => by
    have ih := noF_cong h m (fun j a d => hp j a (by omega))
    have p := hp (m + 1) (by omega) (Nat.le_refl _)
    have ob := onI_b (c := c) (s := s) (y := ((m + 1 : Nat) : Int))
    show upd _ _ _ k = upd _ _ _ k
    unfold upd
    split
    · rw [ih _ (by omega)]
    · exact ih k hk
theorem WRR_heads {b w : Nat} {q q2 : rf → Nat → Int32} {n n2 : Nat → Int32} (h : WRR b q n) (hN : NW5 n) (hw : (w : Int) < nWa n) (hq : ∀ (c : rf) (k : Nat), c.1 ≠ 25 → c.1 ≠ 29 → ¬ c = (40, b, w) → ¬ c = (41, b, w) → q2 c k = q c k) (hn : ∀ j, j < 495 + 384 * w ∨ 879 + 384 * w ≤ j → n2 j = n j)
    (hy : ∀ k, k < 192 → q2 (40, b, w) k = n2 (495 + 384 * w + k) ∧ q2 (41, b, w) k = n2 (687 + 384 * w + k)) : WRR b q2 n2 := by
  have b1 := nTh_b hN
  have b2 := nWa_b hN
  have qq : ∀ (r u k : Nat), r ≠ 25 → r ≠ 29 → r ≠ 40 → r ≠ 41 → q2 (r, b, u) k = q (r, b, u) k := fun r u k h1 h2 h3 h4 => hq _ _ h1 h2 (fun z => h3 (congrArg (fun c : rf => c.1) z)) (fun z => h4 (congrArg (fun c : rf => c.1) z))
  have ew : nWa n2 = nWa n := by unfold nWa; rw [hn 2 (by omega)]
  refine ⟨LWR_keep h.1 (fun r k hr => qq _ _ _ (by omega) (by omega) (by omega) (by omega)) (fun j hj => hn j (by omega)), THR_keep h.2.1 b1.2 (fun r k hr => qq _ _ _ (by omega) (by omega) (by omega) (by omega)) (fun j hj => hn j (by omega)), ?_,
    TXR_keep h.2.2.2.1 (TXz hN) (fun r u k hr hu => qq _ _ _ (by omega) (by omega) (by omega) (by omega)) (fun j h1 h2 => hn j (by omega)), OCC_keep h.2.2.2.2.1 b1.2 b2.2 (fun k => qq _ _ _ (by omega) (by omega) (by omega) (by omega)) (fun j hj => hn j (by omega)) (fun j hj => hn j (by omega)), MIR_keep h.2.2.2.2.2 b1.2 b2.2 (fun j hj => hn j (by omega)) (fun u h1 h2 => ⟨fun k hk => hn _ (by omega), fun c hc => hn _ (by omega)⟩)⟩
  refine ⟨by rw [qq _ _ _ (by omega) (by omega) (by omega) (by omega), hn 2 (by omega)]; exact h.2.2.1.1, fun u hu => ⟨fun k hk => ?_, fun c hc => ?_⟩⟩
  · rw [ew] at hu
    rw [qq _ _ _ (by omega) (by omega) (by omega) (by omega), hn _ (by omega)]; exact (h.2.2.1.2 u hu).1 k hk
  · rw [ew] at hu
    by_cases e : u = w
    · rw [e]; exact hy c hc
    · rw [hq (40, b, u) c (by simp) (by simp) (fun z => e (congrArg (fun c : rf => c.2.2) z)) (fun z => absurd (congrArg (fun c : rf => c.1) z) (by simp)), hq (41, b, u) c (by simp) (by simp) (fun z => absurd (congrArg (fun c : rf => c.1) z) (by simp)) (fun z => e (congrArg (fun c : rf => c.2.2) z)), hn _ (by omega), hn _ (by omega)]
      exact (h.2.2.1.2 u hu).2 c hc
/-- a number of a walker changes that isn't its cell, pitch or loudness -/
theorem WRR_wf {b w f : Nat} {M D : mM} {x : Int32} (h : WRR b M.1 (D.1 (50, 0, 0))) (hN : NW5 (D.1 (50, 0, 0))) (hw : (w : Int) < nWa (D.1 (50, 0, 0))) (hf : f < 9 ∧ f ≠ 1 ∧ f ≠ 3 ∧ f ≠ 4) : WRR b (up M (9, b, w) f x).1 ((up D (50, 0, 0) (180 + 9 * w + f) x).1 (50, 0, 0)) := by
  have b1 := nTh_b hN
  have b2 := nWa_b hN
  rw [up_row]
  have nn : ∀ j, ¬ j = 180 + 9 * w + f → upd (D.1 (50, 0, 0)) (180 + 9 * w + f) x j = D.1 (50, 0, 0) j := fun j hj => updN hj
  have ew : nWa (upd (D.1 (50, 0, 0)) (180 + 9 * w + f) x) = nWa (D.1 (50, 0, 0)) := by unfold nWa; rw [nn 2 (by omega)]
  refine ⟨LWR_keep h.1 (fun r k hr => zupR rfl (by dsimp only; omega)) (fun j hj => nn j (by omega)), THR_keep h.2.1 b1.2 (fun r k hr => zupR rfl (by dsimp only; omega)) (fun j hj => nn j (by omega)), ?_,
    TXR_keep h.2.2.2.1 (TXz hN) (fun r u k hr hu => zupR rfl (by dsimp only; omega)) (fun j h1 h2 => nn j (by omega)), OCC_keep h.2.2.2.2.1 b1.2 b2.2 (fun k => zupR rfl (by simp)) (fun j hj => nn j (by omega)) (fun j hj => nn j (by omega)), MIR_keep h.2.2.2.2.2 b1.2 b2.2 (fun j hj => nn j (by omega)) (fun u h1 h2 => ⟨fun k hk => nn _ (by omega), fun c hc => nn _ (by omega)⟩)⟩
  refine ⟨by rw [zupR rfl (by simp), nn 2 (by omega)]; exact h.2.2.1.1, fun u hu => ⟨fun k hk => ?_, fun c hc => ?_⟩⟩
  · rw [ew] at hu
    by_cases e : u = w ∧ k = f
    · rw [e.1, e.2, zupE rfl rfl rfl, updE rfl]
    · rw [zupN rfl (fun z => e ⟨congrArg (fun c : rf => c.2.2) z.1, z.2⟩), nn _ (by omega)]; exact (h.2.2.1.2 u hu).1 k hk
  · rw [ew] at hu
    rw [zupR rfl (by simp), zupR rfl (by simp), nn _ (by omega), nn _ (by omega)]
    exact (h.2.2.1.2 u hu).2 c hc
theorem RCH_F {α : Type} {S : α → α → Prop} {a z : α} (h : RCH S a z) (hS : ∀ x y, ¬ S x y) : z = a := rind h (fun z => z = a) rfl (fun x y _ s => (hS x y s).elim)
theorem HyP_pos {n : Nat → Int32} {o : Nat → Int} {w : Nat} {c s : Int32} {r : Int} (h : HyP n o w c s r) (hr : ¬ r = 0) : 1 ≤ r ∧ r ≤ reachI (n (180 + 9 * w)).toInt ∧ ∀ j : Int, 1 ≤ j → j ≤ r → 0 ≤ onI c.toInt s.toInt j := by
  obtain ⟨y, E, d⟩ := h
  have e : r = y.toInt ∧ ¬ y.toInt = 0 := by
    rcases d with d | ⟨d, d2 | d2⟩
    · omega
    · exact ⟨d2.1, d⟩
    · omega
  rcases E with E | E
  · rw [e.1]
    refine ⟨E.1, E.2.1, fun j h1 h2 => ?_⟩
    by_cases z : j = y.toInt
    · rw [z]; exact E.2.2.2.1
    · exact (E.2.2.1 j h1 (by omega)).1
  · exact absurd E.1 e.2
theorem x9addYes {b w : Nat} {v u : Int32} {M M' : mM} (h : SP_X9_addYes b w v u M M') (hv : 0 ≤ v.toInt ∧ v.toInt ≤ 191) : M' = up M (40, b, w) v.toInt.toNat (bmp (M.1 (40, b, w) v.toInt.toNat) u) := by
  refine xE_SP_X9_addYes h ⟨(fun hs5_ h4_ j9_ h10_ z7_ e8_ z11_ h12_ z13_ h14_ j17_ h18_ M15_ hM16_ hM_ => ?_), (fun hs5_ h4_ hM_ => ?_)⟩
  · obtain rfl : j9_ = v.toInt.toNat := by omega
    obtain rfl : j17_ = v.toInt.toNat := by omega
    rw [hM_, hM16_, bmp_of h12_ h14_, e8_]
  · omega
theorem x9addNo {b w : Nat} {v : Int32} {M M' : mM} (h : SP_X9_addNo b w v M M') (hv : 0 ≤ v.toInt ∧ v.toInt ≤ 191) : M' = up M (41, b, w) v.toInt.toNat (bmp (M.1 (41, b, w) v.toInt.toNat) 1) := by
  refine xE_SP_X9_addNo h ⟨(fun hs5_ h4_ j9_ h10_ z7_ e8_ z11_ h12_ z13_ h14_ j17_ h18_ M15_ hM16_ hM_ => ?_), (fun hs5_ h4_ hM_ => ?_)⟩
  · obtain rfl : j9_ = v.toInt.toNat := by omega
    obtain rfl : j17_ = v.toInt.toNat := by omega
    rw [hM_, hM16_, bmp_of h12_ h14_, e8_]
  · omega
theorem x12more {v u : Int32} {M M' : mM} (h : SP_X12_more v u M M') : M' = up M (50, 0, 0) v.toInt.toNat (bmp (M.1 (50, 0, 0) v.toInt.toNat) u) := by
  refine xE_SP_X12_more h (fun j3_ h4_ z1_ e2_ z5_ h6_ z7_ h8_ j11_ h12_ M9_ hM10_ hM_ => ?_)
  obtain rfl : j3_ = v.toInt.toNat := by omega
  obtain rfl : j11_ = v.toInt.toNat := by omega
  rw [hM_, hM10_, bmp_of h6_ h8_, e2_]
/-- the class's inner loop -/
theorem clCi {b w : Nat} {Mz M0 : mM} {s r c : Int32} {z : Int32 × mM} (h : RCH (fun x_ y_ => ST_X10_makeClick_79b b Mz w s r x_.1 x_.2 y_.1 y_.2) ((1 : Int32), M0) z) (hc : M0.1 (9, b, w) 1 = c) (cb : 0 ≤ c.toInt ∧ c.toInt ≤ 191) (hs : 0 ≤ s.toInt ∧ s.toInt ≤ 7) (hr : 1 ≤ r.toInt ∧ r.toInt ≤ 12) (hp : ∀ j : Int, 1 ≤ j → j ≤ r.toInt → 0 ≤ onI c.toInt s.toInt j) :
    1 ≤ z.1.toInt ∧ z.1.toInt ≤ r.toInt ∧ z.2.1 (41, b, w) = noF (M0.1 (41, b, w)) c.toInt s.toInt (z.1.toInt.toNat - 1) ∧ ∀ (d : rf) (k : Nat), ¬ d = (41, b, w) → z.2.1 d k = M0.1 d k := by
  have q1 := il_1
  refine rind h (fun z => 1 ≤ z.1.toInt ∧ z.1.toInt ≤ r.toInt ∧ z.2.1 (41, b, w) = noF (M0.1 (41, b, w)) c.toInt s.toInt (z.1.toInt.toNat - 1) ∧ ∀ (d : rf) (k : Nat), ¬ d = (41, b, w) → z.2.1 d k = M0.1 d k) ⟨by dsimp only; omega, by dsimp only; omega, by dsimp only; rw [il_1]; rfl, fun _ _ _ => rfl⟩ (fun x z p st => ?_)
  obtain ⟨x1, x2⟩ := x
  obtain ⟨z1, z2⟩ := z
  (try dsimp only at p st ⊢)
  obtain ⟨p1, p2, p3, p4⟩ := p
  refine xE_ST_X10_makeClick_79b st (fun k_hv0_79 _ k_hF_79 k_h52_ k_z55_ k_e56_ k_r57_ k_hs61_ k_h60_ k_M62_ _ k_hF66_ k_hs68_ k_z69_ k_h70_ k_hq_v6_79y k_hM_ => ?_)
  have e1 : k_z55_ = c := by rw [k_e56_, p4 _ _ (by simp)]; exact hc
  have cf := cF_spec k_hs61_
  rw [e1] at cf
  have pos := hp x1.toInt p1 (by omega)
  have er : k_r57_.toInt = onI c.toInt s.toInt x1.toInt := by omega
  have ad := x9addNo k_hs68_ (by omega)
  rw [k_hq_v6_79y, k_hM_]
  refine ⟨by omega, by omega, ?_, fun d k hd => ?_⟩
  · obtain ⟨m, hm⟩ : ∃ m : Nat, x1.toInt = ((m + 1 : Nat) : Int) := ⟨x1.toInt.toNat - 1, by omega⟩
    rw [show k_z69_.toInt.toNat - 1 = m + 1 by omega, ad, up_row, p3, show x1.toInt.toNat - 1 = m by omega, er, hm]
    rfl
  · rw [ad, up_other _ _ hd]; exact p4 d k hd
/-- the class, one side -/
theorem clC {b : Nat} {v s cnt s2 cnt2 : Int32} {Mz M M' : mM} {n : Nat → Int32} (h : ST_X10_makeClick_32 b v Mz v.toInt.toNat s cnt M s2 cnt2 M') (hR : WRR b M.1 n) (hN : NW5 n) (hv : 0 ≤ v.toInt ∧ v.toInt < nWa n) :
    ∃ r : Int32, HyP n (occ b M.1) v.toInt.toNat (n (181 + 9 * v.toInt.toNat)) s r.toInt ∧ 0 ≤ r.toInt ∧ r.toInt ≤ 12 ∧ (∀ (c : rf) (k : Nat), c.1 ≠ 25 → c.1 ≠ 29 → ¬ c = (40, b, v.toInt.toNat) → ¬ c = (41, b, v.toInt.toNat) → M'.1 c k = M.1 c k) ∧
      ((r.toInt = 0 ∧ cnt2 = cnt ∧ (∀ k, M'.1 (40, b, v.toInt.toNat) k = M.1 (40, b, v.toInt.toNat) k ∧ M'.1 (41, b, v.toInt.toNat) k = M.1 (41, b, v.toInt.toNat) k)) ∨
       (0 < r.toInt ∧ cnt2 = cnt + Int32.ofInt 1 ∧ M'.1 (40, b, v.toInt.toNat) = upd (M.1 (40, b, v.toInt.toNat)) (onI (n (181 + 9 * v.toInt.toNat)).toInt s.toInt r.toInt).toNat (bmp (M.1 (40, b, v.toInt.toNat) (onI (n (181 + 9 * v.toInt.toNat)).toInt s.toInt r.toInt).toNat) 1) ∧ M'.1 (41, b, v.toInt.toNat) = noF (M.1 (41, b, v.toInt.toNat)) (n (181 + 9 * v.toInt.toNat)).toInt s.toInt (r.toInt.toNat - 1))) := by
  have nw := nWa_b hN
  have w1 := (hR.2.2.1.2 v.toInt.toNat (by omega)).1 1 (by omega)
  rw [show 180 + 9 * v.toInt.toNat + 1 = 181 + 9 * v.toInt.toNat by omega] at w1
  have cb := ((hN.1 (181 + 9 * v.toInt.toNat)).2.2.2.2.2.2.2 (by omega) (by omega)).2.1 (by omega)
  unfold ST_X10_makeClick_32 at h
  obtain ⟨hv0_32, hv1_32, hI_32, hF_32, h19_, z20_, e21_, M23_, hI26_, hF27_, r22_, hs29_, h25_, h⟩ := h
  have ez : z20_ = n (181 + 9 * v.toInt.toNat) := e21_.trans w1
  have sb : 0 ≤ s.toInt ∧ s.toInt ≤ 7 := by omega
  have Y := x10heard hs29_ hR hN hv (by rw [ez]; exact cb) sb
  rw [ez] at Y
  have k23 : ∀ (c : rf) (k : Nat), c.1 ≠ 25 → c.1 ≠ 29 → M23_.1 c k = M.1 c k := fun c k h1 h2 => hF27_ c k (fun q => by simp only [S_c_X10_heardYards, or_false] at q; omega)
  refine ⟨r22_, Y, h25_.1, h25_.2, ?_⟩
  rcases h with ⟨h30_, v6_79, hv0_79, M_79, hL_79, hI_79, hF_79, h32_, z33_, h34_, e1, e2, e3⟩ | ⟨h30_, z35_, h36_, z37_, e38_, r39_, hs43_, h42_, M44_, hI47_, hF48_, hs50_, v6_79, hv0_79, M_79, hL_79, hI_79, hF_79, h52_, z53_, h54_, e1, e2, e3⟩
  · have em : M_79 = M23_ := congrArg (fun z : Int32 × mM => z.2) (RCH_F hL_79 (fun x y q => q))
    rw [e3, em]
    exact ⟨fun c k h1 h2 _ _ => k23 c k h1 h2, Or.inl ⟨by omega, e2, fun k => ⟨k23 _ _ (by simp) (by simp), k23 _ _ (by simp) (by simp)⟩⟩⟩
  · have ps := HyP_pos Y (by omega)
    have e37 : z37_ = n (181 + 9 * v.toInt.toNat) := by rw [e38_, k23 _ _ (by simp) (by simp)]; exact w1
    have cf := cF_spec hs43_
    rw [e37] at cf
    have pos := ps.2.2 r22_.toInt (by omega) (by omega)
    have er : r39_.toInt = onI (n (181 + 9 * v.toInt.toNat)).toInt s.toInt r22_.toInt := by omega
    have ad := x9addYes hs50_ (by omega)
    have inn := clCi hL_79 (c := n (181 + 9 * v.toInt.toNat)) (by rw [ad, up_other _ _ (by simp), k23 _ _ (by simp) (by simp)]; exact w1) cb sb (by omega) ps.2.2
    (try dsimp only at inn)
    obtain ⟨i1, i2, i3, i4⟩ := inn
    have r40 : M23_.1 (40, b, v.toInt.toNat) = M.1 (40, b, v.toInt.toNat) := funext fun k => k23 _ _ (by simp) (by simp)
    have r41 : M23_.1 (41, b, v.toInt.toNat) = M.1 (41, b, v.toInt.toNat) := funext fun k => k23 _ _ (by simp) (by simp)
    rw [e3]
    refine ⟨fun c k h1 h2 h3 h4 => by rw [i4 c k h4, ad, up_other _ _ h3]; exact k23 c k h1 h2, Or.inr ⟨h30_, by rw [e2]; exact h36_, ?_, ?_⟩⟩
    · rw [funext (fun k => i4 (40, b, v.toInt.toNat) k (by simp)), ad, up_row, r40, er]
    · rw [i3, ad, up_other _ _ (by simp), r41, show v6_79.toInt.toNat = r22_.toInt.toNat by omega]
/-- the model's inner loop -/
theorem clDi {v : Int32} {Mz D0 : mM} {s r c : Int32} {z : Int32 × mM} (h : RCH (fun x_ y_ => ST_X12_clicks_55 v Mz c s r x_.1 x_.2 y_.1 y_.2) ((1 : Int32), D0) z) (hv : 0 ≤ v.toInt ∧ v.toInt ≤ 7) (cb : 0 ≤ c.toInt ∧ c.toInt ≤ 191) (hs : 0 ≤ s.toInt ∧ s.toInt ≤ 7) (hr : 0 ≤ r.toInt ∧ r.toInt ≤ 12) (hp : ∀ j : Int, 1 ≤ j → j ≤ r.toInt → 0 ≤ onI c.toInt s.toInt j) :
    1 ≤ z.1.toInt ∧ (z.1.toInt ≤ r.toInt ∨ z.1.toInt = 1) ∧ (∀ k, k < 192 → z.2.1 (50, 0, 0) (687 + 384 * v.toInt.toNat + k) = noF (fun j => D0.1 (50, 0, 0) (687 + 384 * v.toInt.toNat + j)) c.toInt s.toInt (z.1.toInt.toNat - 1) k) ∧ (∀ j, j < 687 + 384 * v.toInt.toNat ∨ 879 + 384 * v.toInt.toNat ≤ j → z.2.1 (50, 0, 0) j = D0.1 (50, 0, 0) j) ∧ ∀ (d : rf) (k : Nat), ¬ d = (50, 0, 0) → z.2.1 d k = D0.1 d k := by
  have q1 := il_1
  refine rind h (fun z => 1 ≤ z.1.toInt ∧ (z.1.toInt ≤ r.toInt ∨ z.1.toInt = 1) ∧ (∀ k, k < 192 → z.2.1 (50, 0, 0) (687 + 384 * v.toInt.toNat + k) = noF (fun j => D0.1 (50, 0, 0) (687 + 384 * v.toInt.toNat + j)) c.toInt s.toInt (z.1.toInt.toNat - 1) k) ∧ (∀ j, j < 687 + 384 * v.toInt.toNat ∨ 879 + 384 * v.toInt.toNat ≤ j → z.2.1 (50, 0, 0) j = D0.1 (50, 0, 0) j) ∧ ∀ (d : rf) (k : Nat), ¬ d = (50, 0, 0) → z.2.1 d k = D0.1 d k) ⟨by dsimp only; omega, by dsimp only; omega, fun k _ => by dsimp only; rw [il_1]; rfl, fun _ _ => rfl, fun _ _ _ => rfl⟩ (fun x z p st => ?_)
  obtain ⟨x1, x2⟩ := x
  obtain ⟨z1, z2⟩ := z
  (try dsimp only at p st ⊢)
  obtain ⟨p1, p2, p3, p4, p5⟩ := p
  refine xE_ST_X12_clicks_55 st (fun k_hv0_55 _ k_hF_55 k_h43_ k_r68_ k_hs72_ k_h71_ k_r73_ k_hs77_ k_h76_ k_M78_ _ k_hF82_ k_hs84_ k_z85_ k_h86_ k_hq_v6_55y k_hM_ => ?_)
  have on := on_spec k_h71_.1 cb hs (by omega)
  have pos := hp x1.toInt p1 (by omega)
  have ad := x12more k_hs84_
  have ob := onI_b (c := c.toInt) (s := s.toInt) (y := x1.toInt)
  have et : k_r73_.toInt.toNat = 687 + 384 * v.toInt.toNat + (onI c.toInt s.toInt x1.toInt).toNat := by omega
  rw [k_hq_v6_55y, k_hM_]
  refine ⟨by omega, by omega, fun k hk => ?_, fun j hj => ?_, fun d k hd => ?_⟩
  · obtain ⟨m, hm⟩ : ∃ m : Nat, x1.toInt = ((m + 1 : Nat) : Int) := ⟨x1.toInt.toNat - 1, by omega⟩
    rw [show k_z85_.toInt.toNat - 1 = m + 1 by omega, ad, up_row, et, p3 _ (by omega), show x1.toInt.toNat - 1 = m by omega]
    show _ = upd (noF _ c.toInt s.toInt m) (onI c.toInt s.toInt ((m + 1 : Nat) : Int)).toNat (bmp (noF _ c.toInt s.toInt m (onI c.toInt s.toInt ((m + 1 : Nat) : Int)).toNat) 1) k
    rw [← hm]
    by_cases e : k = (onI c.toInt s.toInt x1.toInt).toNat
    · rw [updE (by omega), updE e]
    · rw [updN (by omega), updN e, p3 k hk, show x1.toInt.toNat - 1 = m by omega]
  · rw [ad, up_row, updN (by omega)]; exact p4 j hj
  · rw [ad, up_other _ _ hd]; exact p5 d k hd
/-- the model, one side -/
theorem clD {b : Nat} {q : rf → Nat → Int32} {v c s cnt s2 cnt2 : Int32} {Mz D D2 : mM} (h : ST_X12_clicks_35 v Mz c s cnt D s2 cnt2 D2) (hO : OCC b q (D.1 (50, 0, 0))) (hx : ∀ w, w < 3 → ∀ i : Nat, (i : Int) < (D.1 (50, 0, 0) (345 + 50 * w)).toInt → cOK (nnU w) (D.1 (50, 0, 0) (346 + 50 * w + i))) (hv : 0 ≤ v.toInt ∧ v.toInt < nWa (D.1 (50, 0, 0))) (hc : c = D.1 (50, 0, 0) (181 + 9 * v.toInt.toNat)) (hu : (D.1 (12, 0, 0) 7).toInt = -1) :
    ∃ r : Int32, HyP (D.1 (50, 0, 0)) (occ b q) v.toInt.toNat c s r.toInt ∧ 0 ≤ r.toInt ∧ r.toInt ≤ 12 ∧ (∀ (d : rf) (k : Nat), d.1 ≠ 50 → d.1 ≠ 58 → d.1 ≠ 59 → D2.1 d k = D.1 d k) ∧ (∀ j, j < 495 + 384 * v.toInt.toNat ∨ 879 + 384 * v.toInt.toNat ≤ j → D2.1 (50, 0, 0) j = D.1 (50, 0, 0) j) ∧
      ((r.toInt = 0 ∧ cnt2 = cnt ∧ (∀ k, D2.1 (50, 0, 0) k = D.1 (50, 0, 0) k)) ∨
       (0 < r.toInt ∧ cnt2 = cnt + Int32.ofInt 1 ∧ (∀ k, k < 192 → D2.1 (50, 0, 0) (495 + 384 * v.toInt.toNat + k) = upd (fun j => D.1 (50, 0, 0) (495 + 384 * v.toInt.toNat + j)) (onI c.toInt s.toInt r.toInt).toNat (bmp (D.1 (50, 0, 0) (495 + 384 * v.toInt.toNat + (onI c.toInt s.toInt r.toInt).toNat)) 1) k ∧
          D2.1 (50, 0, 0) (687 + 384 * v.toInt.toNat + k) = noF (fun j => D.1 (50, 0, 0) (687 + 384 * v.toInt.toNat + j)) c.toInt s.toInt (r.toInt.toNat - 1) k))) := by
  unfold ST_X12_clicks_35 at h
  obtain ⟨hv0_35, hv1_35, hI_35, hF_35, h33_, M35_, hI38_, hF39_, r34_, hs41_, h37_, v6_55, hv0_55, M_55, hL_55, hI_55, hF_55, h43_, h⟩ := h
  have nw := nWa_b hI_35.2.1
  have cb := ((hI_35.2.1.1 (181 + 9 * v.toInt.toNat)).2.2.2.2.2.2.2 (by omega) (by omega)).2.1 (by omega)
  rw [← hc] at cb
  have sb : 0 ≤ s.toInt ∧ s.toInt ≤ 7 := by omega
  have Y := x12heard hs41_ hO hI_35 hx hv cb sb (Or.inr ⟨hu, by rw [hc]; rfl⟩)
  have k35 : ∀ (d : rf) (k : Nat), d.1 ≠ 58 → d.1 ≠ 59 → M35_.1 d k = D.1 d k := fun d k h1 h2 => hF39_ d k (fun q => by simp only [S_c_X12_heardFrom, or_false] at q; omega)
  have row : M35_.1 (50, 0, 0) = D.1 (50, 0, 0) := funext fun k => k35 _ _ (by simp) (by simp)
  have pz : ∀ j : Int, 1 ≤ j → j ≤ r34_.toInt → 0 ≤ onI c.toInt s.toInt j := fun j h1 h2 => (HyP_pos Y (by omega)).2.2 j h1 h2
  have inn := clDi hL_55 ⟨hv.1, by omega⟩ cb sb ⟨h37_.1, h37_.2.1⟩ pz
  (try dsimp only at inn)
  rw [row] at inn
  obtain ⟨i1, i2, i3, i4, i5⟩ := inn
  refine ⟨r34_, Y, h37_.1, h37_.2.1, ?_⟩
  rcases h with ⟨h44_, z45_, h46_, e1, e2, e3⟩ | ⟨h44_, r47_, hs51_, h50_, r52_, hs56_, h55_, M57_, hI60_, hF61_, hs63_, z64_, h65_, z66_, h67_, e1, e2, e3⟩
  · rw [e3]
    have al : ∀ k, M_55.1 (50, 0, 0) k = D.1 (50, 0, 0) k := fun k => by
      by_cases z : k < 687 + 384 * v.toInt.toNat ∨ 879 + 384 * v.toInt.toNat ≤ k
      · exact i4 k z
      · have g := i3 (k - (687 + 384 * v.toInt.toNat)) (by omega)
        rw [show v6_55.toInt.toNat - 1 = 0 by omega, show 687 + 384 * v.toInt.toNat + (k - (687 + 384 * v.toInt.toNat)) = k by omega] at g
        rw [g]
        show D.1 (50, 0, 0) (687 + 384 * v.toInt.toNat + (k - (687 + 384 * v.toInt.toNat))) = _
        rw [show 687 + 384 * v.toInt.toNat + (k - (687 + 384 * v.toInt.toNat)) = k by omega]
    exact ⟨fun d k h1 h2 h3 => by rw [i5 d k (fun z => h1 (by rw [z]))]; exact k35 d k h2 h3, fun j _ => al j, Or.inl ⟨by omega, e2, al⟩⟩
  · have on := on_spec h50_.1 cb sb (by omega)
    have pos := pz r34_.toInt (by omega) (by omega)
    have ob := onI_b (c := c.toInt) (s := s.toInt) (y := r34_.toInt)
    have ad := x12more hs63_
    have et : r52_.toInt.toNat = 495 + 384 * v.toInt.toNat + (onI c.toInt s.toInt r34_.toInt).toNat := by omega
    rw [e3]
    refine ⟨fun d k h1 h2 h3 => by rw [ad, up_other _ _ (fun z => h1 (by rw [z])), i5 d k (fun z => h1 (by rw [z]))]; exact k35 d k h2 h3, fun j hj => ?_, Or.inr ⟨h44_, by rw [e2]; exact h65_, fun k hk => ⟨?_, ?_⟩⟩⟩
    · rw [ad, up_row, updN (by omega)]; exact i4 j (by omega)
    · rw [ad, up_row, et, i4 _ (by omega)]
      by_cases e : k = (onI c.toInt s.toInt r34_.toInt).toNat
      · rw [updE (by omega), updE e]
      · rw [updN (by omega), updN e]; exact i4 _ (by omega)
    · rw [ad, up_row, updN (by omega), i3 k hk, show v6_55.toInt.toNat - 1 = r34_.toInt.toNat - 1 by omega]
theorem cl_step {b : Nat} {v c s cnt s2 cnt2 s3 cnt3 : Int32} {Mz M M' Dz D D2 : mM} (h1 : ST_X10_makeClick_32 b v Mz v.toInt.toNat s cnt M s2 cnt2 M') (h2 : ST_X12_clicks_35 v Dz c s cnt D s3 cnt3 D2) (hR : WRR b M.1 (D.1 (50, 0, 0))) (hD : InvD D) (hv : 0 ≤ v.toInt ∧ v.toInt < nWa (D.1 (50, 0, 0))) (hc : c = D.1 (50, 0, 0) (181 + 9 * v.toInt.toNat)) (hu : (D.1 (12, 0, 0) 7).toInt = -1) :
    WRR b M'.1 (D2.1 (50, 0, 0)) ∧ cnt2 = cnt3 ∧ (∀ (d : rf) (k : Nat), d.1 ≠ 50 → d.1 ≠ 58 → d.1 ≠ 59 → D2.1 d k = D.1 d k) ∧ (∀ j, j < 495 + 384 * v.toInt.toNat ∨ 879 + 384 * v.toInt.toNat ≤ j → D2.1 (50, 0, 0) j = D.1 (50, 0, 0) j) := by
  have nw := nWa_b hD.2.1
  obtain ⟨r, a1, a2, a3, a4, a5⟩ := clC h1 hR hD.2.1 hv
  obtain ⟨t, d1, d2, d3, d4, d5, d6⟩ := clD h2 hR.2.2.2.2.1 (fun w hw i hi => ((hR.2.2.2.1 w hw).2 i hi).2) hv hc hu
  rw [← hc] at a1 a5
  have wa := (hR.2.2.1.2 v.toInt.toNat (by omega)).2
  obtain rfl : r = t := i32e (HyP_uniq a1 d1)
  rcases a5 with ⟨a5, a6, a7⟩ | ⟨a5, a6, a7, a8⟩ <;> rcases d6 with ⟨d6, d7, d8⟩ | ⟨d6, d7, d8⟩
  · refine ⟨WRR_heads hR hD.2.1 (by omega) a4 d5 (fun k hk => ?_), a6.trans d7.symm, d4, d5⟩
    rw [(a7 k).1, (a7 k).2, d8, d8]; exact wa k hk
  · omega
  · omega
  · have pos := (HyP_pos a1 (by omega)).2.2 r.toInt (by omega) (by omega)
    have ob := onI_b (c := c.toInt) (s := s.toInt) (y := r.toInt)
    refine ⟨WRR_heads hR hD.2.1 (by omega) a4 d5 (fun k hk => ⟨?_, ?_⟩), a6.trans d7.symm, d4, d5⟩
    · rw [a7, (d8 k hk).1]
      by_cases e : k = (onI c.toInt s.toInt r.toInt).toNat
      · rw [updE e, updE e, (wa _ (by omega)).1]
      · rw [updN e, updN e, (wa _ hk).1]
    · rw [a8, (d8 k hk).2]
      exact noF_cong (fun j hj => (wa j hj).2) _ (fun j h1 h2 => (HyP_pos a1 (by omega)).2.2 j (by omega) (by omega)) k hk
/-- a click of both -/
theorem click_both {b : Nat} {v r t : Int32} {M M' D D2 : mM} (h1 : SP_X10_makeClick b v M r M') (h2 : SP_X12_clicks v D t D2) (hR : WRR b M.1 (D.1 (50, 0, 0))) (hD : InvD D) (hv : 0 ≤ v.toInt ∧ v.toInt < nWa (D.1 (50, 0, 0))) (hu : (D.1 (12, 0, 0) 7).toInt = -1) :
    r = t ∧ WRR b M'.1 (D2.1 (50, 0, 0)) ∧ InvD D2 ∧ (∀ (d : rf) (k : Nat), d.1 ≠ 50 → d.1 ≠ 58 → d.1 ≠ 59 → D2.1 d k = D.1 d k) ∧ (∀ j, j < 495 → j ≠ 188 + 9 * v.toInt.toNat → D2.1 (50, 0, 0) j = D.1 (50, 0, 0) j) := by
  have nw := nWa_b hD.2.1
  have q0 := il_0
  refine xE_SP_X12_clicks h2 (fun d_r1_ d_hs5_ d_h4_ d_z6_ d_h7_ d_j10_ d_h11_ d_z8_ d_e9_ d_h12_ d_r13_ d_hs17_ d_h16_ d_z18_ d_h19_ d_j22_ d_h23_ d_z20_ d_e21_ d_z24_ d_h25_ d_j28_ d_h29_ d_M26_ d_hM27_ d_v4_35 d_hv0_35 d_hv1_35 d_v3_35 d_M_35 d_hL_35 d_hI_35 d_hF_35 d_h33_ d_hr_ d_hM_ => ?_)
  obtain rfl : d_j10_ = 181 + 9 * v.toInt.toNat := by omega
  obtain rfl : d_j22_ = 188 + 9 * v.toInt.toNat := by omega
  obtain rfl : d_j28_ = 188 + 9 * v.toInt.toNat := by omega
  have hw := hR.2.2.1.1
  refine xE_SP_X10_makeClick h1 ⟨(fun hs5_ h4_ j7_ h8_ h9_ z10_ e11_ z12_ h13_ M14_ hM15_ v4_32 hv0_32 hv1_32 v3_32 M_32 hL_32 _ hF_32 h19_ hr_ hM_ => ?_), (fun hs5_ hr_ hM_ => ?_)⟩
  · obtain rfl : j7_ = v.toInt.toNat := by omega
    have c8 := (hR.2.2.1.2 v.toInt.toNat (by omega)).1 8 (by omega)
    rw [show 180 + 9 * v.toInt.toNat + 8 = 188 + 9 * v.toInt.toNat by omega] at c8
    have ez : z12_ = d_z24_ := by rw [h13_, d_h25_, e11_, d_e21_, c8]
    have R0 := WRR_wf (f := 8) (x := z12_) hR hD.2.1 (w := v.toInt.toNat) (by omega) (by omega)
    rw [← hM15_, show 180 + 9 * v.toInt.toNat + 8 = 188 + 9 * v.toInt.toNat by omega, ez, ← d_hM27_] at R0
    have row : ∀ j, ¬ j = 188 + 9 * v.toInt.toNat → d_M26_.1 (50, 0, 0) j = D.1 (50, 0, 0) j := fun j hj => by rw [d_hM27_, up_row, updN hj]
    have hz8 : d_z8_ = d_M26_.1 (50, 0, 0) (181 + 9 * v.toInt.toNat) := by rw [row _ (by omega)]; exact d_e9_
    have L := lock (fun x : Int32 × Int32 × mM => x.1.toInt) (fun y : Int32 × Int32 × mM => y.1.toInt) (fun x y => WRR b x.2.2.1 (y.2.2.1 (50, 0, 0)) ∧ x.2.1 = y.2.1 ∧ (∀ (d : rf) (k : Nat), d.1 ≠ 50 → d.1 ≠ 58 → d.1 ≠ 59 → y.2.2.1 d k = d_M26_.1 d k) ∧ (∀ j, j < 495 + 384 * v.toInt.toNat ∨ 879 + 384 * v.toInt.toNat ≤ j → y.2.2.1 (50, 0, 0) j = d_M26_.1 (50, 0, 0) j)) 8 hL_32 d_hL_35
      (fun x z st => by
        (try dsimp only at st ⊢)
        refine xE_ST_X10_makeClick_32 st (fun s_hv0_32 s_hv1_32 _ s_hF_32 s_h19_ s_z20_ s_e21_ s_M23_ _ s_hF27_ s_r22_ s_hs29_ s_h25_ => ⟨(fun s_h30_ s_v6_79 s_hv0_79 s_M_79 s_hL_79 _ s_hF_79 s_h32_ s_z33_ s_h34_ s_hq_v4_32y s_hq_v3_32y s_hM_ => ?_), (fun s_h30_ s_z35_ s_h36_ s_z37_ s_e38_ s_r39_ s_hs43_ s_h42_ s_M44_ _ s_hF48_ s_hs50_ s_v6_79 s_hv0_79 s_M_79 s_hL_79 _ s_hF_79 s_h52_ s_z53_ s_h54_ s_hq_v4_32y s_hq_v3_32y s_hM_ => ?_)⟩)
        all_goals (rw [s_hq_v4_32y]; omega))
      (fun x z st => by
        (try dsimp only at st ⊢)
        refine xE_ST_X12_clicks_35 st (fun s_hv0_35 s_hv1_35 _ s_hF_35 s_h33_ s_M35_ _ s_hF39_ s_r34_ s_hs41_ s_h37_ s_v6_55 s_hv0_55 s_M_55 s_hL_55 _ s_hF_55 s_h43_ => ⟨(fun s_h44_ s_z45_ s_h46_ s_hq_v4_35y s_hq_v3_35y s_hM_ => ?_), (fun s_h44_ s_r47_ s_hs51_ s_h50_ s_r52_ s_hs56_ s_h55_ s_M57_ _ s_hF61_ s_hs63_ s_z64_ s_h65_ s_z66_ s_h67_ s_hq_v4_35y s_hq_v3_35y s_hM_ => ?_)⟩)
        all_goals (rw [s_hq_v4_35y]; omega))
      ⟨R0, rfl, fun _ _ _ _ _ => rfl, fun _ _ => rfl⟩ rfl h19_ d_h33_
      (fun x z y w rr ee s1 s2 => by
        obtain ⟨x1, x2, x3⟩ := x
        obtain ⟨y1, y2, y3⟩ := y
        obtain ⟨z1, z2, z3⟩ := z
        obtain ⟨w1, w2, w3⟩ := w
        (try dsimp only at rr ee s1 s2 ⊢)
        obtain ⟨r1, r2, r3, r4⟩ := rr
        obtain rfl : x1 = y1 := i32e ee
        subst r2
        have iy : InvD y3 := by
          unfold ST_X12_clicks_35 at s2
          exact s2.2.2.1
        have cs := cl_step s1 s2 r1 iy (by unfold nWa; rw [r4 2 (by omega), row 2 (by omega)]; exact hv) (by rw [r4 _ (by omega)]; exact hz8) (by rw [r3 _ _ (by simp) (by simp) (by simp), d_hM27_, up_other _ _ (by simp)]; exact hu)
        exact ⟨cs.1, cs.2.1, fun d k a1 a2 a3 => (cs.2.2.1 d k a1 a2 a3).trans (r3 d k a1 a2 a3), fun j hj => (cs.2.2.2 j hj).trans (r4 j hj)⟩)
    (try dsimp only at L)
    obtain ⟨l1, l2, l3, l4⟩ := L
    rw [hr_, hM_, d_hr_, d_hM_]
    refine ⟨l2, l1, d_hI_35, fun d k a1 a2 a3 => ?_, fun j h1 h2 => ?_⟩
    · rw [l3 d k a1 a2 a3, d_hM27_, up_other _ _ (fun z => a1 (by rw [z]))]
    · rw [l4 j (by omega), row j h2]
  · have := x10has hs5_
    unfold nWa at hv nw
    have := eT hw
    omega
end
section
/-! habits -/
theorem xor4_neg (a : Int32) : 0 ≤ (a ^^^ (4 : Int32)).toInt ↔ 0 ≤ a.toInt := by
  have h1 : (a ^^^ (4 : Int32)).toInt = (a.toBitVec ^^^ (4#32)).toInt := rfl
  have h2 : a.toInt = a.toBitVec.toInt := rfl
  have m1 := BitVec.msb_eq_toInt (x := a.toBitVec ^^^ (4#32))
  have m2 := BitVec.msb_eq_toInt (x := a.toBitVec)
  rw [BitVec.msb_xor, show (4#32).msb = false by decide, Bool.xor_false, m2] at m1
  have m3 := decide_eq_decide.mp m1
  rw [h1, h2]
  omega
theorem fm_and (a : Int32) : fmX a = a &&& (3 : Int32) := by
  have i4 : (4 : Int32).toInt = 4 := by decide
  have i0 := il_0
  have rg := rngI a
  refine i32e ?_
  rw [and3]
  have hd : (a / (4 : Int32)).toInt = a.toInt.tdiv 4 := by rw [Int32.toInt_div_of_ne_right a 4 (by first | decide | simp | (dsimp only; omega)), i4]
  have td : a.toInt.tdiv 4 = (if 0 ≤ a.toInt then a.toInt / 4 else -((-a.toInt) / 4)) := by
    split
    · rename_i h; exact Int.tdiv_eq_ediv_of_nonneg h
    · rename_i h
      have e : a.toInt = -(-a.toInt) := by omega
      rw [e, Int.neg_tdiv, Int.tdiv_eq_ediv_of_nonneg (by omega)]
      rw [show - - -a.toInt = -a.toInt by omega]
  rw [td] at hd
  have hr : (a - a / (4 : Int32) * (4 : Int32)).toInt = a.toInt - (a / (4 : Int32)).toInt * 4 := by
    have m : (a / (4 : Int32) * (4 : Int32)).toInt = (a / (4 : Int32)).toInt * 4 := mulI rfl i4 (by rw [hd]; split <;> omega) (by rw [hd]; split <;> omega)
    exact subI rfl m (by rw [hd]; split <;> omega) (by rw [hd]; split <;> omega)
  have x4 := xor4_neg a
  unfold fmX
  by_cases h1 : (0 : Int32) ≤ a ^^^ 4
  · rw [if_pos h1, hr, hd]
    have := Int32.le_iff_toInt_le.mp h1
    rw [if_pos (by omega)]; omega
  · rw [if_neg h1]
    have h2 : ¬ 0 ≤ a.toInt := fun q => h1 (Int32.le_iff_toInt_le.mpr (by rw [i0]; exact x4.mpr q))
    rw [if_neg h2] at hd
    by_cases h3 : a - a / 4 * 4 = 0
    · rw [if_pos h3]
      have := eT h3
      rw [this, i0]
      rw [hr] at this
      omega
    · rw [if_neg h3]
      have h4 : ¬ (a - a / (4 : Int32) * (4 : Int32)).toInt = 0 := fun q => h3 (i32e (by rw [q, i0]))
      rw [addI hr i4 (by omega) (by omega)]
      rw [hr] at h4
      omega
def heldS (y n : Int) : Int := if n < y then 2 else if y < n then 1 else 0
theorem x9held {b w : Nat} {v : Int32} {M : mM} {r : Int32} (h : SP_X9_held b w v M r) : ((0 ≤ v.toInt ∧ v.toInt ≤ 191) ∧ r.toInt = heldS (M.1 (40, b, w) v.toInt.toNat).toInt (M.1 (41, b, w) v.toInt.toNat).toInt) ∨ (¬ (0 ≤ v.toInt ∧ v.toInt ≤ 191) ∧ r.toInt = 0) := by
  have q0 := il_0
  have q1 := il_1
  have q2 : (2 : Int32).toInt = 2 := by decide
  unfold heldS
  refine xE_SP_X9_held h ⟨(fun hs5_ h4_ j9_ h10_ z7_ e8_ j13_ h14_ z11_ e12_ => ⟨(fun h15_ j18_ h19_ z16_ e17_ j22_ h23_ z20_ e21_ => ⟨(fun h24_ hr_ => ?_), (fun h24_ hr_ => ?_)⟩), (fun h15_ hr_ => ?_)⟩), (fun hs5_ h4_ hr_ => ?_)⟩
  · obtain rfl : j9_ = v.toInt.toNat := by omega
    obtain rfl : j13_ = v.toInt.toNat := by omega
    obtain rfl : j18_ = v.toInt.toNat := by omega
    obtain rfl : j22_ = v.toInt.toNat := by omega
    have y1 := eT e8_; have y2 := eT e12_; have y3 := eT e17_; have y4 := eT e21_; have y5 := eT hr_
    left
    refine ⟨h4_, ?_⟩
    repeat' split
    all_goals omega
  · obtain rfl : j9_ = v.toInt.toNat := by omega
    obtain rfl : j13_ = v.toInt.toNat := by omega
    obtain rfl : j18_ = v.toInt.toNat := by omega
    obtain rfl : j22_ = v.toInt.toNat := by omega
    have y1 := eT e8_; have y2 := eT e12_; have y3 := eT e17_; have y4 := eT e21_; have y5 := eT hr_
    left
    refine ⟨h4_, ?_⟩
    repeat' split
    all_goals omega
  · obtain rfl : j9_ = v.toInt.toNat := by omega
    obtain rfl : j13_ = v.toInt.toNat := by omega
    have y1 := eT e8_; have y2 := eT e12_; have y5 := eT hr_
    left
    refine ⟨h4_, ?_⟩
    repeat' split
    all_goals omega
  · have y5 := eT hr_
    right
    exact ⟨h4_, by omega⟩
def HdS (n : Nat → Int32) (w : Nat) (x : Int) : Int := heldS (n (495 + 384 * w + x.toNat)).toInt (n (687 + 384 * w + x.toNat)).toInt
theorem x12held {v u : Int32} {M : mM} {r : Int32} (h : SP_X12_held v u M r) (hv : 0 ≤ v.toInt ∧ v.toInt ≤ 7) (hu : 0 ≤ u.toInt ∧ u.toInt ≤ 191) : r.toInt = HdS (M.1 (50, 0, 0)) v.toInt.toNat u.toInt := by
  have q0 := il_0
  have q1 := il_1
  have q2 : (2 : Int32).toInt = 2 := by decide
  unfold HdS heldS
  refine xE_SP_X12_held h (fun r1_ hs5_ h4_ j8_ h9_ z6_ e7_ r10_ hs14_ h13_ j17_ h18_ z15_ e16_ => ⟨(fun h19_ => ⟨(fun h20_ hr_ => ?_), (fun h20_ hr_ => ?_)⟩), (fun h19_ hr_ => ?_)⟩)
  all_goals
    obtain rfl : j8_ = 495 + 384 * v.toInt.toNat + u.toInt.toNat := by omega
    obtain rfl : j17_ = 687 + 384 * v.toInt.toNat + u.toInt.toNat := by omega
    have y1 := eT e7_; have y2 := eT e16_; have y5 := eT hr_
    repeat' split
    all_goals omega
/-- beyond the street it stays so -/
theorem onI_out {c s j k : Int} (hc : 0 ≤ c ∧ c ≤ 191) (hs : 0 ≤ s ∧ s ≤ 7) (hj : 1 ≤ j ∧ j ≤ k) (h : onI c s j < 0) : onI c s k < 0 := by
  unfold onI at h ⊢
  split at h
  · rename_i z; omega
  · rename_i z
    rw [if_neg ?_]
    · omega
    · obtain e | e | e | e | e | e | e | e := side8 hs
      all_goals
        subst e
        simp only [dxI, dyI] at z ⊢
        simp at z ⊢
        omega
def FullP (H : Int → Int) (c s y : Int) : Prop := (1 ≤ y ∧ y ≤ 9 ∧ (∀ j : Int, 1 ≤ j → j < y → ¬ (0 ≤ onI c s j ∧ H (onI c s j) = 2)) ∧ 0 ≤ onI c s y ∧ H (onI c s y) = 2) ∨ (y = 0 ∧ ∀ j : Int, 1 ≤ j → j ≤ 9 → ¬ (0 ≤ onI c s j ∧ H (onI c s j) = 2))
theorem FullP_uniq {H : Int → Int} {c s y z : Int} (h : FullP H c s y) (g : FullP H c s z) : y = z := by
  rcases h with h | h <;> rcases g with g | g
  · rcases Int.lt_trichotomy y z with q | q | q
    · exact absurd h.2.2.2 (g.2.2.1 y h.1 q)
    · exact q
    · exact absurd g.2.2.2 (h.2.2.1 z g.1 q)
  · exact absurd h.2.2.2 (g.2 y h.1 h.2.1)
  · exact absurd g.2.2.2 (h.2 z g.1 g.2.1)
  · rw [h.1, g.1]
theorem x9full {b w : Nat} {v : Int32} {M : mM} {r : Int32} {n : Nat → Int32} (h : SP_X9_yardsToFull b w v M r) (hv : 0 ≤ v.toInt ∧ v.toInt ≤ 7) (hc : M.1 (9, b, w) 1 = n (181 + 9 * w)) (cb : 0 ≤ (n (181 + 9 * w)).toInt ∧ (n (181 + 9 * w)).toInt ≤ 191) (hh : ∀ k, k < 192 → M.1 (40, b, w) k = n (495 + 384 * w + k) ∧ M.1 (41, b, w) k = n (687 + 384 * w + k)) : FullP (HdS n w) (n (181 + 9 * w)).toInt v.toInt r.toInt := by
  have q0 := il_0
  have q1 := il_1
  have K : ∀ {x c r0 h0 : Int32}, 1 ≤ x.toInt → x.toInt ≤ 9 → c = M.1 (9, b, w) 1 → SP_X7_cellFrom c v x M r0 → SP_X9_held b w r0 M h0 → (h0.toInt = 2 ↔ (0 ≤ onI (n (181 + 9 * w)).toInt v.toInt x.toInt ∧ HdS n w (onI (n (181 + 9 * w)).toInt v.toInt x.toInt) = 2)) := fun {x c r0 h0} h1 h2 e a d => by
    have cf := cF_spec a
    rw [e, hc] at cf
    have er : r0.toInt = onI (n (181 + 9 * w)).toInt v.toInt x.toInt := by omega
    have hd := x9held d
    have ob := onI_b (c := (n (181 + 9 * w)).toInt) (s := v.toInt) (y := x.toInt)
    rw [← er] at ob ⊢
    unfold HdS
    rcases hd with hd | hd
    · rw [(hh _ (by omega)).1, (hh _ (by omega)).2] at hd
      omega
    · omega
  have G : ∀ x : Int32, RCH (fun x_ y_ => ST_X9_yardsToFull_2 b w v M x_ y_) (1 : Int32) x → 1 ≤ x.toInt ∧ ∀ j : Int, 1 ≤ j → j < x.toInt → ¬ (0 ≤ onI (n (181 + 9 * w)).toInt v.toInt j ∧ HdS n w (onI (n (181 + 9 * w)).toInt v.toInt j) = 2) := fun x hL =>
    rind hL (fun x => 1 ≤ x.toInt ∧ ∀ j : Int, 1 ≤ j → j < x.toInt → ¬ (0 ≤ onI (n (181 + 9 * w)).toInt v.toInt j ∧ HdS n w (onI (n (181 + 9 * w)).toInt v.toInt j) = 2)) ⟨by omega, fun j h1 h2 => by omega⟩ (fun x z hp hst => by
      (try dsimp only at hp hst ⊢)
      refine xE_ST_X9_yardsToFull_2 hst (fun p_hv0_2 p_hv1_2 p_h2_ p_z3_ p_e4_ p_r5_ p_hs9_ p_h8_ p_r10_ p_hs14_ p_h15_ p_z16_ p_h17_ p_hq_v2_2y => ?_)
      have k := K p_hv0_2 p_h2_ p_e4_ p_hs9_ p_hs14_
      rw [p_hq_v2_2y]
      refine ⟨by omega, fun j h1 h2 => ?_⟩
      by_cases e : j = x.toInt
      · rw [e]; exact fun q => p_h15_ (k.mpr q)
      · exact hp.2 j h1 (by omega))
  refine xE_SP_X9_yardsToFull h (fun v2_2 hv0_2 hv1_2 hL_2 => ⟨(fun h2_ hr_ => ?_), (fun h2_ z3_ e4_ r5_ hs9_ h8_ r10_ hs14_ h15_ hr_ => ?_)⟩)
  · have g := G _ hL_2
    rw [hr_, il_0]
    exact Or.inr ⟨rfl, fun j h1 h2 => g.2 j h1 (by omega)⟩
  · have g := G _ hL_2
    have k := K hv0_2 h2_ e4_ hs9_ hs14_
    rw [hr_]
    exact Or.inl ⟨g.1, h2_, g.2, k.mp h15_⟩
theorem x12full {v u : Int32} {M : mM} {r : Int32} (h : SP_X12_fullAhead v u M r) (hv : 0 ≤ v.toInt ∧ v.toInt ≤ 7) : FullP (HdS (M.1 (50, 0, 0)) v.toInt.toNat) (M.1 (50, 0, 0) (181 + 9 * v.toInt.toNat)).toInt (u &&& (7 : Int32)).toInt r.toInt := by
  have q0 := il_0
  have q1 := il_1
  refine xE_SP_X12_fullAhead h (fun r1_ hs5_ h4_ z6_ h7_ j10_ h11_ z8_ e9_ h12_ v4_16 hv0_16 hv1_16 hL_16 => ⟨(fun h14_ hr_ => ?_), (fun h14_ z15_ h17_ h16_ r18_ hs22_ h21_ => ⟨(fun h23_ hr_ => ?_), (fun h23_ z24_ h26_ h25_ r27_ hs31_ h30_ r32_ hs36_ h35_ h37_ hr_ => ?_)⟩)⟩)
  all_goals
    obtain rfl : j10_ = 181 + 9 * v.toInt.toNat := by omega
    rw [← e9_]
    have sb : 0 ≤ (u &&& (7 : Int32)).toInt ∧ (u &&& (7 : Int32)).toInt ≤ 7 := by rw [and7]; omega
    have g := rind hL_16 (fun x => 1 ≤ x.toInt ∧ ∀ j : Int, 1 ≤ j → j < x.toInt → ¬ (0 ≤ onI z8_.toInt (u &&& (7 : Int32)).toInt j ∧ HdS (M.1 (50, 0, 0)) v.toInt.toNat (onI z8_.toInt (u &&& (7 : Int32)).toInt j) = 2)) ⟨by omega, fun j h1 h2 => by omega⟩ (fun x z hp hst => by
      (try dsimp only at hp hst ⊢)
      refine xE_ST_X12_fullAhead_16 hst (fun p_hv0_16 p_hv1_16 p_h14_ p_z15_ p_h17_ p_h16_ p_r18_ p_hs22_ p_h21_ p_h23_ p_z24_ p_h26_ p_h25_ p_r27_ p_hs31_ p_h30_ p_r32_ p_hs36_ p_h35_ p_h37_ p_z38_ p_h39_ p_hq_v4_16y => ?_)
      rw [p_h17_] at p_h21_
      rw [p_h26_] at p_h30_
      have c1 := on_spec p_h21_.1 h12_ sb (by omega)
      have c2 := on_spec p_h30_.1 h12_ sb (by omega)
      have hd := x12held p_hs36_ hv (by omega)
      rw [p_hq_v4_16y]
      refine ⟨by omega, fun j h1 h2 => ?_⟩
      by_cases e : j = x.toInt
      · rw [e, ← c2, ← hd]; exact fun q => p_h37_ q.2
      · exact hp.2 j h1 (by omega))
    (try dsimp only at g)
  · rw [hr_, il_0]
    exact Or.inr ⟨rfl, fun j h1 h2 => g.2 j h1 (by omega)⟩
  · rw [h17_] at h21_
    have c1 := on_spec h21_.1 h12_ sb (by omega)
    rw [hr_, il_0]
    refine Or.inr ⟨rfl, fun j h1 h2 q => ?_⟩
    by_cases z : j < v4_16.toInt
    · exact g.2 j h1 z q
    · have := onI_out h12_ sb (j := v4_16.toInt) (k := j) (by omega) (by omega)
      omega
  · rw [h17_] at h21_
    rw [h26_] at h30_
    have c1 := on_spec h21_.1 h12_ sb (by omega)
    have c2 := on_spec h30_.1 h12_ sb (by omega)
    have hd := x12held hs36_ hv (by omega)
    rw [hr_]
    exact Or.inl ⟨g.1, by omega, g.2, by omega, by rw [← c2, ← hd]; exact h37_⟩
end
section
/-! what a walker does by its habit -/
def hbV (f l r u t : Int32) : Nat → Int32 := fun i => if i = 0 then f else if i = 1 then l else if i = 2 then r else if i = 3 then u else t
def habS (n : Nat → Int32) (f l r u t : Int32) : Int32 := if (n 445).toInt ≤ 0 then (if f.toInt = 1 then 1 else 0) else evR n 2 (hbV f l r u t)
theorem sval5 {M M1 M2 M3 M4 M5 : mM} {c : rf} {a0 a1 a2 a3 a4 : Int32} (h1 : M1 = up M c 0 a0) (h2 : M2 = up M1 c 1 a1) (h3 : M3 = up M2 c 2 a2) (h4 : M4 = up M3 c 3 a3) (h5 : M5 = up M4 c 4 a4) : ∀ i, i < 5 → M5.1 c i = hbV a0 a1 a2 a3 a4 i := fun i hi => by
  obtain rfl | rfl | rfl | rfl | rfl : i = 0 ∨ i = 1 ∨ i = 2 ∨ i = 3 ∨ i = 4 := by omega
  · rw [zupN h5 (by simp), zupN h4 (by simp), zupN h3 (by simp), zupN h2 (by simp), zupE h1 rfl rfl]; rfl
  · rw [zupN h5 (by simp), zupN h4 (by simp), zupN h3 (by simp), zupE h2 rfl rfl]; rfl
  · rw [zupN h5 (by simp), zupN h4 (by simp), zupE h3 rfl rfl]; rfl
  · rw [zupN h5 (by simp), zupE h4 rfl rfl]; rfl
  · rw [zupE h5 rfl rfl]; rfl
theorem x2habit {b : Nat} {v u t s q : Int32} {M M' : mM} {r : Int32} {n : Nat → Int32} (h : SP_X2_habitValue b v u t s q M r M') (hT : TXR b M.1 n) (hW : WT n) : r = habS n v u t s q := by
  have q0 := il_0
  have T := hT 2 (by omega)
  simp only [show 345 + 50 * 2 = 445 by decide, show 346 + 50 * 2 = 446 by decide] at T
  unfold habS
  refine xE_SP_X2_habitValue h (fun r1_ hs5_ h4_ => ⟨(fun h6_ M7_ hM8_ M11_ hM12_ M15_ hM16_ M19_ hM20_ M23_ hM24_ _ M28_ _ hF32_ r27_ hs34_ hr_ hM_ => ?_), (fun h6_ => ⟨(fun h35_ hr_ hM_ => ?_), (fun h35_ hr_ hM_ => ?_)⟩)⟩)
  · have g := x1given hs5_
    rw [T.1] at g
    have k : ∀ (c : rf) (j : Nat), c.1 ≠ 29 → M23_.1 c j = M.1 c j := fun c j hc => by
      rw [zupR hM24_ hc, zupR hM20_ hc, zupR hM16_ hc, zupR hM12_ hc, zupR hM8_ hc]
    rw [if_neg (by omega), hr_]
    refine x1work (nn := 5) hs34_ (by omega) hW (by rw [k _ _ (by simp)]; exact T.1) (fun i hi => by rw [k _ _ (by simp)]; exact T.2 i hi) (sval5 hM8_ hM12_ hM16_ hM20_ hM24_) (by show 0 < (n 445).toInt; omega)
  · have g := x1given hs5_
    rw [T.1] at g
    rw [if_pos (by omega), if_neg h35_, hr_]
  · have g := x1given hs5_
    rw [T.1] at g
    rw [if_pos (by omega), if_pos h35_, hr_]
def HabC (b : Nat) (v : Int32) (w : Nat) (M M' : mM) : Prop := ∃ (s rf sl rl sr rr bu now r : Int32) (M2 : mM), s = M.1 (9, b, w) 2 ∧ SP_X9_yardsToFull b w s M rf ∧ sl = (s + (6 : Int32)) &&& (7 : Int32) ∧ SP_X9_yardsToFull b w sl M rl ∧ sr = (s + (2 : Int32)) &&& (7 : Int32) ∧ SP_X9_yardsToFull b w sr M rr ∧ bu = M.1 (9, b, w) 7 ∧ now = M.1 (10, b, 0) 7 ∧ FR (S_c_X2_habitValue b) M M2 ∧ SP_X2_habitValue b rf rl rr bu now M r M2 ∧
  ((¬ (fmX r).toInt = 0 ∧ ¬ (fmX r).toInt = 3 ∧ SP_X9_turn b w (fmX r) M2 M') ∨ ((fmX r).toInt = 3 ∧ SP_X9_turn b w (-2) M2 M') ∨ ((fmX r).toInt = 0 ∧ SP_X10_goOn b v M2 M'))
def clkP (now every : Int32) (kind : Int) : Prop := 0 < every.toInt ∧ (now - now / every * every).toInt = 0 ∧ undP kind 1
theorem lwC {b : Nat} {v : Int32} {M M' : mM} (h : SP_X10_letWalkerGo b v M M') (hv : 0 ≤ v.toInt ∧ v.toInt < (M.1 (10, b, 0) 6).toInt ∧ v.toInt < 8) (hk : 0 ≤ (M.1 (9, b, v.toInt.toNat) 0).toInt ∧ (M.1 (9, b, v.toInt.toNat) 0).toInt ≤ 7) :
    (¬ clkP (M.1 (10, b, 0) 7) (M.1 (9, b, v.toInt.toNat) 5) (M.1 (9, b, v.toInt.toNat) 0).toInt ∧ HabC b v v.toInt.toNat M M') ∨ (clkP (M.1 (10, b, 0) 7) (M.1 (9, b, v.toInt.toNat) 5) (M.1 (9, b, v.toInt.toNat) 0).toInt ∧ ∃ (r : Int32) (M1 : mM), SP_X10_makeClick b v M r M1 ∧ HabC b v v.toInt.toNat M1 M') := by
  have q1 := il_1
  unfold clkP
  refine xE_SP_X10_letWalkerGo h ⟨(fun hs5_ h4_ j7_ h8_ h9_ z10_ e11_ => ⟨(fun h12_ z13_ e14_ r15_ hs19_ z22_ h23_ z24_ h26_ h25_ r27_ hs31_ z34_ h35_ z36_ h38_ h37_ r39_ hs43_ z44_ e45_ z46_ e47_ M49_ _ hF53_ r48_ hs55_ z56_ z56_h => ⟨(fun h57_ => ⟨(fun h58_ M59_ _ hF63_ hs65_ hM_ => ?_), (fun h58_ M66_ _ hF70_ hs72_ hM_ => ?_)⟩), (fun h57_ M73_ _ hF77_ hs79_ hM_ => ?_)⟩), (fun h12_ z80_ e81_ z82_ h83_ => ⟨(fun h84_ z85_ e86_ r87_ hs91_ z94_ h95_ z96_ h98_ h97_ r99_ hs103_ z106_ h107_ z108_ h110_ h109_ r111_ hs115_ z116_ e117_ M121_ _ hF125_ r120_ hs127_ z128_ z128_h => ⟨(fun h129_ => ⟨(fun h130_ M131_ _ hF135_ hs137_ hM_ => ?_), (fun h130_ M138_ _ hF142_ hs144_ hM_ => ?_)⟩), (fun h129_ M145_ _ hF149_ hs151_ hM_ => ?_)⟩), (fun h84_ r152_ hs156_ h155_ => ⟨(fun h157_ z158_ e159_ r160_ hs164_ z167_ h168_ z169_ h171_ h170_ r172_ hs176_ z179_ h180_ z181_ h183_ h182_ r184_ hs188_ z189_ e190_ M194_ _ hF198_ r193_ hs200_ z201_ z201_h => ⟨(fun h202_ => ⟨(fun h203_ M204_ _ hF208_ hs210_ hM_ => ?_), (fun h203_ M211_ _ hF215_ hs217_ hM_ => ?_)⟩), (fun h202_ M218_ _ hF222_ hs224_ hM_ => ?_)⟩), (fun h157_ M226_ _ hF230_ r225_ hs232_ z233_ e234_ r235_ hs239_ z242_ h243_ z244_ h246_ h245_ r247_ hs251_ z254_ h255_ z256_ h258_ h257_ r259_ hs263_ z264_ e265_ z266_ e267_ M269_ _ hF273_ r268_ hs275_ z276_ z276_h => ⟨(fun h277_ => ⟨(fun h278_ M279_ _ hF283_ hs285_ hM_ => ?_), (fun h278_ M286_ _ hF290_ hs292_ hM_ => ?_)⟩), (fun h277_ M293_ _ hF297_ hs299_ hM_ => ?_)⟩)⟩)⟩)⟩), (fun hs5_ hM_ => ?_)⟩
  · obtain rfl : j7_ = v.toInt.toNat := by omega
    refine Or.inl ⟨fun q => by rw [← e11_] at q; omega, ?_⟩
    exact ⟨z13_, r15_, z24_, r27_, z36_, r39_, z44_, z46_, r48_, M49_, e14_, hs19_, by rw [h26_, h23_], hs31_, by rw [h38_, h35_], hs43_, e45_, e47_, hF53_, hs55_, Or.inl ⟨(by rw [← z56_h]; exact h57_), (by rw [← z56_h]; exact h58_), by rw [hM_, ← z56_h]; exact hs65_⟩⟩
  · obtain rfl : j7_ = v.toInt.toNat := by omega
    refine Or.inl ⟨fun q => by rw [← e11_] at q; omega, ?_⟩
    exact ⟨z13_, r15_, z24_, r27_, z36_, r39_, z44_, z46_, r48_, M49_, e14_, hs19_, by rw [h26_, h23_], hs31_, by rw [h38_, h35_], hs43_, e45_, e47_, hF53_, hs55_, Or.inr (Or.inl ⟨(by rw [← z56_h]; exact h58_), by rw [hM_]; exact hs72_⟩)⟩
  · obtain rfl : j7_ = v.toInt.toNat := by omega
    refine Or.inl ⟨fun q => by rw [← e11_] at q; omega, ?_⟩
    exact ⟨z13_, r15_, z24_, r27_, z36_, r39_, z44_, z46_, r48_, M49_, e14_, hs19_, by rw [h26_, h23_], hs31_, by rw [h38_, h35_], hs43_, e45_, e47_, hF53_, hs55_, Or.inr (Or.inr ⟨(by rw [← z56_h]; exact h57_), by rw [hM_]; exact hs79_⟩)⟩
  · obtain rfl : j7_ = v.toInt.toNat := by omega
    refine Or.inl ⟨fun q => h84_ (by rw [h83_, e81_, e11_]; exact q.2.1), ?_⟩
    exact ⟨z85_, r87_, z96_, r99_, z108_, r111_, z116_, z80_, r120_, M121_, e86_, hs91_, by rw [h98_, h95_], hs103_, by rw [h110_, h107_], hs115_, e117_, e81_, hF125_, hs127_, Or.inl ⟨(by rw [← z128_h]; exact h129_), (by rw [← z128_h]; exact h130_), by rw [hM_, ← z128_h]; exact hs137_⟩⟩
  · obtain rfl : j7_ = v.toInt.toNat := by omega
    refine Or.inl ⟨fun q => h84_ (by rw [h83_, e81_, e11_]; exact q.2.1), ?_⟩
    exact ⟨z85_, r87_, z96_, r99_, z108_, r111_, z116_, z80_, r120_, M121_, e86_, hs91_, by rw [h98_, h95_], hs103_, by rw [h110_, h107_], hs115_, e117_, e81_, hF125_, hs127_, Or.inr (Or.inl ⟨(by rw [← z128_h]; exact h130_), by rw [hM_]; exact hs144_⟩)⟩
  · obtain rfl : j7_ = v.toInt.toNat := by omega
    refine Or.inl ⟨fun q => h84_ (by rw [h83_, e81_, e11_]; exact q.2.1), ?_⟩
    exact ⟨z85_, r87_, z96_, r99_, z108_, r111_, z116_, z80_, r120_, M121_, e86_, hs91_, by rw [h98_, h95_], hs103_, by rw [h110_, h107_], hs115_, e117_, e81_, hF125_, hs127_, Or.inr (Or.inr ⟨(by rw [← z128_h]; exact h129_), by rw [hM_]; exact hs151_⟩)⟩
  · obtain rfl : j7_ = v.toInt.toNat := by omega
    have un := x9isOf hs156_ hk
    rw [q1] at un
    refine Or.inl ⟨fun q => (un.resolve_left (fun z => by omega)).2 q.2.2, ?_⟩
    exact ⟨z158_, r160_, z169_, r172_, z181_, r184_, z189_, z80_, r193_, M194_, e159_, hs164_, by rw [h171_, h168_], hs176_, by rw [h183_, h180_], hs188_, e190_, e81_, hF198_, hs200_, Or.inl ⟨(by rw [← z201_h]; exact h202_), (by rw [← z201_h]; exact h203_), by rw [hM_, ← z201_h]; exact hs210_⟩⟩
  · obtain rfl : j7_ = v.toInt.toNat := by omega
    have un := x9isOf hs156_ hk
    rw [q1] at un
    refine Or.inl ⟨fun q => (un.resolve_left (fun z => by omega)).2 q.2.2, ?_⟩
    exact ⟨z158_, r160_, z169_, r172_, z181_, r184_, z189_, z80_, r193_, M194_, e159_, hs164_, by rw [h171_, h168_], hs176_, by rw [h183_, h180_], hs188_, e190_, e81_, hF198_, hs200_, Or.inr (Or.inl ⟨(by rw [← z201_h]; exact h203_), by rw [hM_]; exact hs217_⟩)⟩
  · obtain rfl : j7_ = v.toInt.toNat := by omega
    have un := x9isOf hs156_ hk
    rw [q1] at un
    refine Or.inl ⟨fun q => (un.resolve_left (fun z => by omega)).2 q.2.2, ?_⟩
    exact ⟨z158_, r160_, z169_, r172_, z181_, r184_, z189_, z80_, r193_, M194_, e159_, hs164_, by rw [h171_, h168_], hs176_, by rw [h183_, h180_], hs188_, e190_, e81_, hF198_, hs200_, Or.inr (Or.inr ⟨(by rw [← z201_h]; exact h202_), by rw [hM_]; exact hs224_⟩)⟩
  · obtain rfl : j7_ = v.toInt.toNat := by omega
    have un := x9isOf hs156_ hk
    rw [q1] at un
    refine Or.inr ⟨⟨by rw [← e11_]; omega, by rw [← e11_, ← e81_, ← h83_]; assumption, (un.resolve_right (fun z => by omega)).2⟩, r225_, M226_, hs232_, ?_⟩
    exact ⟨z233_, r235_, z244_, r247_, z256_, r259_, z264_, z266_, r268_, M269_, e234_, hs239_, by rw [h246_, h243_], hs251_, by rw [h258_, h255_], hs263_, e265_, e267_, hF273_, hs275_, Or.inl ⟨(by rw [← z276_h]; exact h277_), (by rw [← z276_h]; exact h278_), by rw [hM_, ← z276_h]; exact hs285_⟩⟩
  · obtain rfl : j7_ = v.toInt.toNat := by omega
    have un := x9isOf hs156_ hk
    rw [q1] at un
    refine Or.inr ⟨⟨by rw [← e11_]; omega, by rw [← e11_, ← e81_, ← h83_]; assumption, (un.resolve_right (fun z => by omega)).2⟩, r225_, M226_, hs232_, ?_⟩
    exact ⟨z233_, r235_, z244_, r247_, z256_, r259_, z264_, z266_, r268_, M269_, e234_, hs239_, by rw [h246_, h243_], hs251_, by rw [h258_, h255_], hs263_, e265_, e267_, hF273_, hs275_, Or.inr (Or.inl ⟨(by rw [← z276_h]; exact h278_), by rw [hM_]; exact hs292_⟩)⟩
  · obtain rfl : j7_ = v.toInt.toNat := by omega
    have un := x9isOf hs156_ hk
    rw [q1] at un
    refine Or.inr ⟨⟨by rw [← e11_]; omega, by rw [← e11_, ← e81_, ← h83_]; assumption, (un.resolve_right (fun z => by omega)).2⟩, r225_, M226_, hs232_, ?_⟩
    exact ⟨z233_, r235_, z244_, r247_, z256_, r259_, z264_, z266_, r268_, M269_, e234_, hs239_, by rw [h246_, h243_], hs251_, by rw [h258_, h255_], hs263_, e265_, e267_, hF273_, hs275_, Or.inr (Or.inr ⟨(by rw [← z276_h]; exact h277_), by rw [hM_]; exact hs299_⟩)⟩
  · have q0 := il_0; have := x10has hs5_; omega
/-- the model's -/
def trD (s r : Int32) : Int32 := if r.toInt = 1 then (s + (1 : Int32)) &&& (7 : Int32) else if r.toInt = 2 then (s + (2 : Int32)) &&& (7 : Int32) else (s + (6 : Int32)) &&& (7 : Int32)
def HabD (v : Int32) (M M' : mM) : Prop := ∃ (r : Int32) (M2 : mM), InvD M2 ∧ FR S_c_X12_habitOf M M2 ∧ SP_X12_habitOf v M r M2 ∧ ((¬ r.toInt = 0 ∧ M' = up M2 (50, 0, 0) (182 + 9 * v.toInt.toNat) (trD (M2.1 (50, 0, 0) (182 + 9 * v.toInt.toNat)) r)) ∨ (r.toInt = 0 ∧ SP_X12_goesOn v M2 M'))
theorem wgD {v : Int32} {M M' : mM} (h : SP_X12_walkerGoes v M M') (hv : 0 ≤ v.toInt ∧ v.toInt ≤ 7) :
    ((M.1 (50, 0, 0) (186 + 9 * v.toInt.toNat)).toInt = 0 ∧ M' = M) ∨ (¬ (M.1 (50, 0, 0) (186 + 9 * v.toInt.toNat)).toInt = 0 ∧
      ((¬ clkP (M.1 (50, 0, 0) 0) (M.1 (50, 0, 0) (185 + 9 * v.toInt.toNat)) (M.1 (50, 0, 0) (180 + 9 * v.toInt.toNat)).toInt ∧ HabD v M M') ∨ (clkP (M.1 (50, 0, 0) 0) (M.1 (50, 0, 0) (185 + 9 * v.toInt.toNat)) (M.1 (50, 0, 0) (180 + 9 * v.toInt.toNat)).toInt ∧ ∃ (r : Int32) (M1 : mM), InvD M1 ∧ SP_X12_clicks v M r M1 ∧ HabD v M1 M'))) := by
  have q1 := il_1
  have i1 : (1 : Int32).toInt = 1 := by decide
  have i2 : (2 : Int32).toInt = 2 := by decide
  have i6 : (6 : Int32).toInt = 6 := by decide
  have T1 : ∀ {s r a x : Int32}, 0 ≤ s.toInt ∧ s.toInt ≤ 7 → a.toInt = s.toInt + 1 → x = a &&& (7 : Int32) → r.toInt = 1 → x = trD s r := fun {s r a x} hs ha hx hr => by
    unfold trD
    rw [if_pos hr, hx, show a = s + (1 : Int32) from i32e (by rw [ha, addI (x := s) rfl i1 (by omega) (by omega)])]
  have T2 : ∀ {s r a x : Int32}, 0 ≤ s.toInt ∧ s.toInt ≤ 7 → a.toInt = s.toInt + 2 → x = a &&& (7 : Int32) → r.toInt = 2 → x = trD s r := fun {s r a x} hs ha hx hr => by
    unfold trD
    rw [if_neg (by omega), if_pos hr, hx, show a = s + (2 : Int32) from i32e (by rw [ha, addI (x := s) rfl i2 (by omega) (by omega)])]
  have T6 : ∀ {s r a x : Int32}, 0 ≤ s.toInt ∧ s.toInt ≤ 7 → a.toInt = s.toInt + 6 → x = a &&& (7 : Int32) → ¬ r.toInt = 1 → ¬ r.toInt = 2 → x = trD s r := fun {s r a x} hs ha hx hr hr2 => by
    unfold trD
    rw [if_neg hr, if_neg hr2, hx, show a = s + (6 : Int32) from i32e (by rw [ha, addI (x := s) rfl i6 (by omega) (by omega)])]
  unfold clkP
  refine xE_SP_X12_walkerGoes h (fun r1_ hs5_ h4_ z6_ h7_ j10_ h11_ z8_ e9_ z12_ h13_ j16_ h17_ z14_ e15_ => ?_)
  obtain rfl : j10_ = 185 + 9 * v.toInt.toNat := by omega
  obtain rfl : j16_ = 186 + 9 * v.toInt.toNat := by omega
  refine ⟨(fun h18_ => ⟨(fun h19_ M21_ hI24_ hF25_ r20_ hs27_ => ⟨(fun h28_ z29_ h30_ z31_ h32_ j35_ h36_ z33_ e34_ h37_ => ⟨(fun h38_ => ⟨(fun h39_ z40_ h41_ z42_ h44_ h43_ j47_ h48_ M45_ hM46_ hM_ => ?_), (fun h39_ z51_ h52_ z53_ h55_ h54_ j58_ h59_ M56_ hM57_ hM_ => ?_)⟩), (fun h38_ z62_ h63_ z64_ h66_ h65_ j69_ h70_ M67_ hM68_ hM_ => ?_)⟩), (fun h28_ M73_ hI76_ hF77_ hs79_ hM_ => ?_)⟩), (fun h19_ z80_ e81_ z82_ h83_ => ⟨(fun h84_ M86_ hI89_ hF90_ r85_ hs92_ => ⟨(fun h93_ z94_ h95_ z96_ h97_ j100_ h101_ z98_ e99_ h102_ => ⟨(fun h103_ => ⟨(fun h104_ z105_ h106_ z107_ h109_ h108_ j112_ h113_ M110_ hM111_ hM_ => ?_), (fun h104_ z116_ h117_ z118_ h120_ h119_ j123_ h124_ M121_ hM122_ hM_ => ?_)⟩), (fun h103_ z127_ h128_ z129_ h131_ h130_ j134_ h135_ M132_ hM133_ hM_ => ?_)⟩), (fun h93_ M138_ hI141_ hF142_ hs144_ hM_ => ?_)⟩), (fun h84_ r145_ hs149_ h148_ r150_ hs154_ h153_ => ⟨(fun h155_ M157_ hI160_ hF161_ r156_ hs163_ => ⟨(fun h164_ z165_ h166_ z167_ h168_ j171_ h172_ z169_ e170_ h173_ => ⟨(fun h174_ => ⟨(fun h175_ z176_ h177_ z178_ h180_ h179_ j183_ h184_ M181_ hM182_ hM_ => ?_), (fun h175_ z187_ h188_ z189_ h191_ h190_ j194_ h195_ M192_ hM193_ hM_ => ?_)⟩), (fun h174_ z198_ h199_ z200_ h202_ h201_ j205_ h206_ M203_ hM204_ hM_ => ?_)⟩), (fun h164_ M209_ hI212_ hF213_ hs215_ hM_ => ?_)⟩), (fun h155_ M217_ hI220_ hF221_ r216_ hs223_ M225_ hI228_ hF229_ r224_ hs231_ => ⟨(fun h232_ z233_ h234_ z235_ h236_ j239_ h240_ z237_ e238_ h241_ => ⟨(fun h242_ => ⟨(fun h243_ z244_ h245_ z246_ h248_ h247_ j251_ h252_ M249_ hM250_ hM_ => ?_), (fun h243_ z255_ h256_ z257_ h259_ h258_ j262_ h263_ M260_ hM261_ hM_ => ?_)⟩), (fun h242_ z266_ h267_ z268_ h270_ h269_ j273_ h274_ M271_ hM272_ hM_ => ?_)⟩), (fun h232_ M277_ hI280_ hF281_ hs283_ hM_ => ?_)⟩)⟩)⟩)⟩), (fun h18_ hM_ => ?_)⟩
  all_goals
    rw [← e9_, ← e15_]
  · skip
    obtain rfl : j35_ = 182 + 9 * v.toInt.toNat := by omega
    obtain rfl : j47_ = 182 + 9 * v.toInt.toNat := by omega
    refine Or.inr ⟨h18_, Or.inl ⟨fun q => by omega, ?_⟩⟩
    exact ⟨r20_, M21_, hI24_, hF25_, hs27_, Or.inl ⟨h28_, by rw [hM_, hM46_, ← e34_, T6 h37_ h41_ h44_ h38_ h39_]⟩⟩
  · skip
    obtain rfl : j35_ = 182 + 9 * v.toInt.toNat := by omega
    obtain rfl : j58_ = 182 + 9 * v.toInt.toNat := by omega
    refine Or.inr ⟨h18_, Or.inl ⟨fun q => by omega, ?_⟩⟩
    exact ⟨r20_, M21_, hI24_, hF25_, hs27_, Or.inl ⟨h28_, by rw [hM_, hM57_, ← e34_, T2 h37_ h52_ h55_ h39_]⟩⟩
  · skip
    obtain rfl : j35_ = 182 + 9 * v.toInt.toNat := by omega
    obtain rfl : j69_ = 182 + 9 * v.toInt.toNat := by omega
    refine Or.inr ⟨h18_, Or.inl ⟨fun q => by omega, ?_⟩⟩
    exact ⟨r20_, M21_, hI24_, hF25_, hs27_, Or.inl ⟨h28_, by rw [hM_, hM68_, ← e34_, T1 h37_ h63_ h66_ h38_]⟩⟩
  · skip
    refine Or.inr ⟨h18_, Or.inl ⟨fun q => by omega, ?_⟩⟩
    exact ⟨r20_, M21_, hI24_, hF25_, hs27_, Or.inr ⟨h28_, by rw [hM_]; exact hs79_⟩⟩
  · skip
    obtain rfl : j100_ = 182 + 9 * v.toInt.toNat := by omega
    obtain rfl : j112_ = 182 + 9 * v.toInt.toNat := by omega
    refine Or.inr ⟨h18_, Or.inl ⟨fun q => h84_ (by rw [h83_, e81_]; exact q.2.1), ?_⟩⟩
    exact ⟨r85_, M86_, hI89_, hF90_, hs92_, Or.inl ⟨h93_, by rw [hM_, hM111_, ← e99_, T6 h102_ h106_ h109_ h103_ h104_]⟩⟩
  · skip
    obtain rfl : j100_ = 182 + 9 * v.toInt.toNat := by omega
    obtain rfl : j123_ = 182 + 9 * v.toInt.toNat := by omega
    refine Or.inr ⟨h18_, Or.inl ⟨fun q => h84_ (by rw [h83_, e81_]; exact q.2.1), ?_⟩⟩
    exact ⟨r85_, M86_, hI89_, hF90_, hs92_, Or.inl ⟨h93_, by rw [hM_, hM122_, ← e99_, T2 h102_ h117_ h120_ h104_]⟩⟩
  · skip
    obtain rfl : j100_ = 182 + 9 * v.toInt.toNat := by omega
    obtain rfl : j134_ = 182 + 9 * v.toInt.toNat := by omega
    refine Or.inr ⟨h18_, Or.inl ⟨fun q => h84_ (by rw [h83_, e81_]; exact q.2.1), ?_⟩⟩
    exact ⟨r85_, M86_, hI89_, hF90_, hs92_, Or.inl ⟨h93_, by rw [hM_, hM133_, ← e99_, T1 h102_ h128_ h131_ h103_]⟩⟩
  · skip
    refine Or.inr ⟨h18_, Or.inl ⟨fun q => h84_ (by rw [h83_, e81_]; exact q.2.1), ?_⟩⟩
    exact ⟨r85_, M86_, hI89_, hF90_, hs92_, Or.inr ⟨h93_, by rw [hM_]; exact hs144_⟩⟩
  · have kd := x12kindOf hs149_ hv
    have un := x12isUnder hs154_ h148_
    rw [q1, kd] at un
    obtain rfl : j171_ = 182 + 9 * v.toInt.toNat := by omega
    obtain rfl : j183_ = 182 + 9 * v.toInt.toNat := by omega
    refine Or.inr ⟨h18_, Or.inl ⟨fun q => (un.resolve_left (fun z => by omega)).2 q.2.2, ?_⟩⟩
    exact ⟨r156_, M157_, hI160_, hF161_, hs163_, Or.inl ⟨h164_, by rw [hM_, hM182_, ← e170_, T6 h173_ h177_ h180_ h174_ h175_]⟩⟩
  · have kd := x12kindOf hs149_ hv
    have un := x12isUnder hs154_ h148_
    rw [q1, kd] at un
    obtain rfl : j171_ = 182 + 9 * v.toInt.toNat := by omega
    obtain rfl : j194_ = 182 + 9 * v.toInt.toNat := by omega
    refine Or.inr ⟨h18_, Or.inl ⟨fun q => (un.resolve_left (fun z => by omega)).2 q.2.2, ?_⟩⟩
    exact ⟨r156_, M157_, hI160_, hF161_, hs163_, Or.inl ⟨h164_, by rw [hM_, hM193_, ← e170_, T2 h173_ h188_ h191_ h175_]⟩⟩
  · have kd := x12kindOf hs149_ hv
    have un := x12isUnder hs154_ h148_
    rw [q1, kd] at un
    obtain rfl : j171_ = 182 + 9 * v.toInt.toNat := by omega
    obtain rfl : j205_ = 182 + 9 * v.toInt.toNat := by omega
    refine Or.inr ⟨h18_, Or.inl ⟨fun q => (un.resolve_left (fun z => by omega)).2 q.2.2, ?_⟩⟩
    exact ⟨r156_, M157_, hI160_, hF161_, hs163_, Or.inl ⟨h164_, by rw [hM_, hM204_, ← e170_, T1 h173_ h199_ h202_ h174_]⟩⟩
  · have kd := x12kindOf hs149_ hv
    have un := x12isUnder hs154_ h148_
    rw [q1, kd] at un
    refine Or.inr ⟨h18_, Or.inl ⟨fun q => (un.resolve_left (fun z => by omega)).2 q.2.2, ?_⟩⟩
    exact ⟨r156_, M157_, hI160_, hF161_, hs163_, Or.inr ⟨h164_, by rw [hM_]; exact hs215_⟩⟩
  · have kd := x12kindOf hs149_ hv
    have un := x12isUnder hs154_ h148_
    rw [q1, kd] at un
    obtain rfl : j239_ = 182 + 9 * v.toInt.toNat := by omega
    obtain rfl : j251_ = 182 + 9 * v.toInt.toNat := by omega
    refine Or.inr ⟨h18_, Or.inr ⟨⟨by omega, by rw [← e81_, ← h83_]; assumption, (un.resolve_right (fun z => by omega)).2⟩, r216_, M217_, hI220_, hs223_, ?_⟩⟩
    exact ⟨r224_, M225_, hI228_, hF229_, hs231_, Or.inl ⟨h232_, by rw [hM_, hM250_, ← e238_, T6 h241_ h245_ h248_ h242_ h243_]⟩⟩
  · have kd := x12kindOf hs149_ hv
    have un := x12isUnder hs154_ h148_
    rw [q1, kd] at un
    obtain rfl : j239_ = 182 + 9 * v.toInt.toNat := by omega
    obtain rfl : j262_ = 182 + 9 * v.toInt.toNat := by omega
    refine Or.inr ⟨h18_, Or.inr ⟨⟨by omega, by rw [← e81_, ← h83_]; assumption, (un.resolve_right (fun z => by omega)).2⟩, r216_, M217_, hI220_, hs223_, ?_⟩⟩
    exact ⟨r224_, M225_, hI228_, hF229_, hs231_, Or.inl ⟨h232_, by rw [hM_, hM261_, ← e238_, T2 h241_ h256_ h259_ h243_]⟩⟩
  · have kd := x12kindOf hs149_ hv
    have un := x12isUnder hs154_ h148_
    rw [q1, kd] at un
    obtain rfl : j239_ = 182 + 9 * v.toInt.toNat := by omega
    obtain rfl : j273_ = 182 + 9 * v.toInt.toNat := by omega
    refine Or.inr ⟨h18_, Or.inr ⟨⟨by omega, by rw [← e81_, ← h83_]; assumption, (un.resolve_right (fun z => by omega)).2⟩, r216_, M217_, hI220_, hs223_, ?_⟩⟩
    exact ⟨r224_, M225_, hI228_, hF229_, hs231_, Or.inl ⟨h232_, by rw [hM_, hM272_, ← e238_, T1 h241_ h267_ h270_ h242_]⟩⟩
  · have kd := x12kindOf hs149_ hv
    have un := x12isUnder hs154_ h148_
    rw [q1, kd] at un
    refine Or.inr ⟨h18_, Or.inr ⟨⟨by omega, by rw [← e81_, ← h83_]; assumption, (un.resolve_right (fun z => by omega)).2⟩, r216_, M217_, hI220_, hs223_, ?_⟩⟩
    exact ⟨r224_, M225_, hI228_, hF229_, hs231_, Or.inr ⟨h232_, by rw [hM_]; exact hs283_⟩⟩
  · exact Or.inl ⟨h18_, hM_⟩
end
section
/-! a walker goes on -/
theorem OCC_wmove {b : Nat} {q q2 : rf → Nat → Int32} {n : Nat → Int32} {w : Nat} {x : Int32} {to c0 : Nat} (h : OCC b q n) (hN : nTh n ≤ 40) (hW : nWa n ≤ 8) (hw : (w : Int) < nWa n) (h0 : wcl n w = (c0 : Int)) (hx : x.toInt = (to : Int)) (hto : to < 192) (hf : occ b q to = -1)
    (ho : ∀ k, occ b q2 k = if k = to then 100 + (w : Int) else if k = c0 then -1 else occ b q k) : OCC b q2 (upd n (181 + 9 * w) x) := by
  obtain ⟨h1, h2, h3⟩ := h
  have o0 := h2 w hw
  rw [h0, Int.toNat_natCast] at o0
  have et : nTh (upd n (181 + 9 * w) x) = nTh n := by unfold nTh; rw [updN (by omega)]
  have ew : nWa (upd n (181 + 9 * w) x) = nWa n := by unfold nWa; rw [updN (by omega)]
  have wE : wcl (upd n (181 + 9 * w) x) w = (to : Int) := by unfold wcl; rw [updE rfl]; exact hx
  have wN : ∀ s : Nat, ¬ s = w → wcl (upd n (181 + 9 * w) x) s = wcl n s := fun s hs => by unfold wcl; rw [updN (by omega)]
  have tN : ∀ t : Nat, (t : Int) < nTh n → tcl (upd n (181 + 9 * w) x) t = tcl n t := fun t ht => by unfold tcl; rw [updN (by omega)]
  unfold OCC
  rw [et, ew]
  refine ⟨fun s hs hp => ?_, fun u hu => ?_, fun c hc => ?_⟩
  · rw [tN s hs] at hp ⊢
    have g := h1 s hs hp
    rw [ho, if_neg (fun z => by rw [z] at g; omega), if_neg (fun z => by rw [z] at g; omega)]
    exact g
  · by_cases e : u = w
    · rw [e, wE, ho, if_pos (by omega)]
    · rw [wN u e]
      have g := h2 u hu
      rw [ho, if_neg (fun z => by rw [z] at g; omega), if_neg (fun z => by rw [z] at g; omega)]
      exact g
  · rw [ho]
    by_cases e : c = to
    · rw [if_pos e]
      exact Or.inr (Or.inr ⟨by omega, by omega, by rw [show (100 + (w : Int) - 100).toNat = w by omega, wE, e]⟩)
    · rw [if_neg e]
      by_cases e2 : c = c0
      · rw [if_pos e2]; exact Or.inl rfl
      · rw [if_neg e2]
        rcases h3 c hc with o | ⟨o1, o2, o3⟩ | ⟨o1, o2, o3⟩
        · exact Or.inl o
        · exact Or.inr (Or.inl ⟨o1, o2, by rw [tN _ (by omega)]; exact o3⟩)
        · refine Or.inr (Or.inr ⟨o1, o2, ?_⟩)
          rw [wN _ (fun z => by rw [z, h0] at o3; omega)]
          exact o3
theorem WRR_wmove {b : Nat} {M D : mM} {w to c0 : Nat} {x i : Int32} (h : WRR b M.1 (D.1 (50, 0, 0))) (hN : NW5 (D.1 (50, 0, 0))) (hw : (w : Int) < nWa (D.1 (50, 0, 0))) (hi : i.toInt = 100 + (w : Int)) (h0 : wcl (D.1 (50, 0, 0)) w = (c0 : Int)) (hx : x.toInt = (to : Int)) (hto : to < 192) (hf : occ b M.1 to = -1) :
    WRR b (up (up (up M (35, b, 0) c0 (-1)) (35, b, 0) to i) (9, b, w) 1 x).1 ((up D (50, 0, 0) (181 + 9 * w) x).1 (50, 0, 0)) := by
  have b1 := nTh_b hN
  have b2 := nWa_b hN
  rw [up_row]
  have nn : ∀ j, ¬ j = 181 + 9 * w → upd (D.1 (50, 0, 0)) (181 + 9 * w) x j = D.1 (50, 0, 0) j := fun j hj => updN hj
  have qq : ∀ (c : rf) (k : Nat), ¬ c.1 = 35 → ¬ c.1 = 9 → (up (up (up M (35, b, 0) c0 (-1)) (35, b, 0) to i) (9, b, w) 1 x).1 c k = M.1 c k := fun c k h1 h2 => by
    rw [zupR rfl h2, zupR rfl h1, zupR rfl h1]
  have ew : nWa (upd (D.1 (50, 0, 0)) (181 + 9 * w) x) = nWa (D.1 (50, 0, 0)) := by unfold nWa; rw [nn 2 (by omega)]
  refine ⟨LWR_keep h.1 (fun r k hr => qq _ _ (by dsimp only; omega) (by dsimp only; omega)) (fun j hj => nn j (by omega)), THR_keep h.2.1 b1.2 (fun r k hr => qq _ _ (by dsimp only; omega) (by dsimp only; omega)) (fun j hj => nn j (by omega)), ?_,
    TXR_keep h.2.2.2.1 (TXz hN) (fun r u k hr hu => qq _ _ (by dsimp only; omega) (by dsimp only; omega)) (fun j h1 h2 => nn j (by omega)), ?_, MIR_keep h.2.2.2.2.2 b1.2 b2.2 (fun j hj => nn j (by omega)) (fun u h1 h2 => ⟨fun k hk => nn _ (by omega), fun c hc => nn _ (by omega)⟩)⟩
  · refine ⟨by rw [qq _ _ (by simp) (by simp), nn 2 (by omega)]; exact h.2.2.1.1, fun u hu => ⟨fun k hk => ?_, fun c hc => ?_⟩⟩
    · rw [ew] at hu
      by_cases e : u = w ∧ k = 1
      · rw [e.1, e.2, zupE rfl rfl rfl, updE (by omega)]
      · rw [zupN rfl (fun z => e ⟨congrArg (fun c : rf => c.2.2) z.1, z.2⟩), zupR rfl (by simp), zupR rfl (by simp), nn _ (by omega)]; exact (h.2.2.1.2 u hu).1 k hk
    · rw [ew] at hu
      rw [qq _ _ (by simp) (by simp), qq _ _ (by simp) (by simp), nn _ (by omega), nn _ (by omega)]
      exact (h.2.2.1.2 u hu).2 c hc
  · refine OCC_wmove h.2.2.2.2.1 b1.2 b2.2 hw h0 hx hto hf (fun k => ?_)
    unfold occ
    rw [zupR (c' := (35, b, 0)) rfl (by simp)]
    by_cases e : k = to
    · rw [if_pos e, zupE rfl rfl e]; exact hi
    · rw [if_neg e, zupN rfl (fun z => e z.2)]
      by_cases e2 : k = c0
      · rw [if_pos e2, zupE rfl rfl e2]; exact il_m1
      · rw [if_neg e2, zupN rfl (fun z => e2 z.2)]
/-- two loops that stop together -/
theorem RTC_pre {α : Type} {S : α → α → Prop} {a : α} : ∀ (n m : Nat) (z : α), n < m → RTC S a m z → ∃ y y', RTC S a n y ∧ S y y'
  | n, 0, _, h, _ => absurd h (Nat.not_lt_zero n)
  | n, m + 1, z, h, ⟨x, h1, h2⟩ => by
    rcases Nat.lt_or_ge n m with q | q
    · exact RTC_pre n m x q h1
    · obtain rfl : n = m := by omega
      exact ⟨x, z, h1, h2⟩
theorem lockE {α β : Type} {S : α → α → Prop} {T : β → β → Prop} (R : α → β → Prop) {a z : α} {b w : β} (ha : RCH S a z) (hb : RCH T b w) (h0 : R a b)
    (hst : ∀ x z y w, R x y → S x z → T y w → R z w) (n1 : ∀ y y', R z y → T y y' → False) (n2 : ∀ x x', R x w → S x x' → False) : R z w := by
  obtain ⟨n, hn⟩ := ha
  obtain ⟨m, hm⟩ := hb
  have all : ∀ (k : Nat) (x : α) (y : β), RTC S a k x → RTC T b k y → R x y := fun k => by
    induction k with
    | zero =>
      intro x y h1 h2
      have e1 : a = x := h1
      have e2 : b = y := h2
      subst e1 e2
      exact h0
    | succ k ih =>
      rintro x y ⟨x0, h1, h2⟩ ⟨y0, g1, g2⟩
      exact hst x0 x y0 y (ih x0 y0 h1 g1) h2 g2
  rcases Nat.lt_trichotomy n m with q | q | q
  · obtain ⟨y, y', h1, h2⟩ := RTC_pre n m w q hm
    exact (n1 y y' (all n z y hn h1) h2).elim
  · subst q
    exact all n z w hn hm
  · obtain ⟨x, x', h1, h2⟩ := RTC_pre m n z q hn
    exact (n2 x x' (all m x w h1 hm) h2).elim
/-- a number of a head's yes changes -/
theorem WRR_yes {b w k : Nat} {M D : mM} {x : Int32} (h : WRR b M.1 (D.1 (50, 0, 0))) (hN : NW5 (D.1 (50, 0, 0))) (hw : (w : Int) < nWa (D.1 (50, 0, 0))) (hk : k < 192) : WRR b (up M (40, b, w) k x).1 ((up D (50, 0, 0) (495 + 384 * w + k) x).1 (50, 0, 0)) := by
  rw [up_row]
  refine WRR_heads h hN hw (fun c j h1 h2 h3 h4 => by rw [up_other _ _ h3]) (fun j hj => updN (by omega)) (fun j hj => ⟨?_, ?_⟩)
  · by_cases e : j = k
    · rw [updE (by omega)]; exact zupE rfl rfl e
    · rw [updN (by omega), zupN rfl (fun z => e z.2)]; exact ((h.2.2.1.2 w hw).2 j hj).1
  · rw [updN (by omega), zupR rfl (by simp)]; exact ((h.2.2.1.2 w hw).2 j hj).2
def goR (b : Nat) (v : Int32) (M D : mM) : Prop := WRR b M.1 (D.1 (50, 0, 0)) ∧ InvD D ∧ (D.1 (12, 0, 0) 7).toInt = -1 ∧ v.toInt < nWa (D.1 (50, 0, 0))
theorem free_both {b : Nat} {c s r r2 f g : Int32} {M D : mM} (h1 : SP_X7_cellFrom c s 1 M r) (h2 : SP_X7_isFree b r M f) (h3 : onP c s 1 r2) (h4 : 0 ≤ r2.toInt → SP_X12_isFree r2 D g) (hO : OCC b M.1 (D.1 (50, 0, 0))) (hu : (D.1 (12, 0, 0) 7).toInt = -1) (hc : 0 ≤ c.toInt ∧ c.toInt ≤ 191) (hs : 0 ≤ s.toInt ∧ s.toInt ≤ 7) :
    r = r2 ∧ (-1 ≤ r.toInt ∧ r.toInt ≤ 191) ∧ ((f.toInt = 1 ∧ 0 ≤ r.toInt ∧ g.toInt = 1 ∧ occ b M.1 r.toInt.toNat = -1) ∨ (f.toInt = 0 ∧ (r.toInt < 0 ∨ (0 ≤ r.toInt ∧ g.toInt = 0)))) := by
  have q1 := il_1
  have cf := cF_spec h1
  have on := on_spec h3 hc hs (by omega)
  have ob := onI_b (c := c.toInt) (s := s.toInt) (y := (1 : Int32).toInt)
  obtain rfl : r = r2 := i32e (by omega)
  have fr := x7free h2
  refine ⟨rfl, by omega, ?_⟩
  by_cases p : 0 ≤ r.toInt
  · have gr := x12free (h4 p) hO (by omega) (by omega)
    omega
  · omega
end
section
theorem RCH_mono {α : Type} {S T : α → α → Prop} {a z : α} (h : RCH S a z) (hs : ∀ x y, S x y → T x y) : RCH T a z := rind h (fun z => RCH T a z) RCH.refl (fun x y p s => RCH.tail p (hs x y s))
/-- the model's steps on -/
def gsD (w : Nat) (x y : Int32 × mM) : Prop := 0 < x.1.toInt ∧ y.1.toInt = x.1.toInt - 1 ∧ ∃ r g : Int32, onP (x.2.1 (50, 0, 0) (181 + 9 * w)) (x.2.1 (50, 0, 0) (182 + 9 * w)) 1 r ∧ 0 ≤ r.toInt ∧ SP_X12_isFree r x.2 g ∧ ¬ g.toInt = 0 ∧ y.2 = up x.2 (50, 0, 0) (181 + 9 * w) r
def geD (w : Nat) (x : Int32 × mM) (D : mM) : Prop := (x.1.toInt ≤ 0 ∧ D = x.2) ∨ (0 < x.1.toInt ∧ ∃ r g : Int32, onP (x.2.1 (50, 0, 0) (181 + 9 * w)) (x.2.1 (50, 0, 0) (182 + 9 * w)) 1 r ∧
  ((r.toInt < 0 ∧ D = up x.2 (50, 0, 0) (187 + 9 * w) (x.2.1 (50, 0, 0) (187 + 9 * w) + (1 : Int32))) ∨ (0 ≤ r.toInt ∧ SP_X12_isFree r x.2 g ∧ g.toInt = 0 ∧ D = up (up x.2 (50, 0, 0) (187 + 9 * w) (x.2.1 (50, 0, 0) (187 + 9 * w) + (1 : Int32))) (50, 0, 0) (495 + 384 * w + r.toInt.toNat) (bmp (x.2.1 (50, 0, 0) (495 + 384 * w + r.toInt.toNat)) 3))))
theorem goDx {v : Int32} {M M' : mM} (h : SP_X12_goesOn v M M') (hv : 0 ≤ v.toInt ∧ v.toInt ≤ 7) : ∃ (s0 : Int32) (z : Int32 × mM), s0.toInt = speedI (M.1 (50, 0, 0) (180 + 9 * v.toInt.toNat)).toInt ∧ RCH (gsD v.toInt.toNat) (s0, M) z ∧ InvD z.2 ∧ geD v.toInt.toNat z M' := by
  have i1 : (1 : Int32).toInt = 1 := by decide
  have i2 : (2 : Int32).toInt = 2 := by decide
  unfold SP_X12_goesOn at h
  obtain ⟨r1_, hs5_, h4_, r6_, hs10_, h9_, h⟩ := h
  have kd := x12kindOf hs10_ hv
  have st1 : ∀ x y : Int32 × mM, ST_X12_goesOn_22 M r1_ x.1 x.2 y.1 y.2 → gsD v.toInt.toNat x y := fun x y st => by
    obtain ⟨x1, x2⟩ := x
    obtain ⟨y1, y2⟩ := y
    unfold gsD
    (try dsimp only at st ⊢)
    refine xE_ST_X12_goesOn_22 st (fun p_hv0_22 _ p_hF_22 p_h13_ p_z14_ p_h15_ p_j18_ p_h19_ p_z16_ p_e17_ p_h20_ p_z21_ p_h22_ p_j25_ p_h26_ p_z23_ p_e24_ p_h27_ p_r28_ p_hs32_ p_h31_ p_h33_ p_r49_ p_hs53_ p_h52_ p_h54_ p_z55_ p_h56_ p_j59_ p_h60_ p_M57_ p_hM58_ p_z63_ p_h64_ p_hq_v3_22y p_hM_ => ?_)
    obtain rfl : p_j18_ = 181 + 9 * v.toInt.toNat := by omega
    obtain rfl : p_j25_ = 182 + 9 * v.toInt.toNat := by omega
    obtain rfl : p_j59_ = 181 + 9 * v.toInt.toNat := by omega
    rw [← p_e17_, ← p_e24_]
    exact ⟨p_h13_, by rw [p_hq_v3_22y]; omega, p_r28_, p_r49_, p_h31_.1, p_h33_, p_hs53_, p_h54_, by rw [p_hM_, p_hM58_]⟩
  have st2 : ∀ x y : Int32 × mM, ST_X12_goesOn_22b M r1_ x.1 x.2 y.1 y.2 → gsD v.toInt.toNat x y := fun x y st => by
    obtain ⟨x1, x2⟩ := x
    obtain ⟨y1, y2⟩ := y
    unfold gsD
    (try dsimp only at st ⊢)
    refine xE_ST_X12_goesOn_22b st (fun p_hv0_22 _ p_hF_22 p_h93_ p_z94_ p_h95_ p_j98_ p_h99_ p_z96_ p_e97_ p_h100_ p_z101_ p_h102_ p_j105_ p_h106_ p_z103_ p_e104_ p_h107_ p_r108_ p_hs112_ p_h111_ p_h113_ p_r129_ p_hs133_ p_h132_ p_h134_ p_z135_ p_h136_ p_j139_ p_h140_ p_M137_ p_hM138_ p_z143_ p_h144_ p_hq_v3_22y p_hM_ => ?_)
    obtain rfl : p_j98_ = 181 + 9 * v.toInt.toNat := by omega
    obtain rfl : p_j105_ = 182 + 9 * v.toInt.toNat := by omega
    obtain rfl : p_j139_ = 181 + 9 * v.toInt.toNat := by omega
    rw [← p_e97_, ← p_e104_]
    exact ⟨p_h93_, by rw [p_hq_v3_22y]; omega, p_r108_, p_r129_, p_h111_.1, p_h113_, p_hs133_, p_h134_, by rw [p_hM_, p_hM138_]⟩
  rcases h with ⟨h11_, v3_22, hv0_22, M_22, hL_22, hI_22, hF_22, h⟩ | ⟨h11_, v3_22, hv0_22, M_22, hL_22, hI_22, hF_22, h⟩
  · refine ⟨1, (v3_22, M_22), by rw [kd] at h11_; unfold speedI; rw [if_neg h11_, i1], RCH_mono hL_22 st1, hI_22, ?_⟩
    unfold geD
    (try dsimp only)
    rcases h with ⟨h13_, hM_⟩ | ⟨h13_, z14_, h15_, j18_, h19_, z16_, e17_, h20_, z21_, h22_, j25_, h26_, z23_, e24_, h27_, r28_, hs32_, h31_, h⟩
    · exact Or.inl ⟨h13_, hM_⟩
    · obtain rfl : j18_ = 181 + 9 * v.toInt.toNat := by omega
      obtain rfl : j25_ = 182 + 9 * v.toInt.toNat := by omega
      rw [← e17_, ← e24_]
      rcases h with ⟨h33_, z34_, h35_, j38_, h39_, z36_, e37_, z40_, h41_, j44_, h45_, M42_, hM43_, h48_, hM_⟩ | ⟨h33_, r49_, hs53_, h52_, h54_, z65_, h66_, j69_, h70_, z67_, e68_, z71_, h72_, j75_, h76_, M73_, hM74_, h79_, hI77_, r80_, hs84_, h83_, M85_, hI88_, hF89_, hs91_, hM_⟩
      · obtain rfl : j38_ = 187 + 9 * v.toInt.toNat := by omega
        obtain rfl : j44_ = 187 + 9 * v.toInt.toNat := by omega
        exact Or.inr ⟨h13_, r28_, r28_, h31_.1, Or.inl ⟨h33_, by rw [hM_, hM43_, h41_, e37_]⟩⟩
      · obtain rfl : j69_ = 187 + 9 * v.toInt.toNat := by omega
        obtain rfl : j75_ = 187 + 9 * v.toInt.toNat := by omega
        have ad := x12more hs91_
        rw [show r80_.toInt.toNat = 495 + 384 * v.toInt.toNat + r28_.toInt.toNat by omega] at ad
        exact Or.inr ⟨h13_, r28_, r49_, h31_.1, Or.inr ⟨h33_, hs53_, h54_, by rw [hM_, ad, hM74_, h72_, e68_, up_row, updN (by omega)]⟩⟩
  · refine ⟨2, (v3_22, M_22), by rw [kd] at h11_; unfold speedI; rw [if_pos h11_, i2], RCH_mono hL_22 st2, hI_22, ?_⟩
    unfold geD
    (try dsimp only)
    rcases h with ⟨h13_, hM_⟩ | ⟨h13_, z14_, h15_, j18_, h19_, z16_, e17_, h20_, z21_, h22_, j25_, h26_, z23_, e24_, h27_, r28_, hs32_, h31_, h⟩
    · exact Or.inl ⟨h13_, hM_⟩
    · obtain rfl : j18_ = 181 + 9 * v.toInt.toNat := by omega
      obtain rfl : j25_ = 182 + 9 * v.toInt.toNat := by omega
      rw [← e17_, ← e24_]
      rcases h with ⟨h33_, z34_, h35_, j38_, h39_, z36_, e37_, z40_, h41_, j44_, h45_, M42_, hM43_, h48_, hM_⟩ | ⟨h33_, r49_, hs53_, h52_, h54_, z65_, h66_, j69_, h70_, z67_, e68_, z71_, h72_, j75_, h76_, M73_, hM74_, h79_, hI77_, r80_, hs84_, h83_, M85_, hI88_, hF89_, hs91_, hM_⟩
      · obtain rfl : j38_ = 187 + 9 * v.toInt.toNat := by omega
        obtain rfl : j44_ = 187 + 9 * v.toInt.toNat := by omega
        exact Or.inr ⟨h13_, r28_, r28_, h31_.1, Or.inl ⟨h33_, by rw [hM_, hM43_, h41_, e37_]⟩⟩
      · obtain rfl : j69_ = 187 + 9 * v.toInt.toNat := by omega
        obtain rfl : j75_ = 187 + 9 * v.toInt.toNat := by omega
        have ad := x12more hs91_
        rw [show r80_.toInt.toNat = 495 + 384 * v.toInt.toNat + r28_.toInt.toNat by omega] at ad
        exact Or.inr ⟨h13_, r28_, r49_, h31_.1, Or.inr ⟨h33_, hs53_, h54_, by rw [hM_, ad, hM74_, h72_, e68_, up_row, updN (by omega)]⟩⟩
/-- the class's steps on -/
def gsC (b : Nat) (v : Int32) (w : Nat) (x y : Int32 × mM) : Prop := ∃ sp r f : Int32, SP_X9_speed b w x.2 sp ∧ x.1.toInt < sp.toInt ∧ y.1.toInt = x.1.toInt + 1 ∧ SP_X7_cellFrom (x.2.1 (9, b, w) 1) (x.2.1 (9, b, w) 2) 1 x.2 r ∧ SP_X7_isFree b r x.2 f ∧ f.toInt = 1 ∧ 0 ≤ r.toInt ∧ r.toInt ≤ 191 ∧
  ∃ z : Int32, z.toInt = 100 + v.toInt ∧ ((0 ≤ (x.2.1 (9, b, w) 1).toInt ∧ (x.2.1 (9, b, w) 1).toInt ≤ 191) → y.2 = up (up (up x.2 (35, b, 0) (x.2.1 (9, b, w) 1).toInt.toNat (-1)) (35, b, 0) r.toInt.toNat z) (9, b, w) 1 r)
def geC (b : Nat) (w : Nat) (x : Int32 × mM) (M : mM) : Prop := ∃ sp : Int32, SP_X9_speed b w x.2 sp ∧ ((sp.toInt ≤ x.1.toInt ∧ M = x.2) ∨ (x.1.toInt < sp.toInt ∧ ∃ r f : Int32, SP_X7_cellFrom (x.2.1 (9, b, w) 1) (x.2.1 (9, b, w) 2) 1 x.2 r ∧ SP_X7_isFree b r x.2 f ∧ f.toInt = 0 ∧
  ((r.toInt < 0 ∧ M = up x.2 (9, b, w) 7 (x.2.1 (9, b, w) 7 + (1 : Int32))) ∨ (0 ≤ r.toInt ∧ r.toInt ≤ 191 ∧ M = up (up x.2 (9, b, w) 7 (x.2.1 (9, b, w) 7 + (1 : Int32))) (40, b, w) r.toInt.toNat (bmp (x.2.1 (40, b, w) r.toInt.toNat) 3)))))
theorem goCx {b : Nat} {v : Int32} {M M' : mM} (h : SP_X10_goOn b v M M') (hv : 0 ≤ v.toInt ∧ v.toInt < (M.1 (10, b, 0) 6).toInt ∧ v.toInt < 8) : ∃ z : Int32 × mM, RCH (gsC b v v.toInt.toNat) (0, M) z ∧ geC b v.toInt.toNat z M' := by
  have q0 := il_0
  have q1 := il_1
  have st : ∀ x y : Int32 × mM, ST_X10_goOn_18 b v M v.toInt.toNat x.1 x.2 y.1 y.2 → gsC b v v.toInt.toNat x y := fun x y st => by
    obtain ⟨x1, x2⟩ := x
    obtain ⟨y1, y2⟩ := y
    unfold gsC
    (try dsimp only at st ⊢)
    refine xE_ST_X10_goOn_18 st (fun p_hv0_18 _ p_hF_18 p_r11_ p_hs15_ p_h14_ p_h16_ p_z17_ p_e18_ p_z19_ p_e20_ p_r21_ p_hs25_ p_h24_ p_hs30_ p_h29_ p_M34_ _ p_hF38_ p_hs40_ p_z41_ p_h42_ p_M43_ _ p_hF47_ p_hs49_ p_M50_ p_hM51_ p_z54_ p_h55_ p_hq_v3_18y p_hM_ => ?_)
    rw [p_e18_, p_e20_] at p_hs25_
    refine ⟨p_r11_, p_r21_, 1, p_hs15_, p_h16_, by rw [p_hq_v3_18y]; omega, p_hs25_, p_hs30_, il_1, p_h29_.1, p_h29_.2, p_z41_, p_h42_, fun cb => ?_⟩
    rw [p_hM_, p_hM51_, x7settle p_hs49_ p_h29_, x7settle p_hs40_ (by rw [p_e18_]; exact cb), p_e18_]
  refine xE_SP_X10_goOn h ⟨(fun hs5_ h4_ j7_ h8_ h9_ v3_18 hv0_18 M_18 hL_18 _ hF_18 r11_ hs15_ h14_ => ⟨(fun h16_ hM_ => ?_), (fun h16_ z17_ e18_ z19_ e20_ r21_ hs25_ h24_ hs30_ z57_ e58_ z59_ h60_ M61_ hM62_ _ M65_ _ hF69_ hs71_ hM_ => ?_)⟩), (fun hs5_ hM_ => ?_)⟩
  · obtain rfl : j7_ = v.toInt.toNat := by omega
    exact ⟨(v3_18, M_18), RCH_mono hL_18 st, r11_, hs15_, Or.inl ⟨h16_, hM_⟩⟩
  · obtain rfl : j7_ = v.toInt.toNat := by omega
    rw [e18_, e20_] at hs25_
    refine ⟨(v3_18, M_18), RCH_mono hL_18 st, r11_, hs15_, Or.inr ⟨h16_, r21_, 0, hs25_, hs30_, il_0, ?_⟩⟩
    (try dsimp only)
    by_cases p : 0 ≤ r21_.toInt
    · have ad := x9addYes hs71_ ⟨p, h24_.2⟩
      exact Or.inr ⟨p, h24_.2, by rw [hM_, ad, hM62_, h60_, e58_, zupR rfl (by simp)]⟩
    · refine Or.inl ⟨by omega, ?_⟩
      rw [hM_]
      refine xE_SP_X9_addYes hs71_ ⟨(fun k_hs5_ k_h4_ k_j9_ k_h10_ k_z7_ k_e8_ k_z11_ k_h12_ k_z13_ k_h14_ k_j17_ k_h18_ k_M15_ k_hM16_ k_hM_ => ?_), (fun k_hs5_ k_h4_ k_hM_ => ?_)⟩
      · omega
      · rw [k_hM_, hM62_, h60_, e58_]
  · have := x10has hs5_
    omega
theorem go_both {b : Nat} {v : Int32} {M M' D D2 : mM} (h1 : SP_X10_goOn b v M M') (h2 : SP_X12_goesOn v D D2) (hR : WRR b M.1 (D.1 (50, 0, 0))) (hD : InvD D) (hu : (D.1 (12, 0, 0) 7).toInt = -1) (hv : 0 ≤ v.toInt ∧ v.toInt < nWa (D.1 (50, 0, 0))) : WRR b M'.1 (D2.1 (50, 0, 0)) := by
  have q0 := il_0
  have nw := nWa_b hD.2.1
  have hc := eT hR.2.2.1.1
  obtain ⟨z, c1, c2⟩ := goCx h1 ⟨hv.1, by unfold nWa at hv; omega, by omega⟩
  obtain ⟨s0, y, d0, d1, d2, d3⟩ := goDx h2 ⟨hv.1, by omega⟩
  -- what both hold as they go along
  have facts : ∀ {x : Int32 × mM} {y : Int32 × mM}, WRR b x.2.1 (y.2.1 (50, 0, 0)) → NW5 (y.2.1 (50, 0, 0)) → v.toInt < nWa (y.2.1 (50, 0, 0)) → x.2.1 (9, b, v.toInt.toNat) 1 = y.2.1 (50, 0, 0) (181 + 9 * v.toInt.toNat) ∧ x.2.1 (9, b, v.toInt.toNat) 2 = y.2.1 (50, 0, 0) (182 + 9 * v.toInt.toNat) ∧ x.2.1 (9, b, v.toInt.toNat) 0 = y.2.1 (50, 0, 0) (180 + 9 * v.toInt.toNat) ∧ x.2.1 (9, b, v.toInt.toNat) 7 = y.2.1 (50, 0, 0) (187 + 9 * v.toInt.toNat) ∧
      (0 ≤ (y.2.1 (50, 0, 0) (180 + 9 * v.toInt.toNat)).toInt ∧ (y.2.1 (50, 0, 0) (180 + 9 * v.toInt.toNat)).toInt ≤ 7) ∧ (0 ≤ (y.2.1 (50, 0, 0) (181 + 9 * v.toInt.toNat)).toInt ∧ (y.2.1 (50, 0, 0) (181 + 9 * v.toInt.toNat)).toInt ≤ 191) ∧ (0 ≤ (y.2.1 (50, 0, 0) (182 + 9 * v.toInt.toNat)).toInt ∧ (y.2.1 (50, 0, 0) (182 + 9 * v.toInt.toNat)).toInt ≤ 7) := fun {x y} r i l => by
    have w9 := (r.2.2.1.2 v.toInt.toNat (by omega)).1
    have a1 := w9 1 (by omega)
    have a2 := w9 2 (by omega)
    have a0 := w9 0 (by omega)
    have a7 := w9 7 (by omega)
    rw [show 180 + 9 * v.toInt.toNat + 1 = 181 + 9 * v.toInt.toNat by omega] at a1
    rw [show 180 + 9 * v.toInt.toNat + 2 = 182 + 9 * v.toInt.toNat by omega] at a2
    rw [show 180 + 9 * v.toInt.toNat + 0 = 180 + 9 * v.toInt.toNat by omega] at a0
    rw [show 180 + 9 * v.toInt.toNat + 7 = 187 + 9 * v.toInt.toNat by omega] at a7
    exact ⟨a1, a2, a0, a7, ((i.1 (180 + 9 * v.toInt.toNat)).2.2.2.2.2.2.2 (by omega) (by omega)).1 (by omega), ((i.1 (181 + 9 * v.toInt.toNat)).2.2.2.2.2.2.2 (by omega) (by omega)).2.1 (by omega), ((i.1 (182 + 9 * v.toInt.toNat)).2.2.2.2.2.2.2 (by omega) (by omega)).2.2 (by omega)⟩
  have spd : ∀ {x : Int32 × mM} {sp : Int32} {k : Int32}, SP_X9_speed b v.toInt.toNat x.2 sp → x.2.1 (9, b, v.toInt.toNat) 0 = k → 0 ≤ k.toInt ∧ k.toInt ≤ 7 → sp.toInt = speedI k.toInt := fun {x sp k} h e hk => by
    have := x9speed h (by rw [e]; exact hk)
    rw [this, e]
  have L := lockE (fun x y : Int32 × mM => WRR b x.2.1 (y.2.1 (50, 0, 0)) ∧ NW5 (y.2.1 (50, 0, 0)) ∧ (y.2.1 (12, 0, 0) 7).toInt = -1 ∧ v.toInt < nWa (y.2.1 (50, 0, 0)) ∧ y.2.1 (50, 0, 0) (180 + 9 * v.toInt.toNat) = D.1 (50, 0, 0) (180 + 9 * v.toInt.toNat) ∧ x.1.toInt + y.1.toInt = s0.toInt) c1 d1 ⟨hR, hD.2.1, hu, hv.2, rfl, by dsimp only; omega⟩
    (fun x z y w r s t => by
      obtain ⟨r1, r2, r3, r4, r5, r6⟩ := r
      obtain ⟨sp, rr, f, s1, s2, s3, s4, s5, s6, s7, s8, zz, s9, s10⟩ := s
      obtain ⟨t1, t2, rd, g, t3, t4, t5, t6, t7⟩ := t
      obtain ⟨f1, f2, f0, f7, b0, b1, b2⟩ := facts r1 r2 r4
      rw [f1, f2] at s4
      have fb := free_both s4 s5 t3 (fun _ => t5) r1.2.2.2.2.1 r3 b1 b2
      obtain rfl : rr = rd := fb.1
      have s10 := s10 (by rw [f1]; exact b1)
      rw [f1] at s10
      have rw2 := WRR_wmove (x := rr) (i := zz) (to := rr.toInt.toNat) (c0 := (y.2.1 (50, 0, 0) (181 + 9 * v.toInt.toNat)).toInt.toNat) r1 r2 (w := v.toInt.toNat) (by omega) (by omega) (by unfold wcl; omega) (by omega) (by omega) (by omega)
      rw [← s10, ← t7] at rw2
      refine ⟨rw2, ?_, by rw [t7, up_other _ _ (by simp)]; exact r3, by rw [t7, up_row]; unfold nWa; rw [updN (by omega)]; exact r4, by rw [t7, up_row, updN (by omega)]; exact r5, by omega⟩
      rw [t7, up_row]
      refine ⟨PN_upd r2.1 ?_, WT_upd r2.2 (by omega)⟩
      unfold PN
      omega)
    (fun y y' r t => by
      obtain ⟨r1, r2, r3, r4, r5, r6⟩ := r
      obtain ⟨sp, e1, e2⟩ := c2
      obtain ⟨t1, t2, rd, g, t3, t4, t5, t6, t7⟩ := t
      obtain ⟨f1, f2, f0, f7, b0, b1, b2⟩ := facts r1 r2 r4
      have es := spd e1 f0 b0
      rw [r5, ← d0] at es
      rcases e2 with e2 | ⟨e2, rr, f, e3, e4, e5, e6⟩
      · omega
      · rw [f1, f2] at e3
        have fb := free_both e3 e4 t3 (fun _ => t5) r1.2.2.2.2.1 r3 b1 b2
        have := fb.1
        subst this
        omega)
    (fun x x' r s => by
      obtain ⟨r1, r2, r3, r4, r5, r6⟩ := r
      obtain ⟨sp, rr, f, s1, s2, s3, s4, s5, s6, s7, s8, zz, s9, s10⟩ := s
      obtain ⟨f1, f2, f0, f7, b0, b1, b2⟩ := facts r1 r2 r4
      have es := spd s1 f0 b0
      rw [r5, ← d0] at es
      rcases d3 with d3 | ⟨d3, rd, g, d4, d5⟩
      · omega
      · rw [f1, f2] at s4
        rcases d5 with d5 | ⟨d5, d6, d7, d8⟩
        · have cf := cF_spec s4
          have on := on_spec d4 b1 b2 (by have := il_1; omega)
          omega
        · have fb := free_both s4 s5 d4 (fun _ => d6) r1.2.2.2.2.1 r3 b1 b2
          have := fb.1
          subst this
          omega)
  obtain ⟨r1, r2, r3, r4, r5, r6⟩ := L
  obtain ⟨sp, e1, e2⟩ := c2
  obtain ⟨f1, f2, f0, f7, b0, b1, b2⟩ := facts r1 r2 r4
  have es := spd e1 f0 b0
  rw [r5, ← d0] at es
  rcases e2 with ⟨e2, e3⟩ | ⟨e2, rr, f, e3, e4, e5, e6⟩ <;> rcases d3 with ⟨d3, d4⟩ | ⟨d3, rd, g, d4, d5⟩
  · rw [e3, d4]; exact r1
  · omega
  · omega
  · rw [f1, f2] at e3
    have on := on_spec d4 b1 b2 (by have := il_1; omega)
    have cf := cF_spec e3
    have B := WRR_wf (f := 7) (x := z.2.1 (9, b, v.toInt.toNat) 7 + (1 : Int32)) r1 r2 (w := v.toInt.toNat) (by omega) (by omega)
    rw [show 180 + 9 * v.toInt.toNat + 7 = 187 + 9 * v.toInt.toNat by omega] at B
    have er : rr = rd := i32e (by have := onI_b (c := (y.2.1 (50, 0, 0) (181 + 9 * v.toInt.toNat)).toInt) (s := (y.2.1 (50, 0, 0) (182 + 9 * v.toInt.toNat)).toInt) (y := (1 : Int32).toInt); have := il_1; omega)
    subst er
    rcases e6 with ⟨e6, e7⟩ | ⟨e6, e7, e8⟩ <;> rcases d5 with ⟨d5, d6⟩ | ⟨d5, d6, d7, d8⟩
    · rw [e7, d6, ← f7]; exact B
    · omega
    · omega
    · rw [e8, d8, ← f7]
      have wa := ((r1.2.2.1.2 v.toInt.toNat (by omega)).2 rr.toInt.toNat (by omega)).1
      rw [← wa]
      refine WRR_yes B ?_ (by rw [up_row]; unfold nWa at r4 ⊢; rw [updN (by omega)]; omega) (by omega)
      rw [up_row]
      refine ⟨PN_upd r2.1 ?_, WT_upd r2.2 (by omega)⟩
      unfold PN
      omega
end
section
/-! a walker's turn, a tenth -/
theorem x9turn {b w : Nat} {v : Int32} {M M' : mM} (h : SP_X9_turn b w v M M') : M' = up M (9, b, w) 2 ((M.1 (9, b, w) 2 + v) &&& (7 : Int32)) := by
  refine xE_SP_X9_turn h (fun z1_ e2_ z3_ h4_ z5_ h7_ h6_ M8_ hM9_ hM_ => ?_)
  rw [hM_, hM9_, h7_, h4_, e2_]
theorem hab_both {b : Nat} {v : Int32} {M M' D D2 : mM} (h1 : HabC b v v.toInt.toNat M M') (h2 : HabD v D D2) (hR : WRR b M.1 (D.1 (50, 0, 0))) (hD : InvD D) (hu : (D.1 (12, 0, 0) 7).toInt = -1) (hv : 0 ≤ v.toInt ∧ v.toInt < nWa (D.1 (50, 0, 0))) : WRR b M'.1 (D2.1 (50, 0, 0)) := by
  have i6 : (6 : Int32).toInt = 6 := by decide
  have i2 : (2 : Int32).toInt = 2 := by decide
  have im2 : (-2 : Int32).toInt = -2 := by decide
  have nw := nWa_b hD.2.1
  obtain ⟨s, rf_, sl, rl_, sr, rr, bu, now, r, M1, e1, y1, e2, y2, e3, y3, e4, e5, hF, hH, h⟩ := h1
  obtain ⟨t, D1, iD1, hF1, hO, g⟩ := h2
  have w9 := (hR.2.2.1.2 v.toInt.toNat (by omega)).1
  have hh := (hR.2.2.1.2 v.toInt.toNat (by omega)).2
  have a1 := w9 1 (by omega)
  have a2 := w9 2 (by omega)
  have a7 := w9 7 (by omega)
  rw [show 180 + 9 * v.toInt.toNat + 1 = 181 + 9 * v.toInt.toNat by omega] at a1
  rw [show 180 + 9 * v.toInt.toNat + 2 = 182 + 9 * v.toInt.toNat by omega] at a2
  rw [show 180 + 9 * v.toInt.toNat + 7 = 187 + 9 * v.toInt.toNat by omega] at a7
  have cb := ((hD.2.1.1 (181 + 9 * v.toInt.toNat)).2.2.2.2.2.2.2 (by omega) (by omega)).2.1 (by omega)
  have sb := ((hD.2.1.1 (182 + 9 * v.toInt.toNat)).2.2.2.2.2.2.2 (by omega) (by omega)).2.2 (by omega)
  rw [a2] at e1
  rw [← e1] at sb
  have k1 : ∀ (c : rf) (k : Nat), c.1 ≠ 25 → c.1 ≠ 29 → M1.1 c k = M.1 c k := fun c k q1 q2 => hF c k (fun q => by simp only [S_c_X2_habitValue, or_false] at q; omega)
  have kd : ∀ (c : rf) (k : Nat), c.1 ≠ 58 → c.1 ≠ 59 → D1.1 c k = D.1 c k := fun c k q1 q2 => hF1 c k (fun q => by simp only [S_c_X12_habitOf, or_false] at q; omega)
  have row : D1.1 (50, 0, 0) = D.1 (50, 0, 0) := funext fun k => kd _ _ (by simp) (by simp)
  have R1 : WRR b M1.1 (D1.1 (50, 0, 0)) := by rw [row]; exact WRR_q hR hD.2.1 k1
  have sl7 : 0 ≤ sl.toInt ∧ sl.toInt ≤ 7 := by rw [e2, and7]; omega
  have sr7 : 0 ≤ sr.toInt ∧ sr.toInt ≤ 7 := by rw [e3, and7]; omega
  have F1 := x9full y1 sb a1 cb hh
  have F2 := x9full y2 sl7 a1 cb hh
  have F3 := x9full y3 sr7 a1 cb hh
  have hab := x2habit hH hR.2.2.2.1 hD.2.1.2
  have act : t = fmX r := by
    refine xE_SP_X12_habitOf hO (fun k_r1_ k_hs5_ k_h4_ k_z6_ k_h7_ k_j10_ k_h11_ k_z8_ k_e9_ k_h12_ k_r13_ k_hs17_ k_M18_ k_hM19_ k_z22_ k_h23_ k_hI20_ k_r24_ k_hs28_ k_M29_ k_hM30_ k_z33_ k_h34_ k_hI31_ k_r35_ k_hs39_ k_M40_ k_hM41_ k_hI42_ k_r44_ k_hs48_ k_h47_ k_z49_ k_h50_ k_j53_ k_h54_ k_z51_ k_e52_ k_M55_ k_hM56_ k_z59_ k_e60_ k_M61_ k_hM62_ k_hI63_ k_r65_ k_hs69_ k_h68_ => ?_)
    obtain rfl : k_j10_ = 182 + 9 * v.toInt.toNat := by omega
    obtain rfl : k_j53_ = 187 + 9 * v.toInt.toNat := by omega
    have ks : k_z8_ = s := by rw [k_e9_, e1]
    subst ks
    have w18 : k_M18_.1 (50, 0, 0) = D.1 (50, 0, 0) := by rw [k_hM19_, up_other _ _ (by simp)]
    have w29 : k_M29_.1 (50, 0, 0) = D.1 (50, 0, 0) := by rw [k_hM30_, up_other _ _ (by simp)]; exact w18
    have w40 : k_M40_.1 (50, 0, 0) = D.1 (50, 0, 0) := by rw [k_hM41_, up_other _ _ (by simp)]; exact w29
    have w55 : k_M55_.1 (50, 0, 0) = D.1 (50, 0, 0) := by rw [k_hM56_, up_other _ _ (by simp)]; exact w40
    have w61 : k_M61_.1 (50, 0, 0) = D.1 (50, 0, 0) := by rw [k_hM62_, up_other _ _ (by simp)]; exact w55
    have G1 := x12full k_hs17_ ⟨hv.1, by omega⟩
    have G2 := x12full k_hs28_ ⟨hv.1, by omega⟩
    have G3 := x12full k_hs39_ ⟨hv.1, by omega⟩
    rw [w18] at G2
    rw [w29] at G3
    have z22 : k_z22_ = k_z8_ + (6 : Int32) := i32e (by rw [k_h23_, addI (x := k_z8_) rfl i6 (by omega) (by omega)])
    have z33 : k_z33_ = k_z8_ + (2 : Int32) := i32e (by rw [k_h34_, addI (x := k_z8_) rfl i2 (by omega) (by omega)])
    rw [z22, ← e2] at G2
    rw [z33, ← e3] at G3
    rw [show (k_z8_ &&& (7 : Int32)).toInt = k_z8_.toInt by rw [and7]; omega] at G1
    obtain rfl : rf_ = k_r13_ := i32e (FullP_uniq F1 G1)
    obtain rfl : rl_ = k_r24_ := i32e (FullP_uniq F2 G2)
    obtain rfl : rr = k_r35_ := i32e (FullP_uniq F3 G3)
    have hz51 : k_z51_ = bu := by rw [k_e52_, w40, e4, a7]
    have hz59 : k_z59_ = now := by rw [k_e60_, w55, e5]; exact hR.1.1.symm
    have sv := sval5 k_hM19_ k_hM30_ k_hM41_ k_hM56_ k_hM62_
    have tx := x12has (u := 2) k_hs69_ (by first | decide | simp | (dsimp only; omega))
    simp only [show 345 + 50 * 2 = 445 by decide] at tx
    rw [w61] at tx
    refine ⟨(fun k_h70_ k_z71_ k_e72_ => ⟨(fun k_h73_ k_hr_ k_hM_ => ?_), (fun k_h73_ k_hr_ k_hM_ => ?_)⟩), (fun k_h70_ k_M75_ k_hI78_ k_hF79_ k_r74_ k_hs81_ k_z82_ k_h84_ k_h83_ k_hr_ k_hM_ => ?_)⟩
    all_goals
      rw [fm_and, hab]
      unfold habS
    · rw [if_pos (by omega)]
      have s0 : k_M61_.1 (58, 0, 0) 0 = rf_ := sv 0 (by omega)
      rw [k_e72_, s0] at k_h73_
      rw [if_neg k_h73_, k_hr_]; decide
    · rw [if_pos (by omega)]
      have s0 : k_M61_.1 (58, 0, 0) 0 = rf_ := sv 0 (by omega)
      rw [k_e72_, s0] at k_h73_
      rw [if_pos k_h73_, k_hr_]; decide
    · rw [if_neg (by omega), k_hr_, k_h84_]
      have er : k_r74_ = evR (D.1 (50, 0, 0)) 2 (hbV rf_ rl_ rr bu now) := by
        rw [← w61]
        refine x12given (nn := 5) k_hs81_ k_hI63_ ⟨by decide, by omega⟩ (fun i hi => ?_) (fun i hi => ?_) (by rw [w61]; show 0 < (D.1 (50, 0, 0) 445).toInt; omega)
        · rw [w61] at hi ⊢
          exact ((hR.2.2.2.1 2 (by omega)).2 i hi).2
        · rw [sv i hi, hz51, hz59]
      rw [er]
  have tb : 0 ≤ (fmX r).toInt ∧ (fmX r).toInt ≤ 3 := by rw [fm_and, and3]; omega
  have i1 := il_1
  rw [act] at g
  have m2 : M1.1 (9, b, v.toInt.toNat) 2 = s := by rw [k1 _ _ (by simp) (by simp), a2, e1]
  have d2 : D1.1 (50, 0, 0) (182 + 9 * v.toInt.toNat) = s := by rw [row, e1]
  have turn : ∀ x : Int32, M' = up M1 (9, b, v.toInt.toNat) 2 x → D2 = up D1 (50, 0, 0) (182 + 9 * v.toInt.toNat) x → WRR b M'.1 (D2.1 (50, 0, 0)) := fun x h1 h2 => by
    have B := WRR_wf (f := 2) (x := x) R1 iD1.2.1 (w := v.toInt.toNat) (by rw [row]; omega) (by omega)
    rw [show 180 + 9 * v.toInt.toNat + 2 = 182 + 9 * v.toInt.toNat by omega, ← h1, ← h2] at B
    exact B
  rcases h with ⟨h3, h4, h5⟩ | ⟨h3, h5⟩ | ⟨h3, h5⟩ <;> rcases g with ⟨g1, g2⟩ | ⟨g1, g2⟩
  · have x9 := x9turn h5
    rw [m2] at x9
    rw [d2] at g2
    refine turn _ x9 ?_
    rw [g2]
    unfold trD
    by_cases q : (fmX r).toInt = 1
    · rw [if_pos q, show fmX r = 1 from i32e (q.trans i1.symm)]
    · have q2 : (fmX r).toInt = 2 := by omega
      rw [if_neg q, if_pos q2, show fmX r = 2 from i32e (q2.trans i2.symm)]
  · omega
  · have x9 := x9turn h5
    rw [m2] at x9
    rw [d2] at g2
    refine turn _ x9 ?_
    rw [g2]
    unfold trD
    rw [if_neg (by omega), if_neg (by omega)]
    have e : (s + (6 : Int32)) &&& (7 : Int32) = (s + (-2 : Int32)) &&& (7 : Int32) := i32e (by rw [and7, and7, addI (x := s) rfl i6 (by omega) (by omega), addI (x := s) rfl im2 (by omega) (by omega)]; omega)
    rw [e]
  · omega
  · omega
  · exact go_both h5 g2 R1 iD1 (by rw [kd _ _ (by simp) (by simp)]; exact hu) ⟨hv.1, by rw [row]; exact hv.2⟩
theorem wkt_step {b : Nat} {i i2 : Int32} {Mz M M' D D2 : mM} (h1 : ST_X10_passTenth_23 b Mz i M i2 M') (h2 : SP_X12_walkerGoes i D D2) (hR : WRR b M.1 (D.1 (50, 0, 0))) (hD : InvD D) (hu : (D.1 (12, 0, 0) 7).toInt = -1) (hv : 0 ≤ i.toInt ∧ i.toInt < nWa (D.1 (50, 0, 0))) : WRR b M'.1 (D2.1 (50, 0, 0)) := by
  have nw := nWa_b hD.2.1
  have hc := eT hR.2.2.1.1
  have w9 := (hR.2.2.1.2 i.toInt.toNat (by omega)).1
  have a0 := w9 0 (by omega)
  have a5 := w9 5 (by omega)
  have a6 := w9 6 (by omega)
  rw [show 180 + 9 * i.toInt.toNat + 0 = 180 + 9 * i.toInt.toNat by omega] at a0
  rw [show 180 + 9 * i.toInt.toNat + 5 = 185 + 9 * i.toInt.toNat by omega] at a5
  rw [show 180 + 9 * i.toInt.toNat + 6 = 186 + 9 * i.toInt.toNat by omega] at a6
  have kb := ((hD.2.1.1 (180 + 9 * i.toInt.toNat)).2.2.2.2.2.2.2 (by omega) (by omega)).1 (by omega)
  have d := wgD h2 ⟨hv.1, by omega⟩
  refine xE_ST_X10_passTenth_23 h1 (fun hv0_23 _ hF_23 z19_ e20_ h21_ h22_ j23_ h24_ h25_ z26_ e27_ h28_ => ⟨(fun h29_ z30_ h31_ hq_v1_23y hM_ => ?_), (fun h29_ M32_ _ hF36_ hs38_ z39_ h40_ hq_v1_23y hM_ => ?_)⟩)
  · obtain rfl : j23_ = i.toInt.toNat := by omega
    have y := eT e27_
    rw [a6] at y
    rcases d with d | d
    · rw [hM_, d.2]; exact hR
    · omega
  · obtain rfl : j23_ = i.toInt.toNat := by omega
    have y := eT e27_
    rw [a6] at y
    rcases d with d | ⟨-, d⟩
    · omega
    · have c := lwC hs38_ ⟨hv.1, by unfold nWa at hv; omega, by omega⟩ (by rw [a0]; exact kb)
      rw [hR.1.1, a5, a0] at c
      rw [hM_]
      rcases c with ⟨c1, c2⟩ | ⟨c1, r, M1, c2, c3⟩ <;> rcases d with ⟨d1, d2⟩ | ⟨d1, t, D1, d2, d3, d4⟩
      · exact hab_both c2 d2 hR hD hu hv
      · exact absurd d1 c1
      · exact absurd c1 d1
      · have cl := click_both c2 d3 hR hD hv hu
        exact hab_both c3 d4 cl.2.1 d2 (by rw [cl.2.2.2.1 _ _ (by simp) (by simp) (by simp)]; exact hu) ⟨hv.1, by unfold nWa; rw [cl.2.2.2.2 2 (by omega) (by omega)]; exact hv.2⟩
theorem WRR_now {b : Nat} {M D : mM} {x : Int32} (h : WRR b M.1 (D.1 (50, 0, 0))) (hN : NW5 (D.1 (50, 0, 0))) : WRR b (up M (10, b, 0) 7 x).1 ((up D (50, 0, 0) 0 x).1 (50, 0, 0)) := by
  have b1 := nTh_b hN
  have b2 := nWa_b hN
  rw [up_row]
  have nn : ∀ j, ¬ j = 0 → upd (D.1 (50, 0, 0)) 0 x j = D.1 (50, 0, 0) j := fun j hj => updN hj
  refine ⟨⟨by rw [zupE rfl rfl rfl, updE rfl], fun k hk => by rw [zupR rfl (by simp), nn _ (by omega)]; exact h.1.2.1 k hk, fun k hk => by rw [zupR rfl (by simp), zupR rfl (by simp), nn _ (by omega), nn _ (by omega)]; exact h.1.2.2 k hk⟩,
    THR_keep h.2.1 b1.2 (fun r k hr => zupR rfl (by dsimp only; omega)) (fun j hj => nn j (by omega)), WAR_keep h.2.2.1 b2.2 (fun r w k hr => zupR rfl (by dsimp only; omega)) (zupN rfl (fun z => absurd z.2 (by first | decide | simp | (dsimp only; omega)))) (fun j hj => nn j (by omega)),
    TXR_keep h.2.2.2.1 (TXz hN) (fun r u k hr hu => zupR rfl (by dsimp only; omega)) (fun j h1 h2 => nn j (by omega)), OCC_keep h.2.2.2.2.1 b1.2 b2.2 (fun k => zupR rfl (by simp)) (fun j hj => nn j (by omega)) (fun j hj => nn j (by omega)), MIR_keep h.2.2.2.2.2 b1.2 b2.2 (fun j hj => nn j (by omega)) (fun w h1 h2 => ⟨fun k hk => nn _ (by omega), fun c hc => nn _ (by omega)⟩)⟩
theorem tenth_both {b : Nat} {M M' D D2 : mM} (h1 : SP_X10_passTenth b M M') (h2 : SP_X12_tenth D D2) (hR : WRR b M.1 (D.1 (50, 0, 0))) (hD : InvD D) (hu : (D.1 (12, 0, 0) 7).toInt = -1) : WRR b M'.1 (D2.1 (50, 0, 0)) ∧ InvD D2 ∧ (D2.1 (12, 0, 0) 7).toInt = -1 := by
  have q0 := il_0
  refine xE_SP_X12_tenth h2 (fun d_z1_ d_e2_ d_z3_ d_h4_ d_M5_ d_hM6_ d_v1_12 d_hv0_12 d_M_12 d_hL_12 d_hI_12 d_hF_12 d_z10_ d_e11_ d_h12_ d_h13_ d_v1_35 d_hv0_35 d_M_35 d_hL_35 d_hI_35 d_hF_35 d_z15_ d_e16_ d_h17_ d_h18_ d_hM_ => ?_)
  have frD : (D2.1 (12, 0, 0) 7).toInt = -1 := by rw [d_hM_, d_hF_35 (12, 0, 0) 7 (fun q => by simp [S_c_X12_tenth] at q)]; exact hu
  have invD : InvD D2 := by rw [d_hM_]; exact d_hI_35
  -- the things
  have things : ∀ {z1 z3 z9 v2 : Int32} {M5 Mm : mM}, z1 = M.1 (10, b, 0) 7 → z3 = z1 + (1 : Int32) → M5 = up M (10, b, 0) 7 z3 → z9 = M5.1 (10, b, 0) 7 → RCH (fun x_ y_ => ST_X7_letThingsGo_2 b z9 M5 x_.1 x_.2 y_.1 y_.2) ((0 : Int32), M5) (v2, Mm) → ((Mm.1 (7, b, 0) 5).toInt ≤ v2.toInt ∨ 40 ≤ v2.toInt) → WRR b Mm.1 (d_M_12.1 (50, 0, 0)) ∧ (d_M_12.1 (12, 0, 0) 7).toInt = -1 := fun {z1 z3 z9 v2 M5 Mm} a1 a2 a3 a4 hL hE => by
    have ez : z3 = d_z3_ := by rw [a2, d_h4_, a1, d_e2_, hR.1.1]
    have R0 := WRR_now (x := z3) hR hD.2.1
    rw [← a3, ez, ← d_hM6_] at R0
    have e9 : z9 = d_z3_ := by rw [a4, a3, zupE rfl rfl rfl, ez]
    have L := lockE (fun x y : Int32 × mM => WRR b x.2.1 (y.2.1 (50, 0, 0)) ∧ x.1 = y.1 ∧ (y.2.1 (12, 0, 0) 7).toInt = -1 ∧ y.2.1 (50, 0, 0) 0 = d_z3_) hL d_hL_12 ⟨R0, rfl, by dsimp only; rw [d_hM6_, up_other _ _ (by simp)]; exact hu, by dsimp only; rw [d_hM6_, up_same]⟩
      (fun x z y w r s t => by
        obtain ⟨x1, x2⟩ := x
        obtain ⟨y1, y2⟩ := y
        obtain ⟨z1, z2⟩ := z
        obtain ⟨w1, w2⟩ := w
        (try dsimp only at r s t ⊢)
        obtain ⟨r1, r2, r3, r4⟩ := r
        subst r2
        have s' := s
        refine xE_ST_X12_tenth_12 t (fun t_hv0_12 t_hI_12 t_hF_12 t_z10_ t_e11_ t_h12_ t_h13_ t_M28_ t_hI31_ t_hF32_ t_hs34_ t_z35_ t_h36_ t_hq_v1_12y t_hM_ => ?_)
        have st := th_step s t_hs34_ r1 t_hI_12 r3 (by rw [e9, r4]) ⟨t_hv0_12, by unfold nTh; rw [← t_e11_]; exact t_h13_⟩
        rw [t_hM_]
        refine ⟨st.1, ?_, by rw [st.2.2 _ _ (by simp)]; exact r3, by rw [st.2.1 0 (by omega)]; exact r4⟩
        have ci : z1.toInt = x1.toInt + 1 := by
          refine xE_ST_X7_letThingsGo_2 s' (fun s_hv0_2 _ s_hF_2 s_z2_ s_e3_ s_h4_ s_h5_ s_j8_ s_h9_ s_z6_ s_e7_ s_j12_ s_h13_ s_z10_ s_e11_ => ⟨(fun s_h14_ s_z15_ s_h16_ s_hq_v2_2y s_hM_ => ?_), (fun s_h14_ => ⟨(fun s_h17_ s_z18_ s_h19_ s_hq_v2_2y s_hM_ => ?_), (fun s_h17_ s_z20_ s_h21_ => ⟨(fun s_h22_ s_z23_ s_h24_ s_hq_v2_2y s_hM_ => ?_), (fun s_h22_ s_M25_ _ s_hF29_ s_hs31_ s_z32_ s_h33_ s_hq_v2_2y s_hM_ => ?_)⟩)⟩)⟩)
          all_goals (rw [s_hq_v2_2y]; assumption)
        exact i32e (by rw [ci, t_hq_v1_12y, t_h36_]))
      (fun y y' r t => by
        obtain ⟨r1, r2, r3, r4⟩ := r
        refine xE_ST_X12_tenth_12 t (fun t_hv0_12 t_hI_12 t_hF_12 t_z10_ t_e11_ t_h12_ t_h13_ t_M28_ t_hI31_ t_hF32_ t_hs34_ t_z35_ t_h36_ t_hq_v1_12y t_hM_ => ?_)
        have c1 := eT r1.2.1.1
        have c2 := eT t_e11_
        have c3 := eT r2
        (try dsimp only at c1 c2 c3 hE)
        omega)
      (fun x x' r s => by
        obtain ⟨r1, r2, r3, r4⟩ := r
        have c1 := eT r1.2.1.1
        have c2 := eT d_e11_
        have c3 := eT r2
        have c4 : x.1.toInt < (x.2.1 (7, b, 0) 5).toInt := by
          unfold ST_X7_letThingsGo_2 at s
          obtain ⟨-, -, -, z2_, e3_, h4_, -⟩ := s
          rw [← e3_]; exact h4_
        (try dsimp only at c1 c2 c3)
        omega)
    exact ⟨L.1, L.2.2.1⟩
  have walkers : ∀ {v1 : Int32} {M11 Mm : mM}, WRR b M11.1 (d_M_12.1 (50, 0, 0)) → (d_M_12.1 (12, 0, 0) 7).toInt = -1 → RCH (fun x_ y_ => ST_X10_passTenth_23 b M x_.1 x_.2 y_.1 y_.2) ((0 : Int32), M11) (v1, Mm) → ((Mm.1 (10, b, 0) 6).toInt ≤ v1.toInt ∨ 8 ≤ v1.toInt) → WRR b Mm.1 (d_M_35.1 (50, 0, 0)) := fun {v1 M11 Mm} R0 u0 hL hE => by
    have L := lockE (fun x y : Int32 × mM => WRR b x.2.1 (y.2.1 (50, 0, 0)) ∧ x.1 = y.1 ∧ (y.2.1 (12, 0, 0) 7).toInt = -1) hL d_hL_35 ⟨R0, rfl, u0⟩
      (fun x z y w r s t => by
        obtain ⟨x1, x2⟩ := x
        obtain ⟨y1, y2⟩ := y
        obtain ⟨z1, z2⟩ := z
        obtain ⟨w1, w2⟩ := w
        (try dsimp only at r s t ⊢)
        obtain ⟨r1, r2, r3⟩ := r
        subst r2
        have s' := s
        refine xE_ST_X12_tenth_35 t (fun t_hv0_35 t_hI_35 t_hF_35 t_z15_ t_e16_ t_h17_ t_h18_ t_M19_ t_hI22_ t_hF23_ t_hs25_ t_z26_ t_h27_ t_hq_v1_35y t_hM_ => ?_)
        have st := wkt_step s t_hs25_ r1 t_hI_35 r3 ⟨t_hv0_35, by unfold nWa; rw [← t_e16_]; exact t_h18_⟩
        rw [t_hM_]
        refine ⟨st, ?_, by rw [t_hF23_ (12, 0, 0) 7 (fun q => by simp [S_c_X12_walkerGoes] at q)]; exact r3⟩
        have ci : z1.toInt = x1.toInt + 1 := by
          refine xE_ST_X10_passTenth_23 s' (fun s_hv0_23 _ s_hF_23 s_z19_ s_e20_ s_h21_ s_h22_ s_j23_ s_h24_ s_h25_ s_z26_ s_e27_ s_h28_ => ⟨(fun s_h29_ s_z30_ s_h31_ s_hq_v1_23y s_hM_ => ?_), (fun s_h29_ s_M32_ _ s_hF36_ s_hs38_ s_z39_ s_h40_ s_hq_v1_23y s_hM_ => ?_)⟩)
          all_goals (rw [s_hq_v1_23y]; assumption)
        exact i32e (by rw [ci, t_hq_v1_35y, t_h27_]))
      (fun y y' r t => by
        obtain ⟨r1, r2, r3⟩ := r
        refine xE_ST_X12_tenth_35 t (fun t_hv0_35 t_hI_35 t_hF_35 t_z15_ t_e16_ t_h17_ t_h18_ t_M19_ t_hI22_ t_hF23_ t_hs25_ t_z26_ t_h27_ t_hq_v1_35y t_hM_ => ?_)
        have c1 := eT r1.2.2.1.1
        have c2 := eT t_e16_
        have c3 := eT r2
        (try dsimp only at c1 c2 c3 hE)
        omega)
      (fun x x' r s => by
        obtain ⟨r1, r2, r3⟩ := r
        have c1 := eT r1.2.2.1.1
        have c2 := eT d_e16_
        have c3 := eT r2
        have c4 : x.1.toInt < (x.2.1 (10, b, 0) 6).toInt := by
          unfold ST_X10_passTenth_23 at s
          obtain ⟨-, -, -, z2_, e3_, h4_, -⟩ := s
          rw [← e3_]; exact h4_
        (try dsimp only at c1 c2 c3)
        omega)
    exact L.1
  refine ⟨?_, invD, frD⟩
  rw [d_hM_]
  unfold SP_X10_passTenth at h1
  obtain ⟨z1_, e2_, z3_, h4_, M5_, hM6_, z9_, e10_, hI7_, M11_, hI14_, hF15_, hs17_, v1_23, hv0_23, M_23, hL_23, hI_23, hF_23, z19_, e20_, h⟩ := h1
  have T : WRR b M11_.1 (d_M_12.1 (50, 0, 0)) ∧ (d_M_12.1 (12, 0, 0) 7).toInt = -1 := by
    refine xE_SP_X7_letThingsGo hs17_ (fun k_v2_2 k_hv0_2 k_M_2 k_hL_2 _ k_hF_2 k_z2_ k_e3_ => ⟨(fun k_h4_ k_hM_ => ?_), (fun k_h4_ k_h5_ k_hM_ => ?_)⟩)
    · rw [k_hM_]
      exact things e2_ h4_ hM6_ e10_ k_hL_2 (Or.inl (by rw [← k_e3_]; exact k_h4_))
    · rw [k_hM_]
      exact things e2_ h4_ hM6_ e10_ k_hL_2 (Or.inr k_h5_)
  rcases h with ⟨h21_, hM_⟩ | ⟨h21_, h22_, hM_⟩
  · rw [hM_]
    exact walkers T.1 T.2 hL_23 (Or.inl (by rw [← e20_]; exact h21_))
  · rw [hM_]
    exact walkers T.1 T.2 hL_23 (Or.inr h22_)
end
section
/-! worlds alike, all of them -/
def wR (r : Nat) : Prop := r = 1 ∨ r = 2 ∨ r = 7 ∨ r = 9 ∨ r = 10 ∨ r = 24 ∨ r = 26 ∨ r = 27 ∨ (30 ≤ r ∧ r ≤ 33) ∨ (35 ≤ r ∧ r ≤ 41)
def LER (b : Nat) (q : rf → Nat → Int32) (n : Nat → Int32) : Prop := ∀ l : Nat, (l : Int) < (n 3).toInt → q (30, b, 0) l = n (252 + 3 * l) ∧ q (31, b, 0) l = n (253 + 3 * l) ∧ q (32, b, 0) l = n (254 + 3 * l)
def TAR (b : Nat) (q : rf → Nat → Int32) (n : Nat → Int32) : Prop := ∀ i : Nat, (i : Int) < (n 4).toInt → q (33, b, 0) i = n (273 + i) ∧ 0 ≤ (n (273 + i)).toInt ∧ (n (273 + i)).toInt ≤ 255
def WTR (b : Nat) (q : rf → Nat → Int32) (n : Nat → Int32) : Prop := ∀ i : Nat, (i : Int) < (n 5).toInt → q (33, b, 1) i = n (321 + i)
def RW (b : Nat) (q : rf → Nat → Int32) (n : Nat → Int32) : Prop := WRR b q n ∧ LER b q n ∧ TAR b q n ∧ WTR b q n
theorem n345_b {n : Nat → Int32} (h : NW5 n) : (0 ≤ (n 3).toInt ∧ (n 3).toInt ≤ 7) ∧ (0 ≤ (n 4).toInt ∧ (n 4).toInt ≤ 48) ∧ (0 ≤ (n 5).toInt ∧ (n 5).toInt ≤ 24) := ⟨(h.1 3).2.2.1 rfl, (h.1 4).2.2.2.1 rfl, (h.1 5).2.2.2.2.1 rfl⟩
theorem LER_keep {b : Nat} {q q2 : rf → Nat → Int32} {n n2 : Nat → Int32} (h : LER b q n) (hb : (n 3).toInt ≤ 7) (hq : ∀ r k, r = 30 ∨ r = 31 ∨ r = 32 → q2 (r, b, 0) k = q (r, b, 0) k) (hn : ∀ j, j = 3 ∨ (252 ≤ j ∧ j < 273) → n2 j = n j) : LER b q2 n2 := fun l hl => by
  rw [hn 3 (by omega)] at hl
  rw [hq 30 l (by omega), hq 31 l (by omega), hq 32 l (by omega), hn _ (by omega), hn _ (by omega), hn _ (by omega)]
  exact h l hl
theorem TAR_keep {b : Nat} {q q2 : rf → Nat → Int32} {n n2 : Nat → Int32} (h : TAR b q n) (hb : (n 4).toInt ≤ 48) (hq : ∀ k, q2 (33, b, 0) k = q (33, b, 0) k) (hn : ∀ j, j = 4 ∨ (273 ≤ j ∧ j < 321) → n2 j = n j) : TAR b q2 n2 := fun l hl => by
  rw [hn 4 (by omega)] at hl
  rw [hq l, hn _ (by omega)]
  exact h l hl
theorem WTR_keep {b : Nat} {q q2 : rf → Nat → Int32} {n n2 : Nat → Int32} (h : WTR b q n) (hb : (n 5).toInt ≤ 24) (hq : ∀ k, q2 (33, b, 1) k = q (33, b, 1) k) (hn : ∀ j, j = 5 ∨ (321 ≤ j ∧ j < 345) → n2 j = n j) : WTR b q2 n2 := fun l hl => by
  rw [hn 5 (by omega)] at hl
  rw [hq l, hn _ (by omega)]
  exact h l hl
theorem WRR_same {b : Nat} {q q2 : rf → Nat → Int32} {n : Nat → Int32} (h : WRR b q n) (hN : NW5 n) (hq : ∀ (c : rf) (k : Nat), wR c.1 → c.2.1 = b → q2 c k = q c k) : WRR b q2 n :=
  ⟨LWR_keep h.1 (fun r k hr => hq _ _ (by unfold wR; dsimp only; omega) rfl) (fun _ _ => rfl),
   THR_keep h.2.1 (nTh_b hN).2 (fun r k hr => hq _ _ (by unfold wR; dsimp only; omega) rfl) (fun _ _ => rfl),
   WAR_keep h.2.2.1 (nWa_b hN).2 (fun r w k hr => hq _ _ (by unfold wR; dsimp only; omega) rfl) (hq _ _ (by unfold wR; dsimp only; omega) rfl) (fun _ _ => rfl),
   TXR_keep h.2.2.2.1 (TXz hN) (fun r u k hr hu => hq _ _ (by unfold wR; dsimp only; omega) rfl) (fun _ _ _ => rfl),
   OCC_keep h.2.2.2.2.1 (nTh_b hN).2 (nWa_b hN).2 (fun k => hq _ _ (by unfold wR; dsimp only; omega) rfl) (fun _ _ => rfl) (fun _ _ => rfl), h.2.2.2.2.2⟩
theorem RW_same {b : Nat} {q q2 : rf → Nat → Int32} {n : Nat → Int32} (h : RW b q n) (hN : NW5 n) (hq : ∀ (c : rf) (k : Nat), wR c.1 → c.2.1 = b → q2 c k = q c k) : RW b q2 n :=
  ⟨WRR_same h.1 hN hq, LER_keep h.2.1 (n345_b hN).1.2 (fun r k hr => hq _ _ (by unfold wR; dsimp only; omega) rfl) (fun _ _ => rfl), TAR_keep h.2.2.1 (n345_b hN).2.1.2 (fun k => hq _ _ (by unfold wR; dsimp only; omega) rfl) (fun _ _ => rfl), WTR_keep h.2.2.2 (n345_b hN).2.2.2 (fun k => hq _ _ (by unfold wR; dsimp only; omega) rfl) (fun _ _ => rfl)⟩
/-- what is behind a tenth, where the rest stays -/
theorem RW_of {b : Nat} {q q2 : rf → Nat → Int32} {n n2 : Nat → Int32} (h : RW b q n) (hN : NW5 n) (hw : WRR b q2 n2) (hq : ∀ (c : rf) (k : Nat), c.1 = 30 ∨ c.1 = 31 ∨ c.1 = 32 ∨ c.1 = 33 → q2 c k = q c k) (hn : ∀ j, j = 3 ∨ j = 4 ∨ j = 5 ∨ (252 ≤ j ∧ j < 345) → n2 j = n j) : RW b q2 n2 :=
  ⟨hw, LER_keep h.2.1 (n345_b hN).1.2 (fun r k hr => hq _ _ (by dsimp only; omega)) (fun j hj => hn j (by omega)), TAR_keep h.2.2.1 (n345_b hN).2.1.2 (fun k => hq _ _ (by dsimp only; omega)) (fun j hj => hn j (by omega)), WTR_keep h.2.2.2 (n345_b hN).2.2.2 (fun k => hq _ _ (by dsimp only; omega)) (fun j hj => hn j (by omega))⟩
/-- numbers of a thing change, not its cell -/
theorem WRR_thf {b t : Nat} {q q2 : rf → Nat → Int32} {n n2 : Nat → Int32} (h : WRR b q n) (hN : NW5 n) (ht : (t : Int) < nTh n) (hq : ∀ (c : rf) (k : Nat), ¬ ((c = (36, b, 0) ∨ c = (38, b, 0) ∨ c = (39, b, 0)) ∧ k = t) → wR c.1 → q2 c k = q c k) (hn : ∀ j, ¬ (j = 20 + 4 * t ∨ j = 22 + 4 * t ∨ j = 23 + 4 * t) → n2 j = n j)
    (e : q2 (36, b, 0) t = n2 (20 + 4 * t) ∧ q2 (38, b, 0) t = n2 (22 + 4 * t) ∧ q2 (39, b, 0) t = n2 (23 + 4 * t)) (hm : 0 ≤ (n2 (23 + 4 * t)).toInt ∧ ((n2 (20 + 4 * t)).toInt < 3 → (n2 (23 + 4 * t)).toInt = 0)) : WRR b q2 n2 := by
  have b1 := nTh_b hN
  have b2 := nWa_b hN
  have qq : ∀ (r u k : Nat), wR r → r ≠ 36 → r ≠ 38 → r ≠ 39 → q2 (r, b, u) k = q (r, b, u) k := fun r u k h0 h1 h2 h3 => hq _ _ (fun z => by
    rcases z.1 with z | z | z
    · exact h1 (congrArg (fun c : rf => c.1) z)
    · exact h2 (congrArg (fun c : rf => c.1) z)
    · exact h3 (congrArg (fun c : rf => c.1) z)) h0
  have et : nTh n2 = nTh n := by unfold nTh; rw [hn 1 (by omega)]
  have ew : nWa n2 = nWa n := by unfold nWa; rw [hn 2 (by omega)]
  refine ⟨LWR_keep h.1 (fun r k hr => qq _ _ _ (by unfold wR; omega) (by omega) (by omega) (by omega)) (fun j hj => hn j (by omega)), ?_, WAR_keep h.2.2.1 b2.2 (fun r w k hr => qq _ _ _ (by unfold wR; omega) (by omega) (by omega) (by omega)) (qq _ _ _ (by unfold wR; omega) (by omega) (by omega) (by omega)) (fun j hj => hn j (by omega)),
    TXR_keep h.2.2.2.1 (TXz hN) (fun r u k hr hu => qq _ _ _ (by unfold wR; omega) (by omega) (by omega) (by omega)) (fun j h1 h2 => hn j (by omega)), OCC_keep h.2.2.2.2.1 b1.2 b2.2 (fun k => qq _ _ _ (by unfold wR; omega) (by omega) (by omega) (by omega)) (fun j hj => hn j (by omega)) (fun j hj => hn j (by omega)), ?_⟩
  · refine ⟨by rw [qq 7 0 5 (by unfold wR; omega) (by omega) (by omega) (by omega), hn 1 (by omega)]; exact h.2.1.1, fun s hs => ?_⟩
    rw [et] at hs
    have g := h.2.1.2 s hs
    by_cases z : s = t
    · subst z
      exact ⟨e.1, by rw [qq 37 0 s (by unfold wR; omega) (by omega) (by omega) (by omega), hn _ (by omega)]; exact g.2.1, e.2.1, e.2.2⟩
    · rw [hq _ _ (fun y => z y.2) (by unfold wR; dsimp only; omega), hq _ _ (fun y => z y.2) (by unfold wR; dsimp only; omega), hq _ _ (fun y => z y.2) (by unfold wR; dsimp only; omega), hq _ _ (fun y => z y.2) (by unfold wR; dsimp only; omega), hn _ (by omega), hn _ (by omega), hn _ (by omega), hn _ (by omega)]
      exact g
  · obtain ⟨h1, h2, h3⟩ := h.2.2.2.2.2
    unfold MIR
    rw [et, ew]
    refine ⟨fun w hw => by rw [hn _ (by omega), hn _ (by omega)]; exact h1 w hw, fun s hs => ?_, fun w a c => ⟨fun k hk => by rw [hn _ (by omega)]; exact (h3 w a c).1 k hk, fun k hk => by rw [hn _ (by omega)]; exact (h3 w a c).2 k hk⟩⟩
    by_cases z : s = t
    · rw [z]; exact hm
    · rw [hn _ (by omega), hn _ (by omega)]; exact h2 s hs
/-- numbers of a walker change, not its cell -/
theorem WRR_wkf {b w : Nat} {q q2 : rf → Nat → Int32} {n n2 : Nat → Int32} (h : WRR b q n) (hN : NW5 n) (hw : (w : Int) < nWa n) (hq : ∀ (c : rf) (k : Nat), ¬ (c = (9, b, w) ∧ k ≠ 1) → wR c.1 → q2 c k = q c k) (hn : ∀ j, (j < 180 + 9 * w ∨ 189 + 9 * w ≤ j ∨ j = 181 + 9 * w) → n2 j = n j)
    (e : ∀ k, k < 9 → k ≠ 1 → q2 (9, b, w) k = n2 (180 + 9 * w + k)) (hm : (1 ≤ (n2 (183 + 9 * w)).toInt ∧ (n2 (183 + 9 * w)).toInt ≤ 9) ∧ (1 ≤ (n2 (184 + 9 * w)).toInt ∧ (n2 (184 + 9 * w)).toInt ≤ 99)) : WRR b q2 n2 := by
  have b1 := nTh_b hN
  have b2 := nWa_b hN
  have qq : ∀ (r u k : Nat), wR r → r ≠ 9 → q2 (r, b, u) k = q (r, b, u) k := fun r u k h0 h1 => hq _ _ (fun z => h1 (congrArg (fun c : rf => c.1) z.1)) h0
  have et : nTh n2 = nTh n := by unfold nTh; rw [hn 1 (by omega)]
  have ew : nWa n2 = nWa n := by unfold nWa; rw [hn 2 (by omega)]
  refine ⟨LWR_keep h.1 (fun r k hr => qq _ _ _ (by unfold wR; omega) (by omega)) (fun j hj => hn j (by omega)), THR_keep h.2.1 b1.2 (fun r k hr => qq _ _ _ (by unfold wR; omega) (by omega)) (fun j hj => hn j (by omega)), ?_,
    TXR_keep h.2.2.2.1 (TXz hN) (fun r u k hr hu => qq _ _ _ (by unfold wR; omega) (by omega)) (fun j h1 h2 => hn j (by omega)), OCC_keep h.2.2.2.2.1 b1.2 b2.2 (fun k => qq _ _ _ (by unfold wR; omega) (by omega)) (fun j hj => hn j (by omega)) (fun j hj => hn j (by omega)), ?_⟩
  · refine ⟨by rw [qq 10 0 6 (by unfold wR; omega) (by omega), hn 2 (by omega)]; exact h.2.2.1.1, fun u hu => ?_⟩
    rw [ew] at hu
    have g := h.2.2.1.2 u hu
    refine ⟨fun k hk => ?_, fun c hc => by rw [qq 40 u c (by unfold wR; omega) (by omega), qq 41 u c (by unfold wR; omega) (by omega), hn _ (by omega), hn _ (by omega)]; exact g.2 c hc⟩
    by_cases z : u = w
    · subst z
      by_cases y : k = 1
      · subst y
        rw [hq _ _ (fun x => x.2 rfl) (by unfold wR; dsimp only; omega), hn _ (by omega)]; exact g.1 1 hk
      · exact e k hk y
    · rw [hq _ _ (fun x => z (congrArg (fun c : rf => c.2.2) x.1)) (by unfold wR; dsimp only; omega), hn _ (by omega)]; exact g.1 k hk
  · obtain ⟨h1, h2, h3⟩ := h.2.2.2.2.2
    unfold MIR
    rw [et, ew]
    refine ⟨fun u hu => ?_, fun s hs => by rw [hn _ (by omega), hn _ (by omega)]; exact h2 s hs, fun u a c => ⟨fun k hk => by rw [hn _ (by omega)]; exact (h3 u a c).1 k hk, fun k hk => by rw [hn _ (by omega)]; exact (h3 u a c).2 k hk⟩⟩
    by_cases z : u = w
    · rw [z]; exact hm
    · rw [hn _ (by omega), hn _ (by omega)]; exact h1 u hu
end
section
/-! what a call does to both worlds -/
theorem cne {r b w r2 b2 w2 : Nat} (h : ¬ r = r2) : ¬ ((r, b, w) : rf) = (r2, b2, w2) := fun z => h (congrArg (fun c : rf => c.1) z)
/-- a thing comes -/
theorem WRR_add {b t cell : Nat} {q q2 : rf → Nat → Int32} {n n2 : Nat → Int32} (h : WRR b q n) (hN : NW5 n) (ht : nTh n = (t : Int)) (h40 : t < 40) (hc : cell < 192) (hf : occ b q cell = -1)
    (hq : ∀ (c : rf) (k : Nat), wR c.1 → ¬ (c.1 = 36 ∨ c.1 = 37 ∨ c.1 = 38 ∨ c.1 = 39) → ¬ (c = (35, b, 0) ∧ k = cell) → ¬ (c = (7, b, 0) ∧ k = 5) → q2 c k = q c k) (hq2 : ∀ r k, 36 ≤ r → r ≤ 39 → ¬ k = t → q2 (r, b, 0) k = q (r, b, 0) k)
    (hn : ∀ j, ¬ j = 1 → j < 20 + 4 * t ∨ 24 + 4 * t ≤ j → n2 j = n j) (e7 : q2 (7, b, 0) 5 = n2 1) (e1 : (n2 1).toInt = (t : Int) + 1) (e36 : q2 (36, b, 0) t = n2 (20 + 4 * t)) (e37 : q2 (37, b, 0) t = n2 (21 + 4 * t)) (e38 : q2 (38, b, 0) t = n2 (22 + 4 * t)) (e39 : q2 (39, b, 0) t = n2 (23 + 4 * t)) (ec : (n2 (21 + 4 * t)).toInt = (cell : Int)) (es : (n2 (23 + 4 * t)).toInt = 0) (e35 : (q2 (35, b, 0) cell).toInt = (t : Int)) : WRR b q2 n2 := by
  have b1 := nTh_b hN
  have b2 := nWa_b hN
  have qq : ∀ (r u k : Nat), wR r → r ≠ 36 → r ≠ 37 → r ≠ 38 → r ≠ 39 → r ≠ 35 → r ≠ 7 → q2 (r, b, u) k = q (r, b, u) k := fun r u k h0 h1 h2 h3 h4 h5 h6 => hq _ _ h0 (by dsimp only; omega) (fun z => h5 (congrArg (fun c : rf => c.1) z.1)) (fun z => h6 (congrArg (fun c : rf => c.1) z.1))
  have et : nTh n2 = (t : Int) + 1 := e1
  have ew : nWa n2 = nWa n := by unfold nWa; rw [hn 2 (by omega) (by omega)]
  have tN : ∀ s : Nat, s < t → tcl n2 s = tcl n s := fun s hs => by unfold tcl; rw [hn _ (by omega) (by omega)]
  have tE : tcl n2 t = (cell : Int) := ec
  have wN : ∀ w : Nat, (w : Int) < nWa n → wcl n2 w = wcl n w := fun w hw => by unfold wcl; rw [hn _ (by omega) (by omega)]
  have oN : ∀ k, ¬ k = cell → occ b q2 k = occ b q k := fun k hk => by unfold occ; rw [hq (35, b, 0) k (by unfold wR; dsimp only; omega) (by simp) (fun z => hk z.2) (fun z => cne (by omega) z.1)]
  refine ⟨LWR_keep h.1 (fun r k hr => qq _ _ _ (by unfold wR; omega) (by omega) (by omega) (by omega) (by omega) (by omega) (by omega)) (fun j hj => hn j (by omega) (by omega)), ⟨e7, fun s hs => ?_⟩, WAR_keep h.2.2.1 b2.2 (fun r w k hr => qq _ _ _ (by unfold wR; omega) (by omega) (by omega) (by omega) (by omega) (by omega) (by omega)) (qq _ _ _ (by unfold wR; omega) (by omega) (by omega) (by omega) (by omega) (by omega) (by omega)) (fun j hj => hn j (by omega) (by omega)),
    TXR_keep h.2.2.2.1 (TXz hN) (fun r u k hr hu => qq _ _ _ (by unfold wR; omega) (by omega) (by omega) (by omega) (by omega) (by omega) (by omega)) (fun j h1 h2 => hn j (by omega) (by omega)), ?_, ?_⟩
  · rw [et] at hs
    by_cases z : s = t
    · subst z
      exact ⟨e36, e37, e38, e39⟩
    · have g := h.2.1.2 s (by omega)
      rw [hq2 36 s (by omega) (by omega) z, hq2 37 s (by omega) (by omega) z, hq2 38 s (by omega) (by omega) z, hq2 39 s (by omega) (by omega) z, hn _ (by omega) (by omega), hn _ (by omega) (by omega), hn _ (by omega) (by omega), hn _ (by omega) (by omega)]
      exact g
  · obtain ⟨h1, h2, h3⟩ := h.2.2.2.2.1
    unfold OCC
    rw [et, ew]
    refine ⟨fun s hs hp => ?_, fun w hw => ?_, fun c hcc => ?_⟩
    · by_cases z : s = t
      · rw [z, tE, Int.toNat_natCast]; exact e35
      · rw [tN s (by omega)] at hp ⊢
        have g := h1 s (by omega) hp
        rw [oN _ (fun y => by rw [y] at g; omega)]; exact g
    · rw [wN w hw]
      have g := h2 w hw
      rw [oN _ (fun y => by rw [y] at g; omega)]; exact g
    · by_cases z : c = cell
      · have e : occ b q2 c = (t : Int) := by rw [z]; exact e35
        rw [e]
        exact Or.inr (Or.inl ⟨by omega, by omega, by rw [Int.toNat_natCast, tE, z]⟩)
      · rw [oN c z]
        rcases h3 c hcc with o | ⟨o1, o2, o3⟩ | ⟨o1, o2, o3⟩
        · exact Or.inl o
        · exact Or.inr (Or.inl ⟨o1, by omega, by rw [tN _ (by omega)]; exact o3⟩)
        · exact Or.inr (Or.inr ⟨o1, o2, by rw [wN _ (by omega)]; exact o3⟩)
  · obtain ⟨h1, h2, h3⟩ := h.2.2.2.2.2
    unfold MIR
    rw [et, ew]
    refine ⟨fun w hw => by rw [hn _ (by omega) (by omega), hn _ (by omega) (by omega)]; exact h1 w hw, fun s hs => ?_, fun w a c => ⟨fun k hk => by rw [hn _ (by omega) (by omega)]; exact (h3 w a c).1 k hk, fun k hk => by rw [hn _ (by omega) (by omega)]; exact (h3 w a c).2 k hk⟩⟩
    by_cases z : s = t
    · rw [z, es]; exact ⟨by omega, fun _ => rfl⟩
    · rw [hn _ (by omega) (by omega), hn _ (by omega) (by omega)]; exact h2 s (by omega)
/-- a walker comes -/
theorem WRR_addw {b w cell : Nat} {q q2 : rf → Nat → Int32} {n n2 : Nat → Int32} (h : WRR b q n) (hN : NW5 n) (hw : nWa n = (w : Int)) (h8 : w < 8) (hc : cell < 192) (hf : occ b q cell = -1)
    (hq : ∀ (c : rf) (k : Nat), wR c.1 → ¬ c = (9, b, w) → ¬ c = (40, b, w) → ¬ c = (41, b, w) → ¬ (c = (35, b, 0) ∧ k = cell) → ¬ (c = (10, b, 0) ∧ k = 6) → q2 c k = q c k)
    (hn : ∀ j, ¬ j = 2 → j < 180 + 9 * w ∨ 185 + 9 * w ≤ j → n2 j = n j) (e10 : q2 (10, b, 0) 6 = n2 2) (e2 : (n2 2).toInt = (w : Int) + 1) (e9 : ∀ k, k < 5 → q2 (9, b, w) k = n2 (180 + 9 * w + k)) (e9z : ∀ k, 5 ≤ k → k < 9 → q2 (9, b, w) k = 0) (e40 : ∀ k, k < 192 → q2 (40, b, w) k = 0 ∧ q2 (41, b, w) k = 0)
    (ec : (n2 (181 + 9 * w)).toInt = (cell : Int)) (ep : (1 ≤ (n2 (183 + 9 * w)).toInt ∧ (n2 (183 + 9 * w)).toInt ≤ 9) ∧ (1 ≤ (n2 (184 + 9 * w)).toInt ∧ (n2 (184 + 9 * w)).toInt ≤ 99)) (e35 : (q2 (35, b, 0) cell).toInt = 100 + (w : Int)) : WRR b q2 n2 := by
  have b1 := nTh_b hN
  have b2 := nWa_b hN
  have qq : ∀ (r u k : Nat), wR r → r ≠ 9 → r ≠ 40 → r ≠ 41 → r ≠ 35 → r ≠ 10 → q2 (r, b, u) k = q (r, b, u) k := fun r u k h0 h1 h2 h3 h4 h5 => hq _ _ h0 (cne h1) (cne h2) (cne h3) (fun z => cne h4 z.1) (fun z => cne h5 z.1)
  have et : nTh n2 = nTh n := by unfold nTh; rw [hn 1 (by omega) (by omega)]
  have ew : nWa n2 = (w : Int) + 1 := e2
  have tN : ∀ s : Nat, (s : Int) < nTh n → tcl n2 s = tcl n s := fun s hs => by unfold tcl; rw [hn _ (by omega) (by omega)]
  have wN : ∀ u : Nat, ¬ u = w → wcl n2 u = wcl n u := fun u hu => by unfold wcl; rw [hn _ (by omega) (by omega)]
  have wE : wcl n2 w = (cell : Int) := ec
  have oN : ∀ k, ¬ k = cell → occ b q2 k = occ b q k := fun k hk => by unfold occ; rw [hq (35, b, 0) k (by unfold wR; dsimp only; omega) (cne (by omega)) (cne (by omega)) (cne (by omega)) (fun z => hk z.2) (fun z => cne (by omega) z.1)]
  obtain ⟨m1, m2, m3⟩ := h.2.2.2.2.2
  have mz := m3 w (by omega) h8
  refine ⟨⟨?_, fun k hk => ?_, fun k hk => ?_⟩, THR_keep h.2.1 b1.2 (fun r k hr => qq _ _ _ (by unfold wR; omega) (by omega) (by omega) (by omega) (by omega) (by omega)) (fun j hj => hn j (by omega) (by omega)), ⟨e10, fun u hu => ?_⟩,
    TXR_keep h.2.2.2.1 (TXz hN) (fun r u k hr hu => qq _ _ _ (by unfold wR; omega) (by omega) (by omega) (by omega) (by omega) (by omega)) (fun j h1 h2 => hn j (by omega) (by omega)), ?_, ?_⟩
  · rw [hq (10, b, 0) 7 (by unfold wR; dsimp only; omega) (cne (by omega)) (cne (by omega)) (cne (by omega)) (fun z => cne (by omega) z.1) (fun z => absurd z.2 (by omega)), hn 0 (by omega) (by omega)]; exact h.1.1
  · rw [qq 2 0 k (by unfold wR; omega) (by omega) (by omega) (by omega) (by omega) (by omega), hn _ (by omega) (by omega)]; exact h.1.2.1 k hk
  · rw [qq 26 0 k (by unfold wR; omega) (by omega) (by omega) (by omega) (by omega) (by omega), qq 27 0 k (by unfold wR; omega) (by omega) (by omega) (by omega) (by omega) (by omega), hn _ (by omega) (by omega), hn _ (by omega) (by omega)]; exact h.1.2.2 k hk
  · rw [ew] at hu
    by_cases z : u = w
    · subst z
      refine ⟨fun k hk => ?_, fun c hcc => ?_⟩
      · by_cases y : k < 5
        · exact e9 k y
        · rw [e9z k (by omega) hk, hn _ (by omega) (by omega)]; exact (mz.1 k hk).symm
      · have z1 := mz.2 c (by omega)
        have z2 := mz.2 (192 + c) (by omega)
        rw [(e40 c hcc).1, (e40 c hcc).2, hn _ (by omega) (by omega), hn _ (by omega) (by omega), z1]
        rw [show 495 + 384 * u + (192 + c) = 687 + 384 * u + c by omega] at z2
        exact ⟨rfl, z2.symm⟩
    · have g := h.2.2.1.2 u (by omega)
      refine ⟨fun k hk => ?_, fun c hcc => ?_⟩
      · rw [hq _ _ (by unfold wR; dsimp only; omega) (fun y => z (congrArg (fun c : rf => c.2.2) y)) (cne (by omega)) (cne (by omega)) (fun y => cne (by omega) y.1) (fun y => cne (by omega) y.1), hn _ (by omega) (by omega)]; exact g.1 k hk
      · rw [hq (40, b, u) c (by unfold wR; dsimp only; omega) (cne (by omega)) (fun y => z (congrArg (fun c : rf => c.2.2) y)) (cne (by omega)) (fun y => cne (by omega) y.1) (fun y => cne (by omega) y.1), hq (41, b, u) c (by unfold wR; dsimp only; omega) (cne (by omega)) (cne (by omega)) (fun y => z (congrArg (fun c : rf => c.2.2) y)) (fun y => cne (by omega) y.1) (fun y => cne (by omega) y.1), hn _ (by omega) (by omega), hn _ (by omega) (by omega)]
        exact g.2 c hcc
  · obtain ⟨h1, h2, h3⟩ := h.2.2.2.2.1
    unfold OCC
    rw [et, ew]
    refine ⟨fun s hs hp => ?_, fun u hu => ?_, fun c hcc => ?_⟩
    · rw [tN s hs] at hp ⊢
      have g := h1 s hs hp
      rw [oN _ (fun y => by rw [y] at g; omega)]; exact g
    · by_cases z : u = w
      · rw [z, wE, Int.toNat_natCast]; exact e35
      · rw [wN u z]
        have g := h2 u (by omega)
        rw [oN _ (fun y => by rw [y] at g; omega)]; exact g
    · by_cases z : c = cell
      · have e : occ b q2 c = 100 + (w : Int) := by rw [z]; exact e35
        rw [e]
        exact Or.inr (Or.inr ⟨by omega, by omega, by rw [show (100 + (w : Int) - 100).toNat = w by omega, wE, z]⟩)
      · rw [oN c z]
        rcases h3 c hcc with o | ⟨o1, o2, o3⟩ | ⟨o1, o2, o3⟩
        · exact Or.inl o
        · exact Or.inr (Or.inl ⟨o1, o2, by rw [tN _ (by omega)]; exact o3⟩)
        · exact Or.inr (Or.inr ⟨o1, by omega, by rw [wN _ (by omega)]; exact o3⟩)
  · unfold MIR
    rw [et, ew]
    refine ⟨fun u hu => ?_, fun s hs => by rw [hn _ (by omega) (by omega), hn _ (by omega) (by omega)]; exact m2 s hs, fun u a c => ⟨fun k hk => by rw [hn _ (by omega) (by omega)]; exact (m3 u (by omega) c).1 k hk, fun k hk => by rw [hn _ (by omega) (by omega)]; exact (m3 u (by omega) c).2 k hk⟩⟩
    by_cases z : u = w
    · rw [z]; exact ep
    · rw [hn _ (by omega) (by omega), hn _ (by omega) (by omega)]; exact m1 u (by omega)
/-- a thing is away -/
theorem WRR_away {b t c0 : Nat} {M D : mM} (h : WRR b M.1 (D.1 (50, 0, 0))) (hN : NW5 (D.1 (50, 0, 0))) (ht : (t : Int) < nTh (D.1 (50, 0, 0))) (h0 : tcl (D.1 (50, 0, 0)) t = (c0 : Int)) :
    WRR b (up (up M (35, b, 0) c0 (-1)) (37, b, 0) t (-1)).1 ((up D (50, 0, 0) (21 + 4 * t) (-1)).1 (50, 0, 0)) := by
  have b1 := nTh_b hN
  have b2 := nWa_b hN
  rw [up_row]
  have nn : ∀ j, ¬ j = 21 + 4 * t → upd (D.1 (50, 0, 0)) (21 + 4 * t) (-1) j = D.1 (50, 0, 0) j := fun j hj => updN hj
  have qq : ∀ (c : rf) (k : Nat), ¬ c.1 = 35 → ¬ c.1 = 37 → (up (up M (35, b, 0) c0 (-1)) (37, b, 0) t (-1)).1 c k = M.1 c k := fun c k h1 h2 => by
    rw [zupR rfl h2, zupR rfl h1]
  refine ⟨LWR_keep h.1 (fun r k hr => qq _ _ (by dsimp only; omega) (by dsimp only; omega)) (fun j hj => nn j (by omega)), ?_, WAR_keep h.2.2.1 b2.2 (fun r w k hr => qq _ _ (by dsimp only; omega) (by dsimp only; omega)) (qq _ _ (by simp) (by simp)) (fun j hj => nn j (by omega)),
    TXR_keep h.2.2.2.1 (TXz hN) (fun r u k hr hu => qq _ _ (by dsimp only; omega) (by dsimp only; omega)) (fun j h1 h2 => nn j (by omega)), ?_, MIR_keep h.2.2.2.2.2 b1.2 b2.2 (fun j hj => nn j (by omega)) (fun w h1 h2 => ⟨fun k hk => nn _ (by omega), fun c hc => nn _ (by omega)⟩)⟩
  · have g := THR_one (q2 := (up (up M (35, b, 0) c0 (-1)) (37, b, 0) t (-1)).1) (t := t) (f := 1) (x := -1) h.2.1 b1.2 (by omega) (qq _ _ (by simp) (by simp)) (fun g k hg => by
      by_cases e : g = 1 ∧ k = t
      · rw [if_pos e]; exact zupE rfl (by rw [e.1]) e.2
      · rw [if_neg e, zupN rfl (fun z => e ⟨by have := congrArg (fun c : rf => c.1) z.1; dsimp only at this; omega, z.2⟩), zupR rfl (by dsimp only; omega)])
    rw [show 20 + 4 * t + 1 = 21 + 4 * t by omega] at g
    exact g
  · obtain ⟨h1, h2, h3⟩ := h.2.2.2.2.1
    have o0 := h1 t ht (by omega)
    rw [h0, Int.toNat_natCast] at o0
    have ho : ∀ k, occ b (up (up M (35, b, 0) c0 (-1)) (37, b, 0) t (-1)).1 k = if k = c0 then -1 else occ b M.1 k := fun k => by
      unfold occ
      rw [zupR (c' := (35, b, 0)) rfl (by simp)]
      by_cases e2 : k = c0
      · rw [if_pos e2, zupE rfl rfl e2]; exact il_m1
      · rw [if_neg e2, zupN rfl (fun z => e2 z.2)]
    have et : nTh (upd (D.1 (50, 0, 0)) (21 + 4 * t) (-1)) = nTh (D.1 (50, 0, 0)) := by unfold nTh; rw [nn _ (by omega)]
    have ew : nWa (upd (D.1 (50, 0, 0)) (21 + 4 * t) (-1)) = nWa (D.1 (50, 0, 0)) := by unfold nWa; rw [nn _ (by omega)]
    have tE : tcl (upd (D.1 (50, 0, 0)) (21 + 4 * t) (-1)) t = -1 := by unfold tcl; rw [updE rfl]; exact il_m1
    have tN : ∀ s : Nat, ¬ s = t → tcl (upd (D.1 (50, 0, 0)) (21 + 4 * t) (-1)) s = tcl (D.1 (50, 0, 0)) s := fun s hs => by unfold tcl; rw [nn _ (by omega)]
    have wN : ∀ w : Nat, wcl (upd (D.1 (50, 0, 0)) (21 + 4 * t) (-1)) w = wcl (D.1 (50, 0, 0)) w := fun w => by unfold wcl; rw [nn _ (by omega)]
    unfold OCC
    rw [et, ew]
    refine ⟨fun s hs hp => ?_, fun w hw => ?_, fun c hc => ?_⟩
    · by_cases e : s = t
      · rw [e, tE] at hp; omega
      · rw [tN s e] at hp ⊢
        have g := h1 s hs hp
        rw [ho, if_neg (fun z => by rw [z] at g; omega)]
        exact g
    · rw [wN]
      have g := h2 w hw
      rw [ho, if_neg (fun z => by rw [z] at g; omega)]
      exact g
    · rw [ho]
      by_cases e2 : c = c0
      · rw [if_pos e2]; exact Or.inl rfl
      · rw [if_neg e2]
        rcases h3 c hc with o | ⟨o1, o2, o3⟩ | ⟨o1, o2, o3⟩
        · exact Or.inl o
        · refine Or.inr (Or.inl ⟨o1, o2, ?_⟩)
          rw [tN _ (fun z => by rw [z, h0] at o3; omega)]
          exact o3
        · exact Or.inr (Or.inr ⟨o1, o2, by rw [wN]; exact o3⟩)
end
section
/-! calls of both -/
theorem x7room {b : Nat} {M : mM} {r : Int32} (h : SP_X7_hasRoom b M r) : (r.toInt = 0 ∧ 40 ≤ (M.1 (7, b, 0) 5).toInt) ∨ (r.toInt = 1 ∧ (M.1 (7, b, 0) 5).toInt < 40) := by
  have q0 := il_0
  have q1 := il_1
  unfold SP_X7_hasRoom at h
  rcases h with ⟨z1_, e2_, (⟨h3_, hr_⟩ | ⟨h3_, hr_⟩)⟩
  all_goals (have y1 := eT e2_; have y2 := eT hr_; omega)
theorem is1x {v : Int32} {M : mM} {r : Int32} (h : SP_is1 v M r) : (r.toInt = 1 ∧ 0 ≤ v.toInt ∧ v.toInt < (M.1 (50, 0, 0) 1).toInt) ∨ (r.toInt = 0 ∧ ¬ (0 ≤ v.toInt ∧ v.toInt < (M.1 (50, 0, 0) 1).toInt)) := by
  have q0 := il_0
  have q1 := il_1
  unfold SP_is1 at h
  rcases h with ⟨z1_, e2_, h3_, z4_, h5_, (⟨hs10_, h9_, hr_⟩ | ⟨hs10_, h9_, hr_⟩)⟩
  all_goals (have y1 := eT e2_; have y2 := eT hr_; omega)
theorem is2x {v : Int32} {M : mM} {r : Int32} (h : SP_is2 v M r) : (r.toInt = 1 ∧ 0 ≤ v.toInt ∧ v.toInt < (M.1 (50, 0, 0) 2).toInt) ∨ (r.toInt = 0 ∧ ¬ (0 ≤ v.toInt ∧ v.toInt < (M.1 (50, 0, 0) 2).toInt)) := by
  have q0 := il_0
  have q1 := il_1
  unfold SP_is2 at h
  rcases h with ⟨z1_, e2_, h3_, z4_, h5_, (⟨hs10_, h9_, hr_⟩ | ⟨hs10_, h9_, hr_⟩)⟩
  all_goals (have y1 := eT e2_; have y2 := eT hr_; omega)
theorem sameE {M Mc M1 D Dc D2 : mM} (h : RW 0 M.1 (D.1 (50, 0, 0))) (hN : NW5 (D.1 (50, 0, 0))) (hc : FR S_c_X11_error M Mc) (h1 : M1 = Mc) (hd : FR S_c_X12_finding D Dc) (h2 : D2 = Dc) : RW 0 M1.1 (D2.1 (50, 0, 0)) := by
  have e : D2.1 (50, 0, 0) = D.1 (50, 0, 0) := funext fun k => by rw [h2]; exact hd _ _ (by simp [S_c_X12_finding])
  rw [e, h1]
  exact RW_same h hN (fun c k w _ => hc c k (fun q => by unfold wR at w; simp only [S_c_X11_error, or_false] at q; omega))
theorem x12bec {v u : Int32} {M M' : mM} {r : Int32} (h : SP_X12_become v u M r M') : r = M.1 (50, 0, 0) v.toInt.toNat ∧ M' = up M (50, 0, 0) v.toInt.toNat u := by
  unfold SP_X12_become at h
  rcases h with ⟨j3_, h4_, z1_, e2_, j7_, h8_, M5_, hM6_, hr_, hM_⟩
  obtain rfl : j3_ = v.toInt.toNat := by omega
  obtain rfl : j7_ = v.toInt.toNat := by omega
  exact ⟨by rw [hr_, e2_], by rw [hM_, hM6_]⟩
/-- what both hold of a thing, of a walker -/
theorem TB {q : rf → Nat → Int32} {n : Nat → Int32} (h : RW 0 q n) (v : Int32) : ¬ (0 ≤ v.toInt ∧ v.toInt < (n 1).toInt) ∨ ((q (36, 0, 0) v.toInt.toNat).toInt = (n (20 + 4 * v.toInt.toNat)).toInt ∧ (q (37, 0, 0) v.toInt.toNat).toInt = (n (21 + 4 * v.toInt.toNat)).toInt ∧ (q (38, 0, 0) v.toInt.toNat).toInt = (n (22 + 4 * v.toInt.toNat)).toInt ∧ (q (39, 0, 0) v.toInt.toNat).toInt = (n (23 + 4 * v.toInt.toNat)).toInt) := by
  by_cases e : 0 ≤ v.toInt ∧ v.toInt < (n 1).toInt
  · have g := h.1.2.1.2 v.toInt.toNat (by unfold nTh; omega)
    exact Or.inr ⟨eT g.1, eT g.2.1, eT g.2.2.1, eT g.2.2.2⟩
  · exact Or.inl e
theorem WB {q : rf → Nat → Int32} {n : Nat → Int32} (h : RW 0 q n) (v : Int32) : ¬ (0 ≤ v.toInt ∧ v.toInt < (n 2).toInt) ∨ (q (9, 0, v.toInt.toNat) 0 = n (180 + 9 * v.toInt.toNat) ∧ q (9, 0, v.toInt.toNat) 1 = n (181 + 9 * v.toInt.toNat) ∧ q (9, 0, v.toInt.toNat) 2 = n (182 + 9 * v.toInt.toNat) ∧ q (9, 0, v.toInt.toNat) 3 = n (183 + 9 * v.toInt.toNat) ∧ q (9, 0, v.toInt.toNat) 4 = n (184 + 9 * v.toInt.toNat) ∧ q (9, 0, v.toInt.toNat) 5 = n (185 + 9 * v.toInt.toNat) ∧ q (9, 0, v.toInt.toNat) 6 = n (186 + 9 * v.toInt.toNat) ∧ q (9, 0, v.toInt.toNat) 7 = n (187 + 9 * v.toInt.toNat) ∧ q (9, 0, v.toInt.toNat) 8 = n (188 + 9 * v.toInt.toNat)) := by
  by_cases e : 0 ≤ v.toInt ∧ v.toInt < (n 2).toInt
  · have g := (h.1.2.2.1.2 v.toInt.toNat (by unfold nWa; omega)).1
    refine Or.inr ⟨g 0 (by omega), ?_, ?_, ?_, ?_, ?_, ?_, ?_, ?_⟩
    · rw [g 1 (by omega), show 180 + 9 * v.toInt.toNat + 1 = 181 + 9 * v.toInt.toNat by omega]
    · rw [g 2 (by omega), show 180 + 9 * v.toInt.toNat + 2 = 182 + 9 * v.toInt.toNat by omega]
    · rw [g 3 (by omega), show 180 + 9 * v.toInt.toNat + 3 = 183 + 9 * v.toInt.toNat by omega]
    · rw [g 4 (by omega), show 180 + 9 * v.toInt.toNat + 4 = 184 + 9 * v.toInt.toNat by omega]
    · rw [g 5 (by omega), show 180 + 9 * v.toInt.toNat + 5 = 185 + 9 * v.toInt.toNat by omega]
    · rw [g 6 (by omega), show 180 + 9 * v.toInt.toNat + 6 = 186 + 9 * v.toInt.toNat by omega]
    · rw [g 7 (by omega), show 180 + 9 * v.toInt.toNat + 7 = 187 + 9 * v.toInt.toNat by omega]
    · rw [g 8 (by omega), show 180 + 9 * v.toInt.toNat + 8 = 188 + 9 * v.toInt.toNat by omega]
  · exact Or.inl e

theorem cb_2 {v : Int32} {u : Int32} {t : Int32} {M M1 D D2 : mM} {r1 r2 : Int32} (h1 : SP_X11_moves v u t M r1 M1) (h2 : SP_X12_moves v u t D r2 D2) (hR : RW 0 M.1 (D.1 (50, 0, 0))) (hD : InvD D) (hu : (D.1 (12, 0, 0) 7).toInt = -1) : RW 0 M1.1 (D2.1 (50, 0, 0)) ∧ r1 = r2 := by
  have q0 := il_0
  have q1 := il_1
  have bT := eT hR.1.2.1.1
  have bW := eT hR.1.2.2.1.1
  have nT := nTh_b hD.2.1
  have nW := nWa_b hD.2.1
  unfold nTh at nT
  unfold nWa at nW
  have T := TB hR v
  unfold SP_X11_moves at h1
  rcases h1 with (⟨c_hs5_, c_h4_, (⟨c_hs11_, c_h10_, (⟨c_hs17_, c_h16_, c_j21_, c_h22_, c_z19_, c_e20_, (⟨c_h23_, c_j26_, c_h27_, c_z24_, c_e25_, (⟨c_h28_, c_j31_, c_h32_, c_M29_, c_hM30_, c_j37_, c_h38_, c_M35_, c_hM36_, c_hr_, c_hM_⟩ | ⟨c_h28_, c_M42_, -, c_hF46_, c_r41_, c_hs48_, c_hr_, c_hM_⟩)⟩ | ⟨c_h23_, c_M50_, -, c_hF54_, c_r49_, c_hs56_, c_hr_, c_hM_⟩)⟩ | ⟨c_hs17_, c_h16_, c_M59_, -, c_hF63_, c_r58_, c_hs65_, c_hr_, c_hM_⟩)⟩ | ⟨c_hs11_, c_h10_, c_M68_, -, c_hF72_, c_r67_, c_hs74_, c_hr_, c_hM_⟩)⟩ | ⟨c_hs5_, c_M77_, -, c_hF81_, c_r76_, c_hs83_, c_hr_, c_hM_⟩)
  · obtain rfl : c_j21_ = v.toInt.toNat := by omega
    obtain rfl : c_j26_ = v.toInt.toNat := by omega
    obtain rfl : c_j31_ = v.toInt.toNat := by omega
    obtain rfl : c_j37_ = v.toInt.toNat := by omega
    have qc_hs5_ := x7has c_hs5_
    have yc_e20_ := eT c_e20_
    have yc_e25_ := eT c_e25_
    have yrc_ := eT c_hr_
    unfold SP_X12_moves at h2
    rcases h2 with (⟨d_hs5_, d_h4_, (⟨d_hs11_, d_h10_, (⟨d_hs17_, d_h16_, d_r19_, d_hs23_, d_h22_, d_z24_, d_h25_, d_j28_, d_h29_, d_z26_, d_e27_, d_h30_, (⟨d_h31_, d_r32_, d_hs36_, d_h35_, d_z37_, d_h38_, d_j41_, d_h42_, d_z39_, d_e40_, d_h43_, (⟨d_h44_, d_r45_, d_hs49_, d_h48_, d_z50_, d_h51_, d_j54_, d_h55_, d_M52_, d_hM53_, -, d_r58_, d_hs62_, d_h61_, d_z63_, d_h64_, d_j67_, d_h68_, d_M65_, d_hM66_, d_hr_, d_hM_⟩ | ⟨d_h44_, d_M72_, -, d_hF76_, d_r71_, d_hs78_, d_h74_, d_hr_, d_hM_⟩)⟩ | ⟨d_h31_, d_M80_, -, d_hF84_, d_r79_, d_hs86_, d_h82_, d_hr_, d_hM_⟩)⟩ | ⟨d_hs17_, d_h16_, d_M89_, -, d_hF93_, d_r88_, d_hs95_, d_h91_, d_hr_, d_hM_⟩)⟩ | ⟨d_hs11_, d_h10_, d_M98_, -, d_hF102_, d_r97_, d_hs104_, d_h100_, d_hr_, d_hM_⟩)⟩ | ⟨d_hs5_, d_M107_, -, d_hF111_, d_r106_, d_hs113_, d_h109_, d_hr_, d_hM_⟩)
    · obtain rfl : d_j28_ = 20 + 4 * v.toInt.toNat := by omega
      obtain rfl : d_j41_ = 21 + 4 * v.toInt.toNat := by omega
      obtain rfl : d_j54_ = 22 + 4 * v.toInt.toNat := by omega
      obtain rfl : d_j67_ = 23 + 4 * v.toInt.toNat := by omega
      have qd_hs5_ := is1x d_hs5_
      have yd_e27_ := eT d_e27_
      have yd_e40_ := eT d_e40_
      have yrd_ := eT d_hr_
      have hv : 0 ≤ v.toInt ∧ v.toInt < (D.1 (50, 0, 0) 1).toInt := by omega
      refine ⟨RW_of hR hD.2.1 (WRR_thf (t := v.toInt.toNat) hR.1 hD.2.1 (by unfold nTh; omega) (fun c k e1 e2 => ?_) (fun j hj => ?_) ⟨?_, ?_, ?_⟩ ⟨?_, ?_⟩) (fun c k hc => ?_) (fun j hj => ?_), by rw [c_hr_, d_hr_]⟩
      · rw [c_hM_, zupN c_hM36_ (fun z => e1 ⟨Or.inr (Or.inr z.1), z.2⟩), zupN c_hM30_ (fun z => e1 ⟨Or.inr (Or.inl z.1), z.2⟩)]
      · rw [d_hM_, zupN d_hM66_ (fun z => by have := z.2; omega), zupN d_hM53_ (fun z => by have := z.2; omega)]
      · rw [c_hM_, zupR c_hM36_ (by simp), zupR c_hM30_ (by simp), d_hM_, zupN d_hM66_ (fun z => by have := z.2; omega), zupN d_hM53_ (fun z => by have := z.2; omega)]; exact i32e (by omega)
      · rw [c_hM_, zupR c_hM36_ (by simp), zupE c_hM30_ rfl rfl, d_hM_, zupN d_hM66_ (fun z => by have := z.2; omega), zupE d_hM53_ rfl rfl]
      · rw [c_hM_, zupE c_hM36_ rfl rfl, d_hM_, zupE d_hM66_ rfl rfl]
      · rw [d_hM_, zupE d_hM66_ rfl rfl]; omega
      · rw [d_hM_, zupN d_hM66_ (fun z => by have := z.2; omega), zupN d_hM53_ (fun z => by have := z.2; omega)]; intro z; omega
      · rw [c_hM_, zupR c_hM36_ (by dsimp only; omega), zupR c_hM30_ (by dsimp only; omega)]
      · rw [d_hM_, zupN d_hM66_ (fun z => by have := z.2; omega), zupN d_hM53_ (fun z => by have := z.2; omega)]
    · obtain rfl : d_j28_ = 20 + 4 * v.toInt.toNat := by omega
      obtain rfl : d_j41_ = 21 + 4 * v.toInt.toNat := by omega
      have qd_hs5_ := is1x d_hs5_
      have yd_e27_ := eT d_e27_
      have yd_e40_ := eT d_e40_
      have yrd_ := eT d_hr_
      exfalso; omega
    · obtain rfl : d_j28_ = 20 + 4 * v.toInt.toNat := by omega
      have qd_hs5_ := is1x d_hs5_
      have yd_e27_ := eT d_e27_
      have yrd_ := eT d_hr_
      exfalso; omega
    · have qd_hs5_ := is1x d_hs5_
      have yrd_ := eT d_hr_
      exfalso; omega
    · have qd_hs5_ := is1x d_hs5_
      have yrd_ := eT d_hr_
      exfalso; omega
    · have qd_hs5_ := is1x d_hs5_
      have yrd_ := eT d_hr_
      exfalso; omega
  · obtain rfl : c_j21_ = v.toInt.toNat := by omega
    obtain rfl : c_j26_ = v.toInt.toNat := by omega
    have qc_hs5_ := x7has c_hs5_
    have yc_e20_ := eT c_e20_
    have yc_e25_ := eT c_e25_
    have qc_hs48_ := err3 c_hs48_
    have yrc_ := eT c_hr_
    unfold SP_X12_moves at h2
    rcases h2 with (⟨d_hs5_, d_h4_, (⟨d_hs11_, d_h10_, (⟨d_hs17_, d_h16_, d_r19_, d_hs23_, d_h22_, d_z24_, d_h25_, d_j28_, d_h29_, d_z26_, d_e27_, d_h30_, (⟨d_h31_, d_r32_, d_hs36_, d_h35_, d_z37_, d_h38_, d_j41_, d_h42_, d_z39_, d_e40_, d_h43_, (⟨d_h44_, d_r45_, d_hs49_, d_h48_, d_z50_, d_h51_, d_j54_, d_h55_, d_M52_, d_hM53_, -, d_r58_, d_hs62_, d_h61_, d_z63_, d_h64_, d_j67_, d_h68_, d_M65_, d_hM66_, d_hr_, d_hM_⟩ | ⟨d_h44_, d_M72_, -, d_hF76_, d_r71_, d_hs78_, d_h74_, d_hr_, d_hM_⟩)⟩ | ⟨d_h31_, d_M80_, -, d_hF84_, d_r79_, d_hs86_, d_h82_, d_hr_, d_hM_⟩)⟩ | ⟨d_hs17_, d_h16_, d_M89_, -, d_hF93_, d_r88_, d_hs95_, d_h91_, d_hr_, d_hM_⟩)⟩ | ⟨d_hs11_, d_h10_, d_M98_, -, d_hF102_, d_r97_, d_hs104_, d_h100_, d_hr_, d_hM_⟩)⟩ | ⟨d_hs5_, d_M107_, -, d_hF111_, d_r106_, d_hs113_, d_h109_, d_hr_, d_hM_⟩)
    · obtain rfl : d_j28_ = 20 + 4 * v.toInt.toNat := by omega
      obtain rfl : d_j41_ = 21 + 4 * v.toInt.toNat := by omega
      obtain rfl : d_j54_ = 22 + 4 * v.toInt.toNat := by omega
      obtain rfl : d_j67_ = 23 + 4 * v.toInt.toNat := by omega
      have qd_hs5_ := is1x d_hs5_
      have yd_e27_ := eT d_e27_
      have yd_e40_ := eT d_e40_
      have yrd_ := eT d_hr_
      exfalso; omega
    · obtain rfl : d_j28_ = 20 + 4 * v.toInt.toNat := by omega
      obtain rfl : d_j41_ = 21 + 4 * v.toInt.toNat := by omega
      have qd_hs5_ := is1x d_hs5_
      have yd_e27_ := eT d_e27_
      have yd_e40_ := eT d_e40_
      have yrd_ := eT d_hr_
      exact ⟨sameE hR hD.2.1 c_hF46_ c_hM_ d_hF76_ d_hM_, i32e (by omega)⟩
    · obtain rfl : d_j28_ = 20 + 4 * v.toInt.toNat := by omega
      have qd_hs5_ := is1x d_hs5_
      have yd_e27_ := eT d_e27_
      have yrd_ := eT d_hr_
      exfalso; omega
    · have qd_hs5_ := is1x d_hs5_
      have yrd_ := eT d_hr_
      exfalso; omega
    · have qd_hs5_ := is1x d_hs5_
      have yrd_ := eT d_hr_
      exfalso; omega
    · have qd_hs5_ := is1x d_hs5_
      have yrd_ := eT d_hr_
      exfalso; omega
  · obtain rfl : c_j21_ = v.toInt.toNat := by omega
    have qc_hs5_ := x7has c_hs5_
    have yc_e20_ := eT c_e20_
    have qc_hs56_ := err5 c_hs56_
    have yrc_ := eT c_hr_
    unfold SP_X12_moves at h2
    rcases h2 with (⟨d_hs5_, d_h4_, (⟨d_hs11_, d_h10_, (⟨d_hs17_, d_h16_, d_r19_, d_hs23_, d_h22_, d_z24_, d_h25_, d_j28_, d_h29_, d_z26_, d_e27_, d_h30_, (⟨d_h31_, d_r32_, d_hs36_, d_h35_, d_z37_, d_h38_, d_j41_, d_h42_, d_z39_, d_e40_, d_h43_, (⟨d_h44_, d_r45_, d_hs49_, d_h48_, d_z50_, d_h51_, d_j54_, d_h55_, d_M52_, d_hM53_, -, d_r58_, d_hs62_, d_h61_, d_z63_, d_h64_, d_j67_, d_h68_, d_M65_, d_hM66_, d_hr_, d_hM_⟩ | ⟨d_h44_, d_M72_, -, d_hF76_, d_r71_, d_hs78_, d_h74_, d_hr_, d_hM_⟩)⟩ | ⟨d_h31_, d_M80_, -, d_hF84_, d_r79_, d_hs86_, d_h82_, d_hr_, d_hM_⟩)⟩ | ⟨d_hs17_, d_h16_, d_M89_, -, d_hF93_, d_r88_, d_hs95_, d_h91_, d_hr_, d_hM_⟩)⟩ | ⟨d_hs11_, d_h10_, d_M98_, -, d_hF102_, d_r97_, d_hs104_, d_h100_, d_hr_, d_hM_⟩)⟩ | ⟨d_hs5_, d_M107_, -, d_hF111_, d_r106_, d_hs113_, d_h109_, d_hr_, d_hM_⟩)
    · obtain rfl : d_j28_ = 20 + 4 * v.toInt.toNat := by omega
      obtain rfl : d_j41_ = 21 + 4 * v.toInt.toNat := by omega
      obtain rfl : d_j54_ = 22 + 4 * v.toInt.toNat := by omega
      obtain rfl : d_j67_ = 23 + 4 * v.toInt.toNat := by omega
      have qd_hs5_ := is1x d_hs5_
      have yd_e27_ := eT d_e27_
      have yd_e40_ := eT d_e40_
      have yrd_ := eT d_hr_
      exfalso; omega
    · obtain rfl : d_j28_ = 20 + 4 * v.toInt.toNat := by omega
      obtain rfl : d_j41_ = 21 + 4 * v.toInt.toNat := by omega
      have qd_hs5_ := is1x d_hs5_
      have yd_e27_ := eT d_e27_
      have yd_e40_ := eT d_e40_
      have yrd_ := eT d_hr_
      exfalso; omega
    · obtain rfl : d_j28_ = 20 + 4 * v.toInt.toNat := by omega
      have qd_hs5_ := is1x d_hs5_
      have yd_e27_ := eT d_e27_
      have yrd_ := eT d_hr_
      exact ⟨sameE hR hD.2.1 c_hF54_ c_hM_ d_hF84_ d_hM_, i32e (by omega)⟩
    · have qd_hs5_ := is1x d_hs5_
      have yrd_ := eT d_hr_
      exfalso; omega
    · have qd_hs5_ := is1x d_hs5_
      have yrd_ := eT d_hr_
      exfalso; omega
    · have qd_hs5_ := is1x d_hs5_
      have yrd_ := eT d_hr_
      exfalso; omega
  · have qc_hs5_ := x7has c_hs5_
    have qc_hs65_ := err1 c_hs65_
    have yrc_ := eT c_hr_
    unfold SP_X12_moves at h2
    rcases h2 with (⟨d_hs5_, d_h4_, (⟨d_hs11_, d_h10_, (⟨d_hs17_, d_h16_, d_r19_, d_hs23_, d_h22_, d_z24_, d_h25_, d_j28_, d_h29_, d_z26_, d_e27_, d_h30_, (⟨d_h31_, d_r32_, d_hs36_, d_h35_, d_z37_, d_h38_, d_j41_, d_h42_, d_z39_, d_e40_, d_h43_, (⟨d_h44_, d_r45_, d_hs49_, d_h48_, d_z50_, d_h51_, d_j54_, d_h55_, d_M52_, d_hM53_, -, d_r58_, d_hs62_, d_h61_, d_z63_, d_h64_, d_j67_, d_h68_, d_M65_, d_hM66_, d_hr_, d_hM_⟩ | ⟨d_h44_, d_M72_, -, d_hF76_, d_r71_, d_hs78_, d_h74_, d_hr_, d_hM_⟩)⟩ | ⟨d_h31_, d_M80_, -, d_hF84_, d_r79_, d_hs86_, d_h82_, d_hr_, d_hM_⟩)⟩ | ⟨d_hs17_, d_h16_, d_M89_, -, d_hF93_, d_r88_, d_hs95_, d_h91_, d_hr_, d_hM_⟩)⟩ | ⟨d_hs11_, d_h10_, d_M98_, -, d_hF102_, d_r97_, d_hs104_, d_h100_, d_hr_, d_hM_⟩)⟩ | ⟨d_hs5_, d_M107_, -, d_hF111_, d_r106_, d_hs113_, d_h109_, d_hr_, d_hM_⟩)
    · obtain rfl : d_j28_ = 20 + 4 * v.toInt.toNat := by omega
      obtain rfl : d_j41_ = 21 + 4 * v.toInt.toNat := by omega
      obtain rfl : d_j54_ = 22 + 4 * v.toInt.toNat := by omega
      obtain rfl : d_j67_ = 23 + 4 * v.toInt.toNat := by omega
      have qd_hs5_ := is1x d_hs5_
      have yd_e27_ := eT d_e27_
      have yd_e40_ := eT d_e40_
      have yrd_ := eT d_hr_
      exfalso; omega
    · obtain rfl : d_j28_ = 20 + 4 * v.toInt.toNat := by omega
      obtain rfl : d_j41_ = 21 + 4 * v.toInt.toNat := by omega
      have qd_hs5_ := is1x d_hs5_
      have yd_e27_ := eT d_e27_
      have yd_e40_ := eT d_e40_
      have yrd_ := eT d_hr_
      exfalso; omega
    · obtain rfl : d_j28_ = 20 + 4 * v.toInt.toNat := by omega
      have qd_hs5_ := is1x d_hs5_
      have yd_e27_ := eT d_e27_
      have yrd_ := eT d_hr_
      exfalso; omega
    · have qd_hs5_ := is1x d_hs5_
      have yrd_ := eT d_hr_
      exact ⟨sameE hR hD.2.1 c_hF63_ c_hM_ d_hF93_ d_hM_, i32e (by omega)⟩
    · have qd_hs5_ := is1x d_hs5_
      have yrd_ := eT d_hr_
      exact ⟨sameE hR hD.2.1 c_hF63_ c_hM_ d_hF102_ d_hM_, i32e (by omega)⟩
    · have qd_hs5_ := is1x d_hs5_
      have yrd_ := eT d_hr_
      exact ⟨sameE hR hD.2.1 c_hF63_ c_hM_ d_hF111_ d_hM_, i32e (by omega)⟩
  · have qc_hs5_ := x7has c_hs5_
    have qc_hs74_ := err1 c_hs74_
    have yrc_ := eT c_hr_
    unfold SP_X12_moves at h2
    rcases h2 with (⟨d_hs5_, d_h4_, (⟨d_hs11_, d_h10_, (⟨d_hs17_, d_h16_, d_r19_, d_hs23_, d_h22_, d_z24_, d_h25_, d_j28_, d_h29_, d_z26_, d_e27_, d_h30_, (⟨d_h31_, d_r32_, d_hs36_, d_h35_, d_z37_, d_h38_, d_j41_, d_h42_, d_z39_, d_e40_, d_h43_, (⟨d_h44_, d_r45_, d_hs49_, d_h48_, d_z50_, d_h51_, d_j54_, d_h55_, d_M52_, d_hM53_, -, d_r58_, d_hs62_, d_h61_, d_z63_, d_h64_, d_j67_, d_h68_, d_M65_, d_hM66_, d_hr_, d_hM_⟩ | ⟨d_h44_, d_M72_, -, d_hF76_, d_r71_, d_hs78_, d_h74_, d_hr_, d_hM_⟩)⟩ | ⟨d_h31_, d_M80_, -, d_hF84_, d_r79_, d_hs86_, d_h82_, d_hr_, d_hM_⟩)⟩ | ⟨d_hs17_, d_h16_, d_M89_, -, d_hF93_, d_r88_, d_hs95_, d_h91_, d_hr_, d_hM_⟩)⟩ | ⟨d_hs11_, d_h10_, d_M98_, -, d_hF102_, d_r97_, d_hs104_, d_h100_, d_hr_, d_hM_⟩)⟩ | ⟨d_hs5_, d_M107_, -, d_hF111_, d_r106_, d_hs113_, d_h109_, d_hr_, d_hM_⟩)
    · obtain rfl : d_j28_ = 20 + 4 * v.toInt.toNat := by omega
      obtain rfl : d_j41_ = 21 + 4 * v.toInt.toNat := by omega
      obtain rfl : d_j54_ = 22 + 4 * v.toInt.toNat := by omega
      obtain rfl : d_j67_ = 23 + 4 * v.toInt.toNat := by omega
      have qd_hs5_ := is1x d_hs5_
      have yd_e27_ := eT d_e27_
      have yd_e40_ := eT d_e40_
      have yrd_ := eT d_hr_
      exfalso; omega
    · obtain rfl : d_j28_ = 20 + 4 * v.toInt.toNat := by omega
      obtain rfl : d_j41_ = 21 + 4 * v.toInt.toNat := by omega
      have qd_hs5_ := is1x d_hs5_
      have yd_e27_ := eT d_e27_
      have yd_e40_ := eT d_e40_
      have yrd_ := eT d_hr_
      exfalso; omega
    · obtain rfl : d_j28_ = 20 + 4 * v.toInt.toNat := by omega
      have qd_hs5_ := is1x d_hs5_
      have yd_e27_ := eT d_e27_
      have yrd_ := eT d_hr_
      exfalso; omega
    · have qd_hs5_ := is1x d_hs5_
      have yrd_ := eT d_hr_
      exact ⟨sameE hR hD.2.1 c_hF72_ c_hM_ d_hF93_ d_hM_, i32e (by omega)⟩
    · have qd_hs5_ := is1x d_hs5_
      have yrd_ := eT d_hr_
      exact ⟨sameE hR hD.2.1 c_hF72_ c_hM_ d_hF102_ d_hM_, i32e (by omega)⟩
    · have qd_hs5_ := is1x d_hs5_
      have yrd_ := eT d_hr_
      exact ⟨sameE hR hD.2.1 c_hF72_ c_hM_ d_hF111_ d_hM_, i32e (by omega)⟩
  · have qc_hs5_ := x7has c_hs5_
    have qc_hs83_ := err1 c_hs83_
    have yrc_ := eT c_hr_
    unfold SP_X12_moves at h2
    rcases h2 with (⟨d_hs5_, d_h4_, (⟨d_hs11_, d_h10_, (⟨d_hs17_, d_h16_, d_r19_, d_hs23_, d_h22_, d_z24_, d_h25_, d_j28_, d_h29_, d_z26_, d_e27_, d_h30_, (⟨d_h31_, d_r32_, d_hs36_, d_h35_, d_z37_, d_h38_, d_j41_, d_h42_, d_z39_, d_e40_, d_h43_, (⟨d_h44_, d_r45_, d_hs49_, d_h48_, d_z50_, d_h51_, d_j54_, d_h55_, d_M52_, d_hM53_, -, d_r58_, d_hs62_, d_h61_, d_z63_, d_h64_, d_j67_, d_h68_, d_M65_, d_hM66_, d_hr_, d_hM_⟩ | ⟨d_h44_, d_M72_, -, d_hF76_, d_r71_, d_hs78_, d_h74_, d_hr_, d_hM_⟩)⟩ | ⟨d_h31_, d_M80_, -, d_hF84_, d_r79_, d_hs86_, d_h82_, d_hr_, d_hM_⟩)⟩ | ⟨d_hs17_, d_h16_, d_M89_, -, d_hF93_, d_r88_, d_hs95_, d_h91_, d_hr_, d_hM_⟩)⟩ | ⟨d_hs11_, d_h10_, d_M98_, -, d_hF102_, d_r97_, d_hs104_, d_h100_, d_hr_, d_hM_⟩)⟩ | ⟨d_hs5_, d_M107_, -, d_hF111_, d_r106_, d_hs113_, d_h109_, d_hr_, d_hM_⟩)
    · obtain rfl : d_j28_ = 20 + 4 * v.toInt.toNat := by omega
      obtain rfl : d_j41_ = 21 + 4 * v.toInt.toNat := by omega
      obtain rfl : d_j54_ = 22 + 4 * v.toInt.toNat := by omega
      obtain rfl : d_j67_ = 23 + 4 * v.toInt.toNat := by omega
      have qd_hs5_ := is1x d_hs5_
      have yd_e27_ := eT d_e27_
      have yd_e40_ := eT d_e40_
      have yrd_ := eT d_hr_
      exfalso; omega
    · obtain rfl : d_j28_ = 20 + 4 * v.toInt.toNat := by omega
      obtain rfl : d_j41_ = 21 + 4 * v.toInt.toNat := by omega
      have qd_hs5_ := is1x d_hs5_
      have yd_e27_ := eT d_e27_
      have yd_e40_ := eT d_e40_
      have yrd_ := eT d_hr_
      exfalso; omega
    · obtain rfl : d_j28_ = 20 + 4 * v.toInt.toNat := by omega
      have qd_hs5_ := is1x d_hs5_
      have yd_e27_ := eT d_e27_
      have yrd_ := eT d_hr_
      exfalso; omega
    · have qd_hs5_ := is1x d_hs5_
      have yrd_ := eT d_hr_
      exact ⟨sameE hR hD.2.1 c_hF81_ c_hM_ d_hF93_ d_hM_, i32e (by omega)⟩
    · have qd_hs5_ := is1x d_hs5_
      have yrd_ := eT d_hr_
      exact ⟨sameE hR hD.2.1 c_hF81_ c_hM_ d_hF102_ d_hM_, i32e (by omega)⟩
    · have qd_hs5_ := is1x d_hs5_
      have yrd_ := eT d_hr_
      exact ⟨sameE hR hD.2.1 c_hF81_ c_hM_ d_hF111_ d_hM_, i32e (by omega)⟩
theorem x2click {u t : Int32} {M : mM} {r : Int32} (h : SP_X2_isClick u t M r) : (r.toInt = 1 ∧ (1 ≤ u.toInt ∧ u.toInt ≤ 9) ∧ (1 ≤ t.toInt ∧ t.toInt ≤ 99)) ∨ (r.toInt = 0 ∧ ¬ ((1 ≤ u.toInt ∧ u.toInt ≤ 9) ∧ (1 ≤ t.toInt ∧ t.toInt ≤ 99))) := by
  have q0 := il_0
  have q1 := il_1
  unfold SP_X2_isClick at h
  rcases h with (⟨hs5_, h4_, (⟨hs11_, h10_, hr_⟩ | ⟨hs11_, h10_, hr_⟩)⟩ | ⟨hs5_, h4_, hr_⟩)
  all_goals (have y2 := eT hr_; omega)
theorem cb_11 {v : Int32} {u : Int32} {t : Int32} {s : Int32} {M M1 D D2 : mM} {r1 r2 : Int32} (h1 : SP_X11_habit v u t s M r1 M1) (h2 : SP_X12_habit v u t s D r2 D2) (hR : RW 0 M.1 (D.1 (50, 0, 0))) (hD : InvD D) (hu : (D.1 (12, 0, 0) 7).toInt = -1) : RW 0 M1.1 (D2.1 (50, 0, 0)) ∧ r1 = r2 := by
  have q0 := il_0
  have q1 := il_1
  have bT := eT hR.1.2.1.1
  have bW := eT hR.1.2.2.1.1
  have nT := nTh_b hD.2.1
  have nW := nWa_b hD.2.1
  unfold nTh at nT
  unfold nWa at nW
  have T := WB hR v
  unfold SP_X11_habit at h1
  rcases h1 with (⟨c_hs5_, c_h4_, c_r7_, c_hs11_, c_h10_, (⟨c_h12_, c_M14_, -, c_hF18_, c_r13_, c_hs20_, c_hr_, c_hM_⟩ | ⟨c_h12_, (⟨c_hs25_, c_h24_, c_j27_, c_h28_, c_h29_, c_M30_, c_hM31_, c_M34_, c_hM35_, c_M38_, c_hM39_, c_hr_, c_hM_⟩ | ⟨c_hs25_, c_h24_, c_M44_, -, c_hF48_, c_r43_, c_hs50_, c_hr_, c_hM_⟩)⟩)⟩ | ⟨c_hs5_, c_M53_, -, c_hF57_, c_r52_, c_hs59_, c_hr_, c_hM_⟩)
  · have qc_hs5_ := x10has c_hs5_
    have qc_hs11_ := x2click c_hs11_
    have qc_hs20_ := err1 c_hs20_
    have yrc_ := eT c_hr_
    unfold SP_X12_habit at h2
    rcases h2 with (⟨d_hs5_, d_h4_, (⟨d_hs11_, d_h10_, (⟨d_hs17_, d_h16_, (⟨d_hs23_, d_h22_, d_r25_, d_hs29_, d_h28_, d_z30_, d_h31_, d_j34_, d_h35_, d_M32_, d_hM33_, -, d_r38_, d_hs42_, d_h41_, d_z43_, d_h44_, d_j47_, d_h48_, d_M45_, d_hM46_, -, d_r51_, d_hs55_, d_h54_, d_z56_, d_h57_, d_j60_, d_h61_, d_M58_, d_hM59_, d_hr_, d_hM_⟩ | ⟨d_hs23_, d_h22_, d_M66_, -, d_hF70_, d_r65_, d_hs72_, d_h68_, d_hr_, d_hM_⟩)⟩ | ⟨d_hs17_, d_h16_, d_M75_, -, d_hF79_, d_r74_, d_hs81_, d_h77_, d_hr_, d_hM_⟩)⟩ | ⟨d_hs11_, d_h10_, d_M84_, -, d_hF88_, d_r83_, d_hs90_, d_h86_, d_hr_, d_hM_⟩)⟩ | ⟨d_hs5_, d_M93_, -, d_hF97_, d_r92_, d_hs99_, d_h95_, d_hr_, d_hM_⟩)
    · obtain rfl : d_j34_ = 183 + 9 * v.toInt.toNat := by omega
      obtain rfl : d_j47_ = 184 + 9 * v.toInt.toNat := by omega
      obtain rfl : d_j60_ = 185 + 9 * v.toInt.toNat := by omega
      have qd_hs5_ := is2x d_hs5_
      have yrd_ := eT d_hr_
      exfalso; omega
    · have qd_hs5_ := is2x d_hs5_
      have yrd_ := eT d_hr_
      exact ⟨sameE hR hD.2.1 c_hF18_ c_hM_ d_hF70_ d_hM_, i32e (by omega)⟩
    · have qd_hs5_ := is2x d_hs5_
      have yrd_ := eT d_hr_
      exact ⟨sameE hR hD.2.1 c_hF18_ c_hM_ d_hF79_ d_hM_, i32e (by omega)⟩
    · have qd_hs5_ := is2x d_hs5_
      have yrd_ := eT d_hr_
      exact ⟨sameE hR hD.2.1 c_hF18_ c_hM_ d_hF88_ d_hM_, i32e (by omega)⟩
    · have qd_hs5_ := is2x d_hs5_
      have yrd_ := eT d_hr_
      exact ⟨sameE hR hD.2.1 c_hF18_ c_hM_ d_hF97_ d_hM_, i32e (by omega)⟩
  · obtain rfl : c_j27_ = v.toInt.toNat := by omega
    have qc_hs5_ := x10has c_hs5_
    have qc_hs11_ := x2click c_hs11_
    have yrc_ := eT c_hr_
    unfold SP_X12_habit at h2
    rcases h2 with (⟨d_hs5_, d_h4_, (⟨d_hs11_, d_h10_, (⟨d_hs17_, d_h16_, (⟨d_hs23_, d_h22_, d_r25_, d_hs29_, d_h28_, d_z30_, d_h31_, d_j34_, d_h35_, d_M32_, d_hM33_, -, d_r38_, d_hs42_, d_h41_, d_z43_, d_h44_, d_j47_, d_h48_, d_M45_, d_hM46_, -, d_r51_, d_hs55_, d_h54_, d_z56_, d_h57_, d_j60_, d_h61_, d_M58_, d_hM59_, d_hr_, d_hM_⟩ | ⟨d_hs23_, d_h22_, d_M66_, -, d_hF70_, d_r65_, d_hs72_, d_h68_, d_hr_, d_hM_⟩)⟩ | ⟨d_hs17_, d_h16_, d_M75_, -, d_hF79_, d_r74_, d_hs81_, d_h77_, d_hr_, d_hM_⟩)⟩ | ⟨d_hs11_, d_h10_, d_M84_, -, d_hF88_, d_r83_, d_hs90_, d_h86_, d_hr_, d_hM_⟩)⟩ | ⟨d_hs5_, d_M93_, -, d_hF97_, d_r92_, d_hs99_, d_h95_, d_hr_, d_hM_⟩)
    · obtain rfl : d_j34_ = 183 + 9 * v.toInt.toNat := by omega
      obtain rfl : d_j47_ = 184 + 9 * v.toInt.toNat := by omega
      obtain rfl : d_j60_ = 185 + 9 * v.toInt.toNat := by omega
      have qd_hs5_ := is2x d_hs5_
      have yrd_ := eT d_hr_
      have hv : 0 ≤ v.toInt ∧ v.toInt < (D.1 (50, 0, 0) 2).toInt := by omega
      have T := T.resolve_left (fun z => z hv)
      refine ⟨RW_of hR hD.2.1 (WRR_wkf (w := v.toInt.toNat) hR.1 hD.2.1 (by unfold nWa; omega) (fun c k e1 e2 => ?_) (fun j hj => ?_) (fun k hk h1 => ?_) ⟨?_, ?_⟩) (fun c k hc => ?_) (fun j hj => ?_), by rw [c_hr_, d_hr_]⟩
      · rw [c_hM_, zupN c_hM39_ (fun z => e1 ⟨z.1, by omega⟩), zupN c_hM35_ (fun z => e1 ⟨z.1, by omega⟩), zupN c_hM31_ (fun z => e1 ⟨z.1, by omega⟩)]
      · rw [d_hM_, zupN d_hM59_ (fun z => by have := z.2; omega), zupN d_hM46_ (fun z => by have := z.2; omega), zupN d_hM33_ (fun z => by have := z.2; omega)]
      · have w9 := (hR.1.2.2.1.2 v.toInt.toNat (by unfold nWa; omega)).1 k hk
        rw [c_hM_, d_hM_]
        by_cases e5 : k = 5
        · rw [zupE c_hM39_ rfl e5, zupE d_hM59_ rfl (by omega)]
        · rw [zupN c_hM39_ (fun z => e5 z.2), zupN d_hM59_ (fun z => by have := z.2; omega)]
          by_cases e4 : k = 4
          · rw [zupE c_hM35_ rfl e4, zupE d_hM46_ rfl (by omega)]
          · rw [zupN c_hM35_ (fun z => e4 z.2), zupN d_hM46_ (fun z => by have := z.2; omega)]
            by_cases e3 : k = 3
            · rw [zupE c_hM31_ rfl e3, zupE d_hM33_ rfl (by omega)]
            · rw [zupN c_hM31_ (fun z => e3 z.2), zupN d_hM33_ (fun z => by have := z.2; omega)]; exact w9
      · rw [d_hM_, zupN d_hM59_ (fun z => by have := z.2; omega), zupN d_hM46_ (fun z => by have := z.2; omega), zupE d_hM33_ rfl rfl]; omega
      · rw [d_hM_, zupN d_hM59_ (fun z => by have := z.2; omega), zupE d_hM46_ rfl rfl]; omega
      · rw [c_hM_, zupR c_hM39_ (by dsimp only; omega), zupR c_hM35_ (by dsimp only; omega), zupR c_hM31_ (by dsimp only; omega)]
      · rw [d_hM_, zupN d_hM59_ (fun z => by have := z.2; omega), zupN d_hM46_ (fun z => by have := z.2; omega), zupN d_hM33_ (fun z => by have := z.2; omega)]
    · have qd_hs5_ := is2x d_hs5_
      have yrd_ := eT d_hr_
      exfalso; omega
    · have qd_hs5_ := is2x d_hs5_
      have yrd_ := eT d_hr_
      exfalso; omega
    · have qd_hs5_ := is2x d_hs5_
      have yrd_ := eT d_hr_
      exfalso; omega
    · have qd_hs5_ := is2x d_hs5_
      have yrd_ := eT d_hr_
      exfalso; omega
  · have qc_hs5_ := x10has c_hs5_
    have qc_hs11_ := x2click c_hs11_
    have qc_hs50_ := err1 c_hs50_
    have yrc_ := eT c_hr_
    unfold SP_X12_habit at h2
    rcases h2 with (⟨d_hs5_, d_h4_, (⟨d_hs11_, d_h10_, (⟨d_hs17_, d_h16_, (⟨d_hs23_, d_h22_, d_r25_, d_hs29_, d_h28_, d_z30_, d_h31_, d_j34_, d_h35_, d_M32_, d_hM33_, -, d_r38_, d_hs42_, d_h41_, d_z43_, d_h44_, d_j47_, d_h48_, d_M45_, d_hM46_, -, d_r51_, d_hs55_, d_h54_, d_z56_, d_h57_, d_j60_, d_h61_, d_M58_, d_hM59_, d_hr_, d_hM_⟩ | ⟨d_hs23_, d_h22_, d_M66_, -, d_hF70_, d_r65_, d_hs72_, d_h68_, d_hr_, d_hM_⟩)⟩ | ⟨d_hs17_, d_h16_, d_M75_, -, d_hF79_, d_r74_, d_hs81_, d_h77_, d_hr_, d_hM_⟩)⟩ | ⟨d_hs11_, d_h10_, d_M84_, -, d_hF88_, d_r83_, d_hs90_, d_h86_, d_hr_, d_hM_⟩)⟩ | ⟨d_hs5_, d_M93_, -, d_hF97_, d_r92_, d_hs99_, d_h95_, d_hr_, d_hM_⟩)
    · obtain rfl : d_j34_ = 183 + 9 * v.toInt.toNat := by omega
      obtain rfl : d_j47_ = 184 + 9 * v.toInt.toNat := by omega
      obtain rfl : d_j60_ = 185 + 9 * v.toInt.toNat := by omega
      have qd_hs5_ := is2x d_hs5_
      have yrd_ := eT d_hr_
      exfalso; omega
    · have qd_hs5_ := is2x d_hs5_
      have yrd_ := eT d_hr_
      exact ⟨sameE hR hD.2.1 c_hF48_ c_hM_ d_hF70_ d_hM_, i32e (by omega)⟩
    · have qd_hs5_ := is2x d_hs5_
      have yrd_ := eT d_hr_
      exact ⟨sameE hR hD.2.1 c_hF48_ c_hM_ d_hF79_ d_hM_, i32e (by omega)⟩
    · have qd_hs5_ := is2x d_hs5_
      have yrd_ := eT d_hr_
      exact ⟨sameE hR hD.2.1 c_hF48_ c_hM_ d_hF88_ d_hM_, i32e (by omega)⟩
    · have qd_hs5_ := is2x d_hs5_
      have yrd_ := eT d_hr_
      exact ⟨sameE hR hD.2.1 c_hF48_ c_hM_ d_hF97_ d_hM_, i32e (by omega)⟩
  · have qc_hs5_ := x10has c_hs5_
    have qc_hs59_ := err1 c_hs59_
    have yrc_ := eT c_hr_
    unfold SP_X12_habit at h2
    rcases h2 with (⟨d_hs5_, d_h4_, (⟨d_hs11_, d_h10_, (⟨d_hs17_, d_h16_, (⟨d_hs23_, d_h22_, d_r25_, d_hs29_, d_h28_, d_z30_, d_h31_, d_j34_, d_h35_, d_M32_, d_hM33_, -, d_r38_, d_hs42_, d_h41_, d_z43_, d_h44_, d_j47_, d_h48_, d_M45_, d_hM46_, -, d_r51_, d_hs55_, d_h54_, d_z56_, d_h57_, d_j60_, d_h61_, d_M58_, d_hM59_, d_hr_, d_hM_⟩ | ⟨d_hs23_, d_h22_, d_M66_, -, d_hF70_, d_r65_, d_hs72_, d_h68_, d_hr_, d_hM_⟩)⟩ | ⟨d_hs17_, d_h16_, d_M75_, -, d_hF79_, d_r74_, d_hs81_, d_h77_, d_hr_, d_hM_⟩)⟩ | ⟨d_hs11_, d_h10_, d_M84_, -, d_hF88_, d_r83_, d_hs90_, d_h86_, d_hr_, d_hM_⟩)⟩ | ⟨d_hs5_, d_M93_, -, d_hF97_, d_r92_, d_hs99_, d_h95_, d_hr_, d_hM_⟩)
    · obtain rfl : d_j34_ = 183 + 9 * v.toInt.toNat := by omega
      obtain rfl : d_j47_ = 184 + 9 * v.toInt.toNat := by omega
      obtain rfl : d_j60_ = 185 + 9 * v.toInt.toNat := by omega
      have qd_hs5_ := is2x d_hs5_
      have yrd_ := eT d_hr_
      exfalso; omega
    · have qd_hs5_ := is2x d_hs5_
      have yrd_ := eT d_hr_
      exact ⟨sameE hR hD.2.1 c_hF57_ c_hM_ d_hF70_ d_hM_, i32e (by omega)⟩
    · have qd_hs5_ := is2x d_hs5_
      have yrd_ := eT d_hr_
      exact ⟨sameE hR hD.2.1 c_hF57_ c_hM_ d_hF79_ d_hM_, i32e (by omega)⟩
    · have qd_hs5_ := is2x d_hs5_
      have yrd_ := eT d_hr_
      exact ⟨sameE hR hD.2.1 c_hF57_ c_hM_ d_hF88_ d_hM_, i32e (by omega)⟩
    · have qd_hs5_ := is2x d_hs5_
      have yrd_ := eT d_hr_
      exact ⟨sameE hR hD.2.1 c_hF57_ c_hM_ d_hF97_ d_hM_, i32e (by omega)⟩
theorem cb_12 {v : Int32} {u : Int32} {M M1 D D2 : mM} {r1 r2 : Int32} (h1 : SP_X11_face v u M r1 M1) (h2 : SP_X12_face v u D r2 D2) (hR : RW 0 M.1 (D.1 (50, 0, 0))) (hD : InvD D) (hu : (D.1 (12, 0, 0) 7).toInt = -1) : RW 0 M1.1 (D2.1 (50, 0, 0)) ∧ r1 = r2 := by
  have q0 := il_0
  have q1 := il_1
  have bT := eT hR.1.2.1.1
  have bW := eT hR.1.2.2.1.1
  have nT := nTh_b hD.2.1
  have nW := nWa_b hD.2.1
  unfold nTh at nT
  unfold nWa at nW
  have T := WB hR v
  unfold SP_X11_face at h1
  rcases h1 with (⟨c_hs5_, c_h4_, (⟨c_hs11_, c_h10_, c_j13_, c_h14_, c_h15_, c_z16_, c_e17_, c_j18_, c_h19_, c_h20_, c_M21_, c_hM22_, c_hr_, c_hM_⟩ | ⟨c_hs11_, c_h10_, c_M27_, -, c_hF31_, c_r26_, c_hs33_, c_hr_, c_hM_⟩)⟩ | ⟨c_hs5_, c_M36_, -, c_hF40_, c_r35_, c_hs42_, c_hr_, c_hM_⟩)
  · obtain rfl : c_j13_ = v.toInt.toNat := by omega
    obtain rfl : c_j18_ = v.toInt.toNat := by omega
    have qc_hs5_ := x10has c_hs5_
    have yc_e17_ := eT c_e17_
    have yrc_ := eT c_hr_
    unfold SP_X12_face at h2
    rcases h2 with (⟨d_hs5_, d_h4_, (⟨d_hs11_, d_h10_, d_r13_, d_hs17_, d_h16_, d_z18_, d_h19_, d_M21_, -, d_hF25_, d_r20_, d_hs27_, d_hr_, d_hM_⟩ | ⟨d_hs11_, d_h10_, d_M30_, -, d_hF34_, d_r29_, d_hs36_, d_h32_, d_hr_, d_hM_⟩)⟩ | ⟨d_hs5_, d_M39_, -, d_hF43_, d_r38_, d_hs45_, d_h41_, d_hr_, d_hM_⟩)
    · have qd_hs5_ := is2x d_hs5_
      have yrd_ := eT d_hr_
      have hv : 0 ≤ v.toInt ∧ v.toInt < (D.1 (50, 0, 0) 2).toInt := by omega
      have T := T.resolve_left (fun z => z hv)
      have bc := x12bec d_hs27_
      rw [show d_z18_.toInt.toNat = 180 + 9 * v.toInt.toNat + 2 by omega] at bc
      have B := WRR_wf (f := 2) (x := u) hR.1 hD.2.1 (w := v.toInt.toNat) (by unfold nWa; omega) (by omega)
      rw [← c_hM22_, ← bc.2, ← c_hM_, ← d_hM_] at B
      refine ⟨RW_of hR hD.2.1 B (fun c k hc => ?_) (fun j hj => ?_), ?_⟩
      · rw [c_hM_, zupR c_hM22_ (by dsimp only; omega)]
      · rw [d_hM_, bc.2, up_row, updN (by omega)]
      · rw [c_hr_, c_e17_, d_hr_, bc.1, show 180 + 9 * v.toInt.toNat + 2 = 182 + 9 * v.toInt.toNat by omega]; exact T.2.2.1
    · have qd_hs5_ := is2x d_hs5_
      have yrd_ := eT d_hr_
      exfalso; omega
    · have qd_hs5_ := is2x d_hs5_
      have yrd_ := eT d_hr_
      exfalso; omega
  · have qc_hs5_ := x10has c_hs5_
    have qc_hs33_ := err1 c_hs33_
    have yrc_ := eT c_hr_
    unfold SP_X12_face at h2
    rcases h2 with (⟨d_hs5_, d_h4_, (⟨d_hs11_, d_h10_, d_r13_, d_hs17_, d_h16_, d_z18_, d_h19_, d_M21_, -, d_hF25_, d_r20_, d_hs27_, d_hr_, d_hM_⟩ | ⟨d_hs11_, d_h10_, d_M30_, -, d_hF34_, d_r29_, d_hs36_, d_h32_, d_hr_, d_hM_⟩)⟩ | ⟨d_hs5_, d_M39_, -, d_hF43_, d_r38_, d_hs45_, d_h41_, d_hr_, d_hM_⟩)
    · have qd_hs5_ := is2x d_hs5_
      have yrd_ := eT d_hr_
      exfalso; omega
    · have qd_hs5_ := is2x d_hs5_
      have yrd_ := eT d_hr_
      exact ⟨sameE hR hD.2.1 c_hF31_ c_hM_ d_hF34_ d_hM_, i32e (by omega)⟩
    · have qd_hs5_ := is2x d_hs5_
      have yrd_ := eT d_hr_
      exact ⟨sameE hR hD.2.1 c_hF31_ c_hM_ d_hF43_ d_hM_, i32e (by omega)⟩
  · have qc_hs5_ := x10has c_hs5_
    have qc_hs42_ := err1 c_hs42_
    have yrc_ := eT c_hr_
    unfold SP_X12_face at h2
    rcases h2 with (⟨d_hs5_, d_h4_, (⟨d_hs11_, d_h10_, d_r13_, d_hs17_, d_h16_, d_z18_, d_h19_, d_M21_, -, d_hF25_, d_r20_, d_hs27_, d_hr_, d_hM_⟩ | ⟨d_hs11_, d_h10_, d_M30_, -, d_hF34_, d_r29_, d_hs36_, d_h32_, d_hr_, d_hM_⟩)⟩ | ⟨d_hs5_, d_M39_, -, d_hF43_, d_r38_, d_hs45_, d_h41_, d_hr_, d_hM_⟩)
    · have qd_hs5_ := is2x d_hs5_
      have yrd_ := eT d_hr_
      exfalso; omega
    · have qd_hs5_ := is2x d_hs5_
      have yrd_ := eT d_hr_
      exact ⟨sameE hR hD.2.1 c_hF40_ c_hM_ d_hF34_ d_hM_, i32e (by omega)⟩
    · have qd_hs5_ := is2x d_hs5_
      have yrd_ := eT d_hr_
      exact ⟨sameE hR hD.2.1 c_hF40_ c_hM_ d_hF43_ d_hM_, i32e (by omega)⟩
theorem cb_13 {v : Int32} {u : Int32} {M M1 D D2 : mM} {r1 r2 : Int32} (h1 : SP_X11_goes v u M r1 M1) (h2 : SP_X12_goes v u D r2 D2) (hR : RW 0 M.1 (D.1 (50, 0, 0))) (hD : InvD D) (hu : (D.1 (12, 0, 0) 7).toInt = -1) (hub : 0 ≤ u.toInt ∧ u.toInt ≤ 1) : RW 0 M1.1 (D2.1 (50, 0, 0)) ∧ r1 = r2 := by
  have q0 := il_0
  have q1 := il_1
  have bT := eT hR.1.2.1.1
  have bW := eT hR.1.2.2.1.1
  have nT := nTh_b hD.2.1
  have nW := nWa_b hD.2.1
  unfold nTh at nT
  unfold nWa at nW
  have T := WB hR v
  unfold SP_X11_goes at h1
  rcases h1 with (⟨c_hs5_, c_h4_, c_j7_, c_h8_, c_h9_, c_z10_, c_e11_, c_h12_, c_j13_, c_h14_, c_h15_, c_M16_, c_hM17_, (⟨c_h20_, c_hr_, c_hM_⟩ | ⟨c_h20_, c_hr_, c_hM_⟩)⟩ | ⟨c_hs5_, c_M23_, -, c_hF27_, c_r22_, c_hs29_, c_hr_, c_hM_⟩)
  · obtain rfl : c_j7_ = v.toInt.toNat := by omega
    obtain rfl : c_j13_ = v.toInt.toNat := by omega
    have qc_hs5_ := x10has c_hs5_
    have yc_e11_ := eT c_e11_
    have yrc_ := eT c_hr_
    unfold SP_X12_goes at h2
    rcases h2 with (⟨d_hs5_, d_h4_, d_r7_, d_hs11_, d_h10_, d_z12_, d_h13_, (⟨d_h14_, d_M16_, -, d_hF20_, d_r15_, d_hs22_, d_hr_, d_hM_⟩ | ⟨d_h14_, d_M24_, -, d_hF28_, d_r23_, d_hs30_, d_hr_, d_hM_⟩)⟩ | ⟨d_hs5_, d_M33_, -, d_hF37_, d_r32_, d_hs39_, d_h35_, d_hr_, d_hM_⟩)
    · have qd_hs5_ := is2x d_hs5_
      have yrd_ := eT d_hr_
      have hv : 0 ≤ v.toInt ∧ v.toInt < (D.1 (50, 0, 0) 2).toInt := by omega
      have T := T.resolve_left (fun z => z hv)
      have bc := x12bec d_hs22_
      rw [show d_z12_.toInt.toNat = 180 + 9 * v.toInt.toNat + 6 by omega] at bc
      obtain rfl : u = 0 := i32e (by omega)
      have B := WRR_wf (f := 6) (x := 0) hR.1 hD.2.1 (w := v.toInt.toNat) (by unfold nWa; omega) (by omega)
      rw [← c_hM17_, ← bc.2, ← c_hM_, ← d_hM_] at B
      refine ⟨RW_of hR hD.2.1 B (fun c k hc => ?_) (fun j hj => ?_), ?_⟩
      · rw [c_hM_, zupR c_hM17_ (by dsimp only; omega)]
      · rw [d_hM_, bc.2, up_row, updN (by omega)]
      · rw [d_hr_, bc.1, show 180 + 9 * v.toInt.toNat + 6 = 186 + 9 * v.toInt.toNat by omega, ← T.2.2.2.2.2.2.1, ← c_e11_]; exact i32e (by omega)
    · have qd_hs5_ := is2x d_hs5_
      have yrd_ := eT d_hr_
      have hv : 0 ≤ v.toInt ∧ v.toInt < (D.1 (50, 0, 0) 2).toInt := by omega
      have T := T.resolve_left (fun z => z hv)
      have bc := x12bec d_hs30_
      rw [show d_z12_.toInt.toNat = 180 + 9 * v.toInt.toNat + 6 by omega] at bc
      obtain rfl : u = 1 := i32e (by omega)
      have B := WRR_wf (f := 6) (x := 1) hR.1 hD.2.1 (w := v.toInt.toNat) (by unfold nWa; omega) (by omega)
      rw [← c_hM17_, ← bc.2, ← c_hM_, ← d_hM_] at B
      refine ⟨RW_of hR hD.2.1 B (fun c k hc => ?_) (fun j hj => ?_), ?_⟩
      · rw [c_hM_, zupR c_hM17_ (by dsimp only; omega)]
      · rw [d_hM_, bc.2, up_row, updN (by omega)]
      · rw [d_hr_, bc.1, show 180 + 9 * v.toInt.toNat + 6 = 186 + 9 * v.toInt.toNat by omega, ← T.2.2.2.2.2.2.1, ← c_e11_]; exact i32e (by omega)
    · have qd_hs5_ := is2x d_hs5_
      have yrd_ := eT d_hr_
      exfalso; omega
  · obtain rfl : c_j7_ = v.toInt.toNat := by omega
    obtain rfl : c_j13_ = v.toInt.toNat := by omega
    have qc_hs5_ := x10has c_hs5_
    have yc_e11_ := eT c_e11_
    have yrc_ := eT c_hr_
    unfold SP_X12_goes at h2
    rcases h2 with (⟨d_hs5_, d_h4_, d_r7_, d_hs11_, d_h10_, d_z12_, d_h13_, (⟨d_h14_, d_M16_, -, d_hF20_, d_r15_, d_hs22_, d_hr_, d_hM_⟩ | ⟨d_h14_, d_M24_, -, d_hF28_, d_r23_, d_hs30_, d_hr_, d_hM_⟩)⟩ | ⟨d_hs5_, d_M33_, -, d_hF37_, d_r32_, d_hs39_, d_h35_, d_hr_, d_hM_⟩)
    · have qd_hs5_ := is2x d_hs5_
      have yrd_ := eT d_hr_
      have hv : 0 ≤ v.toInt ∧ v.toInt < (D.1 (50, 0, 0) 2).toInt := by omega
      have T := T.resolve_left (fun z => z hv)
      have bc := x12bec d_hs22_
      rw [show d_z12_.toInt.toNat = 180 + 9 * v.toInt.toNat + 6 by omega] at bc
      obtain rfl : u = 0 := i32e (by omega)
      have B := WRR_wf (f := 6) (x := 0) hR.1 hD.2.1 (w := v.toInt.toNat) (by unfold nWa; omega) (by omega)
      rw [← c_hM17_, ← bc.2, ← c_hM_, ← d_hM_] at B
      refine ⟨RW_of hR hD.2.1 B (fun c k hc => ?_) (fun j hj => ?_), ?_⟩
      · rw [c_hM_, zupR c_hM17_ (by dsimp only; omega)]
      · rw [d_hM_, bc.2, up_row, updN (by omega)]
      · rw [d_hr_, bc.1, show 180 + 9 * v.toInt.toNat + 6 = 186 + 9 * v.toInt.toNat by omega, ← T.2.2.2.2.2.2.1, ← c_e11_]; exact i32e (by omega)
    · have qd_hs5_ := is2x d_hs5_
      have yrd_ := eT d_hr_
      have hv : 0 ≤ v.toInt ∧ v.toInt < (D.1 (50, 0, 0) 2).toInt := by omega
      have T := T.resolve_left (fun z => z hv)
      have bc := x12bec d_hs30_
      rw [show d_z12_.toInt.toNat = 180 + 9 * v.toInt.toNat + 6 by omega] at bc
      obtain rfl : u = 1 := i32e (by omega)
      have B := WRR_wf (f := 6) (x := 1) hR.1 hD.2.1 (w := v.toInt.toNat) (by unfold nWa; omega) (by omega)
      rw [← c_hM17_, ← bc.2, ← c_hM_, ← d_hM_] at B
      refine ⟨RW_of hR hD.2.1 B (fun c k hc => ?_) (fun j hj => ?_), ?_⟩
      · rw [c_hM_, zupR c_hM17_ (by dsimp only; omega)]
      · rw [d_hM_, bc.2, up_row, updN (by omega)]
      · rw [d_hr_, bc.1, show 180 + 9 * v.toInt.toNat + 6 = 186 + 9 * v.toInt.toNat by omega, ← T.2.2.2.2.2.2.1, ← c_e11_]; exact i32e (by omega)
    · have qd_hs5_ := is2x d_hs5_
      have yrd_ := eT d_hr_
      exfalso; omega
  · have qc_hs5_ := x10has c_hs5_
    have qc_hs29_ := err1 c_hs29_
    have yrc_ := eT c_hr_
    unfold SP_X12_goes at h2
    rcases h2 with (⟨d_hs5_, d_h4_, d_r7_, d_hs11_, d_h10_, d_z12_, d_h13_, (⟨d_h14_, d_M16_, -, d_hF20_, d_r15_, d_hs22_, d_hr_, d_hM_⟩ | ⟨d_h14_, d_M24_, -, d_hF28_, d_r23_, d_hs30_, d_hr_, d_hM_⟩)⟩ | ⟨d_hs5_, d_M33_, -, d_hF37_, d_r32_, d_hs39_, d_h35_, d_hr_, d_hM_⟩)
    · have qd_hs5_ := is2x d_hs5_
      have yrd_ := eT d_hr_
      exfalso; omega
    · have qd_hs5_ := is2x d_hs5_
      have yrd_ := eT d_hr_
      exfalso; omega
    · have qd_hs5_ := is2x d_hs5_
      have yrd_ := eT d_hr_
      exact ⟨sameE hR hD.2.1 c_hF27_ c_hM_ d_hF37_ d_hM_, i32e (by omega)⟩
theorem x7away {b : Nat} {v : Int32} {M M' : mM} {r : Int32} (h : SP_X7_takeAway b v M r M') (hv : 0 ≤ v.toInt ∧ v.toInt < (M.1 (7, b, 0) 5).toInt ∧ v.toInt < 40) (hc : 0 ≤ (M.1 (37, b, 0) v.toInt.toNat).toInt ∧ (M.1 (37, b, 0) v.toInt.toNat).toInt ≤ 191) : r = M.1 (37, b, 0) v.toInt.toNat ∧ M' = up (up M (35, b, 0) (M.1 (37, b, 0) v.toInt.toNat).toInt.toNat (-1)) (37, b, 0) v.toInt.toNat (-1) := by
  have q0 := il_0
  unfold SP_X7_takeAway at h
  rcases h with (⟨hs5_, h4_, j9_, h10_, z7_, e8_, M11_, -, hF15_, hs17_, j20_, h21_, M18_, hM19_, hr_, hM_⟩ | ⟨hs5_, hr_, hM_⟩)
  · obtain rfl : j9_ = v.toInt.toNat := by omega
    obtain rfl : j20_ = v.toInt.toNat := by omega
    have s := x7settle hs17_ (by rw [e8_]; exact hc)
    exact ⟨by rw [hr_, e8_], by rw [hM_, hM19_, s, e8_]⟩
  · have := x7has hs5_
    omega
theorem cb_3 {v : Int32} {M M1 D D2 : mM} {r1 r2 : Int32} (h1 : SP_X11_away v M r1 M1) (h2 : SP_X12_away v D r2 D2) (hR : RW 0 M.1 (D.1 (50, 0, 0))) (hD : InvD D) (hu : (D.1 (12, 0, 0) 7).toInt = -1) : RW 0 M1.1 (D2.1 (50, 0, 0)) ∧ r1 = r2 := by
  have q0 := il_0
  have q1 := il_1
  have bT := eT hR.1.2.1.1
  have bW := eT hR.1.2.2.1.1
  have nT := nTh_b hD.2.1
  have nW := nWa_b hD.2.1
  unfold nTh at nT
  unfold nWa at nW
  have T := TB hR v
  unfold SP_X11_away at h1
  rcases h1 with (⟨c_hs5_, c_h4_, c_j9_, c_h10_, c_z7_, c_e8_, (⟨c_h11_, c_M13_, -, c_hF17_, c_r12_, c_hs19_, c_hr_, c_hM_⟩ | ⟨c_h11_, c_M21_, -, c_hF25_, c_r20_, c_hs27_, c_hr_, c_hM_⟩)⟩ | ⟨c_hs5_, c_M30_, -, c_hF34_, c_r29_, c_hs36_, c_hr_, c_hM_⟩)
  · obtain rfl : c_j9_ = v.toInt.toNat := by omega
    have qc_hs5_ := x7has c_hs5_
    have yc_e8_ := eT c_e8_
    have yrc_ := eT c_hr_
    unfold SP_X12_away at h2
    rcases h2 with (⟨d_hs5_, d_h4_, d_r7_, d_hs11_, d_h10_, d_z12_, d_h13_, d_j16_, d_h17_, d_z14_, d_e15_, d_h18_, (⟨d_h19_, d_r20_, d_hs24_, d_h23_, d_z25_, d_h26_, d_M28_, -, d_hF32_, d_r27_, d_hs34_, d_hr_, d_hM_⟩ | ⟨d_h19_, d_M36_, -, d_hF40_, d_r35_, d_hs42_, d_h38_, d_hr_, d_hM_⟩)⟩ | ⟨d_hs5_, d_M45_, -, d_hF49_, d_r44_, d_hs51_, d_h47_, d_hr_, d_hM_⟩)
    · obtain rfl : d_j16_ = 21 + 4 * v.toInt.toNat := by omega
      have qd_hs5_ := is1x d_hs5_
      have yd_e15_ := eT d_e15_
      have yrd_ := eT d_hr_
      have hv : 0 ≤ v.toInt ∧ v.toInt < (D.1 (50, 0, 0) 1).toInt := by omega
      have T := T.resolve_left (fun z => z hv)
      have ta := x7away c_hs19_ (by omega) (by omega)
      have bc := x12bec d_hs34_
      rw [show d_z25_.toInt.toNat = 21 + 4 * v.toInt.toNat by omega] at bc
      have B := WRR_away (t := v.toInt.toNat) (c0 := (M.1 (37, 0, 0) v.toInt.toNat).toInt.toNat) hR.1 hD.2.1 (by unfold nTh; omega) (by unfold tcl; omega)
      rw [← ta.2, ← bc.2, ← c_hM_, ← d_hM_] at B
      refine ⟨RW_of hR hD.2.1 B (fun c k hc => ?_) (fun j hj => ?_), ?_⟩
      · rw [c_hM_, ta.2, zupR rfl (by dsimp only; omega), zupR rfl (by dsimp only; omega)]
      · rw [d_hM_, bc.2, up_row, updN (by omega)]
      · rw [c_hr_, ta.1, d_hr_, bc.1]; exact i32e T.2.1
    · obtain rfl : d_j16_ = 21 + 4 * v.toInt.toNat := by omega
      have qd_hs5_ := is1x d_hs5_
      have yd_e15_ := eT d_e15_
      have yrd_ := eT d_hr_
      exfalso; omega
    · have qd_hs5_ := is1x d_hs5_
      have yrd_ := eT d_hr_
      exfalso; omega
  · obtain rfl : c_j9_ = v.toInt.toNat := by omega
    have qc_hs5_ := x7has c_hs5_
    have yc_e8_ := eT c_e8_
    have qc_hs27_ := err3 c_hs27_
    have yrc_ := eT c_hr_
    unfold SP_X12_away at h2
    rcases h2 with (⟨d_hs5_, d_h4_, d_r7_, d_hs11_, d_h10_, d_z12_, d_h13_, d_j16_, d_h17_, d_z14_, d_e15_, d_h18_, (⟨d_h19_, d_r20_, d_hs24_, d_h23_, d_z25_, d_h26_, d_M28_, -, d_hF32_, d_r27_, d_hs34_, d_hr_, d_hM_⟩ | ⟨d_h19_, d_M36_, -, d_hF40_, d_r35_, d_hs42_, d_h38_, d_hr_, d_hM_⟩)⟩ | ⟨d_hs5_, d_M45_, -, d_hF49_, d_r44_, d_hs51_, d_h47_, d_hr_, d_hM_⟩)
    · obtain rfl : d_j16_ = 21 + 4 * v.toInt.toNat := by omega
      have qd_hs5_ := is1x d_hs5_
      have yd_e15_ := eT d_e15_
      have yrd_ := eT d_hr_
      exfalso; omega
    · obtain rfl : d_j16_ = 21 + 4 * v.toInt.toNat := by omega
      have qd_hs5_ := is1x d_hs5_
      have yd_e15_ := eT d_e15_
      have yrd_ := eT d_hr_
      exact ⟨sameE hR hD.2.1 c_hF25_ c_hM_ d_hF40_ d_hM_, i32e (by omega)⟩
    · have qd_hs5_ := is1x d_hs5_
      have yrd_ := eT d_hr_
      exfalso; omega
  · have qc_hs5_ := x7has c_hs5_
    have qc_hs36_ := err1 c_hs36_
    have yrc_ := eT c_hr_
    unfold SP_X12_away at h2
    rcases h2 with (⟨d_hs5_, d_h4_, d_r7_, d_hs11_, d_h10_, d_z12_, d_h13_, d_j16_, d_h17_, d_z14_, d_e15_, d_h18_, (⟨d_h19_, d_r20_, d_hs24_, d_h23_, d_z25_, d_h26_, d_M28_, -, d_hF32_, d_r27_, d_hs34_, d_hr_, d_hM_⟩ | ⟨d_h19_, d_M36_, -, d_hF40_, d_r35_, d_hs42_, d_h38_, d_hr_, d_hM_⟩)⟩ | ⟨d_hs5_, d_M45_, -, d_hF49_, d_r44_, d_hs51_, d_h47_, d_hr_, d_hM_⟩)
    · obtain rfl : d_j16_ = 21 + 4 * v.toInt.toNat := by omega
      have qd_hs5_ := is1x d_hs5_
      have yd_e15_ := eT d_e15_
      have yrd_ := eT d_hr_
      exfalso; omega
    · obtain rfl : d_j16_ = 21 + 4 * v.toInt.toNat := by omega
      have qd_hs5_ := is1x d_hs5_
      have yd_e15_ := eT d_e15_
      have yrd_ := eT d_hr_
      exfalso; omega
    · have qd_hs5_ := is1x d_hs5_
      have yrd_ := eT d_hr_
      exact ⟨sameE hR hD.2.1 c_hF34_ c_hM_ d_hF49_ d_hM_, i32e (by omega)⟩
theorem x7add {b : Nat} {v u : Int32} {M M' : mM} {r : Int32} (h : SP_X7_addThing b v u M r M') (h0 : 0 ≤ (M.1 (7, b, 0) 5).toInt ∧ (M.1 (7, b, 0) 5).toInt < 40) (hu : 0 ≤ u.toInt ∧ u.toInt ≤ 191) : r = M.1 (7, b, 0) 5 ∧ ∃ z : Int32, z.toInt = (M.1 (7, b, 0) 5).toInt + 1 ∧ M' = up (up (up (up (up (up M (36, b, 0) (M.1 (7, b, 0) 5).toInt.toNat v) (37, b, 0) (M.1 (7, b, 0) 5).toInt.toNat u) (38, b, 0) (M.1 (7, b, 0) 5).toInt.toNat 0) (39, b, 0) (M.1 (7, b, 0) 5).toInt.toNat 0) (35, b, 0) u.toInt.toNat (M.1 (7, b, 0) 5)) (7, b, 0) 5 z := by
  have q0 := il_0
  unfold SP_X7_addThing at h
  rcases h with ⟨z1_, e2_, (⟨h3_, hr_, hM_⟩ | ⟨h3_, (⟨h4_, j7_, h8_, M5_, hM6_, j13_, h14_, M11_, hM12_, j19_, h20_, M17_, hM18_, j25_, h26_, M23_, hM24_, -, M29_, -, hF33_, hs35_, z36_, e37_, z38_, h39_, M40_, hM41_, hr_, hM_⟩ | ⟨h4_, hr_, hM_⟩)⟩)⟩
  · have := eT e2_; omega
  · obtain rfl : j7_ = z1_.toInt.toNat := by omega
    obtain rfl : j13_ = z1_.toInt.toNat := by omega
    obtain rfl : j19_ = z1_.toInt.toNat := by omega
    obtain rfl : j25_ = z1_.toInt.toNat := by omega
    have s := x7settle hs35_ hu
    have e36 : z36_ = z1_ := by rw [e37_, s, zupR rfl (by simp), zupR hM24_ (by simp), zupR hM18_ (by simp), zupR hM12_ (by simp), zupR hM6_ (by simp), e2_]
    rw [e36] at h39_
    have ez := add1 h39_ (by omega)
    rw [← e2_]
    exact ⟨hr_, z38_, ez, by rw [hM_, hM41_, s, hM24_, hM18_, hM12_, hM6_]⟩
  · have := eT e2_; omega
theorem x12comes {v u : Int32} {D D2 : mM} {r : Int32} (h : SP_X12_comes v u D r D2) : r = D.1 (50, 0, 0) 1 ∧ ∃ z : Int32, z.toInt = (D.1 (50, 0, 0) 1).toInt + 1 ∧ D2 = up (up (up (up (up D (50, 0, 0) (20 + 4 * (D.1 (50, 0, 0) 1).toInt.toNat) v) (50, 0, 0) (21 + 4 * (D.1 (50, 0, 0) 1).toInt.toNat) u) (50, 0, 0) (22 + 4 * (D.1 (50, 0, 0) 1).toInt.toNat) 0) (50, 0, 0) (23 + 4 * (D.1 (50, 0, 0) 1).toInt.toNat) 0) (50, 0, 0) 1 z := by
  unfold SP_X12_comes at h
  rcases h with ⟨z1_, e2_, h3_, h4_, r5_, hs9_, h8_, z10_, h11_, j14_, h15_, M12_, hM13_, -, r19_, hs23_, h22_, z24_, h25_, j28_, h29_, M26_, hM27_, -, r33_, hs37_, h36_, z38_, h39_, j42_, h43_, M40_, hM41_, -, r47_, hs51_, h50_, z52_, h53_, j56_, h57_, M54_, hM55_, z61_, e62_, h63_, h64_, z65_, h66_, M67_, hM68_, hr_, hM_⟩
  obtain rfl : j14_ = 20 + 4 * z1_.toInt.toNat := by omega
  obtain rfl : j28_ = 21 + 4 * z1_.toInt.toNat := by omega
  obtain rfl : j42_ = 22 + 4 * z1_.toInt.toNat := by omega
  obtain rfl : j56_ = 23 + 4 * z1_.toInt.toNat := by omega
  have e61 : z61_ = z1_ := by rw [e62_, zupN hM55_ (fun z => by have := z.2; omega), zupN hM41_ (fun z => by have := z.2; omega), zupN hM27_ (fun z => by have := z.2; omega), zupN hM13_ (fun z => by have := z.2; omega), e2_]
  rw [← e2_]
  exact ⟨hr_, z65_, by rw [h66_, e61], by rw [hM_, hM68_, hM55_, hM41_, hM27_, hM13_]⟩
theorem WRR_add2 {M M' D D2 : mM} {v u : Int32} (hc : ∃ z : Int32, z.toInt = (M.1 (7, 0, 0) 5).toInt + 1 ∧ M' = up (up (up (up (up (up M (36, 0, 0) (M.1 (7, 0, 0) 5).toInt.toNat v) (37, 0, 0) (M.1 (7, 0, 0) 5).toInt.toNat u) (38, 0, 0) (M.1 (7, 0, 0) 5).toInt.toNat 0) (39, 0, 0) (M.1 (7, 0, 0) 5).toInt.toNat 0) (35, 0, 0) u.toInt.toNat (M.1 (7, 0, 0) 5)) (7, 0, 0) 5 z)
    (hd : ∃ z : Int32, z.toInt = (D.1 (50, 0, 0) 1).toInt + 1 ∧ D2 = up (up (up (up (up D (50, 0, 0) (20 + 4 * (D.1 (50, 0, 0) 1).toInt.toNat) v) (50, 0, 0) (21 + 4 * (D.1 (50, 0, 0) 1).toInt.toNat) u) (50, 0, 0) (22 + 4 * (D.1 (50, 0, 0) 1).toInt.toNat) 0) (50, 0, 0) (23 + 4 * (D.1 (50, 0, 0) 1).toInt.toNat) 0) (50, 0, 0) 1 z)
    (h : RW 0 M.1 (D.1 (50, 0, 0))) (hN : NW5 (D.1 (50, 0, 0))) (ht : nTh (D.1 (50, 0, 0)) < 40) (hu : 0 ≤ u.toInt ∧ u.toInt ≤ 191) (hf : occ 0 M.1 u.toInt.toNat = -1) : RW 0 M'.1 (D2.1 (50, 0, 0)) := by
  have q0 := il_0
  have nb := nTh_b hN
  obtain ⟨z, hz, hc⟩ := hc
  obtain ⟨y, hy, hd⟩ := hd
  have e := h.1.2.1.1
  rw [e] at hz hc
  obtain rfl : z = y := i32e (by omega)
  have n1 : (D.1 (50, 0, 0) 1).toInt = nTh (D.1 (50, 0, 0)) := rfl
  obtain ⟨t, ht2⟩ : ∃ t : Nat, (D.1 (50, 0, 0) 1).toInt = (t : Int) := ⟨(D.1 (50, 0, 0) 1).toInt.toNat, by omega⟩
  rw [show (D.1 (50, 0, 0) 1).toInt.toNat = t by omega] at hc hd
  have rowN : ∀ j, ¬ j = 1 → j < 20 + 4 * t ∨ 24 + 4 * t ≤ j → D2.1 (50, 0, 0) j = D.1 (50, 0, 0) j := fun j h1 h2 => by
    rw [hd, up_row, updN h1, up_row, updN (by omega), up_row, updN (by omega), up_row, updN (by omega), up_row, updN (by omega)]
  have cN : ∀ (c : rf) (k : Nat), ¬ (c.1 = 36 ∨ c.1 = 37 ∨ c.1 = 38 ∨ c.1 = 39) → ¬ (c = (35, 0, 0) ∧ k = u.toInt.toNat) → ¬ (c = (7, 0, 0) ∧ k = 5) → M'.1 c k = M.1 c k := fun c k h1 h2 h3 => by
    rw [hc, zupN rfl h3, zupN rfl h2, zupR rfl (by dsimp only; omega), zupR rfl (by dsimp only; omega), zupR rfl (by dsimp only; omega), zupR rfl (by dsimp only; omega)]
  refine RW_of h hN (WRR_add (t := t) (cell := u.toInt.toNat) h.1 hN (by omega) (by omega) (by omega) hf (fun c k _ => cN c k) (fun r k h1 h2 hk => ?_) rowN ?_ ?_ ?_ ?_ ?_ ?_ ?_ ?_ ?_) (fun c k hc2 => cN c k (by omega) (fun z => by rw [z.1] at hc2; simp at hc2) (fun z => by rw [z.1] at hc2; simp at hc2)) (fun j hj => rowN j (by omega) (by omega))
  · rw [hc, zupR rfl (by dsimp only; omega), zupR rfl (by dsimp only; omega), zupN rfl (fun z => hk z.2), zupN rfl (fun z => hk z.2), zupN rfl (fun z => hk z.2), zupN rfl (fun z => hk z.2)]
  · rw [hc, zupE rfl rfl rfl, hd, up_row, updE rfl]
  · rw [hd, up_row, updE rfl]; omega
  · rw [hc, zupR rfl (by simp), zupR rfl (by simp), zupR rfl (by simp), zupR rfl (by simp), zupR rfl (by simp), zupE rfl rfl rfl, hd, up_row, updN (by omega), up_row, updN (by omega), up_row, updN (by omega), up_row, updN (by omega), up_row, updE rfl]
  · rw [hc, zupR rfl (by simp), zupR rfl (by simp), zupR rfl (by simp), zupR rfl (by simp), zupE rfl rfl rfl, hd, up_row, updN (by omega), up_row, updN (by omega), up_row, updN (by omega), up_row, updE rfl]
  · rw [hc, zupR rfl (by simp), zupR rfl (by simp), zupR rfl (by simp), zupE rfl rfl rfl, hd, up_row, updN (by omega), up_row, updN (by omega), up_row, updE rfl]
  · rw [hc, zupR rfl (by simp), zupR rfl (by simp), zupE rfl rfl rfl, hd, up_row, updN (by omega), up_row, updE rfl]
  · rw [hd, up_row, updN (by omega), up_row, updN (by omega), up_row, updN (by omega), up_row, updE rfl]; omega
  · rw [hd, up_row, updN (by omega), up_row, updE rfl]; exact il_0
  · rw [hc, zupR rfl (by simp), zupE rfl rfl rfl]; omega
theorem cb_0 {v : Int32} {u : Int32} {M M1 D D2 : mM} {r1 r2 : Int32} (h1 : SP_X11_thing v u M r1 M1) (h2 : SP_X12_thing_ v u D r2 D2) (hR : RW 0 M.1 (D.1 (50, 0, 0))) (hD : InvD D) (hu : (D.1 (12, 0, 0) 7).toInt = -1) : RW 0 M1.1 (D2.1 (50, 0, 0)) ∧ r1 = r2 := by
  have q0 := il_0
  have q1 := il_1
  have bT := eT hR.1.2.1.1
  have bW := eT hR.1.2.2.1.1
  have nT := nTh_b hD.2.1
  have nW := nWa_b hD.2.1
  unfold nTh at nT
  unfold nWa at nW
  unfold SP_X11_thing at h1
  rcases h1 with (⟨c_hs5_, c_h4_, (⟨c_hs11_, c_h10_, (⟨c_hs17_, c_h16_, c_r19_, c_hs23_, c_h22_, (⟨c_h24_, c_M26_, -, c_hF30_, c_r25_, c_hs32_, c_hr_, c_hM_⟩ | ⟨c_h24_, c_M34_, -, c_hF38_, c_r33_, c_hs40_, c_hr_, c_hM_⟩)⟩ | ⟨c_hs17_, c_M43_, -, c_hF47_, c_r42_, c_hs49_, c_hr_, c_hM_⟩)⟩ | ⟨c_hs11_, c_h10_, c_M52_, -, c_hF56_, c_r51_, c_hs58_, c_hr_, c_hM_⟩)⟩ | ⟨c_hs5_, c_h4_, c_M61_, -, c_hF65_, c_r60_, c_hs67_, c_hr_, c_hM_⟩)
  · have qc_hs17_ := x7free c_hs17_
    have qc_hs23_ := x7room c_hs23_
    have yrc_ := eT c_hr_
    unfold SP_X12_thing_ at h2
    rcases h2 with (⟨d_hs5_, d_h4_, (⟨d_hs11_, d_h10_, d_r13_, d_hs17_, d_h16_, (⟨d_h18_, d_z19_, d_e20_, d_h21_, (⟨d_h22_, d_M24_, -, d_hF28_, d_r23_, d_hs30_, d_h26_, d_hr_, d_hM_⟩ | ⟨d_h22_, d_M32_, -, d_hF36_, d_r31_, d_hs38_, d_h34_, d_hr_, d_hM_⟩)⟩ | ⟨d_h18_, d_M40_, -, d_hF44_, d_r39_, d_hs46_, d_h42_, d_hr_, d_hM_⟩)⟩ | ⟨d_hs11_, d_h10_, d_M49_, -, d_hF53_, d_r48_, d_hs55_, d_h51_, d_hr_, d_hM_⟩)⟩ | ⟨d_hs5_, d_h4_, d_M58_, -, d_hF62_, d_r57_, d_hs64_, d_h60_, d_hr_, d_hM_⟩)
    · have qd_hs17_ := x12free d_hs17_ hR.1.2.2.2.2.1 (by omega) (by omega)
      have yd_e20_ := eT d_e20_
      have yrd_ := eT d_hr_
      have ca := x7add c_hs32_ (by omega) (by omega)
      have da := x12comes d_hs30_
      have B := WRR_add2 ca.2 da.2 hR hD.2.1 (by unfold nTh; omega) (by omega) (by omega)
      refine ⟨by rw [c_hM_, d_hM_]; exact B, ?_⟩
      rw [c_hr_, d_hr_, ca.1, da.1]; exact hR.1.2.1.1
    · have qd_hs17_ := x12free d_hs17_ hR.1.2.2.2.2.1 (by omega) (by omega)
      have yd_e20_ := eT d_e20_
      have yrd_ := eT d_hr_
      exfalso; omega
    · have qd_hs17_ := x12free d_hs17_ hR.1.2.2.2.2.1 (by omega) (by omega)
      have yrd_ := eT d_hr_
      exfalso; omega
    · have yrd_ := eT d_hr_
      exfalso; omega
    · have yrd_ := eT d_hr_
      exfalso; omega
  · have qc_hs17_ := x7free c_hs17_
    have qc_hs23_ := x7room c_hs23_
    have qc_hs40_ := err4 c_hs40_
    have yrc_ := eT c_hr_
    unfold SP_X12_thing_ at h2
    rcases h2 with (⟨d_hs5_, d_h4_, (⟨d_hs11_, d_h10_, d_r13_, d_hs17_, d_h16_, (⟨d_h18_, d_z19_, d_e20_, d_h21_, (⟨d_h22_, d_M24_, -, d_hF28_, d_r23_, d_hs30_, d_h26_, d_hr_, d_hM_⟩ | ⟨d_h22_, d_M32_, -, d_hF36_, d_r31_, d_hs38_, d_h34_, d_hr_, d_hM_⟩)⟩ | ⟨d_h18_, d_M40_, -, d_hF44_, d_r39_, d_hs46_, d_h42_, d_hr_, d_hM_⟩)⟩ | ⟨d_hs11_, d_h10_, d_M49_, -, d_hF53_, d_r48_, d_hs55_, d_h51_, d_hr_, d_hM_⟩)⟩ | ⟨d_hs5_, d_h4_, d_M58_, -, d_hF62_, d_r57_, d_hs64_, d_h60_, d_hr_, d_hM_⟩)
    · have qd_hs17_ := x12free d_hs17_ hR.1.2.2.2.2.1 (by omega) (by omega)
      have yd_e20_ := eT d_e20_
      have yrd_ := eT d_hr_
      exfalso; omega
    · have qd_hs17_ := x12free d_hs17_ hR.1.2.2.2.2.1 (by omega) (by omega)
      have yd_e20_ := eT d_e20_
      have yrd_ := eT d_hr_
      exact ⟨sameE hR hD.2.1 c_hF38_ c_hM_ d_hF36_ d_hM_, i32e (by omega)⟩
    · have qd_hs17_ := x12free d_hs17_ hR.1.2.2.2.2.1 (by omega) (by omega)
      have yrd_ := eT d_hr_
      exfalso; omega
    · have yrd_ := eT d_hr_
      exfalso; omega
    · have yrd_ := eT d_hr_
      exfalso; omega
  · have qc_hs17_ := x7free c_hs17_
    have qc_hs49_ := err3 c_hs49_
    have yrc_ := eT c_hr_
    unfold SP_X12_thing_ at h2
    rcases h2 with (⟨d_hs5_, d_h4_, (⟨d_hs11_, d_h10_, d_r13_, d_hs17_, d_h16_, (⟨d_h18_, d_z19_, d_e20_, d_h21_, (⟨d_h22_, d_M24_, -, d_hF28_, d_r23_, d_hs30_, d_h26_, d_hr_, d_hM_⟩ | ⟨d_h22_, d_M32_, -, d_hF36_, d_r31_, d_hs38_, d_h34_, d_hr_, d_hM_⟩)⟩ | ⟨d_h18_, d_M40_, -, d_hF44_, d_r39_, d_hs46_, d_h42_, d_hr_, d_hM_⟩)⟩ | ⟨d_hs11_, d_h10_, d_M49_, -, d_hF53_, d_r48_, d_hs55_, d_h51_, d_hr_, d_hM_⟩)⟩ | ⟨d_hs5_, d_h4_, d_M58_, -, d_hF62_, d_r57_, d_hs64_, d_h60_, d_hr_, d_hM_⟩)
    · have qd_hs17_ := x12free d_hs17_ hR.1.2.2.2.2.1 (by omega) (by omega)
      have yd_e20_ := eT d_e20_
      have yrd_ := eT d_hr_
      exfalso; omega
    · have qd_hs17_ := x12free d_hs17_ hR.1.2.2.2.2.1 (by omega) (by omega)
      have yd_e20_ := eT d_e20_
      have yrd_ := eT d_hr_
      exfalso; omega
    · have qd_hs17_ := x12free d_hs17_ hR.1.2.2.2.2.1 (by omega) (by omega)
      have yrd_ := eT d_hr_
      exact ⟨sameE hR hD.2.1 c_hF47_ c_hM_ d_hF44_ d_hM_, i32e (by omega)⟩
    · have yrd_ := eT d_hr_
      exfalso; omega
    · have yrd_ := eT d_hr_
      exfalso; omega
  · have qc_hs58_ := err1 c_hs58_
    have yrc_ := eT c_hr_
    unfold SP_X12_thing_ at h2
    rcases h2 with (⟨d_hs5_, d_h4_, (⟨d_hs11_, d_h10_, d_r13_, d_hs17_, d_h16_, (⟨d_h18_, d_z19_, d_e20_, d_h21_, (⟨d_h22_, d_M24_, -, d_hF28_, d_r23_, d_hs30_, d_h26_, d_hr_, d_hM_⟩ | ⟨d_h22_, d_M32_, -, d_hF36_, d_r31_, d_hs38_, d_h34_, d_hr_, d_hM_⟩)⟩ | ⟨d_h18_, d_M40_, -, d_hF44_, d_r39_, d_hs46_, d_h42_, d_hr_, d_hM_⟩)⟩ | ⟨d_hs11_, d_h10_, d_M49_, -, d_hF53_, d_r48_, d_hs55_, d_h51_, d_hr_, d_hM_⟩)⟩ | ⟨d_hs5_, d_h4_, d_M58_, -, d_hF62_, d_r57_, d_hs64_, d_h60_, d_hr_, d_hM_⟩)
    · have qd_hs17_ := x12free d_hs17_ hR.1.2.2.2.2.1 (by omega) (by omega)
      have yd_e20_ := eT d_e20_
      have yrd_ := eT d_hr_
      exfalso; omega
    · have qd_hs17_ := x12free d_hs17_ hR.1.2.2.2.2.1 (by omega) (by omega)
      have yd_e20_ := eT d_e20_
      have yrd_ := eT d_hr_
      exfalso; omega
    · have qd_hs17_ := x12free d_hs17_ hR.1.2.2.2.2.1 (by omega) (by omega)
      have yrd_ := eT d_hr_
      exfalso; omega
    · have yrd_ := eT d_hr_
      exact ⟨sameE hR hD.2.1 c_hF56_ c_hM_ d_hF53_ d_hM_, i32e (by omega)⟩
    · have yrd_ := eT d_hr_
      exact ⟨sameE hR hD.2.1 c_hF56_ c_hM_ d_hF62_ d_hM_, i32e (by omega)⟩
  · have qc_hs67_ := err1 c_hs67_
    have yrc_ := eT c_hr_
    unfold SP_X12_thing_ at h2
    rcases h2 with (⟨d_hs5_, d_h4_, (⟨d_hs11_, d_h10_, d_r13_, d_hs17_, d_h16_, (⟨d_h18_, d_z19_, d_e20_, d_h21_, (⟨d_h22_, d_M24_, -, d_hF28_, d_r23_, d_hs30_, d_h26_, d_hr_, d_hM_⟩ | ⟨d_h22_, d_M32_, -, d_hF36_, d_r31_, d_hs38_, d_h34_, d_hr_, d_hM_⟩)⟩ | ⟨d_h18_, d_M40_, -, d_hF44_, d_r39_, d_hs46_, d_h42_, d_hr_, d_hM_⟩)⟩ | ⟨d_hs11_, d_h10_, d_M49_, -, d_hF53_, d_r48_, d_hs55_, d_h51_, d_hr_, d_hM_⟩)⟩ | ⟨d_hs5_, d_h4_, d_M58_, -, d_hF62_, d_r57_, d_hs64_, d_h60_, d_hr_, d_hM_⟩)
    · have qd_hs17_ := x12free d_hs17_ hR.1.2.2.2.2.1 (by omega) (by omega)
      have yd_e20_ := eT d_e20_
      have yrd_ := eT d_hr_
      exfalso; omega
    · have qd_hs17_ := x12free d_hs17_ hR.1.2.2.2.2.1 (by omega) (by omega)
      have yd_e20_ := eT d_e20_
      have yrd_ := eT d_hr_
      exfalso; omega
    · have qd_hs17_ := x12free d_hs17_ hR.1.2.2.2.2.1 (by omega) (by omega)
      have yrd_ := eT d_hr_
      exfalso; omega
    · have yrd_ := eT d_hr_
      exact ⟨sameE hR hD.2.1 c_hF65_ c_hM_ d_hF53_ d_hM_, i32e (by omega)⟩
    · have yrd_ := eT d_hr_
      exact ⟨sameE hR hD.2.1 c_hF65_ c_hM_ d_hF62_ d_hM_, i32e (by omega)⟩
end
section
/-! the two parses -/
def nxT (f : Nat → Int32) (N p q r : Int) : Prop := p ≤ q ∧ (∀ j : Nat, p ≤ (j : Int) → (j : Int) < q → (j : Int) < N ∧ (f (273 + j)).toInt = 32) ∧ ((q < N ∧ r = (f (273 + q.toNat)).toInt ∧ ¬ r = 32) ∨ (N ≤ q ∧ r = -1))
theorem nxT_lt {f : Nat → Int32} {N p q r q2 r2 : Int} (hp : 0 ≤ p) (h : nxT f N p q r) (g : nxT f N p q2 r2) : ¬ q < q2 := fun z => by
  have b := g.2.1 q.toNat (by have := h.1; omega) (by have := h.1; omega)
  rcases h.2.2 with a | a
  · rw [← a.2.1] at b; exact a.2.2 b.2
  · have := h.1; omega
theorem nxT_uniq {f : Nat → Int32} {N p q r q2 r2 : Int} (hp : 0 ≤ p) (h : nxT f N p q r) (g : nxT f N p q2 r2) : q = q2 ∧ r = r2 := by
  have e : q = q2 := by
    have a := nxT_lt hp h g
    have b := nxT_lt hp g h
    omega
  subst e
  refine ⟨rfl, ?_⟩
  rcases h.2.2 with a | a <;> rcases g.2.2 with b | b
  · rw [a.2.1, b.2.1]
  · omega
  · omega
  · rw [a.2, b.2]
theorem nxT_idem {f : Nat → Int32} {N p q r : Int} (h : nxT f N p q r) : nxT f N q q r := ⟨by omega, fun j a b => by omega, h.2.2⟩
/-- what both read -/
def TPE (C D : mM) : Prop := C.1 (5, 0, 0) 1 = D.1 (50, 0, 0) 4 ∧ (0 ≤ (D.1 (50, 0, 0) 4).toInt ∧ (D.1 (50, 0, 0) 4).toInt ≤ 48) ∧ (∀ i : Nat, (i : Int) < (D.1 (50, 0, 0) 4).toInt → C.1 (33, 0, 0) i = D.1 (50, 0, 0) (273 + i) ∧ 0 ≤ (D.1 (50, 0, 0) (273 + i)).toInt ∧ (D.1 (50, 0, 0) (273 + i)).toInt ≤ 255) ∧ (C.1 (4, 0, 0) 2).toInt = (D.1 (12, 0, 0) 10).toInt + 1 ∧ (0 ≤ (D.1 (12, 0, 0) 10).toInt ∧ (D.1 (12, 0, 0) 10).toInt ≤ 2)
theorem TPE_fr {C C2 D D2 : mM} (h : TPE C D) (hc : FR S_reader C C2) (hd : FR S_par D D2) : TPE C2 D2 := by
  have c1 : ∀ (c : rf) (k : Nat), c.1 = 5 ∨ c.1 = 33 ∨ (c.1 = 4 ∧ k = 2) → C2.1 c k = C.1 c k := fun c k q => hc c k (fun z => by simp only [S_reader, or_false] at z; omega)
  have d1 : ∀ (c : rf) (k : Nat), c.1 = 50 ∨ (c.1 = 12 ∧ k = 10) → D2.1 c k = D.1 c k := fun c k q => hd c k (fun z => by simp only [S_par, or_false] at z; omega)
  unfold TPE
  rw [c1 _ _ (by simp), c1 (4, 0, 0) 2 (by simp), d1 (50, 0, 0) 4 (by simp), d1 (12, 0, 0) 10 (by simp)]
  refine ⟨h.1, h.2.1, fun i hi => ?_, h.2.2.2⟩
  rw [c1 _ _ (by simp), d1 _ _ (by simp)]
  exact h.2.2.1 i hi
theorem x5get {v r : Int32} {M : mM} (h : SP_X5_get 0 0 v M r) (hv : 0 ≤ v.toInt ∧ v.toInt < (M.1 (5, 0, 0) 1).toInt) (h48 : (M.1 (5, 0, 0) 1).toInt ≤ 48) : r = M.1 (33, 0, 0) v.toInt.toNat := by
  have rl0 : ((rl 0 : Nat) : Int) = 48 := by decide
  refine xE_SP_X5_get h ⟨(fun h1_ hr_ => ?_), (fun h1_ z2_ e3_ => ⟨(fun h4_ hr_ => ?_), (fun h4_ z5_ h6_ => ⟨(fun h7_ hr_ => ?_), (fun h7_ j10_ h11_ z8_ e9_ hr_ => ?_)⟩)⟩)⟩
  · omega
  · have := eT e3_; omega
  · have := eT e3_; omega
  · obtain rfl : j10_ = v.toInt.toNat := by omega
    rw [hr_, e9_]
theorem x4next {C C2 D : mM} {r : Int32} (h : SP_X4_next C r C2) (hT : TPE C D) (hp : 0 ≤ (C.1 (4, 0, 0) 3).toInt ∧ (C.1 (4, 0, 0) 3).toInt ≤ (D.1 (50, 0, 0) 4).toInt) : nxT (D.1 (50, 0, 0)) (D.1 (50, 0, 0) 4).toInt (C.1 (4, 0, 0) 3).toInt (C2.1 (4, 0, 0) 3).toInt r.toInt ∧ (C2.1 (4, 0, 0) 3).toInt ≤ (D.1 (50, 0, 0) 4).toInt ∧ ∀ (c : rf) (k : Nat), ¬ (c = (4, 0, 0) ∧ k = 3) → C2.1 c k = C.1 c k := by
  have i32 : (32 : Int32).toInt = 32 := by decide
  have im := il_m1
  have hc := eT hT.1
  have hb := hT.2.1
  refine xE_SP_X4_next h (fun M_0 hL_0 _ hF_0 z2_ e3_ z4_ e5_ => ?_)
  have g := rind hL_0 (fun z => (C.1 (4, 0, 0) 3).toInt ≤ (z.1 (4, 0, 0) 3).toInt ∧ (z.1 (4, 0, 0) 3).toInt ≤ (D.1 (50, 0, 0) 4).toInt ∧ (∀ j : Nat, (C.1 (4, 0, 0) 3).toInt ≤ (j : Int) → (j : Int) < (z.1 (4, 0, 0) 3).toInt → (j : Int) < (D.1 (50, 0, 0) 4).toInt ∧ (D.1 (50, 0, 0) (273 + j)).toInt = 32) ∧ ∀ (c : rf) (k : Nat), ¬ (c = (4, 0, 0) ∧ k = 3) → z.1 c k = C.1 c k) ⟨Int.le_refl _, hp.2, fun j a b => by omega, fun _ _ _ => rfl⟩ (fun x z p st => by
    (try dsimp only at p st ⊢)
    obtain ⟨p1, p2, p3, p4⟩ := p
    refine xE_ST_X4_next_0 st (fun _ k_hF_0 k_z2_ k_e3_ k_z4_ k_e5_ k_h6_ k_r21_ k_hs25_ k_h26_ k_z41_ k_h42_ k_M43_ k_hM44_ k_hM_ => ?_)
    have c5 : x.1 (5, 0, 0) 1 = C.1 (5, 0, 0) 1 := p4 _ _ (by simp)
    have y1 := eT k_e3_
    have y2 := eT k_e5_
    rw [c5] at y2
    have ge := x5get k_hs25_ (by rw [c5]; omega) (by rw [c5]; omega)
    have cell := hT.2.2.1 k_z2_.toInt.toNat (by omega)
    rw [ge, p4 _ _ (by simp), cell.1] at k_h26_
    rw [k_hM_, zupE k_hM44_ rfl rfl]
    refine ⟨by omega, by omega, fun j a b => ?_, fun c k q => by rw [zupN k_hM44_ q]; exact p4 c k q⟩
    by_cases e : (j : Int) = k_z2_.toInt
    · rw [show j = k_z2_.toInt.toNat by omega]
      exact ⟨by omega, k_h26_⟩
    · exact p3 j a (by omega))
  (try dsimp only at g)
  obtain ⟨g1, g2, g3, g4⟩ := g
  have y1 := eT e3_
  have y2 := eT e5_
  rw [g4 _ _ (by simp)] at y2
  refine ⟨(fun h6_ => ⟨(fun h11_ hr_ hM_ => ?_), (fun h11_ r14_ hs18_ hr_ hM_ => ?_)⟩), (fun h6_ r21_ hs25_ h26_ => ⟨(fun h31_ hr_ hM_ => ?_), (fun h31_ r34_ hs38_ hr_ hM_ => ?_)⟩)⟩
  all_goals
    rw [hM_]
    refine ⟨⟨g1, g3, ?_⟩, g2, g4⟩
  · have := eT hr_; right; omega
  · omega
  · omega
  · have ge := x5get hs25_ (by rw [g4 _ _ (by simp)]; omega) (by rw [g4 _ _ (by simp)]; omega)
    have ge2 := x5get hs38_ (by rw [g4 _ _ (by simp)]; omega) (by rw [g4 _ _ (by simp)]; omega)
    have cell := hT.2.2.1 z2_.toInt.toNat (by omega)
    rw [ge, g4 _ _ (by simp), cell.1] at h26_
    left
    refine ⟨by omega, ?_, ?_⟩
    · rw [hr_, ge2, g4 _ _ (by simp), cell.1, show z2_.toInt.toNat = (M_0.1 (4, 0, 0) 3).toInt.toNat by omega]
    · rw [hr_, ge2, g4 _ _ (by simp), cell.1]; exact h26_
theorem x12here {s : Int} {W : Nat} {a T : Int} {D D2 : mM} {r : Int32} (h : SP_X12_here s W a T D r D2) (hp : 0 ≤ (D.1 (12, 0, 0) 9).toInt ∧ (D.1 (12, 0, 0) 9).toInt ≤ (D.1 (50, 0, 0) 4).toInt) :
    (¬ (D.1 (12, 0, 0) 13).toInt = 0 ∧ r.toInt = -1 ∧ (∀ (c : rf) (k : Nat), D2.1 c k = D.1 c k)) ∨ ((D.1 (12, 0, 0) 13).toInt = 0 ∧ nxT (D.1 (50, 0, 0)) (D.1 (50, 0, 0) 4).toInt (D.1 (12, 0, 0) 9).toInt (D2.1 (12, 0, 0) 9).toInt r.toInt ∧ (D2.1 (12, 0, 0) 9).toInt ≤ (D.1 (50, 0, 0) 4).toInt ∧ ∀ (c : rf) (k : Nat), ¬ (c = (12, 0, 0) ∧ k = 9) → D2.1 c k = D.1 c k) := by
  have im := il_m1
  refine xE_SP_X12_here h (fun M_0 hL_0 _ hF_0 z2_ e3_ h4_ => ?_)
  have g := rind hL_0 (fun z => (D.1 (12, 0, 0) 9).toInt ≤ (z.1 (12, 0, 0) 9).toInt ∧ (z.1 (12, 0, 0) 9).toInt ≤ (D.1 (50, 0, 0) 4).toInt ∧ (∀ j : Nat, (D.1 (12, 0, 0) 9).toInt ≤ (j : Int) → (j : Int) < (z.1 (12, 0, 0) 9).toInt → (j : Int) < (D.1 (50, 0, 0) 4).toInt ∧ (D.1 (50, 0, 0) (273 + j)).toInt = 32) ∧ (∀ (c : rf) (k : Nat), ¬ (c = (12, 0, 0) ∧ k = 9) → z.1 c k = D.1 c k) ∧ (¬ (D.1 (12, 0, 0) 13).toInt = 0 → ∀ (c : rf) (k : Nat), z.1 c k = D.1 c k)) ⟨Int.le_refl _, hp.2, fun j a b => by omega, fun _ _ _ => rfl, fun _ _ _ => rfl⟩ (fun x z p st => by
    (try dsimp only at p st ⊢)
    obtain ⟨p1, p2, p3, p4, p5⟩ := p
    refine xE_ST_X12_here_0 st (fun _ k_hF_0 k_z2_ k_e3_ k_h4_ k_h5_ k_z9_ k_e10_ k_h11_ k_z12_ k_e13_ k_h14_ k_h15_ k_z35_ k_h36_ k_j39_ k_h40_ k_z37_ k_e38_ k_h41_ k_z61_ k_h62_ k_M63_ k_hM64_ k_h68_ k_hM_ => ?_)
    have y0 := eT k_e3_
    rw [p4 _ _ (by simp)] at y0
    have y1 := eT k_e10_
    have y2 := eT k_e13_
    rw [p4 _ _ (by simp)] at y2
    rw [k_e38_, p4 _ _ (by simp)] at k_h41_
    rw [k_hM_, zupE k_hM64_ rfl rfl]
    refine ⟨by omega, by omega, fun j a b => ?_, fun c k q => by rw [zupN k_hM64_ q]; exact p4 c k q, fun q => absurd (by omega) q⟩
    by_cases e : (j : Int) = k_z9_.toInt
    · rw [show 273 + j = k_j39_ by omega]
      exact ⟨by omega, k_h41_⟩
    · exact p3 j a (by omega))
  (try dsimp only at g)
  obtain ⟨g1, g2, g3, g4, g5⟩ := g
  have y0 := eT e3_
  rw [g4 _ _ (by simp)] at y0
  refine ⟨(fun h5_ h8_ hr_ hM_ => ?_), (fun h5_ z9_ e10_ h11_ z12_ e13_ h14_ => ⟨(fun h15_ h18_ z21_ e22_ h23_ => ⟨(fun h24_ hr_ hM_ => ?_), (fun h24_ z27_ h28_ j31_ h32_ z29_ e30_ hr_ hM_ => ?_)⟩), (fun h15_ z35_ h36_ j39_ h40_ z37_ e38_ h41_ h44_ z47_ e48_ h49_ => ⟨(fun h50_ hr_ hM_ => ?_), (fun h50_ z53_ h54_ j57_ h58_ z55_ e56_ hr_ hM_ => ?_)⟩)⟩)⟩
  all_goals
    rw [hM_]
  · left
    exact ⟨by omega, by rw [hr_]; exact im, g5 (by omega)⟩
  all_goals
    right
    have y1 := eT e10_
    have y2 := eT e13_
    rw [g4 _ _ (by simp)] at y2
    refine ⟨by omega, ⟨g1, g3, ?_⟩, g2, g4⟩
  · have := eT hr_; right; omega
  · have y3 := eT e22_
    rw [g4 _ _ (by simp)] at y3
    omega
  · have y3 := eT e48_
    rw [g4 _ _ (by simp)] at y3
    omega
  · left
    have e1 : z37_ = z55_ := by rw [e38_, e56_, show j39_ = j57_ by omega]
    rw [e1] at h41_
    refine ⟨by omega, ?_, by rw [hr_]; exact h41_⟩
    rw [hr_, e56_, g4 _ _ (by simp), show j57_ = 273 + (M_0.1 (12, 0, 0) 9).toInt.toNat by omega]
theorem x12takes {v : Int32} {s : Int} {W : Nat} {a T : Int} {D D2 : mM} {r : Int32} (h : SP_X12_takes v s W a T D r D2) (hv : 0 ≤ v.toInt) (hp : 0 ≤ (D.1 (12, 0, 0) 9).toInt ∧ (D.1 (12, 0, 0) 9).toInt ≤ (D.1 (50, 0, 0) 4).toInt) :
    (∀ (c : rf) (k : Nat), ¬ (c = (12, 0, 0) ∧ k = 9) → D2.1 c k = D.1 c k) ∧ ((¬ (D.1 (12, 0, 0) 13).toInt = 0 ∧ r.toInt = 0 ∧ (D2.1 (12, 0, 0) 9).toInt = (D.1 (12, 0, 0) 9).toInt) ∨ ((D.1 (12, 0, 0) 13).toInt = 0 ∧ ∃ q c : Int, nxT (D.1 (50, 0, 0)) (D.1 (50, 0, 0) 4).toInt (D.1 (12, 0, 0) 9).toInt q c ∧ q ≤ (D.1 (50, 0, 0) 4).toInt ∧ ((c = v.toInt ∧ r.toInt = 1 ∧ (D2.1 (12, 0, 0) 9).toInt = q + 1) ∨ (¬ c = v.toInt ∧ r.toInt = 0 ∧ (D2.1 (12, 0, 0) 9).toInt = q)))) := by
  have q0 := il_0
  have q1 := il_1
  refine xE_SP_X12_takes h (fun M2_ _ hF6_ r1_ hs8_ h10_ => ⟨(fun h11_ z12_ e13_ h14_ z16_ h17_ M18_ hM19_ h22_ hr_ hM_ => ?_), (fun h11_ z27_ e28_ h29_ h30_ h31_ z33_ h34_ M35_ hM36_ h40_ hr_ hM_ => ?_)⟩)
  · have y := eT e13_
    have yr := eT hr_
    rcases x12here hs8_ hp with g | g
    · refine ⟨fun c k q => by rw [hM_, zupN hM19_ q]; exact g.2.2 c k, Or.inl ⟨g.1, by omega, ?_⟩⟩
      rw [hM_, zupE hM19_ rfl rfl, h17_, y, g.2.2]; omega
    · refine ⟨fun c k q => by rw [hM_, zupN hM19_ q]; exact g.2.2.2 c k q, Or.inr ⟨g.1, (M2_.1 (12, 0, 0) 9).toInt, r1_.toInt, g.2.1, g.2.2.1, Or.inr ⟨h11_, by omega, ?_⟩⟩⟩
      rw [hM_, zupE hM19_ rfl rfl, h17_, y]; omega
  · have y := eT e28_
    have yr := eT hr_
    rcases x12here hs8_ hp with g | g
    · omega
    · refine ⟨fun c k q => by rw [hM_, zupN hM36_ q]; exact g.2.2.2 c k q, Or.inr ⟨g.1, (M2_.1 (12, 0, 0) 9).toInt, r1_.toInt, g.2.1, g.2.2.1, Or.inl ⟨h11_, by omega, ?_⟩⟩⟩
      rw [hM_, zupE hM36_ rfl rfl, h34_, y]
theorem x4fail {C C2 : mM} (h : SP_X4_fail C C2) : (0 ≤ (C.1 (4, 0, 0) 4).toInt ∧ C2 = C) ∨ ((C.1 (4, 0, 0) 4).toInt < 0 ∧ C2 = up C (4, 0, 0) 4 (C.1 (4, 0, 0) 3)) := by
  refine xE_SP_X4_fail h (fun z1_ e2_ => ⟨(fun h3_ hM_ => ?_), (fun h3_ z4_ e5_ M6_ hM7_ hM_ => ?_)⟩)
  · have := eT e2_; exact Or.inl ⟨by omega, hM_⟩
  · have := eT e2_; exact Or.inr ⟨by omega, by rw [hM_, hM7_, e5_]⟩
theorem x1add {v : Int32} {C C2 : mM} (h : SP_X1_add 3 0 v C C2) (hs : 0 ≤ (C.1 (1, 3, 0) 2).toInt ∧ (C.1 (1, 3, 0) 2).toInt < 48) : (C2.1 (1, 3, 0) 2).toInt = (C.1 (1, 3, 0) 2).toInt + 1 ∧ C2.1 (24, 3, 0) = upd (C.1 (24, 3, 0)) (C.1 (1, 3, 0) 2).toInt.toNat v ∧ ∀ (c : rf) (k : Nat), ¬ c = (24, 3, 0) → ¬ (c = (1, 3, 0) ∧ k = 2) → C2.1 c k = C.1 c k := by
  refine xE_SP_X1_add h (fun z1_ e2_ => ⟨(fun h3_ hM_ => ?_), (fun h3_ => ⟨(fun h6_ hM_ => ?_), (fun h6_ j11_ h12_ M9_ hM10_ z15_ e16_ z17_ h18_ M19_ hM20_ hM_ => ?_)⟩)⟩)
  · have := eT e2_; omega
  · have := eT e2_; omega
  · have y := eT e2_
    obtain rfl : j11_ = z1_.toInt.toNat := by omega
    have e15 : z15_ = z1_ := by rw [e16_, zupR hM10_ (by simp), e2_]
    rw [e15] at h18_
    have ez := add1 h18_ (by omega)
    refine ⟨?_, ?_, fun c k q1 q2 => ?_⟩
    · rw [hM_, zupE hM20_ rfl rfl]; omega
    · rw [hM_, hM20_, up_other _ _ (by simp), hM10_, up_row, e2_]
    · rw [hM_, zupN hM20_ q2, hM10_, up_other _ _ q1]
theorem x1addF {v : Int32} {C C2 : mM} (h : SP_X1_add 3 0 v C C2) : C2.1 (4, 0, 0) = C.1 (4, 0, 0) := by
  refine xE_SP_X1_add h (fun z1_ e2_ => ⟨(fun h3_ hM_ => ?_), (fun h3_ => ⟨(fun h6_ hM_ => ?_), (fun h6_ j11_ h12_ M9_ hM10_ z15_ e16_ z17_ h18_ M19_ hM20_ hM_ => ?_)⟩)⟩)
  · rw [hM_]
  · rw [hM_]
  · rw [hM_, hM20_, up_other _ _ (by simp), hM10_, up_other _ _ (by simp)]
theorem x12codes {v : Int32} {s : Int} {W : Nat} {a T : Int} {E : Nat} {D D2 : mM} (h : SP_X12_codes v s W a T E D D2) : (¬ (D.1 (12, 0, 0) 13).toInt = 0 ∧ D2 = D) ∨ ((D.1 (12, 0, 0) 13).toInt = 0 ∧ (D2.1 (12, 0, 0) 14).toInt = (D.1 (12, 0, 0) 14).toInt + 1 ∧ D2.1 (57, 0, 0) = upd (D.1 (57, 0, 0)) (D.1 (12, 0, 0) 14).toInt.toNat v ∧ ∀ (c : rf) (k : Nat), ¬ c = (57, 0, 0) → ¬ (c = (12, 0, 0) ∧ k = 14) → D2.1 c k = D.1 c k) := by
  refine xE_SP_X12_codes h (fun z2_ e3_ h4_ => ⟨(fun h5_ hM_ => ?_), (fun h5_ z6_ e7_ h8_ h9_ j13_ h14_ M11_ hM12_ z19_ e20_ h21_ h22_ h23_ z24_ h25_ M26_ hM27_ h30_ hM_ => ?_)⟩)
  · have := eT e3_; exact Or.inl ⟨by omega, hM_⟩
  · have y0 := eT e3_
    have y1 := eT e7_
    obtain rfl : j13_ = z6_.toInt.toNat := by omega
    refine Or.inr ⟨by omega, ?_, ?_, fun c k q1 q2 => ?_⟩
    · rw [hM_, zupE hM27_ rfl rfl]; omega
    · rw [hM_, hM27_, up_other _ _ (by simp), hM12_, up_row, e7_]
    · rw [hM_, zupN hM27_ q2, hM12_, up_other _ _ q1]
/-- both alike: not wrong so far; or wrong at one place -/
def POK (e : Int) (C D : mM) : Prop := (C.1 (4, 0, 0) 4).toInt < 0 ∧ (D.1 (12, 0, 0) 13).toInt = 0 ∧ (C.1 (4, 0, 0) 3).toInt = (D.1 (12, 0, 0) 9).toInt ∧ (0 ≤ (D.1 (12, 0, 0) 9).toInt ∧ (D.1 (12, 0, 0) 9).toInt ≤ (D.1 (50, 0, 0) 4).toInt) ∧ (C.1 (4, 0, 0) 6 = D.1 (12, 0, 0) 12 ∧ 0 ≤ (D.1 (12, 0, 0) 12).toInt ∧ (D.1 (12, 0, 0) 12).toInt ≤ (D.1 (12, 0, 0) 14).toInt) ∧ (C.1 (1, 3, 0) 2).toInt = (D.1 (12, 0, 0) 14).toInt ∧ 0 ≤ (D.1 (12, 0, 0) 14).toInt ∧ (D.1 (12, 0, 0) 14).toInt ≤ (D.1 (12, 0, 0) 9).toInt + e ∧ (C.1 (4, 0, 0) 5).toInt = (D.1 (12, 0, 0) 11).toInt ∧
  ∀ i : Nat, (i : Int) < (D.1 (12, 0, 0) 14).toInt → (C.1 (24, 3, 0) i).toInt = cmI (D.1 (57, 0, 0) i).toInt ∧ cOK (nnU (D.1 (12, 0, 0) 10).toInt.toNat) (D.1 (57, 0, 0) i)
def PBD (C D : mM) : Prop := 0 ≤ (C.1 (4, 0, 0) 4).toInt ∧ ¬ (D.1 (12, 0, 0) 13).toInt = 0 ∧ (C.1 (4, 0, 0) 4).toInt = (D.1 (12, 0, 0) 9).toInt ∧ (D.1 (12, 0, 0) 9).toInt ≤ (D.1 (50, 0, 0) 4).toInt
def PRL (e : Int) (C D : mM) : Prop := TPE C D ∧ (POK e C D ∨ PBD C D)
theorem PRL_at {e : Int} {C D : mM} (h : PRL e C D) : 0 ≤ (D.1 (12, 0, 0) 9).toInt ∧ (D.1 (12, 0, 0) 9).toInt ≤ (D.1 (50, 0, 0) 4).toInt := by
  rcases h.2 with h | h
  · exact h.2.2.2.1
  · unfold PBD at h; omega
theorem POK_mono {e e2 : Int} {C D : mM} (h : POK e C D) (he : e ≤ e2) : POK e2 C D := by
  obtain ⟨h1, h2, h3, h4, h5, h6, h7, h8, h9, h10⟩ := h
  exact ⟨h1, h2, h3, h4, h5, h6, h7, by omega, h9, h10⟩
/-- one more code on both sides -/
theorem POK_code {e : Int} {C C2 D D2 : mM} {v w : Int32} {s : Int} {W : Nat} {a T : Int} {E : Nat} (h : POK e C D) (h48 : (D.1 (50, 0, 0) 4).toInt ≤ 48) (he : e < 0) (hc : SP_X1_add 3 0 v C C2) (hd : SP_X12_codes w s W a T E D D2) (hv : v.toInt = cmI w.toInt) (hw : cOK (nnU (D.1 (12, 0, 0) 10).toInt.toNat) w) : POK (e + 1) C2 D2 := by
  obtain ⟨h1, h2, h3, h4, h5, h6, h7, h8, h9, h10⟩ := h
  obtain ⟨c1, c2, c3⟩ := x1add hc (by omega)
  rcases x12codes hd with d | ⟨-, d1, d2, d3⟩
  · exact absurd h2 d.1
  · have k : ∀ j, ¬ j = 14 → D2.1 (12, 0, 0) j = D.1 (12, 0, 0) j := fun j hj => d3 _ _ (by simp) (fun z => hj z.2)
    have kc : ∀ j, C2.1 (4, 0, 0) j = C.1 (4, 0, 0) j := fun j => c3 _ _ (by simp) (fun z => by simp at z)
    unfold POK
    rw [kc, kc, kc, kc, k 13 (by omega), k 9 (by omega), k 12 (by omega), k 11 (by omega), k 10 (by omega), d3 (50, 0, 0) 4 (by simp) (by simp)]
    refine ⟨h1, h2, h3, h4, ⟨h5.1, h5.2.1, by omega⟩, by omega, by omega, by omega, h9, fun i hi => ?_⟩
    rw [c2, d2, show (C.1 (1, 3, 0) 2).toInt.toNat = (D.1 (12, 0, 0) 14).toInt.toNat by omega]
    by_cases z : i = (D.1 (12, 0, 0) 14).toInt.toNat
    · rw [updE z, updE z]; exact ⟨hv, hw⟩
    · rw [updN z, updN z]; exact h10 i (by omega)
end
section
/-! the two parses: signs, loops -/
def PRX (e : Int) (C C2 D D2 : mM) : Prop := PRL e C2 D2 ∧ (D.1 (12, 0, 0) 9).toInt ≤ (D2.1 (12, 0, 0) 9).toInt
def opT (c : Int) : Int := if c = 42 then 2005 else if c = 47 then 2006 else if c = 37 then 2007 else 0
def opU (c : Int) : Int := if c = 43 then 2003 else if c = 45 then 2004 else 0
def opV (c : Int) : Int := if c = 60 then 2000 else if c = 61 then 2001 else if c = 62 then 2002 else 0
def GOP (g : Int → Int) : Prop := ∀ c, g c = 0 ∨ (0 ≤ c ∧ c ≤ 62 ∧ 2000 ≤ g c ∧ g c < 2008 ∧ cmI (g c) = 2000 + c)
theorem gopT : GOP opT := fun c => by
  unfold opT
  split
  · rename_i h; subst h; right; decide
  · split
    · rename_i h; subst h; right; decide
    · split
      · rename_i h; subst h; right; decide
      · left; rfl
theorem gopU : GOP opU := fun c => by
  unfold opU
  split
  · rename_i h; subst h; right; decide
  · split
    · rename_i h; subst h; right; decide
    · left; rfl
theorem gopV : GOP opV := fun c => by
  unfold opV
  split
  · rename_i h; subst h; right; decide
  · split
    · rename_i h; subst h; right; decide
    · split
      · rename_i h; subst h; right; decide
      · left; rfl
def ATb (D : mM) : Prop := 0 ≤ (D.1 (12, 0, 0) 9).toInt ∧ (D.1 (12, 0, 0) 9).toInt ≤ (D.1 (50, 0, 0) 4).toInt
/-- blanks were read, no sign of these -/
def MISs (P : Int → Prop) (D D2 : mM) : Prop := (∀ (c : rf) (k : Nat), ¬ (c = (12, 0, 0) ∧ k = 9) → D2.1 c k = D.1 c k) ∧ ((¬ (D.1 (12, 0, 0) 13).toInt = 0 ∧ (D2.1 (12, 0, 0) 9).toInt = (D.1 (12, 0, 0) 9).toInt) ∨ ((D.1 (12, 0, 0) 13).toInt = 0 ∧ ∃ q c : Int, nxT (D.1 (50, 0, 0)) (D.1 (50, 0, 0) 4).toInt (D.1 (12, 0, 0) 9).toInt q c ∧ q ≤ (D.1 (50, 0, 0) 4).toInt ∧ P c ∧ (D2.1 (12, 0, 0) 9).toInt = q))
def OPQ (g : Int → Int) (D : mM) (v : Int32) (D2 : mM) : Prop := (∀ (c : rf) (k : Nat), ¬ (c = (12, 0, 0) ∧ k = 9) → D2.1 c k = D.1 c k) ∧ ((¬ (D.1 (12, 0, 0) 13).toInt = 0 ∧ v.toInt = 0 ∧ (D2.1 (12, 0, 0) 9).toInt = (D.1 (12, 0, 0) 9).toInt) ∨ ((D.1 (12, 0, 0) 13).toInt = 0 ∧ ∃ q c : Int, nxT (D.1 (50, 0, 0)) (D.1 (50, 0, 0) 4).toInt (D.1 (12, 0, 0) 9).toInt q c ∧ q ≤ (D.1 (50, 0, 0) 4).toInt ∧ ((g c = 0 ∧ v.toInt = 0 ∧ (D2.1 (12, 0, 0) 9).toInt = q) ∨ (¬ g c = 0 ∧ v.toInt = g c ∧ (D2.1 (12, 0, 0) 9).toInt = q + 1))))
theorem mis1 {k : Int32} {s : Int} {W : Nat} {a T : Int} {D D2 : mM} (h : SP_X12_takes k s W a T D 0 D2) (hk : 0 ≤ k.toInt) (hb : ATb D) : MISs (fun c => ¬ c = k.toInt) D D2 := by
  have q0 := il_0
  obtain ⟨h1, h2 | ⟨h2, q, c, h3, h4, h5 | h5⟩⟩ := x12takes h hk hb
  · exact ⟨h1, Or.inl ⟨h2.1, h2.2.2⟩⟩
  · omega
  · exact ⟨h1, Or.inr ⟨h2, q, c, h3, h4, h5.1, h5.2.2⟩⟩
theorem MISs_b {P : Int → Prop} {D D2 : mM} (h : MISs P D D2) (hb : ATb D) : ATb D2 := by
  unfold ATb at hb ⊢
  rw [h.1 (50, 0, 0) 4 (by simp)]
  rcases h.2 with h2 | ⟨h2, q, c, h3, h4, h5, h6⟩
  · omega
  · have := h3.1; omega
theorem mis2 {P : Int → Prop} {k : Int32} {s : Int} {W : Nat} {a T : Int} {D Da D2 : mM} (m : MISs P D Da) (h : SP_X12_takes k s W a T Da 0 D2) (hk : 0 ≤ k.toInt) (hb : ATb D) : MISs (fun c => P c ∧ ¬ c = k.toInt) D D2 := by
  have n := mis1 h hk (MISs_b m hb)
  have row : Da.1 (50, 0, 0) = D.1 (50, 0, 0) := funext fun j => m.1 _ _ (by simp)
  have w13 : Da.1 (12, 0, 0) 13 = D.1 (12, 0, 0) 13 := m.1 _ _ (by simp)
  refine ⟨fun c k q => (n.1 c k q).trans (m.1 c k q), ?_⟩
  have n2 := n.2
  rw [row, w13] at n2
  rcases m.2 with m2 | ⟨m2, q, c, m3, m4, m5, m6⟩ <;> rcases n2 with n2 | ⟨n2, q2, c2, n3, n4, n5, n6⟩
  · exact Or.inl ⟨m2.1, by omega⟩
  · exact absurd n2 m2.1
  · exact absurd m2 n2.1
  · rw [m6] at n3
    have u := nxT_uniq (by have := m3.1; have := hb.1; omega) (nxT_idem m3) n3
    exact Or.inr ⟨m2, q, c, m3, m4, ⟨m5, by rw [u.2]; exact n5⟩, by omega⟩
theorem hit1 {g : Int → Int} {k v : Int32} {s : Int} {W : Nat} {a T : Int} {D D2 : mM} (h : SP_X12_takes k s W a T D 1 D2) (hk : 0 ≤ k.toInt) (hb : ATb D) (hg : ¬ g k.toInt = 0 ∧ v.toInt = g k.toInt) : OPQ g D v D2 := by
  have q1 := il_1
  obtain ⟨h1, h2 | ⟨h2, q, c, h3, h4, h5 | h5⟩⟩ := x12takes h hk hb
  · omega
  · exact ⟨h1, Or.inr ⟨h2, q, c, h3, h4, Or.inr ⟨by rw [h5.1]; exact hg.1, by rw [h5.1]; exact hg.2, h5.2.2⟩⟩⟩
  · omega
theorem hit2 {g : Int → Int} {P : Int → Prop} {k v : Int32} {s : Int} {W : Nat} {a T : Int} {D Da D2 : mM} (m : MISs P D Da) (h : SP_X12_takes k s W a T Da 1 D2) (hk : 0 ≤ k.toInt) (hb : ATb D) (hg : ¬ g k.toInt = 0 ∧ v.toInt = g k.toInt) : OPQ g D v D2 := by
  have n := hit1 (g := g) (v := v) h hk (MISs_b m hb) hg
  have row : Da.1 (50, 0, 0) = D.1 (50, 0, 0) := funext fun j => m.1 _ _ (by simp)
  have w13 : Da.1 (12, 0, 0) 13 = D.1 (12, 0, 0) 13 := m.1 _ _ (by simp)
  refine ⟨fun c k q => (n.1 c k q).trans (m.1 c k q), ?_⟩
  have n2 := n.2
  rw [row, w13] at n2
  rcases m.2 with m2 | ⟨m2, q, c, m3, m4, m5, m6⟩ <;> rcases n2 with n2 | ⟨n2, q2, c2, n3, n4, n5⟩
  · exact Or.inl ⟨m2.1, n2.2.1, by omega⟩
  · exact absurd n2 m2.1
  · exact absurd m2 n2.1
  · rw [m6] at n3
    have u := nxT_uniq (by have := m3.1; have := hb.1; omega) (nxT_idem m3) n3
    rw [← u.1, ← u.2] at n5
    exact Or.inr ⟨m2, q, c, m3, m4, n5⟩
theorem mis0 {g : Int → Int} {P : Int → Prop} {D D2 : mM} {v : Int32} (m : MISs P D D2) (hp : ∀ c, P c → g c = 0) (hv : v.toInt = 0) : OPQ g D v D2 := by
  refine ⟨m.1, ?_⟩
  rcases m.2 with m2 | ⟨m2, q, c, m3, m4, m5, m6⟩
  · exact Or.inl ⟨m2.1, hv, m2.2⟩
  · exact Or.inr ⟨m2, q, c, m3, m4, Or.inl ⟨hp c m5, hv, m6⟩⟩
theorem OPQ_b {g : Int → Int} (hg : GOP g) {D D2 : mM} {v : Int32} (h : OPQ g D v D2) (hb : ATb D) (h48 : (D.1 (50, 0, 0) 4).toInt ≤ 48) : ATb D2 := by
  unfold ATb at hb ⊢
  rw [h.1 (50, 0, 0) 4 (by simp)]
  rcases h.2 with h2 | ⟨h2, q, c, h3, h4, h5 | h5⟩
  · omega
  · have := h3.1; omega
  · have h6 := hg c
    have h7 := h3.1
    rcases h3.2.2 with h8 | h8 <;> omega
/-- the class's loop over signs, a step and its end -/
def LCs (g : Int → Int) (ONE : mM → mM → Prop) (x y : Int32 × mM) : Prop := x.1.toInt < 48 ∧ (x.2.1 (4, 0, 0) 4).toInt < 0 ∧ ∃ (r w z : Int32) (Cn Ci Ca : mM), SP_X4_next x.2 r Cn ∧ ¬ g r.toInt = 0 ∧ z = Cn.1 (4, 0, 0) 3 + (1 : Int32) ∧ Ci = up Cn (4, 0, 0) 3 z ∧ FR S_reader Ci Ca ∧ ONE Ci Ca ∧ w.toInt = 2000 + r.toInt ∧ SP_X1_add 3 0 w Ca y.2 ∧ y.1.toInt = x.1.toInt + 1
def LCf (g : Int → Int) (x : Int32 × mM) (C : mM) : Prop := (48 ≤ x.1.toInt ∧ C = x.2) ∨ (0 ≤ (x.2.1 (4, 0, 0) 4).toInt ∧ C = x.2) ∨ ((x.2.1 (4, 0, 0) 4).toInt < 0 ∧ ∃ r : Int32, SP_X4_next x.2 r C ∧ g r.toInt = 0)
def LDs (OPR : mM → Int32 → mM → Prop) (ONE : mM → mM → Prop) (x y : Int32 × mM) : Prop := 0 < x.1.toInt ∧ ∃ (Dm Dc : mM) (s : Int) (W : Nat) (a T : Int) (E : Nat), FR S_par x.2 Dm ∧ ONE x.2 Dm ∧ SP_X12_codes x.1 s W a T E Dm Dc ∧ OPR Dc y.1 y.2
/-- both write a sign's code, wrong or not -/
theorem PRL_code {e : Int} {C C2 D D2 : mM} {v w : Int32} {s : Int} {W : Nat} {a T : Int} {E : Nat} (h : PRL (e - 1) C D) (he : e ≤ 0) (hc : SP_X1_add 3 0 v C C2) (hd : SP_X12_codes w s W a T E D D2) (hv : v.toInt = cmI w.toInt) (hw : 2000 ≤ w.toInt) : PRX e C C2 D D2 := by
  rcases h with ⟨t, h | h⟩
  · have g := POK_code h t.2.1.2 (by omega) hc hd hv ⟨by omega, fun q => by omega⟩
    rw [show e - 1 + 1 = e by omega] at g
    have cd := x12codes hd
    have ca := x1add hc (by have z0 := t.2.1; obtain ⟨-, -, -, z4, -, z6, z7, z8, -⟩ := h; omega)
    rcases cd with d | ⟨-, d1, d2, d3⟩
    · exact absurd h.2.1 d.1
    · refine ⟨⟨?_, Or.inl g⟩, by rw [d3 (12, 0, 0) 9 (by simp) (by simp)]; exact Int.le_refl _⟩
      unfold TPE
      rw [ca.2.2 _ _ (by simp) (by simp), ca.2.2 (4, 0, 0) 2 (by simp) (by simp), d3 (50, 0, 0) 4 (by simp) (by simp), d3 (12, 0, 0) 10 (by simp) (by simp)]
      refine ⟨t.1, t.2.1, fun i hi => ?_, t.2.2.2⟩
      rw [ca.2.2 _ _ (by simp) (by simp), d3 _ _ (by simp) (by simp)]
      exact t.2.2.1 i hi
  · have f := x1addF hc
    rcases x12codes hd with d | d
    · rw [d.2]
      refine ⟨⟨?_, Or.inr ?_⟩, Int.le_refl _⟩
      · have k : ∀ (c : rf) (k : Nat), c.1 = 5 ∨ c.1 = 33 → C2.1 c k = C.1 c k := fun c k q => by
          refine xE_SP_X1_add hc (fun z1_ e2_ => ⟨(fun h3_ hM_ => ?_), (fun h3_ => ⟨(fun h6_ hM_ => ?_), (fun h6_ j11_ h12_ M9_ hM10_ z15_ e16_ z17_ h18_ M19_ hM20_ hM_ => ?_)⟩)⟩)
          · rw [hM_]
          · rw [hM_]
          · rw [hM_, hM20_, up_other _ _ (fun z => by rw [z] at q; simp at q), hM10_, up_other _ _ (fun z => by rw [z] at q; simp at q)]
        unfold TPE
        rw [k _ _ (by simp), f]
        refine ⟨t.1, t.2.1, fun i hi => ?_, t.2.2.2⟩
        rw [k _ _ (by simp)]
        exact t.2.2.1 i hi
      · unfold PBD at h ⊢
        rw [f]; exact h
    · exact absurd d.1 h.2.1
def BOTH (ONE ONE2 : mM → mM → Prop) : Prop := ∀ (e : Int) (C C2 D D2 : mM), e ≤ 0 → PRL e C D → ONE C C2 → ONE2 D D2 → FR S_reader C C2 → FR S_par D D2 → PRX e C C2 D D2
theorem loop_both {g : Int → Int} (hg : GOP g) {OPR : mM → Int32 → mM → Prop} (hP : ∀ (D : mM) (v : Int32) (D2 : mM), ATb D → OPR D v D2 → OPQ g D v D2) {ONE ONE2 : mM → mM → Prop} (hO : BOTH ONE ONE2) {e : Int} (he : e ≤ 0) {C1 D1 C2 D0 : mM} {z w : Int32 × mM} {v0 : Int32} (h : PRL e C1 D1)
    (hc : RCH (LCs g ONE) ((0 : Int32), C1) z) (hf : LCf g z C2) (h0 : OPR D1 v0 D0) (hd : RCH (LDs OPR ONE2) (v0, D0) w) (hw : w.1.toInt ≤ 0) : PRX e C1 C2 D1 w.2 := by
  have q0 := il_0
  have L := lockE (fun x y : Int32 × mM => ∃ D : mM, PRL e x.2 D ∧ OPR D y.1 y.2 ∧ (0 ≤ x.1.toInt ∧ x.1.toInt ≤ (D.1 (12, 0, 0) 9).toInt) ∧ (D1.1 (12, 0, 0) 9).toInt ≤ (D.1 (12, 0, 0) 9).toInt) hc hd ⟨D1, h, h0, by dsimp only; have := PRL_at h; omega, Int.le_refl _⟩
    (fun x z y w r s t => by
      obtain ⟨D, r1, r2, r3, r4⟩ := r
      obtain ⟨s1, s2, rr, ww, zz, Cn, Ci, Ca, s3, s4, s5, s6, s7, s8, s9, s10, s11⟩ := s
      obtain ⟨t1, Dm, Dc, t2, t3, t4, t5, t6, t7, t8, t9, t10⟩ := t
      have ab := PRL_at r1
      have op := hP D y.1 y.2 ab r2
      have T := r1.1
      rcases r1.2 with k | k
      · have nx := x4next s3 T (by have := k.2.2.1; omega)
        rw [k.2.2.1] at nx
        obtain ⟨op1, op2⟩ := op
        rcases op2 with op2 | ⟨op2, q, c, op3, op4, op5⟩
        · exact absurd k.2.1 op2.1
        · have u := nxT_uniq ab.1 nx.1 op3
          have gc := hg c
          rw [u.2] at s4
          rcases op5 with op5 | op5
          · exact absurd op5.1 s4
          · have gr := gc.resolve_left s4
            have qN : q < (D.1 (50, 0, 0) 4).toInt := by rcases op3.2.2 with z | z <;> omega
            have qp := op3.1
            have hz : zz.toInt = q + 1 := by rw [s5, addI (x := Cn.1 (4, 0, 0) 3) rfl il_1 (by omega) (by have := T.2.1; omega)]; omega
            have kc : ∀ (c : rf) (k : Nat), ¬ (c = (4, 0, 0) ∧ k = 3) → Ci.1 c k = x.2.1 c k := fun c k q => by rw [s6, zupN rfl q]; exact nx.2.2 c k q
            have p3 : (Ci.1 (4, 0, 0) 3).toInt = q + 1 := by rw [s6, zupE rfl rfl rfl]; exact hz
            have T2 : TPE Ci y.2 := by
              unfold TPE
              rw [kc _ _ (by simp), kc (4, 0, 0) 2 (by simp), op1 (50, 0, 0) 4 (by simp), op1 (12, 0, 0) 10 (by simp)]
              refine ⟨T.1, T.2.1, fun i hi => ?_, T.2.2.2⟩
              rw [kc _ _ (by simp), op1 _ _ (by simp)]
              exact T.2.2.1 i hi
            have K : POK (e - 1) Ci y.2 := by
              obtain ⟨k1, k2, k3, k4, k5, k6, k7, k8, k9, k10⟩ := k
              unfold POK
              rw [kc (4, 0, 0) 4 (by simp), kc (4, 0, 0) 6 (by simp), kc (1, 3, 0) 2 (by simp), kc (4, 0, 0) 5 (by simp), op1 (12, 0, 0) 13 (by simp), op1 (12, 0, 0) 12 (by simp), op1 (12, 0, 0) 14 (by simp), op1 (12, 0, 0) 11 (by simp), op1 (12, 0, 0) 10 (by simp), op1 (50, 0, 0) 4 (by simp)]
              refine ⟨k1, k2, by omega, by omega, k5, k6, k7, by omega, k9, fun i hi => ?_⟩
              rw [kc _ _ (by simp), op1 _ _ (by simp)]
              exact k10 i hi
            have R := hO (e - 1) Ci Ca y.2 Dm (by omega) ⟨T2, Or.inl K⟩ s8 t8 s7 t7
            have S := PRL_code R.1 he s10 t9 (by rw [s9, u.2, op5.2.1]; omega) (by omega)
            have m1 := R.2
            have m2 := S.2
            exact ⟨Dc, S.1, t10, by omega, by omega⟩
      · have := k.1; omega)
    (fun y y' r t => by
      obtain ⟨D, r1, r2, r3, r4⟩ := r
      obtain ⟨t1, -⟩ := t
      have ab := PRL_at r1
      have op := hP D y.1 y.2 ab r2
      have T := r1.1
      obtain ⟨op1, op2⟩ := op
      rcases op2 with op2 | ⟨op2, q, c, op3, op4, op5 | op5⟩
      · omega
      · omega
      · have gc := (hg c).resolve_left op5.1
        have qN : q < (D.1 (50, 0, 0) 4).toInt := by rcases op3.2.2 with z | z <;> omega
        have qp := op3.1
        rcases r1.2 with k | k
        · rcases hf with hf | hf | ⟨hf, rr, hf2, hf3⟩
          · have := T.2.1; omega
          · have := k.1; omega
          · have nx := x4next hf2 T (by have := k.2.2.1; omega)
            rw [k.2.2.1] at nx
            have u := nxT_uniq ab.1 nx.1 op3
            rw [u.2] at hf3
            exact op5.1 hf3
        · exact absurd op2 k.2.1)
    (fun x x' r s => by
      obtain ⟨D, r1, r2, r3, r4⟩ := r
      obtain ⟨s1, s2, rr, ww, zz, Cn, Ci, Ca, s3, s4, -⟩ := s
      have ab := PRL_at r1
      have op := hP D w.1 w.2 ab r2
      have T := r1.1
      rcases r1.2 with k | k
      · have nx := x4next s3 T (by have := k.2.2.1; omega)
        rw [k.2.2.1] at nx
        obtain ⟨op1, op2⟩ := op
        rcases op2 with op2 | ⟨op2, q, c, op3, op4, op5 | op5⟩
        · exact absurd k.2.1 op2.1
        · have u := nxT_uniq ab.1 nx.1 op3
          rw [u.2] at s4
          exact s4 op5.1
        · have gc := (hg c).resolve_left op5.1
          omega
      · have := k.1; omega)
  obtain ⟨D, r1, r2, r3, r4⟩ := L
  have ab := PRL_at r1
  have op := hP D w.1 w.2 ab r2
  have T := r1.1
  obtain ⟨op1, op2⟩ := op
  -- the class's end
  have E : ∃ q : Int, (D.1 (12, 0, 0) 9).toInt ≤ q ∧ (w.2.1 (12, 0, 0) 9).toInt = q ∧ ((PBD z.2 D ∧ C2 = z.2 ∧ q = (D.1 (12, 0, 0) 9).toInt) ∨ (POK e z.2 D ∧ q ≤ (D.1 (50, 0, 0) 4).toInt ∧ (C2.1 (4, 0, 0) 3).toInt = q ∧ ∀ (c : rf) (k : Nat), ¬ (c = (4, 0, 0) ∧ k = 3) → C2.1 c k = z.2.1 c k)) := by
    rcases r1.2 with k | k
    · rcases op2 with op2 | ⟨op2, q, c, op3, op4, op5 | op5⟩
      · exact absurd k.2.1 op2.1
      · refine ⟨q, op3.1, op5.2.2, Or.inr ⟨k, op4, ?_⟩⟩
        have qp := op3.1
        rcases hf with hf | hf | ⟨hf, rr, hf2, hf3⟩
        · have := T.2.1
          have := k.2.2.1
          rw [hf.2]
          exact ⟨by omega, fun _ _ _ => rfl⟩
        · have := k.1; omega
        · have nx := x4next hf2 T (by have := k.2.2.1; omega)
          rw [k.2.2.1] at nx
          have u := nxT_uniq ab.1 nx.1 op3
          exact ⟨u.1, nx.2.2⟩
      · have gc := (hg c).resolve_left op5.1
        omega
    · refine ⟨(D.1 (12, 0, 0) 9).toInt, Int.le_refl _, ?_, Or.inl ⟨k, ?_, rfl⟩⟩
      · rcases op2 with op2 | op2
        · exact op2.2.2
        · exact absurd op2.1 k.2.1
      · rcases hf with hf | hf | hf
        · exact hf.2
        · exact hf.2
        · have := k.1; omega
  obtain ⟨q, e1, e2, e3⟩ := E
  refine ⟨?_, by omega⟩
  rcases e3 with ⟨k, e3, e4⟩ | ⟨k, e3, e4, e5⟩
  · rw [e3]
    refine ⟨?_, Or.inr ?_⟩
    · unfold TPE at T ⊢
      rw [op1 (50, 0, 0) 4 (by simp), op1 (12, 0, 0) 10 (by simp)]
      refine ⟨T.1, T.2.1, fun i hi => ?_, T.2.2.2⟩
      rw [op1 _ _ (by simp)]
      exact T.2.2.1 i hi
    · unfold PBD at k ⊢
      rw [op1 (12, 0, 0) 13 (by simp), op1 (50, 0, 0) 4 (by simp)]
      exact ⟨k.1, k.2.1, by omega, by omega⟩
  · refine ⟨?_, Or.inl ?_⟩
    · unfold TPE at T ⊢
      rw [e5 _ _ (by simp), e5 (4, 0, 0) 2 (by simp), op1 (50, 0, 0) 4 (by simp), op1 (12, 0, 0) 10 (by simp)]
      refine ⟨T.1, T.2.1, fun i hi => ?_, T.2.2.2⟩
      rw [e5 _ _ (by simp), op1 _ _ (by simp)]
      exact T.2.2.1 i hi
    · obtain ⟨k1, k2, k3, k4, k5, k6, k7, k8, k9, k10⟩ := k
      unfold POK
      rw [e5 (4, 0, 0) 4 (by simp), e5 (4, 0, 0) 6 (by simp), e5 (1, 3, 0) 2 (by simp), e5 (4, 0, 0) 5 (by simp), op1 (12, 0, 0) 13 (by simp), op1 (12, 0, 0) 12 (by simp), op1 (12, 0, 0) 14 (by simp), op1 (12, 0, 0) 11 (by simp), op1 (12, 0, 0) 10 (by simp), op1 (50, 0, 0) 4 (by simp)]
      refine ⟨k1, k2, by omega, by omega, k5, k6, k7, by omega, k9, fun i hi => ?_⟩
      rw [e5 _ _ (by simp), op1 _ _ (by simp)]
      exact k10 i hi
/-! expect and must -/
set_option maxHeartbeats 2000000 in
theorem expect_both {v : Int32} {s : Int} {W : Nat} {a T : Int} {e : Int} {C C2 D D2 : mM} (h1 : SP_X4_expect v C C2) (h2 : SP_X12_must v s W a T D D2) (hv : 0 ≤ v.toInt) (h : PRL e C D) (hc0 : FR S_c_X4_expect C C2) (hd0 : FR S_must D D2) : PRX e C C2 D D2 := by
  have hc : FR S_reader C C2 := fun c k q => hc0 c k (fun z => q (Or.elim z (fun a => Or.inl a) (fun z => Or.elim z (fun a => Or.inr (Or.inl a)) False.elim)))
  have hd : FR S_par D D2 := fun c k q => hd0 c k (fun z => q (Or.elim z (fun a => Or.inl a) (fun z => Or.elim z (fun a => Or.inr (Or.inr (Or.inr (Or.inl a)))) False.elim)))
  have q0 := il_0
  have q1 := il_1
  have T := h.1
  have ab := PRL_at h
  have T2 := TPE_fr T hc hd
  -- the model
  have M : (∀ (c : rf) (k : Nat), ¬ (c = (12, 0, 0) ∧ (k = 9 ∨ k = 13)) → D2.1 c k = D.1 c k) ∧ ((¬ (D.1 (12, 0, 0) 13).toInt = 0 ∧ (D2.1 (12, 0, 0) 13).toInt = 1 ∧ (D2.1 (12, 0, 0) 9).toInt = (D.1 (12, 0, 0) 9).toInt) ∨ ((D.1 (12, 0, 0) 13).toInt = 0 ∧ ∃ q c : Int, nxT (D.1 (50, 0, 0)) (D.1 (50, 0, 0) 4).toInt (D.1 (12, 0, 0) 9).toInt q c ∧ q ≤ (D.1 (50, 0, 0) 4).toInt ∧ ((c = v.toInt ∧ (D2.1 (12, 0, 0) 13).toInt = 0 ∧ (D2.1 (12, 0, 0) 9).toInt = q + 1) ∨ (¬ c = v.toInt ∧ (D2.1 (12, 0, 0) 13).toInt = 1 ∧ (D2.1 (12, 0, 0) 9).toInt = q)))) := by
    refine xE_SP_X12_must h2 (fun M2_ _ hF6_ => ⟨(fun hs8_ M12_ hM13_ h16_ hM_ => ?_), (fun hs8_ M20_ hM21_ h24_ hM_ => ?_)⟩)
    · obtain ⟨t1, t2⟩ := x12takes hs8_ hv ab
      refine ⟨fun c k q => by rw [hM_, zupN hM13_ (fun z => q ⟨z.1, Or.inr z.2⟩)]; exact t1 c k (fun z => q ⟨z.1, Or.inl z.2⟩), ?_⟩
      rw [hM_, zupE hM13_ rfl rfl, zupN (c' := (12, 0, 0)) (k' := 9) hM13_ (by simp)]
      rcases t2 with t2 | ⟨t2, q, c, t3, t4, t5 | t5⟩
      · omega
      · exact Or.inr ⟨t2, q, c, t3, t4, Or.inl ⟨t5.1, q0, t5.2.2⟩⟩
      · omega
    · obtain ⟨t1, t2⟩ := x12takes hs8_ hv ab
      refine ⟨fun c k q => by rw [hM_, zupN hM21_ (fun z => q ⟨z.1, Or.inr z.2⟩)]; exact t1 c k (fun z => q ⟨z.1, Or.inl z.2⟩), ?_⟩
      rw [hM_, zupE hM21_ rfl rfl, zupN (c' := (12, 0, 0)) (k' := 9) hM21_ (by simp)]
      rcases t2 with t2 | ⟨t2, q, c, t3, t4, t5 | t5⟩
      · exact Or.inl ⟨t2.1, q1, t2.2.2⟩
      · omega
      · exact Or.inr ⟨t2, q, c, t3, t4, Or.inr ⟨t5.1, q1, t5.2.2⟩⟩
  obtain ⟨m1, m2⟩ := M
  have N4 : D2.1 (50, 0, 0) 4 = D.1 (50, 0, 0) 4 := m1 _ _ (by simp)
  rcases h.2 with k | k
  · rcases m2 with m2 | ⟨m2, q, c, m3, m4, m5⟩
    · exact absurd k.2.1 m2.1
    · obtain ⟨k1, k2, k3, k4, k5, k6, k7, k8, k9, k10⟩ := k
      have qp := m3.1
      refine xE_SP_X4_expect h1 (fun M2_ _ hF6_ r1_ hs8_ => ⟨(fun h10_ z11_ e12_ z13_ h14_ M15_ hM16_ hM_ => ?_), (fun h10_ M20_ _ hF24_ hs26_ hM_ => ?_)⟩)
      · have nx := x4next hs8_ T (by omega)
        rw [k3] at nx
        have u := nxT_uniq ab.1 nx.1 m3
        rcases m5 with m5 | m5
        · have qN : q < (D.1 (50, 0, 0) 4).toInt := by rcases m3.2.2 with z | z <;> omega
          have hz : z13_.toInt = q + 1 := by rw [h14_, addI (x := z11_) rfl il_1 (by rw [e12_]; omega) (by rw [e12_]; have := T.2.1; omega), e12_]; omega
          have kc : ∀ (c : rf) (k : Nat), ¬ (c = (4, 0, 0) ∧ k = 3) → C2.1 c k = C.1 c k := fun c k q => by rw [hM_, zupN hM16_ q]; exact nx.2.2 c k q
          refine ⟨⟨T2, Or.inl ?_⟩, by omega⟩
          unfold POK
          rw [kc (4, 0, 0) 4 (by simp), kc (4, 0, 0) 6 (by simp), kc (1, 3, 0) 2 (by simp), kc (4, 0, 0) 5 (by simp), m1 (12, 0, 0) 12 (by simp), m1 (12, 0, 0) 14 (by simp), m1 (12, 0, 0) 11 (by simp), m1 (12, 0, 0) 10 (by simp), N4, show (C2.1 (4, 0, 0) 3).toInt = q + 1 by rw [hM_, zupE hM16_ rfl rfl]; exact hz]
          refine ⟨k1, m5.2.1, by omega, by omega, k5, k6, k7, by omega, k9, fun i hi => ?_⟩
          rw [kc _ _ (by simp), m1 _ _ (by simp)]
          exact k10 i hi
        · omega
      · have nx := x4next hs8_ T (by omega)
        rw [k3] at nx
        have u := nxT_uniq ab.1 nx.1 m3
        rcases m5 with m5 | m5
        · omega
        · have f4 : M2_.1 (4, 0, 0) 4 = C.1 (4, 0, 0) 4 := nx.2.2 _ _ (by simp)
          rcases x4fail hs26_ with f | f
          · rw [f4] at f; omega
          · refine ⟨⟨T2, Or.inr ?_⟩, by omega⟩
            unfold PBD
            rw [N4, hM_, f.2, up_same]
            omega
  · rcases m2 with m2 | m2
    · have f4 : C2.1 (4, 0, 0) 4 = C.1 (4, 0, 0) 4 := by
        have nf : ∀ {r : Int32} {Cn : mM}, SP_X4_next C r Cn → Cn.1 (4, 0, 0) 4 = C.1 (4, 0, 0) 4 := fun {r Cn} hn => by
          unfold SP_X4_next at hn
          obtain ⟨M_0, hL_0, hI_0, hF_0, z2_, e3_, z4_, e5_, hn⟩ := hn
          have fr : M_0.1 (4, 0, 0) 4 = C.1 (4, 0, 0) 4 := hF_0 _ _ (by simp [S_c_X4_next])
          rcases hn with ⟨-, ⟨-, -, hM_⟩ | ⟨-, r14_, -, -, hM_⟩⟩ | ⟨-, r21_, -, -, ⟨-, -, hM_⟩ | ⟨-, r34_, -, -, hM_⟩⟩
          all_goals (rw [hM_]; exact fr)
        refine xE_SP_X4_expect h1 (fun M2_ _ hF6_ r1_ hs8_ => ⟨(fun h10_ z11_ e12_ z13_ h14_ M15_ hM16_ hM_ => ?_), (fun h10_ M20_ _ hF24_ hs26_ hM_ => ?_)⟩)
        · rw [hM_, zupN hM16_ (by simp)]; exact nf hs8_
        · have n4 := nf hs8_
          rcases x4fail hs26_ with f | f
          · rw [hM_, f.2]; exact n4
          · rw [n4] at f; have := k.1; omega
      refine ⟨⟨T2, Or.inr ?_⟩, by omega⟩
      have := k.2.2
      unfold PBD
      rw [N4, f4]
      exact ⟨k.1, by omega, by omega, by omega⟩
    · exact absurd m2.1 k.2.1
end
section
/-! letters -/
def nmL (u j : Nat) : Int32 := if u = 0 then ([108, 111, 121, 112] : List Int32).getD j 0 else if u = 1 then ([115, 110, 116] : List Int32).getD j 0 else ([102, 108, 114, 98, 116] : List Int32).getD j 0
theorem nmL_uniq {u i j : Nat} (hu : u < 3) (hi : i < nnU u) (hj : j < nnU u) (h : (nmL u i).toInt = (nmL u j).toInt) : i = j := by
  have a : ((List.range 3).all fun u => (List.range 5).all fun i => (List.range 5).all fun j => !(decide (i < nnU u) && decide (j < nnU u) && decide ((nmL u i).toInt = (nmL u j).toInt)) || decide (i = j)) = true := by decide +kernel
  have b : nnU u ≤ 5 := by
    unfold nnU
    split
    · omega
    · split <;> omega
  rw [List.all_eq_true] at a
  have a1 := a u (List.mem_range.mpr hu)
  rw [List.all_eq_true] at a1
  have a2 := a1 i (List.mem_range.mpr (by omega))
  rw [List.all_eq_true] at a2
  have a3 := a2 j (List.mem_range.mpr (by omega))
  by_cases e : i = j
  · exact e
  · simp [hi, hj, h, e] at a3
theorem nmL_b {u j : Nat} (hu : u < 3) (hj : j < nnU u) : 97 ≤ (nmL u j).toInt ∧ (nmL u j).toInt ≤ 127 := by
  have a : ∀ u : Nat, u < 3 → ∀ j : Nat, j < 5 → j < nnU u → 97 ≤ (nmL u j).toInt ∧ (nmL u j).toInt ≤ 127 := by decide +kernel
  have b : nnU u ≤ 5 := by
    unfold nnU
    split
    · omega
    · split <;> omega
  exact a u hu j (by omega) hj
theorem b8 {x : Int32} (hx : 0 ≤ x.toInt ∧ x.toInt ≤ 127) : x.toInt8.toInt32 = x := by
  have a : ∀ i : Nat, i < 128 → (Int32.ofNat i).toInt8.toInt32 = Int32.ofNat i ∧ (Int32.ofNat i).toInt = (i : Int) := by decide +kernel
  have b := a x.toInt.toNat (by omega)
  have e : x = Int32.ofNat x.toInt.toNat := i32e (by rw [b.2]; omega)
  rw [e]
  exact b.1
theorem b16 {x : Int32} (hx : 0 ≤ x.toInt ∧ x.toInt ≤ 127) : (x.toUInt32 % 65536).toInt32 = x := by
  have a : ∀ i : Nat, i < 128 → ((Int32.ofNat i).toUInt32 % 65536).toInt32 = Int32.ofNat i ∧ (Int32.ofNat i).toInt = (i : Int) := by decide +kernel
  have b := a x.toInt.toNat (by omega)
  have e : x = Int32.ofNat x.toInt.toNat := i32e (by rw [b.2]; omega)
  rw [e]
  exact b.1
def NLq (u n : Nat) (x z : Int32) : Prop := (0 ≤ z.toInt ∧ z.toInt < (n : Int) ∧ (nmL u z.toInt.toNat).toInt = x.toInt) ∨ (z.toInt = -1 ∧ ∀ j : Nat, j < n → ¬ (nmL u j).toInt = x.toInt)
theorem ixo0 {x z : Int32} {M : mM} (h : IXO 1 x z M) (hx : 0 ≤ x.toInt ∧ x.toInt ≤ 127) : NLq 0 4 x z := by
  have im := il_m1
  have q0 := il_0
  have qn : (4 : Int32).toInt = 4 := by decide
  have h : SP_S_indexOf_1 x M z := h
  refine xE_SP_S_indexOf_1 h (fun r1_ hs5_ hr_ => ?_)
  have ha_ := hs5_
  have hra_ := hr_
  refine xE_SP_S_indexOf2_1 ha_ (fun a_hs5_ a_hs11_ a_r12_ a_hs16_ a_hr_ => ?_)
  refine xE_SP_SL_indexOf_1 a_hs16_ (fun b_r1_ b_hs5_ b_h4_ => ⟨(fun b_h6_ b_z7_ b_h8_ b_z9_ b_h10_ => ⟨(fun b_h11_ b_r12_ b_hs16_ b_hr_ => ?_), (fun b_h11_ b_hr_ => ?_)⟩), (fun b_h6_ b_hr_ => ?_)⟩)
  · refine xE_SP_SL_indexOfChar_1 b_hs16_ (fun c_z1_ c_h2_ c_v5_7 c_hv0_7 c_hL_7 => ⟨(fun c_h4_ c_hr_ => ?_), (fun c_h4_ c_z5_j c_z5_k c_z5_ c_z5_h c_h6_ c_hr_ => ?_)⟩)
    all_goals
      have g := rind c_hL_7 (fun t => 0 ≤ t.toInt ∧ t.toInt ≤ 4 ∧ ∀ j : Nat, (j : Int) < t.toInt → ¬ (nmL 0 j).toInt = x.toInt) ⟨by omega, by omega, fun j hj => by omega⟩ (fun s t p st => by
        (try dsimp only at p st ⊢)
        obtain ⟨p1, p2, p3⟩ := p
        refine xE_ST_SL_indexOfChar_1_7 st (fun k_hv0_7 k_h4_ k_z5_j k_z5_k k_z5_ k_z5_h k_h6_ k_z7_ k_h8_ k_hq_v5_7y => ?_)
        rw [c_h2_, b8 hx] at k_h6_
        have ey := eT k_hq_v5_7y
        refine ⟨by omega, by omega, fun j hj => ?_⟩
        by_cases e : (j : Int) = s.toInt
        · obtain rfl : j = k_z5_j := by omega
          rw [k_z5_h] at k_h6_
          exact k_h6_
        · exact p3 j (by omega))
      (try dsimp only at g)
      obtain ⟨g1, g2, g3⟩ := g
      have er := eT c_hr_
      have eb := eT b_hr_
      have ea := eT a_hr_
      have e0 := eT hra_
    · exact Or.inr ⟨by omega, fun j hj => g3 j (by omega)⟩
    · left
      refine ⟨by omega, by omega, ?_⟩
      rw [c_h2_, b8 hx, c_z5_h] at c_h6_
      rw [show z.toInt.toNat = c_z5_j by omega]
      exact c_h6_
  · omega
  · refine xE_SP_SL_canEncode_0 b_hs5_ ⟨(fun d_h1_ d_hr_ => ?_), (fun d_h1_ => ⟨(fun d_h2_ d_hr_ => ?_), (fun d_h2_ d_hr_ => ?_)⟩)⟩
    · omega
    · omega
    · have := eT d_hr_
      have := il_1
      omega
theorem chx4 {v z : Int32} {M : mM} (h : CHX 4 v z M) (hv : 0 ≤ v.toInt ∧ v.toInt < 4) : z = nmL 0 v.toInt.toNat := by
  have h : SP_S_charAt_4 v M z := h
  refine xE_SP_S_charAt_4 h (fun hs5_ r7_ hs11_ h10_ hr_ => ?_)
  refine xE_SP_SL_charAt_4 hs11_ (fun k_z1_j k_z1_k k_z1_ k_z1_h k_z2_ k_h4_ k_h3_ k_z5_ k_h6_ k_h7_ k_hr_ => ?_)
  obtain rfl : k_z1_j = v.toInt.toNat := by omega
  have hj : v.toInt.toNat < 4 := by omega
  rw [hr_, k_hr_, k_h6_, k_h4_, k_z1_h]
  exact (show ∀ j : Nat, j < 4 → ((([108, 111, 121, 112] : List Int32).getD j 0 &&& (255 : Int32)).toUInt32 % 65536).toInt32 = nmL 0 j by decide +kernel) _ hj
theorem ixo1 {x z : Int32} {M : mM} (h : IXO 2 x z M) (hx : 0 ≤ x.toInt ∧ x.toInt ≤ 127) : NLq 1 3 x z := by
  have im := il_m1
  have q0 := il_0
  have qn : (3 : Int32).toInt = 3 := by decide
  have h : SP_S_indexOf_2 x M z := h
  refine xE_SP_S_indexOf_2 h (fun r1_ hs5_ hr_ => ?_)
  have ha_ := hs5_
  have hra_ := hr_
  refine xE_SP_S_indexOf2_2 ha_ (fun a_hs5_ a_hs11_ a_r12_ a_hs16_ a_hr_ => ?_)
  refine xE_SP_SL_indexOf_2 a_hs16_ (fun b_r1_ b_hs5_ b_h4_ => ⟨(fun b_h6_ b_z7_ b_h8_ b_z9_ b_h10_ => ⟨(fun b_h11_ b_r12_ b_hs16_ b_hr_ => ?_), (fun b_h11_ b_hr_ => ?_)⟩), (fun b_h6_ b_hr_ => ?_)⟩)
  · refine xE_SP_SL_indexOfChar_2 b_hs16_ (fun c_z1_ c_h2_ c_v5_7 c_hv0_7 c_hL_7 => ⟨(fun c_h4_ c_hr_ => ?_), (fun c_h4_ c_z5_j c_z5_k c_z5_ c_z5_h c_h6_ c_hr_ => ?_)⟩)
    all_goals
      have g := rind c_hL_7 (fun t => 0 ≤ t.toInt ∧ t.toInt ≤ 3 ∧ ∀ j : Nat, (j : Int) < t.toInt → ¬ (nmL 1 j).toInt = x.toInt) ⟨by omega, by omega, fun j hj => by omega⟩ (fun s t p st => by
        (try dsimp only at p st ⊢)
        obtain ⟨p1, p2, p3⟩ := p
        refine xE_ST_SL_indexOfChar_2_7 st (fun k_hv0_7 k_h4_ k_z5_j k_z5_k k_z5_ k_z5_h k_h6_ k_z7_ k_h8_ k_hq_v5_7y => ?_)
        rw [c_h2_, b8 hx] at k_h6_
        have ey := eT k_hq_v5_7y
        refine ⟨by omega, by omega, fun j hj => ?_⟩
        by_cases e : (j : Int) = s.toInt
        · obtain rfl : j = k_z5_j := by omega
          rw [k_z5_h] at k_h6_
          exact k_h6_
        · exact p3 j (by omega))
      (try dsimp only at g)
      obtain ⟨g1, g2, g3⟩ := g
      have er := eT c_hr_
      have eb := eT b_hr_
      have ea := eT a_hr_
      have e0 := eT hra_
    · exact Or.inr ⟨by omega, fun j hj => g3 j (by omega)⟩
    · left
      refine ⟨by omega, by omega, ?_⟩
      rw [c_h2_, b8 hx, c_z5_h] at c_h6_
      rw [show z.toInt.toNat = c_z5_j by omega]
      exact c_h6_
  · omega
  · refine xE_SP_SL_canEncode_0 b_hs5_ ⟨(fun d_h1_ d_hr_ => ?_), (fun d_h1_ => ⟨(fun d_h2_ d_hr_ => ?_), (fun d_h2_ d_hr_ => ?_)⟩)⟩
    · omega
    · omega
    · have := eT d_hr_
      have := il_1
      omega
theorem chx5 {v z : Int32} {M : mM} (h : CHX 5 v z M) (hv : 0 ≤ v.toInt ∧ v.toInt < 3) : z = nmL 1 v.toInt.toNat := by
  have h : SP_S_charAt_5 v M z := h
  refine xE_SP_S_charAt_5 h (fun hs5_ r7_ hs11_ h10_ hr_ => ?_)
  refine xE_SP_SL_charAt_5 hs11_ (fun k_z1_j k_z1_k k_z1_ k_z1_h k_z2_ k_h4_ k_h3_ k_z5_ k_h6_ k_h7_ k_hr_ => ?_)
  obtain rfl : k_z1_j = v.toInt.toNat := by omega
  have hj : v.toInt.toNat < 3 := by omega
  rw [hr_, k_hr_, k_h6_, k_h4_, k_z1_h]
  exact (show ∀ j : Nat, j < 3 → ((([115, 110, 116] : List Int32).getD j 0 &&& (255 : Int32)).toUInt32 % 65536).toInt32 = nmL 1 j by decide +kernel) _ hj
theorem ixo2 {x z : Int32} {M : mM} (h : IXO 3 x z M) (hx : 0 ≤ x.toInt ∧ x.toInt ≤ 127) : NLq 2 5 x z := by
  have im := il_m1
  have q0 := il_0
  have qn : (5 : Int32).toInt = 5 := by decide
  have h : SP_S_indexOf_3 x M z := h
  refine xE_SP_S_indexOf_3 h (fun r1_ hs5_ hr_ => ?_)
  have ha_ := hs5_
  have hra_ := hr_
  refine xE_SP_S_indexOf2_3 ha_ (fun a_hs5_ a_hs11_ a_r12_ a_hs16_ a_hr_ => ?_)
  refine xE_SP_SL_indexOf_3 a_hs16_ (fun b_r1_ b_hs5_ b_h4_ => ⟨(fun b_h6_ b_z7_ b_h8_ b_z9_ b_h10_ => ⟨(fun b_h11_ b_r12_ b_hs16_ b_hr_ => ?_), (fun b_h11_ b_hr_ => ?_)⟩), (fun b_h6_ b_hr_ => ?_)⟩)
  · refine xE_SP_SL_indexOfChar_3 b_hs16_ (fun c_z1_ c_h2_ c_v5_7 c_hv0_7 c_hL_7 => ⟨(fun c_h4_ c_hr_ => ?_), (fun c_h4_ c_z5_j c_z5_k c_z5_ c_z5_h c_h6_ c_hr_ => ?_)⟩)
    all_goals
      have g := rind c_hL_7 (fun t => 0 ≤ t.toInt ∧ t.toInt ≤ 5 ∧ ∀ j : Nat, (j : Int) < t.toInt → ¬ (nmL 2 j).toInt = x.toInt) ⟨by omega, by omega, fun j hj => by omega⟩ (fun s t p st => by
        (try dsimp only at p st ⊢)
        obtain ⟨p1, p2, p3⟩ := p
        refine xE_ST_SL_indexOfChar_3_7 st (fun k_hv0_7 k_h4_ k_z5_j k_z5_k k_z5_ k_z5_h k_h6_ k_z7_ k_h8_ k_hq_v5_7y => ?_)
        rw [c_h2_, b8 hx] at k_h6_
        have ey := eT k_hq_v5_7y
        refine ⟨by omega, by omega, fun j hj => ?_⟩
        by_cases e : (j : Int) = s.toInt
        · obtain rfl : j = k_z5_j := by omega
          rw [k_z5_h] at k_h6_
          exact k_h6_
        · exact p3 j (by omega))
      (try dsimp only at g)
      obtain ⟨g1, g2, g3⟩ := g
      have er := eT c_hr_
      have eb := eT b_hr_
      have ea := eT a_hr_
      have e0 := eT hra_
    · exact Or.inr ⟨by omega, fun j hj => g3 j (by omega)⟩
    · left
      refine ⟨by omega, by omega, ?_⟩
      rw [c_h2_, b8 hx, c_z5_h] at c_h6_
      rw [show z.toInt.toNat = c_z5_j by omega]
      exact c_h6_
  · omega
  · refine xE_SP_SL_canEncode_0 b_hs5_ ⟨(fun d_h1_ d_hr_ => ?_), (fun d_h1_ => ⟨(fun d_h2_ d_hr_ => ?_), (fun d_h2_ d_hr_ => ?_)⟩)⟩
    · omega
    · omega
    · have := eT d_hr_
      have := il_1
      omega
theorem chx6 {v z : Int32} {M : mM} (h : CHX 6 v z M) (hv : 0 ≤ v.toInt ∧ v.toInt < 5) : z = nmL 2 v.toInt.toNat := by
  have h : SP_S_charAt_6 v M z := h
  refine xE_SP_S_charAt_6 h (fun hs5_ r7_ hs11_ h10_ hr_ => ?_)
  refine xE_SP_SL_charAt_6 hs11_ (fun k_z1_j k_z1_k k_z1_ k_z1_h k_z2_ k_h4_ k_h3_ k_z5_ k_h6_ k_h7_ k_hr_ => ?_)
  obtain rfl : k_z1_j = v.toInt.toNat := by omega
  have hj : v.toInt.toNat < 5 := by omega
  rw [hr_, k_hr_, k_h6_, k_h4_, k_z1_h]
  exact (show ∀ j : Nat, j < 5 → ((([102, 108, 114, 98, 116] : List Int32).getD j 0 &&& (255 : Int32)).toUInt32 % 65536).toInt32 = nmL 2 j by decide +kernel) _ hj
theorem x12name {v r : Int32} {D : mM} (h : SP_X12_nameOf v D r) (hu : 0 ≤ (D.1 (12, 0, 0) 10).toInt ∧ (D.1 (12, 0, 0) 10).toInt ≤ 2) : NLq (D.1 (12, 0, 0) 10).toInt.toNat (nnU (D.1 (12, 0, 0) 10).toInt.toNat) v r := by
  have im := il_m1
  have q0 := il_0
  refine xE_SP_X12_nameOf h ⟨(fun h1_ v3_4 hv0_4 v2_4 hv1_4 hv2_4 hL_4 z3_ e4_ h5_ h6_ h7_ hr_ => ?_), (fun h1_ v3_4 hv0_4 v2_4 hv1_4 hv2_4 hL_4 z17_ e18_ h19_ h20_ h21_ hr_ => ?_), (fun h1_ v3_4 hv0_4 v2_4 hv1_4 hv2_4 hL_4 z31_ e32_ h33_ h34_ h35_ hr_ => ?_)⟩
  · have g := rind hL_4 (fun t => 0 ≤ t.1.toInt ∧ t.1.toInt ≤ 4 ∧ ((0 ≤ t.2.toInt ∧ t.2.toInt < t.1.toInt ∧ (nmL 0 t.2.toInt.toNat).toInt = v.toInt) ∨ (t.2.toInt = -1 ∧ ∀ j : Nat, (j : Int) < t.1.toInt → ¬ (nmL 0 j).toInt = v.toInt))) ⟨by dsimp only; omega, by dsimp only; omega, Or.inr ⟨im, fun j hj => by dsimp only at hj; omega⟩⟩ (fun s t p st => by
      (try dsimp only at p st ⊢)
      obtain ⟨p1, p2, p3⟩ := p
      refine xE_ST_X12_nameOf_4 st (fun k_hv0_4 k_hv1_4 k_hv2_4 k_z3_ k_e4_ k_h5_ k_h6_ k_h7_ k_z10_ k_z10_h => ⟨(fun k_h11_ k_z12_ k_h13_ k_hq_v3_4y k_hq_v2_4y => ?_), (fun k_h11_ k_z14_ k_h15_ k_hq_v3_4y k_hq_v2_4y => ?_)⟩)
      · have cx := chx4 k_z10_h ⟨p1, k_h7_⟩
        have e1 := eT k_hq_v3_4y
        have e2 := eT k_hq_v2_4y
        rw [cx] at k_h11_
        refine ⟨by omega, by omega, ?_⟩
        rcases p3 with p3 | p3
        · left
          rw [k_hq_v2_4y]
          exact ⟨p3.1, by omega, p3.2.2⟩
        · right
          refine ⟨by omega, fun j hj => ?_⟩
          by_cases e : (j : Int) = s.1.toInt
          · rw [show j = s.1.toInt.toNat by omega]; exact k_h11_
          · exact p3.2 j (by omega)
      · have cx := chx4 k_z10_h ⟨p1, k_h7_⟩
        have e1 := eT k_hq_v3_4y
        have e2 := eT k_hq_v2_4y
        rw [cx] at k_h11_
        refine ⟨by omega, by omega, Or.inl ⟨by omega, by omega, ?_⟩⟩
        rw [k_hq_v2_4y]
        exact k_h11_)
    (try dsimp only at g)
    obtain ⟨g1, g2, g3⟩ := g
    have eu : (D.1 (12, 0, 0) 10).toInt.toNat = 0 := by omega
    rw [eu, show nnU 0 = 4 by decide]
    unfold NLq
    rw [hr_]
    rcases g3 with g3 | g3
    · exact Or.inl ⟨g3.1, by omega, g3.2.2⟩
    · exact Or.inr ⟨g3.1, fun j hj => g3.2 j (by omega)⟩
  · have g := rind hL_4 (fun t => 0 ≤ t.1.toInt ∧ t.1.toInt ≤ 3 ∧ ((0 ≤ t.2.toInt ∧ t.2.toInt < t.1.toInt ∧ (nmL 1 t.2.toInt.toNat).toInt = v.toInt) ∨ (t.2.toInt = -1 ∧ ∀ j : Nat, (j : Int) < t.1.toInt → ¬ (nmL 1 j).toInt = v.toInt))) ⟨by dsimp only; omega, by dsimp only; omega, Or.inr ⟨im, fun j hj => by dsimp only at hj; omega⟩⟩ (fun s t p st => by
      (try dsimp only at p st ⊢)
      obtain ⟨p1, p2, p3⟩ := p
      refine xE_ST_X12_nameOf_4b st (fun k_hv0_4 k_hv1_4 k_hv2_4 k_z17_ k_e18_ k_h19_ k_h20_ k_h21_ k_z24_ k_z24_h => ⟨(fun k_h25_ k_z26_ k_h27_ k_hq_v3_4y k_hq_v2_4y => ?_), (fun k_h25_ k_z28_ k_h29_ k_hq_v3_4y k_hq_v2_4y => ?_)⟩)
      · have cx := chx5 k_z24_h ⟨p1, k_h21_⟩
        have e1 := eT k_hq_v3_4y
        have e2 := eT k_hq_v2_4y
        rw [cx] at k_h25_
        refine ⟨by omega, by omega, ?_⟩
        rcases p3 with p3 | p3
        · left
          rw [k_hq_v2_4y]
          exact ⟨p3.1, by omega, p3.2.2⟩
        · right
          refine ⟨by omega, fun j hj => ?_⟩
          by_cases e : (j : Int) = s.1.toInt
          · rw [show j = s.1.toInt.toNat by omega]; exact k_h25_
          · exact p3.2 j (by omega)
      · have cx := chx5 k_z24_h ⟨p1, k_h21_⟩
        have e1 := eT k_hq_v3_4y
        have e2 := eT k_hq_v2_4y
        rw [cx] at k_h25_
        refine ⟨by omega, by omega, Or.inl ⟨by omega, by omega, ?_⟩⟩
        rw [k_hq_v2_4y]
        exact k_h25_)
    (try dsimp only at g)
    obtain ⟨g1, g2, g3⟩ := g
    have eu : (D.1 (12, 0, 0) 10).toInt.toNat = 1 := by omega
    rw [eu, show nnU 1 = 3 by decide]
    unfold NLq
    rw [hr_]
    rcases g3 with g3 | g3
    · exact Or.inl ⟨g3.1, by omega, g3.2.2⟩
    · exact Or.inr ⟨g3.1, fun j hj => g3.2 j (by omega)⟩
  · have g := rind hL_4 (fun t => 0 ≤ t.1.toInt ∧ t.1.toInt ≤ 5 ∧ ((0 ≤ t.2.toInt ∧ t.2.toInt < t.1.toInt ∧ (nmL 2 t.2.toInt.toNat).toInt = v.toInt) ∨ (t.2.toInt = -1 ∧ ∀ j : Nat, (j : Int) < t.1.toInt → ¬ (nmL 2 j).toInt = v.toInt))) ⟨by dsimp only; omega, by dsimp only; omega, Or.inr ⟨im, fun j hj => by dsimp only at hj; omega⟩⟩ (fun s t p st => by
      (try dsimp only at p st ⊢)
      obtain ⟨p1, p2, p3⟩ := p
      refine xE_ST_X12_nameOf_4c st (fun k_hv0_4 k_hv1_4 k_hv2_4 k_z31_ k_e32_ k_h33_ k_h34_ k_h35_ k_z38_ k_z38_h => ⟨(fun k_h39_ k_z40_ k_h41_ k_hq_v3_4y k_hq_v2_4y => ?_), (fun k_h39_ k_z42_ k_h43_ k_hq_v3_4y k_hq_v2_4y => ?_)⟩)
      · have cx := chx6 k_z38_h ⟨p1, k_h35_⟩
        have e1 := eT k_hq_v3_4y
        have e2 := eT k_hq_v2_4y
        rw [cx] at k_h39_
        refine ⟨by omega, by omega, ?_⟩
        rcases p3 with p3 | p3
        · left
          rw [k_hq_v2_4y]
          exact ⟨p3.1, by omega, p3.2.2⟩
        · right
          refine ⟨by omega, fun j hj => ?_⟩
          by_cases e : (j : Int) = s.1.toInt
          · rw [show j = s.1.toInt.toNat by omega]; exact k_h39_
          · exact p3.2 j (by omega)
      · have cx := chx6 k_z38_h ⟨p1, k_h35_⟩
        have e1 := eT k_hq_v3_4y
        have e2 := eT k_hq_v2_4y
        rw [cx] at k_h39_
        refine ⟨by omega, by omega, Or.inl ⟨by omega, by omega, ?_⟩⟩
        rw [k_hq_v2_4y]
        exact k_h39_)
    (try dsimp only at g)
    obtain ⟨g1, g2, g3⟩ := g
    have eu : (D.1 (12, 0, 0) 10).toInt.toNat = 2 := by omega
    rw [eu, show nnU 2 = 5 by decide]
    unfold NLq
    rw [hr_]
    rcases g3 with g3 | g3
    · exact Or.inl ⟨g3.1, by omega, g3.2.2⟩
    · exact Or.inr ⟨g3.1, fun j hj => g3.2 j (by omega)⟩
/-- a code more, at a new place -/
theorem POK_mk {e p : Int} {C C2 D D2 : mM} {v w : Int32} (h : POK e C D) (hp : (D.1 (12, 0, 0) 9).toInt + 1 ≤ p ∧ p ≤ (D.1 (50, 0, 0) 4).toInt)
    (c1 : (C2.1 (4, 0, 0) 3).toInt = p ∧ C2.1 (4, 0, 0) 6 = C.1 (4, 0, 0) 6 + (1 : Int32) ∧ C2.1 (4, 0, 0) 4 = C.1 (4, 0, 0) 4 ∧ C2.1 (4, 0, 0) 5 = C.1 (4, 0, 0) 5 ∧ (C2.1 (1, 3, 0) 2).toInt = (C.1 (1, 3, 0) 2).toInt + 1 ∧ C2.1 (24, 3, 0) = upd (C.1 (24, 3, 0)) (C.1 (1, 3, 0) 2).toInt.toNat v)
    (d1 : (D2.1 (12, 0, 0) 9).toInt = p ∧ D2.1 (12, 0, 0) 12 = D.1 (12, 0, 0) 12 + (1 : Int32) ∧ (D2.1 (12, 0, 0) 13).toInt = 0 ∧ D2.1 (12, 0, 0) 11 = D.1 (12, 0, 0) 11 ∧ D2.1 (12, 0, 0) 10 = D.1 (12, 0, 0) 10 ∧ (D2.1 (12, 0, 0) 14).toInt = (D.1 (12, 0, 0) 14).toInt + 1 ∧ D2.1 (57, 0, 0) = upd (D.1 (57, 0, 0)) (D.1 (12, 0, 0) 14).toInt.toNat w ∧ D2.1 (50, 0, 0) 4 = D.1 (50, 0, 0) 4)
    (hv : v.toInt = cmI w.toInt) (hw : cOK (nnU (D.1 (12, 0, 0) 10).toInt.toNat) w) (h48 : (D.1 (12, 0, 0) 14).toInt < 48) : POK e C2 D2 := by
  obtain ⟨h1, h2, h3, h4, h5, h6, h7, h8, h9, h10⟩ := h
  obtain ⟨c1, c2, c3, c4, c5, c6⟩ := c1
  obtain ⟨d1, d2, d3, d4, d5, d6, d7, d8⟩ := d1
  unfold POK
  have e12 := addI (x := D.1 (12, 0, 0) 12) rfl il_1 (by omega) (by omega)
  rw [c3, c2, c4, d2, d4, d5, d8, h5.1]
  refine ⟨h1, d3, by omega, by omega, ⟨rfl, by omega, by omega⟩, by omega, by omega, by omega, h9, fun i hi => ?_⟩
  rw [c6, d7, h6]
  by_cases z : i = (D.1 (12, 0, 0) 14).toInt.toNat
  · rw [updE z, updE z]; exact ⟨hv, hw⟩
  · rw [updN z, updN z]; exact h10 i (by omega)
theorem cmI_lo {c : Int} (h : c < 2000) : cmI c = c := by
  unfold cmI
  rw [if_neg (by omega), if_neg (by omega), if_neg (by omega), if_neg (by omega), if_neg (by omega), if_neg (by omega), if_neg (by omega), if_neg (by omega), if_neg (by omega), if_neg (by omega)]
/-- the two readers of a number -/
def NUc (C : mM) (x y : Int32 × Int32 × mM) : Prop := ST_X4_readNumber_4 C x.1 x.2.1 x.2.2 y.1 y.2.1 y.2.2
def NUd (s : Int) (W : Nat) (a T : Int) (D : mM) (x y : Int32 × Int32 × mM) : Prop := ST_X12_one_46 s W a T D x.1 x.2.1 x.2.2 y.1 y.2.1 y.2.2
def NUR (C D : mM) (x y : Int32 × Int32 × mM) : Prop := x.1.toInt = y.1.toInt ∧ (0 ≤ y.1.toInt ∧ y.1.toInt ≤ 3) ∧ x.2.1.toInt = y.2.1.toInt ∧ ((y.1.toInt = 0 ∧ y.2.1.toInt = 0) ∨ (y.1.toInt = 1 ∧ 0 ≤ y.2.1.toInt ∧ y.2.1.toInt ≤ 9) ∨ (y.1.toInt = 2 ∧ 0 ≤ y.2.1.toInt ∧ y.2.1.toInt ≤ 99) ∨ (y.1.toInt = 3 ∧ 0 ≤ y.2.1.toInt ∧ y.2.1.toInt ≤ 999)) ∧ (x.2.2.1 (4, 0, 0) 3).toInt = (D.1 (12, 0, 0) 9).toInt + y.1.toInt ∧ (y.2.2.1 (12, 0, 0) 9).toInt = (D.1 (12, 0, 0) 9).toInt + y.1.toInt ∧ (y.2.2.1 (12, 0, 0) 9).toInt ≤ (D.1 (50, 0, 0) 4).toInt ∧ (∀ (c : rf) (k : Nat), ¬ (c = (4, 0, 0) ∧ k = 3) → x.2.2.1 c k = C.1 c k) ∧ (∀ (c : rf) (k : Nat), ¬ (c = (12, 0, 0) ∧ k = 9) → y.2.2.1 c k = D.1 c k)
/-- the digit that both read -/
theorem digC {C D x : mM} {v r z : Int32} (hT : TPE C D) (hx : ∀ (c : rf) (k : Nat), ¬ (c = (4, 0, 0) ∧ k = 3) → x.1 c k = C.1 c k) (h : SP_X5_get 0 0 v x r) (hv : 0 ≤ v.toInt ∧ v.toInt < (D.1 (50, 0, 0) 4).toInt) (hz : z = r - (48 : Int32)) : z.toInt = (D.1 (50, 0, 0) (273 + v.toInt.toNat)).toInt - 48 := by
  have q48 : (48 : Int32).toInt = 48 := by decide
  have hc := eT hT.1
  have g := x5get h (by rw [hx _ _ (by simp)]; omega) (by rw [hx _ _ (by simp)]; have := hT.2.1; omega)
  have cell := hT.2.2.1 v.toInt.toNat (by omega)
  rw [hx _ _ (by simp), cell.1] at g
  rw [hz, g, subI (x := D.1 (50, 0, 0) (273 + v.toInt.toNat)) rfl q48 (by omega) (by omega)]
theorem num_lock {C D : mM} {s : Int} {W : Nat} {a T : Int} {z w : Int32 × Int32 × mM} (hT : TPE C D) (h0 : (C.1 (4, 0, 0) 3).toInt = (D.1 (12, 0, 0) 9).toInt ∧ 0 ≤ (D.1 (12, 0, 0) 9).toInt ∧ (D.1 (12, 0, 0) 9).toInt ≤ (D.1 (50, 0, 0) 4).toInt) {C0 D0 : mM}
    (hc : RCH (NUc C0) ((0 : Int32), (0 : Int32), C) z) (hd : RCH (NUd s W a T D0) ((0 : Int32), (0 : Int32), D) w)
    (fc : 3 ≤ z.1.toInt ∨ (z.1.toInt < 3 ∧ ((z.2.2.1 (5, 0, 0) 1).toInt ≤ (z.2.2.1 (4, 0, 0) 3).toInt ∨ ((z.2.2.1 (4, 0, 0) 3).toInt < (z.2.2.1 (5, 0, 0) 1).toInt ∧ ∃ r y : Int32, SP_X5_get 0 0 (z.2.2.1 (4, 0, 0) 3) z.2.2 r ∧ y = r - (48 : Int32) ∧ (y.toInt < 0 ∨ 9 < y.toInt)))))
    (fd : 3 ≤ w.1.toInt ∨ (w.1.toInt < 3 ∧ ((w.2.2.1 (50, 0, 0) 4).toInt ≤ (w.2.2.1 (12, 0, 0) 9).toInt ∨ ((w.2.2.1 (12, 0, 0) 9).toInt < (w.2.2.1 (50, 0, 0) 4).toInt ∧ ¬ (48 ≤ (w.2.2.1 (50, 0, 0) (273 + (w.2.2.1 (12, 0, 0) 9).toInt.toNat)).toInt ∧ (w.2.2.1 (50, 0, 0) (273 + (w.2.2.1 (12, 0, 0) 9).toInt.toNat)).toInt ≤ 57))))) : NUR C D z w := by
  have q0 := il_0
  have q10 : (10 : Int32).toInt = 10 := by decide
  have hN := eT hT.1
  refine lockE (NUR C D) hc hd ⟨rfl, by (try dsimp only); omega, rfl, Or.inl ⟨q0, q0⟩, by dsimp only; omega, by dsimp only; omega, by dsimp only; omega, fun _ _ _ => rfl, fun _ _ _ => rfl⟩ ?_ ?_ ?_
  · intro x z y w r st tt
    obtain ⟨r1, r2, r3, r4, r5, r6, r7, r8, r9⟩ := r
    unfold NUc at st
    unfold NUd at tt
    refine xE_ST_X4_readNumber_4 st (fun s_hv0_4 s_hv1_4 _ s_hF_4 s_h2_ s_z20_ s_e21_ s_z22_ s_e23_ s_h24_ s_r45_ s_hs49_ s_z50_ s_h51_ s_h52_ s_h70_ s_z71_ s_h72_ s_z73_ s_h74_ s_z77_ s_h78_ s_M79_ s_hM80_ s_z84_ s_h85_ s_hq_v2_4y s_hq_v1_4y s_hM_ => ?_)
    refine xE_ST_X12_one_46 tt (fun t_hv0_46 t_hv1_46 t_hv2_46 _ t_hF_46 t_h49_ t_z70_ t_e71_ t_h72_ t_z73_ t_e74_ t_h75_ t_h76_ t_z99_ t_h100_ t_j103_ t_h104_ t_z101_ t_e102_ t_hs109_ t_h108_ t_z111_ t_h112_ t_z115_ t_h116_ t_j119_ t_h120_ t_z117_ t_e118_ t_h121_ t_z122_ t_h123_ t_z124_ t_h125_ t_z128_ t_h129_ t_M130_ t_hM131_ t_h135_ t_z136_ t_h137_ t_hq_v3_46y t_hq_v2_46y t_hM_ => ?_)
    have w1 := eT s_e21_
    have w2 := eT s_e23_
    rw [r8 _ _ (by simp)] at w2
    have v1 := eT t_e71_
    have v2 := eT t_e74_
    rw [r9 _ _ (by simp)] at v2
    have dg := digC hT r8 s_hs49_ (by omega) s_h51_
    obtain rfl : t_j119_ = 273 + s_z20_.toInt.toNat := by omega
    have v3 := eT t_e118_
    rw [r9 _ _ (by simp)] at v3
    have m1 : s_z71_.toInt = 10 * x.2.1.toInt := by rw [s_h72_, mulI q10 rfl (by omega) (by omega)]
    have m2 : s_z73_.toInt = 10 * x.2.1.toInt + s_z50_.toInt := by rw [s_h74_, addI m1 rfl (by omega) (by omega)]
    have k1 := eT s_hq_v2_4y
    have k2 := eT s_hq_v1_4y
    have k3 := eT t_hq_v3_46y
    have k4 := eT t_hq_v2_46y
    refine ⟨by omega, by omega, by omega, by omega, ?_, ?_, ?_, fun c k q => ?_, fun c k q => ?_⟩
    · rw [s_hM_, zupE s_hM80_ rfl rfl]; omega
    · rw [t_hM_, zupE t_hM131_ rfl rfl]; omega
    · rw [t_hM_, zupE t_hM131_ rfl rfl]; omega
    · rw [s_hM_, zupN s_hM80_ q]; exact r8 c k q
    · rw [t_hM_, zupN t_hM131_ q]; exact r9 c k q
  · intro y y' r tt
    obtain ⟨r1, r2, r3, r4, r5, r6, r7, r8, r9⟩ := r
    unfold NUd at tt
    refine xE_ST_X12_one_46 tt (fun t_hv0_46 t_hv1_46 t_hv2_46 _ t_hF_46 t_h49_ t_z70_ t_e71_ t_h72_ t_z73_ t_e74_ t_h75_ t_h76_ t_z99_ t_h100_ t_j103_ t_h104_ t_z101_ t_e102_ t_hs109_ t_h108_ t_z111_ t_h112_ t_z115_ t_h116_ t_j119_ t_h120_ t_z117_ t_e118_ t_h121_ t_z122_ t_h123_ t_z124_ t_h125_ t_z128_ t_h129_ t_M130_ t_hM131_ t_h135_ t_z136_ t_h137_ t_hq_v3_46y t_hq_v2_46y t_hM_ => ?_)
    have v1 := eT t_e71_
    have v2 := eT t_e74_
    have v3 := eT t_e102_
    rw [r9 _ _ (by simp)] at v2 v3
    rcases fc with f | ⟨f, f2 | ⟨f2, rr, yy, f3, f4, f5⟩⟩
    · omega
    · rw [r8 (5, 0, 0) 1 (by simp)] at f2; omega
    · rw [r8 (5, 0, 0) 1 (by simp)] at f2
      have dg := digC hT r8 f3 (by omega) f4
      rw [show t_j103_ = 273 + (z.2.2.1 (4, 0, 0) 3).toInt.toNat by omega] at v3
      omega
  · intro x x' r st
    obtain ⟨r1, r2, r3, r4, r5, r6, r7, r8, r9⟩ := r
    unfold NUc at st
    refine xE_ST_X4_readNumber_4 st (fun s_hv0_4 s_hv1_4 _ s_hF_4 s_h2_ s_z20_ s_e21_ s_z22_ s_e23_ s_h24_ s_r45_ s_hs49_ s_z50_ s_h51_ s_h52_ s_h70_ s_z71_ s_h72_ s_z73_ s_h74_ s_z77_ s_h78_ s_M79_ s_hM80_ s_z84_ s_h85_ s_hq_v2_4y s_hq_v1_4y s_hM_ => ?_)
    have w1 := eT s_e21_
    have w2 := eT s_e23_
    rw [r8 _ _ (by simp)] at w2
    have dg := digC hT r8 s_hs49_ (by omega) s_h51_
    rcases fd with f | ⟨f, f2 | ⟨f2, f3⟩⟩
    · omega
    · rw [r9 (50, 0, 0) 4 (by simp)] at f2; omega
    · rw [r9 (50, 0, 0) 4 (by simp)] at f2
      rw [r9 (50, 0, 0) _ (by simp), show (w.2.2.1 (12, 0, 0) 9).toInt.toNat = s_z20_.toInt.toNat by omega] at f3
      omega
end
section
/-! numbers -/
theorem num_fin {e : Int} {C D C2 D2 M3 Da : mM} {x y : Int32 × Int32 × mM} {zc zd : Int32} {s : Int} {W : Nat} {a T : Int} {E : Nat} (hT : TPE C D) (h : POK e C D) (he : e ≤ 0) (r : NUR C D x y) (hy : ¬ y.1.toInt = 0) (h1 : SP_X1_add 3 0 x.2.1 x.2.2 M3) (hz : zc = M3.1 (4, 0, 0) 6) (h2 : C2 = up M3 (4, 0, 0) 6 (zc + (1 : Int32)))
    (d1 : SP_X12_codes y.2.1 s W a T E y.2.2 Da) (dz : zd = Da.1 (12, 0, 0) 12) (d2 : D2 = up Da (12, 0, 0) 12 (zd + (1 : Int32))) : TPE C2 D2 ∧ POK e C2 D2 ∧ (D.1 (12, 0, 0) 9).toInt ≤ (D2.1 (12, 0, 0) 9).toInt := by
  obtain ⟨r1, r2, r3, r4, r5, r6, r7, r8, r9⟩ := r
  have h0 := h
  obtain ⟨-, p2, p3, p4, -, p6, p7, p8, p9, -⟩ := h0
  have T1 := hT.2.1
  have a1 := x1add h1 (by rw [r8 (1, 3, 0) 2 (by simp)]; omega)
  rcases x12codes d1 with g | ⟨g, g1, g2, g3⟩
  · exact absurd (by rw [r9 _ _ (by simp)]; exact p2) g.1
  · have rc : x.2.2.1 (24, 3, 0) = C.1 (24, 3, 0) := funext fun j => r8 _ _ (by simp)
    have rd : y.2.2.1 (57, 0, 0) = D.1 (57, 0, 0) := funext fun j => r9 _ _ (by simp)
    have c1 : ∀ (c : rf) (k : Nat), ¬ c = (24, 3, 0) → ¬ (c = (1, 3, 0) ∧ k = 2) → ¬ (c = (4, 0, 0) ∧ (k = 3 ∨ k = 6)) → C2.1 c k = C.1 c k := fun c k q1 q2 q3 => by
      rw [zupN h2 (fun z => q3 ⟨z.1, Or.inr z.2⟩), a1.2.2 c k q1 q2]; exact r8 c k (fun z => q3 ⟨z.1, Or.inl z.2⟩)
    have e1 : ∀ (c : rf) (k : Nat), ¬ c = (57, 0, 0) → ¬ (c = (12, 0, 0) ∧ (k = 9 ∨ k = 12 ∨ k = 14)) → D2.1 c k = D.1 c k := fun c k q1 q3 => by
      rw [zupN d2 (fun z => q3 ⟨z.1, Or.inr (Or.inl z.2)⟩), g3 c k q1 (fun z => q3 ⟨z.1, Or.inr (Or.inr z.2)⟩)]; exact r9 c k (fun z => q3 ⟨z.1, Or.inl z.2⟩)
    have D9 : (D2.1 (12, 0, 0) 9).toInt = (D.1 (12, 0, 0) 9).toInt + y.1.toInt := by rw [zupN d2 (by simp), g3 _ _ (by simp) (by simp)]; exact r6
    have c14 : y.2.2.1 (12, 0, 0) 14 = D.1 (12, 0, 0) 14 := r9 _ _ (by simp)
    refine ⟨?_, POK_mk (p := (D.1 (12, 0, 0) 9).toInt + y.1.toInt) (v := x.2.1) (w := y.2.1) h (by omega) ⟨?_, ?_, c1 _ _ (by simp) (by simp) (by simp), c1 _ _ (by simp) (by simp) (by simp), ?_, ?_⟩ ⟨D9, ?_, by rw [e1 _ _ (by simp) (by simp)]; exact p2, e1 _ _ (by simp) (by simp), e1 _ _ (by simp) (by simp), ?_, ?_, e1 _ _ (by simp) (by simp)⟩ ?_ ?_ (by omega), by omega⟩
    · unfold TPE
      rw [c1 _ _ (by simp) (by simp) (by simp), c1 (4, 0, 0) 2 (by simp) (by simp) (by simp), e1 (50, 0, 0) 4 (by simp) (by simp), e1 (12, 0, 0) 10 (by simp) (by simp)]
      refine ⟨hT.1, hT.2.1, fun i hi => ?_, hT.2.2.2⟩
      rw [c1 _ _ (by simp) (by simp) (by simp), e1 _ _ (by simp) (by simp)]
      exact hT.2.2.1 i hi
    · rw [zupN h2 (by simp), a1.2.2 _ _ (by simp) (by simp)]; exact r5
    · rw [zupE h2 rfl rfl, hz, a1.2.2 _ _ (by simp) (by simp), r8 _ _ (by simp)]
    · rw [zupN h2 (by simp), a1.1, r8 (1, 3, 0) 2 (by simp)]
    · rw [show C2.1 (24, 3, 0) = M3.1 (24, 3, 0) from funext fun j => zupN h2 (by simp), a1.2.1, rc, r8 (1, 3, 0) 2 (by simp)]
    · rw [zupE d2 rfl rfl, dz, g3 _ _ (by simp) (by simp), r9 _ _ (by simp)]
    · rw [zupN d2 (by simp), g1, c14]
    · rw [show D2.1 (57, 0, 0) = Da.1 (57, 0, 0) from funext fun j => zupN d2 (by simp), g2, rd, c14]
    · rw [r3, cmI_lo (by omega)]
    · exact ⟨by omega, fun _ => by omega⟩
theorem number_both {e : Int} {C D C2 D2 Da D0 : mM} {w : Int32 × Int32 × mM} {zd : Int32} {s s' : Int} {W W' : Nat} {a a' T T' : Int} {E : Nat} (hT : TPE C D) (h : POK e C D) (he : e ≤ 0) (h1 : SP_X4_readNumber C C2) (hd : RCH (NUd s W a T D0) ((0 : Int32), (0 : Int32), D) w) (hy : ¬ w.1.toInt = 0)
    (fd : 3 ≤ w.1.toInt ∨ (w.1.toInt < 3 ∧ ((w.2.2.1 (50, 0, 0) 4).toInt ≤ (w.2.2.1 (12, 0, 0) 9).toInt ∨ ((w.2.2.1 (12, 0, 0) 9).toInt < (w.2.2.1 (50, 0, 0) 4).toInt ∧ ¬ (48 ≤ (w.2.2.1 (50, 0, 0) (273 + (w.2.2.1 (12, 0, 0) 9).toInt.toNat)).toInt ∧ (w.2.2.1 (50, 0, 0) (273 + (w.2.2.1 (12, 0, 0) 9).toInt.toNat)).toInt ≤ 57)))))
    (d1 : SP_X12_codes w.2.1 s' W' a' T' E w.2.2 Da) (dz : zd = Da.1 (12, 0, 0) 12) (d2 : D2 = up Da (12, 0, 0) 12 (zd + (1 : Int32))) : TPE C2 D2 ∧ POK e C2 D2 ∧ (D.1 (12, 0, 0) 9).toInt ≤ (D2.1 (12, 0, 0) 9).toInt := by
  have h0 : (C.1 (4, 0, 0) 3).toInt = (D.1 (12, 0, 0) 9).toInt ∧ 0 ≤ (D.1 (12, 0, 0) 9).toInt ∧ (D.1 (12, 0, 0) 9).toInt ≤ (D.1 (50, 0, 0) 4).toInt := ⟨h.2.2.1, h.2.2.2.1⟩
  refine xE_SP_X4_readNumber h1 (fun v2_4 hv0_4 hv1_4 v1_4 M_4 hL_4 _ hF_4 => ⟨(fun h2_ M3_ _ hF7_ hs9_ z11_ e12_ z13_ h14_ M15_ hM16_ hM_ => ?_), (fun h2_ z20_ e21_ z22_ e23_ => ⟨(fun h24_ M26_ _ hF30_ hs32_ z34_ e35_ z36_ h37_ M38_ hM39_ hM_ => ?_), (fun h24_ r45_ hs49_ z50_ h51_ => ⟨(fun h52_ M53_ _ hF57_ hs59_ z61_ e62_ z63_ h64_ M65_ hM66_ hM_ => ?_), (fun h52_ h70_ M86_ _ hF90_ hs92_ z94_ e95_ z96_ h97_ M98_ hM99_ hM_ => ?_)⟩)⟩)⟩)
  · have L := num_lock (z := (v2_4, v1_4, M_4)) (C0 := C) hT h0 hL_4 hd (Or.inl h2_) fd
    exact num_fin hT h he L hy hs9_ e12_ (by rw [hM_, hM16_, h14_]) d1 dz d2
  · have L := num_lock (z := (v2_4, v1_4, M_4)) (C0 := C) hT h0 hL_4 hd (Or.inr ⟨h2_, Or.inl (by rw [← e21_, ← e23_]; exact h24_)⟩) fd
    exact num_fin hT h he L hy hs32_ e35_ (by rw [hM_, hM39_, h37_]) d1 dz d2
  · have L := num_lock (z := (v2_4, v1_4, M_4)) (C0 := C) hT h0 hL_4 hd (Or.inr ⟨h2_, Or.inr ⟨by rw [← e21_, ← e23_]; exact h24_, r45_, z50_, by rw [← e21_]; exact hs49_, h51_, Or.inl h52_⟩⟩) fd
    exact num_fin hT h he L hy hs59_ e62_ (by rw [hM_, hM66_, h64_]) d1 dz d2
  · have L := num_lock (z := (v2_4, v1_4, M_4)) (C0 := C) hT h0 hL_4 hd (Or.inr ⟨h2_, Or.inr ⟨by rw [← e21_, ← e23_]; exact h24_, r45_, z50_, by rw [← e21_]; exact hs49_, h51_, Or.inr h70_⟩⟩) fd
    exact num_fin hT h he L hy hs92_ e95_ (by rw [hM_, hM99_, h97_]) d1 dz d2
/-! fails -/
theorem PBD_bad {e : Int} {C D C2 D2 : mM} (hT : TPE C D) (h : POK e C D) (hc : SP_X4_fail C C2) (k13 : ¬ (D2.1 (12, 0, 0) 13).toInt = 0) (kd : ∀ (c : rf) (k : Nat), ¬ (c = (12, 0, 0) ∧ k = 13) → D2.1 c k = D.1 c k) : PRX e C C2 D D2 := by
  obtain ⟨p1, p2, p3, p4, -⟩ := h
  rcases x4fail hc with f | f
  · omega
  · refine ⟨⟨?_, Or.inr ?_⟩, by rw [kd (12, 0, 0) 9 (by simp)]; exact Int.le_refl _⟩
    · unfold TPE
      rw [zupR f.2 (by simp), zupN (k' := 2) f.2 (by simp), kd (50, 0, 0) 4 (by simp), kd (12, 0, 0) 10 (by simp)]
      refine ⟨hT.1, hT.2.1, fun i hi => ?_, hT.2.2.2⟩
      rw [zupR f.2 (by simp), kd _ _ (by simp)]
      exact hT.2.2.1 i hi
    · unfold PBD
      rw [zupE f.2 rfl rfl, kd (12, 0, 0) 9 (by simp), kd (50, 0, 0) 4 (by simp)]
      omega
/-- in a wrong text nothing more is read -/
theorem PBD_keep {e : Int} {C D C2 D2 : mM} (hT : TPE C2 D2) (h : PBD C D) (kc : C2.1 (4, 0, 0) 4 = C.1 (4, 0, 0) 4) (k13 : ¬ (D2.1 (12, 0, 0) 13).toInt = 0) (k9 : D2.1 (12, 0, 0) 9 = D.1 (12, 0, 0) 9) (k4 : D2.1 (50, 0, 0) 4 = D.1 (50, 0, 0) 4) : PRX e C C2 D D2 := by
  refine ⟨⟨hT, Or.inr ?_⟩, by rw [k9]; exact Int.le_refl _⟩
  unfold PBD at h ⊢
  rw [kc, k9, k4]
  exact ⟨h.1, k13, h.2.2⟩
/-! names -/
theorem nm_fin {e : Int} {C D C2 D2 Ma M3 Da Db Dc : mM} {z r zc z0 v w zd zp zq : Int32} {s : Int} {W : Nat} {a T : Int} {E : Nat} (hT : TPE C D) (h : POK e C D) (he : e ≤ 0) (qN : (D.1 (12, 0, 0) 9).toInt < (D.1 (50, 0, 0) 4).toInt) (zr : z = r) (hr : 0 ≤ r.toInt ∧ r.toInt < (nnU (D.1 (12, 0, 0) 10).toInt.toNat : Int) ∧ r.toInt ≤ 4)
    (a0 : z0 = C.1 (4, 0, 0) 3) (a1 : Ma = up C (4, 0, 0) 3 (z0 + (1 : Int32))) (av : v = (1000 : Int32) + z) (a2 : SP_X1_add 3 0 v Ma M3) (hz : zc = M3.1 (4, 0, 0) 6) (h2 : C2 = up M3 (4, 0, 0) 6 (zc + (1 : Int32)))
    (b1 : Da = up D (12, 0, 0) 13 0) (bw : w.toInt = 1000 + r.toInt) (d1 : SP_X12_codes w s W a T E Da Db) (dz : zd = Db.1 (12, 0, 0) 12) (d2 : Dc = up Db (12, 0, 0) 12 (zd + (1 : Int32))) (bp : zp = Dc.1 (12, 0, 0) 9) (bq : zq.toInt = zp.toInt + 1) (d3 : D2 = up Dc (12, 0, 0) 9 zq) : PRX e C C2 D D2 := by
  have q0 := il_0
  have q1k : (1000 : Int32).toInt = 1000 := by decide
  have h0 := h
  obtain ⟨-, p2, p3, p4, -, p6, p7, p8, p9, -⟩ := h0
  have T1 := hT.2.1
  have x1 := x1add a2 (by rw [a1, up_other _ _ (by simp)]; omega)
  rcases x12codes d1 with g | ⟨g, g1, g2, g3⟩
  · exact absurd (by rw [b1, up_same]; exact q0) g.1
  · have ky : ∀ (c : rf) (k : Nat), ¬ (c = (4, 0, 0) ∧ k = 3) → Ma.1 c k = C.1 c k := fun c k q => zupN a1 q
    have kx : ∀ (c : rf) (k : Nat), ¬ (c = (12, 0, 0) ∧ k = 13) → Da.1 c k = D.1 c k := fun c k q => zupN b1 q
    have rc : Ma.1 (24, 3, 0) = C.1 (24, 3, 0) := funext fun j => ky _ _ (by simp)
    have rd : Da.1 (57, 0, 0) = D.1 (57, 0, 0) := funext fun j => kx _ _ (by simp)
    have c1 : ∀ (c : rf) (k : Nat), ¬ c = (24, 3, 0) → ¬ (c = (1, 3, 0) ∧ k = 2) → ¬ (c = (4, 0, 0) ∧ (k = 3 ∨ k = 6)) → C2.1 c k = C.1 c k := fun c k q1 q2 q3 => by
      rw [zupN h2 (fun z => q3 ⟨z.1, Or.inr z.2⟩), x1.2.2 c k q1 q2]; exact ky c k (fun z => q3 ⟨z.1, Or.inl z.2⟩)
    have e1 : ∀ (c : rf) (k : Nat), ¬ c = (57, 0, 0) → ¬ (c = (12, 0, 0) ∧ (k = 9 ∨ k = 12 ∨ k = 13 ∨ k = 14)) → D2.1 c k = D.1 c k := fun c k q1 q3 => by
      rw [zupN d3 (fun z => q3 ⟨z.1, Or.inl z.2⟩), zupN d2 (fun z => q3 ⟨z.1, Or.inr (Or.inl z.2)⟩), g3 c k q1 (fun z => q3 ⟨z.1, Or.inr (Or.inr (Or.inr z.2))⟩)]; exact kx c k (fun z => q3 ⟨z.1, Or.inr (Or.inr (Or.inl z.2))⟩)
    have z9 : zp.toInt = (D.1 (12, 0, 0) 9).toInt := by rw [bp, zupN d2 (by simp), g3 _ _ (by simp) (by simp), kx _ _ (by simp)]
    have D9 : (D2.1 (12, 0, 0) 9).toInt = (D.1 (12, 0, 0) 9).toInt + 1 := by rw [zupE d3 rfl rfl]; omega
    have zz := eT a0
    have K : POK e C2 D2 := POK_mk (p := (D.1 (12, 0, 0) 9).toInt + 1) (v := v) (w := w) h (by omega) ⟨by rw [zupN h2 (by simp), x1.2.2 _ _ (by simp) (by simp), zupE a1 rfl rfl, addI (x := z0) rfl il_1 (by omega) (by omega)]; omega, by rw [zupE h2 rfl rfl, hz, x1.2.2 _ _ (by simp) (by simp), ky _ _ (by simp)], c1 _ _ (by simp) (by simp) (by simp), c1 _ _ (by simp) (by simp) (by simp), by rw [zupN h2 (by simp), x1.1, ky _ _ (by simp)], by rw [show C2.1 (24, 3, 0) = M3.1 (24, 3, 0) from funext fun j => zupN h2 (by simp), x1.2.1, rc, ky _ _ (by simp)]⟩
      ⟨D9, by rw [zupN d3 (by simp), zupE d2 rfl rfl, dz, g3 _ _ (by simp) (by simp), kx _ _ (by simp)], by rw [zupN d3 (by simp), zupN d2 (by simp), g3 _ _ (by simp) (by simp), b1, up_same]; exact q0, e1 _ _ (by simp) (by simp), e1 _ _ (by simp) (by simp), by rw [zupN d3 (by simp), zupN d2 (by simp), g1, kx _ _ (by simp)], by rw [show D2.1 (57, 0, 0) = Db.1 (57, 0, 0) from funext fun j => by rw [zupN d3 (by simp), zupN d2 (by simp)], g2, rd, kx (12, 0, 0) 14 (by simp)], e1 _ _ (by simp) (by simp)⟩
      (by rw [av, addI q1k (show z.toInt = r.toInt by rw [zr]) (by omega) (by omega), bw, cmI_lo (by omega)]) ⟨by omega, fun _ => by omega⟩ (by omega)
    refine ⟨⟨?_, Or.inl K⟩, by omega⟩
    unfold TPE
    rw [c1 _ _ (by simp) (by simp) (by simp), c1 (4, 0, 0) 2 (by simp) (by simp) (by simp), e1 (50, 0, 0) 4 (by simp) (by simp), e1 (12, 0, 0) 10 (by simp) (by simp)]
    refine ⟨hT.1, hT.2.1, fun i hi => ?_, hT.2.2.2⟩
    rw [c1 _ _ (by simp) (by simp) (by simp), e1 _ _ (by simp) (by simp)]
    exact hT.2.2.1 i hi

def NAg (z : Int32) (C C2 : mM) : Prop := ∃ (z0 w zc : Int32) (Ma M3 : mM), z0 = C.1 (4, 0, 0) 3 ∧ Ma = up C (4, 0, 0) 3 (z0 + (1 : Int32)) ∧ w = (1000 : Int32) + z ∧ SP_X1_add 3 0 w Ma M3 ∧ zc = M3.1 (4, 0, 0) 6 ∧ C2 = up M3 (4, 0, 0) 6 (zc + (1 : Int32))
theorem name_c {v : Int32} {C C2 : mM} {u : Nat} (h : SP_X4_readName v C C2) (hu : (C.1 (4, 0, 0) 2).toInt = (u : Int) + 1) : (((v.toInt < 0 ∨ 127 < v.toInt) ∨ ∀ j : Nat, j < nnU u → ¬ (nmL u j).toInt = v.toInt) ∧ SP_X4_fail C C2) ∨ ((0 ≤ v.toInt ∧ v.toInt ≤ 127) ∧ ∃ z : Int32, (0 ≤ z.toInt ∧ z.toInt < (nnU u : Int) ∧ (nmL u z.toInt.toNat).toInt = v.toInt) ∧ NAg z C C2) := by
  have q1 := il_1
  have q2 : (2 : Int32).toInt = 2 := by decide
  have q3 : (3 : Int32).toInt = 3 := by decide
  refine xE_SP_X4_readName h ⟨(fun h1_ M3_ _ hF7_ hs9_ hM_ => ?_), (fun h1_ => ⟨(fun h12_ => ⟨(fun h13_ z14_ h15_ z16_ z16_h => ⟨(fun h17_ z18_ e19_ z20_ h21_ M22_ hM23_ z28_ h29_ _ M30_ _ hF34_ hs36_ z39_ e40_ z41_ h42_ M43_ hM44_ hM_ => ?_), (fun h17_ M49_ _ hF53_ hs55_ hM_ => ?_)⟩), (fun h13_ z58_ h59_ z60_ z60_h => ⟨(fun h61_ z62_ e63_ z64_ h65_ M66_ hM67_ z72_ h73_ _ M74_ _ hF78_ hs80_ z83_ e84_ z85_ h86_ M87_ hM88_ hM_ => ?_), (fun h61_ M93_ _ hF97_ hs99_ hM_ => ?_)⟩), (fun h13_ z102_ h103_ z104_ z104_h => ⟨(fun h105_ z106_ e107_ z108_ h109_ M110_ hM111_ z116_ h117_ _ M118_ _ hF122_ hs124_ z127_ e128_ z129_ h130_ M131_ hM132_ hM_ => ?_), (fun h105_ M137_ _ hF141_ hs143_ hM_ => ?_)⟩)⟩), (fun h12_ M147_ _ hF151_ hs153_ hM_ => ?_)⟩)⟩
  · left
    exact ⟨Or.inl (Or.inl h1_), by rw [hM_]; exact hs9_⟩
  · obtain rfl : u = 0 := by have := eT h13_; omega
    rw [h15_, b16 ⟨h1_, h12_⟩] at z16_h
    have nm := ixo0 z16_h ⟨h1_, h12_⟩
    rcases nm with nm | nm
    · right
      exact ⟨⟨h1_, h12_⟩, z16_, ⟨nm.1, by rw [show nnU 0 = 4 by decide]; exact nm.2.1, nm.2.2⟩, z18_, z28_, z39_, M22_, M30_, e19_, by rw [hM23_, h21_], h29_, hs36_, e40_, by rw [hM_, hM44_, h42_]⟩
    · omega
  · obtain rfl : u = 0 := by have := eT h13_; omega
    rw [h15_, b16 ⟨h1_, h12_⟩] at z16_h
    have nm := ixo0 z16_h ⟨h1_, h12_⟩
    rcases nm with nm | nm
    · omega
    · left
      exact ⟨Or.inr (by rw [show nnU 0 = 4 by decide]; exact nm.2), by rw [hM_]; exact hs55_⟩
  · obtain rfl : u = 1 := by have := eT h13_; omega
    rw [h59_, b16 ⟨h1_, h12_⟩] at z60_h
    have nm := ixo1 z60_h ⟨h1_, h12_⟩
    rcases nm with nm | nm
    · right
      exact ⟨⟨h1_, h12_⟩, z60_, ⟨nm.1, by rw [show nnU 1 = 3 by decide]; exact nm.2.1, nm.2.2⟩, z62_, z72_, z83_, M66_, M74_, e63_, by rw [hM67_, h65_], h73_, hs80_, e84_, by rw [hM_, hM88_, h86_]⟩
    · omega
  · obtain rfl : u = 1 := by have := eT h13_; omega
    rw [h59_, b16 ⟨h1_, h12_⟩] at z60_h
    have nm := ixo1 z60_h ⟨h1_, h12_⟩
    rcases nm with nm | nm
    · omega
    · left
      exact ⟨Or.inr (by rw [show nnU 1 = 3 by decide]; exact nm.2), by rw [hM_]; exact hs99_⟩
  · obtain rfl : u = 2 := by have := eT h13_; omega
    rw [h103_, b16 ⟨h1_, h12_⟩] at z104_h
    have nm := ixo2 z104_h ⟨h1_, h12_⟩
    rcases nm with nm | nm
    · right
      exact ⟨⟨h1_, h12_⟩, z104_, ⟨nm.1, by rw [show nnU 2 = 5 by decide]; exact nm.2.1, nm.2.2⟩, z106_, z116_, z127_, M110_, M118_, e107_, by rw [hM111_, h109_], h117_, hs124_, e128_, by rw [hM_, hM132_, h130_]⟩
    · omega
  · obtain rfl : u = 2 := by have := eT h13_; omega
    rw [h103_, b16 ⟨h1_, h12_⟩] at z104_h
    have nm := ixo2 z104_h ⟨h1_, h12_⟩
    rcases nm with nm | nm
    · omega
    · left
      exact ⟨Or.inr (by rw [show nnU 2 = 5 by decide]; exact nm.2), by rw [hM_]; exact hs143_⟩
  · left
    exact ⟨Or.inl (Or.inr h12_), by rw [hM_]; exact hs153_⟩
end
section
/-! opened -/
theorem PRL_mono {e e2 : Int} {C D : mM} (h : PRL e C D) (he : e ≤ e2) : PRL e2 C D := by
  rcases h with ⟨t, h | h⟩
  · exact ⟨t, Or.inl (POK_mono h he)⟩
  · exact ⟨t, Or.inr h⟩
theorem TPE_kc {C D C2 D2 : mM} (hT : TPE C D) (kc : ∀ (c : rf) (k : Nat), ¬ (c = (4, 0, 0) ∧ ¬ k = 2) → C2.1 c k = C.1 c k) (kd : ∀ (c : rf) (k : Nat), ¬ (c = (12, 0, 0) ∧ ¬ k = 10) → D2.1 c k = D.1 c k) : TPE C2 D2 := by
  unfold TPE
  rw [kc _ _ (by simp), kc (4, 0, 0) 2 (by simp), kd (50, 0, 0) 4 (by simp), kd (12, 0, 0) 10 (by simp)]
  refine ⟨hT.1, hT.2.1, fun i hi => ?_, hT.2.2.2⟩
  rw [kc _ _ (by simp), kd _ _ (by simp)]
  exact hT.2.2.1 i hi
theorem PRL_open {e : Int} {C D C9 C20 D7 D30 D47 : mM} {z1 z7 z16 z24 z28 z40 z45 : Int32} (hT : TPE C D) (h : POK e C D) (qN : (D.1 (12, 0, 0) 9).toInt < (D.1 (50, 0, 0) 4).toInt)
    (a1 : z1 = C.1 (4, 0, 0) 5) (a2 : z7.toInt = z1.toInt + 1) (a3 : C9 = up C (4, 0, 0) 5 z7) (a4 : z16 = C9.1 (4, 0, 0) 3) (a5 : C20 = up C9 (4, 0, 0) 3 (z16 + (1 : Int32)))
    (b1 : D7 = up D (12, 0, 0) 13 0) (b2 : z24 = D7.1 (12, 0, 0) 11) (b3 : z28.toInt = z24.toInt + 1) (b4 : D30 = up D7 (12, 0, 0) 11 z28) (b5 : z40 = D30.1 (12, 0, 0) 9) (b6 : z45.toInt = z40.toInt + 1) (b7 : D47 = up D30 (12, 0, 0) 9 z45) : PRL (e - 1) C20 D47 ∧ (D47.1 (12, 0, 0) 9).toInt = (D.1 (12, 0, 0) 9).toInt + 1 := by
  have q0 := il_0
  obtain ⟨p1, p2, p3, p4, p5, p6, p7, p8, p9, p10⟩ := h
  have T1 := hT.2.1
  have kc : ∀ (c : rf) (k : Nat), ¬ (c = (4, 0, 0) ∧ (k = 3 ∨ k = 5)) → C20.1 c k = C.1 c k := fun c k q => by
    rw [zupN a5 (fun z => q ⟨z.1, Or.inl z.2⟩), zupN a3 (fun z => q ⟨z.1, Or.inr z.2⟩)]
  have kd : ∀ (c : rf) (k : Nat), ¬ (c = (12, 0, 0) ∧ (k = 9 ∨ k = 11 ∨ k = 13)) → D47.1 c k = D.1 c k := fun c k q => by
    rw [zupN b7 (fun z => q ⟨z.1, Or.inl z.2⟩), zupN b4 (fun z => q ⟨z.1, Or.inr (Or.inl z.2)⟩), zupN b1 (fun z => q ⟨z.1, Or.inr (Or.inr z.2)⟩)]
  have y1 := eT a1
  have y2 : z16.toInt = (D.1 (12, 0, 0) 9).toInt := by rw [a4, zupN a3 (by simp)]; exact p3
  have y3 : z24.toInt = (D.1 (12, 0, 0) 11).toInt := by rw [b2, zupN b1 (by simp)]
  have y4 : z40.toInt = (D.1 (12, 0, 0) 9).toInt := by rw [b5, zupN b4 (by simp), zupN b1 (by simp)]
  have C3 : (C20.1 (4, 0, 0) 3).toInt = (D.1 (12, 0, 0) 9).toInt + 1 := by rw [zupE a5 rfl rfl, addI (x := z16) rfl il_1 (by omega) (by omega)]; omega
  have C5 : (C20.1 (4, 0, 0) 5).toInt = z7.toInt := by rw [zupN a5 (by simp), zupE a3 rfl rfl]
  have D9 : (D47.1 (12, 0, 0) 9).toInt = (D.1 (12, 0, 0) 9).toInt + 1 := by rw [zupE b7 rfl rfl]; omega
  have D11 : (D47.1 (12, 0, 0) 11).toInt = z28.toInt := by rw [zupN b7 (by simp), zupE b4 rfl rfl]
  have D13 : (D47.1 (12, 0, 0) 13).toInt = 0 := by rw [zupN b7 (by simp), zupN b4 (by simp), zupE b1 rfl rfl]; exact q0
  refine ⟨⟨TPE_kc hT (fun c k q => kc c k (fun z => q ⟨z.1, by omega⟩)) (fun c k q => kd c k (fun z => q ⟨z.1, by omega⟩)), Or.inl ?_⟩, D9⟩
  unfold POK
  rw [kc (4, 0, 0) 4 (by simp), kc (4, 0, 0) 6 (by simp), kc (1, 3, 0) 2 (by simp), kd (12, 0, 0) 12 (by simp), kd (12, 0, 0) 14 (by simp), kd (12, 0, 0) 10 (by simp), kd (50, 0, 0) 4 (by simp)]
  refine ⟨p1, D13, by omega, by omega, p5, p6, p7, by omega, by omega, fun i hi => ?_⟩
  rw [kc _ _ (by simp), kd _ _ (by simp)]
  exact p10 i hi
theorem PRX_close {e : Int} {C C2 C3 D D2 D3 : mM} {z z' : Int32} (h : PRX e C C2 D D2) (hc : C3 = up C2 (4, 0, 0) 5 z) (hd : D3 = up D2 (12, 0, 0) 11 z') (hz : (C2.1 (4, 0, 0) 5).toInt = (D2.1 (12, 0, 0) 11).toInt → z.toInt = z'.toInt) : PRX e C C3 D D3 := by
  obtain ⟨⟨t, h⟩, h9⟩ := h
  refine ⟨⟨TPE_kc t (fun c k q => zupN hc (fun y => q ⟨y.1, by omega⟩)) (fun c k q => zupN hd (fun y => q ⟨y.1, by omega⟩)), ?_⟩, by rw [zupN hd (by simp)]; exact h9⟩
  rcases h with h | h
  · left
    obtain ⟨p1, p2, p3, p4, p5, p6, p7, p8, p9, p10⟩ := h
    unfold POK
    rw [zupN (k' := 4) hc (by simp), zupN (k' := 3) hc (by simp), zupN (k' := 6) hc (by simp), zupR (c' := (1, 3, 0)) hc (by simp), zupE (k' := 5) hc rfl rfl, zupN (k' := 13) hd (by simp), zupN (k' := 9) hd (by simp), zupN (k' := 12) hd (by simp), zupN (k' := 14) hd (by simp), zupN (k' := 10) hd (by simp), zupE (k' := 11) hd rfl rfl, zupR (c' := (50, 0, 0)) hd (by simp)]
    refine ⟨p1, p2, p3, p4, p5, p6, p7, p8, hz p9, fun i hi => ?_⟩
    rw [zupR hc (by simp), zupR hd (by simp)]
    exact p10 i hi
  · right
    unfold PBD at h ⊢
    rw [zupN (k' := 4) hc (by simp), zupN (k' := 13) hd (by simp), zupN (k' := 9) hd (by simp), zupR (c' := (50, 0, 0)) hd (by simp)]
    exact h
theorem opened_both {N N2 m : Nat} {QA QB QA2 QB2 : mM → mM → Prop} (hA : BOTH QA QA2) (hB : BOTH QB QB2) {e : Int} {v : Int32} {s : Int} {W : Nat} {a T : Int} {C C2 D D2 : mM} (h1 : SP_X4_readOpened N m QA QB v C C2) (h2 : SP_X12_opens N2 m QA2 QB2 v s W a T D D2) (hT : TPE C D) (h : POK e C D) (he : e ≤ 0) (qN : (D.1 (12, 0, 0) 9).toInt < (D.1 (50, 0, 0) 4).toInt) : PRX e C C2 D D2 := by
  have q0 := il_0
  have q1 := il_1
  have i41 : (41 : Int32).toInt = 41 := by decide
  have i58 : (58 : Int32).toInt = 58 := by decide
  have i63 : (63 : Int32).toInt = 63 := by decide
  have i93 : (93 : Int32).toInt = 93 := by decide
  have i9 : (2009 : Int32).toInt = 2009 := by decide
  have i8 : (2008 : Int32).toInt = 2008 := by decide
  have c9 : (2063 : Int32).toInt = cmI 2009 := by decide
  have c8 : (2126 : Int32).toInt = cmI 2008 := by decide
  have dep := h.2.2.2.2.2.2.2.2.1
  refine xE_SP_X4_readOpened h1 (fun c_z1_ c_e2_ c_h3_ => ⟨(fun c_h4_ c_z7_ c_h8_ c_M9_ c_hM10_ c_z16_ c_e17_ c_z18_ c_h19_ c_M20_ c_hM21_ => ⟨(fun c_h27_ => ⟨(fun c_h28_ _ c_M29_ _ c_hF33_ c_hs35_ c_h31_ c_M38_ _ c_hF42_ c_hs44_ c_M48_ _ c_hF52_ c_hs54_ c_h50_ c_M57_ _ c_hF61_ c_hs63_ c_M67_ _ c_hF71_ c_hs73_ c_h69_ c_M76_ _ c_hF80_ c_hs82_ c_M86_ _ c_hF90_ c_hs92_ c_z96_ c_e97_ c_h98_ c_z99_ c_h100_ c_M101_ c_hM102_ c_hM_ => ?_), (fun c_h28_ _ c_M108_ _ c_hF112_ c_hs114_ c_h110_ c_M117_ _ c_hF121_ c_hs123_ c_z127_ c_e128_ c_h129_ c_z130_ c_h131_ c_M132_ c_hM133_ c_hM_ => ?_)⟩), (fun c_h27_ _ c_M139_ _ c_hF143_ c_hs145_ c_h141_ c_M148_ _ c_hF152_ c_hs154_ c_z158_ c_e159_ c_h160_ c_z161_ c_h162_ c_M163_ c_hM164_ c_hM_ => ?_)⟩), (fun c_h4_ c_M170_ _ c_hF174_ c_hs176_ c_hM_ => ?_)⟩)
  · refine xE_SP_X12_opens h2 (fun d_z2_ d_e3_ d_h4_ d_h5_ => ⟨(fun d_h6_ d_M7_ d_hM8_ d_z17_ d_e18_ d_h19_ d_h20_ d_h21_ d_h22_ d_h23_ d_z24_ d_e25_ d_h26_ d_h27_ d_z28_ d_h29_ d_M30_ d_hM31_ d_z40_ d_e41_ d_h42_ d_h43_ d_h44_ d_z45_ d_h46_ d_M47_ d_hM48_ => ⟨(fun d_h55_ => ⟨(fun d_h56_ _ d_M57_ _ d_hF61_ d_hs63_ d_M66_ _ d_hF70_ d_hs72_ d_M74_ _ d_hF78_ d_hs80_ d_M83_ _ d_hF87_ d_hs89_ d_M91_ _ d_hF95_ d_hs97_ d_M100_ _ d_hF104_ d_hs106_ d_M108_ _ d_hF112_ d_hs114_ d_h110_ d_z116_ d_e117_ d_h118_ d_h119_ d_z120_ d_h121_ d_M122_ d_hM123_ d_hM_ => ?_), (fun d_h56_ _ d_M128_ _ d_hF132_ d_hs134_ d_M137_ _ d_hF141_ d_hs143_ d_h139_ d_z145_ d_e146_ d_h147_ d_h148_ d_z149_ d_h150_ d_M151_ d_hM152_ d_hM_ => ?_)⟩), (fun d_h55_ _ d_M157_ _ d_hF161_ d_hs163_ d_M166_ _ d_hF170_ d_hs172_ d_h168_ d_z174_ d_e175_ d_h176_ d_h177_ d_z178_ d_h179_ d_M180_ d_hM181_ d_hM_ => ?_)⟩), (fun d_h6_ d_M186_ d_hM187_ d_h193_ d_z196_ d_e197_ d_h198_ d_h199_ d_h200_ d_h201_ d_hM_ => ?_)⟩)
    · have op := PRL_open hT h qN c_e2_ c_h8_ c_hM10_ c_e17_ (show c_M20_ = up c_M9_ (4, 0, 0) 3 (c_z16_ + (1 : Int32)) by rw [c_hM21_, c_h19_]) d_hM8_ d_e25_ d_h29_ d_hM31_ d_e41_ d_h46_ d_hM48_
      have a1 := hB (e - 1) _ _ _ _ (by omega) op.1 c_hs35_ d_hs63_ c_hF33_ d_hF61_
      have a2 := expect_both c_hs44_ d_hs72_ (by omega) a1.1 c_hF42_ d_hF70_
      have a3 := hB (e - 1) _ _ _ _ (by omega) a2.1 c_hs54_ d_hs80_ c_hF52_ d_hF78_
      have a4 := expect_both c_hs63_ d_hs89_ (by omega) a3.1 c_hF61_ d_hF87_
      have a5 := hB (e - 1) _ _ _ _ (by omega) a4.1 c_hs73_ d_hs97_ c_hF71_ d_hF95_
      have a6 := expect_both c_hs82_ d_hs106_ (by omega) a5.1 c_hF80_ d_hF104_
      have a7 := PRL_code a6.1 he c_hs92_ d_hs114_ (by rw [i9]; exact c9) (by omega)
      have w1 := eT c_e97_
      have w2 := eT d_e117_
      rw [c_hM_, d_hM_]
      refine PRX_close ⟨a7.1, ?_⟩ c_hM102_ d_hM123_ (fun q => by omega)
      have := op.2
      have := a1.2
      have := a2.2
      have := a3.2
      have := a4.2
      have := a5.2
      have := a6.2
      have := a7.2
      omega
    · omega
    · omega
    · have := eT c_e2_
      have := eT d_e3_
      omega
  · refine xE_SP_X12_opens h2 (fun d_z2_ d_e3_ d_h4_ d_h5_ => ⟨(fun d_h6_ d_M7_ d_hM8_ d_z17_ d_e18_ d_h19_ d_h20_ d_h21_ d_h22_ d_h23_ d_z24_ d_e25_ d_h26_ d_h27_ d_z28_ d_h29_ d_M30_ d_hM31_ d_z40_ d_e41_ d_h42_ d_h43_ d_h44_ d_z45_ d_h46_ d_M47_ d_hM48_ => ⟨(fun d_h55_ => ⟨(fun d_h56_ _ d_M57_ _ d_hF61_ d_hs63_ d_M66_ _ d_hF70_ d_hs72_ d_M74_ _ d_hF78_ d_hs80_ d_M83_ _ d_hF87_ d_hs89_ d_M91_ _ d_hF95_ d_hs97_ d_M100_ _ d_hF104_ d_hs106_ d_M108_ _ d_hF112_ d_hs114_ d_h110_ d_z116_ d_e117_ d_h118_ d_h119_ d_z120_ d_h121_ d_M122_ d_hM123_ d_hM_ => ?_), (fun d_h56_ _ d_M128_ _ d_hF132_ d_hs134_ d_M137_ _ d_hF141_ d_hs143_ d_h139_ d_z145_ d_e146_ d_h147_ d_h148_ d_z149_ d_h150_ d_M151_ d_hM152_ d_hM_ => ?_)⟩), (fun d_h55_ _ d_M157_ _ d_hF161_ d_hs163_ d_M166_ _ d_hF170_ d_hs172_ d_h168_ d_z174_ d_e175_ d_h176_ d_h177_ d_z178_ d_h179_ d_M180_ d_hM181_ d_hM_ => ?_)⟩), (fun d_h6_ d_M186_ d_hM187_ d_h193_ d_z196_ d_e197_ d_h198_ d_h199_ d_h200_ d_h201_ d_hM_ => ?_)⟩)
    · omega
    · have op := PRL_open hT h qN c_e2_ c_h8_ c_hM10_ c_e17_ (show c_M20_ = up c_M9_ (4, 0, 0) 3 (c_z16_ + (1 : Int32)) by rw [c_hM21_, c_h19_]) d_hM8_ d_e25_ d_h29_ d_hM31_ d_e41_ d_h46_ d_hM48_
      have a1 := hB (e - 1) _ _ _ _ (by omega) op.1 c_hs114_ d_hs134_ c_hF112_ d_hF132_
      have a2 := expect_both c_hs123_ d_hs143_ (by omega) a1.1 c_hF121_ d_hF141_
      have w1 := eT c_e128_
      have w2 := eT d_e146_
      rw [c_hM_, d_hM_]
      refine PRX_close ⟨PRL_mono a2.1 (by omega), ?_⟩ c_hM133_ d_hM152_ (fun q => by omega)
      have := op.2
      have := a1.2
      have := a2.2
      omega
    · omega
    · have := eT c_e2_
      have := eT d_e3_
      omega
  · refine xE_SP_X12_opens h2 (fun d_z2_ d_e3_ d_h4_ d_h5_ => ⟨(fun d_h6_ d_M7_ d_hM8_ d_z17_ d_e18_ d_h19_ d_h20_ d_h21_ d_h22_ d_h23_ d_z24_ d_e25_ d_h26_ d_h27_ d_z28_ d_h29_ d_M30_ d_hM31_ d_z40_ d_e41_ d_h42_ d_h43_ d_h44_ d_z45_ d_h46_ d_M47_ d_hM48_ => ⟨(fun d_h55_ => ⟨(fun d_h56_ _ d_M57_ _ d_hF61_ d_hs63_ d_M66_ _ d_hF70_ d_hs72_ d_M74_ _ d_hF78_ d_hs80_ d_M83_ _ d_hF87_ d_hs89_ d_M91_ _ d_hF95_ d_hs97_ d_M100_ _ d_hF104_ d_hs106_ d_M108_ _ d_hF112_ d_hs114_ d_h110_ d_z116_ d_e117_ d_h118_ d_h119_ d_z120_ d_h121_ d_M122_ d_hM123_ d_hM_ => ?_), (fun d_h56_ _ d_M128_ _ d_hF132_ d_hs134_ d_M137_ _ d_hF141_ d_hs143_ d_h139_ d_z145_ d_e146_ d_h147_ d_h148_ d_z149_ d_h150_ d_M151_ d_hM152_ d_hM_ => ?_)⟩), (fun d_h55_ _ d_M157_ _ d_hF161_ d_hs163_ d_M166_ _ d_hF170_ d_hs172_ d_h168_ d_z174_ d_e175_ d_h176_ d_h177_ d_z178_ d_h179_ d_M180_ d_hM181_ d_hM_ => ?_)⟩), (fun d_h6_ d_M186_ d_hM187_ d_h193_ d_z196_ d_e197_ d_h198_ d_h199_ d_h200_ d_h201_ d_hM_ => ?_)⟩)
    · omega
    · omega
    · have op := PRL_open hT h qN c_e2_ c_h8_ c_hM10_ c_e17_ (show c_M20_ = up c_M9_ (4, 0, 0) 3 (c_z16_ + (1 : Int32)) by rw [c_hM21_, c_h19_]) d_hM8_ d_e25_ d_h29_ d_hM31_ d_e41_ d_h46_ d_hM48_
      have a1 := hA (e - 1) _ _ _ _ (by omega) op.1 c_hs145_ d_hs163_ c_hF143_ d_hF161_
      have a7 := PRL_code a1.1 he c_hs154_ d_hs172_ (by rw [i8]; exact c8) (by omega)
      have w1 := eT c_e159_
      have w2 := eT d_e175_
      rw [c_hM_, d_hM_]
      refine PRX_close ⟨a7.1, ?_⟩ c_hM164_ d_hM181_ (fun q => by omega)
      have := op.2
      have := a1.2
      have := a7.2
      omega
    · have := eT c_e2_
      have := eT d_e3_
      omega
  · have w1 := eT c_e2_
    refine xE_SP_X12_opens h2 (fun d_z2_ d_e3_ d_h4_ d_h5_ => ⟨(fun d_h6_ d_M7_ d_hM8_ d_z17_ d_e18_ d_h19_ d_h20_ d_h21_ d_h22_ d_h23_ d_z24_ d_e25_ d_h26_ d_h27_ d_z28_ d_h29_ d_M30_ d_hM31_ d_z40_ d_e41_ d_h42_ d_h43_ d_h44_ d_z45_ d_h46_ d_M47_ d_hM48_ => ⟨(fun d_h55_ => ⟨(fun d_h56_ _ d_M57_ _ d_hF61_ d_hs63_ d_M66_ _ d_hF70_ d_hs72_ d_M74_ _ d_hF78_ d_hs80_ d_M83_ _ d_hF87_ d_hs89_ d_M91_ _ d_hF95_ d_hs97_ d_M100_ _ d_hF104_ d_hs106_ d_M108_ _ d_hF112_ d_hs114_ d_h110_ d_z116_ d_e117_ d_h118_ d_h119_ d_z120_ d_h121_ d_M122_ d_hM123_ d_hM_ => ?_), (fun d_h56_ _ d_M128_ _ d_hF132_ d_hs134_ d_M137_ _ d_hF141_ d_hs143_ d_h139_ d_z145_ d_e146_ d_h147_ d_h148_ d_z149_ d_h150_ d_M151_ d_hM152_ d_hM_ => ?_)⟩), (fun d_h55_ _ d_M157_ _ d_hF161_ d_hs163_ d_M166_ _ d_hF170_ d_hs172_ d_h168_ d_z174_ d_e175_ d_h176_ d_h177_ d_z178_ d_h179_ d_M180_ d_hM181_ d_hM_ => ?_)⟩), (fun d_h6_ d_M186_ d_hM187_ d_h193_ d_z196_ d_e197_ d_h198_ d_h199_ d_h200_ d_h201_ d_hM_ => ?_)⟩)
    · have := eT d_e3_; omega
    · have := eT d_e3_; omega
    · have := eT d_e3_; omega
    · rw [c_hM_, d_hM_]
      exact PBD_bad hT h c_hs176_ (by rw [zupE d_hM187_ rfl rfl, q1]; omega) (fun c k q => zupN d_hM187_ q)
end
section
/-! one -/
theorem PRX_pre {e : Int} {C C' C2 D D' D2 : mM} (h : PRX e C' C2 D' D2) (h9 : (D.1 (12, 0, 0) 9).toInt ≤ (D'.1 (12, 0, 0) 9).toInt) : PRX e C C2 D D2 := ⟨h.1, Int.le_trans h9 h.2⟩
theorem one_start {e : Int} {C M5 D M2 : mM} {r r1 : Int32} {s : Int} {W : Nat} {a T : Int} (hT : TPE C D) (k : POK e C D) (h1 : SP_X4_next C r M5) (h2 : SP_X12_here s W a T D r1 M2) : r = r1 ∧ TPE M5 M2 ∧ POK e M5 M2 ∧ (D.1 (12, 0, 0) 9).toInt ≤ (M2.1 (12, 0, 0) 9).toInt ∧ (0 ≤ r1.toInt → (M2.1 (12, 0, 0) 9).toInt < (M2.1 (50, 0, 0) 4).toInt ∧ (M2.1 (50, 0, 0) (273 + (M2.1 (12, 0, 0) 9).toInt.toNat)).toInt = r1.toInt) := by
  obtain ⟨k1, k2, k3, k4, k5, k6, k7, k8, k9, k10⟩ := k
  have nx := x4next h1 hT (by omega)
  rw [k3] at nx
  obtain ⟨n1, n2, n3⟩ := nx
  rcases x12here h2 k4 with g | ⟨-, g1, g2, g3⟩
  · exact absurd k2 g.1
  · have u := nxT_uniq k4.1 n1 g1
    have g11 := g1.1
    refine ⟨i32e u.2, TPE_kc hT (fun c k q => n3 c k (fun z => q ⟨z.1, by omega⟩)) (fun c k q => g3 c k (fun z => q ⟨z.1, by omega⟩)), ?_, g1.1, fun q => ?_⟩
    · unfold POK
      rw [n3 (4, 0, 0) 4 (by simp), n3 (4, 0, 0) 6 (by simp), n3 (1, 3, 0) 2 (by simp), n3 (4, 0, 0) 5 (by simp), g3 (12, 0, 0) 13 (by simp), g3 (12, 0, 0) 12 (by simp), g3 (12, 0, 0) 14 (by simp), g3 (12, 0, 0) 11 (by simp), g3 (12, 0, 0) 10 (by simp), g3 (50, 0, 0) 4 (by simp)]
      refine ⟨k1, k2, u.1, by omega, k5, k6, k7, by omega, k9, fun i hi => ?_⟩
      rw [n3 _ _ (by simp), g3 _ _ (by simp)]
      exact k10 i hi
    · rw [g3 (50, 0, 0) 4 (by simp), g3 (50, 0, 0) _ (by simp)]
      rcases g1.2.2 with z | z
      · exact ⟨z.1, z.2.1.symm⟩
      · omega
/-- a name on both sides -/
theorem name_both {v : Int32} {C C2 D : mM} (h1 : SP_X4_readName v C C2) (hT : TPE C D) {P : Prop}
    (hbad : SP_X4_fail C C2 → ((v.toInt < 0 ∨ 127 < v.toInt) ∨ ∀ j : Nat, j < nnU (D.1 (12, 0, 0) 10).toInt.toNat → ¬ (nmL (D.1 (12, 0, 0) 10).toInt.toNat j).toInt = v.toInt) → P)
    (hgood : ∀ z : Int32, 0 ≤ z.toInt → z.toInt < (nnU (D.1 (12, 0, 0) 10).toInt.toNat : Int) → (nmL (D.1 (12, 0, 0) 10).toInt.toNat z.toInt.toNat).toInt = v.toInt → NAg z C C2 → P) : P := by
  rcases name_c (u := (D.1 (12, 0, 0) 10).toInt.toNat) h1 (by have := hT.2.2.2; omega) with g | ⟨-, z, g1, g2⟩
  · exact hbad g.2 g.1
  · exact hgood z g1.1 g1.2.1 g1.2.2 g2
theorem one_both {N N2 m : Nat} {QA QB QA2 QB2 : mM → mM → Prop} (hA : BOTH QA QA2) (hB : BOTH QB QB2) : BOTH (SP_X4_readOne N m QA QB) (fun D D2 => ∃ (s : Int) (W : Nat) (a T : Int), SP_X12_one N2 m QA2 QB2 s W a T D D2) := by
  intro e C C2 D D2 he h h1 h2 hf hg
  obtain ⟨s, W, a, T, h2⟩ := h2
  have q0 := il_0
  have q1 := il_1
  have T0 := h.1
  have ab := PRL_at h
  have T2 := TPE_fr T0 hf hg
  rcases h.2 with k | k
  · have k4 := k.1
    refine xE_SP_X4_readOne h1 (fun c_z1_ c_e2_ => ⟨(fun c_h3_ c_M5_ _ c_hF9_ c_r4_ c_hs11_ => ⟨(fun c_h15_ => ⟨(fun c_h16_ c_M17_ _ c_hF21_ c_hs23_ c_h19_ c_hM_ => ?_), (fun c_h16_ => ⟨(fun c_h26_ c_M27_ _ c_hF31_ c_hs33_ c_h29_ c_hM_ => ?_), (fun c_h26_ c_h36_ c_M37_ _ c_hF41_ c_hs43_ c_hM_ => ?_)⟩)⟩), (fun c_h15_ => ⟨(fun c_h47_ c_h48_ c_h49_ => ⟨(fun c_h50_ c_M51_ _ c_hF55_ c_hs57_ c_hM_ => ?_), (fun c_h50_ c_M61_ _ c_hF65_ c_hs67_ c_h63_ c_hM_ => ?_)⟩), (fun c_h47_ c_M70_ _ c_hF74_ c_hs76_ c_hM_ => ?_)⟩)⟩), (fun c_h3_ c_hM_ => ?_)⟩)
    · refine xE_SP_X12_one h2 (fun d_M2_ _ d_hF6_ d_r1_ d_hs8_ d_h11_ => ⟨(fun d_h12_ d_M17_ _ d_hF21_ d_hs23_ d_h24_ d_hM_ => ?_), (fun d_h12_ => ⟨(fun d_h26_ d_M31_ _ d_hF35_ d_hs37_ d_h38_ d_hM_ => ?_), (fun d_h26_ => ⟨(fun d_h40_ => ⟨(fun d_hs45_ d_h44_ d_v3_46 d_hv0_46 d_v2_46 d_hv1_46 d_M_46 d_hv2_46 d_hL_46 _ d_hF_46 => ⟨(fun d_h49_ d_h50_ d_M52_ _ d_hF56_ d_hs58_ d_h54_ d_z60_ d_e61_ d_z62_ d_h63_ d_M64_ d_hM65_ d_hM_ => ?_), (fun d_h49_ d_z70_ d_e71_ d_h72_ d_z73_ d_e74_ d_h75_ => ⟨(fun d_h76_ d_h77_ d_M79_ _ d_hF83_ d_hs85_ d_h81_ d_z87_ d_e88_ d_z89_ d_h90_ d_M91_ d_hM92_ d_hM_ => ?_), (fun d_h76_ d_z99_ d_h100_ d_j103_ d_h104_ d_z101_ d_e102_ d_hs109_ d_h108_ d_h139_ d_M141_ _ d_hF145_ d_hs147_ d_h143_ d_z149_ d_e150_ d_z151_ d_h152_ d_M153_ d_hM154_ d_hM_ => ?_)⟩)⟩), (fun d_hs45_ d_h44_ => ⟨(fun d_h160_ d_r165_ d_hs169_ d_h168_ d_z170_ d_e171_ d_h172_ d_h173_ => ⟨(fun d_h174_ d_M175_ d_hM176_ d_h182_ d_z185_ d_e186_ d_h187_ d_h188_ d_h189_ d_h190_ d_hM_ => ?_), (fun d_h174_ => ⟨(fun d_h191_ d_M192_ d_hM193_ d_z202_ d_e203_ d_h204_ d_h205_ d_h206_ d_h207_ d_z208_ d_h209_ _ d_M210_ _ d_hF214_ d_hs216_ d_z222_ d_e223_ d_z224_ d_h225_ d_M226_ d_hM227_ d_z236_ d_e237_ d_h238_ d_h239_ d_h240_ d_z241_ d_h242_ d_M243_ d_hM244_ d_h250_ d_hM_ => ?_), (fun d_h191_ d_M251_ d_hM252_ d_h258_ d_z261_ d_e262_ d_h263_ d_h264_ d_h265_ d_h266_ d_hM_ => ?_)⟩)⟩), (fun d_h160_ d_z267_ d_e268_ d_h269_ => ⟨(fun d_h270_ d_M271_ d_hM272_ d_h276_ d_z279_ d_e280_ d_h281_ d_h282_ d_h283_ d_h284_ d_hM_ => ?_), (fun d_h270_ d_M286_ d_hM287_ d_h291_ d_z294_ d_e295_ d_h296_ d_h297_ d_h298_ d_h299_ d_hM_ => ?_)⟩)⟩)⟩), (fun d_h40_ d_M304_ _ d_hF308_ d_hs310_ d_h311_ d_hM_ => ?_)⟩)⟩)⟩)
      · obtain ⟨rfl, s1, s2, s3, s4⟩ := one_start T0 k c_hs11_ d_hs8_
        rw [c_hM_, d_hM_]
        exact PRX_pre (opened_both hA hB c_hs23_ d_hs23_ s1 s2 he (s4 (by omega)).1) s3
      · obtain ⟨rfl, s1, s2, s3, s4⟩ := one_start T0 k c_hs11_ d_hs8_
        omega
      · obtain ⟨rfl, s1, s2, s3, s4⟩ := one_start T0 k c_hs11_ d_hs8_
        omega
      · obtain ⟨rfl, s1, s2, s3, s4⟩ := one_start T0 k c_hs11_ d_hs8_
        omega
      · obtain ⟨rfl, s1, s2, s3, s4⟩ := one_start T0 k c_hs11_ d_hs8_
        omega
      · obtain ⟨rfl, s1, s2, s3, s4⟩ := one_start T0 k c_hs11_ d_hs8_
        have := eT d_h173_
        omega
      · obtain ⟨rfl, s1, s2, s3, s4⟩ := one_start T0 k c_hs11_ d_hs8_
        omega
      · obtain ⟨rfl, s1, s2, s3, s4⟩ := one_start T0 k c_hs11_ d_hs8_
        omega
      · obtain ⟨rfl, s1, s2, s3, s4⟩ := one_start T0 k c_hs11_ d_hs8_
        have := eT d_e268_
        have := s2.2.1
        omega
      · obtain ⟨rfl, s1, s2, s3, s4⟩ := one_start T0 k c_hs11_ d_hs8_
        omega
      · obtain ⟨rfl, s1, s2, s3, s4⟩ := one_start T0 k c_hs11_ d_hs8_
        omega
    · refine xE_SP_X12_one h2 (fun d_M2_ _ d_hF6_ d_r1_ d_hs8_ d_h11_ => ⟨(fun d_h12_ d_M17_ _ d_hF21_ d_hs23_ d_h24_ d_hM_ => ?_), (fun d_h12_ => ⟨(fun d_h26_ d_M31_ _ d_hF35_ d_hs37_ d_h38_ d_hM_ => ?_), (fun d_h26_ => ⟨(fun d_h40_ => ⟨(fun d_hs45_ d_h44_ d_v3_46 d_hv0_46 d_v2_46 d_hv1_46 d_M_46 d_hv2_46 d_hL_46 _ d_hF_46 => ⟨(fun d_h49_ d_h50_ d_M52_ _ d_hF56_ d_hs58_ d_h54_ d_z60_ d_e61_ d_z62_ d_h63_ d_M64_ d_hM65_ d_hM_ => ?_), (fun d_h49_ d_z70_ d_e71_ d_h72_ d_z73_ d_e74_ d_h75_ => ⟨(fun d_h76_ d_h77_ d_M79_ _ d_hF83_ d_hs85_ d_h81_ d_z87_ d_e88_ d_z89_ d_h90_ d_M91_ d_hM92_ d_hM_ => ?_), (fun d_h76_ d_z99_ d_h100_ d_j103_ d_h104_ d_z101_ d_e102_ d_hs109_ d_h108_ d_h139_ d_M141_ _ d_hF145_ d_hs147_ d_h143_ d_z149_ d_e150_ d_z151_ d_h152_ d_M153_ d_hM154_ d_hM_ => ?_)⟩)⟩), (fun d_hs45_ d_h44_ => ⟨(fun d_h160_ d_r165_ d_hs169_ d_h168_ d_z170_ d_e171_ d_h172_ d_h173_ => ⟨(fun d_h174_ d_M175_ d_hM176_ d_h182_ d_z185_ d_e186_ d_h187_ d_h188_ d_h189_ d_h190_ d_hM_ => ?_), (fun d_h174_ => ⟨(fun d_h191_ d_M192_ d_hM193_ d_z202_ d_e203_ d_h204_ d_h205_ d_h206_ d_h207_ d_z208_ d_h209_ _ d_M210_ _ d_hF214_ d_hs216_ d_z222_ d_e223_ d_z224_ d_h225_ d_M226_ d_hM227_ d_z236_ d_e237_ d_h238_ d_h239_ d_h240_ d_z241_ d_h242_ d_M243_ d_hM244_ d_h250_ d_hM_ => ?_), (fun d_h191_ d_M251_ d_hM252_ d_h258_ d_z261_ d_e262_ d_h263_ d_h264_ d_h265_ d_h266_ d_hM_ => ?_)⟩)⟩), (fun d_h160_ d_z267_ d_e268_ d_h269_ => ⟨(fun d_h270_ d_M271_ d_hM272_ d_h276_ d_z279_ d_e280_ d_h281_ d_h282_ d_h283_ d_h284_ d_hM_ => ?_), (fun d_h270_ d_M286_ d_hM287_ d_h291_ d_z294_ d_e295_ d_h296_ d_h297_ d_h298_ d_h299_ d_hM_ => ?_)⟩)⟩)⟩), (fun d_h40_ d_M304_ _ d_hF308_ d_hs310_ d_h311_ d_hM_ => ?_)⟩)⟩)⟩)
      · obtain ⟨rfl, s1, s2, s3, s4⟩ := one_start T0 k c_hs11_ d_hs8_
        omega
      · obtain ⟨rfl, s1, s2, s3, s4⟩ := one_start T0 k c_hs11_ d_hs8_
        rw [c_hM_, d_hM_]
        exact PRX_pre (opened_both hA hB c_hs33_ d_hs37_ s1 s2 he (s4 (by omega)).1) s3
      · obtain ⟨rfl, s1, s2, s3, s4⟩ := one_start T0 k c_hs11_ d_hs8_
        omega
      · obtain ⟨rfl, s1, s2, s3, s4⟩ := one_start T0 k c_hs11_ d_hs8_
        omega
      · obtain ⟨rfl, s1, s2, s3, s4⟩ := one_start T0 k c_hs11_ d_hs8_
        omega
      · obtain ⟨rfl, s1, s2, s3, s4⟩ := one_start T0 k c_hs11_ d_hs8_
        have := eT d_h173_
        omega
      · obtain ⟨rfl, s1, s2, s3, s4⟩ := one_start T0 k c_hs11_ d_hs8_
        omega
      · obtain ⟨rfl, s1, s2, s3, s4⟩ := one_start T0 k c_hs11_ d_hs8_
        omega
      · obtain ⟨rfl, s1, s2, s3, s4⟩ := one_start T0 k c_hs11_ d_hs8_
        have := eT d_e268_
        have := s2.2.1
        omega
      · obtain ⟨rfl, s1, s2, s3, s4⟩ := one_start T0 k c_hs11_ d_hs8_
        omega
      · obtain ⟨rfl, s1, s2, s3, s4⟩ := one_start T0 k c_hs11_ d_hs8_
        omega
    · refine xE_SP_X12_one h2 (fun d_M2_ _ d_hF6_ d_r1_ d_hs8_ d_h11_ => ⟨(fun d_h12_ d_M17_ _ d_hF21_ d_hs23_ d_h24_ d_hM_ => ?_), (fun d_h12_ => ⟨(fun d_h26_ d_M31_ _ d_hF35_ d_hs37_ d_h38_ d_hM_ => ?_), (fun d_h26_ => ⟨(fun d_h40_ => ⟨(fun d_hs45_ d_h44_ d_v3_46 d_hv0_46 d_v2_46 d_hv1_46 d_M_46 d_hv2_46 d_hL_46 _ d_hF_46 => ⟨(fun d_h49_ d_h50_ d_M52_ _ d_hF56_ d_hs58_ d_h54_ d_z60_ d_e61_ d_z62_ d_h63_ d_M64_ d_hM65_ d_hM_ => ?_), (fun d_h49_ d_z70_ d_e71_ d_h72_ d_z73_ d_e74_ d_h75_ => ⟨(fun d_h76_ d_h77_ d_M79_ _ d_hF83_ d_hs85_ d_h81_ d_z87_ d_e88_ d_z89_ d_h90_ d_M91_ d_hM92_ d_hM_ => ?_), (fun d_h76_ d_z99_ d_h100_ d_j103_ d_h104_ d_z101_ d_e102_ d_hs109_ d_h108_ d_h139_ d_M141_ _ d_hF145_ d_hs147_ d_h143_ d_z149_ d_e150_ d_z151_ d_h152_ d_M153_ d_hM154_ d_hM_ => ?_)⟩)⟩), (fun d_hs45_ d_h44_ => ⟨(fun d_h160_ d_r165_ d_hs169_ d_h168_ d_z170_ d_e171_ d_h172_ d_h173_ => ⟨(fun d_h174_ d_M175_ d_hM176_ d_h182_ d_z185_ d_e186_ d_h187_ d_h188_ d_h189_ d_h190_ d_hM_ => ?_), (fun d_h174_ => ⟨(fun d_h191_ d_M192_ d_hM193_ d_z202_ d_e203_ d_h204_ d_h205_ d_h206_ d_h207_ d_z208_ d_h209_ _ d_M210_ _ d_hF214_ d_hs216_ d_z222_ d_e223_ d_z224_ d_h225_ d_M226_ d_hM227_ d_z236_ d_e237_ d_h238_ d_h239_ d_h240_ d_z241_ d_h242_ d_M243_ d_hM244_ d_h250_ d_hM_ => ?_), (fun d_h191_ d_M251_ d_hM252_ d_h258_ d_z261_ d_e262_ d_h263_ d_h264_ d_h265_ d_h266_ d_hM_ => ?_)⟩)⟩), (fun d_h160_ d_z267_ d_e268_ d_h269_ => ⟨(fun d_h270_ d_M271_ d_hM272_ d_h276_ d_z279_ d_e280_ d_h281_ d_h282_ d_h283_ d_h284_ d_hM_ => ?_), (fun d_h270_ d_M286_ d_hM287_ d_h291_ d_z294_ d_e295_ d_h296_ d_h297_ d_h298_ d_h299_ d_hM_ => ?_)⟩)⟩)⟩), (fun d_h40_ d_M304_ _ d_hF308_ d_hs310_ d_h311_ d_hM_ => ?_)⟩)⟩)⟩)
      · obtain ⟨rfl, s1, s2, s3, s4⟩ := one_start T0 k c_hs11_ d_hs8_
        omega
      · obtain ⟨rfl, s1, s2, s3, s4⟩ := one_start T0 k c_hs11_ d_hs8_
        omega
      · obtain ⟨rfl, s1, s2, s3, s4⟩ := one_start T0 k c_hs11_ d_hs8_
        omega
      · obtain ⟨rfl, s1, s2, s3, s4⟩ := one_start T0 k c_hs11_ d_hs8_
        omega
      · obtain ⟨rfl, s1, s2, s3, s4⟩ := one_start T0 k c_hs11_ d_hs8_
        omega
      · obtain ⟨rfl, s1, s2, s3, s4⟩ := one_start T0 k c_hs11_ d_hs8_
        have := eT d_h173_
        omega
      · obtain ⟨rfl, s1, s2, s3, s4⟩ := one_start T0 k c_hs11_ d_hs8_
        rw [c_hM_]
        have nm := x12name d_hs169_ s1.2.2.2.2
        refine name_both c_hs43_ s1 (fun _ b => ?_) (fun z g1 g2 g3 g4 => ?_)
        · exfalso
          rcases nm with nm | nm
          · have lb := nmL_b (u := (d_M2_.1 (12, 0, 0) 10).toInt.toNat) (j := d_r165_.toInt.toNat) (by have := s1.2.2.2.2; omega) (by omega)
            rcases b with b | b
            · omega
            · exact b _ (by omega) nm.2.2
          · omega
        · rcases nm with nm | nm
          · have zz : z = d_r165_ := i32e (by have := nmL_uniq (u := (d_M2_.1 (12, 0, 0) 10).toInt.toNat) (i := z.toInt.toNat) (j := d_r165_.toInt.toNat) (by have := s1.2.2.2.2; omega) (by omega) (by omega) (g3.trans nm.2.2.symm); omega)
            obtain ⟨z0, w, zc, Ma, M3, y1, y2, y3, y4, y5, y6⟩ := g4
            exact PRX_pre (nm_fin s1 s2 he (s4 d_h160_).1 zz ⟨by omega, nm.2.1, by omega⟩ y1 y2 y3 y4 y5 y6 d_hM193_ d_h209_ d_hs216_ d_e223_ (by rw [d_hM227_, d_h225_]) d_e237_ d_h242_ (by rw [d_hM_, d_hM244_])) s3
          · omega
      · obtain ⟨rfl, s1, s2, s3, s4⟩ := one_start T0 k c_hs11_ d_hs8_
        rw [c_hM_]
        have nm := x12name d_hs169_ s1.2.2.2.2
        refine name_both c_hs43_ s1 (fun b _ => ?_) (fun z g1 g2 g3 g4 => ?_)
        · rw [d_hM_]
          exact PRX_pre (PBD_bad s1 s2 b (by rw [zupE d_hM252_ rfl rfl, q1]; omega) (fun c k q => zupN d_hM252_ q)) s3
        · exfalso
          rcases nm with nm | nm
          · omega
          · exact nm.2 _ (by omega) g3
      · obtain ⟨rfl, s1, s2, s3, s4⟩ := one_start T0 k c_hs11_ d_hs8_
        have := eT d_e268_
        have := s2.2.1
        omega
      · obtain ⟨rfl, s1, s2, s3, s4⟩ := one_start T0 k c_hs11_ d_hs8_
        rw [c_hM_]
        refine name_both c_hs43_ s1 (fun b _ => ?_) (fun z g1 g2 g3 g4 => ?_)
        · rw [d_hM_]
          exact PRX_pre (PBD_bad s1 s2 b (by rw [zupE d_hM287_ rfl rfl, q1]; omega) (fun c k q => zupN d_hM287_ q)) s3
        · exfalso
          have lb := nmL_b (u := (d_M2_.1 (12, 0, 0) 10).toInt.toNat) (j := z.toInt.toNat) (by have := s1.2.2.2.2; omega) (by omega)
          omega
      · obtain ⟨rfl, s1, s2, s3, s4⟩ := one_start T0 k c_hs11_ d_hs8_
        omega
    · refine xE_SP_X12_one h2 (fun d_M2_ _ d_hF6_ d_r1_ d_hs8_ d_h11_ => ⟨(fun d_h12_ d_M17_ _ d_hF21_ d_hs23_ d_h24_ d_hM_ => ?_), (fun d_h12_ => ⟨(fun d_h26_ d_M31_ _ d_hF35_ d_hs37_ d_h38_ d_hM_ => ?_), (fun d_h26_ => ⟨(fun d_h40_ => ⟨(fun d_hs45_ d_h44_ d_v3_46 d_hv0_46 d_v2_46 d_hv1_46 d_M_46 d_hv2_46 d_hL_46 _ d_hF_46 => ⟨(fun d_h49_ d_h50_ d_M52_ _ d_hF56_ d_hs58_ d_h54_ d_z60_ d_e61_ d_z62_ d_h63_ d_M64_ d_hM65_ d_hM_ => ?_), (fun d_h49_ d_z70_ d_e71_ d_h72_ d_z73_ d_e74_ d_h75_ => ⟨(fun d_h76_ d_h77_ d_M79_ _ d_hF83_ d_hs85_ d_h81_ d_z87_ d_e88_ d_z89_ d_h90_ d_M91_ d_hM92_ d_hM_ => ?_), (fun d_h76_ d_z99_ d_h100_ d_j103_ d_h104_ d_z101_ d_e102_ d_hs109_ d_h108_ d_h139_ d_M141_ _ d_hF145_ d_hs147_ d_h143_ d_z149_ d_e150_ d_z151_ d_h152_ d_M153_ d_hM154_ d_hM_ => ?_)⟩)⟩), (fun d_hs45_ d_h44_ => ⟨(fun d_h160_ d_r165_ d_hs169_ d_h168_ d_z170_ d_e171_ d_h172_ d_h173_ => ⟨(fun d_h174_ d_M175_ d_hM176_ d_h182_ d_z185_ d_e186_ d_h187_ d_h188_ d_h189_ d_h190_ d_hM_ => ?_), (fun d_h174_ => ⟨(fun d_h191_ d_M192_ d_hM193_ d_z202_ d_e203_ d_h204_ d_h205_ d_h206_ d_h207_ d_z208_ d_h209_ _ d_M210_ _ d_hF214_ d_hs216_ d_z222_ d_e223_ d_z224_ d_h225_ d_M226_ d_hM227_ d_z236_ d_e237_ d_h238_ d_h239_ d_h240_ d_z241_ d_h242_ d_M243_ d_hM244_ d_h250_ d_hM_ => ?_), (fun d_h191_ d_M251_ d_hM252_ d_h258_ d_z261_ d_e262_ d_h263_ d_h264_ d_h265_ d_h266_ d_hM_ => ?_)⟩)⟩), (fun d_h160_ d_z267_ d_e268_ d_h269_ => ⟨(fun d_h270_ d_M271_ d_hM272_ d_h276_ d_z279_ d_e280_ d_h281_ d_h282_ d_h283_ d_h284_ d_hM_ => ?_), (fun d_h270_ d_M286_ d_hM287_ d_h291_ d_z294_ d_e295_ d_h296_ d_h297_ d_h298_ d_h299_ d_hM_ => ?_)⟩)⟩)⟩), (fun d_h40_ d_M304_ _ d_hF308_ d_hs310_ d_h311_ d_hM_ => ?_)⟩)⟩)⟩)
      · obtain ⟨rfl, s1, s2, s3, s4⟩ := one_start T0 k c_hs11_ d_hs8_
        omega
      · obtain ⟨rfl, s1, s2, s3, s4⟩ := one_start T0 k c_hs11_ d_hs8_
        omega
      · obtain ⟨rfl, s1, s2, s3, s4⟩ := one_start T0 k c_hs11_ d_hs8_
        omega
      · obtain ⟨rfl, s1, s2, s3, s4⟩ := one_start T0 k c_hs11_ d_hs8_
        omega
      · obtain ⟨rfl, s1, s2, s3, s4⟩ := one_start T0 k c_hs11_ d_hs8_
        omega
      · obtain ⟨rfl, s1, s2, s3, s4⟩ := one_start T0 k c_hs11_ d_hs8_
        have := eT d_h173_
        omega
      · obtain ⟨rfl, s1, s2, s3, s4⟩ := one_start T0 k c_hs11_ d_hs8_
        rw [c_hM_]
        have nm := x12name d_hs169_ s1.2.2.2.2
        refine name_both c_hs57_ s1 (fun _ b => ?_) (fun z g1 g2 g3 g4 => ?_)
        · exfalso
          rcases nm with nm | nm
          · have lb := nmL_b (u := (d_M2_.1 (12, 0, 0) 10).toInt.toNat) (j := d_r165_.toInt.toNat) (by have := s1.2.2.2.2; omega) (by omega)
            rcases b with b | b
            · omega
            · exact b _ (by omega) nm.2.2
          · omega
        · rcases nm with nm | nm
          · have zz : z = d_r165_ := i32e (by have := nmL_uniq (u := (d_M2_.1 (12, 0, 0) 10).toInt.toNat) (i := z.toInt.toNat) (j := d_r165_.toInt.toNat) (by have := s1.2.2.2.2; omega) (by omega) (by omega) (g3.trans nm.2.2.symm); omega)
            obtain ⟨z0, w, zc, Ma, M3, y1, y2, y3, y4, y5, y6⟩ := g4
            exact PRX_pre (nm_fin s1 s2 he (s4 d_h160_).1 zz ⟨by omega, nm.2.1, by omega⟩ y1 y2 y3 y4 y5 y6 d_hM193_ d_h209_ d_hs216_ d_e223_ (by rw [d_hM227_, d_h225_]) d_e237_ d_h242_ (by rw [d_hM_, d_hM244_])) s3
          · omega
      · obtain ⟨rfl, s1, s2, s3, s4⟩ := one_start T0 k c_hs11_ d_hs8_
        rw [c_hM_]
        have nm := x12name d_hs169_ s1.2.2.2.2
        refine name_both c_hs57_ s1 (fun b _ => ?_) (fun z g1 g2 g3 g4 => ?_)
        · rw [d_hM_]
          exact PRX_pre (PBD_bad s1 s2 b (by rw [zupE d_hM252_ rfl rfl, q1]; omega) (fun c k q => zupN d_hM252_ q)) s3
        · exfalso
          rcases nm with nm | nm
          · omega
          · exact nm.2 _ (by omega) g3
      · obtain ⟨rfl, s1, s2, s3, s4⟩ := one_start T0 k c_hs11_ d_hs8_
        have := eT d_e268_
        have := s2.2.1
        omega
      · obtain ⟨rfl, s1, s2, s3, s4⟩ := one_start T0 k c_hs11_ d_hs8_
        rw [c_hM_]
        refine name_both c_hs57_ s1 (fun b _ => ?_) (fun z g1 g2 g3 g4 => ?_)
        · rw [d_hM_]
          exact PRX_pre (PBD_bad s1 s2 b (by rw [zupE d_hM287_ rfl rfl, q1]; omega) (fun c k q => zupN d_hM287_ q)) s3
        · exfalso
          have lb := nmL_b (u := (d_M2_.1 (12, 0, 0) 10).toInt.toNat) (j := z.toInt.toNat) (by have := s1.2.2.2.2; omega) (by omega)
          omega
      · obtain ⟨rfl, s1, s2, s3, s4⟩ := one_start T0 k c_hs11_ d_hs8_
        omega
    · refine xE_SP_X12_one h2 (fun d_M2_ _ d_hF6_ d_r1_ d_hs8_ d_h11_ => ⟨(fun d_h12_ d_M17_ _ d_hF21_ d_hs23_ d_h24_ d_hM_ => ?_), (fun d_h12_ => ⟨(fun d_h26_ d_M31_ _ d_hF35_ d_hs37_ d_h38_ d_hM_ => ?_), (fun d_h26_ => ⟨(fun d_h40_ => ⟨(fun d_hs45_ d_h44_ d_v3_46 d_hv0_46 d_v2_46 d_hv1_46 d_M_46 d_hv2_46 d_hL_46 _ d_hF_46 => ⟨(fun d_h49_ d_h50_ d_M52_ _ d_hF56_ d_hs58_ d_h54_ d_z60_ d_e61_ d_z62_ d_h63_ d_M64_ d_hM65_ d_hM_ => ?_), (fun d_h49_ d_z70_ d_e71_ d_h72_ d_z73_ d_e74_ d_h75_ => ⟨(fun d_h76_ d_h77_ d_M79_ _ d_hF83_ d_hs85_ d_h81_ d_z87_ d_e88_ d_z89_ d_h90_ d_M91_ d_hM92_ d_hM_ => ?_), (fun d_h76_ d_z99_ d_h100_ d_j103_ d_h104_ d_z101_ d_e102_ d_hs109_ d_h108_ d_h139_ d_M141_ _ d_hF145_ d_hs147_ d_h143_ d_z149_ d_e150_ d_z151_ d_h152_ d_M153_ d_hM154_ d_hM_ => ?_)⟩)⟩), (fun d_hs45_ d_h44_ => ⟨(fun d_h160_ d_r165_ d_hs169_ d_h168_ d_z170_ d_e171_ d_h172_ d_h173_ => ⟨(fun d_h174_ d_M175_ d_hM176_ d_h182_ d_z185_ d_e186_ d_h187_ d_h188_ d_h189_ d_h190_ d_hM_ => ?_), (fun d_h174_ => ⟨(fun d_h191_ d_M192_ d_hM193_ d_z202_ d_e203_ d_h204_ d_h205_ d_h206_ d_h207_ d_z208_ d_h209_ _ d_M210_ _ d_hF214_ d_hs216_ d_z222_ d_e223_ d_z224_ d_h225_ d_M226_ d_hM227_ d_z236_ d_e237_ d_h238_ d_h239_ d_h240_ d_z241_ d_h242_ d_M243_ d_hM244_ d_h250_ d_hM_ => ?_), (fun d_h191_ d_M251_ d_hM252_ d_h258_ d_z261_ d_e262_ d_h263_ d_h264_ d_h265_ d_h266_ d_hM_ => ?_)⟩)⟩), (fun d_h160_ d_z267_ d_e268_ d_h269_ => ⟨(fun d_h270_ d_M271_ d_hM272_ d_h276_ d_z279_ d_e280_ d_h281_ d_h282_ d_h283_ d_h284_ d_hM_ => ?_), (fun d_h270_ d_M286_ d_hM287_ d_h291_ d_z294_ d_e295_ d_h296_ d_h297_ d_h298_ d_h299_ d_hM_ => ?_)⟩)⟩)⟩), (fun d_h40_ d_M304_ _ d_hF308_ d_hs310_ d_h311_ d_hM_ => ?_)⟩)⟩)⟩)
      · obtain ⟨rfl, s1, s2, s3, s4⟩ := one_start T0 k c_hs11_ d_hs8_
        omega
      · obtain ⟨rfl, s1, s2, s3, s4⟩ := one_start T0 k c_hs11_ d_hs8_
        omega
      · obtain ⟨rfl, s1, s2, s3, s4⟩ := one_start T0 k c_hs11_ d_hs8_
        omega
      · obtain ⟨rfl, s1, s2, s3, s4⟩ := one_start T0 k c_hs11_ d_hs8_
        omega
      · obtain ⟨rfl, s1, s2, s3, s4⟩ := one_start T0 k c_hs11_ d_hs8_
        omega
      · obtain ⟨rfl, s1, s2, s3, s4⟩ := one_start T0 k c_hs11_ d_hs8_
        have := eT d_h173_
        omega
      · obtain ⟨rfl, s1, s2, s3, s4⟩ := one_start T0 k c_hs11_ d_hs8_
        omega
      · obtain ⟨rfl, s1, s2, s3, s4⟩ := one_start T0 k c_hs11_ d_hs8_
        omega
      · obtain ⟨rfl, s1, s2, s3, s4⟩ := one_start T0 k c_hs11_ d_hs8_
        have := eT d_e268_
        have := s2.2.1
        omega
      · obtain ⟨rfl, s1, s2, s3, s4⟩ := one_start T0 k c_hs11_ d_hs8_
        omega
      · obtain ⟨rfl, s1, s2, s3, s4⟩ := one_start T0 k c_hs11_ d_hs8_
        rw [c_hM_, d_hM_]
        exact PRX_pre (opened_both hA hB c_hs67_ d_hs310_ s1 s2 he (s4 (by omega)).1) s3
    · refine xE_SP_X12_one h2 (fun d_M2_ _ d_hF6_ d_r1_ d_hs8_ d_h11_ => ⟨(fun d_h12_ d_M17_ _ d_hF21_ d_hs23_ d_h24_ d_hM_ => ?_), (fun d_h12_ => ⟨(fun d_h26_ d_M31_ _ d_hF35_ d_hs37_ d_h38_ d_hM_ => ?_), (fun d_h26_ => ⟨(fun d_h40_ => ⟨(fun d_hs45_ d_h44_ d_v3_46 d_hv0_46 d_v2_46 d_hv1_46 d_M_46 d_hv2_46 d_hL_46 _ d_hF_46 => ⟨(fun d_h49_ d_h50_ d_M52_ _ d_hF56_ d_hs58_ d_h54_ d_z60_ d_e61_ d_z62_ d_h63_ d_M64_ d_hM65_ d_hM_ => ?_), (fun d_h49_ d_z70_ d_e71_ d_h72_ d_z73_ d_e74_ d_h75_ => ⟨(fun d_h76_ d_h77_ d_M79_ _ d_hF83_ d_hs85_ d_h81_ d_z87_ d_e88_ d_z89_ d_h90_ d_M91_ d_hM92_ d_hM_ => ?_), (fun d_h76_ d_z99_ d_h100_ d_j103_ d_h104_ d_z101_ d_e102_ d_hs109_ d_h108_ d_h139_ d_M141_ _ d_hF145_ d_hs147_ d_h143_ d_z149_ d_e150_ d_z151_ d_h152_ d_M153_ d_hM154_ d_hM_ => ?_)⟩)⟩), (fun d_hs45_ d_h44_ => ⟨(fun d_h160_ d_r165_ d_hs169_ d_h168_ d_z170_ d_e171_ d_h172_ d_h173_ => ⟨(fun d_h174_ d_M175_ d_hM176_ d_h182_ d_z185_ d_e186_ d_h187_ d_h188_ d_h189_ d_h190_ d_hM_ => ?_), (fun d_h174_ => ⟨(fun d_h191_ d_M192_ d_hM193_ d_z202_ d_e203_ d_h204_ d_h205_ d_h206_ d_h207_ d_z208_ d_h209_ _ d_M210_ _ d_hF214_ d_hs216_ d_z222_ d_e223_ d_z224_ d_h225_ d_M226_ d_hM227_ d_z236_ d_e237_ d_h238_ d_h239_ d_h240_ d_z241_ d_h242_ d_M243_ d_hM244_ d_h250_ d_hM_ => ?_), (fun d_h191_ d_M251_ d_hM252_ d_h258_ d_z261_ d_e262_ d_h263_ d_h264_ d_h265_ d_h266_ d_hM_ => ?_)⟩)⟩), (fun d_h160_ d_z267_ d_e268_ d_h269_ => ⟨(fun d_h270_ d_M271_ d_hM272_ d_h276_ d_z279_ d_e280_ d_h281_ d_h282_ d_h283_ d_h284_ d_hM_ => ?_), (fun d_h270_ d_M286_ d_hM287_ d_h291_ d_z294_ d_e295_ d_h296_ d_h297_ d_h298_ d_h299_ d_hM_ => ?_)⟩)⟩)⟩), (fun d_h40_ d_M304_ _ d_hF308_ d_hs310_ d_h311_ d_hM_ => ?_)⟩)⟩)⟩)
      · obtain ⟨rfl, s1, s2, s3, s4⟩ := one_start T0 k c_hs11_ d_hs8_
        omega
      · obtain ⟨rfl, s1, s2, s3, s4⟩ := one_start T0 k c_hs11_ d_hs8_
        omega
      · obtain ⟨rfl, s1, s2, s3, s4⟩ := one_start T0 k c_hs11_ d_hs8_
        have nb := number_both (w := (d_v3_46, d_v2_46, d_M_46)) (D0 := D) s1 s2 he c_hs76_ d_hL_46 d_h50_ (Or.inl d_h49_) d_hs58_ d_e61_ (show D2 = up d_M52_ (12, 0, 0) 12 (d_z60_ + (1 : Int32)) by rw [d_hM_, d_hM65_, d_h63_])
        rw [c_hM_]
        exact PRX_pre (C' := C) ⟨⟨nb.1, Or.inl nb.2.1⟩, nb.2.2⟩ s3
      · obtain ⟨rfl, s1, s2, s3, s4⟩ := one_start T0 k c_hs11_ d_hs8_
        have nb := number_both (w := (d_v3_46, d_v2_46, d_M_46)) (D0 := D) s1 s2 he c_hs76_ d_hL_46 d_h77_ (Or.inr ⟨d_h49_, Or.inl (by rw [← d_e71_, ← d_e74_]; exact d_h76_)⟩) d_hs85_ d_e88_ (show D2 = up d_M79_ (12, 0, 0) 12 (d_z87_ + (1 : Int32)) by rw [d_hM_, d_hM92_, d_h90_])
        rw [c_hM_]
        exact PRX_pre (C' := C) ⟨⟨nb.1, Or.inl nb.2.1⟩, nb.2.2⟩ s3
      · obtain ⟨rfl, s1, s2, s3, s4⟩ := one_start T0 k c_hs11_ d_hs8_
        have nb := number_both (w := (d_v3_46, d_v2_46, d_M_46)) (D0 := D) s1 s2 he c_hs76_ d_hL_46 d_h139_ (Or.inr ⟨d_h49_, Or.inr ⟨by rw [← d_e71_, ← d_e74_]; exact d_h76_, by rw [← d_e71_, show 273 + d_z70_.toInt.toNat = d_j103_ by omega, ← d_e102_]; exact d_h108_⟩⟩) d_hs147_ d_e150_ (show D2 = up d_M141_ (12, 0, 0) 12 (d_z149_ + (1 : Int32)) by rw [d_hM_, d_hM154_, d_h152_])
        rw [c_hM_]
        exact PRX_pre (C' := C) ⟨⟨nb.1, Or.inl nb.2.1⟩, nb.2.2⟩ s3
      · obtain ⟨rfl, s1, s2, s3, s4⟩ := one_start T0 k c_hs11_ d_hs8_
        have := eT d_h173_
        omega
      · obtain ⟨rfl, s1, s2, s3, s4⟩ := one_start T0 k c_hs11_ d_hs8_
        omega
      · obtain ⟨rfl, s1, s2, s3, s4⟩ := one_start T0 k c_hs11_ d_hs8_
        omega
      · obtain ⟨rfl, s1, s2, s3, s4⟩ := one_start T0 k c_hs11_ d_hs8_
        have := eT d_e268_
        have := s2.2.1
        omega
      · obtain ⟨rfl, s1, s2, s3, s4⟩ := one_start T0 k c_hs11_ d_hs8_
        omega
      · obtain ⟨rfl, s1, s2, s3, s4⟩ := one_start T0 k c_hs11_ d_hs8_
        omega
    · have := eT c_e2_
      omega
  · have k13 := k.2.1
    have c4 := k.1
    have cz : C2.1 (4, 0, 0) 4 = C.1 (4, 0, 0) 4 := by
      refine xE_SP_X4_readOne h1 (fun c_z1_ c_e2_ => ⟨(fun c_h3_ c_M5_ _ c_hF9_ c_r4_ c_hs11_ => ⟨(fun c_h15_ => ⟨(fun c_h16_ c_M17_ _ c_hF21_ c_hs23_ c_h19_ c_hM_ => ?_), (fun c_h16_ => ⟨(fun c_h26_ c_M27_ _ c_hF31_ c_hs33_ c_h29_ c_hM_ => ?_), (fun c_h26_ c_h36_ c_M37_ _ c_hF41_ c_hs43_ c_hM_ => ?_)⟩)⟩), (fun c_h15_ => ⟨(fun c_h47_ c_h48_ c_h49_ => ⟨(fun c_h50_ c_M51_ _ c_hF55_ c_hs57_ c_hM_ => ?_), (fun c_h50_ c_M61_ _ c_hF65_ c_hs67_ c_h63_ c_hM_ => ?_)⟩), (fun c_h47_ c_M70_ _ c_hF74_ c_hs76_ c_hM_ => ?_)⟩)⟩), (fun c_h3_ c_hM_ => ?_)⟩)
      · have := eT c_e2_
        omega
      · have := eT c_e2_
        omega
      · have := eT c_e2_
        omega
      · have := eT c_e2_
        omega
      · have := eT c_e2_
        omega
      · have := eT c_e2_
        omega
      · rw [c_hM_]
    have nh : ∀ {r1 : Int32} {M2 : mM} {s' : Int} {W' : Nat} {a' T' : Int}, SP_X12_here s' W' a' T' D r1 M2 → r1.toInt = -1 ∧ ∀ (c : rf) (k : Nat), M2.1 c k = D.1 c k := fun hh => by
      rcases x12here hh ab with g | g
      · exact g.2
      · exact absurd g.1 k13
    refine xE_SP_X12_one h2 (fun d_M2_ _ d_hF6_ d_r1_ d_hs8_ d_h11_ => ⟨(fun d_h12_ d_M17_ _ d_hF21_ d_hs23_ d_h24_ d_hM_ => ?_), (fun d_h12_ => ⟨(fun d_h26_ d_M31_ _ d_hF35_ d_hs37_ d_h38_ d_hM_ => ?_), (fun d_h26_ => ⟨(fun d_h40_ => ⟨(fun d_hs45_ d_h44_ d_v3_46 d_hv0_46 d_v2_46 d_hv1_46 d_M_46 d_hv2_46 d_hL_46 _ d_hF_46 => ⟨(fun d_h49_ d_h50_ d_M52_ _ d_hF56_ d_hs58_ d_h54_ d_z60_ d_e61_ d_z62_ d_h63_ d_M64_ d_hM65_ d_hM_ => ?_), (fun d_h49_ d_z70_ d_e71_ d_h72_ d_z73_ d_e74_ d_h75_ => ⟨(fun d_h76_ d_h77_ d_M79_ _ d_hF83_ d_hs85_ d_h81_ d_z87_ d_e88_ d_z89_ d_h90_ d_M91_ d_hM92_ d_hM_ => ?_), (fun d_h76_ d_z99_ d_h100_ d_j103_ d_h104_ d_z101_ d_e102_ d_hs109_ d_h108_ d_h139_ d_M141_ _ d_hF145_ d_hs147_ d_h143_ d_z149_ d_e150_ d_z151_ d_h152_ d_M153_ d_hM154_ d_hM_ => ?_)⟩)⟩), (fun d_hs45_ d_h44_ => ⟨(fun d_h160_ d_r165_ d_hs169_ d_h168_ d_z170_ d_e171_ d_h172_ d_h173_ => ⟨(fun d_h174_ d_M175_ d_hM176_ d_h182_ d_z185_ d_e186_ d_h187_ d_h188_ d_h189_ d_h190_ d_hM_ => ?_), (fun d_h174_ => ⟨(fun d_h191_ d_M192_ d_hM193_ d_z202_ d_e203_ d_h204_ d_h205_ d_h206_ d_h207_ d_z208_ d_h209_ _ d_M210_ _ d_hF214_ d_hs216_ d_z222_ d_e223_ d_z224_ d_h225_ d_M226_ d_hM227_ d_z236_ d_e237_ d_h238_ d_h239_ d_h240_ d_z241_ d_h242_ d_M243_ d_hM244_ d_h250_ d_hM_ => ?_), (fun d_h191_ d_M251_ d_hM252_ d_h258_ d_z261_ d_e262_ d_h263_ d_h264_ d_h265_ d_h266_ d_hM_ => ?_)⟩)⟩), (fun d_h160_ d_z267_ d_e268_ d_h269_ => ⟨(fun d_h270_ d_M271_ d_hM272_ d_h276_ d_z279_ d_e280_ d_h281_ d_h282_ d_h283_ d_h284_ d_hM_ => ?_), (fun d_h270_ d_M286_ d_hM287_ d_h291_ d_z294_ d_e295_ d_h296_ d_h297_ d_h298_ d_h299_ d_hM_ => ?_)⟩)⟩)⟩), (fun d_h40_ d_M304_ _ d_hF308_ d_hs310_ d_h311_ d_hM_ => ?_)⟩)⟩)⟩)
    · have g := nh d_hs8_
      omega
    · have g := nh d_hs8_
      omega
    · have g := nh d_hs8_
      omega
    · have g := nh d_hs8_
      omega
    · have g := nh d_hs8_
      omega
    · have g := nh d_hs8_
      omega
    · have g := nh d_hs8_
      omega
    · have g := nh d_hs8_
      omega
    · have g := nh d_hs8_
      rw [d_hM_] at T2 ⊢
      exact PBD_keep T2 k cz (by rw [zupE d_hM272_ rfl rfl, q1]; omega) (by rw [zupN d_hM272_ (by simp)]; exact g.2 _ _) (by rw [zupN d_hM272_ (by simp)]; exact g.2 _ _)
    · have g := nh d_hs8_
      rw [d_hM_] at T2 ⊢
      exact PBD_keep T2 k cz (by rw [zupE d_hM287_ rfl rfl, q1]; omega) (by rw [zupN d_hM287_ (by simp)]; exact g.2 _ _) (by rw [zupN d_hM287_ (by simp)]; exact g.2 _ _)
    · have g := nh d_hs8_
      omega
end
section
/-! signs as the model reads them -/
def TK (k b : Int32) (D D2 : mM) : Prop := ∃ (s : Int) (W : Nat) (a T : Int), SP_X12_takes k s W a T D b D2
def RAW2 (k1 k2 v1 v2 : Int32) (D : mM) (v : Int32) (D2 : mM) : Prop := (TK k1 1 D D2 ∧ v = v1) ∨ ∃ Da, TK k1 0 D Da ∧ ((TK k2 1 Da D2 ∧ v = v2) ∨ (TK k2 0 Da D2 ∧ v = 0))
def RAW3 (k1 k2 k3 v1 v2 v3 : Int32) (D : mM) (v : Int32) (D2 : mM) : Prop := (TK k1 1 D D2 ∧ v = v1) ∨ ∃ Da, TK k1 0 D Da ∧ ((TK k2 1 Da D2 ∧ v = v2) ∨ ∃ Db, TK k2 0 Da Db ∧ ((TK k3 1 Db D2 ∧ v = v3) ∨ (TK k3 0 Db D2 ∧ v = 0)))
theorem hP2 {g : Int → Int} {k1 k2 v1 v2 : Int32} (hk : 0 ≤ k1.toInt ∧ 0 ≤ k2.toInt) (h1 : ¬ g k1.toInt = 0 ∧ v1.toInt = g k1.toInt) (h2 : ¬ g k2.toInt = 0 ∧ v2.toInt = g k2.toInt) (h0 : ∀ c : Int, ¬ c = k1.toInt ∧ ¬ c = k2.toInt → g c = 0) (D : mM) (v : Int32) (D2 : mM) (hb : ATb D) (h : RAW2 k1 k2 v1 v2 D v D2) : OPQ g D v D2 := by
  rcases h with ⟨⟨s, W, a, T, t⟩, rfl⟩ | ⟨Da, ⟨s, W, a, T, t⟩, ⟨⟨s2, W2, a2, T2, t2⟩, rfl⟩ | ⟨⟨s2, W2, a2, T2, t2⟩, rfl⟩⟩
  · exact hit1 t hk.1 hb h1
  · exact hit2 (mis1 t hk.1 hb) t2 hk.2 hb h2
  · exact mis0 (mis2 (mis1 t hk.1 hb) t2 hk.2 hb) (fun c q => h0 c q) il_0
theorem hP3 {g : Int → Int} {k1 k2 k3 v1 v2 v3 : Int32} (hk : 0 ≤ k1.toInt ∧ 0 ≤ k2.toInt ∧ 0 ≤ k3.toInt) (h1 : ¬ g k1.toInt = 0 ∧ v1.toInt = g k1.toInt) (h2 : ¬ g k2.toInt = 0 ∧ v2.toInt = g k2.toInt) (h3 : ¬ g k3.toInt = 0 ∧ v3.toInt = g k3.toInt) (h0 : ∀ c : Int, (¬ c = k1.toInt ∧ ¬ c = k2.toInt) ∧ ¬ c = k3.toInt → g c = 0) (D : mM) (v : Int32) (D2 : mM) (hb : ATb D) (h : RAW3 k1 k2 k3 v1 v2 v3 D v D2) : OPQ g D v D2 := by
  rcases h with ⟨⟨s, W, a, T, t⟩, rfl⟩ | ⟨Da, ⟨s, W, a, T, t⟩, ⟨⟨s2, W2, a2, T2, t2⟩, rfl⟩ | ⟨Db, ⟨s2, W2, a2, T2, t2⟩, ⟨⟨s3, W3, a3, T3, t3⟩, rfl⟩ | ⟨⟨s3, W3, a3, T3, t3⟩, rfl⟩⟩⟩
  · exact hit1 t hk.1 hb h1
  · exact hit2 (mis1 t hk.1 hb) t2 hk.2.1 hb h2
  · exact hit2 (mis2 (mis1 t hk.1 hb) t2 hk.2.1 hb) t3 hk.2.2 hb h3
  · exact mis0 (mis2 (mis2 (mis1 t hk.1 hb) t2 hk.2.1 hb) t3 hk.2.2 hb) (fun c q => h0 c q) il_0
/-! term -/
theorem i_term : (42 : Int32).toInt = 42 ∧ (47 : Int32).toInt = 47 ∧ (37 : Int32).toInt = 37 ∧ (2005 : Int32).toInt = 2005 ∧ (2006 : Int32).toInt = 2006 ∧ (2007 : Int32).toInt = 2007 := by decide
theorem hP_term (D : mM) (v : Int32) (D2 : mM) (hb : ATb D) (h : RAW3 42 47 37 2005 2006 2007 D v D2) : OPQ opT D v D2 := by
  refine hP3 (by first | decide | simp | (dsimp only; omega)) (by first | decide | simp | (dsimp only; omega)) (by first | decide | simp | (dsimp only; omega)) (by first | decide | simp | (dsimp only; omega)) (fun c q => ?_) D v D2 hb h
  have i := i_term
  unfold opT
  rw [if_neg (by omega), if_neg (by omega), if_neg (by omega)]
theorem st_readTerm {N m : Nat} {QA QB : mM → mM → Prop} {Mz : mM} {x y : Int32 × mM} (h : ST_X4_readTerm_6 N m QA QB Mz x.1 x.2 y.1 y.2) : LCs opT (SP_X4_readOne N m QA QB) x y := by
  refine xE_ST_X4_readTerm_6 h (fun hv0_6 hv1_6 _ hF_6 h11_ z12_ e13_ h14_ M16_ _ hF20_ r15_ hs22_ => ⟨(fun h26_ z27_ e28_ z29_ h30_ M31_ hM32_ _ M38_ _ hF42_ hs44_ h40_ z47_ h48_ M49_ _ hF53_ hs55_ z59_ h60_ hq_v1_6y hM_ => ?_), (fun h26_ => ⟨(fun h61_ z62_ e63_ z64_ h65_ M66_ hM67_ _ M73_ _ hF77_ hs79_ h75_ z82_ h83_ M84_ _ hF88_ hs90_ z94_ h95_ hq_v1_6y hM_ => ?_), (fun h61_ h96_ z97_ e98_ z99_ h100_ M101_ hM102_ _ M108_ _ hF112_ hs114_ h110_ z117_ h118_ M119_ _ hF123_ hs125_ z129_ h130_ hq_v1_6y hM_ => ?_)⟩)⟩)
  · exact ⟨h11_, by rw [← e13_]; exact h14_, r15_, z47_, z29_, M16_, M31_, M38_, hs22_, (show ¬ opT r15_.toInt = 0 by unfold opT; rw [if_pos h26_]; decide), by rw [h30_, e28_], hM32_, hF42_, hs44_, h48_, by rw [hM_]; exact hs55_, by rw [hq_v1_6y]; exact h60_⟩
  · exact ⟨h11_, by rw [← e13_]; exact h14_, r15_, z82_, z64_, M16_, M66_, M73_, hs22_, (show ¬ opT r15_.toInt = 0 by unfold opT; rw [if_neg h26_, if_pos h61_]; decide), by rw [h65_, e63_], hM67_, hF77_, hs79_, h83_, by rw [hM_]; exact hs90_, by rw [hq_v1_6y]; exact h95_⟩
  · exact ⟨h11_, by rw [← e13_]; exact h14_, r15_, z117_, z99_, M16_, M101_, M108_, hs22_, (show ¬ opT r15_.toInt = 0 by unfold opT; rw [if_neg h26_, if_neg h61_, if_pos h96_]; decide), by rw [h100_, e98_], hM102_, hF112_, hs114_, h118_, by rw [hM_]; exact hs125_, by rw [hq_v1_6y]; exact h130_⟩
theorem st_X12_term_51 {N2 m : Nat} {QA2 QB2 : mM → mM → Prop} {s : Int} {W : Nat} {T : Int} {Mz : mM} {x y : Int32 × mM} (h : ST_X12_term_51 N2 m QA2 QB2 s W T Mz x.1 x.2 y.1 y.2) : LDs (RAW3 42 47 37 2005 2006 2007) (fun D D2 : mM => ∃ (s : Int) (W : Nat) (a T : Int), SP_X12_one N2 m QA2 QB2 s W a T D D2) x y := by
  refine xE_ST_X12_term_51 h (fun hv0_51 _ hF_51 h23_ h24_ M27_ _ hF31_ hs33_ M36_ _ hF40_ hs42_ M45_ _ hF49_ => ⟨(fun hs51_ h53_ hq_v1_51y hM_ => ?_), (fun hs51_ M58_ _ hF62_ => ⟨(fun hs64_ h66_ hq_v1_51y hM_ => ?_), (fun hs64_ M71_ _ hF75_ => ⟨(fun hs77_ h79_ hq_v1_51y hM_ => ?_), (fun hs77_ h73_ hq_v1_51y hM_ => ?_)⟩)⟩)⟩)
  · exact ⟨h24_, M27_, M36_, _, _, _, _, _, hF31_, ⟨_, _, _, _, hs33_⟩, hs42_, Or.inl ⟨⟨_, _, _, _, by rw [hM_]; exact hs51_⟩, hq_v1_51y⟩⟩
  · exact ⟨h24_, M27_, M36_, _, _, _, _, _, hF31_, ⟨_, _, _, _, hs33_⟩, hs42_, Or.inr ⟨M45_, ⟨_, _, _, _, hs51_⟩, Or.inl ⟨⟨_, _, _, _, by rw [hM_]; exact hs64_⟩, hq_v1_51y⟩⟩⟩
  · exact ⟨h24_, M27_, M36_, _, _, _, _, _, hF31_, ⟨_, _, _, _, hs33_⟩, hs42_, Or.inr ⟨M45_, ⟨_, _, _, _, hs51_⟩, Or.inr ⟨M58_, ⟨_, _, _, _, hs64_⟩, Or.inl ⟨⟨_, _, _, _, by rw [hM_]; exact hs77_⟩, hq_v1_51y⟩⟩⟩⟩
  · exact ⟨h24_, M27_, M36_, _, _, _, _, _, hF31_, ⟨_, _, _, _, hs33_⟩, hs42_, Or.inr ⟨M45_, ⟨_, _, _, _, hs51_⟩, Or.inr ⟨M58_, ⟨_, _, _, _, hs64_⟩, Or.inr ⟨⟨_, _, _, _, by rw [hM_]; exact hs77_⟩, hq_v1_51y⟩⟩⟩⟩
theorem st_X12_term_51b {N2 m : Nat} {QA2 QB2 : mM → mM → Prop} {s : Int} {W : Nat} {T : Int} {Mz : mM} {x y : Int32 × mM} (h : ST_X12_term_51b N2 m QA2 QB2 s W T Mz x.1 x.2 y.1 y.2) : LDs (RAW3 42 47 37 2005 2006 2007) (fun D D2 : mM => ∃ (s : Int) (W : Nat) (a T : Int), SP_X12_one N2 m QA2 QB2 s W a T D D2) x y := by
  refine xE_ST_X12_term_51b h (fun hv0_51 _ hF_51 h97_ h98_ M101_ _ hF105_ hs107_ M110_ _ hF114_ hs116_ M119_ _ hF123_ => ⟨(fun hs125_ h127_ hq_v1_51y hM_ => ?_), (fun hs125_ M132_ _ hF136_ => ⟨(fun hs138_ h140_ hq_v1_51y hM_ => ?_), (fun hs138_ M145_ _ hF149_ => ⟨(fun hs151_ h153_ hq_v1_51y hM_ => ?_), (fun hs151_ h147_ hq_v1_51y hM_ => ?_)⟩)⟩)⟩)
  · exact ⟨h98_, M101_, M110_, _, _, _, _, _, hF105_, ⟨_, _, _, _, hs107_⟩, hs116_, Or.inl ⟨⟨_, _, _, _, by rw [hM_]; exact hs125_⟩, hq_v1_51y⟩⟩
  · exact ⟨h98_, M101_, M110_, _, _, _, _, _, hF105_, ⟨_, _, _, _, hs107_⟩, hs116_, Or.inr ⟨M119_, ⟨_, _, _, _, hs125_⟩, Or.inl ⟨⟨_, _, _, _, by rw [hM_]; exact hs138_⟩, hq_v1_51y⟩⟩⟩
  · exact ⟨h98_, M101_, M110_, _, _, _, _, _, hF105_, ⟨_, _, _, _, hs107_⟩, hs116_, Or.inr ⟨M119_, ⟨_, _, _, _, hs125_⟩, Or.inr ⟨M132_, ⟨_, _, _, _, hs138_⟩, Or.inl ⟨⟨_, _, _, _, by rw [hM_]; exact hs151_⟩, hq_v1_51y⟩⟩⟩⟩
  · exact ⟨h98_, M101_, M110_, _, _, _, _, _, hF105_, ⟨_, _, _, _, hs107_⟩, hs116_, Or.inr ⟨M119_, ⟨_, _, _, _, hs125_⟩, Or.inr ⟨M132_, ⟨_, _, _, _, hs138_⟩, Or.inr ⟨⟨_, _, _, _, by rw [hM_]; exact hs151_⟩, hq_v1_51y⟩⟩⟩⟩
theorem st_X12_term_51c {N2 m : Nat} {QA2 QB2 : mM → mM → Prop} {s : Int} {W : Nat} {T : Int} {Mz : mM} {x y : Int32 × mM} (h : ST_X12_term_51c N2 m QA2 QB2 s W T Mz x.1 x.2 y.1 y.2) : LDs (RAW3 42 47 37 2005 2006 2007) (fun D D2 : mM => ∃ (s : Int) (W : Nat) (a T : Int), SP_X12_one N2 m QA2 QB2 s W a T D D2) x y := by
  refine xE_ST_X12_term_51c h (fun hv0_51 _ hF_51 h171_ h172_ M175_ _ hF179_ hs181_ M184_ _ hF188_ hs190_ M193_ _ hF197_ => ⟨(fun hs199_ h201_ hq_v1_51y hM_ => ?_), (fun hs199_ M206_ _ hF210_ => ⟨(fun hs212_ h214_ hq_v1_51y hM_ => ?_), (fun hs212_ M219_ _ hF223_ => ⟨(fun hs225_ h227_ hq_v1_51y hM_ => ?_), (fun hs225_ h221_ hq_v1_51y hM_ => ?_)⟩)⟩)⟩)
  · exact ⟨h172_, M175_, M184_, _, _, _, _, _, hF179_, ⟨_, _, _, _, hs181_⟩, hs190_, Or.inl ⟨⟨_, _, _, _, by rw [hM_]; exact hs199_⟩, hq_v1_51y⟩⟩
  · exact ⟨h172_, M175_, M184_, _, _, _, _, _, hF179_, ⟨_, _, _, _, hs181_⟩, hs190_, Or.inr ⟨M193_, ⟨_, _, _, _, hs199_⟩, Or.inl ⟨⟨_, _, _, _, by rw [hM_]; exact hs212_⟩, hq_v1_51y⟩⟩⟩
  · exact ⟨h172_, M175_, M184_, _, _, _, _, _, hF179_, ⟨_, _, _, _, hs181_⟩, hs190_, Or.inr ⟨M193_, ⟨_, _, _, _, hs199_⟩, Or.inr ⟨M206_, ⟨_, _, _, _, hs212_⟩, Or.inl ⟨⟨_, _, _, _, by rw [hM_]; exact hs225_⟩, hq_v1_51y⟩⟩⟩⟩
  · exact ⟨h172_, M175_, M184_, _, _, _, _, _, hF179_, ⟨_, _, _, _, hs181_⟩, hs190_, Or.inr ⟨M193_, ⟨_, _, _, _, hs199_⟩, Or.inr ⟨M206_, ⟨_, _, _, _, hs212_⟩, Or.inr ⟨⟨_, _, _, _, by rw [hM_]; exact hs225_⟩, hq_v1_51y⟩⟩⟩⟩
theorem st_X12_term_51d {N2 m : Nat} {QA2 QB2 : mM → mM → Prop} {s : Int} {W : Nat} {T : Int} {Mz : mM} {x y : Int32 × mM} (h : ST_X12_term_51d N2 m QA2 QB2 s W T Mz x.1 x.2 y.1 y.2) : LDs (RAW3 42 47 37 2005 2006 2007) (fun D D2 : mM => ∃ (s : Int) (W : Nat) (a T : Int), SP_X12_one N2 m QA2 QB2 s W a T D D2) x y := by
  refine xE_ST_X12_term_51d h (fun hv0_51 _ hF_51 h233_ h234_ M237_ _ hF241_ hs243_ M246_ _ hF250_ hs252_ M255_ _ hF259_ => ⟨(fun hs261_ h263_ hq_v1_51y hM_ => ?_), (fun hs261_ M268_ _ hF272_ => ⟨(fun hs274_ h276_ hq_v1_51y hM_ => ?_), (fun hs274_ M281_ _ hF285_ => ⟨(fun hs287_ h289_ hq_v1_51y hM_ => ?_), (fun hs287_ h283_ hq_v1_51y hM_ => ?_)⟩)⟩)⟩)
  · exact ⟨h234_, M237_, M246_, _, _, _, _, _, hF241_, ⟨_, _, _, _, hs243_⟩, hs252_, Or.inl ⟨⟨_, _, _, _, by rw [hM_]; exact hs261_⟩, hq_v1_51y⟩⟩
  · exact ⟨h234_, M237_, M246_, _, _, _, _, _, hF241_, ⟨_, _, _, _, hs243_⟩, hs252_, Or.inr ⟨M255_, ⟨_, _, _, _, hs261_⟩, Or.inl ⟨⟨_, _, _, _, by rw [hM_]; exact hs274_⟩, hq_v1_51y⟩⟩⟩
  · exact ⟨h234_, M237_, M246_, _, _, _, _, _, hF241_, ⟨_, _, _, _, hs243_⟩, hs252_, Or.inr ⟨M255_, ⟨_, _, _, _, hs261_⟩, Or.inr ⟨M268_, ⟨_, _, _, _, hs274_⟩, Or.inl ⟨⟨_, _, _, _, by rw [hM_]; exact hs287_⟩, hq_v1_51y⟩⟩⟩⟩
  · exact ⟨h234_, M237_, M246_, _, _, _, _, _, hF241_, ⟨_, _, _, _, hs243_⟩, hs252_, Or.inr ⟨M255_, ⟨_, _, _, _, hs261_⟩, Or.inr ⟨M268_, ⟨_, _, _, _, hs274_⟩, Or.inr ⟨⟨_, _, _, _, by rw [hM_]; exact hs287_⟩, hq_v1_51y⟩⟩⟩⟩
theorem term_both {N N2 m : Nat} {QA QB QA2 QB2 : mM → mM → Prop} (hO : BOTH (SP_X4_readOne N m QA QB) (fun D D2 : mM => ∃ (s : Int) (W : Nat) (a T : Int), SP_X12_one N2 m QA2 QB2 s W a T D D2)) : BOTH (SP_X4_readTerm N m QA QB) (fun D D2 : mM => ∃ (s : Int) (W : Nat) (a T : Int), SP_X12_term N2 m QA2 QB2 s W a T D D2) := by
  intro e C C2 D D2 he h h1 h2 hf hg
  obtain ⟨s, W, a, T, h2⟩ := h2
  refine xE_SP_X4_readTerm h1 (fun c_M1_ _ c_hF5_ c_hs7_ c_h3_ c_v1_6 c_hv0_6 c_hv1_6 c_M_6 c_hL_6 _ c_hF_6 => ⟨(fun c_h11_ c_hM_ => ?_), (fun c_h11_ c_z12_ c_e13_ => ⟨(fun c_h14_ c_hM_ => ?_), (fun c_h14_ c_M16_ _ c_hF20_ c_r15_ c_hs22_ c_h26_ c_h61_ c_h96_ c_hM_ => ?_)⟩)⟩)
  ·
    refine xE_SP_X12_term h2 (fun d_M1_ _ d_hF5_ d_hs7_ d_M11_ _ d_hF15_ => ⟨(fun d_hs17_ d_v1_51 d_hv0_51 d_M_51 d_hL_51 _ d_hF_51 d_hv1_51 d_h23_ d_h24_ d_hM_ => ?_), (fun d_hs17_ d_M85_ _ d_hF89_ => ⟨(fun d_hs91_ d_v1_51 d_hv0_51 d_M_51 d_hL_51 _ d_hF_51 d_hv1_51 d_h97_ d_h98_ d_hM_ => ?_), (fun d_hs91_ d_M159_ _ d_hF163_ => ⟨(fun d_hs165_ d_v1_51 d_hv0_51 d_M_51 d_hL_51 _ d_hF_51 d_hv1_51 d_h171_ d_h172_ d_hM_ => ?_), (fun d_hs165_ d_v1_51 d_hv0_51 d_M_51 d_hL_51 _ d_hF_51 d_hv1_51 d_h233_ d_h234_ d_hM_ => ?_)⟩)⟩)⟩)
    · have o1 := hO e _ _ _ _ he h c_hs7_ ⟨_, _, _, _, d_hs7_⟩ c_hF5_ d_hF5_
      have lb := loop_both gopT hP_term hO he (z := (c_v1_6, c_M_6)) (w := (d_v1_51, d_M_51)) o1.1 (RCH_mono c_hL_6 (fun x y k => st_readTerm k)) (Or.inl ⟨c_h11_, c_hM_⟩) (show (RAW3 42 47 37 2005 2006 2007) _ _ _ from Or.inl ⟨⟨_, _, _, _, d_hs17_⟩, rfl⟩) (RCH_mono d_hL_51 (fun x y k => st_X12_term_51 k)) d_h24_
      rw [d_hM_]
      exact PRX_pre lb o1.2
    · have o1 := hO e _ _ _ _ he h c_hs7_ ⟨_, _, _, _, d_hs7_⟩ c_hF5_ d_hF5_
      have lb := loop_both gopT hP_term hO he (z := (c_v1_6, c_M_6)) (w := (d_v1_51, d_M_51)) o1.1 (RCH_mono c_hL_6 (fun x y k => st_readTerm k)) (Or.inl ⟨c_h11_, c_hM_⟩) (show (RAW3 42 47 37 2005 2006 2007) _ _ _ from Or.inr ⟨d_M11_, ⟨_, _, _, _, d_hs17_⟩, Or.inl ⟨⟨_, _, _, _, d_hs91_⟩, rfl⟩⟩) (RCH_mono d_hL_51 (fun x y k => st_X12_term_51b k)) d_h98_
      rw [d_hM_]
      exact PRX_pre lb o1.2
    · have o1 := hO e _ _ _ _ he h c_hs7_ ⟨_, _, _, _, d_hs7_⟩ c_hF5_ d_hF5_
      have lb := loop_both gopT hP_term hO he (z := (c_v1_6, c_M_6)) (w := (d_v1_51, d_M_51)) o1.1 (RCH_mono c_hL_6 (fun x y k => st_readTerm k)) (Or.inl ⟨c_h11_, c_hM_⟩) (show (RAW3 42 47 37 2005 2006 2007) _ _ _ from Or.inr ⟨d_M11_, ⟨_, _, _, _, d_hs17_⟩, Or.inr ⟨d_M85_, ⟨_, _, _, _, d_hs91_⟩, Or.inl ⟨⟨_, _, _, _, d_hs165_⟩, rfl⟩⟩⟩) (RCH_mono d_hL_51 (fun x y k => st_X12_term_51c k)) d_h172_
      rw [d_hM_]
      exact PRX_pre lb o1.2
    · have o1 := hO e _ _ _ _ he h c_hs7_ ⟨_, _, _, _, d_hs7_⟩ c_hF5_ d_hF5_
      have lb := loop_both gopT hP_term hO he (z := (c_v1_6, c_M_6)) (w := (d_v1_51, d_M_51)) o1.1 (RCH_mono c_hL_6 (fun x y k => st_readTerm k)) (Or.inl ⟨c_h11_, c_hM_⟩) (show (RAW3 42 47 37 2005 2006 2007) _ _ _ from Or.inr ⟨d_M11_, ⟨_, _, _, _, d_hs17_⟩, Or.inr ⟨d_M85_, ⟨_, _, _, _, d_hs91_⟩, Or.inr ⟨⟨_, _, _, _, d_hs165_⟩, rfl⟩⟩⟩) (RCH_mono d_hL_51 (fun x y k => st_X12_term_51d k)) d_h234_
      rw [d_hM_]
      exact PRX_pre lb o1.2
  ·
    refine xE_SP_X12_term h2 (fun d_M1_ _ d_hF5_ d_hs7_ d_M11_ _ d_hF15_ => ⟨(fun d_hs17_ d_v1_51 d_hv0_51 d_M_51 d_hL_51 _ d_hF_51 d_hv1_51 d_h23_ d_h24_ d_hM_ => ?_), (fun d_hs17_ d_M85_ _ d_hF89_ => ⟨(fun d_hs91_ d_v1_51 d_hv0_51 d_M_51 d_hL_51 _ d_hF_51 d_hv1_51 d_h97_ d_h98_ d_hM_ => ?_), (fun d_hs91_ d_M159_ _ d_hF163_ => ⟨(fun d_hs165_ d_v1_51 d_hv0_51 d_M_51 d_hL_51 _ d_hF_51 d_hv1_51 d_h171_ d_h172_ d_hM_ => ?_), (fun d_hs165_ d_v1_51 d_hv0_51 d_M_51 d_hL_51 _ d_hF_51 d_hv1_51 d_h233_ d_h234_ d_hM_ => ?_)⟩)⟩)⟩)
    · have o1 := hO e _ _ _ _ he h c_hs7_ ⟨_, _, _, _, d_hs7_⟩ c_hF5_ d_hF5_
      have lb := loop_both gopT hP_term hO he (z := (c_v1_6, c_M_6)) (w := (d_v1_51, d_M_51)) o1.1 (RCH_mono c_hL_6 (fun x y k => st_readTerm k)) (Or.inr (Or.inl ⟨by rw [← c_e13_]; exact c_h14_, c_hM_⟩)) (show (RAW3 42 47 37 2005 2006 2007) _ _ _ from Or.inl ⟨⟨_, _, _, _, d_hs17_⟩, rfl⟩) (RCH_mono d_hL_51 (fun x y k => st_X12_term_51 k)) d_h24_
      rw [d_hM_]
      exact PRX_pre lb o1.2
    · have o1 := hO e _ _ _ _ he h c_hs7_ ⟨_, _, _, _, d_hs7_⟩ c_hF5_ d_hF5_
      have lb := loop_both gopT hP_term hO he (z := (c_v1_6, c_M_6)) (w := (d_v1_51, d_M_51)) o1.1 (RCH_mono c_hL_6 (fun x y k => st_readTerm k)) (Or.inr (Or.inl ⟨by rw [← c_e13_]; exact c_h14_, c_hM_⟩)) (show (RAW3 42 47 37 2005 2006 2007) _ _ _ from Or.inr ⟨d_M11_, ⟨_, _, _, _, d_hs17_⟩, Or.inl ⟨⟨_, _, _, _, d_hs91_⟩, rfl⟩⟩) (RCH_mono d_hL_51 (fun x y k => st_X12_term_51b k)) d_h98_
      rw [d_hM_]
      exact PRX_pre lb o1.2
    · have o1 := hO e _ _ _ _ he h c_hs7_ ⟨_, _, _, _, d_hs7_⟩ c_hF5_ d_hF5_
      have lb := loop_both gopT hP_term hO he (z := (c_v1_6, c_M_6)) (w := (d_v1_51, d_M_51)) o1.1 (RCH_mono c_hL_6 (fun x y k => st_readTerm k)) (Or.inr (Or.inl ⟨by rw [← c_e13_]; exact c_h14_, c_hM_⟩)) (show (RAW3 42 47 37 2005 2006 2007) _ _ _ from Or.inr ⟨d_M11_, ⟨_, _, _, _, d_hs17_⟩, Or.inr ⟨d_M85_, ⟨_, _, _, _, d_hs91_⟩, Or.inl ⟨⟨_, _, _, _, d_hs165_⟩, rfl⟩⟩⟩) (RCH_mono d_hL_51 (fun x y k => st_X12_term_51c k)) d_h172_
      rw [d_hM_]
      exact PRX_pre lb o1.2
    · have o1 := hO e _ _ _ _ he h c_hs7_ ⟨_, _, _, _, d_hs7_⟩ c_hF5_ d_hF5_
      have lb := loop_both gopT hP_term hO he (z := (c_v1_6, c_M_6)) (w := (d_v1_51, d_M_51)) o1.1 (RCH_mono c_hL_6 (fun x y k => st_readTerm k)) (Or.inr (Or.inl ⟨by rw [← c_e13_]; exact c_h14_, c_hM_⟩)) (show (RAW3 42 47 37 2005 2006 2007) _ _ _ from Or.inr ⟨d_M11_, ⟨_, _, _, _, d_hs17_⟩, Or.inr ⟨d_M85_, ⟨_, _, _, _, d_hs91_⟩, Or.inr ⟨⟨_, _, _, _, d_hs165_⟩, rfl⟩⟩⟩) (RCH_mono d_hL_51 (fun x y k => st_X12_term_51d k)) d_h234_
      rw [d_hM_]
      exact PRX_pre lb o1.2
  ·
    refine xE_SP_X12_term h2 (fun d_M1_ _ d_hF5_ d_hs7_ d_M11_ _ d_hF15_ => ⟨(fun d_hs17_ d_v1_51 d_hv0_51 d_M_51 d_hL_51 _ d_hF_51 d_hv1_51 d_h23_ d_h24_ d_hM_ => ?_), (fun d_hs17_ d_M85_ _ d_hF89_ => ⟨(fun d_hs91_ d_v1_51 d_hv0_51 d_M_51 d_hL_51 _ d_hF_51 d_hv1_51 d_h97_ d_h98_ d_hM_ => ?_), (fun d_hs91_ d_M159_ _ d_hF163_ => ⟨(fun d_hs165_ d_v1_51 d_hv0_51 d_M_51 d_hL_51 _ d_hF_51 d_hv1_51 d_h171_ d_h172_ d_hM_ => ?_), (fun d_hs165_ d_v1_51 d_hv0_51 d_M_51 d_hL_51 _ d_hF_51 d_hv1_51 d_h233_ d_h234_ d_hM_ => ?_)⟩)⟩)⟩)
    · have o1 := hO e _ _ _ _ he h c_hs7_ ⟨_, _, _, _, d_hs7_⟩ c_hF5_ d_hF5_
      have lb := loop_both gopT hP_term hO he (z := (c_v1_6, c_M_6)) (w := (d_v1_51, d_M_51)) o1.1 (RCH_mono c_hL_6 (fun x y k => st_readTerm k)) (Or.inr (Or.inr ⟨by rw [← c_e13_]; exact c_h14_, c_r15_, (show SP_X4_next c_M_6 c_r15_ C2 by rw [c_hM_]; exact c_hs22_), by unfold opT; rw [if_neg c_h26_, if_neg c_h61_, if_neg c_h96_]⟩)) (show (RAW3 42 47 37 2005 2006 2007) _ _ _ from Or.inl ⟨⟨_, _, _, _, d_hs17_⟩, rfl⟩) (RCH_mono d_hL_51 (fun x y k => st_X12_term_51 k)) d_h24_
      rw [d_hM_]
      exact PRX_pre lb o1.2
    · have o1 := hO e _ _ _ _ he h c_hs7_ ⟨_, _, _, _, d_hs7_⟩ c_hF5_ d_hF5_
      have lb := loop_both gopT hP_term hO he (z := (c_v1_6, c_M_6)) (w := (d_v1_51, d_M_51)) o1.1 (RCH_mono c_hL_6 (fun x y k => st_readTerm k)) (Or.inr (Or.inr ⟨by rw [← c_e13_]; exact c_h14_, c_r15_, (show SP_X4_next c_M_6 c_r15_ C2 by rw [c_hM_]; exact c_hs22_), by unfold opT; rw [if_neg c_h26_, if_neg c_h61_, if_neg c_h96_]⟩)) (show (RAW3 42 47 37 2005 2006 2007) _ _ _ from Or.inr ⟨d_M11_, ⟨_, _, _, _, d_hs17_⟩, Or.inl ⟨⟨_, _, _, _, d_hs91_⟩, rfl⟩⟩) (RCH_mono d_hL_51 (fun x y k => st_X12_term_51b k)) d_h98_
      rw [d_hM_]
      exact PRX_pre lb o1.2
    · have o1 := hO e _ _ _ _ he h c_hs7_ ⟨_, _, _, _, d_hs7_⟩ c_hF5_ d_hF5_
      have lb := loop_both gopT hP_term hO he (z := (c_v1_6, c_M_6)) (w := (d_v1_51, d_M_51)) o1.1 (RCH_mono c_hL_6 (fun x y k => st_readTerm k)) (Or.inr (Or.inr ⟨by rw [← c_e13_]; exact c_h14_, c_r15_, (show SP_X4_next c_M_6 c_r15_ C2 by rw [c_hM_]; exact c_hs22_), by unfold opT; rw [if_neg c_h26_, if_neg c_h61_, if_neg c_h96_]⟩)) (show (RAW3 42 47 37 2005 2006 2007) _ _ _ from Or.inr ⟨d_M11_, ⟨_, _, _, _, d_hs17_⟩, Or.inr ⟨d_M85_, ⟨_, _, _, _, d_hs91_⟩, Or.inl ⟨⟨_, _, _, _, d_hs165_⟩, rfl⟩⟩⟩) (RCH_mono d_hL_51 (fun x y k => st_X12_term_51c k)) d_h172_
      rw [d_hM_]
      exact PRX_pre lb o1.2
    · have o1 := hO e _ _ _ _ he h c_hs7_ ⟨_, _, _, _, d_hs7_⟩ c_hF5_ d_hF5_
      have lb := loop_both gopT hP_term hO he (z := (c_v1_6, c_M_6)) (w := (d_v1_51, d_M_51)) o1.1 (RCH_mono c_hL_6 (fun x y k => st_readTerm k)) (Or.inr (Or.inr ⟨by rw [← c_e13_]; exact c_h14_, c_r15_, (show SP_X4_next c_M_6 c_r15_ C2 by rw [c_hM_]; exact c_hs22_), by unfold opT; rw [if_neg c_h26_, if_neg c_h61_, if_neg c_h96_]⟩)) (show (RAW3 42 47 37 2005 2006 2007) _ _ _ from Or.inr ⟨d_M11_, ⟨_, _, _, _, d_hs17_⟩, Or.inr ⟨d_M85_, ⟨_, _, _, _, d_hs91_⟩, Or.inr ⟨⟨_, _, _, _, d_hs165_⟩, rfl⟩⟩⟩) (RCH_mono d_hL_51 (fun x y k => st_X12_term_51d k)) d_h234_
      rw [d_hM_]
      exact PRX_pre lb o1.2
/-! sum -/
theorem i_sum : (43 : Int32).toInt = 43 ∧ (45 : Int32).toInt = 45 ∧ (2003 : Int32).toInt = 2003 ∧ (2004 : Int32).toInt = 2004 := by decide
theorem hP_sum (D : mM) (v : Int32) (D2 : mM) (hb : ATb D) (h : RAW2 43 45 2003 2004 D v D2) : OPQ opU D v D2 := by
  refine hP2 (by first | decide | simp | (dsimp only; omega)) (by first | decide | simp | (dsimp only; omega)) (by first | decide | simp | (dsimp only; omega)) (fun c q => ?_) D v D2 hb h
  have i := i_sum
  unfold opU
  rw [if_neg (by omega), if_neg (by omega)]
theorem st_readSum {N m : Nat} {QA QB : mM → mM → Prop} {Mz : mM} {x y : Int32 × mM} (h : ST_X4_readSum_6 N m QA QB Mz x.1 x.2 y.1 y.2) : LCs opU (SP_X4_readTerm N m QA QB) x y := by
  refine xE_ST_X4_readSum_6 h (fun hv0_6 hv1_6 _ hF_6 h11_ z12_ e13_ h14_ M16_ _ hF20_ r15_ hs22_ => ⟨(fun h26_ z27_ e28_ z29_ h30_ M31_ hM32_ _ M38_ _ hF42_ hs44_ h40_ z47_ h48_ M49_ _ hF53_ hs55_ z59_ h60_ hq_v1_6y hM_ => ?_), (fun h26_ h61_ z62_ e63_ z64_ h65_ M66_ hM67_ _ M73_ _ hF77_ hs79_ h75_ z82_ h83_ M84_ _ hF88_ hs90_ z94_ h95_ hq_v1_6y hM_ => ?_)⟩)
  · exact ⟨h11_, by rw [← e13_]; exact h14_, r15_, z47_, z29_, M16_, M31_, M38_, hs22_, (show ¬ opU r15_.toInt = 0 by unfold opU; rw [if_pos h26_]; decide), by rw [h30_, e28_], hM32_, hF42_, hs44_, h48_, by rw [hM_]; exact hs55_, by rw [hq_v1_6y]; exact h60_⟩
  · exact ⟨h11_, by rw [← e13_]; exact h14_, r15_, z82_, z64_, M16_, M66_, M73_, hs22_, (show ¬ opU r15_.toInt = 0 by unfold opU; rw [if_neg h26_, if_pos h61_]; decide), by rw [h65_, e63_], hM67_, hF77_, hs79_, h83_, by rw [hM_]; exact hs90_, by rw [hq_v1_6y]; exact h95_⟩
theorem st_X12_sum_36 {N2 m : Nat} {QA2 QB2 : mM → mM → Prop} {s : Int} {W : Nat} {T : Int} {Mz : mM} {x y : Int32 × mM} (h : ST_X12_sum_36 N2 m QA2 QB2 s W T Mz x.1 x.2 y.1 y.2) : LDs (RAW2 43 45 2003 2004) (fun D D2 : mM => ∃ (s : Int) (W : Nat) (a T : Int), SP_X12_term N2 m QA2 QB2 s W a T D D2) x y := by
  refine xE_ST_X12_sum_36 h (fun hv0_36 _ hF_36 h23_ h24_ M27_ _ hF31_ hs33_ M36_ _ hF40_ hs42_ M45_ _ hF49_ => ⟨(fun hs51_ h53_ hq_v1_36y hM_ => ?_), (fun hs51_ M58_ _ hF62_ => ⟨(fun hs64_ h66_ hq_v1_36y hM_ => ?_), (fun hs64_ h60_ hq_v1_36y hM_ => ?_)⟩)⟩)
  · exact ⟨h24_, M27_, M36_, _, _, _, _, _, hF31_, ⟨_, _, _, _, hs33_⟩, hs42_, Or.inl ⟨⟨_, _, _, _, by rw [hM_]; exact hs51_⟩, hq_v1_36y⟩⟩
  · exact ⟨h24_, M27_, M36_, _, _, _, _, _, hF31_, ⟨_, _, _, _, hs33_⟩, hs42_, Or.inr ⟨M45_, ⟨_, _, _, _, hs51_⟩, Or.inl ⟨⟨_, _, _, _, by rw [hM_]; exact hs64_⟩, hq_v1_36y⟩⟩⟩
  · exact ⟨h24_, M27_, M36_, _, _, _, _, _, hF31_, ⟨_, _, _, _, hs33_⟩, hs42_, Or.inr ⟨M45_, ⟨_, _, _, _, hs51_⟩, Or.inr ⟨⟨_, _, _, _, by rw [hM_]; exact hs64_⟩, hq_v1_36y⟩⟩⟩
theorem st_X12_sum_36b {N2 m : Nat} {QA2 QB2 : mM → mM → Prop} {s : Int} {W : Nat} {T : Int} {Mz : mM} {x y : Int32 × mM} (h : ST_X12_sum_36b N2 m QA2 QB2 s W T Mz x.1 x.2 y.1 y.2) : LDs (RAW2 43 45 2003 2004) (fun D D2 : mM => ∃ (s : Int) (W : Nat) (a T : Int), SP_X12_term N2 m QA2 QB2 s W a T D D2) x y := by
  refine xE_ST_X12_sum_36b h (fun hv0_36 _ hF_36 h84_ h85_ M88_ _ hF92_ hs94_ M97_ _ hF101_ hs103_ M106_ _ hF110_ => ⟨(fun hs112_ h114_ hq_v1_36y hM_ => ?_), (fun hs112_ M119_ _ hF123_ => ⟨(fun hs125_ h127_ hq_v1_36y hM_ => ?_), (fun hs125_ h121_ hq_v1_36y hM_ => ?_)⟩)⟩)
  · exact ⟨h85_, M88_, M97_, _, _, _, _, _, hF92_, ⟨_, _, _, _, hs94_⟩, hs103_, Or.inl ⟨⟨_, _, _, _, by rw [hM_]; exact hs112_⟩, hq_v1_36y⟩⟩
  · exact ⟨h85_, M88_, M97_, _, _, _, _, _, hF92_, ⟨_, _, _, _, hs94_⟩, hs103_, Or.inr ⟨M106_, ⟨_, _, _, _, hs112_⟩, Or.inl ⟨⟨_, _, _, _, by rw [hM_]; exact hs125_⟩, hq_v1_36y⟩⟩⟩
  · exact ⟨h85_, M88_, M97_, _, _, _, _, _, hF92_, ⟨_, _, _, _, hs94_⟩, hs103_, Or.inr ⟨M106_, ⟨_, _, _, _, hs112_⟩, Or.inr ⟨⟨_, _, _, _, by rw [hM_]; exact hs125_⟩, hq_v1_36y⟩⟩⟩
theorem st_X12_sum_36c {N2 m : Nat} {QA2 QB2 : mM → mM → Prop} {s : Int} {W : Nat} {T : Int} {Mz : mM} {x y : Int32 × mM} (h : ST_X12_sum_36c N2 m QA2 QB2 s W T Mz x.1 x.2 y.1 y.2) : LDs (RAW2 43 45 2003 2004) (fun D D2 : mM => ∃ (s : Int) (W : Nat) (a T : Int), SP_X12_term N2 m QA2 QB2 s W a T D D2) x y := by
  refine xE_ST_X12_sum_36c h (fun hv0_36 _ hF_36 h133_ h134_ M137_ _ hF141_ hs143_ M146_ _ hF150_ hs152_ M155_ _ hF159_ => ⟨(fun hs161_ h163_ hq_v1_36y hM_ => ?_), (fun hs161_ M168_ _ hF172_ => ⟨(fun hs174_ h176_ hq_v1_36y hM_ => ?_), (fun hs174_ h170_ hq_v1_36y hM_ => ?_)⟩)⟩)
  · exact ⟨h134_, M137_, M146_, _, _, _, _, _, hF141_, ⟨_, _, _, _, hs143_⟩, hs152_, Or.inl ⟨⟨_, _, _, _, by rw [hM_]; exact hs161_⟩, hq_v1_36y⟩⟩
  · exact ⟨h134_, M137_, M146_, _, _, _, _, _, hF141_, ⟨_, _, _, _, hs143_⟩, hs152_, Or.inr ⟨M155_, ⟨_, _, _, _, hs161_⟩, Or.inl ⟨⟨_, _, _, _, by rw [hM_]; exact hs174_⟩, hq_v1_36y⟩⟩⟩
  · exact ⟨h134_, M137_, M146_, _, _, _, _, _, hF141_, ⟨_, _, _, _, hs143_⟩, hs152_, Or.inr ⟨M155_, ⟨_, _, _, _, hs161_⟩, Or.inr ⟨⟨_, _, _, _, by rw [hM_]; exact hs174_⟩, hq_v1_36y⟩⟩⟩
theorem sum_both {N N2 m : Nat} {QA QB QA2 QB2 : mM → mM → Prop} (hO : BOTH (SP_X4_readTerm N m QA QB) (fun D D2 : mM => ∃ (s : Int) (W : Nat) (a T : Int), SP_X12_term N2 m QA2 QB2 s W a T D D2)) : BOTH (SP_X4_readSum N m QA QB) (fun D D2 : mM => ∃ (s : Int) (W : Nat) (a T : Int), SP_X12_sum N2 m QA2 QB2 s W a T D D2) := by
  intro e C C2 D D2 he h h1 h2 hf hg
  obtain ⟨s, W, a, T, h2⟩ := h2
  refine xE_SP_X4_readSum h1 (fun c_M1_ _ c_hF5_ c_hs7_ c_h3_ c_v1_6 c_hv0_6 c_hv1_6 c_M_6 c_hL_6 _ c_hF_6 => ⟨(fun c_h11_ c_hM_ => ?_), (fun c_h11_ c_z12_ c_e13_ => ⟨(fun c_h14_ c_hM_ => ?_), (fun c_h14_ c_M16_ _ c_hF20_ c_r15_ c_hs22_ c_h26_ c_h61_ c_hM_ => ?_)⟩)⟩)
  ·
    refine xE_SP_X12_sum h2 (fun d_M1_ _ d_hF5_ d_hs7_ d_M11_ _ d_hF15_ => ⟨(fun d_hs17_ d_v1_36 d_hv0_36 d_M_36 d_hL_36 _ d_hF_36 d_hv1_36 d_h23_ d_h24_ d_hM_ => ?_), (fun d_hs17_ d_M72_ _ d_hF76_ => ⟨(fun d_hs78_ d_v1_36 d_hv0_36 d_M_36 d_hL_36 _ d_hF_36 d_hv1_36 d_h84_ d_h85_ d_hM_ => ?_), (fun d_hs78_ d_v1_36 d_hv0_36 d_M_36 d_hL_36 _ d_hF_36 d_hv1_36 d_h133_ d_h134_ d_hM_ => ?_)⟩)⟩)
    · have o1 := hO e _ _ _ _ he h c_hs7_ ⟨_, _, _, _, d_hs7_⟩ c_hF5_ d_hF5_
      have lb := loop_both gopU hP_sum hO he (z := (c_v1_6, c_M_6)) (w := (d_v1_36, d_M_36)) o1.1 (RCH_mono c_hL_6 (fun x y k => st_readSum k)) (Or.inl ⟨c_h11_, c_hM_⟩) (show (RAW2 43 45 2003 2004) _ _ _ from Or.inl ⟨⟨_, _, _, _, d_hs17_⟩, rfl⟩) (RCH_mono d_hL_36 (fun x y k => st_X12_sum_36 k)) d_h24_
      rw [d_hM_]
      exact PRX_pre lb o1.2
    · have o1 := hO e _ _ _ _ he h c_hs7_ ⟨_, _, _, _, d_hs7_⟩ c_hF5_ d_hF5_
      have lb := loop_both gopU hP_sum hO he (z := (c_v1_6, c_M_6)) (w := (d_v1_36, d_M_36)) o1.1 (RCH_mono c_hL_6 (fun x y k => st_readSum k)) (Or.inl ⟨c_h11_, c_hM_⟩) (show (RAW2 43 45 2003 2004) _ _ _ from Or.inr ⟨d_M11_, ⟨_, _, _, _, d_hs17_⟩, Or.inl ⟨⟨_, _, _, _, d_hs78_⟩, rfl⟩⟩) (RCH_mono d_hL_36 (fun x y k => st_X12_sum_36b k)) d_h85_
      rw [d_hM_]
      exact PRX_pre lb o1.2
    · have o1 := hO e _ _ _ _ he h c_hs7_ ⟨_, _, _, _, d_hs7_⟩ c_hF5_ d_hF5_
      have lb := loop_both gopU hP_sum hO he (z := (c_v1_6, c_M_6)) (w := (d_v1_36, d_M_36)) o1.1 (RCH_mono c_hL_6 (fun x y k => st_readSum k)) (Or.inl ⟨c_h11_, c_hM_⟩) (show (RAW2 43 45 2003 2004) _ _ _ from Or.inr ⟨d_M11_, ⟨_, _, _, _, d_hs17_⟩, Or.inr ⟨⟨_, _, _, _, d_hs78_⟩, rfl⟩⟩) (RCH_mono d_hL_36 (fun x y k => st_X12_sum_36c k)) d_h134_
      rw [d_hM_]
      exact PRX_pre lb o1.2
  ·
    refine xE_SP_X12_sum h2 (fun d_M1_ _ d_hF5_ d_hs7_ d_M11_ _ d_hF15_ => ⟨(fun d_hs17_ d_v1_36 d_hv0_36 d_M_36 d_hL_36 _ d_hF_36 d_hv1_36 d_h23_ d_h24_ d_hM_ => ?_), (fun d_hs17_ d_M72_ _ d_hF76_ => ⟨(fun d_hs78_ d_v1_36 d_hv0_36 d_M_36 d_hL_36 _ d_hF_36 d_hv1_36 d_h84_ d_h85_ d_hM_ => ?_), (fun d_hs78_ d_v1_36 d_hv0_36 d_M_36 d_hL_36 _ d_hF_36 d_hv1_36 d_h133_ d_h134_ d_hM_ => ?_)⟩)⟩)
    · have o1 := hO e _ _ _ _ he h c_hs7_ ⟨_, _, _, _, d_hs7_⟩ c_hF5_ d_hF5_
      have lb := loop_both gopU hP_sum hO he (z := (c_v1_6, c_M_6)) (w := (d_v1_36, d_M_36)) o1.1 (RCH_mono c_hL_6 (fun x y k => st_readSum k)) (Or.inr (Or.inl ⟨by rw [← c_e13_]; exact c_h14_, c_hM_⟩)) (show (RAW2 43 45 2003 2004) _ _ _ from Or.inl ⟨⟨_, _, _, _, d_hs17_⟩, rfl⟩) (RCH_mono d_hL_36 (fun x y k => st_X12_sum_36 k)) d_h24_
      rw [d_hM_]
      exact PRX_pre lb o1.2
    · have o1 := hO e _ _ _ _ he h c_hs7_ ⟨_, _, _, _, d_hs7_⟩ c_hF5_ d_hF5_
      have lb := loop_both gopU hP_sum hO he (z := (c_v1_6, c_M_6)) (w := (d_v1_36, d_M_36)) o1.1 (RCH_mono c_hL_6 (fun x y k => st_readSum k)) (Or.inr (Or.inl ⟨by rw [← c_e13_]; exact c_h14_, c_hM_⟩)) (show (RAW2 43 45 2003 2004) _ _ _ from Or.inr ⟨d_M11_, ⟨_, _, _, _, d_hs17_⟩, Or.inl ⟨⟨_, _, _, _, d_hs78_⟩, rfl⟩⟩) (RCH_mono d_hL_36 (fun x y k => st_X12_sum_36b k)) d_h85_
      rw [d_hM_]
      exact PRX_pre lb o1.2
    · have o1 := hO e _ _ _ _ he h c_hs7_ ⟨_, _, _, _, d_hs7_⟩ c_hF5_ d_hF5_
      have lb := loop_both gopU hP_sum hO he (z := (c_v1_6, c_M_6)) (w := (d_v1_36, d_M_36)) o1.1 (RCH_mono c_hL_6 (fun x y k => st_readSum k)) (Or.inr (Or.inl ⟨by rw [← c_e13_]; exact c_h14_, c_hM_⟩)) (show (RAW2 43 45 2003 2004) _ _ _ from Or.inr ⟨d_M11_, ⟨_, _, _, _, d_hs17_⟩, Or.inr ⟨⟨_, _, _, _, d_hs78_⟩, rfl⟩⟩) (RCH_mono d_hL_36 (fun x y k => st_X12_sum_36c k)) d_h134_
      rw [d_hM_]
      exact PRX_pre lb o1.2
  ·
    refine xE_SP_X12_sum h2 (fun d_M1_ _ d_hF5_ d_hs7_ d_M11_ _ d_hF15_ => ⟨(fun d_hs17_ d_v1_36 d_hv0_36 d_M_36 d_hL_36 _ d_hF_36 d_hv1_36 d_h23_ d_h24_ d_hM_ => ?_), (fun d_hs17_ d_M72_ _ d_hF76_ => ⟨(fun d_hs78_ d_v1_36 d_hv0_36 d_M_36 d_hL_36 _ d_hF_36 d_hv1_36 d_h84_ d_h85_ d_hM_ => ?_), (fun d_hs78_ d_v1_36 d_hv0_36 d_M_36 d_hL_36 _ d_hF_36 d_hv1_36 d_h133_ d_h134_ d_hM_ => ?_)⟩)⟩)
    · have o1 := hO e _ _ _ _ he h c_hs7_ ⟨_, _, _, _, d_hs7_⟩ c_hF5_ d_hF5_
      have lb := loop_both gopU hP_sum hO he (z := (c_v1_6, c_M_6)) (w := (d_v1_36, d_M_36)) o1.1 (RCH_mono c_hL_6 (fun x y k => st_readSum k)) (Or.inr (Or.inr ⟨by rw [← c_e13_]; exact c_h14_, c_r15_, (show SP_X4_next c_M_6 c_r15_ C2 by rw [c_hM_]; exact c_hs22_), by unfold opU; rw [if_neg c_h26_, if_neg c_h61_]⟩)) (show (RAW2 43 45 2003 2004) _ _ _ from Or.inl ⟨⟨_, _, _, _, d_hs17_⟩, rfl⟩) (RCH_mono d_hL_36 (fun x y k => st_X12_sum_36 k)) d_h24_
      rw [d_hM_]
      exact PRX_pre lb o1.2
    · have o1 := hO e _ _ _ _ he h c_hs7_ ⟨_, _, _, _, d_hs7_⟩ c_hF5_ d_hF5_
      have lb := loop_both gopU hP_sum hO he (z := (c_v1_6, c_M_6)) (w := (d_v1_36, d_M_36)) o1.1 (RCH_mono c_hL_6 (fun x y k => st_readSum k)) (Or.inr (Or.inr ⟨by rw [← c_e13_]; exact c_h14_, c_r15_, (show SP_X4_next c_M_6 c_r15_ C2 by rw [c_hM_]; exact c_hs22_), by unfold opU; rw [if_neg c_h26_, if_neg c_h61_]⟩)) (show (RAW2 43 45 2003 2004) _ _ _ from Or.inr ⟨d_M11_, ⟨_, _, _, _, d_hs17_⟩, Or.inl ⟨⟨_, _, _, _, d_hs78_⟩, rfl⟩⟩) (RCH_mono d_hL_36 (fun x y k => st_X12_sum_36b k)) d_h85_
      rw [d_hM_]
      exact PRX_pre lb o1.2
    · have o1 := hO e _ _ _ _ he h c_hs7_ ⟨_, _, _, _, d_hs7_⟩ c_hF5_ d_hF5_
      have lb := loop_both gopU hP_sum hO he (z := (c_v1_6, c_M_6)) (w := (d_v1_36, d_M_36)) o1.1 (RCH_mono c_hL_6 (fun x y k => st_readSum k)) (Or.inr (Or.inr ⟨by rw [← c_e13_]; exact c_h14_, c_r15_, (show SP_X4_next c_M_6 c_r15_ C2 by rw [c_hM_]; exact c_hs22_), by unfold opU; rw [if_neg c_h26_, if_neg c_h61_]⟩)) (show (RAW2 43 45 2003 2004) _ _ _ from Or.inr ⟨d_M11_, ⟨_, _, _, _, d_hs17_⟩, Or.inr ⟨⟨_, _, _, _, d_hs78_⟩, rfl⟩⟩) (RCH_mono d_hL_36 (fun x y k => st_X12_sum_36c k)) d_h134_
      rw [d_hM_]
      exact PRX_pre lb o1.2
/-! text -/
theorem i_text : (60 : Int32).toInt = 60 ∧ (61 : Int32).toInt = 61 ∧ (62 : Int32).toInt = 62 ∧ (2000 : Int32).toInt = 2000 ∧ (2001 : Int32).toInt = 2001 ∧ (2002 : Int32).toInt = 2002 := by decide
theorem hP_text (D : mM) (v : Int32) (D2 : mM) (hb : ATb D) (h : RAW3 60 61 62 2000 2001 2002 D v D2) : OPQ opV D v D2 := by
  refine hP3 (by first | decide | simp | (dsimp only; omega)) (by first | decide | simp | (dsimp only; omega)) (by first | decide | simp | (dsimp only; omega)) (by first | decide | simp | (dsimp only; omega)) (fun c q => ?_) D v D2 hb h
  have i := i_text
  unfold opV
  rw [if_neg (by omega), if_neg (by omega), if_neg (by omega)]
theorem st_readComparisons {N m : Nat} {QA QB : mM → mM → Prop} {Mz : mM} {x y : Int32 × mM} (h : ST_X4_readComparisons_6 N m QA QB Mz x.1 x.2 y.1 y.2) : LCs opV (SP_X4_readSum N m QA QB) x y := by
  refine xE_ST_X4_readComparisons_6 h (fun hv0_6 hv1_6 _ hF_6 h11_ z12_ e13_ h14_ M16_ _ hF20_ r15_ hs22_ => ⟨(fun h26_ z27_ e28_ z29_ h30_ M31_ hM32_ _ M38_ _ hF42_ hs44_ h40_ z47_ h48_ M49_ _ hF53_ hs55_ z59_ h60_ hq_v1_6y hM_ => ?_), (fun h26_ => ⟨(fun h61_ z62_ e63_ z64_ h65_ M66_ hM67_ _ M73_ _ hF77_ hs79_ h75_ z82_ h83_ M84_ _ hF88_ hs90_ z94_ h95_ hq_v1_6y hM_ => ?_), (fun h61_ h96_ z97_ e98_ z99_ h100_ M101_ hM102_ _ M108_ _ hF112_ hs114_ h110_ z117_ h118_ M119_ _ hF123_ hs125_ z129_ h130_ hq_v1_6y hM_ => ?_)⟩)⟩)
  · exact ⟨h11_, by rw [← e13_]; exact h14_, r15_, z47_, z29_, M16_, M31_, M38_, hs22_, (show ¬ opV r15_.toInt = 0 by unfold opV; rw [if_pos h26_]; decide), by rw [h30_, e28_], hM32_, hF42_, hs44_, h48_, by rw [hM_]; exact hs55_, by rw [hq_v1_6y]; exact h60_⟩
  · exact ⟨h11_, by rw [← e13_]; exact h14_, r15_, z82_, z64_, M16_, M66_, M73_, hs22_, (show ¬ opV r15_.toInt = 0 by unfold opV; rw [if_neg h26_, if_pos h61_]; decide), by rw [h65_, e63_], hM67_, hF77_, hs79_, h83_, by rw [hM_]; exact hs90_, by rw [hq_v1_6y]; exact h95_⟩
  · exact ⟨h11_, by rw [← e13_]; exact h14_, r15_, z117_, z99_, M16_, M101_, M108_, hs22_, (show ¬ opV r15_.toInt = 0 by unfold opV; rw [if_neg h26_, if_neg h61_, if_pos h96_]; decide), by rw [h100_, e98_], hM102_, hF112_, hs114_, h118_, by rw [hM_]; exact hs125_, by rw [hq_v1_6y]; exact h130_⟩
theorem st_X12_text_51 {N2 m : Nat} {QA2 QB2 : mM → mM → Prop} {s : Int} {W : Nat} {T : Int} {Mz : mM} {x y : Int32 × mM} (h : ST_X12_text_51 N2 m QA2 QB2 s W T Mz x.1 x.2 y.1 y.2) : LDs (RAW3 60 61 62 2000 2001 2002) (fun D D2 : mM => ∃ (s : Int) (W : Nat) (a T : Int), SP_X12_sum N2 m QA2 QB2 s W a T D D2) x y := by
  refine xE_ST_X12_text_51 h (fun hv0_51 _ hF_51 h23_ h24_ M27_ _ hF31_ hs33_ M36_ _ hF40_ hs42_ M45_ _ hF49_ => ⟨(fun hs51_ h53_ hq_v1_51y hM_ => ?_), (fun hs51_ M58_ _ hF62_ => ⟨(fun hs64_ h66_ hq_v1_51y hM_ => ?_), (fun hs64_ M71_ _ hF75_ => ⟨(fun hs77_ h79_ hq_v1_51y hM_ => ?_), (fun hs77_ h73_ hq_v1_51y hM_ => ?_)⟩)⟩)⟩)
  · exact ⟨h24_, M27_, M36_, _, _, _, _, _, hF31_, ⟨_, _, _, _, hs33_⟩, hs42_, Or.inl ⟨⟨_, _, _, _, by rw [hM_]; exact hs51_⟩, hq_v1_51y⟩⟩
  · exact ⟨h24_, M27_, M36_, _, _, _, _, _, hF31_, ⟨_, _, _, _, hs33_⟩, hs42_, Or.inr ⟨M45_, ⟨_, _, _, _, hs51_⟩, Or.inl ⟨⟨_, _, _, _, by rw [hM_]; exact hs64_⟩, hq_v1_51y⟩⟩⟩
  · exact ⟨h24_, M27_, M36_, _, _, _, _, _, hF31_, ⟨_, _, _, _, hs33_⟩, hs42_, Or.inr ⟨M45_, ⟨_, _, _, _, hs51_⟩, Or.inr ⟨M58_, ⟨_, _, _, _, hs64_⟩, Or.inl ⟨⟨_, _, _, _, by rw [hM_]; exact hs77_⟩, hq_v1_51y⟩⟩⟩⟩
  · exact ⟨h24_, M27_, M36_, _, _, _, _, _, hF31_, ⟨_, _, _, _, hs33_⟩, hs42_, Or.inr ⟨M45_, ⟨_, _, _, _, hs51_⟩, Or.inr ⟨M58_, ⟨_, _, _, _, hs64_⟩, Or.inr ⟨⟨_, _, _, _, by rw [hM_]; exact hs77_⟩, hq_v1_51y⟩⟩⟩⟩
theorem st_X12_text_51b {N2 m : Nat} {QA2 QB2 : mM → mM → Prop} {s : Int} {W : Nat} {T : Int} {Mz : mM} {x y : Int32 × mM} (h : ST_X12_text_51b N2 m QA2 QB2 s W T Mz x.1 x.2 y.1 y.2) : LDs (RAW3 60 61 62 2000 2001 2002) (fun D D2 : mM => ∃ (s : Int) (W : Nat) (a T : Int), SP_X12_sum N2 m QA2 QB2 s W a T D D2) x y := by
  refine xE_ST_X12_text_51b h (fun hv0_51 _ hF_51 h97_ h98_ M101_ _ hF105_ hs107_ M110_ _ hF114_ hs116_ M119_ _ hF123_ => ⟨(fun hs125_ h127_ hq_v1_51y hM_ => ?_), (fun hs125_ M132_ _ hF136_ => ⟨(fun hs138_ h140_ hq_v1_51y hM_ => ?_), (fun hs138_ M145_ _ hF149_ => ⟨(fun hs151_ h153_ hq_v1_51y hM_ => ?_), (fun hs151_ h147_ hq_v1_51y hM_ => ?_)⟩)⟩)⟩)
  · exact ⟨h98_, M101_, M110_, _, _, _, _, _, hF105_, ⟨_, _, _, _, hs107_⟩, hs116_, Or.inl ⟨⟨_, _, _, _, by rw [hM_]; exact hs125_⟩, hq_v1_51y⟩⟩
  · exact ⟨h98_, M101_, M110_, _, _, _, _, _, hF105_, ⟨_, _, _, _, hs107_⟩, hs116_, Or.inr ⟨M119_, ⟨_, _, _, _, hs125_⟩, Or.inl ⟨⟨_, _, _, _, by rw [hM_]; exact hs138_⟩, hq_v1_51y⟩⟩⟩
  · exact ⟨h98_, M101_, M110_, _, _, _, _, _, hF105_, ⟨_, _, _, _, hs107_⟩, hs116_, Or.inr ⟨M119_, ⟨_, _, _, _, hs125_⟩, Or.inr ⟨M132_, ⟨_, _, _, _, hs138_⟩, Or.inl ⟨⟨_, _, _, _, by rw [hM_]; exact hs151_⟩, hq_v1_51y⟩⟩⟩⟩
  · exact ⟨h98_, M101_, M110_, _, _, _, _, _, hF105_, ⟨_, _, _, _, hs107_⟩, hs116_, Or.inr ⟨M119_, ⟨_, _, _, _, hs125_⟩, Or.inr ⟨M132_, ⟨_, _, _, _, hs138_⟩, Or.inr ⟨⟨_, _, _, _, by rw [hM_]; exact hs151_⟩, hq_v1_51y⟩⟩⟩⟩
theorem st_X12_text_51c {N2 m : Nat} {QA2 QB2 : mM → mM → Prop} {s : Int} {W : Nat} {T : Int} {Mz : mM} {x y : Int32 × mM} (h : ST_X12_text_51c N2 m QA2 QB2 s W T Mz x.1 x.2 y.1 y.2) : LDs (RAW3 60 61 62 2000 2001 2002) (fun D D2 : mM => ∃ (s : Int) (W : Nat) (a T : Int), SP_X12_sum N2 m QA2 QB2 s W a T D D2) x y := by
  refine xE_ST_X12_text_51c h (fun hv0_51 _ hF_51 h171_ h172_ M175_ _ hF179_ hs181_ M184_ _ hF188_ hs190_ M193_ _ hF197_ => ⟨(fun hs199_ h201_ hq_v1_51y hM_ => ?_), (fun hs199_ M206_ _ hF210_ => ⟨(fun hs212_ h214_ hq_v1_51y hM_ => ?_), (fun hs212_ M219_ _ hF223_ => ⟨(fun hs225_ h227_ hq_v1_51y hM_ => ?_), (fun hs225_ h221_ hq_v1_51y hM_ => ?_)⟩)⟩)⟩)
  · exact ⟨h172_, M175_, M184_, _, _, _, _, _, hF179_, ⟨_, _, _, _, hs181_⟩, hs190_, Or.inl ⟨⟨_, _, _, _, by rw [hM_]; exact hs199_⟩, hq_v1_51y⟩⟩
  · exact ⟨h172_, M175_, M184_, _, _, _, _, _, hF179_, ⟨_, _, _, _, hs181_⟩, hs190_, Or.inr ⟨M193_, ⟨_, _, _, _, hs199_⟩, Or.inl ⟨⟨_, _, _, _, by rw [hM_]; exact hs212_⟩, hq_v1_51y⟩⟩⟩
  · exact ⟨h172_, M175_, M184_, _, _, _, _, _, hF179_, ⟨_, _, _, _, hs181_⟩, hs190_, Or.inr ⟨M193_, ⟨_, _, _, _, hs199_⟩, Or.inr ⟨M206_, ⟨_, _, _, _, hs212_⟩, Or.inl ⟨⟨_, _, _, _, by rw [hM_]; exact hs225_⟩, hq_v1_51y⟩⟩⟩⟩
  · exact ⟨h172_, M175_, M184_, _, _, _, _, _, hF179_, ⟨_, _, _, _, hs181_⟩, hs190_, Or.inr ⟨M193_, ⟨_, _, _, _, hs199_⟩, Or.inr ⟨M206_, ⟨_, _, _, _, hs212_⟩, Or.inr ⟨⟨_, _, _, _, by rw [hM_]; exact hs225_⟩, hq_v1_51y⟩⟩⟩⟩
theorem st_X12_text_51d {N2 m : Nat} {QA2 QB2 : mM → mM → Prop} {s : Int} {W : Nat} {T : Int} {Mz : mM} {x y : Int32 × mM} (h : ST_X12_text_51d N2 m QA2 QB2 s W T Mz x.1 x.2 y.1 y.2) : LDs (RAW3 60 61 62 2000 2001 2002) (fun D D2 : mM => ∃ (s : Int) (W : Nat) (a T : Int), SP_X12_sum N2 m QA2 QB2 s W a T D D2) x y := by
  refine xE_ST_X12_text_51d h (fun hv0_51 _ hF_51 h233_ h234_ M237_ _ hF241_ hs243_ M246_ _ hF250_ hs252_ M255_ _ hF259_ => ⟨(fun hs261_ h263_ hq_v1_51y hM_ => ?_), (fun hs261_ M268_ _ hF272_ => ⟨(fun hs274_ h276_ hq_v1_51y hM_ => ?_), (fun hs274_ M281_ _ hF285_ => ⟨(fun hs287_ h289_ hq_v1_51y hM_ => ?_), (fun hs287_ h283_ hq_v1_51y hM_ => ?_)⟩)⟩)⟩)
  · exact ⟨h234_, M237_, M246_, _, _, _, _, _, hF241_, ⟨_, _, _, _, hs243_⟩, hs252_, Or.inl ⟨⟨_, _, _, _, by rw [hM_]; exact hs261_⟩, hq_v1_51y⟩⟩
  · exact ⟨h234_, M237_, M246_, _, _, _, _, _, hF241_, ⟨_, _, _, _, hs243_⟩, hs252_, Or.inr ⟨M255_, ⟨_, _, _, _, hs261_⟩, Or.inl ⟨⟨_, _, _, _, by rw [hM_]; exact hs274_⟩, hq_v1_51y⟩⟩⟩
  · exact ⟨h234_, M237_, M246_, _, _, _, _, _, hF241_, ⟨_, _, _, _, hs243_⟩, hs252_, Or.inr ⟨M255_, ⟨_, _, _, _, hs261_⟩, Or.inr ⟨M268_, ⟨_, _, _, _, hs274_⟩, Or.inl ⟨⟨_, _, _, _, by rw [hM_]; exact hs287_⟩, hq_v1_51y⟩⟩⟩⟩
  · exact ⟨h234_, M237_, M246_, _, _, _, _, _, hF241_, ⟨_, _, _, _, hs243_⟩, hs252_, Or.inr ⟨M255_, ⟨_, _, _, _, hs261_⟩, Or.inr ⟨M268_, ⟨_, _, _, _, hs274_⟩, Or.inr ⟨⟨_, _, _, _, by rw [hM_]; exact hs287_⟩, hq_v1_51y⟩⟩⟩⟩
theorem text_both {N N2 m : Nat} {QA QB QA2 QB2 : mM → mM → Prop} (hO : BOTH (SP_X4_readSum N m QA QB) (fun D D2 : mM => ∃ (s : Int) (W : Nat) (a T : Int), SP_X12_sum N2 m QA2 QB2 s W a T D D2)) : BOTH (SP_X4_readComparisons N m QA QB) (fun D D2 : mM => ∃ (s : Int) (W : Nat) (a T : Int), SP_X12_text N2 m QA2 QB2 s W a T D D2) := by
  intro e C C2 D D2 he h h1 h2 hf hg
  obtain ⟨s, W, a, T, h2⟩ := h2
  refine xE_SP_X4_readComparisons h1 (fun c_M1_ _ c_hF5_ c_hs7_ c_h3_ c_v1_6 c_hv0_6 c_hv1_6 c_M_6 c_hL_6 _ c_hF_6 => ⟨(fun c_h11_ c_hM_ => ?_), (fun c_h11_ c_z12_ c_e13_ => ⟨(fun c_h14_ c_hM_ => ?_), (fun c_h14_ c_M16_ _ c_hF20_ c_r15_ c_hs22_ c_h26_ c_h61_ c_h96_ c_hM_ => ?_)⟩)⟩)
  ·
    refine xE_SP_X12_text h2 (fun d_M1_ _ d_hF5_ d_hs7_ d_M11_ _ d_hF15_ => ⟨(fun d_hs17_ d_v1_51 d_hv0_51 d_M_51 d_hL_51 _ d_hF_51 d_hv1_51 d_h23_ d_h24_ d_hM_ => ?_), (fun d_hs17_ d_M85_ _ d_hF89_ => ⟨(fun d_hs91_ d_v1_51 d_hv0_51 d_M_51 d_hL_51 _ d_hF_51 d_hv1_51 d_h97_ d_h98_ d_hM_ => ?_), (fun d_hs91_ d_M159_ _ d_hF163_ => ⟨(fun d_hs165_ d_v1_51 d_hv0_51 d_M_51 d_hL_51 _ d_hF_51 d_hv1_51 d_h171_ d_h172_ d_hM_ => ?_), (fun d_hs165_ d_v1_51 d_hv0_51 d_M_51 d_hL_51 _ d_hF_51 d_hv1_51 d_h233_ d_h234_ d_hM_ => ?_)⟩)⟩)⟩)
    · have o1 := hO e _ _ _ _ he h c_hs7_ ⟨_, _, _, _, d_hs7_⟩ c_hF5_ d_hF5_
      have lb := loop_both gopV hP_text hO he (z := (c_v1_6, c_M_6)) (w := (d_v1_51, d_M_51)) o1.1 (RCH_mono c_hL_6 (fun x y k => st_readComparisons k)) (Or.inl ⟨c_h11_, c_hM_⟩) (show (RAW3 60 61 62 2000 2001 2002) _ _ _ from Or.inl ⟨⟨_, _, _, _, d_hs17_⟩, rfl⟩) (RCH_mono d_hL_51 (fun x y k => st_X12_text_51 k)) d_h24_
      rw [d_hM_]
      exact PRX_pre lb o1.2
    · have o1 := hO e _ _ _ _ he h c_hs7_ ⟨_, _, _, _, d_hs7_⟩ c_hF5_ d_hF5_
      have lb := loop_both gopV hP_text hO he (z := (c_v1_6, c_M_6)) (w := (d_v1_51, d_M_51)) o1.1 (RCH_mono c_hL_6 (fun x y k => st_readComparisons k)) (Or.inl ⟨c_h11_, c_hM_⟩) (show (RAW3 60 61 62 2000 2001 2002) _ _ _ from Or.inr ⟨d_M11_, ⟨_, _, _, _, d_hs17_⟩, Or.inl ⟨⟨_, _, _, _, d_hs91_⟩, rfl⟩⟩) (RCH_mono d_hL_51 (fun x y k => st_X12_text_51b k)) d_h98_
      rw [d_hM_]
      exact PRX_pre lb o1.2
    · have o1 := hO e _ _ _ _ he h c_hs7_ ⟨_, _, _, _, d_hs7_⟩ c_hF5_ d_hF5_
      have lb := loop_both gopV hP_text hO he (z := (c_v1_6, c_M_6)) (w := (d_v1_51, d_M_51)) o1.1 (RCH_mono c_hL_6 (fun x y k => st_readComparisons k)) (Or.inl ⟨c_h11_, c_hM_⟩) (show (RAW3 60 61 62 2000 2001 2002) _ _ _ from Or.inr ⟨d_M11_, ⟨_, _, _, _, d_hs17_⟩, Or.inr ⟨d_M85_, ⟨_, _, _, _, d_hs91_⟩, Or.inl ⟨⟨_, _, _, _, d_hs165_⟩, rfl⟩⟩⟩) (RCH_mono d_hL_51 (fun x y k => st_X12_text_51c k)) d_h172_
      rw [d_hM_]
      exact PRX_pre lb o1.2
    · have o1 := hO e _ _ _ _ he h c_hs7_ ⟨_, _, _, _, d_hs7_⟩ c_hF5_ d_hF5_
      have lb := loop_both gopV hP_text hO he (z := (c_v1_6, c_M_6)) (w := (d_v1_51, d_M_51)) o1.1 (RCH_mono c_hL_6 (fun x y k => st_readComparisons k)) (Or.inl ⟨c_h11_, c_hM_⟩) (show (RAW3 60 61 62 2000 2001 2002) _ _ _ from Or.inr ⟨d_M11_, ⟨_, _, _, _, d_hs17_⟩, Or.inr ⟨d_M85_, ⟨_, _, _, _, d_hs91_⟩, Or.inr ⟨⟨_, _, _, _, d_hs165_⟩, rfl⟩⟩⟩) (RCH_mono d_hL_51 (fun x y k => st_X12_text_51d k)) d_h234_
      rw [d_hM_]
      exact PRX_pre lb o1.2
  ·
    refine xE_SP_X12_text h2 (fun d_M1_ _ d_hF5_ d_hs7_ d_M11_ _ d_hF15_ => ⟨(fun d_hs17_ d_v1_51 d_hv0_51 d_M_51 d_hL_51 _ d_hF_51 d_hv1_51 d_h23_ d_h24_ d_hM_ => ?_), (fun d_hs17_ d_M85_ _ d_hF89_ => ⟨(fun d_hs91_ d_v1_51 d_hv0_51 d_M_51 d_hL_51 _ d_hF_51 d_hv1_51 d_h97_ d_h98_ d_hM_ => ?_), (fun d_hs91_ d_M159_ _ d_hF163_ => ⟨(fun d_hs165_ d_v1_51 d_hv0_51 d_M_51 d_hL_51 _ d_hF_51 d_hv1_51 d_h171_ d_h172_ d_hM_ => ?_), (fun d_hs165_ d_v1_51 d_hv0_51 d_M_51 d_hL_51 _ d_hF_51 d_hv1_51 d_h233_ d_h234_ d_hM_ => ?_)⟩)⟩)⟩)
    · have o1 := hO e _ _ _ _ he h c_hs7_ ⟨_, _, _, _, d_hs7_⟩ c_hF5_ d_hF5_
      have lb := loop_both gopV hP_text hO he (z := (c_v1_6, c_M_6)) (w := (d_v1_51, d_M_51)) o1.1 (RCH_mono c_hL_6 (fun x y k => st_readComparisons k)) (Or.inr (Or.inl ⟨by rw [← c_e13_]; exact c_h14_, c_hM_⟩)) (show (RAW3 60 61 62 2000 2001 2002) _ _ _ from Or.inl ⟨⟨_, _, _, _, d_hs17_⟩, rfl⟩) (RCH_mono d_hL_51 (fun x y k => st_X12_text_51 k)) d_h24_
      rw [d_hM_]
      exact PRX_pre lb o1.2
    · have o1 := hO e _ _ _ _ he h c_hs7_ ⟨_, _, _, _, d_hs7_⟩ c_hF5_ d_hF5_
      have lb := loop_both gopV hP_text hO he (z := (c_v1_6, c_M_6)) (w := (d_v1_51, d_M_51)) o1.1 (RCH_mono c_hL_6 (fun x y k => st_readComparisons k)) (Or.inr (Or.inl ⟨by rw [← c_e13_]; exact c_h14_, c_hM_⟩)) (show (RAW3 60 61 62 2000 2001 2002) _ _ _ from Or.inr ⟨d_M11_, ⟨_, _, _, _, d_hs17_⟩, Or.inl ⟨⟨_, _, _, _, d_hs91_⟩, rfl⟩⟩) (RCH_mono d_hL_51 (fun x y k => st_X12_text_51b k)) d_h98_
      rw [d_hM_]
      exact PRX_pre lb o1.2
    · have o1 := hO e _ _ _ _ he h c_hs7_ ⟨_, _, _, _, d_hs7_⟩ c_hF5_ d_hF5_
      have lb := loop_both gopV hP_text hO he (z := (c_v1_6, c_M_6)) (w := (d_v1_51, d_M_51)) o1.1 (RCH_mono c_hL_6 (fun x y k => st_readComparisons k)) (Or.inr (Or.inl ⟨by rw [← c_e13_]; exact c_h14_, c_hM_⟩)) (show (RAW3 60 61 62 2000 2001 2002) _ _ _ from Or.inr ⟨d_M11_, ⟨_, _, _, _, d_hs17_⟩, Or.inr ⟨d_M85_, ⟨_, _, _, _, d_hs91_⟩, Or.inl ⟨⟨_, _, _, _, d_hs165_⟩, rfl⟩⟩⟩) (RCH_mono d_hL_51 (fun x y k => st_X12_text_51c k)) d_h172_
      rw [d_hM_]
      exact PRX_pre lb o1.2
    · have o1 := hO e _ _ _ _ he h c_hs7_ ⟨_, _, _, _, d_hs7_⟩ c_hF5_ d_hF5_
      have lb := loop_both gopV hP_text hO he (z := (c_v1_6, c_M_6)) (w := (d_v1_51, d_M_51)) o1.1 (RCH_mono c_hL_6 (fun x y k => st_readComparisons k)) (Or.inr (Or.inl ⟨by rw [← c_e13_]; exact c_h14_, c_hM_⟩)) (show (RAW3 60 61 62 2000 2001 2002) _ _ _ from Or.inr ⟨d_M11_, ⟨_, _, _, _, d_hs17_⟩, Or.inr ⟨d_M85_, ⟨_, _, _, _, d_hs91_⟩, Or.inr ⟨⟨_, _, _, _, d_hs165_⟩, rfl⟩⟩⟩) (RCH_mono d_hL_51 (fun x y k => st_X12_text_51d k)) d_h234_
      rw [d_hM_]
      exact PRX_pre lb o1.2
  ·
    refine xE_SP_X12_text h2 (fun d_M1_ _ d_hF5_ d_hs7_ d_M11_ _ d_hF15_ => ⟨(fun d_hs17_ d_v1_51 d_hv0_51 d_M_51 d_hL_51 _ d_hF_51 d_hv1_51 d_h23_ d_h24_ d_hM_ => ?_), (fun d_hs17_ d_M85_ _ d_hF89_ => ⟨(fun d_hs91_ d_v1_51 d_hv0_51 d_M_51 d_hL_51 _ d_hF_51 d_hv1_51 d_h97_ d_h98_ d_hM_ => ?_), (fun d_hs91_ d_M159_ _ d_hF163_ => ⟨(fun d_hs165_ d_v1_51 d_hv0_51 d_M_51 d_hL_51 _ d_hF_51 d_hv1_51 d_h171_ d_h172_ d_hM_ => ?_), (fun d_hs165_ d_v1_51 d_hv0_51 d_M_51 d_hL_51 _ d_hF_51 d_hv1_51 d_h233_ d_h234_ d_hM_ => ?_)⟩)⟩)⟩)
    · have o1 := hO e _ _ _ _ he h c_hs7_ ⟨_, _, _, _, d_hs7_⟩ c_hF5_ d_hF5_
      have lb := loop_both gopV hP_text hO he (z := (c_v1_6, c_M_6)) (w := (d_v1_51, d_M_51)) o1.1 (RCH_mono c_hL_6 (fun x y k => st_readComparisons k)) (Or.inr (Or.inr ⟨by rw [← c_e13_]; exact c_h14_, c_r15_, (show SP_X4_next c_M_6 c_r15_ C2 by rw [c_hM_]; exact c_hs22_), by unfold opV; rw [if_neg c_h26_, if_neg c_h61_, if_neg c_h96_]⟩)) (show (RAW3 60 61 62 2000 2001 2002) _ _ _ from Or.inl ⟨⟨_, _, _, _, d_hs17_⟩, rfl⟩) (RCH_mono d_hL_51 (fun x y k => st_X12_text_51 k)) d_h24_
      rw [d_hM_]
      exact PRX_pre lb o1.2
    · have o1 := hO e _ _ _ _ he h c_hs7_ ⟨_, _, _, _, d_hs7_⟩ c_hF5_ d_hF5_
      have lb := loop_both gopV hP_text hO he (z := (c_v1_6, c_M_6)) (w := (d_v1_51, d_M_51)) o1.1 (RCH_mono c_hL_6 (fun x y k => st_readComparisons k)) (Or.inr (Or.inr ⟨by rw [← c_e13_]; exact c_h14_, c_r15_, (show SP_X4_next c_M_6 c_r15_ C2 by rw [c_hM_]; exact c_hs22_), by unfold opV; rw [if_neg c_h26_, if_neg c_h61_, if_neg c_h96_]⟩)) (show (RAW3 60 61 62 2000 2001 2002) _ _ _ from Or.inr ⟨d_M11_, ⟨_, _, _, _, d_hs17_⟩, Or.inl ⟨⟨_, _, _, _, d_hs91_⟩, rfl⟩⟩) (RCH_mono d_hL_51 (fun x y k => st_X12_text_51b k)) d_h98_
      rw [d_hM_]
      exact PRX_pre lb o1.2
    · have o1 := hO e _ _ _ _ he h c_hs7_ ⟨_, _, _, _, d_hs7_⟩ c_hF5_ d_hF5_
      have lb := loop_both gopV hP_text hO he (z := (c_v1_6, c_M_6)) (w := (d_v1_51, d_M_51)) o1.1 (RCH_mono c_hL_6 (fun x y k => st_readComparisons k)) (Or.inr (Or.inr ⟨by rw [← c_e13_]; exact c_h14_, c_r15_, (show SP_X4_next c_M_6 c_r15_ C2 by rw [c_hM_]; exact c_hs22_), by unfold opV; rw [if_neg c_h26_, if_neg c_h61_, if_neg c_h96_]⟩)) (show (RAW3 60 61 62 2000 2001 2002) _ _ _ from Or.inr ⟨d_M11_, ⟨_, _, _, _, d_hs17_⟩, Or.inr ⟨d_M85_, ⟨_, _, _, _, d_hs91_⟩, Or.inl ⟨⟨_, _, _, _, d_hs165_⟩, rfl⟩⟩⟩) (RCH_mono d_hL_51 (fun x y k => st_X12_text_51c k)) d_h172_
      rw [d_hM_]
      exact PRX_pre lb o1.2
    · have o1 := hO e _ _ _ _ he h c_hs7_ ⟨_, _, _, _, d_hs7_⟩ c_hF5_ d_hF5_
      have lb := loop_both gopV hP_text hO he (z := (c_v1_6, c_M_6)) (w := (d_v1_51, d_M_51)) o1.1 (RCH_mono c_hL_6 (fun x y k => st_readComparisons k)) (Or.inr (Or.inr ⟨by rw [← c_e13_]; exact c_h14_, c_r15_, (show SP_X4_next c_M_6 c_r15_ C2 by rw [c_hM_]; exact c_hs22_), by unfold opV; rw [if_neg c_h26_, if_neg c_h61_, if_neg c_h96_]⟩)) (show (RAW3 60 61 62 2000 2001 2002) _ _ _ from Or.inr ⟨d_M11_, ⟨_, _, _, _, d_hs17_⟩, Or.inr ⟨d_M85_, ⟨_, _, _, _, d_hs91_⟩, Or.inr ⟨⟨_, _, _, _, d_hs165_⟩, rfl⟩⟩⟩) (RCH_mono d_hL_51 (fun x y k => st_X12_text_51d k)) d_h234_
      rw [d_hM_]
      exact PRX_pre lb o1.2
/-! the two parses whole -/
theorem parse_both : ∀ m : Nat, BOTH (SPRp m).1 (SPRd m).1 ∧ BOTH (SPRp m).2 (SPRd m).2 := fun m => by
  have F : BOTH (fun _ _ => False) (fun _ _ => False) := fun _ _ _ _ _ _ _ z => z.elim
  induction m with
  | zero =>
    have a := one_both (N := 0) (N2 := 0) (m := 0) F F
    exact ⟨a, text_both (sum_both (term_both a))⟩
  | succ m ih =>
    have a := fun N N2 => one_both (N := N) (N2 := N2) (m := m + 1) ih.1 ih.2
    exact ⟨a _ _, text_both (sum_both (term_both (a _ _)))⟩
theorem cmp5_both : BOTH SP_X4_cmp5 (SP_X12_text5 0) := (parse_both 5).2
end
section
/-! text() -/
/-- the class's start of a text -/
def TSc (v : Int32) (M C : mM) : Prop := (C.1 (4, 0, 0) 2).toInt = v.toInt + 1 ∧ (C.1 (4, 0, 0) 3).toInt = 0 ∧ (C.1 (4, 0, 0) 4).toInt = -1 ∧ (C.1 (4, 0, 0) 5).toInt = 0 ∧ C.1 (4, 0, 0) 6 = 0 ∧ (C.1 (1, 3, 0) 2).toInt = 0 ∧ ∀ (c : rf) (k : Nat), ¬ c = (4, 0, 0) → ¬ c = (1, 3, 0) → C.1 c k = M.1 c k
def TRc (r : Int32) (Cp M8 : mM) : Prop := ∃ (rn : Int32) (Cn : mM), SP_X4_next Cp rn Cn ∧ ((rn.toInt < 0 ∧ M8 = Cn) ∨ (0 ≤ rn.toInt ∧ SP_X4_fail Cn M8)) ∧ ((0 ≤ (M8.1 (4, 0, 0) 4).toInt ∧ r = (-10 : Int32) - M8.1 (4, 0, 0) 4) ∨ ((M8.1 (4, 0, 0) 4).toInt < 0 ∧ r = M8.1 (4, 0, 0) 6))
theorem TSc_mk {v x : Int32} {M M1 M2 M3 M4 M5 M6 M7 : mM} (h1 : M1 = up M (4, 0, 0) 1 1) (h2 : M2 = up M1 (4, 0, 0) 2 x) (h3 : M3 = up M2 (4, 0, 0) 3 0) (h4 : M4 = up M3 (4, 0, 0) 4 (-1)) (h5 : M5 = up M4 (4, 0, 0) 5 0) (h6 : M6 = up M5 (4, 0, 0) 6 0) (h7 : SP_X1_clear 3 0 M6 M7) (hx : x.toInt = v.toInt + 1) : TSc v M M7 := by
  have q0 := il_0
  have im := il_m1
  refine xE_SP_X1_clear h7 (fun c_M1_ c_hM2_ c_hM_ => ?_)
  have k7 : ∀ (c : rf) (k : Nat), ¬ (c = (1, 3, 0) ∧ k = 2) → M7.1 c k = M6.1 c k := fun c k q => by rw [c_hM_, zupN c_hM2_ q]
  refine ⟨?_, ?_, ?_, ?_, ?_, ?_, fun c k q1 q2 => ?_⟩
  · rw [k7 _ _ (by simp), zupN h6 (by simp), zupN h5 (by simp), zupN h4 (by simp), zupN h3 (by simp), zupE h2 rfl rfl]; exact hx
  · rw [k7 _ _ (by simp), zupN h6 (by simp), zupN h5 (by simp), zupN h4 (by simp), zupE h3 rfl rfl]; exact q0
  · rw [k7 _ _ (by simp), zupN h6 (by simp), zupN h5 (by simp), zupE h4 rfl rfl]; exact im
  · rw [k7 _ _ (by simp), zupN h6 (by simp), zupE h5 rfl rfl]; exact q0
  · rw [k7 _ _ (by simp), zupE h6 rfl rfl]
  · rw [c_hM_, zupE c_hM2_ rfl rfl]; exact q0
  · rw [k7 _ _ (fun z => q2 z.1), zupN h6 (fun z => q1 z.1), zupN h5 (fun z => q1 z.1), zupN h4 (fun z => q1 z.1), zupN h3 (fun z => q1 z.1), zupN h2 (fun z => q1 z.1), zupN h1 (fun z => q1 z.1)]
theorem x4read {v r : Int32} {M M8 : mM} (h : SP_X4_read v M r M8) (hv : 0 ≤ v.toInt ∧ v.toInt ≤ 2) : ∃ C Cp : mM, TSc v M C ∧ SP_X4_cmp5 C Cp ∧ FR S_reader C Cp ∧ TRc r Cp M8 := by
  have q1 := il_1
  have q2 : (2 : Int32).toInt = 2 := by decide
  have q3 : (3 : Int32).toInt = 3 := by decide
  refine xE_SP_X4_read h (fun M1_ hM2_ => ⟨(fun h6_ => ⟨(fun h7_ M8_ hM9_ M14_ hM15_ M20_ hM21_ M26_ hM27_ M33_ hM34_ _ M40_ _ hF44_ hs46_ M50_ _ hF54_ hs56_ M60_ _ hF64_ r59_ hs66_ => ⟨(fun h69_ z70_ e71_ => ⟨(fun h72_ z75_ h76_ hr_ hM_ => ?_), (fun h72_ z77_ e78_ hr_ hM_ => ?_)⟩), (fun h69_ M79_ _ hF83_ hs85_ z88_ e89_ => ⟨(fun h90_ z93_ h94_ hr_ hM_ => ?_), (fun h90_ z95_ e96_ hr_ hM_ => ?_)⟩)⟩), (fun h7_ M97_ hM98_ M103_ hM104_ M109_ hM110_ M115_ hM116_ M122_ hM123_ _ M129_ _ hF133_ hs135_ M139_ _ hF143_ hs145_ M149_ _ hF153_ r148_ hs155_ => ⟨(fun h158_ z159_ e160_ => ⟨(fun h161_ z164_ h165_ hr_ hM_ => ?_), (fun h161_ z166_ e167_ hr_ hM_ => ?_)⟩), (fun h158_ M168_ _ hF172_ hs174_ z177_ e178_ => ⟨(fun h179_ z182_ h183_ hr_ hM_ => ?_), (fun h179_ z184_ e185_ hr_ hM_ => ?_)⟩)⟩)⟩), (fun h6_ M186_ hM187_ M192_ hM193_ M198_ hM199_ M204_ hM205_ M211_ hM212_ _ M218_ _ hF222_ hs224_ M228_ _ hF232_ hs234_ M238_ _ hF242_ r237_ hs244_ => ⟨(fun h247_ z248_ e249_ => ⟨(fun h250_ z253_ h254_ hr_ hM_ => ?_), (fun h250_ z255_ e256_ hr_ hM_ => ?_)⟩), (fun h247_ M257_ _ hF261_ hs263_ z266_ e267_ => ⟨(fun h268_ z271_ h272_ hr_ hM_ => ?_), (fun h268_ z273_ e274_ hr_ hM_ => ?_)⟩)⟩)⟩)
  · exact ⟨M40_, M50_, TSc_mk hM2_ hM9_ hM15_ hM21_ hM27_ hM34_ hs46_ (by omega), hs56_, hF54_, r59_, M60_, hs66_, Or.inl ⟨h69_, hM_⟩, Or.inl ⟨by rw [hM_, ← e71_]; exact h72_, by rw [hr_, h76_, hM_, e71_]⟩⟩
  · exact ⟨M40_, M50_, TSc_mk hM2_ hM9_ hM15_ hM21_ hM27_ hM34_ hs46_ (by omega), hs56_, hF54_, r59_, M60_, hs66_, Or.inl ⟨h69_, hM_⟩, Or.inr ⟨by rw [hM_, ← e71_]; exact h72_, by rw [hr_, hM_, e78_]⟩⟩
  · exact ⟨M40_, M50_, TSc_mk hM2_ hM9_ hM15_ hM21_ hM27_ hM34_ hs46_ (by omega), hs56_, hF54_, r59_, M60_, hs66_, Or.inr ⟨h69_, by rw [hM_]; exact hs85_⟩, Or.inl ⟨by rw [hM_, ← e89_]; exact h90_, by rw [hr_, h94_, hM_, e89_]⟩⟩
  · exact ⟨M40_, M50_, TSc_mk hM2_ hM9_ hM15_ hM21_ hM27_ hM34_ hs46_ (by omega), hs56_, hF54_, r59_, M60_, hs66_, Or.inr ⟨h69_, by rw [hM_]; exact hs85_⟩, Or.inr ⟨by rw [hM_, ← e89_]; exact h90_, by rw [hr_, hM_, e96_]⟩⟩
  · exact ⟨M129_, M139_, TSc_mk hM2_ hM98_ hM104_ hM110_ hM116_ hM123_ hs135_ (by omega), hs145_, hF143_, r148_, M149_, hs155_, Or.inl ⟨h158_, hM_⟩, Or.inl ⟨by rw [hM_, ← e160_]; exact h161_, by rw [hr_, h165_, hM_, e160_]⟩⟩
  · exact ⟨M129_, M139_, TSc_mk hM2_ hM98_ hM104_ hM110_ hM116_ hM123_ hs135_ (by omega), hs145_, hF143_, r148_, M149_, hs155_, Or.inl ⟨h158_, hM_⟩, Or.inr ⟨by rw [hM_, ← e160_]; exact h161_, by rw [hr_, hM_, e167_]⟩⟩
  · exact ⟨M129_, M139_, TSc_mk hM2_ hM98_ hM104_ hM110_ hM116_ hM123_ hs135_ (by omega), hs145_, hF143_, r148_, M149_, hs155_, Or.inr ⟨h158_, by rw [hM_]; exact hs174_⟩, Or.inl ⟨by rw [hM_, ← e178_]; exact h179_, by rw [hr_, h183_, hM_, e178_]⟩⟩
  · exact ⟨M129_, M139_, TSc_mk hM2_ hM98_ hM104_ hM110_ hM116_ hM123_ hs135_ (by omega), hs145_, hF143_, r148_, M149_, hs155_, Or.inr ⟨h158_, by rw [hM_]; exact hs174_⟩, Or.inr ⟨by rw [hM_, ← e178_]; exact h179_, by rw [hr_, hM_, e185_]⟩⟩
  · exact ⟨M218_, M228_, TSc_mk hM2_ hM187_ hM193_ hM199_ hM205_ hM212_ hs224_ (by omega), hs234_, hF232_, r237_, M238_, hs244_, Or.inl ⟨h247_, hM_⟩, Or.inl ⟨by rw [hM_, ← e249_]; exact h250_, by rw [hr_, h254_, hM_, e249_]⟩⟩
  · exact ⟨M218_, M228_, TSc_mk hM2_ hM187_ hM193_ hM199_ hM205_ hM212_ hs224_ (by omega), hs234_, hF232_, r237_, M238_, hs244_, Or.inl ⟨h247_, hM_⟩, Or.inr ⟨by rw [hM_, ← e249_]; exact h250_, by rw [hr_, hM_, e256_]⟩⟩
  · exact ⟨M218_, M228_, TSc_mk hM2_ hM187_ hM193_ hM199_ hM205_ hM212_ hs224_ (by omega), hs234_, hF232_, r237_, M238_, hs244_, Or.inr ⟨h247_, by rw [hM_]; exact hs263_⟩, Or.inl ⟨by rw [hM_, ← e267_]; exact h268_, by rw [hr_, h272_, hM_, e267_]⟩⟩
  · exact ⟨M218_, M228_, TSc_mk hM2_ hM187_ hM193_ hM199_ hM205_ hM212_ hs224_ (by omega), hs234_, hF232_, r237_, M238_, hs244_, Or.inr ⟨h247_, by rw [hM_]; exact hs263_⟩, Or.inr ⟨by rw [hM_, ← e267_]; exact h268_, by rw [hr_, hM_, e274_]⟩⟩
/-- the model's start of a text -/
theorem text_start {v : Int32} {M C D D7 D12 D18 D25 D32 D39 : mM} (hs : TSc v M C) (hv : 0 ≤ v.toInt ∧ v.toInt ≤ 2) (hR : RW 0 M.1 (D.1 (50, 0, 0))) (hN : NW5 (D.1 (50, 0, 0))) (h4 : M.1 (5, 0, 0) 1 = D.1 (50, 0, 0) 4)
    (h1 : D7 = up D (12, 0, 0) 10 v) (h2 : D12 = up D7 (12, 0, 0) 9 0) (h3 : D18 = up D12 (12, 0, 0) 11 0) (h5 : D25 = up D18 (12, 0, 0) 12 0) (h6 : D32 = up D25 (12, 0, 0) 13 0) (h7 : D39 = up D32 (12, 0, 0) 14 0) : PRL 0 C D39 ∧ ∀ (c : rf) (k : Nat), ¬ c = (12, 0, 0) → D39.1 c k = D.1 c k := by
  have q0 := il_0
  obtain ⟨s1, s2, s3, s4, s5, s6, s7⟩ := hs
  have kd : ∀ (c : rf) (k : Nat), ¬ c = (12, 0, 0) → D39.1 c k = D.1 c k := fun c k q => by
    rw [zupN h7 (fun z => q z.1), zupN h6 (fun z => q z.1), zupN h5 (fun z => q z.1), zupN h3 (fun z => q z.1), zupN h2 (fun z => q z.1), zupN h1 (fun z => q z.1)]
  have d9 : (D39.1 (12, 0, 0) 9).toInt = 0 := by rw [zupN h7 (by simp), zupN h6 (by simp), zupN h5 (by simp), zupN h3 (by simp), zupE h2 rfl rfl]; exact q0
  have d10 : D39.1 (12, 0, 0) 10 = v := by rw [zupN h7 (by simp), zupN h6 (by simp), zupN h5 (by simp), zupN h3 (by simp), zupN h2 (by simp), zupE h1 rfl rfl]
  have d11 : (D39.1 (12, 0, 0) 11).toInt = 0 := by rw [zupN h7 (by simp), zupN h6 (by simp), zupN h5 (by simp), zupE h3 rfl rfl]; exact q0
  have d12 : D39.1 (12, 0, 0) 12 = 0 := by rw [zupN h7 (by simp), zupN h6 (by simp), zupE h5 rfl rfl]
  have d13 : (D39.1 (12, 0, 0) 13).toInt = 0 := by rw [zupN h7 (by simp), zupE h6 rfl rfl]; exact q0
  have d14 : (D39.1 (12, 0, 0) 14).toInt = 0 := by rw [zupE h7 rfl rfl]; exact q0
  have n4 := (n345_b hN).2.1
  refine ⟨⟨?_, Or.inl ?_⟩, kd⟩
  · unfold TPE
    rw [s7 _ _ (by simp) (by simp), kd (50, 0, 0) 4 (by simp), d10]
    refine ⟨h4, n4, fun i hi => ?_, s1, hv⟩
    rw [s7 _ _ (by simp) (by simp), kd (50, 0, 0) _ (by simp)]
    exact hR.2.2.1 i hi
  · unfold POK
    rw [kd (50, 0, 0) 4 (by simp), s5, d12, q0]
    refine ⟨by omega, d13, by omega, by omega, ⟨rfl, by omega, by omega⟩, by omega, by omega, by omega, by omega, fun i hi => by omega⟩
/-- the written codes -/
theorem text_copy {v : Int32} {Da Db : mM} {z : Int32} {w : Int32 × mM} (hd : RCH (fun x y : Int32 × mM => ST_X12_text__117 v Da x.1 x.2 y.1 y.2) ((0 : Int32), Db) w) (hv : 0 ≤ v.toInt ∧ v.toInt ≤ 2) (hw : 0 ≤ w.1.toInt) (hz : z = w.2.1 (12, 0, 0) 14) (hz2 : 0 ≤ z.toInt ∧ z.toInt ≤ 48) (he : z.toInt ≤ w.1.toInt) :
    (∀ (c : rf) (k : Nat), ¬ c = (50, 0, 0) → w.2.1 c k = Db.1 c k) ∧ (∀ i : Nat, (i : Int) < (Db.1 (12, 0, 0) 14).toInt → w.2.1 (50, 0, 0) (346 + 50 * v.toInt.toNat + i) = Db.1 (57, 0, 0) i) ∧ ∀ j : Nat, ¬ (346 + 50 * v.toInt.toNat ≤ j ∧ j < 395 + 50 * v.toInt.toNat) → w.2.1 (50, 0, 0) j = Db.1 (50, 0, 0) j := by
  have q0 := il_0
  have g := rind hd (fun t => 0 ≤ t.1.toInt ∧ (∀ (c : rf) (k : Nat), ¬ c = (50, 0, 0) → t.2.1 c k = Db.1 c k) ∧ (∀ i : Nat, (i : Int) < t.1.toInt → t.2.1 (50, 0, 0) (346 + 50 * v.toInt.toNat + i) = Db.1 (57, 0, 0) i) ∧ ∀ j : Nat, ¬ (346 + 50 * v.toInt.toNat ≤ j ∧ j < 395 + 50 * v.toInt.toNat) → t.2.1 (50, 0, 0) j = Db.1 (50, 0, 0) j) ⟨by dsimp only; omega, fun _ _ _ => rfl, fun i hi => by dsimp only at hi; omega, fun _ _ => rfl⟩ (fun s t p st => by
    (try dsimp only at p st ⊢)
    obtain ⟨p1, p2, p3, p4⟩ := p
    refine xE_ST_X12_text__117 st (fun k_hv0_117 k_hv1_117 k_hv2_117 _ k_hF_117 k_z151_ k_e152_ k_h153_ k_h154_ k_h155_ k_z159_ k_e160_ k_h161_ k_h162_ k_z163_ k_h164_ k_z165_ k_h166_ k_z167_ k_h168_ k_z169_ k_h170_ k_j173_ k_h174_ k_z171_ k_e172_ k_j177_ k_h178_ k_M175_ k_hM176_ k_z186_ k_h187_ k_hq_v2_117y k_hM_ => ?_)
    have e1 := eT k_hq_v2_117y
    refine ⟨by omega, fun c k q => ?_, fun i hi => ?_, fun j hj => ?_⟩
    · rw [k_hM_, zupN k_hM176_ (fun z => q z.1)]; exact p2 c k q
    · by_cases e : (i : Int) = s.1.toInt
      · rw [k_hM_, zupE k_hM176_ rfl (by omega), k_e172_, p2 _ _ (by simp), show k_j173_ = i by omega]
      · rw [k_hM_, zupN k_hM176_ (fun z => by have := z.2; omega)]; exact p3 i (by omega)
    · rw [k_hM_, zupN k_hM176_ (fun z => by have := z.2; omega)]; exact p4 j hj)
  (try dsimp only at g)
  obtain ⟨g1, g2, g3, g4⟩ := g
  have y := eT hz
  rw [g2 _ _ (by simp)] at y
  exact ⟨g2, fun i hi => g3 i (by omega), g4⟩
end
section
/-! text() on both sides -/
theorem RW_text {u : Nat} {q q2 : rf → Nat → Int32} {n n2 : Nat → Int32} (h : RW 0 q n) (hN : NW5 n) (hu : u < 3)
    (hq : ∀ (c : rf) (k : Nat), wR c.1 → c.2.1 = 0 → ¬ c = (1, 0, u) → ¬ c = (24, 0, u) → q2 c k = q c k) (hn : ∀ j, ¬ j = 4 → ¬ (345 + 50 * u ≤ j ∧ j < 395 + 50 * u) → n2 j = n j) (h4 : (n2 4).toInt = 0)
    (hc : q2 (1, 0, u) 2 = n2 (345 + 50 * u)) (hx : ∀ i : Nat, (i : Int) < (n2 (345 + 50 * u)).toInt → (q2 (24, 0, u) i).toInt = cmI (n2 (346 + 50 * u + i)).toInt ∧ cOK (nnU u) (n2 (346 + 50 * u + i))) : RW 0 q2 n2 := by
  obtain ⟨⟨hL, hT, hW, hX, hO, hM⟩, hE, hA, hY⟩ := h
  have th := nTh_b hN
  have nw := nWa_b hN
  have nb := n345_b hN
  have qq : ∀ (r w k : Nat), wR r → ¬ r = 1 → ¬ r = 24 → q2 (r, 0, w) k = q (r, 0, w) k := fun r w k h1 h2 h3 => hq _ _ h1 rfl (cne h2) (cne h3)
  refine ⟨⟨LWR_keep hL (fun r k w => qq r 0 k (by unfold wR; omega) (by omega) (by omega)) (fun j hj => hn j (by omega) (by omega)), THR_keep hT th.2 (fun r k w => qq r 0 k (by unfold wR; omega) (by omega) (by omega)) (fun j hj => hn j (by omega) (by omega)),
    WAR_keep hW nw.2 (fun r w k z => qq r w k (by unfold wR; omega) (by omega) (by omega)) (qq 10 0 6 (by unfold wR; omega) (by omega) (by omega)) (fun j hj => hn j (by omega) (by omega)), fun u' hu' => ?_,
    OCC_keep hO th.2 nw.2 (fun k => qq 35 0 k (by unfold wR; omega) (by omega) (by omega)) (fun j hj => hn j (by omega) (by omega)) (fun j hj => hn j (by omega) (by omega)),
    MIR_keep hM th.2 nw.2 (fun j hj => hn j (by omega) (by omega)) (fun w h1 h2 => ⟨fun k hk => hn _ (by omega) (by omega), fun c hc => hn _ (by omega) (by omega)⟩)⟩,
    LER_keep hE nb.1.2 (fun r k w => qq r 0 k (by unfold wR; omega) (by omega) (by omega)) (fun j hj => hn j (by omega) (by omega)), fun i hi => ?_, WTR_keep hY nb.2.2.2 (fun k => qq 33 1 k (by unfold wR; omega) (by omega) (by omega)) (fun j hj => hn j (by omega) (by omega))⟩
  · by_cases e : u' = u
    · subst e
      exact ⟨hc, hx⟩
    · have g := hX u' hu'
      have z := TXz hN u' hu'
      have ne : ∀ r : Nat, ¬ ((r, 0, u') : rf) = (r, 0, u) := fun r q => e (congrArg (fun c : rf => c.2.2) q)
      rw [hq (1, 0, u') 2 (by unfold wR; simp) rfl (ne 1) (cne (by omega)), hn (345 + 50 * u') (by omega) (by omega)]
      refine ⟨g.1, fun i hi => ?_⟩
      rw [hq (24, 0, u') i (by unfold wR; simp) rfl (cne (by omega)) (ne 24), hn (346 + 50 * u' + i) (by omega) (by omega)]
      exact g.2 i hi
  · omega
theorem next_f {r : Int32} {C Cn : mM} (hn : SP_X4_next C r Cn) : Cn.1 (4, 0, 0) 4 = C.1 (4, 0, 0) 4 := by
  unfold SP_X4_next at hn
  obtain ⟨M_0, hL_0, hI_0, hF_0, z2_, e3_, z4_, e5_, hn⟩ := hn
  have fr : M_0.1 (4, 0, 0) 4 = C.1 (4, 0, 0) 4 := hF_0 _ _ (by simp [S_c_X4_next])
  rcases hn with ⟨-, ⟨-, -, hM_⟩ | ⟨-, r14_, -, -, hM_⟩⟩ | ⟨-, r21_, -, -, ⟨-, -, hM_⟩ | ⟨-, r34_, -, -, hM_⟩⟩
  all_goals (rw [hM_]; exact fr)
theorem text_bad {r : Int32} {Cp M8 D : mM} (h : TRc r Cp M8) (k : PBD Cp D) (hT : TPE Cp D) : r.toInt = -10 - (D.1 (12, 0, 0) 9).toInt := by
  have im : (-10 : Int32).toInt = -10 := by decide
  obtain ⟨rn, Cn, nx, a, b⟩ := h
  have n4 := next_f nx
  unfold PBD at k
  have T1 := hT.2.1
  have m4 : M8.1 (4, 0, 0) 4 = Cp.1 (4, 0, 0) 4 := by
    rcases a with a | a
    · rw [a.2, n4]
    · rcases x4fail a.2 with f | f
      · rw [f.2, n4]
      · rw [n4] at f; omega
  rw [m4] at b
  rcases b with b | b
  · rw [b.2, subI (y := Cp.1 (4, 0, 0) 4) im rfl (by omega) (by omega)]; omega
  · omega
theorem text_ok {r r2 : Int32} {Cp M8 D D8 : mM} {s : Int} {W : Nat} {a T : Int} (h : TRc r Cp M8) (hT : TPE Cp D) (k : POK 0 Cp D) (hh : SP_X12_here s W a T D r2 D8) : (r2.toInt < 0 ∧ r = D8.1 (12, 0, 0) 12 ∧ 0 ≤ r.toInt ∧ POK 0 M8 D8 ∧ TPE M8 D8) ∨ (0 ≤ r2.toInt ∧ r.toInt = -10 - (D8.1 (12, 0, 0) 9).toInt ∧ ¬ 0 ≤ r.toInt) := by
  have im : (-10 : Int32).toInt = -10 := by decide
  obtain ⟨rn, Cn, nx, a, b⟩ := h
  obtain ⟨rfl, s1, s2, s3, s4⟩ := one_start hT k nx hh
  have T1 := s1.2.1
  have s2' := s2
  obtain ⟨p1, p2, p3, p4, p5, p6, p7, p8, p9, p10⟩ := s2
  rcases a with a | a
  · left
    rw [a.2] at b ⊢
    rcases b with b | b
    · omega
    · rw [p5.1] at b
      exact ⟨a.1, b.2, by rw [b.2]; exact p5.2.1, s2', s1⟩
  · right
    rcases x4fail a.2 with f | f
    · omega
    · have m4 : (M8.1 (4, 0, 0) 4).toInt = (D8.1 (12, 0, 0) 9).toInt := by rw [f.2, up_same]; exact p3
      rcases b with b | b
      · have e := subI (y := M8.1 (4, 0, 0) 4) im rfl (by omega) (by omega)
        rw [← b.2] at e
        exact ⟨a.1, by omega, by omega⟩
      · omega
theorem cb_text {v : Int32} {M M1 D D2 : mM} {r1 r2 : Int32} (h1 : SP_X11_text v M r1 M1) (h2 : SP_X12_text_ v D r2 D2) (hR : RW 0 M.1 (D.1 (50, 0, 0))) (hD : InvD D) (h4 : M.1 (5, 0, 0) 1 = D.1 (50, 0, 0) 4) : RW 0 M1.1 (D2.1 (50, 0, 0)) ∧ r1 = r2 := by
  have q0 := il_0
  have q1 := il_1
  have hN : NW5 (D.1 (50, 0, 0)) := hD.2.1
  -- a wrong text: the answers alike, the signs away
  have bad : ∀ {q2 : rf → Nat → Int32} {n2 : Nat → Int32}, (∀ (c : rf) (k : Nat), wR c.1 → c.2.1 = 0 → q2 c k = M.1 c k) → (∀ j, ¬ j = 4 → n2 j = D.1 (50, 0, 0) j) → (n2 4).toInt = 0 → RW 0 q2 n2 := fun hq hn hz => by
    have g := hR.1.2.2.2.1 0 (by omega)
    exact RW_text (u := 0) hR hN (by omega) (fun c k a b _ _ => hq c k a b) (fun j a _ => hn j a) hz (by rw [hq _ _ (by unfold wR; simp) rfl, hn _ (by omega)]; exact g.1) (fun i hi => by rw [hn _ (by omega)] at hi; rw [hq _ _ (by unfold wR; simp) rfl, hn _ (by omega)]; exact g.2 i hi)
  refine xE_SP_X11_text h1 ⟨(fun c_hs5_ c_h4_ c_M8_ _ c_hF12_ c_r7_ c_hs14_ => ⟨(fun c_h15_ c_M16_ _ c_hF20_ c_hs22_ c_hr_ c_hM_ => ?_), (fun c_h15_ c_j23_ c_h24_ c_h25_ c_h26_ c_M27_ _ c_hF31_ c_hs33_ c_M34_ _ c_hF38_ c_hs40_ c_hr_ c_hM_ => ?_)⟩), (fun c_hs5_ c_h4_ c_M43_ _ c_hF47_ c_r42_ c_hs49_ c_hr_ c_hM_ => ?_)⟩
  · obtain ⟨C, Cp, t1, t2, t3, t4⟩ := x4read c_hs14_ c_h4_
    have kM : ∀ (c : rf) (k : Nat), wR c.1 → c.2.1 = 0 → M1.1 c k = M.1 c k := fun c k a b => by
      refine xE_SP_X5_clear c_hs22_ (fun e_M1_ e_hM2_ e_hM_ => ?_)
      rw [c_hM_, e_hM_, zupN e_hM2_ (fun z => by rw [z.1] at a; unfold wR at a; omega)]
      exact c_hF12_ c k (fun z => by unfold wR at a; simp only [S_c_X4_read, or_false] at z; omega)
    refine xE_SP_X12_text_ h2 ⟨(fun d_hs5_ d_h4_ d_M7_ d_hM8_ d_M12_ d_hM13_ d_M18_ d_hM19_ d_M25_ d_hM26_ d_M32_ d_hM33_ d_M39_ d_hM40_ _ d_M48_ _ d_hF52_ d_hs54_ d_z56_ d_e57_ d_h58_ => ⟨(fun d_h60_ d_M61_ d_hM62_ d_h66_ d_M69_ d_hM70_ d_z76_ d_e77_ d_h78_ d_h79_ d_h80_ d_h81_ d_z82_ d_e83_ d_h84_ d_z85_ d_h86_ d_hr_ d_hM_ => ?_), (fun d_h60_ d_M88_ _ d_hF92_ d_r87_ d_hs94_ d_h98_ => ⟨(fun d_h99_ d_M100_ d_hM101_ d_h105_ d_h108_ d_M110_ d_hM111_ d_z119_ d_e120_ d_h121_ d_h122_ d_h123_ d_h124_ d_z126_ d_e127_ d_h128_ d_h129_ d_z130_ d_h131_ d_z132_ d_h133_ d_z134_ d_e135_ d_h136_ d_h137_ d_j140_ d_h141_ d_M138_ d_hM139_ d_v2_117 d_hv0_117 d_hv1_117 d_M_117 d_hv2_117 d_hL_117 _ d_hF_117 d_z151_ d_e152_ d_h153_ d_h154_ d_h155_ d_z157_ d_e158_ d_hr_ d_hM_ => ?_), (fun d_h99_ d_M188_ d_hM189_ d_h193_ d_M196_ d_hM197_ d_z203_ d_e204_ d_h205_ d_h206_ d_h207_ d_h208_ d_z209_ d_e210_ d_h211_ d_z212_ d_h213_ d_hr_ d_hM_ => ?_)⟩)⟩), (fun d_hs5_ d_h4_ d_M216_ _ d_hF220_ d_r215_ d_hs222_ d_h218_ d_hr_ d_hM_ => ?_)⟩
    · obtain ⟨P, kd⟩ := text_start t1 c_h4_ hR hN h4 d_hM8_ d_hM13_ d_hM19_ d_hM26_ d_hM33_ d_hM40_
      have X := cmp5_both 0 _ _ _ _ (by omega) P t2 d_hs54_ t3 d_hF52_
      have kn : ∀ j, d_M48_.1 (50, 0, 0) j = D.1 (50, 0, 0) j := fun j => (d_hF52_ _ _ (by simp [S_par])).trans (kd _ _ (by simp))
      rcases X.1.2 with k | k
      · have := eT d_e57_; have := k.2.1; omega
      · have tb := text_bad t4 k X.1.1
        have y := eT d_e83_
        rw [zupN (k' := 9) d_hM70_ (by simp), zupN (k' := 9) d_hM62_ (by simp)] at y
        refine ⟨bad kM (fun j hj => ?_) ?_, i32e (by rw [c_hr_, d_hr_]; omega)⟩
        · rw [d_hM_, zupN d_hM70_ (fun z => hj z.2), zupR d_hM62_ (by simp)]; exact kn j
        · rw [d_hM_, zupE d_hM70_ rfl rfl]; exact q0
    · obtain ⟨P, kd⟩ := text_start t1 c_h4_ hR hN h4 d_hM8_ d_hM13_ d_hM19_ d_hM26_ d_hM33_ d_hM40_
      have X := cmp5_both 0 _ _ _ _ (by omega) P t2 d_hs54_ t3 d_hF52_
      rcases X.1.2 with k | k
      · have tk := text_ok t4 X.1.1 k d_hs94_
        omega
      · have := eT d_e57_; have := k.2.1; omega
    · obtain ⟨P, kd⟩ := text_start t1 c_h4_ hR hN h4 d_hM8_ d_hM13_ d_hM19_ d_hM26_ d_hM33_ d_hM40_
      have X := cmp5_both 0 _ _ _ _ (by omega) P t2 d_hs54_ t3 d_hF52_
      have kn : ∀ j, d_M88_.1 (50, 0, 0) j = D.1 (50, 0, 0) j := fun j => (d_hF92_ _ _ (by simp [S_here])).trans ((d_hF52_ _ _ (by simp [S_par])).trans (kd _ _ (by simp)))
      rcases X.1.2 with k | k
      · have tk := text_ok t4 X.1.1 k d_hs94_
        have y := eT d_e210_
        rw [zupN (k' := 9) d_hM197_ (by simp), zupN (k' := 9) d_hM189_ (by simp)] at y
        refine ⟨bad kM (fun j hj => ?_) ?_, i32e (by rw [c_hr_, d_hr_]; omega)⟩
        · rw [d_hM_, zupN d_hM197_ (fun z => hj z.2), zupR d_hM189_ (by simp)]; exact kn j
        · rw [d_hM_, zupE d_hM197_ rfl rfl]; exact q0
      · have := eT d_e57_; have := k.2.1; omega
    · omega
  · obtain ⟨C, Cp, t1, t2, t3, t4⟩ := x4read c_hs14_ c_h4_
    refine xE_SP_X12_text_ h2 ⟨(fun d_hs5_ d_h4_ d_M7_ d_hM8_ d_M12_ d_hM13_ d_M18_ d_hM19_ d_M25_ d_hM26_ d_M32_ d_hM33_ d_M39_ d_hM40_ _ d_M48_ _ d_hF52_ d_hs54_ d_z56_ d_e57_ d_h58_ => ⟨(fun d_h60_ d_M61_ d_hM62_ d_h66_ d_M69_ d_hM70_ d_z76_ d_e77_ d_h78_ d_h79_ d_h80_ d_h81_ d_z82_ d_e83_ d_h84_ d_z85_ d_h86_ d_hr_ d_hM_ => ?_), (fun d_h60_ d_M88_ _ d_hF92_ d_r87_ d_hs94_ d_h98_ => ⟨(fun d_h99_ d_M100_ d_hM101_ d_h105_ d_h108_ d_M110_ d_hM111_ d_z119_ d_e120_ d_h121_ d_h122_ d_h123_ d_h124_ d_z126_ d_e127_ d_h128_ d_h129_ d_z130_ d_h131_ d_z132_ d_h133_ d_z134_ d_e135_ d_h136_ d_h137_ d_j140_ d_h141_ d_M138_ d_hM139_ d_v2_117 d_hv0_117 d_hv1_117 d_M_117 d_hv2_117 d_hL_117 _ d_hF_117 d_z151_ d_e152_ d_h153_ d_h154_ d_h155_ d_z157_ d_e158_ d_hr_ d_hM_ => ?_), (fun d_h99_ d_M188_ d_hM189_ d_h193_ d_M196_ d_hM197_ d_z203_ d_e204_ d_h205_ d_h206_ d_h207_ d_h208_ d_z209_ d_e210_ d_h211_ d_z212_ d_h213_ d_hr_ d_hM_ => ?_)⟩)⟩), (fun d_hs5_ d_h4_ d_M216_ _ d_hF220_ d_r215_ d_hs222_ d_h218_ d_hr_ d_hM_ => ?_)⟩
    · obtain ⟨P, kd⟩ := text_start t1 c_h4_ hR hN h4 d_hM8_ d_hM13_ d_hM19_ d_hM26_ d_hM33_ d_hM40_
      have X := cmp5_both 0 _ _ _ _ (by omega) P t2 d_hs54_ t3 d_hF52_
      rcases X.1.2 with k | k
      · have := eT d_e57_; have := k.2.1; omega
      · have tb := text_bad t4 k X.1.1
        have := X.1.1.2.1
        have := PRL_at X.1
        omega
    · obtain ⟨P, kd⟩ := text_start t1 c_h4_ hR hN h4 d_hM8_ d_hM13_ d_hM19_ d_hM26_ d_hM33_ d_hM40_
      have X := cmp5_both 0 _ _ _ _ (by omega) P t2 d_hs54_ t3 d_hF52_
      have kn : ∀ j, d_M88_.1 (50, 0, 0) j = D.1 (50, 0, 0) j := fun j => (d_hF92_ _ _ (by simp [S_here])).trans ((d_hF52_ _ _ (by simp [S_par])).trans (kd _ _ (by simp)))
      rcases X.1.2 with k | k
      · have tk := text_ok t4 X.1.1 k d_hs94_
        rcases tk with tk | tk
        · obtain ⟨tk1, tk2, tk3, tk4, tk5⟩ := tk
          obtain ⟨p1, p2, p3, p4, p5, p6, p7, p8, p9, p10⟩ := tk4
          have cpy := text_copy d_hL_117 c_h4_ d_hv0_117 d_e152_ (by omega) d_h155_
          obtain ⟨g1, g2, g3⟩ := cpy
          -- the memory before the copy
          have b12 : ∀ j, ¬ j = 13 → d_M138_.1 (12, 0, 0) j = d_M88_.1 (12, 0, 0) j := fun j hj => by rw [zupR d_hM139_ (by simp), zupR d_hM111_ (by simp), zupN d_hM101_ (fun z => hj z.2)]
          have b57 : ∀ j, d_M138_.1 (57, 0, 0) j = d_M88_.1 (57, 0, 0) j := fun j => by rw [zupR d_hM139_ (by simp), zupR d_hM111_ (by simp), zupR d_hM101_ (by simp)]
          have y10 : (d_M88_.1 (12, 0, 0) 10).toInt = v.toInt := by
            have y := eT d_e127_
            rw [zupR d_hM111_ (by simp), zupN d_hM101_ (by simp)] at y
            omega
          have y14 : d_z134_ = d_M88_.1 (12, 0, 0) 14 := by rw [d_e135_, zupR d_hM111_ (by simp), zupN d_hM101_ (by simp)]
          have jv : c_j23_ = v.toInt.toNat := by omega
          have u10 : (d_M88_.1 (12, 0, 0) 10).toInt.toNat = v.toInt.toNat := by omega
          have n345 : D2.1 (50, 0, 0) (345 + 50 * v.toInt.toNat) = d_z134_ := by rw [d_hM_, g3 _ (by omega), zupE d_hM139_ rfl (by omega)]
          have z14 := eT y14
          refine xE_SP_X1_takeFrom c_hs33_ (fun f_z1_ f_e2_ f_M3_ f_hM4_ f_M7_ f_hM8_ f_hM_ => ?_)
          refine xE_SP_X5_clear c_hs40_ (fun e_M1_ e_hM2_ e_hM_ => ?_)
          have m1 : ∀ (c : rf) (k : Nat), ¬ c = (5, 0, 0) → M1.1 c k = c_M27_.1 c k := fun c k q => by rw [c_hM_, e_hM_, zupN e_hM2_ (fun z => q z.1)]
          refine ⟨RW_text (u := v.toInt.toNat) hR hN (by omega) (fun c k a b e1 e2 => ?_) (fun j e1 e2 => ?_) ?_ ?_ (fun i hi => ?_), ?_⟩
          · rw [jv] at f_hM4_ f_hM8_
            rw [m1 c k (fun z => by rw [z] at a; unfold wR at a; simp at a), f_hM_, f_hM8_, cp_other _ _ _ e2, zupN f_hM4_ (fun z => e1 z.1)]
            exact c_hF12_ c k (fun z => by unfold wR at a; simp only [S_c_X4_read, or_false] at z; omega)
          · rw [d_hM_, g3 j (by omega), zupN d_hM139_ (fun z => by have := z.2; omega), zupN d_hM111_ (fun z => e1 z.2), zupR d_hM101_ (by simp)]
            exact kn j
          · rw [d_hM_, g3 4 (by omega), zupN d_hM139_ (fun z => by have := z.2; omega), zupE d_hM111_ rfl rfl]
            exact q0
          · rw [jv] at f_hM4_ f_hM8_
            rw [n345, m1 _ _ (by simp), f_hM_, f_hM8_, cp_other _ _ _ (by simp), zupE f_hM4_ rfl rfl]
            exact i32e (by rw [f_e2_]; omega)
          · rw [n345] at hi
            rw [jv] at f_hM4_ f_hM8_
            have w1 := cp_at (k := i) f_hM8_ (by have : (48 : Int32).toNatClampNeg = 48 := by decide
                                                 omega)
            rw [m1 _ _ (by simp), f_hM_, w1, zupR f_hM4_ (by simp), d_hM_, show 346 + 50 * v.toInt.toNat + i = 346 + 50 * v.toInt.toNat + i from rfl, g2 i (by rw [b12 14 (by omega)]; omega), b57, ← u10]
            exact p10 i (by omega)
          · rw [c_hr_, d_hr_, tk2, d_e158_, g1 _ _ (by simp), b12 12 (by omega)]
        · omega
      · have := eT d_e57_; have := k.2.1; omega
    · obtain ⟨P, kd⟩ := text_start t1 c_h4_ hR hN h4 d_hM8_ d_hM13_ d_hM19_ d_hM26_ d_hM33_ d_hM40_
      have X := cmp5_both 0 _ _ _ _ (by omega) P t2 d_hs54_ t3 d_hF52_
      rcases X.1.2 with k | k
      · have tk := text_ok t4 X.1.1 k d_hs94_
        omega
      · have := eT d_e57_; have := k.2.1; omega
    · omega
  · refine xE_SP_X12_text_ h2 ⟨(fun d_hs5_ d_h4_ d_M7_ d_hM8_ d_M12_ d_hM13_ d_M18_ d_hM19_ d_M25_ d_hM26_ d_M32_ d_hM33_ d_M39_ d_hM40_ _ d_M48_ _ d_hF52_ d_hs54_ d_z56_ d_e57_ d_h58_ => ⟨(fun d_h60_ d_M61_ d_hM62_ d_h66_ d_M69_ d_hM70_ d_z76_ d_e77_ d_h78_ d_h79_ d_h80_ d_h81_ d_z82_ d_e83_ d_h84_ d_z85_ d_h86_ d_hr_ d_hM_ => ?_), (fun d_h60_ d_M88_ _ d_hF92_ d_r87_ d_hs94_ d_h98_ => ⟨(fun d_h99_ d_M100_ d_hM101_ d_h105_ d_h108_ d_M110_ d_hM111_ d_z119_ d_e120_ d_h121_ d_h122_ d_h123_ d_h124_ d_z126_ d_e127_ d_h128_ d_h129_ d_z130_ d_h131_ d_z132_ d_h133_ d_z134_ d_e135_ d_h136_ d_h137_ d_j140_ d_h141_ d_M138_ d_hM139_ d_v2_117 d_hv0_117 d_hv1_117 d_M_117 d_hv2_117 d_hL_117 _ d_hF_117 d_z151_ d_e152_ d_h153_ d_h154_ d_h155_ d_z157_ d_e158_ d_hr_ d_hM_ => ?_), (fun d_h99_ d_M188_ d_hM189_ d_h193_ d_M196_ d_hM197_ d_z203_ d_e204_ d_h205_ d_h206_ d_h207_ d_h208_ d_z209_ d_e210_ d_h211_ d_z212_ d_h213_ d_hr_ d_hM_ => ?_)⟩)⟩), (fun d_hs5_ d_h4_ d_M216_ _ d_hF220_ d_r215_ d_hs222_ d_h218_ d_hr_ d_hM_ => ?_)⟩
    · omega
    · omega
    · omega
    · refine ⟨sameE hR hN c_hF47_ c_hM_ d_hF220_ d_hM_, i32e ?_⟩
      have e := err_r c_hs49_ (by omega)
      rw [c_hr_, d_hr_, e, d_h218_, q1]
      decide
end
section
/-! kind, air -/
theorem RW_air {q q2 : rf → Nat → Int32} {n n2 : Nat → Int32} (h : RW 0 q n) (hN : NW5 n) (hL : LWR 0 q2 n2) (hq : ∀ (c : rf) (k : Nat), wR c.1 → c.2.1 = 0 → ¬ c.1 = 2 → ¬ c.1 = 26 → ¬ c.1 = 27 → q2 c k = q c k) (hn : ∀ j, ¬ (6 ≤ j ∧ j < 19) → n2 j = n j) : RW 0 q2 n2 := by
  obtain ⟨⟨-, hT, hW, hX, hO, hM⟩, hE, hA, hY⟩ := h
  have th := nTh_b hN
  have nw := nWa_b hN
  have nb := n345_b hN
  have qq : ∀ (r w k : Nat), wR r → ¬ r = 2 → ¬ r = 26 → ¬ r = 27 → q2 (r, 0, w) k = q (r, 0, w) k := fun r w k h1 h2 h3 h4 => hq _ _ h1 rfl h2 h3 h4
  exact ⟨⟨hL, THR_keep hT th.2 (fun r k w => qq r 0 k (by unfold wR; omega) (by omega) (by omega) (by omega)) (fun j hj => hn j (by omega)),
    WAR_keep hW nw.2 (fun r w k z => qq r w k (by unfold wR; omega) (by omega) (by omega) (by omega)) (qq 10 0 6 (by unfold wR; omega) (by omega) (by omega) (by omega)) (fun j hj => hn j (by omega)),
    TXR_keep hX (TXz hN) (fun r u k z _ => qq r u k (by unfold wR; omega) (by omega) (by omega) (by omega)) (fun j h1 h2 => hn j (by omega)),
    OCC_keep hO th.2 nw.2 (fun k => qq 35 0 k (by unfold wR; omega) (by omega) (by omega) (by omega)) (fun j hj => hn j (by omega)) (fun j hj => hn j (by omega)),
    MIR_keep hM th.2 nw.2 (fun j hj => hn j (by omega)) (fun w h1 h2 => ⟨fun k hk => hn _ (by omega), fun c hc => hn _ (by omega)⟩)⟩,
    LER_keep hE nb.1.2 (fun r k w => qq r 0 k (by unfold wR; omega) (by omega) (by omega) (by omega)) (fun j hj => hn j (by omega)), TAR_keep hA nb.2.1.2 (fun k => qq 33 0 k (by unfold wR; omega) (by omega) (by omega) (by omega)) (fun j hj => hn j (by omega)), WTR_keep hY nb.2.2.2 (fun k => qq 33 1 k (by unfold wR; omega) (by omega) (by omega) (by omega)) (fun j hj => hn j (by omega))⟩
theorem LWR_rx {m : rf → Nat → Int32} (h : RXz m) : LWR 0 m (m (50, 0, 0)) := by
  refine ⟨RXzg h (by unfold PRz; simp) (by simp), fun k hk => RXzg h (by first | exact Pz0_2 hk | exact Pz0_26 hk | exact Pz0_27 hk | (unfold PRz; dsimp only; omega)) (by simp), fun k hk => ⟨RXzg h (by first | exact Pz0_2 hk | exact Pz0_26 hk | exact Pz0_27 hk | (unfold PRz; dsimp only; omega)) (by simp), RXzg h (by first | exact Pz0_2 hk | exact Pz0_26 hk | exact Pz0_27 hk | (unfold PRz; dsimp only; omega)) (by simp)⟩⟩
/-! lays -/
/-- the sheets alike -/
def SHR (q p : rf → Nat → Int32) : Prop := ∀ w, w < 4 → q (6, 0, w) 0 = p (66, 0, 0) w ∧ q (6, 0, w) 1 = p (67, 0, 0) w ∧ ∀ i : Nat, (i : Int) < (p (67, 0, 0) w).toInt → q (34, 0, w) i = p (68, 0, 0) (24 * w + i)
theorem sub1k {r z : Int32} (h : z = r - (1 : Int32)) : ((1 ≤ r.toInt ∧ r.toInt ≤ 5) ∧ z.toInt = r.toInt - 1) ∨ (¬ (1 ≤ r.toInt ∧ r.toInt ≤ 5) ∧ ¬ (0 ≤ z.toInt ∧ z.toInt ≤ 4)) := by
  have b1 := Int32.le_toInt r
  have b2 := Int32.toInt_lt r
  by_cases e : r.toInt = -2147483648
  · right
    have er : r = -2147483648 := i32e (by rw [e]; decide)
    rw [h, er]
    decide
  · have s := subI (x := r) rfl il_1 (by omega) (by omega)
    rw [← h] at s
    omega
theorem x6num {w : Nat} {v r : Int32} {M : mM} (h : SP_X6_numberAt w v M r) (hv : 0 ≤ v.toInt ∧ v.toInt < (M.1 (6, 0, w) 1).toInt) : r = M.1 (34, 0, w) v.toInt.toNat := by
  have q0 := il_0
  have q1 := il_1
  have hs : ∀ {x : Int32}, SP_X6_has w v M x → x.toInt = 1 := fun {x} hh => by
    refine xE_SP_X6_has hh ⟨(fun h1_ hr_ => ?_), (fun h1_ z2_ e3_ h4_ => ⟨(fun h5_ hr_ => ?_), (fun h5_ h6_ hr_ => ?_)⟩)⟩
    · omega
    · have := eT e3_; omega
    · have := eT hr_; omega
  refine xE_SP_X6_numberAt h ⟨(fun hs5_ h4_ j9_ h10_ z7_ e8_ hr_ => ?_), (fun hs5_ hr_ => ?_)⟩
  · rw [hr_, e8_, show j9_ = v.toInt.toNat by omega]
  · have := hs hs5_
    omega
theorem kaL {a b : Int} (k : ((1 ≤ a ∧ a ≤ 5) ∧ b = a - 1) ∨ (¬ (1 ≤ a ∧ a ≤ 5) ∧ ¬ (0 ≤ b ∧ b ≤ 4))) : ((1 ≤ a ∧ a ≤ 5) → (0 ≤ b ∧ b ≤ 4)) ∧ ((0 ≤ b ∧ b ≤ 4) → (1 ≤ a ∧ a ≤ 5)) := by omega
def LYR (C0 D0 : mM) (x y : Int32 × Int32 × mM) : Prop := x.1.toInt = y.1.toInt ∧ x.2.1 = y.2.1 ∧ RW 0 x.2.2.1 (y.2.2.1 (50, 0, 0)) ∧ (∀ (c : rf) (k : Nat), c.1 = 6 ∨ c.1 = 34 → x.2.2.1 c k = C0.1 c k) ∧ ∀ (c : rf) (k : Nat), ¬ c.1 = 50 → y.2.2.1 c k = D0.1 c k
set_option maxHeartbeats 8000000 in
theorem lays_loop {v u : Int32} {w : Nat} {C D : mM} {z t : Int32 × Int32 × mM} (hw : (w : Int) = v.toInt ∧ w < 4) (hu : 0 ≤ u.toInt ∧ u.toInt ≤ 11) (hR : RW 0 C.1 (D.1 (50, 0, 0))) (hS : SHR C.1 D.1) (h7 : (D.1 (12, 0, 0) 7).toInt = -1) (h16 : (D.1 (67, 0, 0) w).toInt ≤ 16)
    (hc : RCH (fun x y : Int32 × Int32 × mM => ST_X11_lays_79 u C w x.1 x.2.1 x.2.2 y.1 y.2.1 y.2.2) ((0 : Int32), (0 : Int32), C) z) (hd : RCH (fun x y : Int32 × Int32 × mM => ST_X12_lays_81 v u D x.1 x.2.1 x.2.2 y.1 y.2.1 y.2.2) ((0 : Int32), (0 : Int32), D) t)
    (fc : (z.2.2.1 (6, 0, w) 1).toInt ≤ z.1.toInt) (fd : (t.2.2.1 (67, 0, 0) w).toInt ≤ t.1.toInt) : LYR C D z t := by
  have q0 := il_0
  have q1 := il_1
  have Sw := hS w hw.2
  have sz := eT Sw.2.1
  refine lockE (LYR C D) hc hd ⟨rfl, rfl, hR, fun _ _ _ => rfl, fun _ _ _ => rfl⟩ ?_ ?_ ?_
  · intro x z y t r s1 s2
    obtain ⟨r1, r2, r3, r4, r5⟩ := r
    (try dsimp only at s1 s2)
    have bT := eT r3.1.2.1.1
    have no : ∀ (z' t' : Int32 × Int32 × mM), z'.1.toInt = x.1.toInt + 1 → t'.1.toInt = y.1.toInt + 1 → z'.2 = x.2 → t'.2 = y.2 → LYR C D z' t' := fun z' t' a1 a2 a3 a4 => by
      unfold LYR
      rw [a3, a4]
      exact ⟨by omega, r2, r3, r4, r5⟩
    refine xE_ST_X11_lays_79 s1 (fun c_hv0_79 _ c_hF_79 c_z30_ c_e31_ c_h32_ c_h33_ c_r34_ c_hs38_ c_z39_ c_h40_ c_z41_ c_h42_ c_z43_ c_h44_ => ?_)
    refine xE_ST_X12_lays_81 s2 (fun d_hv0_81 d_hI_81 d_hF_81 d_j33_ d_h34_ d_z31_ d_e32_ d_h35_ d_h36_ d_h37_ d_z38_ d_h39_ d_z40_ d_h41_ d_j44_ d_h45_ d_z42_ d_e43_ => ?_)
    have nT := nTh_b d_hI_81.2.1
    have y1 := eT c_e31_
    rw [r4 _ _ (by simp)] at y1
    have y2 := eT d_e32_
    rw [r5 _ _ (by simp), show d_j33_ = w by omega] at y2
    have num := x6num c_hs38_ (by rw [r4 (6, 0, w) 1 (by simp)]; omega)
    rw [r4 _ _ (by simp), Sw.2.2 _ (by omega)] at num
    have z42 := d_e43_
    rw [r5 _ _ (by simp), show d_j44_ = 24 * w + x.1.toInt.toNat by omega] at z42
    have k1 := sub1k c_h40_
    rw [num, ← z42] at k1
    refine ⟨fun d_hs50_ d_h49_ d_z52_ d_e53_ d_h54_ => ?_, fun d_hs50_ d_h49_ d_z90_ d_h91_ d_hq_v4_81y d_hq_v3_81y d_hM_ => ?_⟩
    · have y3 := eT d_e53_
      refine ⟨fun d_h55_ d_z56_ d_h57_ d_hq_v4_81y d_hq_v3_81y d_hM_ => ?_, fun d_h55_ d_z58_ d_h59_ d_z60_ d_h61_ d_r62_ d_hs66_ d_h65_ => ?_⟩
      · have e2 := eT d_hq_v4_81y
        refine ⟨fun c_hs49_ c_h48_ => ⟨fun c_hs55_ c_h54_ c_r57_ c_hs61_ c_h60_ => ⟨fun c_h62_ c_z63_ c_h64_ c_hq_v5_79y c_hq_v4_79y c_hM_ => ?_, fun c_h62_ c_M66_ _ c_hF70_ c_r65_ c_hs72_ c_z73_ c_h74_ c_z75_ c_h76_ c_hq_v5_79y c_hq_v4_79y c_hM_ => ?_⟩, fun c_hs55_ c_z78_ c_h79_ c_hq_v5_79y c_hq_v4_79y c_hM_ => ?_⟩, fun c_hs49_ c_h48_ c_z81_ c_h82_ c_hq_v5_79y c_hq_v4_79y c_hM_ => ?_⟩
        · have e1 := eT c_hq_v5_79y; exact no _ _ (by omega) (by omega) (Prod.ext c_hq_v4_79y c_hM_) (Prod.ext d_hq_v3_81y d_hM_)
        · have fr := x7free c_hs55_; have rm := x7room c_hs61_; omega
        · have e1 := eT c_hq_v5_79y; exact no _ _ (by omega) (by omega) (Prod.ext c_hq_v4_79y c_hM_) (Prod.ext d_hq_v3_81y d_hM_)
        · exact absurd ((kaL k1).1 d_h49_) c_h48_
      · have gf := x12free d_hs66_ r3.1.2.2.2.2.1 (by omega) (by rw [r5 _ _ (by simp)]; omega)
        rw [r5 (12, 0, 0) 7 (by simp)] at gf
        have cell : d_z60_.toInt = c_z43_.toInt := by omega
        rw [cell] at gf
        refine ⟨fun d_h67_ d_z68_ d_h69_ d_hq_v4_81y d_hq_v3_81y d_hM_ => ?_, fun d_h67_ d_z70_ d_h71_ d_z72_ d_h73_ d_z74_ d_h75_ d_M77_ d_hI80_ d_hF81_ d_r76_ d_hs83_ d_h79_ d_z85_ d_h86_ d_z87_ d_h88_ d_hq_v4_81y d_hq_v3_81y d_hM_ => ?_⟩
        · have e2 := eT d_hq_v4_81y
          refine ⟨fun c_hs49_ c_h48_ => ⟨fun c_hs55_ c_h54_ c_r57_ c_hs61_ c_h60_ => ⟨fun c_h62_ c_z63_ c_h64_ c_hq_v5_79y c_hq_v4_79y c_hM_ => ?_, fun c_h62_ c_M66_ _ c_hF70_ c_r65_ c_hs72_ c_z73_ c_h74_ c_z75_ c_h76_ c_hq_v5_79y c_hq_v4_79y c_hM_ => ?_⟩, fun c_hs55_ c_z78_ c_h79_ c_hq_v5_79y c_hq_v4_79y c_hM_ => ?_⟩, fun c_hs49_ c_h48_ c_z81_ c_h82_ c_hq_v5_79y c_hq_v4_79y c_hM_ => ?_⟩
          · have e1 := eT c_hq_v5_79y; exact no _ _ (by omega) (by omega) (Prod.ext c_hq_v4_79y c_hM_) (Prod.ext d_hq_v3_81y d_hM_)
          · have fr := x7free c_hs55_; have rm := x7room c_hs61_; omega
          · have e1 := eT c_hq_v5_79y; exact no _ _ (by omega) (by omega) (Prod.ext c_hq_v4_79y c_hM_) (Prod.ext d_hq_v3_81y d_hM_)
          · exact absurd ((kaL k1).1 d_h49_) c_h48_
        · have e2 := eT d_hq_v4_81y
          refine ⟨fun c_hs49_ c_h48_ => ⟨fun c_hs55_ c_h54_ c_r57_ c_hs61_ c_h60_ => ⟨fun c_h62_ c_z63_ c_h64_ c_hq_v5_79y c_hq_v4_79y c_hM_ => ?_, fun c_h62_ c_M66_ _ c_hF70_ c_r65_ c_hs72_ c_z73_ c_h74_ c_z75_ c_h76_ c_hq_v5_79y c_hq_v4_79y c_hM_ => ?_⟩, fun c_hs55_ c_z78_ c_h79_ c_hq_v5_79y c_hq_v4_79y c_hM_ => ?_⟩, fun c_hs49_ c_h48_ c_z81_ c_h82_ c_hq_v5_79y c_hq_v4_79y c_hM_ => ?_⟩
          · have fr := x7free c_hs55_; have rm := x7room c_hs61_; omega
          · have fr := x7free c_hs55_
            have rm := x7room c_hs61_
            have e1 := eT c_hq_v5_79y
            have ca := x7add c_hs72_ (by omega) (by omega)
            have da := x12comes d_hs83_
            rw [i32e (show d_z74_.toInt = c_z43_.toInt by omega), i32e (show d_z70_.toInt = c_z39_.toInt by omega)] at da
            have B := WRR_add2 ca.2 da.2 r3 d_hI_81.2.1 (by unfold nTh; omega) (by omega) (by omega)
            refine ⟨by omega, ?_, ?_, fun c k q => ?_, fun c k q => ?_⟩
            · rw [c_hq_v4_79y, d_hq_v3_81y, c_h74_, d_h86_, r2]
            · rw [c_hM_, d_hM_]; exact B
            · obtain ⟨-, zz, -, ce⟩ := ca
              rw [c_hM_, ce, up_other _ _ (fun e => by rw [e] at q; simp at q), up_other _ _ (fun e => by rw [e] at q; simp at q), up_other _ _ (fun e => by rw [e] at q; simp at q), up_other _ _ (fun e => by rw [e] at q; simp at q), up_other _ _ (fun e => by rw [e] at q; simp at q), up_other _ _ (fun e => by rw [e] at q; simp at q)]
              exact r4 c k q
            · obtain ⟨-, zz, -, de⟩ := da
              rw [d_hM_, de, up_other _ _ (fun e => q (by rw [e])), up_other _ _ (fun e => q (by rw [e])), up_other _ _ (fun e => q (by rw [e])), up_other _ _ (fun e => q (by rw [e])), up_other _ _ (fun e => q (by rw [e]))]
              exact r5 c k q
          · have fr := x7free c_hs55_; omega
          · exact absurd ((kaL k1).1 d_h49_) c_h48_
    · have e2 := eT d_hq_v4_81y
      refine ⟨fun c_hs49_ c_h48_ => ⟨fun c_hs55_ c_h54_ c_r57_ c_hs61_ c_h60_ => ⟨fun c_h62_ c_z63_ c_h64_ c_hq_v5_79y c_hq_v4_79y c_hM_ => ?_, fun c_h62_ c_M66_ _ c_hF70_ c_r65_ c_hs72_ c_z73_ c_h74_ c_z75_ c_h76_ c_hq_v5_79y c_hq_v4_79y c_hM_ => ?_⟩, fun c_hs55_ c_z78_ c_h79_ c_hq_v5_79y c_hq_v4_79y c_hM_ => ?_⟩, fun c_hs49_ c_h48_ c_z81_ c_h82_ c_hq_v5_79y c_hq_v4_79y c_hM_ => ?_⟩
      · exact absurd ((kaL k1).2 c_h48_) d_h49_
      · exact absurd ((kaL k1).2 c_h48_) d_h49_
      · exact absurd ((kaL k1).2 c_h48_) d_h49_
      · have e1 := eT c_hq_v5_79y; exact no _ _ (by omega) (by omega) (Prod.ext c_hq_v4_79y c_hM_) (Prod.ext d_hq_v3_81y d_hM_)
  · intro y y' r s2
    obtain ⟨r1, r2, r3, r4, r5⟩ := r
    (try dsimp only at s2)
    rw [r4 (6, 0, w) 1 (by simp)] at fc
    refine xE_ST_X12_lays_81 s2 (fun d_hv0_81 _ d_hF_81 d_j33_ d_h34_ d_z31_ d_e32_ d_h35_ d_h36_ d_h37_ d_z38_ d_h39_ d_z40_ d_h41_ d_j44_ d_h45_ d_z42_ d_e43_ => ⟨(fun d_hs50_ d_h49_ d_z52_ d_e53_ d_h54_ => ⟨(fun d_h55_ d_z56_ d_h57_ d_hq_v4_81y d_hq_v3_81y d_hM_ => ?_), (fun d_h55_ d_z58_ d_h59_ d_z60_ d_h61_ d_r62_ d_hs66_ d_h65_ => ⟨(fun d_h67_ d_z68_ d_h69_ d_hq_v4_81y d_hq_v3_81y d_hM_ => ?_), (fun d_h67_ d_z70_ d_h71_ d_z72_ d_h73_ d_z74_ d_h75_ d_M77_ _ d_hF81_ d_r76_ d_hs83_ d_h79_ d_z85_ d_h86_ d_z87_ d_h88_ d_hq_v4_81y d_hq_v3_81y d_hM_ => ?_)⟩)⟩), (fun d_hs50_ d_h49_ d_z90_ d_h91_ d_hq_v4_81y d_hq_v3_81y d_hM_ => ?_)⟩)
    all_goals
      have y2 := eT d_e32_
      rw [r5 _ _ (by simp), show d_j33_ = w by omega] at y2
      omega
  · intro x x' r s1
    obtain ⟨r1, r2, r3, r4, r5⟩ := r
    (try dsimp only at s1)
    rw [r5 (67, 0, 0) w (by simp)] at fd
    refine xE_ST_X11_lays_79 s1 (fun c_hv0_79 _ c_hF_79 c_z30_ c_e31_ c_h32_ c_h33_ c_r34_ c_hs38_ c_z39_ c_h40_ c_z41_ c_h42_ c_z43_ c_h44_ => ⟨(fun c_hs49_ c_h48_ => ⟨(fun c_hs55_ c_h54_ c_r57_ c_hs61_ c_h60_ => ⟨(fun c_h62_ c_z63_ c_h64_ c_hq_v5_79y c_hq_v4_79y c_hM_ => ?_), (fun c_h62_ c_M66_ _ c_hF70_ c_r65_ c_hs72_ c_z73_ c_h74_ c_z75_ c_h76_ c_hq_v5_79y c_hq_v4_79y c_hM_ => ?_)⟩), (fun c_hs55_ c_z78_ c_h79_ c_hq_v5_79y c_hq_v4_79y c_hM_ => ?_)⟩), (fun c_hs49_ c_h48_ c_z81_ c_h82_ c_hq_v5_79y c_hq_v4_79y c_hM_ => ?_)⟩)
    all_goals
      have y1 := eT c_e31_
      rw [r4 _ _ (by simp)] at y1
      omega
end
section
/-! the call lays -/
theorem cb_6 {v u : Int32} {M M1 D D2 : mM} {r1 r2 : Int32} (h1 : SP_X11_lays v u M r1 M1) (h2 : SP_X12_lays v u D r2 D2) (hR : RW 0 M.1 (D.1 (50, 0, 0))) (hD : InvD D) (hu : (D.1 (12, 0, 0) 7).toInt = -1) (hS : SHR M.1 D.1) : RW 0 M1.1 (D2.1 (50, 0, 0)) ∧ r1 = r2 := by
  have q0 := il_0
  have q1 := il_1
  have sw := fun (w : Nat) (hw : w < 4) => And.intro (eT (hS w hw).1) (eT (hS w hw).2.1)
  refine xE_SP_X11_lays h1 ⟨(fun c_hs5_ c_h4_ => ⟨(fun c_hs11_ c_h10_ c_j13_ c_h14_ c_h15_ c_r16_ c_hs20_ c_h19_ => ⟨(fun c_h21_ c_z22_ c_e23_ => ⟨(fun c_h24_ c_z25_ c_e26_ c_h27_ => ⟨(fun c_h28_ c_v5_79 c_hv0_79 c_v4_79 c_M_79 c_hL_79 _ c_hF_79 c_z30_ c_e31_ c_h32_ c_h33_ c_hr_ c_hM_ => ?_), (fun c_h28_ c_M84_ _ c_hF88_ c_r83_ c_hs90_ c_hr_ c_hM_ => ?_)⟩), (fun c_h24_ c_M92_ _ c_hF96_ c_r91_ c_hs98_ c_hr_ c_hM_ => ?_)⟩), (fun c_h21_ c_M100_ _ c_hF104_ c_r99_ c_hs106_ c_hr_ c_hM_ => ?_)⟩), (fun c_hs11_ c_h10_ c_M109_ _ c_hF113_ c_r108_ c_hs115_ c_hr_ c_hM_ => ?_)⟩), (fun c_hs5_ c_h4_ c_M118_ _ c_hF122_ c_r117_ c_hs124_ c_hr_ c_hM_ => ?_)⟩
  · refine xE_SP_X12_lays h2 ⟨(fun d_hs5_ d_h4_ => ⟨(fun d_hs11_ d_h10_ d_j15_ d_h16_ d_z13_ d_e14_ => ⟨(fun d_h17_ d_j20_ d_h21_ d_z18_ d_e19_ => ⟨(fun d_h22_ d_j25_ d_h26_ d_z23_ d_e24_ d_h27_ => ⟨(fun d_h28_ d_v4_81 d_hv0_81 d_v3_81 d_M_81 d_hL_81 _ d_hF_81 d_j33_ d_h34_ d_z31_ d_e32_ d_h35_ d_h36_ d_h37_ d_hr_ d_hM_ => ?_), (fun d_h28_ d_M93_ _ d_hF97_ d_r92_ d_hs99_ d_h95_ d_hr_ d_hM_ => ?_)⟩), (fun d_h22_ d_M101_ _ d_hF105_ d_r100_ d_hs107_ d_h103_ d_hr_ d_hM_ => ?_)⟩), (fun d_h17_ d_M109_ _ d_hF113_ d_r108_ d_hs115_ d_h111_ d_hr_ d_hM_ => ?_)⟩), (fun d_hs11_ d_h10_ d_M118_ _ d_hF122_ d_r117_ d_hs124_ d_h120_ d_hr_ d_hM_ => ?_)⟩), (fun d_hs5_ d_h4_ d_M127_ _ d_hF131_ d_r126_ d_hs133_ d_h129_ d_hr_ d_hM_ => ?_)⟩
    · have mi := x6miss c_hs20_
      have sv := sw c_j13_ (by omega)
      have ye23_ := eT c_e23_
      have ye26_ := eT c_e26_
      have we14_ := eT d_e14_
      rw [show d_j15_ = c_j13_ by omega] at we14_
      have we19_ := eT d_e19_
      rw [show d_j20_ = c_j13_ by omega] at we19_
      have we24_ := eT d_e24_
      rw [show d_j25_ = c_j13_ by omega] at we24_
      have L := lays_loop (w := c_j13_) (z := (c_v5_79, c_v4_79, c_M_79)) (t := (d_v4_81, d_v3_81, d_M_81)) ⟨by omega, by omega⟩ (by omega) hR hS hu (by omega) c_hL_79 d_hL_81 (by rw [← c_e31_]; omega) (by rw [← show d_j33_ = c_j13_ by omega, ← d_e32_]; omega)
      obtain ⟨l1, l2, l3, l4, l5⟩ := L
      rw [c_hM_, d_hM_, c_hr_, d_hr_]
      exact ⟨l3, l2⟩
    · have mi := x6miss c_hs20_
      have sv := sw c_j13_ (by omega)
      have ye23_ := eT c_e23_
      have ye26_ := eT c_e26_
      have we14_ := eT d_e14_
      rw [show d_j15_ = c_j13_ by omega] at we14_
      have we19_ := eT d_e19_
      rw [show d_j20_ = c_j13_ by omega] at we19_
      have we24_ := eT d_e24_
      rw [show d_j25_ = c_j13_ by omega] at we24_
      omega
    · have mi := x6miss c_hs20_
      have sv := sw c_j13_ (by omega)
      have ye23_ := eT c_e23_
      have ye26_ := eT c_e26_
      have we14_ := eT d_e14_
      rw [show d_j15_ = c_j13_ by omega] at we14_
      have we19_ := eT d_e19_
      rw [show d_j20_ = c_j13_ by omega] at we19_
      omega
    · have mi := x6miss c_hs20_
      have sv := sw c_j13_ (by omega)
      have ye23_ := eT c_e23_
      have ye26_ := eT c_e26_
      have we14_ := eT d_e14_
      rw [show d_j15_ = c_j13_ by omega] at we14_
      omega
    · have mi := x6miss c_hs20_
      have sv := sw c_j13_ (by omega)
      have ye23_ := eT c_e23_
      have ye26_ := eT c_e26_
      omega
    · have mi := x6miss c_hs20_
      have sv := sw c_j13_ (by omega)
      have ye23_ := eT c_e23_
      have ye26_ := eT c_e26_
      omega
  · refine xE_SP_X12_lays h2 ⟨(fun d_hs5_ d_h4_ => ⟨(fun d_hs11_ d_h10_ d_j15_ d_h16_ d_z13_ d_e14_ => ⟨(fun d_h17_ d_j20_ d_h21_ d_z18_ d_e19_ => ⟨(fun d_h22_ d_j25_ d_h26_ d_z23_ d_e24_ d_h27_ => ⟨(fun d_h28_ d_v4_81 d_hv0_81 d_v3_81 d_M_81 d_hL_81 _ d_hF_81 d_j33_ d_h34_ d_z31_ d_e32_ d_h35_ d_h36_ d_h37_ d_hr_ d_hM_ => ?_), (fun d_h28_ d_M93_ _ d_hF97_ d_r92_ d_hs99_ d_h95_ d_hr_ d_hM_ => ?_)⟩), (fun d_h22_ d_M101_ _ d_hF105_ d_r100_ d_hs107_ d_h103_ d_hr_ d_hM_ => ?_)⟩), (fun d_h17_ d_M109_ _ d_hF113_ d_r108_ d_hs115_ d_h111_ d_hr_ d_hM_ => ?_)⟩), (fun d_hs11_ d_h10_ d_M118_ _ d_hF122_ d_r117_ d_hs124_ d_h120_ d_hr_ d_hM_ => ?_)⟩), (fun d_hs5_ d_h4_ d_M127_ _ d_hF131_ d_r126_ d_hs133_ d_h129_ d_hr_ d_hM_ => ?_)⟩
    · have mi := x6miss c_hs20_
      have sv := sw c_j13_ (by omega)
      have ye23_ := eT c_e23_
      have ye26_ := eT c_e26_
      have we14_ := eT d_e14_
      rw [show d_j15_ = c_j13_ by omega] at we14_
      have we19_ := eT d_e19_
      rw [show d_j20_ = c_j13_ by omega] at we19_
      have we24_ := eT d_e24_
      rw [show d_j25_ = c_j13_ by omega] at we24_
      omega
    · refine ⟨sameE hR hD.2.1 c_hF88_ c_hM_ d_hF97_ d_hM_, i32e ?_⟩
      have e := err_r c_hs90_ (by first | decide | simp | (dsimp only; omega))
      rw [c_hr_, d_hr_, e, d_h95_]
      decide
    · have mi := x6miss c_hs20_
      have sv := sw c_j13_ (by omega)
      have ye23_ := eT c_e23_
      have ye26_ := eT c_e26_
      have we14_ := eT d_e14_
      rw [show d_j15_ = c_j13_ by omega] at we14_
      have we19_ := eT d_e19_
      rw [show d_j20_ = c_j13_ by omega] at we19_
      omega
    · have mi := x6miss c_hs20_
      have sv := sw c_j13_ (by omega)
      have ye23_ := eT c_e23_
      have ye26_ := eT c_e26_
      have we14_ := eT d_e14_
      rw [show d_j15_ = c_j13_ by omega] at we14_
      omega
    · have mi := x6miss c_hs20_
      have sv := sw c_j13_ (by omega)
      have ye23_ := eT c_e23_
      have ye26_ := eT c_e26_
      omega
    · have mi := x6miss c_hs20_
      have sv := sw c_j13_ (by omega)
      have ye23_ := eT c_e23_
      have ye26_ := eT c_e26_
      omega
  · refine xE_SP_X12_lays h2 ⟨(fun d_hs5_ d_h4_ => ⟨(fun d_hs11_ d_h10_ d_j15_ d_h16_ d_z13_ d_e14_ => ⟨(fun d_h17_ d_j20_ d_h21_ d_z18_ d_e19_ => ⟨(fun d_h22_ d_j25_ d_h26_ d_z23_ d_e24_ d_h27_ => ⟨(fun d_h28_ d_v4_81 d_hv0_81 d_v3_81 d_M_81 d_hL_81 _ d_hF_81 d_j33_ d_h34_ d_z31_ d_e32_ d_h35_ d_h36_ d_h37_ d_hr_ d_hM_ => ?_), (fun d_h28_ d_M93_ _ d_hF97_ d_r92_ d_hs99_ d_h95_ d_hr_ d_hM_ => ?_)⟩), (fun d_h22_ d_M101_ _ d_hF105_ d_r100_ d_hs107_ d_h103_ d_hr_ d_hM_ => ?_)⟩), (fun d_h17_ d_M109_ _ d_hF113_ d_r108_ d_hs115_ d_h111_ d_hr_ d_hM_ => ?_)⟩), (fun d_hs11_ d_h10_ d_M118_ _ d_hF122_ d_r117_ d_hs124_ d_h120_ d_hr_ d_hM_ => ?_)⟩), (fun d_hs5_ d_h4_ d_M127_ _ d_hF131_ d_r126_ d_hs133_ d_h129_ d_hr_ d_hM_ => ?_)⟩
    · have mi := x6miss c_hs20_
      have sv := sw c_j13_ (by omega)
      have ye23_ := eT c_e23_
      have we14_ := eT d_e14_
      rw [show d_j15_ = c_j13_ by omega] at we14_
      have we19_ := eT d_e19_
      rw [show d_j20_ = c_j13_ by omega] at we19_
      have we24_ := eT d_e24_
      rw [show d_j25_ = c_j13_ by omega] at we24_
      omega
    · have mi := x6miss c_hs20_
      have sv := sw c_j13_ (by omega)
      have ye23_ := eT c_e23_
      have we14_ := eT d_e14_
      rw [show d_j15_ = c_j13_ by omega] at we14_
      have we19_ := eT d_e19_
      rw [show d_j20_ = c_j13_ by omega] at we19_
      have we24_ := eT d_e24_
      rw [show d_j25_ = c_j13_ by omega] at we24_
      omega
    · refine ⟨sameE hR hD.2.1 c_hF96_ c_hM_ d_hF105_ d_hM_, i32e ?_⟩
      have e := err_r c_hs98_ (by first | decide | simp | (dsimp only; omega))
      rw [c_hr_, d_hr_, e, d_h103_]
      decide
    · have mi := x6miss c_hs20_
      have sv := sw c_j13_ (by omega)
      have ye23_ := eT c_e23_
      have we14_ := eT d_e14_
      rw [show d_j15_ = c_j13_ by omega] at we14_
      omega
    · have mi := x6miss c_hs20_
      have sv := sw c_j13_ (by omega)
      have ye23_ := eT c_e23_
      omega
    · have mi := x6miss c_hs20_
      have sv := sw c_j13_ (by omega)
      have ye23_ := eT c_e23_
      omega
  · refine xE_SP_X12_lays h2 ⟨(fun d_hs5_ d_h4_ => ⟨(fun d_hs11_ d_h10_ d_j15_ d_h16_ d_z13_ d_e14_ => ⟨(fun d_h17_ d_j20_ d_h21_ d_z18_ d_e19_ => ⟨(fun d_h22_ d_j25_ d_h26_ d_z23_ d_e24_ d_h27_ => ⟨(fun d_h28_ d_v4_81 d_hv0_81 d_v3_81 d_M_81 d_hL_81 _ d_hF_81 d_j33_ d_h34_ d_z31_ d_e32_ d_h35_ d_h36_ d_h37_ d_hr_ d_hM_ => ?_), (fun d_h28_ d_M93_ _ d_hF97_ d_r92_ d_hs99_ d_h95_ d_hr_ d_hM_ => ?_)⟩), (fun d_h22_ d_M101_ _ d_hF105_ d_r100_ d_hs107_ d_h103_ d_hr_ d_hM_ => ?_)⟩), (fun d_h17_ d_M109_ _ d_hF113_ d_r108_ d_hs115_ d_h111_ d_hr_ d_hM_ => ?_)⟩), (fun d_hs11_ d_h10_ d_M118_ _ d_hF122_ d_r117_ d_hs124_ d_h120_ d_hr_ d_hM_ => ?_)⟩), (fun d_hs5_ d_h4_ d_M127_ _ d_hF131_ d_r126_ d_hs133_ d_h129_ d_hr_ d_hM_ => ?_)⟩
    · have mi := x6miss c_hs20_
      have sv := sw c_j13_ (by omega)
      have we14_ := eT d_e14_
      rw [show d_j15_ = c_j13_ by omega] at we14_
      have we19_ := eT d_e19_
      rw [show d_j20_ = c_j13_ by omega] at we19_
      have we24_ := eT d_e24_
      rw [show d_j25_ = c_j13_ by omega] at we24_
      omega
    · have mi := x6miss c_hs20_
      have sv := sw c_j13_ (by omega)
      have we14_ := eT d_e14_
      rw [show d_j15_ = c_j13_ by omega] at we14_
      have we19_ := eT d_e19_
      rw [show d_j20_ = c_j13_ by omega] at we19_
      have we24_ := eT d_e24_
      rw [show d_j25_ = c_j13_ by omega] at we24_
      omega
    · have mi := x6miss c_hs20_
      have sv := sw c_j13_ (by omega)
      have we14_ := eT d_e14_
      rw [show d_j15_ = c_j13_ by omega] at we14_
      have we19_ := eT d_e19_
      rw [show d_j20_ = c_j13_ by omega] at we19_
      omega
    · refine ⟨sameE hR hD.2.1 c_hF104_ c_hM_ d_hF113_ d_hM_, i32e ?_⟩
      have e := err_r c_hs106_ (by first | decide | simp | (dsimp only; omega))
      rw [c_hr_, d_hr_, e, d_h111_]
      decide
    · have mi := x6miss c_hs20_
      have sv := sw c_j13_ (by omega)
      omega
    · have mi := x6miss c_hs20_
      have sv := sw c_j13_ (by omega)
      omega
  · refine xE_SP_X12_lays h2 ⟨(fun d_hs5_ d_h4_ => ⟨(fun d_hs11_ d_h10_ d_j15_ d_h16_ d_z13_ d_e14_ => ⟨(fun d_h17_ d_j20_ d_h21_ d_z18_ d_e19_ => ⟨(fun d_h22_ d_j25_ d_h26_ d_z23_ d_e24_ d_h27_ => ⟨(fun d_h28_ d_v4_81 d_hv0_81 d_v3_81 d_M_81 d_hL_81 _ d_hF_81 d_j33_ d_h34_ d_z31_ d_e32_ d_h35_ d_h36_ d_h37_ d_hr_ d_hM_ => ?_), (fun d_h28_ d_M93_ _ d_hF97_ d_r92_ d_hs99_ d_h95_ d_hr_ d_hM_ => ?_)⟩), (fun d_h22_ d_M101_ _ d_hF105_ d_r100_ d_hs107_ d_h103_ d_hr_ d_hM_ => ?_)⟩), (fun d_h17_ d_M109_ _ d_hF113_ d_r108_ d_hs115_ d_h111_ d_hr_ d_hM_ => ?_)⟩), (fun d_hs11_ d_h10_ d_M118_ _ d_hF122_ d_r117_ d_hs124_ d_h120_ d_hr_ d_hM_ => ?_)⟩), (fun d_hs5_ d_h4_ d_M127_ _ d_hF131_ d_r126_ d_hs133_ d_h129_ d_hr_ d_hM_ => ?_)⟩
    · omega
    · omega
    · omega
    · omega
    · refine ⟨sameE hR hD.2.1 c_hF113_ c_hM_ d_hF122_ d_hM_, i32e ?_⟩
      have e := err_r c_hs115_ (by first | decide | simp | (dsimp only; omega))
      rw [c_hr_, d_hr_, e, d_h120_]
      decide
    · refine ⟨sameE hR hD.2.1 c_hF113_ c_hM_ d_hF131_ d_hM_, i32e ?_⟩
      have e := err_r c_hs115_ (by first | decide | simp | (dsimp only; omega))
      rw [c_hr_, d_hr_, e, d_h129_]
      decide
  · refine xE_SP_X12_lays h2 ⟨(fun d_hs5_ d_h4_ => ⟨(fun d_hs11_ d_h10_ d_j15_ d_h16_ d_z13_ d_e14_ => ⟨(fun d_h17_ d_j20_ d_h21_ d_z18_ d_e19_ => ⟨(fun d_h22_ d_j25_ d_h26_ d_z23_ d_e24_ d_h27_ => ⟨(fun d_h28_ d_v4_81 d_hv0_81 d_v3_81 d_M_81 d_hL_81 _ d_hF_81 d_j33_ d_h34_ d_z31_ d_e32_ d_h35_ d_h36_ d_h37_ d_hr_ d_hM_ => ?_), (fun d_h28_ d_M93_ _ d_hF97_ d_r92_ d_hs99_ d_h95_ d_hr_ d_hM_ => ?_)⟩), (fun d_h22_ d_M101_ _ d_hF105_ d_r100_ d_hs107_ d_h103_ d_hr_ d_hM_ => ?_)⟩), (fun d_h17_ d_M109_ _ d_hF113_ d_r108_ d_hs115_ d_h111_ d_hr_ d_hM_ => ?_)⟩), (fun d_hs11_ d_h10_ d_M118_ _ d_hF122_ d_r117_ d_hs124_ d_h120_ d_hr_ d_hM_ => ?_)⟩), (fun d_hs5_ d_h4_ d_M127_ _ d_hF131_ d_r126_ d_hs133_ d_h129_ d_hr_ d_hM_ => ?_)⟩
    · omega
    · omega
    · omega
    · omega
    · refine ⟨sameE hR hD.2.1 c_hF122_ c_hM_ d_hF122_ d_hM_, i32e ?_⟩
      have e := err_r c_hs124_ (by first | decide | simp | (dsimp only; omega))
      rw [c_hr_, d_hr_, e, d_h120_]
      decide
    · refine ⟨sameE hR hD.2.1 c_hF122_ c_hM_ d_hF131_ d_hM_, i32e ?_⟩
      have e := err_r c_hs124_ (by first | decide | simp | (dsimp only; omega))
      rw [c_hr_, d_hr_, e, d_h129_]
      decide
end
section
/-! the call click -/
theorem cb_17 {v : Int32} {M M1 D D2 : mM} {r1 r2 : Int32} (h1 : SP_X11_click v M r1 M1) (h2 : SP_X12_click v D r2 D2) (hR : RW 0 M.1 (D.1 (50, 0, 0))) (hD : InvD D) (hu : (D.1 (12, 0, 0) 7).toInt = -1) : RW 0 M1.1 (D2.1 (50, 0, 0)) ∧ r1 = r2 := by
  have q0 := il_0
  have q1 := il_1
  have nW := nWa_b hD.2.1
  have bW := eT hR.1.2.2.1.1
  have n2 : (D.1 (50, 0, 0) 2).toInt = nWa (D.1 (50, 0, 0)) := rfl
  have T := WB hR v
  have kb : 0 ≤ v.toInt → v.toInt < nWa (D.1 (50, 0, 0)) → 0 ≤ (D.1 (50, 0, 0) (180 + 9 * v.toInt.toNat)).toInt ∧ (D.1 (50, 0, 0) (180 + 9 * v.toInt.toNat)).toInt ≤ 7 := fun a b => ((hD.2.1.1 (180 + 9 * v.toInt.toNat)).2.2.2.2.2.2.2 (by omega) (by omega)).1 (by omega)
  refine xE_SP_X11_click h1 ⟨(fun c_hs5_ c_h4_ c_j7_ c_h8_ c_h9_ c_r10_ c_hs14_ c_h13_ => ⟨(fun c_h15_ c_M17_ _ c_hF21_ c_r16_ c_hs23_ c_hr_ c_hM_ => ?_), (fun c_h15_ c_M25_ _ c_hF29_ c_r24_ c_hs31_ c_hr_ c_hM_ => ?_)⟩), (fun c_hs5_ c_M34_ _ c_hF38_ c_r33_ c_hs40_ c_hr_ c_hM_ => ?_)⟩
  ·
    refine xE_SP_X12_click h2 ⟨(fun d_hs5_ d_h4_ d_r7_ d_hs11_ d_h10_ d_r12_ d_hs16_ d_h15_ => ⟨(fun d_h17_ d_M19_ _ d_hF23_ d_r18_ d_hs25_ d_h21_ d_hr_ d_hM_ => ?_), (fun d_h17_ d_M27_ _ d_hF31_ d_r26_ d_hs33_ d_hr_ d_hM_ => ?_)⟩), (fun d_hs5_ d_M36_ _ d_hF40_ d_r35_ d_hs42_ d_h38_ d_hr_ d_hM_ => ?_)⟩
    · skip
      have qh := x10has c_hs5_
      obtain rfl : c_j7_ = v.toInt.toNat := by omega
      have T1 := T.resolve_left (fun z => z (by omega))
      have kb1 := kb (by omega) (by omega)
      have io := x9isOf c_hs14_ (by rw [T1.1]; exact kb1)
      rw [T1.1] at io
      have qi := is2x d_hs5_
      have ko := x12kindOf d_hs11_ (by omega)
      have iu := x12isUnder d_hs16_ (by omega)
      rw [ko] at iu
      rcases io with io | io <;> rcases iu with iu | iu <;> first | omega | exact absurd io.2 iu.2 | exact absurd iu.2 io.2
    · skip
      have qh := x10has c_hs5_
      obtain rfl : c_j7_ = v.toInt.toNat := by omega
      have T1 := T.resolve_left (fun z => z (by omega))
      have kb1 := kb (by omega) (by omega)
      have io := x9isOf c_hs14_ (by rw [T1.1]; exact kb1)
      rw [T1.1] at io
      have qi := is2x d_hs5_
      have ko := x12kindOf d_hs11_ (by omega)
      have iu := x12isUnder d_hs16_ (by omega)
      rw [ko] at iu
      have B := click_both c_hs23_ d_hs33_ hR.1 hD (by omega) hu
      obtain ⟨b1, b2, b3, b4, b5⟩ := B
      rw [c_hr_, d_hr_, c_hM_, d_hM_]
      refine ⟨RW_of hR hD.2.1 b2 (fun c k hc => c_hF21_ c k (fun z => by simp only [S_c_X10_makeClick, or_false] at z; omega)) (fun j hj => b5 j (by omega) (by omega)), b1⟩
    · skip
      have qh := x10has c_hs5_
      obtain rfl : c_j7_ = v.toInt.toNat := by omega
      have T1 := T.resolve_left (fun z => z (by omega))
      have kb1 := kb (by omega) (by omega)
      have io := x9isOf c_hs14_ (by rw [T1.1]; exact kb1)
      rw [T1.1] at io
      have qi := is2x d_hs5_
      omega
  ·
    refine xE_SP_X12_click h2 ⟨(fun d_hs5_ d_h4_ d_r7_ d_hs11_ d_h10_ d_r12_ d_hs16_ d_h15_ => ⟨(fun d_h17_ d_M19_ _ d_hF23_ d_r18_ d_hs25_ d_h21_ d_hr_ d_hM_ => ?_), (fun d_h17_ d_M27_ _ d_hF31_ d_r26_ d_hs33_ d_hr_ d_hM_ => ?_)⟩), (fun d_hs5_ d_M36_ _ d_hF40_ d_r35_ d_hs42_ d_h38_ d_hr_ d_hM_ => ?_)⟩
    · skip
      have qh := x10has c_hs5_
      obtain rfl : c_j7_ = v.toInt.toNat := by omega
      have T1 := T.resolve_left (fun z => z (by omega))
      have kb1 := kb (by omega) (by omega)
      have io := x9isOf c_hs14_ (by rw [T1.1]; exact kb1)
      rw [T1.1] at io
      have qi := is2x d_hs5_
      have ko := x12kindOf d_hs11_ (by omega)
      have iu := x12isUnder d_hs16_ (by omega)
      rw [ko] at iu
      refine ⟨sameE hR hD.2.1 c_hF29_ c_hM_ d_hF23_ d_hM_, i32e ?_⟩
      have e := err_r c_hs31_ (by first | decide | simp | (dsimp only; omega))
      rw [c_hr_, d_hr_, e, d_h21_]
      decide
    · skip
      have qh := x10has c_hs5_
      obtain rfl : c_j7_ = v.toInt.toNat := by omega
      have T1 := T.resolve_left (fun z => z (by omega))
      have kb1 := kb (by omega) (by omega)
      have io := x9isOf c_hs14_ (by rw [T1.1]; exact kb1)
      rw [T1.1] at io
      have qi := is2x d_hs5_
      have ko := x12kindOf d_hs11_ (by omega)
      have iu := x12isUnder d_hs16_ (by omega)
      rw [ko] at iu
      rcases io with io | io <;> rcases iu with iu | iu <;> first | omega | exact absurd io.2 iu.2 | exact absurd iu.2 io.2
    · skip
      have qh := x10has c_hs5_
      obtain rfl : c_j7_ = v.toInt.toNat := by omega
      have T1 := T.resolve_left (fun z => z (by omega))
      have kb1 := kb (by omega) (by omega)
      have io := x9isOf c_hs14_ (by rw [T1.1]; exact kb1)
      rw [T1.1] at io
      have qi := is2x d_hs5_
      omega
  ·
    refine xE_SP_X12_click h2 ⟨(fun d_hs5_ d_h4_ d_r7_ d_hs11_ d_h10_ d_r12_ d_hs16_ d_h15_ => ⟨(fun d_h17_ d_M19_ _ d_hF23_ d_r18_ d_hs25_ d_h21_ d_hr_ d_hM_ => ?_), (fun d_h17_ d_M27_ _ d_hF31_ d_r26_ d_hs33_ d_hr_ d_hM_ => ?_)⟩), (fun d_hs5_ d_M36_ _ d_hF40_ d_r35_ d_hs42_ d_h38_ d_hr_ d_hM_ => ?_)⟩
    · skip
      have qh := x10has c_hs5_
      have qi := is2x d_hs5_
      have ko := x12kindOf d_hs11_ (by omega)
      have iu := x12isUnder d_hs16_ (by omega)
      rw [ko] at iu
      omega
    · skip
      have qh := x10has c_hs5_
      have qi := is2x d_hs5_
      have ko := x12kindOf d_hs11_ (by omega)
      have iu := x12isUnder d_hs16_ (by omega)
      rw [ko] at iu
      omega
    · skip
      have qh := x10has c_hs5_
      have qi := is2x d_hs5_
      refine ⟨sameE hR hD.2.1 c_hF38_ c_hM_ d_hF40_ d_hM_, i32e ?_⟩
      have e := err_r c_hs40_ (by first | decide | simp | (dsimp only; omega))
      rw [c_hr_, d_hr_, e, d_h38_]
      decide
/-! feed -/
theorem feed_byte {v : Int64} {z y : Int32} {k : Nat} (hk : k < 8) (hz : z.toInt = 8 * (k : Int)) (hy : y.toInt = 8 * (k : Int)) : (v.toUInt64 >>> (z.toInt64.toUInt64 &&& Int64.toUInt64 63)).toInt64.toInt32 &&& (255 : Int32) = ((v >>> (y.toInt64 &&& 63)) &&& (255 : Int64)).toInt32 := by
  obtain rfl : z = y := i32e (hz.trans hy.symm)
  have a0 : ∀ k : Nat, k < 8 → (Int32.ofNat (8 * k)).toInt = 8 * (k : Int) := by decide +kernel
  have a1 : ∀ k : Nat, k < 8 → (((Int32.ofNat (8 * k)).toInt64.toUInt64 &&& Int64.toUInt64 63).toBitVec % 64).toNat = 8 * k := by decide +kernel
  have a2 : ∀ k : Nat, k < 8 → (((Int32.ofNat (8 * k)).toInt64 &&& 63).toBitVec.smod 64).toNat = 8 * k := by decide +kernel
  have m32 : ∀ i : Nat, i < 32 → (255 : Int32).toBitVec.getLsbD i = decide (i < 8) := by decide +kernel
  have m64 : ∀ i : Nat, i < 32 → (255 : Int64).toBitVec.getLsbD i = decide (i < 8) := by decide +kernel
  have e : z = Int32.ofNat (8 * k) := i32e (hz.trans (a0 k hk).symm)
  rw [e]
  apply Int32.toBitVec_inj.mp
  apply BitVec.eq_of_getLsbD_eq
  intro i hi
  show (BitVec.signExtend 32 (v.toUInt64 >>> ((Int32.ofNat (8 * k)).toInt64.toUInt64 &&& Int64.toUInt64 63)).toBitVec &&& (255 : Int32).toBitVec).getLsbD i = (BitVec.signExtend 32 ((v >>> ((Int32.ofNat (8 * k)).toInt64 &&& 63)).toBitVec &&& (255 : Int64).toBitVec)).getLsbD i
  rw [BitVec.getLsbD_and, BitVec.getLsbD_signExtend, BitVec.getLsbD_signExtend, BitVec.getLsbD_and, m32 i hi, m64 i hi]
  by_cases q : i < 8
  · have l1 : (v.toUInt64 >>> ((Int32.ofNat (8 * k)).toInt64.toUInt64 &&& Int64.toUInt64 63)).toBitVec.getLsbD i = v.toBitVec.getLsbD (8 * k + i) := by
      rw [UInt64.toBitVec_shiftRight]
      show (v.toBitVec >>> (((Int32.ofNat (8 * k)).toInt64.toUInt64 &&& Int64.toUInt64 63).toBitVec % 64).toNat).getLsbD i = _
      rw [a1 k hk, BitVec.getLsbD_ushiftRight]
    have l2 : (v >>> ((Int32.ofNat (8 * k)).toInt64 &&& 63)).toBitVec.getLsbD i = v.toBitVec.getLsbD (8 * k + i) := by
      rw [Int64.toBitVec_shiftRight]
      show (v.toBitVec.sshiftRight (((Int32.ofNat (8 * k)).toInt64 &&& 63).toBitVec.smod 64).toNat).getLsbD i = _
      rw [a2 k hk, BitVec.getLsbD_sshiftRight, if_pos (by omega)]
      simp [Nat.not_le.mpr (show i < 64 by omega)]
    rw [l1, l2]
    simp [hi, q, show i < 64 by omega]
  · simp [q, show i < 64 by omega]
theorem x5add0 {v : Int32} {M M' : mM} (h : SP_X5_add 0 0 v M M') (h0 : 0 ≤ (M.1 (5, 0, 0) 1).toInt ∧ (M.1 (5, 0, 0) 1).toInt < 48) : ∃ z : Int32, z = M.1 (5, 0, 0) 1 + (1 : Int32) ∧ M' = up (up M (33, 0, 0) (M.1 (5, 0, 0) 1).toInt.toNat v) (5, 0, 0) 1 z := by
  have rl0 : ((rl 0 : Nat) : Int) = 48 := by decide
  refine xE_SP_X5_add h (fun z1_ e2_ => ⟨(fun h3_ hM_ => ?_), (fun h3_ z6_ h7_ => ⟨(fun h8_ hM_ => ?_), (fun h8_ j13_ h14_ M11_ hM12_ z17_ e18_ z19_ h20_ M21_ hM22_ hM_ => ?_)⟩)⟩)
  · have := eT e2_; omega
  · have := eT e2_; omega
  · have y := eT e2_
    obtain rfl : j13_ = z1_.toInt.toNat := by omega
    have e : z17_ = z1_ := by rw [e18_, zupR hM12_ (by simp), e2_]
    rw [← e2_]
    exact ⟨z19_, by rw [h20_, e], by rw [hM_, hM22_, hM12_]⟩
def FDR (C0 D0 : mM) (x y : Int32 × mM) : Prop := x.1.toInt = y.1.toInt ∧ RW 0 x.2.1 (y.2.1 (50, 0, 0)) ∧ x.2.1 (5, 0, 0) 1 = y.2.1 (50, 0, 0) 4
theorem RW_fed {q q2 : rf → Nat → Int32} {n n2 : Nat → Int32} {x z : Int32} (h : RW 0 q n) (hN : NW5 n) (h48 : (n 4).toInt < 48) (hx : 0 ≤ x.toInt ∧ x.toInt ≤ 255) (hz : z.toInt = (n 4).toInt + 1) (hq : ∀ (c : rf) (k : Nat), ¬ c.1 = 5 → ¬ (c = (33, 0, 0) ∧ k = (n 4).toInt.toNat) → q2 c k = q c k) (hx2 : q2 (33, 0, 0) (n 4).toInt.toNat = x) (hn : n2 = upd (upd n (273 + (n 4).toInt.toNat) x) 4 z) : RW 0 q2 n2 := by
  have n4 := (n345_b hN).2.1
  have nn : ∀ j, ¬ j = 4 → ¬ j = 273 + (n 4).toInt.toNat → n2 j = n j := fun j a b => by rw [hn, updN a, updN b]
  obtain ⟨⟨hL, hT, hW, hX, hO, hM⟩, hE, hA, hY⟩ := h
  have th := nTh_b hN
  have nw := nWa_b hN
  have nb := n345_b hN
  have qq : ∀ (r w k : Nat), ¬ r = 5 → ¬ r = 33 → q2 (r, 0, w) k = q (r, 0, w) k := fun r w k h2 h3 => hq _ _ h2 (fun z => h3 (congrArg (fun c : rf => c.1) z.1))
  refine ⟨⟨LWR_keep hL (fun r k w => qq r 0 k (by omega) (by omega)) (fun j hj => nn j (by omega) (by omega)), THR_keep hT th.2 (fun r k w => qq r 0 k (by omega) (by omega)) (fun j hj => nn j (by omega) (by omega)),
    WAR_keep hW nw.2 (fun r w k z => qq r w k (by omega) (by omega)) (qq 10 0 6 (by omega) (by omega)) (fun j hj => nn j (by omega) (by omega)), TXR_keep hX (TXz hN) (fun r u k z _ => qq r u k (by omega) (by omega)) (fun j h1 h2 => nn j (by omega) (by omega)),
    OCC_keep hO th.2 nw.2 (fun k => qq 35 0 k (by omega) (by omega)) (fun j hj => nn j (by omega) (by omega)) (fun j hj => nn j (by omega) (by omega)),
    MIR_keep hM th.2 nw.2 (fun j hj => nn j (by omega) (by omega)) (fun w h1 h2 => ⟨fun k hk => nn _ (by omega) (by omega), fun c hc => nn _ (by omega) (by omega)⟩)⟩,
    LER_keep hE nb.1.2 (fun r k w => qq r 0 k (by omega) (by omega)) (fun j hj => nn j (by omega) (by omega)), fun i hi => ?_, fun i hi => ?_⟩
  · have e4 : n2 4 = z := by rw [hn, updE rfl]
    rw [e4] at hi
    by_cases e : (i : Int) = (n 4).toInt
    · obtain rfl : i = (n 4).toInt.toNat := by omega
      rw [hx2, hn, updN (by omega), updE rfl]
      exact ⟨rfl, hx⟩
    · rw [hq _ _ (by simp) (fun z => by have := z.2; omega), nn _ (by omega) (by omega)]
      exact hA i (by omega)
  · rw [nn 5 (by omega) (by omega)] at hi
    rw [hq _ _ (by simp) (fun z => by have := congrArg (fun c : rf => c.2.2) z.1; simp at this), nn _ (by omega) (by omega)]
    exact hY i hi
theorem feed_loop {v : Int64} {u : Int32} {C D : mM} {z t : Int32 × mM} (hu : 1 ≤ u.toInt ∧ u.toInt ≤ 8) (hR : RW 0 C.1 (D.1 (50, 0, 0))) (h4 : C.1 (5, 0, 0) 1 = D.1 (50, 0, 0) 4)
    (hc : RCH (fun x y : Int32 × mM => ST_X11_feed_39 v u C x.1 x.2 y.1 y.2) ((0 : Int32), C) z) (hd : RCH (fun x y : Int32 × mM => ST_X12_feed_40 v u D x.1 x.2 y.1 y.2) ((0 : Int32), D) t) (fc : u.toInt ≤ z.1.toInt) (fd : u.toInt ≤ t.1.toInt) : FDR C D z t := by
  refine lockE (FDR C D) hc hd ⟨rfl, hR, h4⟩ ?_ ?_ ?_
  · intro x z y t r s1 s2
    obtain ⟨r1, r2, r3⟩ := r
    (try dsimp only at s1 s2)
    refine xE_ST_X11_feed_39 s1 (fun c_hv0_39 _ c_hF_39 c_h14_ c_z17_ c_h18_ c_w19_ c_h20_ c_z21_ c_h22_ c_z23_ c_h25_ c_h24_ c_M26_ _ c_hF30_ c_hs32_ c_z33_ c_h34_ c_hq_v4_39y c_hM_ => ?_)
    refine xE_ST_X12_feed_40 s2 (fun d_hv0_40 d_hv1_40 d_hv2_40 d_hI_40 d_hF_40 d_h14_ d_z18_ d_e19_ d_h21_ d_z22_ d_h23_ d_z24_ d_h25_ d_w26_ d_h27_ d_w28_ d_h29_ d_z30_ d_h31_ d_j34_ d_h35_ d_M32_ d_hM33_ d_z39_ d_e40_ d_h41_ d_h42_ d_z43_ d_h44_ d_M45_ d_hM46_ d_z50_ d_h51_ d_hq_v4_40y d_hM_ => ?_)
    have y1 := eT d_e19_
    have e3 := eT r3
    have ca := x5add0 c_hs32_ (by omega)
    obtain ⟨zz, ca1, ca2⟩ := ca
    have za : zz.toInt = (x.2.1 (5, 0, 0) 1).toInt + 1 := by rw [ca1, addI (x := x.2.1 (5, 0, 0) 1) rfl il_1 (by omega) (by omega)]
    obtain rfl : d_j34_ = 273 + (y.2.1 (50, 0, 0) 4).toInt.toNat := by omega
    have by' : d_z30_ = c_z23_ := by
      rw [d_h31_, d_h29_, d_h27_, c_h25_, c_h22_, c_h20_]
      exact (feed_byte (k := x.1.toInt.toNat) (by omega) (by omega) (by omega)).symm
    obtain rfl : d_z43_ = zz := i32e (by omega)
    have k1 := eT c_hq_v4_39y
    have k2 := eT d_hq_v4_40y
    refine ⟨by omega, ?_, ?_⟩
    · rw [c_hM_, d_hM_, d_hM46_, up_row, d_hM33_, up_row]
      refine RW_fed (x := d_z30_) (z := d_z43_) r2 d_hI_40.2.1 (by omega) (by rw [by']; omega) (by omega) (fun c k a b => ?_) ?_ rfl
      · rw [ca2, zupN rfl (fun q => a (by rw [q.1])), zupN rfl (fun q => b ⟨q.1, by rw [← r3]; exact q.2⟩)]
      · rw [ca2, zupR rfl (by simp), zupE rfl rfl (by rw [r3]), by']
    · rw [c_hM_, d_hM_, ca2, zupE rfl rfl rfl, d_hM46_, zupE rfl rfl rfl]
  · intro y y' r s2
    obtain ⟨r1, -⟩ := r
    (try dsimp only at s2)
    refine xE_ST_X12_feed_40 s2 (fun d_hv0_40 d_hv1_40 d_hv2_40 _ d_hF_40 d_h14_ d_z18_ d_e19_ d_h21_ d_z22_ d_h23_ d_z24_ d_h25_ d_w26_ d_h27_ d_w28_ d_h29_ d_z30_ d_h31_ d_j34_ d_h35_ d_M32_ d_hM33_ d_z39_ d_e40_ d_h41_ d_h42_ d_z43_ d_h44_ d_M45_ d_hM46_ d_z50_ d_h51_ d_hq_v4_40y d_hM_ => ?_)
    omega
  · intro x x' r s1
    obtain ⟨r1, -⟩ := r
    (try dsimp only at s1)
    refine xE_ST_X11_feed_39 s1 (fun c_hv0_39 _ c_hF_39 c_h14_ c_z17_ c_h18_ c_w19_ c_h20_ c_z21_ c_h22_ c_z23_ c_h25_ c_h24_ c_M26_ _ c_hF30_ c_hs32_ c_z33_ c_h34_ c_hq_v4_39y c_hM_ => ?_)
    omega
theorem cb_14 {v : Int64} {u : Int32} {M M1 D D2 : mM} {r1 r2 : Int32} (h1 : SP_X11_feed v u M r1 M1) (h2 : SP_X12_feed v u D r2 D2) (hR : RW 0 M.1 (D.1 (50, 0, 0))) (hD : InvD D) (hu : (D.1 (12, 0, 0) 7).toInt = -1) (h4 : M.1 (5, 0, 0) 1 = D.1 (50, 0, 0) 4) : RW 0 M1.1 (D2.1 (50, 0, 0)) ∧ r1 = r2 := by
  have q0 := il_0
  have q1 := il_1
  have rl0 : ((rl 0 : Nat) : Int) = 48 := by decide
  have e4 := eT h4
  have n4 := (n345_b hD.2.1).2.1
  have room : ∀ {r : Int32}, SP_X5_room 0 0 M r → r.toInt = 48 - (D.1 (50, 0, 0) 4).toInt := fun {r} hh => by
    refine xE_SP_X5_room hh (fun e_z1_ e_h2_ e_z3_ e_e4_ e_z5_ e_h6_ e_hr_ => ?_)
    have y := eT e_e4_
    rw [e_hr_, e_h6_, subI (x := e_z1_) (y := e_z3_) rfl rfl (by omega) (by omega)]
    omega
  refine xE_SP_X11_feed h1 ⟨(fun c_hs5_ c_h4_ c_r7_ c_hs11_ => ⟨(fun c_h12_ c_v4_39 c_hv0_39 c_M_39 c_hL_39 _ c_hF_39 c_h14_ c_z15_ c_e16_ c_hr_ c_hM_ => ?_), (fun c_h12_ c_M36_ _ c_hF40_ c_r35_ c_hs42_ c_hr_ c_hM_ => ?_)⟩), (fun c_hs5_ c_h4_ c_M45_ _ c_hF49_ c_r44_ c_hs51_ c_hr_ c_hM_ => ?_)⟩
  ·
    refine xE_SP_X12_feed h2 ⟨(fun d_hs5_ d_h4_ d_z7_ d_e8_ d_h9_ d_z10_ d_h11_ => ⟨(fun d_h12_ d_v4_40 d_hv0_40 d_hv1_40 d_M_40 d_hv2_40 d_hL_40 _ d_hF_40 d_h14_ d_z15_ d_e16_ d_h17_ d_hr_ d_hM_ => ?_), (fun d_h12_ d_M53_ _ d_hF57_ d_r52_ d_hs59_ d_h55_ d_hr_ d_hM_ => ?_)⟩), (fun d_hs5_ d_h4_ d_M62_ _ d_hF66_ d_r61_ d_hs68_ d_h64_ d_hr_ d_hM_ => ?_)⟩
    · skip
      have rm := room c_hs11_
      have yde8_ := eT d_e8_
      have L := feed_loop (z := (c_v4_39, c_M_39)) (t := (d_v4_40, d_M_40)) (by omega) hR h4 c_hL_39 d_hL_40 (by omega) (by omega)
      obtain ⟨l1, l2, l3⟩ := L
      rw [c_hM_, d_hM_, c_hr_, d_hr_, c_e16_, d_e16_]
      exact ⟨l2, l3⟩
    · skip
      have rm := room c_hs11_
      have yde8_ := eT d_e8_
      omega
    · skip
      have rm := room c_hs11_
      omega
  ·
    refine xE_SP_X12_feed h2 ⟨(fun d_hs5_ d_h4_ d_z7_ d_e8_ d_h9_ d_z10_ d_h11_ => ⟨(fun d_h12_ d_v4_40 d_hv0_40 d_hv1_40 d_M_40 d_hv2_40 d_hL_40 _ d_hF_40 d_h14_ d_z15_ d_e16_ d_h17_ d_hr_ d_hM_ => ?_), (fun d_h12_ d_M53_ _ d_hF57_ d_r52_ d_hs59_ d_h55_ d_hr_ d_hM_ => ?_)⟩), (fun d_hs5_ d_h4_ d_M62_ _ d_hF66_ d_r61_ d_hs68_ d_h64_ d_hr_ d_hM_ => ?_)⟩
    · skip
      have rm := room c_hs11_
      have yde8_ := eT d_e8_
      omega
    · skip
      have rm := room c_hs11_
      have yde8_ := eT d_e8_
      refine ⟨sameE hR hD.2.1 c_hF40_ c_hM_ d_hF57_ d_hM_, i32e ?_⟩
      have e := err_r c_hs42_ (by first | decide | simp | (dsimp only; omega))
      rw [c_hr_, d_hr_, e, d_h55_]
      decide
    · skip
      have rm := room c_hs11_
      omega
  ·
    refine xE_SP_X12_feed h2 ⟨(fun d_hs5_ d_h4_ d_z7_ d_e8_ d_h9_ d_z10_ d_h11_ => ⟨(fun d_h12_ d_v4_40 d_hv0_40 d_hv1_40 d_M_40 d_hv2_40 d_hL_40 _ d_hF_40 d_h14_ d_z15_ d_e16_ d_h17_ d_hr_ d_hM_ => ?_), (fun d_h12_ d_M53_ _ d_hF57_ d_r52_ d_hs59_ d_h55_ d_hr_ d_hM_ => ?_)⟩), (fun d_hs5_ d_h4_ d_M62_ _ d_hF66_ d_r61_ d_hs68_ d_h64_ d_hr_ d_hM_ => ?_)⟩
    · skip
      have yde8_ := eT d_e8_
      omega
    · skip
      have yde8_ := eT d_e8_
      omega
    · skip
      refine ⟨sameE hR hD.2.1 c_hF49_ c_hM_ d_hF66_ d_hM_, i32e ?_⟩
      have e := err_r c_hs51_ (by first | decide | simp | (dsimp only; omega))
      rw [c_hr_, d_hr_, e, d_h64_]
      decide
end
section
/-! lesson, tell -/
theorem RW_rest {q q2 : rf → Nat → Int32} {n n2 : Nat → Int32} (h : RW 0 q n) (hN : NW5 n) (hq : ∀ (c : rf) (k : Nat), wR c.1 → ¬ (30 ≤ c.1 ∧ c.1 ≤ 33) → q2 c k = q c k) (hn : ∀ j, ¬ (j = 3 ∨ j = 4 ∨ j = 5) → ¬ (252 ≤ j ∧ j < 345) → n2 j = n j) (hE : LER 0 q2 n2) (hA : TAR 0 q2 n2) (hY : WTR 0 q2 n2) : RW 0 q2 n2 := by
  obtain ⟨⟨hL, hT, hW, hX, hO, hM⟩, -, -, -⟩ := h
  have th := nTh_b hN
  have nw := nWa_b hN
  have qq : ∀ (r w k : Nat), wR r → ¬ (30 ≤ r ∧ r ≤ 33) → q2 (r, 0, w) k = q (r, 0, w) k := fun r w k h2 h3 => hq _ _ h2 h3
  exact ⟨⟨LWR_keep hL (fun r k w => qq r 0 k (by unfold wR; omega) (by omega)) (fun j hj => hn j (by omega) (by omega)), THR_keep hT th.2 (fun r k w => qq r 0 k (by unfold wR; omega) (by omega)) (fun j hj => hn j (by omega) (by omega)),
    WAR_keep hW nw.2 (fun r w k z => qq r w k (by unfold wR; omega) (by omega)) (qq 10 0 6 (by unfold wR; omega) (by omega)) (fun j hj => hn j (by omega) (by omega)), TXR_keep hX (TXz hN) (fun r u k z _ => qq r u k (by unfold wR; omega) (by omega)) (fun j h1 h2 => hn j (by omega) (by omega)),
    OCC_keep hO th.2 nw.2 (fun k => qq 35 0 k (by unfold wR; omega) (by omega)) (fun j hj => hn j (by omega) (by omega)) (fun j hj => hn j (by omega) (by omega)),
    MIR_keep hM th.2 nw.2 (fun j hj => hn j (by omega) (by omega)) (fun w h1 h2 => ⟨fun k hk => hn _ (by omega) (by omega), fun c hc => hn _ (by omega) (by omega)⟩)⟩, hE, hA, hY⟩
theorem x3addM {b : Nat} {v u t : Int32} {M M1 : mM} {r : Int32} (h : SP_X3_add b v u t M r M1) (h0 : 0 ≤ (M.1 (3, b, 0) 3).toInt ∧ (M.1 (3, b, 0) 3).toInt < 7) : r = M.1 (3, b, 0) 3 ∧ ∃ z : Int32, z.toInt = (M.1 (3, b, 0) 3).toInt + 1 ∧ M1 = up (up (up (up M (30, b, 0) (M.1 (3, b, 0) 3).toInt.toNat v) (31, b, 0) (M.1 (3, b, 0) 3).toInt.toNat u) (32, b, 0) (M.1 (3, b, 0) 3).toInt.toNat t) (3, b, 0) 3 z := by
  refine xE_SP_X3_add h (fun z1_ e2_ => ⟨(fun h3_ hr_ hM_ => ?_), (fun h3_ => ⟨(fun h4_ j7_ h8_ M5_ hM6_ j13_ h14_ M11_ hM12_ j19_ h20_ M17_ hM18_ z23_ e24_ z25_ h26_ M27_ hM28_ hr_ hM_ => ?_), (fun h4_ hr_ hM_ => ?_)⟩)⟩)
  · have := eT e2_; omega
  · obtain rfl : j7_ = z1_.toInt.toNat := by omega
    obtain rfl : j13_ = z1_.toInt.toNat := by omega
    obtain rfl : j19_ = z1_.toInt.toNat := by omega
    have e23 : z23_ = z1_ := by rw [e24_, zupR hM18_ (by simp), zupR hM12_ (by simp), zupR hM6_ (by simp), e2_]
    rw [e23] at h26_
    have ez := add1 h26_ (by omega)
    rw [← e2_]
    exact ⟨hr_, z25_, ez, by rw [hM_, hM28_, hM18_, hM12_, hM6_]⟩
  · have := eT e2_; omega
theorem x5add1 {v : Int32} {M M' : mM} (h : SP_X5_add 0 1 v M M') (h0 : 0 ≤ (M.1 (5, 0, 1) 1).toInt ∧ (M.1 (5, 0, 1) 1).toInt < 24) : ∃ z : Int32, z.toInt = (M.1 (5, 0, 1) 1).toInt + 1 ∧ M' = up (up M (33, 0, 1) (M.1 (5, 0, 1) 1).toInt.toNat v) (5, 0, 1) 1 z := by
  have rl1 : ((rl 1 : Nat) : Int) = 24 := by decide
  refine xE_SP_X5_add h (fun z1_ e2_ => ⟨(fun h3_ hM_ => ?_), (fun h3_ z6_ h7_ => ⟨(fun h8_ hM_ => ?_), (fun h8_ j13_ h14_ M11_ hM12_ z17_ e18_ z19_ h20_ M21_ hM22_ hM_ => ?_)⟩)⟩)
  · have := eT e2_; omega
  · have := eT e2_; omega
  · have y := eT e2_
    obtain rfl : j13_ = z1_.toInt.toNat := by omega
    have e : z17_ = z1_ := by rw [e18_, zupR hM12_ (by simp), e2_]
    rw [e] at h20_
    have ez := add1 h20_ (by omega)
    rw [← e2_]
    exact ⟨z19_, ez, by rw [hM_, hM22_, hM12_]⟩
theorem cb_27 {v u t : Int32} {M M1 D D2 : mM} {r1 r2 : Int32} (h1 : SP_X11_lesson v u t M r1 M1) (h2 : SP_X12_lesson v u t D r2 D2) (hR : RW 0 M.1 (D.1 (50, 0, 0))) (hD : InvD D) (hu : (D.1 (12, 0, 0) 7).toInt = -1) (h3 : M.1 (3, 0, 0) 3 = D.1 (50, 0, 0) 3) : RW 0 M1.1 (D2.1 (50, 0, 0)) ∧ r1 = r2 := by
  have q0 := il_0
  have q1 := il_1
  have n3 := (n345_b hD.2.1).1
  have e3 := eT h3
  refine xE_SP_X11_lesson h1 ⟨(fun c_hs5_ c_h4_ => ⟨(fun c_hs11_ c_h10_ => ⟨(fun c_hs17_ c_h16_ c_r19_ c_hs23_ c_h22_ => ⟨(fun c_h24_ c_M26_ _ c_hF30_ c_r25_ c_hs32_ c_hr_ c_hM_ => ?_), (fun c_h24_ c_M34_ _ c_hF38_ c_r33_ c_hs40_ c_hr_ c_hM_ => ?_)⟩), (fun c_hs17_ c_h16_ c_M43_ _ c_hF47_ c_r42_ c_hs49_ c_hr_ c_hM_ => ?_)⟩), (fun c_hs11_ c_h10_ c_M52_ _ c_hF56_ c_r51_ c_hs58_ c_hr_ c_hM_ => ?_)⟩), (fun c_hs5_ c_h4_ c_M61_ _ c_hF65_ c_r60_ c_hs67_ c_hr_ c_hM_ => ?_)⟩
  ·
    refine xE_SP_X12_lesson h2 ⟨(fun d_hs5_ d_h4_ => ⟨(fun d_hs11_ d_h10_ => ⟨(fun d_hs17_ d_h16_ d_z19_ d_e20_ d_h22_ => ⟨(fun d_h23_ d_z24_ d_h25_ d_z26_ d_h27_ d_j30_ d_h31_ d_M28_ d_hM29_ d_z35_ d_h36_ d_z37_ d_h38_ d_z39_ d_h40_ d_j43_ d_h44_ d_M41_ d_hM42_ d_z48_ d_h49_ d_z50_ d_h51_ d_z52_ d_h53_ d_j56_ d_h57_ d_M54_ d_hM55_ d_z61_ d_e62_ d_h63_ d_h64_ d_z65_ d_h66_ d_M67_ d_hM68_ d_hr_ d_hM_ => ?_), (fun d_h23_ d_M72_ _ d_hF76_ d_r71_ d_hs78_ d_h74_ d_hr_ d_hM_ => ?_)⟩), (fun d_hs17_ d_h16_ d_M82_ _ d_hF86_ d_r81_ d_hs88_ d_h84_ d_hr_ d_hM_ => ?_)⟩), (fun d_hs11_ d_h10_ d_M91_ _ d_hF95_ d_r90_ d_hs97_ d_h93_ d_hr_ d_hM_ => ?_)⟩), (fun d_hs5_ d_h4_ d_M100_ _ d_hF104_ d_r99_ d_hs106_ d_h102_ d_hr_ d_hM_ => ?_)⟩
    · skip
      have rm := x3room c_hs23_
      have yde20_ := eT d_e20_
      have ca := x3addM c_hs32_ (by omega)
      obtain ⟨ca1, z, ca2, ca3⟩ := ca
      obtain rfl : d_j30_ = 252 + 3 * (D.1 (50, 0, 0) 3).toInt.toNat := by omega
      obtain rfl : d_j43_ = 253 + 3 * (D.1 (50, 0, 0) 3).toInt.toNat := by omega
      obtain rfl : d_j56_ = 254 + 3 * (D.1 (50, 0, 0) 3).toInt.toNat := by omega
      obtain rfl : d_z65_ = z := i32e (by omega)
      have dn : ∀ j, ¬ j = 3 → ¬ j = 252 + 3 * (D.1 (50, 0, 0) 3).toInt.toNat → ¬ j = 253 + 3 * (D.1 (50, 0, 0) 3).toInt.toNat → ¬ j = 254 + 3 * (D.1 (50, 0, 0) 3).toInt.toNat → D2.1 (50, 0, 0) j = D.1 (50, 0, 0) j := fun j a1 a2 a3 a4 => by
        rw [d_hM_, zupN d_hM68_ (fun z => a1 z.2), zupN d_hM55_ (fun z => a4 z.2), zupN d_hM42_ (fun z => a3 z.2), zupN d_hM29_ (fun z => a2 z.2)]
      have cn : ∀ (c : rf) (k : Nat), ¬ c.1 = 3 → ¬ c.1 = 30 → ¬ c.1 = 31 → ¬ c.1 = 32 → M1.1 c k = M.1 c k := fun c k a1 a2 a3 a4 => by
        rw [c_hM_, ca3, zupR rfl a1, zupR rfl a4, zupR rfl a3, zupR rfl a2]
      refine ⟨RW_rest hR hD.2.1 (fun c k a b => cn c k (fun z => by unfold wR at a; omega) (by omega) (by omega) (by omega)) (fun j a b => dn j (by omega) (by omega) (by omega) (by omega)) (fun l hl => ?_) (TAR_keep hR.2.2.1 (n345_b hD.2.1).2.1.2 (fun k => cn _ _ (by simp) (by simp) (by simp) (by simp)) (fun j hj => dn j (by omega) (by omega) (by omega) (by omega))) (WTR_keep hR.2.2.2 (n345_b hD.2.1).2.2.2 (fun k => cn _ _ (by simp) (by simp) (by simp) (by simp)) (fun j hj => dn j (by omega) (by omega) (by omega) (by omega))), ?_⟩
      · have hl2 : (l : Int) < (D.1 (50, 0, 0) 3).toInt + 1 := by
          rw [d_hM_, zupE d_hM68_ rfl rfl] at hl
          omega
        rw [c_hM_, d_hM_, ca3, h3]
        by_cases e : (l : Int) = (D.1 (50, 0, 0) 3).toInt
        · obtain rfl : l = (D.1 (50, 0, 0) 3).toInt.toNat := by omega
          refine ⟨?_, ?_, ?_⟩
          · rw [zupR rfl (by simp), zupR rfl (by simp), zupR rfl (by simp), zupE rfl rfl rfl, zupN d_hM68_ (fun z => by have := z.2; omega), zupN d_hM55_ (fun z => by have := z.2; omega), zupN d_hM42_ (fun z => by have := z.2; omega), zupE d_hM29_ rfl rfl]
          · rw [zupR rfl (by simp), zupR rfl (by simp), zupE rfl rfl rfl, zupN d_hM68_ (fun z => by have := z.2; omega), zupN d_hM55_ (fun z => by have := z.2; omega), zupE d_hM42_ rfl rfl]
          · rw [zupR rfl (by simp), zupE rfl rfl rfl, zupN d_hM68_ (fun z => by have := z.2; omega), zupE d_hM55_ rfl rfl]
        · have g := hR.2.1 l (by omega)
          have dd := fun j (hj : j = 252 + 3 * l ∨ j = 253 + 3 * l ∨ j = 254 + 3 * l) => dn j (by omega) (by omega) (by omega) (by omega)
          rw [d_hM_] at dd
          rw [dd _ (Or.inl rfl), dd _ (Or.inr (Or.inl rfl)), dd _ (Or.inr (Or.inr rfl))]
          refine ⟨?_, ?_, ?_⟩
          · rw [zupR rfl (by simp), zupR rfl (by simp), zupR rfl (by simp), zupN rfl (fun z => by have := z.2; omega)]; exact g.1
          · rw [zupR rfl (by simp), zupR rfl (by simp), zupN rfl (fun z => by have := z.2; omega), zupR rfl (by simp)]; exact g.2.1
          · rw [zupR rfl (by simp), zupN rfl (fun z => by have := z.2; omega), zupR rfl (by simp), zupR rfl (by simp)]; exact g.2.2
      · rw [c_hr_, d_hr_, ca1, d_e20_, h3]
    · skip
      have rm := x3room c_hs23_
      have yde20_ := eT d_e20_
      omega
    · skip
      have rm := x3room c_hs23_
      omega
    · skip
      have rm := x3room c_hs23_
      omega
    · skip
      have rm := x3room c_hs23_
      omega
  ·
    refine xE_SP_X12_lesson h2 ⟨(fun d_hs5_ d_h4_ => ⟨(fun d_hs11_ d_h10_ => ⟨(fun d_hs17_ d_h16_ d_z19_ d_e20_ d_h22_ => ⟨(fun d_h23_ d_z24_ d_h25_ d_z26_ d_h27_ d_j30_ d_h31_ d_M28_ d_hM29_ d_z35_ d_h36_ d_z37_ d_h38_ d_z39_ d_h40_ d_j43_ d_h44_ d_M41_ d_hM42_ d_z48_ d_h49_ d_z50_ d_h51_ d_z52_ d_h53_ d_j56_ d_h57_ d_M54_ d_hM55_ d_z61_ d_e62_ d_h63_ d_h64_ d_z65_ d_h66_ d_M67_ d_hM68_ d_hr_ d_hM_ => ?_), (fun d_h23_ d_M72_ _ d_hF76_ d_r71_ d_hs78_ d_h74_ d_hr_ d_hM_ => ?_)⟩), (fun d_hs17_ d_h16_ d_M82_ _ d_hF86_ d_r81_ d_hs88_ d_h84_ d_hr_ d_hM_ => ?_)⟩), (fun d_hs11_ d_h10_ d_M91_ _ d_hF95_ d_r90_ d_hs97_ d_h93_ d_hr_ d_hM_ => ?_)⟩), (fun d_hs5_ d_h4_ d_M100_ _ d_hF104_ d_r99_ d_hs106_ d_h102_ d_hr_ d_hM_ => ?_)⟩
    · skip
      have rm := x3room c_hs23_
      have yde20_ := eT d_e20_
      omega
    · skip
      have rm := x3room c_hs23_
      have yde20_ := eT d_e20_
      refine ⟨sameE hR hD.2.1 c_hF38_ c_hM_ d_hF76_ d_hM_, i32e ?_⟩
      have e := err_r c_hs40_ (by first | decide | simp | (dsimp only; omega))
      rw [c_hr_, d_hr_, e, d_h74_]
      decide
    · skip
      have rm := x3room c_hs23_
      omega
    · skip
      have rm := x3room c_hs23_
      omega
    · skip
      have rm := x3room c_hs23_
      omega
  ·
    refine xE_SP_X12_lesson h2 ⟨(fun d_hs5_ d_h4_ => ⟨(fun d_hs11_ d_h10_ => ⟨(fun d_hs17_ d_h16_ d_z19_ d_e20_ d_h22_ => ⟨(fun d_h23_ d_z24_ d_h25_ d_z26_ d_h27_ d_j30_ d_h31_ d_M28_ d_hM29_ d_z35_ d_h36_ d_z37_ d_h38_ d_z39_ d_h40_ d_j43_ d_h44_ d_M41_ d_hM42_ d_z48_ d_h49_ d_z50_ d_h51_ d_z52_ d_h53_ d_j56_ d_h57_ d_M54_ d_hM55_ d_z61_ d_e62_ d_h63_ d_h64_ d_z65_ d_h66_ d_M67_ d_hM68_ d_hr_ d_hM_ => ?_), (fun d_h23_ d_M72_ _ d_hF76_ d_r71_ d_hs78_ d_h74_ d_hr_ d_hM_ => ?_)⟩), (fun d_hs17_ d_h16_ d_M82_ _ d_hF86_ d_r81_ d_hs88_ d_h84_ d_hr_ d_hM_ => ?_)⟩), (fun d_hs11_ d_h10_ d_M91_ _ d_hF95_ d_r90_ d_hs97_ d_h93_ d_hr_ d_hM_ => ?_)⟩), (fun d_hs5_ d_h4_ d_M100_ _ d_hF104_ d_r99_ d_hs106_ d_h102_ d_hr_ d_hM_ => ?_)⟩
    · skip
      have yde20_ := eT d_e20_
      omega
    · skip
      have yde20_ := eT d_e20_
      omega
    · skip
      refine ⟨sameE hR hD.2.1 c_hF47_ c_hM_ d_hF86_ d_hM_, i32e ?_⟩
      have e := err_r c_hs49_ (by first | decide | simp | (dsimp only; omega))
      rw [c_hr_, d_hr_, e, d_h84_]
      decide
    · skip
      refine ⟨sameE hR hD.2.1 c_hF47_ c_hM_ d_hF95_ d_hM_, i32e ?_⟩
      have e := err_r c_hs49_ (by first | decide | simp | (dsimp only; omega))
      rw [c_hr_, d_hr_, e, d_h93_]
      decide
    · skip
      refine ⟨sameE hR hD.2.1 c_hF47_ c_hM_ d_hF104_ d_hM_, i32e ?_⟩
      have e := err_r c_hs49_ (by first | decide | simp | (dsimp only; omega))
      rw [c_hr_, d_hr_, e, d_h102_]
      decide
  ·
    refine xE_SP_X12_lesson h2 ⟨(fun d_hs5_ d_h4_ => ⟨(fun d_hs11_ d_h10_ => ⟨(fun d_hs17_ d_h16_ d_z19_ d_e20_ d_h22_ => ⟨(fun d_h23_ d_z24_ d_h25_ d_z26_ d_h27_ d_j30_ d_h31_ d_M28_ d_hM29_ d_z35_ d_h36_ d_z37_ d_h38_ d_z39_ d_h40_ d_j43_ d_h44_ d_M41_ d_hM42_ d_z48_ d_h49_ d_z50_ d_h51_ d_z52_ d_h53_ d_j56_ d_h57_ d_M54_ d_hM55_ d_z61_ d_e62_ d_h63_ d_h64_ d_z65_ d_h66_ d_M67_ d_hM68_ d_hr_ d_hM_ => ?_), (fun d_h23_ d_M72_ _ d_hF76_ d_r71_ d_hs78_ d_h74_ d_hr_ d_hM_ => ?_)⟩), (fun d_hs17_ d_h16_ d_M82_ _ d_hF86_ d_r81_ d_hs88_ d_h84_ d_hr_ d_hM_ => ?_)⟩), (fun d_hs11_ d_h10_ d_M91_ _ d_hF95_ d_r90_ d_hs97_ d_h93_ d_hr_ d_hM_ => ?_)⟩), (fun d_hs5_ d_h4_ d_M100_ _ d_hF104_ d_r99_ d_hs106_ d_h102_ d_hr_ d_hM_ => ?_)⟩
    · skip
      have yde20_ := eT d_e20_
      omega
    · skip
      have yde20_ := eT d_e20_
      omega
    · skip
      refine ⟨sameE hR hD.2.1 c_hF56_ c_hM_ d_hF86_ d_hM_, i32e ?_⟩
      have e := err_r c_hs58_ (by first | decide | simp | (dsimp only; omega))
      rw [c_hr_, d_hr_, e, d_h84_]
      decide
    · skip
      refine ⟨sameE hR hD.2.1 c_hF56_ c_hM_ d_hF95_ d_hM_, i32e ?_⟩
      have e := err_r c_hs58_ (by first | decide | simp | (dsimp only; omega))
      rw [c_hr_, d_hr_, e, d_h93_]
      decide
    · skip
      refine ⟨sameE hR hD.2.1 c_hF56_ c_hM_ d_hF104_ d_hM_, i32e ?_⟩
      have e := err_r c_hs58_ (by first | decide | simp | (dsimp only; omega))
      rw [c_hr_, d_hr_, e, d_h102_]
      decide
  ·
    refine xE_SP_X12_lesson h2 ⟨(fun d_hs5_ d_h4_ => ⟨(fun d_hs11_ d_h10_ => ⟨(fun d_hs17_ d_h16_ d_z19_ d_e20_ d_h22_ => ⟨(fun d_h23_ d_z24_ d_h25_ d_z26_ d_h27_ d_j30_ d_h31_ d_M28_ d_hM29_ d_z35_ d_h36_ d_z37_ d_h38_ d_z39_ d_h40_ d_j43_ d_h44_ d_M41_ d_hM42_ d_z48_ d_h49_ d_z50_ d_h51_ d_z52_ d_h53_ d_j56_ d_h57_ d_M54_ d_hM55_ d_z61_ d_e62_ d_h63_ d_h64_ d_z65_ d_h66_ d_M67_ d_hM68_ d_hr_ d_hM_ => ?_), (fun d_h23_ d_M72_ _ d_hF76_ d_r71_ d_hs78_ d_h74_ d_hr_ d_hM_ => ?_)⟩), (fun d_hs17_ d_h16_ d_M82_ _ d_hF86_ d_r81_ d_hs88_ d_h84_ d_hr_ d_hM_ => ?_)⟩), (fun d_hs11_ d_h10_ d_M91_ _ d_hF95_ d_r90_ d_hs97_ d_h93_ d_hr_ d_hM_ => ?_)⟩), (fun d_hs5_ d_h4_ d_M100_ _ d_hF104_ d_r99_ d_hs106_ d_h102_ d_hr_ d_hM_ => ?_)⟩
    · skip
      have yde20_ := eT d_e20_
      omega
    · skip
      have yde20_ := eT d_e20_
      omega
    · skip
      refine ⟨sameE hR hD.2.1 c_hF65_ c_hM_ d_hF86_ d_hM_, i32e ?_⟩
      have e := err_r c_hs67_ (by first | decide | simp | (dsimp only; omega))
      rw [c_hr_, d_hr_, e, d_h84_]
      decide
    · skip
      refine ⟨sameE hR hD.2.1 c_hF65_ c_hM_ d_hF95_ d_hM_, i32e ?_⟩
      have e := err_r c_hs67_ (by first | decide | simp | (dsimp only; omega))
      rw [c_hr_, d_hr_, e, d_h93_]
      decide
    · skip
      refine ⟨sameE hR hD.2.1 c_hF65_ c_hM_ d_hF104_ d_hM_, i32e ?_⟩
      have e := err_r c_hs67_ (by first | decide | simp | (dsimp only; omega))
      rw [c_hr_, d_hr_, e, d_h102_]
      decide
theorem cb_37 {v : Int32} {M M1 D D2 : mM} {r1 r2 : Int32} (h1 : SP_X11_tell v M r1 M1) (h2 : SP_X12_tell v D r2 D2) (hR : RW 0 M.1 (D.1 (50, 0, 0))) (hD : InvD D) (hu : (D.1 (12, 0, 0) 7).toInt = -1) (h5 : M.1 (5, 0, 1) 1 = D.1 (50, 0, 0) 5) : RW 0 M1.1 (D2.1 (50, 0, 0)) ∧ r1 = r2 := by
  have q0 := il_0
  have q1 := il_1
  have rl1 : ((rl 1 : Nat) : Int) = 24 := by decide
  have e5 := eT h5
  have n5 := (n345_b hD.2.1).2.2
  have room : ∀ {r : Int32}, SP_X5_room 0 1 M r → r.toInt = 24 - (D.1 (50, 0, 0) 5).toInt := fun {r} hh => by
    refine xE_SP_X5_room hh (fun e_z1_ e_h2_ e_z3_ e_e4_ e_z5_ e_h6_ e_hr_ => ?_)
    have y := eT e_e4_
    rw [e_hr_, e_h6_, subI (x := e_z1_) (y := e_z3_) rfl rfl (by omega) (by omega)]
    omega
  refine xE_SP_X11_tell h1 (fun c_r1_ c_hs5_ => ⟨(fun c_h6_ c_M7_ _ c_hF11_ c_hs13_ c_z14_ c_e15_ c_hr_ c_hM_ => ?_), (fun c_h6_ c_M17_ _ c_hF21_ c_r16_ c_hs23_ c_hr_ c_hM_ => ?_)⟩)
  ·
    refine xE_SP_X12_tell h2 (fun d_z1_ d_e2_ d_h4_ => ⟨(fun d_h5_ d_z6_ d_e7_ d_h8_ d_h9_ d_z10_ d_h11_ d_j14_ d_h15_ d_M12_ d_hM13_ d_z19_ d_e20_ d_h21_ d_h22_ d_z23_ d_h24_ d_M25_ d_hM26_ d_z29_ d_e30_ d_h32_ d_hr_ d_hM_ => ?_), (fun d_h5_ d_M34_ _ d_hF38_ d_r33_ d_hs40_ d_h36_ d_hr_ d_hM_ => ?_)⟩)
    · skip
      have rm := room c_hs5_
      have yde2_ := eT d_e2_
      have yde7_ := eT d_e7_
      have ca := x5add1 c_hs13_ (by omega)
      obtain ⟨z, ca2, ca3⟩ := ca
      obtain rfl : d_j14_ = 321 + (D.1 (50, 0, 0) 5).toInt.toNat := by omega
      obtain rfl : d_z23_ = z := i32e (by omega)
      have dn : ∀ j, ¬ j = 5 → ¬ j = 321 + (D.1 (50, 0, 0) 5).toInt.toNat → D2.1 (50, 0, 0) j = D.1 (50, 0, 0) j := fun j a1 a2 => by
        rw [d_hM_, zupN d_hM26_ (fun z => a1 z.2), zupN d_hM13_ (fun z => a2 z.2)]
      have cn : ∀ (c : rf) (k : Nat), ¬ c.1 = 5 → ¬ c = (33, 0, 1) → M1.1 c k = M.1 c k := fun c k a1 a2 => by
        rw [c_hM_, ca3, zupR rfl a1, zupN rfl (fun z => a2 z.1)]
      refine ⟨RW_rest hR hD.2.1 (fun c k a b => cn c k (fun z => by unfold wR at a; omega) (fun z => b (by rw [z]; simp))) (fun j a b => dn j (by omega) (by omega)) (LER_keep hR.2.1 (n345_b hD.2.1).1.2 (fun r k hr => cn _ _ (by dsimp only; omega) (cne (by omega))) (fun j hj => dn j (by omega) (by omega))) (TAR_keep hR.2.2.1 (n345_b hD.2.1).2.1.2 (fun k => cn _ _ (by simp) (by simp)) (fun j hj => dn j (by omega) (by omega))) (fun i hi => ?_), ?_⟩
      · have hi2 : (i : Int) < (D.1 (50, 0, 0) 5).toInt + 1 := by
          rw [d_hM_, zupE d_hM26_ rfl rfl] at hi
          omega
        rw [c_hM_, d_hM_, ca3, h5]
        by_cases e : (i : Int) = (D.1 (50, 0, 0) 5).toInt
        · obtain rfl : i = (D.1 (50, 0, 0) 5).toInt.toNat := by omega
          rw [zupR rfl (by simp), zupE rfl rfl rfl, zupN d_hM26_ (fun z => by have := z.2; omega), zupE d_hM13_ rfl rfl]
        · rw [zupR rfl (by simp), zupN rfl (fun z => by have := z.2; omega), zupN d_hM26_ (fun z => by have := z.2; omega), zupN d_hM13_ (fun z => by have := z.2; omega)]
          exact hR.2.2.2 i (by omega)
      · rw [c_hr_, c_e15_, ca3, zupE rfl rfl rfl, d_hr_, d_e30_, zupE d_hM26_ rfl rfl]
    · skip
      have rm := room c_hs5_
      have yde2_ := eT d_e2_
      omega
  ·
    refine xE_SP_X12_tell h2 (fun d_z1_ d_e2_ d_h4_ => ⟨(fun d_h5_ d_z6_ d_e7_ d_h8_ d_h9_ d_z10_ d_h11_ d_j14_ d_h15_ d_M12_ d_hM13_ d_z19_ d_e20_ d_h21_ d_h22_ d_z23_ d_h24_ d_M25_ d_hM26_ d_z29_ d_e30_ d_h32_ d_hr_ d_hM_ => ?_), (fun d_h5_ d_M34_ _ d_hF38_ d_r33_ d_hs40_ d_h36_ d_hr_ d_hM_ => ?_)⟩)
    · skip
      have rm := room c_hs5_
      have yde2_ := eT d_e2_
      have yde7_ := eT d_e7_
      omega
    · skip
      have rm := room c_hs5_
      have yde2_ := eT d_e2_
      refine ⟨sameE hR hD.2.1 c_hF21_ c_hM_ d_hF38_ d_hM_, i32e ?_⟩
      have e := err_r c_hs23_ (by first | decide | simp | (dsimp only; omega))
      rw [c_hr_, d_hr_, e, d_h36_]
      decide
end
section
/-- not the same place -/
theorem cne1 {r b w r2 b2 w2 k j : Nat} (h : ¬ r = r2) : ¬ (((r, b, w) : rf) = (r2, b2, w2) ∧ k = j) := fun z => cne h z.1
theorem kne {c : rf} {k j : Nat} (h : ¬ k = j) : ¬ (c = c ∧ k = j) := fun z => h z.2
/-! walker -/
theorem x9begin {b w : Nat} {v u t : Int32} {M M' : mM} (h : SP_X9_begin b w v u t M M') : (∀ (c : rf) (k : Nat), ¬ c = (9, b, w) → ¬ c = (40, b, w) → ¬ c = (41, b, w) → M'.1 c k = M.1 c k) ∧ (M'.1 (9, b, w) 0 = v ∧ M'.1 (9, b, w) 1 = u ∧ M'.1 (9, b, w) 2 = t ∧ M'.1 (9, b, w) 3 = 5 ∧ M'.1 (9, b, w) 4 = 60 ∧ M'.1 (9, b, w) 5 = 0 ∧ M'.1 (9, b, w) 6 = 0 ∧ M'.1 (9, b, w) 7 = 0 ∧ M'.1 (9, b, w) 8 = 0) ∧ ∀ k, k < 192 → M'.1 (40, b, w) k = 0 ∧ M'.1 (41, b, w) k = 0 := by
  have q0 := il_0
  refine xE_SP_X9_begin h (fun M1_ hM2_ M5_ hM6_ M9_ hM10_ M13_ hM14_ M17_ hM18_ M21_ hM22_ M25_ hM26_ M29_ hM30_ M33_ hM34_ v4_49 hv0_49 hv1_49 M_49 hL_49 _ hF_49 h38_ hM_ => ?_)
  have g := rind hL_49 (fun z => 0 ≤ z.1.toInt ∧ (∀ (c : rf) (k : Nat), ¬ c = (40, b, w) → ¬ c = (41, b, w) → z.2.1 c k = M33_.1 c k) ∧ ∀ k : Nat, (k : Int) < z.1.toInt → z.2.1 (40, b, w) k = 0 ∧ z.2.1 (41, b, w) k = 0) ⟨by dsimp only; omega, fun _ _ _ _ => rfl, fun k hk => by dsimp only at hk; omega⟩ (fun x z p st => by
    (try dsimp only at p st ⊢)
    obtain ⟨p1, p2, p3⟩ := p
    refine xE_ST_X9_begin_49 st (fun k_hv0_49 k_hv1_49 _ k_hF_49 k_h38_ k_j41_ k_h42_ k_M39_ k_hM40_ k_j47_ k_h48_ k_M45_ k_hM46_ k_z51_ k_h52_ k_hq_v4_49y k_hM_ => ?_)
    have e := eT k_hq_v4_49y
    refine ⟨by omega, fun c k q1 q2 => ?_, fun k hk => ?_⟩
    · rw [k_hM_, zupN k_hM46_ (fun z => q2 z.1), zupN k_hM40_ (fun z => q1 z.1)]; exact p2 c k q1 q2
    · by_cases e2 : (k : Int) = x.1.toInt
      · rw [k_hM_]
        exact ⟨by rw [zupN k_hM46_ (cne1 (by omega)), zupE k_hM40_ rfl (by omega)], zupE k_hM46_ rfl (by omega)⟩
      · have g := p3 k (by omega)
        rw [k_hM_]
        exact ⟨by rw [zupN k_hM46_ (cne1 (by omega)), zupN k_hM40_ (fun z => by have := z.2; omega)]; exact g.1, by rw [zupN k_hM46_ (fun z => by have := z.2; omega), zupN k_hM40_ (cne1 (by omega))]; exact g.2⟩)
  (try dsimp only at g)
  obtain ⟨g1, g2, g3⟩ := g
  have s : ∀ k, M_49.1 (9, b, w) k = M33_.1 (9, b, w) k := fun k => g2 _ _ (cne (by omega)) (cne (by omega))
  rw [hM_]
  refine ⟨fun c k q1 q2 q3 => ?_, ⟨?_, ?_, ?_, ?_, ?_, ?_, ?_, ?_, ?_⟩, fun k hk => g3 k (by omega)⟩
  · rw [g2 c k q2 q3, zupN hM34_ (fun z => q1 z.1), zupN hM30_ (fun z => q1 z.1), zupN hM26_ (fun z => q1 z.1), zupN hM22_ (fun z => q1 z.1), zupN hM18_ (fun z => q1 z.1), zupN hM14_ (fun z => q1 z.1), zupN hM10_ (fun z => q1 z.1), zupN hM6_ (fun z => q1 z.1), zupN hM2_ (fun z => q1 z.1)]
  · rw [s, zupN hM34_ (kne (by omega)), zupN hM30_ (kne (by omega)), zupN hM26_ (kne (by omega)), zupN hM22_ (kne (by omega)), zupN hM18_ (kne (by omega)), zupN hM14_ (kne (by omega)), zupN hM10_ (kne (by omega)), zupN hM6_ (kne (by omega)), zupE hM2_ rfl rfl]
  · rw [s, zupN hM34_ (kne (by omega)), zupN hM30_ (kne (by omega)), zupN hM26_ (kne (by omega)), zupN hM22_ (kne (by omega)), zupN hM18_ (kne (by omega)), zupN hM14_ (kne (by omega)), zupN hM10_ (kne (by omega)), zupE hM6_ rfl rfl]
  · rw [s, zupN hM34_ (kne (by omega)), zupN hM30_ (kne (by omega)), zupN hM26_ (kne (by omega)), zupN hM22_ (kne (by omega)), zupN hM18_ (kne (by omega)), zupN hM14_ (kne (by omega)), zupE hM10_ rfl rfl]
  · rw [s, zupN hM34_ (kne (by omega)), zupN hM30_ (kne (by omega)), zupN hM26_ (kne (by omega)), zupN hM22_ (kne (by omega)), zupN hM18_ (kne (by omega)), zupE hM14_ rfl rfl]
  · rw [s, zupN hM34_ (kne (by omega)), zupN hM30_ (kne (by omega)), zupN hM26_ (kne (by omega)), zupN hM22_ (kne (by omega)), zupE hM18_ rfl rfl]
  · rw [s, zupN hM34_ (kne (by omega)), zupN hM30_ (kne (by omega)), zupN hM26_ (kne (by omega)), zupE hM22_ rfl rfl]
  · rw [s, zupN hM34_ (kne (by omega)), zupN hM30_ (kne (by omega)), zupE hM26_ rfl rfl]
  · rw [s, zupN hM34_ (kne (by omega)), zupE hM30_ rfl rfl]
  · rw [s, zupE hM34_ rfl rfl]
theorem cb_8 {v u t : Int32} {M M1 D D2 : mM} {r1 r2 : Int32} (h1 : SP_X11_walker v u t M r1 M1) (h2 : SP_X12_walker v u t D r2 D2) (hR : RW 0 M.1 (D.1 (50, 0, 0))) (hD : InvD D) (hu : (D.1 (12, 0, 0) 7).toInt = -1) : RW 0 M1.1 (D2.1 (50, 0, 0)) ∧ r1 = r2 := by
  have q0 := il_0
  have q1 := il_1
  have i5 : (5 : Int32).toInt = 5 := by decide
  have i60 : (60 : Int32).toInt = 60 := by decide
  have nW := nWa_b hD.2.1
  have e2 := eT hR.1.2.2.1.1
  have n2 : (D.1 (50, 0, 0) 2).toInt = nWa (D.1 (50, 0, 0)) := rfl
  refine xE_SP_X11_walker h1 ⟨(fun c_hs5_ c_h4_ => ⟨(fun c_hs11_ c_h10_ => ⟨(fun c_hs17_ c_h16_ => ⟨(fun c_hs23_ c_h22_ c_z25_ c_e26_ => ⟨(fun c_h27_ c_M29_ _ c_hF33_ c_r28_ c_hs35_ c_hr_ c_hM_ => ?_), (fun c_h27_ c_M37_ _ c_hF41_ c_r36_ c_hs43_ c_hr_ c_hM_ => ?_)⟩), (fun c_hs23_ c_M46_ _ c_hF50_ c_r45_ c_hs52_ c_hr_ c_hM_ => ?_)⟩), (fun c_hs17_ c_h16_ c_M55_ _ c_hF59_ c_r54_ c_hs61_ c_hr_ c_hM_ => ?_)⟩), (fun c_hs11_ c_h10_ c_M64_ _ c_hF68_ c_r63_ c_hs70_ c_hr_ c_hM_ => ?_)⟩), (fun c_hs5_ c_h4_ c_M73_ _ c_hF77_ c_r72_ c_hs79_ c_hr_ c_hM_ => ?_)⟩
  ·
    refine xE_SP_X12_walker h2 ⟨(fun d_hs5_ d_h4_ => ⟨(fun d_hs11_ d_h10_ => ⟨(fun d_hs17_ d_h16_ d_r19_ d_hs23_ d_h22_ => ⟨(fun d_h24_ d_z25_ d_e26_ d_h28_ => ⟨(fun d_h29_ d_r30_ d_hs34_ d_h33_ d_z35_ d_h36_ d_j39_ d_h40_ d_M37_ d_hM38_ d_z44_ d_h45_ d_j48_ d_h49_ d_M46_ d_hM47_ d_z53_ d_h54_ d_j57_ d_h58_ d_M55_ d_hM56_ d_z62_ d_h63_ d_j66_ d_h67_ d_M64_ d_hM65_ d_z71_ d_h72_ d_j75_ d_h76_ d_M73_ d_hM74_ d_z80_ d_e81_ d_h82_ d_h83_ d_z84_ d_h85_ d_M86_ d_hM87_ d_hr_ d_hM_ => ?_), (fun d_h29_ d_M91_ _ d_hF95_ d_r90_ d_hs97_ d_h93_ d_hr_ d_hM_ => ?_)⟩), (fun d_h24_ d_M100_ _ d_hF104_ d_r99_ d_hs106_ d_h102_ d_hr_ d_hM_ => ?_)⟩), (fun d_hs17_ d_h16_ d_M109_ _ d_hF113_ d_r108_ d_hs115_ d_h111_ d_hr_ d_hM_ => ?_)⟩), (fun d_hs11_ d_h10_ d_M118_ _ d_hF122_ d_r117_ d_hs124_ d_h120_ d_hr_ d_hM_ => ?_)⟩), (fun d_hs5_ d_h4_ d_M127_ _ d_hF131_ d_r126_ d_hs133_ d_h129_ d_hr_ d_hM_ => ?_)⟩
    · skip
      have fr := x7free c_hs23_
      have yce26_ := eT c_e26_
      have gf := x12free d_hs23_ hR.1.2.2.2.2.1 (by omega) (by omega)
      have yde26_ := eT d_e26_
      obtain ⟨w, hw⟩ : ∃ w : Nat, (D.1 (50, 0, 0) 2).toInt = (w : Int) := ⟨(D.1 (50, 0, 0) 2).toInt.toNat, by omega⟩
      obtain rfl : d_j39_ = 180 + 9 * w := by omega
      obtain rfl : d_j48_ = 181 + 9 * w := by omega
      obtain rfl : d_j57_ = 182 + 9 * w := by omega
      obtain rfl : d_j66_ = 183 + 9 * w := by omega
      obtain rfl : d_j75_ = 184 + 9 * w := by omega
      have dn : ∀ j, ¬ j = 2 → j < 180 + 9 * w ∨ 185 + 9 * w ≤ j → D2.1 (50, 0, 0) j = D.1 (50, 0, 0) j := fun j a1 a2 => by
        rw [d_hM_, zupN d_hM87_ (fun z => a1 z.2), zupN d_hM74_ (fun z => by have := z.2; omega), zupN d_hM65_ (fun z => by have := z.2; omega), zupN d_hM56_ (fun z => by have := z.2; omega), zupN d_hM47_ (fun z => by have := z.2; omega), zupN d_hM38_ (fun z => by have := z.2; omega)]
      have d0 : D2.1 (50, 0, 0) (180 + 9 * w) = v := by rw [d_hM_, zupN d_hM87_ (kne (by omega)), zupN d_hM74_ (kne (by omega)), zupN d_hM65_ (kne (by omega)), zupN d_hM56_ (kne (by omega)), zupN d_hM47_ (kne (by omega)), zupE d_hM38_ rfl rfl]
      have d1 : D2.1 (50, 0, 0) (181 + 9 * w) = u := by rw [d_hM_, zupN d_hM87_ (kne (by omega)), zupN d_hM74_ (kne (by omega)), zupN d_hM65_ (kne (by omega)), zupN d_hM56_ (kne (by omega)), zupE d_hM47_ rfl rfl]
      have d2 : D2.1 (50, 0, 0) (182 + 9 * w) = t := by rw [d_hM_, zupN d_hM87_ (kne (by omega)), zupN d_hM74_ (kne (by omega)), zupN d_hM65_ (kne (by omega)), zupE d_hM56_ rfl rfl]
      have d3 : D2.1 (50, 0, 0) (183 + 9 * w) = 5 := by rw [d_hM_, zupN d_hM87_ (kne (by omega)), zupN d_hM74_ (kne (by omega)), zupE d_hM65_ rfl rfl]
      have d4 : D2.1 (50, 0, 0) (184 + 9 * w) = 60 := by rw [d_hM_, zupN d_hM87_ (kne (by omega)), zupE d_hM74_ rfl rfl]
      have dc : (D2.1 (50, 0, 0) 2).toInt = (w : Int) + 1 := by rw [d_hM_, zupE d_hM87_ rfl rfl]; omega
      refine xE_SP_X10_addWalker c_hs35_ (fun f_z1_ f_e2_ => ⟨(fun f_h3_ f_hr_ f_hM_ => ?_), (fun f_h3_ => ⟨(fun f_h4_ f_j5_ f_h6_ f_h7_ f_M8_ _ f_hF12_ f_hs14_ f_z15_ f_h16_ f_M17_ _ f_hF21_ f_hs23_ f_z24_ f_e25_ f_z26_ f_h27_ f_M28_ f_hM29_ f_hr_ f_hM_ => ?_), (fun f_h4_ f_hr_ f_hM_ => ?_)⟩)⟩)
      · have := eT f_e2_; omega
      · have yf := eT f_e2_
        obtain rfl : w = f_j5_ := by omega
        have bg := x9begin f_hs14_
        obtain ⟨b1, b2, b3⟩ := bg
        have st := x7settle f_hs23_ (by omega)
        have e24 : f_z24_ = f_z1_ := by rw [f_e25_, st, zupR rfl (by simp), b1 _ _ (cne (by omega)) (cne (by omega)) (cne (by omega)), f_e2_]
        rw [e24] at f_h27_
        have ez := add1 f_h27_ (by omega)
        have cm : ∀ (c : rf) (k : Nat), ¬ (c = (10, 0, 0) ∧ k = 6) → ¬ (c = (35, 0, 0) ∧ k = u.toInt.toNat) → M1.1 c k = f_M8_.1 c k := fun c k a1 a2 => by rw [c_hM_, f_hM_, zupN f_hM29_ a1, st, zupN rfl a2]
        have r9 : ∀ k, M1.1 (9, 0, w) k = f_M8_.1 (9, 0, w) k := fun k => cm _ _ (cne1 (by omega)) (cne1 (by omega))
        have W := WRR_addw (q2 := M1.1) (n2 := D2.1 (50, 0, 0)) (w := w) (cell := u.toInt.toNat) hR.1 hD.2.1 (by omega) (by omega) (by omega) (by omega) (fun c k a1 a2 a3 a4 a5 a6 => by rw [cm c k a6 a5, b1 c k a2 a3 a4]) dn
          (by rw [c_hM_, f_hM_, zupE f_hM29_ rfl rfl]; exact i32e (by omega)) dc
          (fun k hk => by
            rw [r9]
            rcases (show k = 0 ∨ k = 1 ∨ k = 2 ∨ k = 3 ∨ k = 4 by omega) with rfl | rfl | rfl | rfl | rfl
            · rw [b2.1]; exact d0.symm
            · rw [b2.2.1, show 180 + 9 * w + 1 = 181 + 9 * w by omega]; exact d1.symm
            · rw [b2.2.2.1, show 180 + 9 * w + 2 = 182 + 9 * w by omega]; exact d2.symm
            · rw [b2.2.2.2.1, show 180 + 9 * w + 3 = 183 + 9 * w by omega]; exact d3.symm
            · rw [b2.2.2.2.2.1, show 180 + 9 * w + 4 = 184 + 9 * w by omega]; exact d4.symm)
          (fun k hk hk2 => by
            rw [r9]
            rcases (show k = 5 ∨ k = 6 ∨ k = 7 ∨ k = 8 by omega) with rfl | rfl | rfl | rfl
            · exact b2.2.2.2.2.2.1
            · exact b2.2.2.2.2.2.2.1
            · exact b2.2.2.2.2.2.2.2.1
            · exact b2.2.2.2.2.2.2.2.2)
          (fun k hk => ⟨by rw [cm _ _ (cne1 (by omega)) (cne1 (by omega))]; exact (b3 k hk).1, by rw [cm _ _ (cne1 (by omega)) (cne1 (by omega))]; exact (b3 k hk).2⟩)
          (by rw [d1]; omega) (by rw [d3, d4]; omega) (by rw [c_hM_, f_hM_, zupR f_hM29_ (by simp), st, zupE rfl rfl rfl]; omega)
        refine ⟨RW_of hR hD.2.1 W (fun c k hc => ?_) (fun j hj => dn j (by omega) (by omega)), ?_⟩
        · rw [cm c k (fun z => by rw [z.1] at hc; simp at hc) (fun z => by rw [z.1] at hc; simp at hc), b1 c k (fun z => by rw [z] at hc; simp at hc) (fun z => by rw [z] at hc; simp at hc) (fun z => by rw [z] at hc; simp at hc)]
        · rw [c_hr_, f_hr_, d_hr_]; exact i32e (by omega)
      · have := eT f_e2_; omega
    · skip
      have fr := x7free c_hs23_
      have yce26_ := eT c_e26_
      have gf := x12free d_hs23_ hR.1.2.2.2.2.1 (by omega) (by omega)
      have yde26_ := eT d_e26_
      omega
    · skip
      have fr := x7free c_hs23_
      have yce26_ := eT c_e26_
      have gf := x12free d_hs23_ hR.1.2.2.2.2.1 (by omega) (by omega)
      omega
    · skip
      have fr := x7free c_hs23_
      have yce26_ := eT c_e26_
      omega
    · skip
      have fr := x7free c_hs23_
      have yce26_ := eT c_e26_
      omega
    · skip
      have fr := x7free c_hs23_
      have yce26_ := eT c_e26_
      omega
  ·
    refine xE_SP_X12_walker h2 ⟨(fun d_hs5_ d_h4_ => ⟨(fun d_hs11_ d_h10_ => ⟨(fun d_hs17_ d_h16_ d_r19_ d_hs23_ d_h22_ => ⟨(fun d_h24_ d_z25_ d_e26_ d_h28_ => ⟨(fun d_h29_ d_r30_ d_hs34_ d_h33_ d_z35_ d_h36_ d_j39_ d_h40_ d_M37_ d_hM38_ d_z44_ d_h45_ d_j48_ d_h49_ d_M46_ d_hM47_ d_z53_ d_h54_ d_j57_ d_h58_ d_M55_ d_hM56_ d_z62_ d_h63_ d_j66_ d_h67_ d_M64_ d_hM65_ d_z71_ d_h72_ d_j75_ d_h76_ d_M73_ d_hM74_ d_z80_ d_e81_ d_h82_ d_h83_ d_z84_ d_h85_ d_M86_ d_hM87_ d_hr_ d_hM_ => ?_), (fun d_h29_ d_M91_ _ d_hF95_ d_r90_ d_hs97_ d_h93_ d_hr_ d_hM_ => ?_)⟩), (fun d_h24_ d_M100_ _ d_hF104_ d_r99_ d_hs106_ d_h102_ d_hr_ d_hM_ => ?_)⟩), (fun d_hs17_ d_h16_ d_M109_ _ d_hF113_ d_r108_ d_hs115_ d_h111_ d_hr_ d_hM_ => ?_)⟩), (fun d_hs11_ d_h10_ d_M118_ _ d_hF122_ d_r117_ d_hs124_ d_h120_ d_hr_ d_hM_ => ?_)⟩), (fun d_hs5_ d_h4_ d_M127_ _ d_hF131_ d_r126_ d_hs133_ d_h129_ d_hr_ d_hM_ => ?_)⟩
    · skip
      have fr := x7free c_hs23_
      have yce26_ := eT c_e26_
      have gf := x12free d_hs23_ hR.1.2.2.2.2.1 (by omega) (by omega)
      have yde26_ := eT d_e26_
      omega
    · skip
      have fr := x7free c_hs23_
      have yce26_ := eT c_e26_
      have gf := x12free d_hs23_ hR.1.2.2.2.2.1 (by omega) (by omega)
      have yde26_ := eT d_e26_
      refine ⟨sameE hR hD.2.1 c_hF41_ c_hM_ d_hF95_ d_hM_, i32e ?_⟩
      have e := err_r c_hs43_ (by first | decide | simp | (dsimp only; omega))
      rw [c_hr_, d_hr_, e, d_h93_]
      decide
    · skip
      have fr := x7free c_hs23_
      have yce26_ := eT c_e26_
      have gf := x12free d_hs23_ hR.1.2.2.2.2.1 (by omega) (by omega)
      omega
    · skip
      have fr := x7free c_hs23_
      have yce26_ := eT c_e26_
      omega
    · skip
      have fr := x7free c_hs23_
      have yce26_ := eT c_e26_
      omega
    · skip
      have fr := x7free c_hs23_
      have yce26_ := eT c_e26_
      omega
  ·
    refine xE_SP_X12_walker h2 ⟨(fun d_hs5_ d_h4_ => ⟨(fun d_hs11_ d_h10_ => ⟨(fun d_hs17_ d_h16_ d_r19_ d_hs23_ d_h22_ => ⟨(fun d_h24_ d_z25_ d_e26_ d_h28_ => ⟨(fun d_h29_ d_r30_ d_hs34_ d_h33_ d_z35_ d_h36_ d_j39_ d_h40_ d_M37_ d_hM38_ d_z44_ d_h45_ d_j48_ d_h49_ d_M46_ d_hM47_ d_z53_ d_h54_ d_j57_ d_h58_ d_M55_ d_hM56_ d_z62_ d_h63_ d_j66_ d_h67_ d_M64_ d_hM65_ d_z71_ d_h72_ d_j75_ d_h76_ d_M73_ d_hM74_ d_z80_ d_e81_ d_h82_ d_h83_ d_z84_ d_h85_ d_M86_ d_hM87_ d_hr_ d_hM_ => ?_), (fun d_h29_ d_M91_ _ d_hF95_ d_r90_ d_hs97_ d_h93_ d_hr_ d_hM_ => ?_)⟩), (fun d_h24_ d_M100_ _ d_hF104_ d_r99_ d_hs106_ d_h102_ d_hr_ d_hM_ => ?_)⟩), (fun d_hs17_ d_h16_ d_M109_ _ d_hF113_ d_r108_ d_hs115_ d_h111_ d_hr_ d_hM_ => ?_)⟩), (fun d_hs11_ d_h10_ d_M118_ _ d_hF122_ d_r117_ d_hs124_ d_h120_ d_hr_ d_hM_ => ?_)⟩), (fun d_hs5_ d_h4_ d_M127_ _ d_hF131_ d_r126_ d_hs133_ d_h129_ d_hr_ d_hM_ => ?_)⟩
    · skip
      have fr := x7free c_hs23_
      have gf := x12free d_hs23_ hR.1.2.2.2.2.1 (by omega) (by omega)
      have yde26_ := eT d_e26_
      omega
    · skip
      have fr := x7free c_hs23_
      have gf := x12free d_hs23_ hR.1.2.2.2.2.1 (by omega) (by omega)
      have yde26_ := eT d_e26_
      omega
    · skip
      have fr := x7free c_hs23_
      have gf := x12free d_hs23_ hR.1.2.2.2.2.1 (by omega) (by omega)
      refine ⟨sameE hR hD.2.1 c_hF50_ c_hM_ d_hF104_ d_hM_, i32e ?_⟩
      have e := err_r c_hs52_ (by first | decide | simp | (dsimp only; omega))
      rw [c_hr_, d_hr_, e, d_h102_]
      decide
    · skip
      have fr := x7free c_hs23_
      omega
    · skip
      have fr := x7free c_hs23_
      omega
    · skip
      have fr := x7free c_hs23_
      omega
  ·
    refine xE_SP_X12_walker h2 ⟨(fun d_hs5_ d_h4_ => ⟨(fun d_hs11_ d_h10_ => ⟨(fun d_hs17_ d_h16_ d_r19_ d_hs23_ d_h22_ => ⟨(fun d_h24_ d_z25_ d_e26_ d_h28_ => ⟨(fun d_h29_ d_r30_ d_hs34_ d_h33_ d_z35_ d_h36_ d_j39_ d_h40_ d_M37_ d_hM38_ d_z44_ d_h45_ d_j48_ d_h49_ d_M46_ d_hM47_ d_z53_ d_h54_ d_j57_ d_h58_ d_M55_ d_hM56_ d_z62_ d_h63_ d_j66_ d_h67_ d_M64_ d_hM65_ d_z71_ d_h72_ d_j75_ d_h76_ d_M73_ d_hM74_ d_z80_ d_e81_ d_h82_ d_h83_ d_z84_ d_h85_ d_M86_ d_hM87_ d_hr_ d_hM_ => ?_), (fun d_h29_ d_M91_ _ d_hF95_ d_r90_ d_hs97_ d_h93_ d_hr_ d_hM_ => ?_)⟩), (fun d_h24_ d_M100_ _ d_hF104_ d_r99_ d_hs106_ d_h102_ d_hr_ d_hM_ => ?_)⟩), (fun d_hs17_ d_h16_ d_M109_ _ d_hF113_ d_r108_ d_hs115_ d_h111_ d_hr_ d_hM_ => ?_)⟩), (fun d_hs11_ d_h10_ d_M118_ _ d_hF122_ d_r117_ d_hs124_ d_h120_ d_hr_ d_hM_ => ?_)⟩), (fun d_hs5_ d_h4_ d_M127_ _ d_hF131_ d_r126_ d_hs133_ d_h129_ d_hr_ d_hM_ => ?_)⟩
    · skip
      have gf := x12free d_hs23_ hR.1.2.2.2.2.1 (by omega) (by omega)
      have yde26_ := eT d_e26_
      omega
    · skip
      have gf := x12free d_hs23_ hR.1.2.2.2.2.1 (by omega) (by omega)
      have yde26_ := eT d_e26_
      omega
    · skip
      have gf := x12free d_hs23_ hR.1.2.2.2.2.1 (by omega) (by omega)
      omega
    · skip
      refine ⟨sameE hR hD.2.1 c_hF59_ c_hM_ d_hF113_ d_hM_, i32e ?_⟩
      have e := err_r c_hs61_ (by first | decide | simp | (dsimp only; omega))
      rw [c_hr_, d_hr_, e, d_h111_]
      decide
    · skip
      refine ⟨sameE hR hD.2.1 c_hF59_ c_hM_ d_hF122_ d_hM_, i32e ?_⟩
      have e := err_r c_hs61_ (by first | decide | simp | (dsimp only; omega))
      rw [c_hr_, d_hr_, e, d_h120_]
      decide
    · skip
      refine ⟨sameE hR hD.2.1 c_hF59_ c_hM_ d_hF131_ d_hM_, i32e ?_⟩
      have e := err_r c_hs61_ (by first | decide | simp | (dsimp only; omega))
      rw [c_hr_, d_hr_, e, d_h129_]
      decide
  ·
    refine xE_SP_X12_walker h2 ⟨(fun d_hs5_ d_h4_ => ⟨(fun d_hs11_ d_h10_ => ⟨(fun d_hs17_ d_h16_ d_r19_ d_hs23_ d_h22_ => ⟨(fun d_h24_ d_z25_ d_e26_ d_h28_ => ⟨(fun d_h29_ d_r30_ d_hs34_ d_h33_ d_z35_ d_h36_ d_j39_ d_h40_ d_M37_ d_hM38_ d_z44_ d_h45_ d_j48_ d_h49_ d_M46_ d_hM47_ d_z53_ d_h54_ d_j57_ d_h58_ d_M55_ d_hM56_ d_z62_ d_h63_ d_j66_ d_h67_ d_M64_ d_hM65_ d_z71_ d_h72_ d_j75_ d_h76_ d_M73_ d_hM74_ d_z80_ d_e81_ d_h82_ d_h83_ d_z84_ d_h85_ d_M86_ d_hM87_ d_hr_ d_hM_ => ?_), (fun d_h29_ d_M91_ _ d_hF95_ d_r90_ d_hs97_ d_h93_ d_hr_ d_hM_ => ?_)⟩), (fun d_h24_ d_M100_ _ d_hF104_ d_r99_ d_hs106_ d_h102_ d_hr_ d_hM_ => ?_)⟩), (fun d_hs17_ d_h16_ d_M109_ _ d_hF113_ d_r108_ d_hs115_ d_h111_ d_hr_ d_hM_ => ?_)⟩), (fun d_hs11_ d_h10_ d_M118_ _ d_hF122_ d_r117_ d_hs124_ d_h120_ d_hr_ d_hM_ => ?_)⟩), (fun d_hs5_ d_h4_ d_M127_ _ d_hF131_ d_r126_ d_hs133_ d_h129_ d_hr_ d_hM_ => ?_)⟩
    · skip
      have gf := x12free d_hs23_ hR.1.2.2.2.2.1 (by omega) (by omega)
      have yde26_ := eT d_e26_
      omega
    · skip
      have gf := x12free d_hs23_ hR.1.2.2.2.2.1 (by omega) (by omega)
      have yde26_ := eT d_e26_
      omega
    · skip
      have gf := x12free d_hs23_ hR.1.2.2.2.2.1 (by omega) (by omega)
      omega
    · skip
      refine ⟨sameE hR hD.2.1 c_hF68_ c_hM_ d_hF113_ d_hM_, i32e ?_⟩
      have e := err_r c_hs70_ (by first | decide | simp | (dsimp only; omega))
      rw [c_hr_, d_hr_, e, d_h111_]
      decide
    · skip
      refine ⟨sameE hR hD.2.1 c_hF68_ c_hM_ d_hF122_ d_hM_, i32e ?_⟩
      have e := err_r c_hs70_ (by first | decide | simp | (dsimp only; omega))
      rw [c_hr_, d_hr_, e, d_h120_]
      decide
    · skip
      refine ⟨sameE hR hD.2.1 c_hF68_ c_hM_ d_hF131_ d_hM_, i32e ?_⟩
      have e := err_r c_hs70_ (by first | decide | simp | (dsimp only; omega))
      rw [c_hr_, d_hr_, e, d_h129_]
      decide
  ·
    refine xE_SP_X12_walker h2 ⟨(fun d_hs5_ d_h4_ => ⟨(fun d_hs11_ d_h10_ => ⟨(fun d_hs17_ d_h16_ d_r19_ d_hs23_ d_h22_ => ⟨(fun d_h24_ d_z25_ d_e26_ d_h28_ => ⟨(fun d_h29_ d_r30_ d_hs34_ d_h33_ d_z35_ d_h36_ d_j39_ d_h40_ d_M37_ d_hM38_ d_z44_ d_h45_ d_j48_ d_h49_ d_M46_ d_hM47_ d_z53_ d_h54_ d_j57_ d_h58_ d_M55_ d_hM56_ d_z62_ d_h63_ d_j66_ d_h67_ d_M64_ d_hM65_ d_z71_ d_h72_ d_j75_ d_h76_ d_M73_ d_hM74_ d_z80_ d_e81_ d_h82_ d_h83_ d_z84_ d_h85_ d_M86_ d_hM87_ d_hr_ d_hM_ => ?_), (fun d_h29_ d_M91_ _ d_hF95_ d_r90_ d_hs97_ d_h93_ d_hr_ d_hM_ => ?_)⟩), (fun d_h24_ d_M100_ _ d_hF104_ d_r99_ d_hs106_ d_h102_ d_hr_ d_hM_ => ?_)⟩), (fun d_hs17_ d_h16_ d_M109_ _ d_hF113_ d_r108_ d_hs115_ d_h111_ d_hr_ d_hM_ => ?_)⟩), (fun d_hs11_ d_h10_ d_M118_ _ d_hF122_ d_r117_ d_hs124_ d_h120_ d_hr_ d_hM_ => ?_)⟩), (fun d_hs5_ d_h4_ d_M127_ _ d_hF131_ d_r126_ d_hs133_ d_h129_ d_hr_ d_hM_ => ?_)⟩
    · skip
      have gf := x12free d_hs23_ hR.1.2.2.2.2.1 (by omega) (by omega)
      have yde26_ := eT d_e26_
      omega
    · skip
      have gf := x12free d_hs23_ hR.1.2.2.2.2.1 (by omega) (by omega)
      have yde26_ := eT d_e26_
      omega
    · skip
      have gf := x12free d_hs23_ hR.1.2.2.2.2.1 (by omega) (by omega)
      omega
    · skip
      refine ⟨sameE hR hD.2.1 c_hF77_ c_hM_ d_hF113_ d_hM_, i32e ?_⟩
      have e := err_r c_hs79_ (by first | decide | simp | (dsimp only; omega))
      rw [c_hr_, d_hr_, e, d_h111_]
      decide
    · skip
      refine ⟨sameE hR hD.2.1 c_hF77_ c_hM_ d_hF122_ d_hM_, i32e ?_⟩
      have e := err_r c_hs79_ (by first | decide | simp | (dsimp only; omega))
      rw [c_hr_, d_hr_, e, d_h120_]
      decide
    · skip
      refine ⟨sameE hR hD.2.1 c_hF77_ c_hM_ d_hF131_ d_hM_, i32e ?_⟩
      have e := err_r c_hs79_ (by first | decide | simp | (dsimp only; omega))
      rw [c_hr_, d_hr_, e, d_h129_]
      decide
end
section
/-! lessons', tape's and waiting numbers' places of the model's row are left as they are -/
def kr (M M' : mM) : Prop := ∀ j : Nat, 252 ≤ j → j < 345 → M'.1 (50, 0, 0) j = M.1 (50, 0, 0) j
theorem kr.refl {M : mM} : kr M M := fun _ _ _ => rfl
theorem kr.trans {M M1 M2 : mM} (h : kr M M1) (h2 : kr M1 M2) : kr M M2 := fun j hj hn => (h2 j hj hn).trans (h j hj hn)
theorem kr_up {M M' : mM} {i : Nat} {v : Int32} (he : M' = up M (50, 0, 0) i v) (hi : i < 252 ∨ 345 ≤ i) : kr M M' := fun j hj hn => by
  rw [he]
  exact up_ne (fun q => by have := q.2; omega)
theorem kr_upo {M M' : mM} {c : rf} {i : Nat} {v : Int32} (he : M' = up M c i v) (hc : ((50, 0, 0) : rf) ≠ c) : kr M M' := fun j _ _ => by rw [he, up_other _ _ hc]
theorem kr_FR {S : rf → Nat → Prop} {M M' : mM} (h : FR S M M') (hs : ∀ j : Nat, ¬ S (50, 0, 0) j) : kr M M' := fun j _ _ => h _ j (hs j)
theorem FSP_X12_become {v u : Int32} {Mz : mM} {r_ : Int32} {M_ : mM} (h : SP_X12_become v u Mz r_ M_) (hv : v.toInt < 252 ∨ 345 ≤ v.toInt) : kr Mz M_ := by
  unfold SP_X12_become at h
  rcases h with ⟨j3_, h4_, z1_, e2_, j7_, h8_, M5_, hM6_, hr_, hM_⟩
  rw [hM_]; exact kr_up hM6_ (by omega)
theorem FSP_X12_thingGoes {v : Int32} {Mz : mM} {M_ : mM} (h : SP_X12_thingGoes v Mz M_) (hv : 0 ≤ v.toInt ∧ v.toInt ≤ 39) : kr Mz M_ := by
  refine xE_SP_X12_thingGoes h (fun r1_ hs5_ h4_ z6_ h7_ j10_ h11_ z8_ e9_ r12_ hs16_ h15_ z17_ h18_ j21_ h22_ z19_ e20_ h23_ r24_ hs28_ h27_ z29_ h30_ j33_ h34_ z31_ e32_ h35_ => ⟨(fun h36_ hM_ => ?_), (fun h36_ => ⟨(fun h37_ hM_ => ?_), (fun h37_ => ⟨(fun h38_ hM_ => ?_), (fun h38_ z39_ e40_ z41_ h42_ => ⟨(fun h43_ r44_ hs48_ h47_ z49_ h50_ j53_ h54_ z51_ e52_ h55_ r56_ hs60_ h59_ => ⟨(fun h61_ r62_ hs66_ h65_ z67_ h68_ r69_ hs73_ h72_ z74_ h75_ j78_ h79_ z76_ e77_ h80_ z81_ h82_ z83_ h85_ h84_ j88_ h89_ M86_ hM87_ hM_ => ?_), (fun h61_ r92_ hs96_ h95_ => ⟨(fun h97_ r98_ hs102_ h101_ z103_ h104_ r105_ hs109_ h108_ z110_ h111_ j114_ h115_ z112_ e113_ h116_ z117_ h118_ z119_ h121_ h120_ j124_ h125_ M122_ hM123_ hM_ => ?_), (fun h97_ r128_ hs132_ h131_ z133_ h134_ j137_ h138_ M135_ hM136_ hM_ => ?_)⟩)⟩), (fun h43_ hM_ => ?_)⟩)⟩)⟩)⟩)
  · rw [hM_]
    exact kr.refl
  · rw [hM_]
    exact kr.refl
  · rw [hM_]
    exact kr.refl
  · rw [hM_]
    exact kr_up hM87_ (by omega)
  · rw [hM_]
    exact kr_up hM123_ (by omega)
  · rw [hM_]
    exact kr_up hM136_ (by omega)
  · rw [hM_]
    exact kr.refl
theorem FST_X12_tenth_12 {Mz : mM} {v1_12 : Int32} {M_12 : mM} {v1_12y : Int32} {M_12y : mM} (h : ST_X12_tenth_12 Mz v1_12 M_12 v1_12y M_12y) : kr M_12 M_12y := by
  refine xE_ST_X12_tenth_12 h (fun hv0_12 _ hF_12 z10_ e11_ h12_ h13_ M28_ _ hF32_ hs34_ z35_ h36_ hq_v1_12y hM_ => ?_)
  · rw [hM_]
    exact (FSP_X12_thingGoes hs34_ (by omega))
theorem FST_X12_goesOn_22 {Mz : mM} {r1_ : Int32} {v3_22 : Int32} {M_22 : mM} {v3_22y : Int32} {M_22y : mM} {v : Int32} (h : ST_X12_goesOn_22 Mz r1_ v3_22 M_22 v3_22y M_22y) (h4_ : r1_.toInt = 180 + 9 * v.toInt) (hv : 0 ≤ v.toInt ∧ v.toInt ≤ 7) : kr M_22 M_22y := by
  refine xE_ST_X12_goesOn_22 h (fun hv0_22 _ hF_22 h13_ z14_ h15_ j18_ h19_ z16_ e17_ h20_ z21_ h22_ j25_ h26_ z23_ e24_ h27_ r28_ hs32_ h31_ h33_ r49_ hs53_ h52_ h54_ z55_ h56_ j59_ h60_ M57_ hM58_ z63_ h64_ hq_v3_22y hM_ => ?_)
  · rw [hM_]
    exact kr_up hM58_ (by omega)
theorem FSP_X12_more {v : Int32} {u : Int32} {Mz : mM} {M_ : mM} (h : SP_X12_more v u Mz M_) (hv : 494 ≤ v.toInt ∧ v.toInt ≤ 3566) : kr Mz M_ := by
  refine xE_SP_X12_more h (fun j3_ h4_ z1_ e2_ z5_ h6_ z7_ h8_ j11_ h12_ M9_ hM10_ hM_ => ?_)
  · rw [hM_]
    exact kr_up hM10_ (by omega)
theorem FST_X12_goesOn_22b {Mz : mM} {r1_ : Int32} {v3_22 : Int32} {M_22 : mM} {v3_22y : Int32} {M_22y : mM} {v : Int32} (h : ST_X12_goesOn_22b Mz r1_ v3_22 M_22 v3_22y M_22y) (h4_ : r1_.toInt = 180 + 9 * v.toInt) (hv : 0 ≤ v.toInt ∧ v.toInt ≤ 7) : kr M_22 M_22y := by
  refine xE_ST_X12_goesOn_22b h (fun hv0_22 _ hF_22 h93_ z94_ h95_ j98_ h99_ z96_ e97_ h100_ z101_ h102_ j105_ h106_ z103_ e104_ h107_ r108_ hs112_ h111_ h113_ r129_ hs133_ h132_ h134_ z135_ h136_ j139_ h140_ M137_ hM138_ z143_ h144_ hq_v3_22y hM_ => ?_)
  · rw [hM_]
    exact kr_up hM138_ (by omega)
theorem FSP_X12_goesOn {v : Int32} {Mz : mM} {M_ : mM} (h : SP_X12_goesOn v Mz M_) (hv : 0 ≤ v.toInt ∧ v.toInt ≤ 7) : kr Mz M_ := by
  refine xE_SP_X12_goesOn h (fun r1_ hs5_ h4_ r6_ hs10_ h9_ => ⟨(fun h11_ v3_22 hv0_22 M_22 hL_22 _ hF_22 => ⟨(fun h13_ hM_ => ?_), (fun h13_ z14_ h15_ j18_ h19_ z16_ e17_ h20_ z21_ h22_ j25_ h26_ z23_ e24_ h27_ r28_ hs32_ h31_ => ⟨(fun h33_ z34_ h35_ j38_ h39_ z36_ e37_ z40_ h41_ j44_ h45_ M42_ hM43_ h48_ hM_ => ?_), (fun h33_ r49_ hs53_ h52_ h54_ z65_ h66_ j69_ h70_ z67_ e68_ z71_ h72_ j75_ h76_ M73_ hM74_ h79_ _ r80_ hs84_ h83_ M85_ _ hF89_ hs91_ hM_ => ?_)⟩)⟩), (fun h11_ v3_22 hv0_22 M_22 hL_22 _ hF_22 => ⟨(fun h93_ hM_ => ?_), (fun h93_ z94_ h95_ j98_ h99_ z96_ e97_ h100_ z101_ h102_ j105_ h106_ z103_ e104_ h107_ r108_ hs112_ h111_ => ⟨(fun h113_ z114_ h115_ j118_ h119_ z116_ e117_ z120_ h121_ j124_ h125_ M122_ hM123_ h128_ hM_ => ?_), (fun h113_ r129_ hs133_ h132_ h134_ z145_ h146_ j149_ h150_ z147_ e148_ z151_ h152_ j155_ h156_ M153_ hM154_ h159_ _ r160_ hs164_ h163_ M165_ _ hF169_ hs171_ hM_ => ?_)⟩)⟩)⟩)
  · rw [hM_]
    have l0_ := rind hL_22 (fun z_ => kr Mz z_.2) kr.refl (fun x_ z_ h1_ h2_ => kr.trans h1_ ((FST_X12_goesOn_22 (v := v) h2_ (by omega) (by omega))))
    exact show kr Mz M_22 from l0_
  · rw [hM_]
    have l0_ := rind hL_22 (fun z_ => kr Mz z_.2) kr.refl (fun x_ z_ h1_ h2_ => kr.trans h1_ ((FST_X12_goesOn_22 (v := v) h2_ (by omega) (by omega))))
    exact kr.trans (show kr Mz M_22 from l0_) (kr_up hM43_ (by omega))
  · rw [hM_]
    have l0_ := rind hL_22 (fun z_ => kr Mz z_.2) kr.refl (fun x_ z_ h1_ h2_ => kr.trans h1_ ((FST_X12_goesOn_22 (v := v) h2_ (by omega) (by omega))))
    exact kr.trans (kr.trans (show kr Mz M_22 from l0_) (kr_up hM74_ (by omega))) ((FSP_X12_more hs91_ (by omega)))
  · rw [hM_]
    have l0_ := rind hL_22 (fun z_ => kr Mz z_.2) kr.refl (fun x_ z_ h1_ h2_ => kr.trans h1_ ((FST_X12_goesOn_22b (v := v) h2_ (by omega) (by omega))))
    exact show kr Mz M_22 from l0_
  · rw [hM_]
    have l0_ := rind hL_22 (fun z_ => kr Mz z_.2) kr.refl (fun x_ z_ h1_ h2_ => kr.trans h1_ ((FST_X12_goesOn_22b (v := v) h2_ (by omega) (by omega))))
    exact kr.trans (show kr Mz M_22 from l0_) (kr_up hM123_ (by omega))
  · rw [hM_]
    have l0_ := rind hL_22 (fun z_ => kr Mz z_.2) kr.refl (fun x_ z_ h1_ h2_ => kr.trans h1_ ((FST_X12_goesOn_22b (v := v) h2_ (by omega) (by omega))))
    exact kr.trans (kr.trans (show kr Mz M_22 from l0_) (kr_up hM154_ (by omega))) ((FSP_X12_more hs171_ (by omega)))
theorem FST_X12_clicks_55 {v : Int32} {Mz : mM} {z8_ : Int32} {v4_35 : Int32} {r34_ : Int32} {v6_55 : Int32} {M_55 : mM} {v6_55y : Int32} {M_55y : mM} (h : ST_X12_clicks_55 v Mz z8_ v4_35 r34_ v6_55 M_55 v6_55y M_55y) (hv0_35 : 0 ≤ v4_35.toInt) (hv1_35 : v4_35.toInt ≤ 8) (h33_ : v4_35.toInt < 8) (hv : 0 ≤ v.toInt ∧ v.toInt ≤ 7) : kr M_55 M_55y := by
  refine xE_ST_X12_clicks_55 h (fun hv0_55 _ hF_55 h43_ r68_ hs72_ h71_ r73_ hs77_ h76_ M78_ _ hF82_ hs84_ z85_ h86_ hq_v6_55y hM_ => ?_)
  · rw [hM_]
    exact (FSP_X12_more hs84_ (by omega))
theorem FST_X12_clicks_35 {v : Int32} {Mz : mM} {z8_ : Int32} {v4_35 : Int32} {v3_35 : Int32} {M_35 : mM} {v4_35y : Int32} {v3_35y : Int32} {M_35y : mM} (h : ST_X12_clicks_35 v Mz z8_ v4_35 v3_35 M_35 v4_35y v3_35y M_35y) (h12_ : 0 ≤ z8_.toInt ∧ z8_.toInt ≤ 191) (hv : 0 ≤ v.toInt ∧ v.toInt ≤ 7) : kr M_35 M_35y := by
  refine xE_ST_X12_clicks_35 h (fun hv0_35 hv1_35 _ hF_35 h33_ M35_ _ hF39_ r34_ hs41_ h37_ v6_55 hv0_55 M_55 hL_55 _ hF_55 h43_ => ⟨(fun h44_ z45_ h46_ hq_v4_35y hq_v3_35y hM_ => ?_), (fun h44_ r47_ hs51_ h50_ r52_ hs56_ h55_ M57_ _ hF61_ hs63_ z64_ h65_ z66_ h67_ hq_v4_35y hq_v3_35y hM_ => ?_)⟩)
  · rw [hM_]
    have l0_ := rind hL_55 (fun z_ => kr M35_ z_.2) kr.refl (fun x_ z_ h1_ h2_ => kr.trans h1_ ((FST_X12_clicks_55 h2_ (by omega) (by omega) (by omega) (by omega))))
    exact kr.trans (kr_FR hF39_ (by intro j q; simp [S_c_X12_heardFrom] at q)) (show kr M35_ M_55 from l0_)
  · rw [hM_]
    have l0_ := rind hL_55 (fun z_ => kr M35_ z_.2) kr.refl (fun x_ z_ h1_ h2_ => kr.trans h1_ ((FST_X12_clicks_55 h2_ (by omega) (by omega) (by omega) (by omega))))
    exact kr.trans (kr.trans (kr_FR hF39_ (by intro j q; simp [S_c_X12_heardFrom] at q)) (show kr M35_ M_55 from l0_)) ((FSP_X12_more hs63_ (by omega)))
theorem FSP_X12_clicks {v : Int32} {Mz : mM} {r_ : Int32} {M_ : mM} (h : SP_X12_clicks v Mz r_ M_) (hv : 0 ≤ v.toInt ∧ v.toInt ≤ 7) : kr Mz M_ := by
  refine xE_SP_X12_clicks h (fun r1_ hs5_ h4_ z6_ h7_ j10_ h11_ z8_ e9_ h12_ r13_ hs17_ h16_ z18_ h19_ j22_ h23_ z20_ e21_ z24_ h25_ j28_ h29_ M26_ hM27_ v4_35 hv0_35 hv1_35 v3_35 M_35 hL_35 _ hF_35 h33_ hr_ hM_ => ?_)
  · rw [hM_]
    have l0_ := rind hL_35 (fun z_ => kr M26_ z_.2.2) kr.refl (fun x_ z_ h1_ h2_ => kr.trans h1_ ((FST_X12_clicks_35 h2_ (by omega) (by omega))))
    exact kr.trans (kr_up hM27_ (by omega)) (show kr M26_ M_35 from l0_)
theorem FSP_X12_walkerGoes {v : Int32} {Mz : mM} {M_ : mM} (h : SP_X12_walkerGoes v Mz M_) (hv : 0 ≤ v.toInt ∧ v.toInt ≤ 7) : kr Mz M_ := by
  refine xE_SP_X12_walkerGoes h (fun r1_ hs5_ h4_ z6_ h7_ j10_ h11_ z8_ e9_ z12_ h13_ j16_ h17_ z14_ e15_ => ⟨(fun h18_ => ⟨(fun h19_ M21_ _ hF25_ r20_ hs27_ => ⟨(fun h28_ z29_ h30_ z31_ h32_ j35_ h36_ z33_ e34_ h37_ => ⟨(fun h38_ => ⟨(fun h39_ z40_ h41_ z42_ h44_ h43_ j47_ h48_ M45_ hM46_ hM_ => ?_), (fun h39_ z51_ h52_ z53_ h55_ h54_ j58_ h59_ M56_ hM57_ hM_ => ?_)⟩), (fun h38_ z62_ h63_ z64_ h66_ h65_ j69_ h70_ M67_ hM68_ hM_ => ?_)⟩), (fun h28_ M73_ _ hF77_ hs79_ hM_ => ?_)⟩), (fun h19_ z80_ e81_ z82_ h83_ => ⟨(fun h84_ M86_ _ hF90_ r85_ hs92_ => ⟨(fun h93_ z94_ h95_ z96_ h97_ j100_ h101_ z98_ e99_ h102_ => ⟨(fun h103_ => ⟨(fun h104_ z105_ h106_ z107_ h109_ h108_ j112_ h113_ M110_ hM111_ hM_ => ?_), (fun h104_ z116_ h117_ z118_ h120_ h119_ j123_ h124_ M121_ hM122_ hM_ => ?_)⟩), (fun h103_ z127_ h128_ z129_ h131_ h130_ j134_ h135_ M132_ hM133_ hM_ => ?_)⟩), (fun h93_ M138_ _ hF142_ hs144_ hM_ => ?_)⟩), (fun h84_ r145_ hs149_ h148_ r150_ hs154_ h153_ => ⟨(fun h155_ M157_ _ hF161_ r156_ hs163_ => ⟨(fun h164_ z165_ h166_ z167_ h168_ j171_ h172_ z169_ e170_ h173_ => ⟨(fun h174_ => ⟨(fun h175_ z176_ h177_ z178_ h180_ h179_ j183_ h184_ M181_ hM182_ hM_ => ?_), (fun h175_ z187_ h188_ z189_ h191_ h190_ j194_ h195_ M192_ hM193_ hM_ => ?_)⟩), (fun h174_ z198_ h199_ z200_ h202_ h201_ j205_ h206_ M203_ hM204_ hM_ => ?_)⟩), (fun h164_ M209_ _ hF213_ hs215_ hM_ => ?_)⟩), (fun h155_ M217_ _ hF221_ r216_ hs223_ M225_ _ hF229_ r224_ hs231_ => ⟨(fun h232_ z233_ h234_ z235_ h236_ j239_ h240_ z237_ e238_ h241_ => ⟨(fun h242_ => ⟨(fun h243_ z244_ h245_ z246_ h248_ h247_ j251_ h252_ M249_ hM250_ hM_ => ?_), (fun h243_ z255_ h256_ z257_ h259_ h258_ j262_ h263_ M260_ hM261_ hM_ => ?_)⟩), (fun h242_ z266_ h267_ z268_ h270_ h269_ j273_ h274_ M271_ hM272_ hM_ => ?_)⟩), (fun h232_ M277_ _ hF281_ hs283_ hM_ => ?_)⟩)⟩)⟩)⟩), (fun h18_ hM_ => ?_)⟩)
  · rw [hM_]
    exact kr.trans (kr_FR hF25_ (by intro j q; simp [S_c_X12_habitOf] at q)) (kr_up hM46_ (by omega))
  · rw [hM_]
    exact kr.trans (kr_FR hF25_ (by intro j q; simp [S_c_X12_habitOf] at q)) (kr_up hM57_ (by omega))
  · rw [hM_]
    exact kr.trans (kr_FR hF25_ (by intro j q; simp [S_c_X12_habitOf] at q)) (kr_up hM68_ (by omega))
  · rw [hM_]
    exact kr.trans (kr_FR hF25_ (by intro j q; simp [S_c_X12_habitOf] at q)) ((FSP_X12_goesOn hs79_ (by omega)))
  · rw [hM_]
    exact kr.trans (kr_FR hF90_ (by intro j q; simp [S_c_X12_habitOf] at q)) (kr_up hM111_ (by omega))
  · rw [hM_]
    exact kr.trans (kr_FR hF90_ (by intro j q; simp [S_c_X12_habitOf] at q)) (kr_up hM122_ (by omega))
  · rw [hM_]
    exact kr.trans (kr_FR hF90_ (by intro j q; simp [S_c_X12_habitOf] at q)) (kr_up hM133_ (by omega))
  · rw [hM_]
    exact kr.trans (kr_FR hF90_ (by intro j q; simp [S_c_X12_habitOf] at q)) ((FSP_X12_goesOn hs144_ (by omega)))
  · rw [hM_]
    exact kr.trans (kr_FR hF161_ (by intro j q; simp [S_c_X12_habitOf] at q)) (kr_up hM182_ (by omega))
  · rw [hM_]
    exact kr.trans (kr_FR hF161_ (by intro j q; simp [S_c_X12_habitOf] at q)) (kr_up hM193_ (by omega))
  · rw [hM_]
    exact kr.trans (kr_FR hF161_ (by intro j q; simp [S_c_X12_habitOf] at q)) (kr_up hM204_ (by omega))
  · rw [hM_]
    exact kr.trans (kr_FR hF161_ (by intro j q; simp [S_c_X12_habitOf] at q)) ((FSP_X12_goesOn hs215_ (by omega)))
  · rw [hM_]
    exact kr.trans (kr.trans ((FSP_X12_clicks hs223_ (by omega))) (kr_FR hF229_ (by intro j q; simp [S_c_X12_habitOf] at q))) (kr_up hM250_ (by omega))
  · rw [hM_]
    exact kr.trans (kr.trans ((FSP_X12_clicks hs223_ (by omega))) (kr_FR hF229_ (by intro j q; simp [S_c_X12_habitOf] at q))) (kr_up hM261_ (by omega))
  · rw [hM_]
    exact kr.trans (kr.trans ((FSP_X12_clicks hs223_ (by omega))) (kr_FR hF229_ (by intro j q; simp [S_c_X12_habitOf] at q))) (kr_up hM272_ (by omega))
  · rw [hM_]
    exact kr.trans (kr.trans ((FSP_X12_clicks hs223_ (by omega))) (kr_FR hF229_ (by intro j q; simp [S_c_X12_habitOf] at q))) ((FSP_X12_goesOn hs283_ (by omega)))
  · rw [hM_]
    exact kr.refl
theorem FST_X12_tenth_35 {Mz : mM} {v1_35 : Int32} {M_35 : mM} {v1_35y : Int32} {M_35y : mM} (h : ST_X12_tenth_35 Mz v1_35 M_35 v1_35y M_35y) : kr M_35 M_35y := by
  refine xE_ST_X12_tenth_35 h (fun hv0_35 _ hF_35 z15_ e16_ h17_ h18_ M19_ _ hF23_ hs25_ z26_ h27_ hq_v1_35y hM_ => ?_)
  · rw [hM_]
    exact (FSP_X12_walkerGoes hs25_ (by omega))
theorem FSP_X12_tenth {Mz : mM} {M_ : mM} (h : SP_X12_tenth Mz M_) : kr Mz M_ := by
  refine xE_SP_X12_tenth h (fun z1_ e2_ z3_ h4_ M5_ hM6_ v1_12 hv0_12 M_12 hL_12 _ hF_12 z10_ e11_ h12_ h13_ v1_35 hv0_35 M_35 hL_35 _ hF_35 z15_ e16_ h17_ h18_ hM_ => ?_)
  · rw [hM_]
    have l0_ := rind hL_12 (fun z_ => kr M5_ z_.2) kr.refl (fun x_ z_ h1_ h2_ => kr.trans h1_ ((FST_X12_tenth_12 h2_)))
    have l1_ := rind hL_35 (fun z_ => kr M_12 z_.2) kr.refl (fun x_ z_ h1_ h2_ => kr.trans h1_ ((FST_X12_tenth_35 h2_)))
    exact kr.trans (kr.trans (kr_up hM6_ (by omega)) (show kr M5_ M_12 from l0_)) (show kr M_12 M_35 from l1_)
end
section
/-! tenths -/
def TNR (x y : Int32 × mM) : Prop := x.1.toInt = y.1.toInt ∧ RW 0 x.2.1 (y.2.1 (50, 0, 0)) ∧ (y.2.1 (12, 0, 0) 7).toInt = -1
theorem tenths_loop {v : Int32} {C D : mM} {z t : Int32 × mM} (hR : RW 0 C.1 (D.1 (50, 0, 0))) (hu : (D.1 (12, 0, 0) 7).toInt = -1)
    (hc : RCH (fun x y : Int32 × mM => ST_X11_tenths_39 v C x.1 x.2 y.1 y.2) ((0 : Int32), C) z) (hd : RCH (fun x y : Int32 × mM => ST_X12_tenths_40 v D x.1 x.2 y.1 y.2) ((0 : Int32), D) t) (fc : v.toInt ≤ z.1.toInt) (fd : v.toInt ≤ t.1.toInt) : TNR z t := by
  refine lockE TNR hc hd ⟨rfl, hR, hu⟩ ?_ ?_ ?_
  · intro x z y t r s1 s2
    obtain ⟨r1, r2, r3⟩ := r
    (try dsimp only at s1 s2)
    refine xE_ST_X11_tenths_39 s1 (fun c_hv0_39 _ c_hF_39 c_h13_ c_M16_ _ c_hF20_ c_hs22_ c_z23_ c_h24_ c_hq_v2_39y c_hM_ => ?_)
    refine xE_ST_X12_tenths_40 s2 (fun d_hv0_40 d_hI_40 d_hF_40 d_h13_ d_M16_ d_hI19_ d_hF20_ d_hs22_ d_z23_ d_h24_ d_hq_v2_40y d_hM_ => ?_)
    have tb := tenth_both c_hs22_ d_hs22_ r2.1 d_hI_40 r3
    obtain ⟨t1, t2, t3⟩ := tb
    have k1 := eT c_hq_v2_39y
    have k2 := eT d_hq_v2_40y
    have kf := FSP_X12_tenth d_hs22_
    have kt := KSP_X12_tenth d_hs22_
    refine ⟨by omega, ?_, ?_⟩
    · rw [c_hM_, d_hM_]
      refine RW_of r2 d_hI_40.2.1 t1 (fun c k hc => c_hF20_ c k (fun q => by simp only [S_c_X10_passTenth, or_false] at q; omega)) (fun j hj => ?_)
      rcases hj with rfl | rfl | rfl | hj
      · exact kt 3 (by omega) (by first | decide | simp | (dsimp only; omega))
      · exact kt 4 (by omega) (by first | decide | simp | (dsimp only; omega))
      · exact kt 5 (by omega) (by first | decide | simp | (dsimp only; omega))
      · exact kf j hj.1 hj.2
    · rw [d_hM_]; exact t3
  · intro y y' r s2
    obtain ⟨r1, -⟩ := r
    (try dsimp only at s2)
    refine xE_ST_X12_tenths_40 s2 (fun d_hv0_40 _ d_hF_40 d_h13_ d_M16_ _ d_hF20_ d_hs22_ d_z23_ d_h24_ d_hq_v2_40y d_hM_ => ?_)
    omega
  · intro x x' r s1
    obtain ⟨r1, -⟩ := r
    (try dsimp only at s1)
    refine xE_ST_X11_tenths_39 s1 (fun c_hv0_39 _ c_hF_39 c_h13_ c_M16_ _ c_hF20_ c_hs22_ c_z23_ c_h24_ c_hq_v2_39y c_hM_ => ?_)
    omega
theorem cb_24 {v : Int32} {M M1 D D2 : mM} {r1 r2 : Int32} (h1 : SP_X11_tenths v M r1 M1) (h2 : SP_X12_tenths v D r2 D2) (hR : RW 0 M.1 (D.1 (50, 0, 0))) (hD : InvD D) (hu : (D.1 (12, 0, 0) 7).toInt = -1) : RW 0 M1.1 (D2.1 (50, 0, 0)) ∧ r1 = r2 := by
  have q0 := il_0
  have q1 := il_1
  have n0 := hR.1.1.1
  refine xE_SP_X11_tenths h1 ⟨(fun c_hs5_ c_h4_ c_z7_ c_e8_ c_z9_ c_h10_ => ⟨(fun c_h11_ c_v2_39 c_hv0_39 c_M_39 c_hL_39 _ c_hF_39 c_h13_ c_z14_ c_e15_ c_hr_ c_hM_ => ?_), (fun c_h11_ c_M26_ _ c_hF30_ c_r25_ c_hs32_ c_hr_ c_hM_ => ?_)⟩), (fun c_hs5_ c_h4_ c_M35_ _ c_hF39_ c_r34_ c_hs41_ c_hr_ c_hM_ => ?_)⟩
  ·
    refine xE_SP_X12_tenths h2 ⟨(fun d_hs5_ d_h4_ d_z7_ d_e8_ d_z9_ d_h10_ => ⟨(fun d_h11_ d_v2_40 d_hv0_40 d_M_40 d_hL_40 _ d_hF_40 d_h13_ d_z14_ d_e15_ d_hr_ d_hM_ => ?_), (fun d_h11_ d_M26_ _ d_hF30_ d_r25_ d_hs32_ d_h28_ d_hr_ d_hM_ => ?_)⟩), (fun d_hs5_ d_h4_ d_M35_ _ d_hF39_ d_r34_ d_hs41_ d_h37_ d_hr_ d_hM_ => ?_)⟩
    · skip
      have z9 : c_z9_ = d_z9_ := by rw [c_h10_, d_h10_, c_e8_, d_e8_, n0]
      rw [z9] at c_h11_
      have L := tenths_loop (z := (c_v2_39, c_M_39)) (t := (d_v2_40, d_M_40)) hR hu c_hL_39 d_hL_40 c_h13_ d_h13_
      obtain ⟨l1, l2, l3⟩ := L
      rw [c_hM_, d_hM_, c_hr_, d_hr_, c_e15_, d_e15_]
      exact ⟨l2, l2.1.1.1⟩
    · skip
      have z9 : c_z9_ = d_z9_ := by rw [c_h10_, d_h10_, c_e8_, d_e8_, n0]
      rw [z9] at c_h11_
      omega
    · skip
      omega
  ·
    refine xE_SP_X12_tenths h2 ⟨(fun d_hs5_ d_h4_ d_z7_ d_e8_ d_z9_ d_h10_ => ⟨(fun d_h11_ d_v2_40 d_hv0_40 d_M_40 d_hL_40 _ d_hF_40 d_h13_ d_z14_ d_e15_ d_hr_ d_hM_ => ?_), (fun d_h11_ d_M26_ _ d_hF30_ d_r25_ d_hs32_ d_h28_ d_hr_ d_hM_ => ?_)⟩), (fun d_hs5_ d_h4_ d_M35_ _ d_hF39_ d_r34_ d_hs41_ d_h37_ d_hr_ d_hM_ => ?_)⟩
    · skip
      have z9 : c_z9_ = d_z9_ := by rw [c_h10_, d_h10_, c_e8_, d_e8_, n0]
      rw [z9] at c_h11_
      omega
    · skip
      have z9 : c_z9_ = d_z9_ := by rw [c_h10_, d_h10_, c_e8_, d_e8_, n0]
      rw [z9] at c_h11_
      refine ⟨sameE hR hD.2.1 c_hF30_ c_hM_ d_hF30_ d_hM_, i32e ?_⟩
      have e := err_r c_hs32_ (by first | decide | simp | (dsimp only; omega))
      rw [c_hr_, d_hr_, e, d_h28_]
      decide
    · skip
      omega
  ·
    refine xE_SP_X12_tenths h2 ⟨(fun d_hs5_ d_h4_ d_z7_ d_e8_ d_z9_ d_h10_ => ⟨(fun d_h11_ d_v2_40 d_hv0_40 d_M_40 d_hL_40 _ d_hF_40 d_h13_ d_z14_ d_e15_ d_hr_ d_hM_ => ?_), (fun d_h11_ d_M26_ _ d_hF30_ d_r25_ d_hs32_ d_h28_ d_hr_ d_hM_ => ?_)⟩), (fun d_hs5_ d_h4_ d_M35_ _ d_hF39_ d_r34_ d_hs41_ d_h37_ d_hr_ d_hM_ => ?_)⟩
    · skip
      omega
    · skip
      omega
    · skip
      refine ⟨sameE hR hD.2.1 c_hF39_ c_hM_ d_hF39_ d_hM_, i32e ?_⟩
      have e := err_r c_hs41_ (by first | decide | simp | (dsimp only; omega))
      rw [c_hr_, d_hr_, e, d_h37_]
      decide
/-! kind and air: by the first places' relation of the memories behind them -/
theorem cb_4 {v u t : Int32} {M M1 D D2 : mM} {r2 : Int32} (hF : FR (S_c_X11_kind) M M1) (h2 : SP_X12_kind v u t D r2 D2) (hR : RW 0 M.1 (D.1 (50, 0, 0))) (hD : InvD D) (hL : LWR 0 M1.1 (D2.1 (50, 0, 0))) : RW 0 M1.1 (D2.1 (50, 0, 0)) := by
  refine RW_air hR hD.2.1 hL (fun c k a b h3 h4 h5 => hF c k (fun q => by unfold wR at a; simp only [S_c_X11_kind, or_false] at q; omega)) (fun j hj => ?_)
  rcases nnD_kind h2 with g | ⟨g0, g⟩
  · exact g.2.2 j
  · unfold KINB at g0
    rcases g with ⟨-, -, g⟩ | ⟨-, -, g⟩
    · rw [g, up_row, updN (by omega)]
    · rw [g, up_row, updN (by omega)]
theorem cb_7 {v u : Int32} {M M1 D D2 : mM} {r2 : Int32} (hF : FR (S_c_X11_air) M M1) (h2 : SP_X12_air v u D r2 D2) (hR : RW 0 M.1 (D.1 (50, 0, 0))) (hD : InvD D) (hL : LWR 0 M1.1 (D2.1 (50, 0, 0))) : RW 0 M1.1 (D2.1 (50, 0, 0)) := by
  refine RW_air hR hD.2.1 hL (fun c k a b h3 h4 h5 => hF c k (fun q => by unfold wR at a; simp only [S_c_X11_air, or_false] at q; omega)) (fun j hj => ?_)
  rcases nnD_air h2 with g | ⟨g0, -, g⟩
  · exact g.2.2 j
  · unfold AIRB at g0
    rw [g, up_row, updN (by omega)]
end
section
/-! the sheets' numbers -/
theorem SHR_keep {q q2 p p2 : rf → Nat → Int32} (h : SHR q p) (hq : ∀ (c : rf) (k : Nat), c.1 = 6 ∨ c.1 = 34 → q2 c k = q c k) (hp : ∀ (c : rf) (k : Nat), c.1 = 66 ∨ c.1 = 67 ∨ c.1 = 68 → p2 c k = p c k) : SHR q2 p2 := fun w hw => by
  obtain ⟨h1, h2, h3⟩ := h w hw
  rw [hq _ _ (by simp), hq (6, 0, w) 1 (by simp), hp _ _ (by simp), hp (67, 0, 0) w (by simp)]
  refine ⟨h1, h2, fun i hi => ?_⟩
  rw [hq _ _ (by simp), hp _ _ (by simp)]
  exact h3 i hi
theorem shE {M Mc M1 D Dc D2 : mM} (h : SHR M.1 D.1) (hc : FR S_c_X11_error M Mc) (h1 : M1 = Mc) (hd : FR S_c_X12_finding D Dc) (h2 : D2 = Dc) : SHR M1.1 D2.1 := by
  rw [h1, h2]
  exact SHR_keep h (fun c k q => hc c k (fun z => by simp only [S_c_X11_error, or_false] at z; omega)) (fun c k q => hd c k (fun z => by simp only [S_c_X12_finding, or_false] at z; omega))
theorem x6hasY {w : Nat} {v r : Int32} {M : mM} (h : SP_X6_has w v M r) : (r.toInt = 1 ∧ 0 ≤ v.toInt ∧ v.toInt < (M.1 (6, 0, w) 1).toInt) ∨ (r.toInt = 0 ∧ ¬ (0 ≤ v.toInt ∧ v.toInt < (M.1 (6, 0, w) 1).toInt)) := by
  have q0 := il_0
  have q1 := il_1
  refine xE_SP_X6_has h ⟨(fun h1_ hr_ => ?_), (fun h1_ z2_ e3_ h4_ => ⟨(fun h5_ hr_ => ?_), (fun h5_ h6_ hr_ => ?_)⟩)⟩
  · have := eT hr_; omega
  · have := eT hr_; have := eT e3_; omega
  · have := eT hr_; have := eT e3_; omega
theorem x6runY {w : Nat} {v u r : Int32} {M : mM} (h : SP_X6_hasRun w v u M r) : (r.toInt = 1 ∧ 0 ≤ v.toInt ∧ 0 ≤ u.toInt ∧ v.toInt + u.toInt ≤ (M.1 (6, 0, w) 1).toInt) ∨ (r.toInt = 0 ∧ ¬ (0 ≤ v.toInt ∧ 0 ≤ u.toInt ∧ v.toInt + u.toInt ≤ (M.1 (6, 0, w) 1).toInt)) := by
  have q0 := il_0
  have q1 := il_1
  refine xE_SP_X6_hasRun h ⟨(fun h1_ hr_ => ?_), (fun h1_ => ⟨(fun h2_ hr_ => ?_), (fun h2_ z3_ e4_ h5_ => ⟨(fun h6_ hr_ => ?_), (fun h6_ z9_ h10_ => ⟨(fun h11_ hr_ => ?_), (fun h11_ hr_ => ?_)⟩)⟩)⟩)⟩
  · have := eT hr_; omega
  · have := eT hr_; omega
  all_goals
    have := eT hr_
    have := eT e4_
    omega
theorem sz_b {D : mM} (hD : InvD D) (w : Nat) : 0 ≤ (D.1 (67, 0, 0) w).toInt ∧ (D.1 (67, 0, 0) w).toInt ≤ 24 := hD.1 (67, 0, 0) w
/-- one number is written on both sides -/
theorem SHR_put {q q2 p p2 : rf → Nat → Int32} {v i : Nat} {x : Int32} (h : SHR q p) (hz : ∀ w, (p (67, 0, 0) w).toInt ≤ 24) (hi : i < 24) (hq : ∀ (c : rf) (k : Nat), c.1 = 6 ∨ c.1 = 34 → ¬ (c = (34, 0, v) ∧ k = i) → q2 c k = q c k) (hx : q2 (34, 0, v) i = x) (hp : ∀ (c : rf) (k : Nat), c.1 = 66 ∨ c.1 = 67 ∨ c.1 = 68 → ¬ (c = (68, 0, 0) ∧ k = 24 * v + i) → p2 c k = p c k) (hy : p2 (68, 0, 0) (24 * v + i) = x) : SHR q2 p2 := fun w hw => by
  obtain ⟨h1, h2, h3⟩ := h w hw
  rw [hq _ _ (by simp) (by simp), hq (6, 0, w) 1 (by simp) (by simp), hp _ _ (by simp) (by simp), hp (67, 0, 0) w (by simp) (by simp)]
  refine ⟨h1, h2, fun j hj => ?_⟩
  have z := hz w
  by_cases e : w = v ∧ j = i
  · rw [e.1, e.2, hx, hy]
  · rw [hq _ _ (by simp) (fun y => e ⟨congrArg (fun c : rf => c.2.2) y.1, y.2⟩), hp _ _ (by simp) (fun y => by have := y.2; omega)]
    exact h3 j hj
theorem x6store {w : Nat} {v u : Int32} {M M1 : mM} (h : SP_X6_store w v u M M1) (hv : 0 ≤ v.toInt ∧ v.toInt < (M.1 (6, 0, w) 1).toInt) : M1 = up M (34, 0, w) v.toInt.toNat (if (M.1 (6, 0, w) 0).toInt = 8 then u.toInt8.toInt32 else if (M.1 (6, 0, w) 0).toInt = 16 then u.toInt16.toInt32 else u) := by
  have q0 := il_0
  refine xE_SP_X6_store h ⟨(fun hs5_ h4_ z7_ e8_ => ⟨(fun h9_ => ⟨(fun h12_ j15_ h16_ M13_ hM14_ hM_ => ?_), (fun h12_ z19_ h20_ j23_ h24_ M21_ hM22_ hM_ => ?_)⟩), (fun h9_ z27_ h28_ j31_ h32_ M29_ hM30_ hM_ => ?_)⟩), (fun hs5_ hM_ => ?_)⟩
  · have y := eT e8_
    rw [hM_, hM14_, if_neg (by omega), if_neg (by omega), show j15_ = v.toInt.toNat by omega]
  · have y := eT e8_
    rw [hM_, hM22_, if_neg (by omega), if_pos (by omega), show j23_ = v.toInt.toNat by omega, h20_]
  · have y := eT e8_
    rw [hM_, hM30_, if_pos (by omega), show j31_ = v.toInt.toNat by omega, h28_]
  · have := x6hasY hs5_
    omega
theorem sh_33 {v u t : Int32} {M M1 D D2 : mM} {r1 r2 : Int32} (h1 : SP_X11_put v u t M r1 M1) (h2 : SP_X12_put v u t D r2 D2) (hS : SHR M.1 D.1) (hD : InvD D) : SHR M1.1 D2.1 := by
  have q0 := il_0
  have q1 := il_1
  have zb := sz_b hD
  have sw := fun (w : Nat) (hw : w < 4) => And.intro (eT (hS w hw).1) (eT (hS w hw).2.1)
  refine xE_SP_X11_put h1 ⟨(fun c_hs5_ c_h4_ c_j7_ c_h8_ c_h9_ c_r10_ c_hs14_ c_h13_ => ⟨(fun c_h15_ c_j16_ c_h17_ c_h18_ => ⟨(fun c_hs23_ c_h22_ c_j25_ c_h26_ c_h27_ c_M28_ _ c_hF32_ c_hs34_ c_hr_ c_hM_ => ?_), (fun c_hs23_ c_M37_ _ c_hF41_ c_r36_ c_hs43_ c_hr_ c_hM_ => ?_)⟩), (fun c_h15_ c_M45_ _ c_hF49_ c_r44_ c_hs51_ c_hr_ c_hM_ => ?_)⟩), (fun c_hs5_ c_h4_ c_M54_ _ c_hF58_ c_r53_ c_hs60_ c_hr_ c_hM_ => ?_)⟩
  ·
    obtain rfl : c_j7_ = v.toInt.toNat := by omega
    obtain rfl : c_j16_ = v.toInt.toNat := by omega
    obtain rfl : c_j25_ = v.toInt.toNat := by omega
    have sv := sw v.toInt.toNat (by omega)
    have zbv := zb v.toInt.toNat
    have mihs14_ := x6miss c_hs14_
    have hahs23_ := x6hasY c_hs23_
    refine xE_SP_X12_put h2 ⟨(fun d_hs5_ d_h4_ d_j9_ d_h10_ d_z7_ d_e8_ => ⟨(fun d_h11_ d_j14_ d_h15_ d_z12_ d_e13_ d_h16_ d_z17_ d_h18_ => ⟨(fun d_hs23_ d_h22_ d_z25_ d_h26_ d_z27_ d_h28_ d_j31_ d_h32_ d_z29_ d_e30_ => ⟨(fun d_h33_ d_j36_ d_h37_ d_z34_ d_e35_ => ⟨(fun d_h38_ d_j41_ d_h42_ d_M39_ d_hM40_ d_hr_ d_hM_ => ?_), (fun d_h38_ d_z45_ d_h46_ d_j49_ d_h50_ d_M47_ d_hM48_ d_hr_ d_hM_ => ?_)⟩), (fun d_h33_ d_z53_ d_h54_ d_j57_ d_h58_ d_M55_ d_hM56_ d_hr_ d_hM_ => ?_)⟩), (fun d_hs23_ d_h22_ d_M63_ _ d_hF67_ d_r62_ d_hs69_ d_h65_ d_hr_ d_hM_ => ?_)⟩), (fun d_h11_ d_M71_ _ d_hF75_ d_r70_ d_hs77_ d_h73_ d_hr_ d_hM_ => ?_)⟩), (fun d_hs5_ d_h4_ d_M80_ _ d_hF84_ d_r79_ d_hs86_ d_h82_ d_hr_ d_hM_ => ?_)⟩
    · skip
      obtain rfl : d_j9_ = v.toInt.toNat := by omega
      obtain rfl : d_j14_ = v.toInt.toNat := by omega
      obtain rfl : d_j31_ = v.toInt.toNat := by omega
      obtain rfl : d_j36_ = v.toInt.toNat := by omega
      have yde8_ := eT d_e8_
      have yde13_ := eT d_e13_
      have yde30_ := eT d_e30_
      have yde35_ := eT d_e35_
      have st := x6store c_hs34_ (by omega)
      rw [if_neg (by omega), if_neg (by omega)] at st
      refine SHR_put (v := v.toInt.toNat) (i := u.toInt.toNat) (x := t) hS (fun w => (zb w).2) (by omega) (fun c k a b => by rw [c_hM_, st, zupN rfl b]) (by rw [c_hM_, st, zupE rfl rfl rfl]) (fun c k a b => by rw [d_hM_, zupN d_hM40_ (fun z => b ⟨z.1, by have := z.2; omega⟩)]) (by rw [d_hM_, zupE d_hM40_ rfl (by omega)])
    · skip
      obtain rfl : d_j9_ = v.toInt.toNat := by omega
      obtain rfl : d_j14_ = v.toInt.toNat := by omega
      obtain rfl : d_j31_ = v.toInt.toNat := by omega
      obtain rfl : d_j36_ = v.toInt.toNat := by omega
      have yde8_ := eT d_e8_
      have yde13_ := eT d_e13_
      have yde30_ := eT d_e30_
      have yde35_ := eT d_e35_
      have st := x6store c_hs34_ (by omega)
      rw [if_neg (by omega), if_pos (by omega)] at st
      refine SHR_put (v := v.toInt.toNat) (i := u.toInt.toNat) (x := t.toInt16.toInt32) hS (fun w => (zb w).2) (by omega) (fun c k a b => by rw [c_hM_, st, zupN rfl b]) (by rw [c_hM_, st, zupE rfl rfl rfl]) (fun c k a b => by rw [d_hM_, zupN d_hM48_ (fun z => b ⟨z.1, by have := z.2; omega⟩)]) (by rw [d_hM_, zupE d_hM48_ rfl (by omega), d_h46_])
    · skip
      obtain rfl : d_j9_ = v.toInt.toNat := by omega
      obtain rfl : d_j14_ = v.toInt.toNat := by omega
      obtain rfl : d_j31_ = v.toInt.toNat := by omega
      have yde8_ := eT d_e8_
      have yde13_ := eT d_e13_
      have yde30_ := eT d_e30_
      have st := x6store c_hs34_ (by omega)
      rw [if_pos (by omega)] at st
      refine SHR_put (v := v.toInt.toNat) (i := u.toInt.toNat) (x := t.toInt8.toInt32) hS (fun w => (zb w).2) (by omega) (fun c k a b => by rw [c_hM_, st, zupN rfl b]) (by rw [c_hM_, st, zupE rfl rfl rfl]) (fun c k a b => by rw [d_hM_, zupN d_hM56_ (fun z => b ⟨z.1, by have := z.2; omega⟩)]) (by rw [d_hM_, zupE d_hM56_ rfl (by omega), d_h54_])
    · skip
      obtain rfl : d_j9_ = v.toInt.toNat := by omega
      obtain rfl : d_j14_ = v.toInt.toNat := by omega
      have yde8_ := eT d_e8_
      have yde13_ := eT d_e13_
      omega
    · skip
      obtain rfl : d_j9_ = v.toInt.toNat := by omega
      have yde8_ := eT d_e8_
      omega
    · skip
      omega
  ·
    obtain rfl : c_j7_ = v.toInt.toNat := by omega
    obtain rfl : c_j16_ = v.toInt.toNat := by omega
    have sv := sw v.toInt.toNat (by omega)
    have zbv := zb v.toInt.toNat
    have mihs14_ := x6miss c_hs14_
    have hahs23_ := x6hasY c_hs23_
    refine xE_SP_X12_put h2 ⟨(fun d_hs5_ d_h4_ d_j9_ d_h10_ d_z7_ d_e8_ => ⟨(fun d_h11_ d_j14_ d_h15_ d_z12_ d_e13_ d_h16_ d_z17_ d_h18_ => ⟨(fun d_hs23_ d_h22_ d_z25_ d_h26_ d_z27_ d_h28_ d_j31_ d_h32_ d_z29_ d_e30_ => ⟨(fun d_h33_ d_j36_ d_h37_ d_z34_ d_e35_ => ⟨(fun d_h38_ d_j41_ d_h42_ d_M39_ d_hM40_ d_hr_ d_hM_ => ?_), (fun d_h38_ d_z45_ d_h46_ d_j49_ d_h50_ d_M47_ d_hM48_ d_hr_ d_hM_ => ?_)⟩), (fun d_h33_ d_z53_ d_h54_ d_j57_ d_h58_ d_M55_ d_hM56_ d_hr_ d_hM_ => ?_)⟩), (fun d_hs23_ d_h22_ d_M63_ _ d_hF67_ d_r62_ d_hs69_ d_h65_ d_hr_ d_hM_ => ?_)⟩), (fun d_h11_ d_M71_ _ d_hF75_ d_r70_ d_hs77_ d_h73_ d_hr_ d_hM_ => ?_)⟩), (fun d_hs5_ d_h4_ d_M80_ _ d_hF84_ d_r79_ d_hs86_ d_h82_ d_hr_ d_hM_ => ?_)⟩
    · skip
      obtain rfl : d_j9_ = v.toInt.toNat := by omega
      obtain rfl : d_j14_ = v.toInt.toNat := by omega
      obtain rfl : d_j31_ = v.toInt.toNat := by omega
      obtain rfl : d_j36_ = v.toInt.toNat := by omega
      have yde8_ := eT d_e8_
      have yde13_ := eT d_e13_
      have yde30_ := eT d_e30_
      have yde35_ := eT d_e35_
      omega
    · skip
      obtain rfl : d_j9_ = v.toInt.toNat := by omega
      obtain rfl : d_j14_ = v.toInt.toNat := by omega
      obtain rfl : d_j31_ = v.toInt.toNat := by omega
      obtain rfl : d_j36_ = v.toInt.toNat := by omega
      have yde8_ := eT d_e8_
      have yde13_ := eT d_e13_
      have yde30_ := eT d_e30_
      have yde35_ := eT d_e35_
      omega
    · skip
      obtain rfl : d_j9_ = v.toInt.toNat := by omega
      obtain rfl : d_j14_ = v.toInt.toNat := by omega
      obtain rfl : d_j31_ = v.toInt.toNat := by omega
      have yde8_ := eT d_e8_
      have yde13_ := eT d_e13_
      have yde30_ := eT d_e30_
      omega
    · skip
      exact shE hS c_hF41_ c_hM_ d_hF67_ d_hM_
    · skip
      exact shE hS c_hF41_ c_hM_ d_hF75_ d_hM_
    · skip
      exact shE hS c_hF41_ c_hM_ d_hF84_ d_hM_
  ·
    obtain rfl : c_j7_ = v.toInt.toNat := by omega
    have sv := sw v.toInt.toNat (by omega)
    have zbv := zb v.toInt.toNat
    have mihs14_ := x6miss c_hs14_
    refine xE_SP_X12_put h2 ⟨(fun d_hs5_ d_h4_ d_j9_ d_h10_ d_z7_ d_e8_ => ⟨(fun d_h11_ d_j14_ d_h15_ d_z12_ d_e13_ d_h16_ d_z17_ d_h18_ => ⟨(fun d_hs23_ d_h22_ d_z25_ d_h26_ d_z27_ d_h28_ d_j31_ d_h32_ d_z29_ d_e30_ => ⟨(fun d_h33_ d_j36_ d_h37_ d_z34_ d_e35_ => ⟨(fun d_h38_ d_j41_ d_h42_ d_M39_ d_hM40_ d_hr_ d_hM_ => ?_), (fun d_h38_ d_z45_ d_h46_ d_j49_ d_h50_ d_M47_ d_hM48_ d_hr_ d_hM_ => ?_)⟩), (fun d_h33_ d_z53_ d_h54_ d_j57_ d_h58_ d_M55_ d_hM56_ d_hr_ d_hM_ => ?_)⟩), (fun d_hs23_ d_h22_ d_M63_ _ d_hF67_ d_r62_ d_hs69_ d_h65_ d_hr_ d_hM_ => ?_)⟩), (fun d_h11_ d_M71_ _ d_hF75_ d_r70_ d_hs77_ d_h73_ d_hr_ d_hM_ => ?_)⟩), (fun d_hs5_ d_h4_ d_M80_ _ d_hF84_ d_r79_ d_hs86_ d_h82_ d_hr_ d_hM_ => ?_)⟩
    · skip
      obtain rfl : d_j9_ = v.toInt.toNat := by omega
      obtain rfl : d_j14_ = v.toInt.toNat := by omega
      obtain rfl : d_j31_ = v.toInt.toNat := by omega
      obtain rfl : d_j36_ = v.toInt.toNat := by omega
      have yde8_ := eT d_e8_
      have yde13_ := eT d_e13_
      have yde30_ := eT d_e30_
      have yde35_ := eT d_e35_
      omega
    · skip
      obtain rfl : d_j9_ = v.toInt.toNat := by omega
      obtain rfl : d_j14_ = v.toInt.toNat := by omega
      obtain rfl : d_j31_ = v.toInt.toNat := by omega
      obtain rfl : d_j36_ = v.toInt.toNat := by omega
      have yde8_ := eT d_e8_
      have yde13_ := eT d_e13_
      have yde30_ := eT d_e30_
      have yde35_ := eT d_e35_
      omega
    · skip
      obtain rfl : d_j9_ = v.toInt.toNat := by omega
      obtain rfl : d_j14_ = v.toInt.toNat := by omega
      obtain rfl : d_j31_ = v.toInt.toNat := by omega
      have yde8_ := eT d_e8_
      have yde13_ := eT d_e13_
      have yde30_ := eT d_e30_
      omega
    · skip
      exact shE hS c_hF49_ c_hM_ d_hF67_ d_hM_
    · skip
      exact shE hS c_hF49_ c_hM_ d_hF75_ d_hM_
    · skip
      exact shE hS c_hF49_ c_hM_ d_hF84_ d_hM_
  ·
    refine xE_SP_X12_put h2 ⟨(fun d_hs5_ d_h4_ d_j9_ d_h10_ d_z7_ d_e8_ => ⟨(fun d_h11_ d_j14_ d_h15_ d_z12_ d_e13_ d_h16_ d_z17_ d_h18_ => ⟨(fun d_hs23_ d_h22_ d_z25_ d_h26_ d_z27_ d_h28_ d_j31_ d_h32_ d_z29_ d_e30_ => ⟨(fun d_h33_ d_j36_ d_h37_ d_z34_ d_e35_ => ⟨(fun d_h38_ d_j41_ d_h42_ d_M39_ d_hM40_ d_hr_ d_hM_ => ?_), (fun d_h38_ d_z45_ d_h46_ d_j49_ d_h50_ d_M47_ d_hM48_ d_hr_ d_hM_ => ?_)⟩), (fun d_h33_ d_z53_ d_h54_ d_j57_ d_h58_ d_M55_ d_hM56_ d_hr_ d_hM_ => ?_)⟩), (fun d_hs23_ d_h22_ d_M63_ _ d_hF67_ d_r62_ d_hs69_ d_h65_ d_hr_ d_hM_ => ?_)⟩), (fun d_h11_ d_M71_ _ d_hF75_ d_r70_ d_hs77_ d_h73_ d_hr_ d_hM_ => ?_)⟩), (fun d_hs5_ d_h4_ d_M80_ _ d_hF84_ d_r79_ d_hs86_ d_h82_ d_hr_ d_hM_ => ?_)⟩
    · skip
      obtain rfl : d_j9_ = v.toInt.toNat := by omega
      obtain rfl : d_j14_ = v.toInt.toNat := by omega
      obtain rfl : d_j31_ = v.toInt.toNat := by omega
      obtain rfl : d_j36_ = v.toInt.toNat := by omega
      have yde8_ := eT d_e8_
      have yde13_ := eT d_e13_
      have yde30_ := eT d_e30_
      have yde35_ := eT d_e35_
      omega
    · skip
      obtain rfl : d_j9_ = v.toInt.toNat := by omega
      obtain rfl : d_j14_ = v.toInt.toNat := by omega
      obtain rfl : d_j31_ = v.toInt.toNat := by omega
      obtain rfl : d_j36_ = v.toInt.toNat := by omega
      have yde8_ := eT d_e8_
      have yde13_ := eT d_e13_
      have yde30_ := eT d_e30_
      have yde35_ := eT d_e35_
      omega
    · skip
      obtain rfl : d_j9_ = v.toInt.toNat := by omega
      obtain rfl : d_j14_ = v.toInt.toNat := by omega
      obtain rfl : d_j31_ = v.toInt.toNat := by omega
      have yde8_ := eT d_e8_
      have yde13_ := eT d_e13_
      have yde30_ := eT d_e30_
      omega
    · skip
      exact shE hS c_hF58_ c_hM_ d_hF67_ d_hM_
    · skip
      exact shE hS c_hF58_ c_hM_ d_hF75_ d_hM_
    · skip
      exact shE hS c_hF58_ c_hM_ d_hF84_ d_hM_
theorem x6beginY {w : Nat} {v u : Int32} {M M1 : mM} (h : SP_X6_begin w v u M M1) : (∀ (c : rf) (k : Nat), ¬ c = (34, 0, w) → ¬ c = (6, 0, w) → M1.1 c k = M.1 c k) ∧ ∀ k, k < 24 → M1.1 (34, 0, w) k = 0 := by
  have q0 := il_0
  refine xE_SP_X6_begin h (fun M1_ hM2_ z5_ h6_ z7_ h8_ M9_ hM10_ v3_21 hv0_21 hv1_21 M_21 hL_21 _ hF_21 h14_ hM_ => ?_)
  have g := rind hL_21 (fun z => 0 ≤ z.1.toInt ∧ (∀ (c : rf) (k : Nat), ¬ c = (34, 0, w) → z.2.1 c k = M9_.1 c k) ∧ ∀ k : Nat, (k : Int) < z.1.toInt → z.2.1 (34, 0, w) k = 0) ⟨by dsimp only; omega, fun _ _ _ => rfl, fun k hk => by dsimp only at hk; omega⟩ (fun x z p st => by
    (try dsimp only at p st ⊢)
    obtain ⟨p1, p2, p3⟩ := p
    refine xE_ST_X6_begin_21 st (fun k_hv0_21 k_hv1_21 _ k_hF_21 k_h14_ k_j17_ k_h18_ k_M15_ k_hM16_ k_z21_ k_h22_ k_hq_v3_21y k_hM_ => ?_)
    have e := eT k_hq_v3_21y
    refine ⟨by omega, fun c k q1 => ?_, fun k hk => ?_⟩
    · rw [k_hM_, zupN k_hM16_ (fun z => q1 z.1)]; exact p2 c k q1
    · by_cases e2 : (k : Int) = x.1.toInt
      · rw [k_hM_]; exact zupE k_hM16_ rfl (by omega)
      · rw [k_hM_, zupN k_hM16_ (fun z => by have := z.2; omega)]; exact p3 k (by omega))
  (try dsimp only at g)
  obtain ⟨g1, g2, g3⟩ := g
  rw [hM_]
  exact ⟨fun c k q1 q2 => by rw [g2 c k q1, zupN hM10_ (fun z => q2 z.1), zupN hM2_ (fun z => q2 z.1)], fun k hk => g3 k (by omega)⟩
theorem SHR_sheet {q q2 p p2 : rf → Nat → Int32} {v : Nat} (h : SHR q p) (hz : ∀ w, (p (67, 0, 0) w).toInt ≤ 24 ∧ (p2 (67, 0, 0) w).toInt ≤ 24) (hb : q2 (6, 0, v) 0 = p2 (66, 0, 0) v ∧ q2 (6, 0, v) 1 = p2 (67, 0, 0) v) (hq : ∀ w k, ¬ w = v → q2 (34, 0, w) k = q (34, 0, w) k ∧ q2 (6, 0, w) k = q (6, 0, w) k) (hp : ∀ w, ¬ w = v → p2 (66, 0, 0) w = p (66, 0, 0) w ∧ p2 (67, 0, 0) w = p (67, 0, 0) w) (hp8 : ∀ k, ¬ (24 * v ≤ k ∧ k < 24 * v + 24) → p2 (68, 0, 0) k = p (68, 0, 0) k)
    (hn : ∀ i : Nat, (i : Int) < (p2 (67, 0, 0) v).toInt → q2 (34, 0, v) i = p2 (68, 0, 0) (24 * v + i)) : SHR q2 p2 := fun w hw => by
  obtain ⟨h1, h2, h3⟩ := h w hw
  by_cases e : w = v
  · subst e
    exact ⟨hb.1, hb.2, hn⟩
  · have z := (hz w).1
    rw [(hq w 0 e).2, (hq w 1 e).2, (hp w e).1, (hp w e).2]
    refine ⟨h1, h2, fun i hi => ?_⟩
    rw [(hq w i e).1, hp8 _ (by omega)]
    exact h3 i hi
theorem sheet93 {v : Int32} {D Da : mM} {w : Int32 × mM} (h : RCH (fun x y : Int32 × mM => ST_X12_sheet_93 v D x.1 x.2 y.1 y.2) ((0 : Int32), Da) w) (hv : 0 ≤ v.toInt) : (∀ (c : rf) (k : Nat), ¬ c = (68, 0, 0) → w.2.1 c k = Da.1 c k) ∧ (∀ k, ¬ (24 * v.toInt.toNat ≤ k ∧ k < 24 * v.toInt.toNat + 24) → w.2.1 (68, 0, 0) k = Da.1 (68, 0, 0) k) ∧ ∀ k : Nat, (k : Int) < w.1.toInt → w.2.1 (68, 0, 0) (24 * v.toInt.toNat + k) = 0 := by
  have q0 := il_0
  have g := rind h (fun z => 0 ≤ z.1.toInt ∧ (∀ (c : rf) (k : Nat), ¬ c = (68, 0, 0) → z.2.1 c k = Da.1 c k) ∧ (∀ k, ¬ (24 * v.toInt.toNat ≤ k ∧ k < 24 * v.toInt.toNat + 24) → z.2.1 (68, 0, 0) k = Da.1 (68, 0, 0) k) ∧ ∀ k : Nat, (k : Int) < z.1.toInt → z.2.1 (68, 0, 0) (24 * v.toInt.toNat + k) = 0) ⟨by dsimp only; omega, fun _ _ _ => rfl, fun _ _ => rfl, fun k hk => by dsimp only at hk; omega⟩ (fun x z p st => by
    (try dsimp only at p st ⊢)
    obtain ⟨p1, p2, p3, p4⟩ := p
    refine xE_ST_X12_sheet_93 st (fun k_hv0_93 k_hv1_93 _ k_hF_93 k_h24_ k_z25_ k_h26_ k_z27_ k_h28_ k_j31_ k_h32_ k_M29_ k_hM30_ k_z35_ k_h36_ k_hq_v4_93y k_hM_ => ?_)
    have e := eT k_hq_v4_93y
    rw [k_hM_]
    refine ⟨by omega, fun c k q1 => ?_, fun k hk => ?_, fun k hk => ?_⟩
    · rw [zupN k_hM30_ (fun z => q1 z.1)]; exact p2 c k q1
    · rw [zupN k_hM30_ (fun z => by have := z.2; omega)]; exact p3 k hk
    · by_cases e2 : (k : Int) = x.1.toInt
      · exact zupE k_hM30_ rfl (by omega)
      · rw [zupN k_hM30_ (fun z => by have := z.2; omega)]; exact p4 k (by omega))
  exact g.2
theorem sheet93b {v : Int32} {D Da : mM} {w : Int32 × mM} (h : RCH (fun x y : Int32 × mM => ST_X12_sheet_93b v D x.1 x.2 y.1 y.2) ((0 : Int32), Da) w) (hv : 0 ≤ v.toInt) : (∀ (c : rf) (k : Nat), ¬ c = (68, 0, 0) → w.2.1 c k = Da.1 c k) ∧ (∀ k, ¬ (24 * v.toInt.toNat ≤ k ∧ k < 24 * v.toInt.toNat + 24) → w.2.1 (68, 0, 0) k = Da.1 (68, 0, 0) k) ∧ ∀ k : Nat, (k : Int) < w.1.toInt → w.2.1 (68, 0, 0) (24 * v.toInt.toNat + k) = 0 := by
  have q0 := il_0
  have g := rind h (fun z => 0 ≤ z.1.toInt ∧ (∀ (c : rf) (k : Nat), ¬ c = (68, 0, 0) → z.2.1 c k = Da.1 c k) ∧ (∀ k, ¬ (24 * v.toInt.toNat ≤ k ∧ k < 24 * v.toInt.toNat + 24) → z.2.1 (68, 0, 0) k = Da.1 (68, 0, 0) k) ∧ ∀ k : Nat, (k : Int) < z.1.toInt → z.2.1 (68, 0, 0) (24 * v.toInt.toNat + k) = 0) ⟨by dsimp only; omega, fun _ _ _ => rfl, fun _ _ => rfl, fun k hk => by dsimp only at hk; omega⟩ (fun x z p st => by
    (try dsimp only at p st ⊢)
    obtain ⟨p1, p2, p3, p4⟩ := p
    refine xE_ST_X12_sheet_93b st (fun k_hv0_93 k_hv1_93 _ k_hF_93 k_h56_ k_z57_ k_h58_ k_z59_ k_h60_ k_j63_ k_h64_ k_M61_ k_hM62_ k_z67_ k_h68_ k_hq_v4_93y k_hM_ => ?_)
    have e := eT k_hq_v4_93y
    rw [k_hM_]
    refine ⟨by omega, fun c k q1 => ?_, fun k hk => ?_, fun k hk => ?_⟩
    · rw [zupN k_hM62_ (fun z => q1 z.1)]; exact p2 c k q1
    · rw [zupN k_hM62_ (fun z => by have := z.2; omega)]; exact p3 k hk
    · by_cases e2 : (k : Int) = x.1.toInt
      · exact zupE k_hM62_ rfl (by omega)
      · rw [zupN k_hM62_ (fun z => by have := z.2; omega)]; exact p4 k (by omega))
  exact g.2
theorem sheet93c {v : Int32} {D Da : mM} {w : Int32 × mM} (h : RCH (fun x y : Int32 × mM => ST_X12_sheet_93c v D x.1 x.2 y.1 y.2) ((0 : Int32), Da) w) (hv : 0 ≤ v.toInt) : (∀ (c : rf) (k : Nat), ¬ c = (68, 0, 0) → w.2.1 c k = Da.1 c k) ∧ (∀ k, ¬ (24 * v.toInt.toNat ≤ k ∧ k < 24 * v.toInt.toNat + 24) → w.2.1 (68, 0, 0) k = Da.1 (68, 0, 0) k) ∧ ∀ k : Nat, (k : Int) < w.1.toInt → w.2.1 (68, 0, 0) (24 * v.toInt.toNat + k) = 0 := by
  have q0 := il_0
  have g := rind h (fun z => 0 ≤ z.1.toInt ∧ (∀ (c : rf) (k : Nat), ¬ c = (68, 0, 0) → z.2.1 c k = Da.1 c k) ∧ (∀ k, ¬ (24 * v.toInt.toNat ≤ k ∧ k < 24 * v.toInt.toNat + 24) → z.2.1 (68, 0, 0) k = Da.1 (68, 0, 0) k) ∧ ∀ k : Nat, (k : Int) < z.1.toInt → z.2.1 (68, 0, 0) (24 * v.toInt.toNat + k) = 0) ⟨by dsimp only; omega, fun _ _ _ => rfl, fun _ _ => rfl, fun k hk => by dsimp only at hk; omega⟩ (fun x z p st => by
    (try dsimp only at p st ⊢)
    obtain ⟨p1, p2, p3, p4⟩ := p
    refine xE_ST_X12_sheet_93c st (fun k_hv0_93 k_hv1_93 _ k_hF_93 k_h104_ k_z105_ k_h106_ k_z107_ k_h108_ k_j111_ k_h112_ k_M109_ k_hM110_ k_z115_ k_h116_ k_hq_v4_93y k_hM_ => ?_)
    have e := eT k_hq_v4_93y
    rw [k_hM_]
    refine ⟨by omega, fun c k q1 => ?_, fun k hk => ?_, fun k hk => ?_⟩
    · rw [zupN k_hM110_ (fun z => q1 z.1)]; exact p2 c k q1
    · rw [zupN k_hM110_ (fun z => by have := z.2; omega)]; exact p3 k hk
    · by_cases e2 : (k : Int) = x.1.toInt
      · exact zupE k_hM110_ rfl (by omega)
      · rw [zupN k_hM110_ (fun z => by have := z.2; omega)]; exact p4 k (by omega))
  exact g.2
theorem sheet93d {v : Int32} {D Da : mM} {w : Int32 × mM} (h : RCH (fun x y : Int32 × mM => ST_X12_sheet_93d v D x.1 x.2 y.1 y.2) ((0 : Int32), Da) w) (hv : 0 ≤ v.toInt) : (∀ (c : rf) (k : Nat), ¬ c = (68, 0, 0) → w.2.1 c k = Da.1 c k) ∧ (∀ k, ¬ (24 * v.toInt.toNat ≤ k ∧ k < 24 * v.toInt.toNat + 24) → w.2.1 (68, 0, 0) k = Da.1 (68, 0, 0) k) ∧ ∀ k : Nat, (k : Int) < w.1.toInt → w.2.1 (68, 0, 0) (24 * v.toInt.toNat + k) = 0 := by
  have q0 := il_0
  have g := rind h (fun z => 0 ≤ z.1.toInt ∧ (∀ (c : rf) (k : Nat), ¬ c = (68, 0, 0) → z.2.1 c k = Da.1 c k) ∧ (∀ k, ¬ (24 * v.toInt.toNat ≤ k ∧ k < 24 * v.toInt.toNat + 24) → z.2.1 (68, 0, 0) k = Da.1 (68, 0, 0) k) ∧ ∀ k : Nat, (k : Int) < z.1.toInt → z.2.1 (68, 0, 0) (24 * v.toInt.toNat + k) = 0) ⟨by dsimp only; omega, fun _ _ _ => rfl, fun _ _ => rfl, fun k hk => by dsimp only at hk; omega⟩ (fun x z p st => by
    (try dsimp only at p st ⊢)
    obtain ⟨p1, p2, p3, p4⟩ := p
    refine xE_ST_X12_sheet_93d st (fun k_hv0_93 k_hv1_93 _ k_hF_93 k_h152_ k_z153_ k_h154_ k_z155_ k_h156_ k_j159_ k_h160_ k_M157_ k_hM158_ k_z163_ k_h164_ k_hq_v4_93y k_hM_ => ?_)
    have e := eT k_hq_v4_93y
    rw [k_hM_]
    refine ⟨by omega, fun c k q1 => ?_, fun k hk => ?_, fun k hk => ?_⟩
    · rw [zupN k_hM158_ (fun z => q1 z.1)]; exact p2 c k q1
    · rw [zupN k_hM158_ (fun z => by have := z.2; omega)]; exact p3 k hk
    · by_cases e2 : (k : Int) = x.1.toInt
      · exact zupE k_hM158_ rfl (by omega)
      · rw [zupN k_hM158_ (fun z => by have := z.2; omega)]; exact p4 k (by omega))
  exact g.2
theorem sh_32 {v u t : Int32} {M M1 D D2 : mM} {r1 r2 : Int32} (h1 : SP_X11_sheet v u t M r1 M1) (h2 : SP_X12_sheet v u t D r2 D2) (hS : SHR M.1 D.1) (hD : InvD D) (hD2 : InvD D2) (hB : ∀ w, w < 4 → M1.1 (6, 0, w) 0 = D2.1 (66, 0, 0) w ∧ M1.1 (6, 0, w) 1 = D2.1 (67, 0, 0) w) : SHR M1.1 D2.1 := by
  have q0 := il_0
  have q1 := il_1
  have zb := sz_b hD
  have sw := fun (w : Nat) (hw : w < 4) => And.intro (eT (hS w hw).1) (eT (hS w hw).2.1)
  refine xE_SP_X11_sheet h1 ⟨(fun c_hs5_ c_h4_ => ⟨(fun c_h7_ c_h8_ c_j9_ c_h10_ c_h11_ c_M12_ _ c_hF16_ c_hs18_ c_hr_ c_hM_ => ?_), (fun c_h7_ => ⟨(fun c_h19_ c_h20_ => ⟨(fun c_h21_ => ⟨(fun c_h22_ c_j23_ c_h24_ c_h25_ c_M26_ _ c_hF30_ c_hs32_ c_hr_ c_hM_ => ?_), (fun c_h22_ c_M34_ _ c_hF38_ c_r33_ c_hs40_ c_hr_ c_hM_ => ?_)⟩), (fun c_h21_ c_M42_ _ c_hF46_ c_r41_ c_hs48_ c_hr_ c_hM_ => ?_)⟩), (fun c_h19_ => ⟨(fun c_h49_ c_h50_ => ⟨(fun c_h51_ => ⟨(fun c_h52_ c_j53_ c_h54_ c_h55_ c_M56_ _ c_hF60_ c_hs62_ c_hr_ c_hM_ => ?_), (fun c_h52_ c_M64_ _ c_hF68_ c_r63_ c_hs70_ c_hr_ c_hM_ => ?_)⟩), (fun c_h51_ c_M72_ _ c_hF76_ c_r71_ c_hs78_ c_hr_ c_hM_ => ?_)⟩), (fun c_h49_ => ⟨(fun c_h79_ c_h80_ => ⟨(fun c_h81_ => ⟨(fun c_h82_ c_j83_ c_h84_ c_h85_ c_M86_ _ c_hF90_ c_hs92_ c_hr_ c_hM_ => ?_), (fun c_h82_ c_M94_ _ c_hF98_ c_r93_ c_hs100_ c_hr_ c_hM_ => ?_)⟩), (fun c_h81_ c_M102_ _ c_hF106_ c_r101_ c_hs108_ c_hr_ c_hM_ => ?_)⟩), (fun c_h79_ c_M110_ _ c_hF114_ c_r109_ c_hs116_ c_hr_ c_hM_ => ?_)⟩)⟩)⟩)⟩), (fun c_hs5_ c_h4_ c_M119_ _ c_hF123_ c_r118_ c_hs125_ c_hr_ c_hM_ => ?_)⟩
  ·
    obtain rfl : c_j9_ = v.toInt.toNat := by omega
    have sv := sw v.toInt.toNat (by omega)
    have zbv := zb v.toInt.toNat
    refine xE_SP_X12_sheet h2 ⟨(fun d_hs5_ d_h4_ => ⟨(fun d_h7_ d_h8_ d_h9_ d_j12_ d_h13_ d_M10_ d_hM11_ d_h16_ d_j19_ d_h20_ d_M17_ d_hM18_ d_v4_93 d_hv0_93 d_hv1_93 d_M_93 d_hL_93 _ d_hF_93 d_h24_ d_hr_ d_hM_ => ?_), (fun d_h7_ => ⟨(fun d_h37_ d_h38_ => ⟨(fun d_h39_ d_h40_ => ⟨(fun d_h41_ d_j44_ d_h45_ d_M42_ d_hM43_ d_h48_ d_j51_ d_h52_ d_M49_ d_hM50_ d_v4_93 d_hv0_93 d_hv1_93 d_M_93 d_hL_93 _ d_hF_93 d_h56_ d_hr_ d_hM_ => ?_), (fun d_h41_ d_M70_ _ d_hF74_ d_r69_ d_hs76_ d_h72_ d_hr_ d_hM_ => ?_)⟩), (fun d_h39_ d_M78_ _ d_hF82_ d_r77_ d_hs84_ d_h80_ d_hr_ d_hM_ => ?_)⟩), (fun d_h37_ => ⟨(fun d_h85_ d_h86_ => ⟨(fun d_h87_ d_h88_ => ⟨(fun d_h89_ d_j92_ d_h93_ d_M90_ d_hM91_ d_h96_ d_j99_ d_h100_ d_M97_ d_hM98_ d_v4_93 d_hv0_93 d_hv1_93 d_M_93 d_hL_93 _ d_hF_93 d_h104_ d_hr_ d_hM_ => ?_), (fun d_h89_ d_M118_ _ d_hF122_ d_r117_ d_hs124_ d_h120_ d_hr_ d_hM_ => ?_)⟩), (fun d_h87_ d_M126_ _ d_hF130_ d_r125_ d_hs132_ d_h128_ d_hr_ d_hM_ => ?_)⟩), (fun d_h85_ => ⟨(fun d_h133_ d_h134_ => ⟨(fun d_h135_ d_h136_ => ⟨(fun d_h137_ d_j140_ d_h141_ d_M138_ d_hM139_ d_h144_ d_j147_ d_h148_ d_M145_ d_hM146_ d_v4_93 d_hv0_93 d_hv1_93 d_M_93 d_hL_93 _ d_hF_93 d_h152_ d_hr_ d_hM_ => ?_), (fun d_h137_ d_M166_ _ d_hF170_ d_r165_ d_hs172_ d_h168_ d_hr_ d_hM_ => ?_)⟩), (fun d_h135_ d_M174_ _ d_hF178_ d_r173_ d_hs180_ d_h176_ d_hr_ d_hM_ => ?_)⟩), (fun d_h133_ d_M182_ _ d_hF186_ d_r181_ d_hs188_ d_h184_ d_hr_ d_hM_ => ?_)⟩)⟩)⟩)⟩), (fun d_hs5_ d_h4_ d_M191_ _ d_hF195_ d_r190_ d_hs197_ d_h193_ d_hr_ d_hM_ => ?_)⟩
    · skip
      obtain rfl : d_j12_ = v.toInt.toNat := by omega
      obtain rfl : d_j19_ = v.toInt.toNat := by omega
      have sl := sheet93 d_hL_93 d_h4_.1
      obtain ⟨s1, s2, s3⟩ := sl
      refine xE_SP_X6_drop c_hs18_ (fun e_M1_ e_hM2_ e_M5_ e_hM6_ e_hM_ => ?_)
      refine SHR_sheet (v := v.toInt.toNat) hS (fun w => ⟨(zb w).2, (sz_b hD2 w).2⟩) (hB _ (by omega)) (fun w k hw => ?_) (fun w hw => ?_) (fun k hk => ?_) (fun i hi => ?_)
      · rw [c_hM_, e_hM_]
        exact ⟨by rw [zupR e_hM6_ (by simp), zupR e_hM2_ (by simp)], by rw [zupN e_hM6_ (fun z => hw (congrArg (fun c : rf => c.2.2) z.1)), zupN e_hM2_ (fun z => hw (congrArg (fun c : rf => c.2.2) z.1))]⟩
      · rw [d_hM_, s1 (66, 0, 0) w (by simp), s1 (67, 0, 0) w (by simp), zupR (c' := (66, 0, 0)) d_hM18_ (by simp), zupN (c' := (66, 0, 0)) d_hM11_ (fun z => hw z.2), zupN (c' := (67, 0, 0)) d_hM18_ (fun z => hw z.2), zupR (c' := (67, 0, 0)) d_hM11_ (by simp)]
        exact ⟨rfl, rfl⟩
      · rw [d_hM_, s2 k hk, zupR d_hM18_ (by simp), zupR d_hM11_ (by simp)]
      · exfalso
        rw [d_hM_, s1 (67, 0, 0) _ (by simp), zupE d_hM18_ rfl rfl] at hi
        omega
    · skip
      obtain rfl : d_j44_ = v.toInt.toNat := by omega
      obtain rfl : d_j51_ = v.toInt.toNat := by omega
      have sl := sheet93b d_hL_93 d_h4_.1
      obtain ⟨s1, s2, s3⟩ := sl
      refine xE_SP_X6_drop c_hs18_ (fun e_M1_ e_hM2_ e_M5_ e_hM6_ e_hM_ => ?_)
      refine SHR_sheet (v := v.toInt.toNat) hS (fun w => ⟨(zb w).2, (sz_b hD2 w).2⟩) (hB _ (by omega)) (fun w k hw => ?_) (fun w hw => ?_) (fun k hk => ?_) (fun i hi => ?_)
      · rw [c_hM_, e_hM_]
        exact ⟨by rw [zupR e_hM6_ (by simp), zupR e_hM2_ (by simp)], by rw [zupN e_hM6_ (fun z => hw (congrArg (fun c : rf => c.2.2) z.1)), zupN e_hM2_ (fun z => hw (congrArg (fun c : rf => c.2.2) z.1))]⟩
      · rw [d_hM_, s1 (66, 0, 0) w (by simp), s1 (67, 0, 0) w (by simp), zupR (c' := (66, 0, 0)) d_hM50_ (by simp), zupN (c' := (66, 0, 0)) d_hM43_ (fun z => hw z.2), zupN (c' := (67, 0, 0)) d_hM50_ (fun z => hw z.2), zupR (c' := (67, 0, 0)) d_hM43_ (by simp)]
        exact ⟨rfl, rfl⟩
      · rw [d_hM_, s2 k hk, zupR d_hM50_ (by simp), zupR d_hM43_ (by simp)]
      · exfalso
        rw [d_hM_, s1 (67, 0, 0) _ (by simp), zupE d_hM50_ rfl rfl] at hi
        omega
    · skip
      omega
    · skip
      omega
    · skip
      obtain rfl : d_j92_ = v.toInt.toNat := by omega
      obtain rfl : d_j99_ = v.toInt.toNat := by omega
      have sl := sheet93c d_hL_93 d_h4_.1
      obtain ⟨s1, s2, s3⟩ := sl
      refine xE_SP_X6_drop c_hs18_ (fun e_M1_ e_hM2_ e_M5_ e_hM6_ e_hM_ => ?_)
      refine SHR_sheet (v := v.toInt.toNat) hS (fun w => ⟨(zb w).2, (sz_b hD2 w).2⟩) (hB _ (by omega)) (fun w k hw => ?_) (fun w hw => ?_) (fun k hk => ?_) (fun i hi => ?_)
      · rw [c_hM_, e_hM_]
        exact ⟨by rw [zupR e_hM6_ (by simp), zupR e_hM2_ (by simp)], by rw [zupN e_hM6_ (fun z => hw (congrArg (fun c : rf => c.2.2) z.1)), zupN e_hM2_ (fun z => hw (congrArg (fun c : rf => c.2.2) z.1))]⟩
      · rw [d_hM_, s1 (66, 0, 0) w (by simp), s1 (67, 0, 0) w (by simp), zupR (c' := (66, 0, 0)) d_hM98_ (by simp), zupN (c' := (66, 0, 0)) d_hM91_ (fun z => hw z.2), zupN (c' := (67, 0, 0)) d_hM98_ (fun z => hw z.2), zupR (c' := (67, 0, 0)) d_hM91_ (by simp)]
        exact ⟨rfl, rfl⟩
      · rw [d_hM_, s2 k hk, zupR d_hM98_ (by simp), zupR d_hM91_ (by simp)]
      · exfalso
        rw [d_hM_, s1 (67, 0, 0) _ (by simp), zupE d_hM98_ rfl rfl] at hi
        omega
    · skip
      omega
    · skip
      omega
    · skip
      obtain rfl : d_j140_ = v.toInt.toNat := by omega
      obtain rfl : d_j147_ = v.toInt.toNat := by omega
      have sl := sheet93d d_hL_93 d_h4_.1
      obtain ⟨s1, s2, s3⟩ := sl
      refine xE_SP_X6_drop c_hs18_ (fun e_M1_ e_hM2_ e_M5_ e_hM6_ e_hM_ => ?_)
      refine SHR_sheet (v := v.toInt.toNat) hS (fun w => ⟨(zb w).2, (sz_b hD2 w).2⟩) (hB _ (by omega)) (fun w k hw => ?_) (fun w hw => ?_) (fun k hk => ?_) (fun i hi => ?_)
      · rw [c_hM_, e_hM_]
        exact ⟨by rw [zupR e_hM6_ (by simp), zupR e_hM2_ (by simp)], by rw [zupN e_hM6_ (fun z => hw (congrArg (fun c : rf => c.2.2) z.1)), zupN e_hM2_ (fun z => hw (congrArg (fun c : rf => c.2.2) z.1))]⟩
      · rw [d_hM_, s1 (66, 0, 0) w (by simp), s1 (67, 0, 0) w (by simp), zupR (c' := (66, 0, 0)) d_hM146_ (by simp), zupN (c' := (66, 0, 0)) d_hM139_ (fun z => hw z.2), zupN (c' := (67, 0, 0)) d_hM146_ (fun z => hw z.2), zupR (c' := (67, 0, 0)) d_hM139_ (by simp)]
        exact ⟨rfl, rfl⟩
      · rw [d_hM_, s2 k hk, zupR d_hM146_ (by simp), zupR d_hM139_ (by simp)]
      · exfalso
        rw [d_hM_, s1 (67, 0, 0) _ (by simp), zupE d_hM146_ rfl rfl] at hi
        omega
    · skip
      omega
    · skip
      omega
    · skip
      omega
    · skip
      omega
  ·
    obtain rfl : c_j23_ = v.toInt.toNat := by omega
    have sv := sw v.toInt.toNat (by omega)
    have zbv := zb v.toInt.toNat
    refine xE_SP_X12_sheet h2 ⟨(fun d_hs5_ d_h4_ => ⟨(fun d_h7_ d_h8_ d_h9_ d_j12_ d_h13_ d_M10_ d_hM11_ d_h16_ d_j19_ d_h20_ d_M17_ d_hM18_ d_v4_93 d_hv0_93 d_hv1_93 d_M_93 d_hL_93 _ d_hF_93 d_h24_ d_hr_ d_hM_ => ?_), (fun d_h7_ => ⟨(fun d_h37_ d_h38_ => ⟨(fun d_h39_ d_h40_ => ⟨(fun d_h41_ d_j44_ d_h45_ d_M42_ d_hM43_ d_h48_ d_j51_ d_h52_ d_M49_ d_hM50_ d_v4_93 d_hv0_93 d_hv1_93 d_M_93 d_hL_93 _ d_hF_93 d_h56_ d_hr_ d_hM_ => ?_), (fun d_h41_ d_M70_ _ d_hF74_ d_r69_ d_hs76_ d_h72_ d_hr_ d_hM_ => ?_)⟩), (fun d_h39_ d_M78_ _ d_hF82_ d_r77_ d_hs84_ d_h80_ d_hr_ d_hM_ => ?_)⟩), (fun d_h37_ => ⟨(fun d_h85_ d_h86_ => ⟨(fun d_h87_ d_h88_ => ⟨(fun d_h89_ d_j92_ d_h93_ d_M90_ d_hM91_ d_h96_ d_j99_ d_h100_ d_M97_ d_hM98_ d_v4_93 d_hv0_93 d_hv1_93 d_M_93 d_hL_93 _ d_hF_93 d_h104_ d_hr_ d_hM_ => ?_), (fun d_h89_ d_M118_ _ d_hF122_ d_r117_ d_hs124_ d_h120_ d_hr_ d_hM_ => ?_)⟩), (fun d_h87_ d_M126_ _ d_hF130_ d_r125_ d_hs132_ d_h128_ d_hr_ d_hM_ => ?_)⟩), (fun d_h85_ => ⟨(fun d_h133_ d_h134_ => ⟨(fun d_h135_ d_h136_ => ⟨(fun d_h137_ d_j140_ d_h141_ d_M138_ d_hM139_ d_h144_ d_j147_ d_h148_ d_M145_ d_hM146_ d_v4_93 d_hv0_93 d_hv1_93 d_M_93 d_hL_93 _ d_hF_93 d_h152_ d_hr_ d_hM_ => ?_), (fun d_h137_ d_M166_ _ d_hF170_ d_r165_ d_hs172_ d_h168_ d_hr_ d_hM_ => ?_)⟩), (fun d_h135_ d_M174_ _ d_hF178_ d_r173_ d_hs180_ d_h176_ d_hr_ d_hM_ => ?_)⟩), (fun d_h133_ d_M182_ _ d_hF186_ d_r181_ d_hs188_ d_h184_ d_hr_ d_hM_ => ?_)⟩)⟩)⟩)⟩), (fun d_hs5_ d_h4_ d_M191_ _ d_hF195_ d_r190_ d_hs197_ d_h193_ d_hr_ d_hM_ => ?_)⟩
    · skip
      obtain rfl : d_j12_ = v.toInt.toNat := by omega
      obtain rfl : d_j19_ = v.toInt.toNat := by omega
      have sl := sheet93 d_hL_93 d_h4_.1
      obtain ⟨s1, s2, s3⟩ := sl
      have bg := x6beginY c_hs32_
      obtain ⟨b1, b2⟩ := bg
      refine SHR_sheet (v := v.toInt.toNat) hS (fun w => ⟨(zb w).2, (sz_b hD2 w).2⟩) (hB _ (by omega)) (fun w k hw => ?_) (fun w hw => ?_) (fun k hk => ?_) (fun i hi => ?_)
      · have ne : ∀ r r2 : Nat, ¬ ((r, 0, w) : rf) = (r2, 0, v.toInt.toNat) := fun r r2 z => hw (congrArg (fun c : rf => c.2.2) z)
        rw [c_hM_]
        exact ⟨b1 _ _ (ne _ _) (ne _ _), b1 _ _ (ne _ _) (ne _ _)⟩
      · rw [d_hM_, s1 (66, 0, 0) w (by simp), s1 (67, 0, 0) w (by simp), zupR (c' := (66, 0, 0)) d_hM18_ (by simp), zupN (c' := (66, 0, 0)) d_hM11_ (fun z => hw z.2), zupN (c' := (67, 0, 0)) d_hM18_ (fun z => hw z.2), zupR (c' := (67, 0, 0)) d_hM11_ (by simp)]
        exact ⟨rfl, rfl⟩
      · rw [d_hM_, s2 k hk, zupR d_hM18_ (by simp), zupR d_hM11_ (by simp)]
      · have z24 := (sz_b hD2 v.toInt.toNat).2
        rw [c_hM_, b2 i (by omega), d_hM_, s3 i (by dsimp only; omega)]
    · skip
      obtain rfl : d_j44_ = v.toInt.toNat := by omega
      obtain rfl : d_j51_ = v.toInt.toNat := by omega
      have sl := sheet93b d_hL_93 d_h4_.1
      obtain ⟨s1, s2, s3⟩ := sl
      have bg := x6beginY c_hs32_
      obtain ⟨b1, b2⟩ := bg
      refine SHR_sheet (v := v.toInt.toNat) hS (fun w => ⟨(zb w).2, (sz_b hD2 w).2⟩) (hB _ (by omega)) (fun w k hw => ?_) (fun w hw => ?_) (fun k hk => ?_) (fun i hi => ?_)
      · have ne : ∀ r r2 : Nat, ¬ ((r, 0, w) : rf) = (r2, 0, v.toInt.toNat) := fun r r2 z => hw (congrArg (fun c : rf => c.2.2) z)
        rw [c_hM_]
        exact ⟨b1 _ _ (ne _ _) (ne _ _), b1 _ _ (ne _ _) (ne _ _)⟩
      · rw [d_hM_, s1 (66, 0, 0) w (by simp), s1 (67, 0, 0) w (by simp), zupR (c' := (66, 0, 0)) d_hM50_ (by simp), zupN (c' := (66, 0, 0)) d_hM43_ (fun z => hw z.2), zupN (c' := (67, 0, 0)) d_hM50_ (fun z => hw z.2), zupR (c' := (67, 0, 0)) d_hM43_ (by simp)]
        exact ⟨rfl, rfl⟩
      · rw [d_hM_, s2 k hk, zupR d_hM50_ (by simp), zupR d_hM43_ (by simp)]
      · have z24 := (sz_b hD2 v.toInt.toNat).2
        rw [c_hM_, b2 i (by omega), d_hM_, s3 i (by dsimp only; omega)]
    · skip
      omega
    · skip
      omega
    · skip
      obtain rfl : d_j92_ = v.toInt.toNat := by omega
      obtain rfl : d_j99_ = v.toInt.toNat := by omega
      have sl := sheet93c d_hL_93 d_h4_.1
      obtain ⟨s1, s2, s3⟩ := sl
      have bg := x6beginY c_hs32_
      obtain ⟨b1, b2⟩ := bg
      refine SHR_sheet (v := v.toInt.toNat) hS (fun w => ⟨(zb w).2, (sz_b hD2 w).2⟩) (hB _ (by omega)) (fun w k hw => ?_) (fun w hw => ?_) (fun k hk => ?_) (fun i hi => ?_)
      · have ne : ∀ r r2 : Nat, ¬ ((r, 0, w) : rf) = (r2, 0, v.toInt.toNat) := fun r r2 z => hw (congrArg (fun c : rf => c.2.2) z)
        rw [c_hM_]
        exact ⟨b1 _ _ (ne _ _) (ne _ _), b1 _ _ (ne _ _) (ne _ _)⟩
      · rw [d_hM_, s1 (66, 0, 0) w (by simp), s1 (67, 0, 0) w (by simp), zupR (c' := (66, 0, 0)) d_hM98_ (by simp), zupN (c' := (66, 0, 0)) d_hM91_ (fun z => hw z.2), zupN (c' := (67, 0, 0)) d_hM98_ (fun z => hw z.2), zupR (c' := (67, 0, 0)) d_hM91_ (by simp)]
        exact ⟨rfl, rfl⟩
      · rw [d_hM_, s2 k hk, zupR d_hM98_ (by simp), zupR d_hM91_ (by simp)]
      · have z24 := (sz_b hD2 v.toInt.toNat).2
        rw [c_hM_, b2 i (by omega), d_hM_, s3 i (by dsimp only; omega)]
    · skip
      omega
    · skip
      omega
    · skip
      obtain rfl : d_j140_ = v.toInt.toNat := by omega
      obtain rfl : d_j147_ = v.toInt.toNat := by omega
      have sl := sheet93d d_hL_93 d_h4_.1
      obtain ⟨s1, s2, s3⟩ := sl
      have bg := x6beginY c_hs32_
      obtain ⟨b1, b2⟩ := bg
      refine SHR_sheet (v := v.toInt.toNat) hS (fun w => ⟨(zb w).2, (sz_b hD2 w).2⟩) (hB _ (by omega)) (fun w k hw => ?_) (fun w hw => ?_) (fun k hk => ?_) (fun i hi => ?_)
      · have ne : ∀ r r2 : Nat, ¬ ((r, 0, w) : rf) = (r2, 0, v.toInt.toNat) := fun r r2 z => hw (congrArg (fun c : rf => c.2.2) z)
        rw [c_hM_]
        exact ⟨b1 _ _ (ne _ _) (ne _ _), b1 _ _ (ne _ _) (ne _ _)⟩
      · rw [d_hM_, s1 (66, 0, 0) w (by simp), s1 (67, 0, 0) w (by simp), zupR (c' := (66, 0, 0)) d_hM146_ (by simp), zupN (c' := (66, 0, 0)) d_hM139_ (fun z => hw z.2), zupN (c' := (67, 0, 0)) d_hM146_ (fun z => hw z.2), zupR (c' := (67, 0, 0)) d_hM139_ (by simp)]
        exact ⟨rfl, rfl⟩
      · rw [d_hM_, s2 k hk, zupR d_hM146_ (by simp), zupR d_hM139_ (by simp)]
      · have z24 := (sz_b hD2 v.toInt.toNat).2
        rw [c_hM_, b2 i (by omega), d_hM_, s3 i (by dsimp only; omega)]
    · skip
      omega
    · skip
      omega
    · skip
      omega
    · skip
      omega
  ·
    refine xE_SP_X12_sheet h2 ⟨(fun d_hs5_ d_h4_ => ⟨(fun d_h7_ d_h8_ d_h9_ d_j12_ d_h13_ d_M10_ d_hM11_ d_h16_ d_j19_ d_h20_ d_M17_ d_hM18_ d_v4_93 d_hv0_93 d_hv1_93 d_M_93 d_hL_93 _ d_hF_93 d_h24_ d_hr_ d_hM_ => ?_), (fun d_h7_ => ⟨(fun d_h37_ d_h38_ => ⟨(fun d_h39_ d_h40_ => ⟨(fun d_h41_ d_j44_ d_h45_ d_M42_ d_hM43_ d_h48_ d_j51_ d_h52_ d_M49_ d_hM50_ d_v4_93 d_hv0_93 d_hv1_93 d_M_93 d_hL_93 _ d_hF_93 d_h56_ d_hr_ d_hM_ => ?_), (fun d_h41_ d_M70_ _ d_hF74_ d_r69_ d_hs76_ d_h72_ d_hr_ d_hM_ => ?_)⟩), (fun d_h39_ d_M78_ _ d_hF82_ d_r77_ d_hs84_ d_h80_ d_hr_ d_hM_ => ?_)⟩), (fun d_h37_ => ⟨(fun d_h85_ d_h86_ => ⟨(fun d_h87_ d_h88_ => ⟨(fun d_h89_ d_j92_ d_h93_ d_M90_ d_hM91_ d_h96_ d_j99_ d_h100_ d_M97_ d_hM98_ d_v4_93 d_hv0_93 d_hv1_93 d_M_93 d_hL_93 _ d_hF_93 d_h104_ d_hr_ d_hM_ => ?_), (fun d_h89_ d_M118_ _ d_hF122_ d_r117_ d_hs124_ d_h120_ d_hr_ d_hM_ => ?_)⟩), (fun d_h87_ d_M126_ _ d_hF130_ d_r125_ d_hs132_ d_h128_ d_hr_ d_hM_ => ?_)⟩), (fun d_h85_ => ⟨(fun d_h133_ d_h134_ => ⟨(fun d_h135_ d_h136_ => ⟨(fun d_h137_ d_j140_ d_h141_ d_M138_ d_hM139_ d_h144_ d_j147_ d_h148_ d_M145_ d_hM146_ d_v4_93 d_hv0_93 d_hv1_93 d_M_93 d_hL_93 _ d_hF_93 d_h152_ d_hr_ d_hM_ => ?_), (fun d_h137_ d_M166_ _ d_hF170_ d_r165_ d_hs172_ d_h168_ d_hr_ d_hM_ => ?_)⟩), (fun d_h135_ d_M174_ _ d_hF178_ d_r173_ d_hs180_ d_h176_ d_hr_ d_hM_ => ?_)⟩), (fun d_h133_ d_M182_ _ d_hF186_ d_r181_ d_hs188_ d_h184_ d_hr_ d_hM_ => ?_)⟩)⟩)⟩)⟩), (fun d_hs5_ d_h4_ d_M191_ _ d_hF195_ d_r190_ d_hs197_ d_h193_ d_hr_ d_hM_ => ?_)⟩
    · skip
      obtain rfl : d_j12_ = v.toInt.toNat := by omega
      obtain rfl : d_j19_ = v.toInt.toNat := by omega
      omega
    · skip
      obtain rfl : d_j44_ = v.toInt.toNat := by omega
      obtain rfl : d_j51_ = v.toInt.toNat := by omega
      omega
    · skip
      exact shE hS c_hF38_ c_hM_ d_hF74_ d_hM_
    · skip
      exact shE hS c_hF38_ c_hM_ d_hF82_ d_hM_
    · skip
      obtain rfl : d_j92_ = v.toInt.toNat := by omega
      obtain rfl : d_j99_ = v.toInt.toNat := by omega
      omega
    · skip
      exact shE hS c_hF38_ c_hM_ d_hF122_ d_hM_
    · skip
      exact shE hS c_hF38_ c_hM_ d_hF130_ d_hM_
    · skip
      obtain rfl : d_j140_ = v.toInt.toNat := by omega
      obtain rfl : d_j147_ = v.toInt.toNat := by omega
      omega
    · skip
      exact shE hS c_hF38_ c_hM_ d_hF170_ d_hM_
    · skip
      exact shE hS c_hF38_ c_hM_ d_hF178_ d_hM_
    · skip
      exact shE hS c_hF38_ c_hM_ d_hF186_ d_hM_
    · skip
      exact shE hS c_hF38_ c_hM_ d_hF195_ d_hM_
  ·
    refine xE_SP_X12_sheet h2 ⟨(fun d_hs5_ d_h4_ => ⟨(fun d_h7_ d_h8_ d_h9_ d_j12_ d_h13_ d_M10_ d_hM11_ d_h16_ d_j19_ d_h20_ d_M17_ d_hM18_ d_v4_93 d_hv0_93 d_hv1_93 d_M_93 d_hL_93 _ d_hF_93 d_h24_ d_hr_ d_hM_ => ?_), (fun d_h7_ => ⟨(fun d_h37_ d_h38_ => ⟨(fun d_h39_ d_h40_ => ⟨(fun d_h41_ d_j44_ d_h45_ d_M42_ d_hM43_ d_h48_ d_j51_ d_h52_ d_M49_ d_hM50_ d_v4_93 d_hv0_93 d_hv1_93 d_M_93 d_hL_93 _ d_hF_93 d_h56_ d_hr_ d_hM_ => ?_), (fun d_h41_ d_M70_ _ d_hF74_ d_r69_ d_hs76_ d_h72_ d_hr_ d_hM_ => ?_)⟩), (fun d_h39_ d_M78_ _ d_hF82_ d_r77_ d_hs84_ d_h80_ d_hr_ d_hM_ => ?_)⟩), (fun d_h37_ => ⟨(fun d_h85_ d_h86_ => ⟨(fun d_h87_ d_h88_ => ⟨(fun d_h89_ d_j92_ d_h93_ d_M90_ d_hM91_ d_h96_ d_j99_ d_h100_ d_M97_ d_hM98_ d_v4_93 d_hv0_93 d_hv1_93 d_M_93 d_hL_93 _ d_hF_93 d_h104_ d_hr_ d_hM_ => ?_), (fun d_h89_ d_M118_ _ d_hF122_ d_r117_ d_hs124_ d_h120_ d_hr_ d_hM_ => ?_)⟩), (fun d_h87_ d_M126_ _ d_hF130_ d_r125_ d_hs132_ d_h128_ d_hr_ d_hM_ => ?_)⟩), (fun d_h85_ => ⟨(fun d_h133_ d_h134_ => ⟨(fun d_h135_ d_h136_ => ⟨(fun d_h137_ d_j140_ d_h141_ d_M138_ d_hM139_ d_h144_ d_j147_ d_h148_ d_M145_ d_hM146_ d_v4_93 d_hv0_93 d_hv1_93 d_M_93 d_hL_93 _ d_hF_93 d_h152_ d_hr_ d_hM_ => ?_), (fun d_h137_ d_M166_ _ d_hF170_ d_r165_ d_hs172_ d_h168_ d_hr_ d_hM_ => ?_)⟩), (fun d_h135_ d_M174_ _ d_hF178_ d_r173_ d_hs180_ d_h176_ d_hr_ d_hM_ => ?_)⟩), (fun d_h133_ d_M182_ _ d_hF186_ d_r181_ d_hs188_ d_h184_ d_hr_ d_hM_ => ?_)⟩)⟩)⟩)⟩), (fun d_hs5_ d_h4_ d_M191_ _ d_hF195_ d_r190_ d_hs197_ d_h193_ d_hr_ d_hM_ => ?_)⟩
    · skip
      obtain rfl : d_j12_ = v.toInt.toNat := by omega
      obtain rfl : d_j19_ = v.toInt.toNat := by omega
      omega
    · skip
      obtain rfl : d_j44_ = v.toInt.toNat := by omega
      obtain rfl : d_j51_ = v.toInt.toNat := by omega
      omega
    · skip
      exact shE hS c_hF46_ c_hM_ d_hF74_ d_hM_
    · skip
      exact shE hS c_hF46_ c_hM_ d_hF82_ d_hM_
    · skip
      obtain rfl : d_j92_ = v.toInt.toNat := by omega
      obtain rfl : d_j99_ = v.toInt.toNat := by omega
      omega
    · skip
      exact shE hS c_hF46_ c_hM_ d_hF122_ d_hM_
    · skip
      exact shE hS c_hF46_ c_hM_ d_hF130_ d_hM_
    · skip
      obtain rfl : d_j140_ = v.toInt.toNat := by omega
      obtain rfl : d_j147_ = v.toInt.toNat := by omega
      omega
    · skip
      exact shE hS c_hF46_ c_hM_ d_hF170_ d_hM_
    · skip
      exact shE hS c_hF46_ c_hM_ d_hF178_ d_hM_
    · skip
      exact shE hS c_hF46_ c_hM_ d_hF186_ d_hM_
    · skip
      exact shE hS c_hF46_ c_hM_ d_hF195_ d_hM_
  ·
    obtain rfl : c_j53_ = v.toInt.toNat := by omega
    have sv := sw v.toInt.toNat (by omega)
    have zbv := zb v.toInt.toNat
    refine xE_SP_X12_sheet h2 ⟨(fun d_hs5_ d_h4_ => ⟨(fun d_h7_ d_h8_ d_h9_ d_j12_ d_h13_ d_M10_ d_hM11_ d_h16_ d_j19_ d_h20_ d_M17_ d_hM18_ d_v4_93 d_hv0_93 d_hv1_93 d_M_93 d_hL_93 _ d_hF_93 d_h24_ d_hr_ d_hM_ => ?_), (fun d_h7_ => ⟨(fun d_h37_ d_h38_ => ⟨(fun d_h39_ d_h40_ => ⟨(fun d_h41_ d_j44_ d_h45_ d_M42_ d_hM43_ d_h48_ d_j51_ d_h52_ d_M49_ d_hM50_ d_v4_93 d_hv0_93 d_hv1_93 d_M_93 d_hL_93 _ d_hF_93 d_h56_ d_hr_ d_hM_ => ?_), (fun d_h41_ d_M70_ _ d_hF74_ d_r69_ d_hs76_ d_h72_ d_hr_ d_hM_ => ?_)⟩), (fun d_h39_ d_M78_ _ d_hF82_ d_r77_ d_hs84_ d_h80_ d_hr_ d_hM_ => ?_)⟩), (fun d_h37_ => ⟨(fun d_h85_ d_h86_ => ⟨(fun d_h87_ d_h88_ => ⟨(fun d_h89_ d_j92_ d_h93_ d_M90_ d_hM91_ d_h96_ d_j99_ d_h100_ d_M97_ d_hM98_ d_v4_93 d_hv0_93 d_hv1_93 d_M_93 d_hL_93 _ d_hF_93 d_h104_ d_hr_ d_hM_ => ?_), (fun d_h89_ d_M118_ _ d_hF122_ d_r117_ d_hs124_ d_h120_ d_hr_ d_hM_ => ?_)⟩), (fun d_h87_ d_M126_ _ d_hF130_ d_r125_ d_hs132_ d_h128_ d_hr_ d_hM_ => ?_)⟩), (fun d_h85_ => ⟨(fun d_h133_ d_h134_ => ⟨(fun d_h135_ d_h136_ => ⟨(fun d_h137_ d_j140_ d_h141_ d_M138_ d_hM139_ d_h144_ d_j147_ d_h148_ d_M145_ d_hM146_ d_v4_93 d_hv0_93 d_hv1_93 d_M_93 d_hL_93 _ d_hF_93 d_h152_ d_hr_ d_hM_ => ?_), (fun d_h137_ d_M166_ _ d_hF170_ d_r165_ d_hs172_ d_h168_ d_hr_ d_hM_ => ?_)⟩), (fun d_h135_ d_M174_ _ d_hF178_ d_r173_ d_hs180_ d_h176_ d_hr_ d_hM_ => ?_)⟩), (fun d_h133_ d_M182_ _ d_hF186_ d_r181_ d_hs188_ d_h184_ d_hr_ d_hM_ => ?_)⟩)⟩)⟩)⟩), (fun d_hs5_ d_h4_ d_M191_ _ d_hF195_ d_r190_ d_hs197_ d_h193_ d_hr_ d_hM_ => ?_)⟩
    · skip
      obtain rfl : d_j12_ = v.toInt.toNat := by omega
      obtain rfl : d_j19_ = v.toInt.toNat := by omega
      have sl := sheet93 d_hL_93 d_h4_.1
      obtain ⟨s1, s2, s3⟩ := sl
      have bg := x6beginY c_hs62_
      obtain ⟨b1, b2⟩ := bg
      refine SHR_sheet (v := v.toInt.toNat) hS (fun w => ⟨(zb w).2, (sz_b hD2 w).2⟩) (hB _ (by omega)) (fun w k hw => ?_) (fun w hw => ?_) (fun k hk => ?_) (fun i hi => ?_)
      · have ne : ∀ r r2 : Nat, ¬ ((r, 0, w) : rf) = (r2, 0, v.toInt.toNat) := fun r r2 z => hw (congrArg (fun c : rf => c.2.2) z)
        rw [c_hM_]
        exact ⟨b1 _ _ (ne _ _) (ne _ _), b1 _ _ (ne _ _) (ne _ _)⟩
      · rw [d_hM_, s1 (66, 0, 0) w (by simp), s1 (67, 0, 0) w (by simp), zupR (c' := (66, 0, 0)) d_hM18_ (by simp), zupN (c' := (66, 0, 0)) d_hM11_ (fun z => hw z.2), zupN (c' := (67, 0, 0)) d_hM18_ (fun z => hw z.2), zupR (c' := (67, 0, 0)) d_hM11_ (by simp)]
        exact ⟨rfl, rfl⟩
      · rw [d_hM_, s2 k hk, zupR d_hM18_ (by simp), zupR d_hM11_ (by simp)]
      · have z24 := (sz_b hD2 v.toInt.toNat).2
        rw [c_hM_, b2 i (by omega), d_hM_, s3 i (by dsimp only; omega)]
    · skip
      obtain rfl : d_j44_ = v.toInt.toNat := by omega
      obtain rfl : d_j51_ = v.toInt.toNat := by omega
      have sl := sheet93b d_hL_93 d_h4_.1
      obtain ⟨s1, s2, s3⟩ := sl
      have bg := x6beginY c_hs62_
      obtain ⟨b1, b2⟩ := bg
      refine SHR_sheet (v := v.toInt.toNat) hS (fun w => ⟨(zb w).2, (sz_b hD2 w).2⟩) (hB _ (by omega)) (fun w k hw => ?_) (fun w hw => ?_) (fun k hk => ?_) (fun i hi => ?_)
      · have ne : ∀ r r2 : Nat, ¬ ((r, 0, w) : rf) = (r2, 0, v.toInt.toNat) := fun r r2 z => hw (congrArg (fun c : rf => c.2.2) z)
        rw [c_hM_]
        exact ⟨b1 _ _ (ne _ _) (ne _ _), b1 _ _ (ne _ _) (ne _ _)⟩
      · rw [d_hM_, s1 (66, 0, 0) w (by simp), s1 (67, 0, 0) w (by simp), zupR (c' := (66, 0, 0)) d_hM50_ (by simp), zupN (c' := (66, 0, 0)) d_hM43_ (fun z => hw z.2), zupN (c' := (67, 0, 0)) d_hM50_ (fun z => hw z.2), zupR (c' := (67, 0, 0)) d_hM43_ (by simp)]
        exact ⟨rfl, rfl⟩
      · rw [d_hM_, s2 k hk, zupR d_hM50_ (by simp), zupR d_hM43_ (by simp)]
      · have z24 := (sz_b hD2 v.toInt.toNat).2
        rw [c_hM_, b2 i (by omega), d_hM_, s3 i (by dsimp only; omega)]
    · skip
      omega
    · skip
      omega
    · skip
      obtain rfl : d_j92_ = v.toInt.toNat := by omega
      obtain rfl : d_j99_ = v.toInt.toNat := by omega
      have sl := sheet93c d_hL_93 d_h4_.1
      obtain ⟨s1, s2, s3⟩ := sl
      have bg := x6beginY c_hs62_
      obtain ⟨b1, b2⟩ := bg
      refine SHR_sheet (v := v.toInt.toNat) hS (fun w => ⟨(zb w).2, (sz_b hD2 w).2⟩) (hB _ (by omega)) (fun w k hw => ?_) (fun w hw => ?_) (fun k hk => ?_) (fun i hi => ?_)
      · have ne : ∀ r r2 : Nat, ¬ ((r, 0, w) : rf) = (r2, 0, v.toInt.toNat) := fun r r2 z => hw (congrArg (fun c : rf => c.2.2) z)
        rw [c_hM_]
        exact ⟨b1 _ _ (ne _ _) (ne _ _), b1 _ _ (ne _ _) (ne _ _)⟩
      · rw [d_hM_, s1 (66, 0, 0) w (by simp), s1 (67, 0, 0) w (by simp), zupR (c' := (66, 0, 0)) d_hM98_ (by simp), zupN (c' := (66, 0, 0)) d_hM91_ (fun z => hw z.2), zupN (c' := (67, 0, 0)) d_hM98_ (fun z => hw z.2), zupR (c' := (67, 0, 0)) d_hM91_ (by simp)]
        exact ⟨rfl, rfl⟩
      · rw [d_hM_, s2 k hk, zupR d_hM98_ (by simp), zupR d_hM91_ (by simp)]
      · have z24 := (sz_b hD2 v.toInt.toNat).2
        rw [c_hM_, b2 i (by omega), d_hM_, s3 i (by dsimp only; omega)]
    · skip
      omega
    · skip
      omega
    · skip
      obtain rfl : d_j140_ = v.toInt.toNat := by omega
      obtain rfl : d_j147_ = v.toInt.toNat := by omega
      have sl := sheet93d d_hL_93 d_h4_.1
      obtain ⟨s1, s2, s3⟩ := sl
      have bg := x6beginY c_hs62_
      obtain ⟨b1, b2⟩ := bg
      refine SHR_sheet (v := v.toInt.toNat) hS (fun w => ⟨(zb w).2, (sz_b hD2 w).2⟩) (hB _ (by omega)) (fun w k hw => ?_) (fun w hw => ?_) (fun k hk => ?_) (fun i hi => ?_)
      · have ne : ∀ r r2 : Nat, ¬ ((r, 0, w) : rf) = (r2, 0, v.toInt.toNat) := fun r r2 z => hw (congrArg (fun c : rf => c.2.2) z)
        rw [c_hM_]
        exact ⟨b1 _ _ (ne _ _) (ne _ _), b1 _ _ (ne _ _) (ne _ _)⟩
      · rw [d_hM_, s1 (66, 0, 0) w (by simp), s1 (67, 0, 0) w (by simp), zupR (c' := (66, 0, 0)) d_hM146_ (by simp), zupN (c' := (66, 0, 0)) d_hM139_ (fun z => hw z.2), zupN (c' := (67, 0, 0)) d_hM146_ (fun z => hw z.2), zupR (c' := (67, 0, 0)) d_hM139_ (by simp)]
        exact ⟨rfl, rfl⟩
      · rw [d_hM_, s2 k hk, zupR d_hM146_ (by simp), zupR d_hM139_ (by simp)]
      · have z24 := (sz_b hD2 v.toInt.toNat).2
        rw [c_hM_, b2 i (by omega), d_hM_, s3 i (by dsimp only; omega)]
    · skip
      omega
    · skip
      omega
    · skip
      omega
    · skip
      omega
  ·
    refine xE_SP_X12_sheet h2 ⟨(fun d_hs5_ d_h4_ => ⟨(fun d_h7_ d_h8_ d_h9_ d_j12_ d_h13_ d_M10_ d_hM11_ d_h16_ d_j19_ d_h20_ d_M17_ d_hM18_ d_v4_93 d_hv0_93 d_hv1_93 d_M_93 d_hL_93 _ d_hF_93 d_h24_ d_hr_ d_hM_ => ?_), (fun d_h7_ => ⟨(fun d_h37_ d_h38_ => ⟨(fun d_h39_ d_h40_ => ⟨(fun d_h41_ d_j44_ d_h45_ d_M42_ d_hM43_ d_h48_ d_j51_ d_h52_ d_M49_ d_hM50_ d_v4_93 d_hv0_93 d_hv1_93 d_M_93 d_hL_93 _ d_hF_93 d_h56_ d_hr_ d_hM_ => ?_), (fun d_h41_ d_M70_ _ d_hF74_ d_r69_ d_hs76_ d_h72_ d_hr_ d_hM_ => ?_)⟩), (fun d_h39_ d_M78_ _ d_hF82_ d_r77_ d_hs84_ d_h80_ d_hr_ d_hM_ => ?_)⟩), (fun d_h37_ => ⟨(fun d_h85_ d_h86_ => ⟨(fun d_h87_ d_h88_ => ⟨(fun d_h89_ d_j92_ d_h93_ d_M90_ d_hM91_ d_h96_ d_j99_ d_h100_ d_M97_ d_hM98_ d_v4_93 d_hv0_93 d_hv1_93 d_M_93 d_hL_93 _ d_hF_93 d_h104_ d_hr_ d_hM_ => ?_), (fun d_h89_ d_M118_ _ d_hF122_ d_r117_ d_hs124_ d_h120_ d_hr_ d_hM_ => ?_)⟩), (fun d_h87_ d_M126_ _ d_hF130_ d_r125_ d_hs132_ d_h128_ d_hr_ d_hM_ => ?_)⟩), (fun d_h85_ => ⟨(fun d_h133_ d_h134_ => ⟨(fun d_h135_ d_h136_ => ⟨(fun d_h137_ d_j140_ d_h141_ d_M138_ d_hM139_ d_h144_ d_j147_ d_h148_ d_M145_ d_hM146_ d_v4_93 d_hv0_93 d_hv1_93 d_M_93 d_hL_93 _ d_hF_93 d_h152_ d_hr_ d_hM_ => ?_), (fun d_h137_ d_M166_ _ d_hF170_ d_r165_ d_hs172_ d_h168_ d_hr_ d_hM_ => ?_)⟩), (fun d_h135_ d_M174_ _ d_hF178_ d_r173_ d_hs180_ d_h176_ d_hr_ d_hM_ => ?_)⟩), (fun d_h133_ d_M182_ _ d_hF186_ d_r181_ d_hs188_ d_h184_ d_hr_ d_hM_ => ?_)⟩)⟩)⟩)⟩), (fun d_hs5_ d_h4_ d_M191_ _ d_hF195_ d_r190_ d_hs197_ d_h193_ d_hr_ d_hM_ => ?_)⟩
    · skip
      obtain rfl : d_j12_ = v.toInt.toNat := by omega
      obtain rfl : d_j19_ = v.toInt.toNat := by omega
      omega
    · skip
      obtain rfl : d_j44_ = v.toInt.toNat := by omega
      obtain rfl : d_j51_ = v.toInt.toNat := by omega
      omega
    · skip
      exact shE hS c_hF68_ c_hM_ d_hF74_ d_hM_
    · skip
      exact shE hS c_hF68_ c_hM_ d_hF82_ d_hM_
    · skip
      obtain rfl : d_j92_ = v.toInt.toNat := by omega
      obtain rfl : d_j99_ = v.toInt.toNat := by omega
      omega
    · skip
      exact shE hS c_hF68_ c_hM_ d_hF122_ d_hM_
    · skip
      exact shE hS c_hF68_ c_hM_ d_hF130_ d_hM_
    · skip
      obtain rfl : d_j140_ = v.toInt.toNat := by omega
      obtain rfl : d_j147_ = v.toInt.toNat := by omega
      omega
    · skip
      exact shE hS c_hF68_ c_hM_ d_hF170_ d_hM_
    · skip
      exact shE hS c_hF68_ c_hM_ d_hF178_ d_hM_
    · skip
      exact shE hS c_hF68_ c_hM_ d_hF186_ d_hM_
    · skip
      exact shE hS c_hF68_ c_hM_ d_hF195_ d_hM_
  ·
    refine xE_SP_X12_sheet h2 ⟨(fun d_hs5_ d_h4_ => ⟨(fun d_h7_ d_h8_ d_h9_ d_j12_ d_h13_ d_M10_ d_hM11_ d_h16_ d_j19_ d_h20_ d_M17_ d_hM18_ d_v4_93 d_hv0_93 d_hv1_93 d_M_93 d_hL_93 _ d_hF_93 d_h24_ d_hr_ d_hM_ => ?_), (fun d_h7_ => ⟨(fun d_h37_ d_h38_ => ⟨(fun d_h39_ d_h40_ => ⟨(fun d_h41_ d_j44_ d_h45_ d_M42_ d_hM43_ d_h48_ d_j51_ d_h52_ d_M49_ d_hM50_ d_v4_93 d_hv0_93 d_hv1_93 d_M_93 d_hL_93 _ d_hF_93 d_h56_ d_hr_ d_hM_ => ?_), (fun d_h41_ d_M70_ _ d_hF74_ d_r69_ d_hs76_ d_h72_ d_hr_ d_hM_ => ?_)⟩), (fun d_h39_ d_M78_ _ d_hF82_ d_r77_ d_hs84_ d_h80_ d_hr_ d_hM_ => ?_)⟩), (fun d_h37_ => ⟨(fun d_h85_ d_h86_ => ⟨(fun d_h87_ d_h88_ => ⟨(fun d_h89_ d_j92_ d_h93_ d_M90_ d_hM91_ d_h96_ d_j99_ d_h100_ d_M97_ d_hM98_ d_v4_93 d_hv0_93 d_hv1_93 d_M_93 d_hL_93 _ d_hF_93 d_h104_ d_hr_ d_hM_ => ?_), (fun d_h89_ d_M118_ _ d_hF122_ d_r117_ d_hs124_ d_h120_ d_hr_ d_hM_ => ?_)⟩), (fun d_h87_ d_M126_ _ d_hF130_ d_r125_ d_hs132_ d_h128_ d_hr_ d_hM_ => ?_)⟩), (fun d_h85_ => ⟨(fun d_h133_ d_h134_ => ⟨(fun d_h135_ d_h136_ => ⟨(fun d_h137_ d_j140_ d_h141_ d_M138_ d_hM139_ d_h144_ d_j147_ d_h148_ d_M145_ d_hM146_ d_v4_93 d_hv0_93 d_hv1_93 d_M_93 d_hL_93 _ d_hF_93 d_h152_ d_hr_ d_hM_ => ?_), (fun d_h137_ d_M166_ _ d_hF170_ d_r165_ d_hs172_ d_h168_ d_hr_ d_hM_ => ?_)⟩), (fun d_h135_ d_M174_ _ d_hF178_ d_r173_ d_hs180_ d_h176_ d_hr_ d_hM_ => ?_)⟩), (fun d_h133_ d_M182_ _ d_hF186_ d_r181_ d_hs188_ d_h184_ d_hr_ d_hM_ => ?_)⟩)⟩)⟩)⟩), (fun d_hs5_ d_h4_ d_M191_ _ d_hF195_ d_r190_ d_hs197_ d_h193_ d_hr_ d_hM_ => ?_)⟩
    · skip
      obtain rfl : d_j12_ = v.toInt.toNat := by omega
      obtain rfl : d_j19_ = v.toInt.toNat := by omega
      omega
    · skip
      obtain rfl : d_j44_ = v.toInt.toNat := by omega
      obtain rfl : d_j51_ = v.toInt.toNat := by omega
      omega
    · skip
      exact shE hS c_hF76_ c_hM_ d_hF74_ d_hM_
    · skip
      exact shE hS c_hF76_ c_hM_ d_hF82_ d_hM_
    · skip
      obtain rfl : d_j92_ = v.toInt.toNat := by omega
      obtain rfl : d_j99_ = v.toInt.toNat := by omega
      omega
    · skip
      exact shE hS c_hF76_ c_hM_ d_hF122_ d_hM_
    · skip
      exact shE hS c_hF76_ c_hM_ d_hF130_ d_hM_
    · skip
      obtain rfl : d_j140_ = v.toInt.toNat := by omega
      obtain rfl : d_j147_ = v.toInt.toNat := by omega
      omega
    · skip
      exact shE hS c_hF76_ c_hM_ d_hF170_ d_hM_
    · skip
      exact shE hS c_hF76_ c_hM_ d_hF178_ d_hM_
    · skip
      exact shE hS c_hF76_ c_hM_ d_hF186_ d_hM_
    · skip
      exact shE hS c_hF76_ c_hM_ d_hF195_ d_hM_
  ·
    obtain rfl : c_j83_ = v.toInt.toNat := by omega
    have sv := sw v.toInt.toNat (by omega)
    have zbv := zb v.toInt.toNat
    refine xE_SP_X12_sheet h2 ⟨(fun d_hs5_ d_h4_ => ⟨(fun d_h7_ d_h8_ d_h9_ d_j12_ d_h13_ d_M10_ d_hM11_ d_h16_ d_j19_ d_h20_ d_M17_ d_hM18_ d_v4_93 d_hv0_93 d_hv1_93 d_M_93 d_hL_93 _ d_hF_93 d_h24_ d_hr_ d_hM_ => ?_), (fun d_h7_ => ⟨(fun d_h37_ d_h38_ => ⟨(fun d_h39_ d_h40_ => ⟨(fun d_h41_ d_j44_ d_h45_ d_M42_ d_hM43_ d_h48_ d_j51_ d_h52_ d_M49_ d_hM50_ d_v4_93 d_hv0_93 d_hv1_93 d_M_93 d_hL_93 _ d_hF_93 d_h56_ d_hr_ d_hM_ => ?_), (fun d_h41_ d_M70_ _ d_hF74_ d_r69_ d_hs76_ d_h72_ d_hr_ d_hM_ => ?_)⟩), (fun d_h39_ d_M78_ _ d_hF82_ d_r77_ d_hs84_ d_h80_ d_hr_ d_hM_ => ?_)⟩), (fun d_h37_ => ⟨(fun d_h85_ d_h86_ => ⟨(fun d_h87_ d_h88_ => ⟨(fun d_h89_ d_j92_ d_h93_ d_M90_ d_hM91_ d_h96_ d_j99_ d_h100_ d_M97_ d_hM98_ d_v4_93 d_hv0_93 d_hv1_93 d_M_93 d_hL_93 _ d_hF_93 d_h104_ d_hr_ d_hM_ => ?_), (fun d_h89_ d_M118_ _ d_hF122_ d_r117_ d_hs124_ d_h120_ d_hr_ d_hM_ => ?_)⟩), (fun d_h87_ d_M126_ _ d_hF130_ d_r125_ d_hs132_ d_h128_ d_hr_ d_hM_ => ?_)⟩), (fun d_h85_ => ⟨(fun d_h133_ d_h134_ => ⟨(fun d_h135_ d_h136_ => ⟨(fun d_h137_ d_j140_ d_h141_ d_M138_ d_hM139_ d_h144_ d_j147_ d_h148_ d_M145_ d_hM146_ d_v4_93 d_hv0_93 d_hv1_93 d_M_93 d_hL_93 _ d_hF_93 d_h152_ d_hr_ d_hM_ => ?_), (fun d_h137_ d_M166_ _ d_hF170_ d_r165_ d_hs172_ d_h168_ d_hr_ d_hM_ => ?_)⟩), (fun d_h135_ d_M174_ _ d_hF178_ d_r173_ d_hs180_ d_h176_ d_hr_ d_hM_ => ?_)⟩), (fun d_h133_ d_M182_ _ d_hF186_ d_r181_ d_hs188_ d_h184_ d_hr_ d_hM_ => ?_)⟩)⟩)⟩)⟩), (fun d_hs5_ d_h4_ d_M191_ _ d_hF195_ d_r190_ d_hs197_ d_h193_ d_hr_ d_hM_ => ?_)⟩
    · skip
      obtain rfl : d_j12_ = v.toInt.toNat := by omega
      obtain rfl : d_j19_ = v.toInt.toNat := by omega
      have sl := sheet93 d_hL_93 d_h4_.1
      obtain ⟨s1, s2, s3⟩ := sl
      have bg := x6beginY c_hs92_
      obtain ⟨b1, b2⟩ := bg
      refine SHR_sheet (v := v.toInt.toNat) hS (fun w => ⟨(zb w).2, (sz_b hD2 w).2⟩) (hB _ (by omega)) (fun w k hw => ?_) (fun w hw => ?_) (fun k hk => ?_) (fun i hi => ?_)
      · have ne : ∀ r r2 : Nat, ¬ ((r, 0, w) : rf) = (r2, 0, v.toInt.toNat) := fun r r2 z => hw (congrArg (fun c : rf => c.2.2) z)
        rw [c_hM_]
        exact ⟨b1 _ _ (ne _ _) (ne _ _), b1 _ _ (ne _ _) (ne _ _)⟩
      · rw [d_hM_, s1 (66, 0, 0) w (by simp), s1 (67, 0, 0) w (by simp), zupR (c' := (66, 0, 0)) d_hM18_ (by simp), zupN (c' := (66, 0, 0)) d_hM11_ (fun z => hw z.2), zupN (c' := (67, 0, 0)) d_hM18_ (fun z => hw z.2), zupR (c' := (67, 0, 0)) d_hM11_ (by simp)]
        exact ⟨rfl, rfl⟩
      · rw [d_hM_, s2 k hk, zupR d_hM18_ (by simp), zupR d_hM11_ (by simp)]
      · have z24 := (sz_b hD2 v.toInt.toNat).2
        rw [c_hM_, b2 i (by omega), d_hM_, s3 i (by dsimp only; omega)]
    · skip
      obtain rfl : d_j44_ = v.toInt.toNat := by omega
      obtain rfl : d_j51_ = v.toInt.toNat := by omega
      have sl := sheet93b d_hL_93 d_h4_.1
      obtain ⟨s1, s2, s3⟩ := sl
      have bg := x6beginY c_hs92_
      obtain ⟨b1, b2⟩ := bg
      refine SHR_sheet (v := v.toInt.toNat) hS (fun w => ⟨(zb w).2, (sz_b hD2 w).2⟩) (hB _ (by omega)) (fun w k hw => ?_) (fun w hw => ?_) (fun k hk => ?_) (fun i hi => ?_)
      · have ne : ∀ r r2 : Nat, ¬ ((r, 0, w) : rf) = (r2, 0, v.toInt.toNat) := fun r r2 z => hw (congrArg (fun c : rf => c.2.2) z)
        rw [c_hM_]
        exact ⟨b1 _ _ (ne _ _) (ne _ _), b1 _ _ (ne _ _) (ne _ _)⟩
      · rw [d_hM_, s1 (66, 0, 0) w (by simp), s1 (67, 0, 0) w (by simp), zupR (c' := (66, 0, 0)) d_hM50_ (by simp), zupN (c' := (66, 0, 0)) d_hM43_ (fun z => hw z.2), zupN (c' := (67, 0, 0)) d_hM50_ (fun z => hw z.2), zupR (c' := (67, 0, 0)) d_hM43_ (by simp)]
        exact ⟨rfl, rfl⟩
      · rw [d_hM_, s2 k hk, zupR d_hM50_ (by simp), zupR d_hM43_ (by simp)]
      · have z24 := (sz_b hD2 v.toInt.toNat).2
        rw [c_hM_, b2 i (by omega), d_hM_, s3 i (by dsimp only; omega)]
    · skip
      omega
    · skip
      omega
    · skip
      obtain rfl : d_j92_ = v.toInt.toNat := by omega
      obtain rfl : d_j99_ = v.toInt.toNat := by omega
      have sl := sheet93c d_hL_93 d_h4_.1
      obtain ⟨s1, s2, s3⟩ := sl
      have bg := x6beginY c_hs92_
      obtain ⟨b1, b2⟩ := bg
      refine SHR_sheet (v := v.toInt.toNat) hS (fun w => ⟨(zb w).2, (sz_b hD2 w).2⟩) (hB _ (by omega)) (fun w k hw => ?_) (fun w hw => ?_) (fun k hk => ?_) (fun i hi => ?_)
      · have ne : ∀ r r2 : Nat, ¬ ((r, 0, w) : rf) = (r2, 0, v.toInt.toNat) := fun r r2 z => hw (congrArg (fun c : rf => c.2.2) z)
        rw [c_hM_]
        exact ⟨b1 _ _ (ne _ _) (ne _ _), b1 _ _ (ne _ _) (ne _ _)⟩
      · rw [d_hM_, s1 (66, 0, 0) w (by simp), s1 (67, 0, 0) w (by simp), zupR (c' := (66, 0, 0)) d_hM98_ (by simp), zupN (c' := (66, 0, 0)) d_hM91_ (fun z => hw z.2), zupN (c' := (67, 0, 0)) d_hM98_ (fun z => hw z.2), zupR (c' := (67, 0, 0)) d_hM91_ (by simp)]
        exact ⟨rfl, rfl⟩
      · rw [d_hM_, s2 k hk, zupR d_hM98_ (by simp), zupR d_hM91_ (by simp)]
      · have z24 := (sz_b hD2 v.toInt.toNat).2
        rw [c_hM_, b2 i (by omega), d_hM_, s3 i (by dsimp only; omega)]
    · skip
      omega
    · skip
      omega
    · skip
      obtain rfl : d_j140_ = v.toInt.toNat := by omega
      obtain rfl : d_j147_ = v.toInt.toNat := by omega
      have sl := sheet93d d_hL_93 d_h4_.1
      obtain ⟨s1, s2, s3⟩ := sl
      have bg := x6beginY c_hs92_
      obtain ⟨b1, b2⟩ := bg
      refine SHR_sheet (v := v.toInt.toNat) hS (fun w => ⟨(zb w).2, (sz_b hD2 w).2⟩) (hB _ (by omega)) (fun w k hw => ?_) (fun w hw => ?_) (fun k hk => ?_) (fun i hi => ?_)
      · have ne : ∀ r r2 : Nat, ¬ ((r, 0, w) : rf) = (r2, 0, v.toInt.toNat) := fun r r2 z => hw (congrArg (fun c : rf => c.2.2) z)
        rw [c_hM_]
        exact ⟨b1 _ _ (ne _ _) (ne _ _), b1 _ _ (ne _ _) (ne _ _)⟩
      · rw [d_hM_, s1 (66, 0, 0) w (by simp), s1 (67, 0, 0) w (by simp), zupR (c' := (66, 0, 0)) d_hM146_ (by simp), zupN (c' := (66, 0, 0)) d_hM139_ (fun z => hw z.2), zupN (c' := (67, 0, 0)) d_hM146_ (fun z => hw z.2), zupR (c' := (67, 0, 0)) d_hM139_ (by simp)]
        exact ⟨rfl, rfl⟩
      · rw [d_hM_, s2 k hk, zupR d_hM146_ (by simp), zupR d_hM139_ (by simp)]
      · have z24 := (sz_b hD2 v.toInt.toNat).2
        rw [c_hM_, b2 i (by omega), d_hM_, s3 i (by dsimp only; omega)]
    · skip
      omega
    · skip
      omega
    · skip
      omega
    · skip
      omega
  ·
    refine xE_SP_X12_sheet h2 ⟨(fun d_hs5_ d_h4_ => ⟨(fun d_h7_ d_h8_ d_h9_ d_j12_ d_h13_ d_M10_ d_hM11_ d_h16_ d_j19_ d_h20_ d_M17_ d_hM18_ d_v4_93 d_hv0_93 d_hv1_93 d_M_93 d_hL_93 _ d_hF_93 d_h24_ d_hr_ d_hM_ => ?_), (fun d_h7_ => ⟨(fun d_h37_ d_h38_ => ⟨(fun d_h39_ d_h40_ => ⟨(fun d_h41_ d_j44_ d_h45_ d_M42_ d_hM43_ d_h48_ d_j51_ d_h52_ d_M49_ d_hM50_ d_v4_93 d_hv0_93 d_hv1_93 d_M_93 d_hL_93 _ d_hF_93 d_h56_ d_hr_ d_hM_ => ?_), (fun d_h41_ d_M70_ _ d_hF74_ d_r69_ d_hs76_ d_h72_ d_hr_ d_hM_ => ?_)⟩), (fun d_h39_ d_M78_ _ d_hF82_ d_r77_ d_hs84_ d_h80_ d_hr_ d_hM_ => ?_)⟩), (fun d_h37_ => ⟨(fun d_h85_ d_h86_ => ⟨(fun d_h87_ d_h88_ => ⟨(fun d_h89_ d_j92_ d_h93_ d_M90_ d_hM91_ d_h96_ d_j99_ d_h100_ d_M97_ d_hM98_ d_v4_93 d_hv0_93 d_hv1_93 d_M_93 d_hL_93 _ d_hF_93 d_h104_ d_hr_ d_hM_ => ?_), (fun d_h89_ d_M118_ _ d_hF122_ d_r117_ d_hs124_ d_h120_ d_hr_ d_hM_ => ?_)⟩), (fun d_h87_ d_M126_ _ d_hF130_ d_r125_ d_hs132_ d_h128_ d_hr_ d_hM_ => ?_)⟩), (fun d_h85_ => ⟨(fun d_h133_ d_h134_ => ⟨(fun d_h135_ d_h136_ => ⟨(fun d_h137_ d_j140_ d_h141_ d_M138_ d_hM139_ d_h144_ d_j147_ d_h148_ d_M145_ d_hM146_ d_v4_93 d_hv0_93 d_hv1_93 d_M_93 d_hL_93 _ d_hF_93 d_h152_ d_hr_ d_hM_ => ?_), (fun d_h137_ d_M166_ _ d_hF170_ d_r165_ d_hs172_ d_h168_ d_hr_ d_hM_ => ?_)⟩), (fun d_h135_ d_M174_ _ d_hF178_ d_r173_ d_hs180_ d_h176_ d_hr_ d_hM_ => ?_)⟩), (fun d_h133_ d_M182_ _ d_hF186_ d_r181_ d_hs188_ d_h184_ d_hr_ d_hM_ => ?_)⟩)⟩)⟩)⟩), (fun d_hs5_ d_h4_ d_M191_ _ d_hF195_ d_r190_ d_hs197_ d_h193_ d_hr_ d_hM_ => ?_)⟩
    · skip
      obtain rfl : d_j12_ = v.toInt.toNat := by omega
      obtain rfl : d_j19_ = v.toInt.toNat := by omega
      omega
    · skip
      obtain rfl : d_j44_ = v.toInt.toNat := by omega
      obtain rfl : d_j51_ = v.toInt.toNat := by omega
      omega
    · skip
      exact shE hS c_hF98_ c_hM_ d_hF74_ d_hM_
    · skip
      exact shE hS c_hF98_ c_hM_ d_hF82_ d_hM_
    · skip
      obtain rfl : d_j92_ = v.toInt.toNat := by omega
      obtain rfl : d_j99_ = v.toInt.toNat := by omega
      omega
    · skip
      exact shE hS c_hF98_ c_hM_ d_hF122_ d_hM_
    · skip
      exact shE hS c_hF98_ c_hM_ d_hF130_ d_hM_
    · skip
      obtain rfl : d_j140_ = v.toInt.toNat := by omega
      obtain rfl : d_j147_ = v.toInt.toNat := by omega
      omega
    · skip
      exact shE hS c_hF98_ c_hM_ d_hF170_ d_hM_
    · skip
      exact shE hS c_hF98_ c_hM_ d_hF178_ d_hM_
    · skip
      exact shE hS c_hF98_ c_hM_ d_hF186_ d_hM_
    · skip
      exact shE hS c_hF98_ c_hM_ d_hF195_ d_hM_
  ·
    refine xE_SP_X12_sheet h2 ⟨(fun d_hs5_ d_h4_ => ⟨(fun d_h7_ d_h8_ d_h9_ d_j12_ d_h13_ d_M10_ d_hM11_ d_h16_ d_j19_ d_h20_ d_M17_ d_hM18_ d_v4_93 d_hv0_93 d_hv1_93 d_M_93 d_hL_93 _ d_hF_93 d_h24_ d_hr_ d_hM_ => ?_), (fun d_h7_ => ⟨(fun d_h37_ d_h38_ => ⟨(fun d_h39_ d_h40_ => ⟨(fun d_h41_ d_j44_ d_h45_ d_M42_ d_hM43_ d_h48_ d_j51_ d_h52_ d_M49_ d_hM50_ d_v4_93 d_hv0_93 d_hv1_93 d_M_93 d_hL_93 _ d_hF_93 d_h56_ d_hr_ d_hM_ => ?_), (fun d_h41_ d_M70_ _ d_hF74_ d_r69_ d_hs76_ d_h72_ d_hr_ d_hM_ => ?_)⟩), (fun d_h39_ d_M78_ _ d_hF82_ d_r77_ d_hs84_ d_h80_ d_hr_ d_hM_ => ?_)⟩), (fun d_h37_ => ⟨(fun d_h85_ d_h86_ => ⟨(fun d_h87_ d_h88_ => ⟨(fun d_h89_ d_j92_ d_h93_ d_M90_ d_hM91_ d_h96_ d_j99_ d_h100_ d_M97_ d_hM98_ d_v4_93 d_hv0_93 d_hv1_93 d_M_93 d_hL_93 _ d_hF_93 d_h104_ d_hr_ d_hM_ => ?_), (fun d_h89_ d_M118_ _ d_hF122_ d_r117_ d_hs124_ d_h120_ d_hr_ d_hM_ => ?_)⟩), (fun d_h87_ d_M126_ _ d_hF130_ d_r125_ d_hs132_ d_h128_ d_hr_ d_hM_ => ?_)⟩), (fun d_h85_ => ⟨(fun d_h133_ d_h134_ => ⟨(fun d_h135_ d_h136_ => ⟨(fun d_h137_ d_j140_ d_h141_ d_M138_ d_hM139_ d_h144_ d_j147_ d_h148_ d_M145_ d_hM146_ d_v4_93 d_hv0_93 d_hv1_93 d_M_93 d_hL_93 _ d_hF_93 d_h152_ d_hr_ d_hM_ => ?_), (fun d_h137_ d_M166_ _ d_hF170_ d_r165_ d_hs172_ d_h168_ d_hr_ d_hM_ => ?_)⟩), (fun d_h135_ d_M174_ _ d_hF178_ d_r173_ d_hs180_ d_h176_ d_hr_ d_hM_ => ?_)⟩), (fun d_h133_ d_M182_ _ d_hF186_ d_r181_ d_hs188_ d_h184_ d_hr_ d_hM_ => ?_)⟩)⟩)⟩)⟩), (fun d_hs5_ d_h4_ d_M191_ _ d_hF195_ d_r190_ d_hs197_ d_h193_ d_hr_ d_hM_ => ?_)⟩
    · skip
      obtain rfl : d_j12_ = v.toInt.toNat := by omega
      obtain rfl : d_j19_ = v.toInt.toNat := by omega
      omega
    · skip
      obtain rfl : d_j44_ = v.toInt.toNat := by omega
      obtain rfl : d_j51_ = v.toInt.toNat := by omega
      omega
    · skip
      exact shE hS c_hF106_ c_hM_ d_hF74_ d_hM_
    · skip
      exact shE hS c_hF106_ c_hM_ d_hF82_ d_hM_
    · skip
      obtain rfl : d_j92_ = v.toInt.toNat := by omega
      obtain rfl : d_j99_ = v.toInt.toNat := by omega
      omega
    · skip
      exact shE hS c_hF106_ c_hM_ d_hF122_ d_hM_
    · skip
      exact shE hS c_hF106_ c_hM_ d_hF130_ d_hM_
    · skip
      obtain rfl : d_j140_ = v.toInt.toNat := by omega
      obtain rfl : d_j147_ = v.toInt.toNat := by omega
      omega
    · skip
      exact shE hS c_hF106_ c_hM_ d_hF170_ d_hM_
    · skip
      exact shE hS c_hF106_ c_hM_ d_hF178_ d_hM_
    · skip
      exact shE hS c_hF106_ c_hM_ d_hF186_ d_hM_
    · skip
      exact shE hS c_hF106_ c_hM_ d_hF195_ d_hM_
  ·
    refine xE_SP_X12_sheet h2 ⟨(fun d_hs5_ d_h4_ => ⟨(fun d_h7_ d_h8_ d_h9_ d_j12_ d_h13_ d_M10_ d_hM11_ d_h16_ d_j19_ d_h20_ d_M17_ d_hM18_ d_v4_93 d_hv0_93 d_hv1_93 d_M_93 d_hL_93 _ d_hF_93 d_h24_ d_hr_ d_hM_ => ?_), (fun d_h7_ => ⟨(fun d_h37_ d_h38_ => ⟨(fun d_h39_ d_h40_ => ⟨(fun d_h41_ d_j44_ d_h45_ d_M42_ d_hM43_ d_h48_ d_j51_ d_h52_ d_M49_ d_hM50_ d_v4_93 d_hv0_93 d_hv1_93 d_M_93 d_hL_93 _ d_hF_93 d_h56_ d_hr_ d_hM_ => ?_), (fun d_h41_ d_M70_ _ d_hF74_ d_r69_ d_hs76_ d_h72_ d_hr_ d_hM_ => ?_)⟩), (fun d_h39_ d_M78_ _ d_hF82_ d_r77_ d_hs84_ d_h80_ d_hr_ d_hM_ => ?_)⟩), (fun d_h37_ => ⟨(fun d_h85_ d_h86_ => ⟨(fun d_h87_ d_h88_ => ⟨(fun d_h89_ d_j92_ d_h93_ d_M90_ d_hM91_ d_h96_ d_j99_ d_h100_ d_M97_ d_hM98_ d_v4_93 d_hv0_93 d_hv1_93 d_M_93 d_hL_93 _ d_hF_93 d_h104_ d_hr_ d_hM_ => ?_), (fun d_h89_ d_M118_ _ d_hF122_ d_r117_ d_hs124_ d_h120_ d_hr_ d_hM_ => ?_)⟩), (fun d_h87_ d_M126_ _ d_hF130_ d_r125_ d_hs132_ d_h128_ d_hr_ d_hM_ => ?_)⟩), (fun d_h85_ => ⟨(fun d_h133_ d_h134_ => ⟨(fun d_h135_ d_h136_ => ⟨(fun d_h137_ d_j140_ d_h141_ d_M138_ d_hM139_ d_h144_ d_j147_ d_h148_ d_M145_ d_hM146_ d_v4_93 d_hv0_93 d_hv1_93 d_M_93 d_hL_93 _ d_hF_93 d_h152_ d_hr_ d_hM_ => ?_), (fun d_h137_ d_M166_ _ d_hF170_ d_r165_ d_hs172_ d_h168_ d_hr_ d_hM_ => ?_)⟩), (fun d_h135_ d_M174_ _ d_hF178_ d_r173_ d_hs180_ d_h176_ d_hr_ d_hM_ => ?_)⟩), (fun d_h133_ d_M182_ _ d_hF186_ d_r181_ d_hs188_ d_h184_ d_hr_ d_hM_ => ?_)⟩)⟩)⟩)⟩), (fun d_hs5_ d_h4_ d_M191_ _ d_hF195_ d_r190_ d_hs197_ d_h193_ d_hr_ d_hM_ => ?_)⟩
    · skip
      obtain rfl : d_j12_ = v.toInt.toNat := by omega
      obtain rfl : d_j19_ = v.toInt.toNat := by omega
      omega
    · skip
      obtain rfl : d_j44_ = v.toInt.toNat := by omega
      obtain rfl : d_j51_ = v.toInt.toNat := by omega
      omega
    · skip
      exact shE hS c_hF114_ c_hM_ d_hF74_ d_hM_
    · skip
      exact shE hS c_hF114_ c_hM_ d_hF82_ d_hM_
    · skip
      obtain rfl : d_j92_ = v.toInt.toNat := by omega
      obtain rfl : d_j99_ = v.toInt.toNat := by omega
      omega
    · skip
      exact shE hS c_hF114_ c_hM_ d_hF122_ d_hM_
    · skip
      exact shE hS c_hF114_ c_hM_ d_hF130_ d_hM_
    · skip
      obtain rfl : d_j140_ = v.toInt.toNat := by omega
      obtain rfl : d_j147_ = v.toInt.toNat := by omega
      omega
    · skip
      exact shE hS c_hF114_ c_hM_ d_hF170_ d_hM_
    · skip
      exact shE hS c_hF114_ c_hM_ d_hF178_ d_hM_
    · skip
      exact shE hS c_hF114_ c_hM_ d_hF186_ d_hM_
    · skip
      exact shE hS c_hF114_ c_hM_ d_hF195_ d_hM_
  ·
    refine xE_SP_X12_sheet h2 ⟨(fun d_hs5_ d_h4_ => ⟨(fun d_h7_ d_h8_ d_h9_ d_j12_ d_h13_ d_M10_ d_hM11_ d_h16_ d_j19_ d_h20_ d_M17_ d_hM18_ d_v4_93 d_hv0_93 d_hv1_93 d_M_93 d_hL_93 _ d_hF_93 d_h24_ d_hr_ d_hM_ => ?_), (fun d_h7_ => ⟨(fun d_h37_ d_h38_ => ⟨(fun d_h39_ d_h40_ => ⟨(fun d_h41_ d_j44_ d_h45_ d_M42_ d_hM43_ d_h48_ d_j51_ d_h52_ d_M49_ d_hM50_ d_v4_93 d_hv0_93 d_hv1_93 d_M_93 d_hL_93 _ d_hF_93 d_h56_ d_hr_ d_hM_ => ?_), (fun d_h41_ d_M70_ _ d_hF74_ d_r69_ d_hs76_ d_h72_ d_hr_ d_hM_ => ?_)⟩), (fun d_h39_ d_M78_ _ d_hF82_ d_r77_ d_hs84_ d_h80_ d_hr_ d_hM_ => ?_)⟩), (fun d_h37_ => ⟨(fun d_h85_ d_h86_ => ⟨(fun d_h87_ d_h88_ => ⟨(fun d_h89_ d_j92_ d_h93_ d_M90_ d_hM91_ d_h96_ d_j99_ d_h100_ d_M97_ d_hM98_ d_v4_93 d_hv0_93 d_hv1_93 d_M_93 d_hL_93 _ d_hF_93 d_h104_ d_hr_ d_hM_ => ?_), (fun d_h89_ d_M118_ _ d_hF122_ d_r117_ d_hs124_ d_h120_ d_hr_ d_hM_ => ?_)⟩), (fun d_h87_ d_M126_ _ d_hF130_ d_r125_ d_hs132_ d_h128_ d_hr_ d_hM_ => ?_)⟩), (fun d_h85_ => ⟨(fun d_h133_ d_h134_ => ⟨(fun d_h135_ d_h136_ => ⟨(fun d_h137_ d_j140_ d_h141_ d_M138_ d_hM139_ d_h144_ d_j147_ d_h148_ d_M145_ d_hM146_ d_v4_93 d_hv0_93 d_hv1_93 d_M_93 d_hL_93 _ d_hF_93 d_h152_ d_hr_ d_hM_ => ?_), (fun d_h137_ d_M166_ _ d_hF170_ d_r165_ d_hs172_ d_h168_ d_hr_ d_hM_ => ?_)⟩), (fun d_h135_ d_M174_ _ d_hF178_ d_r173_ d_hs180_ d_h176_ d_hr_ d_hM_ => ?_)⟩), (fun d_h133_ d_M182_ _ d_hF186_ d_r181_ d_hs188_ d_h184_ d_hr_ d_hM_ => ?_)⟩)⟩)⟩)⟩), (fun d_hs5_ d_h4_ d_M191_ _ d_hF195_ d_r190_ d_hs197_ d_h193_ d_hr_ d_hM_ => ?_)⟩
    · skip
      obtain rfl : d_j12_ = v.toInt.toNat := by omega
      obtain rfl : d_j19_ = v.toInt.toNat := by omega
      omega
    · skip
      obtain rfl : d_j44_ = v.toInt.toNat := by omega
      obtain rfl : d_j51_ = v.toInt.toNat := by omega
      omega
    · skip
      exact shE hS c_hF123_ c_hM_ d_hF74_ d_hM_
    · skip
      exact shE hS c_hF123_ c_hM_ d_hF82_ d_hM_
    · skip
      obtain rfl : d_j92_ = v.toInt.toNat := by omega
      obtain rfl : d_j99_ = v.toInt.toNat := by omega
      omega
    · skip
      exact shE hS c_hF123_ c_hM_ d_hF122_ d_hM_
    · skip
      exact shE hS c_hF123_ c_hM_ d_hF130_ d_hM_
    · skip
      obtain rfl : d_j140_ = v.toInt.toNat := by omega
      obtain rfl : d_j147_ = v.toInt.toNat := by omega
      omega
    · skip
      exact shE hS c_hF123_ c_hM_ d_hF170_ d_hM_
    · skip
      exact shE hS c_hF123_ c_hM_ d_hF178_ d_hM_
    · skip
      exact shE hS c_hF123_ c_hM_ d_hF186_ d_hM_
    · skip
      exact shE hS c_hF123_ c_hM_ d_hF195_ d_hM_
end
section
/-! move -/
theorem cp_run {M M1 : mM} {c0 c1 : rf} {u s q : Int32} (h : M1 = cp M c0 c1 u.toNatClampNeg s.toNatClampNeg q.toNatClampNeg) (hu : 0 ≤ u.toInt) (hs : 0 ≤ s.toInt) (hq : 0 ≤ q.toInt) : (∀ (c : rf) (k : Nat), ¬ c = c1 → M1.1 c k = M.1 c k) ∧ ∀ k : Nat, ((s.toInt ≤ (k : Int) ∧ (k : Int) < s.toInt + q.toInt) ∧ M1.1 c1 k = M.1 c0 (u.toInt.toNat + (k - s.toInt.toNat))) ∨ (¬ (s.toInt ≤ (k : Int) ∧ (k : Int) < s.toInt + q.toInt) ∧ M1.1 c1 k = M.1 c1 k) := by
  have a1 := clI (x := u) rfl hu
  have a2 := clI (x := s) rfl hs
  have a3 := clI (x := q) rfl hq
  refine ⟨fun c k hc => by rw [h, cp_other _ _ _ hc], fun k => ?_⟩
  by_cases e : s.toInt ≤ (k : Int) ∧ (k : Int) < s.toInt + q.toInt
  · left
    refine ⟨e, ?_⟩
    rw [h, cp_row]
    unfold va_cpy
    rw [if_pos ⟨by omega, by omega⟩, show u.toNatClampNeg + (k - s.toNatClampNeg) = u.toInt.toNat + (k - s.toInt.toNat) by omega]
  · right
    refine ⟨e, ?_⟩
    rw [h, cp_row]
    unfold va_cpy
    rw [if_neg (fun z => e ⟨by omega, by omega⟩)]
theorem move127 {v u q : Int32} {D Da : mM} {w : Int32 × mM} (h : RCH (fun x y : Int32 × mM => ST_X12_move_127 v u q D x.1 x.2 y.1 y.2) ((0 : Int32), Da) w) (hv : 0 ≤ v.toInt) (hu : 0 ≤ u.toInt) : (∀ (c : rf) (k : Nat), ¬ c = (69, 0, 0) → w.2.1 c k = Da.1 c k) ∧ ∀ k : Nat, (k : Int) < w.1.toInt → w.2.1 (69, 0, 0) k = Da.1 (68, 0, 0) (24 * v.toInt.toNat + u.toInt.toNat + k) := by
  have q0 := il_0
  have g := rind h (fun z => 0 ≤ z.1.toInt ∧ (∀ (c : rf) (k : Nat), ¬ c = (69, 0, 0) → z.2.1 c k = Da.1 c k) ∧ ∀ k : Nat, (k : Int) < z.1.toInt → z.2.1 (69, 0, 0) k = Da.1 (68, 0, 0) (24 * v.toInt.toNat + u.toInt.toNat + k)) ⟨by dsimp only; omega, fun _ _ _ => rfl, fun k hk => by dsimp only at hk; omega⟩ (fun x z p st => by
    (try dsimp only at p st ⊢)
    obtain ⟨p1, p2, p3⟩ := p
    refine xE_ST_X12_move_127 st (fun k_hv0_127 _ k_hF_127 k_h116_ k_z137_ k_h138_ k_z139_ k_h140_ k_z141_ k_h142_ k_j145_ k_h146_ k_z143_ k_e144_ k_j149_ k_h150_ k_M147_ k_hM148_ k_z153_ k_h154_ k_hq_v6_127y k_hM_ => ?_)
    have e := eT k_hq_v6_127y
    rw [k_hM_]
    refine ⟨by omega, fun c k q1 => ?_, fun k hk => ?_⟩
    · rw [zupN k_hM148_ (fun z => q1 z.1)]; exact p2 c k q1
    · by_cases e2 : (k : Int) = x.1.toInt
      · rw [zupE k_hM148_ rfl (by omega), k_e144_, p2 _ _ (by simp), show k_j145_ = 24 * v.toInt.toNat + u.toInt.toNat + k by omega]
      · rw [zupN k_hM148_ (fun z => by have := z.2; omega)]; exact p3 k (by omega))
  exact g.2
theorem move164 {t s q : Int32} {D Da : mM} {w : Int32 × mM} (h : RCH (fun x y : Int32 × mM => ST_X12_move_164 t s q D x.1 x.2 y.1 y.2) ((0 : Int32), Da) w) (ht : 0 ≤ t.toInt) (hs : 0 ≤ s.toInt) (hw : w.1.toInt ≤ q.toInt) : (∀ (c : rf) (k : Nat), ¬ c = (68, 0, 0) → w.2.1 c k = Da.1 c k) ∧ (∀ k : Nat, ¬ (24 * t.toInt.toNat + s.toInt.toNat ≤ k ∧ (k : Int) < 24 * t.toInt + s.toInt + q.toInt) → w.2.1 (68, 0, 0) k = Da.1 (68, 0, 0) k) ∧ ∀ k : Nat, (k : Int) < w.1.toInt → w.2.1 (68, 0, 0) (24 * t.toInt.toNat + s.toInt.toNat + k) = Da.1 (69, 0, 0) k := by
  have q0 := il_0
  have g := rind h (fun z => 0 ≤ z.1.toInt ∧ (∀ (c : rf) (k : Nat), ¬ c = (68, 0, 0) → z.2.1 c k = Da.1 c k) ∧ (∀ k : Nat, ¬ (24 * t.toInt.toNat + s.toInt.toNat ≤ k ∧ (k : Int) < 24 * t.toInt + s.toInt + q.toInt) → z.2.1 (68, 0, 0) k = Da.1 (68, 0, 0) k) ∧ ∀ k : Nat, (k : Int) < z.1.toInt → z.2.1 (68, 0, 0) (24 * t.toInt.toNat + s.toInt.toNat + k) = Da.1 (69, 0, 0) k) ⟨by dsimp only; omega, fun _ _ _ => rfl, fun _ _ => rfl, fun k hk => by dsimp only at hk; omega⟩ (fun x z p st => by
    (try dsimp only at p st ⊢)
    obtain ⟨p1, p2, p3, p4⟩ := p
    refine xE_ST_X12_move_164 st (fun k_hv0_164 _ k_hF_164 k_h118_ k_z119_ k_h120_ k_z121_ k_h122_ k_z123_ k_h124_ k_j127_ k_h128_ k_z125_ k_e126_ k_j131_ k_h132_ k_M129_ k_hM130_ k_z135_ k_h136_ k_hq_v6_164y k_hM_ => ?_)
    have e := eT k_hq_v6_164y
    rw [k_hM_]
    refine ⟨by omega, fun c k q1 => ?_, fun k hk => ?_, fun k hk => ?_⟩
    · rw [zupN k_hM130_ (fun z => q1 z.1)]; exact p2 c k q1
    · rw [zupN k_hM130_ (fun z => hk (by have := z.2; omega))]; exact p3 k hk
    · by_cases e2 : (k : Int) = x.1.toInt
      · rw [zupE k_hM130_ rfl (by omega), k_e126_, p2 _ _ (by simp), show k_j127_ = k by omega]
      · rw [zupN k_hM130_ (fun z => by have := z.2; omega)]; exact p4 k (by omega))
  exact g.2
theorem sh_34 {v u t s q : Int32} {M M1 D D2 : mM} {r1 r2 : Int32} (h1 : SP_X11_move v u t s q M r1 M1) (h2 : SP_X12_move v u t s q D r2 D2) (hS : SHR M.1 D.1) (hD : InvD D) : SHR M1.1 D2.1 := by
  have q0 := il_0
  have q1 := il_1
  have zb := sz_b hD
  have sw := fun (w : Nat) (hw : w < 4) => And.intro (eT (hS w hw).1) (eT (hS w hw).2.1)
  refine xE_SP_X11_move h1 ⟨(fun c_hs5_ c_h4_ => ⟨(fun c_hs11_ c_h10_ c_j13_ c_h14_ c_h15_ c_j16_ c_h17_ c_h18_ c_r19_ c_hs23_ c_h22_ => ⟨(fun c_h24_ c_M26_ _ c_hF30_ c_r25_ c_hs32_ c_hr_ c_hM_ => ?_), (fun c_h24_ c_r33_ c_hs37_ c_h36_ => ⟨(fun c_h38_ c_z39_ c_e40_ c_z41_ c_e42_ => ⟨(fun c_h43_ => ⟨(fun c_hs48_ c_h47_ => ⟨(fun c_hs54_ c_h53_ c_M56_ c_hM57_ c_hr_ c_hM_ => ?_), (fun c_hs54_ c_M62_ _ c_hF66_ c_r61_ c_hs68_ c_hr_ c_hM_ => ?_)⟩), (fun c_hs48_ c_M71_ _ c_hF75_ c_r70_ c_hs77_ c_hr_ c_hM_ => ?_)⟩), (fun c_h43_ c_M79_ _ c_hF83_ c_r78_ c_hs85_ c_hr_ c_hM_ => ?_)⟩), (fun c_h38_ c_M87_ _ c_hF91_ c_r86_ c_hs93_ c_hr_ c_hM_ => ?_)⟩)⟩), (fun c_hs11_ c_h10_ c_M96_ _ c_hF100_ c_r95_ c_hs102_ c_hr_ c_hM_ => ?_)⟩), (fun c_hs5_ c_h4_ c_M105_ _ c_hF109_ c_r104_ c_hs111_ c_hr_ c_hM_ => ?_)⟩
  ·
    obtain rfl : c_j13_ = v.toInt.toNat := by omega
    obtain rfl : c_j16_ = t.toInt.toNat := by omega
    have sv := sw v.toInt.toNat (by omega)
    have zbv := zb v.toInt.toNat
    have st := sw t.toInt.toNat (by omega)
    have zbt := zb t.toInt.toNat
    have mihs23_ := x6miss c_hs23_
    refine xE_SP_X12_move h2 ⟨(fun d_hs5_ d_h4_ => ⟨(fun d_hs11_ d_h10_ d_j15_ d_h16_ d_z13_ d_e14_ => ⟨(fun d_h17_ d_M19_ _ d_hF23_ d_r18_ d_hs25_ d_h21_ d_hr_ d_hM_ => ?_), (fun d_h17_ d_j28_ d_h29_ d_z26_ d_e27_ => ⟨(fun d_h30_ d_j33_ d_h34_ d_z31_ d_e32_ d_j37_ d_h38_ d_z35_ d_e36_ => ⟨(fun d_h39_ => ⟨(fun d_h40_ d_M42_ _ d_hF46_ d_r41_ d_hs48_ d_h44_ d_hr_ d_hM_ => ?_), (fun d_h40_ => ⟨(fun d_h49_ d_M51_ _ d_hF55_ d_r50_ d_hs57_ d_h53_ d_hr_ d_hM_ => ?_), (fun d_h49_ => ⟨(fun d_h58_ d_M60_ _ d_hF64_ d_r59_ d_hs66_ d_h62_ d_hr_ d_hM_ => ?_), (fun d_h58_ d_w67_ d_h68_ d_h69_ d_w70_ d_h71_ d_h72_ d_w73_ d_h74_ d_h75_ d_j78_ d_h79_ d_z76_ d_e77_ d_h80_ d_w81_ d_h82_ d_h83_ d_z84_ d_h85_ => ⟨(fun d_h86_ d_M88_ _ d_hF92_ d_r87_ d_hs94_ d_h90_ d_hr_ d_hM_ => ?_), (fun d_h86_ d_w95_ d_h96_ d_h97_ d_w98_ d_h99_ d_h100_ d_w101_ d_h102_ d_h103_ d_j106_ d_h107_ d_z104_ d_e105_ d_h108_ d_w109_ d_h110_ d_h111_ d_z112_ d_h113_ => ⟨(fun d_h114_ d_v6_127 d_hv0_127 d_M_127 d_hL_127 _ d_hF_127 d_h116_ d_v6_164 d_hv0_164 d_M_164 d_hL_164 _ d_hF_164 d_h118_ d_hr_ d_hM_ => ?_), (fun d_h114_ d_M156_ _ d_hF160_ d_r155_ d_hs162_ d_h158_ d_hr_ d_hM_ => ?_)⟩)⟩)⟩)⟩)⟩), (fun d_h39_ d_M164_ _ d_hF168_ d_r163_ d_hs170_ d_h166_ d_hr_ d_hM_ => ?_)⟩), (fun d_h30_ d_M172_ _ d_hF176_ d_r171_ d_hs178_ d_h174_ d_hr_ d_hM_ => ?_)⟩)⟩), (fun d_hs11_ d_h10_ d_M181_ _ d_hF185_ d_r180_ d_hs187_ d_h183_ d_hr_ d_hM_ => ?_)⟩), (fun d_hs5_ d_h4_ d_M190_ _ d_hF194_ d_r189_ d_hs196_ d_h192_ d_hr_ d_hM_ => ?_)⟩
    · skip
      exact shE hS c_hF30_ c_hM_ d_hF23_ d_hM_
    · skip
      exact shE hS c_hF30_ c_hM_ d_hF46_ d_hM_
    · skip
      exact shE hS c_hF30_ c_hM_ d_hF55_ d_hM_
    · skip
      exact shE hS c_hF30_ c_hM_ d_hF64_ d_hM_
    · skip
      exact shE hS c_hF30_ c_hM_ d_hF92_ d_hM_
    · skip
      obtain rfl : d_j15_ = v.toInt.toNat := by omega
      obtain rfl : d_j33_ = v.toInt.toNat := by omega
      obtain rfl : d_j78_ = v.toInt.toNat := by omega
      obtain rfl : d_j28_ = t.toInt.toNat := by omega
      obtain rfl : d_j37_ = t.toInt.toNat := by omega
      obtain rfl : d_j106_ = t.toInt.toNat := by omega
      have yde14_ := eT d_e14_
      have yde27_ := eT d_e27_
      have yde32_ := eT d_e32_
      have yde36_ := eT d_e36_
      have yde77_ := eT d_e77_
      have yde105_ := eT d_e105_
      omega
    · skip
      exact shE hS c_hF30_ c_hM_ d_hF160_ d_hM_
    · skip
      exact shE hS c_hF30_ c_hM_ d_hF168_ d_hM_
    · skip
      exact shE hS c_hF30_ c_hM_ d_hF176_ d_hM_
    · skip
      exact shE hS c_hF30_ c_hM_ d_hF185_ d_hM_
    · skip
      exact shE hS c_hF30_ c_hM_ d_hF194_ d_hM_
  ·
    obtain rfl : c_j13_ = v.toInt.toNat := by omega
    obtain rfl : c_j16_ = t.toInt.toNat := by omega
    have sv := sw v.toInt.toNat (by omega)
    have zbv := zb v.toInt.toNat
    have st := sw t.toInt.toNat (by omega)
    have zbt := zb t.toInt.toNat
    have mihs23_ := x6miss c_hs23_
    have mihs37_ := x6miss c_hs37_
    have ruhs48_ := x6runY c_hs48_
    have ruhs54_ := x6runY c_hs54_
    have yce40_ := eT c_e40_
    have yce42_ := eT c_e42_
    refine xE_SP_X12_move h2 ⟨(fun d_hs5_ d_h4_ => ⟨(fun d_hs11_ d_h10_ d_j15_ d_h16_ d_z13_ d_e14_ => ⟨(fun d_h17_ d_M19_ _ d_hF23_ d_r18_ d_hs25_ d_h21_ d_hr_ d_hM_ => ?_), (fun d_h17_ d_j28_ d_h29_ d_z26_ d_e27_ => ⟨(fun d_h30_ d_j33_ d_h34_ d_z31_ d_e32_ d_j37_ d_h38_ d_z35_ d_e36_ => ⟨(fun d_h39_ => ⟨(fun d_h40_ d_M42_ _ d_hF46_ d_r41_ d_hs48_ d_h44_ d_hr_ d_hM_ => ?_), (fun d_h40_ => ⟨(fun d_h49_ d_M51_ _ d_hF55_ d_r50_ d_hs57_ d_h53_ d_hr_ d_hM_ => ?_), (fun d_h49_ => ⟨(fun d_h58_ d_M60_ _ d_hF64_ d_r59_ d_hs66_ d_h62_ d_hr_ d_hM_ => ?_), (fun d_h58_ d_w67_ d_h68_ d_h69_ d_w70_ d_h71_ d_h72_ d_w73_ d_h74_ d_h75_ d_j78_ d_h79_ d_z76_ d_e77_ d_h80_ d_w81_ d_h82_ d_h83_ d_z84_ d_h85_ => ⟨(fun d_h86_ d_M88_ _ d_hF92_ d_r87_ d_hs94_ d_h90_ d_hr_ d_hM_ => ?_), (fun d_h86_ d_w95_ d_h96_ d_h97_ d_w98_ d_h99_ d_h100_ d_w101_ d_h102_ d_h103_ d_j106_ d_h107_ d_z104_ d_e105_ d_h108_ d_w109_ d_h110_ d_h111_ d_z112_ d_h113_ => ⟨(fun d_h114_ d_v6_127 d_hv0_127 d_M_127 d_hL_127 _ d_hF_127 d_h116_ d_v6_164 d_hv0_164 d_M_164 d_hL_164 _ d_hF_164 d_h118_ d_hr_ d_hM_ => ?_), (fun d_h114_ d_M156_ _ d_hF160_ d_r155_ d_hs162_ d_h158_ d_hr_ d_hM_ => ?_)⟩)⟩)⟩)⟩)⟩), (fun d_h39_ d_M164_ _ d_hF168_ d_r163_ d_hs170_ d_h166_ d_hr_ d_hM_ => ?_)⟩), (fun d_h30_ d_M172_ _ d_hF176_ d_r171_ d_hs178_ d_h174_ d_hr_ d_hM_ => ?_)⟩)⟩), (fun d_hs11_ d_h10_ d_M181_ _ d_hF185_ d_r180_ d_hs187_ d_h183_ d_hr_ d_hM_ => ?_)⟩), (fun d_hs5_ d_h4_ d_M190_ _ d_hF194_ d_r189_ d_hs196_ d_h192_ d_hr_ d_hM_ => ?_)⟩
    · skip
      obtain rfl : d_j15_ = v.toInt.toNat := by omega
      have yde14_ := eT d_e14_
      omega
    · skip
      obtain rfl : d_j15_ = v.toInt.toNat := by omega
      obtain rfl : d_j33_ = v.toInt.toNat := by omega
      obtain rfl : d_j28_ = t.toInt.toNat := by omega
      obtain rfl : d_j37_ = t.toInt.toNat := by omega
      have yde14_ := eT d_e14_
      have yde27_ := eT d_e27_
      have yde32_ := eT d_e32_
      have yde36_ := eT d_e36_
      omega
    · skip
      obtain rfl : d_j15_ = v.toInt.toNat := by omega
      obtain rfl : d_j33_ = v.toInt.toNat := by omega
      obtain rfl : d_j28_ = t.toInt.toNat := by omega
      obtain rfl : d_j37_ = t.toInt.toNat := by omega
      have yde14_ := eT d_e14_
      have yde27_ := eT d_e27_
      have yde32_ := eT d_e32_
      have yde36_ := eT d_e36_
      omega
    · skip
      obtain rfl : d_j15_ = v.toInt.toNat := by omega
      obtain rfl : d_j33_ = v.toInt.toNat := by omega
      obtain rfl : d_j28_ = t.toInt.toNat := by omega
      obtain rfl : d_j37_ = t.toInt.toNat := by omega
      have yde14_ := eT d_e14_
      have yde27_ := eT d_e27_
      have yde32_ := eT d_e32_
      have yde36_ := eT d_e36_
      omega
    · skip
      obtain rfl : d_j15_ = v.toInt.toNat := by omega
      obtain rfl : d_j33_ = v.toInt.toNat := by omega
      obtain rfl : d_j78_ = v.toInt.toNat := by omega
      obtain rfl : d_j28_ = t.toInt.toNat := by omega
      obtain rfl : d_j37_ = t.toInt.toNat := by omega
      have yde14_ := eT d_e14_
      have yde27_ := eT d_e27_
      have yde32_ := eT d_e32_
      have yde36_ := eT d_e36_
      have yde77_ := eT d_e77_
      omega
    · skip
      obtain rfl : d_j15_ = v.toInt.toNat := by omega
      obtain rfl : d_j33_ = v.toInt.toNat := by omega
      obtain rfl : d_j78_ = v.toInt.toNat := by omega
      obtain rfl : d_j28_ = t.toInt.toNat := by omega
      obtain rfl : d_j37_ = t.toInt.toNat := by omega
      obtain rfl : d_j106_ = t.toInt.toNat := by omega
      have yde14_ := eT d_e14_
      have yde27_ := eT d_e27_
      have yde32_ := eT d_e32_
      have yde36_ := eT d_e36_
      have yde77_ := eT d_e77_
      have yde105_ := eT d_e105_
      have run := cp_run c_hM57_ (by omega) (by omega) (by omega)
      obtain ⟨g1, g2⟩ := run
      have m1 := move127 d_hL_127 (by omega) (by omega)
      obtain ⟨a1, a2⟩ := m1
      have q164 : d_v6_164.toInt ≤ q.toInt := by
        have g := rind d_hL_164 (fun z => z.1.toInt ≤ q.toInt) (by dsimp only; omega) (fun x z pp st => by
          (try dsimp only at pp st ⊢)
          refine xE_ST_X12_move_164 st (fun k_hv0_164 _ k_hF_164 k_h118_ k_z119_ k_h120_ k_z121_ k_h122_ k_z123_ k_h124_ k_j127_ k_h128_ k_z125_ k_e126_ k_j131_ k_h132_ k_M129_ k_hM130_ k_z135_ k_h136_ k_hq_v6_164y k_hM_ => ?_)
          have e := eT k_hq_v6_164y
          omega)
        exact g
      have m2 := move164 d_hL_164 (by omega) (by omega) q164
      obtain ⟨b1, b2, b3⟩ := m2
      intro w hw
      obtain ⟨w1, w2, w3⟩ := hS w hw
      have zw := zb w
      have cc : ∀ (c : rf) (k : Nat), ¬ c = (34, 0, t.toInt.toNat) → M1.1 c k = M.1 c k := fun c k hc => by rw [c_hM_]; exact g1 c k hc
      have dd : ∀ (c : rf) (k : Nat), ¬ c = (68, 0, 0) → ¬ c = (69, 0, 0) → D2.1 c k = D.1 c k := fun c k h8 h9 => by rw [d_hM_, b1 c k h8, a1 c k h9]
      rw [cc _ _ (cne (by omega)), cc (6, 0, w) 1 (cne (by omega)), dd _ _ (cne (by omega)) (cne (by omega)), dd (67, 0, 0) w (cne (by omega)) (cne (by omega))]
      refine ⟨w1, w2, fun i hi => ?_⟩
      by_cases e : w = t.toInt.toNat
      · subst e
        rcases g2 i with ⟨r1, r2⟩ | ⟨r1, r2⟩
        · rw [c_hM_, r2, d_hM_, show 24 * t.toInt.toNat + i = 24 * t.toInt.toNat + s.toInt.toNat + (i - s.toInt.toNat) by omega, b3 _ (by dsimp only; omega), a2 _ (by dsimp only; omega), show 24 * v.toInt.toNat + u.toInt.toNat + (i - s.toInt.toNat) = 24 * v.toInt.toNat + (u.toInt.toNat + (i - s.toInt.toNat)) by omega]
          exact (hS v.toInt.toNat (by omega)).2.2 _ (by omega)
        · rw [c_hM_, r2, d_hM_, b2 _ (fun z => by omega), a1 _ _ (by simp)]
          exact w3 i hi
      · rw [cc _ _ (fun z => e (congrArg (fun c : rf => c.2.2) z)), d_hM_, b2 _ (fun z => by omega), a1 _ _ (by simp)]
        exact w3 i hi
    · skip
      obtain rfl : d_j15_ = v.toInt.toNat := by omega
      obtain rfl : d_j33_ = v.toInt.toNat := by omega
      obtain rfl : d_j78_ = v.toInt.toNat := by omega
      obtain rfl : d_j28_ = t.toInt.toNat := by omega
      obtain rfl : d_j37_ = t.toInt.toNat := by omega
      obtain rfl : d_j106_ = t.toInt.toNat := by omega
      have yde14_ := eT d_e14_
      have yde27_ := eT d_e27_
      have yde32_ := eT d_e32_
      have yde36_ := eT d_e36_
      have yde77_ := eT d_e77_
      have yde105_ := eT d_e105_
      omega
    · skip
      obtain rfl : d_j15_ = v.toInt.toNat := by omega
      obtain rfl : d_j33_ = v.toInt.toNat := by omega
      obtain rfl : d_j28_ = t.toInt.toNat := by omega
      obtain rfl : d_j37_ = t.toInt.toNat := by omega
      have yde14_ := eT d_e14_
      have yde27_ := eT d_e27_
      have yde32_ := eT d_e32_
      have yde36_ := eT d_e36_
      omega
    · skip
      obtain rfl : d_j15_ = v.toInt.toNat := by omega
      obtain rfl : d_j28_ = t.toInt.toNat := by omega
      have yde14_ := eT d_e14_
      have yde27_ := eT d_e27_
      omega
    · skip
      omega
    · skip
      omega
  ·
    obtain rfl : c_j13_ = v.toInt.toNat := by omega
    obtain rfl : c_j16_ = t.toInt.toNat := by omega
    have sv := sw v.toInt.toNat (by omega)
    have zbv := zb v.toInt.toNat
    have st := sw t.toInt.toNat (by omega)
    have zbt := zb t.toInt.toNat
    have mihs23_ := x6miss c_hs23_
    have mihs37_ := x6miss c_hs37_
    have ruhs48_ := x6runY c_hs48_
    have ruhs54_ := x6runY c_hs54_
    have yce40_ := eT c_e40_
    have yce42_ := eT c_e42_
    refine xE_SP_X12_move h2 ⟨(fun d_hs5_ d_h4_ => ⟨(fun d_hs11_ d_h10_ d_j15_ d_h16_ d_z13_ d_e14_ => ⟨(fun d_h17_ d_M19_ _ d_hF23_ d_r18_ d_hs25_ d_h21_ d_hr_ d_hM_ => ?_), (fun d_h17_ d_j28_ d_h29_ d_z26_ d_e27_ => ⟨(fun d_h30_ d_j33_ d_h34_ d_z31_ d_e32_ d_j37_ d_h38_ d_z35_ d_e36_ => ⟨(fun d_h39_ => ⟨(fun d_h40_ d_M42_ _ d_hF46_ d_r41_ d_hs48_ d_h44_ d_hr_ d_hM_ => ?_), (fun d_h40_ => ⟨(fun d_h49_ d_M51_ _ d_hF55_ d_r50_ d_hs57_ d_h53_ d_hr_ d_hM_ => ?_), (fun d_h49_ => ⟨(fun d_h58_ d_M60_ _ d_hF64_ d_r59_ d_hs66_ d_h62_ d_hr_ d_hM_ => ?_), (fun d_h58_ d_w67_ d_h68_ d_h69_ d_w70_ d_h71_ d_h72_ d_w73_ d_h74_ d_h75_ d_j78_ d_h79_ d_z76_ d_e77_ d_h80_ d_w81_ d_h82_ d_h83_ d_z84_ d_h85_ => ⟨(fun d_h86_ d_M88_ _ d_hF92_ d_r87_ d_hs94_ d_h90_ d_hr_ d_hM_ => ?_), (fun d_h86_ d_w95_ d_h96_ d_h97_ d_w98_ d_h99_ d_h100_ d_w101_ d_h102_ d_h103_ d_j106_ d_h107_ d_z104_ d_e105_ d_h108_ d_w109_ d_h110_ d_h111_ d_z112_ d_h113_ => ⟨(fun d_h114_ d_v6_127 d_hv0_127 d_M_127 d_hL_127 _ d_hF_127 d_h116_ d_v6_164 d_hv0_164 d_M_164 d_hL_164 _ d_hF_164 d_h118_ d_hr_ d_hM_ => ?_), (fun d_h114_ d_M156_ _ d_hF160_ d_r155_ d_hs162_ d_h158_ d_hr_ d_hM_ => ?_)⟩)⟩)⟩)⟩)⟩), (fun d_h39_ d_M164_ _ d_hF168_ d_r163_ d_hs170_ d_h166_ d_hr_ d_hM_ => ?_)⟩), (fun d_h30_ d_M172_ _ d_hF176_ d_r171_ d_hs178_ d_h174_ d_hr_ d_hM_ => ?_)⟩)⟩), (fun d_hs11_ d_h10_ d_M181_ _ d_hF185_ d_r180_ d_hs187_ d_h183_ d_hr_ d_hM_ => ?_)⟩), (fun d_hs5_ d_h4_ d_M190_ _ d_hF194_ d_r189_ d_hs196_ d_h192_ d_hr_ d_hM_ => ?_)⟩
    · skip
      exact shE hS c_hF66_ c_hM_ d_hF23_ d_hM_
    · skip
      exact shE hS c_hF66_ c_hM_ d_hF46_ d_hM_
    · skip
      exact shE hS c_hF66_ c_hM_ d_hF55_ d_hM_
    · skip
      exact shE hS c_hF66_ c_hM_ d_hF64_ d_hM_
    · skip
      exact shE hS c_hF66_ c_hM_ d_hF92_ d_hM_
    · skip
      obtain rfl : d_j15_ = v.toInt.toNat := by omega
      obtain rfl : d_j33_ = v.toInt.toNat := by omega
      obtain rfl : d_j78_ = v.toInt.toNat := by omega
      obtain rfl : d_j28_ = t.toInt.toNat := by omega
      obtain rfl : d_j37_ = t.toInt.toNat := by omega
      obtain rfl : d_j106_ = t.toInt.toNat := by omega
      have yde14_ := eT d_e14_
      have yde27_ := eT d_e27_
      have yde32_ := eT d_e32_
      have yde36_ := eT d_e36_
      have yde77_ := eT d_e77_
      have yde105_ := eT d_e105_
      omega
    · skip
      exact shE hS c_hF66_ c_hM_ d_hF160_ d_hM_
    · skip
      exact shE hS c_hF66_ c_hM_ d_hF168_ d_hM_
    · skip
      exact shE hS c_hF66_ c_hM_ d_hF176_ d_hM_
    · skip
      exact shE hS c_hF66_ c_hM_ d_hF185_ d_hM_
    · skip
      exact shE hS c_hF66_ c_hM_ d_hF194_ d_hM_
  ·
    obtain rfl : c_j13_ = v.toInt.toNat := by omega
    obtain rfl : c_j16_ = t.toInt.toNat := by omega
    have sv := sw v.toInt.toNat (by omega)
    have zbv := zb v.toInt.toNat
    have st := sw t.toInt.toNat (by omega)
    have zbt := zb t.toInt.toNat
    have mihs23_ := x6miss c_hs23_
    have mihs37_ := x6miss c_hs37_
    have ruhs48_ := x6runY c_hs48_
    have yce40_ := eT c_e40_
    have yce42_ := eT c_e42_
    refine xE_SP_X12_move h2 ⟨(fun d_hs5_ d_h4_ => ⟨(fun d_hs11_ d_h10_ d_j15_ d_h16_ d_z13_ d_e14_ => ⟨(fun d_h17_ d_M19_ _ d_hF23_ d_r18_ d_hs25_ d_h21_ d_hr_ d_hM_ => ?_), (fun d_h17_ d_j28_ d_h29_ d_z26_ d_e27_ => ⟨(fun d_h30_ d_j33_ d_h34_ d_z31_ d_e32_ d_j37_ d_h38_ d_z35_ d_e36_ => ⟨(fun d_h39_ => ⟨(fun d_h40_ d_M42_ _ d_hF46_ d_r41_ d_hs48_ d_h44_ d_hr_ d_hM_ => ?_), (fun d_h40_ => ⟨(fun d_h49_ d_M51_ _ d_hF55_ d_r50_ d_hs57_ d_h53_ d_hr_ d_hM_ => ?_), (fun d_h49_ => ⟨(fun d_h58_ d_M60_ _ d_hF64_ d_r59_ d_hs66_ d_h62_ d_hr_ d_hM_ => ?_), (fun d_h58_ d_w67_ d_h68_ d_h69_ d_w70_ d_h71_ d_h72_ d_w73_ d_h74_ d_h75_ d_j78_ d_h79_ d_z76_ d_e77_ d_h80_ d_w81_ d_h82_ d_h83_ d_z84_ d_h85_ => ⟨(fun d_h86_ d_M88_ _ d_hF92_ d_r87_ d_hs94_ d_h90_ d_hr_ d_hM_ => ?_), (fun d_h86_ d_w95_ d_h96_ d_h97_ d_w98_ d_h99_ d_h100_ d_w101_ d_h102_ d_h103_ d_j106_ d_h107_ d_z104_ d_e105_ d_h108_ d_w109_ d_h110_ d_h111_ d_z112_ d_h113_ => ⟨(fun d_h114_ d_v6_127 d_hv0_127 d_M_127 d_hL_127 _ d_hF_127 d_h116_ d_v6_164 d_hv0_164 d_M_164 d_hL_164 _ d_hF_164 d_h118_ d_hr_ d_hM_ => ?_), (fun d_h114_ d_M156_ _ d_hF160_ d_r155_ d_hs162_ d_h158_ d_hr_ d_hM_ => ?_)⟩)⟩)⟩)⟩)⟩), (fun d_h39_ d_M164_ _ d_hF168_ d_r163_ d_hs170_ d_h166_ d_hr_ d_hM_ => ?_)⟩), (fun d_h30_ d_M172_ _ d_hF176_ d_r171_ d_hs178_ d_h174_ d_hr_ d_hM_ => ?_)⟩)⟩), (fun d_hs11_ d_h10_ d_M181_ _ d_hF185_ d_r180_ d_hs187_ d_h183_ d_hr_ d_hM_ => ?_)⟩), (fun d_hs5_ d_h4_ d_M190_ _ d_hF194_ d_r189_ d_hs196_ d_h192_ d_hr_ d_hM_ => ?_)⟩
    · skip
      exact shE hS c_hF75_ c_hM_ d_hF23_ d_hM_
    · skip
      exact shE hS c_hF75_ c_hM_ d_hF46_ d_hM_
    · skip
      exact shE hS c_hF75_ c_hM_ d_hF55_ d_hM_
    · skip
      exact shE hS c_hF75_ c_hM_ d_hF64_ d_hM_
    · skip
      exact shE hS c_hF75_ c_hM_ d_hF92_ d_hM_
    · skip
      obtain rfl : d_j15_ = v.toInt.toNat := by omega
      obtain rfl : d_j33_ = v.toInt.toNat := by omega
      obtain rfl : d_j78_ = v.toInt.toNat := by omega
      obtain rfl : d_j28_ = t.toInt.toNat := by omega
      obtain rfl : d_j37_ = t.toInt.toNat := by omega
      obtain rfl : d_j106_ = t.toInt.toNat := by omega
      have yde14_ := eT d_e14_
      have yde27_ := eT d_e27_
      have yde32_ := eT d_e32_
      have yde36_ := eT d_e36_
      have yde77_ := eT d_e77_
      have yde105_ := eT d_e105_
      omega
    · skip
      exact shE hS c_hF75_ c_hM_ d_hF160_ d_hM_
    · skip
      exact shE hS c_hF75_ c_hM_ d_hF168_ d_hM_
    · skip
      exact shE hS c_hF75_ c_hM_ d_hF176_ d_hM_
    · skip
      exact shE hS c_hF75_ c_hM_ d_hF185_ d_hM_
    · skip
      exact shE hS c_hF75_ c_hM_ d_hF194_ d_hM_
  ·
    obtain rfl : c_j13_ = v.toInt.toNat := by omega
    obtain rfl : c_j16_ = t.toInt.toNat := by omega
    have sv := sw v.toInt.toNat (by omega)
    have zbv := zb v.toInt.toNat
    have st := sw t.toInt.toNat (by omega)
    have zbt := zb t.toInt.toNat
    have mihs23_ := x6miss c_hs23_
    have mihs37_ := x6miss c_hs37_
    have yce40_ := eT c_e40_
    have yce42_ := eT c_e42_
    refine xE_SP_X12_move h2 ⟨(fun d_hs5_ d_h4_ => ⟨(fun d_hs11_ d_h10_ d_j15_ d_h16_ d_z13_ d_e14_ => ⟨(fun d_h17_ d_M19_ _ d_hF23_ d_r18_ d_hs25_ d_h21_ d_hr_ d_hM_ => ?_), (fun d_h17_ d_j28_ d_h29_ d_z26_ d_e27_ => ⟨(fun d_h30_ d_j33_ d_h34_ d_z31_ d_e32_ d_j37_ d_h38_ d_z35_ d_e36_ => ⟨(fun d_h39_ => ⟨(fun d_h40_ d_M42_ _ d_hF46_ d_r41_ d_hs48_ d_h44_ d_hr_ d_hM_ => ?_), (fun d_h40_ => ⟨(fun d_h49_ d_M51_ _ d_hF55_ d_r50_ d_hs57_ d_h53_ d_hr_ d_hM_ => ?_), (fun d_h49_ => ⟨(fun d_h58_ d_M60_ _ d_hF64_ d_r59_ d_hs66_ d_h62_ d_hr_ d_hM_ => ?_), (fun d_h58_ d_w67_ d_h68_ d_h69_ d_w70_ d_h71_ d_h72_ d_w73_ d_h74_ d_h75_ d_j78_ d_h79_ d_z76_ d_e77_ d_h80_ d_w81_ d_h82_ d_h83_ d_z84_ d_h85_ => ⟨(fun d_h86_ d_M88_ _ d_hF92_ d_r87_ d_hs94_ d_h90_ d_hr_ d_hM_ => ?_), (fun d_h86_ d_w95_ d_h96_ d_h97_ d_w98_ d_h99_ d_h100_ d_w101_ d_h102_ d_h103_ d_j106_ d_h107_ d_z104_ d_e105_ d_h108_ d_w109_ d_h110_ d_h111_ d_z112_ d_h113_ => ⟨(fun d_h114_ d_v6_127 d_hv0_127 d_M_127 d_hL_127 _ d_hF_127 d_h116_ d_v6_164 d_hv0_164 d_M_164 d_hL_164 _ d_hF_164 d_h118_ d_hr_ d_hM_ => ?_), (fun d_h114_ d_M156_ _ d_hF160_ d_r155_ d_hs162_ d_h158_ d_hr_ d_hM_ => ?_)⟩)⟩)⟩)⟩)⟩), (fun d_h39_ d_M164_ _ d_hF168_ d_r163_ d_hs170_ d_h166_ d_hr_ d_hM_ => ?_)⟩), (fun d_h30_ d_M172_ _ d_hF176_ d_r171_ d_hs178_ d_h174_ d_hr_ d_hM_ => ?_)⟩)⟩), (fun d_hs11_ d_h10_ d_M181_ _ d_hF185_ d_r180_ d_hs187_ d_h183_ d_hr_ d_hM_ => ?_)⟩), (fun d_hs5_ d_h4_ d_M190_ _ d_hF194_ d_r189_ d_hs196_ d_h192_ d_hr_ d_hM_ => ?_)⟩
    · skip
      exact shE hS c_hF83_ c_hM_ d_hF23_ d_hM_
    · skip
      exact shE hS c_hF83_ c_hM_ d_hF46_ d_hM_
    · skip
      exact shE hS c_hF83_ c_hM_ d_hF55_ d_hM_
    · skip
      exact shE hS c_hF83_ c_hM_ d_hF64_ d_hM_
    · skip
      exact shE hS c_hF83_ c_hM_ d_hF92_ d_hM_
    · skip
      obtain rfl : d_j15_ = v.toInt.toNat := by omega
      obtain rfl : d_j33_ = v.toInt.toNat := by omega
      obtain rfl : d_j78_ = v.toInt.toNat := by omega
      obtain rfl : d_j28_ = t.toInt.toNat := by omega
      obtain rfl : d_j37_ = t.toInt.toNat := by omega
      obtain rfl : d_j106_ = t.toInt.toNat := by omega
      have yde14_ := eT d_e14_
      have yde27_ := eT d_e27_
      have yde32_ := eT d_e32_
      have yde36_ := eT d_e36_
      have yde77_ := eT d_e77_
      have yde105_ := eT d_e105_
      omega
    · skip
      exact shE hS c_hF83_ c_hM_ d_hF160_ d_hM_
    · skip
      exact shE hS c_hF83_ c_hM_ d_hF168_ d_hM_
    · skip
      exact shE hS c_hF83_ c_hM_ d_hF176_ d_hM_
    · skip
      exact shE hS c_hF83_ c_hM_ d_hF185_ d_hM_
    · skip
      exact shE hS c_hF83_ c_hM_ d_hF194_ d_hM_
  ·
    obtain rfl : c_j13_ = v.toInt.toNat := by omega
    obtain rfl : c_j16_ = t.toInt.toNat := by omega
    have sv := sw v.toInt.toNat (by omega)
    have zbv := zb v.toInt.toNat
    have st := sw t.toInt.toNat (by omega)
    have zbt := zb t.toInt.toNat
    have mihs23_ := x6miss c_hs23_
    have mihs37_ := x6miss c_hs37_
    refine xE_SP_X12_move h2 ⟨(fun d_hs5_ d_h4_ => ⟨(fun d_hs11_ d_h10_ d_j15_ d_h16_ d_z13_ d_e14_ => ⟨(fun d_h17_ d_M19_ _ d_hF23_ d_r18_ d_hs25_ d_h21_ d_hr_ d_hM_ => ?_), (fun d_h17_ d_j28_ d_h29_ d_z26_ d_e27_ => ⟨(fun d_h30_ d_j33_ d_h34_ d_z31_ d_e32_ d_j37_ d_h38_ d_z35_ d_e36_ => ⟨(fun d_h39_ => ⟨(fun d_h40_ d_M42_ _ d_hF46_ d_r41_ d_hs48_ d_h44_ d_hr_ d_hM_ => ?_), (fun d_h40_ => ⟨(fun d_h49_ d_M51_ _ d_hF55_ d_r50_ d_hs57_ d_h53_ d_hr_ d_hM_ => ?_), (fun d_h49_ => ⟨(fun d_h58_ d_M60_ _ d_hF64_ d_r59_ d_hs66_ d_h62_ d_hr_ d_hM_ => ?_), (fun d_h58_ d_w67_ d_h68_ d_h69_ d_w70_ d_h71_ d_h72_ d_w73_ d_h74_ d_h75_ d_j78_ d_h79_ d_z76_ d_e77_ d_h80_ d_w81_ d_h82_ d_h83_ d_z84_ d_h85_ => ⟨(fun d_h86_ d_M88_ _ d_hF92_ d_r87_ d_hs94_ d_h90_ d_hr_ d_hM_ => ?_), (fun d_h86_ d_w95_ d_h96_ d_h97_ d_w98_ d_h99_ d_h100_ d_w101_ d_h102_ d_h103_ d_j106_ d_h107_ d_z104_ d_e105_ d_h108_ d_w109_ d_h110_ d_h111_ d_z112_ d_h113_ => ⟨(fun d_h114_ d_v6_127 d_hv0_127 d_M_127 d_hL_127 _ d_hF_127 d_h116_ d_v6_164 d_hv0_164 d_M_164 d_hL_164 _ d_hF_164 d_h118_ d_hr_ d_hM_ => ?_), (fun d_h114_ d_M156_ _ d_hF160_ d_r155_ d_hs162_ d_h158_ d_hr_ d_hM_ => ?_)⟩)⟩)⟩)⟩)⟩), (fun d_h39_ d_M164_ _ d_hF168_ d_r163_ d_hs170_ d_h166_ d_hr_ d_hM_ => ?_)⟩), (fun d_h30_ d_M172_ _ d_hF176_ d_r171_ d_hs178_ d_h174_ d_hr_ d_hM_ => ?_)⟩)⟩), (fun d_hs11_ d_h10_ d_M181_ _ d_hF185_ d_r180_ d_hs187_ d_h183_ d_hr_ d_hM_ => ?_)⟩), (fun d_hs5_ d_h4_ d_M190_ _ d_hF194_ d_r189_ d_hs196_ d_h192_ d_hr_ d_hM_ => ?_)⟩
    · skip
      exact shE hS c_hF91_ c_hM_ d_hF23_ d_hM_
    · skip
      exact shE hS c_hF91_ c_hM_ d_hF46_ d_hM_
    · skip
      exact shE hS c_hF91_ c_hM_ d_hF55_ d_hM_
    · skip
      exact shE hS c_hF91_ c_hM_ d_hF64_ d_hM_
    · skip
      exact shE hS c_hF91_ c_hM_ d_hF92_ d_hM_
    · skip
      obtain rfl : d_j15_ = v.toInt.toNat := by omega
      obtain rfl : d_j33_ = v.toInt.toNat := by omega
      obtain rfl : d_j78_ = v.toInt.toNat := by omega
      obtain rfl : d_j28_ = t.toInt.toNat := by omega
      obtain rfl : d_j37_ = t.toInt.toNat := by omega
      obtain rfl : d_j106_ = t.toInt.toNat := by omega
      have yde14_ := eT d_e14_
      have yde27_ := eT d_e27_
      have yde32_ := eT d_e32_
      have yde36_ := eT d_e36_
      have yde77_ := eT d_e77_
      have yde105_ := eT d_e105_
      omega
    · skip
      exact shE hS c_hF91_ c_hM_ d_hF160_ d_hM_
    · skip
      exact shE hS c_hF91_ c_hM_ d_hF168_ d_hM_
    · skip
      exact shE hS c_hF91_ c_hM_ d_hF176_ d_hM_
    · skip
      exact shE hS c_hF91_ c_hM_ d_hF185_ d_hM_
    · skip
      exact shE hS c_hF91_ c_hM_ d_hF194_ d_hM_
  ·
    refine xE_SP_X12_move h2 ⟨(fun d_hs5_ d_h4_ => ⟨(fun d_hs11_ d_h10_ d_j15_ d_h16_ d_z13_ d_e14_ => ⟨(fun d_h17_ d_M19_ _ d_hF23_ d_r18_ d_hs25_ d_h21_ d_hr_ d_hM_ => ?_), (fun d_h17_ d_j28_ d_h29_ d_z26_ d_e27_ => ⟨(fun d_h30_ d_j33_ d_h34_ d_z31_ d_e32_ d_j37_ d_h38_ d_z35_ d_e36_ => ⟨(fun d_h39_ => ⟨(fun d_h40_ d_M42_ _ d_hF46_ d_r41_ d_hs48_ d_h44_ d_hr_ d_hM_ => ?_), (fun d_h40_ => ⟨(fun d_h49_ d_M51_ _ d_hF55_ d_r50_ d_hs57_ d_h53_ d_hr_ d_hM_ => ?_), (fun d_h49_ => ⟨(fun d_h58_ d_M60_ _ d_hF64_ d_r59_ d_hs66_ d_h62_ d_hr_ d_hM_ => ?_), (fun d_h58_ d_w67_ d_h68_ d_h69_ d_w70_ d_h71_ d_h72_ d_w73_ d_h74_ d_h75_ d_j78_ d_h79_ d_z76_ d_e77_ d_h80_ d_w81_ d_h82_ d_h83_ d_z84_ d_h85_ => ⟨(fun d_h86_ d_M88_ _ d_hF92_ d_r87_ d_hs94_ d_h90_ d_hr_ d_hM_ => ?_), (fun d_h86_ d_w95_ d_h96_ d_h97_ d_w98_ d_h99_ d_h100_ d_w101_ d_h102_ d_h103_ d_j106_ d_h107_ d_z104_ d_e105_ d_h108_ d_w109_ d_h110_ d_h111_ d_z112_ d_h113_ => ⟨(fun d_h114_ d_v6_127 d_hv0_127 d_M_127 d_hL_127 _ d_hF_127 d_h116_ d_v6_164 d_hv0_164 d_M_164 d_hL_164 _ d_hF_164 d_h118_ d_hr_ d_hM_ => ?_), (fun d_h114_ d_M156_ _ d_hF160_ d_r155_ d_hs162_ d_h158_ d_hr_ d_hM_ => ?_)⟩)⟩)⟩)⟩)⟩), (fun d_h39_ d_M164_ _ d_hF168_ d_r163_ d_hs170_ d_h166_ d_hr_ d_hM_ => ?_)⟩), (fun d_h30_ d_M172_ _ d_hF176_ d_r171_ d_hs178_ d_h174_ d_hr_ d_hM_ => ?_)⟩)⟩), (fun d_hs11_ d_h10_ d_M181_ _ d_hF185_ d_r180_ d_hs187_ d_h183_ d_hr_ d_hM_ => ?_)⟩), (fun d_hs5_ d_h4_ d_M190_ _ d_hF194_ d_r189_ d_hs196_ d_h192_ d_hr_ d_hM_ => ?_)⟩
    · skip
      exact shE hS c_hF100_ c_hM_ d_hF23_ d_hM_
    · skip
      exact shE hS c_hF100_ c_hM_ d_hF46_ d_hM_
    · skip
      exact shE hS c_hF100_ c_hM_ d_hF55_ d_hM_
    · skip
      exact shE hS c_hF100_ c_hM_ d_hF64_ d_hM_
    · skip
      exact shE hS c_hF100_ c_hM_ d_hF92_ d_hM_
    · skip
      obtain rfl : d_j15_ = v.toInt.toNat := by omega
      obtain rfl : d_j33_ = v.toInt.toNat := by omega
      obtain rfl : d_j78_ = v.toInt.toNat := by omega
      obtain rfl : d_j28_ = t.toInt.toNat := by omega
      obtain rfl : d_j37_ = t.toInt.toNat := by omega
      obtain rfl : d_j106_ = t.toInt.toNat := by omega
      have yde14_ := eT d_e14_
      have yde27_ := eT d_e27_
      have yde32_ := eT d_e32_
      have yde36_ := eT d_e36_
      have yde77_ := eT d_e77_
      have yde105_ := eT d_e105_
      omega
    · skip
      exact shE hS c_hF100_ c_hM_ d_hF160_ d_hM_
    · skip
      exact shE hS c_hF100_ c_hM_ d_hF168_ d_hM_
    · skip
      exact shE hS c_hF100_ c_hM_ d_hF176_ d_hM_
    · skip
      exact shE hS c_hF100_ c_hM_ d_hF185_ d_hM_
    · skip
      exact shE hS c_hF100_ c_hM_ d_hF194_ d_hM_
  ·
    refine xE_SP_X12_move h2 ⟨(fun d_hs5_ d_h4_ => ⟨(fun d_hs11_ d_h10_ d_j15_ d_h16_ d_z13_ d_e14_ => ⟨(fun d_h17_ d_M19_ _ d_hF23_ d_r18_ d_hs25_ d_h21_ d_hr_ d_hM_ => ?_), (fun d_h17_ d_j28_ d_h29_ d_z26_ d_e27_ => ⟨(fun d_h30_ d_j33_ d_h34_ d_z31_ d_e32_ d_j37_ d_h38_ d_z35_ d_e36_ => ⟨(fun d_h39_ => ⟨(fun d_h40_ d_M42_ _ d_hF46_ d_r41_ d_hs48_ d_h44_ d_hr_ d_hM_ => ?_), (fun d_h40_ => ⟨(fun d_h49_ d_M51_ _ d_hF55_ d_r50_ d_hs57_ d_h53_ d_hr_ d_hM_ => ?_), (fun d_h49_ => ⟨(fun d_h58_ d_M60_ _ d_hF64_ d_r59_ d_hs66_ d_h62_ d_hr_ d_hM_ => ?_), (fun d_h58_ d_w67_ d_h68_ d_h69_ d_w70_ d_h71_ d_h72_ d_w73_ d_h74_ d_h75_ d_j78_ d_h79_ d_z76_ d_e77_ d_h80_ d_w81_ d_h82_ d_h83_ d_z84_ d_h85_ => ⟨(fun d_h86_ d_M88_ _ d_hF92_ d_r87_ d_hs94_ d_h90_ d_hr_ d_hM_ => ?_), (fun d_h86_ d_w95_ d_h96_ d_h97_ d_w98_ d_h99_ d_h100_ d_w101_ d_h102_ d_h103_ d_j106_ d_h107_ d_z104_ d_e105_ d_h108_ d_w109_ d_h110_ d_h111_ d_z112_ d_h113_ => ⟨(fun d_h114_ d_v6_127 d_hv0_127 d_M_127 d_hL_127 _ d_hF_127 d_h116_ d_v6_164 d_hv0_164 d_M_164 d_hL_164 _ d_hF_164 d_h118_ d_hr_ d_hM_ => ?_), (fun d_h114_ d_M156_ _ d_hF160_ d_r155_ d_hs162_ d_h158_ d_hr_ d_hM_ => ?_)⟩)⟩)⟩)⟩)⟩), (fun d_h39_ d_M164_ _ d_hF168_ d_r163_ d_hs170_ d_h166_ d_hr_ d_hM_ => ?_)⟩), (fun d_h30_ d_M172_ _ d_hF176_ d_r171_ d_hs178_ d_h174_ d_hr_ d_hM_ => ?_)⟩)⟩), (fun d_hs11_ d_h10_ d_M181_ _ d_hF185_ d_r180_ d_hs187_ d_h183_ d_hr_ d_hM_ => ?_)⟩), (fun d_hs5_ d_h4_ d_M190_ _ d_hF194_ d_r189_ d_hs196_ d_h192_ d_hr_ d_hM_ => ?_)⟩
    · skip
      exact shE hS c_hF109_ c_hM_ d_hF23_ d_hM_
    · skip
      exact shE hS c_hF109_ c_hM_ d_hF46_ d_hM_
    · skip
      exact shE hS c_hF109_ c_hM_ d_hF55_ d_hM_
    · skip
      exact shE hS c_hF109_ c_hM_ d_hF64_ d_hM_
    · skip
      exact shE hS c_hF109_ c_hM_ d_hF92_ d_hM_
    · skip
      obtain rfl : d_j15_ = v.toInt.toNat := by omega
      obtain rfl : d_j33_ = v.toInt.toNat := by omega
      obtain rfl : d_j78_ = v.toInt.toNat := by omega
      obtain rfl : d_j28_ = t.toInt.toNat := by omega
      obtain rfl : d_j37_ = t.toInt.toNat := by omega
      obtain rfl : d_j106_ = t.toInt.toNat := by omega
      have yde14_ := eT d_e14_
      have yde27_ := eT d_e27_
      have yde32_ := eT d_e32_
      have yde36_ := eT d_e36_
      have yde77_ := eT d_e77_
      have yde105_ := eT d_e105_
      omega
    · skip
      exact shE hS c_hF109_ c_hM_ d_hF160_ d_hM_
    · skip
      exact shE hS c_hF109_ c_hM_ d_hF168_ d_hM_
    · skip
      exact shE hS c_hF109_ c_hM_ d_hF176_ d_hM_
    · skip
      exact shE hS c_hF109_ c_hM_ d_hF185_ d_hM_
    · skip
      exact shE hS c_hF109_ c_hM_ d_hF194_ d_hM_
end
section
/-! a world takes all from another one -/
theorem RW_row {b : Nat} {q : rf → Nat → Int32} {n n2 : Nat → Int32} (h : RW b q n) (hN : NW5 n) (hn : ∀ j, j < 3567 → n2 j = n j) : RW b q n2 := by
  obtain ⟨⟨hL, hT, hW, hX, hO, hM⟩, hE, hA, hY⟩ := h
  have th := nTh_b hN
  have nw := nWa_b hN
  have nb := n345_b hN
  exact ⟨⟨LWR_keep hL (fun _ _ _ => rfl) (fun j hj => hn j (by omega)), THR_keep hT th.2 (fun _ _ _ => rfl) (fun j hj => hn j (by omega)), WAR_keep hW nw.2 (fun _ _ _ _ => rfl) rfl (fun j hj => hn j (by omega)),
    TXR_keep hX (TXz hN) (fun _ _ _ _ _ => rfl) (fun j h1 h2 => hn j (by omega)), OCC_keep hO th.2 nw.2 (fun _ => rfl) (fun j hj => hn j (by omega)) (fun j hj => hn j (by omega)), MIR_keep hM th.2 nw.2 (fun j hj => hn j (by omega)) (fun w h1 h2 => ⟨fun k hk => hn _ (by omega), fun c hc => hn _ (by omega)⟩)⟩,
    LER_keep hE nb.1.2 (fun _ _ _ => rfl) (fun j hj => hn j (by omega)), TAR_keep hA nb.2.1.2 (fun _ => rfl) (fun j hj => hn j (by omega)), WTR_keep hY nb.2.2.2 (fun _ => rfl) (fun j hj => hn j (by omega))⟩
theorem x7take {b b2 : Nat} {M M1 : mM} (h : SP_X7_takeFrom b b2 M M1) : M1.1 (7, b, 0) 5 = M.1 (7, b2, 0) 5 ∧ (∀ k, k < 192 → M1.1 (35, b, 0) k = M.1 (35, b2, 0) k) ∧ ∀ k, k < 40 → M1.1 (36, b, 0) k = M.1 (36, b2, 0) k ∧ M1.1 (37, b, 0) k = M.1 (37, b2, 0) k ∧ M1.1 (38, b, 0) k = M.1 (38, b2, 0) k ∧ M1.1 (39, b, 0) k = M.1 (39, b2, 0) k := by
  have n192 : (192 : Int32).toNatClampNeg = 192 := rfl
  have n40 : (40 : Int32).toNatClampNeg = 40 := rfl
  refine xE_SP_X7_takeFrom h (fun M1_ hM2_ M5_ hM6_ M9_ hM10_ M13_ hM14_ M17_ hM18_ z21_ e22_ M23_ hM24_ hM_ => ?_)
  rw [hM_]
  refine ⟨?_, fun k hk => ?_, fun k hk => ⟨?_, ?_, ?_, ?_⟩⟩
  · rw [zupE hM24_ rfl rfl, e22_, zcpR hM18_ (by simp), zcpR hM14_ (by simp), zcpR hM10_ (by simp), zcpR hM6_ (by simp), zcpR hM2_ (by simp)]
  · rw [zupR hM24_ (by simp), zcpR hM18_ (by simp), zcpR hM14_ (by simp), zcpR hM10_ (by simp), zcpR hM6_ (by simp), cp_at hM2_ (by omega)]
  · rw [zupR hM24_ (by simp), zcpR hM18_ (by simp), zcpR hM14_ (by simp), zcpR hM10_ (by simp), cp_at hM6_ (by omega), zcpR hM2_ (by simp)]
  · rw [zupR hM24_ (by simp), zcpR hM18_ (by simp), zcpR hM14_ (by simp), cp_at hM10_ (by omega), zcpR hM6_ (by simp), zcpR hM2_ (by simp)]
  · rw [zupR hM24_ (by simp), zcpR hM18_ (by simp), cp_at hM14_ (by omega), zcpR hM10_ (by simp), zcpR hM6_ (by simp), zcpR hM2_ (by simp)]
  · rw [zupR hM24_ (by simp), cp_at hM18_ (by omega), zcpR hM14_ (by simp), zcpR hM10_ (by simp), zcpR hM6_ (by simp), zcpR hM2_ (by simp)]
theorem x1take {b w b2 w2 : Nat} {M M1 : mM} (h : SP_X1_takeFrom b w b2 w2 M M1) : M1.1 (1, b, w) 2 = M.1 (1, b2, w2) 2 ∧ ∀ k, k < 48 → M1.1 (24, b, w) k = M.1 (24, b2, w2) k := by
  have n48 : (48 : Int32).toNatClampNeg = 48 := rfl
  refine xE_SP_X1_takeFrom h (fun z1_ e2_ M3_ hM4_ M7_ hM8_ hM_ => ?_)
  rw [hM_]
  refine ⟨?_, fun k hk => ?_⟩
  · rw [zcpR hM8_ (by simp), zupE hM4_ rfl rfl, e2_]
  · rw [cp_at hM8_ (by omega), zupR hM4_ (by simp)]
theorem x2takeT {b b2 : Nat} {M M1 : mM} (h : SP_X2_takeFrom b b2 M M1) (hb : ¬ b = b2) : ∀ u, u < 3 → M1.1 (1, b, u) 2 = M.1 (1, b2, u) 2 ∧ ∀ k, k < 48 → M1.1 (24, b, u) k = M.1 (24, b2, u) k := by
  refine xE_SP_X2_takeFrom h (fun z1_ e2_ M3_ hM4_ z7_ e8_ M9_ hM10_ z13_ e14_ M15_ hM16_ M19_ hM20_ M23_ hM24_ v2_54 hv0_54 hv1_54 M_54 hL_54 _ hF_54 h28_ hM_ => ?_)
  have pre : ∀ (c : rf) (k : Nat), c.1 = 1 ∨ c.1 = 24 → M23_.1 c k = M.1 c k := fun c k hc => by
    rw [zcpR hM24_ (by dsimp only; omega), zcpR hM20_ (by dsimp only; omega), zupR hM16_ (by dsimp only; omega), zupR hM10_ (by dsimp only; omega), zupR hM4_ (by dsimp only; omega)]
  have g := rind hL_54 (fun z => 0 ≤ z.1.toInt ∧ (∀ (c : rf) (k : Nat), c.2.1 = b2 → z.2.1 c k = M23_.1 c k) ∧ ∀ u : Nat, (u : Int) < z.1.toInt → z.2.1 (1, b, u) 2 = M.1 (1, b2, u) 2 ∧ ∀ k, k < 48 → z.2.1 (24, b, u) k = M.1 (24, b2, u) k) ⟨by dsimp only; have := il_0; omega, fun _ _ _ => rfl, fun u hu => by dsimp only at hu; have := il_0; omega⟩ (fun x z p st => by
    (try dsimp only at p st ⊢)
    obtain ⟨p1, p2, p3⟩ := p
    refine xE_ST_X2_takeFrom_54 st (fun k_hv0_54 k_hv1_54 _ k_hF_54 k_h28_ k_j29_ k_h30_ k_h31_ k_h32_ k_j33_ k_h34_ k_h35_ k_h36_ k_M37_ _ k_hF41_ k_hs43_ k_z44_ k_h45_ k_hq_v2_54y k_hM_ => ?_)
    have e := eT k_hq_v2_54y
    have tk := x1take k_hs43_
    have fr := k_hF41_
    rw [k_hM_]
    refine ⟨by omega, fun c k hc => ?_, fun u hu => ?_⟩
    · rw [fr c k (fun q => by simp only [S_c_X1_takeFrom, or_false] at q; omega)]; exact p2 c k hc
    · by_cases e2 : (u : Int) = x.1.toInt
      · obtain rfl : u = k_j29_ := by omega
        obtain rfl : k_j33_ = u := by omega
        refine ⟨by rw [tk.1, p2 _ _ rfl]; exact pre _ _ (by simp), fun k hk => by rw [tk.2 k hk, p2 _ _ rfl]; exact pre _ _ (by simp)⟩
      · have g := p3 u (by omega)
        refine ⟨by rw [fr _ _ (fun q => by simp only [S_c_X1_takeFrom, or_false] at q; omega)]; exact g.1, fun k hk => by rw [fr _ _ (fun q => by simp only [S_c_X1_takeFrom, or_false] at q; omega)]; exact g.2 k hk⟩)
  (try dsimp only at g)
  obtain ⟨g1, g2, g3⟩ := g
  rw [hM_]
  exact fun u hu => g3 u (by omega)
theorem x3takeT {b b2 : Nat} {M M1 : mM} (h : SP_X3_takeFrom b b2 M M1) : ∀ k, k < 7 → M1.1 (30, b, 0) k = M.1 (30, b2, 0) k ∧ M1.1 (31, b, 0) k = M.1 (31, b2, 0) k ∧ M1.1 (32, b, 0) k = M.1 (32, b2, 0) k := by
  have n7 : (7 : Int32).toNatClampNeg = 7 := rfl
  refine xE_SP_X3_takeFrom h (fun M1_ hM2_ M5_ hM6_ M9_ hM10_ z13_ e14_ M15_ hM16_ hM_ => ?_)
  rw [hM_]
  intro k hk
  refine ⟨?_, ?_, ?_⟩
  · rw [zupR hM16_ (by simp), zcpR hM10_ (by simp), zcpR hM6_ (by simp), cp_at hM2_ (by omega)]
  · rw [zupR hM16_ (by simp), zcpR hM10_ (by simp), cp_at hM6_ (by omega), zcpR hM2_ (by simp)]
  · rw [zupR hM16_ (by simp), cp_at hM10_ (by omega), zcpR hM6_ (by simp), zcpR hM2_ (by simp)]
theorem x5takeT {b b2 w : Nat} {M M1 : mM} (h : SP_X5_takeFrom b w b2 w M M1) (hb : ¬ b = b2) (hs : (M.1 (5, b2, w) 1).toInt ≤ ((rl w : Nat) : Int)) : ∀ i : Nat, (i : Int) < (M.1 (5, b2, w) 1).toInt → M1.1 (33, b, w) i = M.1 (33, b2, w) i := by
  have q0 := il_0
  refine xE_SP_X5_takeFrom h (fun z1_ e2_ z3_ h4_ z5_ h6_ M7_ hM8_ v2_18 hv0_18 M_18 hL_18 _ hF_18 z13_ e14_ h15_ h16_ hM_ => ?_)
  have y := eT e2_
  have c7 : ∀ (c : rf) (k : Nat), ¬ c = (5, b, w) → M7_.1 c k = M.1 c k := fun c k hc => zupN hM8_ (fun z => hc z.1)
  have nb : ∀ r : Nat, ¬ ((r, b2, w) : rf) = (r, b, w) := fun r z => hb (congrArg (fun c : rf => c.2.1) z).symm
  have g := rind hL_18 (fun z => 0 ≤ z.1.toInt ∧ (∀ (c : rf) (k : Nat), ¬ c = (33, b, w) → z.2.1 c k = M7_.1 c k) ∧ ∀ i : Nat, (i : Int) < z.1.toInt → z.2.1 (33, b, w) i = M.1 (33, b2, w) i) ⟨by dsimp only; omega, fun _ _ _ => rfl, fun i hi => by dsimp only at hi; omega⟩ (fun x z p st => by
    (try dsimp only at p st ⊢)
    obtain ⟨p1, p2, p3⟩ := p
    refine xE_ST_X5_takeFrom_18 st (fun k_hv0_18 _ k_hF_18 k_z13_ k_e14_ k_h15_ k_h16_ k_r17_ k_hs21_ k_j24_ k_h25_ k_M22_ k_hM23_ k_z29_ k_h30_ k_hq_v2_18y k_hM_ => ?_)
    have e := eT k_hq_v2_18y
    have y2 := eT k_e14_
    rw [p2 _ _ (cne (by omega)), zupE hM8_ rfl rfl] at y2
    have gt : k_r17_ = x.2.1 (33, b2, w) x.1.toInt.toNat := by
      refine xE_SP_X5_get k_hs21_ ⟨(fun m_h1_ m_hr_ => ?_), (fun m_h1_ m_z2_ m_e3_ => ⟨(fun m_h4_ m_hr_ => ?_), (fun m_h4_ m_z5_ m_h6_ => ⟨(fun m_h7_ m_hr_ => ?_), (fun m_h7_ m_j10_ m_h11_ m_z8_ m_e9_ m_hr_ => ?_)⟩)⟩)⟩
      · omega
      · have := eT m_e3_
        rw [p2 _ _ (cne (by omega)), c7 _ _ (nb 5)] at this
        omega
      · omega
      · rw [m_hr_, m_e9_, show m_j10_ = x.1.toInt.toNat by omega]
    rw [k_hM_]
    refine ⟨by omega, fun c k hc => ?_, fun i hi => ?_⟩
    · rw [zupN k_hM23_ (fun z => hc z.1)]; exact p2 c k hc
    · by_cases e2 : (i : Int) = x.1.toInt
      · rw [zupE k_hM23_ rfl (by omega), gt, p2 _ _ (nb 33), c7 _ _ (cne (by omega)), show x.1.toInt.toNat = i by omega]
      · rw [zupN k_hM23_ (fun z => by have := z.2; omega)]; exact p3 i (by omega))
  (try dsimp only at g)
  obtain ⟨g1, g2, g3⟩ := g
  have y3 := eT e14_
  rw [g2 _ _ (cne (by omega)), zupE hM8_ rfl rfl] at y3
  rw [hM_]
  exact fun i hi => g3 i (by omega)
theorem x9take {b b2 w : Nat} {M M1 : mM} (h : SP_X9_takeFrom b w b2 w M M1) (hb : ¬ b = b2) : (∀ k, k < 9 → M1.1 (9, b, w) k = M.1 (9, b2, w) k) ∧ ∀ k, k < 192 → M1.1 (40, b, w) k = M.1 (40, b2, w) k ∧ M1.1 (41, b, w) k = M.1 (41, b2, w) k := by
  have n192 : (192 : Int32).toNatClampNeg = 192 := rfl
  have nb : ∀ (r k j : Nat), ¬ (((r, b2, w) : rf) = (r, b, w) ∧ k = j) := fun r k j z => hb (congrArg (fun c : rf => c.2.1) z.1).symm
  refine xE_SP_X9_takeFrom h (fun z1_ e2_ M3_ hM4_ z7_ e8_ M9_ hM10_ z13_ e14_ M15_ hM16_ z19_ e20_ M21_ hM22_ z25_ e26_ M27_ hM28_ z31_ e32_ M33_ hM34_ z37_ e38_ h39_ M40_ hM41_ z44_ e45_ M46_ hM47_ z50_ e51_ M52_ hM53_ M56_ hM57_ M60_ hM61_ hM_ => ?_)
  rw [hM_]
  refine ⟨fun k hk => ?_, fun k hk => ⟨?_, ?_⟩⟩
  · rw [zcpR hM61_ (by simp), zcpR hM57_ (by simp)]
    rcases (show k = 0 ∨ k = 1 ∨ k = 2 ∨ k = 3 ∨ k = 4 ∨ k = 5 ∨ k = 6 ∨ k = 7 ∨ k = 8 by omega) with rfl | rfl | rfl | rfl | rfl | rfl | rfl | rfl | rfl
    · rw [zupN hM53_ (kne (by omega)), zupN hM47_ (kne (by omega)), zupN hM41_ (kne (by omega)), zupN hM34_ (kne (by omega)), zupN hM28_ (kne (by omega)), zupN hM22_ (kne (by omega)), zupN hM16_ (kne (by omega)), zupN hM10_ (kne (by omega)), zupE hM4_ rfl rfl, e2_]
    · rw [zupN hM53_ (kne (by omega)), zupN hM47_ (kne (by omega)), zupN hM41_ (kne (by omega)), zupN hM34_ (kne (by omega)), zupN hM28_ (kne (by omega)), zupN hM22_ (kne (by omega)), zupN hM16_ (kne (by omega)), zupE hM10_ rfl rfl, e8_, zupN hM4_ (nb 9 _ _)]
    · rw [zupN hM53_ (kne (by omega)), zupN hM47_ (kne (by omega)), zupN hM41_ (kne (by omega)), zupN hM34_ (kne (by omega)), zupN hM28_ (kne (by omega)), zupN hM22_ (kne (by omega)), zupE hM16_ rfl rfl, e14_, zupN hM10_ (nb 9 _ _), zupN hM4_ (nb 9 _ _)]
    · rw [zupN hM53_ (kne (by omega)), zupN hM47_ (kne (by omega)), zupN hM41_ (kne (by omega)), zupN hM34_ (kne (by omega)), zupN hM28_ (kne (by omega)), zupE hM22_ rfl rfl, e20_, zupN hM16_ (nb 9 _ _), zupN hM10_ (nb 9 _ _), zupN hM4_ (nb 9 _ _)]
    · rw [zupN hM53_ (kne (by omega)), zupN hM47_ (kne (by omega)), zupN hM41_ (kne (by omega)), zupN hM34_ (kne (by omega)), zupE hM28_ rfl rfl, e26_, zupN hM22_ (nb 9 _ _), zupN hM16_ (nb 9 _ _), zupN hM10_ (nb 9 _ _), zupN hM4_ (nb 9 _ _)]
    · rw [zupN hM53_ (kne (by omega)), zupN hM47_ (kne (by omega)), zupN hM41_ (kne (by omega)), zupE hM34_ rfl rfl, e32_, zupN hM28_ (nb 9 _ _), zupN hM22_ (nb 9 _ _), zupN hM16_ (nb 9 _ _), zupN hM10_ (nb 9 _ _), zupN hM4_ (nb 9 _ _)]
    · rw [zupN hM53_ (kne (by omega)), zupN hM47_ (kne (by omega)), zupE hM41_ rfl rfl, e38_, zupN hM34_ (nb 9 _ _), zupN hM28_ (nb 9 _ _), zupN hM22_ (nb 9 _ _), zupN hM16_ (nb 9 _ _), zupN hM10_ (nb 9 _ _), zupN hM4_ (nb 9 _ _)]
    · rw [zupN hM53_ (kne (by omega)), zupE hM47_ rfl rfl, e45_, zupN hM41_ (nb 9 _ _), zupN hM34_ (nb 9 _ _), zupN hM28_ (nb 9 _ _), zupN hM22_ (nb 9 _ _), zupN hM16_ (nb 9 _ _), zupN hM10_ (nb 9 _ _), zupN hM4_ (nb 9 _ _)]
    · rw [zupE hM53_ rfl rfl, e51_, zupN hM47_ (nb 9 _ _), zupN hM41_ (nb 9 _ _), zupN hM34_ (nb 9 _ _), zupN hM28_ (nb 9 _ _), zupN hM22_ (nb 9 _ _), zupN hM16_ (nb 9 _ _), zupN hM10_ (nb 9 _ _), zupN hM4_ (nb 9 _ _)]
  · rw [zcpR hM61_ (by simp), cp_at hM57_ (by omega), zupR hM53_ (by simp), zupR hM47_ (by simp), zupR hM41_ (by simp), zupR hM34_ (by simp), zupR hM28_ (by simp), zupR hM22_ (by simp), zupR hM16_ (by simp), zupR hM10_ (by simp), zupR hM4_ (by simp)]
  · rw [cp_at hM61_ (by omega), zcpR hM57_ (by simp), zupR hM53_ (by simp), zupR hM47_ (by simp), zupR hM41_ (by simp), zupR hM34_ (by simp), zupR hM28_ (by simp), zupR hM22_ (by simp), zupR hM16_ (by simp), zupR hM10_ (by simp), zupR hM4_ (by simp)]
end
section
theorem OCC_b2 {b b2 : Nat} {q q2 : rf → Nat → Int32} {n : Nat → Int32} (h : OCC b2 q n) (hN : NW5 n) (hq : ∀ k, k < 192 → q2 (35, b, 0) k = q (35, b2, 0) k) : OCC b q2 n := by
  have th := nTh_b hN
  have nw := nWa_b hN
  have eo : ∀ k, k < 192 → occ b q2 k = occ b2 q k := fun k hk => by unfold occ; rw [hq k hk]
  obtain ⟨h1, h2, h3⟩ := h
  refine ⟨fun t a c => ?_, fun w a => ?_, fun c hc => ?_⟩
  · have z := ((hN.1 (21 + 4 * t)).2.2.2.2.2.2.1 (by omega) (by omega)).2.1 (by omega)
    have e : tcl n t = (n (21 + 4 * t)).toInt := rfl
    rw [eo _ (by omega)]; exact h1 t a c
  · have z := ((hN.1 (181 + 9 * w)).2.2.2.2.2.2.2 (by omega) (by omega)).2.1 (by omega)
    have e : wcl n w = (n (181 + 9 * w)).toInt := rfl
    rw [eo _ (by omega)]; exact h2 w a
  · rw [eo c hc]; exact h3 c hc
theorem RW_take {b b2 : Nat} {M M1 : mM} {n : Nat → Int32} (h : RW b2 M.1 n) (hN : NW5 n) (ht : SP_X10_takeFrom b b2 M M1) (hb : ¬ b = b2) (h0 : (M.1 (5, b2, 0) 1).toInt = (n 4).toInt) (h1 : (M.1 (5, b2, 1) 1).toInt = (n 5).toInt) : RW b M1.1 n := by
  have hl0 : rl 0 = 48 := rfl
  have hl1 : rl 1 = 24 := rfl
  have q0 := il_0
  have rn : nWa n = (n 2).toInt := rfl
  have th := nTh_b hN
  have nw := nWa_b hN
  have nb := n345_b hN
  have X := x10take ht hb (by omega) (by omega)
  obtain ⟨X1, X2, X3, X4, X5⟩ := X
  obtain ⟨⟨hL, hT, hW, hXt, hO, hM⟩, hE, hA, hY⟩ := h
  have e10 := eT hW.1
  have ne : ∀ (r w : Nat), ¬ ((r, b2, w) : rf) = (r, b, w) := fun r w z => hb (congrArg (fun c : rf => c.2.1) z).symm
  refine xE_SP_X10_takeFrom ht (fun M1_ _ hF5_ hs7_ M8_ _ hF12_ hs14_ M15_ _ hF19_ hs21_ M22_ _ hF26_ hs28_ M29_ _ hF33_ hs35_ z36_ e37_ M38_ hM39_ z42_ e43_ M44_ hM45_ v2_73 hv0_73 M_73 hL_73 _ hF_73 z49_ e50_ => ⟨(fun h51_ hM_ => ?_), (fun h51_ h52_ hM_ => ?_)⟩)
  all_goals
    have g7 : ∀ (c : rf) (k : Nat), ¬ (c.2.1 = b ∧ (c.1 = 35 ∨ c.1 = 36 ∨ c.1 = 37 ∨ c.1 = 38 ∨ c.1 = 39 ∨ c.1 = 7)) → M1_.1 c k = M.1 c k := fun c k hc => hF5_ c k (fun q => by simp only [S_c_X7_takeFrom, or_false] at q; omega)
    have g2 : ∀ (c : rf) (k : Nat), ¬ (c.2.1 = b ∧ (c.1 = 2 ∨ c.1 = 26 ∨ c.1 = 27 ∨ c.1 = 1 ∨ c.1 = 24)) → M8_.1 c k = M1_.1 c k := fun c k hc => hF12_ c k (fun q => by simp only [S_c_X2_takeFrom, or_false] at q; omega)
    have g3 : ∀ (c : rf) (k : Nat), ¬ (c.2.1 = b ∧ (c.1 = 3 ∨ c.1 = 30 ∨ c.1 = 31 ∨ c.1 = 32)) → M15_.1 c k = M8_.1 c k := fun c k hc => hF19_ c k (fun q => by simp only [S_c_X3_takeFrom, or_false] at q; omega)
    have g5 : ∀ (c : rf) (k : Nat), ¬ ((c.1 = 5 ∨ c.1 = 33) ∧ c.2.1 = b ∧ c.2.2 = 0) → M22_.1 c k = M15_.1 c k := fun c k hc => hF26_ c k (fun q => by simp only [S_c_X5_takeFrom, or_false] at q; omega)
    have g6 : ∀ (c : rf) (k : Nat), ¬ ((c.1 = 5 ∨ c.1 = 33) ∧ c.2.1 = b ∧ c.2.2 = 1) → M29_.1 c k = M22_.1 c k := fun c k hc => hF33_ c k (fun q => by simp only [S_c_X5_takeFrom, or_false] at q; omega)
    have g8 : ∀ (c : rf) (k : Nat), ¬ c = (10, b, 0) → M44_.1 c k = M29_.1 c k := fun c k hc => by rw [zupN hM45_ (fun z => hc z.1), zupN hM39_ (fun z => hc z.1)]
    -- what stands in the other world all the time
    have s29 : ∀ (r w k : Nat), M29_.1 (r, b2, w) k = M.1 (r, b2, w) k := fun r w k => by rw [g6 _ _ (fun z => by have := z.2.1; dsimp only at this; omega), g5 _ _ (fun z => by have := z.2.1; dsimp only at this; omega), g3 _ _ (fun z => by have := z.1; dsimp only at this; omega), g2 _ _ (fun z => by have := z.1; dsimp only at this; omega), g7 _ _ (fun z => by have := z.1; dsimp only at this; omega)]
    have s44 : ∀ (r w k : Nat), M44_.1 (r, b2, w) k = M.1 (r, b2, w) k := fun r w k => by rw [g8 _ _ (fun z => hb (congrArg (fun c : rf => c.2.1) z).symm), s29]
    have a := x9loop hL_73
    have L := rind hL_73 (fun z => 0 ≤ z.1.toInt ∧ (∀ (r w k : Nat), z.2.1 (r, b2, w) k = M44_.1 (r, b2, w) k) ∧ ∀ w : Nat, (w : Int) < z.1.toInt → (∀ k, k < 9 → z.2.1 (9, b, w) k = M.1 (9, b2, w) k) ∧ ∀ k, k < 192 → z.2.1 (40, b, w) k = M.1 (40, b2, w) k ∧ z.2.1 (41, b, w) k = M.1 (41, b2, w) k) ⟨by dsimp only; omega, fun _ _ _ => rfl, fun w hw => by dsimp only at hw; omega⟩ (fun x z p st => by
      (try dsimp only at p st ⊢)
      obtain ⟨p1, p2, p3⟩ := p
      refine xE_ST_X10_takeFrom_73 st (fun k_hv0_73 _ k_hF_73 k_z49_ k_e50_ k_h51_ k_h52_ k_j53_ k_h54_ k_h55_ k_j56_ k_h57_ k_h58_ k_M59_ _ k_hF63_ k_hs65_ k_z66_ k_h67_ k_hq_v2_73y k_hM_ => ?_)
      have e := eT k_hq_v2_73y
      obtain rfl : k_j53_ = k_j56_ := by omega
      have tk := x9take k_hs65_ hb
      rw [k_hM_]
      refine ⟨by omega, fun r w k => ?_, fun w hw => ?_⟩
      · rw [k_hF63_ _ _ (fun q => by simp only [S_c_X9_takeFrom, or_false] at q; omega)]; exact p2 r w k
      · by_cases e2 : (w : Int) = x.1.toInt
        · obtain rfl : w = k_j53_ := by omega
          exact ⟨fun k hk => by rw [tk.1 k hk, p2, s44], fun k hk => ⟨by rw [(tk.2 k hk).1, p2, s44], by rw [(tk.2 k hk).2, p2, s44]⟩⟩
        · have g := p3 w (by omega)
          exact ⟨fun k hk => by rw [k_hF63_ _ _ (fun q => by simp only [S_c_X9_takeFrom, or_false] at q; omega)]; exact g.1 k hk, fun k hk => ⟨by rw [k_hF63_ _ _ (fun q => by simp only [S_c_X9_takeFrom, or_false] at q; omega)]; exact (g.2 k hk).1, by rw [k_hF63_ _ _ (fun q => by simp only [S_c_X9_takeFrom, or_false] at q; omega)]; exact (g.2 k hk).2⟩⟩)
    (try dsimp only at L)
    obtain ⟨L1, L2, L3⟩ := L
    have t7 := x7take hs7_
    have tt := x2takeT hs14_ hb
    have t3 := x3takeT hs21_
    have c50 : M15_.1 (5, b2, 0) 1 = M.1 (5, b2, 0) 1 := by rw [g3 _ _ (by simp), g2 _ _ (by simp), g7 _ _ (by simp)]
    have c51 : M22_.1 (5, b2, 1) 1 = M.1 (5, b2, 1) 1 := by rw [g5 _ _ (by simp), g3 _ _ (by simp), g2 _ _ (by simp), g7 _ _ (by simp)]
    have t5 := x5takeT hs28_ hb (by rw [c50]; omega)
    have t6 := x5takeT hs35_ hb (by rw [c51]; omega)
    rw [c50] at t5
    rw [c51] at t6
    have f10 : M_73.1 (10, b, 0) 6 = M.1 (10, b2, 0) 6 := by rw [a _ _ (by simp), zupN hM45_ (by simp), zupE hM39_ rfl rfl, e37_, s29]
    have y49 := eT e50_
    rw [f10] at y49
    have F : ∀ (c : rf) (k : Nat), ¬ (c.1 = 9 ∨ c.1 = 40 ∨ c.1 = 41) → ¬ c.1 = 10 → M_73.1 c k = M29_.1 c k := fun c k h1 h2 => by rw [a c k h1, g8 c k (fun z => h2 (by rw [z]))]
    have F7 : ∀ (c : rf) (k : Nat), (c.1 = 35 ∨ c.1 = 36 ∨ c.1 = 37 ∨ c.1 = 38 ∨ c.1 = 39 ∨ c.1 = 7) → M_73.1 c k = M1_.1 c k := fun c k hc => by rw [F c k (by omega) (by omega), g6 _ _ (by omega), g5 _ _ (by omega), g3 _ _ (by omega), g2 _ _ (by omega)]
    have FT : ∀ (c : rf) (k : Nat), (c.1 = 1 ∨ c.1 = 24) → M_73.1 c k = M8_.1 c k := fun c k hc => by rw [F c k (by omega) (by omega), g6 _ _ (by omega), g5 _ _ (by omega), g3 _ _ (by omega)]
    have F3 : ∀ (c : rf) (k : Nat), (c.1 = 30 ∨ c.1 = 31 ∨ c.1 = 32) → M_73.1 c k = M15_.1 c k := fun c k hc => by rw [F c k (by omega) (by omega), g6 _ _ (by omega), g5 _ _ (by omega)]
    rw [hM_] at X1 X2 X3 X4 X5 ⊢
    refine ⟨⟨⟨X1.trans hL.1, fun k hk => (X4 k (by omega)).trans (hL.2.1 k hk), fun k hk => ⟨(X5 k hk).1.trans (hL.2.2 k hk).1, (X5 k hk).2.trans (hL.2.2 k hk).2⟩⟩, ⟨?_, fun t ht => ?_⟩, ⟨f10.trans hW.1, fun w hw => ?_⟩, fun u hu => ?_, OCC_b2 hO hN (fun k hk => ?_), hM⟩, fun l hl => ?_, fun i hi => ?_, fun i hi => ?_⟩
    · rw [F7 _ _ (by simp), t7.1]; exact hT.1
    · have g := t7.2.2 t (by omega)
      rw [F7 _ _ (by simp), F7 (37, b, 0) _ (by simp), F7 (38, b, 0) _ (by simp), F7 (39, b, 0) _ (by simp), g.1, g.2.1, g.2.2.1, g.2.2.2]
      exact hT.2 t ht
    · have g := L3 w (by omega)
      exact ⟨fun k hk => (g.1 k hk).trans ((hW.2 w hw).1 k hk), fun c hc => ⟨(g.2 c hc).1.trans ((hW.2 w hw).2 c hc).1, (g.2 c hc).2.trans ((hW.2 w hw).2 c hc).2⟩⟩
    · have g := tt u hu
      have z := TXz hN u hu
      have m1 : ∀ (c : rf) (k : Nat), c.1 = 1 ∨ c.1 = 24 → M1_.1 c k = M.1 c k := fun c k hc => g7 c k (by omega)
      rw [FT _ _ (by simp), g.1, m1 _ _ (by simp)]
      refine ⟨(hXt u hu).1, fun i hi => ?_⟩
      rw [FT _ _ (by simp), g.2 i (by omega), m1 _ _ (by simp)]
      exact (hXt u hu).2 i hi
    · rw [F7 _ _ (by simp), t7.2.1 k hk]
    · have g := t3 l (by omega)
      have m8 : ∀ (r k : Nat), r = 30 ∨ r = 31 ∨ r = 32 → M8_.1 (r, b2, 0) k = M.1 (r, b2, 0) k := fun r k hr => by rw [g2 _ _ (by dsimp only; omega), g7 _ _ (by dsimp only; omega)]
      rw [F3 _ _ (by simp), F3 (31, b, 0) _ (by simp), F3 (32, b, 0) _ (by simp), g.1, g.2.1, g.2.2, m8 _ _ (by simp), m8 _ _ (by simp), m8 _ _ (by simp)]
      exact hE l hl
    · rw [F _ _ (by simp) (by simp), g6 _ _ (by simp), t5 i (by omega), g3 _ _ (by simp), g2 _ _ (by simp), g7 _ _ (by simp)]
      exact hA i hi
    · rw [F _ _ (by simp) (by simp), t6 i (by omega), g5 _ _ (by simp), g3 _ _ (by simp), g2 _ _ (by simp), g7 _ _ (by simp)]
      exact hY i hi
end
section
/-! image, restore -/
theorem cb_35 {M M1 D D2 : mM} {r1 r2 : Int32} (h1 : SP_X11_image M r1 M1) (h2 : SP_X12_image D r2 D2) (hR : RW 0 M.1 (D.1 (50, 0, 0))) (hD : InvD D) (h4 : M.1 (5, 0, 0) 1 = D.1 (50, 0, 0) 4) (h5 : M.1 (5, 0, 1) 1 = D.1 (50, 0, 0) 5) (h8 : M.1 (11, 0, 0) 8 = D.1 (12, 0, 0) 3) : RW 0 M1.1 (D2.1 (50, 0, 0)) ∧ RW 1 M1.1 (D2.1 (51, 0, 0)) ∧ r1 = r2 := by
  have hN : NW5 (D.1 (50, 0, 0)) := hD.2.1
  refine xE_SP_X11_image h1 (fun c_M1_ _ c_hF5_ c_hs7_ c_z8_ c_e9_ c_z10_ c_h11_ c_M12_ c_hM13_ c_z16_ c_e17_ c_hr_ c_hM_ => ?_)
  refine xE_SP_X12_image h2 (fun d_M1_ _ d_hF5_ d_hs7_ d_z9_ d_e10_ d_z11_ d_h12_ d_M13_ d_hM14_ d_z17_ d_e18_ d_hr_ d_hM_ => ?_)
  have tk := RW_take (b := 1) hR hN c_hs7_ (by omega) (by rw [h4]) (by rw [h5])
  have e50 : D2.1 (50, 0, 0) = D.1 (50, 0, 0) := funext fun k => by rw [d_hM_, zupR d_hM14_ (by simp)]; exact d_hF5_ _ _ (fun q => by simp only [S_c_copy_50_51, or_false] at q; omega)
  have c51 := cpy51 d_hs7_
  have up1 : ∀ (c : rf) (k : Nat), wR c.1 → M1.1 c k = c_M1_.1 c k := fun c k a => by rw [c_hM_, zupR c_hM13_ (fun z => by unfold wR at a; omega)]
  have m50 : ∀ k, d_M1_.1 (50, 0, 0) k = D.1 (50, 0, 0) k := fun k => d_hF5_ _ _ (fun q => by simp only [S_c_copy_50_51, or_false] at q; omega)
  refine ⟨?_, ?_, ?_⟩
  · rw [e50]
    exact RW_same hR hN (fun c k a b => by rw [up1 c k a]; exact c_hF5_ c k (fun q => by simp only [S_c_X10_takeFrom, or_false] at q; omega))
  · refine RW_row (RW_same tk hN (fun c k a _ => up1 c k a)) hN (fun j hj => ?_)
    rw [d_hM_, zupR d_hM14_ (by simp), c51 j hj, m50]
  · have w1 : c_M1_.1 (11, 0, 0) 8 = M.1 (11, 0, 0) 8 := c_hF5_ _ _ (fun q => by simp only [S_c_X10_takeFrom, or_false] at q; omega)
    have w2 : d_M1_.1 (12, 0, 0) 3 = D.1 (12, 0, 0) 3 := d_hF5_ _ _ (fun q => by simp only [S_c_copy_50_51, or_false] at q; omega)
    rw [c_hr_, c_e17_, c_hM13_, up_same, c_h11_, c_e9_, w1, d_hr_, d_e18_, d_hM14_, up_same, d_h12_, d_e10_, w2, h8]
theorem cb_36 {M M1 D D2 : mM} {r1 r2 : Int32} (h1 : SP_X11_restore M r1 M1) (h2 : SP_X12_restore D r2 D2) (hR : RW 0 M.1 (D.1 (50, 0, 0))) (hD : InvD D) (h8 : M.1 (11, 0, 0) 8 = D.1 (12, 0, 0) 3) (hI : ¬ (D.1 (12, 0, 0) 3).toInt = 0 → RW 1 M.1 (D.1 (51, 0, 0)) ∧ M.1 (5, 1, 0) 1 = D.1 (51, 0, 0) 4 ∧ M.1 (5, 1, 1) 1 = D.1 (51, 0, 0) 5) : RW 0 M1.1 (D2.1 (50, 0, 0)) ∧ (¬ (D.1 (12, 0, 0) 3).toInt = 0 → RW 1 M1.1 (D2.1 (51, 0, 0))) ∧ r1 = r2 := by
  have hN : NW5 (D.1 (50, 0, 0)) := hD.2.1
  have hN1 : NW5 (D.1 (51, 0, 0)) := hD.2.2.1
  have e8 := eT h8
  refine xE_SP_X11_restore h1 (fun c_z1_ c_e2_ => ⟨(fun c_h3_ c_M4_ _ c_hF8_ c_hs10_ c_z11_ c_e12_ c_hr_ c_hM_ => ?_), (fun c_h3_ c_M14_ _ c_hF18_ c_r13_ c_hs20_ c_hr_ c_hM_ => ?_)⟩)
  · have y1 := eT c_e2_
    refine xE_SP_X12_restore h2 (fun d_z1_ d_e2_ => ⟨(fun d_h3_ d_M4_ _ d_hF8_ d_hs10_ d_z12_ d_e13_ d_hr_ d_hM_ => ?_), (fun d_h3_ d_M15_ _ d_hF19_ d_r14_ d_hs21_ d_h17_ d_hr_ d_hM_ => ?_)⟩)
    · have y2 := eT d_e2_
      obtain ⟨i1, i2, i3⟩ := hI (by omega)
      have tk := RW_take (b := 0) i1 hN1 c_hs10_ (by omega) (by rw [i2]) (by rw [i3])
      have c50 := cpy50 d_hs10_
      have m51 : ∀ k, d_M4_.1 (51, 0, 0) k = D.1 (51, 0, 0) k := fun k => d_hF8_ _ _ (fun q => by simp only [S_c_copy_51_50, or_false] at q; omega)
      have e51 : D2.1 (51, 0, 0) = D.1 (51, 0, 0) := funext fun k => by rw [d_hM_]; exact m51 k
      have R0 : RW 0 M1.1 (D2.1 (50, 0, 0)) := by
        rw [c_hM_, d_hM_]
        exact RW_row tk hN1 (fun j hj => by rw [c50 j hj, m51])
      refine ⟨R0, fun _ => ?_, ?_⟩
      · rw [e51, c_hM_]
        exact RW_same i1 hN1 (fun c k a b => c_hF8_ c k (fun q => by simp only [S_c_X10_takeFrom, or_false] at q; omega))
      · rw [c_hr_, c_e12_, d_hr_, d_e13_]
        rw [c_hM_, d_hM_] at R0
        exact R0.1.1.1
    · have y2 := eT d_e2_
      omega
  · have y1 := eT c_e2_
    refine xE_SP_X12_restore h2 (fun d_z1_ d_e2_ => ⟨(fun d_h3_ d_M4_ _ d_hF8_ d_hs10_ d_z12_ d_e13_ d_hr_ d_hM_ => ?_), (fun d_h3_ d_M15_ _ d_hF19_ d_r14_ d_hs21_ d_h17_ d_hr_ d_hM_ => ?_)⟩)
    · have y2 := eT d_e2_
      omega
    · refine ⟨sameE hR hN c_hF18_ c_hM_ d_hF19_ d_hM_, fun q => ?_, i32e ?_⟩
      · have y2 := eT d_e2_
        omega
      · have e := err_r c_hs20_ (by first | decide | simp | (dsimp only; omega))
        rw [c_hr_, d_hr_, e, d_h17_]
        decide
end
section
/-! check -/
theorem RCH_map {α β : Type} {S : α → α → Prop} {T : β → β → Prop} (f : α → β) {a z : α} (h : RCH S a z) (hs : ∀ x y, S x y → T (f x) (f y)) : RCH T (f a) (f z) := rind h (fun z => RCH T (f a) (f z)) RCH.refl (fun x y p s => RCH.tail p (hs x y s))
/-- the waiting numbers' count alone differs -/
theorem WRR_n5 {b : Nat} {q : rf → Nat → Int32} {n n2 : Nat → Int32} (h : WRR b q n) (hN : NW5 n) (hn : ∀ j, j < 3567 → ¬ j = 5 → n2 j = n j) : WRR b q n2 := by
  obtain ⟨hL, hT, hW, hX, hO, hM⟩ := h
  have th := nTh_b hN
  have nw := nWa_b hN
  exact ⟨LWR_keep hL (fun _ _ _ => rfl) (fun j hj => hn j (by omega) (by omega)), THR_keep hT th.2 (fun _ _ _ => rfl) (fun j hj => hn j (by omega) (by omega)), WAR_keep hW nw.2 (fun _ _ _ _ => rfl) rfl (fun j hj => hn j (by omega) (by omega)),
    TXR_keep hX (TXz hN) (fun _ _ _ _ _ => rfl) (fun j h1 h2 => hn j (by omega) (by omega)), OCC_keep hO th.2 nw.2 (fun _ => rfl) (fun j hj => hn j (by omega) (by omega)) (fun j hj => hn j (by omega) (by omega)), MIR_keep hM th.2 nw.2 (fun j hj => hn j (by omega) (by omega)) (fun w h1 h2 => ⟨fun k hk => hn _ (by omega) (by omega), fun c hc => hn _ (by omega) (by omega)⟩)⟩
theorem RW_n5 {b : Nat} {q : rf → Nat → Int32} {n n2 : Nat → Int32} (h : RW b q n) (hN : NW5 n) (hn : ∀ j, j < 3567 → ¬ j = 5 → n2 j = n j) (h5 : (n2 5).toInt = 0) : RW b q n2 := by
  have nb := n345_b hN
  exact ⟨WRR_n5 h.1 hN hn, LER_keep h.2.1 nb.1.2 (fun _ _ _ => rfl) (fun j hj => hn j (by omega) (by omega)), TAR_keep h.2.2.1 nb.2.1.2 (fun _ => rfl) (fun j hj => hn j (by omega) (by omega)), fun i hi => by omega⟩
def CHc (w : Nat) (x y : Int32 × Int32 × mM) : Prop := x.2.1.toInt = 0 ∧ x.1.toInt < (x.2.2.1 (5, 2, 1) 1).toInt ∧ ∃ r : Int32, SP_X10_passTenth 2 x.2.2 y.2.2 ∧ FR (S_c_X10_passTenth 2) x.2.2 y.2.2 ∧ SP_X5_get 2 1 x.1 y.2.2 r ∧ y.1.toInt = x.1.toInt + 1 ∧ (((y.2.2.1 (9, 2, w) 1).toInt = r.toInt ∧ y.2.1.toInt = 0) ∨ (¬ (y.2.2.1 (9, 2, w) 1).toInt = r.toInt ∧ y.2.1.toInt = 1 + x.1.toInt))
def CHd (w : Nat) (N : Int) (x y : Int32 × Int32 × mM) : Prop := x.2.1.toInt = 0 ∧ (0 ≤ x.1.toInt ∧ x.1.toInt < N) ∧ SP_X12_tenth x.2.2 y.2.2 ∧ InvD x.2.2 ∧ y.1.toInt = x.1.toInt + 1 ∧ (((y.2.2.1 (50, 0, 0) (181 + 9 * w)).toInt = (y.2.2.1 (50, 0, 0) (321 + x.1.toInt.toNat)).toInt ∧ y.2.1.toInt = 0) ∨ (¬ (y.2.2.1 (50, 0, 0) (181 + 9 * w)).toInt = (y.2.2.1 (50, 0, 0) (321 + x.1.toInt.toNat)).toInt ∧ y.2.1.toInt = 1 + x.1.toInt))
def CHR (w : Nat) (N : Int) (x y : Int32 × Int32 × mM) : Prop := x.1.toInt = y.1.toInt ∧ x.2.1.toInt = y.2.1.toInt ∧ WRR 2 x.2.2.1 (y.2.2.1 (50, 0, 0)) ∧ (y.2.2.1 (12, 0, 0) 7).toInt = -1 ∧ (x.2.2.1 (5, 2, 1) 1).toInt = N ∧ (w : Int) < nWa (y.2.2.1 (50, 0, 0)) ∧ ∀ i : Nat, (i : Int) < N → x.2.2.1 (33, 2, 1) i = y.2.2.1 (50, 0, 0) (321 + i)
theorem check_loop {w : Nat} {N : Int} {C D : mM} {z t : Int32 × Int32 × mM} (hN : N ≤ 24) (h0 : CHR w N ((0 : Int32), (0 : Int32), C) ((0 : Int32), (0 : Int32), D)) (hc : RCH (CHc w) ((0 : Int32), (0 : Int32), C) z) (hd : RCH (CHd w N) ((0 : Int32), (0 : Int32), D) t)
    (fc : ¬ z.2.1.toInt = 0 ∨ (z.2.2.1 (5, 2, 1) 1).toInt ≤ z.1.toInt) (fd : ¬ t.2.1.toInt = 0 ∨ N ≤ t.1.toInt) : CHR w N z t := by
  have q0 := il_0
  have hl1 : ((rl 1 : Nat) : Int) = 24 := by decide
  refine lockE (CHR w N) hc hd h0 ?_ ?_ ?_
  · intro x z y t r s1 s2
    obtain ⟨r1, r2, r3, r4, r5, r6, r7⟩ := r
    obtain ⟨s0, s3, rr, s4, s5, s6, s7, s8⟩ := s1
    obtain ⟨t0, t3, t4, t5, t7, t8⟩ := s2
    have tb := tenth_both s4 t4 r3 t5 r4
    obtain ⟨b1, b2, b3⟩ := tb
    have kf := FSP_X12_tenth t4
    have kt := KSP_X12_tenth t4
    have nw := nWa_b t5.2.1
    have n2 : nWa (t.2.2.1 (50, 0, 0)) = nWa (y.2.2.1 (50, 0, 0)) := by unfold nWa; rw [kt 2 (by omega) (by first | decide | simp | (dsimp only; omega))]
    have c5 : z.2.2.1 (5, 2, 1) 1 = x.2.2.1 (5, 2, 1) 1 := s5 _ _ (fun q => by simp only [S_c_X10_passTenth, or_false] at q; omega)
    have c33 : ∀ i, z.2.2.1 (33, 2, 1) i = x.2.2.1 (33, 2, 1) i := fun i => s5 _ _ (fun q => by simp only [S_c_X10_passTenth, or_false] at q; omega)
    have wt : ∀ i : Nat, (i : Int) < N → z.2.2.1 (33, 2, 1) i = t.2.2.1 (50, 0, 0) (321 + i) := fun i hi => by rw [c33, kf _ (by omega) (by omega)]; exact r7 i hi
    have gt : rr = z.2.2.1 (33, 2, 1) x.1.toInt.toNat := by
      refine xE_SP_X5_get s6 ⟨(fun m_h1_ m_hr_ => ?_), (fun m_h1_ m_z2_ m_e3_ => ⟨(fun m_h4_ m_hr_ => ?_), (fun m_h4_ m_z5_ m_h6_ => ⟨(fun m_h7_ m_hr_ => ?_), (fun m_h7_ m_j10_ m_h11_ m_z8_ m_e9_ m_hr_ => ?_)⟩)⟩)⟩
      · omega
      · have := eT m_e3_
        rw [c5] at this
        omega
      · omega
      · rw [m_hr_, m_e9_, show m_j10_ = x.1.toInt.toNat by omega]
    have g33 := eT (wt x.1.toInt.toNat (by omega))
    rw [← gt, show 321 + x.1.toInt.toNat = 321 + y.1.toInt.toNat by omega] at g33
    have cel := eT ((b1.2.2.1.2 w (by omega)).1 1 (by omega))
    rw [show 180 + 9 * w + 1 = 181 + 9 * w by omega] at cel
    exact ⟨by omega, by omega, b1, b3, by rw [c5]; exact r5, by omega, wt⟩
  · intro y y' r s2
    obtain ⟨r1, r2, r3, r4, r5, r6, r7⟩ := r
    obtain ⟨t0, t3, -⟩ := s2
    omega
  · intro x x' r s1
    obtain ⟨r1, r2, r3, r4, r5, r6, r7⟩ := r
    obtain ⟨s0, s3, -⟩ := s1
    omega
theorem cb_38 {v : Int32} {M M1 D D2 : mM} {r1 r2 : Int32} (h1 : SP_X11_check v M r1 M1) (h2 : SP_X12_check v D r2 D2) (hR : RW 0 M.1 (D.1 (50, 0, 0))) (hD : InvD D) (hu : (D.1 (12, 0, 0) 7).toInt = -1) (h4 : M.1 (5, 0, 0) 1 = D.1 (50, 0, 0) 4) (h5 : M.1 (5, 0, 1) 1 = D.1 (50, 0, 0) 5) : RW 0 M1.1 (D2.1 (50, 0, 0)) ∧ r1 = r2 := by
  have q0 := il_0
  have q1 := il_1
  have hN : NW5 (D.1 (50, 0, 0)) := hD.2.1
  have n5 := (n345_b hN).2.2
  have nW := nWa_b hN
  have bW := eT hR.1.2.2.1.1
  have w2 : (D.1 (50, 0, 0) 2).toInt = nWa (D.1 (50, 0, 0)) := rfl
  have e5 := eT h5
  -- the class's steps
  have stC : ∀ (w : Nat) (x y : Int32 × mM), (w : Int) = v.toInt → ST_X11_check_50 v M x.1 x.2 y.1 y.2 → CHc w (x.1, (0 : Int32), x.2) (y.1, (0 : Int32), y.2) := fun w x y hw st => by
    refine xE_ST_X11_check_50 st (fun k_hv0_50 _ k_hF_50 k_z22_ k_e23_ k_h24_ k_M25_ _ k_hF29_ k_hs31_ k_j32_ k_h33_ k_h34_ k_z35_ k_e36_ k_r37_ k_hs41_ k_h42_ k_z43_ k_h44_ k_hq_v2_50y k_hM_ => ?_)
    have yk := eT k_e36_
    have yz := eT k_e23_
    refine ⟨q0, by dsimp only; omega, k_r37_, by dsimp only; rw [k_hM_]; exact k_hs31_, by dsimp only; rw [k_hM_]; exact k_hF29_, by dsimp only; rw [k_hM_]; exact k_hs41_, by dsimp only; rw [k_hq_v2_50y]; omega, Or.inl ⟨?_, q0⟩⟩
    (try dsimp only)
    rw [k_hM_, show w = k_j32_ by omega]
    omega
  have stD : ∀ (w : Nat) (z1 : Int32) (x y : Int32 × Int32 × mM), (w : Int) = v.toInt → 0 ≤ v.toInt ∧ v.toInt ≤ 7 → ST_X12_check_46 v D z1 x.1 x.2.1 x.2.2 y.1 y.2.1 y.2.2 → CHd w z1.toInt x y := fun w z1 x y hw hv st => by
    refine xE_ST_X12_check_46 st (fun k_hv0_46 k_hv1_46 k_hI_46 k_hF_46 k_h23_ k_h32_ k_M41_ k_hI44_ k_hF45_ k_hs47_ k_r48_ k_hs52_ k_h51_ k_z53_ k_h54_ k_j57_ k_h58_ k_z55_ k_e56_ k_h59_ k_z60_ k_h61_ k_j64_ k_h65_ k_z62_ k_e63_ => ⟨(fun k_h66_ k_z67_ k_h68_ k_z69_ k_h70_ k_hq_v4_46y k_hq_v3_46y k_hM_ => ?_), (fun k_h66_ k_z71_ k_h72_ k_hq_v4_46y k_hq_v3_46y k_hM_ => ?_)⟩)
    · have y1 := eT k_e56_
      have y2 := eT k_e63_
      refine ⟨k_h32_, ⟨k_hv0_46, k_h23_⟩, by rw [k_hM_]; exact k_hs47_, k_hI_46, by rw [k_hq_v4_46y]; omega, Or.inr ⟨?_, by rw [k_hq_v3_46y]; omega⟩⟩
      rw [k_hM_, show 181 + 9 * w = k_j57_ by omega, show 321 + x.1.toInt.toNat = k_j64_ by omega]
      omega
    · have y1 := eT k_e56_
      have y2 := eT k_e63_
      refine ⟨k_h32_, ⟨k_hv0_46, k_h23_⟩, by rw [k_hM_]; exact k_hs47_, k_hI_46, by rw [k_hq_v4_46y]; omega, Or.inl ⟨?_, by rw [k_hq_v3_46y]; exact q0⟩⟩
      rw [k_hM_, show 181 + 9 * w = k_j57_ by omega, show 321 + x.1.toInt.toNat = k_j64_ by omega]
      omega
  -- where both begin
  have beg : ∀ {C7 C D4 D14 : mM} {w : Nat}, (w : Int) < nWa (D.1 (50, 0, 0)) → SP_X10_takeFrom 2 0 M C7 → FR (S_c_X5_clear 0 1) C7 C → D4 = up D (50, 0, 0) 5 0 → FR (S_c_copy_50_52) D4 D14 → CHR w (D.1 (50, 0, 0) 5).toInt ((0 : Int32), (0 : Int32), C) ((0 : Int32), (0 : Int32), D14) := fun {C7 C D4 D14 w} hw a1 a2 a3 a4 => by
    have tk := RW_take (b := 2) hR hN a1 (by omega) (by rw [h4]) (by rw [h5])
    have X := x10take a1 (by omega) (by rw [h4]; exact (n345_b hN).2.1.2) (by rw [h5]; exact n5.2)
    have d14 : ∀ k, D14.1 (50, 0, 0) k = D4.1 (50, 0, 0) k := fun k => a4 _ _ (fun q => by simp only [S_c_copy_50_52, or_false] at q; omega)
    have d5 : ∀ k, ¬ k = 5 → D14.1 (50, 0, 0) k = D.1 (50, 0, 0) k := fun k hk => by rw [d14, zupN a3 (fun z => hk z.2)]
    have c2 : ∀ (c : rf) (k : Nat), c.2.1 = 2 → C.1 c k = C7.1 c k := fun c k hc => a2 c k (fun q => by simp only [S_c_X5_clear, or_false] at q; omega)
    refine ⟨rfl, rfl, WRR_n5 (WRR_same tk.1 hN (fun c k _ hc => c2 c k hc)) hN (fun j _ hj => d5 j hj), ?_, ?_, ?_, fun i hi => ?_⟩
    · (try dsimp only)
      rw [a4 (12, 0, 0) 7 (fun q => by simp only [S_c_copy_50_52, or_false] at q; omega), zupR a3 (by simp)]
      exact hu
    · (try dsimp only)
      rw [c2 _ _ rfl, X.2.2.1 1 (by omega), h5]
    · (try dsimp only)
      unfold nWa
      rw [d5 2 (by omega)]
      exact hw
    · (try dsimp only)
      rw [c2 _ _ rfl, d5 _ (by omega)]
      exact tk.2.2.2 i hi
  have fin : ∀ {q : rf → Nat → Int32} {n2 : Nat → Int32}, (∀ (c : rf) (k : Nat), wR c.1 → c.2.1 = 0 → q c k = M.1 c k) → (∀ j, j < 3567 → ¬ j = 5 → n2 j = D.1 (50, 0, 0) j) → (n2 5).toInt = 0 → RW 0 q n2 := fun hq hn hz => RW_n5 (RW_same hR hN hq) hN hn hz
  -- the model's row behind it
  have rowD : ∀ {D4 D14 D46 D24 : mM}, D4 = up D (50, 0, 0) 5 0 → SP_copy_50_52 D4 D14 → FR (S_c_copy_50_52) D4 D14 → (∀ k, D46.1 (52, 0, 0) k = D14.1 (52, 0, 0) k) → SP_copy_52_50 D46 D24 → FR (S_c_copy_52_50) D46 D24 → (∀ j, j < 3567 → ¬ j = 5 → D24.1 (50, 0, 0) j = D.1 (50, 0, 0) j) ∧ (D24.1 (50, 0, 0) 5).toInt = 0 := fun {D4 D14 D46 D24} a1 a2 a3 a4 a5 a6 => by
    have e : ∀ j, j < 3567 → D24.1 (50, 0, 0) j = D4.1 (50, 0, 0) j := fun j hj => by
      rw [cpy50b a5 j hj, a6 (52, 0, 0) j (fun q => by simp only [S_c_copy_52_50, or_false] at q; omega), a4, cpy52 a2 j hj]
      exact a3 _ _ (fun q => by simp only [S_c_copy_50_52, or_false] at q; omega)
    exact ⟨fun j hj h => by rw [e j hj, zupN a1 (fun z => h z.2)], by rw [e 5 (by omega), zupE a1 rfl rfl]; exact q0⟩
  have loop52 : ∀ {D14 : mM} {z1 : Int32} {t : Int32 × Int32 × mM}, RCH (fun x y : Int32 × Int32 × mM => ST_X12_check_46 v D z1 x.1 x.2.1 x.2.2 y.1 y.2.1 y.2.2) ((0 : Int32), (0 : Int32), D14) t → ∀ k, t.2.2.1 (52, 0, 0) k = D14.1 (52, 0, 0) k := fun {D14 z1 t} h => by
    refine rind h (fun z => ∀ k, z.2.2.1 (52, 0, 0) k = D14.1 (52, 0, 0) k) (fun _ => rfl) (fun x z p st => ?_)
    intro k
    (try dsimp only at p st ⊢)
    refine xE_ST_X12_check_46 st (fun k_hv0_46 k_hv1_46 _ k_hF_46 k_h23_ k_h32_ k_M41_ _ k_hF45_ k_hs47_ k_r48_ k_hs52_ k_h51_ k_z53_ k_h54_ k_j57_ k_h58_ k_z55_ k_e56_ k_h59_ k_z60_ k_h61_ k_j64_ k_h65_ k_z62_ k_e63_ => ⟨(fun k_h66_ k_z67_ k_h68_ k_z69_ k_h70_ k_hq_v4_46y k_hq_v3_46y k_hM_ => ?_), (fun k_h66_ k_z71_ k_h72_ k_hq_v4_46y k_hq_v3_46y k_hM_ => ?_)⟩)
    · rw [k_hM_, k_hF45_ _ _ (fun q => by simp only [S_c_X12_tenth, or_false] at q; omega)]; exact p k
    · rw [k_hM_, k_hF45_ _ _ (fun q => by simp only [S_c_X12_tenth, or_false] at q; omega)]; exact p k
  refine xE_SP_X11_check h1 ⟨(fun c_hs5_ c_h4_ c_M7_ _ c_hF11_ c_hs13_ c_M14_ _ c_hF18_ c_hs20_ c_v2_50 c_hv0_50 c_M_50 c_hL_50 _ c_hF_50 c_z22_ c_e23_ => ⟨(fun c_h24_ c_hr_ c_hM_ => ?_), (fun c_h24_ c_M25_ _ c_hF29_ c_hs31_ c_j32_ c_h33_ c_h34_ c_z35_ c_e36_ c_r37_ c_hs41_ c_h42_ c_z45_ c_h46_ c_hr_ c_hM_ => ?_)⟩), (fun c_hs5_ c_M48_ _ c_hF52_ c_hs54_ c_M56_ _ c_hF60_ c_r55_ c_hs62_ c_hr_ c_hM_ => ?_)⟩
  · have qh := x10has c_hs5_
    have kM : ∀ (c : rf) (k : Nat), wR c.1 → c.2.1 = 0 → M1.1 c k = M.1 c k := fun c k a b => by rw [c_hM_]; exact c_hF_50 c k (fun q => by unfold wR at a; simp only [S_c_X11_check, or_false] at q; omega)
    have yc := eT c_e23_
    refine xE_SP_X12_check h2 (fun d_z1_ d_e2_ d_h3_ d_M4_ d_hM5_ _ => ⟨(fun d_hs12_ d_h11_ d_M14_ _ d_hF18_ d_hs20_ d_v4_46 d_hv0_46 d_hv1_46 d_v3_46 d_M_46 d_hL_46 _ d_hF_46 => ⟨(fun d_h23_ d_M24_ _ d_hF28_ d_hs30_ d_hr_ d_hM_ => ?_), (fun d_h23_ d_h32_ d_M33_ _ d_hF37_ d_hs39_ d_hr_ d_hM_ => ?_)⟩), (fun d_hs12_ d_M75_ _ d_hF79_ d_r74_ d_hs81_ d_h77_ d_hr_ d_hM_ => ?_)⟩)
    · have cb := beg (w := v.toInt.toNat) (by omega) c_hs13_ c_hF18_ d_hM5_ d_hF18_
      have yd := eT d_e2_
      rw [← yd] at cb
      have L := check_loop (by omega) cb (RCH_map (fun x : Int32 × mM => (x.1, (0 : Int32), x.2)) c_hL_50 (fun x y s => stC _ x y (by omega) s)) (RCH_mono d_hL_46 (fun x y s => stD _ _ x y (by omega) d_h11_ s)) (Or.inr (by dsimp only; omega)) (Or.inr (by dsimp only; omega))
      obtain ⟨l1, l2, -⟩ := L
      obtain ⟨g1, g2⟩ := rowD d_hM5_ d_hs20_ d_hF18_ (loop52 d_hL_46) d_hs30_ d_hF28_
      rw [d_hM_]
      exact ⟨fin kM g1 g2, by rw [c_hr_, d_hr_]; exact i32e l2⟩
    · have cb := beg (w := v.toInt.toNat) (by omega) c_hs13_ c_hF18_ d_hM5_ d_hF18_
      have yd := eT d_e2_
      rw [← yd] at cb
      have L := check_loop (by omega) cb (RCH_map (fun x : Int32 × mM => (x.1, (0 : Int32), x.2)) c_hL_50 (fun x y s => stC _ x y (by omega) s)) (RCH_mono d_hL_46 (fun x y s => stD _ _ x y (by omega) d_h11_ s)) (Or.inr (by dsimp only; omega)) (Or.inl d_h32_)
      obtain ⟨l1, l2, -⟩ := L
      obtain ⟨g1, g2⟩ := rowD d_hM5_ d_hs20_ d_hF18_ (loop52 d_hL_46) d_hs39_ d_hF37_
      rw [d_hM_]
      exact ⟨fin kM g1 g2, by rw [c_hr_, d_hr_]; exact i32e l2⟩
    · have qi := is2x d_hs12_
      rw [zupN d_hM5_ (by simp)] at qi
      omega
  · have qh := x10has c_hs5_
    have kM : ∀ (c : rf) (k : Nat), wR c.1 → c.2.1 = 0 → M1.1 c k = M.1 c k := fun c k a b => by rw [c_hM_, c_hF29_ c k (fun q => by simp only [S_c_X10_passTenth, or_false] at q; omega)]; exact c_hF_50 c k (fun q => by unfold wR at a; simp only [S_c_X11_check, or_false] at q; omega)
    have yc := eT c_e23_
    have y36 := eT c_e36_
    have last : CHc v.toInt.toNat (c_v2_50, (0 : Int32), c_M_50) (c_z45_, c_z45_, c_M25_) := by
      refine ⟨q0, by dsimp only; omega, c_r37_, c_hs31_, c_hF29_, c_hs41_, by dsimp only; omega, Or.inr ⟨?_, by dsimp only; omega⟩⟩
      (try dsimp only)
      rw [show v.toInt.toNat = c_j32_ by omega]
      omega
    refine xE_SP_X12_check h2 (fun d_z1_ d_e2_ d_h3_ d_M4_ d_hM5_ _ => ⟨(fun d_hs12_ d_h11_ d_M14_ _ d_hF18_ d_hs20_ d_v4_46 d_hv0_46 d_hv1_46 d_v3_46 d_M_46 d_hL_46 _ d_hF_46 => ⟨(fun d_h23_ d_M24_ _ d_hF28_ d_hs30_ d_hr_ d_hM_ => ?_), (fun d_h23_ d_h32_ d_M33_ _ d_hF37_ d_hs39_ d_hr_ d_hM_ => ?_)⟩), (fun d_hs12_ d_M75_ _ d_hF79_ d_r74_ d_hs81_ d_h77_ d_hr_ d_hM_ => ?_)⟩)
    · have cb := beg (w := v.toInt.toNat) (by omega) c_hs13_ c_hF18_ d_hM5_ d_hF18_
      have yd := eT d_e2_
      rw [← yd] at cb
      have L := check_loop (by omega) cb (RCH.tail (RCH_map (fun x : Int32 × mM => (x.1, (0 : Int32), x.2)) c_hL_50 (fun x y s => stC _ x y (by omega) s)) last) (RCH_mono d_hL_46 (fun x y s => stD _ _ x y (by omega) d_h11_ s)) (Or.inl (by dsimp only; omega)) (Or.inr (by dsimp only; omega))
      obtain ⟨l1, l2, -⟩ := L
      obtain ⟨g1, g2⟩ := rowD d_hM5_ d_hs20_ d_hF18_ (loop52 d_hL_46) d_hs30_ d_hF28_
      rw [d_hM_]
      exact ⟨fin kM g1 g2, by rw [c_hr_, d_hr_]; exact i32e l2⟩
    · have cb := beg (w := v.toInt.toNat) (by omega) c_hs13_ c_hF18_ d_hM5_ d_hF18_
      have yd := eT d_e2_
      rw [← yd] at cb
      have L := check_loop (by omega) cb (RCH.tail (RCH_map (fun x : Int32 × mM => (x.1, (0 : Int32), x.2)) c_hL_50 (fun x y s => stC _ x y (by omega) s)) last) (RCH_mono d_hL_46 (fun x y s => stD _ _ x y (by omega) d_h11_ s)) (Or.inl (by dsimp only; omega)) (Or.inl d_h32_)
      obtain ⟨l1, l2, -⟩ := L
      obtain ⟨g1, g2⟩ := rowD d_hM5_ d_hs20_ d_hF18_ (loop52 d_hL_46) d_hs39_ d_hF37_
      rw [d_hM_]
      exact ⟨fin kM g1 g2, by rw [c_hr_, d_hr_]; exact i32e l2⟩
    · have qi := is2x d_hs12_
      rw [zupN d_hM5_ (by simp)] at qi
      omega
  · have qh := x10has c_hs5_
    refine xE_SP_X12_check h2 (fun d_z1_ d_e2_ d_h3_ d_M4_ d_hM5_ _ => ⟨(fun d_hs12_ d_h11_ d_M14_ _ d_hF18_ d_hs20_ d_v4_46 d_hv0_46 d_hv1_46 d_v3_46 d_M_46 d_hL_46 _ d_hF_46 => ⟨(fun d_h23_ d_M24_ _ d_hF28_ d_hs30_ d_hr_ d_hM_ => ?_), (fun d_h23_ d_h32_ d_M33_ _ d_hF37_ d_hs39_ d_hr_ d_hM_ => ?_)⟩), (fun d_hs12_ d_M75_ _ d_hF79_ d_r74_ d_hs81_ d_h77_ d_hr_ d_hM_ => ?_)⟩)
    · have qi := is2x d_hs12_
      rw [zupN d_hM5_ (by simp)] at qi
      omega
    · have qi := is2x d_hs12_
      rw [zupN d_hM5_ (by simp)] at qi
      omega
    · refine ⟨fin (fun c k a b => ?_) (fun j hj h => ?_) ?_, i32e ?_⟩
      · rw [c_hM_, c_hF60_ c k (fun q => by unfold wR at a; simp only [S_c_X11_error, or_false] at q; omega)]
        exact c_hF52_ c k (fun q => by unfold wR at a; simp only [S_c_X5_clear, or_false] at q; omega)
      · rw [d_hM_, d_hF79_ _ _ (fun q => by simp only [S_c_X12_finding, or_false] at q; omega), zupN d_hM5_ (fun z => h z.2)]
      · rw [d_hM_, d_hF79_ _ _ (fun q => by simp only [S_c_X12_finding, or_false] at q; omega), zupE d_hM5_ rfl rfl]
        exact q0
      · have e := err_r c_hs62_ (by first | decide | simp | (dsimp only; omega))
        rw [c_hr_, d_hr_, e, d_h77_]
        decide
end
section
/-! the full relation -/
def RY (m : rf → Nat → Int32) : Prop := RXz m ∧ (m (12, 0, 0) 7).toInt = -1 ∧ RW 0 m (m (50, 0, 0)) ∧ (¬ (m (12, 0, 0) 3).toInt = 0 → RW 1 m (m (51, 0, 0))) ∧ SHR m m
/-- class cells, model cells -/
def cC (S : rf → Nat → Prop) : Prop := ∀ (c : rf) (k : Nat), S c k → ¬ (c.1 = 12 ∨ 50 ≤ c.1)
def cD (S : rf → Nat → Prop) : Prop := ∀ (c : rf) (k : Nat), S c k → c.1 = 12 ∨ 50 ≤ c.1
theorem wR_cls {r : Nat} (h : wR r) : ¬ (r = 12 ∨ 50 ≤ r) := by unfold wR at h; omega
/-- what a call's two halves tell of the memory behind both -/
theorem RY_of {S1 S2 : rf → Nat → Prop} {M M1 M2 : mM} (h : RY M.1) (hF1 : FR S1 M M1) (hF2 : FR S2 M1 M2) (s1 : cC S1) (s2 : cD S2) (hx : RXz M2.1) (hN : NW5 (M2.1 (50, 0, 0))) (hN1 : NW5 (M2.1 (51, 0, 0)))
    (h7 : (M2.1 (12, 0, 0) 7).toInt = -1) (hw : RW 0 M1.1 (M2.1 (50, 0, 0)))
    (hi : (M2.1 (12, 0, 0) 3 = M1.1 (12, 0, 0) 3 ∧ (∀ (c : rf) (k : Nat), wR c.1 → c.2.1 = 1 → ¬ S1 c k) ∧ ∀ k, ¬ S2 (51, 0, 0) k) ∨ (¬ (M2.1 (12, 0, 0) 3).toInt = 0 → RW 1 M1.1 (M2.1 (51, 0, 0)))) (hs : SHR M1.1 M2.1) : RY M2.1 := by
  have c2 : ∀ (c : rf) (k : Nat), ¬ (c.1 = 12 ∨ 50 ≤ c.1) → M2.1 c k = M1.1 c k := fun c k q => hF2 c k (fun z => q (s2 c k z))
  have c1 : ∀ (c : rf) (k : Nat), c.1 = 12 ∨ 50 ≤ c.1 → M1.1 c k = M.1 c k := fun c k q => hF1 c k (fun z => s1 c k z q)
  obtain ⟨-, -, -, h4, -⟩ := h
  refine ⟨hx, h7, RW_same hw hN (fun c k a _ => c2 c k (wR_cls a)), fun q => ?_, SHR_keep hs (fun c k a => c2 c k (by omega)) (fun _ _ _ => rfl)⟩
  refine RW_same ?_ hN1 (fun c k a _ => c2 c k (wR_cls a))
  rcases hi with ⟨i1, i2, i3⟩ | hi
  · have e51 : M2.1 (51, 0, 0) = M.1 (51, 0, 0) := funext fun k => by rw [hF2 _ _ (i3 k), c1 _ _ (by simp)]
    rw [i1, c1 _ _ (by simp)] at q
    rw [e51] at hN1 ⊢
    exact RW_same (h4 q) hN1 (fun c k a b => hF1 c k (i2 c k a b))
  · exact hi q
/-- a call that leaves all of it -/
theorem RY_fr {S1 S2 : rf → Nat → Prop} {M M1 M2 : mM} (h : RY M.1) (hF1 : FR S1 M M1) (hF2 : FR S2 M1 M2) (s1 : cC S1) (s2 : cD S2) (hx : RXz M2.1) (hN : NW5 (M2.1 (50, 0, 0))) (hN1 : NW5 (M2.1 (51, 0, 0)))
    (a1 : ∀ (c : rf) (k : Nat), wR c.1 ∨ c.1 = 6 → c.2.1 < 2 → ¬ S1 c k) (a2 : ∀ (c : rf) (k : Nat), c = (50, 0, 0) ∨ c = (51, 0, 0) ∨ (c = (12, 0, 0) ∧ (k = 3)) ∨ c.1 = 66 ∨ c.1 = 67 ∨ c.1 = 68 → ¬ S2 c k) (a34 : ∀ (c : rf) (k : Nat), c.1 = 6 ∨ c.1 = 34 → ¬ S1 c k) (h7 : (M2.1 (12, 0, 0) 7).toInt = -1) : RY M2.1 := by
  have c1 : ∀ (c : rf) (k : Nat), c.1 = 12 ∨ 50 ≤ c.1 → M1.1 c k = M.1 c k := fun c k q => hF1 c k (fun z => s1 c k z q)
  have e50 : M2.1 (50, 0, 0) = M.1 (50, 0, 0) := funext fun k => by rw [hF2 _ _ (a2 _ _ (Or.inl rfl)), c1 _ _ (by simp)]
  have h0 := h
  obtain ⟨-, -, h3, -, h5⟩ := h0
  refine RY_of h hF1 hF2 s1 s2 hx hN hN1 h7 ?_ (Or.inl ⟨hF2 _ _ (a2 _ _ (by simp)), fun c k a b => a1 c k (Or.inl a) (by omega), fun k => a2 _ _ (by simp)⟩) ?_
  · rw [e50] at hN ⊢
    exact RW_same h3 hN (fun c k a b => hF1 c k (a1 c k (Or.inl a) (by omega)))
  · exact SHR_keep h5 (fun c k a => hF1 c k (a34 c k a)) (fun c k a => by rw [hF2 c k (a2 c k (by omega)), c1 c k (by omega)])
end
section
/-! the unseen walker is put back -/
theorem UST_X12_findTold_3 {u : Int32} {Mz : mM} {v4_3 : Int32} {M_3 : mM} {v4_3y : Int32} {M_3y : mM} (h : ST_X12_findTold_3 u Mz v4_3 M_3 v4_3y M_3y) (h0 : (M_3.1 (12, 0, 0) 7).toInt = -1) : (M_3y.1 (12, 0, 0) 7).toInt = -1 := by
  refine xE_ST_X12_findTold_3 h (fun hv0_3 hv1_3 _ hF_3 h2_ z75_ h76_ z77_ h78_ j81_ h82_ M79_ hM80_ z85_ h86_ hq_v4_3y hM_ => ?_)
  · rw [hM_]
    have u1_ : (M79_.1 (12, 0, 0) 7).toInt = -1 := by rw [zupN hM80_ (by simp)]; exact h0
    exact u1_
theorem USP_X12_findTold {v : Int32} {u : Int32} {t : Int32} {Mz : mM} {M_ : mM} (h : SP_X12_findTold v u t Mz M_) (h0 : (Mz.1 (12, 0, 0) 7).toInt = -1) : (M_.1 (12, 0, 0) 7).toInt = -1 := by
  refine xE_SP_X12_findTold h (fun v4_3 hv0_3 hv1_3 M_3 hL_3 _ hF_3 h2_ M3_ hM4_ v4_39 hv0_39 hv1_39 M_39 hL_39 _ hF_39 h8_ M9_ hM10_ hM_ => ?_)
  · rw [hM_]
    have u1_ := rind hL_3 (fun z_ => (z_.2.1 (12, 0, 0) 7).toInt = -1) h0 (fun x_ z_ h1_ h2_ => UST_X12_findTold_3 h2_ h1_)
    have u4_ : (M9_.1 (12, 0, 0) 7).toInt = -1 := by rw [zupE hM10_ rfl rfl]; exact il_m1
    exact u4_
theorem UST_X12_spots_80 {v : Int32} {u : Int32} {Mz : mM} {v6_80 : Int32} {v5_80 : Int32} {M_80 : mM} {v6_80y : Int32} {v5_80y : Int32} {M_80y : mM} (h : ST_X12_spots_80 v u Mz v6_80 v5_80 M_80 v6_80y v5_80y M_80y) (h0 : (M_80.1 (12, 0, 0) 7).toInt = -1) : (M_80y.1 (12, 0, 0) 7).toInt = -1 := by
  refine xE_ST_X12_spots_80 h (fun hv0_80 _ hF_80 j39_ h40_ z37_ e38_ h41_ h42_ h43_ z100_ h101_ z102_ h103_ j106_ h107_ z104_ e105_ r108_ hs112_ h111_ => ⟨(fun h113_ z114_ h115_ hq_v6_80y hq_v5_80y hM_ => ?_), (fun h113_ z116_ h117_ z118_ h119_ z120_ h121_ z122_ h123_ j126_ h127_ z124_ e125_ M128_ _ hF132_ hs134_ z136_ h137_ hq_v6_80y hq_v5_80y hM_ => ?_)⟩)
  · rw [hM_]
    exact h0
  · rw [hM_]
    have u1_ : (M128_.1 (12, 0, 0) 7).toInt = -1 := USP_X12_findTold hs134_ h0
    exact u1_
theorem USP_X12_spots {v : Int32} {u : Int32} {t : Int32} {s : Int32} {Mz : mM} {r_ : Int32} {M_ : mM} (h : SP_X12_spots v u t s Mz r_ M_) (h0 : (Mz.1 (12, 0, 0) 7).toInt = -1) : (M_.1 (12, 0, 0) 7).toInt = -1 := by
  refine xE_SP_X12_spots h ⟨(fun hs5_ h4_ => ⟨(fun hs11_ h10_ => ⟨(fun hs17_ h16_ => ⟨(fun hs23_ h22_ j27_ h28_ z25_ e26_ => ⟨(fun h29_ => ⟨(fun hs34_ h33_ v6_80 hv0_80 v5_80 M_80 hL_80 _ hF_80 j39_ h40_ z37_ e38_ h41_ h42_ h43_ r44_ hs48_ => ⟨(fun h49_ v8_169 hv0_169 v7_169 v6_169 hL_169 j53_ h54_ z51_ e52_ h55_ h56_ z57_ h58_ h59_ => ⟨(fun h60_ hr_ hM_ => ?_), (fun h60_ hr_ hM_ => ?_)⟩), (fun h49_ M92_ _ hF96_ r91_ hs98_ h94_ hr_ hM_ => ?_)⟩), (fun hs34_ M140_ _ hF144_ r139_ hs146_ h142_ hr_ hM_ => ?_)⟩), (fun h29_ M148_ _ hF152_ r147_ hs154_ h150_ hr_ hM_ => ?_)⟩), (fun hs23_ h22_ M157_ _ hF161_ r156_ hs163_ h159_ hr_ hM_ => ?_)⟩), (fun hs17_ h16_ M166_ _ hF170_ r165_ hs172_ h168_ hr_ hM_ => ?_)⟩), (fun hs11_ h10_ M175_ _ hF179_ r174_ hs181_ h177_ hr_ hM_ => ?_)⟩), (fun hs5_ M184_ _ hF188_ r183_ hs190_ h186_ hr_ hM_ => ?_)⟩
  · rw [hM_]
    have u1_ := rind hL_80 (fun z_ => (z_.2.2.1 (12, 0, 0) 7).toInt = -1) h0 (fun x_ z_ h1_ h2_ => UST_X12_spots_80 h2_ h1_)
    exact u1_
  · rw [hM_]
    have u1_ := rind hL_80 (fun z_ => (z_.2.2.1 (12, 0, 0) 7).toInt = -1) h0 (fun x_ z_ h1_ h2_ => UST_X12_spots_80 h2_ h1_)
    exact u1_
  · rw [hM_]
    have u1_ := rind hL_80 (fun z_ => (z_.2.2.1 (12, 0, 0) 7).toInt = -1) h0 (fun x_ z_ h1_ h2_ => UST_X12_spots_80 h2_ h1_)
    have u2_ : (M92_.1 (12, 0, 0) 7).toInt = -1 := by rw [hF96_ _ _ (by simp [S_c_X12_finding])]; exact u1_
    exact u2_
  · rw [hM_]
    have u1_ : (M140_.1 (12, 0, 0) 7).toInt = -1 := by rw [hF144_ _ _ (by simp [S_c_X12_finding])]; exact h0
    exact u1_
  · rw [hM_]
    have u1_ : (M148_.1 (12, 0, 0) 7).toInt = -1 := by rw [hF152_ _ _ (by simp [S_c_X12_finding])]; exact h0
    exact u1_
  · rw [hM_]
    have u1_ : (M157_.1 (12, 0, 0) 7).toInt = -1 := by rw [hF161_ _ _ (by simp [S_c_X12_finding])]; exact h0
    exact u1_
  · rw [hM_]
    have u1_ : (M166_.1 (12, 0, 0) 7).toInt = -1 := by rw [hF170_ _ _ (by simp [S_c_X12_finding])]; exact h0
    exact u1_
  · rw [hM_]
    have u1_ : (M175_.1 (12, 0, 0) 7).toInt = -1 := by rw [hF179_ _ _ (by simp [S_c_X12_finding])]; exact h0
    exact u1_
  · rw [hM_]
    have u1_ : (M184_.1 (12, 0, 0) 7).toInt = -1 := by rw [hF188_ _ _ (by simp [S_c_X12_finding])]; exact h0
    exact u1_
theorem USP_X12_posts {v : Int32} {u : Int32} {t : Int32} {s : Int32} {Mz : mM} {r_ : Int32} {M_ : mM} (h : SP_X12_posts v u t s Mz r_ M_) (h0 : (Mz.1 (12, 0, 0) 7).toInt = -1) : (M_.1 (12, 0, 0) 7).toInt = -1 := by
  refine xE_SP_X12_posts h ⟨(fun hs5_ h4_ => ⟨(fun hs11_ h10_ => ⟨(fun hs17_ h16_ => ⟨(fun hs23_ h22_ j27_ h28_ z25_ e26_ => ⟨(fun h29_ M31_ _ hF35_ r30_ hs37_ h33_ hr_ hM_ => ?_), (fun h29_ j40_ h41_ z38_ e39_ => ⟨(fun h42_ => ⟨(fun hs47_ h46_ => ⟨(fun hs53_ h52_ M55_ hM56_ v5_98 hv0_98 M_98 hL_98 _ hF_98 j64_ h65_ z62_ e63_ h66_ h67_ h68_ M69_ hM70_ v6_204 hv0_204 v5_204 hL_204 j78_ h79_ z76_ e77_ h80_ h81_ z82_ h83_ h84_ => ⟨(fun h85_ => ⟨(fun h86_ hr_ hM_ => ?_), (fun h86_ _ r87_ hs91_ hr_ hM_ => ?_)⟩), (fun h85_ _ M93_ _ hF97_ r92_ hs99_ h95_ hr_ hM_ => ?_)⟩), (fun hs53_ M222_ _ hF226_ r221_ hs228_ h224_ hr_ hM_ => ?_)⟩), (fun hs47_ M232_ _ hF236_ r231_ hs238_ h234_ hr_ hM_ => ?_)⟩), (fun h42_ M240_ _ hF244_ r239_ hs246_ h242_ hr_ hM_ => ?_)⟩)⟩), (fun hs23_ h22_ M249_ _ hF253_ r248_ hs255_ h251_ hr_ hM_ => ?_)⟩), (fun hs17_ h16_ M258_ _ hF262_ r257_ hs264_ h260_ hr_ hM_ => ?_)⟩), (fun hs11_ h10_ M267_ _ hF271_ r266_ hs273_ h269_ hr_ hM_ => ?_)⟩), (fun hs5_ M276_ _ hF280_ r275_ hs282_ h278_ hr_ hM_ => ?_)⟩
  · rw [hM_]
    have u1_ : (M31_.1 (12, 0, 0) 7).toInt = -1 := by rw [hF35_ _ _ (by simp [S_c_X12_finding])]; exact h0
    exact u1_
  · rw [hM_]
    have u3_ : (M69_.1 (12, 0, 0) 7).toInt = -1 := by rw [zupE hM70_ rfl rfl]; exact il_m1
    exact u3_
  · rw [hM_]
    have u3_ : (M69_.1 (12, 0, 0) 7).toInt = -1 := by rw [zupE hM70_ rfl rfl]; exact il_m1
    exact u3_
  · rw [hM_]
    have u3_ : (M69_.1 (12, 0, 0) 7).toInt = -1 := by rw [zupE hM70_ rfl rfl]; exact il_m1
    have u4_ : (M93_.1 (12, 0, 0) 7).toInt = -1 := by rw [hF97_ _ _ (by simp [S_c_X12_finding])]; exact u3_
    exact u4_
  · rw [hM_]
    have u1_ : (M222_.1 (12, 0, 0) 7).toInt = -1 := by rw [hF226_ _ _ (by simp [S_c_X12_finding])]; exact h0
    exact u1_
  · rw [hM_]
    have u1_ : (M232_.1 (12, 0, 0) 7).toInt = -1 := by rw [hF236_ _ _ (by simp [S_c_X12_finding])]; exact h0
    exact u1_
  · rw [hM_]
    have u1_ : (M240_.1 (12, 0, 0) 7).toInt = -1 := by rw [hF244_ _ _ (by simp [S_c_X12_finding])]; exact h0
    exact u1_
  · rw [hM_]
    have u1_ : (M249_.1 (12, 0, 0) 7).toInt = -1 := by rw [hF253_ _ _ (by simp [S_c_X12_finding])]; exact h0
    exact u1_
  · rw [hM_]
    have u1_ : (M258_.1 (12, 0, 0) 7).toInt = -1 := by rw [hF262_ _ _ (by simp [S_c_X12_finding])]; exact h0
    exact u1_
  · rw [hM_]
    have u1_ : (M267_.1 (12, 0, 0) 7).toInt = -1 := by rw [hF271_ _ _ (by simp [S_c_X12_finding])]; exact h0
    exact u1_
  · rw [hM_]
    have u1_ : (M276_.1 (12, 0, 0) 7).toInt = -1 := by rw [hF280_ _ _ (by simp [S_c_X12_finding])]; exact h0
    exact u1_
end
