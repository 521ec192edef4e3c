def S_c_X12_move : rf → Nat → Prop := fun c k => (c.1 = 53 ∧ c.2.1 = 0) ∨ (c.1 = 68 ∧ c.2.1 = 0) ∨ (c.1 = 69 ∧ c.2.1 = 0) ∨ False
theorem lf_c_X12_move_0  (v : Int32) (h4_ : 0 ≤ v.toInt ∧ v.toInt ≤ 3) : 0 ≤ v.toInt ∧ v.toInt < ((4 : Nat) : Int) := by have r_v := rngI v; omega
theorem lf_c_X12_move_1  (t : Int32) (h9_ : 0 ≤ t.toInt ∧ t.toInt ≤ 3) : 0 ≤ t.toInt ∧ t.toInt < ((4 : Nat) : Int) := by have r_t := rngI t; omega
theorem lf_c_X12_move_2 (Mz : mM) (v : Int32) (j13_ : Nat) (z11_ : Int32) (h4_ : 0 ≤ v.toInt ∧ v.toInt ≤ 3) (h14_ : (j13_ : Int) = v.toInt) (e12_ : z11_ = Mz.1 (66, 0, 0) j13_) (h15_ : ¬ z11_.toInt = 0) : 0 ≤ v.toInt ∧ v.toInt < ((4 : Nat) : Int) := by have r_v := rngI v; have r_z11_ := rngI z11_; subst e12_; omega
theorem lf_c_X12_move_3 (Mz : mM) (t : Int32) (j25_ : Nat) (z23_ : Int32) (h9_ : 0 ≤ t.toInt ∧ t.toInt ≤ 3) (h26_ : (j25_ : Int) = t.toInt) (e24_ : z23_ = Mz.1 (66, 0, 0) j25_) (h27_ : ¬ z23_.toInt = 0) : 0 ≤ t.toInt ∧ t.toInt < ((4 : Nat) : Int) := by have r_t := rngI t; have r_z23_ := rngI z23_; subst e24_; omega
theorem lf_c_X12_move_4  (u : Int32) (q : Int32) (w61_ : Int64) (w64_ : Int64) (h37_ : 0 ≤ q.toInt) (h45_ : 0 ≤ u.toInt) (h63_ : w61_.toInt = u.toInt) (h66_ : w64_.toInt = q.toInt) : -9223372036854775808 ≤ w61_.toInt + w64_.toInt ∧ w61_.toInt + w64_.toInt < 9223372036854775808 := by have r_u := rngI u; have r_q := rngI q; omega
theorem lf_c_X12_move_5 (Mz : mM) (v : Int32) (t : Int32) (j13_ : Nat) (z11_ : Int32) (j25_ : Nat) (z23_ : Int32) (j30_ : Nat) (z28_ : Int32) (j34_ : Nat) (z32_ : Int32) (h4_ : 0 ≤ v.toInt ∧ v.toInt ≤ 3) (h9_ : 0 ≤ t.toInt ∧ t.toInt ≤ 3) (h14_ : (j13_ : Int) = v.toInt) (e12_ : z11_ = Mz.1 (66, 0, 0) j13_) (h15_ : ¬ z11_.toInt = 0) (h26_ : (j25_ : Int) = t.toInt) (e24_ : z23_ = Mz.1 (66, 0, 0) j25_) (h27_ : ¬ z23_.toInt = 0) (h31_ : (j30_ : Int) = v.toInt) (e29_ : z28_ = Mz.1 (66, 0, 0) j30_) (h35_ : (j34_ : Int) = t.toInt) (e33_ : z32_ = Mz.1 (66, 0, 0) j34_) (h36_ : z28_.toInt = z32_.toInt) : 0 ≤ v.toInt ∧ v.toInt < ((4 : Nat) : Int) := by have r_v := rngI v; have r_t := rngI t; have r_z11_ := rngI z11_; have r_z23_ := rngI z23_; have r_z28_ := rngI z28_; have r_z32_ := rngI z32_; subst e12_; subst e24_; subst e29_; subst e33_; omega
theorem lf_c_X12_move_6 (Mz : mM) (v : Int32) (u : Int32) (t : Int32) (s : Int32) (q : Int32) (j13_ : Nat) (z11_ : Int32) (j25_ : Nat) (z23_ : Int32) (j30_ : Nat) (z28_ : Int32) (j34_ : Nat) (z32_ : Int32) (w61_ : Int64) (w64_ : Int64) (w67_ : Int64) (j72_ : Nat) (z70_ : Int32) (w75_ : Int64) (z78_ : Int32) (w88_ : Int64) (w91_ : Int64) (h4_ : 0 ≤ v.toInt ∧ v.toInt ≤ 3) (h9_ : 0 ≤ t.toInt ∧ t.toInt ≤ 3) (h14_ : (j13_ : Int) = v.toInt) (e12_ : z11_ = Mz.1 (66, 0, 0) j13_) (h15_ : ¬ z11_.toInt = 0) (h26_ : (j25_ : Int) = t.toInt) (e24_ : z23_ = Mz.1 (66, 0, 0) j25_) (h27_ : ¬ z23_.toInt = 0) (h31_ : (j30_ : Int) = v.toInt) (e29_ : z28_ = Mz.1 (66, 0, 0) j30_) (h35_ : (j34_ : Int) = t.toInt) (e33_ : z32_ = Mz.1 (66, 0, 0) j34_) (h36_ : z28_.toInt = z32_.toInt) (h37_ : 0 ≤ q.toInt) (h45_ : 0 ≤ u.toInt) (h53_ : 0 ≤ s.toInt) (h63_ : w61_.toInt = u.toInt) (h66_ : w64_.toInt = q.toInt) (h69_ : w67_.toInt = w61_.toInt + w64_.toInt) (h73_ : (j72_ : Int) = v.toInt) (e71_ : z70_ = Mz.1 (67, 0, 0) j72_) (h74_ : 0 ≤ z70_.toInt ∧ z70_.toInt ≤ 24) (h77_ : w75_.toInt = z70_.toInt) (h79_ : (z78_.toInt = -1 ∧ w67_.toInt < w75_.toInt) ∨ (z78_.toInt = 0 ∧ w67_.toInt = w75_.toInt) ∨ (z78_.toInt = 1 ∧ w75_.toInt < w67_.toInt)) (h80_ : z78_.toInt ≤ 0) (h90_ : w88_.toInt = s.toInt) (h93_ : w91_.toInt = q.toInt) : -9223372036854775808 ≤ w88_.toInt + w91_.toInt ∧ w88_.toInt + w91_.toInt < 9223372036854775808 := by have r_v := rngI v; have r_u := rngI u; have r_t := rngI t; have r_s := rngI s; have r_q := rngI q; have r_z11_ := rngI z11_; have r_z23_ := rngI z23_; have r_z28_ := rngI z28_; have r_z32_ := rngI z32_; have r_z70_ := rngI z70_; have r_z78_ := rngI z78_; subst e12_; subst e24_; subst e29_; subst e33_; subst e71_; omega
theorem lf_c_X12_move_7 (Mz : mM) (v : Int32) (u : Int32) (t : Int32) (s : Int32) (q : Int32) (j13_ : Nat) (z11_ : Int32) (j25_ : Nat) (z23_ : Int32) (j30_ : Nat) (z28_ : Int32) (j34_ : Nat) (z32_ : Int32) (w61_ : Int64) (w64_ : Int64) (w67_ : Int64) (j72_ : Nat) (z70_ : Int32) (w75_ : Int64) (z78_ : Int32) (w88_ : Int64) (w91_ : Int64) (w94_ : Int64) (h4_ : 0 ≤ v.toInt ∧ v.toInt ≤ 3) (h9_ : 0 ≤ t.toInt ∧ t.toInt ≤ 3) (h14_ : (j13_ : Int) = v.toInt) (e12_ : z11_ = Mz.1 (66, 0, 0) j13_) (h15_ : ¬ z11_.toInt = 0) (h26_ : (j25_ : Int) = t.toInt) (e24_ : z23_ = Mz.1 (66, 0, 0) j25_) (h27_ : ¬ z23_.toInt = 0) (h31_ : (j30_ : Int) = v.toInt) (e29_ : z28_ = Mz.1 (66, 0, 0) j30_) (h35_ : (j34_ : Int) = t.toInt) (e33_ : z32_ = Mz.1 (66, 0, 0) j34_) (h36_ : z28_.toInt = z32_.toInt) (h37_ : 0 ≤ q.toInt) (h45_ : 0 ≤ u.toInt) (h53_ : 0 ≤ s.toInt) (h63_ : w61_.toInt = u.toInt) (h66_ : w64_.toInt = q.toInt) (h69_ : w67_.toInt = w61_.toInt + w64_.toInt) (h73_ : (j72_ : Int) = v.toInt) (e71_ : z70_ = Mz.1 (67, 0, 0) j72_) (h74_ : 0 ≤ z70_.toInt ∧ z70_.toInt ≤ 24) (h77_ : w75_.toInt = z70_.toInt) (h79_ : (z78_.toInt = -1 ∧ w67_.toInt < w75_.toInt) ∨ (z78_.toInt = 0 ∧ w67_.toInt = w75_.toInt) ∨ (z78_.toInt = 1 ∧ w75_.toInt < w67_.toInt)) (h80_ : z78_.toInt ≤ 0) (h90_ : w88_.toInt = s.toInt) (h93_ : w91_.toInt = q.toInt) (h96_ : w94_.toInt = w88_.toInt + w91_.toInt) : 0 ≤ t.toInt ∧ t.toInt < ((4 : Nat) : Int) := by have r_v := rngI v; have r_u := rngI u; have r_t := rngI t; have r_s := rngI s; have r_q := rngI q; have r_z11_ := rngI z11_; have r_z23_ := rngI z23_; have r_z28_ := rngI z28_; have r_z32_ := rngI z32_; have r_z70_ := rngI z70_; have r_z78_ := rngI z78_; subst e12_; subst e24_; subst e29_; subst e33_; subst e71_; omega
theorem lf_c_X12_move_8 (Mz : mM) (v : Int32) (u : Int32) (t : Int32) (s : Int32) (q : Int32) (j13_ : Nat) (z11_ : Int32) (j25_ : Nat) (z23_ : Int32) (j30_ : Nat) (z28_ : Int32) (j34_ : Nat) (z32_ : Int32) (w61_ : Int64) (w64_ : Int64) (w67_ : Int64) (j72_ : Nat) (z70_ : Int32) (w75_ : Int64) (z78_ : Int32) (w88_ : Int64) (w91_ : Int64) (w94_ : Int64) (j99_ : Nat) (z97_ : Int32) (w102_ : Int64) (z105_ : Int32) (v6_127 : Int32) (v6_164 : Int32) (h4_ : 0 ≤ v.toInt ∧ v.toInt ≤ 3) (h9_ : 0 ≤ t.toInt ∧ t.toInt ≤ 3) (h14_ : (j13_ : Int) = v.toInt) (e12_ : z11_ = Mz.1 (66, 0, 0) j13_) (h15_ : ¬ z11_.toInt = 0) (h26_ : (j25_ : Int) = t.toInt) (e24_ : z23_ = Mz.1 (66, 0, 0) j25_) (h27_ : ¬ z23_.toInt = 0) (h31_ : (j30_ : Int) = v.toInt) (e29_ : z28_ = Mz.1 (66, 0, 0) j30_) (h35_ : (j34_ : Int) = t.toInt) (e33_ : z32_ = Mz.1 (66, 0, 0) j34_) (h36_ : z28_.toInt = z32_.toInt) (h37_ : 0 ≤ q.toInt) (h45_ : 0 ≤ u.toInt) (h53_ : 0 ≤ s.toInt) (h63_ : w61_.toInt = u.toInt) (h66_ : w64_.toInt = q.toInt) (h69_ : w67_.toInt = w61_.toInt + w64_.toInt) (h73_ : (j72_ : Int) = v.toInt) (e71_ : z70_ = Mz.1 (67, 0, 0) j72_) (h74_ : 0 ≤ z70_.toInt ∧ z70_.toInt ≤ 24) (h77_ : w75_.toInt = z70_.toInt) (h79_ : (z78_.toInt = -1 ∧ w67_.toInt < w75_.toInt) ∨ (z78_.toInt = 0 ∧ w67_.toInt = w75_.toInt) ∨ (z78_.toInt = 1 ∧ w75_.toInt < w67_.toInt)) (h80_ : z78_.toInt ≤ 0) (h90_ : w88_.toInt = s.toInt) (h93_ : w91_.toInt = q.toInt) (h96_ : w94_.toInt = w88_.toInt + w91_.toInt) (h100_ : (j99_ : Int) = t.toInt) (e98_ : z97_ = Mz.1 (67, 0, 0) j99_) (h101_ : 0 ≤ z97_.toInt ∧ z97_.toInt ≤ 24) (h104_ : w102_.toInt = z97_.toInt) (h106_ : (z105_.toInt = -1 ∧ w94_.toInt < w102_.toInt) ∨ (z105_.toInt = 0 ∧ w94_.toInt = w102_.toInt) ∨ (z105_.toInt = 1 ∧ w102_.toInt < w94_.toInt)) (h107_ : z105_.toInt ≤ 0) (hv0_127 : 0 ≤ v6_127.toInt) (h109_ : q.toInt ≤ v6_127.toInt) (hv0_164 : 0 ≤ v6_164.toInt) (h111_ : v6_164.toInt < q.toInt) : -2147483648 ≤ 24 * t.toInt ∧ 24 * t.toInt < 2147483648 := by have r_v := rngI v; have r_u := rngI u; have r_t := rngI t; have r_s := rngI s; have r_q := rngI q; have r_z11_ := rngI z11_; have r_z23_ := rngI z23_; have r_z28_ := rngI z28_; have r_z32_ := rngI z32_; have r_z70_ := rngI z70_; have r_z78_ := rngI z78_; have r_z97_ := rngI z97_; have r_z105_ := rngI z105_; have r_v6_127 := rngI v6_127; have r_v6_164 := rngI v6_164; subst e12_; subst e24_; subst e29_; subst e33_; subst e71_; subst e98_; omega
theorem lf_c_X12_move_9 (Mz : mM) (v : Int32) (u : Int32) (t : Int32) (s : Int32) (q : Int32) (j13_ : Nat) (z11_ : Int32) (j25_ : Nat) (z23_ : Int32) (j30_ : Nat) (z28_ : Int32) (j34_ : Nat) (z32_ : Int32) (w61_ : Int64) (w64_ : Int64) (w67_ : Int64) (j72_ : Nat) (z70_ : Int32) (w75_ : Int64) (z78_ : Int32) (w88_ : Int64) (w91_ : Int64) (w94_ : Int64) (j99_ : Nat) (z97_ : Int32) (w102_ : Int64) (z105_ : Int32) (v6_127 : Int32) (v6_164 : Int32) (z112_ : Int32) (h4_ : 0 ≤ v.toInt ∧ v.toInt ≤ 3) (h9_ : 0 ≤ t.toInt ∧ t.toInt ≤ 3) (h14_ : (j13_ : Int) = v.toInt) (e12_ : z11_ = Mz.1 (66, 0, 0) j13_) (h15_ : ¬ z11_.toInt = 0) (h26_ : (j25_ : Int) = t.toInt) (e24_ : z23_ = Mz.1 (66, 0, 0) j25_) (h27_ : ¬ z23_.toInt = 0) (h31_ : (j30_ : Int) = v.toInt) (e29_ : z28_ = Mz.1 (66, 0, 0) j30_) (h35_ : (j34_ : Int) = t.toInt) (e33_ : z32_ = Mz.1 (66, 0, 0) j34_) (h36_ : z28_.toInt = z32_.toInt) (h37_ : 0 ≤ q.toInt) (h45_ : 0 ≤ u.toInt) (h53_ : 0 ≤ s.toInt) (h63_ : w61_.toInt = u.toInt) (h66_ : w64_.toInt = q.toInt) (h69_ : w67_.toInt = w61_.toInt + w64_.toInt) (h73_ : (j72_ : Int) = v.toInt) (e71_ : z70_ = Mz.1 (67, 0, 0) j72_) (h74_ : 0 ≤ z70_.toInt ∧ z70_.toInt ≤ 24) (h77_ : w75_.toInt = z70_.toInt) (h79_ : (z78_.toInt = -1 ∧ w67_.toInt < w75_.toInt) ∨ (z78_.toInt = 0 ∧ w67_.toInt = w75_.toInt) ∨ (z78_.toInt = 1 ∧ w75_.toInt < w67_.toInt)) (h80_ : z78_.toInt ≤ 0) (h90_ : w88_.toInt = s.toInt) (h93_ : w91_.toInt = q.toInt) (h96_ : w94_.toInt = w88_.toInt + w91_.toInt) (h100_ : (j99_ : Int) = t.toInt) (e98_ : z97_ = Mz.1 (67, 0, 0) j99_) (h101_ : 0 ≤ z97_.toInt ∧ z97_.toInt ≤ 24) (h104_ : w102_.toInt = z97_.toInt) (h106_ : (z105_.toInt = -1 ∧ w94_.toInt < w102_.toInt) ∨ (z105_.toInt = 0 ∧ w94_.toInt = w102_.toInt) ∨ (z105_.toInt = 1 ∧ w102_.toInt < w94_.toInt)) (h107_ : z105_.toInt ≤ 0) (hv0_127 : 0 ≤ v6_127.toInt) (h109_ : q.toInt ≤ v6_127.toInt) (hv0_164 : 0 ≤ v6_164.toInt) (h111_ : v6_164.toInt < q.toInt) (h113_ : z112_.toInt = 24 * t.toInt) : 0 ≤ v6_164.toInt ∧ v6_164.toInt < ((24 : Nat) : Int) := by have r_v := rngI v; have r_u := rngI u; have r_t := rngI t; have r_s := rngI s; have r_q := rngI q; have r_z11_ := rngI z11_; have r_z23_ := rngI z23_; have r_z28_ := rngI z28_; have r_z32_ := rngI z32_; have r_z70_ := rngI z70_; have r_z78_ := rngI z78_; have r_z97_ := rngI z97_; have r_z105_ := rngI z105_; have r_v6_127 := rngI v6_127; have r_v6_164 := rngI v6_164; have r_z112_ := rngI z112_; subst e12_; subst e24_; subst e29_; subst e33_; subst e71_; subst e98_; omega
theorem lf_c_X12_move_10  (z115_ : Int32)  : 0 ≤ z115_.toInt ∧ z115_.toInt < ((96 : Nat) : Int) := by have r_z115_ := rngI z115_; omega
theorem lf_c_X12_move_11 (M120_ : mM) (M_164 : mM) (Mz : mM) (v : Int32) (u : Int32) (t : Int32) (s : Int32) (q : Int32) (j13_ : Nat) (z11_ : Int32) (j25_ : Nat) (z23_ : Int32) (j30_ : Nat) (z28_ : Int32) (j34_ : Nat) (z32_ : Int32) (w61_ : Int64) (w64_ : Int64) (w67_ : Int64) (j72_ : Nat) (z70_ : Int32) (w75_ : Int64) (z78_ : Int32) (w88_ : Int64) (w91_ : Int64) (w94_ : Int64) (j99_ : Nat) (z97_ : Int32) (w102_ : Int64) (z105_ : Int32) (v6_127 : Int32) (v6_164 : Int32) (z112_ : Int32) (z115_ : Int32) (j118_ : Nat) (z116_ : Int32) (j122_ : Nat) (h4_ : 0 ≤ v.toInt ∧ v.toInt ≤ 3) (h9_ : 0 ≤ t.toInt ∧ t.toInt ≤ 3) (h14_ : (j13_ : Int) = v.toInt) (e12_ : z11_ = Mz.1 (66, 0, 0) j13_) (h15_ : ¬ z11_.toInt = 0) (h26_ : (j25_ : Int) = t.toInt) (e24_ : z23_ = Mz.1 (66, 0, 0) j25_) (h27_ : ¬ z23_.toInt = 0) (h31_ : (j30_ : Int) = v.toInt) (e29_ : z28_ = Mz.1 (66, 0, 0) j30_) (h35_ : (j34_ : Int) = t.toInt) (e33_ : z32_ = Mz.1 (66, 0, 0) j34_) (h36_ : z28_.toInt = z32_.toInt) (h37_ : 0 ≤ q.toInt) (h45_ : 0 ≤ u.toInt) (h53_ : 0 ≤ s.toInt) (h63_ : w61_.toInt = u.toInt) (h66_ : w64_.toInt = q.toInt) (h69_ : w67_.toInt = w61_.toInt + w64_.toInt) (h73_ : (j72_ : Int) = v.toInt) (e71_ : z70_ = Mz.1 (67, 0, 0) j72_) (h74_ : 0 ≤ z70_.toInt ∧ z70_.toInt ≤ 24) (h77_ : w75_.toInt = z70_.toInt) (h79_ : (z78_.toInt = -1 ∧ w67_.toInt < w75_.toInt) ∨ (z78_.toInt = 0 ∧ w67_.toInt = w75_.toInt) ∨ (z78_.toInt = 1 ∧ w75_.toInt < w67_.toInt)) (h80_ : z78_.toInt ≤ 0) (h90_ : w88_.toInt = s.toInt) (h93_ : w91_.toInt = q.toInt) (h96_ : w94_.toInt = w88_.toInt + w91_.toInt) (h100_ : (j99_ : Int) = t.toInt) (e98_ : z97_ = Mz.1 (67, 0, 0) j99_) (h101_ : 0 ≤ z97_.toInt ∧ z97_.toInt ≤ 24) (h104_ : w102_.toInt = z97_.toInt) (h106_ : (z105_.toInt = -1 ∧ w94_.toInt < w102_.toInt) ∨ (z105_.toInt = 0 ∧ w94_.toInt = w102_.toInt) ∨ (z105_.toInt = 1 ∧ w102_.toInt < w94_.toInt)) (h107_ : z105_.toInt ≤ 0) (hv0_127 : 0 ≤ v6_127.toInt) (h109_ : q.toInt ≤ v6_127.toInt) (hv0_164 : 0 ≤ v6_164.toInt) (h111_ : v6_164.toInt < q.toInt) (h113_ : z112_.toInt = 24 * t.toInt) (h119_ : (j118_ : Int) = v6_164.toInt) (e117_ : z116_ = M_164.1 (69, 0, 0) j118_) (h123_ : (j122_ : Int) = z115_.toInt) (hM121_ : M120_ = up M_164 (68, 0, 0) j122_ z116_) : -2147483648 ≤ v6_164.toInt + 1 ∧ v6_164.toInt + 1 < 2147483648 := by have r_v := rngI v; have r_u := rngI u; have r_t := rngI t; have r_s := rngI s; have r_q := rngI q; have r_z11_ := rngI z11_; have r_z23_ := rngI z23_; have r_z28_ := rngI z28_; have r_z32_ := rngI z32_; have r_z70_ := rngI z70_; have r_z78_ := rngI z78_; have r_z97_ := rngI z97_; have r_z105_ := rngI z105_; have r_v6_127 := rngI v6_127; have r_v6_164 := rngI v6_164; have r_z112_ := rngI z112_; have r_z115_ := rngI z115_; have r_z116_ := rngI z116_; subst e12_; subst e24_; subst e29_; subst e33_; subst e71_; subst e98_; subst e117_; omega
theorem lf_c_X12_move_12 (M120_ : mM) (M_164 : mM) (Mz : mM) (v : Int32) (u : Int32) (t : Int32) (s : Int32) (q : Int32) (j13_ : Nat) (z11_ : Int32) (j25_ : Nat) (z23_ : Int32) (j30_ : Nat) (z28_ : Int32) (j34_ : Nat) (z32_ : Int32) (w61_ : Int64) (w64_ : Int64) (w67_ : Int64) (j72_ : Nat) (z70_ : Int32) (w75_ : Int64) (z78_ : Int32) (w88_ : Int64) (w91_ : Int64) (w94_ : Int64) (j99_ : Nat) (z97_ : Int32) (w102_ : Int64) (z105_ : Int32) (v6_127 : Int32) (v6_164 : Int32) (z112_ : Int32) (z115_ : Int32) (j118_ : Nat) (z116_ : Int32) (j122_ : Nat) (z126_ : Int32) (h4_ : 0 ≤ v.toInt ∧ v.toInt ≤ 3) (h9_ : 0 ≤ t.toInt ∧ t.toInt ≤ 3) (h14_ : (j13_ : Int) = v.toInt) (e12_ : z11_ = Mz.1 (66, 0, 0) j13_) (h15_ : ¬ z11_.toInt = 0) (h26_ : (j25_ : Int) = t.toInt) (e24_ : z23_ = Mz.1 (66, 0, 0) j25_) (h27_ : ¬ z23_.toInt = 0) (h31_ : (j30_ : Int) = v.toInt) (e29_ : z28_ = Mz.1 (66, 0, 0) j30_) (h35_ : (j34_ : Int) = t.toInt) (e33_ : z32_ = Mz.1 (66, 0, 0) j34_) (h36_ : z28_.toInt = z32_.toInt) (h37_ : 0 ≤ q.toInt) (h45_ : 0 ≤ u.toInt) (h53_ : 0 ≤ s.toInt) (h63_ : w61_.toInt = u.toInt) (h66_ : w64_.toInt = q.toInt) (h69_ : w67_.toInt = w61_.toInt + w64_.toInt) (h73_ : (j72_ : Int) = v.toInt) (e71_ : z70_ = Mz.1 (67, 0, 0) j72_) (h74_ : 0 ≤ z70_.toInt ∧ z70_.toInt ≤ 24) (h77_ : w75_.toInt = z70_.toInt) (h79_ : (z78_.toInt = -1 ∧ w67_.toInt < w75_.toInt) ∨ (z78_.toInt = 0 ∧ w67_.toInt = w75_.toInt) ∨ (z78_.toInt = 1 ∧ w75_.toInt < w67_.toInt)) (h80_ : z78_.toInt ≤ 0) (h90_ : w88_.toInt = s.toInt) (h93_ : w91_.toInt = q.toInt) (h96_ : w94_.toInt = w88_.toInt + w91_.toInt) (h100_ : (j99_ : Int) = t.toInt) (e98_ : z97_ = Mz.1 (67, 0, 0) j99_) (h101_ : 0 ≤ z97_.toInt ∧ z97_.toInt ≤ 24) (h104_ : w102_.toInt = z97_.toInt) (h106_ : (z105_.toInt = -1 ∧ w94_.toInt < w102_.toInt) ∨ (z105_.toInt = 0 ∧ w94_.toInt = w102_.toInt) ∨ (z105_.toInt = 1 ∧ w102_.toInt < w94_.toInt)) (h107_ : z105_.toInt ≤ 0) (hv0_127 : 0 ≤ v6_127.toInt) (h109_ : q.toInt ≤ v6_127.toInt) (hv0_164 : 0 ≤ v6_164.toInt) (h111_ : v6_164.toInt < q.toInt) (h113_ : z112_.toInt = 24 * t.toInt) (h119_ : (j118_ : Int) = v6_164.toInt) (e117_ : z116_ = M_164.1 (69, 0, 0) j118_) (h123_ : (j122_ : Int) = z115_.toInt) (hM121_ : M120_ = up M_164 (68, 0, 0) j122_ z116_) (h127_ : z126_.toInt = v6_164.toInt + 1) : 0 ≤ z126_.toInt := by have r_v := rngI v; have r_u := rngI u; have r_t := rngI t; have r_s := rngI s; have r_q := rngI q; have r_z11_ := rngI z11_; have r_z23_ := rngI z23_; have r_z28_ := rngI z28_; have r_z32_ := rngI z32_; have r_z70_ := rngI z70_; have r_z78_ := rngI z78_; have r_z97_ := rngI z97_; have r_z105_ := rngI z105_; have r_v6_127 := rngI v6_127; have r_v6_164 := rngI v6_164; have r_z112_ := rngI z112_; have r_z115_ := rngI z115_; have r_z116_ := rngI z116_; have r_z126_ := rngI z126_; subst e12_; subst e24_; subst e29_; subst e33_; subst e71_; subst e98_; subst e117_; omega
theorem lf_c_X12_move_13 (M120_ : mM) (M_164 : mM) (Mz : mM) (v : Int32) (u : Int32) (t : Int32) (s : Int32) (q : Int32) (j13_ : Nat) (z11_ : Int32) (j25_ : Nat) (z23_ : Int32) (j30_ : Nat) (z28_ : Int32) (j34_ : Nat) (z32_ : Int32) (w61_ : Int64) (w64_ : Int64) (w67_ : Int64) (j72_ : Nat) (z70_ : Int32) (w75_ : Int64) (z78_ : Int32) (w88_ : Int64) (w91_ : Int64) (w94_ : Int64) (j99_ : Nat) (z97_ : Int32) (w102_ : Int64) (z105_ : Int32) (v6_127 : Int32) (v6_164 : Int32) (z112_ : Int32) (z115_ : Int32) (j118_ : Nat) (z116_ : Int32) (j122_ : Nat) (z126_ : Int32) (h4_ : 0 ≤ v.toInt ∧ v.toInt ≤ 3) (h9_ : 0 ≤ t.toInt ∧ t.toInt ≤ 3) (h14_ : (j13_ : Int) = v.toInt) (e12_ : z11_ = Mz.1 (66, 0, 0) j13_) (h15_ : ¬ z11_.toInt = 0) (h26_ : (j25_ : Int) = t.toInt) (e24_ : z23_ = Mz.1 (66, 0, 0) j25_) (h27_ : ¬ z23_.toInt = 0) (h31_ : (j30_ : Int) = v.toInt) (e29_ : z28_ = Mz.1 (66, 0, 0) j30_) (h35_ : (j34_ : Int) = t.toInt) (e33_ : z32_ = Mz.1 (66, 0, 0) j34_) (h36_ : z28_.toInt = z32_.toInt) (h37_ : 0 ≤ q.toInt) (h45_ : 0 ≤ u.toInt) (h53_ : 0 ≤ s.toInt) (h63_ : w61_.toInt = u.toInt) (h66_ : w64_.toInt = q.toInt) (h69_ : w67_.toInt = w61_.toInt + w64_.toInt) (h73_ : (j72_ : Int) = v.toInt) (e71_ : z70_ = Mz.1 (67, 0, 0) j72_) (h74_ : 0 ≤ z70_.toInt ∧ z70_.toInt ≤ 24) (h77_ : w75_.toInt = z70_.toInt) (h79_ : (z78_.toInt = -1 ∧ w67_.toInt < w75_.toInt) ∨ (z78_.toInt = 0 ∧ w67_.toInt = w75_.toInt) ∨ (z78_.toInt = 1 ∧ w75_.toInt < w67_.toInt)) (h80_ : z78_.toInt ≤ 0) (h90_ : w88_.toInt = s.toInt) (h93_ : w91_.toInt = q.toInt) (h96_ : w94_.toInt = w88_.toInt + w91_.toInt) (h100_ : (j99_ : Int) = t.toInt) (e98_ : z97_ = Mz.1 (67, 0, 0) j99_) (h101_ : 0 ≤ z97_.toInt ∧ z97_.toInt ≤ 24) (h104_ : w102_.toInt = z97_.toInt) (h106_ : (z105_.toInt = -1 ∧ w94_.toInt < w102_.toInt) ∨ (z105_.toInt = 0 ∧ w94_.toInt = w102_.toInt) ∨ (z105_.toInt = 1 ∧ w102_.toInt < w94_.toInt)) (h107_ : z105_.toInt ≤ 0) (hv0_127 : 0 ≤ v6_127.toInt) (h109_ : q.toInt ≤ v6_127.toInt) (hv0_164 : 0 ≤ v6_164.toInt) (h111_ : v6_164.toInt < q.toInt) (h113_ : z112_.toInt = 24 * t.toInt) (h119_ : (j118_ : Int) = v6_164.toInt) (e117_ : z116_ = M_164.1 (69, 0, 0) j118_) (h123_ : (j122_ : Int) = z115_.toInt) (hM121_ : M120_ = up M_164 (68, 0, 0) j122_ z116_) (h127_ : z126_.toInt = v6_164.toInt + 1) : (2147483648 - z126_.toInt).toNat < (2147483648 - v6_164.toInt).toNat := by have r_v := rngI v; have r_u := rngI u; have r_t := rngI t; have r_s := rngI s; have r_q := rngI q; have r_z11_ := rngI z11_; have r_z23_ := rngI z23_; have r_z28_ := rngI z28_; have r_z32_ := rngI z32_; have r_z70_ := rngI z70_; have r_z78_ := rngI z78_; have r_z97_ := rngI z97_; have r_z105_ := rngI z105_; have r_v6_127 := rngI v6_127; have r_v6_164 := rngI v6_164; have r_z112_ := rngI z112_; have r_z115_ := rngI z115_; have r_z116_ := rngI z116_; have r_z126_ := rngI z126_; subst e12_; subst e24_; subst e29_; subst e33_; subst e71_; subst e98_; subst e117_; omega
theorem lf_c_X12_move_14    : 0 ≤ (0 : Int32).toInt := by have q0 := li_0; omega
theorem lf_c_X12_move_15 (Mz : mM) (v : Int32) (u : Int32) (t : Int32) (s : Int32) (q : Int32) (j13_ : Nat) (z11_ : Int32) (j25_ : Nat) (z23_ : Int32) (j30_ : Nat) (z28_ : Int32) (j34_ : Nat) (z32_ : Int32) (w61_ : Int64) (w64_ : Int64) (w67_ : Int64) (j72_ : Nat) (z70_ : Int32) (w75_ : Int64) (z78_ : Int32) (w88_ : Int64) (w91_ : Int64) (w94_ : Int64) (j99_ : Nat) (z97_ : Int32) (w102_ : Int64) (z105_ : Int32) (v6_127 : Int32) (h4_ : 0 ≤ v.toInt ∧ v.toInt ≤ 3) (h9_ : 0 ≤ t.toInt ∧ t.toInt ≤ 3) (h14_ : (j13_ : Int) = v.toInt) (e12_ : z11_ = Mz.1 (66, 0, 0) j13_) (h15_ : ¬ z11_.toInt = 0) (h26_ : (j25_ : Int) = t.toInt) (e24_ : z23_ = Mz.1 (66, 0, 0) j25_) (h27_ : ¬ z23_.toInt = 0) (h31_ : (j30_ : Int) = v.toInt) (e29_ : z28_ = Mz.1 (66, 0, 0) j30_) (h35_ : (j34_ : Int) = t.toInt) (e33_ : z32_ = Mz.1 (66, 0, 0) j34_) (h36_ : z28_.toInt = z32_.toInt) (h37_ : 0 ≤ q.toInt) (h45_ : 0 ≤ u.toInt) (h53_ : 0 ≤ s.toInt) (h63_ : w61_.toInt = u.toInt) (h66_ : w64_.toInt = q.toInt) (h69_ : w67_.toInt = w61_.toInt + w64_.toInt) (h73_ : (j72_ : Int) = v.toInt) (e71_ : z70_ = Mz.1 (67, 0, 0) j72_) (h74_ : 0 ≤ z70_.toInt ∧ z70_.toInt ≤ 24) (h77_ : w75_.toInt = z70_.toInt) (h79_ : (z78_.toInt = -1 ∧ w67_.toInt < w75_.toInt) ∨ (z78_.toInt = 0 ∧ w67_.toInt = w75_.toInt) ∨ (z78_.toInt = 1 ∧ w75_.toInt < w67_.toInt)) (h80_ : z78_.toInt ≤ 0) (h90_ : w88_.toInt = s.toInt) (h93_ : w91_.toInt = q.toInt) (h96_ : w94_.toInt = w88_.toInt + w91_.toInt) (h100_ : (j99_ : Int) = t.toInt) (e98_ : z97_ = Mz.1 (67, 0, 0) j99_) (h101_ : 0 ≤ z97_.toInt ∧ z97_.toInt ≤ 24) (h104_ : w102_.toInt = z97_.toInt) (h106_ : (z105_.toInt = -1 ∧ w94_.toInt < w102_.toInt) ∨ (z105_.toInt = 0 ∧ w94_.toInt = w102_.toInt) ∨ (z105_.toInt = 1 ∧ w102_.toInt < w94_.toInt)) (h107_ : z105_.toInt ≤ 0) (hv0_127 : 0 ≤ v6_127.toInt) (h109_ : v6_127.toInt < q.toInt) : -2147483648 ≤ 24 * v.toInt ∧ 24 * v.toInt < 2147483648 := by have r_v := rngI v; have r_u := rngI u; have r_t := rngI t; have r_s := rngI s; have r_q := rngI q; have r_z11_ := rngI z11_; have r_z23_ := rngI z23_; have r_z28_ := rngI z28_; have r_z32_ := rngI z32_; have r_z70_ := rngI z70_; have r_z78_ := rngI z78_; have r_z97_ := rngI z97_; have r_z105_ := rngI z105_; have r_v6_127 := rngI v6_127; subst e12_; subst e24_; subst e29_; subst e33_; subst e71_; subst e98_; omega
theorem lf_c_X12_move_16  (z131_ : Int32)  : 0 ≤ z131_.toInt ∧ z131_.toInt < ((96 : Nat) : Int) := by have r_z131_ := rngI z131_; omega
theorem lf_c_X12_move_17 (Mz : mM) (v : Int32) (u : Int32) (t : Int32) (s : Int32) (q : Int32) (j13_ : Nat) (z11_ : Int32) (j25_ : Nat) (z23_ : Int32) (j30_ : Nat) (z28_ : Int32) (j34_ : Nat) (z32_ : Int32) (w61_ : Int64) (w64_ : Int64) (w67_ : Int64) (j72_ : Nat) (z70_ : Int32) (w75_ : Int64) (z78_ : Int32) (w88_ : Int64) (w91_ : Int64) (w94_ : Int64) (j99_ : Nat) (z97_ : Int32) (w102_ : Int64) (z105_ : Int32) (v6_127 : Int32) (z128_ : Int32) (h4_ : 0 ≤ v.toInt ∧ v.toInt ≤ 3) (h9_ : 0 ≤ t.toInt ∧ t.toInt ≤ 3) (h14_ : (j13_ : Int) = v.toInt) (e12_ : z11_ = Mz.1 (66, 0, 0) j13_) (h15_ : ¬ z11_.toInt = 0) (h26_ : (j25_ : Int) = t.toInt) (e24_ : z23_ = Mz.1 (66, 0, 0) j25_) (h27_ : ¬ z23_.toInt = 0) (h31_ : (j30_ : Int) = v.toInt) (e29_ : z28_ = Mz.1 (66, 0, 0) j30_) (h35_ : (j34_ : Int) = t.toInt) (e33_ : z32_ = Mz.1 (66, 0, 0) j34_) (h36_ : z28_.toInt = z32_.toInt) (h37_ : 0 ≤ q.toInt) (h45_ : 0 ≤ u.toInt) (h53_ : 0 ≤ s.toInt) (h63_ : w61_.toInt = u.toInt) (h66_ : w64_.toInt = q.toInt) (h69_ : w67_.toInt = w61_.toInt + w64_.toInt) (h73_ : (j72_ : Int) = v.toInt) (e71_ : z70_ = Mz.1 (67, 0, 0) j72_) (h74_ : 0 ≤ z70_.toInt ∧ z70_.toInt ≤ 24) (h77_ : w75_.toInt = z70_.toInt) (h79_ : (z78_.toInt = -1 ∧ w67_.toInt < w75_.toInt) ∨ (z78_.toInt = 0 ∧ w67_.toInt = w75_.toInt) ∨ (z78_.toInt = 1 ∧ w75_.toInt < w67_.toInt)) (h80_ : z78_.toInt ≤ 0) (h90_ : w88_.toInt = s.toInt) (h93_ : w91_.toInt = q.toInt) (h96_ : w94_.toInt = w88_.toInt + w91_.toInt) (h100_ : (j99_ : Int) = t.toInt) (e98_ : z97_ = Mz.1 (67, 0, 0) j99_) (h101_ : 0 ≤ z97_.toInt ∧ z97_.toInt ≤ 24) (h104_ : w102_.toInt = z97_.toInt) (h106_ : (z105_.toInt = -1 ∧ w94_.toInt < w102_.toInt) ∨ (z105_.toInt = 0 ∧ w94_.toInt = w102_.toInt) ∨ (z105_.toInt = 1 ∧ w102_.toInt < w94_.toInt)) (h107_ : z105_.toInt ≤ 0) (hv0_127 : 0 ≤ v6_127.toInt) (h109_ : v6_127.toInt < q.toInt) (h129_ : z128_.toInt = 24 * v.toInt) : 0 ≤ v6_127.toInt ∧ v6_127.toInt < ((24 : Nat) : Int) := by have r_v := rngI v; have r_u := rngI u; have r_t := rngI t; have r_s := rngI s; have r_q := rngI q; have r_z11_ := rngI z11_; have r_z23_ := rngI z23_; have r_z28_ := rngI z28_; have r_z32_ := rngI z32_; have r_z70_ := rngI z70_; have r_z78_ := rngI z78_; have r_z97_ := rngI z97_; have r_z105_ := rngI z105_; have r_v6_127 := rngI v6_127; have r_z128_ := rngI z128_; subst e12_; subst e24_; subst e29_; subst e33_; subst e71_; subst e98_; omega
theorem lf_c_X12_move_18 (M136_ : mM) (M_127 : mM) (Mz : mM) (v : Int32) (u : Int32) (t : Int32) (s : Int32) (q : Int32) (j13_ : Nat) (z11_ : Int32) (j25_ : Nat) (z23_ : Int32) (j30_ : Nat) (z28_ : Int32) (j34_ : Nat) (z32_ : Int32) (w61_ : Int64) (w64_ : Int64) (w67_ : Int64) (j72_ : Nat) (z70_ : Int32) (w75_ : Int64) (z78_ : Int32) (w88_ : Int64) (w91_ : Int64) (w94_ : Int64) (j99_ : Nat) (z97_ : Int32) (w102_ : Int64) (z105_ : Int32) (v6_127 : Int32) (z128_ : Int32) (z131_ : Int32) (j134_ : Nat) (z132_ : Int32) (j138_ : Nat) (h4_ : 0 ≤ v.toInt ∧ v.toInt ≤ 3) (h9_ : 0 ≤ t.toInt ∧ t.toInt ≤ 3) (h14_ : (j13_ : Int) = v.toInt) (e12_ : z11_ = Mz.1 (66, 0, 0) j13_) (h15_ : ¬ z11_.toInt = 0) (h26_ : (j25_ : Int) = t.toInt) (e24_ : z23_ = Mz.1 (66, 0, 0) j25_) (h27_ : ¬ z23_.toInt = 0) (h31_ : (j30_ : Int) = v.toInt) (e29_ : z28_ = Mz.1 (66, 0, 0) j30_) (h35_ : (j34_ : Int) = t.toInt) (e33_ : z32_ = Mz.1 (66, 0, 0) j34_) (h36_ : z28_.toInt = z32_.toInt) (h37_ : 0 ≤ q.toInt) (h45_ : 0 ≤ u.toInt) (h53_ : 0 ≤ s.toInt) (h63_ : w61_.toInt = u.toInt) (h66_ : w64_.toInt = q.toInt) (h69_ : w67_.toInt = w61_.toInt + w64_.toInt) (h73_ : (j72_ : Int) = v.toInt) (e71_ : z70_ = Mz.1 (67, 0, 0) j72_) (h74_ : 0 ≤ z70_.toInt ∧ z70_.toInt ≤ 24) (h77_ : w75_.toInt = z70_.toInt) (h79_ : (z78_.toInt = -1 ∧ w67_.toInt < w75_.toInt) ∨ (z78_.toInt = 0 ∧ w67_.toInt = w75_.toInt) ∨ (z78_.toInt = 1 ∧ w75_.toInt < w67_.toInt)) (h80_ : z78_.toInt ≤ 0) (h90_ : w88_.toInt = s.toInt) (h93_ : w91_.toInt = q.toInt) (h96_ : w94_.toInt = w88_.toInt + w91_.toInt) (h100_ : (j99_ : Int) = t.toInt) (e98_ : z97_ = Mz.1 (67, 0, 0) j99_) (h101_ : 0 ≤ z97_.toInt ∧ z97_.toInt ≤ 24) (h104_ : w102_.toInt = z97_.toInt) (h106_ : (z105_.toInt = -1 ∧ w94_.toInt < w102_.toInt) ∨ (z105_.toInt = 0 ∧ w94_.toInt = w102_.toInt) ∨ (z105_.toInt = 1 ∧ w102_.toInt < w94_.toInt)) (h107_ : z105_.toInt ≤ 0) (hv0_127 : 0 ≤ v6_127.toInt) (h109_ : v6_127.toInt < q.toInt) (h129_ : z128_.toInt = 24 * v.toInt) (h135_ : (j134_ : Int) = z131_.toInt) (e133_ : z132_ = M_127.1 (68, 0, 0) j134_) (h139_ : (j138_ : Int) = v6_127.toInt) (hM137_ : M136_ = up M_127 (69, 0, 0) j138_ z132_) : -2147483648 ≤ v6_127.toInt + 1 ∧ v6_127.toInt + 1 < 2147483648 := by have r_v := rngI v; have r_u := rngI u; have r_t := rngI t; have r_s := rngI s; have r_q := rngI q; have r_z11_ := rngI z11_; have r_z23_ := rngI z23_; have r_z28_ := rngI z28_; have r_z32_ := rngI z32_; have r_z70_ := rngI z70_; have r_z78_ := rngI z78_; have r_z97_ := rngI z97_; have r_z105_ := rngI z105_; have r_v6_127 := rngI v6_127; have r_z128_ := rngI z128_; have r_z131_ := rngI z131_; have r_z132_ := rngI z132_; subst e12_; subst e24_; subst e29_; subst e33_; subst e71_; subst e98_; subst e133_; omega
theorem lf_c_X12_move_19 (M136_ : mM) (M_127 : mM) (Mz : mM) (v : Int32) (u : Int32) (t : Int32) (s : Int32) (q : Int32) (j13_ : Nat) (z11_ : Int32) (j25_ : Nat) (z23_ : Int32) (j30_ : Nat) (z28_ : Int32) (j34_ : Nat) (z32_ : Int32) (w61_ : Int64) (w64_ : Int64) (w67_ : Int64) (j72_ : Nat) (z70_ : Int32) (w75_ : Int64) (z78_ : Int32) (w88_ : Int64) (w91_ : Int64) (w94_ : Int64) (j99_ : Nat) (z97_ : Int32) (w102_ : Int64) (z105_ : Int32) (v6_127 : Int32) (z128_ : Int32) (z131_ : Int32) (j134_ : Nat) (z132_ : Int32) (j138_ : Nat) (z142_ : Int32) (h4_ : 0 ≤ v.toInt ∧ v.toInt ≤ 3) (h9_ : 0 ≤ t.toInt ∧ t.toInt ≤ 3) (h14_ : (j13_ : Int) = v.toInt) (e12_ : z11_ = Mz.1 (66, 0, 0) j13_) (h15_ : ¬ z11_.toInt = 0) (h26_ : (j25_ : Int) = t.toInt) (e24_ : z23_ = Mz.1 (66, 0, 0) j25_) (h27_ : ¬ z23_.toInt = 0) (h31_ : (j30_ : Int) = v.toInt) (e29_ : z28_ = Mz.1 (66, 0, 0) j30_) (h35_ : (j34_ : Int) = t.toInt) (e33_ : z32_ = Mz.1 (66, 0, 0) j34_) (h36_ : z28_.toInt = z32_.toInt) (h37_ : 0 ≤ q.toInt) (h45_ : 0 ≤ u.toInt) (h53_ : 0 ≤ s.toInt) (h63_ : w61_.toInt = u.toInt) (h66_ : w64_.toInt = q.toInt) (h69_ : w67_.toInt = w61_.toInt + w64_.toInt) (h73_ : (j72_ : Int) = v.toInt) (e71_ : z70_ = Mz.1 (67, 0, 0) j72_) (h74_ : 0 ≤ z70_.toInt ∧ z70_.toInt ≤ 24) (h77_ : w75_.toInt = z70_.toInt) (h79_ : (z78_.toInt = -1 ∧ w67_.toInt < w75_.toInt) ∨ (z78_.toInt = 0 ∧ w67_.toInt = w75_.toInt) ∨ (z78_.toInt = 1 ∧ w75_.toInt < w67_.toInt)) (h80_ : z78_.toInt ≤ 0) (h90_ : w88_.toInt = s.toInt) (h93_ : w91_.toInt = q.toInt) (h96_ : w94_.toInt = w88_.toInt + w91_.toInt) (h100_ : (j99_ : Int) = t.toInt) (e98_ : z97_ = Mz.1 (67, 0, 0) j99_) (h101_ : 0 ≤ z97_.toInt ∧ z97_.toInt ≤ 24) (h104_ : w102_.toInt = z97_.toInt) (h106_ : (z105_.toInt = -1 ∧ w94_.toInt < w102_.toInt) ∨ (z105_.toInt = 0 ∧ w94_.toInt = w102_.toInt) ∨ (z105_.toInt = 1 ∧ w102_.toInt < w94_.toInt)) (h107_ : z105_.toInt ≤ 0) (hv0_127 : 0 ≤ v6_127.toInt) (h109_ : v6_127.toInt < q.toInt) (h129_ : z128_.toInt = 24 * v.toInt) (h135_ : (j134_ : Int) = z131_.toInt) (e133_ : z132_ = M_127.1 (68, 0, 0) j134_) (h139_ : (j138_ : Int) = v6_127.toInt) (hM137_ : M136_ = up M_127 (69, 0, 0) j138_ z132_) (h143_ : z142_.toInt = v6_127.toInt + 1) : 0 ≤ z142_.toInt := by have r_v := rngI v; have r_u := rngI u; have r_t := rngI t; have r_s := rngI s; have r_q := rngI q; have r_z11_ := rngI z11_; have r_z23_ := rngI z23_; have r_z28_ := rngI z28_; have r_z32_ := rngI z32_; have r_z70_ := rngI z70_; have r_z78_ := rngI z78_; have r_z97_ := rngI z97_; have r_z105_ := rngI z105_; have r_v6_127 := rngI v6_127; have r_z128_ := rngI z128_; have r_z131_ := rngI z131_; have r_z132_ := rngI z132_; have r_z142_ := rngI z142_; subst e12_; subst e24_; subst e29_; subst e33_; subst e71_; subst e98_; subst e133_; omega
theorem lf_c_X12_move_20 (M136_ : mM) (M_127 : mM) (Mz : mM) (v : Int32) (u : Int32) (t : Int32) (s : Int32) (q : Int32) (j13_ : Nat) (z11_ : Int32) (j25_ : Nat) (z23_ : Int32) (j30_ : Nat) (z28_ : Int32) (j34_ : Nat) (z32_ : Int32) (w61_ : Int64) (w64_ : Int64) (w67_ : Int64) (j72_ : Nat) (z70_ : Int32) (w75_ : Int64) (z78_ : Int32) (w88_ : Int64) (w91_ : Int64) (w94_ : Int64) (j99_ : Nat) (z97_ : Int32) (w102_ : Int64) (z105_ : Int32) (v6_127 : Int32) (z128_ : Int32) (z131_ : Int32) (j134_ : Nat) (z132_ : Int32) (j138_ : Nat) (z142_ : Int32) (h4_ : 0 ≤ v.toInt ∧ v.toInt ≤ 3) (h9_ : 0 ≤ t.toInt ∧ t.toInt ≤ 3) (h14_ : (j13_ : Int) = v.toInt) (e12_ : z11_ = Mz.1 (66, 0, 0) j13_) (h15_ : ¬ z11_.toInt = 0) (h26_ : (j25_ : Int) = t.toInt) (e24_ : z23_ = Mz.1 (66, 0, 0) j25_) (h27_ : ¬ z23_.toInt = 0) (h31_ : (j30_ : Int) = v.toInt) (e29_ : z28_ = Mz.1 (66, 0, 0) j30_) (h35_ : (j34_ : Int) = t.toInt) (e33_ : z32_ = Mz.1 (66, 0, 0) j34_) (h36_ : z28_.toInt = z32_.toInt) (h37_ : 0 ≤ q.toInt) (h45_ : 0 ≤ u.toInt) (h53_ : 0 ≤ s.toInt) (h63_ : w61_.toInt = u.toInt) (h66_ : w64_.toInt = q.toInt) (h69_ : w67_.toInt = w61_.toInt + w64_.toInt) (h73_ : (j72_ : Int) = v.toInt) (e71_ : z70_ = Mz.1 (67, 0, 0) j72_) (h74_ : 0 ≤ z70_.toInt ∧ z70_.toInt ≤ 24) (h77_ : w75_.toInt = z70_.toInt) (h79_ : (z78_.toInt = -1 ∧ w67_.toInt < w75_.toInt) ∨ (z78_.toInt = 0 ∧ w67_.toInt = w75_.toInt) ∨ (z78_.toInt = 1 ∧ w75_.toInt < w67_.toInt)) (h80_ : z78_.toInt ≤ 0) (h90_ : w88_.toInt = s.toInt) (h93_ : w91_.toInt = q.toInt) (h96_ : w94_.toInt = w88_.toInt + w91_.toInt) (h100_ : (j99_ : Int) = t.toInt) (e98_ : z97_ = Mz.1 (67, 0, 0) j99_) (h101_ : 0 ≤ z97_.toInt ∧ z97_.toInt ≤ 24) (h104_ : w102_.toInt = z97_.toInt) (h106_ : (z105_.toInt = -1 ∧ w94_.toInt < w102_.toInt) ∨ (z105_.toInt = 0 ∧ w94_.toInt = w102_.toInt) ∨ (z105_.toInt = 1 ∧ w102_.toInt < w94_.toInt)) (h107_ : z105_.toInt ≤ 0) (hv0_127 : 0 ≤ v6_127.toInt) (h109_ : v6_127.toInt < q.toInt) (h129_ : z128_.toInt = 24 * v.toInt) (h135_ : (j134_ : Int) = z131_.toInt) (e133_ : z132_ = M_127.1 (68, 0, 0) j134_) (h139_ : (j138_ : Int) = v6_127.toInt) (hM137_ : M136_ = up M_127 (69, 0, 0) j138_ z132_) (h143_ : z142_.toInt = v6_127.toInt + 1) : (2147483648 - z142_.toInt).toNat < (2147483648 - v6_127.toInt).toNat := by have r_v := rngI v; have r_u := rngI u; have r_t := rngI t; have r_s := rngI s; have r_q := rngI q; have r_z11_ := rngI z11_; have r_z23_ := rngI z23_; have r_z28_ := rngI z28_; have r_z32_ := rngI z32_; have r_z70_ := rngI z70_; have r_z78_ := rngI z78_; have r_z97_ := rngI z97_; have r_z105_ := rngI z105_; have r_v6_127 := rngI v6_127; have r_z128_ := rngI z128_; have r_z131_ := rngI z131_; have r_z132_ := rngI z132_; have r_z142_ := rngI z142_; subst e12_; subst e24_; subst e29_; subst e33_; subst e71_; subst e98_; subst e133_; omega
theorem lf_c_X12_move_21    : 0 ≤ (0 : Int32).toInt := by have q0 := li_0; omega
set_option maxHeartbeats 4000000 in
set_option maxRecDepth 100000 in
theorem c_X12_move (l : Launch) (G : va_G) (cy : Nat → ClassId) (ad : rf → Nat) (d : Nat) (v : Int32) (u : Int32) (t : Int32) (s : Int32) (q : Int32) (Mz : mM) (hIz : InvD Mz) : WP DD l G cy ad yX12_move cX12_move 7 (some .int) (d + 2) 0 [(0, vR (12, 0, 0)), (1, vI v), (2, vI u), (3, vI t), (4, vI s), (5, vI q)] [] Mz (fun r M' => InvD M' ∧ FR (S_c_X12_move) Mz M' ∧ True) := by
  have hFz : FR (S_c_X12_move) Mz Mz := FR.self
  refine w_iload_n dX12_move_0 rfl 1 rfl ?_
  refine w_callS (as := [vI v]) (rest := []) (c_X12_isSheet l G cy ad d v Mz hIz) kS_X12_isSheet (by decide +kernel) (Nat.le_of_ble_eq_true rfl) m_1497 rfl rfl (by decide) (Nat.le_of_ble_eq_true rfl) dX12_move_1 (fun r1_ M2_ q3_ => ?_)
  obtain ⟨rfl, h4_⟩ := q3_
  rcases h4_ with ⟨rfl, h4_⟩ | ⟨rfl, h4_⟩
  · refine w_if_eq (tgt := 14) dX12_move_4 (by decide) li_1 (fun h9 => (absurd h9 (by decide))) (fun h5_ => ?_)
    refine w_iload_n dX12_move_7 rfl 3 rfl ?_
    refine w_callS (as := [vI t]) (rest := []) (c_X12_isSheet l G cy ad d t Mz hIz) kS_X12_isSheet (by decide +kernel) (Nat.le_of_ble_eq_true rfl) m_1497 rfl rfl (by decide) (Nat.le_of_ble_eq_true rfl) dX12_move_8 (fun r6_ M7_ q8_ => ?_)
    obtain ⟨rfl, h9_⟩ := q8_
    rcases h9_ with ⟨rfl, h9_⟩ | ⟨rfl, h9_⟩
    · refine w_if_ne (tgt := 21) dX12_move_11 (by decide) li_1 (fun h10_ => ?_) (fun h9 => (absurd h9 (by decide)))
      refine w_aload_n dX12_move_21 rfl 0 rfl ?_
      refine w_getR (c' := (66, 0, 0)) fl_RX12_72 rfl rfl ic_12 dX12_move_22 rfl ?_
      refine w_iload_n dX12_move_25 rfl 1 rfl ?_
      refine w_iald rfl rfl ic_66 (rfl : v.toInt = v.toInt) (lf_c_X12_move_0 v h4_) dX12_move_26 (fun j13_ h14_ z11_ e12_ => ?_)
      refine w_if_eq (tgt := 39) dX12_move_27 (by decide) (rfl : z11_.toInt = z11_.toInt) (fun h15_ => ?_) (fun h15_ => ?_)
      · refine w_aload_n dX12_move_39 rfl 0 rfl ?_
        refine w_ldc (v := (-1000002)) m_1500 dX12_move_40 ?_
        refine w_callV (as := [vI (-1000002)]) (rest := []) (c_X12_finding l G cy ad (d + 1) (-1000002) Mz hIz (by first | decide | (unfold vF; omega) | (unfold vRw; omega))) kV_X12_finding (by decide +kernel) (Nat.le_of_ble_eq_true rfl) m_1434 rfl rfl rfl ic_12 rfl rfl (by decide) (Nat.le_of_ble_eq_true rfl) dX12_move_42 (fun r16_ M17_ q18_ => ?_)
        obtain ⟨hI20_, hF21_, h19_⟩ := q18_
        have hF22_ := hFz.tr hF21_ (fun c k => (fun h => h.elim (fun h => (Or.inl ⟨h.1, h.2⟩)) (fun h => h.elim)))
        simp only [li_m1000002] at h19_
        exact w_iret rfl dX12_move_45 ⟨hI20_, hF22_, trivial⟩
      · refine w_aload_n dX12_move_30 rfl 0 rfl ?_
        refine w_getR (c' := (66, 0, 0)) fl_RX12_72 rfl rfl ic_12 dX12_move_31 rfl ?_
        refine w_iload_n dX12_move_34 rfl 3 rfl ?_
        refine w_iald rfl rfl ic_66 (rfl : t.toInt = t.toInt) (lf_c_X12_move_1 t h9_) dX12_move_35 (fun j25_ h26_ z23_ e24_ => ?_)
        refine w_if_ne (tgt := 46) dX12_move_36 (by decide) (rfl : z23_.toInt = z23_.toInt) (fun h27_ => ?_) (fun h27_ => ?_)
        · refine w_aload_n dX12_move_46 rfl 0 rfl ?_
          refine w_getR (c' := (66, 0, 0)) fl_RX12_72 rfl rfl ic_12 dX12_move_47 rfl ?_
          refine w_iload_n dX12_move_50 rfl 1 rfl ?_
          refine w_iald rfl rfl ic_66 (rfl : v.toInt = v.toInt) (lf_c_X12_move_2 Mz v j13_ z11_ h4_ h14_ e12_ h15_) dX12_move_51 (fun j30_ h31_ z28_ e29_ => ?_)
          refine w_aload_n dX12_move_52 rfl 0 rfl ?_
          refine w_getR (c' := (66, 0, 0)) fl_RX12_72 rfl rfl ic_12 dX12_move_53 rfl ?_
          refine w_iload_n dX12_move_56 rfl 3 rfl ?_
          refine w_iald rfl rfl ic_66 (rfl : t.toInt = t.toInt) (lf_c_X12_move_3 Mz t j25_ z23_ h9_ h26_ e24_ h27_) dX12_move_57 (fun j34_ h35_ z32_ e33_ => ?_)
          refine w_icmp_eq (tgt := 68) dX12_move_58 (by decide) (rfl : z28_.toInt = z28_.toInt) (rfl : z32_.toInt = z32_.toInt) (fun h36_ => ?_) (fun h36_ => ?_)
          · refine w_iload dX12_move_68 5 rfl ?_
            refine w_if_lt (tgt := 117) dX12_move_70 (by decide) (rfl : q.toInt = q.toInt) (fun h37_ => ?_) (fun h37_ => ?_)
            · refine w_aload_n dX12_move_117 rfl 0 rfl ?_
              refine w_ldc (v := (-1000001)) m_1433 dX12_move_118 ?_
              refine w_callV (as := [vI (-1000001)]) (rest := []) (c_X12_finding l G cy ad (d + 1) (-1000001) Mz hIz (by first | decide | (unfold vF; omega) | (unfold vRw; omega))) kV_X12_finding (by decide +kernel) (Nat.le_of_ble_eq_true rfl) m_1434 rfl rfl rfl ic_12 rfl rfl (by decide) (Nat.le_of_ble_eq_true rfl) dX12_move_120 (fun r38_ M39_ q40_ => ?_)
              obtain ⟨hI42_, hF43_, h41_⟩ := q40_
              have hF44_ := hFz.tr hF43_ (fun c k => (fun h => h.elim (fun h => (Or.inl ⟨h.1, h.2⟩)) (fun h => h.elim)))
              simp only [li_m1000001] at h41_
              exact w_iret rfl dX12_move_123 ⟨hI42_, hF44_, trivial⟩
            · refine w_iload_n dX12_move_73 rfl 2 rfl ?_
              refine w_if_lt (tgt := 117) dX12_move_74 (by decide) (rfl : u.toInt = u.toInt) (fun h45_ => ?_) (fun h45_ => ?_)
              · refine w_aload_n dX12_move_117 rfl 0 rfl ?_
                refine w_ldc (v := (-1000001)) m_1433 dX12_move_118 ?_
                refine w_callV (as := [vI (-1000001)]) (rest := []) (c_X12_finding l G cy ad (d + 1) (-1000001) Mz hIz (by first | decide | (unfold vF; omega) | (unfold vRw; omega))) kV_X12_finding (by decide +kernel) (Nat.le_of_ble_eq_true rfl) m_1434 rfl rfl rfl ic_12 rfl rfl (by decide) (Nat.le_of_ble_eq_true rfl) dX12_move_120 (fun r46_ M47_ q48_ => ?_)
                obtain ⟨hI50_, hF51_, h49_⟩ := q48_
                have hF52_ := hFz.tr hF51_ (fun c k => (fun h => h.elim (fun h => (Or.inl ⟨h.1, h.2⟩)) (fun h => h.elim)))
                simp only [li_m1000001] at h49_
                exact w_iret rfl dX12_move_123 ⟨hI50_, hF52_, trivial⟩
              · refine w_iload dX12_move_77 4 rfl ?_
                refine w_if_lt (tgt := 117) dX12_move_79 (by decide) (rfl : s.toInt = s.toInt) (fun h53_ => ?_) (fun h53_ => ?_)
                · refine w_aload_n dX12_move_117 rfl 0 rfl ?_
                  refine w_ldc (v := (-1000001)) m_1433 dX12_move_118 ?_
                  refine w_callV (as := [vI (-1000001)]) (rest := []) (c_X12_finding l G cy ad (d + 1) (-1000001) Mz hIz (by first | decide | (unfold vF; omega) | (unfold vRw; omega))) kV_X12_finding (by decide +kernel) (Nat.le_of_ble_eq_true rfl) m_1434 rfl rfl rfl ic_12 rfl rfl (by decide) (Nat.le_of_ble_eq_true rfl) dX12_move_120 (fun r54_ M55_ q56_ => ?_)
                  obtain ⟨hI58_, hF59_, h57_⟩ := q56_
                  have hF60_ := hFz.tr hF59_ (fun c k => (fun h => h.elim (fun h => (Or.inl ⟨h.1, h.2⟩)) (fun h => h.elim)))
                  simp only [li_m1000001] at h57_
                  exact w_iret rfl dX12_move_123 ⟨hI58_, hF60_, trivial⟩
                · refine w_iload_n dX12_move_82 rfl 2 rfl ?_
                  refine w_i2l dX12_move_83 (fun w61_ h62_ => ?_)
                  have h63_ : w61_.toInt = u.toInt := by rw [h62_]; exact Int32.toInt_toInt64 _
                  refine w_iload dX12_move_84 5 rfl ?_
                  refine w_i2l dX12_move_86 (fun w64_ h65_ => ?_)
                  have h66_ : w64_.toInt = q.toInt := by rw [h65_]; exact Int32.toInt_toInt64 _
                  refine w_ladd dX12_move_87 (fun w67_ h68_ => ?_)
                  have h69_ : w67_.toInt = w61_.toInt + w64_.toInt := by rw [h68_]; exact addL (lf_c_X12_move_4 u q w61_ w64_ h37_ h45_ h63_ h66_)
                  refine w_aload_n dX12_move_88 rfl 0 rfl ?_
                  refine w_getR (c' := (67, 0, 0)) fl_RX12_75 rfl rfl ic_12 dX12_move_89 rfl ?_
                  refine w_iload_n dX12_move_92 rfl 1 rfl ?_
                  refine w_iald rfl rfl ic_67 (rfl : v.toInt = v.toInt) (lf_c_X12_move_5 Mz v t j13_ z11_ j25_ z23_ j30_ z28_ j34_ z32_ h4_ h9_ h14_ e12_ h15_ h26_ e24_ h27_ h31_ e29_ h35_ e33_ h36_) dX12_move_93 (fun j72_ h73_ z70_ e71_ => ?_)
                  have h74_ : 0 ≤ z70_.toInt ∧ z70_.toInt ≤ 24 := pn_67 hIz e71_
                  refine w_i2l dX12_move_94 (fun w75_ h76_ => ?_)
                  have h77_ : w75_.toInt = z70_.toInt := by rw [h76_]; exact Int32.toInt_toInt64 _
                  refine w_lcmp dX12_move_95 (fun z78_ h79_ => ?_)
                  refine w_if_gt (tgt := 117) dX12_move_96 (by decide) (rfl : z78_.toInt = z78_.toInt) (fun h80_ => ?_) (fun h80_ => ?_)
                  · refine w_aload_n dX12_move_117 rfl 0 rfl ?_
                    refine w_ldc (v := (-1000001)) m_1433 dX12_move_118 ?_
                    refine w_callV (as := [vI (-1000001)]) (rest := []) (c_X12_finding l G cy ad (d + 1) (-1000001) Mz hIz (by first | decide | (unfold vF; omega) | (unfold vRw; omega))) kV_X12_finding (by decide +kernel) (Nat.le_of_ble_eq_true rfl) m_1434 rfl rfl rfl ic_12 rfl rfl (by decide) (Nat.le_of_ble_eq_true rfl) dX12_move_120 (fun r81_ M82_ q83_ => ?_)
                    obtain ⟨hI85_, hF86_, h84_⟩ := q83_
                    have hF87_ := hFz.tr hF86_ (fun c k => (fun h => h.elim (fun h => (Or.inl ⟨h.1, h.2⟩)) (fun h => h.elim)))
                    simp only [li_m1000001] at h84_
                    exact w_iret rfl dX12_move_123 ⟨hI85_, hF87_, trivial⟩
                  · refine w_iload dX12_move_99 4 rfl ?_
                    refine w_i2l dX12_move_101 (fun w88_ h89_ => ?_)
                    have h90_ : w88_.toInt = s.toInt := by rw [h89_]; exact Int32.toInt_toInt64 _
                    refine w_iload dX12_move_102 5 rfl ?_
                    refine w_i2l dX12_move_104 (fun w91_ h92_ => ?_)
                    have h93_ : w91_.toInt = q.toInt := by rw [h92_]; exact Int32.toInt_toInt64 _
                    refine w_ladd dX12_move_105 (fun w94_ h95_ => ?_)
                    have h96_ : w94_.toInt = w88_.toInt + w91_.toInt := by rw [h95_]; exact addL (lf_c_X12_move_6 Mz v u t s q j13_ z11_ j25_ z23_ j30_ z28_ j34_ z32_ w61_ w64_ w67_ j72_ z70_ w75_ z78_ w88_ w91_ h4_ h9_ h14_ e12_ h15_ h26_ e24_ h27_ h31_ e29_ h35_ e33_ h36_ h37_ h45_ h53_ h63_ h66_ h69_ h73_ e71_ h74_ h77_ h79_ h80_ h90_ h93_)
                    refine w_aload_n dX12_move_106 rfl 0 rfl ?_
                    refine w_getR (c' := (67, 0, 0)) fl_RX12_75 rfl rfl ic_12 dX12_move_107 rfl ?_
                    refine w_iload_n dX12_move_110 rfl 3 rfl ?_
                    refine w_iald rfl rfl ic_67 (rfl : t.toInt = t.toInt) (lf_c_X12_move_7 Mz v u t s q j13_ z11_ j25_ z23_ j30_ z28_ j34_ z32_ w61_ w64_ w67_ j72_ z70_ w75_ z78_ w88_ w91_ w94_ h4_ h9_ h14_ e12_ h15_ h26_ e24_ h27_ h31_ e29_ h35_ e33_ h36_ h37_ h45_ h53_ h63_ h66_ h69_ h73_ e71_ h74_ h77_ h79_ h80_ h90_ h93_ h96_) dX12_move_111 (fun j99_ h100_ z97_ e98_ => ?_)
                    have h101_ : 0 ≤ z97_.toInt ∧ z97_.toInt ≤ 24 := pn_67 hIz e98_
                    refine w_i2l dX12_move_112 (fun w102_ h103_ => ?_)
                    have h104_ : w102_.toInt = z97_.toInt := by rw [h103_]; exact Int32.toInt_toInt64 _
                    refine w_lcmp dX12_move_113 (fun z105_ h106_ => ?_)
                    refine w_if_le (tgt := 124) dX12_move_114 (by decide) (rfl : z105_.toInt = z105_.toInt) (fun h107_ => ?_) (fun h107_ => ?_)
                    · refine w_iconst (v := 0) dX12_move_124 (by decide) ?_
                      refine w_istore (ls' := [(6, vI 0), (0, vR (12, 0, 0)), (1, vI v), (2, vI u), (3, vI t), (4, vI s), (5, vI q)]) dX12_move_125 (by decide) rfl ?_
                      have lp108_ : ∀ (nn_127 : Nat) (M_127 : mM) (hI_127 : InvD M_127) (hF_127 : FR (S_c_X12_move) Mz M_127) (v6_127 : Int32) (hv0_127 : 0 ≤ v6_127.toInt), (2147483648 - v6_127.toInt).toNat < nn_127 → WP DD l G cy ad yX12_move cX12_move 7 (some .int) (d + 2) 127 [(6, vI v6_127), (0, vR (12, 0, 0)), (1, vI v), (2, vI u), (3, vI t), (4, vI s), (5, vI q)] [] M_127 (fun r M' => InvD M' ∧ FR (S_c_X12_move) Mz M' ∧ True) := by
                        intro nn_127
                        induction nn_127 with
                        | zero => intro M_127 hI_127 hF_127 v6_127 hv0_127 hm_127; exact absurd hm_127 (Nat.not_lt_zero _)
                        | succ nn_127 ih_127 =>
                          intro M_127 hI_127 hF_127 v6_127 hv0_127 hm_127
                          refine w_iload dX12_move_127 0 rfl ?_
                          refine w_iload dX12_move_129 6 rfl ?_
                          refine w_icmp_ge (tgt := 161) dX12_move_131 (by decide) (rfl : v6_127.toInt = v6_127.toInt) (rfl : q.toInt = q.toInt) (fun h109_ => ?_) (fun h109_ => ?_)
                          · refine w_iconst (v := 0) dX12_move_161 (by decide) ?_
                            refine w_istore (ls' := [(6, vI 0), (0, vR (12, 0, 0)), (1, vI v), (2, vI u), (3, vI t), (4, vI s), (5, vI q)]) dX12_move_162 (by decide) rfl ?_
                            have lp110_ : ∀ (nn_164 : Nat) (M_164 : mM) (hI_164 : InvD M_164) (hF_164 : FR (S_c_X12_move) Mz M_164) (v6_164 : Int32) (hv0_164 : 0 ≤ v6_164.toInt), (2147483648 - v6_164.toInt).toNat < nn_164 → WP DD l G cy ad yX12_move cX12_move 7 (some .int) (d + 2) 164 [(6, vI v6_164), (0, vR (12, 0, 0)), (1, vI v), (2, vI u), (3, vI t), (4, vI s), (5, vI q)] [] M_164 (fun r M' => InvD M' ∧ FR (S_c_X12_move) Mz M' ∧ True) := by
                              intro nn_164
                              induction nn_164 with
                              | zero => intro M_164 hI_164 hF_164 v6_164 hv0_164 hm_164; exact absurd hm_164 (Nat.not_lt_zero _)
                              | succ nn_164 ih_164 =>
                                intro M_164 hI_164 hF_164 v6_164 hv0_164 hm_164
                                refine w_iload dX12_move_164 0 rfl ?_
                                refine w_iload dX12_move_166 6 rfl ?_
                                refine w_icmp_ge (tgt := 199) dX12_move_168 (by decide) (rfl : v6_164.toInt = v6_164.toInt) (rfl : q.toInt = q.toInt) (fun h111_ => ?_) (fun h111_ => ?_)
                                · refine w_iload dX12_move_199 6 rfl ?_
                                  exact w_iret rfl dX12_move_201 ⟨hI_164, hF_164, trivial⟩
                                · refine w_aload_n dX12_move_171 rfl 1 rfl ?_
                                  refine w_getR (c' := (68, 0, 0)) fl_RX12_78 rfl rfl ic_12 dX12_move_172 rfl ?_
                                  refine w_bipush (v := 24) dX12_move_175 (by decide) ?_
                                  refine w_iload_n dX12_move_177 rfl 4 rfl ?_
                                  refine w_imulB dX12_move_178 li_24 (rfl : t.toInt = t.toInt) (lf_c_X12_move_8 Mz v u t s q j13_ z11_ j25_ z23_ j30_ z28_ j34_ z32_ w61_ w64_ w67_ j72_ z70_ w75_ z78_ w88_ w91_ w94_ j99_ z97_ w102_ z105_ v6_127 v6_164 h4_ h9_ h14_ e12_ h15_ h26_ e24_ h27_ h31_ e29_ h35_ e33_ h36_ h37_ h45_ h53_ h63_ h66_ h69_ h73_ e71_ h74_ h77_ h79_ h80_ h90_ h93_ h96_ h100_ e98_ h101_ h104_ h106_ h107_ hv0_127 h109_ hv0_164 h111_) (fun z112_ h113_ => ?_)
                                  refine w_iload dX12_move_179 5 rfl ?_
                                  refine w_iadd dX12_move_181 (fun z114_ _ => ?_)
                                  refine w_iload dX12_move_182 0 rfl ?_
                                  refine w_iadd dX12_move_184 (fun z115_ _ => ?_)
                                  refine w_aload_n dX12_move_185 rfl 1 rfl ?_
                                  refine w_getR (c' := (69, 0, 0)) fl_RX12_81 rfl rfl ic_12 dX12_move_186 rfl ?_
                                  refine w_iload dX12_move_189 0 rfl ?_
                                  refine w_iald rfl rfl ic_69 (rfl : v6_164.toInt = v6_164.toInt) (lf_c_X12_move_9 Mz v u t s q j13_ z11_ j25_ z23_ j30_ z28_ j34_ z32_ w61_ w64_ w67_ j72_ z70_ w75_ z78_ w88_ w91_ w94_ j99_ z97_ w102_ z105_ v6_127 v6_164 z112_ h4_ h9_ h14_ e12_ h15_ h26_ e24_ h27_ h31_ e29_ h35_ e33_ h36_ h37_ h45_ h53_ h63_ h66_ h69_ h73_ e71_ h74_ h77_ h79_ h80_ h90_ h93_ h96_ h100_ e98_ h101_ h104_ h106_ h107_ hv0_127 h109_ hv0_164 h111_ h113_) dX12_move_191 (fun j118_ h119_ z116_ e117_ => ?_)
                                  refine w_iast DD_nd rfl rfl ic_68 (rfl : z115_.toInt = z115_.toInt) (lf_c_X12_move_10 z115_) dX12_move_192 (fun j122_ h123_ M120_ hM121_ => ?_)
                                  have hI124_ := hI_164.put hM121_ ⟨trivial, Or.inr (by decide)⟩
                                  have hF125_ := hF_164.put hM121_ (Or.inr (Or.inl ⟨rfl, rfl⟩))
                                  refine w_iincB (j := 0) (f := fun z126_ => [(6, vI z126_), (0, vR (12, 0, 0)), (1, vI v), (2, vI u), (3, vI t), (4, vI s), (5, vI q)]) dX12_move_193 rfl (by decide) (fun _ => rfl) (rfl : v6_164.toInt = v6_164.toInt) li_1 (lf_c_X12_move_11 M120_ M_164 Mz v u t s q j13_ z11_ j25_ z23_ j30_ z28_ j34_ z32_ w61_ w64_ w67_ j72_ z70_ w75_ z78_ w88_ w91_ w94_ j99_ z97_ w102_ z105_ v6_127 v6_164 z112_ z115_ j118_ z116_ j122_ h4_ h9_ h14_ e12_ h15_ h26_ e24_ h27_ h31_ e29_ h35_ e33_ h36_ h37_ h45_ h53_ h63_ h66_ h69_ h73_ e71_ h74_ h77_ h79_ h80_ h90_ h93_ h96_ h100_ e98_ h101_ h104_ h106_ h107_ hv0_127 h109_ hv0_164 h111_ h113_ h119_ e117_ h123_ hM121_) (fun z126_ h127_ => ?_)
                                  refine w_goto (tgt := 164) dX12_move_196 (by decide) ?_
                                  refine w_loc (ls' := [(6, vI z126_), (0, vR (12, 0, 0)), (1, vI v), (2, vI u), (3, vI t), (4, vI s), (5, vI q)]) [0, 1, 2, 3, 4, 5, 6] rfl ?_
                                  exact ih_164 M120_ hI124_ hF125_ z126_ (lf_c_X12_move_12 M120_ M_164 Mz v u t s q j13_ z11_ j25_ z23_ j30_ z28_ j34_ z32_ w61_ w64_ w67_ j72_ z70_ w75_ z78_ w88_ w91_ w94_ j99_ z97_ w102_ z105_ v6_127 v6_164 z112_ z115_ j118_ z116_ j122_ z126_ h4_ h9_ h14_ e12_ h15_ h26_ e24_ h27_ h31_ e29_ h35_ e33_ h36_ h37_ h45_ h53_ h63_ h66_ h69_ h73_ e71_ h74_ h77_ h79_ h80_ h90_ h93_ h96_ h100_ e98_ h101_ h104_ h106_ h107_ hv0_127 h109_ hv0_164 h111_ h113_ h119_ e117_ h123_ hM121_ h127_) (Nat.lt_of_lt_of_le (lf_c_X12_move_13 M120_ M_164 Mz v u t s q j13_ z11_ j25_ z23_ j30_ z28_ j34_ z32_ w61_ w64_ w67_ j72_ z70_ w75_ z78_ w88_ w91_ w94_ j99_ z97_ w102_ z105_ v6_127 v6_164 z112_ z115_ j118_ z116_ j122_ z126_ h4_ h9_ h14_ e12_ h15_ h26_ e24_ h27_ h31_ e29_ h35_ e33_ h36_ h37_ h45_ h53_ h63_ h66_ h69_ h73_ e71_ h74_ h77_ h79_ h80_ h90_ h93_ h96_ h100_ e98_ h101_ h104_ h106_ h107_ hv0_127 h109_ hv0_164 h111_ h113_ h119_ e117_ h123_ hM121_ h127_) (Nat.le_of_lt_succ hm_164))
                            exact lp110_ _ M_127 hI_127 hF_127 0 (lf_c_X12_move_14 ) (Nat.lt_succ_self _)
                          · refine w_aload_n dX12_move_134 rfl 1 rfl ?_
                            refine w_getR (c' := (69, 0, 0)) fl_RX12_81 rfl rfl ic_12 dX12_move_135 rfl ?_
                            refine w_iload dX12_move_138 0 rfl ?_
                            refine w_aload_n dX12_move_140 rfl 1 rfl ?_
                            refine w_getR (c' := (68, 0, 0)) fl_RX12_78 rfl rfl ic_12 dX12_move_141 rfl ?_
                            refine w_bipush (v := 24) dX12_move_144 (by decide) ?_
                            refine w_iload_n dX12_move_146 rfl 2 rfl ?_
                            refine w_imulB dX12_move_147 li_24 (rfl : v.toInt = v.toInt) (lf_c_X12_move_15 Mz v u t s q j13_ z11_ j25_ z23_ j30_ z28_ j34_ z32_ w61_ w64_ w67_ j72_ z70_ w75_ z78_ w88_ w91_ w94_ j99_ z97_ w102_ z105_ v6_127 h4_ h9_ h14_ e12_ h15_ h26_ e24_ h27_ h31_ e29_ h35_ e33_ h36_ h37_ h45_ h53_ h63_ h66_ h69_ h73_ e71_ h74_ h77_ h79_ h80_ h90_ h93_ h96_ h100_ e98_ h101_ h104_ h106_ h107_ hv0_127 h109_) (fun z128_ h129_ => ?_)
                            refine w_iload_n dX12_move_148 rfl 3 rfl ?_
                            refine w_iadd dX12_move_149 (fun z130_ _ => ?_)
                            refine w_iload dX12_move_150 0 rfl ?_
                            refine w_iadd dX12_move_152 (fun z131_ _ => ?_)
                            refine w_iald rfl rfl ic_68 (rfl : z131_.toInt = z131_.toInt) (lf_c_X12_move_16 z131_) dX12_move_153 (fun j134_ h135_ z132_ e133_ => ?_)
                            refine w_iast DD_nd rfl rfl ic_69 (rfl : v6_127.toInt = v6_127.toInt) (lf_c_X12_move_17 Mz v u t s q j13_ z11_ j25_ z23_ j30_ z28_ j34_ z32_ w61_ w64_ w67_ j72_ z70_ w75_ z78_ w88_ w91_ w94_ j99_ z97_ w102_ z105_ v6_127 z128_ h4_ h9_ h14_ e12_ h15_ h26_ e24_ h27_ h31_ e29_ h35_ e33_ h36_ h37_ h45_ h53_ h63_ h66_ h69_ h73_ e71_ h74_ h77_ h79_ h80_ h90_ h93_ h96_ h100_ e98_ h101_ h104_ h106_ h107_ hv0_127 h109_ h129_) dX12_move_154 (fun j138_ h139_ M136_ hM137_ => ?_)
                            have hI140_ := hI_127.put hM137_ ⟨trivial, Or.inr (by decide)⟩
                            have hF141_ := hF_127.put hM137_ (Or.inr (Or.inr (Or.inl ⟨rfl, rfl⟩)))
                            refine w_iincB (j := 0) (f := fun z142_ => [(6, vI z142_), (0, vR (12, 0, 0)), (1, vI v), (2, vI u), (3, vI t), (4, vI s), (5, vI q)]) dX12_move_155 rfl (by decide) (fun _ => rfl) (rfl : v6_127.toInt = v6_127.toInt) li_1 (lf_c_X12_move_18 M136_ M_127 Mz v u t s q j13_ z11_ j25_ z23_ j30_ z28_ j34_ z32_ w61_ w64_ w67_ j72_ z70_ w75_ z78_ w88_ w91_ w94_ j99_ z97_ w102_ z105_ v6_127 z128_ z131_ j134_ z132_ j138_ h4_ h9_ h14_ e12_ h15_ h26_ e24_ h27_ h31_ e29_ h35_ e33_ h36_ h37_ h45_ h53_ h63_ h66_ h69_ h73_ e71_ h74_ h77_ h79_ h80_ h90_ h93_ h96_ h100_ e98_ h101_ h104_ h106_ h107_ hv0_127 h109_ h129_ h135_ e133_ h139_ hM137_) (fun z142_ h143_ => ?_)
                            refine w_goto (tgt := 127) dX12_move_158 (by decide) ?_
                            refine w_loc (ls' := [(6, vI z142_), (0, vR (12, 0, 0)), (1, vI v), (2, vI u), (3, vI t), (4, vI s), (5, vI q)]) [0, 1, 2, 3, 4, 5, 6] rfl ?_
                            exact ih_127 M136_ hI140_ hF141_ z142_ (lf_c_X12_move_19 M136_ M_127 Mz v u t s q j13_ z11_ j25_ z23_ j30_ z28_ j34_ z32_ w61_ w64_ w67_ j72_ z70_ w75_ z78_ w88_ w91_ w94_ j99_ z97_ w102_ z105_ v6_127 z128_ z131_ j134_ z132_ j138_ z142_ h4_ h9_ h14_ e12_ h15_ h26_ e24_ h27_ h31_ e29_ h35_ e33_ h36_ h37_ h45_ h53_ h63_ h66_ h69_ h73_ e71_ h74_ h77_ h79_ h80_ h90_ h93_ h96_ h100_ e98_ h101_ h104_ h106_ h107_ hv0_127 h109_ h129_ h135_ e133_ h139_ hM137_ h143_) (Nat.lt_of_lt_of_le (lf_c_X12_move_20 M136_ M_127 Mz v u t s q j13_ z11_ j25_ z23_ j30_ z28_ j34_ z32_ w61_ w64_ w67_ j72_ z70_ w75_ z78_ w88_ w91_ w94_ j99_ z97_ w102_ z105_ v6_127 z128_ z131_ j134_ z132_ j138_ z142_ h4_ h9_ h14_ e12_ h15_ h26_ e24_ h27_ h31_ e29_ h35_ e33_ h36_ h37_ h45_ h53_ h63_ h66_ h69_ h73_ e71_ h74_ h77_ h79_ h80_ h90_ h93_ h96_ h100_ e98_ h101_ h104_ h106_ h107_ hv0_127 h109_ h129_ h135_ e133_ h139_ hM137_ h143_) (Nat.le_of_lt_succ hm_127))
                      exact lp108_ _ Mz hIz hFz 0 (lf_c_X12_move_21 ) (Nat.lt_succ_self _)
                    · refine w_aload_n dX12_move_117 rfl 0 rfl ?_
                      refine w_ldc (v := (-1000001)) m_1433 dX12_move_118 ?_
                      refine w_callV (as := [vI (-1000001)]) (rest := []) (c_X12_finding l G cy ad (d + 1) (-1000001) Mz hIz (by first | decide | (unfold vF; omega) | (unfold vRw; omega))) kV_X12_finding (by decide +kernel) (Nat.le_of_ble_eq_true rfl) m_1434 rfl rfl rfl ic_12 rfl rfl (by decide) (Nat.le_of_ble_eq_true rfl) dX12_move_120 (fun r144_ M145_ q146_ => ?_)
                      obtain ⟨hI148_, hF149_, h147_⟩ := q146_
                      have hF150_ := hFz.tr hF149_ (fun c k => (fun h => h.elim (fun h => (Or.inl ⟨h.1, h.2⟩)) (fun h => h.elim)))
                      simp only [li_m1000001] at h147_
                      exact w_iret rfl dX12_move_123 ⟨hI148_, hF150_, trivial⟩
          · refine w_aload_n dX12_move_61 rfl 0 rfl ?_
            refine w_ldc (v := (-1000005)) m_1476 dX12_move_62 ?_
            refine w_callV (as := [vI (-1000005)]) (rest := []) (c_X12_finding l G cy ad (d + 1) (-1000005) Mz hIz (by first | decide | (unfold vF; omega) | (unfold vRw; omega))) kV_X12_finding (by decide +kernel) (Nat.le_of_ble_eq_true rfl) m_1434 rfl rfl rfl ic_12 rfl rfl (by decide) (Nat.le_of_ble_eq_true rfl) dX12_move_64 (fun r151_ M152_ q153_ => ?_)
            obtain ⟨hI155_, hF156_, h154_⟩ := q153_
            have hF157_ := hFz.tr hF156_ (fun c k => (fun h => h.elim (fun h => (Or.inl ⟨h.1, h.2⟩)) (fun h => h.elim)))
            simp only [li_m1000005] at h154_
            exact w_iret rfl dX12_move_67 ⟨hI155_, hF157_, trivial⟩
        · refine w_aload_n dX12_move_39 rfl 0 rfl ?_
          refine w_ldc (v := (-1000002)) m_1500 dX12_move_40 ?_
          refine w_callV (as := [vI (-1000002)]) (rest := []) (c_X12_finding l G cy ad (d + 1) (-1000002) Mz hIz (by first | decide | (unfold vF; omega) | (unfold vRw; omega))) kV_X12_finding (by decide +kernel) (Nat.le_of_ble_eq_true rfl) m_1434 rfl rfl rfl ic_12 rfl rfl (by decide) (Nat.le_of_ble_eq_true rfl) dX12_move_42 (fun r158_ M159_ q160_ => ?_)
          obtain ⟨hI162_, hF163_, h161_⟩ := q160_
          have hF164_ := hFz.tr hF163_ (fun c k => (fun h => h.elim (fun h => (Or.inl ⟨h.1, h.2⟩)) (fun h => h.elim)))
          simp only [li_m1000002] at h161_
          exact w_iret rfl dX12_move_45 ⟨hI162_, hF164_, trivial⟩
    · refine w_if_ne (tgt := 21) dX12_move_11 (by decide) li_0 (fun h9 => (absurd h9 (by decide))) (fun h165_ => ?_)
      refine w_aload_n dX12_move_14 rfl 0 rfl ?_
      refine w_ldc (v := (-1000001)) m_1433 dX12_move_15 ?_
      refine w_callV (as := [vI (-1000001)]) (rest := []) (c_X12_finding l G cy ad (d + 1) (-1000001) Mz hIz (by first | decide | (unfold vF; omega) | (unfold vRw; omega))) kV_X12_finding (by decide +kernel) (Nat.le_of_ble_eq_true rfl) m_1434 rfl rfl rfl ic_12 rfl rfl (by decide) (Nat.le_of_ble_eq_true rfl) dX12_move_17 (fun r166_ M167_ q168_ => ?_)
      obtain ⟨hI170_, hF171_, h169_⟩ := q168_
      have hF172_ := hFz.tr hF171_ (fun c k => (fun h => h.elim (fun h => (Or.inl ⟨h.1, h.2⟩)) (fun h => h.elim)))
      simp only [li_m1000001] at h169_
      exact w_iret rfl dX12_move_20 ⟨hI170_, hF172_, trivial⟩
  · refine w_if_eq (tgt := 14) dX12_move_4 (by decide) li_0 (fun h173_ => ?_) (fun h9 => (absurd h9 (by decide)))
    refine w_aload_n dX12_move_14 rfl 0 rfl ?_
    refine w_ldc (v := (-1000001)) m_1433 dX12_move_15 ?_
    refine w_callV (as := [vI (-1000001)]) (rest := []) (c_X12_finding l G cy ad (d + 1) (-1000001) Mz hIz (by first | decide | (unfold vF; omega) | (unfold vRw; omega))) kV_X12_finding (by decide +kernel) (Nat.le_of_ble_eq_true rfl) m_1434 rfl rfl rfl ic_12 rfl rfl (by decide) (Nat.le_of_ble_eq_true rfl) dX12_move_17 (fun r174_ M175_ q176_ => ?_)
    obtain ⟨hI178_, hF179_, h177_⟩ := q176_
    have hF180_ := hFz.tr hF179_ (fun c k => (fun h => h.elim (fun h => (Or.inl ⟨h.1, h.2⟩)) (fun h => h.elim)))
    simp only [li_m1000001] at h177_
    exact w_iret rfl dX12_move_20 ⟨hI178_, hF180_, trivial⟩
def S_c_X12_sheet : rf → Nat → Prop := fun c k => (c.1 = 66 ∧ c.2.1 = 0) ∨ (c.1 = 67 ∧ c.2.1 = 0) ∨ (c.1 = 68 ∧ c.2.1 = 0) ∨ (c.1 = 53 ∧ c.2.1 = 0) ∨ False
theorem lf_c_X12_sheet_0  (u : Int32) (h6_ : u.toInt = 0) (h9 : ¬ u.toInt = 0) : False := by have r_u := rngI u; omega
theorem lf_c_X12_sheet_1  (u : Int32) (h6_ : u.toInt = 0) (h7_ : u.toInt = 0) (h9 : ¬ u.toInt = 0) : False := by have r_u := rngI u; omega
theorem lf_c_X12_sheet_2  (v : Int32) (h4_ : 0 ≤ v.toInt ∧ v.toInt ≤ 3) : 0 ≤ v.toInt ∧ v.toInt < ((4 : Nat) : Int) := by have r_v := rngI v; omega
theorem lf_c_X12_sheet_3 (M9_ : mM) (Mz : mM) (v : Int32) (u : Int32) (j11_ : Nat) (h4_ : 0 ≤ v.toInt ∧ v.toInt ≤ 3) (h6_ : u.toInt = 0) (h7_ : u.toInt = 0) (h8_ : u.toInt = 0) (h12_ : (j11_ : Int) = v.toInt) (hM10_ : M9_ = up Mz (66, 0, 0) j11_ u) (h9 : ¬ u.toInt = 0) : False := by have r_v := rngI v; have r_u := rngI u; omega
theorem lf_c_X12_sheet_4 (M9_ : mM) (Mz : mM) (v : Int32) (u : Int32) (j11_ : Nat) (h4_ : 0 ≤ v.toInt ∧ v.toInt ≤ 3) (h6_ : u.toInt = 0) (h7_ : u.toInt = 0) (h8_ : u.toInt = 0) (h12_ : (j11_ : Int) = v.toInt) (hM10_ : M9_ = up Mz (66, 0, 0) j11_ u) (h15_ : u.toInt = 0) : 0 ≤ v.toInt ∧ v.toInt < ((4 : Nat) : Int) := by have r_v := rngI v; have r_u := rngI u; omega
theorem lf_c_X12_sheet_5 (M16_ : mM) (M9_ : mM) (Mz : mM) (v : Int32) (u : Int32) (t : Int32) (j11_ : Nat) (j18_ : Nat) (h4_ : 0 ≤ v.toInt ∧ v.toInt ≤ 3) (h6_ : u.toInt = 0) (h7_ : u.toInt = 0) (h8_ : u.toInt = 0) (h12_ : (j11_ : Int) = v.toInt) (hM10_ : M9_ = up Mz (66, 0, 0) j11_ u) (h15_ : u.toInt = 0) (h19_ : (j18_ : Int) = v.toInt) (hM17_ : M16_ = up M9_ (67, 0, 0) j18_ 0) : (((¬ (0 ≤ v.toInt ∧ v.toInt ≤ 3) ∨ (¬ u.toInt = 0 ∧ ¬ u.toInt = 8 ∧ ¬ u.toInt = 16 ∧ ¬ u.toInt = 32)) ∧ (1 : Int32).toInt = -1000001) ∨ ((0 ≤ v.toInt ∧ v.toInt ≤ 3) ∧ (u.toInt = 0 ∨ u.toInt = 8 ∨ u.toInt = 16 ∨ u.toInt = 32) ∧ ((¬ u.toInt = 0 ∧ t.toInt < 0 ∧ (1 : Int32).toInt = -1000003) ∨ (¬ u.toInt = 0 ∧ 24 < t.toInt ∧ (1 : Int32).toInt = -1000001) ∨ ((u.toInt = 0 ∨ (0 ≤ t.toInt ∧ t.toInt ≤ 24)) ∧ (1 : Int32).toInt = 1)))) := by have r_v := rngI v; have r_u := rngI u; have r_t := rngI t; have r9 := li_1; omega
theorem lf_c_X12_sheet_6 (M16_ : mM) (M9_ : mM) (Mz : mM) (v : Int32) (u : Int32) (j11_ : Nat) (j18_ : Nat) (h4_ : 0 ≤ v.toInt ∧ v.toInt ≤ 3) (h6_ : u.toInt = 0) (h7_ : u.toInt = 0) (h8_ : u.toInt = 0) (h12_ : (j11_ : Int) = v.toInt) (hM10_ : M9_ = up Mz (66, 0, 0) j11_ u) (h15_ : u.toInt = 0) (h19_ : (j18_ : Int) = v.toInt) (hM17_ : M16_ = up M9_ (67, 0, 0) j18_ 0) : -2147483648 ≤ 24 * v.toInt ∧ 24 * v.toInt < 2147483648 := by have r_v := rngI v; have r_u := rngI u; omega
theorem lf_c_X12_sheet_7 (M16_ : mM) (M9_ : mM) (Mz : mM) (v : Int32) (u : Int32) (j11_ : Nat) (j18_ : Nat) (v4_93 : Int32) (z24_ : Int32) (h4_ : 0 ≤ v.toInt ∧ v.toInt ≤ 3) (h6_ : u.toInt = 0) (h7_ : u.toInt = 0) (h8_ : u.toInt = 0) (h12_ : (j11_ : Int) = v.toInt) (hM10_ : M9_ = up Mz (66, 0, 0) j11_ u) (h15_ : u.toInt = 0) (h19_ : (j18_ : Int) = v.toInt) (hM17_ : M16_ = up M9_ (67, 0, 0) j18_ 0) (hv0_93 : 0 ≤ v4_93.toInt) (hv1_93 : v4_93.toInt ≤ 24) (h23_ : v4_93.toInt < 24) (h25_ : z24_.toInt = 24 * v.toInt) : -2147483648 ≤ z24_.toInt + v4_93.toInt ∧ z24_.toInt + v4_93.toInt < 2147483648 := by have r_v := rngI v; have r_u := rngI u; have r_v4_93 := rngI v4_93; have r_z24_ := rngI z24_; omega
theorem lf_c_X12_sheet_8 (M16_ : mM) (M9_ : mM) (Mz : mM) (v : Int32) (u : Int32) (j11_ : Nat) (j18_ : Nat) (v4_93 : Int32) (z24_ : Int32) (z26_ : Int32) (h4_ : 0 ≤ v.toInt ∧ v.toInt ≤ 3) (h6_ : u.toInt = 0) (h7_ : u.toInt = 0) (h8_ : u.toInt = 0) (h12_ : (j11_ : Int) = v.toInt) (hM10_ : M9_ = up Mz (66, 0, 0) j11_ u) (h15_ : u.toInt = 0) (h19_ : (j18_ : Int) = v.toInt) (hM17_ : M16_ = up M9_ (67, 0, 0) j18_ 0) (hv0_93 : 0 ≤ v4_93.toInt) (hv1_93 : v4_93.toInt ≤ 24) (h23_ : v4_93.toInt < 24) (h25_ : z24_.toInt = 24 * v.toInt) (h27_ : z26_.toInt = z24_.toInt + v4_93.toInt) : 0 ≤ z26_.toInt ∧ z26_.toInt < ((96 : Nat) : Int) := by have r_v := rngI v; have r_u := rngI u; have r_v4_93 := rngI v4_93; have r_z24_ := rngI z24_; have r_z26_ := rngI z26_; omega
theorem lf_c_X12_sheet_9 (M16_ : mM) (M28_ : mM) (M9_ : mM) (M_93 : mM) (Mz : mM) (v : Int32) (u : Int32) (j11_ : Nat) (j18_ : Nat) (v4_93 : Int32) (z24_ : Int32) (z26_ : Int32) (j30_ : Nat) (h4_ : 0 ≤ v.toInt ∧ v.toInt ≤ 3) (h6_ : u.toInt = 0) (h7_ : u.toInt = 0) (h8_ : u.toInt = 0) (h12_ : (j11_ : Int) = v.toInt) (hM10_ : M9_ = up Mz (66, 0, 0) j11_ u) (h15_ : u.toInt = 0) (h19_ : (j18_ : Int) = v.toInt) (hM17_ : M16_ = up M9_ (67, 0, 0) j18_ 0) (hv0_93 : 0 ≤ v4_93.toInt) (hv1_93 : v4_93.toInt ≤ 24) (h23_ : v4_93.toInt < 24) (h25_ : z24_.toInt = 24 * v.toInt) (h27_ : z26_.toInt = z24_.toInt + v4_93.toInt) (h31_ : (j30_ : Int) = z26_.toInt) (hM29_ : M28_ = up M_93 (68, 0, 0) j30_ 0) : -2147483648 ≤ v4_93.toInt + 1 ∧ v4_93.toInt + 1 < 2147483648 := by have r_v := rngI v; have r_u := rngI u; have r_v4_93 := rngI v4_93; have r_z24_ := rngI z24_; have r_z26_ := rngI z26_; omega
theorem lf_c_X12_sheet_10 (M16_ : mM) (M28_ : mM) (M9_ : mM) (M_93 : mM) (Mz : mM) (v : Int32) (u : Int32) (j11_ : Nat) (j18_ : Nat) (v4_93 : Int32) (z24_ : Int32) (z26_ : Int32) (j30_ : Nat) (z34_ : Int32) (h4_ : 0 ≤ v.toInt ∧ v.toInt ≤ 3) (h6_ : u.toInt = 0) (h7_ : u.toInt = 0) (h8_ : u.toInt = 0) (h12_ : (j11_ : Int) = v.toInt) (hM10_ : M9_ = up Mz (66, 0, 0) j11_ u) (h15_ : u.toInt = 0) (h19_ : (j18_ : Int) = v.toInt) (hM17_ : M16_ = up M9_ (67, 0, 0) j18_ 0) (hv0_93 : 0 ≤ v4_93.toInt) (hv1_93 : v4_93.toInt ≤ 24) (h23_ : v4_93.toInt < 24) (h25_ : z24_.toInt = 24 * v.toInt) (h27_ : z26_.toInt = z24_.toInt + v4_93.toInt) (h31_ : (j30_ : Int) = z26_.toInt) (hM29_ : M28_ = up M_93 (68, 0, 0) j30_ 0) (h35_ : z34_.toInt = v4_93.toInt + 1) : 0 ≤ z34_.toInt := by have r_v := rngI v; have r_u := rngI u; have r_v4_93 := rngI v4_93; have r_z24_ := rngI z24_; have r_z26_ := rngI z26_; have r_z34_ := rngI z34_; omega
theorem lf_c_X12_sheet_11 (M16_ : mM) (M28_ : mM) (M9_ : mM) (M_93 : mM) (Mz : mM) (v : Int32) (u : Int32) (j11_ : Nat) (j18_ : Nat) (v4_93 : Int32) (z24_ : Int32) (z26_ : Int32) (j30_ : Nat) (z34_ : Int32) (h4_ : 0 ≤ v.toInt ∧ v.toInt ≤ 3) (h6_ : u.toInt = 0) (h7_ : u.toInt = 0) (h8_ : u.toInt = 0) (h12_ : (j11_ : Int) = v.toInt) (hM10_ : M9_ = up Mz (66, 0, 0) j11_ u) (h15_ : u.toInt = 0) (h19_ : (j18_ : Int) = v.toInt) (hM17_ : M16_ = up M9_ (67, 0, 0) j18_ 0) (hv0_93 : 0 ≤ v4_93.toInt) (hv1_93 : v4_93.toInt ≤ 24) (h23_ : v4_93.toInt < 24) (h25_ : z24_.toInt = 24 * v.toInt) (h27_ : z26_.toInt = z24_.toInt + v4_93.toInt) (h31_ : (j30_ : Int) = z26_.toInt) (hM29_ : M28_ = up M_93 (68, 0, 0) j30_ 0) (h35_ : z34_.toInt = v4_93.toInt + 1) : z34_.toInt ≤ 24 := by have r_v := rngI v; have r_u := rngI u; have r_v4_93 := rngI v4_93; have r_z24_ := rngI z24_; have r_z26_ := rngI z26_; have r_z34_ := rngI z34_; omega
theorem lf_c_X12_sheet_12 (M16_ : mM) (M28_ : mM) (M9_ : mM) (M_93 : mM) (Mz : mM) (v : Int32) (u : Int32) (j11_ : Nat) (j18_ : Nat) (v4_93 : Int32) (z24_ : Int32) (z26_ : Int32) (j30_ : Nat) (z34_ : Int32) (h4_ : 0 ≤ v.toInt ∧ v.toInt ≤ 3) (h6_ : u.toInt = 0) (h7_ : u.toInt = 0) (h8_ : u.toInt = 0) (h12_ : (j11_ : Int) = v.toInt) (hM10_ : M9_ = up Mz (66, 0, 0) j11_ u) (h15_ : u.toInt = 0) (h19_ : (j18_ : Int) = v.toInt) (hM17_ : M16_ = up M9_ (67, 0, 0) j18_ 0) (hv0_93 : 0 ≤ v4_93.toInt) (hv1_93 : v4_93.toInt ≤ 24) (h23_ : v4_93.toInt < 24) (h25_ : z24_.toInt = 24 * v.toInt) (h27_ : z26_.toInt = z24_.toInt + v4_93.toInt) (h31_ : (j30_ : Int) = z26_.toInt) (hM29_ : M28_ = up M_93 (68, 0, 0) j30_ 0) (h35_ : z34_.toInt = v4_93.toInt + 1) : (2147483648 - z34_.toInt).toNat < (2147483648 - v4_93.toInt).toNat := by have r_v := rngI v; have r_u := rngI u; have r_v4_93 := rngI v4_93; have r_z24_ := rngI z24_; have r_z26_ := rngI z26_; have r_z34_ := rngI z34_; omega
theorem lf_c_X12_sheet_13    : 0 ≤ (0 : Int32).toInt := by have q0 := li_0; omega
theorem lf_c_X12_sheet_14    : (0 : Int32).toInt ≤ 24 := by have q0 := li_0; omega
theorem lf_c_X12_sheet_15  (u : Int32) (h6_ : ¬ u.toInt = 0) (h36_ : u.toInt = 8) (h9 : u.toInt = 0) : False := by have r_u := rngI u; omega
theorem lf_c_X12_sheet_16  (u : Int32) (h6_ : ¬ u.toInt = 0) (h36_ : u.toInt = 8) (h37_ : ¬ u.toInt = 0) (h9 : u.toInt = 0) : False := by have r_u := rngI u; omega
theorem lf_c_X12_sheet_17  (v : Int32) (h4_ : 0 ≤ v.toInt ∧ v.toInt ≤ 3) : 0 ≤ v.toInt ∧ v.toInt < ((4 : Nat) : Int) := by have r_v := rngI v; omega
theorem lf_c_X12_sheet_18 (M41_ : mM) (Mz : mM) (v : Int32) (u : Int32) (j43_ : Nat) (h4_ : 0 ≤ v.toInt ∧ v.toInt ≤ 3) (h6_ : ¬ u.toInt = 0) (h36_ : u.toInt = 8) (h37_ : ¬ u.toInt = 0) (h39_ : ¬ u.toInt = 0) (h44_ : (j43_ : Int) = v.toInt) (hM42_ : M41_ = up Mz (66, 0, 0) j43_ u) (h9 : u.toInt = 0) : False := by have r_v := rngI v; have r_u := rngI u; omega
theorem lf_c_X12_sheet_19 (M41_ : mM) (Mz : mM) (v : Int32) (u : Int32) (j43_ : Nat) (h4_ : 0 ≤ v.toInt ∧ v.toInt ≤ 3) (h6_ : ¬ u.toInt = 0) (h36_ : u.toInt = 8) (h37_ : ¬ u.toInt = 0) (h39_ : ¬ u.toInt = 0) (h44_ : (j43_ : Int) = v.toInt) (hM42_ : M41_ = up Mz (66, 0, 0) j43_ u) (h47_ : ¬ u.toInt = 0) : 0 ≤ v.toInt ∧ v.toInt < ((4 : Nat) : Int) := by have r_v := rngI v; have r_u := rngI u; omega
theorem lf_c_X12_sheet_20 (M41_ : mM) (M48_ : mM) (Mz : mM) (v : Int32) (u : Int32) (t : Int32) (j43_ : Nat) (j50_ : Nat) (h4_ : 0 ≤ v.toInt ∧ v.toInt ≤ 3) (h6_ : ¬ u.toInt = 0) (h36_ : u.toInt = 8) (h37_ : ¬ u.toInt = 0) (h38_ : 0 ≤ t.toInt) (h39_ : ¬ u.toInt = 0) (h40_ : t.toInt ≤ 24) (h44_ : (j43_ : Int) = v.toInt) (hM42_ : M41_ = up Mz (66, 0, 0) j43_ u) (h47_ : ¬ u.toInt = 0) (h51_ : (j50_ : Int) = v.toInt) (hM49_ : M48_ = up M41_ (67, 0, 0) j50_ t) : 0 ≤ t.toInt ∧ t.toInt ≤ 24 := by have r_v := rngI v; have r_u := rngI u; have r_t := rngI t; omega
theorem lf_c_X12_sheet_21 (M41_ : mM) (M48_ : mM) (Mz : mM) (v : Int32) (u : Int32) (t : Int32) (j43_ : Nat) (j50_ : Nat) (h4_ : 0 ≤ v.toInt ∧ v.toInt ≤ 3) (h6_ : ¬ u.toInt = 0) (h36_ : u.toInt = 8) (h37_ : ¬ u.toInt = 0) (h38_ : 0 ≤ t.toInt) (h39_ : ¬ u.toInt = 0) (h40_ : t.toInt ≤ 24) (h44_ : (j43_ : Int) = v.toInt) (hM42_ : M41_ = up Mz (66, 0, 0) j43_ u) (h47_ : ¬ u.toInt = 0) (h51_ : (j50_ : Int) = v.toInt) (hM49_ : M48_ = up M41_ (67, 0, 0) j50_ t) : (((¬ (0 ≤ v.toInt ∧ v.toInt ≤ 3) ∨ (¬ u.toInt = 0 ∧ ¬ u.toInt = 8 ∧ ¬ u.toInt = 16 ∧ ¬ u.toInt = 32)) ∧ (1 : Int32).toInt = -1000001) ∨ ((0 ≤ v.toInt ∧ v.toInt ≤ 3) ∧ (u.toInt = 0 ∨ u.toInt = 8 ∨ u.toInt = 16 ∨ u.toInt = 32) ∧ ((¬ u.toInt = 0 ∧ t.toInt < 0 ∧ (1 : Int32).toInt = -1000003) ∨ (¬ u.toInt = 0 ∧ 24 < t.toInt ∧ (1 : Int32).toInt = -1000001) ∨ ((u.toInt = 0 ∨ (0 ≤ t.toInt ∧ t.toInt ≤ 24)) ∧ (1 : Int32).toInt = 1)))) := by have r_v := rngI v; have r_u := rngI u; have r_t := rngI t; have r9 := li_1; omega
theorem lf_c_X12_sheet_22 (M41_ : mM) (M48_ : mM) (Mz : mM) (v : Int32) (u : Int32) (t : Int32) (j43_ : Nat) (j50_ : Nat) (h4_ : 0 ≤ v.toInt ∧ v.toInt ≤ 3) (h6_ : ¬ u.toInt = 0) (h36_ : u.toInt = 8) (h37_ : ¬ u.toInt = 0) (h38_ : 0 ≤ t.toInt) (h39_ : ¬ u.toInt = 0) (h40_ : t.toInt ≤ 24) (h44_ : (j43_ : Int) = v.toInt) (hM42_ : M41_ = up Mz (66, 0, 0) j43_ u) (h47_ : ¬ u.toInt = 0) (h51_ : (j50_ : Int) = v.toInt) (hM49_ : M48_ = up M41_ (67, 0, 0) j50_ t) : -2147483648 ≤ 24 * v.toInt ∧ 24 * v.toInt < 2147483648 := by have r_v := rngI v; have r_u := rngI u; have r_t := rngI t; omega
theorem lf_c_X12_sheet_23 (M41_ : mM) (M48_ : mM) (Mz : mM) (v : Int32) (u : Int32) (t : Int32) (j43_ : Nat) (j50_ : Nat) (v4_93 : Int32) (z56_ : Int32) (h4_ : 0 ≤ v.toInt ∧ v.toInt ≤ 3) (h6_ : ¬ u.toInt = 0) (h36_ : u.toInt = 8) (h37_ : ¬ u.toInt = 0) (h38_ : 0 ≤ t.toInt) (h39_ : ¬ u.toInt = 0) (h40_ : t.toInt ≤ 24) (h44_ : (j43_ : Int) = v.toInt) (hM42_ : M41_ = up Mz (66, 0, 0) j43_ u) (h47_ : ¬ u.toInt = 0) (h51_ : (j50_ : Int) = v.toInt) (hM49_ : M48_ = up M41_ (67, 0, 0) j50_ t) (hv0_93 : 0 ≤ v4_93.toInt) (hv1_93 : v4_93.toInt ≤ 24) (h55_ : v4_93.toInt < 24) (h57_ : z56_.toInt = 24 * v.toInt) : -2147483648 ≤ z56_.toInt + v4_93.toInt ∧ z56_.toInt + v4_93.toInt < 2147483648 := by have r_v := rngI v; have r_u := rngI u; have r_t := rngI t; have r_v4_93 := rngI v4_93; have r_z56_ := rngI z56_; omega
theorem lf_c_X12_sheet_24 (M41_ : mM) (M48_ : mM) (Mz : mM) (v : Int32) (u : Int32) (t : Int32) (j43_ : Nat) (j50_ : Nat) (v4_93 : Int32) (z56_ : Int32) (z58_ : Int32) (h4_ : 0 ≤ v.toInt ∧ v.toInt ≤ 3) (h6_ : ¬ u.toInt = 0) (h36_ : u.toInt = 8) (h37_ : ¬ u.toInt = 0) (h38_ : 0 ≤ t.toInt) (h39_ : ¬ u.toInt = 0) (h40_ : t.toInt ≤ 24) (h44_ : (j43_ : Int) = v.toInt) (hM42_ : M41_ = up Mz (66, 0, 0) j43_ u) (h47_ : ¬ u.toInt = 0) (h51_ : (j50_ : Int) = v.toInt) (hM49_ : M48_ = up M41_ (67, 0, 0) j50_ t) (hv0_93 : 0 ≤ v4_93.toInt) (hv1_93 : v4_93.toInt ≤ 24) (h55_ : v4_93.toInt < 24) (h57_ : z56_.toInt = 24 * v.toInt) (h59_ : z58_.toInt = z56_.toInt + v4_93.toInt) : 0 ≤ z58_.toInt ∧ z58_.toInt < ((96 : Nat) : Int) := by have r_v := rngI v; have r_u := rngI u; have r_t := rngI t; have r_v4_93 := rngI v4_93; have r_z56_ := rngI z56_; have r_z58_ := rngI z58_; omega
theorem lf_c_X12_sheet_25 (M41_ : mM) (M48_ : mM) (M60_ : mM) (M_93 : mM) (Mz : mM) (v : Int32) (u : Int32) (t : Int32) (j43_ : Nat) (j50_ : Nat) (v4_93 : Int32) (z56_ : Int32) (z58_ : Int32) (j62_ : Nat) (h4_ : 0 ≤ v.toInt ∧ v.toInt ≤ 3) (h6_ : ¬ u.toInt = 0) (h36_ : u.toInt = 8) (h37_ : ¬ u.toInt = 0) (h38_ : 0 ≤ t.toInt) (h39_ : ¬ u.toInt = 0) (h40_ : t.toInt ≤ 24) (h44_ : (j43_ : Int) = v.toInt) (hM42_ : M41_ = up Mz (66, 0, 0) j43_ u) (h47_ : ¬ u.toInt = 0) (h51_ : (j50_ : Int) = v.toInt) (hM49_ : M48_ = up M41_ (67, 0, 0) j50_ t) (hv0_93 : 0 ≤ v4_93.toInt) (hv1_93 : v4_93.toInt ≤ 24) (h55_ : v4_93.toInt < 24) (h57_ : z56_.toInt = 24 * v.toInt) (h59_ : z58_.toInt = z56_.toInt + v4_93.toInt) (h63_ : (j62_ : Int) = z58_.toInt) (hM61_ : M60_ = up M_93 (68, 0, 0) j62_ 0) : -2147483648 ≤ v4_93.toInt + 1 ∧ v4_93.toInt + 1 < 2147483648 := by have r_v := rngI v; have r_u := rngI u; have r_t := rngI t; have r_v4_93 := rngI v4_93; have r_z56_ := rngI z56_; have r_z58_ := rngI z58_; omega
theorem lf_c_X12_sheet_26 (M41_ : mM) (M48_ : mM) (M60_ : mM) (M_93 : mM) (Mz : mM) (v : Int32) (u : Int32) (t : Int32) (j43_ : Nat) (j50_ : Nat) (v4_93 : Int32) (z56_ : Int32) (z58_ : Int32) (j62_ : Nat) (z66_ : Int32) (h4_ : 0 ≤ v.toInt ∧ v.toInt ≤ 3) (h6_ : ¬ u.toInt = 0) (h36_ : u.toInt = 8) (h37_ : ¬ u.toInt = 0) (h38_ : 0 ≤ t.toInt) (h39_ : ¬ u.toInt = 0) (h40_ : t.toInt ≤ 24) (h44_ : (j43_ : Int) = v.toInt) (hM42_ : M41_ = up Mz (66, 0, 0) j43_ u) (h47_ : ¬ u.toInt = 0) (h51_ : (j50_ : Int) = v.toInt) (hM49_ : M48_ = up M41_ (67, 0, 0) j50_ t) (hv0_93 : 0 ≤ v4_93.toInt) (hv1_93 : v4_93.toInt ≤ 24) (h55_ : v4_93.toInt < 24) (h57_ : z56_.toInt = 24 * v.toInt) (h59_ : z58_.toInt = z56_.toInt + v4_93.toInt) (h63_ : (j62_ : Int) = z58_.toInt) (hM61_ : M60_ = up M_93 (68, 0, 0) j62_ 0) (h67_ : z66_.toInt = v4_93.toInt + 1) : 0 ≤ z66_.toInt := by have r_v := rngI v; have r_u := rngI u; have r_t := rngI t; have r_v4_93 := rngI v4_93; have r_z56_ := rngI z56_; have r_z58_ := rngI z58_; have r_z66_ := rngI z66_; omega
theorem lf_c_X12_sheet_27 (M41_ : mM) (M48_ : mM) (M60_ : mM) (M_93 : mM) (Mz : mM) (v : Int32) (u : Int32) (t : Int32) (j43_ : Nat) (j50_ : Nat) (v4_93 : Int32) (z56_ : Int32) (z58_ : Int32) (j62_ : Nat) (z66_ : Int32) (h4_ : 0 ≤ v.toInt ∧ v.toInt ≤ 3) (h6_ : ¬ u.toInt = 0) (h36_ : u.toInt = 8) (h37_ : ¬ u.toInt = 0) (h38_ : 0 ≤ t.toInt) (h39_ : ¬ u.toInt = 0) (h40_ : t.toInt ≤ 24) (h44_ : (j43_ : Int) = v.toInt) (hM42_ : M41_ = up Mz (66, 0, 0) j43_ u) (h47_ : ¬ u.toInt = 0) (h51_ : (j50_ : Int) = v.toInt) (hM49_ : M48_ = up M41_ (67, 0, 0) j50_ t) (hv0_93 : 0 ≤ v4_93.toInt) (hv1_93 : v4_93.toInt ≤ 24) (h55_ : v4_93.toInt < 24) (h57_ : z56_.toInt = 24 * v.toInt) (h59_ : z58_.toInt = z56_.toInt + v4_93.toInt) (h63_ : (j62_ : Int) = z58_.toInt) (hM61_ : M60_ = up M_93 (68, 0, 0) j62_ 0) (h67_ : z66_.toInt = v4_93.toInt + 1) : z66_.toInt ≤ 24 := by have r_v := rngI v; have r_u := rngI u; have r_t := rngI t; have r_v4_93 := rngI v4_93; have r_z56_ := rngI z56_; have r_z58_ := rngI z58_; have r_z66_ := rngI z66_; omega
theorem lf_c_X12_sheet_28 (M41_ : mM) (M48_ : mM) (M60_ : mM) (M_93 : mM) (Mz : mM) (v : Int32) (u : Int32) (t : Int32) (j43_ : Nat) (j50_ : Nat) (v4_93 : Int32) (z56_ : Int32) (z58_ : Int32) (j62_ : Nat) (z66_ : Int32) (h4_ : 0 ≤ v.toInt ∧ v.toInt ≤ 3) (h6_ : ¬ u.toInt = 0) (h36_ : u.toInt = 8) (h37_ : ¬ u.toInt = 0) (h38_ : 0 ≤ t.toInt) (h39_ : ¬ u.toInt = 0) (h40_ : t.toInt ≤ 24) (h44_ : (j43_ : Int) = v.toInt) (hM42_ : M41_ = up Mz (66, 0, 0) j43_ u) (h47_ : ¬ u.toInt = 0) (h51_ : (j50_ : Int) = v.toInt) (hM49_ : M48_ = up M41_ (67, 0, 0) j50_ t) (hv0_93 : 0 ≤ v4_93.toInt) (hv1_93 : v4_93.toInt ≤ 24) (h55_ : v4_93.toInt < 24) (h57_ : z56_.toInt = 24 * v.toInt) (h59_ : z58_.toInt = z56_.toInt + v4_93.toInt) (h63_ : (j62_ : Int) = z58_.toInt) (hM61_ : M60_ = up M_93 (68, 0, 0) j62_ 0) (h67_ : z66_.toInt = v4_93.toInt + 1) : (2147483648 - z66_.toInt).toNat < (2147483648 - v4_93.toInt).toNat := by have r_v := rngI v; have r_u := rngI u; have r_t := rngI t; have r_v4_93 := rngI v4_93; have r_z56_ := rngI z56_; have r_z58_ := rngI z58_; have r_z66_ := rngI z66_; omega
theorem lf_c_X12_sheet_29    : 0 ≤ (0 : Int32).toInt := by have q0 := li_0; omega
theorem lf_c_X12_sheet_30    : (0 : Int32).toInt ≤ 24 := by have q0 := li_0; omega
theorem lf_c_X12_sheet_31  (v : Int32) (u : Int32) (t : Int32) (r68_ : Int32) (h4_ : 0 ≤ v.toInt ∧ v.toInt ≤ 3) (h6_ : ¬ u.toInt = 0) (h36_ : u.toInt = 8) (h37_ : ¬ u.toInt = 0) (h38_ : 0 ≤ t.toInt) (h39_ : ¬ u.toInt = 0) (h40_ : 24 < t.toInt) (h71_ : r68_.toInt = (-1000001)) : (((¬ (0 ≤ v.toInt ∧ v.toInt ≤ 3) ∨ (¬ u.toInt = 0 ∧ ¬ u.toInt = 8 ∧ ¬ u.toInt = 16 ∧ ¬ u.toInt = 32)) ∧ r68_.toInt = -1000001) ∨ ((0 ≤ v.toInt ∧ v.toInt ≤ 3) ∧ (u.toInt = 0 ∨ u.toInt = 8 ∨ u.toInt = 16 ∨ u.toInt = 32) ∧ ((¬ u.toInt = 0 ∧ t.toInt < 0 ∧ r68_.toInt = -1000003) ∨ (¬ u.toInt = 0 ∧ 24 < t.toInt ∧ r68_.toInt = -1000001) ∨ ((u.toInt = 0 ∨ (0 ≤ t.toInt ∧ t.toInt ≤ 24)) ∧ r68_.toInt = 1)))) := by have r_v := rngI v; have r_u := rngI u; have r_t := rngI t; have r_r68_ := rngI r68_; omega
theorem lf_c_X12_sheet_32  (v : Int32) (u : Int32) (t : Int32) (r75_ : Int32) (h4_ : 0 ≤ v.toInt ∧ v.toInt ≤ 3) (h6_ : ¬ u.toInt = 0) (h36_ : u.toInt = 8) (h37_ : ¬ u.toInt = 0) (h38_ : t.toInt < 0) (h78_ : r75_.toInt = (-1000003)) : (((¬ (0 ≤ v.toInt ∧ v.toInt ≤ 3) ∨ (¬ u.toInt = 0 ∧ ¬ u.toInt = 8 ∧ ¬ u.toInt = 16 ∧ ¬ u.toInt = 32)) ∧ r75_.toInt = -1000001) ∨ ((0 ≤ v.toInt ∧ v.toInt ≤ 3) ∧ (u.toInt = 0 ∨ u.toInt = 8 ∨ u.toInt = 16 ∨ u.toInt = 32) ∧ ((¬ u.toInt = 0 ∧ t.toInt < 0 ∧ r75_.toInt = -1000003) ∨ (¬ u.toInt = 0 ∧ 24 < t.toInt ∧ r75_.toInt = -1000001) ∨ ((u.toInt = 0 ∨ (0 ≤ t.toInt ∧ t.toInt ≤ 24)) ∧ r75_.toInt = 1)))) := by have r_v := rngI v; have r_u := rngI u; have r_t := rngI t; have r_r75_ := rngI r75_; omega
theorem lf_c_X12_sheet_33  (u : Int32) (h6_ : ¬ u.toInt = 0) (h36_ : ¬ u.toInt = 8) (h82_ : u.toInt = 16) (h9 : u.toInt = 0) : False := by have r_u := rngI u; omega
theorem lf_c_X12_sheet_34  (u : Int32) (h6_ : ¬ u.toInt = 0) (h36_ : ¬ u.toInt = 8) (h82_ : u.toInt = 16) (h83_ : ¬ u.toInt = 0) (h9 : u.toInt = 0) : False := by have r_u := rngI u; omega
theorem lf_c_X12_sheet_35  (v : Int32) (h4_ : 0 ≤ v.toInt ∧ v.toInt ≤ 3) : 0 ≤ v.toInt ∧ v.toInt < ((4 : Nat) : Int) := by have r_v := rngI v; omega
theorem lf_c_X12_sheet_36 (M87_ : mM) (Mz : mM) (v : Int32) (u : Int32) (j89_ : Nat) (h4_ : 0 ≤ v.toInt ∧ v.toInt ≤ 3) (h6_ : ¬ u.toInt = 0) (h36_ : ¬ u.toInt = 8) (h82_ : u.toInt = 16) (h83_ : ¬ u.toInt = 0) (h85_ : ¬ u.toInt = 0) (h90_ : (j89_ : Int) = v.toInt) (hM88_ : M87_ = up Mz (66, 0, 0) j89_ u) (h9 : u.toInt = 0) : False := by have r_v := rngI v; have r_u := rngI u; omega
theorem lf_c_X12_sheet_37 (M87_ : mM) (Mz : mM) (v : Int32) (u : Int32) (j89_ : Nat) (h4_ : 0 ≤ v.toInt ∧ v.toInt ≤ 3) (h6_ : ¬ u.toInt = 0) (h36_ : ¬ u.toInt = 8) (h82_ : u.toInt = 16) (h83_ : ¬ u.toInt = 0) (h85_ : ¬ u.toInt = 0) (h90_ : (j89_ : Int) = v.toInt) (hM88_ : M87_ = up Mz (66, 0, 0) j89_ u) (h93_ : ¬ u.toInt = 0) : 0 ≤ v.toInt ∧ v.toInt < ((4 : Nat) : Int) := by have r_v := rngI v; have r_u := rngI u; omega
theorem lf_c_X12_sheet_38 (M87_ : mM) (M94_ : mM) (Mz : mM) (v : Int32) (u : Int32) (t : Int32) (j89_ : Nat) (j96_ : Nat) (h4_ : 0 ≤ v.toInt ∧ v.toInt ≤ 3) (h6_ : ¬ u.toInt = 0) (h36_ : ¬ u.toInt = 8) (h82_ : u.toInt = 16) (h83_ : ¬ u.toInt = 0) (h84_ : 0 ≤ t.toInt) (h85_ : ¬ u.toInt = 0) (h86_ : t.toInt ≤ 24) (h90_ : (j89_ : Int) = v.toInt) (hM88_ : M87_ = up Mz (66, 0, 0) j89_ u) (h93_ : ¬ u.toInt = 0) (h97_ : (j96_ : Int) = v.toInt) (hM95_ : M94_ = up M87_ (67, 0, 0) j96_ t) : 0 ≤ t.toInt ∧ t.toInt ≤ 24 := by have r_v := rngI v; have r_u := rngI u; have r_t := rngI t; omega
theorem lf_c_X12_sheet_39 (M87_ : mM) (M94_ : mM) (Mz : mM) (v : Int32) (u : Int32) (t : Int32) (j89_ : Nat) (j96_ : Nat) (h4_ : 0 ≤ v.toInt ∧ v.toInt ≤ 3) (h6_ : ¬ u.toInt = 0) (h36_ : ¬ u.toInt = 8) (h82_ : u.toInt = 16) (h83_ : ¬ u.toInt = 0) (h84_ : 0 ≤ t.toInt) (h85_ : ¬ u.toInt = 0) (h86_ : t.toInt ≤ 24) (h90_ : (j89_ : Int) = v.toInt) (hM88_ : M87_ = up Mz (66, 0, 0) j89_ u) (h93_ : ¬ u.toInt = 0) (h97_ : (j96_ : Int) = v.toInt) (hM95_ : M94_ = up M87_ (67, 0, 0) j96_ t) : (((¬ (0 ≤ v.toInt ∧ v.toInt ≤ 3) ∨ (¬ u.toInt = 0 ∧ ¬ u.toInt = 8 ∧ ¬ u.toInt = 16 ∧ ¬ u.toInt = 32)) ∧ (1 : Int32).toInt = -1000001) ∨ ((0 ≤ v.toInt ∧ v.toInt ≤ 3) ∧ (u.toInt = 0 ∨ u.toInt = 8 ∨ u.toInt = 16 ∨ u.toInt = 32) ∧ ((¬ u.toInt = 0 ∧ t.toInt < 0 ∧ (1 : Int32).toInt = -1000003) ∨ (¬ u.toInt = 0 ∧ 24 < t.toInt ∧ (1 : Int32).toInt = -1000001) ∨ ((u.toInt = 0 ∨ (0 ≤ t.toInt ∧ t.toInt ≤ 24)) ∧ (1 : Int32).toInt = 1)))) := by have r_v := rngI v; have r_u := rngI u; have r_t := rngI t; have r9 := li_1; omega
theorem lf_c_X12_sheet_40 (M87_ : mM) (M94_ : mM) (Mz : mM) (v : Int32) (u : Int32) (t : Int32) (j89_ : Nat) (j96_ : Nat) (h4_ : 0 ≤ v.toInt ∧ v.toInt ≤ 3) (h6_ : ¬ u.toInt = 0) (h36_ : ¬ u.toInt = 8) (h82_ : u.toInt = 16) (h83_ : ¬ u.toInt = 0) (h84_ : 0 ≤ t.toInt) (h85_ : ¬ u.toInt = 0) (h86_ : t.toInt ≤ 24) (h90_ : (j89_ : Int) = v.toInt) (hM88_ : M87_ = up Mz (66, 0, 0) j89_ u) (h93_ : ¬ u.toInt = 0) (h97_ : (j96_ : Int) = v.toInt) (hM95_ : M94_ = up M87_ (67, 0, 0) j96_ t) : -2147483648 ≤ 24 * v.toInt ∧ 24 * v.toInt < 2147483648 := by have r_v := rngI v; have r_u := rngI u; have r_t := rngI t; omega
theorem lf_c_X12_sheet_41 (M87_ : mM) (M94_ : mM) (Mz : mM) (v : Int32) (u : Int32) (t : Int32) (j89_ : Nat) (j96_ : Nat) (v4_93 : Int32) (z102_ : Int32) (h4_ : 0 ≤ v.toInt ∧ v.toInt ≤ 3) (h6_ : ¬ u.toInt = 0) (h36_ : ¬ u.toInt = 8) (h82_ : u.toInt = 16) (h83_ : ¬ u.toInt = 0) (h84_ : 0 ≤ t.toInt) (h85_ : ¬ u.toInt = 0) (h86_ : t.toInt ≤ 24) (h90_ : (j89_ : Int) = v.toInt) (hM88_ : M87_ = up Mz (66, 0, 0) j89_ u) (h93_ : ¬ u.toInt = 0) (h97_ : (j96_ : Int) = v.toInt) (hM95_ : M94_ = up M87_ (67, 0, 0) j96_ t) (hv0_93 : 0 ≤ v4_93.toInt) (hv1_93 : v4_93.toInt ≤ 24) (h101_ : v4_93.toInt < 24) (h103_ : z102_.toInt = 24 * v.toInt) : -2147483648 ≤ z102_.toInt + v4_93.toInt ∧ z102_.toInt + v4_93.toInt < 2147483648 := by have r_v := rngI v; have r_u := rngI u; have r_t := rngI t; have r_v4_93 := rngI v4_93; have r_z102_ := rngI z102_; omega
theorem lf_c_X12_sheet_42 (M87_ : mM) (M94_ : mM) (Mz : mM) (v : Int32) (u : Int32) (t : Int32) (j89_ : Nat) (j96_ : Nat) (v4_93 : Int32) (z102_ : Int32) (z104_ : Int32) (h4_ : 0 ≤ v.toInt ∧ v.toInt ≤ 3) (h6_ : ¬ u.toInt = 0) (h36_ : ¬ u.toInt = 8) (h82_ : u.toInt = 16) (h83_ : ¬ u.toInt = 0) (h84_ : 0 ≤ t.toInt) (h85_ : ¬ u.toInt = 0) (h86_ : t.toInt ≤ 24) (h90_ : (j89_ : Int) = v.toInt) (hM88_ : M87_ = up Mz (66, 0, 0) j89_ u) (h93_ : ¬ u.toInt = 0) (h97_ : (j96_ : Int) = v.toInt) (hM95_ : M94_ = up M87_ (67, 0, 0) j96_ t) (hv0_93 : 0 ≤ v4_93.toInt) (hv1_93 : v4_93.toInt ≤ 24) (h101_ : v4_93.toInt < 24) (h103_ : z102_.toInt = 24 * v.toInt) (h105_ : z104_.toInt = z102_.toInt + v4_93.toInt) : 0 ≤ z104_.toInt ∧ z104_.toInt < ((96 : Nat) : Int) := by have r_v := rngI v; have r_u := rngI u; have r_t := rngI t; have r_v4_93 := rngI v4_93; have r_z102_ := rngI z102_; have r_z104_ := rngI z104_; omega
theorem lf_c_X12_sheet_43 (M106_ : mM) (M87_ : mM) (M94_ : mM) (M_93 : mM) (Mz : mM) (v : Int32) (u : Int32) (t : Int32) (j89_ : Nat) (j96_ : Nat) (v4_93 : Int32) (z102_ : Int32) (z104_ : Int32) (j108_ : Nat) (h4_ : 0 ≤ v.toInt ∧ v.toInt ≤ 3) (h6_ : ¬ u.toInt = 0) (h36_ : ¬ u.toInt = 8) (h82_ : u.toInt = 16) (h83_ : ¬ u.toInt = 0) (h84_ : 0 ≤ t.toInt) (h85_ : ¬ u.toInt = 0) (h86_ : t.toInt ≤ 24) (h90_ : (j89_ : Int) = v.toInt) (hM88_ : M87_ = up Mz (66, 0, 0) j89_ u) (h93_ : ¬ u.toInt = 0) (h97_ : (j96_ : Int) = v.toInt) (hM95_ : M94_ = up M87_ (67, 0, 0) j96_ t) (hv0_93 : 0 ≤ v4_93.toInt) (hv1_93 : v4_93.toInt ≤ 24) (h101_ : v4_93.toInt < 24) (h103_ : z102_.toInt = 24 * v.toInt) (h105_ : z104_.toInt = z102_.toInt + v4_93.toInt) (h109_ : (j108_ : Int) = z104_.toInt) (hM107_ : M106_ = up M_93 (68, 0, 0) j108_ 0) : -2147483648 ≤ v4_93.toInt + 1 ∧ v4_93.toInt + 1 < 2147483648 := by have r_v := rngI v; have r_u := rngI u; have r_t := rngI t; have r_v4_93 := rngI v4_93; have r_z102_ := rngI z102_; have r_z104_ := rngI z104_; omega
theorem lf_c_X12_sheet_44 (M106_ : mM) (M87_ : mM) (M94_ : mM) (M_93 : mM) (Mz : mM) (v : Int32) (u : Int32) (t : Int32) (j89_ : Nat) (j96_ : Nat) (v4_93 : Int32) (z102_ : Int32) (z104_ : Int32) (j108_ : Nat) (z112_ : Int32) (h4_ : 0 ≤ v.toInt ∧ v.toInt ≤ 3) (h6_ : ¬ u.toInt = 0) (h36_ : ¬ u.toInt = 8) (h82_ : u.toInt = 16) (h83_ : ¬ u.toInt = 0) (h84_ : 0 ≤ t.toInt) (h85_ : ¬ u.toInt = 0) (h86_ : t.toInt ≤ 24) (h90_ : (j89_ : Int) = v.toInt) (hM88_ : M87_ = up Mz (66, 0, 0) j89_ u) (h93_ : ¬ u.toInt = 0) (h97_ : (j96_ : Int) = v.toInt) (hM95_ : M94_ = up M87_ (67, 0, 0) j96_ t) (hv0_93 : 0 ≤ v4_93.toInt) (hv1_93 : v4_93.toInt ≤ 24) (h101_ : v4_93.toInt < 24) (h103_ : z102_.toInt = 24 * v.toInt) (h105_ : z104_.toInt = z102_.toInt + v4_93.toInt) (h109_ : (j108_ : Int) = z104_.toInt) (hM107_ : M106_ = up M_93 (68, 0, 0) j108_ 0) (h113_ : z112_.toInt = v4_93.toInt + 1) : 0 ≤ z112_.toInt := by have r_v := rngI v; have r_u := rngI u; have r_t := rngI t; have r_v4_93 := rngI v4_93; have r_z102_ := rngI z102_; have r_z104_ := rngI z104_; have r_z112_ := rngI z112_; omega
theorem lf_c_X12_sheet_45 (M106_ : mM) (M87_ : mM) (M94_ : mM) (M_93 : mM) (Mz : mM) (v : Int32) (u : Int32) (t : Int32) (j89_ : Nat) (j96_ : Nat) (v4_93 : Int32) (z102_ : Int32) (z104_ : Int32) (j108_ : Nat) (z112_ : Int32) (h4_ : 0 ≤ v.toInt ∧ v.toInt ≤ 3) (h6_ : ¬ u.toInt = 0) (h36_ : ¬ u.toInt = 8) (h82_ : u.toInt = 16) (h83_ : ¬ u.toInt = 0) (h84_ : 0 ≤ t.toInt) (h85_ : ¬ u.toInt = 0) (h86_ : t.toInt ≤ 24) (h90_ : (j89_ : Int) = v.toInt) (hM88_ : M87_ = up Mz (66, 0, 0) j89_ u) (h93_ : ¬ u.toInt = 0) (h97_ : (j96_ : Int) = v.toInt) (hM95_ : M94_ = up M87_ (67, 0, 0) j96_ t) (hv0_93 : 0 ≤ v4_93.toInt) (hv1_93 : v4_93.toInt ≤ 24) (h101_ : v4_93.toInt < 24) (h103_ : z102_.toInt = 24 * v.toInt) (h105_ : z104_.toInt = z102_.toInt + v4_93.toInt) (h109_ : (j108_ : Int) = z104_.toInt) (hM107_ : M106_ = up M_93 (68, 0, 0) j108_ 0) (h113_ : z112_.toInt = v4_93.toInt + 1) : z112_.toInt ≤ 24 := by have r_v := rngI v; have r_u := rngI u; have r_t := rngI t; have r_v4_93 := rngI v4_93; have r_z102_ := rngI z102_; have r_z104_ := rngI z104_; have r_z112_ := rngI z112_; omega
theorem lf_c_X12_sheet_46 (M106_ : mM) (M87_ : mM) (M94_ : mM) (M_93 : mM) (Mz : mM) (v : Int32) (u : Int32) (t : Int32) (j89_ : Nat) (j96_ : Nat) (v4_93 : Int32) (z102_ : Int32) (z104_ : Int32) (j108_ : Nat) (z112_ : Int32) (h4_ : 0 ≤ v.toInt ∧ v.toInt ≤ 3) (h6_ : ¬ u.toInt = 0) (h36_ : ¬ u.toInt = 8) (h82_ : u.toInt = 16) (h83_ : ¬ u.toInt = 0) (h84_ : 0 ≤ t.toInt) (h85_ : ¬ u.toInt = 0) (h86_ : t.toInt ≤ 24) (h90_ : (j89_ : Int) = v.toInt) (hM88_ : M87_ = up Mz (66, 0, 0) j89_ u) (h93_ : ¬ u.toInt = 0) (h97_ : (j96_ : Int) = v.toInt) (hM95_ : M94_ = up M87_ (67, 0, 0) j96_ t) (hv0_93 : 0 ≤ v4_93.toInt) (hv1_93 : v4_93.toInt ≤ 24) (h101_ : v4_93.toInt < 24) (h103_ : z102_.toInt = 24 * v.toInt) (h105_ : z104_.toInt = z102_.toInt + v4_93.toInt) (h109_ : (j108_ : Int) = z104_.toInt) (hM107_ : M106_ = up M_93 (68, 0, 0) j108_ 0) (h113_ : z112_.toInt = v4_93.toInt + 1) : (2147483648 - z112_.toInt).toNat < (2147483648 - v4_93.toInt).toNat := by have r_v := rngI v; have r_u := rngI u; have r_t := rngI t; have r_v4_93 := rngI v4_93; have r_z102_ := rngI z102_; have r_z104_ := rngI z104_; have r_z112_ := rngI z112_; omega
theorem lf_c_X12_sheet_47    : 0 ≤ (0 : Int32).toInt := by have q0 := li_0; omega
theorem lf_c_X12_sheet_48    : (0 : Int32).toInt ≤ 24 := by have q0 := li_0; omega
theorem lf_c_X12_sheet_49  (v : Int32) (u : Int32) (t : Int32) (r114_ : Int32) (h4_ : 0 ≤ v.toInt ∧ v.toInt ≤ 3) (h6_ : ¬ u.toInt = 0) (h36_ : ¬ u.toInt = 8) (h82_ : u.toInt = 16) (h83_ : ¬ u.toInt = 0) (h84_ : 0 ≤ t.toInt) (h85_ : ¬ u.toInt = 0) (h86_ : 24 < t.toInt) (h117_ : r114_.toInt = (-1000001)) : (((¬ (0 ≤ v.toInt ∧ v.toInt ≤ 3) ∨ (¬ u.toInt = 0 ∧ ¬ u.toInt = 8 ∧ ¬ u.toInt = 16 ∧ ¬ u.toInt = 32)) ∧ r114_.toInt = -1000001) ∨ ((0 ≤ v.toInt ∧ v.toInt ≤ 3) ∧ (u.toInt = 0 ∨ u.toInt = 8 ∨ u.toInt = 16 ∨ u.toInt = 32) ∧ ((¬ u.toInt = 0 ∧ t.toInt < 0 ∧ r114_.toInt = -1000003) ∨ (¬ u.toInt = 0 ∧ 24 < t.toInt ∧ r114_.toInt = -1000001) ∨ ((u.toInt = 0 ∨ (0 ≤ t.toInt ∧ t.toInt ≤ 24)) ∧ r114_.toInt = 1)))) := by have r_v := rngI v; have r_u := rngI u; have r_t := rngI t; have r_r114_ := rngI r114_; omega
theorem lf_c_X12_sheet_50  (v : Int32) (u : Int32) (t : Int32) (r121_ : Int32) (h4_ : 0 ≤ v.toInt ∧ v.toInt ≤ 3) (h6_ : ¬ u.toInt = 0) (h36_ : ¬ u.toInt = 8) (h82_ : u.toInt = 16) (h83_ : ¬ u.toInt = 0) (h84_ : t.toInt < 0) (h124_ : r121_.toInt = (-1000003)) : (((¬ (0 ≤ v.toInt ∧ v.toInt ≤ 3) ∨ (¬ u.toInt = 0 ∧ ¬ u.toInt = 8 ∧ ¬ u.toInt = 16 ∧ ¬ u.toInt = 32)) ∧ r121_.toInt = -1000001) ∨ ((0 ≤ v.toInt ∧ v.toInt ≤ 3) ∧ (u.toInt = 0 ∨ u.toInt = 8 ∨ u.toInt = 16 ∨ u.toInt = 32) ∧ ((¬ u.toInt = 0 ∧ t.toInt < 0 ∧ r121_.toInt = -1000003) ∨ (¬ u.toInt = 0 ∧ 24 < t.toInt ∧ r121_.toInt = -1000001) ∨ ((u.toInt = 0 ∨ (0 ≤ t.toInt ∧ t.toInt ≤ 24)) ∧ r121_.toInt = 1)))) := by have r_v := rngI v; have r_u := rngI u; have r_t := rngI t; have r_r121_ := rngI r121_; omega
theorem lf_c_X12_sheet_51  (u : Int32) (h6_ : ¬ u.toInt = 0) (h36_ : ¬ u.toInt = 8) (h82_ : ¬ u.toInt = 16) (h128_ : u.toInt = 32) (h9 : u.toInt = 0) : False := by have r_u := rngI u; omega
theorem lf_c_X12_sheet_52  (u : Int32) (h6_ : ¬ u.toInt = 0) (h36_ : ¬ u.toInt = 8) (h82_ : ¬ u.toInt = 16) (h128_ : u.toInt = 32) (h129_ : ¬ u.toInt = 0) (h9 : u.toInt = 0) : False := by have r_u := rngI u; omega
theorem lf_c_X12_sheet_53  (v : Int32) (h4_ : 0 ≤ v.toInt ∧ v.toInt ≤ 3) : 0 ≤ v.toInt ∧ v.toInt < ((4 : Nat) : Int) := by have r_v := rngI v; omega
theorem lf_c_X12_sheet_54 (M133_ : mM) (Mz : mM) (v : Int32) (u : Int32) (j135_ : Nat) (h4_ : 0 ≤ v.toInt ∧ v.toInt ≤ 3) (h6_ : ¬ u.toInt = 0) (h36_ : ¬ u.toInt = 8) (h82_ : ¬ u.toInt = 16) (h128_ : u.toInt = 32) (h129_ : ¬ u.toInt = 0) (h131_ : ¬ u.toInt = 0) (h136_ : (j135_ : Int) = v.toInt) (hM134_ : M133_ = up Mz (66, 0, 0) j135_ u) (h9 : u.toInt = 0) : False := by have r_v := rngI v; have r_u := rngI u; omega
theorem lf_c_X12_sheet_55 (M133_ : mM) (Mz : mM) (v : Int32) (u : Int32) (j135_ : Nat) (h4_ : 0 ≤ v.toInt ∧ v.toInt ≤ 3) (h6_ : ¬ u.toInt = 0) (h36_ : ¬ u.toInt = 8) (h82_ : ¬ u.toInt = 16) (h128_ : u.toInt = 32) (h129_ : ¬ u.toInt = 0) (h131_ : ¬ u.toInt = 0) (h136_ : (j135_ : Int) = v.toInt) (hM134_ : M133_ = up Mz (66, 0, 0) j135_ u) (h139_ : ¬ u.toInt = 0) : 0 ≤ v.toInt ∧ v.toInt < ((4 : Nat) : Int) := by have r_v := rngI v; have r_u := rngI u; omega
theorem lf_c_X12_sheet_56 (M133_ : mM) (M140_ : mM) (Mz : mM) (v : Int32) (u : Int32) (t : Int32) (j135_ : Nat) (j142_ : Nat) (h4_ : 0 ≤ v.toInt ∧ v.toInt ≤ 3) (h6_ : ¬ u.toInt = 0) (h36_ : ¬ u.toInt = 8) (h82_ : ¬ u.toInt = 16) (h128_ : u.toInt = 32) (h129_ : ¬ u.toInt = 0) (h130_ : 0 ≤ t.toInt) (h131_ : ¬ u.toInt = 0) (h132_ : t.toInt ≤ 24) (h136_ : (j135_ : Int) = v.toInt) (hM134_ : M133_ = up Mz (66, 0, 0) j135_ u) (h139_ : ¬ u.toInt = 0) (h143_ : (j142_ : Int) = v.toInt) (hM141_ : M140_ = up M133_ (67, 0, 0) j142_ t) : 0 ≤ t.toInt ∧ t.toInt ≤ 24 := by have r_v := rngI v; have r_u := rngI u; have r_t := rngI t; omega
theorem lf_c_X12_sheet_57 (M133_ : mM) (M140_ : mM) (Mz : mM) (v : Int32) (u : Int32) (t : Int32) (j135_ : Nat) (j142_ : Nat) (h4_ : 0 ≤ v.toInt ∧ v.toInt ≤ 3) (h6_ : ¬ u.toInt = 0) (h36_ : ¬ u.toInt = 8) (h82_ : ¬ u.toInt = 16) (h128_ : u.toInt = 32) (h129_ : ¬ u.toInt = 0) (h130_ : 0 ≤ t.toInt) (h131_ : ¬ u.toInt = 0) (h132_ : t.toInt ≤ 24) (h136_ : (j135_ : Int) = v.toInt) (hM134_ : M133_ = up Mz (66, 0, 0) j135_ u) (h139_ : ¬ u.toInt = 0) (h143_ : (j142_ : Int) = v.toInt) (hM141_ : M140_ = up M133_ (67, 0, 0) j142_ t) : (((¬ (0 ≤ v.toInt ∧ v.toInt ≤ 3) ∨ (¬ u.toInt = 0 ∧ ¬ u.toInt = 8 ∧ ¬ u.toInt = 16 ∧ ¬ u.toInt = 32)) ∧ (1 : Int32).toInt = -1000001) ∨ ((0 ≤ v.toInt ∧ v.toInt ≤ 3) ∧ (u.toInt = 0 ∨ u.toInt = 8 ∨ u.toInt = 16 ∨ u.toInt = 32) ∧ ((¬ u.toInt = 0 ∧ t.toInt < 0 ∧ (1 : Int32).toInt = -1000003) ∨ (¬ u.toInt = 0 ∧ 24 < t.toInt ∧ (1 : Int32).toInt = -1000001) ∨ ((u.toInt = 0 ∨ (0 ≤ t.toInt ∧ t.toInt ≤ 24)) ∧ (1 : Int32).toInt = 1)))) := by have r_v := rngI v; have r_u := rngI u; have r_t := rngI t; have r9 := li_1; omega
theorem lf_c_X12_sheet_58 (M133_ : mM) (M140_ : mM) (Mz : mM) (v : Int32) (u : Int32) (t : Int32) (j135_ : Nat) (j142_ : Nat) (h4_ : 0 ≤ v.toInt ∧ v.toInt ≤ 3) (h6_ : ¬ u.toInt = 0) (h36_ : ¬ u.toInt = 8) (h82_ : ¬ u.toInt = 16) (h128_ : u.toInt = 32) (h129_ : ¬ u.toInt = 0) (h130_ : 0 ≤ t.toInt) (h131_ : ¬ u.toInt = 0) (h132_ : t.toInt ≤ 24) (h136_ : (j135_ : Int) = v.toInt) (hM134_ : M133_ = up Mz (66, 0, 0) j135_ u) (h139_ : ¬ u.toInt = 0) (h143_ : (j142_ : Int) = v.toInt) (hM141_ : M140_ = up M133_ (67, 0, 0) j142_ t) : -2147483648 ≤ 24 * v.toInt ∧ 24 * v.toInt < 2147483648 := by have r_v := rngI v; have r_u := rngI u; have r_t := rngI t; omega
theorem lf_c_X12_sheet_59 (M133_ : mM) (M140_ : mM) (Mz : mM) (v : Int32) (u : Int32) (t : Int32) (j135_ : Nat) (j142_ : Nat) (v4_93 : Int32) (z148_ : Int32) (h4_ : 0 ≤ v.toInt ∧ v.toInt ≤ 3) (h6_ : ¬ u.toInt = 0) (h36_ : ¬ u.toInt = 8) (h82_ : ¬ u.toInt = 16) (h128_ : u.toInt = 32) (h129_ : ¬ u.toInt = 0) (h130_ : 0 ≤ t.toInt) (h131_ : ¬ u.toInt = 0) (h132_ : t.toInt ≤ 24) (h136_ : (j135_ : Int) = v.toInt) (hM134_ : M133_ = up Mz (66, 0, 0) j135_ u) (h139_ : ¬ u.toInt = 0) (h143_ : (j142_ : Int) = v.toInt) (hM141_ : M140_ = up M133_ (67, 0, 0) j142_ t) (hv0_93 : 0 ≤ v4_93.toInt) (hv1_93 : v4_93.toInt ≤ 24) (h147_ : v4_93.toInt < 24) (h149_ : z148_.toInt = 24 * v.toInt) : -2147483648 ≤ z148_.toInt + v4_93.toInt ∧ z148_.toInt + v4_93.toInt < 2147483648 := by have r_v := rngI v; have r_u := rngI u; have r_t := rngI t; have r_v4_93 := rngI v4_93; have r_z148_ := rngI z148_; omega
theorem lf_c_X12_sheet_60 (M133_ : mM) (M140_ : mM) (Mz : mM) (v : Int32) (u : Int32) (t : Int32) (j135_ : Nat) (j142_ : Nat) (v4_93 : Int32) (z148_ : Int32) (z150_ : Int32) (h4_ : 0 ≤ v.toInt ∧ v.toInt ≤ 3) (h6_ : ¬ u.toInt = 0) (h36_ : ¬ u.toInt = 8) (h82_ : ¬ u.toInt = 16) (h128_ : u.toInt = 32) (h129_ : ¬ u.toInt = 0) (h130_ : 0 ≤ t.toInt) (h131_ : ¬ u.toInt = 0) (h132_ : t.toInt ≤ 24) (h136_ : (j135_ : Int) = v.toInt) (hM134_ : M133_ = up Mz (66, 0, 0) j135_ u) (h139_ : ¬ u.toInt = 0) (h143_ : (j142_ : Int) = v.toInt) (hM141_ : M140_ = up M133_ (67, 0, 0) j142_ t) (hv0_93 : 0 ≤ v4_93.toInt) (hv1_93 : v4_93.toInt ≤ 24) (h147_ : v4_93.toInt < 24) (h149_ : z148_.toInt = 24 * v.toInt) (h151_ : z150_.toInt = z148_.toInt + v4_93.toInt) : 0 ≤ z150_.toInt ∧ z150_.toInt < ((96 : Nat) : Int) := by have r_v := rngI v; have r_u := rngI u; have r_t := rngI t; have r_v4_93 := rngI v4_93; have r_z148_ := rngI z148_; have r_z150_ := rngI z150_; omega
theorem lf_c_X12_sheet_61 (M133_ : mM) (M140_ : mM) (M152_ : mM) (M_93 : mM) (Mz : mM) (v : Int32) (u : Int32) (t : Int32) (j135_ : Nat) (j142_ : Nat) (v4_93 : Int32) (z148_ : Int32) (z150_ : Int32) (j154_ : Nat) (h4_ : 0 ≤ v.toInt ∧ v.toInt ≤ 3) (h6_ : ¬ u.toInt = 0) (h36_ : ¬ u.toInt = 8) (h82_ : ¬ u.toInt = 16) (h128_ : u.toInt = 32) (h129_ : ¬ u.toInt = 0) (h130_ : 0 ≤ t.toInt) (h131_ : ¬ u.toInt = 0) (h132_ : t.toInt ≤ 24) (h136_ : (j135_ : Int) = v.toInt) (hM134_ : M133_ = up Mz (66, 0, 0) j135_ u) (h139_ : ¬ u.toInt = 0) (h143_ : (j142_ : Int) = v.toInt) (hM141_ : M140_ = up M133_ (67, 0, 0) j142_ t) (hv0_93 : 0 ≤ v4_93.toInt) (hv1_93 : v4_93.toInt ≤ 24) (h147_ : v4_93.toInt < 24) (h149_ : z148_.toInt = 24 * v.toInt) (h151_ : z150_.toInt = z148_.toInt + v4_93.toInt) (h155_ : (j154_ : Int) = z150_.toInt) (hM153_ : M152_ = up M_93 (68, 0, 0) j154_ 0) : -2147483648 ≤ v4_93.toInt + 1 ∧ v4_93.toInt + 1 < 2147483648 := by have r_v := rngI v; have r_u := rngI u; have r_t := rngI t; have r_v4_93 := rngI v4_93; have r_z148_ := rngI z148_; have r_z150_ := rngI z150_; omega
theorem lf_c_X12_sheet_62 (M133_ : mM) (M140_ : mM) (M152_ : mM) (M_93 : mM) (Mz : mM) (v : Int32) (u : Int32) (t : Int32) (j135_ : Nat) (j142_ : Nat) (v4_93 : Int32) (z148_ : Int32) (z150_ : Int32) (j154_ : Nat) (z158_ : Int32) (h4_ : 0 ≤ v.toInt ∧ v.toInt ≤ 3) (h6_ : ¬ u.toInt = 0) (h36_ : ¬ u.toInt = 8) (h82_ : ¬ u.toInt = 16) (h128_ : u.toInt = 32) (h129_ : ¬ u.toInt = 0) (h130_ : 0 ≤ t.toInt) (h131_ : ¬ u.toInt = 0) (h132_ : t.toInt ≤ 24) (h136_ : (j135_ : Int) = v.toInt) (hM134_ : M133_ = up Mz (66, 0, 0) j135_ u) (h139_ : ¬ u.toInt = 0) (h143_ : (j142_ : Int) = v.toInt) (hM141_ : M140_ = up M133_ (67, 0, 0) j142_ t) (hv0_93 : 0 ≤ v4_93.toInt) (hv1_93 : v4_93.toInt ≤ 24) (h147_ : v4_93.toInt < 24) (h149_ : z148_.toInt = 24 * v.toInt) (h151_ : z150_.toInt = z148_.toInt + v4_93.toInt) (h155_ : (j154_ : Int) = z150_.toInt) (hM153_ : M152_ = up M_93 (68, 0, 0) j154_ 0) (h159_ : z158_.toInt = v4_93.toInt + 1) : 0 ≤ z158_.toInt := by have r_v := rngI v; have r_u := rngI u; have r_t := rngI t; have r_v4_93 := rngI v4_93; have r_z148_ := rngI z148_; have r_z150_ := rngI z150_; have r_z158_ := rngI z158_; omega
theorem lf_c_X12_sheet_63 (M133_ : mM) (M140_ : mM) (M152_ : mM) (M_93 : mM) (Mz : mM) (v : Int32) (u : Int32) (t : Int32) (j135_ : Nat) (j142_ : Nat) (v4_93 : Int32) (z148_ : Int32) (z150_ : Int32) (j154_ : Nat) (z158_ : Int32) (h4_ : 0 ≤ v.toInt ∧ v.toInt ≤ 3) (h6_ : ¬ u.toInt = 0) (h36_ : ¬ u.toInt = 8) (h82_ : ¬ u.toInt = 16) (h128_ : u.toInt = 32) (h129_ : ¬ u.toInt = 0) (h130_ : 0 ≤ t.toInt) (h131_ : ¬ u.toInt = 0) (h132_ : t.toInt ≤ 24) (h136_ : (j135_ : Int) = v.toInt) (hM134_ : M133_ = up Mz (66, 0, 0) j135_ u) (h139_ : ¬ u.toInt = 0) (h143_ : (j142_ : Int) = v.toInt) (hM141_ : M140_ = up M133_ (67, 0, 0) j142_ t) (hv0_93 : 0 ≤ v4_93.toInt) (hv1_93 : v4_93.toInt ≤ 24) (h147_ : v4_93.toInt < 24) (h149_ : z148_.toInt = 24 * v.toInt) (h151_ : z150_.toInt = z148_.toInt + v4_93.toInt) (h155_ : (j154_ : Int) = z150_.toInt) (hM153_ : M152_ = up M_93 (68, 0, 0) j154_ 0) (h159_ : z158_.toInt = v4_93.toInt + 1) : z158_.toInt ≤ 24 := by have r_v := rngI v; have r_u := rngI u; have r_t := rngI t; have r_v4_93 := rngI v4_93; have r_z148_ := rngI z148_; have r_z150_ := rngI z150_; have r_z158_ := rngI z158_; omega
theorem lf_c_X12_sheet_64 (M133_ : mM) (M140_ : mM) (M152_ : mM) (M_93 : mM) (Mz : mM) (v : Int32) (u : Int32) (t : Int32) (j135_ : Nat) (j142_ : Nat) (v4_93 : Int32) (z148_ : Int32) (z150_ : Int32) (j154_ : Nat) (z158_ : Int32) (h4_ : 0 ≤ v.toInt ∧ v.toInt ≤ 3) (h6_ : ¬ u.toInt = 0) (h36_ : ¬ u.toInt = 8) (h82_ : ¬ u.toInt = 16) (h128_ : u.toInt = 32) (h129_ : ¬ u.toInt = 0) (h130_ : 0 ≤ t.toInt) (h131_ : ¬ u.toInt = 0) (h132_ : t.toInt ≤ 24) (h136_ : (j135_ : Int) = v.toInt) (hM134_ : M133_ = up Mz (66, 0, 0) j135_ u) (h139_ : ¬ u.toInt = 0) (h143_ : (j142_ : Int) = v.toInt) (hM141_ : M140_ = up M133_ (67, 0, 0) j142_ t) (hv0_93 : 0 ≤ v4_93.toInt) (hv1_93 : v4_93.toInt ≤ 24) (h147_ : v4_93.toInt < 24) (h149_ : z148_.toInt = 24 * v.toInt) (h151_ : z150_.toInt = z148_.toInt + v4_93.toInt) (h155_ : (j154_ : Int) = z150_.toInt) (hM153_ : M152_ = up M_93 (68, 0, 0) j154_ 0) (h159_ : z158_.toInt = v4_93.toInt + 1) : (2147483648 - z158_.toInt).toNat < (2147483648 - v4_93.toInt).toNat := by have r_v := rngI v; have r_u := rngI u; have r_t := rngI t; have r_v4_93 := rngI v4_93; have r_z148_ := rngI z148_; have r_z150_ := rngI z150_; have r_z158_ := rngI z158_; omega
theorem lf_c_X12_sheet_65    : 0 ≤ (0 : Int32).toInt := by have q0 := li_0; omega
theorem lf_c_X12_sheet_66    : (0 : Int32).toInt ≤ 24 := by have q0 := li_0; omega
theorem lf_c_X12_sheet_67  (v : Int32) (u : Int32) (t : Int32) (r160_ : Int32) (h4_ : 0 ≤ v.toInt ∧ v.toInt ≤ 3) (h6_ : ¬ u.toInt = 0) (h36_ : ¬ u.toInt = 8) (h82_ : ¬ u.toInt = 16) (h128_ : u.toInt = 32) (h129_ : ¬ u.toInt = 0) (h130_ : 0 ≤ t.toInt) (h131_ : ¬ u.toInt = 0) (h132_ : 24 < t.toInt) (h163_ : r160_.toInt = (-1000001)) : (((¬ (0 ≤ v.toInt ∧ v.toInt ≤ 3) ∨ (¬ u.toInt = 0 ∧ ¬ u.toInt = 8 ∧ ¬ u.toInt = 16 ∧ ¬ u.toInt = 32)) ∧ r160_.toInt = -1000001) ∨ ((0 ≤ v.toInt ∧ v.toInt ≤ 3) ∧ (u.toInt = 0 ∨ u.toInt = 8 ∨ u.toInt = 16 ∨ u.toInt = 32) ∧ ((¬ u.toInt = 0 ∧ t.toInt < 0 ∧ r160_.toInt = -1000003) ∨ (¬ u.toInt = 0 ∧ 24 < t.toInt ∧ r160_.toInt = -1000001) ∨ ((u.toInt = 0 ∨ (0 ≤ t.toInt ∧ t.toInt ≤ 24)) ∧ r160_.toInt = 1)))) := by have r_v := rngI v; have r_u := rngI u; have r_t := rngI t; have r_r160_ := rngI r160_; omega
theorem lf_c_X12_sheet_68  (v : Int32) (u : Int32) (t : Int32) (r167_ : Int32) (h4_ : 0 ≤ v.toInt ∧ v.toInt ≤ 3) (h6_ : ¬ u.toInt = 0) (h36_ : ¬ u.toInt = 8) (h82_ : ¬ u.toInt = 16) (h128_ : u.toInt = 32) (h129_ : ¬ u.toInt = 0) (h130_ : t.toInt < 0) (h170_ : r167_.toInt = (-1000003)) : (((¬ (0 ≤ v.toInt ∧ v.toInt ≤ 3) ∨ (¬ u.toInt = 0 ∧ ¬ u.toInt = 8 ∧ ¬ u.toInt = 16 ∧ ¬ u.toInt = 32)) ∧ r167_.toInt = -1000001) ∨ ((0 ≤ v.toInt ∧ v.toInt ≤ 3) ∧ (u.toInt = 0 ∨ u.toInt = 8 ∨ u.toInt = 16 ∨ u.toInt = 32) ∧ ((¬ u.toInt = 0 ∧ t.toInt < 0 ∧ r167_.toInt = -1000003) ∨ (¬ u.toInt = 0 ∧ 24 < t.toInt ∧ r167_.toInt = -1000001) ∨ ((u.toInt = 0 ∨ (0 ≤ t.toInt ∧ t.toInt ≤ 24)) ∧ r167_.toInt = 1)))) := by have r_v := rngI v; have r_u := rngI u; have r_t := rngI t; have r_r167_ := rngI r167_; omega
theorem lf_c_X12_sheet_69  (v : Int32) (u : Int32) (t : Int32) (r174_ : Int32) (h4_ : 0 ≤ v.toInt ∧ v.toInt ≤ 3) (h6_ : ¬ u.toInt = 0) (h36_ : ¬ u.toInt = 8) (h82_ : ¬ u.toInt = 16) (h128_ : ¬ u.toInt = 32) (h177_ : r174_.toInt = (-1000001)) : (((¬ (0 ≤ v.toInt ∧ v.toInt ≤ 3) ∨ (¬ u.toInt = 0 ∧ ¬ u.toInt = 8 ∧ ¬ u.toInt = 16 ∧ ¬ u.toInt = 32)) ∧ r174_.toInt = -1000001) ∨ ((0 ≤ v.toInt ∧ v.toInt ≤ 3) ∧ (u.toInt = 0 ∨ u.toInt = 8 ∨ u.toInt = 16 ∨ u.toInt = 32) ∧ ((¬ u.toInt = 0 ∧ t.toInt < 0 ∧ r174_.toInt = -1000003) ∨ (¬ u.toInt = 0 ∧ 24 < t.toInt ∧ r174_.toInt = -1000001) ∨ ((u.toInt = 0 ∨ (0 ≤ t.toInt ∧ t.toInt ≤ 24)) ∧ r174_.toInt = 1)))) := by have r_v := rngI v; have r_u := rngI u; have r_t := rngI t; have r_r174_ := rngI r174_; omega
theorem lf_c_X12_sheet_70  (v : Int32) (u : Int32) (t : Int32) (r182_ : Int32) (h4_ : ¬ (0 ≤ v.toInt ∧ v.toInt ≤ 3)) (h185_ : r182_.toInt = (-1000001)) : (((¬ (0 ≤ v.toInt ∧ v.toInt ≤ 3) ∨ (¬ u.toInt = 0 ∧ ¬ u.toInt = 8 ∧ ¬ u.toInt = 16 ∧ ¬ u.toInt = 32)) ∧ r182_.toInt = -1000001) ∨ ((0 ≤ v.toInt ∧ v.toInt ≤ 3) ∧ (u.toInt = 0 ∨ u.toInt = 8 ∨ u.toInt = 16 ∨ u.toInt = 32) ∧ ((¬ u.toInt = 0 ∧ t.toInt < 0 ∧ r182_.toInt = -1000003) ∨ (¬ u.toInt = 0 ∧ 24 < t.toInt ∧ r182_.toInt = -1000001) ∨ ((u.toInt = 0 ∨ (0 ≤ t.toInt ∧ t.toInt ≤ 24)) ∧ r182_.toInt = 1)))) := by have r_v := rngI v; have r_u := rngI u; have r_t := rngI t; have r_r182_ := rngI r182_; omega
set_option maxHeartbeats 4000000 in
set_option maxRecDepth 100000 in
theorem c_X12_sheet (l : Launch) (G : va_G) (cy : Nat → ClassId) (ad : rf → Nat) (d : Nat) (v : Int32) (u : Int32) (t : Int32) (Mz : mM) (hIz : InvD Mz) : WP DD l G cy ad yX12_sheet cX12_sheet 5 (some .int) (d + 2) 0 [(0, vR (12, 0, 0)), (1, vI v), (2, vI u), (3, vI t)] [] Mz (fun r M' => InvD M' ∧ FR (S_c_X12_sheet) Mz M' ∧ (((¬ (0 ≤ v.toInt ∧ v.toInt ≤ 3) ∨ (¬ u.toInt = 0 ∧ ¬ u.toInt = 8 ∧ ¬ u.toInt = 16 ∧ ¬ u.toInt = 32)) ∧ r.toInt = -1000001) ∨ ((0 ≤ v.toInt ∧ v.toInt ≤ 3) ∧ (u.toInt = 0 ∨ u.toInt = 8 ∨ u.toInt = 16 ∨ u.toInt = 32) ∧ ((¬ u.toInt = 0 ∧ t.toInt < 0 ∧ r.toInt = -1000003) ∨ (¬ u.toInt = 0 ∧ 24 < t.toInt ∧ r.toInt = -1000001) ∨ ((u.toInt = 0 ∨ (0 ≤ t.toInt ∧ t.toInt ≤ 24)) ∧ r.toInt = 1))))) := by
  have hFz : FR (S_c_X12_sheet) Mz Mz := FR.self
  refine w_iload_n dX12_sheet_0 rfl 1 rfl ?_
  refine w_callS (as := [vI v]) (rest := []) (c_X12_isSheet l G cy ad d v Mz hIz) kS_X12_isSheet (by decide +kernel) (Nat.le_of_ble_eq_true rfl) m_1497 rfl rfl (by decide) (Nat.le_of_ble_eq_true rfl) dX12_sheet_1 (fun r1_ M2_ q3_ => ?_)
  obtain ⟨rfl, h4_⟩ := q3_
  rcases h4_ with ⟨rfl, h4_⟩ | ⟨rfl, h4_⟩
  · refine w_if_eq (tgt := 29) dX12_sheet_4 (by decide) li_1 (fun h9 => (absurd h9 (by decide))) (fun h5_ => ?_)
    refine w_iload_n dX12_sheet_7 rfl 2 rfl ?_
    refine w_if_eq (tgt := 36) dX12_sheet_8 (by decide) (rfl : u.toInt = u.toInt) (fun h6_ => ?_) (fun h6_ => ?_)
    · refine w_iload_n dX12_sheet_36 rfl 2 rfl ?_
      refine w_if_eq (tgt := 51) dX12_sheet_37 (by decide) (rfl : u.toInt = u.toInt) (fun h7_ => ?_) (fun h9 => (lf_c_X12_sheet_0 u h6_ h9).elim)
      refine w_iload_n dX12_sheet_51 rfl 2 rfl ?_
      refine w_if_eq (tgt := 68) dX12_sheet_52 (by decide) (rfl : u.toInt = u.toInt) (fun h8_ => ?_) (fun h9 => (lf_c_X12_sheet_1 u h6_ h7_ h9).elim)
      refine w_aload_n dX12_sheet_68 rfl 0 rfl ?_
      refine w_getR (c' := (66, 0, 0)) fl_RX12_72 rfl rfl ic_12 dX12_sheet_69 rfl ?_
      refine w_iload_n dX12_sheet_72 rfl 1 rfl ?_
      refine w_iload_n dX12_sheet_73 rfl 2 rfl ?_
      refine w_iast DD_nd rfl rfl ic_66 (rfl : v.toInt = v.toInt) (lf_c_X12_sheet_2 v h4_) dX12_sheet_74 (fun j11_ h12_ M9_ hM10_ => ?_)
      have hI13_ := hIz.put hM10_ ⟨trivial, Or.inr (by decide)⟩
      have hF14_ := hFz.put hM10_ (Or.inl ⟨rfl, rfl⟩)
      refine w_aload_n dX12_sheet_75 rfl 0 rfl ?_
      refine w_getR (c' := (67, 0, 0)) fl_RX12_75 rfl rfl ic_12 dX12_sheet_76 rfl ?_
      refine w_iload_n dX12_sheet_79 rfl 1 rfl ?_
      refine w_iload_n dX12_sheet_80 rfl 2 rfl ?_
      refine w_if_ne (tgt := 88) dX12_sheet_81 (by decide) (rfl : u.toInt = u.toInt) (fun h9 => (lf_c_X12_sheet_3 M9_ Mz v u j11_ h4_ h6_ h7_ h8_ h12_ hM10_ h9).elim) (fun h15_ => ?_)
      refine w_iconst (v := 0) dX12_sheet_84 (by decide) ?_
      refine w_goto (tgt := 89) dX12_sheet_85 (by decide) ?_
      refine w_iast DD_nd rfl rfl ic_67 (rfl : v.toInt = v.toInt) (lf_c_X12_sheet_4 M9_ Mz v u j11_ h4_ h6_ h7_ h8_ h12_ hM10_ h15_) dX12_sheet_89 (fun j18_ h19_ M16_ hM17_ => ?_)
      have hI20_ := hI13_.put hM17_ ⟨⟨by decide, by decide⟩, Or.inr (by decide)⟩
      have hF21_ := hF14_.put hM17_ (Or.inr (Or.inl ⟨rfl, rfl⟩))
      refine w_iconst (v := 0) dX12_sheet_90 (by decide) ?_
      refine w_istore (ls' := [(4, vI 0), (0, vR (12, 0, 0)), (1, vI v), (2, vI u), (3, vI t)]) dX12_sheet_91 (by decide) rfl ?_
      have lp22_ : ∀ (nn_93 : Nat) (M_93 : mM) (hI_93 : InvD M_93) (hF_93 : FR (S_c_X12_sheet) Mz M_93) (v4_93 : Int32) (hv0_93 : 0 ≤ v4_93.toInt) (hv1_93 : v4_93.toInt ≤ 24), (2147483648 - v4_93.toInt).toNat < nn_93 → WP DD l G cy ad yX12_sheet cX12_sheet 5 (some .int) (d + 2) 93 [(4, vI v4_93), (0, vR (12, 0, 0)), (1, vI v), (2, vI u), (3, vI t)] [] M_93 (fun r M' => InvD M' ∧ FR (S_c_X12_sheet) Mz M' ∧ (((¬ (0 ≤ v.toInt ∧ v.toInt ≤ 3) ∨ (¬ u.toInt = 0 ∧ ¬ u.toInt = 8 ∧ ¬ u.toInt = 16 ∧ ¬ u.toInt = 32)) ∧ r.toInt = -1000001) ∨ ((0 ≤ v.toInt ∧ v.toInt ≤ 3) ∧ (u.toInt = 0 ∨ u.toInt = 8 ∨ u.toInt = 16 ∨ u.toInt = 32) ∧ ((¬ u.toInt = 0 ∧ t.toInt < 0 ∧ r.toInt = -1000003) ∨ (¬ u.toInt = 0 ∧ 24 < t.toInt ∧ r.toInt = -1000001) ∨ ((u.toInt = 0 ∨ (0 ≤ t.toInt ∧ t.toInt ≤ 24)) ∧ r.toInt = 1))))) := by
        intro nn_93
        induction nn_93 with
        | zero => intro M_93 hI_93 hF_93 v4_93 hv0_93 hv1_93 hm_93; exact absurd hm_93 (Nat.not_lt_zero _)
        | succ nn_93 ih_93 =>
          intro M_93 hI_93 hF_93 v4_93 hv0_93 hv1_93 hm_93
          refine w_iload dX12_sheet_93 0 rfl ?_
          refine w_bipush (v := 24) dX12_sheet_95 (by decide) ?_
          refine w_icmp_ge (tgt := 119) dX12_sheet_97 (by decide) (rfl : v4_93.toInt = v4_93.toInt) li_24 (fun h23_ => ?_) (fun h23_ => ?_)
          · refine w_iconst (v := 1) dX12_sheet_119 (by decide) ?_
            exact w_iret rfl dX12_sheet_120 ⟨hI_93, hF_93, (lf_c_X12_sheet_5 M16_ M9_ Mz v u t j11_ j18_ h4_ h6_ h7_ h8_ h12_ hM10_ h15_ h19_ hM17_)⟩
          · refine w_aload_n dX12_sheet_100 rfl 1 rfl ?_
            refine w_getR (c' := (68, 0, 0)) fl_RX12_78 rfl rfl ic_12 dX12_sheet_101 rfl ?_
            refine w_bipush (v := 24) dX12_sheet_104 (by decide) ?_
            refine w_iload_n dX12_sheet_106 rfl 2 rfl ?_
            refine w_imulB dX12_sheet_107 li_24 (rfl : v.toInt = v.toInt) (lf_c_X12_sheet_6 M16_ M9_ Mz v u j11_ j18_ h4_ h6_ h7_ h8_ h12_ hM10_ h15_ h19_ hM17_) (fun z24_ h25_ => ?_)
            refine w_iload dX12_sheet_108 0 rfl ?_
            refine w_iaddB dX12_sheet_110 (rfl : z24_.toInt = z24_.toInt) (rfl : v4_93.toInt = v4_93.toInt) (lf_c_X12_sheet_7 M16_ M9_ Mz v u j11_ j18_ v4_93 z24_ h4_ h6_ h7_ h8_ h12_ hM10_ h15_ h19_ hM17_ hv0_93 hv1_93 h23_ h25_) (fun z26_ h27_ => ?_)
            refine w_iconst (v := 0) dX12_sheet_111 (by decide) ?_
            refine w_iast DD_nd rfl rfl ic_68 (rfl : z26_.toInt = z26_.toInt) (lf_c_X12_sheet_8 M16_ M9_ Mz v u j11_ j18_ v4_93 z24_ z26_ h4_ h6_ h7_ h8_ h12_ hM10_ h15_ h19_ hM17_ hv0_93 hv1_93 h23_ h25_ h27_) dX12_sheet_112 (fun j30_ h31_ M28_ hM29_ => ?_)
            have hI32_ := hI_93.put hM29_ ⟨trivial, Or.inr (by decide)⟩
            have hF33_ := hF_93.put hM29_ (Or.inr (Or.inr (Or.inl ⟨rfl, rfl⟩)))
            refine w_iincB (j := 0) (f := fun z34_ => [(4, vI z34_), (0, vR (12, 0, 0)), (1, vI v), (2, vI u), (3, vI t)]) dX12_sheet_113 rfl (by decide) (fun _ => rfl) (rfl : v4_93.toInt = v4_93.toInt) li_1 (lf_c_X12_sheet_9 M16_ M28_ M9_ M_93 Mz v u j11_ j18_ v4_93 z24_ z26_ j30_ h4_ h6_ h7_ h8_ h12_ hM10_ h15_ h19_ hM17_ hv0_93 hv1_93 h23_ h25_ h27_ h31_ hM29_) (fun z34_ h35_ => ?_)
            refine w_goto (tgt := 93) dX12_sheet_116 (by decide) ?_
            refine w_loc (ls' := [(4, vI z34_), (0, vR (12, 0, 0)), (1, vI v), (2, vI u), (3, vI t)]) [0, 1, 2, 3, 4] rfl ?_
            exact ih_93 M28_ hI32_ hF33_ z34_ (lf_c_X12_sheet_10 M16_ M28_ M9_ M_93 Mz v u j11_ j18_ v4_93 z24_ z26_ j30_ z34_ h4_ h6_ h7_ h8_ h12_ hM10_ h15_ h19_ hM17_ hv0_93 hv1_93 h23_ h25_ h27_ h31_ hM29_ h35_) (lf_c_X12_sheet_11 M16_ M28_ M9_ M_93 Mz v u j11_ j18_ v4_93 z24_ z26_ j30_ z34_ h4_ h6_ h7_ h8_ h12_ hM10_ h15_ h19_ hM17_ hv0_93 hv1_93 h23_ h25_ h27_ h31_ hM29_ h35_) (Nat.lt_of_lt_of_le (lf_c_X12_sheet_12 M16_ M28_ M9_ M_93 Mz v u j11_ j18_ v4_93 z24_ z26_ j30_ z34_ h4_ h6_ h7_ h8_ h12_ hM10_ h15_ h19_ hM17_ hv0_93 hv1_93 h23_ h25_ h27_ h31_ hM29_ h35_) (Nat.le_of_lt_succ hm_93))
      exact lp22_ _ M16_ hI20_ hF21_ 0 (lf_c_X12_sheet_13 ) (lf_c_X12_sheet_14 ) (Nat.lt_succ_self _)
    · refine w_iload_n dX12_sheet_11 rfl 2 rfl ?_
      refine w_bipush (v := 8) dX12_sheet_12 (by decide) ?_
      refine w_icmp_eq (tgt := 36) dX12_sheet_14 (by decide) (rfl : u.toInt = u.toInt) li_8 (fun h36_ => ?_) (fun h36_ => ?_)
      · refine w_iload_n dX12_sheet_36 rfl 2 rfl ?_
        refine w_if_eq (tgt := 51) dX12_sheet_37 (by decide) (rfl : u.toInt = u.toInt) (fun h9 => (lf_c_X12_sheet_15 u h6_ h36_ h9).elim) (fun h37_ => ?_)
        refine w_iload_n dX12_sheet_40 rfl 3 rfl ?_
        refine w_if_ge (tgt := 51) dX12_sheet_41 (by decide) (rfl : t.toInt = t.toInt) (fun h38_ => ?_) (fun h38_ => ?_)
        · refine w_iload_n dX12_sheet_51 rfl 2 rfl ?_
          refine w_if_eq (tgt := 68) dX12_sheet_52 (by decide) (rfl : u.toInt = u.toInt) (fun h9 => (lf_c_X12_sheet_16 u h6_ h36_ h37_ h9).elim) (fun h39_ => ?_)
          refine w_iload_n dX12_sheet_55 rfl 3 rfl ?_
          refine w_bipush (v := 24) dX12_sheet_56 (by decide) ?_
          refine w_icmp_le (tgt := 68) dX12_sheet_58 (by decide) (rfl : t.toInt = t.toInt) li_24 (fun h40_ => ?_) (fun h40_ => ?_)
          · refine w_aload_n dX12_sheet_68 rfl 0 rfl ?_
            refine w_getR (c' := (66, 0, 0)) fl_RX12_72 rfl rfl ic_12 dX12_sheet_69 rfl ?_
            refine w_iload_n dX12_sheet_72 rfl 1 rfl ?_
            refine w_iload_n dX12_sheet_73 rfl 2 rfl ?_
            refine w_iast DD_nd rfl rfl ic_66 (rfl : v.toInt = v.toInt) (lf_c_X12_sheet_17 v h4_) dX12_sheet_74 (fun j43_ h44_ M41_ hM42_ => ?_)
            have hI45_ := hIz.put hM42_ ⟨trivial, Or.inr (by decide)⟩
            have hF46_ := hFz.put hM42_ (Or.inl ⟨rfl, rfl⟩)
            refine w_aload_n dX12_sheet_75 rfl 0 rfl ?_
            refine w_getR (c' := (67, 0, 0)) fl_RX12_75 rfl rfl ic_12 dX12_sheet_76 rfl ?_
            refine w_iload_n dX12_sheet_79 rfl 1 rfl ?_
            refine w_iload_n dX12_sheet_80 rfl 2 rfl ?_
            refine w_if_ne (tgt := 88) dX12_sheet_81 (by decide) (rfl : u.toInt = u.toInt) (fun h47_ => ?_) (fun h9 => (lf_c_X12_sheet_18 M41_ Mz v u j43_ h4_ h6_ h36_ h37_ h39_ h44_ hM42_ h9).elim)
            refine w_iload_n dX12_sheet_88 rfl 3 rfl ?_
            refine w_iast DD_nd rfl rfl ic_67 (rfl : v.toInt = v.toInt) (lf_c_X12_sheet_19 M41_ Mz v u j43_ h4_ h6_ h36_ h37_ h39_ h44_ hM42_ h47_) dX12_sheet_89 (fun j50_ h51_ M48_ hM49_ => ?_)
            have hI52_ := hI45_.put hM49_ ⟨(lf_c_X12_sheet_20 M41_ M48_ Mz v u t j43_ j50_ h4_ h6_ h36_ h37_ h38_ h39_ h40_ h44_ hM42_ h47_ h51_ hM49_), Or.inr (by decide)⟩
            have hF53_ := hF46_.put hM49_ (Or.inr (Or.inl ⟨rfl, rfl⟩))
            refine w_iconst (v := 0) dX12_sheet_90 (by decide) ?_
            refine w_istore (ls' := [(4, vI 0), (0, vR (12, 0, 0)), (1, vI v), (2, vI u), (3, vI t)]) dX12_sheet_91 (by decide) rfl ?_
            have lp54_ : ∀ (nn_93 : Nat) (M_93 : mM) (hI_93 : InvD M_93) (hF_93 : FR (S_c_X12_sheet) Mz M_93) (v4_93 : Int32) (hv0_93 : 0 ≤ v4_93.toInt) (hv1_93 : v4_93.toInt ≤ 24), (2147483648 - v4_93.toInt).toNat < nn_93 → WP DD l G cy ad yX12_sheet cX12_sheet 5 (some .int) (d + 2) 93 [(4, vI v4_93), (0, vR (12, 0, 0)), (1, vI v), (2, vI u), (3, vI t)] [] M_93 (fun r M' => InvD M' ∧ FR (S_c_X12_sheet) Mz M' ∧ (((¬ (0 ≤ v.toInt ∧ v.toInt ≤ 3) ∨ (¬ u.toInt = 0 ∧ ¬ u.toInt = 8 ∧ ¬ u.toInt = 16 ∧ ¬ u.toInt = 32)) ∧ r.toInt = -1000001) ∨ ((0 ≤ v.toInt ∧ v.toInt ≤ 3) ∧ (u.toInt = 0 ∨ u.toInt = 8 ∨ u.toInt = 16 ∨ u.toInt = 32) ∧ ((¬ u.toInt = 0 ∧ t.toInt < 0 ∧ r.toInt = -1000003) ∨ (¬ u.toInt = 0 ∧ 24 < t.toInt ∧ r.toInt = -1000001) ∨ ((u.toInt = 0 ∨ (0 ≤ t.toInt ∧ t.toInt ≤ 24)) ∧ r.toInt = 1))))) := by
              intro nn_93
              induction nn_93 with
              | zero => intro M_93 hI_93 hF_93 v4_93 hv0_93 hv1_93 hm_93; exact absurd hm_93 (Nat.not_lt_zero _)
              | succ nn_93 ih_93 =>
                intro M_93 hI_93 hF_93 v4_93 hv0_93 hv1_93 hm_93
                refine w_iload dX12_sheet_93 0 rfl ?_
                refine w_bipush (v := 24) dX12_sheet_95 (by decide) ?_
                refine w_icmp_ge (tgt := 119) dX12_sheet_97 (by decide) (rfl : v4_93.toInt = v4_93.toInt) li_24 (fun h55_ => ?_) (fun h55_ => ?_)
                · refine w_iconst (v := 1) dX12_sheet_119 (by decide) ?_
                  exact w_iret rfl dX12_sheet_120 ⟨hI_93, hF_93, (lf_c_X12_sheet_21 M41_ M48_ Mz v u t j43_ j50_ h4_ h6_ h36_ h37_ h38_ h39_ h40_ h44_ hM42_ h47_ h51_ hM49_)⟩
                · refine w_aload_n dX12_sheet_100 rfl 1 rfl ?_
                  refine w_getR (c' := (68, 0, 0)) fl_RX12_78 rfl rfl ic_12 dX12_sheet_101 rfl ?_
                  refine w_bipush (v := 24) dX12_sheet_104 (by decide) ?_
                  refine w_iload_n dX12_sheet_106 rfl 2 rfl ?_
                  refine w_imulB dX12_sheet_107 li_24 (rfl : v.toInt = v.toInt) (lf_c_X12_sheet_22 M41_ M48_ Mz v u t j43_ j50_ h4_ h6_ h36_ h37_ h38_ h39_ h40_ h44_ hM42_ h47_ h51_ hM49_) (fun z56_ h57_ => ?_)
                  refine w_iload dX12_sheet_108 0 rfl ?_
                  refine w_iaddB dX12_sheet_110 (rfl : z56_.toInt = z56_.toInt) (rfl : v4_93.toInt = v4_93.toInt) (lf_c_X12_sheet_23 M41_ M48_ Mz v u t j43_ j50_ v4_93 z56_ h4_ h6_ h36_ h37_ h38_ h39_ h40_ h44_ hM42_ h47_ h51_ hM49_ hv0_93 hv1_93 h55_ h57_) (fun z58_ h59_ => ?_)
                  refine w_iconst (v := 0) dX12_sheet_111 (by decide) ?_
                  refine w_iast DD_nd rfl rfl ic_68 (rfl : z58_.toInt = z58_.toInt) (lf_c_X12_sheet_24 M41_ M48_ Mz v u t j43_ j50_ v4_93 z56_ z58_ h4_ h6_ h36_ h37_ h38_ h39_ h40_ h44_ hM42_ h47_ h51_ hM49_ hv0_93 hv1_93 h55_ h57_ h59_) dX12_sheet_112 (fun j62_ h63_ M60_ hM61_ => ?_)
                  have hI64_ := hI_93.put hM61_ ⟨trivial, Or.inr (by decide)⟩
                  have hF65_ := hF_93.put hM61_ (Or.inr (Or.inr (Or.inl ⟨rfl, rfl⟩)))
                  refine w_iincB (j := 0) (f := fun z66_ => [(4, vI z66_), (0, vR (12, 0, 0)), (1, vI v), (2, vI u), (3, vI t)]) dX12_sheet_113 rfl (by decide) (fun _ => rfl) (rfl : v4_93.toInt = v4_93.toInt) li_1 (lf_c_X12_sheet_25 M41_ M48_ M60_ M_93 Mz v u t j43_ j50_ v4_93 z56_ z58_ j62_ h4_ h6_ h36_ h37_ h38_ h39_ h40_ h44_ hM42_ h47_ h51_ hM49_ hv0_93 hv1_93 h55_ h57_ h59_ h63_ hM61_) (fun z66_ h67_ => ?_)
                  refine w_goto (tgt := 93) dX12_sheet_116 (by decide) ?_
                  refine w_loc (ls' := [(4, vI z66_), (0, vR (12, 0, 0)), (1, vI v), (2, vI u), (3, vI t)]) [0, 1, 2, 3, 4] rfl ?_
                  exact ih_93 M60_ hI64_ hF65_ z66_ (lf_c_X12_sheet_26 M41_ M48_ M60_ M_93 Mz v u t j43_ j50_ v4_93 z56_ z58_ j62_ z66_ h4_ h6_ h36_ h37_ h38_ h39_ h40_ h44_ hM42_ h47_ h51_ hM49_ hv0_93 hv1_93 h55_ h57_ h59_ h63_ hM61_ h67_) (lf_c_X12_sheet_27 M41_ M48_ M60_ M_93 Mz v u t j43_ j50_ v4_93 z56_ z58_ j62_ z66_ h4_ h6_ h36_ h37_ h38_ h39_ h40_ h44_ hM42_ h47_ h51_ hM49_ hv0_93 hv1_93 h55_ h57_ h59_ h63_ hM61_ h67_) (Nat.lt_of_lt_of_le (lf_c_X12_sheet_28 M41_ M48_ M60_ M_93 Mz v u t j43_ j50_ v4_93 z56_ z58_ j62_ z66_ h4_ h6_ h36_ h37_ h38_ h39_ h40_ h44_ hM42_ h47_ h51_ hM49_ hv0_93 hv1_93 h55_ h57_ h59_ h63_ hM61_ h67_) (Nat.le_of_lt_succ hm_93))
            exact lp54_ _ M48_ hI52_ hF53_ 0 (lf_c_X12_sheet_29 ) (lf_c_X12_sheet_30 ) (Nat.lt_succ_self _)
          · refine w_aload_n dX12_sheet_61 rfl 0 rfl ?_
            refine w_ldc (v := (-1000001)) m_1433 dX12_sheet_62 ?_
            refine w_callV (as := [vI (-1000001)]) (rest := []) (c_X12_finding l G cy ad (d + 1) (-1000001) Mz hIz (by first | decide | (unfold vF; omega) | (unfold vRw; omega))) kV_X12_finding (by decide +kernel) (Nat.le_of_ble_eq_true rfl) m_1434 rfl rfl rfl ic_12 rfl rfl (by decide) (Nat.le_of_ble_eq_true rfl) dX12_sheet_64 (fun r68_ M69_ q70_ => ?_)
            obtain ⟨hI72_, hF73_, h71_⟩ := q70_
            have hF74_ := hFz.tr hF73_ (fun c k => (fun h => h.elim (fun h => (Or.inr (Or.inr (Or.inr (Or.inl ⟨h.1, h.2⟩))))) (fun h => h.elim)))
            simp only [li_m1000001] at h71_
            exact w_iret rfl dX12_sheet_67 ⟨hI72_, hF74_, (lf_c_X12_sheet_31 v u t r68_ h4_ h6_ h36_ h37_ h38_ h39_ h40_ h71_)⟩
        · refine w_aload_n dX12_sheet_44 rfl 0 rfl ?_
          refine w_ldc (v := (-1000003)) m_1455 dX12_sheet_45 ?_
          refine w_callV (as := [vI (-1000003)]) (rest := []) (c_X12_finding l G cy ad (d + 1) (-1000003) Mz hIz (by first | decide | (unfold vF; omega) | (unfold vRw; omega))) kV_X12_finding (by decide +kernel) (Nat.le_of_ble_eq_true rfl) m_1434 rfl rfl rfl ic_12 rfl rfl (by decide) (Nat.le_of_ble_eq_true rfl) dX12_sheet_47 (fun r75_ M76_ q77_ => ?_)
          obtain ⟨hI79_, hF80_, h78_⟩ := q77_
          have hF81_ := hFz.tr hF80_ (fun c k => (fun h => h.elim (fun h => (Or.inr (Or.inr (Or.inr (Or.inl ⟨h.1, h.2⟩))))) (fun h => h.elim)))
          simp only [li_m1000003] at h78_
          exact w_iret rfl dX12_sheet_50 ⟨hI79_, hF81_, (lf_c_X12_sheet_32 v u t r75_ h4_ h6_ h36_ h37_ h38_ h78_)⟩
      · refine w_iload_n dX12_sheet_17 rfl 2 rfl ?_
        refine w_bipush (v := 16) dX12_sheet_18 (by decide) ?_
        refine w_icmp_eq (tgt := 36) dX12_sheet_20 (by decide) (rfl : u.toInt = u.toInt) li_16 (fun h82_ => ?_) (fun h82_ => ?_)
        · refine w_iload_n dX12_sheet_36 rfl 2 rfl ?_
          refine w_if_eq (tgt := 51) dX12_sheet_37 (by decide) (rfl : u.toInt = u.toInt) (fun h9 => (lf_c_X12_sheet_33 u h6_ h36_ h82_ h9).elim) (fun h83_ => ?_)
          refine w_iload_n dX12_sheet_40 rfl 3 rfl ?_
          refine w_if_ge (tgt := 51) dX12_sheet_41 (by decide) (rfl : t.toInt = t.toInt) (fun h84_ => ?_) (fun h84_ => ?_)
          · refine w_iload_n dX12_sheet_51 rfl 2 rfl ?_
            refine w_if_eq (tgt := 68) dX12_sheet_52 (by decide) (rfl : u.toInt = u.toInt) (fun h9 => (lf_c_X12_sheet_34 u h6_ h36_ h82_ h83_ h9).elim) (fun h85_ => ?_)
            refine w_iload_n dX12_sheet_55 rfl 3 rfl ?_
            refine w_bipush (v := 24) dX12_sheet_56 (by decide) ?_
            refine w_icmp_le (tgt := 68) dX12_sheet_58 (by decide) (rfl : t.toInt = t.toInt) li_24 (fun h86_ => ?_) (fun h86_ => ?_)
            · refine w_aload_n dX12_sheet_68 rfl 0 rfl ?_
              refine w_getR (c' := (66, 0, 0)) fl_RX12_72 rfl rfl ic_12 dX12_sheet_69 rfl ?_
              refine w_iload_n dX12_sheet_72 rfl 1 rfl ?_
              refine w_iload_n dX12_sheet_73 rfl 2 rfl ?_
              refine w_iast DD_nd rfl rfl ic_66 (rfl : v.toInt = v.toInt) (lf_c_X12_sheet_35 v h4_) dX12_sheet_74 (fun j89_ h90_ M87_ hM88_ => ?_)
              have hI91_ := hIz.put hM88_ ⟨trivial, Or.inr (by decide)⟩
              have hF92_ := hFz.put hM88_ (Or.inl ⟨rfl, rfl⟩)
              refine w_aload_n dX12_sheet_75 rfl 0 rfl ?_
              refine w_getR (c' := (67, 0, 0)) fl_RX12_75 rfl rfl ic_12 dX12_sheet_76 rfl ?_
              refine w_iload_n dX12_sheet_79 rfl 1 rfl ?_
              refine w_iload_n dX12_sheet_80 rfl 2 rfl ?_
              refine w_if_ne (tgt := 88) dX12_sheet_81 (by decide) (rfl : u.toInt = u.toInt) (fun h93_ => ?_) (fun h9 => (lf_c_X12_sheet_36 M87_ Mz v u j89_ h4_ h6_ h36_ h82_ h83_ h85_ h90_ hM88_ h9).elim)
              refine w_iload_n dX12_sheet_88 rfl 3 rfl ?_
              refine w_iast DD_nd rfl rfl ic_67 (rfl : v.toInt = v.toInt) (lf_c_X12_sheet_37 M87_ Mz v u j89_ h4_ h6_ h36_ h82_ h83_ h85_ h90_ hM88_ h93_) dX12_sheet_89 (fun j96_ h97_ M94_ hM95_ => ?_)
              have hI98_ := hI91_.put hM95_ ⟨(lf_c_X12_sheet_38 M87_ M94_ Mz v u t j89_ j96_ h4_ h6_ h36_ h82_ h83_ h84_ h85_ h86_ h90_ hM88_ h93_ h97_ hM95_), Or.inr (by decide)⟩
              have hF99_ := hF92_.put hM95_ (Or.inr (Or.inl ⟨rfl, rfl⟩))
              refine w_iconst (v := 0) dX12_sheet_90 (by decide) ?_
              refine w_istore (ls' := [(4, vI 0), (0, vR (12, 0, 0)), (1, vI v), (2, vI u), (3, vI t)]) dX12_sheet_91 (by decide) rfl ?_
              have lp100_ : ∀ (nn_93 : Nat) (M_93 : mM) (hI_93 : InvD M_93) (hF_93 : FR (S_c_X12_sheet) Mz M_93) (v4_93 : Int32) (hv0_93 : 0 ≤ v4_93.toInt) (hv1_93 : v4_93.toInt ≤ 24), (2147483648 - v4_93.toInt).toNat < nn_93 → WP DD l G cy ad yX12_sheet cX12_sheet 5 (some .int) (d + 2) 93 [(4, vI v4_93), (0, vR (12, 0, 0)), (1, vI v), (2, vI u), (3, vI t)] [] M_93 (fun r M' => InvD M' ∧ FR (S_c_X12_sheet) Mz M' ∧ (((¬ (0 ≤ v.toInt ∧ v.toInt ≤ 3) ∨ (¬ u.toInt = 0 ∧ ¬ u.toInt = 8 ∧ ¬ u.toInt = 16 ∧ ¬ u.toInt = 32)) ∧ r.toInt = -1000001) ∨ ((0 ≤ v.toInt ∧ v.toInt ≤ 3) ∧ (u.toInt = 0 ∨ u.toInt = 8 ∨ u.toInt = 16 ∨ u.toInt = 32) ∧ ((¬ u.toInt = 0 ∧ t.toInt < 0 ∧ r.toInt = -1000003) ∨ (¬ u.toInt = 0 ∧ 24 < t.toInt ∧ r.toInt = -1000001) ∨ ((u.toInt = 0 ∨ (0 ≤ t.toInt ∧ t.toInt ≤ 24)) ∧ r.toInt = 1))))) := by
                intro nn_93
                induction nn_93 with
                | zero => intro M_93 hI_93 hF_93 v4_93 hv0_93 hv1_93 hm_93; exact absurd hm_93 (Nat.not_lt_zero _)
                | succ nn_93 ih_93 =>
                  intro M_93 hI_93 hF_93 v4_93 hv0_93 hv1_93 hm_93
                  refine w_iload dX12_sheet_93 0 rfl ?_
                  refine w_bipush (v := 24) dX12_sheet_95 (by decide) ?_
                  refine w_icmp_ge (tgt := 119) dX12_sheet_97 (by decide) (rfl : v4_93.toInt = v4_93.toInt) li_24 (fun h101_ => ?_) (fun h101_ => ?_)
                  · refine w_iconst (v := 1) dX12_sheet_119 (by decide) ?_
                    exact w_iret rfl dX12_sheet_120 ⟨hI_93, hF_93, (lf_c_X12_sheet_39 M87_ M94_ Mz v u t j89_ j96_ h4_ h6_ h36_ h82_ h83_ h84_ h85_ h86_ h90_ hM88_ h93_ h97_ hM95_)⟩
                  · refine w_aload_n dX12_sheet_100 rfl 1 rfl ?_
                    refine w_getR (c' := (68, 0, 0)) fl_RX12_78 rfl rfl ic_12 dX12_sheet_101 rfl ?_
                    refine w_bipush (v := 24) dX12_sheet_104 (by decide) ?_
                    refine w_iload_n dX12_sheet_106 rfl 2 rfl ?_
                    refine w_imulB dX12_sheet_107 li_24 (rfl : v.toInt = v.toInt) (lf_c_X12_sheet_40 M87_ M94_ Mz v u t j89_ j96_ h4_ h6_ h36_ h82_ h83_ h84_ h85_ h86_ h90_ hM88_ h93_ h97_ hM95_) (fun z102_ h103_ => ?_)
                    refine w_iload dX12_sheet_108 0 rfl ?_
                    refine w_iaddB dX12_sheet_110 (rfl : z102_.toInt = z102_.toInt) (rfl : v4_93.toInt = v4_93.toInt) (lf_c_X12_sheet_41 M87_ M94_ Mz v u t j89_ j96_ v4_93 z102_ h4_ h6_ h36_ h82_ h83_ h84_ h85_ h86_ h90_ hM88_ h93_ h97_ hM95_ hv0_93 hv1_93 h101_ h103_) (fun z104_ h105_ => ?_)
                    refine w_iconst (v := 0) dX12_sheet_111 (by decide) ?_
                    refine w_iast DD_nd rfl rfl ic_68 (rfl : z104_.toInt = z104_.toInt) (lf_c_X12_sheet_42 M87_ M94_ Mz v u t j89_ j96_ v4_93 z102_ z104_ h4_ h6_ h36_ h82_ h83_ h84_ h85_ h86_ h90_ hM88_ h93_ h97_ hM95_ hv0_93 hv1_93 h101_ h103_ h105_) dX12_sheet_112 (fun j108_ h109_ M106_ hM107_ => ?_)
                    have hI110_ := hI_93.put hM107_ ⟨trivial, Or.inr (by decide)⟩
                    have hF111_ := hF_93.put hM107_ (Or.inr (Or.inr (Or.inl ⟨rfl, rfl⟩)))
                    refine w_iincB (j := 0) (f := fun z112_ => [(4, vI z112_), (0, vR (12, 0, 0)), (1, vI v), (2, vI u), (3, vI t)]) dX12_sheet_113 rfl (by decide) (fun _ => rfl) (rfl : v4_93.toInt = v4_93.toInt) li_1 (lf_c_X12_sheet_43 M106_ M87_ M94_ M_93 Mz v u t j89_ j96_ v4_93 z102_ z104_ j108_ h4_ h6_ h36_ h82_ h83_ h84_ h85_ h86_ h90_ hM88_ h93_ h97_ hM95_ hv0_93 hv1_93 h101_ h103_ h105_ h109_ hM107_) (fun z112_ h113_ => ?_)
                    refine w_goto (tgt := 93) dX12_sheet_116 (by decide) ?_
                    refine w_loc (ls' := [(4, vI z112_), (0, vR (12, 0, 0)), (1, vI v), (2, vI u), (3, vI t)]) [0, 1, 2, 3, 4] rfl ?_
                    exact ih_93 M106_ hI110_ hF111_ z112_ (lf_c_X12_sheet_44 M106_ M87_ M94_ M_93 Mz v u t j89_ j96_ v4_93 z102_ z104_ j108_ z112_ h4_ h6_ h36_ h82_ h83_ h84_ h85_ h86_ h90_ hM88_ h93_ h97_ hM95_ hv0_93 hv1_93 h101_ h103_ h105_ h109_ hM107_ h113_) (lf_c_X12_sheet_45 M106_ M87_ M94_ M_93 Mz v u t j89_ j96_ v4_93 z102_ z104_ j108_ z112_ h4_ h6_ h36_ h82_ h83_ h84_ h85_ h86_ h90_ hM88_ h93_ h97_ hM95_ hv0_93 hv1_93 h101_ h103_ h105_ h109_ hM107_ h113_) (Nat.lt_of_lt_of_le (lf_c_X12_sheet_46 M106_ M87_ M94_ M_93 Mz v u t j89_ j96_ v4_93 z102_ z104_ j108_ z112_ h4_ h6_ h36_ h82_ h83_ h84_ h85_ h86_ h90_ hM88_ h93_ h97_ hM95_ hv0_93 hv1_93 h101_ h103_ h105_ h109_ hM107_ h113_) (Nat.le_of_lt_succ hm_93))
              exact lp100_ _ M94_ hI98_ hF99_ 0 (lf_c_X12_sheet_47 ) (lf_c_X12_sheet_48 ) (Nat.lt_succ_self _)
            · refine w_aload_n dX12_sheet_61 rfl 0 rfl ?_
              refine w_ldc (v := (-1000001)) m_1433 dX12_sheet_62 ?_
              refine w_callV (as := [vI (-1000001)]) (rest := []) (c_X12_finding l G cy ad (d + 1) (-1000001) Mz hIz (by first | decide | (unfold vF; omega) | (unfold vRw; omega))) kV_X12_finding (by decide +kernel) (Nat.le_of_ble_eq_true rfl) m_1434 rfl rfl rfl ic_12 rfl rfl (by decide) (Nat.le_of_ble_eq_true rfl) dX12_sheet_64 (fun r114_ M115_ q116_ => ?_)
              obtain ⟨hI118_, hF119_, h117_⟩ := q116_
              have hF120_ := hFz.tr hF119_ (fun c k => (fun h => h.elim (fun h => (Or.inr (Or.inr (Or.inr (Or.inl ⟨h.1, h.2⟩))))) (fun h => h.elim)))
              simp only [li_m1000001] at h117_
              exact w_iret rfl dX12_sheet_67 ⟨hI118_, hF120_, (lf_c_X12_sheet_49 v u t r114_ h4_ h6_ h36_ h82_ h83_ h84_ h85_ h86_ h117_)⟩
          · refine w_aload_n dX12_sheet_44 rfl 0 rfl ?_
            refine w_ldc (v := (-1000003)) m_1455 dX12_sheet_45 ?_
            refine w_callV (as := [vI (-1000003)]) (rest := []) (c_X12_finding l G cy ad (d + 1) (-1000003) Mz hIz (by first | decide | (unfold vF; omega) | (unfold vRw; omega))) kV_X12_finding (by decide +kernel) (Nat.le_of_ble_eq_true rfl) m_1434 rfl rfl rfl ic_12 rfl rfl (by decide) (Nat.le_of_ble_eq_true rfl) dX12_sheet_47 (fun r121_ M122_ q123_ => ?_)
            obtain ⟨hI125_, hF126_, h124_⟩ := q123_
            have hF127_ := hFz.tr hF126_ (fun c k => (fun h => h.elim (fun h => (Or.inr (Or.inr (Or.inr (Or.inl ⟨h.1, h.2⟩))))) (fun h => h.elim)))
            simp only [li_m1000003] at h124_
            exact w_iret rfl dX12_sheet_50 ⟨hI125_, hF127_, (lf_c_X12_sheet_50 v u t r121_ h4_ h6_ h36_ h82_ h83_ h84_ h124_)⟩
        · refine w_iload_n dX12_sheet_23 rfl 2 rfl ?_
          refine w_bipush (v := 32) dX12_sheet_24 (by decide) ?_
          refine w_icmp_eq (tgt := 36) dX12_sheet_26 (by decide) (rfl : u.toInt = u.toInt) li_32 (fun h128_ => ?_) (fun h128_ => ?_)
          · refine w_iload_n dX12_sheet_36 rfl 2 rfl ?_
            refine w_if_eq (tgt := 51) dX12_sheet_37 (by decide) (rfl : u.toInt = u.toInt) (fun h9 => (lf_c_X12_sheet_51 u h6_ h36_ h82_ h128_ h9).elim) (fun h129_ => ?_)
            refine w_iload_n dX12_sheet_40 rfl 3 rfl ?_
            refine w_if_ge (tgt := 51) dX12_sheet_41 (by decide) (rfl : t.toInt = t.toInt) (fun h130_ => ?_) (fun h130_ => ?_)
            · refine w_iload_n dX12_sheet_51 rfl 2 rfl ?_
              refine w_if_eq (tgt := 68) dX12_sheet_52 (by decide) (rfl : u.toInt = u.toInt) (fun h9 => (lf_c_X12_sheet_52 u h6_ h36_ h82_ h128_ h129_ h9).elim) (fun h131_ => ?_)
              refine w_iload_n dX12_sheet_55 rfl 3 rfl ?_
              refine w_bipush (v := 24) dX12_sheet_56 (by decide) ?_
              refine w_icmp_le (tgt := 68) dX12_sheet_58 (by decide) (rfl : t.toInt = t.toInt) li_24 (fun h132_ => ?_) (fun h132_ => ?_)
              · refine w_aload_n dX12_sheet_68 rfl 0 rfl ?_
                refine w_getR (c' := (66, 0, 0)) fl_RX12_72 rfl rfl ic_12 dX12_sheet_69 rfl ?_
                refine w_iload_n dX12_sheet_72 rfl 1 rfl ?_
                refine w_iload_n dX12_sheet_73 rfl 2 rfl ?_
                refine w_iast DD_nd rfl rfl ic_66 (rfl : v.toInt = v.toInt) (lf_c_X12_sheet_53 v h4_) dX12_sheet_74 (fun j135_ h136_ M133_ hM134_ => ?_)
                have hI137_ := hIz.put hM134_ ⟨trivial, Or.inr (by decide)⟩
                have hF138_ := hFz.put hM134_ (Or.inl ⟨rfl, rfl⟩)
                refine w_aload_n dX12_sheet_75 rfl 0 rfl ?_
                refine w_getR (c' := (67, 0, 0)) fl_RX12_75 rfl rfl ic_12 dX12_sheet_76 rfl ?_
                refine w_iload_n dX12_sheet_79 rfl 1 rfl ?_
                refine w_iload_n dX12_sheet_80 rfl 2 rfl ?_
                refine w_if_ne (tgt := 88) dX12_sheet_81 (by decide) (rfl : u.toInt = u.toInt) (fun h139_ => ?_) (fun h9 => (lf_c_X12_sheet_54 M133_ Mz v u j135_ h4_ h6_ h36_ h82_ h128_ h129_ h131_ h136_ hM134_ h9).elim)
                refine w_iload_n dX12_sheet_88 rfl 3 rfl ?_
                refine w_iast DD_nd rfl rfl ic_67 (rfl : v.toInt = v.toInt) (lf_c_X12_sheet_55 M133_ Mz v u j135_ h4_ h6_ h36_ h82_ h128_ h129_ h131_ h136_ hM134_ h139_) dX12_sheet_89 (fun j142_ h143_ M140_ hM141_ => ?_)
                have hI144_ := hI137_.put hM141_ ⟨(lf_c_X12_sheet_56 M133_ M140_ Mz v u t j135_ j142_ h4_ h6_ h36_ h82_ h128_ h129_ h130_ h131_ h132_ h136_ hM134_ h139_ h143_ hM141_), Or.inr (by decide)⟩
                have hF145_ := hF138_.put hM141_ (Or.inr (Or.inl ⟨rfl, rfl⟩))
                refine w_iconst (v := 0) dX12_sheet_90 (by decide) ?_
                refine w_istore (ls' := [(4, vI 0), (0, vR (12, 0, 0)), (1, vI v), (2, vI u), (3, vI t)]) dX12_sheet_91 (by decide) rfl ?_
                have lp146_ : ∀ (nn_93 : Nat) (M_93 : mM) (hI_93 : InvD M_93) (hF_93 : FR (S_c_X12_sheet) Mz M_93) (v4_93 : Int32) (hv0_93 : 0 ≤ v4_93.toInt) (hv1_93 : v4_93.toInt ≤ 24), (2147483648 - v4_93.toInt).toNat < nn_93 → WP DD l G cy ad yX12_sheet cX12_sheet 5 (some .int) (d + 2) 93 [(4, vI v4_93), (0, vR (12, 0, 0)), (1, vI v), (2, vI u), (3, vI t)] [] M_93 (fun r M' => InvD M' ∧ FR (S_c_X12_sheet) Mz M' ∧ (((¬ (0 ≤ v.toInt ∧ v.toInt ≤ 3) ∨ (¬ u.toInt = 0 ∧ ¬ u.toInt = 8 ∧ ¬ u.toInt = 16 ∧ ¬ u.toInt = 32)) ∧ r.toInt = -1000001) ∨ ((0 ≤ v.toInt ∧ v.toInt ≤ 3) ∧ (u.toInt = 0 ∨ u.toInt = 8 ∨ u.toInt = 16 ∨ u.toInt = 32) ∧ ((¬ u.toInt = 0 ∧ t.toInt < 0 ∧ r.toInt = -1000003) ∨ (¬ u.toInt = 0 ∧ 24 < t.toInt ∧ r.toInt = -1000001) ∨ ((u.toInt = 0 ∨ (0 ≤ t.toInt ∧ t.toInt ≤ 24)) ∧ r.toInt = 1))))) := by
                  intro nn_93
                  induction nn_93 with
                  | zero => intro M_93 hI_93 hF_93 v4_93 hv0_93 hv1_93 hm_93; exact absurd hm_93 (Nat.not_lt_zero _)
                  | succ nn_93 ih_93 =>
                    intro M_93 hI_93 hF_93 v4_93 hv0_93 hv1_93 hm_93
                    refine w_iload dX12_sheet_93 0 rfl ?_
                    refine w_bipush (v := 24) dX12_sheet_95 (by decide) ?_
                    refine w_icmp_ge (tgt := 119) dX12_sheet_97 (by decide) (rfl : v4_93.toInt = v4_93.toInt) li_24 (fun h147_ => ?_) (fun h147_ => ?_)
                    · refine w_iconst (v := 1) dX12_sheet_119 (by decide) ?_
                      exact w_iret rfl dX12_sheet_120 ⟨hI_93, hF_93, (lf_c_X12_sheet_57 M133_ M140_ Mz v u t j135_ j142_ h4_ h6_ h36_ h82_ h128_ h129_ h130_ h131_ h132_ h136_ hM134_ h139_ h143_ hM141_)⟩
                    · refine w_aload_n dX12_sheet_100 rfl 1 rfl ?_
                      refine w_getR (c' := (68, 0, 0)) fl_RX12_78 rfl rfl ic_12 dX12_sheet_101 rfl ?_
                      refine w_bipush (v := 24) dX12_sheet_104 (by decide) ?_
                      refine w_iload_n dX12_sheet_106 rfl 2 rfl ?_
                      refine w_imulB dX12_sheet_107 li_24 (rfl : v.toInt = v.toInt) (lf_c_X12_sheet_58 M133_ M140_ Mz v u t j135_ j142_ h4_ h6_ h36_ h82_ h128_ h129_ h130_ h131_ h132_ h136_ hM134_ h139_ h143_ hM141_) (fun z148_ h149_ => ?_)
                      refine w_iload dX12_sheet_108 0 rfl ?_
                      refine w_iaddB dX12_sheet_110 (rfl : z148_.toInt = z148_.toInt) (rfl : v4_93.toInt = v4_93.toInt) (lf_c_X12_sheet_59 M133_ M140_ Mz v u t j135_ j142_ v4_93 z148_ h4_ h6_ h36_ h82_ h128_ h129_ h130_ h131_ h132_ h136_ hM134_ h139_ h143_ hM141_ hv0_93 hv1_93 h147_ h149_) (fun z150_ h151_ => ?_)
                      refine w_iconst (v := 0) dX12_sheet_111 (by decide) ?_
                      refine w_iast DD_nd rfl rfl ic_68 (rfl : z150_.toInt = z150_.toInt) (lf_c_X12_sheet_60 M133_ M140_ Mz v u t j135_ j142_ v4_93 z148_ z150_ h4_ h6_ h36_ h82_ h128_ h129_ h130_ h131_ h132_ h136_ hM134_ h139_ h143_ hM141_ hv0_93 hv1_93 h147_ h149_ h151_) dX12_sheet_112 (fun j154_ h155_ M152_ hM153_ => ?_)
                      have hI156_ := hI_93.put hM153_ ⟨trivial, Or.inr (by decide)⟩
                      have hF157_ := hF_93.put hM153_ (Or.inr (Or.inr (Or.inl ⟨rfl, rfl⟩)))
                      refine w_iincB (j := 0) (f := fun z158_ => [(4, vI z158_), (0, vR (12, 0, 0)), (1, vI v), (2, vI u), (3, vI t)]) dX12_sheet_113 rfl (by decide) (fun _ => rfl) (rfl : v4_93.toInt = v4_93.toInt) li_1 (lf_c_X12_sheet_61 M133_ M140_ M152_ M_93 Mz v u t j135_ j142_ v4_93 z148_ z150_ j154_ h4_ h6_ h36_ h82_ h128_ h129_ h130_ h131_ h132_ h136_ hM134_ h139_ h143_ hM141_ hv0_93 hv1_93 h147_ h149_ h151_ h155_ hM153_) (fun z158_ h159_ => ?_)
                      refine w_goto (tgt := 93) dX12_sheet_116 (by decide) ?_
                      refine w_loc (ls' := [(4, vI z158_), (0, vR (12, 0, 0)), (1, vI v), (2, vI u), (3, vI t)]) [0, 1, 2, 3, 4] rfl ?_
                      exact ih_93 M152_ hI156_ hF157_ z158_ (lf_c_X12_sheet_62 M133_ M140_ M152_ M_93 Mz v u t j135_ j142_ v4_93 z148_ z150_ j154_ z158_ h4_ h6_ h36_ h82_ h128_ h129_ h130_ h131_ h132_ h136_ hM134_ h139_ h143_ hM141_ hv0_93 hv1_93 h147_ h149_ h151_ h155_ hM153_ h159_) (lf_c_X12_sheet_63 M133_ M140_ M152_ M_93 Mz v u t j135_ j142_ v4_93 z148_ z150_ j154_ z158_ h4_ h6_ h36_ h82_ h128_ h129_ h130_ h131_ h132_ h136_ hM134_ h139_ h143_ hM141_ hv0_93 hv1_93 h147_ h149_ h151_ h155_ hM153_ h159_) (Nat.lt_of_lt_of_le (lf_c_X12_sheet_64 M133_ M140_ M152_ M_93 Mz v u t j135_ j142_ v4_93 z148_ z150_ j154_ z158_ h4_ h6_ h36_ h82_ h128_ h129_ h130_ h131_ h132_ h136_ hM134_ h139_ h143_ hM141_ hv0_93 hv1_93 h147_ h149_ h151_ h155_ hM153_ h159_) (Nat.le_of_lt_succ hm_93))
                exact lp146_ _ M140_ hI144_ hF145_ 0 (lf_c_X12_sheet_65 ) (lf_c_X12_sheet_66 ) (Nat.lt_succ_self _)
              · refine w_aload_n dX12_sheet_61 rfl 0 rfl ?_
                refine w_ldc (v := (-1000001)) m_1433 dX12_sheet_62 ?_
                refine w_callV (as := [vI (-1000001)]) (rest := []) (c_X12_finding l G cy ad (d + 1) (-1000001) Mz hIz (by first | decide | (unfold vF; omega) | (unfold vRw; omega))) kV_X12_finding (by decide +kernel) (Nat.le_of_ble_eq_true rfl) m_1434 rfl rfl rfl ic_12 rfl rfl (by decide) (Nat.le_of_ble_eq_true rfl) dX12_sheet_64 (fun r160_ M161_ q162_ => ?_)
                obtain ⟨hI164_, hF165_, h163_⟩ := q162_
                have hF166_ := hFz.tr hF165_ (fun c k => (fun h => h.elim (fun h => (Or.inr (Or.inr (Or.inr (Or.inl ⟨h.1, h.2⟩))))) (fun h => h.elim)))
                simp only [li_m1000001] at h163_
                exact w_iret rfl dX12_sheet_67 ⟨hI164_, hF166_, (lf_c_X12_sheet_67 v u t r160_ h4_ h6_ h36_ h82_ h128_ h129_ h130_ h131_ h132_ h163_)⟩
            · refine w_aload_n dX12_sheet_44 rfl 0 rfl ?_
              refine w_ldc (v := (-1000003)) m_1455 dX12_sheet_45 ?_
              refine w_callV (as := [vI (-1000003)]) (rest := []) (c_X12_finding l G cy ad (d + 1) (-1000003) Mz hIz (by first | decide | (unfold vF; omega) | (unfold vRw; omega))) kV_X12_finding (by decide +kernel) (Nat.le_of_ble_eq_true rfl) m_1434 rfl rfl rfl ic_12 rfl rfl (by decide) (Nat.le_of_ble_eq_true rfl) dX12_sheet_47 (fun r167_ M168_ q169_ => ?_)
              obtain ⟨hI171_, hF172_, h170_⟩ := q169_
              have hF173_ := hFz.tr hF172_ (fun c k => (fun h => h.elim (fun h => (Or.inr (Or.inr (Or.inr (Or.inl ⟨h.1, h.2⟩))))) (fun h => h.elim)))
              simp only [li_m1000003] at h170_
              exact w_iret rfl dX12_sheet_50 ⟨hI171_, hF173_, (lf_c_X12_sheet_68 v u t r167_ h4_ h6_ h36_ h82_ h128_ h129_ h130_ h170_)⟩
          · refine w_aload_n dX12_sheet_29 rfl 0 rfl ?_
            refine w_ldc (v := (-1000001)) m_1433 dX12_sheet_30 ?_
            refine w_callV (as := [vI (-1000001)]) (rest := []) (c_X12_finding l G cy ad (d + 1) (-1000001) Mz hIz (by first | decide | (unfold vF; omega) | (unfold vRw; omega))) kV_X12_finding (by decide +kernel) (Nat.le_of_ble_eq_true rfl) m_1434 rfl rfl rfl ic_12 rfl rfl (by decide) (Nat.le_of_ble_eq_true rfl) dX12_sheet_32 (fun r174_ M175_ q176_ => ?_)
            obtain ⟨hI178_, hF179_, h177_⟩ := q176_
            have hF180_ := hFz.tr hF179_ (fun c k => (fun h => h.elim (fun h => (Or.inr (Or.inr (Or.inr (Or.inl ⟨h.1, h.2⟩))))) (fun h => h.elim)))
            simp only [li_m1000001] at h177_
            exact w_iret rfl dX12_sheet_35 ⟨hI178_, hF180_, (lf_c_X12_sheet_69 v u t r174_ h4_ h6_ h36_ h82_ h128_ h177_)⟩
  · refine w_if_eq (tgt := 29) dX12_sheet_4 (by decide) li_0 (fun h181_ => ?_) (fun h9 => (absurd h9 (by decide)))
    refine w_aload_n dX12_sheet_29 rfl 0 rfl ?_
    refine w_ldc (v := (-1000001)) m_1433 dX12_sheet_30 ?_
    refine w_callV (as := [vI (-1000001)]) (rest := []) (c_X12_finding l G cy ad (d + 1) (-1000001) Mz hIz (by first | decide | (unfold vF; omega) | (unfold vRw; omega))) kV_X12_finding (by decide +kernel) (Nat.le_of_ble_eq_true rfl) m_1434 rfl rfl rfl ic_12 rfl rfl (by decide) (Nat.le_of_ble_eq_true rfl) dX12_sheet_32 (fun r182_ M183_ q184_ => ?_)
    obtain ⟨hI186_, hF187_, h185_⟩ := q184_
    have hF188_ := hFz.tr hF187_ (fun c k => (fun h => h.elim (fun h => (Or.inr (Or.inr (Or.inr (Or.inl ⟨h.1, h.2⟩))))) (fun h => h.elim)))
    simp only [li_m1000001] at h185_
    exact w_iret rfl dX12_sheet_35 ⟨hI186_, hF188_, (lf_c_X12_sheet_70 v u t r182_ h4_ h185_)⟩
def S_c_X12_put : rf → Nat → Prop := fun c k => (c.1 = 68 ∧ c.2.1 = 0) ∨ (c.1 = 53 ∧ c.2.1 = 0) ∨ False
theorem lf_c_X12_put_0  (v : Int32) (h4_ : 0 ≤ v.toInt ∧ v.toInt ≤ 3) : 0 ≤ v.toInt ∧ v.toInt < ((4 : Nat) : Int) := by have r_v := rngI v; omega
theorem lf_c_X12_put_1 (Mz : mM) (v : Int32) (j8_ : Nat) (z6_ : Int32) (h4_ : 0 ≤ v.toInt ∧ v.toInt ≤ 3) (h9_ : (j8_ : Int) = v.toInt) (e7_ : z6_ = Mz.1 (66, 0, 0) j8_) (h10_ : ¬ z6_.toInt = 0) : 0 ≤ v.toInt ∧ v.toInt < ((4 : Nat) : Int) := by have r_v := rngI v; have r_z6_ := rngI z6_; subst e7_; omega
theorem lf_c_X12_put_2 (Mz : mM) (v : Int32) (j8_ : Nat) (z6_ : Int32) (j13_ : Nat) (z11_ : Int32) (h4_ : 0 ≤ v.toInt ∧ v.toInt ≤ 3) (h9_ : (j8_ : Int) = v.toInt) (e7_ : z6_ = Mz.1 (66, 0, 0) j8_) (h10_ : ¬ z6_.toInt = 0) (h14_ : (j13_ : Int) = v.toInt) (e12_ : z11_ = Mz.1 (67, 0, 0) j13_) (h15_ : 0 ≤ z11_.toInt ∧ z11_.toInt ≤ 24) : -2147483648 ≤ z11_.toInt - 1 ∧ z11_.toInt - 1 < 2147483648 := by have r_v := rngI v; have r_z6_ := rngI z6_; have r_z11_ := rngI z11_; subst e7_; subst e12_; omega
theorem lf_c_X12_put_3 (Mz : mM) (v : Int32) (u : Int32) (j8_ : Nat) (z6_ : Int32) (j13_ : Nat) (z11_ : Int32) (z16_ : Int32) (h4_ : 0 ≤ v.toInt ∧ v.toInt ≤ 3) (h9_ : (j8_ : Int) = v.toInt) (e7_ : z6_ = Mz.1 (66, 0, 0) j8_) (h10_ : ¬ z6_.toInt = 0) (h14_ : (j13_ : Int) = v.toInt) (e12_ : z11_ = Mz.1 (67, 0, 0) j13_) (h15_ : 0 ≤ z11_.toInt ∧ z11_.toInt ≤ 24) (h17_ : z16_.toInt = z11_.toInt - 1) (h21_ : 0 ≤ u.toInt ∧ u.toInt ≤ z16_.toInt) : -2147483648 ≤ 24 * v.toInt ∧ 24 * v.toInt < 2147483648 := by have r_v := rngI v; have r_u := rngI u; have r_z6_ := rngI z6_; have r_z11_ := rngI z11_; have r_z16_ := rngI z16_; subst e7_; subst e12_; omega
theorem lf_c_X12_put_4 (Mz : mM) (v : Int32) (u : Int32) (j8_ : Nat) (z6_ : Int32) (j13_ : Nat) (z11_ : Int32) (z16_ : Int32) (z23_ : Int32) (h4_ : 0 ≤ v.toInt ∧ v.toInt ≤ 3) (h9_ : (j8_ : Int) = v.toInt) (e7_ : z6_ = Mz.1 (66, 0, 0) j8_) (h10_ : ¬ z6_.toInt = 0) (h14_ : (j13_ : Int) = v.toInt) (e12_ : z11_ = Mz.1 (67, 0, 0) j13_) (h15_ : 0 ≤ z11_.toInt ∧ z11_.toInt ≤ 24) (h17_ : z16_.toInt = z11_.toInt - 1) (h21_ : 0 ≤ u.toInt ∧ u.toInt ≤ z16_.toInt) (h24_ : z23_.toInt = 24 * v.toInt) : 0 ≤ v.toInt ∧ v.toInt < ((4 : Nat) : Int) := by have r_v := rngI v; have r_u := rngI u; have r_z6_ := rngI z6_; have r_z11_ := rngI z11_; have r_z16_ := rngI z16_; have r_z23_ := rngI z23_; subst e7_; subst e12_; omega
theorem lf_c_X12_put_5 (Mz : mM) (v : Int32) (u : Int32) (j8_ : Nat) (z6_ : Int32) (j13_ : Nat) (z11_ : Int32) (z16_ : Int32) (z23_ : Int32) (j28_ : Nat) (z26_ : Int32) (h4_ : 0 ≤ v.toInt ∧ v.toInt ≤ 3) (h9_ : (j8_ : Int) = v.toInt) (e7_ : z6_ = Mz.1 (66, 0, 0) j8_) (h10_ : ¬ z6_.toInt = 0) (h14_ : (j13_ : Int) = v.toInt) (e12_ : z11_ = Mz.1 (67, 0, 0) j13_) (h15_ : 0 ≤ z11_.toInt ∧ z11_.toInt ≤ 24) (h17_ : z16_.toInt = z11_.toInt - 1) (h21_ : 0 ≤ u.toInt ∧ u.toInt ≤ z16_.toInt) (h24_ : z23_.toInt = 24 * v.toInt) (h29_ : (j28_ : Int) = v.toInt) (e27_ : z26_ = Mz.1 (66, 0, 0) j28_) (h30_ : ¬ z26_.toInt = 8) : 0 ≤ v.toInt ∧ v.toInt < ((4 : Nat) : Int) := by have r_v := rngI v; have r_u := rngI u; have r_z6_ := rngI z6_; have r_z11_ := rngI z11_; have r_z16_ := rngI z16_; have r_z23_ := rngI z23_; have r_z26_ := rngI z26_; subst e7_; subst e12_; subst e27_; omega
theorem lf_c_X12_put_6  (z25_ : Int32)  : 0 ≤ z25_.toInt ∧ z25_.toInt < ((96 : Nat) : Int) := by have r_z25_ := rngI z25_; omega
theorem lf_c_X12_put_7  (z25_ : Int32)  : 0 ≤ z25_.toInt ∧ z25_.toInt < ((96 : Nat) : Int) := by have r_z25_ := rngI z25_; omega
theorem lf_c_X12_put_8  (z25_ : Int32)  : 0 ≤ z25_.toInt ∧ z25_.toInt < ((96 : Nat) : Int) := by have r_z25_ := rngI z25_; omega
set_option maxHeartbeats 4000000 in
set_option maxRecDepth 100000 in
theorem c_X12_put (l : Launch) (G : va_G) (cy : Nat → ClassId) (ad : rf → Nat) (d : Nat) (v : Int32) (u : Int32) (t : Int32) (Mz : mM) (hIz : InvD Mz) : WP DD l G cy ad yX12_put cX12_put 4 (some .int) (d + 2) 0 [(0, vR (12, 0, 0)), (1, vI v), (2, vI u), (3, vI t)] [] Mz (fun r M' => InvD M' ∧ FR (S_c_X12_put) Mz M' ∧ True) := by
  have hFz : FR (S_c_X12_put) Mz Mz := FR.self
  refine w_iload_n dX12_put_0 rfl 1 rfl ?_
  refine w_callS (as := [vI v]) (rest := []) (c_X12_isSheet l G cy ad d v Mz hIz) kS_X12_isSheet (by decide +kernel) (Nat.le_of_ble_eq_true rfl) m_1497 rfl rfl (by decide) (Nat.le_of_ble_eq_true rfl) dX12_put_1 (fun r1_ M2_ q3_ => ?_)
  obtain ⟨rfl, h4_⟩ := q3_
  rcases h4_ with ⟨rfl, h4_⟩ | ⟨rfl, h4_⟩
  · refine w_if_ne (tgt := 14) dX12_put_4 (by decide) li_1 (fun h5_ => ?_) (fun h9 => (absurd h9 (by decide)))
    refine w_aload_n dX12_put_14 rfl 0 rfl ?_
    refine w_getR (c' := (66, 0, 0)) fl_RX12_72 rfl rfl ic_12 dX12_put_15 rfl ?_
    refine w_iload_n dX12_put_18 rfl 1 rfl ?_
    refine w_iald rfl rfl ic_66 (rfl : v.toInt = v.toInt) (lf_c_X12_put_0 v h4_) dX12_put_19 (fun j8_ h9_ z6_ e7_ => ?_)
    refine w_if_ne (tgt := 30) dX12_put_20 (by decide) (rfl : z6_.toInt = z6_.toInt) (fun h10_ => ?_) (fun h10_ => ?_)
    · refine w_iload_n dX12_put_30 rfl 2 rfl ?_
      refine w_iconst (v := 0) dX12_put_31 (by decide) ?_
      refine w_aload_n dX12_put_32 rfl 0 rfl ?_
      refine w_getR (c' := (67, 0, 0)) fl_RX12_75 rfl rfl ic_12 dX12_put_33 rfl ?_
      refine w_iload_n dX12_put_36 rfl 1 rfl ?_
      refine w_iald rfl rfl ic_67 (rfl : v.toInt = v.toInt) (lf_c_X12_put_1 Mz v j8_ z6_ h4_ h9_ e7_ h10_) dX12_put_37 (fun j13_ h14_ z11_ e12_ => ?_)
      have h15_ : 0 ≤ z11_.toInt ∧ z11_.toInt ≤ 24 := pn_67 hIz e12_
      refine w_iconst (v := 1) dX12_put_38 (by decide) ?_
      refine w_isubB dX12_put_39 (rfl : z11_.toInt = z11_.toInt) li_1 (lf_c_X12_put_2 Mz v j8_ z6_ j13_ z11_ h4_ h9_ e7_ h10_ h14_ e12_ h15_) (fun z16_ h17_ => ?_)
      refine w_callS (as := [vI u, vI 0, vI z16_]) (rest := []) (c_X12_within l G cy ad (d + 1) u 0 z16_ Mz hIz) kS_X12_within (by decide +kernel) (Nat.le_of_ble_eq_true rfl) m_1427 rfl rfl (by decide) (Nat.le_of_ble_eq_true rfl) dX12_put_40 (fun r18_ M19_ q20_ => ?_)
      obtain ⟨rfl, h21_⟩ := q20_
      rcases h21_ with ⟨rfl, h21_⟩ | ⟨rfl, h21_⟩
      · simp only [li_0] at h21_
        refine w_if_ne (tgt := 53) dX12_put_43 (by decide) li_1 (fun h22_ => ?_) (fun h9 => (absurd h9 (by decide)))
        refine w_aload_n dX12_put_53 rfl 0 rfl ?_
        refine w_getR (c' := (68, 0, 0)) fl_RX12_78 rfl rfl ic_12 dX12_put_54 rfl ?_
        refine w_bipush (v := 24) dX12_put_57 (by decide) ?_
        refine w_iload_n dX12_put_59 rfl 1 rfl ?_
        refine w_imulB dX12_put_60 li_24 (rfl : v.toInt = v.toInt) (lf_c_X12_put_3 Mz v u j8_ z6_ j13_ z11_ z16_ h4_ h9_ e7_ h10_ h14_ e12_ h15_ h17_ h21_) (fun z23_ h24_ => ?_)
        refine w_iload_n dX12_put_61 rfl 2 rfl ?_
        refine w_iadd dX12_put_62 (fun z25_ _ => ?_)
        refine w_aload_n dX12_put_63 rfl 0 rfl ?_
        refine w_getR (c' := (66, 0, 0)) fl_RX12_72 rfl rfl ic_12 dX12_put_64 rfl ?_
        refine w_iload_n dX12_put_67 rfl 1 rfl ?_
        refine w_iald rfl rfl ic_66 (rfl : v.toInt = v.toInt) (lf_c_X12_put_4 Mz v u j8_ z6_ j13_ z11_ z16_ z23_ h4_ h9_ e7_ h10_ h14_ e12_ h15_ h17_ h21_ h24_) dX12_put_68 (fun j28_ h29_ z26_ e27_ => ?_)
        refine w_bipush (v := 8) dX12_put_69 (by decide) ?_
        refine w_icmp_ne (tgt := 79) dX12_put_71 (by decide) (rfl : z26_.toInt = z26_.toInt) li_8 (fun h30_ => ?_) (fun h30_ => ?_)
        · refine w_aload_n dX12_put_79 rfl 0 rfl ?_
          refine w_getR (c' := (66, 0, 0)) fl_RX12_72 rfl rfl ic_12 dX12_put_80 rfl ?_
          refine w_iload_n dX12_put_83 rfl 1 rfl ?_
          refine w_iald rfl rfl ic_66 (rfl : v.toInt = v.toInt) (lf_c_X12_put_5 Mz v u j8_ z6_ j13_ z11_ z16_ z23_ j28_ z26_ h4_ h9_ e7_ h10_ h14_ e12_ h15_ h17_ h21_ h24_ h29_ e27_ h30_) dX12_put_84 (fun j33_ h34_ z31_ e32_ => ?_)
          refine w_bipush (v := 16) dX12_put_85 (by decide) ?_
          refine w_icmp_ne (tgt := 95) dX12_put_87 (by decide) (rfl : z31_.toInt = z31_.toInt) li_16 (fun h35_ => ?_) (fun h35_ => ?_)
          · refine w_iload_n dX12_put_95 rfl 3 rfl ?_
            refine w_iast DD_nd rfl rfl ic_68 (rfl : z25_.toInt = z25_.toInt) (lf_c_X12_put_6 z25_) dX12_put_96 (fun j38_ h39_ M36_ hM37_ => ?_)
            have hI40_ := hIz.put hM37_ ⟨trivial, Or.inr (by decide)⟩
            have hF41_ := hFz.put hM37_ (Or.inl ⟨rfl, rfl⟩)
            refine w_iconst (v := 1) dX12_put_97 (by decide) ?_
            exact w_iret rfl dX12_put_98 ⟨hI40_, hF41_, trivial⟩
          · refine w_iload_n dX12_put_90 rfl 3 rfl ?_
            refine w_i2s dX12_put_91 (fun z42_ h43_ => ?_)
            refine w_goto (tgt := 96) dX12_put_92 (by decide) ?_
            refine w_iast DD_nd rfl rfl ic_68 (rfl : z25_.toInt = z25_.toInt) (lf_c_X12_put_7 z25_) dX12_put_96 (fun j46_ h47_ M44_ hM45_ => ?_)
            have hI48_ := hIz.put hM45_ ⟨trivial, Or.inr (by decide)⟩
            have hF49_ := hFz.put hM45_ (Or.inl ⟨rfl, rfl⟩)
            refine w_iconst (v := 1) dX12_put_97 (by decide) ?_
            exact w_iret rfl dX12_put_98 ⟨hI48_, hF49_, trivial⟩
        · refine w_iload_n dX12_put_74 rfl 3 rfl ?_
          refine w_i2b dX12_put_75 (fun z50_ h51_ => ?_)
          refine w_goto (tgt := 96) dX12_put_76 (by decide) ?_
          refine w_iast DD_nd rfl rfl ic_68 (rfl : z25_.toInt = z25_.toInt) (lf_c_X12_put_8 z25_) dX12_put_96 (fun j54_ h55_ M52_ hM53_ => ?_)
          have hI56_ := hIz.put hM53_ ⟨trivial, Or.inr (by decide)⟩
          have hF57_ := hFz.put hM53_ (Or.inl ⟨rfl, rfl⟩)
          refine w_iconst (v := 1) dX12_put_97 (by decide) ?_
          exact w_iret rfl dX12_put_98 ⟨hI56_, hF57_, trivial⟩
      · simp only [li_0] at h21_
        refine w_if_ne (tgt := 53) dX12_put_43 (by decide) li_0 (fun h9 => (absurd h9 (by decide))) (fun h58_ => ?_)
        refine w_aload_n dX12_put_46 rfl 0 rfl ?_
        refine w_ldc (v := (-1000001)) m_1433 dX12_put_47 ?_
        refine w_callV (as := [vI (-1000001)]) (rest := []) (c_X12_finding l G cy ad (d + 1) (-1000001) Mz hIz (by first | decide | (unfold vF; omega) | (unfold vRw; omega))) kV_X12_finding (by decide +kernel) (Nat.le_of_ble_eq_true rfl) m_1434 rfl rfl rfl ic_12 rfl rfl (by decide) (Nat.le_of_ble_eq_true rfl) dX12_put_49 (fun r59_ M60_ q61_ => ?_)
        obtain ⟨hI63_, hF64_, h62_⟩ := q61_
        have hF65_ := hFz.tr hF64_ (fun c k => (fun h => h.elim (fun h => (Or.inr (Or.inl ⟨h.1, h.2⟩))) (fun h => h.elim)))
        simp only [li_m1000001] at h62_
        exact w_iret rfl dX12_put_52 ⟨hI63_, hF65_, trivial⟩
    · refine w_aload_n dX12_put_23 rfl 0 rfl ?_
      refine w_ldc (v := (-1000002)) m_1500 dX12_put_24 ?_
      refine w_callV (as := [vI (-1000002)]) (rest := []) (c_X12_finding l G cy ad (d + 1) (-1000002) Mz hIz (by first | decide | (unfold vF; omega) | (unfold vRw; omega))) kV_X12_finding (by decide +kernel) (Nat.le_of_ble_eq_true rfl) m_1434 rfl rfl rfl ic_12 rfl rfl (by decide) (Nat.le_of_ble_eq_true rfl) dX12_put_26 (fun r66_ M67_ q68_ => ?_)
      obtain ⟨hI70_, hF71_, h69_⟩ := q68_
      have hF72_ := hFz.tr hF71_ (fun c k => (fun h => h.elim (fun h => (Or.inr (Or.inl ⟨h.1, h.2⟩))) (fun h => h.elim)))
      simp only [li_m1000002] at h69_
      exact w_iret rfl dX12_put_29 ⟨hI70_, hF72_, trivial⟩
  · refine w_if_ne (tgt := 14) dX12_put_4 (by decide) li_0 (fun h9 => (absurd h9 (by decide))) (fun h73_ => ?_)
    refine w_aload_n dX12_put_7 rfl 0 rfl ?_
    refine w_ldc (v := (-1000001)) m_1433 dX12_put_8 ?_
    refine w_callV (as := [vI (-1000001)]) (rest := []) (c_X12_finding l G cy ad (d + 1) (-1000001) Mz hIz (by first | decide | (unfold vF; omega) | (unfold vRw; omega))) kV_X12_finding (by decide +kernel) (Nat.le_of_ble_eq_true rfl) m_1434 rfl rfl rfl ic_12 rfl rfl (by decide) (Nat.le_of_ble_eq_true rfl) dX12_put_10 (fun r74_ M75_ q76_ => ?_)
    obtain ⟨hI78_, hF79_, h77_⟩ := q76_
    have hF80_ := hFz.tr hF79_ (fun c k => (fun h => h.elim (fun h => (Or.inr (Or.inl ⟨h.1, h.2⟩))) (fun h => h.elim)))
    simp only [li_m1000001] at h77_
    exact w_iret rfl dX12_put_13 ⟨hI78_, hF80_, trivial⟩
def S_c_X12_tell : rf → Nat → Prop := fun c k => (c.1 = 50 ∧ c.2.1 = 0) ∨ (c.1 = 53 ∧ c.2.1 = 0) ∨ False
theorem lf_c_X12_tell_0 (Mz : mM) (z1_ : Int32) (z6_ : Int32) (e2_ : z1_ = Mz.1 (50, 0, 0) 5) (kf3_ : (Mz.1 (50, 0, 0) 5).toInt = z1_.toInt) (h4_ : 0 ≤ z1_.toInt ∧ z1_.toInt ≤ 24) (h5_ : ¬ z1_.toInt = 24) (e7_ : z6_ = Mz.1 (50, 0, 0) 5) (h8_ : z6_.toInt = z1_.toInt) (h9_ : 0 ≤ z6_.toInt ∧ z6_.toInt ≤ 24) : -2147483648 ≤ 321 + z6_.toInt ∧ 321 + z6_.toInt < 2147483648 := by have r_z1_ := rngI z1_; have r_z6_ := rngI z6_; subst e2_; subst e7_; omega
theorem lf_c_X12_tell_1 (Mz : mM) (z1_ : Int32) (z6_ : Int32) (z10_ : Int32) (e2_ : z1_ = Mz.1 (50, 0, 0) 5) (kf3_ : (Mz.1 (50, 0, 0) 5).toInt = z1_.toInt) (h4_ : 0 ≤ z1_.toInt ∧ z1_.toInt ≤ 24) (h5_ : ¬ z1_.toInt = 24) (e7_ : z6_ = Mz.1 (50, 0, 0) 5) (h8_ : z6_.toInt = z1_.toInt) (h9_ : 0 ≤ z6_.toInt ∧ z6_.toInt ≤ 24) (h11_ : z10_.toInt = 321 + z6_.toInt) : 0 ≤ z10_.toInt ∧ z10_.toInt < ((3567 : Nat) : Int) := by have r_z1_ := rngI z1_; have r_z6_ := rngI z6_; have r_z10_ := rngI z10_; subst e2_; subst e7_; omega
theorem lf_c_X12_tell_2 (M12_ : mM) (Mz : mM) (v : Int32) (z1_ : Int32) (z6_ : Int32) (z10_ : Int32) (j14_ : Nat) (e2_ : z1_ = Mz.1 (50, 0, 0) 5) (kf3_ : (Mz.1 (50, 0, 0) 5).toInt = z1_.toInt) (h4_ : 0 ≤ z1_.toInt ∧ z1_.toInt ≤ 24) (h5_ : ¬ z1_.toInt = 24) (e7_ : z6_ = Mz.1 (50, 0, 0) 5) (h8_ : z6_.toInt = z1_.toInt) (h9_ : 0 ≤ z6_.toInt ∧ z6_.toInt ≤ 24) (h11_ : z10_.toInt = 321 + z6_.toInt) (h15_ : (j14_ : Int) = z10_.toInt) (hM13_ : M12_ = up Mz (50, 0, 0) j14_ v) : PN j14_ v ∧ (j14_ < 345 ∨ 493 < j14_) := by have r_v := rngI v; have r_z1_ := rngI z1_; have r_z6_ := rngI z6_; have r_z10_ := rngI z10_; subst e2_; subst e7_; unfold PN; omega
theorem lf_c_X12_tell_3 (M12_ : mM) (Mz : mM) (v : Int32) (z1_ : Int32) (z6_ : Int32) (z10_ : Int32) (j14_ : Nat) (e2_ : z1_ = Mz.1 (50, 0, 0) 5) (kf3_ : (Mz.1 (50, 0, 0) 5).toInt = z1_.toInt) (h4_ : 0 ≤ z1_.toInt ∧ z1_.toInt ≤ 24) (h5_ : ¬ z1_.toInt = 24) (e7_ : z6_ = Mz.1 (50, 0, 0) 5) (h8_ : z6_.toInt = z1_.toInt) (h9_ : 0 ≤ z6_.toInt ∧ z6_.toInt ≤ 24) (h11_ : z10_.toInt = 321 + z6_.toInt) (h15_ : (j14_ : Int) = z10_.toInt) (hM13_ : M12_ = up Mz (50, 0, 0) j14_ v) : ¬ 5 = j14_ := by have r_v := rngI v; have r_z1_ := rngI z1_; have r_z6_ := rngI z6_; have r_z10_ := rngI z10_; subst e2_; subst e7_; omega
theorem lf_c_X12_tell_4 (M12_ : mM) (Mz : mM) (v : Int32) (z1_ : Int32) (z6_ : Int32) (z10_ : Int32) (j14_ : Nat) (z19_ : Int32) (e2_ : z1_ = Mz.1 (50, 0, 0) 5) (kf3_ : (Mz.1 (50, 0, 0) 5).toInt = z1_.toInt) (h4_ : 0 ≤ z1_.toInt ∧ z1_.toInt ≤ 24) (h5_ : ¬ z1_.toInt = 24) (e7_ : z6_ = Mz.1 (50, 0, 0) 5) (h8_ : z6_.toInt = z1_.toInt) (h9_ : 0 ≤ z6_.toInt ∧ z6_.toInt ≤ 24) (h11_ : z10_.toInt = 321 + z6_.toInt) (h15_ : (j14_ : Int) = z10_.toInt) (hM13_ : M12_ = up Mz (50, 0, 0) j14_ v) (kf18_ : (M12_.1 (50, 0, 0) 5).toInt = z1_.toInt) (e20_ : z19_ = M12_.1 (50, 0, 0) 5) (h21_ : z19_.toInt = z1_.toInt) (h22_ : 0 ≤ z19_.toInt ∧ z19_.toInt ≤ 24) : -2147483648 ≤ z19_.toInt + 1 ∧ z19_.toInt + 1 < 2147483648 := by have r_v := rngI v; have r_z1_ := rngI z1_; have r_z6_ := rngI z6_; have r_z10_ := rngI z10_; have r_z19_ := rngI z19_; subst e2_; subst e7_; subst e20_; omega
theorem lf_c_X12_tell_5 (M12_ : mM) (M25_ : mM) (Mz : mM) (v : Int32) (z1_ : Int32) (z6_ : Int32) (z10_ : Int32) (j14_ : Nat) (z19_ : Int32) (z23_ : Int32) (e2_ : z1_ = Mz.1 (50, 0, 0) 5) (kf3_ : (Mz.1 (50, 0, 0) 5).toInt = z1_.toInt) (h4_ : 0 ≤ z1_.toInt ∧ z1_.toInt ≤ 24) (h5_ : ¬ z1_.toInt = 24) (e7_ : z6_ = Mz.1 (50, 0, 0) 5) (h8_ : z6_.toInt = z1_.toInt) (h9_ : 0 ≤ z6_.toInt ∧ z6_.toInt ≤ 24) (h11_ : z10_.toInt = 321 + z6_.toInt) (h15_ : (j14_ : Int) = z10_.toInt) (hM13_ : M12_ = up Mz (50, 0, 0) j14_ v) (kf18_ : (M12_.1 (50, 0, 0) 5).toInt = z1_.toInt) (e20_ : z19_ = M12_.1 (50, 0, 0) 5) (h21_ : z19_.toInt = z1_.toInt) (h22_ : 0 ≤ z19_.toInt ∧ z19_.toInt ≤ 24) (h24_ : z23_.toInt = z19_.toInt + 1) (hM26_ : M25_ = up M12_ (50, 0, 0) 5 z23_) : PN 5 z23_ ∧ (5 < 345 ∨ 493 < 5) := by have r_v := rngI v; have r_z1_ := rngI z1_; have r_z6_ := rngI z6_; have r_z10_ := rngI z10_; have r_z19_ := rngI z19_; have r_z23_ := rngI z23_; subst e2_; subst e7_; subst e20_; unfold PN; omega
set_option maxHeartbeats 4000000 in
set_option maxRecDepth 100000 in
theorem c_X12_tell (l : Launch) (G : va_G) (cy : Nat → ClassId) (ad : rf → Nat) (d : Nat) (v : Int32) (Mz : mM) (hIz : InvD Mz) : WP DD l G cy ad yX12_tell cX12_tell 2 (some .int) (d + 1) 0 [(0, vR (12, 0, 0)), (1, vI v)] [] Mz (fun r M' => InvD M' ∧ FR (S_c_X12_tell) Mz M' ∧ True) := by
  have hFz : FR (S_c_X12_tell) Mz Mz := FR.self
  refine w_aload_n dX12_tell_0 rfl 0 rfl ?_
  refine w_getR (c' := (50, 0, 0)) fl_RX12_9 rfl rfl ic_12 dX12_tell_1 rfl ?_
  refine w_iconst (v := 5) dX12_tell_4 (by decide) ?_
  refine w_ialdL 5 rfl rfl ic_50 li_5 (by decide) dX12_tell_5 (fun z1_ e2_ => ?_)
  have kf3_ : (Mz.1 (50, 0, 0) 5).toInt = z1_.toInt := by rw [e2_]
  have h4_ : 0 ≤ z1_.toInt ∧ z1_.toInt ≤ 24 := pn_5 hIz e2_
  refine w_bipush (v := 24) dX12_tell_6 (by decide) ?_
  refine w_icmp_ne (tgt := 18) dX12_tell_8 (by decide) (rfl : z1_.toInt = z1_.toInt) li_24 (fun h5_ => ?_) (fun h5_ => ?_)
  · refine w_aload_n dX12_tell_18 rfl 0 rfl ?_
    refine w_getR (c' := (50, 0, 0)) fl_RX12_9 rfl rfl ic_12 dX12_tell_19 rfl ?_
    refine w_sipush (v := 321) dX12_tell_22 (by decide) ?_
    refine w_aload_n dX12_tell_25 rfl 0 rfl ?_
    refine w_getR (c' := (50, 0, 0)) fl_RX12_9 rfl rfl ic_12 dX12_tell_26 rfl ?_
    refine w_iconst (v := 5) dX12_tell_29 (by decide) ?_
    refine w_ialdL 5 rfl rfl ic_50 li_5 (by decide) dX12_tell_30 (fun z6_ e7_ => ?_)
    have h8_ : z6_.toInt = z1_.toInt := by rw [e7_]; exact kf3_
    have h9_ : 0 ≤ z6_.toInt ∧ z6_.toInt ≤ 24 := pn_5 hIz e7_
    refine w_iaddB dX12_tell_31 li_321 (rfl : z6_.toInt = z6_.toInt) (lf_c_X12_tell_0 Mz z1_ z6_ e2_ kf3_ h4_ h5_ e7_ h8_ h9_) (fun z10_ h11_ => ?_)
    refine w_iload_n dX12_tell_32 rfl 1 rfl ?_
    refine w_iast DD_nd rfl rfl ic_50 (rfl : z10_.toInt = z10_.toInt) (lf_c_X12_tell_1 Mz z1_ z6_ z10_ e2_ kf3_ h4_ h5_ e7_ h8_ h9_ h11_) dX12_tell_33 (fun j14_ h15_ M12_ hM13_ => ?_)
    have hI16_ := hIz.put50 hM13_ (lf_c_X12_tell_2 M12_ Mz v z1_ z6_ z10_ j14_ e2_ kf3_ h4_ h5_ e7_ h8_ h9_ h11_ h15_ hM13_)
    have hF17_ := hFz.put hM13_ (Or.inl ⟨rfl, rfl⟩)
    have kf18_ : (M12_.1 (50, 0, 0) 5).toInt = z1_.toInt := by rw [(show M12_.1 (50, 0, 0) 5 = Mz.1 (50, 0, 0) 5 by rw [hM13_]; exact up_ne (fun q => absurd q.2 (lf_c_X12_tell_3 M12_ Mz v z1_ z6_ z10_ j14_ e2_ kf3_ h4_ h5_ e7_ h8_ h9_ h11_ h15_ hM13_)))]; exact kf3_
    refine w_aload_n dX12_tell_34 rfl 0 rfl ?_
    refine w_getR (c' := (50, 0, 0)) fl_RX12_9 rfl rfl ic_12 dX12_tell_35 rfl ?_
    refine w_iconst (v := 5) dX12_tell_38 (by decide) ?_
    refine w_dup2 dX12_tell_39 rfl rfl ?_
    refine w_ialdL 5 rfl rfl ic_50 li_5 (by decide) dX12_tell_40 (fun z19_ e20_ => ?_)
    have h21_ : z19_.toInt = z1_.toInt := by rw [e20_]; exact kf18_
    have h22_ : 0 ≤ z19_.toInt ∧ z19_.toInt ≤ 24 := pn_5 hI16_ e20_
    refine w_iconst (v := 1) dX12_tell_41 (by decide) ?_
    refine w_iaddB dX12_tell_42 (rfl : z19_.toInt = z19_.toInt) li_1 (lf_c_X12_tell_4 M12_ Mz v z1_ z6_ z10_ j14_ z19_ e2_ kf3_ h4_ h5_ e7_ h8_ h9_ h11_ h15_ hM13_ kf18_ e20_ h21_ h22_) (fun z23_ h24_ => ?_)
    refine w_iastL 5 DD_nd rfl rfl ic_50 li_5 (by decide) dX12_tell_43 (fun M25_ hM26_ => ?_)
    have hI27_ := hI16_.put50 hM26_ (lf_c_X12_tell_5 M12_ M25_ Mz v z1_ z6_ z10_ j14_ z19_ z23_ e2_ kf3_ h4_ h5_ e7_ h8_ h9_ h11_ h15_ hM13_ kf18_ e20_ h21_ h22_ h24_ hM26_)
    have hF28_ := hF17_.put hM26_ (Or.inl ⟨rfl, rfl⟩)
    refine w_aload_n dX12_tell_44 rfl 0 rfl ?_
    refine w_getR (c' := (50, 0, 0)) fl_RX12_9 rfl rfl ic_12 dX12_tell_45 rfl ?_
    refine w_iconst (v := 5) dX12_tell_48 (by decide) ?_
    refine w_ialdL 5 rfl rfl ic_50 li_5 (by decide) dX12_tell_49 (fun z29_ e30_ => ?_)
    have kf31_ : (M25_.1 (50, 0, 0) 5).toInt = z29_.toInt := by rw [e30_]
    have h32_ : 0 ≤ z29_.toInt ∧ z29_.toInt ≤ 24 := pn_5 hI27_ e30_
    exact w_iret rfl dX12_tell_50 ⟨hI27_, hF28_, trivial⟩
  · refine w_aload_n dX12_tell_11 rfl 0 rfl ?_
    refine w_ldc (v := (-1000004)) m_1456 dX12_tell_12 ?_
    refine w_callV (as := [vI (-1000004)]) (rest := []) (c_X12_finding l G cy ad d (-1000004) Mz hIz (by first | decide | (unfold vF; omega) | (unfold vRw; omega))) kV_X12_finding (by decide +kernel) (Nat.le_of_ble_eq_true rfl) m_1434 rfl rfl rfl ic_12 rfl rfl (by decide) (Nat.le_of_ble_eq_true rfl) dX12_tell_14 (fun r33_ M34_ q35_ => ?_)
    obtain ⟨hI37_, hF38_, h36_⟩ := q35_
    have hF39_ := hFz.tr hF38_ (fun c k => (fun h => h.elim (fun h => (Or.inr (Or.inl ⟨h.1, h.2⟩))) (fun h => h.elim)))
    have kf40_ : (M34_.1 (50, 0, 0) 5).toInt = z1_.toInt := by rw [(hF38_ (50, 0, 0) 5 (by simp [S_c_X12_finding]))]; exact kf3_
    simp only [li_m1000004] at h36_
    exact w_iret rfl dX12_tell_17 ⟨hI37_, hF39_, trivial⟩
theorem lf_c_X12_sumOf_0 (Mz : mM) (v3_4 : Int32) (z2_ : Int32) (hv0_4 : 0 ≤ v3_4.toInt) (e3_ : z2_ = Mz.1 (50, 0, 0) 2) (h4_ : 0 ≤ z2_.toInt ∧ z2_.toInt ≤ 8) (h5_ : v3_4.toInt < z2_.toInt) : 0 ≤ v3_4.toInt ∧ v3_4.toInt ≤ 7 := by have r_v3_4 := rngI v3_4; have r_z2_ := rngI z2_; subst e3_; omega
theorem lf_c_X12_sumOf_1 (Mz : mM) (v : Int32) (v3_4 : Int32) (z2_ : Int32) (r6_ : Int32) (hv : 7 ≤ v.toInt ∧ v.toInt ≤ 8) (hv0_4 : 0 ≤ v3_4.toInt) (e3_ : z2_ = Mz.1 (50, 0, 0) 2) (h4_ : 0 ≤ z2_.toInt ∧ z2_.toInt ≤ 8) (h5_ : v3_4.toInt < z2_.toInt) (h9_ : r6_.toInt = 180 + 9 * v3_4.toInt) : -2147483648 ≤ r6_.toInt + v.toInt ∧ r6_.toInt + v.toInt < 2147483648 := by have r_v := rngI v; have r_v3_4 := rngI v3_4; have r_z2_ := rngI z2_; have r_r6_ := rngI r6_; subst e3_; omega
theorem lf_c_X12_sumOf_2 (Mz : mM) (v : Int32) (v3_4 : Int32) (z2_ : Int32) (r6_ : Int32) (z10_ : Int32) (hv : 7 ≤ v.toInt ∧ v.toInt ≤ 8) (hv0_4 : 0 ≤ v3_4.toInt) (e3_ : z2_ = Mz.1 (50, 0, 0) 2) (h4_ : 0 ≤ z2_.toInt ∧ z2_.toInt ≤ 8) (h5_ : v3_4.toInt < z2_.toInt) (h9_ : r6_.toInt = 180 + 9 * v3_4.toInt) (h11_ : z10_.toInt = r6_.toInt + v.toInt) : 0 ≤ z10_.toInt ∧ z10_.toInt < ((3567 : Nat) : Int) := by have r_v := rngI v; have r_v3_4 := rngI v3_4; have r_z2_ := rngI z2_; have r_r6_ := rngI r6_; have r_z10_ := rngI z10_; subst e3_; omega
theorem lf_c_X12_sumOf_3 (Mz : mM) (v : Int32) (v3_4 : Int32) (z2_ : Int32) (r6_ : Int32) (z10_ : Int32) (j14_ : Nat) (z12_ : Int32) (hv : 7 ≤ v.toInt ∧ v.toInt ≤ 8) (hv0_4 : 0 ≤ v3_4.toInt) (e3_ : z2_ = Mz.1 (50, 0, 0) 2) (h4_ : 0 ≤ z2_.toInt ∧ z2_.toInt ≤ 8) (h5_ : v3_4.toInt < z2_.toInt) (h9_ : r6_.toInt = 180 + 9 * v3_4.toInt) (h11_ : z10_.toInt = r6_.toInt + v.toInt) (h15_ : (j14_ : Int) = z10_.toInt) (e13_ : z12_ = Mz.1 (50, 0, 0) j14_) : -2147483648 ≤ v3_4.toInt + 1 ∧ v3_4.toInt + 1 < 2147483648 := by have r_v := rngI v; have r_v3_4 := rngI v3_4; have r_z2_ := rngI z2_; have r_r6_ := rngI r6_; have r_z10_ := rngI z10_; have r_z12_ := rngI z12_; subst e3_; subst e13_; omega
theorem lf_c_X12_sumOf_4 (Mz : mM) (v : Int32) (v3_4 : Int32) (z2_ : Int32) (r6_ : Int32) (z10_ : Int32) (j14_ : Nat) (z12_ : Int32) (z17_ : Int32) (hv : 7 ≤ v.toInt ∧ v.toInt ≤ 8) (hv0_4 : 0 ≤ v3_4.toInt) (e3_ : z2_ = Mz.1 (50, 0, 0) 2) (h4_ : 0 ≤ z2_.toInt ∧ z2_.toInt ≤ 8) (h5_ : v3_4.toInt < z2_.toInt) (h9_ : r6_.toInt = 180 + 9 * v3_4.toInt) (h11_ : z10_.toInt = r6_.toInt + v.toInt) (h15_ : (j14_ : Int) = z10_.toInt) (e13_ : z12_ = Mz.1 (50, 0, 0) j14_) (h18_ : z17_.toInt = v3_4.toInt + 1) : 0 ≤ z17_.toInt := by have r_v := rngI v; have r_v3_4 := rngI v3_4; have r_z2_ := rngI z2_; have r_r6_ := rngI r6_; have r_z10_ := rngI z10_; have r_z12_ := rngI z12_; have r_z17_ := rngI z17_; subst e3_; subst e13_; omega
theorem lf_c_X12_sumOf_5 (Mz : mM) (v : Int32) (v3_4 : Int32) (z2_ : Int32) (r6_ : Int32) (z10_ : Int32) (j14_ : Nat) (z12_ : Int32) (z17_ : Int32) (hv : 7 ≤ v.toInt ∧ v.toInt ≤ 8) (hv0_4 : 0 ≤ v3_4.toInt) (e3_ : z2_ = Mz.1 (50, 0, 0) 2) (h4_ : 0 ≤ z2_.toInt ∧ z2_.toInt ≤ 8) (h5_ : v3_4.toInt < z2_.toInt) (h9_ : r6_.toInt = 180 + 9 * v3_4.toInt) (h11_ : z10_.toInt = r6_.toInt + v.toInt) (h15_ : (j14_ : Int) = z10_.toInt) (e13_ : z12_ = Mz.1 (50, 0, 0) j14_) (h18_ : z17_.toInt = v3_4.toInt + 1) : (2147483648 - z17_.toInt).toNat < (2147483648 - v3_4.toInt).toNat := by have r_v := rngI v; have r_v3_4 := rngI v3_4; have r_z2_ := rngI z2_; have r_r6_ := rngI r6_; have r_z10_ := rngI z10_; have r_z12_ := rngI z12_; have r_z17_ := rngI z17_; subst e3_; subst e13_; omega
theorem lf_c_X12_sumOf_6    : 0 ≤ (0 : Int32).toInt := by have q0 := li_0; omega
set_option maxHeartbeats 4000000 in
set_option maxRecDepth 100000 in
theorem c_X12_sumOf (l : Launch) (G : va_G) (cy : Nat → ClassId) (ad : rf → Nat) (d : Nat) (v : Int32) (Mz : mM) (hIz : InvD Mz) (hv : 7 ≤ v.toInt ∧ v.toInt ≤ 8) : WP DD l G cy ad yX12_sumOf cX12_sumOf 4 (some .int) (d + 1) 0 [(0, vR (12, 0, 0)), (1, vI v)] [] Mz (fun r M' => Mz = M' ∧ True) := by
  refine w_iconst (v := 0) dX12_sumOf_0 (by decide) ?_
  refine w_istore_n (ls' := [(2, vI 0), (0, vR (12, 0, 0)), (1, vI v)]) dX12_sumOf_1 rfl (by decide) rfl ?_
  refine w_iconst (v := 0) dX12_sumOf_2 (by decide) ?_
  refine w_istore_n (ls' := [(3, vI 0), (2, vI 0), (0, vR (12, 0, 0)), (1, vI v)]) dX12_sumOf_3 rfl (by decide) rfl ?_
  have lp1_ : ∀ (nn_4 : Nat) (v3_4 : Int32) (v2_4 : Int32) (hv0_4 : 0 ≤ v3_4.toInt), (2147483648 - v3_4.toInt).toNat < nn_4 → WP DD l G cy ad yX12_sumOf cX12_sumOf 4 (some .int) (d + 1) 4 [(3, vI v3_4), (2, vI v2_4), (0, vR (12, 0, 0)), (1, vI v)] [] Mz (fun r M' => Mz = M' ∧ True) := by
    intro nn_4
    induction nn_4 with
    | zero => intro v3_4 v2_4 hv0_4 hm_4; exact absurd hm_4 (Nat.not_lt_zero _)
    | succ nn_4 ih_4 =>
      intro v3_4 v2_4 hv0_4 hm_4
      refine w_iload_n dX12_sumOf_4 rfl 0 rfl ?_
      refine w_aload_n dX12_sumOf_5 rfl 2 rfl ?_
      refine w_getR (c' := (50, 0, 0)) fl_RX12_9 rfl rfl ic_12 dX12_sumOf_6 rfl ?_
      refine w_iconst (v := 2) dX12_sumOf_9 (by decide) ?_
      refine w_ialdL 2 rfl rfl ic_50 li_2 (by decide) dX12_sumOf_10 (fun z2_ e3_ => ?_)
      have h4_ : 0 ≤ z2_.toInt ∧ z2_.toInt ≤ 8 := pn_2 hIz e3_
      refine w_icmp_ge (tgt := 35) dX12_sumOf_11 (by decide) (rfl : v3_4.toInt = v3_4.toInt) (rfl : z2_.toInt = z2_.toInt) (fun h5_ => ?_) (fun h5_ => ?_)
      · refine w_iload_n dX12_sumOf_35 rfl 1 rfl ?_
        exact w_iret rfl dX12_sumOf_36 ⟨rfl, trivial⟩
      · refine w_iload_n dX12_sumOf_14 rfl 1 rfl ?_
        refine w_aload_n dX12_sumOf_15 rfl 2 rfl ?_
        refine w_getR (c' := (50, 0, 0)) fl_RX12_9 rfl rfl ic_12 dX12_sumOf_16 rfl ?_
        refine w_aload_n dX12_sumOf_19 rfl 2 rfl ?_
        refine w_iload_n dX12_sumOf_20 rfl 0 rfl ?_
        refine w_callV (as := [vI v3_4]) (rest := [vR (50, 0, 0), vI v2_4]) (c_X12_goer l G cy ad d v3_4 Mz hIz (lf_c_X12_sumOf_0 Mz v3_4 z2_ hv0_4 e3_ h4_ h5_)) kV_X12_goer (by decide +kernel) (Nat.le_of_ble_eq_true rfl) m_1451 rfl rfl rfl ic_12 rfl rfl (by decide) (Nat.le_of_ble_eq_true rfl) dX12_sumOf_21 (fun r6_ M7_ q8_ => ?_)
        obtain ⟨rfl, h9_⟩ := q8_
        refine w_iload_n dX12_sumOf_24 rfl 3 rfl ?_
        refine w_iaddB dX12_sumOf_25 (rfl : r6_.toInt = r6_.toInt) (rfl : v.toInt = v.toInt) (lf_c_X12_sumOf_1 Mz v v3_4 z2_ r6_ hv hv0_4 e3_ h4_ h5_ h9_) (fun z10_ h11_ => ?_)
        refine w_iald rfl rfl ic_50 (rfl : z10_.toInt = z10_.toInt) (lf_c_X12_sumOf_2 Mz v v3_4 z2_ r6_ z10_ hv hv0_4 e3_ h4_ h5_ h9_ h11_) dX12_sumOf_26 (fun j14_ h15_ z12_ e13_ => ?_)
        refine w_iadd dX12_sumOf_27 (fun z16_ _ => ?_)
        refine w_istore_n (ls' := [(2, vI z16_), (3, vI v3_4), (0, vR (12, 0, 0)), (1, vI v)]) dX12_sumOf_28 rfl (by decide) rfl ?_
        refine w_iincB (j := 1) (f := fun z17_ => [(3, vI z17_), (2, vI z16_), (0, vR (12, 0, 0)), (1, vI v)]) dX12_sumOf_29 rfl (by decide) (fun _ => rfl) (rfl : v3_4.toInt = v3_4.toInt) li_1 (lf_c_X12_sumOf_3 Mz v v3_4 z2_ r6_ z10_ j14_ z12_ hv hv0_4 e3_ h4_ h5_ h9_ h11_ h15_ e13_) (fun z17_ h18_ => ?_)
        refine w_goto (tgt := 4) dX12_sumOf_32 (by decide) ?_
        refine w_loc (ls' := [(3, vI z17_), (2, vI z16_), (0, vR (12, 0, 0)), (1, vI v)]) [0, 1, 2, 3] rfl ?_
        exact ih_4 z17_ z16_ (lf_c_X12_sumOf_4 Mz v v3_4 z2_ r6_ z10_ j14_ z12_ z17_ hv hv0_4 e3_ h4_ h5_ h9_ h11_ h15_ e13_ h18_) (Nat.lt_of_lt_of_le (lf_c_X12_sumOf_5 Mz v v3_4 z2_ r6_ z10_ j14_ z12_ z17_ hv hv0_4 e3_ h4_ h5_ h9_ h11_ h15_ e13_ h18_) (Nat.le_of_lt_succ hm_4))
  exact lp1_ _ 0 0 (lf_c_X12_sumOf_6 ) (Nat.lt_succ_self _)
def S_c_X12_count : rf → Nat → Prop := fun c k => (c.1 = 53 ∧ c.2.1 = 0) ∨ False
theorem lf_c_X12_count_0  (v : Int32)  : v.toInt = 0 ∨ v.toInt = 1 ∨ v.toInt = 2 ∨ v.toInt = 3 ∨ v.toInt = 4 ∨ v.toInt = 5 ∨ v.toInt = 6 ∨ v.toInt = 7 ∨ v.toInt = 8 ∨ (¬ v.toInt = 0 ∧ ¬ v.toInt = 1 ∧ ¬ v.toInt = 2 ∧ ¬ v.toInt = 3 ∧ ¬ v.toInt = 4 ∧ ¬ v.toInt = 5 ∧ ¬ v.toInt = 6 ∧ ¬ v.toInt = 7 ∧ ¬ v.toInt = 8) := by have r_v := rngI v; omega
theorem lf_c_X12_count_1 (Mz : mM) (v3_61 : Int32) (z5_ : Int32) (hv0_61 : 0 ≤ v3_61.toInt) (e6_ : z5_ = Mz.1 (50, 0, 0) 1) (h7_ : 0 ≤ z5_.toInt ∧ z5_.toInt ≤ 40) (h8_ : v3_61.toInt < z5_.toInt) : -1 ≤ v3_61.toInt ∧ v3_61.toInt ≤ 39 := by have r_v3_61 := rngI v3_61; have r_z5_ := rngI z5_; subst e6_; omega
theorem lf_c_X12_count_2 (Mz : mM) (v3_61 : Int32) (z5_ : Int32) (r9_ : Int32) (hv0_61 : 0 ≤ v3_61.toInt) (e6_ : z5_ = Mz.1 (50, 0, 0) 1) (h7_ : 0 ≤ z5_.toInt ∧ z5_.toInt ≤ 40) (h8_ : v3_61.toInt < z5_.toInt) (h12_ : r9_.toInt = 20 + 4 * v3_61.toInt) : -2147483648 ≤ r9_.toInt + 1 ∧ r9_.toInt + 1 < 2147483648 := by have r_v3_61 := rngI v3_61; have r_z5_ := rngI z5_; have r_r9_ := rngI r9_; subst e6_; omega
theorem lf_c_X12_count_3 (Mz : mM) (v3_61 : Int32) (z5_ : Int32) (r9_ : Int32) (z13_ : Int32) (hv0_61 : 0 ≤ v3_61.toInt) (e6_ : z5_ = Mz.1 (50, 0, 0) 1) (h7_ : 0 ≤ z5_.toInt ∧ z5_.toInt ≤ 40) (h8_ : v3_61.toInt < z5_.toInt) (h12_ : r9_.toInt = 20 + 4 * v3_61.toInt) (h14_ : z13_.toInt = r9_.toInt + 1) : 0 ≤ z13_.toInt ∧ z13_.toInt < ((3567 : Nat) : Int) := by have r_v3_61 := rngI v3_61; have r_z5_ := rngI z5_; have r_r9_ := rngI r9_; have r_z13_ := rngI z13_; subst e6_; omega
theorem lf_c_X12_count_4 (Mz : mM) (v3_61 : Int32) (z5_ : Int32) (r9_ : Int32) (z13_ : Int32) (j17_ : Nat) (z15_ : Int32) (hv0_61 : 0 ≤ v3_61.toInt) (e6_ : z5_ = Mz.1 (50, 0, 0) 1) (h7_ : 0 ≤ z5_.toInt ∧ z5_.toInt ≤ 40) (h8_ : v3_61.toInt < z5_.toInt) (h12_ : r9_.toInt = 20 + 4 * v3_61.toInt) (h14_ : z13_.toInt = r9_.toInt + 1) (h18_ : (j17_ : Int) = z13_.toInt) (e16_ : z15_ = Mz.1 (50, 0, 0) j17_) : 20 ≤ j17_ ∧ j17_ < 180 ∧ j17_ % 4 = 1 := by have r_v3_61 := rngI v3_61; have r_z5_ := rngI z5_; have r_r9_ := rngI r9_; have r_z13_ := rngI z13_; have r_z15_ := rngI z15_; subst e6_; subst e16_; omega
theorem lf_c_X12_count_5 (Mz : mM) (v3_61 : Int32) (z5_ : Int32) (r9_ : Int32) (z13_ : Int32) (j17_ : Nat) (z15_ : Int32) (hv0_61 : 0 ≤ v3_61.toInt) (e6_ : z5_ = Mz.1 (50, 0, 0) 1) (h7_ : 0 ≤ z5_.toInt ∧ z5_.toInt ≤ 40) (h8_ : v3_61.toInt < z5_.toInt) (h12_ : r9_.toInt = 20 + 4 * v3_61.toInt) (h14_ : z13_.toInt = r9_.toInt + 1) (h18_ : (j17_ : Int) = z13_.toInt) (e16_ : z15_ = Mz.1 (50, 0, 0) j17_) (h19_ : -1 ≤ z15_.toInt ∧ z15_.toInt ≤ 191) (h20_ : z15_.toInt < 0) : -2147483648 ≤ v3_61.toInt + 1 ∧ v3_61.toInt + 1 < 2147483648 := by have r_v3_61 := rngI v3_61; have r_z5_ := rngI z5_; have r_r9_ := rngI r9_; have r_z13_ := rngI z13_; have r_z15_ := rngI z15_; subst e6_; subst e16_; omega
theorem lf_c_X12_count_6 (Mz : mM) (v3_61 : Int32) (z5_ : Int32) (r9_ : Int32) (z13_ : Int32) (j17_ : Nat) (z15_ : Int32) (z22_ : Int32) (hv0_61 : 0 ≤ v3_61.toInt) (e6_ : z5_ = Mz.1 (50, 0, 0) 1) (h7_ : 0 ≤ z5_.toInt ∧ z5_.toInt ≤ 40) (h8_ : v3_61.toInt < z5_.toInt) (h12_ : r9_.toInt = 20 + 4 * v3_61.toInt) (h14_ : z13_.toInt = r9_.toInt + 1) (h18_ : (j17_ : Int) = z13_.toInt) (e16_ : z15_ = Mz.1 (50, 0, 0) j17_) (h19_ : -1 ≤ z15_.toInt ∧ z15_.toInt ≤ 191) (h20_ : z15_.toInt < 0) (h23_ : z22_.toInt = v3_61.toInt + 1) : 0 ≤ z22_.toInt := by have r_v3_61 := rngI v3_61; have r_z5_ := rngI z5_; have r_r9_ := rngI r9_; have r_z13_ := rngI z13_; have r_z15_ := rngI z15_; have r_z22_ := rngI z22_; subst e6_; subst e16_; omega
theorem lf_c_X12_count_7 (Mz : mM) (v3_61 : Int32) (z5_ : Int32) (r9_ : Int32) (z13_ : Int32) (j17_ : Nat) (z15_ : Int32) (z22_ : Int32) (hv0_61 : 0 ≤ v3_61.toInt) (e6_ : z5_ = Mz.1 (50, 0, 0) 1) (h7_ : 0 ≤ z5_.toInt ∧ z5_.toInt ≤ 40) (h8_ : v3_61.toInt < z5_.toInt) (h12_ : r9_.toInt = 20 + 4 * v3_61.toInt) (h14_ : z13_.toInt = r9_.toInt + 1) (h18_ : (j17_ : Int) = z13_.toInt) (e16_ : z15_ = Mz.1 (50, 0, 0) j17_) (h19_ : -1 ≤ z15_.toInt ∧ z15_.toInt ≤ 191) (h20_ : z15_.toInt < 0) (h23_ : z22_.toInt = v3_61.toInt + 1) : (2147483648 - z22_.toInt).toNat < (2147483648 - v3_61.toInt).toNat := by have r_v3_61 := rngI v3_61; have r_z5_ := rngI z5_; have r_r9_ := rngI r9_; have r_z13_ := rngI z13_; have r_z15_ := rngI z15_; have r_z22_ := rngI z22_; subst e6_; subst e16_; omega
theorem lf_c_X12_count_8 (Mz : mM) (v3_61 : Int32) (z5_ : Int32) (r9_ : Int32) (z13_ : Int32) (j17_ : Nat) (z15_ : Int32) (hv0_61 : 0 ≤ v3_61.toInt) (e6_ : z5_ = Mz.1 (50, 0, 0) 1) (h7_ : 0 ≤ z5_.toInt ∧ z5_.toInt ≤ 40) (h8_ : v3_61.toInt < z5_.toInt) (h12_ : r9_.toInt = 20 + 4 * v3_61.toInt) (h14_ : z13_.toInt = r9_.toInt + 1) (h18_ : (j17_ : Int) = z13_.toInt) (e16_ : z15_ = Mz.1 (50, 0, 0) j17_) (h19_ : -1 ≤ z15_.toInt ∧ z15_.toInt ≤ 191) (h20_ : 0 ≤ z15_.toInt) : -2147483648 ≤ v3_61.toInt + 1 ∧ v3_61.toInt + 1 < 2147483648 := by have r_v3_61 := rngI v3_61; have r_z5_ := rngI z5_; have r_r9_ := rngI r9_; have r_z13_ := rngI z13_; have r_z15_ := rngI z15_; subst e6_; subst e16_; omega
theorem lf_c_X12_count_9 (Mz : mM) (v3_61 : Int32) (z5_ : Int32) (r9_ : Int32) (z13_ : Int32) (j17_ : Nat) (z15_ : Int32) (z25_ : Int32) (hv0_61 : 0 ≤ v3_61.toInt) (e6_ : z5_ = Mz.1 (50, 0, 0) 1) (h7_ : 0 ≤ z5_.toInt ∧ z5_.toInt ≤ 40) (h8_ : v3_61.toInt < z5_.toInt) (h12_ : r9_.toInt = 20 + 4 * v3_61.toInt) (h14_ : z13_.toInt = r9_.toInt + 1) (h18_ : (j17_ : Int) = z13_.toInt) (e16_ : z15_ = Mz.1 (50, 0, 0) j17_) (h19_ : -1 ≤ z15_.toInt ∧ z15_.toInt ≤ 191) (h20_ : 0 ≤ z15_.toInt) (h26_ : z25_.toInt = v3_61.toInt + 1) : 0 ≤ z25_.toInt := by have r_v3_61 := rngI v3_61; have r_z5_ := rngI z5_; have r_r9_ := rngI r9_; have r_z13_ := rngI z13_; have r_z15_ := rngI z15_; have r_z25_ := rngI z25_; subst e6_; subst e16_; omega
theorem lf_c_X12_count_10 (Mz : mM) (v3_61 : Int32) (z5_ : Int32) (r9_ : Int32) (z13_ : Int32) (j17_ : Nat) (z15_ : Int32) (z25_ : Int32) (hv0_61 : 0 ≤ v3_61.toInt) (e6_ : z5_ = Mz.1 (50, 0, 0) 1) (h7_ : 0 ≤ z5_.toInt ∧ z5_.toInt ≤ 40) (h8_ : v3_61.toInt < z5_.toInt) (h12_ : r9_.toInt = 20 + 4 * v3_61.toInt) (h14_ : z13_.toInt = r9_.toInt + 1) (h18_ : (j17_ : Int) = z13_.toInt) (e16_ : z15_ = Mz.1 (50, 0, 0) j17_) (h19_ : -1 ≤ z15_.toInt ∧ z15_.toInt ≤ 191) (h20_ : 0 ≤ z15_.toInt) (h26_ : z25_.toInt = v3_61.toInt + 1) : (2147483648 - z25_.toInt).toNat < (2147483648 - v3_61.toInt).toNat := by have r_v3_61 := rngI v3_61; have r_z5_ := rngI z5_; have r_r9_ := rngI r9_; have r_z13_ := rngI z13_; have r_z15_ := rngI z15_; have r_z25_ := rngI z25_; subst e6_; subst e16_; omega
theorem lf_c_X12_count_11    : 0 ≤ (0 : Int32).toInt := by have q0 := li_0; omega
theorem lf_c_X12_count_12  (v : Int32) (e1_ : (¬ v.toInt = 0 ∧ ¬ v.toInt = 1 ∧ ¬ v.toInt = 2 ∧ ¬ v.toInt = 3 ∧ ¬ v.toInt = 4 ∧ ¬ v.toInt = 5 ∧ ¬ v.toInt = 6 ∧ ¬ v.toInt = 7 ∧ ¬ v.toInt = 8)) : v.toInt < 0 ∨ 8 < v.toInt := by have r_v := rngI v; omega
set_option maxHeartbeats 4000000 in
set_option maxRecDepth 100000 in
theorem c_X12_count (l : Launch) (G : va_G) (cy : Nat → ClassId) (ad : rf → Nat) (d : Nat) (v : Int32) (Mz : mM) (hIz : InvD Mz) : WP DD l G cy ad yX12_count cX12_count 4 (some .int) (d + 2) 0 [(0, vR (12, 0, 0)), (1, vI v)] [] Mz (fun r M' => InvD M' ∧ FR (S_c_X12_count) Mz M' ∧ True) := by
  have hFz : FR (S_c_X12_count) Mz Mz := FR.self
  refine w_iconst (v := 0) dX12_count_0 (by decide) ?_
  refine w_istore_n (ls' := [(2, vI 0), (0, vR (12, 0, 0)), (1, vI v)]) dX12_count_1 rfl (by decide) rfl ?_
  refine w_iload_n dX12_count_2 rfl 2 rfl ?_
  rcases (lf_c_X12_count_0 v) with e1_ | e1_ | e1_ | e1_ | e1_ | e1_ | e1_ | e1_ | e1_ | e1_
  · refine w_tsIn (tgt := 52) (off := 49) dX12_count_3 e1_ (by decide) (by decide) rfl (by decide) ?_
    refine w_aload_n dX12_count_52 rfl 1 rfl ?_
    refine w_getR (c' := (50, 0, 0)) fl_RX12_9 rfl rfl ic_12 dX12_count_53 rfl ?_
    refine w_iconst (v := 0) dX12_count_56 (by decide) ?_
    refine w_ialdL 0 rfl rfl ic_50 li_0 (by decide) dX12_count_57 (fun z2_ e3_ => ?_)
    exact w_iret rfl dX12_count_58 ⟨hIz, hFz, trivial⟩
  · refine w_tsIn (tgt := 59) (off := 56) dX12_count_3 e1_ (by decide) (by decide) rfl (by decide) ?_
    refine w_iconst (v := 0) dX12_count_59 (by decide) ?_
    refine w_istore_n (ls' := [(3, vI 0), (2, vI 0), (0, vR (12, 0, 0)), (1, vI v)]) dX12_count_60 rfl (by decide) rfl ?_
    have lp4_ : ∀ (nn_61 : Nat) (v3_61 : Int32) (v2_61 : Int32) (hv0_61 : 0 ≤ v3_61.toInt), (2147483648 - v3_61.toInt).toNat < nn_61 → WP DD l G cy ad yX12_count cX12_count 4 (some .int) (d + 2) 61 [(3, vI v3_61), (2, vI v2_61), (0, vR (12, 0, 0)), (1, vI v)] [] Mz (fun r M' => InvD M' ∧ FR (S_c_X12_count) Mz M' ∧ True) := by
      intro nn_61
      induction nn_61 with
      | zero => intro v3_61 v2_61 hv0_61 hm_61; exact absurd hm_61 (Nat.not_lt_zero _)
      | succ nn_61 ih_61 =>
        intro v3_61 v2_61 hv0_61 hm_61
        refine w_iload_n dX12_count_61 rfl 0 rfl ?_
        refine w_aload_n dX12_count_62 rfl 2 rfl ?_
        refine w_getR (c' := (50, 0, 0)) fl_RX12_9 rfl rfl ic_12 dX12_count_63 rfl ?_
        refine w_iconst (v := 1) dX12_count_66 (by decide) ?_
        refine w_ialdL 1 rfl rfl ic_50 li_1 (by decide) dX12_count_67 (fun z5_ e6_ => ?_)
        have h7_ : 0 ≤ z5_.toInt ∧ z5_.toInt ≤ 40 := pn_1 hIz e6_
        refine w_icmp_ge (tgt := 100) dX12_count_68 (by decide) (rfl : v3_61.toInt = v3_61.toInt) (rfl : z5_.toInt = z5_.toInt) (fun h8_ => ?_) (fun h8_ => ?_)
        · refine w_iload_n dX12_count_100 rfl 1 rfl ?_
          exact w_iret rfl dX12_count_101 ⟨hIz, hFz, trivial⟩
        · refine w_iload_n dX12_count_71 rfl 1 rfl ?_
          refine w_aload_n dX12_count_72 rfl 2 rfl ?_
          refine w_getR (c' := (50, 0, 0)) fl_RX12_9 rfl rfl ic_12 dX12_count_73 rfl ?_
          refine w_aload_n dX12_count_76 rfl 2 rfl ?_
          refine w_iload_n dX12_count_77 rfl 0 rfl ?_
          refine w_callV (as := [vI v3_61]) (rest := [vR (50, 0, 0), vI v2_61]) (c_X12_thing l G cy ad (d + 1) v3_61 Mz hIz (lf_c_X12_count_1 Mz v3_61 z5_ hv0_61 e6_ h7_ h8_)) kV_X12_thing (by decide +kernel) (Nat.le_of_ble_eq_true rfl) m_1447 rfl rfl rfl ic_12 rfl rfl (by decide) (Nat.le_of_ble_eq_true rfl) dX12_count_78 (fun r9_ M10_ q11_ => ?_)
          obtain ⟨rfl, h12_⟩ := q11_
          refine w_iconst (v := 1) dX12_count_81 (by decide) ?_
          refine w_iaddB dX12_count_82 (rfl : r9_.toInt = r9_.toInt) li_1 (lf_c_X12_count_2 Mz v3_61 z5_ r9_ hv0_61 e6_ h7_ h8_ h12_) (fun z13_ h14_ => ?_)
          refine w_iald rfl rfl ic_50 (rfl : z13_.toInt = z13_.toInt) (lf_c_X12_count_3 Mz v3_61 z5_ r9_ z13_ hv0_61 e6_ h7_ h8_ h12_ h14_) dX12_count_83 (fun j17_ h18_ z15_ e16_ => ?_)
          have h19_ : -1 ≤ z15_.toInt ∧ z15_.toInt ≤ 191 := pn_tc hIz e16_ (lf_c_X12_count_4 Mz v3_61 z5_ r9_ z13_ j17_ z15_ hv0_61 e6_ h7_ h8_ h12_ h14_ h18_ e16_)
          refine w_if_lt (tgt := 91) dX12_count_84 (by decide) (rfl : z15_.toInt = z15_.toInt) (fun h20_ => ?_) (fun h20_ => ?_)
          · refine w_iconst (v := 0) dX12_count_91 (by decide) ?_
            refine w_iadd dX12_count_92 (fun z21_ _ => ?_)
            refine w_istore_n (ls' := [(2, vI z21_), (3, vI v3_61), (0, vR (12, 0, 0)), (1, vI v)]) dX12_count_93 rfl (by decide) rfl ?_
            refine w_iincB (j := 1) (f := fun z22_ => [(3, vI z22_), (2, vI z21_), (0, vR (12, 0, 0)), (1, vI v)]) dX12_count_94 rfl (by decide) (fun _ => rfl) (rfl : v3_61.toInt = v3_61.toInt) li_1 (lf_c_X12_count_5 Mz v3_61 z5_ r9_ z13_ j17_ z15_ hv0_61 e6_ h7_ h8_ h12_ h14_ h18_ e16_ h19_ h20_) (fun z22_ h23_ => ?_)
            refine w_goto (tgt := 61) dX12_count_97 (by decide) ?_
            refine w_loc (ls' := [(3, vI z22_), (2, vI z21_), (0, vR (12, 0, 0)), (1, vI v)]) [0, 1, 2, 3] rfl ?_
            exact ih_61 z22_ z21_ (lf_c_X12_count_6 Mz v3_61 z5_ r9_ z13_ j17_ z15_ z22_ hv0_61 e6_ h7_ h8_ h12_ h14_ h18_ e16_ h19_ h20_ h23_) (Nat.lt_of_lt_of_le (lf_c_X12_count_7 Mz v3_61 z5_ r9_ z13_ j17_ z15_ z22_ hv0_61 e6_ h7_ h8_ h12_ h14_ h18_ e16_ h19_ h20_ h23_) (Nat.le_of_lt_succ hm_61))
          · refine w_iconst (v := 1) dX12_count_87 (by decide) ?_
            refine w_goto (tgt := 92) dX12_count_88 (by decide) ?_
            refine w_iadd dX12_count_92 (fun z24_ _ => ?_)
            refine w_istore_n (ls' := [(2, vI z24_), (3, vI v3_61), (0, vR (12, 0, 0)), (1, vI v)]) dX12_count_93 rfl (by decide) rfl ?_
            refine w_iincB (j := 1) (f := fun z25_ => [(3, vI z25_), (2, vI z24_), (0, vR (12, 0, 0)), (1, vI v)]) dX12_count_94 rfl (by decide) (fun _ => rfl) (rfl : v3_61.toInt = v3_61.toInt) li_1 (lf_c_X12_count_8 Mz v3_61 z5_ r9_ z13_ j17_ z15_ hv0_61 e6_ h7_ h8_ h12_ h14_ h18_ e16_ h19_ h20_) (fun z25_ h26_ => ?_)
            refine w_goto (tgt := 61) dX12_count_97 (by decide) ?_
            refine w_loc (ls' := [(3, vI z25_), (2, vI z24_), (0, vR (12, 0, 0)), (1, vI v)]) [0, 1, 2, 3] rfl ?_
            exact ih_61 z25_ z24_ (lf_c_X12_count_9 Mz v3_61 z5_ r9_ z13_ j17_ z15_ z25_ hv0_61 e6_ h7_ h8_ h12_ h14_ h18_ e16_ h19_ h20_ h26_) (Nat.lt_of_lt_of_le (lf_c_X12_count_10 Mz v3_61 z5_ r9_ z13_ j17_ z15_ z25_ hv0_61 e6_ h7_ h8_ h12_ h14_ h18_ e16_ h19_ h20_ h26_) (Nat.le_of_lt_succ hm_61))
    exact lp4_ _ 0 0 (lf_c_X12_count_11 ) (Nat.lt_succ_self _)
  · refine w_tsIn (tgt := 102) (off := 99) dX12_count_3 e1_ (by decide) (by decide) rfl (by decide) ?_
    refine w_aload_n dX12_count_102 rfl 1 rfl ?_
    refine w_getR (c' := (50, 0, 0)) fl_RX12_9 rfl rfl ic_12 dX12_count_103 rfl ?_
    refine w_iconst (v := 2) dX12_count_106 (by decide) ?_
    refine w_ialdL 2 rfl rfl ic_50 li_2 (by decide) dX12_count_107 (fun z27_ e28_ => ?_)
    have h29_ : 0 ≤ z27_.toInt ∧ z27_.toInt ≤ 8 := pn_2 hIz e28_
    exact w_iret rfl dX12_count_108 ⟨hIz, hFz, trivial⟩
  · refine w_tsIn (tgt := 109) (off := 106) dX12_count_3 e1_ (by decide) (by decide) rfl (by decide) ?_
    refine w_aload_n dX12_count_109 rfl 1 rfl ?_
    refine w_getR (c' := (50, 0, 0)) fl_RX12_9 rfl rfl ic_12 dX12_count_110 rfl ?_
    refine w_iconst (v := 3) dX12_count_113 (by decide) ?_
    refine w_ialdL 3 rfl rfl ic_50 li_3 (by decide) dX12_count_114 (fun z30_ e31_ => ?_)
    have h32_ : 0 ≤ z30_.toInt ∧ z30_.toInt ≤ 7 := pn_3 hIz e31_
    exact w_iret rfl dX12_count_115 ⟨hIz, hFz, trivial⟩
  · refine w_tsIn (tgt := 116) (off := 113) dX12_count_3 e1_ (by decide) (by decide) rfl (by decide) ?_
    refine w_aload_n dX12_count_116 rfl 1 rfl ?_
    refine w_getR (c' := (50, 0, 0)) fl_RX12_9 rfl rfl ic_12 dX12_count_117 rfl ?_
    refine w_iconst (v := 4) dX12_count_120 (by decide) ?_
    refine w_ialdL 4 rfl rfl ic_50 li_4 (by decide) dX12_count_121 (fun z33_ e34_ => ?_)
    have h35_ : 0 ≤ z33_.toInt ∧ z33_.toInt ≤ 48 := pn_4 hIz e34_
    exact w_iret rfl dX12_count_122 ⟨hIz, hFz, trivial⟩
  · refine w_tsIn (tgt := 123) (off := 120) dX12_count_3 e1_ (by decide) (by decide) rfl (by decide) ?_
    refine w_aload_n dX12_count_123 rfl 1 rfl ?_
    refine w_getR (c' := (50, 0, 0)) fl_RX12_9 rfl rfl ic_12 dX12_count_124 rfl ?_
    refine w_iconst (v := 5) dX12_count_127 (by decide) ?_
    refine w_ialdL 5 rfl rfl ic_50 li_5 (by decide) dX12_count_128 (fun z36_ e37_ => ?_)
    have h38_ : 0 ≤ z36_.toInt ∧ z36_.toInt ≤ 24 := pn_5 hIz e37_
    exact w_iret rfl dX12_count_129 ⟨hIz, hFz, trivial⟩
  · refine w_tsIn (tgt := 130) (off := 127) dX12_count_3 e1_ (by decide) (by decide) rfl (by decide) ?_
    refine w_aload_n dX12_count_130 rfl 1 rfl ?_
    refine w_getI fl_RX12_324 rfl rfl ic_12 dX12_count_131 (fun z39_ e40_ => ?_)
    have h41_ : 0 ≤ z39_.toInt ∧ z39_.toInt ≤ 30 := ofEq (P := fun v => 0 ≤ v.toInt ∧ v.toInt ≤ 30) e40_ (hIz.1 (12, 0, 0) 26)
    exact w_iret rfl dX12_count_134 ⟨hIz, hFz, trivial⟩
  · refine w_tsIn (tgt := 135) (off := 132) dX12_count_3 e1_ (by decide) (by decide) rfl (by decide) ?_
    refine w_aload_n dX12_count_135 rfl 1 rfl ?_
    refine w_bipush (v := 7) dX12_count_136 (by decide) ?_
    refine w_callV (as := [vI 7]) (rest := []) (c_X12_sumOf l G cy ad d 7 Mz hIz (by first | decide | (unfold vF; omega) | (unfold vRw; omega))) kV_X12_sumOf (by decide +kernel) (Nat.le_of_ble_eq_true rfl) m_1862 rfl rfl rfl ic_12 rfl rfl (by decide) (Nat.le_of_ble_eq_true rfl) dX12_count_138 (fun r42_ M43_ q44_ => ?_)
    obtain ⟨rfl, h45_⟩ := q44_
    exact w_iret rfl dX12_count_141 ⟨hIz, hFz, trivial⟩
  · refine w_tsIn (tgt := 142) (off := 139) dX12_count_3 e1_ (by decide) (by decide) rfl (by decide) ?_
    refine w_aload_n dX12_count_142 rfl 1 rfl ?_
    refine w_bipush (v := 8) dX12_count_143 (by decide) ?_
    refine w_callV (as := [vI 8]) (rest := []) (c_X12_sumOf l G cy ad d 8 Mz hIz (by first | decide | (unfold vF; omega) | (unfold vRw; omega))) kV_X12_sumOf (by decide +kernel) (Nat.le_of_ble_eq_true rfl) m_1862 rfl rfl rfl ic_12 rfl rfl (by decide) (Nat.le_of_ble_eq_true rfl) dX12_count_145 (fun r46_ M47_ q48_ => ?_)
    obtain ⟨rfl, h49_⟩ := q48_
    exact w_iret rfl dX12_count_148 ⟨hIz, hFz, trivial⟩
  · refine w_tsOut (tgt := 149) dX12_count_3 rfl (lf_c_X12_count_12 v e1_) (by decide) ?_
    refine w_aload_n dX12_count_149 rfl 1 rfl ?_
    refine w_ldc (v := (-1000001)) m_1433 dX12_count_150 ?_
    refine w_callV (as := [vI (-1000001)]) (rest := []) (c_X12_finding l G cy ad (d + 1) (-1000001) Mz hIz (by first | decide | (unfold vF; omega) | (unfold vRw; omega))) kV_X12_finding (by decide +kernel) (Nat.le_of_ble_eq_true rfl) m_1434 rfl rfl rfl ic_12 rfl rfl (by decide) (Nat.le_of_ble_eq_true rfl) dX12_count_152 (fun r50_ M51_ q52_ => ?_)
    obtain ⟨hI54_, hF55_, h53_⟩ := q52_
    have hF56_ := hFz.tr hF55_ (fun c k => (fun h => h.elim (fun h => (Or.inl ⟨h.1, h.2⟩)) (fun h => h.elim)))
    simp only [li_m1000001] at h53_
    exact w_iret rfl dX12_count_155 ⟨hI54_, hF56_, trivial⟩
def S_c_X12_told : rf → Nat → Prop := fun c k => (c.1 = 53 ∧ c.2.1 = 0) ∨ False
theorem lf_c_X12_told_0  (v : Int32) (h4_ : 1 ≤ v.toInt ∧ v.toInt ≤ 6) : 0 ≤ v.toInt ∧ v.toInt < ((7 : Nat) : Int) := by have r_v := rngI v; omega
set_option maxHeartbeats 4000000 in
set_option maxRecDepth 100000 in
theorem c_X12_told (l : Launch) (G : va_G) (cy : Nat → ClassId) (ad : rf → Nat) (d : Nat) (v : Int32) (Mz : mM) (hIz : InvD Mz) : WP DD l G cy ad yX12_told cX12_told 2 (some .int) (d + 1) 0 [(0, vR (12, 0, 0)), (1, vI v)] [] Mz (fun r M' => InvD M' ∧ FR (S_c_X12_told) Mz M' ∧ True) := by
  have hFz : FR (S_c_X12_told) Mz Mz := FR.self
  refine w_iload_n dX12_told_0 rfl 1 rfl ?_
  refine w_iconst (v := 1) dX12_told_1 (by decide) ?_
  refine w_bipush (v := 6) dX12_told_2 (by decide) ?_
  refine w_callS (as := [vI v, vI 1, vI 6]) (rest := []) (c_X12_within l G cy ad d v 1 6 Mz hIz) kS_X12_within (by decide +kernel) (Nat.le_of_ble_eq_true rfl) m_1427 rfl rfl (by decide) (Nat.le_of_ble_eq_true rfl) dX12_told_4 (fun r1_ M2_ q3_ => ?_)
  obtain ⟨rfl, h4_⟩ := q3_
  rcases h4_ with ⟨rfl, h4_⟩ | ⟨rfl, h4_⟩
  · simp only [li_1, li_6] at h4_
    refine w_if_eq (tgt := 19) dX12_told_7 (by decide) li_1 (fun h9 => (absurd h9 (by decide))) (fun h5_ => ?_)
    refine w_aload_n dX12_told_10 rfl 0 rfl ?_
    refine w_getR (c' := (53, 0, 0)) fl_RX12_19 rfl rfl ic_12 dX12_told_11 rfl ?_
    refine w_iload_n dX12_told_14 rfl 1 rfl ?_
    refine w_iald rfl rfl ic_53 (rfl : v.toInt = v.toInt) (lf_c_X12_told_0 v h4_) dX12_told_15 (fun j8_ h9_ z6_ e7_ => ?_)
    refine w_goto (tgt := 25) dX12_told_16 (by decide) ?_
    exact w_iret rfl dX12_told_25 ⟨hIz, hFz, trivial⟩
  · simp only [li_1, li_6] at h4_
    refine w_if_eq (tgt := 19) dX12_told_7 (by decide) li_0 (fun h10_ => ?_) (fun h9 => (absurd h9 (by decide)))
    refine w_aload_n dX12_told_19 rfl 0 rfl ?_
    refine w_ldc (v := (-1000001)) m_1433 dX12_told_20 ?_
    refine w_callV (as := [vI (-1000001)]) (rest := []) (c_X12_finding l G cy ad d (-1000001) Mz hIz (by first | decide | (unfold vF; omega) | (unfold vRw; omega))) kV_X12_finding (by decide +kernel) (Nat.le_of_ble_eq_true rfl) m_1434 rfl rfl rfl ic_12 rfl rfl (by decide) (Nat.le_of_ble_eq_true rfl) dX12_told_22 (fun r11_ M12_ q13_ => ?_)
    obtain ⟨hI15_, hF16_, h14_⟩ := q13_
    have hF17_ := hFz.tr hF16_ (fun c k => (fun h => h.elim (fun h => (Or.inl ⟨h.1, h.2⟩)) (fun h => h.elim)))
    simp only [li_m1000001] at h14_
    exact w_iret rfl dX12_told_25 ⟨hI15_, hF17_, trivial⟩
def S_c_X12_trace : rf → Nat → Prop := fun c k => (c.1 = 53 ∧ c.2.1 = 0) ∨ False
theorem lf_c_X12_trace_0 (Mz : mM) (z1_ : Int32) (e2_ : z1_ = Mz.1 (12, 0, 0) 26) (h3_ : 0 ≤ z1_.toInt ∧ z1_.toInt ≤ 30) : -2147483648 ≤ z1_.toInt - 1 ∧ z1_.toInt - 1 < 2147483648 := by have r_z1_ := rngI z1_; subst e2_; omega
theorem lf_c_X12_trace_1 (Mz : mM) (v : Int32) (z1_ : Int32) (z4_ : Int32) (e2_ : z1_ = Mz.1 (12, 0, 0) 26) (h3_ : 0 ≤ z1_.toInt ∧ z1_.toInt ≤ 30) (h5_ : z4_.toInt = z1_.toInt - 1) (h9_ : 0 ≤ v.toInt ∧ v.toInt ≤ z4_.toInt) : 0 ≤ v.toInt ∧ v.toInt < ((30 : Nat) : Int) := by have r_v := rngI v; have r_z1_ := rngI z1_; have r_z4_ := rngI z4_; subst e2_; omega
set_option maxHeartbeats 4000000 in
set_option maxRecDepth 100000 in
theorem c_X12_trace (l : Launch) (G : va_G) (cy : Nat → ClassId) (ad : rf → Nat) (d : Nat) (v : Int32) (Mz : mM) (hIz : InvD Mz) : WP DD l G cy ad yX12_trace cX12_trace 2 (some .int) (d + 1) 0 [(0, vR (12, 0, 0)), (1, vI v)] [] Mz (fun r M' => InvD M' ∧ FR (S_c_X12_trace) Mz M' ∧ True) := by
  have hFz : FR (S_c_X12_trace) Mz Mz := FR.self
  refine w_iload_n dX12_trace_0 rfl 1 rfl ?_
  refine w_iconst (v := 0) dX12_trace_1 (by decide) ?_
  refine w_aload_n dX12_trace_2 rfl 0 rfl ?_
  refine w_getI fl_RX12_324 rfl rfl ic_12 dX12_trace_3 (fun z1_ e2_ => ?_)
  have h3_ : 0 ≤ z1_.toInt ∧ z1_.toInt ≤ 30 := ofEq (P := fun v => 0 ≤ v.toInt ∧ v.toInt ≤ 30) e2_ (hIz.1 (12, 0, 0) 26)
  refine w_iconst (v := 1) dX12_trace_6 (by decide) ?_
  refine w_isubB dX12_trace_7 (rfl : z1_.toInt = z1_.toInt) li_1 (lf_c_X12_trace_0 Mz z1_ e2_ h3_) (fun z4_ h5_ => ?_)
  refine w_callS (as := [vI v, vI 0, vI z4_]) (rest := []) (c_X12_within l G cy ad d v 0 z4_ Mz hIz) kS_X12_within (by decide +kernel) (Nat.le_of_ble_eq_true rfl) m_1427 rfl rfl (by decide) (Nat.le_of_ble_eq_true rfl) dX12_trace_8 (fun r6_ M7_ q8_ => ?_)
  obtain ⟨rfl, h9_⟩ := q8_
  rcases h9_ with ⟨rfl, h9_⟩ | ⟨rfl, h9_⟩
  · simp only [li_0] at h9_
    refine w_if_eq (tgt := 23) dX12_trace_11 (by decide) li_1 (fun h9 => (absurd h9 (by decide))) (fun h10_ => ?_)
    refine w_aload_n dX12_trace_14 rfl 0 rfl ?_
    refine w_getR (c' := (65, 0, 0)) fl_RX12_69 rfl rfl ic_12 dX12_trace_15 rfl ?_
    refine w_iload_n dX12_trace_18 rfl 1 rfl ?_
    refine w_iald rfl rfl ic_65 (rfl : v.toInt = v.toInt) (lf_c_X12_trace_1 Mz v z1_ z4_ e2_ h3_ h5_ h9_) dX12_trace_19 (fun j13_ h14_ z11_ e12_ => ?_)
    refine w_goto (tgt := 29) dX12_trace_20 (by decide) ?_
    exact w_iret rfl dX12_trace_29 ⟨hIz, hFz, trivial⟩
  · simp only [li_0] at h9_
    refine w_if_eq (tgt := 23) dX12_trace_11 (by decide) li_0 (fun h15_ => ?_) (fun h9 => (absurd h9 (by decide)))
    refine w_aload_n dX12_trace_23 rfl 0 rfl ?_
    refine w_ldc (v := (-1000002)) m_1500 dX12_trace_24 ?_
    refine w_callV (as := [vI (-1000002)]) (rest := []) (c_X12_finding l G cy ad d (-1000002) Mz hIz (by first | decide | (unfold vF; omega) | (unfold vRw; omega))) kV_X12_finding (by decide +kernel) (Nat.le_of_ble_eq_true rfl) m_1434 rfl rfl rfl ic_12 rfl rfl (by decide) (Nat.le_of_ble_eq_true rfl) dX12_trace_26 (fun r16_ M17_ q18_ => ?_)
    obtain ⟨hI20_, hF21_, h19_⟩ := q18_
    have hF22_ := hFz.tr hF21_ (fun c k => (fun h => h.elim (fun h => (Or.inl ⟨h.1, h.2⟩)) (fun h => h.elim)))
    simp only [li_m1000002] at h19_
    exact w_iret rfl dX12_trace_29 ⟨hI20_, hF22_, trivial⟩
def S_c_X12_began : rf → Nat → Prop := fun c k => (c.1 = 65 ∧ c.2.1 = 0) ∨ (c.1 = 12 ∧ c.2.1 = 0 ∧ k = 26) ∨ False
theorem lf_c_X12_began_0 (Mz : mM) (z1_ : Int32) (e2_ : z1_ = Mz.1 (12, 0, 0) 26) (h3_ : 0 ≤ z1_.toInt ∧ z1_.toInt ≤ 30) (h4_ : z1_.toInt < 30) : 0 ≤ z1_.toInt ∧ z1_.toInt < ((30 : Nat) : Int) := by have r_z1_ := rngI z1_; subst e2_; omega
theorem lf_c_X12_began_1 (M7_ : mM) (z13_ : Int32) (e14_ : z13_ = M7_.1 (12, 0, 0) 26) (h15_ : 0 ≤ z13_.toInt ∧ z13_.toInt ≤ 30) : -2147483648 ≤ z13_.toInt + 1 ∧ z13_.toInt + 1 < 2147483648 := by have r_z13_ := rngI z13_; subst e14_; omega
theorem lf_c_X12_began_2 (M18_ : mM) (M7_ : mM) (z13_ : Int32) (z16_ : Int32) (e14_ : z13_ = M7_.1 (12, 0, 0) 26) (h15_ : 0 ≤ z13_.toInt ∧ z13_.toInt ≤ 30) (h17_ : z16_.toInt = z13_.toInt + 1) (hM19_ : M18_ = up M7_ (12, 0, 0) 26 z16_) : 0 ≤ z16_.toInt ∧ z16_.toInt ≤ 30 := by have r_z13_ := rngI z13_; have r_z16_ := rngI z16_; subst e14_; omega
set_option maxHeartbeats 4000000 in
set_option maxRecDepth 100000 in
theorem c_X12_began (l : Launch) (G : va_G) (cy : Nat → ClassId) (ad : rf → Nat) (d : Nat) (v : Int32) (Mz : mM) (hIz : InvD Mz) : WP DD l G cy ad yX12_began cX12_began 2 none d 0 [(0, vR (12, 0, 0)), (1, vI v)] [] Mz (fun r M' => InvD M' ∧ FR (S_c_X12_began) Mz M' ∧ True) := by
  have hFz : FR (S_c_X12_began) Mz Mz := FR.self
  refine w_aload_n dX12_began_0 rfl 0 rfl ?_
  refine w_getI fl_RX12_324 rfl rfl ic_12 dX12_began_1 (fun z1_ e2_ => ?_)
  have h3_ : 0 ≤ z1_.toInt ∧ z1_.toInt ≤ 30 := ofEq (P := fun v => 0 ≤ v.toInt ∧ v.toInt ≤ 30) e2_ (hIz.1 (12, 0, 0) 26)
  refine w_bipush (v := 30) dX12_began_4 (by decide) ?_
  refine w_icmp_ge (tgt := 29) dX12_began_6 (by decide) (rfl : z1_.toInt = z1_.toInt) li_30 (fun h4_ => ?_) (fun h4_ => ?_)
  · exact w_vret rfl dX12_began_29 ⟨hIz, hFz, trivial⟩
  · refine w_aload_n dX12_began_9 rfl 0 rfl ?_
    refine w_getR (c' := (65, 0, 0)) fl_RX12_69 rfl rfl ic_12 dX12_began_10 rfl ?_
    refine w_aload_n dX12_began_13 rfl 0 rfl ?_
    refine w_getI fl_RX12_324 rfl rfl ic_12 dX12_began_14 (fun z5_ e6_ => ?_)
    obtain rfl : z1_ = z5_ := e2_.trans e6_.symm
    refine w_iload_n dX12_began_17 rfl 1 rfl ?_
    refine w_iast DD_nd rfl rfl ic_65 (rfl : z1_.toInt = z1_.toInt) (lf_c_X12_began_0 Mz z1_ e2_ h3_ h4_) dX12_began_18 (fun j9_ h10_ M7_ hM8_ => ?_)
    have hI11_ := hIz.put hM8_ ⟨trivial, Or.inr (by decide)⟩
    have hF12_ := hFz.put hM8_ (Or.inl ⟨rfl, rfl⟩)
    refine w_aload_n dX12_began_19 rfl 0 rfl ?_
    refine w_dup dX12_began_20 rfl ?_
    refine w_getI fl_RX12_324 rfl rfl ic_12 dX12_began_21 (fun z13_ e14_ => ?_)
    have h15_ : 0 ≤ z13_.toInt ∧ z13_.toInt ≤ 30 := ofEq (P := fun v => 0 ≤ v.toInt ∧ v.toInt ≤ 30) e14_ (hI11_.1 (12, 0, 0) 26)
    refine w_iconst (v := 1) dX12_began_24 (by decide) ?_
    refine w_iaddB dX12_began_25 (rfl : z13_.toInt = z13_.toInt) li_1 (lf_c_X12_began_1 M7_ z13_ e14_ h15_) (fun z16_ h17_ => ?_)
    refine w_putI DD_nd fl_RX12_324 rfl rfl ic_12 dX12_began_26 (fun M18_ hM19_ => ?_)
    have hI20_ := hI11_.put hM19_ ⟨(lf_c_X12_began_2 M18_ M7_ z13_ z16_ e14_ h15_ h17_ hM19_), Or.inl (by decide)⟩
    have hF21_ := hF12_.put hM19_ (Or.inr (Or.inl ⟨rfl, rfl, rfl⟩))
    exact w_vret rfl dX12_began_29 ⟨hI20_, hF21_, trivial⟩
