def S_here : rf → Nat → Prop := fun c k => (c.1 = 12 ∧ c.2.1 = 0 ∧ k = 9) ∨ False
def S_codes : rf → Nat → Prop := fun c k => (c.1 = 12 ∧ c.2.1 = 0 ∧ k = 14) ∨ (c.1 = 57 ∧ c.2.1 = 0) ∨ False
def S_must : rf → Nat → Prop := fun c k => (c.1 = 12 ∧ c.2.1 = 0 ∧ k = 9) ∨ (c.1 = 12 ∧ c.2.1 = 0 ∧ k = 13) ∨ False
def ST_X12_here_0 (s : Int) (D : Nat) (a : Int) (T : Int) (Mz : mM) (M_0 : mM) (M_0y : mM) : Prop := (InvD M_0) ∧ (FR (S_here) Mz M_0) ∧ ∃ z2_ : Int32, (z2_ = M_0.1 (12, 0, 0) 13) ∧ (0 ≤ z2_.toInt ∧ z2_.toInt ≤ 1) ∧ (z2_.toInt = 0) ∧ ∃ z9_ : Int32, (z9_ = M_0.1 (12, 0, 0) 9) ∧ (0 ≤ z9_.toInt ∧ z9_.toInt ≤ 48) ∧ ∃ z12_ : Int32, (z12_ = M_0.1 (50, 0, 0) 4) ∧ (0 ≤ z12_.toInt ∧ z12_.toInt ≤ 48) ∧ (z9_.toInt < z12_.toInt) ∧ ∃ z35_ : Int32, (z35_.toInt = 273 + z9_.toInt) ∧ ∃ j39_ : Nat, ((j39_ : Int) = z35_.toInt) ∧ ∃ z37_ : Int32, (z37_ = M_0.1 (50, 0, 0) j39_) ∧ (z37_.toInt = 32) ∧ ∃ z61_ : Int32, (z61_.toInt = z9_.toInt + 1) ∧ ∃ M63_ : mM, (M63_ = up M_0 (12, 0, 0) 9 z61_) ∧ (PP M63_ s D a T) ∧ M_0y = M63_
def SP_X12_here (s : Int) (D : Nat) (a : Int) (T : Int) (Mz : mM) (r_ : Int32) (M_ : mM) : Prop := ∃ M_0 : mM, (RCH (fun x_ y_ => ST_X12_here_0 s D a T Mz x_ y_) Mz M_0) ∧ (InvD M_0) ∧ (FR (S_here) Mz M_0) ∧ ∃ z2_ : Int32, (z2_ = M_0.1 (12, 0, 0) 13) ∧ (0 ≤ z2_.toInt ∧ z2_.toInt ≤ 1) ∧ (((¬ z2_.toInt = 0) ∧ (¬ z2_.toInt = 0) ∧ r_ = (-1) ∧ M_ = M_0) ∨ ((z2_.toInt = 0) ∧ ∃ z9_ : Int32, (z9_ = M_0.1 (12, 0, 0) 9) ∧ (0 ≤ z9_.toInt ∧ z9_.toInt ≤ 48) ∧ ∃ z12_ : Int32, (z12_ = M_0.1 (50, 0, 0) 4) ∧ (0 ≤ z12_.toInt ∧ z12_.toInt ≤ 48) ∧ (((z12_.toInt ≤ z9_.toInt) ∧ (z2_.toInt = 0) ∧ ∃ z21_ : Int32, (z21_ = M_0.1 (50, 0, 0) 4) ∧ (0 ≤ z21_.toInt ∧ z21_.toInt ≤ 48) ∧ (((z21_.toInt ≤ z9_.toInt) ∧ r_ = (-1) ∧ M_ = M_0) ∨ ((z9_.toInt < z21_.toInt) ∧ ∃ z27_ : Int32, (z27_.toInt = 273 + z9_.toInt) ∧ ∃ j31_ : Nat, ((j31_ : Int) = z27_.toInt) ∧ ∃ z29_ : Int32, (z29_ = M_0.1 (50, 0, 0) j31_) ∧ r_ = z29_ ∧ M_ = M_0))) ∨ ((z9_.toInt < z12_.toInt) ∧ ∃ z35_ : Int32, (z35_.toInt = 273 + z9_.toInt) ∧ ∃ j39_ : Nat, ((j39_ : Int) = z35_.toInt) ∧ ∃ z37_ : Int32, (z37_ = M_0.1 (50, 0, 0) j39_) ∧ (¬ z37_.toInt = 32) ∧ (z2_.toInt = 0) ∧ ∃ z47_ : Int32, (z47_ = M_0.1 (50, 0, 0) 4) ∧ (0 ≤ z47_.toInt ∧ z47_.toInt ≤ 48) ∧ (((z47_.toInt ≤ z9_.toInt) ∧ r_ = (-1) ∧ M_ = M_0) ∨ ((z9_.toInt < z47_.toInt) ∧ ∃ z53_ : Int32, (z53_.toInt = 273 + z9_.toInt) ∧ ∃ j57_ : Nat, ((j57_ : Int) = z53_.toInt) ∧ ∃ z55_ : Int32, (z55_ = M_0.1 (50, 0, 0) j57_) ∧ r_ = z55_ ∧ M_ = M_0))))))
theorem lf_c_X12_here_0 (M_0 : mM) (z2_ : Int32) (e3_ : z2_ = M_0.1 (12, 0, 0) 13) (h4_ : 0 ≤ z2_.toInt ∧ z2_.toInt ≤ 1) (h5_ : ¬ z2_.toInt = 0) (h9 : z2_.toInt = 0) : False := by have r_z2_ := rngI z2_; subst e3_; omega
theorem lf_c_X12_here_1 (M_0 : mM) (z2_ : Int32) (e3_ : z2_ = M_0.1 (12, 0, 0) 13) (h4_ : 0 ≤ z2_.toInt ∧ z2_.toInt ≤ 1) (h5_ : z2_.toInt = 0) (h9 : ¬ z2_.toInt = 0) : False := by have r_z2_ := rngI z2_; subst e3_; omega
theorem lf_c_X12_here_2 (M_0 : mM) (z9_ : Int32) (z12_ : Int32) (z21_ : Int32) (e10_ : z9_ = M_0.1 (12, 0, 0) 9) (h11_ : 0 ≤ z9_.toInt ∧ z9_.toInt ≤ 48) (e13_ : z12_ = M_0.1 (50, 0, 0) 4) (h14_ : 0 ≤ z12_.toInt ∧ z12_.toInt ≤ 48) (h15_ : z12_.toInt ≤ z9_.toInt) (e22_ : z21_ = M_0.1 (50, 0, 0) 4) (h23_ : 0 ≤ z21_.toInt ∧ z21_.toInt ≤ 48) (h24_ : z9_.toInt < z21_.toInt) : -2147483648 ≤ 273 + z9_.toInt ∧ 273 + z9_.toInt < 2147483648 := by have r_z9_ := rngI z9_; have r_z12_ := rngI z12_; have r_z21_ := rngI z21_; subst e10_; subst e13_; subst e22_; omega
theorem lf_c_X12_here_3 (M_0 : mM) (z9_ : Int32) (z12_ : Int32) (z21_ : Int32) (z27_ : Int32) (e10_ : z9_ = M_0.1 (12, 0, 0) 9) (h11_ : 0 ≤ z9_.toInt ∧ z9_.toInt ≤ 48) (e13_ : z12_ = M_0.1 (50, 0, 0) 4) (h14_ : 0 ≤ z12_.toInt ∧ z12_.toInt ≤ 48) (h15_ : z12_.toInt ≤ z9_.toInt) (e22_ : z21_ = M_0.1 (50, 0, 0) 4) (h23_ : 0 ≤ z21_.toInt ∧ z21_.toInt ≤ 48) (h24_ : z9_.toInt < z21_.toInt) (h28_ : z27_.toInt = 273 + z9_.toInt) : 0 ≤ z27_.toInt ∧ z27_.toInt < ((3567 : Nat) : Int) := by have r_z9_ := rngI z9_; have r_z12_ := rngI z12_; have r_z21_ := rngI z21_; have r_z27_ := rngI z27_; subst e10_; subst e13_; subst e22_; omega
theorem lf_c_X12_here_4 (M_0 : mM) (z2_ : Int32) (e3_ : z2_ = M_0.1 (12, 0, 0) 13) (h4_ : 0 ≤ z2_.toInt ∧ z2_.toInt ≤ 1) (h5_ : z2_.toInt = 0) (h18_ : z2_.toInt = 0) : z2_.toInt = 0 := by have r_z2_ := rngI z2_; subst e3_; omega
theorem lf_c_X12_here_5 (M_0 : mM) (z9_ : Int32) (z12_ : Int32) (z21_ : Int32) (z27_ : Int32) (j31_ : Nat) (z29_ : Int32) (e10_ : z9_ = M_0.1 (12, 0, 0) 9) (h11_ : 0 ≤ z9_.toInt ∧ z9_.toInt ≤ 48) (e13_ : z12_ = M_0.1 (50, 0, 0) 4) (h14_ : 0 ≤ z12_.toInt ∧ z12_.toInt ≤ 48) (h15_ : z12_.toInt ≤ z9_.toInt) (e22_ : z21_ = M_0.1 (50, 0, 0) 4) (h23_ : 0 ≤ z21_.toInt ∧ z21_.toInt ≤ 48) (h24_ : z9_.toInt < z21_.toInt) (h28_ : z27_.toInt = 273 + z9_.toInt) (h32_ : (j31_ : Int) = z27_.toInt) (e30_ : z29_ = M_0.1 (50, 0, 0) j31_) : z9_.toInt < z21_.toInt := by have r_z9_ := rngI z9_; have r_z12_ := rngI z12_; have r_z21_ := rngI z21_; have r_z27_ := rngI z27_; have r_z29_ := rngI z29_; subst e10_; subst e13_; subst e22_; subst e30_; omega
theorem lf_c_X12_here_6 (M_0 : mM) (z9_ : Int32) (z12_ : Int32) (z21_ : Int32) (z27_ : Int32) (j31_ : Nat) (z29_ : Int32) (e10_ : z9_ = M_0.1 (12, 0, 0) 9) (h11_ : 0 ≤ z9_.toInt ∧ z9_.toInt ≤ 48) (e13_ : z12_ = M_0.1 (50, 0, 0) 4) (h14_ : 0 ≤ z12_.toInt ∧ z12_.toInt ≤ 48) (h15_ : z12_.toInt ≤ z9_.toInt) (e22_ : z21_ = M_0.1 (50, 0, 0) 4) (h23_ : 0 ≤ z21_.toInt ∧ z21_.toInt ≤ 48) (h24_ : z9_.toInt < z21_.toInt) (h28_ : z27_.toInt = 273 + z9_.toInt) (h32_ : (j31_ : Int) = z27_.toInt) (e30_ : z29_ = M_0.1 (50, 0, 0) j31_) : (j31_ : Int) = 273 + z9_.toInt := by have r_z9_ := rngI z9_; have r_z12_ := rngI z12_; have r_z21_ := rngI z21_; have r_z27_ := rngI z27_; have r_z29_ := rngI z29_; subst e10_; subst e13_; subst e22_; subst e30_; omega
theorem lf_c_X12_here_7 (M_0 : mM) (z9_ : Int32) (z12_ : Int32) (e10_ : z9_ = M_0.1 (12, 0, 0) 9) (h11_ : 0 ≤ z9_.toInt ∧ z9_.toInt ≤ 48) (e13_ : z12_ = M_0.1 (50, 0, 0) 4) (h14_ : 0 ≤ z12_.toInt ∧ z12_.toInt ≤ 48) (h15_ : z9_.toInt < z12_.toInt) : -2147483648 ≤ 273 + z9_.toInt ∧ 273 + z9_.toInt < 2147483648 := by have r_z9_ := rngI z9_; have r_z12_ := rngI z12_; subst e10_; subst e13_; omega
theorem lf_c_X12_here_8 (M_0 : mM) (z9_ : Int32) (z12_ : Int32) (z35_ : Int32) (e10_ : z9_ = M_0.1 (12, 0, 0) 9) (h11_ : 0 ≤ z9_.toInt ∧ z9_.toInt ≤ 48) (e13_ : z12_ = M_0.1 (50, 0, 0) 4) (h14_ : 0 ≤ z12_.toInt ∧ z12_.toInt ≤ 48) (h15_ : z9_.toInt < z12_.toInt) (h36_ : z35_.toInt = 273 + z9_.toInt) : 0 ≤ z35_.toInt ∧ z35_.toInt < ((3567 : Nat) : Int) := by have r_z9_ := rngI z9_; have r_z12_ := rngI z12_; have r_z35_ := rngI z35_; subst e10_; subst e13_; omega
theorem lf_c_X12_here_9 (M_0 : mM) (z2_ : Int32) (e3_ : z2_ = M_0.1 (12, 0, 0) 13) (h4_ : 0 ≤ z2_.toInt ∧ z2_.toInt ≤ 1) (h5_ : z2_.toInt = 0) (h9 : ¬ z2_.toInt = 0) : False := by have r_z2_ := rngI z2_; subst e3_; omega
theorem lf_c_X12_here_10 (M_0 : mM) (z9_ : Int32) (z12_ : Int32) (z35_ : Int32) (j39_ : Nat) (z37_ : Int32) (z47_ : Int32) (e10_ : z9_ = M_0.1 (12, 0, 0) 9) (h11_ : 0 ≤ z9_.toInt ∧ z9_.toInt ≤ 48) (e13_ : z12_ = M_0.1 (50, 0, 0) 4) (h14_ : 0 ≤ z12_.toInt ∧ z12_.toInt ≤ 48) (h15_ : z9_.toInt < z12_.toInt) (h36_ : z35_.toInt = 273 + z9_.toInt) (h40_ : (j39_ : Int) = z35_.toInt) (e38_ : z37_ = M_0.1 (50, 0, 0) j39_) (h41_ : ¬ z37_.toInt = 32) (e48_ : z47_ = M_0.1 (50, 0, 0) 4) (h49_ : 0 ≤ z47_.toInt ∧ z47_.toInt ≤ 48) (h50_ : z9_.toInt < z47_.toInt) : -2147483648 ≤ 273 + z9_.toInt ∧ 273 + z9_.toInt < 2147483648 := by have r_z9_ := rngI z9_; have r_z12_ := rngI z12_; have r_z35_ := rngI z35_; have r_z37_ := rngI z37_; have r_z47_ := rngI z47_; subst e10_; subst e13_; subst e38_; subst e48_; omega
theorem lf_c_X12_here_11 (M_0 : mM) (z9_ : Int32) (z12_ : Int32) (z35_ : Int32) (j39_ : Nat) (z37_ : Int32) (z47_ : Int32) (z53_ : Int32) (e10_ : z9_ = M_0.1 (12, 0, 0) 9) (h11_ : 0 ≤ z9_.toInt ∧ z9_.toInt ≤ 48) (e13_ : z12_ = M_0.1 (50, 0, 0) 4) (h14_ : 0 ≤ z12_.toInt ∧ z12_.toInt ≤ 48) (h15_ : z9_.toInt < z12_.toInt) (h36_ : z35_.toInt = 273 + z9_.toInt) (h40_ : (j39_ : Int) = z35_.toInt) (e38_ : z37_ = M_0.1 (50, 0, 0) j39_) (h41_ : ¬ z37_.toInt = 32) (e48_ : z47_ = M_0.1 (50, 0, 0) 4) (h49_ : 0 ≤ z47_.toInt ∧ z47_.toInt ≤ 48) (h50_ : z9_.toInt < z47_.toInt) (h54_ : z53_.toInt = 273 + z9_.toInt) : 0 ≤ z53_.toInt ∧ z53_.toInt < ((3567 : Nat) : Int) := by have r_z9_ := rngI z9_; have r_z12_ := rngI z12_; have r_z35_ := rngI z35_; have r_z37_ := rngI z37_; have r_z47_ := rngI z47_; have r_z53_ := rngI z53_; subst e10_; subst e13_; subst e38_; subst e48_; omega
theorem lf_c_X12_here_12 (M_0 : mM) (z2_ : Int32) (e3_ : z2_ = M_0.1 (12, 0, 0) 13) (h4_ : 0 ≤ z2_.toInt ∧ z2_.toInt ≤ 1) (h5_ : z2_.toInt = 0) (h44_ : z2_.toInt = 0) : z2_.toInt = 0 := by have r_z2_ := rngI z2_; subst e3_; omega
theorem lf_c_X12_here_13 (M_0 : mM) (z9_ : Int32) (z12_ : Int32) (z35_ : Int32) (j39_ : Nat) (z37_ : Int32) (z47_ : Int32) (z53_ : Int32) (j57_ : Nat) (z55_ : Int32) (e10_ : z9_ = M_0.1 (12, 0, 0) 9) (h11_ : 0 ≤ z9_.toInt ∧ z9_.toInt ≤ 48) (e13_ : z12_ = M_0.1 (50, 0, 0) 4) (h14_ : 0 ≤ z12_.toInt ∧ z12_.toInt ≤ 48) (h15_ : z9_.toInt < z12_.toInt) (h36_ : z35_.toInt = 273 + z9_.toInt) (h40_ : (j39_ : Int) = z35_.toInt) (e38_ : z37_ = M_0.1 (50, 0, 0) j39_) (h41_ : ¬ z37_.toInt = 32) (e48_ : z47_ = M_0.1 (50, 0, 0) 4) (h49_ : 0 ≤ z47_.toInt ∧ z47_.toInt ≤ 48) (h50_ : z9_.toInt < z47_.toInt) (h54_ : z53_.toInt = 273 + z9_.toInt) (h58_ : (j57_ : Int) = z53_.toInt) (e56_ : z55_ = M_0.1 (50, 0, 0) j57_) : z9_.toInt < z47_.toInt := by have r_z9_ := rngI z9_; have r_z12_ := rngI z12_; have r_z35_ := rngI z35_; have r_z37_ := rngI z37_; have r_z47_ := rngI z47_; have r_z53_ := rngI z53_; have r_z55_ := rngI z55_; subst e10_; subst e13_; subst e38_; subst e48_; subst e56_; omega
theorem lf_c_X12_here_14 (M_0 : mM) (z9_ : Int32) (z12_ : Int32) (z35_ : Int32) (j39_ : Nat) (z37_ : Int32) (z47_ : Int32) (z53_ : Int32) (j57_ : Nat) (z55_ : Int32) (e10_ : z9_ = M_0.1 (12, 0, 0) 9) (h11_ : 0 ≤ z9_.toInt ∧ z9_.toInt ≤ 48) (e13_ : z12_ = M_0.1 (50, 0, 0) 4) (h14_ : 0 ≤ z12_.toInt ∧ z12_.toInt ≤ 48) (h15_ : z9_.toInt < z12_.toInt) (h36_ : z35_.toInt = 273 + z9_.toInt) (h40_ : (j39_ : Int) = z35_.toInt) (e38_ : z37_ = M_0.1 (50, 0, 0) j39_) (h41_ : ¬ z37_.toInt = 32) (e48_ : z47_ = M_0.1 (50, 0, 0) 4) (h49_ : 0 ≤ z47_.toInt ∧ z47_.toInt ≤ 48) (h50_ : z9_.toInt < z47_.toInt) (h54_ : z53_.toInt = 273 + z9_.toInt) (h58_ : (j57_ : Int) = z53_.toInt) (e56_ : z55_ = M_0.1 (50, 0, 0) j57_) : (j57_ : Int) = 273 + z9_.toInt := by have r_z9_ := rngI z9_; have r_z12_ := rngI z12_; have r_z35_ := rngI z35_; have r_z37_ := rngI z37_; have r_z47_ := rngI z47_; have r_z53_ := rngI z53_; have r_z55_ := rngI z55_; subst e10_; subst e13_; subst e38_; subst e48_; subst e56_; omega
theorem lf_c_X12_here_15 (M_0 : mM) (z9_ : Int32) (z12_ : Int32) (z35_ : Int32) (j39_ : Nat) (z37_ : Int32) (e10_ : z9_ = M_0.1 (12, 0, 0) 9) (h11_ : 0 ≤ z9_.toInt ∧ z9_.toInt ≤ 48) (e13_ : z12_ = M_0.1 (50, 0, 0) 4) (h14_ : 0 ≤ z12_.toInt ∧ z12_.toInt ≤ 48) (h15_ : z9_.toInt < z12_.toInt) (h36_ : z35_.toInt = 273 + z9_.toInt) (h40_ : (j39_ : Int) = z35_.toInt) (e38_ : z37_ = M_0.1 (50, 0, 0) j39_) (h41_ : z37_.toInt = 32) : -2147483648 ≤ z9_.toInt + 1 ∧ z9_.toInt + 1 < 2147483648 := by have r_z9_ := rngI z9_; have r_z12_ := rngI z12_; have r_z35_ := rngI z35_; have r_z37_ := rngI z37_; subst e10_; subst e13_; subst e38_; omega
theorem lf_c_X12_here_16 (M63_ : mM) (M_0 : mM) (z9_ : Int32) (z12_ : Int32) (z35_ : Int32) (j39_ : Nat) (z37_ : Int32) (z61_ : Int32) (e10_ : z9_ = M_0.1 (12, 0, 0) 9) (h11_ : 0 ≤ z9_.toInt ∧ z9_.toInt ≤ 48) (e13_ : z12_ = M_0.1 (50, 0, 0) 4) (h14_ : 0 ≤ z12_.toInt ∧ z12_.toInt ≤ 48) (h15_ : z9_.toInt < z12_.toInt) (h36_ : z35_.toInt = 273 + z9_.toInt) (h40_ : (j39_ : Int) = z35_.toInt) (e38_ : z37_ = M_0.1 (50, 0, 0) j39_) (h41_ : z37_.toInt = 32) (h62_ : z61_.toInt = z9_.toInt + 1) (hM64_ : M63_ = up M_0 (12, 0, 0) 9 z61_) : 0 ≤ z61_.toInt ∧ z61_.toInt ≤ 48 := by have r_z9_ := rngI z9_; have r_z12_ := rngI z12_; have r_z35_ := rngI z35_; have r_z37_ := rngI z37_; have r_z61_ := rngI z61_; subst e10_; subst e13_; subst e38_; omega
theorem lf_c_X12_here_17 (M63_ : mM) (M_0 : mM) (z9_ : Int32) (z12_ : Int32) (z35_ : Int32) (j39_ : Nat) (z37_ : Int32) (z61_ : Int32) (e10_ : z9_ = M_0.1 (12, 0, 0) 9) (h11_ : 0 ≤ z9_.toInt ∧ z9_.toInt ≤ 48) (e13_ : z12_ = M_0.1 (50, 0, 0) 4) (h14_ : 0 ≤ z12_.toInt ∧ z12_.toInt ≤ 48) (h15_ : z9_.toInt < z12_.toInt) (h36_ : z35_.toInt = 273 + z9_.toInt) (h40_ : (j39_ : Int) = z35_.toInt) (e38_ : z37_ = M_0.1 (50, 0, 0) j39_) (h41_ : z37_.toInt = 32) (h62_ : z61_.toInt = z9_.toInt + 1) (hM64_ : M63_ = up M_0 (12, 0, 0) 9 z61_) : z9_.toInt < z12_.toInt := by have r_z9_ := rngI z9_; have r_z12_ := rngI z12_; have r_z35_ := rngI z35_; have r_z37_ := rngI z37_; have r_z61_ := rngI z61_; subst e10_; subst e13_; subst e38_; omega
theorem lf_c_X12_here_18 (M63_ : mM) (M_0 : mM) (z9_ : Int32) (z12_ : Int32) (z35_ : Int32) (j39_ : Nat) (z37_ : Int32) (z61_ : Int32) (e10_ : z9_ = M_0.1 (12, 0, 0) 9) (h11_ : 0 ≤ z9_.toInt ∧ z9_.toInt ≤ 48) (e13_ : z12_ = M_0.1 (50, 0, 0) 4) (h14_ : 0 ≤ z12_.toInt ∧ z12_.toInt ≤ 48) (h15_ : z9_.toInt < z12_.toInt) (h36_ : z35_.toInt = 273 + z9_.toInt) (h40_ : (j39_ : Int) = z35_.toInt) (e38_ : z37_ = M_0.1 (50, 0, 0) j39_) (h41_ : z37_.toInt = 32) (h62_ : z61_.toInt = z9_.toInt + 1) (hM64_ : M63_ = up M_0 (12, 0, 0) 9 z61_) : z61_.toInt = z9_.toInt + 1 := by have r_z9_ := rngI z9_; have r_z12_ := rngI z12_; have r_z35_ := rngI z35_; have r_z37_ := rngI z37_; have r_z61_ := rngI z61_; subst e10_; subst e13_; subst e38_; omega
theorem lf_c_X12_here_19 (M63_ : mM) (s : Int) (D : Nat) (a : Int) (T : Int) (h67_ : PP M63_ (s + 1) D (a + 1) T) : s ≤ (s + 1) := by omega
theorem lf_c_X12_here_20 (M63_ : mM) (s : Int) (D : Nat) (a : Int) (T : Int) (h67_ : PP M63_ (s + 1) D (a + 1) T) : a ≤ (a + 1) := by omega
theorem lf_c_X12_here_21 (M63_ : mM) (M_0 : mM) (z9_ : Int32) (z12_ : Int32) (z35_ : Int32) (j39_ : Nat) (z37_ : Int32) (z61_ : Int32) (e10_ : z9_ = M_0.1 (12, 0, 0) 9) (h11_ : 0 ≤ z9_.toInt ∧ z9_.toInt ≤ 48) (e13_ : z12_ = M_0.1 (50, 0, 0) 4) (h14_ : 0 ≤ z12_.toInt ∧ z12_.toInt ≤ 48) (h15_ : z9_.toInt < z12_.toInt) (h36_ : z35_.toInt = 273 + z9_.toInt) (h40_ : (j39_ : Int) = z35_.toInt) (e38_ : z37_ = M_0.1 (50, 0, 0) j39_) (h41_ : z37_.toInt = 32) (h62_ : z61_.toInt = z9_.toInt + 1) (hM64_ : M63_ = up M_0 (12, 0, 0) 9 z61_) : z61_.toInt = z9_.toInt + 1 := by have r_z9_ := rngI z9_; have r_z12_ := rngI z12_; have r_z35_ := rngI z35_; have r_z37_ := rngI z37_; have r_z61_ := rngI z61_; subst e10_; subst e13_; subst e38_; omega
set_option maxHeartbeats 4000000 in
set_option maxRecDepth 100000 in
theorem c_X12_here (l : Launch) (G : va_G) (cy : Nat → ClassId) (ad : rf → Nat) (d : Nat) (s : Int) (D : Nat) (a : Int) (T : Int) (Mz : mM) (hIz : InvD Mz) (hp : PP Mz s D a T) : WP DD l G cy ad yX12_here cX12_here 1 (some .int) d 0 [(0, vR (12, 0, 0))] [] Mz (fun r M' => InvD M' ∧ FR (S_here) Mz M' ∧ (PP M' s D a T ∧ HB M' r) ∧ SP_X12_here s D a T Mz r M') := by
  have hFz : FR (S_here) Mz Mz := FR.self
  have lp1_ : ∀ (nn_0 : Nat) (M_0 : mM) (hI_0 : InvD M_0) (hF_0 : FR (S_here) Mz M_0) (kv0_0 : PP M_0 s D a T) (hL_0 : RCH (fun x_ y_ => ST_X12_here_0 s D a T Mz x_ y_) Mz M_0), (T - (M_0.1 (12, 0, 0) 9).toInt).toNat < nn_0 → WP DD l G cy ad yX12_here cX12_here 1 (some .int) d 0 [(0, vR (12, 0, 0))] [] M_0 (fun r M' => InvD M' ∧ FR (S_here) Mz M' ∧ (PP M' s D a T ∧ HB M' r) ∧ SP_X12_here s D a T Mz r M') := by
    intro nn_0
    induction nn_0 with
    | zero => intro M_0 hI_0 hF_0 kv0_0 hL_0 hm_0; exact absurd hm_0 (Nat.not_lt_zero _)
    | succ nn_0 ih_0 =>
      intro M_0 hI_0 hF_0 kv0_0 hL_0 hm_0
      refine w_aload_n dX12_here_0 rfl 0 rfl ?_
      refine w_getI fl_RX12_151 rfl rfl ic_12 dX12_here_1 (fun z2_ e3_ => ?_)
      have h4_ : 0 ≤ z2_.toInt ∧ z2_.toInt ≤ 1 := ofEq (P := fun v => 0 ≤ v.toInt ∧ v.toInt ≤ 1) e3_ (hI_0.1 (12, 0, 0) 13)
      refine w_if_ne (tgt := 51) dX12_here_4 (by decide) (rfl : z2_.toInt = z2_.toInt) (fun h5_ => ?_) (fun h5_ => ?_)
      · refine w_aload_n dX12_here_51 rfl 0 rfl ?_
        refine w_getI fl_RX12_151 rfl rfl ic_12 dX12_here_52 (fun z6_ e7_ => ?_)
        obtain rfl : z2_ = z6_ := e3_.trans e7_.symm
        refine w_if_ne (tgt := 87) dX12_here_55 (by decide) (rfl : z2_.toInt = z2_.toInt) (fun h8_ => ?_) (fun h9 => (lf_c_X12_here_0 M_0 z2_ e3_ h4_ h5_ h9).elim)
        refine w_iconst (v := (-1)) dX12_here_87 (by decide) ?_
        exact w_iret rfl dX12_here_88 ⟨hI_0, hF_0, ⟨kv0_0, Or.inl (by decide)⟩, ⟨M_0, hL_0, hI_0, hF_0, z2_, e3_, h4_, (Or.inl ⟨h5_, h8_, rfl, rfl⟩)⟩⟩
      · refine w_aload_n dX12_here_7 rfl 0 rfl ?_
        refine w_getI fl_RX12_155 rfl rfl ic_12 dX12_here_8 (fun z9_ e10_ => ?_)
        have h11_ : 0 ≤ z9_.toInt ∧ z9_.toInt ≤ 48 := ofEq (P := fun v => 0 ≤ v.toInt ∧ v.toInt ≤ 48) e10_ (hI_0.1 (12, 0, 0) 9)
        refine w_aload_n dX12_here_11 rfl 0 rfl ?_
        refine w_getR (c' := (50, 0, 0)) fl_RX12_9 rfl rfl ic_12 dX12_here_12 rfl ?_
        refine w_iconst (v := 4) dX12_here_15 (by decide) ?_
        refine w_ialdL 4 rfl rfl ic_50 li_4 (by decide) dX12_here_16 (fun z12_ e13_ => ?_)
        have h14_ : 0 ≤ z12_.toInt ∧ z12_.toInt ≤ 48 := pn_4 hI_0 e13_
        refine w_icmp_ge (tgt := 51) dX12_here_17 (by decide) (rfl : z9_.toInt = z9_.toInt) (rfl : z12_.toInt = z12_.toInt) (fun h15_ => ?_) (fun h15_ => ?_)
        · refine w_aload_n dX12_here_51 rfl 0 rfl ?_
          refine w_getI fl_RX12_151 rfl rfl ic_12 dX12_here_52 (fun z16_ e17_ => ?_)
          obtain rfl : z2_ = z16_ := e3_.trans e17_.symm
          refine w_if_ne (tgt := 87) dX12_here_55 (by decide) (rfl : z2_.toInt = z2_.toInt) (fun h9 => (lf_c_X12_here_1 M_0 z2_ e3_ h4_ h5_ h9).elim) (fun h18_ => ?_)
          refine w_aload_n dX12_here_58 rfl 0 rfl ?_
          refine w_getI fl_RX12_155 rfl rfl ic_12 dX12_here_59 (fun z19_ e20_ => ?_)
          obtain rfl : z9_ = z19_ := e10_.trans e20_.symm
          refine w_aload_n dX12_here_62 rfl 0 rfl ?_
          refine w_getR (c' := (50, 0, 0)) fl_RX12_9 rfl rfl ic_12 dX12_here_63 rfl ?_
          refine w_iconst (v := 4) dX12_here_66 (by decide) ?_
          refine w_ialdL 4 rfl rfl ic_50 li_4 (by decide) dX12_here_67 (fun z21_ e22_ => ?_)
          have h23_ : 0 ≤ z21_.toInt ∧ z21_.toInt ≤ 48 := pn_4 hI_0 e22_
          refine w_icmp_ge (tgt := 87) dX12_here_68 (by decide) (rfl : z9_.toInt = z9_.toInt) (rfl : z21_.toInt = z21_.toInt) (fun h24_ => ?_) (fun h24_ => ?_)
          · refine w_iconst (v := (-1)) dX12_here_87 (by decide) ?_
            exact w_iret rfl dX12_here_88 ⟨hI_0, hF_0, ⟨kv0_0, Or.inl (by decide)⟩, ⟨M_0, hL_0, hI_0, hF_0, z2_, e3_, h4_, (Or.inr ⟨h5_, z9_, e10_, h11_, z12_, e13_, h14_, (Or.inl ⟨h15_, h18_, z21_, e22_, h23_, (Or.inl ⟨h24_, rfl, rfl⟩)⟩)⟩)⟩⟩
          · refine w_aload_n dX12_here_71 rfl 0 rfl ?_
            refine w_getR (c' := (50, 0, 0)) fl_RX12_9 rfl rfl ic_12 dX12_here_72 rfl ?_
            refine w_sipush (v := 273) dX12_here_75 (by decide) ?_
            refine w_aload_n dX12_here_78 rfl 0 rfl ?_
            refine w_getI fl_RX12_155 rfl rfl ic_12 dX12_here_79 (fun z25_ e26_ => ?_)
            obtain rfl : z9_ = z25_ := e10_.trans e26_.symm
            refine w_iaddB dX12_here_82 li_273 (rfl : z9_.toInt = z9_.toInt) (lf_c_X12_here_2 M_0 z9_ z12_ z21_ e10_ h11_ e13_ h14_ h15_ e22_ h23_ h24_) (fun z27_ h28_ => ?_)
            refine w_iald rfl rfl ic_50 (rfl : z27_.toInt = z27_.toInt) (lf_c_X12_here_3 M_0 z9_ z12_ z21_ z27_ e10_ h11_ e13_ h14_ h15_ e22_ h23_ h24_ h28_) dX12_here_83 (fun j31_ h32_ z29_ e30_ => ?_)
            refine w_goto (tgt := 88) dX12_here_84 (by decide) ?_
            exact w_iret rfl dX12_here_88 ⟨hI_0, hF_0, ⟨kv0_0, HB_in e3_ (lf_c_X12_here_4 M_0 z2_ e3_ h4_ h5_ h18_) e10_ e22_ (lf_c_X12_here_5 M_0 z9_ z12_ z21_ z27_ j31_ z29_ e10_ h11_ e13_ h14_ h15_ e22_ h23_ h24_ h28_ h32_ e30_) e30_ (lf_c_X12_here_6 M_0 z9_ z12_ z21_ z27_ j31_ z29_ e10_ h11_ e13_ h14_ h15_ e22_ h23_ h24_ h28_ h32_ e30_)⟩, ⟨M_0, hL_0, hI_0, hF_0, z2_, e3_, h4_, (Or.inr ⟨h5_, z9_, e10_, h11_, z12_, e13_, h14_, (Or.inl ⟨h15_, h18_, z21_, e22_, h23_, (Or.inr ⟨h24_, z27_, h28_, j31_, h32_, z29_, e30_, rfl, rfl⟩)⟩)⟩)⟩⟩
        · refine w_aload_n dX12_here_20 rfl 0 rfl ?_
          refine w_getR (c' := (50, 0, 0)) fl_RX12_9 rfl rfl ic_12 dX12_here_21 rfl ?_
          refine w_sipush (v := 273) dX12_here_24 (by decide) ?_
          refine w_aload_n dX12_here_27 rfl 0 rfl ?_
          refine w_getI fl_RX12_155 rfl rfl ic_12 dX12_here_28 (fun z33_ e34_ => ?_)
          obtain rfl : z9_ = z33_ := e10_.trans e34_.symm
          refine w_iaddB dX12_here_31 li_273 (rfl : z9_.toInt = z9_.toInt) (lf_c_X12_here_7 M_0 z9_ z12_ e10_ h11_ e13_ h14_ h15_) (fun z35_ h36_ => ?_)
          refine w_iald rfl rfl ic_50 (rfl : z35_.toInt = z35_.toInt) (lf_c_X12_here_8 M_0 z9_ z12_ z35_ e10_ h11_ e13_ h14_ h15_ h36_) dX12_here_32 (fun j39_ h40_ z37_ e38_ => ?_)
          refine w_bipush (v := 32) dX12_here_33 (by decide) ?_
          refine w_icmp_ne (tgt := 51) dX12_here_35 (by decide) (rfl : z37_.toInt = z37_.toInt) li_32 (fun h41_ => ?_) (fun h41_ => ?_)
          · refine w_aload_n dX12_here_51 rfl 0 rfl ?_
            refine w_getI fl_RX12_151 rfl rfl ic_12 dX12_here_52 (fun z42_ e43_ => ?_)
            obtain rfl : z2_ = z42_ := e3_.trans e43_.symm
            refine w_if_ne (tgt := 87) dX12_here_55 (by decide) (rfl : z2_.toInt = z2_.toInt) (fun h9 => (lf_c_X12_here_9 M_0 z2_ e3_ h4_ h5_ h9).elim) (fun h44_ => ?_)
            refine w_aload_n dX12_here_58 rfl 0 rfl ?_
            refine w_getI fl_RX12_155 rfl rfl ic_12 dX12_here_59 (fun z45_ e46_ => ?_)
            obtain rfl : z9_ = z45_ := e10_.trans e46_.symm
            refine w_aload_n dX12_here_62 rfl 0 rfl ?_
            refine w_getR (c' := (50, 0, 0)) fl_RX12_9 rfl rfl ic_12 dX12_here_63 rfl ?_
            refine w_iconst (v := 4) dX12_here_66 (by decide) ?_
            refine w_ialdL 4 rfl rfl ic_50 li_4 (by decide) dX12_here_67 (fun z47_ e48_ => ?_)
            have h49_ : 0 ≤ z47_.toInt ∧ z47_.toInt ≤ 48 := pn_4 hI_0 e48_
            refine w_icmp_ge (tgt := 87) dX12_here_68 (by decide) (rfl : z9_.toInt = z9_.toInt) (rfl : z47_.toInt = z47_.toInt) (fun h50_ => ?_) (fun h50_ => ?_)
            · refine w_iconst (v := (-1)) dX12_here_87 (by decide) ?_
              exact w_iret rfl dX12_here_88 ⟨hI_0, hF_0, ⟨kv0_0, Or.inl (by decide)⟩, ⟨M_0, hL_0, hI_0, hF_0, z2_, e3_, h4_, (Or.inr ⟨h5_, z9_, e10_, h11_, z12_, e13_, h14_, (Or.inr ⟨h15_, z35_, h36_, j39_, h40_, z37_, e38_, h41_, h44_, z47_, e48_, h49_, (Or.inl ⟨h50_, rfl, rfl⟩)⟩)⟩)⟩⟩
            · refine w_aload_n dX12_here_71 rfl 0 rfl ?_
              refine w_getR (c' := (50, 0, 0)) fl_RX12_9 rfl rfl ic_12 dX12_here_72 rfl ?_
              refine w_sipush (v := 273) dX12_here_75 (by decide) ?_
              refine w_aload_n dX12_here_78 rfl 0 rfl ?_
              refine w_getI fl_RX12_155 rfl rfl ic_12 dX12_here_79 (fun z51_ e52_ => ?_)
              obtain rfl : z9_ = z51_ := e10_.trans e52_.symm
              refine w_iaddB dX12_here_82 li_273 (rfl : z9_.toInt = z9_.toInt) (lf_c_X12_here_10 M_0 z9_ z12_ z35_ j39_ z37_ z47_ e10_ h11_ e13_ h14_ h15_ h36_ h40_ e38_ h41_ e48_ h49_ h50_) (fun z53_ h54_ => ?_)
              refine w_iald rfl rfl ic_50 (rfl : z53_.toInt = z53_.toInt) (lf_c_X12_here_11 M_0 z9_ z12_ z35_ j39_ z37_ z47_ z53_ e10_ h11_ e13_ h14_ h15_ h36_ h40_ e38_ h41_ e48_ h49_ h50_ h54_) dX12_here_83 (fun j57_ h58_ z55_ e56_ => ?_)
              refine w_goto (tgt := 88) dX12_here_84 (by decide) ?_
              exact w_iret rfl dX12_here_88 ⟨hI_0, hF_0, ⟨kv0_0, HB_in e3_ (lf_c_X12_here_12 M_0 z2_ e3_ h4_ h5_ h44_) e10_ e48_ (lf_c_X12_here_13 M_0 z9_ z12_ z35_ j39_ z37_ z47_ z53_ j57_ z55_ e10_ h11_ e13_ h14_ h15_ h36_ h40_ e38_ h41_ e48_ h49_ h50_ h54_ h58_ e56_) e56_ (lf_c_X12_here_14 M_0 z9_ z12_ z35_ j39_ z37_ z47_ z53_ j57_ z55_ e10_ h11_ e13_ h14_ h15_ h36_ h40_ e38_ h41_ e48_ h49_ h50_ h54_ h58_ e56_)⟩, ⟨M_0, hL_0, hI_0, hF_0, z2_, e3_, h4_, (Or.inr ⟨h5_, z9_, e10_, h11_, z12_, e13_, h14_, (Or.inr ⟨h15_, z35_, h36_, j39_, h40_, z37_, e38_, h41_, h44_, z47_, e48_, h49_, (Or.inr ⟨h50_, z53_, h54_, j57_, h58_, z55_, e56_, rfl, rfl⟩)⟩)⟩)⟩⟩
          · refine w_aload_n dX12_here_38 rfl 0 rfl ?_
            refine w_dup dX12_here_39 rfl ?_
            refine w_getI fl_RX12_155 rfl rfl ic_12 dX12_here_40 (fun z59_ e60_ => ?_)
            obtain rfl : z9_ = z59_ := e10_.trans e60_.symm
            refine w_iconst (v := 1) dX12_here_43 (by decide) ?_
            refine w_iaddB dX12_here_44 (rfl : z9_.toInt = z9_.toInt) li_1 (lf_c_X12_here_15 M_0 z9_ z12_ z35_ j39_ z37_ e10_ h11_ e13_ h14_ h15_ h36_ h40_ e38_ h41_) (fun z61_ h62_ => ?_)
            refine w_putI DD_nd fl_RX12_155 rfl rfl ic_12 dX12_here_45 (fun M63_ hM64_ => ?_)
            have hI65_ := hI_0.put hM64_ ⟨(lf_c_X12_here_16 M63_ M_0 z9_ z12_ z35_ j39_ z37_ z61_ e10_ h11_ e13_ h14_ h15_ h36_ h40_ e38_ h41_ h62_ hM64_), Or.inl (by decide)⟩
            have hF66_ := hF_0.put hM64_ (Or.inl ⟨rfl, rfl, rfl⟩)
            have h67_ : PP M63_ (s + 1) D (a + 1) T := PP_at kv0_0 hM64_ (by rw [← e10_]; exact (lf_c_X12_here_18 M63_ M_0 z9_ z12_ z35_ j39_ z37_ z61_ e10_ h11_ e13_ h14_ h15_ h36_ h40_ e38_ h41_ h62_ hM64_)) (at_lt kv0_0 e10_ e13_ (lf_c_X12_here_17 M63_ M_0 z9_ z12_ z35_ j39_ z37_ z61_ e10_ h11_ e13_ h14_ h15_ h36_ h40_ e38_ h41_ h62_ hM64_))
            have h68_ : PP M63_ s D a T := PP_mono h67_ (lf_c_X12_here_19 M63_ s D a T h67_) (lf_c_X12_here_20 M63_ s D a T h67_)
            refine w_goto (tgt := 0) dX12_here_48 (by decide) ?_
            refine w_loc (ls' := [(0, vR (12, 0, 0))]) [0] rfl ?_
            exact ih_0 M63_ hI65_ hF66_ h68_ (RCH.tail hL_0 ⟨hI_0, hF_0, z2_, e3_, h4_, h5_, z9_, e10_, h11_, z12_, e13_, h14_, h15_, z35_, h36_, j39_, h40_, z37_, e38_, h41_, z61_, h62_, M63_, hM64_, h68_, rfl⟩) (Nat.lt_of_lt_of_le (PP_m0 hM64_ (by rw [← e10_]; exact (lf_c_X12_here_21 M63_ M_0 z9_ z12_ z35_ j39_ z37_ z61_ e10_ h11_ e13_ h14_ h15_ h36_ h40_ e38_ h41_ h62_ hM64_)) (at_lt kv0_0 e10_ e13_ (lf_c_X12_here_17 M63_ M_0 z9_ z12_ z35_ j39_ z37_ z61_ e10_ h11_ e13_ h14_ h15_ h36_ h40_ e38_ h41_ h62_ hM64_))) (Nat.le_of_lt_succ hm_0))
  exact lp1_ _ Mz hIz hFz hp RCH.refl (Nat.lt_succ_self _)
def SP_X12_takes (v : Int32) (s : Int) (D : Nat) (a : Int) (T : Int) (Mz : mM) (r_ : Int32) (M_ : mM) : Prop := ∃ M2_ : mM, (InvD M2_) ∧ (FR (S_here) Mz M2_) ∧ ∃ r1_ : Int32, (SP_X12_here s D a T Mz r1_ M2_) ∧ (HB M2_ r1_) ∧ (((¬ r1_.toInt = v.toInt) ∧ ∃ z12_ : Int32, (z12_ = M2_.1 (12, 0, 0) 9) ∧ (0 ≤ z12_.toInt ∧ z12_.toInt ≤ 48) ∧ ∃ z16_ : Int32, (z16_.toInt = z12_.toInt + 0) ∧ ∃ M18_ : mM, (M18_ = up M2_ (12, 0, 0) 9 z16_) ∧ (PP M18_ s D a T) ∧ r_ = 0 ∧ M_ = M18_) ∨ ((r1_.toInt = v.toInt) ∧ ∃ z27_ : Int32, (z27_ = M2_.1 (12, 0, 0) 9) ∧ (0 ≤ z27_.toInt ∧ z27_.toInt ≤ 48) ∧ (z27_.toInt < T) ∧ (z27_.toInt ≤ 47) ∧ ∃ z33_ : Int32, (z33_.toInt = z27_.toInt + 1) ∧ ∃ M35_ : mM, (M35_ = up M2_ (12, 0, 0) 9 z33_) ∧ (PP M35_ (s + 1) D (a + 1) T) ∧ r_ = 1 ∧ M_ = M35_))
theorem lf_c_X12_takes_0 (M2_ : mM) (z12_ : Int32) (e13_ : z12_ = M2_.1 (12, 0, 0) 9) (h14_ : 0 ≤ z12_.toInt ∧ z12_.toInt ≤ 48) : -2147483648 ≤ z12_.toInt + 0 ∧ z12_.toInt + 0 < 2147483648 := by have r_z12_ := rngI z12_; subst e13_; omega
theorem lf_c_X12_takes_1 (M18_ : mM) (M2_ : mM) (z12_ : Int32) (z16_ : Int32) (e13_ : z12_ = M2_.1 (12, 0, 0) 9) (h14_ : 0 ≤ z12_.toInt ∧ z12_.toInt ≤ 48) (h17_ : z16_.toInt = z12_.toInt + 0) (hM19_ : M18_ = up M2_ (12, 0, 0) 9 z16_) : 0 ≤ z16_.toInt ∧ z16_.toInt ≤ 48 := by have r_z12_ := rngI z12_; have r_z16_ := rngI z16_; subst e13_; omega
theorem lf_c_X12_takes_2 (M18_ : mM) (M2_ : mM) (z12_ : Int32) (z16_ : Int32) (e13_ : z12_ = M2_.1 (12, 0, 0) 9) (h14_ : 0 ≤ z12_.toInt ∧ z12_.toInt ≤ 48) (h17_ : z16_.toInt = z12_.toInt + 0) (hM19_ : M18_ = up M2_ (12, 0, 0) 9 z16_) : z16_.toInt = z12_.toInt := by have r_z12_ := rngI z12_; have r_z16_ := rngI z16_; subst e13_; omega
theorem lf_c_X12_takes_3 (M2_ : mM) (v : Int32) (r1_ : Int32) (hv : 0 ≤ v.toInt) (h10_ : HB M2_ r1_) (h11_ : r1_.toInt = v.toInt) : ¬ r1_.toInt = -1 := by have r_v := rngI v; have r_r1_ := rngI r1_; omega
theorem lf_c_X12_takes_4 (M2_ : mM) (s : Int) (D : Nat) (a : Int) (T : Int) (z27_ : Int32) (h9_ : PP M2_ s D a T) (kf25_ : (M2_.1 (12, 0, 0) 9).toInt < T) (e28_ : z27_ = M2_.1 (12, 0, 0) 9) (h29_ : 0 ≤ z27_.toInt ∧ z27_.toInt ≤ 48) (h30_ : z27_.toInt < T) (h31_ : z27_.toInt ≤ 47) : -2147483648 ≤ z27_.toInt + 1 ∧ z27_.toInt + 1 < 2147483648 := by have r_z27_ := rngI z27_; subst e28_; omega
theorem lf_c_X12_takes_5 (M2_ : mM) (M35_ : mM) (s : Int) (D : Nat) (a : Int) (T : Int) (z27_ : Int32) (z33_ : Int32) (h9_ : PP M2_ s D a T) (kf25_ : (M2_.1 (12, 0, 0) 9).toInt < T) (e28_ : z27_ = M2_.1 (12, 0, 0) 9) (h29_ : 0 ≤ z27_.toInt ∧ z27_.toInt ≤ 48) (h30_ : z27_.toInt < T) (h31_ : z27_.toInt ≤ 47) (h34_ : z33_.toInt = z27_.toInt + 1) (hM36_ : M35_ = up M2_ (12, 0, 0) 9 z33_) : 0 ≤ z33_.toInt ∧ z33_.toInt ≤ 48 := by have r_z27_ := rngI z27_; have r_z33_ := rngI z33_; subst e28_; omega
theorem lf_c_X12_takes_6 (M2_ : mM) (M35_ : mM) (s : Int) (D : Nat) (a : Int) (T : Int) (z27_ : Int32) (z33_ : Int32) (h9_ : PP M2_ s D a T) (kf25_ : (M2_.1 (12, 0, 0) 9).toInt < T) (e28_ : z27_ = M2_.1 (12, 0, 0) 9) (h29_ : 0 ≤ z27_.toInt ∧ z27_.toInt ≤ 48) (h30_ : z27_.toInt < T) (h31_ : z27_.toInt ≤ 47) (h34_ : z33_.toInt = z27_.toInt + 1) (hM36_ : M35_ = up M2_ (12, 0, 0) 9 z33_) : z33_.toInt = z27_.toInt + 1 := by have r_z27_ := rngI z27_; have r_z33_ := rngI z33_; subst e28_; omega
set_option maxHeartbeats 4000000 in
set_option maxRecDepth 100000 in
theorem c_X12_takes (l : Launch) (G : va_G) (cy : Nat → ClassId) (ad : rf → Nat) (d : Nat) (v : Int32) (s : Int) (D : Nat) (a : Int) (T : Int) (Mz : mM) (hIz : InvD Mz) (hp : PP Mz s D a T) (hv : 0 ≤ v.toInt) : WP DD l G cy ad yX12_takes cX12_takes 3 (some .boolean) (d + 1) 0 [(0, vR (12, 0, 0)), (1, vI v)] [] Mz (fun r M' => InvD M' ∧ FR (S_here) Mz M' ∧ (((r = 1 ∧ PP M' (s + 1) D (a + 1) T ∧ M'.1 (12, 0, 0) 13 = 0) ∨ (r = 0 ∧ PP M' s D a T))) ∧ SP_X12_takes v s D a T Mz r M') := by
  have hFz : FR (S_here) Mz Mz := FR.self
  refine w_aload_n dX12_takes_0 rfl 0 rfl ?_
  refine w_callV (as := []) (rest := []) (c_X12_here l G cy ad d s D a T Mz hIz hp) kV_X12_here (by decide +kernel) (Nat.le_of_ble_eq_true rfl) m_1575 rfl rfl rfl ic_12 rfl rfl (by decide) (Nat.le_of_ble_eq_true rfl) dX12_takes_1 (fun r1_ M2_ q3_ => ?_)
  obtain ⟨hI5_, hF6_, h4_, hs8_⟩ := q3_
  have hF7_ := hFz.tr hF6_ (fun c k => (fun h => h.elim (fun h => (Or.inl ⟨h.1, h.2.1, h.2.2⟩)) (fun h => h.elim)))
  have h9_ : PP M2_ s D a T := h4_.1
  have h10_ : HB M2_ r1_ := h4_.2
  refine w_iload_n dX12_takes_4 rfl 1 rfl ?_
  refine w_icmp_ne (tgt := 12) dX12_takes_5 (by decide) (rfl : r1_.toInt = r1_.toInt) (rfl : v.toInt = v.toInt) (fun h11_ => ?_) (fun h11_ => ?_)
  · refine w_iconst (v := 0) dX12_takes_12 (by decide) ?_
    refine w_istore_n (ls' := [(2, vI 0), (0, vR (12, 0, 0)), (1, vI v)]) dX12_takes_13 rfl (by decide) rfl ?_
    refine w_aload_n dX12_takes_14 rfl 1 rfl ?_
    refine w_dup dX12_takes_15 rfl ?_
    refine w_getI fl_RX12_155 rfl rfl ic_12 dX12_takes_16 (fun z12_ e13_ => ?_)
    have h14_ : 0 ≤ z12_.toInt ∧ z12_.toInt ≤ 48 := ofEq (P := fun v => 0 ≤ v.toInt ∧ v.toInt ≤ 48) e13_ (hI5_.1 (12, 0, 0) 9)
    refine w_iload_n dX12_takes_19 rfl 0 rfl ?_
    refine w_if_eq (tgt := 27) dX12_takes_20 (by decide) li_0 (fun h15_ => ?_) (fun h9 => (absurd h9 (by decide)))
    refine w_iconst (v := 0) dX12_takes_27 (by decide) ?_
    refine w_iaddB dX12_takes_28 (rfl : z12_.toInt = z12_.toInt) li_0 (lf_c_X12_takes_0 M2_ z12_ e13_ h14_) (fun z16_ h17_ => ?_)
    refine w_putI DD_nd fl_RX12_155 rfl rfl ic_12 dX12_takes_29 (fun M18_ hM19_ => ?_)
    have hI20_ := hI5_.put hM19_ ⟨(lf_c_X12_takes_1 M18_ M2_ z12_ z16_ e13_ h14_ h17_ hM19_), Or.inl (by decide)⟩
    have hF21_ := hF7_.put hM19_ (Or.inl ⟨rfl, rfl, rfl⟩)
    have h22_ : PP M18_ s D a T := PP_atS h9_ hM19_ (by rw [← e13_]; exact (lf_c_X12_takes_2 M18_ M2_ z12_ z16_ e13_ h14_ h17_ hM19_))
    refine w_iload_n dX12_takes_32 rfl 0 rfl ?_
    exact w_zret rfl dX12_takes_33 ⟨by decide, by decide⟩ ⟨hI20_, hF21_, (Or.inr ⟨rfl, h22_⟩), ⟨M2_, hI5_, hF6_, r1_, hs8_, h10_, (Or.inl ⟨h11_, z12_, e13_, h14_, z16_, h17_, M18_, hM19_, h22_, rfl, rfl⟩)⟩⟩
  · refine w_iconst (v := 1) dX12_takes_8 (by decide) ?_
    refine w_goto (tgt := 13) dX12_takes_9 (by decide) ?_
    refine w_istore_n (ls' := [(2, vI 1), (0, vR (12, 0, 0)), (1, vI v)]) dX12_takes_13 rfl (by decide) rfl ?_
    have h23_ : M2_.1 (12, 0, 0) 13 = 0 ∧ (M2_.1 (12, 0, 0) 9).toInt < T := HB_ok h10_ h9_ (lf_c_X12_takes_3 M2_ v r1_ hv h10_ h11_)
    have kf24_ : M2_.1 (12, 0, 0) 13 = 0 := h23_.1
    have kf25_ : (M2_.1 (12, 0, 0) 9).toInt < T := h23_.2
    have kf26_ : (M2_.1 (12, 0, 0) 9).toInt ≤ 47 := PP_a48 hI5_ h9_ h23_.2
    refine w_aload_n dX12_takes_14 rfl 1 rfl ?_
    refine w_dup dX12_takes_15 rfl ?_
    refine w_getI fl_RX12_155 rfl rfl ic_12 dX12_takes_16 (fun z27_ e28_ => ?_)
    have h29_ : 0 ≤ z27_.toInt ∧ z27_.toInt ≤ 48 := ofEq (P := fun v => 0 ≤ v.toInt ∧ v.toInt ≤ 48) e28_ (hI5_.1 (12, 0, 0) 9)
    have h30_ : z27_.toInt < T := by rw [e28_]; exact kf25_
    have h31_ : z27_.toInt ≤ 47 := by rw [e28_]; exact kf26_
    refine w_iload_n dX12_takes_19 rfl 0 rfl ?_
    refine w_if_eq (tgt := 27) dX12_takes_20 (by decide) li_1 (fun h9 => (absurd h9 (by decide))) (fun h32_ => ?_)
    refine w_iconst (v := 1) dX12_takes_23 (by decide) ?_
    refine w_goto (tgt := 28) dX12_takes_24 (by decide) ?_
    refine w_iaddB dX12_takes_28 (rfl : z27_.toInt = z27_.toInt) li_1 (lf_c_X12_takes_4 M2_ s D a T z27_ h9_ kf25_ e28_ h29_ h30_ h31_) (fun z33_ h34_ => ?_)
    refine w_putI DD_nd fl_RX12_155 rfl rfl ic_12 dX12_takes_29 (fun M35_ hM36_ => ?_)
    have hI37_ := hI5_.put hM36_ ⟨(lf_c_X12_takes_5 M2_ M35_ s D a T z27_ z33_ h9_ kf25_ e28_ h29_ h30_ h31_ h34_ hM36_), Or.inl (by decide)⟩
    have hF38_ := hF7_.put hM36_ (Or.inl ⟨rfl, rfl, rfl⟩)
    have kf39_ : M35_.1 (12, 0, 0) 13 = 0 := by rw [(show M35_.1 (12, 0, 0) 13 = M2_.1 (12, 0, 0) 13 by rw [hM36_, up_ne (by simp)])]; exact kf24_
    have h40_ : PP M35_ (s + 1) D (a + 1) T := PP_at h9_ hM36_ (by rw [← e28_]; exact (lf_c_X12_takes_6 M2_ M35_ s D a T z27_ z33_ h9_ kf25_ e28_ h29_ h30_ h31_ h34_ hM36_)) kf25_
    refine w_iload_n dX12_takes_32 rfl 0 rfl ?_
    exact w_zret rfl dX12_takes_33 ⟨by decide, by decide⟩ ⟨hI37_, hF38_, (Or.inl ⟨rfl, h40_, kf39_⟩), ⟨M2_, hI5_, hF6_, r1_, hs8_, h10_, (Or.inr ⟨h11_, z27_, e28_, h29_, h30_, h31_, z33_, h34_, M35_, hM36_, h40_, rfl, rfl⟩)⟩⟩
def SP_X12_codes (v : Int32) (s : Int) (D : Nat) (a : Int) (T : Int) (E : Nat) (Mz : mM) (M_ : mM) : Prop := ∃ z2_ : Int32, (z2_ = Mz.1 (12, 0, 0) 13) ∧ (0 ≤ z2_.toInt ∧ z2_.toInt ≤ 1) ∧ (((¬ z2_.toInt = 0) ∧ M_ = Mz) ∨ ((z2_.toInt = 0) ∧ ∃ z6_ : Int32, (z6_ = Mz.1 (12, 0, 0) 14) ∧ (0 ≤ z6_.toInt ∧ z6_.toInt ≤ 49) ∧ (z6_.toInt ≤ 48) ∧ ∃ j13_ : Nat, ((j13_ : Int) = z6_.toInt) ∧ ∃ M11_ : mM, (M11_ = up Mz (57, 0, 0) j13_ v) ∧ ∃ z19_ : Int32, (z19_ = M11_.1 (12, 0, 0) 14) ∧ (0 ≤ z19_.toInt ∧ z19_.toInt ≤ 49) ∧ (z19_.toInt ≤ 48) ∧ (z19_.toInt = z6_.toInt) ∧ ∃ z24_ : Int32, (z24_.toInt = z19_.toInt + 1) ∧ ∃ M26_ : mM, (M26_ = up M11_ (12, 0, 0) 14 z24_) ∧ (PP M26_ (s - 1) E a T) ∧ M_ = M26_))
theorem lf_c_X12_codes_0 (Mz : mM) (z2_ : Int32) (e3_ : z2_ = Mz.1 (12, 0, 0) 13) (h4_ : 0 ≤ z2_.toInt ∧ z2_.toInt ≤ 1) (h5_ : ¬ z2_.toInt = 0) : 0 ≤ z2_.toInt ∧ z2_.toInt ≤ 1 := by have r_z2_ := rngI z2_; subst e3_; omega
theorem lf_c_X12_codes_1 (Mz : mM) (z2_ : Int32) (e3_ : z2_ = Mz.1 (12, 0, 0) 13) (h4_ : 0 ≤ z2_.toInt ∧ z2_.toInt ≤ 1) (h5_ : ¬ z2_.toInt = 0) : ¬ z2_.toInt = 0 := by have r_z2_ := rngI z2_; subst e3_; omega
theorem lf_c_X12_codes_2 (Mz : mM) (z6_ : Int32) (e7_ : z6_ = Mz.1 (12, 0, 0) 14) (h8_ : 0 ≤ z6_.toInt ∧ z6_.toInt ≤ 49) (h9_ : z6_.toInt ≤ 48) (kf10_ : (Mz.1 (12, 0, 0) 14).toInt = z6_.toInt) : 0 ≤ z6_.toInt ∧ z6_.toInt < ((49 : Nat) : Int) := by have r_z6_ := rngI z6_; subst e7_; omega
theorem lf_c_X12_codes_3 (M11_ : mM) (Mz : mM) (v : Int32) (s : Int) (D : Nat) (a : Int) (T : Int) (E : Nat) (z6_ : Int32) (j13_ : Nat) (z19_ : Int32) (hp : PP Mz s D a T) (hs : 0 ≤ s) (hv : stp v.toInt (some D) = some E) (e7_ : z6_ = Mz.1 (12, 0, 0) 14) (h8_ : 0 ≤ z6_.toInt ∧ z6_.toInt ≤ 49) (h9_ : z6_.toInt ≤ 48) (kf10_ : (Mz.1 (12, 0, 0) 14).toInt = z6_.toInt) (h14_ : (j13_ : Int) = z6_.toInt) (hM12_ : M11_ = up Mz (57, 0, 0) j13_ v) (kf18_ : (M11_.1 (12, 0, 0) 14).toInt = z6_.toInt) (e20_ : z19_ = M11_.1 (12, 0, 0) 14) (h21_ : 0 ≤ z19_.toInt ∧ z19_.toInt ≤ 49) (h22_ : z19_.toInt ≤ 48) (h23_ : z19_.toInt = z6_.toInt) : -2147483648 ≤ z19_.toInt + 1 ∧ z19_.toInt + 1 < 2147483648 := by have r_v := rngI v; have r_z6_ := rngI z6_; have r_z19_ := rngI z19_; subst e7_; subst e20_; omega
theorem lf_c_X12_codes_4 (M11_ : mM) (M26_ : mM) (Mz : mM) (v : Int32) (s : Int) (D : Nat) (a : Int) (T : Int) (E : Nat) (z6_ : Int32) (j13_ : Nat) (z19_ : Int32) (z24_ : Int32) (hp : PP Mz s D a T) (hs : 0 ≤ s) (hv : stp v.toInt (some D) = some E) (e7_ : z6_ = Mz.1 (12, 0, 0) 14) (h8_ : 0 ≤ z6_.toInt ∧ z6_.toInt ≤ 49) (h9_ : z6_.toInt ≤ 48) (kf10_ : (Mz.1 (12, 0, 0) 14).toInt = z6_.toInt) (h14_ : (j13_ : Int) = z6_.toInt) (hM12_ : M11_ = up Mz (57, 0, 0) j13_ v) (kf18_ : (M11_.1 (12, 0, 0) 14).toInt = z6_.toInt) (e20_ : z19_ = M11_.1 (12, 0, 0) 14) (h21_ : 0 ≤ z19_.toInt ∧ z19_.toInt ≤ 49) (h22_ : z19_.toInt ≤ 48) (h23_ : z19_.toInt = z6_.toInt) (h25_ : z24_.toInt = z19_.toInt + 1) (hM27_ : M26_ = up M11_ (12, 0, 0) 14 z24_) : 0 ≤ z24_.toInt ∧ z24_.toInt ≤ 49 := by have r_v := rngI v; have r_z6_ := rngI z6_; have r_z19_ := rngI z19_; have r_z24_ := rngI z24_; subst e7_; subst e20_; omega
theorem lf_c_X12_codes_5 (M11_ : mM) (M26_ : mM) (Mz : mM) (v : Int32) (s : Int) (D : Nat) (a : Int) (T : Int) (E : Nat) (z6_ : Int32) (j13_ : Nat) (z19_ : Int32) (z24_ : Int32) (hp : PP Mz s D a T) (hs : 0 ≤ s) (hv : stp v.toInt (some D) = some E) (e7_ : z6_ = Mz.1 (12, 0, 0) 14) (h8_ : 0 ≤ z6_.toInt ∧ z6_.toInt ≤ 49) (h9_ : z6_.toInt ≤ 48) (kf10_ : (Mz.1 (12, 0, 0) 14).toInt = z6_.toInt) (h14_ : (j13_ : Int) = z6_.toInt) (hM12_ : M11_ = up Mz (57, 0, 0) j13_ v) (kf18_ : (M11_.1 (12, 0, 0) 14).toInt = z6_.toInt) (e20_ : z19_ = M11_.1 (12, 0, 0) 14) (h21_ : 0 ≤ z19_.toInt ∧ z19_.toInt ≤ 49) (h22_ : z19_.toInt ≤ 48) (h23_ : z19_.toInt = z6_.toInt) (h25_ : z24_.toInt = z19_.toInt + 1) (hM27_ : M26_ = up M11_ (12, 0, 0) 14 z24_) : (j13_ : Int) = z6_.toInt := by have r_v := rngI v; have r_z6_ := rngI z6_; have r_z19_ := rngI z19_; have r_z24_ := rngI z24_; subst e7_; subst e20_; omega
theorem lf_c_X12_codes_6 (M11_ : mM) (M26_ : mM) (Mz : mM) (v : Int32) (s : Int) (D : Nat) (a : Int) (T : Int) (E : Nat) (z6_ : Int32) (j13_ : Nat) (z19_ : Int32) (z24_ : Int32) (hp : PP Mz s D a T) (hs : 0 ≤ s) (hv : stp v.toInt (some D) = some E) (e7_ : z6_ = Mz.1 (12, 0, 0) 14) (h8_ : 0 ≤ z6_.toInt ∧ z6_.toInt ≤ 49) (h9_ : z6_.toInt ≤ 48) (kf10_ : (Mz.1 (12, 0, 0) 14).toInt = z6_.toInt) (h14_ : (j13_ : Int) = z6_.toInt) (hM12_ : M11_ = up Mz (57, 0, 0) j13_ v) (kf18_ : (M11_.1 (12, 0, 0) 14).toInt = z6_.toInt) (e20_ : z19_ = M11_.1 (12, 0, 0) 14) (h21_ : 0 ≤ z19_.toInt ∧ z19_.toInt ≤ 49) (h22_ : z19_.toInt ≤ 48) (h23_ : z19_.toInt = z6_.toInt) (h25_ : z24_.toInt = z19_.toInt + 1) (hM27_ : M26_ = up M11_ (12, 0, 0) 14 z24_) : z24_.toInt = z6_.toInt + 1 := by have r_v := rngI v; have r_z6_ := rngI z6_; have r_z19_ := rngI z19_; have r_z24_ := rngI z24_; subst e7_; subst e20_; omega
theorem lf_c_X12_codes_7 (Mz : mM) (z2_ : Int32) (e3_ : z2_ = Mz.1 (12, 0, 0) 13) (h4_ : 0 ≤ z2_.toInt ∧ z2_.toInt ≤ 1) (h5_ : z2_.toInt = 0) : z2_.toInt = 0 := by have r_z2_ := rngI z2_; subst e3_; omega
set_option maxHeartbeats 4000000 in
set_option maxRecDepth 100000 in
theorem c_X12_codes (l : Launch) (G : va_G) (cy : Nat → ClassId) (ad : rf → Nat) (d : Nat) (v : Int32) (s : Int) (D : Nat) (a : Int) (T : Int) (E : Nat) (Mz : mM) (hIz : InvD Mz) (hp : PP Mz s D a T) (hs : 0 ≤ s) (hv : stp v.toInt (some D) = some E) : WP DD l G cy ad yX12_codes cX12_codes 2 none d 0 [(0, vR (12, 0, 0)), (1, vI v)] [] Mz (fun r M' => InvD M' ∧ FR (S_codes) Mz M' ∧ (PP M' (s - 1) E a T) ∧ SP_X12_codes v s D a T E Mz M') := by
  have hFz : FR (S_codes) Mz Mz := FR.self
  have kf1_ : (Mz.1 (12, 0, 0) 14).toInt ≤ 48 := PP_c48 hIz hp hs
  refine w_aload_n dX12_codes_0 rfl 0 rfl ?_
  refine w_getI fl_RX12_151 rfl rfl ic_12 dX12_codes_1 (fun z2_ e3_ => ?_)
  have h4_ : 0 ≤ z2_.toInt ∧ z2_.toInt ≤ 1 := ofEq (P := fun v => 0 ≤ v.toInt ∧ v.toInt ≤ 1) e3_ (hIz.1 (12, 0, 0) 13)
  refine w_if_ne (tgt := 27) dX12_codes_4 (by decide) (rfl : z2_.toInt = z2_.toInt) (fun h5_ => ?_) (fun h5_ => ?_)
  · exact w_vret rfl dX12_codes_27 ⟨hIz, hFz, (codes_wr hp (by rw [← e3_]; exact zW (lf_c_X12_codes_0 Mz z2_ e3_ h4_ h5_) (lf_c_X12_codes_1 Mz z2_ e3_ h4_ h5_))), ⟨z2_, e3_, h4_, (Or.inl ⟨h5_, rfl⟩)⟩⟩
  · refine w_aload_n dX12_codes_7 rfl 0 rfl ?_
    refine w_getR (c' := (57, 0, 0)) fl_RX12_44 rfl rfl ic_12 dX12_codes_8 rfl ?_
    refine w_aload_n dX12_codes_11 rfl 0 rfl ?_
    refine w_getI fl_RX12_162 rfl rfl ic_12 dX12_codes_12 (fun z6_ e7_ => ?_)
    have h8_ : 0 ≤ z6_.toInt ∧ z6_.toInt ≤ 49 := ofEq (P := fun v => 0 ≤ v.toInt ∧ v.toInt ≤ 49) e7_ (hIz.1 (12, 0, 0) 14)
    have h9_ : z6_.toInt ≤ 48 := by rw [e7_]; exact kf1_
    have kf10_ : (Mz.1 (12, 0, 0) 14).toInt = z6_.toInt := by rw [e7_]
    refine w_iload_n dX12_codes_15 rfl 1 rfl ?_
    refine w_iast DD_nd rfl rfl ic_57 (rfl : z6_.toInt = z6_.toInt) (lf_c_X12_codes_2 Mz z6_ e7_ h8_ h9_ kf10_) dX12_codes_16 (fun j13_ h14_ M11_ hM12_ => ?_)
    have hI15_ := hIz.put hM12_ ⟨trivial, Or.inr (by decide)⟩
    have hF16_ := hFz.put hM12_ (Or.inr (Or.inl ⟨rfl, rfl⟩))
    have kf17_ : (M11_.1 (12, 0, 0) 14).toInt ≤ 48 := by rw [(show M11_.1 (12, 0, 0) 14 = Mz.1 (12, 0, 0) 14 by rw [hM12_, up_ne (by simp)])]; exact kf1_
    have kf18_ : (M11_.1 (12, 0, 0) 14).toInt = z6_.toInt := by rw [(show M11_.1 (12, 0, 0) 14 = Mz.1 (12, 0, 0) 14 by rw [hM12_, up_ne (by simp)])]; exact kf10_
    refine w_aload_n dX12_codes_17 rfl 0 rfl ?_
    refine w_dup dX12_codes_18 rfl ?_
    refine w_getI fl_RX12_162 rfl rfl ic_12 dX12_codes_19 (fun z19_ e20_ => ?_)
    have h21_ : 0 ≤ z19_.toInt ∧ z19_.toInt ≤ 49 := ofEq (P := fun v => 0 ≤ v.toInt ∧ v.toInt ≤ 49) e20_ (hI15_.1 (12, 0, 0) 14)
    have h22_ : z19_.toInt ≤ 48 := by rw [e20_]; exact kf17_
    have h23_ : z19_.toInt = z6_.toInt := by rw [e20_]; exact kf18_
    refine w_iconst (v := 1) dX12_codes_22 (by decide) ?_
    refine w_iaddB dX12_codes_23 (rfl : z19_.toInt = z19_.toInt) li_1 (lf_c_X12_codes_3 M11_ Mz v s D a T E z6_ j13_ z19_ hp hs hv e7_ h8_ h9_ kf10_ h14_ hM12_ kf18_ e20_ h21_ h22_ h23_) (fun z24_ h25_ => ?_)
    refine w_putI DD_nd fl_RX12_162 rfl rfl ic_12 dX12_codes_24 (fun M26_ hM27_ => ?_)
    have hI28_ := hI15_.put hM27_ ⟨(lf_c_X12_codes_4 M11_ M26_ Mz v s D a T E z6_ j13_ z19_ z24_ hp hs hv e7_ h8_ h9_ kf10_ h14_ hM12_ kf18_ e20_ h21_ h22_ h23_ h25_ hM27_), Or.inl (by decide)⟩
    have hF29_ := hF16_.put hM27_ (Or.inl ⟨rfl, rfl, rfl⟩)
    have h30_ : PP M26_ (s - 1) E a T := codes_fin hp hM12_ hM27_ (lf_c_X12_codes_5 M11_ M26_ Mz v s D a T E z6_ j13_ z19_ z24_ hp hs hv e7_ h8_ h9_ kf10_ h14_ hM12_ kf18_ e20_ h21_ h22_ h23_ h25_ hM27_) e7_ (lf_c_X12_codes_6 M11_ M26_ Mz v s D a T E z6_ j13_ z19_ z24_ hp hs hv e7_ h8_ h9_ kf10_ h14_ hM12_ kf18_ e20_ h21_ h22_ h23_ h25_ hM27_) (by rw [← e3_]; exact z0 (lf_c_X12_codes_7 Mz z2_ e3_ h4_ h5_)) hv
    exact w_vret rfl dX12_codes_27 ⟨hI28_, hF29_, h30_, ⟨z2_, e3_, h4_, (Or.inr ⟨h5_, z6_, e7_, h8_, h9_, j13_, h14_, M11_, hM12_, z19_, e20_, h21_, h22_, h23_, z24_, h25_, M26_, hM27_, h30_, rfl⟩)⟩⟩
def SP_X12_must (v : Int32) (s : Int) (D : Nat) (a : Int) (T : Int) (Mz : mM) (M_ : mM) : Prop := ∃ M2_ : mM, (InvD M2_) ∧ (FR (S_here) Mz M2_) ∧ (((SP_X12_takes v s D a T Mz (1 : Int32) M2_) ∧ ∃ M12_ : mM, (M12_ = up M2_ (12, 0, 0) 13 0) ∧ (PP M12_ (s + 1) D (a + 1) T) ∧ M_ = M12_) ∨ ((SP_X12_takes v s D a T Mz (0 : Int32) M2_) ∧ ∃ M20_ : mM, (M20_ = up M2_ (12, 0, 0) 13 1) ∧ (PP M20_ s D a T) ∧ M_ = M20_))
theorem lf_c_X12_must_0 (M12_ : mM) (s : Int) (D : Nat) (a : Int) (T : Int) (h16_ : PP M12_ (s + 1) D (a + 1) T) : s ≤ (s + 1) := by omega
theorem lf_c_X12_must_1 (M12_ : mM) (M2_ : mM) (s : Int) (D : Nat) (a : Int) (T : Int) (kf10_ : M2_.1 (12, 0, 0) 13 = 0) (hM13_ : M12_ = up M2_ (12, 0, 0) 13 0) (h16_ : PP M12_ (s + 1) D (a + 1) T) (kf17_ : M12_.1 (12, 0, 0) 13 = 0) (kf18_ : (M12_.1 (12, 0, 0) 13).toInt = 0) : a ≤ (a + 1) := by omega
set_option maxHeartbeats 4000000 in
set_option maxRecDepth 100000 in
theorem c_X12_must (l : Launch) (G : va_G) (cy : Nat → ClassId) (ad : rf → Nat) (d : Nat) (v : Int32) (s : Int) (D : Nat) (a : Int) (T : Int) (Mz : mM) (hIz : InvD Mz) (hp : PP Mz s D a T) (hv : 0 ≤ v.toInt) : WP DD l G cy ad yX12_must cX12_must 2 none (d + 2) 0 [(0, vR (12, 0, 0)), (1, vI v)] [] Mz (fun r M' => InvD M' ∧ FR (S_must) Mz M' ∧ (PP M' s D a T) ∧ SP_X12_must v s D a T Mz M') := by
  have hFz : FR (S_must) Mz Mz := FR.self
  refine w_aload_n dX12_must_0 rfl 0 rfl ?_
  refine w_aload_n dX12_must_1 rfl 0 rfl ?_
  refine w_iload_n dX12_must_2 rfl 1 rfl ?_
  refine w_callV (as := [vI v]) (rest := [vR (12, 0, 0)]) (c_X12_takes l G cy ad d v s D a T Mz hIz hp hv) kV_X12_takes (by decide +kernel) (Nat.le_of_ble_eq_true rfl) m_1591 rfl rfl rfl ic_12 rfl rfl (by decide) (Nat.le_of_ble_eq_true rfl) dX12_must_3 (fun r1_ M2_ q3_ => ?_)
  obtain ⟨hI5_, hF6_, h4_, hs8_⟩ := q3_
  have hF7_ := hFz.tr hF6_ (fun c k => (fun h => h.elim (fun h => (Or.inl ⟨h.1, h.2.1, h.2.2⟩)) (fun h => h.elim)))
  rcases h4_ with ⟨rfl, h4_⟩ | ⟨rfl, h4_⟩
  · have h9_ : PP M2_ (s + 1) D (a + 1) T := h4_.1
    have kf10_ : M2_.1 (12, 0, 0) 13 = 0 := h4_.2
    refine w_if_ne (tgt := 13) dX12_must_6 (by decide) li_1 (fun h11_ => ?_) (fun h9 => (absurd h9 (by decide)))
    refine w_iconst (v := 0) dX12_must_13 (by decide) ?_
    refine w_putZ DD_nd fl_RX12_151 rfl rfl ic_12 ⟨by decide, by decide⟩ dX12_must_14 (fun M12_ hM13_ => ?_)
    have hI14_ := hI5_.put hM13_ ⟨⟨by decide, by decide⟩, Or.inl (by decide)⟩
    have hF15_ := hF7_.put hM13_ (Or.inr (Or.inl ⟨rfl, rfl, rfl⟩))
    have h16_ : PP M12_ (s + 1) D (a + 1) T := PP_put0 h9_ hM13_ kf10_
    have kf17_ : M12_.1 (12, 0, 0) 13 = 0 := up_s hM13_
    have kf18_ : (M12_.1 (12, 0, 0) 13).toInt = 0 := by rw [kf17_]; decide
    exact w_vret rfl dX12_must_17 ⟨hI14_, hF15_, (PP_mono h16_ (lf_c_X12_must_0 M12_ s D a T h16_) (lf_c_X12_must_1 M12_ M2_ s D a T kf10_ hM13_ h16_ kf17_ kf18_)), ⟨M2_, hI5_, hF6_, (Or.inl ⟨hs8_, M12_, hM13_, h16_, rfl⟩)⟩⟩
  · refine w_if_ne (tgt := 13) dX12_must_6 (by decide) li_0 (fun h9 => (absurd h9 (by decide))) (fun h19_ => ?_)
    refine w_iconst (v := 1) dX12_must_9 (by decide) ?_
    refine w_goto (tgt := 14) dX12_must_10 (by decide) ?_
    refine w_putZ DD_nd fl_RX12_151 rfl rfl ic_12 ⟨by decide, by decide⟩ dX12_must_14 (fun M20_ hM21_ => ?_)
    have hI22_ := hI5_.put hM21_ ⟨⟨by decide, by decide⟩, Or.inl (by decide)⟩
    have hF23_ := hF7_.put hM21_ (Or.inr (Or.inl ⟨rfl, rfl, rfl⟩))
    have h24_ : PP M20_ s D a T := PP_put1 h4_ hM21_
    have kf25_ : M20_.1 (12, 0, 0) 13 = 1 := up_s hM21_
    have kf26_ : (M20_.1 (12, 0, 0) 13).toInt = 1 := by rw [kf25_]; decide
    exact w_vret rfl dX12_must_17 ⟨hI22_, hF23_, h24_, ⟨M2_, hI5_, hF6_, (Or.inr ⟨hs8_, M20_, hM21_, h24_, rfl⟩)⟩⟩
