section
def S_c_X12_thingGoes : rf → Nat → Prop := fun c k => (c.1 = 50 ∧ c.2.1 = 0) ∨ False
def SP_X12_thingGoes (v : Int32) (Mz : mM) (M_ : mM) : Prop := ∃ r1_ : Int32, (SP_X12_thing v Mz r1_) ∧ (r1_.toInt = 20 + 4 * v.toInt) ∧ ∃ z6_ : Int32, (z6_.toInt = r1_.toInt + 3) ∧ ∃ j10_ : Nat, ((j10_ : Int) = z6_.toInt) ∧ ∃ z8_ : Int32, (z8_ = Mz.1 (50, 0, 0) j10_) ∧ ∃ r12_ : Int32, (SP_X12_thing v Mz r12_) ∧ (r12_.toInt = 20 + 4 * v.toInt) ∧ ∃ z17_ : Int32, (z17_.toInt = r12_.toInt + 1) ∧ ∃ j21_ : Nat, ((j21_ : Int) = z17_.toInt) ∧ ∃ z19_ : Int32, (z19_ = Mz.1 (50, 0, 0) j21_) ∧ (-1 ≤ z19_.toInt ∧ z19_.toInt ≤ 191) ∧ ∃ r24_ : Int32, (SP_X12_thing v Mz r24_) ∧ (r24_.toInt = 20 + 4 * v.toInt) ∧ ∃ z29_ : Int32, (z29_.toInt = r24_.toInt + 0) ∧ ∃ j33_ : Nat, ((j33_ : Int) = z29_.toInt) ∧ ∃ z31_ : Int32, (z31_ = Mz.1 (50, 0, 0) j33_) ∧ (0 ≤ z31_.toInt ∧ z31_.toInt ≤ 4) ∧ (((z31_.toInt < 3) ∧ M_ = Mz) ∨ ((3 ≤ z31_.toInt) ∧ (((z8_.toInt = 0) ∧ M_ = Mz) ∨ ((¬ z8_.toInt = 0) ∧ (((z19_.toInt < 0) ∧ M_ = Mz) ∨ ((0 ≤ z19_.toInt) ∧ ∃ z39_ : Int32, (z39_ = Mz.1 (50, 0, 0) 0) ∧ ∃ z41_ : Int32, (z41_ = z39_ - z39_ / z8_ * z8_) ∧ (((z41_.toInt = 0) ∧ ∃ r44_ : Int32, (SP_X12_thing v Mz r44_) ∧ (r44_.toInt = 20 + 4 * v.toInt) ∧ ∃ z49_ : Int32, (z49_.toInt = r44_.toInt + 2) ∧ ∃ j53_ : Nat, ((j53_ : Int) = z49_.toInt) ∧ ∃ z51_ : Int32, (z51_ = Mz.1 (50, 0, 0) j53_) ∧ (0 ≤ z51_.toInt ∧ z51_.toInt ≤ 7) ∧ ∃ r56_ : Int32, (SP_X12_on z19_ z51_ 1 Mz r56_) ∧ (onP z19_ z51_ 1 r56_ ∧ -1 ≤ r56_.toInt ∧ r56_.toInt ≤ 191) ∧ (((r56_.toInt < 0) ∧ ∃ r62_ : Int32, (SP_X12_thing v Mz r62_) ∧ (r62_.toInt = 20 + 4 * v.toInt) ∧ ∃ z67_ : Int32, (z67_.toInt = r62_.toInt + 2) ∧ ∃ r69_ : Int32, (SP_X12_thing v Mz r69_) ∧ (r69_.toInt = 20 + 4 * v.toInt) ∧ ∃ z74_ : Int32, (z74_.toInt = r69_.toInt + 2) ∧ ∃ j78_ : Nat, ((j78_ : Int) = z74_.toInt) ∧ ∃ z76_ : Int32, (z76_ = Mz.1 (50, 0, 0) j78_) ∧ (0 ≤ z76_.toInt ∧ z76_.toInt ≤ 7) ∧ ∃ z81_ : Int32, (z81_.toInt = z76_.toInt + 4) ∧ ∃ z83_ : Int32, (z83_ = z81_ &&& (7 : Int32)) ∧ (0 ≤ z83_.toInt ∧ z83_.toInt < ((2 ^ 3 : Nat) : Int)) ∧ ∃ j88_ : Nat, ((j88_ : Int) = z67_.toInt) ∧ ∃ M86_ : mM, (M86_ = up Mz (50, 0, 0) j88_ z83_) ∧ M_ = M86_) ∨ ((0 ≤ r56_.toInt) ∧ ∃ r92_ : Int32, (SP_X12_isFree r56_ Mz r92_) ∧ ((0 ≤ r92_.toInt ∧ r92_.toInt ≤ 1)) ∧ (((r92_.toInt = 0) ∧ ∃ r98_ : Int32, (SP_X12_thing v Mz r98_) ∧ (r98_.toInt = 20 + 4 * v.toInt) ∧ ∃ z103_ : Int32, (z103_.toInt = r98_.toInt + 2) ∧ ∃ r105_ : Int32, (SP_X12_thing v Mz r105_) ∧ (r105_.toInt = 20 + 4 * v.toInt) ∧ ∃ z110_ : Int32, (z110_.toInt = r105_.toInt + 2) ∧ ∃ j114_ : Nat, ((j114_ : Int) = z110_.toInt) ∧ ∃ z112_ : Int32, (z112_ = Mz.1 (50, 0, 0) j114_) ∧ (0 ≤ z112_.toInt ∧ z112_.toInt ≤ 7) ∧ ∃ z117_ : Int32, (z117_.toInt = z112_.toInt + 4) ∧ ∃ z119_ : Int32, (z119_ = z117_ &&& (7 : Int32)) ∧ (0 ≤ z119_.toInt ∧ z119_.toInt < ((2 ^ 3 : Nat) : Int)) ∧ ∃ j124_ : Nat, ((j124_ : Int) = z103_.toInt) ∧ ∃ M122_ : mM, (M122_ = up Mz (50, 0, 0) j124_ z119_) ∧ M_ = M122_) ∨ ((¬ r92_.toInt = 0) ∧ ∃ r128_ : Int32, (SP_X12_thing v Mz r128_) ∧ (r128_.toInt = 20 + 4 * v.toInt) ∧ ∃ z133_ : Int32, (z133_.toInt = r128_.toInt + 1) ∧ ∃ j137_ : Nat, ((j137_ : Int) = z133_.toInt) ∧ ∃ M135_ : mM, (M135_ = up Mz (50, 0, 0) j137_ r56_) ∧ M_ = M135_))))) ∨ ((¬ z41_.toInt = 0) ∧ M_ = Mz))))))))
theorem lf_c_X12_thingGoes_1 (v : Int32) (r1_ : Int32) (hv : 0 ≤ v.toInt ∧ v.toInt ≤ 39) (h4_ : r1_.toInt = 20 + 4 * v.toInt) : -2147483648 ≤ r1_.toInt + 3 ∧ r1_.toInt + 3 < 2147483648 := by omega
theorem lf_c_X12_thingGoes_4 (Mz : mM) (v : Int32) (r1_ : Int32) (z6_ : Int32) (j10_ : Nat) (z8_ : Int32) (r12_ : Int32) (hv : 0 ≤ v.toInt ∧ v.toInt ≤ 39) (h4_ : r1_.toInt = 20 + 4 * v.toInt) (h7_ : z6_.toInt = r1_.toInt + 3) (h11_ : (j10_ : Int) = z6_.toInt) (e9_ : z8_ = Mz.1 (50, 0, 0) j10_) (h15_ : r12_.toInt = 20 + 4 * v.toInt) : -2147483648 ≤ r12_.toInt + 1 ∧ r12_.toInt + 1 < 2147483648 := by have r_v := rngI v; have r_r1_ := rngI r1_; have r_z6_ := rngI z6_; have r_z8_ := rngI z8_; have r_r12_ := rngI r12_; subst e9_; omega
theorem lf_c_X12_thingGoes_6 (Mz : mM) (v : Int32) (r1_ : Int32) (z6_ : Int32) (j10_ : Nat) (z8_ : Int32) (r12_ : Int32) (z17_ : Int32) (j21_ : Nat) (z19_ : Int32) (hv : 0 ≤ v.toInt ∧ v.toInt ≤ 39) (h4_ : r1_.toInt = 20 + 4 * v.toInt) (h7_ : z6_.toInt = r1_.toInt + 3) (h11_ : (j10_ : Int) = z6_.toInt) (e9_ : z8_ = Mz.1 (50, 0, 0) j10_) (h15_ : r12_.toInt = 20 + 4 * v.toInt) (h18_ : z17_.toInt = r12_.toInt + 1) (h22_ : (j21_ : Int) = z17_.toInt) (e20_ : z19_ = Mz.1 (50, 0, 0) j21_) : 20 ≤ j21_ ∧ j21_ < 180 ∧ j21_ % 4 = 1 := by have r_v := rngI v; have r_r1_ := rngI r1_; have r_z6_ := rngI z6_; have r_z8_ := rngI z8_; have r_r12_ := rngI r12_; have r_z17_ := rngI z17_; have r_z19_ := rngI z19_; subst e9_; subst e20_; omega
theorem lf_c_X12_thingGoes_10 (Mz : mM) (v : Int32) (r1_ : Int32) (z6_ : Int32) (j10_ : Nat) (z8_ : Int32) (r12_ : Int32) (z17_ : Int32) (j21_ : Nat) (z19_ : Int32) (r24_ : Int32) (z29_ : Int32) (j33_ : Nat) (z31_ : Int32) (hv : 0 ≤ v.toInt ∧ v.toInt ≤ 39) (h4_ : r1_.toInt = 20 + 4 * v.toInt) (h7_ : z6_.toInt = r1_.toInt + 3) (h11_ : (j10_ : Int) = z6_.toInt) (e9_ : z8_ = Mz.1 (50, 0, 0) j10_) (h15_ : r12_.toInt = 20 + 4 * v.toInt) (h18_ : z17_.toInt = r12_.toInt + 1) (h22_ : (j21_ : Int) = z17_.toInt) (e20_ : z19_ = Mz.1 (50, 0, 0) j21_) (h23_ : -1 ≤ z19_.toInt ∧ z19_.toInt ≤ 191) (h27_ : r24_.toInt = 20 + 4 * v.toInt) (h30_ : z29_.toInt = r24_.toInt + 0) (h34_ : (j33_ : Int) = z29_.toInt) (e32_ : z31_ = Mz.1 (50, 0, 0) j33_) : 20 ≤ j33_ ∧ j33_ < 180 ∧ j33_ % 4 = 0 := by have r_v := rngI v; have r_r1_ := rngI r1_; have r_z6_ := rngI z6_; have r_z8_ := rngI z8_; have r_r12_ := rngI r12_; have r_z17_ := rngI z17_; have r_z19_ := rngI z19_; have r_r24_ := rngI r24_; have r_z29_ := rngI z29_; have r_z31_ := rngI z31_; subst e9_; subst e20_; subst e32_; omega
theorem lf_c_X12_thingGoes_11 (Mz : mM) (v : Int32) (r1_ : Int32) (z6_ : Int32) (j10_ : Nat) (z8_ : Int32) (r12_ : Int32) (z17_ : Int32) (j21_ : Nat) (z19_ : Int32) (r24_ : Int32) (z29_ : Int32) (j33_ : Nat) (z31_ : Int32) (hv : 0 ≤ v.toInt ∧ v.toInt ≤ 39) (h4_ : r1_.toInt = 20 + 4 * v.toInt) (h7_ : z6_.toInt = r1_.toInt + 3) (h11_ : (j10_ : Int) = z6_.toInt) (e9_ : z8_ = Mz.1 (50, 0, 0) j10_) (h15_ : r12_.toInt = 20 + 4 * v.toInt) (h18_ : z17_.toInt = r12_.toInt + 1) (h22_ : (j21_ : Int) = z17_.toInt) (e20_ : z19_ = Mz.1 (50, 0, 0) j21_) (h23_ : -1 ≤ z19_.toInt ∧ z19_.toInt ≤ 191) (h27_ : r24_.toInt = 20 + 4 * v.toInt) (h30_ : z29_.toInt = r24_.toInt + 0) (h34_ : (j33_ : Int) = z29_.toInt) (e32_ : z31_ = Mz.1 (50, 0, 0) j33_) (h35_ : 0 ≤ z31_.toInt ∧ z31_.toInt ≤ 4) (h36_ : 3 ≤ z31_.toInt) (h37_ : ¬ z8_.toInt = 0) (h38_ : 0 ≤ z19_.toInt) : ¬ z8_ = 0 := by have r_v := rngI v; have r_r1_ := rngI r1_; have r_z6_ := rngI z6_; have r_z8_ := rngI z8_; have r_r12_ := rngI r12_; have r_z17_ := rngI z17_; have r_z19_ := rngI z19_; have r_r24_ := rngI r24_; have r_z29_ := rngI z29_; have r_z31_ := rngI z31_; intro h9; subst h9; simp at *; try omega
theorem lf_c_X12_thingGoes_15 (Mz : mM) (v : Int32) (r1_ : Int32) (z6_ : Int32) (j10_ : Nat) (z8_ : Int32) (r12_ : Int32) (z17_ : Int32) (j21_ : Nat) (z19_ : Int32) (r24_ : Int32) (z29_ : Int32) (j33_ : Nat) (z31_ : Int32) (r44_ : Int32) (z49_ : Int32) (j53_ : Nat) (z51_ : Int32) (hv : 0 ≤ v.toInt ∧ v.toInt ≤ 39) (h4_ : r1_.toInt = 20 + 4 * v.toInt) (h7_ : z6_.toInt = r1_.toInt + 3) (h11_ : (j10_ : Int) = z6_.toInt) (e9_ : z8_ = Mz.1 (50, 0, 0) j10_) (h15_ : r12_.toInt = 20 + 4 * v.toInt) (h18_ : z17_.toInt = r12_.toInt + 1) (h22_ : (j21_ : Int) = z17_.toInt) (e20_ : z19_ = Mz.1 (50, 0, 0) j21_) (h23_ : -1 ≤ z19_.toInt ∧ z19_.toInt ≤ 191) (h27_ : r24_.toInt = 20 + 4 * v.toInt) (h30_ : z29_.toInt = r24_.toInt + 0) (h34_ : (j33_ : Int) = z29_.toInt) (e32_ : z31_ = Mz.1 (50, 0, 0) j33_) (h35_ : 0 ≤ z31_.toInt ∧ z31_.toInt ≤ 4) (h36_ : 3 ≤ z31_.toInt) (h37_ : ¬ z8_.toInt = 0) (h38_ : 0 ≤ z19_.toInt) (h47_ : r44_.toInt = 20 + 4 * v.toInt) (h50_ : z49_.toInt = r44_.toInt + 2) (h54_ : (j53_ : Int) = z49_.toInt) (e52_ : z51_ = Mz.1 (50, 0, 0) j53_) : 20 ≤ j53_ ∧ j53_ < 180 ∧ j53_ % 4 = 2 := by have r_v := rngI v; have r_r1_ := rngI r1_; have r_z6_ := rngI z6_; have r_z8_ := rngI z8_; have r_r12_ := rngI r12_; have r_z17_ := rngI z17_; have r_z19_ := rngI z19_; have r_r24_ := rngI r24_; have r_z29_ := rngI z29_; have r_z31_ := rngI z31_; have r_r44_ := rngI r44_; have r_z49_ := rngI z49_; have r_z51_ := rngI z51_; subst e9_; subst e20_; subst e32_; subst e52_; omega
theorem lf_c_X12_thingGoes_19 (Mz : mM) (v : Int32) (r1_ : Int32) (z6_ : Int32) (j10_ : Nat) (z8_ : Int32) (r12_ : Int32) (z17_ : Int32) (j21_ : Nat) (z19_ : Int32) (r24_ : Int32) (z29_ : Int32) (j33_ : Nat) (z31_ : Int32) (r44_ : Int32) (z49_ : Int32) (j53_ : Nat) (z51_ : Int32) (r56_ : Int32) (r62_ : Int32) (z67_ : Int32) (r69_ : Int32) (hv : 0 ≤ v.toInt ∧ v.toInt ≤ 39) (h4_ : r1_.toInt = 20 + 4 * v.toInt) (h7_ : z6_.toInt = r1_.toInt + 3) (h11_ : (j10_ : Int) = z6_.toInt) (e9_ : z8_ = Mz.1 (50, 0, 0) j10_) (h15_ : r12_.toInt = 20 + 4 * v.toInt) (h18_ : z17_.toInt = r12_.toInt + 1) (h22_ : (j21_ : Int) = z17_.toInt) (e20_ : z19_ = Mz.1 (50, 0, 0) j21_) (h23_ : -1 ≤ z19_.toInt ∧ z19_.toInt ≤ 191) (h27_ : r24_.toInt = 20 + 4 * v.toInt) (h30_ : z29_.toInt = r24_.toInt + 0) (h34_ : (j33_ : Int) = z29_.toInt) (e32_ : z31_ = Mz.1 (50, 0, 0) j33_) (h35_ : 0 ≤ z31_.toInt ∧ z31_.toInt ≤ 4) (h36_ : 3 ≤ z31_.toInt) (h37_ : ¬ z8_.toInt = 0) (h38_ : 0 ≤ z19_.toInt) (h47_ : r44_.toInt = 20 + 4 * v.toInt) (h50_ : z49_.toInt = r44_.toInt + 2) (h54_ : (j53_ : Int) = z49_.toInt) (e52_ : z51_ = Mz.1 (50, 0, 0) j53_) (h55_ : 0 ≤ z51_.toInt ∧ z51_.toInt ≤ 7) (h59_ : onP z19_ z51_ 1 r56_ ∧ -1 ≤ r56_.toInt ∧ r56_.toInt ≤ 191) (h61_ : r56_.toInt < 0) (h65_ : r62_.toInt = 20 + 4 * v.toInt) (h68_ : z67_.toInt = r62_.toInt + 2) (h72_ : r69_.toInt = 20 + 4 * v.toInt) : -2147483648 ≤ r69_.toInt + 2 ∧ r69_.toInt + 2 < 2147483648 := by have r_v := rngI v; have r_r1_ := rngI r1_; have r_z6_ := rngI z6_; have r_z8_ := rngI z8_; have r_r12_ := rngI r12_; have r_z17_ := rngI z17_; have r_z19_ := rngI z19_; have r_r24_ := rngI r24_; have r_z29_ := rngI z29_; have r_z31_ := rngI z31_; have r_r44_ := rngI r44_; have r_z49_ := rngI z49_; have r_z51_ := rngI z51_; have r_r56_ := rngI r56_; have r_r62_ := rngI r62_; have r_z67_ := rngI z67_; have r_r69_ := rngI r69_; subst e9_; subst e20_; subst e32_; subst e52_; omega
theorem lf_c_X12_thingGoes_21 (Mz : mM) (v : Int32) (r1_ : Int32) (z6_ : Int32) (j10_ : Nat) (z8_ : Int32) (r12_ : Int32) (z17_ : Int32) (j21_ : Nat) (z19_ : Int32) (r24_ : Int32) (z29_ : Int32) (j33_ : Nat) (z31_ : Int32) (r44_ : Int32) (z49_ : Int32) (j53_ : Nat) (z51_ : Int32) (r56_ : Int32) (r62_ : Int32) (z67_ : Int32) (r69_ : Int32) (z74_ : Int32) (j78_ : Nat) (z76_ : Int32) (hv : 0 ≤ v.toInt ∧ v.toInt ≤ 39) (h4_ : r1_.toInt = 20 + 4 * v.toInt) (h7_ : z6_.toInt = r1_.toInt + 3) (h11_ : (j10_ : Int) = z6_.toInt) (e9_ : z8_ = Mz.1 (50, 0, 0) j10_) (h15_ : r12_.toInt = 20 + 4 * v.toInt) (h18_ : z17_.toInt = r12_.toInt + 1) (h22_ : (j21_ : Int) = z17_.toInt) (e20_ : z19_ = Mz.1 (50, 0, 0) j21_) (h23_ : -1 ≤ z19_.toInt ∧ z19_.toInt ≤ 191) (h27_ : r24_.toInt = 20 + 4 * v.toInt) (h30_ : z29_.toInt = r24_.toInt + 0) (h34_ : (j33_ : Int) = z29_.toInt) (e32_ : z31_ = Mz.1 (50, 0, 0) j33_) (h35_ : 0 ≤ z31_.toInt ∧ z31_.toInt ≤ 4) (h36_ : 3 ≤ z31_.toInt) (h37_ : ¬ z8_.toInt = 0) (h38_ : 0 ≤ z19_.toInt) (h47_ : r44_.toInt = 20 + 4 * v.toInt) (h50_ : z49_.toInt = r44_.toInt + 2) (h54_ : (j53_ : Int) = z49_.toInt) (e52_ : z51_ = Mz.1 (50, 0, 0) j53_) (h55_ : 0 ≤ z51_.toInt ∧ z51_.toInt ≤ 7) (h59_ : onP z19_ z51_ 1 r56_ ∧ -1 ≤ r56_.toInt ∧ r56_.toInt ≤ 191) (h61_ : r56_.toInt < 0) (h65_ : r62_.toInt = 20 + 4 * v.toInt) (h68_ : z67_.toInt = r62_.toInt + 2) (h72_ : r69_.toInt = 20 + 4 * v.toInt) (h75_ : z74_.toInt = r69_.toInt + 2) (h79_ : (j78_ : Int) = z74_.toInt) (e77_ : z76_ = Mz.1 (50, 0, 0) j78_) : 20 ≤ j78_ ∧ j78_ < 180 ∧ j78_ % 4 = 2 := by have r_v := rngI v; have r_r1_ := rngI r1_; have r_z6_ := rngI z6_; have r_z8_ := rngI z8_; have r_r12_ := rngI r12_; have r_z17_ := rngI z17_; have r_z19_ := rngI z19_; have r_r24_ := rngI r24_; have r_z29_ := rngI z29_; have r_z31_ := rngI z31_; have r_r44_ := rngI r44_; have r_z49_ := rngI z49_; have r_z51_ := rngI z51_; have r_r56_ := rngI r56_; have r_r62_ := rngI r62_; have r_z67_ := rngI z67_; have r_r69_ := rngI r69_; have r_z74_ := rngI z74_; have r_z76_ := rngI z76_; subst e9_; subst e20_; subst e32_; subst e52_; subst e77_; omega
theorem lf_c_X12_thingGoes_22 (z76_ : Int32) (h80_ : 0 ≤ z76_.toInt ∧ z76_.toInt ≤ 7) : -2147483648 ≤ z76_.toInt + 4 ∧ z76_.toInt + 4 < 2147483648 := by omega
theorem lf_c_X12_thingGoes_24 (M86_ : mM) (Mz : mM) (v : Int32) (r1_ : Int32) (z6_ : Int32) (j10_ : Nat) (z8_ : Int32) (r12_ : Int32) (z17_ : Int32) (j21_ : Nat) (z19_ : Int32) (r24_ : Int32) (z29_ : Int32) (j33_ : Nat) (z31_ : Int32) (r44_ : Int32) (z49_ : Int32) (j53_ : Nat) (z51_ : Int32) (r56_ : Int32) (r62_ : Int32) (z67_ : Int32) (r69_ : Int32) (z74_ : Int32) (j78_ : Nat) (z76_ : Int32) (z81_ : Int32) (z83_ : Int32) (j88_ : Nat) (hv : 0 ≤ v.toInt ∧ v.toInt ≤ 39) (h4_ : r1_.toInt = 20 + 4 * v.toInt) (h7_ : z6_.toInt = r1_.toInt + 3) (h11_ : (j10_ : Int) = z6_.toInt) (e9_ : z8_ = Mz.1 (50, 0, 0) j10_) (h15_ : r12_.toInt = 20 + 4 * v.toInt) (h18_ : z17_.toInt = r12_.toInt + 1) (h22_ : (j21_ : Int) = z17_.toInt) (e20_ : z19_ = Mz.1 (50, 0, 0) j21_) (h23_ : -1 ≤ z19_.toInt ∧ z19_.toInt ≤ 191) (h27_ : r24_.toInt = 20 + 4 * v.toInt) (h30_ : z29_.toInt = r24_.toInt + 0) (h34_ : (j33_ : Int) = z29_.toInt) (e32_ : z31_ = Mz.1 (50, 0, 0) j33_) (h35_ : 0 ≤ z31_.toInt ∧ z31_.toInt ≤ 4) (h36_ : 3 ≤ z31_.toInt) (h37_ : ¬ z8_.toInt = 0) (h38_ : 0 ≤ z19_.toInt) (h47_ : r44_.toInt = 20 + 4 * v.toInt) (h50_ : z49_.toInt = r44_.toInt + 2) (h54_ : (j53_ : Int) = z49_.toInt) (e52_ : z51_ = Mz.1 (50, 0, 0) j53_) (h55_ : 0 ≤ z51_.toInt ∧ z51_.toInt ≤ 7) (h59_ : onP z19_ z51_ 1 r56_ ∧ -1 ≤ r56_.toInt ∧ r56_.toInt ≤ 191) (h61_ : r56_.toInt < 0) (h65_ : r62_.toInt = 20 + 4 * v.toInt) (h68_ : z67_.toInt = r62_.toInt + 2) (h72_ : r69_.toInt = 20 + 4 * v.toInt) (h75_ : z74_.toInt = r69_.toInt + 2) (h79_ : (j78_ : Int) = z74_.toInt) (e77_ : z76_ = Mz.1 (50, 0, 0) j78_) (h80_ : 0 ≤ z76_.toInt ∧ z76_.toInt ≤ 7) (h82_ : z81_.toInt = z76_.toInt + 4) (h84_ : 0 ≤ z83_.toInt ∧ z83_.toInt < ((2 ^ 3 : Nat) : Int)) (h89_ : (j88_ : Int) = z67_.toInt) (hM87_ : M86_ = up Mz (50, 0, 0) j88_ z83_) : PN j88_ z83_ ∧ (j88_ < 345 ∨ 493 < j88_) := by have r_v := rngI v; have r_r1_ := rngI r1_; have r_z6_ := rngI z6_; have r_z8_ := rngI z8_; have r_r12_ := rngI r12_; have r_z17_ := rngI z17_; have r_z19_ := rngI z19_; have r_r24_ := rngI r24_; have r_z29_ := rngI z29_; have r_z31_ := rngI z31_; have r_r44_ := rngI r44_; have r_z49_ := rngI z49_; have r_z51_ := rngI z51_; have r_r56_ := rngI r56_; have r_r62_ := rngI r62_; have r_z67_ := rngI z67_; have r_r69_ := rngI r69_; have r_z74_ := rngI z74_; have r_z76_ := rngI z76_; have r_z81_ := rngI z81_; have r_z83_ := rngI z83_; subst e9_; subst e20_; subst e32_; subst e52_; subst e77_; unfold PN; omega
theorem lf_c_X12_thingGoes_28 (Mz : mM) (v : Int32) (r1_ : Int32) (z6_ : Int32) (j10_ : Nat) (z8_ : Int32) (r12_ : Int32) (z17_ : Int32) (j21_ : Nat) (z19_ : Int32) (r24_ : Int32) (z29_ : Int32) (j33_ : Nat) (z31_ : Int32) (r44_ : Int32) (z49_ : Int32) (j53_ : Nat) (z51_ : Int32) (r56_ : Int32) (r98_ : Int32) (z103_ : Int32) (r105_ : Int32) (hv : 0 ≤ v.toInt ∧ v.toInt ≤ 39) (h4_ : r1_.toInt = 20 + 4 * v.toInt) (h7_ : z6_.toInt = r1_.toInt + 3) (h11_ : (j10_ : Int) = z6_.toInt) (e9_ : z8_ = Mz.1 (50, 0, 0) j10_) (h15_ : r12_.toInt = 20 + 4 * v.toInt) (h18_ : z17_.toInt = r12_.toInt + 1) (h22_ : (j21_ : Int) = z17_.toInt) (e20_ : z19_ = Mz.1 (50, 0, 0) j21_) (h23_ : -1 ≤ z19_.toInt ∧ z19_.toInt ≤ 191) (h27_ : r24_.toInt = 20 + 4 * v.toInt) (h30_ : z29_.toInt = r24_.toInt + 0) (h34_ : (j33_ : Int) = z29_.toInt) (e32_ : z31_ = Mz.1 (50, 0, 0) j33_) (h35_ : 0 ≤ z31_.toInt ∧ z31_.toInt ≤ 4) (h36_ : 3 ≤ z31_.toInt) (h37_ : ¬ z8_.toInt = 0) (h38_ : 0 ≤ z19_.toInt) (h47_ : r44_.toInt = 20 + 4 * v.toInt) (h50_ : z49_.toInt = r44_.toInt + 2) (h54_ : (j53_ : Int) = z49_.toInt) (e52_ : z51_ = Mz.1 (50, 0, 0) j53_) (h55_ : 0 ≤ z51_.toInt ∧ z51_.toInt ≤ 7) (h59_ : onP z19_ z51_ 1 r56_ ∧ -1 ≤ r56_.toInt ∧ r56_.toInt ≤ 191) (h61_ : 0 ≤ r56_.toInt) (h101_ : r98_.toInt = 20 + 4 * v.toInt) (h104_ : z103_.toInt = r98_.toInt + 2) (h108_ : r105_.toInt = 20 + 4 * v.toInt) : -2147483648 ≤ r105_.toInt + 2 ∧ r105_.toInt + 2 < 2147483648 := by have r_v := rngI v; have r_r1_ := rngI r1_; have r_z6_ := rngI z6_; have r_z8_ := rngI z8_; have r_r12_ := rngI r12_; have r_z17_ := rngI z17_; have r_z19_ := rngI z19_; have r_r24_ := rngI r24_; have r_z29_ := rngI z29_; have r_z31_ := rngI z31_; have r_r44_ := rngI r44_; have r_z49_ := rngI z49_; have r_z51_ := rngI z51_; have r_r56_ := rngI r56_; have r_r98_ := rngI r98_; have r_z103_ := rngI z103_; have r_r105_ := rngI r105_; subst e9_; subst e20_; subst e32_; subst e52_; omega
theorem lf_c_X12_thingGoes_30 (Mz : mM) (v : Int32) (r1_ : Int32) (z6_ : Int32) (j10_ : Nat) (z8_ : Int32) (r12_ : Int32) (z17_ : Int32) (j21_ : Nat) (z19_ : Int32) (r24_ : Int32) (z29_ : Int32) (j33_ : Nat) (z31_ : Int32) (r44_ : Int32) (z49_ : Int32) (j53_ : Nat) (z51_ : Int32) (r56_ : Int32) (r98_ : Int32) (z103_ : Int32) (r105_ : Int32) (z110_ : Int32) (j114_ : Nat) (z112_ : Int32) (hv : 0 ≤ v.toInt ∧ v.toInt ≤ 39) (h4_ : r1_.toInt = 20 + 4 * v.toInt) (h7_ : z6_.toInt = r1_.toInt + 3) (h11_ : (j10_ : Int) = z6_.toInt) (e9_ : z8_ = Mz.1 (50, 0, 0) j10_) (h15_ : r12_.toInt = 20 + 4 * v.toInt) (h18_ : z17_.toInt = r12_.toInt + 1) (h22_ : (j21_ : Int) = z17_.toInt) (e20_ : z19_ = Mz.1 (50, 0, 0) j21_) (h23_ : -1 ≤ z19_.toInt ∧ z19_.toInt ≤ 191) (h27_ : r24_.toInt = 20 + 4 * v.toInt) (h30_ : z29_.toInt = r24_.toInt + 0) (h34_ : (j33_ : Int) = z29_.toInt) (e32_ : z31_ = Mz.1 (50, 0, 0) j33_) (h35_ : 0 ≤ z31_.toInt ∧ z31_.toInt ≤ 4) (h36_ : 3 ≤ z31_.toInt) (h37_ : ¬ z8_.toInt = 0) (h38_ : 0 ≤ z19_.toInt) (h47_ : r44_.toInt = 20 + 4 * v.toInt) (h50_ : z49_.toInt = r44_.toInt + 2) (h54_ : (j53_ : Int) = z49_.toInt) (e52_ : z51_ = Mz.1 (50, 0, 0) j53_) (h55_ : 0 ≤ z51_.toInt ∧ z51_.toInt ≤ 7) (h59_ : onP z19_ z51_ 1 r56_ ∧ -1 ≤ r56_.toInt ∧ r56_.toInt ≤ 191) (h61_ : 0 ≤ r56_.toInt) (h101_ : r98_.toInt = 20 + 4 * v.toInt) (h104_ : z103_.toInt = r98_.toInt + 2) (h108_ : r105_.toInt = 20 + 4 * v.toInt) (h111_ : z110_.toInt = r105_.toInt + 2) (h115_ : (j114_ : Int) = z110_.toInt) (e113_ : z112_ = Mz.1 (50, 0, 0) j114_) : 20 ≤ j114_ ∧ j114_ < 180 ∧ j114_ % 4 = 2 := by have r_v := rngI v; have r_r1_ := rngI r1_; have r_z6_ := rngI z6_; have r_z8_ := rngI z8_; have r_r12_ := rngI r12_; have r_z17_ := rngI z17_; have r_z19_ := rngI z19_; have r_r24_ := rngI r24_; have r_z29_ := rngI z29_; have r_z31_ := rngI z31_; have r_r44_ := rngI r44_; have r_z49_ := rngI z49_; have r_z51_ := rngI z51_; have r_r56_ := rngI r56_; have r_r98_ := rngI r98_; have r_z103_ := rngI z103_; have r_r105_ := rngI r105_; have r_z110_ := rngI z110_; have r_z112_ := rngI z112_; subst e9_; subst e20_; subst e32_; subst e52_; subst e113_; omega
theorem lf_c_X12_thingGoes_33 (M122_ : mM) (Mz : mM) (v : Int32) (r1_ : Int32) (z6_ : Int32) (j10_ : Nat) (z8_ : Int32) (r12_ : Int32) (z17_ : Int32) (j21_ : Nat) (z19_ : Int32) (r24_ : Int32) (z29_ : Int32) (j33_ : Nat) (z31_ : Int32) (r44_ : Int32) (z49_ : Int32) (j53_ : Nat) (z51_ : Int32) (r56_ : Int32) (r98_ : Int32) (z103_ : Int32) (r105_ : Int32) (z110_ : Int32) (j114_ : Nat) (z112_ : Int32) (z117_ : Int32) (z119_ : Int32) (j124_ : Nat) (hv : 0 ≤ v.toInt ∧ v.toInt ≤ 39) (h4_ : r1_.toInt = 20 + 4 * v.toInt) (h7_ : z6_.toInt = r1_.toInt + 3) (h11_ : (j10_ : Int) = z6_.toInt) (e9_ : z8_ = Mz.1 (50, 0, 0) j10_) (h15_ : r12_.toInt = 20 + 4 * v.toInt) (h18_ : z17_.toInt = r12_.toInt + 1) (h22_ : (j21_ : Int) = z17_.toInt) (e20_ : z19_ = Mz.1 (50, 0, 0) j21_) (h23_ : -1 ≤ z19_.toInt ∧ z19_.toInt ≤ 191) (h27_ : r24_.toInt = 20 + 4 * v.toInt) (h30_ : z29_.toInt = r24_.toInt + 0) (h34_ : (j33_ : Int) = z29_.toInt) (e32_ : z31_ = Mz.1 (50, 0, 0) j33_) (h35_ : 0 ≤ z31_.toInt ∧ z31_.toInt ≤ 4) (h36_ : 3 ≤ z31_.toInt) (h37_ : ¬ z8_.toInt = 0) (h38_ : 0 ≤ z19_.toInt) (h47_ : r44_.toInt = 20 + 4 * v.toInt) (h50_ : z49_.toInt = r44_.toInt + 2) (h54_ : (j53_ : Int) = z49_.toInt) (e52_ : z51_ = Mz.1 (50, 0, 0) j53_) (h55_ : 0 ≤ z51_.toInt ∧ z51_.toInt ≤ 7) (h59_ : onP z19_ z51_ 1 r56_ ∧ -1 ≤ r56_.toInt ∧ r56_.toInt ≤ 191) (h61_ : 0 ≤ r56_.toInt) (h101_ : r98_.toInt = 20 + 4 * v.toInt) (h104_ : z103_.toInt = r98_.toInt + 2) (h108_ : r105_.toInt = 20 + 4 * v.toInt) (h111_ : z110_.toInt = r105_.toInt + 2) (h115_ : (j114_ : Int) = z110_.toInt) (e113_ : z112_ = Mz.1 (50, 0, 0) j114_) (h116_ : 0 ≤ z112_.toInt ∧ z112_.toInt ≤ 7) (h118_ : z117_.toInt = z112_.toInt + 4) (h120_ : 0 ≤ z119_.toInt ∧ z119_.toInt < ((2 ^ 3 : Nat) : Int)) (h125_ : (j124_ : Int) = z103_.toInt) (hM123_ : M122_ = up Mz (50, 0, 0) j124_ z119_) : PN j124_ z119_ ∧ (j124_ < 345 ∨ 493 < j124_) := by have r_v := rngI v; have r_r1_ := rngI r1_; have r_z6_ := rngI z6_; have r_z8_ := rngI z8_; have r_r12_ := rngI r12_; have r_z17_ := rngI z17_; have r_z19_ := rngI z19_; have r_r24_ := rngI r24_; have r_z29_ := rngI z29_; have r_z31_ := rngI z31_; have r_r44_ := rngI r44_; have r_z49_ := rngI z49_; have r_z51_ := rngI z51_; have r_r56_ := rngI r56_; have r_r98_ := rngI r98_; have r_z103_ := rngI z103_; have r_r105_ := rngI r105_; have r_z110_ := rngI z110_; have r_z112_ := rngI z112_; have r_z117_ := rngI z117_; have r_z119_ := rngI z119_; subst e9_; subst e20_; subst e32_; subst e52_; subst e113_; unfold PN; omega
theorem lf_c_X12_thingGoes_37 (M135_ : mM) (Mz : mM) (v : Int32) (r1_ : Int32) (z6_ : Int32) (j10_ : Nat) (z8_ : Int32) (r12_ : Int32) (z17_ : Int32) (j21_ : Nat) (z19_ : Int32) (r24_ : Int32) (z29_ : Int32) (j33_ : Nat) (z31_ : Int32) (r44_ : Int32) (z49_ : Int32) (j53_ : Nat) (z51_ : Int32) (r56_ : Int32) (r128_ : Int32) (z133_ : Int32) (j137_ : Nat) (hv : 0 ≤ v.toInt ∧ v.toInt ≤ 39) (h4_ : r1_.toInt = 20 + 4 * v.toInt) (h7_ : z6_.toInt = r1_.toInt + 3) (h11_ : (j10_ : Int) = z6_.toInt) (e9_ : z8_ = Mz.1 (50, 0, 0) j10_) (h15_ : r12_.toInt = 20 + 4 * v.toInt) (h18_ : z17_.toInt = r12_.toInt + 1) (h22_ : (j21_ : Int) = z17_.toInt) (e20_ : z19_ = Mz.1 (50, 0, 0) j21_) (h23_ : -1 ≤ z19_.toInt ∧ z19_.toInt ≤ 191) (h27_ : r24_.toInt = 20 + 4 * v.toInt) (h30_ : z29_.toInt = r24_.toInt + 0) (h34_ : (j33_ : Int) = z29_.toInt) (e32_ : z31_ = Mz.1 (50, 0, 0) j33_) (h35_ : 0 ≤ z31_.toInt ∧ z31_.toInt ≤ 4) (h36_ : 3 ≤ z31_.toInt) (h37_ : ¬ z8_.toInt = 0) (h38_ : 0 ≤ z19_.toInt) (h47_ : r44_.toInt = 20 + 4 * v.toInt) (h50_ : z49_.toInt = r44_.toInt + 2) (h54_ : (j53_ : Int) = z49_.toInt) (e52_ : z51_ = Mz.1 (50, 0, 0) j53_) (h55_ : 0 ≤ z51_.toInt ∧ z51_.toInt ≤ 7) (h59_ : onP z19_ z51_ 1 r56_ ∧ -1 ≤ r56_.toInt ∧ r56_.toInt ≤ 191) (h61_ : 0 ≤ r56_.toInt) (h131_ : r128_.toInt = 20 + 4 * v.toInt) (h134_ : z133_.toInt = r128_.toInt + 1) (h138_ : (j137_ : Int) = z133_.toInt) (hM136_ : M135_ = up Mz (50, 0, 0) j137_ r56_) : PN j137_ r56_ ∧ (j137_ < 345 ∨ 493 < j137_) := by have r_v := rngI v; have r_r1_ := rngI r1_; have r_z6_ := rngI z6_; have r_z8_ := rngI z8_; have r_r12_ := rngI r12_; have r_z17_ := rngI z17_; have r_z19_ := rngI z19_; have r_r24_ := rngI r24_; have r_z29_ := rngI z29_; have r_z31_ := rngI z31_; have r_r44_ := rngI r44_; have r_z49_ := rngI z49_; have r_z51_ := rngI z51_; have r_r56_ := rngI r56_; have r_r128_ := rngI r128_; have r_z133_ := rngI z133_; subst e9_; subst e20_; subst e32_; subst e52_; unfold PN; omega
set_option maxHeartbeats 4000000 in
set_option maxRecDepth 100000 in
theorem c_X12_thingGoes (l : Launch) (G : va_G) (cy : Nat → ClassId) (ad : rf → Nat) (d : Nat) (v : Int32) (Mz : mM) (hIz : InvD Mz) (hv : 0 ≤ v.toInt ∧ v.toInt ≤ 39) : WP DD l G cy ad yX12_thingGoes cX12_thingGoes 5 none (d + 3) 0 [(0, vR (12, 0, 0)), (1, vI v)] [] Mz (fun r M' => InvD M' ∧ FR (S_c_X12_thingGoes) Mz M' ∧ (True) ∧ SP_X12_thingGoes v Mz M') := by
  have hFz : FR (S_c_X12_thingGoes) Mz Mz := FR.self
  refine w_aload_n dX12_thingGoes_0 rfl 0 rfl ?_
  refine w_getR (c' := (50, 0, 0)) fl_RX12_9 rfl rfl ic_12 dX12_thingGoes_1 rfl ?_
  refine w_aload_n dX12_thingGoes_4 rfl 0 rfl ?_
  refine w_iload_n dX12_thingGoes_5 rfl 1 rfl ?_
  refine w_callV (as := [vI v]) (rest := [vR (50, 0, 0)]) (c_X12_thing l G cy ad (d + 2) v Mz hIz (lf_c_X12_thingIs_0 v hv )) kV_X12_thing pnn_17 (Nat.le_of_ble_eq_true rfl) m_1447 rfl rfl rfl ic_12 rfl rfl (by decide) (Nat.le_of_ble_eq_true rfl) dX12_thingGoes_6 (fun r1_ M2_ q3_ => ?_)
  obtain ⟨rfl, h4_, hs5_⟩ := q3_
  refine w_iconst (v := 3) dX12_thingGoes_9 (by decide) ?_
  refine w_iaddB dX12_thingGoes_10 (rfl : r1_.toInt = r1_.toInt) li_3 (lf_c_X12_thingGoes_1 v r1_ hv h4_ ) (fun z6_ h7_ => ?_)
  refine w_iald rfl rfl ic_50 (rfl : z6_.toInt = z6_.toInt) (lf_c_X12_moves_14 v r1_ z6_ hv h4_ h7_ ) dX12_thingGoes_11 (fun j10_ h11_ z8_ e9_ => ?_)
  refine w_istore_n (ls' := [(2, vI z8_), (0, vR (12, 0, 0)), (1, vI v)]) dX12_thingGoes_12 rfl (by decide) rfl ?_
  refine w_aload_n dX12_thingGoes_13 rfl 1 rfl ?_
  refine w_getR (c' := (50, 0, 0)) fl_RX12_9 rfl rfl ic_12 dX12_thingGoes_14 rfl ?_
  refine w_aload_n dX12_thingGoes_17 rfl 1 rfl ?_
  refine w_iload_n dX12_thingGoes_18 rfl 2 rfl ?_
  refine w_callV (as := [vI v]) (rest := [vR (50, 0, 0)]) (c_X12_thing l G cy ad (d + 2) v Mz hIz (lf_c_X12_thingIs_0 v hv )) kV_X12_thing pnn_17 (Nat.le_of_ble_eq_true rfl) m_1447 rfl rfl rfl ic_12 rfl rfl (by decide) (Nat.le_of_ble_eq_true rfl) dX12_thingGoes_19 (fun r12_ M13_ q14_ => ?_)
  obtain ⟨rfl, h15_, hs16_⟩ := q14_
  refine w_iconst (v := 1) dX12_thingGoes_22 (by decide) ?_
  refine w_iaddB dX12_thingGoes_23 (rfl : r12_.toInt = r12_.toInt) li_1 (lf_c_X12_thingGoes_4 Mz v r1_ z6_ j10_ z8_ r12_ hv h4_ h7_ h11_ e9_ h15_ ) (fun z17_ h18_ => ?_)
  refine w_iald rfl rfl ic_50 (rfl : z17_.toInt = z17_.toInt) (lf_c_X12_moves_6 v r12_ z17_ hv h15_ h18_ ) dX12_thingGoes_24 (fun j21_ h22_ z19_ e20_ => ?_)
  have h23_ : -1 ≤ z19_.toInt ∧ z19_.toInt ≤ 191 := pn_tc hIz e20_ (lf_c_X12_thingGoes_6 Mz v r1_ z6_ j10_ z8_ r12_ z17_ j21_ z19_ hv h4_ h7_ h11_ e9_ h15_ h18_ h22_ e20_ )
  refine w_istore_n (ls' := [(3, vI z19_), (2, vI z8_), (0, vR (12, 0, 0)), (1, vI v)]) dX12_thingGoes_25 rfl (by decide) rfl ?_
  refine w_aload_n dX12_thingGoes_26 rfl 2 rfl ?_
  refine w_getR (c' := (50, 0, 0)) fl_RX12_9 rfl rfl ic_12 dX12_thingGoes_27 rfl ?_
  refine w_aload_n dX12_thingGoes_30 rfl 2 rfl ?_
  refine w_iload_n dX12_thingGoes_31 rfl 3 rfl ?_
  refine w_callV (as := [vI v]) (rest := [vR (50, 0, 0)]) (c_X12_thing l G cy ad (d + 2) v Mz hIz (lf_c_X12_thingIs_0 v hv )) kV_X12_thing pnn_17 (Nat.le_of_ble_eq_true rfl) m_1447 rfl rfl rfl ic_12 rfl rfl (by decide) (Nat.le_of_ble_eq_true rfl) dX12_thingGoes_32 (fun r24_ M25_ q26_ => ?_)
  obtain ⟨rfl, h27_, hs28_⟩ := q26_
  refine w_iconst (v := 0) dX12_thingGoes_35 (by decide) ?_
  refine w_iaddB dX12_thingGoes_36 (rfl : r24_.toInt = r24_.toInt) li_0 (lf_c_X12_moves_1 v r24_ hv h27_ ) (fun z29_ h30_ => ?_)
  refine w_iald rfl rfl ic_50 (rfl : z29_.toInt = z29_.toInt) (lf_c_X12_moves_2 v r24_ z29_ hv h27_ h30_ ) dX12_thingGoes_37 (fun j33_ h34_ z31_ e32_ => ?_)
  have h35_ : 0 ≤ z31_.toInt ∧ z31_.toInt ≤ 4 := pn_tk hIz e32_ (lf_c_X12_thingGoes_10 Mz v r1_ z6_ j10_ z8_ r12_ z17_ j21_ z19_ r24_ z29_ j33_ z31_ hv h4_ h7_ h11_ e9_ h15_ h18_ h22_ e20_ h23_ h27_ h30_ h34_ e32_ )
  refine w_iconst (v := 3) dX12_thingGoes_38 (by decide) ?_
  refine w_icmp_lt (tgt := 61) dX12_thingGoes_39 (by decide) (rfl : z31_.toInt = z31_.toInt) li_3 (fun h36_ => ?_) (fun h36_ => ?_)
  · exact w_vret rfl dX12_thingGoes_61 ⟨hIz, hFz, trivial, ⟨r1_, hs5_, h4_, z6_, h7_, j10_, h11_, z8_, e9_, r12_, hs16_, h15_, z17_, h18_, j21_, h22_, z19_, e20_, h23_, r24_, hs28_, h27_, z29_, h30_, j33_, h34_, z31_, e32_, h35_, (Or.inl ⟨h36_, rfl⟩)⟩⟩
  · refine w_iload_n dX12_thingGoes_42 rfl 1 rfl ?_
    refine w_if_eq (tgt := 61) dX12_thingGoes_43 (by decide) (rfl : z8_.toInt = z8_.toInt) (fun h37_ => ?_) (fun h37_ => ?_)
    · exact w_vret rfl dX12_thingGoes_61 ⟨hIz, hFz, trivial, ⟨r1_, hs5_, h4_, z6_, h7_, j10_, h11_, z8_, e9_, r12_, hs16_, h15_, z17_, h18_, j21_, h22_, z19_, e20_, h23_, r24_, hs28_, h27_, z29_, h30_, j33_, h34_, z31_, e32_, h35_, (Or.inr ⟨h36_, (Or.inl ⟨h37_, rfl⟩)⟩)⟩⟩
    · refine w_iload_n dX12_thingGoes_46 rfl 0 rfl ?_
      refine w_if_lt (tgt := 61) dX12_thingGoes_47 (by decide) (rfl : z19_.toInt = z19_.toInt) (fun h38_ => ?_) (fun h38_ => ?_)
      · exact w_vret rfl dX12_thingGoes_61 ⟨hIz, hFz, trivial, ⟨r1_, hs5_, h4_, z6_, h7_, j10_, h11_, z8_, e9_, r12_, hs16_, h15_, z17_, h18_, j21_, h22_, z19_, e20_, h23_, r24_, hs28_, h27_, z29_, h30_, j33_, h34_, z31_, e32_, h35_, (Or.inr ⟨h36_, (Or.inr ⟨h37_, (Or.inl ⟨h38_, rfl⟩)⟩)⟩)⟩⟩
      · refine w_aload_n dX12_thingGoes_50 rfl 2 rfl ?_
        refine w_getR (c' := (50, 0, 0)) fl_RX12_9 rfl rfl ic_12 dX12_thingGoes_51 rfl ?_
        refine w_iconst (v := 0) dX12_thingGoes_54 (by decide) ?_
        refine w_ialdL 0 rfl rfl ic_50 li_0 (by decide) dX12_thingGoes_55 (fun z39_ e40_ => ?_)
        refine w_iload_n dX12_thingGoes_56 rfl 1 rfl ?_
        refine w_irem dX12_thingGoes_57 (lf_c_X12_thingGoes_11 Mz v r1_ z6_ j10_ z8_ r12_ z17_ j21_ z19_ r24_ z29_ j33_ z31_ hv h4_ h7_ h11_ e9_ h15_ h18_ h22_ e20_ h23_ h27_ h30_ h34_ e32_ h35_ h36_ h37_ h38_ ) (fun z41_ h42_ => ?_)
        refine w_if_eq (tgt := 62) dX12_thingGoes_58 (by decide) (rfl : z41_.toInt = z41_.toInt) (fun h43_ => ?_) (fun h43_ => ?_)
        · refine w_aload_n dX12_thingGoes_62 rfl 2 rfl ?_
          refine w_iload_n dX12_thingGoes_63 rfl 0 rfl ?_
          refine w_aload_n dX12_thingGoes_64 rfl 2 rfl ?_
          refine w_getR (c' := (50, 0, 0)) fl_RX12_9 rfl rfl ic_12 dX12_thingGoes_65 rfl ?_
          refine w_aload_n dX12_thingGoes_68 rfl 2 rfl ?_
          refine w_iload_n dX12_thingGoes_69 rfl 3 rfl ?_
          refine w_callV (as := [vI v]) (rest := [vR (50, 0, 0), vI z19_, vR (12, 0, 0)]) (c_X12_thing l G cy ad (d + 2) v Mz hIz (lf_c_X12_thingIs_0 v hv )) kV_X12_thing pnn_17 (Nat.le_of_ble_eq_true rfl) m_1447 rfl rfl rfl ic_12 rfl rfl (by decide) (Nat.le_of_ble_eq_true rfl) dX12_thingGoes_70 (fun r44_ M45_ q46_ => ?_)
          obtain ⟨rfl, h47_, hs48_⟩ := q46_
          refine w_iconst (v := 2) dX12_thingGoes_73 (by decide) ?_
          refine w_iaddB dX12_thingGoes_74 (rfl : r44_.toInt = r44_.toInt) li_2 (lf_c_X12_moves_9 v r44_ hv h47_ ) (fun z49_ h50_ => ?_)
          refine w_iald rfl rfl ic_50 (rfl : z49_.toInt = z49_.toInt) (lf_c_X12_moves_10 v r44_ z49_ hv h47_ h50_ ) dX12_thingGoes_75 (fun j53_ h54_ z51_ e52_ => ?_)
          have h55_ : 0 ≤ z51_.toInt ∧ z51_.toInt ≤ 7 := pn_ts hIz e52_ (lf_c_X12_thingGoes_15 Mz v r1_ z6_ j10_ z8_ r12_ z17_ j21_ z19_ r24_ z29_ j33_ z31_ r44_ z49_ j53_ z51_ hv h4_ h7_ h11_ e9_ h15_ h18_ h22_ e20_ h23_ h27_ h30_ h34_ e32_ h35_ h36_ h37_ h38_ h47_ h50_ h54_ e52_ )
          refine w_iconst (v := 1) dX12_thingGoes_76 (by decide) ?_
          refine w_callV (as := [vI z19_, vI z51_, vI 1]) (rest := []) (c_X12_on l G cy ad (d + 1) z19_ z51_ 1 Mz hIz h55_) kV_X12_on pnn_17 (Nat.le_of_ble_eq_true rfl) m_1632 rfl rfl rfl ic_12 rfl rfl (by decide) (Nat.le_of_ble_eq_true rfl) dX12_thingGoes_77 (fun r56_ M57_ q58_ => ?_)
          obtain ⟨rfl, h59_, hs60_⟩ := q58_
          refine w_istore (ls' := [(4, vI r56_), (3, vI z19_), (2, vI z8_), (0, vR (12, 0, 0)), (1, vI v)]) dX12_thingGoes_80 (by decide) rfl ?_
          refine w_iload dX12_thingGoes_82 0 rfl ?_
          refine w_if_lt (tgt := 113) dX12_thingGoes_84 (by decide) (rfl : r56_.toInt = r56_.toInt) (fun h61_ => ?_) (fun h61_ => ?_)
          · refine w_aload_n dX12_thingGoes_113 rfl 3 rfl ?_
            refine w_getR (c' := (50, 0, 0)) fl_RX12_9 rfl rfl ic_12 dX12_thingGoes_114 rfl ?_
            refine w_aload_n dX12_thingGoes_117 rfl 3 rfl ?_
            refine w_iload_n dX12_thingGoes_118 rfl 4 rfl ?_
            refine w_callV (as := [vI v]) (rest := [vR (50, 0, 0)]) (c_X12_thing l G cy ad (d + 2) v Mz hIz (lf_c_X12_thingIs_0 v hv )) kV_X12_thing pnn_17 (Nat.le_of_ble_eq_true rfl) m_1447 rfl rfl rfl ic_12 rfl rfl (by decide) (Nat.le_of_ble_eq_true rfl) dX12_thingGoes_119 (fun r62_ M63_ q64_ => ?_)
            obtain ⟨rfl, h65_, hs66_⟩ := q64_
            refine w_iconst (v := 2) dX12_thingGoes_122 (by decide) ?_
            refine w_iaddB dX12_thingGoes_123 (rfl : r62_.toInt = r62_.toInt) li_2 (lf_c_X12_moves_9 v r62_ hv h65_ ) (fun z67_ h68_ => ?_)
            refine w_aload_n dX12_thingGoes_124 rfl 3 rfl ?_
            refine w_getR (c' := (50, 0, 0)) fl_RX12_9 rfl rfl ic_12 dX12_thingGoes_125 rfl ?_
            refine w_aload_n dX12_thingGoes_128 rfl 3 rfl ?_
            refine w_iload_n dX12_thingGoes_129 rfl 4 rfl ?_
            refine w_callV (as := [vI v]) (rest := [vR (50, 0, 0), vI z67_, vR (50, 0, 0)]) (c_X12_thing l G cy ad (d + 2) v Mz hIz (lf_c_X12_thingIs_0 v hv )) kV_X12_thing pnn_17 (Nat.le_of_ble_eq_true rfl) m_1447 rfl rfl rfl ic_12 rfl rfl (by decide) (Nat.le_of_ble_eq_true rfl) dX12_thingGoes_130 (fun r69_ M70_ q71_ => ?_)
            obtain ⟨rfl, h72_, hs73_⟩ := q71_
            refine w_iconst (v := 2) dX12_thingGoes_133 (by decide) ?_
            refine w_iaddB dX12_thingGoes_134 (rfl : r69_.toInt = r69_.toInt) li_2 (lf_c_X12_thingGoes_19 Mz v r1_ z6_ j10_ z8_ r12_ z17_ j21_ z19_ r24_ z29_ j33_ z31_ r44_ z49_ j53_ z51_ r56_ r62_ z67_ r69_ hv h4_ h7_ h11_ e9_ h15_ h18_ h22_ e20_ h23_ h27_ h30_ h34_ e32_ h35_ h36_ h37_ h38_ h47_ h50_ h54_ e52_ h55_ h59_ h61_ h65_ h68_ h72_ ) (fun z74_ h75_ => ?_)
            refine w_iald rfl rfl ic_50 (rfl : z74_.toInt = z74_.toInt) (lf_c_X12_moves_10 v r69_ z74_ hv h72_ h75_ ) dX12_thingGoes_135 (fun j78_ h79_ z76_ e77_ => ?_)
            have h80_ : 0 ≤ z76_.toInt ∧ z76_.toInt ≤ 7 := pn_ts hIz e77_ (lf_c_X12_thingGoes_21 Mz v r1_ z6_ j10_ z8_ r12_ z17_ j21_ z19_ r24_ z29_ j33_ z31_ r44_ z49_ j53_ z51_ r56_ r62_ z67_ r69_ z74_ j78_ z76_ hv h4_ h7_ h11_ e9_ h15_ h18_ h22_ e20_ h23_ h27_ h30_ h34_ e32_ h35_ h36_ h37_ h38_ h47_ h50_ h54_ e52_ h55_ h59_ h61_ h65_ h68_ h72_ h75_ h79_ e77_ )
            refine w_iconst (v := 4) dX12_thingGoes_136 (by decide) ?_
            refine w_iaddB dX12_thingGoes_137 (rfl : z76_.toInt = z76_.toInt) li_4 (lf_c_X12_thingGoes_22 z76_ h80_ ) (fun z81_ h82_ => ?_)
            refine w_bipush (v := 7) dX12_thingGoes_138 (by decide) ?_
            refine w_iand dX12_thingGoes_140 (fun z83_ h85_ => ?_)
            have h84_ : 0 ≤ z83_.toInt ∧ z83_.toInt < ((2 ^ 3 : Nat) : Int) := by rw [h85_]; exact andI _ 3 (by decide) (by decide)
            refine w_iast DD_nd rfl rfl ic_50 (rfl : z67_.toInt = z67_.toInt) (lf_c_X12_moves_10 v r62_ z67_ hv h65_ h68_ ) dX12_thingGoes_141 (fun j88_ h89_ M86_ hM87_ => ?_)
            have hI90_ := hIz.put50 hM87_ (lf_c_X12_thingGoes_24 M86_ Mz v r1_ z6_ j10_ z8_ r12_ z17_ j21_ z19_ r24_ z29_ j33_ z31_ r44_ z49_ j53_ z51_ r56_ r62_ z67_ r69_ z74_ j78_ z76_ z81_ z83_ j88_ hv h4_ h7_ h11_ e9_ h15_ h18_ h22_ e20_ h23_ h27_ h30_ h34_ e32_ h35_ h36_ h37_ h38_ h47_ h50_ h54_ e52_ h55_ h59_ h61_ h65_ h68_ h72_ h75_ h79_ e77_ h80_ h82_ h84_ h89_ hM87_ )
            have hF91_ := hFz.put hM87_ (Or.inl ⟨rfl, rfl⟩)
            exact w_vret rfl dX12_thingGoes_142 ⟨hI90_, hF91_, trivial, ⟨r1_, hs5_, h4_, z6_, h7_, j10_, h11_, z8_, e9_, r12_, hs16_, h15_, z17_, h18_, j21_, h22_, z19_, e20_, h23_, r24_, hs28_, h27_, z29_, h30_, j33_, h34_, z31_, e32_, h35_, (Or.inr ⟨h36_, (Or.inr ⟨h37_, (Or.inr ⟨h38_, z39_, e40_, z41_, h42_, (Or.inl ⟨h43_, r44_, hs48_, h47_, z49_, h50_, j53_, h54_, z51_, e52_, h55_, r56_, hs60_, h59_, (Or.inl ⟨h61_, r62_, hs66_, h65_, z67_, h68_, r69_, hs73_, h72_, z74_, h75_, j78_, h79_, z76_, e77_, h80_, z81_, h82_, z83_, h85_, h84_, j88_, h89_, M86_, hM87_, rfl⟩)⟩)⟩)⟩)⟩)⟩⟩
          · refine w_aload_n dX12_thingGoes_87 rfl 3 rfl ?_
            refine w_iload dX12_thingGoes_88 0 rfl ?_
            refine w_callV (as := [vI r56_]) (rest := []) (c_X12_isFree l G cy ad d r56_ Mz hIz) kV_X12_isFree pnn_17 (Nat.le_of_ble_eq_true rfl) m_1439 rfl rfl rfl ic_12 rfl rfl (by decide) (Nat.le_of_ble_eq_true rfl) dX12_thingGoes_90 (fun r92_ M93_ q94_ => ?_)
            obtain ⟨rfl, h95_, hs96_⟩ := q94_
            refine w_if_eq (tgt := 113) dX12_thingGoes_93 (by decide) (rfl : r92_.toInt = r92_.toInt) (fun h97_ => ?_) (fun h97_ => ?_)
            · refine w_aload_n dX12_thingGoes_113 rfl 3 rfl ?_
              refine w_getR (c' := (50, 0, 0)) fl_RX12_9 rfl rfl ic_12 dX12_thingGoes_114 rfl ?_
              refine w_aload_n dX12_thingGoes_117 rfl 3 rfl ?_
              refine w_iload_n dX12_thingGoes_118 rfl 4 rfl ?_
              refine w_callV (as := [vI v]) (rest := [vR (50, 0, 0)]) (c_X12_thing l G cy ad (d + 2) v Mz hIz (lf_c_X12_thingIs_0 v hv )) kV_X12_thing pnn_17 (Nat.le_of_ble_eq_true rfl) m_1447 rfl rfl rfl ic_12 rfl rfl (by decide) (Nat.le_of_ble_eq_true rfl) dX12_thingGoes_119 (fun r98_ M99_ q100_ => ?_)
              obtain ⟨rfl, h101_, hs102_⟩ := q100_
              refine w_iconst (v := 2) dX12_thingGoes_122 (by decide) ?_
              refine w_iaddB dX12_thingGoes_123 (rfl : r98_.toInt = r98_.toInt) li_2 (lf_c_X12_moves_9 v r98_ hv h101_ ) (fun z103_ h104_ => ?_)
              refine w_aload_n dX12_thingGoes_124 rfl 3 rfl ?_
              refine w_getR (c' := (50, 0, 0)) fl_RX12_9 rfl rfl ic_12 dX12_thingGoes_125 rfl ?_
              refine w_aload_n dX12_thingGoes_128 rfl 3 rfl ?_
              refine w_iload_n dX12_thingGoes_129 rfl 4 rfl ?_
              refine w_callV (as := [vI v]) (rest := [vR (50, 0, 0), vI z103_, vR (50, 0, 0)]) (c_X12_thing l G cy ad (d + 2) v Mz hIz (lf_c_X12_thingIs_0 v hv )) kV_X12_thing pnn_17 (Nat.le_of_ble_eq_true rfl) m_1447 rfl rfl rfl ic_12 rfl rfl (by decide) (Nat.le_of_ble_eq_true rfl) dX12_thingGoes_130 (fun r105_ M106_ q107_ => ?_)
              obtain ⟨rfl, h108_, hs109_⟩ := q107_
              refine w_iconst (v := 2) dX12_thingGoes_133 (by decide) ?_
              refine w_iaddB dX12_thingGoes_134 (rfl : r105_.toInt = r105_.toInt) li_2 (lf_c_X12_thingGoes_28 Mz v r1_ z6_ j10_ z8_ r12_ z17_ j21_ z19_ r24_ z29_ j33_ z31_ r44_ z49_ j53_ z51_ r56_ r98_ z103_ r105_ hv h4_ h7_ h11_ e9_ h15_ h18_ h22_ e20_ h23_ h27_ h30_ h34_ e32_ h35_ h36_ h37_ h38_ h47_ h50_ h54_ e52_ h55_ h59_ h61_ h101_ h104_ h108_ ) (fun z110_ h111_ => ?_)
              refine w_iald rfl rfl ic_50 (rfl : z110_.toInt = z110_.toInt) (lf_c_X12_moves_10 v r105_ z110_ hv h108_ h111_ ) dX12_thingGoes_135 (fun j114_ h115_ z112_ e113_ => ?_)
              have h116_ : 0 ≤ z112_.toInt ∧ z112_.toInt ≤ 7 := pn_ts hIz e113_ (lf_c_X12_thingGoes_30 Mz v r1_ z6_ j10_ z8_ r12_ z17_ j21_ z19_ r24_ z29_ j33_ z31_ r44_ z49_ j53_ z51_ r56_ r98_ z103_ r105_ z110_ j114_ z112_ hv h4_ h7_ h11_ e9_ h15_ h18_ h22_ e20_ h23_ h27_ h30_ h34_ e32_ h35_ h36_ h37_ h38_ h47_ h50_ h54_ e52_ h55_ h59_ h61_ h101_ h104_ h108_ h111_ h115_ e113_ )
              refine w_iconst (v := 4) dX12_thingGoes_136 (by decide) ?_
              refine w_iaddB dX12_thingGoes_137 (rfl : z112_.toInt = z112_.toInt) li_4 (lf_c_X12_thingGoes_22 z112_ h116_ ) (fun z117_ h118_ => ?_)
              refine w_bipush (v := 7) dX12_thingGoes_138 (by decide) ?_
              refine w_iand dX12_thingGoes_140 (fun z119_ h121_ => ?_)
              have h120_ : 0 ≤ z119_.toInt ∧ z119_.toInt < ((2 ^ 3 : Nat) : Int) := by rw [h121_]; exact andI _ 3 (by decide) (by decide)
              refine w_iast DD_nd rfl rfl ic_50 (rfl : z103_.toInt = z103_.toInt) (lf_c_X12_moves_10 v r98_ z103_ hv h101_ h104_ ) dX12_thingGoes_141 (fun j124_ h125_ M122_ hM123_ => ?_)
              have hI126_ := hIz.put50 hM123_ (lf_c_X12_thingGoes_33 M122_ Mz v r1_ z6_ j10_ z8_ r12_ z17_ j21_ z19_ r24_ z29_ j33_ z31_ r44_ z49_ j53_ z51_ r56_ r98_ z103_ r105_ z110_ j114_ z112_ z117_ z119_ j124_ hv h4_ h7_ h11_ e9_ h15_ h18_ h22_ e20_ h23_ h27_ h30_ h34_ e32_ h35_ h36_ h37_ h38_ h47_ h50_ h54_ e52_ h55_ h59_ h61_ h101_ h104_ h108_ h111_ h115_ e113_ h116_ h118_ h120_ h125_ hM123_ )
              have hF127_ := hFz.put hM123_ (Or.inl ⟨rfl, rfl⟩)
              exact w_vret rfl dX12_thingGoes_142 ⟨hI126_, hF127_, trivial, ⟨r1_, hs5_, h4_, z6_, h7_, j10_, h11_, z8_, e9_, r12_, hs16_, h15_, z17_, h18_, j21_, h22_, z19_, e20_, h23_, r24_, hs28_, h27_, z29_, h30_, j33_, h34_, z31_, e32_, h35_, (Or.inr ⟨h36_, (Or.inr ⟨h37_, (Or.inr ⟨h38_, z39_, e40_, z41_, h42_, (Or.inl ⟨h43_, r44_, hs48_, h47_, z49_, h50_, j53_, h54_, z51_, e52_, h55_, r56_, hs60_, h59_, (Or.inr ⟨h61_, r92_, hs96_, h95_, (Or.inl ⟨h97_, r98_, hs102_, h101_, z103_, h104_, r105_, hs109_, h108_, z110_, h111_, j114_, h115_, z112_, e113_, h116_, z117_, h118_, z119_, h121_, h120_, j124_, h125_, M122_, hM123_, rfl⟩)⟩)⟩)⟩)⟩)⟩)⟩⟩
            · refine w_aload_n dX12_thingGoes_96 rfl 3 rfl ?_
              refine w_getR (c' := (50, 0, 0)) fl_RX12_9 rfl rfl ic_12 dX12_thingGoes_97 rfl ?_
              refine w_aload_n dX12_thingGoes_100 rfl 3 rfl ?_
              refine w_iload_n dX12_thingGoes_101 rfl 4 rfl ?_
              refine w_callV (as := [vI v]) (rest := [vR (50, 0, 0)]) (c_X12_thing l G cy ad (d + 2) v Mz hIz (lf_c_X12_thingIs_0 v hv )) kV_X12_thing pnn_17 (Nat.le_of_ble_eq_true rfl) m_1447 rfl rfl rfl ic_12 rfl rfl (by decide) (Nat.le_of_ble_eq_true rfl) dX12_thingGoes_102 (fun r128_ M129_ q130_ => ?_)
              obtain ⟨rfl, h131_, hs132_⟩ := q130_
              refine w_iconst (v := 1) dX12_thingGoes_105 (by decide) ?_
              refine w_iaddB dX12_thingGoes_106 (rfl : r128_.toInt = r128_.toInt) li_1 (lf_c_X12_away_1 v r128_ hv h131_ ) (fun z133_ h134_ => ?_)
              refine w_iload dX12_thingGoes_107 0 rfl ?_
              refine w_iast DD_nd rfl rfl ic_50 (rfl : z133_.toInt = z133_.toInt) (lf_c_X12_moves_6 v r128_ z133_ hv h131_ h134_ ) dX12_thingGoes_109 (fun j137_ h138_ M135_ hM136_ => ?_)
              have hI139_ := hIz.put50 hM136_ (lf_c_X12_thingGoes_37 M135_ Mz v r1_ z6_ j10_ z8_ r12_ z17_ j21_ z19_ r24_ z29_ j33_ z31_ r44_ z49_ j53_ z51_ r56_ r128_ z133_ j137_ hv h4_ h7_ h11_ e9_ h15_ h18_ h22_ e20_ h23_ h27_ h30_ h34_ e32_ h35_ h36_ h37_ h38_ h47_ h50_ h54_ e52_ h55_ h59_ h61_ h131_ h134_ h138_ hM136_ )
              have hF140_ := hFz.put hM136_ (Or.inl ⟨rfl, rfl⟩)
              refine w_goto (tgt := 142) dX12_thingGoes_110 (by decide) ?_
              exact w_vret rfl dX12_thingGoes_142 ⟨hI139_, hF140_, trivial, ⟨r1_, hs5_, h4_, z6_, h7_, j10_, h11_, z8_, e9_, r12_, hs16_, h15_, z17_, h18_, j21_, h22_, z19_, e20_, h23_, r24_, hs28_, h27_, z29_, h30_, j33_, h34_, z31_, e32_, h35_, (Or.inr ⟨h36_, (Or.inr ⟨h37_, (Or.inr ⟨h38_, z39_, e40_, z41_, h42_, (Or.inl ⟨h43_, r44_, hs48_, h47_, z49_, h50_, j53_, h54_, z51_, e52_, h55_, r56_, hs60_, h59_, (Or.inr ⟨h61_, r92_, hs96_, h95_, (Or.inr ⟨h97_, r128_, hs132_, h131_, z133_, h134_, j137_, h138_, M135_, hM136_, rfl⟩)⟩)⟩)⟩)⟩)⟩)⟩⟩
        · exact w_vret rfl dX12_thingGoes_61 ⟨hIz, hFz, trivial, ⟨r1_, hs5_, h4_, z6_, h7_, j10_, h11_, z8_, e9_, r12_, hs16_, h15_, z17_, h18_, j21_, h22_, z19_, e20_, h23_, r24_, hs28_, h27_, z29_, h30_, j33_, h34_, z31_, e32_, h35_, (Or.inr ⟨h36_, (Or.inr ⟨h37_, (Or.inr ⟨h38_, z39_, e40_, z41_, h42_, (Or.inr ⟨h43_, rfl⟩)⟩)⟩)⟩)⟩⟩
def ST_X12_fullAhead_16 (v : Int32) (u : Int32) (Mz : mM) (z8_ : Int32) (v4_16 : Int32) (v4_16y : Int32) : Prop := (1 ≤ v4_16.toInt) ∧ (v4_16.toInt ≤ 10) ∧ (v4_16.toInt < 10) ∧ ∃ z15_ : Int32, (z15_ = u &&& (7 : Int32)) ∧ (0 ≤ z15_.toInt ∧ z15_.toInt < ((2 ^ 3 : Nat) : Int)) ∧ ∃ r18_ : Int32, (SP_X12_on z8_ z15_ v4_16 Mz r18_) ∧ (onP z8_ z15_ v4_16 r18_ ∧ -1 ≤ r18_.toInt ∧ r18_.toInt ≤ 191) ∧ (0 ≤ r18_.toInt) ∧ ∃ z24_ : Int32, (z24_ = u &&& (7 : Int32)) ∧ (0 ≤ z24_.toInt ∧ z24_.toInt < ((2 ^ 3 : Nat) : Int)) ∧ ∃ r27_ : Int32, (SP_X12_on z8_ z24_ v4_16 Mz r27_) ∧ (onP z8_ z24_ v4_16 r27_ ∧ -1 ≤ r27_.toInt ∧ r27_.toInt ≤ 191) ∧ ∃ r32_ : Int32, (SP_X12_held v r27_ Mz r32_) ∧ (0 ≤ r32_.toInt ∧ r32_.toInt ≤ 2) ∧ (¬ r32_.toInt = 2) ∧ ∃ z38_ : Int32, (z38_.toInt = v4_16.toInt + 1) ∧ v4_16y = z38_
def SP_X12_fullAhead (v : Int32) (u : Int32) (Mz : mM) (r_ : Int32) : Prop := ∃ r1_ : Int32, (SP_X12_goer v Mz r1_) ∧ (r1_.toInt = 180 + 9 * v.toInt) ∧ ∃ z6_ : Int32, (z6_.toInt = r1_.toInt + 1) ∧ ∃ j10_ : Nat, ((j10_ : Int) = z6_.toInt) ∧ ∃ z8_ : Int32, (z8_ = Mz.1 (50, 0, 0) j10_) ∧ (0 ≤ z8_.toInt ∧ z8_.toInt ≤ 191) ∧ ∃ v4_16 : Int32, (1 ≤ v4_16.toInt) ∧ (v4_16.toInt ≤ 10) ∧ (RCH (fun x_ y_ => ST_X12_fullAhead_16 v u Mz z8_ x_ y_) (1 : Int32) v4_16) ∧ (((10 ≤ v4_16.toInt) ∧ r_ = 0) ∨ ((v4_16.toInt < 10) ∧ ∃ z15_ : Int32, (z15_ = u &&& (7 : Int32)) ∧ (0 ≤ z15_.toInt ∧ z15_.toInt < ((2 ^ 3 : Nat) : Int)) ∧ ∃ r18_ : Int32, (SP_X12_on z8_ z15_ v4_16 Mz r18_) ∧ (onP z8_ z15_ v4_16 r18_ ∧ -1 ≤ r18_.toInt ∧ r18_.toInt ≤ 191) ∧ (((r18_.toInt < 0) ∧ r_ = 0) ∨ ((0 ≤ r18_.toInt) ∧ ∃ z24_ : Int32, (z24_ = u &&& (7 : Int32)) ∧ (0 ≤ z24_.toInt ∧ z24_.toInt < ((2 ^ 3 : Nat) : Int)) ∧ ∃ r27_ : Int32, (SP_X12_on z8_ z24_ v4_16 Mz r27_) ∧ (onP z8_ z24_ v4_16 r27_ ∧ -1 ≤ r27_.toInt ∧ r27_.toInt ≤ 191) ∧ ∃ r32_ : Int32, (SP_X12_held v r27_ Mz r32_) ∧ (0 ≤ r32_.toInt ∧ r32_.toInt ≤ 2) ∧ (r32_.toInt = 2) ∧ r_ = v4_16))))
theorem lf_c_X12_fullAhead_3 (z15_ : Int32) (h16_ : 0 ≤ z15_.toInt ∧ z15_.toInt < ((2 ^ 3 : Nat) : Int)) : 0 ≤ z15_.toInt ∧ z15_.toInt ≤ 7 := by have r_z15_ := rngI z15_; omega
theorem lf_c_X12_fullAhead_5 (z8_ : Int32) (v4_16 : Int32) (z24_ : Int32) (r27_ : Int32) (h30_ : onP z8_ z24_ v4_16 r27_ ∧ -1 ≤ r27_.toInt ∧ r27_.toInt ≤ 191) : -1 ≤ r27_.toInt ∧ r27_.toInt ≤ 191 := by omega
theorem lf_c_X12_fullAhead_6 (v4_16 : Int32) (hv0_16 : 1 ≤ v4_16.toInt) (h14_ : v4_16.toInt < 10) : -2147483648 ≤ v4_16.toInt + 1 ∧ v4_16.toInt + 1 < 2147483648 := by omega
theorem lf_c_X12_fullAhead_8 (v4_16 : Int32) (z38_ : Int32) (h14_ : v4_16.toInt < 10) (h39_ : z38_.toInt = v4_16.toInt + 1) : z38_.toInt ≤ 10 := by omega
theorem lf_c_X12_fullAhead_9 (v4_16 : Int32) (z38_ : Int32) (h14_ : v4_16.toInt < 10) (h39_ : z38_.toInt = v4_16.toInt + 1) : (2147483648 - z38_.toInt).toNat < (2147483648 - v4_16.toInt).toNat := by omega
set_option maxHeartbeats 4000000 in
set_option maxRecDepth 100000 in
theorem c_X12_fullAhead (l : Launch) (G : va_G) (cy : Nat → ClassId) (ad : rf → Nat) (d : Nat) (v : Int32) (u : Int32) (Mz : mM) (hIz : InvD Mz) (hv : 0 ≤ v.toInt ∧ v.toInt ≤ 7) : WP DD l G cy ad yX12_fullAhead cX12_fullAhead 5 (some .int) (d + 3) 0 [(0, vR (12, 0, 0)), (1, vI v), (2, vI u)] [] Mz (fun r M' => Mz = M' ∧ (True) ∧ SP_X12_fullAhead v u Mz r) := by
  refine w_aload_n dX12_fullAhead_0 rfl 0 rfl ?_
  refine w_getR (c' := (50, 0, 0)) fl_RX12_9 rfl rfl ic_12 dX12_fullAhead_1 rfl ?_
  refine w_aload_n dX12_fullAhead_4 rfl 0 rfl ?_
  refine w_iload_n dX12_fullAhead_5 rfl 1 rfl ?_
  refine w_callV (as := [vI v]) (rest := [vR (50, 0, 0)]) (c_X12_goer l G cy ad (d + 2) v Mz hIz hv) kV_X12_goer pnn_17 (Nat.le_of_ble_eq_true rfl) m_1451 rfl rfl rfl ic_12 rfl rfl (by decide) (Nat.le_of_ble_eq_true rfl) dX12_fullAhead_6 (fun r1_ M2_ q3_ => ?_)
  obtain ⟨rfl, h4_, hs5_⟩ := q3_
  refine w_iconst (v := 1) dX12_fullAhead_9 (by decide) ?_
  refine w_iaddB dX12_fullAhead_10 (rfl : r1_.toInt = r1_.toInt) li_1 (lf_c_X12_echo_0 v r1_ hv h4_ ) (fun z6_ h7_ => ?_)
  refine w_iald rfl rfl ic_50 (rfl : z6_.toInt = z6_.toInt) (lf_c_X12_echo_1 v r1_ z6_ hv h4_ h7_ ) dX12_fullAhead_11 (fun j10_ h11_ z8_ e9_ => ?_)
  have h12_ : 0 ≤ z8_.toInt ∧ z8_.toInt ≤ 191 := pn_wc hIz e9_ (lf_c_X12_echo_2 Mz v r1_ z6_ j10_ z8_ hv h4_ h7_ h11_ e9_ )
  refine w_istore_n (ls' := [(3, vI z8_), (0, vR (12, 0, 0)), (1, vI v), (2, vI u)]) dX12_fullAhead_12 rfl (by decide) rfl ?_
  refine w_iconst (v := 1) dX12_fullAhead_13 (by decide) ?_
  refine w_istore (ls' := [(4, vI 1), (3, vI z8_), (0, vR (12, 0, 0)), (1, vI v), (2, vI u)]) dX12_fullAhead_14 (by decide) rfl ?_
  have lp13_ : ∀ (nn_16 : Nat) (v4_16 : Int32) (hv0_16 : 1 ≤ v4_16.toInt) (hv1_16 : v4_16.toInt ≤ 10) (hL_16 : RCH (fun x_ y_ => ST_X12_fullAhead_16 v u Mz z8_ x_ y_) (1 : Int32) v4_16), (2147483648 - v4_16.toInt).toNat < nn_16 → WP DD l G cy ad yX12_fullAhead cX12_fullAhead 5 (some .int) (d + 3) 16 [(4, vI v4_16), (3, vI z8_), (0, vR (12, 0, 0)), (1, vI v), (2, vI u)] [] Mz (fun r M' => Mz = M' ∧ (True) ∧ SP_X12_fullAhead v u Mz r) := by
    intro nn_16
    induction nn_16 with
    | zero => intro v4_16 hv0_16 hv1_16 hL_16 hm_16; exact absurd hm_16 (Nat.not_lt_zero _)
    | succ nn_16 ih_16 =>
      intro v4_16 hv0_16 hv1_16 hL_16 hm_16
      refine w_iload dX12_fullAhead_16 0 rfl ?_
      refine w_bipush (v := 10) dX12_fullAhead_18 (by decide) ?_
      refine w_icmp_ge (tgt := 66) dX12_fullAhead_20 (by decide) (rfl : v4_16.toInt = v4_16.toInt) li_10 (fun h14_ => ?_) (fun h14_ => ?_)
      · refine w_iconst (v := 0) dX12_fullAhead_66 (by decide) ?_
        exact w_iret rfl dX12_fullAhead_67 ⟨rfl, trivial, ⟨r1_, hs5_, h4_, z6_, h7_, j10_, h11_, z8_, e9_, h12_, v4_16, hv0_16, hv1_16, hL_16, (Or.inl ⟨h14_, rfl⟩)⟩⟩
      · refine w_aload_n dX12_fullAhead_23 rfl 2 rfl ?_
        refine w_iload_n dX12_fullAhead_24 rfl 1 rfl ?_
        refine w_iload_n dX12_fullAhead_25 rfl 4 rfl ?_
        refine w_bipush (v := 7) dX12_fullAhead_26 (by decide) ?_
        refine w_iand dX12_fullAhead_28 (fun z15_ h17_ => ?_)
        have h16_ : 0 ≤ z15_.toInt ∧ z15_.toInt < ((2 ^ 3 : Nat) : Int) := by rw [h17_]; exact andI _ 3 (by decide) (by decide)
        refine w_iload dX12_fullAhead_29 0 rfl ?_
        refine w_callV (as := [vI z8_, vI z15_, vI v4_16]) (rest := []) (c_X12_on l G cy ad (d + 1) z8_ z15_ v4_16 Mz hIz (lf_c_X12_fullAhead_3 z15_ h16_ )) kV_X12_on pnn_17 (Nat.le_of_ble_eq_true rfl) m_1632 rfl rfl rfl ic_12 rfl rfl (by decide) (Nat.le_of_ble_eq_true rfl) dX12_fullAhead_31 (fun r18_ M19_ q20_ => ?_)
        obtain ⟨rfl, h21_, hs22_⟩ := q20_
        refine w_if_lt (tgt := 66) dX12_fullAhead_34 (by decide) (rfl : r18_.toInt = r18_.toInt) (fun h23_ => ?_) (fun h23_ => ?_)
        · refine w_iconst (v := 0) dX12_fullAhead_66 (by decide) ?_
          exact w_iret rfl dX12_fullAhead_67 ⟨rfl, trivial, ⟨r1_, hs5_, h4_, z6_, h7_, j10_, h11_, z8_, e9_, h12_, v4_16, hv0_16, hv1_16, hL_16, (Or.inr ⟨h14_, z15_, h17_, h16_, r18_, hs22_, h21_, (Or.inl ⟨h23_, rfl⟩)⟩)⟩⟩
        · refine w_aload_n dX12_fullAhead_37 rfl 2 rfl ?_
          refine w_iload_n dX12_fullAhead_38 rfl 3 rfl ?_
          refine w_aload_n dX12_fullAhead_39 rfl 2 rfl ?_
          refine w_iload_n dX12_fullAhead_40 rfl 1 rfl ?_
          refine w_iload_n dX12_fullAhead_41 rfl 4 rfl ?_
          refine w_bipush (v := 7) dX12_fullAhead_42 (by decide) ?_
          refine w_iand dX12_fullAhead_44 (fun z24_ h26_ => ?_)
          have h25_ : 0 ≤ z24_.toInt ∧ z24_.toInt < ((2 ^ 3 : Nat) : Int) := by rw [h26_]; exact andI _ 3 (by decide) (by decide)
          refine w_iload dX12_fullAhead_45 0 rfl ?_
          refine w_callV (as := [vI z8_, vI z24_, vI v4_16]) (rest := [vI v, vR (12, 0, 0)]) (c_X12_on l G cy ad (d + 1) z8_ z24_ v4_16 Mz hIz (lf_c_X12_fullAhead_3 z24_ h25_ )) kV_X12_on pnn_17 (Nat.le_of_ble_eq_true rfl) m_1632 rfl rfl rfl ic_12 rfl rfl (by decide) (Nat.le_of_ble_eq_true rfl) dX12_fullAhead_47 (fun r27_ M28_ q29_ => ?_)
          obtain ⟨rfl, h30_, hs31_⟩ := q29_
          refine w_callV (as := [vI v, vI r27_]) (rest := []) (c_X12_held l G cy ad d v r27_ Mz hIz hv (lf_c_X12_fullAhead_5 z8_ v4_16 z24_ r27_ h30_ )) kV_X12_held pnn_17 (Nat.le_of_ble_eq_true rfl) m_1695 rfl rfl rfl ic_12 rfl rfl (by decide) (Nat.le_of_ble_eq_true rfl) dX12_fullAhead_50 (fun r32_ M33_ q34_ => ?_)
          obtain ⟨rfl, h35_, hs36_⟩ := q34_
          refine w_iconst (v := 2) dX12_fullAhead_53 (by decide) ?_
          refine w_icmp_ne (tgt := 60) dX12_fullAhead_54 (by decide) (rfl : r32_.toInt = r32_.toInt) li_2 (fun h37_ => ?_) (fun h37_ => ?_)
          · refine w_iincB (j := 0) (f := fun z38_ => [(4, vI z38_), (3, vI z8_), (0, vR (12, 0, 0)), (1, vI v), (2, vI u)]) dX12_fullAhead_60 rfl (by decide) (fun _ => rfl) (rfl : v4_16.toInt = v4_16.toInt) li_1 (lf_c_X12_fullAhead_6 v4_16 hv0_16 h14_ ) (fun z38_ h39_ => ?_)
            refine w_goto (tgt := 16) dX12_fullAhead_63 (by decide) ?_
            refine w_loc (ls' := [(4, vI z38_), (3, vI z8_), (0, vR (12, 0, 0)), (1, vI v), (2, vI u)]) [0, 1, 2, 3, 4] rfl ?_
            exact ih_16 z38_ (lf_c_X9_yardsToFull_1 v4_16 z38_ hv0_16 h39_ ) (lf_c_X12_fullAhead_8 v4_16 z38_ h14_ h39_ ) (RCH.tail hL_16 ⟨hv0_16, hv1_16, h14_, z15_, h17_, h16_, r18_, hs22_, h21_, h23_, z24_, h26_, h25_, r27_, hs31_, h30_, r32_, hs36_, h35_, h37_, z38_, h39_, rfl⟩) (Nat.lt_of_lt_of_le (lf_c_X12_fullAhead_9 v4_16 z38_ h14_ h39_ ) (Nat.le_of_lt_succ hm_16))
          · refine w_iload dX12_fullAhead_57 0 rfl ?_
            exact w_iret rfl dX12_fullAhead_59 ⟨rfl, trivial, ⟨r1_, hs5_, h4_, z6_, h7_, j10_, h11_, z8_, e9_, h12_, v4_16, hv0_16, hv1_16, hL_16, (Or.inr ⟨h14_, z15_, h17_, h16_, r18_, hs22_, h21_, (Or.inr ⟨h23_, z24_, h26_, h25_, r27_, hs31_, h30_, r32_, hs36_, h35_, h37_, rfl⟩)⟩)⟩⟩
  exact lp13_ _ 1 (lf_c_X9_yardsToFull_4 ) (lf_c_X9_yardsToFull_5 ) RCH.refl (Nat.lt_succ_self _)
def S_c_X12_habitOf : rf → Nat → Prop := fun c k => (c.1 = 58 ∧ c.2.1 = 0 ∧ k = 0) ∨ (c.1 = 58 ∧ c.2.1 = 0 ∧ k = 1) ∨ (c.1 = 58 ∧ c.2.1 = 0 ∧ k = 2) ∨ (c.1 = 58 ∧ c.2.1 = 0 ∧ k = 3) ∨ (c.1 = 58 ∧ c.2.1 = 0 ∧ k = 4) ∨ (c.1 = 59 ∧ c.2.1 = 0) ∨ False
def SP_X12_habitOf (v : Int32) (Mz : mM) (r_ : Int32) (M_ : mM) : Prop := ∃ r1_ : Int32, (SP_X12_goer v Mz r1_) ∧ (r1_.toInt = 180 + 9 * v.toInt) ∧ ∃ z6_ : Int32, (z6_.toInt = r1_.toInt + 2) ∧ ∃ j10_ : Nat, ((j10_ : Int) = z6_.toInt) ∧ ∃ z8_ : Int32, (z8_ = Mz.1 (50, 0, 0) j10_) ∧ (0 ≤ z8_.toInt ∧ z8_.toInt ≤ 7) ∧ ∃ r13_ : Int32, (SP_X12_fullAhead v z8_ Mz r13_) ∧ ∃ M18_ : mM, (M18_ = up Mz (58, 0, 0) 0 r13_) ∧ ∃ z22_ : Int32, (z22_.toInt = z8_.toInt + 6) ∧ (InvD M18_) ∧ ∃ r24_ : Int32, (SP_X12_fullAhead v z22_ M18_ r24_) ∧ ∃ M29_ : mM, (M29_ = up M18_ (58, 0, 0) 1 r24_) ∧ ∃ z33_ : Int32, (z33_.toInt = z8_.toInt + 2) ∧ (InvD M29_) ∧ ∃ r35_ : Int32, (SP_X12_fullAhead v z33_ M29_ r35_) ∧ ∃ M40_ : mM, (M40_ = up M29_ (58, 0, 0) 2 r35_) ∧ (InvD M40_) ∧ ∃ r44_ : Int32, (SP_X12_goer v M40_ r44_) ∧ (r44_.toInt = 180 + 9 * v.toInt) ∧ ∃ z49_ : Int32, (z49_.toInt = r44_.toInt + 7) ∧ ∃ j53_ : Nat, ((j53_ : Int) = z49_.toInt) ∧ ∃ z51_ : Int32, (z51_ = M40_.1 (50, 0, 0) j53_) ∧ ∃ M55_ : mM, (M55_ = up M40_ (58, 0, 0) 3 z51_) ∧ ∃ z59_ : Int32, (z59_ = M55_.1 (50, 0, 0) 0) ∧ ∃ M61_ : mM, (M61_ = up M55_ (58, 0, 0) 4 z59_) ∧ (InvD M61_) ∧ ∃ r65_ : Int32, (SP_X12_hasText 2 M61_ r65_) ∧ ((0 ≤ r65_.toInt ∧ r65_.toInt ≤ 1)) ∧ (((r65_.toInt = 0) ∧ ∃ z71_ : Int32, (z71_ = M61_.1 (58, 0, 0) 0) ∧ (((¬ z71_.toInt = 1) ∧ r_ = 0 ∧ M_ = M61_) ∨ ((z71_.toInt = 1) ∧ r_ = 1 ∧ M_ = M61_))) ∨ ((¬ r65_.toInt = 0) ∧ ∃ M75_ : mM, (InvD M75_) ∧ (FR (S_c_X12_given) M61_ M75_) ∧ ∃ r74_ : Int32, (SP_X12_given 2 M61_ r74_ M75_) ∧ ∃ z82_ : Int32, (z82_ = r74_ &&& (3 : Int32)) ∧ (0 ≤ z82_.toInt ∧ z82_.toInt < ((2 ^ 2 : Nat) : Int)) ∧ r_ = z82_ ∧ M_ = M75_))
theorem lf_c_X12_habitOf_2 (Mz : mM) (v : Int32) (r1_ : Int32) (z6_ : Int32) (j10_ : Nat) (z8_ : Int32) (hv : 0 ≤ v.toInt ∧ v.toInt ≤ 7) (h4_ : r1_.toInt = 180 + 9 * v.toInt) (h7_ : z6_.toInt = r1_.toInt + 2) (h11_ : (j10_ : Int) = z6_.toInt) (e9_ : z8_ = Mz.1 (50, 0, 0) j10_) : 180 ≤ j10_ ∧ j10_ < 252 ∧ j10_ % 9 = 2 := by have r_v := rngI v; have r_r1_ := rngI r1_; have r_z6_ := rngI z6_; have r_z8_ := rngI z8_; subst e9_; omega
theorem lf_c_X12_habitOf_3 (z8_ : Int32) (h12_ : 0 ≤ z8_.toInt ∧ z8_.toInt ≤ 7) : -2147483648 ≤ z8_.toInt + 6 ∧ z8_.toInt + 6 < 2147483648 := by omega
theorem lf_c_X12_habitOf_4 (z8_ : Int32) (h12_ : 0 ≤ z8_.toInt ∧ z8_.toInt ≤ 7) : -2147483648 ≤ z8_.toInt + 2 ∧ z8_.toInt + 2 < 2147483648 := by omega
theorem lf_c_X12_habitOf_5 (v : Int32) (r1_ : Int32) (z6_ : Int32) (j10_ : Nat) (r44_ : Int32) (hv : 0 ≤ v.toInt ∧ v.toInt ≤ 7) (h4_ : r1_.toInt = 180 + 9 * v.toInt) (h7_ : z6_.toInt = r1_.toInt + 2) (h11_ : (j10_ : Int) = z6_.toInt) (h47_ : r44_.toInt = 180 + 9 * v.toInt) : -2147483648 ≤ r44_.toInt + 7 ∧ r44_.toInt + 7 < 2147483648 := by omega
theorem lf_c_X12_habitOf_6 (v : Int32) (r44_ : Int32) (z49_ : Int32) (hv : 0 ≤ v.toInt ∧ v.toInt ≤ 7) (h47_ : r44_.toInt = 180 + 9 * v.toInt) (h50_ : z49_.toInt = r44_.toInt + 7) : 0 ≤ z49_.toInt ∧ z49_.toInt < ((3567 : Nat) : Int) := by omega
set_option maxHeartbeats 4000000 in
set_option maxRecDepth 100000 in
theorem c_X12_habitOf (l : Launch) (G : va_G) (cy : Nat → ClassId) (ad : rf → Nat) (d : Nat) (v : Int32) (Mz : mM) (hIz : InvD Mz) (hv : 0 ≤ v.toInt ∧ v.toInt ≤ 7) : WP DD l G cy ad yX12_habitOf cX12_habitOf 3 (some .int) (d + 4) 0 [(0, vR (12, 0, 0)), (1, vI v)] [] Mz (fun r M' => InvD M' ∧ FR (S_c_X12_habitOf) Mz M' ∧ (True) ∧ SP_X12_habitOf v Mz r M') := by
  have hFz : FR (S_c_X12_habitOf) Mz Mz := FR.self
  refine w_aload_n dX12_habitOf_0 rfl 0 rfl ?_
  refine w_getR (c' := (50, 0, 0)) fl_RX12_9 rfl rfl ic_12 dX12_habitOf_1 rfl ?_
  refine w_aload_n dX12_habitOf_4 rfl 0 rfl ?_
  refine w_iload_n dX12_habitOf_5 rfl 1 rfl ?_
  refine w_callV (as := [vI v]) (rest := [vR (50, 0, 0)]) (c_X12_goer l G cy ad (d + 3) v Mz hIz hv) kV_X12_goer pnn_17 (Nat.le_of_ble_eq_true rfl) m_1451 rfl rfl rfl ic_12 rfl rfl (by decide) (Nat.le_of_ble_eq_true rfl) dX12_habitOf_6 (fun r1_ M2_ q3_ => ?_)
  obtain ⟨rfl, h4_, hs5_⟩ := q3_
  refine w_iconst (v := 2) dX12_habitOf_9 (by decide) ?_
  refine w_iaddB dX12_habitOf_10 (rfl : r1_.toInt = r1_.toInt) li_2 (lf_c_X12_face_0 v r1_ hv h4_ ) (fun z6_ h7_ => ?_)
  refine w_iald rfl rfl ic_50 (rfl : z6_.toInt = z6_.toInt) (lf_c_X12_echo_6 v r1_ z6_ hv h4_ h7_ ) dX12_habitOf_11 (fun j10_ h11_ z8_ e9_ => ?_)
  have h12_ : 0 ≤ z8_.toInt ∧ z8_.toInt ≤ 7 := pn_ws hIz e9_ (lf_c_X12_habitOf_2 Mz v r1_ z6_ j10_ z8_ hv h4_ h7_ h11_ e9_ )
  refine w_istore_n (ls' := [(2, vI z8_), (0, vR (12, 0, 0)), (1, vI v)]) dX12_habitOf_12 rfl (by decide) rfl ?_
  refine w_aload_n dX12_habitOf_13 rfl 1 rfl ?_
  refine w_getR (c' := (58, 0, 0)) fl_RX12_47 rfl rfl ic_12 dX12_habitOf_14 rfl ?_
  refine w_iconst (v := 0) dX12_habitOf_17 (by decide) ?_
  refine w_aload_n dX12_habitOf_18 rfl 1 rfl ?_
  refine w_iload_n dX12_habitOf_19 rfl 2 rfl ?_
  refine w_iload_n dX12_habitOf_20 rfl 0 rfl ?_
  refine w_callV (as := [vI v, vI z8_]) (rest := [vI 0, vR (58, 0, 0)]) (c_X12_fullAhead l G cy ad d v z8_ Mz hIz hv) kV_X12_fullAhead pnn_17 (Nat.le_of_ble_eq_true rfl) m_1754 rfl rfl rfl ic_12 rfl rfl (by decide) (Nat.le_of_ble_eq_true rfl) dX12_habitOf_21 (fun r13_ M14_ q15_ => ?_)
  obtain ⟨rfl, h16_, hs17_⟩ := q15_
  refine w_iastL 0 DD_nd rfl rfl ic_58 li_0 (by decide) dX12_habitOf_24 (fun M18_ hM19_ => ?_)
  have hI20_ := hIz.put hM19_ ⟨trivial, Or.inr (by decide)⟩
  have hF21_ := hFz.put hM19_ (Or.inl ⟨rfl, rfl, rfl⟩)
  refine w_aload_n dX12_habitOf_25 rfl 1 rfl ?_
  refine w_getR (c' := (58, 0, 0)) fl_RX12_47 rfl rfl ic_12 dX12_habitOf_26 rfl ?_
  refine w_iconst (v := 1) dX12_habitOf_29 (by decide) ?_
  refine w_aload_n dX12_habitOf_30 rfl 1 rfl ?_
  refine w_iload_n dX12_habitOf_31 rfl 2 rfl ?_
  refine w_iload_n dX12_habitOf_32 rfl 0 rfl ?_
  refine w_bipush (v := 6) dX12_habitOf_33 (by decide) ?_
  refine w_iaddB dX12_habitOf_35 (rfl : z8_.toInt = z8_.toInt) li_6 (lf_c_X12_habitOf_3 z8_ h12_ ) (fun z22_ h23_ => ?_)
  refine w_callV (as := [vI v, vI z22_]) (rest := [vI 1, vR (58, 0, 0)]) (c_X12_fullAhead l G cy ad d v z22_ M18_ hI20_ hv) kV_X12_fullAhead pnn_17 (Nat.le_of_ble_eq_true rfl) m_1754 rfl rfl rfl ic_12 rfl rfl (by decide) (Nat.le_of_ble_eq_true rfl) dX12_habitOf_36 (fun r24_ M25_ q26_ => ?_)
  obtain ⟨rfl, h27_, hs28_⟩ := q26_
  refine w_iastL 1 DD_nd rfl rfl ic_58 li_1 (by decide) dX12_habitOf_39 (fun M29_ hM30_ => ?_)
  have hI31_ := hI20_.put hM30_ ⟨trivial, Or.inr (by decide)⟩
  have hF32_ := hF21_.put hM30_ (Or.inr (Or.inl ⟨rfl, rfl, rfl⟩))
  refine w_aload_n dX12_habitOf_40 rfl 1 rfl ?_
  refine w_getR (c' := (58, 0, 0)) fl_RX12_47 rfl rfl ic_12 dX12_habitOf_41 rfl ?_
  refine w_iconst (v := 2) dX12_habitOf_44 (by decide) ?_
  refine w_aload_n dX12_habitOf_45 rfl 1 rfl ?_
  refine w_iload_n dX12_habitOf_46 rfl 2 rfl ?_
  refine w_iload_n dX12_habitOf_47 rfl 0 rfl ?_
  refine w_iconst (v := 2) dX12_habitOf_48 (by decide) ?_
  refine w_iaddB dX12_habitOf_49 (rfl : z8_.toInt = z8_.toInt) li_2 (lf_c_X12_habitOf_4 z8_ h12_ ) (fun z33_ h34_ => ?_)
  refine w_callV (as := [vI v, vI z33_]) (rest := [vI 2, vR (58, 0, 0)]) (c_X12_fullAhead l G cy ad d v z33_ M29_ hI31_ hv) kV_X12_fullAhead pnn_17 (Nat.le_of_ble_eq_true rfl) m_1754 rfl rfl rfl ic_12 rfl rfl (by decide) (Nat.le_of_ble_eq_true rfl) dX12_habitOf_50 (fun r35_ M36_ q37_ => ?_)
  obtain ⟨rfl, h38_, hs39_⟩ := q37_
  refine w_iastL 2 DD_nd rfl rfl ic_58 li_2 (by decide) dX12_habitOf_53 (fun M40_ hM41_ => ?_)
  have hI42_ := hI31_.put hM41_ ⟨trivial, Or.inr (by decide)⟩
  have hF43_ := hF32_.put hM41_ (Or.inr (Or.inr (Or.inl ⟨rfl, rfl, rfl⟩)))
  refine w_aload_n dX12_habitOf_54 rfl 1 rfl ?_
  refine w_getR (c' := (58, 0, 0)) fl_RX12_47 rfl rfl ic_12 dX12_habitOf_55 rfl ?_
  refine w_iconst (v := 3) dX12_habitOf_58 (by decide) ?_
  refine w_aload_n dX12_habitOf_59 rfl 1 rfl ?_
  refine w_getR (c' := (50, 0, 0)) fl_RX12_9 rfl rfl ic_12 dX12_habitOf_60 rfl ?_
  refine w_aload_n dX12_habitOf_63 rfl 1 rfl ?_
  refine w_iload_n dX12_habitOf_64 rfl 2 rfl ?_
  refine w_callV (as := [vI v]) (rest := [vR (50, 0, 0), vI 3, vR (58, 0, 0)]) (c_X12_goer l G cy ad (d + 3) v M40_ hI42_ hv) kV_X12_goer pnn_17 (Nat.le_of_ble_eq_true rfl) m_1451 rfl rfl rfl ic_12 rfl rfl (by decide) (Nat.le_of_ble_eq_true rfl) dX12_habitOf_65 (fun r44_ M45_ q46_ => ?_)
  obtain ⟨rfl, h47_, hs48_⟩ := q46_
  refine w_bipush (v := 7) dX12_habitOf_68 (by decide) ?_
  refine w_iaddB dX12_habitOf_70 (rfl : r44_.toInt = r44_.toInt) li_7 (lf_c_X12_habitOf_5 v r1_ z6_ j10_ r44_ hv h4_ h7_ h11_ h47_ ) (fun z49_ h50_ => ?_)
  refine w_iald rfl rfl ic_50 (rfl : z49_.toInt = z49_.toInt) (lf_c_X12_habitOf_6 v r44_ z49_ hv h47_ h50_ ) dX12_habitOf_71 (fun j53_ h54_ z51_ e52_ => ?_)
  refine w_iastL 3 DD_nd rfl rfl ic_58 li_3 (by decide) dX12_habitOf_72 (fun M55_ hM56_ => ?_)
  have hI57_ := hI42_.put hM56_ ⟨trivial, Or.inr (by decide)⟩
  have hF58_ := hF43_.put hM56_ (Or.inr (Or.inr (Or.inr (Or.inl ⟨rfl, rfl, rfl⟩))))
  refine w_aload_n dX12_habitOf_73 rfl 1 rfl ?_
  refine w_getR (c' := (58, 0, 0)) fl_RX12_47 rfl rfl ic_12 dX12_habitOf_74 rfl ?_
  refine w_iconst (v := 4) dX12_habitOf_77 (by decide) ?_
  refine w_aload_n dX12_habitOf_78 rfl 1 rfl ?_
  refine w_getR (c' := (50, 0, 0)) fl_RX12_9 rfl rfl ic_12 dX12_habitOf_79 rfl ?_
  refine w_iconst (v := 0) dX12_habitOf_82 (by decide) ?_
  refine w_ialdL 0 rfl rfl ic_50 li_0 (by decide) dX12_habitOf_83 (fun z59_ e60_ => ?_)
  refine w_iastL 4 DD_nd rfl rfl ic_58 li_4 (by decide) dX12_habitOf_84 (fun M61_ hM62_ => ?_)
  have hI63_ := hI57_.put hM62_ ⟨trivial, Or.inr (by decide)⟩
  have hF64_ := hF58_.put hM62_ (Or.inr (Or.inr (Or.inr (Or.inr (Or.inl ⟨rfl, rfl, rfl⟩)))))
  refine w_aload_n dX12_habitOf_85 rfl 1 rfl ?_
  refine w_iconst (v := 2) dX12_habitOf_86 (by decide) ?_
  refine w_callV (as := [vI 2]) (rest := []) (c_X12_hasText l G cy ad (d + 3) 2 M61_ hI63_ (by first | decide | (unfold vF; omega) | (unfold vRw; omega))) kV_X12_hasText pnn_17 (Nat.le_of_ble_eq_true rfl) m_1644 rfl rfl rfl ic_12 rfl rfl (by decide) (Nat.le_of_ble_eq_true rfl) dX12_habitOf_87 (fun r65_ M66_ q67_ => ?_)
  obtain ⟨rfl, h68_, hs69_⟩ := q67_
  refine w_if_eq (tgt := 103) dX12_habitOf_90 (by decide) (rfl : r65_.toInt = r65_.toInt) (fun h70_ => ?_) (fun h70_ => ?_)
  · refine w_aload_n dX12_habitOf_103 rfl 1 rfl ?_
    refine w_getR (c' := (58, 0, 0)) fl_RX12_47 rfl rfl ic_12 dX12_habitOf_104 rfl ?_
    refine w_iconst (v := 0) dX12_habitOf_107 (by decide) ?_
    refine w_ialdL 0 rfl rfl ic_58 li_0 (by decide) dX12_habitOf_108 (fun z71_ e72_ => ?_)
    refine w_iconst (v := 1) dX12_habitOf_109 (by decide) ?_
    refine w_icmp_ne (tgt := 117) dX12_habitOf_110 (by decide) (rfl : z71_.toInt = z71_.toInt) li_1 (fun h73_ => ?_) (fun h73_ => ?_)
    · refine w_iconst (v := 0) dX12_habitOf_117 (by decide) ?_
      exact w_iret rfl dX12_habitOf_118 ⟨hI63_, hF64_, trivial, ⟨r1_, hs5_, h4_, z6_, h7_, j10_, h11_, z8_, e9_, h12_, r13_, hs17_, M18_, hM19_, z22_, h23_, hI20_, r24_, hs28_, M29_, hM30_, z33_, h34_, hI31_, r35_, hs39_, M40_, hM41_, hI42_, r44_, hs48_, h47_, z49_, h50_, j53_, h54_, z51_, e52_, M55_, hM56_, z59_, e60_, M61_, hM62_, hI63_, r65_, hs69_, h68_, (Or.inl ⟨h70_, z71_, e72_, (Or.inl ⟨h73_, rfl, rfl⟩)⟩)⟩⟩
    · refine w_iconst (v := 1) dX12_habitOf_113 (by decide) ?_
      refine w_goto (tgt := 118) dX12_habitOf_114 (by decide) ?_
      exact w_iret rfl dX12_habitOf_118 ⟨hI63_, hF64_, trivial, ⟨r1_, hs5_, h4_, z6_, h7_, j10_, h11_, z8_, e9_, h12_, r13_, hs17_, M18_, hM19_, z22_, h23_, hI20_, r24_, hs28_, M29_, hM30_, z33_, h34_, hI31_, r35_, hs39_, M40_, hM41_, hI42_, r44_, hs48_, h47_, z49_, h50_, j53_, h54_, z51_, e52_, M55_, hM56_, z59_, e60_, M61_, hM62_, hI63_, r65_, hs69_, h68_, (Or.inl ⟨h70_, z71_, e72_, (Or.inr ⟨h73_, rfl, rfl⟩)⟩)⟩⟩
  · refine w_aload_n dX12_habitOf_93 rfl 1 rfl ?_
    refine w_iconst (v := 2) dX12_habitOf_94 (by decide) ?_
    refine w_callV (as := [vI 2]) (rest := []) (c_X12_given l G cy ad (d + 2) 2 M61_ hI63_ (by first | decide | (unfold vF; omega) | (unfold vRw; omega))) kV_X12_given pnn_17 (Nat.le_of_ble_eq_true rfl) m_1648 rfl rfl rfl ic_12 rfl rfl (by decide) (Nat.le_of_ble_eq_true rfl) dX12_habitOf_95 (fun r74_ M75_ q76_ => ?_)
    obtain ⟨hI78_, hF79_, h77_, hs81_⟩ := q76_
    have hF80_ := hF64_.tr hF79_ (fun c k => (fun h => h.elim (fun h => (Or.inr (Or.inr (Or.inr (Or.inr (Or.inr (Or.inl ⟨h.1, h.2⟩))))))) (fun h => h.elim)))
    refine w_iconst (v := 3) dX12_habitOf_98 (by decide) ?_
    refine w_iand dX12_habitOf_99 (fun z82_ h84_ => ?_)
    have h83_ : 0 ≤ z82_.toInt ∧ z82_.toInt < ((2 ^ 2 : Nat) : Int) := by rw [h84_]; exact andI _ 2 (by decide) (by decide)
    refine w_goto (tgt := 118) dX12_habitOf_100 (by decide) ?_
    exact w_iret rfl dX12_habitOf_118 ⟨hI78_, hF80_, trivial, ⟨r1_, hs5_, h4_, z6_, h7_, j10_, h11_, z8_, e9_, h12_, r13_, hs17_, M18_, hM19_, z22_, h23_, hI20_, r24_, hs28_, M29_, hM30_, z33_, h34_, hI31_, r35_, hs39_, M40_, hM41_, hI42_, r44_, hs48_, h47_, z49_, h50_, j53_, h54_, z51_, e52_, M55_, hM56_, z59_, e60_, M61_, hM62_, hI63_, r65_, hs69_, h68_, (Or.inr ⟨h70_, M75_, hI78_, hF79_, r74_, hs81_, z82_, h84_, h83_, rfl, rfl⟩)⟩⟩
def S_c_X12_goesOn : rf → Nat → Prop := fun c k => (c.1 = 50 ∧ c.2.1 = 0) ∨ False
def ST_X12_goesOn_22 (Mz : mM) (r1_ : Int32) (v3_22 : Int32) (M_22 : mM) (v3_22y : Int32) (M_22y : mM) : Prop := (v3_22.toInt ≤ 2) ∧ (InvD M_22) ∧ (FR (S_c_X12_goesOn) Mz M_22) ∧ (0 < v3_22.toInt) ∧ ∃ z14_ : Int32, (z14_.toInt = r1_.toInt + 1) ∧ ∃ j18_ : Nat, ((j18_ : Int) = z14_.toInt) ∧ ∃ z16_ : Int32, (z16_ = M_22.1 (50, 0, 0) j18_) ∧ (0 ≤ z16_.toInt ∧ z16_.toInt ≤ 191) ∧ ∃ z21_ : Int32, (z21_.toInt = r1_.toInt + 2) ∧ ∃ j25_ : Nat, ((j25_ : Int) = z21_.toInt) ∧ ∃ z23_ : Int32, (z23_ = M_22.1 (50, 0, 0) j25_) ∧ (0 ≤ z23_.toInt ∧ z23_.toInt ≤ 7) ∧ ∃ r28_ : Int32, (SP_X12_on z16_ z23_ 1 M_22 r28_) ∧ (onP z16_ z23_ 1 r28_ ∧ -1 ≤ r28_.toInt ∧ r28_.toInt ≤ 191) ∧ (0 ≤ r28_.toInt) ∧ ∃ r49_ : Int32, (SP_X12_isFree r28_ M_22 r49_) ∧ ((0 ≤ r49_.toInt ∧ r49_.toInt ≤ 1)) ∧ (¬ r49_.toInt = 0) ∧ ∃ z55_ : Int32, (z55_.toInt = r1_.toInt + 1) ∧ ∃ j59_ : Nat, ((j59_ : Int) = z55_.toInt) ∧ ∃ M57_ : mM, (M57_ = up M_22 (50, 0, 0) j59_ r28_) ∧ ∃ z63_ : Int32, (z63_.toInt = v3_22.toInt + (-1)) ∧ v3_22y = z63_ ∧ M_22y = M57_
def ST_X12_goesOn_22b (Mz : mM) (r1_ : Int32) (v3_22 : Int32) (M_22 : mM) (v3_22y : Int32) (M_22y : mM) : Prop := (v3_22.toInt ≤ 2) ∧ (InvD M_22) ∧ (FR (S_c_X12_goesOn) Mz M_22) ∧ (0 < v3_22.toInt) ∧ ∃ z94_ : Int32, (z94_.toInt = r1_.toInt + 1) ∧ ∃ j98_ : Nat, ((j98_ : Int) = z94_.toInt) ∧ ∃ z96_ : Int32, (z96_ = M_22.1 (50, 0, 0) j98_) ∧ (0 ≤ z96_.toInt ∧ z96_.toInt ≤ 191) ∧ ∃ z101_ : Int32, (z101_.toInt = r1_.toInt + 2) ∧ ∃ j105_ : Nat, ((j105_ : Int) = z101_.toInt) ∧ ∃ z103_ : Int32, (z103_ = M_22.1 (50, 0, 0) j105_) ∧ (0 ≤ z103_.toInt ∧ z103_.toInt ≤ 7) ∧ ∃ r108_ : Int32, (SP_X12_on z96_ z103_ 1 M_22 r108_) ∧ (onP z96_ z103_ 1 r108_ ∧ -1 ≤ r108_.toInt ∧ r108_.toInt ≤ 191) ∧ (0 ≤ r108_.toInt) ∧ ∃ r129_ : Int32, (SP_X12_isFree r108_ M_22 r129_) ∧ ((0 ≤ r129_.toInt ∧ r129_.toInt ≤ 1)) ∧ (¬ r129_.toInt = 0) ∧ ∃ z135_ : Int32, (z135_.toInt = r1_.toInt + 1) ∧ ∃ j139_ : Nat, ((j139_ : Int) = z135_.toInt) ∧ ∃ M137_ : mM, (M137_ = up M_22 (50, 0, 0) j139_ r108_) ∧ ∃ z143_ : Int32, (z143_.toInt = v3_22.toInt + (-1)) ∧ v3_22y = z143_ ∧ M_22y = M137_
def SP_X12_goesOn (v : Int32) (Mz : mM) (M_ : mM) : Prop := ∃ r1_ : Int32, (SP_X12_goer v Mz r1_) ∧ (r1_.toInt = 180 + 9 * v.toInt) ∧ ∃ r6_ : Int32, (SP_X12_kindOf v Mz r6_) ∧ (0 ≤ r6_.toInt ∧ r6_.toInt ≤ 7) ∧ (((¬ r6_.toInt = 7) ∧ ∃ v3_22 : Int32, (v3_22.toInt ≤ 2) ∧ ∃ M_22 : mM, (RCH (fun x_ y_ => ST_X12_goesOn_22 Mz r1_ x_.1 x_.2 y_.1 y_.2) ((1 : Int32), Mz) (v3_22, M_22)) ∧ (InvD M_22) ∧ (FR (S_c_X12_goesOn) Mz M_22) ∧ (((v3_22.toInt ≤ 0) ∧ M_ = M_22) ∨ ((0 < v3_22.toInt) ∧ ∃ z14_ : Int32, (z14_.toInt = r1_.toInt + 1) ∧ ∃ j18_ : Nat, ((j18_ : Int) = z14_.toInt) ∧ ∃ z16_ : Int32, (z16_ = M_22.1 (50, 0, 0) j18_) ∧ (0 ≤ z16_.toInt ∧ z16_.toInt ≤ 191) ∧ ∃ z21_ : Int32, (z21_.toInt = r1_.toInt + 2) ∧ ∃ j25_ : Nat, ((j25_ : Int) = z21_.toInt) ∧ ∃ z23_ : Int32, (z23_ = M_22.1 (50, 0, 0) j25_) ∧ (0 ≤ z23_.toInt ∧ z23_.toInt ≤ 7) ∧ ∃ r28_ : Int32, (SP_X12_on z16_ z23_ 1 M_22 r28_) ∧ (onP z16_ z23_ 1 r28_ ∧ -1 ≤ r28_.toInt ∧ r28_.toInt ≤ 191) ∧ (((r28_.toInt < 0) ∧ ∃ z34_ : Int32, (z34_.toInt = r1_.toInt + 7) ∧ ∃ j38_ : Nat, ((j38_ : Int) = z34_.toInt) ∧ ∃ z36_ : Int32, (z36_ = M_22.1 (50, 0, 0) j38_) ∧ ∃ z40_ : Int32, (z40_ = z36_ + (1 : Int32)) ∧ ∃ j44_ : Nat, ((j44_ : Int) = z34_.toInt) ∧ ∃ M42_ : mM, (M42_ = up M_22 (50, 0, 0) j44_ z40_) ∧ (r28_.toInt < 0) ∧ M_ = M42_) ∨ ((0 ≤ r28_.toInt) ∧ ∃ r49_ : Int32, (SP_X12_isFree r28_ M_22 r49_) ∧ ((0 ≤ r49_.toInt ∧ r49_.toInt ≤ 1)) ∧ (r49_.toInt = 0) ∧ ∃ z65_ : Int32, (z65_.toInt = r1_.toInt + 7) ∧ ∃ j69_ : Nat, ((j69_ : Int) = z65_.toInt) ∧ ∃ z67_ : Int32, (z67_ = M_22.1 (50, 0, 0) j69_) ∧ ∃ z71_ : Int32, (z71_ = z67_ + (1 : Int32)) ∧ ∃ j75_ : Nat, ((j75_ : Int) = z65_.toInt) ∧ ∃ M73_ : mM, (M73_ = up M_22 (50, 0, 0) j75_ z71_) ∧ (0 ≤ r28_.toInt) ∧ (InvD M73_) ∧ ∃ r80_ : Int32, (SP_X12_yes v r28_ M73_ r80_) ∧ (r80_.toInt = 495 + 384 * v.toInt + r28_.toInt) ∧ ∃ M85_ : mM, (InvD M85_) ∧ (FR (S_c_X12_more) M73_ M85_) ∧ (SP_X12_more r80_ 3 M73_ M85_) ∧ M_ = M85_))))) ∨ ((r6_.toInt = 7) ∧ ∃ v3_22 : Int32, (v3_22.toInt ≤ 2) ∧ ∃ M_22 : mM, (RCH (fun x_ y_ => ST_X12_goesOn_22b Mz r1_ x_.1 x_.2 y_.1 y_.2) ((2 : Int32), Mz) (v3_22, M_22)) ∧ (InvD M_22) ∧ (FR (S_c_X12_goesOn) Mz M_22) ∧ (((v3_22.toInt ≤ 0) ∧ M_ = M_22) ∨ ((0 < v3_22.toInt) ∧ ∃ z94_ : Int32, (z94_.toInt = r1_.toInt + 1) ∧ ∃ j98_ : Nat, ((j98_ : Int) = z94_.toInt) ∧ ∃ z96_ : Int32, (z96_ = M_22.1 (50, 0, 0) j98_) ∧ (0 ≤ z96_.toInt ∧ z96_.toInt ≤ 191) ∧ ∃ z101_ : Int32, (z101_.toInt = r1_.toInt + 2) ∧ ∃ j105_ : Nat, ((j105_ : Int) = z101_.toInt) ∧ ∃ z103_ : Int32, (z103_ = M_22.1 (50, 0, 0) j105_) ∧ (0 ≤ z103_.toInt ∧ z103_.toInt ≤ 7) ∧ ∃ r108_ : Int32, (SP_X12_on z96_ z103_ 1 M_22 r108_) ∧ (onP z96_ z103_ 1 r108_ ∧ -1 ≤ r108_.toInt ∧ r108_.toInt ≤ 191) ∧ (((r108_.toInt < 0) ∧ ∃ z114_ : Int32, (z114_.toInt = r1_.toInt + 7) ∧ ∃ j118_ : Nat, ((j118_ : Int) = z114_.toInt) ∧ ∃ z116_ : Int32, (z116_ = M_22.1 (50, 0, 0) j118_) ∧ ∃ z120_ : Int32, (z120_ = z116_ + (1 : Int32)) ∧ ∃ j124_ : Nat, ((j124_ : Int) = z114_.toInt) ∧ ∃ M122_ : mM, (M122_ = up M_22 (50, 0, 0) j124_ z120_) ∧ (r108_.toInt < 0) ∧ M_ = M122_) ∨ ((0 ≤ r108_.toInt) ∧ ∃ r129_ : Int32, (SP_X12_isFree r108_ M_22 r129_) ∧ ((0 ≤ r129_.toInt ∧ r129_.toInt ≤ 1)) ∧ (r129_.toInt = 0) ∧ ∃ z145_ : Int32, (z145_.toInt = r1_.toInt + 7) ∧ ∃ j149_ : Nat, ((j149_ : Int) = z145_.toInt) ∧ ∃ z147_ : Int32, (z147_ = M_22.1 (50, 0, 0) j149_) ∧ ∃ z151_ : Int32, (z151_ = z147_ + (1 : Int32)) ∧ ∃ j155_ : Nat, ((j155_ : Int) = z145_.toInt) ∧ ∃ M153_ : mM, (M153_ = up M_22 (50, 0, 0) j155_ z151_) ∧ (0 ≤ r108_.toInt) ∧ (InvD M153_) ∧ ∃ r160_ : Int32, (SP_X12_yes v r108_ M153_ r160_) ∧ (r160_.toInt = 495 + 384 * v.toInt + r108_.toInt) ∧ ∃ M165_ : mM, (InvD M165_) ∧ (FR (S_c_X12_more) M153_ M165_) ∧ (SP_X12_more r160_ 3 M153_ M165_) ∧ M_ = M165_))))))
theorem lf_c_X12_goesOn_3 (v : Int32) (r1_ : Int32) (z14_ : Int32) (j18_ : Nat) (hv : 0 ≤ v.toInt ∧ v.toInt ≤ 7) (h4_ : r1_.toInt = 180 + 9 * v.toInt) (h15_ : z14_.toInt = r1_.toInt + 1) (h19_ : (j18_ : Int) = z14_.toInt) : -2147483648 ≤ r1_.toInt + 2 ∧ r1_.toInt + 2 < 2147483648 := by omega
theorem lf_c_X12_goesOn_5 (M_22 : mM) (v : Int32) (r1_ : Int32) (z14_ : Int32) (j18_ : Nat) (z16_ : Int32) (z21_ : Int32) (j25_ : Nat) (z23_ : Int32) (hv : 0 ≤ v.toInt ∧ v.toInt ≤ 7) (h4_ : r1_.toInt = 180 + 9 * v.toInt) (h15_ : z14_.toInt = r1_.toInt + 1) (h19_ : (j18_ : Int) = z14_.toInt) (e17_ : z16_ = M_22.1 (50, 0, 0) j18_) (h20_ : 0 ≤ z16_.toInt ∧ z16_.toInt ≤ 191) (h22_ : z21_.toInt = r1_.toInt + 2) (h26_ : (j25_ : Int) = z21_.toInt) (e24_ : z23_ = M_22.1 (50, 0, 0) j25_) : 180 ≤ j25_ ∧ j25_ < 252 ∧ j25_ % 9 = 2 := by have r_v := rngI v; have r_r1_ := rngI r1_; have r_z14_ := rngI z14_; have r_z16_ := rngI z16_; have r_z21_ := rngI z21_; have r_z23_ := rngI z23_; subst e17_; subst e24_; omega
theorem lf_c_X12_goesOn_6 (v : Int32) (r1_ : Int32) (z14_ : Int32) (j18_ : Nat) (hv : 0 ≤ v.toInt ∧ v.toInt ≤ 7) (h4_ : r1_.toInt = 180 + 9 * v.toInt) (h15_ : z14_.toInt = r1_.toInt + 1) (h19_ : (j18_ : Int) = z14_.toInt) : -2147483648 ≤ r1_.toInt + 7 ∧ r1_.toInt + 7 < 2147483648 := by omega
theorem lf_c_X12_goesOn_9 (M42_ : mM) (M_22 : mM) (v : Int32) (r1_ : Int32) (z14_ : Int32) (j18_ : Nat) (z16_ : Int32) (z21_ : Int32) (j25_ : Nat) (z23_ : Int32) (r28_ : Int32) (z34_ : Int32) (j38_ : Nat) (z36_ : Int32) (z40_ : Int32) (j44_ : Nat) (hv : 0 ≤ v.toInt ∧ v.toInt ≤ 7) (h4_ : r1_.toInt = 180 + 9 * v.toInt) (h15_ : z14_.toInt = r1_.toInt + 1) (h19_ : (j18_ : Int) = z14_.toInt) (e17_ : z16_ = M_22.1 (50, 0, 0) j18_) (h20_ : 0 ≤ z16_.toInt ∧ z16_.toInt ≤ 191) (h22_ : z21_.toInt = r1_.toInt + 2) (h26_ : (j25_ : Int) = z21_.toInt) (e24_ : z23_ = M_22.1 (50, 0, 0) j25_) (h27_ : 0 ≤ z23_.toInt ∧ z23_.toInt ≤ 7) (h31_ : onP z16_ z23_ 1 r28_ ∧ -1 ≤ r28_.toInt ∧ r28_.toInt ≤ 191) (h33_ : r28_.toInt < 0) (h35_ : z34_.toInt = r1_.toInt + 7) (h39_ : (j38_ : Int) = z34_.toInt) (e37_ : z36_ = M_22.1 (50, 0, 0) j38_) (h45_ : (j44_ : Int) = z34_.toInt) (hM43_ : M42_ = up M_22 (50, 0, 0) j44_ z40_) : PN j44_ z40_ ∧ (j44_ < 345 ∨ 493 < j44_) := by have r_v := rngI v; have r_r1_ := rngI r1_; have r_z14_ := rngI z14_; have r_z16_ := rngI z16_; have r_z21_ := rngI z21_; have r_z23_ := rngI z23_; have r_r28_ := rngI r28_; have r_z34_ := rngI z34_; have r_z36_ := rngI z36_; have r_z40_ := rngI z40_; subst e17_; subst e24_; subst e37_; unfold PN; omega
theorem lf_c_X12_goesOn_11 (v : Int32) (r1_ : Int32) (z14_ : Int32) (j18_ : Nat) (hv : 0 ≤ v.toInt ∧ v.toInt ≤ 7) (h4_ : r1_.toInt = 180 + 9 * v.toInt) (h15_ : z14_.toInt = r1_.toInt + 1) (h19_ : (j18_ : Int) = z14_.toInt) : -2147483648 ≤ r1_.toInt + 1 ∧ r1_.toInt + 1 < 2147483648 := by omega
theorem lf_c_X12_goesOn_13 (M57_ : mM) (M_22 : mM) (v : Int32) (r1_ : Int32) (z14_ : Int32) (j18_ : Nat) (z16_ : Int32) (z21_ : Int32) (j25_ : Nat) (z23_ : Int32) (r28_ : Int32) (z55_ : Int32) (j59_ : Nat) (hv : 0 ≤ v.toInt ∧ v.toInt ≤ 7) (h4_ : r1_.toInt = 180 + 9 * v.toInt) (h15_ : z14_.toInt = r1_.toInt + 1) (h19_ : (j18_ : Int) = z14_.toInt) (e17_ : z16_ = M_22.1 (50, 0, 0) j18_) (h20_ : 0 ≤ z16_.toInt ∧ z16_.toInt ≤ 191) (h22_ : z21_.toInt = r1_.toInt + 2) (h26_ : (j25_ : Int) = z21_.toInt) (e24_ : z23_ = M_22.1 (50, 0, 0) j25_) (h27_ : 0 ≤ z23_.toInt ∧ z23_.toInt ≤ 7) (h31_ : onP z16_ z23_ 1 r28_ ∧ -1 ≤ r28_.toInt ∧ r28_.toInt ≤ 191) (h33_ : 0 ≤ r28_.toInt) (h56_ : z55_.toInt = r1_.toInt + 1) (h60_ : (j59_ : Int) = z55_.toInt) (hM58_ : M57_ = up M_22 (50, 0, 0) j59_ r28_) : PN j59_ r28_ ∧ (j59_ < 345 ∨ 493 < j59_) := by have r_v := rngI v; have r_r1_ := rngI r1_; have r_z14_ := rngI z14_; have r_z16_ := rngI z16_; have r_z21_ := rngI z21_; have r_z23_ := rngI z23_; have r_r28_ := rngI r28_; have r_z55_ := rngI z55_; subst e17_; subst e24_; unfold PN; omega
theorem lf_c_X12_goesOn_14 (v3_22 : Int32) (hv0_22 : v3_22.toInt ≤ 2) (h13_ : 0 < v3_22.toInt) : -2147483648 ≤ v3_22.toInt + (-1) ∧ v3_22.toInt + (-1) < 2147483648 := by omega
theorem lf_c_X12_goesOn_15 (v3_22 : Int32) (z63_ : Int32) (hv0_22 : v3_22.toInt ≤ 2) (h64_ : z63_.toInt = v3_22.toInt + (-1)) : z63_.toInt ≤ 2 := by omega
theorem lf_c_X12_goesOn_20 (M73_ : mM) (M_22 : mM) (v : Int32) (r1_ : Int32) (z14_ : Int32) (j18_ : Nat) (z16_ : Int32) (z21_ : Int32) (j25_ : Nat) (z23_ : Int32) (r28_ : Int32) (z65_ : Int32) (j69_ : Nat) (z67_ : Int32) (z71_ : Int32) (j75_ : Nat) (hv : 0 ≤ v.toInt ∧ v.toInt ≤ 7) (h4_ : r1_.toInt = 180 + 9 * v.toInt) (h15_ : z14_.toInt = r1_.toInt + 1) (h19_ : (j18_ : Int) = z14_.toInt) (e17_ : z16_ = M_22.1 (50, 0, 0) j18_) (h20_ : 0 ≤ z16_.toInt ∧ z16_.toInt ≤ 191) (h22_ : z21_.toInt = r1_.toInt + 2) (h26_ : (j25_ : Int) = z21_.toInt) (e24_ : z23_ = M_22.1 (50, 0, 0) j25_) (h27_ : 0 ≤ z23_.toInt ∧ z23_.toInt ≤ 7) (h31_ : onP z16_ z23_ 1 r28_ ∧ -1 ≤ r28_.toInt ∧ r28_.toInt ≤ 191) (h33_ : 0 ≤ r28_.toInt) (h66_ : z65_.toInt = r1_.toInt + 7) (h70_ : (j69_ : Int) = z65_.toInt) (e68_ : z67_ = M_22.1 (50, 0, 0) j69_) (h76_ : (j75_ : Int) = z65_.toInt) (hM74_ : M73_ = up M_22 (50, 0, 0) j75_ z71_) : PN j75_ z71_ ∧ (j75_ < 345 ∨ 493 < j75_) := by have r_v := rngI v; have r_r1_ := rngI r1_; have r_z14_ := rngI z14_; have r_z16_ := rngI z16_; have r_z21_ := rngI z21_; have r_z23_ := rngI z23_; have r_r28_ := rngI r28_; have r_z65_ := rngI z65_; have r_z67_ := rngI z67_; have r_z71_ := rngI z71_; subst e17_; subst e24_; subst e68_; unfold PN; omega
theorem lf_c_X12_goesOn_22 (z16_ : Int32) (z23_ : Int32) (r28_ : Int32) (h31_ : onP z16_ z23_ 1 r28_ ∧ -1 ≤ r28_.toInt ∧ r28_.toInt ≤ 191) (h33_ : 0 ≤ r28_.toInt) : -1 ≤ r28_.toInt ∧ r28_.toInt ≤ 191 := by omega
theorem lf_c_X12_goesOn_23 (v : Int32) (z16_ : Int32) (z23_ : Int32) (r28_ : Int32) (r80_ : Int32) (hv : 0 ≤ v.toInt ∧ v.toInt ≤ 7) (h31_ : onP z16_ z23_ 1 r28_ ∧ -1 ≤ r28_.toInt ∧ r28_.toInt ≤ 191) (h33_ : 0 ≤ r28_.toInt) (h83_ : r80_.toInt = 495 + 384 * v.toInt + r28_.toInt) : 494 ≤ r80_.toInt ∧ r80_.toInt ≤ 3566 := by omega
theorem lf_c_X12_goesOn_24 : (1 : Int32).toInt ≤ 2 := by have q0 := li_1; omega
theorem lf_c_X12_goesOn_49 : (2 : Int32).toInt ≤ 2 := by have q0 := li_2; omega
set_option maxHeartbeats 4000000 in
set_option maxRecDepth 100000 in
theorem c_X12_goesOn (l : Launch) (G : va_G) (cy : Nat → ClassId) (ad : rf → Nat) (d : Nat) (v : Int32) (Mz : mM) (hIz : InvD Mz) (hv : 0 ≤ v.toInt ∧ v.toInt ≤ 7) : WP DD l G cy ad yX12_goesOn cX12_goesOn 5 none (d + 3) 0 [(0, vR (12, 0, 0)), (1, vI v)] [] Mz (fun r M' => InvD M' ∧ FR (S_c_X12_goesOn) Mz M' ∧ (True) ∧ SP_X12_goesOn v Mz M') := by
  have hFz : FR (S_c_X12_goesOn) Mz Mz := FR.self
  refine w_aload_n dX12_goesOn_0 rfl 0 rfl ?_
  refine w_iload_n dX12_goesOn_1 rfl 1 rfl ?_
  refine w_callV (as := [vI v]) (rest := []) (c_X12_goer l G cy ad (d + 2) v Mz hIz hv) kV_X12_goer pnn_17 (Nat.le_of_ble_eq_true rfl) m_1451 rfl rfl rfl ic_12 rfl rfl (by decide) (Nat.le_of_ble_eq_true rfl) dX12_goesOn_2 (fun r1_ M2_ q3_ => ?_)
  obtain ⟨rfl, h4_, hs5_⟩ := q3_
  refine w_istore_n (ls' := [(2, vI r1_), (0, vR (12, 0, 0)), (1, vI v)]) dX12_goesOn_5 rfl (by decide) rfl ?_
  refine w_aload_n dX12_goesOn_6 rfl 1 rfl ?_
  refine w_iload_n dX12_goesOn_7 rfl 2 rfl ?_
  refine w_callV (as := [vI v]) (rest := []) (c_X12_kindOf l G cy ad (d + 1) v Mz hIz hv) kV_X12_kindOf pnn_17 (Nat.le_of_ble_eq_true rfl) m_1517 rfl rfl rfl ic_12 rfl rfl (by decide) (Nat.le_of_ble_eq_true rfl) dX12_goesOn_8 (fun r6_ M7_ q8_ => ?_)
  obtain ⟨rfl, h9_, hs10_⟩ := q8_
  refine w_bipush (v := 7) dX12_goesOn_11 (by decide) ?_
  refine w_icmp_ne (tgt := 20) dX12_goesOn_13 (by decide) (rfl : r6_.toInt = r6_.toInt) li_7 (fun h11_ => ?_) (fun h11_ => ?_)
  · refine w_iconst (v := 1) dX12_goesOn_20 (by decide) ?_
    refine w_istore_n (ls' := [(3, vI 1), (2, vI r1_), (0, vR (12, 0, 0)), (1, vI v)]) dX12_goesOn_21 rfl (by decide) rfl ?_
    have lp12_ : ∀ (nn_22 : Nat) (M_22 : mM) (hI_22 : InvD M_22) (hF_22 : FR (S_c_X12_goesOn) Mz M_22) (v3_22 : Int32) (hv0_22 : v3_22.toInt ≤ 2) (hL_22 : RCH (fun x_ y_ => ST_X12_goesOn_22 Mz r1_ x_.1 x_.2 y_.1 y_.2) ((1 : Int32), Mz) (v3_22, M_22)), (v3_22.toInt).toNat < nn_22 → WP DD l G cy ad yX12_goesOn cX12_goesOn 5 none (d + 3) 22 [(3, vI v3_22), (2, vI r1_), (0, vR (12, 0, 0)), (1, vI v)] [] M_22 (fun r M' => InvD M' ∧ FR (S_c_X12_goesOn) Mz M' ∧ (True) ∧ SP_X12_goesOn v Mz M') := by
      intro nn_22
      induction nn_22 with
      | zero => intro M_22 hI_22 hF_22 v3_22 hv0_22 hL_22 hm_22; exact absurd hm_22 (Nat.not_lt_zero _)
      | succ nn_22 ih_22 =>
        intro M_22 hI_22 hF_22 v3_22 hv0_22 hL_22 hm_22
        refine w_iload_n dX12_goesOn_22 rfl 0 rfl ?_
        refine w_if_le (tgt := 110) dX12_goesOn_23 (by decide) (rfl : v3_22.toInt = v3_22.toInt) (fun h13_ => ?_) (fun h13_ => ?_)
        · exact w_vret rfl dX12_goesOn_110 ⟨hI_22, hF_22, trivial, ⟨r1_, hs5_, h4_, r6_, hs10_, h9_, (Or.inl ⟨h11_, v3_22, hv0_22, M_22, hL_22, hI_22, hF_22, (Or.inl ⟨h13_, rfl⟩)⟩)⟩⟩
        · refine w_aload_n dX12_goesOn_26 rfl 2 rfl ?_
          refine w_aload_n dX12_goesOn_27 rfl 2 rfl ?_
          refine w_getR (c' := (50, 0, 0)) fl_RX12_9 rfl rfl ic_12 dX12_goesOn_28 rfl ?_
          refine w_iload_n dX12_goesOn_31 rfl 1 rfl ?_
          refine w_iconst (v := 1) dX12_goesOn_32 (by decide) ?_
          refine w_iaddB dX12_goesOn_33 (rfl : r1_.toInt = r1_.toInt) li_1 (lf_c_X12_echo_0 v r1_ hv h4_ ) (fun z14_ h15_ => ?_)
          refine w_iald rfl rfl ic_50 (rfl : z14_.toInt = z14_.toInt) (lf_c_X12_echo_1 v r1_ z14_ hv h4_ h15_ ) dX12_goesOn_34 (fun j18_ h19_ z16_ e17_ => ?_)
          have h20_ : 0 ≤ z16_.toInt ∧ z16_.toInt ≤ 191 := pn_wc hI_22 e17_ (lf_c_X12_echo_2 M_22 v r1_ z14_ j18_ z16_ hv h4_ h15_ h19_ e17_ )
          refine w_aload_n dX12_goesOn_35 rfl 2 rfl ?_
          refine w_getR (c' := (50, 0, 0)) fl_RX12_9 rfl rfl ic_12 dX12_goesOn_36 rfl ?_
          refine w_iload_n dX12_goesOn_39 rfl 1 rfl ?_
          refine w_iconst (v := 2) dX12_goesOn_40 (by decide) ?_
          refine w_iaddB dX12_goesOn_41 (rfl : r1_.toInt = r1_.toInt) li_2 (lf_c_X12_goesOn_3 v r1_ z14_ j18_ hv h4_ h15_ h19_ ) (fun z21_ h22_ => ?_)
          refine w_iald rfl rfl ic_50 (rfl : z21_.toInt = z21_.toInt) (lf_c_X12_echo_6 v r1_ z21_ hv h4_ h22_ ) dX12_goesOn_42 (fun j25_ h26_ z23_ e24_ => ?_)
          have h27_ : 0 ≤ z23_.toInt ∧ z23_.toInt ≤ 7 := pn_ws hI_22 e24_ (lf_c_X12_goesOn_5 M_22 v r1_ z14_ j18_ z16_ z21_ j25_ z23_ hv h4_ h15_ h19_ e17_ h20_ h22_ h26_ e24_ )
          refine w_iconst (v := 1) dX12_goesOn_43 (by decide) ?_
          refine w_callV (as := [vI z16_, vI z23_, vI 1]) (rest := []) (c_X12_on l G cy ad (d + 1) z16_ z23_ 1 M_22 hI_22 h27_) kV_X12_on pnn_17 (Nat.le_of_ble_eq_true rfl) m_1632 rfl rfl rfl ic_12 rfl rfl (by decide) (Nat.le_of_ble_eq_true rfl) dX12_goesOn_44 (fun r28_ M29_ q30_ => ?_)
          obtain ⟨rfl, h31_, hs32_⟩ := q30_
          refine w_istore (ls' := [(4, vI r28_), (3, vI v3_22), (2, vI r1_), (0, vR (12, 0, 0)), (1, vI v)]) dX12_goesOn_47 (by decide) rfl ?_
          refine w_iload dX12_goesOn_49 0 rfl ?_
          refine w_if_lt (tgt := 63) dX12_goesOn_51 (by decide) (rfl : r28_.toInt = r28_.toInt) (fun h33_ => ?_) (fun h33_ => ?_)
          · refine w_aload_n dX12_goesOn_63 rfl 3 rfl ?_
            refine w_getR (c' := (50, 0, 0)) fl_RX12_9 rfl rfl ic_12 dX12_goesOn_64 rfl ?_
            refine w_iload_n dX12_goesOn_67 rfl 2 rfl ?_
            refine w_bipush (v := 7) dX12_goesOn_68 (by decide) ?_
            refine w_iaddB dX12_goesOn_70 (rfl : r1_.toInt = r1_.toInt) li_7 (lf_c_X12_goesOn_6 v r1_ z14_ j18_ hv h4_ h15_ h19_ ) (fun z34_ h35_ => ?_)
            refine w_dup2 dX12_goesOn_71 rfl rfl ?_
            refine w_iald rfl rfl ic_50 (rfl : z34_.toInt = z34_.toInt) (lf_c_X12_habitOf_6 v r1_ z34_ hv h4_ h35_ ) dX12_goesOn_72 (fun j38_ h39_ z36_ e37_ => ?_)
            refine w_iconst (v := 1) dX12_goesOn_73 (by decide) ?_
            refine w_iadd dX12_goesOn_74 (fun z40_ h41_ => ?_)
            refine w_iast DD_nd rfl rfl ic_50 (rfl : z34_.toInt = z34_.toInt) (lf_c_X12_habitOf_6 v r1_ z34_ hv h4_ h35_ ) dX12_goesOn_75 (fun j44_ h45_ M42_ hM43_ => ?_)
            have hI46_ := hI_22.put50 hM43_ (lf_c_X12_goesOn_9 M42_ M_22 v r1_ z14_ j18_ z16_ z21_ j25_ z23_ r28_ z34_ j38_ z36_ z40_ j44_ hv h4_ h15_ h19_ e17_ h20_ h22_ h26_ e24_ h27_ h31_ h33_ h35_ h39_ e37_ h45_ hM43_ )
            have hF47_ := hF_22.put hM43_ (Or.inl ⟨rfl, rfl⟩)
            refine w_iload dX12_goesOn_76 0 rfl ?_
            refine w_if_lt (tgt := 93) dX12_goesOn_78 (by decide) (rfl : r28_.toInt = r28_.toInt) (fun h48_ => ?_) (fun h9 => (lf_c_X12_isUnder_0 r28_ h33_ h9 ).elim)
            exact w_vret rfl dX12_goesOn_93 ⟨hI46_, hF47_, trivial, ⟨r1_, hs5_, h4_, r6_, hs10_, h9_, (Or.inl ⟨h11_, v3_22, hv0_22, M_22, hL_22, hI_22, hF_22, (Or.inr ⟨h13_, z14_, h15_, j18_, h19_, z16_, e17_, h20_, z21_, h22_, j25_, h26_, z23_, e24_, h27_, r28_, hs32_, h31_, (Or.inl ⟨h33_, z34_, h35_, j38_, h39_, z36_, e37_, z40_, h41_, j44_, h45_, M42_, hM43_, h48_, rfl⟩)⟩)⟩)⟩⟩
          · refine w_aload_n dX12_goesOn_54 rfl 3 rfl ?_
            refine w_iload dX12_goesOn_55 0 rfl ?_
            refine w_callV (as := [vI r28_]) (rest := []) (c_X12_isFree l G cy ad d r28_ M_22 hI_22) kV_X12_isFree pnn_17 (Nat.le_of_ble_eq_true rfl) m_1439 rfl rfl rfl ic_12 rfl rfl (by decide) (Nat.le_of_ble_eq_true rfl) dX12_goesOn_57 (fun r49_ M50_ q51_ => ?_)
            obtain ⟨rfl, h52_, hs53_⟩ := q51_
            refine w_if_ne (tgt := 94) dX12_goesOn_60 (by decide) (rfl : r49_.toInt = r49_.toInt) (fun h54_ => ?_) (fun h54_ => ?_)
            · refine w_aload_n dX12_goesOn_94 rfl 3 rfl ?_
              refine w_getR (c' := (50, 0, 0)) fl_RX12_9 rfl rfl ic_12 dX12_goesOn_95 rfl ?_
              refine w_iload_n dX12_goesOn_98 rfl 2 rfl ?_
              refine w_iconst (v := 1) dX12_goesOn_99 (by decide) ?_
              refine w_iaddB dX12_goesOn_100 (rfl : r1_.toInt = r1_.toInt) li_1 (lf_c_X12_goesOn_11 v r1_ z14_ j18_ hv h4_ h15_ h19_ ) (fun z55_ h56_ => ?_)
              refine w_iload dX12_goesOn_101 0 rfl ?_
              refine w_iast DD_nd rfl rfl ic_50 (rfl : z55_.toInt = z55_.toInt) (lf_c_X12_echo_1 v r1_ z55_ hv h4_ h56_ ) dX12_goesOn_103 (fun j59_ h60_ M57_ hM58_ => ?_)
              have hI61_ := hI_22.put50 hM58_ (lf_c_X12_goesOn_13 M57_ M_22 v r1_ z14_ j18_ z16_ z21_ j25_ z23_ r28_ z55_ j59_ hv h4_ h15_ h19_ e17_ h20_ h22_ h26_ e24_ h27_ h31_ h33_ h56_ h60_ hM58_ )
              have hF62_ := hF_22.put hM58_ (Or.inl ⟨rfl, rfl⟩)
              refine w_iincB (j := 1) (f := fun z63_ => [(3, vI z63_), (4, vI r28_), (2, vI r1_), (0, vR (12, 0, 0)), (1, vI v)]) dX12_goesOn_104 rfl (by decide) (fun _ => rfl) (rfl : v3_22.toInt = v3_22.toInt) li_m1 (lf_c_X12_goesOn_14 v3_22 hv0_22 h13_ ) (fun z63_ h64_ => ?_)
              refine w_goto (tgt := 22) dX12_goesOn_107 (by decide) ?_
              refine w_loc (ls' := [(3, vI z63_), (2, vI r1_), (0, vR (12, 0, 0)), (1, vI v)]) [0, 2, 3, 4] rfl ?_
              exact ih_22 M57_ hI61_ hF62_ z63_ (lf_c_X12_goesOn_15 v3_22 z63_ hv0_22 h64_ ) (RCH.tail hL_22 ⟨hv0_22, hI_22, hF_22, h13_, z14_, h15_, j18_, h19_, z16_, e17_, h20_, z21_, h22_, j25_, h26_, z23_, e24_, h27_, r28_, hs32_, h31_, h33_, r49_, hs53_, h52_, h54_, z55_, h56_, j59_, h60_, M57_, hM58_, z63_, h64_, rfl, rfl⟩) (Nat.lt_of_lt_of_le (lf_c_X12_farthest_5 v3_22 z63_ h13_ h64_ ) (Nat.le_of_lt_succ hm_22))
            · refine w_aload_n dX12_goesOn_63 rfl 3 rfl ?_
              refine w_getR (c' := (50, 0, 0)) fl_RX12_9 rfl rfl ic_12 dX12_goesOn_64 rfl ?_
              refine w_iload_n dX12_goesOn_67 rfl 2 rfl ?_
              refine w_bipush (v := 7) dX12_goesOn_68 (by decide) ?_
              refine w_iaddB dX12_goesOn_70 (rfl : r1_.toInt = r1_.toInt) li_7 (lf_c_X12_goesOn_6 v r1_ z14_ j18_ hv h4_ h15_ h19_ ) (fun z65_ h66_ => ?_)
              refine w_dup2 dX12_goesOn_71 rfl rfl ?_
              refine w_iald rfl rfl ic_50 (rfl : z65_.toInt = z65_.toInt) (lf_c_X12_habitOf_6 v r1_ z65_ hv h4_ h66_ ) dX12_goesOn_72 (fun j69_ h70_ z67_ e68_ => ?_)
              refine w_iconst (v := 1) dX12_goesOn_73 (by decide) ?_
              refine w_iadd dX12_goesOn_74 (fun z71_ h72_ => ?_)
              refine w_iast DD_nd rfl rfl ic_50 (rfl : z65_.toInt = z65_.toInt) (lf_c_X12_habitOf_6 v r1_ z65_ hv h4_ h66_ ) dX12_goesOn_75 (fun j75_ h76_ M73_ hM74_ => ?_)
              have hI77_ := hI_22.put50 hM74_ (lf_c_X12_goesOn_20 M73_ M_22 v r1_ z14_ j18_ z16_ z21_ j25_ z23_ r28_ z65_ j69_ z67_ z71_ j75_ hv h4_ h15_ h19_ e17_ h20_ h22_ h26_ e24_ h27_ h31_ h33_ h66_ h70_ e68_ h76_ hM74_ )
              have hF78_ := hF_22.put hM74_ (Or.inl ⟨rfl, rfl⟩)
              refine w_iload dX12_goesOn_76 0 rfl ?_
              refine w_if_lt (tgt := 93) dX12_goesOn_78 (by decide) (rfl : r28_.toInt = r28_.toInt) (fun h9 => (lf_c_X12_isUnder_1 r28_ h33_ h9 ).elim) (fun h79_ => ?_)
              refine w_aload_n dX12_goesOn_81 rfl 3 rfl ?_
              refine w_aload_n dX12_goesOn_82 rfl 3 rfl ?_
              refine w_iload_n dX12_goesOn_83 rfl 4 rfl ?_
              refine w_iload dX12_goesOn_84 0 rfl ?_
              refine w_callV (as := [vI v, vI r28_]) (rest := [vR (12, 0, 0)]) (c_X12_yes l G cy ad (d + 2) v r28_ M73_ hI77_ hv (lf_c_X12_goesOn_22 z16_ z23_ r28_ h31_ h33_ )) kV_X12_yes pnn_17 (Nat.le_of_ble_eq_true rfl) m_1683 rfl rfl rfl ic_12 rfl rfl (by decide) (Nat.le_of_ble_eq_true rfl) dX12_goesOn_86 (fun r80_ M81_ q82_ => ?_)
              obtain ⟨rfl, h83_, hs84_⟩ := q82_
              refine w_iconst (v := 3) dX12_goesOn_89 (by decide) ?_
              refine w_callVv (as := [vI r80_, vI 3]) (rest := []) (c_X12_more l G cy ad (d + 1) r80_ 3 M73_ hI77_ (lf_c_X12_goesOn_23 v z16_ z23_ r28_ r80_ hv h31_ h33_ h83_ )) kV_X12_more pnn_17 (Nat.le_of_ble_eq_true rfl) m_1687 rfl rfl rfl ic_12 rfl rfl (by decide) (Nat.le_of_ble_eq_true rfl) dX12_goesOn_90 (fun M85_ q86_ => ?_)
              obtain ⟨hI88_, hF89_, h87_, hs91_⟩ := q86_
              have hF90_ := hF78_.tr hF89_ (fun c k => (fun h => h.elim (fun h => (Or.inl ⟨h.1, h.2⟩)) (fun h => h.elim)))
              exact w_vret rfl dX12_goesOn_93 ⟨hI88_, hF90_, trivial, ⟨r1_, hs5_, h4_, r6_, hs10_, h9_, (Or.inl ⟨h11_, v3_22, hv0_22, M_22, hL_22, hI_22, hF_22, (Or.inr ⟨h13_, z14_, h15_, j18_, h19_, z16_, e17_, h20_, z21_, h22_, j25_, h26_, z23_, e24_, h27_, r28_, hs32_, h31_, (Or.inr ⟨h33_, r49_, hs53_, h52_, h54_, z65_, h66_, j69_, h70_, z67_, e68_, z71_, h72_, j75_, h76_, M73_, hM74_, h79_, hI77_, r80_, hs84_, h83_, M85_, hI88_, hF89_, hs91_, rfl⟩)⟩)⟩)⟩⟩
    exact lp12_ _ Mz hIz hFz 1 (lf_c_X12_goesOn_24 ) RCH.refl (Nat.lt_succ_self _)
  · refine w_iconst (v := 2) dX12_goesOn_16 (by decide) ?_
    refine w_goto (tgt := 21) dX12_goesOn_17 (by decide) ?_
    refine w_istore_n (ls' := [(3, vI 2), (2, vI r1_), (0, vR (12, 0, 0)), (1, vI v)]) dX12_goesOn_21 rfl (by decide) rfl ?_
    have lp92_ : ∀ (nn_22 : Nat) (M_22 : mM) (hI_22 : InvD M_22) (hF_22 : FR (S_c_X12_goesOn) Mz M_22) (v3_22 : Int32) (hv0_22 : v3_22.toInt ≤ 2) (hL_22 : RCH (fun x_ y_ => ST_X12_goesOn_22b Mz r1_ x_.1 x_.2 y_.1 y_.2) ((2 : Int32), Mz) (v3_22, M_22)), (v3_22.toInt).toNat < nn_22 → WP DD l G cy ad yX12_goesOn cX12_goesOn 5 none (d + 3) 22 [(3, vI v3_22), (2, vI r1_), (0, vR (12, 0, 0)), (1, vI v)] [] M_22 (fun r M' => InvD M' ∧ FR (S_c_X12_goesOn) Mz M' ∧ (True) ∧ SP_X12_goesOn v Mz M') := by
      intro nn_22
      induction nn_22 with
      | zero => intro M_22 hI_22 hF_22 v3_22 hv0_22 hL_22 hm_22; exact absurd hm_22 (Nat.not_lt_zero _)
      | succ nn_22 ih_22 =>
        intro M_22 hI_22 hF_22 v3_22 hv0_22 hL_22 hm_22
        refine w_iload_n dX12_goesOn_22 rfl 0 rfl ?_
        refine w_if_le (tgt := 110) dX12_goesOn_23 (by decide) (rfl : v3_22.toInt = v3_22.toInt) (fun h93_ => ?_) (fun h93_ => ?_)
        · exact w_vret rfl dX12_goesOn_110 ⟨hI_22, hF_22, trivial, ⟨r1_, hs5_, h4_, r6_, hs10_, h9_, (Or.inr ⟨h11_, v3_22, hv0_22, M_22, hL_22, hI_22, hF_22, (Or.inl ⟨h93_, rfl⟩)⟩)⟩⟩
        · refine w_aload_n dX12_goesOn_26 rfl 2 rfl ?_
          refine w_aload_n dX12_goesOn_27 rfl 2 rfl ?_
          refine w_getR (c' := (50, 0, 0)) fl_RX12_9 rfl rfl ic_12 dX12_goesOn_28 rfl ?_
          refine w_iload_n dX12_goesOn_31 rfl 1 rfl ?_
          refine w_iconst (v := 1) dX12_goesOn_32 (by decide) ?_
          refine w_iaddB dX12_goesOn_33 (rfl : r1_.toInt = r1_.toInt) li_1 (lf_c_X12_echo_0 v r1_ hv h4_ ) (fun z94_ h95_ => ?_)
          refine w_iald rfl rfl ic_50 (rfl : z94_.toInt = z94_.toInt) (lf_c_X12_echo_1 v r1_ z94_ hv h4_ h95_ ) dX12_goesOn_34 (fun j98_ h99_ z96_ e97_ => ?_)
          have h100_ : 0 ≤ z96_.toInt ∧ z96_.toInt ≤ 191 := pn_wc hI_22 e97_ (lf_c_X12_echo_2 M_22 v r1_ z94_ j98_ z96_ hv h4_ h95_ h99_ e97_ )
          refine w_aload_n dX12_goesOn_35 rfl 2 rfl ?_
          refine w_getR (c' := (50, 0, 0)) fl_RX12_9 rfl rfl ic_12 dX12_goesOn_36 rfl ?_
          refine w_iload_n dX12_goesOn_39 rfl 1 rfl ?_
          refine w_iconst (v := 2) dX12_goesOn_40 (by decide) ?_
          refine w_iaddB dX12_goesOn_41 (rfl : r1_.toInt = r1_.toInt) li_2 (lf_c_X12_goesOn_3 v r1_ z94_ j98_ hv h4_ h95_ h99_ ) (fun z101_ h102_ => ?_)
          refine w_iald rfl rfl ic_50 (rfl : z101_.toInt = z101_.toInt) (lf_c_X12_echo_6 v r1_ z101_ hv h4_ h102_ ) dX12_goesOn_42 (fun j105_ h106_ z103_ e104_ => ?_)
          have h107_ : 0 ≤ z103_.toInt ∧ z103_.toInt ≤ 7 := pn_ws hI_22 e104_ (lf_c_X12_goesOn_5 M_22 v r1_ z94_ j98_ z96_ z101_ j105_ z103_ hv h4_ h95_ h99_ e97_ h100_ h102_ h106_ e104_ )
          refine w_iconst (v := 1) dX12_goesOn_43 (by decide) ?_
          refine w_callV (as := [vI z96_, vI z103_, vI 1]) (rest := []) (c_X12_on l G cy ad (d + 1) z96_ z103_ 1 M_22 hI_22 h107_) kV_X12_on pnn_17 (Nat.le_of_ble_eq_true rfl) m_1632 rfl rfl rfl ic_12 rfl rfl (by decide) (Nat.le_of_ble_eq_true rfl) dX12_goesOn_44 (fun r108_ M109_ q110_ => ?_)
          obtain ⟨rfl, h111_, hs112_⟩ := q110_
          refine w_istore (ls' := [(4, vI r108_), (3, vI v3_22), (2, vI r1_), (0, vR (12, 0, 0)), (1, vI v)]) dX12_goesOn_47 (by decide) rfl ?_
          refine w_iload dX12_goesOn_49 0 rfl ?_
          refine w_if_lt (tgt := 63) dX12_goesOn_51 (by decide) (rfl : r108_.toInt = r108_.toInt) (fun h113_ => ?_) (fun h113_ => ?_)
          · refine w_aload_n dX12_goesOn_63 rfl 3 rfl ?_
            refine w_getR (c' := (50, 0, 0)) fl_RX12_9 rfl rfl ic_12 dX12_goesOn_64 rfl ?_
            refine w_iload_n dX12_goesOn_67 rfl 2 rfl ?_
            refine w_bipush (v := 7) dX12_goesOn_68 (by decide) ?_
            refine w_iaddB dX12_goesOn_70 (rfl : r1_.toInt = r1_.toInt) li_7 (lf_c_X12_goesOn_6 v r1_ z94_ j98_ hv h4_ h95_ h99_ ) (fun z114_ h115_ => ?_)
            refine w_dup2 dX12_goesOn_71 rfl rfl ?_
            refine w_iald rfl rfl ic_50 (rfl : z114_.toInt = z114_.toInt) (lf_c_X12_habitOf_6 v r1_ z114_ hv h4_ h115_ ) dX12_goesOn_72 (fun j118_ h119_ z116_ e117_ => ?_)
            refine w_iconst (v := 1) dX12_goesOn_73 (by decide) ?_
            refine w_iadd dX12_goesOn_74 (fun z120_ h121_ => ?_)
            refine w_iast DD_nd rfl rfl ic_50 (rfl : z114_.toInt = z114_.toInt) (lf_c_X12_habitOf_6 v r1_ z114_ hv h4_ h115_ ) dX12_goesOn_75 (fun j124_ h125_ M122_ hM123_ => ?_)
            have hI126_ := hI_22.put50 hM123_ (lf_c_X12_goesOn_9 M122_ M_22 v r1_ z94_ j98_ z96_ z101_ j105_ z103_ r108_ z114_ j118_ z116_ z120_ j124_ hv h4_ h95_ h99_ e97_ h100_ h102_ h106_ e104_ h107_ h111_ h113_ h115_ h119_ e117_ h125_ hM123_ )
            have hF127_ := hF_22.put hM123_ (Or.inl ⟨rfl, rfl⟩)
            refine w_iload dX12_goesOn_76 0 rfl ?_
            refine w_if_lt (tgt := 93) dX12_goesOn_78 (by decide) (rfl : r108_.toInt = r108_.toInt) (fun h128_ => ?_) (fun h9 => (lf_c_X12_isUnder_0 r108_ h113_ h9 ).elim)
            exact w_vret rfl dX12_goesOn_93 ⟨hI126_, hF127_, trivial, ⟨r1_, hs5_, h4_, r6_, hs10_, h9_, (Or.inr ⟨h11_, v3_22, hv0_22, M_22, hL_22, hI_22, hF_22, (Or.inr ⟨h93_, z94_, h95_, j98_, h99_, z96_, e97_, h100_, z101_, h102_, j105_, h106_, z103_, e104_, h107_, r108_, hs112_, h111_, (Or.inl ⟨h113_, z114_, h115_, j118_, h119_, z116_, e117_, z120_, h121_, j124_, h125_, M122_, hM123_, h128_, rfl⟩)⟩)⟩)⟩⟩
          · refine w_aload_n dX12_goesOn_54 rfl 3 rfl ?_
            refine w_iload dX12_goesOn_55 0 rfl ?_
            refine w_callV (as := [vI r108_]) (rest := []) (c_X12_isFree l G cy ad d r108_ M_22 hI_22) kV_X12_isFree pnn_17 (Nat.le_of_ble_eq_true rfl) m_1439 rfl rfl rfl ic_12 rfl rfl (by decide) (Nat.le_of_ble_eq_true rfl) dX12_goesOn_57 (fun r129_ M130_ q131_ => ?_)
            obtain ⟨rfl, h132_, hs133_⟩ := q131_
            refine w_if_ne (tgt := 94) dX12_goesOn_60 (by decide) (rfl : r129_.toInt = r129_.toInt) (fun h134_ => ?_) (fun h134_ => ?_)
            · refine w_aload_n dX12_goesOn_94 rfl 3 rfl ?_
              refine w_getR (c' := (50, 0, 0)) fl_RX12_9 rfl rfl ic_12 dX12_goesOn_95 rfl ?_
              refine w_iload_n dX12_goesOn_98 rfl 2 rfl ?_
              refine w_iconst (v := 1) dX12_goesOn_99 (by decide) ?_
              refine w_iaddB dX12_goesOn_100 (rfl : r1_.toInt = r1_.toInt) li_1 (lf_c_X12_goesOn_11 v r1_ z94_ j98_ hv h4_ h95_ h99_ ) (fun z135_ h136_ => ?_)
              refine w_iload dX12_goesOn_101 0 rfl ?_
              refine w_iast DD_nd rfl rfl ic_50 (rfl : z135_.toInt = z135_.toInt) (lf_c_X12_echo_1 v r1_ z135_ hv h4_ h136_ ) dX12_goesOn_103 (fun j139_ h140_ M137_ hM138_ => ?_)
              have hI141_ := hI_22.put50 hM138_ (lf_c_X12_goesOn_13 M137_ M_22 v r1_ z94_ j98_ z96_ z101_ j105_ z103_ r108_ z135_ j139_ hv h4_ h95_ h99_ e97_ h100_ h102_ h106_ e104_ h107_ h111_ h113_ h136_ h140_ hM138_ )
              have hF142_ := hF_22.put hM138_ (Or.inl ⟨rfl, rfl⟩)
              refine w_iincB (j := 1) (f := fun z143_ => [(3, vI z143_), (4, vI r108_), (2, vI r1_), (0, vR (12, 0, 0)), (1, vI v)]) dX12_goesOn_104 rfl (by decide) (fun _ => rfl) (rfl : v3_22.toInt = v3_22.toInt) li_m1 (lf_c_X12_goesOn_14 v3_22 hv0_22 h93_ ) (fun z143_ h144_ => ?_)
              refine w_goto (tgt := 22) dX12_goesOn_107 (by decide) ?_
              refine w_loc (ls' := [(3, vI z143_), (2, vI r1_), (0, vR (12, 0, 0)), (1, vI v)]) [0, 2, 3, 4] rfl ?_
              exact ih_22 M137_ hI141_ hF142_ z143_ (lf_c_X12_goesOn_15 v3_22 z143_ hv0_22 h144_ ) (RCH.tail hL_22 ⟨hv0_22, hI_22, hF_22, h93_, z94_, h95_, j98_, h99_, z96_, e97_, h100_, z101_, h102_, j105_, h106_, z103_, e104_, h107_, r108_, hs112_, h111_, h113_, r129_, hs133_, h132_, h134_, z135_, h136_, j139_, h140_, M137_, hM138_, z143_, h144_, rfl, rfl⟩) (Nat.lt_of_lt_of_le (lf_c_X12_farthest_5 v3_22 z143_ h93_ h144_ ) (Nat.le_of_lt_succ hm_22))
            · refine w_aload_n dX12_goesOn_63 rfl 3 rfl ?_
              refine w_getR (c' := (50, 0, 0)) fl_RX12_9 rfl rfl ic_12 dX12_goesOn_64 rfl ?_
              refine w_iload_n dX12_goesOn_67 rfl 2 rfl ?_
              refine w_bipush (v := 7) dX12_goesOn_68 (by decide) ?_
              refine w_iaddB dX12_goesOn_70 (rfl : r1_.toInt = r1_.toInt) li_7 (lf_c_X12_goesOn_6 v r1_ z94_ j98_ hv h4_ h95_ h99_ ) (fun z145_ h146_ => ?_)
              refine w_dup2 dX12_goesOn_71 rfl rfl ?_
              refine w_iald rfl rfl ic_50 (rfl : z145_.toInt = z145_.toInt) (lf_c_X12_habitOf_6 v r1_ z145_ hv h4_ h146_ ) dX12_goesOn_72 (fun j149_ h150_ z147_ e148_ => ?_)
              refine w_iconst (v := 1) dX12_goesOn_73 (by decide) ?_
              refine w_iadd dX12_goesOn_74 (fun z151_ h152_ => ?_)
              refine w_iast DD_nd rfl rfl ic_50 (rfl : z145_.toInt = z145_.toInt) (lf_c_X12_habitOf_6 v r1_ z145_ hv h4_ h146_ ) dX12_goesOn_75 (fun j155_ h156_ M153_ hM154_ => ?_)
              have hI157_ := hI_22.put50 hM154_ (lf_c_X12_goesOn_20 M153_ M_22 v r1_ z94_ j98_ z96_ z101_ j105_ z103_ r108_ z145_ j149_ z147_ z151_ j155_ hv h4_ h95_ h99_ e97_ h100_ h102_ h106_ e104_ h107_ h111_ h113_ h146_ h150_ e148_ h156_ hM154_ )
              have hF158_ := hF_22.put hM154_ (Or.inl ⟨rfl, rfl⟩)
              refine w_iload dX12_goesOn_76 0 rfl ?_
              refine w_if_lt (tgt := 93) dX12_goesOn_78 (by decide) (rfl : r108_.toInt = r108_.toInt) (fun h9 => (lf_c_X12_isUnder_1 r108_ h113_ h9 ).elim) (fun h159_ => ?_)
              refine w_aload_n dX12_goesOn_81 rfl 3 rfl ?_
              refine w_aload_n dX12_goesOn_82 rfl 3 rfl ?_
              refine w_iload_n dX12_goesOn_83 rfl 4 rfl ?_
              refine w_iload dX12_goesOn_84 0 rfl ?_
              refine w_callV (as := [vI v, vI r108_]) (rest := [vR (12, 0, 0)]) (c_X12_yes l G cy ad (d + 2) v r108_ M153_ hI157_ hv (lf_c_X12_goesOn_22 z96_ z103_ r108_ h111_ h113_ )) kV_X12_yes pnn_17 (Nat.le_of_ble_eq_true rfl) m_1683 rfl rfl rfl ic_12 rfl rfl (by decide) (Nat.le_of_ble_eq_true rfl) dX12_goesOn_86 (fun r160_ M161_ q162_ => ?_)
              obtain ⟨rfl, h163_, hs164_⟩ := q162_
              refine w_iconst (v := 3) dX12_goesOn_89 (by decide) ?_
              refine w_callVv (as := [vI r160_, vI 3]) (rest := []) (c_X12_more l G cy ad (d + 1) r160_ 3 M153_ hI157_ (lf_c_X12_goesOn_23 v z96_ z103_ r108_ r160_ hv h111_ h113_ h163_ )) kV_X12_more pnn_17 (Nat.le_of_ble_eq_true rfl) m_1687 rfl rfl rfl ic_12 rfl rfl (by decide) (Nat.le_of_ble_eq_true rfl) dX12_goesOn_90 (fun M165_ q166_ => ?_)
              obtain ⟨hI168_, hF169_, h167_, hs171_⟩ := q166_
              have hF170_ := hF158_.tr hF169_ (fun c k => (fun h => h.elim (fun h => (Or.inl ⟨h.1, h.2⟩)) (fun h => h.elim)))
              exact w_vret rfl dX12_goesOn_93 ⟨hI168_, hF170_, trivial, ⟨r1_, hs5_, h4_, r6_, hs10_, h9_, (Or.inr ⟨h11_, v3_22, hv0_22, M_22, hL_22, hI_22, hF_22, (Or.inr ⟨h93_, z94_, h95_, j98_, h99_, z96_, e97_, h100_, z101_, h102_, j105_, h106_, z103_, e104_, h107_, r108_, hs112_, h111_, (Or.inr ⟨h113_, r129_, hs133_, h132_, h134_, z145_, h146_, j149_, h150_, z147_, e148_, z151_, h152_, j155_, h156_, M153_, hM154_, h159_, hI157_, r160_, hs164_, h163_, M165_, hI168_, hF169_, hs171_, rfl⟩)⟩)⟩)⟩⟩
    exact lp92_ _ Mz hIz hFz 2 (lf_c_X12_goesOn_49 ) RCH.refl (Nat.lt_succ_self _)
def S_c_X12_walkerGoes : rf → Nat → Prop := fun c k => (c.1 = 58 ∧ c.2.1 = 0 ∧ k = 0) ∨ (c.1 = 58 ∧ c.2.1 = 0 ∧ k = 1) ∨ (c.1 = 58 ∧ c.2.1 = 0 ∧ k = 2) ∨ (c.1 = 58 ∧ c.2.1 = 0 ∧ k = 3) ∨ (c.1 = 58 ∧ c.2.1 = 0 ∧ k = 4) ∨ (c.1 = 59 ∧ c.2.1 = 0) ∨ (c.1 = 50 ∧ c.2.1 = 0) ∨ False
def SP_X12_walkerGoes (v : Int32) (Mz : mM) (M_ : mM) : Prop := ∃ r1_ : Int32, (SP_X12_goer v Mz r1_) ∧ (r1_.toInt = 180 + 9 * v.toInt) ∧ ∃ z6_ : Int32, (z6_.toInt = r1_.toInt + 5) ∧ ∃ j10_ : Nat, ((j10_ : Int) = z6_.toInt) ∧ ∃ z8_ : Int32, (z8_ = Mz.1 (50, 0, 0) j10_) ∧ ∃ z12_ : Int32, (z12_.toInt = r1_.toInt + 6) ∧ ∃ j16_ : Nat, ((j16_ : Int) = z12_.toInt) ∧ ∃ z14_ : Int32, (z14_ = Mz.1 (50, 0, 0) j16_) ∧ (((¬ z14_.toInt = 0) ∧ (((z8_.toInt ≤ 0) ∧ ∃ M21_ : mM, (InvD M21_) ∧ (FR (S_c_X12_habitOf) Mz M21_) ∧ ∃ r20_ : Int32, (SP_X12_habitOf v Mz r20_ M21_) ∧ (((¬ r20_.toInt = 0) ∧ ∃ z29_ : Int32, (z29_.toInt = r1_.toInt + 2) ∧ ∃ z31_ : Int32, (z31_.toInt = r1_.toInt + 2) ∧ ∃ j35_ : Nat, ((j35_ : Int) = z31_.toInt) ∧ ∃ z33_ : Int32, (z33_ = M21_.1 (50, 0, 0) j35_) ∧ (0 ≤ z33_.toInt ∧ z33_.toInt ≤ 7) ∧ (((¬ r20_.toInt = 1) ∧ (((¬ r20_.toInt = 2) ∧ ∃ z40_ : Int32, (z40_.toInt = z33_.toInt + 6) ∧ ∃ z42_ : Int32, (z42_ = z40_ &&& (7 : Int32)) ∧ (0 ≤ z42_.toInt ∧ z42_.toInt < ((2 ^ 3 : Nat) : Int)) ∧ ∃ j47_ : Nat, ((j47_ : Int) = z29_.toInt) ∧ ∃ M45_ : mM, (M45_ = up M21_ (50, 0, 0) j47_ z42_) ∧ M_ = M45_) ∨ ((r20_.toInt = 2) ∧ ∃ z51_ : Int32, (z51_.toInt = z33_.toInt + 2) ∧ ∃ z53_ : Int32, (z53_ = z51_ &&& (7 : Int32)) ∧ (0 ≤ z53_.toInt ∧ z53_.toInt < ((2 ^ 3 : Nat) : Int)) ∧ ∃ j58_ : Nat, ((j58_ : Int) = z29_.toInt) ∧ ∃ M56_ : mM, (M56_ = up M21_ (50, 0, 0) j58_ z53_) ∧ M_ = M56_))) ∨ ((r20_.toInt = 1) ∧ ∃ z62_ : Int32, (z62_.toInt = z33_.toInt + 1) ∧ ∃ z64_ : Int32, (z64_ = z62_ &&& (7 : Int32)) ∧ (0 ≤ z64_.toInt ∧ z64_.toInt < ((2 ^ 3 : Nat) : Int)) ∧ ∃ j69_ : Nat, ((j69_ : Int) = z29_.toInt) ∧ ∃ M67_ : mM, (M67_ = up M21_ (50, 0, 0) j69_ z64_) ∧ M_ = M67_))) ∨ ((r20_.toInt = 0) ∧ ∃ M73_ : mM, (InvD M73_) ∧ (FR (S_c_X12_goesOn) M21_ M73_) ∧ (SP_X12_goesOn v M21_ M73_) ∧ M_ = M73_))) ∨ ((0 < z8_.toInt) ∧ ∃ z80_ : Int32, (z80_ = Mz.1 (50, 0, 0) 0) ∧ ∃ z82_ : Int32, (z82_ = z80_ - z80_ / z8_ * z8_) ∧ (((¬ z82_.toInt = 0) ∧ ∃ M86_ : mM, (InvD M86_) ∧ (FR (S_c_X12_habitOf) Mz M86_) ∧ ∃ r85_ : Int32, (SP_X12_habitOf v Mz r85_ M86_) ∧ (((¬ r85_.toInt = 0) ∧ ∃ z94_ : Int32, (z94_.toInt = r1_.toInt + 2) ∧ ∃ z96_ : Int32, (z96_.toInt = r1_.toInt + 2) ∧ ∃ j100_ : Nat, ((j100_ : Int) = z96_.toInt) ∧ ∃ z98_ : Int32, (z98_ = M86_.1 (50, 0, 0) j100_) ∧ (0 ≤ z98_.toInt ∧ z98_.toInt ≤ 7) ∧ (((¬ r85_.toInt = 1) ∧ (((¬ r85_.toInt = 2) ∧ ∃ z105_ : Int32, (z105_.toInt = z98_.toInt + 6) ∧ ∃ z107_ : Int32, (z107_ = z105_ &&& (7 : Int32)) ∧ (0 ≤ z107_.toInt ∧ z107_.toInt < ((2 ^ 3 : Nat) : Int)) ∧ ∃ j112_ : Nat, ((j112_ : Int) = z94_.toInt) ∧ ∃ M110_ : mM, (M110_ = up M86_ (50, 0, 0) j112_ z107_) ∧ M_ = M110_) ∨ ((r85_.toInt = 2) ∧ ∃ z116_ : Int32, (z116_.toInt = z98_.toInt + 2) ∧ ∃ z118_ : Int32, (z118_ = z116_ &&& (7 : Int32)) ∧ (0 ≤ z118_.toInt ∧ z118_.toInt < ((2 ^ 3 : Nat) : Int)) ∧ ∃ j123_ : Nat, ((j123_ : Int) = z94_.toInt) ∧ ∃ M121_ : mM, (M121_ = up M86_ (50, 0, 0) j123_ z118_) ∧ M_ = M121_))) ∨ ((r85_.toInt = 1) ∧ ∃ z127_ : Int32, (z127_.toInt = z98_.toInt + 1) ∧ ∃ z129_ : Int32, (z129_ = z127_ &&& (7 : Int32)) ∧ (0 ≤ z129_.toInt ∧ z129_.toInt < ((2 ^ 3 : Nat) : Int)) ∧ ∃ j134_ : Nat, ((j134_ : Int) = z94_.toInt) ∧ ∃ M132_ : mM, (M132_ = up M86_ (50, 0, 0) j134_ z129_) ∧ M_ = M132_))) ∨ ((r85_.toInt = 0) ∧ ∃ M138_ : mM, (InvD M138_) ∧ (FR (S_c_X12_goesOn) M86_ M138_) ∧ (SP_X12_goesOn v M86_ M138_) ∧ M_ = M138_))) ∨ ((z82_.toInt = 0) ∧ ∃ r145_ : Int32, (SP_X12_kindOf v Mz r145_) ∧ (0 ≤ r145_.toInt ∧ r145_.toInt ≤ 7) ∧ ∃ r150_ : Int32, (SP_X12_isUnder r145_ 1 Mz r150_) ∧ ((0 ≤ r150_.toInt ∧ r150_.toInt ≤ 1)) ∧ (((r150_.toInt = 0) ∧ ∃ M157_ : mM, (InvD M157_) ∧ (FR (S_c_X12_habitOf) Mz M157_) ∧ ∃ r156_ : Int32, (SP_X12_habitOf v Mz r156_ M157_) ∧ (((¬ r156_.toInt = 0) ∧ ∃ z165_ : Int32, (z165_.toInt = r1_.toInt + 2) ∧ ∃ z167_ : Int32, (z167_.toInt = r1_.toInt + 2) ∧ ∃ j171_ : Nat, ((j171_ : Int) = z167_.toInt) ∧ ∃ z169_ : Int32, (z169_ = M157_.1 (50, 0, 0) j171_) ∧ (0 ≤ z169_.toInt ∧ z169_.toInt ≤ 7) ∧ (((¬ r156_.toInt = 1) ∧ (((¬ r156_.toInt = 2) ∧ ∃ z176_ : Int32, (z176_.toInt = z169_.toInt + 6) ∧ ∃ z178_ : Int32, (z178_ = z176_ &&& (7 : Int32)) ∧ (0 ≤ z178_.toInt ∧ z178_.toInt < ((2 ^ 3 : Nat) : Int)) ∧ ∃ j183_ : Nat, ((j183_ : Int) = z165_.toInt) ∧ ∃ M181_ : mM, (M181_ = up M157_ (50, 0, 0) j183_ z178_) ∧ M_ = M181_) ∨ ((r156_.toInt = 2) ∧ ∃ z187_ : Int32, (z187_.toInt = z169_.toInt + 2) ∧ ∃ z189_ : Int32, (z189_ = z187_ &&& (7 : Int32)) ∧ (0 ≤ z189_.toInt ∧ z189_.toInt < ((2 ^ 3 : Nat) : Int)) ∧ ∃ j194_ : Nat, ((j194_ : Int) = z165_.toInt) ∧ ∃ M192_ : mM, (M192_ = up M157_ (50, 0, 0) j194_ z189_) ∧ M_ = M192_))) ∨ ((r156_.toInt = 1) ∧ ∃ z198_ : Int32, (z198_.toInt = z169_.toInt + 1) ∧ ∃ z200_ : Int32, (z200_ = z198_ &&& (7 : Int32)) ∧ (0 ≤ z200_.toInt ∧ z200_.toInt < ((2 ^ 3 : Nat) : Int)) ∧ ∃ j205_ : Nat, ((j205_ : Int) = z165_.toInt) ∧ ∃ M203_ : mM, (M203_ = up M157_ (50, 0, 0) j205_ z200_) ∧ M_ = M203_))) ∨ ((r156_.toInt = 0) ∧ ∃ M209_ : mM, (InvD M209_) ∧ (FR (S_c_X12_goesOn) M157_ M209_) ∧ (SP_X12_goesOn v M157_ M209_) ∧ M_ = M209_))) ∨ ((¬ r150_.toInt = 0) ∧ ∃ M217_ : mM, (InvD M217_) ∧ (FR (S_c_X12_clicks) Mz M217_) ∧ ∃ r216_ : Int32, (SP_X12_clicks v Mz r216_ M217_) ∧ ∃ M225_ : mM, (InvD M225_) ∧ (FR (S_c_X12_habitOf) M217_ M225_) ∧ ∃ r224_ : Int32, (SP_X12_habitOf v M217_ r224_ M225_) ∧ (((¬ r224_.toInt = 0) ∧ ∃ z233_ : Int32, (z233_.toInt = r1_.toInt + 2) ∧ ∃ z235_ : Int32, (z235_.toInt = r1_.toInt + 2) ∧ ∃ j239_ : Nat, ((j239_ : Int) = z235_.toInt) ∧ ∃ z237_ : Int32, (z237_ = M225_.1 (50, 0, 0) j239_) ∧ (0 ≤ z237_.toInt ∧ z237_.toInt ≤ 7) ∧ (((¬ r224_.toInt = 1) ∧ (((¬ r224_.toInt = 2) ∧ ∃ z244_ : Int32, (z244_.toInt = z237_.toInt + 6) ∧ ∃ z246_ : Int32, (z246_ = z244_ &&& (7 : Int32)) ∧ (0 ≤ z246_.toInt ∧ z246_.toInt < ((2 ^ 3 : Nat) : Int)) ∧ ∃ j251_ : Nat, ((j251_ : Int) = z233_.toInt) ∧ ∃ M249_ : mM, (M249_ = up M225_ (50, 0, 0) j251_ z246_) ∧ M_ = M249_) ∨ ((r224_.toInt = 2) ∧ ∃ z255_ : Int32, (z255_.toInt = z237_.toInt + 2) ∧ ∃ z257_ : Int32, (z257_ = z255_ &&& (7 : Int32)) ∧ (0 ≤ z257_.toInt ∧ z257_.toInt < ((2 ^ 3 : Nat) : Int)) ∧ ∃ j262_ : Nat, ((j262_ : Int) = z233_.toInt) ∧ ∃ M260_ : mM, (M260_ = up M225_ (50, 0, 0) j262_ z257_) ∧ M_ = M260_))) ∨ ((r224_.toInt = 1) ∧ ∃ z266_ : Int32, (z266_.toInt = z237_.toInt + 1) ∧ ∃ z268_ : Int32, (z268_ = z266_ &&& (7 : Int32)) ∧ (0 ≤ z268_.toInt ∧ z268_.toInt < ((2 ^ 3 : Nat) : Int)) ∧ ∃ j273_ : Nat, ((j273_ : Int) = z233_.toInt) ∧ ∃ M271_ : mM, (M271_ = up M225_ (50, 0, 0) j273_ z268_) ∧ M_ = M271_))) ∨ ((r224_.toInt = 0) ∧ ∃ M277_ : mM, (InvD M277_) ∧ (FR (S_c_X12_goesOn) M225_ M277_) ∧ (SP_X12_goesOn v M225_ M277_) ∧ M_ = M277_))))))))) ∨ ((z14_.toInt = 0) ∧ M_ = Mz))
theorem lf_c_X12_walkerGoes_0 (v : Int32) (r1_ : Int32) (hv : 0 ≤ v.toInt ∧ v.toInt ≤ 7) (h4_ : r1_.toInt = 180 + 9 * v.toInt) : -2147483648 ≤ r1_.toInt + 5 ∧ r1_.toInt + 5 < 2147483648 := by omega
theorem lf_c_X12_walkerGoes_2 (v : Int32) (r1_ : Int32) (z6_ : Int32) (j10_ : Nat) (hv : 0 ≤ v.toInt ∧ v.toInt ≤ 7) (h4_ : r1_.toInt = 180 + 9 * v.toInt) (h7_ : z6_.toInt = r1_.toInt + 5) (h11_ : (j10_ : Int) = z6_.toInt) : -2147483648 ≤ r1_.toInt + 6 ∧ r1_.toInt + 6 < 2147483648 := by omega
theorem lf_c_X12_walkerGoes_3 (v : Int32) (r1_ : Int32) (z12_ : Int32) (hv : 0 ≤ v.toInt ∧ v.toInt ≤ 7) (h4_ : r1_.toInt = 180 + 9 * v.toInt) (h13_ : z12_.toInt = r1_.toInt + 6) : 0 ≤ z12_.toInt ∧ z12_.toInt < ((3567 : Nat) : Int) := by omega
theorem lf_c_X12_walkerGoes_4 (v : Int32) (r1_ : Int32) (z6_ : Int32) (j10_ : Nat) (hv : 0 ≤ v.toInt ∧ v.toInt ≤ 7) (h4_ : r1_.toInt = 180 + 9 * v.toInt) (h7_ : z6_.toInt = r1_.toInt + 5) (h11_ : (j10_ : Int) = z6_.toInt) : -2147483648 ≤ r1_.toInt + 2 ∧ r1_.toInt + 2 < 2147483648 := by omega
theorem lf_c_X12_walkerGoes_7 (M21_ : mM) (Mz : mM) (v : Int32) (r1_ : Int32) (z6_ : Int32) (j10_ : Nat) (z8_ : Int32) (z12_ : Int32) (j16_ : Nat) (z14_ : Int32) (z29_ : Int32) (z31_ : Int32) (j35_ : Nat) (z33_ : Int32) (hv : 0 ≤ v.toInt ∧ v.toInt ≤ 7) (h4_ : r1_.toInt = 180 + 9 * v.toInt) (h7_ : z6_.toInt = r1_.toInt + 5) (h11_ : (j10_ : Int) = z6_.toInt) (e9_ : z8_ = Mz.1 (50, 0, 0) j10_) (h13_ : z12_.toInt = r1_.toInt + 6) (h17_ : (j16_ : Int) = z12_.toInt) (e15_ : z14_ = Mz.1 (50, 0, 0) j16_) (h18_ : ¬ z14_.toInt = 0) (h19_ : z8_.toInt ≤ 0) (h30_ : z29_.toInt = r1_.toInt + 2) (h32_ : z31_.toInt = r1_.toInt + 2) (h36_ : (j35_ : Int) = z31_.toInt) (e34_ : z33_ = M21_.1 (50, 0, 0) j35_) : 180 ≤ j35_ ∧ j35_ < 252 ∧ j35_ % 9 = 2 := by have r_v := rngI v; have r_r1_ := rngI r1_; have r_z6_ := rngI z6_; have r_z8_ := rngI z8_; have r_z12_ := rngI z12_; have r_z14_ := rngI z14_; have r_z29_ := rngI z29_; have r_z31_ := rngI z31_; have r_z33_ := rngI z33_; subst e9_; subst e15_; subst e34_; omega
theorem lf_c_X12_walkerGoes_10 (M21_ : mM) (M45_ : mM) (Mz : mM) (v : Int32) (r1_ : Int32) (z6_ : Int32) (j10_ : Nat) (z8_ : Int32) (z12_ : Int32) (j16_ : Nat) (z14_ : Int32) (z29_ : Int32) (z31_ : Int32) (j35_ : Nat) (z33_ : Int32) (z40_ : Int32) (z42_ : Int32) (j47_ : Nat) (hv : 0 ≤ v.toInt ∧ v.toInt ≤ 7) (h4_ : r1_.toInt = 180 + 9 * v.toInt) (h7_ : z6_.toInt = r1_.toInt + 5) (h11_ : (j10_ : Int) = z6_.toInt) (e9_ : z8_ = Mz.1 (50, 0, 0) j10_) (h13_ : z12_.toInt = r1_.toInt + 6) (h17_ : (j16_ : Int) = z12_.toInt) (e15_ : z14_ = Mz.1 (50, 0, 0) j16_) (h18_ : ¬ z14_.toInt = 0) (h19_ : z8_.toInt ≤ 0) (h30_ : z29_.toInt = r1_.toInt + 2) (h32_ : z31_.toInt = r1_.toInt + 2) (h36_ : (j35_ : Int) = z31_.toInt) (e34_ : z33_ = M21_.1 (50, 0, 0) j35_) (h37_ : 0 ≤ z33_.toInt ∧ z33_.toInt ≤ 7) (h41_ : z40_.toInt = z33_.toInt + 6) (h43_ : 0 ≤ z42_.toInt ∧ z42_.toInt < ((2 ^ 3 : Nat) : Int)) (h48_ : (j47_ : Int) = z29_.toInt) (hM46_ : M45_ = up M21_ (50, 0, 0) j47_ z42_) : PN j47_ z42_ ∧ (j47_ < 345 ∨ 493 < j47_) := by have r_v := rngI v; have r_r1_ := rngI r1_; have r_z6_ := rngI z6_; have r_z8_ := rngI z8_; have r_z12_ := rngI z12_; have r_z14_ := rngI z14_; have r_z29_ := rngI z29_; have r_z31_ := rngI z31_; have r_z33_ := rngI z33_; have r_z40_ := rngI z40_; have r_z42_ := rngI z42_; subst e9_; subst e15_; subst e34_; unfold PN; omega
theorem lf_c_X12_walkerGoes_13 (M21_ : mM) (M56_ : mM) (Mz : mM) (v : Int32) (r1_ : Int32) (z6_ : Int32) (j10_ : Nat) (z8_ : Int32) (z12_ : Int32) (j16_ : Nat) (z14_ : Int32) (z29_ : Int32) (z31_ : Int32) (j35_ : Nat) (z33_ : Int32) (z51_ : Int32) (z53_ : Int32) (j58_ : Nat) (hv : 0 ≤ v.toInt ∧ v.toInt ≤ 7) (h4_ : r1_.toInt = 180 + 9 * v.toInt) (h7_ : z6_.toInt = r1_.toInt + 5) (h11_ : (j10_ : Int) = z6_.toInt) (e9_ : z8_ = Mz.1 (50, 0, 0) j10_) (h13_ : z12_.toInt = r1_.toInt + 6) (h17_ : (j16_ : Int) = z12_.toInt) (e15_ : z14_ = Mz.1 (50, 0, 0) j16_) (h18_ : ¬ z14_.toInt = 0) (h19_ : z8_.toInt ≤ 0) (h30_ : z29_.toInt = r1_.toInt + 2) (h32_ : z31_.toInt = r1_.toInt + 2) (h36_ : (j35_ : Int) = z31_.toInt) (e34_ : z33_ = M21_.1 (50, 0, 0) j35_) (h37_ : 0 ≤ z33_.toInt ∧ z33_.toInt ≤ 7) (h52_ : z51_.toInt = z33_.toInt + 2) (h54_ : 0 ≤ z53_.toInt ∧ z53_.toInt < ((2 ^ 3 : Nat) : Int)) (h59_ : (j58_ : Int) = z29_.toInt) (hM57_ : M56_ = up M21_ (50, 0, 0) j58_ z53_) : PN j58_ z53_ ∧ (j58_ < 345 ∨ 493 < j58_) := by have r_v := rngI v; have r_r1_ := rngI r1_; have r_z6_ := rngI z6_; have r_z8_ := rngI z8_; have r_z12_ := rngI z12_; have r_z14_ := rngI z14_; have r_z29_ := rngI z29_; have r_z31_ := rngI z31_; have r_z33_ := rngI z33_; have r_z51_ := rngI z51_; have r_z53_ := rngI z53_; subst e9_; subst e15_; subst e34_; unfold PN; omega
theorem lf_c_X12_walkerGoes_14 (z33_ : Int32) (h37_ : 0 ≤ z33_.toInt ∧ z33_.toInt ≤ 7) : -2147483648 ≤ z33_.toInt + 1 ∧ z33_.toInt + 1 < 2147483648 := by omega
theorem lf_c_X12_walkerGoes_16 (M21_ : mM) (M67_ : mM) (Mz : mM) (v : Int32) (r1_ : Int32) (z6_ : Int32) (j10_ : Nat) (z8_ : Int32) (z12_ : Int32) (j16_ : Nat) (z14_ : Int32) (z29_ : Int32) (z31_ : Int32) (j35_ : Nat) (z33_ : Int32) (z62_ : Int32) (z64_ : Int32) (j69_ : Nat) (hv : 0 ≤ v.toInt ∧ v.toInt ≤ 7) (h4_ : r1_.toInt = 180 + 9 * v.toInt) (h7_ : z6_.toInt = r1_.toInt + 5) (h11_ : (j10_ : Int) = z6_.toInt) (e9_ : z8_ = Mz.1 (50, 0, 0) j10_) (h13_ : z12_.toInt = r1_.toInt + 6) (h17_ : (j16_ : Int) = z12_.toInt) (e15_ : z14_ = Mz.1 (50, 0, 0) j16_) (h18_ : ¬ z14_.toInt = 0) (h19_ : z8_.toInt ≤ 0) (h30_ : z29_.toInt = r1_.toInt + 2) (h32_ : z31_.toInt = r1_.toInt + 2) (h36_ : (j35_ : Int) = z31_.toInt) (e34_ : z33_ = M21_.1 (50, 0, 0) j35_) (h37_ : 0 ≤ z33_.toInt ∧ z33_.toInt ≤ 7) (h63_ : z62_.toInt = z33_.toInt + 1) (h65_ : 0 ≤ z64_.toInt ∧ z64_.toInt < ((2 ^ 3 : Nat) : Int)) (h70_ : (j69_ : Int) = z29_.toInt) (hM68_ : M67_ = up M21_ (50, 0, 0) j69_ z64_) : PN j69_ z64_ ∧ (j69_ < 345 ∨ 493 < j69_) := by have r_v := rngI v; have r_r1_ := rngI r1_; have r_z6_ := rngI z6_; have r_z8_ := rngI z8_; have r_z12_ := rngI z12_; have r_z14_ := rngI z14_; have r_z29_ := rngI z29_; have r_z31_ := rngI z31_; have r_z33_ := rngI z33_; have r_z62_ := rngI z62_; have r_z64_ := rngI z64_; subst e9_; subst e15_; subst e34_; unfold PN; omega
theorem lf_c_X12_walkerGoes_17 (Mz : mM) (v : Int32) (r1_ : Int32) (z6_ : Int32) (j10_ : Nat) (z8_ : Int32) (z12_ : Int32) (j16_ : Nat) (z14_ : Int32) (hv : 0 ≤ v.toInt ∧ v.toInt ≤ 7) (h4_ : r1_.toInt = 180 + 9 * v.toInt) (h7_ : z6_.toInt = r1_.toInt + 5) (h11_ : (j10_ : Int) = z6_.toInt) (e9_ : z8_ = Mz.1 (50, 0, 0) j10_) (h13_ : z12_.toInt = r1_.toInt + 6) (h17_ : (j16_ : Int) = z12_.toInt) (e15_ : z14_ = Mz.1 (50, 0, 0) j16_) (h18_ : ¬ z14_.toInt = 0) (h19_ : 0 < z8_.toInt) : ¬ z8_ = 0 := by have r_v := rngI v; have r_r1_ := rngI r1_; have r_z6_ := rngI z6_; have r_z8_ := rngI z8_; have r_z12_ := rngI z12_; have r_z14_ := rngI z14_; intro h9; subst h9; simp at *; try omega
theorem lf_c_X12_walkerGoes_21 (M86_ : mM) (Mz : mM) (v : Int32) (r1_ : Int32) (z6_ : Int32) (j10_ : Nat) (z8_ : Int32) (z12_ : Int32) (j16_ : Nat) (z14_ : Int32) (z94_ : Int32) (z96_ : Int32) (j100_ : Nat) (z98_ : Int32) (hv : 0 ≤ v.toInt ∧ v.toInt ≤ 7) (h4_ : r1_.toInt = 180 + 9 * v.toInt) (h7_ : z6_.toInt = r1_.toInt + 5) (h11_ : (j10_ : Int) = z6_.toInt) (e9_ : z8_ = Mz.1 (50, 0, 0) j10_) (h13_ : z12_.toInt = r1_.toInt + 6) (h17_ : (j16_ : Int) = z12_.toInt) (e15_ : z14_ = Mz.1 (50, 0, 0) j16_) (h18_ : ¬ z14_.toInt = 0) (h19_ : 0 < z8_.toInt) (h95_ : z94_.toInt = r1_.toInt + 2) (h97_ : z96_.toInt = r1_.toInt + 2) (h101_ : (j100_ : Int) = z96_.toInt) (e99_ : z98_ = M86_.1 (50, 0, 0) j100_) : 180 ≤ j100_ ∧ j100_ < 252 ∧ j100_ % 9 = 2 := by have r_v := rngI v; have r_r1_ := rngI r1_; have r_z6_ := rngI z6_; have r_z8_ := rngI z8_; have r_z12_ := rngI z12_; have r_z14_ := rngI z14_; have r_z94_ := rngI z94_; have r_z96_ := rngI z96_; have r_z98_ := rngI z98_; subst e9_; subst e15_; subst e99_; omega
theorem lf_c_X12_walkerGoes_24 (M110_ : mM) (M86_ : mM) (Mz : mM) (v : Int32) (r1_ : Int32) (z6_ : Int32) (j10_ : Nat) (z8_ : Int32) (z12_ : Int32) (j16_ : Nat) (z14_ : Int32) (z94_ : Int32) (z96_ : Int32) (j100_ : Nat) (z98_ : Int32) (z105_ : Int32) (z107_ : Int32) (j112_ : Nat) (hv : 0 ≤ v.toInt ∧ v.toInt ≤ 7) (h4_ : r1_.toInt = 180 + 9 * v.toInt) (h7_ : z6_.toInt = r1_.toInt + 5) (h11_ : (j10_ : Int) = z6_.toInt) (e9_ : z8_ = Mz.1 (50, 0, 0) j10_) (h13_ : z12_.toInt = r1_.toInt + 6) (h17_ : (j16_ : Int) = z12_.toInt) (e15_ : z14_ = Mz.1 (50, 0, 0) j16_) (h18_ : ¬ z14_.toInt = 0) (h19_ : 0 < z8_.toInt) (h95_ : z94_.toInt = r1_.toInt + 2) (h97_ : z96_.toInt = r1_.toInt + 2) (h101_ : (j100_ : Int) = z96_.toInt) (e99_ : z98_ = M86_.1 (50, 0, 0) j100_) (h102_ : 0 ≤ z98_.toInt ∧ z98_.toInt ≤ 7) (h106_ : z105_.toInt = z98_.toInt + 6) (h108_ : 0 ≤ z107_.toInt ∧ z107_.toInt < ((2 ^ 3 : Nat) : Int)) (h113_ : (j112_ : Int) = z94_.toInt) (hM111_ : M110_ = up M86_ (50, 0, 0) j112_ z107_) : PN j112_ z107_ ∧ (j112_ < 345 ∨ 493 < j112_) := by have r_v := rngI v; have r_r1_ := rngI r1_; have r_z6_ := rngI z6_; have r_z8_ := rngI z8_; have r_z12_ := rngI z12_; have r_z14_ := rngI z14_; have r_z94_ := rngI z94_; have r_z96_ := rngI z96_; have r_z98_ := rngI z98_; have r_z105_ := rngI z105_; have r_z107_ := rngI z107_; subst e9_; subst e15_; subst e99_; unfold PN; omega
theorem lf_c_X12_walkerGoes_27 (M121_ : mM) (M86_ : mM) (Mz : mM) (v : Int32) (r1_ : Int32) (z6_ : Int32) (j10_ : Nat) (z8_ : Int32) (z12_ : Int32) (j16_ : Nat) (z14_ : Int32) (z94_ : Int32) (z96_ : Int32) (j100_ : Nat) (z98_ : Int32) (z116_ : Int32) (z118_ : Int32) (j123_ : Nat) (hv : 0 ≤ v.toInt ∧ v.toInt ≤ 7) (h4_ : r1_.toInt = 180 + 9 * v.toInt) (h7_ : z6_.toInt = r1_.toInt + 5) (h11_ : (j10_ : Int) = z6_.toInt) (e9_ : z8_ = Mz.1 (50, 0, 0) j10_) (h13_ : z12_.toInt = r1_.toInt + 6) (h17_ : (j16_ : Int) = z12_.toInt) (e15_ : z14_ = Mz.1 (50, 0, 0) j16_) (h18_ : ¬ z14_.toInt = 0) (h19_ : 0 < z8_.toInt) (h95_ : z94_.toInt = r1_.toInt + 2) (h97_ : z96_.toInt = r1_.toInt + 2) (h101_ : (j100_ : Int) = z96_.toInt) (e99_ : z98_ = M86_.1 (50, 0, 0) j100_) (h102_ : 0 ≤ z98_.toInt ∧ z98_.toInt ≤ 7) (h117_ : z116_.toInt = z98_.toInt + 2) (h119_ : 0 ≤ z118_.toInt ∧ z118_.toInt < ((2 ^ 3 : Nat) : Int)) (h124_ : (j123_ : Int) = z94_.toInt) (hM122_ : M121_ = up M86_ (50, 0, 0) j123_ z118_) : PN j123_ z118_ ∧ (j123_ < 345 ∨ 493 < j123_) := by have r_v := rngI v; have r_r1_ := rngI r1_; have r_z6_ := rngI z6_; have r_z8_ := rngI z8_; have r_z12_ := rngI z12_; have r_z14_ := rngI z14_; have r_z94_ := rngI z94_; have r_z96_ := rngI z96_; have r_z98_ := rngI z98_; have r_z116_ := rngI z116_; have r_z118_ := rngI z118_; subst e9_; subst e15_; subst e99_; unfold PN; omega
theorem lf_c_X12_walkerGoes_30 (M132_ : mM) (M86_ : mM) (Mz : mM) (v : Int32) (r1_ : Int32) (z6_ : Int32) (j10_ : Nat) (z8_ : Int32) (z12_ : Int32) (j16_ : Nat) (z14_ : Int32) (z94_ : Int32) (z96_ : Int32) (j100_ : Nat) (z98_ : Int32) (z127_ : Int32) (z129_ : Int32) (j134_ : Nat) (hv : 0 ≤ v.toInt ∧ v.toInt ≤ 7) (h4_ : r1_.toInt = 180 + 9 * v.toInt) (h7_ : z6_.toInt = r1_.toInt + 5) (h11_ : (j10_ : Int) = z6_.toInt) (e9_ : z8_ = Mz.1 (50, 0, 0) j10_) (h13_ : z12_.toInt = r1_.toInt + 6) (h17_ : (j16_ : Int) = z12_.toInt) (e15_ : z14_ = Mz.1 (50, 0, 0) j16_) (h18_ : ¬ z14_.toInt = 0) (h19_ : 0 < z8_.toInt) (h95_ : z94_.toInt = r1_.toInt + 2) (h97_ : z96_.toInt = r1_.toInt + 2) (h101_ : (j100_ : Int) = z96_.toInt) (e99_ : z98_ = M86_.1 (50, 0, 0) j100_) (h102_ : 0 ≤ z98_.toInt ∧ z98_.toInt ≤ 7) (h128_ : z127_.toInt = z98_.toInt + 1) (h130_ : 0 ≤ z129_.toInt ∧ z129_.toInt < ((2 ^ 3 : Nat) : Int)) (h135_ : (j134_ : Int) = z94_.toInt) (hM133_ : M132_ = up M86_ (50, 0, 0) j134_ z129_) : PN j134_ z129_ ∧ (j134_ < 345 ∨ 493 < j134_) := by have r_v := rngI v; have r_r1_ := rngI r1_; have r_z6_ := rngI z6_; have r_z8_ := rngI z8_; have r_z12_ := rngI z12_; have r_z14_ := rngI z14_; have r_z94_ := rngI z94_; have r_z96_ := rngI z96_; have r_z98_ := rngI z98_; have r_z127_ := rngI z127_; have r_z129_ := rngI z129_; subst e9_; subst e15_; subst e99_; unfold PN; omega
theorem lf_c_X12_walkerGoes_37 (M157_ : mM) (M181_ : mM) (Mz : mM) (v : Int32) (r1_ : Int32) (z6_ : Int32) (j10_ : Nat) (z8_ : Int32) (z12_ : Int32) (j16_ : Nat) (z14_ : Int32) (z165_ : Int32) (z167_ : Int32) (j171_ : Nat) (z169_ : Int32) (z176_ : Int32) (z178_ : Int32) (j183_ : Nat) (hv : 0 ≤ v.toInt ∧ v.toInt ≤ 7) (h4_ : r1_.toInt = 180 + 9 * v.toInt) (h7_ : z6_.toInt = r1_.toInt + 5) (h11_ : (j10_ : Int) = z6_.toInt) (e9_ : z8_ = Mz.1 (50, 0, 0) j10_) (h13_ : z12_.toInt = r1_.toInt + 6) (h17_ : (j16_ : Int) = z12_.toInt) (e15_ : z14_ = Mz.1 (50, 0, 0) j16_) (h18_ : ¬ z14_.toInt = 0) (h19_ : 0 < z8_.toInt) (h166_ : z165_.toInt = r1_.toInt + 2) (h168_ : z167_.toInt = r1_.toInt + 2) (h172_ : (j171_ : Int) = z167_.toInt) (e170_ : z169_ = M157_.1 (50, 0, 0) j171_) (h173_ : 0 ≤ z169_.toInt ∧ z169_.toInt ≤ 7) (h177_ : z176_.toInt = z169_.toInt + 6) (h179_ : 0 ≤ z178_.toInt ∧ z178_.toInt < ((2 ^ 3 : Nat) : Int)) (h184_ : (j183_ : Int) = z165_.toInt) (hM182_ : M181_ = up M157_ (50, 0, 0) j183_ z178_) : PN j183_ z178_ ∧ (j183_ < 345 ∨ 493 < j183_) := by have r_v := rngI v; have r_r1_ := rngI r1_; have r_z6_ := rngI z6_; have r_z8_ := rngI z8_; have r_z12_ := rngI z12_; have r_z14_ := rngI z14_; have r_z165_ := rngI z165_; have r_z167_ := rngI z167_; have r_z169_ := rngI z169_; have r_z176_ := rngI z176_; have r_z178_ := rngI z178_; subst e9_; subst e15_; subst e170_; unfold PN; omega
theorem lf_c_X12_walkerGoes_40 (M157_ : mM) (M192_ : mM) (Mz : mM) (v : Int32) (r1_ : Int32) (z6_ : Int32) (j10_ : Nat) (z8_ : Int32) (z12_ : Int32) (j16_ : Nat) (z14_ : Int32) (z165_ : Int32) (z167_ : Int32) (j171_ : Nat) (z169_ : Int32) (z187_ : Int32) (z189_ : Int32) (j194_ : Nat) (hv : 0 ≤ v.toInt ∧ v.toInt ≤ 7) (h4_ : r1_.toInt = 180 + 9 * v.toInt) (h7_ : z6_.toInt = r1_.toInt + 5) (h11_ : (j10_ : Int) = z6_.toInt) (e9_ : z8_ = Mz.1 (50, 0, 0) j10_) (h13_ : z12_.toInt = r1_.toInt + 6) (h17_ : (j16_ : Int) = z12_.toInt) (e15_ : z14_ = Mz.1 (50, 0, 0) j16_) (h18_ : ¬ z14_.toInt = 0) (h19_ : 0 < z8_.toInt) (h166_ : z165_.toInt = r1_.toInt + 2) (h168_ : z167_.toInt = r1_.toInt + 2) (h172_ : (j171_ : Int) = z167_.toInt) (e170_ : z169_ = M157_.1 (50, 0, 0) j171_) (h173_ : 0 ≤ z169_.toInt ∧ z169_.toInt ≤ 7) (h188_ : z187_.toInt = z169_.toInt + 2) (h190_ : 0 ≤ z189_.toInt ∧ z189_.toInt < ((2 ^ 3 : Nat) : Int)) (h195_ : (j194_ : Int) = z165_.toInt) (hM193_ : M192_ = up M157_ (50, 0, 0) j194_ z189_) : PN j194_ z189_ ∧ (j194_ < 345 ∨ 493 < j194_) := by have r_v := rngI v; have r_r1_ := rngI r1_; have r_z6_ := rngI z6_; have r_z8_ := rngI z8_; have r_z12_ := rngI z12_; have r_z14_ := rngI z14_; have r_z165_ := rngI z165_; have r_z167_ := rngI z167_; have r_z169_ := rngI z169_; have r_z187_ := rngI z187_; have r_z189_ := rngI z189_; subst e9_; subst e15_; subst e170_; unfold PN; omega
theorem lf_c_X12_walkerGoes_43 (M157_ : mM) (M203_ : mM) (Mz : mM) (v : Int32) (r1_ : Int32) (z6_ : Int32) (j10_ : Nat) (z8_ : Int32) (z12_ : Int32) (j16_ : Nat) (z14_ : Int32) (z165_ : Int32) (z167_ : Int32) (j171_ : Nat) (z169_ : Int32) (z198_ : Int32) (z200_ : Int32) (j205_ : Nat) (hv : 0 ≤ v.toInt ∧ v.toInt ≤ 7) (h4_ : r1_.toInt = 180 + 9 * v.toInt) (h7_ : z6_.toInt = r1_.toInt + 5) (h11_ : (j10_ : Int) = z6_.toInt) (e9_ : z8_ = Mz.1 (50, 0, 0) j10_) (h13_ : z12_.toInt = r1_.toInt + 6) (h17_ : (j16_ : Int) = z12_.toInt) (e15_ : z14_ = Mz.1 (50, 0, 0) j16_) (h18_ : ¬ z14_.toInt = 0) (h19_ : 0 < z8_.toInt) (h166_ : z165_.toInt = r1_.toInt + 2) (h168_ : z167_.toInt = r1_.toInt + 2) (h172_ : (j171_ : Int) = z167_.toInt) (e170_ : z169_ = M157_.1 (50, 0, 0) j171_) (h173_ : 0 ≤ z169_.toInt ∧ z169_.toInt ≤ 7) (h199_ : z198_.toInt = z169_.toInt + 1) (h201_ : 0 ≤ z200_.toInt ∧ z200_.toInt < ((2 ^ 3 : Nat) : Int)) (h206_ : (j205_ : Int) = z165_.toInt) (hM204_ : M203_ = up M157_ (50, 0, 0) j205_ z200_) : PN j205_ z200_ ∧ (j205_ < 345 ∨ 493 < j205_) := by have r_v := rngI v; have r_r1_ := rngI r1_; have r_z6_ := rngI z6_; have r_z8_ := rngI z8_; have r_z12_ := rngI z12_; have r_z14_ := rngI z14_; have r_z165_ := rngI z165_; have r_z167_ := rngI z167_; have r_z169_ := rngI z169_; have r_z198_ := rngI z198_; have r_z200_ := rngI z200_; subst e9_; subst e15_; subst e170_; unfold PN; omega
set_option maxHeartbeats 4000000 in
set_option maxRecDepth 100000 in
theorem c_X12_walkerGoes (l : Launch) (G : va_G) (cy : Nat → ClassId) (ad : rf → Nat) (d : Nat) (v : Int32) (Mz : mM) (hIz : InvD Mz) (hv : 0 ≤ v.toInt ∧ v.toInt ≤ 7) : WP DD l G cy ad yX12_walkerGoes cX12_walkerGoes 5 none (d + 6) 0 [(0, vR (12, 0, 0)), (1, vI v)] [] Mz (fun r M' => InvD M' ∧ FR (S_c_X12_walkerGoes) Mz M' ∧ (True) ∧ SP_X12_walkerGoes v Mz M') := by
  have hFz : FR (S_c_X12_walkerGoes) Mz Mz := FR.self
  refine w_aload_n dX12_walkerGoes_0 rfl 0 rfl ?_
  refine w_iload_n dX12_walkerGoes_1 rfl 1 rfl ?_
  refine w_callV (as := [vI v]) (rest := []) (c_X12_goer l G cy ad (d + 5) v Mz hIz hv) kV_X12_goer pnn_17 (Nat.le_of_ble_eq_true rfl) m_1451 rfl rfl rfl ic_12 rfl rfl (by decide) (Nat.le_of_ble_eq_true rfl) dX12_walkerGoes_2 (fun r1_ M2_ q3_ => ?_)
  obtain ⟨rfl, h4_, hs5_⟩ := q3_
  refine w_istore_n (ls' := [(2, vI r1_), (0, vR (12, 0, 0)), (1, vI v)]) dX12_walkerGoes_5 rfl (by decide) rfl ?_
  refine w_aload_n dX12_walkerGoes_6 rfl 1 rfl ?_
  refine w_getR (c' := (50, 0, 0)) fl_RX12_9 rfl rfl ic_12 dX12_walkerGoes_7 rfl ?_
  refine w_iload_n dX12_walkerGoes_10 rfl 0 rfl ?_
  refine w_iconst (v := 5) dX12_walkerGoes_11 (by decide) ?_
  refine w_iaddB dX12_walkerGoes_12 (rfl : r1_.toInt = r1_.toInt) li_5 (lf_c_X12_walkerGoes_0 v r1_ hv h4_ ) (fun z6_ h7_ => ?_)
  refine w_iald rfl rfl ic_50 (rfl : z6_.toInt = z6_.toInt) (lf_c_X12_habit_7 v r1_ z6_ hv h4_ h7_ ) dX12_walkerGoes_13 (fun j10_ h11_ z8_ e9_ => ?_)
  refine w_istore_n (ls' := [(3, vI z8_), (2, vI r1_), (0, vR (12, 0, 0)), (1, vI v)]) dX12_walkerGoes_14 rfl (by decide) rfl ?_
  refine w_aload_n dX12_walkerGoes_15 rfl 2 rfl ?_
  refine w_getR (c' := (50, 0, 0)) fl_RX12_9 rfl rfl ic_12 dX12_walkerGoes_16 rfl ?_
  refine w_iload_n dX12_walkerGoes_19 rfl 1 rfl ?_
  refine w_bipush (v := 6) dX12_walkerGoes_20 (by decide) ?_
  refine w_iaddB dX12_walkerGoes_22 (rfl : r1_.toInt = r1_.toInt) li_6 (lf_c_X12_walkerGoes_2 v r1_ z6_ j10_ hv h4_ h7_ h11_ ) (fun z12_ h13_ => ?_)
  refine w_iald rfl rfl ic_50 (rfl : z12_.toInt = z12_.toInt) (lf_c_X12_walkerGoes_3 v r1_ z12_ hv h4_ h13_ ) dX12_walkerGoes_23 (fun j16_ h17_ z14_ e15_ => ?_)
  refine w_if_ne (tgt := 28) dX12_walkerGoes_24 (by decide) (rfl : z14_.toInt = z14_.toInt) (fun h18_ => ?_) (fun h18_ => ?_)
  · refine w_iload_n dX12_walkerGoes_28 rfl 0 rfl ?_
    refine w_if_le (tgt := 61) dX12_walkerGoes_29 (by decide) (rfl : z8_.toInt = z8_.toInt) (fun h19_ => ?_) (fun h19_ => ?_)
    · refine w_aload_n dX12_walkerGoes_61 rfl 2 rfl ?_
      refine w_iload_n dX12_walkerGoes_62 rfl 3 rfl ?_
      refine w_callV (as := [vI v]) (rest := []) (c_X12_habitOf l G cy ad (d + 1) v Mz hIz hv) kV_X12_habitOf pnn_17 (Nat.le_of_ble_eq_true rfl) m_1750 rfl rfl rfl ic_12 rfl rfl (by decide) (Nat.le_of_ble_eq_true rfl) dX12_walkerGoes_63 (fun r20_ M21_ q22_ => ?_)
      obtain ⟨hI24_, hF25_, h23_, hs27_⟩ := q22_
      have hF26_ := hFz.tr hF25_ (fun c k => (fun h => h.elim (fun h => (Or.inl ⟨h.1, h.2.1, h.2.2⟩)) (fun h => h.elim (fun h => (Or.inr (Or.inl ⟨h.1, h.2.1, h.2.2⟩))) (fun h => h.elim (fun h => (Or.inr (Or.inr (Or.inl ⟨h.1, h.2.1, h.2.2⟩)))) (fun h => h.elim (fun h => (Or.inr (Or.inr (Or.inr (Or.inl ⟨h.1, h.2.1, h.2.2⟩))))) (fun h => h.elim (fun h => (Or.inr (Or.inr (Or.inr (Or.inr (Or.inl ⟨h.1, h.2.1, h.2.2⟩)))))) (fun h => h.elim (fun h => (Or.inr (Or.inr (Or.inr (Or.inr (Or.inr (Or.inl ⟨h.1, h.2⟩))))))) (fun h => h.elim))))))))
      refine w_istore (ls' := [(4, vI r20_), (3, vI z8_), (2, vI r1_), (0, vR (12, 0, 0)), (1, vI v)]) dX12_walkerGoes_66 (by decide) rfl ?_
      refine w_iload dX12_walkerGoes_68 0 rfl ?_
      refine w_if_ne (tgt := 81) dX12_walkerGoes_70 (by decide) (rfl : r20_.toInt = r20_.toInt) (fun h28_ => ?_) (fun h28_ => ?_)
      · refine w_aload_n dX12_walkerGoes_81 rfl 3 rfl ?_
        refine w_getR (c' := (50, 0, 0)) fl_RX12_9 rfl rfl ic_12 dX12_walkerGoes_82 rfl ?_
        refine w_iload_n dX12_walkerGoes_85 rfl 2 rfl ?_
        refine w_iconst (v := 2) dX12_walkerGoes_86 (by decide) ?_
        refine w_iaddB dX12_walkerGoes_87 (rfl : r1_.toInt = r1_.toInt) li_2 (lf_c_X12_walkerGoes_4 v r1_ z6_ j10_ hv h4_ h7_ h11_ ) (fun z29_ h30_ => ?_)
        refine w_aload_n dX12_walkerGoes_88 rfl 3 rfl ?_
        refine w_getR (c' := (50, 0, 0)) fl_RX12_9 rfl rfl ic_12 dX12_walkerGoes_89 rfl ?_
        refine w_iload_n dX12_walkerGoes_92 rfl 2 rfl ?_
        refine w_iconst (v := 2) dX12_walkerGoes_93 (by decide) ?_
        refine w_iaddB dX12_walkerGoes_94 (rfl : r1_.toInt = r1_.toInt) li_2 (lf_c_X12_walkerGoes_4 v r1_ z6_ j10_ hv h4_ h7_ h11_ ) (fun z31_ h32_ => ?_)
        refine w_iald rfl rfl ic_50 (rfl : z31_.toInt = z31_.toInt) (lf_c_X12_echo_6 v r1_ z31_ hv h4_ h32_ ) dX12_walkerGoes_95 (fun j35_ h36_ z33_ e34_ => ?_)
        have h37_ : 0 ≤ z33_.toInt ∧ z33_.toInt ≤ 7 := pn_ws hI24_ e34_ (lf_c_X12_walkerGoes_7 M21_ Mz v r1_ z6_ j10_ z8_ z12_ j16_ z14_ z29_ z31_ j35_ z33_ hv h4_ h7_ h11_ e9_ h13_ h17_ e15_ h18_ h19_ h30_ h32_ h36_ e34_ )
        refine w_iload dX12_walkerGoes_96 0 rfl ?_
        refine w_iconst (v := 1) dX12_walkerGoes_98 (by decide) ?_
        refine w_icmp_ne (tgt := 106) dX12_walkerGoes_99 (by decide) (rfl : r20_.toInt = r20_.toInt) li_1 (fun h38_ => ?_) (fun h38_ => ?_)
        · refine w_iload dX12_walkerGoes_106 0 rfl ?_
          refine w_iconst (v := 2) dX12_walkerGoes_108 (by decide) ?_
          refine w_icmp_ne (tgt := 116) dX12_walkerGoes_109 (by decide) (rfl : r20_.toInt = r20_.toInt) li_2 (fun h39_ => ?_) (fun h39_ => ?_)
          · refine w_bipush (v := 6) dX12_walkerGoes_116 (by decide) ?_
            refine w_iaddB dX12_walkerGoes_118 (rfl : z33_.toInt = z33_.toInt) li_6 (lf_c_X12_habitOf_3 z33_ h37_ ) (fun z40_ h41_ => ?_)
            refine w_bipush (v := 7) dX12_walkerGoes_119 (by decide) ?_
            refine w_iand dX12_walkerGoes_121 (fun z42_ h44_ => ?_)
            have h43_ : 0 ≤ z42_.toInt ∧ z42_.toInt < ((2 ^ 3 : Nat) : Int) := by rw [h44_]; exact andI _ 3 (by decide) (by decide)
            refine w_iast DD_nd rfl rfl ic_50 (rfl : z29_.toInt = z29_.toInt) (lf_c_X12_echo_6 v r1_ z29_ hv h4_ h30_ ) dX12_walkerGoes_122 (fun j47_ h48_ M45_ hM46_ => ?_)
            have hI49_ := hI24_.put50 hM46_ (lf_c_X12_walkerGoes_10 M21_ M45_ Mz v r1_ z6_ j10_ z8_ z12_ j16_ z14_ z29_ z31_ j35_ z33_ z40_ z42_ j47_ hv h4_ h7_ h11_ e9_ h13_ h17_ e15_ h18_ h19_ h30_ h32_ h36_ e34_ h37_ h41_ h43_ h48_ hM46_ )
            have hF50_ := hF26_.put hM46_ (Or.inr (Or.inr (Or.inr (Or.inr (Or.inr (Or.inr (Or.inl ⟨rfl, rfl⟩)))))))
            exact w_vret rfl dX12_walkerGoes_123 ⟨hI49_, hF50_, trivial, ⟨r1_, hs5_, h4_, z6_, h7_, j10_, h11_, z8_, e9_, z12_, h13_, j16_, h17_, z14_, e15_, (Or.inl ⟨h18_, (Or.inl ⟨h19_, M21_, hI24_, hF25_, r20_, hs27_, (Or.inl ⟨h28_, z29_, h30_, z31_, h32_, j35_, h36_, z33_, e34_, h37_, (Or.inl ⟨h38_, (Or.inl ⟨h39_, z40_, h41_, z42_, h44_, h43_, j47_, h48_, M45_, hM46_, rfl⟩)⟩)⟩)⟩)⟩)⟩⟩
          · refine w_iconst (v := 2) dX12_walkerGoes_112 (by decide) ?_
            refine w_goto (tgt := 118) dX12_walkerGoes_113 (by decide) ?_
            refine w_iaddB dX12_walkerGoes_118 (rfl : z33_.toInt = z33_.toInt) li_2 (lf_c_X12_habitOf_4 z33_ h37_ ) (fun z51_ h52_ => ?_)
            refine w_bipush (v := 7) dX12_walkerGoes_119 (by decide) ?_
            refine w_iand dX12_walkerGoes_121 (fun z53_ h55_ => ?_)
            have h54_ : 0 ≤ z53_.toInt ∧ z53_.toInt < ((2 ^ 3 : Nat) : Int) := by rw [h55_]; exact andI _ 3 (by decide) (by decide)
            refine w_iast DD_nd rfl rfl ic_50 (rfl : z29_.toInt = z29_.toInt) (lf_c_X12_echo_6 v r1_ z29_ hv h4_ h30_ ) dX12_walkerGoes_122 (fun j58_ h59_ M56_ hM57_ => ?_)
            have hI60_ := hI24_.put50 hM57_ (lf_c_X12_walkerGoes_13 M21_ M56_ Mz v r1_ z6_ j10_ z8_ z12_ j16_ z14_ z29_ z31_ j35_ z33_ z51_ z53_ j58_ hv h4_ h7_ h11_ e9_ h13_ h17_ e15_ h18_ h19_ h30_ h32_ h36_ e34_ h37_ h52_ h54_ h59_ hM57_ )
            have hF61_ := hF26_.put hM57_ (Or.inr (Or.inr (Or.inr (Or.inr (Or.inr (Or.inr (Or.inl ⟨rfl, rfl⟩)))))))
            exact w_vret rfl dX12_walkerGoes_123 ⟨hI60_, hF61_, trivial, ⟨r1_, hs5_, h4_, z6_, h7_, j10_, h11_, z8_, e9_, z12_, h13_, j16_, h17_, z14_, e15_, (Or.inl ⟨h18_, (Or.inl ⟨h19_, M21_, hI24_, hF25_, r20_, hs27_, (Or.inl ⟨h28_, z29_, h30_, z31_, h32_, j35_, h36_, z33_, e34_, h37_, (Or.inl ⟨h38_, (Or.inr ⟨h39_, z51_, h52_, z53_, h55_, h54_, j58_, h59_, M56_, hM57_, rfl⟩)⟩)⟩)⟩)⟩)⟩⟩
        · refine w_iconst (v := 1) dX12_walkerGoes_102 (by decide) ?_
          refine w_goto (tgt := 118) dX12_walkerGoes_103 (by decide) ?_
          refine w_iaddB dX12_walkerGoes_118 (rfl : z33_.toInt = z33_.toInt) li_1 (lf_c_X12_walkerGoes_14 z33_ h37_ ) (fun z62_ h63_ => ?_)
          refine w_bipush (v := 7) dX12_walkerGoes_119 (by decide) ?_
          refine w_iand dX12_walkerGoes_121 (fun z64_ h66_ => ?_)
          have h65_ : 0 ≤ z64_.toInt ∧ z64_.toInt < ((2 ^ 3 : Nat) : Int) := by rw [h66_]; exact andI _ 3 (by decide) (by decide)
          refine w_iast DD_nd rfl rfl ic_50 (rfl : z29_.toInt = z29_.toInt) (lf_c_X12_echo_6 v r1_ z29_ hv h4_ h30_ ) dX12_walkerGoes_122 (fun j69_ h70_ M67_ hM68_ => ?_)
          have hI71_ := hI24_.put50 hM68_ (lf_c_X12_walkerGoes_16 M21_ M67_ Mz v r1_ z6_ j10_ z8_ z12_ j16_ z14_ z29_ z31_ j35_ z33_ z62_ z64_ j69_ hv h4_ h7_ h11_ e9_ h13_ h17_ e15_ h18_ h19_ h30_ h32_ h36_ e34_ h37_ h63_ h65_ h70_ hM68_ )
          have hF72_ := hF26_.put hM68_ (Or.inr (Or.inr (Or.inr (Or.inr (Or.inr (Or.inr (Or.inl ⟨rfl, rfl⟩)))))))
          exact w_vret rfl dX12_walkerGoes_123 ⟨hI71_, hF72_, trivial, ⟨r1_, hs5_, h4_, z6_, h7_, j10_, h11_, z8_, e9_, z12_, h13_, j16_, h17_, z14_, e15_, (Or.inl ⟨h18_, (Or.inl ⟨h19_, M21_, hI24_, hF25_, r20_, hs27_, (Or.inl ⟨h28_, z29_, h30_, z31_, h32_, j35_, h36_, z33_, e34_, h37_, (Or.inr ⟨h38_, z62_, h63_, z64_, h66_, h65_, j69_, h70_, M67_, hM68_, rfl⟩)⟩)⟩)⟩)⟩⟩
      · refine w_aload_n dX12_walkerGoes_73 rfl 3 rfl ?_
        refine w_iload_n dX12_walkerGoes_74 rfl 4 rfl ?_
        refine w_callVv (as := [vI v]) (rest := []) (c_X12_goesOn l G cy ad (d + 2) v M21_ hI24_ hv) kV_X12_goesOn pnn_17 (Nat.le_of_ble_eq_true rfl) m_1758 rfl rfl rfl ic_12 rfl rfl (by decide) (Nat.le_of_ble_eq_true rfl) dX12_walkerGoes_75 (fun M73_ q74_ => ?_)
        obtain ⟨hI76_, hF77_, h75_, hs79_⟩ := q74_
        have hF78_ := hF26_.tr hF77_ (fun c k => (fun h => h.elim (fun h => (Or.inr (Or.inr (Or.inr (Or.inr (Or.inr (Or.inr (Or.inl ⟨h.1, h.2⟩)))))))) (fun h => h.elim)))
        refine w_goto (tgt := 123) dX12_walkerGoes_78 (by decide) ?_
        exact w_vret rfl dX12_walkerGoes_123 ⟨hI76_, hF78_, trivial, ⟨r1_, hs5_, h4_, z6_, h7_, j10_, h11_, z8_, e9_, z12_, h13_, j16_, h17_, z14_, e15_, (Or.inl ⟨h18_, (Or.inl ⟨h19_, M21_, hI24_, hF25_, r20_, hs27_, (Or.inr ⟨h28_, M73_, hI76_, hF77_, hs79_, rfl⟩)⟩)⟩)⟩⟩
    · refine w_aload_n dX12_walkerGoes_32 rfl 2 rfl ?_
      refine w_getR (c' := (50, 0, 0)) fl_RX12_9 rfl rfl ic_12 dX12_walkerGoes_33 rfl ?_
      refine w_iconst (v := 0) dX12_walkerGoes_36 (by decide) ?_
      refine w_ialdL 0 rfl rfl ic_50 li_0 (by decide) dX12_walkerGoes_37 (fun z80_ e81_ => ?_)
      refine w_iload_n dX12_walkerGoes_38 rfl 0 rfl ?_
      refine w_irem dX12_walkerGoes_39 (lf_c_X12_walkerGoes_17 Mz v r1_ z6_ j10_ z8_ z12_ j16_ z14_ hv h4_ h7_ h11_ e9_ h13_ h17_ e15_ h18_ h19_ ) (fun z82_ h83_ => ?_)
      refine w_if_ne (tgt := 61) dX12_walkerGoes_40 (by decide) (rfl : z82_.toInt = z82_.toInt) (fun h84_ => ?_) (fun h84_ => ?_)
      · refine w_aload_n dX12_walkerGoes_61 rfl 2 rfl ?_
        refine w_iload_n dX12_walkerGoes_62 rfl 3 rfl ?_
        refine w_callV (as := [vI v]) (rest := []) (c_X12_habitOf l G cy ad (d + 1) v Mz hIz hv) kV_X12_habitOf pnn_17 (Nat.le_of_ble_eq_true rfl) m_1750 rfl rfl rfl ic_12 rfl rfl (by decide) (Nat.le_of_ble_eq_true rfl) dX12_walkerGoes_63 (fun r85_ M86_ q87_ => ?_)
        obtain ⟨hI89_, hF90_, h88_, hs92_⟩ := q87_
        have hF91_ := hFz.tr hF90_ (fun c k => (fun h => h.elim (fun h => (Or.inl ⟨h.1, h.2.1, h.2.2⟩)) (fun h => h.elim (fun h => (Or.inr (Or.inl ⟨h.1, h.2.1, h.2.2⟩))) (fun h => h.elim (fun h => (Or.inr (Or.inr (Or.inl ⟨h.1, h.2.1, h.2.2⟩)))) (fun h => h.elim (fun h => (Or.inr (Or.inr (Or.inr (Or.inl ⟨h.1, h.2.1, h.2.2⟩))))) (fun h => h.elim (fun h => (Or.inr (Or.inr (Or.inr (Or.inr (Or.inl ⟨h.1, h.2.1, h.2.2⟩)))))) (fun h => h.elim (fun h => (Or.inr (Or.inr (Or.inr (Or.inr (Or.inr (Or.inl ⟨h.1, h.2⟩))))))) (fun h => h.elim))))))))
        refine w_istore (ls' := [(4, vI r85_), (3, vI z8_), (2, vI r1_), (0, vR (12, 0, 0)), (1, vI v)]) dX12_walkerGoes_66 (by decide) rfl ?_
        refine w_iload dX12_walkerGoes_68 0 rfl ?_
        refine w_if_ne (tgt := 81) dX12_walkerGoes_70 (by decide) (rfl : r85_.toInt = r85_.toInt) (fun h93_ => ?_) (fun h93_ => ?_)
        · refine w_aload_n dX12_walkerGoes_81 rfl 3 rfl ?_
          refine w_getR (c' := (50, 0, 0)) fl_RX12_9 rfl rfl ic_12 dX12_walkerGoes_82 rfl ?_
          refine w_iload_n dX12_walkerGoes_85 rfl 2 rfl ?_
          refine w_iconst (v := 2) dX12_walkerGoes_86 (by decide) ?_
          refine w_iaddB dX12_walkerGoes_87 (rfl : r1_.toInt = r1_.toInt) li_2 (lf_c_X12_walkerGoes_4 v r1_ z6_ j10_ hv h4_ h7_ h11_ ) (fun z94_ h95_ => ?_)
          refine w_aload_n dX12_walkerGoes_88 rfl 3 rfl ?_
          refine w_getR (c' := (50, 0, 0)) fl_RX12_9 rfl rfl ic_12 dX12_walkerGoes_89 rfl ?_
          refine w_iload_n dX12_walkerGoes_92 rfl 2 rfl ?_
          refine w_iconst (v := 2) dX12_walkerGoes_93 (by decide) ?_
          refine w_iaddB dX12_walkerGoes_94 (rfl : r1_.toInt = r1_.toInt) li_2 (lf_c_X12_walkerGoes_4 v r1_ z6_ j10_ hv h4_ h7_ h11_ ) (fun z96_ h97_ => ?_)
          refine w_iald rfl rfl ic_50 (rfl : z96_.toInt = z96_.toInt) (lf_c_X12_echo_6 v r1_ z96_ hv h4_ h97_ ) dX12_walkerGoes_95 (fun j100_ h101_ z98_ e99_ => ?_)
          have h102_ : 0 ≤ z98_.toInt ∧ z98_.toInt ≤ 7 := pn_ws hI89_ e99_ (lf_c_X12_walkerGoes_21 M86_ Mz v r1_ z6_ j10_ z8_ z12_ j16_ z14_ z94_ z96_ j100_ z98_ hv h4_ h7_ h11_ e9_ h13_ h17_ e15_ h18_ h19_ h95_ h97_ h101_ e99_ )
          refine w_iload dX12_walkerGoes_96 0 rfl ?_
          refine w_iconst (v := 1) dX12_walkerGoes_98 (by decide) ?_
          refine w_icmp_ne (tgt := 106) dX12_walkerGoes_99 (by decide) (rfl : r85_.toInt = r85_.toInt) li_1 (fun h103_ => ?_) (fun h103_ => ?_)
          · refine w_iload dX12_walkerGoes_106 0 rfl ?_
            refine w_iconst (v := 2) dX12_walkerGoes_108 (by decide) ?_
            refine w_icmp_ne (tgt := 116) dX12_walkerGoes_109 (by decide) (rfl : r85_.toInt = r85_.toInt) li_2 (fun h104_ => ?_) (fun h104_ => ?_)
            · refine w_bipush (v := 6) dX12_walkerGoes_116 (by decide) ?_
              refine w_iaddB dX12_walkerGoes_118 (rfl : z98_.toInt = z98_.toInt) li_6 (lf_c_X12_habitOf_3 z98_ h102_ ) (fun z105_ h106_ => ?_)
              refine w_bipush (v := 7) dX12_walkerGoes_119 (by decide) ?_
              refine w_iand dX12_walkerGoes_121 (fun z107_ h109_ => ?_)
              have h108_ : 0 ≤ z107_.toInt ∧ z107_.toInt < ((2 ^ 3 : Nat) : Int) := by rw [h109_]; exact andI _ 3 (by decide) (by decide)
              refine w_iast DD_nd rfl rfl ic_50 (rfl : z94_.toInt = z94_.toInt) (lf_c_X12_echo_6 v r1_ z94_ hv h4_ h95_ ) dX12_walkerGoes_122 (fun j112_ h113_ M110_ hM111_ => ?_)
              have hI114_ := hI89_.put50 hM111_ (lf_c_X12_walkerGoes_24 M110_ M86_ Mz v r1_ z6_ j10_ z8_ z12_ j16_ z14_ z94_ z96_ j100_ z98_ z105_ z107_ j112_ hv h4_ h7_ h11_ e9_ h13_ h17_ e15_ h18_ h19_ h95_ h97_ h101_ e99_ h102_ h106_ h108_ h113_ hM111_ )
              have hF115_ := hF91_.put hM111_ (Or.inr (Or.inr (Or.inr (Or.inr (Or.inr (Or.inr (Or.inl ⟨rfl, rfl⟩)))))))
              exact w_vret rfl dX12_walkerGoes_123 ⟨hI114_, hF115_, trivial, ⟨r1_, hs5_, h4_, z6_, h7_, j10_, h11_, z8_, e9_, z12_, h13_, j16_, h17_, z14_, e15_, (Or.inl ⟨h18_, (Or.inr ⟨h19_, z80_, e81_, z82_, h83_, (Or.inl ⟨h84_, M86_, hI89_, hF90_, r85_, hs92_, (Or.inl ⟨h93_, z94_, h95_, z96_, h97_, j100_, h101_, z98_, e99_, h102_, (Or.inl ⟨h103_, (Or.inl ⟨h104_, z105_, h106_, z107_, h109_, h108_, j112_, h113_, M110_, hM111_, rfl⟩)⟩)⟩)⟩)⟩)⟩)⟩⟩
            · refine w_iconst (v := 2) dX12_walkerGoes_112 (by decide) ?_
              refine w_goto (tgt := 118) dX12_walkerGoes_113 (by decide) ?_
              refine w_iaddB dX12_walkerGoes_118 (rfl : z98_.toInt = z98_.toInt) li_2 (lf_c_X12_habitOf_4 z98_ h102_ ) (fun z116_ h117_ => ?_)
              refine w_bipush (v := 7) dX12_walkerGoes_119 (by decide) ?_
              refine w_iand dX12_walkerGoes_121 (fun z118_ h120_ => ?_)
              have h119_ : 0 ≤ z118_.toInt ∧ z118_.toInt < ((2 ^ 3 : Nat) : Int) := by rw [h120_]; exact andI _ 3 (by decide) (by decide)
              refine w_iast DD_nd rfl rfl ic_50 (rfl : z94_.toInt = z94_.toInt) (lf_c_X12_echo_6 v r1_ z94_ hv h4_ h95_ ) dX12_walkerGoes_122 (fun j123_ h124_ M121_ hM122_ => ?_)
              have hI125_ := hI89_.put50 hM122_ (lf_c_X12_walkerGoes_27 M121_ M86_ Mz v r1_ z6_ j10_ z8_ z12_ j16_ z14_ z94_ z96_ j100_ z98_ z116_ z118_ j123_ hv h4_ h7_ h11_ e9_ h13_ h17_ e15_ h18_ h19_ h95_ h97_ h101_ e99_ h102_ h117_ h119_ h124_ hM122_ )
              have hF126_ := hF91_.put hM122_ (Or.inr (Or.inr (Or.inr (Or.inr (Or.inr (Or.inr (Or.inl ⟨rfl, rfl⟩)))))))
              exact w_vret rfl dX12_walkerGoes_123 ⟨hI125_, hF126_, trivial, ⟨r1_, hs5_, h4_, z6_, h7_, j10_, h11_, z8_, e9_, z12_, h13_, j16_, h17_, z14_, e15_, (Or.inl ⟨h18_, (Or.inr ⟨h19_, z80_, e81_, z82_, h83_, (Or.inl ⟨h84_, M86_, hI89_, hF90_, r85_, hs92_, (Or.inl ⟨h93_, z94_, h95_, z96_, h97_, j100_, h101_, z98_, e99_, h102_, (Or.inl ⟨h103_, (Or.inr ⟨h104_, z116_, h117_, z118_, h120_, h119_, j123_, h124_, M121_, hM122_, rfl⟩)⟩)⟩)⟩)⟩)⟩)⟩⟩
          · refine w_iconst (v := 1) dX12_walkerGoes_102 (by decide) ?_
            refine w_goto (tgt := 118) dX12_walkerGoes_103 (by decide) ?_
            refine w_iaddB dX12_walkerGoes_118 (rfl : z98_.toInt = z98_.toInt) li_1 (lf_c_X12_walkerGoes_14 z98_ h102_ ) (fun z127_ h128_ => ?_)
            refine w_bipush (v := 7) dX12_walkerGoes_119 (by decide) ?_
            refine w_iand dX12_walkerGoes_121 (fun z129_ h131_ => ?_)
            have h130_ : 0 ≤ z129_.toInt ∧ z129_.toInt < ((2 ^ 3 : Nat) : Int) := by rw [h131_]; exact andI _ 3 (by decide) (by decide)
            refine w_iast DD_nd rfl rfl ic_50 (rfl : z94_.toInt = z94_.toInt) (lf_c_X12_echo_6 v r1_ z94_ hv h4_ h95_ ) dX12_walkerGoes_122 (fun j134_ h135_ M132_ hM133_ => ?_)
            have hI136_ := hI89_.put50 hM133_ (lf_c_X12_walkerGoes_30 M132_ M86_ Mz v r1_ z6_ j10_ z8_ z12_ j16_ z14_ z94_ z96_ j100_ z98_ z127_ z129_ j134_ hv h4_ h7_ h11_ e9_ h13_ h17_ e15_ h18_ h19_ h95_ h97_ h101_ e99_ h102_ h128_ h130_ h135_ hM133_ )
            have hF137_ := hF91_.put hM133_ (Or.inr (Or.inr (Or.inr (Or.inr (Or.inr (Or.inr (Or.inl ⟨rfl, rfl⟩)))))))
            exact w_vret rfl dX12_walkerGoes_123 ⟨hI136_, hF137_, trivial, ⟨r1_, hs5_, h4_, z6_, h7_, j10_, h11_, z8_, e9_, z12_, h13_, j16_, h17_, z14_, e15_, (Or.inl ⟨h18_, (Or.inr ⟨h19_, z80_, e81_, z82_, h83_, (Or.inl ⟨h84_, M86_, hI89_, hF90_, r85_, hs92_, (Or.inl ⟨h93_, z94_, h95_, z96_, h97_, j100_, h101_, z98_, e99_, h102_, (Or.inr ⟨h103_, z127_, h128_, z129_, h131_, h130_, j134_, h135_, M132_, hM133_, rfl⟩)⟩)⟩)⟩)⟩)⟩⟩
        · refine w_aload_n dX12_walkerGoes_73 rfl 3 rfl ?_
          refine w_iload_n dX12_walkerGoes_74 rfl 4 rfl ?_
          refine w_callVv (as := [vI v]) (rest := []) (c_X12_goesOn l G cy ad (d + 2) v M86_ hI89_ hv) kV_X12_goesOn pnn_17 (Nat.le_of_ble_eq_true rfl) m_1758 rfl rfl rfl ic_12 rfl rfl (by decide) (Nat.le_of_ble_eq_true rfl) dX12_walkerGoes_75 (fun M138_ q139_ => ?_)
          obtain ⟨hI141_, hF142_, h140_, hs144_⟩ := q139_
          have hF143_ := hF91_.tr hF142_ (fun c k => (fun h => h.elim (fun h => (Or.inr (Or.inr (Or.inr (Or.inr (Or.inr (Or.inr (Or.inl ⟨h.1, h.2⟩)))))))) (fun h => h.elim)))
          refine w_goto (tgt := 123) dX12_walkerGoes_78 (by decide) ?_
          exact w_vret rfl dX12_walkerGoes_123 ⟨hI141_, hF143_, trivial, ⟨r1_, hs5_, h4_, z6_, h7_, j10_, h11_, z8_, e9_, z12_, h13_, j16_, h17_, z14_, e15_, (Or.inl ⟨h18_, (Or.inr ⟨h19_, z80_, e81_, z82_, h83_, (Or.inl ⟨h84_, M86_, hI89_, hF90_, r85_, hs92_, (Or.inr ⟨h93_, M138_, hI141_, hF142_, hs144_, rfl⟩)⟩)⟩)⟩)⟩⟩
      · refine w_aload_n dX12_walkerGoes_43 rfl 2 rfl ?_
        refine w_iload_n dX12_walkerGoes_44 rfl 3 rfl ?_
        refine w_callV (as := [vI v]) (rest := []) (c_X12_kindOf l G cy ad (d + 4) v Mz hIz hv) kV_X12_kindOf pnn_17 (Nat.le_of_ble_eq_true rfl) m_1517 rfl rfl rfl ic_12 rfl rfl (by decide) (Nat.le_of_ble_eq_true rfl) dX12_walkerGoes_45 (fun r145_ M146_ q147_ => ?_)
        obtain ⟨rfl, h148_, hs149_⟩ := q147_
        refine w_iconst (v := 1) dX12_walkerGoes_48 (by decide) ?_
        refine w_callS (as := [vI r145_, vI 1]) (rest := []) (c_X12_isUnder l G cy ad (d + 4) r145_ 1 Mz hIz) kS_X12_isUnder pnn_17 (Nat.le_of_ble_eq_true rfl) m_1532 rfl rfl (by decide) (Nat.le_of_ble_eq_true rfl) dX12_walkerGoes_49 (fun r150_ M151_ q152_ => ?_)
        obtain ⟨rfl, h153_, hs154_⟩ := q152_
        refine w_if_eq (tgt := 61) dX12_walkerGoes_52 (by decide) (rfl : r150_.toInt = r150_.toInt) (fun h155_ => ?_) (fun h155_ => ?_)
        · refine w_aload_n dX12_walkerGoes_61 rfl 2 rfl ?_
          refine w_iload_n dX12_walkerGoes_62 rfl 3 rfl ?_
          refine w_callV (as := [vI v]) (rest := []) (c_X12_habitOf l G cy ad (d + 1) v Mz hIz hv) kV_X12_habitOf pnn_17 (Nat.le_of_ble_eq_true rfl) m_1750 rfl rfl rfl ic_12 rfl rfl (by decide) (Nat.le_of_ble_eq_true rfl) dX12_walkerGoes_63 (fun r156_ M157_ q158_ => ?_)
          obtain ⟨hI160_, hF161_, h159_, hs163_⟩ := q158_
          have hF162_ := hFz.tr hF161_ (fun c k => (fun h => h.elim (fun h => (Or.inl ⟨h.1, h.2.1, h.2.2⟩)) (fun h => h.elim (fun h => (Or.inr (Or.inl ⟨h.1, h.2.1, h.2.2⟩))) (fun h => h.elim (fun h => (Or.inr (Or.inr (Or.inl ⟨h.1, h.2.1, h.2.2⟩)))) (fun h => h.elim (fun h => (Or.inr (Or.inr (Or.inr (Or.inl ⟨h.1, h.2.1, h.2.2⟩))))) (fun h => h.elim (fun h => (Or.inr (Or.inr (Or.inr (Or.inr (Or.inl ⟨h.1, h.2.1, h.2.2⟩)))))) (fun h => h.elim (fun h => (Or.inr (Or.inr (Or.inr (Or.inr (Or.inr (Or.inl ⟨h.1, h.2⟩))))))) (fun h => h.elim))))))))
          refine w_istore (ls' := [(4, vI r156_), (3, vI z8_), (2, vI r1_), (0, vR (12, 0, 0)), (1, vI v)]) dX12_walkerGoes_66 (by decide) rfl ?_
          refine w_iload dX12_walkerGoes_68 0 rfl ?_
          refine w_if_ne (tgt := 81) dX12_walkerGoes_70 (by decide) (rfl : r156_.toInt = r156_.toInt) (fun h164_ => ?_) (fun h164_ => ?_)
          · refine w_aload_n dX12_walkerGoes_81 rfl 3 rfl ?_
            refine w_getR (c' := (50, 0, 0)) fl_RX12_9 rfl rfl ic_12 dX12_walkerGoes_82 rfl ?_
            refine w_iload_n dX12_walkerGoes_85 rfl 2 rfl ?_
            refine w_iconst (v := 2) dX12_walkerGoes_86 (by decide) ?_
            refine w_iaddB dX12_walkerGoes_87 (rfl : r1_.toInt = r1_.toInt) li_2 (lf_c_X12_walkerGoes_4 v r1_ z6_ j10_ hv h4_ h7_ h11_ ) (fun z165_ h166_ => ?_)
            refine w_aload_n dX12_walkerGoes_88 rfl 3 rfl ?_
            refine w_getR (c' := (50, 0, 0)) fl_RX12_9 rfl rfl ic_12 dX12_walkerGoes_89 rfl ?_
            refine w_iload_n dX12_walkerGoes_92 rfl 2 rfl ?_
            refine w_iconst (v := 2) dX12_walkerGoes_93 (by decide) ?_
            refine w_iaddB dX12_walkerGoes_94 (rfl : r1_.toInt = r1_.toInt) li_2 (lf_c_X12_walkerGoes_4 v r1_ z6_ j10_ hv h4_ h7_ h11_ ) (fun z167_ h168_ => ?_)
            refine w_iald rfl rfl ic_50 (rfl : z167_.toInt = z167_.toInt) (lf_c_X12_echo_6 v r1_ z167_ hv h4_ h168_ ) dX12_walkerGoes_95 (fun j171_ h172_ z169_ e170_ => ?_)
            have h173_ : 0 ≤ z169_.toInt ∧ z169_.toInt ≤ 7 := pn_ws hI160_ e170_ (lf_c_X12_walkerGoes_21 M157_ Mz v r1_ z6_ j10_ z8_ z12_ j16_ z14_ z165_ z167_ j171_ z169_ hv h4_ h7_ h11_ e9_ h13_ h17_ e15_ h18_ h19_ h166_ h168_ h172_ e170_ )
            refine w_iload dX12_walkerGoes_96 0 rfl ?_
            refine w_iconst (v := 1) dX12_walkerGoes_98 (by decide) ?_
            refine w_icmp_ne (tgt := 106) dX12_walkerGoes_99 (by decide) (rfl : r156_.toInt = r156_.toInt) li_1 (fun h174_ => ?_) (fun h174_ => ?_)
            · refine w_iload dX12_walkerGoes_106 0 rfl ?_
              refine w_iconst (v := 2) dX12_walkerGoes_108 (by decide) ?_
              refine w_icmp_ne (tgt := 116) dX12_walkerGoes_109 (by decide) (rfl : r156_.toInt = r156_.toInt) li_2 (fun h175_ => ?_) (fun h175_ => ?_)
              · refine w_bipush (v := 6) dX12_walkerGoes_116 (by decide) ?_
                refine w_iaddB dX12_walkerGoes_118 (rfl : z169_.toInt = z169_.toInt) li_6 (lf_c_X12_habitOf_3 z169_ h173_ ) (fun z176_ h177_ => ?_)
                refine w_bipush (v := 7) dX12_walkerGoes_119 (by decide) ?_
                refine w_iand dX12_walkerGoes_121 (fun z178_ h180_ => ?_)
                have h179_ : 0 ≤ z178_.toInt ∧ z178_.toInt < ((2 ^ 3 : Nat) : Int) := by rw [h180_]; exact andI _ 3 (by decide) (by decide)
                refine w_iast DD_nd rfl rfl ic_50 (rfl : z165_.toInt = z165_.toInt) (lf_c_X12_echo_6 v r1_ z165_ hv h4_ h166_ ) dX12_walkerGoes_122 (fun j183_ h184_ M181_ hM182_ => ?_)
                have hI185_ := hI160_.put50 hM182_ (lf_c_X12_walkerGoes_37 M157_ M181_ Mz v r1_ z6_ j10_ z8_ z12_ j16_ z14_ z165_ z167_ j171_ z169_ z176_ z178_ j183_ hv h4_ h7_ h11_ e9_ h13_ h17_ e15_ h18_ h19_ h166_ h168_ h172_ e170_ h173_ h177_ h179_ h184_ hM182_ )
                have hF186_ := hF162_.put hM182_ (Or.inr (Or.inr (Or.inr (Or.inr (Or.inr (Or.inr (Or.inl ⟨rfl, rfl⟩)))))))
                exact w_vret rfl dX12_walkerGoes_123 ⟨hI185_, hF186_, trivial, ⟨r1_, hs5_, h4_, z6_, h7_, j10_, h11_, z8_, e9_, z12_, h13_, j16_, h17_, z14_, e15_, (Or.inl ⟨h18_, (Or.inr ⟨h19_, z80_, e81_, z82_, h83_, (Or.inr ⟨h84_, r145_, hs149_, h148_, r150_, hs154_, h153_, (Or.inl ⟨h155_, M157_, hI160_, hF161_, r156_, hs163_, (Or.inl ⟨h164_, z165_, h166_, z167_, h168_, j171_, h172_, z169_, e170_, h173_, (Or.inl ⟨h174_, (Or.inl ⟨h175_, z176_, h177_, z178_, h180_, h179_, j183_, h184_, M181_, hM182_, rfl⟩)⟩)⟩)⟩)⟩)⟩)⟩)⟩⟩
              · refine w_iconst (v := 2) dX12_walkerGoes_112 (by decide) ?_
                refine w_goto (tgt := 118) dX12_walkerGoes_113 (by decide) ?_
                refine w_iaddB dX12_walkerGoes_118 (rfl : z169_.toInt = z169_.toInt) li_2 (lf_c_X12_habitOf_4 z169_ h173_ ) (fun z187_ h188_ => ?_)
                refine w_bipush (v := 7) dX12_walkerGoes_119 (by decide) ?_
                refine w_iand dX12_walkerGoes_121 (fun z189_ h191_ => ?_)
                have h190_ : 0 ≤ z189_.toInt ∧ z189_.toInt < ((2 ^ 3 : Nat) : Int) := by rw [h191_]; exact andI _ 3 (by decide) (by decide)
                refine w_iast DD_nd rfl rfl ic_50 (rfl : z165_.toInt = z165_.toInt) (lf_c_X12_echo_6 v r1_ z165_ hv h4_ h166_ ) dX12_walkerGoes_122 (fun j194_ h195_ M192_ hM193_ => ?_)
                have hI196_ := hI160_.put50 hM193_ (lf_c_X12_walkerGoes_40 M157_ M192_ Mz v r1_ z6_ j10_ z8_ z12_ j16_ z14_ z165_ z167_ j171_ z169_ z187_ z189_ j194_ hv h4_ h7_ h11_ e9_ h13_ h17_ e15_ h18_ h19_ h166_ h168_ h172_ e170_ h173_ h188_ h190_ h195_ hM193_ )
                have hF197_ := hF162_.put hM193_ (Or.inr (Or.inr (Or.inr (Or.inr (Or.inr (Or.inr (Or.inl ⟨rfl, rfl⟩)))))))
                exact w_vret rfl dX12_walkerGoes_123 ⟨hI196_, hF197_, trivial, ⟨r1_, hs5_, h4_, z6_, h7_, j10_, h11_, z8_, e9_, z12_, h13_, j16_, h17_, z14_, e15_, (Or.inl ⟨h18_, (Or.inr ⟨h19_, z80_, e81_, z82_, h83_, (Or.inr ⟨h84_, r145_, hs149_, h148_, r150_, hs154_, h153_, (Or.inl ⟨h155_, M157_, hI160_, hF161_, r156_, hs163_, (Or.inl ⟨h164_, z165_, h166_, z167_, h168_, j171_, h172_, z169_, e170_, h173_, (Or.inl ⟨h174_, (Or.inr ⟨h175_, z187_, h188_, z189_, h191_, h190_, j194_, h195_, M192_, hM193_, rfl⟩)⟩)⟩)⟩)⟩)⟩)⟩)⟩⟩
            · refine w_iconst (v := 1) dX12_walkerGoes_102 (by decide) ?_
              refine w_goto (tgt := 118) dX12_walkerGoes_103 (by decide) ?_
              refine w_iaddB dX12_walkerGoes_118 (rfl : z169_.toInt = z169_.toInt) li_1 (lf_c_X12_walkerGoes_14 z169_ h173_ ) (fun z198_ h199_ => ?_)
              refine w_bipush (v := 7) dX12_walkerGoes_119 (by decide) ?_
              refine w_iand dX12_walkerGoes_121 (fun z200_ h202_ => ?_)
              have h201_ : 0 ≤ z200_.toInt ∧ z200_.toInt < ((2 ^ 3 : Nat) : Int) := by rw [h202_]; exact andI _ 3 (by decide) (by decide)
              refine w_iast DD_nd rfl rfl ic_50 (rfl : z165_.toInt = z165_.toInt) (lf_c_X12_echo_6 v r1_ z165_ hv h4_ h166_ ) dX12_walkerGoes_122 (fun j205_ h206_ M203_ hM204_ => ?_)
              have hI207_ := hI160_.put50 hM204_ (lf_c_X12_walkerGoes_43 M157_ M203_ Mz v r1_ z6_ j10_ z8_ z12_ j16_ z14_ z165_ z167_ j171_ z169_ z198_ z200_ j205_ hv h4_ h7_ h11_ e9_ h13_ h17_ e15_ h18_ h19_ h166_ h168_ h172_ e170_ h173_ h199_ h201_ h206_ hM204_ )
              have hF208_ := hF162_.put hM204_ (Or.inr (Or.inr (Or.inr (Or.inr (Or.inr (Or.inr (Or.inl ⟨rfl, rfl⟩)))))))
              exact w_vret rfl dX12_walkerGoes_123 ⟨hI207_, hF208_, trivial, ⟨r1_, hs5_, h4_, z6_, h7_, j10_, h11_, z8_, e9_, z12_, h13_, j16_, h17_, z14_, e15_, (Or.inl ⟨h18_, (Or.inr ⟨h19_, z80_, e81_, z82_, h83_, (Or.inr ⟨h84_, r145_, hs149_, h148_, r150_, hs154_, h153_, (Or.inl ⟨h155_, M157_, hI160_, hF161_, r156_, hs163_, (Or.inl ⟨h164_, z165_, h166_, z167_, h168_, j171_, h172_, z169_, e170_, h173_, (Or.inr ⟨h174_, z198_, h199_, z200_, h202_, h201_, j205_, h206_, M203_, hM204_, rfl⟩)⟩)⟩)⟩)⟩)⟩)⟩⟩
          · refine w_aload_n dX12_walkerGoes_73 rfl 3 rfl ?_
            refine w_iload_n dX12_walkerGoes_74 rfl 4 rfl ?_
            refine w_callVv (as := [vI v]) (rest := []) (c_X12_goesOn l G cy ad (d + 2) v M157_ hI160_ hv) kV_X12_goesOn pnn_17 (Nat.le_of_ble_eq_true rfl) m_1758 rfl rfl rfl ic_12 rfl rfl (by decide) (Nat.le_of_ble_eq_true rfl) dX12_walkerGoes_75 (fun M209_ q210_ => ?_)
            obtain ⟨hI212_, hF213_, h211_, hs215_⟩ := q210_
            have hF214_ := hF162_.tr hF213_ (fun c k => (fun h => h.elim (fun h => (Or.inr (Or.inr (Or.inr (Or.inr (Or.inr (Or.inr (Or.inl ⟨h.1, h.2⟩)))))))) (fun h => h.elim)))
            refine w_goto (tgt := 123) dX12_walkerGoes_78 (by decide) ?_
            exact w_vret rfl dX12_walkerGoes_123 ⟨hI212_, hF214_, trivial, ⟨r1_, hs5_, h4_, z6_, h7_, j10_, h11_, z8_, e9_, z12_, h13_, j16_, h17_, z14_, e15_, (Or.inl ⟨h18_, (Or.inr ⟨h19_, z80_, e81_, z82_, h83_, (Or.inr ⟨h84_, r145_, hs149_, h148_, r150_, hs154_, h153_, (Or.inl ⟨h155_, M157_, hI160_, hF161_, r156_, hs163_, (Or.inr ⟨h164_, M209_, hI212_, hF213_, hs215_, rfl⟩)⟩)⟩)⟩)⟩)⟩⟩
        · refine w_aload_n dX12_walkerGoes_55 rfl 2 rfl ?_
          refine w_iload_n dX12_walkerGoes_56 rfl 3 rfl ?_
          refine w_callV (as := [vI v]) (rest := []) (c_X12_clicks l G cy ad d v Mz hIz hv) kV_X12_clicks pnn_17 (Nat.le_of_ble_eq_true rfl) m_1671 rfl rfl rfl ic_12 rfl rfl (by decide) (Nat.le_of_ble_eq_true rfl) dX12_walkerGoes_57 (fun r216_ M217_ q218_ => ?_)
          obtain ⟨hI220_, hF221_, h219_, hs223_⟩ := q218_
          have hF222_ := hFz.tr hF221_ (fun c k => (fun h => h.elim (fun h => (Or.inr (Or.inr (Or.inr (Or.inr (Or.inr (Or.inr (Or.inl ⟨h.1, h.2⟩)))))))) (fun h => h.elim (fun h => (Or.inl ⟨h.1, h.2.1, h.2.2⟩)) (fun h => h.elim (fun h => (Or.inr (Or.inl ⟨h.1, h.2.1, h.2.2⟩))) (fun h => h.elim (fun h => (Or.inr (Or.inr (Or.inl ⟨h.1, h.2.1, h.2.2⟩)))) (fun h => h.elim (fun h => (Or.inr (Or.inr (Or.inr (Or.inl ⟨h.1, h.2.1, h.2.2⟩))))) (fun h => h.elim (fun h => (Or.inr (Or.inr (Or.inr (Or.inr (Or.inr (Or.inl ⟨h.1, h.2⟩))))))) (fun h => h.elim))))))))
          refine w_pop dX12_walkerGoes_60 rfl ?_
          refine w_aload_n dX12_walkerGoes_61 rfl 2 rfl ?_
          refine w_iload_n dX12_walkerGoes_62 rfl 3 rfl ?_
          refine w_callV (as := [vI v]) (rest := []) (c_X12_habitOf l G cy ad (d + 1) v M217_ hI220_ hv) kV_X12_habitOf pnn_17 (Nat.le_of_ble_eq_true rfl) m_1750 rfl rfl rfl ic_12 rfl rfl (by decide) (Nat.le_of_ble_eq_true rfl) dX12_walkerGoes_63 (fun r224_ M225_ q226_ => ?_)
          obtain ⟨hI228_, hF229_, h227_, hs231_⟩ := q226_
          have hF230_ := hF222_.tr hF229_ (fun c k => (fun h => h.elim (fun h => (Or.inl ⟨h.1, h.2.1, h.2.2⟩)) (fun h => h.elim (fun h => (Or.inr (Or.inl ⟨h.1, h.2.1, h.2.2⟩))) (fun h => h.elim (fun h => (Or.inr (Or.inr (Or.inl ⟨h.1, h.2.1, h.2.2⟩)))) (fun h => h.elim (fun h => (Or.inr (Or.inr (Or.inr (Or.inl ⟨h.1, h.2.1, h.2.2⟩))))) (fun h => h.elim (fun h => (Or.inr (Or.inr (Or.inr (Or.inr (Or.inl ⟨h.1, h.2.1, h.2.2⟩)))))) (fun h => h.elim (fun h => (Or.inr (Or.inr (Or.inr (Or.inr (Or.inr (Or.inl ⟨h.1, h.2⟩))))))) (fun h => h.elim))))))))
          refine w_istore (ls' := [(4, vI r224_), (3, vI z8_), (2, vI r1_), (0, vR (12, 0, 0)), (1, vI v)]) dX12_walkerGoes_66 (by decide) rfl ?_
          refine w_iload dX12_walkerGoes_68 0 rfl ?_
          refine w_if_ne (tgt := 81) dX12_walkerGoes_70 (by decide) (rfl : r224_.toInt = r224_.toInt) (fun h232_ => ?_) (fun h232_ => ?_)
          · refine w_aload_n dX12_walkerGoes_81 rfl 3 rfl ?_
            refine w_getR (c' := (50, 0, 0)) fl_RX12_9 rfl rfl ic_12 dX12_walkerGoes_82 rfl ?_
            refine w_iload_n dX12_walkerGoes_85 rfl 2 rfl ?_
            refine w_iconst (v := 2) dX12_walkerGoes_86 (by decide) ?_
            refine w_iaddB dX12_walkerGoes_87 (rfl : r1_.toInt = r1_.toInt) li_2 (lf_c_X12_walkerGoes_4 v r1_ z6_ j10_ hv h4_ h7_ h11_ ) (fun z233_ h234_ => ?_)
            refine w_aload_n dX12_walkerGoes_88 rfl 3 rfl ?_
            refine w_getR (c' := (50, 0, 0)) fl_RX12_9 rfl rfl ic_12 dX12_walkerGoes_89 rfl ?_
            refine w_iload_n dX12_walkerGoes_92 rfl 2 rfl ?_
            refine w_iconst (v := 2) dX12_walkerGoes_93 (by decide) ?_
            refine w_iaddB dX12_walkerGoes_94 (rfl : r1_.toInt = r1_.toInt) li_2 (lf_c_X12_walkerGoes_4 v r1_ z6_ j10_ hv h4_ h7_ h11_ ) (fun z235_ h236_ => ?_)
            refine w_iald rfl rfl ic_50 (rfl : z235_.toInt = z235_.toInt) (lf_c_X12_echo_6 v r1_ z235_ hv h4_ h236_ ) dX12_walkerGoes_95 (fun j239_ h240_ z237_ e238_ => ?_)
            have h241_ : 0 ≤ z237_.toInt ∧ z237_.toInt ≤ 7 := pn_ws hI228_ e238_ (lf_c_X12_walkerGoes_21 M225_ Mz v r1_ z6_ j10_ z8_ z12_ j16_ z14_ z233_ z235_ j239_ z237_ hv h4_ h7_ h11_ e9_ h13_ h17_ e15_ h18_ h19_ h234_ h236_ h240_ e238_ )
            refine w_iload dX12_walkerGoes_96 0 rfl ?_
            refine w_iconst (v := 1) dX12_walkerGoes_98 (by decide) ?_
            refine w_icmp_ne (tgt := 106) dX12_walkerGoes_99 (by decide) (rfl : r224_.toInt = r224_.toInt) li_1 (fun h242_ => ?_) (fun h242_ => ?_)
            · refine w_iload dX12_walkerGoes_106 0 rfl ?_
              refine w_iconst (v := 2) dX12_walkerGoes_108 (by decide) ?_
              refine w_icmp_ne (tgt := 116) dX12_walkerGoes_109 (by decide) (rfl : r224_.toInt = r224_.toInt) li_2 (fun h243_ => ?_) (fun h243_ => ?_)
              · refine w_bipush (v := 6) dX12_walkerGoes_116 (by decide) ?_
                refine w_iaddB dX12_walkerGoes_118 (rfl : z237_.toInt = z237_.toInt) li_6 (lf_c_X12_habitOf_3 z237_ h241_ ) (fun z244_ h245_ => ?_)
                refine w_bipush (v := 7) dX12_walkerGoes_119 (by decide) ?_
                refine w_iand dX12_walkerGoes_121 (fun z246_ h248_ => ?_)
                have h247_ : 0 ≤ z246_.toInt ∧ z246_.toInt < ((2 ^ 3 : Nat) : Int) := by rw [h248_]; exact andI _ 3 (by decide) (by decide)
                refine w_iast DD_nd rfl rfl ic_50 (rfl : z233_.toInt = z233_.toInt) (lf_c_X12_echo_6 v r1_ z233_ hv h4_ h234_ ) dX12_walkerGoes_122 (fun j251_ h252_ M249_ hM250_ => ?_)
                have hI253_ := hI228_.put50 hM250_ (lf_c_X12_walkerGoes_37 M225_ M249_ Mz v r1_ z6_ j10_ z8_ z12_ j16_ z14_ z233_ z235_ j239_ z237_ z244_ z246_ j251_ hv h4_ h7_ h11_ e9_ h13_ h17_ e15_ h18_ h19_ h234_ h236_ h240_ e238_ h241_ h245_ h247_ h252_ hM250_ )
                have hF254_ := hF230_.put hM250_ (Or.inr (Or.inr (Or.inr (Or.inr (Or.inr (Or.inr (Or.inl ⟨rfl, rfl⟩)))))))
                exact w_vret rfl dX12_walkerGoes_123 ⟨hI253_, hF254_, trivial, ⟨r1_, hs5_, h4_, z6_, h7_, j10_, h11_, z8_, e9_, z12_, h13_, j16_, h17_, z14_, e15_, (Or.inl ⟨h18_, (Or.inr ⟨h19_, z80_, e81_, z82_, h83_, (Or.inr ⟨h84_, r145_, hs149_, h148_, r150_, hs154_, h153_, (Or.inr ⟨h155_, M217_, hI220_, hF221_, r216_, hs223_, M225_, hI228_, hF229_, r224_, hs231_, (Or.inl ⟨h232_, z233_, h234_, z235_, h236_, j239_, h240_, z237_, e238_, h241_, (Or.inl ⟨h242_, (Or.inl ⟨h243_, z244_, h245_, z246_, h248_, h247_, j251_, h252_, M249_, hM250_, rfl⟩)⟩)⟩)⟩)⟩)⟩)⟩)⟩⟩
              · refine w_iconst (v := 2) dX12_walkerGoes_112 (by decide) ?_
                refine w_goto (tgt := 118) dX12_walkerGoes_113 (by decide) ?_
                refine w_iaddB dX12_walkerGoes_118 (rfl : z237_.toInt = z237_.toInt) li_2 (lf_c_X12_habitOf_4 z237_ h241_ ) (fun z255_ h256_ => ?_)
                refine w_bipush (v := 7) dX12_walkerGoes_119 (by decide) ?_
                refine w_iand dX12_walkerGoes_121 (fun z257_ h259_ => ?_)
                have h258_ : 0 ≤ z257_.toInt ∧ z257_.toInt < ((2 ^ 3 : Nat) : Int) := by rw [h259_]; exact andI _ 3 (by decide) (by decide)
                refine w_iast DD_nd rfl rfl ic_50 (rfl : z233_.toInt = z233_.toInt) (lf_c_X12_echo_6 v r1_ z233_ hv h4_ h234_ ) dX12_walkerGoes_122 (fun j262_ h263_ M260_ hM261_ => ?_)
                have hI264_ := hI228_.put50 hM261_ (lf_c_X12_walkerGoes_40 M225_ M260_ Mz v r1_ z6_ j10_ z8_ z12_ j16_ z14_ z233_ z235_ j239_ z237_ z255_ z257_ j262_ hv h4_ h7_ h11_ e9_ h13_ h17_ e15_ h18_ h19_ h234_ h236_ h240_ e238_ h241_ h256_ h258_ h263_ hM261_ )
                have hF265_ := hF230_.put hM261_ (Or.inr (Or.inr (Or.inr (Or.inr (Or.inr (Or.inr (Or.inl ⟨rfl, rfl⟩)))))))
                exact w_vret rfl dX12_walkerGoes_123 ⟨hI264_, hF265_, trivial, ⟨r1_, hs5_, h4_, z6_, h7_, j10_, h11_, z8_, e9_, z12_, h13_, j16_, h17_, z14_, e15_, (Or.inl ⟨h18_, (Or.inr ⟨h19_, z80_, e81_, z82_, h83_, (Or.inr ⟨h84_, r145_, hs149_, h148_, r150_, hs154_, h153_, (Or.inr ⟨h155_, M217_, hI220_, hF221_, r216_, hs223_, M225_, hI228_, hF229_, r224_, hs231_, (Or.inl ⟨h232_, z233_, h234_, z235_, h236_, j239_, h240_, z237_, e238_, h241_, (Or.inl ⟨h242_, (Or.inr ⟨h243_, z255_, h256_, z257_, h259_, h258_, j262_, h263_, M260_, hM261_, rfl⟩)⟩)⟩)⟩)⟩)⟩)⟩)⟩⟩
            · refine w_iconst (v := 1) dX12_walkerGoes_102 (by decide) ?_
              refine w_goto (tgt := 118) dX12_walkerGoes_103 (by decide) ?_
              refine w_iaddB dX12_walkerGoes_118 (rfl : z237_.toInt = z237_.toInt) li_1 (lf_c_X12_walkerGoes_14 z237_ h241_ ) (fun z266_ h267_ => ?_)
              refine w_bipush (v := 7) dX12_walkerGoes_119 (by decide) ?_
              refine w_iand dX12_walkerGoes_121 (fun z268_ h270_ => ?_)
              have h269_ : 0 ≤ z268_.toInt ∧ z268_.toInt < ((2 ^ 3 : Nat) : Int) := by rw [h270_]; exact andI _ 3 (by decide) (by decide)
              refine w_iast DD_nd rfl rfl ic_50 (rfl : z233_.toInt = z233_.toInt) (lf_c_X12_echo_6 v r1_ z233_ hv h4_ h234_ ) dX12_walkerGoes_122 (fun j273_ h274_ M271_ hM272_ => ?_)
              have hI275_ := hI228_.put50 hM272_ (lf_c_X12_walkerGoes_43 M225_ M271_ Mz v r1_ z6_ j10_ z8_ z12_ j16_ z14_ z233_ z235_ j239_ z237_ z266_ z268_ j273_ hv h4_ h7_ h11_ e9_ h13_ h17_ e15_ h18_ h19_ h234_ h236_ h240_ e238_ h241_ h267_ h269_ h274_ hM272_ )
              have hF276_ := hF230_.put hM272_ (Or.inr (Or.inr (Or.inr (Or.inr (Or.inr (Or.inr (Or.inl ⟨rfl, rfl⟩)))))))
              exact w_vret rfl dX12_walkerGoes_123 ⟨hI275_, hF276_, trivial, ⟨r1_, hs5_, h4_, z6_, h7_, j10_, h11_, z8_, e9_, z12_, h13_, j16_, h17_, z14_, e15_, (Or.inl ⟨h18_, (Or.inr ⟨h19_, z80_, e81_, z82_, h83_, (Or.inr ⟨h84_, r145_, hs149_, h148_, r150_, hs154_, h153_, (Or.inr ⟨h155_, M217_, hI220_, hF221_, r216_, hs223_, M225_, hI228_, hF229_, r224_, hs231_, (Or.inl ⟨h232_, z233_, h234_, z235_, h236_, j239_, h240_, z237_, e238_, h241_, (Or.inr ⟨h242_, z266_, h267_, z268_, h270_, h269_, j273_, h274_, M271_, hM272_, rfl⟩)⟩)⟩)⟩)⟩)⟩)⟩⟩
          · refine w_aload_n dX12_walkerGoes_73 rfl 3 rfl ?_
            refine w_iload_n dX12_walkerGoes_74 rfl 4 rfl ?_
            refine w_callVv (as := [vI v]) (rest := []) (c_X12_goesOn l G cy ad (d + 2) v M225_ hI228_ hv) kV_X12_goesOn pnn_17 (Nat.le_of_ble_eq_true rfl) m_1758 rfl rfl rfl ic_12 rfl rfl (by decide) (Nat.le_of_ble_eq_true rfl) dX12_walkerGoes_75 (fun M277_ q278_ => ?_)
            obtain ⟨hI280_, hF281_, h279_, hs283_⟩ := q278_
            have hF282_ := hF230_.tr hF281_ (fun c k => (fun h => h.elim (fun h => (Or.inr (Or.inr (Or.inr (Or.inr (Or.inr (Or.inr (Or.inl ⟨h.1, h.2⟩)))))))) (fun h => h.elim)))
            refine w_goto (tgt := 123) dX12_walkerGoes_78 (by decide) ?_
            exact w_vret rfl dX12_walkerGoes_123 ⟨hI280_, hF282_, trivial, ⟨r1_, hs5_, h4_, z6_, h7_, j10_, h11_, z8_, e9_, z12_, h13_, j16_, h17_, z14_, e15_, (Or.inl ⟨h18_, (Or.inr ⟨h19_, z80_, e81_, z82_, h83_, (Or.inr ⟨h84_, r145_, hs149_, h148_, r150_, hs154_, h153_, (Or.inr ⟨h155_, M217_, hI220_, hF221_, r216_, hs223_, M225_, hI228_, hF229_, r224_, hs231_, (Or.inr ⟨h232_, M277_, hI280_, hF281_, hs283_, rfl⟩)⟩)⟩)⟩)⟩)⟩⟩
  · exact w_vret rfl dX12_walkerGoes_27 ⟨hIz, hFz, trivial, ⟨r1_, hs5_, h4_, z6_, h7_, j10_, h11_, z8_, e9_, z12_, h13_, j16_, h17_, z14_, e15_, (Or.inr ⟨h18_, rfl⟩)⟩⟩
def S_c_X12_tenth : rf → Nat → Prop := fun c k => (c.1 = 50 ∧ c.2.1 = 0 ∧ k = 0) ∨ (c.1 = 58 ∧ c.2.1 = 0 ∧ k = 0) ∨ (c.1 = 58 ∧ c.2.1 = 0 ∧ k = 1) ∨ (c.1 = 58 ∧ c.2.1 = 0 ∧ k = 2) ∨ (c.1 = 58 ∧ c.2.1 = 0 ∧ k = 3) ∨ (c.1 = 58 ∧ c.2.1 = 0 ∧ k = 4) ∨ (c.1 = 59 ∧ c.2.1 = 0) ∨ (c.1 = 50 ∧ c.2.1 = 0) ∨ False
def ST_X12_tenth_35 (Mz : mM) (v1_35 : Int32) (M_35 : mM) (v1_35y : Int32) (M_35y : mM) : Prop := (0 ≤ v1_35.toInt) ∧ (InvD M_35) ∧ (FR (S_c_X12_tenth) Mz M_35) ∧ ∃ z15_ : Int32, (z15_ = M_35.1 (50, 0, 0) 2) ∧ (0 ≤ z15_.toInt ∧ z15_.toInt ≤ 8) ∧ (v1_35.toInt < z15_.toInt) ∧ ∃ M19_ : mM, (InvD M19_) ∧ (FR (S_c_X12_walkerGoes) M_35 M19_) ∧ (SP_X12_walkerGoes v1_35 M_35 M19_) ∧ ∃ z26_ : Int32, (z26_.toInt = v1_35.toInt + 1) ∧ v1_35y = z26_ ∧ M_35y = M19_
def ST_X12_tenth_12 (Mz : mM) (v1_12 : Int32) (M_12 : mM) (v1_12y : Int32) (M_12y : mM) : Prop := (0 ≤ v1_12.toInt) ∧ (InvD M_12) ∧ (FR (S_c_X12_tenth) Mz M_12) ∧ ∃ z10_ : Int32, (z10_ = M_12.1 (50, 0, 0) 1) ∧ (0 ≤ z10_.toInt ∧ z10_.toInt ≤ 40) ∧ (v1_12.toInt < z10_.toInt) ∧ ∃ M28_ : mM, (InvD M28_) ∧ (FR (S_c_X12_thingGoes) M_12 M28_) ∧ (SP_X12_thingGoes v1_12 M_12 M28_) ∧ ∃ z35_ : Int32, (z35_.toInt = v1_12.toInt + 1) ∧ v1_12y = z35_ ∧ M_12y = M28_
def SP_X12_tenth (Mz : mM) (M_ : mM) : Prop := ∃ z1_ : Int32, (z1_ = Mz.1 (50, 0, 0) 0) ∧ ∃ z3_ : Int32, (z3_ = z1_ + (1 : Int32)) ∧ ∃ M5_ : mM, (M5_ = up Mz (50, 0, 0) 0 z3_) ∧ ∃ v1_12 : Int32, (0 ≤ v1_12.toInt) ∧ ∃ M_12 : mM, (RCH (fun x_ y_ => ST_X12_tenth_12 Mz x_.1 x_.2 y_.1 y_.2) ((0 : Int32), M5_) (v1_12, M_12)) ∧ (InvD M_12) ∧ (FR (S_c_X12_tenth) Mz M_12) ∧ ∃ z10_ : Int32, (z10_ = M_12.1 (50, 0, 0) 1) ∧ (0 ≤ z10_.toInt ∧ z10_.toInt ≤ 40) ∧ (z10_.toInt ≤ v1_12.toInt) ∧ ∃ v1_35 : Int32, (0 ≤ v1_35.toInt) ∧ ∃ M_35 : mM, (RCH (fun x_ y_ => ST_X12_tenth_35 Mz x_.1 x_.2 y_.1 y_.2) ((0 : Int32), M_12) (v1_35, M_35)) ∧ (InvD M_35) ∧ (FR (S_c_X12_tenth) Mz M_35) ∧ ∃ z15_ : Int32, (z15_ = M_35.1 (50, 0, 0) 2) ∧ (0 ≤ z15_.toInt ∧ z15_.toInt ≤ 8) ∧ (z15_.toInt ≤ v1_35.toInt) ∧ M_ = M_35
theorem lf_c_X12_tenth_0 (M5_ : mM) (Mz : mM) (z3_ : Int32) (hM6_ : M5_ = up Mz (50, 0, 0) 0 z3_) : PN 0 z3_ ∧ (0 < 345 ∨ 493 < 0) := by have r_z3_ := rngI z3_; unfold PN; omega
theorem lf_c_X12_tenth_2 (v1_35 : Int32) (z15_ : Int32) (hv0_35 : 0 ≤ v1_35.toInt) (h17_ : 0 ≤ z15_.toInt ∧ z15_.toInt ≤ 8) (h18_ : v1_35.toInt < z15_.toInt) : -2147483648 ≤ v1_35.toInt + 1 ∧ v1_35.toInt + 1 < 2147483648 := by omega
theorem lf_c_X12_tenth_4 (v1_35 : Int32) (z15_ : Int32) (z26_ : Int32) (h17_ : 0 ≤ z15_.toInt ∧ z15_.toInt ≤ 8) (h18_ : v1_35.toInt < z15_.toInt) (h27_ : z26_.toInt = v1_35.toInt + 1) : (2147483648 - z26_.toInt).toNat < (2147483648 - v1_35.toInt).toNat := by omega
theorem lf_c_X12_tenth_6 (v1_12 : Int32) (z10_ : Int32) (hv0_12 : 0 ≤ v1_12.toInt) (h12_ : 0 ≤ z10_.toInt ∧ z10_.toInt ≤ 40) (h13_ : v1_12.toInt < z10_.toInt) : 0 ≤ v1_12.toInt ∧ v1_12.toInt ≤ 39 := by omega
theorem lf_c_X12_tenth_7 (v1_12 : Int32) (z10_ : Int32) (hv0_12 : 0 ≤ v1_12.toInt) (h12_ : 0 ≤ z10_.toInt ∧ z10_.toInt ≤ 40) (h13_ : v1_12.toInt < z10_.toInt) : -2147483648 ≤ v1_12.toInt + 1 ∧ v1_12.toInt + 1 < 2147483648 := by omega
theorem lf_c_X12_tenth_9 (v1_12 : Int32) (z10_ : Int32) (z35_ : Int32) (h12_ : 0 ≤ z10_.toInt ∧ z10_.toInt ≤ 40) (h13_ : v1_12.toInt < z10_.toInt) (h36_ : z35_.toInt = v1_12.toInt + 1) : (2147483648 - z35_.toInt).toNat < (2147483648 - v1_12.toInt).toNat := by omega
set_option maxHeartbeats 4000000 in
set_option maxRecDepth 100000 in
theorem c_X12_tenth (l : Launch) (G : va_G) (cy : Nat → ClassId) (ad : rf → Nat) (d : Nat) (Mz : mM) (hIz : InvD Mz) : WP DD l G cy ad yX12_tenth cX12_tenth 2 none (d + 7) 0 [(0, vR (12, 0, 0))] [] Mz (fun r M' => InvD M' ∧ FR (S_c_X12_tenth) Mz M' ∧ (True) ∧ SP_X12_tenth Mz M') := by
  have hFz : FR (S_c_X12_tenth) Mz Mz := FR.self
  refine w_aload_n dX12_tenth_0 rfl 0 rfl ?_
  refine w_getR (c' := (50, 0, 0)) fl_RX12_9 rfl rfl ic_12 dX12_tenth_1 rfl ?_
  refine w_iconst (v := 0) dX12_tenth_4 (by decide) ?_
  refine w_dup2 dX12_tenth_5 rfl rfl ?_
  refine w_ialdL 0 rfl rfl ic_50 li_0 (by decide) dX12_tenth_6 (fun z1_ e2_ => ?_)
  refine w_iconst (v := 1) dX12_tenth_7 (by decide) ?_
  refine w_iadd dX12_tenth_8 (fun z3_ h4_ => ?_)
  refine w_iastL 0 DD_nd rfl rfl ic_50 li_0 (by decide) dX12_tenth_9 (fun M5_ hM6_ => ?_)
  have hI7_ := hIz.put50 hM6_ (lf_c_X12_tenth_0 M5_ Mz z3_ hM6_ )
  have hF8_ := hFz.put hM6_ (Or.inl ⟨rfl, rfl, rfl⟩)
  refine w_iconst (v := 0) dX12_tenth_10 (by decide) ?_
  refine w_istore_n (ls' := [(1, vI 0), (0, vR (12, 0, 0))]) dX12_tenth_11 rfl (by decide) rfl ?_
  have lp9_ : ∀ (nn_12 : Nat) (M_12 : mM) (hI_12 : InvD M_12) (hF_12 : FR (S_c_X12_tenth) Mz M_12) (v1_12 : Int32) (hv0_12 : 0 ≤ v1_12.toInt) (hL_12 : RCH (fun x_ y_ => ST_X12_tenth_12 Mz x_.1 x_.2 y_.1 y_.2) ((0 : Int32), M5_) (v1_12, M_12)), (2147483648 - v1_12.toInt).toNat < nn_12 → WP DD l G cy ad yX12_tenth cX12_tenth 2 none (d + 7) 12 [(1, vI v1_12), (0, vR (12, 0, 0))] [] M_12 (fun r M' => InvD M' ∧ FR (S_c_X12_tenth) Mz M' ∧ (True) ∧ SP_X12_tenth Mz M') := by
    intro nn_12
    induction nn_12 with
    | zero => intro M_12 hI_12 hF_12 v1_12 hv0_12 hL_12 hm_12; exact absurd hm_12 (Nat.not_lt_zero _)
    | succ nn_12 ih_12 =>
      intro M_12 hI_12 hF_12 v1_12 hv0_12 hL_12 hm_12
      refine w_iload_n dX12_tenth_12 rfl 0 rfl ?_
      refine w_aload_n dX12_tenth_13 rfl 1 rfl ?_
      refine w_getR (c' := (50, 0, 0)) fl_RX12_9 rfl rfl ic_12 dX12_tenth_14 rfl ?_
      refine w_iconst (v := 1) dX12_tenth_17 (by decide) ?_
      refine w_ialdL 1 rfl rfl ic_50 li_1 (by decide) dX12_tenth_18 (fun z10_ e11_ => ?_)
      have h12_ : 0 ≤ z10_.toInt ∧ z10_.toInt ≤ 40 := pn_1 hI_12 e11_
      refine w_icmp_ge (tgt := 33) dX12_tenth_19 (by decide) (rfl : v1_12.toInt = v1_12.toInt) (rfl : z10_.toInt = z10_.toInt) (fun h13_ => ?_) (fun h13_ => ?_)
      · refine w_iconst (v := 0) dX12_tenth_33 (by decide) ?_
        refine w_istore_n (ls' := [(1, vI 0), (0, vR (12, 0, 0))]) dX12_tenth_34 rfl (by decide) rfl ?_
        have lp14_ : ∀ (nn_35 : Nat) (M_35 : mM) (hI_35 : InvD M_35) (hF_35 : FR (S_c_X12_tenth) Mz M_35) (v1_35 : Int32) (hv0_35 : 0 ≤ v1_35.toInt) (hL_35 : RCH (fun x_ y_ => ST_X12_tenth_35 Mz x_.1 x_.2 y_.1 y_.2) ((0 : Int32), M_12) (v1_35, M_35)), (2147483648 - v1_35.toInt).toNat < nn_35 → WP DD l G cy ad yX12_tenth cX12_tenth 2 none (d + 7) 35 [(1, vI v1_35), (0, vR (12, 0, 0))] [] M_35 (fun r M' => InvD M' ∧ FR (S_c_X12_tenth) Mz M' ∧ (True) ∧ SP_X12_tenth Mz M') := by
          intro nn_35
          induction nn_35 with
          | zero => intro M_35 hI_35 hF_35 v1_35 hv0_35 hL_35 hm_35; exact absurd hm_35 (Nat.not_lt_zero _)
          | succ nn_35 ih_35 =>
            intro M_35 hI_35 hF_35 v1_35 hv0_35 hL_35 hm_35
            refine w_iload_n dX12_tenth_35 rfl 0 rfl ?_
            refine w_aload_n dX12_tenth_36 rfl 1 rfl ?_
            refine w_getR (c' := (50, 0, 0)) fl_RX12_9 rfl rfl ic_12 dX12_tenth_37 rfl ?_
            refine w_iconst (v := 2) dX12_tenth_40 (by decide) ?_
            refine w_ialdL 2 rfl rfl ic_50 li_2 (by decide) dX12_tenth_41 (fun z15_ e16_ => ?_)
            have h17_ : 0 ≤ z15_.toInt ∧ z15_.toInt ≤ 8 := pn_2 hI_35 e16_
            refine w_icmp_ge (tgt := 56) dX12_tenth_42 (by decide) (rfl : v1_35.toInt = v1_35.toInt) (rfl : z15_.toInt = z15_.toInt) (fun h18_ => ?_) (fun h18_ => ?_)
            · exact w_vret rfl dX12_tenth_56 ⟨hI_35, hF_35, trivial, ⟨z1_, e2_, z3_, h4_, M5_, hM6_, v1_12, hv0_12, M_12, hL_12, hI_12, hF_12, z10_, e11_, h12_, h13_, v1_35, hv0_35, M_35, hL_35, hI_35, hF_35, z15_, e16_, h17_, h18_, rfl⟩⟩
            · refine w_aload_n dX12_tenth_45 rfl 1 rfl ?_
              refine w_iload_n dX12_tenth_46 rfl 0 rfl ?_
              refine w_callVv (as := [vI v1_35]) (rest := []) (c_X12_walkerGoes l G cy ad d v1_35 M_35 hI_35 (lf_c_X12_in_1 v1_35 z15_ hv0_35 h17_ h18_ )) kV_X12_walkerGoes pnn_17 (Nat.le_of_ble_eq_true rfl) m_1746 rfl rfl rfl ic_12 rfl rfl (by decide) (Nat.le_of_ble_eq_true rfl) dX12_tenth_47 (fun M19_ q20_ => ?_)
              obtain ⟨hI22_, hF23_, h21_, hs25_⟩ := q20_
              have hF24_ := hF_35.tr hF23_ (fun c k => (fun h => h.elim (fun h => (Or.inr (Or.inl ⟨h.1, h.2.1, h.2.2⟩))) (fun h => h.elim (fun h => (Or.inr (Or.inr (Or.inl ⟨h.1, h.2.1, h.2.2⟩)))) (fun h => h.elim (fun h => (Or.inr (Or.inr (Or.inr (Or.inl ⟨h.1, h.2.1, h.2.2⟩))))) (fun h => h.elim (fun h => (Or.inr (Or.inr (Or.inr (Or.inr (Or.inl ⟨h.1, h.2.1, h.2.2⟩)))))) (fun h => h.elim (fun h => (Or.inr (Or.inr (Or.inr (Or.inr (Or.inr (Or.inl ⟨h.1, h.2.1, h.2.2⟩))))))) (fun h => h.elim (fun h => (Or.inr (Or.inr (Or.inr (Or.inr (Or.inr (Or.inr (Or.inl ⟨h.1, h.2⟩)))))))) (fun h => h.elim (fun h => (Or.inr (Or.inr (Or.inr (Or.inr (Or.inr (Or.inr (Or.inr (Or.inl ⟨h.1, h.2⟩))))))))) (fun h => h.elim)))))))))
              refine w_iincB (j := 0) (f := fun z26_ => [(1, vI z26_), (0, vR (12, 0, 0))]) dX12_tenth_50 rfl (by decide) (fun _ => rfl) (rfl : v1_35.toInt = v1_35.toInt) li_1 (lf_c_X12_tenth_2 v1_35 z15_ hv0_35 h17_ h18_ ) (fun z26_ h27_ => ?_)
              refine w_goto (tgt := 35) dX12_tenth_53 (by decide) ?_
              refine w_loc (ls' := [(1, vI z26_), (0, vR (12, 0, 0))]) [0, 1] rfl ?_
              exact ih_35 M19_ hI22_ hF24_ z26_ (lf_c_X5_takeFrom_3 v1_35 z26_ hv0_35 h27_ ) (RCH.tail hL_35 ⟨hv0_35, hI_35, hF_35, z15_, e16_, h17_, h18_, M19_, hI22_, hF23_, hs25_, z26_, h27_, rfl, rfl⟩) (Nat.lt_of_lt_of_le (lf_c_X12_tenth_4 v1_35 z15_ z26_ h17_ h18_ h27_ ) (Nat.le_of_lt_succ hm_35))
        exact lp14_ _ M_12 hI_12 hF_12 0 (lf_c_X5_takeFrom_5 ) RCH.refl (Nat.lt_succ_self _)
      · refine w_aload_n dX12_tenth_22 rfl 1 rfl ?_
        refine w_iload_n dX12_tenth_23 rfl 0 rfl ?_
        refine w_callVv (as := [vI v1_12]) (rest := []) (c_X12_thingGoes l G cy ad (d + 3) v1_12 M_12 hI_12 (lf_c_X12_tenth_6 v1_12 z10_ hv0_12 h12_ h13_ )) kV_X12_thingGoes pnn_17 (Nat.le_of_ble_eq_true rfl) m_1742 rfl rfl rfl ic_12 rfl rfl (by decide) (Nat.le_of_ble_eq_true rfl) dX12_tenth_24 (fun M28_ q29_ => ?_)
        obtain ⟨hI31_, hF32_, h30_, hs34_⟩ := q29_
        have hF33_ := hF_12.tr hF32_ (fun c k => (fun h => h.elim (fun h => (Or.inr (Or.inr (Or.inr (Or.inr (Or.inr (Or.inr (Or.inr (Or.inl ⟨h.1, h.2⟩))))))))) (fun h => h.elim)))
        refine w_iincB (j := 0) (f := fun z35_ => [(1, vI z35_), (0, vR (12, 0, 0))]) dX12_tenth_27 rfl (by decide) (fun _ => rfl) (rfl : v1_12.toInt = v1_12.toInt) li_1 (lf_c_X12_tenth_7 v1_12 z10_ hv0_12 h12_ h13_ ) (fun z35_ h36_ => ?_)
        refine w_goto (tgt := 12) dX12_tenth_30 (by decide) ?_
        refine w_loc (ls' := [(1, vI z35_), (0, vR (12, 0, 0))]) [0, 1] rfl ?_
        exact ih_12 M28_ hI31_ hF33_ z35_ (lf_c_X5_takeFrom_3 v1_12 z35_ hv0_12 h36_ ) (RCH.tail hL_12 ⟨hv0_12, hI_12, hF_12, z10_, e11_, h12_, h13_, M28_, hI31_, hF32_, hs34_, z35_, h36_, rfl, rfl⟩) (Nat.lt_of_lt_of_le (lf_c_X12_tenth_9 v1_12 z10_ z35_ h12_ h13_ h36_ ) (Nat.le_of_lt_succ hm_12))
  exact lp9_ _ M5_ hI7_ hF8_ 0 (lf_c_X5_takeFrom_5 ) RCH.refl (Nat.lt_succ_self _)
def S_c_X12_tenths : rf → Nat → Prop := fun c k => (c.1 = 50 ∧ c.2.1 = 0 ∧ k = 0) ∨ (c.1 = 58 ∧ c.2.1 = 0 ∧ k = 0) ∨ (c.1 = 58 ∧ c.2.1 = 0 ∧ k = 1) ∨ (c.1 = 58 ∧ c.2.1 = 0 ∧ k = 2) ∨ (c.1 = 58 ∧ c.2.1 = 0 ∧ k = 3) ∨ (c.1 = 58 ∧ c.2.1 = 0 ∧ k = 4) ∨ (c.1 = 59 ∧ c.2.1 = 0) ∨ (c.1 = 50 ∧ c.2.1 = 0) ∨ (c.1 = 53 ∧ c.2.1 = 0) ∨ False
def ST_X12_tenths_40 (v : Int32) (Mz : mM) (v2_40 : Int32) (M_40 : mM) (v2_40y : Int32) (M_40y : mM) : Prop := (0 ≤ v2_40.toInt) ∧ (InvD M_40) ∧ (FR (S_c_X12_tenths) Mz M_40) ∧ (v2_40.toInt < v.toInt) ∧ ∃ M16_ : mM, (InvD M16_) ∧ (FR (S_c_X12_tenth) M_40 M16_) ∧ (SP_X12_tenth M_40 M16_) ∧ ∃ z23_ : Int32, (z23_.toInt = v2_40.toInt + 1) ∧ v2_40y = z23_ ∧ M_40y = M16_
def SP_X12_tenths (v : Int32) (Mz : mM) (r_ : Int32) (M_ : mM) : Prop := (((SP_X12_within v 1 100 Mz (1 : Int32)) ∧ (1 ≤ v.toInt ∧ v.toInt ≤ 100) ∧ ∃ z7_ : Int32, (z7_ = Mz.1 (50, 0, 0) 0) ∧ ∃ z9_ : Int32, (z9_ = z7_ + v) ∧ (((z9_.toInt ≤ 9999) ∧ ∃ v2_40 : Int32, (0 ≤ v2_40.toInt) ∧ ∃ M_40 : mM, (RCH (fun x_ y_ => ST_X12_tenths_40 v Mz x_.1 x_.2 y_.1 y_.2) ((0 : Int32), Mz) (v2_40, M_40)) ∧ (InvD M_40) ∧ (FR (S_c_X12_tenths) Mz M_40) ∧ (v.toInt ≤ v2_40.toInt) ∧ ∃ z14_ : Int32, (z14_ = M_40.1 (50, 0, 0) 0) ∧ r_ = z14_ ∧ M_ = M_40) ∨ ((9999 < z9_.toInt) ∧ ∃ M26_ : mM, (InvD M26_) ∧ (FR (S_c_X12_finding) Mz M26_) ∧ ∃ r25_ : Int32, (SP_X12_finding (-1000003) Mz r25_ M26_) ∧ (r25_.toInt = (-1000003)) ∧ r_ = r25_ ∧ M_ = M26_))) ∨ ((SP_X12_within v 1 100 Mz (0 : Int32)) ∧ (¬ (1 ≤ v.toInt ∧ v.toInt ≤ 100)) ∧ ∃ M35_ : mM, (InvD M35_) ∧ (FR (S_c_X12_finding) Mz M35_) ∧ ∃ r34_ : Int32, (SP_X12_finding (-1000001) Mz r34_ M35_) ∧ (r34_.toInt = (-1000001)) ∧ r_ = r34_ ∧ M_ = M35_))
set_option maxHeartbeats 4000000 in
set_option maxRecDepth 100000 in
theorem c_X12_tenths (l : Launch) (G : va_G) (cy : Nat → ClassId) (ad : rf → Nat) (d : Nat) (v : Int32) (Mz : mM) (hIz : InvD Mz) : WP DD l G cy ad yX12_tenths cX12_tenths 3 (some .int) (d + 8) 0 [(0, vR (12, 0, 0)), (1, vI v)] [] Mz (fun r M' => InvD M' ∧ FR (S_c_X12_tenths) Mz M' ∧ (True) ∧ SP_X12_tenths v Mz r M') := by
  have hFz : FR (S_c_X12_tenths) Mz Mz := FR.self
  refine w_iload_n dX12_tenths_0 rfl 1 rfl ?_
  refine w_iconst (v := 1) dX12_tenths_1 (by decide) ?_
  refine w_bipush (v := 100) dX12_tenths_2 (by decide) ?_
  refine w_callS (as := [vI v, vI 1, vI 100]) (rest := []) (c_X12_within l G cy ad (d + 7) v 1 100 Mz hIz) kS_X12_within pnn_17 (Nat.le_of_ble_eq_true rfl) m_1427 rfl rfl (by decide) (Nat.le_of_ble_eq_true rfl) dX12_tenths_4 (fun r1_ M2_ q3_ => ?_)
  obtain ⟨rfl, h4_, hs5_⟩ := q3_
  rcases h4_ with ⟨rfl, h4_⟩ | ⟨rfl, h4_⟩
  · simp only [li_1, li_100] at h4_
    refine w_if_ne (tgt := 17) dX12_tenths_7 (by decide) li_1 (fun h6_ => ?_) (fun h9 => (absurd h9 (by decide)))
    refine w_aload_n dX12_tenths_17 rfl 0 rfl ?_
    refine w_getR (c' := (50, 0, 0)) fl_RX12_9 rfl rfl ic_12 dX12_tenths_18 rfl ?_
    refine w_iconst (v := 0) dX12_tenths_21 (by decide) ?_
    refine w_ialdL 0 rfl rfl ic_50 li_0 (by decide) dX12_tenths_22 (fun z7_ e8_ => ?_)
    refine w_iload_n dX12_tenths_23 rfl 1 rfl ?_
    refine w_iadd dX12_tenths_24 (fun z9_ h10_ => ?_)
    refine w_sipush (v := 9999) dX12_tenths_25 (by decide) ?_
    refine w_icmp_le (tgt := 38) dX12_tenths_28 (by decide) (rfl : z9_.toInt = z9_.toInt) li_9999 (fun h11_ => ?_) (fun h11_ => ?_)
    · refine w_iconst (v := 0) dX12_tenths_38 (by decide) ?_
      refine w_istore_n (ls' := [(2, vI 0), (0, vR (12, 0, 0)), (1, vI v)]) dX12_tenths_39 rfl (by decide) rfl ?_
      have lp12_ : ∀ (nn_40 : Nat) (M_40 : mM) (hI_40 : InvD M_40) (hF_40 : FR (S_c_X12_tenths) Mz M_40) (v2_40 : Int32) (hv0_40 : 0 ≤ v2_40.toInt) (hL_40 : RCH (fun x_ y_ => ST_X12_tenths_40 v Mz x_.1 x_.2 y_.1 y_.2) ((0 : Int32), Mz) (v2_40, M_40)), (2147483648 - v2_40.toInt).toNat < nn_40 → WP DD l G cy ad yX12_tenths cX12_tenths 3 (some .int) (d + 8) 40 [(2, vI v2_40), (0, vR (12, 0, 0)), (1, vI v)] [] M_40 (fun r M' => InvD M' ∧ FR (S_c_X12_tenths) Mz M' ∧ (True) ∧ SP_X12_tenths v Mz r M') := by
        intro nn_40
        induction nn_40 with
        | zero => intro M_40 hI_40 hF_40 v2_40 hv0_40 hL_40 hm_40; exact absurd hm_40 (Nat.not_lt_zero _)
        | succ nn_40 ih_40 =>
          intro M_40 hI_40 hF_40 v2_40 hv0_40 hL_40 hm_40
          refine w_iload_n dX12_tenths_40 rfl 0 rfl ?_
          refine w_iload_n dX12_tenths_41 rfl 2 rfl ?_
          refine w_icmp_ge (tgt := 55) dX12_tenths_42 (by decide) (rfl : v2_40.toInt = v2_40.toInt) (rfl : v.toInt = v.toInt) (fun h13_ => ?_) (fun h13_ => ?_)
          · refine w_aload_n dX12_tenths_55 rfl 1 rfl ?_
            refine w_getR (c' := (50, 0, 0)) fl_RX12_9 rfl rfl ic_12 dX12_tenths_56 rfl ?_
            refine w_iconst (v := 0) dX12_tenths_59 (by decide) ?_
            refine w_ialdL 0 rfl rfl ic_50 li_0 (by decide) dX12_tenths_60 (fun z14_ e15_ => ?_)
            exact w_iret rfl dX12_tenths_61 ⟨hI_40, hF_40, trivial, (Or.inl ⟨hs5_, h4_, z7_, e8_, z9_, h10_, (Or.inl ⟨h11_, v2_40, hv0_40, M_40, hL_40, hI_40, hF_40, h13_, z14_, e15_, rfl, rfl⟩)⟩)⟩
          · refine w_aload_n dX12_tenths_45 rfl 1 rfl ?_
            refine w_callVv (as := []) (rest := []) (c_X12_tenth l G cy ad d M_40 hI_40) kV_X12_tenth pnn_17 (Nat.le_of_ble_eq_true rfl) m_1738 rfl rfl rfl ic_12 rfl rfl (by decide) (Nat.le_of_ble_eq_true rfl) dX12_tenths_46 (fun M16_ q17_ => ?_)
            obtain ⟨hI19_, hF20_, h18_, hs22_⟩ := q17_
            have hF21_ := hF_40.tr hF20_ (fun c k => (fun h => h.elim (fun h => (Or.inl ⟨h.1, h.2.1, h.2.2⟩)) (fun h => h.elim (fun h => (Or.inr (Or.inl ⟨h.1, h.2.1, h.2.2⟩))) (fun h => h.elim (fun h => (Or.inr (Or.inr (Or.inl ⟨h.1, h.2.1, h.2.2⟩)))) (fun h => h.elim (fun h => (Or.inr (Or.inr (Or.inr (Or.inl ⟨h.1, h.2.1, h.2.2⟩))))) (fun h => h.elim (fun h => (Or.inr (Or.inr (Or.inr (Or.inr (Or.inl ⟨h.1, h.2.1, h.2.2⟩)))))) (fun h => h.elim (fun h => (Or.inr (Or.inr (Or.inr (Or.inr (Or.inr (Or.inl ⟨h.1, h.2.1, h.2.2⟩))))))) (fun h => h.elim (fun h => (Or.inr (Or.inr (Or.inr (Or.inr (Or.inr (Or.inr (Or.inl ⟨h.1, h.2⟩)))))))) (fun h => h.elim (fun h => (Or.inr (Or.inr (Or.inr (Or.inr (Or.inr (Or.inr (Or.inr (Or.inl ⟨h.1, h.2⟩))))))))) (fun h => h.elim))))))))))
            refine w_iincB (j := 0) (f := fun z23_ => [(2, vI z23_), (0, vR (12, 0, 0)), (1, vI v)]) dX12_tenths_49 rfl (by decide) (fun _ => rfl) (rfl : v2_40.toInt = v2_40.toInt) li_1 (lf_c_X11_tenths_0 v v2_40 h4_ hv0_40 h13_ ) (fun z23_ h24_ => ?_)
            refine w_goto (tgt := 40) dX12_tenths_52 (by decide) ?_
            refine w_loc (ls' := [(2, vI z23_), (0, vR (12, 0, 0)), (1, vI v)]) [0, 1, 2] rfl ?_
            exact ih_40 M16_ hI19_ hF21_ z23_ (lf_c_X5_takeFrom_3 v2_40 z23_ hv0_40 h24_ ) (RCH.tail hL_40 ⟨hv0_40, hI_40, hF_40, h13_, M16_, hI19_, hF20_, hs22_, z23_, h24_, rfl, rfl⟩) (Nat.lt_of_lt_of_le (lf_c_X11_tenths_2 v v2_40 z23_ h4_ h13_ h24_ ) (Nat.le_of_lt_succ hm_40))
      exact lp12_ _ Mz hIz hFz 0 (lf_c_X5_takeFrom_5 ) RCH.refl (Nat.lt_succ_self _)
    · refine w_aload_n dX12_tenths_31 rfl 0 rfl ?_
      refine w_ldc (v := (-1000003)) m_1455 dX12_tenths_32 ?_
      refine w_callV (as := [vI (-1000003)]) (rest := []) (c_X12_finding l G cy ad (d + 7) (-1000003) Mz hIz (by first | decide | (unfold vF; omega) | (unfold vRw; omega))) kV_X12_finding pnn_17 (Nat.le_of_ble_eq_true rfl) m_1434 rfl rfl rfl ic_12 rfl rfl (by decide) (Nat.le_of_ble_eq_true rfl) dX12_tenths_34 (fun r25_ M26_ q27_ => ?_)
      obtain ⟨hI29_, hF30_, h28_, hs32_⟩ := q27_
      have hF31_ := hFz.tr hF30_ (fun c k => (fun h => h.elim (fun h => (Or.inr (Or.inr (Or.inr (Or.inr (Or.inr (Or.inr (Or.inr (Or.inr (Or.inl ⟨h.1, h.2⟩)))))))))) (fun h => h.elim)))
      simp only [li_m1000003] at h28_
      exact w_iret rfl dX12_tenths_37 ⟨hI29_, hF31_, trivial, (Or.inl ⟨hs5_, h4_, z7_, e8_, z9_, h10_, (Or.inr ⟨h11_, M26_, hI29_, hF30_, r25_, hs32_, h28_, rfl, rfl⟩)⟩)⟩
  · simp only [li_1, li_100] at h4_
    refine w_if_ne (tgt := 17) dX12_tenths_7 (by decide) li_0 (fun h9 => (absurd h9 (by decide))) (fun h33_ => ?_)
    refine w_aload_n dX12_tenths_10 rfl 0 rfl ?_
    refine w_ldc (v := (-1000001)) m_1433 dX12_tenths_11 ?_
    refine w_callV (as := [vI (-1000001)]) (rest := []) (c_X12_finding l G cy ad (d + 7) (-1000001) Mz hIz (by first | decide | (unfold vF; omega) | (unfold vRw; omega))) kV_X12_finding pnn_17 (Nat.le_of_ble_eq_true rfl) m_1434 rfl rfl rfl ic_12 rfl rfl (by decide) (Nat.le_of_ble_eq_true rfl) dX12_tenths_13 (fun r34_ M35_ q36_ => ?_)
    obtain ⟨hI38_, hF39_, h37_, hs41_⟩ := q36_
    have hF40_ := hFz.tr hF39_ (fun c k => (fun h => h.elim (fun h => (Or.inr (Or.inr (Or.inr (Or.inr (Or.inr (Or.inr (Or.inr (Or.inr (Or.inl ⟨h.1, h.2⟩)))))))))) (fun h => h.elim)))
    simp only [li_m1000001] at h37_
    exact w_iret rfl dX12_tenths_16 ⟨hI38_, hF40_, trivial, (Or.inr ⟨hs5_, h4_, M35_, hI38_, hF39_, r34_, hs41_, h37_, rfl, rfl⟩)⟩
def SP_X12_cost (v : Int32) (u : Int32) (Mz : mM) (r_ : Int32) : Prop := ∃ r1_ : Int32, (SP_X12_held v u Mz r1_) ∧ (0 ≤ r1_.toInt ∧ r1_.toInt ≤ 2) ∧ (((¬ r1_.toInt = 1) ∧ (((¬ r1_.toInt = 0) ∧ r_ = 20) ∨ ((r1_.toInt = 0) ∧ r_ = 3))) ∨ ((r1_.toInt = 1) ∧ r_ = 1))
theorem lf_c_X12_cost_0 : 1 ≤ (20 : Int32).toInt ∧ (20 : Int32).toInt ≤ 20 := by have r9 := li_20; omega
theorem lf_c_X12_cost_1 : 1 ≤ (3 : Int32).toInt ∧ (3 : Int32).toInt ≤ 20 := by have r9 := li_3; omega
theorem lf_c_X12_cost_2 : 1 ≤ (1 : Int32).toInt ∧ (1 : Int32).toInt ≤ 20 := by have r9 := li_1; omega
set_option maxHeartbeats 4000000 in
set_option maxRecDepth 100000 in
theorem c_X12_cost (l : Launch) (G : va_G) (cy : Nat → ClassId) (ad : rf → Nat) (d : Nat) (v : Int32) (u : Int32) (Mz : mM) (hIz : InvD Mz) (hv : 0 ≤ v.toInt ∧ v.toInt ≤ 7) (hu : -1 ≤ u.toInt ∧ u.toInt ≤ 191) : WP DD l G cy ad yX12_cost cX12_cost 4 (some .int) (d + 3) 0 [(0, vR (12, 0, 0)), (1, vI v), (2, vI u)] [] Mz (fun r M' => Mz = M' ∧ (1 ≤ r.toInt ∧ r.toInt ≤ 20) ∧ SP_X12_cost v u Mz r) := by
  refine w_aload_n dX12_cost_0 rfl 0 rfl ?_
  refine w_iload_n dX12_cost_1 rfl 1 rfl ?_
  refine w_iload_n dX12_cost_2 rfl 2 rfl ?_
  refine w_callV (as := [vI v, vI u]) (rest := []) (c_X12_held l G cy ad d v u Mz hIz hv hu) kV_X12_held pnn_17 (Nat.le_of_ble_eq_true rfl) m_1695 rfl rfl rfl ic_12 rfl rfl (by decide) (Nat.le_of_ble_eq_true rfl) dX12_cost_3 (fun r1_ M2_ q3_ => ?_)
  obtain ⟨rfl, h4_, hs5_⟩ := q3_
  refine w_istore_n (ls' := [(3, vI r1_), (0, vR (12, 0, 0)), (1, vI v), (2, vI u)]) dX12_cost_6 rfl (by decide) rfl ?_
  refine w_iload_n dX12_cost_7 rfl 0 rfl ?_
  refine w_iconst (v := 1) dX12_cost_8 (by decide) ?_
  refine w_icmp_ne (tgt := 16) dX12_cost_9 (by decide) (rfl : r1_.toInt = r1_.toInt) li_1 (fun h6_ => ?_) (fun h6_ => ?_)
  · refine w_iload_n dX12_cost_16 rfl 0 rfl ?_
    refine w_if_ne (tgt := 24) dX12_cost_17 (by decide) (rfl : r1_.toInt = r1_.toInt) (fun h7_ => ?_) (fun h7_ => ?_)
    · refine w_bipush (v := 20) dX12_cost_24 (by decide) ?_
      exact w_iret rfl dX12_cost_26 ⟨rfl, (lf_c_X12_cost_0 ), ⟨r1_, hs5_, h4_, (Or.inl ⟨h6_, (Or.inl ⟨h7_, rfl⟩)⟩)⟩⟩
    · refine w_iconst (v := 3) dX12_cost_20 (by decide) ?_
      refine w_goto (tgt := 26) dX12_cost_21 (by decide) ?_
      exact w_iret rfl dX12_cost_26 ⟨rfl, (lf_c_X12_cost_1 ), ⟨r1_, hs5_, h4_, (Or.inl ⟨h6_, (Or.inr ⟨h7_, rfl⟩)⟩)⟩⟩
  · refine w_iconst (v := 1) dX12_cost_12 (by decide) ?_
    refine w_goto (tgt := 26) dX12_cost_13 (by decide) ?_
    exact w_iret rfl dX12_cost_26 ⟨rfl, (lf_c_X12_cost_2 ), ⟨r1_, hs5_, h4_, (Or.inr ⟨h6_, rfl⟩)⟩⟩
def S_c_X12_safe : rf → Nat → Prop := fun c k => (c.1 = 58 ∧ c.2.1 = 0 ∧ k = 0) ∨ (c.1 = 58 ∧ c.2.1 = 0 ∧ k = 1) ∨ (c.1 = 58 ∧ c.2.1 = 0 ∧ k = 2) ∨ (c.1 = 58 ∧ c.2.1 = 0 ∧ k = 3) ∨ (c.1 = 59 ∧ c.2.1 = 0) ∨ (c.1 = 53 ∧ c.2.1 = 0) ∨ False
def ST_X12_safe_113 (z39_ : Int32) (v6_113 : Int32) (v6_113y : Int32) : Prop := (0 ≤ v6_113.toInt) ∧ (v6_113.toInt ≤ 9) ∧ (v6_113.toInt < 9) ∧ ∃ z44_ : Int32, (z44_.toInt = v6_113.toInt + 1) ∧ ∃ z46_ : Int32, (z46_.toInt = v6_113.toInt + 2) ∧ ∃ z48_ : Int32, (z48_ = z44_ * z46_) ∧ ∃ z50_ : Int32, (z50_ = z48_ / (2 : Int32)) ∧ (z50_.toInt ≤ z39_.toInt) ∧ ∃ z53_ : Int32, (z53_.toInt = v6_113.toInt + 1) ∧ v6_113y = z53_
def ST_X12_safe_113b (v5_65 : Int32) (v6_113 : Int32) (v6_113y : Int32) : Prop := (0 ≤ v6_113.toInt) ∧ (v6_113.toInt ≤ 9) ∧ (v6_113.toInt < 9) ∧ ∃ z59_ : Int32, (z59_.toInt = v6_113.toInt + 1) ∧ ∃ z61_ : Int32, (z61_.toInt = v6_113.toInt + 2) ∧ ∃ z63_ : Int32, (z63_ = z59_ * z61_) ∧ ∃ z65_ : Int32, (z65_ = z63_ / (2 : Int32)) ∧ (z65_.toInt ≤ v5_65.toInt) ∧ ∃ z68_ : Int32, (z68_.toInt = v6_113.toInt + 1) ∧ v6_113y = z68_
def ST_X12_safe_113c (v5_65 : Int32) (v6_113 : Int32) (v6_113y : Int32) : Prop := (0 ≤ v6_113.toInt) ∧ (v6_113.toInt ≤ 9) ∧ (v6_113.toInt < 9) ∧ ∃ z80_ : Int32, (z80_.toInt = v6_113.toInt + 1) ∧ ∃ z82_ : Int32, (z82_.toInt = v6_113.toInt + 2) ∧ ∃ z84_ : Int32, (z84_ = z80_ * z82_) ∧ ∃ z86_ : Int32, (z86_ = z84_ / (2 : Int32)) ∧ (z86_.toInt ≤ v5_65.toInt) ∧ ∃ z89_ : Int32, (z89_.toInt = v6_113.toInt + 1) ∧ v6_113y = z89_
def ST_X12_safe_113d (v5_65 : Int32) (v6_113 : Int32) (v6_113y : Int32) : Prop := (0 ≤ v6_113.toInt) ∧ (v6_113.toInt ≤ 9) ∧ (v6_113.toInt < 9) ∧ ∃ z106_ : Int32, (z106_.toInt = v6_113.toInt + 1) ∧ ∃ z108_ : Int32, (z108_.toInt = v6_113.toInt + 2) ∧ ∃ z110_ : Int32, (z110_ = z106_ * z108_) ∧ ∃ z112_ : Int32, (z112_ = z110_ / (2 : Int32)) ∧ (z112_.toInt ≤ v5_65.toInt) ∧ ∃ z115_ : Int32, (z115_.toInt = v6_113.toInt + 1) ∧ v6_113y = z115_
def ST_X12_safe_65 (v : Int32) (z14_ : Int32) (z26_ : Int32) (M32_ : mM) (v5_65 : Int32) (v5_65y : Int32) : Prop := (0 ≤ v5_65.toInt) ∧ (v5_65.toInt ≤ 15) ∧ (v5_65.toInt ≤ 15) ∧ (v5_65.toInt < 15) ∧ ∃ z70_ : Int32, (z70_.toInt = v5_65.toInt + 1) ∧ ∃ r72_ : Int32, (SP_X12_on z14_ z26_ z70_ M32_ r72_) ∧ (onP z14_ z26_ z70_ r72_ ∧ -1 ≤ r72_.toInt ∧ r72_.toInt ≤ 191) ∧ (0 ≤ r72_.toInt) ∧ ∃ z91_ : Int32, (z91_.toInt = v5_65.toInt + 1) ∧ ∃ r93_ : Int32, (SP_X12_on z14_ z26_ z91_ M32_ r93_) ∧ (onP z14_ z26_ z91_ r93_ ∧ -1 ≤ r93_.toInt ∧ r93_.toInt ≤ 191) ∧ ∃ r98_ : Int32, (SP_X12_held v r93_ M32_ r98_) ∧ (0 ≤ r98_.toInt ∧ r98_.toInt ≤ 2) ∧ (r98_.toInt = 1) ∧ ∃ z117_ : Int32, (z117_.toInt = v5_65.toInt + 1) ∧ v5_65y = z117_
def SP_X12_safe (v : Int32) (Mz : mM) (r_ : Int32) (M_ : mM) : Prop := (((SP_is2 v Mz (1 : Int32)) ∧ (0 ≤ v.toInt ∧ v.toInt ≤ 7) ∧ ∃ r7_ : Int32, (SP_X12_goer v Mz r7_) ∧ (r7_.toInt = 180 + 9 * v.toInt) ∧ ∃ z12_ : Int32, (z12_.toInt = r7_.toInt + 1) ∧ ∃ j16_ : Nat, ((j16_ : Int) = z12_.toInt) ∧ ∃ z14_ : Int32, (z14_ = Mz.1 (50, 0, 0) j16_) ∧ (0 ≤ z14_.toInt ∧ z14_.toInt ≤ 191) ∧ ∃ r19_ : Int32, (SP_X12_goer v Mz r19_) ∧ (r19_.toInt = 180 + 9 * v.toInt) ∧ ∃ z24_ : Int32, (z24_.toInt = r19_.toInt + 2) ∧ ∃ j28_ : Nat, ((j28_ : Int) = z24_.toInt) ∧ ∃ z26_ : Int32, (z26_ = Mz.1 (50, 0, 0) j28_) ∧ (0 ≤ z26_.toInt ∧ z26_.toInt ≤ 7) ∧ ∃ M32_ : mM, (InvD M32_) ∧ (FR (S_c_X12_heardFrom) Mz M32_) ∧ ∃ r31_ : Int32, (SP_X12_heardFrom v z14_ z26_ Mz r31_ M32_) ∧ (0 ≤ r31_.toInt ∧ r31_.toInt ≤ 12 ∧ upI z14_ z26_ r31_.toInt) ∧ ∃ z39_ : Int32, (z39_.toInt = r31_.toInt - 1) ∧ (((¬ r31_.toInt = 0) ∧ ∃ v6_113 : Int32, (0 ≤ v6_113.toInt) ∧ (v6_113.toInt ≤ 9) ∧ (RCH (fun x_ y_ => ST_X12_safe_113 z39_ x_ y_) (0 : Int32) v6_113) ∧ (((9 ≤ v6_113.toInt) ∧ r_ = v6_113 ∧ M_ = M32_) ∨ ((v6_113.toInt < 9) ∧ ∃ z44_ : Int32, (z44_.toInt = v6_113.toInt + 1) ∧ ∃ z46_ : Int32, (z46_.toInt = v6_113.toInt + 2) ∧ ∃ z48_ : Int32, (z48_ = z44_ * z46_) ∧ ∃ z50_ : Int32, (z50_ = z48_ / (2 : Int32)) ∧ (z39_.toInt < z50_.toInt) ∧ r_ = v6_113 ∧ M_ = M32_))) ∨ ((r31_.toInt = 0) ∧ ∃ v5_65 : Int32, (0 ≤ v5_65.toInt) ∧ (v5_65.toInt ≤ 15) ∧ (v5_65.toInt ≤ 15) ∧ (RCH (fun x_ y_ => ST_X12_safe_65 v z14_ z26_ M32_ x_ y_) (0 : Int32) v5_65) ∧ (((15 ≤ v5_65.toInt) ∧ ∃ v6_113 : Int32, (0 ≤ v6_113.toInt) ∧ (v6_113.toInt ≤ 9) ∧ (RCH (fun x_ y_ => ST_X12_safe_113b v5_65 x_ y_) (0 : Int32) v6_113) ∧ (((9 ≤ v6_113.toInt) ∧ r_ = v6_113 ∧ M_ = M32_) ∨ ((v6_113.toInt < 9) ∧ ∃ z59_ : Int32, (z59_.toInt = v6_113.toInt + 1) ∧ ∃ z61_ : Int32, (z61_.toInt = v6_113.toInt + 2) ∧ ∃ z63_ : Int32, (z63_ = z59_ * z61_) ∧ ∃ z65_ : Int32, (z65_ = z63_ / (2 : Int32)) ∧ (v5_65.toInt < z65_.toInt) ∧ r_ = v6_113 ∧ M_ = M32_))) ∨ ((v5_65.toInt < 15) ∧ ∃ z70_ : Int32, (z70_.toInt = v5_65.toInt + 1) ∧ ∃ r72_ : Int32, (SP_X12_on z14_ z26_ z70_ M32_ r72_) ∧ (onP z14_ z26_ z70_ r72_ ∧ -1 ≤ r72_.toInt ∧ r72_.toInt ≤ 191) ∧ (((r72_.toInt < 0) ∧ ∃ v6_113 : Int32, (0 ≤ v6_113.toInt) ∧ (v6_113.toInt ≤ 9) ∧ (RCH (fun x_ y_ => ST_X12_safe_113c v5_65 x_ y_) (0 : Int32) v6_113) ∧ (((9 ≤ v6_113.toInt) ∧ r_ = v6_113 ∧ M_ = M32_) ∨ ((v6_113.toInt < 9) ∧ ∃ z80_ : Int32, (z80_.toInt = v6_113.toInt + 1) ∧ ∃ z82_ : Int32, (z82_.toInt = v6_113.toInt + 2) ∧ ∃ z84_ : Int32, (z84_ = z80_ * z82_) ∧ ∃ z86_ : Int32, (z86_ = z84_ / (2 : Int32)) ∧ (v5_65.toInt < z86_.toInt) ∧ r_ = v6_113 ∧ M_ = M32_))) ∨ ((0 ≤ r72_.toInt) ∧ ∃ z91_ : Int32, (z91_.toInt = v5_65.toInt + 1) ∧ ∃ r93_ : Int32, (SP_X12_on z14_ z26_ z91_ M32_ r93_) ∧ (onP z14_ z26_ z91_ r93_ ∧ -1 ≤ r93_.toInt ∧ r93_.toInt ≤ 191) ∧ ∃ r98_ : Int32, (SP_X12_held v r93_ M32_ r98_) ∧ (0 ≤ r98_.toInt ∧ r98_.toInt ≤ 2) ∧ (¬ r98_.toInt = 1) ∧ ∃ v6_113 : Int32, (0 ≤ v6_113.toInt) ∧ (v6_113.toInt ≤ 9) ∧ (RCH (fun x_ y_ => ST_X12_safe_113d v5_65 x_ y_) (0 : Int32) v6_113) ∧ (((9 ≤ v6_113.toInt) ∧ r_ = v6_113 ∧ M_ = M32_) ∨ ((v6_113.toInt < 9) ∧ ∃ z106_ : Int32, (z106_.toInt = v6_113.toInt + 1) ∧ ∃ z108_ : Int32, (z108_.toInt = v6_113.toInt + 2) ∧ ∃ z110_ : Int32, (z110_ = z106_ * z108_) ∧ ∃ z112_ : Int32, (z112_ = z110_ / (2 : Int32)) ∧ (v5_65.toInt < z112_.toInt) ∧ r_ = v6_113 ∧ M_ = M32_))))))))) ∨ ((SP_is2 v Mz (0 : Int32)) ∧ ∃ M121_ : mM, (InvD M121_) ∧ (FR (S_c_X12_finding) Mz M121_) ∧ ∃ r120_ : Int32, (SP_X12_finding (-1000001) Mz r120_ M121_) ∧ (r120_.toInt = (-1000001)) ∧ r_ = r120_ ∧ M_ = M121_))
theorem lf_c_X12_safe_5 (Mz : mM) (v : Int32) (r7_ : Int32) (z12_ : Int32) (j16_ : Nat) (z14_ : Int32) (r19_ : Int32) (z24_ : Int32) (j28_ : Nat) (z26_ : Int32) (h4_ : 0 ≤ v.toInt ∧ v.toInt ≤ 7) (h10_ : r7_.toInt = 180 + 9 * v.toInt) (h13_ : z12_.toInt = r7_.toInt + 1) (h17_ : (j16_ : Int) = z12_.toInt) (e15_ : z14_ = Mz.1 (50, 0, 0) j16_) (h18_ : 0 ≤ z14_.toInt ∧ z14_.toInt ≤ 191) (h22_ : r19_.toInt = 180 + 9 * v.toInt) (h25_ : z24_.toInt = r19_.toInt + 2) (h29_ : (j28_ : Int) = z24_.toInt) (e27_ : z26_ = Mz.1 (50, 0, 0) j28_) : 180 ≤ j28_ ∧ j28_ < 252 ∧ j28_ % 9 = 2 := by have r_v := rngI v; have r_r7_ := rngI r7_; have r_z12_ := rngI z12_; have r_z14_ := rngI z14_; have r_r19_ := rngI r19_; have r_z24_ := rngI z24_; have r_z26_ := rngI z26_; subst e15_; subst e27_; omega
theorem lf_c_X12_safe_6 (z14_ : Int32) (z26_ : Int32) (r31_ : Int32) (h34_ : 0 ≤ r31_.toInt ∧ r31_.toInt ≤ 12 ∧ upI z14_ z26_ r31_.toInt) : -2147483648 ≤ r31_.toInt - 1 ∧ r31_.toInt - 1 < 2147483648 := by omega
set_option maxHeartbeats 4000000 in
set_option maxRecDepth 100000 in
theorem c_X12_safe (l : Launch) (G : va_G) (cy : Nat → ClassId) (ad : rf → Nat) (d : Nat) (v : Int32) (Mz : mM) (hIz : InvD Mz) : WP DD l G cy ad yX12_safe cX12_safe 7 (some .int) (d + 5) 0 [(0, vR (12, 0, 0)), (1, vI v)] [] Mz (fun r M' => InvD M' ∧ FR (S_c_X12_safe) Mz M' ∧ (True) ∧ SP_X12_safe v Mz r M') := by
  have hFz : FR (S_c_X12_safe) Mz Mz := FR.self
  refine w_aload_n dX12_safe_0 rfl 0 rfl ?_
  refine w_iload_n dX12_safe_1 rfl 1 rfl ?_
  refine w_iconst (v := 2) dX12_safe_2 (by decide) ?_
  refine w_callV (as := [vI v, vI 2]) (rest := []) (c_is2 l G cy ad (d + 3) v Mz hIz) kV_X12_is pnn_17 (Nat.le_of_ble_eq_true rfl) m_1465 rfl rfl rfl ic_12 rfl rfl (by decide) (Nat.le_of_ble_eq_true rfl) dX12_safe_3 (fun r1_ M2_ q3_ => ?_)
  obtain ⟨rfl, h4_, hs5_⟩ := q3_
  rcases h4_ with ⟨rfl, h4_⟩ | rfl
  · refine w_if_ne (tgt := 16) dX12_safe_6 (by decide) li_1 (fun h6_ => ?_) (fun h9 => (absurd h9 (by decide)))
    refine w_aload_n dX12_safe_16 rfl 0 rfl ?_
    refine w_getR (c' := (50, 0, 0)) fl_RX12_9 rfl rfl ic_12 dX12_safe_17 rfl ?_
    refine w_aload_n dX12_safe_20 rfl 0 rfl ?_
    refine w_iload_n dX12_safe_21 rfl 1 rfl ?_
    refine w_callV (as := [vI v]) (rest := [vR (50, 0, 0)]) (c_X12_goer l G cy ad (d + 4) v Mz hIz h4_) kV_X12_goer pnn_17 (Nat.le_of_ble_eq_true rfl) m_1451 rfl rfl rfl ic_12 rfl rfl (by decide) (Nat.le_of_ble_eq_true rfl) dX12_safe_22 (fun r7_ M8_ q9_ => ?_)
    obtain ⟨rfl, h10_, hs11_⟩ := q9_
    refine w_iconst (v := 1) dX12_safe_25 (by decide) ?_
    refine w_iaddB dX12_safe_26 (rfl : r7_.toInt = r7_.toInt) li_1 (lf_c_X12_echo_0 v r7_ h4_ h10_ ) (fun z12_ h13_ => ?_)
    refine w_iald rfl rfl ic_50 (rfl : z12_.toInt = z12_.toInt) (lf_c_X12_echo_1 v r7_ z12_ h4_ h10_ h13_ ) dX12_safe_27 (fun j16_ h17_ z14_ e15_ => ?_)
    have h18_ : 0 ≤ z14_.toInt ∧ z14_.toInt ≤ 191 := pn_wc hIz e15_ (lf_c_X12_echo_2 Mz v r7_ z12_ j16_ z14_ h4_ h10_ h13_ h17_ e15_ )
    refine w_istore_n (ls' := [(2, vI z14_), (0, vR (12, 0, 0)), (1, vI v)]) dX12_safe_28 rfl (by decide) rfl ?_
    refine w_aload_n dX12_safe_29 rfl 1 rfl ?_
    refine w_getR (c' := (50, 0, 0)) fl_RX12_9 rfl rfl ic_12 dX12_safe_30 rfl ?_
    refine w_aload_n dX12_safe_33 rfl 1 rfl ?_
    refine w_iload_n dX12_safe_34 rfl 2 rfl ?_
    refine w_callV (as := [vI v]) (rest := [vR (50, 0, 0)]) (c_X12_goer l G cy ad (d + 4) v Mz hIz h4_) kV_X12_goer pnn_17 (Nat.le_of_ble_eq_true rfl) m_1451 rfl rfl rfl ic_12 rfl rfl (by decide) (Nat.le_of_ble_eq_true rfl) dX12_safe_35 (fun r19_ M20_ q21_ => ?_)
    obtain ⟨rfl, h22_, hs23_⟩ := q21_
    refine w_iconst (v := 2) dX12_safe_38 (by decide) ?_
    refine w_iaddB dX12_safe_39 (rfl : r19_.toInt = r19_.toInt) li_2 (lf_c_X12_echo_5 v r7_ z12_ j16_ r19_ h4_ h10_ h13_ h17_ h22_ ) (fun z24_ h25_ => ?_)
    refine w_iald rfl rfl ic_50 (rfl : z24_.toInt = z24_.toInt) (lf_c_X12_echo_6 v r19_ z24_ h4_ h22_ h25_ ) dX12_safe_40 (fun j28_ h29_ z26_ e27_ => ?_)
    have h30_ : 0 ≤ z26_.toInt ∧ z26_.toInt ≤ 7 := pn_ws hIz e27_ (lf_c_X12_safe_5 Mz v r7_ z12_ j16_ z14_ r19_ z24_ j28_ z26_ h4_ h10_ h13_ h17_ e15_ h18_ h22_ h25_ h29_ e27_ )
    refine w_istore_n (ls' := [(3, vI z26_), (2, vI z14_), (0, vR (12, 0, 0)), (1, vI v)]) dX12_safe_41 rfl (by decide) rfl ?_
    refine w_aload_n dX12_safe_42 rfl 2 rfl ?_
    refine w_iload_n dX12_safe_43 rfl 3 rfl ?_
    refine w_iload_n dX12_safe_44 rfl 1 rfl ?_
    refine w_iload_n dX12_safe_45 rfl 0 rfl ?_
    refine w_callV (as := [vI v, vI z14_, vI z26_]) (rest := []) (c_X12_heardFrom l G cy ad d v z14_ z26_ Mz hIz h4_ h30_) kV_X12_heardFrom pnn_17 (Nat.le_of_ble_eq_true rfl) m_1675 rfl rfl rfl ic_12 rfl rfl (by decide) (Nat.le_of_ble_eq_true rfl) dX12_safe_46 (fun r31_ M32_ q33_ => ?_)
    obtain ⟨hI35_, hF36_, h34_, hs38_⟩ := q33_
    have hF37_ := hFz.tr hF36_ (fun c k => (fun h => h.elim (fun h => (Or.inl ⟨h.1, h.2.1, h.2.2⟩)) (fun h => h.elim (fun h => (Or.inr (Or.inl ⟨h.1, h.2.1, h.2.2⟩))) (fun h => h.elim (fun h => (Or.inr (Or.inr (Or.inl ⟨h.1, h.2.1, h.2.2⟩)))) (fun h => h.elim (fun h => (Or.inr (Or.inr (Or.inr (Or.inl ⟨h.1, h.2.1, h.2.2⟩))))) (fun h => h.elim (fun h => (Or.inr (Or.inr (Or.inr (Or.inr (Or.inl ⟨h.1, h.2⟩)))))) (fun h => h.elim)))))))
    refine w_istore (ls' := [(4, vI r31_), (3, vI z26_), (2, vI z14_), (0, vR (12, 0, 0)), (1, vI v)]) dX12_safe_49 (by decide) rfl ?_
    refine w_iload dX12_safe_51 0 rfl ?_
    refine w_iconst (v := 1) dX12_safe_53 (by decide) ?_
    refine w_isubB dX12_safe_54 (rfl : r31_.toInt = r31_.toInt) li_1 (lf_c_X12_safe_6 z14_ z26_ r31_ h34_ ) (fun z39_ h40_ => ?_)
    refine w_istore (ls' := [(5, vI z39_), (4, vI r31_), (3, vI z26_), (2, vI z14_), (0, vR (12, 0, 0)), (1, vI v)]) dX12_safe_55 (by decide) rfl ?_
    refine w_iload dX12_safe_57 1 rfl ?_
    refine w_if_ne (tgt := 110) dX12_safe_59 (by decide) (rfl : r31_.toInt = r31_.toInt) (fun h41_ => ?_) (fun h41_ => ?_)
    · refine w_iconst (v := 0) dX12_safe_110 (by decide) ?_
      refine w_istore (ls' := [(6, vI 0), (5, vI z39_), (4, vI r31_), (3, vI z26_), (2, vI z14_), (0, vR (12, 0, 0)), (1, vI v)]) dX12_safe_111 (by decide) rfl ?_
      have lp42_ : ∀ (nn_113 : Nat) (v6_113 : Int32) (hv0_113 : 0 ≤ v6_113.toInt) (hv1_113 : v6_113.toInt ≤ 9) (hL_113 : RCH (fun x_ y_ => ST_X12_safe_113 z39_ x_ y_) (0 : Int32) v6_113), (2147483648 - v6_113.toInt).toNat < nn_113 → WP DD l G cy ad yX12_safe cX12_safe 7 (some .int) (d + 5) 113 [(6, vI v6_113), (5, vI z39_), (4, vI r31_), (3, vI z26_), (2, vI z14_), (0, vR (12, 0, 0)), (1, vI v)] [] M32_ (fun r M' => InvD M' ∧ FR (S_c_X12_safe) Mz M' ∧ (True) ∧ SP_X12_safe v Mz r M') := by
        intro nn_113
        induction nn_113 with
        | zero => intro v6_113 hv0_113 hv1_113 hL_113 hm_113; exact absurd hm_113 (Nat.not_lt_zero _)
        | succ nn_113 ih_113 =>
          intro v6_113 hv0_113 hv1_113 hL_113 hm_113
          refine w_iload dX12_safe_113 0 rfl ?_
          refine w_bipush (v := 9) dX12_safe_115 (by decide) ?_
          refine w_icmp_ge (tgt := 142) dX12_safe_117 (by decide) (rfl : v6_113.toInt = v6_113.toInt) li_9 (fun h43_ => ?_) (fun h43_ => ?_)
          · refine w_iload dX12_safe_142 0 rfl ?_
            exact w_iret rfl dX12_safe_144 ⟨hI35_, hF37_, trivial, (Or.inl ⟨hs5_, h4_, r7_, hs11_, h10_, z12_, h13_, j16_, h17_, z14_, e15_, h18_, r19_, hs23_, h22_, z24_, h25_, j28_, h29_, z26_, e27_, h30_, M32_, hI35_, hF36_, r31_, hs38_, h34_, z39_, h40_, (Or.inl ⟨h41_, v6_113, hv0_113, hv1_113, hL_113, (Or.inl ⟨h43_, rfl, rfl⟩)⟩)⟩)⟩
          · refine w_iload dX12_safe_120 0 rfl ?_
            refine w_iconst (v := 1) dX12_safe_122 (by decide) ?_
            refine w_iaddB dX12_safe_123 (rfl : v6_113.toInt = v6_113.toInt) li_1 (lf_c_X11_safe_0 v6_113 hv0_113 h43_ ) (fun z44_ h45_ => ?_)
            refine w_iload dX12_safe_124 0 rfl ?_
            refine w_iconst (v := 2) dX12_safe_126 (by decide) ?_
            refine w_iaddB dX12_safe_127 (rfl : v6_113.toInt = v6_113.toInt) li_2 (lf_c_X11_safe_1 v6_113 hv0_113 h43_ ) (fun z46_ h47_ => ?_)
            refine w_imul dX12_safe_128 (fun z48_ h49_ => ?_)
            refine w_iconst (v := 2) dX12_safe_129 (by decide) ?_
            refine w_idiv dX12_safe_130 (by decide) (fun z50_ h51_ => ?_)
            refine w_iload dX12_safe_131 1 rfl ?_
            refine w_icmp_gt (tgt := 142) dX12_safe_133 (by decide) (rfl : z50_.toInt = z50_.toInt) (rfl : z39_.toInt = z39_.toInt) (fun h52_ => ?_) (fun h52_ => ?_)
            · refine w_iload dX12_safe_142 0 rfl ?_
              exact w_iret rfl dX12_safe_144 ⟨hI35_, hF37_, trivial, (Or.inl ⟨hs5_, h4_, r7_, hs11_, h10_, z12_, h13_, j16_, h17_, z14_, e15_, h18_, r19_, hs23_, h22_, z24_, h25_, j28_, h29_, z26_, e27_, h30_, M32_, hI35_, hF36_, r31_, hs38_, h34_, z39_, h40_, (Or.inl ⟨h41_, v6_113, hv0_113, hv1_113, hL_113, (Or.inr ⟨h43_, z44_, h45_, z46_, h47_, z48_, h49_, z50_, h51_, h52_, rfl, rfl⟩)⟩)⟩)⟩
            · refine w_iincB (j := 0) (f := fun z53_ => [(6, vI z53_), (5, vI z39_), (4, vI r31_), (3, vI z26_), (2, vI z14_), (0, vR (12, 0, 0)), (1, vI v)]) dX12_safe_136 rfl (by decide) (fun _ => rfl) (rfl : v6_113.toInt = v6_113.toInt) li_1 (lf_c_X11_safe_0 v6_113 hv0_113 h43_ ) (fun z53_ h54_ => ?_)
              refine w_goto (tgt := 113) dX12_safe_139 (by decide) ?_
              refine w_loc (ls' := [(6, vI z53_), (5, vI z39_), (4, vI r31_), (3, vI z26_), (2, vI z14_), (0, vR (12, 0, 0)), (1, vI v)]) [0, 1, 2, 3, 4, 5, 6] rfl ?_
              exact ih_113 z53_ (lf_c_X5_takeFrom_3 v6_113 z53_ hv0_113 h54_ ) (lf_c_X11_safe_4 v6_113 z53_ h43_ h54_ ) (RCH.tail hL_113 ⟨hv0_113, hv1_113, h43_, z44_, h45_, z46_, h47_, z48_, h49_, z50_, h51_, h52_, z53_, h54_, rfl⟩) (Nat.lt_of_lt_of_le (lf_c_X11_safe_5 v6_113 z53_ h43_ h54_ ) (Nat.le_of_lt_succ hm_113))
      exact lp42_ _ 0 (lf_c_X5_takeFrom_5 ) (lf_c_X0_measure_22 ) RCH.refl (Nat.lt_succ_self _)
    · refine w_iconst (v := 0) dX12_safe_62 (by decide) ?_
      refine w_istore (ls' := [(5, vI 0), (4, vI r31_), (3, vI z26_), (2, vI z14_), (0, vR (12, 0, 0)), (1, vI v)]) dX12_safe_63 (by decide) rfl ?_
      have lp55_ : ∀ (nn_65 : Nat) (v5_65 : Int32) (hv0_65 : 0 ≤ v5_65.toInt) (hv1_65 : v5_65.toInt ≤ 15) (hv2_65 : v5_65.toInt ≤ 15) (hL_65 : RCH (fun x_ y_ => ST_X12_safe_65 v z14_ z26_ M32_ x_ y_) (0 : Int32) v5_65), (2147483648 - v5_65.toInt).toNat < nn_65 → WP DD l G cy ad yX12_safe cX12_safe 7 (some .int) (d + 5) 65 [(5, vI v5_65), (4, vI r31_), (3, vI z26_), (2, vI z14_), (0, vR (12, 0, 0)), (1, vI v)] [] M32_ (fun r M' => InvD M' ∧ FR (S_c_X12_safe) Mz M' ∧ (True) ∧ SP_X12_safe v Mz r M') := by
        intro nn_65
        induction nn_65 with
        | zero => intro v5_65 hv0_65 hv1_65 hv2_65 hL_65 hm_65; exact absurd hm_65 (Nat.not_lt_zero _)
        | succ nn_65 ih_65 =>
          intro v5_65 hv0_65 hv1_65 hv2_65 hL_65 hm_65
          refine w_iload dX12_safe_65 0 rfl ?_
          refine w_bipush (v := 15) dX12_safe_67 (by decide) ?_
          refine w_icmp_ge (tgt := 110) dX12_safe_69 (by decide) (rfl : v5_65.toInt = v5_65.toInt) li_15 (fun h56_ => ?_) (fun h56_ => ?_)
          · refine w_iconst (v := 0) dX12_safe_110 (by decide) ?_
            refine w_istore (ls' := [(6, vI 0), (5, vI v5_65), (4, vI r31_), (3, vI z26_), (2, vI z14_), (0, vR (12, 0, 0)), (1, vI v)]) dX12_safe_111 (by decide) rfl ?_
            have lp57_ : ∀ (nn_113 : Nat) (v6_113 : Int32) (hv0_113 : 0 ≤ v6_113.toInt) (hv1_113 : v6_113.toInt ≤ 9) (hL_113 : RCH (fun x_ y_ => ST_X12_safe_113b v5_65 x_ y_) (0 : Int32) v6_113), (2147483648 - v6_113.toInt).toNat < nn_113 → WP DD l G cy ad yX12_safe cX12_safe 7 (some .int) (d + 5) 113 [(6, vI v6_113), (5, vI v5_65), (4, vI r31_), (3, vI z26_), (2, vI z14_), (0, vR (12, 0, 0)), (1, vI v)] [] M32_ (fun r M' => InvD M' ∧ FR (S_c_X12_safe) Mz M' ∧ (True) ∧ SP_X12_safe v Mz r M') := by
              intro nn_113
              induction nn_113 with
              | zero => intro v6_113 hv0_113 hv1_113 hL_113 hm_113; exact absurd hm_113 (Nat.not_lt_zero _)
              | succ nn_113 ih_113 =>
                intro v6_113 hv0_113 hv1_113 hL_113 hm_113
                refine w_iload dX12_safe_113 0 rfl ?_
                refine w_bipush (v := 9) dX12_safe_115 (by decide) ?_
                refine w_icmp_ge (tgt := 142) dX12_safe_117 (by decide) (rfl : v6_113.toInt = v6_113.toInt) li_9 (fun h58_ => ?_) (fun h58_ => ?_)
                · refine w_iload dX12_safe_142 0 rfl ?_
                  exact w_iret rfl dX12_safe_144 ⟨hI35_, hF37_, trivial, (Or.inl ⟨hs5_, h4_, r7_, hs11_, h10_, z12_, h13_, j16_, h17_, z14_, e15_, h18_, r19_, hs23_, h22_, z24_, h25_, j28_, h29_, z26_, e27_, h30_, M32_, hI35_, hF36_, r31_, hs38_, h34_, z39_, h40_, (Or.inr ⟨h41_, v5_65, hv0_65, hv1_65, hv2_65, hL_65, (Or.inl ⟨h56_, v6_113, hv0_113, hv1_113, hL_113, (Or.inl ⟨h58_, rfl, rfl⟩)⟩)⟩)⟩)⟩
                · refine w_iload dX12_safe_120 0 rfl ?_
                  refine w_iconst (v := 1) dX12_safe_122 (by decide) ?_
                  refine w_iaddB dX12_safe_123 (rfl : v6_113.toInt = v6_113.toInt) li_1 (lf_c_X11_safe_0 v6_113 hv0_113 h58_ ) (fun z59_ h60_ => ?_)
                  refine w_iload dX12_safe_124 0 rfl ?_
                  refine w_iconst (v := 2) dX12_safe_126 (by decide) ?_
                  refine w_iaddB dX12_safe_127 (rfl : v6_113.toInt = v6_113.toInt) li_2 (lf_c_X11_safe_1 v6_113 hv0_113 h58_ ) (fun z61_ h62_ => ?_)
                  refine w_imul dX12_safe_128 (fun z63_ h64_ => ?_)
                  refine w_iconst (v := 2) dX12_safe_129 (by decide) ?_
                  refine w_idiv dX12_safe_130 (by decide) (fun z65_ h66_ => ?_)
                  refine w_iload dX12_safe_131 1 rfl ?_
                  refine w_icmp_gt (tgt := 142) dX12_safe_133 (by decide) (rfl : z65_.toInt = z65_.toInt) (rfl : v5_65.toInt = v5_65.toInt) (fun h67_ => ?_) (fun h67_ => ?_)
                  · refine w_iload dX12_safe_142 0 rfl ?_
                    exact w_iret rfl dX12_safe_144 ⟨hI35_, hF37_, trivial, (Or.inl ⟨hs5_, h4_, r7_, hs11_, h10_, z12_, h13_, j16_, h17_, z14_, e15_, h18_, r19_, hs23_, h22_, z24_, h25_, j28_, h29_, z26_, e27_, h30_, M32_, hI35_, hF36_, r31_, hs38_, h34_, z39_, h40_, (Or.inr ⟨h41_, v5_65, hv0_65, hv1_65, hv2_65, hL_65, (Or.inl ⟨h56_, v6_113, hv0_113, hv1_113, hL_113, (Or.inr ⟨h58_, z59_, h60_, z61_, h62_, z63_, h64_, z65_, h66_, h67_, rfl, rfl⟩)⟩)⟩)⟩)⟩
                  · refine w_iincB (j := 0) (f := fun z68_ => [(6, vI z68_), (5, vI v5_65), (4, vI r31_), (3, vI z26_), (2, vI z14_), (0, vR (12, 0, 0)), (1, vI v)]) dX12_safe_136 rfl (by decide) (fun _ => rfl) (rfl : v6_113.toInt = v6_113.toInt) li_1 (lf_c_X11_safe_0 v6_113 hv0_113 h58_ ) (fun z68_ h69_ => ?_)
                    refine w_goto (tgt := 113) dX12_safe_139 (by decide) ?_
                    refine w_loc (ls' := [(6, vI z68_), (5, vI v5_65), (4, vI r31_), (3, vI z26_), (2, vI z14_), (0, vR (12, 0, 0)), (1, vI v)]) [0, 1, 2, 3, 4, 5, 6] rfl ?_
                    exact ih_113 z68_ (lf_c_X5_takeFrom_3 v6_113 z68_ hv0_113 h69_ ) (lf_c_X11_safe_4 v6_113 z68_ h58_ h69_ ) (RCH.tail hL_113 ⟨hv0_113, hv1_113, h58_, z59_, h60_, z61_, h62_, z63_, h64_, z65_, h66_, h67_, z68_, h69_, rfl⟩) (Nat.lt_of_lt_of_le (lf_c_X11_safe_5 v6_113 z68_ h58_ h69_ ) (Nat.le_of_lt_succ hm_113))
            exact lp57_ _ 0 (lf_c_X5_takeFrom_5 ) (lf_c_X0_measure_22 ) RCH.refl (Nat.lt_succ_self _)
          · refine w_aload_n dX12_safe_72 rfl 4 rfl ?_
            refine w_iload_n dX12_safe_73 rfl 3 rfl ?_
            refine w_iload_n dX12_safe_74 rfl 2 rfl ?_
            refine w_iload dX12_safe_75 0 rfl ?_
            refine w_iconst (v := 1) dX12_safe_77 (by decide) ?_
            refine w_iaddB dX12_safe_78 (rfl : v5_65.toInt = v5_65.toInt) li_1 (lf_c_X9_yardsHeldFree_0 v5_65 hv0_65 h56_ ) (fun z70_ h71_ => ?_)
            refine w_callV (as := [vI z14_, vI z26_, vI z70_]) (rest := []) (c_X12_on l G cy ad (d + 3) z14_ z26_ z70_ M32_ hI35_ h30_) kV_X12_on pnn_17 (Nat.le_of_ble_eq_true rfl) m_1632 rfl rfl rfl ic_12 rfl rfl (by decide) (Nat.le_of_ble_eq_true rfl) dX12_safe_79 (fun r72_ M73_ q74_ => ?_)
            obtain ⟨rfl, h75_, hs76_⟩ := q74_
            refine w_if_lt (tgt := 110) dX12_safe_82 (by decide) (rfl : r72_.toInt = r72_.toInt) (fun h77_ => ?_) (fun h77_ => ?_)
            · refine w_iconst (v := 0) dX12_safe_110 (by decide) ?_
              refine w_istore (ls' := [(6, vI 0), (5, vI v5_65), (4, vI r31_), (3, vI z26_), (2, vI z14_), (0, vR (12, 0, 0)), (1, vI v)]) dX12_safe_111 (by decide) rfl ?_
              have lp78_ : ∀ (nn_113 : Nat) (v6_113 : Int32) (hv0_113 : 0 ≤ v6_113.toInt) (hv1_113 : v6_113.toInt ≤ 9) (hL_113 : RCH (fun x_ y_ => ST_X12_safe_113c v5_65 x_ y_) (0 : Int32) v6_113), (2147483648 - v6_113.toInt).toNat < nn_113 → WP DD l G cy ad yX12_safe cX12_safe 7 (some .int) (d + 5) 113 [(6, vI v6_113), (5, vI v5_65), (4, vI r31_), (3, vI z26_), (2, vI z14_), (0, vR (12, 0, 0)), (1, vI v)] [] M32_ (fun r M' => InvD M' ∧ FR (S_c_X12_safe) Mz M' ∧ (True) ∧ SP_X12_safe v Mz r M') := by
                intro nn_113
                induction nn_113 with
                | zero => intro v6_113 hv0_113 hv1_113 hL_113 hm_113; exact absurd hm_113 (Nat.not_lt_zero _)
                | succ nn_113 ih_113 =>
                  intro v6_113 hv0_113 hv1_113 hL_113 hm_113
                  refine w_iload dX12_safe_113 0 rfl ?_
                  refine w_bipush (v := 9) dX12_safe_115 (by decide) ?_
                  refine w_icmp_ge (tgt := 142) dX12_safe_117 (by decide) (rfl : v6_113.toInt = v6_113.toInt) li_9 (fun h79_ => ?_) (fun h79_ => ?_)
                  · refine w_iload dX12_safe_142 0 rfl ?_
                    exact w_iret rfl dX12_safe_144 ⟨hI35_, hF37_, trivial, (Or.inl ⟨hs5_, h4_, r7_, hs11_, h10_, z12_, h13_, j16_, h17_, z14_, e15_, h18_, r19_, hs23_, h22_, z24_, h25_, j28_, h29_, z26_, e27_, h30_, M32_, hI35_, hF36_, r31_, hs38_, h34_, z39_, h40_, (Or.inr ⟨h41_, v5_65, hv0_65, hv1_65, hv2_65, hL_65, (Or.inr ⟨h56_, z70_, h71_, r72_, hs76_, h75_, (Or.inl ⟨h77_, v6_113, hv0_113, hv1_113, hL_113, (Or.inl ⟨h79_, rfl, rfl⟩)⟩)⟩)⟩)⟩)⟩
                  · refine w_iload dX12_safe_120 0 rfl ?_
                    refine w_iconst (v := 1) dX12_safe_122 (by decide) ?_
                    refine w_iaddB dX12_safe_123 (rfl : v6_113.toInt = v6_113.toInt) li_1 (lf_c_X11_safe_0 v6_113 hv0_113 h79_ ) (fun z80_ h81_ => ?_)
                    refine w_iload dX12_safe_124 0 rfl ?_
                    refine w_iconst (v := 2) dX12_safe_126 (by decide) ?_
                    refine w_iaddB dX12_safe_127 (rfl : v6_113.toInt = v6_113.toInt) li_2 (lf_c_X11_safe_1 v6_113 hv0_113 h79_ ) (fun z82_ h83_ => ?_)
                    refine w_imul dX12_safe_128 (fun z84_ h85_ => ?_)
                    refine w_iconst (v := 2) dX12_safe_129 (by decide) ?_
                    refine w_idiv dX12_safe_130 (by decide) (fun z86_ h87_ => ?_)
                    refine w_iload dX12_safe_131 1 rfl ?_
                    refine w_icmp_gt (tgt := 142) dX12_safe_133 (by decide) (rfl : z86_.toInt = z86_.toInt) (rfl : v5_65.toInt = v5_65.toInt) (fun h88_ => ?_) (fun h88_ => ?_)
                    · refine w_iload dX12_safe_142 0 rfl ?_
                      exact w_iret rfl dX12_safe_144 ⟨hI35_, hF37_, trivial, (Or.inl ⟨hs5_, h4_, r7_, hs11_, h10_, z12_, h13_, j16_, h17_, z14_, e15_, h18_, r19_, hs23_, h22_, z24_, h25_, j28_, h29_, z26_, e27_, h30_, M32_, hI35_, hF36_, r31_, hs38_, h34_, z39_, h40_, (Or.inr ⟨h41_, v5_65, hv0_65, hv1_65, hv2_65, hL_65, (Or.inr ⟨h56_, z70_, h71_, r72_, hs76_, h75_, (Or.inl ⟨h77_, v6_113, hv0_113, hv1_113, hL_113, (Or.inr ⟨h79_, z80_, h81_, z82_, h83_, z84_, h85_, z86_, h87_, h88_, rfl, rfl⟩)⟩)⟩)⟩)⟩)⟩
                    · refine w_iincB (j := 0) (f := fun z89_ => [(6, vI z89_), (5, vI v5_65), (4, vI r31_), (3, vI z26_), (2, vI z14_), (0, vR (12, 0, 0)), (1, vI v)]) dX12_safe_136 rfl (by decide) (fun _ => rfl) (rfl : v6_113.toInt = v6_113.toInt) li_1 (lf_c_X11_safe_0 v6_113 hv0_113 h79_ ) (fun z89_ h90_ => ?_)
                      refine w_goto (tgt := 113) dX12_safe_139 (by decide) ?_
                      refine w_loc (ls' := [(6, vI z89_), (5, vI v5_65), (4, vI r31_), (3, vI z26_), (2, vI z14_), (0, vR (12, 0, 0)), (1, vI v)]) [0, 1, 2, 3, 4, 5, 6] rfl ?_
                      exact ih_113 z89_ (lf_c_X5_takeFrom_3 v6_113 z89_ hv0_113 h90_ ) (lf_c_X11_safe_4 v6_113 z89_ h79_ h90_ ) (RCH.tail hL_113 ⟨hv0_113, hv1_113, h79_, z80_, h81_, z82_, h83_, z84_, h85_, z86_, h87_, h88_, z89_, h90_, rfl⟩) (Nat.lt_of_lt_of_le (lf_c_X11_safe_5 v6_113 z89_ h79_ h90_ ) (Nat.le_of_lt_succ hm_113))
              exact lp78_ _ 0 (lf_c_X5_takeFrom_5 ) (lf_c_X0_measure_22 ) RCH.refl (Nat.lt_succ_self _)
            · refine w_aload_n dX12_safe_85 rfl 4 rfl ?_
              refine w_iload_n dX12_safe_86 rfl 5 rfl ?_
              refine w_aload_n dX12_safe_87 rfl 4 rfl ?_
              refine w_iload_n dX12_safe_88 rfl 3 rfl ?_
              refine w_iload_n dX12_safe_89 rfl 2 rfl ?_
              refine w_iload dX12_safe_90 0 rfl ?_
              refine w_iconst (v := 1) dX12_safe_92 (by decide) ?_
              refine w_iaddB dX12_safe_93 (rfl : v5_65.toInt = v5_65.toInt) li_1 (lf_c_X9_yardsHeldFree_0 v5_65 hv0_65 h56_ ) (fun z91_ h92_ => ?_)
              refine w_callV (as := [vI z14_, vI z26_, vI z91_]) (rest := [vI v, vR (12, 0, 0)]) (c_X12_on l G cy ad (d + 3) z14_ z26_ z91_ M32_ hI35_ h30_) kV_X12_on pnn_17 (Nat.le_of_ble_eq_true rfl) m_1632 rfl rfl rfl ic_12 rfl rfl (by decide) (Nat.le_of_ble_eq_true rfl) dX12_safe_94 (fun r93_ M94_ q95_ => ?_)
              obtain ⟨rfl, h96_, hs97_⟩ := q95_
              refine w_callV (as := [vI v, vI r93_]) (rest := []) (c_X12_held l G cy ad (d + 2) v r93_ M32_ hI35_ h4_ (lf_c_X12_clicks_13 z14_ z26_ z91_ r93_ h96_ )) kV_X12_held pnn_17 (Nat.le_of_ble_eq_true rfl) m_1695 rfl rfl rfl ic_12 rfl rfl (by decide) (Nat.le_of_ble_eq_true rfl) dX12_safe_97 (fun r98_ M99_ q100_ => ?_)
              obtain ⟨rfl, h101_, hs102_⟩ := q100_
              refine w_iconst (v := 1) dX12_safe_100 (by decide) ?_
              refine w_icmp_ne (tgt := 110) dX12_safe_101 (by decide) (rfl : r98_.toInt = r98_.toInt) li_1 (fun h103_ => ?_) (fun h103_ => ?_)
              · refine w_iconst (v := 0) dX12_safe_110 (by decide) ?_
                refine w_istore (ls' := [(6, vI 0), (5, vI v5_65), (4, vI r31_), (3, vI z26_), (2, vI z14_), (0, vR (12, 0, 0)), (1, vI v)]) dX12_safe_111 (by decide) rfl ?_
                have lp104_ : ∀ (nn_113 : Nat) (v6_113 : Int32) (hv0_113 : 0 ≤ v6_113.toInt) (hv1_113 : v6_113.toInt ≤ 9) (hL_113 : RCH (fun x_ y_ => ST_X12_safe_113d v5_65 x_ y_) (0 : Int32) v6_113), (2147483648 - v6_113.toInt).toNat < nn_113 → WP DD l G cy ad yX12_safe cX12_safe 7 (some .int) (d + 5) 113 [(6, vI v6_113), (5, vI v5_65), (4, vI r31_), (3, vI z26_), (2, vI z14_), (0, vR (12, 0, 0)), (1, vI v)] [] M32_ (fun r M' => InvD M' ∧ FR (S_c_X12_safe) Mz M' ∧ (True) ∧ SP_X12_safe v Mz r M') := by
                  intro nn_113
                  induction nn_113 with
                  | zero => intro v6_113 hv0_113 hv1_113 hL_113 hm_113; exact absurd hm_113 (Nat.not_lt_zero _)
                  | succ nn_113 ih_113 =>
                    intro v6_113 hv0_113 hv1_113 hL_113 hm_113
                    refine w_iload dX12_safe_113 0 rfl ?_
                    refine w_bipush (v := 9) dX12_safe_115 (by decide) ?_
                    refine w_icmp_ge (tgt := 142) dX12_safe_117 (by decide) (rfl : v6_113.toInt = v6_113.toInt) li_9 (fun h105_ => ?_) (fun h105_ => ?_)
                    · refine w_iload dX12_safe_142 0 rfl ?_
                      exact w_iret rfl dX12_safe_144 ⟨hI35_, hF37_, trivial, (Or.inl ⟨hs5_, h4_, r7_, hs11_, h10_, z12_, h13_, j16_, h17_, z14_, e15_, h18_, r19_, hs23_, h22_, z24_, h25_, j28_, h29_, z26_, e27_, h30_, M32_, hI35_, hF36_, r31_, hs38_, h34_, z39_, h40_, (Or.inr ⟨h41_, v5_65, hv0_65, hv1_65, hv2_65, hL_65, (Or.inr ⟨h56_, z70_, h71_, r72_, hs76_, h75_, (Or.inr ⟨h77_, z91_, h92_, r93_, hs97_, h96_, r98_, hs102_, h101_, h103_, v6_113, hv0_113, hv1_113, hL_113, (Or.inl ⟨h105_, rfl, rfl⟩)⟩)⟩)⟩)⟩)⟩
                    · refine w_iload dX12_safe_120 0 rfl ?_
                      refine w_iconst (v := 1) dX12_safe_122 (by decide) ?_
                      refine w_iaddB dX12_safe_123 (rfl : v6_113.toInt = v6_113.toInt) li_1 (lf_c_X11_safe_0 v6_113 hv0_113 h105_ ) (fun z106_ h107_ => ?_)
                      refine w_iload dX12_safe_124 0 rfl ?_
                      refine w_iconst (v := 2) dX12_safe_126 (by decide) ?_
                      refine w_iaddB dX12_safe_127 (rfl : v6_113.toInt = v6_113.toInt) li_2 (lf_c_X11_safe_1 v6_113 hv0_113 h105_ ) (fun z108_ h109_ => ?_)
                      refine w_imul dX12_safe_128 (fun z110_ h111_ => ?_)
                      refine w_iconst (v := 2) dX12_safe_129 (by decide) ?_
                      refine w_idiv dX12_safe_130 (by decide) (fun z112_ h113_ => ?_)
                      refine w_iload dX12_safe_131 1 rfl ?_
                      refine w_icmp_gt (tgt := 142) dX12_safe_133 (by decide) (rfl : z112_.toInt = z112_.toInt) (rfl : v5_65.toInt = v5_65.toInt) (fun h114_ => ?_) (fun h114_ => ?_)
                      · refine w_iload dX12_safe_142 0 rfl ?_
                        exact w_iret rfl dX12_safe_144 ⟨hI35_, hF37_, trivial, (Or.inl ⟨hs5_, h4_, r7_, hs11_, h10_, z12_, h13_, j16_, h17_, z14_, e15_, h18_, r19_, hs23_, h22_, z24_, h25_, j28_, h29_, z26_, e27_, h30_, M32_, hI35_, hF36_, r31_, hs38_, h34_, z39_, h40_, (Or.inr ⟨h41_, v5_65, hv0_65, hv1_65, hv2_65, hL_65, (Or.inr ⟨h56_, z70_, h71_, r72_, hs76_, h75_, (Or.inr ⟨h77_, z91_, h92_, r93_, hs97_, h96_, r98_, hs102_, h101_, h103_, v6_113, hv0_113, hv1_113, hL_113, (Or.inr ⟨h105_, z106_, h107_, z108_, h109_, z110_, h111_, z112_, h113_, h114_, rfl, rfl⟩)⟩)⟩)⟩)⟩)⟩
                      · refine w_iincB (j := 0) (f := fun z115_ => [(6, vI z115_), (5, vI v5_65), (4, vI r31_), (3, vI z26_), (2, vI z14_), (0, vR (12, 0, 0)), (1, vI v)]) dX12_safe_136 rfl (by decide) (fun _ => rfl) (rfl : v6_113.toInt = v6_113.toInt) li_1 (lf_c_X11_safe_0 v6_113 hv0_113 h105_ ) (fun z115_ h116_ => ?_)
                        refine w_goto (tgt := 113) dX12_safe_139 (by decide) ?_
                        refine w_loc (ls' := [(6, vI z115_), (5, vI v5_65), (4, vI r31_), (3, vI z26_), (2, vI z14_), (0, vR (12, 0, 0)), (1, vI v)]) [0, 1, 2, 3, 4, 5, 6] rfl ?_
                        exact ih_113 z115_ (lf_c_X5_takeFrom_3 v6_113 z115_ hv0_113 h116_ ) (lf_c_X11_safe_4 v6_113 z115_ h105_ h116_ ) (RCH.tail hL_113 ⟨hv0_113, hv1_113, h105_, z106_, h107_, z108_, h109_, z110_, h111_, z112_, h113_, h114_, z115_, h116_, rfl⟩) (Nat.lt_of_lt_of_le (lf_c_X11_safe_5 v6_113 z115_ h105_ h116_ ) (Nat.le_of_lt_succ hm_113))
                exact lp104_ _ 0 (lf_c_X5_takeFrom_5 ) (lf_c_X0_measure_22 ) RCH.refl (Nat.lt_succ_self _)
              · refine w_iincB (j := 0) (f := fun z117_ => [(5, vI z117_), (4, vI r31_), (3, vI z26_), (2, vI z14_), (0, vR (12, 0, 0)), (1, vI v)]) dX12_safe_104 rfl (by decide) (fun _ => rfl) (rfl : v5_65.toInt = v5_65.toInt) li_1 (lf_c_X9_yardsHeldFree_0 v5_65 hv0_65 h56_ ) (fun z117_ h118_ => ?_)
                refine w_goto (tgt := 65) dX12_safe_107 (by decide) ?_
                refine w_loc (ls' := [(5, vI z117_), (4, vI r31_), (3, vI z26_), (2, vI z14_), (0, vR (12, 0, 0)), (1, vI v)]) [0, 1, 2, 3, 4, 5] rfl ?_
                exact ih_65 z117_ (lf_c_X5_takeFrom_3 v5_65 z117_ hv0_65 h118_ ) (lf_c_X9_yardsHeldFree_3 v5_65 z117_ h56_ h118_ ) (lf_c_X9_yardsHeldFree_3 v5_65 z117_ h56_ h118_ ) (RCH.tail hL_65 ⟨hv0_65, hv1_65, hv2_65, h56_, z70_, h71_, r72_, hs76_, h75_, h77_, z91_, h92_, r93_, hs97_, h96_, r98_, hs102_, h101_, h103_, z117_, h118_, rfl⟩) (Nat.lt_of_lt_of_le (lf_c_X9_yardsHeldFree_4 v5_65 z117_ h56_ h118_ ) (Nat.le_of_lt_succ hm_65))
      exact lp55_ _ 0 (lf_c_X5_takeFrom_5 ) (lf_c_X9_yardsHeldFree_6 ) (lf_c_X9_yardsHeldFree_6 ) RCH.refl (Nat.lt_succ_self _)
  · refine w_if_ne (tgt := 16) dX12_safe_6 (by decide) li_0 (fun h9 => (absurd h9 (by decide))) (fun h119_ => ?_)
    refine w_aload_n dX12_safe_9 rfl 0 rfl ?_
    refine w_ldc (v := (-1000001)) m_1433 dX12_safe_10 ?_
    refine w_callV (as := [vI (-1000001)]) (rest := []) (c_X12_finding l G cy ad (d + 4) (-1000001) Mz hIz (by first | decide | (unfold vF; omega) | (unfold vRw; omega))) kV_X12_finding pnn_17 (Nat.le_of_ble_eq_true rfl) m_1434 rfl rfl rfl ic_12 rfl rfl (by decide) (Nat.le_of_ble_eq_true rfl) dX12_safe_12 (fun r120_ M121_ q122_ => ?_)
    obtain ⟨hI124_, hF125_, h123_, hs127_⟩ := q122_
    have hF126_ := hFz.tr hF125_ (fun c k => (fun h => h.elim (fun h => (Or.inr (Or.inr (Or.inr (Or.inr (Or.inr (Or.inl ⟨h.1, h.2⟩))))))) (fun h => h.elim)))
    simp only [li_m1000001] at h123_
    exact w_iret rfl dX12_safe_15 ⟨hI124_, hF126_, trivial, (Or.inr ⟨hs5_, M121_, hI124_, hF125_, r120_, hs127_, h123_, rfl, rfl⟩)⟩
def S_c_X12_lesson : rf → Nat → Prop := fun c k => (c.1 = 50 ∧ c.2.1 = 0) ∨ (c.1 = 53 ∧ c.2.1 = 0) ∨ False
def SP_X12_lesson (v : Int32) (u : Int32) (t : Int32) (Mz : mM) (r_ : Int32) (M_ : mM) : Prop := (((SP_X12_within v 0 31 Mz (1 : Int32)) ∧ (0 ≤ v.toInt ∧ v.toInt ≤ 31) ∧ (((SP_X12_within u 0 31 Mz (1 : Int32)) ∧ (0 ≤ u.toInt ∧ u.toInt ≤ 31) ∧ (((SP_X12_within t 1 99 Mz (1 : Int32)) ∧ (1 ≤ t.toInt ∧ t.toInt ≤ 99) ∧ ∃ z19_ : Int32, (z19_ = Mz.1 (50, 0, 0) 3) ∧ (0 ≤ z19_.toInt ∧ z19_.toInt ≤ 7) ∧ (((¬ z19_.toInt = 7) ∧ ∃ z24_ : Int32, (z24_.toInt = 3 * z19_.toInt) ∧ ∃ z26_ : Int32, (z26_.toInt = 252 + z24_.toInt) ∧ ∃ j30_ : Nat, ((j30_ : Int) = z26_.toInt) ∧ ∃ M28_ : mM, (M28_ = up Mz (50, 0, 0) j30_ v) ∧ ∃ z35_ : Int32, (z35_.toInt = 3 * z19_.toInt) ∧ ∃ z37_ : Int32, (z37_.toInt = 252 + z35_.toInt) ∧ ∃ z39_ : Int32, (z39_.toInt = z37_.toInt + 1) ∧ ∃ j43_ : Nat, ((j43_ : Int) = z39_.toInt) ∧ ∃ M41_ : mM, (M41_ = up M28_ (50, 0, 0) j43_ u) ∧ ∃ z48_ : Int32, (z48_.toInt = 3 * z19_.toInt) ∧ ∃ z50_ : Int32, (z50_.toInt = 252 + z48_.toInt) ∧ ∃ z52_ : Int32, (z52_.toInt = z50_.toInt + 2) ∧ ∃ j56_ : Nat, ((j56_ : Int) = z52_.toInt) ∧ ∃ M54_ : mM, (M54_ = up M41_ (50, 0, 0) j56_ t) ∧ ∃ z61_ : Int32, (z61_ = M54_.1 (50, 0, 0) 3) ∧ (z61_.toInt = z19_.toInt) ∧ (0 ≤ z61_.toInt ∧ z61_.toInt ≤ 7) ∧ ∃ z65_ : Int32, (z65_.toInt = z61_.toInt + 1) ∧ ∃ M67_ : mM, (M67_ = up M54_ (50, 0, 0) 3 z65_) ∧ r_ = z19_ ∧ M_ = M67_) ∨ ((z19_.toInt = 7) ∧ ∃ M72_ : mM, (InvD M72_) ∧ (FR (S_c_X12_finding) Mz M72_) ∧ ∃ r71_ : Int32, (SP_X12_finding (-1000004) Mz r71_ M72_) ∧ (r71_.toInt = (-1000004)) ∧ r_ = r71_ ∧ M_ = M72_))) ∨ ((SP_X12_within t 1 99 Mz (0 : Int32)) ∧ (¬ (1 ≤ t.toInt ∧ t.toInt ≤ 99)) ∧ ∃ M82_ : mM, (InvD M82_) ∧ (FR (S_c_X12_finding) Mz M82_) ∧ ∃ r81_ : Int32, (SP_X12_finding (-1000001) Mz r81_ M82_) ∧ (r81_.toInt = (-1000001)) ∧ r_ = r81_ ∧ M_ = M82_))) ∨ ((SP_X12_within u 0 31 Mz (0 : Int32)) ∧ (¬ (0 ≤ u.toInt ∧ u.toInt ≤ 31)) ∧ ∃ M91_ : mM, (InvD M91_) ∧ (FR (S_c_X12_finding) Mz M91_) ∧ ∃ r90_ : Int32, (SP_X12_finding (-1000001) Mz r90_ M91_) ∧ (r90_.toInt = (-1000001)) ∧ r_ = r90_ ∧ M_ = M91_))) ∨ ((SP_X12_within v 0 31 Mz (0 : Int32)) ∧ (¬ (0 ≤ v.toInt ∧ v.toInt ≤ 31)) ∧ ∃ M100_ : mM, (InvD M100_) ∧ (FR (S_c_X12_finding) Mz M100_) ∧ ∃ r99_ : Int32, (SP_X12_finding (-1000001) Mz r99_ M100_) ∧ (r99_.toInt = (-1000001)) ∧ r_ = r99_ ∧ M_ = M100_))
theorem lf_c_X12_lesson_0 (z19_ : Int32) (h22_ : 0 ≤ z19_.toInt ∧ z19_.toInt ≤ 7) : -2147483648 ≤ 3 * z19_.toInt ∧ 3 * z19_.toInt < 2147483648 := by omega
theorem lf_c_X12_lesson_1 (z19_ : Int32) (z24_ : Int32) (h22_ : 0 ≤ z19_.toInt ∧ z19_.toInt ≤ 7) (h25_ : z24_.toInt = 3 * z19_.toInt) : -2147483648 ≤ 252 + z24_.toInt ∧ 252 + z24_.toInt < 2147483648 := by omega
theorem lf_c_X12_lesson_2 (z19_ : Int32) (z24_ : Int32) (z26_ : Int32) (h22_ : 0 ≤ z19_.toInt ∧ z19_.toInt ≤ 7) (h25_ : z24_.toInt = 3 * z19_.toInt) (h27_ : z26_.toInt = 252 + z24_.toInt) : 0 ≤ z26_.toInt ∧ z26_.toInt < ((3567 : Nat) : Int) := by omega
theorem lf_c_X12_lesson_3 (M28_ : mM) (Mz : mM) (v : Int32) (z19_ : Int32) (z24_ : Int32) (z26_ : Int32) (j30_ : Nat) (h4_ : 0 ≤ v.toInt ∧ v.toInt ≤ 31) (e20_ : z19_ = Mz.1 (50, 0, 0) 3) (kf21_ : (Mz.1 (50, 0, 0) 3).toInt = z19_.toInt) (h22_ : 0 ≤ z19_.toInt ∧ z19_.toInt ≤ 7) (h23_ : ¬ z19_.toInt = 7) (h25_ : z24_.toInt = 3 * z19_.toInt) (h27_ : z26_.toInt = 252 + z24_.toInt) (h31_ : (j30_ : Int) = z26_.toInt) (hM29_ : M28_ = up Mz (50, 0, 0) j30_ v) : PN j30_ v ∧ (j30_ < 345 ∨ 493 < j30_) := by have r_v := rngI v; have r_z19_ := rngI z19_; have r_z24_ := rngI z24_; have r_z26_ := rngI z26_; subst e20_; unfold PN; omega
theorem lf_c_X12_lesson_4 (z19_ : Int32) (z24_ : Int32) (z26_ : Int32) (j30_ : Nat) (h22_ : 0 ≤ z19_.toInt ∧ z19_.toInt ≤ 7) (h25_ : z24_.toInt = 3 * z19_.toInt) (h27_ : z26_.toInt = 252 + z24_.toInt) (h31_ : (j30_ : Int) = z26_.toInt) : ¬ 3 = j30_ := by omega
theorem lf_c_X12_lesson_7 (z19_ : Int32) (z35_ : Int32) (z37_ : Int32) (h22_ : 0 ≤ z19_.toInt ∧ z19_.toInt ≤ 7) (h36_ : z35_.toInt = 3 * z19_.toInt) (h38_ : z37_.toInt = 252 + z35_.toInt) : -2147483648 ≤ z37_.toInt + 1 ∧ z37_.toInt + 1 < 2147483648 := by omega
theorem lf_c_X12_lesson_8 (z19_ : Int32) (z35_ : Int32) (z37_ : Int32) (z39_ : Int32) (h22_ : 0 ≤ z19_.toInt ∧ z19_.toInt ≤ 7) (h36_ : z35_.toInt = 3 * z19_.toInt) (h38_ : z37_.toInt = 252 + z35_.toInt) (h40_ : z39_.toInt = z37_.toInt + 1) : 0 ≤ z39_.toInt ∧ z39_.toInt < ((3567 : Nat) : Int) := by omega
theorem lf_c_X12_lesson_9 (M28_ : mM) (M41_ : mM) (Mz : mM) (v : Int32) (u : Int32) (z19_ : Int32) (z24_ : Int32) (z26_ : Int32) (j30_ : Nat) (z35_ : Int32) (z37_ : Int32) (z39_ : Int32) (j43_ : Nat) (h4_ : 0 ≤ v.toInt ∧ v.toInt ≤ 31) (h10_ : 0 ≤ u.toInt ∧ u.toInt ≤ 31) (e20_ : z19_ = Mz.1 (50, 0, 0) 3) (kf21_ : (Mz.1 (50, 0, 0) 3).toInt = z19_.toInt) (h22_ : 0 ≤ z19_.toInt ∧ z19_.toInt ≤ 7) (h23_ : ¬ z19_.toInt = 7) (h25_ : z24_.toInt = 3 * z19_.toInt) (h27_ : z26_.toInt = 252 + z24_.toInt) (h31_ : (j30_ : Int) = z26_.toInt) (hM29_ : M28_ = up Mz (50, 0, 0) j30_ v) (kf34_ : (M28_.1 (50, 0, 0) 3).toInt = z19_.toInt) (h36_ : z35_.toInt = 3 * z19_.toInt) (h38_ : z37_.toInt = 252 + z35_.toInt) (h40_ : z39_.toInt = z37_.toInt + 1) (h44_ : (j43_ : Int) = z39_.toInt) (hM42_ : M41_ = up M28_ (50, 0, 0) j43_ u) : PN j43_ u ∧ (j43_ < 345 ∨ 493 < j43_) := by have r_v := rngI v; have r_u := rngI u; have r_z19_ := rngI z19_; have r_z24_ := rngI z24_; have r_z26_ := rngI z26_; have r_z35_ := rngI z35_; have r_z37_ := rngI z37_; have r_z39_ := rngI z39_; subst e20_; unfold PN; omega
theorem lf_c_X12_lesson_10 (z19_ : Int32) (z35_ : Int32) (z37_ : Int32) (z39_ : Int32) (j43_ : Nat) (h22_ : 0 ≤ z19_.toInt ∧ z19_.toInt ≤ 7) (h36_ : z35_.toInt = 3 * z19_.toInt) (h38_ : z37_.toInt = 252 + z35_.toInt) (h40_ : z39_.toInt = z37_.toInt + 1) (h44_ : (j43_ : Int) = z39_.toInt) : ¬ 3 = j43_ := by omega
theorem lf_c_X12_lesson_13 (z19_ : Int32) (z48_ : Int32) (z50_ : Int32) (h22_ : 0 ≤ z19_.toInt ∧ z19_.toInt ≤ 7) (h49_ : z48_.toInt = 3 * z19_.toInt) (h51_ : z50_.toInt = 252 + z48_.toInt) : -2147483648 ≤ z50_.toInt + 2 ∧ z50_.toInt + 2 < 2147483648 := by omega
theorem lf_c_X12_lesson_14 (z19_ : Int32) (z48_ : Int32) (z50_ : Int32) (z52_ : Int32) (h22_ : 0 ≤ z19_.toInt ∧ z19_.toInt ≤ 7) (h49_ : z48_.toInt = 3 * z19_.toInt) (h51_ : z50_.toInt = 252 + z48_.toInt) (h53_ : z52_.toInt = z50_.toInt + 2) : 0 ≤ z52_.toInt ∧ z52_.toInt < ((3567 : Nat) : Int) := by omega
theorem lf_c_X12_lesson_15 (M28_ : mM) (M41_ : mM) (M54_ : mM) (Mz : mM) (v : Int32) (u : Int32) (t : Int32) (z19_ : Int32) (z24_ : Int32) (z26_ : Int32) (j30_ : Nat) (z35_ : Int32) (z37_ : Int32) (z39_ : Int32) (j43_ : Nat) (z48_ : Int32) (z50_ : Int32) (z52_ : Int32) (j56_ : Nat) (h4_ : 0 ≤ v.toInt ∧ v.toInt ≤ 31) (h10_ : 0 ≤ u.toInt ∧ u.toInt ≤ 31) (h16_ : 1 ≤ t.toInt ∧ t.toInt ≤ 99) (e20_ : z19_ = Mz.1 (50, 0, 0) 3) (kf21_ : (Mz.1 (50, 0, 0) 3).toInt = z19_.toInt) (h22_ : 0 ≤ z19_.toInt ∧ z19_.toInt ≤ 7) (h23_ : ¬ z19_.toInt = 7) (h25_ : z24_.toInt = 3 * z19_.toInt) (h27_ : z26_.toInt = 252 + z24_.toInt) (h31_ : (j30_ : Int) = z26_.toInt) (hM29_ : M28_ = up Mz (50, 0, 0) j30_ v) (kf34_ : (M28_.1 (50, 0, 0) 3).toInt = z19_.toInt) (h36_ : z35_.toInt = 3 * z19_.toInt) (h38_ : z37_.toInt = 252 + z35_.toInt) (h40_ : z39_.toInt = z37_.toInt + 1) (h44_ : (j43_ : Int) = z39_.toInt) (hM42_ : M41_ = up M28_ (50, 0, 0) j43_ u) (kf47_ : (M41_.1 (50, 0, 0) 3).toInt = z19_.toInt) (h49_ : z48_.toInt = 3 * z19_.toInt) (h51_ : z50_.toInt = 252 + z48_.toInt) (h53_ : z52_.toInt = z50_.toInt + 2) (h57_ : (j56_ : Int) = z52_.toInt) (hM55_ : M54_ = up M41_ (50, 0, 0) j56_ t) : PN j56_ t ∧ (j56_ < 345 ∨ 493 < j56_) := by have r_v := rngI v; have r_u := rngI u; have r_t := rngI t; have r_z19_ := rngI z19_; have r_z24_ := rngI z24_; have r_z26_ := rngI z26_; have r_z35_ := rngI z35_; have r_z37_ := rngI z37_; have r_z39_ := rngI z39_; have r_z48_ := rngI z48_; have r_z50_ := rngI z50_; have r_z52_ := rngI z52_; subst e20_; unfold PN; omega
theorem lf_c_X12_lesson_16 (z19_ : Int32) (z48_ : Int32) (z50_ : Int32) (z52_ : Int32) (j56_ : Nat) (h22_ : 0 ≤ z19_.toInt ∧ z19_.toInt ≤ 7) (h49_ : z48_.toInt = 3 * z19_.toInt) (h51_ : z50_.toInt = 252 + z48_.toInt) (h53_ : z52_.toInt = z50_.toInt + 2) (h57_ : (j56_ : Int) = z52_.toInt) : ¬ 3 = j56_ := by omega
theorem lf_c_X12_lesson_18 (M28_ : mM) (M41_ : mM) (M54_ : mM) (M67_ : mM) (Mz : mM) (v : Int32) (u : Int32) (t : Int32) (z19_ : Int32) (z24_ : Int32) (z26_ : Int32) (j30_ : Nat) (z35_ : Int32) (z37_ : Int32) (z39_ : Int32) (j43_ : Nat) (z48_ : Int32) (z50_ : Int32) (z52_ : Int32) (j56_ : Nat) (z61_ : Int32) (z65_ : Int32) (h4_ : 0 ≤ v.toInt ∧ v.toInt ≤ 31) (h10_ : 0 ≤ u.toInt ∧ u.toInt ≤ 31) (h16_ : 1 ≤ t.toInt ∧ t.toInt ≤ 99) (e20_ : z19_ = Mz.1 (50, 0, 0) 3) (kf21_ : (Mz.1 (50, 0, 0) 3).toInt = z19_.toInt) (h22_ : 0 ≤ z19_.toInt ∧ z19_.toInt ≤ 7) (h23_ : ¬ z19_.toInt = 7) (h25_ : z24_.toInt = 3 * z19_.toInt) (h27_ : z26_.toInt = 252 + z24_.toInt) (h31_ : (j30_ : Int) = z26_.toInt) (hM29_ : M28_ = up Mz (50, 0, 0) j30_ v) (kf34_ : (M28_.1 (50, 0, 0) 3).toInt = z19_.toInt) (h36_ : z35_.toInt = 3 * z19_.toInt) (h38_ : z37_.toInt = 252 + z35_.toInt) (h40_ : z39_.toInt = z37_.toInt + 1) (h44_ : (j43_ : Int) = z39_.toInt) (hM42_ : M41_ = up M28_ (50, 0, 0) j43_ u) (kf47_ : (M41_.1 (50, 0, 0) 3).toInt = z19_.toInt) (h49_ : z48_.toInt = 3 * z19_.toInt) (h51_ : z50_.toInt = 252 + z48_.toInt) (h53_ : z52_.toInt = z50_.toInt + 2) (h57_ : (j56_ : Int) = z52_.toInt) (hM55_ : M54_ = up M41_ (50, 0, 0) j56_ t) (kf60_ : (M54_.1 (50, 0, 0) 3).toInt = z19_.toInt) (e62_ : z61_ = M54_.1 (50, 0, 0) 3) (h63_ : z61_.toInt = z19_.toInt) (h64_ : 0 ≤ z61_.toInt ∧ z61_.toInt ≤ 7) (h66_ : z65_.toInt = z61_.toInt + 1) (hM68_ : M67_ = up M54_ (50, 0, 0) 3 z65_) : PN 3 z65_ ∧ (3 < 345 ∨ 493 < 3) := by have r_v := rngI v; have r_u := rngI u; have r_t := rngI t; have r_z19_ := rngI z19_; have r_z24_ := rngI z24_; have r_z26_ := rngI z26_; have r_z35_ := rngI z35_; have r_z37_ := rngI z37_; have r_z39_ := rngI z39_; have r_z48_ := rngI z48_; have r_z50_ := rngI z50_; have r_z52_ := rngI z52_; have r_z61_ := rngI z61_; have r_z65_ := rngI z65_; subst e20_; subst e62_; unfold PN; omega
set_option maxHeartbeats 4000000 in
set_option maxRecDepth 100000 in
theorem c_X12_lesson (l : Launch) (G : va_G) (cy : Nat → ClassId) (ad : rf → Nat) (d : Nat) (v : Int32) (u : Int32) (t : Int32) (Mz : mM) (hIz : InvD Mz) : WP DD l G cy ad yX12_lesson cX12_lesson 5 (some .int) (d + 1) 0 [(0, vR (12, 0, 0)), (1, vI v), (2, vI u), (3, vI t)] [] Mz (fun r M' => InvD M' ∧ FR (S_c_X12_lesson) Mz M' ∧ (True) ∧ SP_X12_lesson v u t Mz r M') := by
  have hFz : FR (S_c_X12_lesson) Mz Mz := FR.self
  refine w_iload_n dX12_lesson_0 rfl 1 rfl ?_
  refine w_iconst (v := 0) dX12_lesson_1 (by decide) ?_
  refine w_bipush (v := 31) dX12_lesson_2 (by decide) ?_
  refine w_callS (as := [vI v, vI 0, vI 31]) (rest := []) (c_X12_within l G cy ad d v 0 31 Mz hIz) kS_X12_within pnn_17 (Nat.le_of_ble_eq_true rfl) m_1427 rfl rfl (by decide) (Nat.le_of_ble_eq_true rfl) dX12_lesson_4 (fun r1_ M2_ q3_ => ?_)
  obtain ⟨rfl, h4_, hs5_⟩ := q3_
  rcases h4_ with ⟨rfl, h4_⟩ | ⟨rfl, h4_⟩
  · simp only [li_0, li_31] at h4_
    refine w_if_eq (tgt := 30) dX12_lesson_7 (by decide) li_1 (fun h9 => (absurd h9 (by decide))) (fun h6_ => ?_)
    refine w_iload_n dX12_lesson_10 rfl 2 rfl ?_
    refine w_iconst (v := 0) dX12_lesson_11 (by decide) ?_
    refine w_bipush (v := 31) dX12_lesson_12 (by decide) ?_
    refine w_callS (as := [vI u, vI 0, vI 31]) (rest := []) (c_X12_within l G cy ad d u 0 31 Mz hIz) kS_X12_within pnn_17 (Nat.le_of_ble_eq_true rfl) m_1427 rfl rfl (by decide) (Nat.le_of_ble_eq_true rfl) dX12_lesson_14 (fun r7_ M8_ q9_ => ?_)
    obtain ⟨rfl, h10_, hs11_⟩ := q9_
    rcases h10_ with ⟨rfl, h10_⟩ | ⟨rfl, h10_⟩
    · simp only [li_0, li_31] at h10_
      refine w_if_eq (tgt := 30) dX12_lesson_17 (by decide) li_1 (fun h9 => (absurd h9 (by decide))) (fun h12_ => ?_)
      refine w_iload_n dX12_lesson_20 rfl 3 rfl ?_
      refine w_iconst (v := 1) dX12_lesson_21 (by decide) ?_
      refine w_bipush (v := 99) dX12_lesson_22 (by decide) ?_
      refine w_callS (as := [vI t, vI 1, vI 99]) (rest := []) (c_X12_within l G cy ad d t 1 99 Mz hIz) kS_X12_within pnn_17 (Nat.le_of_ble_eq_true rfl) m_1427 rfl rfl (by decide) (Nat.le_of_ble_eq_true rfl) dX12_lesson_24 (fun r13_ M14_ q15_ => ?_)
      obtain ⟨rfl, h16_, hs17_⟩ := q15_
      rcases h16_ with ⟨rfl, h16_⟩ | ⟨rfl, h16_⟩
      · simp only [li_1, li_99] at h16_
        refine w_if_ne (tgt := 37) dX12_lesson_27 (by decide) li_1 (fun h18_ => ?_) (fun h9 => (absurd h9 (by decide)))
        refine w_aload_n dX12_lesson_37 rfl 0 rfl ?_
        refine w_getR (c' := (50, 0, 0)) fl_RX12_9 rfl rfl ic_12 dX12_lesson_38 rfl ?_
        refine w_iconst (v := 3) dX12_lesson_41 (by decide) ?_
        refine w_ialdL 3 rfl rfl ic_50 li_3 (by decide) dX12_lesson_42 (fun z19_ e20_ => ?_)
        have kf21_ : (Mz.1 (50, 0, 0) 3).toInt = z19_.toInt := by rw [e20_]
        have h22_ : 0 ≤ z19_.toInt ∧ z19_.toInt ≤ 7 := pn_3 hIz e20_
        refine w_istore (ls' := [(4, vI z19_), (0, vR (12, 0, 0)), (1, vI v), (2, vI u), (3, vI t)]) dX12_lesson_43 (by decide) rfl ?_
        refine w_iload dX12_lesson_45 0 rfl ?_
        refine w_bipush (v := 7) dX12_lesson_47 (by decide) ?_
        refine w_icmp_ne (tgt := 59) dX12_lesson_49 (by decide) (rfl : z19_.toInt = z19_.toInt) li_7 (fun h23_ => ?_) (fun h23_ => ?_)
        · refine w_aload_n dX12_lesson_59 rfl 1 rfl ?_
          refine w_getR (c' := (50, 0, 0)) fl_RX12_9 rfl rfl ic_12 dX12_lesson_60 rfl ?_
          refine w_sipush (v := 252) dX12_lesson_63 (by decide) ?_
          refine w_iconst (v := 3) dX12_lesson_66 (by decide) ?_
          refine w_iload dX12_lesson_67 0 rfl ?_
          refine w_imulB dX12_lesson_69 li_3 (rfl : z19_.toInt = z19_.toInt) (lf_c_X12_lesson_0 z19_ h22_ ) (fun z24_ h25_ => ?_)
          refine w_iaddB dX12_lesson_70 li_252 (rfl : z24_.toInt = z24_.toInt) (lf_c_X12_lesson_1 z19_ z24_ h22_ h25_ ) (fun z26_ h27_ => ?_)
          refine w_iload_n dX12_lesson_71 rfl 2 rfl ?_
          refine w_iast DD_nd rfl rfl ic_50 (rfl : z26_.toInt = z26_.toInt) (lf_c_X12_lesson_2 z19_ z24_ z26_ h22_ h25_ h27_ ) dX12_lesson_72 (fun j30_ h31_ M28_ hM29_ => ?_)
          have hI32_ := hIz.put50 hM29_ (lf_c_X12_lesson_3 M28_ Mz v z19_ z24_ z26_ j30_ h4_ e20_ kf21_ h22_ h23_ h25_ h27_ h31_ hM29_ )
          have hF33_ := hFz.put hM29_ (Or.inl ⟨rfl, rfl⟩)
          have kf34_ : (M28_.1 (50, 0, 0) 3).toInt = z19_.toInt := by rw [(show M28_.1 (50, 0, 0) 3 = Mz.1 (50, 0, 0) 3 by rw [hM29_]; exact up_ne (fun q => absurd q.2 (lf_c_X12_lesson_4 z19_ z24_ z26_ j30_ h22_ h25_ h27_ h31_ )))]; exact kf21_
          refine w_aload_n dX12_lesson_73 rfl 1 rfl ?_
          refine w_getR (c' := (50, 0, 0)) fl_RX12_9 rfl rfl ic_12 dX12_lesson_74 rfl ?_
          refine w_sipush (v := 252) dX12_lesson_77 (by decide) ?_
          refine w_iconst (v := 3) dX12_lesson_80 (by decide) ?_
          refine w_iload dX12_lesson_81 0 rfl ?_
          refine w_imulB dX12_lesson_83 li_3 (rfl : z19_.toInt = z19_.toInt) (lf_c_X12_lesson_0 z19_ h22_ ) (fun z35_ h36_ => ?_)
          refine w_iaddB dX12_lesson_84 li_252 (rfl : z35_.toInt = z35_.toInt) (lf_c_X12_lesson_1 z19_ z35_ h22_ h36_ ) (fun z37_ h38_ => ?_)
          refine w_iconst (v := 1) dX12_lesson_85 (by decide) ?_
          refine w_iaddB dX12_lesson_86 (rfl : z37_.toInt = z37_.toInt) li_1 (lf_c_X12_lesson_7 z19_ z35_ z37_ h22_ h36_ h38_ ) (fun z39_ h40_ => ?_)
          refine w_iload_n dX12_lesson_87 rfl 3 rfl ?_
          refine w_iast DD_nd rfl rfl ic_50 (rfl : z39_.toInt = z39_.toInt) (lf_c_X12_lesson_8 z19_ z35_ z37_ z39_ h22_ h36_ h38_ h40_ ) dX12_lesson_88 (fun j43_ h44_ M41_ hM42_ => ?_)
          have hI45_ := hI32_.put50 hM42_ (lf_c_X12_lesson_9 M28_ M41_ Mz v u z19_ z24_ z26_ j30_ z35_ z37_ z39_ j43_ h4_ h10_ e20_ kf21_ h22_ h23_ h25_ h27_ h31_ hM29_ kf34_ h36_ h38_ h40_ h44_ hM42_ )
          have hF46_ := hF33_.put hM42_ (Or.inl ⟨rfl, rfl⟩)
          have kf47_ : (M41_.1 (50, 0, 0) 3).toInt = z19_.toInt := by rw [(show M41_.1 (50, 0, 0) 3 = M28_.1 (50, 0, 0) 3 by rw [hM42_]; exact up_ne (fun q => absurd q.2 (lf_c_X12_lesson_10 z19_ z35_ z37_ z39_ j43_ h22_ h36_ h38_ h40_ h44_ )))]; exact kf34_
          refine w_aload_n dX12_lesson_89 rfl 1 rfl ?_
          refine w_getR (c' := (50, 0, 0)) fl_RX12_9 rfl rfl ic_12 dX12_lesson_90 rfl ?_
          refine w_sipush (v := 252) dX12_lesson_93 (by decide) ?_
          refine w_iconst (v := 3) dX12_lesson_96 (by decide) ?_
          refine w_iload dX12_lesson_97 0 rfl ?_
          refine w_imulB dX12_lesson_99 li_3 (rfl : z19_.toInt = z19_.toInt) (lf_c_X12_lesson_0 z19_ h22_ ) (fun z48_ h49_ => ?_)
          refine w_iaddB dX12_lesson_100 li_252 (rfl : z48_.toInt = z48_.toInt) (lf_c_X12_lesson_1 z19_ z48_ h22_ h49_ ) (fun z50_ h51_ => ?_)
          refine w_iconst (v := 2) dX12_lesson_101 (by decide) ?_
          refine w_iaddB dX12_lesson_102 (rfl : z50_.toInt = z50_.toInt) li_2 (lf_c_X12_lesson_13 z19_ z48_ z50_ h22_ h49_ h51_ ) (fun z52_ h53_ => ?_)
          refine w_iload_n dX12_lesson_103 rfl 4 rfl ?_
          refine w_iast DD_nd rfl rfl ic_50 (rfl : z52_.toInt = z52_.toInt) (lf_c_X12_lesson_14 z19_ z48_ z50_ z52_ h22_ h49_ h51_ h53_ ) dX12_lesson_104 (fun j56_ h57_ M54_ hM55_ => ?_)
          have hI58_ := hI45_.put50 hM55_ (lf_c_X12_lesson_15 M28_ M41_ M54_ Mz v u t z19_ z24_ z26_ j30_ z35_ z37_ z39_ j43_ z48_ z50_ z52_ j56_ h4_ h10_ h16_ e20_ kf21_ h22_ h23_ h25_ h27_ h31_ hM29_ kf34_ h36_ h38_ h40_ h44_ hM42_ kf47_ h49_ h51_ h53_ h57_ hM55_ )
          have hF59_ := hF46_.put hM55_ (Or.inl ⟨rfl, rfl⟩)
          have kf60_ : (M54_.1 (50, 0, 0) 3).toInt = z19_.toInt := by rw [(show M54_.1 (50, 0, 0) 3 = M41_.1 (50, 0, 0) 3 by rw [hM55_]; exact up_ne (fun q => absurd q.2 (lf_c_X12_lesson_16 z19_ z48_ z50_ z52_ j56_ h22_ h49_ h51_ h53_ h57_ )))]; exact kf47_
          refine w_aload_n dX12_lesson_105 rfl 1 rfl ?_
          refine w_getR (c' := (50, 0, 0)) fl_RX12_9 rfl rfl ic_12 dX12_lesson_106 rfl ?_
          refine w_iconst (v := 3) dX12_lesson_109 (by decide) ?_
          refine w_dup2 dX12_lesson_110 rfl rfl ?_
          refine w_ialdL 3 rfl rfl ic_50 li_3 (by decide) dX12_lesson_111 (fun z61_ e62_ => ?_)
          have h63_ : z61_.toInt = z19_.toInt := by rw [e62_]; exact kf60_
          have h64_ : 0 ≤ z61_.toInt ∧ z61_.toInt ≤ 7 := pn_3 hI58_ e62_
          refine w_iconst (v := 1) dX12_lesson_112 (by decide) ?_
          refine w_iaddB dX12_lesson_113 (rfl : z61_.toInt = z61_.toInt) li_1 (lf_c_X12_walkerGoes_14 z61_ h64_ ) (fun z65_ h66_ => ?_)
          refine w_iastL 3 DD_nd rfl rfl ic_50 li_3 (by decide) dX12_lesson_114 (fun M67_ hM68_ => ?_)
          have hI69_ := hI58_.put50 hM68_ (lf_c_X12_lesson_18 M28_ M41_ M54_ M67_ Mz v u t z19_ z24_ z26_ j30_ z35_ z37_ z39_ j43_ z48_ z50_ z52_ j56_ z61_ z65_ h4_ h10_ h16_ e20_ kf21_ h22_ h23_ h25_ h27_ h31_ hM29_ kf34_ h36_ h38_ h40_ h44_ hM42_ kf47_ h49_ h51_ h53_ h57_ hM55_ kf60_ e62_ h63_ h64_ h66_ hM68_ )
          have hF70_ := hF59_.put hM68_ (Or.inl ⟨rfl, rfl⟩)
          refine w_iload dX12_lesson_115 0 rfl ?_
          exact w_iret rfl dX12_lesson_117 ⟨hI69_, hF70_, trivial, (Or.inl ⟨hs5_, h4_, (Or.inl ⟨hs11_, h10_, (Or.inl ⟨hs17_, h16_, z19_, e20_, h22_, (Or.inl ⟨h23_, z24_, h25_, z26_, h27_, j30_, h31_, M28_, hM29_, z35_, h36_, z37_, h38_, z39_, h40_, j43_, h44_, M41_, hM42_, z48_, h49_, z50_, h51_, z52_, h53_, j56_, h57_, M54_, hM55_, z61_, e62_, h63_, h64_, z65_, h66_, M67_, hM68_, rfl, rfl⟩)⟩)⟩)⟩)⟩
        · refine w_aload_n dX12_lesson_52 rfl 1 rfl ?_
          refine w_ldc (v := (-1000004)) m_1456 dX12_lesson_53 ?_
          refine w_callV (as := [vI (-1000004)]) (rest := []) (c_X12_finding l G cy ad d (-1000004) Mz hIz (by first | decide | (unfold vF; omega) | (unfold vRw; omega))) kV_X12_finding pnn_17 (Nat.le_of_ble_eq_true rfl) m_1434 rfl rfl rfl ic_12 rfl rfl (by decide) (Nat.le_of_ble_eq_true rfl) dX12_lesson_55 (fun r71_ M72_ q73_ => ?_)
          obtain ⟨hI75_, hF76_, h74_, hs78_⟩ := q73_
          have hF77_ := hFz.tr hF76_ (fun c k => (fun h => h.elim (fun h => (Or.inr (Or.inl ⟨h.1, h.2⟩))) (fun h => h.elim)))
          have kf79_ : (M72_.1 (50, 0, 0) 3).toInt = z19_.toInt := by rw [(hF76_ (50, 0, 0) 3 (by simp [S_c_X12_finding]))]; exact kf21_
          simp only [li_m1000004] at h74_
          exact w_iret rfl dX12_lesson_58 ⟨hI75_, hF77_, trivial, (Or.inl ⟨hs5_, h4_, (Or.inl ⟨hs11_, h10_, (Or.inl ⟨hs17_, h16_, z19_, e20_, h22_, (Or.inr ⟨h23_, M72_, hI75_, hF76_, r71_, hs78_, h74_, rfl, rfl⟩)⟩)⟩)⟩)⟩
      · simp only [li_1, li_99] at h16_
        refine w_if_ne (tgt := 37) dX12_lesson_27 (by decide) li_0 (fun h9 => (absurd h9 (by decide))) (fun h80_ => ?_)
        refine w_aload_n dX12_lesson_30 rfl 0 rfl ?_
        refine w_ldc (v := (-1000001)) m_1433 dX12_lesson_31 ?_
        refine w_callV (as := [vI (-1000001)]) (rest := []) (c_X12_finding l G cy ad d (-1000001) Mz hIz (by first | decide | (unfold vF; omega) | (unfold vRw; omega))) kV_X12_finding pnn_17 (Nat.le_of_ble_eq_true rfl) m_1434 rfl rfl rfl ic_12 rfl rfl (by decide) (Nat.le_of_ble_eq_true rfl) dX12_lesson_33 (fun r81_ M82_ q83_ => ?_)
        obtain ⟨hI85_, hF86_, h84_, hs88_⟩ := q83_
        have hF87_ := hFz.tr hF86_ (fun c k => (fun h => h.elim (fun h => (Or.inr (Or.inl ⟨h.1, h.2⟩))) (fun h => h.elim)))
        simp only [li_m1000001] at h84_
        exact w_iret rfl dX12_lesson_36 ⟨hI85_, hF87_, trivial, (Or.inl ⟨hs5_, h4_, (Or.inl ⟨hs11_, h10_, (Or.inr ⟨hs17_, h16_, M82_, hI85_, hF86_, r81_, hs88_, h84_, rfl, rfl⟩)⟩)⟩)⟩
    · simp only [li_0, li_31] at h10_
      refine w_if_eq (tgt := 30) dX12_lesson_17 (by decide) li_0 (fun h89_ => ?_) (fun h9 => (absurd h9 (by decide)))
      refine w_aload_n dX12_lesson_30 rfl 0 rfl ?_
      refine w_ldc (v := (-1000001)) m_1433 dX12_lesson_31 ?_
      refine w_callV (as := [vI (-1000001)]) (rest := []) (c_X12_finding l G cy ad d (-1000001) Mz hIz (by first | decide | (unfold vF; omega) | (unfold vRw; omega))) kV_X12_finding pnn_17 (Nat.le_of_ble_eq_true rfl) m_1434 rfl rfl rfl ic_12 rfl rfl (by decide) (Nat.le_of_ble_eq_true rfl) dX12_lesson_33 (fun r90_ M91_ q92_ => ?_)
      obtain ⟨hI94_, hF95_, h93_, hs97_⟩ := q92_
      have hF96_ := hFz.tr hF95_ (fun c k => (fun h => h.elim (fun h => (Or.inr (Or.inl ⟨h.1, h.2⟩))) (fun h => h.elim)))
      simp only [li_m1000001] at h93_
      exact w_iret rfl dX12_lesson_36 ⟨hI94_, hF96_, trivial, (Or.inl ⟨hs5_, h4_, (Or.inr ⟨hs11_, h10_, M91_, hI94_, hF95_, r90_, hs97_, h93_, rfl, rfl⟩)⟩)⟩
  · simp only [li_0, li_31] at h4_
    refine w_if_eq (tgt := 30) dX12_lesson_7 (by decide) li_0 (fun h98_ => ?_) (fun h9 => (absurd h9 (by decide)))
    refine w_aload_n dX12_lesson_30 rfl 0 rfl ?_
    refine w_ldc (v := (-1000001)) m_1433 dX12_lesson_31 ?_
    refine w_callV (as := [vI (-1000001)]) (rest := []) (c_X12_finding l G cy ad d (-1000001) Mz hIz (by first | decide | (unfold vF; omega) | (unfold vRw; omega))) kV_X12_finding pnn_17 (Nat.le_of_ble_eq_true rfl) m_1434 rfl rfl rfl ic_12 rfl rfl (by decide) (Nat.le_of_ble_eq_true rfl) dX12_lesson_33 (fun r99_ M100_ q101_ => ?_)
    obtain ⟨hI103_, hF104_, h102_, hs106_⟩ := q101_
    have hF105_ := hFz.tr hF104_ (fun c k => (fun h => h.elim (fun h => (Or.inr (Or.inl ⟨h.1, h.2⟩))) (fun h => h.elim)))
    simp only [li_m1000001] at h102_
    exact w_iret rfl dX12_lesson_36 ⟨hI103_, hF105_, trivial, (Or.inr ⟨hs5_, h4_, M100_, hI103_, hF104_, r99_, hs106_, h102_, rfl, rfl⟩)⟩
def S_c_X12_isPost : rf → Nat → Prop := fun c k => (c.1 = 58 ∧ c.2.1 = 0 ∧ k = 0) ∨ (c.1 = 58 ∧ c.2.1 = 0 ∧ k = 1) ∨ (c.1 = 58 ∧ c.2.1 = 0 ∧ k = 2) ∨ (c.1 = 58 ∧ c.2.1 = 0 ∧ k = 3) ∨ (c.1 = 59 ∧ c.2.1 = 0) ∨ False
def ST_X12_isPost_26 (v : Int32) (u : Int32) (t : Int32) (Mz : mM) (r1_ : Int32) (v6_13 : Int32) (v8_26 : Int32) (v7_26 : Int32) (v5_26 : Int32) (M_26 : mM) (v8_26y : Int32) (v7_26y : Int32) (v5_26y : Int32) (M_26y : mM) : Prop := (1 ≤ v8_26.toInt) ∧ (0 ≤ v5_26.toInt ∧ v5_26.toInt ≤ 1) ∧ (0 ≤ v7_26.toInt ∧ v7_26.toInt ≤ 1) ∧ (InvD M_26) ∧ (FR (S_c_X12_isPost) Mz M_26) ∧ ∃ r9_ : Int32, (SP_X12_reach v M_26 r9_) ∧ (0 ≤ r9_.toInt ∧ r9_.toInt ≤ 12) ∧ (v8_26.toInt ≤ r9_.toInt) ∧ (¬ v7_26.toInt = 0) ∧ ∃ r20_ : Int32, (SP_X12_on u v6_13 v8_26 M_26 r20_) ∧ (onP u v6_13 v8_26 r20_ ∧ -1 ≤ r20_.toInt ∧ r20_.toInt ≤ 191) ∧ (0 ≤ r20_.toInt) ∧ ∃ r28_ : Int32, (SP_X12_on u v6_13 v8_26 M_26 r28_) ∧ (onP u v6_13 v8_26 r28_ ∧ -1 ≤ r28_.toInt ∧ r28_.toInt ≤ 191) ∧ ∃ r33_ : Int32, (SP_X12_isFree r28_ M_26 r33_) ∧ ((0 ≤ r33_.toInt ∧ r33_.toInt ≤ 1)) ∧ (((r33_.toInt = 0) ∧ ∃ z39_ : Int32, (z39_.toInt = v8_26.toInt + 1) ∧ v8_26y = z39_ ∧ v7_26y = r33_ ∧ v5_26y = v5_26 ∧ M_26y = M_26) ∨ ((¬ r33_.toInt = 0) ∧ ∃ r41_ : Int32, (SP_X12_on u v6_13 v8_26 M_26 r41_) ∧ (onP u v6_13 v8_26 r41_ ∧ -1 ≤ r41_.toInt ∧ r41_.toInt ≤ 191) ∧ (((¬ r41_.toInt = t.toInt) ∧ ∃ z47_ : Int32, (z47_.toInt = v8_26.toInt + 1) ∧ v8_26y = z47_ ∧ v7_26y = r33_ ∧ v5_26y = v5_26 ∧ M_26y = M_26) ∨ ((r41_.toInt = t.toInt) ∧ ∃ r49_ : Int32, (SP_X12_ears v M_26 r49_) ∧ (0 ≤ r49_.toInt ∧ r49_.toInt ≤ 9) ∧ ∃ z54_ : Int32, (z54_.toInt = r1_.toInt + 3) ∧ ∃ j58_ : Nat, ((j58_ : Int) = z54_.toInt) ∧ ∃ z56_ : Int32, (z56_ = M_26.1 (50, 0, 0) j58_) ∧ ∃ z60_ : Int32, (z60_.toInt = r1_.toInt + 4) ∧ ∃ j64_ : Nat, ((j64_ : Int) = z60_.toInt) ∧ ∃ z62_ : Int32, (z62_ = M_26.1 (50, 0, 0) j64_) ∧ ∃ M67_ : mM, (InvD M67_) ∧ (FR (S_c_X12_isHeard) M_26 M67_) ∧ ∃ r66_ : Int32, (SP_X12_isHeard r49_ 1 z56_ z62_ v6_13 v8_26 M_26 r66_ M67_) ∧ ((0 ≤ r66_.toInt ∧ r66_.toInt ≤ 1)) ∧ ∃ z74_ : Int32, (z74_.toInt = v8_26.toInt + 1) ∧ v8_26y = z74_ ∧ v7_26y = r33_ ∧ v5_26y = r66_ ∧ M_26y = M67_))))
def ST_X12_isPost_13 (v : Int32) (u : Int32) (t : Int32) (Mz : mM) (r1_ : Int32) (v6_13 : Int32) (v5_13 : Int32) (M_13 : mM) (v6_13y : Int32) (v5_13y : Int32) (M_13y : mM) : Prop := (0 ≤ v6_13.toInt) ∧ (v6_13.toInt ≤ 8) ∧ (0 ≤ v5_13.toInt ∧ v5_13.toInt ≤ 1) ∧ (InvD M_13) ∧ (FR (S_c_X12_isPost) Mz M_13) ∧ (v6_13.toInt < 8) ∧ ∃ v8_26 : Int32, (1 ≤ v8_26.toInt) ∧ ∃ v5_26 : Int32, (0 ≤ v5_26.toInt ∧ v5_26.toInt ≤ 1) ∧ ∃ v7_26 : Int32, (0 ≤ v7_26.toInt ∧ v7_26.toInt ≤ 1) ∧ ∃ M_26 : mM, (RCH (fun x_ y_ => ST_X12_isPost_26 v u t Mz r1_ v6_13 x_.1 x_.2.1 x_.2.2.1 x_.2.2.2 y_.1 y_.2.1 y_.2.2.1 y_.2.2.2) ((1 : Int32), (1 : Int32), v5_13, M_13) (v8_26, v7_26, v5_26, M_26)) ∧ (InvD M_26) ∧ (FR (S_c_X12_isPost) Mz M_26) ∧ ∃ r9_ : Int32, (SP_X12_reach v M_26 r9_) ∧ (0 ≤ r9_.toInt ∧ r9_.toInt ≤ 12) ∧ (((r9_.toInt < v8_26.toInt) ∧ ∃ z15_ : Int32, (z15_.toInt = v6_13.toInt + 1) ∧ v6_13y = z15_ ∧ v5_13y = v5_26 ∧ M_13y = M_26) ∨ ((v8_26.toInt ≤ r9_.toInt) ∧ (((v7_26.toInt = 0) ∧ ∃ z18_ : Int32, (z18_.toInt = v6_13.toInt + 1) ∧ v6_13y = z18_ ∧ v5_13y = v5_26 ∧ M_13y = M_26) ∨ ((¬ v7_26.toInt = 0) ∧ ∃ r20_ : Int32, (SP_X12_on u v6_13 v8_26 M_26 r20_) ∧ (onP u v6_13 v8_26 r20_ ∧ -1 ≤ r20_.toInt ∧ r20_.toInt ≤ 191) ∧ (r20_.toInt < 0) ∧ ∃ z26_ : Int32, (z26_.toInt = v6_13.toInt + 1) ∧ v6_13y = z26_ ∧ v5_13y = v5_26 ∧ M_13y = M_26))))
def SP_X12_isPost (v : Int32) (u : Int32) (t : Int32) (Mz : mM) (r_ : Int32) (M_ : mM) : Prop := ∃ r1_ : Int32, (SP_X12_goer v Mz r1_) ∧ (r1_.toInt = 180 + 9 * v.toInt) ∧ ∃ v6_13 : Int32, (0 ≤ v6_13.toInt) ∧ (v6_13.toInt ≤ 8) ∧ ∃ v5_13 : Int32, (0 ≤ v5_13.toInt ∧ v5_13.toInt ≤ 1) ∧ ∃ M_13 : mM, (RCH (fun x_ y_ => ST_X12_isPost_13 v u t Mz r1_ x_.1 x_.2.1 x_.2.2 y_.1 y_.2.1 y_.2.2) ((0 : Int32), (0 : Int32), Mz) (v6_13, v5_13, M_13)) ∧ (InvD M_13) ∧ (FR (S_c_X12_isPost) Mz M_13) ∧ (8 ≤ v6_13.toInt) ∧ r_ = v5_13 ∧ M_ = M_13
theorem lf_c_X12_isPost_16 (r33_ : Int32) (h36_ : (0 ≤ r33_.toInt ∧ r33_.toInt ≤ 1)) (h38_ : r33_.toInt = 0) : 0 ≤ r33_.toInt ∧ r33_.toInt ≤ 1 := by omega
set_option maxHeartbeats 4000000 in
set_option maxRecDepth 100000 in
theorem c_X12_isPost (l : Launch) (G : va_G) (cy : Nat → ClassId) (ad : rf → Nat) (d : Nat) (v : Int32) (u : Int32) (t : Int32) (Mz : mM) (hIz : InvD Mz) (hv : 0 ≤ v.toInt ∧ v.toInt ≤ 7) : WP DD l G cy ad yX12_isPost cX12_isPost 9 (some .boolean) (d + 4) 0 [(0, vR (12, 0, 0)), (1, vI v), (2, vI u), (3, vI t)] [] Mz (fun r M' => InvD M' ∧ FR (S_c_X12_isPost) Mz M' ∧ ((0 ≤ r.toInt ∧ r.toInt ≤ 1)) ∧ SP_X12_isPost v u t Mz r M') := by
  have hFz : FR (S_c_X12_isPost) Mz Mz := FR.self
  refine w_aload_n dX12_isPost_0 rfl 0 rfl ?_
  refine w_iload_n dX12_isPost_1 rfl 1 rfl ?_
  refine w_callV (as := [vI v]) (rest := []) (c_X12_goer l G cy ad (d + 3) v Mz hIz hv) kV_X12_goer pnn_17 (Nat.le_of_ble_eq_true rfl) m_1451 rfl rfl rfl ic_12 rfl rfl (by decide) (Nat.le_of_ble_eq_true rfl) dX12_isPost_2 (fun r1_ M2_ q3_ => ?_)
  obtain ⟨rfl, h4_, hs5_⟩ := q3_
  refine w_istore (ls' := [(4, vI r1_), (0, vR (12, 0, 0)), (1, vI v), (2, vI u), (3, vI t)]) dX12_isPost_5 (by decide) rfl ?_
  refine w_iconst (v := 0) dX12_isPost_7 (by decide) ?_
  refine w_istore (ls' := [(5, vI 0), (4, vI r1_), (0, vR (12, 0, 0)), (1, vI v), (2, vI u), (3, vI t)]) dX12_isPost_8 (by decide) rfl ?_
  refine w_iconst (v := 0) dX12_isPost_10 (by decide) ?_
  refine w_istore (ls' := [(6, vI 0), (5, vI 0), (4, vI r1_), (0, vR (12, 0, 0)), (1, vI v), (2, vI u), (3, vI t)]) dX12_isPost_11 (by decide) rfl ?_
  have lp6_ : ∀ (nn_13 : Nat) (M_13 : mM) (hI_13 : InvD M_13) (hF_13 : FR (S_c_X12_isPost) Mz M_13) (v6_13 : Int32) (v5_13 : Int32) (hv0_13 : 0 ≤ v6_13.toInt) (hv1_13 : v6_13.toInt ≤ 8) (hv2_13 : 0 ≤ v5_13.toInt ∧ v5_13.toInt ≤ 1) (hL_13 : RCH (fun x_ y_ => ST_X12_isPost_13 v u t Mz r1_ x_.1 x_.2.1 x_.2.2 y_.1 y_.2.1 y_.2.2) ((0 : Int32), (0 : Int32), Mz) (v6_13, v5_13, M_13)), (2147483648 - v6_13.toInt).toNat < nn_13 → WP DD l G cy ad yX12_isPost cX12_isPost 9 (some .boolean) (d + 4) 13 [(6, vI v6_13), (5, vI v5_13), (4, vI r1_), (0, vR (12, 0, 0)), (1, vI v), (2, vI u), (3, vI t)] [] M_13 (fun r M' => InvD M' ∧ FR (S_c_X12_isPost) Mz M' ∧ ((0 ≤ r.toInt ∧ r.toInt ≤ 1)) ∧ SP_X12_isPost v u t Mz r M') := by
    intro nn_13
    induction nn_13 with
    | zero => intro M_13 hI_13 hF_13 v6_13 v5_13 hv0_13 hv1_13 hv2_13 hL_13 hm_13; exact absurd hm_13 (Nat.not_lt_zero _)
    | succ nn_13 ih_13 =>
      intro M_13 hI_13 hF_13 v6_13 v5_13 hv0_13 hv1_13 hv2_13 hL_13 hm_13
      refine w_iload dX12_isPost_13 0 rfl ?_
      refine w_bipush (v := 8) dX12_isPost_15 (by decide) ?_
      refine w_icmp_ge (tgt := 132) dX12_isPost_17 (by decide) (rfl : v6_13.toInt = v6_13.toInt) li_8 (fun h7_ => ?_) (fun h7_ => ?_)
      · refine w_iload dX12_isPost_132 1 rfl ?_
        exact w_zret rfl dX12_isPost_134 hv2_13 ⟨hI_13, hF_13, hv2_13, ⟨r1_, hs5_, h4_, v6_13, hv0_13, hv1_13, v5_13, hv2_13, M_13, hL_13, hI_13, hF_13, h7_, rfl, rfl⟩⟩
      · refine w_iconst (v := 1) dX12_isPost_20 (by decide) ?_
        refine w_istore (ls' := [(7, vI 1), (6, vI v6_13), (5, vI v5_13), (4, vI r1_), (0, vR (12, 0, 0)), (1, vI v), (2, vI u), (3, vI t)]) dX12_isPost_21 (by decide) rfl ?_
        refine w_iconst (v := 1) dX12_isPost_23 (by decide) ?_
        refine w_istore (ls' := [(8, vI 1), (7, vI 1), (6, vI v6_13), (5, vI v5_13), (4, vI r1_), (0, vR (12, 0, 0)), (1, vI v), (2, vI u), (3, vI t)]) dX12_isPost_24 (by decide) rfl ?_
        have lp8_ : ∀ (nn_26 : Nat) (M_26 : mM) (hI_26 : InvD M_26) (hF_26 : FR (S_c_X12_isPost) Mz M_26) (v8_26 : Int32) (v7_26 : Int32) (v5_26 : Int32) (hv0_26 : 1 ≤ v8_26.toInt) (hv1_26 : 0 ≤ v5_26.toInt ∧ v5_26.toInt ≤ 1) (hv2_26 : 0 ≤ v7_26.toInt ∧ v7_26.toInt ≤ 1) (hL_26 : RCH (fun x_ y_ => ST_X12_isPost_26 v u t Mz r1_ v6_13 x_.1 x_.2.1 x_.2.2.1 x_.2.2.2 y_.1 y_.2.1 y_.2.2.1 y_.2.2.2) ((1 : Int32), (1 : Int32), v5_13, M_13) (v8_26, v7_26, v5_26, M_26)), (2147483648 - v8_26.toInt).toNat < nn_26 → WP DD l G cy ad yX12_isPost cX12_isPost 9 (some .boolean) (d + 4) 26 [(8, vI v8_26), (7, vI v7_26), (6, vI v6_13), (5, vI v5_26), (4, vI r1_), (0, vR (12, 0, 0)), (1, vI v), (2, vI u), (3, vI t)] [] M_26 (fun r M' => InvD M' ∧ FR (S_c_X12_isPost) Mz M' ∧ ((0 ≤ r.toInt ∧ r.toInt ≤ 1)) ∧ SP_X12_isPost v u t Mz r M') := by
          intro nn_26
          induction nn_26 with
          | zero => intro M_26 hI_26 hF_26 v8_26 v7_26 v5_26 hv0_26 hv1_26 hv2_26 hL_26 hm_26; exact absurd hm_26 (Nat.not_lt_zero _)
          | succ nn_26 ih_26 =>
            intro M_26 hI_26 hF_26 v8_26 v7_26 v5_26 hv0_26 hv1_26 hv2_26 hL_26 hm_26
            refine w_iload dX12_isPost_26 0 rfl ?_
            refine w_aload_n dX12_isPost_28 rfl 5 rfl ?_
            refine w_iload_n dX12_isPost_29 rfl 6 rfl ?_
            refine w_callV (as := [vI v]) (rest := [vI v8_26]) (c_X12_reach l G cy ad d v M_26 hI_26 hv) kV_X12_reach pnn_17 (Nat.le_of_ble_eq_true rfl) m_1513 rfl rfl rfl ic_12 rfl rfl (by decide) (Nat.le_of_ble_eq_true rfl) dX12_isPost_30 (fun r9_ M10_ q11_ => ?_)
            obtain ⟨rfl, h12_, hs13_⟩ := q11_
            refine w_icmp_gt (tgt := 126) dX12_isPost_33 (by decide) (rfl : v8_26.toInt = v8_26.toInt) (rfl : r9_.toInt = r9_.toInt) (fun h14_ => ?_) (fun h14_ => ?_)
            · refine w_iincB (j := 2) (f := fun z15_ => [(6, vI z15_), (8, vI v8_26), (7, vI v7_26), (5, vI v5_26), (4, vI r1_), (0, vR (12, 0, 0)), (1, vI v), (2, vI u), (3, vI t)]) dX12_isPost_126 rfl (by decide) (fun _ => rfl) (rfl : v6_13.toInt = v6_13.toInt) li_1 (lf_c_X9_isOf_0 v6_13 hv0_13 h7_ ) (fun z15_ h16_ => ?_)
              refine w_goto (tgt := 13) dX12_isPost_129 (by decide) ?_
              refine w_loc (ls' := [(6, vI z15_), (5, vI v5_26), (4, vI r1_), (0, vR (12, 0, 0)), (1, vI v), (2, vI u), (3, vI t)]) [0, 3, 4, 5, 6, 7, 8] rfl ?_
              exact ih_13 M_26 hI_26 hF_26 z15_ v5_26 (lf_c_X5_takeFrom_3 v6_13 z15_ hv0_13 h16_ ) (lf_c_X9_isOf_2 v6_13 z15_ h7_ h16_ ) hv1_26 (RCH.tail hL_13 ⟨hv0_13, hv1_13, hv2_13, hI_13, hF_13, h7_, v8_26, hv0_26, v5_26, hv1_26, v7_26, hv2_26, M_26, hL_26, hI_26, hF_26, r9_, hs13_, h12_, (Or.inl ⟨h14_, z15_, h16_, rfl, rfl, rfl⟩)⟩) (Nat.lt_of_lt_of_le (lf_c_X9_isOf_3 v6_13 z15_ h7_ h16_ ) (Nat.le_of_lt_succ hm_13))
            · refine w_iload dX12_isPost_36 1 rfl ?_
              refine w_if_eq (tgt := 126) dX12_isPost_38 (by decide) (rfl : v7_26.toInt = v7_26.toInt) (fun h17_ => ?_) (fun h17_ => ?_)
              · refine w_iincB (j := 2) (f := fun z18_ => [(6, vI z18_), (8, vI v8_26), (7, vI v7_26), (5, vI v5_26), (4, vI r1_), (0, vR (12, 0, 0)), (1, vI v), (2, vI u), (3, vI t)]) dX12_isPost_126 rfl (by decide) (fun _ => rfl) (rfl : v6_13.toInt = v6_13.toInt) li_1 (lf_c_X9_isOf_0 v6_13 hv0_13 h7_ ) (fun z18_ h19_ => ?_)
                refine w_goto (tgt := 13) dX12_isPost_129 (by decide) ?_
                refine w_loc (ls' := [(6, vI z18_), (5, vI v5_26), (4, vI r1_), (0, vR (12, 0, 0)), (1, vI v), (2, vI u), (3, vI t)]) [0, 3, 4, 5, 6, 7, 8] rfl ?_
                exact ih_13 M_26 hI_26 hF_26 z18_ v5_26 (lf_c_X5_takeFrom_3 v6_13 z18_ hv0_13 h19_ ) (lf_c_X9_isOf_2 v6_13 z18_ h7_ h19_ ) hv1_26 (RCH.tail hL_13 ⟨hv0_13, hv1_13, hv2_13, hI_13, hF_13, h7_, v8_26, hv0_26, v5_26, hv1_26, v7_26, hv2_26, M_26, hL_26, hI_26, hF_26, r9_, hs13_, h12_, (Or.inr ⟨h14_, (Or.inl ⟨h17_, z18_, h19_, rfl, rfl, rfl⟩)⟩)⟩) (Nat.lt_of_lt_of_le (lf_c_X9_isOf_3 v6_13 z18_ h7_ h19_ ) (Nat.le_of_lt_succ hm_13))
              · refine w_aload_n dX12_isPost_41 rfl 5 rfl ?_
                refine w_iload_n dX12_isPost_42 rfl 7 rfl ?_
                refine w_iload dX12_isPost_43 2 rfl ?_
                refine w_iload dX12_isPost_45 0 rfl ?_
                refine w_callV (as := [vI u, vI v6_13, vI v8_26]) (rest := []) (c_X12_on l G cy ad (d + 2) u v6_13 v8_26 M_26 hI_26 (lf_c_X7_isSide_2 v6_13 hv0_13 h7_ )) kV_X12_on pnn_17 (Nat.le_of_ble_eq_true rfl) m_1632 rfl rfl rfl ic_12 rfl rfl (by decide) (Nat.le_of_ble_eq_true rfl) dX12_isPost_47 (fun r20_ M21_ q22_ => ?_)
                obtain ⟨rfl, h23_, hs24_⟩ := q22_
                refine w_if_lt (tgt := 126) dX12_isPost_50 (by decide) (rfl : r20_.toInt = r20_.toInt) (fun h25_ => ?_) (fun h25_ => ?_)
                · refine w_iincB (j := 2) (f := fun z26_ => [(6, vI z26_), (8, vI v8_26), (7, vI v7_26), (5, vI v5_26), (4, vI r1_), (0, vR (12, 0, 0)), (1, vI v), (2, vI u), (3, vI t)]) dX12_isPost_126 rfl (by decide) (fun _ => rfl) (rfl : v6_13.toInt = v6_13.toInt) li_1 (lf_c_X9_isOf_0 v6_13 hv0_13 h7_ ) (fun z26_ h27_ => ?_)
                  refine w_goto (tgt := 13) dX12_isPost_129 (by decide) ?_
                  refine w_loc (ls' := [(6, vI z26_), (5, vI v5_26), (4, vI r1_), (0, vR (12, 0, 0)), (1, vI v), (2, vI u), (3, vI t)]) [0, 3, 4, 5, 6, 7, 8] rfl ?_
                  exact ih_13 M_26 hI_26 hF_26 z26_ v5_26 (lf_c_X5_takeFrom_3 v6_13 z26_ hv0_13 h27_ ) (lf_c_X9_isOf_2 v6_13 z26_ h7_ h27_ ) hv1_26 (RCH.tail hL_13 ⟨hv0_13, hv1_13, hv2_13, hI_13, hF_13, h7_, v8_26, hv0_26, v5_26, hv1_26, v7_26, hv2_26, M_26, hL_26, hI_26, hF_26, r9_, hs13_, h12_, (Or.inr ⟨h14_, (Or.inr ⟨h17_, r20_, hs24_, h23_, h25_, z26_, h27_, rfl, rfl, rfl⟩)⟩)⟩) (Nat.lt_of_lt_of_le (lf_c_X9_isOf_3 v6_13 z26_ h7_ h27_ ) (Nat.le_of_lt_succ hm_13))
                · refine w_aload_n dX12_isPost_53 rfl 5 rfl ?_
                  refine w_aload_n dX12_isPost_54 rfl 5 rfl ?_
                  refine w_iload_n dX12_isPost_55 rfl 7 rfl ?_
                  refine w_iload dX12_isPost_56 2 rfl ?_
                  refine w_iload dX12_isPost_58 0 rfl ?_
                  refine w_callV (as := [vI u, vI v6_13, vI v8_26]) (rest := [vR (12, 0, 0)]) (c_X12_on l G cy ad (d + 2) u v6_13 v8_26 M_26 hI_26 (lf_c_X7_isSide_2 v6_13 hv0_13 h7_ )) kV_X12_on pnn_17 (Nat.le_of_ble_eq_true rfl) m_1632 rfl rfl rfl ic_12 rfl rfl (by decide) (Nat.le_of_ble_eq_true rfl) dX12_isPost_60 (fun r28_ M29_ q30_ => ?_)
                  obtain ⟨rfl, h31_, hs32_⟩ := q30_
                  refine w_callV (as := [vI r28_]) (rest := []) (c_X12_isFree l G cy ad (d + 1) r28_ M_26 hI_26) kV_X12_isFree pnn_17 (Nat.le_of_ble_eq_true rfl) m_1439 rfl rfl rfl ic_12 rfl rfl (by decide) (Nat.le_of_ble_eq_true rfl) dX12_isPost_63 (fun r33_ M34_ q35_ => ?_)
                  obtain ⟨rfl, h36_, hs37_⟩ := q35_
                  refine w_istore (ls' := [(7, vI r33_), (8, vI v8_26), (6, vI v6_13), (5, vI v5_26), (4, vI r1_), (0, vR (12, 0, 0)), (1, vI v), (2, vI u), (3, vI t)]) dX12_isPost_66 (by decide) rfl ?_
                  refine w_iload dX12_isPost_68 0 rfl ?_
                  refine w_if_eq (tgt := 120) dX12_isPost_70 (by decide) (rfl : r33_.toInt = r33_.toInt) (fun h38_ => ?_) (fun h38_ => ?_)
                  · refine w_iincB (j := 1) (f := fun z39_ => [(8, vI z39_), (7, vI r33_), (6, vI v6_13), (5, vI v5_26), (4, vI r1_), (0, vR (12, 0, 0)), (1, vI v), (2, vI u), (3, vI t)]) dX12_isPost_120 rfl (by decide) (fun _ => rfl) (rfl : v8_26.toInt = v8_26.toInt) li_1 (lf_c_X0_wouldHear_5 v8_26 r9_ hv0_26 h12_ h14_ ) (fun z39_ h40_ => ?_)
                    refine w_goto (tgt := 26) dX12_isPost_123 (by decide) ?_
                    refine w_loc (ls' := [(8, vI z39_), (7, vI r33_), (6, vI v6_13), (5, vI v5_26), (4, vI r1_), (0, vR (12, 0, 0)), (1, vI v), (2, vI u), (3, vI t)]) [0, 1, 2, 3, 4, 5, 6, 7, 8] rfl ?_
                    exact ih_26 M_26 hI_26 hF_26 z39_ r33_ v5_26 (lf_c_X9_yardsToFull_1 v8_26 z39_ hv0_26 h40_ ) hv1_26 (lf_c_X12_isPost_16 r33_ h36_ h38_ ) (RCH.tail hL_26 ⟨hv0_26, hv1_26, hv2_26, hI_26, hF_26, r9_, hs13_, h12_, h14_, h17_, r20_, hs24_, h23_, h25_, r28_, hs32_, h31_, r33_, hs37_, h36_, (Or.inl ⟨h38_, z39_, h40_, rfl, rfl, rfl, rfl⟩)⟩) (Nat.lt_of_lt_of_le (lf_c_X0_wouldHear_7 v8_26 r9_ z39_ h12_ h14_ h40_ ) (Nat.le_of_lt_succ hm_26))
                  · refine w_aload_n dX12_isPost_73 rfl 5 rfl ?_
                    refine w_iload_n dX12_isPost_74 rfl 7 rfl ?_
                    refine w_iload dX12_isPost_75 2 rfl ?_
                    refine w_iload dX12_isPost_77 1 rfl ?_
                    refine w_callV (as := [vI u, vI v6_13, vI v8_26]) (rest := []) (c_X12_on l G cy ad (d + 2) u v6_13 v8_26 M_26 hI_26 (lf_c_X7_isSide_2 v6_13 hv0_13 h7_ )) kV_X12_on pnn_17 (Nat.le_of_ble_eq_true rfl) m_1632 rfl rfl rfl ic_12 rfl rfl (by decide) (Nat.le_of_ble_eq_true rfl) dX12_isPost_79 (fun r41_ M42_ q43_ => ?_)
                    obtain ⟨rfl, h44_, hs45_⟩ := q43_
                    refine w_iload_n dX12_isPost_82 rfl 8 rfl ?_
                    refine w_icmp_ne (tgt := 120) dX12_isPost_83 (by decide) (rfl : r41_.toInt = r41_.toInt) (rfl : t.toInt = t.toInt) (fun h46_ => ?_) (fun h46_ => ?_)
                    · refine w_iincB (j := 1) (f := fun z47_ => [(8, vI z47_), (7, vI r33_), (6, vI v6_13), (5, vI v5_26), (4, vI r1_), (0, vR (12, 0, 0)), (1, vI v), (2, vI u), (3, vI t)]) dX12_isPost_120 rfl (by decide) (fun _ => rfl) (rfl : v8_26.toInt = v8_26.toInt) li_1 (lf_c_X0_wouldHear_5 v8_26 r9_ hv0_26 h12_ h14_ ) (fun z47_ h48_ => ?_)
                      refine w_goto (tgt := 26) dX12_isPost_123 (by decide) ?_
                      refine w_loc (ls' := [(8, vI z47_), (7, vI r33_), (6, vI v6_13), (5, vI v5_26), (4, vI r1_), (0, vR (12, 0, 0)), (1, vI v), (2, vI u), (3, vI t)]) [0, 1, 2, 3, 4, 5, 6, 7, 8] rfl ?_
                      exact ih_26 M_26 hI_26 hF_26 z47_ r33_ v5_26 (lf_c_X9_yardsToFull_1 v8_26 z47_ hv0_26 h48_ ) hv1_26 (lf_c_X2_hears_0 r33_ h36_ ) (RCH.tail hL_26 ⟨hv0_26, hv1_26, hv2_26, hI_26, hF_26, r9_, hs13_, h12_, h14_, h17_, r20_, hs24_, h23_, h25_, r28_, hs32_, h31_, r33_, hs37_, h36_, (Or.inr ⟨h38_, r41_, hs45_, h44_, (Or.inl ⟨h46_, z47_, h48_, rfl, rfl, rfl, rfl⟩)⟩)⟩) (Nat.lt_of_lt_of_le (lf_c_X0_wouldHear_7 v8_26 r9_ z47_ h12_ h14_ h48_ ) (Nat.le_of_lt_succ hm_26))
                    · refine w_aload_n dX12_isPost_86 rfl 5 rfl ?_
                      refine w_aload_n dX12_isPost_87 rfl 5 rfl ?_
                      refine w_iload_n dX12_isPost_88 rfl 6 rfl ?_
                      refine w_callV (as := [vI v]) (rest := [vR (12, 0, 0)]) (c_X12_ears l G cy ad (d + 1) v M_26 hI_26 hv) kV_X12_ears pnn_17 (Nat.le_of_ble_eq_true rfl) m_1524 rfl rfl rfl ic_12 rfl rfl (by decide) (Nat.le_of_ble_eq_true rfl) dX12_isPost_89 (fun r49_ M50_ q51_ => ?_)
                      obtain ⟨rfl, h52_, hs53_⟩ := q51_
                      refine w_iconst (v := 1) dX12_isPost_92 (by decide) ?_
                      refine w_aload_n dX12_isPost_93 rfl 5 rfl ?_
                      refine w_getR (c' := (50, 0, 0)) fl_RX12_9 rfl rfl ic_12 dX12_isPost_94 rfl ?_
                      refine w_iload dX12_isPost_97 4 rfl ?_
                      refine w_iconst (v := 3) dX12_isPost_99 (by decide) ?_
                      refine w_iaddB dX12_isPost_100 (rfl : r1_.toInt = r1_.toInt) li_3 (lf_c_X12_habit_0 v r1_ hv h4_ ) (fun z54_ h55_ => ?_)
                      refine w_iald rfl rfl ic_50 (rfl : z54_.toInt = z54_.toInt) (lf_c_X12_habit_1 v r1_ z54_ hv h4_ h55_ ) dX12_isPost_101 (fun j58_ h59_ z56_ e57_ => ?_)
                      refine w_aload_n dX12_isPost_102 rfl 5 rfl ?_
                      refine w_getR (c' := (50, 0, 0)) fl_RX12_9 rfl rfl ic_12 dX12_isPost_103 rfl ?_
                      refine w_iload dX12_isPost_106 4 rfl ?_
                      refine w_iconst (v := 4) dX12_isPost_108 (by decide) ?_
                      refine w_iaddB dX12_isPost_109 (rfl : r1_.toInt = r1_.toInt) li_4 (lf_c_X12_heardFrom_2 v r1_ z54_ j58_ hv h4_ h55_ h59_ ) (fun z60_ h61_ => ?_)
                      refine w_iald rfl rfl ic_50 (rfl : z60_.toInt = z60_.toInt) (lf_c_X12_habit_4 v r1_ z60_ hv h4_ h61_ ) dX12_isPost_110 (fun j64_ h65_ z62_ e63_ => ?_)
                      refine w_iload dX12_isPost_111 2 rfl ?_
                      refine w_iload dX12_isPost_113 1 rfl ?_
                      refine w_callV (as := [vI r49_, vI 1, vI z56_, vI z62_, vI v6_13, vI v8_26]) (rest := []) (c_X12_isHeard l G cy ad d r49_ 1 z56_ z62_ v6_13 v8_26 M_26 hI_26 (by first | decide | (unfold vF; omega) | (unfold vRw; omega))) kV_X12_isHeard pnn_17 (Nat.le_of_ble_eq_true rfl) m_1663 rfl rfl rfl ic_12 rfl rfl (by decide) (Nat.le_of_ble_eq_true rfl) dX12_isPost_115 (fun r66_ M67_ q68_ => ?_)
                      obtain ⟨hI70_, hF71_, h69_, hs73_⟩ := q68_
                      have hF72_ := hF_26.tr hF71_ (fun c k => (fun h => h.elim (fun h => (Or.inl ⟨h.1, h.2.1, h.2.2⟩)) (fun h => h.elim (fun h => (Or.inr (Or.inl ⟨h.1, h.2.1, h.2.2⟩))) (fun h => h.elim (fun h => (Or.inr (Or.inr (Or.inl ⟨h.1, h.2.1, h.2.2⟩)))) (fun h => h.elim (fun h => (Or.inr (Or.inr (Or.inr (Or.inl ⟨h.1, h.2.1, h.2.2⟩))))) (fun h => h.elim (fun h => (Or.inr (Or.inr (Or.inr (Or.inr (Or.inl ⟨h.1, h.2⟩)))))) (fun h => h.elim)))))))
                      refine w_istore (ls' := [(5, vI r66_), (7, vI r33_), (8, vI v8_26), (6, vI v6_13), (4, vI r1_), (0, vR (12, 0, 0)), (1, vI v), (2, vI u), (3, vI t)]) dX12_isPost_118 (by decide) rfl ?_
                      refine w_iincB (j := 2) (f := fun z74_ => [(8, vI z74_), (5, vI r66_), (7, vI r33_), (6, vI v6_13), (4, vI r1_), (0, vR (12, 0, 0)), (1, vI v), (2, vI u), (3, vI t)]) dX12_isPost_120 rfl (by decide) (fun _ => rfl) (rfl : v8_26.toInt = v8_26.toInt) li_1 (lf_c_X0_wouldHear_5 v8_26 r9_ hv0_26 h12_ h14_ ) (fun z74_ h75_ => ?_)
                      refine w_goto (tgt := 26) dX12_isPost_123 (by decide) ?_
                      refine w_loc (ls' := [(8, vI z74_), (7, vI r33_), (6, vI v6_13), (5, vI r66_), (4, vI r1_), (0, vR (12, 0, 0)), (1, vI v), (2, vI u), (3, vI t)]) [0, 2, 3, 1, 4, 5, 6, 7, 8] rfl ?_
                      exact ih_26 M67_ hI70_ hF72_ z74_ r33_ r66_ (lf_c_X9_yardsToFull_1 v8_26 z74_ hv0_26 h75_ ) (lf_c_X2_hears_0 r66_ h69_ ) (lf_c_X2_hears_0 r33_ h36_ ) (RCH.tail hL_26 ⟨hv0_26, hv1_26, hv2_26, hI_26, hF_26, r9_, hs13_, h12_, h14_, h17_, r20_, hs24_, h23_, h25_, r28_, hs32_, h31_, r33_, hs37_, h36_, (Or.inr ⟨h38_, r41_, hs45_, h44_, (Or.inr ⟨h46_, r49_, hs53_, h52_, z54_, h55_, j58_, h59_, z56_, e57_, z60_, h61_, j64_, h65_, z62_, e63_, M67_, hI70_, hF71_, r66_, hs73_, h69_, z74_, h75_, rfl, rfl, rfl, rfl⟩)⟩)⟩) (Nat.lt_of_lt_of_le (lf_c_X0_wouldHear_7 v8_26 r9_ z74_ h12_ h14_ h75_ ) (Nat.le_of_lt_succ hm_26))
        exact lp8_ _ M_13 hI_13 hF_13 1 1 v5_13 (lf_c_X9_yardsToFull_4 ) hv2_13 (lf_c_X12_areCells_19 ) RCH.refl (Nat.lt_succ_self _)
  exact lp6_ _ Mz hIz hFz 0 0 (lf_c_X5_takeFrom_5 ) (lf_c_X9_isOf_5 ) (lf_c_X12_areCells_14 ) RCH.refl (Nat.lt_succ_self _)
def S_c_X12_posts : rf → Nat → Prop := fun c k => (c.1 = 53 ∧ c.2.1 = 0) ∨ (c.1 = 12 ∧ c.2.1 = 0 ∧ k = 7) ∨ (c.1 = 64 ∧ c.2.1 = 0) ∨ (c.1 = 58 ∧ c.2.1 = 0 ∧ k = 0) ∨ (c.1 = 58 ∧ c.2.1 = 0 ∧ k = 1) ∨ (c.1 = 58 ∧ c.2.1 = 0 ∧ k = 2) ∨ (c.1 = 58 ∧ c.2.1 = 0 ∧ k = 3) ∨ (c.1 = 59 ∧ c.2.1 = 0) ∨ False
def ST_X12_posts_223 (t : Int32) (M69_ : mM) (v6_204 : Int32) (v8_223 : Int32) (v7_223 : Int32) (v8_223y : Int32) (v7_223y : Int32) : Prop := (0 ≤ v8_223.toInt) ∧ (0 ≤ v7_223.toInt ∧ v7_223.toInt ≤ 1) ∧ ∃ j105_ : Nat, ((j105_ : Int) = t.toInt) ∧ ∃ z103_ : Int32, (z103_ = M69_.1 (67, 0, 0) j105_) ∧ (0 ≤ z103_.toInt ∧ z103_.toInt ≤ 24) ∧ (z103_.toInt ≤ 8) ∧ (v8_223.toInt < z103_.toInt) ∧ (((v7_223.toInt = 0) ∧ ∃ z132_ : Int32, (z132_.toInt = v8_223.toInt + 1) ∧ v8_223y = z132_ ∧ v7_223y = 0) ∨ ((¬ v7_223.toInt = 0) ∧ ∃ j136_ : Nat, ((j136_ : Int) = v8_223.toInt) ∧ ∃ z134_ : Int32, (z134_ = M69_.1 (64, 0, 0) j136_) ∧ ∃ z138_ : Int32, (z138_ = z134_ &&& v6_204) ∧ (((z138_.toInt = 0) ∧ ∃ z141_ : Int32, (z141_.toInt = v8_223.toInt + 1) ∧ v8_223y = z141_ ∧ v7_223y = 0) ∨ ((¬ z138_.toInt = 0) ∧ ∃ z143_ : Int32, (z143_.toInt = v8_223.toInt + 1) ∧ v8_223y = z143_ ∧ v7_223y = 1))))
def ST_X12_posts_204 (u : Int32) (t : Int32) (M69_ : mM) (v6_204 : Int32) (v5_204 : Int32) (v6_204y : Int32) (v5_204y : Int32) : Prop := (0 ≤ v6_204.toInt) ∧ ∃ j78_ : Nat, ((j78_ : Int) = u.toInt) ∧ ∃ z76_ : Int32, (z76_ = M69_.1 (67, 0, 0) j78_) ∧ (0 ≤ z76_.toInt ∧ z76_.toInt ≤ 24) ∧ (z76_.toInt ≤ 8) ∧ ∃ z82_ : Int32, (z82_ = (1 : Int32) <<< (z76_ &&& 31)) ∧ (v6_204.toInt < z82_.toInt) ∧ ∃ v8_223 : Int32, (0 ≤ v8_223.toInt) ∧ ∃ v7_223 : Int32, (0 ≤ v7_223.toInt ∧ v7_223.toInt ≤ 1) ∧ (RCH (fun x_ y_ => ST_X12_posts_223 t M69_ v6_204 x_.1 x_.2 y_.1 y_.2) ((0 : Int32), (1 : Int32)) (v8_223, v7_223)) ∧ ∃ j105_ : Nat, ((j105_ : Int) = t.toInt) ∧ ∃ z103_ : Int32, (z103_ = M69_.1 (67, 0, 0) j105_) ∧ (0 ≤ z103_.toInt ∧ z103_.toInt ≤ 24) ∧ (z103_.toInt ≤ 8) ∧ (z103_.toInt ≤ v8_223.toInt) ∧ (((v7_223.toInt = 0) ∧ ∃ z111_ : Int32, (z111_.toInt = v6_204.toInt + 1) ∧ v6_204y = z111_ ∧ v5_204y = v5_204) ∨ ((¬ v7_223.toInt = 0) ∧ (((v5_204.toInt < 0) ∧ ∃ z114_ : Int32, (z114_.toInt = v6_204.toInt + 1) ∧ v6_204y = z114_ ∧ v5_204y = v6_204) ∨ ((0 ≤ v5_204.toInt) ∧ (InvD M69_) ∧ ∃ r116_ : Int32, (SP_X12_bits v6_204 M69_ r116_) ∧ ∃ r121_ : Int32, (SP_X12_bits v5_204 M69_ r121_) ∧ (((r121_.toInt ≤ r116_.toInt) ∧ ∃ z127_ : Int32, (z127_.toInt = v6_204.toInt + 1) ∧ v6_204y = z127_ ∧ v5_204y = v5_204) ∨ ((r116_.toInt < r121_.toInt) ∧ ∃ z129_ : Int32, (z129_.toInt = v6_204.toInt + 1) ∧ v6_204y = z129_ ∧ v5_204y = v6_204))))))
def ST_X12_posts_120 (v : Int32) (u : Int32) (t : Int32) (Mz : mM) (v5_98 : Int32) (v6_120 : Int32) (M_120 : mM) (v6_120y : Int32) (M_120y : mM) : Prop := (0 ≤ v6_120.toInt) ∧ (InvD M_120) ∧ (FR (S_c_X12_posts) Mz M_120) ∧ ∃ j156_ : Nat, ((j156_ : Int) = u.toInt) ∧ ∃ z154_ : Int32, (z154_ = M_120.1 (67, 0, 0) j156_) ∧ (0 ≤ z154_.toInt ∧ z154_.toInt ≤ 24) ∧ (z154_.toInt ≤ 8) ∧ (v6_120.toInt < z154_.toInt) ∧ ∃ j165_ : Nat, ((j165_ : Int) = v5_98.toInt) ∧ ∃ z163_ : Int32, (z163_ = M_120.1 (64, 0, 0) j165_) ∧ ∃ z167_ : Int32, (z167_.toInt = 24 * t.toInt) ∧ ∃ z169_ : Int32, (z169_.toInt = z167_.toInt + v5_98.toInt) ∧ ∃ j173_ : Nat, ((j173_ : Int) = z169_.toInt) ∧ ∃ z171_ : Int32, (z171_ = M_120.1 (68, 0, 0) j173_) ∧ ∃ z175_ : Int32, (z175_.toInt = 24 * u.toInt) ∧ ∃ z177_ : Int32, (z177_.toInt = z175_.toInt + v6_120.toInt) ∧ ∃ j181_ : Nat, ((j181_ : Int) = z177_.toInt) ∧ ∃ z179_ : Int32, (z179_ = M_120.1 (68, 0, 0) j181_) ∧ ∃ M184_ : mM, (InvD M184_) ∧ (FR (S_c_X12_isPost) M_120 M184_) ∧ ∃ r183_ : Int32, (SP_X12_isPost v z171_ z179_ M_120 r183_ M184_) ∧ ((0 ≤ r183_.toInt ∧ r183_.toInt ≤ 1)) ∧ (((r183_.toInt = 0) ∧ ∃ z194_ : Int32, (z194_ = z163_ ||| (0 : Int32)) ∧ ∃ j198_ : Nat, ((j198_ : Int) = v5_98.toInt) ∧ ∃ M196_ : mM, (M196_ = up M184_ (64, 0, 0) j198_ z194_) ∧ ∃ z204_ : Int32, (z204_.toInt = v6_120.toInt + 1) ∧ v6_120y = z204_ ∧ M_120y = M196_) ∨ ((¬ r183_.toInt = 0) ∧ ∃ z206_ : Int32, (z206_ = (1 : Int32) <<< (v6_120 &&& 31)) ∧ ∃ z208_ : Int32, (z208_ = z163_ ||| z206_) ∧ ∃ j212_ : Nat, ((j212_ : Int) = v5_98.toInt) ∧ ∃ M210_ : mM, (M210_ = up M184_ (64, 0, 0) j212_ z208_) ∧ ∃ z218_ : Int32, (z218_.toInt = v6_120.toInt + 1) ∧ v6_120y = z218_ ∧ M_120y = M210_))
def ST_X12_posts_98 (v : Int32) (u : Int32) (t : Int32) (Mz : mM) (v5_98 : Int32) (M_98 : mM) (v5_98y : Int32) (M_98y : mM) : Prop := (0 ≤ v5_98.toInt) ∧ (InvD M_98) ∧ (FR (S_c_X12_posts) Mz M_98) ∧ ∃ j64_ : Nat, ((j64_ : Int) = t.toInt) ∧ ∃ z62_ : Int32, (z62_ = M_98.1 (67, 0, 0) j64_) ∧ (0 ≤ z62_.toInt ∧ z62_.toInt ≤ 24) ∧ (z62_.toInt ≤ 8) ∧ (v5_98.toInt < z62_.toInt) ∧ ∃ j147_ : Nat, ((j147_ : Int) = v5_98.toInt) ∧ ∃ M145_ : mM, (M145_ = up M_98 (64, 0, 0) j147_ 0) ∧ ∃ v6_120 : Int32, (0 ≤ v6_120.toInt) ∧ ∃ M_120 : mM, (RCH (fun x_ y_ => ST_X12_posts_120 v u t Mz v5_98 x_.1 x_.2 y_.1 y_.2) ((0 : Int32), M145_) (v6_120, M_120)) ∧ (InvD M_120) ∧ (FR (S_c_X12_posts) Mz M_120) ∧ ∃ j156_ : Nat, ((j156_ : Int) = u.toInt) ∧ ∃ z154_ : Int32, (z154_ = M_120.1 (67, 0, 0) j156_) ∧ (0 ≤ z154_.toInt ∧ z154_.toInt ≤ 24) ∧ (z154_.toInt ≤ 8) ∧ (z154_.toInt ≤ v6_120.toInt) ∧ ∃ z161_ : Int32, (z161_.toInt = v5_98.toInt + 1) ∧ v5_98y = z161_ ∧ M_98y = M_120
def SP_X12_posts (v : Int32) (u : Int32) (t : Int32) (s : Int32) (Mz : mM) (r_ : Int32) (M_ : mM) : Prop := (((SP_is2 v Mz (1 : Int32)) ∧ (0 ≤ v.toInt ∧ v.toInt ≤ 7) ∧ (((SP_X12_isSheet u Mz (1 : Int32)) ∧ (0 ≤ u.toInt ∧ u.toInt ≤ 3) ∧ (((SP_X12_isSheet t Mz (1 : Int32)) ∧ (0 ≤ t.toInt ∧ t.toInt ≤ 3) ∧ (((SP_X12_within s 0 1 Mz (1 : Int32)) ∧ (0 ≤ s.toInt ∧ s.toInt ≤ 1) ∧ ∃ j27_ : Nat, ((j27_ : Int) = u.toInt) ∧ ∃ z25_ : Int32, (z25_ = Mz.1 (66, 0, 0) j27_) ∧ (((z25_.toInt = 0) ∧ ∃ M31_ : mM, (InvD M31_) ∧ (FR (S_c_X12_finding) Mz M31_) ∧ ∃ r30_ : Int32, (SP_X12_finding (-1000002) Mz r30_ M31_) ∧ (r30_.toInt = (-1000002)) ∧ r_ = r30_ ∧ M_ = M31_) ∨ ((¬ z25_.toInt = 0) ∧ ∃ j40_ : Nat, ((j40_ : Int) = t.toInt) ∧ ∃ z38_ : Int32, (z38_ = Mz.1 (66, 0, 0) j40_) ∧ (((¬ z38_.toInt = 0) ∧ (((SP_X12_areCells u 0 Mz (1 : Int32)) ∧ (SZ (Mz.1 (67, 0, 0)) u 8) ∧ (((SP_X12_areCells t 0 Mz (1 : Int32)) ∧ (SZ (Mz.1 (67, 0, 0)) t 8) ∧ ∃ M55_ : mM, (M55_ = up Mz (12, 0, 0) 7 v) ∧ ∃ v5_98 : Int32, (0 ≤ v5_98.toInt) ∧ ∃ M_98 : mM, (RCH (fun x_ y_ => ST_X12_posts_98 v u t Mz x_.1 x_.2 y_.1 y_.2) ((0 : Int32), M55_) (v5_98, M_98)) ∧ (InvD M_98) ∧ (FR (S_c_X12_posts) Mz M_98) ∧ ∃ j64_ : Nat, ((j64_ : Int) = t.toInt) ∧ ∃ z62_ : Int32, (z62_ = M_98.1 (67, 0, 0) j64_) ∧ (0 ≤ z62_.toInt ∧ z62_.toInt ≤ 24) ∧ (z62_.toInt ≤ 8) ∧ (z62_.toInt ≤ v5_98.toInt) ∧ ∃ M69_ : mM, (M69_ = up M_98 (12, 0, 0) 7 (-1)) ∧ ∃ v6_204 : Int32, (0 ≤ v6_204.toInt) ∧ ∃ v5_204 : Int32, (RCH (fun x_ y_ => ST_X12_posts_204 u t M69_ x_.1 x_.2 y_.1 y_.2) ((0 : Int32), ((-1) : Int32)) (v6_204, v5_204)) ∧ ∃ j78_ : Nat, ((j78_ : Int) = u.toInt) ∧ ∃ z76_ : Int32, (z76_ = M69_.1 (67, 0, 0) j78_) ∧ (0 ≤ z76_.toInt ∧ z76_.toInt ≤ 24) ∧ (z76_.toInt ≤ 8) ∧ ∃ z82_ : Int32, (z82_ = (1 : Int32) <<< (z76_ &&& 31)) ∧ (z82_.toInt ≤ v6_204.toInt) ∧ (((0 ≤ v5_204.toInt) ∧ (((¬ s.toInt = 0) ∧ r_ = v5_204 ∧ M_ = M69_) ∨ ((s.toInt = 0) ∧ (InvD M69_) ∧ ∃ r87_ : Int32, (SP_X12_bits v5_204 M69_ r87_) ∧ r_ = r87_ ∧ M_ = M69_))) ∨ ((v5_204.toInt < 0) ∧ (InvD M69_) ∧ ∃ M93_ : mM, (InvD M93_) ∧ (FR (S_c_X12_finding) M69_ M93_) ∧ ∃ r92_ : Int32, (SP_X12_finding (-1000003) M69_ r92_ M93_) ∧ (r92_.toInt = (-1000003)) ∧ r_ = r92_ ∧ M_ = M93_))) ∨ ((SP_X12_areCells t 0 Mz (0 : Int32)) ∧ ∃ M222_ : mM, (InvD M222_) ∧ (FR (S_c_X12_finding) Mz M222_) ∧ ∃ r221_ : Int32, (SP_X12_finding (-1000005) Mz r221_ M222_) ∧ (r221_.toInt = (-1000005)) ∧ r_ = r221_ ∧ M_ = M222_))) ∨ ((SP_X12_areCells u 0 Mz (0 : Int32)) ∧ ∃ M232_ : mM, (InvD M232_) ∧ (FR (S_c_X12_finding) Mz M232_) ∧ ∃ r231_ : Int32, (SP_X12_finding (-1000005) Mz r231_ M232_) ∧ (r231_.toInt = (-1000005)) ∧ r_ = r231_ ∧ M_ = M232_))) ∨ ((z38_.toInt = 0) ∧ ∃ M240_ : mM, (InvD M240_) ∧ (FR (S_c_X12_finding) Mz M240_) ∧ ∃ r239_ : Int32, (SP_X12_finding (-1000002) Mz r239_ M240_) ∧ (r239_.toInt = (-1000002)) ∧ r_ = r239_ ∧ M_ = M240_))))) ∨ ((SP_X12_within s 0 1 Mz (0 : Int32)) ∧ (¬ (0 ≤ s.toInt ∧ s.toInt ≤ 1)) ∧ ∃ M249_ : mM, (InvD M249_) ∧ (FR (S_c_X12_finding) Mz M249_) ∧ ∃ r248_ : Int32, (SP_X12_finding (-1000001) Mz r248_ M249_) ∧ (r248_.toInt = (-1000001)) ∧ r_ = r248_ ∧ M_ = M249_))) ∨ ((SP_X12_isSheet t Mz (0 : Int32)) ∧ (¬ (0 ≤ t.toInt ∧ t.toInt ≤ 3)) ∧ ∃ M258_ : mM, (InvD M258_) ∧ (FR (S_c_X12_finding) Mz M258_) ∧ ∃ r257_ : Int32, (SP_X12_finding (-1000001) Mz r257_ M258_) ∧ (r257_.toInt = (-1000001)) ∧ r_ = r257_ ∧ M_ = M258_))) ∨ ((SP_X12_isSheet u Mz (0 : Int32)) ∧ (¬ (0 ≤ u.toInt ∧ u.toInt ≤ 3)) ∧ ∃ M267_ : mM, (InvD M267_) ∧ (FR (S_c_X12_finding) Mz M267_) ∧ ∃ r266_ : Int32, (SP_X12_finding (-1000001) Mz r266_ M267_) ∧ (r266_.toInt = (-1000001)) ∧ r_ = r266_ ∧ M_ = M267_))) ∨ ((SP_is2 v Mz (0 : Int32)) ∧ ∃ M276_ : mM, (InvD M276_) ∧ (FR (S_c_X12_finding) Mz M276_) ∧ ∃ r275_ : Int32, (SP_X12_finding (-1000001) Mz r275_ M276_) ∧ (r275_.toInt = (-1000001)) ∧ r_ = r275_ ∧ M_ = M276_))
theorem lf_c_X12_posts_23 (v8_223 : Int32) (z103_ : Int32) (z132_ : Int32) (h108_ : z103_.toInt ≤ 8) (h109_ : v8_223.toInt < z103_.toInt) (h133_ : z132_.toInt = v8_223.toInt + 1) : (2147483648 - z132_.toInt).toNat < (2147483648 - v8_223.toInt).toNat := by have q0 := li_0; omega
theorem lf_c_X12_posts_24 (v8_223 : Int32) (z103_ : Int32) (hv0_223 : 0 ≤ v8_223.toInt) (h108_ : z103_.toInt ≤ 8) (h109_ : v8_223.toInt < z103_.toInt) : 0 ≤ v8_223.toInt ∧ v8_223.toInt < ((8 : Nat) : Int) := by omega
theorem lf_c_X12_posts_25 (M55_ : mM) (M69_ : mM) (M_98 : mM) (Mz : mM) (t : Int32) (j40_ : Nat) (z38_ : Int32) (v5_98 : Int32) (j64_ : Nat) (z62_ : Int32) (v8_223 : Int32) (j105_ : Nat) (z103_ : Int32) (j136_ : Nat) (z134_ : Int32) (h16_ : 0 ≤ t.toInt ∧ t.toInt ≤ 3) (h41_ : (j40_ : Int) = t.toInt) (e39_ : z38_ = Mz.1 (66, 0, 0) j40_) (h42_ : ¬ z38_.toInt = 0) (h52_ : SZ (Mz.1 (67, 0, 0)) t 8) (kf60_ : SZ (M55_.1 (67, 0, 0)) t 8) (hv0_98 : 0 ≤ v5_98.toInt) (kv1_98 : SZ (M_98.1 (67, 0, 0)) t 8) (h65_ : (j64_ : Int) = t.toInt) (e63_ : z62_ = M_98.1 (67, 0, 0) j64_) (h66_ : 0 ≤ z62_.toInt ∧ z62_.toInt ≤ 24) (h67_ : z62_.toInt ≤ 8) (h68_ : z62_.toInt ≤ v5_98.toInt) (kf74_ : SZ (M69_.1 (67, 0, 0)) t 8) (hv0_223 : 0 ≤ v8_223.toInt) (h106_ : (j105_ : Int) = t.toInt) (e104_ : z103_ = M69_.1 (67, 0, 0) j105_) (h107_ : 0 ≤ z103_.toInt ∧ z103_.toInt ≤ 24) (h108_ : z103_.toInt ≤ 8) (h109_ : v8_223.toInt < z103_.toInt) (h137_ : (j136_ : Int) = v8_223.toInt) (e135_ : z134_ = M69_.1 (64, 0, 0) j136_) : -2147483648 ≤ v8_223.toInt + 1 ∧ v8_223.toInt + 1 < 2147483648 := by have r_t := rngI t; have r_z38_ := rngI z38_; have r_v5_98 := rngI v5_98; have r_z62_ := rngI z62_; have r_v8_223 := rngI v8_223; have r_z103_ := rngI z103_; have r_z134_ := rngI z134_; subst e39_; subst e63_; subst e104_; subst e135_; omega
theorem lf_c_X12_posts_32 (v8_223 : Int32) (z103_ : Int32) (z143_ : Int32) (h108_ : z103_.toInt ≤ 8) (h109_ : v8_223.toInt < z103_.toInt) (h144_ : z143_.toInt = v8_223.toInt + 1) : (2147483648 - z143_.toInt).toNat < (2147483648 - v8_223.toInt).toNat := by have q0 := li_1; omega
theorem lf_c_X12_posts_39 (M145_ : mM) (M55_ : mM) (M_120 : mM) (M_98 : mM) (Mz : mM) (t : Int32) (j40_ : Nat) (z38_ : Int32) (v5_98 : Int32) (j64_ : Nat) (z62_ : Int32) (j147_ : Nat) (h16_ : 0 ≤ t.toInt ∧ t.toInt ≤ 3) (h41_ : (j40_ : Int) = t.toInt) (e39_ : z38_ = Mz.1 (66, 0, 0) j40_) (h42_ : ¬ z38_.toInt = 0) (h52_ : SZ (Mz.1 (67, 0, 0)) t 8) (kf60_ : SZ (M55_.1 (67, 0, 0)) t 8) (hv0_98 : 0 ≤ v5_98.toInt) (kv1_98 : SZ (M_98.1 (67, 0, 0)) t 8) (h65_ : (j64_ : Int) = t.toInt) (e63_ : z62_ = M_98.1 (67, 0, 0) j64_) (h66_ : 0 ≤ z62_.toInt ∧ z62_.toInt ≤ 24) (h67_ : z62_.toInt ≤ 8) (h68_ : v5_98.toInt < z62_.toInt) (h148_ : (j147_ : Int) = v5_98.toInt) (hM146_ : M145_ = up M_98 (64, 0, 0) j147_ 0) (kf152_ : SZ (M145_.1 (67, 0, 0)) t 8) (kv1_120 : SZ (M_120.1 (67, 0, 0)) t 8) : -2147483648 ≤ v5_98.toInt + 1 ∧ v5_98.toInt + 1 < 2147483648 := by have r_t := rngI t; have r_z38_ := rngI z38_; have r_v5_98 := rngI v5_98; have r_z62_ := rngI z62_; subst e39_; subst e63_; omega
set_option maxHeartbeats 4000000 in
set_option maxRecDepth 100000 in
theorem c_X12_posts (l : Launch) (G : va_G) (cy : Nat → ClassId) (ad : rf → Nat) (d : Nat) (v : Int32) (u : Int32) (t : Int32) (s : Int32) (Mz : mM) (hIz : InvD Mz) : WP DD l G cy ad yX12_posts cX12_posts 9 (some .int) (d + 5) 0 [(0, vR (12, 0, 0)), (1, vI v), (2, vI u), (3, vI t), (4, vI s)] [] Mz (fun r M' => InvD M' ∧ FR (S_c_X12_posts) Mz M' ∧ (True) ∧ SP_X12_posts v u t s Mz r M') := by
  have hFz : FR (S_c_X12_posts) Mz Mz := FR.self
  refine w_aload_n dX12_posts_0 rfl 0 rfl ?_
  refine w_iload_n dX12_posts_1 rfl 1 rfl ?_
  refine w_iconst (v := 2) dX12_posts_2 (by decide) ?_
  refine w_callV (as := [vI v, vI 2]) (rest := []) (c_is2 l G cy ad (d + 3) v Mz hIz) kV_X12_is pnn_17 (Nat.le_of_ble_eq_true rfl) m_1465 rfl rfl rfl ic_12 rfl rfl (by decide) (Nat.le_of_ble_eq_true rfl) dX12_posts_3 (fun r1_ M2_ q3_ => ?_)
  obtain ⟨rfl, h4_, hs5_⟩ := q3_
  rcases h4_ with ⟨rfl, h4_⟩ | rfl
  · refine w_if_eq (tgt := 33) dX12_posts_6 (by decide) li_1 (fun h9 => (absurd h9 (by decide))) (fun h6_ => ?_)
    refine w_iload_n dX12_posts_9 rfl 2 rfl ?_
    refine w_callS (as := [vI u]) (rest := []) (c_X12_isSheet l G cy ad (d + 3) u Mz hIz) kS_X12_isSheet pnn_17 (Nat.le_of_ble_eq_true rfl) m_1497 rfl rfl (by decide) (Nat.le_of_ble_eq_true rfl) dX12_posts_10 (fun r7_ M8_ q9_ => ?_)
    obtain ⟨rfl, h10_, hs11_⟩ := q9_
    rcases h10_ with ⟨rfl, h10_⟩ | ⟨rfl, h10_⟩
    · refine w_if_eq (tgt := 33) dX12_posts_13 (by decide) li_1 (fun h9 => (absurd h9 (by decide))) (fun h12_ => ?_)
      refine w_iload_n dX12_posts_16 rfl 3 rfl ?_
      refine w_callS (as := [vI t]) (rest := []) (c_X12_isSheet l G cy ad (d + 3) t Mz hIz) kS_X12_isSheet pnn_17 (Nat.le_of_ble_eq_true rfl) m_1497 rfl rfl (by decide) (Nat.le_of_ble_eq_true rfl) dX12_posts_17 (fun r13_ M14_ q15_ => ?_)
      obtain ⟨rfl, h16_, hs17_⟩ := q15_
      rcases h16_ with ⟨rfl, h16_⟩ | ⟨rfl, h16_⟩
      · refine w_if_eq (tgt := 33) dX12_posts_20 (by decide) li_1 (fun h9 => (absurd h9 (by decide))) (fun h18_ => ?_)
        refine w_iload dX12_posts_23 4 rfl ?_
        refine w_iconst (v := 0) dX12_posts_25 (by decide) ?_
        refine w_iconst (v := 1) dX12_posts_26 (by decide) ?_
        refine w_callS (as := [vI s, vI 0, vI 1]) (rest := []) (c_X12_within l G cy ad (d + 4) s 0 1 Mz hIz) kS_X12_within pnn_17 (Nat.le_of_ble_eq_true rfl) m_1427 rfl rfl (by decide) (Nat.le_of_ble_eq_true rfl) dX12_posts_27 (fun r19_ M20_ q21_ => ?_)
        obtain ⟨rfl, h22_, hs23_⟩ := q21_
        rcases h22_ with ⟨rfl, h22_⟩ | ⟨rfl, h22_⟩
        · simp only [li_0, li_1] at h22_
          refine w_if_ne (tgt := 40) dX12_posts_30 (by decide) li_1 (fun h24_ => ?_) (fun h9 => (absurd h9 (by decide)))
          refine w_aload_n dX12_posts_40 rfl 0 rfl ?_
          refine w_getR (c' := (66, 0, 0)) fl_RX12_72 rfl rfl ic_12 dX12_posts_41 rfl ?_
          refine w_iload_n dX12_posts_44 rfl 2 rfl ?_
          refine w_iald rfl rfl ic_66 (rfl : u.toInt = u.toInt) (lf_c_X11_lays_0 u h10_ ) dX12_posts_45 (fun j27_ h28_ z25_ e26_ => ?_)
          refine w_if_eq (tgt := 58) dX12_posts_46 (by decide) (rfl : z25_.toInt = z25_.toInt) (fun h29_ => ?_) (fun h29_ => ?_)
          · refine w_aload_n dX12_posts_58 rfl 0 rfl ?_
            refine w_ldc (v := (-1000002)) m_1500 dX12_posts_59 ?_
            refine w_callV (as := [vI (-1000002)]) (rest := []) (c_X12_finding l G cy ad (d + 4) (-1000002) Mz hIz (by first | decide | (unfold vF; omega) | (unfold vRw; omega))) kV_X12_finding pnn_17 (Nat.le_of_ble_eq_true rfl) m_1434 rfl rfl rfl ic_12 rfl rfl (by decide) (Nat.le_of_ble_eq_true rfl) dX12_posts_61 (fun r30_ M31_ q32_ => ?_)
            obtain ⟨hI34_, hF35_, h33_, hs37_⟩ := q32_
            have hF36_ := hFz.tr hF35_ (fun c k => (fun h => h.elim (fun h => (Or.inl ⟨h.1, h.2⟩)) (fun h => h.elim)))
            simp only [li_m1000002] at h33_
            exact w_iret rfl dX12_posts_64 ⟨hI34_, hF36_, trivial, (Or.inl ⟨hs5_, h4_, (Or.inl ⟨hs11_, h10_, (Or.inl ⟨hs17_, h16_, (Or.inl ⟨hs23_, h22_, j27_, h28_, z25_, e26_, (Or.inl ⟨h29_, M31_, hI34_, hF35_, r30_, hs37_, h33_, rfl, rfl⟩)⟩)⟩)⟩)⟩)⟩
          · refine w_aload_n dX12_posts_49 rfl 0 rfl ?_
            refine w_getR (c' := (66, 0, 0)) fl_RX12_72 rfl rfl ic_12 dX12_posts_50 rfl ?_
            refine w_iload_n dX12_posts_53 rfl 3 rfl ?_
            refine w_iald rfl rfl ic_66 (rfl : t.toInt = t.toInt) (lf_c_X11_lays_0 t h16_ ) dX12_posts_54 (fun j40_ h41_ z38_ e39_ => ?_)
            refine w_if_ne (tgt := 65) dX12_posts_55 (by decide) (rfl : z38_.toInt = z38_.toInt) (fun h42_ => ?_) (fun h42_ => ?_)
            · refine w_aload_n dX12_posts_65 rfl 0 rfl ?_
              refine w_iload_n dX12_posts_66 rfl 2 rfl ?_
              refine w_iconst (v := 0) dX12_posts_67 (by decide) ?_
              refine w_callV (as := [vI u, vI 0]) (rest := []) (c_X12_areCells l G cy ad (d + 2) u 0 Mz hIz h10_ (by first | decide | (unfold vF; omega) | (unfold vRw; omega))) kV_X12_areCells pnn_17 (Nat.le_of_ble_eq_true rfl) m_1719 rfl rfl rfl ic_12 rfl rfl (by decide) (Nat.le_of_ble_eq_true rfl) dX12_posts_68 (fun r43_ M44_ q45_ => ?_)
              obtain ⟨rfl, h46_, hs47_⟩ := q45_
              rcases h46_ with ⟨rfl, h46_⟩ | rfl
              · refine w_if_eq (tgt := 83) dX12_posts_71 (by decide) li_1 (fun h9 => (absurd h9 (by decide))) (fun h48_ => ?_)
                refine w_aload_n dX12_posts_74 rfl 0 rfl ?_
                refine w_iload_n dX12_posts_75 rfl 3 rfl ?_
                refine w_iconst (v := 0) dX12_posts_76 (by decide) ?_
                refine w_callV (as := [vI t, vI 0]) (rest := []) (c_X12_areCells l G cy ad (d + 2) t 0 Mz hIz h16_ (by first | decide | (unfold vF; omega) | (unfold vRw; omega))) kV_X12_areCells pnn_17 (Nat.le_of_ble_eq_true rfl) m_1719 rfl rfl rfl ic_12 rfl rfl (by decide) (Nat.le_of_ble_eq_true rfl) dX12_posts_77 (fun r49_ M50_ q51_ => ?_)
                obtain ⟨rfl, h52_, hs53_⟩ := q51_
                rcases h52_ with ⟨rfl, h52_⟩ | rfl
                · refine w_if_ne (tgt := 90) dX12_posts_80 (by decide) li_1 (fun h54_ => ?_) (fun h9 => (absurd h9 (by decide)))
                  refine w_aload_n dX12_posts_90 rfl 0 rfl ?_
                  refine w_iload_n dX12_posts_91 rfl 1 rfl ?_
                  refine w_putI DD_nd fl_RX12_28 rfl rfl ic_12 dX12_posts_92 (fun M55_ hM56_ => ?_)
                  have hI57_ := hIz.put hM56_ ⟨trivial, Or.inl (by decide)⟩
                  have hF58_ := hFz.put hM56_ (Or.inr (Or.inl ⟨rfl, rfl, rfl⟩))
                  have kf59_ : SZ (M55_.1 (67, 0, 0)) u 8 := by rw [(show M55_.1 (67, 0, 0) = Mz.1 (67, 0, 0) by rw [hM56_]; exact up_other _ _ (by simp))]; exact h46_
                  have kf60_ : SZ (M55_.1 (67, 0, 0)) t 8 := by rw [(show M55_.1 (67, 0, 0) = Mz.1 (67, 0, 0) by rw [hM56_]; exact up_other _ _ (by simp))]; exact h52_
                  refine w_iconst (v := 0) dX12_posts_95 (by decide) ?_
                  refine w_istore (ls' := [(5, vI 0), (0, vR (12, 0, 0)), (1, vI v), (2, vI u), (3, vI t), (4, vI s)]) dX12_posts_96 (by decide) rfl ?_
                  have lp61_ : ∀ (nn_98 : Nat) (M_98 : mM) (hI_98 : InvD M_98) (hF_98 : FR (S_c_X12_posts) Mz M_98) (v5_98 : Int32) (hv0_98 : 0 ≤ v5_98.toInt) (kv0_98 : SZ (M_98.1 (67, 0, 0)) u 8) (kv1_98 : SZ (M_98.1 (67, 0, 0)) t 8) (hL_98 : RCH (fun x_ y_ => ST_X12_posts_98 v u t Mz x_.1 x_.2 y_.1 y_.2) ((0 : Int32), M55_) (v5_98, M_98)), (2147483648 - v5_98.toInt).toNat < nn_98 → WP DD l G cy ad yX12_posts cX12_posts 9 (some .int) (d + 5) 98 [(5, vI v5_98), (0, vR (12, 0, 0)), (1, vI v), (2, vI u), (3, vI t), (4, vI s)] [] M_98 (fun r M' => InvD M' ∧ FR (S_c_X12_posts) Mz M' ∧ (True) ∧ SP_X12_posts v u t s Mz r M') := by
                    intro nn_98
                    induction nn_98 with
                    | zero => intro M_98 hI_98 hF_98 v5_98 hv0_98 kv0_98 kv1_98 hL_98 hm_98; exact absurd hm_98 (Nat.not_lt_zero _)
                    | succ nn_98 ih_98 =>
                      intro M_98 hI_98 hF_98 v5_98 hv0_98 kv0_98 kv1_98 hL_98 hm_98
                      refine w_iload dX12_posts_98 0 rfl ?_
                      refine w_aload_n dX12_posts_100 rfl 1 rfl ?_
                      refine w_getR (c' := (67, 0, 0)) fl_RX12_75 rfl rfl ic_12 dX12_posts_101 rfl ?_
                      refine w_iload_n dX12_posts_104 rfl 4 rfl ?_
                      refine w_iald rfl rfl ic_67 (rfl : t.toInt = t.toInt) (lf_c_X11_lays_0 t h16_ ) dX12_posts_105 (fun j64_ h65_ z62_ e63_ => ?_)
                      have h66_ : 0 ≤ z62_.toInt ∧ z62_.toInt ≤ 24 := pn_67 hI_98 e63_
                      have h67_ : z62_.toInt ≤ 8 := by rw [e63_]; exact kv1_98 j64_ (lf_c_X12_lays_6 t j64_ h65_ )
                      refine w_icmp_ge (tgt := 193) dX12_posts_106 (by decide) (rfl : v5_98.toInt = v5_98.toInt) (rfl : z62_.toInt = z62_.toInt) (fun h68_ => ?_) (fun h68_ => ?_)
                      · refine w_aload_n dX12_posts_193 rfl 1 rfl ?_
                        refine w_iconst (v := (-1)) dX12_posts_194 (by decide) ?_
                        refine w_putI DD_nd fl_RX12_28 rfl rfl ic_12 dX12_posts_195 (fun M69_ hM70_ => ?_)
                        have hI71_ := hI_98.put hM70_ ⟨trivial, Or.inl (by decide)⟩
                        have hF72_ := hF_98.put hM70_ (Or.inr (Or.inl ⟨rfl, rfl, rfl⟩))
                        have kf73_ : SZ (M69_.1 (67, 0, 0)) u 8 := by rw [(show M69_.1 (67, 0, 0) = M_98.1 (67, 0, 0) by rw [hM70_]; exact up_other _ _ (by simp))]; exact kv0_98
                        have kf74_ : SZ (M69_.1 (67, 0, 0)) t 8 := by rw [(show M69_.1 (67, 0, 0) = M_98.1 (67, 0, 0) by rw [hM70_]; exact up_other _ _ (by simp))]; exact kv1_98
                        refine w_iconst (v := (-1)) dX12_posts_198 (by decide) ?_
                        refine w_istore (ls' := [(5, vI (-1)), (0, vR (12, 0, 0)), (1, vI v), (2, vI u), (3, vI t), (4, vI s)]) dX12_posts_199 (by decide) rfl ?_
                        refine w_iconst (v := 0) dX12_posts_201 (by decide) ?_
                        refine w_istore (ls' := [(6, vI 0), (5, vI (-1)), (0, vR (12, 0, 0)), (1, vI v), (2, vI u), (3, vI t), (4, vI s)]) dX12_posts_202 (by decide) rfl ?_
                        have lp75_ : ∀ (nn_204 : Nat) (v6_204 : Int32) (v5_204 : Int32) (hv0_204 : 0 ≤ v6_204.toInt) (hL_204 : RCH (fun x_ y_ => ST_X12_posts_204 u t M69_ x_.1 x_.2 y_.1 y_.2) ((0 : Int32), ((-1) : Int32)) (v6_204, v5_204)), (2147483648 - v6_204.toInt).toNat < nn_204 → WP DD l G cy ad yX12_posts cX12_posts 9 (some .int) (d + 5) 204 [(6, vI v6_204), (5, vI v5_204), (0, vR (12, 0, 0)), (1, vI v), (2, vI u), (3, vI t), (4, vI s)] [] M69_ (fun r M' => InvD M' ∧ FR (S_c_X12_posts) Mz M' ∧ (True) ∧ SP_X12_posts v u t s Mz r M') := by
                          intro nn_204
                          induction nn_204 with
                          | zero => intro v6_204 v5_204 hv0_204 hL_204 hm_204; exact absurd hm_204 (Nat.not_lt_zero _)
                          | succ nn_204 ih_204 =>
                            intro v6_204 v5_204 hv0_204 hL_204 hm_204
                            refine w_iload dX12_posts_204 0 rfl ?_
                            refine w_iconst (v := 1) dX12_posts_206 (by decide) ?_
                            refine w_aload_n dX12_posts_207 rfl 2 rfl ?_
                            refine w_getR (c' := (67, 0, 0)) fl_RX12_75 rfl rfl ic_12 dX12_posts_208 rfl ?_
                            refine w_iload_n dX12_posts_211 rfl 4 rfl ?_
                            refine w_iald rfl rfl ic_67 (rfl : u.toInt = u.toInt) (lf_c_X11_lays_0 u h10_ ) dX12_posts_212 (fun j78_ h79_ z76_ e77_ => ?_)
                            have h80_ : 0 ≤ z76_.toInt ∧ z76_.toInt ≤ 24 := pn_67 hI71_ e77_
                            have h81_ : z76_.toInt ≤ 8 := by rw [e77_]; exact kf73_ j78_ (lf_c_X12_lays_6 u j78_ h79_ )
                            refine w_ishl dX12_posts_213 (fun z82_ h83_ => ?_)
                            refine w_icmp_ge (tgt := 303) dX12_posts_214 (by decide) (rfl : v6_204.toInt = v6_204.toInt) (rfl : z82_.toInt = z82_.toInt) (fun h84_ => ?_) (fun h84_ => ?_)
                            · refine w_iload dX12_posts_303 1 rfl ?_
                              refine w_if_ge (tgt := 317) dX12_posts_305 (by decide) (rfl : v5_204.toInt = v5_204.toInt) (fun h85_ => ?_) (fun h85_ => ?_)
                              · refine w_iload dX12_posts_317 6 rfl ?_
                                refine w_if_ne (tgt := 330) dX12_posts_319 (by decide) (rfl : s.toInt = s.toInt) (fun h86_ => ?_) (fun h86_ => ?_)
                                · refine w_iload dX12_posts_330 1 rfl ?_
                                  exact w_iret rfl dX12_posts_332 ⟨hI71_, hF72_, trivial, (Or.inl ⟨hs5_, h4_, (Or.inl ⟨hs11_, h10_, (Or.inl ⟨hs17_, h16_, (Or.inl ⟨hs23_, h22_, j27_, h28_, z25_, e26_, (Or.inr ⟨h29_, j40_, h41_, z38_, e39_, (Or.inl ⟨h42_, (Or.inl ⟨hs47_, h46_, (Or.inl ⟨hs53_, h52_, M55_, hM56_, v5_98, hv0_98, M_98, hL_98, hI_98, hF_98, j64_, h65_, z62_, e63_, h66_, h67_, h68_, M69_, hM70_, v6_204, hv0_204, v5_204, hL_204, j78_, h79_, z76_, e77_, h80_, h81_, z82_, h83_, h84_, (Or.inl ⟨h85_, (Or.inl ⟨h86_, rfl, rfl⟩)⟩)⟩)⟩)⟩)⟩)⟩)⟩)⟩)⟩)⟩
                                · refine w_iload dX12_posts_322 1 rfl ?_
                                  refine w_callS (as := [vI v5_204]) (rest := []) (c_X12_bits l G cy ad (d + 4) v5_204 M69_ hI71_) kS_X12_bits pnn_17 (Nat.le_of_ble_eq_true rfl) m_1727 rfl rfl (by decide) (Nat.le_of_ble_eq_true rfl) dX12_posts_324 (fun r87_ M88_ q89_ => ?_)
                                  obtain ⟨rfl, h90_, hs91_⟩ := q89_
                                  refine w_goto (tgt := 332) dX12_posts_327 (by decide) ?_
                                  exact w_iret rfl dX12_posts_332 ⟨hI71_, hF72_, trivial, (Or.inl ⟨hs5_, h4_, (Or.inl ⟨hs11_, h10_, (Or.inl ⟨hs17_, h16_, (Or.inl ⟨hs23_, h22_, j27_, h28_, z25_, e26_, (Or.inr ⟨h29_, j40_, h41_, z38_, e39_, (Or.inl ⟨h42_, (Or.inl ⟨hs47_, h46_, (Or.inl ⟨hs53_, h52_, M55_, hM56_, v5_98, hv0_98, M_98, hL_98, hI_98, hF_98, j64_, h65_, z62_, e63_, h66_, h67_, h68_, M69_, hM70_, v6_204, hv0_204, v5_204, hL_204, j78_, h79_, z76_, e77_, h80_, h81_, z82_, h83_, h84_, (Or.inl ⟨h85_, (Or.inr ⟨h86_, hI71_, r87_, hs91_, rfl, rfl⟩)⟩)⟩)⟩)⟩)⟩)⟩)⟩)⟩)⟩)⟩
                              · refine w_aload_n dX12_posts_308 rfl 2 rfl ?_
                                refine w_ldc (v := (-1000003)) m_1455 dX12_posts_309 ?_
                                refine w_callV (as := [vI (-1000003)]) (rest := []) (c_X12_finding l G cy ad (d + 4) (-1000003) M69_ hI71_ (by first | decide | (unfold vF; omega) | (unfold vRw; omega))) kV_X12_finding pnn_17 (Nat.le_of_ble_eq_true rfl) m_1434 rfl rfl rfl ic_12 rfl rfl (by decide) (Nat.le_of_ble_eq_true rfl) dX12_posts_311 (fun r92_ M93_ q94_ => ?_)
                                obtain ⟨hI96_, hF97_, h95_, hs99_⟩ := q94_
                                have hF98_ := hF72_.tr hF97_ (fun c k => (fun h => h.elim (fun h => (Or.inl ⟨h.1, h.2⟩)) (fun h => h.elim)))
                                have kf100_ : SZ (M93_.1 (67, 0, 0)) u 8 := by rw [(show M93_.1 (67, 0, 0) = M69_.1 (67, 0, 0) from funext (fun k => hF97_ (67, 0, 0) k (by simp [S_c_X12_finding])))]; exact kf73_
                                have kf101_ : SZ (M93_.1 (67, 0, 0)) t 8 := by rw [(show M93_.1 (67, 0, 0) = M69_.1 (67, 0, 0) from funext (fun k => hF97_ (67, 0, 0) k (by simp [S_c_X12_finding])))]; exact kf74_
                                simp only [li_m1000003] at h95_
                                refine w_goto (tgt := 332) dX12_posts_314 (by decide) ?_
                                exact w_iret rfl dX12_posts_332 ⟨hI96_, hF98_, trivial, (Or.inl ⟨hs5_, h4_, (Or.inl ⟨hs11_, h10_, (Or.inl ⟨hs17_, h16_, (Or.inl ⟨hs23_, h22_, j27_, h28_, z25_, e26_, (Or.inr ⟨h29_, j40_, h41_, z38_, e39_, (Or.inl ⟨h42_, (Or.inl ⟨hs47_, h46_, (Or.inl ⟨hs53_, h52_, M55_, hM56_, v5_98, hv0_98, M_98, hL_98, hI_98, hF_98, j64_, h65_, z62_, e63_, h66_, h67_, h68_, M69_, hM70_, v6_204, hv0_204, v5_204, hL_204, j78_, h79_, z76_, e77_, h80_, h81_, z82_, h83_, h84_, (Or.inr ⟨h85_, hI71_, M93_, hI96_, hF97_, r92_, hs99_, h95_, rfl, rfl⟩)⟩)⟩)⟩)⟩)⟩)⟩)⟩)⟩)⟩
                            · refine w_iconst (v := 1) dX12_posts_217 (by decide) ?_
                              refine w_istore (ls' := [(7, vI 1), (6, vI v6_204), (5, vI v5_204), (0, vR (12, 0, 0)), (1, vI v), (2, vI u), (3, vI t), (4, vI s)]) dX12_posts_218 (by decide) rfl ?_
                              refine w_iconst (v := 0) dX12_posts_220 (by decide) ?_
                              refine w_istore (ls' := [(8, vI 0), (7, vI 1), (6, vI v6_204), (5, vI v5_204), (0, vR (12, 0, 0)), (1, vI v), (2, vI u), (3, vI t), (4, vI s)]) dX12_posts_221 (by decide) rfl ?_
                              have lp102_ : ∀ (nn_223 : Nat) (v8_223 : Int32) (v7_223 : Int32) (hv0_223 : 0 ≤ v8_223.toInt) (hv1_223 : 0 ≤ v7_223.toInt ∧ v7_223.toInt ≤ 1) (hL_223 : RCH (fun x_ y_ => ST_X12_posts_223 t M69_ v6_204 x_.1 x_.2 y_.1 y_.2) ((0 : Int32), (1 : Int32)) (v8_223, v7_223)), (2147483648 - v8_223.toInt).toNat < nn_223 → WP DD l G cy ad yX12_posts cX12_posts 9 (some .int) (d + 5) 223 [(8, vI v8_223), (7, vI v7_223), (6, vI v6_204), (5, vI v5_204), (0, vR (12, 0, 0)), (1, vI v), (2, vI u), (3, vI t), (4, vI s)] [] M69_ (fun r M' => InvD M' ∧ FR (S_c_X12_posts) Mz M' ∧ (True) ∧ SP_X12_posts v u t s Mz r M') := by
                                intro nn_223
                                induction nn_223 with
                                | zero => intro v8_223 v7_223 hv0_223 hv1_223 hL_223 hm_223; exact absurd hm_223 (Nat.not_lt_zero _)
                                | succ nn_223 ih_223 =>
                                  intro v8_223 v7_223 hv0_223 hv1_223 hL_223 hm_223
                                  refine w_iload dX12_posts_223 0 rfl ?_
                                  refine w_aload_n dX12_posts_225 rfl 4 rfl ?_
                                  refine w_getR (c' := (67, 0, 0)) fl_RX12_75 rfl rfl ic_12 dX12_posts_226 rfl ?_
                                  refine w_iload_n dX12_posts_229 rfl 7 rfl ?_
                                  refine w_iald rfl rfl ic_67 (rfl : t.toInt = t.toInt) (lf_c_X11_lays_0 t h16_ ) dX12_posts_230 (fun j105_ h106_ z103_ e104_ => ?_)
                                  have h107_ : 0 ≤ z103_.toInt ∧ z103_.toInt ≤ 24 := pn_67 hI71_ e104_
                                  have h108_ : z103_.toInt ≤ 8 := by rw [e104_]; exact kf74_ j105_ (lf_c_X12_lays_6 t j105_ h106_ )
                                  refine w_icmp_ge (tgt := 265) dX12_posts_231 (by decide) (rfl : v8_223.toInt = v8_223.toInt) (rfl : z103_.toInt = z103_.toInt) (fun h109_ => ?_) (fun h109_ => ?_)
                                  · refine w_iload dX12_posts_265 1 rfl ?_
                                    refine w_if_eq (tgt := 293) dX12_posts_267 (by decide) (rfl : v7_223.toInt = v7_223.toInt) (fun h110_ => ?_) (fun h110_ => ?_)
                                    · refine w_iload dX12_posts_293 3 rfl ?_
                                      refine w_istore (ls' := [(5, vI v5_204), (8, vI v8_223), (7, vI v7_223), (6, vI v6_204), (0, vR (12, 0, 0)), (1, vI v), (2, vI u), (3, vI t), (4, vI s)]) dX12_posts_295 (by decide) rfl ?_
                                      refine w_iincB (j := 3) (f := fun z111_ => [(6, vI z111_), (5, vI v5_204), (8, vI v8_223), (7, vI v7_223), (0, vR (12, 0, 0)), (1, vI v), (2, vI u), (3, vI t), (4, vI s)]) dX12_posts_297 rfl (by decide) (fun _ => rfl) (rfl : v6_204.toInt = v6_204.toInt) li_1 (lf_c_X5_takeFrom_2 v6_204 z82_ hv0_204 h84_ ) (fun z111_ h112_ => ?_)
                                      refine w_goto (tgt := 204) dX12_posts_300 (by decide) ?_
                                      refine w_loc (ls' := [(6, vI z111_), (5, vI v5_204), (0, vR (12, 0, 0)), (1, vI v), (2, vI u), (3, vI t), (4, vI s)]) [0, 1, 4, 5, 6, 7, 8] rfl ?_
                                      exact ih_204 z111_ v5_204 (lf_c_X5_takeFrom_3 v6_204 z111_ hv0_204 h112_ ) (RCH.tail hL_204 ⟨hv0_204, j78_, h79_, z76_, e77_, h80_, h81_, z82_, h83_, h84_, v8_223, hv0_223, v7_223, hv1_223, hL_223, j105_, h106_, z103_, e104_, h107_, h108_, h109_, (Or.inl ⟨h110_, z111_, h112_, rfl, rfl⟩)⟩) (Nat.lt_of_lt_of_le (lf_c_X5_takeFrom_4 v6_204 z111_ h112_ ) (Nat.le_of_lt_succ hm_204))
                                    · refine w_iload dX12_posts_270 3 rfl ?_
                                      refine w_if_lt (tgt := 288) dX12_posts_272 (by decide) (rfl : v5_204.toInt = v5_204.toInt) (fun h113_ => ?_) (fun h113_ => ?_)
                                      · refine w_iload dX12_posts_288 2 rfl ?_
                                        refine w_goto (tgt := 295) dX12_posts_290 (by decide) ?_
                                        refine w_istore (ls' := [(5, vI v6_204), (8, vI v8_223), (7, vI v7_223), (6, vI v6_204), (0, vR (12, 0, 0)), (1, vI v), (2, vI u), (3, vI t), (4, vI s)]) dX12_posts_295 (by decide) rfl ?_
                                        refine w_iincB (j := 3) (f := fun z114_ => [(6, vI z114_), (5, vI v6_204), (8, vI v8_223), (7, vI v7_223), (0, vR (12, 0, 0)), (1, vI v), (2, vI u), (3, vI t), (4, vI s)]) dX12_posts_297 rfl (by decide) (fun _ => rfl) (rfl : v6_204.toInt = v6_204.toInt) li_1 (lf_c_X5_takeFrom_2 v6_204 z82_ hv0_204 h84_ ) (fun z114_ h115_ => ?_)
                                        refine w_goto (tgt := 204) dX12_posts_300 (by decide) ?_
                                        refine w_loc (ls' := [(6, vI z114_), (5, vI v6_204), (0, vR (12, 0, 0)), (1, vI v), (2, vI u), (3, vI t), (4, vI s)]) [0, 1, 4, 5, 6, 7, 8] rfl ?_
                                        exact ih_204 z114_ v6_204 (lf_c_X5_takeFrom_3 v6_204 z114_ hv0_204 h115_ ) (RCH.tail hL_204 ⟨hv0_204, j78_, h79_, z76_, e77_, h80_, h81_, z82_, h83_, h84_, v8_223, hv0_223, v7_223, hv1_223, hL_223, j105_, h106_, z103_, e104_, h107_, h108_, h109_, (Or.inr ⟨h110_, (Or.inl ⟨h113_, z114_, h115_, rfl, rfl⟩)⟩)⟩) (Nat.lt_of_lt_of_le (lf_c_X5_takeFrom_4 v6_204 z114_ h115_ ) (Nat.le_of_lt_succ hm_204))
                                      · refine w_iload dX12_posts_275 2 rfl ?_
                                        refine w_callS (as := [vI v6_204]) (rest := []) (c_X12_bits l G cy ad (d + 4) v6_204 M69_ hI71_) kS_X12_bits pnn_17 (Nat.le_of_ble_eq_true rfl) m_1727 rfl rfl (by decide) (Nat.le_of_ble_eq_true rfl) dX12_posts_277 (fun r116_ M117_ q118_ => ?_)
                                        obtain ⟨rfl, h119_, hs120_⟩ := q118_
                                        refine w_iload dX12_posts_280 3 rfl ?_
                                        refine w_callS (as := [vI v5_204]) (rest := [vI r116_]) (c_X12_bits l G cy ad (d + 4) v5_204 M69_ hI71_) kS_X12_bits pnn_17 (Nat.le_of_ble_eq_true rfl) m_1727 rfl rfl (by decide) (Nat.le_of_ble_eq_true rfl) dX12_posts_282 (fun r121_ M122_ q123_ => ?_)
                                        obtain ⟨rfl, h124_, hs125_⟩ := q123_
                                        refine w_icmp_ge (tgt := 293) dX12_posts_285 (by decide) (rfl : r116_.toInt = r116_.toInt) (rfl : r121_.toInt = r121_.toInt) (fun h126_ => ?_) (fun h126_ => ?_)
                                        · refine w_iload dX12_posts_293 3 rfl ?_
                                          refine w_istore (ls' := [(5, vI v5_204), (8, vI v8_223), (7, vI v7_223), (6, vI v6_204), (0, vR (12, 0, 0)), (1, vI v), (2, vI u), (3, vI t), (4, vI s)]) dX12_posts_295 (by decide) rfl ?_
                                          refine w_iincB (j := 3) (f := fun z127_ => [(6, vI z127_), (5, vI v5_204), (8, vI v8_223), (7, vI v7_223), (0, vR (12, 0, 0)), (1, vI v), (2, vI u), (3, vI t), (4, vI s)]) dX12_posts_297 rfl (by decide) (fun _ => rfl) (rfl : v6_204.toInt = v6_204.toInt) li_1 (lf_c_X5_takeFrom_2 v6_204 z82_ hv0_204 h84_ ) (fun z127_ h128_ => ?_)
                                          refine w_goto (tgt := 204) dX12_posts_300 (by decide) ?_
                                          refine w_loc (ls' := [(6, vI z127_), (5, vI v5_204), (0, vR (12, 0, 0)), (1, vI v), (2, vI u), (3, vI t), (4, vI s)]) [0, 1, 4, 5, 6, 7, 8] rfl ?_
                                          exact ih_204 z127_ v5_204 (lf_c_X5_takeFrom_3 v6_204 z127_ hv0_204 h128_ ) (RCH.tail hL_204 ⟨hv0_204, j78_, h79_, z76_, e77_, h80_, h81_, z82_, h83_, h84_, v8_223, hv0_223, v7_223, hv1_223, hL_223, j105_, h106_, z103_, e104_, h107_, h108_, h109_, (Or.inr ⟨h110_, (Or.inr ⟨h113_, hI71_, r116_, hs120_, r121_, hs125_, (Or.inl ⟨h126_, z127_, h128_, rfl, rfl⟩)⟩)⟩)⟩) (Nat.lt_of_lt_of_le (lf_c_X5_takeFrom_4 v6_204 z127_ h128_ ) (Nat.le_of_lt_succ hm_204))
                                        · refine w_iload dX12_posts_288 2 rfl ?_
                                          refine w_goto (tgt := 295) dX12_posts_290 (by decide) ?_
                                          refine w_istore (ls' := [(5, vI v6_204), (8, vI v8_223), (7, vI v7_223), (6, vI v6_204), (0, vR (12, 0, 0)), (1, vI v), (2, vI u), (3, vI t), (4, vI s)]) dX12_posts_295 (by decide) rfl ?_
                                          refine w_iincB (j := 3) (f := fun z129_ => [(6, vI z129_), (5, vI v6_204), (8, vI v8_223), (7, vI v7_223), (0, vR (12, 0, 0)), (1, vI v), (2, vI u), (3, vI t), (4, vI s)]) dX12_posts_297 rfl (by decide) (fun _ => rfl) (rfl : v6_204.toInt = v6_204.toInt) li_1 (lf_c_X5_takeFrom_2 v6_204 z82_ hv0_204 h84_ ) (fun z129_ h130_ => ?_)
                                          refine w_goto (tgt := 204) dX12_posts_300 (by decide) ?_
                                          refine w_loc (ls' := [(6, vI z129_), (5, vI v6_204), (0, vR (12, 0, 0)), (1, vI v), (2, vI u), (3, vI t), (4, vI s)]) [0, 1, 4, 5, 6, 7, 8] rfl ?_
                                          exact ih_204 z129_ v6_204 (lf_c_X5_takeFrom_3 v6_204 z129_ hv0_204 h130_ ) (RCH.tail hL_204 ⟨hv0_204, j78_, h79_, z76_, e77_, h80_, h81_, z82_, h83_, h84_, v8_223, hv0_223, v7_223, hv1_223, hL_223, j105_, h106_, z103_, e104_, h107_, h108_, h109_, (Or.inr ⟨h110_, (Or.inr ⟨h113_, hI71_, r116_, hs120_, r121_, hs125_, (Or.inr ⟨h126_, z129_, h130_, rfl, rfl⟩)⟩)⟩)⟩) (Nat.lt_of_lt_of_le (lf_c_X5_takeFrom_4 v6_204 z129_ h130_ ) (Nat.le_of_lt_succ hm_204))
                                  · refine w_iload dX12_posts_234 1 rfl ?_
                                    refine w_if_eq (tgt := 256) dX12_posts_236 (by decide) (rfl : v7_223.toInt = v7_223.toInt) (fun h131_ => ?_) (fun h131_ => ?_)
                                    · refine w_iconst (v := 0) dX12_posts_256 (by decide) ?_
                                      refine w_istore (ls' := [(7, vI 0), (8, vI v8_223), (6, vI v6_204), (5, vI v5_204), (0, vR (12, 0, 0)), (1, vI v), (2, vI u), (3, vI t), (4, vI s)]) dX12_posts_257 (by decide) rfl ?_
                                      refine w_iincB (j := 1) (f := fun z132_ => [(8, vI z132_), (7, vI 0), (6, vI v6_204), (5, vI v5_204), (0, vR (12, 0, 0)), (1, vI v), (2, vI u), (3, vI t), (4, vI s)]) dX12_posts_259 rfl (by decide) (fun _ => rfl) (rfl : v8_223.toInt = v8_223.toInt) li_1 (lf_c_X12_spots_21 v8_223 z103_ hv0_223 h108_ h109_ ) (fun z132_ h133_ => ?_)
                                      refine w_goto (tgt := 223) dX12_posts_262 (by decide) ?_
                                      refine w_loc (ls' := [(8, vI z132_), (7, vI 0), (6, vI v6_204), (5, vI v5_204), (0, vR (12, 0, 0)), (1, vI v), (2, vI u), (3, vI t), (4, vI s)]) [0, 1, 2, 3, 4, 5, 6, 7, 8] rfl ?_
                                      exact ih_223 z132_ 0 (lf_c_X12_toldBy_13 v8_223 z132_ hv0_223 h133_ ) (lf_c_X12_areCells_14 ) (RCH.tail hL_223 ⟨hv0_223, hv1_223, j105_, h106_, z103_, e104_, h107_, h108_, h109_, (Or.inl ⟨h131_, z132_, h133_, rfl, rfl⟩)⟩) (Nat.lt_of_lt_of_le (lf_c_X12_posts_23 v8_223 z103_ z132_ h108_ h109_ h133_ ) (Nat.le_of_lt_succ hm_223))
                                    · refine w_aload_n dX12_posts_239 rfl 4 rfl ?_
                                      refine w_getR (c' := (64, 0, 0)) fl_RX12_66 rfl rfl ic_12 dX12_posts_240 rfl ?_
                                      refine w_iload dX12_posts_243 0 rfl ?_
                                      refine w_iald rfl rfl ic_64 (rfl : v8_223.toInt = v8_223.toInt) (lf_c_X12_posts_24 v8_223 z103_ hv0_223 h108_ h109_ ) dX12_posts_245 (fun j136_ h137_ z134_ e135_ => ?_)
                                      refine w_iload dX12_posts_246 2 rfl ?_
                                      refine w_iand dX12_posts_248 (fun z138_ h139_ => ?_)
                                      refine w_if_eq (tgt := 256) dX12_posts_249 (by decide) (rfl : z138_.toInt = z138_.toInt) (fun h140_ => ?_) (fun h140_ => ?_)
                                      · refine w_iconst (v := 0) dX12_posts_256 (by decide) ?_
                                        refine w_istore (ls' := [(7, vI 0), (8, vI v8_223), (6, vI v6_204), (5, vI v5_204), (0, vR (12, 0, 0)), (1, vI v), (2, vI u), (3, vI t), (4, vI s)]) dX12_posts_257 (by decide) rfl ?_
                                        refine w_iincB (j := 1) (f := fun z141_ => [(8, vI z141_), (7, vI 0), (6, vI v6_204), (5, vI v5_204), (0, vR (12, 0, 0)), (1, vI v), (2, vI u), (3, vI t), (4, vI s)]) dX12_posts_259 rfl (by decide) (fun _ => rfl) (rfl : v8_223.toInt = v8_223.toInt) li_1 (lf_c_X12_posts_25 M55_ M69_ M_98 Mz t j40_ z38_ v5_98 j64_ z62_ v8_223 j105_ z103_ j136_ z134_ h16_ h41_ e39_ h42_ h52_ kf60_ hv0_98 kv1_98 h65_ e63_ h66_ h67_ h68_ kf74_ hv0_223 h106_ e104_ h107_ h108_ h109_ h137_ e135_ ) (fun z141_ h142_ => ?_)
                                        refine w_goto (tgt := 223) dX12_posts_262 (by decide) ?_
                                        refine w_loc (ls' := [(8, vI z141_), (7, vI 0), (6, vI v6_204), (5, vI v5_204), (0, vR (12, 0, 0)), (1, vI v), (2, vI u), (3, vI t), (4, vI s)]) [0, 1, 2, 3, 4, 5, 6, 7, 8] rfl ?_
                                        exact ih_223 z141_ 0 (lf_c_X12_toldBy_13 v8_223 z141_ hv0_223 h142_ ) (lf_c_X12_areCells_14 ) (RCH.tail hL_223 ⟨hv0_223, hv1_223, j105_, h106_, z103_, e104_, h107_, h108_, h109_, (Or.inr ⟨h131_, j136_, h137_, z134_, e135_, z138_, h139_, (Or.inl ⟨h140_, z141_, h142_, rfl, rfl⟩)⟩)⟩) (Nat.lt_of_lt_of_le (lf_c_X12_posts_23 v8_223 z103_ z141_ h108_ h109_ h142_ ) (Nat.le_of_lt_succ hm_223))
                                      · refine w_iconst (v := 1) dX12_posts_252 (by decide) ?_
                                        refine w_goto (tgt := 257) dX12_posts_253 (by decide) ?_
                                        refine w_istore (ls' := [(7, vI 1), (8, vI v8_223), (6, vI v6_204), (5, vI v5_204), (0, vR (12, 0, 0)), (1, vI v), (2, vI u), (3, vI t), (4, vI s)]) dX12_posts_257 (by decide) rfl ?_
                                        refine w_iincB (j := 1) (f := fun z143_ => [(8, vI z143_), (7, vI 1), (6, vI v6_204), (5, vI v5_204), (0, vR (12, 0, 0)), (1, vI v), (2, vI u), (3, vI t), (4, vI s)]) dX12_posts_259 rfl (by decide) (fun _ => rfl) (rfl : v8_223.toInt = v8_223.toInt) li_1 (lf_c_X12_posts_25 M55_ M69_ M_98 Mz t j40_ z38_ v5_98 j64_ z62_ v8_223 j105_ z103_ j136_ z134_ h16_ h41_ e39_ h42_ h52_ kf60_ hv0_98 kv1_98 h65_ e63_ h66_ h67_ h68_ kf74_ hv0_223 h106_ e104_ h107_ h108_ h109_ h137_ e135_ ) (fun z143_ h144_ => ?_)
                                        refine w_goto (tgt := 223) dX12_posts_262 (by decide) ?_
                                        refine w_loc (ls' := [(8, vI z143_), (7, vI 1), (6, vI v6_204), (5, vI v5_204), (0, vR (12, 0, 0)), (1, vI v), (2, vI u), (3, vI t), (4, vI s)]) [0, 1, 2, 3, 4, 5, 6, 7, 8] rfl ?_
                                        exact ih_223 z143_ 1 (lf_c_X12_toldBy_9 v8_223 z143_ hv0_223 h144_ ) (lf_c_X12_areCells_19 ) (RCH.tail hL_223 ⟨hv0_223, hv1_223, j105_, h106_, z103_, e104_, h107_, h108_, h109_, (Or.inr ⟨h131_, j136_, h137_, z134_, e135_, z138_, h139_, (Or.inr ⟨h140_, z143_, h144_, rfl, rfl⟩)⟩)⟩) (Nat.lt_of_lt_of_le (lf_c_X12_posts_32 v8_223 z103_ z143_ h108_ h109_ h144_ ) (Nat.le_of_lt_succ hm_223))
                              exact lp102_ _ 0 1 (lf_c_X12_areCells_37 ) (lf_c_X12_areCells_39 ) RCH.refl (Nat.lt_succ_self _)
                        exact lp75_ _ 0 (-1) (lf_c_X0_nearestOpen_29 ) RCH.refl (Nat.lt_succ_self _)
                      · refine w_aload_n dX12_posts_109 rfl 1 rfl ?_
                        refine w_getR (c' := (64, 0, 0)) fl_RX12_66 rfl rfl ic_12 dX12_posts_110 rfl ?_
                        refine w_iload dX12_posts_113 0 rfl ?_
                        refine w_iconst (v := 0) dX12_posts_115 (by decide) ?_
                        refine w_iast DD_nd rfl rfl ic_64 (rfl : v5_98.toInt = v5_98.toInt) (lf_c_X12_posts_24 v5_98 z62_ hv0_98 h67_ h68_ ) dX12_posts_116 (fun j147_ h148_ M145_ hM146_ => ?_)
                        have hI149_ := hI_98.put hM146_ ⟨trivial, Or.inr (by decide)⟩
                        have hF150_ := hF_98.put hM146_ (Or.inr (Or.inr (Or.inl ⟨rfl, rfl⟩)))
                        have kf151_ : SZ (M145_.1 (67, 0, 0)) u 8 := by rw [(show M145_.1 (67, 0, 0) = M_98.1 (67, 0, 0) by rw [hM146_]; exact up_other _ _ (by simp))]; exact kv0_98
                        have kf152_ : SZ (M145_.1 (67, 0, 0)) t 8 := by rw [(show M145_.1 (67, 0, 0) = M_98.1 (67, 0, 0) by rw [hM146_]; exact up_other _ _ (by simp))]; exact kv1_98
                        refine w_iconst (v := 0) dX12_posts_117 (by decide) ?_
                        refine w_istore (ls' := [(6, vI 0), (5, vI v5_98), (0, vR (12, 0, 0)), (1, vI v), (2, vI u), (3, vI t), (4, vI s)]) dX12_posts_118 (by decide) rfl ?_
                        have lp153_ : ∀ (nn_120 : Nat) (M_120 : mM) (hI_120 : InvD M_120) (hF_120 : FR (S_c_X12_posts) Mz M_120) (v6_120 : Int32) (hv0_120 : 0 ≤ v6_120.toInt) (kv0_120 : SZ (M_120.1 (67, 0, 0)) u 8) (kv1_120 : SZ (M_120.1 (67, 0, 0)) t 8) (hL_120 : RCH (fun x_ y_ => ST_X12_posts_120 v u t Mz v5_98 x_.1 x_.2 y_.1 y_.2) ((0 : Int32), M145_) (v6_120, M_120)), (2147483648 - v6_120.toInt).toNat < nn_120 → WP DD l G cy ad yX12_posts cX12_posts 9 (some .int) (d + 5) 120 [(6, vI v6_120), (5, vI v5_98), (0, vR (12, 0, 0)), (1, vI v), (2, vI u), (3, vI t), (4, vI s)] [] M_120 (fun r M' => InvD M' ∧ FR (S_c_X12_posts) Mz M' ∧ (True) ∧ SP_X12_posts v u t s Mz r M') := by
                          intro nn_120
                          induction nn_120 with
                          | zero => intro M_120 hI_120 hF_120 v6_120 hv0_120 kv0_120 kv1_120 hL_120 hm_120; exact absurd hm_120 (Nat.not_lt_zero _)
                          | succ nn_120 ih_120 =>
                            intro M_120 hI_120 hF_120 v6_120 hv0_120 kv0_120 kv1_120 hL_120 hm_120
                            refine w_iload dX12_posts_120 0 rfl ?_
                            refine w_aload_n dX12_posts_122 rfl 2 rfl ?_
                            refine w_getR (c' := (67, 0, 0)) fl_RX12_75 rfl rfl ic_12 dX12_posts_123 rfl ?_
                            refine w_iload_n dX12_posts_126 rfl 4 rfl ?_
                            refine w_iald rfl rfl ic_67 (rfl : u.toInt = u.toInt) (lf_c_X11_lays_0 u h10_ ) dX12_posts_127 (fun j156_ h157_ z154_ e155_ => ?_)
                            have h158_ : 0 ≤ z154_.toInt ∧ z154_.toInt ≤ 24 := pn_67 hI_120 e155_
                            have h159_ : z154_.toInt ≤ 8 := by rw [e155_]; exact kv0_120 j156_ (lf_c_X12_lays_6 u j156_ h157_ )
                            refine w_icmp_ge (tgt := 187) dX12_posts_128 (by decide) (rfl : v6_120.toInt = v6_120.toInt) (rfl : z154_.toInt = z154_.toInt) (fun h160_ => ?_) (fun h160_ => ?_)
                            · refine w_iincB (j := 1) (f := fun z161_ => [(5, vI z161_), (6, vI v6_120), (0, vR (12, 0, 0)), (1, vI v), (2, vI u), (3, vI t), (4, vI s)]) dX12_posts_187 rfl (by decide) (fun _ => rfl) (rfl : v5_98.toInt = v5_98.toInt) li_1 (lf_c_X12_posts_39 M145_ M55_ M_120 M_98 Mz t j40_ z38_ v5_98 j64_ z62_ j147_ h16_ h41_ e39_ h42_ h52_ kf60_ hv0_98 kv1_98 h65_ e63_ h66_ h67_ h68_ h148_ hM146_ kf152_ kv1_120 ) (fun z161_ h162_ => ?_)
                              refine w_goto (tgt := 98) dX12_posts_190 (by decide) ?_
                              refine w_loc (ls' := [(5, vI z161_), (0, vR (12, 0, 0)), (1, vI v), (2, vI u), (3, vI t), (4, vI s)]) [0, 2, 3, 4, 5, 6] rfl ?_
                              exact ih_98 M_120 hI_120 hF_120 z161_ (lf_c_X5_takeFrom_3 v5_98 z161_ hv0_98 h162_ ) kv0_120 kv1_120 (RCH.tail hL_98 ⟨hv0_98, hI_98, hF_98, j64_, h65_, z62_, e63_, h66_, h67_, h68_, j147_, h148_, M145_, hM146_, v6_120, hv0_120, M_120, hL_120, hI_120, hF_120, j156_, h157_, z154_, e155_, h158_, h159_, h160_, z161_, h162_, rfl, rfl⟩) (Nat.lt_of_lt_of_le (lf_c_X12_spots_23 v5_98 z62_ z161_ h67_ h68_ h162_ ) (Nat.le_of_lt_succ hm_98))
                            · refine w_aload_n dX12_posts_131 rfl 2 rfl ?_
                              refine w_getR (c' := (64, 0, 0)) fl_RX12_66 rfl rfl ic_12 dX12_posts_132 rfl ?_
                              refine w_iload dX12_posts_135 1 rfl ?_
                              refine w_dup2 dX12_posts_137 rfl rfl ?_
                              refine w_iald rfl rfl ic_64 (rfl : v5_98.toInt = v5_98.toInt) (lf_c_X12_posts_24 v5_98 z62_ hv0_98 h67_ h68_ ) dX12_posts_138 (fun j165_ h166_ z163_ e164_ => ?_)
                              refine w_aload_n dX12_posts_139 rfl 2 rfl ?_
                              refine w_iload_n dX12_posts_140 rfl 3 rfl ?_
                              refine w_aload_n dX12_posts_141 rfl 2 rfl ?_
                              refine w_getR (c' := (68, 0, 0)) fl_RX12_78 rfl rfl ic_12 dX12_posts_142 rfl ?_
                              refine w_bipush (v := 24) dX12_posts_145 (by decide) ?_
                              refine w_iload_n dX12_posts_147 rfl 5 rfl ?_
                              refine w_imulB dX12_posts_148 li_24 (rfl : t.toInt = t.toInt) (lf_c_X12_lays_7 t h16_ ) (fun z167_ h168_ => ?_)
                              refine w_iload dX12_posts_149 1 rfl ?_
                              refine w_iaddB dX12_posts_151 (rfl : z167_.toInt = z167_.toInt) (rfl : v5_98.toInt = v5_98.toInt) (lf_c_X12_spots_19 t v5_98 z62_ z167_ h16_ hv0_98 h67_ h68_ h168_ ) (fun z169_ h170_ => ?_)
                              refine w_iald rfl rfl ic_68 (rfl : z169_.toInt = z169_.toInt) (lf_c_X12_spots_20 t v5_98 z62_ z167_ z169_ h16_ hv0_98 h67_ h68_ h168_ h170_ ) dX12_posts_152 (fun j173_ h174_ z171_ e172_ => ?_)
                              refine w_aload_n dX12_posts_153 rfl 2 rfl ?_
                              refine w_getR (c' := (68, 0, 0)) fl_RX12_78 rfl rfl ic_12 dX12_posts_154 rfl ?_
                              refine w_bipush (v := 24) dX12_posts_157 (by decide) ?_
                              refine w_iload_n dX12_posts_159 rfl 4 rfl ?_
                              refine w_imulB dX12_posts_160 li_24 (rfl : u.toInt = u.toInt) (lf_c_X12_lays_7 u h10_ ) (fun z175_ h176_ => ?_)
                              refine w_iload dX12_posts_161 0 rfl ?_
                              refine w_iaddB dX12_posts_163 (rfl : z175_.toInt = z175_.toInt) (rfl : v6_120.toInt = v6_120.toInt) (lf_c_X12_spots_19 u v6_120 z154_ z175_ h10_ hv0_120 h159_ h160_ h176_ ) (fun z177_ h178_ => ?_)
                              refine w_iald rfl rfl ic_68 (rfl : z177_.toInt = z177_.toInt) (lf_c_X12_spots_20 u v6_120 z154_ z175_ z177_ h10_ hv0_120 h159_ h160_ h176_ h178_ ) dX12_posts_164 (fun j181_ h182_ z179_ e180_ => ?_)
                              refine w_callV (as := [vI v, vI z171_, vI z179_]) (rest := [vI z163_, vI v5_98, vR (64, 0, 0)]) (c_X12_isPost l G cy ad d v z171_ z179_ M_120 hI_120 h4_) kV_X12_isPost pnn_17 (Nat.le_of_ble_eq_true rfl) m_1795 rfl rfl rfl ic_12 rfl rfl (by decide) (Nat.le_of_ble_eq_true rfl) dX12_posts_165 (fun r183_ M184_ q185_ => ?_)
                              obtain ⟨hI187_, hF188_, h186_, hs190_⟩ := q185_
                              have hF189_ := hF_120.tr hF188_ (fun c k => (fun h => h.elim (fun h => (Or.inr (Or.inr (Or.inr (Or.inl ⟨h.1, h.2.1, h.2.2⟩))))) (fun h => h.elim (fun h => (Or.inr (Or.inr (Or.inr (Or.inr (Or.inl ⟨h.1, h.2.1, h.2.2⟩)))))) (fun h => h.elim (fun h => (Or.inr (Or.inr (Or.inr (Or.inr (Or.inr (Or.inl ⟨h.1, h.2.1, h.2.2⟩))))))) (fun h => h.elim (fun h => (Or.inr (Or.inr (Or.inr (Or.inr (Or.inr (Or.inr (Or.inl ⟨h.1, h.2.1, h.2.2⟩)))))))) (fun h => h.elim (fun h => (Or.inr (Or.inr (Or.inr (Or.inr (Or.inr (Or.inr (Or.inr (Or.inl ⟨h.1, h.2⟩))))))))) (fun h => h.elim)))))))
                              have kf191_ : SZ (M184_.1 (67, 0, 0)) u 8 := by rw [(show M184_.1 (67, 0, 0) = M_120.1 (67, 0, 0) from funext (fun k => hF188_ (67, 0, 0) k (by simp [S_c_X12_isPost])))]; exact kv0_120
                              have kf192_ : SZ (M184_.1 (67, 0, 0)) t 8 := by rw [(show M184_.1 (67, 0, 0) = M_120.1 (67, 0, 0) from funext (fun k => hF188_ (67, 0, 0) k (by simp [S_c_X12_isPost])))]; exact kv1_120
                              refine w_if_eq (tgt := 178) dX12_posts_168 (by decide) (rfl : r183_.toInt = r183_.toInt) (fun h193_ => ?_) (fun h193_ => ?_)
                              · refine w_iconst (v := 0) dX12_posts_178 (by decide) ?_
                                refine w_ior dX12_posts_179 (fun z194_ h195_ => ?_)
                                refine w_iast DD_nd rfl rfl ic_64 (rfl : v5_98.toInt = v5_98.toInt) (lf_c_X12_posts_24 v5_98 z62_ hv0_98 h67_ h68_ ) dX12_posts_180 (fun j198_ h199_ M196_ hM197_ => ?_)
                                have hI200_ := hI187_.put hM197_ ⟨trivial, Or.inr (by decide)⟩
                                have hF201_ := hF189_.put hM197_ (Or.inr (Or.inr (Or.inl ⟨rfl, rfl⟩)))
                                have kf202_ : SZ (M196_.1 (67, 0, 0)) u 8 := by rw [(show M196_.1 (67, 0, 0) = M184_.1 (67, 0, 0) by rw [hM197_]; exact up_other _ _ (by simp))]; exact kf191_
                                have kf203_ : SZ (M196_.1 (67, 0, 0)) t 8 := by rw [(show M196_.1 (67, 0, 0) = M184_.1 (67, 0, 0) by rw [hM197_]; exact up_other _ _ (by simp))]; exact kf192_
                                refine w_iincB (j := 0) (f := fun z204_ => [(6, vI z204_), (5, vI v5_98), (0, vR (12, 0, 0)), (1, vI v), (2, vI u), (3, vI t), (4, vI s)]) dX12_posts_181 rfl (by decide) (fun _ => rfl) (rfl : v6_120.toInt = v6_120.toInt) li_1 (lf_c_X12_spots_21 v6_120 z154_ hv0_120 h159_ h160_ ) (fun z204_ h205_ => ?_)
                                refine w_goto (tgt := 120) dX12_posts_184 (by decide) ?_
                                refine w_loc (ls' := [(6, vI z204_), (5, vI v5_98), (0, vR (12, 0, 0)), (1, vI v), (2, vI u), (3, vI t), (4, vI s)]) [0, 1, 2, 3, 4, 5, 6] rfl ?_
                                exact ih_120 M196_ hI200_ hF201_ z204_ (lf_c_X5_takeFrom_3 v6_120 z204_ hv0_120 h205_ ) kf202_ kf203_ (RCH.tail hL_120 ⟨hv0_120, hI_120, hF_120, j156_, h157_, z154_, e155_, h158_, h159_, h160_, j165_, h166_, z163_, e164_, z167_, h168_, z169_, h170_, j173_, h174_, z171_, e172_, z175_, h176_, z177_, h178_, j181_, h182_, z179_, e180_, M184_, hI187_, hF188_, r183_, hs190_, h186_, (Or.inl ⟨h193_, z194_, h195_, j198_, h199_, M196_, hM197_, z204_, h205_, rfl, rfl⟩)⟩) (Nat.lt_of_lt_of_le (lf_c_X12_spots_23 v6_120 z154_ z204_ h159_ h160_ h205_ ) (Nat.le_of_lt_succ hm_120))
                              · refine w_iconst (v := 1) dX12_posts_171 (by decide) ?_
                                refine w_iload dX12_posts_172 0 rfl ?_
                                refine w_ishl dX12_posts_174 (fun z206_ h207_ => ?_)
                                refine w_goto (tgt := 179) dX12_posts_175 (by decide) ?_
                                refine w_ior dX12_posts_179 (fun z208_ h209_ => ?_)
                                refine w_iast DD_nd rfl rfl ic_64 (rfl : v5_98.toInt = v5_98.toInt) (lf_c_X12_posts_24 v5_98 z62_ hv0_98 h67_ h68_ ) dX12_posts_180 (fun j212_ h213_ M210_ hM211_ => ?_)
                                have hI214_ := hI187_.put hM211_ ⟨trivial, Or.inr (by decide)⟩
                                have hF215_ := hF189_.put hM211_ (Or.inr (Or.inr (Or.inl ⟨rfl, rfl⟩)))
                                have kf216_ : SZ (M210_.1 (67, 0, 0)) u 8 := by rw [(show M210_.1 (67, 0, 0) = M184_.1 (67, 0, 0) by rw [hM211_]; exact up_other _ _ (by simp))]; exact kf191_
                                have kf217_ : SZ (M210_.1 (67, 0, 0)) t 8 := by rw [(show M210_.1 (67, 0, 0) = M184_.1 (67, 0, 0) by rw [hM211_]; exact up_other _ _ (by simp))]; exact kf192_
                                refine w_iincB (j := 0) (f := fun z218_ => [(6, vI z218_), (5, vI v5_98), (0, vR (12, 0, 0)), (1, vI v), (2, vI u), (3, vI t), (4, vI s)]) dX12_posts_181 rfl (by decide) (fun _ => rfl) (rfl : v6_120.toInt = v6_120.toInt) li_1 (lf_c_X12_spots_21 v6_120 z154_ hv0_120 h159_ h160_ ) (fun z218_ h219_ => ?_)
                                refine w_goto (tgt := 120) dX12_posts_184 (by decide) ?_
                                refine w_loc (ls' := [(6, vI z218_), (5, vI v5_98), (0, vR (12, 0, 0)), (1, vI v), (2, vI u), (3, vI t), (4, vI s)]) [0, 1, 2, 3, 4, 5, 6] rfl ?_
                                exact ih_120 M210_ hI214_ hF215_ z218_ (lf_c_X5_takeFrom_3 v6_120 z218_ hv0_120 h219_ ) kf216_ kf217_ (RCH.tail hL_120 ⟨hv0_120, hI_120, hF_120, j156_, h157_, z154_, e155_, h158_, h159_, h160_, j165_, h166_, z163_, e164_, z167_, h168_, z169_, h170_, j173_, h174_, z171_, e172_, z175_, h176_, z177_, h178_, j181_, h182_, z179_, e180_, M184_, hI187_, hF188_, r183_, hs190_, h186_, (Or.inr ⟨h193_, z206_, h207_, z208_, h209_, j212_, h213_, M210_, hM211_, z218_, h219_, rfl, rfl⟩)⟩) (Nat.lt_of_lt_of_le (lf_c_X12_spots_23 v6_120 z154_ z218_ h159_ h160_ h219_ ) (Nat.le_of_lt_succ hm_120))
                        exact lp153_ _ M145_ hI149_ hF150_ 0 (lf_c_X5_takeFrom_5 ) kf151_ kf152_ RCH.refl (Nat.lt_succ_self _)
                  exact lp61_ _ M55_ hI57_ hF58_ 0 (lf_c_X5_takeFrom_5 ) kf59_ kf60_ RCH.refl (Nat.lt_succ_self _)
                · refine w_if_ne (tgt := 90) dX12_posts_80 (by decide) li_0 (fun h9 => (absurd h9 (by decide))) (fun h220_ => ?_)
                  refine w_aload_n dX12_posts_83 rfl 0 rfl ?_
                  refine w_ldc (v := (-1000005)) m_1476 dX12_posts_84 ?_
                  refine w_callV (as := [vI (-1000005)]) (rest := []) (c_X12_finding l G cy ad (d + 4) (-1000005) Mz hIz (by first | decide | (unfold vF; omega) | (unfold vRw; omega))) kV_X12_finding pnn_17 (Nat.le_of_ble_eq_true rfl) m_1434 rfl rfl rfl ic_12 rfl rfl (by decide) (Nat.le_of_ble_eq_true rfl) dX12_posts_86 (fun r221_ M222_ q223_ => ?_)
                  obtain ⟨hI225_, hF226_, h224_, hs228_⟩ := q223_
                  have hF227_ := hFz.tr hF226_ (fun c k => (fun h => h.elim (fun h => (Or.inl ⟨h.1, h.2⟩)) (fun h => h.elim)))
                  have kf229_ : SZ (M222_.1 (67, 0, 0)) u 8 := by rw [(show M222_.1 (67, 0, 0) = Mz.1 (67, 0, 0) from funext (fun k => hF226_ (67, 0, 0) k (by simp [S_c_X12_finding])))]; exact h46_
                  simp only [li_m1000005] at h224_
                  exact w_iret rfl dX12_posts_89 ⟨hI225_, hF227_, trivial, (Or.inl ⟨hs5_, h4_, (Or.inl ⟨hs11_, h10_, (Or.inl ⟨hs17_, h16_, (Or.inl ⟨hs23_, h22_, j27_, h28_, z25_, e26_, (Or.inr ⟨h29_, j40_, h41_, z38_, e39_, (Or.inl ⟨h42_, (Or.inl ⟨hs47_, h46_, (Or.inr ⟨hs53_, M222_, hI225_, hF226_, r221_, hs228_, h224_, rfl, rfl⟩)⟩)⟩)⟩)⟩)⟩)⟩)⟩)⟩
              · refine w_if_eq (tgt := 83) dX12_posts_71 (by decide) li_0 (fun h230_ => ?_) (fun h9 => (absurd h9 (by decide)))
                refine w_aload_n dX12_posts_83 rfl 0 rfl ?_
                refine w_ldc (v := (-1000005)) m_1476 dX12_posts_84 ?_
                refine w_callV (as := [vI (-1000005)]) (rest := []) (c_X12_finding l G cy ad (d + 4) (-1000005) Mz hIz (by first | decide | (unfold vF; omega) | (unfold vRw; omega))) kV_X12_finding pnn_17 (Nat.le_of_ble_eq_true rfl) m_1434 rfl rfl rfl ic_12 rfl rfl (by decide) (Nat.le_of_ble_eq_true rfl) dX12_posts_86 (fun r231_ M232_ q233_ => ?_)
                obtain ⟨hI235_, hF236_, h234_, hs238_⟩ := q233_
                have hF237_ := hFz.tr hF236_ (fun c k => (fun h => h.elim (fun h => (Or.inl ⟨h.1, h.2⟩)) (fun h => h.elim)))
                simp only [li_m1000005] at h234_
                exact w_iret rfl dX12_posts_89 ⟨hI235_, hF237_, trivial, (Or.inl ⟨hs5_, h4_, (Or.inl ⟨hs11_, h10_, (Or.inl ⟨hs17_, h16_, (Or.inl ⟨hs23_, h22_, j27_, h28_, z25_, e26_, (Or.inr ⟨h29_, j40_, h41_, z38_, e39_, (Or.inl ⟨h42_, (Or.inr ⟨hs47_, M232_, hI235_, hF236_, r231_, hs238_, h234_, rfl, rfl⟩)⟩)⟩)⟩)⟩)⟩)⟩)⟩
            · refine w_aload_n dX12_posts_58 rfl 0 rfl ?_
              refine w_ldc (v := (-1000002)) m_1500 dX12_posts_59 ?_
              refine w_callV (as := [vI (-1000002)]) (rest := []) (c_X12_finding l G cy ad (d + 4) (-1000002) Mz hIz (by first | decide | (unfold vF; omega) | (unfold vRw; omega))) kV_X12_finding pnn_17 (Nat.le_of_ble_eq_true rfl) m_1434 rfl rfl rfl ic_12 rfl rfl (by decide) (Nat.le_of_ble_eq_true rfl) dX12_posts_61 (fun r239_ M240_ q241_ => ?_)
              obtain ⟨hI243_, hF244_, h242_, hs246_⟩ := q241_
              have hF245_ := hFz.tr hF244_ (fun c k => (fun h => h.elim (fun h => (Or.inl ⟨h.1, h.2⟩)) (fun h => h.elim)))
              simp only [li_m1000002] at h242_
              exact w_iret rfl dX12_posts_64 ⟨hI243_, hF245_, trivial, (Or.inl ⟨hs5_, h4_, (Or.inl ⟨hs11_, h10_, (Or.inl ⟨hs17_, h16_, (Or.inl ⟨hs23_, h22_, j27_, h28_, z25_, e26_, (Or.inr ⟨h29_, j40_, h41_, z38_, e39_, (Or.inr ⟨h42_, M240_, hI243_, hF244_, r239_, hs246_, h242_, rfl, rfl⟩)⟩)⟩)⟩)⟩)⟩)⟩
        · simp only [li_0, li_1] at h22_
          refine w_if_ne (tgt := 40) dX12_posts_30 (by decide) li_0 (fun h9 => (absurd h9 (by decide))) (fun h247_ => ?_)
          refine w_aload_n dX12_posts_33 rfl 0 rfl ?_
          refine w_ldc (v := (-1000001)) m_1433 dX12_posts_34 ?_
          refine w_callV (as := [vI (-1000001)]) (rest := []) (c_X12_finding l G cy ad (d + 4) (-1000001) Mz hIz (by first | decide | (unfold vF; omega) | (unfold vRw; omega))) kV_X12_finding pnn_17 (Nat.le_of_ble_eq_true rfl) m_1434 rfl rfl rfl ic_12 rfl rfl (by decide) (Nat.le_of_ble_eq_true rfl) dX12_posts_36 (fun r248_ M249_ q250_ => ?_)
          obtain ⟨hI252_, hF253_, h251_, hs255_⟩ := q250_
          have hF254_ := hFz.tr hF253_ (fun c k => (fun h => h.elim (fun h => (Or.inl ⟨h.1, h.2⟩)) (fun h => h.elim)))
          simp only [li_m1000001] at h251_
          exact w_iret rfl dX12_posts_39 ⟨hI252_, hF254_, trivial, (Or.inl ⟨hs5_, h4_, (Or.inl ⟨hs11_, h10_, (Or.inl ⟨hs17_, h16_, (Or.inr ⟨hs23_, h22_, M249_, hI252_, hF253_, r248_, hs255_, h251_, rfl, rfl⟩)⟩)⟩)⟩)⟩
      · refine w_if_eq (tgt := 33) dX12_posts_20 (by decide) li_0 (fun h256_ => ?_) (fun h9 => (absurd h9 (by decide)))
        refine w_aload_n dX12_posts_33 rfl 0 rfl ?_
        refine w_ldc (v := (-1000001)) m_1433 dX12_posts_34 ?_
        refine w_callV (as := [vI (-1000001)]) (rest := []) (c_X12_finding l G cy ad (d + 4) (-1000001) Mz hIz (by first | decide | (unfold vF; omega) | (unfold vRw; omega))) kV_X12_finding pnn_17 (Nat.le_of_ble_eq_true rfl) m_1434 rfl rfl rfl ic_12 rfl rfl (by decide) (Nat.le_of_ble_eq_true rfl) dX12_posts_36 (fun r257_ M258_ q259_ => ?_)
        obtain ⟨hI261_, hF262_, h260_, hs264_⟩ := q259_
        have hF263_ := hFz.tr hF262_ (fun c k => (fun h => h.elim (fun h => (Or.inl ⟨h.1, h.2⟩)) (fun h => h.elim)))
        simp only [li_m1000001] at h260_
        exact w_iret rfl dX12_posts_39 ⟨hI261_, hF263_, trivial, (Or.inl ⟨hs5_, h4_, (Or.inl ⟨hs11_, h10_, (Or.inr ⟨hs17_, h16_, M258_, hI261_, hF262_, r257_, hs264_, h260_, rfl, rfl⟩)⟩)⟩)⟩
    · refine w_if_eq (tgt := 33) dX12_posts_13 (by decide) li_0 (fun h265_ => ?_) (fun h9 => (absurd h9 (by decide)))
      refine w_aload_n dX12_posts_33 rfl 0 rfl ?_
      refine w_ldc (v := (-1000001)) m_1433 dX12_posts_34 ?_
      refine w_callV (as := [vI (-1000001)]) (rest := []) (c_X12_finding l G cy ad (d + 4) (-1000001) Mz hIz (by first | decide | (unfold vF; omega) | (unfold vRw; omega))) kV_X12_finding pnn_17 (Nat.le_of_ble_eq_true rfl) m_1434 rfl rfl rfl ic_12 rfl rfl (by decide) (Nat.le_of_ble_eq_true rfl) dX12_posts_36 (fun r266_ M267_ q268_ => ?_)
      obtain ⟨hI270_, hF271_, h269_, hs273_⟩ := q268_
      have hF272_ := hFz.tr hF271_ (fun c k => (fun h => h.elim (fun h => (Or.inl ⟨h.1, h.2⟩)) (fun h => h.elim)))
      simp only [li_m1000001] at h269_
      exact w_iret rfl dX12_posts_39 ⟨hI270_, hF272_, trivial, (Or.inl ⟨hs5_, h4_, (Or.inr ⟨hs11_, h10_, M267_, hI270_, hF271_, r266_, hs273_, h269_, rfl, rfl⟩)⟩)⟩
  · refine w_if_eq (tgt := 33) dX12_posts_6 (by decide) li_0 (fun h274_ => ?_) (fun h9 => (absurd h9 (by decide)))
    refine w_aload_n dX12_posts_33 rfl 0 rfl ?_
    refine w_ldc (v := (-1000001)) m_1433 dX12_posts_34 ?_
    refine w_callV (as := [vI (-1000001)]) (rest := []) (c_X12_finding l G cy ad (d + 4) (-1000001) Mz hIz (by first | decide | (unfold vF; omega) | (unfold vRw; omega))) kV_X12_finding pnn_17 (Nat.le_of_ble_eq_true rfl) m_1434 rfl rfl rfl ic_12 rfl rfl (by decide) (Nat.le_of_ble_eq_true rfl) dX12_posts_36 (fun r275_ M276_ q277_ => ?_)
    obtain ⟨hI279_, hF280_, h278_, hs282_⟩ := q277_
    have hF281_ := hFz.tr hF280_ (fun c k => (fun h => h.elim (fun h => (Or.inl ⟨h.1, h.2⟩)) (fun h => h.elim)))
    simp only [li_m1000001] at h278_
    exact w_iret rfl dX12_posts_39 ⟨hI279_, hF281_, trivial, (Or.inr ⟨hs5_, M276_, hI279_, hF280_, r275_, hs282_, h278_, rfl, rfl⟩)⟩
end
section
/-! words of the tables that are used, by their places; decode rows; fields -/
theorem li_321 : (321 : Int32).toInt = 321 := by decide
theorem m_77 : Cond.selects yX12_sumOf.cls yX12_sumOf yX12_sumOf ∈ BASE := bmem 77 (by decide +kernel) rfl
set_option maxRecDepth 20000 in
theorem m_1348 : Cond.fieldLink RX12 69 "ClickStreetModel" "trace" "[I" ∈ BASE := bmT6 70 rfl rfl
set_option maxRecDepth 20000 in
theorem m_1349 : Cond.fieldLink RX12 324 "ClickStreetModel" "traced" "I" ∈ BASE := bmT6 71 rfl rfl
set_option maxRecDepth 20000 in
theorem m_1355 : Cond.fieldLink RX12 81 "ClickStreetModel" "carried" "[I" ∈ BASE := bmT6 77 rfl rfl
set_option maxRecDepth 20000 in
theorem m_1862 : Cond.methodLink RX12 356 yX12_sumOf ∈ BASE := bmT8 104 rfl rfl
set_option maxRecDepth 20000 in
theorem m_1864 : Cond.instanceMethod yX12_sumOf ∈ BASE := bmT8 106 rfl rfl
set_option maxRecDepth 20000 in
theorem m_1865 : Cond.code yX12_sumOf cX12_sumOf 4 (some .int) ∈ BASE := bmT8 107 rfl rfl
theorem kV_X12_sumOf : KV yX12_sumOf cX12_sumOf 4 (some .int) 1 := ⟨m_1864, m_77, m_92, m_1865, nhM_17, nhV_17, pdn_2⟩
theorem fl_RX12_324 : FLK RX12 324 12 26 .int false := ⟨RX12, TX12, 33, tyX12, rfl, inB12, tyX12_ok, nmX12, by decide, rfl, rfl, Or.inl m_1349⟩
theorem fl_RX12_69 : FLK RX12 69 12 25 (.array .int) true := ⟨RX12, TX12, 33, tyX12, rfl, inB12, tyX12_ok, nmX12, by decide, rfl, rfl, Or.inl m_1348⟩
theorem fl_RX12_81 : FLK RX12 81 12 32 (.array .int) true := ⟨RX12, TX12, 33, tyX12, rfl, inB12, tyX12_ok, nmX12, by decide, rfl, rfl, Or.inl m_1355⟩
theorem dX12_began_0 : decode cX12_began 0 = .ok (.aload_n 0, 1) := by decide +kernel
theorem dX12_began_1 : decode cX12_began 1 = .ok (.getfield 324, 3) := by decide +kernel
theorem dX12_began_4 : decode cX12_began 4 = .ok (.bipush 30, 2) := by decide +kernel
theorem dX12_began_6 : decode cX12_began 6 = .ok (.if_icmp .ge 23, 3) := by decide +kernel
theorem dX12_began_9 : decode cX12_began 9 = .ok (.aload_n 0, 1) := by decide +kernel
theorem dX12_began_10 : decode cX12_began 10 = .ok (.getfield 69, 3) := by decide +kernel
theorem dX12_began_13 : decode cX12_began 13 = .ok (.aload_n 0, 1) := by decide +kernel
theorem dX12_began_14 : decode cX12_began 14 = .ok (.getfield 324, 3) := by decide +kernel
theorem dX12_began_17 : decode cX12_began 17 = .ok (.iload_n 1, 1) := by decide +kernel
theorem dX12_began_18 : decode cX12_began 18 = .ok (.iastore, 1) := by decide +kernel
theorem dX12_began_19 : decode cX12_began 19 = .ok (.aload_n 0, 1) := by decide +kernel
theorem dX12_began_20 : decode cX12_began 20 = .ok (.dup, 1) := by decide +kernel
theorem dX12_began_21 : decode cX12_began 21 = .ok (.getfield 324, 3) := by decide +kernel
theorem dX12_began_24 : decode cX12_began 24 = .ok (.iconst 1, 1) := by decide +kernel
theorem dX12_began_25 : decode cX12_began 25 = .ok (.iadd, 1) := by decide +kernel
theorem dX12_began_26 : decode cX12_began 26 = .ok (.putfield 324, 3) := by decide +kernel
theorem dX12_began_29 : decode cX12_began 29 = .ok (.return_, 1) := by decide +kernel
theorem ch_cX12_count_0 : (cX12_count.data.toList.drop 0).take 36 = [3, 61, 27, 170, 0, 0, 0, 146, 0, 0, 0, 0, 0, 0, 0, 8, 0, 0, 0, 49, 0, 0, 0, 56, 0, 0, 0, 99, 0, 0, 0, 106, 0, 0, 0, 113] := by decide +kernel
theorem dX12_count_0 : decode cX12_count 0 = .ok (.iconst 0, 1) := do_3 (rdb (p := 0) (i := 0) ch_cX12_count_0 rfl)
theorem dX12_count_1 : decode cX12_count 1 = .ok (.istore_n 2, 1) := do_61 (rdb (p := 0) (i := 1) ch_cX12_count_0 rfl)
theorem dX12_count_2 : decode cX12_count 2 = .ok (.iload_n 1, 1) := do_27 (rdb (p := 0) (i := 2) ch_cX12_count_0 rfl)
theorem dX12_count_3 : decode cX12_count 3 = .ok (.tableswitch 146 0 8 #[49, 56, 99, 106, 113, 120, 127, 132, 139], 49) := by decide +kernel
theorem ch_cX12_count_32 : (cX12_count.data.toList.drop 32).take 36 = [0, 0, 0, 113, 0, 0, 0, 120, 0, 0, 0, 127, 0, 0, 0, 132, 0, 0, 0, 139, 42, 180, 0, 9, 3, 46, 172, 3, 62, 29, 42, 180, 0, 9, 4, 46] := by decide +kernel
theorem dX12_count_52 : decode cX12_count 52 = .ok (.aload_n 0, 1) := do_42 (rdb (p := 32) (i := 20) ch_cX12_count_32 rfl)
theorem dX12_count_53 : decode cX12_count 53 = .ok (.getfield 9, 3) := do_180 (rdb (p := 32) (i := 21) ch_cX12_count_32 rfl) (rdb (p := 32) (i := 22) ch_cX12_count_32 rfl) (rdb (p := 32) (i := 23) ch_cX12_count_32 rfl) rfl
theorem dX12_count_56 : decode cX12_count 56 = .ok (.iconst 0, 1) := do_3 (rdb (p := 32) (i := 24) ch_cX12_count_32 rfl)
theorem dX12_count_57 : decode cX12_count 57 = .ok (.iaload, 1) := do_46 (rdb (p := 32) (i := 25) ch_cX12_count_32 rfl)
theorem dX12_count_58 : decode cX12_count 58 = .ok (.ireturn, 1) := do_172 (rdb (p := 32) (i := 26) ch_cX12_count_32 rfl)
theorem dX12_count_59 : decode cX12_count 59 = .ok (.iconst 0, 1) := do_3 (rdb (p := 32) (i := 27) ch_cX12_count_32 rfl)
theorem dX12_count_60 : decode cX12_count 60 = .ok (.istore_n 3, 1) := do_62 (rdb (p := 32) (i := 28) ch_cX12_count_32 rfl)
theorem dX12_count_61 : decode cX12_count 61 = .ok (.iload_n 3, 1) := do_29 (rdb (p := 32) (i := 29) ch_cX12_count_32 rfl)
theorem dX12_count_62 : decode cX12_count 62 = .ok (.aload_n 0, 1) := do_42 (rdb (p := 32) (i := 30) ch_cX12_count_32 rfl)
theorem dX12_count_63 : decode cX12_count 63 = .ok (.getfield 9, 3) := do_180 (rdb (p := 32) (i := 31) ch_cX12_count_32 rfl) (rdb (p := 32) (i := 32) ch_cX12_count_32 rfl) (rdb (p := 32) (i := 33) ch_cX12_count_32 rfl) rfl
theorem ch_cX12_count_64 : (cX12_count.data.toList.drop 64).take 36 = [0, 9, 4, 46, 162, 0, 32, 28, 42, 180, 0, 9, 42, 29, 182, 0, 89, 4, 96, 46, 155, 0, 7, 4, 167, 0, 4, 3, 96, 61, 132, 3, 1, 167, 255, 220] := by decide +kernel
theorem dX12_count_66 : decode cX12_count 66 = .ok (.iconst 1, 1) := do_4 (rdb (p := 64) (i := 2) ch_cX12_count_64 rfl)
theorem dX12_count_67 : decode cX12_count 67 = .ok (.iaload, 1) := do_46 (rdb (p := 64) (i := 3) ch_cX12_count_64 rfl)
theorem dX12_count_68 : decode cX12_count 68 = .ok (.if_icmp .ge 32, 3) := do_162 (rdb (p := 64) (i := 4) ch_cX12_count_64 rfl) (rdb (p := 64) (i := 5) ch_cX12_count_64 rfl) (rdb (p := 64) (i := 6) ch_cX12_count_64 rfl) (by decide +kernel)
theorem dX12_count_71 : decode cX12_count 71 = .ok (.iload_n 2, 1) := do_28 (rdb (p := 64) (i := 7) ch_cX12_count_64 rfl)
theorem dX12_count_72 : decode cX12_count 72 = .ok (.aload_n 0, 1) := do_42 (rdb (p := 64) (i := 8) ch_cX12_count_64 rfl)
theorem dX12_count_73 : decode cX12_count 73 = .ok (.getfield 9, 3) := do_180 (rdb (p := 64) (i := 9) ch_cX12_count_64 rfl) (rdb (p := 64) (i := 10) ch_cX12_count_64 rfl) (rdb (p := 64) (i := 11) ch_cX12_count_64 rfl) rfl
theorem dX12_count_76 : decode cX12_count 76 = .ok (.aload_n 0, 1) := do_42 (rdb (p := 64) (i := 12) ch_cX12_count_64 rfl)
theorem dX12_count_77 : decode cX12_count 77 = .ok (.iload_n 3, 1) := do_29 (rdb (p := 64) (i := 13) ch_cX12_count_64 rfl)
theorem dX12_count_78 : decode cX12_count 78 = .ok (.invokevirtual 89, 3) := do_182 (rdb (p := 64) (i := 14) ch_cX12_count_64 rfl) (rdb (p := 64) (i := 15) ch_cX12_count_64 rfl) (rdb (p := 64) (i := 16) ch_cX12_count_64 rfl) rfl
theorem dX12_count_81 : decode cX12_count 81 = .ok (.iconst 1, 1) := do_4 (rdb (p := 64) (i := 17) ch_cX12_count_64 rfl)
theorem dX12_count_82 : decode cX12_count 82 = .ok (.iadd, 1) := do_96 (rdb (p := 64) (i := 18) ch_cX12_count_64 rfl)
theorem dX12_count_83 : decode cX12_count 83 = .ok (.iaload, 1) := do_46 (rdb (p := 64) (i := 19) ch_cX12_count_64 rfl)
theorem dX12_count_84 : decode cX12_count 84 = .ok (.ifCond .lt 7, 3) := do_155 (rdb (p := 64) (i := 20) ch_cX12_count_64 rfl) (rdb (p := 64) (i := 21) ch_cX12_count_64 rfl) (rdb (p := 64) (i := 22) ch_cX12_count_64 rfl) (by decide +kernel)
theorem dX12_count_87 : decode cX12_count 87 = .ok (.iconst 1, 1) := do_4 (rdb (p := 64) (i := 23) ch_cX12_count_64 rfl)
theorem dX12_count_88 : decode cX12_count 88 = .ok (.goto 4, 3) := do_167 (rdb (p := 64) (i := 24) ch_cX12_count_64 rfl) (rdb (p := 64) (i := 25) ch_cX12_count_64 rfl) (rdb (p := 64) (i := 26) ch_cX12_count_64 rfl) (by decide +kernel)
theorem dX12_count_91 : decode cX12_count 91 = .ok (.iconst 0, 1) := do_3 (rdb (p := 64) (i := 27) ch_cX12_count_64 rfl)
theorem dX12_count_92 : decode cX12_count 92 = .ok (.iadd, 1) := do_96 (rdb (p := 64) (i := 28) ch_cX12_count_64 rfl)
theorem dX12_count_93 : decode cX12_count 93 = .ok (.istore_n 2, 1) := do_61 (rdb (p := 64) (i := 29) ch_cX12_count_64 rfl)
theorem dX12_count_94 : decode cX12_count 94 = .ok (.iinc 3 1, 3) := do_132 (rdb (p := 64) (i := 30) ch_cX12_count_64 rfl) (rdb (p := 64) (i := 31) ch_cX12_count_64 rfl) (rdb (p := 64) (i := 32) ch_cX12_count_64 rfl) (by decide +kernel)
theorem ch_cX12_count_96 : (cX12_count.data.toList.drop 96).take 36 = [1, 167, 255, 220, 28, 172, 42, 180, 0, 9, 5, 46, 172, 42, 180, 0, 9, 6, 46, 172, 42, 180, 0, 9, 7, 46, 172, 42, 180, 0, 9, 8, 46, 172, 42, 180] := by decide +kernel
theorem dX12_count_97 : decode cX12_count 97 = .ok (.goto (-36), 3) := do_167 (rdb (p := 96) (i := 1) ch_cX12_count_96 rfl) (rdb (p := 96) (i := 2) ch_cX12_count_96 rfl) (rdb (p := 96) (i := 3) ch_cX12_count_96 rfl) (by decide +kernel)
theorem dX12_count_100 : decode cX12_count 100 = .ok (.iload_n 2, 1) := do_28 (rdb (p := 96) (i := 4) ch_cX12_count_96 rfl)
theorem dX12_count_101 : decode cX12_count 101 = .ok (.ireturn, 1) := do_172 (rdb (p := 96) (i := 5) ch_cX12_count_96 rfl)
theorem dX12_count_102 : decode cX12_count 102 = .ok (.aload_n 0, 1) := do_42 (rdb (p := 96) (i := 6) ch_cX12_count_96 rfl)
theorem dX12_count_103 : decode cX12_count 103 = .ok (.getfield 9, 3) := do_180 (rdb (p := 96) (i := 7) ch_cX12_count_96 rfl) (rdb (p := 96) (i := 8) ch_cX12_count_96 rfl) (rdb (p := 96) (i := 9) ch_cX12_count_96 rfl) rfl
theorem dX12_count_106 : decode cX12_count 106 = .ok (.iconst 2, 1) := do_5 (rdb (p := 96) (i := 10) ch_cX12_count_96 rfl)
theorem dX12_count_107 : decode cX12_count 107 = .ok (.iaload, 1) := do_46 (rdb (p := 96) (i := 11) ch_cX12_count_96 rfl)
theorem dX12_count_108 : decode cX12_count 108 = .ok (.ireturn, 1) := do_172 (rdb (p := 96) (i := 12) ch_cX12_count_96 rfl)
theorem dX12_count_109 : decode cX12_count 109 = .ok (.aload_n 0, 1) := do_42 (rdb (p := 96) (i := 13) ch_cX12_count_96 rfl)
theorem dX12_count_110 : decode cX12_count 110 = .ok (.getfield 9, 3) := do_180 (rdb (p := 96) (i := 14) ch_cX12_count_96 rfl) (rdb (p := 96) (i := 15) ch_cX12_count_96 rfl) (rdb (p := 96) (i := 16) ch_cX12_count_96 rfl) rfl
theorem dX12_count_113 : decode cX12_count 113 = .ok (.iconst 3, 1) := do_6 (rdb (p := 96) (i := 17) ch_cX12_count_96 rfl)
theorem dX12_count_114 : decode cX12_count 114 = .ok (.iaload, 1) := do_46 (rdb (p := 96) (i := 18) ch_cX12_count_96 rfl)
theorem dX12_count_115 : decode cX12_count 115 = .ok (.ireturn, 1) := do_172 (rdb (p := 96) (i := 19) ch_cX12_count_96 rfl)
theorem dX12_count_116 : decode cX12_count 116 = .ok (.aload_n 0, 1) := do_42 (rdb (p := 96) (i := 20) ch_cX12_count_96 rfl)
theorem dX12_count_117 : decode cX12_count 117 = .ok (.getfield 9, 3) := do_180 (rdb (p := 96) (i := 21) ch_cX12_count_96 rfl) (rdb (p := 96) (i := 22) ch_cX12_count_96 rfl) (rdb (p := 96) (i := 23) ch_cX12_count_96 rfl) rfl
theorem dX12_count_120 : decode cX12_count 120 = .ok (.iconst 4, 1) := do_7 (rdb (p := 96) (i := 24) ch_cX12_count_96 rfl)
theorem dX12_count_121 : decode cX12_count 121 = .ok (.iaload, 1) := do_46 (rdb (p := 96) (i := 25) ch_cX12_count_96 rfl)
theorem dX12_count_122 : decode cX12_count 122 = .ok (.ireturn, 1) := do_172 (rdb (p := 96) (i := 26) ch_cX12_count_96 rfl)
theorem dX12_count_123 : decode cX12_count 123 = .ok (.aload_n 0, 1) := do_42 (rdb (p := 96) (i := 27) ch_cX12_count_96 rfl)
theorem dX12_count_124 : decode cX12_count 124 = .ok (.getfield 9, 3) := do_180 (rdb (p := 96) (i := 28) ch_cX12_count_96 rfl) (rdb (p := 96) (i := 29) ch_cX12_count_96 rfl) (rdb (p := 96) (i := 30) ch_cX12_count_96 rfl) rfl
theorem dX12_count_127 : decode cX12_count 127 = .ok (.iconst 5, 1) := do_8 (rdb (p := 96) (i := 31) ch_cX12_count_96 rfl)
theorem ch_cX12_count_128 : (cX12_count.data.toList.drop 128).take 36 = [46, 172, 42, 180, 1, 68, 172, 42, 16, 7, 182, 1, 100, 172, 42, 16, 8, 182, 1, 100, 172, 42, 18, 103, 182, 0, 104, 172] := by decide +kernel
theorem dX12_count_128 : decode cX12_count 128 = .ok (.iaload, 1) := do_46 (rdb (p := 128) (i := 0) ch_cX12_count_128 rfl)
theorem dX12_count_129 : decode cX12_count 129 = .ok (.ireturn, 1) := do_172 (rdb (p := 128) (i := 1) ch_cX12_count_128 rfl)
theorem dX12_count_130 : decode cX12_count 130 = .ok (.aload_n 0, 1) := do_42 (rdb (p := 128) (i := 2) ch_cX12_count_128 rfl)
theorem dX12_count_131 : decode cX12_count 131 = .ok (.getfield 324, 3) := do_180 (rdb (p := 128) (i := 3) ch_cX12_count_128 rfl) (rdb (p := 128) (i := 4) ch_cX12_count_128 rfl) (rdb (p := 128) (i := 5) ch_cX12_count_128 rfl) rfl
theorem dX12_count_134 : decode cX12_count 134 = .ok (.ireturn, 1) := do_172 (rdb (p := 128) (i := 6) ch_cX12_count_128 rfl)
theorem dX12_count_135 : decode cX12_count 135 = .ok (.aload_n 0, 1) := do_42 (rdb (p := 128) (i := 7) ch_cX12_count_128 rfl)
theorem dX12_count_136 : decode cX12_count 136 = .ok (.bipush 7, 2) := do_16 (rdb (p := 128) (i := 8) ch_cX12_count_128 rfl) (rdb (p := 128) (i := 9) ch_cX12_count_128 rfl) (by decide +kernel)
theorem dX12_count_138 : decode cX12_count 138 = .ok (.invokevirtual 356, 3) := do_182 (rdb (p := 128) (i := 10) ch_cX12_count_128 rfl) (rdb (p := 128) (i := 11) ch_cX12_count_128 rfl) (rdb (p := 128) (i := 12) ch_cX12_count_128 rfl) rfl
theorem dX12_count_141 : decode cX12_count 141 = .ok (.ireturn, 1) := do_172 (rdb (p := 128) (i := 13) ch_cX12_count_128 rfl)
theorem dX12_count_142 : decode cX12_count 142 = .ok (.aload_n 0, 1) := do_42 (rdb (p := 128) (i := 14) ch_cX12_count_128 rfl)
theorem dX12_count_143 : decode cX12_count 143 = .ok (.bipush 8, 2) := do_16 (rdb (p := 128) (i := 15) ch_cX12_count_128 rfl) (rdb (p := 128) (i := 16) ch_cX12_count_128 rfl) (by decide +kernel)
theorem dX12_count_145 : decode cX12_count 145 = .ok (.invokevirtual 356, 3) := do_182 (rdb (p := 128) (i := 17) ch_cX12_count_128 rfl) (rdb (p := 128) (i := 18) ch_cX12_count_128 rfl) (rdb (p := 128) (i := 19) ch_cX12_count_128 rfl) rfl
theorem dX12_count_148 : decode cX12_count 148 = .ok (.ireturn, 1) := do_172 (rdb (p := 128) (i := 20) ch_cX12_count_128 rfl)
theorem dX12_count_149 : decode cX12_count 149 = .ok (.aload_n 0, 1) := do_42 (rdb (p := 128) (i := 21) ch_cX12_count_128 rfl)
theorem dX12_count_150 : decode cX12_count 150 = .ok (.ldc 103, 2) := do_18 (rdb (p := 128) (i := 22) ch_cX12_count_128 rfl) (rdb (p := 128) (i := 23) ch_cX12_count_128 rfl)
theorem dX12_count_152 : decode cX12_count 152 = .ok (.invokevirtual 104, 3) := do_182 (rdb (p := 128) (i := 24) ch_cX12_count_128 rfl) (rdb (p := 128) (i := 25) ch_cX12_count_128 rfl) (rdb (p := 128) (i := 26) ch_cX12_count_128 rfl) rfl
theorem dX12_count_155 : decode cX12_count 155 = .ok (.ireturn, 1) := do_172 (rdb (p := 128) (i := 27) ch_cX12_count_128 rfl)
theorem ch_cX12_move_0 : (cX12_move.data.toList.drop 0).take 36 = [27, 184, 0, 127, 153, 0, 10, 29, 184, 0, 127, 154, 0, 10, 42, 18, 103, 182, 0, 104, 172, 42, 180, 0, 72, 27, 46, 153, 0, 12, 42, 180, 0, 72, 29, 46] := by decide +kernel
theorem dX12_move_0 : decode cX12_move 0 = .ok (.iload_n 1, 1) := do_27 (rdb (p := 0) (i := 0) ch_cX12_move_0 rfl)
theorem dX12_move_1 : decode cX12_move 1 = .ok (.invokestatic 127, 3) := do_184 (rdb (p := 0) (i := 1) ch_cX12_move_0 rfl) (rdb (p := 0) (i := 2) ch_cX12_move_0 rfl) (rdb (p := 0) (i := 3) ch_cX12_move_0 rfl) rfl
theorem dX12_move_4 : decode cX12_move 4 = .ok (.ifCond .eq 10, 3) := do_153 (rdb (p := 0) (i := 4) ch_cX12_move_0 rfl) (rdb (p := 0) (i := 5) ch_cX12_move_0 rfl) (rdb (p := 0) (i := 6) ch_cX12_move_0 rfl) (by decide +kernel)
theorem dX12_move_7 : decode cX12_move 7 = .ok (.iload_n 3, 1) := do_29 (rdb (p := 0) (i := 7) ch_cX12_move_0 rfl)
theorem dX12_move_8 : decode cX12_move 8 = .ok (.invokestatic 127, 3) := do_184 (rdb (p := 0) (i := 8) ch_cX12_move_0 rfl) (rdb (p := 0) (i := 9) ch_cX12_move_0 rfl) (rdb (p := 0) (i := 10) ch_cX12_move_0 rfl) rfl
theorem dX12_move_11 : decode cX12_move 11 = .ok (.ifCond .ne 10, 3) := do_154 (rdb (p := 0) (i := 11) ch_cX12_move_0 rfl) (rdb (p := 0) (i := 12) ch_cX12_move_0 rfl) (rdb (p := 0) (i := 13) ch_cX12_move_0 rfl) (by decide +kernel)
theorem dX12_move_14 : decode cX12_move 14 = .ok (.aload_n 0, 1) := do_42 (rdb (p := 0) (i := 14) ch_cX12_move_0 rfl)
theorem dX12_move_15 : decode cX12_move 15 = .ok (.ldc 103, 2) := do_18 (rdb (p := 0) (i := 15) ch_cX12_move_0 rfl) (rdb (p := 0) (i := 16) ch_cX12_move_0 rfl)
theorem dX12_move_17 : decode cX12_move 17 = .ok (.invokevirtual 104, 3) := do_182 (rdb (p := 0) (i := 17) ch_cX12_move_0 rfl) (rdb (p := 0) (i := 18) ch_cX12_move_0 rfl) (rdb (p := 0) (i := 19) ch_cX12_move_0 rfl) rfl
theorem dX12_move_20 : decode cX12_move 20 = .ok (.ireturn, 1) := do_172 (rdb (p := 0) (i := 20) ch_cX12_move_0 rfl)
theorem dX12_move_21 : decode cX12_move 21 = .ok (.aload_n 0, 1) := do_42 (rdb (p := 0) (i := 21) ch_cX12_move_0 rfl)
theorem dX12_move_22 : decode cX12_move 22 = .ok (.getfield 72, 3) := do_180 (rdb (p := 0) (i := 22) ch_cX12_move_0 rfl) (rdb (p := 0) (i := 23) ch_cX12_move_0 rfl) (rdb (p := 0) (i := 24) ch_cX12_move_0 rfl) rfl
theorem dX12_move_25 : decode cX12_move 25 = .ok (.iload_n 1, 1) := do_27 (rdb (p := 0) (i := 25) ch_cX12_move_0 rfl)
theorem dX12_move_26 : decode cX12_move 26 = .ok (.iaload, 1) := do_46 (rdb (p := 0) (i := 26) ch_cX12_move_0 rfl)
theorem dX12_move_27 : decode cX12_move 27 = .ok (.ifCond .eq 12, 3) := do_153 (rdb (p := 0) (i := 27) ch_cX12_move_0 rfl) (rdb (p := 0) (i := 28) ch_cX12_move_0 rfl) (rdb (p := 0) (i := 29) ch_cX12_move_0 rfl) (by decide +kernel)
theorem dX12_move_30 : decode cX12_move 30 = .ok (.aload_n 0, 1) := do_42 (rdb (p := 0) (i := 30) ch_cX12_move_0 rfl)
theorem dX12_move_31 : decode cX12_move 31 = .ok (.getfield 72, 3) := do_180 (rdb (p := 0) (i := 31) ch_cX12_move_0 rfl) (rdb (p := 0) (i := 32) ch_cX12_move_0 rfl) (rdb (p := 0) (i := 33) ch_cX12_move_0 rfl) rfl
theorem ch_cX12_move_32 : (cX12_move.data.toList.drop 32).take 36 = [0, 72, 29, 46, 154, 0, 10, 42, 18, 130, 182, 0, 104, 172, 42, 180, 0, 72, 27, 46, 42, 180, 0, 72, 29, 46, 159, 0, 10, 42, 18, 123, 182, 0, 104, 172] := by decide +kernel
theorem dX12_move_34 : decode cX12_move 34 = .ok (.iload_n 3, 1) := do_29 (rdb (p := 32) (i := 2) ch_cX12_move_32 rfl)
theorem dX12_move_35 : decode cX12_move 35 = .ok (.iaload, 1) := do_46 (rdb (p := 32) (i := 3) ch_cX12_move_32 rfl)
theorem dX12_move_36 : decode cX12_move 36 = .ok (.ifCond .ne 10, 3) := do_154 (rdb (p := 32) (i := 4) ch_cX12_move_32 rfl) (rdb (p := 32) (i := 5) ch_cX12_move_32 rfl) (rdb (p := 32) (i := 6) ch_cX12_move_32 rfl) (by decide +kernel)
theorem dX12_move_39 : decode cX12_move 39 = .ok (.aload_n 0, 1) := do_42 (rdb (p := 32) (i := 7) ch_cX12_move_32 rfl)
theorem dX12_move_40 : decode cX12_move 40 = .ok (.ldc 130, 2) := do_18 (rdb (p := 32) (i := 8) ch_cX12_move_32 rfl) (rdb (p := 32) (i := 9) ch_cX12_move_32 rfl)
theorem dX12_move_42 : decode cX12_move 42 = .ok (.invokevirtual 104, 3) := do_182 (rdb (p := 32) (i := 10) ch_cX12_move_32 rfl) (rdb (p := 32) (i := 11) ch_cX12_move_32 rfl) (rdb (p := 32) (i := 12) ch_cX12_move_32 rfl) rfl
theorem dX12_move_45 : decode cX12_move 45 = .ok (.ireturn, 1) := do_172 (rdb (p := 32) (i := 13) ch_cX12_move_32 rfl)
theorem dX12_move_46 : decode cX12_move 46 = .ok (.aload_n 0, 1) := do_42 (rdb (p := 32) (i := 14) ch_cX12_move_32 rfl)
theorem dX12_move_47 : decode cX12_move 47 = .ok (.getfield 72, 3) := do_180 (rdb (p := 32) (i := 15) ch_cX12_move_32 rfl) (rdb (p := 32) (i := 16) ch_cX12_move_32 rfl) (rdb (p := 32) (i := 17) ch_cX12_move_32 rfl) rfl
theorem dX12_move_50 : decode cX12_move 50 = .ok (.iload_n 1, 1) := do_27 (rdb (p := 32) (i := 18) ch_cX12_move_32 rfl)
theorem dX12_move_51 : decode cX12_move 51 = .ok (.iaload, 1) := do_46 (rdb (p := 32) (i := 19) ch_cX12_move_32 rfl)
theorem dX12_move_52 : decode cX12_move 52 = .ok (.aload_n 0, 1) := do_42 (rdb (p := 32) (i := 20) ch_cX12_move_32 rfl)
theorem dX12_move_53 : decode cX12_move 53 = .ok (.getfield 72, 3) := do_180 (rdb (p := 32) (i := 21) ch_cX12_move_32 rfl) (rdb (p := 32) (i := 22) ch_cX12_move_32 rfl) (rdb (p := 32) (i := 23) ch_cX12_move_32 rfl) rfl
theorem dX12_move_56 : decode cX12_move 56 = .ok (.iload_n 3, 1) := do_29 (rdb (p := 32) (i := 24) ch_cX12_move_32 rfl)
theorem dX12_move_57 : decode cX12_move 57 = .ok (.iaload, 1) := do_46 (rdb (p := 32) (i := 25) ch_cX12_move_32 rfl)
theorem dX12_move_58 : decode cX12_move 58 = .ok (.if_icmp .eq 10, 3) := do_159 (rdb (p := 32) (i := 26) ch_cX12_move_32 rfl) (rdb (p := 32) (i := 27) ch_cX12_move_32 rfl) (rdb (p := 32) (i := 28) ch_cX12_move_32 rfl) (by decide +kernel)
theorem dX12_move_61 : decode cX12_move 61 = .ok (.aload_n 0, 1) := do_42 (rdb (p := 32) (i := 29) ch_cX12_move_32 rfl)
theorem dX12_move_62 : decode cX12_move 62 = .ok (.ldc 123, 2) := do_18 (rdb (p := 32) (i := 30) ch_cX12_move_32 rfl) (rdb (p := 32) (i := 31) ch_cX12_move_32 rfl)
theorem ch_cX12_move_64 : (cX12_move.data.toList.drop 64).take 36 = [182, 0, 104, 172, 21, 5, 155, 0, 47, 28, 155, 0, 43, 21, 4, 155, 0, 38, 28, 133, 21, 5, 133, 97, 42, 180, 0, 75, 27, 46, 133, 148, 157, 0, 21, 21] := by decide +kernel
theorem dX12_move_64 : decode cX12_move 64 = .ok (.invokevirtual 104, 3) := do_182 (rdb (p := 64) (i := 0) ch_cX12_move_64 rfl) (rdb (p := 64) (i := 1) ch_cX12_move_64 rfl) (rdb (p := 64) (i := 2) ch_cX12_move_64 rfl) rfl
theorem dX12_move_67 : decode cX12_move 67 = .ok (.ireturn, 1) := do_172 (rdb (p := 64) (i := 3) ch_cX12_move_64 rfl)
theorem dX12_move_68 : decode cX12_move 68 = .ok (.iload 5, 2) := do_21 (rdb (p := 64) (i := 4) ch_cX12_move_64 rfl) (rdb (p := 64) (i := 5) ch_cX12_move_64 rfl)
theorem dX12_move_70 : decode cX12_move 70 = .ok (.ifCond .lt 47, 3) := do_155 (rdb (p := 64) (i := 6) ch_cX12_move_64 rfl) (rdb (p := 64) (i := 7) ch_cX12_move_64 rfl) (rdb (p := 64) (i := 8) ch_cX12_move_64 rfl) (by decide +kernel)
theorem dX12_move_73 : decode cX12_move 73 = .ok (.iload_n 2, 1) := do_28 (rdb (p := 64) (i := 9) ch_cX12_move_64 rfl)
theorem dX12_move_74 : decode cX12_move 74 = .ok (.ifCond .lt 43, 3) := do_155 (rdb (p := 64) (i := 10) ch_cX12_move_64 rfl) (rdb (p := 64) (i := 11) ch_cX12_move_64 rfl) (rdb (p := 64) (i := 12) ch_cX12_move_64 rfl) (by decide +kernel)
theorem dX12_move_77 : decode cX12_move 77 = .ok (.iload 4, 2) := do_21 (rdb (p := 64) (i := 13) ch_cX12_move_64 rfl) (rdb (p := 64) (i := 14) ch_cX12_move_64 rfl)
theorem dX12_move_79 : decode cX12_move 79 = .ok (.ifCond .lt 38, 3) := do_155 (rdb (p := 64) (i := 15) ch_cX12_move_64 rfl) (rdb (p := 64) (i := 16) ch_cX12_move_64 rfl) (rdb (p := 64) (i := 17) ch_cX12_move_64 rfl) (by decide +kernel)
theorem dX12_move_82 : decode cX12_move 82 = .ok (.iload_n 2, 1) := do_28 (rdb (p := 64) (i := 18) ch_cX12_move_64 rfl)
theorem dX12_move_83 : decode cX12_move 83 = .ok (.i2l, 1) := do_133 (rdb (p := 64) (i := 19) ch_cX12_move_64 rfl)
theorem dX12_move_84 : decode cX12_move 84 = .ok (.iload 5, 2) := do_21 (rdb (p := 64) (i := 20) ch_cX12_move_64 rfl) (rdb (p := 64) (i := 21) ch_cX12_move_64 rfl)
theorem dX12_move_86 : decode cX12_move 86 = .ok (.i2l, 1) := do_133 (rdb (p := 64) (i := 22) ch_cX12_move_64 rfl)
theorem dX12_move_87 : decode cX12_move 87 = .ok (.ladd, 1) := do_97 (rdb (p := 64) (i := 23) ch_cX12_move_64 rfl)
theorem dX12_move_88 : decode cX12_move 88 = .ok (.aload_n 0, 1) := do_42 (rdb (p := 64) (i := 24) ch_cX12_move_64 rfl)
theorem dX12_move_89 : decode cX12_move 89 = .ok (.getfield 75, 3) := do_180 (rdb (p := 64) (i := 25) ch_cX12_move_64 rfl) (rdb (p := 64) (i := 26) ch_cX12_move_64 rfl) (rdb (p := 64) (i := 27) ch_cX12_move_64 rfl) rfl
theorem dX12_move_92 : decode cX12_move 92 = .ok (.iload_n 1, 1) := do_27 (rdb (p := 64) (i := 28) ch_cX12_move_64 rfl)
theorem dX12_move_93 : decode cX12_move 93 = .ok (.iaload, 1) := do_46 (rdb (p := 64) (i := 29) ch_cX12_move_64 rfl)
theorem dX12_move_94 : decode cX12_move 94 = .ok (.i2l, 1) := do_133 (rdb (p := 64) (i := 30) ch_cX12_move_64 rfl)
theorem dX12_move_95 : decode cX12_move 95 = .ok (.lcmp, 1) := do_148 (rdb (p := 64) (i := 31) ch_cX12_move_64 rfl)
theorem ch_cX12_move_96 : (cX12_move.data.toList.drop 96).take 36 = [157, 0, 21, 21, 4, 133, 21, 5, 133, 97, 42, 180, 0, 75, 29, 46, 133, 148, 158, 0, 10, 42, 18, 103, 182, 0, 104, 172, 3, 54, 6, 21, 6, 21, 5, 162] := by decide +kernel
theorem dX12_move_96 : decode cX12_move 96 = .ok (.ifCond .gt 21, 3) := do_157 (rdb (p := 96) (i := 0) ch_cX12_move_96 rfl) (rdb (p := 96) (i := 1) ch_cX12_move_96 rfl) (rdb (p := 96) (i := 2) ch_cX12_move_96 rfl) (by decide +kernel)
theorem dX12_move_99 : decode cX12_move 99 = .ok (.iload 4, 2) := do_21 (rdb (p := 96) (i := 3) ch_cX12_move_96 rfl) (rdb (p := 96) (i := 4) ch_cX12_move_96 rfl)
theorem dX12_move_101 : decode cX12_move 101 = .ok (.i2l, 1) := do_133 (rdb (p := 96) (i := 5) ch_cX12_move_96 rfl)
theorem dX12_move_102 : decode cX12_move 102 = .ok (.iload 5, 2) := do_21 (rdb (p := 96) (i := 6) ch_cX12_move_96 rfl) (rdb (p := 96) (i := 7) ch_cX12_move_96 rfl)
theorem dX12_move_104 : decode cX12_move 104 = .ok (.i2l, 1) := do_133 (rdb (p := 96) (i := 8) ch_cX12_move_96 rfl)
theorem dX12_move_105 : decode cX12_move 105 = .ok (.ladd, 1) := do_97 (rdb (p := 96) (i := 9) ch_cX12_move_96 rfl)
theorem dX12_move_106 : decode cX12_move 106 = .ok (.aload_n 0, 1) := do_42 (rdb (p := 96) (i := 10) ch_cX12_move_96 rfl)
theorem dX12_move_107 : decode cX12_move 107 = .ok (.getfield 75, 3) := do_180 (rdb (p := 96) (i := 11) ch_cX12_move_96 rfl) (rdb (p := 96) (i := 12) ch_cX12_move_96 rfl) (rdb (p := 96) (i := 13) ch_cX12_move_96 rfl) rfl
theorem dX12_move_110 : decode cX12_move 110 = .ok (.iload_n 3, 1) := do_29 (rdb (p := 96) (i := 14) ch_cX12_move_96 rfl)
theorem dX12_move_111 : decode cX12_move 111 = .ok (.iaload, 1) := do_46 (rdb (p := 96) (i := 15) ch_cX12_move_96 rfl)
theorem dX12_move_112 : decode cX12_move 112 = .ok (.i2l, 1) := do_133 (rdb (p := 96) (i := 16) ch_cX12_move_96 rfl)
theorem dX12_move_113 : decode cX12_move 113 = .ok (.lcmp, 1) := do_148 (rdb (p := 96) (i := 17) ch_cX12_move_96 rfl)
theorem dX12_move_114 : decode cX12_move 114 = .ok (.ifCond .le 10, 3) := do_158 (rdb (p := 96) (i := 18) ch_cX12_move_96 rfl) (rdb (p := 96) (i := 19) ch_cX12_move_96 rfl) (rdb (p := 96) (i := 20) ch_cX12_move_96 rfl) (by decide +kernel)
theorem dX12_move_117 : decode cX12_move 117 = .ok (.aload_n 0, 1) := do_42 (rdb (p := 96) (i := 21) ch_cX12_move_96 rfl)
theorem dX12_move_118 : decode cX12_move 118 = .ok (.ldc 103, 2) := do_18 (rdb (p := 96) (i := 22) ch_cX12_move_96 rfl) (rdb (p := 96) (i := 23) ch_cX12_move_96 rfl)
theorem dX12_move_120 : decode cX12_move 120 = .ok (.invokevirtual 104, 3) := do_182 (rdb (p := 96) (i := 24) ch_cX12_move_96 rfl) (rdb (p := 96) (i := 25) ch_cX12_move_96 rfl) (rdb (p := 96) (i := 26) ch_cX12_move_96 rfl) rfl
theorem dX12_move_123 : decode cX12_move 123 = .ok (.ireturn, 1) := do_172 (rdb (p := 96) (i := 27) ch_cX12_move_96 rfl)
theorem dX12_move_124 : decode cX12_move 124 = .ok (.iconst 0, 1) := do_3 (rdb (p := 96) (i := 28) ch_cX12_move_96 rfl)
theorem dX12_move_125 : decode cX12_move 125 = .ok (.istore 6, 2) := do_54 (rdb (p := 96) (i := 29) ch_cX12_move_96 rfl) (rdb (p := 96) (i := 30) ch_cX12_move_96 rfl)
theorem dX12_move_127 : decode cX12_move 127 = .ok (.iload 6, 2) := do_21 (rdb (p := 96) (i := 31) ch_cX12_move_96 rfl) (rdb (p := 96) (i := 32) ch_cX12_move_96 rfl)
theorem ch_cX12_move_128 : (cX12_move.data.toList.drop 128).take 36 = [6, 21, 5, 162, 0, 30, 42, 180, 0, 81, 21, 6, 42, 180, 0, 78, 16, 24, 27, 104, 28, 96, 21, 6, 96, 46, 79, 132, 6, 1, 167, 255, 225, 3, 54, 6] := by decide +kernel
theorem dX12_move_129 : decode cX12_move 129 = .ok (.iload 5, 2) := do_21 (rdb (p := 128) (i := 1) ch_cX12_move_128 rfl) (rdb (p := 128) (i := 2) ch_cX12_move_128 rfl)
theorem dX12_move_131 : decode cX12_move 131 = .ok (.if_icmp .ge 30, 3) := do_162 (rdb (p := 128) (i := 3) ch_cX12_move_128 rfl) (rdb (p := 128) (i := 4) ch_cX12_move_128 rfl) (rdb (p := 128) (i := 5) ch_cX12_move_128 rfl) (by decide +kernel)
theorem dX12_move_134 : decode cX12_move 134 = .ok (.aload_n 0, 1) := do_42 (rdb (p := 128) (i := 6) ch_cX12_move_128 rfl)
theorem dX12_move_135 : decode cX12_move 135 = .ok (.getfield 81, 3) := do_180 (rdb (p := 128) (i := 7) ch_cX12_move_128 rfl) (rdb (p := 128) (i := 8) ch_cX12_move_128 rfl) (rdb (p := 128) (i := 9) ch_cX12_move_128 rfl) rfl
theorem dX12_move_138 : decode cX12_move 138 = .ok (.iload 6, 2) := do_21 (rdb (p := 128) (i := 10) ch_cX12_move_128 rfl) (rdb (p := 128) (i := 11) ch_cX12_move_128 rfl)
theorem dX12_move_140 : decode cX12_move 140 = .ok (.aload_n 0, 1) := do_42 (rdb (p := 128) (i := 12) ch_cX12_move_128 rfl)
theorem dX12_move_141 : decode cX12_move 141 = .ok (.getfield 78, 3) := do_180 (rdb (p := 128) (i := 13) ch_cX12_move_128 rfl) (rdb (p := 128) (i := 14) ch_cX12_move_128 rfl) (rdb (p := 128) (i := 15) ch_cX12_move_128 rfl) rfl
theorem dX12_move_144 : decode cX12_move 144 = .ok (.bipush 24, 2) := do_16 (rdb (p := 128) (i := 16) ch_cX12_move_128 rfl) (rdb (p := 128) (i := 17) ch_cX12_move_128 rfl) (by decide +kernel)
theorem dX12_move_146 : decode cX12_move 146 = .ok (.iload_n 1, 1) := do_27 (rdb (p := 128) (i := 18) ch_cX12_move_128 rfl)
theorem dX12_move_147 : decode cX12_move 147 = .ok (.imul, 1) := do_104 (rdb (p := 128) (i := 19) ch_cX12_move_128 rfl)
theorem dX12_move_148 : decode cX12_move 148 = .ok (.iload_n 2, 1) := do_28 (rdb (p := 128) (i := 20) ch_cX12_move_128 rfl)
theorem dX12_move_149 : decode cX12_move 149 = .ok (.iadd, 1) := do_96 (rdb (p := 128) (i := 21) ch_cX12_move_128 rfl)
theorem dX12_move_150 : decode cX12_move 150 = .ok (.iload 6, 2) := do_21 (rdb (p := 128) (i := 22) ch_cX12_move_128 rfl) (rdb (p := 128) (i := 23) ch_cX12_move_128 rfl)
theorem dX12_move_152 : decode cX12_move 152 = .ok (.iadd, 1) := do_96 (rdb (p := 128) (i := 24) ch_cX12_move_128 rfl)
theorem dX12_move_153 : decode cX12_move 153 = .ok (.iaload, 1) := do_46 (rdb (p := 128) (i := 25) ch_cX12_move_128 rfl)
theorem dX12_move_154 : decode cX12_move 154 = .ok (.iastore, 1) := do_79 (rdb (p := 128) (i := 26) ch_cX12_move_128 rfl)
theorem dX12_move_155 : decode cX12_move 155 = .ok (.iinc 6 1, 3) := do_132 (rdb (p := 128) (i := 27) ch_cX12_move_128 rfl) (rdb (p := 128) (i := 28) ch_cX12_move_128 rfl) (rdb (p := 128) (i := 29) ch_cX12_move_128 rfl) (by decide +kernel)
theorem dX12_move_158 : decode cX12_move 158 = .ok (.goto (-31), 3) := do_167 (rdb (p := 128) (i := 30) ch_cX12_move_128 rfl) (rdb (p := 128) (i := 31) ch_cX12_move_128 rfl) (rdb (p := 128) (i := 32) ch_cX12_move_128 rfl) (by decide +kernel)
theorem ch_cX12_move_160 : (cX12_move.data.toList.drop 160).take 36 = [225, 3, 54, 6, 21, 6, 21, 5, 162, 0, 31, 42, 180, 0, 78, 16, 24, 29, 104, 21, 4, 96, 21, 6, 96, 42, 180, 0, 81, 21, 6, 46, 79, 132, 6, 1] := by decide +kernel
theorem dX12_move_161 : decode cX12_move 161 = .ok (.iconst 0, 1) := do_3 (rdb (p := 160) (i := 1) ch_cX12_move_160 rfl)
theorem dX12_move_162 : decode cX12_move 162 = .ok (.istore 6, 2) := do_54 (rdb (p := 160) (i := 2) ch_cX12_move_160 rfl) (rdb (p := 160) (i := 3) ch_cX12_move_160 rfl)
theorem dX12_move_164 : decode cX12_move 164 = .ok (.iload 6, 2) := do_21 (rdb (p := 160) (i := 4) ch_cX12_move_160 rfl) (rdb (p := 160) (i := 5) ch_cX12_move_160 rfl)
theorem dX12_move_166 : decode cX12_move 166 = .ok (.iload 5, 2) := do_21 (rdb (p := 160) (i := 6) ch_cX12_move_160 rfl) (rdb (p := 160) (i := 7) ch_cX12_move_160 rfl)
theorem dX12_move_168 : decode cX12_move 168 = .ok (.if_icmp .ge 31, 3) := do_162 (rdb (p := 160) (i := 8) ch_cX12_move_160 rfl) (rdb (p := 160) (i := 9) ch_cX12_move_160 rfl) (rdb (p := 160) (i := 10) ch_cX12_move_160 rfl) (by decide +kernel)
theorem dX12_move_171 : decode cX12_move 171 = .ok (.aload_n 0, 1) := do_42 (rdb (p := 160) (i := 11) ch_cX12_move_160 rfl)
theorem dX12_move_172 : decode cX12_move 172 = .ok (.getfield 78, 3) := do_180 (rdb (p := 160) (i := 12) ch_cX12_move_160 rfl) (rdb (p := 160) (i := 13) ch_cX12_move_160 rfl) (rdb (p := 160) (i := 14) ch_cX12_move_160 rfl) rfl
theorem dX12_move_175 : decode cX12_move 175 = .ok (.bipush 24, 2) := do_16 (rdb (p := 160) (i := 15) ch_cX12_move_160 rfl) (rdb (p := 160) (i := 16) ch_cX12_move_160 rfl) (by decide +kernel)
theorem dX12_move_177 : decode cX12_move 177 = .ok (.iload_n 3, 1) := do_29 (rdb (p := 160) (i := 17) ch_cX12_move_160 rfl)
theorem dX12_move_178 : decode cX12_move 178 = .ok (.imul, 1) := do_104 (rdb (p := 160) (i := 18) ch_cX12_move_160 rfl)
theorem dX12_move_179 : decode cX12_move 179 = .ok (.iload 4, 2) := do_21 (rdb (p := 160) (i := 19) ch_cX12_move_160 rfl) (rdb (p := 160) (i := 20) ch_cX12_move_160 rfl)
theorem dX12_move_181 : decode cX12_move 181 = .ok (.iadd, 1) := do_96 (rdb (p := 160) (i := 21) ch_cX12_move_160 rfl)
theorem dX12_move_182 : decode cX12_move 182 = .ok (.iload 6, 2) := do_21 (rdb (p := 160) (i := 22) ch_cX12_move_160 rfl) (rdb (p := 160) (i := 23) ch_cX12_move_160 rfl)
theorem dX12_move_184 : decode cX12_move 184 = .ok (.iadd, 1) := do_96 (rdb (p := 160) (i := 24) ch_cX12_move_160 rfl)
theorem dX12_move_185 : decode cX12_move 185 = .ok (.aload_n 0, 1) := do_42 (rdb (p := 160) (i := 25) ch_cX12_move_160 rfl)
theorem dX12_move_186 : decode cX12_move 186 = .ok (.getfield 81, 3) := do_180 (rdb (p := 160) (i := 26) ch_cX12_move_160 rfl) (rdb (p := 160) (i := 27) ch_cX12_move_160 rfl) (rdb (p := 160) (i := 28) ch_cX12_move_160 rfl) rfl
theorem dX12_move_189 : decode cX12_move 189 = .ok (.iload 6, 2) := do_21 (rdb (p := 160) (i := 29) ch_cX12_move_160 rfl) (rdb (p := 160) (i := 30) ch_cX12_move_160 rfl)
theorem dX12_move_191 : decode cX12_move 191 = .ok (.iaload, 1) := do_46 (rdb (p := 160) (i := 31) ch_cX12_move_160 rfl)
theorem ch_cX12_move_192 : (cX12_move.data.toList.drop 192).take 36 = [79, 132, 6, 1, 167, 255, 224, 21, 5, 172] := by decide +kernel
theorem dX12_move_192 : decode cX12_move 192 = .ok (.iastore, 1) := do_79 (rdb (p := 192) (i := 0) ch_cX12_move_192 rfl)
theorem dX12_move_193 : decode cX12_move 193 = .ok (.iinc 6 1, 3) := do_132 (rdb (p := 192) (i := 1) ch_cX12_move_192 rfl) (rdb (p := 192) (i := 2) ch_cX12_move_192 rfl) (rdb (p := 192) (i := 3) ch_cX12_move_192 rfl) (by decide +kernel)
theorem dX12_move_196 : decode cX12_move 196 = .ok (.goto (-32), 3) := do_167 (rdb (p := 192) (i := 4) ch_cX12_move_192 rfl) (rdb (p := 192) (i := 5) ch_cX12_move_192 rfl) (rdb (p := 192) (i := 6) ch_cX12_move_192 rfl) (by decide +kernel)
theorem dX12_move_199 : decode cX12_move 199 = .ok (.iload 5, 2) := do_21 (rdb (p := 192) (i := 7) ch_cX12_move_192 rfl) (rdb (p := 192) (i := 8) ch_cX12_move_192 rfl)
theorem dX12_move_201 : decode cX12_move 201 = .ok (.ireturn, 1) := do_172 (rdb (p := 192) (i := 9) ch_cX12_move_192 rfl)
theorem ch_cX12_put_0 : (cX12_put.data.toList.drop 0).take 36 = [27, 184, 0, 127, 154, 0, 10, 42, 18, 103, 182, 0, 104, 172, 42, 180, 0, 72, 27, 46, 154, 0, 10, 42, 18, 130, 182, 0, 104, 172, 28, 3, 42, 180, 0, 75] := by decide +kernel
theorem dX12_put_0 : decode cX12_put 0 = .ok (.iload_n 1, 1) := do_27 (rdb (p := 0) (i := 0) ch_cX12_put_0 rfl)
theorem dX12_put_1 : decode cX12_put 1 = .ok (.invokestatic 127, 3) := do_184 (rdb (p := 0) (i := 1) ch_cX12_put_0 rfl) (rdb (p := 0) (i := 2) ch_cX12_put_0 rfl) (rdb (p := 0) (i := 3) ch_cX12_put_0 rfl) rfl
theorem dX12_put_4 : decode cX12_put 4 = .ok (.ifCond .ne 10, 3) := do_154 (rdb (p := 0) (i := 4) ch_cX12_put_0 rfl) (rdb (p := 0) (i := 5) ch_cX12_put_0 rfl) (rdb (p := 0) (i := 6) ch_cX12_put_0 rfl) (by decide +kernel)
theorem dX12_put_7 : decode cX12_put 7 = .ok (.aload_n 0, 1) := do_42 (rdb (p := 0) (i := 7) ch_cX12_put_0 rfl)
theorem dX12_put_8 : decode cX12_put 8 = .ok (.ldc 103, 2) := do_18 (rdb (p := 0) (i := 8) ch_cX12_put_0 rfl) (rdb (p := 0) (i := 9) ch_cX12_put_0 rfl)
theorem dX12_put_10 : decode cX12_put 10 = .ok (.invokevirtual 104, 3) := do_182 (rdb (p := 0) (i := 10) ch_cX12_put_0 rfl) (rdb (p := 0) (i := 11) ch_cX12_put_0 rfl) (rdb (p := 0) (i := 12) ch_cX12_put_0 rfl) rfl
theorem dX12_put_13 : decode cX12_put 13 = .ok (.ireturn, 1) := do_172 (rdb (p := 0) (i := 13) ch_cX12_put_0 rfl)
theorem dX12_put_14 : decode cX12_put 14 = .ok (.aload_n 0, 1) := do_42 (rdb (p := 0) (i := 14) ch_cX12_put_0 rfl)
theorem dX12_put_15 : decode cX12_put 15 = .ok (.getfield 72, 3) := do_180 (rdb (p := 0) (i := 15) ch_cX12_put_0 rfl) (rdb (p := 0) (i := 16) ch_cX12_put_0 rfl) (rdb (p := 0) (i := 17) ch_cX12_put_0 rfl) rfl
theorem dX12_put_18 : decode cX12_put 18 = .ok (.iload_n 1, 1) := do_27 (rdb (p := 0) (i := 18) ch_cX12_put_0 rfl)
theorem dX12_put_19 : decode cX12_put 19 = .ok (.iaload, 1) := do_46 (rdb (p := 0) (i := 19) ch_cX12_put_0 rfl)
theorem dX12_put_20 : decode cX12_put 20 = .ok (.ifCond .ne 10, 3) := do_154 (rdb (p := 0) (i := 20) ch_cX12_put_0 rfl) (rdb (p := 0) (i := 21) ch_cX12_put_0 rfl) (rdb (p := 0) (i := 22) ch_cX12_put_0 rfl) (by decide +kernel)
theorem dX12_put_23 : decode cX12_put 23 = .ok (.aload_n 0, 1) := do_42 (rdb (p := 0) (i := 23) ch_cX12_put_0 rfl)
theorem dX12_put_24 : decode cX12_put 24 = .ok (.ldc 130, 2) := do_18 (rdb (p := 0) (i := 24) ch_cX12_put_0 rfl) (rdb (p := 0) (i := 25) ch_cX12_put_0 rfl)
theorem dX12_put_26 : decode cX12_put 26 = .ok (.invokevirtual 104, 3) := do_182 (rdb (p := 0) (i := 26) ch_cX12_put_0 rfl) (rdb (p := 0) (i := 27) ch_cX12_put_0 rfl) (rdb (p := 0) (i := 28) ch_cX12_put_0 rfl) rfl
theorem dX12_put_29 : decode cX12_put 29 = .ok (.ireturn, 1) := do_172 (rdb (p := 0) (i := 29) ch_cX12_put_0 rfl)
theorem dX12_put_30 : decode cX12_put 30 = .ok (.iload_n 2, 1) := do_28 (rdb (p := 0) (i := 30) ch_cX12_put_0 rfl)
theorem dX12_put_31 : decode cX12_put 31 = .ok (.iconst 0, 1) := do_3 (rdb (p := 0) (i := 31) ch_cX12_put_0 rfl)
theorem ch_cX12_put_32 : (cX12_put.data.toList.drop 32).take 36 = [42, 180, 0, 75, 27, 46, 4, 100, 184, 0, 85, 154, 0, 10, 42, 18, 103, 182, 0, 104, 172, 42, 180, 0, 78, 16, 24, 27, 104, 28, 96, 42, 180, 0, 72, 27] := by decide +kernel
theorem dX12_put_32 : decode cX12_put 32 = .ok (.aload_n 0, 1) := do_42 (rdb (p := 32) (i := 0) ch_cX12_put_32 rfl)
theorem dX12_put_33 : decode cX12_put 33 = .ok (.getfield 75, 3) := do_180 (rdb (p := 32) (i := 1) ch_cX12_put_32 rfl) (rdb (p := 32) (i := 2) ch_cX12_put_32 rfl) (rdb (p := 32) (i := 3) ch_cX12_put_32 rfl) rfl
theorem dX12_put_36 : decode cX12_put 36 = .ok (.iload_n 1, 1) := do_27 (rdb (p := 32) (i := 4) ch_cX12_put_32 rfl)
theorem dX12_put_37 : decode cX12_put 37 = .ok (.iaload, 1) := do_46 (rdb (p := 32) (i := 5) ch_cX12_put_32 rfl)
theorem dX12_put_38 : decode cX12_put 38 = .ok (.iconst 1, 1) := do_4 (rdb (p := 32) (i := 6) ch_cX12_put_32 rfl)
theorem dX12_put_39 : decode cX12_put 39 = .ok (.isub, 1) := do_100 (rdb (p := 32) (i := 7) ch_cX12_put_32 rfl)
theorem dX12_put_40 : decode cX12_put 40 = .ok (.invokestatic 85, 3) := do_184 (rdb (p := 32) (i := 8) ch_cX12_put_32 rfl) (rdb (p := 32) (i := 9) ch_cX12_put_32 rfl) (rdb (p := 32) (i := 10) ch_cX12_put_32 rfl) rfl
theorem dX12_put_43 : decode cX12_put 43 = .ok (.ifCond .ne 10, 3) := do_154 (rdb (p := 32) (i := 11) ch_cX12_put_32 rfl) (rdb (p := 32) (i := 12) ch_cX12_put_32 rfl) (rdb (p := 32) (i := 13) ch_cX12_put_32 rfl) (by decide +kernel)
theorem dX12_put_46 : decode cX12_put 46 = .ok (.aload_n 0, 1) := do_42 (rdb (p := 32) (i := 14) ch_cX12_put_32 rfl)
theorem dX12_put_47 : decode cX12_put 47 = .ok (.ldc 103, 2) := do_18 (rdb (p := 32) (i := 15) ch_cX12_put_32 rfl) (rdb (p := 32) (i := 16) ch_cX12_put_32 rfl)
theorem dX12_put_49 : decode cX12_put 49 = .ok (.invokevirtual 104, 3) := do_182 (rdb (p := 32) (i := 17) ch_cX12_put_32 rfl) (rdb (p := 32) (i := 18) ch_cX12_put_32 rfl) (rdb (p := 32) (i := 19) ch_cX12_put_32 rfl) rfl
theorem dX12_put_52 : decode cX12_put 52 = .ok (.ireturn, 1) := do_172 (rdb (p := 32) (i := 20) ch_cX12_put_32 rfl)
theorem dX12_put_53 : decode cX12_put 53 = .ok (.aload_n 0, 1) := do_42 (rdb (p := 32) (i := 21) ch_cX12_put_32 rfl)
theorem dX12_put_54 : decode cX12_put 54 = .ok (.getfield 78, 3) := do_180 (rdb (p := 32) (i := 22) ch_cX12_put_32 rfl) (rdb (p := 32) (i := 23) ch_cX12_put_32 rfl) (rdb (p := 32) (i := 24) ch_cX12_put_32 rfl) rfl
theorem dX12_put_57 : decode cX12_put 57 = .ok (.bipush 24, 2) := do_16 (rdb (p := 32) (i := 25) ch_cX12_put_32 rfl) (rdb (p := 32) (i := 26) ch_cX12_put_32 rfl) (by decide +kernel)
theorem dX12_put_59 : decode cX12_put 59 = .ok (.iload_n 1, 1) := do_27 (rdb (p := 32) (i := 27) ch_cX12_put_32 rfl)
theorem dX12_put_60 : decode cX12_put 60 = .ok (.imul, 1) := do_104 (rdb (p := 32) (i := 28) ch_cX12_put_32 rfl)
theorem dX12_put_61 : decode cX12_put 61 = .ok (.iload_n 2, 1) := do_28 (rdb (p := 32) (i := 29) ch_cX12_put_32 rfl)
theorem dX12_put_62 : decode cX12_put 62 = .ok (.iadd, 1) := do_96 (rdb (p := 32) (i := 30) ch_cX12_put_32 rfl)
theorem dX12_put_63 : decode cX12_put 63 = .ok (.aload_n 0, 1) := do_42 (rdb (p := 32) (i := 31) ch_cX12_put_32 rfl)
theorem ch_cX12_put_64 : (cX12_put.data.toList.drop 64).take 36 = [180, 0, 72, 27, 46, 16, 8, 160, 0, 8, 29, 145, 167, 0, 20, 42, 180, 0, 72, 27, 46, 16, 16, 160, 0, 8, 29, 147, 167, 0, 4, 29, 79, 4, 172] := by decide +kernel
theorem dX12_put_64 : decode cX12_put 64 = .ok (.getfield 72, 3) := do_180 (rdb (p := 64) (i := 0) ch_cX12_put_64 rfl) (rdb (p := 64) (i := 1) ch_cX12_put_64 rfl) (rdb (p := 64) (i := 2) ch_cX12_put_64 rfl) rfl
theorem dX12_put_67 : decode cX12_put 67 = .ok (.iload_n 1, 1) := do_27 (rdb (p := 64) (i := 3) ch_cX12_put_64 rfl)
theorem dX12_put_68 : decode cX12_put 68 = .ok (.iaload, 1) := do_46 (rdb (p := 64) (i := 4) ch_cX12_put_64 rfl)
theorem dX12_put_69 : decode cX12_put 69 = .ok (.bipush 8, 2) := do_16 (rdb (p := 64) (i := 5) ch_cX12_put_64 rfl) (rdb (p := 64) (i := 6) ch_cX12_put_64 rfl) (by decide +kernel)
theorem dX12_put_71 : decode cX12_put 71 = .ok (.if_icmp .ne 8, 3) := do_160 (rdb (p := 64) (i := 7) ch_cX12_put_64 rfl) (rdb (p := 64) (i := 8) ch_cX12_put_64 rfl) (rdb (p := 64) (i := 9) ch_cX12_put_64 rfl) (by decide +kernel)
theorem dX12_put_74 : decode cX12_put 74 = .ok (.iload_n 3, 1) := do_29 (rdb (p := 64) (i := 10) ch_cX12_put_64 rfl)
theorem dX12_put_75 : decode cX12_put 75 = .ok (.i2b, 1) := do_145 (rdb (p := 64) (i := 11) ch_cX12_put_64 rfl)
theorem dX12_put_76 : decode cX12_put 76 = .ok (.goto 20, 3) := do_167 (rdb (p := 64) (i := 12) ch_cX12_put_64 rfl) (rdb (p := 64) (i := 13) ch_cX12_put_64 rfl) (rdb (p := 64) (i := 14) ch_cX12_put_64 rfl) (by decide +kernel)
theorem dX12_put_79 : decode cX12_put 79 = .ok (.aload_n 0, 1) := do_42 (rdb (p := 64) (i := 15) ch_cX12_put_64 rfl)
theorem dX12_put_80 : decode cX12_put 80 = .ok (.getfield 72, 3) := do_180 (rdb (p := 64) (i := 16) ch_cX12_put_64 rfl) (rdb (p := 64) (i := 17) ch_cX12_put_64 rfl) (rdb (p := 64) (i := 18) ch_cX12_put_64 rfl) rfl
theorem dX12_put_83 : decode cX12_put 83 = .ok (.iload_n 1, 1) := do_27 (rdb (p := 64) (i := 19) ch_cX12_put_64 rfl)
theorem dX12_put_84 : decode cX12_put 84 = .ok (.iaload, 1) := do_46 (rdb (p := 64) (i := 20) ch_cX12_put_64 rfl)
theorem dX12_put_85 : decode cX12_put 85 = .ok (.bipush 16, 2) := do_16 (rdb (p := 64) (i := 21) ch_cX12_put_64 rfl) (rdb (p := 64) (i := 22) ch_cX12_put_64 rfl) (by decide +kernel)
theorem dX12_put_87 : decode cX12_put 87 = .ok (.if_icmp .ne 8, 3) := do_160 (rdb (p := 64) (i := 23) ch_cX12_put_64 rfl) (rdb (p := 64) (i := 24) ch_cX12_put_64 rfl) (rdb (p := 64) (i := 25) ch_cX12_put_64 rfl) (by decide +kernel)
theorem dX12_put_90 : decode cX12_put 90 = .ok (.iload_n 3, 1) := do_29 (rdb (p := 64) (i := 26) ch_cX12_put_64 rfl)
theorem dX12_put_91 : decode cX12_put 91 = .ok (.i2s, 1) := do_147 (rdb (p := 64) (i := 27) ch_cX12_put_64 rfl)
theorem dX12_put_92 : decode cX12_put 92 = .ok (.goto 4, 3) := do_167 (rdb (p := 64) (i := 28) ch_cX12_put_64 rfl) (rdb (p := 64) (i := 29) ch_cX12_put_64 rfl) (rdb (p := 64) (i := 30) ch_cX12_put_64 rfl) (by decide +kernel)
theorem dX12_put_95 : decode cX12_put 95 = .ok (.iload_n 3, 1) := do_29 (rdb (p := 64) (i := 31) ch_cX12_put_64 rfl)
theorem ch_cX12_put_96 : (cX12_put.data.toList.drop 96).take 36 = [79, 4, 172] := by decide +kernel
theorem dX12_put_96 : decode cX12_put 96 = .ok (.iastore, 1) := do_79 (rdb (p := 96) (i := 0) ch_cX12_put_96 rfl)
theorem dX12_put_97 : decode cX12_put 97 = .ok (.iconst 1, 1) := do_4 (rdb (p := 96) (i := 1) ch_cX12_put_96 rfl)
theorem dX12_put_98 : decode cX12_put 98 = .ok (.ireturn, 1) := do_172 (rdb (p := 96) (i := 2) ch_cX12_put_96 rfl)
theorem ch_cX12_sheet_0 : (cX12_sheet.data.toList.drop 0).take 36 = [27, 184, 0, 127, 153, 0, 25, 28, 153, 0, 28, 28, 16, 8, 159, 0, 22, 28, 16, 16, 159, 0, 16, 28, 16, 32, 159, 0, 10, 42, 18, 103, 182, 0, 104, 172] := by decide +kernel
theorem dX12_sheet_0 : decode cX12_sheet 0 = .ok (.iload_n 1, 1) := do_27 (rdb (p := 0) (i := 0) ch_cX12_sheet_0 rfl)
theorem dX12_sheet_1 : decode cX12_sheet 1 = .ok (.invokestatic 127, 3) := do_184 (rdb (p := 0) (i := 1) ch_cX12_sheet_0 rfl) (rdb (p := 0) (i := 2) ch_cX12_sheet_0 rfl) (rdb (p := 0) (i := 3) ch_cX12_sheet_0 rfl) rfl
theorem dX12_sheet_4 : decode cX12_sheet 4 = .ok (.ifCond .eq 25, 3) := do_153 (rdb (p := 0) (i := 4) ch_cX12_sheet_0 rfl) (rdb (p := 0) (i := 5) ch_cX12_sheet_0 rfl) (rdb (p := 0) (i := 6) ch_cX12_sheet_0 rfl) (by decide +kernel)
theorem dX12_sheet_7 : decode cX12_sheet 7 = .ok (.iload_n 2, 1) := do_28 (rdb (p := 0) (i := 7) ch_cX12_sheet_0 rfl)
theorem dX12_sheet_8 : decode cX12_sheet 8 = .ok (.ifCond .eq 28, 3) := do_153 (rdb (p := 0) (i := 8) ch_cX12_sheet_0 rfl) (rdb (p := 0) (i := 9) ch_cX12_sheet_0 rfl) (rdb (p := 0) (i := 10) ch_cX12_sheet_0 rfl) (by decide +kernel)
theorem dX12_sheet_11 : decode cX12_sheet 11 = .ok (.iload_n 2, 1) := do_28 (rdb (p := 0) (i := 11) ch_cX12_sheet_0 rfl)
theorem dX12_sheet_12 : decode cX12_sheet 12 = .ok (.bipush 8, 2) := do_16 (rdb (p := 0) (i := 12) ch_cX12_sheet_0 rfl) (rdb (p := 0) (i := 13) ch_cX12_sheet_0 rfl) (by decide +kernel)
theorem dX12_sheet_14 : decode cX12_sheet 14 = .ok (.if_icmp .eq 22, 3) := do_159 (rdb (p := 0) (i := 14) ch_cX12_sheet_0 rfl) (rdb (p := 0) (i := 15) ch_cX12_sheet_0 rfl) (rdb (p := 0) (i := 16) ch_cX12_sheet_0 rfl) (by decide +kernel)
theorem dX12_sheet_17 : decode cX12_sheet 17 = .ok (.iload_n 2, 1) := do_28 (rdb (p := 0) (i := 17) ch_cX12_sheet_0 rfl)
theorem dX12_sheet_18 : decode cX12_sheet 18 = .ok (.bipush 16, 2) := do_16 (rdb (p := 0) (i := 18) ch_cX12_sheet_0 rfl) (rdb (p := 0) (i := 19) ch_cX12_sheet_0 rfl) (by decide +kernel)
theorem dX12_sheet_20 : decode cX12_sheet 20 = .ok (.if_icmp .eq 16, 3) := do_159 (rdb (p := 0) (i := 20) ch_cX12_sheet_0 rfl) (rdb (p := 0) (i := 21) ch_cX12_sheet_0 rfl) (rdb (p := 0) (i := 22) ch_cX12_sheet_0 rfl) (by decide +kernel)
theorem dX12_sheet_23 : decode cX12_sheet 23 = .ok (.iload_n 2, 1) := do_28 (rdb (p := 0) (i := 23) ch_cX12_sheet_0 rfl)
theorem dX12_sheet_24 : decode cX12_sheet 24 = .ok (.bipush 32, 2) := do_16 (rdb (p := 0) (i := 24) ch_cX12_sheet_0 rfl) (rdb (p := 0) (i := 25) ch_cX12_sheet_0 rfl) (by decide +kernel)
theorem dX12_sheet_26 : decode cX12_sheet 26 = .ok (.if_icmp .eq 10, 3) := do_159 (rdb (p := 0) (i := 26) ch_cX12_sheet_0 rfl) (rdb (p := 0) (i := 27) ch_cX12_sheet_0 rfl) (rdb (p := 0) (i := 28) ch_cX12_sheet_0 rfl) (by decide +kernel)
theorem dX12_sheet_29 : decode cX12_sheet 29 = .ok (.aload_n 0, 1) := do_42 (rdb (p := 0) (i := 29) ch_cX12_sheet_0 rfl)
theorem dX12_sheet_30 : decode cX12_sheet 30 = .ok (.ldc 103, 2) := do_18 (rdb (p := 0) (i := 30) ch_cX12_sheet_0 rfl) (rdb (p := 0) (i := 31) ch_cX12_sheet_0 rfl)
theorem ch_cX12_sheet_32 : (cX12_sheet.data.toList.drop 32).take 36 = [182, 0, 104, 172, 28, 153, 0, 14, 29, 156, 0, 10, 42, 18, 110, 182, 0, 104, 172, 28, 153, 0, 16, 29, 16, 24, 164, 0, 10, 42, 18, 103, 182, 0, 104, 172] := by decide +kernel
theorem dX12_sheet_32 : decode cX12_sheet 32 = .ok (.invokevirtual 104, 3) := do_182 (rdb (p := 32) (i := 0) ch_cX12_sheet_32 rfl) (rdb (p := 32) (i := 1) ch_cX12_sheet_32 rfl) (rdb (p := 32) (i := 2) ch_cX12_sheet_32 rfl) rfl
theorem dX12_sheet_35 : decode cX12_sheet 35 = .ok (.ireturn, 1) := do_172 (rdb (p := 32) (i := 3) ch_cX12_sheet_32 rfl)
theorem dX12_sheet_36 : decode cX12_sheet 36 = .ok (.iload_n 2, 1) := do_28 (rdb (p := 32) (i := 4) ch_cX12_sheet_32 rfl)
theorem dX12_sheet_37 : decode cX12_sheet 37 = .ok (.ifCond .eq 14, 3) := do_153 (rdb (p := 32) (i := 5) ch_cX12_sheet_32 rfl) (rdb (p := 32) (i := 6) ch_cX12_sheet_32 rfl) (rdb (p := 32) (i := 7) ch_cX12_sheet_32 rfl) (by decide +kernel)
theorem dX12_sheet_40 : decode cX12_sheet 40 = .ok (.iload_n 3, 1) := do_29 (rdb (p := 32) (i := 8) ch_cX12_sheet_32 rfl)
theorem dX12_sheet_41 : decode cX12_sheet 41 = .ok (.ifCond .ge 10, 3) := do_156 (rdb (p := 32) (i := 9) ch_cX12_sheet_32 rfl) (rdb (p := 32) (i := 10) ch_cX12_sheet_32 rfl) (rdb (p := 32) (i := 11) ch_cX12_sheet_32 rfl) (by decide +kernel)
theorem dX12_sheet_44 : decode cX12_sheet 44 = .ok (.aload_n 0, 1) := do_42 (rdb (p := 32) (i := 12) ch_cX12_sheet_32 rfl)
theorem dX12_sheet_45 : decode cX12_sheet 45 = .ok (.ldc 110, 2) := do_18 (rdb (p := 32) (i := 13) ch_cX12_sheet_32 rfl) (rdb (p := 32) (i := 14) ch_cX12_sheet_32 rfl)
theorem dX12_sheet_47 : decode cX12_sheet 47 = .ok (.invokevirtual 104, 3) := do_182 (rdb (p := 32) (i := 15) ch_cX12_sheet_32 rfl) (rdb (p := 32) (i := 16) ch_cX12_sheet_32 rfl) (rdb (p := 32) (i := 17) ch_cX12_sheet_32 rfl) rfl
theorem dX12_sheet_50 : decode cX12_sheet 50 = .ok (.ireturn, 1) := do_172 (rdb (p := 32) (i := 18) ch_cX12_sheet_32 rfl)
theorem dX12_sheet_51 : decode cX12_sheet 51 = .ok (.iload_n 2, 1) := do_28 (rdb (p := 32) (i := 19) ch_cX12_sheet_32 rfl)
theorem dX12_sheet_52 : decode cX12_sheet 52 = .ok (.ifCond .eq 16, 3) := do_153 (rdb (p := 32) (i := 20) ch_cX12_sheet_32 rfl) (rdb (p := 32) (i := 21) ch_cX12_sheet_32 rfl) (rdb (p := 32) (i := 22) ch_cX12_sheet_32 rfl) (by decide +kernel)
theorem dX12_sheet_55 : decode cX12_sheet 55 = .ok (.iload_n 3, 1) := do_29 (rdb (p := 32) (i := 23) ch_cX12_sheet_32 rfl)
theorem dX12_sheet_56 : decode cX12_sheet 56 = .ok (.bipush 24, 2) := do_16 (rdb (p := 32) (i := 24) ch_cX12_sheet_32 rfl) (rdb (p := 32) (i := 25) ch_cX12_sheet_32 rfl) (by decide +kernel)
theorem dX12_sheet_58 : decode cX12_sheet 58 = .ok (.if_icmp .le 10, 3) := do_164 (rdb (p := 32) (i := 26) ch_cX12_sheet_32 rfl) (rdb (p := 32) (i := 27) ch_cX12_sheet_32 rfl) (rdb (p := 32) (i := 28) ch_cX12_sheet_32 rfl) (by decide +kernel)
theorem dX12_sheet_61 : decode cX12_sheet 61 = .ok (.aload_n 0, 1) := do_42 (rdb (p := 32) (i := 29) ch_cX12_sheet_32 rfl)
theorem dX12_sheet_62 : decode cX12_sheet 62 = .ok (.ldc 103, 2) := do_18 (rdb (p := 32) (i := 30) ch_cX12_sheet_32 rfl) (rdb (p := 32) (i := 31) ch_cX12_sheet_32 rfl)
theorem ch_cX12_sheet_64 : (cX12_sheet.data.toList.drop 64).take 36 = [182, 0, 104, 172, 42, 180, 0, 72, 27, 28, 79, 42, 180, 0, 75, 27, 28, 154, 0, 7, 3, 167, 0, 4, 29, 79, 3, 54, 4, 21, 4, 16, 24, 162, 0, 22] := by decide +kernel
theorem dX12_sheet_64 : decode cX12_sheet 64 = .ok (.invokevirtual 104, 3) := do_182 (rdb (p := 64) (i := 0) ch_cX12_sheet_64 rfl) (rdb (p := 64) (i := 1) ch_cX12_sheet_64 rfl) (rdb (p := 64) (i := 2) ch_cX12_sheet_64 rfl) rfl
theorem dX12_sheet_67 : decode cX12_sheet 67 = .ok (.ireturn, 1) := do_172 (rdb (p := 64) (i := 3) ch_cX12_sheet_64 rfl)
theorem dX12_sheet_68 : decode cX12_sheet 68 = .ok (.aload_n 0, 1) := do_42 (rdb (p := 64) (i := 4) ch_cX12_sheet_64 rfl)
theorem dX12_sheet_69 : decode cX12_sheet 69 = .ok (.getfield 72, 3) := do_180 (rdb (p := 64) (i := 5) ch_cX12_sheet_64 rfl) (rdb (p := 64) (i := 6) ch_cX12_sheet_64 rfl) (rdb (p := 64) (i := 7) ch_cX12_sheet_64 rfl) rfl
theorem dX12_sheet_72 : decode cX12_sheet 72 = .ok (.iload_n 1, 1) := do_27 (rdb (p := 64) (i := 8) ch_cX12_sheet_64 rfl)
theorem dX12_sheet_73 : decode cX12_sheet 73 = .ok (.iload_n 2, 1) := do_28 (rdb (p := 64) (i := 9) ch_cX12_sheet_64 rfl)
theorem dX12_sheet_74 : decode cX12_sheet 74 = .ok (.iastore, 1) := do_79 (rdb (p := 64) (i := 10) ch_cX12_sheet_64 rfl)
theorem dX12_sheet_75 : decode cX12_sheet 75 = .ok (.aload_n 0, 1) := do_42 (rdb (p := 64) (i := 11) ch_cX12_sheet_64 rfl)
theorem dX12_sheet_76 : decode cX12_sheet 76 = .ok (.getfield 75, 3) := do_180 (rdb (p := 64) (i := 12) ch_cX12_sheet_64 rfl) (rdb (p := 64) (i := 13) ch_cX12_sheet_64 rfl) (rdb (p := 64) (i := 14) ch_cX12_sheet_64 rfl) rfl
theorem dX12_sheet_79 : decode cX12_sheet 79 = .ok (.iload_n 1, 1) := do_27 (rdb (p := 64) (i := 15) ch_cX12_sheet_64 rfl)
theorem dX12_sheet_80 : decode cX12_sheet 80 = .ok (.iload_n 2, 1) := do_28 (rdb (p := 64) (i := 16) ch_cX12_sheet_64 rfl)
theorem dX12_sheet_81 : decode cX12_sheet 81 = .ok (.ifCond .ne 7, 3) := do_154 (rdb (p := 64) (i := 17) ch_cX12_sheet_64 rfl) (rdb (p := 64) (i := 18) ch_cX12_sheet_64 rfl) (rdb (p := 64) (i := 19) ch_cX12_sheet_64 rfl) (by decide +kernel)
theorem dX12_sheet_84 : decode cX12_sheet 84 = .ok (.iconst 0, 1) := do_3 (rdb (p := 64) (i := 20) ch_cX12_sheet_64 rfl)
theorem dX12_sheet_85 : decode cX12_sheet 85 = .ok (.goto 4, 3) := do_167 (rdb (p := 64) (i := 21) ch_cX12_sheet_64 rfl) (rdb (p := 64) (i := 22) ch_cX12_sheet_64 rfl) (rdb (p := 64) (i := 23) ch_cX12_sheet_64 rfl) (by decide +kernel)
theorem dX12_sheet_88 : decode cX12_sheet 88 = .ok (.iload_n 3, 1) := do_29 (rdb (p := 64) (i := 24) ch_cX12_sheet_64 rfl)
theorem dX12_sheet_89 : decode cX12_sheet 89 = .ok (.iastore, 1) := do_79 (rdb (p := 64) (i := 25) ch_cX12_sheet_64 rfl)
theorem dX12_sheet_90 : decode cX12_sheet 90 = .ok (.iconst 0, 1) := do_3 (rdb (p := 64) (i := 26) ch_cX12_sheet_64 rfl)
theorem dX12_sheet_91 : decode cX12_sheet 91 = .ok (.istore 4, 2) := do_54 (rdb (p := 64) (i := 27) ch_cX12_sheet_64 rfl) (rdb (p := 64) (i := 28) ch_cX12_sheet_64 rfl)
theorem dX12_sheet_93 : decode cX12_sheet 93 = .ok (.iload 4, 2) := do_21 (rdb (p := 64) (i := 29) ch_cX12_sheet_64 rfl) (rdb (p := 64) (i := 30) ch_cX12_sheet_64 rfl)
theorem dX12_sheet_95 : decode cX12_sheet 95 = .ok (.bipush 24, 2) := do_16 (rdb (p := 64) (i := 31) ch_cX12_sheet_64 rfl) (rdb (p := 64) (i := 32) ch_cX12_sheet_64 rfl) (by decide +kernel)
theorem ch_cX12_sheet_96 : (cX12_sheet.data.toList.drop 96).take 36 = [24, 162, 0, 22, 42, 180, 0, 78, 16, 24, 27, 104, 21, 4, 96, 3, 79, 132, 4, 1, 167, 255, 233, 4, 172] := by decide +kernel
theorem dX12_sheet_97 : decode cX12_sheet 97 = .ok (.if_icmp .ge 22, 3) := do_162 (rdb (p := 96) (i := 1) ch_cX12_sheet_96 rfl) (rdb (p := 96) (i := 2) ch_cX12_sheet_96 rfl) (rdb (p := 96) (i := 3) ch_cX12_sheet_96 rfl) (by decide +kernel)
theorem dX12_sheet_100 : decode cX12_sheet 100 = .ok (.aload_n 0, 1) := do_42 (rdb (p := 96) (i := 4) ch_cX12_sheet_96 rfl)
theorem dX12_sheet_101 : decode cX12_sheet 101 = .ok (.getfield 78, 3) := do_180 (rdb (p := 96) (i := 5) ch_cX12_sheet_96 rfl) (rdb (p := 96) (i := 6) ch_cX12_sheet_96 rfl) (rdb (p := 96) (i := 7) ch_cX12_sheet_96 rfl) rfl
theorem dX12_sheet_104 : decode cX12_sheet 104 = .ok (.bipush 24, 2) := do_16 (rdb (p := 96) (i := 8) ch_cX12_sheet_96 rfl) (rdb (p := 96) (i := 9) ch_cX12_sheet_96 rfl) (by decide +kernel)
theorem dX12_sheet_106 : decode cX12_sheet 106 = .ok (.iload_n 1, 1) := do_27 (rdb (p := 96) (i := 10) ch_cX12_sheet_96 rfl)
theorem dX12_sheet_107 : decode cX12_sheet 107 = .ok (.imul, 1) := do_104 (rdb (p := 96) (i := 11) ch_cX12_sheet_96 rfl)
theorem dX12_sheet_108 : decode cX12_sheet 108 = .ok (.iload 4, 2) := do_21 (rdb (p := 96) (i := 12) ch_cX12_sheet_96 rfl) (rdb (p := 96) (i := 13) ch_cX12_sheet_96 rfl)
theorem dX12_sheet_110 : decode cX12_sheet 110 = .ok (.iadd, 1) := do_96 (rdb (p := 96) (i := 14) ch_cX12_sheet_96 rfl)
theorem dX12_sheet_111 : decode cX12_sheet 111 = .ok (.iconst 0, 1) := do_3 (rdb (p := 96) (i := 15) ch_cX12_sheet_96 rfl)
theorem dX12_sheet_112 : decode cX12_sheet 112 = .ok (.iastore, 1) := do_79 (rdb (p := 96) (i := 16) ch_cX12_sheet_96 rfl)
theorem dX12_sheet_113 : decode cX12_sheet 113 = .ok (.iinc 4 1, 3) := do_132 (rdb (p := 96) (i := 17) ch_cX12_sheet_96 rfl) (rdb (p := 96) (i := 18) ch_cX12_sheet_96 rfl) (rdb (p := 96) (i := 19) ch_cX12_sheet_96 rfl) (by decide +kernel)
theorem dX12_sheet_116 : decode cX12_sheet 116 = .ok (.goto (-23), 3) := do_167 (rdb (p := 96) (i := 20) ch_cX12_sheet_96 rfl) (rdb (p := 96) (i := 21) ch_cX12_sheet_96 rfl) (rdb (p := 96) (i := 22) ch_cX12_sheet_96 rfl) (by decide +kernel)
theorem dX12_sheet_119 : decode cX12_sheet 119 = .ok (.iconst 1, 1) := do_4 (rdb (p := 96) (i := 23) ch_cX12_sheet_96 rfl)
theorem dX12_sheet_120 : decode cX12_sheet 120 = .ok (.ireturn, 1) := do_172 (rdb (p := 96) (i := 24) ch_cX12_sheet_96 rfl)
theorem dX12_sumOf_0 : decode cX12_sumOf 0 = .ok (.iconst 0, 1) := by decide +kernel
theorem dX12_sumOf_1 : decode cX12_sumOf 1 = .ok (.istore_n 2, 1) := by decide +kernel
theorem dX12_sumOf_2 : decode cX12_sumOf 2 = .ok (.iconst 0, 1) := by decide +kernel
theorem dX12_sumOf_3 : decode cX12_sumOf 3 = .ok (.istore_n 3, 1) := by decide +kernel
theorem dX12_sumOf_4 : decode cX12_sumOf 4 = .ok (.iload_n 3, 1) := by decide +kernel
theorem dX12_sumOf_5 : decode cX12_sumOf 5 = .ok (.aload_n 0, 1) := by decide +kernel
theorem dX12_sumOf_6 : decode cX12_sumOf 6 = .ok (.getfield 9, 3) := by decide +kernel
theorem dX12_sumOf_9 : decode cX12_sumOf 9 = .ok (.iconst 2, 1) := by decide +kernel
theorem dX12_sumOf_10 : decode cX12_sumOf 10 = .ok (.iaload, 1) := by decide +kernel
theorem dX12_sumOf_11 : decode cX12_sumOf 11 = .ok (.if_icmp .ge 24, 3) := by decide +kernel
theorem dX12_sumOf_14 : decode cX12_sumOf 14 = .ok (.iload_n 2, 1) := by decide +kernel
theorem dX12_sumOf_15 : decode cX12_sumOf 15 = .ok (.aload_n 0, 1) := by decide +kernel
theorem dX12_sumOf_16 : decode cX12_sumOf 16 = .ok (.getfield 9, 3) := by decide +kernel
theorem dX12_sumOf_19 : decode cX12_sumOf 19 = .ok (.aload_n 0, 1) := by decide +kernel
theorem dX12_sumOf_20 : decode cX12_sumOf 20 = .ok (.iload_n 3, 1) := by decide +kernel
theorem dX12_sumOf_21 : decode cX12_sumOf 21 = .ok (.invokevirtual 93, 3) := by decide +kernel
theorem dX12_sumOf_24 : decode cX12_sumOf 24 = .ok (.iload_n 1, 1) := by decide +kernel
theorem dX12_sumOf_25 : decode cX12_sumOf 25 = .ok (.iadd, 1) := by decide +kernel
theorem dX12_sumOf_26 : decode cX12_sumOf 26 = .ok (.iaload, 1) := by decide +kernel
theorem dX12_sumOf_27 : decode cX12_sumOf 27 = .ok (.iadd, 1) := by decide +kernel
theorem dX12_sumOf_28 : decode cX12_sumOf 28 = .ok (.istore_n 2, 1) := by decide +kernel
theorem dX12_sumOf_29 : decode cX12_sumOf 29 = .ok (.iinc 3 1, 3) := by decide +kernel
theorem dX12_sumOf_32 : decode cX12_sumOf 32 = .ok (.goto (-28), 3) := by decide +kernel
theorem dX12_sumOf_35 : decode cX12_sumOf 35 = .ok (.iload_n 2, 1) := by decide +kernel
theorem dX12_sumOf_36 : decode cX12_sumOf 36 = .ok (.ireturn, 1) := by decide +kernel
theorem ch_cX12_tell_0 : (cX12_tell.data.toList.drop 0).take 36 = [42, 180, 0, 9, 8, 46, 16, 24, 160, 0, 10, 42, 18, 111, 182, 0, 104, 172, 42, 180, 0, 9, 17, 1, 65, 42, 180, 0, 9, 8, 46, 96, 27, 79, 42, 180] := by decide +kernel
theorem dX12_tell_0 : decode cX12_tell 0 = .ok (.aload_n 0, 1) := do_42 (rdb (p := 0) (i := 0) ch_cX12_tell_0 rfl)
theorem dX12_tell_1 : decode cX12_tell 1 = .ok (.getfield 9, 3) := do_180 (rdb (p := 0) (i := 1) ch_cX12_tell_0 rfl) (rdb (p := 0) (i := 2) ch_cX12_tell_0 rfl) (rdb (p := 0) (i := 3) ch_cX12_tell_0 rfl) rfl
theorem dX12_tell_4 : decode cX12_tell 4 = .ok (.iconst 5, 1) := do_8 (rdb (p := 0) (i := 4) ch_cX12_tell_0 rfl)
theorem dX12_tell_5 : decode cX12_tell 5 = .ok (.iaload, 1) := do_46 (rdb (p := 0) (i := 5) ch_cX12_tell_0 rfl)
theorem dX12_tell_6 : decode cX12_tell 6 = .ok (.bipush 24, 2) := do_16 (rdb (p := 0) (i := 6) ch_cX12_tell_0 rfl) (rdb (p := 0) (i := 7) ch_cX12_tell_0 rfl) (by decide +kernel)
theorem dX12_tell_8 : decode cX12_tell 8 = .ok (.if_icmp .ne 10, 3) := do_160 (rdb (p := 0) (i := 8) ch_cX12_tell_0 rfl) (rdb (p := 0) (i := 9) ch_cX12_tell_0 rfl) (rdb (p := 0) (i := 10) ch_cX12_tell_0 rfl) (by decide +kernel)
theorem dX12_tell_11 : decode cX12_tell 11 = .ok (.aload_n 0, 1) := do_42 (rdb (p := 0) (i := 11) ch_cX12_tell_0 rfl)
theorem dX12_tell_12 : decode cX12_tell 12 = .ok (.ldc 111, 2) := do_18 (rdb (p := 0) (i := 12) ch_cX12_tell_0 rfl) (rdb (p := 0) (i := 13) ch_cX12_tell_0 rfl)
theorem dX12_tell_14 : decode cX12_tell 14 = .ok (.invokevirtual 104, 3) := do_182 (rdb (p := 0) (i := 14) ch_cX12_tell_0 rfl) (rdb (p := 0) (i := 15) ch_cX12_tell_0 rfl) (rdb (p := 0) (i := 16) ch_cX12_tell_0 rfl) rfl
theorem dX12_tell_17 : decode cX12_tell 17 = .ok (.ireturn, 1) := do_172 (rdb (p := 0) (i := 17) ch_cX12_tell_0 rfl)
theorem dX12_tell_18 : decode cX12_tell 18 = .ok (.aload_n 0, 1) := do_42 (rdb (p := 0) (i := 18) ch_cX12_tell_0 rfl)
theorem dX12_tell_19 : decode cX12_tell 19 = .ok (.getfield 9, 3) := do_180 (rdb (p := 0) (i := 19) ch_cX12_tell_0 rfl) (rdb (p := 0) (i := 20) ch_cX12_tell_0 rfl) (rdb (p := 0) (i := 21) ch_cX12_tell_0 rfl) rfl
theorem dX12_tell_22 : decode cX12_tell 22 = .ok (.sipush 321, 3) := do_17 (rdb (p := 0) (i := 22) ch_cX12_tell_0 rfl) (rdb (p := 0) (i := 23) ch_cX12_tell_0 rfl) (rdb (p := 0) (i := 24) ch_cX12_tell_0 rfl) (by decide +kernel)
theorem dX12_tell_25 : decode cX12_tell 25 = .ok (.aload_n 0, 1) := do_42 (rdb (p := 0) (i := 25) ch_cX12_tell_0 rfl)
theorem dX12_tell_26 : decode cX12_tell 26 = .ok (.getfield 9, 3) := do_180 (rdb (p := 0) (i := 26) ch_cX12_tell_0 rfl) (rdb (p := 0) (i := 27) ch_cX12_tell_0 rfl) (rdb (p := 0) (i := 28) ch_cX12_tell_0 rfl) rfl
theorem dX12_tell_29 : decode cX12_tell 29 = .ok (.iconst 5, 1) := do_8 (rdb (p := 0) (i := 29) ch_cX12_tell_0 rfl)
theorem dX12_tell_30 : decode cX12_tell 30 = .ok (.iaload, 1) := do_46 (rdb (p := 0) (i := 30) ch_cX12_tell_0 rfl)
theorem dX12_tell_31 : decode cX12_tell 31 = .ok (.iadd, 1) := do_96 (rdb (p := 0) (i := 31) ch_cX12_tell_0 rfl)
theorem ch_cX12_tell_32 : (cX12_tell.data.toList.drop 32).take 36 = [27, 79, 42, 180, 0, 9, 8, 92, 46, 4, 96, 79, 42, 180, 0, 9, 8, 46, 172] := by decide +kernel
theorem dX12_tell_32 : decode cX12_tell 32 = .ok (.iload_n 1, 1) := do_27 (rdb (p := 32) (i := 0) ch_cX12_tell_32 rfl)
theorem dX12_tell_33 : decode cX12_tell 33 = .ok (.iastore, 1) := do_79 (rdb (p := 32) (i := 1) ch_cX12_tell_32 rfl)
theorem dX12_tell_34 : decode cX12_tell 34 = .ok (.aload_n 0, 1) := do_42 (rdb (p := 32) (i := 2) ch_cX12_tell_32 rfl)
theorem dX12_tell_35 : decode cX12_tell 35 = .ok (.getfield 9, 3) := do_180 (rdb (p := 32) (i := 3) ch_cX12_tell_32 rfl) (rdb (p := 32) (i := 4) ch_cX12_tell_32 rfl) (rdb (p := 32) (i := 5) ch_cX12_tell_32 rfl) rfl
theorem dX12_tell_38 : decode cX12_tell 38 = .ok (.iconst 5, 1) := do_8 (rdb (p := 32) (i := 6) ch_cX12_tell_32 rfl)
theorem dX12_tell_39 : decode cX12_tell 39 = .ok (.dup2, 1) := do_92 (rdb (p := 32) (i := 7) ch_cX12_tell_32 rfl)
theorem dX12_tell_40 : decode cX12_tell 40 = .ok (.iaload, 1) := do_46 (rdb (p := 32) (i := 8) ch_cX12_tell_32 rfl)
theorem dX12_tell_41 : decode cX12_tell 41 = .ok (.iconst 1, 1) := do_4 (rdb (p := 32) (i := 9) ch_cX12_tell_32 rfl)
theorem dX12_tell_42 : decode cX12_tell 42 = .ok (.iadd, 1) := do_96 (rdb (p := 32) (i := 10) ch_cX12_tell_32 rfl)
theorem dX12_tell_43 : decode cX12_tell 43 = .ok (.iastore, 1) := do_79 (rdb (p := 32) (i := 11) ch_cX12_tell_32 rfl)
theorem dX12_tell_44 : decode cX12_tell 44 = .ok (.aload_n 0, 1) := do_42 (rdb (p := 32) (i := 12) ch_cX12_tell_32 rfl)
theorem dX12_tell_45 : decode cX12_tell 45 = .ok (.getfield 9, 3) := do_180 (rdb (p := 32) (i := 13) ch_cX12_tell_32 rfl) (rdb (p := 32) (i := 14) ch_cX12_tell_32 rfl) (rdb (p := 32) (i := 15) ch_cX12_tell_32 rfl) rfl
theorem dX12_tell_48 : decode cX12_tell 48 = .ok (.iconst 5, 1) := do_8 (rdb (p := 32) (i := 16) ch_cX12_tell_32 rfl)
theorem dX12_tell_49 : decode cX12_tell 49 = .ok (.iaload, 1) := do_46 (rdb (p := 32) (i := 17) ch_cX12_tell_32 rfl)
theorem dX12_tell_50 : decode cX12_tell 50 = .ok (.ireturn, 1) := do_172 (rdb (p := 32) (i := 18) ch_cX12_tell_32 rfl)
theorem dX12_told_0 : decode cX12_told 0 = .ok (.iload_n 1, 1) := by decide +kernel
theorem dX12_told_1 : decode cX12_told 1 = .ok (.iconst 1, 1) := by decide +kernel
theorem dX12_told_2 : decode cX12_told 2 = .ok (.bipush 6, 2) := by decide +kernel
theorem dX12_told_4 : decode cX12_told 4 = .ok (.invokestatic 85, 3) := by decide +kernel
theorem dX12_told_7 : decode cX12_told 7 = .ok (.ifCond .eq 12, 3) := by decide +kernel
theorem dX12_told_10 : decode cX12_told 10 = .ok (.aload_n 0, 1) := by decide +kernel
theorem dX12_told_11 : decode cX12_told 11 = .ok (.getfield 19, 3) := by decide +kernel
theorem dX12_told_14 : decode cX12_told 14 = .ok (.iload_n 1, 1) := by decide +kernel
theorem dX12_told_15 : decode cX12_told 15 = .ok (.iaload, 1) := by decide +kernel
theorem dX12_told_16 : decode cX12_told 16 = .ok (.goto 9, 3) := by decide +kernel
theorem dX12_told_19 : decode cX12_told 19 = .ok (.aload_n 0, 1) := by decide +kernel
theorem dX12_told_20 : decode cX12_told 20 = .ok (.ldc 103, 2) := by decide +kernel
theorem dX12_told_22 : decode cX12_told 22 = .ok (.invokevirtual 104, 3) := by decide +kernel
theorem dX12_told_25 : decode cX12_told 25 = .ok (.ireturn, 1) := by decide +kernel
theorem dX12_trace_0 : decode cX12_trace 0 = .ok (.iload_n 1, 1) := by decide +kernel
theorem dX12_trace_1 : decode cX12_trace 1 = .ok (.iconst 0, 1) := by decide +kernel
theorem dX12_trace_2 : decode cX12_trace 2 = .ok (.aload_n 0, 1) := by decide +kernel
theorem dX12_trace_3 : decode cX12_trace 3 = .ok (.getfield 324, 3) := by decide +kernel
theorem dX12_trace_6 : decode cX12_trace 6 = .ok (.iconst 1, 1) := by decide +kernel
theorem dX12_trace_7 : decode cX12_trace 7 = .ok (.isub, 1) := by decide +kernel
theorem dX12_trace_8 : decode cX12_trace 8 = .ok (.invokestatic 85, 3) := by decide +kernel
theorem dX12_trace_11 : decode cX12_trace 11 = .ok (.ifCond .eq 12, 3) := by decide +kernel
theorem dX12_trace_14 : decode cX12_trace 14 = .ok (.aload_n 0, 1) := by decide +kernel
theorem dX12_trace_15 : decode cX12_trace 15 = .ok (.getfield 69, 3) := by decide +kernel
theorem dX12_trace_18 : decode cX12_trace 18 = .ok (.iload_n 1, 1) := by decide +kernel
theorem dX12_trace_19 : decode cX12_trace 19 = .ok (.iaload, 1) := by decide +kernel
theorem dX12_trace_20 : decode cX12_trace 20 = .ok (.goto 9, 3) := by decide +kernel
theorem dX12_trace_23 : decode cX12_trace 23 = .ok (.aload_n 0, 1) := by decide +kernel
theorem dX12_trace_24 : decode cX12_trace 24 = .ok (.ldc 130, 2) := by decide +kernel
theorem dX12_trace_26 : decode cX12_trace 26 = .ok (.invokevirtual 104, 3) := by decide +kernel
theorem dX12_trace_29 : decode cX12_trace 29 = .ok (.ireturn, 1) := by decide +kernel
end
section
def S_c_X12_move : rf → Nat → Prop := fun c k => (c.1 = 53 ∧ c.2.1 = 0) ∨ (c.1 = 68 ∧ c.2.1 = 0) ∨ (c.1 = 69 ∧ c.2.1 = 0) ∨ False
def ST_X12_move_164 (t : Int32) (s : Int32) (q : Int32) (Mz : mM) (v6_164 : Int32) (M_164 : mM) (v6_164y : Int32) (M_164y : mM) : Prop := (0 ≤ v6_164.toInt) ∧ (InvD M_164) ∧ (FR (S_c_X12_move) Mz M_164) ∧ (v6_164.toInt < q.toInt) ∧ ∃ z119_ : Int32, (z119_.toInt = 24 * t.toInt) ∧ ∃ z121_ : Int32, (z121_.toInt = z119_.toInt + s.toInt) ∧ ∃ z123_ : Int32, (z123_.toInt = z121_.toInt + v6_164.toInt) ∧ ∃ j127_ : Nat, ((j127_ : Int) = v6_164.toInt) ∧ ∃ z125_ : Int32, (z125_ = M_164.1 (69, 0, 0) j127_) ∧ ∃ j131_ : Nat, ((j131_ : Int) = z123_.toInt) ∧ ∃ M129_ : mM, (M129_ = up M_164 (68, 0, 0) j131_ z125_) ∧ ∃ z135_ : Int32, (z135_.toInt = v6_164.toInt + 1) ∧ v6_164y = z135_ ∧ M_164y = M129_
def ST_X12_move_127 (v : Int32) (u : Int32) (q : Int32) (Mz : mM) (v6_127 : Int32) (M_127 : mM) (v6_127y : Int32) (M_127y : mM) : Prop := (0 ≤ v6_127.toInt) ∧ (InvD M_127) ∧ (FR (S_c_X12_move) Mz M_127) ∧ (v6_127.toInt < q.toInt) ∧ ∃ z137_ : Int32, (z137_.toInt = 24 * v.toInt) ∧ ∃ z139_ : Int32, (z139_.toInt = z137_.toInt + u.toInt) ∧ ∃ z141_ : Int32, (z141_.toInt = z139_.toInt + v6_127.toInt) ∧ ∃ j145_ : Nat, ((j145_ : Int) = z141_.toInt) ∧ ∃ z143_ : Int32, (z143_ = M_127.1 (68, 0, 0) j145_) ∧ ∃ j149_ : Nat, ((j149_ : Int) = v6_127.toInt) ∧ ∃ M147_ : mM, (M147_ = up M_127 (69, 0, 0) j149_ z143_) ∧ ∃ z153_ : Int32, (z153_.toInt = v6_127.toInt + 1) ∧ v6_127y = z153_ ∧ M_127y = M147_
def SP_X12_move (v : Int32) (u : Int32) (t : Int32) (s : Int32) (q : Int32) (Mz : mM) (r_ : Int32) (M_ : mM) : Prop := (((SP_X12_isSheet v Mz (1 : Int32)) ∧ (0 ≤ v.toInt ∧ v.toInt ≤ 3) ∧ (((SP_X12_isSheet t Mz (1 : Int32)) ∧ (0 ≤ t.toInt ∧ t.toInt ≤ 3) ∧ ∃ j15_ : Nat, ((j15_ : Int) = v.toInt) ∧ ∃ z13_ : Int32, (z13_ = Mz.1 (66, 0, 0) j15_) ∧ (((z13_.toInt = 0) ∧ ∃ M19_ : mM, (InvD M19_) ∧ (FR (S_c_X12_finding) Mz M19_) ∧ ∃ r18_ : Int32, (SP_X12_finding (-1000002) Mz r18_ M19_) ∧ (r18_.toInt = (-1000002)) ∧ r_ = r18_ ∧ M_ = M19_) ∨ ((¬ z13_.toInt = 0) ∧ ∃ j28_ : Nat, ((j28_ : Int) = t.toInt) ∧ ∃ z26_ : Int32, (z26_ = Mz.1 (66, 0, 0) j28_) ∧ (((¬ z26_.toInt = 0) ∧ ∃ j33_ : Nat, ((j33_ : Int) = v.toInt) ∧ ∃ z31_ : Int32, (z31_ = Mz.1 (66, 0, 0) j33_) ∧ ∃ j37_ : Nat, ((j37_ : Int) = t.toInt) ∧ ∃ z35_ : Int32, (z35_ = Mz.1 (66, 0, 0) j37_) ∧ (((z31_.toInt = z35_.toInt) ∧ (((q.toInt < 0) ∧ ∃ M42_ : mM, (InvD M42_) ∧ (FR (S_c_X12_finding) Mz M42_) ∧ ∃ r41_ : Int32, (SP_X12_finding (-1000001) Mz r41_ M42_) ∧ (r41_.toInt = (-1000001)) ∧ r_ = r41_ ∧ M_ = M42_) ∨ ((0 ≤ q.toInt) ∧ (((u.toInt < 0) ∧ ∃ M51_ : mM, (InvD M51_) ∧ (FR (S_c_X12_finding) Mz M51_) ∧ ∃ r50_ : Int32, (SP_X12_finding (-1000001) Mz r50_ M51_) ∧ (r50_.toInt = (-1000001)) ∧ r_ = r50_ ∧ M_ = M51_) ∨ ((0 ≤ u.toInt) ∧ (((s.toInt < 0) ∧ ∃ M60_ : mM, (InvD M60_) ∧ (FR (S_c_X12_finding) Mz M60_) ∧ ∃ r59_ : Int32, (SP_X12_finding (-1000001) Mz r59_ M60_) ∧ (r59_.toInt = (-1000001)) ∧ r_ = r59_ ∧ M_ = M60_) ∨ ((0 ≤ s.toInt) ∧ ∃ w67_ : Int64, (w67_ = u.toInt64) ∧ (w67_.toInt = u.toInt) ∧ ∃ w70_ : Int64, (w70_ = q.toInt64) ∧ (w70_.toInt = q.toInt) ∧ ∃ w73_ : Int64, (w73_ = w67_ + w70_) ∧ (w73_.toInt = w67_.toInt + w70_.toInt) ∧ ∃ j78_ : Nat, ((j78_ : Int) = v.toInt) ∧ ∃ z76_ : Int32, (z76_ = Mz.1 (67, 0, 0) j78_) ∧ (0 ≤ z76_.toInt ∧ z76_.toInt ≤ 24) ∧ ∃ w81_ : Int64, (w81_ = z76_.toInt64) ∧ (w81_.toInt = z76_.toInt) ∧ ∃ z84_ : Int32, ((z84_.toInt = -1 ∧ w73_.toInt < w81_.toInt) ∨ (z84_.toInt = 0 ∧ w73_.toInt = w81_.toInt) ∨ (z84_.toInt = 1 ∧ w81_.toInt < w73_.toInt)) ∧ (((0 < z84_.toInt) ∧ ∃ M88_ : mM, (InvD M88_) ∧ (FR (S_c_X12_finding) Mz M88_) ∧ ∃ r87_ : Int32, (SP_X12_finding (-1000001) Mz r87_ M88_) ∧ (r87_.toInt = (-1000001)) ∧ r_ = r87_ ∧ M_ = M88_) ∨ ((z84_.toInt ≤ 0) ∧ ∃ w95_ : Int64, (w95_ = s.toInt64) ∧ (w95_.toInt = s.toInt) ∧ ∃ w98_ : Int64, (w98_ = q.toInt64) ∧ (w98_.toInt = q.toInt) ∧ ∃ w101_ : Int64, (w101_ = w95_ + w98_) ∧ (w101_.toInt = w95_.toInt + w98_.toInt) ∧ ∃ j106_ : Nat, ((j106_ : Int) = t.toInt) ∧ ∃ z104_ : Int32, (z104_ = Mz.1 (67, 0, 0) j106_) ∧ (0 ≤ z104_.toInt ∧ z104_.toInt ≤ 24) ∧ ∃ w109_ : Int64, (w109_ = z104_.toInt64) ∧ (w109_.toInt = z104_.toInt) ∧ ∃ z112_ : Int32, ((z112_.toInt = -1 ∧ w101_.toInt < w109_.toInt) ∨ (z112_.toInt = 0 ∧ w101_.toInt = w109_.toInt) ∨ (z112_.toInt = 1 ∧ w109_.toInt < w101_.toInt)) ∧ (((z112_.toInt ≤ 0) ∧ ∃ v6_127 : Int32, (0 ≤ v6_127.toInt) ∧ ∃ M_127 : mM, (RCH (fun x_ y_ => ST_X12_move_127 v u q Mz x_.1 x_.2 y_.1 y_.2) ((0 : Int32), Mz) (v6_127, M_127)) ∧ (InvD M_127) ∧ (FR (S_c_X12_move) Mz M_127) ∧ (q.toInt ≤ v6_127.toInt) ∧ ∃ v6_164 : Int32, (0 ≤ v6_164.toInt) ∧ ∃ M_164 : mM, (RCH (fun x_ y_ => ST_X12_move_164 t s q Mz x_.1 x_.2 y_.1 y_.2) ((0 : Int32), M_127) (v6_164, M_164)) ∧ (InvD M_164) ∧ (FR (S_c_X12_move) Mz M_164) ∧ (q.toInt ≤ v6_164.toInt) ∧ r_ = q ∧ M_ = M_164) ∨ ((0 < z112_.toInt) ∧ ∃ M156_ : mM, (InvD M156_) ∧ (FR (S_c_X12_finding) Mz M156_) ∧ ∃ r155_ : Int32, (SP_X12_finding (-1000001) Mz r155_ M156_) ∧ (r155_.toInt = (-1000001)) ∧ r_ = r155_ ∧ M_ = M156_))))))))))) ∨ ((¬ z31_.toInt = z35_.toInt) ∧ ∃ M164_ : mM, (InvD M164_) ∧ (FR (S_c_X12_finding) Mz M164_) ∧ ∃ r163_ : Int32, (SP_X12_finding (-1000005) Mz r163_ M164_) ∧ (r163_.toInt = (-1000005)) ∧ r_ = r163_ ∧ M_ = M164_))) ∨ ((z26_.toInt = 0) ∧ ∃ M172_ : mM, (InvD M172_) ∧ (FR (S_c_X12_finding) Mz M172_) ∧ ∃ r171_ : Int32, (SP_X12_finding (-1000002) Mz r171_ M172_) ∧ (r171_.toInt = (-1000002)) ∧ r_ = r171_ ∧ M_ = M172_))))) ∨ ((SP_X12_isSheet t Mz (0 : Int32)) ∧ (¬ (0 ≤ t.toInt ∧ t.toInt ≤ 3)) ∧ ∃ M181_ : mM, (InvD M181_) ∧ (FR (S_c_X12_finding) Mz M181_) ∧ ∃ r180_ : Int32, (SP_X12_finding (-1000001) Mz r180_ M181_) ∧ (r180_.toInt = (-1000001)) ∧ r_ = r180_ ∧ M_ = M181_))) ∨ ((SP_X12_isSheet v Mz (0 : Int32)) ∧ (¬ (0 ≤ v.toInt ∧ v.toInt ≤ 3)) ∧ ∃ M190_ : mM, (InvD M190_) ∧ (FR (S_c_X12_finding) Mz M190_) ∧ ∃ r189_ : Int32, (SP_X12_finding (-1000001) Mz r189_ M190_) ∧ (r189_.toInt = (-1000001)) ∧ r_ = r189_ ∧ M_ = M190_))
theorem lf_c_X12_move_4 (u : Int32) (q : Int32) (w67_ : Int64) (w70_ : Int64) (h40_ : 0 ≤ q.toInt) (h49_ : 0 ≤ u.toInt) (h69_ : w67_.toInt = u.toInt) (h72_ : w70_.toInt = q.toInt) : -9223372036854775808 ≤ w67_.toInt + w70_.toInt ∧ w67_.toInt + w70_.toInt < 9223372036854775808 := by have r_u := rngI u; have r_q := rngI q; omega
theorem lf_c_X12_move_6 (Mz : mM) (v : Int32) (u : Int32) (t : Int32) (s : Int32) (q : Int32) (j15_ : Nat) (z13_ : Int32) (j28_ : Nat) (z26_ : Int32) (j33_ : Nat) (z31_ : Int32) (j37_ : Nat) (z35_ : Int32) (w67_ : Int64) (w70_ : Int64) (w73_ : Int64) (j78_ : Nat) (z76_ : Int32) (w81_ : Int64) (z84_ : Int32) (w95_ : Int64) (w98_ : Int64) (h4_ : 0 ≤ v.toInt ∧ v.toInt ≤ 3) (h10_ : 0 ≤ t.toInt ∧ t.toInt ≤ 3) (h16_ : (j15_ : Int) = v.toInt) (e14_ : z13_ = Mz.1 (66, 0, 0) j15_) (h17_ : ¬ z13_.toInt = 0) (h29_ : (j28_ : Int) = t.toInt) (e27_ : z26_ = Mz.1 (66, 0, 0) j28_) (h30_ : ¬ z26_.toInt = 0) (h34_ : (j33_ : Int) = v.toInt) (e32_ : z31_ = Mz.1 (66, 0, 0) j33_) (h38_ : (j37_ : Int) = t.toInt) (e36_ : z35_ = Mz.1 (66, 0, 0) j37_) (h39_ : z31_.toInt = z35_.toInt) (h40_ : 0 ≤ q.toInt) (h49_ : 0 ≤ u.toInt) (h58_ : 0 ≤ s.toInt) (h69_ : w67_.toInt = u.toInt) (h72_ : w70_.toInt = q.toInt) (h75_ : w73_.toInt = w67_.toInt + w70_.toInt) (h79_ : (j78_ : Int) = v.toInt) (e77_ : z76_ = Mz.1 (67, 0, 0) j78_) (h80_ : 0 ≤ z76_.toInt ∧ z76_.toInt ≤ 24) (h83_ : w81_.toInt = z76_.toInt) (h85_ : (z84_.toInt = -1 ∧ w73_.toInt < w81_.toInt) ∨ (z84_.toInt = 0 ∧ w73_.toInt = w81_.toInt) ∨ (z84_.toInt = 1 ∧ w81_.toInt < w73_.toInt)) (h86_ : z84_.toInt ≤ 0) (h97_ : w95_.toInt = s.toInt) (h100_ : w98_.toInt = q.toInt) : -9223372036854775808 ≤ w95_.toInt + w98_.toInt ∧ w95_.toInt + w98_.toInt < 9223372036854775808 := by have r_v := rngI v; have r_u := rngI u; have r_t := rngI t; have r_s := rngI s; have r_q := rngI q; have r_z13_ := rngI z13_; have r_z26_ := rngI z26_; have r_z31_ := rngI z31_; have r_z35_ := rngI z35_; have r_z76_ := rngI z76_; have r_z84_ := rngI z84_; subst e14_; subst e27_; subst e32_; subst e36_; subst e77_; omega
theorem lf_c_X12_move_9 (Mz : mM) (v : Int32) (u : Int32) (t : Int32) (s : Int32) (q : Int32) (j15_ : Nat) (z13_ : Int32) (j28_ : Nat) (z26_ : Int32) (j33_ : Nat) (z31_ : Int32) (j37_ : Nat) (z35_ : Int32) (w67_ : Int64) (w70_ : Int64) (w73_ : Int64) (j78_ : Nat) (z76_ : Int32) (w81_ : Int64) (z84_ : Int32) (w95_ : Int64) (w98_ : Int64) (w101_ : Int64) (j106_ : Nat) (z104_ : Int32) (w109_ : Int64) (z112_ : Int32) (v6_127 : Int32) (v6_164 : Int32) (z119_ : Int32) (h4_ : 0 ≤ v.toInt ∧ v.toInt ≤ 3) (h10_ : 0 ≤ t.toInt ∧ t.toInt ≤ 3) (h16_ : (j15_ : Int) = v.toInt) (e14_ : z13_ = Mz.1 (66, 0, 0) j15_) (h17_ : ¬ z13_.toInt = 0) (h29_ : (j28_ : Int) = t.toInt) (e27_ : z26_ = Mz.1 (66, 0, 0) j28_) (h30_ : ¬ z26_.toInt = 0) (h34_ : (j33_ : Int) = v.toInt) (e32_ : z31_ = Mz.1 (66, 0, 0) j33_) (h38_ : (j37_ : Int) = t.toInt) (e36_ : z35_ = Mz.1 (66, 0, 0) j37_) (h39_ : z31_.toInt = z35_.toInt) (h40_ : 0 ≤ q.toInt) (h49_ : 0 ≤ u.toInt) (h58_ : 0 ≤ s.toInt) (h69_ : w67_.toInt = u.toInt) (h72_ : w70_.toInt = q.toInt) (h75_ : w73_.toInt = w67_.toInt + w70_.toInt) (h79_ : (j78_ : Int) = v.toInt) (e77_ : z76_ = Mz.1 (67, 0, 0) j78_) (h80_ : 0 ≤ z76_.toInt ∧ z76_.toInt ≤ 24) (h83_ : w81_.toInt = z76_.toInt) (h85_ : (z84_.toInt = -1 ∧ w73_.toInt < w81_.toInt) ∨ (z84_.toInt = 0 ∧ w73_.toInt = w81_.toInt) ∨ (z84_.toInt = 1 ∧ w81_.toInt < w73_.toInt)) (h86_ : z84_.toInt ≤ 0) (h97_ : w95_.toInt = s.toInt) (h100_ : w98_.toInt = q.toInt) (h103_ : w101_.toInt = w95_.toInt + w98_.toInt) (h107_ : (j106_ : Int) = t.toInt) (e105_ : z104_ = Mz.1 (67, 0, 0) j106_) (h108_ : 0 ≤ z104_.toInt ∧ z104_.toInt ≤ 24) (h111_ : w109_.toInt = z104_.toInt) (h113_ : (z112_.toInt = -1 ∧ w101_.toInt < w109_.toInt) ∨ (z112_.toInt = 0 ∧ w101_.toInt = w109_.toInt) ∨ (z112_.toInt = 1 ∧ w109_.toInt < w101_.toInt)) (h114_ : z112_.toInt ≤ 0) (hv0_127 : 0 ≤ v6_127.toInt) (h116_ : q.toInt ≤ v6_127.toInt) (hv0_164 : 0 ≤ v6_164.toInt) (h118_ : v6_164.toInt < q.toInt) (h120_ : z119_.toInt = 24 * t.toInt) : -2147483648 ≤ z119_.toInt + s.toInt ∧ z119_.toInt + s.toInt < 2147483648 := by have r_v := rngI v; have r_u := rngI u; have r_t := rngI t; have r_s := rngI s; have r_q := rngI q; have r_z13_ := rngI z13_; have r_z26_ := rngI z26_; have r_z31_ := rngI z31_; have r_z35_ := rngI z35_; have r_z76_ := rngI z76_; have r_z84_ := rngI z84_; have r_z104_ := rngI z104_; have r_z112_ := rngI z112_; have r_v6_127 := rngI v6_127; have r_v6_164 := rngI v6_164; have r_z119_ := rngI z119_; subst e14_; subst e27_; subst e32_; subst e36_; subst e77_; subst e105_; omega
theorem lf_c_X12_move_10 (Mz : mM) (v : Int32) (u : Int32) (t : Int32) (s : Int32) (q : Int32) (j15_ : Nat) (z13_ : Int32) (j28_ : Nat) (z26_ : Int32) (j33_ : Nat) (z31_ : Int32) (j37_ : Nat) (z35_ : Int32) (w67_ : Int64) (w70_ : Int64) (w73_ : Int64) (j78_ : Nat) (z76_ : Int32) (w81_ : Int64) (z84_ : Int32) (w95_ : Int64) (w98_ : Int64) (w101_ : Int64) (j106_ : Nat) (z104_ : Int32) (w109_ : Int64) (z112_ : Int32) (v6_127 : Int32) (v6_164 : Int32) (z119_ : Int32) (z121_ : Int32) (h4_ : 0 ≤ v.toInt ∧ v.toInt ≤ 3) (h10_ : 0 ≤ t.toInt ∧ t.toInt ≤ 3) (h16_ : (j15_ : Int) = v.toInt) (e14_ : z13_ = Mz.1 (66, 0, 0) j15_) (h17_ : ¬ z13_.toInt = 0) (h29_ : (j28_ : Int) = t.toInt) (e27_ : z26_ = Mz.1 (66, 0, 0) j28_) (h30_ : ¬ z26_.toInt = 0) (h34_ : (j33_ : Int) = v.toInt) (e32_ : z31_ = Mz.1 (66, 0, 0) j33_) (h38_ : (j37_ : Int) = t.toInt) (e36_ : z35_ = Mz.1 (66, 0, 0) j37_) (h39_ : z31_.toInt = z35_.toInt) (h40_ : 0 ≤ q.toInt) (h49_ : 0 ≤ u.toInt) (h58_ : 0 ≤ s.toInt) (h69_ : w67_.toInt = u.toInt) (h72_ : w70_.toInt = q.toInt) (h75_ : w73_.toInt = w67_.toInt + w70_.toInt) (h79_ : (j78_ : Int) = v.toInt) (e77_ : z76_ = Mz.1 (67, 0, 0) j78_) (h80_ : 0 ≤ z76_.toInt ∧ z76_.toInt ≤ 24) (h83_ : w81_.toInt = z76_.toInt) (h85_ : (z84_.toInt = -1 ∧ w73_.toInt < w81_.toInt) ∨ (z84_.toInt = 0 ∧ w73_.toInt = w81_.toInt) ∨ (z84_.toInt = 1 ∧ w81_.toInt < w73_.toInt)) (h86_ : z84_.toInt ≤ 0) (h97_ : w95_.toInt = s.toInt) (h100_ : w98_.toInt = q.toInt) (h103_ : w101_.toInt = w95_.toInt + w98_.toInt) (h107_ : (j106_ : Int) = t.toInt) (e105_ : z104_ = Mz.1 (67, 0, 0) j106_) (h108_ : 0 ≤ z104_.toInt ∧ z104_.toInt ≤ 24) (h111_ : w109_.toInt = z104_.toInt) (h113_ : (z112_.toInt = -1 ∧ w101_.toInt < w109_.toInt) ∨ (z112_.toInt = 0 ∧ w101_.toInt = w109_.toInt) ∨ (z112_.toInt = 1 ∧ w109_.toInt < w101_.toInt)) (h114_ : z112_.toInt ≤ 0) (hv0_127 : 0 ≤ v6_127.toInt) (h116_ : q.toInt ≤ v6_127.toInt) (hv0_164 : 0 ≤ v6_164.toInt) (h118_ : v6_164.toInt < q.toInt) (h120_ : z119_.toInt = 24 * t.toInt) (h122_ : z121_.toInt = z119_.toInt + s.toInt) : -2147483648 ≤ z121_.toInt + v6_164.toInt ∧ z121_.toInt + v6_164.toInt < 2147483648 := by have r_v := rngI v; have r_u := rngI u; have r_t := rngI t; have r_s := rngI s; have r_q := rngI q; have r_z13_ := rngI z13_; have r_z26_ := rngI z26_; have r_z31_ := rngI z31_; have r_z35_ := rngI z35_; have r_z76_ := rngI z76_; have r_z84_ := rngI z84_; have r_z104_ := rngI z104_; have r_z112_ := rngI z112_; have r_v6_127 := rngI v6_127; have r_v6_164 := rngI v6_164; have r_z119_ := rngI z119_; have r_z121_ := rngI z121_; subst e14_; subst e27_; subst e32_; subst e36_; subst e77_; subst e105_; omega
theorem lf_c_X12_move_11 (Mz : mM) (v : Int32) (u : Int32) (t : Int32) (s : Int32) (q : Int32) (j15_ : Nat) (z13_ : Int32) (j28_ : Nat) (z26_ : Int32) (j33_ : Nat) (z31_ : Int32) (j37_ : Nat) (z35_ : Int32) (w67_ : Int64) (w70_ : Int64) (w73_ : Int64) (j78_ : Nat) (z76_ : Int32) (w81_ : Int64) (z84_ : Int32) (w95_ : Int64) (w98_ : Int64) (w101_ : Int64) (j106_ : Nat) (z104_ : Int32) (w109_ : Int64) (z112_ : Int32) (v6_127 : Int32) (v6_164 : Int32) (z119_ : Int32) (z121_ : Int32) (z123_ : Int32) (h4_ : 0 ≤ v.toInt ∧ v.toInt ≤ 3) (h10_ : 0 ≤ t.toInt ∧ t.toInt ≤ 3) (h16_ : (j15_ : Int) = v.toInt) (e14_ : z13_ = Mz.1 (66, 0, 0) j15_) (h17_ : ¬ z13_.toInt = 0) (h29_ : (j28_ : Int) = t.toInt) (e27_ : z26_ = Mz.1 (66, 0, 0) j28_) (h30_ : ¬ z26_.toInt = 0) (h34_ : (j33_ : Int) = v.toInt) (e32_ : z31_ = Mz.1 (66, 0, 0) j33_) (h38_ : (j37_ : Int) = t.toInt) (e36_ : z35_ = Mz.1 (66, 0, 0) j37_) (h39_ : z31_.toInt = z35_.toInt) (h40_ : 0 ≤ q.toInt) (h49_ : 0 ≤ u.toInt) (h58_ : 0 ≤ s.toInt) (h69_ : w67_.toInt = u.toInt) (h72_ : w70_.toInt = q.toInt) (h75_ : w73_.toInt = w67_.toInt + w70_.toInt) (h79_ : (j78_ : Int) = v.toInt) (e77_ : z76_ = Mz.1 (67, 0, 0) j78_) (h80_ : 0 ≤ z76_.toInt ∧ z76_.toInt ≤ 24) (h83_ : w81_.toInt = z76_.toInt) (h85_ : (z84_.toInt = -1 ∧ w73_.toInt < w81_.toInt) ∨ (z84_.toInt = 0 ∧ w73_.toInt = w81_.toInt) ∨ (z84_.toInt = 1 ∧ w81_.toInt < w73_.toInt)) (h86_ : z84_.toInt ≤ 0) (h97_ : w95_.toInt = s.toInt) (h100_ : w98_.toInt = q.toInt) (h103_ : w101_.toInt = w95_.toInt + w98_.toInt) (h107_ : (j106_ : Int) = t.toInt) (e105_ : z104_ = Mz.1 (67, 0, 0) j106_) (h108_ : 0 ≤ z104_.toInt ∧ z104_.toInt ≤ 24) (h111_ : w109_.toInt = z104_.toInt) (h113_ : (z112_.toInt = -1 ∧ w101_.toInt < w109_.toInt) ∨ (z112_.toInt = 0 ∧ w101_.toInt = w109_.toInt) ∨ (z112_.toInt = 1 ∧ w109_.toInt < w101_.toInt)) (h114_ : z112_.toInt ≤ 0) (hv0_127 : 0 ≤ v6_127.toInt) (h116_ : q.toInt ≤ v6_127.toInt) (hv0_164 : 0 ≤ v6_164.toInt) (h118_ : v6_164.toInt < q.toInt) (h120_ : z119_.toInt = 24 * t.toInt) (h122_ : z121_.toInt = z119_.toInt + s.toInt) (h124_ : z123_.toInt = z121_.toInt + v6_164.toInt) : 0 ≤ v6_164.toInt ∧ v6_164.toInt < ((24 : Nat) : Int) := by have r_v := rngI v; have r_u := rngI u; have r_t := rngI t; have r_s := rngI s; have r_q := rngI q; have r_z13_ := rngI z13_; have r_z26_ := rngI z26_; have r_z31_ := rngI z31_; have r_z35_ := rngI z35_; have r_z76_ := rngI z76_; have r_z84_ := rngI z84_; have r_z104_ := rngI z104_; have r_z112_ := rngI z112_; have r_v6_127 := rngI v6_127; have r_v6_164 := rngI v6_164; have r_z119_ := rngI z119_; have r_z121_ := rngI z121_; have r_z123_ := rngI z123_; subst e14_; subst e27_; subst e32_; subst e36_; subst e77_; subst e105_; omega
theorem lf_c_X12_move_12 (M_164 : mM) (Mz : mM) (v : Int32) (u : Int32) (t : Int32) (s : Int32) (q : Int32) (j15_ : Nat) (z13_ : Int32) (j28_ : Nat) (z26_ : Int32) (j33_ : Nat) (z31_ : Int32) (j37_ : Nat) (z35_ : Int32) (w67_ : Int64) (w70_ : Int64) (w73_ : Int64) (j78_ : Nat) (z76_ : Int32) (w81_ : Int64) (z84_ : Int32) (w95_ : Int64) (w98_ : Int64) (w101_ : Int64) (j106_ : Nat) (z104_ : Int32) (w109_ : Int64) (z112_ : Int32) (v6_127 : Int32) (v6_164 : Int32) (z119_ : Int32) (z121_ : Int32) (z123_ : Int32) (j127_ : Nat) (z125_ : Int32) (h4_ : 0 ≤ v.toInt ∧ v.toInt ≤ 3) (h10_ : 0 ≤ t.toInt ∧ t.toInt ≤ 3) (h16_ : (j15_ : Int) = v.toInt) (e14_ : z13_ = Mz.1 (66, 0, 0) j15_) (h17_ : ¬ z13_.toInt = 0) (h29_ : (j28_ : Int) = t.toInt) (e27_ : z26_ = Mz.1 (66, 0, 0) j28_) (h30_ : ¬ z26_.toInt = 0) (h34_ : (j33_ : Int) = v.toInt) (e32_ : z31_ = Mz.1 (66, 0, 0) j33_) (h38_ : (j37_ : Int) = t.toInt) (e36_ : z35_ = Mz.1 (66, 0, 0) j37_) (h39_ : z31_.toInt = z35_.toInt) (h40_ : 0 ≤ q.toInt) (h49_ : 0 ≤ u.toInt) (h58_ : 0 ≤ s.toInt) (h69_ : w67_.toInt = u.toInt) (h72_ : w70_.toInt = q.toInt) (h75_ : w73_.toInt = w67_.toInt + w70_.toInt) (h79_ : (j78_ : Int) = v.toInt) (e77_ : z76_ = Mz.1 (67, 0, 0) j78_) (h80_ : 0 ≤ z76_.toInt ∧ z76_.toInt ≤ 24) (h83_ : w81_.toInt = z76_.toInt) (h85_ : (z84_.toInt = -1 ∧ w73_.toInt < w81_.toInt) ∨ (z84_.toInt = 0 ∧ w73_.toInt = w81_.toInt) ∨ (z84_.toInt = 1 ∧ w81_.toInt < w73_.toInt)) (h86_ : z84_.toInt ≤ 0) (h97_ : w95_.toInt = s.toInt) (h100_ : w98_.toInt = q.toInt) (h103_ : w101_.toInt = w95_.toInt + w98_.toInt) (h107_ : (j106_ : Int) = t.toInt) (e105_ : z104_ = Mz.1 (67, 0, 0) j106_) (h108_ : 0 ≤ z104_.toInt ∧ z104_.toInt ≤ 24) (h111_ : w109_.toInt = z104_.toInt) (h113_ : (z112_.toInt = -1 ∧ w101_.toInt < w109_.toInt) ∨ (z112_.toInt = 0 ∧ w101_.toInt = w109_.toInt) ∨ (z112_.toInt = 1 ∧ w109_.toInt < w101_.toInt)) (h114_ : z112_.toInt ≤ 0) (hv0_127 : 0 ≤ v6_127.toInt) (h116_ : q.toInt ≤ v6_127.toInt) (hv0_164 : 0 ≤ v6_164.toInt) (h118_ : v6_164.toInt < q.toInt) (h120_ : z119_.toInt = 24 * t.toInt) (h122_ : z121_.toInt = z119_.toInt + s.toInt) (h124_ : z123_.toInt = z121_.toInt + v6_164.toInt) (h128_ : (j127_ : Int) = v6_164.toInt) (e126_ : z125_ = M_164.1 (69, 0, 0) j127_) : 0 ≤ z123_.toInt ∧ z123_.toInt < ((96 : Nat) : Int) := by have r_v := rngI v; have r_u := rngI u; have r_t := rngI t; have r_s := rngI s; have r_q := rngI q; have r_z13_ := rngI z13_; have r_z26_ := rngI z26_; have r_z31_ := rngI z31_; have r_z35_ := rngI z35_; have r_z76_ := rngI z76_; have r_z84_ := rngI z84_; have r_z104_ := rngI z104_; have r_z112_ := rngI z112_; have r_v6_127 := rngI v6_127; have r_v6_164 := rngI v6_164; have r_z119_ := rngI z119_; have r_z121_ := rngI z121_; have r_z123_ := rngI z123_; have r_z125_ := rngI z125_; subst e14_; subst e27_; subst e32_; subst e36_; subst e77_; subst e105_; subst e126_; omega
theorem lf_c_X12_move_13 (q : Int32) (v6_164 : Int32) (hv0_164 : 0 ≤ v6_164.toInt) (h118_ : v6_164.toInt < q.toInt) : -2147483648 ≤ v6_164.toInt + 1 ∧ v6_164.toInt + 1 < 2147483648 := by have r_q := rngI q; omega
theorem lf_c_X12_move_18 (Mz : mM) (v : Int32) (u : Int32) (t : Int32) (s : Int32) (q : Int32) (j15_ : Nat) (z13_ : Int32) (j28_ : Nat) (z26_ : Int32) (j33_ : Nat) (z31_ : Int32) (j37_ : Nat) (z35_ : Int32) (w67_ : Int64) (w70_ : Int64) (w73_ : Int64) (j78_ : Nat) (z76_ : Int32) (w81_ : Int64) (z84_ : Int32) (w95_ : Int64) (w98_ : Int64) (w101_ : Int64) (j106_ : Nat) (z104_ : Int32) (w109_ : Int64) (z112_ : Int32) (v6_127 : Int32) (z137_ : Int32) (h4_ : 0 ≤ v.toInt ∧ v.toInt ≤ 3) (h10_ : 0 ≤ t.toInt ∧ t.toInt ≤ 3) (h16_ : (j15_ : Int) = v.toInt) (e14_ : z13_ = Mz.1 (66, 0, 0) j15_) (h17_ : ¬ z13_.toInt = 0) (h29_ : (j28_ : Int) = t.toInt) (e27_ : z26_ = Mz.1 (66, 0, 0) j28_) (h30_ : ¬ z26_.toInt = 0) (h34_ : (j33_ : Int) = v.toInt) (e32_ : z31_ = Mz.1 (66, 0, 0) j33_) (h38_ : (j37_ : Int) = t.toInt) (e36_ : z35_ = Mz.1 (66, 0, 0) j37_) (h39_ : z31_.toInt = z35_.toInt) (h40_ : 0 ≤ q.toInt) (h49_ : 0 ≤ u.toInt) (h58_ : 0 ≤ s.toInt) (h69_ : w67_.toInt = u.toInt) (h72_ : w70_.toInt = q.toInt) (h75_ : w73_.toInt = w67_.toInt + w70_.toInt) (h79_ : (j78_ : Int) = v.toInt) (e77_ : z76_ = Mz.1 (67, 0, 0) j78_) (h80_ : 0 ≤ z76_.toInt ∧ z76_.toInt ≤ 24) (h83_ : w81_.toInt = z76_.toInt) (h85_ : (z84_.toInt = -1 ∧ w73_.toInt < w81_.toInt) ∨ (z84_.toInt = 0 ∧ w73_.toInt = w81_.toInt) ∨ (z84_.toInt = 1 ∧ w81_.toInt < w73_.toInt)) (h86_ : z84_.toInt ≤ 0) (h97_ : w95_.toInt = s.toInt) (h100_ : w98_.toInt = q.toInt) (h103_ : w101_.toInt = w95_.toInt + w98_.toInt) (h107_ : (j106_ : Int) = t.toInt) (e105_ : z104_ = Mz.1 (67, 0, 0) j106_) (h108_ : 0 ≤ z104_.toInt ∧ z104_.toInt ≤ 24) (h111_ : w109_.toInt = z104_.toInt) (h113_ : (z112_.toInt = -1 ∧ w101_.toInt < w109_.toInt) ∨ (z112_.toInt = 0 ∧ w101_.toInt = w109_.toInt) ∨ (z112_.toInt = 1 ∧ w109_.toInt < w101_.toInt)) (h114_ : z112_.toInt ≤ 0) (hv0_127 : 0 ≤ v6_127.toInt) (h116_ : v6_127.toInt < q.toInt) (h138_ : z137_.toInt = 24 * v.toInt) : -2147483648 ≤ z137_.toInt + u.toInt ∧ z137_.toInt + u.toInt < 2147483648 := by have r_v := rngI v; have r_u := rngI u; have r_t := rngI t; have r_s := rngI s; have r_q := rngI q; have r_z13_ := rngI z13_; have r_z26_ := rngI z26_; have r_z31_ := rngI z31_; have r_z35_ := rngI z35_; have r_z76_ := rngI z76_; have r_z84_ := rngI z84_; have r_z104_ := rngI z104_; have r_z112_ := rngI z112_; have r_v6_127 := rngI v6_127; have r_z137_ := rngI z137_; subst e14_; subst e27_; subst e32_; subst e36_; subst e77_; subst e105_; omega
theorem lf_c_X12_move_19 (Mz : mM) (v : Int32) (u : Int32) (t : Int32) (s : Int32) (q : Int32) (j15_ : Nat) (z13_ : Int32) (j28_ : Nat) (z26_ : Int32) (j33_ : Nat) (z31_ : Int32) (j37_ : Nat) (z35_ : Int32) (w67_ : Int64) (w70_ : Int64) (w73_ : Int64) (j78_ : Nat) (z76_ : Int32) (w81_ : Int64) (z84_ : Int32) (w95_ : Int64) (w98_ : Int64) (w101_ : Int64) (j106_ : Nat) (z104_ : Int32) (w109_ : Int64) (z112_ : Int32) (v6_127 : Int32) (z137_ : Int32) (z139_ : Int32) (h4_ : 0 ≤ v.toInt ∧ v.toInt ≤ 3) (h10_ : 0 ≤ t.toInt ∧ t.toInt ≤ 3) (h16_ : (j15_ : Int) = v.toInt) (e14_ : z13_ = Mz.1 (66, 0, 0) j15_) (h17_ : ¬ z13_.toInt = 0) (h29_ : (j28_ : Int) = t.toInt) (e27_ : z26_ = Mz.1 (66, 0, 0) j28_) (h30_ : ¬ z26_.toInt = 0) (h34_ : (j33_ : Int) = v.toInt) (e32_ : z31_ = Mz.1 (66, 0, 0) j33_) (h38_ : (j37_ : Int) = t.toInt) (e36_ : z35_ = Mz.1 (66, 0, 0) j37_) (h39_ : z31_.toInt = z35_.toInt) (h40_ : 0 ≤ q.toInt) (h49_ : 0 ≤ u.toInt) (h58_ : 0 ≤ s.toInt) (h69_ : w67_.toInt = u.toInt) (h72_ : w70_.toInt = q.toInt) (h75_ : w73_.toInt = w67_.toInt + w70_.toInt) (h79_ : (j78_ : Int) = v.toInt) (e77_ : z76_ = Mz.1 (67, 0, 0) j78_) (h80_ : 0 ≤ z76_.toInt ∧ z76_.toInt ≤ 24) (h83_ : w81_.toInt = z76_.toInt) (h85_ : (z84_.toInt = -1 ∧ w73_.toInt < w81_.toInt) ∨ (z84_.toInt = 0 ∧ w73_.toInt = w81_.toInt) ∨ (z84_.toInt = 1 ∧ w81_.toInt < w73_.toInt)) (h86_ : z84_.toInt ≤ 0) (h97_ : w95_.toInt = s.toInt) (h100_ : w98_.toInt = q.toInt) (h103_ : w101_.toInt = w95_.toInt + w98_.toInt) (h107_ : (j106_ : Int) = t.toInt) (e105_ : z104_ = Mz.1 (67, 0, 0) j106_) (h108_ : 0 ≤ z104_.toInt ∧ z104_.toInt ≤ 24) (h111_ : w109_.toInt = z104_.toInt) (h113_ : (z112_.toInt = -1 ∧ w101_.toInt < w109_.toInt) ∨ (z112_.toInt = 0 ∧ w101_.toInt = w109_.toInt) ∨ (z112_.toInt = 1 ∧ w109_.toInt < w101_.toInt)) (h114_ : z112_.toInt ≤ 0) (hv0_127 : 0 ≤ v6_127.toInt) (h116_ : v6_127.toInt < q.toInt) (h138_ : z137_.toInt = 24 * v.toInt) (h140_ : z139_.toInt = z137_.toInt + u.toInt) : -2147483648 ≤ z139_.toInt + v6_127.toInt ∧ z139_.toInt + v6_127.toInt < 2147483648 := by have r_v := rngI v; have r_u := rngI u; have r_t := rngI t; have r_s := rngI s; have r_q := rngI q; have r_z13_ := rngI z13_; have r_z26_ := rngI z26_; have r_z31_ := rngI z31_; have r_z35_ := rngI z35_; have r_z76_ := rngI z76_; have r_z84_ := rngI z84_; have r_z104_ := rngI z104_; have r_z112_ := rngI z112_; have r_v6_127 := rngI v6_127; have r_z137_ := rngI z137_; have r_z139_ := rngI z139_; subst e14_; subst e27_; subst e32_; subst e36_; subst e77_; subst e105_; omega
theorem lf_c_X12_move_20 (Mz : mM) (v : Int32) (u : Int32) (t : Int32) (s : Int32) (q : Int32) (j15_ : Nat) (z13_ : Int32) (j28_ : Nat) (z26_ : Int32) (j33_ : Nat) (z31_ : Int32) (j37_ : Nat) (z35_ : Int32) (w67_ : Int64) (w70_ : Int64) (w73_ : Int64) (j78_ : Nat) (z76_ : Int32) (w81_ : Int64) (z84_ : Int32) (w95_ : Int64) (w98_ : Int64) (w101_ : Int64) (j106_ : Nat) (z104_ : Int32) (w109_ : Int64) (z112_ : Int32) (v6_127 : Int32) (z137_ : Int32) (z139_ : Int32) (z141_ : Int32) (h4_ : 0 ≤ v.toInt ∧ v.toInt ≤ 3) (h10_ : 0 ≤ t.toInt ∧ t.toInt ≤ 3) (h16_ : (j15_ : Int) = v.toInt) (e14_ : z13_ = Mz.1 (66, 0, 0) j15_) (h17_ : ¬ z13_.toInt = 0) (h29_ : (j28_ : Int) = t.toInt) (e27_ : z26_ = Mz.1 (66, 0, 0) j28_) (h30_ : ¬ z26_.toInt = 0) (h34_ : (j33_ : Int) = v.toInt) (e32_ : z31_ = Mz.1 (66, 0, 0) j33_) (h38_ : (j37_ : Int) = t.toInt) (e36_ : z35_ = Mz.1 (66, 0, 0) j37_) (h39_ : z31_.toInt = z35_.toInt) (h40_ : 0 ≤ q.toInt) (h49_ : 0 ≤ u.toInt) (h58_ : 0 ≤ s.toInt) (h69_ : w67_.toInt = u.toInt) (h72_ : w70_.toInt = q.toInt) (h75_ : w73_.toInt = w67_.toInt + w70_.toInt) (h79_ : (j78_ : Int) = v.toInt) (e77_ : z76_ = Mz.1 (67, 0, 0) j78_) (h80_ : 0 ≤ z76_.toInt ∧ z76_.toInt ≤ 24) (h83_ : w81_.toInt = z76_.toInt) (h85_ : (z84_.toInt = -1 ∧ w73_.toInt < w81_.toInt) ∨ (z84_.toInt = 0 ∧ w73_.toInt = w81_.toInt) ∨ (z84_.toInt = 1 ∧ w81_.toInt < w73_.toInt)) (h86_ : z84_.toInt ≤ 0) (h97_ : w95_.toInt = s.toInt) (h100_ : w98_.toInt = q.toInt) (h103_ : w101_.toInt = w95_.toInt + w98_.toInt) (h107_ : (j106_ : Int) = t.toInt) (e105_ : z104_ = Mz.1 (67, 0, 0) j106_) (h108_ : 0 ≤ z104_.toInt ∧ z104_.toInt ≤ 24) (h111_ : w109_.toInt = z104_.toInt) (h113_ : (z112_.toInt = -1 ∧ w101_.toInt < w109_.toInt) ∨ (z112_.toInt = 0 ∧ w101_.toInt = w109_.toInt) ∨ (z112_.toInt = 1 ∧ w109_.toInt < w101_.toInt)) (h114_ : z112_.toInt ≤ 0) (hv0_127 : 0 ≤ v6_127.toInt) (h116_ : v6_127.toInt < q.toInt) (h138_ : z137_.toInt = 24 * v.toInt) (h140_ : z139_.toInt = z137_.toInt + u.toInt) (h142_ : z141_.toInt = z139_.toInt + v6_127.toInt) : 0 ≤ z141_.toInt ∧ z141_.toInt < ((96 : Nat) : Int) := by have r_v := rngI v; have r_u := rngI u; have r_t := rngI t; have r_s := rngI s; have r_q := rngI q; have r_z13_ := rngI z13_; have r_z26_ := rngI z26_; have r_z31_ := rngI z31_; have r_z35_ := rngI z35_; have r_z76_ := rngI z76_; have r_z84_ := rngI z84_; have r_z104_ := rngI z104_; have r_z112_ := rngI z112_; have r_v6_127 := rngI v6_127; have r_z137_ := rngI z137_; have r_z139_ := rngI z139_; have r_z141_ := rngI z141_; subst e14_; subst e27_; subst e32_; subst e36_; subst e77_; subst e105_; omega
theorem lf_c_X12_move_21 (M_127 : mM) (Mz : mM) (v : Int32) (u : Int32) (t : Int32) (s : Int32) (q : Int32) (j15_ : Nat) (z13_ : Int32) (j28_ : Nat) (z26_ : Int32) (j33_ : Nat) (z31_ : Int32) (j37_ : Nat) (z35_ : Int32) (w67_ : Int64) (w70_ : Int64) (w73_ : Int64) (j78_ : Nat) (z76_ : Int32) (w81_ : Int64) (z84_ : Int32) (w95_ : Int64) (w98_ : Int64) (w101_ : Int64) (j106_ : Nat) (z104_ : Int32) (w109_ : Int64) (z112_ : Int32) (v6_127 : Int32) (z137_ : Int32) (z139_ : Int32) (z141_ : Int32) (j145_ : Nat) (z143_ : Int32) (h4_ : 0 ≤ v.toInt ∧ v.toInt ≤ 3) (h10_ : 0 ≤ t.toInt ∧ t.toInt ≤ 3) (h16_ : (j15_ : Int) = v.toInt) (e14_ : z13_ = Mz.1 (66, 0, 0) j15_) (h17_ : ¬ z13_.toInt = 0) (h29_ : (j28_ : Int) = t.toInt) (e27_ : z26_ = Mz.1 (66, 0, 0) j28_) (h30_ : ¬ z26_.toInt = 0) (h34_ : (j33_ : Int) = v.toInt) (e32_ : z31_ = Mz.1 (66, 0, 0) j33_) (h38_ : (j37_ : Int) = t.toInt) (e36_ : z35_ = Mz.1 (66, 0, 0) j37_) (h39_ : z31_.toInt = z35_.toInt) (h40_ : 0 ≤ q.toInt) (h49_ : 0 ≤ u.toInt) (h58_ : 0 ≤ s.toInt) (h69_ : w67_.toInt = u.toInt) (h72_ : w70_.toInt = q.toInt) (h75_ : w73_.toInt = w67_.toInt + w70_.toInt) (h79_ : (j78_ : Int) = v.toInt) (e77_ : z76_ = Mz.1 (67, 0, 0) j78_) (h80_ : 0 ≤ z76_.toInt ∧ z76_.toInt ≤ 24) (h83_ : w81_.toInt = z76_.toInt) (h85_ : (z84_.toInt = -1 ∧ w73_.toInt < w81_.toInt) ∨ (z84_.toInt = 0 ∧ w73_.toInt = w81_.toInt) ∨ (z84_.toInt = 1 ∧ w81_.toInt < w73_.toInt)) (h86_ : z84_.toInt ≤ 0) (h97_ : w95_.toInt = s.toInt) (h100_ : w98_.toInt = q.toInt) (h103_ : w101_.toInt = w95_.toInt + w98_.toInt) (h107_ : (j106_ : Int) = t.toInt) (e105_ : z104_ = Mz.1 (67, 0, 0) j106_) (h108_ : 0 ≤ z104_.toInt ∧ z104_.toInt ≤ 24) (h111_ : w109_.toInt = z104_.toInt) (h113_ : (z112_.toInt = -1 ∧ w101_.toInt < w109_.toInt) ∨ (z112_.toInt = 0 ∧ w101_.toInt = w109_.toInt) ∨ (z112_.toInt = 1 ∧ w109_.toInt < w101_.toInt)) (h114_ : z112_.toInt ≤ 0) (hv0_127 : 0 ≤ v6_127.toInt) (h116_ : v6_127.toInt < q.toInt) (h138_ : z137_.toInt = 24 * v.toInt) (h140_ : z139_.toInt = z137_.toInt + u.toInt) (h142_ : z141_.toInt = z139_.toInt + v6_127.toInt) (h146_ : (j145_ : Int) = z141_.toInt) (e144_ : z143_ = M_127.1 (68, 0, 0) j145_) : 0 ≤ v6_127.toInt ∧ v6_127.toInt < ((24 : Nat) : Int) := by have r_v := rngI v; have r_u := rngI u; have r_t := rngI t; have r_s := rngI s; have r_q := rngI q; have r_z13_ := rngI z13_; have r_z26_ := rngI z26_; have r_z31_ := rngI z31_; have r_z35_ := rngI z35_; have r_z76_ := rngI z76_; have r_z84_ := rngI z84_; have r_z104_ := rngI z104_; have r_z112_ := rngI z112_; have r_v6_127 := rngI v6_127; have r_z137_ := rngI z137_; have r_z139_ := rngI z139_; have r_z141_ := rngI z141_; have r_z143_ := rngI z143_; subst e14_; subst e27_; subst e32_; subst e36_; subst e77_; subst e105_; subst e144_; omega
set_option maxHeartbeats 4000000 in
set_option maxRecDepth 100000 in
theorem c_X12_move (l : Launch) (G : va_G) (cy : Nat → ClassId) (ad : rf → Nat) (d : Nat) (v : Int32) (u : Int32) (t : Int32) (s : Int32) (q : Int32) (Mz : mM) (hIz : InvD Mz) : WP DD l G cy ad yX12_move cX12_move 7 (some .int) (d + 2) 0 [(0, vR (12, 0, 0)), (1, vI v), (2, vI u), (3, vI t), (4, vI s), (5, vI q)] [] Mz (fun r M' => InvD M' ∧ FR (S_c_X12_move) Mz M' ∧ (True) ∧ SP_X12_move v u t s q Mz r M') := by
  have hFz : FR (S_c_X12_move) Mz Mz := FR.self
  refine w_iload_n dX12_move_0 rfl 1 rfl ?_
  refine w_callS (as := [vI v]) (rest := []) (c_X12_isSheet l G cy ad d v Mz hIz) kS_X12_isSheet pnn_17 (Nat.le_of_ble_eq_true rfl) m_1497 rfl rfl (by decide) (Nat.le_of_ble_eq_true rfl) dX12_move_1 (fun r1_ M2_ q3_ => ?_)
  obtain ⟨rfl, h4_, hs5_⟩ := q3_
  rcases h4_ with ⟨rfl, h4_⟩ | ⟨rfl, h4_⟩
  · refine w_if_eq (tgt := 14) dX12_move_4 (by decide) li_1 (fun h9 => (absurd h9 (by decide))) (fun h6_ => ?_)
    refine w_iload_n dX12_move_7 rfl 3 rfl ?_
    refine w_callS (as := [vI t]) (rest := []) (c_X12_isSheet l G cy ad d t Mz hIz) kS_X12_isSheet pnn_17 (Nat.le_of_ble_eq_true rfl) m_1497 rfl rfl (by decide) (Nat.le_of_ble_eq_true rfl) dX12_move_8 (fun r7_ M8_ q9_ => ?_)
    obtain ⟨rfl, h10_, hs11_⟩ := q9_
    rcases h10_ with ⟨rfl, h10_⟩ | ⟨rfl, h10_⟩
    · refine w_if_ne (tgt := 21) dX12_move_11 (by decide) li_1 (fun h12_ => ?_) (fun h9 => (absurd h9 (by decide)))
      refine w_aload_n dX12_move_21 rfl 0 rfl ?_
      refine w_getR (c' := (66, 0, 0)) fl_RX12_72 rfl rfl ic_12 dX12_move_22 rfl ?_
      refine w_iload_n dX12_move_25 rfl 1 rfl ?_
      refine w_iald rfl rfl ic_66 (rfl : v.toInt = v.toInt) (lf_c_X11_lays_0 v h4_ ) dX12_move_26 (fun j15_ h16_ z13_ e14_ => ?_)
      refine w_if_eq (tgt := 39) dX12_move_27 (by decide) (rfl : z13_.toInt = z13_.toInt) (fun h17_ => ?_) (fun h17_ => ?_)
      · refine w_aload_n dX12_move_39 rfl 0 rfl ?_
        refine w_ldc (v := (-1000002)) m_1500 dX12_move_40 ?_
        refine w_callV (as := [vI (-1000002)]) (rest := []) (c_X12_finding l G cy ad (d + 1) (-1000002) Mz hIz (by first | decide | (unfold vF; omega) | (unfold vRw; omega))) kV_X12_finding pnn_17 (Nat.le_of_ble_eq_true rfl) m_1434 rfl rfl rfl ic_12 rfl rfl (by decide) (Nat.le_of_ble_eq_true rfl) dX12_move_42 (fun r18_ M19_ q20_ => ?_)
        obtain ⟨hI22_, hF23_, h21_, hs25_⟩ := q20_
        have hF24_ := hFz.tr hF23_ (fun c k => (fun h => h.elim (fun h => (Or.inl ⟨h.1, h.2⟩)) (fun h => h.elim)))
        simp only [li_m1000002] at h21_
        exact w_iret rfl dX12_move_45 ⟨hI22_, hF24_, trivial, (Or.inl ⟨hs5_, h4_, (Or.inl ⟨hs11_, h10_, j15_, h16_, z13_, e14_, (Or.inl ⟨h17_, M19_, hI22_, hF23_, r18_, hs25_, h21_, rfl, rfl⟩)⟩)⟩)⟩
      · refine w_aload_n dX12_move_30 rfl 0 rfl ?_
        refine w_getR (c' := (66, 0, 0)) fl_RX12_72 rfl rfl ic_12 dX12_move_31 rfl ?_
        refine w_iload_n dX12_move_34 rfl 3 rfl ?_
        refine w_iald rfl rfl ic_66 (rfl : t.toInt = t.toInt) (lf_c_X11_lays_0 t h10_ ) dX12_move_35 (fun j28_ h29_ z26_ e27_ => ?_)
        refine w_if_ne (tgt := 46) dX12_move_36 (by decide) (rfl : z26_.toInt = z26_.toInt) (fun h30_ => ?_) (fun h30_ => ?_)
        · refine w_aload_n dX12_move_46 rfl 0 rfl ?_
          refine w_getR (c' := (66, 0, 0)) fl_RX12_72 rfl rfl ic_12 dX12_move_47 rfl ?_
          refine w_iload_n dX12_move_50 rfl 1 rfl ?_
          refine w_iald rfl rfl ic_66 (rfl : v.toInt = v.toInt) (lf_c_X11_lays_0 v h4_ ) dX12_move_51 (fun j33_ h34_ z31_ e32_ => ?_)
          refine w_aload_n dX12_move_52 rfl 0 rfl ?_
          refine w_getR (c' := (66, 0, 0)) fl_RX12_72 rfl rfl ic_12 dX12_move_53 rfl ?_
          refine w_iload_n dX12_move_56 rfl 3 rfl ?_
          refine w_iald rfl rfl ic_66 (rfl : t.toInt = t.toInt) (lf_c_X11_lays_0 t h10_ ) dX12_move_57 (fun j37_ h38_ z35_ e36_ => ?_)
          refine w_icmp_eq (tgt := 68) dX12_move_58 (by decide) (rfl : z31_.toInt = z31_.toInt) (rfl : z35_.toInt = z35_.toInt) (fun h39_ => ?_) (fun h39_ => ?_)
          · refine w_iload dX12_move_68 5 rfl ?_
            refine w_if_lt (tgt := 117) dX12_move_70 (by decide) (rfl : q.toInt = q.toInt) (fun h40_ => ?_) (fun h40_ => ?_)
            · refine w_aload_n dX12_move_117 rfl 0 rfl ?_
              refine w_ldc (v := (-1000001)) m_1433 dX12_move_118 ?_
              refine w_callV (as := [vI (-1000001)]) (rest := []) (c_X12_finding l G cy ad (d + 1) (-1000001) Mz hIz (by first | decide | (unfold vF; omega) | (unfold vRw; omega))) kV_X12_finding pnn_17 (Nat.le_of_ble_eq_true rfl) m_1434 rfl rfl rfl ic_12 rfl rfl (by decide) (Nat.le_of_ble_eq_true rfl) dX12_move_120 (fun r41_ M42_ q43_ => ?_)
              obtain ⟨hI45_, hF46_, h44_, hs48_⟩ := q43_
              have hF47_ := hFz.tr hF46_ (fun c k => (fun h => h.elim (fun h => (Or.inl ⟨h.1, h.2⟩)) (fun h => h.elim)))
              simp only [li_m1000001] at h44_
              exact w_iret rfl dX12_move_123 ⟨hI45_, hF47_, trivial, (Or.inl ⟨hs5_, h4_, (Or.inl ⟨hs11_, h10_, j15_, h16_, z13_, e14_, (Or.inr ⟨h17_, j28_, h29_, z26_, e27_, (Or.inl ⟨h30_, j33_, h34_, z31_, e32_, j37_, h38_, z35_, e36_, (Or.inl ⟨h39_, (Or.inl ⟨h40_, M42_, hI45_, hF46_, r41_, hs48_, h44_, rfl, rfl⟩)⟩)⟩)⟩)⟩)⟩)⟩
            · refine w_iload_n dX12_move_73 rfl 2 rfl ?_
              refine w_if_lt (tgt := 117) dX12_move_74 (by decide) (rfl : u.toInt = u.toInt) (fun h49_ => ?_) (fun h49_ => ?_)
              · refine w_aload_n dX12_move_117 rfl 0 rfl ?_
                refine w_ldc (v := (-1000001)) m_1433 dX12_move_118 ?_
                refine w_callV (as := [vI (-1000001)]) (rest := []) (c_X12_finding l G cy ad (d + 1) (-1000001) Mz hIz (by first | decide | (unfold vF; omega) | (unfold vRw; omega))) kV_X12_finding pnn_17 (Nat.le_of_ble_eq_true rfl) m_1434 rfl rfl rfl ic_12 rfl rfl (by decide) (Nat.le_of_ble_eq_true rfl) dX12_move_120 (fun r50_ M51_ q52_ => ?_)
                obtain ⟨hI54_, hF55_, h53_, hs57_⟩ := q52_
                have hF56_ := hFz.tr hF55_ (fun c k => (fun h => h.elim (fun h => (Or.inl ⟨h.1, h.2⟩)) (fun h => h.elim)))
                simp only [li_m1000001] at h53_
                exact w_iret rfl dX12_move_123 ⟨hI54_, hF56_, trivial, (Or.inl ⟨hs5_, h4_, (Or.inl ⟨hs11_, h10_, j15_, h16_, z13_, e14_, (Or.inr ⟨h17_, j28_, h29_, z26_, e27_, (Or.inl ⟨h30_, j33_, h34_, z31_, e32_, j37_, h38_, z35_, e36_, (Or.inl ⟨h39_, (Or.inr ⟨h40_, (Or.inl ⟨h49_, M51_, hI54_, hF55_, r50_, hs57_, h53_, rfl, rfl⟩)⟩)⟩)⟩)⟩)⟩)⟩)⟩
              · refine w_iload dX12_move_77 4 rfl ?_
                refine w_if_lt (tgt := 117) dX12_move_79 (by decide) (rfl : s.toInt = s.toInt) (fun h58_ => ?_) (fun h58_ => ?_)
                · refine w_aload_n dX12_move_117 rfl 0 rfl ?_
                  refine w_ldc (v := (-1000001)) m_1433 dX12_move_118 ?_
                  refine w_callV (as := [vI (-1000001)]) (rest := []) (c_X12_finding l G cy ad (d + 1) (-1000001) Mz hIz (by first | decide | (unfold vF; omega) | (unfold vRw; omega))) kV_X12_finding pnn_17 (Nat.le_of_ble_eq_true rfl) m_1434 rfl rfl rfl ic_12 rfl rfl (by decide) (Nat.le_of_ble_eq_true rfl) dX12_move_120 (fun r59_ M60_ q61_ => ?_)
                  obtain ⟨hI63_, hF64_, h62_, hs66_⟩ := q61_
                  have hF65_ := hFz.tr hF64_ (fun c k => (fun h => h.elim (fun h => (Or.inl ⟨h.1, h.2⟩)) (fun h => h.elim)))
                  simp only [li_m1000001] at h62_
                  exact w_iret rfl dX12_move_123 ⟨hI63_, hF65_, trivial, (Or.inl ⟨hs5_, h4_, (Or.inl ⟨hs11_, h10_, j15_, h16_, z13_, e14_, (Or.inr ⟨h17_, j28_, h29_, z26_, e27_, (Or.inl ⟨h30_, j33_, h34_, z31_, e32_, j37_, h38_, z35_, e36_, (Or.inl ⟨h39_, (Or.inr ⟨h40_, (Or.inr ⟨h49_, (Or.inl ⟨h58_, M60_, hI63_, hF64_, r59_, hs66_, h62_, rfl, rfl⟩)⟩)⟩)⟩)⟩)⟩)⟩)⟩)⟩
                · refine w_iload_n dX12_move_82 rfl 2 rfl ?_
                  refine w_i2l dX12_move_83 (fun w67_ h68_ => ?_)
                  have h69_ : w67_.toInt = u.toInt := by rw [h68_]; exact Int32.toInt_toInt64 _
                  refine w_iload dX12_move_84 5 rfl ?_
                  refine w_i2l dX12_move_86 (fun w70_ h71_ => ?_)
                  have h72_ : w70_.toInt = q.toInt := by rw [h71_]; exact Int32.toInt_toInt64 _
                  refine w_ladd dX12_move_87 (fun w73_ h74_ => ?_)
                  have h75_ : w73_.toInt = w67_.toInt + w70_.toInt := by rw [h74_]; exact addL (lf_c_X12_move_4 u q w67_ w70_ h40_ h49_ h69_ h72_ )
                  refine w_aload_n dX12_move_88 rfl 0 rfl ?_
                  refine w_getR (c' := (67, 0, 0)) fl_RX12_75 rfl rfl ic_12 dX12_move_89 rfl ?_
                  refine w_iload_n dX12_move_92 rfl 1 rfl ?_
                  refine w_iald rfl rfl ic_67 (rfl : v.toInt = v.toInt) (lf_c_X11_lays_0 v h4_ ) dX12_move_93 (fun j78_ h79_ z76_ e77_ => ?_)
                  have h80_ : 0 ≤ z76_.toInt ∧ z76_.toInt ≤ 24 := pn_67 hIz e77_
                  refine w_i2l dX12_move_94 (fun w81_ h82_ => ?_)
                  have h83_ : w81_.toInt = z76_.toInt := by rw [h82_]; exact Int32.toInt_toInt64 _
                  refine w_lcmp dX12_move_95 (fun z84_ h85_ => ?_)
                  refine w_if_gt (tgt := 117) dX12_move_96 (by decide) (rfl : z84_.toInt = z84_.toInt) (fun h86_ => ?_) (fun h86_ => ?_)
                  · refine w_aload_n dX12_move_117 rfl 0 rfl ?_
                    refine w_ldc (v := (-1000001)) m_1433 dX12_move_118 ?_
                    refine w_callV (as := [vI (-1000001)]) (rest := []) (c_X12_finding l G cy ad (d + 1) (-1000001) Mz hIz (by first | decide | (unfold vF; omega) | (unfold vRw; omega))) kV_X12_finding pnn_17 (Nat.le_of_ble_eq_true rfl) m_1434 rfl rfl rfl ic_12 rfl rfl (by decide) (Nat.le_of_ble_eq_true rfl) dX12_move_120 (fun r87_ M88_ q89_ => ?_)
                    obtain ⟨hI91_, hF92_, h90_, hs94_⟩ := q89_
                    have hF93_ := hFz.tr hF92_ (fun c k => (fun h => h.elim (fun h => (Or.inl ⟨h.1, h.2⟩)) (fun h => h.elim)))
                    simp only [li_m1000001] at h90_
                    exact w_iret rfl dX12_move_123 ⟨hI91_, hF93_, trivial, (Or.inl ⟨hs5_, h4_, (Or.inl ⟨hs11_, h10_, j15_, h16_, z13_, e14_, (Or.inr ⟨h17_, j28_, h29_, z26_, e27_, (Or.inl ⟨h30_, j33_, h34_, z31_, e32_, j37_, h38_, z35_, e36_, (Or.inl ⟨h39_, (Or.inr ⟨h40_, (Or.inr ⟨h49_, (Or.inr ⟨h58_, w67_, h68_, h69_, w70_, h71_, h72_, w73_, h74_, h75_, j78_, h79_, z76_, e77_, h80_, w81_, h82_, h83_, z84_, h85_, (Or.inl ⟨h86_, M88_, hI91_, hF92_, r87_, hs94_, h90_, rfl, rfl⟩)⟩)⟩)⟩)⟩)⟩)⟩)⟩)⟩)⟩
                  · refine w_iload dX12_move_99 4 rfl ?_
                    refine w_i2l dX12_move_101 (fun w95_ h96_ => ?_)
                    have h97_ : w95_.toInt = s.toInt := by rw [h96_]; exact Int32.toInt_toInt64 _
                    refine w_iload dX12_move_102 5 rfl ?_
                    refine w_i2l dX12_move_104 (fun w98_ h99_ => ?_)
                    have h100_ : w98_.toInt = q.toInt := by rw [h99_]; exact Int32.toInt_toInt64 _
                    refine w_ladd dX12_move_105 (fun w101_ h102_ => ?_)
                    have h103_ : w101_.toInt = w95_.toInt + w98_.toInt := by rw [h102_]; exact addL (lf_c_X12_move_6 Mz v u t s q j15_ z13_ j28_ z26_ j33_ z31_ j37_ z35_ w67_ w70_ w73_ j78_ z76_ w81_ z84_ w95_ w98_ h4_ h10_ h16_ e14_ h17_ h29_ e27_ h30_ h34_ e32_ h38_ e36_ h39_ h40_ h49_ h58_ h69_ h72_ h75_ h79_ e77_ h80_ h83_ h85_ h86_ h97_ h100_ )
                    refine w_aload_n dX12_move_106 rfl 0 rfl ?_
                    refine w_getR (c' := (67, 0, 0)) fl_RX12_75 rfl rfl ic_12 dX12_move_107 rfl ?_
                    refine w_iload_n dX12_move_110 rfl 3 rfl ?_
                    refine w_iald rfl rfl ic_67 (rfl : t.toInt = t.toInt) (lf_c_X11_lays_0 t h10_ ) dX12_move_111 (fun j106_ h107_ z104_ e105_ => ?_)
                    have h108_ : 0 ≤ z104_.toInt ∧ z104_.toInt ≤ 24 := pn_67 hIz e105_
                    refine w_i2l dX12_move_112 (fun w109_ h110_ => ?_)
                    have h111_ : w109_.toInt = z104_.toInt := by rw [h110_]; exact Int32.toInt_toInt64 _
                    refine w_lcmp dX12_move_113 (fun z112_ h113_ => ?_)
                    refine w_if_le (tgt := 124) dX12_move_114 (by decide) (rfl : z112_.toInt = z112_.toInt) (fun h114_ => ?_) (fun h114_ => ?_)
                    · refine w_iconst (v := 0) dX12_move_124 (by decide) ?_
                      refine w_istore (ls' := [(6, vI 0), (0, vR (12, 0, 0)), (1, vI v), (2, vI u), (3, vI t), (4, vI s), (5, vI q)]) dX12_move_125 (by decide) rfl ?_
                      have lp115_ : ∀ (nn_127 : Nat) (M_127 : mM) (hI_127 : InvD M_127) (hF_127 : FR (S_c_X12_move) Mz M_127) (v6_127 : Int32) (hv0_127 : 0 ≤ v6_127.toInt) (hL_127 : RCH (fun x_ y_ => ST_X12_move_127 v u q Mz x_.1 x_.2 y_.1 y_.2) ((0 : Int32), Mz) (v6_127, M_127)), (2147483648 - v6_127.toInt).toNat < nn_127 → WP DD l G cy ad yX12_move cX12_move 7 (some .int) (d + 2) 127 [(6, vI v6_127), (0, vR (12, 0, 0)), (1, vI v), (2, vI u), (3, vI t), (4, vI s), (5, vI q)] [] M_127 (fun r M' => InvD M' ∧ FR (S_c_X12_move) Mz M' ∧ (True) ∧ SP_X12_move v u t s q Mz r M') := by
                        intro nn_127
                        induction nn_127 with
                        | zero => intro M_127 hI_127 hF_127 v6_127 hv0_127 hL_127 hm_127; exact absurd hm_127 (Nat.not_lt_zero _)
                        | succ nn_127 ih_127 =>
                          intro M_127 hI_127 hF_127 v6_127 hv0_127 hL_127 hm_127
                          refine w_iload dX12_move_127 0 rfl ?_
                          refine w_iload dX12_move_129 6 rfl ?_
                          refine w_icmp_ge (tgt := 161) dX12_move_131 (by decide) (rfl : v6_127.toInt = v6_127.toInt) (rfl : q.toInt = q.toInt) (fun h116_ => ?_) (fun h116_ => ?_)
                          · refine w_iconst (v := 0) dX12_move_161 (by decide) ?_
                            refine w_istore (ls' := [(6, vI 0), (0, vR (12, 0, 0)), (1, vI v), (2, vI u), (3, vI t), (4, vI s), (5, vI q)]) dX12_move_162 (by decide) rfl ?_
                            have lp117_ : ∀ (nn_164 : Nat) (M_164 : mM) (hI_164 : InvD M_164) (hF_164 : FR (S_c_X12_move) Mz M_164) (v6_164 : Int32) (hv0_164 : 0 ≤ v6_164.toInt) (hL_164 : RCH (fun x_ y_ => ST_X12_move_164 t s q Mz x_.1 x_.2 y_.1 y_.2) ((0 : Int32), M_127) (v6_164, M_164)), (2147483648 - v6_164.toInt).toNat < nn_164 → WP DD l G cy ad yX12_move cX12_move 7 (some .int) (d + 2) 164 [(6, vI v6_164), (0, vR (12, 0, 0)), (1, vI v), (2, vI u), (3, vI t), (4, vI s), (5, vI q)] [] M_164 (fun r M' => InvD M' ∧ FR (S_c_X12_move) Mz M' ∧ (True) ∧ SP_X12_move v u t s q Mz r M') := by
                              intro nn_164
                              induction nn_164 with
                              | zero => intro M_164 hI_164 hF_164 v6_164 hv0_164 hL_164 hm_164; exact absurd hm_164 (Nat.not_lt_zero _)
                              | succ nn_164 ih_164 =>
                                intro M_164 hI_164 hF_164 v6_164 hv0_164 hL_164 hm_164
                                refine w_iload dX12_move_164 0 rfl ?_
                                refine w_iload dX12_move_166 6 rfl ?_
                                refine w_icmp_ge (tgt := 199) dX12_move_168 (by decide) (rfl : v6_164.toInt = v6_164.toInt) (rfl : q.toInt = q.toInt) (fun h118_ => ?_) (fun h118_ => ?_)
                                · refine w_iload dX12_move_199 6 rfl ?_
                                  exact w_iret rfl dX12_move_201 ⟨hI_164, hF_164, trivial, (Or.inl ⟨hs5_, h4_, (Or.inl ⟨hs11_, h10_, j15_, h16_, z13_, e14_, (Or.inr ⟨h17_, j28_, h29_, z26_, e27_, (Or.inl ⟨h30_, j33_, h34_, z31_, e32_, j37_, h38_, z35_, e36_, (Or.inl ⟨h39_, (Or.inr ⟨h40_, (Or.inr ⟨h49_, (Or.inr ⟨h58_, w67_, h68_, h69_, w70_, h71_, h72_, w73_, h74_, h75_, j78_, h79_, z76_, e77_, h80_, w81_, h82_, h83_, z84_, h85_, (Or.inr ⟨h86_, w95_, h96_, h97_, w98_, h99_, h100_, w101_, h102_, h103_, j106_, h107_, z104_, e105_, h108_, w109_, h110_, h111_, z112_, h113_, (Or.inl ⟨h114_, v6_127, hv0_127, M_127, hL_127, hI_127, hF_127, h116_, v6_164, hv0_164, M_164, hL_164, hI_164, hF_164, h118_, rfl, rfl⟩)⟩)⟩)⟩)⟩)⟩)⟩)⟩)⟩)⟩)⟩
                                · refine w_aload_n dX12_move_171 rfl 1 rfl ?_
                                  refine w_getR (c' := (68, 0, 0)) fl_RX12_78 rfl rfl ic_12 dX12_move_172 rfl ?_
                                  refine w_bipush (v := 24) dX12_move_175 (by decide) ?_
                                  refine w_iload_n dX12_move_177 rfl 4 rfl ?_
                                  refine w_imulB dX12_move_178 li_24 (rfl : t.toInt = t.toInt) (lf_c_X12_lays_7 t h10_ ) (fun z119_ h120_ => ?_)
                                  refine w_iload dX12_move_179 5 rfl ?_
                                  refine w_iaddB dX12_move_181 (rfl : z119_.toInt = z119_.toInt) (rfl : s.toInt = s.toInt) (lf_c_X12_move_9 Mz v u t s q j15_ z13_ j28_ z26_ j33_ z31_ j37_ z35_ w67_ w70_ w73_ j78_ z76_ w81_ z84_ w95_ w98_ w101_ j106_ z104_ w109_ z112_ v6_127 v6_164 z119_ h4_ h10_ h16_ e14_ h17_ h29_ e27_ h30_ h34_ e32_ h38_ e36_ h39_ h40_ h49_ h58_ h69_ h72_ h75_ h79_ e77_ h80_ h83_ h85_ h86_ h97_ h100_ h103_ h107_ e105_ h108_ h111_ h113_ h114_ hv0_127 h116_ hv0_164 h118_ h120_ ) (fun z121_ h122_ => ?_)
                                  refine w_iload dX12_move_182 0 rfl ?_
                                  refine w_iaddB dX12_move_184 (rfl : z121_.toInt = z121_.toInt) (rfl : v6_164.toInt = v6_164.toInt) (lf_c_X12_move_10 Mz v u t s q j15_ z13_ j28_ z26_ j33_ z31_ j37_ z35_ w67_ w70_ w73_ j78_ z76_ w81_ z84_ w95_ w98_ w101_ j106_ z104_ w109_ z112_ v6_127 v6_164 z119_ z121_ h4_ h10_ h16_ e14_ h17_ h29_ e27_ h30_ h34_ e32_ h38_ e36_ h39_ h40_ h49_ h58_ h69_ h72_ h75_ h79_ e77_ h80_ h83_ h85_ h86_ h97_ h100_ h103_ h107_ e105_ h108_ h111_ h113_ h114_ hv0_127 h116_ hv0_164 h118_ h120_ h122_ ) (fun z123_ h124_ => ?_)
                                  refine w_aload_n dX12_move_185 rfl 1 rfl ?_
                                  refine w_getR (c' := (69, 0, 0)) fl_RX12_81 rfl rfl ic_12 dX12_move_186 rfl ?_
                                  refine w_iload dX12_move_189 0 rfl ?_
                                  refine w_iald rfl rfl ic_69 (rfl : v6_164.toInt = v6_164.toInt) (lf_c_X12_move_11 Mz v u t s q j15_ z13_ j28_ z26_ j33_ z31_ j37_ z35_ w67_ w70_ w73_ j78_ z76_ w81_ z84_ w95_ w98_ w101_ j106_ z104_ w109_ z112_ v6_127 v6_164 z119_ z121_ z123_ h4_ h10_ h16_ e14_ h17_ h29_ e27_ h30_ h34_ e32_ h38_ e36_ h39_ h40_ h49_ h58_ h69_ h72_ h75_ h79_ e77_ h80_ h83_ h85_ h86_ h97_ h100_ h103_ h107_ e105_ h108_ h111_ h113_ h114_ hv0_127 h116_ hv0_164 h118_ h120_ h122_ h124_ ) dX12_move_191 (fun j127_ h128_ z125_ e126_ => ?_)
                                  refine w_iast DD_nd rfl rfl ic_68 (rfl : z123_.toInt = z123_.toInt) (lf_c_X12_move_12 M_164 Mz v u t s q j15_ z13_ j28_ z26_ j33_ z31_ j37_ z35_ w67_ w70_ w73_ j78_ z76_ w81_ z84_ w95_ w98_ w101_ j106_ z104_ w109_ z112_ v6_127 v6_164 z119_ z121_ z123_ j127_ z125_ h4_ h10_ h16_ e14_ h17_ h29_ e27_ h30_ h34_ e32_ h38_ e36_ h39_ h40_ h49_ h58_ h69_ h72_ h75_ h79_ e77_ h80_ h83_ h85_ h86_ h97_ h100_ h103_ h107_ e105_ h108_ h111_ h113_ h114_ hv0_127 h116_ hv0_164 h118_ h120_ h122_ h124_ h128_ e126_ ) dX12_move_192 (fun j131_ h132_ M129_ hM130_ => ?_)
                                  have hI133_ := hI_164.put hM130_ ⟨trivial, Or.inr (by decide)⟩
                                  have hF134_ := hF_164.put hM130_ (Or.inr (Or.inl ⟨rfl, rfl⟩))
                                  refine w_iincB (j := 0) (f := fun z135_ => [(6, vI z135_), (0, vR (12, 0, 0)), (1, vI v), (2, vI u), (3, vI t), (4, vI s), (5, vI q)]) dX12_move_193 rfl (by decide) (fun _ => rfl) (rfl : v6_164.toInt = v6_164.toInt) li_1 (lf_c_X12_move_13 q v6_164 hv0_164 h118_ ) (fun z135_ h136_ => ?_)
                                  refine w_goto (tgt := 164) dX12_move_196 (by decide) ?_
                                  refine w_loc (ls' := [(6, vI z135_), (0, vR (12, 0, 0)), (1, vI v), (2, vI u), (3, vI t), (4, vI s), (5, vI q)]) [0, 1, 2, 3, 4, 5, 6] rfl ?_
                                  exact ih_164 M129_ hI133_ hF134_ z135_ (lf_c_X5_takeFrom_3 v6_164 z135_ hv0_164 h136_ ) (RCH.tail hL_164 ⟨hv0_164, hI_164, hF_164, h118_, z119_, h120_, z121_, h122_, z123_, h124_, j127_, h128_, z125_, e126_, j131_, h132_, M129_, hM130_, z135_, h136_, rfl, rfl⟩) (Nat.lt_of_lt_of_le (lf_c_X5_takeFrom_4 v6_164 z135_ h136_ ) (Nat.le_of_lt_succ hm_164))
                            exact lp117_ _ M_127 hI_127 hF_127 0 (lf_c_X5_takeFrom_5 ) RCH.refl (Nat.lt_succ_self _)
                          · refine w_aload_n dX12_move_134 rfl 1 rfl ?_
                            refine w_getR (c' := (69, 0, 0)) fl_RX12_81 rfl rfl ic_12 dX12_move_135 rfl ?_
                            refine w_iload dX12_move_138 0 rfl ?_
                            refine w_aload_n dX12_move_140 rfl 1 rfl ?_
                            refine w_getR (c' := (68, 0, 0)) fl_RX12_78 rfl rfl ic_12 dX12_move_141 rfl ?_
                            refine w_bipush (v := 24) dX12_move_144 (by decide) ?_
                            refine w_iload_n dX12_move_146 rfl 2 rfl ?_
                            refine w_imulB dX12_move_147 li_24 (rfl : v.toInt = v.toInt) (lf_c_X12_lays_7 v h4_ ) (fun z137_ h138_ => ?_)
                            refine w_iload_n dX12_move_148 rfl 3 rfl ?_
                            refine w_iaddB dX12_move_149 (rfl : z137_.toInt = z137_.toInt) (rfl : u.toInt = u.toInt) (lf_c_X12_move_18 Mz v u t s q j15_ z13_ j28_ z26_ j33_ z31_ j37_ z35_ w67_ w70_ w73_ j78_ z76_ w81_ z84_ w95_ w98_ w101_ j106_ z104_ w109_ z112_ v6_127 z137_ h4_ h10_ h16_ e14_ h17_ h29_ e27_ h30_ h34_ e32_ h38_ e36_ h39_ h40_ h49_ h58_ h69_ h72_ h75_ h79_ e77_ h80_ h83_ h85_ h86_ h97_ h100_ h103_ h107_ e105_ h108_ h111_ h113_ h114_ hv0_127 h116_ h138_ ) (fun z139_ h140_ => ?_)
                            refine w_iload dX12_move_150 0 rfl ?_
                            refine w_iaddB dX12_move_152 (rfl : z139_.toInt = z139_.toInt) (rfl : v6_127.toInt = v6_127.toInt) (lf_c_X12_move_19 Mz v u t s q j15_ z13_ j28_ z26_ j33_ z31_ j37_ z35_ w67_ w70_ w73_ j78_ z76_ w81_ z84_ w95_ w98_ w101_ j106_ z104_ w109_ z112_ v6_127 z137_ z139_ h4_ h10_ h16_ e14_ h17_ h29_ e27_ h30_ h34_ e32_ h38_ e36_ h39_ h40_ h49_ h58_ h69_ h72_ h75_ h79_ e77_ h80_ h83_ h85_ h86_ h97_ h100_ h103_ h107_ e105_ h108_ h111_ h113_ h114_ hv0_127 h116_ h138_ h140_ ) (fun z141_ h142_ => ?_)
                            refine w_iald rfl rfl ic_68 (rfl : z141_.toInt = z141_.toInt) (lf_c_X12_move_20 Mz v u t s q j15_ z13_ j28_ z26_ j33_ z31_ j37_ z35_ w67_ w70_ w73_ j78_ z76_ w81_ z84_ w95_ w98_ w101_ j106_ z104_ w109_ z112_ v6_127 z137_ z139_ z141_ h4_ h10_ h16_ e14_ h17_ h29_ e27_ h30_ h34_ e32_ h38_ e36_ h39_ h40_ h49_ h58_ h69_ h72_ h75_ h79_ e77_ h80_ h83_ h85_ h86_ h97_ h100_ h103_ h107_ e105_ h108_ h111_ h113_ h114_ hv0_127 h116_ h138_ h140_ h142_ ) dX12_move_153 (fun j145_ h146_ z143_ e144_ => ?_)
                            refine w_iast DD_nd rfl rfl ic_69 (rfl : v6_127.toInt = v6_127.toInt) (lf_c_X12_move_21 M_127 Mz v u t s q j15_ z13_ j28_ z26_ j33_ z31_ j37_ z35_ w67_ w70_ w73_ j78_ z76_ w81_ z84_ w95_ w98_ w101_ j106_ z104_ w109_ z112_ v6_127 z137_ z139_ z141_ j145_ z143_ h4_ h10_ h16_ e14_ h17_ h29_ e27_ h30_ h34_ e32_ h38_ e36_ h39_ h40_ h49_ h58_ h69_ h72_ h75_ h79_ e77_ h80_ h83_ h85_ h86_ h97_ h100_ h103_ h107_ e105_ h108_ h111_ h113_ h114_ hv0_127 h116_ h138_ h140_ h142_ h146_ e144_ ) dX12_move_154 (fun j149_ h150_ M147_ hM148_ => ?_)
                            have hI151_ := hI_127.put hM148_ ⟨trivial, Or.inr (by decide)⟩
                            have hF152_ := hF_127.put hM148_ (Or.inr (Or.inr (Or.inl ⟨rfl, rfl⟩)))
                            refine w_iincB (j := 0) (f := fun z153_ => [(6, vI z153_), (0, vR (12, 0, 0)), (1, vI v), (2, vI u), (3, vI t), (4, vI s), (5, vI q)]) dX12_move_155 rfl (by decide) (fun _ => rfl) (rfl : v6_127.toInt = v6_127.toInt) li_1 (lf_c_X12_move_13 q v6_127 hv0_127 h116_ ) (fun z153_ h154_ => ?_)
                            refine w_goto (tgt := 127) dX12_move_158 (by decide) ?_
                            refine w_loc (ls' := [(6, vI z153_), (0, vR (12, 0, 0)), (1, vI v), (2, vI u), (3, vI t), (4, vI s), (5, vI q)]) [0, 1, 2, 3, 4, 5, 6] rfl ?_
                            exact ih_127 M147_ hI151_ hF152_ z153_ (lf_c_X5_takeFrom_3 v6_127 z153_ hv0_127 h154_ ) (RCH.tail hL_127 ⟨hv0_127, hI_127, hF_127, h116_, z137_, h138_, z139_, h140_, z141_, h142_, j145_, h146_, z143_, e144_, j149_, h150_, M147_, hM148_, z153_, h154_, rfl, rfl⟩) (Nat.lt_of_lt_of_le (lf_c_X5_takeFrom_4 v6_127 z153_ h154_ ) (Nat.le_of_lt_succ hm_127))
                      exact lp115_ _ Mz hIz hFz 0 (lf_c_X5_takeFrom_5 ) RCH.refl (Nat.lt_succ_self _)
                    · refine w_aload_n dX12_move_117 rfl 0 rfl ?_
                      refine w_ldc (v := (-1000001)) m_1433 dX12_move_118 ?_
                      refine w_callV (as := [vI (-1000001)]) (rest := []) (c_X12_finding l G cy ad (d + 1) (-1000001) Mz hIz (by first | decide | (unfold vF; omega) | (unfold vRw; omega))) kV_X12_finding pnn_17 (Nat.le_of_ble_eq_true rfl) m_1434 rfl rfl rfl ic_12 rfl rfl (by decide) (Nat.le_of_ble_eq_true rfl) dX12_move_120 (fun r155_ M156_ q157_ => ?_)
                      obtain ⟨hI159_, hF160_, h158_, hs162_⟩ := q157_
                      have hF161_ := hFz.tr hF160_ (fun c k => (fun h => h.elim (fun h => (Or.inl ⟨h.1, h.2⟩)) (fun h => h.elim)))
                      simp only [li_m1000001] at h158_
                      exact w_iret rfl dX12_move_123 ⟨hI159_, hF161_, trivial, (Or.inl ⟨hs5_, h4_, (Or.inl ⟨hs11_, h10_, j15_, h16_, z13_, e14_, (Or.inr ⟨h17_, j28_, h29_, z26_, e27_, (Or.inl ⟨h30_, j33_, h34_, z31_, e32_, j37_, h38_, z35_, e36_, (Or.inl ⟨h39_, (Or.inr ⟨h40_, (Or.inr ⟨h49_, (Or.inr ⟨h58_, w67_, h68_, h69_, w70_, h71_, h72_, w73_, h74_, h75_, j78_, h79_, z76_, e77_, h80_, w81_, h82_, h83_, z84_, h85_, (Or.inr ⟨h86_, w95_, h96_, h97_, w98_, h99_, h100_, w101_, h102_, h103_, j106_, h107_, z104_, e105_, h108_, w109_, h110_, h111_, z112_, h113_, (Or.inr ⟨h114_, M156_, hI159_, hF160_, r155_, hs162_, h158_, rfl, rfl⟩)⟩)⟩)⟩)⟩)⟩)⟩)⟩)⟩)⟩)⟩
          · refine w_aload_n dX12_move_61 rfl 0 rfl ?_
            refine w_ldc (v := (-1000005)) m_1476 dX12_move_62 ?_
            refine w_callV (as := [vI (-1000005)]) (rest := []) (c_X12_finding l G cy ad (d + 1) (-1000005) Mz hIz (by first | decide | (unfold vF; omega) | (unfold vRw; omega))) kV_X12_finding pnn_17 (Nat.le_of_ble_eq_true rfl) m_1434 rfl rfl rfl ic_12 rfl rfl (by decide) (Nat.le_of_ble_eq_true rfl) dX12_move_64 (fun r163_ M164_ q165_ => ?_)
            obtain ⟨hI167_, hF168_, h166_, hs170_⟩ := q165_
            have hF169_ := hFz.tr hF168_ (fun c k => (fun h => h.elim (fun h => (Or.inl ⟨h.1, h.2⟩)) (fun h => h.elim)))
            simp only [li_m1000005] at h166_
            exact w_iret rfl dX12_move_67 ⟨hI167_, hF169_, trivial, (Or.inl ⟨hs5_, h4_, (Or.inl ⟨hs11_, h10_, j15_, h16_, z13_, e14_, (Or.inr ⟨h17_, j28_, h29_, z26_, e27_, (Or.inl ⟨h30_, j33_, h34_, z31_, e32_, j37_, h38_, z35_, e36_, (Or.inr ⟨h39_, M164_, hI167_, hF168_, r163_, hs170_, h166_, rfl, rfl⟩)⟩)⟩)⟩)⟩)⟩
        · refine w_aload_n dX12_move_39 rfl 0 rfl ?_
          refine w_ldc (v := (-1000002)) m_1500 dX12_move_40 ?_
          refine w_callV (as := [vI (-1000002)]) (rest := []) (c_X12_finding l G cy ad (d + 1) (-1000002) Mz hIz (by first | decide | (unfold vF; omega) | (unfold vRw; omega))) kV_X12_finding pnn_17 (Nat.le_of_ble_eq_true rfl) m_1434 rfl rfl rfl ic_12 rfl rfl (by decide) (Nat.le_of_ble_eq_true rfl) dX12_move_42 (fun r171_ M172_ q173_ => ?_)
          obtain ⟨hI175_, hF176_, h174_, hs178_⟩ := q173_
          have hF177_ := hFz.tr hF176_ (fun c k => (fun h => h.elim (fun h => (Or.inl ⟨h.1, h.2⟩)) (fun h => h.elim)))
          simp only [li_m1000002] at h174_
          exact w_iret rfl dX12_move_45 ⟨hI175_, hF177_, trivial, (Or.inl ⟨hs5_, h4_, (Or.inl ⟨hs11_, h10_, j15_, h16_, z13_, e14_, (Or.inr ⟨h17_, j28_, h29_, z26_, e27_, (Or.inr ⟨h30_, M172_, hI175_, hF176_, r171_, hs178_, h174_, rfl, rfl⟩)⟩)⟩)⟩)⟩
    · refine w_if_ne (tgt := 21) dX12_move_11 (by decide) li_0 (fun h9 => (absurd h9 (by decide))) (fun h179_ => ?_)
      refine w_aload_n dX12_move_14 rfl 0 rfl ?_
      refine w_ldc (v := (-1000001)) m_1433 dX12_move_15 ?_
      refine w_callV (as := [vI (-1000001)]) (rest := []) (c_X12_finding l G cy ad (d + 1) (-1000001) Mz hIz (by first | decide | (unfold vF; omega) | (unfold vRw; omega))) kV_X12_finding pnn_17 (Nat.le_of_ble_eq_true rfl) m_1434 rfl rfl rfl ic_12 rfl rfl (by decide) (Nat.le_of_ble_eq_true rfl) dX12_move_17 (fun r180_ M181_ q182_ => ?_)
      obtain ⟨hI184_, hF185_, h183_, hs187_⟩ := q182_
      have hF186_ := hFz.tr hF185_ (fun c k => (fun h => h.elim (fun h => (Or.inl ⟨h.1, h.2⟩)) (fun h => h.elim)))
      simp only [li_m1000001] at h183_
      exact w_iret rfl dX12_move_20 ⟨hI184_, hF186_, trivial, (Or.inl ⟨hs5_, h4_, (Or.inr ⟨hs11_, h10_, M181_, hI184_, hF185_, r180_, hs187_, h183_, rfl, rfl⟩)⟩)⟩
  · refine w_if_eq (tgt := 14) dX12_move_4 (by decide) li_0 (fun h188_ => ?_) (fun h9 => (absurd h9 (by decide)))
    refine w_aload_n dX12_move_14 rfl 0 rfl ?_
    refine w_ldc (v := (-1000001)) m_1433 dX12_move_15 ?_
    refine w_callV (as := [vI (-1000001)]) (rest := []) (c_X12_finding l G cy ad (d + 1) (-1000001) Mz hIz (by first | decide | (unfold vF; omega) | (unfold vRw; omega))) kV_X12_finding pnn_17 (Nat.le_of_ble_eq_true rfl) m_1434 rfl rfl rfl ic_12 rfl rfl (by decide) (Nat.le_of_ble_eq_true rfl) dX12_move_17 (fun r189_ M190_ q191_ => ?_)
    obtain ⟨hI193_, hF194_, h192_, hs196_⟩ := q191_
    have hF195_ := hFz.tr hF194_ (fun c k => (fun h => h.elim (fun h => (Or.inl ⟨h.1, h.2⟩)) (fun h => h.elim)))
    simp only [li_m1000001] at h192_
    exact w_iret rfl dX12_move_20 ⟨hI193_, hF195_, trivial, (Or.inr ⟨hs5_, h4_, M190_, hI193_, hF194_, r189_, hs196_, h192_, rfl, rfl⟩)⟩
def S_c_X12_sheet : rf → Nat → Prop := fun c k => (c.1 = 66 ∧ c.2.1 = 0) ∨ (c.1 = 67 ∧ c.2.1 = 0) ∨ (c.1 = 68 ∧ c.2.1 = 0) ∨ (c.1 = 53 ∧ c.2.1 = 0) ∨ False
def ST_X12_sheet_93 (v : Int32) (Mz : mM) (v4_93 : Int32) (M_93 : mM) (v4_93y : Int32) (M_93y : mM) : Prop := (0 ≤ v4_93.toInt) ∧ (v4_93.toInt ≤ 24) ∧ (InvD M_93) ∧ (FR (S_c_X12_sheet) Mz M_93) ∧ (v4_93.toInt < 24) ∧ ∃ z25_ : Int32, (z25_.toInt = 24 * v.toInt) ∧ ∃ z27_ : Int32, (z27_.toInt = z25_.toInt + v4_93.toInt) ∧ ∃ j31_ : Nat, ((j31_ : Int) = z27_.toInt) ∧ ∃ M29_ : mM, (M29_ = up M_93 (68, 0, 0) j31_ 0) ∧ ∃ z35_ : Int32, (z35_.toInt = v4_93.toInt + 1) ∧ v4_93y = z35_ ∧ M_93y = M29_
def ST_X12_sheet_93b (v : Int32) (Mz : mM) (v4_93 : Int32) (M_93 : mM) (v4_93y : Int32) (M_93y : mM) : Prop := (0 ≤ v4_93.toInt) ∧ (v4_93.toInt ≤ 24) ∧ (InvD M_93) ∧ (FR (S_c_X12_sheet) Mz M_93) ∧ (v4_93.toInt < 24) ∧ ∃ z57_ : Int32, (z57_.toInt = 24 * v.toInt) ∧ ∃ z59_ : Int32, (z59_.toInt = z57_.toInt + v4_93.toInt) ∧ ∃ j63_ : Nat, ((j63_ : Int) = z59_.toInt) ∧ ∃ M61_ : mM, (M61_ = up M_93 (68, 0, 0) j63_ 0) ∧ ∃ z67_ : Int32, (z67_.toInt = v4_93.toInt + 1) ∧ v4_93y = z67_ ∧ M_93y = M61_
def ST_X12_sheet_93c (v : Int32) (Mz : mM) (v4_93 : Int32) (M_93 : mM) (v4_93y : Int32) (M_93y : mM) : Prop := (0 ≤ v4_93.toInt) ∧ (v4_93.toInt ≤ 24) ∧ (InvD M_93) ∧ (FR (S_c_X12_sheet) Mz M_93) ∧ (v4_93.toInt < 24) ∧ ∃ z105_ : Int32, (z105_.toInt = 24 * v.toInt) ∧ ∃ z107_ : Int32, (z107_.toInt = z105_.toInt + v4_93.toInt) ∧ ∃ j111_ : Nat, ((j111_ : Int) = z107_.toInt) ∧ ∃ M109_ : mM, (M109_ = up M_93 (68, 0, 0) j111_ 0) ∧ ∃ z115_ : Int32, (z115_.toInt = v4_93.toInt + 1) ∧ v4_93y = z115_ ∧ M_93y = M109_
def ST_X12_sheet_93d (v : Int32) (Mz : mM) (v4_93 : Int32) (M_93 : mM) (v4_93y : Int32) (M_93y : mM) : Prop := (0 ≤ v4_93.toInt) ∧ (v4_93.toInt ≤ 24) ∧ (InvD M_93) ∧ (FR (S_c_X12_sheet) Mz M_93) ∧ (v4_93.toInt < 24) ∧ ∃ z153_ : Int32, (z153_.toInt = 24 * v.toInt) ∧ ∃ z155_ : Int32, (z155_.toInt = z153_.toInt + v4_93.toInt) ∧ ∃ j159_ : Nat, ((j159_ : Int) = z155_.toInt) ∧ ∃ M157_ : mM, (M157_ = up M_93 (68, 0, 0) j159_ 0) ∧ ∃ z163_ : Int32, (z163_.toInt = v4_93.toInt + 1) ∧ v4_93y = z163_ ∧ M_93y = M157_
def SP_X12_sheet (v : Int32) (u : Int32) (t : Int32) (Mz : mM) (r_ : Int32) (M_ : mM) : Prop := (((SP_X12_isSheet v Mz (1 : Int32)) ∧ (0 ≤ v.toInt ∧ v.toInt ≤ 3) ∧ (((u.toInt = 0) ∧ (u.toInt = 0) ∧ (u.toInt = 0) ∧ ∃ j12_ : Nat, ((j12_ : Int) = v.toInt) ∧ ∃ M10_ : mM, (M10_ = up Mz (66, 0, 0) j12_ u) ∧ (u.toInt = 0) ∧ ∃ j19_ : Nat, ((j19_ : Int) = v.toInt) ∧ ∃ M17_ : mM, (M17_ = up M10_ (67, 0, 0) j19_ 0) ∧ ∃ v4_93 : Int32, (0 ≤ v4_93.toInt) ∧ (v4_93.toInt ≤ 24) ∧ ∃ M_93 : mM, (RCH (fun x_ y_ => ST_X12_sheet_93 v Mz x_.1 x_.2 y_.1 y_.2) ((0 : Int32), M17_) (v4_93, M_93)) ∧ (InvD M_93) ∧ (FR (S_c_X12_sheet) Mz M_93) ∧ (24 ≤ v4_93.toInt) ∧ r_ = 1 ∧ M_ = M_93) ∨ ((¬ u.toInt = 0) ∧ (((u.toInt = 8) ∧ (¬ u.toInt = 0) ∧ (((0 ≤ t.toInt) ∧ (¬ u.toInt = 0) ∧ (((t.toInt ≤ 24) ∧ ∃ j44_ : Nat, ((j44_ : Int) = v.toInt) ∧ ∃ M42_ : mM, (M42_ = up Mz (66, 0, 0) j44_ u) ∧ (¬ u.toInt = 0) ∧ ∃ j51_ : Nat, ((j51_ : Int) = v.toInt) ∧ ∃ M49_ : mM, (M49_ = up M42_ (67, 0, 0) j51_ t) ∧ ∃ v4_93 : Int32, (0 ≤ v4_93.toInt) ∧ (v4_93.toInt ≤ 24) ∧ ∃ M_93 : mM, (RCH (fun x_ y_ => ST_X12_sheet_93b v Mz x_.1 x_.2 y_.1 y_.2) ((0 : Int32), M49_) (v4_93, M_93)) ∧ (InvD M_93) ∧ (FR (S_c_X12_sheet) Mz M_93) ∧ (24 ≤ v4_93.toInt) ∧ r_ = 1 ∧ M_ = M_93) ∨ ((24 < t.toInt) ∧ ∃ M70_ : mM, (InvD M70_) ∧ (FR (S_c_X12_finding) Mz M70_) ∧ ∃ r69_ : Int32, (SP_X12_finding (-1000001) Mz r69_ M70_) ∧ (r69_.toInt = (-1000001)) ∧ r_ = r69_ ∧ M_ = M70_))) ∨ ((t.toInt < 0) ∧ ∃ M78_ : mM, (InvD M78_) ∧ (FR (S_c_X12_finding) Mz M78_) ∧ ∃ r77_ : Int32, (SP_X12_finding (-1000003) Mz r77_ M78_) ∧ (r77_.toInt = (-1000003)) ∧ r_ = r77_ ∧ M_ = M78_))) ∨ ((¬ u.toInt = 8) ∧ (((u.toInt = 16) ∧ (¬ u.toInt = 0) ∧ (((0 ≤ t.toInt) ∧ (¬ u.toInt = 0) ∧ (((t.toInt ≤ 24) ∧ ∃ j92_ : Nat, ((j92_ : Int) = v.toInt) ∧ ∃ M90_ : mM, (M90_ = up Mz (66, 0, 0) j92_ u) ∧ (¬ u.toInt = 0) ∧ ∃ j99_ : Nat, ((j99_ : Int) = v.toInt) ∧ ∃ M97_ : mM, (M97_ = up M90_ (67, 0, 0) j99_ t) ∧ ∃ v4_93 : Int32, (0 ≤ v4_93.toInt) ∧ (v4_93.toInt ≤ 24) ∧ ∃ M_93 : mM, (RCH (fun x_ y_ => ST_X12_sheet_93c v Mz x_.1 x_.2 y_.1 y_.2) ((0 : Int32), M97_) (v4_93, M_93)) ∧ (InvD M_93) ∧ (FR (S_c_X12_sheet) Mz M_93) ∧ (24 ≤ v4_93.toInt) ∧ r_ = 1 ∧ M_ = M_93) ∨ ((24 < t.toInt) ∧ ∃ M118_ : mM, (InvD M118_) ∧ (FR (S_c_X12_finding) Mz M118_) ∧ ∃ r117_ : Int32, (SP_X12_finding (-1000001) Mz r117_ M118_) ∧ (r117_.toInt = (-1000001)) ∧ r_ = r117_ ∧ M_ = M118_))) ∨ ((t.toInt < 0) ∧ ∃ M126_ : mM, (InvD M126_) ∧ (FR (S_c_X12_finding) Mz M126_) ∧ ∃ r125_ : Int32, (SP_X12_finding (-1000003) Mz r125_ M126_) ∧ (r125_.toInt = (-1000003)) ∧ r_ = r125_ ∧ M_ = M126_))) ∨ ((¬ u.toInt = 16) ∧ (((u.toInt = 32) ∧ (¬ u.toInt = 0) ∧ (((0 ≤ t.toInt) ∧ (¬ u.toInt = 0) ∧ (((t.toInt ≤ 24) ∧ ∃ j140_ : Nat, ((j140_ : Int) = v.toInt) ∧ ∃ M138_ : mM, (M138_ = up Mz (66, 0, 0) j140_ u) ∧ (¬ u.toInt = 0) ∧ ∃ j147_ : Nat, ((j147_ : Int) = v.toInt) ∧ ∃ M145_ : mM, (M145_ = up M138_ (67, 0, 0) j147_ t) ∧ ∃ v4_93 : Int32, (0 ≤ v4_93.toInt) ∧ (v4_93.toInt ≤ 24) ∧ ∃ M_93 : mM, (RCH (fun x_ y_ => ST_X12_sheet_93d v Mz x_.1 x_.2 y_.1 y_.2) ((0 : Int32), M145_) (v4_93, M_93)) ∧ (InvD M_93) ∧ (FR (S_c_X12_sheet) Mz M_93) ∧ (24 ≤ v4_93.toInt) ∧ r_ = 1 ∧ M_ = M_93) ∨ ((24 < t.toInt) ∧ ∃ M166_ : mM, (InvD M166_) ∧ (FR (S_c_X12_finding) Mz M166_) ∧ ∃ r165_ : Int32, (SP_X12_finding (-1000001) Mz r165_ M166_) ∧ (r165_.toInt = (-1000001)) ∧ r_ = r165_ ∧ M_ = M166_))) ∨ ((t.toInt < 0) ∧ ∃ M174_ : mM, (InvD M174_) ∧ (FR (S_c_X12_finding) Mz M174_) ∧ ∃ r173_ : Int32, (SP_X12_finding (-1000003) Mz r173_ M174_) ∧ (r173_.toInt = (-1000003)) ∧ r_ = r173_ ∧ M_ = M174_))) ∨ ((¬ u.toInt = 32) ∧ ∃ M182_ : mM, (InvD M182_) ∧ (FR (S_c_X12_finding) Mz M182_) ∧ ∃ r181_ : Int32, (SP_X12_finding (-1000001) Mz r181_ M182_) ∧ (r181_.toInt = (-1000001)) ∧ r_ = r181_ ∧ M_ = M182_))))))))) ∨ ((SP_X12_isSheet v Mz (0 : Int32)) ∧ (¬ (0 ≤ v.toInt ∧ v.toInt ≤ 3)) ∧ ∃ M191_ : mM, (InvD M191_) ∧ (FR (S_c_X12_finding) Mz M191_) ∧ ∃ r190_ : Int32, (SP_X12_finding (-1000001) Mz r190_ M191_) ∧ (r190_.toInt = (-1000001)) ∧ r_ = r190_ ∧ M_ = M191_))
theorem lf_c_X12_sheet_5 (M10_ : mM) (M17_ : mM) (Mz : mM) (v : Int32) (u : Int32) (t : Int32) (j12_ : Nat) (j19_ : Nat) (h4_ : 0 ≤ v.toInt ∧ v.toInt ≤ 3) (h7_ : u.toInt = 0) (h8_ : u.toInt = 0) (h9_ : u.toInt = 0) (h13_ : (j12_ : Int) = v.toInt) (hM11_ : M10_ = up Mz (66, 0, 0) j12_ u) (h16_ : u.toInt = 0) (h20_ : (j19_ : Int) = v.toInt) (hM18_ : M17_ = up M10_ (67, 0, 0) j19_ 0) : (((¬ (0 ≤ v.toInt ∧ v.toInt ≤ 3) ∨ (¬ u.toInt = 0 ∧ ¬ u.toInt = 8 ∧ ¬ u.toInt = 16 ∧ ¬ u.toInt = 32)) ∧ (1 : Int32).toInt = -1000001) ∨ ((0 ≤ v.toInt ∧ v.toInt ≤ 3) ∧ (u.toInt = 0 ∨ u.toInt = 8 ∨ u.toInt = 16 ∨ u.toInt = 32) ∧ ((¬ u.toInt = 0 ∧ t.toInt < 0 ∧ (1 : Int32).toInt = -1000003) ∨ (¬ u.toInt = 0 ∧ 24 < t.toInt ∧ (1 : Int32).toInt = -1000001) ∨ ((u.toInt = 0 ∨ (0 ≤ t.toInt ∧ t.toInt ≤ 24)) ∧ (1 : Int32).toInt = 1)))) := by have r_v := rngI v; have r_u := rngI u; have r_t := rngI t; have r9 := li_1; omega
theorem lf_c_X12_sheet_7 (v : Int32) (v4_93 : Int32) (z25_ : Int32) (h4_ : 0 ≤ v.toInt ∧ v.toInt ≤ 3) (hv0_93 : 0 ≤ v4_93.toInt) (h24_ : v4_93.toInt < 24) (h26_ : z25_.toInt = 24 * v.toInt) : -2147483648 ≤ z25_.toInt + v4_93.toInt ∧ z25_.toInt + v4_93.toInt < 2147483648 := by omega
theorem lf_c_X12_sheet_8 (v : Int32) (v4_93 : Int32) (z25_ : Int32) (z27_ : Int32) (h4_ : 0 ≤ v.toInt ∧ v.toInt ≤ 3) (hv0_93 : 0 ≤ v4_93.toInt) (h24_ : v4_93.toInt < 24) (h26_ : z25_.toInt = 24 * v.toInt) (h28_ : z27_.toInt = z25_.toInt + v4_93.toInt) : 0 ≤ z27_.toInt ∧ z27_.toInt < ((96 : Nat) : Int) := by omega
theorem lf_c_X12_sheet_20 (t : Int32) (h39_ : 0 ≤ t.toInt) (h41_ : t.toInt ≤ 24) : 0 ≤ t.toInt ∧ t.toInt ≤ 24 := by omega
theorem lf_c_X12_sheet_21 (M42_ : mM) (M49_ : mM) (Mz : mM) (v : Int32) (u : Int32) (t : Int32) (j44_ : Nat) (j51_ : Nat) (h4_ : 0 ≤ v.toInt ∧ v.toInt ≤ 3) (h7_ : ¬ u.toInt = 0) (h37_ : u.toInt = 8) (h38_ : ¬ u.toInt = 0) (h39_ : 0 ≤ t.toInt) (h40_ : ¬ u.toInt = 0) (h41_ : t.toInt ≤ 24) (h45_ : (j44_ : Int) = v.toInt) (hM43_ : M42_ = up Mz (66, 0, 0) j44_ u) (h48_ : ¬ u.toInt = 0) (h52_ : (j51_ : Int) = v.toInt) (hM50_ : M49_ = up M42_ (67, 0, 0) j51_ t) : (((¬ (0 ≤ v.toInt ∧ v.toInt ≤ 3) ∨ (¬ u.toInt = 0 ∧ ¬ u.toInt = 8 ∧ ¬ u.toInt = 16 ∧ ¬ u.toInt = 32)) ∧ (1 : Int32).toInt = -1000001) ∨ ((0 ≤ v.toInt ∧ v.toInt ≤ 3) ∧ (u.toInt = 0 ∨ u.toInt = 8 ∨ u.toInt = 16 ∨ u.toInt = 32) ∧ ((¬ u.toInt = 0 ∧ t.toInt < 0 ∧ (1 : Int32).toInt = -1000003) ∨ (¬ u.toInt = 0 ∧ 24 < t.toInt ∧ (1 : Int32).toInt = -1000001) ∨ ((u.toInt = 0 ∨ (0 ≤ t.toInt ∧ t.toInt ≤ 24)) ∧ (1 : Int32).toInt = 1)))) := by have r_v := rngI v; have r_u := rngI u; have r_t := rngI t; have r9 := li_1; omega
theorem lf_c_X12_sheet_31 (v : Int32) (u : Int32) (t : Int32) (r69_ : Int32) (h4_ : 0 ≤ v.toInt ∧ v.toInt ≤ 3) (h7_ : ¬ u.toInt = 0) (h37_ : u.toInt = 8) (h38_ : ¬ u.toInt = 0) (h39_ : 0 ≤ t.toInt) (h40_ : ¬ u.toInt = 0) (h41_ : 24 < t.toInt) (h72_ : r69_.toInt = (-1000001)) : (((¬ (0 ≤ v.toInt ∧ v.toInt ≤ 3) ∨ (¬ u.toInt = 0 ∧ ¬ u.toInt = 8 ∧ ¬ u.toInt = 16 ∧ ¬ u.toInt = 32)) ∧ r69_.toInt = -1000001) ∨ ((0 ≤ v.toInt ∧ v.toInt ≤ 3) ∧ (u.toInt = 0 ∨ u.toInt = 8 ∨ u.toInt = 16 ∨ u.toInt = 32) ∧ ((¬ u.toInt = 0 ∧ t.toInt < 0 ∧ r69_.toInt = -1000003) ∨ (¬ u.toInt = 0 ∧ 24 < t.toInt ∧ r69_.toInt = -1000001) ∨ ((u.toInt = 0 ∨ (0 ≤ t.toInt ∧ t.toInt ≤ 24)) ∧ r69_.toInt = 1)))) := by have r_v := rngI v; have r_u := rngI u; have r_t := rngI t; have r_r69_ := rngI r69_; omega
theorem lf_c_X12_sheet_32 (v : Int32) (u : Int32) (t : Int32) (r77_ : Int32) (h4_ : 0 ≤ v.toInt ∧ v.toInt ≤ 3) (h7_ : ¬ u.toInt = 0) (h37_ : u.toInt = 8) (h38_ : ¬ u.toInt = 0) (h39_ : t.toInt < 0) (h80_ : r77_.toInt = (-1000003)) : (((¬ (0 ≤ v.toInt ∧ v.toInt ≤ 3) ∨ (¬ u.toInt = 0 ∧ ¬ u.toInt = 8 ∧ ¬ u.toInt = 16 ∧ ¬ u.toInt = 32)) ∧ r77_.toInt = -1000001) ∨ ((0 ≤ v.toInt ∧ v.toInt ≤ 3) ∧ (u.toInt = 0 ∨ u.toInt = 8 ∨ u.toInt = 16 ∨ u.toInt = 32) ∧ ((¬ u.toInt = 0 ∧ t.toInt < 0 ∧ r77_.toInt = -1000003) ∨ (¬ u.toInt = 0 ∧ 24 < t.toInt ∧ r77_.toInt = -1000001) ∨ ((u.toInt = 0 ∨ (0 ≤ t.toInt ∧ t.toInt ≤ 24)) ∧ r77_.toInt = 1)))) := by have r_v := rngI v; have r_u := rngI u; have r_t := rngI t; have r_r77_ := rngI r77_; omega
theorem lf_c_X12_sheet_39 (M90_ : mM) (M97_ : mM) (Mz : mM) (v : Int32) (u : Int32) (t : Int32) (j92_ : Nat) (j99_ : Nat) (h4_ : 0 ≤ v.toInt ∧ v.toInt ≤ 3) (h7_ : ¬ u.toInt = 0) (h37_ : ¬ u.toInt = 8) (h85_ : u.toInt = 16) (h86_ : ¬ u.toInt = 0) (h87_ : 0 ≤ t.toInt) (h88_ : ¬ u.toInt = 0) (h89_ : t.toInt ≤ 24) (h93_ : (j92_ : Int) = v.toInt) (hM91_ : M90_ = up Mz (66, 0, 0) j92_ u) (h96_ : ¬ u.toInt = 0) (h100_ : (j99_ : Int) = v.toInt) (hM98_ : M97_ = up M90_ (67, 0, 0) j99_ t) : (((¬ (0 ≤ v.toInt ∧ v.toInt ≤ 3) ∨ (¬ u.toInt = 0 ∧ ¬ u.toInt = 8 ∧ ¬ u.toInt = 16 ∧ ¬ u.toInt = 32)) ∧ (1 : Int32).toInt = -1000001) ∨ ((0 ≤ v.toInt ∧ v.toInt ≤ 3) ∧ (u.toInt = 0 ∨ u.toInt = 8 ∨ u.toInt = 16 ∨ u.toInt = 32) ∧ ((¬ u.toInt = 0 ∧ t.toInt < 0 ∧ (1 : Int32).toInt = -1000003) ∨ (¬ u.toInt = 0 ∧ 24 < t.toInt ∧ (1 : Int32).toInt = -1000001) ∨ ((u.toInt = 0 ∨ (0 ≤ t.toInt ∧ t.toInt ≤ 24)) ∧ (1 : Int32).toInt = 1)))) := by have r_v := rngI v; have r_u := rngI u; have r_t := rngI t; have r9 := li_1; omega
theorem lf_c_X12_sheet_49 (v : Int32) (u : Int32) (t : Int32) (r117_ : Int32) (h4_ : 0 ≤ v.toInt ∧ v.toInt ≤ 3) (h7_ : ¬ u.toInt = 0) (h37_ : ¬ u.toInt = 8) (h85_ : u.toInt = 16) (h86_ : ¬ u.toInt = 0) (h87_ : 0 ≤ t.toInt) (h88_ : ¬ u.toInt = 0) (h89_ : 24 < t.toInt) (h120_ : r117_.toInt = (-1000001)) : (((¬ (0 ≤ v.toInt ∧ v.toInt ≤ 3) ∨ (¬ u.toInt = 0 ∧ ¬ u.toInt = 8 ∧ ¬ u.toInt = 16 ∧ ¬ u.toInt = 32)) ∧ r117_.toInt = -1000001) ∨ ((0 ≤ v.toInt ∧ v.toInt ≤ 3) ∧ (u.toInt = 0 ∨ u.toInt = 8 ∨ u.toInt = 16 ∨ u.toInt = 32) ∧ ((¬ u.toInt = 0 ∧ t.toInt < 0 ∧ r117_.toInt = -1000003) ∨ (¬ u.toInt = 0 ∧ 24 < t.toInt ∧ r117_.toInt = -1000001) ∨ ((u.toInt = 0 ∨ (0 ≤ t.toInt ∧ t.toInt ≤ 24)) ∧ r117_.toInt = 1)))) := by have r_v := rngI v; have r_u := rngI u; have r_t := rngI t; have r_r117_ := rngI r117_; omega
theorem lf_c_X12_sheet_50 (v : Int32) (u : Int32) (t : Int32) (r125_ : Int32) (h4_ : 0 ≤ v.toInt ∧ v.toInt ≤ 3) (h7_ : ¬ u.toInt = 0) (h37_ : ¬ u.toInt = 8) (h85_ : u.toInt = 16) (h86_ : ¬ u.toInt = 0) (h87_ : t.toInt < 0) (h128_ : r125_.toInt = (-1000003)) : (((¬ (0 ≤ v.toInt ∧ v.toInt ≤ 3) ∨ (¬ u.toInt = 0 ∧ ¬ u.toInt = 8 ∧ ¬ u.toInt = 16 ∧ ¬ u.toInt = 32)) ∧ r125_.toInt = -1000001) ∨ ((0 ≤ v.toInt ∧ v.toInt ≤ 3) ∧ (u.toInt = 0 ∨ u.toInt = 8 ∨ u.toInt = 16 ∨ u.toInt = 32) ∧ ((¬ u.toInt = 0 ∧ t.toInt < 0 ∧ r125_.toInt = -1000003) ∨ (¬ u.toInt = 0 ∧ 24 < t.toInt ∧ r125_.toInt = -1000001) ∨ ((u.toInt = 0 ∨ (0 ≤ t.toInt ∧ t.toInt ≤ 24)) ∧ r125_.toInt = 1)))) := by have r_v := rngI v; have r_u := rngI u; have r_t := rngI t; have r_r125_ := rngI r125_; omega
theorem lf_c_X12_sheet_57 (M138_ : mM) (M145_ : mM) (Mz : mM) (v : Int32) (u : Int32) (t : Int32) (j140_ : Nat) (j147_ : Nat) (h4_ : 0 ≤ v.toInt ∧ v.toInt ≤ 3) (h7_ : ¬ u.toInt = 0) (h37_ : ¬ u.toInt = 8) (h85_ : ¬ u.toInt = 16) (h133_ : u.toInt = 32) (h134_ : ¬ u.toInt = 0) (h135_ : 0 ≤ t.toInt) (h136_ : ¬ u.toInt = 0) (h137_ : t.toInt ≤ 24) (h141_ : (j140_ : Int) = v.toInt) (hM139_ : M138_ = up Mz (66, 0, 0) j140_ u) (h144_ : ¬ u.toInt = 0) (h148_ : (j147_ : Int) = v.toInt) (hM146_ : M145_ = up M138_ (67, 0, 0) j147_ t) : (((¬ (0 ≤ v.toInt ∧ v.toInt ≤ 3) ∨ (¬ u.toInt = 0 ∧ ¬ u.toInt = 8 ∧ ¬ u.toInt = 16 ∧ ¬ u.toInt = 32)) ∧ (1 : Int32).toInt = -1000001) ∨ ((0 ≤ v.toInt ∧ v.toInt ≤ 3) ∧ (u.toInt = 0 ∨ u.toInt = 8 ∨ u.toInt = 16 ∨ u.toInt = 32) ∧ ((¬ u.toInt = 0 ∧ t.toInt < 0 ∧ (1 : Int32).toInt = -1000003) ∨ (¬ u.toInt = 0 ∧ 24 < t.toInt ∧ (1 : Int32).toInt = -1000001) ∨ ((u.toInt = 0 ∨ (0 ≤ t.toInt ∧ t.toInt ≤ 24)) ∧ (1 : Int32).toInt = 1)))) := by have r_v := rngI v; have r_u := rngI u; have r_t := rngI t; have r9 := li_1; omega
theorem lf_c_X12_sheet_67 (v : Int32) (u : Int32) (t : Int32) (r165_ : Int32) (h4_ : 0 ≤ v.toInt ∧ v.toInt ≤ 3) (h7_ : ¬ u.toInt = 0) (h37_ : ¬ u.toInt = 8) (h85_ : ¬ u.toInt = 16) (h133_ : u.toInt = 32) (h134_ : ¬ u.toInt = 0) (h135_ : 0 ≤ t.toInt) (h136_ : ¬ u.toInt = 0) (h137_ : 24 < t.toInt) (h168_ : r165_.toInt = (-1000001)) : (((¬ (0 ≤ v.toInt ∧ v.toInt ≤ 3) ∨ (¬ u.toInt = 0 ∧ ¬ u.toInt = 8 ∧ ¬ u.toInt = 16 ∧ ¬ u.toInt = 32)) ∧ r165_.toInt = -1000001) ∨ ((0 ≤ v.toInt ∧ v.toInt ≤ 3) ∧ (u.toInt = 0 ∨ u.toInt = 8 ∨ u.toInt = 16 ∨ u.toInt = 32) ∧ ((¬ u.toInt = 0 ∧ t.toInt < 0 ∧ r165_.toInt = -1000003) ∨ (¬ u.toInt = 0 ∧ 24 < t.toInt ∧ r165_.toInt = -1000001) ∨ ((u.toInt = 0 ∨ (0 ≤ t.toInt ∧ t.toInt ≤ 24)) ∧ r165_.toInt = 1)))) := by have r_v := rngI v; have r_u := rngI u; have r_t := rngI t; have r_r165_ := rngI r165_; omega
theorem lf_c_X12_sheet_68 (v : Int32) (u : Int32) (t : Int32) (r173_ : Int32) (h4_ : 0 ≤ v.toInt ∧ v.toInt ≤ 3) (h7_ : ¬ u.toInt = 0) (h37_ : ¬ u.toInt = 8) (h85_ : ¬ u.toInt = 16) (h133_ : u.toInt = 32) (h134_ : ¬ u.toInt = 0) (h135_ : t.toInt < 0) (h176_ : r173_.toInt = (-1000003)) : (((¬ (0 ≤ v.toInt ∧ v.toInt ≤ 3) ∨ (¬ u.toInt = 0 ∧ ¬ u.toInt = 8 ∧ ¬ u.toInt = 16 ∧ ¬ u.toInt = 32)) ∧ r173_.toInt = -1000001) ∨ ((0 ≤ v.toInt ∧ v.toInt ≤ 3) ∧ (u.toInt = 0 ∨ u.toInt = 8 ∨ u.toInt = 16 ∨ u.toInt = 32) ∧ ((¬ u.toInt = 0 ∧ t.toInt < 0 ∧ r173_.toInt = -1000003) ∨ (¬ u.toInt = 0 ∧ 24 < t.toInt ∧ r173_.toInt = -1000001) ∨ ((u.toInt = 0 ∨ (0 ≤ t.toInt ∧ t.toInt ≤ 24)) ∧ r173_.toInt = 1)))) := by have r_v := rngI v; have r_u := rngI u; have r_t := rngI t; have r_r173_ := rngI r173_; omega
theorem lf_c_X12_sheet_69 (v : Int32) (u : Int32) (t : Int32) (r181_ : Int32) (h4_ : 0 ≤ v.toInt ∧ v.toInt ≤ 3) (h7_ : ¬ u.toInt = 0) (h37_ : ¬ u.toInt = 8) (h85_ : ¬ u.toInt = 16) (h133_ : ¬ u.toInt = 32) (h184_ : r181_.toInt = (-1000001)) : (((¬ (0 ≤ v.toInt ∧ v.toInt ≤ 3) ∨ (¬ u.toInt = 0 ∧ ¬ u.toInt = 8 ∧ ¬ u.toInt = 16 ∧ ¬ u.toInt = 32)) ∧ r181_.toInt = -1000001) ∨ ((0 ≤ v.toInt ∧ v.toInt ≤ 3) ∧ (u.toInt = 0 ∨ u.toInt = 8 ∨ u.toInt = 16 ∨ u.toInt = 32) ∧ ((¬ u.toInt = 0 ∧ t.toInt < 0 ∧ r181_.toInt = -1000003) ∨ (¬ u.toInt = 0 ∧ 24 < t.toInt ∧ r181_.toInt = -1000001) ∨ ((u.toInt = 0 ∨ (0 ≤ t.toInt ∧ t.toInt ≤ 24)) ∧ r181_.toInt = 1)))) := by have r_v := rngI v; have r_u := rngI u; have r_t := rngI t; have r_r181_ := rngI r181_; omega
theorem lf_c_X12_sheet_70 (v : Int32) (u : Int32) (t : Int32) (r190_ : Int32) (h4_ : ¬ (0 ≤ v.toInt ∧ v.toInt ≤ 3)) (h193_ : r190_.toInt = (-1000001)) : (((¬ (0 ≤ v.toInt ∧ v.toInt ≤ 3) ∨ (¬ u.toInt = 0 ∧ ¬ u.toInt = 8 ∧ ¬ u.toInt = 16 ∧ ¬ u.toInt = 32)) ∧ r190_.toInt = -1000001) ∨ ((0 ≤ v.toInt ∧ v.toInt ≤ 3) ∧ (u.toInt = 0 ∨ u.toInt = 8 ∨ u.toInt = 16 ∨ u.toInt = 32) ∧ ((¬ u.toInt = 0 ∧ t.toInt < 0 ∧ r190_.toInt = -1000003) ∨ (¬ u.toInt = 0 ∧ 24 < t.toInt ∧ r190_.toInt = -1000001) ∨ ((u.toInt = 0 ∨ (0 ≤ t.toInt ∧ t.toInt ≤ 24)) ∧ r190_.toInt = 1)))) := by have r_v := rngI v; have r_u := rngI u; have r_t := rngI t; have r_r190_ := rngI r190_; omega
set_option maxHeartbeats 4000000 in
set_option maxRecDepth 100000 in
theorem c_X12_sheet (l : Launch) (G : va_G) (cy : Nat → ClassId) (ad : rf → Nat) (d : Nat) (v : Int32) (u : Int32) (t : Int32) (Mz : mM) (hIz : InvD Mz) : WP DD l G cy ad yX12_sheet cX12_sheet 5 (some .int) (d + 2) 0 [(0, vR (12, 0, 0)), (1, vI v), (2, vI u), (3, vI t)] [] Mz (fun r M' => InvD M' ∧ FR (S_c_X12_sheet) Mz M' ∧ ((((¬ (0 ≤ v.toInt ∧ v.toInt ≤ 3) ∨ (¬ u.toInt = 0 ∧ ¬ u.toInt = 8 ∧ ¬ u.toInt = 16 ∧ ¬ u.toInt = 32)) ∧ r.toInt = -1000001) ∨ ((0 ≤ v.toInt ∧ v.toInt ≤ 3) ∧ (u.toInt = 0 ∨ u.toInt = 8 ∨ u.toInt = 16 ∨ u.toInt = 32) ∧ ((¬ u.toInt = 0 ∧ t.toInt < 0 ∧ r.toInt = -1000003) ∨ (¬ u.toInt = 0 ∧ 24 < t.toInt ∧ r.toInt = -1000001) ∨ ((u.toInt = 0 ∨ (0 ≤ t.toInt ∧ t.toInt ≤ 24)) ∧ r.toInt = 1))))) ∧ SP_X12_sheet v u t Mz r M') := by
  have hFz : FR (S_c_X12_sheet) Mz Mz := FR.self
  refine w_iload_n dX12_sheet_0 rfl 1 rfl ?_
  refine w_callS (as := [vI v]) (rest := []) (c_X12_isSheet l G cy ad d v Mz hIz) kS_X12_isSheet pnn_17 (Nat.le_of_ble_eq_true rfl) m_1497 rfl rfl (by decide) (Nat.le_of_ble_eq_true rfl) dX12_sheet_1 (fun r1_ M2_ q3_ => ?_)
  obtain ⟨rfl, h4_, hs5_⟩ := q3_
  rcases h4_ with ⟨rfl, h4_⟩ | ⟨rfl, h4_⟩
  · refine w_if_eq (tgt := 29) dX12_sheet_4 (by decide) li_1 (fun h9 => (absurd h9 (by decide))) (fun h6_ => ?_)
    refine w_iload_n dX12_sheet_7 rfl 2 rfl ?_
    refine w_if_eq (tgt := 36) dX12_sheet_8 (by decide) (rfl : u.toInt = u.toInt) (fun h7_ => ?_) (fun h7_ => ?_)
    · refine w_iload_n dX12_sheet_36 rfl 2 rfl ?_
      refine w_if_eq (tgt := 51) dX12_sheet_37 (by decide) (rfl : u.toInt = u.toInt) (fun h8_ => ?_) (fun h9 => (lf_c_X2_changeAir_2 u h7_ h9 ).elim)
      refine w_iload_n dX12_sheet_51 rfl 2 rfl ?_
      refine w_if_eq (tgt := 68) dX12_sheet_52 (by decide) (rfl : u.toInt = u.toInt) (fun h9_ => ?_) (fun h9 => (lf_c_X2_changeAir_2 u h7_ h9 ).elim)
      refine w_aload_n dX12_sheet_68 rfl 0 rfl ?_
      refine w_getR (c' := (66, 0, 0)) fl_RX12_72 rfl rfl ic_12 dX12_sheet_69 rfl ?_
      refine w_iload_n dX12_sheet_72 rfl 1 rfl ?_
      refine w_iload_n dX12_sheet_73 rfl 2 rfl ?_
      refine w_iast DD_nd rfl rfl ic_66 (rfl : v.toInt = v.toInt) (lf_c_X11_lays_0 v h4_ ) dX12_sheet_74 (fun j12_ h13_ M10_ hM11_ => ?_)
      have hI14_ := hIz.put hM11_ ⟨trivial, Or.inr (by decide)⟩
      have hF15_ := hFz.put hM11_ (Or.inl ⟨rfl, rfl⟩)
      refine w_aload_n dX12_sheet_75 rfl 0 rfl ?_
      refine w_getR (c' := (67, 0, 0)) fl_RX12_75 rfl rfl ic_12 dX12_sheet_76 rfl ?_
      refine w_iload_n dX12_sheet_79 rfl 1 rfl ?_
      refine w_iload_n dX12_sheet_80 rfl 2 rfl ?_
      refine w_if_ne (tgt := 88) dX12_sheet_81 (by decide) (rfl : u.toInt = u.toInt) (fun h9 => (lf_c_X2_changeAir_2 u h7_ h9 ).elim) (fun h16_ => ?_)
      refine w_iconst (v := 0) dX12_sheet_84 (by decide) ?_
      refine w_goto (tgt := 89) dX12_sheet_85 (by decide) ?_
      refine w_iast DD_nd rfl rfl ic_67 (rfl : v.toInt = v.toInt) (lf_c_X11_lays_0 v h4_ ) dX12_sheet_89 (fun j19_ h20_ M17_ hM18_ => ?_)
      have hI21_ := hI14_.put hM18_ ⟨⟨by decide, by decide⟩, Or.inr (by decide)⟩
      have hF22_ := hF15_.put hM18_ (Or.inr (Or.inl ⟨rfl, rfl⟩))
      refine w_iconst (v := 0) dX12_sheet_90 (by decide) ?_
      refine w_istore (ls' := [(4, vI 0), (0, vR (12, 0, 0)), (1, vI v), (2, vI u), (3, vI t)]) dX12_sheet_91 (by decide) rfl ?_
      have lp23_ : ∀ (nn_93 : Nat) (M_93 : mM) (hI_93 : InvD M_93) (hF_93 : FR (S_c_X12_sheet) Mz M_93) (v4_93 : Int32) (hv0_93 : 0 ≤ v4_93.toInt) (hv1_93 : v4_93.toInt ≤ 24) (hL_93 : RCH (fun x_ y_ => ST_X12_sheet_93 v Mz x_.1 x_.2 y_.1 y_.2) ((0 : Int32), M17_) (v4_93, M_93)), (2147483648 - v4_93.toInt).toNat < nn_93 → WP DD l G cy ad yX12_sheet cX12_sheet 5 (some .int) (d + 2) 93 [(4, vI v4_93), (0, vR (12, 0, 0)), (1, vI v), (2, vI u), (3, vI t)] [] M_93 (fun r M' => InvD M' ∧ FR (S_c_X12_sheet) Mz M' ∧ ((((¬ (0 ≤ v.toInt ∧ v.toInt ≤ 3) ∨ (¬ u.toInt = 0 ∧ ¬ u.toInt = 8 ∧ ¬ u.toInt = 16 ∧ ¬ u.toInt = 32)) ∧ r.toInt = -1000001) ∨ ((0 ≤ v.toInt ∧ v.toInt ≤ 3) ∧ (u.toInt = 0 ∨ u.toInt = 8 ∨ u.toInt = 16 ∨ u.toInt = 32) ∧ ((¬ u.toInt = 0 ∧ t.toInt < 0 ∧ r.toInt = -1000003) ∨ (¬ u.toInt = 0 ∧ 24 < t.toInt ∧ r.toInt = -1000001) ∨ ((u.toInt = 0 ∨ (0 ≤ t.toInt ∧ t.toInt ≤ 24)) ∧ r.toInt = 1))))) ∧ SP_X12_sheet v u t Mz r M') := by
        intro nn_93
        induction nn_93 with
        | zero => intro M_93 hI_93 hF_93 v4_93 hv0_93 hv1_93 hL_93 hm_93; exact absurd hm_93 (Nat.not_lt_zero _)
        | succ nn_93 ih_93 =>
          intro M_93 hI_93 hF_93 v4_93 hv0_93 hv1_93 hL_93 hm_93
          refine w_iload dX12_sheet_93 0 rfl ?_
          refine w_bipush (v := 24) dX12_sheet_95 (by decide) ?_
          refine w_icmp_ge (tgt := 119) dX12_sheet_97 (by decide) (rfl : v4_93.toInt = v4_93.toInt) li_24 (fun h24_ => ?_) (fun h24_ => ?_)
          · refine w_iconst (v := 1) dX12_sheet_119 (by decide) ?_
            exact w_iret rfl dX12_sheet_120 ⟨hI_93, hF_93, (lf_c_X12_sheet_5 M10_ M17_ Mz v u t j12_ j19_ h4_ h7_ h8_ h9_ h13_ hM11_ h16_ h20_ hM18_ ), (Or.inl ⟨hs5_, h4_, (Or.inl ⟨h7_, h8_, h9_, j12_, h13_, M10_, hM11_, h16_, j19_, h20_, M17_, hM18_, v4_93, hv0_93, hv1_93, M_93, hL_93, hI_93, hF_93, h24_, rfl, rfl⟩)⟩)⟩
          · refine w_aload_n dX12_sheet_100 rfl 1 rfl ?_
            refine w_getR (c' := (68, 0, 0)) fl_RX12_78 rfl rfl ic_12 dX12_sheet_101 rfl ?_
            refine w_bipush (v := 24) dX12_sheet_104 (by decide) ?_
            refine w_iload_n dX12_sheet_106 rfl 2 rfl ?_
            refine w_imulB dX12_sheet_107 li_24 (rfl : v.toInt = v.toInt) (lf_c_X12_lays_7 v h4_ ) (fun z25_ h26_ => ?_)
            refine w_iload dX12_sheet_108 0 rfl ?_
            refine w_iaddB dX12_sheet_110 (rfl : z25_.toInt = z25_.toInt) (rfl : v4_93.toInt = v4_93.toInt) (lf_c_X12_sheet_7 v v4_93 z25_ h4_ hv0_93 h24_ h26_ ) (fun z27_ h28_ => ?_)
            refine w_iconst (v := 0) dX12_sheet_111 (by decide) ?_
            refine w_iast DD_nd rfl rfl ic_68 (rfl : z27_.toInt = z27_.toInt) (lf_c_X12_sheet_8 v v4_93 z25_ z27_ h4_ hv0_93 h24_ h26_ h28_ ) dX12_sheet_112 (fun j31_ h32_ M29_ hM30_ => ?_)
            have hI33_ := hI_93.put hM30_ ⟨trivial, Or.inr (by decide)⟩
            have hF34_ := hF_93.put hM30_ (Or.inr (Or.inr (Or.inl ⟨rfl, rfl⟩)))
            refine w_iincB (j := 0) (f := fun z35_ => [(4, vI z35_), (0, vR (12, 0, 0)), (1, vI v), (2, vI u), (3, vI t)]) dX12_sheet_113 rfl (by decide) (fun _ => rfl) (rfl : v4_93.toInt = v4_93.toInt) li_1 (lf_c_X6_begin_2 v4_93 hv0_93 h24_ ) (fun z35_ h36_ => ?_)
            refine w_goto (tgt := 93) dX12_sheet_116 (by decide) ?_
            refine w_loc (ls' := [(4, vI z35_), (0, vR (12, 0, 0)), (1, vI v), (2, vI u), (3, vI t)]) [0, 1, 2, 3, 4] rfl ?_
            exact ih_93 M29_ hI33_ hF34_ z35_ (lf_c_X5_takeFrom_3 v4_93 z35_ hv0_93 h36_ ) (lf_c_X6_begin_4 v4_93 z35_ h24_ h36_ ) (RCH.tail hL_93 ⟨hv0_93, hv1_93, hI_93, hF_93, h24_, z25_, h26_, z27_, h28_, j31_, h32_, M29_, hM30_, z35_, h36_, rfl, rfl⟩) (Nat.lt_of_lt_of_le (lf_c_X6_begin_5 v4_93 z35_ h24_ h36_ ) (Nat.le_of_lt_succ hm_93))
      exact lp23_ _ M17_ hI21_ hF22_ 0 (lf_c_X5_takeFrom_5 ) (lf_c_X6_begin_7 ) RCH.refl (Nat.lt_succ_self _)
    · refine w_iload_n dX12_sheet_11 rfl 2 rfl ?_
      refine w_bipush (v := 8) dX12_sheet_12 (by decide) ?_
      refine w_icmp_eq (tgt := 36) dX12_sheet_14 (by decide) (rfl : u.toInt = u.toInt) li_8 (fun h37_ => ?_) (fun h37_ => ?_)
      · refine w_iload_n dX12_sheet_36 rfl 2 rfl ?_
        refine w_if_eq (tgt := 51) dX12_sheet_37 (by decide) (rfl : u.toInt = u.toInt) (fun h9 => (lf_c_X11_sheet_2 u h37_ h9 ).elim) (fun h38_ => ?_)
        refine w_iload_n dX12_sheet_40 rfl 3 rfl ?_
        refine w_if_ge (tgt := 51) dX12_sheet_41 (by decide) (rfl : t.toInt = t.toInt) (fun h39_ => ?_) (fun h39_ => ?_)
        · refine w_iload_n dX12_sheet_51 rfl 2 rfl ?_
          refine w_if_eq (tgt := 68) dX12_sheet_52 (by decide) (rfl : u.toInt = u.toInt) (fun h9 => (lf_c_X11_sheet_2 u h37_ h9 ).elim) (fun h40_ => ?_)
          refine w_iload_n dX12_sheet_55 rfl 3 rfl ?_
          refine w_bipush (v := 24) dX12_sheet_56 (by decide) ?_
          refine w_icmp_le (tgt := 68) dX12_sheet_58 (by decide) (rfl : t.toInt = t.toInt) li_24 (fun h41_ => ?_) (fun h41_ => ?_)
          · refine w_aload_n dX12_sheet_68 rfl 0 rfl ?_
            refine w_getR (c' := (66, 0, 0)) fl_RX12_72 rfl rfl ic_12 dX12_sheet_69 rfl ?_
            refine w_iload_n dX12_sheet_72 rfl 1 rfl ?_
            refine w_iload_n dX12_sheet_73 rfl 2 rfl ?_
            refine w_iast DD_nd rfl rfl ic_66 (rfl : v.toInt = v.toInt) (lf_c_X11_lays_0 v h4_ ) dX12_sheet_74 (fun j44_ h45_ M42_ hM43_ => ?_)
            have hI46_ := hIz.put hM43_ ⟨trivial, Or.inr (by decide)⟩
            have hF47_ := hFz.put hM43_ (Or.inl ⟨rfl, rfl⟩)
            refine w_aload_n dX12_sheet_75 rfl 0 rfl ?_
            refine w_getR (c' := (67, 0, 0)) fl_RX12_75 rfl rfl ic_12 dX12_sheet_76 rfl ?_
            refine w_iload_n dX12_sheet_79 rfl 1 rfl ?_
            refine w_iload_n dX12_sheet_80 rfl 2 rfl ?_
            refine w_if_ne (tgt := 88) dX12_sheet_81 (by decide) (rfl : u.toInt = u.toInt) (fun h48_ => ?_) (fun h9 => (lf_c_X11_sheet_2 u h37_ h9 ).elim)
            refine w_iload_n dX12_sheet_88 rfl 3 rfl ?_
            refine w_iast DD_nd rfl rfl ic_67 (rfl : v.toInt = v.toInt) (lf_c_X11_lays_0 v h4_ ) dX12_sheet_89 (fun j51_ h52_ M49_ hM50_ => ?_)
            have hI53_ := hI46_.put hM50_ ⟨(lf_c_X12_sheet_20 t h39_ h41_ ), Or.inr (by decide)⟩
            have hF54_ := hF47_.put hM50_ (Or.inr (Or.inl ⟨rfl, rfl⟩))
            refine w_iconst (v := 0) dX12_sheet_90 (by decide) ?_
            refine w_istore (ls' := [(4, vI 0), (0, vR (12, 0, 0)), (1, vI v), (2, vI u), (3, vI t)]) dX12_sheet_91 (by decide) rfl ?_
            have lp55_ : ∀ (nn_93 : Nat) (M_93 : mM) (hI_93 : InvD M_93) (hF_93 : FR (S_c_X12_sheet) Mz M_93) (v4_93 : Int32) (hv0_93 : 0 ≤ v4_93.toInt) (hv1_93 : v4_93.toInt ≤ 24) (hL_93 : RCH (fun x_ y_ => ST_X12_sheet_93b v Mz x_.1 x_.2 y_.1 y_.2) ((0 : Int32), M49_) (v4_93, M_93)), (2147483648 - v4_93.toInt).toNat < nn_93 → WP DD l G cy ad yX12_sheet cX12_sheet 5 (some .int) (d + 2) 93 [(4, vI v4_93), (0, vR (12, 0, 0)), (1, vI v), (2, vI u), (3, vI t)] [] M_93 (fun r M' => InvD M' ∧ FR (S_c_X12_sheet) Mz M' ∧ ((((¬ (0 ≤ v.toInt ∧ v.toInt ≤ 3) ∨ (¬ u.toInt = 0 ∧ ¬ u.toInt = 8 ∧ ¬ u.toInt = 16 ∧ ¬ u.toInt = 32)) ∧ r.toInt = -1000001) ∨ ((0 ≤ v.toInt ∧ v.toInt ≤ 3) ∧ (u.toInt = 0 ∨ u.toInt = 8 ∨ u.toInt = 16 ∨ u.toInt = 32) ∧ ((¬ u.toInt = 0 ∧ t.toInt < 0 ∧ r.toInt = -1000003) ∨ (¬ u.toInt = 0 ∧ 24 < t.toInt ∧ r.toInt = -1000001) ∨ ((u.toInt = 0 ∨ (0 ≤ t.toInt ∧ t.toInt ≤ 24)) ∧ r.toInt = 1))))) ∧ SP_X12_sheet v u t Mz r M') := by
              intro nn_93
              induction nn_93 with
              | zero => intro M_93 hI_93 hF_93 v4_93 hv0_93 hv1_93 hL_93 hm_93; exact absurd hm_93 (Nat.not_lt_zero _)
              | succ nn_93 ih_93 =>
                intro M_93 hI_93 hF_93 v4_93 hv0_93 hv1_93 hL_93 hm_93
                refine w_iload dX12_sheet_93 0 rfl ?_
                refine w_bipush (v := 24) dX12_sheet_95 (by decide) ?_
                refine w_icmp_ge (tgt := 119) dX12_sheet_97 (by decide) (rfl : v4_93.toInt = v4_93.toInt) li_24 (fun h56_ => ?_) (fun h56_ => ?_)
                · refine w_iconst (v := 1) dX12_sheet_119 (by decide) ?_
                  exact w_iret rfl dX12_sheet_120 ⟨hI_93, hF_93, (lf_c_X12_sheet_21 M42_ M49_ Mz v u t j44_ j51_ h4_ h7_ h37_ h38_ h39_ h40_ h41_ h45_ hM43_ h48_ h52_ hM50_ ), (Or.inl ⟨hs5_, h4_, (Or.inr ⟨h7_, (Or.inl ⟨h37_, h38_, (Or.inl ⟨h39_, h40_, (Or.inl ⟨h41_, j44_, h45_, M42_, hM43_, h48_, j51_, h52_, M49_, hM50_, v4_93, hv0_93, hv1_93, M_93, hL_93, hI_93, hF_93, h56_, rfl, rfl⟩)⟩)⟩)⟩)⟩)⟩
                · refine w_aload_n dX12_sheet_100 rfl 1 rfl ?_
                  refine w_getR (c' := (68, 0, 0)) fl_RX12_78 rfl rfl ic_12 dX12_sheet_101 rfl ?_
                  refine w_bipush (v := 24) dX12_sheet_104 (by decide) ?_
                  refine w_iload_n dX12_sheet_106 rfl 2 rfl ?_
                  refine w_imulB dX12_sheet_107 li_24 (rfl : v.toInt = v.toInt) (lf_c_X12_lays_7 v h4_ ) (fun z57_ h58_ => ?_)
                  refine w_iload dX12_sheet_108 0 rfl ?_
                  refine w_iaddB dX12_sheet_110 (rfl : z57_.toInt = z57_.toInt) (rfl : v4_93.toInt = v4_93.toInt) (lf_c_X12_sheet_7 v v4_93 z57_ h4_ hv0_93 h56_ h58_ ) (fun z59_ h60_ => ?_)
                  refine w_iconst (v := 0) dX12_sheet_111 (by decide) ?_
                  refine w_iast DD_nd rfl rfl ic_68 (rfl : z59_.toInt = z59_.toInt) (lf_c_X12_sheet_8 v v4_93 z57_ z59_ h4_ hv0_93 h56_ h58_ h60_ ) dX12_sheet_112 (fun j63_ h64_ M61_ hM62_ => ?_)
                  have hI65_ := hI_93.put hM62_ ⟨trivial, Or.inr (by decide)⟩
                  have hF66_ := hF_93.put hM62_ (Or.inr (Or.inr (Or.inl ⟨rfl, rfl⟩)))
                  refine w_iincB (j := 0) (f := fun z67_ => [(4, vI z67_), (0, vR (12, 0, 0)), (1, vI v), (2, vI u), (3, vI t)]) dX12_sheet_113 rfl (by decide) (fun _ => rfl) (rfl : v4_93.toInt = v4_93.toInt) li_1 (lf_c_X6_begin_2 v4_93 hv0_93 h56_ ) (fun z67_ h68_ => ?_)
                  refine w_goto (tgt := 93) dX12_sheet_116 (by decide) ?_
                  refine w_loc (ls' := [(4, vI z67_), (0, vR (12, 0, 0)), (1, vI v), (2, vI u), (3, vI t)]) [0, 1, 2, 3, 4] rfl ?_
                  exact ih_93 M61_ hI65_ hF66_ z67_ (lf_c_X5_takeFrom_3 v4_93 z67_ hv0_93 h68_ ) (lf_c_X6_begin_4 v4_93 z67_ h56_ h68_ ) (RCH.tail hL_93 ⟨hv0_93, hv1_93, hI_93, hF_93, h56_, z57_, h58_, z59_, h60_, j63_, h64_, M61_, hM62_, z67_, h68_, rfl, rfl⟩) (Nat.lt_of_lt_of_le (lf_c_X6_begin_5 v4_93 z67_ h56_ h68_ ) (Nat.le_of_lt_succ hm_93))
            exact lp55_ _ M49_ hI53_ hF54_ 0 (lf_c_X5_takeFrom_5 ) (lf_c_X6_begin_7 ) RCH.refl (Nat.lt_succ_self _)
          · refine w_aload_n dX12_sheet_61 rfl 0 rfl ?_
            refine w_ldc (v := (-1000001)) m_1433 dX12_sheet_62 ?_
            refine w_callV (as := [vI (-1000001)]) (rest := []) (c_X12_finding l G cy ad (d + 1) (-1000001) Mz hIz (by first | decide | (unfold vF; omega) | (unfold vRw; omega))) kV_X12_finding pnn_17 (Nat.le_of_ble_eq_true rfl) m_1434 rfl rfl rfl ic_12 rfl rfl (by decide) (Nat.le_of_ble_eq_true rfl) dX12_sheet_64 (fun r69_ M70_ q71_ => ?_)
            obtain ⟨hI73_, hF74_, h72_, hs76_⟩ := q71_
            have hF75_ := hFz.tr hF74_ (fun c k => (fun h => h.elim (fun h => (Or.inr (Or.inr (Or.inr (Or.inl ⟨h.1, h.2⟩))))) (fun h => h.elim)))
            simp only [li_m1000001] at h72_
            exact w_iret rfl dX12_sheet_67 ⟨hI73_, hF75_, (lf_c_X12_sheet_31 v u t r69_ h4_ h7_ h37_ h38_ h39_ h40_ h41_ h72_ ), (Or.inl ⟨hs5_, h4_, (Or.inr ⟨h7_, (Or.inl ⟨h37_, h38_, (Or.inl ⟨h39_, h40_, (Or.inr ⟨h41_, M70_, hI73_, hF74_, r69_, hs76_, h72_, rfl, rfl⟩)⟩)⟩)⟩)⟩)⟩
        · refine w_aload_n dX12_sheet_44 rfl 0 rfl ?_
          refine w_ldc (v := (-1000003)) m_1455 dX12_sheet_45 ?_
          refine w_callV (as := [vI (-1000003)]) (rest := []) (c_X12_finding l G cy ad (d + 1) (-1000003) Mz hIz (by first | decide | (unfold vF; omega) | (unfold vRw; omega))) kV_X12_finding pnn_17 (Nat.le_of_ble_eq_true rfl) m_1434 rfl rfl rfl ic_12 rfl rfl (by decide) (Nat.le_of_ble_eq_true rfl) dX12_sheet_47 (fun r77_ M78_ q79_ => ?_)
          obtain ⟨hI81_, hF82_, h80_, hs84_⟩ := q79_
          have hF83_ := hFz.tr hF82_ (fun c k => (fun h => h.elim (fun h => (Or.inr (Or.inr (Or.inr (Or.inl ⟨h.1, h.2⟩))))) (fun h => h.elim)))
          simp only [li_m1000003] at h80_
          exact w_iret rfl dX12_sheet_50 ⟨hI81_, hF83_, (lf_c_X12_sheet_32 v u t r77_ h4_ h7_ h37_ h38_ h39_ h80_ ), (Or.inl ⟨hs5_, h4_, (Or.inr ⟨h7_, (Or.inl ⟨h37_, h38_, (Or.inr ⟨h39_, M78_, hI81_, hF82_, r77_, hs84_, h80_, rfl, rfl⟩)⟩)⟩)⟩)⟩
      · refine w_iload_n dX12_sheet_17 rfl 2 rfl ?_
        refine w_bipush (v := 16) dX12_sheet_18 (by decide) ?_
        refine w_icmp_eq (tgt := 36) dX12_sheet_20 (by decide) (rfl : u.toInt = u.toInt) li_16 (fun h85_ => ?_) (fun h85_ => ?_)
        · refine w_iload_n dX12_sheet_36 rfl 2 rfl ?_
          refine w_if_eq (tgt := 51) dX12_sheet_37 (by decide) (rfl : u.toInt = u.toInt) (fun h9 => (lf_c_X11_sheet_4 u h85_ h9 ).elim) (fun h86_ => ?_)
          refine w_iload_n dX12_sheet_40 rfl 3 rfl ?_
          refine w_if_ge (tgt := 51) dX12_sheet_41 (by decide) (rfl : t.toInt = t.toInt) (fun h87_ => ?_) (fun h87_ => ?_)
          · refine w_iload_n dX12_sheet_51 rfl 2 rfl ?_
            refine w_if_eq (tgt := 68) dX12_sheet_52 (by decide) (rfl : u.toInt = u.toInt) (fun h9 => (lf_c_X11_sheet_4 u h85_ h9 ).elim) (fun h88_ => ?_)
            refine w_iload_n dX12_sheet_55 rfl 3 rfl ?_
            refine w_bipush (v := 24) dX12_sheet_56 (by decide) ?_
            refine w_icmp_le (tgt := 68) dX12_sheet_58 (by decide) (rfl : t.toInt = t.toInt) li_24 (fun h89_ => ?_) (fun h89_ => ?_)
            · refine w_aload_n dX12_sheet_68 rfl 0 rfl ?_
              refine w_getR (c' := (66, 0, 0)) fl_RX12_72 rfl rfl ic_12 dX12_sheet_69 rfl ?_
              refine w_iload_n dX12_sheet_72 rfl 1 rfl ?_
              refine w_iload_n dX12_sheet_73 rfl 2 rfl ?_
              refine w_iast DD_nd rfl rfl ic_66 (rfl : v.toInt = v.toInt) (lf_c_X11_lays_0 v h4_ ) dX12_sheet_74 (fun j92_ h93_ M90_ hM91_ => ?_)
              have hI94_ := hIz.put hM91_ ⟨trivial, Or.inr (by decide)⟩
              have hF95_ := hFz.put hM91_ (Or.inl ⟨rfl, rfl⟩)
              refine w_aload_n dX12_sheet_75 rfl 0 rfl ?_
              refine w_getR (c' := (67, 0, 0)) fl_RX12_75 rfl rfl ic_12 dX12_sheet_76 rfl ?_
              refine w_iload_n dX12_sheet_79 rfl 1 rfl ?_
              refine w_iload_n dX12_sheet_80 rfl 2 rfl ?_
              refine w_if_ne (tgt := 88) dX12_sheet_81 (by decide) (rfl : u.toInt = u.toInt) (fun h96_ => ?_) (fun h9 => (lf_c_X11_sheet_4 u h85_ h9 ).elim)
              refine w_iload_n dX12_sheet_88 rfl 3 rfl ?_
              refine w_iast DD_nd rfl rfl ic_67 (rfl : v.toInt = v.toInt) (lf_c_X11_lays_0 v h4_ ) dX12_sheet_89 (fun j99_ h100_ M97_ hM98_ => ?_)
              have hI101_ := hI94_.put hM98_ ⟨(lf_c_X12_sheet_20 t h87_ h89_ ), Or.inr (by decide)⟩
              have hF102_ := hF95_.put hM98_ (Or.inr (Or.inl ⟨rfl, rfl⟩))
              refine w_iconst (v := 0) dX12_sheet_90 (by decide) ?_
              refine w_istore (ls' := [(4, vI 0), (0, vR (12, 0, 0)), (1, vI v), (2, vI u), (3, vI t)]) dX12_sheet_91 (by decide) rfl ?_
              have lp103_ : ∀ (nn_93 : Nat) (M_93 : mM) (hI_93 : InvD M_93) (hF_93 : FR (S_c_X12_sheet) Mz M_93) (v4_93 : Int32) (hv0_93 : 0 ≤ v4_93.toInt) (hv1_93 : v4_93.toInt ≤ 24) (hL_93 : RCH (fun x_ y_ => ST_X12_sheet_93c v Mz x_.1 x_.2 y_.1 y_.2) ((0 : Int32), M97_) (v4_93, M_93)), (2147483648 - v4_93.toInt).toNat < nn_93 → WP DD l G cy ad yX12_sheet cX12_sheet 5 (some .int) (d + 2) 93 [(4, vI v4_93), (0, vR (12, 0, 0)), (1, vI v), (2, vI u), (3, vI t)] [] M_93 (fun r M' => InvD M' ∧ FR (S_c_X12_sheet) Mz M' ∧ ((((¬ (0 ≤ v.toInt ∧ v.toInt ≤ 3) ∨ (¬ u.toInt = 0 ∧ ¬ u.toInt = 8 ∧ ¬ u.toInt = 16 ∧ ¬ u.toInt = 32)) ∧ r.toInt = -1000001) ∨ ((0 ≤ v.toInt ∧ v.toInt ≤ 3) ∧ (u.toInt = 0 ∨ u.toInt = 8 ∨ u.toInt = 16 ∨ u.toInt = 32) ∧ ((¬ u.toInt = 0 ∧ t.toInt < 0 ∧ r.toInt = -1000003) ∨ (¬ u.toInt = 0 ∧ 24 < t.toInt ∧ r.toInt = -1000001) ∨ ((u.toInt = 0 ∨ (0 ≤ t.toInt ∧ t.toInt ≤ 24)) ∧ r.toInt = 1))))) ∧ SP_X12_sheet v u t Mz r M') := by
                intro nn_93
                induction nn_93 with
                | zero => intro M_93 hI_93 hF_93 v4_93 hv0_93 hv1_93 hL_93 hm_93; exact absurd hm_93 (Nat.not_lt_zero _)
                | succ nn_93 ih_93 =>
                  intro M_93 hI_93 hF_93 v4_93 hv0_93 hv1_93 hL_93 hm_93
                  refine w_iload dX12_sheet_93 0 rfl ?_
                  refine w_bipush (v := 24) dX12_sheet_95 (by decide) ?_
                  refine w_icmp_ge (tgt := 119) dX12_sheet_97 (by decide) (rfl : v4_93.toInt = v4_93.toInt) li_24 (fun h104_ => ?_) (fun h104_ => ?_)
                  · refine w_iconst (v := 1) dX12_sheet_119 (by decide) ?_
                    exact w_iret rfl dX12_sheet_120 ⟨hI_93, hF_93, (lf_c_X12_sheet_39 M90_ M97_ Mz v u t j92_ j99_ h4_ h7_ h37_ h85_ h86_ h87_ h88_ h89_ h93_ hM91_ h96_ h100_ hM98_ ), (Or.inl ⟨hs5_, h4_, (Or.inr ⟨h7_, (Or.inr ⟨h37_, (Or.inl ⟨h85_, h86_, (Or.inl ⟨h87_, h88_, (Or.inl ⟨h89_, j92_, h93_, M90_, hM91_, h96_, j99_, h100_, M97_, hM98_, v4_93, hv0_93, hv1_93, M_93, hL_93, hI_93, hF_93, h104_, rfl, rfl⟩)⟩)⟩)⟩)⟩)⟩)⟩
                  · refine w_aload_n dX12_sheet_100 rfl 1 rfl ?_
                    refine w_getR (c' := (68, 0, 0)) fl_RX12_78 rfl rfl ic_12 dX12_sheet_101 rfl ?_
                    refine w_bipush (v := 24) dX12_sheet_104 (by decide) ?_
                    refine w_iload_n dX12_sheet_106 rfl 2 rfl ?_
                    refine w_imulB dX12_sheet_107 li_24 (rfl : v.toInt = v.toInt) (lf_c_X12_lays_7 v h4_ ) (fun z105_ h106_ => ?_)
                    refine w_iload dX12_sheet_108 0 rfl ?_
                    refine w_iaddB dX12_sheet_110 (rfl : z105_.toInt = z105_.toInt) (rfl : v4_93.toInt = v4_93.toInt) (lf_c_X12_sheet_7 v v4_93 z105_ h4_ hv0_93 h104_ h106_ ) (fun z107_ h108_ => ?_)
                    refine w_iconst (v := 0) dX12_sheet_111 (by decide) ?_
                    refine w_iast DD_nd rfl rfl ic_68 (rfl : z107_.toInt = z107_.toInt) (lf_c_X12_sheet_8 v v4_93 z105_ z107_ h4_ hv0_93 h104_ h106_ h108_ ) dX12_sheet_112 (fun j111_ h112_ M109_ hM110_ => ?_)
                    have hI113_ := hI_93.put hM110_ ⟨trivial, Or.inr (by decide)⟩
                    have hF114_ := hF_93.put hM110_ (Or.inr (Or.inr (Or.inl ⟨rfl, rfl⟩)))
                    refine w_iincB (j := 0) (f := fun z115_ => [(4, vI z115_), (0, vR (12, 0, 0)), (1, vI v), (2, vI u), (3, vI t)]) dX12_sheet_113 rfl (by decide) (fun _ => rfl) (rfl : v4_93.toInt = v4_93.toInt) li_1 (lf_c_X6_begin_2 v4_93 hv0_93 h104_ ) (fun z115_ h116_ => ?_)
                    refine w_goto (tgt := 93) dX12_sheet_116 (by decide) ?_
                    refine w_loc (ls' := [(4, vI z115_), (0, vR (12, 0, 0)), (1, vI v), (2, vI u), (3, vI t)]) [0, 1, 2, 3, 4] rfl ?_
                    exact ih_93 M109_ hI113_ hF114_ z115_ (lf_c_X5_takeFrom_3 v4_93 z115_ hv0_93 h116_ ) (lf_c_X6_begin_4 v4_93 z115_ h104_ h116_ ) (RCH.tail hL_93 ⟨hv0_93, hv1_93, hI_93, hF_93, h104_, z105_, h106_, z107_, h108_, j111_, h112_, M109_, hM110_, z115_, h116_, rfl, rfl⟩) (Nat.lt_of_lt_of_le (lf_c_X6_begin_5 v4_93 z115_ h104_ h116_ ) (Nat.le_of_lt_succ hm_93))
              exact lp103_ _ M97_ hI101_ hF102_ 0 (lf_c_X5_takeFrom_5 ) (lf_c_X6_begin_7 ) RCH.refl (Nat.lt_succ_self _)
            · refine w_aload_n dX12_sheet_61 rfl 0 rfl ?_
              refine w_ldc (v := (-1000001)) m_1433 dX12_sheet_62 ?_
              refine w_callV (as := [vI (-1000001)]) (rest := []) (c_X12_finding l G cy ad (d + 1) (-1000001) Mz hIz (by first | decide | (unfold vF; omega) | (unfold vRw; omega))) kV_X12_finding pnn_17 (Nat.le_of_ble_eq_true rfl) m_1434 rfl rfl rfl ic_12 rfl rfl (by decide) (Nat.le_of_ble_eq_true rfl) dX12_sheet_64 (fun r117_ M118_ q119_ => ?_)
              obtain ⟨hI121_, hF122_, h120_, hs124_⟩ := q119_
              have hF123_ := hFz.tr hF122_ (fun c k => (fun h => h.elim (fun h => (Or.inr (Or.inr (Or.inr (Or.inl ⟨h.1, h.2⟩))))) (fun h => h.elim)))
              simp only [li_m1000001] at h120_
              exact w_iret rfl dX12_sheet_67 ⟨hI121_, hF123_, (lf_c_X12_sheet_49 v u t r117_ h4_ h7_ h37_ h85_ h86_ h87_ h88_ h89_ h120_ ), (Or.inl ⟨hs5_, h4_, (Or.inr ⟨h7_, (Or.inr ⟨h37_, (Or.inl ⟨h85_, h86_, (Or.inl ⟨h87_, h88_, (Or.inr ⟨h89_, M118_, hI121_, hF122_, r117_, hs124_, h120_, rfl, rfl⟩)⟩)⟩)⟩)⟩)⟩)⟩
          · refine w_aload_n dX12_sheet_44 rfl 0 rfl ?_
            refine w_ldc (v := (-1000003)) m_1455 dX12_sheet_45 ?_
            refine w_callV (as := [vI (-1000003)]) (rest := []) (c_X12_finding l G cy ad (d + 1) (-1000003) Mz hIz (by first | decide | (unfold vF; omega) | (unfold vRw; omega))) kV_X12_finding pnn_17 (Nat.le_of_ble_eq_true rfl) m_1434 rfl rfl rfl ic_12 rfl rfl (by decide) (Nat.le_of_ble_eq_true rfl) dX12_sheet_47 (fun r125_ M126_ q127_ => ?_)
            obtain ⟨hI129_, hF130_, h128_, hs132_⟩ := q127_
            have hF131_ := hFz.tr hF130_ (fun c k => (fun h => h.elim (fun h => (Or.inr (Or.inr (Or.inr (Or.inl ⟨h.1, h.2⟩))))) (fun h => h.elim)))
            simp only [li_m1000003] at h128_
            exact w_iret rfl dX12_sheet_50 ⟨hI129_, hF131_, (lf_c_X12_sheet_50 v u t r125_ h4_ h7_ h37_ h85_ h86_ h87_ h128_ ), (Or.inl ⟨hs5_, h4_, (Or.inr ⟨h7_, (Or.inr ⟨h37_, (Or.inl ⟨h85_, h86_, (Or.inr ⟨h87_, M126_, hI129_, hF130_, r125_, hs132_, h128_, rfl, rfl⟩)⟩)⟩)⟩)⟩)⟩
        · refine w_iload_n dX12_sheet_23 rfl 2 rfl ?_
          refine w_bipush (v := 32) dX12_sheet_24 (by decide) ?_
          refine w_icmp_eq (tgt := 36) dX12_sheet_26 (by decide) (rfl : u.toInt = u.toInt) li_32 (fun h133_ => ?_) (fun h133_ => ?_)
          · refine w_iload_n dX12_sheet_36 rfl 2 rfl ?_
            refine w_if_eq (tgt := 51) dX12_sheet_37 (by decide) (rfl : u.toInt = u.toInt) (fun h9 => (lf_c_X11_sheet_6 u h133_ h9 ).elim) (fun h134_ => ?_)
            refine w_iload_n dX12_sheet_40 rfl 3 rfl ?_
            refine w_if_ge (tgt := 51) dX12_sheet_41 (by decide) (rfl : t.toInt = t.toInt) (fun h135_ => ?_) (fun h135_ => ?_)
            · refine w_iload_n dX12_sheet_51 rfl 2 rfl ?_
              refine w_if_eq (tgt := 68) dX12_sheet_52 (by decide) (rfl : u.toInt = u.toInt) (fun h9 => (lf_c_X11_sheet_6 u h133_ h9 ).elim) (fun h136_ => ?_)
              refine w_iload_n dX12_sheet_55 rfl 3 rfl ?_
              refine w_bipush (v := 24) dX12_sheet_56 (by decide) ?_
              refine w_icmp_le (tgt := 68) dX12_sheet_58 (by decide) (rfl : t.toInt = t.toInt) li_24 (fun h137_ => ?_) (fun h137_ => ?_)
              · refine w_aload_n dX12_sheet_68 rfl 0 rfl ?_
                refine w_getR (c' := (66, 0, 0)) fl_RX12_72 rfl rfl ic_12 dX12_sheet_69 rfl ?_
                refine w_iload_n dX12_sheet_72 rfl 1 rfl ?_
                refine w_iload_n dX12_sheet_73 rfl 2 rfl ?_
                refine w_iast DD_nd rfl rfl ic_66 (rfl : v.toInt = v.toInt) (lf_c_X11_lays_0 v h4_ ) dX12_sheet_74 (fun j140_ h141_ M138_ hM139_ => ?_)
                have hI142_ := hIz.put hM139_ ⟨trivial, Or.inr (by decide)⟩
                have hF143_ := hFz.put hM139_ (Or.inl ⟨rfl, rfl⟩)
                refine w_aload_n dX12_sheet_75 rfl 0 rfl ?_
                refine w_getR (c' := (67, 0, 0)) fl_RX12_75 rfl rfl ic_12 dX12_sheet_76 rfl ?_
                refine w_iload_n dX12_sheet_79 rfl 1 rfl ?_
                refine w_iload_n dX12_sheet_80 rfl 2 rfl ?_
                refine w_if_ne (tgt := 88) dX12_sheet_81 (by decide) (rfl : u.toInt = u.toInt) (fun h144_ => ?_) (fun h9 => (lf_c_X11_sheet_6 u h133_ h9 ).elim)
                refine w_iload_n dX12_sheet_88 rfl 3 rfl ?_
                refine w_iast DD_nd rfl rfl ic_67 (rfl : v.toInt = v.toInt) (lf_c_X11_lays_0 v h4_ ) dX12_sheet_89 (fun j147_ h148_ M145_ hM146_ => ?_)
                have hI149_ := hI142_.put hM146_ ⟨(lf_c_X12_sheet_20 t h135_ h137_ ), Or.inr (by decide)⟩
                have hF150_ := hF143_.put hM146_ (Or.inr (Or.inl ⟨rfl, rfl⟩))
                refine w_iconst (v := 0) dX12_sheet_90 (by decide) ?_
                refine w_istore (ls' := [(4, vI 0), (0, vR (12, 0, 0)), (1, vI v), (2, vI u), (3, vI t)]) dX12_sheet_91 (by decide) rfl ?_
                have lp151_ : ∀ (nn_93 : Nat) (M_93 : mM) (hI_93 : InvD M_93) (hF_93 : FR (S_c_X12_sheet) Mz M_93) (v4_93 : Int32) (hv0_93 : 0 ≤ v4_93.toInt) (hv1_93 : v4_93.toInt ≤ 24) (hL_93 : RCH (fun x_ y_ => ST_X12_sheet_93d v Mz x_.1 x_.2 y_.1 y_.2) ((0 : Int32), M145_) (v4_93, M_93)), (2147483648 - v4_93.toInt).toNat < nn_93 → WP DD l G cy ad yX12_sheet cX12_sheet 5 (some .int) (d + 2) 93 [(4, vI v4_93), (0, vR (12, 0, 0)), (1, vI v), (2, vI u), (3, vI t)] [] M_93 (fun r M' => InvD M' ∧ FR (S_c_X12_sheet) Mz M' ∧ ((((¬ (0 ≤ v.toInt ∧ v.toInt ≤ 3) ∨ (¬ u.toInt = 0 ∧ ¬ u.toInt = 8 ∧ ¬ u.toInt = 16 ∧ ¬ u.toInt = 32)) ∧ r.toInt = -1000001) ∨ ((0 ≤ v.toInt ∧ v.toInt ≤ 3) ∧ (u.toInt = 0 ∨ u.toInt = 8 ∨ u.toInt = 16 ∨ u.toInt = 32) ∧ ((¬ u.toInt = 0 ∧ t.toInt < 0 ∧ r.toInt = -1000003) ∨ (¬ u.toInt = 0 ∧ 24 < t.toInt ∧ r.toInt = -1000001) ∨ ((u.toInt = 0 ∨ (0 ≤ t.toInt ∧ t.toInt ≤ 24)) ∧ r.toInt = 1))))) ∧ SP_X12_sheet v u t Mz r M') := by
                  intro nn_93
                  induction nn_93 with
                  | zero => intro M_93 hI_93 hF_93 v4_93 hv0_93 hv1_93 hL_93 hm_93; exact absurd hm_93 (Nat.not_lt_zero _)
                  | succ nn_93 ih_93 =>
                    intro M_93 hI_93 hF_93 v4_93 hv0_93 hv1_93 hL_93 hm_93
                    refine w_iload dX12_sheet_93 0 rfl ?_
                    refine w_bipush (v := 24) dX12_sheet_95 (by decide) ?_
                    refine w_icmp_ge (tgt := 119) dX12_sheet_97 (by decide) (rfl : v4_93.toInt = v4_93.toInt) li_24 (fun h152_ => ?_) (fun h152_ => ?_)
                    · refine w_iconst (v := 1) dX12_sheet_119 (by decide) ?_
                      exact w_iret rfl dX12_sheet_120 ⟨hI_93, hF_93, (lf_c_X12_sheet_57 M138_ M145_ Mz v u t j140_ j147_ h4_ h7_ h37_ h85_ h133_ h134_ h135_ h136_ h137_ h141_ hM139_ h144_ h148_ hM146_ ), (Or.inl ⟨hs5_, h4_, (Or.inr ⟨h7_, (Or.inr ⟨h37_, (Or.inr ⟨h85_, (Or.inl ⟨h133_, h134_, (Or.inl ⟨h135_, h136_, (Or.inl ⟨h137_, j140_, h141_, M138_, hM139_, h144_, j147_, h148_, M145_, hM146_, v4_93, hv0_93, hv1_93, M_93, hL_93, hI_93, hF_93, h152_, rfl, rfl⟩)⟩)⟩)⟩)⟩)⟩)⟩)⟩
                    · refine w_aload_n dX12_sheet_100 rfl 1 rfl ?_
                      refine w_getR (c' := (68, 0, 0)) fl_RX12_78 rfl rfl ic_12 dX12_sheet_101 rfl ?_
                      refine w_bipush (v := 24) dX12_sheet_104 (by decide) ?_
                      refine w_iload_n dX12_sheet_106 rfl 2 rfl ?_
                      refine w_imulB dX12_sheet_107 li_24 (rfl : v.toInt = v.toInt) (lf_c_X12_lays_7 v h4_ ) (fun z153_ h154_ => ?_)
                      refine w_iload dX12_sheet_108 0 rfl ?_
                      refine w_iaddB dX12_sheet_110 (rfl : z153_.toInt = z153_.toInt) (rfl : v4_93.toInt = v4_93.toInt) (lf_c_X12_sheet_7 v v4_93 z153_ h4_ hv0_93 h152_ h154_ ) (fun z155_ h156_ => ?_)
                      refine w_iconst (v := 0) dX12_sheet_111 (by decide) ?_
                      refine w_iast DD_nd rfl rfl ic_68 (rfl : z155_.toInt = z155_.toInt) (lf_c_X12_sheet_8 v v4_93 z153_ z155_ h4_ hv0_93 h152_ h154_ h156_ ) dX12_sheet_112 (fun j159_ h160_ M157_ hM158_ => ?_)
                      have hI161_ := hI_93.put hM158_ ⟨trivial, Or.inr (by decide)⟩
                      have hF162_ := hF_93.put hM158_ (Or.inr (Or.inr (Or.inl ⟨rfl, rfl⟩)))
                      refine w_iincB (j := 0) (f := fun z163_ => [(4, vI z163_), (0, vR (12, 0, 0)), (1, vI v), (2, vI u), (3, vI t)]) dX12_sheet_113 rfl (by decide) (fun _ => rfl) (rfl : v4_93.toInt = v4_93.toInt) li_1 (lf_c_X6_begin_2 v4_93 hv0_93 h152_ ) (fun z163_ h164_ => ?_)
                      refine w_goto (tgt := 93) dX12_sheet_116 (by decide) ?_
                      refine w_loc (ls' := [(4, vI z163_), (0, vR (12, 0, 0)), (1, vI v), (2, vI u), (3, vI t)]) [0, 1, 2, 3, 4] rfl ?_
                      exact ih_93 M157_ hI161_ hF162_ z163_ (lf_c_X5_takeFrom_3 v4_93 z163_ hv0_93 h164_ ) (lf_c_X6_begin_4 v4_93 z163_ h152_ h164_ ) (RCH.tail hL_93 ⟨hv0_93, hv1_93, hI_93, hF_93, h152_, z153_, h154_, z155_, h156_, j159_, h160_, M157_, hM158_, z163_, h164_, rfl, rfl⟩) (Nat.lt_of_lt_of_le (lf_c_X6_begin_5 v4_93 z163_ h152_ h164_ ) (Nat.le_of_lt_succ hm_93))
                exact lp151_ _ M145_ hI149_ hF150_ 0 (lf_c_X5_takeFrom_5 ) (lf_c_X6_begin_7 ) RCH.refl (Nat.lt_succ_self _)
              · refine w_aload_n dX12_sheet_61 rfl 0 rfl ?_
                refine w_ldc (v := (-1000001)) m_1433 dX12_sheet_62 ?_
                refine w_callV (as := [vI (-1000001)]) (rest := []) (c_X12_finding l G cy ad (d + 1) (-1000001) Mz hIz (by first | decide | (unfold vF; omega) | (unfold vRw; omega))) kV_X12_finding pnn_17 (Nat.le_of_ble_eq_true rfl) m_1434 rfl rfl rfl ic_12 rfl rfl (by decide) (Nat.le_of_ble_eq_true rfl) dX12_sheet_64 (fun r165_ M166_ q167_ => ?_)
                obtain ⟨hI169_, hF170_, h168_, hs172_⟩ := q167_
                have hF171_ := hFz.tr hF170_ (fun c k => (fun h => h.elim (fun h => (Or.inr (Or.inr (Or.inr (Or.inl ⟨h.1, h.2⟩))))) (fun h => h.elim)))
                simp only [li_m1000001] at h168_
                exact w_iret rfl dX12_sheet_67 ⟨hI169_, hF171_, (lf_c_X12_sheet_67 v u t r165_ h4_ h7_ h37_ h85_ h133_ h134_ h135_ h136_ h137_ h168_ ), (Or.inl ⟨hs5_, h4_, (Or.inr ⟨h7_, (Or.inr ⟨h37_, (Or.inr ⟨h85_, (Or.inl ⟨h133_, h134_, (Or.inl ⟨h135_, h136_, (Or.inr ⟨h137_, M166_, hI169_, hF170_, r165_, hs172_, h168_, rfl, rfl⟩)⟩)⟩)⟩)⟩)⟩)⟩)⟩
            · refine w_aload_n dX12_sheet_44 rfl 0 rfl ?_
              refine w_ldc (v := (-1000003)) m_1455 dX12_sheet_45 ?_
              refine w_callV (as := [vI (-1000003)]) (rest := []) (c_X12_finding l G cy ad (d + 1) (-1000003) Mz hIz (by first | decide | (unfold vF; omega) | (unfold vRw; omega))) kV_X12_finding pnn_17 (Nat.le_of_ble_eq_true rfl) m_1434 rfl rfl rfl ic_12 rfl rfl (by decide) (Nat.le_of_ble_eq_true rfl) dX12_sheet_47 (fun r173_ M174_ q175_ => ?_)
              obtain ⟨hI177_, hF178_, h176_, hs180_⟩ := q175_
              have hF179_ := hFz.tr hF178_ (fun c k => (fun h => h.elim (fun h => (Or.inr (Or.inr (Or.inr (Or.inl ⟨h.1, h.2⟩))))) (fun h => h.elim)))
              simp only [li_m1000003] at h176_
              exact w_iret rfl dX12_sheet_50 ⟨hI177_, hF179_, (lf_c_X12_sheet_68 v u t r173_ h4_ h7_ h37_ h85_ h133_ h134_ h135_ h176_ ), (Or.inl ⟨hs5_, h4_, (Or.inr ⟨h7_, (Or.inr ⟨h37_, (Or.inr ⟨h85_, (Or.inl ⟨h133_, h134_, (Or.inr ⟨h135_, M174_, hI177_, hF178_, r173_, hs180_, h176_, rfl, rfl⟩)⟩)⟩)⟩)⟩)⟩)⟩
          · refine w_aload_n dX12_sheet_29 rfl 0 rfl ?_
            refine w_ldc (v := (-1000001)) m_1433 dX12_sheet_30 ?_
            refine w_callV (as := [vI (-1000001)]) (rest := []) (c_X12_finding l G cy ad (d + 1) (-1000001) Mz hIz (by first | decide | (unfold vF; omega) | (unfold vRw; omega))) kV_X12_finding pnn_17 (Nat.le_of_ble_eq_true rfl) m_1434 rfl rfl rfl ic_12 rfl rfl (by decide) (Nat.le_of_ble_eq_true rfl) dX12_sheet_32 (fun r181_ M182_ q183_ => ?_)
            obtain ⟨hI185_, hF186_, h184_, hs188_⟩ := q183_
            have hF187_ := hFz.tr hF186_ (fun c k => (fun h => h.elim (fun h => (Or.inr (Or.inr (Or.inr (Or.inl ⟨h.1, h.2⟩))))) (fun h => h.elim)))
            simp only [li_m1000001] at h184_
            exact w_iret rfl dX12_sheet_35 ⟨hI185_, hF187_, (lf_c_X12_sheet_69 v u t r181_ h4_ h7_ h37_ h85_ h133_ h184_ ), (Or.inl ⟨hs5_, h4_, (Or.inr ⟨h7_, (Or.inr ⟨h37_, (Or.inr ⟨h85_, (Or.inr ⟨h133_, M182_, hI185_, hF186_, r181_, hs188_, h184_, rfl, rfl⟩)⟩)⟩)⟩)⟩)⟩
  · refine w_if_eq (tgt := 29) dX12_sheet_4 (by decide) li_0 (fun h189_ => ?_) (fun h9 => (absurd h9 (by decide)))
    refine w_aload_n dX12_sheet_29 rfl 0 rfl ?_
    refine w_ldc (v := (-1000001)) m_1433 dX12_sheet_30 ?_
    refine w_callV (as := [vI (-1000001)]) (rest := []) (c_X12_finding l G cy ad (d + 1) (-1000001) Mz hIz (by first | decide | (unfold vF; omega) | (unfold vRw; omega))) kV_X12_finding pnn_17 (Nat.le_of_ble_eq_true rfl) m_1434 rfl rfl rfl ic_12 rfl rfl (by decide) (Nat.le_of_ble_eq_true rfl) dX12_sheet_32 (fun r190_ M191_ q192_ => ?_)
    obtain ⟨hI194_, hF195_, h193_, hs197_⟩ := q192_
    have hF196_ := hFz.tr hF195_ (fun c k => (fun h => h.elim (fun h => (Or.inr (Or.inr (Or.inr (Or.inl ⟨h.1, h.2⟩))))) (fun h => h.elim)))
    simp only [li_m1000001] at h193_
    exact w_iret rfl dX12_sheet_35 ⟨hI194_, hF196_, (lf_c_X12_sheet_70 v u t r190_ h4_ h193_ ), (Or.inr ⟨hs5_, h4_, M191_, hI194_, hF195_, r190_, hs197_, h193_, rfl, rfl⟩)⟩
def S_c_X12_put : rf → Nat → Prop := fun c k => (c.1 = 68 ∧ c.2.1 = 0) ∨ (c.1 = 53 ∧ c.2.1 = 0) ∨ False
def SP_X12_put (v : Int32) (u : Int32) (t : Int32) (Mz : mM) (r_ : Int32) (M_ : mM) : Prop := (((SP_X12_isSheet v Mz (1 : Int32)) ∧ (0 ≤ v.toInt ∧ v.toInt ≤ 3) ∧ ∃ j9_ : Nat, ((j9_ : Int) = v.toInt) ∧ ∃ z7_ : Int32, (z7_ = Mz.1 (66, 0, 0) j9_) ∧ (((¬ z7_.toInt = 0) ∧ ∃ j14_ : Nat, ((j14_ : Int) = v.toInt) ∧ ∃ z12_ : Int32, (z12_ = Mz.1 (67, 0, 0) j14_) ∧ (0 ≤ z12_.toInt ∧ z12_.toInt ≤ 24) ∧ ∃ z17_ : Int32, (z17_.toInt = z12_.toInt - 1) ∧ (((SP_X12_within u 0 z17_ Mz (1 : Int32)) ∧ (0 ≤ u.toInt ∧ u.toInt ≤ z17_.toInt) ∧ ∃ z25_ : Int32, (z25_.toInt = 24 * v.toInt) ∧ ∃ z27_ : Int32, (z27_.toInt = z25_.toInt + u.toInt) ∧ ∃ j31_ : Nat, ((j31_ : Int) = v.toInt) ∧ ∃ z29_ : Int32, (z29_ = Mz.1 (66, 0, 0) j31_) ∧ (((¬ z29_.toInt = 8) ∧ ∃ j36_ : Nat, ((j36_ : Int) = v.toInt) ∧ ∃ z34_ : Int32, (z34_ = Mz.1 (66, 0, 0) j36_) ∧ (((¬ z34_.toInt = 16) ∧ ∃ j41_ : Nat, ((j41_ : Int) = z27_.toInt) ∧ ∃ M39_ : mM, (M39_ = up Mz (68, 0, 0) j41_ t) ∧ r_ = 1 ∧ M_ = M39_) ∨ ((z34_.toInt = 16) ∧ ∃ z45_ : Int32, (z45_ = t.toInt16.toInt32) ∧ ∃ j49_ : Nat, ((j49_ : Int) = z27_.toInt) ∧ ∃ M47_ : mM, (M47_ = up Mz (68, 0, 0) j49_ z45_) ∧ r_ = 1 ∧ M_ = M47_))) ∨ ((z29_.toInt = 8) ∧ ∃ z53_ : Int32, (z53_ = t.toInt8.toInt32) ∧ ∃ j57_ : Nat, ((j57_ : Int) = z27_.toInt) ∧ ∃ M55_ : mM, (M55_ = up Mz (68, 0, 0) j57_ z53_) ∧ r_ = 1 ∧ M_ = M55_))) ∨ ((SP_X12_within u 0 z17_ Mz (0 : Int32)) ∧ (¬ (0 ≤ u.toInt ∧ u.toInt ≤ z17_.toInt)) ∧ ∃ M63_ : mM, (InvD M63_) ∧ (FR (S_c_X12_finding) Mz M63_) ∧ ∃ r62_ : Int32, (SP_X12_finding (-1000001) Mz r62_ M63_) ∧ (r62_.toInt = (-1000001)) ∧ r_ = r62_ ∧ M_ = M63_))) ∨ ((z7_.toInt = 0) ∧ ∃ M71_ : mM, (InvD M71_) ∧ (FR (S_c_X12_finding) Mz M71_) ∧ ∃ r70_ : Int32, (SP_X12_finding (-1000002) Mz r70_ M71_) ∧ (r70_.toInt = (-1000002)) ∧ r_ = r70_ ∧ M_ = M71_))) ∨ ((SP_X12_isSheet v Mz (0 : Int32)) ∧ (¬ (0 ≤ v.toInt ∧ v.toInt ≤ 3)) ∧ ∃ M80_ : mM, (InvD M80_) ∧ (FR (S_c_X12_finding) Mz M80_) ∧ ∃ r79_ : Int32, (SP_X12_finding (-1000001) Mz r79_ M80_) ∧ (r79_.toInt = (-1000001)) ∧ r_ = r79_ ∧ M_ = M80_))
theorem lf_c_X12_put_2 (z12_ : Int32) (h16_ : 0 ≤ z12_.toInt ∧ z12_.toInt ≤ 24) : -2147483648 ≤ z12_.toInt - 1 ∧ z12_.toInt - 1 < 2147483648 := by omega
theorem lf_c_X12_put_4 (v : Int32) (u : Int32) (z12_ : Int32) (z17_ : Int32) (z25_ : Int32) (h4_ : 0 ≤ v.toInt ∧ v.toInt ≤ 3) (h16_ : 0 ≤ z12_.toInt ∧ z12_.toInt ≤ 24) (h18_ : z17_.toInt = z12_.toInt - 1) (h22_ : 0 ≤ u.toInt ∧ u.toInt ≤ z17_.toInt) (h26_ : z25_.toInt = 24 * v.toInt) : -2147483648 ≤ z25_.toInt + u.toInt ∧ z25_.toInt + u.toInt < 2147483648 := by omega
theorem lf_c_X12_put_7 (v : Int32) (u : Int32) (z12_ : Int32) (z17_ : Int32) (z25_ : Int32) (z27_ : Int32) (h4_ : 0 ≤ v.toInt ∧ v.toInt ≤ 3) (h16_ : 0 ≤ z12_.toInt ∧ z12_.toInt ≤ 24) (h18_ : z17_.toInt = z12_.toInt - 1) (h22_ : 0 ≤ u.toInt ∧ u.toInt ≤ z17_.toInt) (h26_ : z25_.toInt = 24 * v.toInt) (h28_ : z27_.toInt = z25_.toInt + u.toInt) : 0 ≤ z27_.toInt ∧ z27_.toInt < ((96 : Nat) : Int) := by omega
set_option maxHeartbeats 4000000 in
set_option maxRecDepth 100000 in
theorem c_X12_put (l : Launch) (G : va_G) (cy : Nat → ClassId) (ad : rf → Nat) (d : Nat) (v : Int32) (u : Int32) (t : Int32) (Mz : mM) (hIz : InvD Mz) : WP DD l G cy ad yX12_put cX12_put 4 (some .int) (d + 2) 0 [(0, vR (12, 0, 0)), (1, vI v), (2, vI u), (3, vI t)] [] Mz (fun r M' => InvD M' ∧ FR (S_c_X12_put) Mz M' ∧ (True) ∧ SP_X12_put v u t Mz r M') := by
  have hFz : FR (S_c_X12_put) Mz Mz := FR.self
  refine w_iload_n dX12_put_0 rfl 1 rfl ?_
  refine w_callS (as := [vI v]) (rest := []) (c_X12_isSheet l G cy ad d v Mz hIz) kS_X12_isSheet pnn_17 (Nat.le_of_ble_eq_true rfl) m_1497 rfl rfl (by decide) (Nat.le_of_ble_eq_true rfl) dX12_put_1 (fun r1_ M2_ q3_ => ?_)
  obtain ⟨rfl, h4_, hs5_⟩ := q3_
  rcases h4_ with ⟨rfl, h4_⟩ | ⟨rfl, h4_⟩
  · refine w_if_ne (tgt := 14) dX12_put_4 (by decide) li_1 (fun h6_ => ?_) (fun h9 => (absurd h9 (by decide)))
    refine w_aload_n dX12_put_14 rfl 0 rfl ?_
    refine w_getR (c' := (66, 0, 0)) fl_RX12_72 rfl rfl ic_12 dX12_put_15 rfl ?_
    refine w_iload_n dX12_put_18 rfl 1 rfl ?_
    refine w_iald rfl rfl ic_66 (rfl : v.toInt = v.toInt) (lf_c_X11_lays_0 v h4_ ) dX12_put_19 (fun j9_ h10_ z7_ e8_ => ?_)
    refine w_if_ne (tgt := 30) dX12_put_20 (by decide) (rfl : z7_.toInt = z7_.toInt) (fun h11_ => ?_) (fun h11_ => ?_)
    · refine w_iload_n dX12_put_30 rfl 2 rfl ?_
      refine w_iconst (v := 0) dX12_put_31 (by decide) ?_
      refine w_aload_n dX12_put_32 rfl 0 rfl ?_
      refine w_getR (c' := (67, 0, 0)) fl_RX12_75 rfl rfl ic_12 dX12_put_33 rfl ?_
      refine w_iload_n dX12_put_36 rfl 1 rfl ?_
      refine w_iald rfl rfl ic_67 (rfl : v.toInt = v.toInt) (lf_c_X11_lays_0 v h4_ ) dX12_put_37 (fun j14_ h15_ z12_ e13_ => ?_)
      have h16_ : 0 ≤ z12_.toInt ∧ z12_.toInt ≤ 24 := pn_67 hIz e13_
      refine w_iconst (v := 1) dX12_put_38 (by decide) ?_
      refine w_isubB dX12_put_39 (rfl : z12_.toInt = z12_.toInt) li_1 (lf_c_X12_put_2 z12_ h16_ ) (fun z17_ h18_ => ?_)
      refine w_callS (as := [vI u, vI 0, vI z17_]) (rest := []) (c_X12_within l G cy ad (d + 1) u 0 z17_ Mz hIz) kS_X12_within pnn_17 (Nat.le_of_ble_eq_true rfl) m_1427 rfl rfl (by decide) (Nat.le_of_ble_eq_true rfl) dX12_put_40 (fun r19_ M20_ q21_ => ?_)
      obtain ⟨rfl, h22_, hs23_⟩ := q21_
      rcases h22_ with ⟨rfl, h22_⟩ | ⟨rfl, h22_⟩
      · simp only [li_0] at h22_
        refine w_if_ne (tgt := 53) dX12_put_43 (by decide) li_1 (fun h24_ => ?_) (fun h9 => (absurd h9 (by decide)))
        refine w_aload_n dX12_put_53 rfl 0 rfl ?_
        refine w_getR (c' := (68, 0, 0)) fl_RX12_78 rfl rfl ic_12 dX12_put_54 rfl ?_
        refine w_bipush (v := 24) dX12_put_57 (by decide) ?_
        refine w_iload_n dX12_put_59 rfl 1 rfl ?_
        refine w_imulB dX12_put_60 li_24 (rfl : v.toInt = v.toInt) (lf_c_X12_lays_7 v h4_ ) (fun z25_ h26_ => ?_)
        refine w_iload_n dX12_put_61 rfl 2 rfl ?_
        refine w_iaddB dX12_put_62 (rfl : z25_.toInt = z25_.toInt) (rfl : u.toInt = u.toInt) (lf_c_X12_put_4 v u z12_ z17_ z25_ h4_ h16_ h18_ h22_ h26_ ) (fun z27_ h28_ => ?_)
        refine w_aload_n dX12_put_63 rfl 0 rfl ?_
        refine w_getR (c' := (66, 0, 0)) fl_RX12_72 rfl rfl ic_12 dX12_put_64 rfl ?_
        refine w_iload_n dX12_put_67 rfl 1 rfl ?_
        refine w_iald rfl rfl ic_66 (rfl : v.toInt = v.toInt) (lf_c_X11_lays_0 v h4_ ) dX12_put_68 (fun j31_ h32_ z29_ e30_ => ?_)
        refine w_bipush (v := 8) dX12_put_69 (by decide) ?_
        refine w_icmp_ne (tgt := 79) dX12_put_71 (by decide) (rfl : z29_.toInt = z29_.toInt) li_8 (fun h33_ => ?_) (fun h33_ => ?_)
        · refine w_aload_n dX12_put_79 rfl 0 rfl ?_
          refine w_getR (c' := (66, 0, 0)) fl_RX12_72 rfl rfl ic_12 dX12_put_80 rfl ?_
          refine w_iload_n dX12_put_83 rfl 1 rfl ?_
          refine w_iald rfl rfl ic_66 (rfl : v.toInt = v.toInt) (lf_c_X11_lays_0 v h4_ ) dX12_put_84 (fun j36_ h37_ z34_ e35_ => ?_)
          refine w_bipush (v := 16) dX12_put_85 (by decide) ?_
          refine w_icmp_ne (tgt := 95) dX12_put_87 (by decide) (rfl : z34_.toInt = z34_.toInt) li_16 (fun h38_ => ?_) (fun h38_ => ?_)
          · refine w_iload_n dX12_put_95 rfl 3 rfl ?_
            refine w_iast DD_nd rfl rfl ic_68 (rfl : z27_.toInt = z27_.toInt) (lf_c_X12_put_7 v u z12_ z17_ z25_ z27_ h4_ h16_ h18_ h22_ h26_ h28_ ) dX12_put_96 (fun j41_ h42_ M39_ hM40_ => ?_)
            have hI43_ := hIz.put hM40_ ⟨trivial, Or.inr (by decide)⟩
            have hF44_ := hFz.put hM40_ (Or.inl ⟨rfl, rfl⟩)
            refine w_iconst (v := 1) dX12_put_97 (by decide) ?_
            exact w_iret rfl dX12_put_98 ⟨hI43_, hF44_, trivial, (Or.inl ⟨hs5_, h4_, j9_, h10_, z7_, e8_, (Or.inl ⟨h11_, j14_, h15_, z12_, e13_, h16_, z17_, h18_, (Or.inl ⟨hs23_, h22_, z25_, h26_, z27_, h28_, j31_, h32_, z29_, e30_, (Or.inl ⟨h33_, j36_, h37_, z34_, e35_, (Or.inl ⟨h38_, j41_, h42_, M39_, hM40_, rfl, rfl⟩)⟩)⟩)⟩)⟩)⟩
          · refine w_iload_n dX12_put_90 rfl 3 rfl ?_
            refine w_i2s dX12_put_91 (fun z45_ h46_ => ?_)
            refine w_goto (tgt := 96) dX12_put_92 (by decide) ?_
            refine w_iast DD_nd rfl rfl ic_68 (rfl : z27_.toInt = z27_.toInt) (lf_c_X12_put_7 v u z12_ z17_ z25_ z27_ h4_ h16_ h18_ h22_ h26_ h28_ ) dX12_put_96 (fun j49_ h50_ M47_ hM48_ => ?_)
            have hI51_ := hIz.put hM48_ ⟨trivial, Or.inr (by decide)⟩
            have hF52_ := hFz.put hM48_ (Or.inl ⟨rfl, rfl⟩)
            refine w_iconst (v := 1) dX12_put_97 (by decide) ?_
            exact w_iret rfl dX12_put_98 ⟨hI51_, hF52_, trivial, (Or.inl ⟨hs5_, h4_, j9_, h10_, z7_, e8_, (Or.inl ⟨h11_, j14_, h15_, z12_, e13_, h16_, z17_, h18_, (Or.inl ⟨hs23_, h22_, z25_, h26_, z27_, h28_, j31_, h32_, z29_, e30_, (Or.inl ⟨h33_, j36_, h37_, z34_, e35_, (Or.inr ⟨h38_, z45_, h46_, j49_, h50_, M47_, hM48_, rfl, rfl⟩)⟩)⟩)⟩)⟩)⟩
        · refine w_iload_n dX12_put_74 rfl 3 rfl ?_
          refine w_i2b dX12_put_75 (fun z53_ h54_ => ?_)
          refine w_goto (tgt := 96) dX12_put_76 (by decide) ?_
          refine w_iast DD_nd rfl rfl ic_68 (rfl : z27_.toInt = z27_.toInt) (lf_c_X12_put_7 v u z12_ z17_ z25_ z27_ h4_ h16_ h18_ h22_ h26_ h28_ ) dX12_put_96 (fun j57_ h58_ M55_ hM56_ => ?_)
          have hI59_ := hIz.put hM56_ ⟨trivial, Or.inr (by decide)⟩
          have hF60_ := hFz.put hM56_ (Or.inl ⟨rfl, rfl⟩)
          refine w_iconst (v := 1) dX12_put_97 (by decide) ?_
          exact w_iret rfl dX12_put_98 ⟨hI59_, hF60_, trivial, (Or.inl ⟨hs5_, h4_, j9_, h10_, z7_, e8_, (Or.inl ⟨h11_, j14_, h15_, z12_, e13_, h16_, z17_, h18_, (Or.inl ⟨hs23_, h22_, z25_, h26_, z27_, h28_, j31_, h32_, z29_, e30_, (Or.inr ⟨h33_, z53_, h54_, j57_, h58_, M55_, hM56_, rfl, rfl⟩)⟩)⟩)⟩)⟩
      · simp only [li_0] at h22_
        refine w_if_ne (tgt := 53) dX12_put_43 (by decide) li_0 (fun h9 => (absurd h9 (by decide))) (fun h61_ => ?_)
        refine w_aload_n dX12_put_46 rfl 0 rfl ?_
        refine w_ldc (v := (-1000001)) m_1433 dX12_put_47 ?_
        refine w_callV (as := [vI (-1000001)]) (rest := []) (c_X12_finding l G cy ad (d + 1) (-1000001) Mz hIz (by first | decide | (unfold vF; omega) | (unfold vRw; omega))) kV_X12_finding pnn_17 (Nat.le_of_ble_eq_true rfl) m_1434 rfl rfl rfl ic_12 rfl rfl (by decide) (Nat.le_of_ble_eq_true rfl) dX12_put_49 (fun r62_ M63_ q64_ => ?_)
        obtain ⟨hI66_, hF67_, h65_, hs69_⟩ := q64_
        have hF68_ := hFz.tr hF67_ (fun c k => (fun h => h.elim (fun h => (Or.inr (Or.inl ⟨h.1, h.2⟩))) (fun h => h.elim)))
        simp only [li_m1000001] at h65_
        exact w_iret rfl dX12_put_52 ⟨hI66_, hF68_, trivial, (Or.inl ⟨hs5_, h4_, j9_, h10_, z7_, e8_, (Or.inl ⟨h11_, j14_, h15_, z12_, e13_, h16_, z17_, h18_, (Or.inr ⟨hs23_, h22_, M63_, hI66_, hF67_, r62_, hs69_, h65_, rfl, rfl⟩)⟩)⟩)⟩
    · refine w_aload_n dX12_put_23 rfl 0 rfl ?_
      refine w_ldc (v := (-1000002)) m_1500 dX12_put_24 ?_
      refine w_callV (as := [vI (-1000002)]) (rest := []) (c_X12_finding l G cy ad (d + 1) (-1000002) Mz hIz (by first | decide | (unfold vF; omega) | (unfold vRw; omega))) kV_X12_finding pnn_17 (Nat.le_of_ble_eq_true rfl) m_1434 rfl rfl rfl ic_12 rfl rfl (by decide) (Nat.le_of_ble_eq_true rfl) dX12_put_26 (fun r70_ M71_ q72_ => ?_)
      obtain ⟨hI74_, hF75_, h73_, hs77_⟩ := q72_
      have hF76_ := hFz.tr hF75_ (fun c k => (fun h => h.elim (fun h => (Or.inr (Or.inl ⟨h.1, h.2⟩))) (fun h => h.elim)))
      simp only [li_m1000002] at h73_
      exact w_iret rfl dX12_put_29 ⟨hI74_, hF76_, trivial, (Or.inl ⟨hs5_, h4_, j9_, h10_, z7_, e8_, (Or.inr ⟨h11_, M71_, hI74_, hF75_, r70_, hs77_, h73_, rfl, rfl⟩)⟩)⟩
  · refine w_if_ne (tgt := 14) dX12_put_4 (by decide) li_0 (fun h9 => (absurd h9 (by decide))) (fun h78_ => ?_)
    refine w_aload_n dX12_put_7 rfl 0 rfl ?_
    refine w_ldc (v := (-1000001)) m_1433 dX12_put_8 ?_
    refine w_callV (as := [vI (-1000001)]) (rest := []) (c_X12_finding l G cy ad (d + 1) (-1000001) Mz hIz (by first | decide | (unfold vF; omega) | (unfold vRw; omega))) kV_X12_finding pnn_17 (Nat.le_of_ble_eq_true rfl) m_1434 rfl rfl rfl ic_12 rfl rfl (by decide) (Nat.le_of_ble_eq_true rfl) dX12_put_10 (fun r79_ M80_ q81_ => ?_)
    obtain ⟨hI83_, hF84_, h82_, hs86_⟩ := q81_
    have hF85_ := hFz.tr hF84_ (fun c k => (fun h => h.elim (fun h => (Or.inr (Or.inl ⟨h.1, h.2⟩))) (fun h => h.elim)))
    simp only [li_m1000001] at h82_
    exact w_iret rfl dX12_put_13 ⟨hI83_, hF85_, trivial, (Or.inr ⟨hs5_, h4_, M80_, hI83_, hF84_, r79_, hs86_, h82_, rfl, rfl⟩)⟩
def S_c_X12_tell : rf → Nat → Prop := fun c k => (c.1 = 50 ∧ c.2.1 = 0) ∨ (c.1 = 53 ∧ c.2.1 = 0) ∨ False
def SP_X12_tell (v : Int32) (Mz : mM) (r_ : Int32) (M_ : mM) : Prop := ∃ z1_ : Int32, (z1_ = Mz.1 (50, 0, 0) 5) ∧ (0 ≤ z1_.toInt ∧ z1_.toInt ≤ 24) ∧ (((¬ z1_.toInt = 24) ∧ ∃ z6_ : Int32, (z6_ = Mz.1 (50, 0, 0) 5) ∧ (z6_.toInt = z1_.toInt) ∧ (0 ≤ z6_.toInt ∧ z6_.toInt ≤ 24) ∧ ∃ z10_ : Int32, (z10_.toInt = 321 + z6_.toInt) ∧ ∃ j14_ : Nat, ((j14_ : Int) = z10_.toInt) ∧ ∃ M12_ : mM, (M12_ = up Mz (50, 0, 0) j14_ v) ∧ ∃ z19_ : Int32, (z19_ = M12_.1 (50, 0, 0) 5) ∧ (z19_.toInt = z1_.toInt) ∧ (0 ≤ z19_.toInt ∧ z19_.toInt ≤ 24) ∧ ∃ z23_ : Int32, (z23_.toInt = z19_.toInt + 1) ∧ ∃ M25_ : mM, (M25_ = up M12_ (50, 0, 0) 5 z23_) ∧ ∃ z29_ : Int32, (z29_ = M25_.1 (50, 0, 0) 5) ∧ (0 ≤ z29_.toInt ∧ z29_.toInt ≤ 24) ∧ r_ = z29_ ∧ M_ = M25_) ∨ ((z1_.toInt = 24) ∧ ∃ M34_ : mM, (InvD M34_) ∧ (FR (S_c_X12_finding) Mz M34_) ∧ ∃ r33_ : Int32, (SP_X12_finding (-1000004) Mz r33_ M34_) ∧ (r33_.toInt = (-1000004)) ∧ r_ = r33_ ∧ M_ = M34_))
theorem lf_c_X12_tell_0 (z6_ : Int32) (h9_ : 0 ≤ z6_.toInt ∧ z6_.toInt ≤ 24) : -2147483648 ≤ 321 + z6_.toInt ∧ 321 + z6_.toInt < 2147483648 := by omega
theorem lf_c_X12_tell_1 (z6_ : Int32) (z10_ : Int32) (h9_ : 0 ≤ z6_.toInt ∧ z6_.toInt ≤ 24) (h11_ : z10_.toInt = 321 + z6_.toInt) : 0 ≤ z10_.toInt ∧ z10_.toInt < ((3567 : Nat) : Int) := by omega
theorem lf_c_X12_tell_2 (M12_ : mM) (Mz : mM) (v : Int32) (z1_ : Int32) (z6_ : Int32) (z10_ : Int32) (j14_ : Nat) (e2_ : z1_ = Mz.1 (50, 0, 0) 5) (kf3_ : (Mz.1 (50, 0, 0) 5).toInt = z1_.toInt) (h4_ : 0 ≤ z1_.toInt ∧ z1_.toInt ≤ 24) (h5_ : ¬ z1_.toInt = 24) (e7_ : z6_ = Mz.1 (50, 0, 0) 5) (h8_ : z6_.toInt = z1_.toInt) (h9_ : 0 ≤ z6_.toInt ∧ z6_.toInt ≤ 24) (h11_ : z10_.toInt = 321 + z6_.toInt) (h15_ : (j14_ : Int) = z10_.toInt) (hM13_ : M12_ = up Mz (50, 0, 0) j14_ v) : PN j14_ v ∧ (j14_ < 345 ∨ 493 < j14_) := by have r_v := rngI v; have r_z1_ := rngI z1_; have r_z6_ := rngI z6_; have r_z10_ := rngI z10_; subst e2_; subst e7_; unfold PN; omega
theorem lf_c_X12_tell_3 (z6_ : Int32) (z10_ : Int32) (j14_ : Nat) (h9_ : 0 ≤ z6_.toInt ∧ z6_.toInt ≤ 24) (h11_ : z10_.toInt = 321 + z6_.toInt) (h15_ : (j14_ : Int) = z10_.toInt) : ¬ 5 = j14_ := by omega
theorem lf_c_X12_tell_4 (z19_ : Int32) (h22_ : 0 ≤ z19_.toInt ∧ z19_.toInt ≤ 24) : -2147483648 ≤ z19_.toInt + 1 ∧ z19_.toInt + 1 < 2147483648 := by omega
theorem lf_c_X12_tell_5 (M12_ : mM) (M25_ : mM) (Mz : mM) (v : Int32) (z1_ : Int32) (z6_ : Int32) (z10_ : Int32) (j14_ : Nat) (z19_ : Int32) (z23_ : Int32) (e2_ : z1_ = Mz.1 (50, 0, 0) 5) (kf3_ : (Mz.1 (50, 0, 0) 5).toInt = z1_.toInt) (h4_ : 0 ≤ z1_.toInt ∧ z1_.toInt ≤ 24) (h5_ : ¬ z1_.toInt = 24) (e7_ : z6_ = Mz.1 (50, 0, 0) 5) (h8_ : z6_.toInt = z1_.toInt) (h9_ : 0 ≤ z6_.toInt ∧ z6_.toInt ≤ 24) (h11_ : z10_.toInt = 321 + z6_.toInt) (h15_ : (j14_ : Int) = z10_.toInt) (hM13_ : M12_ = up Mz (50, 0, 0) j14_ v) (kf18_ : (M12_.1 (50, 0, 0) 5).toInt = z1_.toInt) (e20_ : z19_ = M12_.1 (50, 0, 0) 5) (h21_ : z19_.toInt = z1_.toInt) (h22_ : 0 ≤ z19_.toInt ∧ z19_.toInt ≤ 24) (h24_ : z23_.toInt = z19_.toInt + 1) (hM26_ : M25_ = up M12_ (50, 0, 0) 5 z23_) : PN 5 z23_ ∧ (5 < 345 ∨ 493 < 5) := by have r_v := rngI v; have r_z1_ := rngI z1_; have r_z6_ := rngI z6_; have r_z10_ := rngI z10_; have r_z19_ := rngI z19_; have r_z23_ := rngI z23_; subst e2_; subst e7_; subst e20_; unfold PN; omega
set_option maxHeartbeats 4000000 in
set_option maxRecDepth 100000 in
theorem c_X12_tell (l : Launch) (G : va_G) (cy : Nat → ClassId) (ad : rf → Nat) (d : Nat) (v : Int32) (Mz : mM) (hIz : InvD Mz) : WP DD l G cy ad yX12_tell cX12_tell 2 (some .int) (d + 1) 0 [(0, vR (12, 0, 0)), (1, vI v)] [] Mz (fun r M' => InvD M' ∧ FR (S_c_X12_tell) Mz M' ∧ (True) ∧ SP_X12_tell v Mz r M') := by
  have hFz : FR (S_c_X12_tell) Mz Mz := FR.self
  refine w_aload_n dX12_tell_0 rfl 0 rfl ?_
  refine w_getR (c' := (50, 0, 0)) fl_RX12_9 rfl rfl ic_12 dX12_tell_1 rfl ?_
  refine w_iconst (v := 5) dX12_tell_4 (by decide) ?_
  refine w_ialdL 5 rfl rfl ic_50 li_5 (by decide) dX12_tell_5 (fun z1_ e2_ => ?_)
  have kf3_ : (Mz.1 (50, 0, 0) 5).toInt = z1_.toInt := by rw [e2_]
  have h4_ : 0 ≤ z1_.toInt ∧ z1_.toInt ≤ 24 := pn_5 hIz e2_
  refine w_bipush (v := 24) dX12_tell_6 (by decide) ?_
  refine w_icmp_ne (tgt := 18) dX12_tell_8 (by decide) (rfl : z1_.toInt = z1_.toInt) li_24 (fun h5_ => ?_) (fun h5_ => ?_)
  · refine w_aload_n dX12_tell_18 rfl 0 rfl ?_
    refine w_getR (c' := (50, 0, 0)) fl_RX12_9 rfl rfl ic_12 dX12_tell_19 rfl ?_
    refine w_sipush (v := 321) dX12_tell_22 (by decide) ?_
    refine w_aload_n dX12_tell_25 rfl 0 rfl ?_
    refine w_getR (c' := (50, 0, 0)) fl_RX12_9 rfl rfl ic_12 dX12_tell_26 rfl ?_
    refine w_iconst (v := 5) dX12_tell_29 (by decide) ?_
    refine w_ialdL 5 rfl rfl ic_50 li_5 (by decide) dX12_tell_30 (fun z6_ e7_ => ?_)
    have h8_ : z6_.toInt = z1_.toInt := by rw [e7_]; exact kf3_
    have h9_ : 0 ≤ z6_.toInt ∧ z6_.toInt ≤ 24 := pn_5 hIz e7_
    refine w_iaddB dX12_tell_31 li_321 (rfl : z6_.toInt = z6_.toInt) (lf_c_X12_tell_0 z6_ h9_ ) (fun z10_ h11_ => ?_)
    refine w_iload_n dX12_tell_32 rfl 1 rfl ?_
    refine w_iast DD_nd rfl rfl ic_50 (rfl : z10_.toInt = z10_.toInt) (lf_c_X12_tell_1 z6_ z10_ h9_ h11_ ) dX12_tell_33 (fun j14_ h15_ M12_ hM13_ => ?_)
    have hI16_ := hIz.put50 hM13_ (lf_c_X12_tell_2 M12_ Mz v z1_ z6_ z10_ j14_ e2_ kf3_ h4_ h5_ e7_ h8_ h9_ h11_ h15_ hM13_ )
    have hF17_ := hFz.put hM13_ (Or.inl ⟨rfl, rfl⟩)
    have kf18_ : (M12_.1 (50, 0, 0) 5).toInt = z1_.toInt := by rw [(show M12_.1 (50, 0, 0) 5 = Mz.1 (50, 0, 0) 5 by rw [hM13_]; exact up_ne (fun q => absurd q.2 (lf_c_X12_tell_3 z6_ z10_ j14_ h9_ h11_ h15_ )))]; exact kf3_
    refine w_aload_n dX12_tell_34 rfl 0 rfl ?_
    refine w_getR (c' := (50, 0, 0)) fl_RX12_9 rfl rfl ic_12 dX12_tell_35 rfl ?_
    refine w_iconst (v := 5) dX12_tell_38 (by decide) ?_
    refine w_dup2 dX12_tell_39 rfl rfl ?_
    refine w_ialdL 5 rfl rfl ic_50 li_5 (by decide) dX12_tell_40 (fun z19_ e20_ => ?_)
    have h21_ : z19_.toInt = z1_.toInt := by rw [e20_]; exact kf18_
    have h22_ : 0 ≤ z19_.toInt ∧ z19_.toInt ≤ 24 := pn_5 hI16_ e20_
    refine w_iconst (v := 1) dX12_tell_41 (by decide) ?_
    refine w_iaddB dX12_tell_42 (rfl : z19_.toInt = z19_.toInt) li_1 (lf_c_X12_tell_4 z19_ h22_ ) (fun z23_ h24_ => ?_)
    refine w_iastL 5 DD_nd rfl rfl ic_50 li_5 (by decide) dX12_tell_43 (fun M25_ hM26_ => ?_)
    have hI27_ := hI16_.put50 hM26_ (lf_c_X12_tell_5 M12_ M25_ Mz v z1_ z6_ z10_ j14_ z19_ z23_ e2_ kf3_ h4_ h5_ e7_ h8_ h9_ h11_ h15_ hM13_ kf18_ e20_ h21_ h22_ h24_ hM26_ )
    have hF28_ := hF17_.put hM26_ (Or.inl ⟨rfl, rfl⟩)
    refine w_aload_n dX12_tell_44 rfl 0 rfl ?_
    refine w_getR (c' := (50, 0, 0)) fl_RX12_9 rfl rfl ic_12 dX12_tell_45 rfl ?_
    refine w_iconst (v := 5) dX12_tell_48 (by decide) ?_
    refine w_ialdL 5 rfl rfl ic_50 li_5 (by decide) dX12_tell_49 (fun z29_ e30_ => ?_)
    have kf31_ : (M25_.1 (50, 0, 0) 5).toInt = z29_.toInt := by rw [e30_]
    have h32_ : 0 ≤ z29_.toInt ∧ z29_.toInt ≤ 24 := pn_5 hI27_ e30_
    exact w_iret rfl dX12_tell_50 ⟨hI27_, hF28_, trivial, ⟨z1_, e2_, h4_, (Or.inl ⟨h5_, z6_, e7_, h8_, h9_, z10_, h11_, j14_, h15_, M12_, hM13_, z19_, e20_, h21_, h22_, z23_, h24_, M25_, hM26_, z29_, e30_, h32_, rfl, rfl⟩)⟩⟩
  · refine w_aload_n dX12_tell_11 rfl 0 rfl ?_
    refine w_ldc (v := (-1000004)) m_1456 dX12_tell_12 ?_
    refine w_callV (as := [vI (-1000004)]) (rest := []) (c_X12_finding l G cy ad d (-1000004) Mz hIz (by first | decide | (unfold vF; omega) | (unfold vRw; omega))) kV_X12_finding pnn_17 (Nat.le_of_ble_eq_true rfl) m_1434 rfl rfl rfl ic_12 rfl rfl (by decide) (Nat.le_of_ble_eq_true rfl) dX12_tell_14 (fun r33_ M34_ q35_ => ?_)
    obtain ⟨hI37_, hF38_, h36_, hs40_⟩ := q35_
    have hF39_ := hFz.tr hF38_ (fun c k => (fun h => h.elim (fun h => (Or.inr (Or.inl ⟨h.1, h.2⟩))) (fun h => h.elim)))
    have kf41_ : (M34_.1 (50, 0, 0) 5).toInt = z1_.toInt := by rw [(hF38_ (50, 0, 0) 5 (by simp [S_c_X12_finding]))]; exact kf3_
    simp only [li_m1000004] at h36_
    exact w_iret rfl dX12_tell_17 ⟨hI37_, hF39_, trivial, ⟨z1_, e2_, h4_, (Or.inr ⟨h5_, M34_, hI37_, hF38_, r33_, hs40_, h36_, rfl, rfl⟩)⟩⟩
def ST_X12_sumOf_4 (v : Int32) (Mz : mM) (v3_4 : Int32) (v2_4 : Int32) (v3_4y : Int32) (v2_4y : Int32) : Prop := (0 ≤ v3_4.toInt) ∧ ∃ z2_ : Int32, (z2_ = Mz.1 (50, 0, 0) 2) ∧ (0 ≤ z2_.toInt ∧ z2_.toInt ≤ 8) ∧ (v3_4.toInt < z2_.toInt) ∧ ∃ r6_ : Int32, (SP_X12_goer v3_4 Mz r6_) ∧ (r6_.toInt = 180 + 9 * v3_4.toInt) ∧ ∃ z11_ : Int32, (z11_.toInt = r6_.toInt + v.toInt) ∧ ∃ j15_ : Nat, ((j15_ : Int) = z11_.toInt) ∧ ∃ z13_ : Int32, (z13_ = Mz.1 (50, 0, 0) j15_) ∧ ∃ z17_ : Int32, (z17_ = v2_4 + z13_) ∧ ∃ z19_ : Int32, (z19_.toInt = v3_4.toInt + 1) ∧ v3_4y = z19_ ∧ v2_4y = z17_
def SP_X12_sumOf (v : Int32) (Mz : mM) (r_ : Int32) : Prop := ∃ v3_4 : Int32, (0 ≤ v3_4.toInt) ∧ ∃ v2_4 : Int32, (RCH (fun x_ y_ => ST_X12_sumOf_4 v Mz x_.1 x_.2 y_.1 y_.2) ((0 : Int32), (0 : Int32)) (v3_4, v2_4)) ∧ ∃ z2_ : Int32, (z2_ = Mz.1 (50, 0, 0) 2) ∧ (0 ≤ z2_.toInt ∧ z2_.toInt ≤ 8) ∧ (z2_.toInt ≤ v3_4.toInt) ∧ r_ = v2_4
theorem lf_c_X12_sumOf_1 (v : Int32) (v3_4 : Int32) (z2_ : Int32) (r6_ : Int32) (hv : 7 ≤ v.toInt ∧ v.toInt ≤ 8) (hv0_4 : 0 ≤ v3_4.toInt) (h4_ : 0 ≤ z2_.toInt ∧ z2_.toInt ≤ 8) (h5_ : v3_4.toInt < z2_.toInt) (h9_ : r6_.toInt = 180 + 9 * v3_4.toInt) : -2147483648 ≤ r6_.toInt + v.toInt ∧ r6_.toInt + v.toInt < 2147483648 := by omega
theorem lf_c_X12_sumOf_2 (v : Int32) (v3_4 : Int32) (z2_ : Int32) (r6_ : Int32) (z11_ : Int32) (hv : 7 ≤ v.toInt ∧ v.toInt ≤ 8) (hv0_4 : 0 ≤ v3_4.toInt) (h4_ : 0 ≤ z2_.toInt ∧ z2_.toInt ≤ 8) (h5_ : v3_4.toInt < z2_.toInt) (h9_ : r6_.toInt = 180 + 9 * v3_4.toInt) (h12_ : z11_.toInt = r6_.toInt + v.toInt) : 0 ≤ z11_.toInt ∧ z11_.toInt < ((3567 : Nat) : Int) := by omega
set_option maxHeartbeats 4000000 in
set_option maxRecDepth 100000 in
theorem c_X12_sumOf (l : Launch) (G : va_G) (cy : Nat → ClassId) (ad : rf → Nat) (d : Nat) (v : Int32) (Mz : mM) (hIz : InvD Mz) (hv : 7 ≤ v.toInt ∧ v.toInt ≤ 8) : WP DD l G cy ad yX12_sumOf cX12_sumOf 4 (some .int) (d + 1) 0 [(0, vR (12, 0, 0)), (1, vI v)] [] Mz (fun r M' => Mz = M' ∧ (True) ∧ SP_X12_sumOf v Mz r) := by
  refine w_iconst (v := 0) dX12_sumOf_0 (by decide) ?_
  refine w_istore_n (ls' := [(2, vI 0), (0, vR (12, 0, 0)), (1, vI v)]) dX12_sumOf_1 rfl (by decide) rfl ?_
  refine w_iconst (v := 0) dX12_sumOf_2 (by decide) ?_
  refine w_istore_n (ls' := [(3, vI 0), (2, vI 0), (0, vR (12, 0, 0)), (1, vI v)]) dX12_sumOf_3 rfl (by decide) rfl ?_
  have lp1_ : ∀ (nn_4 : Nat) (v3_4 : Int32) (v2_4 : Int32) (hv0_4 : 0 ≤ v3_4.toInt) (hL_4 : RCH (fun x_ y_ => ST_X12_sumOf_4 v Mz x_.1 x_.2 y_.1 y_.2) ((0 : Int32), (0 : Int32)) (v3_4, v2_4)), (2147483648 - v3_4.toInt).toNat < nn_4 → WP DD l G cy ad yX12_sumOf cX12_sumOf 4 (some .int) (d + 1) 4 [(3, vI v3_4), (2, vI v2_4), (0, vR (12, 0, 0)), (1, vI v)] [] Mz (fun r M' => Mz = M' ∧ (True) ∧ SP_X12_sumOf v Mz r) := by
    intro nn_4
    induction nn_4 with
    | zero => intro v3_4 v2_4 hv0_4 hL_4 hm_4; exact absurd hm_4 (Nat.not_lt_zero _)
    | succ nn_4 ih_4 =>
      intro v3_4 v2_4 hv0_4 hL_4 hm_4
      refine w_iload_n dX12_sumOf_4 rfl 0 rfl ?_
      refine w_aload_n dX12_sumOf_5 rfl 2 rfl ?_
      refine w_getR (c' := (50, 0, 0)) fl_RX12_9 rfl rfl ic_12 dX12_sumOf_6 rfl ?_
      refine w_iconst (v := 2) dX12_sumOf_9 (by decide) ?_
      refine w_ialdL 2 rfl rfl ic_50 li_2 (by decide) dX12_sumOf_10 (fun z2_ e3_ => ?_)
      have h4_ : 0 ≤ z2_.toInt ∧ z2_.toInt ≤ 8 := pn_2 hIz e3_
      refine w_icmp_ge (tgt := 35) dX12_sumOf_11 (by decide) (rfl : v3_4.toInt = v3_4.toInt) (rfl : z2_.toInt = z2_.toInt) (fun h5_ => ?_) (fun h5_ => ?_)
      · refine w_iload_n dX12_sumOf_35 rfl 1 rfl ?_
        exact w_iret rfl dX12_sumOf_36 ⟨rfl, trivial, ⟨v3_4, hv0_4, v2_4, hL_4, z2_, e3_, h4_, h5_, rfl⟩⟩
      · refine w_iload_n dX12_sumOf_14 rfl 1 rfl ?_
        refine w_aload_n dX12_sumOf_15 rfl 2 rfl ?_
        refine w_getR (c' := (50, 0, 0)) fl_RX12_9 rfl rfl ic_12 dX12_sumOf_16 rfl ?_
        refine w_aload_n dX12_sumOf_19 rfl 2 rfl ?_
        refine w_iload_n dX12_sumOf_20 rfl 0 rfl ?_
        refine w_callV (as := [vI v3_4]) (rest := [vR (50, 0, 0), vI v2_4]) (c_X12_goer l G cy ad d v3_4 Mz hIz (lf_c_X12_in_1 v3_4 z2_ hv0_4 h4_ h5_ )) kV_X12_goer pnn_17 (Nat.le_of_ble_eq_true rfl) m_1451 rfl rfl rfl ic_12 rfl rfl (by decide) (Nat.le_of_ble_eq_true rfl) dX12_sumOf_21 (fun r6_ M7_ q8_ => ?_)
        obtain ⟨rfl, h9_, hs10_⟩ := q8_
        refine w_iload_n dX12_sumOf_24 rfl 3 rfl ?_
        refine w_iaddB dX12_sumOf_25 (rfl : r6_.toInt = r6_.toInt) (rfl : v.toInt = v.toInt) (lf_c_X12_sumOf_1 v v3_4 z2_ r6_ hv hv0_4 h4_ h5_ h9_ ) (fun z11_ h12_ => ?_)
        refine w_iald rfl rfl ic_50 (rfl : z11_.toInt = z11_.toInt) (lf_c_X12_sumOf_2 v v3_4 z2_ r6_ z11_ hv hv0_4 h4_ h5_ h9_ h12_ ) dX12_sumOf_26 (fun j15_ h16_ z13_ e14_ => ?_)
        refine w_iadd dX12_sumOf_27 (fun z17_ h18_ => ?_)
        refine w_istore_n (ls' := [(2, vI z17_), (3, vI v3_4), (0, vR (12, 0, 0)), (1, vI v)]) dX12_sumOf_28 rfl (by decide) rfl ?_
        refine w_iincB (j := 1) (f := fun z19_ => [(3, vI z19_), (2, vI z17_), (0, vR (12, 0, 0)), (1, vI v)]) dX12_sumOf_29 rfl (by decide) (fun _ => rfl) (rfl : v3_4.toInt = v3_4.toInt) li_1 (lf_c_X12_in_5 v3_4 r6_ h9_ ) (fun z19_ h20_ => ?_)
        refine w_goto (tgt := 4) dX12_sumOf_32 (by decide) ?_
        refine w_loc (ls' := [(3, vI z19_), (2, vI z17_), (0, vR (12, 0, 0)), (1, vI v)]) [0, 1, 2, 3] rfl ?_
        exact ih_4 z19_ z17_ (lf_c_X5_takeFrom_3 v3_4 z19_ hv0_4 h20_ ) (RCH.tail hL_4 ⟨hv0_4, z2_, e3_, h4_, h5_, r6_, hs10_, h9_, z11_, h12_, j15_, h16_, z13_, e14_, z17_, h18_, z19_, h20_, rfl, rfl⟩) (Nat.lt_of_lt_of_le (lf_c_X12_in_7 v3_4 r6_ z19_ h9_ h20_ ) (Nat.le_of_lt_succ hm_4))
  exact lp1_ _ 0 0 (lf_c_X5_takeFrom_5 ) RCH.refl (Nat.lt_succ_self _)
def S_c_X12_count : rf → Nat → Prop := fun c k => (c.1 = 53 ∧ c.2.1 = 0) ∨ False
def ST_X12_count_61 (Mz : mM) (v3_61 : Int32) (v2_61 : Int32) (v3_61y : Int32) (v2_61y : Int32) : Prop := (0 ≤ v3_61.toInt) ∧ ∃ z5_ : Int32, (z5_ = Mz.1 (50, 0, 0) 1) ∧ (0 ≤ z5_.toInt ∧ z5_.toInt ≤ 40) ∧ (v3_61.toInt < z5_.toInt) ∧ ∃ r9_ : Int32, (SP_X12_thing v3_61 Mz r9_) ∧ (r9_.toInt = 20 + 4 * v3_61.toInt) ∧ ∃ z14_ : Int32, (z14_.toInt = r9_.toInt + 1) ∧ ∃ j18_ : Nat, ((j18_ : Int) = z14_.toInt) ∧ ∃ z16_ : Int32, (z16_ = Mz.1 (50, 0, 0) j18_) ∧ (-1 ≤ z16_.toInt ∧ z16_.toInt ≤ 191) ∧ (((z16_.toInt < 0) ∧ ∃ z22_ : Int32, (z22_ = v2_61 + (0 : Int32)) ∧ ∃ z24_ : Int32, (z24_.toInt = v3_61.toInt + 1) ∧ v3_61y = z24_ ∧ v2_61y = z22_) ∨ ((0 ≤ z16_.toInt) ∧ ∃ z26_ : Int32, (z26_ = v2_61 + (1 : Int32)) ∧ ∃ z28_ : Int32, (z28_.toInt = v3_61.toInt + 1) ∧ v3_61y = z28_ ∧ v2_61y = z26_))
def SP_X12_count (v : Int32) (Mz : mM) (r_ : Int32) (M_ : mM) : Prop := (((v.toInt = 0) ∧ ∃ z2_ : Int32, (z2_ = Mz.1 (50, 0, 0) 0) ∧ r_ = z2_ ∧ M_ = Mz) ∨ ((v.toInt = 1) ∧ ∃ v3_61 : Int32, (0 ≤ v3_61.toInt) ∧ ∃ v2_61 : Int32, (RCH (fun x_ y_ => ST_X12_count_61 Mz x_.1 x_.2 y_.1 y_.2) ((0 : Int32), (0 : Int32)) (v3_61, v2_61)) ∧ ∃ z5_ : Int32, (z5_ = Mz.1 (50, 0, 0) 1) ∧ (0 ≤ z5_.toInt ∧ z5_.toInt ≤ 40) ∧ (z5_.toInt ≤ v3_61.toInt) ∧ r_ = v2_61 ∧ M_ = Mz) ∨ ((v.toInt = 2) ∧ ∃ z30_ : Int32, (z30_ = Mz.1 (50, 0, 0) 2) ∧ (0 ≤ z30_.toInt ∧ z30_.toInt ≤ 8) ∧ r_ = z30_ ∧ M_ = Mz) ∨ ((v.toInt = 3) ∧ ∃ z33_ : Int32, (z33_ = Mz.1 (50, 0, 0) 3) ∧ (0 ≤ z33_.toInt ∧ z33_.toInt ≤ 7) ∧ r_ = z33_ ∧ M_ = Mz) ∨ ((v.toInt = 4) ∧ ∃ z36_ : Int32, (z36_ = Mz.1 (50, 0, 0) 4) ∧ (0 ≤ z36_.toInt ∧ z36_.toInt ≤ 48) ∧ r_ = z36_ ∧ M_ = Mz) ∨ ((v.toInt = 5) ∧ ∃ z39_ : Int32, (z39_ = Mz.1 (50, 0, 0) 5) ∧ (0 ≤ z39_.toInt ∧ z39_.toInt ≤ 24) ∧ r_ = z39_ ∧ M_ = Mz) ∨ ((v.toInt = 6) ∧ ∃ z42_ : Int32, (z42_ = Mz.1 (12, 0, 0) 26) ∧ (0 ≤ z42_.toInt ∧ z42_.toInt ≤ 30) ∧ r_ = z42_ ∧ M_ = Mz) ∨ ((v.toInt = 7) ∧ ∃ r45_ : Int32, (SP_X12_sumOf 7 Mz r45_) ∧ r_ = r45_ ∧ M_ = Mz) ∨ ((v.toInt = 8) ∧ ∃ r50_ : Int32, (SP_X12_sumOf 8 Mz r50_) ∧ r_ = r50_ ∧ M_ = Mz) ∨ (((¬ v.toInt = 0 ∧ ¬ v.toInt = 1 ∧ ¬ v.toInt = 2 ∧ ¬ v.toInt = 3 ∧ ¬ v.toInt = 4 ∧ ¬ v.toInt = 5 ∧ ¬ v.toInt = 6 ∧ ¬ v.toInt = 7 ∧ ¬ v.toInt = 8)) ∧ ∃ M56_ : mM, (InvD M56_) ∧ (FR (S_c_X12_finding) Mz M56_) ∧ ∃ r55_ : Int32, (SP_X12_finding (-1000001) Mz r55_ M56_) ∧ (r55_.toInt = (-1000001)) ∧ r_ = r55_ ∧ M_ = M56_))
theorem lf_c_X12_count_5 (Mz : mM) (v3_61 : Int32) (z5_ : Int32) (r9_ : Int32) (z14_ : Int32) (j18_ : Nat) (z16_ : Int32) (hv0_61 : 0 ≤ v3_61.toInt) (e6_ : z5_ = Mz.1 (50, 0, 0) 1) (h7_ : 0 ≤ z5_.toInt ∧ z5_.toInt ≤ 40) (h8_ : v3_61.toInt < z5_.toInt) (h12_ : r9_.toInt = 20 + 4 * v3_61.toInt) (h15_ : z14_.toInt = r9_.toInt + 1) (h19_ : (j18_ : Int) = z14_.toInt) (e17_ : z16_ = Mz.1 (50, 0, 0) j18_) (h20_ : -1 ≤ z16_.toInt ∧ z16_.toInt ≤ 191) (h21_ : z16_.toInt < 0) : -2147483648 ≤ v3_61.toInt + 1 ∧ v3_61.toInt + 1 < 2147483648 := by have r_v3_61 := rngI v3_61; have r_z5_ := rngI z5_; have r_r9_ := rngI r9_; have r_z14_ := rngI z14_; have r_z16_ := rngI z16_; subst e6_; subst e17_; omega
theorem lf_c_X12_count_8 (Mz : mM) (v3_61 : Int32) (z5_ : Int32) (r9_ : Int32) (z14_ : Int32) (j18_ : Nat) (z16_ : Int32) (hv0_61 : 0 ≤ v3_61.toInt) (e6_ : z5_ = Mz.1 (50, 0, 0) 1) (h7_ : 0 ≤ z5_.toInt ∧ z5_.toInt ≤ 40) (h8_ : v3_61.toInt < z5_.toInt) (h12_ : r9_.toInt = 20 + 4 * v3_61.toInt) (h15_ : z14_.toInt = r9_.toInt + 1) (h19_ : (j18_ : Int) = z14_.toInt) (e17_ : z16_ = Mz.1 (50, 0, 0) j18_) (h20_ : -1 ≤ z16_.toInt ∧ z16_.toInt ≤ 191) (h21_ : 0 ≤ z16_.toInt) : -2147483648 ≤ v3_61.toInt + 1 ∧ v3_61.toInt + 1 < 2147483648 := by have r_v3_61 := rngI v3_61; have r_z5_ := rngI z5_; have r_r9_ := rngI r9_; have r_z14_ := rngI z14_; have r_z16_ := rngI z16_; subst e6_; subst e17_; omega
set_option maxHeartbeats 4000000 in
set_option maxRecDepth 100000 in
theorem c_X12_count (l : Launch) (G : va_G) (cy : Nat → ClassId) (ad : rf → Nat) (d : Nat) (v : Int32) (Mz : mM) (hIz : InvD Mz) : WP DD l G cy ad yX12_count cX12_count 4 (some .int) (d + 2) 0 [(0, vR (12, 0, 0)), (1, vI v)] [] Mz (fun r M' => InvD M' ∧ FR (S_c_X12_count) Mz M' ∧ (True) ∧ SP_X12_count v Mz r M') := by
  have hFz : FR (S_c_X12_count) Mz Mz := FR.self
  refine w_iconst (v := 0) dX12_count_0 (by decide) ?_
  refine w_istore_n (ls' := [(2, vI 0), (0, vR (12, 0, 0)), (1, vI v)]) dX12_count_1 rfl (by decide) rfl ?_
  refine w_iload_n dX12_count_2 rfl 2 rfl ?_
  rcases (lf_c_X11_count_0 v ) with e1_ | e1_ | e1_ | e1_ | e1_ | e1_ | e1_ | e1_ | e1_ | e1_
  · refine w_tsIn (tgt := 52) (off := 49) dX12_count_3 e1_ (by decide) (by decide) rfl (by decide) ?_
    refine w_aload_n dX12_count_52 rfl 1 rfl ?_
    refine w_getR (c' := (50, 0, 0)) fl_RX12_9 rfl rfl ic_12 dX12_count_53 rfl ?_
    refine w_iconst (v := 0) dX12_count_56 (by decide) ?_
    refine w_ialdL 0 rfl rfl ic_50 li_0 (by decide) dX12_count_57 (fun z2_ e3_ => ?_)
    exact w_iret rfl dX12_count_58 ⟨hIz, hFz, trivial, (Or.inl ⟨e1_, z2_, e3_, rfl, rfl⟩)⟩
  · refine w_tsIn (tgt := 59) (off := 56) dX12_count_3 e1_ (by decide) (by decide) rfl (by decide) ?_
    refine w_iconst (v := 0) dX12_count_59 (by decide) ?_
    refine w_istore_n (ls' := [(3, vI 0), (2, vI 0), (0, vR (12, 0, 0)), (1, vI v)]) dX12_count_60 rfl (by decide) rfl ?_
    have lp4_ : ∀ (nn_61 : Nat) (v3_61 : Int32) (v2_61 : Int32) (hv0_61 : 0 ≤ v3_61.toInt) (hL_61 : RCH (fun x_ y_ => ST_X12_count_61 Mz x_.1 x_.2 y_.1 y_.2) ((0 : Int32), (0 : Int32)) (v3_61, v2_61)), (2147483648 - v3_61.toInt).toNat < nn_61 → WP DD l G cy ad yX12_count cX12_count 4 (some .int) (d + 2) 61 [(3, vI v3_61), (2, vI v2_61), (0, vR (12, 0, 0)), (1, vI v)] [] Mz (fun r M' => InvD M' ∧ FR (S_c_X12_count) Mz M' ∧ (True) ∧ SP_X12_count v Mz r M') := by
      intro nn_61
      induction nn_61 with
      | zero => intro v3_61 v2_61 hv0_61 hL_61 hm_61; exact absurd hm_61 (Nat.not_lt_zero _)
      | succ nn_61 ih_61 =>
        intro v3_61 v2_61 hv0_61 hL_61 hm_61
        refine w_iload_n dX12_count_61 rfl 0 rfl ?_
        refine w_aload_n dX12_count_62 rfl 2 rfl ?_
        refine w_getR (c' := (50, 0, 0)) fl_RX12_9 rfl rfl ic_12 dX12_count_63 rfl ?_
        refine w_iconst (v := 1) dX12_count_66 (by decide) ?_
        refine w_ialdL 1 rfl rfl ic_50 li_1 (by decide) dX12_count_67 (fun z5_ e6_ => ?_)
        have h7_ : 0 ≤ z5_.toInt ∧ z5_.toInt ≤ 40 := pn_1 hIz e6_
        refine w_icmp_ge (tgt := 100) dX12_count_68 (by decide) (rfl : v3_61.toInt = v3_61.toInt) (rfl : z5_.toInt = z5_.toInt) (fun h8_ => ?_) (fun h8_ => ?_)
        · refine w_iload_n dX12_count_100 rfl 1 rfl ?_
          exact w_iret rfl dX12_count_101 ⟨hIz, hFz, trivial, (Or.inr (Or.inl ⟨e1_, v3_61, hv0_61, v2_61, hL_61, z5_, e6_, h7_, h8_, rfl, rfl⟩))⟩
        · refine w_iload_n dX12_count_71 rfl 1 rfl ?_
          refine w_aload_n dX12_count_72 rfl 2 rfl ?_
          refine w_getR (c' := (50, 0, 0)) fl_RX12_9 rfl rfl ic_12 dX12_count_73 rfl ?_
          refine w_aload_n dX12_count_76 rfl 2 rfl ?_
          refine w_iload_n dX12_count_77 rfl 0 rfl ?_
          refine w_callV (as := [vI v3_61]) (rest := [vR (50, 0, 0), vI v2_61]) (c_X12_thing l G cy ad (d + 1) v3_61 Mz hIz (lf_c_X12_in_14 v3_61 z5_ hv0_61 h7_ h8_ )) kV_X12_thing pnn_17 (Nat.le_of_ble_eq_true rfl) m_1447 rfl rfl rfl ic_12 rfl rfl (by decide) (Nat.le_of_ble_eq_true rfl) dX12_count_78 (fun r9_ M10_ q11_ => ?_)
          obtain ⟨rfl, h12_, hs13_⟩ := q11_
          refine w_iconst (v := 1) dX12_count_81 (by decide) ?_
          refine w_iaddB dX12_count_82 (rfl : r9_.toInt = r9_.toInt) li_1 (lf_c_X12_in_15 v3_61 z5_ r9_ hv0_61 h7_ h8_ h12_ ) (fun z14_ h15_ => ?_)
          refine w_iald rfl rfl ic_50 (rfl : z14_.toInt = z14_.toInt) (lf_c_X12_in_16 v3_61 z5_ r9_ z14_ hv0_61 h7_ h8_ h12_ h15_ ) dX12_count_83 (fun j18_ h19_ z16_ e17_ => ?_)
          have h20_ : -1 ≤ z16_.toInt ∧ z16_.toInt ≤ 191 := pn_tc hIz e17_ (lf_c_X12_in_17 Mz v3_61 z5_ r9_ z14_ j18_ z16_ hv0_61 e6_ h7_ h8_ h12_ h15_ h19_ e17_ )
          refine w_if_lt (tgt := 91) dX12_count_84 (by decide) (rfl : z16_.toInt = z16_.toInt) (fun h21_ => ?_) (fun h21_ => ?_)
          · refine w_iconst (v := 0) dX12_count_91 (by decide) ?_
            refine w_iadd dX12_count_92 (fun z22_ h23_ => ?_)
            refine w_istore_n (ls' := [(2, vI z22_), (3, vI v3_61), (0, vR (12, 0, 0)), (1, vI v)]) dX12_count_93 rfl (by decide) rfl ?_
            refine w_iincB (j := 1) (f := fun z24_ => [(3, vI z24_), (2, vI z22_), (0, vR (12, 0, 0)), (1, vI v)]) dX12_count_94 rfl (by decide) (fun _ => rfl) (rfl : v3_61.toInt = v3_61.toInt) li_1 (lf_c_X12_count_5 Mz v3_61 z5_ r9_ z14_ j18_ z16_ hv0_61 e6_ h7_ h8_ h12_ h15_ h19_ e17_ h20_ h21_ ) (fun z24_ h25_ => ?_)
            refine w_goto (tgt := 61) dX12_count_97 (by decide) ?_
            refine w_loc (ls' := [(3, vI z24_), (2, vI z22_), (0, vR (12, 0, 0)), (1, vI v)]) [0, 1, 2, 3] rfl ?_
            exact ih_61 z24_ z22_ (lf_c_X5_takeFrom_3 v3_61 z24_ hv0_61 h25_ ) (RCH.tail hL_61 ⟨hv0_61, z5_, e6_, h7_, h8_, r9_, hs13_, h12_, z14_, h15_, j18_, h19_, z16_, e17_, h20_, (Or.inl ⟨h21_, z22_, h23_, z24_, h25_, rfl, rfl⟩)⟩) (Nat.lt_of_lt_of_le (lf_c_X12_in_20 v3_61 r9_ z24_ h12_ h25_ ) (Nat.le_of_lt_succ hm_61))
          · refine w_iconst (v := 1) dX12_count_87 (by decide) ?_
            refine w_goto (tgt := 92) dX12_count_88 (by decide) ?_
            refine w_iadd dX12_count_92 (fun z26_ h27_ => ?_)
            refine w_istore_n (ls' := [(2, vI z26_), (3, vI v3_61), (0, vR (12, 0, 0)), (1, vI v)]) dX12_count_93 rfl (by decide) rfl ?_
            refine w_iincB (j := 1) (f := fun z28_ => [(3, vI z28_), (2, vI z26_), (0, vR (12, 0, 0)), (1, vI v)]) dX12_count_94 rfl (by decide) (fun _ => rfl) (rfl : v3_61.toInt = v3_61.toInt) li_1 (lf_c_X12_count_8 Mz v3_61 z5_ r9_ z14_ j18_ z16_ hv0_61 e6_ h7_ h8_ h12_ h15_ h19_ e17_ h20_ h21_ ) (fun z28_ h29_ => ?_)
            refine w_goto (tgt := 61) dX12_count_97 (by decide) ?_
            refine w_loc (ls' := [(3, vI z28_), (2, vI z26_), (0, vR (12, 0, 0)), (1, vI v)]) [0, 1, 2, 3] rfl ?_
            exact ih_61 z28_ z26_ (lf_c_X5_takeFrom_3 v3_61 z28_ hv0_61 h29_ ) (RCH.tail hL_61 ⟨hv0_61, z5_, e6_, h7_, h8_, r9_, hs13_, h12_, z14_, h15_, j18_, h19_, z16_, e17_, h20_, (Or.inr ⟨h21_, z26_, h27_, z28_, h29_, rfl, rfl⟩)⟩) (Nat.lt_of_lt_of_le (lf_c_X12_in_20 v3_61 r9_ z28_ h12_ h29_ ) (Nat.le_of_lt_succ hm_61))
    exact lp4_ _ 0 0 (lf_c_X5_takeFrom_5 ) RCH.refl (Nat.lt_succ_self _)
  · refine w_tsIn (tgt := 102) (off := 99) dX12_count_3 e1_ (by decide) (by decide) rfl (by decide) ?_
    refine w_aload_n dX12_count_102 rfl 1 rfl ?_
    refine w_getR (c' := (50, 0, 0)) fl_RX12_9 rfl rfl ic_12 dX12_count_103 rfl ?_
    refine w_iconst (v := 2) dX12_count_106 (by decide) ?_
    refine w_ialdL 2 rfl rfl ic_50 li_2 (by decide) dX12_count_107 (fun z30_ e31_ => ?_)
    have h32_ : 0 ≤ z30_.toInt ∧ z30_.toInt ≤ 8 := pn_2 hIz e31_
    exact w_iret rfl dX12_count_108 ⟨hIz, hFz, trivial, (Or.inr (Or.inr (Or.inl ⟨e1_, z30_, e31_, h32_, rfl, rfl⟩)))⟩
  · refine w_tsIn (tgt := 109) (off := 106) dX12_count_3 e1_ (by decide) (by decide) rfl (by decide) ?_
    refine w_aload_n dX12_count_109 rfl 1 rfl ?_
    refine w_getR (c' := (50, 0, 0)) fl_RX12_9 rfl rfl ic_12 dX12_count_110 rfl ?_
    refine w_iconst (v := 3) dX12_count_113 (by decide) ?_
    refine w_ialdL 3 rfl rfl ic_50 li_3 (by decide) dX12_count_114 (fun z33_ e34_ => ?_)
    have h35_ : 0 ≤ z33_.toInt ∧ z33_.toInt ≤ 7 := pn_3 hIz e34_
    exact w_iret rfl dX12_count_115 ⟨hIz, hFz, trivial, (Or.inr (Or.inr (Or.inr (Or.inl ⟨e1_, z33_, e34_, h35_, rfl, rfl⟩))))⟩
  · refine w_tsIn (tgt := 116) (off := 113) dX12_count_3 e1_ (by decide) (by decide) rfl (by decide) ?_
    refine w_aload_n dX12_count_116 rfl 1 rfl ?_
    refine w_getR (c' := (50, 0, 0)) fl_RX12_9 rfl rfl ic_12 dX12_count_117 rfl ?_
    refine w_iconst (v := 4) dX12_count_120 (by decide) ?_
    refine w_ialdL 4 rfl rfl ic_50 li_4 (by decide) dX12_count_121 (fun z36_ e37_ => ?_)
    have h38_ : 0 ≤ z36_.toInt ∧ z36_.toInt ≤ 48 := pn_4 hIz e37_
    exact w_iret rfl dX12_count_122 ⟨hIz, hFz, trivial, (Or.inr (Or.inr (Or.inr (Or.inr (Or.inl ⟨e1_, z36_, e37_, h38_, rfl, rfl⟩)))))⟩
  · refine w_tsIn (tgt := 123) (off := 120) dX12_count_3 e1_ (by decide) (by decide) rfl (by decide) ?_
    refine w_aload_n dX12_count_123 rfl 1 rfl ?_
    refine w_getR (c' := (50, 0, 0)) fl_RX12_9 rfl rfl ic_12 dX12_count_124 rfl ?_
    refine w_iconst (v := 5) dX12_count_127 (by decide) ?_
    refine w_ialdL 5 rfl rfl ic_50 li_5 (by decide) dX12_count_128 (fun z39_ e40_ => ?_)
    have h41_ : 0 ≤ z39_.toInt ∧ z39_.toInt ≤ 24 := pn_5 hIz e40_
    exact w_iret rfl dX12_count_129 ⟨hIz, hFz, trivial, (Or.inr (Or.inr (Or.inr (Or.inr (Or.inr (Or.inl ⟨e1_, z39_, e40_, h41_, rfl, rfl⟩))))))⟩
  · refine w_tsIn (tgt := 130) (off := 127) dX12_count_3 e1_ (by decide) (by decide) rfl (by decide) ?_
    refine w_aload_n dX12_count_130 rfl 1 rfl ?_
    refine w_getI fl_RX12_324 rfl rfl ic_12 dX12_count_131 (fun z42_ e43_ => ?_)
    have h44_ : 0 ≤ z42_.toInt ∧ z42_.toInt ≤ 30 := ofEq (P := fun v => 0 ≤ v.toInt ∧ v.toInt ≤ 30) e43_ (hIz.1 (12, 0, 0) 26)
    exact w_iret rfl dX12_count_134 ⟨hIz, hFz, trivial, (Or.inr (Or.inr (Or.inr (Or.inr (Or.inr (Or.inr (Or.inl ⟨e1_, z42_, e43_, h44_, rfl, rfl⟩)))))))⟩
  · refine w_tsIn (tgt := 135) (off := 132) dX12_count_3 e1_ (by decide) (by decide) rfl (by decide) ?_
    refine w_aload_n dX12_count_135 rfl 1 rfl ?_
    refine w_bipush (v := 7) dX12_count_136 (by decide) ?_
    refine w_callV (as := [vI 7]) (rest := []) (c_X12_sumOf l G cy ad d 7 Mz hIz (by first | decide | (unfold vF; omega) | (unfold vRw; omega))) kV_X12_sumOf pnn_17 (Nat.le_of_ble_eq_true rfl) m_1862 rfl rfl rfl ic_12 rfl rfl (by decide) (Nat.le_of_ble_eq_true rfl) dX12_count_138 (fun r45_ M46_ q47_ => ?_)
    obtain ⟨rfl, h48_, hs49_⟩ := q47_
    exact w_iret rfl dX12_count_141 ⟨hIz, hFz, trivial, (Or.inr (Or.inr (Or.inr (Or.inr (Or.inr (Or.inr (Or.inr (Or.inl ⟨e1_, r45_, hs49_, rfl, rfl⟩))))))))⟩
  · refine w_tsIn (tgt := 142) (off := 139) dX12_count_3 e1_ (by decide) (by decide) rfl (by decide) ?_
    refine w_aload_n dX12_count_142 rfl 1 rfl ?_
    refine w_bipush (v := 8) dX12_count_143 (by decide) ?_
    refine w_callV (as := [vI 8]) (rest := []) (c_X12_sumOf l G cy ad d 8 Mz hIz (by first | decide | (unfold vF; omega) | (unfold vRw; omega))) kV_X12_sumOf pnn_17 (Nat.le_of_ble_eq_true rfl) m_1862 rfl rfl rfl ic_12 rfl rfl (by decide) (Nat.le_of_ble_eq_true rfl) dX12_count_145 (fun r50_ M51_ q52_ => ?_)
    obtain ⟨rfl, h53_, hs54_⟩ := q52_
    exact w_iret rfl dX12_count_148 ⟨hIz, hFz, trivial, (Or.inr (Or.inr (Or.inr (Or.inr (Or.inr (Or.inr (Or.inr (Or.inr (Or.inl ⟨e1_, r50_, hs54_, rfl, rfl⟩)))))))))⟩
  · refine w_tsOut (tgt := 149) dX12_count_3 rfl (lf_c_X11_count_1 v e1_ ) (by decide) ?_
    refine w_aload_n dX12_count_149 rfl 1 rfl ?_
    refine w_ldc (v := (-1000001)) m_1433 dX12_count_150 ?_
    refine w_callV (as := [vI (-1000001)]) (rest := []) (c_X12_finding l G cy ad (d + 1) (-1000001) Mz hIz (by first | decide | (unfold vF; omega) | (unfold vRw; omega))) kV_X12_finding pnn_17 (Nat.le_of_ble_eq_true rfl) m_1434 rfl rfl rfl ic_12 rfl rfl (by decide) (Nat.le_of_ble_eq_true rfl) dX12_count_152 (fun r55_ M56_ q57_ => ?_)
    obtain ⟨hI59_, hF60_, h58_, hs62_⟩ := q57_
    have hF61_ := hFz.tr hF60_ (fun c k => (fun h => h.elim (fun h => (Or.inl ⟨h.1, h.2⟩)) (fun h => h.elim)))
    simp only [li_m1000001] at h58_
    exact w_iret rfl dX12_count_155 ⟨hI59_, hF61_, trivial, (Or.inr (Or.inr (Or.inr (Or.inr (Or.inr (Or.inr (Or.inr (Or.inr (Or.inr ⟨e1_, M56_, hI59_, hF60_, r55_, hs62_, h58_, rfl, rfl⟩)))))))))⟩
def S_c_X12_told : rf → Nat → Prop := fun c k => (c.1 = 53 ∧ c.2.1 = 0) ∨ False
def SP_X12_told (v : Int32) (Mz : mM) (r_ : Int32) (M_ : mM) : Prop := (((SP_X12_within v 1 6 Mz (1 : Int32)) ∧ (1 ≤ v.toInt ∧ v.toInt ≤ 6) ∧ ∃ j9_ : Nat, ((j9_ : Int) = v.toInt) ∧ ∃ z7_ : Int32, (z7_ = Mz.1 (53, 0, 0) j9_) ∧ r_ = z7_ ∧ M_ = Mz) ∨ ((SP_X12_within v 1 6 Mz (0 : Int32)) ∧ (¬ (1 ≤ v.toInt ∧ v.toInt ≤ 6)) ∧ ∃ M13_ : mM, (InvD M13_) ∧ (FR (S_c_X12_finding) Mz M13_) ∧ ∃ r12_ : Int32, (SP_X12_finding (-1000001) Mz r12_ M13_) ∧ (r12_.toInt = (-1000001)) ∧ r_ = r12_ ∧ M_ = M13_))
set_option maxHeartbeats 4000000 in
set_option maxRecDepth 100000 in
theorem c_X12_told (l : Launch) (G : va_G) (cy : Nat → ClassId) (ad : rf → Nat) (d : Nat) (v : Int32) (Mz : mM) (hIz : InvD Mz) : WP DD l G cy ad yX12_told cX12_told 2 (some .int) (d + 1) 0 [(0, vR (12, 0, 0)), (1, vI v)] [] Mz (fun r M' => InvD M' ∧ FR (S_c_X12_told) Mz M' ∧ (True) ∧ SP_X12_told v Mz r M') := by
  have hFz : FR (S_c_X12_told) Mz Mz := FR.self
  refine w_iload_n dX12_told_0 rfl 1 rfl ?_
  refine w_iconst (v := 1) dX12_told_1 (by decide) ?_
  refine w_bipush (v := 6) dX12_told_2 (by decide) ?_
  refine w_callS (as := [vI v, vI 1, vI 6]) (rest := []) (c_X12_within l G cy ad d v 1 6 Mz hIz) kS_X12_within pnn_17 (Nat.le_of_ble_eq_true rfl) m_1427 rfl rfl (by decide) (Nat.le_of_ble_eq_true rfl) dX12_told_4 (fun r1_ M2_ q3_ => ?_)
  obtain ⟨rfl, h4_, hs5_⟩ := q3_
  rcases h4_ with ⟨rfl, h4_⟩ | ⟨rfl, h4_⟩
  · simp only [li_1, li_6] at h4_
    refine w_if_eq (tgt := 19) dX12_told_7 (by decide) li_1 (fun h9 => (absurd h9 (by decide))) (fun h6_ => ?_)
    refine w_aload_n dX12_told_10 rfl 0 rfl ?_
    refine w_getR (c' := (53, 0, 0)) fl_RX12_19 rfl rfl ic_12 dX12_told_11 rfl ?_
    refine w_iload_n dX12_told_14 rfl 1 rfl ?_
    refine w_iald rfl rfl ic_53 (rfl : v.toInt = v.toInt) (lf_c_X11_told_0 v h4_ ) dX12_told_15 (fun j9_ h10_ z7_ e8_ => ?_)
    refine w_goto (tgt := 25) dX12_told_16 (by decide) ?_
    exact w_iret rfl dX12_told_25 ⟨hIz, hFz, trivial, (Or.inl ⟨hs5_, h4_, j9_, h10_, z7_, e8_, rfl, rfl⟩)⟩
  · simp only [li_1, li_6] at h4_
    refine w_if_eq (tgt := 19) dX12_told_7 (by decide) li_0 (fun h11_ => ?_) (fun h9 => (absurd h9 (by decide)))
    refine w_aload_n dX12_told_19 rfl 0 rfl ?_
    refine w_ldc (v := (-1000001)) m_1433 dX12_told_20 ?_
    refine w_callV (as := [vI (-1000001)]) (rest := []) (c_X12_finding l G cy ad d (-1000001) Mz hIz (by first | decide | (unfold vF; omega) | (unfold vRw; omega))) kV_X12_finding pnn_17 (Nat.le_of_ble_eq_true rfl) m_1434 rfl rfl rfl ic_12 rfl rfl (by decide) (Nat.le_of_ble_eq_true rfl) dX12_told_22 (fun r12_ M13_ q14_ => ?_)
    obtain ⟨hI16_, hF17_, h15_, hs19_⟩ := q14_
    have hF18_ := hFz.tr hF17_ (fun c k => (fun h => h.elim (fun h => (Or.inl ⟨h.1, h.2⟩)) (fun h => h.elim)))
    simp only [li_m1000001] at h15_
    exact w_iret rfl dX12_told_25 ⟨hI16_, hF18_, trivial, (Or.inr ⟨hs5_, h4_, M13_, hI16_, hF17_, r12_, hs19_, h15_, rfl, rfl⟩)⟩
def S_c_X12_trace : rf → Nat → Prop := fun c k => (c.1 = 53 ∧ c.2.1 = 0) ∨ False
def SP_X12_trace (v : Int32) (Mz : mM) (r_ : Int32) (M_ : mM) : Prop := ∃ z1_ : Int32, (z1_ = Mz.1 (12, 0, 0) 26) ∧ (0 ≤ z1_.toInt ∧ z1_.toInt ≤ 30) ∧ ∃ z4_ : Int32, (z4_.toInt = z1_.toInt - 1) ∧ (((SP_X12_within v 0 z4_ Mz (1 : Int32)) ∧ (0 ≤ v.toInt ∧ v.toInt ≤ z4_.toInt) ∧ ∃ j14_ : Nat, ((j14_ : Int) = v.toInt) ∧ ∃ z12_ : Int32, (z12_ = Mz.1 (65, 0, 0) j14_) ∧ r_ = z12_ ∧ M_ = Mz) ∨ ((SP_X12_within v 0 z4_ Mz (0 : Int32)) ∧ (¬ (0 ≤ v.toInt ∧ v.toInt ≤ z4_.toInt)) ∧ ∃ M18_ : mM, (InvD M18_) ∧ (FR (S_c_X12_finding) Mz M18_) ∧ ∃ r17_ : Int32, (SP_X12_finding (-1000002) Mz r17_ M18_) ∧ (r17_.toInt = (-1000002)) ∧ r_ = r17_ ∧ M_ = M18_))
theorem lf_c_X12_trace_0 (z1_ : Int32) (h3_ : 0 ≤ z1_.toInt ∧ z1_.toInt ≤ 30) : -2147483648 ≤ z1_.toInt - 1 ∧ z1_.toInt - 1 < 2147483648 := by omega
theorem lf_c_X12_trace_1 (v : Int32) (z1_ : Int32) (z4_ : Int32) (h3_ : 0 ≤ z1_.toInt ∧ z1_.toInt ≤ 30) (h5_ : z4_.toInt = z1_.toInt - 1) (h9_ : 0 ≤ v.toInt ∧ v.toInt ≤ z4_.toInt) : 0 ≤ v.toInt ∧ v.toInt < ((30 : Nat) : Int) := by omega
set_option maxHeartbeats 4000000 in
set_option maxRecDepth 100000 in
theorem c_X12_trace (l : Launch) (G : va_G) (cy : Nat → ClassId) (ad : rf → Nat) (d : Nat) (v : Int32) (Mz : mM) (hIz : InvD Mz) : WP DD l G cy ad yX12_trace cX12_trace 2 (some .int) (d + 1) 0 [(0, vR (12, 0, 0)), (1, vI v)] [] Mz (fun r M' => InvD M' ∧ FR (S_c_X12_trace) Mz M' ∧ (True) ∧ SP_X12_trace v Mz r M') := by
  have hFz : FR (S_c_X12_trace) Mz Mz := FR.self
  refine w_iload_n dX12_trace_0 rfl 1 rfl ?_
  refine w_iconst (v := 0) dX12_trace_1 (by decide) ?_
  refine w_aload_n dX12_trace_2 rfl 0 rfl ?_
  refine w_getI fl_RX12_324 rfl rfl ic_12 dX12_trace_3 (fun z1_ e2_ => ?_)
  have h3_ : 0 ≤ z1_.toInt ∧ z1_.toInt ≤ 30 := ofEq (P := fun v => 0 ≤ v.toInt ∧ v.toInt ≤ 30) e2_ (hIz.1 (12, 0, 0) 26)
  refine w_iconst (v := 1) dX12_trace_6 (by decide) ?_
  refine w_isubB dX12_trace_7 (rfl : z1_.toInt = z1_.toInt) li_1 (lf_c_X12_trace_0 z1_ h3_ ) (fun z4_ h5_ => ?_)
  refine w_callS (as := [vI v, vI 0, vI z4_]) (rest := []) (c_X12_within l G cy ad d v 0 z4_ Mz hIz) kS_X12_within pnn_17 (Nat.le_of_ble_eq_true rfl) m_1427 rfl rfl (by decide) (Nat.le_of_ble_eq_true rfl) dX12_trace_8 (fun r6_ M7_ q8_ => ?_)
  obtain ⟨rfl, h9_, hs10_⟩ := q8_
  rcases h9_ with ⟨rfl, h9_⟩ | ⟨rfl, h9_⟩
  · simp only [li_0] at h9_
    refine w_if_eq (tgt := 23) dX12_trace_11 (by decide) li_1 (fun h9 => (absurd h9 (by decide))) (fun h11_ => ?_)
    refine w_aload_n dX12_trace_14 rfl 0 rfl ?_
    refine w_getR (c' := (65, 0, 0)) fl_RX12_69 rfl rfl ic_12 dX12_trace_15 rfl ?_
    refine w_iload_n dX12_trace_18 rfl 1 rfl ?_
    refine w_iald rfl rfl ic_65 (rfl : v.toInt = v.toInt) (lf_c_X12_trace_1 v z1_ z4_ h3_ h5_ h9_ ) dX12_trace_19 (fun j14_ h15_ z12_ e13_ => ?_)
    refine w_goto (tgt := 29) dX12_trace_20 (by decide) ?_
    exact w_iret rfl dX12_trace_29 ⟨hIz, hFz, trivial, ⟨z1_, e2_, h3_, z4_, h5_, (Or.inl ⟨hs10_, h9_, j14_, h15_, z12_, e13_, rfl, rfl⟩)⟩⟩
  · simp only [li_0] at h9_
    refine w_if_eq (tgt := 23) dX12_trace_11 (by decide) li_0 (fun h16_ => ?_) (fun h9 => (absurd h9 (by decide)))
    refine w_aload_n dX12_trace_23 rfl 0 rfl ?_
    refine w_ldc (v := (-1000002)) m_1500 dX12_trace_24 ?_
    refine w_callV (as := [vI (-1000002)]) (rest := []) (c_X12_finding l G cy ad d (-1000002) Mz hIz (by first | decide | (unfold vF; omega) | (unfold vRw; omega))) kV_X12_finding pnn_17 (Nat.le_of_ble_eq_true rfl) m_1434 rfl rfl rfl ic_12 rfl rfl (by decide) (Nat.le_of_ble_eq_true rfl) dX12_trace_26 (fun r17_ M18_ q19_ => ?_)
    obtain ⟨hI21_, hF22_, h20_, hs24_⟩ := q19_
    have hF23_ := hFz.tr hF22_ (fun c k => (fun h => h.elim (fun h => (Or.inl ⟨h.1, h.2⟩)) (fun h => h.elim)))
    simp only [li_m1000002] at h20_
    exact w_iret rfl dX12_trace_29 ⟨hI21_, hF23_, trivial, ⟨z1_, e2_, h3_, z4_, h5_, (Or.inr ⟨hs10_, h9_, M18_, hI21_, hF22_, r17_, hs24_, h20_, rfl, rfl⟩)⟩⟩
def S_c_X12_began : rf → Nat → Prop := fun c k => (c.1 = 65 ∧ c.2.1 = 0) ∨ (c.1 = 12 ∧ c.2.1 = 0 ∧ k = 26) ∨ False
def SP_X12_began (v : Int32) (Mz : mM) (M_ : mM) : Prop := ∃ z1_ : Int32, (z1_ = Mz.1 (12, 0, 0) 26) ∧ (0 ≤ z1_.toInt ∧ z1_.toInt ≤ 30) ∧ (((30 ≤ z1_.toInt) ∧ M_ = Mz) ∨ ((z1_.toInt < 30) ∧ ∃ j10_ : Nat, ((j10_ : Int) = z1_.toInt) ∧ ∃ M8_ : mM, (M8_ = up Mz (65, 0, 0) j10_ v) ∧ ∃ z15_ : Int32, (z15_ = M8_.1 (12, 0, 0) 26) ∧ (0 ≤ z15_.toInt ∧ z15_.toInt ≤ 30) ∧ (z15_.toInt = z1_.toInt) ∧ ∃ z19_ : Int32, (z19_.toInt = z15_.toInt + 1) ∧ ∃ M21_ : mM, (M21_ = up M8_ (12, 0, 0) 26 z19_) ∧ M_ = M21_))
theorem lf_c_X12_began_0 (z1_ : Int32) (h3_ : 0 ≤ z1_.toInt ∧ z1_.toInt ≤ 30) (h5_ : z1_.toInt < 30) : 0 ≤ z1_.toInt ∧ z1_.toInt < ((30 : Nat) : Int) := by omega
theorem lf_c_X12_began_1 (z15_ : Int32) (h17_ : 0 ≤ z15_.toInt ∧ z15_.toInt ≤ 30) : -2147483648 ≤ z15_.toInt + 1 ∧ z15_.toInt + 1 < 2147483648 := by omega
theorem lf_c_X12_began_2 (z1_ : Int32) (z15_ : Int32) (z19_ : Int32) (h5_ : z1_.toInt < 30) (h17_ : 0 ≤ z15_.toInt ∧ z15_.toInt ≤ 30) (h18_ : z15_.toInt = z1_.toInt) (h20_ : z19_.toInt = z15_.toInt + 1) : 0 ≤ z19_.toInt ∧ z19_.toInt ≤ 30 := by omega
set_option maxHeartbeats 4000000 in
set_option maxRecDepth 100000 in
theorem c_X12_began (l : Launch) (G : va_G) (cy : Nat → ClassId) (ad : rf → Nat) (d : Nat) (v : Int32) (Mz : mM) (hIz : InvD Mz) : WP DD l G cy ad yX12_began cX12_began 2 none d 0 [(0, vR (12, 0, 0)), (1, vI v)] [] Mz (fun r M' => InvD M' ∧ FR (S_c_X12_began) Mz M' ∧ (True) ∧ SP_X12_began v Mz M') := by
  have hFz : FR (S_c_X12_began) Mz Mz := FR.self
  refine w_aload_n dX12_began_0 rfl 0 rfl ?_
  refine w_getI fl_RX12_324 rfl rfl ic_12 dX12_began_1 (fun z1_ e2_ => ?_)
  have h3_ : 0 ≤ z1_.toInt ∧ z1_.toInt ≤ 30 := ofEq (P := fun v => 0 ≤ v.toInt ∧ v.toInt ≤ 30) e2_ (hIz.1 (12, 0, 0) 26)
  have kf4_ : (Mz.1 (12, 0, 0) 26).toInt = z1_.toInt := by rw [e2_]
  refine w_bipush (v := 30) dX12_began_4 (by decide) ?_
  refine w_icmp_ge (tgt := 29) dX12_began_6 (by decide) (rfl : z1_.toInt = z1_.toInt) li_30 (fun h5_ => ?_) (fun h5_ => ?_)
  · exact w_vret rfl dX12_began_29 ⟨hIz, hFz, trivial, ⟨z1_, e2_, h3_, (Or.inl ⟨h5_, rfl⟩)⟩⟩
  · refine w_aload_n dX12_began_9 rfl 0 rfl ?_
    refine w_getR (c' := (65, 0, 0)) fl_RX12_69 rfl rfl ic_12 dX12_began_10 rfl ?_
    refine w_aload_n dX12_began_13 rfl 0 rfl ?_
    refine w_getI fl_RX12_324 rfl rfl ic_12 dX12_began_14 (fun z6_ e7_ => ?_)
    obtain rfl : z1_ = z6_ := e2_.trans e7_.symm
    refine w_iload_n dX12_began_17 rfl 1 rfl ?_
    refine w_iast DD_nd rfl rfl ic_65 (rfl : z1_.toInt = z1_.toInt) (lf_c_X12_began_0 z1_ h3_ h5_ ) dX12_began_18 (fun j10_ h11_ M8_ hM9_ => ?_)
    have hI12_ := hIz.put hM9_ ⟨trivial, Or.inr (by decide)⟩
    have hF13_ := hFz.put hM9_ (Or.inl ⟨rfl, rfl⟩)
    have kf14_ : (M8_.1 (12, 0, 0) 26).toInt = z1_.toInt := by rw [(show M8_.1 (12, 0, 0) 26 = Mz.1 (12, 0, 0) 26 by rw [hM9_, up_ne (by simp)])]; exact kf4_
    refine w_aload_n dX12_began_19 rfl 0 rfl ?_
    refine w_dup dX12_began_20 rfl ?_
    refine w_getI fl_RX12_324 rfl rfl ic_12 dX12_began_21 (fun z15_ e16_ => ?_)
    have h17_ : 0 ≤ z15_.toInt ∧ z15_.toInt ≤ 30 := ofEq (P := fun v => 0 ≤ v.toInt ∧ v.toInt ≤ 30) e16_ (hI12_.1 (12, 0, 0) 26)
    have h18_ : z15_.toInt = z1_.toInt := by rw [e16_]; exact kf14_
    refine w_iconst (v := 1) dX12_began_24 (by decide) ?_
    refine w_iaddB dX12_began_25 (rfl : z15_.toInt = z15_.toInt) li_1 (lf_c_X12_began_1 z15_ h17_ ) (fun z19_ h20_ => ?_)
    refine w_putI DD_nd fl_RX12_324 rfl rfl ic_12 dX12_began_26 (fun M21_ hM22_ => ?_)
    have hI23_ := hI12_.put hM22_ ⟨(lf_c_X12_began_2 z1_ z15_ z19_ h5_ h17_ h18_ h20_ ), Or.inl (by decide)⟩
    have hF24_ := hF13_.put hM22_ (Or.inr (Or.inl ⟨rfl, rfl, rfl⟩))
    exact w_vret rfl dX12_began_29 ⟨hI23_, hF24_, trivial, ⟨z1_, e2_, h3_, (Or.inr ⟨h5_, j10_, h11_, M8_, hM9_, z15_, e16_, h17_, h18_, z19_, h20_, M21_, hM22_, rfl⟩)⟩⟩
end
section
/-! copies of all that an image keeps -/
theorem PN_out {k : Nat} {v : Int32} (h : 252 ≤ k) : PN k v := by unfold PN; omega
theorem NW5_cong {f g : Nat → Int32} (h : NW5 f) (hg : ∀ i : Nat, (i : Int) < 3567 → g i = f i) : NW5 g := by
  refine ⟨fun k => ?_, fun u hu => ?_⟩
  · rcases Nat.lt_or_ge k 252 with q | q
    · rw [hg k (by omega)]; exact h.1 k
    · exact PN_out q
  · obtain ⟨n, D, h1, h2, h3⟩ := h.2 u hu
    exact ⟨n, D, h1, by rw [hg _ (by omega)]; exact h2, by rw [dpt_cong (g := f) (b := 345 + 50 * u + 1) n (fun i hi => hg _ (by omega))]; exact h3⟩
def NWx (b : Nat) (M : mM) : Prop := (∀ (c : rf) (k : Nat), IND c.1 k (M.1 c k)) ∧ ∀ r : Nat, 50 ≤ r → r ≤ 52 → ¬ r = b → NW5 (M.1 (r, 0, 0))
theorem NWx.put {b : Nat} {M M' : mM} {k : Nat} {v : Int32} (h : NWx b M) (he : M' = up M (b, 0, 0) k v) (hb : 50 ≤ b ∧ b ≤ 52) : NWx b M' := by
  subst he
  refine ⟨fun c' k' => ?_, fun r h1 h2 h3 => ?_⟩
  · by_cases e : c' = (b, 0, 0) ∧ k' = k
    · rw [e.1, e.2, up_same]
      obtain rfl | rfl | rfl : b = 50 ∨ b = 51 ∨ b = 52 := by omega
      all_goals trivial
    · rw [up_ne e]; exact h.1 c' k'
  · rw [up_other k v (fun q => h3 (congrArg Prod.fst q))]; exact h.2 r h1 h2 h3
theorem NWx.of {b : Nat} {M : mM} (h : InvD M) : NWx b M := ⟨h.1, fun r h1 h2 _ => by
  obtain rfl | rfl | rfl : r = 50 ∨ r = 51 ∨ r = 52 := by omega
  · exact h.2.1
  · exact h.2.2.1
  · exact h.2.2.2⟩
theorem NWx.toD {a b : Nat} {M : mM} (h : NWx b M) (ha : 50 ≤ a ∧ a ≤ 52) (hab : ¬ a = b) (hc : ∀ i : Nat, (i : Int) < 3567 → M.1 (b, 0, 0) i = M.1 (a, 0, 0) i) : InvD M := by
  have hb := NW5_cong (h.2 a ha.1 ha.2 hab) hc
  have hr : ∀ r : Nat, 50 ≤ r → r ≤ 52 → NW5 (M.1 (r, 0, 0)) := fun r h1 h2 => by
    by_cases e : r = b
    · rw [e]; exact hb
    · exact h.2 r h1 h2 e
  exact ⟨h.1, hr 50 (by omega) (by omega), hr 51 (by omega) (by omega), hr 52 (by omega) (by omega)⟩
def InvX50 (M : mM) : Prop := NWx 50 M
def InvX51 (M : mM) : Prop := NWx 51 M
def InvX52 (M : mM) : Prop := NWx 52 M
theorem InvX50.put {M M' : mM} {k : Nat} {v : Int32} (h : InvX50 M) (he : M' = up M (50, 0, 0) k v) (_ : True) : InvX50 M' := NWx.put h he (by decide)
theorem InvX51.put {M M' : mM} {k : Nat} {v : Int32} (h : InvX51 M) (he : M' = up M (51, 0, 0) k v) (_ : True) : InvX51 M' := NWx.put h he (by decide)
theorem InvX52.put {M M' : mM} {k : Nat} {v : Int32} (h : InvX52 M) (he : M' = up M (52, 0, 0) k v) (_ : True) : InvX52 M' := NWx.put h he (by decide)
theorem InvX50.of {M : mM} (h : InvD M) : InvX50 M := NWx.of h
theorem InvX51.of {M : mM} (h : InvD M) : InvX51 M := NWx.of h
theorem InvX52.of {M : mM} (h : InvD M) : InvX52 M := NWx.of h
theorem InvX51.toD50 {M : mM} (h : InvX51 M) (hc : ∀ i : Nat, (i : Int) < 3567 → M.1 (51, 0, 0) i = M.1 (50, 0, 0) i) : InvD M := NWx.toD h (by decide) (by decide) hc
theorem InvX52.toD50 {M : mM} (h : InvX52 M) (hc : ∀ i : Nat, (i : Int) < 3567 → M.1 (52, 0, 0) i = M.1 (50, 0, 0) i) : InvD M := NWx.toD h (by decide) (by decide) hc
theorem InvX50.toD51 {M : mM} (h : InvX50 M) (hc : ∀ i : Nat, (i : Int) < 3567 → M.1 (50, 0, 0) i = M.1 (51, 0, 0) i) : InvD M := NWx.toD h (by decide) (by decide) hc
theorem InvX50.toD52 {M : mM} (h : InvX50 M) (hc : ∀ i : Nat, (i : Int) < 3567 → M.1 (50, 0, 0) i = M.1 (52, 0, 0) i) : InvD M := NWx.toD h (by decide) (by decide) hc
theorem cp_step {M M2 : mM} {a b : rf} {j j2 : Nat} {z : Int32} {k k' : Int} (hab : ¬ a = b) (h : ∀ i : Nat, (i : Int) < k → M.1 b i = M.1 a i) (hM : M2 = up M b j z) (hz : z = M.1 a j2) (hj : (j : Int) = k) (hj2 : (j2 : Int) = k) (hk : k' = k + 1) : ∀ i : Nat, (i : Int) < k' → M2.1 b i = M2.1 a i := by
  intro i hi
  subst hM
  rw [up_other j z hab]
  by_cases e : i = j
  · rw [e, up_same, hz]
    rw [show j2 = j by omega]
  · rw [up_ne (fun q => e q.2)]
    exact h i (by omega)
end
section
/-! words of the tables that are used, by their places; decode rows; fields -/
theorem li_3567 : (3567 : Int32).toInt = 3567 := by decide
set_option maxRecDepth 20000 in
theorem m_1324 : Cond.fieldLink RX12 13 "ClickStreetModel" "kept" "[I" ∈ BASE := bmT6 46 rfl rfl
set_option maxRecDepth 20000 in
theorem m_1325 : Cond.fieldLink RX12 16 "ClickStreetModel" "aside" "[I" ∈ BASE := bmT6 47 rfl rfl
set_option maxRecDepth 20000 in
theorem m_1326 : Cond.fieldLink RX12 353 "ClickStreetModel" "images" "I" ∈ BASE := bmT6 48 rfl rfl
set_option maxRecDepth 20000 in
theorem m_1843 : Cond.methodLink RX12 349 yX12_copy ∈ BASE := bmT8 85 rfl rfl
set_option maxRecDepth 20000 in
theorem m_1844 : Cond.static yX12_copy ∈ BASE := bmT8 86 rfl rfl
set_option maxRecDepth 20000 in
theorem m_1845 : Cond.code yX12_copy cX12_copy 3 none ∈ BASE := bmT8 87 rfl rfl
theorem kS_X12_copy : KS yX12_copy cX12_copy 3 none 2 := ⟨m_1844, m_92, m_1845, nhM_17, nhV_17, pdn_40⟩
theorem fl_RX12_13 : FLK RX12 13 12 1 (.array .int) true := ⟨RX12, TX12, 33, tyX12, rfl, inB12, tyX12_ok, nmX12, by decide, rfl, rfl, Or.inl m_1324⟩
theorem fl_RX12_16 : FLK RX12 16 12 2 (.array .int) true := ⟨RX12, TX12, 33, tyX12, rfl, inB12, tyX12_ok, nmX12, by decide, rfl, rfl, Or.inl m_1325⟩
theorem fl_RX12_353 : FLK RX12 353 12 3 .int false := ⟨RX12, TX12, 33, tyX12, rfl, inB12, tyX12_ok, nmX12, by decide, rfl, rfl, Or.inl m_1326⟩
theorem ch_cX12_check_0 : (cX12_check.data.toList.drop 0).take 36 = [42, 180, 0, 9, 8, 46, 61, 42, 180, 0, 9, 8, 3, 79, 42, 27, 5, 182, 0, 116, 154, 0, 10, 42, 18, 103, 182, 0, 104, 172, 42, 180, 0, 9, 42, 180] := by decide +kernel
theorem dX12_check_0 : decode cX12_check 0 = .ok (.aload_n 0, 1) := do_42 (rdb (p := 0) (i := 0) ch_cX12_check_0 rfl)
theorem dX12_check_1 : decode cX12_check 1 = .ok (.getfield 9, 3) := do_180 (rdb (p := 0) (i := 1) ch_cX12_check_0 rfl) (rdb (p := 0) (i := 2) ch_cX12_check_0 rfl) (rdb (p := 0) (i := 3) ch_cX12_check_0 rfl) rfl
theorem dX12_check_4 : decode cX12_check 4 = .ok (.iconst 5, 1) := do_8 (rdb (p := 0) (i := 4) ch_cX12_check_0 rfl)
theorem dX12_check_5 : decode cX12_check 5 = .ok (.iaload, 1) := do_46 (rdb (p := 0) (i := 5) ch_cX12_check_0 rfl)
theorem dX12_check_6 : decode cX12_check 6 = .ok (.istore_n 2, 1) := do_61 (rdb (p := 0) (i := 6) ch_cX12_check_0 rfl)
theorem dX12_check_7 : decode cX12_check 7 = .ok (.aload_n 0, 1) := do_42 (rdb (p := 0) (i := 7) ch_cX12_check_0 rfl)
theorem dX12_check_8 : decode cX12_check 8 = .ok (.getfield 9, 3) := do_180 (rdb (p := 0) (i := 8) ch_cX12_check_0 rfl) (rdb (p := 0) (i := 9) ch_cX12_check_0 rfl) (rdb (p := 0) (i := 10) ch_cX12_check_0 rfl) rfl
theorem dX12_check_11 : decode cX12_check 11 = .ok (.iconst 5, 1) := do_8 (rdb (p := 0) (i := 11) ch_cX12_check_0 rfl)
theorem dX12_check_12 : decode cX12_check 12 = .ok (.iconst 0, 1) := do_3 (rdb (p := 0) (i := 12) ch_cX12_check_0 rfl)
theorem dX12_check_13 : decode cX12_check 13 = .ok (.iastore, 1) := do_79 (rdb (p := 0) (i := 13) ch_cX12_check_0 rfl)
theorem dX12_check_14 : decode cX12_check 14 = .ok (.aload_n 0, 1) := do_42 (rdb (p := 0) (i := 14) ch_cX12_check_0 rfl)
theorem dX12_check_15 : decode cX12_check 15 = .ok (.iload_n 1, 1) := do_27 (rdb (p := 0) (i := 15) ch_cX12_check_0 rfl)
theorem dX12_check_16 : decode cX12_check 16 = .ok (.iconst 2, 1) := do_5 (rdb (p := 0) (i := 16) ch_cX12_check_0 rfl)
theorem dX12_check_17 : decode cX12_check 17 = .ok (.invokevirtual 116, 3) := do_182 (rdb (p := 0) (i := 17) ch_cX12_check_0 rfl) (rdb (p := 0) (i := 18) ch_cX12_check_0 rfl) (rdb (p := 0) (i := 19) ch_cX12_check_0 rfl) rfl
theorem dX12_check_20 : decode cX12_check 20 = .ok (.ifCond .ne 10, 3) := do_154 (rdb (p := 0) (i := 20) ch_cX12_check_0 rfl) (rdb (p := 0) (i := 21) ch_cX12_check_0 rfl) (rdb (p := 0) (i := 22) ch_cX12_check_0 rfl) (by decide +kernel)
theorem dX12_check_23 : decode cX12_check 23 = .ok (.aload_n 0, 1) := do_42 (rdb (p := 0) (i := 23) ch_cX12_check_0 rfl)
theorem dX12_check_24 : decode cX12_check 24 = .ok (.ldc 103, 2) := do_18 (rdb (p := 0) (i := 24) ch_cX12_check_0 rfl) (rdb (p := 0) (i := 25) ch_cX12_check_0 rfl)
theorem dX12_check_26 : decode cX12_check 26 = .ok (.invokevirtual 104, 3) := do_182 (rdb (p := 0) (i := 26) ch_cX12_check_0 rfl) (rdb (p := 0) (i := 27) ch_cX12_check_0 rfl) (rdb (p := 0) (i := 28) ch_cX12_check_0 rfl) rfl
theorem dX12_check_29 : decode cX12_check 29 = .ok (.ireturn, 1) := do_172 (rdb (p := 0) (i := 29) ch_cX12_check_0 rfl)
theorem dX12_check_30 : decode cX12_check 30 = .ok (.aload_n 0, 1) := do_42 (rdb (p := 0) (i := 30) ch_cX12_check_0 rfl)
theorem dX12_check_31 : decode cX12_check 31 = .ok (.getfield 9, 3) := do_180 (rdb (p := 0) (i := 31) ch_cX12_check_0 rfl) (rdb (p := 0) (i := 32) ch_cX12_check_0 rfl) (rdb (p := 0) (i := 33) ch_cX12_check_0 rfl) rfl
theorem ch_cX12_check_32 : (cX12_check.data.toList.drop 32).take 36 = [0, 9, 42, 180, 0, 16, 184, 1, 93, 3, 62, 3, 54, 4, 21, 4, 28, 162, 0, 52, 29, 154, 0, 48, 42, 182, 1, 45, 42, 180, 0, 9, 42, 27, 182, 0] := by decide +kernel
theorem dX12_check_34 : decode cX12_check 34 = .ok (.aload_n 0, 1) := do_42 (rdb (p := 32) (i := 2) ch_cX12_check_32 rfl)
theorem dX12_check_35 : decode cX12_check 35 = .ok (.getfield 16, 3) := do_180 (rdb (p := 32) (i := 3) ch_cX12_check_32 rfl) (rdb (p := 32) (i := 4) ch_cX12_check_32 rfl) (rdb (p := 32) (i := 5) ch_cX12_check_32 rfl) rfl
theorem dX12_check_38 : decode cX12_check 38 = .ok (.invokestatic 349, 3) := do_184 (rdb (p := 32) (i := 6) ch_cX12_check_32 rfl) (rdb (p := 32) (i := 7) ch_cX12_check_32 rfl) (rdb (p := 32) (i := 8) ch_cX12_check_32 rfl) rfl
theorem dX12_check_41 : decode cX12_check 41 = .ok (.iconst 0, 1) := do_3 (rdb (p := 32) (i := 9) ch_cX12_check_32 rfl)
theorem dX12_check_42 : decode cX12_check 42 = .ok (.istore_n 3, 1) := do_62 (rdb (p := 32) (i := 10) ch_cX12_check_32 rfl)
theorem dX12_check_43 : decode cX12_check 43 = .ok (.iconst 0, 1) := do_3 (rdb (p := 32) (i := 11) ch_cX12_check_32 rfl)
theorem dX12_check_44 : decode cX12_check 44 = .ok (.istore 4, 2) := do_54 (rdb (p := 32) (i := 12) ch_cX12_check_32 rfl) (rdb (p := 32) (i := 13) ch_cX12_check_32 rfl)
theorem dX12_check_46 : decode cX12_check 46 = .ok (.iload 4, 2) := do_21 (rdb (p := 32) (i := 14) ch_cX12_check_32 rfl) (rdb (p := 32) (i := 15) ch_cX12_check_32 rfl)
theorem dX12_check_48 : decode cX12_check 48 = .ok (.iload_n 2, 1) := do_28 (rdb (p := 32) (i := 16) ch_cX12_check_32 rfl)
theorem dX12_check_49 : decode cX12_check 49 = .ok (.if_icmp .ge 52, 3) := do_162 (rdb (p := 32) (i := 17) ch_cX12_check_32 rfl) (rdb (p := 32) (i := 18) ch_cX12_check_32 rfl) (rdb (p := 32) (i := 19) ch_cX12_check_32 rfl) (by decide +kernel)
theorem dX12_check_52 : decode cX12_check 52 = .ok (.iload_n 3, 1) := do_29 (rdb (p := 32) (i := 20) ch_cX12_check_32 rfl)
theorem dX12_check_53 : decode cX12_check 53 = .ok (.ifCond .ne 48, 3) := do_154 (rdb (p := 32) (i := 21) ch_cX12_check_32 rfl) (rdb (p := 32) (i := 22) ch_cX12_check_32 rfl) (rdb (p := 32) (i := 23) ch_cX12_check_32 rfl) (by decide +kernel)
theorem dX12_check_56 : decode cX12_check 56 = .ok (.aload_n 0, 1) := do_42 (rdb (p := 32) (i := 24) ch_cX12_check_32 rfl)
theorem dX12_check_57 : decode cX12_check 57 = .ok (.invokevirtual 301, 3) := do_182 (rdb (p := 32) (i := 25) ch_cX12_check_32 rfl) (rdb (p := 32) (i := 26) ch_cX12_check_32 rfl) (rdb (p := 32) (i := 27) ch_cX12_check_32 rfl) rfl
theorem dX12_check_60 : decode cX12_check 60 = .ok (.aload_n 0, 1) := do_42 (rdb (p := 32) (i := 28) ch_cX12_check_32 rfl)
theorem dX12_check_61 : decode cX12_check 61 = .ok (.getfield 9, 3) := do_180 (rdb (p := 32) (i := 29) ch_cX12_check_32 rfl) (rdb (p := 32) (i := 30) ch_cX12_check_32 rfl) (rdb (p := 32) (i := 31) ch_cX12_check_32 rfl) rfl
theorem ch_cX12_check_64 : (cX12_check.data.toList.drop 64).take 36 = [42, 27, 182, 0, 93, 4, 96, 46, 42, 180, 0, 9, 17, 1, 65, 21, 4, 96, 46, 160, 0, 7, 3, 167, 0, 7, 4, 21, 4, 96, 62, 132, 4, 1, 167, 255] := by decide +kernel
theorem dX12_check_64 : decode cX12_check 64 = .ok (.aload_n 0, 1) := do_42 (rdb (p := 64) (i := 0) ch_cX12_check_64 rfl)
theorem dX12_check_65 : decode cX12_check 65 = .ok (.iload_n 1, 1) := do_27 (rdb (p := 64) (i := 1) ch_cX12_check_64 rfl)
theorem dX12_check_66 : decode cX12_check 66 = .ok (.invokevirtual 93, 3) := do_182 (rdb (p := 64) (i := 2) ch_cX12_check_64 rfl) (rdb (p := 64) (i := 3) ch_cX12_check_64 rfl) (rdb (p := 64) (i := 4) ch_cX12_check_64 rfl) rfl
theorem dX12_check_69 : decode cX12_check 69 = .ok (.iconst 1, 1) := do_4 (rdb (p := 64) (i := 5) ch_cX12_check_64 rfl)
theorem dX12_check_70 : decode cX12_check 70 = .ok (.iadd, 1) := do_96 (rdb (p := 64) (i := 6) ch_cX12_check_64 rfl)
theorem dX12_check_71 : decode cX12_check 71 = .ok (.iaload, 1) := do_46 (rdb (p := 64) (i := 7) ch_cX12_check_64 rfl)
theorem dX12_check_72 : decode cX12_check 72 = .ok (.aload_n 0, 1) := do_42 (rdb (p := 64) (i := 8) ch_cX12_check_64 rfl)
theorem dX12_check_73 : decode cX12_check 73 = .ok (.getfield 9, 3) := do_180 (rdb (p := 64) (i := 9) ch_cX12_check_64 rfl) (rdb (p := 64) (i := 10) ch_cX12_check_64 rfl) (rdb (p := 64) (i := 11) ch_cX12_check_64 rfl) rfl
theorem dX12_check_76 : decode cX12_check 76 = .ok (.sipush 321, 3) := do_17 (rdb (p := 64) (i := 12) ch_cX12_check_64 rfl) (rdb (p := 64) (i := 13) ch_cX12_check_64 rfl) (rdb (p := 64) (i := 14) ch_cX12_check_64 rfl) (by decide +kernel)
theorem dX12_check_79 : decode cX12_check 79 = .ok (.iload 4, 2) := do_21 (rdb (p := 64) (i := 15) ch_cX12_check_64 rfl) (rdb (p := 64) (i := 16) ch_cX12_check_64 rfl)
theorem dX12_check_81 : decode cX12_check 81 = .ok (.iadd, 1) := do_96 (rdb (p := 64) (i := 17) ch_cX12_check_64 rfl)
theorem dX12_check_82 : decode cX12_check 82 = .ok (.iaload, 1) := do_46 (rdb (p := 64) (i := 18) ch_cX12_check_64 rfl)
theorem dX12_check_83 : decode cX12_check 83 = .ok (.if_icmp .ne 7, 3) := do_160 (rdb (p := 64) (i := 19) ch_cX12_check_64 rfl) (rdb (p := 64) (i := 20) ch_cX12_check_64 rfl) (rdb (p := 64) (i := 21) ch_cX12_check_64 rfl) (by decide +kernel)
theorem dX12_check_86 : decode cX12_check 86 = .ok (.iconst 0, 1) := do_3 (rdb (p := 64) (i := 22) ch_cX12_check_64 rfl)
theorem dX12_check_87 : decode cX12_check 87 = .ok (.goto 7, 3) := do_167 (rdb (p := 64) (i := 23) ch_cX12_check_64 rfl) (rdb (p := 64) (i := 24) ch_cX12_check_64 rfl) (rdb (p := 64) (i := 25) ch_cX12_check_64 rfl) (by decide +kernel)
theorem dX12_check_90 : decode cX12_check 90 = .ok (.iconst 1, 1) := do_4 (rdb (p := 64) (i := 26) ch_cX12_check_64 rfl)
theorem dX12_check_91 : decode cX12_check 91 = .ok (.iload 4, 2) := do_21 (rdb (p := 64) (i := 27) ch_cX12_check_64 rfl) (rdb (p := 64) (i := 28) ch_cX12_check_64 rfl)
theorem dX12_check_93 : decode cX12_check 93 = .ok (.iadd, 1) := do_96 (rdb (p := 64) (i := 29) ch_cX12_check_64 rfl)
theorem dX12_check_94 : decode cX12_check 94 = .ok (.istore_n 3, 1) := do_62 (rdb (p := 64) (i := 30) ch_cX12_check_64 rfl)
theorem dX12_check_95 : decode cX12_check 95 = .ok (.iinc 4 1, 3) := do_132 (rdb (p := 64) (i := 31) ch_cX12_check_64 rfl) (rdb (p := 64) (i := 32) ch_cX12_check_64 rfl) (rdb (p := 64) (i := 33) ch_cX12_check_64 rfl) (by decide +kernel)
theorem ch_cX12_check_96 : (cX12_check.data.toList.drop 96).take 36 = [4, 1, 167, 255, 204, 42, 180, 0, 16, 42, 180, 0, 9, 184, 1, 93, 29, 172] := by decide +kernel
theorem dX12_check_98 : decode cX12_check 98 = .ok (.goto (-52), 3) := do_167 (rdb (p := 96) (i := 2) ch_cX12_check_96 rfl) (rdb (p := 96) (i := 3) ch_cX12_check_96 rfl) (rdb (p := 96) (i := 4) ch_cX12_check_96 rfl) (by decide +kernel)
theorem dX12_check_101 : decode cX12_check 101 = .ok (.aload_n 0, 1) := do_42 (rdb (p := 96) (i := 5) ch_cX12_check_96 rfl)
theorem dX12_check_102 : decode cX12_check 102 = .ok (.getfield 16, 3) := do_180 (rdb (p := 96) (i := 6) ch_cX12_check_96 rfl) (rdb (p := 96) (i := 7) ch_cX12_check_96 rfl) (rdb (p := 96) (i := 8) ch_cX12_check_96 rfl) rfl
theorem dX12_check_105 : decode cX12_check 105 = .ok (.aload_n 0, 1) := do_42 (rdb (p := 96) (i := 9) ch_cX12_check_96 rfl)
theorem dX12_check_106 : decode cX12_check 106 = .ok (.getfield 9, 3) := do_180 (rdb (p := 96) (i := 10) ch_cX12_check_96 rfl) (rdb (p := 96) (i := 11) ch_cX12_check_96 rfl) (rdb (p := 96) (i := 12) ch_cX12_check_96 rfl) rfl
theorem dX12_check_109 : decode cX12_check 109 = .ok (.invokestatic 349, 3) := do_184 (rdb (p := 96) (i := 13) ch_cX12_check_96 rfl) (rdb (p := 96) (i := 14) ch_cX12_check_96 rfl) (rdb (p := 96) (i := 15) ch_cX12_check_96 rfl) rfl
theorem dX12_check_112 : decode cX12_check 112 = .ok (.iload_n 3, 1) := do_29 (rdb (p := 96) (i := 16) ch_cX12_check_96 rfl)
theorem dX12_check_113 : decode cX12_check 113 = .ok (.ireturn, 1) := do_172 (rdb (p := 96) (i := 17) ch_cX12_check_96 rfl)
theorem dX12_copy_0 : decode cX12_copy 0 = .ok (.iconst 0, 1) := by decide +kernel
theorem dX12_copy_1 : decode cX12_copy 1 = .ok (.istore_n 2, 1) := by decide +kernel
theorem dX12_copy_2 : decode cX12_copy 2 = .ok (.iload_n 2, 1) := by decide +kernel
theorem dX12_copy_3 : decode cX12_copy 3 = .ok (.sipush 3567, 3) := by decide +kernel
theorem dX12_copy_6 : decode cX12_copy 6 = .ok (.if_icmp .ge 15, 3) := by decide +kernel
theorem dX12_copy_9 : decode cX12_copy 9 = .ok (.aload_n 1, 1) := by decide +kernel
theorem dX12_copy_10 : decode cX12_copy 10 = .ok (.iload_n 2, 1) := by decide +kernel
theorem dX12_copy_11 : decode cX12_copy 11 = .ok (.aload_n 0, 1) := by decide +kernel
theorem dX12_copy_12 : decode cX12_copy 12 = .ok (.iload_n 2, 1) := by decide +kernel
theorem dX12_copy_13 : decode cX12_copy 13 = .ok (.iaload, 1) := by decide +kernel
theorem dX12_copy_14 : decode cX12_copy 14 = .ok (.iastore, 1) := by decide +kernel
theorem dX12_copy_15 : decode cX12_copy 15 = .ok (.iinc 2 1, 3) := by decide +kernel
theorem dX12_copy_18 : decode cX12_copy 18 = .ok (.goto (-16), 3) := by decide +kernel
theorem dX12_copy_21 : decode cX12_copy 21 = .ok (.return_, 1) := by decide +kernel
theorem dX12_image_0 : decode cX12_image 0 = .ok (.aload_n 0, 1) := by decide +kernel
theorem dX12_image_1 : decode cX12_image 1 = .ok (.getfield 9, 3) := by decide +kernel
theorem dX12_image_4 : decode cX12_image 4 = .ok (.aload_n 0, 1) := by decide +kernel
theorem dX12_image_5 : decode cX12_image 5 = .ok (.getfield 13, 3) := by decide +kernel
theorem dX12_image_8 : decode cX12_image 8 = .ok (.invokestatic 349, 3) := by decide +kernel
theorem dX12_image_11 : decode cX12_image 11 = .ok (.aload_n 0, 1) := by decide +kernel
theorem dX12_image_12 : decode cX12_image 12 = .ok (.dup, 1) := by decide +kernel
theorem dX12_image_13 : decode cX12_image 13 = .ok (.getfield 353, 3) := by decide +kernel
theorem dX12_image_16 : decode cX12_image 16 = .ok (.iconst 1, 1) := by decide +kernel
theorem dX12_image_17 : decode cX12_image 17 = .ok (.iadd, 1) := by decide +kernel
theorem dX12_image_18 : decode cX12_image 18 = .ok (.putfield 353, 3) := by decide +kernel
theorem dX12_image_21 : decode cX12_image 21 = .ok (.aload_n 0, 1) := by decide +kernel
theorem dX12_image_22 : decode cX12_image 22 = .ok (.getfield 353, 3) := by decide +kernel
theorem dX12_image_25 : decode cX12_image 25 = .ok (.ireturn, 1) := by decide +kernel
theorem dX12_restore_0 : decode cX12_restore 0 = .ok (.aload_n 0, 1) := by decide +kernel
theorem dX12_restore_1 : decode cX12_restore 1 = .ok (.getfield 353, 3) := by decide +kernel
theorem dX12_restore_4 : decode cX12_restore 4 = .ok (.ifCond .ne 10, 3) := by decide +kernel
theorem dX12_restore_7 : decode cX12_restore 7 = .ok (.aload_n 0, 1) := by decide +kernel
theorem dX12_restore_8 : decode cX12_restore 8 = .ok (.ldc 130, 2) := by decide +kernel
theorem dX12_restore_10 : decode cX12_restore 10 = .ok (.invokevirtual 104, 3) := by decide +kernel
theorem dX12_restore_13 : decode cX12_restore 13 = .ok (.ireturn, 1) := by decide +kernel
theorem dX12_restore_14 : decode cX12_restore 14 = .ok (.aload_n 0, 1) := by decide +kernel
theorem dX12_restore_15 : decode cX12_restore 15 = .ok (.getfield 13, 3) := by decide +kernel
theorem dX12_restore_18 : decode cX12_restore 18 = .ok (.aload_n 0, 1) := by decide +kernel
theorem dX12_restore_19 : decode cX12_restore 19 = .ok (.getfield 9, 3) := by decide +kernel
theorem dX12_restore_22 : decode cX12_restore 22 = .ok (.invokestatic 349, 3) := by decide +kernel
theorem dX12_restore_25 : decode cX12_restore 25 = .ok (.aload_n 0, 1) := by decide +kernel
theorem dX12_restore_26 : decode cX12_restore 26 = .ok (.getfield 9, 3) := by decide +kernel
theorem dX12_restore_29 : decode cX12_restore 29 = .ok (.iconst 0, 1) := by decide +kernel
theorem dX12_restore_30 : decode cX12_restore 30 = .ok (.iaload, 1) := by decide +kernel
theorem dX12_restore_31 : decode cX12_restore 31 = .ok (.ireturn, 1) := by decide +kernel
end
section
def S_c_copy_50_51 : rf → Nat → Prop := fun c k => (c.1 = 51 ∧ c.2.1 = 0) ∨ False
def ST_copy_50_51_2 (Mz : mM) (v2_2 : Int32) (M_2 : mM) (v2_2y : Int32) (M_2y : mM) : Prop := (0 ≤ v2_2.toInt) ∧ (v2_2.toInt ≤ 3567) ∧ (∀ i : Nat, (i : Int) < v2_2.toInt → M_2.1 (51, 0, 0) i = M_2.1 (50, 0, 0) i) ∧ (InvX51 M_2) ∧ (FR (S_c_copy_50_51) Mz M_2) ∧ (v2_2.toInt < 3567) ∧ ∃ j5_ : Nat, ((j5_ : Int) = v2_2.toInt) ∧ ∃ z3_ : Int32, (z3_ = M_2.1 (50, 0, 0) j5_) ∧ ∃ j9_ : Nat, ((j9_ : Int) = v2_2.toInt) ∧ ∃ M7_ : mM, (M7_ = up M_2 (51, 0, 0) j9_ z3_) ∧ ∃ z13_ : Int32, (z13_.toInt = v2_2.toInt + 1) ∧ v2_2y = z13_ ∧ M_2y = M7_
def SP_copy_50_51 (Mz : mM) (M_ : mM) : Prop := ∃ v2_2 : Int32, (0 ≤ v2_2.toInt) ∧ (v2_2.toInt ≤ 3567) ∧ ∃ M_2 : mM, (∀ i : Nat, (i : Int) < v2_2.toInt → M_2.1 (51, 0, 0) i = M_2.1 (50, 0, 0) i) ∧ (RCH (fun x_ y_ => ST_copy_50_51_2 Mz x_.1 x_.2 y_.1 y_.2) ((0 : Int32), Mz) (v2_2, M_2)) ∧ (InvX51 M_2) ∧ (FR (S_c_copy_50_51) Mz M_2) ∧ (3567 ≤ v2_2.toInt) ∧ M_ = M_2
theorem lf_c_copy_50_51_0 (v2_2 : Int32) (h2_ : 3567 ≤ v2_2.toInt) : 3567 ≤ v2_2.toInt := by omega
theorem lf_c_copy_50_51_1 (v2_2 : Int32) (hv0_2 : 0 ≤ v2_2.toInt) (h2_ : v2_2.toInt < 3567) : 0 ≤ v2_2.toInt ∧ v2_2.toInt < ((3567 : Nat) : Int) := by omega
theorem lf_c_copy_50_51_3 (v2_2 : Int32) (hv0_2 : 0 ≤ v2_2.toInt) (h2_ : v2_2.toInt < 3567) : -2147483648 ≤ v2_2.toInt + 1 ∧ v2_2.toInt + 1 < 2147483648 := by omega
theorem lf_c_copy_50_51_5 (v2_2 : Int32) (z13_ : Int32) (h2_ : v2_2.toInt < 3567) (h14_ : z13_.toInt = v2_2.toInt + 1) : z13_.toInt ≤ 3567 := by omega
theorem lf_c_copy_50_51_9 (v2_2 : Int32) (z13_ : Int32) (h2_ : v2_2.toInt < 3567) (h14_ : z13_.toInt = v2_2.toInt + 1) : (3567 - z13_.toInt).toNat < (3567 - v2_2.toInt).toNat := by omega
theorem lf_c_copy_50_51_11 : (0 : Int32).toInt ≤ 3567 := by have q0 := li_0; omega
set_option maxHeartbeats 4000000 in
set_option maxRecDepth 100000 in
theorem c_copy_50_51 (l : Launch) (G : va_G) (cy : Nat → ClassId) (ad : rf → Nat) (d : Nat) (Mz : mM) (hIz : InvX51 Mz) : WP DD l G cy ad yX12_copy cX12_copy 3 none d 0 [(0, vR (50, 0, 0)), (1, vR (51, 0, 0))] [] Mz (fun r M' => InvX51 M' ∧ FR (S_c_copy_50_51) Mz M' ∧ (∀ i : Nat, (i : Int) < 3567 → M'.1 (51, 0, 0) i = M'.1 (50, 0, 0) i) ∧ SP_copy_50_51 Mz M') := by
  have hFz : FR (S_c_copy_50_51) Mz Mz := FR.self
  refine w_iconst (v := 0) dX12_copy_0 (by decide) ?_
  refine w_istore_n (ls' := [(2, vI 0), (0, vR (50, 0, 0)), (1, vR (51, 0, 0))]) dX12_copy_1 rfl (by decide) rfl ?_
  have lp1_ : ∀ (nn_2 : Nat) (M_2 : mM) (hI_2 : InvX51 M_2) (hF_2 : FR (S_c_copy_50_51) Mz M_2) (v2_2 : Int32) (hv0_2 : 0 ≤ v2_2.toInt) (hv1_2 : v2_2.toInt ≤ 3567) (hv2_2 : ∀ i : Nat, (i : Int) < v2_2.toInt → M_2.1 (51, 0, 0) i = M_2.1 (50, 0, 0) i) (hL_2 : RCH (fun x_ y_ => ST_copy_50_51_2 Mz x_.1 x_.2 y_.1 y_.2) ((0 : Int32), Mz) (v2_2, M_2)), (3567 - v2_2.toInt).toNat < nn_2 → WP DD l G cy ad yX12_copy cX12_copy 3 none d 2 [(2, vI v2_2), (0, vR (50, 0, 0)), (1, vR (51, 0, 0))] [] M_2 (fun r M' => InvX51 M' ∧ FR (S_c_copy_50_51) Mz M' ∧ (∀ i : Nat, (i : Int) < 3567 → M'.1 (51, 0, 0) i = M'.1 (50, 0, 0) i) ∧ SP_copy_50_51 Mz M') := by
    intro nn_2
    induction nn_2 with
    | zero => intro M_2 hI_2 hF_2 v2_2 hv0_2 hv1_2 hv2_2 hL_2 hm_2; exact absurd hm_2 (Nat.not_lt_zero _)
    | succ nn_2 ih_2 =>
      intro M_2 hI_2 hF_2 v2_2 hv0_2 hv1_2 hv2_2 hL_2 hm_2
      refine w_iload_n dX12_copy_2 rfl 0 rfl ?_
      refine w_sipush (v := 3567) dX12_copy_3 (by decide) ?_
      refine w_icmp_ge (tgt := 21) dX12_copy_6 (by decide) (rfl : v2_2.toInt = v2_2.toInt) li_3567 (fun h2_ => ?_) (fun h2_ => ?_)
      · exact w_vret rfl dX12_copy_21 ⟨hI_2, hF_2, (fun i9 h9 => hv2_2 i9 (Int.lt_of_lt_of_le h9 (lf_c_copy_50_51_0 v2_2 h2_ ))), ⟨v2_2, hv0_2, hv1_2, M_2, hv2_2, hL_2, hI_2, hF_2, h2_, rfl⟩⟩
      · refine w_aload_n dX12_copy_9 rfl 2 rfl ?_
        refine w_iload_n dX12_copy_10 rfl 0 rfl ?_
        refine w_aload_n dX12_copy_11 rfl 1 rfl ?_
        refine w_iload_n dX12_copy_12 rfl 0 rfl ?_
        refine w_iald rfl rfl ic_50 (rfl : v2_2.toInt = v2_2.toInt) (lf_c_copy_50_51_1 v2_2 hv0_2 h2_ ) dX12_copy_13 (fun j5_ h6_ z3_ e4_ => ?_)
        refine w_iast DD_nd rfl rfl ic_51 (rfl : v2_2.toInt = v2_2.toInt) (lf_c_copy_50_51_1 v2_2 hv0_2 h2_ ) dX12_copy_14 (fun j9_ h10_ M7_ hM8_ => ?_)
        have hI11_ := hI_2.put hM8_ trivial
        have hF12_ := hF_2.put hM8_ (Or.inl ⟨rfl, rfl⟩)
        refine w_iincB (j := 0) (f := fun z13_ => [(2, vI z13_), (0, vR (50, 0, 0)), (1, vR (51, 0, 0))]) dX12_copy_15 rfl (by decide) (fun _ => rfl) (rfl : v2_2.toInt = v2_2.toInt) li_1 (lf_c_copy_50_51_3 v2_2 hv0_2 h2_ ) (fun z13_ h14_ => ?_)
        refine w_goto (tgt := 2) dX12_copy_18 (by decide) ?_
        refine w_loc (ls' := [(2, vI z13_), (0, vR (50, 0, 0)), (1, vR (51, 0, 0))]) [0, 1, 2] rfl ?_
        exact ih_2 M7_ hI11_ hF12_ z13_ (lf_c_X5_takeFrom_3 v2_2 z13_ hv0_2 h14_ ) (lf_c_copy_50_51_5 v2_2 z13_ h2_ h14_ ) (cp_step (by decide) hv2_2 hM8_ e4_ (lf_c_X12_lays_6 v2_2 j9_ h10_ ) (lf_c_X12_lays_6 v2_2 j5_ h6_ ) (lf_c_X12_given_25 v2_2 z13_ h14_ )) (RCH.tail hL_2 ⟨hv0_2, hv1_2, hv2_2, hI_2, hF_2, h2_, j5_, h6_, z3_, e4_, j9_, h10_, M7_, hM8_, z13_, h14_, rfl, rfl⟩) (Nat.lt_of_lt_of_le (lf_c_copy_50_51_9 v2_2 z13_ h2_ h14_ ) (Nat.le_of_lt_succ hm_2))
  exact lp1_ _ Mz hIz hFz 0 (lf_c_X5_takeFrom_5 ) (lf_c_copy_50_51_11 ) (fun i9 h9 => absurd h9 (by have := li_0; omega)) RCH.refl (Nat.lt_succ_self _)
def S_c_copy_51_50 : rf → Nat → Prop := fun c k => (c.1 = 50 ∧ c.2.1 = 0) ∨ False
def ST_copy_51_50_2 (Mz : mM) (v2_2 : Int32) (M_2 : mM) (v2_2y : Int32) (M_2y : mM) : Prop := (0 ≤ v2_2.toInt) ∧ (v2_2.toInt ≤ 3567) ∧ (∀ i : Nat, (i : Int) < v2_2.toInt → M_2.1 (50, 0, 0) i = M_2.1 (51, 0, 0) i) ∧ (InvX50 M_2) ∧ (FR (S_c_copy_51_50) Mz M_2) ∧ (v2_2.toInt < 3567) ∧ ∃ j5_ : Nat, ((j5_ : Int) = v2_2.toInt) ∧ ∃ z3_ : Int32, (z3_ = M_2.1 (51, 0, 0) j5_) ∧ ∃ j9_ : Nat, ((j9_ : Int) = v2_2.toInt) ∧ ∃ M7_ : mM, (M7_ = up M_2 (50, 0, 0) j9_ z3_) ∧ ∃ z13_ : Int32, (z13_.toInt = v2_2.toInt + 1) ∧ v2_2y = z13_ ∧ M_2y = M7_
def SP_copy_51_50 (Mz : mM) (M_ : mM) : Prop := ∃ v2_2 : Int32, (0 ≤ v2_2.toInt) ∧ (v2_2.toInt ≤ 3567) ∧ ∃ M_2 : mM, (∀ i : Nat, (i : Int) < v2_2.toInt → M_2.1 (50, 0, 0) i = M_2.1 (51, 0, 0) i) ∧ (RCH (fun x_ y_ => ST_copy_51_50_2 Mz x_.1 x_.2 y_.1 y_.2) ((0 : Int32), Mz) (v2_2, M_2)) ∧ (InvX50 M_2) ∧ (FR (S_c_copy_51_50) Mz M_2) ∧ (3567 ≤ v2_2.toInt) ∧ M_ = M_2
set_option maxHeartbeats 4000000 in
set_option maxRecDepth 100000 in
theorem c_copy_51_50 (l : Launch) (G : va_G) (cy : Nat → ClassId) (ad : rf → Nat) (d : Nat) (Mz : mM) (hIz : InvX50 Mz) : WP DD l G cy ad yX12_copy cX12_copy 3 none d 0 [(0, vR (51, 0, 0)), (1, vR (50, 0, 0))] [] Mz (fun r M' => InvX50 M' ∧ FR (S_c_copy_51_50) Mz M' ∧ (∀ i : Nat, (i : Int) < 3567 → M'.1 (50, 0, 0) i = M'.1 (51, 0, 0) i) ∧ SP_copy_51_50 Mz M') := by
  have hFz : FR (S_c_copy_51_50) Mz Mz := FR.self
  refine w_iconst (v := 0) dX12_copy_0 (by decide) ?_
  refine w_istore_n (ls' := [(2, vI 0), (0, vR (51, 0, 0)), (1, vR (50, 0, 0))]) dX12_copy_1 rfl (by decide) rfl ?_
  have lp1_ : ∀ (nn_2 : Nat) (M_2 : mM) (hI_2 : InvX50 M_2) (hF_2 : FR (S_c_copy_51_50) Mz M_2) (v2_2 : Int32) (hv0_2 : 0 ≤ v2_2.toInt) (hv1_2 : v2_2.toInt ≤ 3567) (hv2_2 : ∀ i : Nat, (i : Int) < v2_2.toInt → M_2.1 (50, 0, 0) i = M_2.1 (51, 0, 0) i) (hL_2 : RCH (fun x_ y_ => ST_copy_51_50_2 Mz x_.1 x_.2 y_.1 y_.2) ((0 : Int32), Mz) (v2_2, M_2)), (3567 - v2_2.toInt).toNat < nn_2 → WP DD l G cy ad yX12_copy cX12_copy 3 none d 2 [(2, vI v2_2), (0, vR (51, 0, 0)), (1, vR (50, 0, 0))] [] M_2 (fun r M' => InvX50 M' ∧ FR (S_c_copy_51_50) Mz M' ∧ (∀ i : Nat, (i : Int) < 3567 → M'.1 (50, 0, 0) i = M'.1 (51, 0, 0) i) ∧ SP_copy_51_50 Mz M') := by
    intro nn_2
    induction nn_2 with
    | zero => intro M_2 hI_2 hF_2 v2_2 hv0_2 hv1_2 hv2_2 hL_2 hm_2; exact absurd hm_2 (Nat.not_lt_zero _)
    | succ nn_2 ih_2 =>
      intro M_2 hI_2 hF_2 v2_2 hv0_2 hv1_2 hv2_2 hL_2 hm_2
      refine w_iload_n dX12_copy_2 rfl 0 rfl ?_
      refine w_sipush (v := 3567) dX12_copy_3 (by decide) ?_
      refine w_icmp_ge (tgt := 21) dX12_copy_6 (by decide) (rfl : v2_2.toInt = v2_2.toInt) li_3567 (fun h2_ => ?_) (fun h2_ => ?_)
      · exact w_vret rfl dX12_copy_21 ⟨hI_2, hF_2, (fun i9 h9 => hv2_2 i9 (Int.lt_of_lt_of_le h9 (lf_c_copy_50_51_0 v2_2 h2_ ))), ⟨v2_2, hv0_2, hv1_2, M_2, hv2_2, hL_2, hI_2, hF_2, h2_, rfl⟩⟩
      · refine w_aload_n dX12_copy_9 rfl 2 rfl ?_
        refine w_iload_n dX12_copy_10 rfl 0 rfl ?_
        refine w_aload_n dX12_copy_11 rfl 1 rfl ?_
        refine w_iload_n dX12_copy_12 rfl 0 rfl ?_
        refine w_iald rfl rfl ic_51 (rfl : v2_2.toInt = v2_2.toInt) (lf_c_copy_50_51_1 v2_2 hv0_2 h2_ ) dX12_copy_13 (fun j5_ h6_ z3_ e4_ => ?_)
        refine w_iast DD_nd rfl rfl ic_50 (rfl : v2_2.toInt = v2_2.toInt) (lf_c_copy_50_51_1 v2_2 hv0_2 h2_ ) dX12_copy_14 (fun j9_ h10_ M7_ hM8_ => ?_)
        have hI11_ := hI_2.put hM8_ trivial
        have hF12_ := hF_2.put hM8_ (Or.inl ⟨rfl, rfl⟩)
        refine w_iincB (j := 0) (f := fun z13_ => [(2, vI z13_), (0, vR (51, 0, 0)), (1, vR (50, 0, 0))]) dX12_copy_15 rfl (by decide) (fun _ => rfl) (rfl : v2_2.toInt = v2_2.toInt) li_1 (lf_c_copy_50_51_3 v2_2 hv0_2 h2_ ) (fun z13_ h14_ => ?_)
        refine w_goto (tgt := 2) dX12_copy_18 (by decide) ?_
        refine w_loc (ls' := [(2, vI z13_), (0, vR (51, 0, 0)), (1, vR (50, 0, 0))]) [0, 1, 2] rfl ?_
        exact ih_2 M7_ hI11_ hF12_ z13_ (lf_c_X5_takeFrom_3 v2_2 z13_ hv0_2 h14_ ) (lf_c_copy_50_51_5 v2_2 z13_ h2_ h14_ ) (cp_step (by decide) hv2_2 hM8_ e4_ (lf_c_X12_lays_6 v2_2 j9_ h10_ ) (lf_c_X12_lays_6 v2_2 j5_ h6_ ) (lf_c_X12_given_25 v2_2 z13_ h14_ )) (RCH.tail hL_2 ⟨hv0_2, hv1_2, hv2_2, hI_2, hF_2, h2_, j5_, h6_, z3_, e4_, j9_, h10_, M7_, hM8_, z13_, h14_, rfl, rfl⟩) (Nat.lt_of_lt_of_le (lf_c_copy_50_51_9 v2_2 z13_ h2_ h14_ ) (Nat.le_of_lt_succ hm_2))
  exact lp1_ _ Mz hIz hFz 0 (lf_c_X5_takeFrom_5 ) (lf_c_copy_50_51_11 ) (fun i9 h9 => absurd h9 (by have := li_0; omega)) RCH.refl (Nat.lt_succ_self _)
def S_c_copy_50_52 : rf → Nat → Prop := fun c k => (c.1 = 52 ∧ c.2.1 = 0) ∨ False
def ST_copy_50_52_2 (Mz : mM) (v2_2 : Int32) (M_2 : mM) (v2_2y : Int32) (M_2y : mM) : Prop := (0 ≤ v2_2.toInt) ∧ (v2_2.toInt ≤ 3567) ∧ (∀ i : Nat, (i : Int) < v2_2.toInt → M_2.1 (52, 0, 0) i = M_2.1 (50, 0, 0) i) ∧ (InvX52 M_2) ∧ (FR (S_c_copy_50_52) Mz M_2) ∧ (v2_2.toInt < 3567) ∧ ∃ j5_ : Nat, ((j5_ : Int) = v2_2.toInt) ∧ ∃ z3_ : Int32, (z3_ = M_2.1 (50, 0, 0) j5_) ∧ ∃ j9_ : Nat, ((j9_ : Int) = v2_2.toInt) ∧ ∃ M7_ : mM, (M7_ = up M_2 (52, 0, 0) j9_ z3_) ∧ ∃ z13_ : Int32, (z13_.toInt = v2_2.toInt + 1) ∧ v2_2y = z13_ ∧ M_2y = M7_
def SP_copy_50_52 (Mz : mM) (M_ : mM) : Prop := ∃ v2_2 : Int32, (0 ≤ v2_2.toInt) ∧ (v2_2.toInt ≤ 3567) ∧ ∃ M_2 : mM, (∀ i : Nat, (i : Int) < v2_2.toInt → M_2.1 (52, 0, 0) i = M_2.1 (50, 0, 0) i) ∧ (RCH (fun x_ y_ => ST_copy_50_52_2 Mz x_.1 x_.2 y_.1 y_.2) ((0 : Int32), Mz) (v2_2, M_2)) ∧ (InvX52 M_2) ∧ (FR (S_c_copy_50_52) Mz M_2) ∧ (3567 ≤ v2_2.toInt) ∧ M_ = M_2
set_option maxHeartbeats 4000000 in
set_option maxRecDepth 100000 in
theorem c_copy_50_52 (l : Launch) (G : va_G) (cy : Nat → ClassId) (ad : rf → Nat) (d : Nat) (Mz : mM) (hIz : InvX52 Mz) : WP DD l G cy ad yX12_copy cX12_copy 3 none d 0 [(0, vR (50, 0, 0)), (1, vR (52, 0, 0))] [] Mz (fun r M' => InvX52 M' ∧ FR (S_c_copy_50_52) Mz M' ∧ (∀ i : Nat, (i : Int) < 3567 → M'.1 (52, 0, 0) i = M'.1 (50, 0, 0) i) ∧ SP_copy_50_52 Mz M') := by
  have hFz : FR (S_c_copy_50_52) Mz Mz := FR.self
  refine w_iconst (v := 0) dX12_copy_0 (by decide) ?_
  refine w_istore_n (ls' := [(2, vI 0), (0, vR (50, 0, 0)), (1, vR (52, 0, 0))]) dX12_copy_1 rfl (by decide) rfl ?_
  have lp1_ : ∀ (nn_2 : Nat) (M_2 : mM) (hI_2 : InvX52 M_2) (hF_2 : FR (S_c_copy_50_52) Mz M_2) (v2_2 : Int32) (hv0_2 : 0 ≤ v2_2.toInt) (hv1_2 : v2_2.toInt ≤ 3567) (hv2_2 : ∀ i : Nat, (i : Int) < v2_2.toInt → M_2.1 (52, 0, 0) i = M_2.1 (50, 0, 0) i) (hL_2 : RCH (fun x_ y_ => ST_copy_50_52_2 Mz x_.1 x_.2 y_.1 y_.2) ((0 : Int32), Mz) (v2_2, M_2)), (3567 - v2_2.toInt).toNat < nn_2 → WP DD l G cy ad yX12_copy cX12_copy 3 none d 2 [(2, vI v2_2), (0, vR (50, 0, 0)), (1, vR (52, 0, 0))] [] M_2 (fun r M' => InvX52 M' ∧ FR (S_c_copy_50_52) Mz M' ∧ (∀ i : Nat, (i : Int) < 3567 → M'.1 (52, 0, 0) i = M'.1 (50, 0, 0) i) ∧ SP_copy_50_52 Mz M') := by
    intro nn_2
    induction nn_2 with
    | zero => intro M_2 hI_2 hF_2 v2_2 hv0_2 hv1_2 hv2_2 hL_2 hm_2; exact absurd hm_2 (Nat.not_lt_zero _)
    | succ nn_2 ih_2 =>
      intro M_2 hI_2 hF_2 v2_2 hv0_2 hv1_2 hv2_2 hL_2 hm_2
      refine w_iload_n dX12_copy_2 rfl 0 rfl ?_
      refine w_sipush (v := 3567) dX12_copy_3 (by decide) ?_
      refine w_icmp_ge (tgt := 21) dX12_copy_6 (by decide) (rfl : v2_2.toInt = v2_2.toInt) li_3567 (fun h2_ => ?_) (fun h2_ => ?_)
      · exact w_vret rfl dX12_copy_21 ⟨hI_2, hF_2, (fun i9 h9 => hv2_2 i9 (Int.lt_of_lt_of_le h9 (lf_c_copy_50_51_0 v2_2 h2_ ))), ⟨v2_2, hv0_2, hv1_2, M_2, hv2_2, hL_2, hI_2, hF_2, h2_, rfl⟩⟩
      · refine w_aload_n dX12_copy_9 rfl 2 rfl ?_
        refine w_iload_n dX12_copy_10 rfl 0 rfl ?_
        refine w_aload_n dX12_copy_11 rfl 1 rfl ?_
        refine w_iload_n dX12_copy_12 rfl 0 rfl ?_
        refine w_iald rfl rfl ic_50 (rfl : v2_2.toInt = v2_2.toInt) (lf_c_copy_50_51_1 v2_2 hv0_2 h2_ ) dX12_copy_13 (fun j5_ h6_ z3_ e4_ => ?_)
        refine w_iast DD_nd rfl rfl ic_52 (rfl : v2_2.toInt = v2_2.toInt) (lf_c_copy_50_51_1 v2_2 hv0_2 h2_ ) dX12_copy_14 (fun j9_ h10_ M7_ hM8_ => ?_)
        have hI11_ := hI_2.put hM8_ trivial
        have hF12_ := hF_2.put hM8_ (Or.inl ⟨rfl, rfl⟩)
        refine w_iincB (j := 0) (f := fun z13_ => [(2, vI z13_), (0, vR (50, 0, 0)), (1, vR (52, 0, 0))]) dX12_copy_15 rfl (by decide) (fun _ => rfl) (rfl : v2_2.toInt = v2_2.toInt) li_1 (lf_c_copy_50_51_3 v2_2 hv0_2 h2_ ) (fun z13_ h14_ => ?_)
        refine w_goto (tgt := 2) dX12_copy_18 (by decide) ?_
        refine w_loc (ls' := [(2, vI z13_), (0, vR (50, 0, 0)), (1, vR (52, 0, 0))]) [0, 1, 2] rfl ?_
        exact ih_2 M7_ hI11_ hF12_ z13_ (lf_c_X5_takeFrom_3 v2_2 z13_ hv0_2 h14_ ) (lf_c_copy_50_51_5 v2_2 z13_ h2_ h14_ ) (cp_step (by decide) hv2_2 hM8_ e4_ (lf_c_X12_lays_6 v2_2 j9_ h10_ ) (lf_c_X12_lays_6 v2_2 j5_ h6_ ) (lf_c_X12_given_25 v2_2 z13_ h14_ )) (RCH.tail hL_2 ⟨hv0_2, hv1_2, hv2_2, hI_2, hF_2, h2_, j5_, h6_, z3_, e4_, j9_, h10_, M7_, hM8_, z13_, h14_, rfl, rfl⟩) (Nat.lt_of_lt_of_le (lf_c_copy_50_51_9 v2_2 z13_ h2_ h14_ ) (Nat.le_of_lt_succ hm_2))
  exact lp1_ _ Mz hIz hFz 0 (lf_c_X5_takeFrom_5 ) (lf_c_copy_50_51_11 ) (fun i9 h9 => absurd h9 (by have := li_0; omega)) RCH.refl (Nat.lt_succ_self _)
def S_c_copy_52_50 : rf → Nat → Prop := fun c k => (c.1 = 50 ∧ c.2.1 = 0) ∨ False
def ST_copy_52_50_2 (Mz : mM) (v2_2 : Int32) (M_2 : mM) (v2_2y : Int32) (M_2y : mM) : Prop := (0 ≤ v2_2.toInt) ∧ (v2_2.toInt ≤ 3567) ∧ (∀ i : Nat, (i : Int) < v2_2.toInt → M_2.1 (50, 0, 0) i = M_2.1 (52, 0, 0) i) ∧ (InvX50 M_2) ∧ (FR (S_c_copy_52_50) Mz M_2) ∧ (v2_2.toInt < 3567) ∧ ∃ j5_ : Nat, ((j5_ : Int) = v2_2.toInt) ∧ ∃ z3_ : Int32, (z3_ = M_2.1 (52, 0, 0) j5_) ∧ ∃ j9_ : Nat, ((j9_ : Int) = v2_2.toInt) ∧ ∃ M7_ : mM, (M7_ = up M_2 (50, 0, 0) j9_ z3_) ∧ ∃ z13_ : Int32, (z13_.toInt = v2_2.toInt + 1) ∧ v2_2y = z13_ ∧ M_2y = M7_
def SP_copy_52_50 (Mz : mM) (M_ : mM) : Prop := ∃ v2_2 : Int32, (0 ≤ v2_2.toInt) ∧ (v2_2.toInt ≤ 3567) ∧ ∃ M_2 : mM, (∀ i : Nat, (i : Int) < v2_2.toInt → M_2.1 (50, 0, 0) i = M_2.1 (52, 0, 0) i) ∧ (RCH (fun x_ y_ => ST_copy_52_50_2 Mz x_.1 x_.2 y_.1 y_.2) ((0 : Int32), Mz) (v2_2, M_2)) ∧ (InvX50 M_2) ∧ (FR (S_c_copy_52_50) Mz M_2) ∧ (3567 ≤ v2_2.toInt) ∧ M_ = M_2
set_option maxHeartbeats 4000000 in
set_option maxRecDepth 100000 in
theorem c_copy_52_50 (l : Launch) (G : va_G) (cy : Nat → ClassId) (ad : rf → Nat) (d : Nat) (Mz : mM) (hIz : InvX50 Mz) : WP DD l G cy ad yX12_copy cX12_copy 3 none d 0 [(0, vR (52, 0, 0)), (1, vR (50, 0, 0))] [] Mz (fun r M' => InvX50 M' ∧ FR (S_c_copy_52_50) Mz M' ∧ (∀ i : Nat, (i : Int) < 3567 → M'.1 (50, 0, 0) i = M'.1 (52, 0, 0) i) ∧ SP_copy_52_50 Mz M') := by
  have hFz : FR (S_c_copy_52_50) Mz Mz := FR.self
  refine w_iconst (v := 0) dX12_copy_0 (by decide) ?_
  refine w_istore_n (ls' := [(2, vI 0), (0, vR (52, 0, 0)), (1, vR (50, 0, 0))]) dX12_copy_1 rfl (by decide) rfl ?_
  have lp1_ : ∀ (nn_2 : Nat) (M_2 : mM) (hI_2 : InvX50 M_2) (hF_2 : FR (S_c_copy_52_50) Mz M_2) (v2_2 : Int32) (hv0_2 : 0 ≤ v2_2.toInt) (hv1_2 : v2_2.toInt ≤ 3567) (hv2_2 : ∀ i : Nat, (i : Int) < v2_2.toInt → M_2.1 (50, 0, 0) i = M_2.1 (52, 0, 0) i) (hL_2 : RCH (fun x_ y_ => ST_copy_52_50_2 Mz x_.1 x_.2 y_.1 y_.2) ((0 : Int32), Mz) (v2_2, M_2)), (3567 - v2_2.toInt).toNat < nn_2 → WP DD l G cy ad yX12_copy cX12_copy 3 none d 2 [(2, vI v2_2), (0, vR (52, 0, 0)), (1, vR (50, 0, 0))] [] M_2 (fun r M' => InvX50 M' ∧ FR (S_c_copy_52_50) Mz M' ∧ (∀ i : Nat, (i : Int) < 3567 → M'.1 (50, 0, 0) i = M'.1 (52, 0, 0) i) ∧ SP_copy_52_50 Mz M') := by
    intro nn_2
    induction nn_2 with
    | zero => intro M_2 hI_2 hF_2 v2_2 hv0_2 hv1_2 hv2_2 hL_2 hm_2; exact absurd hm_2 (Nat.not_lt_zero _)
    | succ nn_2 ih_2 =>
      intro M_2 hI_2 hF_2 v2_2 hv0_2 hv1_2 hv2_2 hL_2 hm_2
      refine w_iload_n dX12_copy_2 rfl 0 rfl ?_
      refine w_sipush (v := 3567) dX12_copy_3 (by decide) ?_
      refine w_icmp_ge (tgt := 21) dX12_copy_6 (by decide) (rfl : v2_2.toInt = v2_2.toInt) li_3567 (fun h2_ => ?_) (fun h2_ => ?_)
      · exact w_vret rfl dX12_copy_21 ⟨hI_2, hF_2, (fun i9 h9 => hv2_2 i9 (Int.lt_of_lt_of_le h9 (lf_c_copy_50_51_0 v2_2 h2_ ))), ⟨v2_2, hv0_2, hv1_2, M_2, hv2_2, hL_2, hI_2, hF_2, h2_, rfl⟩⟩
      · refine w_aload_n dX12_copy_9 rfl 2 rfl ?_
        refine w_iload_n dX12_copy_10 rfl 0 rfl ?_
        refine w_aload_n dX12_copy_11 rfl 1 rfl ?_
        refine w_iload_n dX12_copy_12 rfl 0 rfl ?_
        refine w_iald rfl rfl ic_52 (rfl : v2_2.toInt = v2_2.toInt) (lf_c_copy_50_51_1 v2_2 hv0_2 h2_ ) dX12_copy_13 (fun j5_ h6_ z3_ e4_ => ?_)
        refine w_iast DD_nd rfl rfl ic_50 (rfl : v2_2.toInt = v2_2.toInt) (lf_c_copy_50_51_1 v2_2 hv0_2 h2_ ) dX12_copy_14 (fun j9_ h10_ M7_ hM8_ => ?_)
        have hI11_ := hI_2.put hM8_ trivial
        have hF12_ := hF_2.put hM8_ (Or.inl ⟨rfl, rfl⟩)
        refine w_iincB (j := 0) (f := fun z13_ => [(2, vI z13_), (0, vR (52, 0, 0)), (1, vR (50, 0, 0))]) dX12_copy_15 rfl (by decide) (fun _ => rfl) (rfl : v2_2.toInt = v2_2.toInt) li_1 (lf_c_copy_50_51_3 v2_2 hv0_2 h2_ ) (fun z13_ h14_ => ?_)
        refine w_goto (tgt := 2) dX12_copy_18 (by decide) ?_
        refine w_loc (ls' := [(2, vI z13_), (0, vR (52, 0, 0)), (1, vR (50, 0, 0))]) [0, 1, 2] rfl ?_
        exact ih_2 M7_ hI11_ hF12_ z13_ (lf_c_X5_takeFrom_3 v2_2 z13_ hv0_2 h14_ ) (lf_c_copy_50_51_5 v2_2 z13_ h2_ h14_ ) (cp_step (by decide) hv2_2 hM8_ e4_ (lf_c_X12_lays_6 v2_2 j9_ h10_ ) (lf_c_X12_lays_6 v2_2 j5_ h6_ ) (lf_c_X12_given_25 v2_2 z13_ h14_ )) (RCH.tail hL_2 ⟨hv0_2, hv1_2, hv2_2, hI_2, hF_2, h2_, j5_, h6_, z3_, e4_, j9_, h10_, M7_, hM8_, z13_, h14_, rfl, rfl⟩) (Nat.lt_of_lt_of_le (lf_c_copy_50_51_9 v2_2 z13_ h2_ h14_ ) (Nat.le_of_lt_succ hm_2))
  exact lp1_ _ Mz hIz hFz 0 (lf_c_X5_takeFrom_5 ) (lf_c_copy_50_51_11 ) (fun i9 h9 => absurd h9 (by have := li_0; omega)) RCH.refl (Nat.lt_succ_self _)
def S_c_X12_image : rf → Nat → Prop := fun c k => (c.1 = 51 ∧ c.2.1 = 0) ∨ (c.1 = 12 ∧ c.2.1 = 0 ∧ k = 3) ∨ False
def SP_X12_image (Mz : mM) (r_ : Int32) (M_ : mM) : Prop := ∃ M1_ : mM, (InvX51 M1_) ∧ (FR (S_c_copy_50_51) Mz M1_) ∧ (SP_copy_50_51 Mz M1_) ∧ ∃ z9_ : Int32, (z9_ = M1_.1 (12, 0, 0) 3) ∧ ∃ z11_ : Int32, (z11_ = z9_ + (1 : Int32)) ∧ ∃ M13_ : mM, (M13_ = up M1_ (12, 0, 0) 3 z11_) ∧ ∃ z17_ : Int32, (z17_ = M13_.1 (12, 0, 0) 3) ∧ r_ = z17_ ∧ M_ = M13_
set_option maxHeartbeats 4000000 in
set_option maxRecDepth 100000 in
theorem c_X12_image (l : Launch) (G : va_G) (cy : Nat → ClassId) (ad : rf → Nat) (d : Nat) (Mz : mM) (hIz : InvD Mz) : WP DD l G cy ad yX12_image cX12_image 1 (some .int) (d + 1) 0 [(0, vR (12, 0, 0))] [] Mz (fun r M' => InvD M' ∧ FR (S_c_X12_image) Mz M' ∧ (True) ∧ SP_X12_image Mz r M') := by
  have hFz : FR (S_c_X12_image) Mz Mz := FR.self
  refine w_aload_n dX12_image_0 rfl 0 rfl ?_
  refine w_getR (c' := (50, 0, 0)) fl_RX12_9 rfl rfl ic_12 dX12_image_1 rfl ?_
  refine w_aload_n dX12_image_4 rfl 0 rfl ?_
  refine w_getR (c' := (51, 0, 0)) fl_RX12_13 rfl rfl ic_12 dX12_image_5 rfl ?_
  refine w_callSv (as := [vR (50, 0, 0), vR (51, 0, 0)]) (rest := []) (c_copy_50_51 l G cy ad d Mz (InvX51.of hIz)) kS_X12_copy pnn_17 (Nat.le_of_ble_eq_true rfl) m_1843 rfl rfl (by decide) (Nat.le_of_ble_eq_true rfl) dX12_image_8 (fun M1_ q2_ => ?_)
  obtain ⟨hI4_, hF5_, h3_, hs7_⟩ := q2_
  have hF6_ := hFz.tr hF5_ (fun c k => (fun h => h.elim (fun h => (Or.inl ⟨h.1, h.2⟩)) (fun h => h.elim)))
  have hI8_ : InvD M1_ := InvX51.toD50 hI4_ h3_
  refine w_aload_n dX12_image_11 rfl 0 rfl ?_
  refine w_dup dX12_image_12 rfl ?_
  refine w_getI fl_RX12_353 rfl rfl ic_12 dX12_image_13 (fun z9_ e10_ => ?_)
  refine w_iconst (v := 1) dX12_image_16 (by decide) ?_
  refine w_iadd dX12_image_17 (fun z11_ h12_ => ?_)
  refine w_putI DD_nd fl_RX12_353 rfl rfl ic_12 dX12_image_18 (fun M13_ hM14_ => ?_)
  have hI15_ := hI8_.put hM14_ ⟨trivial, Or.inl (by decide)⟩
  have hF16_ := hF6_.put hM14_ (Or.inr (Or.inl ⟨rfl, rfl, rfl⟩))
  refine w_aload_n dX12_image_21 rfl 0 rfl ?_
  refine w_getI fl_RX12_353 rfl rfl ic_12 dX12_image_22 (fun z17_ e18_ => ?_)
  exact w_iret rfl dX12_image_25 ⟨hI15_, hF16_, trivial, ⟨M1_, hI4_, hF5_, hs7_, z9_, e10_, z11_, h12_, M13_, hM14_, z17_, e18_, rfl, rfl⟩⟩
def S_c_X12_restore : rf → Nat → Prop := fun c k => (c.1 = 50 ∧ c.2.1 = 0) ∨ (c.1 = 53 ∧ c.2.1 = 0) ∨ False
def SP_X12_restore (Mz : mM) (r_ : Int32) (M_ : mM) : Prop := ∃ z1_ : Int32, (z1_ = Mz.1 (12, 0, 0) 3) ∧ (((¬ z1_.toInt = 0) ∧ ∃ M4_ : mM, (InvX50 M4_) ∧ (FR (S_c_copy_51_50) Mz M4_) ∧ (SP_copy_51_50 Mz M4_) ∧ ∃ z12_ : Int32, (z12_ = M4_.1 (50, 0, 0) 0) ∧ r_ = z12_ ∧ M_ = M4_) ∨ ((z1_.toInt = 0) ∧ ∃ M15_ : mM, (InvD M15_) ∧ (FR (S_c_X12_finding) Mz M15_) ∧ ∃ r14_ : Int32, (SP_X12_finding (-1000002) Mz r14_ M15_) ∧ (r14_.toInt = (-1000002)) ∧ r_ = r14_ ∧ M_ = M15_))
set_option maxHeartbeats 4000000 in
set_option maxRecDepth 100000 in
theorem c_X12_restore (l : Launch) (G : va_G) (cy : Nat → ClassId) (ad : rf → Nat) (d : Nat) (Mz : mM) (hIz : InvD Mz) : WP DD l G cy ad yX12_restore cX12_restore 1 (some .int) (d + 1) 0 [(0, vR (12, 0, 0))] [] Mz (fun r M' => InvD M' ∧ FR (S_c_X12_restore) Mz M' ∧ (True) ∧ SP_X12_restore Mz r M') := by
  have hFz : FR (S_c_X12_restore) Mz Mz := FR.self
  refine w_aload_n dX12_restore_0 rfl 0 rfl ?_
  refine w_getI fl_RX12_353 rfl rfl ic_12 dX12_restore_1 (fun z1_ e2_ => ?_)
  refine w_if_ne (tgt := 14) dX12_restore_4 (by decide) (rfl : z1_.toInt = z1_.toInt) (fun h3_ => ?_) (fun h3_ => ?_)
  · refine w_aload_n dX12_restore_14 rfl 0 rfl ?_
    refine w_getR (c' := (51, 0, 0)) fl_RX12_13 rfl rfl ic_12 dX12_restore_15 rfl ?_
    refine w_aload_n dX12_restore_18 rfl 0 rfl ?_
    refine w_getR (c' := (50, 0, 0)) fl_RX12_9 rfl rfl ic_12 dX12_restore_19 rfl ?_
    refine w_callSv (as := [vR (51, 0, 0), vR (50, 0, 0)]) (rest := []) (c_copy_51_50 l G cy ad d Mz (InvX50.of hIz)) kS_X12_copy pnn_17 (Nat.le_of_ble_eq_true rfl) m_1843 rfl rfl (by decide) (Nat.le_of_ble_eq_true rfl) dX12_restore_22 (fun M4_ q5_ => ?_)
    obtain ⟨hI7_, hF8_, h6_, hs10_⟩ := q5_
    have hF9_ := hFz.tr hF8_ (fun c k => (fun h => h.elim (fun h => (Or.inl ⟨h.1, h.2⟩)) (fun h => h.elim)))
    have hI11_ : InvD M4_ := InvX50.toD51 hI7_ h6_
    refine w_aload_n dX12_restore_25 rfl 0 rfl ?_
    refine w_getR (c' := (50, 0, 0)) fl_RX12_9 rfl rfl ic_12 dX12_restore_26 rfl ?_
    refine w_iconst (v := 0) dX12_restore_29 (by decide) ?_
    refine w_ialdL 0 rfl rfl ic_50 li_0 (by decide) dX12_restore_30 (fun z12_ e13_ => ?_)
    exact w_iret rfl dX12_restore_31 ⟨hI11_, hF9_, trivial, ⟨z1_, e2_, (Or.inl ⟨h3_, M4_, hI7_, hF8_, hs10_, z12_, e13_, rfl, rfl⟩)⟩⟩
  · refine w_aload_n dX12_restore_7 rfl 0 rfl ?_
    refine w_ldc (v := (-1000002)) m_1500 dX12_restore_8 ?_
    refine w_callV (as := [vI (-1000002)]) (rest := []) (c_X12_finding l G cy ad d (-1000002) Mz hIz (by first | decide | (unfold vF; omega) | (unfold vRw; omega))) kV_X12_finding pnn_17 (Nat.le_of_ble_eq_true rfl) m_1434 rfl rfl rfl ic_12 rfl rfl (by decide) (Nat.le_of_ble_eq_true rfl) dX12_restore_10 (fun r14_ M15_ q16_ => ?_)
    obtain ⟨hI18_, hF19_, h17_, hs21_⟩ := q16_
    have hF20_ := hFz.tr hF19_ (fun c k => (fun h => h.elim (fun h => (Or.inr (Or.inl ⟨h.1, h.2⟩))) (fun h => h.elim)))
    simp only [li_m1000002] at h17_
    exact w_iret rfl dX12_restore_13 ⟨hI18_, hF20_, trivial, ⟨z1_, e2_, (Or.inr ⟨h3_, M15_, hI18_, hF19_, r14_, hs21_, h17_, rfl, rfl⟩)⟩⟩
def S_c_X12_check : rf → Nat → Prop := fun c k => (c.1 = 50 ∧ c.2.1 = 0 ∧ k = 5) ∨ (c.1 = 52 ∧ c.2.1 = 0) ∨ (c.1 = 50 ∧ c.2.1 = 0) ∨ (c.1 = 58 ∧ c.2.1 = 0 ∧ k = 0) ∨ (c.1 = 58 ∧ c.2.1 = 0 ∧ k = 1) ∨ (c.1 = 58 ∧ c.2.1 = 0 ∧ k = 2) ∨ (c.1 = 58 ∧ c.2.1 = 0 ∧ k = 3) ∨ (c.1 = 58 ∧ c.2.1 = 0 ∧ k = 4) ∨ (c.1 = 59 ∧ c.2.1 = 0) ∨ (c.1 = 53 ∧ c.2.1 = 0) ∨ False
def ST_X12_check_46 (v : Int32) (Mz : mM) (z1_ : Int32) (v4_46 : Int32) (v3_46 : Int32) (M_46 : mM) (v4_46y : Int32) (v3_46y : Int32) (M_46y : mM) : Prop := (0 ≤ v4_46.toInt) ∧ (v4_46.toInt ≤ 24) ∧ (InvD M_46) ∧ (FR (S_c_X12_check) Mz M_46) ∧ (v4_46.toInt < z1_.toInt) ∧ (v3_46.toInt = 0) ∧ ∃ M41_ : mM, (InvD M41_) ∧ (FR (S_c_X12_tenth) M_46 M41_) ∧ (SP_X12_tenth M_46 M41_) ∧ ∃ r48_ : Int32, (SP_X12_goer v M41_ r48_) ∧ (r48_.toInt = 180 + 9 * v.toInt) ∧ ∃ z53_ : Int32, (z53_.toInt = r48_.toInt + 1) ∧ ∃ j57_ : Nat, ((j57_ : Int) = z53_.toInt) ∧ ∃ z55_ : Int32, (z55_ = M41_.1 (50, 0, 0) j57_) ∧ (0 ≤ z55_.toInt ∧ z55_.toInt ≤ 191) ∧ ∃ z60_ : Int32, (z60_.toInt = 321 + v4_46.toInt) ∧ ∃ j64_ : Nat, ((j64_ : Int) = z60_.toInt) ∧ ∃ z62_ : Int32, (z62_ = M41_.1 (50, 0, 0) j64_) ∧ (((¬ z55_.toInt = z62_.toInt) ∧ ∃ z67_ : Int32, (z67_.toInt = 1 + v4_46.toInt) ∧ ∃ z69_ : Int32, (z69_.toInt = v4_46.toInt + 1) ∧ v4_46y = z69_ ∧ v3_46y = z67_ ∧ M_46y = M41_) ∨ ((z55_.toInt = z62_.toInt) ∧ ∃ z71_ : Int32, (z71_.toInt = v4_46.toInt + 1) ∧ v4_46y = z71_ ∧ v3_46y = 0 ∧ M_46y = M41_))
def SP_X12_check (v : Int32) (Mz : mM) (r_ : Int32) (M_ : mM) : Prop := ∃ z1_ : Int32, (z1_ = Mz.1 (50, 0, 0) 5) ∧ (0 ≤ z1_.toInt ∧ z1_.toInt ≤ 24) ∧ ∃ M4_ : mM, (M4_ = up Mz (50, 0, 0) 5 0) ∧ (InvD M4_) ∧ (((SP_is2 v M4_ (1 : Int32)) ∧ (0 ≤ v.toInt ∧ v.toInt ≤ 7) ∧ ∃ M14_ : mM, (InvX52 M14_) ∧ (FR (S_c_copy_50_52) M4_ M14_) ∧ (SP_copy_50_52 M4_ M14_) ∧ ∃ v4_46 : Int32, (0 ≤ v4_46.toInt) ∧ (v4_46.toInt ≤ 24) ∧ ∃ v3_46 : Int32, ∃ M_46 : mM, (RCH (fun x_ y_ => ST_X12_check_46 v Mz z1_ x_.1 x_.2.1 x_.2.2 y_.1 y_.2.1 y_.2.2) ((0 : Int32), (0 : Int32), M14_) (v4_46, v3_46, M_46)) ∧ (InvD M_46) ∧ (FR (S_c_X12_check) Mz M_46) ∧ (((z1_.toInt ≤ v4_46.toInt) ∧ ∃ M24_ : mM, (InvX50 M24_) ∧ (FR (S_c_copy_52_50) M_46 M24_) ∧ (SP_copy_52_50 M_46 M24_) ∧ r_ = v3_46 ∧ M_ = M24_) ∨ ((v4_46.toInt < z1_.toInt) ∧ (¬ v3_46.toInt = 0) ∧ ∃ M33_ : mM, (InvX50 M33_) ∧ (FR (S_c_copy_52_50) M_46 M33_) ∧ (SP_copy_52_50 M_46 M33_) ∧ r_ = v3_46 ∧ M_ = M33_))) ∨ ((SP_is2 v M4_ (0 : Int32)) ∧ ∃ M75_ : mM, (InvD M75_) ∧ (FR (S_c_X12_finding) M4_ M75_) ∧ ∃ r74_ : Int32, (SP_X12_finding (-1000001) M4_ r74_ M75_) ∧ (r74_.toInt = (-1000001)) ∧ r_ = r74_ ∧ M_ = M75_))
theorem lf_c_X12_check_0 : PN 5 (0 : Int32) ∧ (5 < 345 ∨ 493 < 5) := by have q9 := li_0; unfold PN; omega
theorem lf_c_X12_check_4 (v4_46 : Int32) (hv0_46 : 0 ≤ v4_46.toInt) (hv1_46 : v4_46.toInt ≤ 24) : -2147483648 ≤ 321 + v4_46.toInt ∧ 321 + v4_46.toInt < 2147483648 := by omega
theorem lf_c_X12_check_5 (v4_46 : Int32) (z60_ : Int32) (hv0_46 : 0 ≤ v4_46.toInt) (hv1_46 : v4_46.toInt ≤ 24) (h61_ : z60_.toInt = 321 + v4_46.toInt) : 0 ≤ z60_.toInt ∧ z60_.toInt < ((3567 : Nat) : Int) := by omega
theorem lf_c_X12_check_6 (v4_46 : Int32) (hv0_46 : 0 ≤ v4_46.toInt) (hv1_46 : v4_46.toInt ≤ 24) : -2147483648 ≤ 1 + v4_46.toInt ∧ 1 + v4_46.toInt < 2147483648 := by omega
theorem lf_c_X12_check_9 (z1_ : Int32) (v4_46 : Int32) (z69_ : Int32) (h3_ : 0 ≤ z1_.toInt ∧ z1_.toInt ≤ 24) (h23_ : v4_46.toInt < z1_.toInt) (h70_ : z69_.toInt = v4_46.toInt + 1) : z69_.toInt ≤ 24 := by omega
theorem lf_c_X12_check_10 (v4_46 : Int32) (z69_ : Int32) (hv1_46 : v4_46.toInt ≤ 24) (h70_ : z69_.toInt = v4_46.toInt + 1) : (2147483648 - z69_.toInt).toNat < (2147483648 - v4_46.toInt).toNat := by omega
theorem lf_c_X12_check_13 (z1_ : Int32) (v4_46 : Int32) (z71_ : Int32) (h3_ : 0 ≤ z1_.toInt ∧ z1_.toInt ≤ 24) (h23_ : v4_46.toInt < z1_.toInt) (h72_ : z71_.toInt = v4_46.toInt + 1) : z71_.toInt ≤ 24 := by have q0 := li_0; omega
theorem lf_c_X12_check_14 (v4_46 : Int32) (z71_ : Int32) (hv1_46 : v4_46.toInt ≤ 24) (h72_ : z71_.toInt = v4_46.toInt + 1) : (2147483648 - z71_.toInt).toNat < (2147483648 - v4_46.toInt).toNat := by have q0 := li_0; omega
set_option maxHeartbeats 4000000 in
set_option maxRecDepth 100000 in
theorem c_X12_check (l : Launch) (G : va_G) (cy : Nat → ClassId) (ad : rf → Nat) (d : Nat) (v : Int32) (Mz : mM) (hIz : InvD Mz) : WP DD l G cy ad yX12_check cX12_check 5 (some .int) (d + 8) 0 [(0, vR (12, 0, 0)), (1, vI v)] [] Mz (fun r M' => InvD M' ∧ FR (S_c_X12_check) Mz M' ∧ (True) ∧ SP_X12_check v Mz r M') := by
  have hFz : FR (S_c_X12_check) Mz Mz := FR.self
  refine w_aload_n dX12_check_0 rfl 0 rfl ?_
  refine w_getR (c' := (50, 0, 0)) fl_RX12_9 rfl rfl ic_12 dX12_check_1 rfl ?_
  refine w_iconst (v := 5) dX12_check_4 (by decide) ?_
  refine w_ialdL 5 rfl rfl ic_50 li_5 (by decide) dX12_check_5 (fun z1_ e2_ => ?_)
  have h3_ : 0 ≤ z1_.toInt ∧ z1_.toInt ≤ 24 := pn_5 hIz e2_
  refine w_istore_n (ls' := [(2, vI z1_), (0, vR (12, 0, 0)), (1, vI v)]) dX12_check_6 rfl (by decide) rfl ?_
  refine w_aload_n dX12_check_7 rfl 1 rfl ?_
  refine w_getR (c' := (50, 0, 0)) fl_RX12_9 rfl rfl ic_12 dX12_check_8 rfl ?_
  refine w_iconst (v := 5) dX12_check_11 (by decide) ?_
  refine w_iconst (v := 0) dX12_check_12 (by decide) ?_
  refine w_iastL 5 DD_nd rfl rfl ic_50 li_5 (by decide) dX12_check_13 (fun M4_ hM5_ => ?_)
  have hI6_ := hIz.put50 hM5_ (lf_c_X12_check_0 )
  have hF7_ := hFz.put hM5_ (Or.inl ⟨rfl, rfl, rfl⟩)
  refine w_aload_n dX12_check_14 rfl 1 rfl ?_
  refine w_iload_n dX12_check_15 rfl 2 rfl ?_
  refine w_iconst (v := 2) dX12_check_16 (by decide) ?_
  refine w_callV (as := [vI v, vI 2]) (rest := []) (c_is2 l G cy ad (d + 6) v M4_ hI6_) kV_X12_is pnn_17 (Nat.le_of_ble_eq_true rfl) m_1465 rfl rfl rfl ic_12 rfl rfl (by decide) (Nat.le_of_ble_eq_true rfl) dX12_check_17 (fun r8_ M9_ q10_ => ?_)
  obtain ⟨rfl, h11_, hs12_⟩ := q10_
  rcases h11_ with ⟨rfl, h11_⟩ | rfl
  · refine w_if_ne (tgt := 30) dX12_check_20 (by decide) li_1 (fun h13_ => ?_) (fun h9 => (absurd h9 (by decide)))
    refine w_aload_n dX12_check_30 rfl 1 rfl ?_
    refine w_getR (c' := (50, 0, 0)) fl_RX12_9 rfl rfl ic_12 dX12_check_31 rfl ?_
    refine w_aload_n dX12_check_34 rfl 1 rfl ?_
    refine w_getR (c' := (52, 0, 0)) fl_RX12_16 rfl rfl ic_12 dX12_check_35 rfl ?_
    refine w_callSv (as := [vR (50, 0, 0), vR (52, 0, 0)]) (rest := []) (c_copy_50_52 l G cy ad (d + 7) M4_ (InvX52.of hI6_)) kS_X12_copy pnn_17 (Nat.le_of_ble_eq_true rfl) m_1843 rfl rfl (by decide) (Nat.le_of_ble_eq_true rfl) dX12_check_38 (fun M14_ q15_ => ?_)
    obtain ⟨hI17_, hF18_, h16_, hs20_⟩ := q15_
    have hF19_ := hF7_.tr hF18_ (fun c k => (fun h => h.elim (fun h => (Or.inr (Or.inl ⟨h.1, h.2⟩))) (fun h => h.elim)))
    have hI21_ : InvD M14_ := InvX52.toD50 hI17_ h16_
    refine w_iconst (v := 0) dX12_check_41 (by decide) ?_
    refine w_istore_n (ls' := [(3, vI 0), (2, vI z1_), (0, vR (12, 0, 0)), (1, vI v)]) dX12_check_42 rfl (by decide) rfl ?_
    refine w_iconst (v := 0) dX12_check_43 (by decide) ?_
    refine w_istore (ls' := [(4, vI 0), (3, vI 0), (2, vI z1_), (0, vR (12, 0, 0)), (1, vI v)]) dX12_check_44 (by decide) rfl ?_
    have lp22_ : ∀ (nn_46 : Nat) (M_46 : mM) (hI_46 : InvD M_46) (hF_46 : FR (S_c_X12_check) Mz M_46) (v4_46 : Int32) (v3_46 : Int32) (hv0_46 : 0 ≤ v4_46.toInt) (hv1_46 : v4_46.toInt ≤ 24) (hL_46 : RCH (fun x_ y_ => ST_X12_check_46 v Mz z1_ x_.1 x_.2.1 x_.2.2 y_.1 y_.2.1 y_.2.2) ((0 : Int32), (0 : Int32), M14_) (v4_46, v3_46, M_46)), (2147483648 - v4_46.toInt).toNat < nn_46 → WP DD l G cy ad yX12_check cX12_check 5 (some .int) (d + 8) 46 [(4, vI v4_46), (3, vI v3_46), (2, vI z1_), (0, vR (12, 0, 0)), (1, vI v)] [] M_46 (fun r M' => InvD M' ∧ FR (S_c_X12_check) Mz M' ∧ (True) ∧ SP_X12_check v Mz r M') := by
      intro nn_46
      induction nn_46 with
      | zero => intro M_46 hI_46 hF_46 v4_46 v3_46 hv0_46 hv1_46 hL_46 hm_46; exact absurd hm_46 (Nat.not_lt_zero _)
      | succ nn_46 ih_46 =>
        intro M_46 hI_46 hF_46 v4_46 v3_46 hv0_46 hv1_46 hL_46 hm_46
        refine w_iload dX12_check_46 0 rfl ?_
        refine w_iload_n dX12_check_48 rfl 2 rfl ?_
        refine w_icmp_ge (tgt := 101) dX12_check_49 (by decide) (rfl : v4_46.toInt = v4_46.toInt) (rfl : z1_.toInt = z1_.toInt) (fun h23_ => ?_) (fun h23_ => ?_)
        · refine w_aload_n dX12_check_101 rfl 3 rfl ?_
          refine w_getR (c' := (52, 0, 0)) fl_RX12_16 rfl rfl ic_12 dX12_check_102 rfl ?_
          refine w_aload_n dX12_check_105 rfl 3 rfl ?_
          refine w_getR (c' := (50, 0, 0)) fl_RX12_9 rfl rfl ic_12 dX12_check_106 rfl ?_
          refine w_callSv (as := [vR (52, 0, 0), vR (50, 0, 0)]) (rest := []) (c_copy_52_50 l G cy ad (d + 7) M_46 (InvX50.of hI_46)) kS_X12_copy pnn_17 (Nat.le_of_ble_eq_true rfl) m_1843 rfl rfl (by decide) (Nat.le_of_ble_eq_true rfl) dX12_check_109 (fun M24_ q25_ => ?_)
          obtain ⟨hI27_, hF28_, h26_, hs30_⟩ := q25_
          have hF29_ := hF_46.tr hF28_ (fun c k => (fun h => h.elim (fun h => (Or.inr (Or.inr (Or.inl ⟨h.1, h.2⟩)))) (fun h => h.elim)))
          have hI31_ : InvD M24_ := InvX50.toD52 hI27_ h26_
          refine w_iload_n dX12_check_112 rfl 1 rfl ?_
          exact w_iret rfl dX12_check_113 ⟨hI31_, hF29_, trivial, ⟨z1_, e2_, h3_, M4_, hM5_, hI6_, (Or.inl ⟨hs12_, h11_, M14_, hI17_, hF18_, hs20_, v4_46, hv0_46, hv1_46, v3_46, M_46, hL_46, hI_46, hF_46, (Or.inl ⟨h23_, M24_, hI27_, hF28_, hs30_, rfl, rfl⟩)⟩)⟩⟩
        · refine w_iload_n dX12_check_52 rfl 1 rfl ?_
          refine w_if_ne (tgt := 101) dX12_check_53 (by decide) (rfl : v3_46.toInt = v3_46.toInt) (fun h32_ => ?_) (fun h32_ => ?_)
          · refine w_aload_n dX12_check_101 rfl 3 rfl ?_
            refine w_getR (c' := (52, 0, 0)) fl_RX12_16 rfl rfl ic_12 dX12_check_102 rfl ?_
            refine w_aload_n dX12_check_105 rfl 3 rfl ?_
            refine w_getR (c' := (50, 0, 0)) fl_RX12_9 rfl rfl ic_12 dX12_check_106 rfl ?_
            refine w_callSv (as := [vR (52, 0, 0), vR (50, 0, 0)]) (rest := []) (c_copy_52_50 l G cy ad (d + 7) M_46 (InvX50.of hI_46)) kS_X12_copy pnn_17 (Nat.le_of_ble_eq_true rfl) m_1843 rfl rfl (by decide) (Nat.le_of_ble_eq_true rfl) dX12_check_109 (fun M33_ q34_ => ?_)
            obtain ⟨hI36_, hF37_, h35_, hs39_⟩ := q34_
            have hF38_ := hF_46.tr hF37_ (fun c k => (fun h => h.elim (fun h => (Or.inr (Or.inr (Or.inl ⟨h.1, h.2⟩)))) (fun h => h.elim)))
            have hI40_ : InvD M33_ := InvX50.toD52 hI36_ h35_
            refine w_iload_n dX12_check_112 rfl 1 rfl ?_
            exact w_iret rfl dX12_check_113 ⟨hI40_, hF38_, trivial, ⟨z1_, e2_, h3_, M4_, hM5_, hI6_, (Or.inl ⟨hs12_, h11_, M14_, hI17_, hF18_, hs20_, v4_46, hv0_46, hv1_46, v3_46, M_46, hL_46, hI_46, hF_46, (Or.inr ⟨h23_, h32_, M33_, hI36_, hF37_, hs39_, rfl, rfl⟩)⟩)⟩⟩
          · refine w_aload_n dX12_check_56 rfl 3 rfl ?_
            refine w_callVv (as := []) (rest := []) (c_X12_tenth l G cy ad d M_46 hI_46) kV_X12_tenth pnn_17 (Nat.le_of_ble_eq_true rfl) m_1738 rfl rfl rfl ic_12 rfl rfl (by decide) (Nat.le_of_ble_eq_true rfl) dX12_check_57 (fun M41_ q42_ => ?_)
            obtain ⟨hI44_, hF45_, h43_, hs47_⟩ := q42_
            have hF46_ := hF_46.tr hF45_ (fun c k => (fun h => h.elim (fun h => (Or.inr (Or.inr (Or.inl ⟨h.1, h.2.1⟩)))) (fun h => h.elim (fun h => (Or.inr (Or.inr (Or.inr (Or.inl ⟨h.1, h.2.1, h.2.2⟩))))) (fun h => h.elim (fun h => (Or.inr (Or.inr (Or.inr (Or.inr (Or.inl ⟨h.1, h.2.1, h.2.2⟩)))))) (fun h => h.elim (fun h => (Or.inr (Or.inr (Or.inr (Or.inr (Or.inr (Or.inl ⟨h.1, h.2.1, h.2.2⟩))))))) (fun h => h.elim (fun h => (Or.inr (Or.inr (Or.inr (Or.inr (Or.inr (Or.inr (Or.inl ⟨h.1, h.2.1, h.2.2⟩)))))))) (fun h => h.elim (fun h => (Or.inr (Or.inr (Or.inr (Or.inr (Or.inr (Or.inr (Or.inr (Or.inl ⟨h.1, h.2.1, h.2.2⟩))))))))) (fun h => h.elim (fun h => (Or.inr (Or.inr (Or.inr (Or.inr (Or.inr (Or.inr (Or.inr (Or.inr (Or.inl ⟨h.1, h.2⟩)))))))))) (fun h => h.elim (fun h => (Or.inr (Or.inr (Or.inl ⟨h.1, h.2⟩)))) (fun h => h.elim))))))))))
            refine w_aload_n dX12_check_60 rfl 3 rfl ?_
            refine w_getR (c' := (50, 0, 0)) fl_RX12_9 rfl rfl ic_12 dX12_check_61 rfl ?_
            refine w_aload_n dX12_check_64 rfl 3 rfl ?_
            refine w_iload_n dX12_check_65 rfl 4 rfl ?_
            refine w_callV (as := [vI v]) (rest := [vR (50, 0, 0)]) (c_X12_goer l G cy ad (d + 7) v M41_ hI44_ h11_) kV_X12_goer pnn_17 (Nat.le_of_ble_eq_true rfl) m_1451 rfl rfl rfl ic_12 rfl rfl (by decide) (Nat.le_of_ble_eq_true rfl) dX12_check_66 (fun r48_ M49_ q50_ => ?_)
            obtain ⟨rfl, h51_, hs52_⟩ := q50_
            refine w_iconst (v := 1) dX12_check_69 (by decide) ?_
            refine w_iaddB dX12_check_70 (rfl : r48_.toInt = r48_.toInt) li_1 (lf_c_X12_echo_0 v r48_ h11_ h51_ ) (fun z53_ h54_ => ?_)
            refine w_iald rfl rfl ic_50 (rfl : z53_.toInt = z53_.toInt) (lf_c_X12_echo_1 v r48_ z53_ h11_ h51_ h54_ ) dX12_check_71 (fun j57_ h58_ z55_ e56_ => ?_)
            have h59_ : 0 ≤ z55_.toInt ∧ z55_.toInt ≤ 191 := pn_wc hI44_ e56_ (lf_c_X12_echo_2 M41_ v r48_ z53_ j57_ z55_ h11_ h51_ h54_ h58_ e56_ )
            refine w_aload_n dX12_check_72 rfl 3 rfl ?_
            refine w_getR (c' := (50, 0, 0)) fl_RX12_9 rfl rfl ic_12 dX12_check_73 rfl ?_
            refine w_sipush (v := 321) dX12_check_76 (by decide) ?_
            refine w_iload dX12_check_79 0 rfl ?_
            refine w_iaddB dX12_check_81 li_321 (rfl : v4_46.toInt = v4_46.toInt) (lf_c_X12_check_4 v4_46 hv0_46 hv1_46 ) (fun z60_ h61_ => ?_)
            refine w_iald rfl rfl ic_50 (rfl : z60_.toInt = z60_.toInt) (lf_c_X12_check_5 v4_46 z60_ hv0_46 hv1_46 h61_ ) dX12_check_82 (fun j64_ h65_ z62_ e63_ => ?_)
            refine w_icmp_ne (tgt := 90) dX12_check_83 (by decide) (rfl : z55_.toInt = z55_.toInt) (rfl : z62_.toInt = z62_.toInt) (fun h66_ => ?_) (fun h66_ => ?_)
            · refine w_iconst (v := 1) dX12_check_90 (by decide) ?_
              refine w_iload dX12_check_91 0 rfl ?_
              refine w_iaddB dX12_check_93 li_1 (rfl : v4_46.toInt = v4_46.toInt) (lf_c_X12_check_6 v4_46 hv0_46 hv1_46 ) (fun z67_ h68_ => ?_)
              refine w_istore_n (ls' := [(3, vI z67_), (4, vI v4_46), (2, vI z1_), (0, vR (12, 0, 0)), (1, vI v)]) dX12_check_94 rfl (by decide) rfl ?_
              refine w_iincB (j := 1) (f := fun z69_ => [(4, vI z69_), (3, vI z67_), (2, vI z1_), (0, vR (12, 0, 0)), (1, vI v)]) dX12_check_95 rfl (by decide) (fun _ => rfl) (rfl : v4_46.toInt = v4_46.toInt) li_1 (lf_c_X12_areCells_7 v4_46 hv0_46 hv1_46 ) (fun z69_ h70_ => ?_)
              refine w_goto (tgt := 46) dX12_check_98 (by decide) ?_
              refine w_loc (ls' := [(4, vI z69_), (3, vI z67_), (2, vI z1_), (0, vR (12, 0, 0)), (1, vI v)]) [0, 1, 2, 3, 4] rfl ?_
              exact ih_46 M41_ hI44_ hF46_ z69_ z67_ (lf_c_X5_takeFrom_3 v4_46 z69_ hv0_46 h70_ ) (lf_c_X12_check_9 z1_ v4_46 z69_ h3_ h23_ h70_ ) (RCH.tail hL_46 ⟨hv0_46, hv1_46, hI_46, hF_46, h23_, h32_, M41_, hI44_, hF45_, hs47_, r48_, hs52_, h51_, z53_, h54_, j57_, h58_, z55_, e56_, h59_, z60_, h61_, j64_, h65_, z62_, e63_, (Or.inl ⟨h66_, z67_, h68_, z69_, h70_, rfl, rfl, rfl⟩)⟩) (Nat.lt_of_lt_of_le (lf_c_X12_check_10 v4_46 z69_ hv1_46 h70_ ) (Nat.le_of_lt_succ hm_46))
            · refine w_iconst (v := 0) dX12_check_86 (by decide) ?_
              refine w_goto (tgt := 94) dX12_check_87 (by decide) ?_
              refine w_istore_n (ls' := [(3, vI 0), (4, vI v4_46), (2, vI z1_), (0, vR (12, 0, 0)), (1, vI v)]) dX12_check_94 rfl (by decide) rfl ?_
              refine w_iincB (j := 1) (f := fun z71_ => [(4, vI z71_), (3, vI 0), (2, vI z1_), (0, vR (12, 0, 0)), (1, vI v)]) dX12_check_95 rfl (by decide) (fun _ => rfl) (rfl : v4_46.toInt = v4_46.toInt) li_1 (lf_c_X12_areCells_7 v4_46 hv0_46 hv1_46 ) (fun z71_ h72_ => ?_)
              refine w_goto (tgt := 46) dX12_check_98 (by decide) ?_
              refine w_loc (ls' := [(4, vI z71_), (3, vI 0), (2, vI z1_), (0, vR (12, 0, 0)), (1, vI v)]) [0, 1, 2, 3, 4] rfl ?_
              exact ih_46 M41_ hI44_ hF46_ z71_ 0 (lf_c_X12_toldBy_13 v4_46 z71_ hv0_46 h72_ ) (lf_c_X12_check_13 z1_ v4_46 z71_ h3_ h23_ h72_ ) (RCH.tail hL_46 ⟨hv0_46, hv1_46, hI_46, hF_46, h23_, h32_, M41_, hI44_, hF45_, hs47_, r48_, hs52_, h51_, z53_, h54_, j57_, h58_, z55_, e56_, h59_, z60_, h61_, j64_, h65_, z62_, e63_, (Or.inr ⟨h66_, z71_, h72_, rfl, rfl, rfl⟩)⟩) (Nat.lt_of_lt_of_le (lf_c_X12_check_14 v4_46 z71_ hv1_46 h72_ ) (Nat.le_of_lt_succ hm_46))
    exact lp22_ _ M14_ hI21_ hF19_ 0 0 (lf_c_X5_takeFrom_5 ) (lf_c_X6_begin_7 ) RCH.refl (Nat.lt_succ_self _)
  · refine w_if_ne (tgt := 30) dX12_check_20 (by decide) li_0 (fun h9 => (absurd h9 (by decide))) (fun h73_ => ?_)
    refine w_aload_n dX12_check_23 rfl 1 rfl ?_
    refine w_ldc (v := (-1000001)) m_1433 dX12_check_24 ?_
    refine w_callV (as := [vI (-1000001)]) (rest := []) (c_X12_finding l G cy ad (d + 7) (-1000001) M4_ hI6_ (by first | decide | (unfold vF; omega) | (unfold vRw; omega))) kV_X12_finding pnn_17 (Nat.le_of_ble_eq_true rfl) m_1434 rfl rfl rfl ic_12 rfl rfl (by decide) (Nat.le_of_ble_eq_true rfl) dX12_check_26 (fun r74_ M75_ q76_ => ?_)
    obtain ⟨hI78_, hF79_, h77_, hs81_⟩ := q76_
    have hF80_ := hF7_.tr hF79_ (fun c k => (fun h => h.elim (fun h => (Or.inr (Or.inr (Or.inr (Or.inr (Or.inr (Or.inr (Or.inr (Or.inr (Or.inr (Or.inl ⟨h.1, h.2⟩))))))))))) (fun h => h.elim)))
    simp only [li_m1000001] at h77_
    exact w_iret rfl dX12_check_29 ⟨hI78_, hF80_, trivial, ⟨z1_, e2_, h3_, M4_, hM5_, hI6_, (Or.inr ⟨hs12_, M75_, hI78_, hF79_, r74_, hs81_, h77_, rfl, rfl⟩)⟩⟩
end
section
/-! bits, out of kit/laws/BITS.to-paste; how many of seven bits are free -/
def bt (x : Int32) (i : Nat) : Bool := x.toBitVec.getLsbD i
theorem b_or (x y : Int32) (i : Nat) : bt (x ||| y) i = (bt x i || bt y i) := by unfold bt; rw [Int32.toBitVec_or, BitVec.getLsbD_or]
theorem b_and (x y : Int32) (i : Nat) : bt (x &&& y) i = (bt x i && bt y i) := by unfold bt; rw [Int32.toBitVec_and, BitVec.getLsbD_and]
theorem b_0 (i : Nat) : bt 0 i = false := BitVec.getLsbD_zero
theorem s_l : ∀ n, n < 32 → ((nI n &&& 31).toBitVec.smod 32).toNat = n := by decide +kernel
theorem b_shl (n : Nat) (hn : n < 32) (x : Int32) {i : Nat} (hi : i < 32) : bt (x <<< (nI n &&& 31)) i = (decide (n ≤ i) && bt x (i - n)) := by
  unfold bt
  rw [Int32.toBitVec_shiftLeft]
  show (x.toBitVec <<< ((nI n &&& 31).toBitVec.smod 32).toNat).getLsbD i = _
  rw [s_l n hn, BitVec.getLsbD_shiftLeft]
  rcases Nat.lt_or_ge i n with h | h
  · simp [h, Nat.not_le.mpr h]
  · simp [hi, h, Nat.not_lt.mpr h]
theorem b_sshr (n : Nat) (hn : n < 32) (x : Int32) {i : Nat} (hi : i < 32) : bt (x >>> (nI n &&& 31)) i = if n + i < 32 then bt x (n + i) else bt x 31 := by
  unfold bt
  rw [Int32.toBitVec_shiftRight]
  show (x.toBitVec.sshiftRight ((nI n &&& 31).toBitVec.smod 32).toNat).getLsbD i = _
  rw [s_l n hn, BitVec.getLsbD_sshiftRight, BitVec.msb_eq_getLsbD_last]
  simp [hi]
def nb (b : Bool) : Nat := match b with
  | true => 0
  | false => 1
def frb (u : Int32) : Nat := nb (bt u 0) + nb (bt u 1) + nb (bt u 2) + nb (bt u 3) + nb (bt u 4) + nb (bt u 5) + nb (bt u 6)
theorem nb_le (b : Bool) : nb b ≤ 1 := by cases b <;> decide
theorem frb_le (u : Int32) : frb u ≤ 7 := by
  unfold frb
  have := nb_le (bt u 0); have := nb_le (bt u 1); have := nb_le (bt u 2); have := nb_le (bt u 3); have := nb_le (bt u 4); have := nb_le (bt u 5); have := nb_le (bt u 6)
  omega
theorem bt_1 : ∀ k, k < 8 → bt 1 k = decide (k = 0) := by decide +kernel
theorem frb_0 : frb 0 = 7 := by decide +kernel
theorem frb_step {u l : Int32} (hl : 0 ≤ l.toInt ∧ l.toInt ≤ 6) (h : ((u >>> (l &&& 31)) &&& 1).toInt = 0) : frb (u ||| ((1 : Int32) <<< (l &&& 31))) + 1 = frb u := by
  obtain ⟨n, hn⟩ : ∃ n : Nat, l.toInt = (n : Int) := ⟨l.toInt.toNat, by omega⟩
  have hn7 : n < 7 := by omega
  have e : l = nI n := nI_of_toInt hn
  subst e
  have h0 : (u >>> (nI n &&& 31)) &&& 1 = 0 := Int32.toInt_inj.mp h
  have hb : bt u n = false := by
    have h1 : bt ((u >>> (nI n &&& 31)) &&& 1) 0 = false := by rw [h0]; exact b_0 0
    rw [b_and, b_sshr n (by omega) u (by omega), if_pos (by omega), bt_1 0 (by omega)] at h1
    simpa using h1
  have hs : ∀ i, i < 7 → bt (u ||| ((1 : Int32) <<< (nI n &&& 31))) i = (bt u i || decide (i = n)) := by
    intro i hi
    rw [b_or, b_shl n (by omega) 1 (by omega), bt_1 (i - n) (by omega)]
    by_cases q : i = n
    · subst q; simp
    · rcases Nat.lt_or_ge i n with q2 | q2
      · simp [q, Nat.not_le.mpr q2]
      · have q3 : ¬ i - n = 0 := by omega
        simp [q, q3]
  unfold frb
  rw [hs 0 (by omega), hs 1 (by omega), hs 2 (by omega), hs 3 (by omega), hs 4 (by omega), hs 5 (by omega), hs 6 (by omega)]
  obtain rfl | rfl | rfl | rfl | rfl | rfl | rfl : n = 0 ∨ n = 1 ∨ n = 2 ∨ n = 3 ∨ n = 4 ∨ n = 5 ∨ n = 6 := by omega
  all_goals (rw [hb]; simp [nb]; try omega)
theorem ne0I {z : Int32} (h : ¬ z.toInt = 0) : ¬ z = 0 := fun e => h (by rw [e]; rfl)
end
section
/-! words of the tables that are used, by their places; decode rows; fields -/
theorem m_71 : Cond.selects yX12_tryRows.cls yX12_tryRows yX12_tryRows ∈ BASE := bmem 71 (by decide +kernel) rfl
set_option maxRecDepth 20000 in
theorem m_1343 : Cond.fieldLink RX12 60 "ClickStreetModel" "row" "[I" ∈ BASE := bmT6 65 rfl rfl
set_option maxRecDepth 20000 in
theorem m_1344 : Cond.fieldLink RX12 63 "ClickStreetModel" "bestRow" "[I" ∈ BASE := bmT6 66 rfl rfl
set_option maxRecDepth 20000 in
theorem m_1345 : Cond.fieldLink RX12 311 "ClickStreetModel" "bestMany" "I" ∈ BASE := bmT6 67 rfl rfl
set_option maxRecDepth 20000 in
theorem m_1346 : Cond.fieldLink RX12 314 "ClickStreetModel" "bestMinutes" "I" ∈ BASE := bmT6 68 rfl rfl
set_option maxRecDepth 20000 in
theorem m_1787 : Cond.methodLink RX12 317 yX12_tryRows ∈ BASE := bmT8 29 rfl rfl
set_option maxRecDepth 20000 in
theorem m_1789 : Cond.instanceMethod yX12_tryRows ∈ BASE := bmT8 31 rfl rfl
set_option maxRecDepth 20000 in
theorem m_1790 : Cond.code yX12_tryRows cX12_tryRows 7 none ∈ BASE := bmT8 32 rfl rfl
theorem kV_X12_tryRows : KV yX12_tryRows cX12_tryRows 7 none 5 := ⟨m_1789, m_71, m_92, m_1790, nhM_17, nhV_17, pdn_41⟩
theorem fl_RX12_311 : FLK RX12 311 12 22 .int false := ⟨RX12, TX12, 33, tyX12, rfl, inB12, tyX12_ok, nmX12, by decide, rfl, rfl, Or.inl m_1345⟩
theorem fl_RX12_314 : FLK RX12 314 12 23 .int false := ⟨RX12, TX12, 33, tyX12, rfl, inB12, tyX12_ok, nmX12, by decide, rfl, rfl, Or.inl m_1346⟩
theorem fl_RX12_60 : FLK RX12 60 12 20 (.array .int) true := ⟨RX12, TX12, 33, tyX12, rfl, inB12, tyX12_ok, nmX12, by decide, rfl, rfl, Or.inl m_1343⟩
theorem fl_RX12_63 : FLK RX12 63 12 21 (.array .int) true := ⟨RX12, TX12, 33, tyX12, rfl, inB12, tyX12_ok, nmX12, by decide, rfl, rfl, Or.inl m_1344⟩
theorem ch_cX12_tryRows_0 : (cX12_tryRows.data.toList.drop 0).take 36 = [21, 4, 29, 2, 130, 126, 154, 0, 77, 42, 180, 1, 55, 155, 0, 29, 21, 5, 42, 180, 1, 58, 161, 0, 20, 21, 5, 42, 180, 1, 58, 160, 0, 51, 27, 42] := by decide +kernel
theorem dX12_tryRows_0 : decode cX12_tryRows 0 = .ok (.iload 4, 2) := do_21 (rdb (p := 0) (i := 0) ch_cX12_tryRows_0 rfl) (rdb (p := 0) (i := 1) ch_cX12_tryRows_0 rfl)
theorem dX12_tryRows_2 : decode cX12_tryRows 2 = .ok (.iload_n 3, 1) := do_29 (rdb (p := 0) (i := 2) ch_cX12_tryRows_0 rfl)
theorem dX12_tryRows_3 : decode cX12_tryRows 3 = .ok (.iconst (-1), 1) := do_2 (rdb (p := 0) (i := 3) ch_cX12_tryRows_0 rfl)
theorem dX12_tryRows_4 : decode cX12_tryRows 4 = .ok (.ixor, 1) := do_130 (rdb (p := 0) (i := 4) ch_cX12_tryRows_0 rfl)
theorem dX12_tryRows_5 : decode cX12_tryRows 5 = .ok (.iand, 1) := do_126 (rdb (p := 0) (i := 5) ch_cX12_tryRows_0 rfl)
theorem dX12_tryRows_6 : decode cX12_tryRows 6 = .ok (.ifCond .ne 77, 3) := do_154 (rdb (p := 0) (i := 6) ch_cX12_tryRows_0 rfl) (rdb (p := 0) (i := 7) ch_cX12_tryRows_0 rfl) (rdb (p := 0) (i := 8) ch_cX12_tryRows_0 rfl) (by decide +kernel)
theorem dX12_tryRows_9 : decode cX12_tryRows 9 = .ok (.aload_n 0, 1) := do_42 (rdb (p := 0) (i := 9) ch_cX12_tryRows_0 rfl)
theorem dX12_tryRows_10 : decode cX12_tryRows 10 = .ok (.getfield 311, 3) := do_180 (rdb (p := 0) (i := 10) ch_cX12_tryRows_0 rfl) (rdb (p := 0) (i := 11) ch_cX12_tryRows_0 rfl) (rdb (p := 0) (i := 12) ch_cX12_tryRows_0 rfl) rfl
theorem dX12_tryRows_13 : decode cX12_tryRows 13 = .ok (.ifCond .lt 29, 3) := do_155 (rdb (p := 0) (i := 13) ch_cX12_tryRows_0 rfl) (rdb (p := 0) (i := 14) ch_cX12_tryRows_0 rfl) (rdb (p := 0) (i := 15) ch_cX12_tryRows_0 rfl) (by decide +kernel)
theorem dX12_tryRows_16 : decode cX12_tryRows 16 = .ok (.iload 5, 2) := do_21 (rdb (p := 0) (i := 16) ch_cX12_tryRows_0 rfl) (rdb (p := 0) (i := 17) ch_cX12_tryRows_0 rfl)
theorem dX12_tryRows_18 : decode cX12_tryRows 18 = .ok (.aload_n 0, 1) := do_42 (rdb (p := 0) (i := 18) ch_cX12_tryRows_0 rfl)
theorem dX12_tryRows_19 : decode cX12_tryRows 19 = .ok (.getfield 314, 3) := do_180 (rdb (p := 0) (i := 19) ch_cX12_tryRows_0 rfl) (rdb (p := 0) (i := 20) ch_cX12_tryRows_0 rfl) (rdb (p := 0) (i := 21) ch_cX12_tryRows_0 rfl) rfl
theorem dX12_tryRows_22 : decode cX12_tryRows 22 = .ok (.if_icmp .lt 20, 3) := do_161 (rdb (p := 0) (i := 22) ch_cX12_tryRows_0 rfl) (rdb (p := 0) (i := 23) ch_cX12_tryRows_0 rfl) (rdb (p := 0) (i := 24) ch_cX12_tryRows_0 rfl) (by decide +kernel)
theorem dX12_tryRows_25 : decode cX12_tryRows 25 = .ok (.iload 5, 2) := do_21 (rdb (p := 0) (i := 25) ch_cX12_tryRows_0 rfl) (rdb (p := 0) (i := 26) ch_cX12_tryRows_0 rfl)
theorem dX12_tryRows_27 : decode cX12_tryRows 27 = .ok (.aload_n 0, 1) := do_42 (rdb (p := 0) (i := 27) ch_cX12_tryRows_0 rfl)
theorem dX12_tryRows_28 : decode cX12_tryRows 28 = .ok (.getfield 314, 3) := do_180 (rdb (p := 0) (i := 28) ch_cX12_tryRows_0 rfl) (rdb (p := 0) (i := 29) ch_cX12_tryRows_0 rfl) (rdb (p := 0) (i := 30) ch_cX12_tryRows_0 rfl) rfl
theorem dX12_tryRows_31 : decode cX12_tryRows 31 = .ok (.if_icmp .ne 51, 3) := do_160 (rdb (p := 0) (i := 31) ch_cX12_tryRows_0 rfl) (rdb (p := 0) (i := 32) ch_cX12_tryRows_0 rfl) (rdb (p := 0) (i := 33) ch_cX12_tryRows_0 rfl) (by decide +kernel)
theorem ch_cX12_tryRows_32 : (cX12_tryRows.data.toList.drop 32).take 36 = [0, 51, 27, 42, 180, 1, 55, 162, 0, 43, 42, 27, 181, 1, 55, 42, 21, 5, 181, 1, 58, 3, 54, 6, 21, 6, 27, 162, 0, 23, 42, 180, 0, 63, 21, 6] := by decide +kernel
theorem dX12_tryRows_34 : decode cX12_tryRows 34 = .ok (.iload_n 1, 1) := do_27 (rdb (p := 32) (i := 2) ch_cX12_tryRows_32 rfl)
theorem dX12_tryRows_35 : decode cX12_tryRows 35 = .ok (.aload_n 0, 1) := do_42 (rdb (p := 32) (i := 3) ch_cX12_tryRows_32 rfl)
theorem dX12_tryRows_36 : decode cX12_tryRows 36 = .ok (.getfield 311, 3) := do_180 (rdb (p := 32) (i := 4) ch_cX12_tryRows_32 rfl) (rdb (p := 32) (i := 5) ch_cX12_tryRows_32 rfl) (rdb (p := 32) (i := 6) ch_cX12_tryRows_32 rfl) rfl
theorem dX12_tryRows_39 : decode cX12_tryRows 39 = .ok (.if_icmp .ge 43, 3) := do_162 (rdb (p := 32) (i := 7) ch_cX12_tryRows_32 rfl) (rdb (p := 32) (i := 8) ch_cX12_tryRows_32 rfl) (rdb (p := 32) (i := 9) ch_cX12_tryRows_32 rfl) (by decide +kernel)
theorem dX12_tryRows_42 : decode cX12_tryRows 42 = .ok (.aload_n 0, 1) := do_42 (rdb (p := 32) (i := 10) ch_cX12_tryRows_32 rfl)
theorem dX12_tryRows_43 : decode cX12_tryRows 43 = .ok (.iload_n 1, 1) := do_27 (rdb (p := 32) (i := 11) ch_cX12_tryRows_32 rfl)
theorem dX12_tryRows_44 : decode cX12_tryRows 44 = .ok (.putfield 311, 3) := do_181 (rdb (p := 32) (i := 12) ch_cX12_tryRows_32 rfl) (rdb (p := 32) (i := 13) ch_cX12_tryRows_32 rfl) (rdb (p := 32) (i := 14) ch_cX12_tryRows_32 rfl) rfl
theorem dX12_tryRows_47 : decode cX12_tryRows 47 = .ok (.aload_n 0, 1) := do_42 (rdb (p := 32) (i := 15) ch_cX12_tryRows_32 rfl)
theorem dX12_tryRows_48 : decode cX12_tryRows 48 = .ok (.iload 5, 2) := do_21 (rdb (p := 32) (i := 16) ch_cX12_tryRows_32 rfl) (rdb (p := 32) (i := 17) ch_cX12_tryRows_32 rfl)
theorem dX12_tryRows_50 : decode cX12_tryRows 50 = .ok (.putfield 314, 3) := do_181 (rdb (p := 32) (i := 18) ch_cX12_tryRows_32 rfl) (rdb (p := 32) (i := 19) ch_cX12_tryRows_32 rfl) (rdb (p := 32) (i := 20) ch_cX12_tryRows_32 rfl) rfl
theorem dX12_tryRows_53 : decode cX12_tryRows 53 = .ok (.iconst 0, 1) := do_3 (rdb (p := 32) (i := 21) ch_cX12_tryRows_32 rfl)
theorem dX12_tryRows_54 : decode cX12_tryRows 54 = .ok (.istore 6, 2) := do_54 (rdb (p := 32) (i := 22) ch_cX12_tryRows_32 rfl) (rdb (p := 32) (i := 23) ch_cX12_tryRows_32 rfl)
theorem dX12_tryRows_56 : decode cX12_tryRows 56 = .ok (.iload 6, 2) := do_21 (rdb (p := 32) (i := 24) ch_cX12_tryRows_32 rfl) (rdb (p := 32) (i := 25) ch_cX12_tryRows_32 rfl)
theorem dX12_tryRows_58 : decode cX12_tryRows 58 = .ok (.iload_n 1, 1) := do_27 (rdb (p := 32) (i := 26) ch_cX12_tryRows_32 rfl)
theorem dX12_tryRows_59 : decode cX12_tryRows 59 = .ok (.if_icmp .ge 23, 3) := do_162 (rdb (p := 32) (i := 27) ch_cX12_tryRows_32 rfl) (rdb (p := 32) (i := 28) ch_cX12_tryRows_32 rfl) (rdb (p := 32) (i := 29) ch_cX12_tryRows_32 rfl) (by decide +kernel)
theorem dX12_tryRows_62 : decode cX12_tryRows 62 = .ok (.aload_n 0, 1) := do_42 (rdb (p := 32) (i := 30) ch_cX12_tryRows_32 rfl)
theorem dX12_tryRows_63 : decode cX12_tryRows 63 = .ok (.getfield 63, 3) := do_180 (rdb (p := 32) (i := 31) ch_cX12_tryRows_32 rfl) (rdb (p := 32) (i := 32) ch_cX12_tryRows_32 rfl) (rdb (p := 32) (i := 33) ch_cX12_tryRows_32 rfl) rfl
theorem ch_cX12_tryRows_64 : (cX12_tryRows.data.toList.drop 64).take 36 = [0, 63, 21, 6, 42, 180, 0, 60, 21, 6, 46, 79, 132, 6, 1, 167, 255, 233, 177, 3, 54, 6, 21, 6, 42, 180, 0, 9, 6, 46, 162, 0, 128, 28, 21, 6] := by decide +kernel
theorem dX12_tryRows_66 : decode cX12_tryRows 66 = .ok (.iload 6, 2) := do_21 (rdb (p := 64) (i := 2) ch_cX12_tryRows_64 rfl) (rdb (p := 64) (i := 3) ch_cX12_tryRows_64 rfl)
theorem dX12_tryRows_68 : decode cX12_tryRows 68 = .ok (.aload_n 0, 1) := do_42 (rdb (p := 64) (i := 4) ch_cX12_tryRows_64 rfl)
theorem dX12_tryRows_69 : decode cX12_tryRows 69 = .ok (.getfield 60, 3) := do_180 (rdb (p := 64) (i := 5) ch_cX12_tryRows_64 rfl) (rdb (p := 64) (i := 6) ch_cX12_tryRows_64 rfl) (rdb (p := 64) (i := 7) ch_cX12_tryRows_64 rfl) rfl
theorem dX12_tryRows_72 : decode cX12_tryRows 72 = .ok (.iload 6, 2) := do_21 (rdb (p := 64) (i := 8) ch_cX12_tryRows_64 rfl) (rdb (p := 64) (i := 9) ch_cX12_tryRows_64 rfl)
theorem dX12_tryRows_74 : decode cX12_tryRows 74 = .ok (.iaload, 1) := do_46 (rdb (p := 64) (i := 10) ch_cX12_tryRows_64 rfl)
theorem dX12_tryRows_75 : decode cX12_tryRows 75 = .ok (.iastore, 1) := do_79 (rdb (p := 64) (i := 11) ch_cX12_tryRows_64 rfl)
theorem dX12_tryRows_76 : decode cX12_tryRows 76 = .ok (.iinc 6 1, 3) := do_132 (rdb (p := 64) (i := 12) ch_cX12_tryRows_64 rfl) (rdb (p := 64) (i := 13) ch_cX12_tryRows_64 rfl) (rdb (p := 64) (i := 14) ch_cX12_tryRows_64 rfl) (by decide +kernel)
theorem dX12_tryRows_79 : decode cX12_tryRows 79 = .ok (.goto (-23), 3) := do_167 (rdb (p := 64) (i := 15) ch_cX12_tryRows_64 rfl) (rdb (p := 64) (i := 16) ch_cX12_tryRows_64 rfl) (rdb (p := 64) (i := 17) ch_cX12_tryRows_64 rfl) (by decide +kernel)
theorem dX12_tryRows_82 : decode cX12_tryRows 82 = .ok (.return_, 1) := do_177 (rdb (p := 64) (i := 18) ch_cX12_tryRows_64 rfl)
theorem dX12_tryRows_83 : decode cX12_tryRows 83 = .ok (.iconst 0, 1) := do_3 (rdb (p := 64) (i := 19) ch_cX12_tryRows_64 rfl)
theorem dX12_tryRows_84 : decode cX12_tryRows 84 = .ok (.istore 6, 2) := do_54 (rdb (p := 64) (i := 20) ch_cX12_tryRows_64 rfl) (rdb (p := 64) (i := 21) ch_cX12_tryRows_64 rfl)
theorem dX12_tryRows_86 : decode cX12_tryRows 86 = .ok (.iload 6, 2) := do_21 (rdb (p := 64) (i := 22) ch_cX12_tryRows_64 rfl) (rdb (p := 64) (i := 23) ch_cX12_tryRows_64 rfl)
theorem dX12_tryRows_88 : decode cX12_tryRows 88 = .ok (.aload_n 0, 1) := do_42 (rdb (p := 64) (i := 24) ch_cX12_tryRows_64 rfl)
theorem dX12_tryRows_89 : decode cX12_tryRows 89 = .ok (.getfield 9, 3) := do_180 (rdb (p := 64) (i := 25) ch_cX12_tryRows_64 rfl) (rdb (p := 64) (i := 26) ch_cX12_tryRows_64 rfl) (rdb (p := 64) (i := 27) ch_cX12_tryRows_64 rfl) rfl
theorem dX12_tryRows_92 : decode cX12_tryRows 92 = .ok (.iconst 3, 1) := do_6 (rdb (p := 64) (i := 28) ch_cX12_tryRows_64 rfl)
theorem dX12_tryRows_93 : decode cX12_tryRows 93 = .ok (.iaload, 1) := do_46 (rdb (p := 64) (i := 29) ch_cX12_tryRows_64 rfl)
theorem dX12_tryRows_94 : decode cX12_tryRows 94 = .ok (.if_icmp .ge 128, 3) := do_162 (rdb (p := 64) (i := 30) ch_cX12_tryRows_64 rfl) (rdb (p := 64) (i := 31) ch_cX12_tryRows_64 rfl) (rdb (p := 64) (i := 32) ch_cX12_tryRows_64 rfl) (by decide +kernel)
theorem ch_cX12_tryRows_96 : (cX12_tryRows.data.toList.drop 96).take 36 = [128, 28, 21, 6, 122, 4, 126, 154, 0, 113, 42, 180, 0, 9, 17, 0, 252, 6, 21, 6, 104, 96, 4, 96, 46, 29, 2, 130, 126, 154, 0, 91, 42, 180, 1, 55] := by decide +kernel
theorem dX12_tryRows_97 : decode cX12_tryRows 97 = .ok (.iload_n 2, 1) := do_28 (rdb (p := 96) (i := 1) ch_cX12_tryRows_96 rfl)
theorem dX12_tryRows_98 : decode cX12_tryRows 98 = .ok (.iload 6, 2) := do_21 (rdb (p := 96) (i := 2) ch_cX12_tryRows_96 rfl) (rdb (p := 96) (i := 3) ch_cX12_tryRows_96 rfl)
theorem dX12_tryRows_100 : decode cX12_tryRows 100 = .ok (.ishr, 1) := do_122 (rdb (p := 96) (i := 4) ch_cX12_tryRows_96 rfl)
theorem dX12_tryRows_101 : decode cX12_tryRows 101 = .ok (.iconst 1, 1) := do_4 (rdb (p := 96) (i := 5) ch_cX12_tryRows_96 rfl)
theorem dX12_tryRows_102 : decode cX12_tryRows 102 = .ok (.iand, 1) := do_126 (rdb (p := 96) (i := 6) ch_cX12_tryRows_96 rfl)
theorem dX12_tryRows_103 : decode cX12_tryRows 103 = .ok (.ifCond .ne 113, 3) := do_154 (rdb (p := 96) (i := 7) ch_cX12_tryRows_96 rfl) (rdb (p := 96) (i := 8) ch_cX12_tryRows_96 rfl) (rdb (p := 96) (i := 9) ch_cX12_tryRows_96 rfl) (by decide +kernel)
theorem dX12_tryRows_106 : decode cX12_tryRows 106 = .ok (.aload_n 0, 1) := do_42 (rdb (p := 96) (i := 10) ch_cX12_tryRows_96 rfl)
theorem dX12_tryRows_107 : decode cX12_tryRows 107 = .ok (.getfield 9, 3) := do_180 (rdb (p := 96) (i := 11) ch_cX12_tryRows_96 rfl) (rdb (p := 96) (i := 12) ch_cX12_tryRows_96 rfl) (rdb (p := 96) (i := 13) ch_cX12_tryRows_96 rfl) rfl
theorem dX12_tryRows_110 : decode cX12_tryRows 110 = .ok (.sipush 252, 3) := do_17 (rdb (p := 96) (i := 14) ch_cX12_tryRows_96 rfl) (rdb (p := 96) (i := 15) ch_cX12_tryRows_96 rfl) (rdb (p := 96) (i := 16) ch_cX12_tryRows_96 rfl) (by decide +kernel)
theorem dX12_tryRows_113 : decode cX12_tryRows 113 = .ok (.iconst 3, 1) := do_6 (rdb (p := 96) (i := 17) ch_cX12_tryRows_96 rfl)
theorem dX12_tryRows_114 : decode cX12_tryRows 114 = .ok (.iload 6, 2) := do_21 (rdb (p := 96) (i := 18) ch_cX12_tryRows_96 rfl) (rdb (p := 96) (i := 19) ch_cX12_tryRows_96 rfl)
theorem dX12_tryRows_116 : decode cX12_tryRows 116 = .ok (.imul, 1) := do_104 (rdb (p := 96) (i := 20) ch_cX12_tryRows_96 rfl)
theorem dX12_tryRows_117 : decode cX12_tryRows 117 = .ok (.iadd, 1) := do_96 (rdb (p := 96) (i := 21) ch_cX12_tryRows_96 rfl)
theorem dX12_tryRows_118 : decode cX12_tryRows 118 = .ok (.iconst 1, 1) := do_4 (rdb (p := 96) (i := 22) ch_cX12_tryRows_96 rfl)
theorem dX12_tryRows_119 : decode cX12_tryRows 119 = .ok (.iadd, 1) := do_96 (rdb (p := 96) (i := 23) ch_cX12_tryRows_96 rfl)
theorem dX12_tryRows_120 : decode cX12_tryRows 120 = .ok (.iaload, 1) := do_46 (rdb (p := 96) (i := 24) ch_cX12_tryRows_96 rfl)
theorem dX12_tryRows_121 : decode cX12_tryRows 121 = .ok (.iload_n 3, 1) := do_29 (rdb (p := 96) (i := 25) ch_cX12_tryRows_96 rfl)
theorem dX12_tryRows_122 : decode cX12_tryRows 122 = .ok (.iconst (-1), 1) := do_2 (rdb (p := 96) (i := 26) ch_cX12_tryRows_96 rfl)
theorem dX12_tryRows_123 : decode cX12_tryRows 123 = .ok (.ixor, 1) := do_130 (rdb (p := 96) (i := 27) ch_cX12_tryRows_96 rfl)
theorem dX12_tryRows_124 : decode cX12_tryRows 124 = .ok (.iand, 1) := do_126 (rdb (p := 96) (i := 28) ch_cX12_tryRows_96 rfl)
theorem dX12_tryRows_125 : decode cX12_tryRows 125 = .ok (.ifCond .ne 91, 3) := do_154 (rdb (p := 96) (i := 29) ch_cX12_tryRows_96 rfl) (rdb (p := 96) (i := 30) ch_cX12_tryRows_96 rfl) (rdb (p := 96) (i := 31) ch_cX12_tryRows_96 rfl) (by decide +kernel)
theorem ch_cX12_tryRows_128 : (cX12_tryRows.data.toList.drop 128).take 36 = [42, 180, 1, 55, 155, 0, 28, 21, 5, 42, 180, 0, 9, 17, 0, 252, 6, 21, 6, 104, 96, 5, 96, 46, 96, 42, 180, 1, 58, 163, 0, 59, 42, 180, 0, 60] := by decide +kernel
theorem dX12_tryRows_128 : decode cX12_tryRows 128 = .ok (.aload_n 0, 1) := do_42 (rdb (p := 128) (i := 0) ch_cX12_tryRows_128 rfl)
theorem dX12_tryRows_129 : decode cX12_tryRows 129 = .ok (.getfield 311, 3) := do_180 (rdb (p := 128) (i := 1) ch_cX12_tryRows_128 rfl) (rdb (p := 128) (i := 2) ch_cX12_tryRows_128 rfl) (rdb (p := 128) (i := 3) ch_cX12_tryRows_128 rfl) rfl
theorem dX12_tryRows_132 : decode cX12_tryRows 132 = .ok (.ifCond .lt 28, 3) := do_155 (rdb (p := 128) (i := 4) ch_cX12_tryRows_128 rfl) (rdb (p := 128) (i := 5) ch_cX12_tryRows_128 rfl) (rdb (p := 128) (i := 6) ch_cX12_tryRows_128 rfl) (by decide +kernel)
theorem dX12_tryRows_135 : decode cX12_tryRows 135 = .ok (.iload 5, 2) := do_21 (rdb (p := 128) (i := 7) ch_cX12_tryRows_128 rfl) (rdb (p := 128) (i := 8) ch_cX12_tryRows_128 rfl)
theorem dX12_tryRows_137 : decode cX12_tryRows 137 = .ok (.aload_n 0, 1) := do_42 (rdb (p := 128) (i := 9) ch_cX12_tryRows_128 rfl)
theorem dX12_tryRows_138 : decode cX12_tryRows 138 = .ok (.getfield 9, 3) := do_180 (rdb (p := 128) (i := 10) ch_cX12_tryRows_128 rfl) (rdb (p := 128) (i := 11) ch_cX12_tryRows_128 rfl) (rdb (p := 128) (i := 12) ch_cX12_tryRows_128 rfl) rfl
theorem dX12_tryRows_141 : decode cX12_tryRows 141 = .ok (.sipush 252, 3) := do_17 (rdb (p := 128) (i := 13) ch_cX12_tryRows_128 rfl) (rdb (p := 128) (i := 14) ch_cX12_tryRows_128 rfl) (rdb (p := 128) (i := 15) ch_cX12_tryRows_128 rfl) (by decide +kernel)
theorem dX12_tryRows_144 : decode cX12_tryRows 144 = .ok (.iconst 3, 1) := do_6 (rdb (p := 128) (i := 16) ch_cX12_tryRows_128 rfl)
theorem dX12_tryRows_145 : decode cX12_tryRows 145 = .ok (.iload 6, 2) := do_21 (rdb (p := 128) (i := 17) ch_cX12_tryRows_128 rfl) (rdb (p := 128) (i := 18) ch_cX12_tryRows_128 rfl)
theorem dX12_tryRows_147 : decode cX12_tryRows 147 = .ok (.imul, 1) := do_104 (rdb (p := 128) (i := 19) ch_cX12_tryRows_128 rfl)
theorem dX12_tryRows_148 : decode cX12_tryRows 148 = .ok (.iadd, 1) := do_96 (rdb (p := 128) (i := 20) ch_cX12_tryRows_128 rfl)
theorem dX12_tryRows_149 : decode cX12_tryRows 149 = .ok (.iconst 2, 1) := do_5 (rdb (p := 128) (i := 21) ch_cX12_tryRows_128 rfl)
theorem dX12_tryRows_150 : decode cX12_tryRows 150 = .ok (.iadd, 1) := do_96 (rdb (p := 128) (i := 22) ch_cX12_tryRows_128 rfl)
theorem dX12_tryRows_151 : decode cX12_tryRows 151 = .ok (.iaload, 1) := do_46 (rdb (p := 128) (i := 23) ch_cX12_tryRows_128 rfl)
theorem dX12_tryRows_152 : decode cX12_tryRows 152 = .ok (.iadd, 1) := do_96 (rdb (p := 128) (i := 24) ch_cX12_tryRows_128 rfl)
theorem dX12_tryRows_153 : decode cX12_tryRows 153 = .ok (.aload_n 0, 1) := do_42 (rdb (p := 128) (i := 25) ch_cX12_tryRows_128 rfl)
theorem dX12_tryRows_154 : decode cX12_tryRows 154 = .ok (.getfield 314, 3) := do_180 (rdb (p := 128) (i := 26) ch_cX12_tryRows_128 rfl) (rdb (p := 128) (i := 27) ch_cX12_tryRows_128 rfl) (rdb (p := 128) (i := 28) ch_cX12_tryRows_128 rfl) rfl
theorem dX12_tryRows_157 : decode cX12_tryRows 157 = .ok (.if_icmp .gt 59, 3) := do_163 (rdb (p := 128) (i := 29) ch_cX12_tryRows_128 rfl) (rdb (p := 128) (i := 30) ch_cX12_tryRows_128 rfl) (rdb (p := 128) (i := 31) ch_cX12_tryRows_128 rfl) (by decide +kernel)
theorem ch_cX12_tryRows_160 : (cX12_tryRows.data.toList.drop 160).take 36 = [42, 180, 0, 60, 27, 21, 6, 79, 42, 27, 4, 96, 28, 4, 21, 6, 120, 128, 29, 42, 180, 0, 9, 17, 0, 252, 6, 21, 6, 104, 96, 46, 128, 21, 4, 21] := by decide +kernel
theorem dX12_tryRows_160 : decode cX12_tryRows 160 = .ok (.aload_n 0, 1) := do_42 (rdb (p := 160) (i := 0) ch_cX12_tryRows_160 rfl)
theorem dX12_tryRows_161 : decode cX12_tryRows 161 = .ok (.getfield 60, 3) := do_180 (rdb (p := 160) (i := 1) ch_cX12_tryRows_160 rfl) (rdb (p := 160) (i := 2) ch_cX12_tryRows_160 rfl) (rdb (p := 160) (i := 3) ch_cX12_tryRows_160 rfl) rfl
theorem dX12_tryRows_164 : decode cX12_tryRows 164 = .ok (.iload_n 1, 1) := do_27 (rdb (p := 160) (i := 4) ch_cX12_tryRows_160 rfl)
theorem dX12_tryRows_165 : decode cX12_tryRows 165 = .ok (.iload 6, 2) := do_21 (rdb (p := 160) (i := 5) ch_cX12_tryRows_160 rfl) (rdb (p := 160) (i := 6) ch_cX12_tryRows_160 rfl)
theorem dX12_tryRows_167 : decode cX12_tryRows 167 = .ok (.iastore, 1) := do_79 (rdb (p := 160) (i := 7) ch_cX12_tryRows_160 rfl)
theorem dX12_tryRows_168 : decode cX12_tryRows 168 = .ok (.aload_n 0, 1) := do_42 (rdb (p := 160) (i := 8) ch_cX12_tryRows_160 rfl)
theorem dX12_tryRows_169 : decode cX12_tryRows 169 = .ok (.iload_n 1, 1) := do_27 (rdb (p := 160) (i := 9) ch_cX12_tryRows_160 rfl)
theorem dX12_tryRows_170 : decode cX12_tryRows 170 = .ok (.iconst 1, 1) := do_4 (rdb (p := 160) (i := 10) ch_cX12_tryRows_160 rfl)
theorem dX12_tryRows_171 : decode cX12_tryRows 171 = .ok (.iadd, 1) := do_96 (rdb (p := 160) (i := 11) ch_cX12_tryRows_160 rfl)
theorem dX12_tryRows_172 : decode cX12_tryRows 172 = .ok (.iload_n 2, 1) := do_28 (rdb (p := 160) (i := 12) ch_cX12_tryRows_160 rfl)
theorem dX12_tryRows_173 : decode cX12_tryRows 173 = .ok (.iconst 1, 1) := do_4 (rdb (p := 160) (i := 13) ch_cX12_tryRows_160 rfl)
theorem dX12_tryRows_174 : decode cX12_tryRows 174 = .ok (.iload 6, 2) := do_21 (rdb (p := 160) (i := 14) ch_cX12_tryRows_160 rfl) (rdb (p := 160) (i := 15) ch_cX12_tryRows_160 rfl)
theorem dX12_tryRows_176 : decode cX12_tryRows 176 = .ok (.ishl, 1) := do_120 (rdb (p := 160) (i := 16) ch_cX12_tryRows_160 rfl)
theorem dX12_tryRows_177 : decode cX12_tryRows 177 = .ok (.ior, 1) := do_128 (rdb (p := 160) (i := 17) ch_cX12_tryRows_160 rfl)
theorem dX12_tryRows_178 : decode cX12_tryRows 178 = .ok (.iload_n 3, 1) := do_29 (rdb (p := 160) (i := 18) ch_cX12_tryRows_160 rfl)
theorem dX12_tryRows_179 : decode cX12_tryRows 179 = .ok (.aload_n 0, 1) := do_42 (rdb (p := 160) (i := 19) ch_cX12_tryRows_160 rfl)
theorem dX12_tryRows_180 : decode cX12_tryRows 180 = .ok (.getfield 9, 3) := do_180 (rdb (p := 160) (i := 20) ch_cX12_tryRows_160 rfl) (rdb (p := 160) (i := 21) ch_cX12_tryRows_160 rfl) (rdb (p := 160) (i := 22) ch_cX12_tryRows_160 rfl) rfl
theorem dX12_tryRows_183 : decode cX12_tryRows 183 = .ok (.sipush 252, 3) := do_17 (rdb (p := 160) (i := 23) ch_cX12_tryRows_160 rfl) (rdb (p := 160) (i := 24) ch_cX12_tryRows_160 rfl) (rdb (p := 160) (i := 25) ch_cX12_tryRows_160 rfl) (by decide +kernel)
theorem dX12_tryRows_186 : decode cX12_tryRows 186 = .ok (.iconst 3, 1) := do_6 (rdb (p := 160) (i := 26) ch_cX12_tryRows_160 rfl)
theorem dX12_tryRows_187 : decode cX12_tryRows 187 = .ok (.iload 6, 2) := do_21 (rdb (p := 160) (i := 27) ch_cX12_tryRows_160 rfl) (rdb (p := 160) (i := 28) ch_cX12_tryRows_160 rfl)
theorem dX12_tryRows_189 : decode cX12_tryRows 189 = .ok (.imul, 1) := do_104 (rdb (p := 160) (i := 29) ch_cX12_tryRows_160 rfl)
theorem dX12_tryRows_190 : decode cX12_tryRows 190 = .ok (.iadd, 1) := do_96 (rdb (p := 160) (i := 30) ch_cX12_tryRows_160 rfl)
theorem dX12_tryRows_191 : decode cX12_tryRows 191 = .ok (.iaload, 1) := do_46 (rdb (p := 160) (i := 31) ch_cX12_tryRows_160 rfl)
theorem ch_cX12_tryRows_192 : (cX12_tryRows.data.toList.drop 192).take 36 = [128, 21, 4, 21, 5, 42, 180, 0, 9, 17, 0, 252, 6, 21, 6, 104, 96, 5, 96, 46, 96, 182, 1, 61, 132, 6, 1, 167, 255, 123, 177] := by decide +kernel
theorem dX12_tryRows_192 : decode cX12_tryRows 192 = .ok (.ior, 1) := do_128 (rdb (p := 192) (i := 0) ch_cX12_tryRows_192 rfl)
theorem dX12_tryRows_193 : decode cX12_tryRows 193 = .ok (.iload 4, 2) := do_21 (rdb (p := 192) (i := 1) ch_cX12_tryRows_192 rfl) (rdb (p := 192) (i := 2) ch_cX12_tryRows_192 rfl)
theorem dX12_tryRows_195 : decode cX12_tryRows 195 = .ok (.iload 5, 2) := do_21 (rdb (p := 192) (i := 3) ch_cX12_tryRows_192 rfl) (rdb (p := 192) (i := 4) ch_cX12_tryRows_192 rfl)
theorem dX12_tryRows_197 : decode cX12_tryRows 197 = .ok (.aload_n 0, 1) := do_42 (rdb (p := 192) (i := 5) ch_cX12_tryRows_192 rfl)
theorem dX12_tryRows_198 : decode cX12_tryRows 198 = .ok (.getfield 9, 3) := do_180 (rdb (p := 192) (i := 6) ch_cX12_tryRows_192 rfl) (rdb (p := 192) (i := 7) ch_cX12_tryRows_192 rfl) (rdb (p := 192) (i := 8) ch_cX12_tryRows_192 rfl) rfl
theorem dX12_tryRows_201 : decode cX12_tryRows 201 = .ok (.sipush 252, 3) := do_17 (rdb (p := 192) (i := 9) ch_cX12_tryRows_192 rfl) (rdb (p := 192) (i := 10) ch_cX12_tryRows_192 rfl) (rdb (p := 192) (i := 11) ch_cX12_tryRows_192 rfl) (by decide +kernel)
theorem dX12_tryRows_204 : decode cX12_tryRows 204 = .ok (.iconst 3, 1) := do_6 (rdb (p := 192) (i := 12) ch_cX12_tryRows_192 rfl)
theorem dX12_tryRows_205 : decode cX12_tryRows 205 = .ok (.iload 6, 2) := do_21 (rdb (p := 192) (i := 13) ch_cX12_tryRows_192 rfl) (rdb (p := 192) (i := 14) ch_cX12_tryRows_192 rfl)
theorem dX12_tryRows_207 : decode cX12_tryRows 207 = .ok (.imul, 1) := do_104 (rdb (p := 192) (i := 15) ch_cX12_tryRows_192 rfl)
theorem dX12_tryRows_208 : decode cX12_tryRows 208 = .ok (.iadd, 1) := do_96 (rdb (p := 192) (i := 16) ch_cX12_tryRows_192 rfl)
theorem dX12_tryRows_209 : decode cX12_tryRows 209 = .ok (.iconst 2, 1) := do_5 (rdb (p := 192) (i := 17) ch_cX12_tryRows_192 rfl)
theorem dX12_tryRows_210 : decode cX12_tryRows 210 = .ok (.iadd, 1) := do_96 (rdb (p := 192) (i := 18) ch_cX12_tryRows_192 rfl)
theorem dX12_tryRows_211 : decode cX12_tryRows 211 = .ok (.iaload, 1) := do_46 (rdb (p := 192) (i := 19) ch_cX12_tryRows_192 rfl)
theorem dX12_tryRows_212 : decode cX12_tryRows 212 = .ok (.iadd, 1) := do_96 (rdb (p := 192) (i := 20) ch_cX12_tryRows_192 rfl)
theorem dX12_tryRows_213 : decode cX12_tryRows 213 = .ok (.invokevirtual 317, 3) := do_182 (rdb (p := 192) (i := 21) ch_cX12_tryRows_192 rfl) (rdb (p := 192) (i := 22) ch_cX12_tryRows_192 rfl) (rdb (p := 192) (i := 23) ch_cX12_tryRows_192 rfl) rfl
theorem dX12_tryRows_216 : decode cX12_tryRows 216 = .ok (.iinc 6 1, 3) := do_132 (rdb (p := 192) (i := 24) ch_cX12_tryRows_192 rfl) (rdb (p := 192) (i := 25) ch_cX12_tryRows_192 rfl) (rdb (p := 192) (i := 26) ch_cX12_tryRows_192 rfl) (by decide +kernel)
theorem dX12_tryRows_219 : decode cX12_tryRows 219 = .ok (.goto (-133), 3) := do_167 (rdb (p := 192) (i := 27) ch_cX12_tryRows_192 rfl) (rdb (p := 192) (i := 28) ch_cX12_tryRows_192 rfl) (rdb (p := 192) (i := 29) ch_cX12_tryRows_192 rfl) (by decide +kernel)
theorem dX12_tryRows_222 : decode cX12_tryRows 222 = .ok (.return_, 1) := do_177 (rdb (p := 192) (i := 30) ch_cX12_tryRows_192 rfl)
end
