section
def S_tryD : rf → Nat → Prop := fun c k => (c.1 = 12 ∧ c.2.1 = 0 ∧ k = 22) ∨ (c.1 = 12 ∧ c.2.1 = 0 ∧ k = 23) ∨ (c.1 = 62 ∧ c.2.1 = 0) ∨ (c.1 = 63 ∧ c.2.1 = 0) ∨ False
def TRYD (l : Launch) (G : va_G) (cy : Nat → ClassId) (ad : rf → Nat) (N m : Nat) (Q : Int32 → Int32 → Int32 → Int32 → Int32 → mM → mM → Prop) : Prop := ∀ (d : Nat) (v u t s q : Int32) (Mz : mM) (hIz : InvD Mz) (hk : v.toInt + ((m : Nat) : Int) = 7) (hm : frb u = m) (h7 : m ≤ 7), WP DD l G cy ad yX12_tryRows cX12_tryRows 7 none (N + d) 0 [(0, vR (12, 0, 0)), (1, vI v), (2, vI u), (3, vI t), (4, vI s), (5, vI q)] [] Mz (fun r M' => InvD M' ∧ FR (S_tryD) Mz M' ∧ (True) ∧ Q v u t s q Mz M')
def ST_X12_tryRows_86 (m : Nat) (QR : Int32 → Int32 → Int32 → Int32 → Int32 → mM → mM → Prop) (v : Int32) (u : Int32) (t : Int32) (s : Int32) (q : Int32) (Mz : mM) (v6_86 : Int32) (M_86 : mM) (v6_86y : Int32) (M_86y : mM) : Prop := (0 ≤ v6_86.toInt) ∧ (InvD M_86) ∧ (FR (S_tryD) Mz M_86) ∧ ∃ z7_ : Int32, (z7_ = M_86.1 (50, 0, 0) 3) ∧ (0 ≤ z7_.toInt ∧ z7_.toInt ≤ 7) ∧ (v6_86.toInt < z7_.toInt) ∧ ∃ z11_ : Int32, (z11_ = u >>> (v6_86 &&& 31)) ∧ ∃ z13_ : Int32, (z13_ = z11_ &&& (1 : Int32)) ∧ (((¬ z13_.toInt = 0) ∧ ∃ z16_ : Int32, (z16_.toInt = v6_86.toInt + 1) ∧ v6_86y = z16_ ∧ M_86y = M_86) ∨ ((z13_.toInt = 0) ∧ ∃ z18_ : Int32, (z18_.toInt = 3 * v6_86.toInt) ∧ ∃ z20_ : Int32, (z20_.toInt = 252 + z18_.toInt) ∧ ∃ z22_ : Int32, (z22_.toInt = z20_.toInt + 1) ∧ ∃ j26_ : Nat, ((j26_ : Int) = z22_.toInt) ∧ ∃ z24_ : Int32, (z24_ = M_86.1 (50, 0, 0) j26_) ∧ ∃ z28_ : Int32, (z28_ = t ^^^ ((-1) : Int32)) ∧ ∃ z30_ : Int32, (z30_ = z24_ &&& z28_) ∧ (((¬ z30_.toInt = 0) ∧ ∃ z33_ : Int32, (z33_.toInt = v6_86.toInt + 1) ∧ v6_86y = z33_ ∧ M_86y = M_86) ∨ ((z30_.toInt = 0) ∧ ∃ z35_ : Int32, (z35_ = M_86.1 (12, 0, 0) 22) ∧ (-1 ≤ z35_.toInt ∧ z35_.toInt ≤ 7) ∧ (((z35_.toInt < 0) ∧ (1 ≤ m) ∧ ∃ j43_ : Nat, ((j43_ : Int) = v.toInt) ∧ ∃ M41_ : mM, (M41_ = up M_86 (62, 0, 0) j43_ v6_86) ∧ ∃ z47_ : Int32, (z47_.toInt = v.toInt + 1) ∧ ∃ z49_ : Int32, (z49_ = (1 : Int32) <<< (v6_86 &&& 31)) ∧ ∃ z51_ : Int32, (z51_ = u ||| z49_) ∧ ∃ z53_ : Int32, (z53_.toInt = 3 * v6_86.toInt) ∧ ∃ z55_ : Int32, (z55_.toInt = 252 + z53_.toInt) ∧ ∃ j59_ : Nat, ((j59_ : Int) = z55_.toInt) ∧ ∃ z57_ : Int32, (z57_ = M41_.1 (50, 0, 0) j59_) ∧ ∃ z61_ : Int32, (z61_ = t ||| z57_) ∧ ∃ z63_ : Int32, (z63_.toInt = 3 * v6_86.toInt) ∧ ∃ z65_ : Int32, (z65_.toInt = 252 + z63_.toInt) ∧ ∃ z67_ : Int32, (z67_.toInt = z65_.toInt + 2) ∧ ∃ j71_ : Nat, ((j71_ : Int) = z67_.toInt) ∧ ∃ z69_ : Int32, (z69_ = M41_.1 (50, 0, 0) j71_) ∧ ∃ z73_ : Int32, (z73_ = q + z69_) ∧ (InvD M41_) ∧ ∃ M75_ : mM, (InvD M75_) ∧ (FR (S_tryD) M41_ M75_) ∧ (QR z47_ z51_ z61_ s z73_ M41_ M75_) ∧ ∃ z82_ : Int32, (z82_.toInt = v6_86.toInt + 1) ∧ v6_86y = z82_ ∧ M_86y = M75_) ∨ ((0 ≤ z35_.toInt) ∧ ∃ z84_ : Int32, (z84_.toInt = 3 * v6_86.toInt) ∧ ∃ z86_ : Int32, (z86_.toInt = 252 + z84_.toInt) ∧ ∃ z88_ : Int32, (z88_.toInt = z86_.toInt + 2) ∧ ∃ j92_ : Nat, ((j92_ : Int) = z88_.toInt) ∧ ∃ z90_ : Int32, (z90_ = M_86.1 (50, 0, 0) j92_) ∧ ∃ z94_ : Int32, (z94_ = q + z90_) ∧ ∃ z96_ : Int32, (z96_ = M_86.1 (12, 0, 0) 23) ∧ (((z96_.toInt < z94_.toInt) ∧ ∃ z99_ : Int32, (z99_.toInt = v6_86.toInt + 1) ∧ v6_86y = z99_ ∧ M_86y = M_86) ∨ ((z94_.toInt ≤ z96_.toInt) ∧ (1 ≤ m) ∧ ∃ j105_ : Nat, ((j105_ : Int) = v.toInt) ∧ ∃ M103_ : mM, (M103_ = up M_86 (62, 0, 0) j105_ v6_86) ∧ ∃ z109_ : Int32, (z109_.toInt = v.toInt + 1) ∧ ∃ z111_ : Int32, (z111_ = (1 : Int32) <<< (v6_86 &&& 31)) ∧ ∃ z113_ : Int32, (z113_ = u ||| z111_) ∧ ∃ z115_ : Int32, (z115_.toInt = 3 * v6_86.toInt) ∧ ∃ z117_ : Int32, (z117_.toInt = 252 + z115_.toInt) ∧ ∃ j121_ : Nat, ((j121_ : Int) = z117_.toInt) ∧ ∃ z119_ : Int32, (z119_ = M103_.1 (50, 0, 0) j121_) ∧ ∃ z123_ : Int32, (z123_ = t ||| z119_) ∧ ∃ z125_ : Int32, (z125_.toInt = 3 * v6_86.toInt) ∧ ∃ z127_ : Int32, (z127_.toInt = 252 + z125_.toInt) ∧ ∃ z129_ : Int32, (z129_.toInt = z127_.toInt + 2) ∧ ∃ j133_ : Nat, ((j133_ : Int) = z129_.toInt) ∧ ∃ z131_ : Int32, (z131_ = M103_.1 (50, 0, 0) j133_) ∧ ∃ z135_ : Int32, (z135_ = q + z131_) ∧ (InvD M103_) ∧ ∃ M137_ : mM, (InvD M137_) ∧ (FR (S_tryD) M103_ M137_) ∧ (QR z109_ z113_ z123_ s z135_ M103_ M137_) ∧ ∃ z144_ : Int32, (z144_.toInt = v6_86.toInt + 1) ∧ v6_86y = z144_ ∧ M_86y = M137_))))))))
def ST_X12_tryRows_56 (v : Int32) (Mz : mM) (v6_56 : Int32) (M_56 : mM) (v6_56y : Int32) (M_56y : mM) : Prop := (0 ≤ v6_56.toInt) ∧ (InvD M_56) ∧ (FR (S_tryD) Mz M_56) ∧ (v6_56.toInt < v.toInt) ∧ ∃ j162_ : Nat, ((j162_ : Int) = v6_56.toInt) ∧ ∃ z160_ : Int32, (z160_ = M_56.1 (62, 0, 0) j162_) ∧ ∃ j166_ : Nat, ((j166_ : Int) = v6_56.toInt) ∧ ∃ M164_ : mM, (M164_ = up M_56 (63, 0, 0) j166_ z160_) ∧ ∃ z170_ : Int32, (z170_.toInt = v6_56.toInt + 1) ∧ v6_56y = z170_ ∧ M_56y = M164_
def ST_X12_tryRows_56b (v : Int32) (Mz : mM) (v6_56 : Int32) (M_56 : mM) (v6_56y : Int32) (M_56y : mM) : Prop := (0 ≤ v6_56.toInt) ∧ (InvD M_56) ∧ (FR (S_tryD) Mz M_56) ∧ (v6_56.toInt < v.toInt) ∧ ∃ j187_ : Nat, ((j187_ : Int) = v6_56.toInt) ∧ ∃ z185_ : Int32, (z185_ = M_56.1 (62, 0, 0) j187_) ∧ ∃ j191_ : Nat, ((j191_ : Int) = v6_56.toInt) ∧ ∃ M189_ : mM, (M189_ = up M_56 (63, 0, 0) j191_ z185_) ∧ ∃ z195_ : Int32, (z195_.toInt = v6_56.toInt + 1) ∧ v6_56y = z195_ ∧ M_56y = M189_
def ST_X12_tryRows_56c (v : Int32) (Mz : mM) (v6_56 : Int32) (M_56 : mM) (v6_56y : Int32) (M_56y : mM) : Prop := (0 ≤ v6_56.toInt) ∧ (InvD M_56) ∧ (FR (S_tryD) Mz M_56) ∧ (v6_56.toInt < v.toInt) ∧ ∃ j215_ : Nat, ((j215_ : Int) = v6_56.toInt) ∧ ∃ z213_ : Int32, (z213_ = M_56.1 (62, 0, 0) j215_) ∧ ∃ j219_ : Nat, ((j219_ : Int) = v6_56.toInt) ∧ ∃ M217_ : mM, (M217_ = up M_56 (63, 0, 0) j219_ z213_) ∧ ∃ z223_ : Int32, (z223_.toInt = v6_56.toInt + 1) ∧ v6_56y = z223_ ∧ M_56y = M217_
def SP_X12_tryRows (N : Nat) (m : Nat) (QR : Int32 → Int32 → Int32 → Int32 → Int32 → mM → mM → Prop) (v : Int32) (u : Int32) (t : Int32) (s : Int32) (q : Int32) (Mz : mM) (M_ : mM) : Prop := ∃ z1_ : Int32, (z1_ = t ^^^ ((-1) : Int32)) ∧ ∃ z3_ : Int32, (z3_ = s &&& z1_) ∧ (((¬ z3_.toInt = 0) ∧ ∃ v6_86 : Int32, (0 ≤ v6_86.toInt) ∧ ∃ M_86 : mM, (RCH (fun x_ y_ => ST_X12_tryRows_86 m QR v u t s q Mz x_.1 x_.2 y_.1 y_.2) ((0 : Int32), Mz) (v6_86, M_86)) ∧ (InvD M_86) ∧ (FR (S_tryD) Mz M_86) ∧ ∃ z7_ : Int32, (z7_ = M_86.1 (50, 0, 0) 3) ∧ (0 ≤ z7_.toInt ∧ z7_.toInt ≤ 7) ∧ (z7_.toInt ≤ v6_86.toInt) ∧ M_ = M_86) ∨ ((z3_.toInt = 0) ∧ ∃ z146_ : Int32, (z146_ = Mz.1 (12, 0, 0) 22) ∧ (-1 ≤ z146_.toInt ∧ z146_.toInt ≤ 7) ∧ (((z146_.toInt < 0) ∧ ∃ M150_ : mM, (M150_ = up Mz (12, 0, 0) 22 v) ∧ ∃ M154_ : mM, (M154_ = up M150_ (12, 0, 0) 23 q) ∧ ∃ v6_56 : Int32, (0 ≤ v6_56.toInt) ∧ ∃ M_56 : mM, (RCH (fun x_ y_ => ST_X12_tryRows_56 v Mz x_.1 x_.2 y_.1 y_.2) ((0 : Int32), M154_) (v6_56, M_56)) ∧ (InvD M_56) ∧ (FR (S_tryD) Mz M_56) ∧ (v.toInt ≤ v6_56.toInt) ∧ M_ = M_56) ∨ ((0 ≤ z146_.toInt) ∧ ∃ z172_ : Int32, (z172_ = Mz.1 (12, 0, 0) 23) ∧ (((q.toInt < z172_.toInt) ∧ ∃ M175_ : mM, (M175_ = up Mz (12, 0, 0) 22 v) ∧ ∃ M179_ : mM, (M179_ = up M175_ (12, 0, 0) 23 q) ∧ ∃ v6_56 : Int32, (0 ≤ v6_56.toInt) ∧ ∃ M_56 : mM, (RCH (fun x_ y_ => ST_X12_tryRows_56b v Mz x_.1 x_.2 y_.1 y_.2) ((0 : Int32), M179_) (v6_56, M_56)) ∧ (InvD M_56) ∧ (FR (S_tryD) Mz M_56) ∧ (v.toInt ≤ v6_56.toInt) ∧ M_ = M_56) ∨ ((z172_.toInt ≤ q.toInt) ∧ (((¬ q.toInt = z172_.toInt) ∧ M_ = Mz) ∨ ((q.toInt = z172_.toInt) ∧ (((z146_.toInt ≤ v.toInt) ∧ M_ = Mz) ∨ ((v.toInt < z146_.toInt) ∧ ∃ M203_ : mM, (M203_ = up Mz (12, 0, 0) 22 v) ∧ ∃ M207_ : mM, (M207_ = up M203_ (12, 0, 0) 23 q) ∧ ∃ v6_56 : Int32, (0 ≤ v6_56.toInt) ∧ ∃ M_56 : mM, (RCH (fun x_ y_ => ST_X12_tryRows_56c v Mz x_.1 x_.2 y_.1 y_.2) ((0 : Int32), M207_) (v6_56, M_56)) ∧ (InvD M_56) ∧ (FR (S_tryD) Mz M_56) ∧ (v.toInt ≤ v6_56.toInt) ∧ M_ = M_56))))))))))
theorem lf_c_X12_tryRows_0 (v6_86 : Int32) (z7_ : Int32) (hv0_86 : 0 ≤ v6_86.toInt) (h9_ : 0 ≤ z7_.toInt ∧ z7_.toInt ≤ 7) (h10_ : v6_86.toInt < z7_.toInt) : -2147483648 ≤ v6_86.toInt + 1 ∧ v6_86.toInt + 1 < 2147483648 := by omega
theorem lf_c_X12_tryRows_2 (v6_86 : Int32) (z7_ : Int32) (z16_ : Int32) (h9_ : 0 ≤ z7_.toInt ∧ z7_.toInt ≤ 7) (h10_ : v6_86.toInt < z7_.toInt) (h17_ : z16_.toInt = v6_86.toInt + 1) : (2147483648 - z16_.toInt).toNat < (2147483648 - v6_86.toInt).toNat := by omega
theorem lf_c_X12_tryRows_3 (v6_86 : Int32) (z7_ : Int32) (hv0_86 : 0 ≤ v6_86.toInt) (h9_ : 0 ≤ z7_.toInt ∧ z7_.toInt ≤ 7) (h10_ : v6_86.toInt < z7_.toInt) : -2147483648 ≤ 3 * v6_86.toInt ∧ 3 * v6_86.toInt < 2147483648 := by omega
theorem lf_c_X12_tryRows_4 (v6_86 : Int32) (z7_ : Int32) (z18_ : Int32) (hv0_86 : 0 ≤ v6_86.toInt) (h9_ : 0 ≤ z7_.toInt ∧ z7_.toInt ≤ 7) (h10_ : v6_86.toInt < z7_.toInt) (h19_ : z18_.toInt = 3 * v6_86.toInt) : -2147483648 ≤ 252 + z18_.toInt ∧ 252 + z18_.toInt < 2147483648 := by omega
theorem lf_c_X12_tryRows_5 (v6_86 : Int32) (z7_ : Int32) (z18_ : Int32) (z20_ : Int32) (hv0_86 : 0 ≤ v6_86.toInt) (h9_ : 0 ≤ z7_.toInt ∧ z7_.toInt ≤ 7) (h10_ : v6_86.toInt < z7_.toInt) (h19_ : z18_.toInt = 3 * v6_86.toInt) (h21_ : z20_.toInt = 252 + z18_.toInt) : -2147483648 ≤ z20_.toInt + 1 ∧ z20_.toInt + 1 < 2147483648 := by omega
theorem lf_c_X12_tryRows_6 (v6_86 : Int32) (z7_ : Int32) (z18_ : Int32) (z20_ : Int32) (z22_ : Int32) (hv0_86 : 0 ≤ v6_86.toInt) (h9_ : 0 ≤ z7_.toInt ∧ z7_.toInt ≤ 7) (h10_ : v6_86.toInt < z7_.toInt) (h19_ : z18_.toInt = 3 * v6_86.toInt) (h21_ : z20_.toInt = 252 + z18_.toInt) (h23_ : z22_.toInt = z20_.toInt + 1) : 0 ≤ z22_.toInt ∧ z22_.toInt < ((3567 : Nat) : Int) := by omega
theorem lf_c_X12_tryRows_7 (v6_86 : Int32) (z18_ : Int32) (hv0_86 : 0 ≤ v6_86.toInt) (h19_ : z18_.toInt = 3 * v6_86.toInt) : -2147483648 ≤ v6_86.toInt + 1 ∧ v6_86.toInt + 1 < 2147483648 := by have r_z18_ := rngI z18_; omega
theorem lf_c_X12_tryRows_9 (v6_86 : Int32) (z18_ : Int32) (z33_ : Int32) (h19_ : z18_.toInt = 3 * v6_86.toInt) (h34_ : z33_.toInt = v6_86.toInt + 1) : (2147483648 - z33_.toInt).toNat < (2147483648 - v6_86.toInt).toNat := by have r_z18_ := rngI z18_; omega
theorem lf_c_X12_tryRows_10 (z13_ : Int32) (h15_ : z13_.toInt = 0) : z13_.toInt = 0 := by omega
theorem lf_c_X12_tryRows_11 (v6_86 : Int32) (z7_ : Int32) (hv0_86 : 0 ≤ v6_86.toInt) (h9_ : 0 ≤ z7_.toInt ∧ z7_.toInt ≤ 7) (h10_ : v6_86.toInt < z7_.toInt) : 0 ≤ v6_86.toInt ∧ v6_86.toInt ≤ 6 := by omega
theorem lf_c_X12_tryRows_12 (m : Nat) (v : Int32) (hk : v.toInt + ((m : Nat) : Int) = 7) (h7 : m ≤ 7) (h40_ : 1 ≤ m) : 0 ≤ v.toInt ∧ v.toInt < ((7 : Nat) : Int) := by omega
theorem lf_c_X12_tryRows_13 (m : Nat) (v : Int32) (j43_ : Nat) (hk : v.toInt + ((m : Nat) : Int) = 7) (h40_ : 1 ≤ m) (h44_ : (j43_ : Int) = v.toInt) : -2147483648 ≤ v.toInt + 1 ∧ v.toInt + 1 < 2147483648 := by omega
theorem lf_c_X12_tryRows_14 (M41_ : mM) (M_86 : mM) (m : Nat) (v : Int32) (u : Int32) (v6_86 : Int32) (z7_ : Int32) (z18_ : Int32) (z20_ : Int32) (z22_ : Int32) (j26_ : Nat) (z24_ : Int32) (j43_ : Nat) (z47_ : Int32) (hk : v.toInt + ((m : Nat) : Int) = 7) (hm : frb u = m) (h7 : m ≤ 7) (hv0_86 : 0 ≤ v6_86.toInt) (e8_ : z7_ = M_86.1 (50, 0, 0) 3) (h9_ : 0 ≤ z7_.toInt ∧ z7_.toInt ≤ 7) (h10_ : v6_86.toInt < z7_.toInt) (h19_ : z18_.toInt = 3 * v6_86.toInt) (h21_ : z20_.toInt = 252 + z18_.toInt) (h23_ : z22_.toInt = z20_.toInt + 1) (h27_ : (j26_ : Int) = z22_.toInt) (e25_ : z24_ = M_86.1 (50, 0, 0) j26_) (h40_ : 1 ≤ m) (h44_ : (j43_ : Int) = v.toInt) (hM42_ : M41_ = up M_86 (62, 0, 0) j43_ v6_86) (h48_ : z47_.toInt = v.toInt + 1) : -2147483648 ≤ 3 * v6_86.toInt ∧ 3 * v6_86.toInt < 2147483648 := by have r_v := rngI v; have r_u := rngI u; have r_v6_86 := rngI v6_86; have r_z7_ := rngI z7_; have r_z18_ := rngI z18_; have r_z20_ := rngI z20_; have r_z22_ := rngI z22_; have r_z24_ := rngI z24_; have r_z47_ := rngI z47_; subst e8_; subst e25_; omega
theorem lf_c_X12_tryRows_16 (v6_86 : Int32) (z7_ : Int32) (z53_ : Int32) (z55_ : Int32) (hv0_86 : 0 ≤ v6_86.toInt) (h9_ : 0 ≤ z7_.toInt ∧ z7_.toInt ≤ 7) (h10_ : v6_86.toInt < z7_.toInt) (h54_ : z53_.toInt = 3 * v6_86.toInt) (h56_ : z55_.toInt = 252 + z53_.toInt) : 0 ≤ z55_.toInt ∧ z55_.toInt < ((3567 : Nat) : Int) := by omega
theorem lf_c_X12_tryRows_17 (M41_ : mM) (M_86 : mM) (m : Nat) (v : Int32) (u : Int32) (v6_86 : Int32) (z7_ : Int32) (z18_ : Int32) (z20_ : Int32) (z22_ : Int32) (j26_ : Nat) (z24_ : Int32) (j43_ : Nat) (z47_ : Int32) (z53_ : Int32) (z55_ : Int32) (j59_ : Nat) (z57_ : Int32) (hk : v.toInt + ((m : Nat) : Int) = 7) (hm : frb u = m) (h7 : m ≤ 7) (hv0_86 : 0 ≤ v6_86.toInt) (e8_ : z7_ = M_86.1 (50, 0, 0) 3) (h9_ : 0 ≤ z7_.toInt ∧ z7_.toInt ≤ 7) (h10_ : v6_86.toInt < z7_.toInt) (h19_ : z18_.toInt = 3 * v6_86.toInt) (h21_ : z20_.toInt = 252 + z18_.toInt) (h23_ : z22_.toInt = z20_.toInt + 1) (h27_ : (j26_ : Int) = z22_.toInt) (e25_ : z24_ = M_86.1 (50, 0, 0) j26_) (h40_ : 1 ≤ m) (h44_ : (j43_ : Int) = v.toInt) (hM42_ : M41_ = up M_86 (62, 0, 0) j43_ v6_86) (h48_ : z47_.toInt = v.toInt + 1) (h54_ : z53_.toInt = 3 * v6_86.toInt) (h56_ : z55_.toInt = 252 + z53_.toInt) (h60_ : (j59_ : Int) = z55_.toInt) (e58_ : z57_ = M41_.1 (50, 0, 0) j59_) : -2147483648 ≤ 3 * v6_86.toInt ∧ 3 * v6_86.toInt < 2147483648 := by have r_v := rngI v; have r_u := rngI u; have r_v6_86 := rngI v6_86; have r_z7_ := rngI z7_; have r_z18_ := rngI z18_; have r_z20_ := rngI z20_; have r_z22_ := rngI z22_; have r_z24_ := rngI z24_; have r_z47_ := rngI z47_; have r_z53_ := rngI z53_; have r_z55_ := rngI z55_; have r_z57_ := rngI z57_; subst e8_; subst e25_; subst e58_; omega
theorem lf_c_X12_tryRows_19 (v6_86 : Int32) (z7_ : Int32) (z63_ : Int32) (z65_ : Int32) (hv0_86 : 0 ≤ v6_86.toInt) (h9_ : 0 ≤ z7_.toInt ∧ z7_.toInt ≤ 7) (h10_ : v6_86.toInt < z7_.toInt) (h64_ : z63_.toInt = 3 * v6_86.toInt) (h66_ : z65_.toInt = 252 + z63_.toInt) : -2147483648 ≤ z65_.toInt + 2 ∧ z65_.toInt + 2 < 2147483648 := by omega
theorem lf_c_X12_tryRows_20 (v6_86 : Int32) (z7_ : Int32) (z63_ : Int32) (z65_ : Int32) (z67_ : Int32) (hv0_86 : 0 ≤ v6_86.toInt) (h9_ : 0 ≤ z7_.toInt ∧ z7_.toInt ≤ 7) (h10_ : v6_86.toInt < z7_.toInt) (h64_ : z63_.toInt = 3 * v6_86.toInt) (h66_ : z65_.toInt = 252 + z63_.toInt) (h68_ : z67_.toInt = z65_.toInt + 2) : 0 ≤ z67_.toInt ∧ z67_.toInt < ((3567 : Nat) : Int) := by omega
theorem lf_c_X12_tryRows_21 (m : Nat) (v : Int32) (z47_ : Int32) (hk : v.toInt + ((m : Nat) : Int) = 7) (h40_ : 1 ≤ m) (h48_ : z47_.toInt = v.toInt + 1) : z47_.toInt + (((m - 1) : Nat) : Int) = 7 := by omega
theorem lf_c_X12_tryRows_23 (m : Nat) (h40_ : 1 ≤ m) : m - 1 + 1 = m := by omega
theorem lf_c_X12_tryRows_31 (M_86 : mM) (v6_86 : Int32) (z7_ : Int32) (z18_ : Int32) (z20_ : Int32) (z22_ : Int32) (j26_ : Nat) (z24_ : Int32) (z84_ : Int32) (z86_ : Int32) (z88_ : Int32) (j92_ : Nat) (z90_ : Int32) (hv0_86 : 0 ≤ v6_86.toInt) (e8_ : z7_ = M_86.1 (50, 0, 0) 3) (h9_ : 0 ≤ z7_.toInt ∧ z7_.toInt ≤ 7) (h10_ : v6_86.toInt < z7_.toInt) (h19_ : z18_.toInt = 3 * v6_86.toInt) (h21_ : z20_.toInt = 252 + z18_.toInt) (h23_ : z22_.toInt = z20_.toInt + 1) (h27_ : (j26_ : Int) = z22_.toInt) (e25_ : z24_ = M_86.1 (50, 0, 0) j26_) (h85_ : z84_.toInt = 3 * v6_86.toInt) (h87_ : z86_.toInt = 252 + z84_.toInt) (h89_ : z88_.toInt = z86_.toInt + 2) (h93_ : (j92_ : Int) = z88_.toInt) (e91_ : z90_ = M_86.1 (50, 0, 0) j92_) : -2147483648 ≤ v6_86.toInt + 1 ∧ v6_86.toInt + 1 < 2147483648 := by have r_v6_86 := rngI v6_86; have r_z7_ := rngI z7_; have r_z18_ := rngI z18_; have r_z20_ := rngI z20_; have r_z22_ := rngI z22_; have r_z24_ := rngI z24_; have r_z84_ := rngI z84_; have r_z86_ := rngI z86_; have r_z88_ := rngI z88_; have r_z90_ := rngI z90_; subst e8_; subst e25_; subst e91_; omega
theorem lf_c_X12_tryRows_38 (M103_ : mM) (M_86 : mM) (m : Nat) (v : Int32) (u : Int32) (v6_86 : Int32) (z7_ : Int32) (z18_ : Int32) (z20_ : Int32) (z22_ : Int32) (j26_ : Nat) (z24_ : Int32) (z84_ : Int32) (z86_ : Int32) (z88_ : Int32) (j92_ : Nat) (z90_ : Int32) (j105_ : Nat) (z109_ : Int32) (hk : v.toInt + ((m : Nat) : Int) = 7) (hm : frb u = m) (h7 : m ≤ 7) (hv0_86 : 0 ≤ v6_86.toInt) (e8_ : z7_ = M_86.1 (50, 0, 0) 3) (h9_ : 0 ≤ z7_.toInt ∧ z7_.toInt ≤ 7) (h10_ : v6_86.toInt < z7_.toInt) (h19_ : z18_.toInt = 3 * v6_86.toInt) (h21_ : z20_.toInt = 252 + z18_.toInt) (h23_ : z22_.toInt = z20_.toInt + 1) (h27_ : (j26_ : Int) = z22_.toInt) (e25_ : z24_ = M_86.1 (50, 0, 0) j26_) (h85_ : z84_.toInt = 3 * v6_86.toInt) (h87_ : z86_.toInt = 252 + z84_.toInt) (h89_ : z88_.toInt = z86_.toInt + 2) (h93_ : (j92_ : Int) = z88_.toInt) (e91_ : z90_ = M_86.1 (50, 0, 0) j92_) (h102_ : 1 ≤ m) (h106_ : (j105_ : Int) = v.toInt) (hM104_ : M103_ = up M_86 (62, 0, 0) j105_ v6_86) (h110_ : z109_.toInt = v.toInt + 1) : -2147483648 ≤ 3 * v6_86.toInt ∧ 3 * v6_86.toInt < 2147483648 := by have r_v := rngI v; have r_u := rngI u; have r_v6_86 := rngI v6_86; have r_z7_ := rngI z7_; have r_z18_ := rngI z18_; have r_z20_ := rngI z20_; have r_z22_ := rngI z22_; have r_z24_ := rngI z24_; have r_z84_ := rngI z84_; have r_z86_ := rngI z86_; have r_z88_ := rngI z88_; have r_z90_ := rngI z90_; have r_z109_ := rngI z109_; subst e8_; subst e25_; subst e91_; omega
theorem lf_c_X12_tryRows_41 (M103_ : mM) (M_86 : mM) (m : Nat) (v : Int32) (u : Int32) (v6_86 : Int32) (z7_ : Int32) (z18_ : Int32) (z20_ : Int32) (z22_ : Int32) (j26_ : Nat) (z24_ : Int32) (z84_ : Int32) (z86_ : Int32) (z88_ : Int32) (j92_ : Nat) (z90_ : Int32) (j105_ : Nat) (z109_ : Int32) (z115_ : Int32) (z117_ : Int32) (j121_ : Nat) (z119_ : Int32) (hk : v.toInt + ((m : Nat) : Int) = 7) (hm : frb u = m) (h7 : m ≤ 7) (hv0_86 : 0 ≤ v6_86.toInt) (e8_ : z7_ = M_86.1 (50, 0, 0) 3) (h9_ : 0 ≤ z7_.toInt ∧ z7_.toInt ≤ 7) (h10_ : v6_86.toInt < z7_.toInt) (h19_ : z18_.toInt = 3 * v6_86.toInt) (h21_ : z20_.toInt = 252 + z18_.toInt) (h23_ : z22_.toInt = z20_.toInt + 1) (h27_ : (j26_ : Int) = z22_.toInt) (e25_ : z24_ = M_86.1 (50, 0, 0) j26_) (h85_ : z84_.toInt = 3 * v6_86.toInt) (h87_ : z86_.toInt = 252 + z84_.toInt) (h89_ : z88_.toInt = z86_.toInt + 2) (h93_ : (j92_ : Int) = z88_.toInt) (e91_ : z90_ = M_86.1 (50, 0, 0) j92_) (h102_ : 1 ≤ m) (h106_ : (j105_ : Int) = v.toInt) (hM104_ : M103_ = up M_86 (62, 0, 0) j105_ v6_86) (h110_ : z109_.toInt = v.toInt + 1) (h116_ : z115_.toInt = 3 * v6_86.toInt) (h118_ : z117_.toInt = 252 + z115_.toInt) (h122_ : (j121_ : Int) = z117_.toInt) (e120_ : z119_ = M103_.1 (50, 0, 0) j121_) : -2147483648 ≤ 3 * v6_86.toInt ∧ 3 * v6_86.toInt < 2147483648 := by have r_v := rngI v; have r_u := rngI u; have r_v6_86 := rngI v6_86; have r_z7_ := rngI z7_; have r_z18_ := rngI z18_; have r_z20_ := rngI z20_; have r_z22_ := rngI z22_; have r_z24_ := rngI z24_; have r_z84_ := rngI z84_; have r_z86_ := rngI z86_; have r_z88_ := rngI z88_; have r_z90_ := rngI z90_; have r_z109_ := rngI z109_; have r_z115_ := rngI z115_; have r_z117_ := rngI z117_; have r_z119_ := rngI z119_; subst e8_; subst e25_; subst e91_; subst e120_; omega
theorem lf_c_X12_tryRows_52 (m : Nat) (v : Int32) (hk : v.toInt + ((m : Nat) : Int) = 7) (h7 : m ≤ 7) : -1 ≤ v.toInt ∧ v.toInt ≤ 7 := by omega
theorem lf_c_X12_tryRows_53 (m : Nat) (v : Int32) (v6_56 : Int32) (hk : v.toInt + ((m : Nat) : Int) = 7) (hv0_56 : 0 ≤ v6_56.toInt) (h159_ : v6_56.toInt < v.toInt) : 0 ≤ v6_56.toInt ∧ v6_56.toInt < ((7 : Nat) : Int) := by omega
theorem lf_c_X12_tryRows_55 (m : Nat) (v : Int32) (v6_56 : Int32) (hk : v.toInt + ((m : Nat) : Int) = 7) (hv0_56 : 0 ≤ v6_56.toInt) (h159_ : v6_56.toInt < v.toInt) : -2147483648 ≤ v6_56.toInt + 1 ∧ v6_56.toInt + 1 < 2147483648 := by omega
theorem lf_c_X12_tryRows_57 (m : Nat) (v : Int32) (v6_56 : Int32) (z170_ : Int32) (hk : v.toInt + ((m : Nat) : Int) = 7) (h159_ : v6_56.toInt < v.toInt) (h171_ : z170_.toInt = v6_56.toInt + 1) : (2147483648 - z170_.toInt).toNat < (2147483648 - v6_56.toInt).toNat := by omega
theorem lf_c_X12_tryRows_66 (m : Nat) (v : Int32) (z146_ : Int32) (hk : v.toInt + ((m : Nat) : Int) = 7) (h7 : m ≤ 7) (h148_ : -1 ≤ z146_.toInt ∧ z146_.toInt ≤ 7) (h202_ : v.toInt < z146_.toInt) : -1 ≤ v.toInt ∧ v.toInt ≤ 7 := by omega
theorem lf_c_X12_tryRows_67 (v : Int32) (z146_ : Int32) (v6_56 : Int32) (h148_ : -1 ≤ z146_.toInt ∧ z146_.toInt ≤ 7) (h202_ : v.toInt < z146_.toInt) (hv0_56 : 0 ≤ v6_56.toInt) (h212_ : v6_56.toInt < v.toInt) : 0 ≤ v6_56.toInt ∧ v6_56.toInt < ((7 : Nat) : Int) := by omega
theorem lf_c_X12_tryRows_69 (v : Int32) (z146_ : Int32) (v6_56 : Int32) (h148_ : -1 ≤ z146_.toInt ∧ z146_.toInt ≤ 7) (h202_ : v.toInt < z146_.toInt) (hv0_56 : 0 ≤ v6_56.toInt) (h212_ : v6_56.toInt < v.toInt) : -2147483648 ≤ v6_56.toInt + 1 ∧ v6_56.toInt + 1 < 2147483648 := by omega
theorem lf_c_X12_tryRows_71 (v : Int32) (z146_ : Int32) (v6_56 : Int32) (z223_ : Int32) (h148_ : -1 ≤ z146_.toInt ∧ z146_.toInt ≤ 7) (h202_ : v.toInt < z146_.toInt) (h212_ : v6_56.toInt < v.toInt) (h224_ : z223_.toInt = v6_56.toInt + 1) : (2147483648 - z223_.toInt).toNat < (2147483648 - v6_56.toInt).toNat := by omega
set_option maxHeartbeats 4000000 in
set_option maxRecDepth 100000 in
theorem c_X12_tryRows (l : Launch) (G : va_G) (cy : Nat → ClassId) (ad : rf → Nat) (d : Nat) (N : Nat) (m : Nat) (QR : Int32 → Int32 → Int32 → Int32 → Int32 → mM → mM → Prop) (v : Int32) (u : Int32) (t : Int32) (s : Int32) (q : Int32) (Mz : mM) (hIz : InvD Mz) (hR : ∀ k : Nat, k + 1 = m → TRYD l G cy ad N k QR) (hk : v.toInt + ((m : Nat) : Int) = 7) (hm : frb u = m) (h7 : m ≤ 7) : WP DD l G cy ad yX12_tryRows cX12_tryRows 7 none ((N + d) + 1) 0 [(0, vR (12, 0, 0)), (1, vI v), (2, vI u), (3, vI t), (4, vI s), (5, vI q)] [] Mz (fun r M' => InvD M' ∧ FR (S_tryD) Mz M' ∧ (True) ∧ SP_X12_tryRows N m QR v u t s q Mz M') := by
  have hFz : FR (S_tryD) Mz Mz := FR.self
  refine w_iload dX12_tryRows_0 4 rfl ?_
  refine w_iload_n dX12_tryRows_2 rfl 3 rfl ?_
  refine w_iconst (v := (-1)) dX12_tryRows_3 (by decide) ?_
  refine w_ixor dX12_tryRows_4 (fun z1_ h2_ => ?_)
  refine w_iand dX12_tryRows_5 (fun z3_ h4_ => ?_)
  refine w_if_ne (tgt := 83) dX12_tryRows_6 (by decide) (rfl : z3_.toInt = z3_.toInt) (fun h5_ => ?_) (fun h5_ => ?_)
  · refine w_iconst (v := 0) dX12_tryRows_83 (by decide) ?_
    refine w_istore (ls' := [(6, vI 0), (0, vR (12, 0, 0)), (1, vI v), (2, vI u), (3, vI t), (4, vI s), (5, vI q)]) dX12_tryRows_84 (by decide) rfl ?_
    have lp6_ : ∀ (nn_86 : Nat) (M_86 : mM) (hI_86 : InvD M_86) (hF_86 : FR (S_tryD) Mz M_86) (v6_86 : Int32) (hv0_86 : 0 ≤ v6_86.toInt) (hL_86 : RCH (fun x_ y_ => ST_X12_tryRows_86 m QR v u t s q Mz x_.1 x_.2 y_.1 y_.2) ((0 : Int32), Mz) (v6_86, M_86)), (2147483648 - v6_86.toInt).toNat < nn_86 → WP DD l G cy ad yX12_tryRows cX12_tryRows 7 none ((N + d) + 1) 86 [(6, vI v6_86), (0, vR (12, 0, 0)), (1, vI v), (2, vI u), (3, vI t), (4, vI s), (5, vI q)] [] M_86 (fun r M' => InvD M' ∧ FR (S_tryD) Mz M' ∧ (True) ∧ SP_X12_tryRows N m QR v u t s q Mz M') := by
      intro nn_86
      induction nn_86 with
      | zero => intro M_86 hI_86 hF_86 v6_86 hv0_86 hL_86 hm_86; exact absurd hm_86 (Nat.not_lt_zero _)
      | succ nn_86 ih_86 =>
        intro M_86 hI_86 hF_86 v6_86 hv0_86 hL_86 hm_86
        refine w_iload dX12_tryRows_86 0 rfl ?_
        refine w_aload_n dX12_tryRows_88 rfl 1 rfl ?_
        refine w_getR (c' := (50, 0, 0)) fl_RX12_9 rfl rfl ic_12 dX12_tryRows_89 rfl ?_
        refine w_iconst (v := 3) dX12_tryRows_92 (by decide) ?_
        refine w_ialdL 3 rfl rfl ic_50 li_3 (by decide) dX12_tryRows_93 (fun z7_ e8_ => ?_)
        have h9_ : 0 ≤ z7_.toInt ∧ z7_.toInt ≤ 7 := pn_3 hI_86 e8_
        refine w_icmp_ge (tgt := 222) dX12_tryRows_94 (by decide) (rfl : v6_86.toInt = v6_86.toInt) (rfl : z7_.toInt = z7_.toInt) (fun h10_ => ?_) (fun h10_ => ?_)
        · exact w_vret rfl dX12_tryRows_222 ⟨hI_86, hF_86, trivial, ⟨z1_, h2_, z3_, h4_, (Or.inl ⟨h5_, v6_86, hv0_86, M_86, hL_86, hI_86, hF_86, z7_, e8_, h9_, h10_, rfl⟩)⟩⟩
        · refine w_iload_n dX12_tryRows_97 rfl 3 rfl ?_
          refine w_iload dX12_tryRows_98 0 rfl ?_
          refine w_ishr dX12_tryRows_100 (fun z11_ h12_ => ?_)
          refine w_iconst (v := 1) dX12_tryRows_101 (by decide) ?_
          refine w_iand dX12_tryRows_102 (fun z13_ h14_ => ?_)
          refine w_if_ne (tgt := 216) dX12_tryRows_103 (by decide) (rfl : z13_.toInt = z13_.toInt) (fun h15_ => ?_) (fun h15_ => ?_)
          · refine w_iincB (j := 0) (f := fun z16_ => [(6, vI z16_), (0, vR (12, 0, 0)), (1, vI v), (2, vI u), (3, vI t), (4, vI s), (5, vI q)]) dX12_tryRows_216 rfl (by decide) (fun _ => rfl) (rfl : v6_86.toInt = v6_86.toInt) li_1 (lf_c_X12_tryRows_0 v6_86 z7_ hv0_86 h9_ h10_ ) (fun z16_ h17_ => ?_)
            refine w_goto (tgt := 86) dX12_tryRows_219 (by decide) ?_
            refine w_loc (ls' := [(6, vI z16_), (0, vR (12, 0, 0)), (1, vI v), (2, vI u), (3, vI t), (4, vI s), (5, vI q)]) [0, 1, 2, 3, 4, 5, 6] rfl ?_
            exact ih_86 M_86 hI_86 hF_86 z16_ (lf_c_X5_takeFrom_3 v6_86 z16_ hv0_86 h17_ ) (RCH.tail hL_86 ⟨hv0_86, hI_86, hF_86, z7_, e8_, h9_, h10_, z11_, h12_, z13_, h14_, (Or.inl ⟨h15_, z16_, h17_, rfl, rfl⟩)⟩) (Nat.lt_of_lt_of_le (lf_c_X12_tryRows_2 v6_86 z7_ z16_ h9_ h10_ h17_ ) (Nat.le_of_lt_succ hm_86))
          · refine w_aload_n dX12_tryRows_106 rfl 1 rfl ?_
            refine w_getR (c' := (50, 0, 0)) fl_RX12_9 rfl rfl ic_12 dX12_tryRows_107 rfl ?_
            refine w_sipush (v := 252) dX12_tryRows_110 (by decide) ?_
            refine w_iconst (v := 3) dX12_tryRows_113 (by decide) ?_
            refine w_iload dX12_tryRows_114 0 rfl ?_
            refine w_imulB dX12_tryRows_116 li_3 (rfl : v6_86.toInt = v6_86.toInt) (lf_c_X12_tryRows_3 v6_86 z7_ hv0_86 h9_ h10_ ) (fun z18_ h19_ => ?_)
            refine w_iaddB dX12_tryRows_117 li_252 (rfl : z18_.toInt = z18_.toInt) (lf_c_X12_tryRows_4 v6_86 z7_ z18_ hv0_86 h9_ h10_ h19_ ) (fun z20_ h21_ => ?_)
            refine w_iconst (v := 1) dX12_tryRows_118 (by decide) ?_
            refine w_iaddB dX12_tryRows_119 (rfl : z20_.toInt = z20_.toInt) li_1 (lf_c_X12_tryRows_5 v6_86 z7_ z18_ z20_ hv0_86 h9_ h10_ h19_ h21_ ) (fun z22_ h23_ => ?_)
            refine w_iald rfl rfl ic_50 (rfl : z22_.toInt = z22_.toInt) (lf_c_X12_tryRows_6 v6_86 z7_ z18_ z20_ z22_ hv0_86 h9_ h10_ h19_ h21_ h23_ ) dX12_tryRows_120 (fun j26_ h27_ z24_ e25_ => ?_)
            refine w_iload_n dX12_tryRows_121 rfl 4 rfl ?_
            refine w_iconst (v := (-1)) dX12_tryRows_122 (by decide) ?_
            refine w_ixor dX12_tryRows_123 (fun z28_ h29_ => ?_)
            refine w_iand dX12_tryRows_124 (fun z30_ h31_ => ?_)
            refine w_if_ne (tgt := 216) dX12_tryRows_125 (by decide) (rfl : z30_.toInt = z30_.toInt) (fun h32_ => ?_) (fun h32_ => ?_)
            · refine w_iincB (j := 0) (f := fun z33_ => [(6, vI z33_), (0, vR (12, 0, 0)), (1, vI v), (2, vI u), (3, vI t), (4, vI s), (5, vI q)]) dX12_tryRows_216 rfl (by decide) (fun _ => rfl) (rfl : v6_86.toInt = v6_86.toInt) li_1 (lf_c_X12_tryRows_7 v6_86 z18_ hv0_86 h19_ ) (fun z33_ h34_ => ?_)
              refine w_goto (tgt := 86) dX12_tryRows_219 (by decide) ?_
              refine w_loc (ls' := [(6, vI z33_), (0, vR (12, 0, 0)), (1, vI v), (2, vI u), (3, vI t), (4, vI s), (5, vI q)]) [0, 1, 2, 3, 4, 5, 6] rfl ?_
              exact ih_86 M_86 hI_86 hF_86 z33_ (lf_c_X5_takeFrom_3 v6_86 z33_ hv0_86 h34_ ) (RCH.tail hL_86 ⟨hv0_86, hI_86, hF_86, z7_, e8_, h9_, h10_, z11_, h12_, z13_, h14_, (Or.inr ⟨h15_, z18_, h19_, z20_, h21_, z22_, h23_, j26_, h27_, z24_, e25_, z28_, h29_, z30_, h31_, (Or.inl ⟨h32_, z33_, h34_, rfl, rfl⟩)⟩)⟩) (Nat.lt_of_lt_of_le (lf_c_X12_tryRows_9 v6_86 z18_ z33_ h19_ h34_ ) (Nat.le_of_lt_succ hm_86))
            · refine w_aload_n dX12_tryRows_128 rfl 1 rfl ?_
              refine w_getI fl_RX12_311 rfl rfl ic_12 dX12_tryRows_129 (fun z35_ e36_ => ?_)
              have h37_ : -1 ≤ z35_.toInt ∧ z35_.toInt ≤ 7 := ofEq (P := fun v => -1 ≤ v.toInt ∧ v.toInt ≤ 7) e36_ (hI_86.1 (12, 0, 0) 22)
              refine w_if_lt (tgt := 160) dX12_tryRows_132 (by decide) (rfl : z35_.toInt = z35_.toInt) (fun h38_ => ?_) (fun h38_ => ?_)
              · have h39_ : frb (u ||| ((1 : Int32) <<< (v6_86 &&& 31))) + 1 = m := by
                  have q9 : ((u >>> (v6_86 &&& 31)) &&& 1).toInt = 0 := by rw [← h12_, ← h14_]; exact (lf_c_X12_tryRows_10 z13_ h15_ )
                  rw [frb_step (lf_c_X12_tryRows_11 v6_86 z7_ hv0_86 h9_ h10_ ) q9]; exact hm
                have h40_ : 1 ≤ m := by omega
                refine w_aload_n dX12_tryRows_160 rfl 1 rfl ?_
                refine w_getR (c' := (62, 0, 0)) fl_RX12_60 rfl rfl ic_12 dX12_tryRows_161 rfl ?_
                refine w_iload_n dX12_tryRows_164 rfl 2 rfl ?_
                refine w_iload dX12_tryRows_165 0 rfl ?_
                refine w_iast DD_nd rfl rfl ic_62 (rfl : v.toInt = v.toInt) (lf_c_X12_tryRows_12 m v hk h7 h40_ ) dX12_tryRows_167 (fun j43_ h44_ M41_ hM42_ => ?_)
                have hI45_ := hI_86.put hM42_ ⟨trivial, Or.inr (by decide)⟩
                have hF46_ := hF_86.put hM42_ (Or.inr (Or.inr (Or.inl ⟨rfl, rfl⟩)))
                refine w_aload_n dX12_tryRows_168 rfl 1 rfl ?_
                refine w_iload_n dX12_tryRows_169 rfl 2 rfl ?_
                refine w_iconst (v := 1) dX12_tryRows_170 (by decide) ?_
                refine w_iaddB dX12_tryRows_171 (rfl : v.toInt = v.toInt) li_1 (lf_c_X12_tryRows_13 m v j43_ hk h40_ h44_ ) (fun z47_ h48_ => ?_)
                refine w_iload_n dX12_tryRows_172 rfl 3 rfl ?_
                refine w_iconst (v := 1) dX12_tryRows_173 (by decide) ?_
                refine w_iload dX12_tryRows_174 0 rfl ?_
                refine w_ishl dX12_tryRows_176 (fun z49_ h50_ => ?_)
                refine w_ior dX12_tryRows_177 (fun z51_ h52_ => ?_)
                refine w_iload_n dX12_tryRows_178 rfl 4 rfl ?_
                refine w_aload_n dX12_tryRows_179 rfl 1 rfl ?_
                refine w_getR (c' := (50, 0, 0)) fl_RX12_9 rfl rfl ic_12 dX12_tryRows_180 rfl ?_
                refine w_sipush (v := 252) dX12_tryRows_183 (by decide) ?_
                refine w_iconst (v := 3) dX12_tryRows_186 (by decide) ?_
                refine w_iload dX12_tryRows_187 0 rfl ?_
                refine w_imulB dX12_tryRows_189 li_3 (rfl : v6_86.toInt = v6_86.toInt) (lf_c_X12_tryRows_14 M41_ M_86 m v u v6_86 z7_ z18_ z20_ z22_ j26_ z24_ j43_ z47_ hk hm h7 hv0_86 e8_ h9_ h10_ h19_ h21_ h23_ h27_ e25_ h40_ h44_ hM42_ h48_ ) (fun z53_ h54_ => ?_)
                refine w_iaddB dX12_tryRows_190 li_252 (rfl : z53_.toInt = z53_.toInt) (lf_c_X12_tryRows_4 v6_86 z7_ z53_ hv0_86 h9_ h10_ h54_ ) (fun z55_ h56_ => ?_)
                refine w_iald rfl rfl ic_50 (rfl : z55_.toInt = z55_.toInt) (lf_c_X12_tryRows_16 v6_86 z7_ z53_ z55_ hv0_86 h9_ h10_ h54_ h56_ ) dX12_tryRows_191 (fun j59_ h60_ z57_ e58_ => ?_)
                refine w_ior dX12_tryRows_192 (fun z61_ h62_ => ?_)
                refine w_iload dX12_tryRows_193 5 rfl ?_
                refine w_iload dX12_tryRows_195 6 rfl ?_
                refine w_aload_n dX12_tryRows_197 rfl 1 rfl ?_
                refine w_getR (c' := (50, 0, 0)) fl_RX12_9 rfl rfl ic_12 dX12_tryRows_198 rfl ?_
                refine w_sipush (v := 252) dX12_tryRows_201 (by decide) ?_
                refine w_iconst (v := 3) dX12_tryRows_204 (by decide) ?_
                refine w_iload dX12_tryRows_205 0 rfl ?_
                refine w_imulB dX12_tryRows_207 li_3 (rfl : v6_86.toInt = v6_86.toInt) (lf_c_X12_tryRows_17 M41_ M_86 m v u v6_86 z7_ z18_ z20_ z22_ j26_ z24_ j43_ z47_ z53_ z55_ j59_ z57_ hk hm h7 hv0_86 e8_ h9_ h10_ h19_ h21_ h23_ h27_ e25_ h40_ h44_ hM42_ h48_ h54_ h56_ h60_ e58_ ) (fun z63_ h64_ => ?_)
                refine w_iaddB dX12_tryRows_208 li_252 (rfl : z63_.toInt = z63_.toInt) (lf_c_X12_tryRows_4 v6_86 z7_ z63_ hv0_86 h9_ h10_ h64_ ) (fun z65_ h66_ => ?_)
                refine w_iconst (v := 2) dX12_tryRows_209 (by decide) ?_
                refine w_iaddB dX12_tryRows_210 (rfl : z65_.toInt = z65_.toInt) li_2 (lf_c_X12_tryRows_19 v6_86 z7_ z63_ z65_ hv0_86 h9_ h10_ h64_ h66_ ) (fun z67_ h68_ => ?_)
                refine w_iald rfl rfl ic_50 (rfl : z67_.toInt = z67_.toInt) (lf_c_X12_tryRows_20 v6_86 z7_ z63_ z65_ z67_ hv0_86 h9_ h10_ h64_ h66_ h68_ ) dX12_tryRows_211 (fun j71_ h72_ z69_ e70_ => ?_)
                refine w_iadd dX12_tryRows_212 (fun z73_ h74_ => ?_)
                refine w_callVv (as := [vI z47_, vI z51_, vI z61_, vI s, vI z73_]) (rest := []) (hR (m - 1) (lf_c_X12_tryRows_23 m h40_ ) d z47_ z51_ z61_ s z73_ M41_ hI45_ (lf_c_X12_tryRows_21 m v z47_ hk h40_ h48_ ) (by rw [h52_, h50_]; omega) (lf_c_X3_tryRows_16 m h7 )) kV_X12_tryRows pnn_17 (Nat.le_of_ble_eq_true rfl) m_1787 rfl rfl rfl ic_12 rfl rfl (by decide) (Nat.le_of_ble_eq_true rfl) dX12_tryRows_213 (fun M75_ q76_ => ?_)
                obtain ⟨hI78_, hF79_, h77_, hs81_⟩ := q76_
                have hF80_ := hF46_.tr hF79_ (fun c k => (fun h => h.elim (fun h => (Or.inl ⟨h.1, h.2.1, h.2.2⟩)) (fun h => h.elim (fun h => (Or.inr (Or.inl ⟨h.1, h.2.1, h.2.2⟩))) (fun h => h.elim (fun h => (Or.inr (Or.inr (Or.inl ⟨h.1, h.2⟩)))) (fun h => h.elim (fun h => (Or.inr (Or.inr (Or.inr (Or.inl ⟨h.1, h.2⟩))))) (fun h => h.elim))))))
                refine w_iincB (j := 0) (f := fun z82_ => [(6, vI z82_), (0, vR (12, 0, 0)), (1, vI v), (2, vI u), (3, vI t), (4, vI s), (5, vI q)]) dX12_tryRows_216 rfl (by decide) (fun _ => rfl) (rfl : v6_86.toInt = v6_86.toInt) li_1 (lf_c_X12_tryRows_7 v6_86 z53_ hv0_86 h54_ ) (fun z82_ h83_ => ?_)
                refine w_goto (tgt := 86) dX12_tryRows_219 (by decide) ?_
                refine w_loc (ls' := [(6, vI z82_), (0, vR (12, 0, 0)), (1, vI v), (2, vI u), (3, vI t), (4, vI s), (5, vI q)]) [0, 1, 2, 3, 4, 5, 6] rfl ?_
                exact ih_86 M75_ hI78_ hF80_ z82_ (lf_c_X5_takeFrom_3 v6_86 z82_ hv0_86 h83_ ) (RCH.tail hL_86 ⟨hv0_86, hI_86, hF_86, z7_, e8_, h9_, h10_, z11_, h12_, z13_, h14_, (Or.inr ⟨h15_, z18_, h19_, z20_, h21_, z22_, h23_, j26_, h27_, z24_, e25_, z28_, h29_, z30_, h31_, (Or.inr ⟨h32_, z35_, e36_, h37_, (Or.inl ⟨h38_, h40_, j43_, h44_, M41_, hM42_, z47_, h48_, z49_, h50_, z51_, h52_, z53_, h54_, z55_, h56_, j59_, h60_, z57_, e58_, z61_, h62_, z63_, h64_, z65_, h66_, z67_, h68_, j71_, h72_, z69_, e70_, z73_, h74_, hI45_, M75_, hI78_, hF79_, hs81_, z82_, h83_, rfl, rfl⟩)⟩)⟩)⟩) (Nat.lt_of_lt_of_le (lf_c_X12_tryRows_9 v6_86 z18_ z82_ h19_ h83_ ) (Nat.le_of_lt_succ hm_86))
              · refine w_iload dX12_tryRows_135 6 rfl ?_
                refine w_aload_n dX12_tryRows_137 rfl 1 rfl ?_
                refine w_getR (c' := (50, 0, 0)) fl_RX12_9 rfl rfl ic_12 dX12_tryRows_138 rfl ?_
                refine w_sipush (v := 252) dX12_tryRows_141 (by decide) ?_
                refine w_iconst (v := 3) dX12_tryRows_144 (by decide) ?_
                refine w_iload dX12_tryRows_145 0 rfl ?_
                refine w_imulB dX12_tryRows_147 li_3 (rfl : v6_86.toInt = v6_86.toInt) (lf_c_X12_tryRows_3 v6_86 z7_ hv0_86 h9_ h10_ ) (fun z84_ h85_ => ?_)
                refine w_iaddB dX12_tryRows_148 li_252 (rfl : z84_.toInt = z84_.toInt) (lf_c_X12_tryRows_4 v6_86 z7_ z84_ hv0_86 h9_ h10_ h85_ ) (fun z86_ h87_ => ?_)
                refine w_iconst (v := 2) dX12_tryRows_149 (by decide) ?_
                refine w_iaddB dX12_tryRows_150 (rfl : z86_.toInt = z86_.toInt) li_2 (lf_c_X12_tryRows_19 v6_86 z7_ z84_ z86_ hv0_86 h9_ h10_ h85_ h87_ ) (fun z88_ h89_ => ?_)
                refine w_iald rfl rfl ic_50 (rfl : z88_.toInt = z88_.toInt) (lf_c_X12_tryRows_20 v6_86 z7_ z84_ z86_ z88_ hv0_86 h9_ h10_ h85_ h87_ h89_ ) dX12_tryRows_151 (fun j92_ h93_ z90_ e91_ => ?_)
                refine w_iadd dX12_tryRows_152 (fun z94_ h95_ => ?_)
                refine w_aload_n dX12_tryRows_153 rfl 1 rfl ?_
                refine w_getI fl_RX12_314 rfl rfl ic_12 dX12_tryRows_154 (fun z96_ e97_ => ?_)
                refine w_icmp_gt (tgt := 216) dX12_tryRows_157 (by decide) (rfl : z94_.toInt = z94_.toInt) (rfl : z96_.toInt = z96_.toInt) (fun h98_ => ?_) (fun h98_ => ?_)
                · refine w_iincB (j := 0) (f := fun z99_ => [(6, vI z99_), (0, vR (12, 0, 0)), (1, vI v), (2, vI u), (3, vI t), (4, vI s), (5, vI q)]) dX12_tryRows_216 rfl (by decide) (fun _ => rfl) (rfl : v6_86.toInt = v6_86.toInt) li_1 (lf_c_X12_tryRows_31 M_86 v6_86 z7_ z18_ z20_ z22_ j26_ z24_ z84_ z86_ z88_ j92_ z90_ hv0_86 e8_ h9_ h10_ h19_ h21_ h23_ h27_ e25_ h85_ h87_ h89_ h93_ e91_ ) (fun z99_ h100_ => ?_)
                  refine w_goto (tgt := 86) dX12_tryRows_219 (by decide) ?_
                  refine w_loc (ls' := [(6, vI z99_), (0, vR (12, 0, 0)), (1, vI v), (2, vI u), (3, vI t), (4, vI s), (5, vI q)]) [0, 1, 2, 3, 4, 5, 6] rfl ?_
                  exact ih_86 M_86 hI_86 hF_86 z99_ (lf_c_X5_takeFrom_3 v6_86 z99_ hv0_86 h100_ ) (RCH.tail hL_86 ⟨hv0_86, hI_86, hF_86, z7_, e8_, h9_, h10_, z11_, h12_, z13_, h14_, (Or.inr ⟨h15_, z18_, h19_, z20_, h21_, z22_, h23_, j26_, h27_, z24_, e25_, z28_, h29_, z30_, h31_, (Or.inr ⟨h32_, z35_, e36_, h37_, (Or.inr ⟨h38_, z84_, h85_, z86_, h87_, z88_, h89_, j92_, h93_, z90_, e91_, z94_, h95_, z96_, e97_, (Or.inl ⟨h98_, z99_, h100_, rfl, rfl⟩)⟩)⟩)⟩)⟩) (Nat.lt_of_lt_of_le (lf_c_X12_tryRows_9 v6_86 z18_ z99_ h19_ h100_ ) (Nat.le_of_lt_succ hm_86))
                · have h101_ : frb (u ||| ((1 : Int32) <<< (v6_86 &&& 31))) + 1 = m := by
                    have q9 : ((u >>> (v6_86 &&& 31)) &&& 1).toInt = 0 := by rw [← h12_, ← h14_]; exact (lf_c_X12_tryRows_10 z13_ h15_ )
                    rw [frb_step (lf_c_X12_tryRows_11 v6_86 z7_ hv0_86 h9_ h10_ ) q9]; exact hm
                  have h102_ : 1 ≤ m := by omega
                  refine w_aload_n dX12_tryRows_160 rfl 1 rfl ?_
                  refine w_getR (c' := (62, 0, 0)) fl_RX12_60 rfl rfl ic_12 dX12_tryRows_161 rfl ?_
                  refine w_iload_n dX12_tryRows_164 rfl 2 rfl ?_
                  refine w_iload dX12_tryRows_165 0 rfl ?_
                  refine w_iast DD_nd rfl rfl ic_62 (rfl : v.toInt = v.toInt) (lf_c_X12_tryRows_12 m v hk h7 h102_ ) dX12_tryRows_167 (fun j105_ h106_ M103_ hM104_ => ?_)
                  have hI107_ := hI_86.put hM104_ ⟨trivial, Or.inr (by decide)⟩
                  have hF108_ := hF_86.put hM104_ (Or.inr (Or.inr (Or.inl ⟨rfl, rfl⟩)))
                  refine w_aload_n dX12_tryRows_168 rfl 1 rfl ?_
                  refine w_iload_n dX12_tryRows_169 rfl 2 rfl ?_
                  refine w_iconst (v := 1) dX12_tryRows_170 (by decide) ?_
                  refine w_iaddB dX12_tryRows_171 (rfl : v.toInt = v.toInt) li_1 (lf_c_X12_tryRows_13 m v j105_ hk h102_ h106_ ) (fun z109_ h110_ => ?_)
                  refine w_iload_n dX12_tryRows_172 rfl 3 rfl ?_
                  refine w_iconst (v := 1) dX12_tryRows_173 (by decide) ?_
                  refine w_iload dX12_tryRows_174 0 rfl ?_
                  refine w_ishl dX12_tryRows_176 (fun z111_ h112_ => ?_)
                  refine w_ior dX12_tryRows_177 (fun z113_ h114_ => ?_)
                  refine w_iload_n dX12_tryRows_178 rfl 4 rfl ?_
                  refine w_aload_n dX12_tryRows_179 rfl 1 rfl ?_
                  refine w_getR (c' := (50, 0, 0)) fl_RX12_9 rfl rfl ic_12 dX12_tryRows_180 rfl ?_
                  refine w_sipush (v := 252) dX12_tryRows_183 (by decide) ?_
                  refine w_iconst (v := 3) dX12_tryRows_186 (by decide) ?_
                  refine w_iload dX12_tryRows_187 0 rfl ?_
                  refine w_imulB dX12_tryRows_189 li_3 (rfl : v6_86.toInt = v6_86.toInt) (lf_c_X12_tryRows_38 M103_ M_86 m v u v6_86 z7_ z18_ z20_ z22_ j26_ z24_ z84_ z86_ z88_ j92_ z90_ j105_ z109_ hk hm h7 hv0_86 e8_ h9_ h10_ h19_ h21_ h23_ h27_ e25_ h85_ h87_ h89_ h93_ e91_ h102_ h106_ hM104_ h110_ ) (fun z115_ h116_ => ?_)
                  refine w_iaddB dX12_tryRows_190 li_252 (rfl : z115_.toInt = z115_.toInt) (lf_c_X12_tryRows_4 v6_86 z7_ z115_ hv0_86 h9_ h10_ h116_ ) (fun z117_ h118_ => ?_)
                  refine w_iald rfl rfl ic_50 (rfl : z117_.toInt = z117_.toInt) (lf_c_X12_tryRows_16 v6_86 z7_ z115_ z117_ hv0_86 h9_ h10_ h116_ h118_ ) dX12_tryRows_191 (fun j121_ h122_ z119_ e120_ => ?_)
                  refine w_ior dX12_tryRows_192 (fun z123_ h124_ => ?_)
                  refine w_iload dX12_tryRows_193 5 rfl ?_
                  refine w_iload dX12_tryRows_195 6 rfl ?_
                  refine w_aload_n dX12_tryRows_197 rfl 1 rfl ?_
                  refine w_getR (c' := (50, 0, 0)) fl_RX12_9 rfl rfl ic_12 dX12_tryRows_198 rfl ?_
                  refine w_sipush (v := 252) dX12_tryRows_201 (by decide) ?_
                  refine w_iconst (v := 3) dX12_tryRows_204 (by decide) ?_
                  refine w_iload dX12_tryRows_205 0 rfl ?_
                  refine w_imulB dX12_tryRows_207 li_3 (rfl : v6_86.toInt = v6_86.toInt) (lf_c_X12_tryRows_41 M103_ M_86 m v u v6_86 z7_ z18_ z20_ z22_ j26_ z24_ z84_ z86_ z88_ j92_ z90_ j105_ z109_ z115_ z117_ j121_ z119_ hk hm h7 hv0_86 e8_ h9_ h10_ h19_ h21_ h23_ h27_ e25_ h85_ h87_ h89_ h93_ e91_ h102_ h106_ hM104_ h110_ h116_ h118_ h122_ e120_ ) (fun z125_ h126_ => ?_)
                  refine w_iaddB dX12_tryRows_208 li_252 (rfl : z125_.toInt = z125_.toInt) (lf_c_X12_tryRows_4 v6_86 z7_ z125_ hv0_86 h9_ h10_ h126_ ) (fun z127_ h128_ => ?_)
                  refine w_iconst (v := 2) dX12_tryRows_209 (by decide) ?_
                  refine w_iaddB dX12_tryRows_210 (rfl : z127_.toInt = z127_.toInt) li_2 (lf_c_X12_tryRows_19 v6_86 z7_ z125_ z127_ hv0_86 h9_ h10_ h126_ h128_ ) (fun z129_ h130_ => ?_)
                  refine w_iald rfl rfl ic_50 (rfl : z129_.toInt = z129_.toInt) (lf_c_X12_tryRows_20 v6_86 z7_ z125_ z127_ z129_ hv0_86 h9_ h10_ h126_ h128_ h130_ ) dX12_tryRows_211 (fun j133_ h134_ z131_ e132_ => ?_)
                  refine w_iadd dX12_tryRows_212 (fun z135_ h136_ => ?_)
                  refine w_callVv (as := [vI z109_, vI z113_, vI z123_, vI s, vI z135_]) (rest := []) (hR (m - 1) (lf_c_X12_tryRows_23 m h102_ ) d z109_ z113_ z123_ s z135_ M103_ hI107_ (lf_c_X12_tryRows_21 m v z109_ hk h102_ h110_ ) (by rw [h114_, h112_]; omega) (lf_c_X3_tryRows_16 m h7 )) kV_X12_tryRows pnn_17 (Nat.le_of_ble_eq_true rfl) m_1787 rfl rfl rfl ic_12 rfl rfl (by decide) (Nat.le_of_ble_eq_true rfl) dX12_tryRows_213 (fun M137_ q138_ => ?_)
                  obtain ⟨hI140_, hF141_, h139_, hs143_⟩ := q138_
                  have hF142_ := hF108_.tr hF141_ (fun c k => (fun h => h.elim (fun h => (Or.inl ⟨h.1, h.2.1, h.2.2⟩)) (fun h => h.elim (fun h => (Or.inr (Or.inl ⟨h.1, h.2.1, h.2.2⟩))) (fun h => h.elim (fun h => (Or.inr (Or.inr (Or.inl ⟨h.1, h.2⟩)))) (fun h => h.elim (fun h => (Or.inr (Or.inr (Or.inr (Or.inl ⟨h.1, h.2⟩))))) (fun h => h.elim))))))
                  refine w_iincB (j := 0) (f := fun z144_ => [(6, vI z144_), (0, vR (12, 0, 0)), (1, vI v), (2, vI u), (3, vI t), (4, vI s), (5, vI q)]) dX12_tryRows_216 rfl (by decide) (fun _ => rfl) (rfl : v6_86.toInt = v6_86.toInt) li_1 (lf_c_X12_tryRows_7 v6_86 z115_ hv0_86 h116_ ) (fun z144_ h145_ => ?_)
                  refine w_goto (tgt := 86) dX12_tryRows_219 (by decide) ?_
                  refine w_loc (ls' := [(6, vI z144_), (0, vR (12, 0, 0)), (1, vI v), (2, vI u), (3, vI t), (4, vI s), (5, vI q)]) [0, 1, 2, 3, 4, 5, 6] rfl ?_
                  exact ih_86 M137_ hI140_ hF142_ z144_ (lf_c_X5_takeFrom_3 v6_86 z144_ hv0_86 h145_ ) (RCH.tail hL_86 ⟨hv0_86, hI_86, hF_86, z7_, e8_, h9_, h10_, z11_, h12_, z13_, h14_, (Or.inr ⟨h15_, z18_, h19_, z20_, h21_, z22_, h23_, j26_, h27_, z24_, e25_, z28_, h29_, z30_, h31_, (Or.inr ⟨h32_, z35_, e36_, h37_, (Or.inr ⟨h38_, z84_, h85_, z86_, h87_, z88_, h89_, j92_, h93_, z90_, e91_, z94_, h95_, z96_, e97_, (Or.inr ⟨h98_, h102_, j105_, h106_, M103_, hM104_, z109_, h110_, z111_, h112_, z113_, h114_, z115_, h116_, z117_, h118_, j121_, h122_, z119_, e120_, z123_, h124_, z125_, h126_, z127_, h128_, z129_, h130_, j133_, h134_, z131_, e132_, z135_, h136_, hI107_, M137_, hI140_, hF141_, hs143_, z144_, h145_, rfl, rfl⟩)⟩)⟩)⟩)⟩) (Nat.lt_of_lt_of_le (lf_c_X12_tryRows_9 v6_86 z115_ z144_ h116_ h145_ ) (Nat.le_of_lt_succ hm_86))
    exact lp6_ _ Mz hIz hFz 0 (lf_c_X5_takeFrom_5 ) RCH.refl (Nat.lt_succ_self _)
  · refine w_aload_n dX12_tryRows_9 rfl 0 rfl ?_
    refine w_getI fl_RX12_311 rfl rfl ic_12 dX12_tryRows_10 (fun z146_ e147_ => ?_)
    have h148_ : -1 ≤ z146_.toInt ∧ z146_.toInt ≤ 7 := ofEq (P := fun v => -1 ≤ v.toInt ∧ v.toInt ≤ 7) e147_ (hIz.1 (12, 0, 0) 22)
    refine w_if_lt (tgt := 42) dX12_tryRows_13 (by decide) (rfl : z146_.toInt = z146_.toInt) (fun h149_ => ?_) (fun h149_ => ?_)
    · refine w_aload_n dX12_tryRows_42 rfl 0 rfl ?_
      refine w_iload_n dX12_tryRows_43 rfl 1 rfl ?_
      refine w_putI DD_nd fl_RX12_311 rfl rfl ic_12 dX12_tryRows_44 (fun M150_ hM151_ => ?_)
      have hI152_ := hIz.put hM151_ ⟨(lf_c_X12_tryRows_52 m v hk h7 ), Or.inl (by decide)⟩
      have hF153_ := hFz.put hM151_ (Or.inl ⟨rfl, rfl, rfl⟩)
      refine w_aload_n dX12_tryRows_47 rfl 0 rfl ?_
      refine w_iload dX12_tryRows_48 5 rfl ?_
      refine w_putI DD_nd fl_RX12_314 rfl rfl ic_12 dX12_tryRows_50 (fun M154_ hM155_ => ?_)
      have hI156_ := hI152_.put hM155_ ⟨trivial, Or.inl (by decide)⟩
      have hF157_ := hF153_.put hM155_ (Or.inr (Or.inl ⟨rfl, rfl, rfl⟩))
      refine w_iconst (v := 0) dX12_tryRows_53 (by decide) ?_
      refine w_istore (ls' := [(6, vI 0), (0, vR (12, 0, 0)), (1, vI v), (2, vI u), (3, vI t), (4, vI s), (5, vI q)]) dX12_tryRows_54 (by decide) rfl ?_
      have lp158_ : ∀ (nn_56 : Nat) (M_56 : mM) (hI_56 : InvD M_56) (hF_56 : FR (S_tryD) Mz M_56) (v6_56 : Int32) (hv0_56 : 0 ≤ v6_56.toInt) (hL_56 : RCH (fun x_ y_ => ST_X12_tryRows_56 v Mz x_.1 x_.2 y_.1 y_.2) ((0 : Int32), M154_) (v6_56, M_56)), (2147483648 - v6_56.toInt).toNat < nn_56 → WP DD l G cy ad yX12_tryRows cX12_tryRows 7 none ((N + d) + 1) 56 [(6, vI v6_56), (0, vR (12, 0, 0)), (1, vI v), (2, vI u), (3, vI t), (4, vI s), (5, vI q)] [] M_56 (fun r M' => InvD M' ∧ FR (S_tryD) Mz M' ∧ (True) ∧ SP_X12_tryRows N m QR v u t s q Mz M') := by
        intro nn_56
        induction nn_56 with
        | zero => intro M_56 hI_56 hF_56 v6_56 hv0_56 hL_56 hm_56; exact absurd hm_56 (Nat.not_lt_zero _)
        | succ nn_56 ih_56 =>
          intro M_56 hI_56 hF_56 v6_56 hv0_56 hL_56 hm_56
          refine w_iload dX12_tryRows_56 0 rfl ?_
          refine w_iload_n dX12_tryRows_58 rfl 2 rfl ?_
          refine w_icmp_ge (tgt := 82) dX12_tryRows_59 (by decide) (rfl : v6_56.toInt = v6_56.toInt) (rfl : v.toInt = v.toInt) (fun h159_ => ?_) (fun h159_ => ?_)
          · exact w_vret rfl dX12_tryRows_82 ⟨hI_56, hF_56, trivial, ⟨z1_, h2_, z3_, h4_, (Or.inr ⟨h5_, z146_, e147_, h148_, (Or.inl ⟨h149_, M150_, hM151_, M154_, hM155_, v6_56, hv0_56, M_56, hL_56, hI_56, hF_56, h159_, rfl⟩)⟩)⟩⟩
          · refine w_aload_n dX12_tryRows_62 rfl 1 rfl ?_
            refine w_getR (c' := (63, 0, 0)) fl_RX12_63 rfl rfl ic_12 dX12_tryRows_63 rfl ?_
            refine w_iload dX12_tryRows_66 0 rfl ?_
            refine w_aload_n dX12_tryRows_68 rfl 1 rfl ?_
            refine w_getR (c' := (62, 0, 0)) fl_RX12_60 rfl rfl ic_12 dX12_tryRows_69 rfl ?_
            refine w_iload dX12_tryRows_72 0 rfl ?_
            refine w_iald rfl rfl ic_62 (rfl : v6_56.toInt = v6_56.toInt) (lf_c_X12_tryRows_53 m v v6_56 hk hv0_56 h159_ ) dX12_tryRows_74 (fun j162_ h163_ z160_ e161_ => ?_)
            refine w_iast DD_nd rfl rfl ic_63 (rfl : v6_56.toInt = v6_56.toInt) (lf_c_X12_tryRows_53 m v v6_56 hk hv0_56 h159_ ) dX12_tryRows_75 (fun j166_ h167_ M164_ hM165_ => ?_)
            have hI168_ := hI_56.put hM165_ ⟨trivial, Or.inr (by decide)⟩
            have hF169_ := hF_56.put hM165_ (Or.inr (Or.inr (Or.inr (Or.inl ⟨rfl, rfl⟩))))
            refine w_iincB (j := 0) (f := fun z170_ => [(6, vI z170_), (0, vR (12, 0, 0)), (1, vI v), (2, vI u), (3, vI t), (4, vI s), (5, vI q)]) dX12_tryRows_76 rfl (by decide) (fun _ => rfl) (rfl : v6_56.toInt = v6_56.toInt) li_1 (lf_c_X12_tryRows_55 m v v6_56 hk hv0_56 h159_ ) (fun z170_ h171_ => ?_)
            refine w_goto (tgt := 56) dX12_tryRows_79 (by decide) ?_
            refine w_loc (ls' := [(6, vI z170_), (0, vR (12, 0, 0)), (1, vI v), (2, vI u), (3, vI t), (4, vI s), (5, vI q)]) [0, 1, 2, 3, 4, 5, 6] rfl ?_
            exact ih_56 M164_ hI168_ hF169_ z170_ (lf_c_X5_takeFrom_3 v6_56 z170_ hv0_56 h171_ ) (RCH.tail hL_56 ⟨hv0_56, hI_56, hF_56, h159_, j162_, h163_, z160_, e161_, j166_, h167_, M164_, hM165_, z170_, h171_, rfl, rfl⟩) (Nat.lt_of_lt_of_le (lf_c_X12_tryRows_57 m v v6_56 z170_ hk h159_ h171_ ) (Nat.le_of_lt_succ hm_56))
      exact lp158_ _ M154_ hI156_ hF157_ 0 (lf_c_X5_takeFrom_5 ) RCH.refl (Nat.lt_succ_self _)
    · refine w_iload dX12_tryRows_16 5 rfl ?_
      refine w_aload_n dX12_tryRows_18 rfl 0 rfl ?_
      refine w_getI fl_RX12_314 rfl rfl ic_12 dX12_tryRows_19 (fun z172_ e173_ => ?_)
      refine w_icmp_lt (tgt := 42) dX12_tryRows_22 (by decide) (rfl : q.toInt = q.toInt) (rfl : z172_.toInt = z172_.toInt) (fun h174_ => ?_) (fun h174_ => ?_)
      · refine w_aload_n dX12_tryRows_42 rfl 0 rfl ?_
        refine w_iload_n dX12_tryRows_43 rfl 1 rfl ?_
        refine w_putI DD_nd fl_RX12_311 rfl rfl ic_12 dX12_tryRows_44 (fun M175_ hM176_ => ?_)
        have hI177_ := hIz.put hM176_ ⟨(lf_c_X12_tryRows_52 m v hk h7 ), Or.inl (by decide)⟩
        have hF178_ := hFz.put hM176_ (Or.inl ⟨rfl, rfl, rfl⟩)
        refine w_aload_n dX12_tryRows_47 rfl 0 rfl ?_
        refine w_iload dX12_tryRows_48 5 rfl ?_
        refine w_putI DD_nd fl_RX12_314 rfl rfl ic_12 dX12_tryRows_50 (fun M179_ hM180_ => ?_)
        have hI181_ := hI177_.put hM180_ ⟨trivial, Or.inl (by decide)⟩
        have hF182_ := hF178_.put hM180_ (Or.inr (Or.inl ⟨rfl, rfl, rfl⟩))
        refine w_iconst (v := 0) dX12_tryRows_53 (by decide) ?_
        refine w_istore (ls' := [(6, vI 0), (0, vR (12, 0, 0)), (1, vI v), (2, vI u), (3, vI t), (4, vI s), (5, vI q)]) dX12_tryRows_54 (by decide) rfl ?_
        have lp183_ : ∀ (nn_56 : Nat) (M_56 : mM) (hI_56 : InvD M_56) (hF_56 : FR (S_tryD) Mz M_56) (v6_56 : Int32) (hv0_56 : 0 ≤ v6_56.toInt) (hL_56 : RCH (fun x_ y_ => ST_X12_tryRows_56b v Mz x_.1 x_.2 y_.1 y_.2) ((0 : Int32), M179_) (v6_56, M_56)), (2147483648 - v6_56.toInt).toNat < nn_56 → WP DD l G cy ad yX12_tryRows cX12_tryRows 7 none ((N + d) + 1) 56 [(6, vI v6_56), (0, vR (12, 0, 0)), (1, vI v), (2, vI u), (3, vI t), (4, vI s), (5, vI q)] [] M_56 (fun r M' => InvD M' ∧ FR (S_tryD) Mz M' ∧ (True) ∧ SP_X12_tryRows N m QR v u t s q Mz M') := by
          intro nn_56
          induction nn_56 with
          | zero => intro M_56 hI_56 hF_56 v6_56 hv0_56 hL_56 hm_56; exact absurd hm_56 (Nat.not_lt_zero _)
          | succ nn_56 ih_56 =>
            intro M_56 hI_56 hF_56 v6_56 hv0_56 hL_56 hm_56
            refine w_iload dX12_tryRows_56 0 rfl ?_
            refine w_iload_n dX12_tryRows_58 rfl 2 rfl ?_
            refine w_icmp_ge (tgt := 82) dX12_tryRows_59 (by decide) (rfl : v6_56.toInt = v6_56.toInt) (rfl : v.toInt = v.toInt) (fun h184_ => ?_) (fun h184_ => ?_)
            · exact w_vret rfl dX12_tryRows_82 ⟨hI_56, hF_56, trivial, ⟨z1_, h2_, z3_, h4_, (Or.inr ⟨h5_, z146_, e147_, h148_, (Or.inr ⟨h149_, z172_, e173_, (Or.inl ⟨h174_, M175_, hM176_, M179_, hM180_, v6_56, hv0_56, M_56, hL_56, hI_56, hF_56, h184_, rfl⟩)⟩)⟩)⟩⟩
            · refine w_aload_n dX12_tryRows_62 rfl 1 rfl ?_
              refine w_getR (c' := (63, 0, 0)) fl_RX12_63 rfl rfl ic_12 dX12_tryRows_63 rfl ?_
              refine w_iload dX12_tryRows_66 0 rfl ?_
              refine w_aload_n dX12_tryRows_68 rfl 1 rfl ?_
              refine w_getR (c' := (62, 0, 0)) fl_RX12_60 rfl rfl ic_12 dX12_tryRows_69 rfl ?_
              refine w_iload dX12_tryRows_72 0 rfl ?_
              refine w_iald rfl rfl ic_62 (rfl : v6_56.toInt = v6_56.toInt) (lf_c_X12_tryRows_53 m v v6_56 hk hv0_56 h184_ ) dX12_tryRows_74 (fun j187_ h188_ z185_ e186_ => ?_)
              refine w_iast DD_nd rfl rfl ic_63 (rfl : v6_56.toInt = v6_56.toInt) (lf_c_X12_tryRows_53 m v v6_56 hk hv0_56 h184_ ) dX12_tryRows_75 (fun j191_ h192_ M189_ hM190_ => ?_)
              have hI193_ := hI_56.put hM190_ ⟨trivial, Or.inr (by decide)⟩
              have hF194_ := hF_56.put hM190_ (Or.inr (Or.inr (Or.inr (Or.inl ⟨rfl, rfl⟩))))
              refine w_iincB (j := 0) (f := fun z195_ => [(6, vI z195_), (0, vR (12, 0, 0)), (1, vI v), (2, vI u), (3, vI t), (4, vI s), (5, vI q)]) dX12_tryRows_76 rfl (by decide) (fun _ => rfl) (rfl : v6_56.toInt = v6_56.toInt) li_1 (lf_c_X12_tryRows_55 m v v6_56 hk hv0_56 h184_ ) (fun z195_ h196_ => ?_)
              refine w_goto (tgt := 56) dX12_tryRows_79 (by decide) ?_
              refine w_loc (ls' := [(6, vI z195_), (0, vR (12, 0, 0)), (1, vI v), (2, vI u), (3, vI t), (4, vI s), (5, vI q)]) [0, 1, 2, 3, 4, 5, 6] rfl ?_
              exact ih_56 M189_ hI193_ hF194_ z195_ (lf_c_X5_takeFrom_3 v6_56 z195_ hv0_56 h196_ ) (RCH.tail hL_56 ⟨hv0_56, hI_56, hF_56, h184_, j187_, h188_, z185_, e186_, j191_, h192_, M189_, hM190_, z195_, h196_, rfl, rfl⟩) (Nat.lt_of_lt_of_le (lf_c_X12_tryRows_57 m v v6_56 z195_ hk h184_ h196_ ) (Nat.le_of_lt_succ hm_56))
        exact lp183_ _ M179_ hI181_ hF182_ 0 (lf_c_X5_takeFrom_5 ) RCH.refl (Nat.lt_succ_self _)
      · refine w_iload dX12_tryRows_25 5 rfl ?_
        refine w_aload_n dX12_tryRows_27 rfl 0 rfl ?_
        refine w_getI fl_RX12_314 rfl rfl ic_12 dX12_tryRows_28 (fun z197_ e198_ => ?_)
        obtain rfl : z172_ = z197_ := e173_.trans e198_.symm
        refine w_icmp_ne (tgt := 82) dX12_tryRows_31 (by decide) (rfl : q.toInt = q.toInt) (rfl : z172_.toInt = z172_.toInt) (fun h199_ => ?_) (fun h199_ => ?_)
        · exact w_vret rfl dX12_tryRows_82 ⟨hIz, hFz, trivial, ⟨z1_, h2_, z3_, h4_, (Or.inr ⟨h5_, z146_, e147_, h148_, (Or.inr ⟨h149_, z172_, e173_, (Or.inr ⟨h174_, (Or.inl ⟨h199_, rfl⟩)⟩)⟩)⟩)⟩⟩
        · refine w_iload_n dX12_tryRows_34 rfl 1 rfl ?_
          refine w_aload_n dX12_tryRows_35 rfl 0 rfl ?_
          refine w_getI fl_RX12_311 rfl rfl ic_12 dX12_tryRows_36 (fun z200_ e201_ => ?_)
          obtain rfl : z146_ = z200_ := e147_.trans e201_.symm
          refine w_icmp_ge (tgt := 82) dX12_tryRows_39 (by decide) (rfl : v.toInt = v.toInt) (rfl : z146_.toInt = z146_.toInt) (fun h202_ => ?_) (fun h202_ => ?_)
          · exact w_vret rfl dX12_tryRows_82 ⟨hIz, hFz, trivial, ⟨z1_, h2_, z3_, h4_, (Or.inr ⟨h5_, z146_, e147_, h148_, (Or.inr ⟨h149_, z172_, e173_, (Or.inr ⟨h174_, (Or.inr ⟨h199_, (Or.inl ⟨h202_, rfl⟩)⟩)⟩)⟩)⟩)⟩⟩
          · refine w_aload_n dX12_tryRows_42 rfl 0 rfl ?_
            refine w_iload_n dX12_tryRows_43 rfl 1 rfl ?_
            refine w_putI DD_nd fl_RX12_311 rfl rfl ic_12 dX12_tryRows_44 (fun M203_ hM204_ => ?_)
            have hI205_ := hIz.put hM204_ ⟨(lf_c_X12_tryRows_66 m v z146_ hk h7 h148_ h202_ ), Or.inl (by decide)⟩
            have hF206_ := hFz.put hM204_ (Or.inl ⟨rfl, rfl, rfl⟩)
            refine w_aload_n dX12_tryRows_47 rfl 0 rfl ?_
            refine w_iload dX12_tryRows_48 5 rfl ?_
            refine w_putI DD_nd fl_RX12_314 rfl rfl ic_12 dX12_tryRows_50 (fun M207_ hM208_ => ?_)
            have hI209_ := hI205_.put hM208_ ⟨trivial, Or.inl (by decide)⟩
            have hF210_ := hF206_.put hM208_ (Or.inr (Or.inl ⟨rfl, rfl, rfl⟩))
            refine w_iconst (v := 0) dX12_tryRows_53 (by decide) ?_
            refine w_istore (ls' := [(6, vI 0), (0, vR (12, 0, 0)), (1, vI v), (2, vI u), (3, vI t), (4, vI s), (5, vI q)]) dX12_tryRows_54 (by decide) rfl ?_
            have lp211_ : ∀ (nn_56 : Nat) (M_56 : mM) (hI_56 : InvD M_56) (hF_56 : FR (S_tryD) Mz M_56) (v6_56 : Int32) (hv0_56 : 0 ≤ v6_56.toInt) (hL_56 : RCH (fun x_ y_ => ST_X12_tryRows_56c v Mz x_.1 x_.2 y_.1 y_.2) ((0 : Int32), M207_) (v6_56, M_56)), (2147483648 - v6_56.toInt).toNat < nn_56 → WP DD l G cy ad yX12_tryRows cX12_tryRows 7 none ((N + d) + 1) 56 [(6, vI v6_56), (0, vR (12, 0, 0)), (1, vI v), (2, vI u), (3, vI t), (4, vI s), (5, vI q)] [] M_56 (fun r M' => InvD M' ∧ FR (S_tryD) Mz M' ∧ (True) ∧ SP_X12_tryRows N m QR v u t s q Mz M') := by
              intro nn_56
              induction nn_56 with
              | zero => intro M_56 hI_56 hF_56 v6_56 hv0_56 hL_56 hm_56; exact absurd hm_56 (Nat.not_lt_zero _)
              | succ nn_56 ih_56 =>
                intro M_56 hI_56 hF_56 v6_56 hv0_56 hL_56 hm_56
                refine w_iload dX12_tryRows_56 0 rfl ?_
                refine w_iload_n dX12_tryRows_58 rfl 2 rfl ?_
                refine w_icmp_ge (tgt := 82) dX12_tryRows_59 (by decide) (rfl : v6_56.toInt = v6_56.toInt) (rfl : v.toInt = v.toInt) (fun h212_ => ?_) (fun h212_ => ?_)
                · exact w_vret rfl dX12_tryRows_82 ⟨hI_56, hF_56, trivial, ⟨z1_, h2_, z3_, h4_, (Or.inr ⟨h5_, z146_, e147_, h148_, (Or.inr ⟨h149_, z172_, e173_, (Or.inr ⟨h174_, (Or.inr ⟨h199_, (Or.inr ⟨h202_, M203_, hM204_, M207_, hM208_, v6_56, hv0_56, M_56, hL_56, hI_56, hF_56, h212_, rfl⟩)⟩)⟩)⟩)⟩)⟩⟩
                · refine w_aload_n dX12_tryRows_62 rfl 1 rfl ?_
                  refine w_getR (c' := (63, 0, 0)) fl_RX12_63 rfl rfl ic_12 dX12_tryRows_63 rfl ?_
                  refine w_iload dX12_tryRows_66 0 rfl ?_
                  refine w_aload_n dX12_tryRows_68 rfl 1 rfl ?_
                  refine w_getR (c' := (62, 0, 0)) fl_RX12_60 rfl rfl ic_12 dX12_tryRows_69 rfl ?_
                  refine w_iload dX12_tryRows_72 0 rfl ?_
                  refine w_iald rfl rfl ic_62 (rfl : v6_56.toInt = v6_56.toInt) (lf_c_X12_tryRows_67 v z146_ v6_56 h148_ h202_ hv0_56 h212_ ) dX12_tryRows_74 (fun j215_ h216_ z213_ e214_ => ?_)
                  refine w_iast DD_nd rfl rfl ic_63 (rfl : v6_56.toInt = v6_56.toInt) (lf_c_X12_tryRows_67 v z146_ v6_56 h148_ h202_ hv0_56 h212_ ) dX12_tryRows_75 (fun j219_ h220_ M217_ hM218_ => ?_)
                  have hI221_ := hI_56.put hM218_ ⟨trivial, Or.inr (by decide)⟩
                  have hF222_ := hF_56.put hM218_ (Or.inr (Or.inr (Or.inr (Or.inl ⟨rfl, rfl⟩))))
                  refine w_iincB (j := 0) (f := fun z223_ => [(6, vI z223_), (0, vR (12, 0, 0)), (1, vI v), (2, vI u), (3, vI t), (4, vI s), (5, vI q)]) dX12_tryRows_76 rfl (by decide) (fun _ => rfl) (rfl : v6_56.toInt = v6_56.toInt) li_1 (lf_c_X12_tryRows_69 v z146_ v6_56 h148_ h202_ hv0_56 h212_ ) (fun z223_ h224_ => ?_)
                  refine w_goto (tgt := 56) dX12_tryRows_79 (by decide) ?_
                  refine w_loc (ls' := [(6, vI z223_), (0, vR (12, 0, 0)), (1, vI v), (2, vI u), (3, vI t), (4, vI s), (5, vI q)]) [0, 1, 2, 3, 4, 5, 6] rfl ?_
                  exact ih_56 M217_ hI221_ hF222_ z223_ (lf_c_X5_takeFrom_3 v6_56 z223_ hv0_56 h224_ ) (RCH.tail hL_56 ⟨hv0_56, hI_56, hF_56, h212_, j215_, h216_, z213_, e214_, j219_, h220_, M217_, hM218_, z223_, h224_, rfl, rfl⟩) (Nat.lt_of_lt_of_le (lf_c_X12_tryRows_71 v z146_ v6_56 z223_ h148_ h202_ h212_ h224_ ) (Nat.le_of_lt_succ hm_56))
            exact lp211_ _ M207_ hI209_ hF210_ 0 (lf_c_X5_takeFrom_5 ) RCH.refl (Nat.lt_succ_self _)
def SPTd : Nat → (Int32 → Int32 → Int32 → Int32 → Int32 → mM → mM → Prop)
  | 0 => SP_X12_tryRows 0 0 (fun _ _ _ _ _ _ _ => False)
  | m + 1 => SP_X12_tryRows (1 * m + 1) (m + 1) (SPTd m)
theorem tryD_rec (l : Launch) (G : va_G) (cy : Nat → ClassId) (ad : rf → Nat) : ∀ m, TRYD l G cy ad (1 * m + 1) m (SPTd m) := by
  intro m
  induction m with
  | zero => exact fun d v u t s q Mz hIz hk hm h7 => w_dep (by omega) (c_X12_tryRows l G cy ad d 0 0 (fun _ _ _ _ _ _ _ => False) v u t s q Mz hIz (fun k hk => absurd hk (by omega)) hk hm h7)
  | succ m ih => exact fun d v u t s q Mz hIz hk hm h7 => w_dep (by omega) (c_X12_tryRows l G cy ad d (1 * m + 1) (m + 1) (SPTd m) v u t s q Mz hIz (fun k hk => by
      obtain rfl : k = m := by omega
      exact ih) hk hm h7)
def SP_X12_try7 (t s : Int32) (Mz : mM) (M_ : mM) : Prop := SPTd 7 0 0 t s 0 Mz M_
theorem c_X12_try7 (l : Launch) (G : va_G) (cy : Nat → ClassId) (ad : rf → Nat) (d : Nat) (t s : Int32) (Mz : mM) (hIz : InvD Mz) : WP DD l G cy ad yX12_tryRows cX12_tryRows 7 none (d + 8) 0 [(0, vR (12, 0, 0)), (1, vI 0), (2, vI 0), (3, vI t), (4, vI s), (5, vI 0)] [] Mz (fun r M' => InvD M' ∧ FR (S_tryD) Mz M' ∧ (True) ∧ SP_X12_try7 t s Mz M') := w_dep (by omega) (tryD_rec l G cy ad 7 d 0 0 t s 0 Mz hIz (by decide) frb_0 (by omega))
end
section
/-! words of the tables that are used, by their places; decode rows; fields -/
theorem ch_cX12_learn_0 : (cX12_learn.data.toList.drop 0).take 36 = [27, 3, 16, 31, 184, 0, 85, 153, 0, 19, 28, 3, 16, 31, 184, 0, 85, 153, 0, 9, 29, 16, 254, 162, 0, 10, 42, 18, 103, 182, 0, 104, 172, 42, 2, 181] := by decide +kernel
theorem dX12_learn_0 : decode cX12_learn 0 = .ok (.iload_n 1, 1) := do_27 (rdb (p := 0) (i := 0) ch_cX12_learn_0 rfl)
theorem dX12_learn_1 : decode cX12_learn 1 = .ok (.iconst 0, 1) := do_3 (rdb (p := 0) (i := 1) ch_cX12_learn_0 rfl)
theorem dX12_learn_2 : decode cX12_learn 2 = .ok (.bipush 31, 2) := do_16 (rdb (p := 0) (i := 2) ch_cX12_learn_0 rfl) (rdb (p := 0) (i := 3) ch_cX12_learn_0 rfl) (by decide +kernel)
theorem dX12_learn_4 : decode cX12_learn 4 = .ok (.invokestatic 85, 3) := do_184 (rdb (p := 0) (i := 4) ch_cX12_learn_0 rfl) (rdb (p := 0) (i := 5) ch_cX12_learn_0 rfl) (rdb (p := 0) (i := 6) ch_cX12_learn_0 rfl) rfl
theorem dX12_learn_7 : decode cX12_learn 7 = .ok (.ifCond .eq 19, 3) := do_153 (rdb (p := 0) (i := 7) ch_cX12_learn_0 rfl) (rdb (p := 0) (i := 8) ch_cX12_learn_0 rfl) (rdb (p := 0) (i := 9) ch_cX12_learn_0 rfl) (by decide +kernel)
theorem dX12_learn_10 : decode cX12_learn 10 = .ok (.iload_n 2, 1) := do_28 (rdb (p := 0) (i := 10) ch_cX12_learn_0 rfl)
theorem dX12_learn_11 : decode cX12_learn 11 = .ok (.iconst 0, 1) := do_3 (rdb (p := 0) (i := 11) ch_cX12_learn_0 rfl)
theorem dX12_learn_12 : decode cX12_learn 12 = .ok (.bipush 31, 2) := do_16 (rdb (p := 0) (i := 12) ch_cX12_learn_0 rfl) (rdb (p := 0) (i := 13) ch_cX12_learn_0 rfl) (by decide +kernel)
theorem dX12_learn_14 : decode cX12_learn 14 = .ok (.invokestatic 85, 3) := do_184 (rdb (p := 0) (i := 14) ch_cX12_learn_0 rfl) (rdb (p := 0) (i := 15) ch_cX12_learn_0 rfl) (rdb (p := 0) (i := 16) ch_cX12_learn_0 rfl) rfl
theorem dX12_learn_17 : decode cX12_learn 17 = .ok (.ifCond .eq 9, 3) := do_153 (rdb (p := 0) (i := 17) ch_cX12_learn_0 rfl) (rdb (p := 0) (i := 18) ch_cX12_learn_0 rfl) (rdb (p := 0) (i := 19) ch_cX12_learn_0 rfl) (by decide +kernel)
theorem dX12_learn_20 : decode cX12_learn 20 = .ok (.iload_n 3, 1) := do_29 (rdb (p := 0) (i := 20) ch_cX12_learn_0 rfl)
theorem dX12_learn_21 : decode cX12_learn 21 = .ok (.bipush (-2), 2) := do_16 (rdb (p := 0) (i := 21) ch_cX12_learn_0 rfl) (rdb (p := 0) (i := 22) ch_cX12_learn_0 rfl) (by decide +kernel)
theorem dX12_learn_23 : decode cX12_learn 23 = .ok (.if_icmp .ge 10, 3) := do_162 (rdb (p := 0) (i := 23) ch_cX12_learn_0 rfl) (rdb (p := 0) (i := 24) ch_cX12_learn_0 rfl) (rdb (p := 0) (i := 25) ch_cX12_learn_0 rfl) (by decide +kernel)
theorem dX12_learn_26 : decode cX12_learn 26 = .ok (.aload_n 0, 1) := do_42 (rdb (p := 0) (i := 26) ch_cX12_learn_0 rfl)
theorem dX12_learn_27 : decode cX12_learn 27 = .ok (.ldc 103, 2) := do_18 (rdb (p := 0) (i := 27) ch_cX12_learn_0 rfl) (rdb (p := 0) (i := 28) ch_cX12_learn_0 rfl)
theorem dX12_learn_29 : decode cX12_learn 29 = .ok (.invokevirtual 104, 3) := do_182 (rdb (p := 0) (i := 29) ch_cX12_learn_0 rfl) (rdb (p := 0) (i := 30) ch_cX12_learn_0 rfl) (rdb (p := 0) (i := 31) ch_cX12_learn_0 rfl) rfl
theorem ch_cX12_learn_32 : (cX12_learn.data.toList.drop 32).take 36 = [172, 42, 2, 181, 1, 55, 42, 3, 181, 1, 58, 42, 3, 3, 27, 28, 3, 182, 1, 61, 42, 180, 1, 55, 155, 0, 11, 29, 42, 180, 1, 55, 161, 0, 10, 42] := by decide +kernel
theorem dX12_learn_32 : decode cX12_learn 32 = .ok (.ireturn, 1) := do_172 (rdb (p := 32) (i := 0) ch_cX12_learn_32 rfl)
theorem dX12_learn_33 : decode cX12_learn 33 = .ok (.aload_n 0, 1) := do_42 (rdb (p := 32) (i := 1) ch_cX12_learn_32 rfl)
theorem dX12_learn_34 : decode cX12_learn 34 = .ok (.iconst (-1), 1) := do_2 (rdb (p := 32) (i := 2) ch_cX12_learn_32 rfl)
theorem dX12_learn_35 : decode cX12_learn 35 = .ok (.putfield 311, 3) := do_181 (rdb (p := 32) (i := 3) ch_cX12_learn_32 rfl) (rdb (p := 32) (i := 4) ch_cX12_learn_32 rfl) (rdb (p := 32) (i := 5) ch_cX12_learn_32 rfl) rfl
theorem dX12_learn_38 : decode cX12_learn 38 = .ok (.aload_n 0, 1) := do_42 (rdb (p := 32) (i := 6) ch_cX12_learn_32 rfl)
theorem dX12_learn_39 : decode cX12_learn 39 = .ok (.iconst 0, 1) := do_3 (rdb (p := 32) (i := 7) ch_cX12_learn_32 rfl)
theorem dX12_learn_40 : decode cX12_learn 40 = .ok (.putfield 314, 3) := do_181 (rdb (p := 32) (i := 8) ch_cX12_learn_32 rfl) (rdb (p := 32) (i := 9) ch_cX12_learn_32 rfl) (rdb (p := 32) (i := 10) ch_cX12_learn_32 rfl) rfl
theorem dX12_learn_43 : decode cX12_learn 43 = .ok (.aload_n 0, 1) := do_42 (rdb (p := 32) (i := 11) ch_cX12_learn_32 rfl)
theorem dX12_learn_44 : decode cX12_learn 44 = .ok (.iconst 0, 1) := do_3 (rdb (p := 32) (i := 12) ch_cX12_learn_32 rfl)
theorem dX12_learn_45 : decode cX12_learn 45 = .ok (.iconst 0, 1) := do_3 (rdb (p := 32) (i := 13) ch_cX12_learn_32 rfl)
theorem dX12_learn_46 : decode cX12_learn 46 = .ok (.iload_n 1, 1) := do_27 (rdb (p := 32) (i := 14) ch_cX12_learn_32 rfl)
theorem dX12_learn_47 : decode cX12_learn 47 = .ok (.iload_n 2, 1) := do_28 (rdb (p := 32) (i := 15) ch_cX12_learn_32 rfl)
theorem dX12_learn_48 : decode cX12_learn 48 = .ok (.iconst 0, 1) := do_3 (rdb (p := 32) (i := 16) ch_cX12_learn_32 rfl)
theorem dX12_learn_49 : decode cX12_learn 49 = .ok (.invokevirtual 317, 3) := do_182 (rdb (p := 32) (i := 17) ch_cX12_learn_32 rfl) (rdb (p := 32) (i := 18) ch_cX12_learn_32 rfl) (rdb (p := 32) (i := 19) ch_cX12_learn_32 rfl) rfl
theorem dX12_learn_52 : decode cX12_learn 52 = .ok (.aload_n 0, 1) := do_42 (rdb (p := 32) (i := 20) ch_cX12_learn_32 rfl)
theorem dX12_learn_53 : decode cX12_learn 53 = .ok (.getfield 311, 3) := do_180 (rdb (p := 32) (i := 21) ch_cX12_learn_32 rfl) (rdb (p := 32) (i := 22) ch_cX12_learn_32 rfl) (rdb (p := 32) (i := 23) ch_cX12_learn_32 rfl) rfl
theorem dX12_learn_56 : decode cX12_learn 56 = .ok (.ifCond .lt 11, 3) := do_155 (rdb (p := 32) (i := 24) ch_cX12_learn_32 rfl) (rdb (p := 32) (i := 25) ch_cX12_learn_32 rfl) (rdb (p := 32) (i := 26) ch_cX12_learn_32 rfl) (by decide +kernel)
theorem dX12_learn_59 : decode cX12_learn 59 = .ok (.iload_n 3, 1) := do_29 (rdb (p := 32) (i := 27) ch_cX12_learn_32 rfl)
theorem dX12_learn_60 : decode cX12_learn 60 = .ok (.aload_n 0, 1) := do_42 (rdb (p := 32) (i := 28) ch_cX12_learn_32 rfl)
theorem dX12_learn_61 : decode cX12_learn 61 = .ok (.getfield 311, 3) := do_180 (rdb (p := 32) (i := 29) ch_cX12_learn_32 rfl) (rdb (p := 32) (i := 30) ch_cX12_learn_32 rfl) (rdb (p := 32) (i := 31) ch_cX12_learn_32 rfl) rfl
theorem ch_cX12_learn_64 : (cX12_learn.data.toList.drop 64).take 36 = [161, 0, 10, 42, 18, 130, 182, 0, 104, 172, 29, 2, 160, 0, 10, 42, 180, 1, 58, 167, 0, 22, 29, 16, 254, 160, 0, 10, 42, 180, 1, 55, 167, 0, 9, 42] := by decide +kernel
theorem dX12_learn_64 : decode cX12_learn 64 = .ok (.if_icmp .lt 10, 3) := do_161 (rdb (p := 64) (i := 0) ch_cX12_learn_64 rfl) (rdb (p := 64) (i := 1) ch_cX12_learn_64 rfl) (rdb (p := 64) (i := 2) ch_cX12_learn_64 rfl) (by decide +kernel)
theorem dX12_learn_67 : decode cX12_learn 67 = .ok (.aload_n 0, 1) := do_42 (rdb (p := 64) (i := 3) ch_cX12_learn_64 rfl)
theorem dX12_learn_68 : decode cX12_learn 68 = .ok (.ldc 130, 2) := do_18 (rdb (p := 64) (i := 4) ch_cX12_learn_64 rfl) (rdb (p := 64) (i := 5) ch_cX12_learn_64 rfl)
theorem dX12_learn_70 : decode cX12_learn 70 = .ok (.invokevirtual 104, 3) := do_182 (rdb (p := 64) (i := 6) ch_cX12_learn_64 rfl) (rdb (p := 64) (i := 7) ch_cX12_learn_64 rfl) (rdb (p := 64) (i := 8) ch_cX12_learn_64 rfl) rfl
theorem dX12_learn_73 : decode cX12_learn 73 = .ok (.ireturn, 1) := do_172 (rdb (p := 64) (i := 9) ch_cX12_learn_64 rfl)
theorem dX12_learn_74 : decode cX12_learn 74 = .ok (.iload_n 3, 1) := do_29 (rdb (p := 64) (i := 10) ch_cX12_learn_64 rfl)
theorem dX12_learn_75 : decode cX12_learn 75 = .ok (.iconst (-1), 1) := do_2 (rdb (p := 64) (i := 11) ch_cX12_learn_64 rfl)
theorem dX12_learn_76 : decode cX12_learn 76 = .ok (.if_icmp .ne 10, 3) := do_160 (rdb (p := 64) (i := 12) ch_cX12_learn_64 rfl) (rdb (p := 64) (i := 13) ch_cX12_learn_64 rfl) (rdb (p := 64) (i := 14) ch_cX12_learn_64 rfl) (by decide +kernel)
theorem dX12_learn_79 : decode cX12_learn 79 = .ok (.aload_n 0, 1) := do_42 (rdb (p := 64) (i := 15) ch_cX12_learn_64 rfl)
theorem dX12_learn_80 : decode cX12_learn 80 = .ok (.getfield 314, 3) := do_180 (rdb (p := 64) (i := 16) ch_cX12_learn_64 rfl) (rdb (p := 64) (i := 17) ch_cX12_learn_64 rfl) (rdb (p := 64) (i := 18) ch_cX12_learn_64 rfl) rfl
theorem dX12_learn_83 : decode cX12_learn 83 = .ok (.goto 22, 3) := do_167 (rdb (p := 64) (i := 19) ch_cX12_learn_64 rfl) (rdb (p := 64) (i := 20) ch_cX12_learn_64 rfl) (rdb (p := 64) (i := 21) ch_cX12_learn_64 rfl) (by decide +kernel)
theorem dX12_learn_86 : decode cX12_learn 86 = .ok (.iload_n 3, 1) := do_29 (rdb (p := 64) (i := 22) ch_cX12_learn_64 rfl)
theorem dX12_learn_87 : decode cX12_learn 87 = .ok (.bipush (-2), 2) := do_16 (rdb (p := 64) (i := 23) ch_cX12_learn_64 rfl) (rdb (p := 64) (i := 24) ch_cX12_learn_64 rfl) (by decide +kernel)
theorem dX12_learn_89 : decode cX12_learn 89 = .ok (.if_icmp .ne 10, 3) := do_160 (rdb (p := 64) (i := 25) ch_cX12_learn_64 rfl) (rdb (p := 64) (i := 26) ch_cX12_learn_64 rfl) (rdb (p := 64) (i := 27) ch_cX12_learn_64 rfl) (by decide +kernel)
theorem dX12_learn_92 : decode cX12_learn 92 = .ok (.aload_n 0, 1) := do_42 (rdb (p := 64) (i := 28) ch_cX12_learn_64 rfl)
theorem dX12_learn_93 : decode cX12_learn 93 = .ok (.getfield 311, 3) := do_180 (rdb (p := 64) (i := 29) ch_cX12_learn_64 rfl) (rdb (p := 64) (i := 30) ch_cX12_learn_64 rfl) (rdb (p := 64) (i := 31) ch_cX12_learn_64 rfl) rfl
theorem ch_cX12_learn_96 : (cX12_learn.data.toList.drop 96).take 36 = [167, 0, 9, 42, 180, 0, 63, 29, 46, 172] := by decide +kernel
theorem dX12_learn_96 : decode cX12_learn 96 = .ok (.goto 9, 3) := do_167 (rdb (p := 96) (i := 0) ch_cX12_learn_96 rfl) (rdb (p := 96) (i := 1) ch_cX12_learn_96 rfl) (rdb (p := 96) (i := 2) ch_cX12_learn_96 rfl) (by decide +kernel)
theorem dX12_learn_99 : decode cX12_learn 99 = .ok (.aload_n 0, 1) := do_42 (rdb (p := 96) (i := 3) ch_cX12_learn_96 rfl)
theorem dX12_learn_100 : decode cX12_learn 100 = .ok (.getfield 63, 3) := do_180 (rdb (p := 96) (i := 4) ch_cX12_learn_96 rfl) (rdb (p := 96) (i := 5) ch_cX12_learn_96 rfl) (rdb (p := 96) (i := 6) ch_cX12_learn_96 rfl) rfl
theorem dX12_learn_103 : decode cX12_learn 103 = .ok (.iload_n 3, 1) := do_29 (rdb (p := 96) (i := 7) ch_cX12_learn_96 rfl)
theorem dX12_learn_104 : decode cX12_learn 104 = .ok (.iaload, 1) := do_46 (rdb (p := 96) (i := 8) ch_cX12_learn_96 rfl)
theorem dX12_learn_105 : decode cX12_learn 105 = .ok (.ireturn, 1) := do_172 (rdb (p := 96) (i := 9) ch_cX12_learn_96 rfl)
end
section
def S_c_X12_learn : rf → Nat → Prop := fun c k => (c.1 = 12 ∧ c.2.1 = 0 ∧ k = 22) ∨ (c.1 = 12 ∧ c.2.1 = 0 ∧ k = 23) ∨ (c.1 = 62 ∧ c.2.1 = 0) ∨ (c.1 = 63 ∧ c.2.1 = 0) ∨ (c.1 = 53 ∧ c.2.1 = 0) ∨ False
def SP_X12_learn (v : Int32) (u : Int32) (t : Int32) (Mz : mM) (r_ : Int32) (M_ : mM) : Prop := (((SP_X12_within v 0 31 Mz (1 : Int32)) ∧ (0 ≤ v.toInt ∧ v.toInt ≤ 31) ∧ (((SP_X12_within u 0 31 Mz (1 : Int32)) ∧ (0 ≤ u.toInt ∧ u.toInt ≤ 31) ∧ (((-2 ≤ t.toInt) ∧ ∃ M14_ : mM, (M14_ = up Mz (12, 0, 0) 22 (-1)) ∧ ∃ M18_ : mM, (M18_ = up M14_ (12, 0, 0) 23 0) ∧ (InvD M18_) ∧ ∃ M22_ : mM, (InvD M22_) ∧ (FR (S_tryD) M18_ M22_) ∧ (SP_X12_try7 v u M18_ M22_) ∧ ∃ z29_ : Int32, (z29_ = M22_.1 (12, 0, 0) 22) ∧ (-1 ≤ z29_.toInt ∧ z29_.toInt ≤ 7) ∧ (((z29_.toInt < 0) ∧ ∃ M34_ : mM, (InvD M34_) ∧ (FR (S_c_X12_finding) M22_ M34_) ∧ ∃ r33_ : Int32, (SP_X12_finding (-1000002) M22_ r33_ M34_) ∧ (r33_.toInt = (-1000002)) ∧ r_ = r33_ ∧ M_ = M34_) ∨ ((0 ≤ z29_.toInt) ∧ (((t.toInt < z29_.toInt) ∧ (((¬ t.toInt = -1) ∧ (((¬ t.toInt = -2) ∧ ∃ j48_ : Nat, ((j48_ : Int) = t.toInt) ∧ ∃ z46_ : Int32, (z46_ = M22_.1 (63, 0, 0) j48_) ∧ r_ = z46_ ∧ M_ = M22_) ∨ ((t.toInt = -2) ∧ r_ = z29_ ∧ M_ = M22_))) ∨ ((t.toInt = -1) ∧ ∃ z52_ : Int32, (z52_ = M22_.1 (12, 0, 0) 23) ∧ r_ = z52_ ∧ M_ = M22_))) ∨ ((z29_.toInt ≤ t.toInt) ∧ ∃ M55_ : mM, (InvD M55_) ∧ (FR (S_c_X12_finding) M22_ M55_) ∧ ∃ r54_ : Int32, (SP_X12_finding (-1000002) M22_ r54_ M55_) ∧ (r54_.toInt = (-1000002)) ∧ r_ = r54_ ∧ M_ = M55_))))) ∨ ((t.toInt < -2) ∧ ∃ M63_ : mM, (InvD M63_) ∧ (FR (S_c_X12_finding) Mz M63_) ∧ ∃ r62_ : Int32, (SP_X12_finding (-1000001) Mz r62_ M63_) ∧ (r62_.toInt = (-1000001)) ∧ r_ = r62_ ∧ M_ = M63_))) ∨ ((SP_X12_within u 0 31 Mz (0 : Int32)) ∧ (¬ (0 ≤ u.toInt ∧ u.toInt ≤ 31)) ∧ ∃ M72_ : mM, (InvD M72_) ∧ (FR (S_c_X12_finding) Mz M72_) ∧ ∃ r71_ : Int32, (SP_X12_finding (-1000001) Mz r71_ M72_) ∧ (r71_.toInt = (-1000001)) ∧ r_ = r71_ ∧ M_ = M72_))) ∨ ((SP_X12_within v 0 31 Mz (0 : Int32)) ∧ (¬ (0 ≤ v.toInt ∧ v.toInt ≤ 31)) ∧ ∃ M81_ : mM, (InvD M81_) ∧ (FR (S_c_X12_finding) Mz M81_) ∧ ∃ r80_ : Int32, (SP_X12_finding (-1000001) Mz r80_ M81_) ∧ (r80_.toInt = (-1000001)) ∧ r_ = r80_ ∧ M_ = M81_))
theorem lf_c_X12_learn_0 (t : Int32) (z29_ : Int32) (h13_ : -2 ≤ t.toInt) (h31_ : -1 ≤ z29_.toInt ∧ z29_.toInt ≤ 7) (h43_ : t.toInt < z29_.toInt) (h44_ : ¬ t.toInt = -1) (h45_ : ¬ t.toInt = -2) : 0 ≤ t.toInt ∧ t.toInt < ((7 : Nat) : Int) := by omega
set_option maxHeartbeats 4000000 in
set_option maxRecDepth 100000 in
theorem c_X12_learn (l : Launch) (G : va_G) (cy : Nat → ClassId) (ad : rf → Nat) (d : Nat) (v : Int32) (u : Int32) (t : Int32) (Mz : mM) (hIz : InvD Mz) : WP DD l G cy ad yX12_learn cX12_learn 4 (some .int) (d + 9) 0 [(0, vR (12, 0, 0)), (1, vI v), (2, vI u), (3, vI t)] [] Mz (fun r M' => InvD M' ∧ FR (S_c_X12_learn) Mz M' ∧ (True) ∧ SP_X12_learn v u t Mz r M') := by
  have hFz : FR (S_c_X12_learn) Mz Mz := FR.self
  refine w_iload_n dX12_learn_0 rfl 1 rfl ?_
  refine w_iconst (v := 0) dX12_learn_1 (by decide) ?_
  refine w_bipush (v := 31) dX12_learn_2 (by decide) ?_
  refine w_callS (as := [vI v, vI 0, vI 31]) (rest := []) (c_X12_within l G cy ad (d + 8) v 0 31 Mz hIz) kS_X12_within pnn_17 (Nat.le_of_ble_eq_true rfl) m_1427 rfl rfl (by decide) (Nat.le_of_ble_eq_true rfl) dX12_learn_4 (fun r1_ M2_ q3_ => ?_)
  obtain ⟨rfl, h4_, hs5_⟩ := q3_
  rcases h4_ with ⟨rfl, h4_⟩ | ⟨rfl, h4_⟩
  · simp only [li_0, li_31] at h4_
    refine w_if_eq (tgt := 26) dX12_learn_7 (by decide) li_1 (fun h9 => (absurd h9 (by decide))) (fun h6_ => ?_)
    refine w_iload_n dX12_learn_10 rfl 2 rfl ?_
    refine w_iconst (v := 0) dX12_learn_11 (by decide) ?_
    refine w_bipush (v := 31) dX12_learn_12 (by decide) ?_
    refine w_callS (as := [vI u, vI 0, vI 31]) (rest := []) (c_X12_within l G cy ad (d + 8) u 0 31 Mz hIz) kS_X12_within pnn_17 (Nat.le_of_ble_eq_true rfl) m_1427 rfl rfl (by decide) (Nat.le_of_ble_eq_true rfl) dX12_learn_14 (fun r7_ M8_ q9_ => ?_)
    obtain ⟨rfl, h10_, hs11_⟩ := q9_
    rcases h10_ with ⟨rfl, h10_⟩ | ⟨rfl, h10_⟩
    · simp only [li_0, li_31] at h10_
      refine w_if_eq (tgt := 26) dX12_learn_17 (by decide) li_1 (fun h9 => (absurd h9 (by decide))) (fun h12_ => ?_)
      refine w_iload_n dX12_learn_20 rfl 3 rfl ?_
      refine w_bipush (v := (-2)) dX12_learn_21 (by decide) ?_
      refine w_icmp_ge (tgt := 33) dX12_learn_23 (by decide) (rfl : t.toInt = t.toInt) li_m2 (fun h13_ => ?_) (fun h13_ => ?_)
      · refine w_aload_n dX12_learn_33 rfl 0 rfl ?_
        refine w_iconst (v := (-1)) dX12_learn_34 (by decide) ?_
        refine w_putI DD_nd fl_RX12_311 rfl rfl ic_12 dX12_learn_35 (fun M14_ hM15_ => ?_)
        have hI16_ := hIz.put hM15_ ⟨⟨by decide, by decide⟩, Or.inl (by decide)⟩
        have hF17_ := hFz.put hM15_ (Or.inl ⟨rfl, rfl, rfl⟩)
        refine w_aload_n dX12_learn_38 rfl 0 rfl ?_
        refine w_iconst (v := 0) dX12_learn_39 (by decide) ?_
        refine w_putI DD_nd fl_RX12_314 rfl rfl ic_12 dX12_learn_40 (fun M18_ hM19_ => ?_)
        have hI20_ := hI16_.put hM19_ ⟨trivial, Or.inl (by decide)⟩
        have hF21_ := hF17_.put hM19_ (Or.inr (Or.inl ⟨rfl, rfl, rfl⟩))
        refine w_aload_n dX12_learn_43 rfl 0 rfl ?_
        refine w_iconst (v := 0) dX12_learn_44 (by decide) ?_
        refine w_iconst (v := 0) dX12_learn_45 (by decide) ?_
        refine w_iload_n dX12_learn_46 rfl 1 rfl ?_
        refine w_iload_n dX12_learn_47 rfl 2 rfl ?_
        refine w_iconst (v := 0) dX12_learn_48 (by decide) ?_
        refine w_callVv (as := [vI 0, vI 0, vI v, vI u, vI 0]) (rest := []) (c_X12_try7 l G cy ad d v u M18_ hI20_) kV_X12_tryRows pnn_17 (Nat.le_of_ble_eq_true rfl) m_1787 rfl rfl rfl ic_12 rfl rfl (by decide) (Nat.le_of_ble_eq_true rfl) dX12_learn_49 (fun M22_ q23_ => ?_)
        obtain ⟨hI25_, hF26_, h24_, hs28_⟩ := q23_
        have hF27_ := hF21_.tr hF26_ (fun c k => (fun h => h.elim (fun h => (Or.inl ⟨h.1, h.2.1, h.2.2⟩)) (fun h => h.elim (fun h => (Or.inr (Or.inl ⟨h.1, h.2.1, h.2.2⟩))) (fun h => h.elim (fun h => (Or.inr (Or.inr (Or.inl ⟨h.1, h.2⟩)))) (fun h => h.elim (fun h => (Or.inr (Or.inr (Or.inr (Or.inl ⟨h.1, h.2⟩))))) (fun h => h.elim))))))
        refine w_aload_n dX12_learn_52 rfl 0 rfl ?_
        refine w_getI fl_RX12_311 rfl rfl ic_12 dX12_learn_53 (fun z29_ e30_ => ?_)
        have h31_ : -1 ≤ z29_.toInt ∧ z29_.toInt ≤ 7 := ofEq (P := fun v => -1 ≤ v.toInt ∧ v.toInt ≤ 7) e30_ (hI25_.1 (12, 0, 0) 22)
        refine w_if_lt (tgt := 67) dX12_learn_56 (by decide) (rfl : z29_.toInt = z29_.toInt) (fun h32_ => ?_) (fun h32_ => ?_)
        · refine w_aload_n dX12_learn_67 rfl 0 rfl ?_
          refine w_ldc (v := (-1000002)) m_1500 dX12_learn_68 ?_
          refine w_callV (as := [vI (-1000002)]) (rest := []) (c_X12_finding l G cy ad (d + 8) (-1000002) M22_ hI25_ (by first | decide | (unfold vF; omega) | (unfold vRw; omega))) kV_X12_finding pnn_17 (Nat.le_of_ble_eq_true rfl) m_1434 rfl rfl rfl ic_12 rfl rfl (by decide) (Nat.le_of_ble_eq_true rfl) dX12_learn_70 (fun r33_ M34_ q35_ => ?_)
          obtain ⟨hI37_, hF38_, h36_, hs40_⟩ := q35_
          have hF39_ := hF27_.tr hF38_ (fun c k => (fun h => h.elim (fun h => (Or.inr (Or.inr (Or.inr (Or.inr (Or.inl ⟨h.1, h.2⟩)))))) (fun h => h.elim)))
          simp only [li_m1000002] at h36_
          exact w_iret rfl dX12_learn_73 ⟨hI37_, hF39_, trivial, (Or.inl ⟨hs5_, h4_, (Or.inl ⟨hs11_, h10_, (Or.inl ⟨h13_, M14_, hM15_, M18_, hM19_, hI20_, M22_, hI25_, hF26_, hs28_, z29_, e30_, h31_, (Or.inl ⟨h32_, M34_, hI37_, hF38_, r33_, hs40_, h36_, rfl, rfl⟩)⟩)⟩)⟩)⟩
        · refine w_iload_n dX12_learn_59 rfl 3 rfl ?_
          refine w_aload_n dX12_learn_60 rfl 0 rfl ?_
          refine w_getI fl_RX12_311 rfl rfl ic_12 dX12_learn_61 (fun z41_ e42_ => ?_)
          obtain rfl : z29_ = z41_ := e30_.trans e42_.symm
          refine w_icmp_lt (tgt := 74) dX12_learn_64 (by decide) (rfl : t.toInt = t.toInt) (rfl : z29_.toInt = z29_.toInt) (fun h43_ => ?_) (fun h43_ => ?_)
          · refine w_iload_n dX12_learn_74 rfl 3 rfl ?_
            refine w_iconst (v := (-1)) dX12_learn_75 (by decide) ?_
            refine w_icmp_ne (tgt := 86) dX12_learn_76 (by decide) (rfl : t.toInt = t.toInt) li_m1 (fun h44_ => ?_) (fun h44_ => ?_)
            · refine w_iload_n dX12_learn_86 rfl 3 rfl ?_
              refine w_bipush (v := (-2)) dX12_learn_87 (by decide) ?_
              refine w_icmp_ne (tgt := 99) dX12_learn_89 (by decide) (rfl : t.toInt = t.toInt) li_m2 (fun h45_ => ?_) (fun h45_ => ?_)
              · refine w_aload_n dX12_learn_99 rfl 0 rfl ?_
                refine w_getR (c' := (63, 0, 0)) fl_RX12_63 rfl rfl ic_12 dX12_learn_100 rfl ?_
                refine w_iload_n dX12_learn_103 rfl 3 rfl ?_
                refine w_iald rfl rfl ic_63 (rfl : t.toInt = t.toInt) (lf_c_X12_learn_0 t z29_ h13_ h31_ h43_ h44_ h45_ ) dX12_learn_104 (fun j48_ h49_ z46_ e47_ => ?_)
                exact w_iret rfl dX12_learn_105 ⟨hI25_, hF27_, trivial, (Or.inl ⟨hs5_, h4_, (Or.inl ⟨hs11_, h10_, (Or.inl ⟨h13_, M14_, hM15_, M18_, hM19_, hI20_, M22_, hI25_, hF26_, hs28_, z29_, e30_, h31_, (Or.inr ⟨h32_, (Or.inl ⟨h43_, (Or.inl ⟨h44_, (Or.inl ⟨h45_, j48_, h49_, z46_, e47_, rfl, rfl⟩)⟩)⟩)⟩)⟩)⟩)⟩)⟩
              · refine w_aload_n dX12_learn_92 rfl 0 rfl ?_
                refine w_getI fl_RX12_311 rfl rfl ic_12 dX12_learn_93 (fun z50_ e51_ => ?_)
                obtain rfl : z29_ = z50_ := e30_.trans e51_.symm
                refine w_goto (tgt := 105) dX12_learn_96 (by decide) ?_
                exact w_iret rfl dX12_learn_105 ⟨hI25_, hF27_, trivial, (Or.inl ⟨hs5_, h4_, (Or.inl ⟨hs11_, h10_, (Or.inl ⟨h13_, M14_, hM15_, M18_, hM19_, hI20_, M22_, hI25_, hF26_, hs28_, z29_, e30_, h31_, (Or.inr ⟨h32_, (Or.inl ⟨h43_, (Or.inl ⟨h44_, (Or.inr ⟨h45_, rfl, rfl⟩)⟩)⟩)⟩)⟩)⟩)⟩)⟩
            · refine w_aload_n dX12_learn_79 rfl 0 rfl ?_
              refine w_getI fl_RX12_314 rfl rfl ic_12 dX12_learn_80 (fun z52_ e53_ => ?_)
              refine w_goto (tgt := 105) dX12_learn_83 (by decide) ?_
              exact w_iret rfl dX12_learn_105 ⟨hI25_, hF27_, trivial, (Or.inl ⟨hs5_, h4_, (Or.inl ⟨hs11_, h10_, (Or.inl ⟨h13_, M14_, hM15_, M18_, hM19_, hI20_, M22_, hI25_, hF26_, hs28_, z29_, e30_, h31_, (Or.inr ⟨h32_, (Or.inl ⟨h43_, (Or.inr ⟨h44_, z52_, e53_, rfl, rfl⟩)⟩)⟩)⟩)⟩)⟩)⟩
          · refine w_aload_n dX12_learn_67 rfl 0 rfl ?_
            refine w_ldc (v := (-1000002)) m_1500 dX12_learn_68 ?_
            refine w_callV (as := [vI (-1000002)]) (rest := []) (c_X12_finding l G cy ad (d + 8) (-1000002) M22_ hI25_ (by first | decide | (unfold vF; omega) | (unfold vRw; omega))) kV_X12_finding pnn_17 (Nat.le_of_ble_eq_true rfl) m_1434 rfl rfl rfl ic_12 rfl rfl (by decide) (Nat.le_of_ble_eq_true rfl) dX12_learn_70 (fun r54_ M55_ q56_ => ?_)
            obtain ⟨hI58_, hF59_, h57_, hs61_⟩ := q56_
            have hF60_ := hF27_.tr hF59_ (fun c k => (fun h => h.elim (fun h => (Or.inr (Or.inr (Or.inr (Or.inr (Or.inl ⟨h.1, h.2⟩)))))) (fun h => h.elim)))
            simp only [li_m1000002] at h57_
            exact w_iret rfl dX12_learn_73 ⟨hI58_, hF60_, trivial, (Or.inl ⟨hs5_, h4_, (Or.inl ⟨hs11_, h10_, (Or.inl ⟨h13_, M14_, hM15_, M18_, hM19_, hI20_, M22_, hI25_, hF26_, hs28_, z29_, e30_, h31_, (Or.inr ⟨h32_, (Or.inr ⟨h43_, M55_, hI58_, hF59_, r54_, hs61_, h57_, rfl, rfl⟩)⟩)⟩)⟩)⟩)⟩
      · refine w_aload_n dX12_learn_26 rfl 0 rfl ?_
        refine w_ldc (v := (-1000001)) m_1433 dX12_learn_27 ?_
        refine w_callV (as := [vI (-1000001)]) (rest := []) (c_X12_finding l G cy ad (d + 8) (-1000001) Mz hIz (by first | decide | (unfold vF; omega) | (unfold vRw; omega))) kV_X12_finding pnn_17 (Nat.le_of_ble_eq_true rfl) m_1434 rfl rfl rfl ic_12 rfl rfl (by decide) (Nat.le_of_ble_eq_true rfl) dX12_learn_29 (fun r62_ M63_ q64_ => ?_)
        obtain ⟨hI66_, hF67_, h65_, hs69_⟩ := q64_
        have hF68_ := hFz.tr hF67_ (fun c k => (fun h => h.elim (fun h => (Or.inr (Or.inr (Or.inr (Or.inr (Or.inl ⟨h.1, h.2⟩)))))) (fun h => h.elim)))
        simp only [li_m1000001] at h65_
        exact w_iret rfl dX12_learn_32 ⟨hI66_, hF68_, trivial, (Or.inl ⟨hs5_, h4_, (Or.inl ⟨hs11_, h10_, (Or.inr ⟨h13_, M63_, hI66_, hF67_, r62_, hs69_, h65_, rfl, rfl⟩)⟩)⟩)⟩
    · simp only [li_0, li_31] at h10_
      refine w_if_eq (tgt := 26) dX12_learn_17 (by decide) li_0 (fun h70_ => ?_) (fun h9 => (absurd h9 (by decide)))
      refine w_aload_n dX12_learn_26 rfl 0 rfl ?_
      refine w_ldc (v := (-1000001)) m_1433 dX12_learn_27 ?_
      refine w_callV (as := [vI (-1000001)]) (rest := []) (c_X12_finding l G cy ad (d + 8) (-1000001) Mz hIz (by first | decide | (unfold vF; omega) | (unfold vRw; omega))) kV_X12_finding pnn_17 (Nat.le_of_ble_eq_true rfl) m_1434 rfl rfl rfl ic_12 rfl rfl (by decide) (Nat.le_of_ble_eq_true rfl) dX12_learn_29 (fun r71_ M72_ q73_ => ?_)
      obtain ⟨hI75_, hF76_, h74_, hs78_⟩ := q73_
      have hF77_ := hFz.tr hF76_ (fun c k => (fun h => h.elim (fun h => (Or.inr (Or.inr (Or.inr (Or.inr (Or.inl ⟨h.1, h.2⟩)))))) (fun h => h.elim)))
      simp only [li_m1000001] at h74_
      exact w_iret rfl dX12_learn_32 ⟨hI75_, hF77_, trivial, (Or.inl ⟨hs5_, h4_, (Or.inr ⟨hs11_, h10_, M72_, hI75_, hF76_, r71_, hs78_, h74_, rfl, rfl⟩)⟩)⟩
  · simp only [li_0, li_31] at h4_
    refine w_if_eq (tgt := 26) dX12_learn_7 (by decide) li_0 (fun h79_ => ?_) (fun h9 => (absurd h9 (by decide)))
    refine w_aload_n dX12_learn_26 rfl 0 rfl ?_
    refine w_ldc (v := (-1000001)) m_1433 dX12_learn_27 ?_
    refine w_callV (as := [vI (-1000001)]) (rest := []) (c_X12_finding l G cy ad (d + 8) (-1000001) Mz hIz (by first | decide | (unfold vF; omega) | (unfold vRw; omega))) kV_X12_finding pnn_17 (Nat.le_of_ble_eq_true rfl) m_1434 rfl rfl rfl ic_12 rfl rfl (by decide) (Nat.le_of_ble_eq_true rfl) dX12_learn_29 (fun r80_ M81_ q82_ => ?_)
    obtain ⟨hI84_, hF85_, h83_, hs87_⟩ := q82_
    have hF86_ := hFz.tr hF85_ (fun c k => (fun h => h.elim (fun h => (Or.inr (Or.inr (Or.inr (Or.inr (Or.inl ⟨h.1, h.2⟩)))))) (fun h => h.elim)))
    simp only [li_m1000001] at h83_
    exact w_iret rfl dX12_learn_32 ⟨hI84_, hF86_, trivial, (Or.inr ⟨hs5_, h4_, M81_, hI84_, hF85_, r80_, hs87_, h83_, rfl, rfl⟩)⟩
end
section
/-! words of the tables that are used, by their places; decode rows; fields -/
theorem ch_cX12_hasOwn_0 : (cX12_hasOwn.data.toList.drop 0).take 36 = [26, 170, 0, 0, 0, 0, 0, 113, 0, 0, 0, 0, 0, 0, 0, 6, 0, 0, 0, 43, 0, 0, 0, 45, 0, 0, 0, 60, 0, 0, 0, 71, 0, 0, 0, 86] := by decide +kernel
theorem dX12_hasOwn_0 : decode cX12_hasOwn 0 = .ok (.iload_n 0, 1) := do_26 (rdb (p := 0) (i := 0) ch_cX12_hasOwn_0 rfl)
theorem dX12_hasOwn_1 : decode cX12_hasOwn 1 = .ok (.tableswitch 113 0 6 #[43, 45, 60, 71, 86, 60, 97], 43) := by decide +kernel
theorem ch_cX12_hasOwn_32 : (cX12_hasOwn.data.toList.drop 32).take 36 = [0, 0, 0, 86, 0, 0, 0, 60, 0, 0, 0, 97, 4, 172, 27, 153, 0, 8, 27, 6, 160, 0, 7, 4, 167, 0, 4, 3, 172, 27, 4, 160, 0, 7, 4, 167] := by decide +kernel
theorem dX12_hasOwn_44 : decode cX12_hasOwn 44 = .ok (.iconst 1, 1) := do_4 (rdb (p := 32) (i := 12) ch_cX12_hasOwn_32 rfl)
theorem dX12_hasOwn_45 : decode cX12_hasOwn 45 = .ok (.ireturn, 1) := do_172 (rdb (p := 32) (i := 13) ch_cX12_hasOwn_32 rfl)
theorem dX12_hasOwn_46 : decode cX12_hasOwn 46 = .ok (.iload_n 1, 1) := do_27 (rdb (p := 32) (i := 14) ch_cX12_hasOwn_32 rfl)
theorem dX12_hasOwn_47 : decode cX12_hasOwn 47 = .ok (.ifCond .eq 8, 3) := do_153 (rdb (p := 32) (i := 15) ch_cX12_hasOwn_32 rfl) (rdb (p := 32) (i := 16) ch_cX12_hasOwn_32 rfl) (rdb (p := 32) (i := 17) ch_cX12_hasOwn_32 rfl) (by decide +kernel)
theorem dX12_hasOwn_50 : decode cX12_hasOwn 50 = .ok (.iload_n 1, 1) := do_27 (rdb (p := 32) (i := 18) ch_cX12_hasOwn_32 rfl)
theorem dX12_hasOwn_51 : decode cX12_hasOwn 51 = .ok (.iconst 3, 1) := do_6 (rdb (p := 32) (i := 19) ch_cX12_hasOwn_32 rfl)
theorem dX12_hasOwn_52 : decode cX12_hasOwn 52 = .ok (.if_icmp .ne 7, 3) := do_160 (rdb (p := 32) (i := 20) ch_cX12_hasOwn_32 rfl) (rdb (p := 32) (i := 21) ch_cX12_hasOwn_32 rfl) (rdb (p := 32) (i := 22) ch_cX12_hasOwn_32 rfl) (by decide +kernel)
theorem dX12_hasOwn_55 : decode cX12_hasOwn 55 = .ok (.iconst 1, 1) := do_4 (rdb (p := 32) (i := 23) ch_cX12_hasOwn_32 rfl)
theorem dX12_hasOwn_56 : decode cX12_hasOwn 56 = .ok (.goto 4, 3) := do_167 (rdb (p := 32) (i := 24) ch_cX12_hasOwn_32 rfl) (rdb (p := 32) (i := 25) ch_cX12_hasOwn_32 rfl) (rdb (p := 32) (i := 26) ch_cX12_hasOwn_32 rfl) (by decide +kernel)
theorem dX12_hasOwn_59 : decode cX12_hasOwn 59 = .ok (.iconst 0, 1) := do_3 (rdb (p := 32) (i := 27) ch_cX12_hasOwn_32 rfl)
theorem dX12_hasOwn_60 : decode cX12_hasOwn 60 = .ok (.ireturn, 1) := do_172 (rdb (p := 32) (i := 28) ch_cX12_hasOwn_32 rfl)
theorem dX12_hasOwn_61 : decode cX12_hasOwn 61 = .ok (.iload_n 1, 1) := do_27 (rdb (p := 32) (i := 29) ch_cX12_hasOwn_32 rfl)
theorem dX12_hasOwn_62 : decode cX12_hasOwn 62 = .ok (.iconst 1, 1) := do_4 (rdb (p := 32) (i := 30) ch_cX12_hasOwn_32 rfl)
theorem dX12_hasOwn_63 : decode cX12_hasOwn 63 = .ok (.if_icmp .ne 7, 3) := do_160 (rdb (p := 32) (i := 31) ch_cX12_hasOwn_32 rfl) (rdb (p := 32) (i := 32) ch_cX12_hasOwn_32 rfl) (rdb (p := 32) (i := 33) ch_cX12_hasOwn_32 rfl) (by decide +kernel)
theorem ch_cX12_hasOwn_64 : (cX12_hasOwn.data.toList.drop 64).take 36 = [0, 7, 4, 167, 0, 4, 3, 172, 27, 153, 0, 8, 27, 5, 160, 0, 7, 4, 167, 0, 4, 3, 172, 27, 5, 160, 0, 7, 4, 167, 0, 4, 3, 172, 27, 4] := by decide +kernel
theorem dX12_hasOwn_66 : decode cX12_hasOwn 66 = .ok (.iconst 1, 1) := do_4 (rdb (p := 64) (i := 2) ch_cX12_hasOwn_64 rfl)
theorem dX12_hasOwn_67 : decode cX12_hasOwn 67 = .ok (.goto 4, 3) := do_167 (rdb (p := 64) (i := 3) ch_cX12_hasOwn_64 rfl) (rdb (p := 64) (i := 4) ch_cX12_hasOwn_64 rfl) (rdb (p := 64) (i := 5) ch_cX12_hasOwn_64 rfl) (by decide +kernel)
theorem dX12_hasOwn_70 : decode cX12_hasOwn 70 = .ok (.iconst 0, 1) := do_3 (rdb (p := 64) (i := 6) ch_cX12_hasOwn_64 rfl)
theorem dX12_hasOwn_71 : decode cX12_hasOwn 71 = .ok (.ireturn, 1) := do_172 (rdb (p := 64) (i := 7) ch_cX12_hasOwn_64 rfl)
theorem dX12_hasOwn_72 : decode cX12_hasOwn 72 = .ok (.iload_n 1, 1) := do_27 (rdb (p := 64) (i := 8) ch_cX12_hasOwn_64 rfl)
theorem dX12_hasOwn_73 : decode cX12_hasOwn 73 = .ok (.ifCond .eq 8, 3) := do_153 (rdb (p := 64) (i := 9) ch_cX12_hasOwn_64 rfl) (rdb (p := 64) (i := 10) ch_cX12_hasOwn_64 rfl) (rdb (p := 64) (i := 11) ch_cX12_hasOwn_64 rfl) (by decide +kernel)
theorem dX12_hasOwn_76 : decode cX12_hasOwn 76 = .ok (.iload_n 1, 1) := do_27 (rdb (p := 64) (i := 12) ch_cX12_hasOwn_64 rfl)
theorem dX12_hasOwn_77 : decode cX12_hasOwn 77 = .ok (.iconst 2, 1) := do_5 (rdb (p := 64) (i := 13) ch_cX12_hasOwn_64 rfl)
theorem dX12_hasOwn_78 : decode cX12_hasOwn 78 = .ok (.if_icmp .ne 7, 3) := do_160 (rdb (p := 64) (i := 14) ch_cX12_hasOwn_64 rfl) (rdb (p := 64) (i := 15) ch_cX12_hasOwn_64 rfl) (rdb (p := 64) (i := 16) ch_cX12_hasOwn_64 rfl) (by decide +kernel)
theorem dX12_hasOwn_81 : decode cX12_hasOwn 81 = .ok (.iconst 1, 1) := do_4 (rdb (p := 64) (i := 17) ch_cX12_hasOwn_64 rfl)
theorem dX12_hasOwn_82 : decode cX12_hasOwn 82 = .ok (.goto 4, 3) := do_167 (rdb (p := 64) (i := 18) ch_cX12_hasOwn_64 rfl) (rdb (p := 64) (i := 19) ch_cX12_hasOwn_64 rfl) (rdb (p := 64) (i := 20) ch_cX12_hasOwn_64 rfl) (by decide +kernel)
theorem dX12_hasOwn_85 : decode cX12_hasOwn 85 = .ok (.iconst 0, 1) := do_3 (rdb (p := 64) (i := 21) ch_cX12_hasOwn_64 rfl)
theorem dX12_hasOwn_86 : decode cX12_hasOwn 86 = .ok (.ireturn, 1) := do_172 (rdb (p := 64) (i := 22) ch_cX12_hasOwn_64 rfl)
theorem dX12_hasOwn_87 : decode cX12_hasOwn 87 = .ok (.iload_n 1, 1) := do_27 (rdb (p := 64) (i := 23) ch_cX12_hasOwn_64 rfl)
theorem dX12_hasOwn_88 : decode cX12_hasOwn 88 = .ok (.iconst 2, 1) := do_5 (rdb (p := 64) (i := 24) ch_cX12_hasOwn_64 rfl)
theorem dX12_hasOwn_89 : decode cX12_hasOwn 89 = .ok (.if_icmp .ne 7, 3) := do_160 (rdb (p := 64) (i := 25) ch_cX12_hasOwn_64 rfl) (rdb (p := 64) (i := 26) ch_cX12_hasOwn_64 rfl) (rdb (p := 64) (i := 27) ch_cX12_hasOwn_64 rfl) (by decide +kernel)
theorem dX12_hasOwn_92 : decode cX12_hasOwn 92 = .ok (.iconst 1, 1) := do_4 (rdb (p := 64) (i := 28) ch_cX12_hasOwn_64 rfl)
theorem dX12_hasOwn_93 : decode cX12_hasOwn 93 = .ok (.goto 4, 3) := do_167 (rdb (p := 64) (i := 29) ch_cX12_hasOwn_64 rfl) (rdb (p := 64) (i := 30) ch_cX12_hasOwn_64 rfl) (rdb (p := 64) (i := 31) ch_cX12_hasOwn_64 rfl) (by decide +kernel)
theorem ch_cX12_hasOwn_96 : (cX12_hasOwn.data.toList.drop 96).take 36 = [3, 172, 27, 4, 159, 0, 8, 27, 5, 160, 0, 7, 4, 167, 0, 4, 3, 172, 27, 6, 160, 0, 7, 4, 167, 0, 4, 3, 172] := by decide +kernel
theorem dX12_hasOwn_96 : decode cX12_hasOwn 96 = .ok (.iconst 0, 1) := do_3 (rdb (p := 96) (i := 0) ch_cX12_hasOwn_96 rfl)
theorem dX12_hasOwn_97 : decode cX12_hasOwn 97 = .ok (.ireturn, 1) := do_172 (rdb (p := 96) (i := 1) ch_cX12_hasOwn_96 rfl)
theorem dX12_hasOwn_98 : decode cX12_hasOwn 98 = .ok (.iload_n 1, 1) := do_27 (rdb (p := 96) (i := 2) ch_cX12_hasOwn_96 rfl)
theorem dX12_hasOwn_99 : decode cX12_hasOwn 99 = .ok (.iconst 1, 1) := do_4 (rdb (p := 96) (i := 3) ch_cX12_hasOwn_96 rfl)
theorem dX12_hasOwn_100 : decode cX12_hasOwn 100 = .ok (.if_icmp .eq 8, 3) := do_159 (rdb (p := 96) (i := 4) ch_cX12_hasOwn_96 rfl) (rdb (p := 96) (i := 5) ch_cX12_hasOwn_96 rfl) (rdb (p := 96) (i := 6) ch_cX12_hasOwn_96 rfl) (by decide +kernel)
theorem dX12_hasOwn_103 : decode cX12_hasOwn 103 = .ok (.iload_n 1, 1) := do_27 (rdb (p := 96) (i := 7) ch_cX12_hasOwn_96 rfl)
theorem dX12_hasOwn_104 : decode cX12_hasOwn 104 = .ok (.iconst 2, 1) := do_5 (rdb (p := 96) (i := 8) ch_cX12_hasOwn_96 rfl)
theorem dX12_hasOwn_105 : decode cX12_hasOwn 105 = .ok (.if_icmp .ne 7, 3) := do_160 (rdb (p := 96) (i := 9) ch_cX12_hasOwn_96 rfl) (rdb (p := 96) (i := 10) ch_cX12_hasOwn_96 rfl) (rdb (p := 96) (i := 11) ch_cX12_hasOwn_96 rfl) (by decide +kernel)
theorem dX12_hasOwn_108 : decode cX12_hasOwn 108 = .ok (.iconst 1, 1) := do_4 (rdb (p := 96) (i := 12) ch_cX12_hasOwn_96 rfl)
theorem dX12_hasOwn_109 : decode cX12_hasOwn 109 = .ok (.goto 4, 3) := do_167 (rdb (p := 96) (i := 13) ch_cX12_hasOwn_96 rfl) (rdb (p := 96) (i := 14) ch_cX12_hasOwn_96 rfl) (rdb (p := 96) (i := 15) ch_cX12_hasOwn_96 rfl) (by decide +kernel)
theorem dX12_hasOwn_112 : decode cX12_hasOwn 112 = .ok (.iconst 0, 1) := do_3 (rdb (p := 96) (i := 16) ch_cX12_hasOwn_96 rfl)
theorem dX12_hasOwn_113 : decode cX12_hasOwn 113 = .ok (.ireturn, 1) := do_172 (rdb (p := 96) (i := 17) ch_cX12_hasOwn_96 rfl)
theorem dX12_hasOwn_114 : decode cX12_hasOwn 114 = .ok (.iload_n 1, 1) := do_27 (rdb (p := 96) (i := 18) ch_cX12_hasOwn_96 rfl)
theorem dX12_hasOwn_115 : decode cX12_hasOwn 115 = .ok (.iconst 3, 1) := do_6 (rdb (p := 96) (i := 19) ch_cX12_hasOwn_96 rfl)
theorem dX12_hasOwn_116 : decode cX12_hasOwn 116 = .ok (.if_icmp .ne 7, 3) := do_160 (rdb (p := 96) (i := 20) ch_cX12_hasOwn_96 rfl) (rdb (p := 96) (i := 21) ch_cX12_hasOwn_96 rfl) (rdb (p := 96) (i := 22) ch_cX12_hasOwn_96 rfl) (by decide +kernel)
theorem dX12_hasOwn_119 : decode cX12_hasOwn 119 = .ok (.iconst 1, 1) := do_4 (rdb (p := 96) (i := 23) ch_cX12_hasOwn_96 rfl)
theorem dX12_hasOwn_120 : decode cX12_hasOwn 120 = .ok (.goto 4, 3) := do_167 (rdb (p := 96) (i := 24) ch_cX12_hasOwn_96 rfl) (rdb (p := 96) (i := 25) ch_cX12_hasOwn_96 rfl) (rdb (p := 96) (i := 26) ch_cX12_hasOwn_96 rfl) (by decide +kernel)
theorem dX12_hasOwn_123 : decode cX12_hasOwn 123 = .ok (.iconst 0, 1) := do_3 (rdb (p := 96) (i := 27) ch_cX12_hasOwn_96 rfl)
theorem dX12_hasOwn_124 : decode cX12_hasOwn 124 = .ok (.ireturn, 1) := do_172 (rdb (p := 96) (i := 28) ch_cX12_hasOwn_96 rfl)
end
section
def SP_X12_hasOwn (v : Int32) (u : Int32) (Mz : mM) (r_ : Int32) : Prop := (((v.toInt = 0) ∧ r_ = 1) ∨ ((v.toInt = 1) ∧ (((u.toInt = 0) ∧ r_ = 1) ∨ ((¬ u.toInt = 0) ∧ (((¬ u.toInt = 3) ∧ r_ = 0) ∨ ((u.toInt = 3) ∧ r_ = 1))))) ∨ ((v.toInt = 2) ∧ (((¬ u.toInt = 1) ∧ r_ = 0) ∨ ((u.toInt = 1) ∧ r_ = 1))) ∨ ((v.toInt = 3) ∧ (((u.toInt = 0) ∧ r_ = 1) ∨ ((¬ u.toInt = 0) ∧ (((¬ u.toInt = 2) ∧ r_ = 0) ∨ ((u.toInt = 2) ∧ r_ = 1))))) ∨ ((v.toInt = 4) ∧ (((¬ u.toInt = 2) ∧ r_ = 0) ∨ ((u.toInt = 2) ∧ r_ = 1))) ∨ ((v.toInt = 5) ∧ (((¬ u.toInt = 1) ∧ r_ = 0) ∨ ((u.toInt = 1) ∧ r_ = 1))) ∨ ((v.toInt = 6) ∧ (((u.toInt = 1) ∧ r_ = 1) ∨ ((¬ u.toInt = 1) ∧ (((¬ u.toInt = 2) ∧ r_ = 0) ∨ ((u.toInt = 2) ∧ r_ = 1))))) ∨ (((¬ v.toInt = 0 ∧ ¬ v.toInt = 1 ∧ ¬ v.toInt = 2 ∧ ¬ v.toInt = 3 ∧ ¬ v.toInt = 4 ∧ ¬ v.toInt = 5 ∧ ¬ v.toInt = 6)) ∧ (((¬ u.toInt = 3) ∧ r_ = 0) ∨ ((u.toInt = 3) ∧ r_ = 1))))
theorem lf_c_X12_hasOwn_0 (v : Int32) (hv : 0 ≤ v.toInt ∧ v.toInt ≤ 7) : v.toInt = 0 ∨ v.toInt = 1 ∨ v.toInt = 2 ∨ v.toInt = 3 ∨ v.toInt = 4 ∨ v.toInt = 5 ∨ v.toInt = 6 ∨ (¬ v.toInt = 0 ∧ ¬ v.toInt = 1 ∧ ¬ v.toInt = 2 ∧ ¬ v.toInt = 3 ∧ ¬ v.toInt = 4 ∧ ¬ v.toInt = 5 ∧ ¬ v.toInt = 6) := by have r_v := rngI v; omega
theorem lf_c_X12_hasOwn_1 (v : Int32) (u : Int32) (hv : 0 ≤ v.toInt ∧ v.toInt ≤ 7) (hu : 0 ≤ u.toInt ∧ u.toInt ≤ 3) (e1_ : v.toInt = 0) : 0 ≤ (1 : Int32).toInt ∧ (1 : Int32).toInt ≤ 1 ∧ ((1 : Int32).toInt = 0 ∨ ((v.toInt = 0 ∧ (u.toInt = 0 ∨ u.toInt = 1 ∨ u.toInt = 2 ∨ u.toInt = 3)) ∨ (v.toInt = 1 ∧ (u.toInt = 0 ∨ u.toInt = 3)) ∨ (v.toInt = 2 ∧ (u.toInt = 1)) ∨ (v.toInt = 3 ∧ (u.toInt = 0 ∨ u.toInt = 2)) ∨ (v.toInt = 4 ∧ (u.toInt = 2)) ∨ (v.toInt = 5 ∧ (u.toInt = 1)) ∨ (v.toInt = 6 ∧ (u.toInt = 1 ∨ u.toInt = 2)) ∨ (v.toInt = 7 ∧ (u.toInt = 3)))) ∧ ((1 : Int32).toInt = 0 → ¬ v.toInt = 0) := by have r_v := rngI v; have r_u := rngI u; have r9 := li_1; omega
theorem lf_c_X12_hasOwn_2 (v : Int32) (u : Int32) (hv : 0 ≤ v.toInt ∧ v.toInt ≤ 7) (hu : 0 ≤ u.toInt ∧ u.toInt ≤ 3) (e1_ : v.toInt = 1) (h2_ : u.toInt = 0) : 0 ≤ (1 : Int32).toInt ∧ (1 : Int32).toInt ≤ 1 ∧ ((1 : Int32).toInt = 0 ∨ ((v.toInt = 0 ∧ (u.toInt = 0 ∨ u.toInt = 1 ∨ u.toInt = 2 ∨ u.toInt = 3)) ∨ (v.toInt = 1 ∧ (u.toInt = 0 ∨ u.toInt = 3)) ∨ (v.toInt = 2 ∧ (u.toInt = 1)) ∨ (v.toInt = 3 ∧ (u.toInt = 0 ∨ u.toInt = 2)) ∨ (v.toInt = 4 ∧ (u.toInt = 2)) ∨ (v.toInt = 5 ∧ (u.toInt = 1)) ∨ (v.toInt = 6 ∧ (u.toInt = 1 ∨ u.toInt = 2)) ∨ (v.toInt = 7 ∧ (u.toInt = 3)))) ∧ ((1 : Int32).toInt = 0 → ¬ v.toInt = 0) := by have r_v := rngI v; have r_u := rngI u; have r9 := li_1; omega
theorem lf_c_X12_hasOwn_3 (v : Int32) (u : Int32) (hv : 0 ≤ v.toInt ∧ v.toInt ≤ 7) (hu : 0 ≤ u.toInt ∧ u.toInt ≤ 3) (e1_ : v.toInt = 1) (h2_ : ¬ u.toInt = 0) (h3_ : ¬ u.toInt = 3) : 0 ≤ (0 : Int32).toInt ∧ (0 : Int32).toInt ≤ 1 ∧ ((0 : Int32).toInt = 0 ∨ ((v.toInt = 0 ∧ (u.toInt = 0 ∨ u.toInt = 1 ∨ u.toInt = 2 ∨ u.toInt = 3)) ∨ (v.toInt = 1 ∧ (u.toInt = 0 ∨ u.toInt = 3)) ∨ (v.toInt = 2 ∧ (u.toInt = 1)) ∨ (v.toInt = 3 ∧ (u.toInt = 0 ∨ u.toInt = 2)) ∨ (v.toInt = 4 ∧ (u.toInt = 2)) ∨ (v.toInt = 5 ∧ (u.toInt = 1)) ∨ (v.toInt = 6 ∧ (u.toInt = 1 ∨ u.toInt = 2)) ∨ (v.toInt = 7 ∧ (u.toInt = 3)))) ∧ ((0 : Int32).toInt = 0 → ¬ v.toInt = 0) := by have r_v := rngI v; have r_u := rngI u; have r9 := li_0; omega
theorem lf_c_X12_hasOwn_4 (v : Int32) (u : Int32) (hv : 0 ≤ v.toInt ∧ v.toInt ≤ 7) (hu : 0 ≤ u.toInt ∧ u.toInt ≤ 3) (e1_ : v.toInt = 1) (h2_ : ¬ u.toInt = 0) (h3_ : u.toInt = 3) : 0 ≤ (1 : Int32).toInt ∧ (1 : Int32).toInt ≤ 1 ∧ ((1 : Int32).toInt = 0 ∨ ((v.toInt = 0 ∧ (u.toInt = 0 ∨ u.toInt = 1 ∨ u.toInt = 2 ∨ u.toInt = 3)) ∨ (v.toInt = 1 ∧ (u.toInt = 0 ∨ u.toInt = 3)) ∨ (v.toInt = 2 ∧ (u.toInt = 1)) ∨ (v.toInt = 3 ∧ (u.toInt = 0 ∨ u.toInt = 2)) ∨ (v.toInt = 4 ∧ (u.toInt = 2)) ∨ (v.toInt = 5 ∧ (u.toInt = 1)) ∨ (v.toInt = 6 ∧ (u.toInt = 1 ∨ u.toInt = 2)) ∨ (v.toInt = 7 ∧ (u.toInt = 3)))) ∧ ((1 : Int32).toInt = 0 → ¬ v.toInt = 0) := by have r_v := rngI v; have r_u := rngI u; have r9 := li_1; omega
theorem lf_c_X12_hasOwn_5 (v : Int32) (u : Int32) (hv : 0 ≤ v.toInt ∧ v.toInt ≤ 7) (hu : 0 ≤ u.toInt ∧ u.toInt ≤ 3) (e1_ : v.toInt = 2) (h4_ : ¬ u.toInt = 1) : 0 ≤ (0 : Int32).toInt ∧ (0 : Int32).toInt ≤ 1 ∧ ((0 : Int32).toInt = 0 ∨ ((v.toInt = 0 ∧ (u.toInt = 0 ∨ u.toInt = 1 ∨ u.toInt = 2 ∨ u.toInt = 3)) ∨ (v.toInt = 1 ∧ (u.toInt = 0 ∨ u.toInt = 3)) ∨ (v.toInt = 2 ∧ (u.toInt = 1)) ∨ (v.toInt = 3 ∧ (u.toInt = 0 ∨ u.toInt = 2)) ∨ (v.toInt = 4 ∧ (u.toInt = 2)) ∨ (v.toInt = 5 ∧ (u.toInt = 1)) ∨ (v.toInt = 6 ∧ (u.toInt = 1 ∨ u.toInt = 2)) ∨ (v.toInt = 7 ∧ (u.toInt = 3)))) ∧ ((0 : Int32).toInt = 0 → ¬ v.toInt = 0) := by have r_v := rngI v; have r_u := rngI u; have r9 := li_0; omega
theorem lf_c_X12_hasOwn_6 (v : Int32) (u : Int32) (hv : 0 ≤ v.toInt ∧ v.toInt ≤ 7) (hu : 0 ≤ u.toInt ∧ u.toInt ≤ 3) (e1_ : v.toInt = 2) (h4_ : u.toInt = 1) : 0 ≤ (1 : Int32).toInt ∧ (1 : Int32).toInt ≤ 1 ∧ ((1 : Int32).toInt = 0 ∨ ((v.toInt = 0 ∧ (u.toInt = 0 ∨ u.toInt = 1 ∨ u.toInt = 2 ∨ u.toInt = 3)) ∨ (v.toInt = 1 ∧ (u.toInt = 0 ∨ u.toInt = 3)) ∨ (v.toInt = 2 ∧ (u.toInt = 1)) ∨ (v.toInt = 3 ∧ (u.toInt = 0 ∨ u.toInt = 2)) ∨ (v.toInt = 4 ∧ (u.toInt = 2)) ∨ (v.toInt = 5 ∧ (u.toInt = 1)) ∨ (v.toInt = 6 ∧ (u.toInt = 1 ∨ u.toInt = 2)) ∨ (v.toInt = 7 ∧ (u.toInt = 3)))) ∧ ((1 : Int32).toInt = 0 → ¬ v.toInt = 0) := by have r_v := rngI v; have r_u := rngI u; have r9 := li_1; omega
theorem lf_c_X12_hasOwn_7 (v : Int32) (u : Int32) (hv : 0 ≤ v.toInt ∧ v.toInt ≤ 7) (hu : 0 ≤ u.toInt ∧ u.toInt ≤ 3) (e1_ : v.toInt = 3) (h5_ : u.toInt = 0) : 0 ≤ (1 : Int32).toInt ∧ (1 : Int32).toInt ≤ 1 ∧ ((1 : Int32).toInt = 0 ∨ ((v.toInt = 0 ∧ (u.toInt = 0 ∨ u.toInt = 1 ∨ u.toInt = 2 ∨ u.toInt = 3)) ∨ (v.toInt = 1 ∧ (u.toInt = 0 ∨ u.toInt = 3)) ∨ (v.toInt = 2 ∧ (u.toInt = 1)) ∨ (v.toInt = 3 ∧ (u.toInt = 0 ∨ u.toInt = 2)) ∨ (v.toInt = 4 ∧ (u.toInt = 2)) ∨ (v.toInt = 5 ∧ (u.toInt = 1)) ∨ (v.toInt = 6 ∧ (u.toInt = 1 ∨ u.toInt = 2)) ∨ (v.toInt = 7 ∧ (u.toInt = 3)))) ∧ ((1 : Int32).toInt = 0 → ¬ v.toInt = 0) := by have r_v := rngI v; have r_u := rngI u; have r9 := li_1; omega
theorem lf_c_X12_hasOwn_8 (v : Int32) (u : Int32) (hv : 0 ≤ v.toInt ∧ v.toInt ≤ 7) (hu : 0 ≤ u.toInt ∧ u.toInt ≤ 3) (e1_ : v.toInt = 3) (h5_ : ¬ u.toInt = 0) (h6_ : ¬ u.toInt = 2) : 0 ≤ (0 : Int32).toInt ∧ (0 : Int32).toInt ≤ 1 ∧ ((0 : Int32).toInt = 0 ∨ ((v.toInt = 0 ∧ (u.toInt = 0 ∨ u.toInt = 1 ∨ u.toInt = 2 ∨ u.toInt = 3)) ∨ (v.toInt = 1 ∧ (u.toInt = 0 ∨ u.toInt = 3)) ∨ (v.toInt = 2 ∧ (u.toInt = 1)) ∨ (v.toInt = 3 ∧ (u.toInt = 0 ∨ u.toInt = 2)) ∨ (v.toInt = 4 ∧ (u.toInt = 2)) ∨ (v.toInt = 5 ∧ (u.toInt = 1)) ∨ (v.toInt = 6 ∧ (u.toInt = 1 ∨ u.toInt = 2)) ∨ (v.toInt = 7 ∧ (u.toInt = 3)))) ∧ ((0 : Int32).toInt = 0 → ¬ v.toInt = 0) := by have r_v := rngI v; have r_u := rngI u; have r9 := li_0; omega
theorem lf_c_X12_hasOwn_9 (v : Int32) (u : Int32) (hv : 0 ≤ v.toInt ∧ v.toInt ≤ 7) (hu : 0 ≤ u.toInt ∧ u.toInt ≤ 3) (e1_ : v.toInt = 3) (h5_ : ¬ u.toInt = 0) (h6_ : u.toInt = 2) : 0 ≤ (1 : Int32).toInt ∧ (1 : Int32).toInt ≤ 1 ∧ ((1 : Int32).toInt = 0 ∨ ((v.toInt = 0 ∧ (u.toInt = 0 ∨ u.toInt = 1 ∨ u.toInt = 2 ∨ u.toInt = 3)) ∨ (v.toInt = 1 ∧ (u.toInt = 0 ∨ u.toInt = 3)) ∨ (v.toInt = 2 ∧ (u.toInt = 1)) ∨ (v.toInt = 3 ∧ (u.toInt = 0 ∨ u.toInt = 2)) ∨ (v.toInt = 4 ∧ (u.toInt = 2)) ∨ (v.toInt = 5 ∧ (u.toInt = 1)) ∨ (v.toInt = 6 ∧ (u.toInt = 1 ∨ u.toInt = 2)) ∨ (v.toInt = 7 ∧ (u.toInt = 3)))) ∧ ((1 : Int32).toInt = 0 → ¬ v.toInt = 0) := by have r_v := rngI v; have r_u := rngI u; have r9 := li_1; omega
theorem lf_c_X12_hasOwn_10 (v : Int32) (u : Int32) (hv : 0 ≤ v.toInt ∧ v.toInt ≤ 7) (hu : 0 ≤ u.toInt ∧ u.toInt ≤ 3) (e1_ : v.toInt = 4) (h7_ : ¬ u.toInt = 2) : 0 ≤ (0 : Int32).toInt ∧ (0 : Int32).toInt ≤ 1 ∧ ((0 : Int32).toInt = 0 ∨ ((v.toInt = 0 ∧ (u.toInt = 0 ∨ u.toInt = 1 ∨ u.toInt = 2 ∨ u.toInt = 3)) ∨ (v.toInt = 1 ∧ (u.toInt = 0 ∨ u.toInt = 3)) ∨ (v.toInt = 2 ∧ (u.toInt = 1)) ∨ (v.toInt = 3 ∧ (u.toInt = 0 ∨ u.toInt = 2)) ∨ (v.toInt = 4 ∧ (u.toInt = 2)) ∨ (v.toInt = 5 ∧ (u.toInt = 1)) ∨ (v.toInt = 6 ∧ (u.toInt = 1 ∨ u.toInt = 2)) ∨ (v.toInt = 7 ∧ (u.toInt = 3)))) ∧ ((0 : Int32).toInt = 0 → ¬ v.toInt = 0) := by have r_v := rngI v; have r_u := rngI u; have r9 := li_0; omega
theorem lf_c_X12_hasOwn_11 (v : Int32) (u : Int32) (hv : 0 ≤ v.toInt ∧ v.toInt ≤ 7) (hu : 0 ≤ u.toInt ∧ u.toInt ≤ 3) (e1_ : v.toInt = 4) (h7_ : u.toInt = 2) : 0 ≤ (1 : Int32).toInt ∧ (1 : Int32).toInt ≤ 1 ∧ ((1 : Int32).toInt = 0 ∨ ((v.toInt = 0 ∧ (u.toInt = 0 ∨ u.toInt = 1 ∨ u.toInt = 2 ∨ u.toInt = 3)) ∨ (v.toInt = 1 ∧ (u.toInt = 0 ∨ u.toInt = 3)) ∨ (v.toInt = 2 ∧ (u.toInt = 1)) ∨ (v.toInt = 3 ∧ (u.toInt = 0 ∨ u.toInt = 2)) ∨ (v.toInt = 4 ∧ (u.toInt = 2)) ∨ (v.toInt = 5 ∧ (u.toInt = 1)) ∨ (v.toInt = 6 ∧ (u.toInt = 1 ∨ u.toInt = 2)) ∨ (v.toInt = 7 ∧ (u.toInt = 3)))) ∧ ((1 : Int32).toInt = 0 → ¬ v.toInt = 0) := by have r_v := rngI v; have r_u := rngI u; have r9 := li_1; omega
theorem lf_c_X12_hasOwn_12 (v : Int32) (u : Int32) (hv : 0 ≤ v.toInt ∧ v.toInt ≤ 7) (hu : 0 ≤ u.toInt ∧ u.toInt ≤ 3) (e1_ : v.toInt = 5) (h8_ : ¬ u.toInt = 1) : 0 ≤ (0 : Int32).toInt ∧ (0 : Int32).toInt ≤ 1 ∧ ((0 : Int32).toInt = 0 ∨ ((v.toInt = 0 ∧ (u.toInt = 0 ∨ u.toInt = 1 ∨ u.toInt = 2 ∨ u.toInt = 3)) ∨ (v.toInt = 1 ∧ (u.toInt = 0 ∨ u.toInt = 3)) ∨ (v.toInt = 2 ∧ (u.toInt = 1)) ∨ (v.toInt = 3 ∧ (u.toInt = 0 ∨ u.toInt = 2)) ∨ (v.toInt = 4 ∧ (u.toInt = 2)) ∨ (v.toInt = 5 ∧ (u.toInt = 1)) ∨ (v.toInt = 6 ∧ (u.toInt = 1 ∨ u.toInt = 2)) ∨ (v.toInt = 7 ∧ (u.toInt = 3)))) ∧ ((0 : Int32).toInt = 0 → ¬ v.toInt = 0) := by have r_v := rngI v; have r_u := rngI u; have r9 := li_0; omega
theorem lf_c_X12_hasOwn_13 (v : Int32) (u : Int32) (hv : 0 ≤ v.toInt ∧ v.toInt ≤ 7) (hu : 0 ≤ u.toInt ∧ u.toInt ≤ 3) (e1_ : v.toInt = 5) (h8_ : u.toInt = 1) : 0 ≤ (1 : Int32).toInt ∧ (1 : Int32).toInt ≤ 1 ∧ ((1 : Int32).toInt = 0 ∨ ((v.toInt = 0 ∧ (u.toInt = 0 ∨ u.toInt = 1 ∨ u.toInt = 2 ∨ u.toInt = 3)) ∨ (v.toInt = 1 ∧ (u.toInt = 0 ∨ u.toInt = 3)) ∨ (v.toInt = 2 ∧ (u.toInt = 1)) ∨ (v.toInt = 3 ∧ (u.toInt = 0 ∨ u.toInt = 2)) ∨ (v.toInt = 4 ∧ (u.toInt = 2)) ∨ (v.toInt = 5 ∧ (u.toInt = 1)) ∨ (v.toInt = 6 ∧ (u.toInt = 1 ∨ u.toInt = 2)) ∨ (v.toInt = 7 ∧ (u.toInt = 3)))) ∧ ((1 : Int32).toInt = 0 → ¬ v.toInt = 0) := by have r_v := rngI v; have r_u := rngI u; have r9 := li_1; omega
theorem lf_c_X12_hasOwn_14 (v : Int32) (u : Int32) (hv : 0 ≤ v.toInt ∧ v.toInt ≤ 7) (hu : 0 ≤ u.toInt ∧ u.toInt ≤ 3) (e1_ : v.toInt = 6) (h9_ : u.toInt = 1) : 0 ≤ (1 : Int32).toInt ∧ (1 : Int32).toInt ≤ 1 ∧ ((1 : Int32).toInt = 0 ∨ ((v.toInt = 0 ∧ (u.toInt = 0 ∨ u.toInt = 1 ∨ u.toInt = 2 ∨ u.toInt = 3)) ∨ (v.toInt = 1 ∧ (u.toInt = 0 ∨ u.toInt = 3)) ∨ (v.toInt = 2 ∧ (u.toInt = 1)) ∨ (v.toInt = 3 ∧ (u.toInt = 0 ∨ u.toInt = 2)) ∨ (v.toInt = 4 ∧ (u.toInt = 2)) ∨ (v.toInt = 5 ∧ (u.toInt = 1)) ∨ (v.toInt = 6 ∧ (u.toInt = 1 ∨ u.toInt = 2)) ∨ (v.toInt = 7 ∧ (u.toInt = 3)))) ∧ ((1 : Int32).toInt = 0 → ¬ v.toInt = 0) := by have r_v := rngI v; have r_u := rngI u; have r9 := li_1; omega
theorem lf_c_X12_hasOwn_15 (v : Int32) (u : Int32) (hv : 0 ≤ v.toInt ∧ v.toInt ≤ 7) (hu : 0 ≤ u.toInt ∧ u.toInt ≤ 3) (e1_ : v.toInt = 6) (h9_ : ¬ u.toInt = 1) (h10_ : ¬ u.toInt = 2) : 0 ≤ (0 : Int32).toInt ∧ (0 : Int32).toInt ≤ 1 ∧ ((0 : Int32).toInt = 0 ∨ ((v.toInt = 0 ∧ (u.toInt = 0 ∨ u.toInt = 1 ∨ u.toInt = 2 ∨ u.toInt = 3)) ∨ (v.toInt = 1 ∧ (u.toInt = 0 ∨ u.toInt = 3)) ∨ (v.toInt = 2 ∧ (u.toInt = 1)) ∨ (v.toInt = 3 ∧ (u.toInt = 0 ∨ u.toInt = 2)) ∨ (v.toInt = 4 ∧ (u.toInt = 2)) ∨ (v.toInt = 5 ∧ (u.toInt = 1)) ∨ (v.toInt = 6 ∧ (u.toInt = 1 ∨ u.toInt = 2)) ∨ (v.toInt = 7 ∧ (u.toInt = 3)))) ∧ ((0 : Int32).toInt = 0 → ¬ v.toInt = 0) := by have r_v := rngI v; have r_u := rngI u; have r9 := li_0; omega
theorem lf_c_X12_hasOwn_16 (v : Int32) (u : Int32) (hv : 0 ≤ v.toInt ∧ v.toInt ≤ 7) (hu : 0 ≤ u.toInt ∧ u.toInt ≤ 3) (e1_ : v.toInt = 6) (h9_ : ¬ u.toInt = 1) (h10_ : u.toInt = 2) : 0 ≤ (1 : Int32).toInt ∧ (1 : Int32).toInt ≤ 1 ∧ ((1 : Int32).toInt = 0 ∨ ((v.toInt = 0 ∧ (u.toInt = 0 ∨ u.toInt = 1 ∨ u.toInt = 2 ∨ u.toInt = 3)) ∨ (v.toInt = 1 ∧ (u.toInt = 0 ∨ u.toInt = 3)) ∨ (v.toInt = 2 ∧ (u.toInt = 1)) ∨ (v.toInt = 3 ∧ (u.toInt = 0 ∨ u.toInt = 2)) ∨ (v.toInt = 4 ∧ (u.toInt = 2)) ∨ (v.toInt = 5 ∧ (u.toInt = 1)) ∨ (v.toInt = 6 ∧ (u.toInt = 1 ∨ u.toInt = 2)) ∨ (v.toInt = 7 ∧ (u.toInt = 3)))) ∧ ((1 : Int32).toInt = 0 → ¬ v.toInt = 0) := by have r_v := rngI v; have r_u := rngI u; have r9 := li_1; omega
theorem lf_c_X12_hasOwn_17 (v : Int32) (hv : 0 ≤ v.toInt ∧ v.toInt ≤ 7) (e1_ : (¬ v.toInt = 0 ∧ ¬ v.toInt = 1 ∧ ¬ v.toInt = 2 ∧ ¬ v.toInt = 3 ∧ ¬ v.toInt = 4 ∧ ¬ v.toInt = 5 ∧ ¬ v.toInt = 6)) : v.toInt < 0 ∨ 6 < v.toInt := by have r_v := rngI v; omega
theorem lf_c_X12_hasOwn_18 (v : Int32) (u : Int32) (hv : 0 ≤ v.toInt ∧ v.toInt ≤ 7) (hu : 0 ≤ u.toInt ∧ u.toInt ≤ 3) (e1_ : (¬ v.toInt = 0 ∧ ¬ v.toInt = 1 ∧ ¬ v.toInt = 2 ∧ ¬ v.toInt = 3 ∧ ¬ v.toInt = 4 ∧ ¬ v.toInt = 5 ∧ ¬ v.toInt = 6)) (h11_ : ¬ u.toInt = 3) : 0 ≤ (0 : Int32).toInt ∧ (0 : Int32).toInt ≤ 1 ∧ ((0 : Int32).toInt = 0 ∨ ((v.toInt = 0 ∧ (u.toInt = 0 ∨ u.toInt = 1 ∨ u.toInt = 2 ∨ u.toInt = 3)) ∨ (v.toInt = 1 ∧ (u.toInt = 0 ∨ u.toInt = 3)) ∨ (v.toInt = 2 ∧ (u.toInt = 1)) ∨ (v.toInt = 3 ∧ (u.toInt = 0 ∨ u.toInt = 2)) ∨ (v.toInt = 4 ∧ (u.toInt = 2)) ∨ (v.toInt = 5 ∧ (u.toInt = 1)) ∨ (v.toInt = 6 ∧ (u.toInt = 1 ∨ u.toInt = 2)) ∨ (v.toInt = 7 ∧ (u.toInt = 3)))) ∧ ((0 : Int32).toInt = 0 → ¬ v.toInt = 0) := by have r_v := rngI v; have r_u := rngI u; have r9 := li_0; omega
theorem lf_c_X12_hasOwn_19 (v : Int32) (u : Int32) (hv : 0 ≤ v.toInt ∧ v.toInt ≤ 7) (hu : 0 ≤ u.toInt ∧ u.toInt ≤ 3) (e1_ : (¬ v.toInt = 0 ∧ ¬ v.toInt = 1 ∧ ¬ v.toInt = 2 ∧ ¬ v.toInt = 3 ∧ ¬ v.toInt = 4 ∧ ¬ v.toInt = 5 ∧ ¬ v.toInt = 6)) (h11_ : u.toInt = 3) : 0 ≤ (1 : Int32).toInt ∧ (1 : Int32).toInt ≤ 1 ∧ ((1 : Int32).toInt = 0 ∨ ((v.toInt = 0 ∧ (u.toInt = 0 ∨ u.toInt = 1 ∨ u.toInt = 2 ∨ u.toInt = 3)) ∨ (v.toInt = 1 ∧ (u.toInt = 0 ∨ u.toInt = 3)) ∨ (v.toInt = 2 ∧ (u.toInt = 1)) ∨ (v.toInt = 3 ∧ (u.toInt = 0 ∨ u.toInt = 2)) ∨ (v.toInt = 4 ∧ (u.toInt = 2)) ∨ (v.toInt = 5 ∧ (u.toInt = 1)) ∨ (v.toInt = 6 ∧ (u.toInt = 1 ∨ u.toInt = 2)) ∨ (v.toInt = 7 ∧ (u.toInt = 3)))) ∧ ((1 : Int32).toInt = 0 → ¬ v.toInt = 0) := by have r_v := rngI v; have r_u := rngI u; have r9 := li_1; omega
set_option maxHeartbeats 4000000 in
set_option maxRecDepth 100000 in
theorem c_X12_hasOwn (l : Launch) (G : va_G) (cy : Nat → ClassId) (ad : rf → Nat) (d : Nat) (v : Int32) (u : Int32) (Mz : mM) (hIz : InvD Mz) (hv : 0 ≤ v.toInt ∧ v.toInt ≤ 7) (hu : 0 ≤ u.toInt ∧ u.toInt ≤ 3) : WP DD l G cy ad yX12_hasOwn cX12_hasOwn 2 (some .boolean) d 0 [(0, vI v), (1, vI u)] [] Mz (fun r M' => Mz = M' ∧ (0 ≤ r.toInt ∧ r.toInt ≤ 1 ∧ (r.toInt = 0 ∨ ((v.toInt = 0 ∧ (u.toInt = 0 ∨ u.toInt = 1 ∨ u.toInt = 2 ∨ u.toInt = 3)) ∨ (v.toInt = 1 ∧ (u.toInt = 0 ∨ u.toInt = 3)) ∨ (v.toInt = 2 ∧ (u.toInt = 1)) ∨ (v.toInt = 3 ∧ (u.toInt = 0 ∨ u.toInt = 2)) ∨ (v.toInt = 4 ∧ (u.toInt = 2)) ∨ (v.toInt = 5 ∧ (u.toInt = 1)) ∨ (v.toInt = 6 ∧ (u.toInt = 1 ∨ u.toInt = 2)) ∨ (v.toInt = 7 ∧ (u.toInt = 3)))) ∧ (r.toInt = 0 → ¬ v.toInt = 0)) ∧ SP_X12_hasOwn v u Mz r) := by
  refine w_iload_n dX12_hasOwn_0 rfl 0 rfl ?_
  rcases (lf_c_X12_hasOwn_0 v hv ) with e1_ | e1_ | e1_ | e1_ | e1_ | e1_ | e1_ | e1_
  · refine w_tsIn (tgt := 44) (off := 43) dX12_hasOwn_1 e1_ (by decide) (by decide) rfl (by decide) ?_
    refine w_iconst (v := 1) dX12_hasOwn_44 (by decide) ?_
    exact w_zret rfl dX12_hasOwn_45 ⟨by decide, by decide⟩ ⟨rfl, (lf_c_X12_hasOwn_1 v u hv hu e1_ ), (Or.inl ⟨e1_, rfl⟩)⟩
  · refine w_tsIn (tgt := 46) (off := 45) dX12_hasOwn_1 e1_ (by decide) (by decide) rfl (by decide) ?_
    refine w_iload_n dX12_hasOwn_46 rfl 1 rfl ?_
    refine w_if_eq (tgt := 55) dX12_hasOwn_47 (by decide) (rfl : u.toInt = u.toInt) (fun h2_ => ?_) (fun h2_ => ?_)
    · refine w_iconst (v := 1) dX12_hasOwn_55 (by decide) ?_
      refine w_goto (tgt := 60) dX12_hasOwn_56 (by decide) ?_
      exact w_zret rfl dX12_hasOwn_60 ⟨by decide, by decide⟩ ⟨rfl, (lf_c_X12_hasOwn_2 v u hv hu e1_ h2_ ), (Or.inr (Or.inl ⟨e1_, (Or.inl ⟨h2_, rfl⟩)⟩))⟩
    · refine w_iload_n dX12_hasOwn_50 rfl 1 rfl ?_
      refine w_iconst (v := 3) dX12_hasOwn_51 (by decide) ?_
      refine w_icmp_ne (tgt := 59) dX12_hasOwn_52 (by decide) (rfl : u.toInt = u.toInt) li_3 (fun h3_ => ?_) (fun h3_ => ?_)
      · refine w_iconst (v := 0) dX12_hasOwn_59 (by decide) ?_
        exact w_zret rfl dX12_hasOwn_60 ⟨by decide, by decide⟩ ⟨rfl, (lf_c_X12_hasOwn_3 v u hv hu e1_ h2_ h3_ ), (Or.inr (Or.inl ⟨e1_, (Or.inr ⟨h2_, (Or.inl ⟨h3_, rfl⟩)⟩)⟩))⟩
      · refine w_iconst (v := 1) dX12_hasOwn_55 (by decide) ?_
        refine w_goto (tgt := 60) dX12_hasOwn_56 (by decide) ?_
        exact w_zret rfl dX12_hasOwn_60 ⟨by decide, by decide⟩ ⟨rfl, (lf_c_X12_hasOwn_4 v u hv hu e1_ h2_ h3_ ), (Or.inr (Or.inl ⟨e1_, (Or.inr ⟨h2_, (Or.inr ⟨h3_, rfl⟩)⟩)⟩))⟩
  · refine w_tsIn (tgt := 61) (off := 60) dX12_hasOwn_1 e1_ (by decide) (by decide) rfl (by decide) ?_
    refine w_iload_n dX12_hasOwn_61 rfl 1 rfl ?_
    refine w_iconst (v := 1) dX12_hasOwn_62 (by decide) ?_
    refine w_icmp_ne (tgt := 70) dX12_hasOwn_63 (by decide) (rfl : u.toInt = u.toInt) li_1 (fun h4_ => ?_) (fun h4_ => ?_)
    · refine w_iconst (v := 0) dX12_hasOwn_70 (by decide) ?_
      exact w_zret rfl dX12_hasOwn_71 ⟨by decide, by decide⟩ ⟨rfl, (lf_c_X12_hasOwn_5 v u hv hu e1_ h4_ ), (Or.inr (Or.inr (Or.inl ⟨e1_, (Or.inl ⟨h4_, rfl⟩)⟩)))⟩
    · refine w_iconst (v := 1) dX12_hasOwn_66 (by decide) ?_
      refine w_goto (tgt := 71) dX12_hasOwn_67 (by decide) ?_
      exact w_zret rfl dX12_hasOwn_71 ⟨by decide, by decide⟩ ⟨rfl, (lf_c_X12_hasOwn_6 v u hv hu e1_ h4_ ), (Or.inr (Or.inr (Or.inl ⟨e1_, (Or.inr ⟨h4_, rfl⟩)⟩)))⟩
  · refine w_tsIn (tgt := 72) (off := 71) dX12_hasOwn_1 e1_ (by decide) (by decide) rfl (by decide) ?_
    refine w_iload_n dX12_hasOwn_72 rfl 1 rfl ?_
    refine w_if_eq (tgt := 81) dX12_hasOwn_73 (by decide) (rfl : u.toInt = u.toInt) (fun h5_ => ?_) (fun h5_ => ?_)
    · refine w_iconst (v := 1) dX12_hasOwn_81 (by decide) ?_
      refine w_goto (tgt := 86) dX12_hasOwn_82 (by decide) ?_
      exact w_zret rfl dX12_hasOwn_86 ⟨by decide, by decide⟩ ⟨rfl, (lf_c_X12_hasOwn_7 v u hv hu e1_ h5_ ), (Or.inr (Or.inr (Or.inr (Or.inl ⟨e1_, (Or.inl ⟨h5_, rfl⟩)⟩))))⟩
    · refine w_iload_n dX12_hasOwn_76 rfl 1 rfl ?_
      refine w_iconst (v := 2) dX12_hasOwn_77 (by decide) ?_
      refine w_icmp_ne (tgt := 85) dX12_hasOwn_78 (by decide) (rfl : u.toInt = u.toInt) li_2 (fun h6_ => ?_) (fun h6_ => ?_)
      · refine w_iconst (v := 0) dX12_hasOwn_85 (by decide) ?_
        exact w_zret rfl dX12_hasOwn_86 ⟨by decide, by decide⟩ ⟨rfl, (lf_c_X12_hasOwn_8 v u hv hu e1_ h5_ h6_ ), (Or.inr (Or.inr (Or.inr (Or.inl ⟨e1_, (Or.inr ⟨h5_, (Or.inl ⟨h6_, rfl⟩)⟩)⟩))))⟩
      · refine w_iconst (v := 1) dX12_hasOwn_81 (by decide) ?_
        refine w_goto (tgt := 86) dX12_hasOwn_82 (by decide) ?_
        exact w_zret rfl dX12_hasOwn_86 ⟨by decide, by decide⟩ ⟨rfl, (lf_c_X12_hasOwn_9 v u hv hu e1_ h5_ h6_ ), (Or.inr (Or.inr (Or.inr (Or.inl ⟨e1_, (Or.inr ⟨h5_, (Or.inr ⟨h6_, rfl⟩)⟩)⟩))))⟩
  · refine w_tsIn (tgt := 87) (off := 86) dX12_hasOwn_1 e1_ (by decide) (by decide) rfl (by decide) ?_
    refine w_iload_n dX12_hasOwn_87 rfl 1 rfl ?_
    refine w_iconst (v := 2) dX12_hasOwn_88 (by decide) ?_
    refine w_icmp_ne (tgt := 96) dX12_hasOwn_89 (by decide) (rfl : u.toInt = u.toInt) li_2 (fun h7_ => ?_) (fun h7_ => ?_)
    · refine w_iconst (v := 0) dX12_hasOwn_96 (by decide) ?_
      exact w_zret rfl dX12_hasOwn_97 ⟨by decide, by decide⟩ ⟨rfl, (lf_c_X12_hasOwn_10 v u hv hu e1_ h7_ ), (Or.inr (Or.inr (Or.inr (Or.inr (Or.inl ⟨e1_, (Or.inl ⟨h7_, rfl⟩)⟩)))))⟩
    · refine w_iconst (v := 1) dX12_hasOwn_92 (by decide) ?_
      refine w_goto (tgt := 97) dX12_hasOwn_93 (by decide) ?_
      exact w_zret rfl dX12_hasOwn_97 ⟨by decide, by decide⟩ ⟨rfl, (lf_c_X12_hasOwn_11 v u hv hu e1_ h7_ ), (Or.inr (Or.inr (Or.inr (Or.inr (Or.inl ⟨e1_, (Or.inr ⟨h7_, rfl⟩)⟩)))))⟩
  · refine w_tsIn (tgt := 61) (off := 60) dX12_hasOwn_1 e1_ (by decide) (by decide) rfl (by decide) ?_
    refine w_iload_n dX12_hasOwn_61 rfl 1 rfl ?_
    refine w_iconst (v := 1) dX12_hasOwn_62 (by decide) ?_
    refine w_icmp_ne (tgt := 70) dX12_hasOwn_63 (by decide) (rfl : u.toInt = u.toInt) li_1 (fun h8_ => ?_) (fun h8_ => ?_)
    · refine w_iconst (v := 0) dX12_hasOwn_70 (by decide) ?_
      exact w_zret rfl dX12_hasOwn_71 ⟨by decide, by decide⟩ ⟨rfl, (lf_c_X12_hasOwn_12 v u hv hu e1_ h8_ ), (Or.inr (Or.inr (Or.inr (Or.inr (Or.inr (Or.inl ⟨e1_, (Or.inl ⟨h8_, rfl⟩)⟩))))))⟩
    · refine w_iconst (v := 1) dX12_hasOwn_66 (by decide) ?_
      refine w_goto (tgt := 71) dX12_hasOwn_67 (by decide) ?_
      exact w_zret rfl dX12_hasOwn_71 ⟨by decide, by decide⟩ ⟨rfl, (lf_c_X12_hasOwn_13 v u hv hu e1_ h8_ ), (Or.inr (Or.inr (Or.inr (Or.inr (Or.inr (Or.inl ⟨e1_, (Or.inr ⟨h8_, rfl⟩)⟩))))))⟩
  · refine w_tsIn (tgt := 98) (off := 97) dX12_hasOwn_1 e1_ (by decide) (by decide) rfl (by decide) ?_
    refine w_iload_n dX12_hasOwn_98 rfl 1 rfl ?_
    refine w_iconst (v := 1) dX12_hasOwn_99 (by decide) ?_
    refine w_icmp_eq (tgt := 108) dX12_hasOwn_100 (by decide) (rfl : u.toInt = u.toInt) li_1 (fun h9_ => ?_) (fun h9_ => ?_)
    · refine w_iconst (v := 1) dX12_hasOwn_108 (by decide) ?_
      refine w_goto (tgt := 113) dX12_hasOwn_109 (by decide) ?_
      exact w_zret rfl dX12_hasOwn_113 ⟨by decide, by decide⟩ ⟨rfl, (lf_c_X12_hasOwn_14 v u hv hu e1_ h9_ ), (Or.inr (Or.inr (Or.inr (Or.inr (Or.inr (Or.inr (Or.inl ⟨e1_, (Or.inl ⟨h9_, rfl⟩)⟩)))))))⟩
    · refine w_iload_n dX12_hasOwn_103 rfl 1 rfl ?_
      refine w_iconst (v := 2) dX12_hasOwn_104 (by decide) ?_
      refine w_icmp_ne (tgt := 112) dX12_hasOwn_105 (by decide) (rfl : u.toInt = u.toInt) li_2 (fun h10_ => ?_) (fun h10_ => ?_)
      · refine w_iconst (v := 0) dX12_hasOwn_112 (by decide) ?_
        exact w_zret rfl dX12_hasOwn_113 ⟨by decide, by decide⟩ ⟨rfl, (lf_c_X12_hasOwn_15 v u hv hu e1_ h9_ h10_ ), (Or.inr (Or.inr (Or.inr (Or.inr (Or.inr (Or.inr (Or.inl ⟨e1_, (Or.inr ⟨h9_, (Or.inl ⟨h10_, rfl⟩)⟩)⟩)))))))⟩
      · refine w_iconst (v := 1) dX12_hasOwn_108 (by decide) ?_
        refine w_goto (tgt := 113) dX12_hasOwn_109 (by decide) ?_
        exact w_zret rfl dX12_hasOwn_113 ⟨by decide, by decide⟩ ⟨rfl, (lf_c_X12_hasOwn_16 v u hv hu e1_ h9_ h10_ ), (Or.inr (Or.inr (Or.inr (Or.inr (Or.inr (Or.inr (Or.inl ⟨e1_, (Or.inr ⟨h9_, (Or.inr ⟨h10_, rfl⟩)⟩)⟩)))))))⟩
  · refine w_tsOut (tgt := 114) dX12_hasOwn_1 rfl (lf_c_X12_hasOwn_17 v hv e1_ ) (by decide) ?_
    refine w_iload_n dX12_hasOwn_114 rfl 1 rfl ?_
    refine w_iconst (v := 3) dX12_hasOwn_115 (by decide) ?_
    refine w_icmp_ne (tgt := 123) dX12_hasOwn_116 (by decide) (rfl : u.toInt = u.toInt) li_3 (fun h11_ => ?_) (fun h11_ => ?_)
    · refine w_iconst (v := 0) dX12_hasOwn_123 (by decide) ?_
      exact w_zret rfl dX12_hasOwn_124 ⟨by decide, by decide⟩ ⟨rfl, (lf_c_X12_hasOwn_18 v u hv hu e1_ h11_ ), (Or.inr (Or.inr (Or.inr (Or.inr (Or.inr (Or.inr (Or.inr ⟨e1_, (Or.inl ⟨h11_, rfl⟩)⟩)))))))⟩
    · refine w_iconst (v := 1) dX12_hasOwn_119 (by decide) ?_
      refine w_goto (tgt := 124) dX12_hasOwn_120 (by decide) ?_
      exact w_zret rfl dX12_hasOwn_124 ⟨by decide, by decide⟩ ⟨rfl, (lf_c_X12_hasOwn_19 v u hv hu e1_ h11_ ), (Or.inr (Or.inr (Or.inr (Or.inr (Or.inr (Or.inr (Or.inr ⟨e1_, (Or.inr ⟨h11_, rfl⟩)⟩)))))))⟩
def SP_above2 (v : Int32) (Mz : mM) (r_ : Int32) : Prop := (((¬ v.toInt = 0) ∧ (((v.toInt = 5) ∧ r_ = 1) ∨ ((¬ v.toInt = 5) ∧ (((¬ v.toInt = 7) ∧ (((¬ v.toInt = 6) ∧ r_ = 0) ∨ ((v.toInt = 6) ∧ r_ = 3))) ∨ ((v.toInt = 7) ∧ r_ = 1))))) ∨ ((v.toInt = 0) ∧ r_ = (-1)))
theorem lf_c_above2_0 (v : Int32) (h2_ : v.toInt = 5) : -1 ≤ (1 : Int32).toInt ∧ (1 : Int32).toInt ≤ 3 ∧ (0 ≤ v.toInt → (1 : Int32).toInt < v.toInt) ∧ (0 < v.toInt → 0 ≤ (1 : Int32).toInt) := by have r9 := li_1; omega
theorem lf_c_above2_1 (v : Int32) (h1_ : ¬ v.toInt = 0) : -1 ≤ (0 : Int32).toInt ∧ (0 : Int32).toInt ≤ 3 ∧ (0 ≤ v.toInt → (0 : Int32).toInt < v.toInt) ∧ (0 < v.toInt → 0 ≤ (0 : Int32).toInt) := by have r9 := li_0; omega
theorem lf_c_above2_2 (v : Int32) (h4_ : v.toInt = 6) : -1 ≤ (3 : Int32).toInt ∧ (3 : Int32).toInt ≤ 3 ∧ (0 ≤ v.toInt → (3 : Int32).toInt < v.toInt) ∧ (0 < v.toInt → 0 ≤ (3 : Int32).toInt) := by have r9 := li_3; omega
theorem lf_c_above2_3 (v : Int32) (h3_ : v.toInt = 7) : -1 ≤ (1 : Int32).toInt ∧ (1 : Int32).toInt ≤ 3 ∧ (0 ≤ v.toInt → (1 : Int32).toInt < v.toInt) ∧ (0 < v.toInt → 0 ≤ (1 : Int32).toInt) := by have r9 := li_1; omega
theorem lf_c_above2_4 (v : Int32) (h1_ : v.toInt = 0) : -1 ≤ ((-1) : Int32).toInt ∧ ((-1) : Int32).toInt ≤ 3 ∧ (0 ≤ v.toInt → ((-1) : Int32).toInt < v.toInt) ∧ (0 < v.toInt → 0 ≤ ((-1) : Int32).toInt) := by have r9 := li_m1; omega
set_option maxHeartbeats 4000000 in
set_option maxRecDepth 100000 in
theorem c_above2 (l : Launch) (G : va_G) (cy : Nat → ClassId) (ad : rf → Nat) (d : Nat) (v : Int32) (Mz : mM) (hIz : InvD Mz) : WP DD l G cy ad yX12_above cX12_above 1 (some .int) d 0 [(0, vI v)] [] Mz (fun r M' => Mz = M' ∧ (-1 ≤ r.toInt ∧ r.toInt ≤ 3 ∧ (0 ≤ v.toInt → r.toInt < v.toInt) ∧ (0 < v.toInt → 0 ≤ r.toInt)) ∧ SP_above2 v Mz r) := by
  refine w_iload_n dX12_above_0 rfl 0 rfl ?_
  refine w_if_ne (tgt := 8) dX12_above_1 (by decide) (rfl : v.toInt = v.toInt) (fun h1_ => ?_) (fun h1_ => ?_)
  · refine w_iload_n dX12_above_8 rfl 0 rfl ?_
    refine w_iconst (v := 5) dX12_above_9 (by decide) ?_
    refine w_icmp_eq (tgt := 19) dX12_above_10 (by decide) (rfl : v.toInt = v.toInt) li_5 (fun h2_ => ?_) (fun h2_ => ?_)
    · refine w_iconst (v := 1) dX12_above_19 (by decide) ?_
      refine w_goto (tgt := 34) dX12_above_20 (by decide) ?_
      exact w_iret rfl dX12_above_34 ⟨rfl, (lf_c_above2_0 v h2_ ), (Or.inl ⟨h1_, (Or.inl ⟨h2_, rfl⟩)⟩)⟩
    · refine w_iload_n dX12_above_13 rfl 0 rfl ?_
      refine w_bipush (v := 7) dX12_above_14 (by decide) ?_
      refine w_icmp_ne (tgt := 23) dX12_above_16 (by decide) (rfl : v.toInt = v.toInt) li_7 (fun h3_ => ?_) (fun h3_ => ?_)
      · refine w_iload_n dX12_above_23 rfl 0 rfl ?_
        refine w_bipush (v := 6) dX12_above_24 (by decide) ?_
        refine w_icmp_ne (tgt := 33) dX12_above_26 (by decide) (rfl : v.toInt = v.toInt) li_6 (fun h4_ => ?_) (fun h4_ => ?_)
        · refine w_iconst (v := 0) dX12_above_33 (by decide) ?_
          exact w_iret rfl dX12_above_34 ⟨rfl, (lf_c_above2_1 v h1_ ), (Or.inl ⟨h1_, (Or.inr ⟨h2_, (Or.inl ⟨h3_, (Or.inl ⟨h4_, rfl⟩)⟩)⟩)⟩)⟩
        · refine w_iconst (v := 3) dX12_above_29 (by decide) ?_
          refine w_goto (tgt := 34) dX12_above_30 (by decide) ?_
          exact w_iret rfl dX12_above_34 ⟨rfl, (lf_c_above2_2 v h4_ ), (Or.inl ⟨h1_, (Or.inr ⟨h2_, (Or.inl ⟨h3_, (Or.inr ⟨h4_, rfl⟩)⟩)⟩)⟩)⟩
      · refine w_iconst (v := 1) dX12_above_19 (by decide) ?_
        refine w_goto (tgt := 34) dX12_above_20 (by decide) ?_
        exact w_iret rfl dX12_above_34 ⟨rfl, (lf_c_above2_3 v h3_ ), (Or.inl ⟨h1_, (Or.inr ⟨h2_, (Or.inr ⟨h3_, rfl⟩)⟩)⟩)⟩
  · refine w_iconst (v := (-1)) dX12_above_4 (by decide) ?_
    refine w_goto (tgt := 34) dX12_above_5 (by decide) ?_
    exact w_iret rfl dX12_above_34 ⟨rfl, (lf_c_above2_4 v h1_ ), (Or.inr ⟨h1_, rfl⟩)⟩
end
section
/-! words of the tables that are used, by their places; decode rows; fields -/
theorem m_73 : Cond.selects yX12_voiced.cls yX12_voiced yX12_voiced ∈ BASE := bmem 73 (by decide +kernel) rfl
theorem m_74 : Cond.selects yX12_bodyFrom.cls yX12_bodyFrom yX12_bodyFrom ∈ BASE := bmem 74 (by decide +kernel) rfl
theorem m_75 : Cond.selects yX12_body.cls yX12_body yX12_body ∈ BASE := bmem 75 (by decide +kernel) rfl
theorem m_76 : Cond.selects yX12_began.cls yX12_began yX12_began ∈ BASE := bmem 76 (by decide +kernel) rfl
set_option maxRecDepth 20000 in
theorem m_1350 : Cond.fieldLink RX12 327 "ClickStreetModel" "speaker" "I" ∈ BASE := bmT6 72 rfl rfl
set_option maxRecDepth 20000 in
theorem m_1351 : Cond.fieldLink RX12 336 "ClickStreetModel" "isParted" "Z" ∈ BASE := bmT6 73 rfl rfl
set_option maxRecDepth 20000 in
theorem m_1803 : Cond.methodLink RX12 345 yX12_voiced ∈ BASE := bmT8 45 rfl rfl
set_option maxRecDepth 20000 in
theorem m_1805 : Cond.instanceMethod yX12_voiced ∈ BASE := bmT8 47 rfl rfl
set_option maxRecDepth 20000 in
theorem m_1806 : Cond.code yX12_voiced cX12_voiced 3 (some .int) ∈ BASE := bmT8 48 rfl rfl
set_option maxRecDepth 20000 in
theorem m_1807 : Cond.methodLink RX12 330 yX12_bodyFrom ∈ BASE := bmT8 49 rfl rfl
set_option maxRecDepth 20000 in
theorem m_1809 : Cond.instanceMethod yX12_bodyFrom ∈ BASE := bmT8 51 rfl rfl
set_option maxRecDepth 20000 in
theorem m_1810 : Cond.code yX12_bodyFrom cX12_bodyFrom 5 (some .int) ∈ BASE := bmT8 52 rfl rfl
set_option maxRecDepth 20000 in
theorem m_1811 : Cond.methodLink RX12 333 yX12_hasOwn ∈ BASE := bmT8 53 rfl rfl
set_option maxRecDepth 20000 in
theorem m_1812 : Cond.static yX12_hasOwn ∈ BASE := bmT8 54 rfl rfl
set_option maxRecDepth 20000 in
theorem m_1813 : Cond.code yX12_hasOwn cX12_hasOwn 2 (some .boolean) ∈ BASE := bmT8 55 rfl rfl
set_option maxRecDepth 20000 in
theorem m_1814 : Cond.methodLink RX12 339 yX12_body ∈ BASE := bmT8 56 rfl rfl
set_option maxRecDepth 20000 in
theorem m_1816 : Cond.instanceMethod yX12_body ∈ BASE := bmT8 58 rfl rfl
set_option maxRecDepth 20000 in
theorem m_1817 : Cond.code yX12_body cX12_body 6 (some .int) ∈ BASE := bmT8 59 rfl rfl
set_option maxRecDepth 20000 in
theorem m_1818 : Cond.methodLink RX12 342 yX12_began ∈ BASE := bmT8 60 rfl rfl
set_option maxRecDepth 20000 in
theorem m_1820 : Cond.instanceMethod yX12_began ∈ BASE := bmT8 62 rfl rfl
set_option maxRecDepth 20000 in
theorem m_1821 : Cond.code yX12_began cX12_began 2 none ∈ BASE := bmT8 63 rfl rfl
theorem kS_X12_hasOwn : KS yX12_hasOwn cX12_hasOwn 2 (some .boolean) 2 := ⟨m_1812, m_92, m_1813, nhM_17, nhV_17, pdn_7⟩
theorem kV_X12_began : KV yX12_began cX12_began 2 none 1 := ⟨m_1820, m_76, m_92, m_1821, nhM_17, nhV_17, pdn_4⟩
theorem kV_X12_body : KV yX12_body cX12_body 6 (some .int) 3 := ⟨m_1816, m_75, m_92, m_1817, nhM_17, nhV_17, pdn_3⟩
theorem kV_X12_bodyFrom : KV yX12_bodyFrom cX12_bodyFrom 5 (some .int) 3 := ⟨m_1809, m_74, m_92, m_1810, nhM_17, nhV_17, pdn_3⟩
theorem kV_X12_voiced : KV yX12_voiced cX12_voiced 3 (some .int) 2 := ⟨m_1805, m_73, m_92, m_1806, nhM_17, nhV_17, pdn_8⟩
theorem fl_RX12_327 : FLK RX12 327 12 27 .int false := ⟨RX12, TX12, 33, tyX12, rfl, inB12, tyX12_ok, nmX12, by decide, rfl, rfl, Or.inl m_1350⟩
theorem fl_RX12_336 : FLK RX12 336 12 28 .boolean false := ⟨RX12, TX12, 33, tyX12, rfl, inB12, tyX12_ok, nmX12, by decide, rfl, rfl, Or.inl m_1351⟩
theorem ch_cX12_body_0 : (cX12_body.data.toList.drop 0).take 36 = [42, 180, 0, 9, 42, 42, 180, 1, 71, 182, 0, 93, 6, 96, 46, 54, 4, 7, 27, 104, 28, 96, 170, 0, 0, 0, 1, 115, 0, 0, 0, 0, 0, 0, 0, 26] := by decide +kernel
theorem dX12_body_0 : decode cX12_body 0 = .ok (.aload_n 0, 1) := do_42 (rdb (p := 0) (i := 0) ch_cX12_body_0 rfl)
theorem dX12_body_1 : decode cX12_body 1 = .ok (.getfield 9, 3) := do_180 (rdb (p := 0) (i := 1) ch_cX12_body_0 rfl) (rdb (p := 0) (i := 2) ch_cX12_body_0 rfl) (rdb (p := 0) (i := 3) ch_cX12_body_0 rfl) rfl
theorem dX12_body_4 : decode cX12_body 4 = .ok (.aload_n 0, 1) := do_42 (rdb (p := 0) (i := 4) ch_cX12_body_0 rfl)
theorem dX12_body_5 : decode cX12_body 5 = .ok (.aload_n 0, 1) := do_42 (rdb (p := 0) (i := 5) ch_cX12_body_0 rfl)
theorem dX12_body_6 : decode cX12_body 6 = .ok (.getfield 327, 3) := do_180 (rdb (p := 0) (i := 6) ch_cX12_body_0 rfl) (rdb (p := 0) (i := 7) ch_cX12_body_0 rfl) (rdb (p := 0) (i := 8) ch_cX12_body_0 rfl) rfl
theorem dX12_body_9 : decode cX12_body 9 = .ok (.invokevirtual 93, 3) := do_182 (rdb (p := 0) (i := 9) ch_cX12_body_0 rfl) (rdb (p := 0) (i := 10) ch_cX12_body_0 rfl) (rdb (p := 0) (i := 11) ch_cX12_body_0 rfl) rfl
theorem dX12_body_12 : decode cX12_body 12 = .ok (.iconst 3, 1) := do_6 (rdb (p := 0) (i := 12) ch_cX12_body_0 rfl)
theorem dX12_body_13 : decode cX12_body 13 = .ok (.iadd, 1) := do_96 (rdb (p := 0) (i := 13) ch_cX12_body_0 rfl)
theorem dX12_body_14 : decode cX12_body 14 = .ok (.iaload, 1) := do_46 (rdb (p := 0) (i := 14) ch_cX12_body_0 rfl)
theorem dX12_body_15 : decode cX12_body 15 = .ok (.istore 4, 2) := do_54 (rdb (p := 0) (i := 15) ch_cX12_body_0 rfl) (rdb (p := 0) (i := 16) ch_cX12_body_0 rfl)
theorem dX12_body_17 : decode cX12_body 17 = .ok (.iconst 4, 1) := do_7 (rdb (p := 0) (i := 17) ch_cX12_body_0 rfl)
theorem dX12_body_18 : decode cX12_body 18 = .ok (.iload_n 1, 1) := do_27 (rdb (p := 0) (i := 18) ch_cX12_body_0 rfl)
theorem dX12_body_19 : decode cX12_body 19 = .ok (.imul, 1) := do_104 (rdb (p := 0) (i := 19) ch_cX12_body_0 rfl)
theorem dX12_body_20 : decode cX12_body 20 = .ok (.iload_n 2, 1) := do_28 (rdb (p := 0) (i := 20) ch_cX12_body_0 rfl)
theorem dX12_body_21 : decode cX12_body 21 = .ok (.iadd, 1) := do_96 (rdb (p := 0) (i := 21) ch_cX12_body_0 rfl)
theorem dX12_body_22 : decode cX12_body 22 = .ok (.tableswitch 371 0 26 #[122, 133, 148, 166, 209, 371, 371, 225, 371, 250, 371, 371, 267, 371, 282, 371, 371, 371, 298, 371, 371, 314, 371, 371, 371, 330, 346], 122) := by decide +kernel
theorem ch_cX12_body_128 : (cX12_body.data.toList.drop 128).take 36 = [0, 0, 1, 115, 0, 0, 1, 115, 0, 0, 1, 74, 0, 0, 1, 90, 42, 16, 10, 182, 1, 86, 29, 21, 4, 96, 172, 42, 16, 11, 182, 1, 86, 42, 3, 29] := by decide +kernel
theorem dX12_body_144 : decode cX12_body 144 = .ok (.aload_n 0, 1) := do_42 (rdb (p := 128) (i := 16) ch_cX12_body_128 rfl)
theorem dX12_body_145 : decode cX12_body 145 = .ok (.bipush 10, 2) := do_16 (rdb (p := 128) (i := 17) ch_cX12_body_128 rfl) (rdb (p := 128) (i := 18) ch_cX12_body_128 rfl) (by decide +kernel)
theorem dX12_body_147 : decode cX12_body 147 = .ok (.invokevirtual 342, 3) := do_182 (rdb (p := 128) (i := 19) ch_cX12_body_128 rfl) (rdb (p := 128) (i := 20) ch_cX12_body_128 rfl) (rdb (p := 128) (i := 21) ch_cX12_body_128 rfl) rfl
theorem dX12_body_150 : decode cX12_body 150 = .ok (.iload_n 3, 1) := do_29 (rdb (p := 128) (i := 22) ch_cX12_body_128 rfl)
theorem dX12_body_151 : decode cX12_body 151 = .ok (.iload 4, 2) := do_21 (rdb (p := 128) (i := 23) ch_cX12_body_128 rfl) (rdb (p := 128) (i := 24) ch_cX12_body_128 rfl)
theorem dX12_body_153 : decode cX12_body 153 = .ok (.iadd, 1) := do_96 (rdb (p := 128) (i := 25) ch_cX12_body_128 rfl)
theorem dX12_body_154 : decode cX12_body 154 = .ok (.ireturn, 1) := do_172 (rdb (p := 128) (i := 26) ch_cX12_body_128 rfl)
theorem dX12_body_155 : decode cX12_body 155 = .ok (.aload_n 0, 1) := do_42 (rdb (p := 128) (i := 27) ch_cX12_body_128 rfl)
theorem dX12_body_156 : decode cX12_body 156 = .ok (.bipush 11, 2) := do_16 (rdb (p := 128) (i := 28) ch_cX12_body_128 rfl) (rdb (p := 128) (i := 29) ch_cX12_body_128 rfl) (by decide +kernel)
theorem dX12_body_158 : decode cX12_body 158 = .ok (.invokevirtual 342, 3) := do_182 (rdb (p := 128) (i := 30) ch_cX12_body_128 rfl) (rdb (p := 128) (i := 31) ch_cX12_body_128 rfl) (rdb (p := 128) (i := 32) ch_cX12_body_128 rfl) rfl
theorem ch_cX12_body_160 : (cX12_body.data.toList.drop 160).take 36 = [86, 42, 3, 29, 182, 1, 89, 5, 104, 172, 42, 16, 12, 182, 1, 86, 42, 4, 29, 182, 1, 89, 42, 180, 1, 71, 100, 172, 42, 16, 13, 182, 1, 86, 42, 42] := by decide +kernel
theorem dX12_body_161 : decode cX12_body 161 = .ok (.aload_n 0, 1) := do_42 (rdb (p := 160) (i := 1) ch_cX12_body_160 rfl)
theorem dX12_body_162 : decode cX12_body 162 = .ok (.iconst 0, 1) := do_3 (rdb (p := 160) (i := 2) ch_cX12_body_160 rfl)
theorem dX12_body_163 : decode cX12_body 163 = .ok (.iload_n 3, 1) := do_29 (rdb (p := 160) (i := 3) ch_cX12_body_160 rfl)
theorem dX12_body_164 : decode cX12_body 164 = .ok (.invokevirtual 345, 3) := do_182 (rdb (p := 160) (i := 4) ch_cX12_body_160 rfl) (rdb (p := 160) (i := 5) ch_cX12_body_160 rfl) (rdb (p := 160) (i := 6) ch_cX12_body_160 rfl) rfl
theorem dX12_body_167 : decode cX12_body 167 = .ok (.iconst 2, 1) := do_5 (rdb (p := 160) (i := 7) ch_cX12_body_160 rfl)
theorem dX12_body_168 : decode cX12_body 168 = .ok (.imul, 1) := do_104 (rdb (p := 160) (i := 8) ch_cX12_body_160 rfl)
theorem dX12_body_169 : decode cX12_body 169 = .ok (.ireturn, 1) := do_172 (rdb (p := 160) (i := 9) ch_cX12_body_160 rfl)
theorem dX12_body_170 : decode cX12_body 170 = .ok (.aload_n 0, 1) := do_42 (rdb (p := 160) (i := 10) ch_cX12_body_160 rfl)
theorem dX12_body_171 : decode cX12_body 171 = .ok (.bipush 12, 2) := do_16 (rdb (p := 160) (i := 11) ch_cX12_body_160 rfl) (rdb (p := 160) (i := 12) ch_cX12_body_160 rfl) (by decide +kernel)
theorem dX12_body_173 : decode cX12_body 173 = .ok (.invokevirtual 342, 3) := do_182 (rdb (p := 160) (i := 13) ch_cX12_body_160 rfl) (rdb (p := 160) (i := 14) ch_cX12_body_160 rfl) (rdb (p := 160) (i := 15) ch_cX12_body_160 rfl) rfl
theorem dX12_body_176 : decode cX12_body 176 = .ok (.aload_n 0, 1) := do_42 (rdb (p := 160) (i := 16) ch_cX12_body_160 rfl)
theorem dX12_body_177 : decode cX12_body 177 = .ok (.iconst 1, 1) := do_4 (rdb (p := 160) (i := 17) ch_cX12_body_160 rfl)
theorem dX12_body_178 : decode cX12_body 178 = .ok (.iload_n 3, 1) := do_29 (rdb (p := 160) (i := 18) ch_cX12_body_160 rfl)
theorem dX12_body_179 : decode cX12_body 179 = .ok (.invokevirtual 345, 3) := do_182 (rdb (p := 160) (i := 19) ch_cX12_body_160 rfl) (rdb (p := 160) (i := 20) ch_cX12_body_160 rfl) (rdb (p := 160) (i := 21) ch_cX12_body_160 rfl) rfl
theorem dX12_body_182 : decode cX12_body 182 = .ok (.aload_n 0, 1) := do_42 (rdb (p := 160) (i := 22) ch_cX12_body_160 rfl)
theorem dX12_body_183 : decode cX12_body 183 = .ok (.getfield 327, 3) := do_180 (rdb (p := 160) (i := 23) ch_cX12_body_160 rfl) (rdb (p := 160) (i := 24) ch_cX12_body_160 rfl) (rdb (p := 160) (i := 25) ch_cX12_body_160 rfl) rfl
theorem dX12_body_186 : decode cX12_body 186 = .ok (.isub, 1) := do_100 (rdb (p := 160) (i := 26) ch_cX12_body_160 rfl)
theorem dX12_body_187 : decode cX12_body 187 = .ok (.ireturn, 1) := do_172 (rdb (p := 160) (i := 27) ch_cX12_body_160 rfl)
theorem dX12_body_188 : decode cX12_body 188 = .ok (.aload_n 0, 1) := do_42 (rdb (p := 160) (i := 28) ch_cX12_body_160 rfl)
theorem dX12_body_189 : decode cX12_body 189 = .ok (.bipush 13, 2) := do_16 (rdb (p := 160) (i := 29) ch_cX12_body_160 rfl) (rdb (p := 160) (i := 30) ch_cX12_body_160 rfl) (by decide +kernel)
theorem dX12_body_191 : decode cX12_body 191 = .ok (.invokevirtual 342, 3) := do_182 (rdb (p := 160) (i := 31) ch_cX12_body_160 rfl) (rdb (p := 160) (i := 32) ch_cX12_body_160 rfl) (rdb (p := 160) (i := 33) ch_cX12_body_160 rfl) rfl
theorem ch_cX12_body_192 : (cX12_body.data.toList.drop 192).take 36 = [1, 86, 42, 42, 180, 1, 71, 6, 160, 0, 7, 4, 167, 0, 4, 3, 181, 1, 80, 42, 180, 1, 80, 153, 0, 7, 3, 167, 0, 11, 29, 42, 180, 1, 71, 6] := by decide +kernel
theorem dX12_body_194 : decode cX12_body 194 = .ok (.aload_n 0, 1) := do_42 (rdb (p := 192) (i := 2) ch_cX12_body_192 rfl)
theorem dX12_body_195 : decode cX12_body 195 = .ok (.aload_n 0, 1) := do_42 (rdb (p := 192) (i := 3) ch_cX12_body_192 rfl)
theorem dX12_body_196 : decode cX12_body 196 = .ok (.getfield 327, 3) := do_180 (rdb (p := 192) (i := 4) ch_cX12_body_192 rfl) (rdb (p := 192) (i := 5) ch_cX12_body_192 rfl) (rdb (p := 192) (i := 6) ch_cX12_body_192 rfl) rfl
theorem dX12_body_199 : decode cX12_body 199 = .ok (.iconst 3, 1) := do_6 (rdb (p := 192) (i := 7) ch_cX12_body_192 rfl)
theorem dX12_body_200 : decode cX12_body 200 = .ok (.if_icmp .ne 7, 3) := do_160 (rdb (p := 192) (i := 8) ch_cX12_body_192 rfl) (rdb (p := 192) (i := 9) ch_cX12_body_192 rfl) (rdb (p := 192) (i := 10) ch_cX12_body_192 rfl) (by decide +kernel)
theorem dX12_body_203 : decode cX12_body 203 = .ok (.iconst 1, 1) := do_4 (rdb (p := 192) (i := 11) ch_cX12_body_192 rfl)
theorem dX12_body_204 : decode cX12_body 204 = .ok (.goto 4, 3) := do_167 (rdb (p := 192) (i := 12) ch_cX12_body_192 rfl) (rdb (p := 192) (i := 13) ch_cX12_body_192 rfl) (rdb (p := 192) (i := 14) ch_cX12_body_192 rfl) (by decide +kernel)
theorem dX12_body_207 : decode cX12_body 207 = .ok (.iconst 0, 1) := do_3 (rdb (p := 192) (i := 15) ch_cX12_body_192 rfl)
theorem dX12_body_208 : decode cX12_body 208 = .ok (.putfield 336, 3) := do_181 (rdb (p := 192) (i := 16) ch_cX12_body_192 rfl) (rdb (p := 192) (i := 17) ch_cX12_body_192 rfl) (rdb (p := 192) (i := 18) ch_cX12_body_192 rfl) rfl
theorem dX12_body_211 : decode cX12_body 211 = .ok (.aload_n 0, 1) := do_42 (rdb (p := 192) (i := 19) ch_cX12_body_192 rfl)
theorem dX12_body_212 : decode cX12_body 212 = .ok (.getfield 336, 3) := do_180 (rdb (p := 192) (i := 20) ch_cX12_body_192 rfl) (rdb (p := 192) (i := 21) ch_cX12_body_192 rfl) (rdb (p := 192) (i := 22) ch_cX12_body_192 rfl) rfl
theorem dX12_body_215 : decode cX12_body 215 = .ok (.ifCond .eq 7, 3) := do_153 (rdb (p := 192) (i := 23) ch_cX12_body_192 rfl) (rdb (p := 192) (i := 24) ch_cX12_body_192 rfl) (rdb (p := 192) (i := 25) ch_cX12_body_192 rfl) (by decide +kernel)
theorem dX12_body_218 : decode cX12_body 218 = .ok (.iconst 0, 1) := do_3 (rdb (p := 192) (i := 26) ch_cX12_body_192 rfl)
theorem dX12_body_219 : decode cX12_body 219 = .ok (.goto 11, 3) := do_167 (rdb (p := 192) (i := 27) ch_cX12_body_192 rfl) (rdb (p := 192) (i := 28) ch_cX12_body_192 rfl) (rdb (p := 192) (i := 29) ch_cX12_body_192 rfl) (by decide +kernel)
theorem dX12_body_222 : decode cX12_body 222 = .ok (.iload_n 3, 1) := do_29 (rdb (p := 192) (i := 30) ch_cX12_body_192 rfl)
theorem dX12_body_223 : decode cX12_body 223 = .ok (.aload_n 0, 1) := do_42 (rdb (p := 192) (i := 31) ch_cX12_body_192 rfl)
theorem ch_cX12_body_224 : (cX12_body.data.toList.drop 224).take 36 = [180, 1, 71, 6, 100, 108, 172, 42, 16, 20, 182, 1, 86, 42, 3, 3, 29, 182, 1, 74, 6, 104, 172, 42, 16, 21, 182, 1, 86, 42, 3, 6, 29, 182, 1, 74] := by decide +kernel
theorem dX12_body_224 : decode cX12_body 224 = .ok (.getfield 327, 3) := do_180 (rdb (p := 224) (i := 0) ch_cX12_body_224 rfl) (rdb (p := 224) (i := 1) ch_cX12_body_224 rfl) (rdb (p := 224) (i := 2) ch_cX12_body_224 rfl) rfl
theorem dX12_body_227 : decode cX12_body 227 = .ok (.iconst 3, 1) := do_6 (rdb (p := 224) (i := 3) ch_cX12_body_224 rfl)
theorem dX12_body_228 : decode cX12_body 228 = .ok (.isub, 1) := do_100 (rdb (p := 224) (i := 4) ch_cX12_body_224 rfl)
theorem dX12_body_229 : decode cX12_body 229 = .ok (.idiv, 1) := do_108 (rdb (p := 224) (i := 5) ch_cX12_body_224 rfl)
theorem dX12_body_230 : decode cX12_body 230 = .ok (.ireturn, 1) := do_172 (rdb (p := 224) (i := 6) ch_cX12_body_224 rfl)
theorem dX12_body_231 : decode cX12_body 231 = .ok (.aload_n 0, 1) := do_42 (rdb (p := 224) (i := 7) ch_cX12_body_224 rfl)
theorem dX12_body_232 : decode cX12_body 232 = .ok (.bipush 20, 2) := do_16 (rdb (p := 224) (i := 8) ch_cX12_body_224 rfl) (rdb (p := 224) (i := 9) ch_cX12_body_224 rfl) (by decide +kernel)
theorem dX12_body_234 : decode cX12_body 234 = .ok (.invokevirtual 342, 3) := do_182 (rdb (p := 224) (i := 10) ch_cX12_body_224 rfl) (rdb (p := 224) (i := 11) ch_cX12_body_224 rfl) (rdb (p := 224) (i := 12) ch_cX12_body_224 rfl) rfl
theorem dX12_body_237 : decode cX12_body 237 = .ok (.aload_n 0, 1) := do_42 (rdb (p := 224) (i := 13) ch_cX12_body_224 rfl)
theorem dX12_body_238 : decode cX12_body 238 = .ok (.iconst 0, 1) := do_3 (rdb (p := 224) (i := 14) ch_cX12_body_224 rfl)
theorem dX12_body_239 : decode cX12_body 239 = .ok (.iconst 0, 1) := do_3 (rdb (p := 224) (i := 15) ch_cX12_body_224 rfl)
theorem dX12_body_240 : decode cX12_body 240 = .ok (.iload_n 3, 1) := do_29 (rdb (p := 224) (i := 16) ch_cX12_body_224 rfl)
theorem dX12_body_241 : decode cX12_body 241 = .ok (.invokevirtual 330, 3) := do_182 (rdb (p := 224) (i := 17) ch_cX12_body_224 rfl) (rdb (p := 224) (i := 18) ch_cX12_body_224 rfl) (rdb (p := 224) (i := 19) ch_cX12_body_224 rfl) rfl
theorem dX12_body_244 : decode cX12_body 244 = .ok (.iconst 3, 1) := do_6 (rdb (p := 224) (i := 20) ch_cX12_body_224 rfl)
theorem dX12_body_245 : decode cX12_body 245 = .ok (.imul, 1) := do_104 (rdb (p := 224) (i := 21) ch_cX12_body_224 rfl)
theorem dX12_body_246 : decode cX12_body 246 = .ok (.ireturn, 1) := do_172 (rdb (p := 224) (i := 22) ch_cX12_body_224 rfl)
theorem dX12_body_247 : decode cX12_body 247 = .ok (.aload_n 0, 1) := do_42 (rdb (p := 224) (i := 23) ch_cX12_body_224 rfl)
theorem dX12_body_248 : decode cX12_body 248 = .ok (.bipush 21, 2) := do_16 (rdb (p := 224) (i := 24) ch_cX12_body_224 rfl) (rdb (p := 224) (i := 25) ch_cX12_body_224 rfl) (by decide +kernel)
theorem dX12_body_250 : decode cX12_body 250 = .ok (.invokevirtual 342, 3) := do_182 (rdb (p := 224) (i := 26) ch_cX12_body_224 rfl) (rdb (p := 224) (i := 27) ch_cX12_body_224 rfl) (rdb (p := 224) (i := 28) ch_cX12_body_224 rfl) rfl
theorem dX12_body_253 : decode cX12_body 253 = .ok (.aload_n 0, 1) := do_42 (rdb (p := 224) (i := 29) ch_cX12_body_224 rfl)
theorem dX12_body_254 : decode cX12_body 254 = .ok (.iconst 0, 1) := do_3 (rdb (p := 224) (i := 30) ch_cX12_body_224 rfl)
theorem dX12_body_255 : decode cX12_body 255 = .ok (.iconst 3, 1) := do_6 (rdb (p := 224) (i := 31) ch_cX12_body_224 rfl)
theorem ch_cX12_body_256 : (cX12_body.data.toList.drop 256).take 36 = [29, 182, 1, 74, 54, 5, 21, 5, 42, 5, 4, 182, 1, 89, 96, 172, 42, 16, 30, 182, 1, 86, 42, 3, 4, 29, 182, 1, 74, 21, 4, 130, 172, 42, 16, 40] := by decide +kernel
theorem dX12_body_256 : decode cX12_body 256 = .ok (.iload_n 3, 1) := do_29 (rdb (p := 256) (i := 0) ch_cX12_body_256 rfl)
theorem dX12_body_257 : decode cX12_body 257 = .ok (.invokevirtual 330, 3) := do_182 (rdb (p := 256) (i := 1) ch_cX12_body_256 rfl) (rdb (p := 256) (i := 2) ch_cX12_body_256 rfl) (rdb (p := 256) (i := 3) ch_cX12_body_256 rfl) rfl
theorem dX12_body_260 : decode cX12_body 260 = .ok (.istore 5, 2) := do_54 (rdb (p := 256) (i := 4) ch_cX12_body_256 rfl) (rdb (p := 256) (i := 5) ch_cX12_body_256 rfl)
theorem dX12_body_262 : decode cX12_body 262 = .ok (.iload 5, 2) := do_21 (rdb (p := 256) (i := 6) ch_cX12_body_256 rfl) (rdb (p := 256) (i := 7) ch_cX12_body_256 rfl)
theorem dX12_body_264 : decode cX12_body 264 = .ok (.aload_n 0, 1) := do_42 (rdb (p := 256) (i := 8) ch_cX12_body_256 rfl)
theorem dX12_body_265 : decode cX12_body 265 = .ok (.iconst 2, 1) := do_5 (rdb (p := 256) (i := 9) ch_cX12_body_256 rfl)
theorem dX12_body_266 : decode cX12_body 266 = .ok (.iconst 1, 1) := do_4 (rdb (p := 256) (i := 10) ch_cX12_body_256 rfl)
theorem dX12_body_267 : decode cX12_body 267 = .ok (.invokevirtual 345, 3) := do_182 (rdb (p := 256) (i := 11) ch_cX12_body_256 rfl) (rdb (p := 256) (i := 12) ch_cX12_body_256 rfl) (rdb (p := 256) (i := 13) ch_cX12_body_256 rfl) rfl
theorem dX12_body_270 : decode cX12_body 270 = .ok (.iadd, 1) := do_96 (rdb (p := 256) (i := 14) ch_cX12_body_256 rfl)
theorem dX12_body_271 : decode cX12_body 271 = .ok (.ireturn, 1) := do_172 (rdb (p := 256) (i := 15) ch_cX12_body_256 rfl)
theorem dX12_body_272 : decode cX12_body 272 = .ok (.aload_n 0, 1) := do_42 (rdb (p := 256) (i := 16) ch_cX12_body_256 rfl)
theorem dX12_body_273 : decode cX12_body 273 = .ok (.bipush 30, 2) := do_16 (rdb (p := 256) (i := 17) ch_cX12_body_256 rfl) (rdb (p := 256) (i := 18) ch_cX12_body_256 rfl) (by decide +kernel)
theorem dX12_body_275 : decode cX12_body 275 = .ok (.invokevirtual 342, 3) := do_182 (rdb (p := 256) (i := 19) ch_cX12_body_256 rfl) (rdb (p := 256) (i := 20) ch_cX12_body_256 rfl) (rdb (p := 256) (i := 21) ch_cX12_body_256 rfl) rfl
theorem dX12_body_278 : decode cX12_body 278 = .ok (.aload_n 0, 1) := do_42 (rdb (p := 256) (i := 22) ch_cX12_body_256 rfl)
theorem dX12_body_279 : decode cX12_body 279 = .ok (.iconst 0, 1) := do_3 (rdb (p := 256) (i := 23) ch_cX12_body_256 rfl)
theorem dX12_body_280 : decode cX12_body 280 = .ok (.iconst 1, 1) := do_4 (rdb (p := 256) (i := 24) ch_cX12_body_256 rfl)
theorem dX12_body_281 : decode cX12_body 281 = .ok (.iload_n 3, 1) := do_29 (rdb (p := 256) (i := 25) ch_cX12_body_256 rfl)
theorem dX12_body_282 : decode cX12_body 282 = .ok (.invokevirtual 330, 3) := do_182 (rdb (p := 256) (i := 26) ch_cX12_body_256 rfl) (rdb (p := 256) (i := 27) ch_cX12_body_256 rfl) (rdb (p := 256) (i := 28) ch_cX12_body_256 rfl) rfl
theorem dX12_body_285 : decode cX12_body 285 = .ok (.iload 4, 2) := do_21 (rdb (p := 256) (i := 29) ch_cX12_body_256 rfl) (rdb (p := 256) (i := 30) ch_cX12_body_256 rfl)
theorem dX12_body_287 : decode cX12_body 287 = .ok (.ixor, 1) := do_130 (rdb (p := 256) (i := 31) ch_cX12_body_256 rfl)
theorem ch_cX12_body_288 : (cX12_body.data.toList.drop 288).take 36 = [172, 42, 16, 40, 182, 1, 86, 42, 3, 3, 29, 182, 1, 74, 116, 172, 42, 16, 41, 182, 1, 86, 42, 3, 5, 29, 182, 1, 74, 8, 96, 172, 42, 16, 50, 182] := by decide +kernel
theorem dX12_body_288 : decode cX12_body 288 = .ok (.ireturn, 1) := do_172 (rdb (p := 288) (i := 0) ch_cX12_body_288 rfl)
theorem dX12_body_289 : decode cX12_body 289 = .ok (.aload_n 0, 1) := do_42 (rdb (p := 288) (i := 1) ch_cX12_body_288 rfl)
theorem dX12_body_290 : decode cX12_body 290 = .ok (.bipush 40, 2) := do_16 (rdb (p := 288) (i := 2) ch_cX12_body_288 rfl) (rdb (p := 288) (i := 3) ch_cX12_body_288 rfl) (by decide +kernel)
theorem dX12_body_292 : decode cX12_body 292 = .ok (.invokevirtual 342, 3) := do_182 (rdb (p := 288) (i := 4) ch_cX12_body_288 rfl) (rdb (p := 288) (i := 5) ch_cX12_body_288 rfl) (rdb (p := 288) (i := 6) ch_cX12_body_288 rfl) rfl
theorem dX12_body_295 : decode cX12_body 295 = .ok (.aload_n 0, 1) := do_42 (rdb (p := 288) (i := 7) ch_cX12_body_288 rfl)
theorem dX12_body_296 : decode cX12_body 296 = .ok (.iconst 0, 1) := do_3 (rdb (p := 288) (i := 8) ch_cX12_body_288 rfl)
theorem dX12_body_297 : decode cX12_body 297 = .ok (.iconst 0, 1) := do_3 (rdb (p := 288) (i := 9) ch_cX12_body_288 rfl)
theorem dX12_body_298 : decode cX12_body 298 = .ok (.iload_n 3, 1) := do_29 (rdb (p := 288) (i := 10) ch_cX12_body_288 rfl)
theorem dX12_body_299 : decode cX12_body 299 = .ok (.invokevirtual 330, 3) := do_182 (rdb (p := 288) (i := 11) ch_cX12_body_288 rfl) (rdb (p := 288) (i := 12) ch_cX12_body_288 rfl) (rdb (p := 288) (i := 13) ch_cX12_body_288 rfl) rfl
theorem dX12_body_302 : decode cX12_body 302 = .ok (.ineg, 1) := do_116 (rdb (p := 288) (i := 14) ch_cX12_body_288 rfl)
theorem dX12_body_303 : decode cX12_body 303 = .ok (.ireturn, 1) := do_172 (rdb (p := 288) (i := 15) ch_cX12_body_288 rfl)
theorem dX12_body_304 : decode cX12_body 304 = .ok (.aload_n 0, 1) := do_42 (rdb (p := 288) (i := 16) ch_cX12_body_288 rfl)
theorem dX12_body_305 : decode cX12_body 305 = .ok (.bipush 41, 2) := do_16 (rdb (p := 288) (i := 17) ch_cX12_body_288 rfl) (rdb (p := 288) (i := 18) ch_cX12_body_288 rfl) (by decide +kernel)
theorem dX12_body_307 : decode cX12_body 307 = .ok (.invokevirtual 342, 3) := do_182 (rdb (p := 288) (i := 19) ch_cX12_body_288 rfl) (rdb (p := 288) (i := 20) ch_cX12_body_288 rfl) (rdb (p := 288) (i := 21) ch_cX12_body_288 rfl) rfl
theorem dX12_body_310 : decode cX12_body 310 = .ok (.aload_n 0, 1) := do_42 (rdb (p := 288) (i := 22) ch_cX12_body_288 rfl)
theorem dX12_body_311 : decode cX12_body 311 = .ok (.iconst 0, 1) := do_3 (rdb (p := 288) (i := 23) ch_cX12_body_288 rfl)
theorem dX12_body_312 : decode cX12_body 312 = .ok (.iconst 2, 1) := do_5 (rdb (p := 288) (i := 24) ch_cX12_body_288 rfl)
theorem dX12_body_313 : decode cX12_body 313 = .ok (.iload_n 3, 1) := do_29 (rdb (p := 288) (i := 25) ch_cX12_body_288 rfl)
theorem dX12_body_314 : decode cX12_body 314 = .ok (.invokevirtual 330, 3) := do_182 (rdb (p := 288) (i := 26) ch_cX12_body_288 rfl) (rdb (p := 288) (i := 27) ch_cX12_body_288 rfl) (rdb (p := 288) (i := 28) ch_cX12_body_288 rfl) rfl
theorem dX12_body_317 : decode cX12_body 317 = .ok (.iconst 5, 1) := do_8 (rdb (p := 288) (i := 29) ch_cX12_body_288 rfl)
theorem dX12_body_318 : decode cX12_body 318 = .ok (.iadd, 1) := do_96 (rdb (p := 288) (i := 30) ch_cX12_body_288 rfl)
theorem dX12_body_319 : decode cX12_body 319 = .ok (.ireturn, 1) := do_172 (rdb (p := 288) (i := 31) ch_cX12_body_288 rfl)
theorem ch_cX12_body_320 : (cX12_body.data.toList.drop 320).take 36 = [42, 16, 50, 182, 1, 86, 42, 3, 5, 29, 4, 100, 182, 1, 74, 172, 42, 16, 60, 182, 1, 86, 42, 4, 4, 29, 5, 96, 182, 1, 74, 172, 42, 16, 70, 182] := by decide +kernel
theorem dX12_body_320 : decode cX12_body 320 = .ok (.aload_n 0, 1) := do_42 (rdb (p := 320) (i := 0) ch_cX12_body_320 rfl)
theorem dX12_body_321 : decode cX12_body 321 = .ok (.bipush 50, 2) := do_16 (rdb (p := 320) (i := 1) ch_cX12_body_320 rfl) (rdb (p := 320) (i := 2) ch_cX12_body_320 rfl) (by decide +kernel)
theorem dX12_body_323 : decode cX12_body 323 = .ok (.invokevirtual 342, 3) := do_182 (rdb (p := 320) (i := 3) ch_cX12_body_320 rfl) (rdb (p := 320) (i := 4) ch_cX12_body_320 rfl) (rdb (p := 320) (i := 5) ch_cX12_body_320 rfl) rfl
theorem dX12_body_326 : decode cX12_body 326 = .ok (.aload_n 0, 1) := do_42 (rdb (p := 320) (i := 6) ch_cX12_body_320 rfl)
theorem dX12_body_327 : decode cX12_body 327 = .ok (.iconst 0, 1) := do_3 (rdb (p := 320) (i := 7) ch_cX12_body_320 rfl)
theorem dX12_body_328 : decode cX12_body 328 = .ok (.iconst 2, 1) := do_5 (rdb (p := 320) (i := 8) ch_cX12_body_320 rfl)
theorem dX12_body_329 : decode cX12_body 329 = .ok (.iload_n 3, 1) := do_29 (rdb (p := 320) (i := 9) ch_cX12_body_320 rfl)
theorem dX12_body_330 : decode cX12_body 330 = .ok (.iconst 1, 1) := do_4 (rdb (p := 320) (i := 10) ch_cX12_body_320 rfl)
theorem dX12_body_331 : decode cX12_body 331 = .ok (.isub, 1) := do_100 (rdb (p := 320) (i := 11) ch_cX12_body_320 rfl)
theorem dX12_body_332 : decode cX12_body 332 = .ok (.invokevirtual 330, 3) := do_182 (rdb (p := 320) (i := 12) ch_cX12_body_320 rfl) (rdb (p := 320) (i := 13) ch_cX12_body_320 rfl) (rdb (p := 320) (i := 14) ch_cX12_body_320 rfl) rfl
theorem dX12_body_335 : decode cX12_body 335 = .ok (.ireturn, 1) := do_172 (rdb (p := 320) (i := 15) ch_cX12_body_320 rfl)
theorem dX12_body_336 : decode cX12_body 336 = .ok (.aload_n 0, 1) := do_42 (rdb (p := 320) (i := 16) ch_cX12_body_320 rfl)
theorem dX12_body_337 : decode cX12_body 337 = .ok (.bipush 60, 2) := do_16 (rdb (p := 320) (i := 17) ch_cX12_body_320 rfl) (rdb (p := 320) (i := 18) ch_cX12_body_320 rfl) (by decide +kernel)
theorem dX12_body_339 : decode cX12_body 339 = .ok (.invokevirtual 342, 3) := do_182 (rdb (p := 320) (i := 19) ch_cX12_body_320 rfl) (rdb (p := 320) (i := 20) ch_cX12_body_320 rfl) (rdb (p := 320) (i := 21) ch_cX12_body_320 rfl) rfl
theorem dX12_body_342 : decode cX12_body 342 = .ok (.aload_n 0, 1) := do_42 (rdb (p := 320) (i := 22) ch_cX12_body_320 rfl)
theorem dX12_body_343 : decode cX12_body 343 = .ok (.iconst 1, 1) := do_4 (rdb (p := 320) (i := 23) ch_cX12_body_320 rfl)
theorem dX12_body_344 : decode cX12_body 344 = .ok (.iconst 1, 1) := do_4 (rdb (p := 320) (i := 24) ch_cX12_body_320 rfl)
theorem dX12_body_345 : decode cX12_body 345 = .ok (.iload_n 3, 1) := do_29 (rdb (p := 320) (i := 25) ch_cX12_body_320 rfl)
theorem dX12_body_346 : decode cX12_body 346 = .ok (.iconst 2, 1) := do_5 (rdb (p := 320) (i := 26) ch_cX12_body_320 rfl)
theorem dX12_body_347 : decode cX12_body 347 = .ok (.iadd, 1) := do_96 (rdb (p := 320) (i := 27) ch_cX12_body_320 rfl)
theorem dX12_body_348 : decode cX12_body 348 = .ok (.invokevirtual 330, 3) := do_182 (rdb (p := 320) (i := 28) ch_cX12_body_320 rfl) (rdb (p := 320) (i := 29) ch_cX12_body_320 rfl) (rdb (p := 320) (i := 30) ch_cX12_body_320 rfl) rfl
theorem dX12_body_351 : decode cX12_body 351 = .ok (.ireturn, 1) := do_172 (rdb (p := 320) (i := 31) ch_cX12_body_320 rfl)
theorem ch_cX12_body_352 : (cX12_body.data.toList.drop 352).take 36 = [42, 16, 70, 182, 1, 86, 42, 6, 4, 29, 182, 1, 74, 5, 108, 172, 42, 16, 71, 182, 1, 86, 42, 6, 5, 29, 182, 1, 74, 54, 5, 21, 5, 42, 3, 5] := by decide +kernel
theorem dX12_body_352 : decode cX12_body 352 = .ok (.aload_n 0, 1) := do_42 (rdb (p := 352) (i := 0) ch_cX12_body_352 rfl)
theorem dX12_body_353 : decode cX12_body 353 = .ok (.bipush 70, 2) := do_16 (rdb (p := 352) (i := 1) ch_cX12_body_352 rfl) (rdb (p := 352) (i := 2) ch_cX12_body_352 rfl) (by decide +kernel)
theorem dX12_body_355 : decode cX12_body 355 = .ok (.invokevirtual 342, 3) := do_182 (rdb (p := 352) (i := 3) ch_cX12_body_352 rfl) (rdb (p := 352) (i := 4) ch_cX12_body_352 rfl) (rdb (p := 352) (i := 5) ch_cX12_body_352 rfl) rfl
theorem dX12_body_358 : decode cX12_body 358 = .ok (.aload_n 0, 1) := do_42 (rdb (p := 352) (i := 6) ch_cX12_body_352 rfl)
theorem dX12_body_359 : decode cX12_body 359 = .ok (.iconst 3, 1) := do_6 (rdb (p := 352) (i := 7) ch_cX12_body_352 rfl)
theorem dX12_body_360 : decode cX12_body 360 = .ok (.iconst 1, 1) := do_4 (rdb (p := 352) (i := 8) ch_cX12_body_352 rfl)
theorem dX12_body_361 : decode cX12_body 361 = .ok (.iload_n 3, 1) := do_29 (rdb (p := 352) (i := 9) ch_cX12_body_352 rfl)
theorem dX12_body_362 : decode cX12_body 362 = .ok (.invokevirtual 330, 3) := do_182 (rdb (p := 352) (i := 10) ch_cX12_body_352 rfl) (rdb (p := 352) (i := 11) ch_cX12_body_352 rfl) (rdb (p := 352) (i := 12) ch_cX12_body_352 rfl) rfl
theorem dX12_body_365 : decode cX12_body 365 = .ok (.iconst 2, 1) := do_5 (rdb (p := 352) (i := 13) ch_cX12_body_352 rfl)
theorem dX12_body_366 : decode cX12_body 366 = .ok (.idiv, 1) := do_108 (rdb (p := 352) (i := 14) ch_cX12_body_352 rfl)
theorem dX12_body_367 : decode cX12_body 367 = .ok (.ireturn, 1) := do_172 (rdb (p := 352) (i := 15) ch_cX12_body_352 rfl)
theorem dX12_body_368 : decode cX12_body 368 = .ok (.aload_n 0, 1) := do_42 (rdb (p := 352) (i := 16) ch_cX12_body_352 rfl)
theorem dX12_body_369 : decode cX12_body 369 = .ok (.bipush 71, 2) := do_16 (rdb (p := 352) (i := 17) ch_cX12_body_352 rfl) (rdb (p := 352) (i := 18) ch_cX12_body_352 rfl) (by decide +kernel)
theorem dX12_body_371 : decode cX12_body 371 = .ok (.invokevirtual 342, 3) := do_182 (rdb (p := 352) (i := 19) ch_cX12_body_352 rfl) (rdb (p := 352) (i := 20) ch_cX12_body_352 rfl) (rdb (p := 352) (i := 21) ch_cX12_body_352 rfl) rfl
theorem dX12_body_374 : decode cX12_body 374 = .ok (.aload_n 0, 1) := do_42 (rdb (p := 352) (i := 22) ch_cX12_body_352 rfl)
theorem dX12_body_375 : decode cX12_body 375 = .ok (.iconst 3, 1) := do_6 (rdb (p := 352) (i := 23) ch_cX12_body_352 rfl)
theorem dX12_body_376 : decode cX12_body 376 = .ok (.iconst 2, 1) := do_5 (rdb (p := 352) (i := 24) ch_cX12_body_352 rfl)
theorem dX12_body_377 : decode cX12_body 377 = .ok (.iload_n 3, 1) := do_29 (rdb (p := 352) (i := 25) ch_cX12_body_352 rfl)
theorem dX12_body_378 : decode cX12_body 378 = .ok (.invokevirtual 330, 3) := do_182 (rdb (p := 352) (i := 26) ch_cX12_body_352 rfl) (rdb (p := 352) (i := 27) ch_cX12_body_352 rfl) (rdb (p := 352) (i := 28) ch_cX12_body_352 rfl) rfl
theorem dX12_body_381 : decode cX12_body 381 = .ok (.istore 5, 2) := do_54 (rdb (p := 352) (i := 29) ch_cX12_body_352 rfl) (rdb (p := 352) (i := 30) ch_cX12_body_352 rfl)
theorem dX12_body_383 : decode cX12_body 383 = .ok (.iload 5, 2) := do_21 (rdb (p := 352) (i := 31) ch_cX12_body_352 rfl) (rdb (p := 352) (i := 32) ch_cX12_body_352 rfl)
theorem ch_cX12_body_384 : (cX12_body.data.toList.drop 384).take 36 = [5, 42, 3, 5, 182, 1, 89, 100, 172, 42, 16, 80, 182, 1, 86, 42, 4, 6, 29, 182, 1, 74, 54, 5, 21, 5, 42, 4, 29, 182, 1, 89, 100, 172] := by decide +kernel
theorem dX12_body_385 : decode cX12_body 385 = .ok (.aload_n 0, 1) := do_42 (rdb (p := 384) (i := 1) ch_cX12_body_384 rfl)
theorem dX12_body_386 : decode cX12_body 386 = .ok (.iconst 0, 1) := do_3 (rdb (p := 384) (i := 2) ch_cX12_body_384 rfl)
theorem dX12_body_387 : decode cX12_body 387 = .ok (.iconst 2, 1) := do_5 (rdb (p := 384) (i := 3) ch_cX12_body_384 rfl)
theorem dX12_body_388 : decode cX12_body 388 = .ok (.invokevirtual 345, 3) := do_182 (rdb (p := 384) (i := 4) ch_cX12_body_384 rfl) (rdb (p := 384) (i := 5) ch_cX12_body_384 rfl) (rdb (p := 384) (i := 6) ch_cX12_body_384 rfl) rfl
theorem dX12_body_391 : decode cX12_body 391 = .ok (.isub, 1) := do_100 (rdb (p := 384) (i := 7) ch_cX12_body_384 rfl)
theorem dX12_body_392 : decode cX12_body 392 = .ok (.ireturn, 1) := do_172 (rdb (p := 384) (i := 8) ch_cX12_body_384 rfl)
theorem dX12_body_393 : decode cX12_body 393 = .ok (.aload_n 0, 1) := do_42 (rdb (p := 384) (i := 9) ch_cX12_body_384 rfl)
theorem dX12_body_394 : decode cX12_body 394 = .ok (.bipush 80, 2) := do_16 (rdb (p := 384) (i := 10) ch_cX12_body_384 rfl) (rdb (p := 384) (i := 11) ch_cX12_body_384 rfl) (by decide +kernel)
theorem dX12_body_396 : decode cX12_body 396 = .ok (.invokevirtual 342, 3) := do_182 (rdb (p := 384) (i := 12) ch_cX12_body_384 rfl) (rdb (p := 384) (i := 13) ch_cX12_body_384 rfl) (rdb (p := 384) (i := 14) ch_cX12_body_384 rfl) rfl
theorem dX12_body_399 : decode cX12_body 399 = .ok (.aload_n 0, 1) := do_42 (rdb (p := 384) (i := 15) ch_cX12_body_384 rfl)
theorem dX12_body_400 : decode cX12_body 400 = .ok (.iconst 1, 1) := do_4 (rdb (p := 384) (i := 16) ch_cX12_body_384 rfl)
theorem dX12_body_401 : decode cX12_body 401 = .ok (.iconst 3, 1) := do_6 (rdb (p := 384) (i := 17) ch_cX12_body_384 rfl)
theorem dX12_body_402 : decode cX12_body 402 = .ok (.iload_n 3, 1) := do_29 (rdb (p := 384) (i := 18) ch_cX12_body_384 rfl)
theorem dX12_body_403 : decode cX12_body 403 = .ok (.invokevirtual 330, 3) := do_182 (rdb (p := 384) (i := 19) ch_cX12_body_384 rfl) (rdb (p := 384) (i := 20) ch_cX12_body_384 rfl) (rdb (p := 384) (i := 21) ch_cX12_body_384 rfl) rfl
theorem dX12_body_406 : decode cX12_body 406 = .ok (.istore 5, 2) := do_54 (rdb (p := 384) (i := 22) ch_cX12_body_384 rfl) (rdb (p := 384) (i := 23) ch_cX12_body_384 rfl)
theorem dX12_body_408 : decode cX12_body 408 = .ok (.iload 5, 2) := do_21 (rdb (p := 384) (i := 24) ch_cX12_body_384 rfl) (rdb (p := 384) (i := 25) ch_cX12_body_384 rfl)
theorem dX12_body_410 : decode cX12_body 410 = .ok (.aload_n 0, 1) := do_42 (rdb (p := 384) (i := 26) ch_cX12_body_384 rfl)
theorem dX12_body_411 : decode cX12_body 411 = .ok (.iconst 1, 1) := do_4 (rdb (p := 384) (i := 27) ch_cX12_body_384 rfl)
theorem dX12_body_412 : decode cX12_body 412 = .ok (.iload_n 3, 1) := do_29 (rdb (p := 384) (i := 28) ch_cX12_body_384 rfl)
theorem dX12_body_413 : decode cX12_body 413 = .ok (.invokevirtual 345, 3) := do_182 (rdb (p := 384) (i := 29) ch_cX12_body_384 rfl) (rdb (p := 384) (i := 30) ch_cX12_body_384 rfl) (rdb (p := 384) (i := 31) ch_cX12_body_384 rfl) rfl
theorem ch_cX12_body_416 : (cX12_body.data.toList.drop 416).take 36 = [100, 172] := by decide +kernel
theorem dX12_body_416 : decode cX12_body 416 = .ok (.isub, 1) := do_100 (rdb (p := 416) (i := 0) ch_cX12_body_416 rfl)
theorem dX12_body_417 : decode cX12_body 417 = .ok (.ireturn, 1) := do_172 (rdb (p := 416) (i := 1) ch_cX12_body_416 rfl)
theorem ch_cX12_bodyFrom_0 : (cX12_bodyFrom.data.toList.drop 0).take 36 = [27, 54, 4, 21, 4, 28, 184, 1, 77, 154, 0, 13, 21, 4, 184, 0, 131, 54, 4, 167, 255, 240, 42, 180, 1, 80, 153, 0, 7, 3, 167, 0, 11, 42, 21, 4] := by decide +kernel
theorem dX12_bodyFrom_0 : decode cX12_bodyFrom 0 = .ok (.iload_n 1, 1) := do_27 (rdb (p := 0) (i := 0) ch_cX12_bodyFrom_0 rfl)
theorem dX12_bodyFrom_1 : decode cX12_bodyFrom 1 = .ok (.istore 4, 2) := do_54 (rdb (p := 0) (i := 1) ch_cX12_bodyFrom_0 rfl) (rdb (p := 0) (i := 2) ch_cX12_bodyFrom_0 rfl)
theorem dX12_bodyFrom_3 : decode cX12_bodyFrom 3 = .ok (.iload 4, 2) := do_21 (rdb (p := 0) (i := 3) ch_cX12_bodyFrom_0 rfl) (rdb (p := 0) (i := 4) ch_cX12_bodyFrom_0 rfl)
theorem dX12_bodyFrom_5 : decode cX12_bodyFrom 5 = .ok (.iload_n 2, 1) := do_28 (rdb (p := 0) (i := 5) ch_cX12_bodyFrom_0 rfl)
theorem dX12_bodyFrom_6 : decode cX12_bodyFrom 6 = .ok (.invokestatic 333, 3) := do_184 (rdb (p := 0) (i := 6) ch_cX12_bodyFrom_0 rfl) (rdb (p := 0) (i := 7) ch_cX12_bodyFrom_0 rfl) (rdb (p := 0) (i := 8) ch_cX12_bodyFrom_0 rfl) rfl
theorem dX12_bodyFrom_9 : decode cX12_bodyFrom 9 = .ok (.ifCond .ne 13, 3) := do_154 (rdb (p := 0) (i := 9) ch_cX12_bodyFrom_0 rfl) (rdb (p := 0) (i := 10) ch_cX12_bodyFrom_0 rfl) (rdb (p := 0) (i := 11) ch_cX12_bodyFrom_0 rfl) (by decide +kernel)
theorem dX12_bodyFrom_12 : decode cX12_bodyFrom 12 = .ok (.iload 4, 2) := do_21 (rdb (p := 0) (i := 12) ch_cX12_bodyFrom_0 rfl) (rdb (p := 0) (i := 13) ch_cX12_bodyFrom_0 rfl)
theorem dX12_bodyFrom_14 : decode cX12_bodyFrom 14 = .ok (.invokestatic 131, 3) := do_184 (rdb (p := 0) (i := 14) ch_cX12_bodyFrom_0 rfl) (rdb (p := 0) (i := 15) ch_cX12_bodyFrom_0 rfl) (rdb (p := 0) (i := 16) ch_cX12_bodyFrom_0 rfl) rfl
theorem dX12_bodyFrom_17 : decode cX12_bodyFrom 17 = .ok (.istore 4, 2) := do_54 (rdb (p := 0) (i := 17) ch_cX12_bodyFrom_0 rfl) (rdb (p := 0) (i := 18) ch_cX12_bodyFrom_0 rfl)
theorem dX12_bodyFrom_19 : decode cX12_bodyFrom 19 = .ok (.goto (-16), 3) := do_167 (rdb (p := 0) (i := 19) ch_cX12_bodyFrom_0 rfl) (rdb (p := 0) (i := 20) ch_cX12_bodyFrom_0 rfl) (rdb (p := 0) (i := 21) ch_cX12_bodyFrom_0 rfl) (by decide +kernel)
theorem dX12_bodyFrom_22 : decode cX12_bodyFrom 22 = .ok (.aload_n 0, 1) := do_42 (rdb (p := 0) (i := 22) ch_cX12_bodyFrom_0 rfl)
theorem dX12_bodyFrom_23 : decode cX12_bodyFrom 23 = .ok (.getfield 336, 3) := do_180 (rdb (p := 0) (i := 23) ch_cX12_bodyFrom_0 rfl) (rdb (p := 0) (i := 24) ch_cX12_bodyFrom_0 rfl) (rdb (p := 0) (i := 25) ch_cX12_bodyFrom_0 rfl) rfl
theorem dX12_bodyFrom_26 : decode cX12_bodyFrom 26 = .ok (.ifCond .eq 7, 3) := do_153 (rdb (p := 0) (i := 26) ch_cX12_bodyFrom_0 rfl) (rdb (p := 0) (i := 27) ch_cX12_bodyFrom_0 rfl) (rdb (p := 0) (i := 28) ch_cX12_bodyFrom_0 rfl) (by decide +kernel)
theorem dX12_bodyFrom_29 : decode cX12_bodyFrom 29 = .ok (.iconst 0, 1) := do_3 (rdb (p := 0) (i := 29) ch_cX12_bodyFrom_0 rfl)
theorem dX12_bodyFrom_30 : decode cX12_bodyFrom 30 = .ok (.goto 11, 3) := do_167 (rdb (p := 0) (i := 30) ch_cX12_bodyFrom_0 rfl) (rdb (p := 0) (i := 31) ch_cX12_bodyFrom_0 rfl) (rdb (p := 0) (i := 32) ch_cX12_bodyFrom_0 rfl) (by decide +kernel)
theorem ch_cX12_bodyFrom_32 : (cX12_bodyFrom.data.toList.drop 32).take 36 = [11, 42, 21, 4, 28, 29, 182, 1, 83, 172] := by decide +kernel
theorem dX12_bodyFrom_33 : decode cX12_bodyFrom 33 = .ok (.aload_n 0, 1) := do_42 (rdb (p := 32) (i := 1) ch_cX12_bodyFrom_32 rfl)
theorem dX12_bodyFrom_34 : decode cX12_bodyFrom 34 = .ok (.iload 4, 2) := do_21 (rdb (p := 32) (i := 2) ch_cX12_bodyFrom_32 rfl) (rdb (p := 32) (i := 3) ch_cX12_bodyFrom_32 rfl)
theorem dX12_bodyFrom_36 : decode cX12_bodyFrom 36 = .ok (.iload_n 2, 1) := do_28 (rdb (p := 32) (i := 4) ch_cX12_bodyFrom_32 rfl)
theorem dX12_bodyFrom_37 : decode cX12_bodyFrom 37 = .ok (.iload_n 3, 1) := do_29 (rdb (p := 32) (i := 5) ch_cX12_bodyFrom_32 rfl)
theorem dX12_bodyFrom_38 : decode cX12_bodyFrom 38 = .ok (.invokevirtual 339, 3) := do_182 (rdb (p := 32) (i := 6) ch_cX12_bodyFrom_32 rfl) (rdb (p := 32) (i := 7) ch_cX12_bodyFrom_32 rfl) (rdb (p := 32) (i := 8) ch_cX12_bodyFrom_32 rfl) rfl
theorem dX12_bodyFrom_41 : decode cX12_bodyFrom 41 = .ok (.ireturn, 1) := do_172 (rdb (p := 32) (i := 9) ch_cX12_bodyFrom_32 rfl)
theorem dX12_voiced_0 : decode cX12_voiced 0 = .ok (.aload_n 0, 1) := by decide +kernel
theorem dX12_voiced_1 : decode cX12_voiced 1 = .ok (.aload_n 0, 1) := by decide +kernel
theorem dX12_voiced_2 : decode cX12_voiced 2 = .ok (.aload_n 0, 1) := by decide +kernel
theorem dX12_voiced_3 : decode cX12_voiced 3 = .ok (.getfield 327, 3) := by decide +kernel
theorem dX12_voiced_6 : decode cX12_voiced 6 = .ok (.invokevirtual 137, 3) := by decide +kernel
theorem dX12_voiced_9 : decode cX12_voiced 9 = .ok (.iload_n 1, 1) := by decide +kernel
theorem dX12_voiced_10 : decode cX12_voiced 10 = .ok (.iload_n 2, 1) := by decide +kernel
theorem dX12_voiced_11 : decode cX12_voiced 11 = .ok (.invokevirtual 330, 3) := by decide +kernel
theorem dX12_voiced_14 : decode cX12_voiced 14 = .ok (.ireturn, 1) := by decide +kernel
end
