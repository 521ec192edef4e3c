def S_reader : rf → Nat → Prop := fun c k => (c.1 = 4 ∧ c.2.1 = 0 ∧ k = 3) ∨ (c.1 = 4 ∧ c.2.1 = 0 ∧ k = 4) ∨ (c.1 = 4 ∧ c.2.1 = 0 ∧ k = 5) ∨ (c.1 = 4 ∧ c.2.1 = 0 ∧ k = 6) ∨ (c.1 = 1 ∧ c.2.1 = 3 ∧ c.2.2 = 0 ∧ k = 2) ∨ (c.1 = 24 ∧ c.2.1 = 3 ∧ c.2.2 = 0) ∨ False
def ONEC (l : Launch) (G : va_G) (cy : Nat → ClassId) (ad : rf → Nat) (N m : Nat) : Prop := ∀ (d : Nat) (Mz : mM) (hIz : Inv Mz) (hT : Mz.1 (4, 0, 0) 1 = 1) (hN : Mz.1 (4, 0, 0) 2 = 1 ∨ Mz.1 (4, 0, 0) 2 = 2 ∨ Mz.1 (4, 0, 0) 2 = 3) (hk : (Mz.1 (4, 0, 0) 5).toInt + ((m : Nat) : Int) = 5) (hm : m ≤ 5), WP CC l G cy ad yX4_readOne cX4_readOne 2 none (N + d) 0 [(0, vR (4, 0, 0))] [] Mz (fun r M' => Inv M' ∧ FR (S_reader) Mz M' ∧ (M'.1 (4, 0, 0) 5).toInt + ((m : Nat) : Int) = 5)
def CMPC (l : Launch) (G : va_G) (cy : Nat → ClassId) (ad : rf → Nat) (N m : Nat) : Prop := ∀ (d : Nat) (Mz : mM) (hIz : Inv Mz) (hT : Mz.1 (4, 0, 0) 1 = 1) (hN : Mz.1 (4, 0, 0) 2 = 1 ∨ Mz.1 (4, 0, 0) 2 = 2 ∨ Mz.1 (4, 0, 0) 2 = 3) (hk : (Mz.1 (4, 0, 0) 5).toInt + ((m : Nat) : Int) = 5) (hm : m ≤ 5), WP CC l G cy ad yX4_readComparisons cX4_readComparisons 3 none (N + d) 0 [(0, vR (4, 0, 0))] [] Mz (fun r M' => Inv M' ∧ FR (S_reader) Mz M' ∧ (M'.1 (4, 0, 0) 5).toInt + ((m : Nat) : Int) = 5)
theorem lf_c_X4_readOpened_0 (Mz : mM) (m : Nat) (z1_ : Int32) (hk : (Mz.1 (4, 0, 0) 5).toInt + ((m : Nat) : Int) = 5) (hm : m ≤ 5) (e2_ : z1_ = Mz.1 (4, 0, 0) 5) (h3_ : z1_.toInt + ((m : Nat) : Int) = 5) (h4_ : z1_.toInt < 5) : -2147483648 ≤ z1_.toInt + 1 ∧ z1_.toInt + 1 < 2147483648 := by have r_z1_ := rngI z1_; subst e2_; omega
theorem lf_c_X4_readOpened_1 (M9_ : mM) (Mz : mM) (m : Nat) (z1_ : Int32) (z7_ : Int32) (hk : (Mz.1 (4, 0, 0) 5).toInt + ((m : Nat) : Int) = 5) (hm : m ≤ 5) (e2_ : z1_ = Mz.1 (4, 0, 0) 5) (h3_ : z1_.toInt + ((m : Nat) : Int) = 5) (h4_ : z1_.toInt < 5) (h8_ : z7_.toInt = z1_.toInt + 1) (hM10_ : M9_ = up Mz (4, 0, 0) 5 z7_) : z7_.toInt + (((m - 1) : Nat) : Int) = 5 := by have r_z1_ := rngI z1_; have r_z7_ := rngI z7_; omega
theorem lf_c_X4_readOpened_2 (M19_ : mM) (M9_ : mM) (Mz : mM) (m : Nat) (z1_ : Int32) (z7_ : Int32) (hk : (Mz.1 (4, 0, 0) 5).toInt + ((m : Nat) : Int) = 5) (hm : m ≤ 5) (e2_ : z1_ = Mz.1 (4, 0, 0) 5) (h3_ : z1_.toInt + ((m : Nat) : Int) = 5) (h4_ : z1_.toInt < 5) (h8_ : z7_.toInt = z1_.toInt + 1) (hM10_ : M9_ = up Mz (4, 0, 0) 5 z7_) (kf15_ : (M9_.1 (4, 0, 0) 5).toInt + (((m - 1) : Nat) : Int) = 5) (kf25_ : (M19_.1 (4, 0, 0) 5).toInt + (((m - 1) : Nat) : Int) = 5) : (m - 1) ≤ 5 := by have r_z1_ := rngI z1_; have r_z7_ := rngI z7_; subst e2_; omega
theorem lf_c_X4_readOpened_3 (M19_ : mM) (M9_ : mM) (Mz : mM) (m : Nat) (z1_ : Int32) (z7_ : Int32) (hk : (Mz.1 (4, 0, 0) 5).toInt + ((m : Nat) : Int) = 5) (hm : m ≤ 5) (e2_ : z1_ = Mz.1 (4, 0, 0) 5) (h3_ : z1_.toInt + ((m : Nat) : Int) = 5) (h4_ : z1_.toInt < 5) (h8_ : z7_.toInt = z1_.toInt + 1) (hM10_ : M9_ = up Mz (4, 0, 0) 5 z7_) (kf15_ : (M9_.1 (4, 0, 0) 5).toInt + (((m - 1) : Nat) : Int) = 5) (kf25_ : (M19_.1 (4, 0, 0) 5).toInt + (((m - 1) : Nat) : Int) = 5) : m - 1 + 1 = m := by have r_z1_ := rngI z1_; have r_z7_ := rngI z7_; subst e2_; omega
theorem lf_c_X4_readOpened_4 (M19_ : mM) (M28_ : mM) (M36_ : mM) (M9_ : mM) (Mz : mM) (m : Nat) (z1_ : Int32) (z7_ : Int32) (hk : (Mz.1 (4, 0, 0) 5).toInt + ((m : Nat) : Int) = 5) (hm : m ≤ 5) (e2_ : z1_ = Mz.1 (4, 0, 0) 5) (h3_ : z1_.toInt + ((m : Nat) : Int) = 5) (h4_ : z1_.toInt < 5) (h8_ : z7_.toInt = z1_.toInt + 1) (hM10_ : M9_ = up Mz (4, 0, 0) 5 z7_) (kf15_ : (M9_.1 (4, 0, 0) 5).toInt + (((m - 1) : Nat) : Int) = 5) (kf25_ : (M19_.1 (4, 0, 0) 5).toInt + (((m - 1) : Nat) : Int) = 5) (h30_ : (M28_.1 (4, 0, 0) 5).toInt + (((m - 1) : Nat) : Int) = 5) (kf44_ : (M36_.1 (4, 0, 0) 5).toInt + (((m - 1) : Nat) : Int) = 5) : (m - 1) ≤ 5 := by have r_z1_ := rngI z1_; have r_z7_ := rngI z7_; subst e2_; omega
theorem lf_c_X4_readOpened_5 (M19_ : mM) (M28_ : mM) (M36_ : mM) (M9_ : mM) (Mz : mM) (m : Nat) (z1_ : Int32) (z7_ : Int32) (hk : (Mz.1 (4, 0, 0) 5).toInt + ((m : Nat) : Int) = 5) (hm : m ≤ 5) (e2_ : z1_ = Mz.1 (4, 0, 0) 5) (h3_ : z1_.toInt + ((m : Nat) : Int) = 5) (h4_ : z1_.toInt < 5) (h8_ : z7_.toInt = z1_.toInt + 1) (hM10_ : M9_ = up Mz (4, 0, 0) 5 z7_) (kf15_ : (M9_.1 (4, 0, 0) 5).toInt + (((m - 1) : Nat) : Int) = 5) (kf25_ : (M19_.1 (4, 0, 0) 5).toInt + (((m - 1) : Nat) : Int) = 5) (h30_ : (M28_.1 (4, 0, 0) 5).toInt + (((m - 1) : Nat) : Int) = 5) (kf44_ : (M36_.1 (4, 0, 0) 5).toInt + (((m - 1) : Nat) : Int) = 5) : m - 1 + 1 = m := by have r_z1_ := rngI z1_; have r_z7_ := rngI z7_; subst e2_; omega
theorem lf_c_X4_readOpened_6 (M19_ : mM) (M28_ : mM) (M36_ : mM) (M45_ : mM) (M53_ : mM) (M9_ : mM) (Mz : mM) (m : Nat) (z1_ : Int32) (z7_ : Int32) (hk : (Mz.1 (4, 0, 0) 5).toInt + ((m : Nat) : Int) = 5) (hm : m ≤ 5) (e2_ : z1_ = Mz.1 (4, 0, 0) 5) (h3_ : z1_.toInt + ((m : Nat) : Int) = 5) (h4_ : z1_.toInt < 5) (h8_ : z7_.toInt = z1_.toInt + 1) (hM10_ : M9_ = up Mz (4, 0, 0) 5 z7_) (kf15_ : (M9_.1 (4, 0, 0) 5).toInt + (((m - 1) : Nat) : Int) = 5) (kf25_ : (M19_.1 (4, 0, 0) 5).toInt + (((m - 1) : Nat) : Int) = 5) (h30_ : (M28_.1 (4, 0, 0) 5).toInt + (((m - 1) : Nat) : Int) = 5) (kf44_ : (M36_.1 (4, 0, 0) 5).toInt + (((m - 1) : Nat) : Int) = 5) (h47_ : (M45_.1 (4, 0, 0) 5).toInt + (((m - 1) : Nat) : Int) = 5) (kf61_ : (M53_.1 (4, 0, 0) 5).toInt + (((m - 1) : Nat) : Int) = 5) : (m - 1) ≤ 5 := by have r_z1_ := rngI z1_; have r_z7_ := rngI z7_; subst e2_; omega
theorem lf_c_X4_readOpened_7 (M19_ : mM) (M28_ : mM) (M36_ : mM) (M45_ : mM) (M53_ : mM) (M9_ : mM) (Mz : mM) (m : Nat) (z1_ : Int32) (z7_ : Int32) (hk : (Mz.1 (4, 0, 0) 5).toInt + ((m : Nat) : Int) = 5) (hm : m ≤ 5) (e2_ : z1_ = Mz.1 (4, 0, 0) 5) (h3_ : z1_.toInt + ((m : Nat) : Int) = 5) (h4_ : z1_.toInt < 5) (h8_ : z7_.toInt = z1_.toInt + 1) (hM10_ : M9_ = up Mz (4, 0, 0) 5 z7_) (kf15_ : (M9_.1 (4, 0, 0) 5).toInt + (((m - 1) : Nat) : Int) = 5) (kf25_ : (M19_.1 (4, 0, 0) 5).toInt + (((m - 1) : Nat) : Int) = 5) (h30_ : (M28_.1 (4, 0, 0) 5).toInt + (((m - 1) : Nat) : Int) = 5) (kf44_ : (M36_.1 (4, 0, 0) 5).toInt + (((m - 1) : Nat) : Int) = 5) (h47_ : (M45_.1 (4, 0, 0) 5).toInt + (((m - 1) : Nat) : Int) = 5) (kf61_ : (M53_.1 (4, 0, 0) 5).toInt + (((m - 1) : Nat) : Int) = 5) : m - 1 + 1 = m := by have r_z1_ := rngI z1_; have r_z7_ := rngI z7_; subst e2_; omega
theorem lf_c_X4_readOpened_8 (M19_ : mM) (M28_ : mM) (M36_ : mM) (M45_ : mM) (M53_ : mM) (M62_ : mM) (M70_ : mM) (M79_ : mM) (M9_ : mM) (Mz : mM) (m : Nat) (z1_ : Int32) (z7_ : Int32) (z88_ : Int32) (hk : (Mz.1 (4, 0, 0) 5).toInt + ((m : Nat) : Int) = 5) (hm : m ≤ 5) (e2_ : z1_ = Mz.1 (4, 0, 0) 5) (h3_ : z1_.toInt + ((m : Nat) : Int) = 5) (h4_ : z1_.toInt < 5) (h8_ : z7_.toInt = z1_.toInt + 1) (hM10_ : M9_ = up Mz (4, 0, 0) 5 z7_) (kf15_ : (M9_.1 (4, 0, 0) 5).toInt + (((m - 1) : Nat) : Int) = 5) (kf25_ : (M19_.1 (4, 0, 0) 5).toInt + (((m - 1) : Nat) : Int) = 5) (h30_ : (M28_.1 (4, 0, 0) 5).toInt + (((m - 1) : Nat) : Int) = 5) (kf44_ : (M36_.1 (4, 0, 0) 5).toInt + (((m - 1) : Nat) : Int) = 5) (h47_ : (M45_.1 (4, 0, 0) 5).toInt + (((m - 1) : Nat) : Int) = 5) (kf61_ : (M53_.1 (4, 0, 0) 5).toInt + (((m - 1) : Nat) : Int) = 5) (h64_ : (M62_.1 (4, 0, 0) 5).toInt + (((m - 1) : Nat) : Int) = 5) (kf78_ : (M70_.1 (4, 0, 0) 5).toInt + (((m - 1) : Nat) : Int) = 5) (kf87_ : (M79_.1 (4, 0, 0) 5).toInt + (((m - 1) : Nat) : Int) = 5) (e89_ : z88_ = M79_.1 (4, 0, 0) 5) (h90_ : z88_.toInt + (((m - 1) : Nat) : Int) = 5) : -2147483648 ≤ z88_.toInt - 1 ∧ z88_.toInt - 1 < 2147483648 := by have r_z1_ := rngI z1_; have r_z7_ := rngI z7_; have r_z88_ := rngI z88_; subst e2_; subst e89_; omega
theorem lf_c_X4_readOpened_9 (M19_ : mM) (M28_ : mM) (M36_ : mM) (M45_ : mM) (M53_ : mM) (M62_ : mM) (M70_ : mM) (M79_ : mM) (M93_ : mM) (M9_ : mM) (Mz : mM) (m : Nat) (z1_ : Int32) (z7_ : Int32) (z88_ : Int32) (z91_ : Int32) (hk : (Mz.1 (4, 0, 0) 5).toInt + ((m : Nat) : Int) = 5) (hm : m ≤ 5) (e2_ : z1_ = Mz.1 (4, 0, 0) 5) (h3_ : z1_.toInt + ((m : Nat) : Int) = 5) (h4_ : z1_.toInt < 5) (h8_ : z7_.toInt = z1_.toInt + 1) (hM10_ : M9_ = up Mz (4, 0, 0) 5 z7_) (kf15_ : (M9_.1 (4, 0, 0) 5).toInt + (((m - 1) : Nat) : Int) = 5) (kf25_ : (M19_.1 (4, 0, 0) 5).toInt + (((m - 1) : Nat) : Int) = 5) (h30_ : (M28_.1 (4, 0, 0) 5).toInt + (((m - 1) : Nat) : Int) = 5) (kf44_ : (M36_.1 (4, 0, 0) 5).toInt + (((m - 1) : Nat) : Int) = 5) (h47_ : (M45_.1 (4, 0, 0) 5).toInt + (((m - 1) : Nat) : Int) = 5) (kf61_ : (M53_.1 (4, 0, 0) 5).toInt + (((m - 1) : Nat) : Int) = 5) (h64_ : (M62_.1 (4, 0, 0) 5).toInt + (((m - 1) : Nat) : Int) = 5) (kf78_ : (M70_.1 (4, 0, 0) 5).toInt + (((m - 1) : Nat) : Int) = 5) (kf87_ : (M79_.1 (4, 0, 0) 5).toInt + (((m - 1) : Nat) : Int) = 5) (e89_ : z88_ = M79_.1 (4, 0, 0) 5) (h90_ : z88_.toInt + (((m - 1) : Nat) : Int) = 5) (h92_ : z91_.toInt = z88_.toInt - 1) (hM94_ : M93_ = up M79_ (4, 0, 0) 5 z91_) : z91_.toInt + ((m : Nat) : Int) = 5 := by have r_z1_ := rngI z1_; have r_z7_ := rngI z7_; have r_z88_ := rngI z88_; have r_z91_ := rngI z91_; omega
theorem lf_c_X4_readOpened_10 (M19_ : mM) (M9_ : mM) (Mz : mM) (m : Nat) (z1_ : Int32) (z7_ : Int32) (hk : (Mz.1 (4, 0, 0) 5).toInt + ((m : Nat) : Int) = 5) (hm : m ≤ 5) (e2_ : z1_ = Mz.1 (4, 0, 0) 5) (h3_ : z1_.toInt + ((m : Nat) : Int) = 5) (h4_ : z1_.toInt < 5) (h8_ : z7_.toInt = z1_.toInt + 1) (hM10_ : M9_ = up Mz (4, 0, 0) 5 z7_) (kf15_ : (M9_.1 (4, 0, 0) 5).toInt + (((m - 1) : Nat) : Int) = 5) (kf25_ : (M19_.1 (4, 0, 0) 5).toInt + (((m - 1) : Nat) : Int) = 5) : (m - 1) ≤ 5 := by have r_z1_ := rngI z1_; have r_z7_ := rngI z7_; subst e2_; omega
theorem lf_c_X4_readOpened_11 (M19_ : mM) (M9_ : mM) (Mz : mM) (m : Nat) (z1_ : Int32) (z7_ : Int32) (hk : (Mz.1 (4, 0, 0) 5).toInt + ((m : Nat) : Int) = 5) (hm : m ≤ 5) (e2_ : z1_ = Mz.1 (4, 0, 0) 5) (h3_ : z1_.toInt + ((m : Nat) : Int) = 5) (h4_ : z1_.toInt < 5) (h8_ : z7_.toInt = z1_.toInt + 1) (hM10_ : M9_ = up Mz (4, 0, 0) 5 z7_) (kf15_ : (M9_.1 (4, 0, 0) 5).toInt + (((m - 1) : Nat) : Int) = 5) (kf25_ : (M19_.1 (4, 0, 0) 5).toInt + (((m - 1) : Nat) : Int) = 5) : m - 1 + 1 = m := by have r_z1_ := rngI z1_; have r_z7_ := rngI z7_; subst e2_; omega
theorem lf_c_X4_readOpened_12 (M100_ : mM) (M108_ : mM) (M19_ : mM) (M9_ : mM) (Mz : mM) (m : Nat) (z1_ : Int32) (z7_ : Int32) (z117_ : Int32) (hk : (Mz.1 (4, 0, 0) 5).toInt + ((m : Nat) : Int) = 5) (hm : m ≤ 5) (e2_ : z1_ = Mz.1 (4, 0, 0) 5) (h3_ : z1_.toInt + ((m : Nat) : Int) = 5) (h4_ : z1_.toInt < 5) (h8_ : z7_.toInt = z1_.toInt + 1) (hM10_ : M9_ = up Mz (4, 0, 0) 5 z7_) (kf15_ : (M9_.1 (4, 0, 0) 5).toInt + (((m - 1) : Nat) : Int) = 5) (kf25_ : (M19_.1 (4, 0, 0) 5).toInt + (((m - 1) : Nat) : Int) = 5) (h102_ : (M100_.1 (4, 0, 0) 5).toInt + (((m - 1) : Nat) : Int) = 5) (kf116_ : (M108_.1 (4, 0, 0) 5).toInt + (((m - 1) : Nat) : Int) = 5) (e118_ : z117_ = M108_.1 (4, 0, 0) 5) (h119_ : z117_.toInt + (((m - 1) : Nat) : Int) = 5) : -2147483648 ≤ z117_.toInt - 1 ∧ z117_.toInt - 1 < 2147483648 := by have r_z1_ := rngI z1_; have r_z7_ := rngI z7_; have r_z117_ := rngI z117_; subst e2_; subst e118_; omega
theorem lf_c_X4_readOpened_13 (M100_ : mM) (M108_ : mM) (M122_ : mM) (M19_ : mM) (M9_ : mM) (Mz : mM) (m : Nat) (z1_ : Int32) (z7_ : Int32) (z117_ : Int32) (z120_ : Int32) (hk : (Mz.1 (4, 0, 0) 5).toInt + ((m : Nat) : Int) = 5) (hm : m ≤ 5) (e2_ : z1_ = Mz.1 (4, 0, 0) 5) (h3_ : z1_.toInt + ((m : Nat) : Int) = 5) (h4_ : z1_.toInt < 5) (h8_ : z7_.toInt = z1_.toInt + 1) (hM10_ : M9_ = up Mz (4, 0, 0) 5 z7_) (kf15_ : (M9_.1 (4, 0, 0) 5).toInt + (((m - 1) : Nat) : Int) = 5) (kf25_ : (M19_.1 (4, 0, 0) 5).toInt + (((m - 1) : Nat) : Int) = 5) (h102_ : (M100_.1 (4, 0, 0) 5).toInt + (((m - 1) : Nat) : Int) = 5) (kf116_ : (M108_.1 (4, 0, 0) 5).toInt + (((m - 1) : Nat) : Int) = 5) (e118_ : z117_ = M108_.1 (4, 0, 0) 5) (h119_ : z117_.toInt + (((m - 1) : Nat) : Int) = 5) (h121_ : z120_.toInt = z117_.toInt - 1) (hM123_ : M122_ = up M108_ (4, 0, 0) 5 z120_) : z120_.toInt + ((m : Nat) : Int) = 5 := by have r_z1_ := rngI z1_; have r_z7_ := rngI z7_; have r_z117_ := rngI z117_; have r_z120_ := rngI z120_; omega
theorem lf_c_X4_readOpened_14 (M19_ : mM) (M9_ : mM) (Mz : mM) (m : Nat) (z1_ : Int32) (z7_ : Int32) (hk : (Mz.1 (4, 0, 0) 5).toInt + ((m : Nat) : Int) = 5) (hm : m ≤ 5) (e2_ : z1_ = Mz.1 (4, 0, 0) 5) (h3_ : z1_.toInt + ((m : Nat) : Int) = 5) (h4_ : z1_.toInt < 5) (h8_ : z7_.toInt = z1_.toInt + 1) (hM10_ : M9_ = up Mz (4, 0, 0) 5 z7_) (kf15_ : (M9_.1 (4, 0, 0) 5).toInt + (((m - 1) : Nat) : Int) = 5) (kf25_ : (M19_.1 (4, 0, 0) 5).toInt + (((m - 1) : Nat) : Int) = 5) : (m - 1) ≤ 5 := by have r_z1_ := rngI z1_; have r_z7_ := rngI z7_; subst e2_; omega
theorem lf_c_X4_readOpened_15 (M19_ : mM) (M9_ : mM) (Mz : mM) (m : Nat) (z1_ : Int32) (z7_ : Int32) (hk : (Mz.1 (4, 0, 0) 5).toInt + ((m : Nat) : Int) = 5) (hm : m ≤ 5) (e2_ : z1_ = Mz.1 (4, 0, 0) 5) (h3_ : z1_.toInt + ((m : Nat) : Int) = 5) (h4_ : z1_.toInt < 5) (h8_ : z7_.toInt = z1_.toInt + 1) (hM10_ : M9_ = up Mz (4, 0, 0) 5 z7_) (kf15_ : (M9_.1 (4, 0, 0) 5).toInt + (((m - 1) : Nat) : Int) = 5) (kf25_ : (M19_.1 (4, 0, 0) 5).toInt + (((m - 1) : Nat) : Int) = 5) : m - 1 + 1 = m := by have r_z1_ := rngI z1_; have r_z7_ := rngI z7_; subst e2_; omega
theorem lf_c_X4_readOpened_16 (M129_ : mM) (M137_ : mM) (M19_ : mM) (M9_ : mM) (Mz : mM) (m : Nat) (z1_ : Int32) (z7_ : Int32) (z146_ : Int32) (hk : (Mz.1 (4, 0, 0) 5).toInt + ((m : Nat) : Int) = 5) (hm : m ≤ 5) (e2_ : z1_ = Mz.1 (4, 0, 0) 5) (h3_ : z1_.toInt + ((m : Nat) : Int) = 5) (h4_ : z1_.toInt < 5) (h8_ : z7_.toInt = z1_.toInt + 1) (hM10_ : M9_ = up Mz (4, 0, 0) 5 z7_) (kf15_ : (M9_.1 (4, 0, 0) 5).toInt + (((m - 1) : Nat) : Int) = 5) (kf25_ : (M19_.1 (4, 0, 0) 5).toInt + (((m - 1) : Nat) : Int) = 5) (h131_ : (M129_.1 (4, 0, 0) 5).toInt + (((m - 1) : Nat) : Int) = 5) (kf145_ : (M137_.1 (4, 0, 0) 5).toInt + (((m - 1) : Nat) : Int) = 5) (e147_ : z146_ = M137_.1 (4, 0, 0) 5) (h148_ : z146_.toInt + (((m - 1) : Nat) : Int) = 5) : -2147483648 ≤ z146_.toInt - 1 ∧ z146_.toInt - 1 < 2147483648 := by have r_z1_ := rngI z1_; have r_z7_ := rngI z7_; have r_z146_ := rngI z146_; subst e2_; subst e147_; omega
theorem lf_c_X4_readOpened_17 (M129_ : mM) (M137_ : mM) (M151_ : mM) (M19_ : mM) (M9_ : mM) (Mz : mM) (m : Nat) (z1_ : Int32) (z7_ : Int32) (z146_ : Int32) (z149_ : Int32) (hk : (Mz.1 (4, 0, 0) 5).toInt + ((m : Nat) : Int) = 5) (hm : m ≤ 5) (e2_ : z1_ = Mz.1 (4, 0, 0) 5) (h3_ : z1_.toInt + ((m : Nat) : Int) = 5) (h4_ : z1_.toInt < 5) (h8_ : z7_.toInt = z1_.toInt + 1) (hM10_ : M9_ = up Mz (4, 0, 0) 5 z7_) (kf15_ : (M9_.1 (4, 0, 0) 5).toInt + (((m - 1) : Nat) : Int) = 5) (kf25_ : (M19_.1 (4, 0, 0) 5).toInt + (((m - 1) : Nat) : Int) = 5) (h131_ : (M129_.1 (4, 0, 0) 5).toInt + (((m - 1) : Nat) : Int) = 5) (kf145_ : (M137_.1 (4, 0, 0) 5).toInt + (((m - 1) : Nat) : Int) = 5) (e147_ : z146_ = M137_.1 (4, 0, 0) 5) (h148_ : z146_.toInt + (((m - 1) : Nat) : Int) = 5) (h150_ : z149_.toInt = z146_.toInt - 1) (hM152_ : M151_ = up M137_ (4, 0, 0) 5 z149_) : z149_.toInt + ((m : Nat) : Int) = 5 := by have r_z1_ := rngI z1_; have r_z7_ := rngI z7_; have r_z146_ := rngI z146_; have r_z149_ := rngI z149_; omega
set_option maxHeartbeats 4000000 in
set_option maxRecDepth 100000 in
theorem c_X4_readOpened (l : Launch) (G : va_G) (cy : Nat → ClassId) (ad : rf → Nat) (d : Nat) (N : Nat) (m : Nat) (v : Int32) (Mz : mM) (hIz : Inv Mz) (hA : ∀ k : Nat, k + 1 = m → ONEC l G cy ad N k) (hB : ∀ k : Nat, k + 1 = m → CMPC l G cy ad N k) (hT : Mz.1 (4, 0, 0) 1 = 1) (hN : Mz.1 (4, 0, 0) 2 = 1 ∨ Mz.1 (4, 0, 0) 2 = 2 ∨ Mz.1 (4, 0, 0) 2 = 3) (hk : (Mz.1 (4, 0, 0) 5).toInt + ((m : Nat) : Int) = 5) (hm : m ≤ 5) : WP CC l G cy ad yX4_readOpened cX4_readOpened 2 none ((N + d) + 3) 0 [(0, vR (4, 0, 0)), (1, vI v)] [] Mz (fun r M' => Inv M' ∧ FR (S_reader) Mz M' ∧ (M'.1 (4, 0, 0) 5).toInt + ((m : Nat) : Int) = 5) := by
  have hFz : FR (S_reader) Mz Mz := FR.self
  refine w_aload_n dX4_readOpened_0 rfl 0 rfl ?_
  refine w_getI fl_RX4_38 rfl rfl ic_4 dX4_readOpened_1 (fun z1_ e2_ => ?_)
  have h3_ : z1_.toInt + ((m : Nat) : Int) = 5 := by rw [e2_]; exact hk
  refine w_iconst (v := 5) dX4_readOpened_4 (by decide) ?_
  refine w_icmp_lt (tgt := 13) dX4_readOpened_5 (by decide) (rfl : z1_.toInt = z1_.toInt) li_5 (fun h4_ => ?_) (fun h4_ => ?_)
  · refine w_aload_n dX4_readOpened_13 rfl 0 rfl ?_
    refine w_dup dX4_readOpened_14 rfl ?_
    refine w_getI fl_RX4_38 rfl rfl ic_4 dX4_readOpened_15 (fun z5_ e6_ => ?_)
    obtain rfl : z1_ = z5_ := e2_.trans e6_.symm
    refine w_iconst (v := 1) dX4_readOpened_18 (by decide) ?_
    refine w_iaddB dX4_readOpened_19 (rfl : z1_.toInt = z1_.toInt) li_1 (lf_c_X4_readOpened_0 Mz m z1_ hk hm e2_ h3_ h4_) (fun z7_ h8_ => ?_)
    refine w_putI CC_nd fl_RX4_38 rfl rfl ic_4 dX4_readOpened_20 (fun M9_ hM10_ => ?_)
    have hI11_ := hIz.put hM10_ trivial
    have hF12_ := hFz.put hM10_ (Or.inr (Or.inr (Or.inl ⟨rfl, rfl, rfl⟩)))
    have kf13_ : M9_.1 (4, 0, 0) 1 = 1 := by rw [(show M9_.1 (4, 0, 0) 1 = Mz.1 (4, 0, 0) 1 by rw [hM10_, up_ne (by simp)])]; exact hT
    have kf14_ : M9_.1 (4, 0, 0) 2 = 1 ∨ M9_.1 (4, 0, 0) 2 = 2 ∨ M9_.1 (4, 0, 0) 2 = 3 := by rw [(show M9_.1 (4, 0, 0) 2 = Mz.1 (4, 0, 0) 2 by rw [hM10_, up_ne (by simp)])]; exact hN
    have kf15_ : (M9_.1 (4, 0, 0) 5).toInt + (((m - 1) : Nat) : Int) = 5 := by rw [hM10_, up_same]; exact (lf_c_X4_readOpened_1 M9_ Mz m z1_ z7_ hk hm e2_ h3_ h4_ h8_ hM10_)
    refine w_aload_n dX4_readOpened_23 rfl 0 rfl ?_
    refine w_dup dX4_readOpened_24 rfl ?_
    refine w_getI fl_RX4_31 rfl rfl ic_4 dX4_readOpened_25 (fun z16_ e17_ => ?_)
    refine w_iconst (v := 1) dX4_readOpened_28 (by decide) ?_
    refine w_iadd dX4_readOpened_29 (fun z18_ _ => ?_)
    refine w_putI CC_nd fl_RX4_31 rfl rfl ic_4 dX4_readOpened_30 (fun M19_ hM20_ => ?_)
    have hI21_ := hI11_.put hM20_ trivial
    have hF22_ := hF12_.put hM20_ (Or.inl ⟨rfl, rfl, rfl⟩)
    have kf23_ : M19_.1 (4, 0, 0) 1 = 1 := by rw [(show M19_.1 (4, 0, 0) 1 = M9_.1 (4, 0, 0) 1 by rw [hM20_, up_ne (by simp)])]; exact kf13_
    have kf24_ : M19_.1 (4, 0, 0) 2 = 1 ∨ M19_.1 (4, 0, 0) 2 = 2 ∨ M19_.1 (4, 0, 0) 2 = 3 := by rw [(show M19_.1 (4, 0, 0) 2 = M9_.1 (4, 0, 0) 2 by rw [hM20_, up_ne (by simp)])]; exact kf14_
    have kf25_ : (M19_.1 (4, 0, 0) 5).toInt + (((m - 1) : Nat) : Int) = 5 := by rw [(show M19_.1 (4, 0, 0) 5 = M9_.1 (4, 0, 0) 5 by rw [hM20_, up_ne (by simp)])]; exact kf15_
    refine w_iload_n dX4_readOpened_33 rfl 1 rfl ?_
    refine w_bipush (v := 45) dX4_readOpened_34 (by decide) ?_
    refine w_icmp_ne (tgt := 56) dX4_readOpened_36 (by decide) (rfl : v.toInt = v.toInt) li_45 (fun h26_ => ?_) (fun h26_ => ?_)
    · refine w_iload_n dX4_readOpened_56 rfl 1 rfl ?_
      refine w_bipush (v := 40) dX4_readOpened_57 (by decide) ?_
      refine w_icmp_ne (tgt := 75) dX4_readOpened_59 (by decide) (rfl : v.toInt = v.toInt) li_40 (fun h27_ => ?_) (fun h27_ => ?_)
      · refine w_aload_n dX4_readOpened_75 rfl 0 rfl ?_
        refine w_callVv (as := []) (rest := []) (hB (m - 1) (lf_c_X4_readOpened_3 M19_ M9_ Mz m z1_ z7_ hk hm e2_ h3_ h4_ h8_ hM10_ kf15_ kf25_) (d + 2) M19_ hI21_ kf23_ kf24_ kf25_ (lf_c_X4_readOpened_2 M19_ M9_ Mz m z1_ z7_ hk hm e2_ h3_ h4_ h8_ hM10_ kf15_ kf25_)) kV_X4_readComparisons (by decide +kernel) (Nat.le_of_ble_eq_true rfl) m_692 rfl rfl rfl ic_4 rfl rfl (by decide) (Nat.le_of_ble_eq_true rfl) dX4_readOpened_76 (fun M28_ q29_ => ?_)
        obtain ⟨hI31_, hF32_, h30_⟩ := q29_
        have hF33_ := hF22_.tr hF32_ (fun c k => (fun h => h.elim (fun h => (Or.inl ⟨h.1, h.2.1, h.2.2⟩)) (fun h => h.elim (fun h => (Or.inr (Or.inl ⟨h.1, h.2.1, h.2.2⟩))) (fun h => h.elim (fun h => (Or.inr (Or.inr (Or.inl ⟨h.1, h.2.1, h.2.2⟩)))) (fun h => h.elim (fun h => (Or.inr (Or.inr (Or.inr (Or.inl ⟨h.1, h.2.1, h.2.2⟩))))) (fun h => h.elim (fun h => (Or.inr (Or.inr (Or.inr (Or.inr (Or.inl ⟨h.1, h.2.1, h.2.2.1, h.2.2.2⟩)))))) (fun h => h.elim (fun h => (Or.inr (Or.inr (Or.inr (Or.inr (Or.inr (Or.inl ⟨h.1, h.2.1, h.2.2⟩))))))) (fun h => h.elim))))))))
        have kf34_ : M28_.1 (4, 0, 0) 1 = 1 := by rw [(hF32_ (4, 0, 0) 1 (by simp [S_reader]))]; exact kf23_
        have kf35_ : M28_.1 (4, 0, 0) 2 = 1 ∨ M28_.1 (4, 0, 0) 2 = 2 ∨ M28_.1 (4, 0, 0) 2 = 3 := by rw [(hF32_ (4, 0, 0) 2 (by simp [S_reader]))]; exact kf24_
        refine w_aload_n dX4_readOpened_79 rfl 0 rfl ?_
        refine w_bipush (v := 63) dX4_readOpened_80 (by decide) ?_
        refine w_callVv (as := [vI 63]) (rest := []) (c_X4_expect l G cy ad (N + d) 63 M28_ hI31_ kf34_) kV_X4_expect (by decide +kernel) (Nat.le_of_ble_eq_true rfl) m_732 rfl rfl rfl ic_4 rfl rfl (by decide) (Nat.le_of_ble_eq_true rfl) dX4_readOpened_82 (fun M36_ q37_ => ?_)
        obtain ⟨hI39_, hF40_, h38_⟩ := q37_
        have hF41_ := hF33_.tr hF40_ (fun c k => (fun h => h.elim (fun h => (Or.inl ⟨h.1, h.2.1, h.2.2⟩)) (fun h => h.elim (fun h => (Or.inr (Or.inl ⟨h.1, h.2.1, h.2.2⟩))) (fun h => h.elim))))
        have kf42_ : M36_.1 (4, 0, 0) 1 = 1 := by rw [(hF40_ (4, 0, 0) 1 (by simp [S_c_X4_expect]))]; exact kf34_
        have kf43_ : M36_.1 (4, 0, 0) 2 = 1 ∨ M36_.1 (4, 0, 0) 2 = 2 ∨ M36_.1 (4, 0, 0) 2 = 3 := by rw [(hF40_ (4, 0, 0) 2 (by simp [S_c_X4_expect]))]; exact kf35_
        have kf44_ : (M36_.1 (4, 0, 0) 5).toInt + (((m - 1) : Nat) : Int) = 5 := by rw [(hF40_ (4, 0, 0) 5 (by simp [S_c_X4_expect]))]; exact h30_
        refine w_aload_n dX4_readOpened_85 rfl 0 rfl ?_
        refine w_callVv (as := []) (rest := []) (hB (m - 1) (lf_c_X4_readOpened_5 M19_ M28_ M36_ M9_ Mz m z1_ z7_ hk hm e2_ h3_ h4_ h8_ hM10_ kf15_ kf25_ h30_ kf44_) (d + 2) M36_ hI39_ kf42_ kf43_ kf44_ (lf_c_X4_readOpened_4 M19_ M28_ M36_ M9_ Mz m z1_ z7_ hk hm e2_ h3_ h4_ h8_ hM10_ kf15_ kf25_ h30_ kf44_)) kV_X4_readComparisons (by decide +kernel) (Nat.le_of_ble_eq_true rfl) m_692 rfl rfl rfl ic_4 rfl rfl (by decide) (Nat.le_of_ble_eq_true rfl) dX4_readOpened_86 (fun M45_ q46_ => ?_)
        obtain ⟨hI48_, hF49_, h47_⟩ := q46_
        have hF50_ := hF41_.tr hF49_ (fun c k => (fun h => h.elim (fun h => (Or.inl ⟨h.1, h.2.1, h.2.2⟩)) (fun h => h.elim (fun h => (Or.inr (Or.inl ⟨h.1, h.2.1, h.2.2⟩))) (fun h => h.elim (fun h => (Or.inr (Or.inr (Or.inl ⟨h.1, h.2.1, h.2.2⟩)))) (fun h => h.elim (fun h => (Or.inr (Or.inr (Or.inr (Or.inl ⟨h.1, h.2.1, h.2.2⟩))))) (fun h => h.elim (fun h => (Or.inr (Or.inr (Or.inr (Or.inr (Or.inl ⟨h.1, h.2.1, h.2.2.1, h.2.2.2⟩)))))) (fun h => h.elim (fun h => (Or.inr (Or.inr (Or.inr (Or.inr (Or.inr (Or.inl ⟨h.1, h.2.1, h.2.2⟩))))))) (fun h => h.elim))))))))
        have kf51_ : M45_.1 (4, 0, 0) 1 = 1 := by rw [(hF49_ (4, 0, 0) 1 (by simp [S_reader]))]; exact kf42_
        have kf52_ : M45_.1 (4, 0, 0) 2 = 1 ∨ M45_.1 (4, 0, 0) 2 = 2 ∨ M45_.1 (4, 0, 0) 2 = 3 := by rw [(hF49_ (4, 0, 0) 2 (by simp [S_reader]))]; exact kf43_
        refine w_aload_n dX4_readOpened_89 rfl 0 rfl ?_
        refine w_bipush (v := 58) dX4_readOpened_90 (by decide) ?_
        refine w_callVv (as := [vI 58]) (rest := []) (c_X4_expect l G cy ad (N + d) 58 M45_ hI48_ kf51_) kV_X4_expect (by decide +kernel) (Nat.le_of_ble_eq_true rfl) m_732 rfl rfl rfl ic_4 rfl rfl (by decide) (Nat.le_of_ble_eq_true rfl) dX4_readOpened_92 (fun M53_ q54_ => ?_)
        obtain ⟨hI56_, hF57_, h55_⟩ := q54_
        have hF58_ := hF50_.tr hF57_ (fun c k => (fun h => h.elim (fun h => (Or.inl ⟨h.1, h.2.1, h.2.2⟩)) (fun h => h.elim (fun h => (Or.inr (Or.inl ⟨h.1, h.2.1, h.2.2⟩))) (fun h => h.elim))))
        have kf59_ : M53_.1 (4, 0, 0) 1 = 1 := by rw [(hF57_ (4, 0, 0) 1 (by simp [S_c_X4_expect]))]; exact kf51_
        have kf60_ : M53_.1 (4, 0, 0) 2 = 1 ∨ M53_.1 (4, 0, 0) 2 = 2 ∨ M53_.1 (4, 0, 0) 2 = 3 := by rw [(hF57_ (4, 0, 0) 2 (by simp [S_c_X4_expect]))]; exact kf52_
        have kf61_ : (M53_.1 (4, 0, 0) 5).toInt + (((m - 1) : Nat) : Int) = 5 := by rw [(hF57_ (4, 0, 0) 5 (by simp [S_c_X4_expect]))]; exact h47_
        refine w_aload_n dX4_readOpened_95 rfl 0 rfl ?_
        refine w_callVv (as := []) (rest := []) (hB (m - 1) (lf_c_X4_readOpened_7 M19_ M28_ M36_ M45_ M53_ M9_ Mz m z1_ z7_ hk hm e2_ h3_ h4_ h8_ hM10_ kf15_ kf25_ h30_ kf44_ h47_ kf61_) (d + 2) M53_ hI56_ kf59_ kf60_ kf61_ (lf_c_X4_readOpened_6 M19_ M28_ M36_ M45_ M53_ M9_ Mz m z1_ z7_ hk hm e2_ h3_ h4_ h8_ hM10_ kf15_ kf25_ h30_ kf44_ h47_ kf61_)) kV_X4_readComparisons (by decide +kernel) (Nat.le_of_ble_eq_true rfl) m_692 rfl rfl rfl ic_4 rfl rfl (by decide) (Nat.le_of_ble_eq_true rfl) dX4_readOpened_96 (fun M62_ q63_ => ?_)
        obtain ⟨hI65_, hF66_, h64_⟩ := q63_
        have hF67_ := hF58_.tr hF66_ (fun c k => (fun h => h.elim (fun h => (Or.inl ⟨h.1, h.2.1, h.2.2⟩)) (fun h => h.elim (fun h => (Or.inr (Or.inl ⟨h.1, h.2.1, h.2.2⟩))) (fun h => h.elim (fun h => (Or.inr (Or.inr (Or.inl ⟨h.1, h.2.1, h.2.2⟩)))) (fun h => h.elim (fun h => (Or.inr (Or.inr (Or.inr (Or.inl ⟨h.1, h.2.1, h.2.2⟩))))) (fun h => h.elim (fun h => (Or.inr (Or.inr (Or.inr (Or.inr (Or.inl ⟨h.1, h.2.1, h.2.2.1, h.2.2.2⟩)))))) (fun h => h.elim (fun h => (Or.inr (Or.inr (Or.inr (Or.inr (Or.inr (Or.inl ⟨h.1, h.2.1, h.2.2⟩))))))) (fun h => h.elim))))))))
        have kf68_ : M62_.1 (4, 0, 0) 1 = 1 := by rw [(hF66_ (4, 0, 0) 1 (by simp [S_reader]))]; exact kf59_
        have kf69_ : M62_.1 (4, 0, 0) 2 = 1 ∨ M62_.1 (4, 0, 0) 2 = 2 ∨ M62_.1 (4, 0, 0) 2 = 3 := by rw [(hF66_ (4, 0, 0) 2 (by simp [S_reader]))]; exact kf60_
        refine w_aload_n dX4_readOpened_99 rfl 0 rfl ?_
        refine w_bipush (v := 93) dX4_readOpened_100 (by decide) ?_
        refine w_callVv (as := [vI 93]) (rest := []) (c_X4_expect l G cy ad (N + d) 93 M62_ hI65_ kf68_) kV_X4_expect (by decide +kernel) (Nat.le_of_ble_eq_true rfl) m_732 rfl rfl rfl ic_4 rfl rfl (by decide) (Nat.le_of_ble_eq_true rfl) dX4_readOpened_102 (fun M70_ q71_ => ?_)
        obtain ⟨hI73_, hF74_, h72_⟩ := q71_
        have hF75_ := hF67_.tr hF74_ (fun c k => (fun h => h.elim (fun h => (Or.inl ⟨h.1, h.2.1, h.2.2⟩)) (fun h => h.elim (fun h => (Or.inr (Or.inl ⟨h.1, h.2.1, h.2.2⟩))) (fun h => h.elim))))
        have kf76_ : M70_.1 (4, 0, 0) 1 = 1 := by rw [(hF74_ (4, 0, 0) 1 (by simp [S_c_X4_expect]))]; exact kf68_
        have kf77_ : M70_.1 (4, 0, 0) 2 = 1 ∨ M70_.1 (4, 0, 0) 2 = 2 ∨ M70_.1 (4, 0, 0) 2 = 3 := by rw [(hF74_ (4, 0, 0) 2 (by simp [S_c_X4_expect]))]; exact kf69_
        have kf78_ : (M70_.1 (4, 0, 0) 5).toInt + (((m - 1) : Nat) : Int) = 5 := by rw [(hF74_ (4, 0, 0) 5 (by simp [S_c_X4_expect]))]; exact h64_
        refine w_aload_n dX4_readOpened_105 rfl 0 rfl ?_
        refine w_getR (c' := (1, 3, 0)) fl_RX4_10 rfl rfl ic_4 dX4_readOpened_106 rfl ?_
        refine w_sipush (v := 2063) dX4_readOpened_109 (by decide) ?_
        refine w_callVv (as := [vI 2063]) (rest := []) (c_X1_add l G cy ad ((N + d) + 2) 3 0 2063 M70_ hI73_ (by first | decide | (unfold vF; omega) | (unfold vRw; omega))) kV_X1_add (by decide +kernel) (Nat.le_of_ble_eq_true rfl) m_720 rfl rfl rfl (ic_1 (by unfold vF; omega)) rfl rfl (by decide) (Nat.le_of_ble_eq_true rfl) dX4_readOpened_112 (fun M79_ q80_ => ?_)
        obtain ⟨hI82_, hF83_, h81_⟩ := q80_
        have hF84_ := hF75_.tr hF83_ (fun c k => (fun h => h.elim (fun h => (Or.inr (Or.inr (Or.inr (Or.inr (Or.inr (Or.inl ⟨h.1, h.2.1, h.2.2⟩))))))) (fun h => h.elim (fun h => (Or.inr (Or.inr (Or.inr (Or.inr (Or.inl ⟨h.1, h.2.1, h.2.2.1, h.2.2.2⟩)))))) (fun h => h.elim))))
        have kf85_ : M79_.1 (4, 0, 0) 1 = 1 := by rw [(hF83_ (4, 0, 0) 1 (by simp [S_c_X1_add]))]; exact kf76_
        have kf86_ : M79_.1 (4, 0, 0) 2 = 1 ∨ M79_.1 (4, 0, 0) 2 = 2 ∨ M79_.1 (4, 0, 0) 2 = 3 := by rw [(hF83_ (4, 0, 0) 2 (by simp [S_c_X1_add]))]; exact kf77_
        have kf87_ : (M79_.1 (4, 0, 0) 5).toInt + (((m - 1) : Nat) : Int) = 5 := by rw [(hF83_ (4, 0, 0) 5 (by simp [S_c_X1_add]))]; exact kf78_
        refine w_aload_n dX4_readOpened_115 rfl 0 rfl ?_
        refine w_dup dX4_readOpened_116 rfl ?_
        refine w_getI fl_RX4_38 rfl rfl ic_4 dX4_readOpened_117 (fun z88_ e89_ => ?_)
        have h90_ : z88_.toInt + (((m - 1) : Nat) : Int) = 5 := by rw [e89_]; exact kf87_
        refine w_iconst (v := 1) dX4_readOpened_120 (by decide) ?_
        refine w_isubB dX4_readOpened_121 (rfl : z88_.toInt = z88_.toInt) li_1 (lf_c_X4_readOpened_8 M19_ M28_ M36_ M45_ M53_ M62_ M70_ M79_ M9_ Mz m z1_ z7_ z88_ hk hm e2_ h3_ h4_ h8_ hM10_ kf15_ kf25_ h30_ kf44_ h47_ kf61_ h64_ kf78_ kf87_ e89_ h90_) (fun z91_ h92_ => ?_)
        refine w_putI CC_nd fl_RX4_38 rfl rfl ic_4 dX4_readOpened_122 (fun M93_ hM94_ => ?_)
        have hI95_ := hI82_.put hM94_ trivial
        have hF96_ := hF84_.put hM94_ (Or.inr (Or.inr (Or.inl ⟨rfl, rfl, rfl⟩)))
        have kf97_ : M93_.1 (4, 0, 0) 1 = 1 := by rw [(show M93_.1 (4, 0, 0) 1 = M79_.1 (4, 0, 0) 1 by rw [hM94_, up_ne (by simp)])]; exact kf85_
        have kf98_ : M93_.1 (4, 0, 0) 2 = 1 ∨ M93_.1 (4, 0, 0) 2 = 2 ∨ M93_.1 (4, 0, 0) 2 = 3 := by rw [(show M93_.1 (4, 0, 0) 2 = M79_.1 (4, 0, 0) 2 by rw [hM94_, up_ne (by simp)])]; exact kf86_
        have kf99_ : (M93_.1 (4, 0, 0) 5).toInt + ((m : Nat) : Int) = 5 := by rw [hM94_, up_same]; exact (lf_c_X4_readOpened_9 M19_ M28_ M36_ M45_ M53_ M62_ M70_ M79_ M93_ M9_ Mz m z1_ z7_ z88_ z91_ hk hm e2_ h3_ h4_ h8_ hM10_ kf15_ kf25_ h30_ kf44_ h47_ kf61_ h64_ kf78_ kf87_ e89_ h90_ h92_ hM94_)
        exact w_vret rfl dX4_readOpened_125 ⟨hI95_, hF96_, kf99_⟩
      · refine w_aload_n dX4_readOpened_62 rfl 0 rfl ?_
        refine w_callVv (as := []) (rest := []) (hB (m - 1) (lf_c_X4_readOpened_11 M19_ M9_ Mz m z1_ z7_ hk hm e2_ h3_ h4_ h8_ hM10_ kf15_ kf25_) (d + 2) M19_ hI21_ kf23_ kf24_ kf25_ (lf_c_X4_readOpened_10 M19_ M9_ Mz m z1_ z7_ hk hm e2_ h3_ h4_ h8_ hM10_ kf15_ kf25_)) kV_X4_readComparisons (by decide +kernel) (Nat.le_of_ble_eq_true rfl) m_692 rfl rfl rfl ic_4 rfl rfl (by decide) (Nat.le_of_ble_eq_true rfl) dX4_readOpened_63 (fun M100_ q101_ => ?_)
        obtain ⟨hI103_, hF104_, h102_⟩ := q101_
        have hF105_ := hF22_.tr hF104_ (fun c k => (fun h => h.elim (fun h => (Or.inl ⟨h.1, h.2.1, h.2.2⟩)) (fun h => h.elim (fun h => (Or.inr (Or.inl ⟨h.1, h.2.1, h.2.2⟩))) (fun h => h.elim (fun h => (Or.inr (Or.inr (Or.inl ⟨h.1, h.2.1, h.2.2⟩)))) (fun h => h.elim (fun h => (Or.inr (Or.inr (Or.inr (Or.inl ⟨h.1, h.2.1, h.2.2⟩))))) (fun h => h.elim (fun h => (Or.inr (Or.inr (Or.inr (Or.inr (Or.inl ⟨h.1, h.2.1, h.2.2.1, h.2.2.2⟩)))))) (fun h => h.elim (fun h => (Or.inr (Or.inr (Or.inr (Or.inr (Or.inr (Or.inl ⟨h.1, h.2.1, h.2.2⟩))))))) (fun h => h.elim))))))))
        have kf106_ : M100_.1 (4, 0, 0) 1 = 1 := by rw [(hF104_ (4, 0, 0) 1 (by simp [S_reader]))]; exact kf23_
        have kf107_ : M100_.1 (4, 0, 0) 2 = 1 ∨ M100_.1 (4, 0, 0) 2 = 2 ∨ M100_.1 (4, 0, 0) 2 = 3 := by rw [(hF104_ (4, 0, 0) 2 (by simp [S_reader]))]; exact kf24_
        refine w_aload_n dX4_readOpened_66 rfl 0 rfl ?_
        refine w_bipush (v := 41) dX4_readOpened_67 (by decide) ?_
        refine w_callVv (as := [vI 41]) (rest := []) (c_X4_expect l G cy ad (N + d) 41 M100_ hI103_ kf106_) kV_X4_expect (by decide +kernel) (Nat.le_of_ble_eq_true rfl) m_732 rfl rfl rfl ic_4 rfl rfl (by decide) (Nat.le_of_ble_eq_true rfl) dX4_readOpened_69 (fun M108_ q109_ => ?_)
        obtain ⟨hI111_, hF112_, h110_⟩ := q109_
        have hF113_ := hF105_.tr hF112_ (fun c k => (fun h => h.elim (fun h => (Or.inl ⟨h.1, h.2.1, h.2.2⟩)) (fun h => h.elim (fun h => (Or.inr (Or.inl ⟨h.1, h.2.1, h.2.2⟩))) (fun h => h.elim))))
        have kf114_ : M108_.1 (4, 0, 0) 1 = 1 := by rw [(hF112_ (4, 0, 0) 1 (by simp [S_c_X4_expect]))]; exact kf106_
        have kf115_ : M108_.1 (4, 0, 0) 2 = 1 ∨ M108_.1 (4, 0, 0) 2 = 2 ∨ M108_.1 (4, 0, 0) 2 = 3 := by rw [(hF112_ (4, 0, 0) 2 (by simp [S_c_X4_expect]))]; exact kf107_
        have kf116_ : (M108_.1 (4, 0, 0) 5).toInt + (((m - 1) : Nat) : Int) = 5 := by rw [(hF112_ (4, 0, 0) 5 (by simp [S_c_X4_expect]))]; exact h102_
        refine w_goto (tgt := 115) dX4_readOpened_72 (by decide) ?_
        refine w_aload_n dX4_readOpened_115 rfl 0 rfl ?_
        refine w_dup dX4_readOpened_116 rfl ?_
        refine w_getI fl_RX4_38 rfl rfl ic_4 dX4_readOpened_117 (fun z117_ e118_ => ?_)
        have h119_ : z117_.toInt + (((m - 1) : Nat) : Int) = 5 := by rw [e118_]; exact kf116_
        refine w_iconst (v := 1) dX4_readOpened_120 (by decide) ?_
        refine w_isubB dX4_readOpened_121 (rfl : z117_.toInt = z117_.toInt) li_1 (lf_c_X4_readOpened_12 M100_ M108_ M19_ M9_ Mz m z1_ z7_ z117_ hk hm e2_ h3_ h4_ h8_ hM10_ kf15_ kf25_ h102_ kf116_ e118_ h119_) (fun z120_ h121_ => ?_)
        refine w_putI CC_nd fl_RX4_38 rfl rfl ic_4 dX4_readOpened_122 (fun M122_ hM123_ => ?_)
        have hI124_ := hI111_.put hM123_ trivial
        have hF125_ := hF113_.put hM123_ (Or.inr (Or.inr (Or.inl ⟨rfl, rfl, rfl⟩)))
        have kf126_ : M122_.1 (4, 0, 0) 1 = 1 := by rw [(show M122_.1 (4, 0, 0) 1 = M108_.1 (4, 0, 0) 1 by rw [hM123_, up_ne (by simp)])]; exact kf114_
        have kf127_ : M122_.1 (4, 0, 0) 2 = 1 ∨ M122_.1 (4, 0, 0) 2 = 2 ∨ M122_.1 (4, 0, 0) 2 = 3 := by rw [(show M122_.1 (4, 0, 0) 2 = M108_.1 (4, 0, 0) 2 by rw [hM123_, up_ne (by simp)])]; exact kf115_
        have kf128_ : (M122_.1 (4, 0, 0) 5).toInt + ((m : Nat) : Int) = 5 := by rw [hM123_, up_same]; exact (lf_c_X4_readOpened_13 M100_ M108_ M122_ M19_ M9_ Mz m z1_ z7_ z117_ z120_ hk hm e2_ h3_ h4_ h8_ hM10_ kf15_ kf25_ h102_ kf116_ e118_ h119_ h121_ hM123_)
        exact w_vret rfl dX4_readOpened_125 ⟨hI124_, hF125_, kf128_⟩
    · refine w_aload_n dX4_readOpened_39 rfl 0 rfl ?_
      refine w_callVv (as := []) (rest := []) (hA (m - 1) (lf_c_X4_readOpened_15 M19_ M9_ Mz m z1_ z7_ hk hm e2_ h3_ h4_ h8_ hM10_ kf15_ kf25_) (d + 2) M19_ hI21_ kf23_ kf24_ kf25_ (lf_c_X4_readOpened_14 M19_ M9_ Mz m z1_ z7_ hk hm e2_ h3_ h4_ h8_ hM10_ kf15_ kf25_)) kV_X4_readOne (by decide +kernel) (Nat.le_of_ble_eq_true rfl) m_704 rfl rfl rfl ic_4 rfl rfl (by decide) (Nat.le_of_ble_eq_true rfl) dX4_readOpened_40 (fun M129_ q130_ => ?_)
      obtain ⟨hI132_, hF133_, h131_⟩ := q130_
      have hF134_ := hF22_.tr hF133_ (fun c k => (fun h => h.elim (fun h => (Or.inl ⟨h.1, h.2.1, h.2.2⟩)) (fun h => h.elim (fun h => (Or.inr (Or.inl ⟨h.1, h.2.1, h.2.2⟩))) (fun h => h.elim (fun h => (Or.inr (Or.inr (Or.inl ⟨h.1, h.2.1, h.2.2⟩)))) (fun h => h.elim (fun h => (Or.inr (Or.inr (Or.inr (Or.inl ⟨h.1, h.2.1, h.2.2⟩))))) (fun h => h.elim (fun h => (Or.inr (Or.inr (Or.inr (Or.inr (Or.inl ⟨h.1, h.2.1, h.2.2.1, h.2.2.2⟩)))))) (fun h => h.elim (fun h => (Or.inr (Or.inr (Or.inr (Or.inr (Or.inr (Or.inl ⟨h.1, h.2.1, h.2.2⟩))))))) (fun h => h.elim))))))))
      have kf135_ : M129_.1 (4, 0, 0) 1 = 1 := by rw [(hF133_ (4, 0, 0) 1 (by simp [S_reader]))]; exact kf23_
      have kf136_ : M129_.1 (4, 0, 0) 2 = 1 ∨ M129_.1 (4, 0, 0) 2 = 2 ∨ M129_.1 (4, 0, 0) 2 = 3 := by rw [(hF133_ (4, 0, 0) 2 (by simp [S_reader]))]; exact kf24_
      refine w_aload_n dX4_readOpened_43 rfl 0 rfl ?_
      refine w_getR (c' := (1, 3, 0)) fl_RX4_10 rfl rfl ic_4 dX4_readOpened_44 rfl ?_
      refine w_sipush (v := 2126) dX4_readOpened_47 (by decide) ?_
      refine w_callVv (as := [vI 2126]) (rest := []) (c_X1_add l G cy ad ((N + d) + 2) 3 0 2126 M129_ hI132_ (by first | decide | (unfold vF; omega) | (unfold vRw; omega))) kV_X1_add (by decide +kernel) (Nat.le_of_ble_eq_true rfl) m_720 rfl rfl rfl (ic_1 (by unfold vF; omega)) rfl rfl (by decide) (Nat.le_of_ble_eq_true rfl) dX4_readOpened_50 (fun M137_ q138_ => ?_)
      obtain ⟨hI140_, hF141_, h139_⟩ := q138_
      have hF142_ := hF134_.tr hF141_ (fun c k => (fun h => h.elim (fun h => (Or.inr (Or.inr (Or.inr (Or.inr (Or.inr (Or.inl ⟨h.1, h.2.1, h.2.2⟩))))))) (fun h => h.elim (fun h => (Or.inr (Or.inr (Or.inr (Or.inr (Or.inl ⟨h.1, h.2.1, h.2.2.1, h.2.2.2⟩)))))) (fun h => h.elim))))
      have kf143_ : M137_.1 (4, 0, 0) 1 = 1 := by rw [(hF141_ (4, 0, 0) 1 (by simp [S_c_X1_add]))]; exact kf135_
      have kf144_ : M137_.1 (4, 0, 0) 2 = 1 ∨ M137_.1 (4, 0, 0) 2 = 2 ∨ M137_.1 (4, 0, 0) 2 = 3 := by rw [(hF141_ (4, 0, 0) 2 (by simp [S_c_X1_add]))]; exact kf136_
      have kf145_ : (M137_.1 (4, 0, 0) 5).toInt + (((m - 1) : Nat) : Int) = 5 := by rw [(hF141_ (4, 0, 0) 5 (by simp [S_c_X1_add]))]; exact h131_
      refine w_goto (tgt := 115) dX4_readOpened_53 (by decide) ?_
      refine w_aload_n dX4_readOpened_115 rfl 0 rfl ?_
      refine w_dup dX4_readOpened_116 rfl ?_
      refine w_getI fl_RX4_38 rfl rfl ic_4 dX4_readOpened_117 (fun z146_ e147_ => ?_)
      have h148_ : z146_.toInt + (((m - 1) : Nat) : Int) = 5 := by rw [e147_]; exact kf145_
      refine w_iconst (v := 1) dX4_readOpened_120 (by decide) ?_
      refine w_isubB dX4_readOpened_121 (rfl : z146_.toInt = z146_.toInt) li_1 (lf_c_X4_readOpened_16 M129_ M137_ M19_ M9_ Mz m z1_ z7_ z146_ hk hm e2_ h3_ h4_ h8_ hM10_ kf15_ kf25_ h131_ kf145_ e147_ h148_) (fun z149_ h150_ => ?_)
      refine w_putI CC_nd fl_RX4_38 rfl rfl ic_4 dX4_readOpened_122 (fun M151_ hM152_ => ?_)
      have hI153_ := hI140_.put hM152_ trivial
      have hF154_ := hF142_.put hM152_ (Or.inr (Or.inr (Or.inl ⟨rfl, rfl, rfl⟩)))
      have kf155_ : M151_.1 (4, 0, 0) 1 = 1 := by rw [(show M151_.1 (4, 0, 0) 1 = M137_.1 (4, 0, 0) 1 by rw [hM152_, up_ne (by simp)])]; exact kf143_
      have kf156_ : M151_.1 (4, 0, 0) 2 = 1 ∨ M151_.1 (4, 0, 0) 2 = 2 ∨ M151_.1 (4, 0, 0) 2 = 3 := by rw [(show M151_.1 (4, 0, 0) 2 = M137_.1 (4, 0, 0) 2 by rw [hM152_, up_ne (by simp)])]; exact kf144_
      have kf157_ : (M151_.1 (4, 0, 0) 5).toInt + ((m : Nat) : Int) = 5 := by rw [hM152_, up_same]; exact (lf_c_X4_readOpened_17 M129_ M137_ M151_ M19_ M9_ Mz m z1_ z7_ z146_ z149_ hk hm e2_ h3_ h4_ h8_ hM10_ kf15_ kf25_ h131_ kf145_ e147_ h148_ h150_ hM152_)
      exact w_vret rfl dX4_readOpened_125 ⟨hI153_, hF154_, kf157_⟩
  · refine w_aload_n dX4_readOpened_8 rfl 0 rfl ?_
    refine w_callVv (as := []) (rest := []) (c_X4_fail l G cy ad ((N + d) + 2) Mz hIz) kV_X4_fail (by decide +kernel) (Nat.le_of_ble_eq_true rfl) m_728 rfl rfl rfl ic_4 rfl rfl (by decide) (Nat.le_of_ble_eq_true rfl) dX4_readOpened_9 (fun M158_ q159_ => ?_)
    obtain ⟨hI161_, hF162_, h160_⟩ := q159_
    have hF163_ := hFz.tr hF162_ (fun c k => (fun h => h.elim (fun h => (Or.inr (Or.inl ⟨h.1, h.2.1, h.2.2⟩))) (fun h => h.elim)))
    have kf164_ : M158_.1 (4, 0, 0) 1 = 1 := by rw [(hF162_ (4, 0, 0) 1 (by simp [S_c_X4_fail]))]; exact hT
    have kf165_ : M158_.1 (4, 0, 0) 2 = 1 ∨ M158_.1 (4, 0, 0) 2 = 2 ∨ M158_.1 (4, 0, 0) 2 = 3 := by rw [(hF162_ (4, 0, 0) 2 (by simp [S_c_X4_fail]))]; exact hN
    have kf166_ : (M158_.1 (4, 0, 0) 5).toInt + ((m : Nat) : Int) = 5 := by rw [(hF162_ (4, 0, 0) 5 (by simp [S_c_X4_fail]))]; exact hk
    exact w_vret rfl dX4_readOpened_12 ⟨hI161_, hF163_, kf166_⟩
theorem lf_c_X4_readOne_0  (r4_ : Int32) (h14_ : r4_.toInt < 48) (h15_ : ¬ r4_.toInt = 45) (h24_ : ¬ r4_.toInt = 40) (h9 : r4_.toInt = 91) : False := by have r_r4_ := rngI r4_; omega
theorem lf_c_X4_readOne_1  (r4_ : Int32) (h14_ : 48 ≤ r4_.toInt) (h43_ : 57 < r4_.toInt) (h9 : r4_.toInt = 45) : False := by have r_r4_ := rngI r4_; omega
theorem lf_c_X4_readOne_2  (r4_ : Int32) (h14_ : 48 ≤ r4_.toInt) (h43_ : 57 < r4_.toInt) (h44_ : ¬ r4_.toInt = 45) (h9 : r4_.toInt = 40) : False := by have r_r4_ := rngI r4_; omega
set_option maxHeartbeats 4000000 in
set_option maxRecDepth 100000 in
theorem c_X4_readOne (l : Launch) (G : va_G) (cy : Nat → ClassId) (ad : rf → Nat) (d : Nat) (N : Nat) (m : Nat) (Mz : mM) (hIz : Inv Mz) (hA : ∀ k : Nat, k + 1 = m → ONEC l G cy ad N k) (hB : ∀ k : Nat, k + 1 = m → CMPC l G cy ad N k) (hT : Mz.1 (4, 0, 0) 1 = 1) (hN : Mz.1 (4, 0, 0) 2 = 1 ∨ Mz.1 (4, 0, 0) 2 = 2 ∨ Mz.1 (4, 0, 0) 2 = 3) (hk : (Mz.1 (4, 0, 0) 5).toInt + ((m : Nat) : Int) = 5) (hm : m ≤ 5) : WP CC l G cy ad yX4_readOne cX4_readOne 2 none ((N + d) + 9) 0 [(0, vR (4, 0, 0))] [] Mz (fun r M' => Inv M' ∧ FR (S_reader) Mz M' ∧ (M'.1 (4, 0, 0) 5).toInt + ((m : Nat) : Int) = 5) := by
  have hFz : FR (S_reader) Mz Mz := FR.self
  refine w_aload_n dX4_readOne_0 rfl 0 rfl ?_
  refine w_getI fl_RX4_35 rfl rfl ic_4 dX4_readOne_1 (fun z1_ e2_ => ?_)
  refine w_if_lt (tgt := 8) dX4_readOne_4 (by decide) (rfl : z1_.toInt = z1_.toInt) (fun h3_ => ?_) (fun h3_ => ?_)
  · refine w_aload_n dX4_readOne_8 rfl 0 rfl ?_
    refine w_callV (as := []) (rest := []) (c_X4_next l G cy ad ((N + d) + 7) Mz hIz hT) kV_X4_next (by decide +kernel) (Nat.le_of_ble_eq_true rfl) m_708 rfl rfl rfl ic_4 rfl rfl (by decide) (Nat.le_of_ble_eq_true rfl) dX4_readOne_9 (fun r4_ M5_ q6_ => ?_)
    obtain ⟨hI8_, hF9_, h7_⟩ := q6_
    have hF10_ := hFz.tr hF9_ (fun c k => (fun h => h.elim (fun h => (Or.inl ⟨h.1, h.2.1, h.2.2⟩)) (fun h => h.elim)))
    have kf11_ : M5_.1 (4, 0, 0) 1 = 1 := by rw [(hF9_ (4, 0, 0) 1 (by simp [S_c_X4_next]))]; exact hT
    have kf12_ : M5_.1 (4, 0, 0) 2 = 1 ∨ M5_.1 (4, 0, 0) 2 = 2 ∨ M5_.1 (4, 0, 0) 2 = 3 := by rw [(hF9_ (4, 0, 0) 2 (by simp [S_c_X4_next]))]; exact hN
    have kf13_ : (M5_.1 (4, 0, 0) 5).toInt + ((m : Nat) : Int) = 5 := by rw [(hF9_ (4, 0, 0) 5 (by simp [S_c_X4_next]))]; exact hk
    refine w_istore_n (ls' := [(1, vI r4_), (0, vR (4, 0, 0))]) dX4_readOne_12 rfl (by decide) rfl ?_
    refine w_iload_n dX4_readOne_13 rfl 0 rfl ?_
    refine w_bipush (v := 48) dX4_readOne_14 (by decide) ?_
    refine w_icmp_lt (tgt := 32) dX4_readOne_16 (by decide) (rfl : r4_.toInt = r4_.toInt) li_48 (fun h14_ => ?_) (fun h14_ => ?_)
    · refine w_iload_n dX4_readOne_32 rfl 0 rfl ?_
      refine w_bipush (v := 45) dX4_readOne_33 (by decide) ?_
      refine w_icmp_eq (tgt := 50) dX4_readOne_35 (by decide) (rfl : r4_.toInt = r4_.toInt) li_45 (fun h15_ => ?_) (fun h15_ => ?_)
      · refine w_aload_n dX4_readOne_50 rfl 1 rfl ?_
        refine w_iload_n dX4_readOne_51 rfl 0 rfl ?_
        refine w_callVv (as := [vI r4_]) (rest := []) (c_X4_readOpened l G cy ad (d + 5) N m r4_ M5_ hI8_ hA hB kf11_ kf12_ kf13_ hm) kV_X4_readOpened (by decide +kernel) (Nat.le_of_ble_eq_true rfl) m_724 rfl rfl rfl ic_4 rfl rfl (by decide) (Nat.le_of_ble_eq_true rfl) dX4_readOne_52 (fun M16_ q17_ => ?_)
        obtain ⟨hI19_, hF20_, h18_⟩ := q17_
        have hF21_ := hF10_.tr hF20_ (fun c k => (fun h => h.elim (fun h => (Or.inl ⟨h.1, h.2.1, h.2.2⟩)) (fun h => h.elim (fun h => (Or.inr (Or.inl ⟨h.1, h.2.1, h.2.2⟩))) (fun h => h.elim (fun h => (Or.inr (Or.inr (Or.inl ⟨h.1, h.2.1, h.2.2⟩)))) (fun h => h.elim (fun h => (Or.inr (Or.inr (Or.inr (Or.inl ⟨h.1, h.2.1, h.2.2⟩))))) (fun h => h.elim (fun h => (Or.inr (Or.inr (Or.inr (Or.inr (Or.inl ⟨h.1, h.2.1, h.2.2.1, h.2.2.2⟩)))))) (fun h => h.elim (fun h => (Or.inr (Or.inr (Or.inr (Or.inr (Or.inr (Or.inl ⟨h.1, h.2.1, h.2.2⟩))))))) (fun h => h.elim))))))))
        have kf22_ : M16_.1 (4, 0, 0) 1 = 1 := by rw [(hF20_ (4, 0, 0) 1 (by simp [S_reader]))]; exact kf11_
        have kf23_ : M16_.1 (4, 0, 0) 2 = 1 ∨ M16_.1 (4, 0, 0) 2 = 2 ∨ M16_.1 (4, 0, 0) 2 = 3 := by rw [(hF20_ (4, 0, 0) 2 (by simp [S_reader]))]; exact kf12_
        refine w_goto (tgt := 63) dX4_readOne_55 (by decide) ?_
        exact w_vret rfl dX4_readOne_63 ⟨hI19_, hF21_, h18_⟩
      · refine w_iload_n dX4_readOne_38 rfl 0 rfl ?_
        refine w_bipush (v := 40) dX4_readOne_39 (by decide) ?_
        refine w_icmp_eq (tgt := 50) dX4_readOne_41 (by decide) (rfl : r4_.toInt = r4_.toInt) li_40 (fun h24_ => ?_) (fun h24_ => ?_)
        · refine w_aload_n dX4_readOne_50 rfl 1 rfl ?_
          refine w_iload_n dX4_readOne_51 rfl 0 rfl ?_
          refine w_callVv (as := [vI r4_]) (rest := []) (c_X4_readOpened l G cy ad (d + 5) N m r4_ M5_ hI8_ hA hB kf11_ kf12_ kf13_ hm) kV_X4_readOpened (by decide +kernel) (Nat.le_of_ble_eq_true rfl) m_724 rfl rfl rfl ic_4 rfl rfl (by decide) (Nat.le_of_ble_eq_true rfl) dX4_readOne_52 (fun M25_ q26_ => ?_)
          obtain ⟨hI28_, hF29_, h27_⟩ := q26_
          have hF30_ := hF10_.tr hF29_ (fun c k => (fun h => h.elim (fun h => (Or.inl ⟨h.1, h.2.1, h.2.2⟩)) (fun h => h.elim (fun h => (Or.inr (Or.inl ⟨h.1, h.2.1, h.2.2⟩))) (fun h => h.elim (fun h => (Or.inr (Or.inr (Or.inl ⟨h.1, h.2.1, h.2.2⟩)))) (fun h => h.elim (fun h => (Or.inr (Or.inr (Or.inr (Or.inl ⟨h.1, h.2.1, h.2.2⟩))))) (fun h => h.elim (fun h => (Or.inr (Or.inr (Or.inr (Or.inr (Or.inl ⟨h.1, h.2.1, h.2.2.1, h.2.2.2⟩)))))) (fun h => h.elim (fun h => (Or.inr (Or.inr (Or.inr (Or.inr (Or.inr (Or.inl ⟨h.1, h.2.1, h.2.2⟩))))))) (fun h => h.elim))))))))
          have kf31_ : M25_.1 (4, 0, 0) 1 = 1 := by rw [(hF29_ (4, 0, 0) 1 (by simp [S_reader]))]; exact kf11_
          have kf32_ : M25_.1 (4, 0, 0) 2 = 1 ∨ M25_.1 (4, 0, 0) 2 = 2 ∨ M25_.1 (4, 0, 0) 2 = 3 := by rw [(hF29_ (4, 0, 0) 2 (by simp [S_reader]))]; exact kf12_
          refine w_goto (tgt := 63) dX4_readOne_55 (by decide) ?_
          exact w_vret rfl dX4_readOne_63 ⟨hI28_, hF30_, h27_⟩
        · refine w_iload_n dX4_readOne_44 rfl 0 rfl ?_
          refine w_bipush (v := 91) dX4_readOne_45 (by decide) ?_
          refine w_icmp_ne (tgt := 58) dX4_readOne_47 (by decide) (rfl : r4_.toInt = r4_.toInt) li_91 (fun h33_ => ?_) (fun h9 => (lf_c_X4_readOne_0 r4_ h14_ h15_ h24_ h9).elim)
          refine w_aload_n dX4_readOne_58 rfl 1 rfl ?_
          refine w_iload_n dX4_readOne_59 rfl 0 rfl ?_
          refine w_callVv (as := [vI r4_]) (rest := []) (c_X4_readName l G cy ad (N + d) r4_ M5_ hI8_ kf11_ kf12_) kV_X4_readName (by decide +kernel) (Nat.le_of_ble_eq_true rfl) m_736 rfl rfl rfl ic_4 rfl rfl (by decide) (Nat.le_of_ble_eq_true rfl) dX4_readOne_60 (fun M34_ q35_ => ?_)
          obtain ⟨hI37_, hF38_, h36_⟩ := q35_
          have hF39_ := hF10_.tr hF38_ (fun c k => (fun h => h.elim (fun h => (Or.inr (Or.inl ⟨h.1, h.2.1, h.2.2⟩))) (fun h => h.elim (fun h => (Or.inl ⟨h.1, h.2.1, h.2.2⟩)) (fun h => h.elim (fun h => (Or.inr (Or.inr (Or.inr (Or.inr (Or.inr (Or.inl ⟨h.1, h.2.1, h.2.2⟩))))))) (fun h => h.elim (fun h => (Or.inr (Or.inr (Or.inr (Or.inr (Or.inl ⟨h.1, h.2.1, h.2.2.1, h.2.2.2⟩)))))) (fun h => h.elim (fun h => (Or.inr (Or.inr (Or.inr (Or.inl ⟨h.1, h.2.1, h.2.2⟩))))) (fun h => h.elim)))))))
          have kf40_ : M34_.1 (4, 0, 0) 1 = 1 := by rw [(hF38_ (4, 0, 0) 1 (by simp [S_c_X4_readName]))]; exact kf11_
          have kf41_ : M34_.1 (4, 0, 0) 2 = 1 ∨ M34_.1 (4, 0, 0) 2 = 2 ∨ M34_.1 (4, 0, 0) 2 = 3 := by rw [(hF38_ (4, 0, 0) 2 (by simp [S_c_X4_readName]))]; exact kf12_
          have kf42_ : (M34_.1 (4, 0, 0) 5).toInt + ((m : Nat) : Int) = 5 := by rw [(hF38_ (4, 0, 0) 5 (by simp [S_c_X4_readName]))]; exact kf13_
          exact w_vret rfl dX4_readOne_63 ⟨hI37_, hF39_, kf42_⟩
    · refine w_iload_n dX4_readOne_19 rfl 0 rfl ?_
      refine w_bipush (v := 57) dX4_readOne_20 (by decide) ?_
      refine w_icmp_gt (tgt := 32) dX4_readOne_22 (by decide) (rfl : r4_.toInt = r4_.toInt) li_57 (fun h43_ => ?_) (fun h43_ => ?_)
      · refine w_iload_n dX4_readOne_32 rfl 0 rfl ?_
        refine w_bipush (v := 45) dX4_readOne_33 (by decide) ?_
        refine w_icmp_eq (tgt := 50) dX4_readOne_35 (by decide) (rfl : r4_.toInt = r4_.toInt) li_45 (fun h9 => (lf_c_X4_readOne_1 r4_ h14_ h43_ h9).elim) (fun h44_ => ?_)
        refine w_iload_n dX4_readOne_38 rfl 0 rfl ?_
        refine w_bipush (v := 40) dX4_readOne_39 (by decide) ?_
        refine w_icmp_eq (tgt := 50) dX4_readOne_41 (by decide) (rfl : r4_.toInt = r4_.toInt) li_40 (fun h9 => (lf_c_X4_readOne_2 r4_ h14_ h43_ h44_ h9).elim) (fun h45_ => ?_)
        refine w_iload_n dX4_readOne_44 rfl 0 rfl ?_
        refine w_bipush (v := 91) dX4_readOne_45 (by decide) ?_
        refine w_icmp_ne (tgt := 58) dX4_readOne_47 (by decide) (rfl : r4_.toInt = r4_.toInt) li_91 (fun h46_ => ?_) (fun h46_ => ?_)
        · refine w_aload_n dX4_readOne_58 rfl 1 rfl ?_
          refine w_iload_n dX4_readOne_59 rfl 0 rfl ?_
          refine w_callVv (as := [vI r4_]) (rest := []) (c_X4_readName l G cy ad (N + d) r4_ M5_ hI8_ kf11_ kf12_) kV_X4_readName (by decide +kernel) (Nat.le_of_ble_eq_true rfl) m_736 rfl rfl rfl ic_4 rfl rfl (by decide) (Nat.le_of_ble_eq_true rfl) dX4_readOne_60 (fun M47_ q48_ => ?_)
          obtain ⟨hI50_, hF51_, h49_⟩ := q48_
          have hF52_ := hF10_.tr hF51_ (fun c k => (fun h => h.elim (fun h => (Or.inr (Or.inl ⟨h.1, h.2.1, h.2.2⟩))) (fun h => h.elim (fun h => (Or.inl ⟨h.1, h.2.1, h.2.2⟩)) (fun h => h.elim (fun h => (Or.inr (Or.inr (Or.inr (Or.inr (Or.inr (Or.inl ⟨h.1, h.2.1, h.2.2⟩))))))) (fun h => h.elim (fun h => (Or.inr (Or.inr (Or.inr (Or.inr (Or.inl ⟨h.1, h.2.1, h.2.2.1, h.2.2.2⟩)))))) (fun h => h.elim (fun h => (Or.inr (Or.inr (Or.inr (Or.inl ⟨h.1, h.2.1, h.2.2⟩))))) (fun h => h.elim)))))))
          have kf53_ : M47_.1 (4, 0, 0) 1 = 1 := by rw [(hF51_ (4, 0, 0) 1 (by simp [S_c_X4_readName]))]; exact kf11_
          have kf54_ : M47_.1 (4, 0, 0) 2 = 1 ∨ M47_.1 (4, 0, 0) 2 = 2 ∨ M47_.1 (4, 0, 0) 2 = 3 := by rw [(hF51_ (4, 0, 0) 2 (by simp [S_c_X4_readName]))]; exact kf12_
          have kf55_ : (M47_.1 (4, 0, 0) 5).toInt + ((m : Nat) : Int) = 5 := by rw [(hF51_ (4, 0, 0) 5 (by simp [S_c_X4_readName]))]; exact kf13_
          exact w_vret rfl dX4_readOne_63 ⟨hI50_, hF52_, kf55_⟩
        · refine w_aload_n dX4_readOne_50 rfl 1 rfl ?_
          refine w_iload_n dX4_readOne_51 rfl 0 rfl ?_
          refine w_callVv (as := [vI r4_]) (rest := []) (c_X4_readOpened l G cy ad (d + 5) N m r4_ M5_ hI8_ hA hB kf11_ kf12_ kf13_ hm) kV_X4_readOpened (by decide +kernel) (Nat.le_of_ble_eq_true rfl) m_724 rfl rfl rfl ic_4 rfl rfl (by decide) (Nat.le_of_ble_eq_true rfl) dX4_readOne_52 (fun M56_ q57_ => ?_)
          obtain ⟨hI59_, hF60_, h58_⟩ := q57_
          have hF61_ := hF10_.tr hF60_ (fun c k => (fun h => h.elim (fun h => (Or.inl ⟨h.1, h.2.1, h.2.2⟩)) (fun h => h.elim (fun h => (Or.inr (Or.inl ⟨h.1, h.2.1, h.2.2⟩))) (fun h => h.elim (fun h => (Or.inr (Or.inr (Or.inl ⟨h.1, h.2.1, h.2.2⟩)))) (fun h => h.elim (fun h => (Or.inr (Or.inr (Or.inr (Or.inl ⟨h.1, h.2.1, h.2.2⟩))))) (fun h => h.elim (fun h => (Or.inr (Or.inr (Or.inr (Or.inr (Or.inl ⟨h.1, h.2.1, h.2.2.1, h.2.2.2⟩)))))) (fun h => h.elim (fun h => (Or.inr (Or.inr (Or.inr (Or.inr (Or.inr (Or.inl ⟨h.1, h.2.1, h.2.2⟩))))))) (fun h => h.elim))))))))
          have kf62_ : M56_.1 (4, 0, 0) 1 = 1 := by rw [(hF60_ (4, 0, 0) 1 (by simp [S_reader]))]; exact kf11_
          have kf63_ : M56_.1 (4, 0, 0) 2 = 1 ∨ M56_.1 (4, 0, 0) 2 = 2 ∨ M56_.1 (4, 0, 0) 2 = 3 := by rw [(hF60_ (4, 0, 0) 2 (by simp [S_reader]))]; exact kf12_
          refine w_goto (tgt := 63) dX4_readOne_55 (by decide) ?_
          exact w_vret rfl dX4_readOne_63 ⟨hI59_, hF61_, h58_⟩
      · refine w_aload_n dX4_readOne_25 rfl 1 rfl ?_
        refine w_callVv (as := []) (rest := []) (c_X4_readNumber l G cy ad ((N + d) + 7) M5_ hI8_ kf11_) kV_X4_readNumber (by decide +kernel) (Nat.le_of_ble_eq_true rfl) m_716 rfl rfl rfl ic_4 rfl rfl (by decide) (Nat.le_of_ble_eq_true rfl) dX4_readOne_26 (fun M64_ q65_ => ?_)
        obtain ⟨hI67_, hF68_, h66_⟩ := q65_
        have hF69_ := hF10_.tr hF68_ (fun c k => (fun h => h.elim (fun h => (Or.inr (Or.inr (Or.inr (Or.inr (Or.inr (Or.inl ⟨h.1, h.2.1, h.2.2⟩))))))) (fun h => h.elim (fun h => (Or.inr (Or.inr (Or.inr (Or.inr (Or.inl ⟨h.1, h.2.1, h.2.2.1, h.2.2.2⟩)))))) (fun h => h.elim (fun h => (Or.inr (Or.inr (Or.inr (Or.inl ⟨h.1, h.2.1, h.2.2⟩))))) (fun h => h.elim (fun h => (Or.inl ⟨h.1, h.2.1, h.2.2⟩)) (fun h => h.elim))))))
        have kf70_ : M64_.1 (4, 0, 0) 1 = 1 := by rw [(hF68_ (4, 0, 0) 1 (by simp [S_c_X4_readNumber]))]; exact kf11_
        have kf71_ : M64_.1 (4, 0, 0) 2 = 1 ∨ M64_.1 (4, 0, 0) 2 = 2 ∨ M64_.1 (4, 0, 0) 2 = 3 := by rw [(hF68_ (4, 0, 0) 2 (by simp [S_c_X4_readNumber]))]; exact kf12_
        have kf72_ : (M64_.1 (4, 0, 0) 5).toInt + ((m : Nat) : Int) = 5 := by rw [(hF68_ (4, 0, 0) 5 (by simp [S_c_X4_readNumber]))]; exact kf13_
        refine w_goto (tgt := 63) dX4_readOne_29 (by decide) ?_
        exact w_vret rfl dX4_readOne_63 ⟨hI67_, hF69_, kf72_⟩
  · exact w_vret rfl dX4_readOne_7 ⟨hIz, hFz, hk⟩
theorem lf_c_X4_readTerm_0  (r14_ : Int32) (h24_ : r14_.toInt = 42) : -2147483648 ≤ 2000 + r14_.toInt ∧ 2000 + r14_.toInt < 2147483648 := by have r_r14_ := rngI r14_; omega
theorem lf_c_X4_readTerm_1  (v1_6 : Int32) (hv0_6 : 0 ≤ v1_6.toInt) (hv1_6 : v1_6.toInt ≤ 48) (h10_ : v1_6.toInt < 48) : -2147483648 ≤ v1_6.toInt + 1 ∧ v1_6.toInt + 1 < 2147483648 := by have r_v1_6 := rngI v1_6; omega
theorem lf_c_X4_readTerm_2  (v1_6 : Int32) (z54_ : Int32) (hv0_6 : 0 ≤ v1_6.toInt) (hv1_6 : v1_6.toInt ≤ 48) (h10_ : v1_6.toInt < 48) (h55_ : z54_.toInt = v1_6.toInt + 1) : 0 ≤ z54_.toInt := by have r_v1_6 := rngI v1_6; have r_z54_ := rngI z54_; omega
theorem lf_c_X4_readTerm_3  (v1_6 : Int32) (z54_ : Int32) (hv0_6 : 0 ≤ v1_6.toInt) (hv1_6 : v1_6.toInt ≤ 48) (h10_ : v1_6.toInt < 48) (h55_ : z54_.toInt = v1_6.toInt + 1) : z54_.toInt ≤ 48 := by have r_v1_6 := rngI v1_6; have r_z54_ := rngI z54_; omega
theorem lf_c_X4_readTerm_4  (v1_6 : Int32) (z54_ : Int32) (hv0_6 : 0 ≤ v1_6.toInt) (hv1_6 : v1_6.toInt ≤ 48) (h10_ : v1_6.toInt < 48) (h55_ : z54_.toInt = v1_6.toInt + 1) : (2147483648 - z54_.toInt).toNat < (2147483648 - v1_6.toInt).toNat := by have r_v1_6 := rngI v1_6; have r_z54_ := rngI z54_; omega
theorem lf_c_X4_readTerm_5  (r14_ : Int32) (h24_ : ¬ r14_.toInt = 42) (h56_ : r14_.toInt = 47) : -2147483648 ≤ 2000 + r14_.toInt ∧ 2000 + r14_.toInt < 2147483648 := by have r_r14_ := rngI r14_; omega
theorem lf_c_X4_readTerm_6  (v1_6 : Int32) (hv0_6 : 0 ≤ v1_6.toInt) (hv1_6 : v1_6.toInt ≤ 48) (h10_ : v1_6.toInt < 48) : -2147483648 ≤ v1_6.toInt + 1 ∧ v1_6.toInt + 1 < 2147483648 := by have r_v1_6 := rngI v1_6; omega
theorem lf_c_X4_readTerm_7  (v1_6 : Int32) (z86_ : Int32) (hv0_6 : 0 ≤ v1_6.toInt) (hv1_6 : v1_6.toInt ≤ 48) (h10_ : v1_6.toInt < 48) (h87_ : z86_.toInt = v1_6.toInt + 1) : 0 ≤ z86_.toInt := by have r_v1_6 := rngI v1_6; have r_z86_ := rngI z86_; omega
theorem lf_c_X4_readTerm_8  (v1_6 : Int32) (z86_ : Int32) (hv0_6 : 0 ≤ v1_6.toInt) (hv1_6 : v1_6.toInt ≤ 48) (h10_ : v1_6.toInt < 48) (h87_ : z86_.toInt = v1_6.toInt + 1) : z86_.toInt ≤ 48 := by have r_v1_6 := rngI v1_6; have r_z86_ := rngI z86_; omega
theorem lf_c_X4_readTerm_9  (v1_6 : Int32) (z86_ : Int32) (hv0_6 : 0 ≤ v1_6.toInt) (hv1_6 : v1_6.toInt ≤ 48) (h10_ : v1_6.toInt < 48) (h87_ : z86_.toInt = v1_6.toInt + 1) : (2147483648 - z86_.toInt).toNat < (2147483648 - v1_6.toInt).toNat := by have r_v1_6 := rngI v1_6; have r_z86_ := rngI z86_; omega
theorem lf_c_X4_readTerm_10  (r14_ : Int32) (h24_ : ¬ r14_.toInt = 42) (h56_ : ¬ r14_.toInt = 47) (h88_ : r14_.toInt = 37) : -2147483648 ≤ 2000 + r14_.toInt ∧ 2000 + r14_.toInt < 2147483648 := by have r_r14_ := rngI r14_; omega
theorem lf_c_X4_readTerm_11  (v1_6 : Int32) (hv0_6 : 0 ≤ v1_6.toInt) (hv1_6 : v1_6.toInt ≤ 48) (h10_ : v1_6.toInt < 48) : -2147483648 ≤ v1_6.toInt + 1 ∧ v1_6.toInt + 1 < 2147483648 := by have r_v1_6 := rngI v1_6; omega
theorem lf_c_X4_readTerm_12  (v1_6 : Int32) (z118_ : Int32) (hv0_6 : 0 ≤ v1_6.toInt) (hv1_6 : v1_6.toInt ≤ 48) (h10_ : v1_6.toInt < 48) (h119_ : z118_.toInt = v1_6.toInt + 1) : 0 ≤ z118_.toInt := by have r_v1_6 := rngI v1_6; have r_z118_ := rngI z118_; omega
theorem lf_c_X4_readTerm_13  (v1_6 : Int32) (z118_ : Int32) (hv0_6 : 0 ≤ v1_6.toInt) (hv1_6 : v1_6.toInt ≤ 48) (h10_ : v1_6.toInt < 48) (h119_ : z118_.toInt = v1_6.toInt + 1) : z118_.toInt ≤ 48 := by have r_v1_6 := rngI v1_6; have r_z118_ := rngI z118_; omega
theorem lf_c_X4_readTerm_14  (v1_6 : Int32) (z118_ : Int32) (hv0_6 : 0 ≤ v1_6.toInt) (hv1_6 : v1_6.toInt ≤ 48) (h10_ : v1_6.toInt < 48) (h119_ : z118_.toInt = v1_6.toInt + 1) : (2147483648 - z118_.toInt).toNat < (2147483648 - v1_6.toInt).toNat := by have r_v1_6 := rngI v1_6; have r_z118_ := rngI z118_; omega
theorem lf_c_X4_readTerm_15    : 0 ≤ (0 : Int32).toInt := by have q0 := li_0; omega
theorem lf_c_X4_readTerm_16    : (0 : Int32).toInt ≤ 48 := by have q0 := li_0; omega
set_option maxHeartbeats 4000000 in
set_option maxRecDepth 100000 in
theorem c_X4_readTerm (l : Launch) (G : va_G) (cy : Nat → ClassId) (ad : rf → Nat) (d : Nat) (N : Nat) (m : Nat) (Mz : mM) (hIz : Inv Mz) (hA : ∀ k : Nat, k + 1 = m → ONEC l G cy ad N k) (hB : ∀ k : Nat, k + 1 = m → CMPC l G cy ad N k) (hT : Mz.1 (4, 0, 0) 1 = 1) (hN : Mz.1 (4, 0, 0) 2 = 1 ∨ Mz.1 (4, 0, 0) 2 = 2 ∨ Mz.1 (4, 0, 0) 2 = 3) (hk : (Mz.1 (4, 0, 0) 5).toInt + ((m : Nat) : Int) = 5) (hm : m ≤ 5) : WP CC l G cy ad yX4_readTerm cX4_readTerm 3 none ((N + d) + 10) 0 [(0, vR (4, 0, 0))] [] Mz (fun r M' => Inv M' ∧ FR (S_reader) Mz M' ∧ (M'.1 (4, 0, 0) 5).toInt + ((m : Nat) : Int) = 5) := by
  have hFz : FR (S_reader) Mz Mz := FR.self
  refine w_aload_n dX4_readTerm_0 rfl 0 rfl ?_
  refine w_callVv (as := []) (rest := []) (c_X4_readOne l G cy ad d N m Mz hIz hA hB hT hN hk hm) kV_X4_readOne (by decide +kernel) (Nat.le_of_ble_eq_true rfl) m_704 rfl rfl rfl ic_4 rfl rfl (by decide) (Nat.le_of_ble_eq_true rfl) dX4_readTerm_1 (fun M1_ q2_ => ?_)
  obtain ⟨hI4_, hF5_, h3_⟩ := q2_
  have hF6_ := hFz.tr hF5_ (fun c k => (fun h => h.elim (fun h => (Or.inl ⟨h.1, h.2.1, h.2.2⟩)) (fun h => h.elim (fun h => (Or.inr (Or.inl ⟨h.1, h.2.1, h.2.2⟩))) (fun h => h.elim (fun h => (Or.inr (Or.inr (Or.inl ⟨h.1, h.2.1, h.2.2⟩)))) (fun h => h.elim (fun h => (Or.inr (Or.inr (Or.inr (Or.inl ⟨h.1, h.2.1, h.2.2⟩))))) (fun h => h.elim (fun h => (Or.inr (Or.inr (Or.inr (Or.inr (Or.inl ⟨h.1, h.2.1, h.2.2.1, h.2.2.2⟩)))))) (fun h => h.elim (fun h => (Or.inr (Or.inr (Or.inr (Or.inr (Or.inr (Or.inl ⟨h.1, h.2.1, h.2.2⟩))))))) (fun h => h.elim))))))))
  have kf7_ : M1_.1 (4, 0, 0) 1 = 1 := by rw [(hF5_ (4, 0, 0) 1 (by simp [S_reader]))]; exact hT
  have kf8_ : M1_.1 (4, 0, 0) 2 = 1 ∨ M1_.1 (4, 0, 0) 2 = 2 ∨ M1_.1 (4, 0, 0) 2 = 3 := by rw [(hF5_ (4, 0, 0) 2 (by simp [S_reader]))]; exact hN
  refine w_iconst (v := 0) dX4_readTerm_4 (by decide) ?_
  refine w_istore_n (ls' := [(1, vI 0), (0, vR (4, 0, 0))]) dX4_readTerm_5 rfl (by decide) rfl ?_
  have lp9_ : ∀ (nn_6 : Nat) (M_6 : mM) (hI_6 : Inv M_6) (hF_6 : FR (S_reader) Mz M_6) (v1_6 : Int32) (hv0_6 : 0 ≤ v1_6.toInt) (hv1_6 : v1_6.toInt ≤ 48) (kv0_6 : M_6.1 (4, 0, 0) 1 = 1) (kv1_6 : M_6.1 (4, 0, 0) 2 = 1 ∨ M_6.1 (4, 0, 0) 2 = 2 ∨ M_6.1 (4, 0, 0) 2 = 3) (kv2_6 : (M_6.1 (4, 0, 0) 5).toInt + ((m : Nat) : Int) = 5), (2147483648 - v1_6.toInt).toNat < nn_6 → WP CC l G cy ad yX4_readTerm cX4_readTerm 3 none ((N + d) + 10) 6 [(1, vI v1_6), (0, vR (4, 0, 0))] [] M_6 (fun r M' => Inv M' ∧ FR (S_reader) Mz M' ∧ (M'.1 (4, 0, 0) 5).toInt + ((m : Nat) : Int) = 5) := by
    intro nn_6
    induction nn_6 with
    | zero => intro M_6 hI_6 hF_6 v1_6 hv0_6 hv1_6 kv0_6 kv1_6 kv2_6 hm_6; exact absurd hm_6 (Nat.not_lt_zero _)
    | succ nn_6 ih_6 =>
      intro M_6 hI_6 hF_6 v1_6 hv0_6 hv1_6 kv0_6 kv1_6 kv2_6 hm_6
      refine w_iload_n dX4_readTerm_6 rfl 0 rfl ?_
      refine w_bipush (v := 48) dX4_readTerm_7 (by decide) ?_
      refine w_icmp_ge (tgt := 75) dX4_readTerm_9 (by decide) (rfl : v1_6.toInt = v1_6.toInt) li_48 (fun h10_ => ?_) (fun h10_ => ?_)
      · exact w_vret rfl dX4_readTerm_75 ⟨hI_6, hF_6, kv2_6⟩
      · refine w_aload_n dX4_readTerm_12 rfl 1 rfl ?_
        refine w_getI fl_RX4_35 rfl rfl ic_4 dX4_readTerm_13 (fun z11_ e12_ => ?_)
        refine w_if_ge (tgt := 75) dX4_readTerm_16 (by decide) (rfl : z11_.toInt = z11_.toInt) (fun h13_ => ?_) (fun h13_ => ?_)
        · exact w_vret rfl dX4_readTerm_75 ⟨hI_6, hF_6, kv2_6⟩
        · refine w_aload_n dX4_readTerm_19 rfl 1 rfl ?_
          refine w_callV (as := []) (rest := []) (c_X4_next l G cy ad ((N + d) + 8) M_6 hI_6 kv0_6) kV_X4_next (by decide +kernel) (Nat.le_of_ble_eq_true rfl) m_708 rfl rfl rfl ic_4 rfl rfl (by decide) (Nat.le_of_ble_eq_true rfl) dX4_readTerm_20 (fun r14_ M15_ q16_ => ?_)
          obtain ⟨hI18_, hF19_, h17_⟩ := q16_
          have hF20_ := hF_6.tr hF19_ (fun c k => (fun h => h.elim (fun h => (Or.inl ⟨h.1, h.2.1, h.2.2⟩)) (fun h => h.elim)))
          have kf21_ : M15_.1 (4, 0, 0) 1 = 1 := by rw [(hF19_ (4, 0, 0) 1 (by simp [S_c_X4_next]))]; exact kv0_6
          have kf22_ : M15_.1 (4, 0, 0) 2 = 1 ∨ M15_.1 (4, 0, 0) 2 = 2 ∨ M15_.1 (4, 0, 0) 2 = 3 := by rw [(hF19_ (4, 0, 0) 2 (by simp [S_c_X4_next]))]; exact kv1_6
          have kf23_ : (M15_.1 (4, 0, 0) 5).toInt + ((m : Nat) : Int) = 5 := by rw [(hF19_ (4, 0, 0) 5 (by simp [S_c_X4_next]))]; exact kv2_6
          refine w_istore_n (ls' := [(2, vI r14_), (1, vI v1_6), (0, vR (4, 0, 0))]) dX4_readTerm_23 rfl (by decide) rfl ?_
          refine w_iload_n dX4_readTerm_24 rfl 0 rfl ?_
          refine w_bipush (v := 42) dX4_readTerm_25 (by decide) ?_
          refine w_icmp_eq (tgt := 43) dX4_readTerm_27 (by decide) (rfl : r14_.toInt = r14_.toInt) li_42 (fun h24_ => ?_) (fun h24_ => ?_)
          · refine w_aload_n dX4_readTerm_43 rfl 2 rfl ?_
            refine w_dup dX4_readTerm_44 rfl ?_
            refine w_getI fl_RX4_31 rfl rfl ic_4 dX4_readTerm_45 (fun z25_ e26_ => ?_)
            refine w_iconst (v := 1) dX4_readTerm_48 (by decide) ?_
            refine w_iadd dX4_readTerm_49 (fun z27_ _ => ?_)
            refine w_putI CC_nd fl_RX4_31 rfl rfl ic_4 dX4_readTerm_50 (fun M28_ hM29_ => ?_)
            have hI30_ := hI18_.put hM29_ trivial
            have hF31_ := hF20_.put hM29_ (Or.inl ⟨rfl, rfl, rfl⟩)
            have kf32_ : M28_.1 (4, 0, 0) 1 = 1 := by rw [(show M28_.1 (4, 0, 0) 1 = M15_.1 (4, 0, 0) 1 by rw [hM29_, up_ne (by simp)])]; exact kf21_
            have kf33_ : M28_.1 (4, 0, 0) 2 = 1 ∨ M28_.1 (4, 0, 0) 2 = 2 ∨ M28_.1 (4, 0, 0) 2 = 3 := by rw [(show M28_.1 (4, 0, 0) 2 = M15_.1 (4, 0, 0) 2 by rw [hM29_, up_ne (by simp)])]; exact kf22_
            have kf34_ : (M28_.1 (4, 0, 0) 5).toInt + ((m : Nat) : Int) = 5 := by rw [(show M28_.1 (4, 0, 0) 5 = M15_.1 (4, 0, 0) 5 by rw [hM29_, up_ne (by simp)])]; exact kf23_
            refine w_aload_n dX4_readTerm_53 rfl 2 rfl ?_
            refine w_callVv (as := []) (rest := []) (c_X4_readOne l G cy ad d N m M28_ hI30_ hA hB kf32_ kf33_ kf34_ hm) kV_X4_readOne (by decide +kernel) (Nat.le_of_ble_eq_true rfl) m_704 rfl rfl rfl ic_4 rfl rfl (by decide) (Nat.le_of_ble_eq_true rfl) dX4_readTerm_54 (fun M35_ q36_ => ?_)
            obtain ⟨hI38_, hF39_, h37_⟩ := q36_
            have hF40_ := hF31_.tr hF39_ (fun c k => (fun h => h.elim (fun h => (Or.inl ⟨h.1, h.2.1, h.2.2⟩)) (fun h => h.elim (fun h => (Or.inr (Or.inl ⟨h.1, h.2.1, h.2.2⟩))) (fun h => h.elim (fun h => (Or.inr (Or.inr (Or.inl ⟨h.1, h.2.1, h.2.2⟩)))) (fun h => h.elim (fun h => (Or.inr (Or.inr (Or.inr (Or.inl ⟨h.1, h.2.1, h.2.2⟩))))) (fun h => h.elim (fun h => (Or.inr (Or.inr (Or.inr (Or.inr (Or.inl ⟨h.1, h.2.1, h.2.2.1, h.2.2.2⟩)))))) (fun h => h.elim (fun h => (Or.inr (Or.inr (Or.inr (Or.inr (Or.inr (Or.inl ⟨h.1, h.2.1, h.2.2⟩))))))) (fun h => h.elim))))))))
            have kf41_ : M35_.1 (4, 0, 0) 1 = 1 := by rw [(hF39_ (4, 0, 0) 1 (by simp [S_reader]))]; exact kf32_
            have kf42_ : M35_.1 (4, 0, 0) 2 = 1 ∨ M35_.1 (4, 0, 0) 2 = 2 ∨ M35_.1 (4, 0, 0) 2 = 3 := by rw [(hF39_ (4, 0, 0) 2 (by simp [S_reader]))]; exact kf33_
            refine w_aload_n dX4_readTerm_57 rfl 2 rfl ?_
            refine w_getR (c' := (1, 3, 0)) fl_RX4_10 rfl rfl ic_4 dX4_readTerm_58 rfl ?_
            refine w_sipush (v := 2000) dX4_readTerm_61 (by decide) ?_
            refine w_iload_n dX4_readTerm_64 rfl 0 rfl ?_
            refine w_iaddB dX4_readTerm_65 li_2000 (rfl : r14_.toInt = r14_.toInt) (lf_c_X4_readTerm_0 r14_ h24_) (fun z43_ h44_ => ?_)
            refine w_callVv (as := [vI z43_]) (rest := []) (c_X1_add l G cy ad ((N + d) + 9) 3 0 z43_ M35_ hI38_ (by first | decide | (unfold vF; omega) | (unfold vRw; omega))) kV_X1_add (by decide +kernel) (Nat.le_of_ble_eq_true rfl) m_720 rfl rfl rfl (ic_1 (by unfold vF; omega)) rfl rfl (by decide) (Nat.le_of_ble_eq_true rfl) dX4_readTerm_66 (fun M45_ q46_ => ?_)
            obtain ⟨hI48_, hF49_, h47_⟩ := q46_
            have hF50_ := hF40_.tr hF49_ (fun c k => (fun h => h.elim (fun h => (Or.inr (Or.inr (Or.inr (Or.inr (Or.inr (Or.inl ⟨h.1, h.2.1, h.2.2⟩))))))) (fun h => h.elim (fun h => (Or.inr (Or.inr (Or.inr (Or.inr (Or.inl ⟨h.1, h.2.1, h.2.2.1, h.2.2.2⟩)))))) (fun h => h.elim))))
            have kf51_ : M45_.1 (4, 0, 0) 1 = 1 := by rw [(hF49_ (4, 0, 0) 1 (by simp [S_c_X1_add]))]; exact kf41_
            have kf52_ : M45_.1 (4, 0, 0) 2 = 1 ∨ M45_.1 (4, 0, 0) 2 = 2 ∨ M45_.1 (4, 0, 0) 2 = 3 := by rw [(hF49_ (4, 0, 0) 2 (by simp [S_c_X1_add]))]; exact kf42_
            have kf53_ : (M45_.1 (4, 0, 0) 5).toInt + ((m : Nat) : Int) = 5 := by rw [(hF49_ (4, 0, 0) 5 (by simp [S_c_X1_add]))]; exact h37_
            refine w_iincB (j := 1) (f := fun z54_ => [(1, vI z54_), (2, vI r14_), (0, vR (4, 0, 0))]) dX4_readTerm_69 rfl (by decide) (fun _ => rfl) (rfl : v1_6.toInt = v1_6.toInt) li_1 (lf_c_X4_readTerm_1 v1_6 hv0_6 hv1_6 h10_) (fun z54_ h55_ => ?_)
            refine w_goto (tgt := 6) dX4_readTerm_72 (by decide) ?_
            refine w_loc (ls' := [(1, vI z54_), (0, vR (4, 0, 0))]) [0, 2] rfl ?_
            exact ih_6 M45_ hI48_ hF50_ z54_ (lf_c_X4_readTerm_2 v1_6 z54_ hv0_6 hv1_6 h10_ h55_) (lf_c_X4_readTerm_3 v1_6 z54_ hv0_6 hv1_6 h10_ h55_) kf51_ kf52_ kf53_ (Nat.lt_of_lt_of_le (lf_c_X4_readTerm_4 v1_6 z54_ hv0_6 hv1_6 h10_ h55_) (Nat.le_of_lt_succ hm_6))
          · refine w_iload_n dX4_readTerm_30 rfl 0 rfl ?_
            refine w_bipush (v := 47) dX4_readTerm_31 (by decide) ?_
            refine w_icmp_eq (tgt := 43) dX4_readTerm_33 (by decide) (rfl : r14_.toInt = r14_.toInt) li_47 (fun h56_ => ?_) (fun h56_ => ?_)
            · refine w_aload_n dX4_readTerm_43 rfl 2 rfl ?_
              refine w_dup dX4_readTerm_44 rfl ?_
              refine w_getI fl_RX4_31 rfl rfl ic_4 dX4_readTerm_45 (fun z57_ e58_ => ?_)
              refine w_iconst (v := 1) dX4_readTerm_48 (by decide) ?_
              refine w_iadd dX4_readTerm_49 (fun z59_ _ => ?_)
              refine w_putI CC_nd fl_RX4_31 rfl rfl ic_4 dX4_readTerm_50 (fun M60_ hM61_ => ?_)
              have hI62_ := hI18_.put hM61_ trivial
              have hF63_ := hF20_.put hM61_ (Or.inl ⟨rfl, rfl, rfl⟩)
              have kf64_ : M60_.1 (4, 0, 0) 1 = 1 := by rw [(show M60_.1 (4, 0, 0) 1 = M15_.1 (4, 0, 0) 1 by rw [hM61_, up_ne (by simp)])]; exact kf21_
              have kf65_ : M60_.1 (4, 0, 0) 2 = 1 ∨ M60_.1 (4, 0, 0) 2 = 2 ∨ M60_.1 (4, 0, 0) 2 = 3 := by rw [(show M60_.1 (4, 0, 0) 2 = M15_.1 (4, 0, 0) 2 by rw [hM61_, up_ne (by simp)])]; exact kf22_
              have kf66_ : (M60_.1 (4, 0, 0) 5).toInt + ((m : Nat) : Int) = 5 := by rw [(show M60_.1 (4, 0, 0) 5 = M15_.1 (4, 0, 0) 5 by rw [hM61_, up_ne (by simp)])]; exact kf23_
              refine w_aload_n dX4_readTerm_53 rfl 2 rfl ?_
              refine w_callVv (as := []) (rest := []) (c_X4_readOne l G cy ad d N m M60_ hI62_ hA hB kf64_ kf65_ kf66_ hm) kV_X4_readOne (by decide +kernel) (Nat.le_of_ble_eq_true rfl) m_704 rfl rfl rfl ic_4 rfl rfl (by decide) (Nat.le_of_ble_eq_true rfl) dX4_readTerm_54 (fun M67_ q68_ => ?_)
              obtain ⟨hI70_, hF71_, h69_⟩ := q68_
              have hF72_ := hF63_.tr hF71_ (fun c k => (fun h => h.elim (fun h => (Or.inl ⟨h.1, h.2.1, h.2.2⟩)) (fun h => h.elim (fun h => (Or.inr (Or.inl ⟨h.1, h.2.1, h.2.2⟩))) (fun h => h.elim (fun h => (Or.inr (Or.inr (Or.inl ⟨h.1, h.2.1, h.2.2⟩)))) (fun h => h.elim (fun h => (Or.inr (Or.inr (Or.inr (Or.inl ⟨h.1, h.2.1, h.2.2⟩))))) (fun h => h.elim (fun h => (Or.inr (Or.inr (Or.inr (Or.inr (Or.inl ⟨h.1, h.2.1, h.2.2.1, h.2.2.2⟩)))))) (fun h => h.elim (fun h => (Or.inr (Or.inr (Or.inr (Or.inr (Or.inr (Or.inl ⟨h.1, h.2.1, h.2.2⟩))))))) (fun h => h.elim))))))))
              have kf73_ : M67_.1 (4, 0, 0) 1 = 1 := by rw [(hF71_ (4, 0, 0) 1 (by simp [S_reader]))]; exact kf64_
              have kf74_ : M67_.1 (4, 0, 0) 2 = 1 ∨ M67_.1 (4, 0, 0) 2 = 2 ∨ M67_.1 (4, 0, 0) 2 = 3 := by rw [(hF71_ (4, 0, 0) 2 (by simp [S_reader]))]; exact kf65_
              refine w_aload_n dX4_readTerm_57 rfl 2 rfl ?_
              refine w_getR (c' := (1, 3, 0)) fl_RX4_10 rfl rfl ic_4 dX4_readTerm_58 rfl ?_
              refine w_sipush (v := 2000) dX4_readTerm_61 (by decide) ?_
              refine w_iload_n dX4_readTerm_64 rfl 0 rfl ?_
              refine w_iaddB dX4_readTerm_65 li_2000 (rfl : r14_.toInt = r14_.toInt) (lf_c_X4_readTerm_5 r14_ h24_ h56_) (fun z75_ h76_ => ?_)
              refine w_callVv (as := [vI z75_]) (rest := []) (c_X1_add l G cy ad ((N + d) + 9) 3 0 z75_ M67_ hI70_ (by first | decide | (unfold vF; omega) | (unfold vRw; omega))) kV_X1_add (by decide +kernel) (Nat.le_of_ble_eq_true rfl) m_720 rfl rfl rfl (ic_1 (by unfold vF; omega)) rfl rfl (by decide) (Nat.le_of_ble_eq_true rfl) dX4_readTerm_66 (fun M77_ q78_ => ?_)
              obtain ⟨hI80_, hF81_, h79_⟩ := q78_
              have hF82_ := hF72_.tr hF81_ (fun c k => (fun h => h.elim (fun h => (Or.inr (Or.inr (Or.inr (Or.inr (Or.inr (Or.inl ⟨h.1, h.2.1, h.2.2⟩))))))) (fun h => h.elim (fun h => (Or.inr (Or.inr (Or.inr (Or.inr (Or.inl ⟨h.1, h.2.1, h.2.2.1, h.2.2.2⟩)))))) (fun h => h.elim))))
              have kf83_ : M77_.1 (4, 0, 0) 1 = 1 := by rw [(hF81_ (4, 0, 0) 1 (by simp [S_c_X1_add]))]; exact kf73_
              have kf84_ : M77_.1 (4, 0, 0) 2 = 1 ∨ M77_.1 (4, 0, 0) 2 = 2 ∨ M77_.1 (4, 0, 0) 2 = 3 := by rw [(hF81_ (4, 0, 0) 2 (by simp [S_c_X1_add]))]; exact kf74_
              have kf85_ : (M77_.1 (4, 0, 0) 5).toInt + ((m : Nat) : Int) = 5 := by rw [(hF81_ (4, 0, 0) 5 (by simp [S_c_X1_add]))]; exact h69_
              refine w_iincB (j := 1) (f := fun z86_ => [(1, vI z86_), (2, vI r14_), (0, vR (4, 0, 0))]) dX4_readTerm_69 rfl (by decide) (fun _ => rfl) (rfl : v1_6.toInt = v1_6.toInt) li_1 (lf_c_X4_readTerm_6 v1_6 hv0_6 hv1_6 h10_) (fun z86_ h87_ => ?_)
              refine w_goto (tgt := 6) dX4_readTerm_72 (by decide) ?_
              refine w_loc (ls' := [(1, vI z86_), (0, vR (4, 0, 0))]) [0, 2] rfl ?_
              exact ih_6 M77_ hI80_ hF82_ z86_ (lf_c_X4_readTerm_7 v1_6 z86_ hv0_6 hv1_6 h10_ h87_) (lf_c_X4_readTerm_8 v1_6 z86_ hv0_6 hv1_6 h10_ h87_) kf83_ kf84_ kf85_ (Nat.lt_of_lt_of_le (lf_c_X4_readTerm_9 v1_6 z86_ hv0_6 hv1_6 h10_ h87_) (Nat.le_of_lt_succ hm_6))
            · refine w_iload_n dX4_readTerm_36 rfl 0 rfl ?_
              refine w_bipush (v := 37) dX4_readTerm_37 (by decide) ?_
              refine w_icmp_eq (tgt := 43) dX4_readTerm_39 (by decide) (rfl : r14_.toInt = r14_.toInt) li_37 (fun h88_ => ?_) (fun h88_ => ?_)
              · refine w_aload_n dX4_readTerm_43 rfl 2 rfl ?_
                refine w_dup dX4_readTerm_44 rfl ?_
                refine w_getI fl_RX4_31 rfl rfl ic_4 dX4_readTerm_45 (fun z89_ e90_ => ?_)
                refine w_iconst (v := 1) dX4_readTerm_48 (by decide) ?_
                refine w_iadd dX4_readTerm_49 (fun z91_ _ => ?_)
                refine w_putI CC_nd fl_RX4_31 rfl rfl ic_4 dX4_readTerm_50 (fun M92_ hM93_ => ?_)
                have hI94_ := hI18_.put hM93_ trivial
                have hF95_ := hF20_.put hM93_ (Or.inl ⟨rfl, rfl, rfl⟩)
                have kf96_ : M92_.1 (4, 0, 0) 1 = 1 := by rw [(show M92_.1 (4, 0, 0) 1 = M15_.1 (4, 0, 0) 1 by rw [hM93_, up_ne (by simp)])]; exact kf21_
                have kf97_ : M92_.1 (4, 0, 0) 2 = 1 ∨ M92_.1 (4, 0, 0) 2 = 2 ∨ M92_.1 (4, 0, 0) 2 = 3 := by rw [(show M92_.1 (4, 0, 0) 2 = M15_.1 (4, 0, 0) 2 by rw [hM93_, up_ne (by simp)])]; exact kf22_
                have kf98_ : (M92_.1 (4, 0, 0) 5).toInt + ((m : Nat) : Int) = 5 := by rw [(show M92_.1 (4, 0, 0) 5 = M15_.1 (4, 0, 0) 5 by rw [hM93_, up_ne (by simp)])]; exact kf23_
                refine w_aload_n dX4_readTerm_53 rfl 2 rfl ?_
                refine w_callVv (as := []) (rest := []) (c_X4_readOne l G cy ad d N m M92_ hI94_ hA hB kf96_ kf97_ kf98_ hm) kV_X4_readOne (by decide +kernel) (Nat.le_of_ble_eq_true rfl) m_704 rfl rfl rfl ic_4 rfl rfl (by decide) (Nat.le_of_ble_eq_true rfl) dX4_readTerm_54 (fun M99_ q100_ => ?_)
                obtain ⟨hI102_, hF103_, h101_⟩ := q100_
                have hF104_ := hF95_.tr hF103_ (fun c k => (fun h => h.elim (fun h => (Or.inl ⟨h.1, h.2.1, h.2.2⟩)) (fun h => h.elim (fun h => (Or.inr (Or.inl ⟨h.1, h.2.1, h.2.2⟩))) (fun h => h.elim (fun h => (Or.inr (Or.inr (Or.inl ⟨h.1, h.2.1, h.2.2⟩)))) (fun h => h.elim (fun h => (Or.inr (Or.inr (Or.inr (Or.inl ⟨h.1, h.2.1, h.2.2⟩))))) (fun h => h.elim (fun h => (Or.inr (Or.inr (Or.inr (Or.inr (Or.inl ⟨h.1, h.2.1, h.2.2.1, h.2.2.2⟩)))))) (fun h => h.elim (fun h => (Or.inr (Or.inr (Or.inr (Or.inr (Or.inr (Or.inl ⟨h.1, h.2.1, h.2.2⟩))))))) (fun h => h.elim))))))))
                have kf105_ : M99_.1 (4, 0, 0) 1 = 1 := by rw [(hF103_ (4, 0, 0) 1 (by simp [S_reader]))]; exact kf96_
                have kf106_ : M99_.1 (4, 0, 0) 2 = 1 ∨ M99_.1 (4, 0, 0) 2 = 2 ∨ M99_.1 (4, 0, 0) 2 = 3 := by rw [(hF103_ (4, 0, 0) 2 (by simp [S_reader]))]; exact kf97_
                refine w_aload_n dX4_readTerm_57 rfl 2 rfl ?_
                refine w_getR (c' := (1, 3, 0)) fl_RX4_10 rfl rfl ic_4 dX4_readTerm_58 rfl ?_
                refine w_sipush (v := 2000) dX4_readTerm_61 (by decide) ?_
                refine w_iload_n dX4_readTerm_64 rfl 0 rfl ?_
                refine w_iaddB dX4_readTerm_65 li_2000 (rfl : r14_.toInt = r14_.toInt) (lf_c_X4_readTerm_10 r14_ h24_ h56_ h88_) (fun z107_ h108_ => ?_)
                refine w_callVv (as := [vI z107_]) (rest := []) (c_X1_add l G cy ad ((N + d) + 9) 3 0 z107_ M99_ hI102_ (by first | decide | (unfold vF; omega) | (unfold vRw; omega))) kV_X1_add (by decide +kernel) (Nat.le_of_ble_eq_true rfl) m_720 rfl rfl rfl (ic_1 (by unfold vF; omega)) rfl rfl (by decide) (Nat.le_of_ble_eq_true rfl) dX4_readTerm_66 (fun M109_ q110_ => ?_)
                obtain ⟨hI112_, hF113_, h111_⟩ := q110_
                have hF114_ := hF104_.tr hF113_ (fun c k => (fun h => h.elim (fun h => (Or.inr (Or.inr (Or.inr (Or.inr (Or.inr (Or.inl ⟨h.1, h.2.1, h.2.2⟩))))))) (fun h => h.elim (fun h => (Or.inr (Or.inr (Or.inr (Or.inr (Or.inl ⟨h.1, h.2.1, h.2.2.1, h.2.2.2⟩)))))) (fun h => h.elim))))
                have kf115_ : M109_.1 (4, 0, 0) 1 = 1 := by rw [(hF113_ (4, 0, 0) 1 (by simp [S_c_X1_add]))]; exact kf105_
                have kf116_ : M109_.1 (4, 0, 0) 2 = 1 ∨ M109_.1 (4, 0, 0) 2 = 2 ∨ M109_.1 (4, 0, 0) 2 = 3 := by rw [(hF113_ (4, 0, 0) 2 (by simp [S_c_X1_add]))]; exact kf106_
                have kf117_ : (M109_.1 (4, 0, 0) 5).toInt + ((m : Nat) : Int) = 5 := by rw [(hF113_ (4, 0, 0) 5 (by simp [S_c_X1_add]))]; exact h101_
                refine w_iincB (j := 1) (f := fun z118_ => [(1, vI z118_), (2, vI r14_), (0, vR (4, 0, 0))]) dX4_readTerm_69 rfl (by decide) (fun _ => rfl) (rfl : v1_6.toInt = v1_6.toInt) li_1 (lf_c_X4_readTerm_11 v1_6 hv0_6 hv1_6 h10_) (fun z118_ h119_ => ?_)
                refine w_goto (tgt := 6) dX4_readTerm_72 (by decide) ?_
                refine w_loc (ls' := [(1, vI z118_), (0, vR (4, 0, 0))]) [0, 2] rfl ?_
                exact ih_6 M109_ hI112_ hF114_ z118_ (lf_c_X4_readTerm_12 v1_6 z118_ hv0_6 hv1_6 h10_ h119_) (lf_c_X4_readTerm_13 v1_6 z118_ hv0_6 hv1_6 h10_ h119_) kf115_ kf116_ kf117_ (Nat.lt_of_lt_of_le (lf_c_X4_readTerm_14 v1_6 z118_ hv0_6 hv1_6 h10_ h119_) (Nat.le_of_lt_succ hm_6))
              · exact w_vret rfl dX4_readTerm_42 ⟨hI18_, hF20_, kf23_⟩
  exact lp9_ _ M1_ hI4_ hF6_ 0 (lf_c_X4_readTerm_15 ) (lf_c_X4_readTerm_16 ) kf7_ kf8_ h3_ (Nat.lt_succ_self _)
theorem lf_c_X4_readSum_0  (r14_ : Int32) (h24_ : r14_.toInt = 43) : -2147483648 ≤ 2000 + r14_.toInt ∧ 2000 + r14_.toInt < 2147483648 := by have r_r14_ := rngI r14_; omega
theorem lf_c_X4_readSum_1  (v1_6 : Int32) (hv0_6 : 0 ≤ v1_6.toInt) (hv1_6 : v1_6.toInt ≤ 48) (h10_ : v1_6.toInt < 48) : -2147483648 ≤ v1_6.toInt + 1 ∧ v1_6.toInt + 1 < 2147483648 := by have r_v1_6 := rngI v1_6; omega
theorem lf_c_X4_readSum_2  (v1_6 : Int32) (z54_ : Int32) (hv0_6 : 0 ≤ v1_6.toInt) (hv1_6 : v1_6.toInt ≤ 48) (h10_ : v1_6.toInt < 48) (h55_ : z54_.toInt = v1_6.toInt + 1) : 0 ≤ z54_.toInt := by have r_v1_6 := rngI v1_6; have r_z54_ := rngI z54_; omega
theorem lf_c_X4_readSum_3  (v1_6 : Int32) (z54_ : Int32) (hv0_6 : 0 ≤ v1_6.toInt) (hv1_6 : v1_6.toInt ≤ 48) (h10_ : v1_6.toInt < 48) (h55_ : z54_.toInt = v1_6.toInt + 1) : z54_.toInt ≤ 48 := by have r_v1_6 := rngI v1_6; have r_z54_ := rngI z54_; omega
theorem lf_c_X4_readSum_4  (v1_6 : Int32) (z54_ : Int32) (hv0_6 : 0 ≤ v1_6.toInt) (hv1_6 : v1_6.toInt ≤ 48) (h10_ : v1_6.toInt < 48) (h55_ : z54_.toInt = v1_6.toInt + 1) : (2147483648 - z54_.toInt).toNat < (2147483648 - v1_6.toInt).toNat := by have r_v1_6 := rngI v1_6; have r_z54_ := rngI z54_; omega
theorem lf_c_X4_readSum_5  (r14_ : Int32) (h24_ : ¬ r14_.toInt = 43) (h56_ : r14_.toInt = 45) : -2147483648 ≤ 2000 + r14_.toInt ∧ 2000 + r14_.toInt < 2147483648 := by have r_r14_ := rngI r14_; omega
theorem lf_c_X4_readSum_6  (v1_6 : Int32) (hv0_6 : 0 ≤ v1_6.toInt) (hv1_6 : v1_6.toInt ≤ 48) (h10_ : v1_6.toInt < 48) : -2147483648 ≤ v1_6.toInt + 1 ∧ v1_6.toInt + 1 < 2147483648 := by have r_v1_6 := rngI v1_6; omega
theorem lf_c_X4_readSum_7  (v1_6 : Int32) (z86_ : Int32) (hv0_6 : 0 ≤ v1_6.toInt) (hv1_6 : v1_6.toInt ≤ 48) (h10_ : v1_6.toInt < 48) (h87_ : z86_.toInt = v1_6.toInt + 1) : 0 ≤ z86_.toInt := by have r_v1_6 := rngI v1_6; have r_z86_ := rngI z86_; omega
theorem lf_c_X4_readSum_8  (v1_6 : Int32) (z86_ : Int32) (hv0_6 : 0 ≤ v1_6.toInt) (hv1_6 : v1_6.toInt ≤ 48) (h10_ : v1_6.toInt < 48) (h87_ : z86_.toInt = v1_6.toInt + 1) : z86_.toInt ≤ 48 := by have r_v1_6 := rngI v1_6; have r_z86_ := rngI z86_; omega
theorem lf_c_X4_readSum_9  (v1_6 : Int32) (z86_ : Int32) (hv0_6 : 0 ≤ v1_6.toInt) (hv1_6 : v1_6.toInt ≤ 48) (h10_ : v1_6.toInt < 48) (h87_ : z86_.toInt = v1_6.toInt + 1) : (2147483648 - z86_.toInt).toNat < (2147483648 - v1_6.toInt).toNat := by have r_v1_6 := rngI v1_6; have r_z86_ := rngI z86_; omega
theorem lf_c_X4_readSum_10    : 0 ≤ (0 : Int32).toInt := by have q0 := li_0; omega
theorem lf_c_X4_readSum_11    : (0 : Int32).toInt ≤ 48 := by have q0 := li_0; omega
set_option maxHeartbeats 4000000 in
set_option maxRecDepth 100000 in
theorem c_X4_readSum (l : Launch) (G : va_G) (cy : Nat → ClassId) (ad : rf → Nat) (d : Nat) (N : Nat) (m : Nat) (Mz : mM) (hIz : Inv Mz) (hA : ∀ k : Nat, k + 1 = m → ONEC l G cy ad N k) (hB : ∀ k : Nat, k + 1 = m → CMPC l G cy ad N k) (hT : Mz.1 (4, 0, 0) 1 = 1) (hN : Mz.1 (4, 0, 0) 2 = 1 ∨ Mz.1 (4, 0, 0) 2 = 2 ∨ Mz.1 (4, 0, 0) 2 = 3) (hk : (Mz.1 (4, 0, 0) 5).toInt + ((m : Nat) : Int) = 5) (hm : m ≤ 5) : WP CC l G cy ad yX4_readSum cX4_readSum 3 none ((N + d) + 11) 0 [(0, vR (4, 0, 0))] [] Mz (fun r M' => Inv M' ∧ FR (S_reader) Mz M' ∧ (M'.1 (4, 0, 0) 5).toInt + ((m : Nat) : Int) = 5) := by
  have hFz : FR (S_reader) Mz Mz := FR.self
  refine w_aload_n dX4_readSum_0 rfl 0 rfl ?_
  refine w_callVv (as := []) (rest := []) (c_X4_readTerm l G cy ad d N m Mz hIz hA hB hT hN hk hm) kV_X4_readTerm (by decide +kernel) (Nat.le_of_ble_eq_true rfl) m_700 rfl rfl rfl ic_4 rfl rfl (by decide) (Nat.le_of_ble_eq_true rfl) dX4_readSum_1 (fun M1_ q2_ => ?_)
  obtain ⟨hI4_, hF5_, h3_⟩ := q2_
  have hF6_ := hFz.tr hF5_ (fun c k => (fun h => h.elim (fun h => (Or.inl ⟨h.1, h.2.1, h.2.2⟩)) (fun h => h.elim (fun h => (Or.inr (Or.inl ⟨h.1, h.2.1, h.2.2⟩))) (fun h => h.elim (fun h => (Or.inr (Or.inr (Or.inl ⟨h.1, h.2.1, h.2.2⟩)))) (fun h => h.elim (fun h => (Or.inr (Or.inr (Or.inr (Or.inl ⟨h.1, h.2.1, h.2.2⟩))))) (fun h => h.elim (fun h => (Or.inr (Or.inr (Or.inr (Or.inr (Or.inl ⟨h.1, h.2.1, h.2.2.1, h.2.2.2⟩)))))) (fun h => h.elim (fun h => (Or.inr (Or.inr (Or.inr (Or.inr (Or.inr (Or.inl ⟨h.1, h.2.1, h.2.2⟩))))))) (fun h => h.elim))))))))
  have kf7_ : M1_.1 (4, 0, 0) 1 = 1 := by rw [(hF5_ (4, 0, 0) 1 (by simp [S_reader]))]; exact hT
  have kf8_ : M1_.1 (4, 0, 0) 2 = 1 ∨ M1_.1 (4, 0, 0) 2 = 2 ∨ M1_.1 (4, 0, 0) 2 = 3 := by rw [(hF5_ (4, 0, 0) 2 (by simp [S_reader]))]; exact hN
  refine w_iconst (v := 0) dX4_readSum_4 (by decide) ?_
  refine w_istore_n (ls' := [(1, vI 0), (0, vR (4, 0, 0))]) dX4_readSum_5 rfl (by decide) rfl ?_
  have lp9_ : ∀ (nn_6 : Nat) (M_6 : mM) (hI_6 : Inv M_6) (hF_6 : FR (S_reader) Mz M_6) (v1_6 : Int32) (hv0_6 : 0 ≤ v1_6.toInt) (hv1_6 : v1_6.toInt ≤ 48) (kv0_6 : M_6.1 (4, 0, 0) 1 = 1) (kv1_6 : M_6.1 (4, 0, 0) 2 = 1 ∨ M_6.1 (4, 0, 0) 2 = 2 ∨ M_6.1 (4, 0, 0) 2 = 3) (kv2_6 : (M_6.1 (4, 0, 0) 5).toInt + ((m : Nat) : Int) = 5), (2147483648 - v1_6.toInt).toNat < nn_6 → WP CC l G cy ad yX4_readSum cX4_readSum 3 none ((N + d) + 11) 6 [(1, vI v1_6), (0, vR (4, 0, 0))] [] M_6 (fun r M' => Inv M' ∧ FR (S_reader) Mz M' ∧ (M'.1 (4, 0, 0) 5).toInt + ((m : Nat) : Int) = 5) := by
    intro nn_6
    induction nn_6 with
    | zero => intro M_6 hI_6 hF_6 v1_6 hv0_6 hv1_6 kv0_6 kv1_6 kv2_6 hm_6; exact absurd hm_6 (Nat.not_lt_zero _)
    | succ nn_6 ih_6 =>
      intro M_6 hI_6 hF_6 v1_6 hv0_6 hv1_6 kv0_6 kv1_6 kv2_6 hm_6
      refine w_iload_n dX4_readSum_6 rfl 0 rfl ?_
      refine w_bipush (v := 48) dX4_readSum_7 (by decide) ?_
      refine w_icmp_ge (tgt := 69) dX4_readSum_9 (by decide) (rfl : v1_6.toInt = v1_6.toInt) li_48 (fun h10_ => ?_) (fun h10_ => ?_)
      · exact w_vret rfl dX4_readSum_69 ⟨hI_6, hF_6, kv2_6⟩
      · refine w_aload_n dX4_readSum_12 rfl 1 rfl ?_
        refine w_getI fl_RX4_35 rfl rfl ic_4 dX4_readSum_13 (fun z11_ e12_ => ?_)
        refine w_if_ge (tgt := 69) dX4_readSum_16 (by decide) (rfl : z11_.toInt = z11_.toInt) (fun h13_ => ?_) (fun h13_ => ?_)
        · exact w_vret rfl dX4_readSum_69 ⟨hI_6, hF_6, kv2_6⟩
        · refine w_aload_n dX4_readSum_19 rfl 1 rfl ?_
          refine w_callV (as := []) (rest := []) (c_X4_next l G cy ad ((N + d) + 9) M_6 hI_6 kv0_6) kV_X4_next (by decide +kernel) (Nat.le_of_ble_eq_true rfl) m_708 rfl rfl rfl ic_4 rfl rfl (by decide) (Nat.le_of_ble_eq_true rfl) dX4_readSum_20 (fun r14_ M15_ q16_ => ?_)
          obtain ⟨hI18_, hF19_, h17_⟩ := q16_
          have hF20_ := hF_6.tr hF19_ (fun c k => (fun h => h.elim (fun h => (Or.inl ⟨h.1, h.2.1, h.2.2⟩)) (fun h => h.elim)))
          have kf21_ : M15_.1 (4, 0, 0) 1 = 1 := by rw [(hF19_ (4, 0, 0) 1 (by simp [S_c_X4_next]))]; exact kv0_6
          have kf22_ : M15_.1 (4, 0, 0) 2 = 1 ∨ M15_.1 (4, 0, 0) 2 = 2 ∨ M15_.1 (4, 0, 0) 2 = 3 := by rw [(hF19_ (4, 0, 0) 2 (by simp [S_c_X4_next]))]; exact kv1_6
          have kf23_ : (M15_.1 (4, 0, 0) 5).toInt + ((m : Nat) : Int) = 5 := by rw [(hF19_ (4, 0, 0) 5 (by simp [S_c_X4_next]))]; exact kv2_6
          refine w_istore_n (ls' := [(2, vI r14_), (1, vI v1_6), (0, vR (4, 0, 0))]) dX4_readSum_23 rfl (by decide) rfl ?_
          refine w_iload_n dX4_readSum_24 rfl 0 rfl ?_
          refine w_bipush (v := 43) dX4_readSum_25 (by decide) ?_
          refine w_icmp_eq (tgt := 37) dX4_readSum_27 (by decide) (rfl : r14_.toInt = r14_.toInt) li_43 (fun h24_ => ?_) (fun h24_ => ?_)
          · refine w_aload_n dX4_readSum_37 rfl 2 rfl ?_
            refine w_dup dX4_readSum_38 rfl ?_
            refine w_getI fl_RX4_31 rfl rfl ic_4 dX4_readSum_39 (fun z25_ e26_ => ?_)
            refine w_iconst (v := 1) dX4_readSum_42 (by decide) ?_
            refine w_iadd dX4_readSum_43 (fun z27_ _ => ?_)
            refine w_putI CC_nd fl_RX4_31 rfl rfl ic_4 dX4_readSum_44 (fun M28_ hM29_ => ?_)
            have hI30_ := hI18_.put hM29_ trivial
            have hF31_ := hF20_.put hM29_ (Or.inl ⟨rfl, rfl, rfl⟩)
            have kf32_ : M28_.1 (4, 0, 0) 1 = 1 := by rw [(show M28_.1 (4, 0, 0) 1 = M15_.1 (4, 0, 0) 1 by rw [hM29_, up_ne (by simp)])]; exact kf21_
            have kf33_ : M28_.1 (4, 0, 0) 2 = 1 ∨ M28_.1 (4, 0, 0) 2 = 2 ∨ M28_.1 (4, 0, 0) 2 = 3 := by rw [(show M28_.1 (4, 0, 0) 2 = M15_.1 (4, 0, 0) 2 by rw [hM29_, up_ne (by simp)])]; exact kf22_
            have kf34_ : (M28_.1 (4, 0, 0) 5).toInt + ((m : Nat) : Int) = 5 := by rw [(show M28_.1 (4, 0, 0) 5 = M15_.1 (4, 0, 0) 5 by rw [hM29_, up_ne (by simp)])]; exact kf23_
            refine w_aload_n dX4_readSum_47 rfl 2 rfl ?_
            refine w_callVv (as := []) (rest := []) (c_X4_readTerm l G cy ad d N m M28_ hI30_ hA hB kf32_ kf33_ kf34_ hm) kV_X4_readTerm (by decide +kernel) (Nat.le_of_ble_eq_true rfl) m_700 rfl rfl rfl ic_4 rfl rfl (by decide) (Nat.le_of_ble_eq_true rfl) dX4_readSum_48 (fun M35_ q36_ => ?_)
            obtain ⟨hI38_, hF39_, h37_⟩ := q36_
            have hF40_ := hF31_.tr hF39_ (fun c k => (fun h => h.elim (fun h => (Or.inl ⟨h.1, h.2.1, h.2.2⟩)) (fun h => h.elim (fun h => (Or.inr (Or.inl ⟨h.1, h.2.1, h.2.2⟩))) (fun h => h.elim (fun h => (Or.inr (Or.inr (Or.inl ⟨h.1, h.2.1, h.2.2⟩)))) (fun h => h.elim (fun h => (Or.inr (Or.inr (Or.inr (Or.inl ⟨h.1, h.2.1, h.2.2⟩))))) (fun h => h.elim (fun h => (Or.inr (Or.inr (Or.inr (Or.inr (Or.inl ⟨h.1, h.2.1, h.2.2.1, h.2.2.2⟩)))))) (fun h => h.elim (fun h => (Or.inr (Or.inr (Or.inr (Or.inr (Or.inr (Or.inl ⟨h.1, h.2.1, h.2.2⟩))))))) (fun h => h.elim))))))))
            have kf41_ : M35_.1 (4, 0, 0) 1 = 1 := by rw [(hF39_ (4, 0, 0) 1 (by simp [S_reader]))]; exact kf32_
            have kf42_ : M35_.1 (4, 0, 0) 2 = 1 ∨ M35_.1 (4, 0, 0) 2 = 2 ∨ M35_.1 (4, 0, 0) 2 = 3 := by rw [(hF39_ (4, 0, 0) 2 (by simp [S_reader]))]; exact kf33_
            refine w_aload_n dX4_readSum_51 rfl 2 rfl ?_
            refine w_getR (c' := (1, 3, 0)) fl_RX4_10 rfl rfl ic_4 dX4_readSum_52 rfl ?_
            refine w_sipush (v := 2000) dX4_readSum_55 (by decide) ?_
            refine w_iload_n dX4_readSum_58 rfl 0 rfl ?_
            refine w_iaddB dX4_readSum_59 li_2000 (rfl : r14_.toInt = r14_.toInt) (lf_c_X4_readSum_0 r14_ h24_) (fun z43_ h44_ => ?_)
            refine w_callVv (as := [vI z43_]) (rest := []) (c_X1_add l G cy ad ((N + d) + 10) 3 0 z43_ M35_ hI38_ (by first | decide | (unfold vF; omega) | (unfold vRw; omega))) kV_X1_add (by decide +kernel) (Nat.le_of_ble_eq_true rfl) m_720 rfl rfl rfl (ic_1 (by unfold vF; omega)) rfl rfl (by decide) (Nat.le_of_ble_eq_true rfl) dX4_readSum_60 (fun M45_ q46_ => ?_)
            obtain ⟨hI48_, hF49_, h47_⟩ := q46_
            have hF50_ := hF40_.tr hF49_ (fun c k => (fun h => h.elim (fun h => (Or.inr (Or.inr (Or.inr (Or.inr (Or.inr (Or.inl ⟨h.1, h.2.1, h.2.2⟩))))))) (fun h => h.elim (fun h => (Or.inr (Or.inr (Or.inr (Or.inr (Or.inl ⟨h.1, h.2.1, h.2.2.1, h.2.2.2⟩)))))) (fun h => h.elim))))
            have kf51_ : M45_.1 (4, 0, 0) 1 = 1 := by rw [(hF49_ (4, 0, 0) 1 (by simp [S_c_X1_add]))]; exact kf41_
            have kf52_ : M45_.1 (4, 0, 0) 2 = 1 ∨ M45_.1 (4, 0, 0) 2 = 2 ∨ M45_.1 (4, 0, 0) 2 = 3 := by rw [(hF49_ (4, 0, 0) 2 (by simp [S_c_X1_add]))]; exact kf42_
            have kf53_ : (M45_.1 (4, 0, 0) 5).toInt + ((m : Nat) : Int) = 5 := by rw [(hF49_ (4, 0, 0) 5 (by simp [S_c_X1_add]))]; exact h37_
            refine w_iincB (j := 1) (f := fun z54_ => [(1, vI z54_), (2, vI r14_), (0, vR (4, 0, 0))]) dX4_readSum_63 rfl (by decide) (fun _ => rfl) (rfl : v1_6.toInt = v1_6.toInt) li_1 (lf_c_X4_readSum_1 v1_6 hv0_6 hv1_6 h10_) (fun z54_ h55_ => ?_)
            refine w_goto (tgt := 6) dX4_readSum_66 (by decide) ?_
            refine w_loc (ls' := [(1, vI z54_), (0, vR (4, 0, 0))]) [0, 2] rfl ?_
            exact ih_6 M45_ hI48_ hF50_ z54_ (lf_c_X4_readSum_2 v1_6 z54_ hv0_6 hv1_6 h10_ h55_) (lf_c_X4_readSum_3 v1_6 z54_ hv0_6 hv1_6 h10_ h55_) kf51_ kf52_ kf53_ (Nat.lt_of_lt_of_le (lf_c_X4_readSum_4 v1_6 z54_ hv0_6 hv1_6 h10_ h55_) (Nat.le_of_lt_succ hm_6))
          · refine w_iload_n dX4_readSum_30 rfl 0 rfl ?_
            refine w_bipush (v := 45) dX4_readSum_31 (by decide) ?_
            refine w_icmp_eq (tgt := 37) dX4_readSum_33 (by decide) (rfl : r14_.toInt = r14_.toInt) li_45 (fun h56_ => ?_) (fun h56_ => ?_)
            · refine w_aload_n dX4_readSum_37 rfl 2 rfl ?_
              refine w_dup dX4_readSum_38 rfl ?_
              refine w_getI fl_RX4_31 rfl rfl ic_4 dX4_readSum_39 (fun z57_ e58_ => ?_)
              refine w_iconst (v := 1) dX4_readSum_42 (by decide) ?_
              refine w_iadd dX4_readSum_43 (fun z59_ _ => ?_)
              refine w_putI CC_nd fl_RX4_31 rfl rfl ic_4 dX4_readSum_44 (fun M60_ hM61_ => ?_)
              have hI62_ := hI18_.put hM61_ trivial
              have hF63_ := hF20_.put hM61_ (Or.inl ⟨rfl, rfl, rfl⟩)
              have kf64_ : M60_.1 (4, 0, 0) 1 = 1 := by rw [(show M60_.1 (4, 0, 0) 1 = M15_.1 (4, 0, 0) 1 by rw [hM61_, up_ne (by simp)])]; exact kf21_
              have kf65_ : M60_.1 (4, 0, 0) 2 = 1 ∨ M60_.1 (4, 0, 0) 2 = 2 ∨ M60_.1 (4, 0, 0) 2 = 3 := by rw [(show M60_.1 (4, 0, 0) 2 = M15_.1 (4, 0, 0) 2 by rw [hM61_, up_ne (by simp)])]; exact kf22_
              have kf66_ : (M60_.1 (4, 0, 0) 5).toInt + ((m : Nat) : Int) = 5 := by rw [(show M60_.1 (4, 0, 0) 5 = M15_.1 (4, 0, 0) 5 by rw [hM61_, up_ne (by simp)])]; exact kf23_
              refine w_aload_n dX4_readSum_47 rfl 2 rfl ?_
              refine w_callVv (as := []) (rest := []) (c_X4_readTerm l G cy ad d N m M60_ hI62_ hA hB kf64_ kf65_ kf66_ hm) kV_X4_readTerm (by decide +kernel) (Nat.le_of_ble_eq_true rfl) m_700 rfl rfl rfl ic_4 rfl rfl (by decide) (Nat.le_of_ble_eq_true rfl) dX4_readSum_48 (fun M67_ q68_ => ?_)
              obtain ⟨hI70_, hF71_, h69_⟩ := q68_
              have hF72_ := hF63_.tr hF71_ (fun c k => (fun h => h.elim (fun h => (Or.inl ⟨h.1, h.2.1, h.2.2⟩)) (fun h => h.elim (fun h => (Or.inr (Or.inl ⟨h.1, h.2.1, h.2.2⟩))) (fun h => h.elim (fun h => (Or.inr (Or.inr (Or.inl ⟨h.1, h.2.1, h.2.2⟩)))) (fun h => h.elim (fun h => (Or.inr (Or.inr (Or.inr (Or.inl ⟨h.1, h.2.1, h.2.2⟩))))) (fun h => h.elim (fun h => (Or.inr (Or.inr (Or.inr (Or.inr (Or.inl ⟨h.1, h.2.1, h.2.2.1, h.2.2.2⟩)))))) (fun h => h.elim (fun h => (Or.inr (Or.inr (Or.inr (Or.inr (Or.inr (Or.inl ⟨h.1, h.2.1, h.2.2⟩))))))) (fun h => h.elim))))))))
              have kf73_ : M67_.1 (4, 0, 0) 1 = 1 := by rw [(hF71_ (4, 0, 0) 1 (by simp [S_reader]))]; exact kf64_
              have kf74_ : M67_.1 (4, 0, 0) 2 = 1 ∨ M67_.1 (4, 0, 0) 2 = 2 ∨ M67_.1 (4, 0, 0) 2 = 3 := by rw [(hF71_ (4, 0, 0) 2 (by simp [S_reader]))]; exact kf65_
              refine w_aload_n dX4_readSum_51 rfl 2 rfl ?_
              refine w_getR (c' := (1, 3, 0)) fl_RX4_10 rfl rfl ic_4 dX4_readSum_52 rfl ?_
              refine w_sipush (v := 2000) dX4_readSum_55 (by decide) ?_
              refine w_iload_n dX4_readSum_58 rfl 0 rfl ?_
              refine w_iaddB dX4_readSum_59 li_2000 (rfl : r14_.toInt = r14_.toInt) (lf_c_X4_readSum_5 r14_ h24_ h56_) (fun z75_ h76_ => ?_)
              refine w_callVv (as := [vI z75_]) (rest := []) (c_X1_add l G cy ad ((N + d) + 10) 3 0 z75_ M67_ hI70_ (by first | decide | (unfold vF; omega) | (unfold vRw; omega))) kV_X1_add (by decide +kernel) (Nat.le_of_ble_eq_true rfl) m_720 rfl rfl rfl (ic_1 (by unfold vF; omega)) rfl rfl (by decide) (Nat.le_of_ble_eq_true rfl) dX4_readSum_60 (fun M77_ q78_ => ?_)
              obtain ⟨hI80_, hF81_, h79_⟩ := q78_
              have hF82_ := hF72_.tr hF81_ (fun c k => (fun h => h.elim (fun h => (Or.inr (Or.inr (Or.inr (Or.inr (Or.inr (Or.inl ⟨h.1, h.2.1, h.2.2⟩))))))) (fun h => h.elim (fun h => (Or.inr (Or.inr (Or.inr (Or.inr (Or.inl ⟨h.1, h.2.1, h.2.2.1, h.2.2.2⟩)))))) (fun h => h.elim))))
              have kf83_ : M77_.1 (4, 0, 0) 1 = 1 := by rw [(hF81_ (4, 0, 0) 1 (by simp [S_c_X1_add]))]; exact kf73_
              have kf84_ : M77_.1 (4, 0, 0) 2 = 1 ∨ M77_.1 (4, 0, 0) 2 = 2 ∨ M77_.1 (4, 0, 0) 2 = 3 := by rw [(hF81_ (4, 0, 0) 2 (by simp [S_c_X1_add]))]; exact kf74_
              have kf85_ : (M77_.1 (4, 0, 0) 5).toInt + ((m : Nat) : Int) = 5 := by rw [(hF81_ (4, 0, 0) 5 (by simp [S_c_X1_add]))]; exact h69_
              refine w_iincB (j := 1) (f := fun z86_ => [(1, vI z86_), (2, vI r14_), (0, vR (4, 0, 0))]) dX4_readSum_63 rfl (by decide) (fun _ => rfl) (rfl : v1_6.toInt = v1_6.toInt) li_1 (lf_c_X4_readSum_6 v1_6 hv0_6 hv1_6 h10_) (fun z86_ h87_ => ?_)
              refine w_goto (tgt := 6) dX4_readSum_66 (by decide) ?_
              refine w_loc (ls' := [(1, vI z86_), (0, vR (4, 0, 0))]) [0, 2] rfl ?_
              exact ih_6 M77_ hI80_ hF82_ z86_ (lf_c_X4_readSum_7 v1_6 z86_ hv0_6 hv1_6 h10_ h87_) (lf_c_X4_readSum_8 v1_6 z86_ hv0_6 hv1_6 h10_ h87_) kf83_ kf84_ kf85_ (Nat.lt_of_lt_of_le (lf_c_X4_readSum_9 v1_6 z86_ hv0_6 hv1_6 h10_ h87_) (Nat.le_of_lt_succ hm_6))
            · exact w_vret rfl dX4_readSum_36 ⟨hI18_, hF20_, kf23_⟩
  exact lp9_ _ M1_ hI4_ hF6_ 0 (lf_c_X4_readSum_10 ) (lf_c_X4_readSum_11 ) kf7_ kf8_ h3_ (Nat.lt_succ_self _)
theorem lf_c_X4_readComparisons_0  (r14_ : Int32) (h24_ : r14_.toInt = 60) : -2147483648 ≤ 2000 + r14_.toInt ∧ 2000 + r14_.toInt < 2147483648 := by have r_r14_ := rngI r14_; omega
theorem lf_c_X4_readComparisons_1  (v1_6 : Int32) (hv0_6 : 0 ≤ v1_6.toInt) (hv1_6 : v1_6.toInt ≤ 48) (h10_ : v1_6.toInt < 48) : -2147483648 ≤ v1_6.toInt + 1 ∧ v1_6.toInt + 1 < 2147483648 := by have r_v1_6 := rngI v1_6; omega
theorem lf_c_X4_readComparisons_2  (v1_6 : Int32) (z54_ : Int32) (hv0_6 : 0 ≤ v1_6.toInt) (hv1_6 : v1_6.toInt ≤ 48) (h10_ : v1_6.toInt < 48) (h55_ : z54_.toInt = v1_6.toInt + 1) : 0 ≤ z54_.toInt := by have r_v1_6 := rngI v1_6; have r_z54_ := rngI z54_; omega
theorem lf_c_X4_readComparisons_3  (v1_6 : Int32) (z54_ : Int32) (hv0_6 : 0 ≤ v1_6.toInt) (hv1_6 : v1_6.toInt ≤ 48) (h10_ : v1_6.toInt < 48) (h55_ : z54_.toInt = v1_6.toInt + 1) : z54_.toInt ≤ 48 := by have r_v1_6 := rngI v1_6; have r_z54_ := rngI z54_; omega
theorem lf_c_X4_readComparisons_4  (v1_6 : Int32) (z54_ : Int32) (hv0_6 : 0 ≤ v1_6.toInt) (hv1_6 : v1_6.toInt ≤ 48) (h10_ : v1_6.toInt < 48) (h55_ : z54_.toInt = v1_6.toInt + 1) : (2147483648 - z54_.toInt).toNat < (2147483648 - v1_6.toInt).toNat := by have r_v1_6 := rngI v1_6; have r_z54_ := rngI z54_; omega
theorem lf_c_X4_readComparisons_5  (r14_ : Int32) (h24_ : ¬ r14_.toInt = 60) (h56_ : r14_.toInt = 61) : -2147483648 ≤ 2000 + r14_.toInt ∧ 2000 + r14_.toInt < 2147483648 := by have r_r14_ := rngI r14_; omega
theorem lf_c_X4_readComparisons_6  (v1_6 : Int32) (hv0_6 : 0 ≤ v1_6.toInt) (hv1_6 : v1_6.toInt ≤ 48) (h10_ : v1_6.toInt < 48) : -2147483648 ≤ v1_6.toInt + 1 ∧ v1_6.toInt + 1 < 2147483648 := by have r_v1_6 := rngI v1_6; omega
theorem lf_c_X4_readComparisons_7  (v1_6 : Int32) (z86_ : Int32) (hv0_6 : 0 ≤ v1_6.toInt) (hv1_6 : v1_6.toInt ≤ 48) (h10_ : v1_6.toInt < 48) (h87_ : z86_.toInt = v1_6.toInt + 1) : 0 ≤ z86_.toInt := by have r_v1_6 := rngI v1_6; have r_z86_ := rngI z86_; omega
theorem lf_c_X4_readComparisons_8  (v1_6 : Int32) (z86_ : Int32) (hv0_6 : 0 ≤ v1_6.toInt) (hv1_6 : v1_6.toInt ≤ 48) (h10_ : v1_6.toInt < 48) (h87_ : z86_.toInt = v1_6.toInt + 1) : z86_.toInt ≤ 48 := by have r_v1_6 := rngI v1_6; have r_z86_ := rngI z86_; omega
theorem lf_c_X4_readComparisons_9  (v1_6 : Int32) (z86_ : Int32) (hv0_6 : 0 ≤ v1_6.toInt) (hv1_6 : v1_6.toInt ≤ 48) (h10_ : v1_6.toInt < 48) (h87_ : z86_.toInt = v1_6.toInt + 1) : (2147483648 - z86_.toInt).toNat < (2147483648 - v1_6.toInt).toNat := by have r_v1_6 := rngI v1_6; have r_z86_ := rngI z86_; omega
theorem lf_c_X4_readComparisons_10  (r14_ : Int32) (h24_ : ¬ r14_.toInt = 60) (h56_ : ¬ r14_.toInt = 61) (h88_ : r14_.toInt = 62) : -2147483648 ≤ 2000 + r14_.toInt ∧ 2000 + r14_.toInt < 2147483648 := by have r_r14_ := rngI r14_; omega
theorem lf_c_X4_readComparisons_11  (v1_6 : Int32) (hv0_6 : 0 ≤ v1_6.toInt) (hv1_6 : v1_6.toInt ≤ 48) (h10_ : v1_6.toInt < 48) : -2147483648 ≤ v1_6.toInt + 1 ∧ v1_6.toInt + 1 < 2147483648 := by have r_v1_6 := rngI v1_6; omega
theorem lf_c_X4_readComparisons_12  (v1_6 : Int32) (z118_ : Int32) (hv0_6 : 0 ≤ v1_6.toInt) (hv1_6 : v1_6.toInt ≤ 48) (h10_ : v1_6.toInt < 48) (h119_ : z118_.toInt = v1_6.toInt + 1) : 0 ≤ z118_.toInt := by have r_v1_6 := rngI v1_6; have r_z118_ := rngI z118_; omega
theorem lf_c_X4_readComparisons_13  (v1_6 : Int32) (z118_ : Int32) (hv0_6 : 0 ≤ v1_6.toInt) (hv1_6 : v1_6.toInt ≤ 48) (h10_ : v1_6.toInt < 48) (h119_ : z118_.toInt = v1_6.toInt + 1) : z118_.toInt ≤ 48 := by have r_v1_6 := rngI v1_6; have r_z118_ := rngI z118_; omega
theorem lf_c_X4_readComparisons_14  (v1_6 : Int32) (z118_ : Int32) (hv0_6 : 0 ≤ v1_6.toInt) (hv1_6 : v1_6.toInt ≤ 48) (h10_ : v1_6.toInt < 48) (h119_ : z118_.toInt = v1_6.toInt + 1) : (2147483648 - z118_.toInt).toNat < (2147483648 - v1_6.toInt).toNat := by have r_v1_6 := rngI v1_6; have r_z118_ := rngI z118_; omega
theorem lf_c_X4_readComparisons_15    : 0 ≤ (0 : Int32).toInt := by have q0 := li_0; omega
theorem lf_c_X4_readComparisons_16    : (0 : Int32).toInt ≤ 48 := by have q0 := li_0; omega
set_option maxHeartbeats 4000000 in
set_option maxRecDepth 100000 in
theorem c_X4_readComparisons (l : Launch) (G : va_G) (cy : Nat → ClassId) (ad : rf → Nat) (d : Nat) (N : Nat) (m : Nat) (Mz : mM) (hIz : Inv Mz) (hA : ∀ k : Nat, k + 1 = m → ONEC l G cy ad N k) (hB : ∀ k : Nat, k + 1 = m → CMPC l G cy ad N k) (hT : Mz.1 (4, 0, 0) 1 = 1) (hN : Mz.1 (4, 0, 0) 2 = 1 ∨ Mz.1 (4, 0, 0) 2 = 2 ∨ Mz.1 (4, 0, 0) 2 = 3) (hk : (Mz.1 (4, 0, 0) 5).toInt + ((m : Nat) : Int) = 5) (hm : m ≤ 5) : WP CC l G cy ad yX4_readComparisons cX4_readComparisons 3 none ((N + d) + 12) 0 [(0, vR (4, 0, 0))] [] Mz (fun r M' => Inv M' ∧ FR (S_reader) Mz M' ∧ (M'.1 (4, 0, 0) 5).toInt + ((m : Nat) : Int) = 5) := by
  have hFz : FR (S_reader) Mz Mz := FR.self
  refine w_aload_n dX4_readComparisons_0 rfl 0 rfl ?_
  refine w_callVv (as := []) (rest := []) (c_X4_readSum l G cy ad d N m Mz hIz hA hB hT hN hk hm) kV_X4_readSum (by decide +kernel) (Nat.le_of_ble_eq_true rfl) m_696 rfl rfl rfl ic_4 rfl rfl (by decide) (Nat.le_of_ble_eq_true rfl) dX4_readComparisons_1 (fun M1_ q2_ => ?_)
  obtain ⟨hI4_, hF5_, h3_⟩ := q2_
  have hF6_ := hFz.tr hF5_ (fun c k => (fun h => h.elim (fun h => (Or.inl ⟨h.1, h.2.1, h.2.2⟩)) (fun h => h.elim (fun h => (Or.inr (Or.inl ⟨h.1, h.2.1, h.2.2⟩))) (fun h => h.elim (fun h => (Or.inr (Or.inr (Or.inl ⟨h.1, h.2.1, h.2.2⟩)))) (fun h => h.elim (fun h => (Or.inr (Or.inr (Or.inr (Or.inl ⟨h.1, h.2.1, h.2.2⟩))))) (fun h => h.elim (fun h => (Or.inr (Or.inr (Or.inr (Or.inr (Or.inl ⟨h.1, h.2.1, h.2.2.1, h.2.2.2⟩)))))) (fun h => h.elim (fun h => (Or.inr (Or.inr (Or.inr (Or.inr (Or.inr (Or.inl ⟨h.1, h.2.1, h.2.2⟩))))))) (fun h => h.elim))))))))
  have kf7_ : M1_.1 (4, 0, 0) 1 = 1 := by rw [(hF5_ (4, 0, 0) 1 (by simp [S_reader]))]; exact hT
  have kf8_ : M1_.1 (4, 0, 0) 2 = 1 ∨ M1_.1 (4, 0, 0) 2 = 2 ∨ M1_.1 (4, 0, 0) 2 = 3 := by rw [(hF5_ (4, 0, 0) 2 (by simp [S_reader]))]; exact hN
  refine w_iconst (v := 0) dX4_readComparisons_4 (by decide) ?_
  refine w_istore_n (ls' := [(1, vI 0), (0, vR (4, 0, 0))]) dX4_readComparisons_5 rfl (by decide) rfl ?_
  have lp9_ : ∀ (nn_6 : Nat) (M_6 : mM) (hI_6 : Inv M_6) (hF_6 : FR (S_reader) Mz M_6) (v1_6 : Int32) (hv0_6 : 0 ≤ v1_6.toInt) (hv1_6 : v1_6.toInt ≤ 48) (kv0_6 : M_6.1 (4, 0, 0) 1 = 1) (kv1_6 : M_6.1 (4, 0, 0) 2 = 1 ∨ M_6.1 (4, 0, 0) 2 = 2 ∨ M_6.1 (4, 0, 0) 2 = 3) (kv2_6 : (M_6.1 (4, 0, 0) 5).toInt + ((m : Nat) : Int) = 5), (2147483648 - v1_6.toInt).toNat < nn_6 → WP CC l G cy ad yX4_readComparisons cX4_readComparisons 3 none ((N + d) + 12) 6 [(1, vI v1_6), (0, vR (4, 0, 0))] [] M_6 (fun r M' => Inv M' ∧ FR (S_reader) Mz M' ∧ (M'.1 (4, 0, 0) 5).toInt + ((m : Nat) : Int) = 5) := by
    intro nn_6
    induction nn_6 with
    | zero => intro M_6 hI_6 hF_6 v1_6 hv0_6 hv1_6 kv0_6 kv1_6 kv2_6 hm_6; exact absurd hm_6 (Nat.not_lt_zero _)
    | succ nn_6 ih_6 =>
      intro M_6 hI_6 hF_6 v1_6 hv0_6 hv1_6 kv0_6 kv1_6 kv2_6 hm_6
      refine w_iload_n dX4_readComparisons_6 rfl 0 rfl ?_
      refine w_bipush (v := 48) dX4_readComparisons_7 (by decide) ?_
      refine w_icmp_ge (tgt := 75) dX4_readComparisons_9 (by decide) (rfl : v1_6.toInt = v1_6.toInt) li_48 (fun h10_ => ?_) (fun h10_ => ?_)
      · exact w_vret rfl dX4_readComparisons_75 ⟨hI_6, hF_6, kv2_6⟩
      · refine w_aload_n dX4_readComparisons_12 rfl 1 rfl ?_
        refine w_getI fl_RX4_35 rfl rfl ic_4 dX4_readComparisons_13 (fun z11_ e12_ => ?_)
        refine w_if_ge (tgt := 75) dX4_readComparisons_16 (by decide) (rfl : z11_.toInt = z11_.toInt) (fun h13_ => ?_) (fun h13_ => ?_)
        · exact w_vret rfl dX4_readComparisons_75 ⟨hI_6, hF_6, kv2_6⟩
        · refine w_aload_n dX4_readComparisons_19 rfl 1 rfl ?_
          refine w_callV (as := []) (rest := []) (c_X4_next l G cy ad ((N + d) + 10) M_6 hI_6 kv0_6) kV_X4_next (by decide +kernel) (Nat.le_of_ble_eq_true rfl) m_708 rfl rfl rfl ic_4 rfl rfl (by decide) (Nat.le_of_ble_eq_true rfl) dX4_readComparisons_20 (fun r14_ M15_ q16_ => ?_)
          obtain ⟨hI18_, hF19_, h17_⟩ := q16_
          have hF20_ := hF_6.tr hF19_ (fun c k => (fun h => h.elim (fun h => (Or.inl ⟨h.1, h.2.1, h.2.2⟩)) (fun h => h.elim)))
          have kf21_ : M15_.1 (4, 0, 0) 1 = 1 := by rw [(hF19_ (4, 0, 0) 1 (by simp [S_c_X4_next]))]; exact kv0_6
          have kf22_ : M15_.1 (4, 0, 0) 2 = 1 ∨ M15_.1 (4, 0, 0) 2 = 2 ∨ M15_.1 (4, 0, 0) 2 = 3 := by rw [(hF19_ (4, 0, 0) 2 (by simp [S_c_X4_next]))]; exact kv1_6
          have kf23_ : (M15_.1 (4, 0, 0) 5).toInt + ((m : Nat) : Int) = 5 := by rw [(hF19_ (4, 0, 0) 5 (by simp [S_c_X4_next]))]; exact kv2_6
          refine w_istore_n (ls' := [(2, vI r14_), (1, vI v1_6), (0, vR (4, 0, 0))]) dX4_readComparisons_23 rfl (by decide) rfl ?_
          refine w_iload_n dX4_readComparisons_24 rfl 0 rfl ?_
          refine w_bipush (v := 60) dX4_readComparisons_25 (by decide) ?_
          refine w_icmp_eq (tgt := 43) dX4_readComparisons_27 (by decide) (rfl : r14_.toInt = r14_.toInt) li_60 (fun h24_ => ?_) (fun h24_ => ?_)
          · refine w_aload_n dX4_readComparisons_43 rfl 2 rfl ?_
            refine w_dup dX4_readComparisons_44 rfl ?_
            refine w_getI fl_RX4_31 rfl rfl ic_4 dX4_readComparisons_45 (fun z25_ e26_ => ?_)
            refine w_iconst (v := 1) dX4_readComparisons_48 (by decide) ?_
            refine w_iadd dX4_readComparisons_49 (fun z27_ _ => ?_)
            refine w_putI CC_nd fl_RX4_31 rfl rfl ic_4 dX4_readComparisons_50 (fun M28_ hM29_ => ?_)
            have hI30_ := hI18_.put hM29_ trivial
            have hF31_ := hF20_.put hM29_ (Or.inl ⟨rfl, rfl, rfl⟩)
            have kf32_ : M28_.1 (4, 0, 0) 1 = 1 := by rw [(show M28_.1 (4, 0, 0) 1 = M15_.1 (4, 0, 0) 1 by rw [hM29_, up_ne (by simp)])]; exact kf21_
            have kf33_ : M28_.1 (4, 0, 0) 2 = 1 ∨ M28_.1 (4, 0, 0) 2 = 2 ∨ M28_.1 (4, 0, 0) 2 = 3 := by rw [(show M28_.1 (4, 0, 0) 2 = M15_.1 (4, 0, 0) 2 by rw [hM29_, up_ne (by simp)])]; exact kf22_
            have kf34_ : (M28_.1 (4, 0, 0) 5).toInt + ((m : Nat) : Int) = 5 := by rw [(show M28_.1 (4, 0, 0) 5 = M15_.1 (4, 0, 0) 5 by rw [hM29_, up_ne (by simp)])]; exact kf23_
            refine w_aload_n dX4_readComparisons_53 rfl 2 rfl ?_
            refine w_callVv (as := []) (rest := []) (c_X4_readSum l G cy ad d N m M28_ hI30_ hA hB kf32_ kf33_ kf34_ hm) kV_X4_readSum (by decide +kernel) (Nat.le_of_ble_eq_true rfl) m_696 rfl rfl rfl ic_4 rfl rfl (by decide) (Nat.le_of_ble_eq_true rfl) dX4_readComparisons_54 (fun M35_ q36_ => ?_)
            obtain ⟨hI38_, hF39_, h37_⟩ := q36_
            have hF40_ := hF31_.tr hF39_ (fun c k => (fun h => h.elim (fun h => (Or.inl ⟨h.1, h.2.1, h.2.2⟩)) (fun h => h.elim (fun h => (Or.inr (Or.inl ⟨h.1, h.2.1, h.2.2⟩))) (fun h => h.elim (fun h => (Or.inr (Or.inr (Or.inl ⟨h.1, h.2.1, h.2.2⟩)))) (fun h => h.elim (fun h => (Or.inr (Or.inr (Or.inr (Or.inl ⟨h.1, h.2.1, h.2.2⟩))))) (fun h => h.elim (fun h => (Or.inr (Or.inr (Or.inr (Or.inr (Or.inl ⟨h.1, h.2.1, h.2.2.1, h.2.2.2⟩)))))) (fun h => h.elim (fun h => (Or.inr (Or.inr (Or.inr (Or.inr (Or.inr (Or.inl ⟨h.1, h.2.1, h.2.2⟩))))))) (fun h => h.elim))))))))
            have kf41_ : M35_.1 (4, 0, 0) 1 = 1 := by rw [(hF39_ (4, 0, 0) 1 (by simp [S_reader]))]; exact kf32_
            have kf42_ : M35_.1 (4, 0, 0) 2 = 1 ∨ M35_.1 (4, 0, 0) 2 = 2 ∨ M35_.1 (4, 0, 0) 2 = 3 := by rw [(hF39_ (4, 0, 0) 2 (by simp [S_reader]))]; exact kf33_
            refine w_aload_n dX4_readComparisons_57 rfl 2 rfl ?_
            refine w_getR (c' := (1, 3, 0)) fl_RX4_10 rfl rfl ic_4 dX4_readComparisons_58 rfl ?_
            refine w_sipush (v := 2000) dX4_readComparisons_61 (by decide) ?_
            refine w_iload_n dX4_readComparisons_64 rfl 0 rfl ?_
            refine w_iaddB dX4_readComparisons_65 li_2000 (rfl : r14_.toInt = r14_.toInt) (lf_c_X4_readComparisons_0 r14_ h24_) (fun z43_ h44_ => ?_)
            refine w_callVv (as := [vI z43_]) (rest := []) (c_X1_add l G cy ad ((N + d) + 11) 3 0 z43_ M35_ hI38_ (by first | decide | (unfold vF; omega) | (unfold vRw; omega))) kV_X1_add (by decide +kernel) (Nat.le_of_ble_eq_true rfl) m_720 rfl rfl rfl (ic_1 (by unfold vF; omega)) rfl rfl (by decide) (Nat.le_of_ble_eq_true rfl) dX4_readComparisons_66 (fun M45_ q46_ => ?_)
            obtain ⟨hI48_, hF49_, h47_⟩ := q46_
            have hF50_ := hF40_.tr hF49_ (fun c k => (fun h => h.elim (fun h => (Or.inr (Or.inr (Or.inr (Or.inr (Or.inr (Or.inl ⟨h.1, h.2.1, h.2.2⟩))))))) (fun h => h.elim (fun h => (Or.inr (Or.inr (Or.inr (Or.inr (Or.inl ⟨h.1, h.2.1, h.2.2.1, h.2.2.2⟩)))))) (fun h => h.elim))))
            have kf51_ : M45_.1 (4, 0, 0) 1 = 1 := by rw [(hF49_ (4, 0, 0) 1 (by simp [S_c_X1_add]))]; exact kf41_
            have kf52_ : M45_.1 (4, 0, 0) 2 = 1 ∨ M45_.1 (4, 0, 0) 2 = 2 ∨ M45_.1 (4, 0, 0) 2 = 3 := by rw [(hF49_ (4, 0, 0) 2 (by simp [S_c_X1_add]))]; exact kf42_
            have kf53_ : (M45_.1 (4, 0, 0) 5).toInt + ((m : Nat) : Int) = 5 := by rw [(hF49_ (4, 0, 0) 5 (by simp [S_c_X1_add]))]; exact h37_
            refine w_iincB (j := 1) (f := fun z54_ => [(1, vI z54_), (2, vI r14_), (0, vR (4, 0, 0))]) dX4_readComparisons_69 rfl (by decide) (fun _ => rfl) (rfl : v1_6.toInt = v1_6.toInt) li_1 (lf_c_X4_readComparisons_1 v1_6 hv0_6 hv1_6 h10_) (fun z54_ h55_ => ?_)
            refine w_goto (tgt := 6) dX4_readComparisons_72 (by decide) ?_
            refine w_loc (ls' := [(1, vI z54_), (0, vR (4, 0, 0))]) [0, 2] rfl ?_
            exact ih_6 M45_ hI48_ hF50_ z54_ (lf_c_X4_readComparisons_2 v1_6 z54_ hv0_6 hv1_6 h10_ h55_) (lf_c_X4_readComparisons_3 v1_6 z54_ hv0_6 hv1_6 h10_ h55_) kf51_ kf52_ kf53_ (Nat.lt_of_lt_of_le (lf_c_X4_readComparisons_4 v1_6 z54_ hv0_6 hv1_6 h10_ h55_) (Nat.le_of_lt_succ hm_6))
          · refine w_iload_n dX4_readComparisons_30 rfl 0 rfl ?_
            refine w_bipush (v := 61) dX4_readComparisons_31 (by decide) ?_
            refine w_icmp_eq (tgt := 43) dX4_readComparisons_33 (by decide) (rfl : r14_.toInt = r14_.toInt) li_61 (fun h56_ => ?_) (fun h56_ => ?_)
            · refine w_aload_n dX4_readComparisons_43 rfl 2 rfl ?_
              refine w_dup dX4_readComparisons_44 rfl ?_
              refine w_getI fl_RX4_31 rfl rfl ic_4 dX4_readComparisons_45 (fun z57_ e58_ => ?_)
              refine w_iconst (v := 1) dX4_readComparisons_48 (by decide) ?_
              refine w_iadd dX4_readComparisons_49 (fun z59_ _ => ?_)
              refine w_putI CC_nd fl_RX4_31 rfl rfl ic_4 dX4_readComparisons_50 (fun M60_ hM61_ => ?_)
              have hI62_ := hI18_.put hM61_ trivial
              have hF63_ := hF20_.put hM61_ (Or.inl ⟨rfl, rfl, rfl⟩)
              have kf64_ : M60_.1 (4, 0, 0) 1 = 1 := by rw [(show M60_.1 (4, 0, 0) 1 = M15_.1 (4, 0, 0) 1 by rw [hM61_, up_ne (by simp)])]; exact kf21_
              have kf65_ : M60_.1 (4, 0, 0) 2 = 1 ∨ M60_.1 (4, 0, 0) 2 = 2 ∨ M60_.1 (4, 0, 0) 2 = 3 := by rw [(show M60_.1 (4, 0, 0) 2 = M15_.1 (4, 0, 0) 2 by rw [hM61_, up_ne (by simp)])]; exact kf22_
              have kf66_ : (M60_.1 (4, 0, 0) 5).toInt + ((m : Nat) : Int) = 5 := by rw [(show M60_.1 (4, 0, 0) 5 = M15_.1 (4, 0, 0) 5 by rw [hM61_, up_ne (by simp)])]; exact kf23_
              refine w_aload_n dX4_readComparisons_53 rfl 2 rfl ?_
              refine w_callVv (as := []) (rest := []) (c_X4_readSum l G cy ad d N m M60_ hI62_ hA hB kf64_ kf65_ kf66_ hm) kV_X4_readSum (by decide +kernel) (Nat.le_of_ble_eq_true rfl) m_696 rfl rfl rfl ic_4 rfl rfl (by decide) (Nat.le_of_ble_eq_true rfl) dX4_readComparisons_54 (fun M67_ q68_ => ?_)
              obtain ⟨hI70_, hF71_, h69_⟩ := q68_
              have hF72_ := hF63_.tr hF71_ (fun c k => (fun h => h.elim (fun h => (Or.inl ⟨h.1, h.2.1, h.2.2⟩)) (fun h => h.elim (fun h => (Or.inr (Or.inl ⟨h.1, h.2.1, h.2.2⟩))) (fun h => h.elim (fun h => (Or.inr (Or.inr (Or.inl ⟨h.1, h.2.1, h.2.2⟩)))) (fun h => h.elim (fun h => (Or.inr (Or.inr (Or.inr (Or.inl ⟨h.1, h.2.1, h.2.2⟩))))) (fun h => h.elim (fun h => (Or.inr (Or.inr (Or.inr (Or.inr (Or.inl ⟨h.1, h.2.1, h.2.2.1, h.2.2.2⟩)))))) (fun h => h.elim (fun h => (Or.inr (Or.inr (Or.inr (Or.inr (Or.inr (Or.inl ⟨h.1, h.2.1, h.2.2⟩))))))) (fun h => h.elim))))))))
              have kf73_ : M67_.1 (4, 0, 0) 1 = 1 := by rw [(hF71_ (4, 0, 0) 1 (by simp [S_reader]))]; exact kf64_
              have kf74_ : M67_.1 (4, 0, 0) 2 = 1 ∨ M67_.1 (4, 0, 0) 2 = 2 ∨ M67_.1 (4, 0, 0) 2 = 3 := by rw [(hF71_ (4, 0, 0) 2 (by simp [S_reader]))]; exact kf65_
              refine w_aload_n dX4_readComparisons_57 rfl 2 rfl ?_
              refine w_getR (c' := (1, 3, 0)) fl_RX4_10 rfl rfl ic_4 dX4_readComparisons_58 rfl ?_
              refine w_sipush (v := 2000) dX4_readComparisons_61 (by decide) ?_
              refine w_iload_n dX4_readComparisons_64 rfl 0 rfl ?_
              refine w_iaddB dX4_readComparisons_65 li_2000 (rfl : r14_.toInt = r14_.toInt) (lf_c_X4_readComparisons_5 r14_ h24_ h56_) (fun z75_ h76_ => ?_)
              refine w_callVv (as := [vI z75_]) (rest := []) (c_X1_add l G cy ad ((N + d) + 11) 3 0 z75_ M67_ hI70_ (by first | decide | (unfold vF; omega) | (unfold vRw; omega))) kV_X1_add (by decide +kernel) (Nat.le_of_ble_eq_true rfl) m_720 rfl rfl rfl (ic_1 (by unfold vF; omega)) rfl rfl (by decide) (Nat.le_of_ble_eq_true rfl) dX4_readComparisons_66 (fun M77_ q78_ => ?_)
              obtain ⟨hI80_, hF81_, h79_⟩ := q78_
              have hF82_ := hF72_.tr hF81_ (fun c k => (fun h => h.elim (fun h => (Or.inr (Or.inr (Or.inr (Or.inr (Or.inr (Or.inl ⟨h.1, h.2.1, h.2.2⟩))))))) (fun h => h.elim (fun h => (Or.inr (Or.inr (Or.inr (Or.inr (Or.inl ⟨h.1, h.2.1, h.2.2.1, h.2.2.2⟩)))))) (fun h => h.elim))))
              have kf83_ : M77_.1 (4, 0, 0) 1 = 1 := by rw [(hF81_ (4, 0, 0) 1 (by simp [S_c_X1_add]))]; exact kf73_
              have kf84_ : M77_.1 (4, 0, 0) 2 = 1 ∨ M77_.1 (4, 0, 0) 2 = 2 ∨ M77_.1 (4, 0, 0) 2 = 3 := by rw [(hF81_ (4, 0, 0) 2 (by simp [S_c_X1_add]))]; exact kf74_
              have kf85_ : (M77_.1 (4, 0, 0) 5).toInt + ((m : Nat) : Int) = 5 := by rw [(hF81_ (4, 0, 0) 5 (by simp [S_c_X1_add]))]; exact h69_
              refine w_iincB (j := 1) (f := fun z86_ => [(1, vI z86_), (2, vI r14_), (0, vR (4, 0, 0))]) dX4_readComparisons_69 rfl (by decide) (fun _ => rfl) (rfl : v1_6.toInt = v1_6.toInt) li_1 (lf_c_X4_readComparisons_6 v1_6 hv0_6 hv1_6 h10_) (fun z86_ h87_ => ?_)
              refine w_goto (tgt := 6) dX4_readComparisons_72 (by decide) ?_
              refine w_loc (ls' := [(1, vI z86_), (0, vR (4, 0, 0))]) [0, 2] rfl ?_
              exact ih_6 M77_ hI80_ hF82_ z86_ (lf_c_X4_readComparisons_7 v1_6 z86_ hv0_6 hv1_6 h10_ h87_) (lf_c_X4_readComparisons_8 v1_6 z86_ hv0_6 hv1_6 h10_ h87_) kf83_ kf84_ kf85_ (Nat.lt_of_lt_of_le (lf_c_X4_readComparisons_9 v1_6 z86_ hv0_6 hv1_6 h10_ h87_) (Nat.le_of_lt_succ hm_6))
            · refine w_iload_n dX4_readComparisons_36 rfl 0 rfl ?_
              refine w_bipush (v := 62) dX4_readComparisons_37 (by decide) ?_
              refine w_icmp_eq (tgt := 43) dX4_readComparisons_39 (by decide) (rfl : r14_.toInt = r14_.toInt) li_62 (fun h88_ => ?_) (fun h88_ => ?_)
              · refine w_aload_n dX4_readComparisons_43 rfl 2 rfl ?_
                refine w_dup dX4_readComparisons_44 rfl ?_
                refine w_getI fl_RX4_31 rfl rfl ic_4 dX4_readComparisons_45 (fun z89_ e90_ => ?_)
                refine w_iconst (v := 1) dX4_readComparisons_48 (by decide) ?_
                refine w_iadd dX4_readComparisons_49 (fun z91_ _ => ?_)
                refine w_putI CC_nd fl_RX4_31 rfl rfl ic_4 dX4_readComparisons_50 (fun M92_ hM93_ => ?_)
                have hI94_ := hI18_.put hM93_ trivial
                have hF95_ := hF20_.put hM93_ (Or.inl ⟨rfl, rfl, rfl⟩)
                have kf96_ : M92_.1 (4, 0, 0) 1 = 1 := by rw [(show M92_.1 (4, 0, 0) 1 = M15_.1 (4, 0, 0) 1 by rw [hM93_, up_ne (by simp)])]; exact kf21_
                have kf97_ : M92_.1 (4, 0, 0) 2 = 1 ∨ M92_.1 (4, 0, 0) 2 = 2 ∨ M92_.1 (4, 0, 0) 2 = 3 := by rw [(show M92_.1 (4, 0, 0) 2 = M15_.1 (4, 0, 0) 2 by rw [hM93_, up_ne (by simp)])]; exact kf22_
                have kf98_ : (M92_.1 (4, 0, 0) 5).toInt + ((m : Nat) : Int) = 5 := by rw [(show M92_.1 (4, 0, 0) 5 = M15_.1 (4, 0, 0) 5 by rw [hM93_, up_ne (by simp)])]; exact kf23_
                refine w_aload_n dX4_readComparisons_53 rfl 2 rfl ?_
                refine w_callVv (as := []) (rest := []) (c_X4_readSum l G cy ad d N m M92_ hI94_ hA hB kf96_ kf97_ kf98_ hm) kV_X4_readSum (by decide +kernel) (Nat.le_of_ble_eq_true rfl) m_696 rfl rfl rfl ic_4 rfl rfl (by decide) (Nat.le_of_ble_eq_true rfl) dX4_readComparisons_54 (fun M99_ q100_ => ?_)
                obtain ⟨hI102_, hF103_, h101_⟩ := q100_
                have hF104_ := hF95_.tr hF103_ (fun c k => (fun h => h.elim (fun h => (Or.inl ⟨h.1, h.2.1, h.2.2⟩)) (fun h => h.elim (fun h => (Or.inr (Or.inl ⟨h.1, h.2.1, h.2.2⟩))) (fun h => h.elim (fun h => (Or.inr (Or.inr (Or.inl ⟨h.1, h.2.1, h.2.2⟩)))) (fun h => h.elim (fun h => (Or.inr (Or.inr (Or.inr (Or.inl ⟨h.1, h.2.1, h.2.2⟩))))) (fun h => h.elim (fun h => (Or.inr (Or.inr (Or.inr (Or.inr (Or.inl ⟨h.1, h.2.1, h.2.2.1, h.2.2.2⟩)))))) (fun h => h.elim (fun h => (Or.inr (Or.inr (Or.inr (Or.inr (Or.inr (Or.inl ⟨h.1, h.2.1, h.2.2⟩))))))) (fun h => h.elim))))))))
                have kf105_ : M99_.1 (4, 0, 0) 1 = 1 := by rw [(hF103_ (4, 0, 0) 1 (by simp [S_reader]))]; exact kf96_
                have kf106_ : M99_.1 (4, 0, 0) 2 = 1 ∨ M99_.1 (4, 0, 0) 2 = 2 ∨ M99_.1 (4, 0, 0) 2 = 3 := by rw [(hF103_ (4, 0, 0) 2 (by simp [S_reader]))]; exact kf97_
                refine w_aload_n dX4_readComparisons_57 rfl 2 rfl ?_
                refine w_getR (c' := (1, 3, 0)) fl_RX4_10 rfl rfl ic_4 dX4_readComparisons_58 rfl ?_
                refine w_sipush (v := 2000) dX4_readComparisons_61 (by decide) ?_
                refine w_iload_n dX4_readComparisons_64 rfl 0 rfl ?_
                refine w_iaddB dX4_readComparisons_65 li_2000 (rfl : r14_.toInt = r14_.toInt) (lf_c_X4_readComparisons_10 r14_ h24_ h56_ h88_) (fun z107_ h108_ => ?_)
                refine w_callVv (as := [vI z107_]) (rest := []) (c_X1_add l G cy ad ((N + d) + 11) 3 0 z107_ M99_ hI102_ (by first | decide | (unfold vF; omega) | (unfold vRw; omega))) kV_X1_add (by decide +kernel) (Nat.le_of_ble_eq_true rfl) m_720 rfl rfl rfl (ic_1 (by unfold vF; omega)) rfl rfl (by decide) (Nat.le_of_ble_eq_true rfl) dX4_readComparisons_66 (fun M109_ q110_ => ?_)
                obtain ⟨hI112_, hF113_, h111_⟩ := q110_
                have hF114_ := hF104_.tr hF113_ (fun c k => (fun h => h.elim (fun h => (Or.inr (Or.inr (Or.inr (Or.inr (Or.inr (Or.inl ⟨h.1, h.2.1, h.2.2⟩))))))) (fun h => h.elim (fun h => (Or.inr (Or.inr (Or.inr (Or.inr (Or.inl ⟨h.1, h.2.1, h.2.2.1, h.2.2.2⟩)))))) (fun h => h.elim))))
                have kf115_ : M109_.1 (4, 0, 0) 1 = 1 := by rw [(hF113_ (4, 0, 0) 1 (by simp [S_c_X1_add]))]; exact kf105_
                have kf116_ : M109_.1 (4, 0, 0) 2 = 1 ∨ M109_.1 (4, 0, 0) 2 = 2 ∨ M109_.1 (4, 0, 0) 2 = 3 := by rw [(hF113_ (4, 0, 0) 2 (by simp [S_c_X1_add]))]; exact kf106_
                have kf117_ : (M109_.1 (4, 0, 0) 5).toInt + ((m : Nat) : Int) = 5 := by rw [(hF113_ (4, 0, 0) 5 (by simp [S_c_X1_add]))]; exact h101_
                refine w_iincB (j := 1) (f := fun z118_ => [(1, vI z118_), (2, vI r14_), (0, vR (4, 0, 0))]) dX4_readComparisons_69 rfl (by decide) (fun _ => rfl) (rfl : v1_6.toInt = v1_6.toInt) li_1 (lf_c_X4_readComparisons_11 v1_6 hv0_6 hv1_6 h10_) (fun z118_ h119_ => ?_)
                refine w_goto (tgt := 6) dX4_readComparisons_72 (by decide) ?_
                refine w_loc (ls' := [(1, vI z118_), (0, vR (4, 0, 0))]) [0, 2] rfl ?_
                exact ih_6 M109_ hI112_ hF114_ z118_ (lf_c_X4_readComparisons_12 v1_6 z118_ hv0_6 hv1_6 h10_ h119_) (lf_c_X4_readComparisons_13 v1_6 z118_ hv0_6 hv1_6 h10_ h119_) kf115_ kf116_ kf117_ (Nat.lt_of_lt_of_le (lf_c_X4_readComparisons_14 v1_6 z118_ hv0_6 hv1_6 h10_ h119_) (Nat.le_of_lt_succ hm_6))
              · exact w_vret rfl dX4_readComparisons_42 ⟨hI18_, hF20_, kf23_⟩
  exact lp9_ _ M1_ hI4_ hF6_ 0 (lf_c_X4_readComparisons_15 ) (lf_c_X4_readComparisons_16 ) kf7_ kf8_ h3_ (Nat.lt_succ_self _)
theorem reader_rec (l : Launch) (G : va_G) (cy : Nat → ClassId) (ad : rf → Nat) : ∀ m, ONEC l G cy ad (12 * m + 12) m ∧ CMPC l G cy ad (12 * m + 12) m := by
  intro m
  induction m with
  | zero => exact ⟨fun d Mz hIz hT hN hk hm => w_dep (by omega) (c_X4_readOne l G cy ad (d + 3) 0 0 Mz hIz (fun k q => absurd q (by omega)) (fun k q => absurd q (by omega)) hT hN hk hm), fun d Mz hIz hT hN hk hm => w_dep (by omega) (c_X4_readComparisons l G cy ad d 0 0 Mz hIz (fun k q => absurd q (by omega)) (fun k q => absurd q (by omega)) hT hN hk hm)⟩
  | succ m ih =>
    have h1 : ∀ k : Nat, k + 1 = m + 1 → ONEC l G cy ad (12 * m + 12) k := fun k q => by
      obtain rfl : k = m := by omega
      exact ih.1
    have h2 : ∀ k : Nat, k + 1 = m + 1 → CMPC l G cy ad (12 * m + 12) k := fun k q => by
      obtain rfl : k = m := by omega
      exact ih.2
    exact ⟨fun d Mz hIz hT hN hk hm => w_dep (by omega) (c_X4_readOne l G cy ad (d + 3) (12 * m + 12) (m + 1) Mz hIz h1 h2 hT hN hk hm), fun d Mz hIz hT hN hk hm => w_dep (by omega) (c_X4_readComparisons l G cy ad d (12 * m + 12) (m + 1) Mz hIz h1 h2 hT hN hk hm)⟩
theorem c_X4_cmp5 (l : Launch) (G : va_G) (cy : Nat → ClassId) (ad : rf → Nat) (d : Nat) (Mz : mM) (hIz : Inv Mz) (hT : Mz.1 (4, 0, 0) 1 = 1) (hN : Mz.1 (4, 0, 0) 2 = 1 ∨ Mz.1 (4, 0, 0) 2 = 2 ∨ Mz.1 (4, 0, 0) 2 = 3) (h0 : (Mz.1 (4, 0, 0) 5).toInt = 0) : WP CC l G cy ad yX4_readComparisons cX4_readComparisons 3 none (d + 72) 0 [(0, vR (4, 0, 0))] [] Mz (fun r M' => Inv M' ∧ FR (S_reader) Mz M' ∧ True) := w_dep (by omega) (w_Q ((reader_rec l G cy ad 5).2 d Mz hIz hT hN (by omega) (by omega)) (fun _ _ h => ⟨h.1, h.2.1, trivial⟩))
