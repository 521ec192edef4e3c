def S_reader : rf → Nat → Prop := fun c k => (c.1 = 4 ∧ c.2.1 = 0 ∧ k = 3) ∨ (c.1 = 4 ∧ c.2.1 = 0 ∧ k = 4) ∨ (c.1 = 4 ∧ c.2.1 = 0 ∧ k = 5) ∨ (c.1 = 4 ∧ c.2.1 = 0 ∧ k = 6) ∨ (c.1 = 1 ∧ c.2.1 = 3 ∧ c.2.2 = 0 ∧ k = 2) ∨ (c.1 = 24 ∧ c.2.1 = 3 ∧ c.2.2 = 0) ∨ False
def ONEC (l : Launch) (G : va_G) (cy : Nat → ClassId) (ad : rf → Nat) (N m : Nat) : Prop := ∀ (d : Nat) (Mz : mM) (hIz : Inv Mz) (hT : Mz.1 (4, 0, 0) 1 = 1) (hN : Mz.1 (4, 0, 0) 2 = 1 ∨ Mz.1 (4, 0, 0) 2 = 2 ∨ Mz.1 (4, 0, 0) 2 = 3) (hk : (Mz.1 (4, 0, 0) 5).toInt + ((m : Nat) : Int) = 5) (hm : m ≤ 5), WP CC l G cy ad yX4_readOne cX4_readOne 2 none (N + d) 0 [(0, vR (4, 0, 0))] [] Mz (fun r M' => Inv M' ∧ FR (S_reader) Mz M' ∧ (M'.1 (4, 0, 0) 5).toInt + ((m : Nat) : Int) = 5)
def CMPC (l : Launch) (G : va_G) (cy : Nat → ClassId) (ad : rf → Nat) (N m : Nat) : Prop := ∀ (d : Nat) (Mz : mM) (hIz : Inv Mz) (hT : Mz.1 (4, 0, 0) 1 = 1) (hN : Mz.1 (4, 0, 0) 2 = 1 ∨ Mz.1 (4, 0, 0) 2 = 2 ∨ Mz.1 (4, 0, 0) 2 = 3) (hk : (Mz.1 (4, 0, 0) 5).toInt + ((m : Nat) : Int) = 5) (hm : m ≤ 5), WP CC l G cy ad yX4_readComparisons cX4_readComparisons 3 none (N + d) 0 [(0, vR (4, 0, 0))] [] Mz (fun r M' => Inv M' ∧ FR (S_reader) Mz M' ∧ (M'.1 (4, 0, 0) 5).toInt + ((m : Nat) : Int) = 5)
theorem lf_c_X4_readOpened_0 (Mz : mM) (m : Nat) (z1_ : Int32) (hk : (Mz.1 (4, 0, 0) 5).toInt + ((m : Nat) : Int) = 5) (hm : m ≤ 5) (e2_ : z1_ = Mz.1 (4, 0, 0) 5) (h3_ : z1_.toInt + ((m : Nat) : Int) = 5) (h4_ : z1_.toInt < 5) : -2147483648 ≤ z1_.toInt + 1 ∧ z1_.toInt + 1 < 2147483648 := by have r_z1_ := rngI z1_; subst e2_; omega
theorem lf_c_X4_readOpened_1 (M9_ : mM) (Mz : mM) (m : Nat) (z1_ : Int32) (z7_ : Int32) (hk : (Mz.1 (4, 0, 0) 5).toInt + ((m : Nat) : Int) = 5) (hm : m ≤ 5) (e2_ : z1_ = Mz.1 (4, 0, 0) 5) (h3_ : z1_.toInt + ((m : Nat) : Int) = 5) (h4_ : z1_.toInt < 5) (h8_ : z7_.toInt = z1_.toInt + 1) (hM10_ : M9_ = up Mz (4, 0, 0) 5 z7_) : z7_.toInt + (((m - 1) : Nat) : Int) = 5 := by have r_z1_ := rngI z1_; have r_z7_ := rngI z7_; omega
theorem lf_c_X4_readOpened_2 (M20_ : mM) (M9_ : mM) (Mz : mM) (m : Nat) (z1_ : Int32) (z7_ : Int32) (hk : (Mz.1 (4, 0, 0) 5).toInt + ((m : Nat) : Int) = 5) (hm : m ≤ 5) (e2_ : z1_ = Mz.1 (4, 0, 0) 5) (h3_ : z1_.toInt + ((m : Nat) : Int) = 5) (h4_ : z1_.toInt < 5) (h8_ : z7_.toInt = z1_.toInt + 1) (hM10_ : M9_ = up Mz (4, 0, 0) 5 z7_) (kf15_ : (M9_.1 (4, 0, 0) 5).toInt + (((m - 1) : Nat) : Int) = 5) (kf26_ : (M20_.1 (4, 0, 0) 5).toInt + (((m - 1) : Nat) : Int) = 5) : (m - 1) ≤ 5 := by have r_z1_ := rngI z1_; have r_z7_ := rngI z7_; subst e2_; omega
theorem lf_c_X4_readOpened_3 (M20_ : mM) (M9_ : mM) (Mz : mM) (m : Nat) (z1_ : Int32) (z7_ : Int32) (hk : (Mz.1 (4, 0, 0) 5).toInt + ((m : Nat) : Int) = 5) (hm : m ≤ 5) (e2_ : z1_ = Mz.1 (4, 0, 0) 5) (h3_ : z1_.toInt + ((m : Nat) : Int) = 5) (h4_ : z1_.toInt < 5) (h8_ : z7_.toInt = z1_.toInt + 1) (hM10_ : M9_ = up Mz (4, 0, 0) 5 z7_) (kf15_ : (M9_.1 (4, 0, 0) 5).toInt + (((m - 1) : Nat) : Int) = 5) (kf26_ : (M20_.1 (4, 0, 0) 5).toInt + (((m - 1) : Nat) : Int) = 5) : m - 1 + 1 = m := by have r_z1_ := rngI z1_; have r_z7_ := rngI z7_; subst e2_; omega
theorem lf_c_X4_readOpened_4 (M20_ : mM) (M29_ : mM) (M38_ : mM) (M9_ : mM) (Mz : mM) (m : Nat) (z1_ : Int32) (z7_ : Int32) (hk : (Mz.1 (4, 0, 0) 5).toInt + ((m : Nat) : Int) = 5) (hm : m ≤ 5) (e2_ : z1_ = Mz.1 (4, 0, 0) 5) (h3_ : z1_.toInt + ((m : Nat) : Int) = 5) (h4_ : z1_.toInt < 5) (h8_ : z7_.toInt = z1_.toInt + 1) (hM10_ : M9_ = up Mz (4, 0, 0) 5 z7_) (kf15_ : (M9_.1 (4, 0, 0) 5).toInt + (((m - 1) : Nat) : Int) = 5) (kf26_ : (M20_.1 (4, 0, 0) 5).toInt + (((m - 1) : Nat) : Int) = 5) (h31_ : (M29_.1 (4, 0, 0) 5).toInt + (((m - 1) : Nat) : Int) = 5) (kf47_ : (M38_.1 (4, 0, 0) 5).toInt + (((m - 1) : Nat) : Int) = 5) : (m - 1) ≤ 5 := by have r_z1_ := rngI z1_; have r_z7_ := rngI z7_; subst e2_; omega
theorem lf_c_X4_readOpened_5 (M20_ : mM) (M29_ : mM) (M38_ : mM) (M9_ : mM) (Mz : mM) (m : Nat) (z1_ : Int32) (z7_ : Int32) (hk : (Mz.1 (4, 0, 0) 5).toInt + ((m : Nat) : Int) = 5) (hm : m ≤ 5) (e2_ : z1_ = Mz.1 (4, 0, 0) 5) (h3_ : z1_.toInt + ((m : Nat) : Int) = 5) (h4_ : z1_.toInt < 5) (h8_ : z7_.toInt = z1_.toInt + 1) (hM10_ : M9_ = up Mz (4, 0, 0) 5 z7_) (kf15_ : (M9_.1 (4, 0, 0) 5).toInt + (((m - 1) : Nat) : Int) = 5) (kf26_ : (M20_.1 (4, 0, 0) 5).toInt + (((m - 1) : Nat) : Int) = 5) (h31_ : (M29_.1 (4, 0, 0) 5).toInt + (((m - 1) : Nat) : Int) = 5) (kf47_ : (M38_.1 (4, 0, 0) 5).toInt + (((m - 1) : Nat) : Int) = 5) : m - 1 + 1 = m := by have r_z1_ := rngI z1_; have r_z7_ := rngI z7_; subst e2_; omega
theorem lf_c_X4_readOpened_6 (M20_ : mM) (M29_ : mM) (M38_ : mM) (M48_ : mM) (M57_ : mM) (M9_ : mM) (Mz : mM) (m : Nat) (z1_ : Int32) (z7_ : Int32) (hk : (Mz.1 (4, 0, 0) 5).toInt + ((m : Nat) : Int) = 5) (hm : m ≤ 5) (e2_ : z1_ = Mz.1 (4, 0, 0) 5) (h3_ : z1_.toInt + ((m : Nat) : Int) = 5) (h4_ : z1_.toInt < 5) (h8_ : z7_.toInt = z1_.toInt + 1) (hM10_ : M9_ = up Mz (4, 0, 0) 5 z7_) (kf15_ : (M9_.1 (4, 0, 0) 5).toInt + (((m - 1) : Nat) : Int) = 5) (kf26_ : (M20_.1 (4, 0, 0) 5).toInt + (((m - 1) : Nat) : Int) = 5) (h31_ : (M29_.1 (4, 0, 0) 5).toInt + (((m - 1) : Nat) : Int) = 5) (kf47_ : (M38_.1 (4, 0, 0) 5).toInt + (((m - 1) : Nat) : Int) = 5) (h50_ : (M48_.1 (4, 0, 0) 5).toInt + (((m - 1) : Nat) : Int) = 5) (kf66_ : (M57_.1 (4, 0, 0) 5).toInt + (((m - 1) : Nat) : Int) = 5) : (m - 1) ≤ 5 := by have r_z1_ := rngI z1_; have r_z7_ := rngI z7_; subst e2_; omega
theorem lf_c_X4_readOpened_7 (M20_ : mM) (M29_ : mM) (M38_ : mM) (M48_ : mM) (M57_ : mM) (M9_ : mM) (Mz : mM) (m : Nat) (z1_ : Int32) (z7_ : Int32) (hk : (Mz.1 (4, 0, 0) 5).toInt + ((m : Nat) : Int) = 5) (hm : m ≤ 5) (e2_ : z1_ = Mz.1 (4, 0, 0) 5) (h3_ : z1_.toInt + ((m : Nat) : Int) = 5) (h4_ : z1_.toInt < 5) (h8_ : z7_.toInt = z1_.toInt + 1) (hM10_ : M9_ = up Mz (4, 0, 0) 5 z7_) (kf15_ : (M9_.1 (4, 0, 0) 5).toInt + (((m - 1) : Nat) : Int) = 5) (kf26_ : (M20_.1 (4, 0, 0) 5).toInt + (((m - 1) : Nat) : Int) = 5) (h31_ : (M29_.1 (4, 0, 0) 5).toInt + (((m - 1) : Nat) : Int) = 5) (kf47_ : (M38_.1 (4, 0, 0) 5).toInt + (((m - 1) : Nat) : Int) = 5) (h50_ : (M48_.1 (4, 0, 0) 5).toInt + (((m - 1) : Nat) : Int) = 5) (kf66_ : (M57_.1 (4, 0, 0) 5).toInt + (((m - 1) : Nat) : Int) = 5) : m - 1 + 1 = m := by have r_z1_ := rngI z1_; have r_z7_ := rngI z7_; subst e2_; omega
theorem lf_c_X4_readOpened_8 (M20_ : mM) (M29_ : mM) (M38_ : mM) (M48_ : mM) (M57_ : mM) (M67_ : mM) (M76_ : mM) (M86_ : mM) (M9_ : mM) (Mz : mM) (m : Nat) (z1_ : Int32) (z7_ : Int32) (z96_ : Int32) (hk : (Mz.1 (4, 0, 0) 5).toInt + ((m : Nat) : Int) = 5) (hm : m ≤ 5) (e2_ : z1_ = Mz.1 (4, 0, 0) 5) (h3_ : z1_.toInt + ((m : Nat) : Int) = 5) (h4_ : z1_.toInt < 5) (h8_ : z7_.toInt = z1_.toInt + 1) (hM10_ : M9_ = up Mz (4, 0, 0) 5 z7_) (kf15_ : (M9_.1 (4, 0, 0) 5).toInt + (((m - 1) : Nat) : Int) = 5) (kf26_ : (M20_.1 (4, 0, 0) 5).toInt + (((m - 1) : Nat) : Int) = 5) (h31_ : (M29_.1 (4, 0, 0) 5).toInt + (((m - 1) : Nat) : Int) = 5) (kf47_ : (M38_.1 (4, 0, 0) 5).toInt + (((m - 1) : Nat) : Int) = 5) (h50_ : (M48_.1 (4, 0, 0) 5).toInt + (((m - 1) : Nat) : Int) = 5) (kf66_ : (M57_.1 (4, 0, 0) 5).toInt + (((m - 1) : Nat) : Int) = 5) (h69_ : (M67_.1 (4, 0, 0) 5).toInt + (((m - 1) : Nat) : Int) = 5) (kf85_ : (M76_.1 (4, 0, 0) 5).toInt + (((m - 1) : Nat) : Int) = 5) (kf95_ : (M86_.1 (4, 0, 0) 5).toInt + (((m - 1) : Nat) : Int) = 5) (e97_ : z96_ = M86_.1 (4, 0, 0) 5) (h98_ : z96_.toInt + (((m - 1) : Nat) : Int) = 5) : -2147483648 ≤ z96_.toInt - 1 ∧ z96_.toInt - 1 < 2147483648 := by have r_z1_ := rngI z1_; have r_z7_ := rngI z7_; have r_z96_ := rngI z96_; subst e2_; subst e97_; omega
theorem lf_c_X4_readOpened_9 (M101_ : mM) (M20_ : mM) (M29_ : mM) (M38_ : mM) (M48_ : mM) (M57_ : mM) (M67_ : mM) (M76_ : mM) (M86_ : mM) (M9_ : mM) (Mz : mM) (m : Nat) (z1_ : Int32) (z7_ : Int32) (z96_ : Int32) (z99_ : Int32) (hk : (Mz.1 (4, 0, 0) 5).toInt + ((m : Nat) : Int) = 5) (hm : m ≤ 5) (e2_ : z1_ = Mz.1 (4, 0, 0) 5) (h3_ : z1_.toInt + ((m : Nat) : Int) = 5) (h4_ : z1_.toInt < 5) (h8_ : z7_.toInt = z1_.toInt + 1) (hM10_ : M9_ = up Mz (4, 0, 0) 5 z7_) (kf15_ : (M9_.1 (4, 0, 0) 5).toInt + (((m - 1) : Nat) : Int) = 5) (kf26_ : (M20_.1 (4, 0, 0) 5).toInt + (((m - 1) : Nat) : Int) = 5) (h31_ : (M29_.1 (4, 0, 0) 5).toInt + (((m - 1) : Nat) : Int) = 5) (kf47_ : (M38_.1 (4, 0, 0) 5).toInt + (((m - 1) : Nat) : Int) = 5) (h50_ : (M48_.1 (4, 0, 0) 5).toInt + (((m - 1) : Nat) : Int) = 5) (kf66_ : (M57_.1 (4, 0, 0) 5).toInt + (((m - 1) : Nat) : Int) = 5) (h69_ : (M67_.1 (4, 0, 0) 5).toInt + (((m - 1) : Nat) : Int) = 5) (kf85_ : (M76_.1 (4, 0, 0) 5).toInt + (((m - 1) : Nat) : Int) = 5) (kf95_ : (M86_.1 (4, 0, 0) 5).toInt + (((m - 1) : Nat) : Int) = 5) (e97_ : z96_ = M86_.1 (4, 0, 0) 5) (h98_ : z96_.toInt + (((m - 1) : Nat) : Int) = 5) (h100_ : z99_.toInt = z96_.toInt - 1) (hM102_ : M101_ = up M86_ (4, 0, 0) 5 z99_) : z99_.toInt + ((m : Nat) : Int) = 5 := by have r_z1_ := rngI z1_; have r_z7_ := rngI z7_; have r_z96_ := rngI z96_; have r_z99_ := rngI z99_; omega
theorem lf_c_X4_readOpened_10 (M20_ : mM) (M9_ : mM) (Mz : mM) (m : Nat) (z1_ : Int32) (z7_ : Int32) (hk : (Mz.1 (4, 0, 0) 5).toInt + ((m : Nat) : Int) = 5) (hm : m ≤ 5) (e2_ : z1_ = Mz.1 (4, 0, 0) 5) (h3_ : z1_.toInt + ((m : Nat) : Int) = 5) (h4_ : z1_.toInt < 5) (h8_ : z7_.toInt = z1_.toInt + 1) (hM10_ : M9_ = up Mz (4, 0, 0) 5 z7_) (kf15_ : (M9_.1 (4, 0, 0) 5).toInt + (((m - 1) : Nat) : Int) = 5) (kf26_ : (M20_.1 (4, 0, 0) 5).toInt + (((m - 1) : Nat) : Int) = 5) : (m - 1) ≤ 5 := by have r_z1_ := rngI z1_; have r_z7_ := rngI z7_; subst e2_; omega
theorem lf_c_X4_readOpened_11 (M20_ : mM) (M9_ : mM) (Mz : mM) (m : Nat) (z1_ : Int32) (z7_ : Int32) (hk : (Mz.1 (4, 0, 0) 5).toInt + ((m : Nat) : Int) = 5) (hm : m ≤ 5) (e2_ : z1_ = Mz.1 (4, 0, 0) 5) (h3_ : z1_.toInt + ((m : Nat) : Int) = 5) (h4_ : z1_.toInt < 5) (h8_ : z7_.toInt = z1_.toInt + 1) (hM10_ : M9_ = up Mz (4, 0, 0) 5 z7_) (kf15_ : (M9_.1 (4, 0, 0) 5).toInt + (((m - 1) : Nat) : Int) = 5) (kf26_ : (M20_.1 (4, 0, 0) 5).toInt + (((m - 1) : Nat) : Int) = 5) : m - 1 + 1 = m := by have r_z1_ := rngI z1_; have r_z7_ := rngI z7_; subst e2_; omega
theorem lf_c_X4_readOpened_12 (M108_ : mM) (M117_ : mM) (M20_ : mM) (M9_ : mM) (Mz : mM) (m : Nat) (z1_ : Int32) (z7_ : Int32) (z127_ : Int32) (hk : (Mz.1 (4, 0, 0) 5).toInt + ((m : Nat) : Int) = 5) (hm : m ≤ 5) (e2_ : z1_ = Mz.1 (4, 0, 0) 5) (h3_ : z1_.toInt + ((m : Nat) : Int) = 5) (h4_ : z1_.toInt < 5) (h8_ : z7_.toInt = z1_.toInt + 1) (hM10_ : M9_ = up Mz (4, 0, 0) 5 z7_) (kf15_ : (M9_.1 (4, 0, 0) 5).toInt + (((m - 1) : Nat) : Int) = 5) (kf26_ : (M20_.1 (4, 0, 0) 5).toInt + (((m - 1) : Nat) : Int) = 5) (h110_ : (M108_.1 (4, 0, 0) 5).toInt + (((m - 1) : Nat) : Int) = 5) (kf126_ : (M117_.1 (4, 0, 0) 5).toInt + (((m - 1) : Nat) : Int) = 5) (e128_ : z127_ = M117_.1 (4, 0, 0) 5) (h129_ : z127_.toInt + (((m - 1) : Nat) : Int) = 5) : -2147483648 ≤ z127_.toInt - 1 ∧ z127_.toInt - 1 < 2147483648 := by have r_z1_ := rngI z1_; have r_z7_ := rngI z7_; have r_z127_ := rngI z127_; subst e2_; subst e128_; omega
theorem lf_c_X4_readOpened_13 (M108_ : mM) (M117_ : mM) (M132_ : mM) (M20_ : mM) (M9_ : mM) (Mz : mM) (m : Nat) (z1_ : Int32) (z7_ : Int32) (z127_ : Int32) (z130_ : Int32) (hk : (Mz.1 (4, 0, 0) 5).toInt + ((m : Nat) : Int) = 5) (hm : m ≤ 5) (e2_ : z1_ = Mz.1 (4, 0, 0) 5) (h3_ : z1_.toInt + ((m : Nat) : Int) = 5) (h4_ : z1_.toInt < 5) (h8_ : z7_.toInt = z1_.toInt + 1) (hM10_ : M9_ = up Mz (4, 0, 0) 5 z7_) (kf15_ : (M9_.1 (4, 0, 0) 5).toInt + (((m - 1) : Nat) : Int) = 5) (kf26_ : (M20_.1 (4, 0, 0) 5).toInt + (((m - 1) : Nat) : Int) = 5) (h110_ : (M108_.1 (4, 0, 0) 5).toInt + (((m - 1) : Nat) : Int) = 5) (kf126_ : (M117_.1 (4, 0, 0) 5).toInt + (((m - 1) : Nat) : Int) = 5) (e128_ : z127_ = M117_.1 (4, 0, 0) 5) (h129_ : z127_.toInt + (((m - 1) : Nat) : Int) = 5) (h131_ : z130_.toInt = z127_.toInt - 1) (hM133_ : M132_ = up M117_ (4, 0, 0) 5 z130_) : z130_.toInt + ((m : Nat) : Int) = 5 := by have r_z1_ := rngI z1_; have r_z7_ := rngI z7_; have r_z127_ := rngI z127_; have r_z130_ := rngI z130_; omega
theorem lf_c_X4_readOpened_14 (M20_ : mM) (M9_ : mM) (Mz : mM) (m : Nat) (z1_ : Int32) (z7_ : Int32) (hk : (Mz.1 (4, 0, 0) 5).toInt + ((m : Nat) : Int) = 5) (hm : m ≤ 5) (e2_ : z1_ = Mz.1 (4, 0, 0) 5) (h3_ : z1_.toInt + ((m : Nat) : Int) = 5) (h4_ : z1_.toInt < 5) (h8_ : z7_.toInt = z1_.toInt + 1) (hM10_ : M9_ = up Mz (4, 0, 0) 5 z7_) (kf15_ : (M9_.1 (4, 0, 0) 5).toInt + (((m - 1) : Nat) : Int) = 5) (kf26_ : (M20_.1 (4, 0, 0) 5).toInt + (((m - 1) : Nat) : Int) = 5) : (m - 1) ≤ 5 := by have r_z1_ := rngI z1_; have r_z7_ := rngI z7_; subst e2_; omega
theorem lf_c_X4_readOpened_15 (M20_ : mM) (M9_ : mM) (Mz : mM) (m : Nat) (z1_ : Int32) (z7_ : Int32) (hk : (Mz.1 (4, 0, 0) 5).toInt + ((m : Nat) : Int) = 5) (hm : m ≤ 5) (e2_ : z1_ = Mz.1 (4, 0, 0) 5) (h3_ : z1_.toInt + ((m : Nat) : Int) = 5) (h4_ : z1_.toInt < 5) (h8_ : z7_.toInt = z1_.toInt + 1) (hM10_ : M9_ = up Mz (4, 0, 0) 5 z7_) (kf15_ : (M9_.1 (4, 0, 0) 5).toInt + (((m - 1) : Nat) : Int) = 5) (kf26_ : (M20_.1 (4, 0, 0) 5).toInt + (((m - 1) : Nat) : Int) = 5) : m - 1 + 1 = m := by have r_z1_ := rngI z1_; have r_z7_ := rngI z7_; subst e2_; omega
theorem lf_c_X4_readOpened_16 (M139_ : mM) (M148_ : mM) (M20_ : mM) (M9_ : mM) (Mz : mM) (m : Nat) (z1_ : Int32) (z7_ : Int32) (z158_ : Int32) (hk : (Mz.1 (4, 0, 0) 5).toInt + ((m : Nat) : Int) = 5) (hm : m ≤ 5) (e2_ : z1_ = Mz.1 (4, 0, 0) 5) (h3_ : z1_.toInt + ((m : Nat) : Int) = 5) (h4_ : z1_.toInt < 5) (h8_ : z7_.toInt = z1_.toInt + 1) (hM10_ : M9_ = up Mz (4, 0, 0) 5 z7_) (kf15_ : (M9_.1 (4, 0, 0) 5).toInt + (((m - 1) : Nat) : Int) = 5) (kf26_ : (M20_.1 (4, 0, 0) 5).toInt + (((m - 1) : Nat) : Int) = 5) (h141_ : (M139_.1 (4, 0, 0) 5).toInt + (((m - 1) : Nat) : Int) = 5) (kf157_ : (M148_.1 (4, 0, 0) 5).toInt + (((m - 1) : Nat) : Int) = 5) (e159_ : z158_ = M148_.1 (4, 0, 0) 5) (h160_ : z158_.toInt + (((m - 1) : Nat) : Int) = 5) : -2147483648 ≤ z158_.toInt - 1 ∧ z158_.toInt - 1 < 2147483648 := by have r_z1_ := rngI z1_; have r_z7_ := rngI z7_; have r_z158_ := rngI z158_; subst e2_; subst e159_; omega
theorem lf_c_X4_readOpened_17 (M139_ : mM) (M148_ : mM) (M163_ : mM) (M20_ : mM) (M9_ : mM) (Mz : mM) (m : Nat) (z1_ : Int32) (z7_ : Int32) (z158_ : Int32) (z161_ : Int32) (hk : (Mz.1 (4, 0, 0) 5).toInt + ((m : Nat) : Int) = 5) (hm : m ≤ 5) (e2_ : z1_ = Mz.1 (4, 0, 0) 5) (h3_ : z1_.toInt + ((m : Nat) : Int) = 5) (h4_ : z1_.toInt < 5) (h8_ : z7_.toInt = z1_.toInt + 1) (hM10_ : M9_ = up Mz (4, 0, 0) 5 z7_) (kf15_ : (M9_.1 (4, 0, 0) 5).toInt + (((m - 1) : Nat) : Int) = 5) (kf26_ : (M20_.1 (4, 0, 0) 5).toInt + (((m - 1) : Nat) : Int) = 5) (h141_ : (M139_.1 (4, 0, 0) 5).toInt + (((m - 1) : Nat) : Int) = 5) (kf157_ : (M148_.1 (4, 0, 0) 5).toInt + (((m - 1) : Nat) : Int) = 5) (e159_ : z158_ = M148_.1 (4, 0, 0) 5) (h160_ : z158_.toInt + (((m - 1) : Nat) : Int) = 5) (h162_ : z161_.toInt = z158_.toInt - 1) (hM164_ : M163_ = up M148_ (4, 0, 0) 5 z161_) : z161_.toInt + ((m : Nat) : Int) = 5 := by have r_z1_ := rngI z1_; have r_z7_ := rngI z7_; have r_z158_ := rngI z158_; have r_z161_ := rngI z161_; omega
set_option maxHeartbeats 4000000 in
set_option maxRecDepth 100000 in
theorem c_X4_readOpened (l : Launch) (G : va_G) (cy : Nat → ClassId) (ad : rf → Nat) (d : Nat) (N : Nat) (m : Nat) (v : Int32) (Mz : mM) (hIz : Inv Mz) (hA : ∀ k : Nat, k + 1 = m → ONEC l G cy ad N k) (hB : ∀ k : Nat, k + 1 = m → CMPC l G cy ad N k) (hT : Mz.1 (4, 0, 0) 1 = 1) (hN : Mz.1 (4, 0, 0) 2 = 1 ∨ Mz.1 (4, 0, 0) 2 = 2 ∨ Mz.1 (4, 0, 0) 2 = 3) (hk : (Mz.1 (4, 0, 0) 5).toInt + ((m : Nat) : Int) = 5) (hm : m ≤ 5) : WP CC l G cy ad yX4_readOpened cX4_readOpened 2 none ((N + d) + 3) 0 [(0, vR (4, 0, 0)), (1, vI v)] [] Mz (fun r M' => Inv M' ∧ FR (S_reader) Mz M' ∧ (M'.1 (4, 0, 0) 5).toInt + ((m : Nat) : Int) = 5) := by
  have hFz : FR (S_reader) Mz Mz := FR.self
  refine w_aload_n dX4_readOpened_0 rfl 0 rfl ?_
  refine w_getI fl_RX4_38 rfl rfl ic_4 dX4_readOpened_1 (fun z1_ e2_ => ?_)
  have h3_ : z1_.toInt + ((m : Nat) : Int) = 5 := by rw [e2_]; exact hk
  refine w_iconst (v := 5) dX4_readOpened_4 (by decide) ?_
  refine w_icmp_lt (tgt := 13) dX4_readOpened_5 (by decide) (rfl : z1_.toInt = z1_.toInt) li_5 (fun h4_ => ?_) (fun h4_ => ?_)
  · refine w_aload_n dX4_readOpened_13 rfl 0 rfl ?_
    refine w_dup dX4_readOpened_14 rfl ?_
    refine w_getI fl_RX4_38 rfl rfl ic_4 dX4_readOpened_15 (fun z5_ e6_ => ?_)
    obtain rfl : z1_ = z5_ := e2_.trans e6_.symm
    refine w_iconst (v := 1) dX4_readOpened_18 (by decide) ?_
    refine w_iaddB dX4_readOpened_19 (rfl : z1_.toInt = z1_.toInt) li_1 (lf_c_X4_readOpened_0 Mz m z1_ hk hm e2_ h3_ h4_) (fun z7_ h8_ => ?_)
    refine w_putI CC_nd fl_RX4_38 rfl rfl ic_4 dX4_readOpened_20 (fun M9_ hM10_ => ?_)
    have hI11_ := hIz.put hM10_ trivial
    have hF12_ := hFz.put hM10_ (Or.inr (Or.inr (Or.inl ⟨rfl, rfl, rfl⟩)))
    have kf13_ : M9_.1 (4, 0, 0) 1 = 1 := by rw [(show M9_.1 (4, 0, 0) 1 = Mz.1 (4, 0, 0) 1 by rw [hM10_, up_ne (by simp)])]; exact hT
    have kf14_ : M9_.1 (4, 0, 0) 2 = 1 ∨ M9_.1 (4, 0, 0) 2 = 2 ∨ M9_.1 (4, 0, 0) 2 = 3 := by rw [(show M9_.1 (4, 0, 0) 2 = Mz.1 (4, 0, 0) 2 by rw [hM10_, up_ne (by simp)])]; exact hN
    have kf15_ : (M9_.1 (4, 0, 0) 5).toInt + (((m - 1) : Nat) : Int) = 5 := by rw [hM10_, up_same]; exact (lf_c_X4_readOpened_1 M9_ Mz m z1_ z7_ hk hm e2_ h3_ h4_ h8_ hM10_)
    refine w_aload_n dX4_readOpened_23 rfl 0 rfl ?_
    refine w_dup dX4_readOpened_24 rfl ?_
    refine w_getI fl_RX4_31 rfl rfl ic_4 dX4_readOpened_25 (fun z16_ e17_ => ?_)
    refine w_iconst (v := 1) dX4_readOpened_28 (by decide) ?_
    refine w_iadd dX4_readOpened_29 (fun z18_ h19_ => ?_)
    refine w_putI CC_nd fl_RX4_31 rfl rfl ic_4 dX4_readOpened_30 (fun M20_ hM21_ => ?_)
    have hI22_ := hI11_.put hM21_ trivial
    have hF23_ := hF12_.put hM21_ (Or.inl ⟨rfl, rfl, rfl⟩)
    have kf24_ : M20_.1 (4, 0, 0) 1 = 1 := by rw [(show M20_.1 (4, 0, 0) 1 = M9_.1 (4, 0, 0) 1 by rw [hM21_, up_ne (by simp)])]; exact kf13_
    have kf25_ : M20_.1 (4, 0, 0) 2 = 1 ∨ M20_.1 (4, 0, 0) 2 = 2 ∨ M20_.1 (4, 0, 0) 2 = 3 := by rw [(show M20_.1 (4, 0, 0) 2 = M9_.1 (4, 0, 0) 2 by rw [hM21_, up_ne (by simp)])]; exact kf14_
    have kf26_ : (M20_.1 (4, 0, 0) 5).toInt + (((m - 1) : Nat) : Int) = 5 := by rw [(show M20_.1 (4, 0, 0) 5 = M9_.1 (4, 0, 0) 5 by rw [hM21_, up_ne (by simp)])]; exact kf15_
    refine w_iload_n dX4_readOpened_33 rfl 1 rfl ?_
    refine w_bipush (v := 45) dX4_readOpened_34 (by decide) ?_
    refine w_icmp_ne (tgt := 56) dX4_readOpened_36 (by decide) (rfl : v.toInt = v.toInt) li_45 (fun h27_ => ?_) (fun h27_ => ?_)
    · refine w_iload_n dX4_readOpened_56 rfl 1 rfl ?_
      refine w_bipush (v := 40) dX4_readOpened_57 (by decide) ?_
      refine w_icmp_ne (tgt := 75) dX4_readOpened_59 (by decide) (rfl : v.toInt = v.toInt) li_40 (fun h28_ => ?_) (fun h28_ => ?_)
      · refine w_aload_n dX4_readOpened_75 rfl 0 rfl ?_
        refine w_callVv (as := []) (rest := []) (hB (m - 1) (lf_c_X4_readOpened_3 M20_ M9_ Mz m z1_ z7_ hk hm e2_ h3_ h4_ h8_ hM10_ kf15_ kf26_) (d + 2) M20_ hI22_ kf24_ kf25_ kf26_ (lf_c_X4_readOpened_2 M20_ M9_ Mz m z1_ z7_ hk hm e2_ h3_ h4_ h8_ hM10_ kf15_ kf26_)) kV_X4_readComparisons (by decide +kernel) (Nat.le_of_ble_eq_true rfl) m_692 rfl rfl rfl ic_4 rfl rfl (by decide) (Nat.le_of_ble_eq_true rfl) dX4_readOpened_76 (fun M29_ q30_ => ?_)
        obtain ⟨hI32_, hF33_, h31_⟩ := q30_
        have hF34_ := hF23_.tr hF33_ (fun c k => (fun h => h.elim (fun h => (Or.inl ⟨h.1, h.2.1, h.2.2⟩)) (fun h => h.elim (fun h => (Or.inr (Or.inl ⟨h.1, h.2.1, h.2.2⟩))) (fun h => h.elim (fun h => (Or.inr (Or.inr (Or.inl ⟨h.1, h.2.1, h.2.2⟩)))) (fun h => h.elim (fun h => (Or.inr (Or.inr (Or.inr (Or.inl ⟨h.1, h.2.1, h.2.2⟩))))) (fun h => h.elim (fun h => (Or.inr (Or.inr (Or.inr (Or.inr (Or.inl ⟨h.1, h.2.1, h.2.2.1, h.2.2.2⟩)))))) (fun h => h.elim (fun h => (Or.inr (Or.inr (Or.inr (Or.inr (Or.inr (Or.inl ⟨h.1, h.2.1, h.2.2⟩))))))) (fun h => h.elim))))))))
        have kf36_ : M29_.1 (4, 0, 0) 1 = 1 := by rw [(hF33_ (4, 0, 0) 1 (by simp [S_reader]))]; exact kf24_
        have kf37_ : M29_.1 (4, 0, 0) 2 = 1 ∨ M29_.1 (4, 0, 0) 2 = 2 ∨ M29_.1 (4, 0, 0) 2 = 3 := by rw [(hF33_ (4, 0, 0) 2 (by simp [S_reader]))]; exact kf25_
        refine w_aload_n dX4_readOpened_79 rfl 0 rfl ?_
        refine w_bipush (v := 63) dX4_readOpened_80 (by decide) ?_
        refine w_callVv (as := [vI 63]) (rest := []) (c_X4_expect l G cy ad (N + d) 63 M29_ hI32_ kf36_) kV_X4_expect (by decide +kernel) (Nat.le_of_ble_eq_true rfl) m_732 rfl rfl rfl ic_4 rfl rfl (by decide) (Nat.le_of_ble_eq_true rfl) dX4_readOpened_82 (fun M38_ q39_ => ?_)
        obtain ⟨hI41_, hF42_, h40_, hs44_⟩ := q39_
        have hF43_ := hF34_.tr hF42_ (fun c k => (fun h => h.elim (fun h => (Or.inl ⟨h.1, h.2.1, h.2.2⟩)) (fun h => h.elim (fun h => (Or.inr (Or.inl ⟨h.1, h.2.1, h.2.2⟩))) (fun h => h.elim))))
        have kf45_ : M38_.1 (4, 0, 0) 1 = 1 := by rw [(hF42_ (4, 0, 0) 1 (by simp [S_c_X4_expect]))]; exact kf36_
        have kf46_ : M38_.1 (4, 0, 0) 2 = 1 ∨ M38_.1 (4, 0, 0) 2 = 2 ∨ M38_.1 (4, 0, 0) 2 = 3 := by rw [(hF42_ (4, 0, 0) 2 (by simp [S_c_X4_expect]))]; exact kf37_
        have kf47_ : (M38_.1 (4, 0, 0) 5).toInt + (((m - 1) : Nat) : Int) = 5 := by rw [(hF42_ (4, 0, 0) 5 (by simp [S_c_X4_expect]))]; exact h31_
        refine w_aload_n dX4_readOpened_85 rfl 0 rfl ?_
        refine w_callVv (as := []) (rest := []) (hB (m - 1) (lf_c_X4_readOpened_5 M20_ M29_ M38_ M9_ Mz m z1_ z7_ hk hm e2_ h3_ h4_ h8_ hM10_ kf15_ kf26_ h31_ kf47_) (d + 2) M38_ hI41_ kf45_ kf46_ kf47_ (lf_c_X4_readOpened_4 M20_ M29_ M38_ M9_ Mz m z1_ z7_ hk hm e2_ h3_ h4_ h8_ hM10_ kf15_ kf26_ h31_ kf47_)) kV_X4_readComparisons (by decide +kernel) (Nat.le_of_ble_eq_true rfl) m_692 rfl rfl rfl ic_4 rfl rfl (by decide) (Nat.le_of_ble_eq_true rfl) dX4_readOpened_86 (fun M48_ q49_ => ?_)
        obtain ⟨hI51_, hF52_, h50_⟩ := q49_
        have hF53_ := hF43_.tr hF52_ (fun c k => (fun h => h.elim (fun h => (Or.inl ⟨h.1, h.2.1, h.2.2⟩)) (fun h => h.elim (fun h => (Or.inr (Or.inl ⟨h.1, h.2.1, h.2.2⟩))) (fun h => h.elim (fun h => (Or.inr (Or.inr (Or.inl ⟨h.1, h.2.1, h.2.2⟩)))) (fun h => h.elim (fun h => (Or.inr (Or.inr (Or.inr (Or.inl ⟨h.1, h.2.1, h.2.2⟩))))) (fun h => h.elim (fun h => (Or.inr (Or.inr (Or.inr (Or.inr (Or.inl ⟨h.1, h.2.1, h.2.2.1, h.2.2.2⟩)))))) (fun h => h.elim (fun h => (Or.inr (Or.inr (Or.inr (Or.inr (Or.inr (Or.inl ⟨h.1, h.2.1, h.2.2⟩))))))) (fun h => h.elim))))))))
        have kf55_ : M48_.1 (4, 0, 0) 1 = 1 := by rw [(hF52_ (4, 0, 0) 1 (by simp [S_reader]))]; exact kf45_
        have kf56_ : M48_.1 (4, 0, 0) 2 = 1 ∨ M48_.1 (4, 0, 0) 2 = 2 ∨ M48_.1 (4, 0, 0) 2 = 3 := by rw [(hF52_ (4, 0, 0) 2 (by simp [S_reader]))]; exact kf46_
        refine w_aload_n dX4_readOpened_89 rfl 0 rfl ?_
        refine w_bipush (v := 58) dX4_readOpened_90 (by decide) ?_
        refine w_callVv (as := [vI 58]) (rest := []) (c_X4_expect l G cy ad (N + d) 58 M48_ hI51_ kf55_) kV_X4_expect (by decide +kernel) (Nat.le_of_ble_eq_true rfl) m_732 rfl rfl rfl ic_4 rfl rfl (by decide) (Nat.le_of_ble_eq_true rfl) dX4_readOpened_92 (fun M57_ q58_ => ?_)
        obtain ⟨hI60_, hF61_, h59_, hs63_⟩ := q58_
        have hF62_ := hF53_.tr hF61_ (fun c k => (fun h => h.elim (fun h => (Or.inl ⟨h.1, h.2.1, h.2.2⟩)) (fun h => h.elim (fun h => (Or.inr (Or.inl ⟨h.1, h.2.1, h.2.2⟩))) (fun h => h.elim))))
        have kf64_ : M57_.1 (4, 0, 0) 1 = 1 := by rw [(hF61_ (4, 0, 0) 1 (by simp [S_c_X4_expect]))]; exact kf55_
        have kf65_ : M57_.1 (4, 0, 0) 2 = 1 ∨ M57_.1 (4, 0, 0) 2 = 2 ∨ M57_.1 (4, 0, 0) 2 = 3 := by rw [(hF61_ (4, 0, 0) 2 (by simp [S_c_X4_expect]))]; exact kf56_
        have kf66_ : (M57_.1 (4, 0, 0) 5).toInt + (((m - 1) : Nat) : Int) = 5 := by rw [(hF61_ (4, 0, 0) 5 (by simp [S_c_X4_expect]))]; exact h50_
        refine w_aload_n dX4_readOpened_95 rfl 0 rfl ?_
        refine w_callVv (as := []) (rest := []) (hB (m - 1) (lf_c_X4_readOpened_7 M20_ M29_ M38_ M48_ M57_ M9_ Mz m z1_ z7_ hk hm e2_ h3_ h4_ h8_ hM10_ kf15_ kf26_ h31_ kf47_ h50_ kf66_) (d + 2) M57_ hI60_ kf64_ kf65_ kf66_ (lf_c_X4_readOpened_6 M20_ M29_ M38_ M48_ M57_ M9_ Mz m z1_ z7_ hk hm e2_ h3_ h4_ h8_ hM10_ kf15_ kf26_ h31_ kf47_ h50_ kf66_)) kV_X4_readComparisons (by decide +kernel) (Nat.le_of_ble_eq_true rfl) m_692 rfl rfl rfl ic_4 rfl rfl (by decide) (Nat.le_of_ble_eq_true rfl) dX4_readOpened_96 (fun M67_ q68_ => ?_)
        obtain ⟨hI70_, hF71_, h69_⟩ := q68_
        have hF72_ := hF62_.tr hF71_ (fun c k => (fun h => h.elim (fun h => (Or.inl ⟨h.1, h.2.1, h.2.2⟩)) (fun h => h.elim (fun h => (Or.inr (Or.inl ⟨h.1, h.2.1, h.2.2⟩))) (fun h => h.elim (fun h => (Or.inr (Or.inr (Or.inl ⟨h.1, h.2.1, h.2.2⟩)))) (fun h => h.elim (fun h => (Or.inr (Or.inr (Or.inr (Or.inl ⟨h.1, h.2.1, h.2.2⟩))))) (fun h => h.elim (fun h => (Or.inr (Or.inr (Or.inr (Or.inr (Or.inl ⟨h.1, h.2.1, h.2.2.1, h.2.2.2⟩)))))) (fun h => h.elim (fun h => (Or.inr (Or.inr (Or.inr (Or.inr (Or.inr (Or.inl ⟨h.1, h.2.1, h.2.2⟩))))))) (fun h => h.elim))))))))
        have kf74_ : M67_.1 (4, 0, 0) 1 = 1 := by rw [(hF71_ (4, 0, 0) 1 (by simp [S_reader]))]; exact kf64_
        have kf75_ : M67_.1 (4, 0, 0) 2 = 1 ∨ M67_.1 (4, 0, 0) 2 = 2 ∨ M67_.1 (4, 0, 0) 2 = 3 := by rw [(hF71_ (4, 0, 0) 2 (by simp [S_reader]))]; exact kf65_
        refine w_aload_n dX4_readOpened_99 rfl 0 rfl ?_
        refine w_bipush (v := 93) dX4_readOpened_100 (by decide) ?_
        refine w_callVv (as := [vI 93]) (rest := []) (c_X4_expect l G cy ad (N + d) 93 M67_ hI70_ kf74_) kV_X4_expect (by decide +kernel) (Nat.le_of_ble_eq_true rfl) m_732 rfl rfl rfl ic_4 rfl rfl (by decide) (Nat.le_of_ble_eq_true rfl) dX4_readOpened_102 (fun M76_ q77_ => ?_)
        obtain ⟨hI79_, hF80_, h78_, hs82_⟩ := q77_
        have hF81_ := hF72_.tr hF80_ (fun c k => (fun h => h.elim (fun h => (Or.inl ⟨h.1, h.2.1, h.2.2⟩)) (fun h => h.elim (fun h => (Or.inr (Or.inl ⟨h.1, h.2.1, h.2.2⟩))) (fun h => h.elim))))
        have kf83_ : M76_.1 (4, 0, 0) 1 = 1 := by rw [(hF80_ (4, 0, 0) 1 (by simp [S_c_X4_expect]))]; exact kf74_
        have kf84_ : M76_.1 (4, 0, 0) 2 = 1 ∨ M76_.1 (4, 0, 0) 2 = 2 ∨ M76_.1 (4, 0, 0) 2 = 3 := by rw [(hF80_ (4, 0, 0) 2 (by simp [S_c_X4_expect]))]; exact kf75_
        have kf85_ : (M76_.1 (4, 0, 0) 5).toInt + (((m - 1) : Nat) : Int) = 5 := by rw [(hF80_ (4, 0, 0) 5 (by simp [S_c_X4_expect]))]; exact h69_
        refine w_aload_n dX4_readOpened_105 rfl 0 rfl ?_
        refine w_getR (c' := (1, 3, 0)) fl_RX4_10 rfl rfl ic_4 dX4_readOpened_106 rfl ?_
        refine w_sipush (v := 2063) dX4_readOpened_109 (by decide) ?_
        refine w_callVv (as := [vI 2063]) (rest := []) (c_X1_add l G cy ad ((N + d) + 2) 3 0 2063 M76_ hI79_ (by first | decide | (unfold vF; omega) | (unfold vRw; omega))) kV_X1_add (by decide +kernel) (Nat.le_of_ble_eq_true rfl) m_720 rfl rfl rfl (ic_1 (by unfold vF; omega)) rfl rfl (by decide) (Nat.le_of_ble_eq_true rfl) dX4_readOpened_112 (fun M86_ q87_ => ?_)
        obtain ⟨hI89_, hF90_, h88_, hs92_⟩ := q87_
        have hF91_ := hF81_.tr hF90_ (fun c k => (fun h => h.elim (fun h => (Or.inr (Or.inr (Or.inr (Or.inr (Or.inr (Or.inl ⟨h.1, h.2.1, h.2.2⟩))))))) (fun h => h.elim (fun h => (Or.inr (Or.inr (Or.inr (Or.inr (Or.inl ⟨h.1, h.2.1, h.2.2.1, h.2.2.2⟩)))))) (fun h => h.elim))))
        have kf93_ : M86_.1 (4, 0, 0) 1 = 1 := by rw [(hF90_ (4, 0, 0) 1 (by simp [S_c_X1_add]))]; exact kf83_
        have kf94_ : M86_.1 (4, 0, 0) 2 = 1 ∨ M86_.1 (4, 0, 0) 2 = 2 ∨ M86_.1 (4, 0, 0) 2 = 3 := by rw [(hF90_ (4, 0, 0) 2 (by simp [S_c_X1_add]))]; exact kf84_
        have kf95_ : (M86_.1 (4, 0, 0) 5).toInt + (((m - 1) : Nat) : Int) = 5 := by rw [(hF90_ (4, 0, 0) 5 (by simp [S_c_X1_add]))]; exact kf85_
        refine w_aload_n dX4_readOpened_115 rfl 0 rfl ?_
        refine w_dup dX4_readOpened_116 rfl ?_
        refine w_getI fl_RX4_38 rfl rfl ic_4 dX4_readOpened_117 (fun z96_ e97_ => ?_)
        have h98_ : z96_.toInt + (((m - 1) : Nat) : Int) = 5 := by rw [e97_]; exact kf95_
        refine w_iconst (v := 1) dX4_readOpened_120 (by decide) ?_
        refine w_isubB dX4_readOpened_121 (rfl : z96_.toInt = z96_.toInt) li_1 (lf_c_X4_readOpened_8 M20_ M29_ M38_ M48_ M57_ M67_ M76_ M86_ M9_ Mz m z1_ z7_ z96_ hk hm e2_ h3_ h4_ h8_ hM10_ kf15_ kf26_ h31_ kf47_ h50_ kf66_ h69_ kf85_ kf95_ e97_ h98_) (fun z99_ h100_ => ?_)
        refine w_putI CC_nd fl_RX4_38 rfl rfl ic_4 dX4_readOpened_122 (fun M101_ hM102_ => ?_)
        have hI103_ := hI89_.put hM102_ trivial
        have hF104_ := hF91_.put hM102_ (Or.inr (Or.inr (Or.inl ⟨rfl, rfl, rfl⟩)))
        have kf105_ : M101_.1 (4, 0, 0) 1 = 1 := by rw [(show M101_.1 (4, 0, 0) 1 = M86_.1 (4, 0, 0) 1 by rw [hM102_, up_ne (by simp)])]; exact kf93_
        have kf106_ : M101_.1 (4, 0, 0) 2 = 1 ∨ M101_.1 (4, 0, 0) 2 = 2 ∨ M101_.1 (4, 0, 0) 2 = 3 := by rw [(show M101_.1 (4, 0, 0) 2 = M86_.1 (4, 0, 0) 2 by rw [hM102_, up_ne (by simp)])]; exact kf94_
        have kf107_ : (M101_.1 (4, 0, 0) 5).toInt + ((m : Nat) : Int) = 5 := by rw [hM102_, up_same]; exact (lf_c_X4_readOpened_9 M101_ M20_ M29_ M38_ M48_ M57_ M67_ M76_ M86_ M9_ Mz m z1_ z7_ z96_ z99_ hk hm e2_ h3_ h4_ h8_ hM10_ kf15_ kf26_ h31_ kf47_ h50_ kf66_ h69_ kf85_ kf95_ e97_ h98_ h100_ hM102_)
        exact w_vret rfl dX4_readOpened_125 ⟨hI103_, hF104_, kf107_⟩
      · refine w_aload_n dX4_readOpened_62 rfl 0 rfl ?_
        refine w_callVv (as := []) (rest := []) (hB (m - 1) (lf_c_X4_readOpened_11 M20_ M9_ Mz m z1_ z7_ hk hm e2_ h3_ h4_ h8_ hM10_ kf15_ kf26_) (d + 2) M20_ hI22_ kf24_ kf25_ kf26_ (lf_c_X4_readOpened_10 M20_ M9_ Mz m z1_ z7_ hk hm e2_ h3_ h4_ h8_ hM10_ kf15_ kf26_)) kV_X4_readComparisons (by decide +kernel) (Nat.le_of_ble_eq_true rfl) m_692 rfl rfl rfl ic_4 rfl rfl (by decide) (Nat.le_of_ble_eq_true rfl) dX4_readOpened_63 (fun M108_ q109_ => ?_)
        obtain ⟨hI111_, hF112_, h110_⟩ := q109_
        have hF113_ := hF23_.tr hF112_ (fun c k => (fun h => h.elim (fun h => (Or.inl ⟨h.1, h.2.1, h.2.2⟩)) (fun h => h.elim (fun h => (Or.inr (Or.inl ⟨h.1, h.2.1, h.2.2⟩))) (fun h => h.elim (fun h => (Or.inr (Or.inr (Or.inl ⟨h.1, h.2.1, h.2.2⟩)))) (fun h => h.elim (fun h => (Or.inr (Or.inr (Or.inr (Or.inl ⟨h.1, h.2.1, h.2.2⟩))))) (fun h => h.elim (fun h => (Or.inr (Or.inr (Or.inr (Or.inr (Or.inl ⟨h.1, h.2.1, h.2.2.1, h.2.2.2⟩)))))) (fun h => h.elim (fun h => (Or.inr (Or.inr (Or.inr (Or.inr (Or.inr (Or.inl ⟨h.1, h.2.1, h.2.2⟩))))))) (fun h => h.elim))))))))
        have kf115_ : M108_.1 (4, 0, 0) 1 = 1 := by rw [(hF112_ (4, 0, 0) 1 (by simp [S_reader]))]; exact kf24_
        have kf116_ : M108_.1 (4, 0, 0) 2 = 1 ∨ M108_.1 (4, 0, 0) 2 = 2 ∨ M108_.1 (4, 0, 0) 2 = 3 := by rw [(hF112_ (4, 0, 0) 2 (by simp [S_reader]))]; exact kf25_
        refine w_aload_n dX4_readOpened_66 rfl 0 rfl ?_
        refine w_bipush (v := 41) dX4_readOpened_67 (by decide) ?_
        refine w_callVv (as := [vI 41]) (rest := []) (c_X4_expect l G cy ad (N + d) 41 M108_ hI111_ kf115_) kV_X4_expect (by decide +kernel) (Nat.le_of_ble_eq_true rfl) m_732 rfl rfl rfl ic_4 rfl rfl (by decide) (Nat.le_of_ble_eq_true rfl) dX4_readOpened_69 (fun M117_ q118_ => ?_)
        obtain ⟨hI120_, hF121_, h119_, hs123_⟩ := q118_
        have hF122_ := hF113_.tr hF121_ (fun c k => (fun h => h.elim (fun h => (Or.inl ⟨h.1, h.2.1, h.2.2⟩)) (fun h => h.elim (fun h => (Or.inr (Or.inl ⟨h.1, h.2.1, h.2.2⟩))) (fun h => h.elim))))
        have kf124_ : M117_.1 (4, 0, 0) 1 = 1 := by rw [(hF121_ (4, 0, 0) 1 (by simp [S_c_X4_expect]))]; exact kf115_
        have kf125_ : M117_.1 (4, 0, 0) 2 = 1 ∨ M117_.1 (4, 0, 0) 2 = 2 ∨ M117_.1 (4, 0, 0) 2 = 3 := by rw [(hF121_ (4, 0, 0) 2 (by simp [S_c_X4_expect]))]; exact kf116_
        have kf126_ : (M117_.1 (4, 0, 0) 5).toInt + (((m - 1) : Nat) : Int) = 5 := by rw [(hF121_ (4, 0, 0) 5 (by simp [S_c_X4_expect]))]; exact h110_
        refine w_goto (tgt := 115) dX4_readOpened_72 (by decide) ?_
        refine w_aload_n dX4_readOpened_115 rfl 0 rfl ?_
        refine w_dup dX4_readOpened_116 rfl ?_
        refine w_getI fl_RX4_38 rfl rfl ic_4 dX4_readOpened_117 (fun z127_ e128_ => ?_)
        have h129_ : z127_.toInt + (((m - 1) : Nat) : Int) = 5 := by rw [e128_]; exact kf126_
        refine w_iconst (v := 1) dX4_readOpened_120 (by decide) ?_
        refine w_isubB dX4_readOpened_121 (rfl : z127_.toInt = z127_.toInt) li_1 (lf_c_X4_readOpened_12 M108_ M117_ M20_ M9_ Mz m z1_ z7_ z127_ hk hm e2_ h3_ h4_ h8_ hM10_ kf15_ kf26_ h110_ kf126_ e128_ h129_) (fun z130_ h131_ => ?_)
        refine w_putI CC_nd fl_RX4_38 rfl rfl ic_4 dX4_readOpened_122 (fun M132_ hM133_ => ?_)
        have hI134_ := hI120_.put hM133_ trivial
        have hF135_ := hF122_.put hM133_ (Or.inr (Or.inr (Or.inl ⟨rfl, rfl, rfl⟩)))
        have kf136_ : M132_.1 (4, 0, 0) 1 = 1 := by rw [(show M132_.1 (4, 0, 0) 1 = M117_.1 (4, 0, 0) 1 by rw [hM133_, up_ne (by simp)])]; exact kf124_
        have kf137_ : M132_.1 (4, 0, 0) 2 = 1 ∨ M132_.1 (4, 0, 0) 2 = 2 ∨ M132_.1 (4, 0, 0) 2 = 3 := by rw [(show M132_.1 (4, 0, 0) 2 = M117_.1 (4, 0, 0) 2 by rw [hM133_, up_ne (by simp)])]; exact kf125_
        have kf138_ : (M132_.1 (4, 0, 0) 5).toInt + ((m : Nat) : Int) = 5 := by rw [hM133_, up_same]; exact (lf_c_X4_readOpened_13 M108_ M117_ M132_ M20_ M9_ Mz m z1_ z7_ z127_ z130_ hk hm e2_ h3_ h4_ h8_ hM10_ kf15_ kf26_ h110_ kf126_ e128_ h129_ h131_ hM133_)
        exact w_vret rfl dX4_readOpened_125 ⟨hI134_, hF135_, kf138_⟩
    · refine w_aload_n dX4_readOpened_39 rfl 0 rfl ?_
      refine w_callVv (as := []) (rest := []) (hA (m - 1) (lf_c_X4_readOpened_15 M20_ M9_ Mz m z1_ z7_ hk hm e2_ h3_ h4_ h8_ hM10_ kf15_ kf26_) (d + 2) M20_ hI22_ kf24_ kf25_ kf26_ (lf_c_X4_readOpened_14 M20_ M9_ Mz m z1_ z7_ hk hm e2_ h3_ h4_ h8_ hM10_ kf15_ kf26_)) kV_X4_readOne (by decide +kernel) (Nat.le_of_ble_eq_true rfl) m_704 rfl rfl rfl ic_4 rfl rfl (by decide) (Nat.le_of_ble_eq_true rfl) dX4_readOpened_40 (fun M139_ q140_ => ?_)
      obtain ⟨hI142_, hF143_, h141_⟩ := q140_
      have hF144_ := hF23_.tr hF143_ (fun c k => (fun h => h.elim (fun h => (Or.inl ⟨h.1, h.2.1, h.2.2⟩)) (fun h => h.elim (fun h => (Or.inr (Or.inl ⟨h.1, h.2.1, h.2.2⟩))) (fun h => h.elim (fun h => (Or.inr (Or.inr (Or.inl ⟨h.1, h.2.1, h.2.2⟩)))) (fun h => h.elim (fun h => (Or.inr (Or.inr (Or.inr (Or.inl ⟨h.1, h.2.1, h.2.2⟩))))) (fun h => h.elim (fun h => (Or.inr (Or.inr (Or.inr (Or.inr (Or.inl ⟨h.1, h.2.1, h.2.2.1, h.2.2.2⟩)))))) (fun h => h.elim (fun h => (Or.inr (Or.inr (Or.inr (Or.inr (Or.inr (Or.inl ⟨h.1, h.2.1, h.2.2⟩))))))) (fun h => h.elim))))))))
      have kf146_ : M139_.1 (4, 0, 0) 1 = 1 := by rw [(hF143_ (4, 0, 0) 1 (by simp [S_reader]))]; exact kf24_
      have kf147_ : M139_.1 (4, 0, 0) 2 = 1 ∨ M139_.1 (4, 0, 0) 2 = 2 ∨ M139_.1 (4, 0, 0) 2 = 3 := by rw [(hF143_ (4, 0, 0) 2 (by simp [S_reader]))]; exact kf25_
      refine w_aload_n dX4_readOpened_43 rfl 0 rfl ?_
      refine w_getR (c' := (1, 3, 0)) fl_RX4_10 rfl rfl ic_4 dX4_readOpened_44 rfl ?_
      refine w_sipush (v := 2126) dX4_readOpened_47 (by decide) ?_
      refine w_callVv (as := [vI 2126]) (rest := []) (c_X1_add l G cy ad ((N + d) + 2) 3 0 2126 M139_ hI142_ (by first | decide | (unfold vF; omega) | (unfold vRw; omega))) kV_X1_add (by decide +kernel) (Nat.le_of_ble_eq_true rfl) m_720 rfl rfl rfl (ic_1 (by unfold vF; omega)) rfl rfl (by decide) (Nat.le_of_ble_eq_true rfl) dX4_readOpened_50 (fun M148_ q149_ => ?_)
      obtain ⟨hI151_, hF152_, h150_, hs154_⟩ := q149_
      have hF153_ := hF144_.tr hF152_ (fun c k => (fun h => h.elim (fun h => (Or.inr (Or.inr (Or.inr (Or.inr (Or.inr (Or.inl ⟨h.1, h.2.1, h.2.2⟩))))))) (fun h => h.elim (fun h => (Or.inr (Or.inr (Or.inr (Or.inr (Or.inl ⟨h.1, h.2.1, h.2.2.1, h.2.2.2⟩)))))) (fun h => h.elim))))
      have kf155_ : M148_.1 (4, 0, 0) 1 = 1 := by rw [(hF152_ (4, 0, 0) 1 (by simp [S_c_X1_add]))]; exact kf146_
      have kf156_ : M148_.1 (4, 0, 0) 2 = 1 ∨ M148_.1 (4, 0, 0) 2 = 2 ∨ M148_.1 (4, 0, 0) 2 = 3 := by rw [(hF152_ (4, 0, 0) 2 (by simp [S_c_X1_add]))]; exact kf147_
      have kf157_ : (M148_.1 (4, 0, 0) 5).toInt + (((m - 1) : Nat) : Int) = 5 := by rw [(hF152_ (4, 0, 0) 5 (by simp [S_c_X1_add]))]; exact h141_
      refine w_goto (tgt := 115) dX4_readOpened_53 (by decide) ?_
      refine w_aload_n dX4_readOpened_115 rfl 0 rfl ?_
      refine w_dup dX4_readOpened_116 rfl ?_
      refine w_getI fl_RX4_38 rfl rfl ic_4 dX4_readOpened_117 (fun z158_ e159_ => ?_)
      have h160_ : z158_.toInt + (((m - 1) : Nat) : Int) = 5 := by rw [e159_]; exact kf157_
      refine w_iconst (v := 1) dX4_readOpened_120 (by decide) ?_
      refine w_isubB dX4_readOpened_121 (rfl : z158_.toInt = z158_.toInt) li_1 (lf_c_X4_readOpened_16 M139_ M148_ M20_ M9_ Mz m z1_ z7_ z158_ hk hm e2_ h3_ h4_ h8_ hM10_ kf15_ kf26_ h141_ kf157_ e159_ h160_) (fun z161_ h162_ => ?_)
      refine w_putI CC_nd fl_RX4_38 rfl rfl ic_4 dX4_readOpened_122 (fun M163_ hM164_ => ?_)
      have hI165_ := hI151_.put hM164_ trivial
      have hF166_ := hF153_.put hM164_ (Or.inr (Or.inr (Or.inl ⟨rfl, rfl, rfl⟩)))
      have kf167_ : M163_.1 (4, 0, 0) 1 = 1 := by rw [(show M163_.1 (4, 0, 0) 1 = M148_.1 (4, 0, 0) 1 by rw [hM164_, up_ne (by simp)])]; exact kf155_
      have kf168_ : M163_.1 (4, 0, 0) 2 = 1 ∨ M163_.1 (4, 0, 0) 2 = 2 ∨ M163_.1 (4, 0, 0) 2 = 3 := by rw [(show M163_.1 (4, 0, 0) 2 = M148_.1 (4, 0, 0) 2 by rw [hM164_, up_ne (by simp)])]; exact kf156_
      have kf169_ : (M163_.1 (4, 0, 0) 5).toInt + ((m : Nat) : Int) = 5 := by rw [hM164_, up_same]; exact (lf_c_X4_readOpened_17 M139_ M148_ M163_ M20_ M9_ Mz m z1_ z7_ z158_ z161_ hk hm e2_ h3_ h4_ h8_ hM10_ kf15_ kf26_ h141_ kf157_ e159_ h160_ h162_ hM164_)
      exact w_vret rfl dX4_readOpened_125 ⟨hI165_, hF166_, kf169_⟩
  · refine w_aload_n dX4_readOpened_8 rfl 0 rfl ?_
    refine w_callVv (as := []) (rest := []) (c_X4_fail l G cy ad ((N + d) + 2) Mz hIz) kV_X4_fail (by decide +kernel) (Nat.le_of_ble_eq_true rfl) m_728 rfl rfl rfl ic_4 rfl rfl (by decide) (Nat.le_of_ble_eq_true rfl) dX4_readOpened_9 (fun M170_ q171_ => ?_)
    obtain ⟨hI173_, hF174_, h172_, hs176_⟩ := q171_
    have hF175_ := hFz.tr hF174_ (fun c k => (fun h => h.elim (fun h => (Or.inr (Or.inl ⟨h.1, h.2.1, h.2.2⟩))) (fun h => h.elim)))
    have kf177_ : M170_.1 (4, 0, 0) 1 = 1 := by rw [(hF174_ (4, 0, 0) 1 (by simp [S_c_X4_fail]))]; exact hT
    have kf178_ : M170_.1 (4, 0, 0) 2 = 1 ∨ M170_.1 (4, 0, 0) 2 = 2 ∨ M170_.1 (4, 0, 0) 2 = 3 := by rw [(hF174_ (4, 0, 0) 2 (by simp [S_c_X4_fail]))]; exact hN
    have kf179_ : (M170_.1 (4, 0, 0) 5).toInt + ((m : Nat) : Int) = 5 := by rw [(hF174_ (4, 0, 0) 5 (by simp [S_c_X4_fail]))]; exact hk
    exact w_vret rfl dX4_readOpened_12 ⟨hI173_, hF175_, kf179_⟩
theorem lf_c_X4_readOne_0  (r4_ : Int32) (h15_ : r4_.toInt < 48) (h16_ : ¬ r4_.toInt = 45) (h26_ : ¬ r4_.toInt = 40) (h9 : r4_.toInt = 91) : False := by have r_r4_ := rngI r4_; omega
theorem lf_c_X4_readOne_1  (r4_ : Int32) (h15_ : 48 ≤ r4_.toInt) (h47_ : 57 < r4_.toInt) (h9 : r4_.toInt = 45) : False := by have r_r4_ := rngI r4_; omega
theorem lf_c_X4_readOne_2  (r4_ : Int32) (h15_ : 48 ≤ r4_.toInt) (h47_ : 57 < r4_.toInt) (h48_ : ¬ r4_.toInt = 45) (h9 : r4_.toInt = 40) : False := by have r_r4_ := rngI r4_; omega
set_option maxHeartbeats 4000000 in
set_option maxRecDepth 100000 in
theorem c_X4_readOne (l : Launch) (G : va_G) (cy : Nat → ClassId) (ad : rf → Nat) (d : Nat) (N : Nat) (m : Nat) (Mz : mM) (hIz : Inv Mz) (hA : ∀ k : Nat, k + 1 = m → ONEC l G cy ad N k) (hB : ∀ k : Nat, k + 1 = m → CMPC l G cy ad N k) (hT : Mz.1 (4, 0, 0) 1 = 1) (hN : Mz.1 (4, 0, 0) 2 = 1 ∨ Mz.1 (4, 0, 0) 2 = 2 ∨ Mz.1 (4, 0, 0) 2 = 3) (hk : (Mz.1 (4, 0, 0) 5).toInt + ((m : Nat) : Int) = 5) (hm : m ≤ 5) : WP CC l G cy ad yX4_readOne cX4_readOne 2 none ((N + d) + 9) 0 [(0, vR (4, 0, 0))] [] Mz (fun r M' => Inv M' ∧ FR (S_reader) Mz M' ∧ (M'.1 (4, 0, 0) 5).toInt + ((m : Nat) : Int) = 5) := by
  have hFz : FR (S_reader) Mz Mz := FR.self
  refine w_aload_n dX4_readOne_0 rfl 0 rfl ?_
  refine w_getI fl_RX4_35 rfl rfl ic_4 dX4_readOne_1 (fun z1_ e2_ => ?_)
  refine w_if_lt (tgt := 8) dX4_readOne_4 (by decide) (rfl : z1_.toInt = z1_.toInt) (fun h3_ => ?_) (fun h3_ => ?_)
  · refine w_aload_n dX4_readOne_8 rfl 0 rfl ?_
    refine w_callV (as := []) (rest := []) (c_X4_next l G cy ad ((N + d) + 7) Mz hIz hT) kV_X4_next (by decide +kernel) (Nat.le_of_ble_eq_true rfl) m_708 rfl rfl rfl ic_4 rfl rfl (by decide) (Nat.le_of_ble_eq_true rfl) dX4_readOne_9 (fun r4_ M5_ q6_ => ?_)
    obtain ⟨hI8_, hF9_, h7_, hs11_⟩ := q6_
    have hF10_ := hFz.tr hF9_ (fun c k => (fun h => h.elim (fun h => (Or.inl ⟨h.1, h.2.1, h.2.2⟩)) (fun h => h.elim)))
    have kf12_ : M5_.1 (4, 0, 0) 1 = 1 := by rw [(hF9_ (4, 0, 0) 1 (by simp [S_c_X4_next]))]; exact hT
    have kf13_ : M5_.1 (4, 0, 0) 2 = 1 ∨ M5_.1 (4, 0, 0) 2 = 2 ∨ M5_.1 (4, 0, 0) 2 = 3 := by rw [(hF9_ (4, 0, 0) 2 (by simp [S_c_X4_next]))]; exact hN
    have kf14_ : (M5_.1 (4, 0, 0) 5).toInt + ((m : Nat) : Int) = 5 := by rw [(hF9_ (4, 0, 0) 5 (by simp [S_c_X4_next]))]; exact hk
    refine w_istore_n (ls' := [(1, vI r4_), (0, vR (4, 0, 0))]) dX4_readOne_12 rfl (by decide) rfl ?_
    refine w_iload_n dX4_readOne_13 rfl 0 rfl ?_
    refine w_bipush (v := 48) dX4_readOne_14 (by decide) ?_
    refine w_icmp_lt (tgt := 32) dX4_readOne_16 (by decide) (rfl : r4_.toInt = r4_.toInt) li_48 (fun h15_ => ?_) (fun h15_ => ?_)
    · refine w_iload_n dX4_readOne_32 rfl 0 rfl ?_
      refine w_bipush (v := 45) dX4_readOne_33 (by decide) ?_
      refine w_icmp_eq (tgt := 50) dX4_readOne_35 (by decide) (rfl : r4_.toInt = r4_.toInt) li_45 (fun h16_ => ?_) (fun h16_ => ?_)
      · refine w_aload_n dX4_readOne_50 rfl 1 rfl ?_
        refine w_iload_n dX4_readOne_51 rfl 0 rfl ?_
        refine w_callVv (as := [vI r4_]) (rest := []) (c_X4_readOpened l G cy ad (d + 5) N m r4_ M5_ hI8_ hA hB kf12_ kf13_ kf14_ hm) kV_X4_readOpened (by decide +kernel) (Nat.le_of_ble_eq_true rfl) m_724 rfl rfl rfl ic_4 rfl rfl (by decide) (Nat.le_of_ble_eq_true rfl) dX4_readOne_52 (fun M17_ q18_ => ?_)
        obtain ⟨hI20_, hF21_, h19_⟩ := q18_
        have hF22_ := hF10_.tr hF21_ (fun c k => (fun h => h.elim (fun h => (Or.inl ⟨h.1, h.2.1, h.2.2⟩)) (fun h => h.elim (fun h => (Or.inr (Or.inl ⟨h.1, h.2.1, h.2.2⟩))) (fun h => h.elim (fun h => (Or.inr (Or.inr (Or.inl ⟨h.1, h.2.1, h.2.2⟩)))) (fun h => h.elim (fun h => (Or.inr (Or.inr (Or.inr (Or.inl ⟨h.1, h.2.1, h.2.2⟩))))) (fun h => h.elim (fun h => (Or.inr (Or.inr (Or.inr (Or.inr (Or.inl ⟨h.1, h.2.1, h.2.2.1, h.2.2.2⟩)))))) (fun h => h.elim (fun h => (Or.inr (Or.inr (Or.inr (Or.inr (Or.inr (Or.inl ⟨h.1, h.2.1, h.2.2⟩))))))) (fun h => h.elim))))))))
        have kf24_ : M17_.1 (4, 0, 0) 1 = 1 := by rw [(hF21_ (4, 0, 0) 1 (by simp [S_reader]))]; exact kf12_
        have kf25_ : M17_.1 (4, 0, 0) 2 = 1 ∨ M17_.1 (4, 0, 0) 2 = 2 ∨ M17_.1 (4, 0, 0) 2 = 3 := by rw [(hF21_ (4, 0, 0) 2 (by simp [S_reader]))]; exact kf13_
        refine w_goto (tgt := 63) dX4_readOne_55 (by decide) ?_
        exact w_vret rfl dX4_readOne_63 ⟨hI20_, hF22_, h19_⟩
      · refine w_iload_n dX4_readOne_38 rfl 0 rfl ?_
        refine w_bipush (v := 40) dX4_readOne_39 (by decide) ?_
        refine w_icmp_eq (tgt := 50) dX4_readOne_41 (by decide) (rfl : r4_.toInt = r4_.toInt) li_40 (fun h26_ => ?_) (fun h26_ => ?_)
        · refine w_aload_n dX4_readOne_50 rfl 1 rfl ?_
          refine w_iload_n dX4_readOne_51 rfl 0 rfl ?_
          refine w_callVv (as := [vI r4_]) (rest := []) (c_X4_readOpened l G cy ad (d + 5) N m r4_ M5_ hI8_ hA hB kf12_ kf13_ kf14_ hm) kV_X4_readOpened (by decide +kernel) (Nat.le_of_ble_eq_true rfl) m_724 rfl rfl rfl ic_4 rfl rfl (by decide) (Nat.le_of_ble_eq_true rfl) dX4_readOne_52 (fun M27_ q28_ => ?_)
          obtain ⟨hI30_, hF31_, h29_⟩ := q28_
          have hF32_ := hF10_.tr hF31_ (fun c k => (fun h => h.elim (fun h => (Or.inl ⟨h.1, h.2.1, h.2.2⟩)) (fun h => h.elim (fun h => (Or.inr (Or.inl ⟨h.1, h.2.1, h.2.2⟩))) (fun h => h.elim (fun h => (Or.inr (Or.inr (Or.inl ⟨h.1, h.2.1, h.2.2⟩)))) (fun h => h.elim (fun h => (Or.inr (Or.inr (Or.inr (Or.inl ⟨h.1, h.2.1, h.2.2⟩))))) (fun h => h.elim (fun h => (Or.inr (Or.inr (Or.inr (Or.inr (Or.inl ⟨h.1, h.2.1, h.2.2.1, h.2.2.2⟩)))))) (fun h => h.elim (fun h => (Or.inr (Or.inr (Or.inr (Or.inr (Or.inr (Or.inl ⟨h.1, h.2.1, h.2.2⟩))))))) (fun h => h.elim))))))))
          have kf34_ : M27_.1 (4, 0, 0) 1 = 1 := by rw [(hF31_ (4, 0, 0) 1 (by simp [S_reader]))]; exact kf12_
          have kf35_ : M27_.1 (4, 0, 0) 2 = 1 ∨ M27_.1 (4, 0, 0) 2 = 2 ∨ M27_.1 (4, 0, 0) 2 = 3 := by rw [(hF31_ (4, 0, 0) 2 (by simp [S_reader]))]; exact kf13_
          refine w_goto (tgt := 63) dX4_readOne_55 (by decide) ?_
          exact w_vret rfl dX4_readOne_63 ⟨hI30_, hF32_, h29_⟩
        · refine w_iload_n dX4_readOne_44 rfl 0 rfl ?_
          refine w_bipush (v := 91) dX4_readOne_45 (by decide) ?_
          refine w_icmp_ne (tgt := 58) dX4_readOne_47 (by decide) (rfl : r4_.toInt = r4_.toInt) li_91 (fun h36_ => ?_) (fun h9 => (lf_c_X4_readOne_0 r4_ h15_ h16_ h26_ h9).elim)
          refine w_aload_n dX4_readOne_58 rfl 1 rfl ?_
          refine w_iload_n dX4_readOne_59 rfl 0 rfl ?_
          refine w_callVv (as := [vI r4_]) (rest := []) (c_X4_readName l G cy ad (N + d) r4_ M5_ hI8_ kf12_ kf13_) kV_X4_readName (by decide +kernel) (Nat.le_of_ble_eq_true rfl) m_736 rfl rfl rfl ic_4 rfl rfl (by decide) (Nat.le_of_ble_eq_true rfl) dX4_readOne_60 (fun M37_ q38_ => ?_)
          obtain ⟨hI40_, hF41_, h39_, hs43_⟩ := q38_
          have hF42_ := hF10_.tr hF41_ (fun c k => (fun h => h.elim (fun h => (Or.inr (Or.inl ⟨h.1, h.2.1, h.2.2⟩))) (fun h => h.elim (fun h => (Or.inl ⟨h.1, h.2.1, h.2.2⟩)) (fun h => h.elim (fun h => (Or.inr (Or.inr (Or.inr (Or.inr (Or.inr (Or.inl ⟨h.1, h.2.1, h.2.2⟩))))))) (fun h => h.elim (fun h => (Or.inr (Or.inr (Or.inr (Or.inr (Or.inl ⟨h.1, h.2.1, h.2.2.1, h.2.2.2⟩)))))) (fun h => h.elim (fun h => (Or.inr (Or.inr (Or.inr (Or.inl ⟨h.1, h.2.1, h.2.2⟩))))) (fun h => h.elim)))))))
          have kf44_ : M37_.1 (4, 0, 0) 1 = 1 := by rw [(hF41_ (4, 0, 0) 1 (by simp [S_c_X4_readName]))]; exact kf12_
          have kf45_ : M37_.1 (4, 0, 0) 2 = 1 ∨ M37_.1 (4, 0, 0) 2 = 2 ∨ M37_.1 (4, 0, 0) 2 = 3 := by rw [(hF41_ (4, 0, 0) 2 (by simp [S_c_X4_readName]))]; exact kf13_
          have kf46_ : (M37_.1 (4, 0, 0) 5).toInt + ((m : Nat) : Int) = 5 := by rw [(hF41_ (4, 0, 0) 5 (by simp [S_c_X4_readName]))]; exact kf14_
          exact w_vret rfl dX4_readOne_63 ⟨hI40_, hF42_, kf46_⟩
    · refine w_iload_n dX4_readOne_19 rfl 0 rfl ?_
      refine w_bipush (v := 57) dX4_readOne_20 (by decide) ?_
      refine w_icmp_gt (tgt := 32) dX4_readOne_22 (by decide) (rfl : r4_.toInt = r4_.toInt) li_57 (fun h47_ => ?_) (fun h47_ => ?_)
      · refine w_iload_n dX4_readOne_32 rfl 0 rfl ?_
        refine w_bipush (v := 45) dX4_readOne_33 (by decide) ?_
        refine w_icmp_eq (tgt := 50) dX4_readOne_35 (by decide) (rfl : r4_.toInt = r4_.toInt) li_45 (fun h9 => (lf_c_X4_readOne_1 r4_ h15_ h47_ h9).elim) (fun h48_ => ?_)
        refine w_iload_n dX4_readOne_38 rfl 0 rfl ?_
        refine w_bipush (v := 40) dX4_readOne_39 (by decide) ?_
        refine w_icmp_eq (tgt := 50) dX4_readOne_41 (by decide) (rfl : r4_.toInt = r4_.toInt) li_40 (fun h9 => (lf_c_X4_readOne_2 r4_ h15_ h47_ h48_ h9).elim) (fun h49_ => ?_)
        refine w_iload_n dX4_readOne_44 rfl 0 rfl ?_
        refine w_bipush (v := 91) dX4_readOne_45 (by decide) ?_
        refine w_icmp_ne (tgt := 58) dX4_readOne_47 (by decide) (rfl : r4_.toInt = r4_.toInt) li_91 (fun h50_ => ?_) (fun h50_ => ?_)
        · refine w_aload_n dX4_readOne_58 rfl 1 rfl ?_
          refine w_iload_n dX4_readOne_59 rfl 0 rfl ?_
          refine w_callVv (as := [vI r4_]) (rest := []) (c_X4_readName l G cy ad (N + d) r4_ M5_ hI8_ kf12_ kf13_) kV_X4_readName (by decide +kernel) (Nat.le_of_ble_eq_true rfl) m_736 rfl rfl rfl ic_4 rfl rfl (by decide) (Nat.le_of_ble_eq_true rfl) dX4_readOne_60 (fun M51_ q52_ => ?_)
          obtain ⟨hI54_, hF55_, h53_, hs57_⟩ := q52_
          have hF56_ := hF10_.tr hF55_ (fun c k => (fun h => h.elim (fun h => (Or.inr (Or.inl ⟨h.1, h.2.1, h.2.2⟩))) (fun h => h.elim (fun h => (Or.inl ⟨h.1, h.2.1, h.2.2⟩)) (fun h => h.elim (fun h => (Or.inr (Or.inr (Or.inr (Or.inr (Or.inr (Or.inl ⟨h.1, h.2.1, h.2.2⟩))))))) (fun h => h.elim (fun h => (Or.inr (Or.inr (Or.inr (Or.inr (Or.inl ⟨h.1, h.2.1, h.2.2.1, h.2.2.2⟩)))))) (fun h => h.elim (fun h => (Or.inr (Or.inr (Or.inr (Or.inl ⟨h.1, h.2.1, h.2.2⟩))))) (fun h => h.elim)))))))
          have kf58_ : M51_.1 (4, 0, 0) 1 = 1 := by rw [(hF55_ (4, 0, 0) 1 (by simp [S_c_X4_readName]))]; exact kf12_
          have kf59_ : M51_.1 (4, 0, 0) 2 = 1 ∨ M51_.1 (4, 0, 0) 2 = 2 ∨ M51_.1 (4, 0, 0) 2 = 3 := by rw [(hF55_ (4, 0, 0) 2 (by simp [S_c_X4_readName]))]; exact kf13_
          have kf60_ : (M51_.1 (4, 0, 0) 5).toInt + ((m : Nat) : Int) = 5 := by rw [(hF55_ (4, 0, 0) 5 (by simp [S_c_X4_readName]))]; exact kf14_
          exact w_vret rfl dX4_readOne_63 ⟨hI54_, hF56_, kf60_⟩
        · refine w_aload_n dX4_readOne_50 rfl 1 rfl ?_
          refine w_iload_n dX4_readOne_51 rfl 0 rfl ?_
          refine w_callVv (as := [vI r4_]) (rest := []) (c_X4_readOpened l G cy ad (d + 5) N m r4_ M5_ hI8_ hA hB kf12_ kf13_ kf14_ hm) kV_X4_readOpened (by decide +kernel) (Nat.le_of_ble_eq_true rfl) m_724 rfl rfl rfl ic_4 rfl rfl (by decide) (Nat.le_of_ble_eq_true rfl) dX4_readOne_52 (fun M61_ q62_ => ?_)
          obtain ⟨hI64_, hF65_, h63_⟩ := q62_
          have hF66_ := hF10_.tr hF65_ (fun c k => (fun h => h.elim (fun h => (Or.inl ⟨h.1, h.2.1, h.2.2⟩)) (fun h => h.elim (fun h => (Or.inr (Or.inl ⟨h.1, h.2.1, h.2.2⟩))) (fun h => h.elim (fun h => (Or.inr (Or.inr (Or.inl ⟨h.1, h.2.1, h.2.2⟩)))) (fun h => h.elim (fun h => (Or.inr (Or.inr (Or.inr (Or.inl ⟨h.1, h.2.1, h.2.2⟩))))) (fun h => h.elim (fun h => (Or.inr (Or.inr (Or.inr (Or.inr (Or.inl ⟨h.1, h.2.1, h.2.2.1, h.2.2.2⟩)))))) (fun h => h.elim (fun h => (Or.inr (Or.inr (Or.inr (Or.inr (Or.inr (Or.inl ⟨h.1, h.2.1, h.2.2⟩))))))) (fun h => h.elim))))))))
          have kf68_ : M61_.1 (4, 0, 0) 1 = 1 := by rw [(hF65_ (4, 0, 0) 1 (by simp [S_reader]))]; exact kf12_
          have kf69_ : M61_.1 (4, 0, 0) 2 = 1 ∨ M61_.1 (4, 0, 0) 2 = 2 ∨ M61_.1 (4, 0, 0) 2 = 3 := by rw [(hF65_ (4, 0, 0) 2 (by simp [S_reader]))]; exact kf13_
          refine w_goto (tgt := 63) dX4_readOne_55 (by decide) ?_
          exact w_vret rfl dX4_readOne_63 ⟨hI64_, hF66_, h63_⟩
      · refine w_aload_n dX4_readOne_25 rfl 1 rfl ?_
        refine w_callVv (as := []) (rest := []) (c_X4_readNumber l G cy ad ((N + d) + 7) M5_ hI8_ kf12_) kV_X4_readNumber (by decide +kernel) (Nat.le_of_ble_eq_true rfl) m_716 rfl rfl rfl ic_4 rfl rfl (by decide) (Nat.le_of_ble_eq_true rfl) dX4_readOne_26 (fun M70_ q71_ => ?_)
        obtain ⟨hI73_, hF74_, h72_, hs76_⟩ := q71_
        have hF75_ := hF10_.tr hF74_ (fun c k => (fun h => h.elim (fun h => (Or.inr (Or.inr (Or.inr (Or.inr (Or.inr (Or.inl ⟨h.1, h.2.1, h.2.2⟩))))))) (fun h => h.elim (fun h => (Or.inr (Or.inr (Or.inr (Or.inr (Or.inl ⟨h.1, h.2.1, h.2.2.1, h.2.2.2⟩)))))) (fun h => h.elim (fun h => (Or.inr (Or.inr (Or.inr (Or.inl ⟨h.1, h.2.1, h.2.2⟩))))) (fun h => h.elim (fun h => (Or.inl ⟨h.1, h.2.1, h.2.2⟩)) (fun h => h.elim))))))
        have kf77_ : M70_.1 (4, 0, 0) 1 = 1 := by rw [(hF74_ (4, 0, 0) 1 (by simp [S_c_X4_readNumber]))]; exact kf12_
        have kf78_ : M70_.1 (4, 0, 0) 2 = 1 ∨ M70_.1 (4, 0, 0) 2 = 2 ∨ M70_.1 (4, 0, 0) 2 = 3 := by rw [(hF74_ (4, 0, 0) 2 (by simp [S_c_X4_readNumber]))]; exact kf13_
        have kf79_ : (M70_.1 (4, 0, 0) 5).toInt + ((m : Nat) : Int) = 5 := by rw [(hF74_ (4, 0, 0) 5 (by simp [S_c_X4_readNumber]))]; exact kf14_
        refine w_goto (tgt := 63) dX4_readOne_29 (by decide) ?_
        exact w_vret rfl dX4_readOne_63 ⟨hI73_, hF75_, kf79_⟩
  · exact w_vret rfl dX4_readOne_7 ⟨hIz, hFz, hk⟩
theorem lf_c_X4_readTerm_0  (r15_ : Int32) (h26_ : r15_.toInt = 42) : -2147483648 ≤ 2000 + r15_.toInt ∧ 2000 + r15_.toInt < 2147483648 := by have r_r15_ := rngI r15_; omega
theorem lf_c_X4_readTerm_1  (v1_6 : Int32) (hv0_6 : 0 ≤ v1_6.toInt) (hv1_6 : v1_6.toInt ≤ 48) (h11_ : v1_6.toInt < 48) : -2147483648 ≤ v1_6.toInt + 1 ∧ v1_6.toInt + 1 < 2147483648 := by have r_v1_6 := rngI v1_6; omega
theorem lf_c_X4_readTerm_2  (v1_6 : Int32) (z59_ : Int32) (hv0_6 : 0 ≤ v1_6.toInt) (hv1_6 : v1_6.toInt ≤ 48) (h11_ : v1_6.toInt < 48) (h60_ : z59_.toInt = v1_6.toInt + 1) : 0 ≤ z59_.toInt := by have r_v1_6 := rngI v1_6; have r_z59_ := rngI z59_; omega
theorem lf_c_X4_readTerm_3  (v1_6 : Int32) (z59_ : Int32) (hv0_6 : 0 ≤ v1_6.toInt) (hv1_6 : v1_6.toInt ≤ 48) (h11_ : v1_6.toInt < 48) (h60_ : z59_.toInt = v1_6.toInt + 1) : z59_.toInt ≤ 48 := by have r_v1_6 := rngI v1_6; have r_z59_ := rngI z59_; omega
theorem lf_c_X4_readTerm_4  (v1_6 : Int32) (z59_ : Int32) (hv0_6 : 0 ≤ v1_6.toInt) (hv1_6 : v1_6.toInt ≤ 48) (h11_ : v1_6.toInt < 48) (h60_ : z59_.toInt = v1_6.toInt + 1) : (2147483648 - z59_.toInt).toNat < (2147483648 - v1_6.toInt).toNat := by have r_v1_6 := rngI v1_6; have r_z59_ := rngI z59_; omega
theorem lf_c_X4_readTerm_5  (r15_ : Int32) (h26_ : ¬ r15_.toInt = 42) (h61_ : r15_.toInt = 47) : -2147483648 ≤ 2000 + r15_.toInt ∧ 2000 + r15_.toInt < 2147483648 := by have r_r15_ := rngI r15_; omega
theorem lf_c_X4_readTerm_6  (v1_6 : Int32) (hv0_6 : 0 ≤ v1_6.toInt) (hv1_6 : v1_6.toInt ≤ 48) (h11_ : v1_6.toInt < 48) : -2147483648 ≤ v1_6.toInt + 1 ∧ v1_6.toInt + 1 < 2147483648 := by have r_v1_6 := rngI v1_6; omega
theorem lf_c_X4_readTerm_7  (v1_6 : Int32) (z94_ : Int32) (hv0_6 : 0 ≤ v1_6.toInt) (hv1_6 : v1_6.toInt ≤ 48) (h11_ : v1_6.toInt < 48) (h95_ : z94_.toInt = v1_6.toInt + 1) : 0 ≤ z94_.toInt := by have r_v1_6 := rngI v1_6; have r_z94_ := rngI z94_; omega
theorem lf_c_X4_readTerm_8  (v1_6 : Int32) (z94_ : Int32) (hv0_6 : 0 ≤ v1_6.toInt) (hv1_6 : v1_6.toInt ≤ 48) (h11_ : v1_6.toInt < 48) (h95_ : z94_.toInt = v1_6.toInt + 1) : z94_.toInt ≤ 48 := by have r_v1_6 := rngI v1_6; have r_z94_ := rngI z94_; omega
theorem lf_c_X4_readTerm_9  (v1_6 : Int32) (z94_ : Int32) (hv0_6 : 0 ≤ v1_6.toInt) (hv1_6 : v1_6.toInt ≤ 48) (h11_ : v1_6.toInt < 48) (h95_ : z94_.toInt = v1_6.toInt + 1) : (2147483648 - z94_.toInt).toNat < (2147483648 - v1_6.toInt).toNat := by have r_v1_6 := rngI v1_6; have r_z94_ := rngI z94_; omega
theorem lf_c_X4_readTerm_10  (r15_ : Int32) (h26_ : ¬ r15_.toInt = 42) (h61_ : ¬ r15_.toInt = 47) (h96_ : r15_.toInt = 37) : -2147483648 ≤ 2000 + r15_.toInt ∧ 2000 + r15_.toInt < 2147483648 := by have r_r15_ := rngI r15_; omega
theorem lf_c_X4_readTerm_11  (v1_6 : Int32) (hv0_6 : 0 ≤ v1_6.toInt) (hv1_6 : v1_6.toInt ≤ 48) (h11_ : v1_6.toInt < 48) : -2147483648 ≤ v1_6.toInt + 1 ∧ v1_6.toInt + 1 < 2147483648 := by have r_v1_6 := rngI v1_6; omega
theorem lf_c_X4_readTerm_12  (v1_6 : Int32) (z129_ : Int32) (hv0_6 : 0 ≤ v1_6.toInt) (hv1_6 : v1_6.toInt ≤ 48) (h11_ : v1_6.toInt < 48) (h130_ : z129_.toInt = v1_6.toInt + 1) : 0 ≤ z129_.toInt := by have r_v1_6 := rngI v1_6; have r_z129_ := rngI z129_; omega
theorem lf_c_X4_readTerm_13  (v1_6 : Int32) (z129_ : Int32) (hv0_6 : 0 ≤ v1_6.toInt) (hv1_6 : v1_6.toInt ≤ 48) (h11_ : v1_6.toInt < 48) (h130_ : z129_.toInt = v1_6.toInt + 1) : z129_.toInt ≤ 48 := by have r_v1_6 := rngI v1_6; have r_z129_ := rngI z129_; omega
theorem lf_c_X4_readTerm_14  (v1_6 : Int32) (z129_ : Int32) (hv0_6 : 0 ≤ v1_6.toInt) (hv1_6 : v1_6.toInt ≤ 48) (h11_ : v1_6.toInt < 48) (h130_ : z129_.toInt = v1_6.toInt + 1) : (2147483648 - z129_.toInt).toNat < (2147483648 - v1_6.toInt).toNat := by have r_v1_6 := rngI v1_6; have r_z129_ := rngI z129_; omega
theorem lf_c_X4_readTerm_15    : 0 ≤ (0 : Int32).toInt := by have q0 := li_0; omega
theorem lf_c_X4_readTerm_16    : (0 : Int32).toInt ≤ 48 := by have q0 := li_0; omega
set_option maxHeartbeats 4000000 in
set_option maxRecDepth 100000 in
theorem c_X4_readTerm (l : Launch) (G : va_G) (cy : Nat → ClassId) (ad : rf → Nat) (d : Nat) (N : Nat) (m : Nat) (Mz : mM) (hIz : Inv Mz) (hA : ∀ k : Nat, k + 1 = m → ONEC l G cy ad N k) (hB : ∀ k : Nat, k + 1 = m → CMPC l G cy ad N k) (hT : Mz.1 (4, 0, 0) 1 = 1) (hN : Mz.1 (4, 0, 0) 2 = 1 ∨ Mz.1 (4, 0, 0) 2 = 2 ∨ Mz.1 (4, 0, 0) 2 = 3) (hk : (Mz.1 (4, 0, 0) 5).toInt + ((m : Nat) : Int) = 5) (hm : m ≤ 5) : WP CC l G cy ad yX4_readTerm cX4_readTerm 3 none ((N + d) + 10) 0 [(0, vR (4, 0, 0))] [] Mz (fun r M' => Inv M' ∧ FR (S_reader) Mz M' ∧ (M'.1 (4, 0, 0) 5).toInt + ((m : Nat) : Int) = 5) := by
  have hFz : FR (S_reader) Mz Mz := FR.self
  refine w_aload_n dX4_readTerm_0 rfl 0 rfl ?_
  refine w_callVv (as := []) (rest := []) (c_X4_readOne l G cy ad d N m Mz hIz hA hB hT hN hk hm) kV_X4_readOne (by decide +kernel) (Nat.le_of_ble_eq_true rfl) m_704 rfl rfl rfl ic_4 rfl rfl (by decide) (Nat.le_of_ble_eq_true rfl) dX4_readTerm_1 (fun M1_ q2_ => ?_)
  obtain ⟨hI4_, hF5_, h3_⟩ := q2_
  have hF6_ := hFz.tr hF5_ (fun c k => (fun h => h.elim (fun h => (Or.inl ⟨h.1, h.2.1, h.2.2⟩)) (fun h => h.elim (fun h => (Or.inr (Or.inl ⟨h.1, h.2.1, h.2.2⟩))) (fun h => h.elim (fun h => (Or.inr (Or.inr (Or.inl ⟨h.1, h.2.1, h.2.2⟩)))) (fun h => h.elim (fun h => (Or.inr (Or.inr (Or.inr (Or.inl ⟨h.1, h.2.1, h.2.2⟩))))) (fun h => h.elim (fun h => (Or.inr (Or.inr (Or.inr (Or.inr (Or.inl ⟨h.1, h.2.1, h.2.2.1, h.2.2.2⟩)))))) (fun h => h.elim (fun h => (Or.inr (Or.inr (Or.inr (Or.inr (Or.inr (Or.inl ⟨h.1, h.2.1, h.2.2⟩))))))) (fun h => h.elim))))))))
  have kf8_ : M1_.1 (4, 0, 0) 1 = 1 := by rw [(hF5_ (4, 0, 0) 1 (by simp [S_reader]))]; exact hT
  have kf9_ : M1_.1 (4, 0, 0) 2 = 1 ∨ M1_.1 (4, 0, 0) 2 = 2 ∨ M1_.1 (4, 0, 0) 2 = 3 := by rw [(hF5_ (4, 0, 0) 2 (by simp [S_reader]))]; exact hN
  refine w_iconst (v := 0) dX4_readTerm_4 (by decide) ?_
  refine w_istore_n (ls' := [(1, vI 0), (0, vR (4, 0, 0))]) dX4_readTerm_5 rfl (by decide) rfl ?_
  have lp10_ : ∀ (nn_6 : Nat) (M_6 : mM) (hI_6 : Inv M_6) (hF_6 : FR (S_reader) Mz M_6) (v1_6 : Int32) (hv0_6 : 0 ≤ v1_6.toInt) (hv1_6 : v1_6.toInt ≤ 48) (kv0_6 : M_6.1 (4, 0, 0) 1 = 1) (kv1_6 : M_6.1 (4, 0, 0) 2 = 1 ∨ M_6.1 (4, 0, 0) 2 = 2 ∨ M_6.1 (4, 0, 0) 2 = 3) (kv2_6 : (M_6.1 (4, 0, 0) 5).toInt + ((m : Nat) : Int) = 5), (2147483648 - v1_6.toInt).toNat < nn_6 → WP CC l G cy ad yX4_readTerm cX4_readTerm 3 none ((N + d) + 10) 6 [(1, vI v1_6), (0, vR (4, 0, 0))] [] M_6 (fun r M' => Inv M' ∧ FR (S_reader) Mz M' ∧ (M'.1 (4, 0, 0) 5).toInt + ((m : Nat) : Int) = 5) := by
    intro nn_6
    induction nn_6 with
    | zero => intro M_6 hI_6 hF_6 v1_6 hv0_6 hv1_6 kv0_6 kv1_6 kv2_6 hm_6; exact absurd hm_6 (Nat.not_lt_zero _)
    | succ nn_6 ih_6 =>
      intro M_6 hI_6 hF_6 v1_6 hv0_6 hv1_6 kv0_6 kv1_6 kv2_6 hm_6
      refine w_iload_n dX4_readTerm_6 rfl 0 rfl ?_
      refine w_bipush (v := 48) dX4_readTerm_7 (by decide) ?_
      refine w_icmp_ge (tgt := 75) dX4_readTerm_9 (by decide) (rfl : v1_6.toInt = v1_6.toInt) li_48 (fun h11_ => ?_) (fun h11_ => ?_)
      · exact w_vret rfl dX4_readTerm_75 ⟨hI_6, hF_6, kv2_6⟩
      · refine w_aload_n dX4_readTerm_12 rfl 1 rfl ?_
        refine w_getI fl_RX4_35 rfl rfl ic_4 dX4_readTerm_13 (fun z12_ e13_ => ?_)
        refine w_if_ge (tgt := 75) dX4_readTerm_16 (by decide) (rfl : z12_.toInt = z12_.toInt) (fun h14_ => ?_) (fun h14_ => ?_)
        · exact w_vret rfl dX4_readTerm_75 ⟨hI_6, hF_6, kv2_6⟩
        · refine w_aload_n dX4_readTerm_19 rfl 1 rfl ?_
          refine w_callV (as := []) (rest := []) (c_X4_next l G cy ad ((N + d) + 8) M_6 hI_6 kv0_6) kV_X4_next (by decide +kernel) (Nat.le_of_ble_eq_true rfl) m_708 rfl rfl rfl ic_4 rfl rfl (by decide) (Nat.le_of_ble_eq_true rfl) dX4_readTerm_20 (fun r15_ M16_ q17_ => ?_)
          obtain ⟨hI19_, hF20_, h18_, hs22_⟩ := q17_
          have hF21_ := hF_6.tr hF20_ (fun c k => (fun h => h.elim (fun h => (Or.inl ⟨h.1, h.2.1, h.2.2⟩)) (fun h => h.elim)))
          have kf23_ : M16_.1 (4, 0, 0) 1 = 1 := by rw [(hF20_ (4, 0, 0) 1 (by simp [S_c_X4_next]))]; exact kv0_6
          have kf24_ : M16_.1 (4, 0, 0) 2 = 1 ∨ M16_.1 (4, 0, 0) 2 = 2 ∨ M16_.1 (4, 0, 0) 2 = 3 := by rw [(hF20_ (4, 0, 0) 2 (by simp [S_c_X4_next]))]; exact kv1_6
          have kf25_ : (M16_.1 (4, 0, 0) 5).toInt + ((m : Nat) : Int) = 5 := by rw [(hF20_ (4, 0, 0) 5 (by simp [S_c_X4_next]))]; exact kv2_6
          refine w_istore_n (ls' := [(2, vI r15_), (1, vI v1_6), (0, vR (4, 0, 0))]) dX4_readTerm_23 rfl (by decide) rfl ?_
          refine w_iload_n dX4_readTerm_24 rfl 0 rfl ?_
          refine w_bipush (v := 42) dX4_readTerm_25 (by decide) ?_
          refine w_icmp_eq (tgt := 43) dX4_readTerm_27 (by decide) (rfl : r15_.toInt = r15_.toInt) li_42 (fun h26_ => ?_) (fun h26_ => ?_)
          · refine w_aload_n dX4_readTerm_43 rfl 2 rfl ?_
            refine w_dup dX4_readTerm_44 rfl ?_
            refine w_getI fl_RX4_31 rfl rfl ic_4 dX4_readTerm_45 (fun z27_ e28_ => ?_)
            refine w_iconst (v := 1) dX4_readTerm_48 (by decide) ?_
            refine w_iadd dX4_readTerm_49 (fun z29_ h30_ => ?_)
            refine w_putI CC_nd fl_RX4_31 rfl rfl ic_4 dX4_readTerm_50 (fun M31_ hM32_ => ?_)
            have hI33_ := hI19_.put hM32_ trivial
            have hF34_ := hF21_.put hM32_ (Or.inl ⟨rfl, rfl, rfl⟩)
            have kf35_ : M31_.1 (4, 0, 0) 1 = 1 := by rw [(show M31_.1 (4, 0, 0) 1 = M16_.1 (4, 0, 0) 1 by rw [hM32_, up_ne (by simp)])]; exact kf23_
            have kf36_ : M31_.1 (4, 0, 0) 2 = 1 ∨ M31_.1 (4, 0, 0) 2 = 2 ∨ M31_.1 (4, 0, 0) 2 = 3 := by rw [(show M31_.1 (4, 0, 0) 2 = M16_.1 (4, 0, 0) 2 by rw [hM32_, up_ne (by simp)])]; exact kf24_
            have kf37_ : (M31_.1 (4, 0, 0) 5).toInt + ((m : Nat) : Int) = 5 := by rw [(show M31_.1 (4, 0, 0) 5 = M16_.1 (4, 0, 0) 5 by rw [hM32_, up_ne (by simp)])]; exact kf25_
            refine w_aload_n dX4_readTerm_53 rfl 2 rfl ?_
            refine w_callVv (as := []) (rest := []) (c_X4_readOne l G cy ad d N m M31_ hI33_ hA hB kf35_ kf36_ kf37_ hm) kV_X4_readOne (by decide +kernel) (Nat.le_of_ble_eq_true rfl) m_704 rfl rfl rfl ic_4 rfl rfl (by decide) (Nat.le_of_ble_eq_true rfl) dX4_readTerm_54 (fun M38_ q39_ => ?_)
            obtain ⟨hI41_, hF42_, h40_⟩ := q39_
            have hF43_ := hF34_.tr hF42_ (fun c k => (fun h => h.elim (fun h => (Or.inl ⟨h.1, h.2.1, h.2.2⟩)) (fun h => h.elim (fun h => (Or.inr (Or.inl ⟨h.1, h.2.1, h.2.2⟩))) (fun h => h.elim (fun h => (Or.inr (Or.inr (Or.inl ⟨h.1, h.2.1, h.2.2⟩)))) (fun h => h.elim (fun h => (Or.inr (Or.inr (Or.inr (Or.inl ⟨h.1, h.2.1, h.2.2⟩))))) (fun h => h.elim (fun h => (Or.inr (Or.inr (Or.inr (Or.inr (Or.inl ⟨h.1, h.2.1, h.2.2.1, h.2.2.2⟩)))))) (fun h => h.elim (fun h => (Or.inr (Or.inr (Or.inr (Or.inr (Or.inr (Or.inl ⟨h.1, h.2.1, h.2.2⟩))))))) (fun h => h.elim))))))))
            have kf45_ : M38_.1 (4, 0, 0) 1 = 1 := by rw [(hF42_ (4, 0, 0) 1 (by simp [S_reader]))]; exact kf35_
            have kf46_ : M38_.1 (4, 0, 0) 2 = 1 ∨ M38_.1 (4, 0, 0) 2 = 2 ∨ M38_.1 (4, 0, 0) 2 = 3 := by rw [(hF42_ (4, 0, 0) 2 (by simp [S_reader]))]; exact kf36_
            refine w_aload_n dX4_readTerm_57 rfl 2 rfl ?_
            refine w_getR (c' := (1, 3, 0)) fl_RX4_10 rfl rfl ic_4 dX4_readTerm_58 rfl ?_
            refine w_sipush (v := 2000) dX4_readTerm_61 (by decide) ?_
            refine w_iload_n dX4_readTerm_64 rfl 0 rfl ?_
            refine w_iaddB dX4_readTerm_65 li_2000 (rfl : r15_.toInt = r15_.toInt) (lf_c_X4_readTerm_0 r15_ h26_) (fun z47_ h48_ => ?_)
            refine w_callVv (as := [vI z47_]) (rest := []) (c_X1_add l G cy ad ((N + d) + 9) 3 0 z47_ M38_ hI41_ (by first | decide | (unfold vF; omega) | (unfold vRw; omega))) kV_X1_add (by decide +kernel) (Nat.le_of_ble_eq_true rfl) m_720 rfl rfl rfl (ic_1 (by unfold vF; omega)) rfl rfl (by decide) (Nat.le_of_ble_eq_true rfl) dX4_readTerm_66 (fun M49_ q50_ => ?_)
            obtain ⟨hI52_, hF53_, h51_, hs55_⟩ := q50_
            have hF54_ := hF43_.tr hF53_ (fun c k => (fun h => h.elim (fun h => (Or.inr (Or.inr (Or.inr (Or.inr (Or.inr (Or.inl ⟨h.1, h.2.1, h.2.2⟩))))))) (fun h => h.elim (fun h => (Or.inr (Or.inr (Or.inr (Or.inr (Or.inl ⟨h.1, h.2.1, h.2.2.1, h.2.2.2⟩)))))) (fun h => h.elim))))
            have kf56_ : M49_.1 (4, 0, 0) 1 = 1 := by rw [(hF53_ (4, 0, 0) 1 (by simp [S_c_X1_add]))]; exact kf45_
            have kf57_ : M49_.1 (4, 0, 0) 2 = 1 ∨ M49_.1 (4, 0, 0) 2 = 2 ∨ M49_.1 (4, 0, 0) 2 = 3 := by rw [(hF53_ (4, 0, 0) 2 (by simp [S_c_X1_add]))]; exact kf46_
            have kf58_ : (M49_.1 (4, 0, 0) 5).toInt + ((m : Nat) : Int) = 5 := by rw [(hF53_ (4, 0, 0) 5 (by simp [S_c_X1_add]))]; exact h40_
            refine w_iincB (j := 1) (f := fun z59_ => [(1, vI z59_), (2, vI r15_), (0, vR (4, 0, 0))]) dX4_readTerm_69 rfl (by decide) (fun _ => rfl) (rfl : v1_6.toInt = v1_6.toInt) li_1 (lf_c_X4_readTerm_1 v1_6 hv0_6 hv1_6 h11_) (fun z59_ h60_ => ?_)
            refine w_goto (tgt := 6) dX4_readTerm_72 (by decide) ?_
            refine w_loc (ls' := [(1, vI z59_), (0, vR (4, 0, 0))]) [0, 2] rfl ?_
            exact ih_6 M49_ hI52_ hF54_ z59_ (lf_c_X4_readTerm_2 v1_6 z59_ hv0_6 hv1_6 h11_ h60_) (lf_c_X4_readTerm_3 v1_6 z59_ hv0_6 hv1_6 h11_ h60_) kf56_ kf57_ kf58_ (Nat.lt_of_lt_of_le (lf_c_X4_readTerm_4 v1_6 z59_ hv0_6 hv1_6 h11_ h60_) (Nat.le_of_lt_succ hm_6))
          · refine w_iload_n dX4_readTerm_30 rfl 0 rfl ?_
            refine w_bipush (v := 47) dX4_readTerm_31 (by decide) ?_
            refine w_icmp_eq (tgt := 43) dX4_readTerm_33 (by decide) (rfl : r15_.toInt = r15_.toInt) li_47 (fun h61_ => ?_) (fun h61_ => ?_)
            · refine w_aload_n dX4_readTerm_43 rfl 2 rfl ?_
              refine w_dup dX4_readTerm_44 rfl ?_
              refine w_getI fl_RX4_31 rfl rfl ic_4 dX4_readTerm_45 (fun z62_ e63_ => ?_)
              refine w_iconst (v := 1) dX4_readTerm_48 (by decide) ?_
              refine w_iadd dX4_readTerm_49 (fun z64_ h65_ => ?_)
              refine w_putI CC_nd fl_RX4_31 rfl rfl ic_4 dX4_readTerm_50 (fun M66_ hM67_ => ?_)
              have hI68_ := hI19_.put hM67_ trivial
              have hF69_ := hF21_.put hM67_ (Or.inl ⟨rfl, rfl, rfl⟩)
              have kf70_ : M66_.1 (4, 0, 0) 1 = 1 := by rw [(show M66_.1 (4, 0, 0) 1 = M16_.1 (4, 0, 0) 1 by rw [hM67_, up_ne (by simp)])]; exact kf23_
              have kf71_ : M66_.1 (4, 0, 0) 2 = 1 ∨ M66_.1 (4, 0, 0) 2 = 2 ∨ M66_.1 (4, 0, 0) 2 = 3 := by rw [(show M66_.1 (4, 0, 0) 2 = M16_.1 (4, 0, 0) 2 by rw [hM67_, up_ne (by simp)])]; exact kf24_
              have kf72_ : (M66_.1 (4, 0, 0) 5).toInt + ((m : Nat) : Int) = 5 := by rw [(show M66_.1 (4, 0, 0) 5 = M16_.1 (4, 0, 0) 5 by rw [hM67_, up_ne (by simp)])]; exact kf25_
              refine w_aload_n dX4_readTerm_53 rfl 2 rfl ?_
              refine w_callVv (as := []) (rest := []) (c_X4_readOne l G cy ad d N m M66_ hI68_ hA hB kf70_ kf71_ kf72_ hm) kV_X4_readOne (by decide +kernel) (Nat.le_of_ble_eq_true rfl) m_704 rfl rfl rfl ic_4 rfl rfl (by decide) (Nat.le_of_ble_eq_true rfl) dX4_readTerm_54 (fun M73_ q74_ => ?_)
              obtain ⟨hI76_, hF77_, h75_⟩ := q74_
              have hF78_ := hF69_.tr hF77_ (fun c k => (fun h => h.elim (fun h => (Or.inl ⟨h.1, h.2.1, h.2.2⟩)) (fun h => h.elim (fun h => (Or.inr (Or.inl ⟨h.1, h.2.1, h.2.2⟩))) (fun h => h.elim (fun h => (Or.inr (Or.inr (Or.inl ⟨h.1, h.2.1, h.2.2⟩)))) (fun h => h.elim (fun h => (Or.inr (Or.inr (Or.inr (Or.inl ⟨h.1, h.2.1, h.2.2⟩))))) (fun h => h.elim (fun h => (Or.inr (Or.inr (Or.inr (Or.inr (Or.inl ⟨h.1, h.2.1, h.2.2.1, h.2.2.2⟩)))))) (fun h => h.elim (fun h => (Or.inr (Or.inr (Or.inr (Or.inr (Or.inr (Or.inl ⟨h.1, h.2.1, h.2.2⟩))))))) (fun h => h.elim))))))))
              have kf80_ : M73_.1 (4, 0, 0) 1 = 1 := by rw [(hF77_ (4, 0, 0) 1 (by simp [S_reader]))]; exact kf70_
              have kf81_ : M73_.1 (4, 0, 0) 2 = 1 ∨ M73_.1 (4, 0, 0) 2 = 2 ∨ M73_.1 (4, 0, 0) 2 = 3 := by rw [(hF77_ (4, 0, 0) 2 (by simp [S_reader]))]; exact kf71_
              refine w_aload_n dX4_readTerm_57 rfl 2 rfl ?_
              refine w_getR (c' := (1, 3, 0)) fl_RX4_10 rfl rfl ic_4 dX4_readTerm_58 rfl ?_
              refine w_sipush (v := 2000) dX4_readTerm_61 (by decide) ?_
              refine w_iload_n dX4_readTerm_64 rfl 0 rfl ?_
              refine w_iaddB dX4_readTerm_65 li_2000 (rfl : r15_.toInt = r15_.toInt) (lf_c_X4_readTerm_5 r15_ h26_ h61_) (fun z82_ h83_ => ?_)
              refine w_callVv (as := [vI z82_]) (rest := []) (c_X1_add l G cy ad ((N + d) + 9) 3 0 z82_ M73_ hI76_ (by first | decide | (unfold vF; omega) | (unfold vRw; omega))) kV_X1_add (by decide +kernel) (Nat.le_of_ble_eq_true rfl) m_720 rfl rfl rfl (ic_1 (by unfold vF; omega)) rfl rfl (by decide) (Nat.le_of_ble_eq_true rfl) dX4_readTerm_66 (fun M84_ q85_ => ?_)
              obtain ⟨hI87_, hF88_, h86_, hs90_⟩ := q85_
              have hF89_ := hF78_.tr hF88_ (fun c k => (fun h => h.elim (fun h => (Or.inr (Or.inr (Or.inr (Or.inr (Or.inr (Or.inl ⟨h.1, h.2.1, h.2.2⟩))))))) (fun h => h.elim (fun h => (Or.inr (Or.inr (Or.inr (Or.inr (Or.inl ⟨h.1, h.2.1, h.2.2.1, h.2.2.2⟩)))))) (fun h => h.elim))))
              have kf91_ : M84_.1 (4, 0, 0) 1 = 1 := by rw [(hF88_ (4, 0, 0) 1 (by simp [S_c_X1_add]))]; exact kf80_
              have kf92_ : M84_.1 (4, 0, 0) 2 = 1 ∨ M84_.1 (4, 0, 0) 2 = 2 ∨ M84_.1 (4, 0, 0) 2 = 3 := by rw [(hF88_ (4, 0, 0) 2 (by simp [S_c_X1_add]))]; exact kf81_
              have kf93_ : (M84_.1 (4, 0, 0) 5).toInt + ((m : Nat) : Int) = 5 := by rw [(hF88_ (4, 0, 0) 5 (by simp [S_c_X1_add]))]; exact h75_
              refine w_iincB (j := 1) (f := fun z94_ => [(1, vI z94_), (2, vI r15_), (0, vR (4, 0, 0))]) dX4_readTerm_69 rfl (by decide) (fun _ => rfl) (rfl : v1_6.toInt = v1_6.toInt) li_1 (lf_c_X4_readTerm_6 v1_6 hv0_6 hv1_6 h11_) (fun z94_ h95_ => ?_)
              refine w_goto (tgt := 6) dX4_readTerm_72 (by decide) ?_
              refine w_loc (ls' := [(1, vI z94_), (0, vR (4, 0, 0))]) [0, 2] rfl ?_
              exact ih_6 M84_ hI87_ hF89_ z94_ (lf_c_X4_readTerm_7 v1_6 z94_ hv0_6 hv1_6 h11_ h95_) (lf_c_X4_readTerm_8 v1_6 z94_ hv0_6 hv1_6 h11_ h95_) kf91_ kf92_ kf93_ (Nat.lt_of_lt_of_le (lf_c_X4_readTerm_9 v1_6 z94_ hv0_6 hv1_6 h11_ h95_) (Nat.le_of_lt_succ hm_6))
            · refine w_iload_n dX4_readTerm_36 rfl 0 rfl ?_
              refine w_bipush (v := 37) dX4_readTerm_37 (by decide) ?_
              refine w_icmp_eq (tgt := 43) dX4_readTerm_39 (by decide) (rfl : r15_.toInt = r15_.toInt) li_37 (fun h96_ => ?_) (fun h96_ => ?_)
              · refine w_aload_n dX4_readTerm_43 rfl 2 rfl ?_
                refine w_dup dX4_readTerm_44 rfl ?_
                refine w_getI fl_RX4_31 rfl rfl ic_4 dX4_readTerm_45 (fun z97_ e98_ => ?_)
                refine w_iconst (v := 1) dX4_readTerm_48 (by decide) ?_
                refine w_iadd dX4_readTerm_49 (fun z99_ h100_ => ?_)
                refine w_putI CC_nd fl_RX4_31 rfl rfl ic_4 dX4_readTerm_50 (fun M101_ hM102_ => ?_)
                have hI103_ := hI19_.put hM102_ trivial
                have hF104_ := hF21_.put hM102_ (Or.inl ⟨rfl, rfl, rfl⟩)
                have kf105_ : M101_.1 (4, 0, 0) 1 = 1 := by rw [(show M101_.1 (4, 0, 0) 1 = M16_.1 (4, 0, 0) 1 by rw [hM102_, up_ne (by simp)])]; exact kf23_
                have kf106_ : M101_.1 (4, 0, 0) 2 = 1 ∨ M101_.1 (4, 0, 0) 2 = 2 ∨ M101_.1 (4, 0, 0) 2 = 3 := by rw [(show M101_.1 (4, 0, 0) 2 = M16_.1 (4, 0, 0) 2 by rw [hM102_, up_ne (by simp)])]; exact kf24_
                have kf107_ : (M101_.1 (4, 0, 0) 5).toInt + ((m : Nat) : Int) = 5 := by rw [(show M101_.1 (4, 0, 0) 5 = M16_.1 (4, 0, 0) 5 by rw [hM102_, up_ne (by simp)])]; exact kf25_
                refine w_aload_n dX4_readTerm_53 rfl 2 rfl ?_
                refine w_callVv (as := []) (rest := []) (c_X4_readOne l G cy ad d N m M101_ hI103_ hA hB kf105_ kf106_ kf107_ hm) kV_X4_readOne (by decide +kernel) (Nat.le_of_ble_eq_true rfl) m_704 rfl rfl rfl ic_4 rfl rfl (by decide) (Nat.le_of_ble_eq_true rfl) dX4_readTerm_54 (fun M108_ q109_ => ?_)
                obtain ⟨hI111_, hF112_, h110_⟩ := q109_
                have hF113_ := hF104_.tr hF112_ (fun c k => (fun h => h.elim (fun h => (Or.inl ⟨h.1, h.2.1, h.2.2⟩)) (fun h => h.elim (fun h => (Or.inr (Or.inl ⟨h.1, h.2.1, h.2.2⟩))) (fun h => h.elim (fun h => (Or.inr (Or.inr (Or.inl ⟨h.1, h.2.1, h.2.2⟩)))) (fun h => h.elim (fun h => (Or.inr (Or.inr (Or.inr (Or.inl ⟨h.1, h.2.1, h.2.2⟩))))) (fun h => h.elim (fun h => (Or.inr (Or.inr (Or.inr (Or.inr (Or.inl ⟨h.1, h.2.1, h.2.2.1, h.2.2.2⟩)))))) (fun h => h.elim (fun h => (Or.inr (Or.inr (Or.inr (Or.inr (Or.inr (Or.inl ⟨h.1, h.2.1, h.2.2⟩))))))) (fun h => h.elim))))))))
                have kf115_ : M108_.1 (4, 0, 0) 1 = 1 := by rw [(hF112_ (4, 0, 0) 1 (by simp [S_reader]))]; exact kf105_
                have kf116_ : M108_.1 (4, 0, 0) 2 = 1 ∨ M108_.1 (4, 0, 0) 2 = 2 ∨ M108_.1 (4, 0, 0) 2 = 3 := by rw [(hF112_ (4, 0, 0) 2 (by simp [S_reader]))]; exact kf106_
                refine w_aload_n dX4_readTerm_57 rfl 2 rfl ?_
                refine w_getR (c' := (1, 3, 0)) fl_RX4_10 rfl rfl ic_4 dX4_readTerm_58 rfl ?_
                refine w_sipush (v := 2000) dX4_readTerm_61 (by decide) ?_
                refine w_iload_n dX4_readTerm_64 rfl 0 rfl ?_
                refine w_iaddB dX4_readTerm_65 li_2000 (rfl : r15_.toInt = r15_.toInt) (lf_c_X4_readTerm_10 r15_ h26_ h61_ h96_) (fun z117_ h118_ => ?_)
                refine w_callVv (as := [vI z117_]) (rest := []) (c_X1_add l G cy ad ((N + d) + 9) 3 0 z117_ M108_ hI111_ (by first | decide | (unfold vF; omega) | (unfold vRw; omega))) kV_X1_add (by decide +kernel) (Nat.le_of_ble_eq_true rfl) m_720 rfl rfl rfl (ic_1 (by unfold vF; omega)) rfl rfl (by decide) (Nat.le_of_ble_eq_true rfl) dX4_readTerm_66 (fun M119_ q120_ => ?_)
                obtain ⟨hI122_, hF123_, h121_, hs125_⟩ := q120_
                have hF124_ := hF113_.tr hF123_ (fun c k => (fun h => h.elim (fun h => (Or.inr (Or.inr (Or.inr (Or.inr (Or.inr (Or.inl ⟨h.1, h.2.1, h.2.2⟩))))))) (fun h => h.elim (fun h => (Or.inr (Or.inr (Or.inr (Or.inr (Or.inl ⟨h.1, h.2.1, h.2.2.1, h.2.2.2⟩)))))) (fun h => h.elim))))
                have kf126_ : M119_.1 (4, 0, 0) 1 = 1 := by rw [(hF123_ (4, 0, 0) 1 (by simp [S_c_X1_add]))]; exact kf115_
                have kf127_ : M119_.1 (4, 0, 0) 2 = 1 ∨ M119_.1 (4, 0, 0) 2 = 2 ∨ M119_.1 (4, 0, 0) 2 = 3 := by rw [(hF123_ (4, 0, 0) 2 (by simp [S_c_X1_add]))]; exact kf116_
                have kf128_ : (M119_.1 (4, 0, 0) 5).toInt + ((m : Nat) : Int) = 5 := by rw [(hF123_ (4, 0, 0) 5 (by simp [S_c_X1_add]))]; exact h110_
                refine w_iincB (j := 1) (f := fun z129_ => [(1, vI z129_), (2, vI r15_), (0, vR (4, 0, 0))]) dX4_readTerm_69 rfl (by decide) (fun _ => rfl) (rfl : v1_6.toInt = v1_6.toInt) li_1 (lf_c_X4_readTerm_11 v1_6 hv0_6 hv1_6 h11_) (fun z129_ h130_ => ?_)
                refine w_goto (tgt := 6) dX4_readTerm_72 (by decide) ?_
                refine w_loc (ls' := [(1, vI z129_), (0, vR (4, 0, 0))]) [0, 2] rfl ?_
                exact ih_6 M119_ hI122_ hF124_ z129_ (lf_c_X4_readTerm_12 v1_6 z129_ hv0_6 hv1_6 h11_ h130_) (lf_c_X4_readTerm_13 v1_6 z129_ hv0_6 hv1_6 h11_ h130_) kf126_ kf127_ kf128_ (Nat.lt_of_lt_of_le (lf_c_X4_readTerm_14 v1_6 z129_ hv0_6 hv1_6 h11_ h130_) (Nat.le_of_lt_succ hm_6))
              · exact w_vret rfl dX4_readTerm_42 ⟨hI19_, hF21_, kf25_⟩
  exact lp10_ _ M1_ hI4_ hF6_ 0 (lf_c_X4_readTerm_15 ) (lf_c_X4_readTerm_16 ) kf8_ kf9_ h3_ (Nat.lt_succ_self _)
theorem lf_c_X4_readSum_0  (r15_ : Int32) (h26_ : r15_.toInt = 43) : -2147483648 ≤ 2000 + r15_.toInt ∧ 2000 + r15_.toInt < 2147483648 := by have r_r15_ := rngI r15_; omega
theorem lf_c_X4_readSum_1  (v1_6 : Int32) (hv0_6 : 0 ≤ v1_6.toInt) (hv1_6 : v1_6.toInt ≤ 48) (h11_ : v1_6.toInt < 48) : -2147483648 ≤ v1_6.toInt + 1 ∧ v1_6.toInt + 1 < 2147483648 := by have r_v1_6 := rngI v1_6; omega
theorem lf_c_X4_readSum_2  (v1_6 : Int32) (z59_ : Int32) (hv0_6 : 0 ≤ v1_6.toInt) (hv1_6 : v1_6.toInt ≤ 48) (h11_ : v1_6.toInt < 48) (h60_ : z59_.toInt = v1_6.toInt + 1) : 0 ≤ z59_.toInt := by have r_v1_6 := rngI v1_6; have r_z59_ := rngI z59_; omega
theorem lf_c_X4_readSum_3  (v1_6 : Int32) (z59_ : Int32) (hv0_6 : 0 ≤ v1_6.toInt) (hv1_6 : v1_6.toInt ≤ 48) (h11_ : v1_6.toInt < 48) (h60_ : z59_.toInt = v1_6.toInt + 1) : z59_.toInt ≤ 48 := by have r_v1_6 := rngI v1_6; have r_z59_ := rngI z59_; omega
theorem lf_c_X4_readSum_4  (v1_6 : Int32) (z59_ : Int32) (hv0_6 : 0 ≤ v1_6.toInt) (hv1_6 : v1_6.toInt ≤ 48) (h11_ : v1_6.toInt < 48) (h60_ : z59_.toInt = v1_6.toInt + 1) : (2147483648 - z59_.toInt).toNat < (2147483648 - v1_6.toInt).toNat := by have r_v1_6 := rngI v1_6; have r_z59_ := rngI z59_; omega
theorem lf_c_X4_readSum_5  (r15_ : Int32) (h26_ : ¬ r15_.toInt = 43) (h61_ : r15_.toInt = 45) : -2147483648 ≤ 2000 + r15_.toInt ∧ 2000 + r15_.toInt < 2147483648 := by have r_r15_ := rngI r15_; omega
theorem lf_c_X4_readSum_6  (v1_6 : Int32) (hv0_6 : 0 ≤ v1_6.toInt) (hv1_6 : v1_6.toInt ≤ 48) (h11_ : v1_6.toInt < 48) : -2147483648 ≤ v1_6.toInt + 1 ∧ v1_6.toInt + 1 < 2147483648 := by have r_v1_6 := rngI v1_6; omega
theorem lf_c_X4_readSum_7  (v1_6 : Int32) (z94_ : Int32) (hv0_6 : 0 ≤ v1_6.toInt) (hv1_6 : v1_6.toInt ≤ 48) (h11_ : v1_6.toInt < 48) (h95_ : z94_.toInt = v1_6.toInt + 1) : 0 ≤ z94_.toInt := by have r_v1_6 := rngI v1_6; have r_z94_ := rngI z94_; omega
theorem lf_c_X4_readSum_8  (v1_6 : Int32) (z94_ : Int32) (hv0_6 : 0 ≤ v1_6.toInt) (hv1_6 : v1_6.toInt ≤ 48) (h11_ : v1_6.toInt < 48) (h95_ : z94_.toInt = v1_6.toInt + 1) : z94_.toInt ≤ 48 := by have r_v1_6 := rngI v1_6; have r_z94_ := rngI z94_; omega
theorem lf_c_X4_readSum_9  (v1_6 : Int32) (z94_ : Int32) (hv0_6 : 0 ≤ v1_6.toInt) (hv1_6 : v1_6.toInt ≤ 48) (h11_ : v1_6.toInt < 48) (h95_ : z94_.toInt = v1_6.toInt + 1) : (2147483648 - z94_.toInt).toNat < (2147483648 - v1_6.toInt).toNat := by have r_v1_6 := rngI v1_6; have r_z94_ := rngI z94_; omega
theorem lf_c_X4_readSum_10    : 0 ≤ (0 : Int32).toInt := by have q0 := li_0; omega
theorem lf_c_X4_readSum_11    : (0 : Int32).toInt ≤ 48 := by have q0 := li_0; omega
set_option maxHeartbeats 4000000 in
set_option maxRecDepth 100000 in
theorem c_X4_readSum (l : Launch) (G : va_G) (cy : Nat → ClassId) (ad : rf → Nat) (d : Nat) (N : Nat) (m : Nat) (Mz : mM) (hIz : Inv Mz) (hA : ∀ k : Nat, k + 1 = m → ONEC l G cy ad N k) (hB : ∀ k : Nat, k + 1 = m → CMPC l G cy ad N k) (hT : Mz.1 (4, 0, 0) 1 = 1) (hN : Mz.1 (4, 0, 0) 2 = 1 ∨ Mz.1 (4, 0, 0) 2 = 2 ∨ Mz.1 (4, 0, 0) 2 = 3) (hk : (Mz.1 (4, 0, 0) 5).toInt + ((m : Nat) : Int) = 5) (hm : m ≤ 5) : WP CC l G cy ad yX4_readSum cX4_readSum 3 none ((N + d) + 11) 0 [(0, vR (4, 0, 0))] [] Mz (fun r M' => Inv M' ∧ FR (S_reader) Mz M' ∧ (M'.1 (4, 0, 0) 5).toInt + ((m : Nat) : Int) = 5) := by
  have hFz : FR (S_reader) Mz Mz := FR.self
  refine w_aload_n dX4_readSum_0 rfl 0 rfl ?_
  refine w_callVv (as := []) (rest := []) (c_X4_readTerm l G cy ad d N m Mz hIz hA hB hT hN hk hm) kV_X4_readTerm (by decide +kernel) (Nat.le_of_ble_eq_true rfl) m_700 rfl rfl rfl ic_4 rfl rfl (by decide) (Nat.le_of_ble_eq_true rfl) dX4_readSum_1 (fun M1_ q2_ => ?_)
  obtain ⟨hI4_, hF5_, h3_⟩ := q2_
  have hF6_ := hFz.tr hF5_ (fun c k => (fun h => h.elim (fun h => (Or.inl ⟨h.1, h.2.1, h.2.2⟩)) (fun h => h.elim (fun h => (Or.inr (Or.inl ⟨h.1, h.2.1, h.2.2⟩))) (fun h => h.elim (fun h => (Or.inr (Or.inr (Or.inl ⟨h.1, h.2.1, h.2.2⟩)))) (fun h => h.elim (fun h => (Or.inr (Or.inr (Or.inr (Or.inl ⟨h.1, h.2.1, h.2.2⟩))))) (fun h => h.elim (fun h => (Or.inr (Or.inr (Or.inr (Or.inr (Or.inl ⟨h.1, h.2.1, h.2.2.1, h.2.2.2⟩)))))) (fun h => h.elim (fun h => (Or.inr (Or.inr (Or.inr (Or.inr (Or.inr (Or.inl ⟨h.1, h.2.1, h.2.2⟩))))))) (fun h => h.elim))))))))
  have kf8_ : M1_.1 (4, 0, 0) 1 = 1 := by rw [(hF5_ (4, 0, 0) 1 (by simp [S_reader]))]; exact hT
  have kf9_ : M1_.1 (4, 0, 0) 2 = 1 ∨ M1_.1 (4, 0, 0) 2 = 2 ∨ M1_.1 (4, 0, 0) 2 = 3 := by rw [(hF5_ (4, 0, 0) 2 (by simp [S_reader]))]; exact hN
  refine w_iconst (v := 0) dX4_readSum_4 (by decide) ?_
  refine w_istore_n (ls' := [(1, vI 0), (0, vR (4, 0, 0))]) dX4_readSum_5 rfl (by decide) rfl ?_
  have lp10_ : ∀ (nn_6 : Nat) (M_6 : mM) (hI_6 : Inv M_6) (hF_6 : FR (S_reader) Mz M_6) (v1_6 : Int32) (hv0_6 : 0 ≤ v1_6.toInt) (hv1_6 : v1_6.toInt ≤ 48) (kv0_6 : M_6.1 (4, 0, 0) 1 = 1) (kv1_6 : M_6.1 (4, 0, 0) 2 = 1 ∨ M_6.1 (4, 0, 0) 2 = 2 ∨ M_6.1 (4, 0, 0) 2 = 3) (kv2_6 : (M_6.1 (4, 0, 0) 5).toInt + ((m : Nat) : Int) = 5), (2147483648 - v1_6.toInt).toNat < nn_6 → WP CC l G cy ad yX4_readSum cX4_readSum 3 none ((N + d) + 11) 6 [(1, vI v1_6), (0, vR (4, 0, 0))] [] M_6 (fun r M' => Inv M' ∧ FR (S_reader) Mz M' ∧ (M'.1 (4, 0, 0) 5).toInt + ((m : Nat) : Int) = 5) := by
    intro nn_6
    induction nn_6 with
    | zero => intro M_6 hI_6 hF_6 v1_6 hv0_6 hv1_6 kv0_6 kv1_6 kv2_6 hm_6; exact absurd hm_6 (Nat.not_lt_zero _)
    | succ nn_6 ih_6 =>
      intro M_6 hI_6 hF_6 v1_6 hv0_6 hv1_6 kv0_6 kv1_6 kv2_6 hm_6
      refine w_iload_n dX4_readSum_6 rfl 0 rfl ?_
      refine w_bipush (v := 48) dX4_readSum_7 (by decide) ?_
      refine w_icmp_ge (tgt := 69) dX4_readSum_9 (by decide) (rfl : v1_6.toInt = v1_6.toInt) li_48 (fun h11_ => ?_) (fun h11_ => ?_)
      · exact w_vret rfl dX4_readSum_69 ⟨hI_6, hF_6, kv2_6⟩
      · refine w_aload_n dX4_readSum_12 rfl 1 rfl ?_
        refine w_getI fl_RX4_35 rfl rfl ic_4 dX4_readSum_13 (fun z12_ e13_ => ?_)
        refine w_if_ge (tgt := 69) dX4_readSum_16 (by decide) (rfl : z12_.toInt = z12_.toInt) (fun h14_ => ?_) (fun h14_ => ?_)
        · exact w_vret rfl dX4_readSum_69 ⟨hI_6, hF_6, kv2_6⟩
        · refine w_aload_n dX4_readSum_19 rfl 1 rfl ?_
          refine w_callV (as := []) (rest := []) (c_X4_next l G cy ad ((N + d) + 9) M_6 hI_6 kv0_6) kV_X4_next (by decide +kernel) (Nat.le_of_ble_eq_true rfl) m_708 rfl rfl rfl ic_4 rfl rfl (by decide) (Nat.le_of_ble_eq_true rfl) dX4_readSum_20 (fun r15_ M16_ q17_ => ?_)
          obtain ⟨hI19_, hF20_, h18_, hs22_⟩ := q17_
          have hF21_ := hF_6.tr hF20_ (fun c k => (fun h => h.elim (fun h => (Or.inl ⟨h.1, h.2.1, h.2.2⟩)) (fun h => h.elim)))
          have kf23_ : M16_.1 (4, 0, 0) 1 = 1 := by rw [(hF20_ (4, 0, 0) 1 (by simp [S_c_X4_next]))]; exact kv0_6
          have kf24_ : M16_.1 (4, 0, 0) 2 = 1 ∨ M16_.1 (4, 0, 0) 2 = 2 ∨ M16_.1 (4, 0, 0) 2 = 3 := by rw [(hF20_ (4, 0, 0) 2 (by simp [S_c_X4_next]))]; exact kv1_6
          have kf25_ : (M16_.1 (4, 0, 0) 5).toInt + ((m : Nat) : Int) = 5 := by rw [(hF20_ (4, 0, 0) 5 (by simp [S_c_X4_next]))]; exact kv2_6
          refine w_istore_n (ls' := [(2, vI r15_), (1, vI v1_6), (0, vR (4, 0, 0))]) dX4_readSum_23 rfl (by decide) rfl ?_
          refine w_iload_n dX4_readSum_24 rfl 0 rfl ?_
          refine w_bipush (v := 43) dX4_readSum_25 (by decide) ?_
          refine w_icmp_eq (tgt := 37) dX4_readSum_27 (by decide) (rfl : r15_.toInt = r15_.toInt) li_43 (fun h26_ => ?_) (fun h26_ => ?_)
          · refine w_aload_n dX4_readSum_37 rfl 2 rfl ?_
            refine w_dup dX4_readSum_38 rfl ?_
            refine w_getI fl_RX4_31 rfl rfl ic_4 dX4_readSum_39 (fun z27_ e28_ => ?_)
            refine w_iconst (v := 1) dX4_readSum_42 (by decide) ?_
            refine w_iadd dX4_readSum_43 (fun z29_ h30_ => ?_)
            refine w_putI CC_nd fl_RX4_31 rfl rfl ic_4 dX4_readSum_44 (fun M31_ hM32_ => ?_)
            have hI33_ := hI19_.put hM32_ trivial
            have hF34_ := hF21_.put hM32_ (Or.inl ⟨rfl, rfl, rfl⟩)
            have kf35_ : M31_.1 (4, 0, 0) 1 = 1 := by rw [(show M31_.1 (4, 0, 0) 1 = M16_.1 (4, 0, 0) 1 by rw [hM32_, up_ne (by simp)])]; exact kf23_
            have kf36_ : M31_.1 (4, 0, 0) 2 = 1 ∨ M31_.1 (4, 0, 0) 2 = 2 ∨ M31_.1 (4, 0, 0) 2 = 3 := by rw [(show M31_.1 (4, 0, 0) 2 = M16_.1 (4, 0, 0) 2 by rw [hM32_, up_ne (by simp)])]; exact kf24_
            have kf37_ : (M31_.1 (4, 0, 0) 5).toInt + ((m : Nat) : Int) = 5 := by rw [(show M31_.1 (4, 0, 0) 5 = M16_.1 (4, 0, 0) 5 by rw [hM32_, up_ne (by simp)])]; exact kf25_
            refine w_aload_n dX4_readSum_47 rfl 2 rfl ?_
            refine w_callVv (as := []) (rest := []) (c_X4_readTerm l G cy ad d N m M31_ hI33_ hA hB kf35_ kf36_ kf37_ hm) kV_X4_readTerm (by decide +kernel) (Nat.le_of_ble_eq_true rfl) m_700 rfl rfl rfl ic_4 rfl rfl (by decide) (Nat.le_of_ble_eq_true rfl) dX4_readSum_48 (fun M38_ q39_ => ?_)
            obtain ⟨hI41_, hF42_, h40_⟩ := q39_
            have hF43_ := hF34_.tr hF42_ (fun c k => (fun h => h.elim (fun h => (Or.inl ⟨h.1, h.2.1, h.2.2⟩)) (fun h => h.elim (fun h => (Or.inr (Or.inl ⟨h.1, h.2.1, h.2.2⟩))) (fun h => h.elim (fun h => (Or.inr (Or.inr (Or.inl ⟨h.1, h.2.1, h.2.2⟩)))) (fun h => h.elim (fun h => (Or.inr (Or.inr (Or.inr (Or.inl ⟨h.1, h.2.1, h.2.2⟩))))) (fun h => h.elim (fun h => (Or.inr (Or.inr (Or.inr (Or.inr (Or.inl ⟨h.1, h.2.1, h.2.2.1, h.2.2.2⟩)))))) (fun h => h.elim (fun h => (Or.inr (Or.inr (Or.inr (Or.inr (Or.inr (Or.inl ⟨h.1, h.2.1, h.2.2⟩))))))) (fun h => h.elim))))))))
            have kf45_ : M38_.1 (4, 0, 0) 1 = 1 := by rw [(hF42_ (4, 0, 0) 1 (by simp [S_reader]))]; exact kf35_
            have kf46_ : M38_.1 (4, 0, 0) 2 = 1 ∨ M38_.1 (4, 0, 0) 2 = 2 ∨ M38_.1 (4, 0, 0) 2 = 3 := by rw [(hF42_ (4, 0, 0) 2 (by simp [S_reader]))]; exact kf36_
            refine w_aload_n dX4_readSum_51 rfl 2 rfl ?_
            refine w_getR (c' := (1, 3, 0)) fl_RX4_10 rfl rfl ic_4 dX4_readSum_52 rfl ?_
            refine w_sipush (v := 2000) dX4_readSum_55 (by decide) ?_
            refine w_iload_n dX4_readSum_58 rfl 0 rfl ?_
            refine w_iaddB dX4_readSum_59 li_2000 (rfl : r15_.toInt = r15_.toInt) (lf_c_X4_readSum_0 r15_ h26_) (fun z47_ h48_ => ?_)
            refine w_callVv (as := [vI z47_]) (rest := []) (c_X1_add l G cy ad ((N + d) + 10) 3 0 z47_ M38_ hI41_ (by first | decide | (unfold vF; omega) | (unfold vRw; omega))) kV_X1_add (by decide +kernel) (Nat.le_of_ble_eq_true rfl) m_720 rfl rfl rfl (ic_1 (by unfold vF; omega)) rfl rfl (by decide) (Nat.le_of_ble_eq_true rfl) dX4_readSum_60 (fun M49_ q50_ => ?_)
            obtain ⟨hI52_, hF53_, h51_, hs55_⟩ := q50_
            have hF54_ := hF43_.tr hF53_ (fun c k => (fun h => h.elim (fun h => (Or.inr (Or.inr (Or.inr (Or.inr (Or.inr (Or.inl ⟨h.1, h.2.1, h.2.2⟩))))))) (fun h => h.elim (fun h => (Or.inr (Or.inr (Or.inr (Or.inr (Or.inl ⟨h.1, h.2.1, h.2.2.1, h.2.2.2⟩)))))) (fun h => h.elim))))
            have kf56_ : M49_.1 (4, 0, 0) 1 = 1 := by rw [(hF53_ (4, 0, 0) 1 (by simp [S_c_X1_add]))]; exact kf45_
            have kf57_ : M49_.1 (4, 0, 0) 2 = 1 ∨ M49_.1 (4, 0, 0) 2 = 2 ∨ M49_.1 (4, 0, 0) 2 = 3 := by rw [(hF53_ (4, 0, 0) 2 (by simp [S_c_X1_add]))]; exact kf46_
            have kf58_ : (M49_.1 (4, 0, 0) 5).toInt + ((m : Nat) : Int) = 5 := by rw [(hF53_ (4, 0, 0) 5 (by simp [S_c_X1_add]))]; exact h40_
            refine w_iincB (j := 1) (f := fun z59_ => [(1, vI z59_), (2, vI r15_), (0, vR (4, 0, 0))]) dX4_readSum_63 rfl (by decide) (fun _ => rfl) (rfl : v1_6.toInt = v1_6.toInt) li_1 (lf_c_X4_readSum_1 v1_6 hv0_6 hv1_6 h11_) (fun z59_ h60_ => ?_)
            refine w_goto (tgt := 6) dX4_readSum_66 (by decide) ?_
            refine w_loc (ls' := [(1, vI z59_), (0, vR (4, 0, 0))]) [0, 2] rfl ?_
            exact ih_6 M49_ hI52_ hF54_ z59_ (lf_c_X4_readSum_2 v1_6 z59_ hv0_6 hv1_6 h11_ h60_) (lf_c_X4_readSum_3 v1_6 z59_ hv0_6 hv1_6 h11_ h60_) kf56_ kf57_ kf58_ (Nat.lt_of_lt_of_le (lf_c_X4_readSum_4 v1_6 z59_ hv0_6 hv1_6 h11_ h60_) (Nat.le_of_lt_succ hm_6))
          · refine w_iload_n dX4_readSum_30 rfl 0 rfl ?_
            refine w_bipush (v := 45) dX4_readSum_31 (by decide) ?_
            refine w_icmp_eq (tgt := 37) dX4_readSum_33 (by decide) (rfl : r15_.toInt = r15_.toInt) li_45 (fun h61_ => ?_) (fun h61_ => ?_)
            · refine w_aload_n dX4_readSum_37 rfl 2 rfl ?_
              refine w_dup dX4_readSum_38 rfl ?_
              refine w_getI fl_RX4_31 rfl rfl ic_4 dX4_readSum_39 (fun z62_ e63_ => ?_)
              refine w_iconst (v := 1) dX4_readSum_42 (by decide) ?_
              refine w_iadd dX4_readSum_43 (fun z64_ h65_ => ?_)
              refine w_putI CC_nd fl_RX4_31 rfl rfl ic_4 dX4_readSum_44 (fun M66_ hM67_ => ?_)
              have hI68_ := hI19_.put hM67_ trivial
              have hF69_ := hF21_.put hM67_ (Or.inl ⟨rfl, rfl, rfl⟩)
              have kf70_ : M66_.1 (4, 0, 0) 1 = 1 := by rw [(show M66_.1 (4, 0, 0) 1 = M16_.1 (4, 0, 0) 1 by rw [hM67_, up_ne (by simp)])]; exact kf23_
              have kf71_ : M66_.1 (4, 0, 0) 2 = 1 ∨ M66_.1 (4, 0, 0) 2 = 2 ∨ M66_.1 (4, 0, 0) 2 = 3 := by rw [(show M66_.1 (4, 0, 0) 2 = M16_.1 (4, 0, 0) 2 by rw [hM67_, up_ne (by simp)])]; exact kf24_
              have kf72_ : (M66_.1 (4, 0, 0) 5).toInt + ((m : Nat) : Int) = 5 := by rw [(show M66_.1 (4, 0, 0) 5 = M16_.1 (4, 0, 0) 5 by rw [hM67_, up_ne (by simp)])]; exact kf25_
              refine w_aload_n dX4_readSum_47 rfl 2 rfl ?_
              refine w_callVv (as := []) (rest := []) (c_X4_readTerm l G cy ad d N m M66_ hI68_ hA hB kf70_ kf71_ kf72_ hm) kV_X4_readTerm (by decide +kernel) (Nat.le_of_ble_eq_true rfl) m_700 rfl rfl rfl ic_4 rfl rfl (by decide) (Nat.le_of_ble_eq_true rfl) dX4_readSum_48 (fun M73_ q74_ => ?_)
              obtain ⟨hI76_, hF77_, h75_⟩ := q74_
              have hF78_ := hF69_.tr hF77_ (fun c k => (fun h => h.elim (fun h => (Or.inl ⟨h.1, h.2.1, h.2.2⟩)) (fun h => h.elim (fun h => (Or.inr (Or.inl ⟨h.1, h.2.1, h.2.2⟩))) (fun h => h.elim (fun h => (Or.inr (Or.inr (Or.inl ⟨h.1, h.2.1, h.2.2⟩)))) (fun h => h.elim (fun h => (Or.inr (Or.inr (Or.inr (Or.inl ⟨h.1, h.2.1, h.2.2⟩))))) (fun h => h.elim (fun h => (Or.inr (Or.inr (Or.inr (Or.inr (Or.inl ⟨h.1, h.2.1, h.2.2.1, h.2.2.2⟩)))))) (fun h => h.elim (fun h => (Or.inr (Or.inr (Or.inr (Or.inr (Or.inr (Or.inl ⟨h.1, h.2.1, h.2.2⟩))))))) (fun h => h.elim))))))))
              have kf80_ : M73_.1 (4, 0, 0) 1 = 1 := by rw [(hF77_ (4, 0, 0) 1 (by simp [S_reader]))]; exact kf70_
              have kf81_ : M73_.1 (4, 0, 0) 2 = 1 ∨ M73_.1 (4, 0, 0) 2 = 2 ∨ M73_.1 (4, 0, 0) 2 = 3 := by rw [(hF77_ (4, 0, 0) 2 (by simp [S_reader]))]; exact kf71_
              refine w_aload_n dX4_readSum_51 rfl 2 rfl ?_
              refine w_getR (c' := (1, 3, 0)) fl_RX4_10 rfl rfl ic_4 dX4_readSum_52 rfl ?_
              refine w_sipush (v := 2000) dX4_readSum_55 (by decide) ?_
              refine w_iload_n dX4_readSum_58 rfl 0 rfl ?_
              refine w_iaddB dX4_readSum_59 li_2000 (rfl : r15_.toInt = r15_.toInt) (lf_c_X4_readSum_5 r15_ h26_ h61_) (fun z82_ h83_ => ?_)
              refine w_callVv (as := [vI z82_]) (rest := []) (c_X1_add l G cy ad ((N + d) + 10) 3 0 z82_ M73_ hI76_ (by first | decide | (unfold vF; omega) | (unfold vRw; omega))) kV_X1_add (by decide +kernel) (Nat.le_of_ble_eq_true rfl) m_720 rfl rfl rfl (ic_1 (by unfold vF; omega)) rfl rfl (by decide) (Nat.le_of_ble_eq_true rfl) dX4_readSum_60 (fun M84_ q85_ => ?_)
              obtain ⟨hI87_, hF88_, h86_, hs90_⟩ := q85_
              have hF89_ := hF78_.tr hF88_ (fun c k => (fun h => h.elim (fun h => (Or.inr (Or.inr (Or.inr (Or.inr (Or.inr (Or.inl ⟨h.1, h.2.1, h.2.2⟩))))))) (fun h => h.elim (fun h => (Or.inr (Or.inr (Or.inr (Or.inr (Or.inl ⟨h.1, h.2.1, h.2.2.1, h.2.2.2⟩)))))) (fun h => h.elim))))
              have kf91_ : M84_.1 (4, 0, 0) 1 = 1 := by rw [(hF88_ (4, 0, 0) 1 (by simp [S_c_X1_add]))]; exact kf80_
              have kf92_ : M84_.1 (4, 0, 0) 2 = 1 ∨ M84_.1 (4, 0, 0) 2 = 2 ∨ M84_.1 (4, 0, 0) 2 = 3 := by rw [(hF88_ (4, 0, 0) 2 (by simp [S_c_X1_add]))]; exact kf81_
              have kf93_ : (M84_.1 (4, 0, 0) 5).toInt + ((m : Nat) : Int) = 5 := by rw [(hF88_ (4, 0, 0) 5 (by simp [S_c_X1_add]))]; exact h75_
              refine w_iincB (j := 1) (f := fun z94_ => [(1, vI z94_), (2, vI r15_), (0, vR (4, 0, 0))]) dX4_readSum_63 rfl (by decide) (fun _ => rfl) (rfl : v1_6.toInt = v1_6.toInt) li_1 (lf_c_X4_readSum_6 v1_6 hv0_6 hv1_6 h11_) (fun z94_ h95_ => ?_)
              refine w_goto (tgt := 6) dX4_readSum_66 (by decide) ?_
              refine w_loc (ls' := [(1, vI z94_), (0, vR (4, 0, 0))]) [0, 2] rfl ?_
              exact ih_6 M84_ hI87_ hF89_ z94_ (lf_c_X4_readSum_7 v1_6 z94_ hv0_6 hv1_6 h11_ h95_) (lf_c_X4_readSum_8 v1_6 z94_ hv0_6 hv1_6 h11_ h95_) kf91_ kf92_ kf93_ (Nat.lt_of_lt_of_le (lf_c_X4_readSum_9 v1_6 z94_ hv0_6 hv1_6 h11_ h95_) (Nat.le_of_lt_succ hm_6))
            · exact w_vret rfl dX4_readSum_36 ⟨hI19_, hF21_, kf25_⟩
  exact lp10_ _ M1_ hI4_ hF6_ 0 (lf_c_X4_readSum_10 ) (lf_c_X4_readSum_11 ) kf8_ kf9_ h3_ (Nat.lt_succ_self _)
theorem lf_c_X4_readComparisons_0  (r15_ : Int32) (h26_ : r15_.toInt = 60) : -2147483648 ≤ 2000 + r15_.toInt ∧ 2000 + r15_.toInt < 2147483648 := by have r_r15_ := rngI r15_; omega
theorem lf_c_X4_readComparisons_1  (v1_6 : Int32) (hv0_6 : 0 ≤ v1_6.toInt) (hv1_6 : v1_6.toInt ≤ 48) (h11_ : v1_6.toInt < 48) : -2147483648 ≤ v1_6.toInt + 1 ∧ v1_6.toInt + 1 < 2147483648 := by have r_v1_6 := rngI v1_6; omega
theorem lf_c_X4_readComparisons_2  (v1_6 : Int32) (z59_ : Int32) (hv0_6 : 0 ≤ v1_6.toInt) (hv1_6 : v1_6.toInt ≤ 48) (h11_ : v1_6.toInt < 48) (h60_ : z59_.toInt = v1_6.toInt + 1) : 0 ≤ z59_.toInt := by have r_v1_6 := rngI v1_6; have r_z59_ := rngI z59_; omega
theorem lf_c_X4_readComparisons_3  (v1_6 : Int32) (z59_ : Int32) (hv0_6 : 0 ≤ v1_6.toInt) (hv1_6 : v1_6.toInt ≤ 48) (h11_ : v1_6.toInt < 48) (h60_ : z59_.toInt = v1_6.toInt + 1) : z59_.toInt ≤ 48 := by have r_v1_6 := rngI v1_6; have r_z59_ := rngI z59_; omega
theorem lf_c_X4_readComparisons_4  (v1_6 : Int32) (z59_ : Int32) (hv0_6 : 0 ≤ v1_6.toInt) (hv1_6 : v1_6.toInt ≤ 48) (h11_ : v1_6.toInt < 48) (h60_ : z59_.toInt = v1_6.toInt + 1) : (2147483648 - z59_.toInt).toNat < (2147483648 - v1_6.toInt).toNat := by have r_v1_6 := rngI v1_6; have r_z59_ := rngI z59_; omega
theorem lf_c_X4_readComparisons_5  (r15_ : Int32) (h26_ : ¬ r15_.toInt = 60) (h61_ : r15_.toInt = 61) : -2147483648 ≤ 2000 + r15_.toInt ∧ 2000 + r15_.toInt < 2147483648 := by have r_r15_ := rngI r15_; omega
theorem lf_c_X4_readComparisons_6  (v1_6 : Int32) (hv0_6 : 0 ≤ v1_6.toInt) (hv1_6 : v1_6.toInt ≤ 48) (h11_ : v1_6.toInt < 48) : -2147483648 ≤ v1_6.toInt + 1 ∧ v1_6.toInt + 1 < 2147483648 := by have r_v1_6 := rngI v1_6; omega
theorem lf_c_X4_readComparisons_7  (v1_6 : Int32) (z94_ : Int32) (hv0_6 : 0 ≤ v1_6.toInt) (hv1_6 : v1_6.toInt ≤ 48) (h11_ : v1_6.toInt < 48) (h95_ : z94_.toInt = v1_6.toInt + 1) : 0 ≤ z94_.toInt := by have r_v1_6 := rngI v1_6; have r_z94_ := rngI z94_; omega
theorem lf_c_X4_readComparisons_8  (v1_6 : Int32) (z94_ : Int32) (hv0_6 : 0 ≤ v1_6.toInt) (hv1_6 : v1_6.toInt ≤ 48) (h11_ : v1_6.toInt < 48) (h95_ : z94_.toInt = v1_6.toInt + 1) : z94_.toInt ≤ 48 := by have r_v1_6 := rngI v1_6; have r_z94_ := rngI z94_; omega
theorem lf_c_X4_readComparisons_9  (v1_6 : Int32) (z94_ : Int32) (hv0_6 : 0 ≤ v1_6.toInt) (hv1_6 : v1_6.toInt ≤ 48) (h11_ : v1_6.toInt < 48) (h95_ : z94_.toInt = v1_6.toInt + 1) : (2147483648 - z94_.toInt).toNat < (2147483648 - v1_6.toInt).toNat := by have r_v1_6 := rngI v1_6; have r_z94_ := rngI z94_; omega
theorem lf_c_X4_readComparisons_10  (r15_ : Int32) (h26_ : ¬ r15_.toInt = 60) (h61_ : ¬ r15_.toInt = 61) (h96_ : r15_.toInt = 62) : -2147483648 ≤ 2000 + r15_.toInt ∧ 2000 + r15_.toInt < 2147483648 := by have r_r15_ := rngI r15_; omega
theorem lf_c_X4_readComparisons_11  (v1_6 : Int32) (hv0_6 : 0 ≤ v1_6.toInt) (hv1_6 : v1_6.toInt ≤ 48) (h11_ : v1_6.toInt < 48) : -2147483648 ≤ v1_6.toInt + 1 ∧ v1_6.toInt + 1 < 2147483648 := by have r_v1_6 := rngI v1_6; omega
theorem lf_c_X4_readComparisons_12  (v1_6 : Int32) (z129_ : Int32) (hv0_6 : 0 ≤ v1_6.toInt) (hv1_6 : v1_6.toInt ≤ 48) (h11_ : v1_6.toInt < 48) (h130_ : z129_.toInt = v1_6.toInt + 1) : 0 ≤ z129_.toInt := by have r_v1_6 := rngI v1_6; have r_z129_ := rngI z129_; omega
theorem lf_c_X4_readComparisons_13  (v1_6 : Int32) (z129_ : Int32) (hv0_6 : 0 ≤ v1_6.toInt) (hv1_6 : v1_6.toInt ≤ 48) (h11_ : v1_6.toInt < 48) (h130_ : z129_.toInt = v1_6.toInt + 1) : z129_.toInt ≤ 48 := by have r_v1_6 := rngI v1_6; have r_z129_ := rngI z129_; omega
theorem lf_c_X4_readComparisons_14  (v1_6 : Int32) (z129_ : Int32) (hv0_6 : 0 ≤ v1_6.toInt) (hv1_6 : v1_6.toInt ≤ 48) (h11_ : v1_6.toInt < 48) (h130_ : z129_.toInt = v1_6.toInt + 1) : (2147483648 - z129_.toInt).toNat < (2147483648 - v1_6.toInt).toNat := by have r_v1_6 := rngI v1_6; have r_z129_ := rngI z129_; omega
theorem lf_c_X4_readComparisons_15    : 0 ≤ (0 : Int32).toInt := by have q0 := li_0; omega
theorem lf_c_X4_readComparisons_16    : (0 : Int32).toInt ≤ 48 := by have q0 := li_0; omega
set_option maxHeartbeats 4000000 in
set_option maxRecDepth 100000 in
theorem c_X4_readComparisons (l : Launch) (G : va_G) (cy : Nat → ClassId) (ad : rf → Nat) (d : Nat) (N : Nat) (m : Nat) (Mz : mM) (hIz : Inv Mz) (hA : ∀ k : Nat, k + 1 = m → ONEC l G cy ad N k) (hB : ∀ k : Nat, k + 1 = m → CMPC l G cy ad N k) (hT : Mz.1 (4, 0, 0) 1 = 1) (hN : Mz.1 (4, 0, 0) 2 = 1 ∨ Mz.1 (4, 0, 0) 2 = 2 ∨ Mz.1 (4, 0, 0) 2 = 3) (hk : (Mz.1 (4, 0, 0) 5).toInt + ((m : Nat) : Int) = 5) (hm : m ≤ 5) : WP CC l G cy ad yX4_readComparisons cX4_readComparisons 3 none ((N + d) + 12) 0 [(0, vR (4, 0, 0))] [] Mz (fun r M' => Inv M' ∧ FR (S_reader) Mz M' ∧ (M'.1 (4, 0, 0) 5).toInt + ((m : Nat) : Int) = 5) := by
  have hFz : FR (S_reader) Mz Mz := FR.self
  refine w_aload_n dX4_readComparisons_0 rfl 0 rfl ?_
  refine w_callVv (as := []) (rest := []) (c_X4_readSum l G cy ad d N m Mz hIz hA hB hT hN hk hm) kV_X4_readSum (by decide +kernel) (Nat.le_of_ble_eq_true rfl) m_696 rfl rfl rfl ic_4 rfl rfl (by decide) (Nat.le_of_ble_eq_true rfl) dX4_readComparisons_1 (fun M1_ q2_ => ?_)
  obtain ⟨hI4_, hF5_, h3_⟩ := q2_
  have hF6_ := hFz.tr hF5_ (fun c k => (fun h => h.elim (fun h => (Or.inl ⟨h.1, h.2.1, h.2.2⟩)) (fun h => h.elim (fun h => (Or.inr (Or.inl ⟨h.1, h.2.1, h.2.2⟩))) (fun h => h.elim (fun h => (Or.inr (Or.inr (Or.inl ⟨h.1, h.2.1, h.2.2⟩)))) (fun h => h.elim (fun h => (Or.inr (Or.inr (Or.inr (Or.inl ⟨h.1, h.2.1, h.2.2⟩))))) (fun h => h.elim (fun h => (Or.inr (Or.inr (Or.inr (Or.inr (Or.inl ⟨h.1, h.2.1, h.2.2.1, h.2.2.2⟩)))))) (fun h => h.elim (fun h => (Or.inr (Or.inr (Or.inr (Or.inr (Or.inr (Or.inl ⟨h.1, h.2.1, h.2.2⟩))))))) (fun h => h.elim))))))))
  have kf8_ : M1_.1 (4, 0, 0) 1 = 1 := by rw [(hF5_ (4, 0, 0) 1 (by simp [S_reader]))]; exact hT
  have kf9_ : M1_.1 (4, 0, 0) 2 = 1 ∨ M1_.1 (4, 0, 0) 2 = 2 ∨ M1_.1 (4, 0, 0) 2 = 3 := by rw [(hF5_ (4, 0, 0) 2 (by simp [S_reader]))]; exact hN
  refine w_iconst (v := 0) dX4_readComparisons_4 (by decide) ?_
  refine w_istore_n (ls' := [(1, vI 0), (0, vR (4, 0, 0))]) dX4_readComparisons_5 rfl (by decide) rfl ?_
  have lp10_ : ∀ (nn_6 : Nat) (M_6 : mM) (hI_6 : Inv M_6) (hF_6 : FR (S_reader) Mz M_6) (v1_6 : Int32) (hv0_6 : 0 ≤ v1_6.toInt) (hv1_6 : v1_6.toInt ≤ 48) (kv0_6 : M_6.1 (4, 0, 0) 1 = 1) (kv1_6 : M_6.1 (4, 0, 0) 2 = 1 ∨ M_6.1 (4, 0, 0) 2 = 2 ∨ M_6.1 (4, 0, 0) 2 = 3) (kv2_6 : (M_6.1 (4, 0, 0) 5).toInt + ((m : Nat) : Int) = 5), (2147483648 - v1_6.toInt).toNat < nn_6 → WP CC l G cy ad yX4_readComparisons cX4_readComparisons 3 none ((N + d) + 12) 6 [(1, vI v1_6), (0, vR (4, 0, 0))] [] M_6 (fun r M' => Inv M' ∧ FR (S_reader) Mz M' ∧ (M'.1 (4, 0, 0) 5).toInt + ((m : Nat) : Int) = 5) := by
    intro nn_6
    induction nn_6 with
    | zero => intro M_6 hI_6 hF_6 v1_6 hv0_6 hv1_6 kv0_6 kv1_6 kv2_6 hm_6; exact absurd hm_6 (Nat.not_lt_zero _)
    | succ nn_6 ih_6 =>
      intro M_6 hI_6 hF_6 v1_6 hv0_6 hv1_6 kv0_6 kv1_6 kv2_6 hm_6
      refine w_iload_n dX4_readComparisons_6 rfl 0 rfl ?_
      refine w_bipush (v := 48) dX4_readComparisons_7 (by decide) ?_
      refine w_icmp_ge (tgt := 75) dX4_readComparisons_9 (by decide) (rfl : v1_6.toInt = v1_6.toInt) li_48 (fun h11_ => ?_) (fun h11_ => ?_)
      · exact w_vret rfl dX4_readComparisons_75 ⟨hI_6, hF_6, kv2_6⟩
      · refine w_aload_n dX4_readComparisons_12 rfl 1 rfl ?_
        refine w_getI fl_RX4_35 rfl rfl ic_4 dX4_readComparisons_13 (fun z12_ e13_ => ?_)
        refine w_if_ge (tgt := 75) dX4_readComparisons_16 (by decide) (rfl : z12_.toInt = z12_.toInt) (fun h14_ => ?_) (fun h14_ => ?_)
        · exact w_vret rfl dX4_readComparisons_75 ⟨hI_6, hF_6, kv2_6⟩
        · refine w_aload_n dX4_readComparisons_19 rfl 1 rfl ?_
          refine w_callV (as := []) (rest := []) (c_X4_next l G cy ad ((N + d) + 10) M_6 hI_6 kv0_6) kV_X4_next (by decide +kernel) (Nat.le_of_ble_eq_true rfl) m_708 rfl rfl rfl ic_4 rfl rfl (by decide) (Nat.le_of_ble_eq_true rfl) dX4_readComparisons_20 (fun r15_ M16_ q17_ => ?_)
          obtain ⟨hI19_, hF20_, h18_, hs22_⟩ := q17_
          have hF21_ := hF_6.tr hF20_ (fun c k => (fun h => h.elim (fun h => (Or.inl ⟨h.1, h.2.1, h.2.2⟩)) (fun h => h.elim)))
          have kf23_ : M16_.1 (4, 0, 0) 1 = 1 := by rw [(hF20_ (4, 0, 0) 1 (by simp [S_c_X4_next]))]; exact kv0_6
          have kf24_ : M16_.1 (4, 0, 0) 2 = 1 ∨ M16_.1 (4, 0, 0) 2 = 2 ∨ M16_.1 (4, 0, 0) 2 = 3 := by rw [(hF20_ (4, 0, 0) 2 (by simp [S_c_X4_next]))]; exact kv1_6
          have kf25_ : (M16_.1 (4, 0, 0) 5).toInt + ((m : Nat) : Int) = 5 := by rw [(hF20_ (4, 0, 0) 5 (by simp [S_c_X4_next]))]; exact kv2_6
          refine w_istore_n (ls' := [(2, vI r15_), (1, vI v1_6), (0, vR (4, 0, 0))]) dX4_readComparisons_23 rfl (by decide) rfl ?_
          refine w_iload_n dX4_readComparisons_24 rfl 0 rfl ?_
          refine w_bipush (v := 60) dX4_readComparisons_25 (by decide) ?_
          refine w_icmp_eq (tgt := 43) dX4_readComparisons_27 (by decide) (rfl : r15_.toInt = r15_.toInt) li_60 (fun h26_ => ?_) (fun h26_ => ?_)
          · refine w_aload_n dX4_readComparisons_43 rfl 2 rfl ?_
            refine w_dup dX4_readComparisons_44 rfl ?_
            refine w_getI fl_RX4_31 rfl rfl ic_4 dX4_readComparisons_45 (fun z27_ e28_ => ?_)
            refine w_iconst (v := 1) dX4_readComparisons_48 (by decide) ?_
            refine w_iadd dX4_readComparisons_49 (fun z29_ h30_ => ?_)
            refine w_putI CC_nd fl_RX4_31 rfl rfl ic_4 dX4_readComparisons_50 (fun M31_ hM32_ => ?_)
            have hI33_ := hI19_.put hM32_ trivial
            have hF34_ := hF21_.put hM32_ (Or.inl ⟨rfl, rfl, rfl⟩)
            have kf35_ : M31_.1 (4, 0, 0) 1 = 1 := by rw [(show M31_.1 (4, 0, 0) 1 = M16_.1 (4, 0, 0) 1 by rw [hM32_, up_ne (by simp)])]; exact kf23_
            have kf36_ : M31_.1 (4, 0, 0) 2 = 1 ∨ M31_.1 (4, 0, 0) 2 = 2 ∨ M31_.1 (4, 0, 0) 2 = 3 := by rw [(show M31_.1 (4, 0, 0) 2 = M16_.1 (4, 0, 0) 2 by rw [hM32_, up_ne (by simp)])]; exact kf24_
            have kf37_ : (M31_.1 (4, 0, 0) 5).toInt + ((m : Nat) : Int) = 5 := by rw [(show M31_.1 (4, 0, 0) 5 = M16_.1 (4, 0, 0) 5 by rw [hM32_, up_ne (by simp)])]; exact kf25_
            refine w_aload_n dX4_readComparisons_53 rfl 2 rfl ?_
            refine w_callVv (as := []) (rest := []) (c_X4_readSum l G cy ad d N m M31_ hI33_ hA hB kf35_ kf36_ kf37_ hm) kV_X4_readSum (by decide +kernel) (Nat.le_of_ble_eq_true rfl) m_696 rfl rfl rfl ic_4 rfl rfl (by decide) (Nat.le_of_ble_eq_true rfl) dX4_readComparisons_54 (fun M38_ q39_ => ?_)
            obtain ⟨hI41_, hF42_, h40_⟩ := q39_
            have hF43_ := hF34_.tr hF42_ (fun c k => (fun h => h.elim (fun h => (Or.inl ⟨h.1, h.2.1, h.2.2⟩)) (fun h => h.elim (fun h => (Or.inr (Or.inl ⟨h.1, h.2.1, h.2.2⟩))) (fun h => h.elim (fun h => (Or.inr (Or.inr (Or.inl ⟨h.1, h.2.1, h.2.2⟩)))) (fun h => h.elim (fun h => (Or.inr (Or.inr (Or.inr (Or.inl ⟨h.1, h.2.1, h.2.2⟩))))) (fun h => h.elim (fun h => (Or.inr (Or.inr (Or.inr (Or.inr (Or.inl ⟨h.1, h.2.1, h.2.2.1, h.2.2.2⟩)))))) (fun h => h.elim (fun h => (Or.inr (Or.inr (Or.inr (Or.inr (Or.inr (Or.inl ⟨h.1, h.2.1, h.2.2⟩))))))) (fun h => h.elim))))))))
            have kf45_ : M38_.1 (4, 0, 0) 1 = 1 := by rw [(hF42_ (4, 0, 0) 1 (by simp [S_reader]))]; exact kf35_
            have kf46_ : M38_.1 (4, 0, 0) 2 = 1 ∨ M38_.1 (4, 0, 0) 2 = 2 ∨ M38_.1 (4, 0, 0) 2 = 3 := by rw [(hF42_ (4, 0, 0) 2 (by simp [S_reader]))]; exact kf36_
            refine w_aload_n dX4_readComparisons_57 rfl 2 rfl ?_
            refine w_getR (c' := (1, 3, 0)) fl_RX4_10 rfl rfl ic_4 dX4_readComparisons_58 rfl ?_
            refine w_sipush (v := 2000) dX4_readComparisons_61 (by decide) ?_
            refine w_iload_n dX4_readComparisons_64 rfl 0 rfl ?_
            refine w_iaddB dX4_readComparisons_65 li_2000 (rfl : r15_.toInt = r15_.toInt) (lf_c_X4_readComparisons_0 r15_ h26_) (fun z47_ h48_ => ?_)
            refine w_callVv (as := [vI z47_]) (rest := []) (c_X1_add l G cy ad ((N + d) + 11) 3 0 z47_ M38_ hI41_ (by first | decide | (unfold vF; omega) | (unfold vRw; omega))) kV_X1_add (by decide +kernel) (Nat.le_of_ble_eq_true rfl) m_720 rfl rfl rfl (ic_1 (by unfold vF; omega)) rfl rfl (by decide) (Nat.le_of_ble_eq_true rfl) dX4_readComparisons_66 (fun M49_ q50_ => ?_)
            obtain ⟨hI52_, hF53_, h51_, hs55_⟩ := q50_
            have hF54_ := hF43_.tr hF53_ (fun c k => (fun h => h.elim (fun h => (Or.inr (Or.inr (Or.inr (Or.inr (Or.inr (Or.inl ⟨h.1, h.2.1, h.2.2⟩))))))) (fun h => h.elim (fun h => (Or.inr (Or.inr (Or.inr (Or.inr (Or.inl ⟨h.1, h.2.1, h.2.2.1, h.2.2.2⟩)))))) (fun h => h.elim))))
            have kf56_ : M49_.1 (4, 0, 0) 1 = 1 := by rw [(hF53_ (4, 0, 0) 1 (by simp [S_c_X1_add]))]; exact kf45_
            have kf57_ : M49_.1 (4, 0, 0) 2 = 1 ∨ M49_.1 (4, 0, 0) 2 = 2 ∨ M49_.1 (4, 0, 0) 2 = 3 := by rw [(hF53_ (4, 0, 0) 2 (by simp [S_c_X1_add]))]; exact kf46_
            have kf58_ : (M49_.1 (4, 0, 0) 5).toInt + ((m : Nat) : Int) = 5 := by rw [(hF53_ (4, 0, 0) 5 (by simp [S_c_X1_add]))]; exact h40_
            refine w_iincB (j := 1) (f := fun z59_ => [(1, vI z59_), (2, vI r15_), (0, vR (4, 0, 0))]) dX4_readComparisons_69 rfl (by decide) (fun _ => rfl) (rfl : v1_6.toInt = v1_6.toInt) li_1 (lf_c_X4_readComparisons_1 v1_6 hv0_6 hv1_6 h11_) (fun z59_ h60_ => ?_)
            refine w_goto (tgt := 6) dX4_readComparisons_72 (by decide) ?_
            refine w_loc (ls' := [(1, vI z59_), (0, vR (4, 0, 0))]) [0, 2] rfl ?_
            exact ih_6 M49_ hI52_ hF54_ z59_ (lf_c_X4_readComparisons_2 v1_6 z59_ hv0_6 hv1_6 h11_ h60_) (lf_c_X4_readComparisons_3 v1_6 z59_ hv0_6 hv1_6 h11_ h60_) kf56_ kf57_ kf58_ (Nat.lt_of_lt_of_le (lf_c_X4_readComparisons_4 v1_6 z59_ hv0_6 hv1_6 h11_ h60_) (Nat.le_of_lt_succ hm_6))
          · refine w_iload_n dX4_readComparisons_30 rfl 0 rfl ?_
            refine w_bipush (v := 61) dX4_readComparisons_31 (by decide) ?_
            refine w_icmp_eq (tgt := 43) dX4_readComparisons_33 (by decide) (rfl : r15_.toInt = r15_.toInt) li_61 (fun h61_ => ?_) (fun h61_ => ?_)
            · refine w_aload_n dX4_readComparisons_43 rfl 2 rfl ?_
              refine w_dup dX4_readComparisons_44 rfl ?_
              refine w_getI fl_RX4_31 rfl rfl ic_4 dX4_readComparisons_45 (fun z62_ e63_ => ?_)
              refine w_iconst (v := 1) dX4_readComparisons_48 (by decide) ?_
              refine w_iadd dX4_readComparisons_49 (fun z64_ h65_ => ?_)
              refine w_putI CC_nd fl_RX4_31 rfl rfl ic_4 dX4_readComparisons_50 (fun M66_ hM67_ => ?_)
              have hI68_ := hI19_.put hM67_ trivial
              have hF69_ := hF21_.put hM67_ (Or.inl ⟨rfl, rfl, rfl⟩)
              have kf70_ : M66_.1 (4, 0, 0) 1 = 1 := by rw [(show M66_.1 (4, 0, 0) 1 = M16_.1 (4, 0, 0) 1 by rw [hM67_, up_ne (by simp)])]; exact kf23_
              have kf71_ : M66_.1 (4, 0, 0) 2 = 1 ∨ M66_.1 (4, 0, 0) 2 = 2 ∨ M66_.1 (4, 0, 0) 2 = 3 := by rw [(show M66_.1 (4, 0, 0) 2 = M16_.1 (4, 0, 0) 2 by rw [hM67_, up_ne (by simp)])]; exact kf24_
              have kf72_ : (M66_.1 (4, 0, 0) 5).toInt + ((m : Nat) : Int) = 5 := by rw [(show M66_.1 (4, 0, 0) 5 = M16_.1 (4, 0, 0) 5 by rw [hM67_, up_ne (by simp)])]; exact kf25_
              refine w_aload_n dX4_readComparisons_53 rfl 2 rfl ?_
              refine w_callVv (as := []) (rest := []) (c_X4_readSum l G cy ad d N m M66_ hI68_ hA hB kf70_ kf71_ kf72_ hm) kV_X4_readSum (by decide +kernel) (Nat.le_of_ble_eq_true rfl) m_696 rfl rfl rfl ic_4 rfl rfl (by decide) (Nat.le_of_ble_eq_true rfl) dX4_readComparisons_54 (fun M73_ q74_ => ?_)
              obtain ⟨hI76_, hF77_, h75_⟩ := q74_
              have hF78_ := hF69_.tr hF77_ (fun c k => (fun h => h.elim (fun h => (Or.inl ⟨h.1, h.2.1, h.2.2⟩)) (fun h => h.elim (fun h => (Or.inr (Or.inl ⟨h.1, h.2.1, h.2.2⟩))) (fun h => h.elim (fun h => (Or.inr (Or.inr (Or.inl ⟨h.1, h.2.1, h.2.2⟩)))) (fun h => h.elim (fun h => (Or.inr (Or.inr (Or.inr (Or.inl ⟨h.1, h.2.1, h.2.2⟩))))) (fun h => h.elim (fun h => (Or.inr (Or.inr (Or.inr (Or.inr (Or.inl ⟨h.1, h.2.1, h.2.2.1, h.2.2.2⟩)))))) (fun h => h.elim (fun h => (Or.inr (Or.inr (Or.inr (Or.inr (Or.inr (Or.inl ⟨h.1, h.2.1, h.2.2⟩))))))) (fun h => h.elim))))))))
              have kf80_ : M73_.1 (4, 0, 0) 1 = 1 := by rw [(hF77_ (4, 0, 0) 1 (by simp [S_reader]))]; exact kf70_
              have kf81_ : M73_.1 (4, 0, 0) 2 = 1 ∨ M73_.1 (4, 0, 0) 2 = 2 ∨ M73_.1 (4, 0, 0) 2 = 3 := by rw [(hF77_ (4, 0, 0) 2 (by simp [S_reader]))]; exact kf71_
              refine w_aload_n dX4_readComparisons_57 rfl 2 rfl ?_
              refine w_getR (c' := (1, 3, 0)) fl_RX4_10 rfl rfl ic_4 dX4_readComparisons_58 rfl ?_
              refine w_sipush (v := 2000) dX4_readComparisons_61 (by decide) ?_
              refine w_iload_n dX4_readComparisons_64 rfl 0 rfl ?_
              refine w_iaddB dX4_readComparisons_65 li_2000 (rfl : r15_.toInt = r15_.toInt) (lf_c_X4_readComparisons_5 r15_ h26_ h61_) (fun z82_ h83_ => ?_)
              refine w_callVv (as := [vI z82_]) (rest := []) (c_X1_add l G cy ad ((N + d) + 11) 3 0 z82_ M73_ hI76_ (by first | decide | (unfold vF; omega) | (unfold vRw; omega))) kV_X1_add (by decide +kernel) (Nat.le_of_ble_eq_true rfl) m_720 rfl rfl rfl (ic_1 (by unfold vF; omega)) rfl rfl (by decide) (Nat.le_of_ble_eq_true rfl) dX4_readComparisons_66 (fun M84_ q85_ => ?_)
              obtain ⟨hI87_, hF88_, h86_, hs90_⟩ := q85_
              have hF89_ := hF78_.tr hF88_ (fun c k => (fun h => h.elim (fun h => (Or.inr (Or.inr (Or.inr (Or.inr (Or.inr (Or.inl ⟨h.1, h.2.1, h.2.2⟩))))))) (fun h => h.elim (fun h => (Or.inr (Or.inr (Or.inr (Or.inr (Or.inl ⟨h.1, h.2.1, h.2.2.1, h.2.2.2⟩)))))) (fun h => h.elim))))
              have kf91_ : M84_.1 (4, 0, 0) 1 = 1 := by rw [(hF88_ (4, 0, 0) 1 (by simp [S_c_X1_add]))]; exact kf80_
              have kf92_ : M84_.1 (4, 0, 0) 2 = 1 ∨ M84_.1 (4, 0, 0) 2 = 2 ∨ M84_.1 (4, 0, 0) 2 = 3 := by rw [(hF88_ (4, 0, 0) 2 (by simp [S_c_X1_add]))]; exact kf81_
              have kf93_ : (M84_.1 (4, 0, 0) 5).toInt + ((m : Nat) : Int) = 5 := by rw [(hF88_ (4, 0, 0) 5 (by simp [S_c_X1_add]))]; exact h75_
              refine w_iincB (j := 1) (f := fun z94_ => [(1, vI z94_), (2, vI r15_), (0, vR (4, 0, 0))]) dX4_readComparisons_69 rfl (by decide) (fun _ => rfl) (rfl : v1_6.toInt = v1_6.toInt) li_1 (lf_c_X4_readComparisons_6 v1_6 hv0_6 hv1_6 h11_) (fun z94_ h95_ => ?_)
              refine w_goto (tgt := 6) dX4_readComparisons_72 (by decide) ?_
              refine w_loc (ls' := [(1, vI z94_), (0, vR (4, 0, 0))]) [0, 2] rfl ?_
              exact ih_6 M84_ hI87_ hF89_ z94_ (lf_c_X4_readComparisons_7 v1_6 z94_ hv0_6 hv1_6 h11_ h95_) (lf_c_X4_readComparisons_8 v1_6 z94_ hv0_6 hv1_6 h11_ h95_) kf91_ kf92_ kf93_ (Nat.lt_of_lt_of_le (lf_c_X4_readComparisons_9 v1_6 z94_ hv0_6 hv1_6 h11_ h95_) (Nat.le_of_lt_succ hm_6))
            · refine w_iload_n dX4_readComparisons_36 rfl 0 rfl ?_
              refine w_bipush (v := 62) dX4_readComparisons_37 (by decide) ?_
              refine w_icmp_eq (tgt := 43) dX4_readComparisons_39 (by decide) (rfl : r15_.toInt = r15_.toInt) li_62 (fun h96_ => ?_) (fun h96_ => ?_)
              · refine w_aload_n dX4_readComparisons_43 rfl 2 rfl ?_
                refine w_dup dX4_readComparisons_44 rfl ?_
                refine w_getI fl_RX4_31 rfl rfl ic_4 dX4_readComparisons_45 (fun z97_ e98_ => ?_)
                refine w_iconst (v := 1) dX4_readComparisons_48 (by decide) ?_
                refine w_iadd dX4_readComparisons_49 (fun z99_ h100_ => ?_)
                refine w_putI CC_nd fl_RX4_31 rfl rfl ic_4 dX4_readComparisons_50 (fun M101_ hM102_ => ?_)
                have hI103_ := hI19_.put hM102_ trivial
                have hF104_ := hF21_.put hM102_ (Or.inl ⟨rfl, rfl, rfl⟩)
                have kf105_ : M101_.1 (4, 0, 0) 1 = 1 := by rw [(show M101_.1 (4, 0, 0) 1 = M16_.1 (4, 0, 0) 1 by rw [hM102_, up_ne (by simp)])]; exact kf23_
                have kf106_ : M101_.1 (4, 0, 0) 2 = 1 ∨ M101_.1 (4, 0, 0) 2 = 2 ∨ M101_.1 (4, 0, 0) 2 = 3 := by rw [(show M101_.1 (4, 0, 0) 2 = M16_.1 (4, 0, 0) 2 by rw [hM102_, up_ne (by simp)])]; exact kf24_
                have kf107_ : (M101_.1 (4, 0, 0) 5).toInt + ((m : Nat) : Int) = 5 := by rw [(show M101_.1 (4, 0, 0) 5 = M16_.1 (4, 0, 0) 5 by rw [hM102_, up_ne (by simp)])]; exact kf25_
                refine w_aload_n dX4_readComparisons_53 rfl 2 rfl ?_
                refine w_callVv (as := []) (rest := []) (c_X4_readSum l G cy ad d N m M101_ hI103_ hA hB kf105_ kf106_ kf107_ hm) kV_X4_readSum (by decide +kernel) (Nat.le_of_ble_eq_true rfl) m_696 rfl rfl rfl ic_4 rfl rfl (by decide) (Nat.le_of_ble_eq_true rfl) dX4_readComparisons_54 (fun M108_ q109_ => ?_)
                obtain ⟨hI111_, hF112_, h110_⟩ := q109_
                have hF113_ := hF104_.tr hF112_ (fun c k => (fun h => h.elim (fun h => (Or.inl ⟨h.1, h.2.1, h.2.2⟩)) (fun h => h.elim (fun h => (Or.inr (Or.inl ⟨h.1, h.2.1, h.2.2⟩))) (fun h => h.elim (fun h => (Or.inr (Or.inr (Or.inl ⟨h.1, h.2.1, h.2.2⟩)))) (fun h => h.elim (fun h => (Or.inr (Or.inr (Or.inr (Or.inl ⟨h.1, h.2.1, h.2.2⟩))))) (fun h => h.elim (fun h => (Or.inr (Or.inr (Or.inr (Or.inr (Or.inl ⟨h.1, h.2.1, h.2.2.1, h.2.2.2⟩)))))) (fun h => h.elim (fun h => (Or.inr (Or.inr (Or.inr (Or.inr (Or.inr (Or.inl ⟨h.1, h.2.1, h.2.2⟩))))))) (fun h => h.elim))))))))
                have kf115_ : M108_.1 (4, 0, 0) 1 = 1 := by rw [(hF112_ (4, 0, 0) 1 (by simp [S_reader]))]; exact kf105_
                have kf116_ : M108_.1 (4, 0, 0) 2 = 1 ∨ M108_.1 (4, 0, 0) 2 = 2 ∨ M108_.1 (4, 0, 0) 2 = 3 := by rw [(hF112_ (4, 0, 0) 2 (by simp [S_reader]))]; exact kf106_
                refine w_aload_n dX4_readComparisons_57 rfl 2 rfl ?_
                refine w_getR (c' := (1, 3, 0)) fl_RX4_10 rfl rfl ic_4 dX4_readComparisons_58 rfl ?_
                refine w_sipush (v := 2000) dX4_readComparisons_61 (by decide) ?_
                refine w_iload_n dX4_readComparisons_64 rfl 0 rfl ?_
                refine w_iaddB dX4_readComparisons_65 li_2000 (rfl : r15_.toInt = r15_.toInt) (lf_c_X4_readComparisons_10 r15_ h26_ h61_ h96_) (fun z117_ h118_ => ?_)
                refine w_callVv (as := [vI z117_]) (rest := []) (c_X1_add l G cy ad ((N + d) + 11) 3 0 z117_ M108_ hI111_ (by first | decide | (unfold vF; omega) | (unfold vRw; omega))) kV_X1_add (by decide +kernel) (Nat.le_of_ble_eq_true rfl) m_720 rfl rfl rfl (ic_1 (by unfold vF; omega)) rfl rfl (by decide) (Nat.le_of_ble_eq_true rfl) dX4_readComparisons_66 (fun M119_ q120_ => ?_)
                obtain ⟨hI122_, hF123_, h121_, hs125_⟩ := q120_
                have hF124_ := hF113_.tr hF123_ (fun c k => (fun h => h.elim (fun h => (Or.inr (Or.inr (Or.inr (Or.inr (Or.inr (Or.inl ⟨h.1, h.2.1, h.2.2⟩))))))) (fun h => h.elim (fun h => (Or.inr (Or.inr (Or.inr (Or.inr (Or.inl ⟨h.1, h.2.1, h.2.2.1, h.2.2.2⟩)))))) (fun h => h.elim))))
                have kf126_ : M119_.1 (4, 0, 0) 1 = 1 := by rw [(hF123_ (4, 0, 0) 1 (by simp [S_c_X1_add]))]; exact kf115_
                have kf127_ : M119_.1 (4, 0, 0) 2 = 1 ∨ M119_.1 (4, 0, 0) 2 = 2 ∨ M119_.1 (4, 0, 0) 2 = 3 := by rw [(hF123_ (4, 0, 0) 2 (by simp [S_c_X1_add]))]; exact kf116_
                have kf128_ : (M119_.1 (4, 0, 0) 5).toInt + ((m : Nat) : Int) = 5 := by rw [(hF123_ (4, 0, 0) 5 (by simp [S_c_X1_add]))]; exact h110_
                refine w_iincB (j := 1) (f := fun z129_ => [(1, vI z129_), (2, vI r15_), (0, vR (4, 0, 0))]) dX4_readComparisons_69 rfl (by decide) (fun _ => rfl) (rfl : v1_6.toInt = v1_6.toInt) li_1 (lf_c_X4_readComparisons_11 v1_6 hv0_6 hv1_6 h11_) (fun z129_ h130_ => ?_)
                refine w_goto (tgt := 6) dX4_readComparisons_72 (by decide) ?_
                refine w_loc (ls' := [(1, vI z129_), (0, vR (4, 0, 0))]) [0, 2] rfl ?_
                exact ih_6 M119_ hI122_ hF124_ z129_ (lf_c_X4_readComparisons_12 v1_6 z129_ hv0_6 hv1_6 h11_ h130_) (lf_c_X4_readComparisons_13 v1_6 z129_ hv0_6 hv1_6 h11_ h130_) kf126_ kf127_ kf128_ (Nat.lt_of_lt_of_le (lf_c_X4_readComparisons_14 v1_6 z129_ hv0_6 hv1_6 h11_ h130_) (Nat.le_of_lt_succ hm_6))
              · exact w_vret rfl dX4_readComparisons_42 ⟨hI19_, hF21_, kf25_⟩
  exact lp10_ _ M1_ hI4_ hF6_ 0 (lf_c_X4_readComparisons_15 ) (lf_c_X4_readComparisons_16 ) kf8_ kf9_ h3_ (Nat.lt_succ_self _)
theorem reader_rec (l : Launch) (G : va_G) (cy : Nat → ClassId) (ad : rf → Nat) : ∀ m, ONEC l G cy ad (12 * m + 12) m ∧ CMPC l G cy ad (12 * m + 12) m := by
  intro m
  induction m with
  | zero => exact ⟨fun d Mz hIz hT hN hk hm => w_dep (by omega) (c_X4_readOne l G cy ad (d + 3) 0 0 Mz hIz (fun k q => absurd q (by omega)) (fun k q => absurd q (by omega)) hT hN hk hm), fun d Mz hIz hT hN hk hm => w_dep (by omega) (c_X4_readComparisons l G cy ad d 0 0 Mz hIz (fun k q => absurd q (by omega)) (fun k q => absurd q (by omega)) hT hN hk hm)⟩
  | succ m ih =>
    have h1 : ∀ k : Nat, k + 1 = m + 1 → ONEC l G cy ad (12 * m + 12) k := fun k q => by
      obtain rfl : k = m := by omega
      exact ih.1
    have h2 : ∀ k : Nat, k + 1 = m + 1 → CMPC l G cy ad (12 * m + 12) k := fun k q => by
      obtain rfl : k = m := by omega
      exact ih.2
    exact ⟨fun d Mz hIz hT hN hk hm => w_dep (by omega) (c_X4_readOne l G cy ad (d + 3) (12 * m + 12) (m + 1) Mz hIz h1 h2 hT hN hk hm), fun d Mz hIz hT hN hk hm => w_dep (by omega) (c_X4_readComparisons l G cy ad d (12 * m + 12) (m + 1) Mz hIz h1 h2 hT hN hk hm)⟩
theorem c_X4_cmp5 (l : Launch) (G : va_G) (cy : Nat → ClassId) (ad : rf → Nat) (d : Nat) (Mz : mM) (hIz : Inv Mz) (hT : Mz.1 (4, 0, 0) 1 = 1) (hN : Mz.1 (4, 0, 0) 2 = 1 ∨ Mz.1 (4, 0, 0) 2 = 2 ∨ Mz.1 (4, 0, 0) 2 = 3) (h0 : (Mz.1 (4, 0, 0) 5).toInt = 0) : WP CC l G cy ad yX4_readComparisons cX4_readComparisons 3 none (d + 72) 0 [(0, vR (4, 0, 0))] [] Mz (fun r M' => Inv M' ∧ FR (S_reader) Mz M' ∧ True) := w_dep (by omega) (w_Q ((reader_rec l G cy ad 5).2 d Mz hIz hT hN (by omega) (by omega)) (fun _ _ h => ⟨h.1, h.2.1, trivial⟩))
