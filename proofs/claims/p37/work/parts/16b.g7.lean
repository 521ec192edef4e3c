set_option maxHeartbeats 4000000 in
set_option maxRecDepth 100000 in
theorem c_X0_costInto (l : Launch) (G : va_G) (cy : Nat → ClassId) (ad : rf → Nat) (d : Nat) (b : Nat) (w : Nat) (v : Int32) (Mz : mM) (hIz : Inv Mz) (hb : b < 3) (hw : w < 8) : WP CC l G cy ad yX0_costInto cX0_costInto 3 (some .int) (d + 2) 0 [(0, vR (9, b, w)), (1, vI v)] [] Mz (fun r M' => Mz = M' ∧ True) := by
  refine w_aload_n dX0_costInto_0 rfl 0 rfl ?_
  refine w_iload_n dX0_costInto_1 rfl 1 rfl ?_
  refine w_callV (as := [vI v]) (rest := []) (c_X9_held l G cy ad d b w v Mz hIz hb hw) kV_X9_held (by decide +kernel) (Nat.le_of_ble_eq_true rfl) m_1084 rfl rfl rfl (ic_9 hb hw) rfl rfl (by decide) (Nat.le_of_ble_eq_true rfl) dX0_costInto_2 (fun r1_ M2_ q3_ => ?_)
  obtain ⟨rfl, h4_⟩ := q3_
  refine w_istore_n (ls' := [(2, vI r1_), (0, vR (9, b, w)), (1, vI v)]) dX0_costInto_5 rfl (by decide) rfl ?_
  refine w_iload_n dX0_costInto_6 rfl 0 rfl ?_
  refine w_iconst (v := 1) dX0_costInto_7 (by decide) ?_
  refine w_icmp_ne (tgt := 15) dX0_costInto_8 (by decide) (rfl : r1_.toInt = r1_.toInt) li_1 (fun h5_ => ?_) (fun h5_ => ?_)
  · refine w_iload_n dX0_costInto_15 rfl 0 rfl ?_
    refine w_iconst (v := 2) dX0_costInto_16 (by decide) ?_
    refine w_icmp_ne (tgt := 25) dX0_costInto_17 (by decide) (rfl : r1_.toInt = r1_.toInt) li_2 (fun h6_ => ?_) (fun h6_ => ?_)
    · refine w_iconst (v := 3) dX0_costInto_25 (by decide) ?_
      exact w_iret rfl dX0_costInto_26 ⟨rfl, trivial⟩
    · refine w_bipush (v := 20) dX0_costInto_20 (by decide) ?_
      refine w_goto (tgt := 26) dX0_costInto_22 (by decide) ?_
      exact w_iret rfl dX0_costInto_26 ⟨rfl, trivial⟩
  · refine w_iconst (v := 1) dX0_costInto_11 (by decide) ?_
    refine w_goto (tgt := 26) dX0_costInto_12 (by decide) ?_
    exact w_iret rfl dX0_costInto_26 ⟨rfl, trivial⟩
theorem lf_c_X0_costFrom_0  (v : Int32) (h4_ : 0 ≤ v.toInt ∧ v.toInt ≤ 191) : 0 ≤ v.toInt ∧ v.toInt < ((192 : Nat) : Int) := by have r_v := rngI v; omega
set_option maxHeartbeats 4000000 in
set_option maxRecDepth 100000 in
theorem c_X0_costFrom (l : Launch) (G : va_G) (cy : Nat → ClassId) (ad : rf → Nat) (d : Nat) (v : Int32) (Mz : mM) (hIz : Inv Mz) : WP CC l G cy ad yX0_costFrom cX0_costFrom 2 (some .int) (d + 1) 0 [(0, vR (0, 0, 0)), (1, vI v)] [] Mz (fun r M' => Mz = M' ∧ True) := by
  refine w_iload_n dX0_costFrom_0 rfl 1 rfl ?_
  refine w_callS (as := [vI v]) (rest := []) (c_X7_isCell l G cy ad d v Mz hIz) kS_X7_isCell (by decide +kernel) (Nat.le_of_ble_eq_true rfl) m_1076 rfl rfl (by decide) (Nat.le_of_ble_eq_true rfl) dX0_costFrom_1 (fun r1_ M2_ q3_ => ?_)
  obtain ⟨rfl, h4_⟩ := q3_
  rcases h4_ with ⟨rfl, h4_⟩ | ⟨rfl, h4_⟩
  · refine w_if_eq (tgt := 16) dX0_costFrom_4 (by decide) li_1 (fun h9 => (absurd h9 (by decide))) (fun h5_ => ?_)
    refine w_aload_n dX0_costFrom_7 rfl 0 rfl ?_
    refine w_getR (c' := (20, 0, 0)) fl_RX0_9 rfl rfl ic_0 dX0_costFrom_8 rfl ?_
    refine w_iload_n dX0_costFrom_11 rfl 1 rfl ?_
    refine w_iald rfl rfl ic_20 (rfl : v.toInt = v.toInt) (lf_c_X0_costFrom_0 v h4_) dX0_costFrom_12 (fun j8_ h9_ z6_ e7_ => ?_)
    refine w_goto (tgt := 18) dX0_costFrom_13 (by decide) ?_
    exact w_iret rfl dX0_costFrom_18 ⟨rfl, trivial⟩
  · refine w_if_eq (tgt := 16) dX0_costFrom_4 (by decide) li_0 (fun h10_ => ?_) (fun h9 => (absurd h9 (by decide)))
    refine w_ldc (v := 1000000) m_1075 dX0_costFrom_16 ?_
    exact w_iret rfl dX0_costFrom_18 ⟨rfl, trivial⟩
theorem lf_c_X0_nearestOpen_0  (v1_4 : Int32) (hv2_4 : -1 ≤ v1_4.toInt) (hv3_4 : v1_4.toInt ≤ 191) : -1 ≤ v1_4.toInt ∧ v1_4.toInt ≤ 191 := by have r_v1_4 := rngI v1_4; omega
theorem lf_c_X0_nearestOpen_1  (v2_4 : Int32) (hv0_4 : 0 ≤ v2_4.toInt) (hv1_4 : v2_4.toInt ≤ 192) (h2_ : v2_4.toInt < 192) : 0 ≤ v2_4.toInt ∧ v2_4.toInt < ((192 : Nat) : Int) := by have r_v2_4 := rngI v2_4; omega
theorem lf_c_X0_nearestOpen_2 (Mz : mM) (v2_4 : Int32) (j5_ : Nat) (z3_ : Int32) (hv0_4 : 0 ≤ v2_4.toInt) (hv1_4 : v2_4.toInt ≤ 192) (h2_ : v2_4.toInt < 192) (h6_ : (j5_ : Int) = v2_4.toInt) (e4_ : z3_ = Mz.1 (21, 0, 0) j5_) (h7_ : ¬ z3_.toInt = 0) : -2147483648 ≤ v2_4.toInt + 1 ∧ v2_4.toInt + 1 < 2147483648 := by have r_v2_4 := rngI v2_4; have r_z3_ := rngI z3_; subst e4_; omega
theorem lf_c_X0_nearestOpen_3 (Mz : mM) (v2_4 : Int32) (j5_ : Nat) (z3_ : Int32) (z8_ : Int32) (hv0_4 : 0 ≤ v2_4.toInt) (hv1_4 : v2_4.toInt ≤ 192) (h2_ : v2_4.toInt < 192) (h6_ : (j5_ : Int) = v2_4.toInt) (e4_ : z3_ = Mz.1 (21, 0, 0) j5_) (h7_ : ¬ z3_.toInt = 0) (h9_ : z8_.toInt = v2_4.toInt + 1) : 0 ≤ z8_.toInt := by have r_v2_4 := rngI v2_4; have r_z3_ := rngI z3_; have r_z8_ := rngI z8_; omega
theorem lf_c_X0_nearestOpen_4 (Mz : mM) (v2_4 : Int32) (j5_ : Nat) (z3_ : Int32) (z8_ : Int32) (hv0_4 : 0 ≤ v2_4.toInt) (hv1_4 : v2_4.toInt ≤ 192) (h2_ : v2_4.toInt < 192) (h6_ : (j5_ : Int) = v2_4.toInt) (e4_ : z3_ = Mz.1 (21, 0, 0) j5_) (h7_ : ¬ z3_.toInt = 0) (h9_ : z8_.toInt = v2_4.toInt + 1) : z8_.toInt ≤ 192 := by have r_v2_4 := rngI v2_4; have r_z3_ := rngI z3_; have r_z8_ := rngI z8_; omega
theorem lf_c_X0_nearestOpen_5 (Mz : mM) (v2_4 : Int32) (j5_ : Nat) (z3_ : Int32) (z8_ : Int32) (hv0_4 : 0 ≤ v2_4.toInt) (hv1_4 : v2_4.toInt ≤ 192) (h2_ : v2_4.toInt < 192) (h6_ : (j5_ : Int) = v2_4.toInt) (e4_ : z3_ = Mz.1 (21, 0, 0) j5_) (h7_ : ¬ z3_.toInt = 0) (h9_ : z8_.toInt = v2_4.toInt + 1) : (2147483648 - z8_.toInt).toNat < (2147483648 - v2_4.toInt).toNat := by have r_v2_4 := rngI v2_4; have r_z3_ := rngI z3_; have r_z8_ := rngI z8_; omega
theorem lf_c_X0_nearestOpen_6 (Mz : mM) (v2_4 : Int32) (j5_ : Nat) (z3_ : Int32) (hv0_4 : 0 ≤ v2_4.toInt) (hv1_4 : v2_4.toInt ≤ 192) (h2_ : v2_4.toInt < 192) (h6_ : (j5_ : Int) = v2_4.toInt) (e4_ : z3_ = Mz.1 (21, 0, 0) j5_) (h7_ : z3_.toInt = 0) : 0 ≤ v2_4.toInt ∧ v2_4.toInt < ((192 : Nat) : Int) := by have r_v2_4 := rngI v2_4; have r_z3_ := rngI z3_; subst e4_; omega
theorem lf_c_X0_nearestOpen_7 (Mz : mM) (v2_4 : Int32) (j5_ : Nat) (z3_ : Int32) (j12_ : Nat) (z10_ : Int32) (hv0_4 : 0 ≤ v2_4.toInt) (hv1_4 : v2_4.toInt ≤ 192) (h2_ : v2_4.toInt < 192) (h6_ : (j5_ : Int) = v2_4.toInt) (e4_ : z3_ = Mz.1 (21, 0, 0) j5_) (h7_ : z3_.toInt = 0) (h13_ : (j12_ : Int) = v2_4.toInt) (e11_ : z10_ = Mz.1 (20, 0, 0) j12_) (h14_ : 1000000 ≤ z10_.toInt) : -2147483648 ≤ v2_4.toInt + 1 ∧ v2_4.toInt + 1 < 2147483648 := by have r_v2_4 := rngI v2_4; have r_z3_ := rngI z3_; have r_z10_ := rngI z10_; subst e4_; subst e11_; omega
theorem lf_c_X0_nearestOpen_8 (Mz : mM) (v2_4 : Int32) (j5_ : Nat) (z3_ : Int32) (j12_ : Nat) (z10_ : Int32) (z15_ : Int32) (hv0_4 : 0 ≤ v2_4.toInt) (hv1_4 : v2_4.toInt ≤ 192) (h2_ : v2_4.toInt < 192) (h6_ : (j5_ : Int) = v2_4.toInt) (e4_ : z3_ = Mz.1 (21, 0, 0) j5_) (h7_ : z3_.toInt = 0) (h13_ : (j12_ : Int) = v2_4.toInt) (e11_ : z10_ = Mz.1 (20, 0, 0) j12_) (h14_ : 1000000 ≤ z10_.toInt) (h16_ : z15_.toInt = v2_4.toInt + 1) : 0 ≤ z15_.toInt := by have r_v2_4 := rngI v2_4; have r_z3_ := rngI z3_; have r_z10_ := rngI z10_; have r_z15_ := rngI z15_; omega
theorem lf_c_X0_nearestOpen_9 (Mz : mM) (v2_4 : Int32) (j5_ : Nat) (z3_ : Int32) (j12_ : Nat) (z10_ : Int32) (z15_ : Int32) (hv0_4 : 0 ≤ v2_4.toInt) (hv1_4 : v2_4.toInt ≤ 192) (h2_ : v2_4.toInt < 192) (h6_ : (j5_ : Int) = v2_4.toInt) (e4_ : z3_ = Mz.1 (21, 0, 0) j5_) (h7_ : z3_.toInt = 0) (h13_ : (j12_ : Int) = v2_4.toInt) (e11_ : z10_ = Mz.1 (20, 0, 0) j12_) (h14_ : 1000000 ≤ z10_.toInt) (h16_ : z15_.toInt = v2_4.toInt + 1) : z15_.toInt ≤ 192 := by have r_v2_4 := rngI v2_4; have r_z3_ := rngI z3_; have r_z10_ := rngI z10_; have r_z15_ := rngI z15_; omega
theorem lf_c_X0_nearestOpen_10 (Mz : mM) (v2_4 : Int32) (j5_ : Nat) (z3_ : Int32) (j12_ : Nat) (z10_ : Int32) (z15_ : Int32) (hv0_4 : 0 ≤ v2_4.toInt) (hv1_4 : v2_4.toInt ≤ 192) (h2_ : v2_4.toInt < 192) (h6_ : (j5_ : Int) = v2_4.toInt) (e4_ : z3_ = Mz.1 (21, 0, 0) j5_) (h7_ : z3_.toInt = 0) (h13_ : (j12_ : Int) = v2_4.toInt) (e11_ : z10_ = Mz.1 (20, 0, 0) j12_) (h14_ : 1000000 ≤ z10_.toInt) (h16_ : z15_.toInt = v2_4.toInt + 1) : (2147483648 - z15_.toInt).toNat < (2147483648 - v2_4.toInt).toNat := by have r_v2_4 := rngI v2_4; have r_z3_ := rngI z3_; have r_z10_ := rngI z10_; have r_z15_ := rngI z15_; omega
theorem lf_c_X0_nearestOpen_11 (Mz : mM) (v2_4 : Int32) (j5_ : Nat) (z3_ : Int32) (j12_ : Nat) (z10_ : Int32) (hv0_4 : 0 ≤ v2_4.toInt) (hv1_4 : v2_4.toInt ≤ 192) (h2_ : v2_4.toInt < 192) (h6_ : (j5_ : Int) = v2_4.toInt) (e4_ : z3_ = Mz.1 (21, 0, 0) j5_) (h7_ : z3_.toInt = 0) (h13_ : (j12_ : Int) = v2_4.toInt) (e11_ : z10_ = Mz.1 (20, 0, 0) j12_) (h14_ : z10_.toInt < 1000000) : -2147483648 ≤ v2_4.toInt + 1 ∧ v2_4.toInt + 1 < 2147483648 := by have r_v2_4 := rngI v2_4; have r_z3_ := rngI z3_; have r_z10_ := rngI z10_; subst e4_; subst e11_; omega
theorem lf_c_X0_nearestOpen_12 (Mz : mM) (v2_4 : Int32) (j5_ : Nat) (z3_ : Int32) (j12_ : Nat) (z10_ : Int32) (z18_ : Int32) (hv0_4 : 0 ≤ v2_4.toInt) (hv1_4 : v2_4.toInt ≤ 192) (h2_ : v2_4.toInt < 192) (h6_ : (j5_ : Int) = v2_4.toInt) (e4_ : z3_ = Mz.1 (21, 0, 0) j5_) (h7_ : z3_.toInt = 0) (h13_ : (j12_ : Int) = v2_4.toInt) (e11_ : z10_ = Mz.1 (20, 0, 0) j12_) (h14_ : z10_.toInt < 1000000) (h19_ : z18_.toInt = v2_4.toInt + 1) : 0 ≤ z18_.toInt := by have r_v2_4 := rngI v2_4; have r_z3_ := rngI z3_; have r_z10_ := rngI z10_; have r_z18_ := rngI z18_; omega
theorem lf_c_X0_nearestOpen_13 (Mz : mM) (v2_4 : Int32) (j5_ : Nat) (z3_ : Int32) (j12_ : Nat) (z10_ : Int32) (z18_ : Int32) (hv0_4 : 0 ≤ v2_4.toInt) (hv1_4 : v2_4.toInt ≤ 192) (h2_ : v2_4.toInt < 192) (h6_ : (j5_ : Int) = v2_4.toInt) (e4_ : z3_ = Mz.1 (21, 0, 0) j5_) (h7_ : z3_.toInt = 0) (h13_ : (j12_ : Int) = v2_4.toInt) (e11_ : z10_ = Mz.1 (20, 0, 0) j12_) (h14_ : z10_.toInt < 1000000) (h19_ : z18_.toInt = v2_4.toInt + 1) : z18_.toInt ≤ 192 := by have r_v2_4 := rngI v2_4; have r_z3_ := rngI z3_; have r_z10_ := rngI z10_; have r_z18_ := rngI z18_; omega
theorem lf_c_X0_nearestOpen_14 (Mz : mM) (v2_4 : Int32) (j5_ : Nat) (z3_ : Int32) (j12_ : Nat) (z10_ : Int32) (z18_ : Int32) (hv0_4 : 0 ≤ v2_4.toInt) (hv1_4 : v2_4.toInt ≤ 192) (h2_ : v2_4.toInt < 192) (h6_ : (j5_ : Int) = v2_4.toInt) (e4_ : z3_ = Mz.1 (21, 0, 0) j5_) (h7_ : z3_.toInt = 0) (h13_ : (j12_ : Int) = v2_4.toInt) (e11_ : z10_ = Mz.1 (20, 0, 0) j12_) (h14_ : z10_.toInt < 1000000) (h19_ : z18_.toInt = v2_4.toInt + 1) : -1 ≤ v2_4.toInt := by have r_v2_4 := rngI v2_4; have r_z3_ := rngI z3_; have r_z10_ := rngI z10_; have r_z18_ := rngI z18_; omega
theorem lf_c_X0_nearestOpen_15 (Mz : mM) (v2_4 : Int32) (j5_ : Nat) (z3_ : Int32) (j12_ : Nat) (z10_ : Int32) (z18_ : Int32) (hv0_4 : 0 ≤ v2_4.toInt) (hv1_4 : v2_4.toInt ≤ 192) (h2_ : v2_4.toInt < 192) (h6_ : (j5_ : Int) = v2_4.toInt) (e4_ : z3_ = Mz.1 (21, 0, 0) j5_) (h7_ : z3_.toInt = 0) (h13_ : (j12_ : Int) = v2_4.toInt) (e11_ : z10_ = Mz.1 (20, 0, 0) j12_) (h14_ : z10_.toInt < 1000000) (h19_ : z18_.toInt = v2_4.toInt + 1) : v2_4.toInt ≤ 191 := by have r_v2_4 := rngI v2_4; have r_z3_ := rngI z3_; have r_z10_ := rngI z10_; have r_z18_ := rngI z18_; omega
theorem lf_c_X0_nearestOpen_16 (Mz : mM) (v2_4 : Int32) (j5_ : Nat) (z3_ : Int32) (j12_ : Nat) (z10_ : Int32) (z18_ : Int32) (hv0_4 : 0 ≤ v2_4.toInt) (hv1_4 : v2_4.toInt ≤ 192) (h2_ : v2_4.toInt < 192) (h6_ : (j5_ : Int) = v2_4.toInt) (e4_ : z3_ = Mz.1 (21, 0, 0) j5_) (h7_ : z3_.toInt = 0) (h13_ : (j12_ : Int) = v2_4.toInt) (e11_ : z10_ = Mz.1 (20, 0, 0) j12_) (h14_ : z10_.toInt < 1000000) (h19_ : z18_.toInt = v2_4.toInt + 1) : (2147483648 - z18_.toInt).toNat < (2147483648 - v2_4.toInt).toNat := by have r_v2_4 := rngI v2_4; have r_z3_ := rngI z3_; have r_z10_ := rngI z10_; have r_z18_ := rngI z18_; omega
theorem lf_c_X0_nearestOpen_17 (Mz : mM) (v2_4 : Int32) (j5_ : Nat) (z3_ : Int32) (j12_ : Nat) (z10_ : Int32) (hv0_4 : 0 ≤ v2_4.toInt) (hv1_4 : v2_4.toInt ≤ 192) (h2_ : v2_4.toInt < 192) (h6_ : (j5_ : Int) = v2_4.toInt) (e4_ : z3_ = Mz.1 (21, 0, 0) j5_) (h7_ : z3_.toInt = 0) (h13_ : (j12_ : Int) = v2_4.toInt) (e11_ : z10_ = Mz.1 (20, 0, 0) j12_) (h14_ : z10_.toInt < 1000000) : 0 ≤ v2_4.toInt ∧ v2_4.toInt < ((192 : Nat) : Int) := by have r_v2_4 := rngI v2_4; have r_z3_ := rngI z3_; have r_z10_ := rngI z10_; subst e4_; subst e11_; omega
theorem lf_c_X0_nearestOpen_18  (v1_4 : Int32) (hv2_4 : -1 ≤ v1_4.toInt) (hv3_4 : v1_4.toInt ≤ 191) (h17_ : 0 ≤ v1_4.toInt) : 0 ≤ v1_4.toInt ∧ v1_4.toInt < ((192 : Nat) : Int) := by have r_v1_4 := rngI v1_4; omega
theorem lf_c_X0_nearestOpen_19 (Mz : mM) (v2_4 : Int32) (v1_4 : Int32) (j5_ : Nat) (z3_ : Int32) (j12_ : Nat) (z10_ : Int32) (j22_ : Nat) (z20_ : Int32) (j26_ : Nat) (z24_ : Int32) (hv0_4 : 0 ≤ v2_4.toInt) (hv1_4 : v2_4.toInt ≤ 192) (hv2_4 : -1 ≤ v1_4.toInt) (hv3_4 : v1_4.toInt ≤ 191) (h2_ : v2_4.toInt < 192) (h6_ : (j5_ : Int) = v2_4.toInt) (e4_ : z3_ = Mz.1 (21, 0, 0) j5_) (h7_ : z3_.toInt = 0) (h13_ : (j12_ : Int) = v2_4.toInt) (e11_ : z10_ = Mz.1 (20, 0, 0) j12_) (h14_ : z10_.toInt < 1000000) (h17_ : 0 ≤ v1_4.toInt) (h23_ : (j22_ : Int) = v2_4.toInt) (e21_ : z20_ = Mz.1 (20, 0, 0) j22_) (h27_ : (j26_ : Int) = v1_4.toInt) (e25_ : z24_ = Mz.1 (20, 0, 0) j26_) (h28_ : z24_.toInt ≤ z20_.toInt) : -2147483648 ≤ v2_4.toInt + 1 ∧ v2_4.toInt + 1 < 2147483648 := by have r_v2_4 := rngI v2_4; have r_v1_4 := rngI v1_4; have r_z3_ := rngI z3_; have r_z10_ := rngI z10_; have r_z20_ := rngI z20_; have r_z24_ := rngI z24_; subst e4_; subst e11_; subst e21_; subst e25_; omega
theorem lf_c_X0_nearestOpen_20 (Mz : mM) (v2_4 : Int32) (v1_4 : Int32) (j5_ : Nat) (z3_ : Int32) (j12_ : Nat) (z10_ : Int32) (j22_ : Nat) (z20_ : Int32) (j26_ : Nat) (z24_ : Int32) (z29_ : Int32) (hv0_4 : 0 ≤ v2_4.toInt) (hv1_4 : v2_4.toInt ≤ 192) (hv2_4 : -1 ≤ v1_4.toInt) (hv3_4 : v1_4.toInt ≤ 191) (h2_ : v2_4.toInt < 192) (h6_ : (j5_ : Int) = v2_4.toInt) (e4_ : z3_ = Mz.1 (21, 0, 0) j5_) (h7_ : z3_.toInt = 0) (h13_ : (j12_ : Int) = v2_4.toInt) (e11_ : z10_ = Mz.1 (20, 0, 0) j12_) (h14_ : z10_.toInt < 1000000) (h17_ : 0 ≤ v1_4.toInt) (h23_ : (j22_ : Int) = v2_4.toInt) (e21_ : z20_ = Mz.1 (20, 0, 0) j22_) (h27_ : (j26_ : Int) = v1_4.toInt) (e25_ : z24_ = Mz.1 (20, 0, 0) j26_) (h28_ : z24_.toInt ≤ z20_.toInt) (h30_ : z29_.toInt = v2_4.toInt + 1) : 0 ≤ z29_.toInt := by have r_v2_4 := rngI v2_4; have r_v1_4 := rngI v1_4; have r_z3_ := rngI z3_; have r_z10_ := rngI z10_; have r_z20_ := rngI z20_; have r_z24_ := rngI z24_; have r_z29_ := rngI z29_; omega
theorem lf_c_X0_nearestOpen_21 (Mz : mM) (v2_4 : Int32) (v1_4 : Int32) (j5_ : Nat) (z3_ : Int32) (j12_ : Nat) (z10_ : Int32) (j22_ : Nat) (z20_ : Int32) (j26_ : Nat) (z24_ : Int32) (z29_ : Int32) (hv0_4 : 0 ≤ v2_4.toInt) (hv1_4 : v2_4.toInt ≤ 192) (hv2_4 : -1 ≤ v1_4.toInt) (hv3_4 : v1_4.toInt ≤ 191) (h2_ : v2_4.toInt < 192) (h6_ : (j5_ : Int) = v2_4.toInt) (e4_ : z3_ = Mz.1 (21, 0, 0) j5_) (h7_ : z3_.toInt = 0) (h13_ : (j12_ : Int) = v2_4.toInt) (e11_ : z10_ = Mz.1 (20, 0, 0) j12_) (h14_ : z10_.toInt < 1000000) (h17_ : 0 ≤ v1_4.toInt) (h23_ : (j22_ : Int) = v2_4.toInt) (e21_ : z20_ = Mz.1 (20, 0, 0) j22_) (h27_ : (j26_ : Int) = v1_4.toInt) (e25_ : z24_ = Mz.1 (20, 0, 0) j26_) (h28_ : z24_.toInt ≤ z20_.toInt) (h30_ : z29_.toInt = v2_4.toInt + 1) : z29_.toInt ≤ 192 := by have r_v2_4 := rngI v2_4; have r_v1_4 := rngI v1_4; have r_z3_ := rngI z3_; have r_z10_ := rngI z10_; have r_z20_ := rngI z20_; have r_z24_ := rngI z24_; have r_z29_ := rngI z29_; omega
theorem lf_c_X0_nearestOpen_22 (Mz : mM) (v2_4 : Int32) (v1_4 : Int32) (j5_ : Nat) (z3_ : Int32) (j12_ : Nat) (z10_ : Int32) (j22_ : Nat) (z20_ : Int32) (j26_ : Nat) (z24_ : Int32) (z29_ : Int32) (hv0_4 : 0 ≤ v2_4.toInt) (hv1_4 : v2_4.toInt ≤ 192) (hv2_4 : -1 ≤ v1_4.toInt) (hv3_4 : v1_4.toInt ≤ 191) (h2_ : v2_4.toInt < 192) (h6_ : (j5_ : Int) = v2_4.toInt) (e4_ : z3_ = Mz.1 (21, 0, 0) j5_) (h7_ : z3_.toInt = 0) (h13_ : (j12_ : Int) = v2_4.toInt) (e11_ : z10_ = Mz.1 (20, 0, 0) j12_) (h14_ : z10_.toInt < 1000000) (h17_ : 0 ≤ v1_4.toInt) (h23_ : (j22_ : Int) = v2_4.toInt) (e21_ : z20_ = Mz.1 (20, 0, 0) j22_) (h27_ : (j26_ : Int) = v1_4.toInt) (e25_ : z24_ = Mz.1 (20, 0, 0) j26_) (h28_ : z24_.toInt ≤ z20_.toInt) (h30_ : z29_.toInt = v2_4.toInt + 1) : (2147483648 - z29_.toInt).toNat < (2147483648 - v2_4.toInt).toNat := by have r_v2_4 := rngI v2_4; have r_v1_4 := rngI v1_4; have r_z3_ := rngI z3_; have r_z10_ := rngI z10_; have r_z20_ := rngI z20_; have r_z24_ := rngI z24_; have r_z29_ := rngI z29_; omega
theorem lf_c_X0_nearestOpen_23 (Mz : mM) (v2_4 : Int32) (v1_4 : Int32) (j5_ : Nat) (z3_ : Int32) (j12_ : Nat) (z10_ : Int32) (j22_ : Nat) (z20_ : Int32) (j26_ : Nat) (z24_ : Int32) (hv0_4 : 0 ≤ v2_4.toInt) (hv1_4 : v2_4.toInt ≤ 192) (hv2_4 : -1 ≤ v1_4.toInt) (hv3_4 : v1_4.toInt ≤ 191) (h2_ : v2_4.toInt < 192) (h6_ : (j5_ : Int) = v2_4.toInt) (e4_ : z3_ = Mz.1 (21, 0, 0) j5_) (h7_ : z3_.toInt = 0) (h13_ : (j12_ : Int) = v2_4.toInt) (e11_ : z10_ = Mz.1 (20, 0, 0) j12_) (h14_ : z10_.toInt < 1000000) (h17_ : 0 ≤ v1_4.toInt) (h23_ : (j22_ : Int) = v2_4.toInt) (e21_ : z20_ = Mz.1 (20, 0, 0) j22_) (h27_ : (j26_ : Int) = v1_4.toInt) (e25_ : z24_ = Mz.1 (20, 0, 0) j26_) (h28_ : z20_.toInt < z24_.toInt) : -2147483648 ≤ v2_4.toInt + 1 ∧ v2_4.toInt + 1 < 2147483648 := by have r_v2_4 := rngI v2_4; have r_v1_4 := rngI v1_4; have r_z3_ := rngI z3_; have r_z10_ := rngI z10_; have r_z20_ := rngI z20_; have r_z24_ := rngI z24_; subst e4_; subst e11_; subst e21_; subst e25_; omega
theorem lf_c_X0_nearestOpen_24 (Mz : mM) (v2_4 : Int32) (v1_4 : Int32) (j5_ : Nat) (z3_ : Int32) (j12_ : Nat) (z10_ : Int32) (j22_ : Nat) (z20_ : Int32) (j26_ : Nat) (z24_ : Int32) (z31_ : Int32) (hv0_4 : 0 ≤ v2_4.toInt) (hv1_4 : v2_4.toInt ≤ 192) (hv2_4 : -1 ≤ v1_4.toInt) (hv3_4 : v1_4.toInt ≤ 191) (h2_ : v2_4.toInt < 192) (h6_ : (j5_ : Int) = v2_4.toInt) (e4_ : z3_ = Mz.1 (21, 0, 0) j5_) (h7_ : z3_.toInt = 0) (h13_ : (j12_ : Int) = v2_4.toInt) (e11_ : z10_ = Mz.1 (20, 0, 0) j12_) (h14_ : z10_.toInt < 1000000) (h17_ : 0 ≤ v1_4.toInt) (h23_ : (j22_ : Int) = v2_4.toInt) (e21_ : z20_ = Mz.1 (20, 0, 0) j22_) (h27_ : (j26_ : Int) = v1_4.toInt) (e25_ : z24_ = Mz.1 (20, 0, 0) j26_) (h28_ : z20_.toInt < z24_.toInt) (h32_ : z31_.toInt = v2_4.toInt + 1) : 0 ≤ z31_.toInt := by have r_v2_4 := rngI v2_4; have r_v1_4 := rngI v1_4; have r_z3_ := rngI z3_; have r_z10_ := rngI z10_; have r_z20_ := rngI z20_; have r_z24_ := rngI z24_; have r_z31_ := rngI z31_; omega
theorem lf_c_X0_nearestOpen_25 (Mz : mM) (v2_4 : Int32) (v1_4 : Int32) (j5_ : Nat) (z3_ : Int32) (j12_ : Nat) (z10_ : Int32) (j22_ : Nat) (z20_ : Int32) (j26_ : Nat) (z24_ : Int32) (z31_ : Int32) (hv0_4 : 0 ≤ v2_4.toInt) (hv1_4 : v2_4.toInt ≤ 192) (hv2_4 : -1 ≤ v1_4.toInt) (hv3_4 : v1_4.toInt ≤ 191) (h2_ : v2_4.toInt < 192) (h6_ : (j5_ : Int) = v2_4.toInt) (e4_ : z3_ = Mz.1 (21, 0, 0) j5_) (h7_ : z3_.toInt = 0) (h13_ : (j12_ : Int) = v2_4.toInt) (e11_ : z10_ = Mz.1 (20, 0, 0) j12_) (h14_ : z10_.toInt < 1000000) (h17_ : 0 ≤ v1_4.toInt) (h23_ : (j22_ : Int) = v2_4.toInt) (e21_ : z20_ = Mz.1 (20, 0, 0) j22_) (h27_ : (j26_ : Int) = v1_4.toInt) (e25_ : z24_ = Mz.1 (20, 0, 0) j26_) (h28_ : z20_.toInt < z24_.toInt) (h32_ : z31_.toInt = v2_4.toInt + 1) : z31_.toInt ≤ 192 := by have r_v2_4 := rngI v2_4; have r_v1_4 := rngI v1_4; have r_z3_ := rngI z3_; have r_z10_ := rngI z10_; have r_z20_ := rngI z20_; have r_z24_ := rngI z24_; have r_z31_ := rngI z31_; omega
theorem lf_c_X0_nearestOpen_26 (Mz : mM) (v2_4 : Int32) (v1_4 : Int32) (j5_ : Nat) (z3_ : Int32) (j12_ : Nat) (z10_ : Int32) (j22_ : Nat) (z20_ : Int32) (j26_ : Nat) (z24_ : Int32) (z31_ : Int32) (hv0_4 : 0 ≤ v2_4.toInt) (hv1_4 : v2_4.toInt ≤ 192) (hv2_4 : -1 ≤ v1_4.toInt) (hv3_4 : v1_4.toInt ≤ 191) (h2_ : v2_4.toInt < 192) (h6_ : (j5_ : Int) = v2_4.toInt) (e4_ : z3_ = Mz.1 (21, 0, 0) j5_) (h7_ : z3_.toInt = 0) (h13_ : (j12_ : Int) = v2_4.toInt) (e11_ : z10_ = Mz.1 (20, 0, 0) j12_) (h14_ : z10_.toInt < 1000000) (h17_ : 0 ≤ v1_4.toInt) (h23_ : (j22_ : Int) = v2_4.toInt) (e21_ : z20_ = Mz.1 (20, 0, 0) j22_) (h27_ : (j26_ : Int) = v1_4.toInt) (e25_ : z24_ = Mz.1 (20, 0, 0) j26_) (h28_ : z20_.toInt < z24_.toInt) (h32_ : z31_.toInt = v2_4.toInt + 1) : -1 ≤ v2_4.toInt := by have r_v2_4 := rngI v2_4; have r_v1_4 := rngI v1_4; have r_z3_ := rngI z3_; have r_z10_ := rngI z10_; have r_z20_ := rngI z20_; have r_z24_ := rngI z24_; have r_z31_ := rngI z31_; omega
theorem lf_c_X0_nearestOpen_27 (Mz : mM) (v2_4 : Int32) (v1_4 : Int32) (j5_ : Nat) (z3_ : Int32) (j12_ : Nat) (z10_ : Int32) (j22_ : Nat) (z20_ : Int32) (j26_ : Nat) (z24_ : Int32) (z31_ : Int32) (hv0_4 : 0 ≤ v2_4.toInt) (hv1_4 : v2_4.toInt ≤ 192) (hv2_4 : -1 ≤ v1_4.toInt) (hv3_4 : v1_4.toInt ≤ 191) (h2_ : v2_4.toInt < 192) (h6_ : (j5_ : Int) = v2_4.toInt) (e4_ : z3_ = Mz.1 (21, 0, 0) j5_) (h7_ : z3_.toInt = 0) (h13_ : (j12_ : Int) = v2_4.toInt) (e11_ : z10_ = Mz.1 (20, 0, 0) j12_) (h14_ : z10_.toInt < 1000000) (h17_ : 0 ≤ v1_4.toInt) (h23_ : (j22_ : Int) = v2_4.toInt) (e21_ : z20_ = Mz.1 (20, 0, 0) j22_) (h27_ : (j26_ : Int) = v1_4.toInt) (e25_ : z24_ = Mz.1 (20, 0, 0) j26_) (h28_ : z20_.toInt < z24_.toInt) (h32_ : z31_.toInt = v2_4.toInt + 1) : v2_4.toInt ≤ 191 := by have r_v2_4 := rngI v2_4; have r_v1_4 := rngI v1_4; have r_z3_ := rngI z3_; have r_z10_ := rngI z10_; have r_z20_ := rngI z20_; have r_z24_ := rngI z24_; have r_z31_ := rngI z31_; omega
theorem lf_c_X0_nearestOpen_28 (Mz : mM) (v2_4 : Int32) (v1_4 : Int32) (j5_ : Nat) (z3_ : Int32) (j12_ : Nat) (z10_ : Int32) (j22_ : Nat) (z20_ : Int32) (j26_ : Nat) (z24_ : Int32) (z31_ : Int32) (hv0_4 : 0 ≤ v2_4.toInt) (hv1_4 : v2_4.toInt ≤ 192) (hv2_4 : -1 ≤ v1_4.toInt) (hv3_4 : v1_4.toInt ≤ 191) (h2_ : v2_4.toInt < 192) (h6_ : (j5_ : Int) = v2_4.toInt) (e4_ : z3_ = Mz.1 (21, 0, 0) j5_) (h7_ : z3_.toInt = 0) (h13_ : (j12_ : Int) = v2_4.toInt) (e11_ : z10_ = Mz.1 (20, 0, 0) j12_) (h14_ : z10_.toInt < 1000000) (h17_ : 0 ≤ v1_4.toInt) (h23_ : (j22_ : Int) = v2_4.toInt) (e21_ : z20_ = Mz.1 (20, 0, 0) j22_) (h27_ : (j26_ : Int) = v1_4.toInt) (e25_ : z24_ = Mz.1 (20, 0, 0) j26_) (h28_ : z20_.toInt < z24_.toInt) (h32_ : z31_.toInt = v2_4.toInt + 1) : (2147483648 - z31_.toInt).toNat < (2147483648 - v2_4.toInt).toNat := by have r_v2_4 := rngI v2_4; have r_v1_4 := rngI v1_4; have r_z3_ := rngI z3_; have r_z10_ := rngI z10_; have r_z20_ := rngI z20_; have r_z24_ := rngI z24_; have r_z31_ := rngI z31_; omega
theorem lf_c_X0_nearestOpen_29    : 0 ≤ (0 : Int32).toInt := by have q0 := li_m1; have q1 := li_0; omega
theorem lf_c_X0_nearestOpen_30    : (0 : Int32).toInt ≤ 192 := by have q0 := li_m1; have q1 := li_0; omega
theorem lf_c_X0_nearestOpen_31    : -1 ≤ ((-1) : Int32).toInt := by have q0 := li_m1; have q1 := li_0; omega
theorem lf_c_X0_nearestOpen_32    : ((-1) : Int32).toInt ≤ 191 := by have q0 := li_m1; have q1 := li_0; omega
set_option maxHeartbeats 4000000 in
set_option maxRecDepth 100000 in
theorem c_X0_nearestOpen (l : Launch) (G : va_G) (cy : Nat → ClassId) (ad : rf → Nat) (d : Nat) (Mz : mM) (hIz : Inv Mz) : WP CC l G cy ad yX0_nearestOpen cX0_nearestOpen 3 (some .int) d 0 [(0, vR (0, 0, 0))] [] Mz (fun r M' => Mz = M' ∧ -1 ≤ r.toInt ∧ r.toInt ≤ 191) := by
  refine w_iconst (v := (-1)) dX0_nearestOpen_0 (by decide) ?_
  refine w_istore_n (ls' := [(1, vI (-1)), (0, vR (0, 0, 0))]) dX0_nearestOpen_1 rfl (by decide) rfl ?_
  refine w_iconst (v := 0) dX0_nearestOpen_2 (by decide) ?_
  refine w_istore_n (ls' := [(2, vI 0), (1, vI (-1)), (0, vR (0, 0, 0))]) dX0_nearestOpen_3 rfl (by decide) rfl ?_
  have lp1_ : ∀ (nn_4 : Nat) (v2_4 : Int32) (v1_4 : Int32) (hv0_4 : 0 ≤ v2_4.toInt) (hv1_4 : v2_4.toInt ≤ 192) (hv2_4 : -1 ≤ v1_4.toInt) (hv3_4 : v1_4.toInt ≤ 191), (2147483648 - v2_4.toInt).toNat < nn_4 → WP CC l G cy ad yX0_nearestOpen cX0_nearestOpen 3 (some .int) d 4 [(2, vI v2_4), (1, vI v1_4), (0, vR (0, 0, 0))] [] Mz (fun r M' => Mz = M' ∧ -1 ≤ r.toInt ∧ r.toInt ≤ 191) := by
    intro nn_4
    induction nn_4 with
    | zero => intro v2_4 v1_4 hv0_4 hv1_4 hv2_4 hv3_4 hm_4; exact absurd hm_4 (Nat.not_lt_zero _)
    | succ nn_4 ih_4 =>
      intro v2_4 v1_4 hv0_4 hv1_4 hv2_4 hv3_4 hm_4
      refine w_iload_n dX0_nearestOpen_4 rfl 0 rfl ?_
      refine w_sipush (v := 192) dX0_nearestOpen_5 (by decide) ?_
      refine w_icmp_ge (tgt := 58) dX0_nearestOpen_8 (by decide) (rfl : v2_4.toInt = v2_4.toInt) li_192 (fun h2_ => ?_) (fun h2_ => ?_)
      · refine w_iload_n dX0_nearestOpen_58 rfl 1 rfl ?_
        exact w_iret rfl dX0_nearestOpen_59 ⟨rfl, (lf_c_X0_nearestOpen_0 v1_4 hv2_4 hv3_4)⟩
      · refine w_aload_n dX0_nearestOpen_11 rfl 2 rfl ?_
        refine w_getR (c' := (21, 0, 0)) fl_RX0_15 rfl rfl ic_0 dX0_nearestOpen_12 rfl ?_
        refine w_iload_n dX0_nearestOpen_15 rfl 0 rfl ?_
        refine w_zald rfl rfl ic_21 (rfl : v2_4.toInt = v2_4.toInt) (lf_c_X0_nearestOpen_1 v2_4 hv0_4 hv1_4 h2_) dX0_nearestOpen_16 (fun j5_ h6_ z3_ e4_ => ?_)
        refine w_if_ne (tgt := 52) dX0_nearestOpen_17 (by decide) (rfl : z3_.toInt = z3_.toInt) (fun h7_ => ?_) (fun h7_ => ?_)
        · refine w_iincB (j := 0) (f := fun z8_ => [(2, vI z8_), (1, vI v1_4), (0, vR (0, 0, 0))]) dX0_nearestOpen_52 rfl (by decide) (fun _ => rfl) (rfl : v2_4.toInt = v2_4.toInt) li_1 (lf_c_X0_nearestOpen_2 Mz v2_4 j5_ z3_ hv0_4 hv1_4 h2_ h6_ e4_ h7_) (fun z8_ h9_ => ?_)
          refine w_goto (tgt := 4) dX0_nearestOpen_55 (by decide) ?_
          refine w_loc (ls' := [(2, vI z8_), (1, vI v1_4), (0, vR (0, 0, 0))]) [0, 1, 2] rfl ?_
          exact ih_4 z8_ v1_4 (lf_c_X0_nearestOpen_3 Mz v2_4 j5_ z3_ z8_ hv0_4 hv1_4 h2_ h6_ e4_ h7_ h9_) (lf_c_X0_nearestOpen_4 Mz v2_4 j5_ z3_ z8_ hv0_4 hv1_4 h2_ h6_ e4_ h7_ h9_) hv2_4 hv3_4 (Nat.lt_of_lt_of_le (lf_c_X0_nearestOpen_5 Mz v2_4 j5_ z3_ z8_ hv0_4 hv1_4 h2_ h6_ e4_ h7_ h9_) (Nat.le_of_lt_succ hm_4))
        · refine w_aload_n dX0_nearestOpen_20 rfl 2 rfl ?_
          refine w_getR (c' := (20, 0, 0)) fl_RX0_9 rfl rfl ic_0 dX0_nearestOpen_21 rfl ?_
          refine w_iload_n dX0_nearestOpen_24 rfl 0 rfl ?_
          refine w_iald rfl rfl ic_20 (rfl : v2_4.toInt = v2_4.toInt) (lf_c_X0_nearestOpen_6 Mz v2_4 j5_ z3_ hv0_4 hv1_4 h2_ h6_ e4_ h7_) dX0_nearestOpen_25 (fun j12_ h13_ z10_ e11_ => ?_)
          refine w_ldc (v := 1000000) m_1075 dX0_nearestOpen_26 ?_
          refine w_icmp_ge (tgt := 52) dX0_nearestOpen_28 (by decide) (rfl : z10_.toInt = z10_.toInt) li_1000000 (fun h14_ => ?_) (fun h14_ => ?_)
          · refine w_iincB (j := 0) (f := fun z15_ => [(2, vI z15_), (1, vI v1_4), (0, vR (0, 0, 0))]) dX0_nearestOpen_52 rfl (by decide) (fun _ => rfl) (rfl : v2_4.toInt = v2_4.toInt) li_1 (lf_c_X0_nearestOpen_7 Mz v2_4 j5_ z3_ j12_ z10_ hv0_4 hv1_4 h2_ h6_ e4_ h7_ h13_ e11_ h14_) (fun z15_ h16_ => ?_)
            refine w_goto (tgt := 4) dX0_nearestOpen_55 (by decide) ?_
            refine w_loc (ls' := [(2, vI z15_), (1, vI v1_4), (0, vR (0, 0, 0))]) [0, 1, 2] rfl ?_
            exact ih_4 z15_ v1_4 (lf_c_X0_nearestOpen_8 Mz v2_4 j5_ z3_ j12_ z10_ z15_ hv0_4 hv1_4 h2_ h6_ e4_ h7_ h13_ e11_ h14_ h16_) (lf_c_X0_nearestOpen_9 Mz v2_4 j5_ z3_ j12_ z10_ z15_ hv0_4 hv1_4 h2_ h6_ e4_ h7_ h13_ e11_ h14_ h16_) hv2_4 hv3_4 (Nat.lt_of_lt_of_le (lf_c_X0_nearestOpen_10 Mz v2_4 j5_ z3_ j12_ z10_ z15_ hv0_4 hv1_4 h2_ h6_ e4_ h7_ h13_ e11_ h14_ h16_) (Nat.le_of_lt_succ hm_4))
          · refine w_iload_n dX0_nearestOpen_31 rfl 1 rfl ?_
            refine w_if_lt (tgt := 50) dX0_nearestOpen_32 (by decide) (rfl : v1_4.toInt = v1_4.toInt) (fun h17_ => ?_) (fun h17_ => ?_)
            · refine w_iload_n dX0_nearestOpen_50 rfl 0 rfl ?_
              refine w_istore_n (ls' := [(1, vI v2_4), (2, vI v2_4), (0, vR (0, 0, 0))]) dX0_nearestOpen_51 rfl (by decide) rfl ?_
              refine w_iincB (j := 1) (f := fun z18_ => [(2, vI z18_), (1, vI v2_4), (0, vR (0, 0, 0))]) dX0_nearestOpen_52 rfl (by decide) (fun _ => rfl) (rfl : v2_4.toInt = v2_4.toInt) li_1 (lf_c_X0_nearestOpen_11 Mz v2_4 j5_ z3_ j12_ z10_ hv0_4 hv1_4 h2_ h6_ e4_ h7_ h13_ e11_ h14_) (fun z18_ h19_ => ?_)
              refine w_goto (tgt := 4) dX0_nearestOpen_55 (by decide) ?_
              refine w_loc (ls' := [(2, vI z18_), (1, vI v2_4), (0, vR (0, 0, 0))]) [0, 1, 2] rfl ?_
              exact ih_4 z18_ v2_4 (lf_c_X0_nearestOpen_12 Mz v2_4 j5_ z3_ j12_ z10_ z18_ hv0_4 hv1_4 h2_ h6_ e4_ h7_ h13_ e11_ h14_ h19_) (lf_c_X0_nearestOpen_13 Mz v2_4 j5_ z3_ j12_ z10_ z18_ hv0_4 hv1_4 h2_ h6_ e4_ h7_ h13_ e11_ h14_ h19_) (lf_c_X0_nearestOpen_14 Mz v2_4 j5_ z3_ j12_ z10_ z18_ hv0_4 hv1_4 h2_ h6_ e4_ h7_ h13_ e11_ h14_ h19_) (lf_c_X0_nearestOpen_15 Mz v2_4 j5_ z3_ j12_ z10_ z18_ hv0_4 hv1_4 h2_ h6_ e4_ h7_ h13_ e11_ h14_ h19_) (Nat.lt_of_lt_of_le (lf_c_X0_nearestOpen_16 Mz v2_4 j5_ z3_ j12_ z10_ z18_ hv0_4 hv1_4 h2_ h6_ e4_ h7_ h13_ e11_ h14_ h19_) (Nat.le_of_lt_succ hm_4))
            · refine w_aload_n dX0_nearestOpen_35 rfl 2 rfl ?_
              refine w_getR (c' := (20, 0, 0)) fl_RX0_9 rfl rfl ic_0 dX0_nearestOpen_36 rfl ?_
              refine w_iload_n dX0_nearestOpen_39 rfl 0 rfl ?_
              refine w_iald rfl rfl ic_20 (rfl : v2_4.toInt = v2_4.toInt) (lf_c_X0_nearestOpen_17 Mz v2_4 j5_ z3_ j12_ z10_ hv0_4 hv1_4 h2_ h6_ e4_ h7_ h13_ e11_ h14_) dX0_nearestOpen_40 (fun j22_ h23_ z20_ e21_ => ?_)
              refine w_aload_n dX0_nearestOpen_41 rfl 2 rfl ?_
              refine w_getR (c' := (20, 0, 0)) fl_RX0_9 rfl rfl ic_0 dX0_nearestOpen_42 rfl ?_
              refine w_iload_n dX0_nearestOpen_45 rfl 1 rfl ?_
              refine w_iald rfl rfl ic_20 (rfl : v1_4.toInt = v1_4.toInt) (lf_c_X0_nearestOpen_18 v1_4 hv2_4 hv3_4 h17_) dX0_nearestOpen_46 (fun j26_ h27_ z24_ e25_ => ?_)
              refine w_icmp_ge (tgt := 52) dX0_nearestOpen_47 (by decide) (rfl : z20_.toInt = z20_.toInt) (rfl : z24_.toInt = z24_.toInt) (fun h28_ => ?_) (fun h28_ => ?_)
              · refine w_iincB (j := 0) (f := fun z29_ => [(2, vI z29_), (1, vI v1_4), (0, vR (0, 0, 0))]) dX0_nearestOpen_52 rfl (by decide) (fun _ => rfl) (rfl : v2_4.toInt = v2_4.toInt) li_1 (lf_c_X0_nearestOpen_19 Mz v2_4 v1_4 j5_ z3_ j12_ z10_ j22_ z20_ j26_ z24_ hv0_4 hv1_4 hv2_4 hv3_4 h2_ h6_ e4_ h7_ h13_ e11_ h14_ h17_ h23_ e21_ h27_ e25_ h28_) (fun z29_ h30_ => ?_)
                refine w_goto (tgt := 4) dX0_nearestOpen_55 (by decide) ?_
                refine w_loc (ls' := [(2, vI z29_), (1, vI v1_4), (0, vR (0, 0, 0))]) [0, 1, 2] rfl ?_
                exact ih_4 z29_ v1_4 (lf_c_X0_nearestOpen_20 Mz v2_4 v1_4 j5_ z3_ j12_ z10_ j22_ z20_ j26_ z24_ z29_ hv0_4 hv1_4 hv2_4 hv3_4 h2_ h6_ e4_ h7_ h13_ e11_ h14_ h17_ h23_ e21_ h27_ e25_ h28_ h30_) (lf_c_X0_nearestOpen_21 Mz v2_4 v1_4 j5_ z3_ j12_ z10_ j22_ z20_ j26_ z24_ z29_ hv0_4 hv1_4 hv2_4 hv3_4 h2_ h6_ e4_ h7_ h13_ e11_ h14_ h17_ h23_ e21_ h27_ e25_ h28_ h30_) hv2_4 hv3_4 (Nat.lt_of_lt_of_le (lf_c_X0_nearestOpen_22 Mz v2_4 v1_4 j5_ z3_ j12_ z10_ j22_ z20_ j26_ z24_ z29_ hv0_4 hv1_4 hv2_4 hv3_4 h2_ h6_ e4_ h7_ h13_ e11_ h14_ h17_ h23_ e21_ h27_ e25_ h28_ h30_) (Nat.le_of_lt_succ hm_4))
              · refine w_iload_n dX0_nearestOpen_50 rfl 0 rfl ?_
                refine w_istore_n (ls' := [(1, vI v2_4), (2, vI v2_4), (0, vR (0, 0, 0))]) dX0_nearestOpen_51 rfl (by decide) rfl ?_
                refine w_iincB (j := 1) (f := fun z31_ => [(2, vI z31_), (1, vI v2_4), (0, vR (0, 0, 0))]) dX0_nearestOpen_52 rfl (by decide) (fun _ => rfl) (rfl : v2_4.toInt = v2_4.toInt) li_1 (lf_c_X0_nearestOpen_23 Mz v2_4 v1_4 j5_ z3_ j12_ z10_ j22_ z20_ j26_ z24_ hv0_4 hv1_4 hv2_4 hv3_4 h2_ h6_ e4_ h7_ h13_ e11_ h14_ h17_ h23_ e21_ h27_ e25_ h28_) (fun z31_ h32_ => ?_)
                refine w_goto (tgt := 4) dX0_nearestOpen_55 (by decide) ?_
                refine w_loc (ls' := [(2, vI z31_), (1, vI v2_4), (0, vR (0, 0, 0))]) [0, 1, 2] rfl ?_
                exact ih_4 z31_ v2_4 (lf_c_X0_nearestOpen_24 Mz v2_4 v1_4 j5_ z3_ j12_ z10_ j22_ z20_ j26_ z24_ z31_ hv0_4 hv1_4 hv2_4 hv3_4 h2_ h6_ e4_ h7_ h13_ e11_ h14_ h17_ h23_ e21_ h27_ e25_ h28_ h32_) (lf_c_X0_nearestOpen_25 Mz v2_4 v1_4 j5_ z3_ j12_ z10_ j22_ z20_ j26_ z24_ z31_ hv0_4 hv1_4 hv2_4 hv3_4 h2_ h6_ e4_ h7_ h13_ e11_ h14_ h17_ h23_ e21_ h27_ e25_ h28_ h32_) (lf_c_X0_nearestOpen_26 Mz v2_4 v1_4 j5_ z3_ j12_ z10_ j22_ z20_ j26_ z24_ z31_ hv0_4 hv1_4 hv2_4 hv3_4 h2_ h6_ e4_ h7_ h13_ e11_ h14_ h17_ h23_ e21_ h27_ e25_ h28_ h32_) (lf_c_X0_nearestOpen_27 Mz v2_4 v1_4 j5_ z3_ j12_ z10_ j22_ z20_ j26_ z24_ z31_ hv0_4 hv1_4 hv2_4 hv3_4 h2_ h6_ e4_ h7_ h13_ e11_ h14_ h17_ h23_ e21_ h27_ e25_ h28_ h32_) (Nat.lt_of_lt_of_le (lf_c_X0_nearestOpen_28 Mz v2_4 v1_4 j5_ z3_ j12_ z10_ j22_ z20_ j26_ z24_ z31_ hv0_4 hv1_4 hv2_4 hv3_4 h2_ h6_ e4_ h7_ h13_ e11_ h14_ h17_ h23_ e21_ h27_ e25_ h28_ h32_) (Nat.le_of_lt_succ hm_4))
  exact lp1_ _ 0 (-1) (lf_c_X0_nearestOpen_29 ) (lf_c_X0_nearestOpen_30 ) (lf_c_X0_nearestOpen_31 ) (lf_c_X0_nearestOpen_32 ) (Nat.lt_succ_self _)
def S_c_X0_measure (b : Nat) (w : Nat) : rf → Nat → Prop := fun c k => (c.1 = 20 ∧ c.2.1 = 0) ∨ (c.1 = 21 ∧ c.2.1 = 0) ∨ False
theorem lf_c_X0_measure_0  (v : Int32) (h6_ : 0 ≤ v.toInt ∧ v.toInt ≤ 191) : 0 ≤ v.toInt ∧ v.toInt < ((192 : Nat) : Int) := by have r_v := rngI v; omega
theorem lf_c_X0_measure_1  (r16_ : Int32) (h19_ : -1 ≤ r16_.toInt ∧ r16_.toInt ≤ 191) (h20_ : 0 ≤ r16_.toInt) : 0 ≤ r16_.toInt ∧ r16_.toInt < ((192 : Nat) : Int) := by have r_r16_ := rngI r16_; omega
theorem lf_c_X0_measure_2 (M21_ : mM) (M_46 : mM) (r16_ : Int32) (j23_ : Nat) (h19_ : -1 ≤ r16_.toInt ∧ r16_.toInt ≤ 191) (h20_ : 0 ≤ r16_.toInt) (h24_ : (j23_ : Int) = r16_.toInt) (hM22_ : M21_ = up M_46 (21, 0, 0) j23_ (vp_nar .boolean 1)) : 0 ≤ r16_.toInt ∧ r16_.toInt < ((192 : Nat) : Int) := by have r_r16_ := rngI r16_; omega
theorem lf_c_X0_measure_3  (v3_46 : Int32) (hv0_46 : 0 ≤ v3_46.toInt) (hv1_46 : v3_46.toInt ≤ 192) (h15_ : v3_46.toInt < 192) : -2147483648 ≤ v3_46.toInt + 1 ∧ v3_46.toInt + 1 < 2147483648 := by have r_v3_46 := rngI v3_46; omega
theorem lf_c_X0_measure_4  (v3_46 : Int32) (z38_ : Int32) (hv0_46 : 0 ≤ v3_46.toInt) (hv1_46 : v3_46.toInt ≤ 192) (h15_ : v3_46.toInt < 192) (h39_ : z38_.toInt = v3_46.toInt + 1) : 0 ≤ z38_.toInt := by have r_v3_46 := rngI v3_46; have r_z38_ := rngI z38_; omega
theorem lf_c_X0_measure_5  (v3_46 : Int32) (z38_ : Int32) (hv0_46 : 0 ≤ v3_46.toInt) (hv1_46 : v3_46.toInt ≤ 192) (h15_ : v3_46.toInt < 192) (h39_ : z38_.toInt = v3_46.toInt + 1) : z38_.toInt ≤ 192 := by have r_v3_46 := rngI v3_46; have r_z38_ := rngI z38_; omega
theorem lf_c_X0_measure_6  (v3_46 : Int32) (z38_ : Int32) (hv0_46 : 0 ≤ v3_46.toInt) (hv1_46 : v3_46.toInt ≤ 192) (h15_ : v3_46.toInt < 192) (h39_ : z38_.toInt = v3_46.toInt + 1) : (2147483648 - z38_.toInt).toNat < (2147483648 - v3_46.toInt).toNat := by have r_v3_46 := rngI v3_46; have r_z38_ := rngI z38_; omega
theorem lf_c_X0_measure_7  (v6_92 : Int32) (hv0_92 : 0 ≤ v6_92.toInt) (hv1_92 : v6_92.toInt ≤ 9) (h37_ : v6_92.toInt < 8) : -2147483648 ≤ v6_92.toInt + 2 ∧ v6_92.toInt + 2 < 2147483648 := by have r_v6_92 := rngI v6_92; omega
theorem lf_c_X0_measure_8  (v6_92 : Int32) (z45_ : Int32) (hv0_92 : 0 ≤ v6_92.toInt) (hv1_92 : v6_92.toInt ≤ 9) (h37_ : v6_92.toInt < 8) (h46_ : z45_.toInt = v6_92.toInt + 2) : 0 ≤ z45_.toInt := by have r_v6_92 := rngI v6_92; have r_z45_ := rngI z45_; omega
theorem lf_c_X0_measure_9  (v6_92 : Int32) (z45_ : Int32) (hv0_92 : 0 ≤ v6_92.toInt) (hv1_92 : v6_92.toInt ≤ 9) (h37_ : v6_92.toInt < 8) (h46_ : z45_.toInt = v6_92.toInt + 2) : z45_.toInt ≤ 9 := by have r_v6_92 := rngI v6_92; have r_z45_ := rngI z45_; omega
theorem lf_c_X0_measure_10  (v6_92 : Int32) (z45_ : Int32) (hv0_92 : 0 ≤ v6_92.toInt) (hv1_92 : v6_92.toInt ≤ 9) (h37_ : v6_92.toInt < 8) (h46_ : z45_.toInt = v6_92.toInt + 2) : (2147483648 - z45_.toInt).toNat < (2147483648 - v6_92.toInt).toNat := by have r_v6_92 := rngI v6_92; have r_z45_ := rngI z45_; omega
theorem lf_c_X0_measure_11  (r40_ : Int32) (h43_ : -1 ≤ r40_.toInt ∧ r40_.toInt ≤ 191) (h44_ : 0 ≤ r40_.toInt) : 0 ≤ r40_.toInt ∧ r40_.toInt < ((192 : Nat) : Int) := by have r_r40_ := rngI r40_; omega
theorem lf_c_X0_measure_12  (v6_92 : Int32) (hv0_92 : 0 ≤ v6_92.toInt) (hv1_92 : v6_92.toInt ≤ 9) (h37_ : v6_92.toInt < 8) : -2147483648 ≤ v6_92.toInt + 2 ∧ v6_92.toInt + 2 < 2147483648 := by have r_v6_92 := rngI v6_92; omega
theorem lf_c_X0_measure_13  (v6_92 : Int32) (z52_ : Int32) (hv0_92 : 0 ≤ v6_92.toInt) (hv1_92 : v6_92.toInt ≤ 9) (h37_ : v6_92.toInt < 8) (h53_ : z52_.toInt = v6_92.toInt + 2) : 0 ≤ z52_.toInt := by have r_v6_92 := rngI v6_92; have r_z52_ := rngI z52_; omega
theorem lf_c_X0_measure_14  (v6_92 : Int32) (z52_ : Int32) (hv0_92 : 0 ≤ v6_92.toInt) (hv1_92 : v6_92.toInt ≤ 9) (h37_ : v6_92.toInt < 8) (h53_ : z52_.toInt = v6_92.toInt + 2) : z52_.toInt ≤ 9 := by have r_v6_92 := rngI v6_92; have r_z52_ := rngI z52_; omega
theorem lf_c_X0_measure_15  (v6_92 : Int32) (z52_ : Int32) (hv0_92 : 0 ≤ v6_92.toInt) (hv1_92 : v6_92.toInt ≤ 9) (h37_ : v6_92.toInt < 8) (h53_ : z52_.toInt = v6_92.toInt + 2) : (2147483648 - z52_.toInt).toNat < (2147483648 - v6_92.toInt).toNat := by have r_v6_92 := rngI v6_92; have r_z52_ := rngI z52_; omega
theorem lf_c_X0_measure_16 (M_92 : mM) (z35_ : Int32) (r40_ : Int32) (j49_ : Nat) (z47_ : Int32) (h43_ : -1 ≤ r40_.toInt ∧ r40_.toInt ≤ 191) (h44_ : 0 ≤ r40_.toInt) (h50_ : (j49_ : Int) = r40_.toInt) (e48_ : z47_ = M_92.1 (20, 0, 0) j49_) (h51_ : z35_.toInt < z47_.toInt) : 0 ≤ r40_.toInt ∧ r40_.toInt < ((192 : Nat) : Int) := by have r_z35_ := rngI z35_; have r_r40_ := rngI r40_; have r_z47_ := rngI z47_; subst e48_; omega
theorem lf_c_X0_measure_17  (v6_92 : Int32) (hv0_92 : 0 ≤ v6_92.toInt) (hv1_92 : v6_92.toInt ≤ 9) (h37_ : v6_92.toInt < 8) : -2147483648 ≤ v6_92.toInt + 2 ∧ v6_92.toInt + 2 < 2147483648 := by have r_v6_92 := rngI v6_92; omega
theorem lf_c_X0_measure_18  (v6_92 : Int32) (z60_ : Int32) (hv0_92 : 0 ≤ v6_92.toInt) (hv1_92 : v6_92.toInt ≤ 9) (h37_ : v6_92.toInt < 8) (h61_ : z60_.toInt = v6_92.toInt + 2) : 0 ≤ z60_.toInt := by have r_v6_92 := rngI v6_92; have r_z60_ := rngI z60_; omega
theorem lf_c_X0_measure_19  (v6_92 : Int32) (z60_ : Int32) (hv0_92 : 0 ≤ v6_92.toInt) (hv1_92 : v6_92.toInt ≤ 9) (h37_ : v6_92.toInt < 8) (h61_ : z60_.toInt = v6_92.toInt + 2) : z60_.toInt ≤ 9 := by have r_v6_92 := rngI v6_92; have r_z60_ := rngI z60_; omega
theorem lf_c_X0_measure_20  (v6_92 : Int32) (z60_ : Int32) (hv0_92 : 0 ≤ v6_92.toInt) (hv1_92 : v6_92.toInt ≤ 9) (h37_ : v6_92.toInt < 8) (h61_ : z60_.toInt = v6_92.toInt + 2) : (2147483648 - z60_.toInt).toNat < (2147483648 - v6_92.toInt).toNat := by have r_v6_92 := rngI v6_92; have r_z60_ := rngI z60_; omega
theorem lf_c_X0_measure_21    : 0 ≤ (0 : Int32).toInt := by have q0 := li_0; omega
theorem lf_c_X0_measure_22    : (0 : Int32).toInt ≤ 9 := by have q0 := li_0; omega
theorem lf_c_X0_measure_23    : 0 ≤ (0 : Int32).toInt := by have q0 := li_0; omega
theorem lf_c_X0_measure_24    : (0 : Int32).toInt ≤ 192 := by have q0 := li_0; omega
theorem lf_c_X0_measure_25  (r65_ : Int32) (h68_ : -1 ≤ r65_.toInt ∧ r65_.toInt ≤ 191) (h69_ : 0 ≤ r65_.toInt) : 0 ≤ r65_.toInt ∧ r65_.toInt < ((192 : Nat) : Int) := by have r_r65_ := rngI r65_; omega
theorem lf_c_X0_measure_26 (M70_ : mM) (M_46 : mM) (r65_ : Int32) (j72_ : Nat) (h68_ : -1 ≤ r65_.toInt ∧ r65_.toInt ≤ 191) (h69_ : 0 ≤ r65_.toInt) (h73_ : (j72_ : Int) = r65_.toInt) (hM71_ : M70_ = up M_46 (21, 0, 0) j72_ (vp_nar .boolean 1)) : 0 ≤ r65_.toInt ∧ r65_.toInt < ((192 : Nat) : Int) := by have r_r65_ := rngI r65_; omega
theorem lf_c_X0_measure_27  (v3_46 : Int32) (hv0_46 : 0 ≤ v3_46.toInt) (hv1_46 : v3_46.toInt ≤ 192) (h64_ : v3_46.toInt < 192) : -2147483648 ≤ v3_46.toInt + 1 ∧ v3_46.toInt + 1 < 2147483648 := by have r_v3_46 := rngI v3_46; omega
theorem lf_c_X0_measure_28  (v3_46 : Int32) (z87_ : Int32) (hv0_46 : 0 ≤ v3_46.toInt) (hv1_46 : v3_46.toInt ≤ 192) (h64_ : v3_46.toInt < 192) (h88_ : z87_.toInt = v3_46.toInt + 1) : 0 ≤ z87_.toInt := by have r_v3_46 := rngI v3_46; have r_z87_ := rngI z87_; omega
theorem lf_c_X0_measure_29  (v3_46 : Int32) (z87_ : Int32) (hv0_46 : 0 ≤ v3_46.toInt) (hv1_46 : v3_46.toInt ≤ 192) (h64_ : v3_46.toInt < 192) (h88_ : z87_.toInt = v3_46.toInt + 1) : z87_.toInt ≤ 192 := by have r_v3_46 := rngI v3_46; have r_z87_ := rngI z87_; omega
theorem lf_c_X0_measure_30  (v3_46 : Int32) (z87_ : Int32) (hv0_46 : 0 ≤ v3_46.toInt) (hv1_46 : v3_46.toInt ≤ 192) (h64_ : v3_46.toInt < 192) (h88_ : z87_.toInt = v3_46.toInt + 1) : (2147483648 - z87_.toInt).toNat < (2147483648 - v3_46.toInt).toNat := by have r_v3_46 := rngI v3_46; have r_z87_ := rngI z87_; omega
theorem lf_c_X0_measure_31  (v6_92 : Int32) (hv0_92 : 0 ≤ v6_92.toInt) (hv1_92 : v6_92.toInt ≤ 9) (h86_ : v6_92.toInt < 8) : -2147483648 ≤ v6_92.toInt + 2 ∧ v6_92.toInt + 2 < 2147483648 := by have r_v6_92 := rngI v6_92; omega
theorem lf_c_X0_measure_32  (v6_92 : Int32) (z94_ : Int32) (hv0_92 : 0 ≤ v6_92.toInt) (hv1_92 : v6_92.toInt ≤ 9) (h86_ : v6_92.toInt < 8) (h95_ : z94_.toInt = v6_92.toInt + 2) : 0 ≤ z94_.toInt := by have r_v6_92 := rngI v6_92; have r_z94_ := rngI z94_; omega
theorem lf_c_X0_measure_33  (v6_92 : Int32) (z94_ : Int32) (hv0_92 : 0 ≤ v6_92.toInt) (hv1_92 : v6_92.toInt ≤ 9) (h86_ : v6_92.toInt < 8) (h95_ : z94_.toInt = v6_92.toInt + 2) : z94_.toInt ≤ 9 := by have r_v6_92 := rngI v6_92; have r_z94_ := rngI z94_; omega
theorem lf_c_X0_measure_34  (v6_92 : Int32) (z94_ : Int32) (hv0_92 : 0 ≤ v6_92.toInt) (hv1_92 : v6_92.toInt ≤ 9) (h86_ : v6_92.toInt < 8) (h95_ : z94_.toInt = v6_92.toInt + 2) : (2147483648 - z94_.toInt).toNat < (2147483648 - v6_92.toInt).toNat := by have r_v6_92 := rngI v6_92; have r_z94_ := rngI z94_; omega
theorem lf_c_X0_measure_35  (r89_ : Int32) (h92_ : -1 ≤ r89_.toInt ∧ r89_.toInt ≤ 191) (h93_ : 0 ≤ r89_.toInt) : 0 ≤ r89_.toInt ∧ r89_.toInt < ((192 : Nat) : Int) := by have r_r89_ := rngI r89_; omega
theorem lf_c_X0_measure_36  (v6_92 : Int32) (hv0_92 : 0 ≤ v6_92.toInt) (hv1_92 : v6_92.toInt ≤ 9) (h86_ : v6_92.toInt < 8) : -2147483648 ≤ v6_92.toInt + 2 ∧ v6_92.toInt + 2 < 2147483648 := by have r_v6_92 := rngI v6_92; omega
theorem lf_c_X0_measure_37  (v6_92 : Int32) (z101_ : Int32) (hv0_92 : 0 ≤ v6_92.toInt) (hv1_92 : v6_92.toInt ≤ 9) (h86_ : v6_92.toInt < 8) (h102_ : z101_.toInt = v6_92.toInt + 2) : 0 ≤ z101_.toInt := by have r_v6_92 := rngI v6_92; have r_z101_ := rngI z101_; omega
theorem lf_c_X0_measure_38  (v6_92 : Int32) (z101_ : Int32) (hv0_92 : 0 ≤ v6_92.toInt) (hv1_92 : v6_92.toInt ≤ 9) (h86_ : v6_92.toInt < 8) (h102_ : z101_.toInt = v6_92.toInt + 2) : z101_.toInt ≤ 9 := by have r_v6_92 := rngI v6_92; have r_z101_ := rngI z101_; omega
theorem lf_c_X0_measure_39  (v6_92 : Int32) (z101_ : Int32) (hv0_92 : 0 ≤ v6_92.toInt) (hv1_92 : v6_92.toInt ≤ 9) (h86_ : v6_92.toInt < 8) (h102_ : z101_.toInt = v6_92.toInt + 2) : (2147483648 - z101_.toInt).toNat < (2147483648 - v6_92.toInt).toNat := by have r_v6_92 := rngI v6_92; have r_z101_ := rngI z101_; omega
theorem lf_c_X0_measure_40 (M_92 : mM) (z84_ : Int32) (r89_ : Int32) (j98_ : Nat) (z96_ : Int32) (h92_ : -1 ≤ r89_.toInt ∧ r89_.toInt ≤ 191) (h93_ : 0 ≤ r89_.toInt) (h99_ : (j98_ : Int) = r89_.toInt) (e97_ : z96_ = M_92.1 (20, 0, 0) j98_) (h100_ : z84_.toInt < z96_.toInt) : 0 ≤ r89_.toInt ∧ r89_.toInt < ((192 : Nat) : Int) := by have r_z84_ := rngI z84_; have r_r89_ := rngI r89_; have r_z96_ := rngI z96_; subst e97_; omega
theorem lf_c_X0_measure_41  (v6_92 : Int32) (hv0_92 : 0 ≤ v6_92.toInt) (hv1_92 : v6_92.toInt ≤ 9) (h86_ : v6_92.toInt < 8) : -2147483648 ≤ v6_92.toInt + 2 ∧ v6_92.toInt + 2 < 2147483648 := by have r_v6_92 := rngI v6_92; omega
theorem lf_c_X0_measure_42  (v6_92 : Int32) (z109_ : Int32) (hv0_92 : 0 ≤ v6_92.toInt) (hv1_92 : v6_92.toInt ≤ 9) (h86_ : v6_92.toInt < 8) (h110_ : z109_.toInt = v6_92.toInt + 2) : 0 ≤ z109_.toInt := by have r_v6_92 := rngI v6_92; have r_z109_ := rngI z109_; omega
theorem lf_c_X0_measure_43  (v6_92 : Int32) (z109_ : Int32) (hv0_92 : 0 ≤ v6_92.toInt) (hv1_92 : v6_92.toInt ≤ 9) (h86_ : v6_92.toInt < 8) (h110_ : z109_.toInt = v6_92.toInt + 2) : z109_.toInt ≤ 9 := by have r_v6_92 := rngI v6_92; have r_z109_ := rngI z109_; omega
theorem lf_c_X0_measure_44  (v6_92 : Int32) (z109_ : Int32) (hv0_92 : 0 ≤ v6_92.toInt) (hv1_92 : v6_92.toInt ≤ 9) (h86_ : v6_92.toInt < 8) (h110_ : z109_.toInt = v6_92.toInt + 2) : (2147483648 - z109_.toInt).toNat < (2147483648 - v6_92.toInt).toNat := by have r_v6_92 := rngI v6_92; have r_z109_ := rngI z109_; omega
theorem lf_c_X0_measure_45    : 0 ≤ (0 : Int32).toInt := by have q0 := li_0; omega
theorem lf_c_X0_measure_46    : (0 : Int32).toInt ≤ 9 := by have q0 := li_0; omega
theorem lf_c_X0_measure_47    : 0 ≤ (0 : Int32).toInt := by have q0 := li_0; omega
theorem lf_c_X0_measure_48    : (0 : Int32).toInt ≤ 192 := by have q0 := li_0; omega
theorem lf_c_X0_measure_49  (v3_2 : Int32) (hv0_2 : 0 ≤ v3_2.toInt) (hv1_2 : v3_2.toInt ≤ 192) (h2_ : v3_2.toInt < 192) : 0 ≤ v3_2.toInt ∧ v3_2.toInt < ((192 : Nat) : Int) := by have r_v3_2 := rngI v3_2; omega
theorem lf_c_X0_measure_50 (M111_ : mM) (M_2 : mM) (v3_2 : Int32) (j113_ : Nat) (hv0_2 : 0 ≤ v3_2.toInt) (hv1_2 : v3_2.toInt ≤ 192) (h2_ : v3_2.toInt < 192) (h114_ : (j113_ : Int) = v3_2.toInt) (hM112_ : M111_ = up M_2 (20, 0, 0) j113_ 1000000) : 0 ≤ v3_2.toInt ∧ v3_2.toInt < ((192 : Nat) : Int) := by have r_v3_2 := rngI v3_2; omega
theorem lf_c_X0_measure_51 (M111_ : mM) (M117_ : mM) (M_2 : mM) (v3_2 : Int32) (j113_ : Nat) (j119_ : Nat) (hv0_2 : 0 ≤ v3_2.toInt) (hv1_2 : v3_2.toInt ≤ 192) (h2_ : v3_2.toInt < 192) (h114_ : (j113_ : Int) = v3_2.toInt) (hM112_ : M111_ = up M_2 (20, 0, 0) j113_ 1000000) (h120_ : (j119_ : Int) = v3_2.toInt) (hM118_ : M117_ = up M111_ (21, 0, 0) j119_ (vp_nar .boolean 0)) : -2147483648 ≤ v3_2.toInt + 1 ∧ v3_2.toInt + 1 < 2147483648 := by have r_v3_2 := rngI v3_2; omega
theorem lf_c_X0_measure_52 (M111_ : mM) (M117_ : mM) (M_2 : mM) (v3_2 : Int32) (j113_ : Nat) (j119_ : Nat) (z123_ : Int32) (hv0_2 : 0 ≤ v3_2.toInt) (hv1_2 : v3_2.toInt ≤ 192) (h2_ : v3_2.toInt < 192) (h114_ : (j113_ : Int) = v3_2.toInt) (hM112_ : M111_ = up M_2 (20, 0, 0) j113_ 1000000) (h120_ : (j119_ : Int) = v3_2.toInt) (hM118_ : M117_ = up M111_ (21, 0, 0) j119_ (vp_nar .boolean 0)) (h124_ : z123_.toInt = v3_2.toInt + 1) : 0 ≤ z123_.toInt := by have r_v3_2 := rngI v3_2; have r_z123_ := rngI z123_; omega
theorem lf_c_X0_measure_53 (M111_ : mM) (M117_ : mM) (M_2 : mM) (v3_2 : Int32) (j113_ : Nat) (j119_ : Nat) (z123_ : Int32) (hv0_2 : 0 ≤ v3_2.toInt) (hv1_2 : v3_2.toInt ≤ 192) (h2_ : v3_2.toInt < 192) (h114_ : (j113_ : Int) = v3_2.toInt) (hM112_ : M111_ = up M_2 (20, 0, 0) j113_ 1000000) (h120_ : (j119_ : Int) = v3_2.toInt) (hM118_ : M117_ = up M111_ (21, 0, 0) j119_ (vp_nar .boolean 0)) (h124_ : z123_.toInt = v3_2.toInt + 1) : z123_.toInt ≤ 192 := by have r_v3_2 := rngI v3_2; have r_z123_ := rngI z123_; omega
theorem lf_c_X0_measure_54 (M111_ : mM) (M117_ : mM) (M_2 : mM) (v3_2 : Int32) (j113_ : Nat) (j119_ : Nat) (z123_ : Int32) (hv0_2 : 0 ≤ v3_2.toInt) (hv1_2 : v3_2.toInt ≤ 192) (h2_ : v3_2.toInt < 192) (h114_ : (j113_ : Int) = v3_2.toInt) (hM112_ : M111_ = up M_2 (20, 0, 0) j113_ 1000000) (h120_ : (j119_ : Int) = v3_2.toInt) (hM118_ : M117_ = up M111_ (21, 0, 0) j119_ (vp_nar .boolean 0)) (h124_ : z123_.toInt = v3_2.toInt + 1) : (2147483648 - z123_.toInt).toNat < (2147483648 - v3_2.toInt).toNat := by have r_v3_2 := rngI v3_2; have r_z123_ := rngI z123_; omega
theorem lf_c_X0_measure_55    : 0 ≤ (0 : Int32).toInt := by have q0 := li_0; omega
theorem lf_c_X0_measure_56    : (0 : Int32).toInt ≤ 192 := by have q0 := li_0; omega
set_option maxHeartbeats 4000000 in
set_option maxRecDepth 100000 in
theorem c_X0_measure (l : Launch) (G : va_G) (cy : Nat → ClassId) (ad : rf → Nat) (d : Nat) (b : Nat) (w : Nat) (v : Int32) (Mz : mM) (hIz : Inv Mz) (hb : b < 3) (hw : w < 8) : WP CC l G cy ad yX0_measure cX0_measure 8 none (d + 3) 0 [(0, vR (0, 0, 0)), (1, vR (9, b, w)), (2, vI v)] [] Mz (fun r M' => Inv M' ∧ FR (S_c_X0_measure b w) Mz M' ∧ True) := by
  have hFz : FR (S_c_X0_measure b w) Mz Mz := FR.self
  refine w_iconst (v := 0) dX0_measure_0 (by decide) ?_
  refine w_istore_n (ls' := [(3, vI 0), (0, vR (0, 0, 0)), (1, vR (9, b, w)), (2, vI v)]) dX0_measure_1 rfl (by decide) rfl ?_
  have lp1_ : ∀ (nn_2 : Nat) (M_2 : mM) (hI_2 : Inv M_2) (hF_2 : FR (S_c_X0_measure b w) Mz M_2) (v3_2 : Int32) (hv0_2 : 0 ≤ v3_2.toInt) (hv1_2 : v3_2.toInt ≤ 192), (2147483648 - v3_2.toInt).toNat < nn_2 → WP CC l G cy ad yX0_measure cX0_measure 8 none (d + 3) 2 [(3, vI v3_2), (0, vR (0, 0, 0)), (1, vR (9, b, w)), (2, vI v)] [] M_2 (fun r M' => Inv M' ∧ FR (S_c_X0_measure b w) Mz M' ∧ True) := by
    intro nn_2
    induction nn_2 with
    | zero => intro M_2 hI_2 hF_2 v3_2 hv0_2 hv1_2 hm_2; exact absurd hm_2 (Nat.not_lt_zero _)
    | succ nn_2 ih_2 =>
      intro M_2 hI_2 hF_2 v3_2 hv0_2 hv1_2 hm_2
      refine w_iload_n dX0_measure_2 rfl 0 rfl ?_
      refine w_sipush (v := 192) dX0_measure_3 (by decide) ?_
      refine w_icmp_ge (tgt := 30) dX0_measure_6 (by decide) (rfl : v3_2.toInt = v3_2.toInt) li_192 (fun h2_ => ?_) (fun h2_ => ?_)
      · refine w_iload_n dX0_measure_30 rfl 3 rfl ?_
        refine w_callS (as := [vI v]) (rest := []) (c_X7_isCell l G cy ad (d + 2) v M_2 hI_2) kS_X7_isCell (by decide +kernel) (Nat.le_of_ble_eq_true rfl) m_1076 rfl rfl (by decide) (Nat.le_of_ble_eq_true rfl) dX0_measure_31 (fun r3_ M4_ q5_ => ?_)
        obtain ⟨rfl, h6_⟩ := q5_
        rcases h6_ with ⟨rfl, h6_⟩ | ⟨rfl, h6_⟩
        · refine w_if_eq (tgt := 44) dX0_measure_34 (by decide) li_1 (fun h9 => (absurd h9 (by decide))) (fun h7_ => ?_)
          refine w_aload_n dX0_measure_37 rfl 1 rfl ?_
          refine w_getR (c' := (20, 0, 0)) fl_RX0_9 rfl rfl ic_0 dX0_measure_38 rfl ?_
          refine w_iload_n dX0_measure_41 rfl 3 rfl ?_
          refine w_iconst (v := 0) dX0_measure_42 (by decide) ?_
          refine w_iast CC_nd rfl rfl ic_20 (rfl : v.toInt = v.toInt) (lf_c_X0_measure_0 v h6_) dX0_measure_43 (fun j10_ h11_ M8_ hM9_ => ?_)
          have hI12_ := hI_2.put hM9_ trivial
          have hF13_ := hF_2.put hM9_ (Or.inl ⟨rfl, rfl⟩)
          refine w_iconst (v := 0) dX0_measure_44 (by decide) ?_
          refine w_istore_n (ls' := [(3, vI 0), (0, vR (0, 0, 0)), (1, vR (9, b, w)), (2, vI v)]) dX0_measure_45 rfl (by decide) rfl ?_
          have lp14_ : ∀ (nn_46 : Nat) (M_46 : mM) (hI_46 : Inv M_46) (hF_46 : FR (S_c_X0_measure b w) Mz M_46) (v3_46 : Int32) (hv0_46 : 0 ≤ v3_46.toInt) (hv1_46 : v3_46.toInt ≤ 192), (2147483648 - v3_46.toInt).toNat < nn_46 → WP CC l G cy ad yX0_measure cX0_measure 8 none (d + 3) 46 [(3, vI v3_46), (0, vR (0, 0, 0)), (1, vR (9, b, w)), (2, vI v)] [] M_46 (fun r M' => Inv M' ∧ FR (S_c_X0_measure b w) Mz M' ∧ True) := by
            intro nn_46
            induction nn_46 with
            | zero => intro M_46 hI_46 hF_46 v3_46 hv0_46 hv1_46 hm_46; exact absurd hm_46 (Nat.not_lt_zero _)
            | succ nn_46 ih_46 =>
              intro M_46 hI_46 hF_46 v3_46 hv0_46 hv1_46 hm_46
              refine w_iload_n dX0_measure_46 rfl 0 rfl ?_
              refine w_sipush (v := 192) dX0_measure_47 (by decide) ?_
              refine w_icmp_ge (tgt := 147) dX0_measure_50 (by decide) (rfl : v3_46.toInt = v3_46.toInt) li_192 (fun h15_ => ?_) (fun h15_ => ?_)
              · exact w_vret rfl dX0_measure_147 ⟨hI_46, hF_46, trivial⟩
              · refine w_aload_n dX0_measure_53 rfl 1 rfl ?_
                refine w_callV (as := []) (rest := []) (c_X0_nearestOpen l G cy ad (d + 2) M_46 hI_46) kV_X0_nearestOpen (by decide +kernel) (Nat.le_of_ble_eq_true rfl) m_1077 rfl rfl rfl ic_0 rfl rfl (by decide) (Nat.le_of_ble_eq_true rfl) dX0_measure_54 (fun r16_ M17_ q18_ => ?_)
                obtain ⟨rfl, h19_⟩ := q18_
                refine w_istore (ls' := [(4, vI r16_), (3, vI v3_46), (0, vR (0, 0, 0)), (1, vR (9, b, w)), (2, vI v)]) dX0_measure_57 (by decide) rfl ?_
                refine w_iload dX0_measure_59 0 rfl ?_
                refine w_if_ge (tgt := 65) dX0_measure_61 (by decide) (rfl : r16_.toInt = r16_.toInt) (fun h20_ => ?_) (fun h20_ => ?_)
                · refine w_aload_n dX0_measure_65 rfl 2 rfl ?_
                  refine w_getR (c' := (21, 0, 0)) fl_RX0_15 rfl rfl ic_0 dX0_measure_66 rfl ?_
                  refine w_iload dX0_measure_69 0 rfl ?_
                  refine w_iconst (v := 1) dX0_measure_71 (by decide) ?_
                  refine w_zast CC_nd rfl rfl ic_21 (rfl : r16_.toInt = r16_.toInt) (lf_c_X0_measure_1 r16_ h19_ h20_) dX0_measure_72 (fun j23_ h24_ M21_ hM22_ => ?_)
                  have hI25_ := hI_46.put hM22_ trivial
                  have hF26_ := hF_46.put hM22_ (Or.inr (Or.inl ⟨rfl, rfl⟩))
                  refine w_aload_n dX0_measure_73 rfl 2 rfl ?_
                  refine w_getR (c' := (20, 0, 0)) fl_RX0_9 rfl rfl ic_0 dX0_measure_74 rfl ?_
                  refine w_iload dX0_measure_77 0 rfl ?_
                  refine w_iald rfl rfl ic_20 (rfl : r16_.toInt = r16_.toInt) (lf_c_X0_measure_2 M21_ M_46 r16_ j23_ h19_ h20_ h24_ hM22_) dX0_measure_79 (fun j29_ h30_ z27_ e28_ => ?_)
                  refine w_aload_n dX0_measure_80 rfl 3 rfl ?_
                  refine w_iload dX0_measure_81 0 rfl ?_
                  refine w_callS (as := [vR (9, b, w), vI r16_]) (rest := [vI z27_]) (c_X0_costInto l G cy ad d b w r16_ M21_ hI25_ hb hw) kS_X0_costInto (by decide +kernel) (Nat.le_of_ble_eq_true rfl) m_1081 rfl rfl (by decide) (Nat.le_of_ble_eq_true rfl) dX0_measure_83 (fun r31_ M32_ q33_ => ?_)
                  obtain ⟨rfl, h34_⟩ := q33_
                  refine w_iadd dX0_measure_86 (fun z35_ _ => ?_)
                  refine w_istore (ls' := [(5, vI z35_), (4, vI r16_), (3, vI v3_46), (0, vR (0, 0, 0)), (1, vR (9, b, w)), (2, vI v)]) dX0_measure_87 (by decide) rfl ?_
                  refine w_iconst (v := 0) dX0_measure_89 (by decide) ?_
                  refine w_istore (ls' := [(6, vI 0), (5, vI z35_), (4, vI r16_), (3, vI v3_46), (0, vR (0, 0, 0)), (1, vR (9, b, w)), (2, vI v)]) dX0_measure_90 (by decide) rfl ?_
                  have lp36_ : ∀ (nn_92 : Nat) (M_92 : mM) (hI_92 : Inv M_92) (hF_92 : FR (S_c_X0_measure b w) Mz M_92) (v6_92 : Int32) (hv0_92 : 0 ≤ v6_92.toInt) (hv1_92 : v6_92.toInt ≤ 9), (2147483648 - v6_92.toInt).toNat < nn_92 → WP CC l G cy ad yX0_measure cX0_measure 8 none (d + 3) 92 [(6, vI v6_92), (5, vI z35_), (4, vI r16_), (3, vI v3_46), (0, vR (0, 0, 0)), (1, vR (9, b, w)), (2, vI v)] [] M_92 (fun r M' => Inv M' ∧ FR (S_c_X0_measure b w) Mz M' ∧ True) := by
                    intro nn_92
                    induction nn_92 with
                    | zero => intro M_92 hI_92 hF_92 v6_92 hv0_92 hv1_92 hm_92; exact absurd hm_92 (Nat.not_lt_zero _)
                    | succ nn_92 ih_92 =>
                      intro M_92 hI_92 hF_92 v6_92 hv0_92 hv1_92 hm_92
                      refine w_iload dX0_measure_92 0 rfl ?_
                      refine w_bipush (v := 8) dX0_measure_94 (by decide) ?_
                      refine w_icmp_ge (tgt := 141) dX0_measure_96 (by decide) (rfl : v6_92.toInt = v6_92.toInt) li_8 (fun h37_ => ?_) (fun h37_ => ?_)
                      · refine w_iincB (j := 3) (f := fun z38_ => [(3, vI z38_), (6, vI v6_92), (5, vI z35_), (4, vI r16_), (0, vR (0, 0, 0)), (1, vR (9, b, w)), (2, vI v)]) dX0_measure_141 rfl (by decide) (fun _ => rfl) (rfl : v3_46.toInt = v3_46.toInt) li_1 (lf_c_X0_measure_3 v3_46 hv0_46 hv1_46 h15_) (fun z38_ h39_ => ?_)
                        refine w_goto (tgt := 46) dX0_measure_144 (by decide) ?_
                        refine w_loc (ls' := [(3, vI z38_), (0, vR (0, 0, 0)), (1, vR (9, b, w)), (2, vI v)]) [0, 4, 5, 6] rfl ?_
                        exact ih_46 M_92 hI_92 hF_92 z38_ (lf_c_X0_measure_4 v3_46 z38_ hv0_46 hv1_46 h15_ h39_) (lf_c_X0_measure_5 v3_46 z38_ hv0_46 hv1_46 h15_ h39_) (Nat.lt_of_lt_of_le (lf_c_X0_measure_6 v3_46 z38_ hv0_46 hv1_46 h15_ h39_) (Nat.le_of_lt_succ hm_46))
                      · refine w_iload dX0_measure_99 2 rfl ?_
                        refine w_iload dX0_measure_101 0 rfl ?_
                        refine w_iconst (v := 1) dX0_measure_103 (by decide) ?_
                        refine w_callS (as := [vI r16_, vI v6_92, vI 1]) (rest := []) (c_X7_cellFrom l G cy ad (d + 1) r16_ v6_92 1 M_92 hI_92) kS_X7_cellFrom (by decide +kernel) (Nat.le_of_ble_eq_true rfl) m_1000 rfl rfl (by decide) (Nat.le_of_ble_eq_true rfl) dX0_measure_104 (fun r40_ M41_ q42_ => ?_)
                        obtain ⟨rfl, h43_⟩ := q42_
                        refine w_istore (ls' := [(7, vI r40_), (6, vI v6_92), (5, vI z35_), (4, vI r16_), (3, vI v3_46), (0, vR (0, 0, 0)), (1, vR (9, b, w)), (2, vI v)]) dX0_measure_107 (by decide) rfl ?_
                        refine w_iload dX0_measure_109 0 rfl ?_
                        refine w_if_lt (tgt := 135) dX0_measure_111 (by decide) (rfl : r40_.toInt = r40_.toInt) (fun h44_ => ?_) (fun h44_ => ?_)
                        · refine w_iincB (j := 1) (f := fun z45_ => [(6, vI z45_), (7, vI r40_), (5, vI z35_), (4, vI r16_), (3, vI v3_46), (0, vR (0, 0, 0)), (1, vR (9, b, w)), (2, vI v)]) dX0_measure_135 rfl (by decide) (fun _ => rfl) (rfl : v6_92.toInt = v6_92.toInt) li_2 (lf_c_X0_measure_7 v6_92 hv0_92 hv1_92 h37_) (fun z45_ h46_ => ?_)
                          refine w_goto (tgt := 92) dX0_measure_138 (by decide) ?_
                          refine w_loc (ls' := [(6, vI z45_), (5, vI z35_), (4, vI r16_), (3, vI v3_46), (0, vR (0, 0, 0)), (1, vR (9, b, w)), (2, vI v)]) [0, 2, 3, 4, 5, 6, 7] rfl ?_
                          exact ih_92 M_92 hI_92 hF_92 z45_ (lf_c_X0_measure_8 v6_92 z45_ hv0_92 hv1_92 h37_ h46_) (lf_c_X0_measure_9 v6_92 z45_ hv0_92 hv1_92 h37_ h46_) (Nat.lt_of_lt_of_le (lf_c_X0_measure_10 v6_92 z45_ hv0_92 hv1_92 h37_ h46_) (Nat.le_of_lt_succ hm_92))
                        · refine w_iload dX0_measure_114 2 rfl ?_
                          refine w_aload_n dX0_measure_116 rfl 5 rfl ?_
                          refine w_getR (c' := (20, 0, 0)) fl_RX0_9 rfl rfl ic_0 dX0_measure_117 rfl ?_
                          refine w_iload dX0_measure_120 0 rfl ?_
                          refine w_iald rfl rfl ic_20 (rfl : r40_.toInt = r40_.toInt) (lf_c_X0_measure_11 r40_ h43_ h44_) dX0_measure_122 (fun j49_ h50_ z47_ e48_ => ?_)
                          refine w_icmp_ge (tgt := 135) dX0_measure_123 (by decide) (rfl : z35_.toInt = z35_.toInt) (rfl : z47_.toInt = z47_.toInt) (fun h51_ => ?_) (fun h51_ => ?_)
                          · refine w_iincB (j := 1) (f := fun z52_ => [(6, vI z52_), (7, vI r40_), (5, vI z35_), (4, vI r16_), (3, vI v3_46), (0, vR (0, 0, 0)), (1, vR (9, b, w)), (2, vI v)]) dX0_measure_135 rfl (by decide) (fun _ => rfl) (rfl : v6_92.toInt = v6_92.toInt) li_2 (lf_c_X0_measure_12 v6_92 hv0_92 hv1_92 h37_) (fun z52_ h53_ => ?_)
                            refine w_goto (tgt := 92) dX0_measure_138 (by decide) ?_
                            refine w_loc (ls' := [(6, vI z52_), (5, vI z35_), (4, vI r16_), (3, vI v3_46), (0, vR (0, 0, 0)), (1, vR (9, b, w)), (2, vI v)]) [0, 2, 3, 4, 5, 6, 7] rfl ?_
                            exact ih_92 M_92 hI_92 hF_92 z52_ (lf_c_X0_measure_13 v6_92 z52_ hv0_92 hv1_92 h37_ h53_) (lf_c_X0_measure_14 v6_92 z52_ hv0_92 hv1_92 h37_ h53_) (Nat.lt_of_lt_of_le (lf_c_X0_measure_15 v6_92 z52_ hv0_92 hv1_92 h37_ h53_) (Nat.le_of_lt_succ hm_92))
                          · refine w_aload_n dX0_measure_126 rfl 5 rfl ?_
                            refine w_getR (c' := (20, 0, 0)) fl_RX0_9 rfl rfl ic_0 dX0_measure_127 rfl ?_
                            refine w_iload dX0_measure_130 0 rfl ?_
                            refine w_iload dX0_measure_132 2 rfl ?_
                            refine w_iast CC_nd rfl rfl ic_20 (rfl : r40_.toInt = r40_.toInt) (lf_c_X0_measure_16 M_92 z35_ r40_ j49_ z47_ h43_ h44_ h50_ e48_ h51_) dX0_measure_134 (fun j56_ h57_ M54_ hM55_ => ?_)
                            have hI58_ := hI_92.put hM55_ trivial
                            have hF59_ := hF_92.put hM55_ (Or.inl ⟨rfl, rfl⟩)
                            refine w_iincB (j := 1) (f := fun z60_ => [(6, vI z60_), (7, vI r40_), (5, vI z35_), (4, vI r16_), (3, vI v3_46), (0, vR (0, 0, 0)), (1, vR (9, b, w)), (2, vI v)]) dX0_measure_135 rfl (by decide) (fun _ => rfl) (rfl : v6_92.toInt = v6_92.toInt) li_2 (lf_c_X0_measure_17 v6_92 hv0_92 hv1_92 h37_) (fun z60_ h61_ => ?_)
                            refine w_goto (tgt := 92) dX0_measure_138 (by decide) ?_
                            refine w_loc (ls' := [(6, vI z60_), (5, vI z35_), (4, vI r16_), (3, vI v3_46), (0, vR (0, 0, 0)), (1, vR (9, b, w)), (2, vI v)]) [0, 2, 3, 4, 5, 6, 7] rfl ?_
                            exact ih_92 M54_ hI58_ hF59_ z60_ (lf_c_X0_measure_18 v6_92 z60_ hv0_92 hv1_92 h37_ h61_) (lf_c_X0_measure_19 v6_92 z60_ hv0_92 hv1_92 h37_ h61_) (Nat.lt_of_lt_of_le (lf_c_X0_measure_20 v6_92 z60_ hv0_92 hv1_92 h37_ h61_) (Nat.le_of_lt_succ hm_92))
                  exact lp36_ _ M21_ hI25_ hF26_ 0 (lf_c_X0_measure_21 ) (lf_c_X0_measure_22 ) (Nat.lt_succ_self _)
                · exact w_vret rfl dX0_measure_64 ⟨hI_46, hF_46, trivial⟩
          exact lp14_ _ M8_ hI12_ hF13_ 0 (lf_c_X0_measure_23 ) (lf_c_X0_measure_24 ) (Nat.lt_succ_self _)
        · refine w_if_eq (tgt := 44) dX0_measure_34 (by decide) li_0 (fun h62_ => ?_) (fun h9 => (absurd h9 (by decide)))
          refine w_iconst (v := 0) dX0_measure_44 (by decide) ?_
          refine w_istore_n (ls' := [(3, vI 0), (0, vR (0, 0, 0)), (1, vR (9, b, w)), (2, vI v)]) dX0_measure_45 rfl (by decide) rfl ?_
          have lp63_ : ∀ (nn_46 : Nat) (M_46 : mM) (hI_46 : Inv M_46) (hF_46 : FR (S_c_X0_measure b w) Mz M_46) (v3_46 : Int32) (hv0_46 : 0 ≤ v3_46.toInt) (hv1_46 : v3_46.toInt ≤ 192), (2147483648 - v3_46.toInt).toNat < nn_46 → WP CC l G cy ad yX0_measure cX0_measure 8 none (d + 3) 46 [(3, vI v3_46), (0, vR (0, 0, 0)), (1, vR (9, b, w)), (2, vI v)] [] M_46 (fun r M' => Inv M' ∧ FR (S_c_X0_measure b w) Mz M' ∧ True) := by
            intro nn_46
            induction nn_46 with
            | zero => intro M_46 hI_46 hF_46 v3_46 hv0_46 hv1_46 hm_46; exact absurd hm_46 (Nat.not_lt_zero _)
            | succ nn_46 ih_46 =>
              intro M_46 hI_46 hF_46 v3_46 hv0_46 hv1_46 hm_46
              refine w_iload_n dX0_measure_46 rfl 0 rfl ?_
              refine w_sipush (v := 192) dX0_measure_47 (by decide) ?_
              refine w_icmp_ge (tgt := 147) dX0_measure_50 (by decide) (rfl : v3_46.toInt = v3_46.toInt) li_192 (fun h64_ => ?_) (fun h64_ => ?_)
              · exact w_vret rfl dX0_measure_147 ⟨hI_46, hF_46, trivial⟩
              · refine w_aload_n dX0_measure_53 rfl 1 rfl ?_
                refine w_callV (as := []) (rest := []) (c_X0_nearestOpen l G cy ad (d + 2) M_46 hI_46) kV_X0_nearestOpen (by decide +kernel) (Nat.le_of_ble_eq_true rfl) m_1077 rfl rfl rfl ic_0 rfl rfl (by decide) (Nat.le_of_ble_eq_true rfl) dX0_measure_54 (fun r65_ M66_ q67_ => ?_)
                obtain ⟨rfl, h68_⟩ := q67_
                refine w_istore (ls' := [(4, vI r65_), (3, vI v3_46), (0, vR (0, 0, 0)), (1, vR (9, b, w)), (2, vI v)]) dX0_measure_57 (by decide) rfl ?_
                refine w_iload dX0_measure_59 0 rfl ?_
                refine w_if_ge (tgt := 65) dX0_measure_61 (by decide) (rfl : r65_.toInt = r65_.toInt) (fun h69_ => ?_) (fun h69_ => ?_)
                · refine w_aload_n dX0_measure_65 rfl 2 rfl ?_
                  refine w_getR (c' := (21, 0, 0)) fl_RX0_15 rfl rfl ic_0 dX0_measure_66 rfl ?_
                  refine w_iload dX0_measure_69 0 rfl ?_
                  refine w_iconst (v := 1) dX0_measure_71 (by decide) ?_
                  refine w_zast CC_nd rfl rfl ic_21 (rfl : r65_.toInt = r65_.toInt) (lf_c_X0_measure_25 r65_ h68_ h69_) dX0_measure_72 (fun j72_ h73_ M70_ hM71_ => ?_)
                  have hI74_ := hI_46.put hM71_ trivial
                  have hF75_ := hF_46.put hM71_ (Or.inr (Or.inl ⟨rfl, rfl⟩))
                  refine w_aload_n dX0_measure_73 rfl 2 rfl ?_
                  refine w_getR (c' := (20, 0, 0)) fl_RX0_9 rfl rfl ic_0 dX0_measure_74 rfl ?_
                  refine w_iload dX0_measure_77 0 rfl ?_
                  refine w_iald rfl rfl ic_20 (rfl : r65_.toInt = r65_.toInt) (lf_c_X0_measure_26 M70_ M_46 r65_ j72_ h68_ h69_ h73_ hM71_) dX0_measure_79 (fun j78_ h79_ z76_ e77_ => ?_)
                  refine w_aload_n dX0_measure_80 rfl 3 rfl ?_
                  refine w_iload dX0_measure_81 0 rfl ?_
                  refine w_callS (as := [vR (9, b, w), vI r65_]) (rest := [vI z76_]) (c_X0_costInto l G cy ad d b w r65_ M70_ hI74_ hb hw) kS_X0_costInto (by decide +kernel) (Nat.le_of_ble_eq_true rfl) m_1081 rfl rfl (by decide) (Nat.le_of_ble_eq_true rfl) dX0_measure_83 (fun r80_ M81_ q82_ => ?_)
                  obtain ⟨rfl, h83_⟩ := q82_
                  refine w_iadd dX0_measure_86 (fun z84_ _ => ?_)
                  refine w_istore (ls' := [(5, vI z84_), (4, vI r65_), (3, vI v3_46), (0, vR (0, 0, 0)), (1, vR (9, b, w)), (2, vI v)]) dX0_measure_87 (by decide) rfl ?_
                  refine w_iconst (v := 0) dX0_measure_89 (by decide) ?_
                  refine w_istore (ls' := [(6, vI 0), (5, vI z84_), (4, vI r65_), (3, vI v3_46), (0, vR (0, 0, 0)), (1, vR (9, b, w)), (2, vI v)]) dX0_measure_90 (by decide) rfl ?_
                  have lp85_ : ∀ (nn_92 : Nat) (M_92 : mM) (hI_92 : Inv M_92) (hF_92 : FR (S_c_X0_measure b w) Mz M_92) (v6_92 : Int32) (hv0_92 : 0 ≤ v6_92.toInt) (hv1_92 : v6_92.toInt ≤ 9), (2147483648 - v6_92.toInt).toNat < nn_92 → WP CC l G cy ad yX0_measure cX0_measure 8 none (d + 3) 92 [(6, vI v6_92), (5, vI z84_), (4, vI r65_), (3, vI v3_46), (0, vR (0, 0, 0)), (1, vR (9, b, w)), (2, vI v)] [] M_92 (fun r M' => Inv M' ∧ FR (S_c_X0_measure b w) Mz M' ∧ True) := by
                    intro nn_92
                    induction nn_92 with
                    | zero => intro M_92 hI_92 hF_92 v6_92 hv0_92 hv1_92 hm_92; exact absurd hm_92 (Nat.not_lt_zero _)
                    | succ nn_92 ih_92 =>
                      intro M_92 hI_92 hF_92 v6_92 hv0_92 hv1_92 hm_92
                      refine w_iload dX0_measure_92 0 rfl ?_
                      refine w_bipush (v := 8) dX0_measure_94 (by decide) ?_
                      refine w_icmp_ge (tgt := 141) dX0_measure_96 (by decide) (rfl : v6_92.toInt = v6_92.toInt) li_8 (fun h86_ => ?_) (fun h86_ => ?_)
                      · refine w_iincB (j := 3) (f := fun z87_ => [(3, vI z87_), (6, vI v6_92), (5, vI z84_), (4, vI r65_), (0, vR (0, 0, 0)), (1, vR (9, b, w)), (2, vI v)]) dX0_measure_141 rfl (by decide) (fun _ => rfl) (rfl : v3_46.toInt = v3_46.toInt) li_1 (lf_c_X0_measure_27 v3_46 hv0_46 hv1_46 h64_) (fun z87_ h88_ => ?_)
                        refine w_goto (tgt := 46) dX0_measure_144 (by decide) ?_
                        refine w_loc (ls' := [(3, vI z87_), (0, vR (0, 0, 0)), (1, vR (9, b, w)), (2, vI v)]) [0, 4, 5, 6] rfl ?_
                        exact ih_46 M_92 hI_92 hF_92 z87_ (lf_c_X0_measure_28 v3_46 z87_ hv0_46 hv1_46 h64_ h88_) (lf_c_X0_measure_29 v3_46 z87_ hv0_46 hv1_46 h64_ h88_) (Nat.lt_of_lt_of_le (lf_c_X0_measure_30 v3_46 z87_ hv0_46 hv1_46 h64_ h88_) (Nat.le_of_lt_succ hm_46))
                      · refine w_iload dX0_measure_99 2 rfl ?_
                        refine w_iload dX0_measure_101 0 rfl ?_
                        refine w_iconst (v := 1) dX0_measure_103 (by decide) ?_
                        refine w_callS (as := [vI r65_, vI v6_92, vI 1]) (rest := []) (c_X7_cellFrom l G cy ad (d + 1) r65_ v6_92 1 M_92 hI_92) kS_X7_cellFrom (by decide +kernel) (Nat.le_of_ble_eq_true rfl) m_1000 rfl rfl (by decide) (Nat.le_of_ble_eq_true rfl) dX0_measure_104 (fun r89_ M90_ q91_ => ?_)
                        obtain ⟨rfl, h92_⟩ := q91_
                        refine w_istore (ls' := [(7, vI r89_), (6, vI v6_92), (5, vI z84_), (4, vI r65_), (3, vI v3_46), (0, vR (0, 0, 0)), (1, vR (9, b, w)), (2, vI v)]) dX0_measure_107 (by decide) rfl ?_
                        refine w_iload dX0_measure_109 0 rfl ?_
                        refine w_if_lt (tgt := 135) dX0_measure_111 (by decide) (rfl : r89_.toInt = r89_.toInt) (fun h93_ => ?_) (fun h93_ => ?_)
                        · refine w_iincB (j := 1) (f := fun z94_ => [(6, vI z94_), (7, vI r89_), (5, vI z84_), (4, vI r65_), (3, vI v3_46), (0, vR (0, 0, 0)), (1, vR (9, b, w)), (2, vI v)]) dX0_measure_135 rfl (by decide) (fun _ => rfl) (rfl : v6_92.toInt = v6_92.toInt) li_2 (lf_c_X0_measure_31 v6_92 hv0_92 hv1_92 h86_) (fun z94_ h95_ => ?_)
                          refine w_goto (tgt := 92) dX0_measure_138 (by decide) ?_
                          refine w_loc (ls' := [(6, vI z94_), (5, vI z84_), (4, vI r65_), (3, vI v3_46), (0, vR (0, 0, 0)), (1, vR (9, b, w)), (2, vI v)]) [0, 2, 3, 4, 5, 6, 7] rfl ?_
                          exact ih_92 M_92 hI_92 hF_92 z94_ (lf_c_X0_measure_32 v6_92 z94_ hv0_92 hv1_92 h86_ h95_) (lf_c_X0_measure_33 v6_92 z94_ hv0_92 hv1_92 h86_ h95_) (Nat.lt_of_lt_of_le (lf_c_X0_measure_34 v6_92 z94_ hv0_92 hv1_92 h86_ h95_) (Nat.le_of_lt_succ hm_92))
                        · refine w_iload dX0_measure_114 2 rfl ?_
                          refine w_aload_n dX0_measure_116 rfl 5 rfl ?_
                          refine w_getR (c' := (20, 0, 0)) fl_RX0_9 rfl rfl ic_0 dX0_measure_117 rfl ?_
                          refine w_iload dX0_measure_120 0 rfl ?_
                          refine w_iald rfl rfl ic_20 (rfl : r89_.toInt = r89_.toInt) (lf_c_X0_measure_35 r89_ h92_ h93_) dX0_measure_122 (fun j98_ h99_ z96_ e97_ => ?_)
                          refine w_icmp_ge (tgt := 135) dX0_measure_123 (by decide) (rfl : z84_.toInt = z84_.toInt) (rfl : z96_.toInt = z96_.toInt) (fun h100_ => ?_) (fun h100_ => ?_)
                          · refine w_iincB (j := 1) (f := fun z101_ => [(6, vI z101_), (7, vI r89_), (5, vI z84_), (4, vI r65_), (3, vI v3_46), (0, vR (0, 0, 0)), (1, vR (9, b, w)), (2, vI v)]) dX0_measure_135 rfl (by decide) (fun _ => rfl) (rfl : v6_92.toInt = v6_92.toInt) li_2 (lf_c_X0_measure_36 v6_92 hv0_92 hv1_92 h86_) (fun z101_ h102_ => ?_)
                            refine w_goto (tgt := 92) dX0_measure_138 (by decide) ?_
                            refine w_loc (ls' := [(6, vI z101_), (5, vI z84_), (4, vI r65_), (3, vI v3_46), (0, vR (0, 0, 0)), (1, vR (9, b, w)), (2, vI v)]) [0, 2, 3, 4, 5, 6, 7] rfl ?_
                            exact ih_92 M_92 hI_92 hF_92 z101_ (lf_c_X0_measure_37 v6_92 z101_ hv0_92 hv1_92 h86_ h102_) (lf_c_X0_measure_38 v6_92 z101_ hv0_92 hv1_92 h86_ h102_) (Nat.lt_of_lt_of_le (lf_c_X0_measure_39 v6_92 z101_ hv0_92 hv1_92 h86_ h102_) (Nat.le_of_lt_succ hm_92))
                          · refine w_aload_n dX0_measure_126 rfl 5 rfl ?_
                            refine w_getR (c' := (20, 0, 0)) fl_RX0_9 rfl rfl ic_0 dX0_measure_127 rfl ?_
                            refine w_iload dX0_measure_130 0 rfl ?_
                            refine w_iload dX0_measure_132 2 rfl ?_
                            refine w_iast CC_nd rfl rfl ic_20 (rfl : r89_.toInt = r89_.toInt) (lf_c_X0_measure_40 M_92 z84_ r89_ j98_ z96_ h92_ h93_ h99_ e97_ h100_) dX0_measure_134 (fun j105_ h106_ M103_ hM104_ => ?_)
                            have hI107_ := hI_92.put hM104_ trivial
                            have hF108_ := hF_92.put hM104_ (Or.inl ⟨rfl, rfl⟩)
                            refine w_iincB (j := 1) (f := fun z109_ => [(6, vI z109_), (7, vI r89_), (5, vI z84_), (4, vI r65_), (3, vI v3_46), (0, vR (0, 0, 0)), (1, vR (9, b, w)), (2, vI v)]) dX0_measure_135 rfl (by decide) (fun _ => rfl) (rfl : v6_92.toInt = v6_92.toInt) li_2 (lf_c_X0_measure_41 v6_92 hv0_92 hv1_92 h86_) (fun z109_ h110_ => ?_)
                            refine w_goto (tgt := 92) dX0_measure_138 (by decide) ?_
                            refine w_loc (ls' := [(6, vI z109_), (5, vI z84_), (4, vI r65_), (3, vI v3_46), (0, vR (0, 0, 0)), (1, vR (9, b, w)), (2, vI v)]) [0, 2, 3, 4, 5, 6, 7] rfl ?_
                            exact ih_92 M103_ hI107_ hF108_ z109_ (lf_c_X0_measure_42 v6_92 z109_ hv0_92 hv1_92 h86_ h110_) (lf_c_X0_measure_43 v6_92 z109_ hv0_92 hv1_92 h86_ h110_) (Nat.lt_of_lt_of_le (lf_c_X0_measure_44 v6_92 z109_ hv0_92 hv1_92 h86_ h110_) (Nat.le_of_lt_succ hm_92))
                  exact lp85_ _ M70_ hI74_ hF75_ 0 (lf_c_X0_measure_45 ) (lf_c_X0_measure_46 ) (Nat.lt_succ_self _)
                · exact w_vret rfl dX0_measure_64 ⟨hI_46, hF_46, trivial⟩
          exact lp63_ _ M_2 hI_2 hF_2 0 (lf_c_X0_measure_47 ) (lf_c_X0_measure_48 ) (Nat.lt_succ_self _)
      · refine w_aload_n dX0_measure_9 rfl 1 rfl ?_
        refine w_getR (c' := (20, 0, 0)) fl_RX0_9 rfl rfl ic_0 dX0_measure_10 rfl ?_
        refine w_iload_n dX0_measure_13 rfl 0 rfl ?_
        refine w_ldc (v := 1000000) m_1075 dX0_measure_14 ?_
        refine w_iast CC_nd rfl rfl ic_20 (rfl : v3_2.toInt = v3_2.toInt) (lf_c_X0_measure_49 v3_2 hv0_2 hv1_2 h2_) dX0_measure_16 (fun j113_ h114_ M111_ hM112_ => ?_)
        have hI115_ := hI_2.put hM112_ trivial
        have hF116_ := hF_2.put hM112_ (Or.inl ⟨rfl, rfl⟩)
        refine w_aload_n dX0_measure_17 rfl 1 rfl ?_
        refine w_getR (c' := (21, 0, 0)) fl_RX0_15 rfl rfl ic_0 dX0_measure_18 rfl ?_
        refine w_iload_n dX0_measure_21 rfl 0 rfl ?_
        refine w_iconst (v := 0) dX0_measure_22 (by decide) ?_
        refine w_zast CC_nd rfl rfl ic_21 (rfl : v3_2.toInt = v3_2.toInt) (lf_c_X0_measure_50 M111_ M_2 v3_2 j113_ hv0_2 hv1_2 h2_ h114_ hM112_) dX0_measure_23 (fun j119_ h120_ M117_ hM118_ => ?_)
        have hI121_ := hI115_.put hM118_ trivial
        have hF122_ := hF116_.put hM118_ (Or.inr (Or.inl ⟨rfl, rfl⟩))
        refine w_iincB (j := 0) (f := fun z123_ => [(3, vI z123_), (0, vR (0, 0, 0)), (1, vR (9, b, w)), (2, vI v)]) dX0_measure_24 rfl (by decide) (fun _ => rfl) (rfl : v3_2.toInt = v3_2.toInt) li_1 (lf_c_X0_measure_51 M111_ M117_ M_2 v3_2 j113_ j119_ hv0_2 hv1_2 h2_ h114_ hM112_ h120_ hM118_) (fun z123_ h124_ => ?_)
        refine w_goto (tgt := 2) dX0_measure_27 (by decide) ?_
        refine w_loc (ls' := [(3, vI z123_), (0, vR (0, 0, 0)), (1, vR (9, b, w)), (2, vI v)]) [0, 1, 2, 3] rfl ?_
        exact ih_2 M117_ hI121_ hF122_ z123_ (lf_c_X0_measure_52 M111_ M117_ M_2 v3_2 j113_ j119_ z123_ hv0_2 hv1_2 h2_ h114_ hM112_ h120_ hM118_ h124_) (lf_c_X0_measure_53 M111_ M117_ M_2 v3_2 j113_ j119_ z123_ hv0_2 hv1_2 h2_ h114_ hM112_ h120_ hM118_ h124_) (Nat.lt_of_lt_of_le (lf_c_X0_measure_54 M111_ M117_ M_2 v3_2 j113_ j119_ z123_ hv0_2 hv1_2 h2_ h114_ hM112_ h120_ hM118_ h124_) (Nat.le_of_lt_succ hm_2))
  exact lp1_ _ Mz hIz hFz 0 (lf_c_X0_measure_55 ) (lf_c_X0_measure_56 ) (Nat.lt_succ_self _)
theorem lf_c_X0_firstStep_0    : -1 ≤ ((-1) : Int32).toInt ∧ ((-1) : Int32).toInt ≤ 191 := by have r9 := li_m1; omega
theorem lf_c_X0_firstStep_1  (v3_2 : Int32) (hv0_2 : 0 ≤ v3_2.toInt) (hv1_2 : v3_2.toInt ≤ 9) (h2_ : v3_2.toInt < 8) : -2147483648 ≤ v3_2.toInt + 2 ∧ v3_2.toInt + 2 < 2147483648 := by have r_v3_2 := rngI v3_2; omega
theorem lf_c_X0_firstStep_2  (v3_2 : Int32) (z8_ : Int32) (hv0_2 : 0 ≤ v3_2.toInt) (hv1_2 : v3_2.toInt ≤ 9) (h2_ : v3_2.toInt < 8) (h9_ : z8_.toInt = v3_2.toInt + 2) : 0 ≤ z8_.toInt := by have r_v3_2 := rngI v3_2; have r_z8_ := rngI z8_; omega
theorem lf_c_X0_firstStep_3  (v3_2 : Int32) (z8_ : Int32) (hv0_2 : 0 ≤ v3_2.toInt) (hv1_2 : v3_2.toInt ≤ 9) (h2_ : v3_2.toInt < 8) (h9_ : z8_.toInt = v3_2.toInt + 2) : z8_.toInt ≤ 9 := by have r_v3_2 := rngI v3_2; have r_z8_ := rngI z8_; omega
theorem lf_c_X0_firstStep_4  (v3_2 : Int32) (z8_ : Int32) (hv0_2 : 0 ≤ v3_2.toInt) (hv1_2 : v3_2.toInt ≤ 9) (h2_ : v3_2.toInt < 8) (h9_ : z8_.toInt = v3_2.toInt + 2) : (2147483648 - z8_.toInt).toNat < (2147483648 - v3_2.toInt).toNat := by have r_v3_2 := rngI v3_2; have r_z8_ := rngI z8_; omega
theorem lf_c_X0_firstStep_5  (v3_2 : Int32) (hv0_2 : 0 ≤ v3_2.toInt) (hv1_2 : v3_2.toInt ≤ 9) (h2_ : v3_2.toInt < 8) : -2147483648 ≤ v3_2.toInt + 2 ∧ v3_2.toInt + 2 < 2147483648 := by have r_v3_2 := rngI v3_2; omega
theorem lf_c_X0_firstStep_6  (v3_2 : Int32) (z24_ : Int32) (hv0_2 : 0 ≤ v3_2.toInt) (hv1_2 : v3_2.toInt ≤ 9) (h2_ : v3_2.toInt < 8) (h25_ : z24_.toInt = v3_2.toInt + 2) : 0 ≤ z24_.toInt := by have r_v3_2 := rngI v3_2; have r_z24_ := rngI z24_; omega
theorem lf_c_X0_firstStep_7  (v3_2 : Int32) (z24_ : Int32) (hv0_2 : 0 ≤ v3_2.toInt) (hv1_2 : v3_2.toInt ≤ 9) (h2_ : v3_2.toInt < 8) (h25_ : z24_.toInt = v3_2.toInt + 2) : z24_.toInt ≤ 9 := by have r_v3_2 := rngI v3_2; have r_z24_ := rngI z24_; omega
theorem lf_c_X0_firstStep_8  (v3_2 : Int32) (z24_ : Int32) (hv0_2 : 0 ≤ v3_2.toInt) (hv1_2 : v3_2.toInt ≤ 9) (h2_ : v3_2.toInt < 8) (h25_ : z24_.toInt = v3_2.toInt + 2) : (2147483648 - z24_.toInt).toNat < (2147483648 - v3_2.toInt).toNat := by have r_v3_2 := rngI v3_2; have r_z24_ := rngI z24_; omega
theorem lf_c_X0_firstStep_9    : 0 ≤ (0 : Int32).toInt := by have q0 := li_0; omega
theorem lf_c_X0_firstStep_10    : (0 : Int32).toInt ≤ 9 := by have q0 := li_0; omega
set_option maxHeartbeats 4000000 in
set_option maxRecDepth 100000 in
theorem c_X0_firstStep (l : Launch) (G : va_G) (cy : Nat → ClassId) (ad : rf → Nat) (d : Nat) (b : Nat) (w : Nat) (v : Int32) (Mz : mM) (hIz : Inv Mz) (hb : b < 3) (hw : w < 8) : WP CC l G cy ad yX0_firstStep cX0_firstStep 5 (some .int) (d + 3) 0 [(0, vR (0, 0, 0)), (1, vR (9, b, w)), (2, vI v)] [] Mz (fun r M' => Mz = M' ∧ -1 ≤ r.toInt ∧ r.toInt ≤ 191) := by
  refine w_iconst (v := 0) dX0_firstStep_0 (by decide) ?_
  refine w_istore_n (ls' := [(3, vI 0), (0, vR (0, 0, 0)), (1, vR (9, b, w)), (2, vI v)]) dX0_firstStep_1 rfl (by decide) rfl ?_
  have lp1_ : ∀ (nn_2 : Nat) (v3_2 : Int32) (hv0_2 : 0 ≤ v3_2.toInt) (hv1_2 : v3_2.toInt ≤ 9), (2147483648 - v3_2.toInt).toNat < nn_2 → WP CC l G cy ad yX0_firstStep cX0_firstStep 5 (some .int) (d + 3) 2 [(3, vI v3_2), (0, vR (0, 0, 0)), (1, vR (9, b, w)), (2, vI v)] [] Mz (fun r M' => Mz = M' ∧ -1 ≤ r.toInt ∧ r.toInt ≤ 191) := by
    intro nn_2
    induction nn_2 with
    | zero => intro v3_2 hv0_2 hv1_2 hm_2; exact absurd hm_2 (Nat.not_lt_zero _)
    | succ nn_2 ih_2 =>
      intro v3_2 hv0_2 hv1_2 hm_2
      refine w_iload_n dX0_firstStep_2 rfl 0 rfl ?_
      refine w_bipush (v := 8) dX0_firstStep_3 (by decide) ?_
      refine w_icmp_ge (tgt := 51) dX0_firstStep_5 (by decide) (rfl : v3_2.toInt = v3_2.toInt) li_8 (fun h2_ => ?_) (fun h2_ => ?_)
      · refine w_iconst (v := (-1)) dX0_firstStep_51 (by decide) ?_
        exact w_iret rfl dX0_firstStep_52 ⟨rfl, (lf_c_X0_firstStep_0 )⟩
      · refine w_iload_n dX0_firstStep_8 rfl 3 rfl ?_
        refine w_iload_n dX0_firstStep_9 rfl 0 rfl ?_
        refine w_iconst (v := 1) dX0_firstStep_10 (by decide) ?_
        refine w_callS (as := [vI v, vI v3_2, vI 1]) (rest := []) (c_X7_cellFrom l G cy ad (d + 1) v v3_2 1 Mz hIz) kS_X7_cellFrom (by decide +kernel) (Nat.le_of_ble_eq_true rfl) m_1000 rfl rfl (by decide) (Nat.le_of_ble_eq_true rfl) dX0_firstStep_11 (fun r3_ M4_ q5_ => ?_)
        obtain ⟨rfl, h6_⟩ := q5_
        refine w_istore (ls' := [(4, vI r3_), (3, vI v3_2), (0, vR (0, 0, 0)), (1, vR (9, b, w)), (2, vI v)]) dX0_firstStep_14 (by decide) rfl ?_
        refine w_iload dX0_firstStep_16 0 rfl ?_
        refine w_if_lt (tgt := 45) dX0_firstStep_18 (by decide) (rfl : r3_.toInt = r3_.toInt) (fun h7_ => ?_) (fun h7_ => ?_)
        · refine w_iincB (j := 1) (f := fun z8_ => [(3, vI z8_), (4, vI r3_), (0, vR (0, 0, 0)), (1, vR (9, b, w)), (2, vI v)]) dX0_firstStep_45 rfl (by decide) (fun _ => rfl) (rfl : v3_2.toInt = v3_2.toInt) li_2 (lf_c_X0_firstStep_1 v3_2 hv0_2 hv1_2 h2_) (fun z8_ h9_ => ?_)
          refine w_goto (tgt := 2) dX0_firstStep_48 (by decide) ?_
          refine w_loc (ls' := [(3, vI z8_), (0, vR (0, 0, 0)), (1, vR (9, b, w)), (2, vI v)]) [0, 2, 3, 4] rfl ?_
          exact ih_2 z8_ (lf_c_X0_firstStep_2 v3_2 z8_ hv0_2 hv1_2 h2_ h9_) (lf_c_X0_firstStep_3 v3_2 z8_ hv0_2 hv1_2 h2_ h9_) (Nat.lt_of_lt_of_le (lf_c_X0_firstStep_4 v3_2 z8_ hv0_2 hv1_2 h2_ h9_) (Nat.le_of_lt_succ hm_2))
        · refine w_aload_n dX0_firstStep_21 rfl 2 rfl ?_
          refine w_iload dX0_firstStep_22 0 rfl ?_
          refine w_callV (as := [vI r3_]) (rest := []) (c_X0_costFrom l G cy ad (d + 1) r3_ Mz hIz) kV_X0_costFrom (by decide +kernel) (Nat.le_of_ble_eq_true rfl) m_1097 rfl rfl rfl ic_0 rfl rfl (by decide) (Nat.le_of_ble_eq_true rfl) dX0_firstStep_24 (fun r10_ M11_ q12_ => ?_)
          obtain ⟨rfl, h13_⟩ := q12_
          refine w_aload_n dX0_firstStep_27 rfl 3 rfl ?_
          refine w_iload dX0_firstStep_28 0 rfl ?_
          refine w_callS (as := [vR (9, b, w), vI r3_]) (rest := [vI r10_]) (c_X0_costInto l G cy ad d b w r3_ Mz hIz hb hw) kS_X0_costInto (by decide +kernel) (Nat.le_of_ble_eq_true rfl) m_1081 rfl rfl (by decide) (Nat.le_of_ble_eq_true rfl) dX0_firstStep_30 (fun r14_ M15_ q16_ => ?_)
          obtain ⟨rfl, h17_⟩ := q16_
          refine w_iadd dX0_firstStep_33 (fun z18_ _ => ?_)
          refine w_aload_n dX0_firstStep_34 rfl 2 rfl ?_
          refine w_iload_n dX0_firstStep_35 rfl 4 rfl ?_
          refine w_callV (as := [vI v]) (rest := [vI z18_]) (c_X0_costFrom l G cy ad (d + 1) v Mz hIz) kV_X0_costFrom (by decide +kernel) (Nat.le_of_ble_eq_true rfl) m_1097 rfl rfl rfl ic_0 rfl rfl (by decide) (Nat.le_of_ble_eq_true rfl) dX0_firstStep_36 (fun r19_ M20_ q21_ => ?_)
          obtain ⟨rfl, h22_⟩ := q21_
          refine w_icmp_ne (tgt := 45) dX0_firstStep_39 (by decide) (rfl : z18_.toInt = z18_.toInt) (rfl : r19_.toInt = r19_.toInt) (fun h23_ => ?_) (fun h23_ => ?_)
          · refine w_iincB (j := 1) (f := fun z24_ => [(3, vI z24_), (4, vI r3_), (0, vR (0, 0, 0)), (1, vR (9, b, w)), (2, vI v)]) dX0_firstStep_45 rfl (by decide) (fun _ => rfl) (rfl : v3_2.toInt = v3_2.toInt) li_2 (lf_c_X0_firstStep_5 v3_2 hv0_2 hv1_2 h2_) (fun z24_ h25_ => ?_)
            refine w_goto (tgt := 2) dX0_firstStep_48 (by decide) ?_
            refine w_loc (ls' := [(3, vI z24_), (0, vR (0, 0, 0)), (1, vR (9, b, w)), (2, vI v)]) [0, 2, 3, 4] rfl ?_
            exact ih_2 z24_ (lf_c_X0_firstStep_6 v3_2 z24_ hv0_2 hv1_2 h2_ h25_) (lf_c_X0_firstStep_7 v3_2 z24_ hv0_2 hv1_2 h2_ h25_) (Nat.lt_of_lt_of_le (lf_c_X0_firstStep_8 v3_2 z24_ hv0_2 hv1_2 h2_ h25_) (Nat.le_of_lt_succ hm_2))
          · refine w_iload dX0_firstStep_42 0 rfl ?_
            exact w_iret rfl dX0_firstStep_44 ⟨rfl, h6_⟩
  exact lp1_ _ 0 (lf_c_X0_firstStep_9 ) (lf_c_X0_firstStep_10 ) (Nat.lt_succ_self _)
theorem lf_c_X0_cellAfter_0  (u : Int32) (v5_18 : Int32) (h3_ : u.toInt < 192) (hv0_18 : 0 ≤ v5_18.toInt) (h5_ : v5_18.toInt < u.toInt) : -2147483648 ≤ v5_18.toInt + 1 ∧ v5_18.toInt + 1 < 2147483648 := by have r_u := rngI u; have r_v5_18 := rngI v5_18; omega
theorem lf_c_X0_cellAfter_1  (u : Int32) (v5_18 : Int32) (z12_ : Int32) (h3_ : u.toInt < 192) (hv0_18 : 0 ≤ v5_18.toInt) (h5_ : v5_18.toInt < u.toInt) (h13_ : z12_.toInt = v5_18.toInt + 1) : 0 ≤ z12_.toInt := by have r_u := rngI u; have r_v5_18 := rngI v5_18; have r_z12_ := rngI z12_; omega
theorem lf_c_X0_cellAfter_2  (u : Int32) (v5_18 : Int32) (z12_ : Int32) (h3_ : u.toInt < 192) (hv0_18 : 0 ≤ v5_18.toInt) (h5_ : v5_18.toInt < u.toInt) (h13_ : z12_.toInt = v5_18.toInt + 1) : (2147483648 - z12_.toInt).toNat < (2147483648 - v5_18.toInt).toNat := by have r_u := rngI u; have r_v5_18 := rngI v5_18; have r_z12_ := rngI z12_; omega
theorem lf_c_X0_cellAfter_3    : 0 ≤ (0 : Int32).toInt := by have q0 := li_0; omega
set_option maxHeartbeats 4000000 in
set_option maxRecDepth 100000 in
theorem c_X0_cellAfter (l : Launch) (G : va_G) (cy : Nat → ClassId) (ad : rf → Nat) (d : Nat) (b : Nat) (w : Nat) (v : Int32) (u : Int32) (Mz : mM) (hIz : Inv Mz) (hb : b < 3) (hw : w < 8) : WP CC l G cy ad yX0_cellAfter cX0_cellAfter 6 (some .int) (d + 4) 0 [(0, vR (0, 0, 0)), (1, vR (9, b, w)), (2, vI v), (3, vI u)] [] Mz (fun r M' => Mz = M' ∧ True) := by
  refine w_aload_n dX0_cellAfter_0 rfl 1 rfl ?_
  refine w_getI fl_RX0_56 rfl rfl (ic_9 hb hw) dX0_cellAfter_1 (fun z1_ e2_ => ?_)
  refine w_istore (ls' := [(4, vI z1_), (0, vR (0, 0, 0)), (1, vR (9, b, w)), (2, vI v), (3, vI u)]) dX0_cellAfter_4 (by decide) rfl ?_
  refine w_iload_n dX0_cellAfter_6 rfl 4 rfl ?_
  refine w_sipush (v := 192) dX0_cellAfter_7 (by decide) ?_
  refine w_icmp_lt (tgt := 15) dX0_cellAfter_10 (by decide) (rfl : u.toInt = u.toInt) li_192 (fun h3_ => ?_) (fun h3_ => ?_)
  · refine w_iconst (v := 0) dX0_cellAfter_15 (by decide) ?_
    refine w_istore (ls' := [(5, vI 0), (4, vI z1_), (0, vR (0, 0, 0)), (1, vR (9, b, w)), (2, vI v), (3, vI u)]) dX0_cellAfter_16 (by decide) rfl ?_
    have lp4_ : ∀ (nn_18 : Nat) (v5_18 : Int32) (v4_18 : Int32) (hv0_18 : 0 ≤ v5_18.toInt), (2147483648 - v5_18.toInt).toNat < nn_18 → WP CC l G cy ad yX0_cellAfter cX0_cellAfter 6 (some .int) (d + 4) 18 [(5, vI v5_18), (4, vI v4_18), (0, vR (0, 0, 0)), (1, vR (9, b, w)), (2, vI v), (3, vI u)] [] Mz (fun r M' => Mz = M' ∧ True) := by
      intro nn_18
      induction nn_18 with
      | zero => intro v5_18 v4_18 hv0_18 hm_18; exact absurd hm_18 (Nat.not_lt_zero _)
      | succ nn_18 ih_18 =>
        intro v5_18 v4_18 hv0_18 hm_18
        refine w_iload dX0_cellAfter_18 0 rfl ?_
        refine w_iload_n dX0_cellAfter_20 rfl 5 rfl ?_
        refine w_icmp_ge (tgt := 52) dX0_cellAfter_21 (by decide) (rfl : v5_18.toInt = v5_18.toInt) (rfl : u.toInt = u.toInt) (fun h5_ => ?_) (fun h5_ => ?_)
        · refine w_iload dX0_cellAfter_52 1 rfl ?_
          exact w_iret rfl dX0_cellAfter_54 ⟨rfl, trivial⟩
        · refine w_iload dX0_cellAfter_24 1 rfl ?_
          refine w_iload_n dX0_cellAfter_26 rfl 4 rfl ?_
          refine w_icmp_eq (tgt := 35) dX0_cellAfter_27 (by decide) (rfl : v4_18.toInt = v4_18.toInt) (rfl : v.toInt = v.toInt) (fun h6_ => ?_) (fun h6_ => ?_)
          · refine w_iconst (v := (-1)) dX0_cellAfter_35 (by decide) ?_
            exact w_iret rfl dX0_cellAfter_36 ⟨rfl, trivial⟩
          · refine w_iload dX0_cellAfter_30 1 rfl ?_
            refine w_if_ge (tgt := 37) dX0_cellAfter_32 (by decide) (rfl : v4_18.toInt = v4_18.toInt) (fun h7_ => ?_) (fun h7_ => ?_)
            · refine w_aload_n dX0_cellAfter_37 rfl 2 rfl ?_
              refine w_aload_n dX0_cellAfter_38 rfl 3 rfl ?_
              refine w_iload dX0_cellAfter_39 1 rfl ?_
              refine w_callV (as := [vR (9, b, w), vI v4_18]) (rest := []) (c_X0_firstStep l G cy ad d b w v4_18 Mz hIz hb hw) kV_X0_firstStep (by decide +kernel) (Nat.le_of_ble_eq_true rfl) m_1093 rfl rfl rfl ic_0 rfl rfl (by decide) (Nat.le_of_ble_eq_true rfl) dX0_cellAfter_41 (fun r8_ M9_ q10_ => ?_)
              obtain ⟨rfl, h11_⟩ := q10_
              refine w_istore (ls' := [(4, vI r8_), (5, vI v5_18), (0, vR (0, 0, 0)), (1, vR (9, b, w)), (2, vI v), (3, vI u)]) dX0_cellAfter_44 (by decide) rfl ?_
              refine w_iincB (j := 1) (f := fun z12_ => [(5, vI z12_), (4, vI r8_), (0, vR (0, 0, 0)), (1, vR (9, b, w)), (2, vI v), (3, vI u)]) dX0_cellAfter_46 rfl (by decide) (fun _ => rfl) (rfl : v5_18.toInt = v5_18.toInt) li_1 (lf_c_X0_cellAfter_0 u v5_18 h3_ hv0_18 h5_) (fun z12_ h13_ => ?_)
              refine w_goto (tgt := 18) dX0_cellAfter_49 (by decide) ?_
              refine w_loc (ls' := [(5, vI z12_), (4, vI r8_), (0, vR (0, 0, 0)), (1, vR (9, b, w)), (2, vI v), (3, vI u)]) [0, 1, 2, 3, 4, 5] rfl ?_
              exact ih_18 z12_ r8_ (lf_c_X0_cellAfter_1 u v5_18 z12_ h3_ hv0_18 h5_ h13_) (Nat.lt_of_lt_of_le (lf_c_X0_cellAfter_2 u v5_18 z12_ h3_ hv0_18 h5_ h13_) (Nat.le_of_lt_succ hm_18))
            · refine w_iconst (v := (-1)) dX0_cellAfter_35 (by decide) ?_
              exact w_iret rfl dX0_cellAfter_36 ⟨rfl, trivial⟩
    exact lp4_ _ 0 z1_ (lf_c_X0_cellAfter_3 ) (Nat.lt_succ_self _)
  · refine w_iconst (v := (-1)) dX0_cellAfter_13 (by decide) ?_
    exact w_iret rfl dX0_cellAfter_14 ⟨rfl, trivial⟩
def S_c_X0_noteLearned (b : Nat) : rf → Nat → Prop := fun c k => (c.1 = 29 ∧ c.2.1 = b ∧ k = 0) ∨ (c.1 = 29 ∧ c.2.1 = b ∧ k = 1) ∨ (c.1 = 29 ∧ c.2.1 = b ∧ k = 2) ∨ (c.1 = 29 ∧ c.2.1 = b ∧ k = 3) ∨ (c.1 = 25 ∧ c.2.1 = b ∧ c.2.2 = 0) ∨ (c.1 = 25 ∧ c.2.1 = b ∧ c.2.2 = 1) ∨ False
theorem lf_c_X0_noteLearned_0  (v : Int32) (h6_ : 0 ≤ v.toInt ∧ v.toInt ≤ 7) : 0 ≤ v.toInt ∧ v.toInt < ((8 : Nat) : Int) := by have r_v := rngI v; omega
theorem lf_c_X0_noteLearned_1  (v6_57 : Int32) (hv0_57 : 0 ≤ v6_57.toInt) (hv1_57 : v6_57.toInt ≤ 8) (h14_ : v6_57.toInt < 8) : -2147483648 ≤ v6_57.toInt + 1 ∧ v6_57.toInt + 1 < 2147483648 := by have r_v6_57 := rngI v6_57; omega
theorem lf_c_X0_noteLearned_2  (v6_57 : Int32) (z24_ : Int32) (hv0_57 : 0 ≤ v6_57.toInt) (hv1_57 : v6_57.toInt ≤ 8) (h14_ : v6_57.toInt < 8) (h25_ : z24_.toInt = v6_57.toInt + 1) : 0 ≤ z24_.toInt := by have r_v6_57 := rngI v6_57; have r_z24_ := rngI z24_; omega
theorem lf_c_X0_noteLearned_3  (v6_57 : Int32) (z24_ : Int32) (hv0_57 : 0 ≤ v6_57.toInt) (hv1_57 : v6_57.toInt ≤ 8) (h14_ : v6_57.toInt < 8) (h25_ : z24_.toInt = v6_57.toInt + 1) : z24_.toInt ≤ 8 := by have r_v6_57 := rngI v6_57; have r_z24_ := rngI z24_; omega
theorem lf_c_X0_noteLearned_4  (v6_57 : Int32) (z24_ : Int32) (hv0_57 : 0 ≤ v6_57.toInt) (hv1_57 : v6_57.toInt ≤ 8) (h14_ : v6_57.toInt < 8) (h25_ : z24_.toInt = v6_57.toInt + 1) : (2147483648 - z24_.toInt).toNat < (2147483648 - v6_57.toInt).toNat := by have r_v6_57 := rngI v6_57; have r_z24_ := rngI z24_; omega
theorem lf_c_X0_noteLearned_5  (u : Int32) (h1_ : 0 ≤ u.toInt) (h2_ : u.toInt < 8) : -2147483648 ≤ 3 * u.toInt ∧ 3 * u.toInt < 2147483648 := by have r_u := rngI u; omega
theorem lf_c_X0_noteLearned_6  (r26_ : Int32) (h29_ : -1 ≤ r26_.toInt ∧ r26_.toInt ≤ 191) (h33_ : 0 ≤ r26_.toInt ∧ r26_.toInt ≤ 191) : 0 ≤ r26_.toInt := by have r_r26_ := rngI r26_; omega
theorem lf_c_X0_noteLearned_7  (u : Int32) (r26_ : Int32) (z35_ : Int32) (z37_ : Int32) (h1_ : 0 ≤ u.toInt) (h2_ : u.toInt < 8) (h29_ : -1 ≤ r26_.toInt ∧ r26_.toInt ≤ 191) (h33_ : 0 ≤ r26_.toInt ∧ r26_.toInt ≤ 191) (h36_ : z35_.toInt = 3 * u.toInt) (h38_ : z37_.toInt = r26_.toInt / 64) : -2147483648 ≤ z35_.toInt + z37_.toInt ∧ z35_.toInt + z37_.toInt < 2147483648 := by have r_u := rngI u; have r_r26_ := rngI r26_; have r_z35_ := rngI z35_; have r_z37_ := rngI z37_; omega
theorem lf_c_X0_noteLearned_8  (u : Int32) (r26_ : Int32) (z35_ : Int32) (z37_ : Int32) (z39_ : Int32) (h1_ : 0 ≤ u.toInt) (h2_ : u.toInt < 8) (h29_ : -1 ≤ r26_.toInt ∧ r26_.toInt ≤ 191) (h33_ : 0 ≤ r26_.toInt ∧ r26_.toInt ≤ 191) (h36_ : z35_.toInt = 3 * u.toInt) (h38_ : z37_.toInt = r26_.toInt / 64) (h40_ : z39_.toInt = z35_.toInt + z37_.toInt) : 0 ≤ z39_.toInt ∧ z39_.toInt < ((24 : Nat) : Int) := by have r_u := rngI u; have r_r26_ := rngI r26_; have r_z35_ := rngI z35_; have r_z37_ := rngI z37_; have r_z39_ := rngI z39_; omega
theorem lf_c_X0_noteLearned_9  (u : Int32) (r26_ : Int32) (z35_ : Int32) (z37_ : Int32) (z39_ : Int32) (h1_ : 0 ≤ u.toInt) (h2_ : u.toInt < 8) (h29_ : -1 ≤ r26_.toInt ∧ r26_.toInt ≤ 191) (h33_ : 0 ≤ r26_.toInt ∧ r26_.toInt ≤ 191) (h36_ : z35_.toInt = 3 * u.toInt) (h38_ : z37_.toInt = r26_.toInt / 64) (h40_ : z39_.toInt = z35_.toInt + z37_.toInt) : 0 ≤ r26_.toInt := by have r_u := rngI u; have r_r26_ := rngI r26_; have r_z35_ := rngI z35_; have r_z37_ := rngI z37_; have r_z39_ := rngI z39_; omega
theorem lf_c_X0_noteLearned_10  (u : Int32) (r26_ : Int32) (z35_ : Int32) (z37_ : Int32) (z39_ : Int32) (z43_ : Int32) (h1_ : 0 ≤ u.toInt) (h2_ : u.toInt < 8) (h29_ : -1 ≤ r26_.toInt ∧ r26_.toInt ≤ 191) (h33_ : 0 ≤ r26_.toInt ∧ r26_.toInt ≤ 191) (h36_ : z35_.toInt = 3 * u.toInt) (h38_ : z37_.toInt = r26_.toInt / 64) (h40_ : z39_.toInt = z35_.toInt + z37_.toInt) (h44_ : z43_.toInt = r26_.toInt % 64) : 0 ≤ z39_.toInt ∧ z39_.toInt < ((24 : Nat) : Int) := by have r_u := rngI u; have r_r26_ := rngI r26_; have r_z35_ := rngI z35_; have r_z37_ := rngI z37_; have r_z39_ := rngI z39_; have r_z43_ := rngI z43_; omega
theorem lf_c_X0_noteLearned_11  (r15_ : Int32) (v8_78 : Int32) (h18_ : 0 ≤ r15_.toInt ∧ r15_.toInt ≤ 12) (hv0_78 : 1 ≤ v8_78.toInt) (h23_ : v8_78.toInt ≤ r15_.toInt) : -2147483648 ≤ v8_78.toInt + 1 ∧ v8_78.toInt + 1 < 2147483648 := by have r_r15_ := rngI r15_; have r_v8_78 := rngI v8_78; omega
theorem lf_c_X0_noteLearned_12  (r15_ : Int32) (v8_78 : Int32) (z53_ : Int32) (h18_ : 0 ≤ r15_.toInt ∧ r15_.toInt ≤ 12) (hv0_78 : 1 ≤ v8_78.toInt) (h23_ : v8_78.toInt ≤ r15_.toInt) (h54_ : z53_.toInt = v8_78.toInt + 1) : 1 ≤ z53_.toInt := by have r_r15_ := rngI r15_; have r_v8_78 := rngI v8_78; have r_z53_ := rngI z53_; omega
theorem lf_c_X0_noteLearned_13  (r15_ : Int32) (v8_78 : Int32) (z53_ : Int32) (h18_ : 0 ≤ r15_.toInt ∧ r15_.toInt ≤ 12) (hv0_78 : 1 ≤ v8_78.toInt) (h23_ : v8_78.toInt ≤ r15_.toInt) (h54_ : z53_.toInt = v8_78.toInt + 1) : (2147483648 - z53_.toInt).toNat < (2147483648 - v8_78.toInt).toNat := by have r_r15_ := rngI r15_; have r_v8_78 := rngI v8_78; have r_z53_ := rngI z53_; omega
theorem lf_c_X0_noteLearned_14  (r15_ : Int32) (v8_78 : Int32) (h18_ : 0 ≤ r15_.toInt ∧ r15_.toInt ≤ 12) (hv0_78 : 1 ≤ v8_78.toInt) (h23_ : v8_78.toInt ≤ r15_.toInt) : -2147483648 ≤ v8_78.toInt + 1 ∧ v8_78.toInt + 1 < 2147483648 := by have r_r15_ := rngI r15_; have r_v8_78 := rngI v8_78; omega
theorem lf_c_X0_noteLearned_15  (r15_ : Int32) (v8_78 : Int32) (z56_ : Int32) (h18_ : 0 ≤ r15_.toInt ∧ r15_.toInt ≤ 12) (hv0_78 : 1 ≤ v8_78.toInt) (h23_ : v8_78.toInt ≤ r15_.toInt) (h57_ : z56_.toInt = v8_78.toInt + 1) : 1 ≤ z56_.toInt := by have r_r15_ := rngI r15_; have r_v8_78 := rngI v8_78; have r_z56_ := rngI z56_; omega
theorem lf_c_X0_noteLearned_16  (r15_ : Int32) (v8_78 : Int32) (z56_ : Int32) (h18_ : 0 ≤ r15_.toInt ∧ r15_.toInt ≤ 12) (hv0_78 : 1 ≤ v8_78.toInt) (h23_ : v8_78.toInt ≤ r15_.toInt) (h57_ : z56_.toInt = v8_78.toInt + 1) : (2147483648 - z56_.toInt).toNat < (2147483648 - v8_78.toInt).toNat := by have r_r15_ := rngI r15_; have r_v8_78 := rngI v8_78; have r_z56_ := rngI z56_; omega
theorem lf_c_X0_noteLearned_17    : 1 ≤ (1 : Int32).toInt := by have q0 := li_1; omega
theorem lf_c_X0_noteLearned_18    : 0 ≤ (0 : Int32).toInt := by have q0 := li_0; omega
theorem lf_c_X0_noteLearned_19    : (0 : Int32).toInt ≤ 8 := by have q0 := li_0; omega
theorem lf_c_X0_noteLearned_20  (u : Int32) (h1_ : 0 ≤ u.toInt) (h2_ : u.toInt < 8) : -2147483648 ≤ 3 * u.toInt ∧ 3 * u.toInt < 2147483648 := by have r_u := rngI u; omega
theorem lf_c_X0_noteLearned_21  (u : Int32) (v5_22 : Int32) (z58_ : Int32) (h1_ : 0 ≤ u.toInt) (h2_ : u.toInt < 8) (hv0_22 : 0 ≤ v5_22.toInt) (hv1_22 : v5_22.toInt ≤ 3) (h9_ : v5_22.toInt < 3) (h59_ : z58_.toInt = 3 * u.toInt) : -2147483648 ≤ z58_.toInt + v5_22.toInt ∧ z58_.toInt + v5_22.toInt < 2147483648 := by have r_u := rngI u; have r_v5_22 := rngI v5_22; have r_z58_ := rngI z58_; omega
theorem lf_c_X0_noteLearned_22  (u : Int32) (v5_22 : Int32) (z58_ : Int32) (z60_ : Int32) (h1_ : 0 ≤ u.toInt) (h2_ : u.toInt < 8) (hv0_22 : 0 ≤ v5_22.toInt) (hv1_22 : v5_22.toInt ≤ 3) (h9_ : v5_22.toInt < 3) (h59_ : z58_.toInt = 3 * u.toInt) (h61_ : z60_.toInt = z58_.toInt + v5_22.toInt) : 0 ≤ z60_.toInt ∧ z60_.toInt < ((24 : Nat) : Int) := by have r_u := rngI u; have r_v5_22 := rngI v5_22; have r_z58_ := rngI z58_; have r_z60_ := rngI z60_; omega
theorem lf_c_X0_noteLearned_23  (u : Int32) (v5_22 : Int32) (z58_ : Int32) (z60_ : Int32) (h1_ : 0 ≤ u.toInt) (h2_ : u.toInt < 8) (hv0_22 : 0 ≤ v5_22.toInt) (hv1_22 : v5_22.toInt ≤ 3) (h9_ : v5_22.toInt < 3) (h59_ : z58_.toInt = 3 * u.toInt) (h61_ : z60_.toInt = z58_.toInt + v5_22.toInt) : -2147483648 ≤ v5_22.toInt + 1 ∧ v5_22.toInt + 1 < 2147483648 := by have r_u := rngI u; have r_v5_22 := rngI v5_22; have r_z58_ := rngI z58_; have r_z60_ := rngI z60_; omega
theorem lf_c_X0_noteLearned_24  (u : Int32) (v5_22 : Int32) (z58_ : Int32) (z60_ : Int32) (z67_ : Int32) (h1_ : 0 ≤ u.toInt) (h2_ : u.toInt < 8) (hv0_22 : 0 ≤ v5_22.toInt) (hv1_22 : v5_22.toInt ≤ 3) (h9_ : v5_22.toInt < 3) (h59_ : z58_.toInt = 3 * u.toInt) (h61_ : z60_.toInt = z58_.toInt + v5_22.toInt) (h68_ : z67_.toInt = v5_22.toInt + 1) : 0 ≤ z67_.toInt := by have r_u := rngI u; have r_v5_22 := rngI v5_22; have r_z58_ := rngI z58_; have r_z60_ := rngI z60_; have r_z67_ := rngI z67_; omega
theorem lf_c_X0_noteLearned_25  (u : Int32) (v5_22 : Int32) (z58_ : Int32) (z60_ : Int32) (z67_ : Int32) (h1_ : 0 ≤ u.toInt) (h2_ : u.toInt < 8) (hv0_22 : 0 ≤ v5_22.toInt) (hv1_22 : v5_22.toInt ≤ 3) (h9_ : v5_22.toInt < 3) (h59_ : z58_.toInt = 3 * u.toInt) (h61_ : z60_.toInt = z58_.toInt + v5_22.toInt) (h68_ : z67_.toInt = v5_22.toInt + 1) : z67_.toInt ≤ 3 := by have r_u := rngI u; have r_v5_22 := rngI v5_22; have r_z58_ := rngI z58_; have r_z60_ := rngI z60_; have r_z67_ := rngI z67_; omega
theorem lf_c_X0_noteLearned_26  (u : Int32) (v5_22 : Int32) (z58_ : Int32) (z60_ : Int32) (z67_ : Int32) (h1_ : 0 ≤ u.toInt) (h2_ : u.toInt < 8) (hv0_22 : 0 ≤ v5_22.toInt) (hv1_22 : v5_22.toInt ≤ 3) (h9_ : v5_22.toInt < 3) (h59_ : z58_.toInt = 3 * u.toInt) (h61_ : z60_.toInt = z58_.toInt + v5_22.toInt) (h68_ : z67_.toInt = v5_22.toInt + 1) : (2147483648 - z67_.toInt).toNat < (2147483648 - v5_22.toInt).toNat := by have r_u := rngI u; have r_v5_22 := rngI v5_22; have r_z58_ := rngI z58_; have r_z60_ := rngI z60_; have r_z67_ := rngI z67_; omega
theorem lf_c_X0_noteLearned_27    : 0 ≤ (0 : Int32).toInt := by have q0 := li_0; omega
theorem lf_c_X0_noteLearned_28    : (0 : Int32).toInt ≤ 3 := by have q0 := li_0; omega
set_option maxHeartbeats 4000000 in
set_option maxRecDepth 100000 in
theorem c_X0_noteLearned (l : Launch) (G : va_G) (cy : Nat → ClassId) (ad : rf → Nat) (d : Nat) (b : Nat) (v : Int32) (u : Int32) (t : Int32) (Mz : mM) (hIz : Inv Mz) (hb : b < 3) : WP CC l G cy ad yX0_noteLearned cX0_noteLearned 10 none (d + 4) 0 [(0, vR (0, 0, 0)), (1, vR (10, b, 0)), (2, vI v), (3, vI u), (4, vI t)] [] Mz (fun r M' => Inv M' ∧ FR (S_c_X0_noteLearned b) Mz M' ∧ True) := by
  have hFz : FR (S_c_X0_noteLearned b) Mz Mz := FR.self
  refine w_iload_n dX0_noteLearned_0 rfl 3 rfl ?_
  refine w_if_lt (tgt := 18) dX0_noteLearned_1 (by decide) (rfl : u.toInt = u.toInt) (fun h1_ => ?_) (fun h1_ => ?_)
  · exact w_vret rfl dX0_noteLearned_18 ⟨hIz, hFz, trivial⟩
  · refine w_iload_n dX0_noteLearned_4 rfl 3 rfl ?_
    refine w_bipush (v := 8) dX0_noteLearned_5 (by decide) ?_
    refine w_icmp_ge (tgt := 18) dX0_noteLearned_7 (by decide) (rfl : u.toInt = u.toInt) li_8 (fun h2_ => ?_) (fun h2_ => ?_)
    · exact w_vret rfl dX0_noteLearned_18 ⟨hIz, hFz, trivial⟩
    · refine w_aload_n dX0_noteLearned_10 rfl 1 rfl ?_
      refine w_iload_n dX0_noteLearned_11 rfl 2 rfl ?_
      refine w_callV (as := [vI v]) (rest := []) (c_X10_hasWalker l G cy ad (d + 3) b v Mz hIz hb) kV_X10_hasWalker (by decide +kernel) (Nat.le_of_ble_eq_true rfl) m_998 rfl rfl rfl (ic_10 hb) rfl rfl (by decide) (Nat.le_of_ble_eq_true rfl) dX0_noteLearned_12 (fun r3_ M4_ q5_ => ?_)
      obtain ⟨rfl, h6_⟩ := q5_
      rcases h6_ with ⟨rfl, h6_⟩ | rfl
      · refine w_if_ne (tgt := 19) dX0_noteLearned_15 (by decide) li_1 (fun h7_ => ?_) (fun h9 => (absurd h9 (by decide)))
        refine w_iconst (v := 0) dX0_noteLearned_19 (by decide) ?_
        refine w_istore (ls' := [(5, vI 0), (0, vR (0, 0, 0)), (1, vR (10, b, 0)), (2, vI v), (3, vI u), (4, vI t)]) dX0_noteLearned_20 (by decide) rfl ?_
        have lp8_ : ∀ (nn_22 : Nat) (M_22 : mM) (hI_22 : Inv M_22) (hF_22 : FR (S_c_X0_noteLearned b) Mz M_22) (v5_22 : Int32) (hv0_22 : 0 ≤ v5_22.toInt) (hv1_22 : v5_22.toInt ≤ 3), (2147483648 - v5_22.toInt).toNat < nn_22 → WP CC l G cy ad yX0_noteLearned cX0_noteLearned 10 none (d + 4) 22 [(5, vI v5_22), (0, vR (0, 0, 0)), (1, vR (10, b, 0)), (2, vI v), (3, vI u), (4, vI t)] [] M_22 (fun r M' => Inv M' ∧ FR (S_c_X0_noteLearned b) Mz M' ∧ True) := by
          intro nn_22
          induction nn_22 with
          | zero => intro M_22 hI_22 hF_22 v5_22 hv0_22 hv1_22 hm_22; exact absurd hm_22 (Nat.not_lt_zero _)
          | succ nn_22 ih_22 =>
            intro M_22 hI_22 hF_22 v5_22 hv0_22 hv1_22 hm_22
            refine w_iload dX0_noteLearned_22 0 rfl ?_
            refine w_iconst (v := 3) dX0_noteLearned_24 (by decide) ?_
            refine w_icmp_ge (tgt := 46) dX0_noteLearned_25 (by decide) (rfl : v5_22.toInt = v5_22.toInt) li_3 (fun h9_ => ?_) (fun h9_ => ?_)
            · refine w_aload_n dX0_noteLearned_46 rfl 2 rfl ?_
              refine w_getR (c' := (42, b, 0)) fl_RX0_97 rfl rfl (ic_10 hb) dX0_noteLearned_47 rfl ?_
              refine w_iload_n dX0_noteLearned_50 rfl 3 rfl ?_
              refine w_aald rfl rfl rfl (fun _ => rfl) (ic_42 hb) (rfl : v.toInt = v.toInt) (lf_c_X0_noteLearned_0 v h6_) dX0_noteLearned_51 (fun j10_ h11_ h12_ => ?_)
              refine w_astore (ls' := [(5, vR (9, b, j10_)), (0, vR (0, 0, 0)), (1, vR (10, b, 0)), (2, vI v), (3, vI u), (4, vI t)]) dX0_noteLearned_52 (by decide) rfl ?_
              refine w_iconst (v := 0) dX0_noteLearned_54 (by decide) ?_
              refine w_istore (ls' := [(6, vI 0), (5, vR (9, b, j10_)), (0, vR (0, 0, 0)), (1, vR (10, b, 0)), (2, vI v), (3, vI u), (4, vI t)]) dX0_noteLearned_55 (by decide) rfl ?_
              have lp13_ : ∀ (nn_57 : Nat) (M_57 : mM) (hI_57 : Inv M_57) (hF_57 : FR (S_c_X0_noteLearned b) Mz M_57) (v6_57 : Int32) (hv0_57 : 0 ≤ v6_57.toInt) (hv1_57 : v6_57.toInt ≤ 8), (2147483648 - v6_57.toInt).toNat < nn_57 → WP CC l G cy ad yX0_noteLearned cX0_noteLearned 10 none (d + 4) 57 [(6, vI v6_57), (5, vR (9, b, j10_)), (0, vR (0, 0, 0)), (1, vR (10, b, 0)), (2, vI v), (3, vI u), (4, vI t)] [] M_57 (fun r M' => Inv M' ∧ FR (S_c_X0_noteLearned b) Mz M' ∧ True) := by
                intro nn_57
                induction nn_57 with
                | zero => intro M_57 hI_57 hF_57 v6_57 hv0_57 hv1_57 hm_57; exact absurd hm_57 (Nat.not_lt_zero _)
                | succ nn_57 ih_57 =>
                  intro M_57 hI_57 hF_57 v6_57 hv0_57 hv1_57 hm_57
                  refine w_iload dX0_noteLearned_57 0 rfl ?_
                  refine w_bipush (v := 8) dX0_noteLearned_59 (by decide) ?_
                  refine w_icmp_ge (tgt := 142) dX0_noteLearned_61 (by decide) (rfl : v6_57.toInt = v6_57.toInt) li_8 (fun h14_ => ?_) (fun h14_ => ?_)
                  · exact w_vret rfl dX0_noteLearned_142 ⟨hI_57, hF_57, trivial⟩
                  · refine w_aload_n dX0_noteLearned_64 rfl 3 rfl ?_
                    refine w_iload_n dX0_noteLearned_65 rfl 4 rfl ?_
                    refine w_iload dX0_noteLearned_66 6 rfl ?_
                    refine w_iload dX0_noteLearned_68 0 rfl ?_
                    refine w_callV (as := [vI v, vI t, vI v6_57]) (rest := []) (c_X10_heardYards l G cy ad d b v t v6_57 M_57 hI_57 hb) kV_X10_heardYards (by decide +kernel) (Nat.le_of_ble_eq_true rfl) m_999 rfl rfl rfl (ic_10 hb) rfl rfl (by decide) (Nat.le_of_ble_eq_true rfl) dX0_noteLearned_70 (fun r15_ M16_ q17_ => ?_)
                    obtain ⟨hI19_, hF20_, h18_⟩ := q17_
                    have hF21_ := hF_57.tr hF20_ (fun c k => (fun h => h.elim (fun h => (Or.inl ⟨h.1, h.2.1, h.2.2⟩)) (fun h => h.elim (fun h => (Or.inr (Or.inl ⟨h.1, h.2.1, h.2.2⟩))) (fun h => h.elim (fun h => (Or.inr (Or.inr (Or.inl ⟨h.1, h.2.1, h.2.2⟩)))) (fun h => h.elim (fun h => (Or.inr (Or.inr (Or.inr (Or.inl ⟨h.1, h.2.1, h.2.2⟩))))) (fun h => h.elim (fun h => (Or.inr (Or.inr (Or.inr (Or.inr (Or.inl ⟨h.1, h.2.1, h.2.2⟩)))))) (fun h => h.elim (fun h => (Or.inr (Or.inr (Or.inr (Or.inr (Or.inr (Or.inl ⟨h.1, h.2.1, h.2.2⟩))))))) (fun h => h.elim))))))))
                    refine w_istore (ls' := [(7, vI r15_), (6, vI v6_57), (5, vR (9, b, j10_)), (0, vR (0, 0, 0)), (1, vR (10, b, 0)), (2, vI v), (3, vI u), (4, vI t)]) dX0_noteLearned_73 (by decide) rfl ?_
                    refine w_iconst (v := 1) dX0_noteLearned_75 (by decide) ?_
                    refine w_istore (ls' := [(8, vI 1), (7, vI r15_), (6, vI v6_57), (5, vR (9, b, j10_)), (0, vR (0, 0, 0)), (1, vR (10, b, 0)), (2, vI v), (3, vI u), (4, vI t)]) dX0_noteLearned_76 (by decide) rfl ?_
                    have lp22_ : ∀ (nn_78 : Nat) (M_78 : mM) (hI_78 : Inv M_78) (hF_78 : FR (S_c_X0_noteLearned b) Mz M_78) (v8_78 : Int32) (hv0_78 : 1 ≤ v8_78.toInt), (2147483648 - v8_78.toInt).toNat < nn_78 → WP CC l G cy ad yX0_noteLearned cX0_noteLearned 10 none (d + 4) 78 [(8, vI v8_78), (7, vI r15_), (6, vI v6_57), (5, vR (9, b, j10_)), (0, vR (0, 0, 0)), (1, vR (10, b, 0)), (2, vI v), (3, vI u), (4, vI t)] [] M_78 (fun r M' => Inv M' ∧ FR (S_c_X0_noteLearned b) Mz M' ∧ True) := by
                      intro nn_78
                      induction nn_78 with
                      | zero => intro M_78 hI_78 hF_78 v8_78 hv0_78 hm_78; exact absurd hm_78 (Nat.not_lt_zero _)
                      | succ nn_78 ih_78 =>
                        intro M_78 hI_78 hF_78 v8_78 hv0_78 hm_78
                        refine w_iload dX0_noteLearned_78 0 rfl ?_
                        refine w_iload dX0_noteLearned_80 1 rfl ?_
                        refine w_icmp_gt (tgt := 136) dX0_noteLearned_82 (by decide) (rfl : v8_78.toInt = v8_78.toInt) (rfl : r15_.toInt = r15_.toInt) (fun h23_ => ?_) (fun h23_ => ?_)
                        · refine w_iincB (j := 2) (f := fun z24_ => [(6, vI z24_), (8, vI v8_78), (7, vI r15_), (5, vR (9, b, j10_)), (0, vR (0, 0, 0)), (1, vR (10, b, 0)), (2, vI v), (3, vI u), (4, vI t)]) dX0_noteLearned_136 rfl (by decide) (fun _ => rfl) (rfl : v6_57.toInt = v6_57.toInt) li_1 (lf_c_X0_noteLearned_1 v6_57 hv0_57 hv1_57 h14_) (fun z24_ h25_ => ?_)
                          refine w_goto (tgt := 57) dX0_noteLearned_139 (by decide) ?_
                          refine w_loc (ls' := [(6, vI z24_), (5, vR (9, b, j10_)), (0, vR (0, 0, 0)), (1, vR (10, b, 0)), (2, vI v), (3, vI u), (4, vI t)]) [0, 3, 4, 5, 6, 7, 8] rfl ?_
                          exact ih_57 M_78 hI_78 hF_78 z24_ (lf_c_X0_noteLearned_2 v6_57 z24_ hv0_57 hv1_57 h14_ h25_) (lf_c_X0_noteLearned_3 v6_57 z24_ hv0_57 hv1_57 h14_ h25_) (Nat.lt_of_lt_of_le (lf_c_X0_noteLearned_4 v6_57 z24_ hv0_57 hv1_57 h14_ h25_) (Nat.le_of_lt_succ hm_57))
                        · refine w_iload dX0_noteLearned_85 8 rfl ?_
                          refine w_iload dX0_noteLearned_87 2 rfl ?_
                          refine w_iload dX0_noteLearned_89 0 rfl ?_
                          refine w_callS (as := [vI t, vI v6_57, vI v8_78]) (rest := []) (c_X7_cellFrom l G cy ad (d + 2) t v6_57 v8_78 M_78 hI_78) kS_X7_cellFrom (by decide +kernel) (Nat.le_of_ble_eq_true rfl) m_1000 rfl rfl (by decide) (Nat.le_of_ble_eq_true rfl) dX0_noteLearned_91 (fun r26_ M27_ q28_ => ?_)
                          obtain ⟨rfl, h29_⟩ := q28_
                          refine w_istore (ls' := [(9, vI r26_), (8, vI v8_78), (7, vI r15_), (6, vI v6_57), (5, vR (9, b, j10_)), (0, vR (0, 0, 0)), (1, vR (10, b, 0)), (2, vI v), (3, vI u), (4, vI t)]) dX0_noteLearned_94 (by decide) rfl ?_
                          refine w_aload dX0_noteLearned_96 4 rfl ?_
                          refine w_iload dX0_noteLearned_98 0 rfl ?_
                          refine w_callV (as := [vI r26_]) (rest := []) (c_X9_canLearn l G cy ad (d + 2) b j10_ r26_ M_78 hI_78 hb h12_) kV_X9_canLearn (by decide +kernel) (Nat.le_of_ble_eq_true rfl) m_1001 rfl rfl rfl (ic_9 hb h12_) rfl rfl (by decide) (Nat.le_of_ble_eq_true rfl) dX0_noteLearned_100 (fun r30_ M31_ q32_ => ?_)
                          obtain ⟨rfl, h33_⟩ := q32_
                          rcases h33_ with ⟨rfl, h33_⟩ | rfl
                          · refine w_if_eq (tgt := 130) dX0_noteLearned_103 (by decide) li_1 (fun h9 => (absurd h9 (by decide))) (fun h34_ => ?_)
                            refine w_aload_n dX0_noteLearned_106 rfl 5 rfl ?_
                            refine w_getR (c' := (22, 0, 0)) fl_RX0_19 rfl rfl ic_0 dX0_noteLearned_107 rfl ?_
                            refine w_iconst (v := 3) dX0_noteLearned_110 (by decide) ?_
                            refine w_iload_n dX0_noteLearned_111 rfl 8 rfl ?_
                            refine w_imulB dX0_noteLearned_112 li_3 (rfl : u.toInt = u.toInt) (lf_c_X0_noteLearned_5 u h1_ h2_) (fun z35_ h36_ => ?_)
                            refine w_iload dX0_noteLearned_113 0 rfl ?_
                            refine w_bipush (v := 64) dX0_noteLearned_115 (by decide) ?_
                            refine w_idivB dX0_noteLearned_117 (by decide) (rfl : r26_.toInt = r26_.toInt) li_64 (lf_c_X0_noteLearned_6 r26_ h29_ h33_) (by decide) (fun z37_ h38_ => ?_)
                            refine w_iaddB dX0_noteLearned_118 (rfl : z35_.toInt = z35_.toInt) (rfl : z37_.toInt = z37_.toInt) (lf_c_X0_noteLearned_7 u r26_ z35_ z37_ h1_ h2_ h29_ h33_ h36_ h38_) (fun z39_ h40_ => ?_)
                            refine w_dup2 dX0_noteLearned_119 rfl rfl ?_
                            refine w_lald rfl rfl ic_22 (rfl : z39_.toInt = z39_.toInt) (lf_c_X0_noteLearned_8 u r26_ z35_ z37_ z39_ h1_ h2_ h29_ h33_ h36_ h38_ h40_) dX0_noteLearned_120 (fun j42_ _ w41_ _ => ?_)
                            refine w_lconst (v := 1) dX0_noteLearned_121 rfl ?_
                            refine w_iload dX0_noteLearned_122 0 rfl ?_
                            refine w_bipush (v := 64) dX0_noteLearned_124 (by decide) ?_
                            refine w_iremB dX0_noteLearned_126 (by decide) (rfl : r26_.toInt = r26_.toInt) li_64 (lf_c_X0_noteLearned_9 u r26_ z35_ z37_ z39_ h1_ h2_ h29_ h33_ h36_ h38_ h40_) (by decide) (fun z43_ h44_ => ?_)
                            refine w_lshl dX0_noteLearned_127 (fun w45_ _ => ?_)
                            refine w_lor dX0_noteLearned_128 (fun w46_ h47_ => ?_)
                            refine w_last CC_nd CC_22 ic_22 (rfl : z39_.toInt = z39_.toInt) (lf_c_X0_noteLearned_10 u r26_ z35_ z37_ z39_ z43_ h1_ h2_ h29_ h33_ h36_ h38_ h40_ h44_) dX0_noteLearned_129 (fun j50_ _ M48_ hM49_ => ?_)
                            have hI51_ := hI_78.putL hM49_
                            have hF52_ := hF_78.putL hM49_
                            refine w_iincB (j := 1) (f := fun z53_ => [(8, vI z53_), (9, vI r26_), (7, vI r15_), (6, vI v6_57), (5, vR (9, b, j10_)), (0, vR (0, 0, 0)), (1, vR (10, b, 0)), (2, vI v), (3, vI u), (4, vI t)]) dX0_noteLearned_130 rfl (by decide) (fun _ => rfl) (rfl : v8_78.toInt = v8_78.toInt) li_1 (lf_c_X0_noteLearned_11 r15_ v8_78 h18_ hv0_78 h23_) (fun z53_ h54_ => ?_)
                            refine w_goto (tgt := 78) dX0_noteLearned_133 (by decide) ?_
                            refine w_loc (ls' := [(8, vI z53_), (7, vI r15_), (6, vI v6_57), (5, vR (9, b, j10_)), (0, vR (0, 0, 0)), (1, vR (10, b, 0)), (2, vI v), (3, vI u), (4, vI t)]) [0, 2, 3, 4, 5, 6, 7, 8, 9] rfl ?_
                            exact ih_78 M48_ hI51_ hF52_ z53_ (lf_c_X0_noteLearned_12 r15_ v8_78 z53_ h18_ hv0_78 h23_ h54_) (Nat.lt_of_lt_of_le (lf_c_X0_noteLearned_13 r15_ v8_78 z53_ h18_ hv0_78 h23_ h54_) (Nat.le_of_lt_succ hm_78))
                          · refine w_if_eq (tgt := 130) dX0_noteLearned_103 (by decide) li_0 (fun h55_ => ?_) (fun h9 => (absurd h9 (by decide)))
                            refine w_iincB (j := 1) (f := fun z56_ => [(8, vI z56_), (9, vI r26_), (7, vI r15_), (6, vI v6_57), (5, vR (9, b, j10_)), (0, vR (0, 0, 0)), (1, vR (10, b, 0)), (2, vI v), (3, vI u), (4, vI t)]) dX0_noteLearned_130 rfl (by decide) (fun _ => rfl) (rfl : v8_78.toInt = v8_78.toInt) li_1 (lf_c_X0_noteLearned_14 r15_ v8_78 h18_ hv0_78 h23_) (fun z56_ h57_ => ?_)
                            refine w_goto (tgt := 78) dX0_noteLearned_133 (by decide) ?_
                            refine w_loc (ls' := [(8, vI z56_), (7, vI r15_), (6, vI v6_57), (5, vR (9, b, j10_)), (0, vR (0, 0, 0)), (1, vR (10, b, 0)), (2, vI v), (3, vI u), (4, vI t)]) [0, 2, 3, 4, 5, 6, 7, 8, 9] rfl ?_
                            exact ih_78 M_78 hI_78 hF_78 z56_ (lf_c_X0_noteLearned_15 r15_ v8_78 z56_ h18_ hv0_78 h23_ h57_) (Nat.lt_of_lt_of_le (lf_c_X0_noteLearned_16 r15_ v8_78 z56_ h18_ hv0_78 h23_ h57_) (Nat.le_of_lt_succ hm_78))
                    exact lp22_ _ M16_ hI19_ hF21_ 1 (lf_c_X0_noteLearned_17 ) (Nat.lt_succ_self _)
              exact lp13_ _ M_22 hI_22 hF_22 0 (lf_c_X0_noteLearned_18 ) (lf_c_X0_noteLearned_19 ) (Nat.lt_succ_self _)
            · refine w_aload_n dX0_noteLearned_28 rfl 1 rfl ?_
              refine w_getR (c' := (22, 0, 0)) fl_RX0_19 rfl rfl ic_0 dX0_noteLearned_29 rfl ?_
              refine w_iconst (v := 3) dX0_noteLearned_32 (by decide) ?_
              refine w_iload_n dX0_noteLearned_33 rfl 4 rfl ?_
              refine w_imulB dX0_noteLearned_34 li_3 (rfl : u.toInt = u.toInt) (lf_c_X0_noteLearned_20 u h1_ h2_) (fun z58_ h59_ => ?_)
              refine w_iload dX0_noteLearned_35 0 rfl ?_
              refine w_iaddB dX0_noteLearned_37 (rfl : z58_.toInt = z58_.toInt) (rfl : v5_22.toInt = v5_22.toInt) (lf_c_X0_noteLearned_21 u v5_22 z58_ h1_ h2_ hv0_22 hv1_22 h9_ h59_) (fun z60_ h61_ => ?_)
              refine w_lconst (v := 0) dX0_noteLearned_38 rfl ?_
              refine w_last CC_nd CC_22 ic_22 (rfl : z60_.toInt = z60_.toInt) (lf_c_X0_noteLearned_22 u v5_22 z58_ z60_ h1_ h2_ hv0_22 hv1_22 h9_ h59_ h61_) dX0_noteLearned_39 (fun j64_ _ M62_ hM63_ => ?_)
              have hI65_ := hI_22.putL hM63_
              have hF66_ := hF_22.putL hM63_
              refine w_iincB (j := 0) (f := fun z67_ => [(5, vI z67_), (0, vR (0, 0, 0)), (1, vR (10, b, 0)), (2, vI v), (3, vI u), (4, vI t)]) dX0_noteLearned_40 rfl (by decide) (fun _ => rfl) (rfl : v5_22.toInt = v5_22.toInt) li_1 (lf_c_X0_noteLearned_23 u v5_22 z58_ z60_ h1_ h2_ hv0_22 hv1_22 h9_ h59_ h61_) (fun z67_ h68_ => ?_)
              refine w_goto (tgt := 22) dX0_noteLearned_43 (by decide) ?_
              refine w_loc (ls' := [(5, vI z67_), (0, vR (0, 0, 0)), (1, vR (10, b, 0)), (2, vI v), (3, vI u), (4, vI t)]) [0, 1, 2, 3, 4, 5] rfl ?_
              exact ih_22 M62_ hI65_ hF66_ z67_ (lf_c_X0_noteLearned_24 u v5_22 z58_ z60_ z67_ h1_ h2_ hv0_22 hv1_22 h9_ h59_ h61_ h68_) (lf_c_X0_noteLearned_25 u v5_22 z58_ z60_ z67_ h1_ h2_ hv0_22 hv1_22 h9_ h59_ h61_ h68_) (Nat.lt_of_lt_of_le (lf_c_X0_noteLearned_26 u v5_22 z58_ z60_ z67_ h1_ h2_ hv0_22 hv1_22 h9_ h59_ h61_ h68_) (Nat.le_of_lt_succ hm_22))
        exact lp8_ _ Mz hIz hFz 0 (lf_c_X0_noteLearned_27 ) (lf_c_X0_noteLearned_28 ) (Nat.lt_succ_self _)
      · refine w_if_ne (tgt := 19) dX0_noteLearned_15 (by decide) li_0 (fun h9 => (absurd h9 (by decide))) (fun h69_ => ?_)
        exact w_vret rfl dX0_noteLearned_18 ⟨hIz, hFz, trivial⟩
theorem lf_c_X0_countLearned_0  (v3_4 : Int32) (hv0_4 : 0 ≤ v3_4.toInt) (hv1_4 : v3_4.toInt ≤ 3) (h2_ : v3_4.toInt < 3) : -2147483648 ≤ v3_4.toInt + 1 ∧ v3_4.toInt + 1 < 2147483648 := by have r_v3_4 := rngI v3_4; omega
theorem lf_c_X0_countLearned_1  (v3_4 : Int32) (z10_ : Int32) (hv0_4 : 0 ≤ v3_4.toInt) (hv1_4 : v3_4.toInt ≤ 3) (h2_ : v3_4.toInt < 3) (h11_ : z10_.toInt = v3_4.toInt + 1) : 0 ≤ z10_.toInt := by have r_v3_4 := rngI v3_4; have r_z10_ := rngI z10_; omega
theorem lf_c_X0_countLearned_2  (v3_4 : Int32) (z10_ : Int32) (hv0_4 : 0 ≤ v3_4.toInt) (hv1_4 : v3_4.toInt ≤ 3) (h2_ : v3_4.toInt < 3) (h11_ : z10_.toInt = v3_4.toInt + 1) : z10_.toInt ≤ 3 := by have r_v3_4 := rngI v3_4; have r_z10_ := rngI z10_; omega
theorem lf_c_X0_countLearned_3  (v3_4 : Int32) (z10_ : Int32) (hv0_4 : 0 ≤ v3_4.toInt) (hv1_4 : v3_4.toInt ≤ 3) (h2_ : v3_4.toInt < 3) (h11_ : z10_.toInt = v3_4.toInt + 1) : (2147483648 - z10_.toInt).toNat < (2147483648 - v3_4.toInt).toNat := by have r_v3_4 := rngI v3_4; have r_z10_ := rngI z10_; omega
theorem lf_c_X0_countLearned_4  (v6_15 : Int32) (hv0_15 : 0 ≤ v6_15.toInt) (hv1_15 : v6_15.toInt ≤ 8) (h4_ : v6_15.toInt < 8) : -2147483648 ≤ v6_15.toInt + 1 ∧ v6_15.toInt + 1 < 2147483648 := by have r_v6_15 := rngI v6_15; omega
theorem lf_c_X0_countLearned_5  (v6_15 : Int32) (z15_ : Int32) (hv0_15 : 0 ≤ v6_15.toInt) (hv1_15 : v6_15.toInt ≤ 8) (h4_ : v6_15.toInt < 8) (h16_ : z15_.toInt = v6_15.toInt + 1) : 0 ≤ z15_.toInt := by have r_v6_15 := rngI v6_15; have r_z15_ := rngI z15_; omega
theorem lf_c_X0_countLearned_6  (v6_15 : Int32) (z15_ : Int32) (hv0_15 : 0 ≤ v6_15.toInt) (hv1_15 : v6_15.toInt ≤ 8) (h4_ : v6_15.toInt < 8) (h16_ : z15_.toInt = v6_15.toInt + 1) : z15_.toInt ≤ 8 := by have r_v6_15 := rngI v6_15; have r_z15_ := rngI z15_; omega
theorem lf_c_X0_countLearned_7  (v6_15 : Int32) (z15_ : Int32) (hv0_15 : 0 ≤ v6_15.toInt) (hv1_15 : v6_15.toInt ≤ 8) (h4_ : v6_15.toInt < 8) (h16_ : z15_.toInt = v6_15.toInt + 1) : (2147483648 - z15_.toInt).toNat < (2147483648 - v6_15.toInt).toNat := by have r_v6_15 := rngI v6_15; have r_z15_ := rngI z15_; omega
theorem lf_c_X0_countLearned_8  (v6_15 : Int32) (hv0_15 : 0 ≤ v6_15.toInt) (hv1_15 : v6_15.toInt ≤ 8) (h4_ : v6_15.toInt < 8) : -2147483648 ≤ 3 * v6_15.toInt ∧ 3 * v6_15.toInt < 2147483648 := by have r_v6_15 := rngI v6_15; omega
theorem lf_c_X0_countLearned_9  (v3_4 : Int32) (v6_15 : Int32) (z17_ : Int32) (hv0_4 : 0 ≤ v3_4.toInt) (hv1_4 : v3_4.toInt ≤ 3) (h2_ : v3_4.toInt < 3) (hv0_15 : 0 ≤ v6_15.toInt) (hv1_15 : v6_15.toInt ≤ 8) (h4_ : v6_15.toInt < 8) (h18_ : z17_.toInt = 3 * v6_15.toInt) : -2147483648 ≤ z17_.toInt + v3_4.toInt ∧ z17_.toInt + v3_4.toInt < 2147483648 := by have r_v3_4 := rngI v3_4; have r_v6_15 := rngI v6_15; have r_z17_ := rngI z17_; omega
theorem lf_c_X0_countLearned_10  (v3_4 : Int32) (v6_15 : Int32) (z17_ : Int32) (z19_ : Int32) (hv0_4 : 0 ≤ v3_4.toInt) (hv1_4 : v3_4.toInt ≤ 3) (h2_ : v3_4.toInt < 3) (hv0_15 : 0 ≤ v6_15.toInt) (hv1_15 : v6_15.toInt ≤ 8) (h4_ : v6_15.toInt < 8) (h18_ : z17_.toInt = 3 * v6_15.toInt) (h20_ : z19_.toInt = z17_.toInt + v3_4.toInt) : 0 ≤ z19_.toInt ∧ z19_.toInt < ((24 : Nat) : Int) := by have r_v3_4 := rngI v3_4; have r_v6_15 := rngI v6_15; have r_z17_ := rngI z17_; have r_z19_ := rngI z19_; omega
theorem lf_c_X0_countLearned_11  (v3_4 : Int32) (v6_15 : Int32) (z17_ : Int32) (z19_ : Int32) (hv0_4 : 0 ≤ v3_4.toInt) (hv1_4 : v3_4.toInt ≤ 3) (h2_ : v3_4.toInt < 3) (hv0_15 : 0 ≤ v6_15.toInt) (hv1_15 : v6_15.toInt ≤ 8) (h4_ : v6_15.toInt < 8) (h18_ : z17_.toInt = 3 * v6_15.toInt) (h20_ : z19_.toInt = z17_.toInt + v3_4.toInt) : -2147483648 ≤ v6_15.toInt + 1 ∧ v6_15.toInt + 1 < 2147483648 := by have r_v3_4 := rngI v3_4; have r_v6_15 := rngI v6_15; have r_z17_ := rngI z17_; have r_z19_ := rngI z19_; omega
theorem lf_c_X0_countLearned_12  (v3_4 : Int32) (v6_15 : Int32) (z17_ : Int32) (z19_ : Int32) (z25_ : Int32) (hv0_4 : 0 ≤ v3_4.toInt) (hv1_4 : v3_4.toInt ≤ 3) (h2_ : v3_4.toInt < 3) (hv0_15 : 0 ≤ v6_15.toInt) (hv1_15 : v6_15.toInt ≤ 8) (h4_ : v6_15.toInt < 8) (h18_ : z17_.toInt = 3 * v6_15.toInt) (h20_ : z19_.toInt = z17_.toInt + v3_4.toInt) (h26_ : z25_.toInt = v6_15.toInt + 1) : 0 ≤ z25_.toInt := by have r_v3_4 := rngI v3_4; have r_v6_15 := rngI v6_15; have r_z17_ := rngI z17_; have r_z19_ := rngI z19_; have r_z25_ := rngI z25_; omega
theorem lf_c_X0_countLearned_13  (v3_4 : Int32) (v6_15 : Int32) (z17_ : Int32) (z19_ : Int32) (z25_ : Int32) (hv0_4 : 0 ≤ v3_4.toInt) (hv1_4 : v3_4.toInt ≤ 3) (h2_ : v3_4.toInt < 3) (hv0_15 : 0 ≤ v6_15.toInt) (hv1_15 : v6_15.toInt ≤ 8) (h4_ : v6_15.toInt < 8) (h18_ : z17_.toInt = 3 * v6_15.toInt) (h20_ : z19_.toInt = z17_.toInt + v3_4.toInt) (h26_ : z25_.toInt = v6_15.toInt + 1) : z25_.toInt ≤ 8 := by have r_v3_4 := rngI v3_4; have r_v6_15 := rngI v6_15; have r_z17_ := rngI z17_; have r_z19_ := rngI z19_; have r_z25_ := rngI z25_; omega
theorem lf_c_X0_countLearned_14  (v3_4 : Int32) (v6_15 : Int32) (z17_ : Int32) (z19_ : Int32) (z25_ : Int32) (hv0_4 : 0 ≤ v3_4.toInt) (hv1_4 : v3_4.toInt ≤ 3) (h2_ : v3_4.toInt < 3) (hv0_15 : 0 ≤ v6_15.toInt) (hv1_15 : v6_15.toInt ≤ 8) (h4_ : v6_15.toInt < 8) (h18_ : z17_.toInt = 3 * v6_15.toInt) (h20_ : z19_.toInt = z17_.toInt + v3_4.toInt) (h26_ : z25_.toInt = v6_15.toInt + 1) : (2147483648 - z25_.toInt).toNat < (2147483648 - v6_15.toInt).toNat := by have r_v3_4 := rngI v3_4; have r_v6_15 := rngI v6_15; have r_z17_ := rngI z17_; have r_z19_ := rngI z19_; have r_z25_ := rngI z25_; omega
theorem lf_c_X0_countLearned_15    : 0 ≤ (0 : Int32).toInt := by have q0 := li_0; omega
theorem lf_c_X0_countLearned_16    : (0 : Int32).toInt ≤ 8 := by have q0 := li_0; omega
theorem lf_c_X0_countLearned_17    : 0 ≤ (0 : Int32).toInt := by have q0 := li_0; omega
theorem lf_c_X0_countLearned_18    : (0 : Int32).toInt ≤ 3 := by have q0 := li_0; omega
set_option maxHeartbeats 4000000 in
set_option maxRecDepth 100000 in
theorem c_X0_countLearned (l : Launch) (G : va_G) (cy : Nat → ClassId) (ad : rf → Nat) (d : Nat) (v : Int32) (Mz : mM) (hIz : Inv Mz) : WP CC l G cy ad yX0_countLearned cX0_countLearned 7 (some .int) (d + 1) 0 [(0, vR (0, 0, 0)), (1, vI v)] [] Mz (fun r M' => Mz = M' ∧ True) := by
  refine w_iconst (v := 0) dX0_countLearned_0 (by decide) ?_
  refine w_istore_n (ls' := [(2, vI 0), (0, vR (0, 0, 0)), (1, vI v)]) dX0_countLearned_1 rfl (by decide) rfl ?_
  refine w_iconst (v := 0) dX0_countLearned_2 (by decide) ?_
  refine w_istore_n (ls' := [(3, vI 0), (2, vI 0), (0, vR (0, 0, 0)), (1, vI v)]) dX0_countLearned_3 rfl (by decide) rfl ?_
  have lp1_ : ∀ (nn_4 : Nat) (v3_4 : Int32) (v2_4 : Int32) (hv0_4 : 0 ≤ v3_4.toInt) (hv1_4 : v3_4.toInt ≤ 3), (2147483648 - v3_4.toInt).toNat < nn_4 → WP CC l G cy ad yX0_countLearned cX0_countLearned 7 (some .int) (d + 1) 4 [(3, vI v3_4), (2, vI v2_4), (0, vR (0, 0, 0)), (1, vI v)] [] Mz (fun r M' => Mz = M' ∧ True) := by
    intro nn_4
    induction nn_4 with
    | zero => intro v3_4 v2_4 hv0_4 hv1_4 hm_4; exact absurd hm_4 (Nat.not_lt_zero _)
    | succ nn_4 ih_4 =>
      intro v3_4 v2_4 hv0_4 hv1_4 hm_4
      refine w_iload_n dX0_countLearned_4 rfl 0 rfl ?_
      refine w_iconst (v := 3) dX0_countLearned_5 (by decide) ?_
      refine w_icmp_ge (tgt := 67) dX0_countLearned_6 (by decide) (rfl : v3_4.toInt = v3_4.toInt) li_3 (fun h2_ => ?_) (fun h2_ => ?_)
      · refine w_iload_n dX0_countLearned_67 rfl 1 rfl ?_
        exact w_iret rfl dX0_countLearned_68 ⟨rfl, trivial⟩
      · refine w_lconst (v := 0) dX0_countLearned_9 rfl ?_
        refine w_lstore (ls' := [(4, vL 0), (3, vI v3_4), (2, vI v2_4), (0, vR (0, 0, 0)), (1, vI v)]) dX0_countLearned_10 (by decide) rfl ?_
        refine w_iconst (v := 0) dX0_countLearned_12 (by decide) ?_
        refine w_istore (ls' := [(6, vI 0), (4, vL 0), (3, vI v3_4), (2, vI v2_4), (0, vR (0, 0, 0)), (1, vI v)]) dX0_countLearned_13 (by decide) rfl ?_
        have lp3_ : ∀ (nn_15 : Nat) (v6_15 : Int32) (v4_15 : Int64) (hv0_15 : 0 ≤ v6_15.toInt) (hv1_15 : v6_15.toInt ≤ 8), (2147483648 - v6_15.toInt).toNat < nn_15 → WP CC l G cy ad yX0_countLearned cX0_countLearned 7 (some .int) (d + 1) 15 [(6, vI v6_15), (4, vL v4_15), (3, vI v3_4), (2, vI v2_4), (0, vR (0, 0, 0)), (1, vI v)] [] Mz (fun r M' => Mz = M' ∧ True) := by
          intro nn_15
          induction nn_15 with
          | zero => intro v6_15 v4_15 hv0_15 hv1_15 hm_15; exact absurd hm_15 (Nat.not_lt_zero _)
          | succ nn_15 ih_15 =>
            intro v6_15 v4_15 hv0_15 hv1_15 hm_15
            refine w_iload dX0_countLearned_15 0 rfl ?_
            refine w_bipush (v := 8) dX0_countLearned_17 (by decide) ?_
            refine w_icmp_ge (tgt := 53) dX0_countLearned_19 (by decide) (rfl : v6_15.toInt = v6_15.toInt) li_8 (fun h4_ => ?_) (fun h4_ => ?_)
            · refine w_iload_n dX0_countLearned_53 rfl 3 rfl ?_
              refine w_lload dX0_countLearned_54 1 rfl ?_
              refine w_callS (as := [vL v4_15]) (rest := [vI v2_4]) (c_JL_bitCount l G cy ad d v4_15 Mz hIz) kS_JL_bitCount (by decide +kernel) (Nat.le_of_ble_eq_true rfl) m_1015 rfl rfl (by decide) (Nat.le_of_ble_eq_true rfl) dX0_countLearned_56 (fun r5_ M6_ q7_ => ?_)
              obtain ⟨rfl, h8_⟩ := q7_
              refine w_iadd dX0_countLearned_59 (fun z9_ _ => ?_)
              refine w_istore_n (ls' := [(2, vI z9_), (6, vI v6_15), (4, vL v4_15), (3, vI v3_4), (0, vR (0, 0, 0)), (1, vI v)]) dX0_countLearned_60 rfl (by decide) rfl ?_
              refine w_iincB (j := 3) (f := fun z10_ => [(3, vI z10_), (2, vI z9_), (6, vI v6_15), (4, vL v4_15), (0, vR (0, 0, 0)), (1, vI v)]) dX0_countLearned_61 rfl (by decide) (fun _ => rfl) (rfl : v3_4.toInt = v3_4.toInt) li_1 (lf_c_X0_countLearned_0 v3_4 hv0_4 hv1_4 h2_) (fun z10_ h11_ => ?_)
              refine w_goto (tgt := 4) dX0_countLearned_64 (by decide) ?_
              refine w_loc (ls' := [(3, vI z10_), (2, vI z9_), (0, vR (0, 0, 0)), (1, vI v)]) [0, 1, 4, 5] rfl ?_
              exact ih_4 z10_ z9_ (lf_c_X0_countLearned_1 v3_4 z10_ hv0_4 hv1_4 h2_ h11_) (lf_c_X0_countLearned_2 v3_4 z10_ hv0_4 hv1_4 h2_ h11_) (Nat.lt_of_lt_of_le (lf_c_X0_countLearned_3 v3_4 z10_ hv0_4 hv1_4 h2_ h11_) (Nat.le_of_lt_succ hm_4))
            · refine w_iload_n dX0_countLearned_22 rfl 5 rfl ?_
              refine w_iconst (v := 1) dX0_countLearned_23 (by decide) ?_
              refine w_iload dX0_countLearned_24 0 rfl ?_
              refine w_ishl dX0_countLearned_26 (fun z12_ _ => ?_)
              refine w_iand dX0_countLearned_27 (fun z13_ _ => ?_)
              refine w_if_eq (tgt := 47) dX0_countLearned_28 (by decide) (rfl : z13_.toInt = z13_.toInt) (fun h14_ => ?_) (fun h14_ => ?_)
              · refine w_iincB (j := 0) (f := fun z15_ => [(6, vI z15_), (4, vL v4_15), (3, vI v3_4), (2, vI v2_4), (0, vR (0, 0, 0)), (1, vI v)]) dX0_countLearned_47 rfl (by decide) (fun _ => rfl) (rfl : v6_15.toInt = v6_15.toInt) li_1 (lf_c_X0_countLearned_4 v6_15 hv0_15 hv1_15 h4_) (fun z15_ h16_ => ?_)
                refine w_goto (tgt := 15) dX0_countLearned_50 (by decide) ?_
                refine w_loc (ls' := [(6, vI z15_), (4, vL v4_15), (3, vI v3_4), (2, vI v2_4), (0, vR (0, 0, 0)), (1, vI v)]) [0, 1, 2, 3, 4, 5] rfl ?_
                exact ih_15 z15_ v4_15 (lf_c_X0_countLearned_5 v6_15 z15_ hv0_15 hv1_15 h4_ h16_) (lf_c_X0_countLearned_6 v6_15 z15_ hv0_15 hv1_15 h4_ h16_) (Nat.lt_of_lt_of_le (lf_c_X0_countLearned_7 v6_15 z15_ hv0_15 hv1_15 h4_ h16_) (Nat.le_of_lt_succ hm_15))
              · refine w_lload dX0_countLearned_31 1 rfl ?_
                refine w_aload_n dX0_countLearned_33 rfl 4 rfl ?_
                refine w_getR (c' := (22, 0, 0)) fl_RX0_19 rfl rfl ic_0 dX0_countLearned_34 rfl ?_
                refine w_iconst (v := 3) dX0_countLearned_37 (by decide) ?_
                refine w_iload dX0_countLearned_38 0 rfl ?_
                refine w_imulB dX0_countLearned_40 li_3 (rfl : v6_15.toInt = v6_15.toInt) (lf_c_X0_countLearned_8 v6_15 hv0_15 hv1_15 h4_) (fun z17_ h18_ => ?_)
                refine w_iload_n dX0_countLearned_41 rfl 2 rfl ?_
                refine w_iaddB dX0_countLearned_42 (rfl : z17_.toInt = z17_.toInt) (rfl : v3_4.toInt = v3_4.toInt) (lf_c_X0_countLearned_9 v3_4 v6_15 z17_ hv0_4 hv1_4 h2_ hv0_15 hv1_15 h4_ h18_) (fun z19_ h20_ => ?_)
                refine w_lald rfl rfl ic_22 (rfl : z19_.toInt = z19_.toInt) (lf_c_X0_countLearned_10 v3_4 v6_15 z17_ z19_ hv0_4 hv1_4 h2_ hv0_15 hv1_15 h4_ h18_ h20_) dX0_countLearned_43 (fun j22_ _ w21_ _ => ?_)
                refine w_lor dX0_countLearned_44 (fun w23_ h24_ => ?_)
                refine w_lstore (ls' := [(4, vL w23_), (6, vI v6_15), (3, vI v3_4), (2, vI v2_4), (0, vR (0, 0, 0)), (1, vI v)]) dX0_countLearned_45 (by decide) rfl ?_
                refine w_iincB (j := 1) (f := fun z25_ => [(6, vI z25_), (4, vL w23_), (3, vI v3_4), (2, vI v2_4), (0, vR (0, 0, 0)), (1, vI v)]) dX0_countLearned_47 rfl (by decide) (fun _ => rfl) (rfl : v6_15.toInt = v6_15.toInt) li_1 (lf_c_X0_countLearned_11 v3_4 v6_15 z17_ z19_ hv0_4 hv1_4 h2_ hv0_15 hv1_15 h4_ h18_ h20_) (fun z25_ h26_ => ?_)
                refine w_goto (tgt := 15) dX0_countLearned_50 (by decide) ?_
                refine w_loc (ls' := [(6, vI z25_), (4, vL w23_), (3, vI v3_4), (2, vI v2_4), (0, vR (0, 0, 0)), (1, vI v)]) [0, 1, 2, 3, 4, 5] rfl ?_
                exact ih_15 z25_ w23_ (lf_c_X0_countLearned_12 v3_4 v6_15 z17_ z19_ z25_ hv0_4 hv1_4 h2_ hv0_15 hv1_15 h4_ h18_ h20_ h26_) (lf_c_X0_countLearned_13 v3_4 v6_15 z17_ z19_ z25_ hv0_4 hv1_4 h2_ hv0_15 hv1_15 h4_ h18_ h20_ h26_) (Nat.lt_of_lt_of_le (lf_c_X0_countLearned_14 v3_4 v6_15 z17_ z19_ z25_ hv0_4 hv1_4 h2_ hv0_15 hv1_15 h4_ h18_ h20_ h26_) (Nat.le_of_lt_succ hm_15))
        exact lp3_ _ 0 0 (lf_c_X0_countLearned_15 ) (lf_c_X0_countLearned_16 ) (Nat.lt_succ_self _)
  exact lp1_ _ 0 0 (lf_c_X0_countLearned_17 ) (lf_c_X0_countLearned_18 ) (Nat.lt_succ_self _)
def S_c_X0_chooseSpots (b : Nat) (w : Nat) : rf → Nat → Prop := fun c k => (c.1 = 0 ∧ c.2.1 = 0 ∧ k = 4) ∨ (c.1 = 0 ∧ c.2.1 = 0 ∧ k = 5) ∨ (c.1 = 29 ∧ c.2.1 = b ∧ k = 0) ∨ (c.1 = 29 ∧ c.2.1 = b ∧ k = 1) ∨ (c.1 = 29 ∧ c.2.1 = b ∧ k = 2) ∨ (c.1 = 29 ∧ c.2.1 = b ∧ k = 3) ∨ (c.1 = 25 ∧ c.2.1 = b ∧ c.2.2 = 0) ∨ (c.1 = 25 ∧ c.2.1 = b ∧ c.2.2 = 1) ∨ False
theorem lf_c_X0_chooseSpots_0  (v6_80 : Int32) (hv0_80 : 1 ≤ v6_80.toInt) (hv1_80 : v6_80.toInt ≤ 256) (h15_ : v6_80.toInt < 256) : -2147483648 ≤ v6_80.toInt + 1 ∧ v6_80.toInt + 1 < 2147483648 := by have r_v6_80 := rngI v6_80; omega
theorem lf_c_X0_chooseSpots_1  (v6_80 : Int32) (z22_ : Int32) (hv0_80 : 1 ≤ v6_80.toInt) (hv1_80 : v6_80.toInt ≤ 256) (h15_ : v6_80.toInt < 256) (h23_ : z22_.toInt = v6_80.toInt + 1) : 1 ≤ z22_.toInt := by have r_v6_80 := rngI v6_80; have r_z22_ := rngI z22_; omega
theorem lf_c_X0_chooseSpots_2  (v6_80 : Int32) (z22_ : Int32) (hv0_80 : 1 ≤ v6_80.toInt) (hv1_80 : v6_80.toInt ≤ 256) (h15_ : v6_80.toInt < 256) (h23_ : z22_.toInt = v6_80.toInt + 1) : z22_.toInt ≤ 256 := by have r_v6_80 := rngI v6_80; have r_z22_ := rngI z22_; omega
theorem lf_c_X0_chooseSpots_3  (v6_80 : Int32) (z22_ : Int32) (hv0_80 : 1 ≤ v6_80.toInt) (hv1_80 : v6_80.toInt ≤ 256) (h15_ : v6_80.toInt < 256) (h23_ : z22_.toInt = v6_80.toInt + 1) : (2147483648 - z22_.toInt).toNat < (2147483648 - v6_80.toInt).toNat := by have r_v6_80 := rngI v6_80; have r_z22_ := rngI z22_; omega
theorem lf_c_X0_chooseSpots_4  (v6_80 : Int32) (hv0_80 : 1 ≤ v6_80.toInt) (hv1_80 : v6_80.toInt ≤ 256) (h15_ : v6_80.toInt < 256) : -2147483648 ≤ v6_80.toInt + 1 ∧ v6_80.toInt + 1 < 2147483648 := by have r_v6_80 := rngI v6_80; omega
theorem lf_c_X0_chooseSpots_5  (v6_80 : Int32) (z29_ : Int32) (hv0_80 : 1 ≤ v6_80.toInt) (hv1_80 : v6_80.toInt ≤ 256) (h15_ : v6_80.toInt < 256) (h30_ : z29_.toInt = v6_80.toInt + 1) : 1 ≤ z29_.toInt := by have r_v6_80 := rngI v6_80; have r_z29_ := rngI z29_; omega
theorem lf_c_X0_chooseSpots_6  (v6_80 : Int32) (z29_ : Int32) (hv0_80 : 1 ≤ v6_80.toInt) (hv1_80 : v6_80.toInt ≤ 256) (h15_ : v6_80.toInt < 256) (h30_ : z29_.toInt = v6_80.toInt + 1) : z29_.toInt ≤ 256 := by have r_v6_80 := rngI v6_80; have r_z29_ := rngI z29_; omega
theorem lf_c_X0_chooseSpots_7  (v6_80 : Int32) (z29_ : Int32) (hv0_80 : 1 ≤ v6_80.toInt) (hv1_80 : v6_80.toInt ≤ 256) (h15_ : v6_80.toInt < 256) (h30_ : z29_.toInt = v6_80.toInt + 1) : (2147483648 - z29_.toInt).toNat < (2147483648 - v6_80.toInt).toNat := by have r_v6_80 := rngI v6_80; have r_z29_ := rngI z29_; omega
theorem lf_c_X0_chooseSpots_8  (v6_80 : Int32) (hv0_80 : 1 ≤ v6_80.toInt) (hv1_80 : v6_80.toInt ≤ 256) (h15_ : v6_80.toInt < 256) : -2147483648 ≤ v6_80.toInt + 1 ∧ v6_80.toInt + 1 < 2147483648 := by have r_v6_80 := rngI v6_80; omega
theorem lf_c_X0_chooseSpots_9  (v6_80 : Int32) (z38_ : Int32) (hv0_80 : 1 ≤ v6_80.toInt) (hv1_80 : v6_80.toInt ≤ 256) (h15_ : v6_80.toInt < 256) (h39_ : z38_.toInt = v6_80.toInt + 1) : 1 ≤ z38_.toInt := by have r_v6_80 := rngI v6_80; have r_z38_ := rngI z38_; omega
theorem lf_c_X0_chooseSpots_10  (v6_80 : Int32) (z38_ : Int32) (hv0_80 : 1 ≤ v6_80.toInt) (hv1_80 : v6_80.toInt ≤ 256) (h15_ : v6_80.toInt < 256) (h39_ : z38_.toInt = v6_80.toInt + 1) : z38_.toInt ≤ 256 := by have r_v6_80 := rngI v6_80; have r_z38_ := rngI z38_; omega
theorem lf_c_X0_chooseSpots_11  (v6_80 : Int32) (z38_ : Int32) (hv0_80 : 1 ≤ v6_80.toInt) (hv1_80 : v6_80.toInt ≤ 256) (h15_ : v6_80.toInt < 256) (h39_ : z38_.toInt = v6_80.toInt + 1) : (2147483648 - z38_.toInt).toNat < (2147483648 - v6_80.toInt).toNat := by have r_v6_80 := rngI v6_80; have r_z38_ := rngI z38_; omega
theorem lf_c_X0_chooseSpots_12 (M40_ : mM) (M44_ : mM) (v6_80 : Int32) (hv0_80 : 1 ≤ v6_80.toInt) (hv1_80 : v6_80.toInt ≤ 256) (h15_ : v6_80.toInt < 256) (hM45_ : M44_ = up M40_ (0, 0, 0) 5 v6_80) : -2147483648 ≤ v6_80.toInt + 1 ∧ v6_80.toInt + 1 < 2147483648 := by have r_v6_80 := rngI v6_80; omega
theorem lf_c_X0_chooseSpots_13 (M40_ : mM) (M44_ : mM) (v6_80 : Int32) (z48_ : Int32) (hv0_80 : 1 ≤ v6_80.toInt) (hv1_80 : v6_80.toInt ≤ 256) (h15_ : v6_80.toInt < 256) (hM45_ : M44_ = up M40_ (0, 0, 0) 5 v6_80) (h49_ : z48_.toInt = v6_80.toInt + 1) : 1 ≤ z48_.toInt := by have r_v6_80 := rngI v6_80; have r_z48_ := rngI z48_; omega
theorem lf_c_X0_chooseSpots_14 (M40_ : mM) (M44_ : mM) (v6_80 : Int32) (z48_ : Int32) (hv0_80 : 1 ≤ v6_80.toInt) (hv1_80 : v6_80.toInt ≤ 256) (h15_ : v6_80.toInt < 256) (hM45_ : M44_ = up M40_ (0, 0, 0) 5 v6_80) (h49_ : z48_.toInt = v6_80.toInt + 1) : z48_.toInt ≤ 256 := by have r_v6_80 := rngI v6_80; have r_z48_ := rngI z48_; omega
theorem lf_c_X0_chooseSpots_15 (M40_ : mM) (M44_ : mM) (v6_80 : Int32) (z48_ : Int32) (hv0_80 : 1 ≤ v6_80.toInt) (hv1_80 : v6_80.toInt ≤ 256) (h15_ : v6_80.toInt < 256) (hM45_ : M44_ = up M40_ (0, 0, 0) 5 v6_80) (h49_ : z48_.toInt = v6_80.toInt + 1) : (2147483648 - z48_.toInt).toNat < (2147483648 - v6_80.toInt).toNat := by have r_v6_80 := rngI v6_80; have r_z48_ := rngI z48_; omega
theorem lf_c_X0_chooseSpots_16    : 1 ≤ (1 : Int32).toInt := by have q0 := li_1; omega
theorem lf_c_X0_chooseSpots_17    : (1 : Int32).toInt ≤ 256 := by have q0 := li_1; omega
theorem lf_c_X0_chooseSpots_18  (v6_80 : Int32) (hv0_80 : 1 ≤ v6_80.toInt) (hv1_80 : v6_80.toInt ≤ 256) (h60_ : v6_80.toInt < 256) : -2147483648 ≤ v6_80.toInt + 1 ∧ v6_80.toInt + 1 < 2147483648 := by have r_v6_80 := rngI v6_80; omega
theorem lf_c_X0_chooseSpots_19  (v6_80 : Int32) (z67_ : Int32) (hv0_80 : 1 ≤ v6_80.toInt) (hv1_80 : v6_80.toInt ≤ 256) (h60_ : v6_80.toInt < 256) (h68_ : z67_.toInt = v6_80.toInt + 1) : 1 ≤ z67_.toInt := by have r_v6_80 := rngI v6_80; have r_z67_ := rngI z67_; omega
theorem lf_c_X0_chooseSpots_20  (v6_80 : Int32) (z67_ : Int32) (hv0_80 : 1 ≤ v6_80.toInt) (hv1_80 : v6_80.toInt ≤ 256) (h60_ : v6_80.toInt < 256) (h68_ : z67_.toInt = v6_80.toInt + 1) : z67_.toInt ≤ 256 := by have r_v6_80 := rngI v6_80; have r_z67_ := rngI z67_; omega
theorem lf_c_X0_chooseSpots_21  (v6_80 : Int32) (z67_ : Int32) (hv0_80 : 1 ≤ v6_80.toInt) (hv1_80 : v6_80.toInt ≤ 256) (h60_ : v6_80.toInt < 256) (h68_ : z67_.toInt = v6_80.toInt + 1) : (2147483648 - z67_.toInt).toNat < (2147483648 - v6_80.toInt).toNat := by have r_v6_80 := rngI v6_80; have r_z67_ := rngI z67_; omega
theorem lf_c_X0_chooseSpots_22  (v6_80 : Int32) (hv0_80 : 1 ≤ v6_80.toInt) (hv1_80 : v6_80.toInt ≤ 256) (h60_ : v6_80.toInt < 256) : -2147483648 ≤ v6_80.toInt + 1 ∧ v6_80.toInt + 1 < 2147483648 := by have r_v6_80 := rngI v6_80; omega
theorem lf_c_X0_chooseSpots_23  (v6_80 : Int32) (z74_ : Int32) (hv0_80 : 1 ≤ v6_80.toInt) (hv1_80 : v6_80.toInt ≤ 256) (h60_ : v6_80.toInt < 256) (h75_ : z74_.toInt = v6_80.toInt + 1) : 1 ≤ z74_.toInt := by have r_v6_80 := rngI v6_80; have r_z74_ := rngI z74_; omega
theorem lf_c_X0_chooseSpots_24  (v6_80 : Int32) (z74_ : Int32) (hv0_80 : 1 ≤ v6_80.toInt) (hv1_80 : v6_80.toInt ≤ 256) (h60_ : v6_80.toInt < 256) (h75_ : z74_.toInt = v6_80.toInt + 1) : z74_.toInt ≤ 256 := by have r_v6_80 := rngI v6_80; have r_z74_ := rngI z74_; omega
theorem lf_c_X0_chooseSpots_25  (v6_80 : Int32) (z74_ : Int32) (hv0_80 : 1 ≤ v6_80.toInt) (hv1_80 : v6_80.toInt ≤ 256) (h60_ : v6_80.toInt < 256) (h75_ : z74_.toInt = v6_80.toInt + 1) : (2147483648 - z74_.toInt).toNat < (2147483648 - v6_80.toInt).toNat := by have r_v6_80 := rngI v6_80; have r_z74_ := rngI z74_; omega
theorem lf_c_X0_chooseSpots_26  (v6_80 : Int32) (hv0_80 : 1 ≤ v6_80.toInt) (hv1_80 : v6_80.toInt ≤ 256) (h60_ : v6_80.toInt < 256) : -2147483648 ≤ v6_80.toInt + 1 ∧ v6_80.toInt + 1 < 2147483648 := by have r_v6_80 := rngI v6_80; omega
theorem lf_c_X0_chooseSpots_27  (v6_80 : Int32) (z83_ : Int32) (hv0_80 : 1 ≤ v6_80.toInt) (hv1_80 : v6_80.toInt ≤ 256) (h60_ : v6_80.toInt < 256) (h84_ : z83_.toInt = v6_80.toInt + 1) : 1 ≤ z83_.toInt := by have r_v6_80 := rngI v6_80; have r_z83_ := rngI z83_; omega
theorem lf_c_X0_chooseSpots_28  (v6_80 : Int32) (z83_ : Int32) (hv0_80 : 1 ≤ v6_80.toInt) (hv1_80 : v6_80.toInt ≤ 256) (h60_ : v6_80.toInt < 256) (h84_ : z83_.toInt = v6_80.toInt + 1) : z83_.toInt ≤ 256 := by have r_v6_80 := rngI v6_80; have r_z83_ := rngI z83_; omega
theorem lf_c_X0_chooseSpots_29  (v6_80 : Int32) (z83_ : Int32) (hv0_80 : 1 ≤ v6_80.toInt) (hv1_80 : v6_80.toInt ≤ 256) (h60_ : v6_80.toInt < 256) (h84_ : z83_.toInt = v6_80.toInt + 1) : (2147483648 - z83_.toInt).toNat < (2147483648 - v6_80.toInt).toNat := by have r_v6_80 := rngI v6_80; have r_z83_ := rngI z83_; omega
theorem lf_c_X0_chooseSpots_30 (M85_ : mM) (M89_ : mM) (v6_80 : Int32) (hv0_80 : 1 ≤ v6_80.toInt) (hv1_80 : v6_80.toInt ≤ 256) (h60_ : v6_80.toInt < 256) (hM90_ : M89_ = up M85_ (0, 0, 0) 5 v6_80) : -2147483648 ≤ v6_80.toInt + 1 ∧ v6_80.toInt + 1 < 2147483648 := by have r_v6_80 := rngI v6_80; omega
theorem lf_c_X0_chooseSpots_31 (M85_ : mM) (M89_ : mM) (v6_80 : Int32) (z93_ : Int32) (hv0_80 : 1 ≤ v6_80.toInt) (hv1_80 : v6_80.toInt ≤ 256) (h60_ : v6_80.toInt < 256) (hM90_ : M89_ = up M85_ (0, 0, 0) 5 v6_80) (h94_ : z93_.toInt = v6_80.toInt + 1) : 1 ≤ z93_.toInt := by have r_v6_80 := rngI v6_80; have r_z93_ := rngI z93_; omega
theorem lf_c_X0_chooseSpots_32 (M85_ : mM) (M89_ : mM) (v6_80 : Int32) (z93_ : Int32) (hv0_80 : 1 ≤ v6_80.toInt) (hv1_80 : v6_80.toInt ≤ 256) (h60_ : v6_80.toInt < 256) (hM90_ : M89_ = up M85_ (0, 0, 0) 5 v6_80) (h94_ : z93_.toInt = v6_80.toInt + 1) : z93_.toInt ≤ 256 := by have r_v6_80 := rngI v6_80; have r_z93_ := rngI z93_; omega
theorem lf_c_X0_chooseSpots_33 (M85_ : mM) (M89_ : mM) (v6_80 : Int32) (z93_ : Int32) (hv0_80 : 1 ≤ v6_80.toInt) (hv1_80 : v6_80.toInt ≤ 256) (h60_ : v6_80.toInt < 256) (hM90_ : M89_ = up M85_ (0, 0, 0) 5 v6_80) (h94_ : z93_.toInt = v6_80.toInt + 1) : (2147483648 - z93_.toInt).toNat < (2147483648 - v6_80.toInt).toNat := by have r_v6_80 := rngI v6_80; have r_z93_ := rngI z93_; omega
theorem lf_c_X0_chooseSpots_34    : 1 ≤ (1 : Int32).toInt := by have q0 := li_1; omega
theorem lf_c_X0_chooseSpots_35    : (1 : Int32).toInt ≤ 256 := by have q0 := li_1; omega
theorem lf_c_X0_chooseSpots_36 (M_6 : mM) (w : Nat) (v6_6 : Int32) (z2_ : Int32) (hw : w < 4) (hv0_6 : 0 ≤ v6_6.toInt) (e3_ : z2_ = M_6.1 (6, 0, w) 1) (h4_ : 0 ≤ z2_.toInt ∧ z2_.toInt ≤ 24) (h5_ : v6_6.toInt < z2_.toInt) (h50_ : v6_6.toInt < 8) : -2147483648 ≤ v6_6.toInt + 1 ∧ v6_6.toInt + 1 < 2147483648 := by have r_v6_6 := rngI v6_6; have r_z2_ := rngI z2_; subst e3_; omega
theorem lf_c_X0_chooseSpots_37 (M_6 : mM) (w : Nat) (v6_6 : Int32) (z2_ : Int32) (z116_ : Int32) (hw : w < 4) (hv0_6 : 0 ≤ v6_6.toInt) (e3_ : z2_ = M_6.1 (6, 0, w) 1) (h4_ : 0 ≤ z2_.toInt ∧ z2_.toInt ≤ 24) (h5_ : v6_6.toInt < z2_.toInt) (h50_ : v6_6.toInt < 8) (h117_ : z116_.toInt = v6_6.toInt + 1) : 0 ≤ z116_.toInt := by have r_v6_6 := rngI v6_6; have r_z2_ := rngI z2_; have r_z116_ := rngI z116_; omega
theorem lf_c_X0_chooseSpots_38 (M_6 : mM) (w : Nat) (v6_6 : Int32) (z2_ : Int32) (z116_ : Int32) (hw : w < 4) (hv0_6 : 0 ≤ v6_6.toInt) (e3_ : z2_ = M_6.1 (6, 0, w) 1) (h4_ : 0 ≤ z2_.toInt ∧ z2_.toInt ≤ 24) (h5_ : v6_6.toInt < z2_.toInt) (h50_ : v6_6.toInt < 8) (h117_ : z116_.toInt = v6_6.toInt + 1) : (2147483648 - z116_.toInt).toNat < (2147483648 - v6_6.toInt).toNat := by have r_v6_6 := rngI v6_6; have r_z2_ := rngI z2_; have r_z116_ := rngI z116_; omega
theorem lf_c_X0_chooseSpots_39 (M_6 : mM) (w : Nat) (v6_6 : Int32) (z2_ : Int32) (hw : w < 4) (hv0_6 : 0 ≤ v6_6.toInt) (e3_ : z2_ = M_6.1 (6, 0, w) 1) (h4_ : 0 ≤ z2_.toInt ∧ z2_.toInt ≤ 24) (h5_ : v6_6.toInt < z2_.toInt) (h50_ : v6_6.toInt < 8) : -2147483648 ≤ v6_6.toInt + 1 ∧ v6_6.toInt + 1 < 2147483648 := by have r_v6_6 := rngI v6_6; have r_z2_ := rngI z2_; subst e3_; omega
theorem lf_c_X0_chooseSpots_40 (M_6 : mM) (w : Nat) (v6_6 : Int32) (z2_ : Int32) (z119_ : Int32) (hw : w < 4) (hv0_6 : 0 ≤ v6_6.toInt) (e3_ : z2_ = M_6.1 (6, 0, w) 1) (h4_ : 0 ≤ z2_.toInt ∧ z2_.toInt ≤ 24) (h5_ : v6_6.toInt < z2_.toInt) (h50_ : v6_6.toInt < 8) (h120_ : z119_.toInt = v6_6.toInt + 1) : 0 ≤ z119_.toInt := by have r_v6_6 := rngI v6_6; have r_z2_ := rngI z2_; have r_z119_ := rngI z119_; omega
theorem lf_c_X0_chooseSpots_41 (M_6 : mM) (w : Nat) (v6_6 : Int32) (z2_ : Int32) (z119_ : Int32) (hw : w < 4) (hv0_6 : 0 ≤ v6_6.toInt) (e3_ : z2_ = M_6.1 (6, 0, w) 1) (h4_ : 0 ≤ z2_.toInt ∧ z2_.toInt ≤ 24) (h5_ : v6_6.toInt < z2_.toInt) (h50_ : v6_6.toInt < 8) (h120_ : z119_.toInt = v6_6.toInt + 1) : (2147483648 - z119_.toInt).toNat < (2147483648 - v6_6.toInt).toNat := by have r_v6_6 := rngI v6_6; have r_z2_ := rngI z2_; have r_z119_ := rngI z119_; omega
theorem lf_c_X0_chooseSpots_42    : 0 ≤ (0 : Int32).toInt := by have q0 := li_0; omega
set_option maxHeartbeats 4000000 in
set_option maxRecDepth 100000 in
theorem c_X0_chooseSpots (l : Launch) (G : va_G) (cy : Nat → ClassId) (ad : rf → Nat) (d : Nat) (b : Nat) (w : Nat) (v : Int32) (u : Int32) (Mz : mM) (hIz : Inv Mz) (hb : b < 3) (hw : w < 4) : WP CC l G cy ad yX0_chooseSpots cX0_chooseSpots 8 (some .boolean) (d + 5) 0 [(0, vR (0, 0, 0)), (1, vR (10, b, 0)), (2, vI v), (3, vR (6, 0, w)), (4, vI u)] [] Mz (fun r M' => Inv M' ∧ FR (S_c_X0_chooseSpots b w) Mz M' ∧ (0 ≤ r.toInt ∧ r.toInt ≤ 1)) := by
  have hFz : FR (S_c_X0_chooseSpots b w) Mz Mz := FR.self
  refine w_iconst (v := 0) dX0_chooseSpots_0 (by decide) ?_
  refine w_istore (ls' := [(5, vI 0), (0, vR (0, 0, 0)), (1, vR (10, b, 0)), (2, vI v), (3, vR (6, 0, w)), (4, vI u)]) dX0_chooseSpots_1 (by decide) rfl ?_
  refine w_iconst (v := 0) dX0_chooseSpots_3 (by decide) ?_
  refine w_istore (ls' := [(6, vI 0), (5, vI 0), (0, vR (0, 0, 0)), (1, vR (10, b, 0)), (2, vI v), (3, vR (6, 0, w)), (4, vI u)]) dX0_chooseSpots_4 (by decide) rfl ?_
  have lp1_ : ∀ (nn_6 : Nat) (M_6 : mM) (hI_6 : Inv M_6) (hF_6 : FR (S_c_X0_chooseSpots b w) Mz M_6) (v6_6 : Int32) (v5_6 : Int32) (hv0_6 : 0 ≤ v6_6.toInt), (2147483648 - v6_6.toInt).toNat < nn_6 → WP CC l G cy ad yX0_chooseSpots cX0_chooseSpots 8 (some .boolean) (d + 5) 6 [(6, vI v6_6), (5, vI v5_6), (0, vR (0, 0, 0)), (1, vR (10, b, 0)), (2, vI v), (3, vR (6, 0, w)), (4, vI u)] [] M_6 (fun r M' => Inv M' ∧ FR (S_c_X0_chooseSpots b w) Mz M' ∧ (0 ≤ r.toInt ∧ r.toInt ≤ 1)) := by
    intro nn_6
    induction nn_6 with
    | zero => intro M_6 hI_6 hF_6 v6_6 v5_6 hv0_6 hm_6; exact absurd hm_6 (Nat.not_lt_zero _)
    | succ nn_6 ih_6 =>
      intro M_6 hI_6 hF_6 v6_6 v5_6 hv0_6 hm_6
      refine w_iload dX0_chooseSpots_6 0 rfl ?_
      refine w_aload_n dX0_chooseSpots_8 rfl 5 rfl ?_
      refine w_getI fl_RX0_65 rfl rfl (ic_6 hw) dX0_chooseSpots_9 (fun z2_ e3_ => ?_)
      have h4_ : 0 ≤ z2_.toInt ∧ z2_.toInt ≤ 24 := ofEq (P := fun v => 0 ≤ v.toInt ∧ v.toInt ≤ 24) e3_ (hI_6 (6, 0, w) 1 rfl)
      refine w_icmp_ge (tgt := 67) dX0_chooseSpots_12 (by decide) (rfl : v6_6.toInt = v6_6.toInt) (rfl : z2_.toInt = z2_.toInt) (fun h5_ => ?_) (fun h5_ => ?_)
      · refine w_aload_n dX0_chooseSpots_67 rfl 2 rfl ?_
        refine w_iconst (v := (-1)) dX0_chooseSpots_68 (by decide) ?_
        refine w_putI CC_nd fl_RX0_26 rfl rfl ic_0 dX0_chooseSpots_69 (fun M6_ hM7_ => ?_)
        have hI8_ := hI_6.put hM7_ trivial
        have hF9_ := hF_6.put hM7_ (Or.inl ⟨rfl, rfl, rfl⟩)
        refine w_aload_n dX0_chooseSpots_72 rfl 2 rfl ?_
        refine w_iconst (v := 0) dX0_chooseSpots_73 (by decide) ?_
        refine w_putI CC_nd fl_RX0_30 rfl rfl ic_0 dX0_chooseSpots_74 (fun M10_ hM11_ => ?_)
        have hI12_ := hI8_.put hM11_ trivial
        have hF13_ := hF9_.put hM11_ (Or.inr (Or.inl ⟨rfl, rfl, rfl⟩))
        refine w_iconst (v := 1) dX0_chooseSpots_77 (by decide) ?_
        refine w_istore (ls' := [(6, vI 1), (5, vI v5_6), (0, vR (0, 0, 0)), (1, vR (10, b, 0)), (2, vI v), (3, vR (6, 0, w)), (4, vI u)]) dX0_chooseSpots_78 (by decide) rfl ?_
        have lp14_ : ∀ (nn_80 : Nat) (M_80 : mM) (hI_80 : Inv M_80) (hF_80 : FR (S_c_X0_chooseSpots b w) Mz M_80) (v6_80 : Int32) (hv0_80 : 1 ≤ v6_80.toInt) (hv1_80 : v6_80.toInt ≤ 256), (2147483648 - v6_80.toInt).toNat < nn_80 → WP CC l G cy ad yX0_chooseSpots cX0_chooseSpots 8 (some .boolean) (d + 5) 80 [(6, vI v6_80), (5, vI v5_6), (0, vR (0, 0, 0)), (1, vR (10, b, 0)), (2, vI v), (3, vR (6, 0, w)), (4, vI u)] [] M_80 (fun r M' => Inv M' ∧ FR (S_c_X0_chooseSpots b w) Mz M' ∧ (0 ≤ r.toInt ∧ r.toInt ≤ 1)) := by
          intro nn_80
          induction nn_80 with
          | zero => intro M_80 hI_80 hF_80 v6_80 hv0_80 hv1_80 hm_80; exact absurd hm_80 (Nat.not_lt_zero _)
          | succ nn_80 ih_80 =>
            intro M_80 hI_80 hF_80 v6_80 hv0_80 hv1_80 hm_80
            refine w_iload dX0_chooseSpots_80 0 rfl ?_
            refine w_sipush (v := 256) dX0_chooseSpots_82 (by decide) ?_
            refine w_icmp_ge (tgt := 143) dX0_chooseSpots_85 (by decide) (rfl : v6_80.toInt = v6_80.toInt) li_256 (fun h15_ => ?_) (fun h15_ => ?_)
            · refine w_aload_n dX0_chooseSpots_143 rfl 2 rfl ?_
              refine w_getI fl_RX0_26 rfl rfl ic_0 dX0_chooseSpots_144 (fun z16_ e17_ => ?_)
              refine w_if_lt (tgt := 154) dX0_chooseSpots_147 (by decide) (rfl : z16_.toInt = z16_.toInt) (fun h18_ => ?_) (fun h18_ => ?_)
              · refine w_iconst (v := 0) dX0_chooseSpots_154 (by decide) ?_
                exact w_zret rfl dX0_chooseSpots_155 ⟨by decide, by decide⟩ ⟨hI_80, hF_80, ⟨by decide, by decide⟩⟩
              · refine w_iconst (v := 1) dX0_chooseSpots_150 (by decide) ?_
                refine w_goto (tgt := 155) dX0_chooseSpots_151 (by decide) ?_
                exact w_zret rfl dX0_chooseSpots_155 ⟨by decide, by decide⟩ ⟨hI_80, hF_80, ⟨by decide, by decide⟩⟩
            · refine w_iload dX0_chooseSpots_88 0 rfl ?_
              refine w_iload dX0_chooseSpots_90 1 rfl ?_
              refine w_iconst (v := (-1)) dX0_chooseSpots_92 (by decide) ?_
              refine w_ixor dX0_chooseSpots_93 (fun z19_ _ => ?_)
              refine w_iand dX0_chooseSpots_94 (fun z20_ _ => ?_)
              refine w_if_ne (tgt := 137) dX0_chooseSpots_95 (by decide) (rfl : z20_.toInt = z20_.toInt) (fun h21_ => ?_) (fun h21_ => ?_)
              · refine w_iincB (j := 0) (f := fun z22_ => [(6, vI z22_), (5, vI v5_6), (0, vR (0, 0, 0)), (1, vR (10, b, 0)), (2, vI v), (3, vR (6, 0, w)), (4, vI u)]) dX0_chooseSpots_137 rfl (by decide) (fun _ => rfl) (rfl : v6_80.toInt = v6_80.toInt) li_1 (lf_c_X0_chooseSpots_0 v6_80 hv0_80 hv1_80 h15_) (fun z22_ h23_ => ?_)
                refine w_goto (tgt := 80) dX0_chooseSpots_140 (by decide) ?_
                refine w_loc (ls' := [(6, vI z22_), (5, vI v5_6), (0, vR (0, 0, 0)), (1, vR (10, b, 0)), (2, vI v), (3, vR (6, 0, w)), (4, vI u)]) [0, 1, 2, 3, 4, 5, 6] rfl ?_
                exact ih_80 M_80 hI_80 hF_80 z22_ (lf_c_X0_chooseSpots_1 v6_80 z22_ hv0_80 hv1_80 h15_ h23_) (lf_c_X0_chooseSpots_2 v6_80 z22_ hv0_80 hv1_80 h15_ h23_) (Nat.lt_of_lt_of_le (lf_c_X0_chooseSpots_3 v6_80 z22_ hv0_80 hv1_80 h15_ h23_) (Nat.le_of_lt_succ hm_80))
              · refine w_iload dX0_chooseSpots_98 0 rfl ?_
                refine w_callS (as := [vI v6_80]) (rest := []) (c_JI_bitCount l G cy ad (d + 4) v6_80 M_80 hI_80) kS_JI_bitCount (by decide +kernel) (Nat.le_of_ble_eq_true rfl) m_1005 rfl rfl (by decide) (Nat.le_of_ble_eq_true rfl) dX0_chooseSpots_100 (fun r24_ M25_ q26_ => ?_)
                obtain ⟨rfl, h27_⟩ := q26_
                refine w_iload dX0_chooseSpots_103 6 rfl ?_
                refine w_icmp_ne (tgt := 137) dX0_chooseSpots_105 (by decide) (rfl : r24_.toInt = r24_.toInt) (rfl : u.toInt = u.toInt) (fun h28_ => ?_) (fun h28_ => ?_)
                · refine w_iincB (j := 0) (f := fun z29_ => [(6, vI z29_), (5, vI v5_6), (0, vR (0, 0, 0)), (1, vR (10, b, 0)), (2, vI v), (3, vR (6, 0, w)), (4, vI u)]) dX0_chooseSpots_137 rfl (by decide) (fun _ => rfl) (rfl : v6_80.toInt = v6_80.toInt) li_1 (lf_c_X0_chooseSpots_4 v6_80 hv0_80 hv1_80 h15_) (fun z29_ h30_ => ?_)
                  refine w_goto (tgt := 80) dX0_chooseSpots_140 (by decide) ?_
                  refine w_loc (ls' := [(6, vI z29_), (5, vI v5_6), (0, vR (0, 0, 0)), (1, vR (10, b, 0)), (2, vI v), (3, vR (6, 0, w)), (4, vI u)]) [0, 1, 2, 3, 4, 5, 6] rfl ?_
                  exact ih_80 M_80 hI_80 hF_80 z29_ (lf_c_X0_chooseSpots_5 v6_80 z29_ hv0_80 hv1_80 h15_ h30_) (lf_c_X0_chooseSpots_6 v6_80 z29_ hv0_80 hv1_80 h15_ h30_) (Nat.lt_of_lt_of_le (lf_c_X0_chooseSpots_7 v6_80 z29_ hv0_80 hv1_80 h15_ h30_) (Nat.le_of_lt_succ hm_80))
                · refine w_aload_n dX0_chooseSpots_108 rfl 2 rfl ?_
                  refine w_iload dX0_chooseSpots_109 0 rfl ?_
                  refine w_callV (as := [vI v6_80]) (rest := []) (c_X0_countLearned l G cy ad (d + 3) v6_80 M_80 hI_80) kV_X0_countLearned (by decide +kernel) (Nat.le_of_ble_eq_true rfl) m_1011 rfl rfl rfl ic_0 rfl rfl (by decide) (Nat.le_of_ble_eq_true rfl) dX0_chooseSpots_111 (fun r31_ M32_ q33_ => ?_)
                  obtain ⟨rfl, h34_⟩ := q33_
                  refine w_istore (ls' := [(7, vI r31_), (6, vI v6_80), (5, vI v5_6), (0, vR (0, 0, 0)), (1, vR (10, b, 0)), (2, vI v), (3, vR (6, 0, w)), (4, vI u)]) dX0_chooseSpots_114 (by decide) rfl ?_
                  refine w_iload dX0_chooseSpots_116 0 rfl ?_
                  refine w_aload_n dX0_chooseSpots_118 rfl 3 rfl ?_
                  refine w_getI fl_RX0_26 rfl rfl ic_0 dX0_chooseSpots_119 (fun z35_ e36_ => ?_)
                  refine w_icmp_le (tgt := 137) dX0_chooseSpots_122 (by decide) (rfl : r31_.toInt = r31_.toInt) (rfl : z35_.toInt = z35_.toInt) (fun h37_ => ?_) (fun h37_ => ?_)
                  · refine w_iincB (j := 1) (f := fun z38_ => [(6, vI z38_), (7, vI r31_), (5, vI v5_6), (0, vR (0, 0, 0)), (1, vR (10, b, 0)), (2, vI v), (3, vR (6, 0, w)), (4, vI u)]) dX0_chooseSpots_137 rfl (by decide) (fun _ => rfl) (rfl : v6_80.toInt = v6_80.toInt) li_1 (lf_c_X0_chooseSpots_8 v6_80 hv0_80 hv1_80 h15_) (fun z38_ h39_ => ?_)
                    refine w_goto (tgt := 80) dX0_chooseSpots_140 (by decide) ?_
                    refine w_loc (ls' := [(6, vI z38_), (5, vI v5_6), (0, vR (0, 0, 0)), (1, vR (10, b, 0)), (2, vI v), (3, vR (6, 0, w)), (4, vI u)]) [0, 2, 3, 4, 5, 6, 7] rfl ?_
                    exact ih_80 M_80 hI_80 hF_80 z38_ (lf_c_X0_chooseSpots_9 v6_80 z38_ hv0_80 hv1_80 h15_ h39_) (lf_c_X0_chooseSpots_10 v6_80 z38_ hv0_80 hv1_80 h15_ h39_) (Nat.lt_of_lt_of_le (lf_c_X0_chooseSpots_11 v6_80 z38_ hv0_80 hv1_80 h15_ h39_) (Nat.le_of_lt_succ hm_80))
                  · refine w_aload_n dX0_chooseSpots_125 rfl 3 rfl ?_
                    refine w_iload dX0_chooseSpots_126 0 rfl ?_
                    refine w_putI CC_nd fl_RX0_26 rfl rfl ic_0 dX0_chooseSpots_128 (fun M40_ hM41_ => ?_)
                    have hI42_ := hI_80.put hM41_ trivial
                    have hF43_ := hF_80.put hM41_ (Or.inl ⟨rfl, rfl, rfl⟩)
                    refine w_aload_n dX0_chooseSpots_131 rfl 3 rfl ?_
                    refine w_iload dX0_chooseSpots_132 1 rfl ?_
                    refine w_putI CC_nd fl_RX0_30 rfl rfl ic_0 dX0_chooseSpots_134 (fun M44_ hM45_ => ?_)
                    have hI46_ := hI42_.put hM45_ trivial
                    have hF47_ := hF43_.put hM45_ (Or.inr (Or.inl ⟨rfl, rfl, rfl⟩))
                    refine w_iincB (j := 1) (f := fun z48_ => [(6, vI z48_), (7, vI r31_), (5, vI v5_6), (0, vR (0, 0, 0)), (1, vR (10, b, 0)), (2, vI v), (3, vR (6, 0, w)), (4, vI u)]) dX0_chooseSpots_137 rfl (by decide) (fun _ => rfl) (rfl : v6_80.toInt = v6_80.toInt) li_1 (lf_c_X0_chooseSpots_12 M40_ M44_ v6_80 hv0_80 hv1_80 h15_ hM45_) (fun z48_ h49_ => ?_)
                    refine w_goto (tgt := 80) dX0_chooseSpots_140 (by decide) ?_
                    refine w_loc (ls' := [(6, vI z48_), (5, vI v5_6), (0, vR (0, 0, 0)), (1, vR (10, b, 0)), (2, vI v), (3, vR (6, 0, w)), (4, vI u)]) [0, 2, 3, 4, 5, 6, 7] rfl ?_
                    exact ih_80 M44_ hI46_ hF47_ z48_ (lf_c_X0_chooseSpots_13 M40_ M44_ v6_80 z48_ hv0_80 hv1_80 h15_ hM45_ h49_) (lf_c_X0_chooseSpots_14 M40_ M44_ v6_80 z48_ hv0_80 hv1_80 h15_ hM45_ h49_) (Nat.lt_of_lt_of_le (lf_c_X0_chooseSpots_15 M40_ M44_ v6_80 z48_ hv0_80 hv1_80 h15_ hM45_ h49_) (Nat.le_of_lt_succ hm_80))
        exact lp14_ _ M10_ hI12_ hF13_ 1 (lf_c_X0_chooseSpots_16 ) (lf_c_X0_chooseSpots_17 ) (Nat.lt_succ_self _)
      · refine w_iload dX0_chooseSpots_15 0 rfl ?_
        refine w_bipush (v := 8) dX0_chooseSpots_17 (by decide) ?_
        refine w_icmp_ge (tgt := 67) dX0_chooseSpots_19 (by decide) (rfl : v6_6.toInt = v6_6.toInt) li_8 (fun h50_ => ?_) (fun h50_ => ?_)
        · refine w_aload_n dX0_chooseSpots_67 rfl 2 rfl ?_
          refine w_iconst (v := (-1)) dX0_chooseSpots_68 (by decide) ?_
          refine w_putI CC_nd fl_RX0_26 rfl rfl ic_0 dX0_chooseSpots_69 (fun M51_ hM52_ => ?_)
          have hI53_ := hI_6.put hM52_ trivial
          have hF54_ := hF_6.put hM52_ (Or.inl ⟨rfl, rfl, rfl⟩)
          refine w_aload_n dX0_chooseSpots_72 rfl 2 rfl ?_
          refine w_iconst (v := 0) dX0_chooseSpots_73 (by decide) ?_
          refine w_putI CC_nd fl_RX0_30 rfl rfl ic_0 dX0_chooseSpots_74 (fun M55_ hM56_ => ?_)
          have hI57_ := hI53_.put hM56_ trivial
          have hF58_ := hF54_.put hM56_ (Or.inr (Or.inl ⟨rfl, rfl, rfl⟩))
          refine w_iconst (v := 1) dX0_chooseSpots_77 (by decide) ?_
          refine w_istore (ls' := [(6, vI 1), (5, vI v5_6), (0, vR (0, 0, 0)), (1, vR (10, b, 0)), (2, vI v), (3, vR (6, 0, w)), (4, vI u)]) dX0_chooseSpots_78 (by decide) rfl ?_
          have lp59_ : ∀ (nn_80 : Nat) (M_80 : mM) (hI_80 : Inv M_80) (hF_80 : FR (S_c_X0_chooseSpots b w) Mz M_80) (v6_80 : Int32) (hv0_80 : 1 ≤ v6_80.toInt) (hv1_80 : v6_80.toInt ≤ 256), (2147483648 - v6_80.toInt).toNat < nn_80 → WP CC l G cy ad yX0_chooseSpots cX0_chooseSpots 8 (some .boolean) (d + 5) 80 [(6, vI v6_80), (5, vI v5_6), (0, vR (0, 0, 0)), (1, vR (10, b, 0)), (2, vI v), (3, vR (6, 0, w)), (4, vI u)] [] M_80 (fun r M' => Inv M' ∧ FR (S_c_X0_chooseSpots b w) Mz M' ∧ (0 ≤ r.toInt ∧ r.toInt ≤ 1)) := by
            intro nn_80
            induction nn_80 with
            | zero => intro M_80 hI_80 hF_80 v6_80 hv0_80 hv1_80 hm_80; exact absurd hm_80 (Nat.not_lt_zero _)
            | succ nn_80 ih_80 =>
              intro M_80 hI_80 hF_80 v6_80 hv0_80 hv1_80 hm_80
              refine w_iload dX0_chooseSpots_80 0 rfl ?_
              refine w_sipush (v := 256) dX0_chooseSpots_82 (by decide) ?_
              refine w_icmp_ge (tgt := 143) dX0_chooseSpots_85 (by decide) (rfl : v6_80.toInt = v6_80.toInt) li_256 (fun h60_ => ?_) (fun h60_ => ?_)
              · refine w_aload_n dX0_chooseSpots_143 rfl 2 rfl ?_
                refine w_getI fl_RX0_26 rfl rfl ic_0 dX0_chooseSpots_144 (fun z61_ e62_ => ?_)
                refine w_if_lt (tgt := 154) dX0_chooseSpots_147 (by decide) (rfl : z61_.toInt = z61_.toInt) (fun h63_ => ?_) (fun h63_ => ?_)
                · refine w_iconst (v := 0) dX0_chooseSpots_154 (by decide) ?_
                  exact w_zret rfl dX0_chooseSpots_155 ⟨by decide, by decide⟩ ⟨hI_80, hF_80, ⟨by decide, by decide⟩⟩
                · refine w_iconst (v := 1) dX0_chooseSpots_150 (by decide) ?_
                  refine w_goto (tgt := 155) dX0_chooseSpots_151 (by decide) ?_
                  exact w_zret rfl dX0_chooseSpots_155 ⟨by decide, by decide⟩ ⟨hI_80, hF_80, ⟨by decide, by decide⟩⟩
              · refine w_iload dX0_chooseSpots_88 0 rfl ?_
                refine w_iload dX0_chooseSpots_90 1 rfl ?_
                refine w_iconst (v := (-1)) dX0_chooseSpots_92 (by decide) ?_
                refine w_ixor dX0_chooseSpots_93 (fun z64_ _ => ?_)
                refine w_iand dX0_chooseSpots_94 (fun z65_ _ => ?_)
                refine w_if_ne (tgt := 137) dX0_chooseSpots_95 (by decide) (rfl : z65_.toInt = z65_.toInt) (fun h66_ => ?_) (fun h66_ => ?_)
                · refine w_iincB (j := 0) (f := fun z67_ => [(6, vI z67_), (5, vI v5_6), (0, vR (0, 0, 0)), (1, vR (10, b, 0)), (2, vI v), (3, vR (6, 0, w)), (4, vI u)]) dX0_chooseSpots_137 rfl (by decide) (fun _ => rfl) (rfl : v6_80.toInt = v6_80.toInt) li_1 (lf_c_X0_chooseSpots_18 v6_80 hv0_80 hv1_80 h60_) (fun z67_ h68_ => ?_)
                  refine w_goto (tgt := 80) dX0_chooseSpots_140 (by decide) ?_
                  refine w_loc (ls' := [(6, vI z67_), (5, vI v5_6), (0, vR (0, 0, 0)), (1, vR (10, b, 0)), (2, vI v), (3, vR (6, 0, w)), (4, vI u)]) [0, 1, 2, 3, 4, 5, 6] rfl ?_
                  exact ih_80 M_80 hI_80 hF_80 z67_ (lf_c_X0_chooseSpots_19 v6_80 z67_ hv0_80 hv1_80 h60_ h68_) (lf_c_X0_chooseSpots_20 v6_80 z67_ hv0_80 hv1_80 h60_ h68_) (Nat.lt_of_lt_of_le (lf_c_X0_chooseSpots_21 v6_80 z67_ hv0_80 hv1_80 h60_ h68_) (Nat.le_of_lt_succ hm_80))
                · refine w_iload dX0_chooseSpots_98 0 rfl ?_
                  refine w_callS (as := [vI v6_80]) (rest := []) (c_JI_bitCount l G cy ad (d + 4) v6_80 M_80 hI_80) kS_JI_bitCount (by decide +kernel) (Nat.le_of_ble_eq_true rfl) m_1005 rfl rfl (by decide) (Nat.le_of_ble_eq_true rfl) dX0_chooseSpots_100 (fun r69_ M70_ q71_ => ?_)
                  obtain ⟨rfl, h72_⟩ := q71_
                  refine w_iload dX0_chooseSpots_103 6 rfl ?_
                  refine w_icmp_ne (tgt := 137) dX0_chooseSpots_105 (by decide) (rfl : r69_.toInt = r69_.toInt) (rfl : u.toInt = u.toInt) (fun h73_ => ?_) (fun h73_ => ?_)
                  · refine w_iincB (j := 0) (f := fun z74_ => [(6, vI z74_), (5, vI v5_6), (0, vR (0, 0, 0)), (1, vR (10, b, 0)), (2, vI v), (3, vR (6, 0, w)), (4, vI u)]) dX0_chooseSpots_137 rfl (by decide) (fun _ => rfl) (rfl : v6_80.toInt = v6_80.toInt) li_1 (lf_c_X0_chooseSpots_22 v6_80 hv0_80 hv1_80 h60_) (fun z74_ h75_ => ?_)
                    refine w_goto (tgt := 80) dX0_chooseSpots_140 (by decide) ?_
                    refine w_loc (ls' := [(6, vI z74_), (5, vI v5_6), (0, vR (0, 0, 0)), (1, vR (10, b, 0)), (2, vI v), (3, vR (6, 0, w)), (4, vI u)]) [0, 1, 2, 3, 4, 5, 6] rfl ?_
                    exact ih_80 M_80 hI_80 hF_80 z74_ (lf_c_X0_chooseSpots_23 v6_80 z74_ hv0_80 hv1_80 h60_ h75_) (lf_c_X0_chooseSpots_24 v6_80 z74_ hv0_80 hv1_80 h60_ h75_) (Nat.lt_of_lt_of_le (lf_c_X0_chooseSpots_25 v6_80 z74_ hv0_80 hv1_80 h60_ h75_) (Nat.le_of_lt_succ hm_80))
                  · refine w_aload_n dX0_chooseSpots_108 rfl 2 rfl ?_
                    refine w_iload dX0_chooseSpots_109 0 rfl ?_
                    refine w_callV (as := [vI v6_80]) (rest := []) (c_X0_countLearned l G cy ad (d + 3) v6_80 M_80 hI_80) kV_X0_countLearned (by decide +kernel) (Nat.le_of_ble_eq_true rfl) m_1011 rfl rfl rfl ic_0 rfl rfl (by decide) (Nat.le_of_ble_eq_true rfl) dX0_chooseSpots_111 (fun r76_ M77_ q78_ => ?_)
                    obtain ⟨rfl, h79_⟩ := q78_
                    refine w_istore (ls' := [(7, vI r76_), (6, vI v6_80), (5, vI v5_6), (0, vR (0, 0, 0)), (1, vR (10, b, 0)), (2, vI v), (3, vR (6, 0, w)), (4, vI u)]) dX0_chooseSpots_114 (by decide) rfl ?_
                    refine w_iload dX0_chooseSpots_116 0 rfl ?_
                    refine w_aload_n dX0_chooseSpots_118 rfl 3 rfl ?_
                    refine w_getI fl_RX0_26 rfl rfl ic_0 dX0_chooseSpots_119 (fun z80_ e81_ => ?_)
                    refine w_icmp_le (tgt := 137) dX0_chooseSpots_122 (by decide) (rfl : r76_.toInt = r76_.toInt) (rfl : z80_.toInt = z80_.toInt) (fun h82_ => ?_) (fun h82_ => ?_)
                    · refine w_iincB (j := 1) (f := fun z83_ => [(6, vI z83_), (7, vI r76_), (5, vI v5_6), (0, vR (0, 0, 0)), (1, vR (10, b, 0)), (2, vI v), (3, vR (6, 0, w)), (4, vI u)]) dX0_chooseSpots_137 rfl (by decide) (fun _ => rfl) (rfl : v6_80.toInt = v6_80.toInt) li_1 (lf_c_X0_chooseSpots_26 v6_80 hv0_80 hv1_80 h60_) (fun z83_ h84_ => ?_)
                      refine w_goto (tgt := 80) dX0_chooseSpots_140 (by decide) ?_
                      refine w_loc (ls' := [(6, vI z83_), (5, vI v5_6), (0, vR (0, 0, 0)), (1, vR (10, b, 0)), (2, vI v), (3, vR (6, 0, w)), (4, vI u)]) [0, 2, 3, 4, 5, 6, 7] rfl ?_
                      exact ih_80 M_80 hI_80 hF_80 z83_ (lf_c_X0_chooseSpots_27 v6_80 z83_ hv0_80 hv1_80 h60_ h84_) (lf_c_X0_chooseSpots_28 v6_80 z83_ hv0_80 hv1_80 h60_ h84_) (Nat.lt_of_lt_of_le (lf_c_X0_chooseSpots_29 v6_80 z83_ hv0_80 hv1_80 h60_ h84_) (Nat.le_of_lt_succ hm_80))
                    · refine w_aload_n dX0_chooseSpots_125 rfl 3 rfl ?_
                      refine w_iload dX0_chooseSpots_126 0 rfl ?_
                      refine w_putI CC_nd fl_RX0_26 rfl rfl ic_0 dX0_chooseSpots_128 (fun M85_ hM86_ => ?_)
                      have hI87_ := hI_80.put hM86_ trivial
                      have hF88_ := hF_80.put hM86_ (Or.inl ⟨rfl, rfl, rfl⟩)
                      refine w_aload_n dX0_chooseSpots_131 rfl 3 rfl ?_
                      refine w_iload dX0_chooseSpots_132 1 rfl ?_
                      refine w_putI CC_nd fl_RX0_30 rfl rfl ic_0 dX0_chooseSpots_134 (fun M89_ hM90_ => ?_)
                      have hI91_ := hI87_.put hM90_ trivial
                      have hF92_ := hF88_.put hM90_ (Or.inr (Or.inl ⟨rfl, rfl, rfl⟩))
                      refine w_iincB (j := 1) (f := fun z93_ => [(6, vI z93_), (7, vI r76_), (5, vI v5_6), (0, vR (0, 0, 0)), (1, vR (10, b, 0)), (2, vI v), (3, vR (6, 0, w)), (4, vI u)]) dX0_chooseSpots_137 rfl (by decide) (fun _ => rfl) (rfl : v6_80.toInt = v6_80.toInt) li_1 (lf_c_X0_chooseSpots_30 M85_ M89_ v6_80 hv0_80 hv1_80 h60_ hM90_) (fun z93_ h94_ => ?_)
                      refine w_goto (tgt := 80) dX0_chooseSpots_140 (by decide) ?_
                      refine w_loc (ls' := [(6, vI z93_), (5, vI v5_6), (0, vR (0, 0, 0)), (1, vR (10, b, 0)), (2, vI v), (3, vR (6, 0, w)), (4, vI u)]) [0, 2, 3, 4, 5, 6, 7] rfl ?_
                      exact ih_80 M89_ hI91_ hF92_ z93_ (lf_c_X0_chooseSpots_31 M85_ M89_ v6_80 z93_ hv0_80 hv1_80 h60_ hM90_ h94_) (lf_c_X0_chooseSpots_32 M85_ M89_ v6_80 z93_ hv0_80 hv1_80 h60_ hM90_ h94_) (Nat.lt_of_lt_of_le (lf_c_X0_chooseSpots_33 M85_ M89_ v6_80 z93_ hv0_80 hv1_80 h60_ hM90_ h94_) (Nat.le_of_lt_succ hm_80))
          exact lp59_ _ M55_ hI57_ hF58_ 1 (lf_c_X0_chooseSpots_34 ) (lf_c_X0_chooseSpots_35 ) (Nat.lt_succ_self _)
        · refine w_aload_n dX0_chooseSpots_22 rfl 3 rfl ?_
          refine w_getR (c' := (7, b, 0)) fl_RX0_70 rfl rfl (ic_10 hb) dX0_chooseSpots_23 rfl ?_
          refine w_aload_n dX0_chooseSpots_26 rfl 5 rfl ?_
          refine w_iload dX0_chooseSpots_27 0 rfl ?_
          refine w_callV (as := [vI v6_6]) (rest := [vR (7, b, 0)]) (c_X6_numberAt l G cy ad (d + 3) w v6_6 M_6 hI_6 hw) kV_X6_numberAt (by decide +kernel) (Nat.le_of_ble_eq_true rfl) m_992 rfl rfl rfl (ic_6 hw) rfl rfl (by decide) (Nat.le_of_ble_eq_true rfl) dX0_chooseSpots_29 (fun r95_ M96_ q97_ => ?_)
          obtain ⟨rfl, h98_⟩ := q97_
          refine w_callV (as := [vI r95_]) (rest := []) (c_X7_isFree l G cy ad (d + 3) b r95_ M_6 hI_6 hb) kV_X7_isFree (by decide +kernel) (Nat.le_of_ble_eq_true rfl) m_993 rfl rfl rfl (ic_7 hb) rfl rfl (by decide) (Nat.le_of_ble_eq_true rfl) dX0_chooseSpots_32 (fun r99_ M100_ q101_ => ?_)
          obtain ⟨rfl, h102_⟩ := q101_
          rcases h102_ with ⟨rfl, h102_⟩ | rfl
          · refine w_if_eq (tgt := 61) dX0_chooseSpots_35 (by decide) li_1 (fun h9 => (absurd h9 (by decide))) (fun h103_ => ?_)
            refine w_iload dX0_chooseSpots_38 1 rfl ?_
            refine w_iconst (v := 1) dX0_chooseSpots_40 (by decide) ?_
            refine w_iload dX0_chooseSpots_41 0 rfl ?_
            refine w_ishl dX0_chooseSpots_43 (fun z104_ _ => ?_)
            refine w_ior dX0_chooseSpots_44 (fun z105_ _ => ?_)
            refine w_istore (ls' := [(5, vI z105_), (6, vI v6_6), (0, vR (0, 0, 0)), (1, vR (10, b, 0)), (2, vI v), (3, vR (6, 0, w)), (4, vI u)]) dX0_chooseSpots_45 (by decide) rfl ?_
            refine w_aload_n dX0_chooseSpots_47 rfl 2 rfl ?_
            refine w_aload_n dX0_chooseSpots_48 rfl 3 rfl ?_
            refine w_iload_n dX0_chooseSpots_49 rfl 4 rfl ?_
            refine w_iload dX0_chooseSpots_50 1 rfl ?_
            refine w_aload_n dX0_chooseSpots_52 rfl 5 rfl ?_
            refine w_iload dX0_chooseSpots_53 1 rfl ?_
            refine w_callV (as := [vI v6_6]) (rest := [vI v6_6, vI v, vR (10, b, 0), vR (0, 0, 0)]) (c_X6_numberAt l G cy ad (d + 3) w v6_6 M_6 hI_6 hw) kV_X6_numberAt (by decide +kernel) (Nat.le_of_ble_eq_true rfl) m_992 rfl rfl rfl (ic_6 hw) rfl rfl (by decide) (Nat.le_of_ble_eq_true rfl) dX0_chooseSpots_55 (fun r106_ M107_ q108_ => ?_)
            obtain ⟨rfl, h109_⟩ := q108_
            refine w_callVv (as := [vR (10, b, 0), vI v, vI v6_6, vI r106_]) (rest := []) (c_X0_noteLearned l G cy ad d b v v6_6 r106_ M_6 hI_6 hb) kV_X0_noteLearned (by decide +kernel) (Nat.le_of_ble_eq_true rfl) m_994 rfl rfl rfl ic_0 rfl rfl (by decide) (Nat.le_of_ble_eq_true rfl) dX0_chooseSpots_58 (fun M110_ q111_ => ?_)
            obtain ⟨hI113_, hF114_, h112_⟩ := q111_
            have hF115_ := hF_6.tr hF114_ (fun c k => (fun h => h.elim (fun h => (Or.inr (Or.inr (Or.inl ⟨h.1, h.2.1, h.2.2⟩)))) (fun h => h.elim (fun h => (Or.inr (Or.inr (Or.inr (Or.inl ⟨h.1, h.2.1, h.2.2⟩))))) (fun h => h.elim (fun h => (Or.inr (Or.inr (Or.inr (Or.inr (Or.inl ⟨h.1, h.2.1, h.2.2⟩)))))) (fun h => h.elim (fun h => (Or.inr (Or.inr (Or.inr (Or.inr (Or.inr (Or.inl ⟨h.1, h.2.1, h.2.2⟩))))))) (fun h => h.elim (fun h => (Or.inr (Or.inr (Or.inr (Or.inr (Or.inr (Or.inr (Or.inl ⟨h.1, h.2.1, h.2.2⟩)))))))) (fun h => h.elim (fun h => (Or.inr (Or.inr (Or.inr (Or.inr (Or.inr (Or.inr (Or.inr (Or.inl ⟨h.1, h.2.1, h.2.2⟩))))))))) (fun h => h.elim))))))))
            refine w_iincB (j := 1) (f := fun z116_ => [(6, vI z116_), (5, vI z105_), (0, vR (0, 0, 0)), (1, vR (10, b, 0)), (2, vI v), (3, vR (6, 0, w)), (4, vI u)]) dX0_chooseSpots_61 rfl (by decide) (fun _ => rfl) (rfl : v6_6.toInt = v6_6.toInt) li_1 (lf_c_X0_chooseSpots_36 M_6 w v6_6 z2_ hw hv0_6 e3_ h4_ h5_ h50_) (fun z116_ h117_ => ?_)
            refine w_goto (tgt := 6) dX0_chooseSpots_64 (by decide) ?_
            refine w_loc (ls' := [(6, vI z116_), (5, vI z105_), (0, vR (0, 0, 0)), (1, vR (10, b, 0)), (2, vI v), (3, vR (6, 0, w)), (4, vI u)]) [0, 1, 2, 3, 4, 5, 6] rfl ?_
            exact ih_6 M110_ hI113_ hF115_ z116_ z105_ (lf_c_X0_chooseSpots_37 M_6 w v6_6 z2_ z116_ hw hv0_6 e3_ h4_ h5_ h50_ h117_) (Nat.lt_of_lt_of_le (lf_c_X0_chooseSpots_38 M_6 w v6_6 z2_ z116_ hw hv0_6 e3_ h4_ h5_ h50_ h117_) (Nat.le_of_lt_succ hm_6))
          · refine w_if_eq (tgt := 61) dX0_chooseSpots_35 (by decide) li_0 (fun h118_ => ?_) (fun h9 => (absurd h9 (by decide)))
            refine w_iincB (j := 0) (f := fun z119_ => [(6, vI z119_), (5, vI v5_6), (0, vR (0, 0, 0)), (1, vR (10, b, 0)), (2, vI v), (3, vR (6, 0, w)), (4, vI u)]) dX0_chooseSpots_61 rfl (by decide) (fun _ => rfl) (rfl : v6_6.toInt = v6_6.toInt) li_1 (lf_c_X0_chooseSpots_39 M_6 w v6_6 z2_ hw hv0_6 e3_ h4_ h5_ h50_) (fun z119_ h120_ => ?_)
            refine w_goto (tgt := 6) dX0_chooseSpots_64 (by decide) ?_
            refine w_loc (ls' := [(6, vI z119_), (5, vI v5_6), (0, vR (0, 0, 0)), (1, vR (10, b, 0)), (2, vI v), (3, vR (6, 0, w)), (4, vI u)]) [0, 1, 2, 3, 4, 5, 6] rfl ?_
            exact ih_6 M_6 hI_6 hF_6 z119_ v5_6 (lf_c_X0_chooseSpots_40 M_6 w v6_6 z2_ z119_ hw hv0_6 e3_ h4_ h5_ h50_ h120_) (Nat.lt_of_lt_of_le (lf_c_X0_chooseSpots_41 M_6 w v6_6 z2_ z119_ hw hv0_6 e3_ h4_ h5_ h50_ h120_) (Nat.le_of_lt_succ hm_6))
  exact lp1_ _ Mz hIz hFz 0 0 (lf_c_X0_chooseSpots_42 ) (Nat.lt_succ_self _)
theorem lf_c_X0_servesAll_0  (u : Int32) (v3_2 : Int32) (hv0_2 : 0 ≤ v3_2.toInt) (h2_ : v3_2.toInt < u.toInt) (h3_ : v3_2.toInt < 8) : 0 ≤ v3_2.toInt ∧ v3_2.toInt < ((8 : Nat) : Int) := by have r_u := rngI u; have r_v3_2 := rngI v3_2; omega
theorem lf_c_X0_servesAll_1 (Mz : mM) (u : Int32) (v3_2 : Int32) (j6_ : Nat) (z4_ : Int32) (hv0_2 : 0 ≤ v3_2.toInt) (h2_ : v3_2.toInt < u.toInt) (h3_ : v3_2.toInt < 8) (h7_ : (j6_ : Int) = v3_2.toInt) (e5_ : z4_ = Mz.1 (23, 0, 0) j6_) : -2147483648 ≤ v3_2.toInt + 1 ∧ v3_2.toInt + 1 < 2147483648 := by have r_u := rngI u; have r_v3_2 := rngI v3_2; have r_z4_ := rngI z4_; subst e5_; omega
theorem lf_c_X0_servesAll_2 (Mz : mM) (u : Int32) (v3_2 : Int32) (j6_ : Nat) (z4_ : Int32) (z10_ : Int32) (hv0_2 : 0 ≤ v3_2.toInt) (h2_ : v3_2.toInt < u.toInt) (h3_ : v3_2.toInt < 8) (h7_ : (j6_ : Int) = v3_2.toInt) (e5_ : z4_ = Mz.1 (23, 0, 0) j6_) (h11_ : z10_.toInt = v3_2.toInt + 1) : 0 ≤ z10_.toInt := by have r_u := rngI u; have r_v3_2 := rngI v3_2; have r_z4_ := rngI z4_; have r_z10_ := rngI z10_; omega
theorem lf_c_X0_servesAll_3 (Mz : mM) (u : Int32) (v3_2 : Int32) (j6_ : Nat) (z4_ : Int32) (z10_ : Int32) (hv0_2 : 0 ≤ v3_2.toInt) (h2_ : v3_2.toInt < u.toInt) (h3_ : v3_2.toInt < 8) (h7_ : (j6_ : Int) = v3_2.toInt) (e5_ : z4_ = Mz.1 (23, 0, 0) j6_) (h11_ : z10_.toInt = v3_2.toInt + 1) : (2147483648 - z10_.toInt).toNat < (2147483648 - v3_2.toInt).toNat := by have r_u := rngI u; have r_v3_2 := rngI v3_2; have r_z4_ := rngI z4_; have r_z10_ := rngI z10_; omega
theorem lf_c_X0_servesAll_4    : 0 ≤ (0 : Int32).toInt := by have q0 := li_0; omega
set_option maxHeartbeats 4000000 in
set_option maxRecDepth 100000 in
theorem c_X0_servesAll (l : Launch) (G : va_G) (cy : Nat → ClassId) (ad : rf → Nat) (d : Nat) (v : Int32) (u : Int32) (Mz : mM) (hIz : Inv Mz) : WP CC l G cy ad yX0_servesAll cX0_servesAll 4 (some .boolean) d 0 [(0, vR (0, 0, 0)), (1, vI v), (2, vI u)] [] Mz (fun r M' => Mz = M' ∧ (0 ≤ r.toInt ∧ r.toInt ≤ 1)) := by
  refine w_iconst (v := 0) dX0_servesAll_0 (by decide) ?_
  refine w_istore_n (ls' := [(3, vI 0), (0, vR (0, 0, 0)), (1, vI v), (2, vI u)]) dX0_servesAll_1 rfl (by decide) rfl ?_
  have lp1_ : ∀ (nn_2 : Nat) (v3_2 : Int32) (hv0_2 : 0 ≤ v3_2.toInt), (2147483648 - v3_2.toInt).toNat < nn_2 → WP CC l G cy ad yX0_servesAll cX0_servesAll 4 (some .boolean) d 2 [(3, vI v3_2), (0, vR (0, 0, 0)), (1, vI v), (2, vI u)] [] Mz (fun r M' => Mz = M' ∧ (0 ≤ r.toInt ∧ r.toInt ≤ 1)) := by
    intro nn_2
    induction nn_2 with
    | zero => intro v3_2 hv0_2 hm_2; exact absurd hm_2 (Nat.not_lt_zero _)
    | succ nn_2 ih_2 =>
      intro v3_2 hv0_2 hm_2
      refine w_iload_n dX0_servesAll_2 rfl 0 rfl ?_
      refine w_iload_n dX0_servesAll_3 rfl 3 rfl ?_
      refine w_icmp_ge (tgt := 32) dX0_servesAll_4 (by decide) (rfl : v3_2.toInt = v3_2.toInt) (rfl : u.toInt = u.toInt) (fun h2_ => ?_) (fun h2_ => ?_)
      · refine w_iconst (v := 1) dX0_servesAll_32 (by decide) ?_
        exact w_zret rfl dX0_servesAll_33 ⟨by decide, by decide⟩ ⟨rfl, ⟨by decide, by decide⟩⟩
      · refine w_iload_n dX0_servesAll_7 rfl 0 rfl ?_
        refine w_bipush (v := 8) dX0_servesAll_8 (by decide) ?_
        refine w_icmp_ge (tgt := 32) dX0_servesAll_10 (by decide) (rfl : v3_2.toInt = v3_2.toInt) li_8 (fun h3_ => ?_) (fun h3_ => ?_)
        · refine w_iconst (v := 1) dX0_servesAll_32 (by decide) ?_
          exact w_zret rfl dX0_servesAll_33 ⟨by decide, by decide⟩ ⟨rfl, ⟨by decide, by decide⟩⟩
        · refine w_iload_n dX0_servesAll_13 rfl 2 rfl ?_
          refine w_aload_n dX0_servesAll_14 rfl 1 rfl ?_
          refine w_getR (c' := (23, 0, 0)) fl_RX0_23 rfl rfl ic_0 dX0_servesAll_15 rfl ?_
          refine w_iload_n dX0_servesAll_18 rfl 0 rfl ?_
          refine w_iald rfl rfl ic_23 (rfl : v3_2.toInt = v3_2.toInt) (lf_c_X0_servesAll_0 u v3_2 hv0_2 h2_ h3_) dX0_servesAll_19 (fun j6_ h7_ z4_ e5_ => ?_)
          refine w_iand dX0_servesAll_20 (fun z8_ _ => ?_)
          refine w_if_ne (tgt := 26) dX0_servesAll_21 (by decide) (rfl : z8_.toInt = z8_.toInt) (fun h9_ => ?_) (fun h9_ => ?_)
          · refine w_iincB (j := 0) (f := fun z10_ => [(3, vI z10_), (0, vR (0, 0, 0)), (1, vI v), (2, vI u)]) dX0_servesAll_26 rfl (by decide) (fun _ => rfl) (rfl : v3_2.toInt = v3_2.toInt) li_1 (lf_c_X0_servesAll_1 Mz u v3_2 j6_ z4_ hv0_2 h2_ h3_ h7_ e5_) (fun z10_ h11_ => ?_)
            refine w_goto (tgt := 2) dX0_servesAll_29 (by decide) ?_
            refine w_loc (ls' := [(3, vI z10_), (0, vR (0, 0, 0)), (1, vI v), (2, vI u)]) [0, 1, 2, 3] rfl ?_
            exact ih_2 z10_ (lf_c_X0_servesAll_2 Mz u v3_2 j6_ z4_ z10_ hv0_2 h2_ h3_ h7_ e5_ h11_) (Nat.lt_of_lt_of_le (lf_c_X0_servesAll_3 Mz u v3_2 j6_ z4_ z10_ hv0_2 h2_ h3_ h7_ e5_ h11_) (Nat.le_of_lt_succ hm_2))
          · refine w_iconst (v := 0) dX0_servesAll_24 (by decide) ?_
            exact w_zret rfl dX0_servesAll_25 ⟨by decide, by decide⟩ ⟨rfl, ⟨by decide, by decide⟩⟩
  exact lp1_ _ 0 (lf_c_X0_servesAll_4 ) (Nat.lt_succ_self _)
def S_c_X0_wouldHear (b : Nat) : rf → Nat → Prop := fun c k => (c.1 = 29 ∧ c.2.1 = b ∧ k = 0) ∨ (c.1 = 29 ∧ c.2.1 = b ∧ k = 1) ∨ (c.1 = 29 ∧ c.2.1 = b ∧ k = 2) ∨ (c.1 = 29 ∧ c.2.1 = b ∧ k = 3) ∨ (c.1 = 25 ∧ c.2.1 = b ∧ c.2.2 = 0) ∨ (c.1 = 25 ∧ c.2.1 = b ∧ c.2.2 = 1) ∨ False
theorem lf_c_X0_wouldHear_0  (v : Int32) (h4_ : 0 ≤ v.toInt ∧ v.toInt ≤ 7) : 0 ≤ v.toInt ∧ v.toInt < ((8 : Nat) : Int) := by have r_v := rngI v; omega
theorem lf_c_X0_wouldHear_1  (v5_21 : Int32) (hv0_21 : 0 ≤ v5_21.toInt) (hv1_21 : v5_21.toInt ≤ 8) (h10_ : v5_21.toInt < 8) : -2147483648 ≤ v5_21.toInt + 1 ∧ v5_21.toInt + 1 < 2147483648 := by have r_v5_21 := rngI v5_21; omega
theorem lf_c_X0_wouldHear_2  (v5_21 : Int32) (z17_ : Int32) (hv0_21 : 0 ≤ v5_21.toInt) (hv1_21 : v5_21.toInt ≤ 8) (h10_ : v5_21.toInt < 8) (h18_ : z17_.toInt = v5_21.toInt + 1) : 0 ≤ z17_.toInt := by have r_v5_21 := rngI v5_21; have r_z17_ := rngI z17_; omega
theorem lf_c_X0_wouldHear_3  (v5_21 : Int32) (z17_ : Int32) (hv0_21 : 0 ≤ v5_21.toInt) (hv1_21 : v5_21.toInt ≤ 8) (h10_ : v5_21.toInt < 8) (h18_ : z17_.toInt = v5_21.toInt + 1) : z17_.toInt ≤ 8 := by have r_v5_21 := rngI v5_21; have r_z17_ := rngI z17_; omega
theorem lf_c_X0_wouldHear_4  (v5_21 : Int32) (z17_ : Int32) (hv0_21 : 0 ≤ v5_21.toInt) (hv1_21 : v5_21.toInt ≤ 8) (h10_ : v5_21.toInt < 8) (h18_ : z17_.toInt = v5_21.toInt + 1) : (2147483648 - z17_.toInt).toNat < (2147483648 - v5_21.toInt).toNat := by have r_v5_21 := rngI v5_21; have r_z17_ := rngI z17_; omega
theorem lf_c_X0_wouldHear_5  (v6_31 : Int32) (r12_ : Int32) (hv0_31 : 1 ≤ v6_31.toInt) (h15_ : 0 ≤ r12_.toInt ∧ r12_.toInt ≤ 12) (h16_ : v6_31.toInt ≤ r12_.toInt) : -2147483648 ≤ v6_31.toInt + 1 ∧ v6_31.toInt + 1 < 2147483648 := by have r_v6_31 := rngI v6_31; have r_r12_ := rngI r12_; omega
theorem lf_c_X0_wouldHear_6  (v6_31 : Int32) (r12_ : Int32) (z29_ : Int32) (hv0_31 : 1 ≤ v6_31.toInt) (h15_ : 0 ≤ r12_.toInt ∧ r12_.toInt ≤ 12) (h16_ : v6_31.toInt ≤ r12_.toInt) (h30_ : z29_.toInt = v6_31.toInt + 1) : 1 ≤ z29_.toInt := by have r_v6_31 := rngI v6_31; have r_r12_ := rngI r12_; have r_z29_ := rngI z29_; omega
theorem lf_c_X0_wouldHear_7  (v6_31 : Int32) (r12_ : Int32) (z29_ : Int32) (hv0_31 : 1 ≤ v6_31.toInt) (h15_ : 0 ≤ r12_.toInt ∧ r12_.toInt ≤ 12) (h16_ : v6_31.toInt ≤ r12_.toInt) (h30_ : z29_.toInt = v6_31.toInt + 1) : (2147483648 - z29_.toInt).toNat < (2147483648 - v6_31.toInt).toNat := by have r_v6_31 := rngI v6_31; have r_r12_ := rngI r12_; have r_z29_ := rngI z29_; omega
theorem lf_c_X0_wouldHear_8  (r39_ : Int32) (h42_ : (0 ≤ r39_.toInt ∧ r39_.toInt ≤ 1)) : 0 ≤ r39_.toInt ∧ r39_.toInt ≤ 1 := by have r_r39_ := rngI r39_; omega
theorem lf_c_X0_wouldHear_9  (r39_ : Int32) (h42_ : (0 ≤ r39_.toInt ∧ r39_.toInt ≤ 1)) : 0 ≤ r39_.toInt ∧ r39_.toInt ≤ 1 := by have r_r39_ := rngI r39_; omega
theorem lf_c_X0_wouldHear_10  (v5_21 : Int32) (hv0_21 : 0 ≤ v5_21.toInt) (hv1_21 : v5_21.toInt ≤ 8) (h10_ : v5_21.toInt < 8) : -2147483648 ≤ v5_21.toInt + 1 ∧ v5_21.toInt + 1 < 2147483648 := by have r_v5_21 := rngI v5_21; omega
theorem lf_c_X0_wouldHear_11  (v5_21 : Int32) (z46_ : Int32) (hv0_21 : 0 ≤ v5_21.toInt) (hv1_21 : v5_21.toInt ≤ 8) (h10_ : v5_21.toInt < 8) (h47_ : z46_.toInt = v5_21.toInt + 1) : 0 ≤ z46_.toInt := by have r_v5_21 := rngI v5_21; have r_z46_ := rngI z46_; omega
theorem lf_c_X0_wouldHear_12  (v5_21 : Int32) (z46_ : Int32) (hv0_21 : 0 ≤ v5_21.toInt) (hv1_21 : v5_21.toInt ≤ 8) (h10_ : v5_21.toInt < 8) (h47_ : z46_.toInt = v5_21.toInt + 1) : z46_.toInt ≤ 8 := by have r_v5_21 := rngI v5_21; have r_z46_ := rngI z46_; omega
theorem lf_c_X0_wouldHear_13  (v5_21 : Int32) (z46_ : Int32) (hv0_21 : 0 ≤ v5_21.toInt) (hv1_21 : v5_21.toInt ≤ 8) (h10_ : v5_21.toInt < 8) (h47_ : z46_.toInt = v5_21.toInt + 1) : (2147483648 - z46_.toInt).toNat < (2147483648 - v5_21.toInt).toNat := by have r_v5_21 := rngI v5_21; have r_z46_ := rngI z46_; omega
theorem lf_c_X0_wouldHear_14    : 1 ≤ (1 : Int32).toInt := by have q0 := li_1; omega
theorem lf_c_X0_wouldHear_15    : 0 ≤ (0 : Int32).toInt := by have q0 := li_0; omega
theorem lf_c_X0_wouldHear_16    : (0 : Int32).toInt ≤ 8 := by have q0 := li_0; omega
set_option maxHeartbeats 4000000 in
set_option maxRecDepth 100000 in
theorem c_X0_wouldHear (l : Launch) (G : va_G) (cy : Nat → ClassId) (ad : rf → Nat) (d : Nat) (b : Nat) (v : Int32) (u : Int32) (t : Int32) (Mz : mM) (hIz : Inv Mz) (hb : b < 3) : WP CC l G cy ad yX0_wouldHear cX0_wouldHear 8 (some .boolean) (d + 3) 0 [(0, vR (10, b, 0)), (1, vI v), (2, vI u), (3, vI t)] [] Mz (fun r M' => Inv M' ∧ FR (S_c_X0_wouldHear b) Mz M' ∧ (0 ≤ r.toInt ∧ r.toInt ≤ 1)) := by
  have hFz : FR (S_c_X0_wouldHear b) Mz Mz := FR.self
  refine w_aload_n dX0_wouldHear_0 rfl 0 rfl ?_
  refine w_iload_n dX0_wouldHear_1 rfl 1 rfl ?_
  refine w_callV (as := [vI v]) (rest := []) (c_X10_hasWalker l G cy ad (d + 2) b v Mz hIz hb) kV_X10_hasWalker (by decide +kernel) (Nat.le_of_ble_eq_true rfl) m_998 rfl rfl rfl (ic_10 hb) rfl rfl (by decide) (Nat.le_of_ble_eq_true rfl) dX0_wouldHear_2 (fun r1_ M2_ q3_ => ?_)
  obtain ⟨rfl, h4_⟩ := q3_
  rcases h4_ with ⟨rfl, h4_⟩ | rfl
  · refine w_if_ne (tgt := 10) dX0_wouldHear_5 (by decide) li_1 (fun h5_ => ?_) (fun h9 => (absurd h9 (by decide)))
    refine w_aload_n dX0_wouldHear_10 rfl 0 rfl ?_
    refine w_getR (c' := (42, b, 0)) fl_RX0_97 rfl rfl (ic_10 hb) dX0_wouldHear_11 rfl ?_
    refine w_iload_n dX0_wouldHear_14 rfl 1 rfl ?_
    refine w_aald rfl rfl rfl (fun _ => rfl) (ic_42 hb) (rfl : v.toInt = v.toInt) (lf_c_X0_wouldHear_0 v h4_) dX0_wouldHear_15 (fun j6_ h7_ h8_ => ?_)
    refine w_astore (ls' := [(4, vR (9, b, j6_)), (0, vR (10, b, 0)), (1, vI v), (2, vI u), (3, vI t)]) dX0_wouldHear_16 (by decide) rfl ?_
    refine w_iconst (v := 0) dX0_wouldHear_18 (by decide) ?_
    refine w_istore (ls' := [(5, vI 0), (4, vR (9, b, j6_)), (0, vR (10, b, 0)), (1, vI v), (2, vI u), (3, vI t)]) dX0_wouldHear_19 (by decide) rfl ?_
    have lp9_ : ∀ (nn_21 : Nat) (M_21 : mM) (hI_21 : Inv M_21) (hF_21 : FR (S_c_X0_wouldHear b) Mz M_21) (v5_21 : Int32) (hv0_21 : 0 ≤ v5_21.toInt) (hv1_21 : v5_21.toInt ≤ 8), (2147483648 - v5_21.toInt).toNat < nn_21 → WP CC l G cy ad yX0_wouldHear cX0_wouldHear 8 (some .boolean) (d + 3) 21 [(5, vI v5_21), (4, vR (9, b, j6_)), (0, vR (10, b, 0)), (1, vI v), (2, vI u), (3, vI t)] [] M_21 (fun r M' => Inv M' ∧ FR (S_c_X0_wouldHear b) Mz M' ∧ (0 ≤ r.toInt ∧ r.toInt ≤ 1)) := by
      intro nn_21
      induction nn_21 with
      | zero => intro M_21 hI_21 hF_21 v5_21 hv0_21 hv1_21 hm_21; exact absurd hm_21 (Nat.not_lt_zero _)
      | succ nn_21 ih_21 =>
        intro M_21 hI_21 hF_21 v5_21 hv0_21 hv1_21 hm_21
        refine w_iload dX0_wouldHear_21 0 rfl ?_
        refine w_bipush (v := 8) dX0_wouldHear_23 (by decide) ?_
        refine w_icmp_ge (tgt := 105) dX0_wouldHear_25 (by decide) (rfl : v5_21.toInt = v5_21.toInt) li_8 (fun h10_ => ?_) (fun h10_ => ?_)
        · refine w_iconst (v := 0) dX0_wouldHear_105 (by decide) ?_
          exact w_zret rfl dX0_wouldHear_106 ⟨by decide, by decide⟩ ⟨hI_21, hF_21, ⟨by decide, by decide⟩⟩
        · refine w_iconst (v := 1) dX0_wouldHear_28 (by decide) ?_
          refine w_istore (ls' := [(6, vI 1), (5, vI v5_21), (4, vR (9, b, j6_)), (0, vR (10, b, 0)), (1, vI v), (2, vI u), (3, vI t)]) dX0_wouldHear_29 (by decide) rfl ?_
          have lp11_ : ∀ (nn_31 : Nat) (M_31 : mM) (hI_31 : Inv M_31) (hF_31 : FR (S_c_X0_wouldHear b) Mz M_31) (v6_31 : Int32) (hv0_31 : 1 ≤ v6_31.toInt), (2147483648 - v6_31.toInt).toNat < nn_31 → WP CC l G cy ad yX0_wouldHear cX0_wouldHear 8 (some .boolean) (d + 3) 31 [(6, vI v6_31), (5, vI v5_21), (4, vR (9, b, j6_)), (0, vR (10, b, 0)), (1, vI v), (2, vI u), (3, vI t)] [] M_31 (fun r M' => Inv M' ∧ FR (S_c_X0_wouldHear b) Mz M' ∧ (0 ≤ r.toInt ∧ r.toInt ≤ 1)) := by
            intro nn_31
            induction nn_31 with
            | zero => intro M_31 hI_31 hF_31 v6_31 hv0_31 hm_31; exact absurd hm_31 (Nat.not_lt_zero _)
            | succ nn_31 ih_31 =>
              intro M_31 hI_31 hF_31 v6_31 hv0_31 hm_31
              refine w_iload dX0_wouldHear_31 0 rfl ?_
              refine w_aload dX0_wouldHear_33 2 rfl ?_
              refine w_callV (as := []) (rest := [vI v6_31]) (c_X9_reach l G cy ad (d + 2) b j6_ M_31 hI_31 hb h8_) kV_X9_reach (by decide +kernel) (Nat.le_of_ble_eq_true rfl) m_1166 rfl rfl rfl (ic_9 hb h8_) rfl rfl (by decide) (Nat.le_of_ble_eq_true rfl) dX0_wouldHear_35 (fun r12_ M13_ q14_ => ?_)
              obtain ⟨rfl, h15_⟩ := q14_
              refine w_icmp_gt (tgt := 99) dX0_wouldHear_38 (by decide) (rfl : v6_31.toInt = v6_31.toInt) (rfl : r12_.toInt = r12_.toInt) (fun h16_ => ?_) (fun h16_ => ?_)
              · refine w_iincB (j := 1) (f := fun z17_ => [(5, vI z17_), (6, vI v6_31), (4, vR (9, b, j6_)), (0, vR (10, b, 0)), (1, vI v), (2, vI u), (3, vI t)]) dX0_wouldHear_99 rfl (by decide) (fun _ => rfl) (rfl : v5_21.toInt = v5_21.toInt) li_1 (lf_c_X0_wouldHear_1 v5_21 hv0_21 hv1_21 h10_) (fun z17_ h18_ => ?_)
                refine w_goto (tgt := 21) dX0_wouldHear_102 (by decide) ?_
                refine w_loc (ls' := [(5, vI z17_), (4, vR (9, b, j6_)), (0, vR (10, b, 0)), (1, vI v), (2, vI u), (3, vI t)]) [0, 2, 3, 4, 5, 6] rfl ?_
                exact ih_21 M_31 hI_31 hF_31 z17_ (lf_c_X0_wouldHear_2 v5_21 z17_ hv0_21 hv1_21 h10_ h18_) (lf_c_X0_wouldHear_3 v5_21 z17_ hv0_21 hv1_21 h10_ h18_) (Nat.lt_of_lt_of_le (lf_c_X0_wouldHear_4 v5_21 z17_ hv0_21 hv1_21 h10_ h18_) (Nat.le_of_lt_succ hm_21))
              · refine w_iload_n dX0_wouldHear_41 rfl 5 rfl ?_
                refine w_iload dX0_wouldHear_42 1 rfl ?_
                refine w_iload dX0_wouldHear_44 0 rfl ?_
                refine w_callS (as := [vI u, vI v5_21, vI v6_31]) (rest := []) (c_X7_cellFrom l G cy ad (d + 1) u v5_21 v6_31 M_31 hI_31) kS_X7_cellFrom (by decide +kernel) (Nat.le_of_ble_eq_true rfl) m_1000 rfl rfl (by decide) (Nat.le_of_ble_eq_true rfl) dX0_wouldHear_46 (fun r19_ M20_ q21_ => ?_)
                obtain ⟨rfl, h22_⟩ := q21_
                refine w_istore (ls' := [(7, vI r19_), (6, vI v6_31), (5, vI v5_21), (4, vR (9, b, j6_)), (0, vR (10, b, 0)), (1, vI v), (2, vI u), (3, vI t)]) dX0_wouldHear_49 (by decide) rfl ?_
                refine w_aload_n dX0_wouldHear_51 rfl 4 rfl ?_
                refine w_iload_n dX0_wouldHear_52 rfl 5 rfl ?_
                refine w_iload dX0_wouldHear_53 0 rfl ?_
                refine w_callV (as := [vI v, vI r19_]) (rest := []) (c_X10_isFreeBut l G cy ad (d + 2) b v r19_ M_31 hI_31 hb) kV_X10_isFreeBut (by decide +kernel) (Nat.le_of_ble_eq_true rfl) m_1167 rfl rfl rfl (ic_10 hb) rfl rfl (by decide) (Nat.le_of_ble_eq_true rfl) dX0_wouldHear_55 (fun r23_ M24_ q25_ => ?_)
                obtain ⟨rfl, h26_⟩ := q25_
                refine w_if_ne (tgt := 64) dX0_wouldHear_58 (by decide) (rfl : r23_.toInt = r23_.toInt) (fun h27_ => ?_) (fun h27_ => ?_)
                · refine w_iload dX0_wouldHear_64 0 rfl ?_
                  refine w_iload_n dX0_wouldHear_66 rfl 7 rfl ?_
                  refine w_icmp_ne (tgt := 93) dX0_wouldHear_67 (by decide) (rfl : r19_.toInt = r19_.toInt) (rfl : t.toInt = t.toInt) (fun h28_ => ?_) (fun h28_ => ?_)
                  · refine w_iincB (j := 1) (f := fun z29_ => [(6, vI z29_), (7, vI r19_), (5, vI v5_21), (4, vR (9, b, j6_)), (0, vR (10, b, 0)), (1, vI v), (2, vI u), (3, vI t)]) dX0_wouldHear_93 rfl (by decide) (fun _ => rfl) (rfl : v6_31.toInt = v6_31.toInt) li_1 (lf_c_X0_wouldHear_5 v6_31 r12_ hv0_31 h15_ h16_) (fun z29_ h30_ => ?_)
                    refine w_goto (tgt := 31) dX0_wouldHear_96 (by decide) ?_
                    refine w_loc (ls' := [(6, vI z29_), (5, vI v5_21), (4, vR (9, b, j6_)), (0, vR (10, b, 0)), (1, vI v), (2, vI u), (3, vI t)]) [0, 2, 3, 4, 5, 6, 7] rfl ?_
                    exact ih_31 M_31 hI_31 hF_31 z29_ (lf_c_X0_wouldHear_6 v6_31 r12_ z29_ hv0_31 h15_ h16_ h30_) (Nat.lt_of_lt_of_le (lf_c_X0_wouldHear_7 v6_31 r12_ z29_ hv0_31 h15_ h16_ h30_) (Nat.le_of_lt_succ hm_31))
                  · refine w_aload_n dX0_wouldHear_70 rfl 4 rfl ?_
                    refine w_getR (c' := (2, b, 0)) fl_RX0_126 rfl rfl (ic_10 hb) dX0_wouldHear_71 rfl ?_
                    refine w_aload dX0_wouldHear_74 3 rfl ?_
                    refine w_callV (as := []) (rest := [vR (2, b, 0)]) (c_X9_ears l G cy ad (d + 2) b j6_ M_31 hI_31 hb h8_) kV_X9_ears (by decide +kernel) (Nat.le_of_ble_eq_true rfl) m_1168 rfl rfl rfl (ic_9 hb h8_) rfl rfl (by decide) (Nat.le_of_ble_eq_true rfl) dX0_wouldHear_76 (fun r31_ M32_ q33_ => ?_)
                    obtain ⟨rfl, h34_⟩ := q33_
                    refine w_iconst (v := 1) dX0_wouldHear_79 (by decide) ?_
                    refine w_aload dX0_wouldHear_80 3 rfl ?_
                    refine w_callV (as := []) (rest := [vI 1, vI r31_, vR (2, b, 0)]) (c_X9_ownClick l G cy ad (d + 2) b j6_ M_31 hI_31 hb h8_) kV_X9_ownClick (by decide +kernel) (Nat.le_of_ble_eq_true rfl) m_1169 rfl rfl rfl (ic_9 hb h8_) rfl rfl (by decide) (Nat.le_of_ble_eq_true rfl) dX0_wouldHear_82 (fun r35_ M36_ q37_ => ?_)
                    obtain ⟨rfl, h38_⟩ := q37_
                    refine w_iload dX0_wouldHear_85 1 rfl ?_
                    refine w_iload dX0_wouldHear_87 2 rfl ?_
                    refine w_callV (as := [vI r31_, vI 1, vI r35_, vI v6_31, vI v5_21]) (rest := []) (c_X2_hears l G cy ad d b r31_ 1 r35_ v6_31 v5_21 M_31 hI_31 hb) kV_X2_hears (by decide +kernel) (Nat.le_of_ble_eq_true rfl) m_1170 rfl rfl rfl (ic_2 hb) rfl rfl (by decide) (Nat.le_of_ble_eq_true rfl) dX0_wouldHear_89 (fun r39_ M40_ q41_ => ?_)
                    obtain ⟨hI43_, hF44_, h42_⟩ := q41_
                    have hF45_ := hF_31.tr hF44_ (fun c k => (fun h => h.elim (fun h => (Or.inl ⟨h.1, h.2.1, h.2.2⟩)) (fun h => h.elim (fun h => (Or.inr (Or.inl ⟨h.1, h.2.1, h.2.2⟩))) (fun h => h.elim (fun h => (Or.inr (Or.inr (Or.inl ⟨h.1, h.2.1, h.2.2⟩)))) (fun h => h.elim (fun h => (Or.inr (Or.inr (Or.inr (Or.inl ⟨h.1, h.2.1, h.2.2⟩))))) (fun h => h.elim (fun h => (Or.inr (Or.inr (Or.inr (Or.inr (Or.inl ⟨h.1, h.2.1, h.2.2⟩)))))) (fun h => h.elim (fun h => (Or.inr (Or.inr (Or.inr (Or.inr (Or.inr (Or.inl ⟨h.1, h.2.1, h.2.2⟩))))))) (fun h => h.elim))))))))
                    exact w_zret rfl dX0_wouldHear_92 (lf_c_X0_wouldHear_9 r39_ h42_) ⟨hI43_, hF45_, (lf_c_X0_wouldHear_8 r39_ h42_)⟩
                · refine w_goto (tgt := 99) dX0_wouldHear_61 (by decide) ?_
                  refine w_iincB (j := 2) (f := fun z46_ => [(5, vI z46_), (7, vI r19_), (6, vI v6_31), (4, vR (9, b, j6_)), (0, vR (10, b, 0)), (1, vI v), (2, vI u), (3, vI t)]) dX0_wouldHear_99 rfl (by decide) (fun _ => rfl) (rfl : v5_21.toInt = v5_21.toInt) li_1 (lf_c_X0_wouldHear_10 v5_21 hv0_21 hv1_21 h10_) (fun z46_ h47_ => ?_)
                  refine w_goto (tgt := 21) dX0_wouldHear_102 (by decide) ?_
                  refine w_loc (ls' := [(5, vI z46_), (4, vR (9, b, j6_)), (0, vR (10, b, 0)), (1, vI v), (2, vI u), (3, vI t)]) [0, 3, 4, 5, 6, 7] rfl ?_
                  exact ih_21 M_31 hI_31 hF_31 z46_ (lf_c_X0_wouldHear_11 v5_21 z46_ hv0_21 hv1_21 h10_ h47_) (lf_c_X0_wouldHear_12 v5_21 z46_ hv0_21 hv1_21 h10_ h47_) (Nat.lt_of_lt_of_le (lf_c_X0_wouldHear_13 v5_21 z46_ hv0_21 hv1_21 h10_ h47_) (Nat.le_of_lt_succ hm_21))
          exact lp11_ _ M_21 hI_21 hF_21 1 (lf_c_X0_wouldHear_14 ) (Nat.lt_succ_self _)
    exact lp9_ _ Mz hIz hFz 0 (lf_c_X0_wouldHear_15 ) (lf_c_X0_wouldHear_16 ) (Nat.lt_succ_self _)
  · refine w_if_ne (tgt := 10) dX0_wouldHear_5 (by decide) li_0 (fun h9 => (absurd h9 (by decide))) (fun h48_ => ?_)
    refine w_iconst (v := 0) dX0_wouldHear_8 (by decide) ?_
    exact w_zret rfl dX0_wouldHear_9 ⟨by decide, by decide⟩ ⟨hIz, hFz, ⟨by decide, by decide⟩⟩
def S_c_X0_choosePosts (b : Nat) (w : Nat) (w2 : Nat) : rf → Nat → Prop := fun c k => (c.1 = 0 ∧ c.2.1 = 0 ∧ k = 5) ∨ (c.1 = 23 ∧ c.2.1 = 0) ∨ (c.1 = 29 ∧ c.2.1 = b ∧ k = 0) ∨ (c.1 = 29 ∧ c.2.1 = b ∧ k = 1) ∨ (c.1 = 29 ∧ c.2.1 = b ∧ k = 2) ∨ (c.1 = 29 ∧ c.2.1 = b ∧ k = 3) ∨ (c.1 = 25 ∧ c.2.1 = b ∧ c.2.2 = 0) ∨ (c.1 = 25 ∧ c.2.1 = b ∧ c.2.2 = 1) ∨ False
theorem lf_c_X0_choosePosts_0  (v5_102 : Int32) (z22_ : Int32) (hv0_102 : 1 ≤ v5_102.toInt) (hv1_102 : v5_102.toInt ≤ 256) (h11_ : v5_102.toInt < 256) (h23_ : z22_.toInt ≤ v5_102.toInt) : -2147483648 ≤ v5_102.toInt + 1 ∧ v5_102.toInt + 1 < 2147483648 := by have r_v5_102 := rngI v5_102; have r_z22_ := rngI z22_; omega
theorem lf_c_X0_choosePosts_1  (v5_102 : Int32) (z22_ : Int32) (z24_ : Int32) (hv0_102 : 1 ≤ v5_102.toInt) (hv1_102 : v5_102.toInt ≤ 256) (h11_ : v5_102.toInt < 256) (h23_ : z22_.toInt ≤ v5_102.toInt) (h25_ : z24_.toInt = v5_102.toInt + 1) : 1 ≤ z24_.toInt := by have r_v5_102 := rngI v5_102; have r_z22_ := rngI z22_; have r_z24_ := rngI z24_; omega
theorem lf_c_X0_choosePosts_2  (v5_102 : Int32) (z22_ : Int32) (z24_ : Int32) (hv0_102 : 1 ≤ v5_102.toInt) (hv1_102 : v5_102.toInt ≤ 256) (h11_ : v5_102.toInt < 256) (h23_ : z22_.toInt ≤ v5_102.toInt) (h25_ : z24_.toInt = v5_102.toInt + 1) : z24_.toInt ≤ 256 := by have r_v5_102 := rngI v5_102; have r_z22_ := rngI z22_; have r_z24_ := rngI z24_; omega
theorem lf_c_X0_choosePosts_3  (v5_102 : Int32) (z22_ : Int32) (z24_ : Int32) (hv0_102 : 1 ≤ v5_102.toInt) (hv1_102 : v5_102.toInt ≤ 256) (h11_ : v5_102.toInt < 256) (h23_ : z22_.toInt ≤ v5_102.toInt) (h25_ : z24_.toInt = v5_102.toInt + 1) : (2147483648 - z24_.toInt).toNat < (2147483648 - v5_102.toInt).toNat := by have r_v5_102 := rngI v5_102; have r_z22_ := rngI z22_; have r_z24_ := rngI z24_; omega
theorem lf_c_X0_choosePosts_4  (v5_102 : Int32) (z22_ : Int32) (hv0_102 : 1 ≤ v5_102.toInt) (hv1_102 : v5_102.toInt ≤ 256) (h11_ : v5_102.toInt < 256) (h23_ : v5_102.toInt < z22_.toInt) : -2147483648 ≤ v5_102.toInt + 1 ∧ v5_102.toInt + 1 < 2147483648 := by have r_v5_102 := rngI v5_102; have r_z22_ := rngI z22_; omega
theorem lf_c_X0_choosePosts_5  (v5_102 : Int32) (z22_ : Int32) (z34_ : Int32) (hv0_102 : 1 ≤ v5_102.toInt) (hv1_102 : v5_102.toInt ≤ 256) (h11_ : v5_102.toInt < 256) (h23_ : v5_102.toInt < z22_.toInt) (h35_ : z34_.toInt = v5_102.toInt + 1) : 1 ≤ z34_.toInt := by have r_v5_102 := rngI v5_102; have r_z22_ := rngI z22_; have r_z34_ := rngI z34_; omega
theorem lf_c_X0_choosePosts_6  (v5_102 : Int32) (z22_ : Int32) (z34_ : Int32) (hv0_102 : 1 ≤ v5_102.toInt) (hv1_102 : v5_102.toInt ≤ 256) (h11_ : v5_102.toInt < 256) (h23_ : v5_102.toInt < z22_.toInt) (h35_ : z34_.toInt = v5_102.toInt + 1) : z34_.toInt ≤ 256 := by have r_v5_102 := rngI v5_102; have r_z22_ := rngI z22_; have r_z34_ := rngI z34_; omega
theorem lf_c_X0_choosePosts_7  (v5_102 : Int32) (z22_ : Int32) (z34_ : Int32) (hv0_102 : 1 ≤ v5_102.toInt) (hv1_102 : v5_102.toInt ≤ 256) (h11_ : v5_102.toInt < 256) (h23_ : v5_102.toInt < z22_.toInt) (h35_ : z34_.toInt = v5_102.toInt + 1) : (2147483648 - z34_.toInt).toNat < (2147483648 - v5_102.toInt).toNat := by have r_v5_102 := rngI v5_102; have r_z22_ := rngI z22_; have r_z34_ := rngI z34_; omega
theorem lf_c_X0_choosePosts_8 (M36_ : mM) (M_102 : mM) (v5_102 : Int32) (z22_ : Int32) (hv0_102 : 1 ≤ v5_102.toInt) (hv1_102 : v5_102.toInt ≤ 256) (h11_ : v5_102.toInt < 256) (h23_ : v5_102.toInt < z22_.toInt) (hM37_ : M36_ = up M_102 (0, 0, 0) 5 v5_102) : -2147483648 ≤ v5_102.toInt + 1 ∧ v5_102.toInt + 1 < 2147483648 := by have r_v5_102 := rngI v5_102; have r_z22_ := rngI z22_; omega
theorem lf_c_X0_choosePosts_9 (M36_ : mM) (M_102 : mM) (v5_102 : Int32) (z22_ : Int32) (z40_ : Int32) (hv0_102 : 1 ≤ v5_102.toInt) (hv1_102 : v5_102.toInt ≤ 256) (h11_ : v5_102.toInt < 256) (h23_ : v5_102.toInt < z22_.toInt) (hM37_ : M36_ = up M_102 (0, 0, 0) 5 v5_102) (h41_ : z40_.toInt = v5_102.toInt + 1) : 1 ≤ z40_.toInt := by have r_v5_102 := rngI v5_102; have r_z22_ := rngI z22_; have r_z40_ := rngI z40_; omega
theorem lf_c_X0_choosePosts_10 (M36_ : mM) (M_102 : mM) (v5_102 : Int32) (z22_ : Int32) (z40_ : Int32) (hv0_102 : 1 ≤ v5_102.toInt) (hv1_102 : v5_102.toInt ≤ 256) (h11_ : v5_102.toInt < 256) (h23_ : v5_102.toInt < z22_.toInt) (hM37_ : M36_ = up M_102 (0, 0, 0) 5 v5_102) (h41_ : z40_.toInt = v5_102.toInt + 1) : z40_.toInt ≤ 256 := by have r_v5_102 := rngI v5_102; have r_z22_ := rngI z22_; have r_z40_ := rngI z40_; omega
theorem lf_c_X0_choosePosts_11 (M36_ : mM) (M_102 : mM) (v5_102 : Int32) (z22_ : Int32) (z40_ : Int32) (hv0_102 : 1 ≤ v5_102.toInt) (hv1_102 : v5_102.toInt ≤ 256) (h11_ : v5_102.toInt < 256) (h23_ : v5_102.toInt < z22_.toInt) (hM37_ : M36_ = up M_102 (0, 0, 0) 5 v5_102) (h41_ : z40_.toInt = v5_102.toInt + 1) : (2147483648 - z40_.toInt).toNat < (2147483648 - v5_102.toInt).toNat := by have r_v5_102 := rngI v5_102; have r_z22_ := rngI z22_; have r_z40_ := rngI z40_; omega
theorem lf_c_X0_choosePosts_12  (v5_102 : Int32) (hv0_102 : 1 ≤ v5_102.toInt) (hv1_102 : v5_102.toInt ≤ 256) (h11_ : v5_102.toInt < 256) : -2147483648 ≤ v5_102.toInt + 1 ∧ v5_102.toInt + 1 < 2147483648 := by have r_v5_102 := rngI v5_102; omega
theorem lf_c_X0_choosePosts_13  (v5_102 : Int32) (z54_ : Int32) (hv0_102 : 1 ≤ v5_102.toInt) (hv1_102 : v5_102.toInt ≤ 256) (h11_ : v5_102.toInt < 256) (h55_ : z54_.toInt = v5_102.toInt + 1) : 1 ≤ z54_.toInt := by have r_v5_102 := rngI v5_102; have r_z54_ := rngI z54_; omega
theorem lf_c_X0_choosePosts_14  (v5_102 : Int32) (z54_ : Int32) (hv0_102 : 1 ≤ v5_102.toInt) (hv1_102 : v5_102.toInt ≤ 256) (h11_ : v5_102.toInt < 256) (h55_ : z54_.toInt = v5_102.toInt + 1) : z54_.toInt ≤ 256 := by have r_v5_102 := rngI v5_102; have r_z54_ := rngI z54_; omega
theorem lf_c_X0_choosePosts_15  (v5_102 : Int32) (z54_ : Int32) (hv0_102 : 1 ≤ v5_102.toInt) (hv1_102 : v5_102.toInt ≤ 256) (h11_ : v5_102.toInt < 256) (h55_ : z54_.toInt = v5_102.toInt + 1) : (2147483648 - z54_.toInt).toNat < (2147483648 - v5_102.toInt).toNat := by have r_v5_102 := rngI v5_102; have r_z54_ := rngI z54_; omega
theorem lf_c_X0_choosePosts_16  (v5_102 : Int32) (z60_ : Int32) (hv0_102 : 1 ≤ v5_102.toInt) (hv1_102 : v5_102.toInt ≤ 256) (h11_ : v5_102.toInt < 256) (h61_ : z60_.toInt ≤ v5_102.toInt) : -2147483648 ≤ v5_102.toInt + 1 ∧ v5_102.toInt + 1 < 2147483648 := by have r_v5_102 := rngI v5_102; have r_z60_ := rngI z60_; omega
theorem lf_c_X0_choosePosts_17  (v5_102 : Int32) (z60_ : Int32) (z62_ : Int32) (hv0_102 : 1 ≤ v5_102.toInt) (hv1_102 : v5_102.toInt ≤ 256) (h11_ : v5_102.toInt < 256) (h61_ : z60_.toInt ≤ v5_102.toInt) (h63_ : z62_.toInt = v5_102.toInt + 1) : 1 ≤ z62_.toInt := by have r_v5_102 := rngI v5_102; have r_z60_ := rngI z60_; have r_z62_ := rngI z62_; omega
theorem lf_c_X0_choosePosts_18  (v5_102 : Int32) (z60_ : Int32) (z62_ : Int32) (hv0_102 : 1 ≤ v5_102.toInt) (hv1_102 : v5_102.toInt ≤ 256) (h11_ : v5_102.toInt < 256) (h61_ : z60_.toInt ≤ v5_102.toInt) (h63_ : z62_.toInt = v5_102.toInt + 1) : z62_.toInt ≤ 256 := by have r_v5_102 := rngI v5_102; have r_z60_ := rngI z60_; have r_z62_ := rngI z62_; omega
theorem lf_c_X0_choosePosts_19  (v5_102 : Int32) (z60_ : Int32) (z62_ : Int32) (hv0_102 : 1 ≤ v5_102.toInt) (hv1_102 : v5_102.toInt ≤ 256) (h11_ : v5_102.toInt < 256) (h61_ : z60_.toInt ≤ v5_102.toInt) (h63_ : z62_.toInt = v5_102.toInt + 1) : (2147483648 - z62_.toInt).toNat < (2147483648 - v5_102.toInt).toNat := by have r_v5_102 := rngI v5_102; have r_z60_ := rngI z60_; have r_z62_ := rngI z62_; omega
theorem lf_c_X0_choosePosts_20  (v5_102 : Int32) (z60_ : Int32) (hv0_102 : 1 ≤ v5_102.toInt) (hv1_102 : v5_102.toInt ≤ 256) (h11_ : v5_102.toInt < 256) (h61_ : v5_102.toInt < z60_.toInt) : -2147483648 ≤ v5_102.toInt + 1 ∧ v5_102.toInt + 1 < 2147483648 := by have r_v5_102 := rngI v5_102; have r_z60_ := rngI z60_; omega
theorem lf_c_X0_choosePosts_21  (v5_102 : Int32) (z60_ : Int32) (z72_ : Int32) (hv0_102 : 1 ≤ v5_102.toInt) (hv1_102 : v5_102.toInt ≤ 256) (h11_ : v5_102.toInt < 256) (h61_ : v5_102.toInt < z60_.toInt) (h73_ : z72_.toInt = v5_102.toInt + 1) : 1 ≤ z72_.toInt := by have r_v5_102 := rngI v5_102; have r_z60_ := rngI z60_; have r_z72_ := rngI z72_; omega
theorem lf_c_X0_choosePosts_22  (v5_102 : Int32) (z60_ : Int32) (z72_ : Int32) (hv0_102 : 1 ≤ v5_102.toInt) (hv1_102 : v5_102.toInt ≤ 256) (h11_ : v5_102.toInt < 256) (h61_ : v5_102.toInt < z60_.toInt) (h73_ : z72_.toInt = v5_102.toInt + 1) : z72_.toInt ≤ 256 := by have r_v5_102 := rngI v5_102; have r_z60_ := rngI z60_; have r_z72_ := rngI z72_; omega
theorem lf_c_X0_choosePosts_23  (v5_102 : Int32) (z60_ : Int32) (z72_ : Int32) (hv0_102 : 1 ≤ v5_102.toInt) (hv1_102 : v5_102.toInt ≤ 256) (h11_ : v5_102.toInt < 256) (h61_ : v5_102.toInt < z60_.toInt) (h73_ : z72_.toInt = v5_102.toInt + 1) : (2147483648 - z72_.toInt).toNat < (2147483648 - v5_102.toInt).toNat := by have r_v5_102 := rngI v5_102; have r_z60_ := rngI z60_; have r_z72_ := rngI z72_; omega
theorem lf_c_X0_choosePosts_24 (M74_ : mM) (M_102 : mM) (v5_102 : Int32) (z60_ : Int32) (hv0_102 : 1 ≤ v5_102.toInt) (hv1_102 : v5_102.toInt ≤ 256) (h11_ : v5_102.toInt < 256) (h61_ : v5_102.toInt < z60_.toInt) (hM75_ : M74_ = up M_102 (0, 0, 0) 5 v5_102) : -2147483648 ≤ v5_102.toInt + 1 ∧ v5_102.toInt + 1 < 2147483648 := by have r_v5_102 := rngI v5_102; have r_z60_ := rngI z60_; omega
theorem lf_c_X0_choosePosts_25 (M74_ : mM) (M_102 : mM) (v5_102 : Int32) (z60_ : Int32) (z78_ : Int32) (hv0_102 : 1 ≤ v5_102.toInt) (hv1_102 : v5_102.toInt ≤ 256) (h11_ : v5_102.toInt < 256) (h61_ : v5_102.toInt < z60_.toInt) (hM75_ : M74_ = up M_102 (0, 0, 0) 5 v5_102) (h79_ : z78_.toInt = v5_102.toInt + 1) : 1 ≤ z78_.toInt := by have r_v5_102 := rngI v5_102; have r_z60_ := rngI z60_; have r_z78_ := rngI z78_; omega
theorem lf_c_X0_choosePosts_26 (M74_ : mM) (M_102 : mM) (v5_102 : Int32) (z60_ : Int32) (z78_ : Int32) (hv0_102 : 1 ≤ v5_102.toInt) (hv1_102 : v5_102.toInt ≤ 256) (h11_ : v5_102.toInt < 256) (h61_ : v5_102.toInt < z60_.toInt) (hM75_ : M74_ = up M_102 (0, 0, 0) 5 v5_102) (h79_ : z78_.toInt = v5_102.toInt + 1) : z78_.toInt ≤ 256 := by have r_v5_102 := rngI v5_102; have r_z60_ := rngI z60_; have r_z78_ := rngI z78_; omega
theorem lf_c_X0_choosePosts_27 (M74_ : mM) (M_102 : mM) (v5_102 : Int32) (z60_ : Int32) (z78_ : Int32) (hv0_102 : 1 ≤ v5_102.toInt) (hv1_102 : v5_102.toInt ≤ 256) (h11_ : v5_102.toInt < 256) (h61_ : v5_102.toInt < z60_.toInt) (hM75_ : M74_ = up M_102 (0, 0, 0) 5 v5_102) (h79_ : z78_.toInt = v5_102.toInt + 1) : (2147483648 - z78_.toInt).toNat < (2147483648 - v5_102.toInt).toNat := by have r_v5_102 := rngI v5_102; have r_z60_ := rngI z60_; have r_z78_ := rngI z78_; omega
theorem lf_c_X0_choosePosts_28    : 1 ≤ (1 : Int32).toInt := by have q0 := li_1; omega
theorem lf_c_X0_choosePosts_29    : (1 : Int32).toInt ≤ 256 := by have q0 := li_1; omega
theorem lf_c_X0_choosePosts_30  (v5_102 : Int32) (z97_ : Int32) (hv0_102 : 1 ≤ v5_102.toInt) (hv1_102 : v5_102.toInt ≤ 256) (h86_ : v5_102.toInt < 256) (h98_ : z97_.toInt ≤ v5_102.toInt) : -2147483648 ≤ v5_102.toInt + 1 ∧ v5_102.toInt + 1 < 2147483648 := by have r_v5_102 := rngI v5_102; have r_z97_ := rngI z97_; omega
theorem lf_c_X0_choosePosts_31  (v5_102 : Int32) (z97_ : Int32) (z99_ : Int32) (hv0_102 : 1 ≤ v5_102.toInt) (hv1_102 : v5_102.toInt ≤ 256) (h86_ : v5_102.toInt < 256) (h98_ : z97_.toInt ≤ v5_102.toInt) (h100_ : z99_.toInt = v5_102.toInt + 1) : 1 ≤ z99_.toInt := by have r_v5_102 := rngI v5_102; have r_z97_ := rngI z97_; have r_z99_ := rngI z99_; omega
theorem lf_c_X0_choosePosts_32  (v5_102 : Int32) (z97_ : Int32) (z99_ : Int32) (hv0_102 : 1 ≤ v5_102.toInt) (hv1_102 : v5_102.toInt ≤ 256) (h86_ : v5_102.toInt < 256) (h98_ : z97_.toInt ≤ v5_102.toInt) (h100_ : z99_.toInt = v5_102.toInt + 1) : z99_.toInt ≤ 256 := by have r_v5_102 := rngI v5_102; have r_z97_ := rngI z97_; have r_z99_ := rngI z99_; omega
theorem lf_c_X0_choosePosts_33  (v5_102 : Int32) (z97_ : Int32) (z99_ : Int32) (hv0_102 : 1 ≤ v5_102.toInt) (hv1_102 : v5_102.toInt ≤ 256) (h86_ : v5_102.toInt < 256) (h98_ : z97_.toInt ≤ v5_102.toInt) (h100_ : z99_.toInt = v5_102.toInt + 1) : (2147483648 - z99_.toInt).toNat < (2147483648 - v5_102.toInt).toNat := by have r_v5_102 := rngI v5_102; have r_z97_ := rngI z97_; have r_z99_ := rngI z99_; omega
theorem lf_c_X0_choosePosts_34  (v5_102 : Int32) (z97_ : Int32) (hv0_102 : 1 ≤ v5_102.toInt) (hv1_102 : v5_102.toInt ≤ 256) (h86_ : v5_102.toInt < 256) (h98_ : v5_102.toInt < z97_.toInt) : -2147483648 ≤ v5_102.toInt + 1 ∧ v5_102.toInt + 1 < 2147483648 := by have r_v5_102 := rngI v5_102; have r_z97_ := rngI z97_; omega
theorem lf_c_X0_choosePosts_35  (v5_102 : Int32) (z97_ : Int32) (z109_ : Int32) (hv0_102 : 1 ≤ v5_102.toInt) (hv1_102 : v5_102.toInt ≤ 256) (h86_ : v5_102.toInt < 256) (h98_ : v5_102.toInt < z97_.toInt) (h110_ : z109_.toInt = v5_102.toInt + 1) : 1 ≤ z109_.toInt := by have r_v5_102 := rngI v5_102; have r_z97_ := rngI z97_; have r_z109_ := rngI z109_; omega
theorem lf_c_X0_choosePosts_36  (v5_102 : Int32) (z97_ : Int32) (z109_ : Int32) (hv0_102 : 1 ≤ v5_102.toInt) (hv1_102 : v5_102.toInt ≤ 256) (h86_ : v5_102.toInt < 256) (h98_ : v5_102.toInt < z97_.toInt) (h110_ : z109_.toInt = v5_102.toInt + 1) : z109_.toInt ≤ 256 := by have r_v5_102 := rngI v5_102; have r_z97_ := rngI z97_; have r_z109_ := rngI z109_; omega
theorem lf_c_X0_choosePosts_37  (v5_102 : Int32) (z97_ : Int32) (z109_ : Int32) (hv0_102 : 1 ≤ v5_102.toInt) (hv1_102 : v5_102.toInt ≤ 256) (h86_ : v5_102.toInt < 256) (h98_ : v5_102.toInt < z97_.toInt) (h110_ : z109_.toInt = v5_102.toInt + 1) : (2147483648 - z109_.toInt).toNat < (2147483648 - v5_102.toInt).toNat := by have r_v5_102 := rngI v5_102; have r_z97_ := rngI z97_; have r_z109_ := rngI z109_; omega
theorem lf_c_X0_choosePosts_38 (M111_ : mM) (M_102 : mM) (v5_102 : Int32) (z97_ : Int32) (hv0_102 : 1 ≤ v5_102.toInt) (hv1_102 : v5_102.toInt ≤ 256) (h86_ : v5_102.toInt < 256) (h98_ : v5_102.toInt < z97_.toInt) (hM112_ : M111_ = up M_102 (0, 0, 0) 5 v5_102) : -2147483648 ≤ v5_102.toInt + 1 ∧ v5_102.toInt + 1 < 2147483648 := by have r_v5_102 := rngI v5_102; have r_z97_ := rngI z97_; omega
theorem lf_c_X0_choosePosts_39 (M111_ : mM) (M_102 : mM) (v5_102 : Int32) (z97_ : Int32) (z115_ : Int32) (hv0_102 : 1 ≤ v5_102.toInt) (hv1_102 : v5_102.toInt ≤ 256) (h86_ : v5_102.toInt < 256) (h98_ : v5_102.toInt < z97_.toInt) (hM112_ : M111_ = up M_102 (0, 0, 0) 5 v5_102) (h116_ : z115_.toInt = v5_102.toInt + 1) : 1 ≤ z115_.toInt := by have r_v5_102 := rngI v5_102; have r_z97_ := rngI z97_; have r_z115_ := rngI z115_; omega
theorem lf_c_X0_choosePosts_40 (M111_ : mM) (M_102 : mM) (v5_102 : Int32) (z97_ : Int32) (z115_ : Int32) (hv0_102 : 1 ≤ v5_102.toInt) (hv1_102 : v5_102.toInt ≤ 256) (h86_ : v5_102.toInt < 256) (h98_ : v5_102.toInt < z97_.toInt) (hM112_ : M111_ = up M_102 (0, 0, 0) 5 v5_102) (h116_ : z115_.toInt = v5_102.toInt + 1) : z115_.toInt ≤ 256 := by have r_v5_102 := rngI v5_102; have r_z97_ := rngI z97_; have r_z115_ := rngI z115_; omega
theorem lf_c_X0_choosePosts_41 (M111_ : mM) (M_102 : mM) (v5_102 : Int32) (z97_ : Int32) (z115_ : Int32) (hv0_102 : 1 ≤ v5_102.toInt) (hv1_102 : v5_102.toInt ≤ 256) (h86_ : v5_102.toInt < 256) (h98_ : v5_102.toInt < z97_.toInt) (hM112_ : M111_ = up M_102 (0, 0, 0) 5 v5_102) (h116_ : z115_.toInt = v5_102.toInt + 1) : (2147483648 - z115_.toInt).toNat < (2147483648 - v5_102.toInt).toNat := by have r_v5_102 := rngI v5_102; have r_z97_ := rngI z97_; have r_z115_ := rngI z115_; omega
theorem lf_c_X0_choosePosts_42  (v5_102 : Int32) (hv0_102 : 1 ≤ v5_102.toInt) (hv1_102 : v5_102.toInt ≤ 256) (h86_ : v5_102.toInt < 256) : -2147483648 ≤ v5_102.toInt + 1 ∧ v5_102.toInt + 1 < 2147483648 := by have r_v5_102 := rngI v5_102; omega
theorem lf_c_X0_choosePosts_43  (v5_102 : Int32) (z129_ : Int32) (hv0_102 : 1 ≤ v5_102.toInt) (hv1_102 : v5_102.toInt ≤ 256) (h86_ : v5_102.toInt < 256) (h130_ : z129_.toInt = v5_102.toInt + 1) : 1 ≤ z129_.toInt := by have r_v5_102 := rngI v5_102; have r_z129_ := rngI z129_; omega
theorem lf_c_X0_choosePosts_44  (v5_102 : Int32) (z129_ : Int32) (hv0_102 : 1 ≤ v5_102.toInt) (hv1_102 : v5_102.toInt ≤ 256) (h86_ : v5_102.toInt < 256) (h130_ : z129_.toInt = v5_102.toInt + 1) : z129_.toInt ≤ 256 := by have r_v5_102 := rngI v5_102; have r_z129_ := rngI z129_; omega
theorem lf_c_X0_choosePosts_45  (v5_102 : Int32) (z129_ : Int32) (hv0_102 : 1 ≤ v5_102.toInt) (hv1_102 : v5_102.toInt ≤ 256) (h86_ : v5_102.toInt < 256) (h130_ : z129_.toInt = v5_102.toInt + 1) : (2147483648 - z129_.toInt).toNat < (2147483648 - v5_102.toInt).toNat := by have r_v5_102 := rngI v5_102; have r_z129_ := rngI z129_; omega
theorem lf_c_X0_choosePosts_46  (v5_102 : Int32) (z135_ : Int32) (hv0_102 : 1 ≤ v5_102.toInt) (hv1_102 : v5_102.toInt ≤ 256) (h86_ : v5_102.toInt < 256) (h136_ : z135_.toInt ≤ v5_102.toInt) : -2147483648 ≤ v5_102.toInt + 1 ∧ v5_102.toInt + 1 < 2147483648 := by have r_v5_102 := rngI v5_102; have r_z135_ := rngI z135_; omega
theorem lf_c_X0_choosePosts_47  (v5_102 : Int32) (z135_ : Int32) (z137_ : Int32) (hv0_102 : 1 ≤ v5_102.toInt) (hv1_102 : v5_102.toInt ≤ 256) (h86_ : v5_102.toInt < 256) (h136_ : z135_.toInt ≤ v5_102.toInt) (h138_ : z137_.toInt = v5_102.toInt + 1) : 1 ≤ z137_.toInt := by have r_v5_102 := rngI v5_102; have r_z135_ := rngI z135_; have r_z137_ := rngI z137_; omega
theorem lf_c_X0_choosePosts_48  (v5_102 : Int32) (z135_ : Int32) (z137_ : Int32) (hv0_102 : 1 ≤ v5_102.toInt) (hv1_102 : v5_102.toInt ≤ 256) (h86_ : v5_102.toInt < 256) (h136_ : z135_.toInt ≤ v5_102.toInt) (h138_ : z137_.toInt = v5_102.toInt + 1) : z137_.toInt ≤ 256 := by have r_v5_102 := rngI v5_102; have r_z135_ := rngI z135_; have r_z137_ := rngI z137_; omega
theorem lf_c_X0_choosePosts_49  (v5_102 : Int32) (z135_ : Int32) (z137_ : Int32) (hv0_102 : 1 ≤ v5_102.toInt) (hv1_102 : v5_102.toInt ≤ 256) (h86_ : v5_102.toInt < 256) (h136_ : z135_.toInt ≤ v5_102.toInt) (h138_ : z137_.toInt = v5_102.toInt + 1) : (2147483648 - z137_.toInt).toNat < (2147483648 - v5_102.toInt).toNat := by have r_v5_102 := rngI v5_102; have r_z135_ := rngI z135_; have r_z137_ := rngI z137_; omega
theorem lf_c_X0_choosePosts_50  (v5_102 : Int32) (z135_ : Int32) (hv0_102 : 1 ≤ v5_102.toInt) (hv1_102 : v5_102.toInt ≤ 256) (h86_ : v5_102.toInt < 256) (h136_ : v5_102.toInt < z135_.toInt) : -2147483648 ≤ v5_102.toInt + 1 ∧ v5_102.toInt + 1 < 2147483648 := by have r_v5_102 := rngI v5_102; have r_z135_ := rngI z135_; omega
theorem lf_c_X0_choosePosts_51  (v5_102 : Int32) (z135_ : Int32) (z147_ : Int32) (hv0_102 : 1 ≤ v5_102.toInt) (hv1_102 : v5_102.toInt ≤ 256) (h86_ : v5_102.toInt < 256) (h136_ : v5_102.toInt < z135_.toInt) (h148_ : z147_.toInt = v5_102.toInt + 1) : 1 ≤ z147_.toInt := by have r_v5_102 := rngI v5_102; have r_z135_ := rngI z135_; have r_z147_ := rngI z147_; omega
theorem lf_c_X0_choosePosts_52  (v5_102 : Int32) (z135_ : Int32) (z147_ : Int32) (hv0_102 : 1 ≤ v5_102.toInt) (hv1_102 : v5_102.toInt ≤ 256) (h86_ : v5_102.toInt < 256) (h136_ : v5_102.toInt < z135_.toInt) (h148_ : z147_.toInt = v5_102.toInt + 1) : z147_.toInt ≤ 256 := by have r_v5_102 := rngI v5_102; have r_z135_ := rngI z135_; have r_z147_ := rngI z147_; omega
theorem lf_c_X0_choosePosts_53  (v5_102 : Int32) (z135_ : Int32) (z147_ : Int32) (hv0_102 : 1 ≤ v5_102.toInt) (hv1_102 : v5_102.toInt ≤ 256) (h86_ : v5_102.toInt < 256) (h136_ : v5_102.toInt < z135_.toInt) (h148_ : z147_.toInt = v5_102.toInt + 1) : (2147483648 - z147_.toInt).toNat < (2147483648 - v5_102.toInt).toNat := by have r_v5_102 := rngI v5_102; have r_z135_ := rngI z135_; have r_z147_ := rngI z147_; omega
theorem lf_c_X0_choosePosts_54 (M149_ : mM) (M_102 : mM) (v5_102 : Int32) (z135_ : Int32) (hv0_102 : 1 ≤ v5_102.toInt) (hv1_102 : v5_102.toInt ≤ 256) (h86_ : v5_102.toInt < 256) (h136_ : v5_102.toInt < z135_.toInt) (hM150_ : M149_ = up M_102 (0, 0, 0) 5 v5_102) : -2147483648 ≤ v5_102.toInt + 1 ∧ v5_102.toInt + 1 < 2147483648 := by have r_v5_102 := rngI v5_102; have r_z135_ := rngI z135_; omega
theorem lf_c_X0_choosePosts_55 (M149_ : mM) (M_102 : mM) (v5_102 : Int32) (z135_ : Int32) (z153_ : Int32) (hv0_102 : 1 ≤ v5_102.toInt) (hv1_102 : v5_102.toInt ≤ 256) (h86_ : v5_102.toInt < 256) (h136_ : v5_102.toInt < z135_.toInt) (hM150_ : M149_ = up M_102 (0, 0, 0) 5 v5_102) (h154_ : z153_.toInt = v5_102.toInt + 1) : 1 ≤ z153_.toInt := by have r_v5_102 := rngI v5_102; have r_z135_ := rngI z135_; have r_z153_ := rngI z153_; omega
theorem lf_c_X0_choosePosts_56 (M149_ : mM) (M_102 : mM) (v5_102 : Int32) (z135_ : Int32) (z153_ : Int32) (hv0_102 : 1 ≤ v5_102.toInt) (hv1_102 : v5_102.toInt ≤ 256) (h86_ : v5_102.toInt < 256) (h136_ : v5_102.toInt < z135_.toInt) (hM150_ : M149_ = up M_102 (0, 0, 0) 5 v5_102) (h154_ : z153_.toInt = v5_102.toInt + 1) : z153_.toInt ≤ 256 := by have r_v5_102 := rngI v5_102; have r_z135_ := rngI z135_; have r_z153_ := rngI z153_; omega
theorem lf_c_X0_choosePosts_57 (M149_ : mM) (M_102 : mM) (v5_102 : Int32) (z135_ : Int32) (z153_ : Int32) (hv0_102 : 1 ≤ v5_102.toInt) (hv1_102 : v5_102.toInt ≤ 256) (h86_ : v5_102.toInt < 256) (h136_ : v5_102.toInt < z135_.toInt) (hM150_ : M149_ = up M_102 (0, 0, 0) 5 v5_102) (h154_ : z153_.toInt = v5_102.toInt + 1) : (2147483648 - z153_.toInt).toNat < (2147483648 - v5_102.toInt).toNat := by have r_v5_102 := rngI v5_102; have r_z135_ := rngI z135_; have r_z153_ := rngI z153_; omega
theorem lf_c_X0_choosePosts_58    : 1 ≤ (1 : Int32).toInt := by have q0 := li_1; omega
theorem lf_c_X0_choosePosts_59    : (1 : Int32).toInt ≤ 256 := by have q0 := li_1; omega
theorem lf_c_X0_choosePosts_60 (M_3 : mM) (w2 : Nat) (v5_3 : Int32) (z2_ : Int32) (hw2 : w2 < 4) (hv0_3 : 0 ≤ v5_3.toInt) (e3_ : z2_ = M_3.1 (6, 0, w2) 1) (h4_ : 0 ≤ z2_.toInt ∧ z2_.toInt ≤ 24) (h5_ : v5_3.toInt < z2_.toInt) (h80_ : v5_3.toInt < 8) : 0 ≤ v5_3.toInt ∧ v5_3.toInt < ((8 : Nat) : Int) := by have r_v5_3 := rngI v5_3; have r_z2_ := rngI z2_; subst e3_; omega
theorem lf_c_X0_choosePosts_61 (M155_ : mM) (M_3 : mM) (w2 : Nat) (v5_3 : Int32) (z2_ : Int32) (j157_ : Nat) (hw2 : w2 < 4) (hv0_3 : 0 ≤ v5_3.toInt) (e3_ : z2_ = M_3.1 (6, 0, w2) 1) (h4_ : 0 ≤ z2_.toInt ∧ z2_.toInt ≤ 24) (h5_ : v5_3.toInt < z2_.toInt) (h80_ : v5_3.toInt < 8) (h158_ : (j157_ : Int) = v5_3.toInt) (hM156_ : M155_ = up M_3 (23, 0, 0) j157_ 0) : -2147483648 ≤ v5_3.toInt + 1 ∧ v5_3.toInt + 1 < 2147483648 := by have r_v5_3 := rngI v5_3; have r_z2_ := rngI z2_; subst e3_; omega
theorem lf_c_X0_choosePosts_62 (M155_ : mM) (M_3 : mM) (w2 : Nat) (v5_3 : Int32) (z2_ : Int32) (j157_ : Nat) (z166_ : Int32) (hw2 : w2 < 4) (hv0_3 : 0 ≤ v5_3.toInt) (e3_ : z2_ = M_3.1 (6, 0, w2) 1) (h4_ : 0 ≤ z2_.toInt ∧ z2_.toInt ≤ 24) (h5_ : v5_3.toInt < z2_.toInt) (h80_ : v5_3.toInt < 8) (h158_ : (j157_ : Int) = v5_3.toInt) (hM156_ : M155_ = up M_3 (23, 0, 0) j157_ 0) (h167_ : z166_.toInt = v5_3.toInt + 1) : 0 ≤ z166_.toInt := by have r_v5_3 := rngI v5_3; have r_z2_ := rngI z2_; have r_z166_ := rngI z166_; omega
theorem lf_c_X0_choosePosts_63 (M155_ : mM) (M_3 : mM) (w2 : Nat) (v5_3 : Int32) (z2_ : Int32) (j157_ : Nat) (z166_ : Int32) (hw2 : w2 < 4) (hv0_3 : 0 ≤ v5_3.toInt) (e3_ : z2_ = M_3.1 (6, 0, w2) 1) (h4_ : 0 ≤ z2_.toInt ∧ z2_.toInt ≤ 24) (h5_ : v5_3.toInt < z2_.toInt) (h80_ : v5_3.toInt < 8) (h158_ : (j157_ : Int) = v5_3.toInt) (hM156_ : M155_ = up M_3 (23, 0, 0) j157_ 0) (h167_ : z166_.toInt = v5_3.toInt + 1) : (2147483648 - z166_.toInt).toNat < (2147483648 - v5_3.toInt).toNat := by have r_v5_3 := rngI v5_3; have r_z2_ := rngI z2_; have r_z166_ := rngI z166_; omega
theorem lf_c_X0_choosePosts_64 (M155_ : mM) (M_3 : mM) (w2 : Nat) (v5_3 : Int32) (z2_ : Int32) (j157_ : Nat) (hw2 : w2 < 4) (hv0_3 : 0 ≤ v5_3.toInt) (e3_ : z2_ = M_3.1 (6, 0, w2) 1) (h4_ : 0 ≤ z2_.toInt ∧ z2_.toInt ≤ 24) (h5_ : v5_3.toInt < z2_.toInt) (h80_ : v5_3.toInt < 8) (h158_ : (j157_ : Int) = v5_3.toInt) (hM156_ : M155_ = up M_3 (23, 0, 0) j157_ 0) : -2147483648 ≤ v5_3.toInt + 1 ∧ v5_3.toInt + 1 < 2147483648 := by have r_v5_3 := rngI v5_3; have r_z2_ := rngI z2_; subst e3_; omega
theorem lf_c_X0_choosePosts_65 (M155_ : mM) (M_3 : mM) (w2 : Nat) (v5_3 : Int32) (z2_ : Int32) (j157_ : Nat) (z169_ : Int32) (hw2 : w2 < 4) (hv0_3 : 0 ≤ v5_3.toInt) (e3_ : z2_ = M_3.1 (6, 0, w2) 1) (h4_ : 0 ≤ z2_.toInt ∧ z2_.toInt ≤ 24) (h5_ : v5_3.toInt < z2_.toInt) (h80_ : v5_3.toInt < 8) (h158_ : (j157_ : Int) = v5_3.toInt) (hM156_ : M155_ = up M_3 (23, 0, 0) j157_ 0) (h170_ : z169_.toInt = v5_3.toInt + 1) : 0 ≤ z169_.toInt := by have r_v5_3 := rngI v5_3; have r_z2_ := rngI z2_; have r_z169_ := rngI z169_; omega
theorem lf_c_X0_choosePosts_66 (M155_ : mM) (M_3 : mM) (w2 : Nat) (v5_3 : Int32) (z2_ : Int32) (j157_ : Nat) (z169_ : Int32) (hw2 : w2 < 4) (hv0_3 : 0 ≤ v5_3.toInt) (e3_ : z2_ = M_3.1 (6, 0, w2) 1) (h4_ : 0 ≤ z2_.toInt ∧ z2_.toInt ≤ 24) (h5_ : v5_3.toInt < z2_.toInt) (h80_ : v5_3.toInt < 8) (h158_ : (j157_ : Int) = v5_3.toInt) (hM156_ : M155_ = up M_3 (23, 0, 0) j157_ 0) (h170_ : z169_.toInt = v5_3.toInt + 1) : (2147483648 - z169_.toInt).toNat < (2147483648 - v5_3.toInt).toNat := by have r_v5_3 := rngI v5_3; have r_z2_ := rngI z2_; have r_z169_ := rngI z169_; omega
theorem lf_c_X0_choosePosts_67 (M_31 : mM) (w : Nat) (v6_31 : Int32) (z162_ : Int32) (hw : w < 4) (hv0_31 : 0 ≤ v6_31.toInt) (e163_ : z162_ = M_31.1 (6, 0, w) 1) (h164_ : 0 ≤ z162_.toInt ∧ z162_.toInt ≤ 24) (h165_ : v6_31.toInt < z162_.toInt) (h168_ : v6_31.toInt < 8) : -2147483648 ≤ v6_31.toInt + 1 ∧ v6_31.toInt + 1 < 2147483648 := by have r_v6_31 := rngI v6_31; have r_z162_ := rngI z162_; subst e163_; omega
theorem lf_c_X0_choosePosts_68 (M_31 : mM) (w : Nat) (v6_31 : Int32) (z162_ : Int32) (z187_ : Int32) (hw : w < 4) (hv0_31 : 0 ≤ v6_31.toInt) (e163_ : z162_ = M_31.1 (6, 0, w) 1) (h164_ : 0 ≤ z162_.toInt ∧ z162_.toInt ≤ 24) (h165_ : v6_31.toInt < z162_.toInt) (h168_ : v6_31.toInt < 8) (h188_ : z187_.toInt = v6_31.toInt + 1) : 0 ≤ z187_.toInt := by have r_v6_31 := rngI v6_31; have r_z162_ := rngI z162_; have r_z187_ := rngI z187_; omega
theorem lf_c_X0_choosePosts_69 (M_31 : mM) (w : Nat) (v6_31 : Int32) (z162_ : Int32) (z187_ : Int32) (hw : w < 4) (hv0_31 : 0 ≤ v6_31.toInt) (e163_ : z162_ = M_31.1 (6, 0, w) 1) (h164_ : 0 ≤ z162_.toInt ∧ z162_.toInt ≤ 24) (h165_ : v6_31.toInt < z162_.toInt) (h168_ : v6_31.toInt < 8) (h188_ : z187_.toInt = v6_31.toInt + 1) : (2147483648 - z187_.toInt).toNat < (2147483648 - v6_31.toInt).toNat := by have r_v6_31 := rngI v6_31; have r_z162_ := rngI z162_; have r_z187_ := rngI z187_; omega
theorem lf_c_X0_choosePosts_70 (M155_ : mM) (M_3 : mM) (w2 : Nat) (v5_3 : Int32) (z2_ : Int32) (j157_ : Nat) (hw2 : w2 < 4) (hv0_3 : 0 ≤ v5_3.toInt) (e3_ : z2_ = M_3.1 (6, 0, w2) 1) (h4_ : 0 ≤ z2_.toInt ∧ z2_.toInt ≤ 24) (h5_ : v5_3.toInt < z2_.toInt) (h80_ : v5_3.toInt < 8) (h158_ : (j157_ : Int) = v5_3.toInt) (hM156_ : M155_ = up M_3 (23, 0, 0) j157_ 0) : 0 ≤ v5_3.toInt ∧ v5_3.toInt < ((8 : Nat) : Int) := by have r_v5_3 := rngI v5_3; have r_z2_ := rngI z2_; subst e3_; omega
theorem lf_c_X0_choosePosts_71 (M155_ : mM) (M180_ : mM) (M_3 : mM) (w2 : Nat) (v5_3 : Int32) (z2_ : Int32) (j157_ : Nat) (j191_ : Nat) (z189_ : Int32) (hw2 : w2 < 4) (hv0_3 : 0 ≤ v5_3.toInt) (e3_ : z2_ = M_3.1 (6, 0, w2) 1) (h4_ : 0 ≤ z2_.toInt ∧ z2_.toInt ≤ 24) (h5_ : v5_3.toInt < z2_.toInt) (h80_ : v5_3.toInt < 8) (h158_ : (j157_ : Int) = v5_3.toInt) (hM156_ : M155_ = up M_3 (23, 0, 0) j157_ 0) (h192_ : (j191_ : Int) = v5_3.toInt) (e190_ : z189_ = M180_.1 (23, 0, 0) j191_) : 0 ≤ v5_3.toInt ∧ v5_3.toInt < ((8 : Nat) : Int) := by have r_v5_3 := rngI v5_3; have r_z2_ := rngI z2_; have r_z189_ := rngI z189_; subst e3_; subst e190_; omega
theorem lf_c_X0_choosePosts_72 (M_31 : mM) (w : Nat) (v6_31 : Int32) (z162_ : Int32) (hw : w < 4) (hv0_31 : 0 ≤ v6_31.toInt) (e163_ : z162_ = M_31.1 (6, 0, w) 1) (h164_ : 0 ≤ z162_.toInt ∧ z162_.toInt ≤ 24) (h165_ : v6_31.toInt < z162_.toInt) (h168_ : v6_31.toInt < 8) : -2147483648 ≤ v6_31.toInt + 1 ∧ v6_31.toInt + 1 < 2147483648 := by have r_v6_31 := rngI v6_31; have r_z162_ := rngI z162_; subst e163_; omega
theorem lf_c_X0_choosePosts_73 (M_31 : mM) (w : Nat) (v6_31 : Int32) (z162_ : Int32) (z201_ : Int32) (hw : w < 4) (hv0_31 : 0 ≤ v6_31.toInt) (e163_ : z162_ = M_31.1 (6, 0, w) 1) (h164_ : 0 ≤ z162_.toInt ∧ z162_.toInt ≤ 24) (h165_ : v6_31.toInt < z162_.toInt) (h168_ : v6_31.toInt < 8) (h202_ : z201_.toInt = v6_31.toInt + 1) : 0 ≤ z201_.toInt := by have r_v6_31 := rngI v6_31; have r_z162_ := rngI z162_; have r_z201_ := rngI z201_; omega
theorem lf_c_X0_choosePosts_74 (M_31 : mM) (w : Nat) (v6_31 : Int32) (z162_ : Int32) (z201_ : Int32) (hw : w < 4) (hv0_31 : 0 ≤ v6_31.toInt) (e163_ : z162_ = M_31.1 (6, 0, w) 1) (h164_ : 0 ≤ z162_.toInt ∧ z162_.toInt ≤ 24) (h165_ : v6_31.toInt < z162_.toInt) (h168_ : v6_31.toInt < 8) (h202_ : z201_.toInt = v6_31.toInt + 1) : (2147483648 - z201_.toInt).toNat < (2147483648 - v6_31.toInt).toNat := by have r_v6_31 := rngI v6_31; have r_z162_ := rngI z162_; have r_z201_ := rngI z201_; omega
theorem lf_c_X0_choosePosts_75    : 0 ≤ (0 : Int32).toInt := by have q0 := li_0; omega
theorem lf_c_X0_choosePosts_76    : 0 ≤ (0 : Int32).toInt := by have q0 := li_0; omega
set_option maxHeartbeats 4000000 in
set_option maxRecDepth 100000 in
theorem c_X0_choosePosts (l : Launch) (G : va_G) (cy : Nat → ClassId) (ad : rf → Nat) (d : Nat) (b : Nat) (w : Nat) (w2 : Nat) (v : Int32) (Mz : mM) (hIz : Inv Mz) (hb : b < 3) (hw : w < 4) (hw2 : w2 < 4) : WP CC l G cy ad yX0_choosePosts cX0_choosePosts 7 (some .boolean) (d + 4) 0 [(0, vR (0, 0, 0)), (1, vR (10, b, 0)), (2, vI v), (3, vR (6, 0, w)), (4, vR (6, 0, w2))] [] Mz (fun r M' => Inv M' ∧ FR (S_c_X0_choosePosts b w w2) Mz M' ∧ (0 ≤ r.toInt ∧ r.toInt ≤ 1)) := by
  have hFz : FR (S_c_X0_choosePosts b w w2) Mz Mz := FR.self
  refine w_iconst (v := 0) dX0_choosePosts_0 (by decide) ?_
  refine w_istore (ls' := [(5, vI 0), (0, vR (0, 0, 0)), (1, vR (10, b, 0)), (2, vI v), (3, vR (6, 0, w)), (4, vR (6, 0, w2))]) dX0_choosePosts_1 (by decide) rfl ?_
  have lp1_ : ∀ (nn_3 : Nat) (M_3 : mM) (hI_3 : Inv M_3) (hF_3 : FR (S_c_X0_choosePosts b w w2) Mz M_3) (v5_3 : Int32) (hv0_3 : 0 ≤ v5_3.toInt), (2147483648 - v5_3.toInt).toNat < nn_3 → WP CC l G cy ad yX0_choosePosts cX0_choosePosts 7 (some .boolean) (d + 4) 3 [(5, vI v5_3), (0, vR (0, 0, 0)), (1, vR (10, b, 0)), (2, vI v), (3, vR (6, 0, w)), (4, vR (6, 0, w2))] [] M_3 (fun r M' => Inv M' ∧ FR (S_c_X0_choosePosts b w w2) Mz M' ∧ (0 ≤ r.toInt ∧ r.toInt ≤ 1)) := by
    intro nn_3
    induction nn_3 with
    | zero => intro M_3 hI_3 hF_3 v5_3 hv0_3 hm_3; exact absurd hm_3 (Nat.not_lt_zero _)
    | succ nn_3 ih_3 =>
      intro M_3 hI_3 hF_3 v5_3 hv0_3 hm_3
      refine w_iload dX0_choosePosts_3 0 rfl ?_
      refine w_aload dX0_choosePosts_5 5 rfl ?_
      refine w_getI fl_RX0_65 rfl rfl (ic_6 hw2) dX0_choosePosts_7 (fun z2_ e3_ => ?_)
      have h4_ : 0 ≤ z2_.toInt ∧ z2_.toInt ≤ 24 := ofEq (P := fun v => 0 ≤ v.toInt ∧ v.toInt ≤ 24) e3_ (hI_3 (6, 0, w2) 1 rfl)
      refine w_icmp_ge (tgt := 94) dX0_choosePosts_10 (by decide) (rfl : v5_3.toInt = v5_3.toInt) (rfl : z2_.toInt = z2_.toInt) (fun h5_ => ?_) (fun h5_ => ?_)
      · refine w_aload_n dX0_choosePosts_94 rfl 1 rfl ?_
        refine w_iconst (v := 0) dX0_choosePosts_95 (by decide) ?_
        refine w_putI CC_nd fl_RX0_30 rfl rfl ic_0 dX0_choosePosts_96 (fun M6_ hM7_ => ?_)
        have hI8_ := hI_3.put hM7_ trivial
        have hF9_ := hF_3.put hM7_ (Or.inl ⟨rfl, rfl, rfl⟩)
        refine w_iconst (v := 1) dX0_choosePosts_99 (by decide) ?_
        refine w_istore (ls' := [(5, vI 1), (0, vR (0, 0, 0)), (1, vR (10, b, 0)), (2, vI v), (3, vR (6, 0, w)), (4, vR (6, 0, w2))]) dX0_choosePosts_100 (by decide) rfl ?_
        have lp10_ : ∀ (nn_102 : Nat) (M_102 : mM) (hI_102 : Inv M_102) (hF_102 : FR (S_c_X0_choosePosts b w w2) Mz M_102) (v5_102 : Int32) (hv0_102 : 1 ≤ v5_102.toInt) (hv1_102 : v5_102.toInt ≤ 256), (2147483648 - v5_102.toInt).toNat < nn_102 → WP CC l G cy ad yX0_choosePosts cX0_choosePosts 7 (some .boolean) (d + 4) 102 [(5, vI v5_102), (0, vR (0, 0, 0)), (1, vR (10, b, 0)), (2, vI v), (3, vR (6, 0, w)), (4, vR (6, 0, w2))] [] M_102 (fun r M' => Inv M' ∧ FR (S_c_X0_choosePosts b w w2) Mz M' ∧ (0 ≤ r.toInt ∧ r.toInt ≤ 1)) := by
          intro nn_102
          induction nn_102 with
          | zero => intro M_102 hI_102 hF_102 v5_102 hv0_102 hv1_102 hm_102; exact absurd hm_102 (Nat.not_lt_zero _)
          | succ nn_102 ih_102 =>
            intro M_102 hI_102 hF_102 v5_102 hv0_102 hv1_102 hm_102
            refine w_iload dX0_choosePosts_102 0 rfl ?_
            refine w_sipush (v := 256) dX0_choosePosts_104 (by decide) ?_
            refine w_icmp_ge (tgt := 181) dX0_choosePosts_107 (by decide) (rfl : v5_102.toInt = v5_102.toInt) li_256 (fun h11_ => ?_) (fun h11_ => ?_)
            · refine w_aload_n dX0_choosePosts_181 rfl 1 rfl ?_
              refine w_getI fl_RX0_30 rfl rfl ic_0 dX0_choosePosts_182 (fun z12_ e13_ => ?_)
              refine w_if_eq (tgt := 192) dX0_choosePosts_185 (by decide) (rfl : z12_.toInt = z12_.toInt) (fun h14_ => ?_) (fun h14_ => ?_)
              · refine w_iconst (v := 0) dX0_choosePosts_192 (by decide) ?_
                exact w_zret rfl dX0_choosePosts_193 ⟨by decide, by decide⟩ ⟨hI_102, hF_102, ⟨by decide, by decide⟩⟩
              · refine w_iconst (v := 1) dX0_choosePosts_188 (by decide) ?_
                refine w_goto (tgt := 193) dX0_choosePosts_189 (by decide) ?_
                exact w_zret rfl dX0_choosePosts_193 ⟨by decide, by decide⟩ ⟨hI_102, hF_102, ⟨by decide, by decide⟩⟩
            · refine w_aload_n dX0_choosePosts_110 rfl 1 rfl ?_
              refine w_getI fl_RX0_30 rfl rfl ic_0 dX0_choosePosts_111 (fun z15_ e16_ => ?_)
              refine w_if_eq (tgt := 132) dX0_choosePosts_114 (by decide) (rfl : z15_.toInt = z15_.toInt) (fun h17_ => ?_) (fun h17_ => ?_)
              · refine w_iconst (v := 1) dX0_choosePosts_132 (by decide) ?_
                refine w_goto (tgt := 137) dX0_choosePosts_133 (by decide) ?_
                refine w_istore (ls' := [(6, vI 1), (5, vI v5_102), (0, vR (0, 0, 0)), (1, vR (10, b, 0)), (2, vI v), (3, vR (6, 0, w)), (4, vR (6, 0, w2))]) dX0_choosePosts_137 (by decide) rfl ?_
                refine w_iload dX0_choosePosts_139 0 rfl ?_
                refine w_if_eq (tgt := 175) dX0_choosePosts_141 (by decide) li_1 (fun h9 => (absurd h9 (by decide))) (fun h18_ => ?_)
                refine w_iload dX0_choosePosts_144 1 rfl ?_
                refine w_iconst (v := 1) dX0_choosePosts_146 (by decide) ?_
                refine w_aload_n dX0_choosePosts_147 rfl 5 rfl ?_
                refine w_getI fl_RX0_65 rfl rfl (ic_6 hw) dX0_choosePosts_148 (fun z19_ e20_ => ?_)
                have h21_ : 0 ≤ z19_.toInt ∧ z19_.toInt ≤ 24 := ofEq (P := fun v => 0 ≤ v.toInt ∧ v.toInt ≤ 24) e20_ (hI_102 (6, 0, w) 1 rfl)
                refine w_ishl dX0_choosePosts_151 (fun z22_ _ => ?_)
                refine w_icmp_ge (tgt := 175) dX0_choosePosts_152 (by decide) (rfl : v5_102.toInt = v5_102.toInt) (rfl : z22_.toInt = z22_.toInt) (fun h23_ => ?_) (fun h23_ => ?_)
                · refine w_iincB (j := 1) (f := fun z24_ => [(5, vI z24_), (6, vI 1), (0, vR (0, 0, 0)), (1, vR (10, b, 0)), (2, vI v), (3, vR (6, 0, w)), (4, vR (6, 0, w2))]) dX0_choosePosts_175 rfl (by decide) (fun _ => rfl) (rfl : v5_102.toInt = v5_102.toInt) li_1 (lf_c_X0_choosePosts_0 v5_102 z22_ hv0_102 hv1_102 h11_ h23_) (fun z24_ h25_ => ?_)
                  refine w_goto (tgt := 102) dX0_choosePosts_178 (by decide) ?_
                  refine w_loc (ls' := [(5, vI z24_), (0, vR (0, 0, 0)), (1, vR (10, b, 0)), (2, vI v), (3, vR (6, 0, w)), (4, vR (6, 0, w2))]) [0, 2, 3, 4, 5, 6] rfl ?_
                  exact ih_102 M_102 hI_102 hF_102 z24_ (lf_c_X0_choosePosts_1 v5_102 z22_ z24_ hv0_102 hv1_102 h11_ h23_ h25_) (lf_c_X0_choosePosts_2 v5_102 z22_ z24_ hv0_102 hv1_102 h11_ h23_ h25_) (Nat.lt_of_lt_of_le (lf_c_X0_choosePosts_3 v5_102 z22_ z24_ hv0_102 hv1_102 h11_ h23_ h25_) (Nat.le_of_lt_succ hm_102))
                · refine w_aload_n dX0_choosePosts_155 rfl 2 rfl ?_
                  refine w_iload dX0_choosePosts_156 1 rfl ?_
                  refine w_aload dX0_choosePosts_158 6 rfl ?_
                  refine w_getI fl_RX0_65 rfl rfl (ic_6 hw2) dX0_choosePosts_160 (fun z26_ e27_ => ?_)
                  have h28_ : 0 ≤ z26_.toInt ∧ z26_.toInt ≤ 24 := ofEq (P := fun v => 0 ≤ v.toInt ∧ v.toInt ≤ 24) e27_ (hI_102 (6, 0, w2) 1 rfl)
                  refine w_callV (as := [vI v5_102, vI z26_]) (rest := []) (c_X0_servesAll l G cy ad (d + 3) v5_102 z26_ M_102 hI_102) kV_X0_servesAll (by decide +kernel) (Nat.le_of_ble_eq_true rfl) m_1171 rfl rfl rfl ic_0 rfl rfl (by decide) (Nat.le_of_ble_eq_true rfl) dX0_choosePosts_163 (fun r29_ M30_ q31_ => ?_)
                  obtain ⟨rfl, h32_⟩ := q31_
                  refine w_if_eq (tgt := 175) dX0_choosePosts_166 (by decide) (rfl : r29_.toInt = r29_.toInt) (fun h33_ => ?_) (fun h33_ => ?_)
                  · refine w_iincB (j := 1) (f := fun z34_ => [(5, vI z34_), (6, vI 1), (0, vR (0, 0, 0)), (1, vR (10, b, 0)), (2, vI v), (3, vR (6, 0, w)), (4, vR (6, 0, w2))]) dX0_choosePosts_175 rfl (by decide) (fun _ => rfl) (rfl : v5_102.toInt = v5_102.toInt) li_1 (lf_c_X0_choosePosts_4 v5_102 z22_ hv0_102 hv1_102 h11_ h23_) (fun z34_ h35_ => ?_)
                    refine w_goto (tgt := 102) dX0_choosePosts_178 (by decide) ?_
                    refine w_loc (ls' := [(5, vI z34_), (0, vR (0, 0, 0)), (1, vR (10, b, 0)), (2, vI v), (3, vR (6, 0, w)), (4, vR (6, 0, w2))]) [0, 2, 3, 4, 5, 6] rfl ?_
                    exact ih_102 M_102 hI_102 hF_102 z34_ (lf_c_X0_choosePosts_5 v5_102 z22_ z34_ hv0_102 hv1_102 h11_ h23_ h35_) (lf_c_X0_choosePosts_6 v5_102 z22_ z34_ hv0_102 hv1_102 h11_ h23_ h35_) (Nat.lt_of_lt_of_le (lf_c_X0_choosePosts_7 v5_102 z22_ z34_ hv0_102 hv1_102 h11_ h23_ h35_) (Nat.le_of_lt_succ hm_102))
                  · refine w_aload_n dX0_choosePosts_169 rfl 2 rfl ?_
                    refine w_iload dX0_choosePosts_170 1 rfl ?_
                    refine w_putI CC_nd fl_RX0_30 rfl rfl ic_0 dX0_choosePosts_172 (fun M36_ hM37_ => ?_)
                    have hI38_ := hI_102.put hM37_ trivial
                    have hF39_ := hF_102.put hM37_ (Or.inl ⟨rfl, rfl, rfl⟩)
                    refine w_iincB (j := 1) (f := fun z40_ => [(5, vI z40_), (6, vI 1), (0, vR (0, 0, 0)), (1, vR (10, b, 0)), (2, vI v), (3, vR (6, 0, w)), (4, vR (6, 0, w2))]) dX0_choosePosts_175 rfl (by decide) (fun _ => rfl) (rfl : v5_102.toInt = v5_102.toInt) li_1 (lf_c_X0_choosePosts_8 M36_ M_102 v5_102 z22_ hv0_102 hv1_102 h11_ h23_ hM37_) (fun z40_ h41_ => ?_)
                    refine w_goto (tgt := 102) dX0_choosePosts_178 (by decide) ?_
                    refine w_loc (ls' := [(5, vI z40_), (0, vR (0, 0, 0)), (1, vR (10, b, 0)), (2, vI v), (3, vR (6, 0, w)), (4, vR (6, 0, w2))]) [0, 2, 3, 4, 5, 6] rfl ?_
                    exact ih_102 M36_ hI38_ hF39_ z40_ (lf_c_X0_choosePosts_9 M36_ M_102 v5_102 z22_ z40_ hv0_102 hv1_102 h11_ h23_ hM37_ h41_) (lf_c_X0_choosePosts_10 M36_ M_102 v5_102 z22_ z40_ hv0_102 hv1_102 h11_ h23_ hM37_ h41_) (Nat.lt_of_lt_of_le (lf_c_X0_choosePosts_11 M36_ M_102 v5_102 z22_ z40_ hv0_102 hv1_102 h11_ h23_ hM37_ h41_) (Nat.le_of_lt_succ hm_102))
              · refine w_iload dX0_choosePosts_117 0 rfl ?_
                refine w_callS (as := [vI v5_102]) (rest := []) (c_JI_bitCount l G cy ad (d + 3) v5_102 M_102 hI_102) kS_JI_bitCount (by decide +kernel) (Nat.le_of_ble_eq_true rfl) m_1005 rfl rfl (by decide) (Nat.le_of_ble_eq_true rfl) dX0_choosePosts_119 (fun r42_ M43_ q44_ => ?_)
                obtain ⟨rfl, h45_⟩ := q44_
                refine w_aload_n dX0_choosePosts_122 rfl 1 rfl ?_
                refine w_getI fl_RX0_30 rfl rfl ic_0 dX0_choosePosts_123 (fun z46_ e47_ => ?_)
                obtain rfl : z15_ = z46_ := e16_.trans e47_.symm
                refine w_callS (as := [vI z15_]) (rest := [vI r42_]) (c_JI_bitCount l G cy ad (d + 3) z15_ M_102 hI_102) kS_JI_bitCount (by decide +kernel) (Nat.le_of_ble_eq_true rfl) m_1005 rfl rfl (by decide) (Nat.le_of_ble_eq_true rfl) dX0_choosePosts_126 (fun r48_ M49_ q50_ => ?_)
                obtain ⟨rfl, h51_⟩ := q50_
                refine w_icmp_ge (tgt := 136) dX0_choosePosts_129 (by decide) (rfl : r42_.toInt = r42_.toInt) (rfl : r48_.toInt = r48_.toInt) (fun h52_ => ?_) (fun h52_ => ?_)
                · refine w_iconst (v := 0) dX0_choosePosts_136 (by decide) ?_
                  refine w_istore (ls' := [(6, vI 0), (5, vI v5_102), (0, vR (0, 0, 0)), (1, vR (10, b, 0)), (2, vI v), (3, vR (6, 0, w)), (4, vR (6, 0, w2))]) dX0_choosePosts_137 (by decide) rfl ?_
                  refine w_iload dX0_choosePosts_139 0 rfl ?_
                  refine w_if_eq (tgt := 175) dX0_choosePosts_141 (by decide) li_0 (fun h53_ => ?_) (fun h9 => (absurd h9 (by decide)))
                  refine w_iincB (j := 1) (f := fun z54_ => [(5, vI z54_), (6, vI 0), (0, vR (0, 0, 0)), (1, vR (10, b, 0)), (2, vI v), (3, vR (6, 0, w)), (4, vR (6, 0, w2))]) dX0_choosePosts_175 rfl (by decide) (fun _ => rfl) (rfl : v5_102.toInt = v5_102.toInt) li_1 (lf_c_X0_choosePosts_12 v5_102 hv0_102 hv1_102 h11_) (fun z54_ h55_ => ?_)
                  refine w_goto (tgt := 102) dX0_choosePosts_178 (by decide) ?_
                  refine w_loc (ls' := [(5, vI z54_), (0, vR (0, 0, 0)), (1, vR (10, b, 0)), (2, vI v), (3, vR (6, 0, w)), (4, vR (6, 0, w2))]) [0, 2, 3, 4, 5, 6] rfl ?_
                  exact ih_102 M_102 hI_102 hF_102 z54_ (lf_c_X0_choosePosts_13 v5_102 z54_ hv0_102 hv1_102 h11_ h55_) (lf_c_X0_choosePosts_14 v5_102 z54_ hv0_102 hv1_102 h11_ h55_) (Nat.lt_of_lt_of_le (lf_c_X0_choosePosts_15 v5_102 z54_ hv0_102 hv1_102 h11_ h55_) (Nat.le_of_lt_succ hm_102))
                · refine w_iconst (v := 1) dX0_choosePosts_132 (by decide) ?_
                  refine w_goto (tgt := 137) dX0_choosePosts_133 (by decide) ?_
                  refine w_istore (ls' := [(6, vI 1), (5, vI v5_102), (0, vR (0, 0, 0)), (1, vR (10, b, 0)), (2, vI v), (3, vR (6, 0, w)), (4, vR (6, 0, w2))]) dX0_choosePosts_137 (by decide) rfl ?_
                  refine w_iload dX0_choosePosts_139 0 rfl ?_
                  refine w_if_eq (tgt := 175) dX0_choosePosts_141 (by decide) li_1 (fun h9 => (absurd h9 (by decide))) (fun h56_ => ?_)
                  refine w_iload dX0_choosePosts_144 1 rfl ?_
                  refine w_iconst (v := 1) dX0_choosePosts_146 (by decide) ?_
                  refine w_aload_n dX0_choosePosts_147 rfl 5 rfl ?_
                  refine w_getI fl_RX0_65 rfl rfl (ic_6 hw) dX0_choosePosts_148 (fun z57_ e58_ => ?_)
                  have h59_ : 0 ≤ z57_.toInt ∧ z57_.toInt ≤ 24 := ofEq (P := fun v => 0 ≤ v.toInt ∧ v.toInt ≤ 24) e58_ (hI_102 (6, 0, w) 1 rfl)
                  refine w_ishl dX0_choosePosts_151 (fun z60_ _ => ?_)
                  refine w_icmp_ge (tgt := 175) dX0_choosePosts_152 (by decide) (rfl : v5_102.toInt = v5_102.toInt) (rfl : z60_.toInt = z60_.toInt) (fun h61_ => ?_) (fun h61_ => ?_)
                  · refine w_iincB (j := 1) (f := fun z62_ => [(5, vI z62_), (6, vI 1), (0, vR (0, 0, 0)), (1, vR (10, b, 0)), (2, vI v), (3, vR (6, 0, w)), (4, vR (6, 0, w2))]) dX0_choosePosts_175 rfl (by decide) (fun _ => rfl) (rfl : v5_102.toInt = v5_102.toInt) li_1 (lf_c_X0_choosePosts_16 v5_102 z60_ hv0_102 hv1_102 h11_ h61_) (fun z62_ h63_ => ?_)
                    refine w_goto (tgt := 102) dX0_choosePosts_178 (by decide) ?_
                    refine w_loc (ls' := [(5, vI z62_), (0, vR (0, 0, 0)), (1, vR (10, b, 0)), (2, vI v), (3, vR (6, 0, w)), (4, vR (6, 0, w2))]) [0, 2, 3, 4, 5, 6] rfl ?_
                    exact ih_102 M_102 hI_102 hF_102 z62_ (lf_c_X0_choosePosts_17 v5_102 z60_ z62_ hv0_102 hv1_102 h11_ h61_ h63_) (lf_c_X0_choosePosts_18 v5_102 z60_ z62_ hv0_102 hv1_102 h11_ h61_ h63_) (Nat.lt_of_lt_of_le (lf_c_X0_choosePosts_19 v5_102 z60_ z62_ hv0_102 hv1_102 h11_ h61_ h63_) (Nat.le_of_lt_succ hm_102))
                  · refine w_aload_n dX0_choosePosts_155 rfl 2 rfl ?_
                    refine w_iload dX0_choosePosts_156 1 rfl ?_
                    refine w_aload dX0_choosePosts_158 6 rfl ?_
                    refine w_getI fl_RX0_65 rfl rfl (ic_6 hw2) dX0_choosePosts_160 (fun z64_ e65_ => ?_)
                    have h66_ : 0 ≤ z64_.toInt ∧ z64_.toInt ≤ 24 := ofEq (P := fun v => 0 ≤ v.toInt ∧ v.toInt ≤ 24) e65_ (hI_102 (6, 0, w2) 1 rfl)
                    refine w_callV (as := [vI v5_102, vI z64_]) (rest := []) (c_X0_servesAll l G cy ad (d + 3) v5_102 z64_ M_102 hI_102) kV_X0_servesAll (by decide +kernel) (Nat.le_of_ble_eq_true rfl) m_1171 rfl rfl rfl ic_0 rfl rfl (by decide) (Nat.le_of_ble_eq_true rfl) dX0_choosePosts_163 (fun r67_ M68_ q69_ => ?_)
                    obtain ⟨rfl, h70_⟩ := q69_
                    refine w_if_eq (tgt := 175) dX0_choosePosts_166 (by decide) (rfl : r67_.toInt = r67_.toInt) (fun h71_ => ?_) (fun h71_ => ?_)
                    · refine w_iincB (j := 1) (f := fun z72_ => [(5, vI z72_), (6, vI 1), (0, vR (0, 0, 0)), (1, vR (10, b, 0)), (2, vI v), (3, vR (6, 0, w)), (4, vR (6, 0, w2))]) dX0_choosePosts_175 rfl (by decide) (fun _ => rfl) (rfl : v5_102.toInt = v5_102.toInt) li_1 (lf_c_X0_choosePosts_20 v5_102 z60_ hv0_102 hv1_102 h11_ h61_) (fun z72_ h73_ => ?_)
                      refine w_goto (tgt := 102) dX0_choosePosts_178 (by decide) ?_
                      refine w_loc (ls' := [(5, vI z72_), (0, vR (0, 0, 0)), (1, vR (10, b, 0)), (2, vI v), (3, vR (6, 0, w)), (4, vR (6, 0, w2))]) [0, 2, 3, 4, 5, 6] rfl ?_
                      exact ih_102 M_102 hI_102 hF_102 z72_ (lf_c_X0_choosePosts_21 v5_102 z60_ z72_ hv0_102 hv1_102 h11_ h61_ h73_) (lf_c_X0_choosePosts_22 v5_102 z60_ z72_ hv0_102 hv1_102 h11_ h61_ h73_) (Nat.lt_of_lt_of_le (lf_c_X0_choosePosts_23 v5_102 z60_ z72_ hv0_102 hv1_102 h11_ h61_ h73_) (Nat.le_of_lt_succ hm_102))
                    · refine w_aload_n dX0_choosePosts_169 rfl 2 rfl ?_
                      refine w_iload dX0_choosePosts_170 1 rfl ?_
                      refine w_putI CC_nd fl_RX0_30 rfl rfl ic_0 dX0_choosePosts_172 (fun M74_ hM75_ => ?_)
                      have hI76_ := hI_102.put hM75_ trivial
                      have hF77_ := hF_102.put hM75_ (Or.inl ⟨rfl, rfl, rfl⟩)
                      refine w_iincB (j := 1) (f := fun z78_ => [(5, vI z78_), (6, vI 1), (0, vR (0, 0, 0)), (1, vR (10, b, 0)), (2, vI v), (3, vR (6, 0, w)), (4, vR (6, 0, w2))]) dX0_choosePosts_175 rfl (by decide) (fun _ => rfl) (rfl : v5_102.toInt = v5_102.toInt) li_1 (lf_c_X0_choosePosts_24 M74_ M_102 v5_102 z60_ hv0_102 hv1_102 h11_ h61_ hM75_) (fun z78_ h79_ => ?_)
                      refine w_goto (tgt := 102) dX0_choosePosts_178 (by decide) ?_
                      refine w_loc (ls' := [(5, vI z78_), (0, vR (0, 0, 0)), (1, vR (10, b, 0)), (2, vI v), (3, vR (6, 0, w)), (4, vR (6, 0, w2))]) [0, 2, 3, 4, 5, 6] rfl ?_
                      exact ih_102 M74_ hI76_ hF77_ z78_ (lf_c_X0_choosePosts_25 M74_ M_102 v5_102 z60_ z78_ hv0_102 hv1_102 h11_ h61_ hM75_ h79_) (lf_c_X0_choosePosts_26 M74_ M_102 v5_102 z60_ z78_ hv0_102 hv1_102 h11_ h61_ hM75_ h79_) (Nat.lt_of_lt_of_le (lf_c_X0_choosePosts_27 M74_ M_102 v5_102 z60_ z78_ hv0_102 hv1_102 h11_ h61_ hM75_ h79_) (Nat.le_of_lt_succ hm_102))
        exact lp10_ _ M6_ hI8_ hF9_ 1 (lf_c_X0_choosePosts_28 ) (lf_c_X0_choosePosts_29 ) (Nat.lt_succ_self _)
      · refine w_iload dX0_choosePosts_13 0 rfl ?_
        refine w_bipush (v := 8) dX0_choosePosts_15 (by decide) ?_
        refine w_icmp_ge (tgt := 94) dX0_choosePosts_17 (by decide) (rfl : v5_3.toInt = v5_3.toInt) li_8 (fun h80_ => ?_) (fun h80_ => ?_)
        · refine w_aload_n dX0_choosePosts_94 rfl 1 rfl ?_
          refine w_iconst (v := 0) dX0_choosePosts_95 (by decide) ?_
          refine w_putI CC_nd fl_RX0_30 rfl rfl ic_0 dX0_choosePosts_96 (fun M81_ hM82_ => ?_)
          have hI83_ := hI_3.put hM82_ trivial
          have hF84_ := hF_3.put hM82_ (Or.inl ⟨rfl, rfl, rfl⟩)
          refine w_iconst (v := 1) dX0_choosePosts_99 (by decide) ?_
          refine w_istore (ls' := [(5, vI 1), (0, vR (0, 0, 0)), (1, vR (10, b, 0)), (2, vI v), (3, vR (6, 0, w)), (4, vR (6, 0, w2))]) dX0_choosePosts_100 (by decide) rfl ?_
          have lp85_ : ∀ (nn_102 : Nat) (M_102 : mM) (hI_102 : Inv M_102) (hF_102 : FR (S_c_X0_choosePosts b w w2) Mz M_102) (v5_102 : Int32) (hv0_102 : 1 ≤ v5_102.toInt) (hv1_102 : v5_102.toInt ≤ 256), (2147483648 - v5_102.toInt).toNat < nn_102 → WP CC l G cy ad yX0_choosePosts cX0_choosePosts 7 (some .boolean) (d + 4) 102 [(5, vI v5_102), (0, vR (0, 0, 0)), (1, vR (10, b, 0)), (2, vI v), (3, vR (6, 0, w)), (4, vR (6, 0, w2))] [] M_102 (fun r M' => Inv M' ∧ FR (S_c_X0_choosePosts b w w2) Mz M' ∧ (0 ≤ r.toInt ∧ r.toInt ≤ 1)) := by
            intro nn_102
            induction nn_102 with
            | zero => intro M_102 hI_102 hF_102 v5_102 hv0_102 hv1_102 hm_102; exact absurd hm_102 (Nat.not_lt_zero _)
            | succ nn_102 ih_102 =>
              intro M_102 hI_102 hF_102 v5_102 hv0_102 hv1_102 hm_102
              refine w_iload dX0_choosePosts_102 0 rfl ?_
              refine w_sipush (v := 256) dX0_choosePosts_104 (by decide) ?_
              refine w_icmp_ge (tgt := 181) dX0_choosePosts_107 (by decide) (rfl : v5_102.toInt = v5_102.toInt) li_256 (fun h86_ => ?_) (fun h86_ => ?_)
              · refine w_aload_n dX0_choosePosts_181 rfl 1 rfl ?_
                refine w_getI fl_RX0_30 rfl rfl ic_0 dX0_choosePosts_182 (fun z87_ e88_ => ?_)
                refine w_if_eq (tgt := 192) dX0_choosePosts_185 (by decide) (rfl : z87_.toInt = z87_.toInt) (fun h89_ => ?_) (fun h89_ => ?_)
                · refine w_iconst (v := 0) dX0_choosePosts_192 (by decide) ?_
                  exact w_zret rfl dX0_choosePosts_193 ⟨by decide, by decide⟩ ⟨hI_102, hF_102, ⟨by decide, by decide⟩⟩
                · refine w_iconst (v := 1) dX0_choosePosts_188 (by decide) ?_
                  refine w_goto (tgt := 193) dX0_choosePosts_189 (by decide) ?_
                  exact w_zret rfl dX0_choosePosts_193 ⟨by decide, by decide⟩ ⟨hI_102, hF_102, ⟨by decide, by decide⟩⟩
              · refine w_aload_n dX0_choosePosts_110 rfl 1 rfl ?_
                refine w_getI fl_RX0_30 rfl rfl ic_0 dX0_choosePosts_111 (fun z90_ e91_ => ?_)
                refine w_if_eq (tgt := 132) dX0_choosePosts_114 (by decide) (rfl : z90_.toInt = z90_.toInt) (fun h92_ => ?_) (fun h92_ => ?_)
                · refine w_iconst (v := 1) dX0_choosePosts_132 (by decide) ?_
                  refine w_goto (tgt := 137) dX0_choosePosts_133 (by decide) ?_
                  refine w_istore (ls' := [(6, vI 1), (5, vI v5_102), (0, vR (0, 0, 0)), (1, vR (10, b, 0)), (2, vI v), (3, vR (6, 0, w)), (4, vR (6, 0, w2))]) dX0_choosePosts_137 (by decide) rfl ?_
                  refine w_iload dX0_choosePosts_139 0 rfl ?_
                  refine w_if_eq (tgt := 175) dX0_choosePosts_141 (by decide) li_1 (fun h9 => (absurd h9 (by decide))) (fun h93_ => ?_)
                  refine w_iload dX0_choosePosts_144 1 rfl ?_
                  refine w_iconst (v := 1) dX0_choosePosts_146 (by decide) ?_
                  refine w_aload_n dX0_choosePosts_147 rfl 5 rfl ?_
                  refine w_getI fl_RX0_65 rfl rfl (ic_6 hw) dX0_choosePosts_148 (fun z94_ e95_ => ?_)
                  have h96_ : 0 ≤ z94_.toInt ∧ z94_.toInt ≤ 24 := ofEq (P := fun v => 0 ≤ v.toInt ∧ v.toInt ≤ 24) e95_ (hI_102 (6, 0, w) 1 rfl)
                  refine w_ishl dX0_choosePosts_151 (fun z97_ _ => ?_)
                  refine w_icmp_ge (tgt := 175) dX0_choosePosts_152 (by decide) (rfl : v5_102.toInt = v5_102.toInt) (rfl : z97_.toInt = z97_.toInt) (fun h98_ => ?_) (fun h98_ => ?_)
                  · refine w_iincB (j := 1) (f := fun z99_ => [(5, vI z99_), (6, vI 1), (0, vR (0, 0, 0)), (1, vR (10, b, 0)), (2, vI v), (3, vR (6, 0, w)), (4, vR (6, 0, w2))]) dX0_choosePosts_175 rfl (by decide) (fun _ => rfl) (rfl : v5_102.toInt = v5_102.toInt) li_1 (lf_c_X0_choosePosts_30 v5_102 z97_ hv0_102 hv1_102 h86_ h98_) (fun z99_ h100_ => ?_)
                    refine w_goto (tgt := 102) dX0_choosePosts_178 (by decide) ?_
                    refine w_loc (ls' := [(5, vI z99_), (0, vR (0, 0, 0)), (1, vR (10, b, 0)), (2, vI v), (3, vR (6, 0, w)), (4, vR (6, 0, w2))]) [0, 2, 3, 4, 5, 6] rfl ?_
                    exact ih_102 M_102 hI_102 hF_102 z99_ (lf_c_X0_choosePosts_31 v5_102 z97_ z99_ hv0_102 hv1_102 h86_ h98_ h100_) (lf_c_X0_choosePosts_32 v5_102 z97_ z99_ hv0_102 hv1_102 h86_ h98_ h100_) (Nat.lt_of_lt_of_le (lf_c_X0_choosePosts_33 v5_102 z97_ z99_ hv0_102 hv1_102 h86_ h98_ h100_) (Nat.le_of_lt_succ hm_102))
                  · refine w_aload_n dX0_choosePosts_155 rfl 2 rfl ?_
                    refine w_iload dX0_choosePosts_156 1 rfl ?_
                    refine w_aload dX0_choosePosts_158 6 rfl ?_
                    refine w_getI fl_RX0_65 rfl rfl (ic_6 hw2) dX0_choosePosts_160 (fun z101_ e102_ => ?_)
                    have h103_ : 0 ≤ z101_.toInt ∧ z101_.toInt ≤ 24 := ofEq (P := fun v => 0 ≤ v.toInt ∧ v.toInt ≤ 24) e102_ (hI_102 (6, 0, w2) 1 rfl)
                    refine w_callV (as := [vI v5_102, vI z101_]) (rest := []) (c_X0_servesAll l G cy ad (d + 3) v5_102 z101_ M_102 hI_102) kV_X0_servesAll (by decide +kernel) (Nat.le_of_ble_eq_true rfl) m_1171 rfl rfl rfl ic_0 rfl rfl (by decide) (Nat.le_of_ble_eq_true rfl) dX0_choosePosts_163 (fun r104_ M105_ q106_ => ?_)
                    obtain ⟨rfl, h107_⟩ := q106_
                    refine w_if_eq (tgt := 175) dX0_choosePosts_166 (by decide) (rfl : r104_.toInt = r104_.toInt) (fun h108_ => ?_) (fun h108_ => ?_)
                    · refine w_iincB (j := 1) (f := fun z109_ => [(5, vI z109_), (6, vI 1), (0, vR (0, 0, 0)), (1, vR (10, b, 0)), (2, vI v), (3, vR (6, 0, w)), (4, vR (6, 0, w2))]) dX0_choosePosts_175 rfl (by decide) (fun _ => rfl) (rfl : v5_102.toInt = v5_102.toInt) li_1 (lf_c_X0_choosePosts_34 v5_102 z97_ hv0_102 hv1_102 h86_ h98_) (fun z109_ h110_ => ?_)
                      refine w_goto (tgt := 102) dX0_choosePosts_178 (by decide) ?_
                      refine w_loc (ls' := [(5, vI z109_), (0, vR (0, 0, 0)), (1, vR (10, b, 0)), (2, vI v), (3, vR (6, 0, w)), (4, vR (6, 0, w2))]) [0, 2, 3, 4, 5, 6] rfl ?_
                      exact ih_102 M_102 hI_102 hF_102 z109_ (lf_c_X0_choosePosts_35 v5_102 z97_ z109_ hv0_102 hv1_102 h86_ h98_ h110_) (lf_c_X0_choosePosts_36 v5_102 z97_ z109_ hv0_102 hv1_102 h86_ h98_ h110_) (Nat.lt_of_lt_of_le (lf_c_X0_choosePosts_37 v5_102 z97_ z109_ hv0_102 hv1_102 h86_ h98_ h110_) (Nat.le_of_lt_succ hm_102))
                    · refine w_aload_n dX0_choosePosts_169 rfl 2 rfl ?_
                      refine w_iload dX0_choosePosts_170 1 rfl ?_
                      refine w_putI CC_nd fl_RX0_30 rfl rfl ic_0 dX0_choosePosts_172 (fun M111_ hM112_ => ?_)
                      have hI113_ := hI_102.put hM112_ trivial
                      have hF114_ := hF_102.put hM112_ (Or.inl ⟨rfl, rfl, rfl⟩)
                      refine w_iincB (j := 1) (f := fun z115_ => [(5, vI z115_), (6, vI 1), (0, vR (0, 0, 0)), (1, vR (10, b, 0)), (2, vI v), (3, vR (6, 0, w)), (4, vR (6, 0, w2))]) dX0_choosePosts_175 rfl (by decide) (fun _ => rfl) (rfl : v5_102.toInt = v5_102.toInt) li_1 (lf_c_X0_choosePosts_38 M111_ M_102 v5_102 z97_ hv0_102 hv1_102 h86_ h98_ hM112_) (fun z115_ h116_ => ?_)
                      refine w_goto (tgt := 102) dX0_choosePosts_178 (by decide) ?_
                      refine w_loc (ls' := [(5, vI z115_), (0, vR (0, 0, 0)), (1, vR (10, b, 0)), (2, vI v), (3, vR (6, 0, w)), (4, vR (6, 0, w2))]) [0, 2, 3, 4, 5, 6] rfl ?_
                      exact ih_102 M111_ hI113_ hF114_ z115_ (lf_c_X0_choosePosts_39 M111_ M_102 v5_102 z97_ z115_ hv0_102 hv1_102 h86_ h98_ hM112_ h116_) (lf_c_X0_choosePosts_40 M111_ M_102 v5_102 z97_ z115_ hv0_102 hv1_102 h86_ h98_ hM112_ h116_) (Nat.lt_of_lt_of_le (lf_c_X0_choosePosts_41 M111_ M_102 v5_102 z97_ z115_ hv0_102 hv1_102 h86_ h98_ hM112_ h116_) (Nat.le_of_lt_succ hm_102))
                · refine w_iload dX0_choosePosts_117 0 rfl ?_
                  refine w_callS (as := [vI v5_102]) (rest := []) (c_JI_bitCount l G cy ad (d + 3) v5_102 M_102 hI_102) kS_JI_bitCount (by decide +kernel) (Nat.le_of_ble_eq_true rfl) m_1005 rfl rfl (by decide) (Nat.le_of_ble_eq_true rfl) dX0_choosePosts_119 (fun r117_ M118_ q119_ => ?_)
                  obtain ⟨rfl, h120_⟩ := q119_
                  refine w_aload_n dX0_choosePosts_122 rfl 1 rfl ?_
                  refine w_getI fl_RX0_30 rfl rfl ic_0 dX0_choosePosts_123 (fun z121_ e122_ => ?_)
                  obtain rfl : z90_ = z121_ := e91_.trans e122_.symm
                  refine w_callS (as := [vI z90_]) (rest := [vI r117_]) (c_JI_bitCount l G cy ad (d + 3) z90_ M_102 hI_102) kS_JI_bitCount (by decide +kernel) (Nat.le_of_ble_eq_true rfl) m_1005 rfl rfl (by decide) (Nat.le_of_ble_eq_true rfl) dX0_choosePosts_126 (fun r123_ M124_ q125_ => ?_)
                  obtain ⟨rfl, h126_⟩ := q125_
                  refine w_icmp_ge (tgt := 136) dX0_choosePosts_129 (by decide) (rfl : r117_.toInt = r117_.toInt) (rfl : r123_.toInt = r123_.toInt) (fun h127_ => ?_) (fun h127_ => ?_)
                  · refine w_iconst (v := 0) dX0_choosePosts_136 (by decide) ?_
                    refine w_istore (ls' := [(6, vI 0), (5, vI v5_102), (0, vR (0, 0, 0)), (1, vR (10, b, 0)), (2, vI v), (3, vR (6, 0, w)), (4, vR (6, 0, w2))]) dX0_choosePosts_137 (by decide) rfl ?_
                    refine w_iload dX0_choosePosts_139 0 rfl ?_
                    refine w_if_eq (tgt := 175) dX0_choosePosts_141 (by decide) li_0 (fun h128_ => ?_) (fun h9 => (absurd h9 (by decide)))
                    refine w_iincB (j := 1) (f := fun z129_ => [(5, vI z129_), (6, vI 0), (0, vR (0, 0, 0)), (1, vR (10, b, 0)), (2, vI v), (3, vR (6, 0, w)), (4, vR (6, 0, w2))]) dX0_choosePosts_175 rfl (by decide) (fun _ => rfl) (rfl : v5_102.toInt = v5_102.toInt) li_1 (lf_c_X0_choosePosts_42 v5_102 hv0_102 hv1_102 h86_) (fun z129_ h130_ => ?_)
                    refine w_goto (tgt := 102) dX0_choosePosts_178 (by decide) ?_
                    refine w_loc (ls' := [(5, vI z129_), (0, vR (0, 0, 0)), (1, vR (10, b, 0)), (2, vI v), (3, vR (6, 0, w)), (4, vR (6, 0, w2))]) [0, 2, 3, 4, 5, 6] rfl ?_
                    exact ih_102 M_102 hI_102 hF_102 z129_ (lf_c_X0_choosePosts_43 v5_102 z129_ hv0_102 hv1_102 h86_ h130_) (lf_c_X0_choosePosts_44 v5_102 z129_ hv0_102 hv1_102 h86_ h130_) (Nat.lt_of_lt_of_le (lf_c_X0_choosePosts_45 v5_102 z129_ hv0_102 hv1_102 h86_ h130_) (Nat.le_of_lt_succ hm_102))
                  · refine w_iconst (v := 1) dX0_choosePosts_132 (by decide) ?_
                    refine w_goto (tgt := 137) dX0_choosePosts_133 (by decide) ?_
                    refine w_istore (ls' := [(6, vI 1), (5, vI v5_102), (0, vR (0, 0, 0)), (1, vR (10, b, 0)), (2, vI v), (3, vR (6, 0, w)), (4, vR (6, 0, w2))]) dX0_choosePosts_137 (by decide) rfl ?_
                    refine w_iload dX0_choosePosts_139 0 rfl ?_
                    refine w_if_eq (tgt := 175) dX0_choosePosts_141 (by decide) li_1 (fun h9 => (absurd h9 (by decide))) (fun h131_ => ?_)
                    refine w_iload dX0_choosePosts_144 1 rfl ?_
                    refine w_iconst (v := 1) dX0_choosePosts_146 (by decide) ?_
                    refine w_aload_n dX0_choosePosts_147 rfl 5 rfl ?_
                    refine w_getI fl_RX0_65 rfl rfl (ic_6 hw) dX0_choosePosts_148 (fun z132_ e133_ => ?_)
                    have h134_ : 0 ≤ z132_.toInt ∧ z132_.toInt ≤ 24 := ofEq (P := fun v => 0 ≤ v.toInt ∧ v.toInt ≤ 24) e133_ (hI_102 (6, 0, w) 1 rfl)
                    refine w_ishl dX0_choosePosts_151 (fun z135_ _ => ?_)
                    refine w_icmp_ge (tgt := 175) dX0_choosePosts_152 (by decide) (rfl : v5_102.toInt = v5_102.toInt) (rfl : z135_.toInt = z135_.toInt) (fun h136_ => ?_) (fun h136_ => ?_)
                    · refine w_iincB (j := 1) (f := fun z137_ => [(5, vI z137_), (6, vI 1), (0, vR (0, 0, 0)), (1, vR (10, b, 0)), (2, vI v), (3, vR (6, 0, w)), (4, vR (6, 0, w2))]) dX0_choosePosts_175 rfl (by decide) (fun _ => rfl) (rfl : v5_102.toInt = v5_102.toInt) li_1 (lf_c_X0_choosePosts_46 v5_102 z135_ hv0_102 hv1_102 h86_ h136_) (fun z137_ h138_ => ?_)
                      refine w_goto (tgt := 102) dX0_choosePosts_178 (by decide) ?_
                      refine w_loc (ls' := [(5, vI z137_), (0, vR (0, 0, 0)), (1, vR (10, b, 0)), (2, vI v), (3, vR (6, 0, w)), (4, vR (6, 0, w2))]) [0, 2, 3, 4, 5, 6] rfl ?_
                      exact ih_102 M_102 hI_102 hF_102 z137_ (lf_c_X0_choosePosts_47 v5_102 z135_ z137_ hv0_102 hv1_102 h86_ h136_ h138_) (lf_c_X0_choosePosts_48 v5_102 z135_ z137_ hv0_102 hv1_102 h86_ h136_ h138_) (Nat.lt_of_lt_of_le (lf_c_X0_choosePosts_49 v5_102 z135_ z137_ hv0_102 hv1_102 h86_ h136_ h138_) (Nat.le_of_lt_succ hm_102))
                    · refine w_aload_n dX0_choosePosts_155 rfl 2 rfl ?_
                      refine w_iload dX0_choosePosts_156 1 rfl ?_
                      refine w_aload dX0_choosePosts_158 6 rfl ?_
                      refine w_getI fl_RX0_65 rfl rfl (ic_6 hw2) dX0_choosePosts_160 (fun z139_ e140_ => ?_)
                      have h141_ : 0 ≤ z139_.toInt ∧ z139_.toInt ≤ 24 := ofEq (P := fun v => 0 ≤ v.toInt ∧ v.toInt ≤ 24) e140_ (hI_102 (6, 0, w2) 1 rfl)
                      refine w_callV (as := [vI v5_102, vI z139_]) (rest := []) (c_X0_servesAll l G cy ad (d + 3) v5_102 z139_ M_102 hI_102) kV_X0_servesAll (by decide +kernel) (Nat.le_of_ble_eq_true rfl) m_1171 rfl rfl rfl ic_0 rfl rfl (by decide) (Nat.le_of_ble_eq_true rfl) dX0_choosePosts_163 (fun r142_ M143_ q144_ => ?_)
                      obtain ⟨rfl, h145_⟩ := q144_
                      refine w_if_eq (tgt := 175) dX0_choosePosts_166 (by decide) (rfl : r142_.toInt = r142_.toInt) (fun h146_ => ?_) (fun h146_ => ?_)
                      · refine w_iincB (j := 1) (f := fun z147_ => [(5, vI z147_), (6, vI 1), (0, vR (0, 0, 0)), (1, vR (10, b, 0)), (2, vI v), (3, vR (6, 0, w)), (4, vR (6, 0, w2))]) dX0_choosePosts_175 rfl (by decide) (fun _ => rfl) (rfl : v5_102.toInt = v5_102.toInt) li_1 (lf_c_X0_choosePosts_50 v5_102 z135_ hv0_102 hv1_102 h86_ h136_) (fun z147_ h148_ => ?_)
                        refine w_goto (tgt := 102) dX0_choosePosts_178 (by decide) ?_
                        refine w_loc (ls' := [(5, vI z147_), (0, vR (0, 0, 0)), (1, vR (10, b, 0)), (2, vI v), (3, vR (6, 0, w)), (4, vR (6, 0, w2))]) [0, 2, 3, 4, 5, 6] rfl ?_
                        exact ih_102 M_102 hI_102 hF_102 z147_ (lf_c_X0_choosePosts_51 v5_102 z135_ z147_ hv0_102 hv1_102 h86_ h136_ h148_) (lf_c_X0_choosePosts_52 v5_102 z135_ z147_ hv0_102 hv1_102 h86_ h136_ h148_) (Nat.lt_of_lt_of_le (lf_c_X0_choosePosts_53 v5_102 z135_ z147_ hv0_102 hv1_102 h86_ h136_ h148_) (Nat.le_of_lt_succ hm_102))
                      · refine w_aload_n dX0_choosePosts_169 rfl 2 rfl ?_
                        refine w_iload dX0_choosePosts_170 1 rfl ?_
                        refine w_putI CC_nd fl_RX0_30 rfl rfl ic_0 dX0_choosePosts_172 (fun M149_ hM150_ => ?_)
                        have hI151_ := hI_102.put hM150_ trivial
                        have hF152_ := hF_102.put hM150_ (Or.inl ⟨rfl, rfl, rfl⟩)
                        refine w_iincB (j := 1) (f := fun z153_ => [(5, vI z153_), (6, vI 1), (0, vR (0, 0, 0)), (1, vR (10, b, 0)), (2, vI v), (3, vR (6, 0, w)), (4, vR (6, 0, w2))]) dX0_choosePosts_175 rfl (by decide) (fun _ => rfl) (rfl : v5_102.toInt = v5_102.toInt) li_1 (lf_c_X0_choosePosts_54 M149_ M_102 v5_102 z135_ hv0_102 hv1_102 h86_ h136_ hM150_) (fun z153_ h154_ => ?_)
                        refine w_goto (tgt := 102) dX0_choosePosts_178 (by decide) ?_
                        refine w_loc (ls' := [(5, vI z153_), (0, vR (0, 0, 0)), (1, vR (10, b, 0)), (2, vI v), (3, vR (6, 0, w)), (4, vR (6, 0, w2))]) [0, 2, 3, 4, 5, 6] rfl ?_
                        exact ih_102 M149_ hI151_ hF152_ z153_ (lf_c_X0_choosePosts_55 M149_ M_102 v5_102 z135_ z153_ hv0_102 hv1_102 h86_ h136_ hM150_ h154_) (lf_c_X0_choosePosts_56 M149_ M_102 v5_102 z135_ z153_ hv0_102 hv1_102 h86_ h136_ hM150_ h154_) (Nat.lt_of_lt_of_le (lf_c_X0_choosePosts_57 M149_ M_102 v5_102 z135_ z153_ hv0_102 hv1_102 h86_ h136_ hM150_ h154_) (Nat.le_of_lt_succ hm_102))
          exact lp85_ _ M81_ hI83_ hF84_ 1 (lf_c_X0_choosePosts_58 ) (lf_c_X0_choosePosts_59 ) (Nat.lt_succ_self _)
        · refine w_aload_n dX0_choosePosts_20 rfl 1 rfl ?_
          refine w_getR (c' := (23, 0, 0)) fl_RX0_23 rfl rfl ic_0 dX0_choosePosts_21 rfl ?_
          refine w_iload dX0_choosePosts_24 0 rfl ?_
          refine w_iconst (v := 0) dX0_choosePosts_26 (by decide) ?_
          refine w_iast CC_nd rfl rfl ic_23 (rfl : v5_3.toInt = v5_3.toInt) (lf_c_X0_choosePosts_60 M_3 w2 v5_3 z2_ hw2 hv0_3 e3_ h4_ h5_ h80_) dX0_choosePosts_27 (fun j157_ h158_ M155_ hM156_ => ?_)
          have hI159_ := hI_3.put hM156_ trivial
          have hF160_ := hF_3.put hM156_ (Or.inr (Or.inl ⟨rfl, rfl⟩))
          refine w_iconst (v := 0) dX0_choosePosts_28 (by decide) ?_
          refine w_istore (ls' := [(6, vI 0), (5, vI v5_3), (0, vR (0, 0, 0)), (1, vR (10, b, 0)), (2, vI v), (3, vR (6, 0, w)), (4, vR (6, 0, w2))]) dX0_choosePosts_29 (by decide) rfl ?_
          have lp161_ : ∀ (nn_31 : Nat) (M_31 : mM) (hI_31 : Inv M_31) (hF_31 : FR (S_c_X0_choosePosts b w w2) Mz M_31) (v6_31 : Int32) (hv0_31 : 0 ≤ v6_31.toInt), (2147483648 - v6_31.toInt).toNat < nn_31 → WP CC l G cy ad yX0_choosePosts cX0_choosePosts 7 (some .boolean) (d + 4) 31 [(6, vI v6_31), (5, vI v5_3), (0, vR (0, 0, 0)), (1, vR (10, b, 0)), (2, vI v), (3, vR (6, 0, w)), (4, vR (6, 0, w2))] [] M_31 (fun r M' => Inv M' ∧ FR (S_c_X0_choosePosts b w w2) Mz M' ∧ (0 ≤ r.toInt ∧ r.toInt ≤ 1)) := by
            intro nn_31
            induction nn_31 with
            | zero => intro M_31 hI_31 hF_31 v6_31 hv0_31 hm_31; exact absurd hm_31 (Nat.not_lt_zero _)
            | succ nn_31 ih_31 =>
              intro M_31 hI_31 hF_31 v6_31 hv0_31 hm_31
              refine w_iload dX0_choosePosts_31 0 rfl ?_
              refine w_aload_n dX0_choosePosts_33 rfl 5 rfl ?_
              refine w_getI fl_RX0_65 rfl rfl (ic_6 hw) dX0_choosePosts_34 (fun z162_ e163_ => ?_)
              have h164_ : 0 ≤ z162_.toInt ∧ z162_.toInt ≤ 24 := ofEq (P := fun v => 0 ≤ v.toInt ∧ v.toInt ≤ 24) e163_ (hI_31 (6, 0, w) 1 rfl)
              refine w_icmp_ge (tgt := 88) dX0_choosePosts_37 (by decide) (rfl : v6_31.toInt = v6_31.toInt) (rfl : z162_.toInt = z162_.toInt) (fun h165_ => ?_) (fun h165_ => ?_)
              · refine w_iincB (j := 1) (f := fun z166_ => [(5, vI z166_), (6, vI v6_31), (0, vR (0, 0, 0)), (1, vR (10, b, 0)), (2, vI v), (3, vR (6, 0, w)), (4, vR (6, 0, w2))]) dX0_choosePosts_88 rfl (by decide) (fun _ => rfl) (rfl : v5_3.toInt = v5_3.toInt) li_1 (lf_c_X0_choosePosts_61 M155_ M_3 w2 v5_3 z2_ j157_ hw2 hv0_3 e3_ h4_ h5_ h80_ h158_ hM156_) (fun z166_ h167_ => ?_)
                refine w_goto (tgt := 3) dX0_choosePosts_91 (by decide) ?_
                refine w_loc (ls' := [(5, vI z166_), (0, vR (0, 0, 0)), (1, vR (10, b, 0)), (2, vI v), (3, vR (6, 0, w)), (4, vR (6, 0, w2))]) [0, 2, 3, 4, 5, 6] rfl ?_
                exact ih_3 M_31 hI_31 hF_31 z166_ (lf_c_X0_choosePosts_62 M155_ M_3 w2 v5_3 z2_ j157_ z166_ hw2 hv0_3 e3_ h4_ h5_ h80_ h158_ hM156_ h167_) (Nat.lt_of_lt_of_le (lf_c_X0_choosePosts_63 M155_ M_3 w2 v5_3 z2_ j157_ z166_ hw2 hv0_3 e3_ h4_ h5_ h80_ h158_ hM156_ h167_) (Nat.le_of_lt_succ hm_3))
              · refine w_iload dX0_choosePosts_40 0 rfl ?_
                refine w_bipush (v := 8) dX0_choosePosts_42 (by decide) ?_
                refine w_icmp_ge (tgt := 88) dX0_choosePosts_44 (by decide) (rfl : v6_31.toInt = v6_31.toInt) li_8 (fun h168_ => ?_) (fun h168_ => ?_)
                · refine w_iincB (j := 1) (f := fun z169_ => [(5, vI z169_), (6, vI v6_31), (0, vR (0, 0, 0)), (1, vR (10, b, 0)), (2, vI v), (3, vR (6, 0, w)), (4, vR (6, 0, w2))]) dX0_choosePosts_88 rfl (by decide) (fun _ => rfl) (rfl : v5_3.toInt = v5_3.toInt) li_1 (lf_c_X0_choosePosts_64 M155_ M_3 w2 v5_3 z2_ j157_ hw2 hv0_3 e3_ h4_ h5_ h80_ h158_ hM156_) (fun z169_ h170_ => ?_)
                  refine w_goto (tgt := 3) dX0_choosePosts_91 (by decide) ?_
                  refine w_loc (ls' := [(5, vI z169_), (0, vR (0, 0, 0)), (1, vR (10, b, 0)), (2, vI v), (3, vR (6, 0, w)), (4, vR (6, 0, w2))]) [0, 2, 3, 4, 5, 6] rfl ?_
                  exact ih_3 M_31 hI_31 hF_31 z169_ (lf_c_X0_choosePosts_65 M155_ M_3 w2 v5_3 z2_ j157_ z169_ hw2 hv0_3 e3_ h4_ h5_ h80_ h158_ hM156_ h170_) (Nat.lt_of_lt_of_le (lf_c_X0_choosePosts_66 M155_ M_3 w2 v5_3 z2_ j157_ z169_ hw2 hv0_3 e3_ h4_ h5_ h80_ h158_ hM156_ h170_) (Nat.le_of_lt_succ hm_3))
                · refine w_aload_n dX0_choosePosts_47 rfl 3 rfl ?_
                  refine w_iload_n dX0_choosePosts_48 rfl 4 rfl ?_
                  refine w_aload dX0_choosePosts_49 6 rfl ?_
                  refine w_iload dX0_choosePosts_51 1 rfl ?_
                  refine w_callV (as := [vI v5_3]) (rest := [vI v, vR (10, b, 0)]) (c_X6_numberAt l G cy ad (d + 2) w2 v5_3 M_31 hI_31 hw2) kV_X6_numberAt (by decide +kernel) (Nat.le_of_ble_eq_true rfl) m_992 rfl rfl rfl (ic_6 hw2) rfl rfl (by decide) (Nat.le_of_ble_eq_true rfl) dX0_choosePosts_53 (fun r171_ M172_ q173_ => ?_)
                  obtain ⟨rfl, h174_⟩ := q173_
                  refine w_aload_n dX0_choosePosts_56 rfl 5 rfl ?_
                  refine w_iload dX0_choosePosts_57 0 rfl ?_
                  refine w_callV (as := [vI v6_31]) (rest := [vI r171_, vI v, vR (10, b, 0)]) (c_X6_numberAt l G cy ad (d + 2) w v6_31 M_31 hI_31 hw) kV_X6_numberAt (by decide +kernel) (Nat.le_of_ble_eq_true rfl) m_992 rfl rfl rfl (ic_6 hw) rfl rfl (by decide) (Nat.le_of_ble_eq_true rfl) dX0_choosePosts_59 (fun r175_ M176_ q177_ => ?_)
                  obtain ⟨rfl, h178_⟩ := q177_
                  refine w_callS (as := [vR (10, b, 0), vI v, vI r171_, vI r175_]) (rest := []) (c_X0_wouldHear l G cy ad d b v r171_ r175_ M_31 hI_31 hb) kS_X0_wouldHear (by decide +kernel) (Nat.le_of_ble_eq_true rfl) m_1163 rfl rfl (by decide) (Nat.le_of_ble_eq_true rfl) dX0_choosePosts_62 (fun r179_ M180_ q181_ => ?_)
                  obtain ⟨hI183_, hF184_, h182_⟩ := q181_
                  have hF185_ := hF_31.tr hF184_ (fun c k => (fun h => h.elim (fun h => (Or.inr (Or.inr (Or.inl ⟨h.1, h.2.1, h.2.2⟩)))) (fun h => h.elim (fun h => (Or.inr (Or.inr (Or.inr (Or.inl ⟨h.1, h.2.1, h.2.2⟩))))) (fun h => h.elim (fun h => (Or.inr (Or.inr (Or.inr (Or.inr (Or.inl ⟨h.1, h.2.1, h.2.2⟩)))))) (fun h => h.elim (fun h => (Or.inr (Or.inr (Or.inr (Or.inr (Or.inr (Or.inl ⟨h.1, h.2.1, h.2.2⟩))))))) (fun h => h.elim (fun h => (Or.inr (Or.inr (Or.inr (Or.inr (Or.inr (Or.inr (Or.inl ⟨h.1, h.2.1, h.2.2⟩)))))))) (fun h => h.elim (fun h => (Or.inr (Or.inr (Or.inr (Or.inr (Or.inr (Or.inr (Or.inr (Or.inl ⟨h.1, h.2.1, h.2.2⟩))))))))) (fun h => h.elim))))))))
                  refine w_if_eq (tgt := 82) dX0_choosePosts_65 (by decide) (rfl : r179_.toInt = r179_.toInt) (fun h186_ => ?_) (fun h186_ => ?_)
                  · refine w_iincB (j := 0) (f := fun z187_ => [(6, vI z187_), (5, vI v5_3), (0, vR (0, 0, 0)), (1, vR (10, b, 0)), (2, vI v), (3, vR (6, 0, w)), (4, vR (6, 0, w2))]) dX0_choosePosts_82 rfl (by decide) (fun _ => rfl) (rfl : v6_31.toInt = v6_31.toInt) li_1 (lf_c_X0_choosePosts_67 M_31 w v6_31 z162_ hw hv0_31 e163_ h164_ h165_ h168_) (fun z187_ h188_ => ?_)
                    refine w_goto (tgt := 31) dX0_choosePosts_85 (by decide) ?_
                    refine w_loc (ls' := [(6, vI z187_), (5, vI v5_3), (0, vR (0, 0, 0)), (1, vR (10, b, 0)), (2, vI v), (3, vR (6, 0, w)), (4, vR (6, 0, w2))]) [0, 1, 2, 3, 4, 5, 6] rfl ?_
                    exact ih_31 M180_ hI183_ hF185_ z187_ (lf_c_X0_choosePosts_68 M_31 w v6_31 z162_ z187_ hw hv0_31 e163_ h164_ h165_ h168_ h188_) (Nat.lt_of_lt_of_le (lf_c_X0_choosePosts_69 M_31 w v6_31 z162_ z187_ hw hv0_31 e163_ h164_ h165_ h168_ h188_) (Nat.le_of_lt_succ hm_31))
                  · refine w_aload_n dX0_choosePosts_68 rfl 2 rfl ?_
                    refine w_getR (c' := (23, 0, 0)) fl_RX0_23 rfl rfl ic_0 dX0_choosePosts_69 rfl ?_
                    refine w_iload dX0_choosePosts_72 1 rfl ?_
                    refine w_dup2 dX0_choosePosts_74 rfl rfl ?_
                    refine w_iald rfl rfl ic_23 (rfl : v5_3.toInt = v5_3.toInt) (lf_c_X0_choosePosts_70 M155_ M_3 w2 v5_3 z2_ j157_ hw2 hv0_3 e3_ h4_ h5_ h80_ h158_ hM156_) dX0_choosePosts_75 (fun j191_ h192_ z189_ e190_ => ?_)
                    refine w_iconst (v := 1) dX0_choosePosts_76 (by decide) ?_
                    refine w_iload dX0_choosePosts_77 0 rfl ?_
                    refine w_ishl dX0_choosePosts_79 (fun z193_ _ => ?_)
                    refine w_ior dX0_choosePosts_80 (fun z194_ _ => ?_)
                    refine w_iast CC_nd rfl rfl ic_23 (rfl : v5_3.toInt = v5_3.toInt) (lf_c_X0_choosePosts_71 M155_ M180_ M_3 w2 v5_3 z2_ j157_ j191_ z189_ hw2 hv0_3 e3_ h4_ h5_ h80_ h158_ hM156_ h192_ e190_) dX0_choosePosts_81 (fun j197_ h198_ M195_ hM196_ => ?_)
                    have hI199_ := hI183_.put hM196_ trivial
                    have hF200_ := hF185_.put hM196_ (Or.inr (Or.inl ⟨rfl, rfl⟩))
                    refine w_iincB (j := 0) (f := fun z201_ => [(6, vI z201_), (5, vI v5_3), (0, vR (0, 0, 0)), (1, vR (10, b, 0)), (2, vI v), (3, vR (6, 0, w)), (4, vR (6, 0, w2))]) dX0_choosePosts_82 rfl (by decide) (fun _ => rfl) (rfl : v6_31.toInt = v6_31.toInt) li_1 (lf_c_X0_choosePosts_72 M_31 w v6_31 z162_ hw hv0_31 e163_ h164_ h165_ h168_) (fun z201_ h202_ => ?_)
                    refine w_goto (tgt := 31) dX0_choosePosts_85 (by decide) ?_
                    refine w_loc (ls' := [(6, vI z201_), (5, vI v5_3), (0, vR (0, 0, 0)), (1, vR (10, b, 0)), (2, vI v), (3, vR (6, 0, w)), (4, vR (6, 0, w2))]) [0, 1, 2, 3, 4, 5, 6] rfl ?_
                    exact ih_31 M195_ hI199_ hF200_ z201_ (lf_c_X0_choosePosts_73 M_31 w v6_31 z162_ z201_ hw hv0_31 e163_ h164_ h165_ h168_ h202_) (Nat.lt_of_lt_of_le (lf_c_X0_choosePosts_74 M_31 w v6_31 z162_ z201_ hw hv0_31 e163_ h164_ h165_ h168_ h202_) (Nat.le_of_lt_succ hm_31))
          exact lp161_ _ M155_ hI159_ hF160_ 0 (lf_c_X0_choosePosts_75 ) (Nat.lt_succ_self _)
  exact lp1_ _ Mz hIz hFz 0 (lf_c_X0_choosePosts_76 ) (Nat.lt_succ_self _)
