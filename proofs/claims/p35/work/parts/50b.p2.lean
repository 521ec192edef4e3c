def ST_X12_nameOf_4 (v : Int32) (Mz : mM) (v3_4 : Int32) (v2_4 : Int32) (v3_4y : Int32) (v2_4y : Int32) : Prop := (0 ≤ v3_4.toInt) ∧ (-1 ≤ v2_4.toInt ∧ v2_4.toInt ≤ 4) ∧ (v3_4.toInt ≤ 5) ∧ ∃ z3_ : Int32, (z3_ = Mz.1 (12, 0, 0) 10) ∧ (0 ≤ z3_.toInt ∧ z3_.toInt ≤ 2) ∧ (z3_.toInt = 0) ∧ (v3_4.toInt < 4) ∧ ∃ z10_ : Int32, (CHX 4 v3_4 z10_ Mz) ∧ (((¬ z10_.toInt = v.toInt) ∧ ∃ z12_ : Int32, (z12_.toInt = v3_4.toInt + 1) ∧ v3_4y = z12_ ∧ v2_4y = v2_4) ∨ ((z10_.toInt = v.toInt) ∧ ∃ z14_ : Int32, (z14_.toInt = v3_4.toInt + 1) ∧ v3_4y = z14_ ∧ v2_4y = v3_4))
def ST_X12_nameOf_4b (v : Int32) (Mz : mM) (v3_4 : Int32) (v2_4 : Int32) (v3_4y : Int32) (v2_4y : Int32) : Prop := (0 ≤ v3_4.toInt) ∧ (-1 ≤ v2_4.toInt ∧ v2_4.toInt ≤ 4) ∧ (v3_4.toInt ≤ 5) ∧ ∃ z17_ : Int32, (z17_ = Mz.1 (12, 0, 0) 10) ∧ (0 ≤ z17_.toInt ∧ z17_.toInt ≤ 2) ∧ (z17_.toInt = 1) ∧ (v3_4.toInt < 3) ∧ ∃ z24_ : Int32, (CHX 5 v3_4 z24_ Mz) ∧ (((¬ z24_.toInt = v.toInt) ∧ ∃ z26_ : Int32, (z26_.toInt = v3_4.toInt + 1) ∧ v3_4y = z26_ ∧ v2_4y = v2_4) ∨ ((z24_.toInt = v.toInt) ∧ ∃ z28_ : Int32, (z28_.toInt = v3_4.toInt + 1) ∧ v3_4y = z28_ ∧ v2_4y = v3_4))
def ST_X12_nameOf_4c (v : Int32) (Mz : mM) (v3_4 : Int32) (v2_4 : Int32) (v3_4y : Int32) (v2_4y : Int32) : Prop := (0 ≤ v3_4.toInt) ∧ (-1 ≤ v2_4.toInt ∧ v2_4.toInt ≤ 4) ∧ (v3_4.toInt ≤ 5) ∧ ∃ z31_ : Int32, (z31_ = Mz.1 (12, 0, 0) 10) ∧ (0 ≤ z31_.toInt ∧ z31_.toInt ≤ 2) ∧ (z31_.toInt = 2) ∧ (v3_4.toInt < 5) ∧ ∃ z38_ : Int32, (CHX 6 v3_4 z38_ Mz) ∧ (((¬ z38_.toInt = v.toInt) ∧ ∃ z40_ : Int32, (z40_.toInt = v3_4.toInt + 1) ∧ v3_4y = z40_ ∧ v2_4y = v2_4) ∨ ((z38_.toInt = v.toInt) ∧ ∃ z42_ : Int32, (z42_.toInt = v3_4.toInt + 1) ∧ v3_4y = z42_ ∧ v2_4y = v3_4))
def SP_X12_nameOf (v : Int32) (Mz : mM) (r_ : Int32) : Prop := ((((Mz.1 (12, 0, 0) 10).toInt = 0) ∧ ∃ v3_4 : Int32, (0 ≤ v3_4.toInt) ∧ ∃ v2_4 : Int32, (-1 ≤ v2_4.toInt ∧ v2_4.toInt ≤ 4) ∧ (v3_4.toInt ≤ 5) ∧ (RCH (fun x_ y_ => ST_X12_nameOf_4 v Mz x_.1 x_.2 y_.1 y_.2) ((0 : Int32), ((-1) : Int32)) (v3_4, v2_4)) ∧ ∃ z3_ : Int32, (z3_ = Mz.1 (12, 0, 0) 10) ∧ (0 ≤ z3_.toInt ∧ z3_.toInt ≤ 2) ∧ (z3_.toInt = 0) ∧ (4 ≤ v3_4.toInt) ∧ r_ = v2_4) ∨ (((Mz.1 (12, 0, 0) 10).toInt = 1) ∧ ∃ v3_4 : Int32, (0 ≤ v3_4.toInt) ∧ ∃ v2_4 : Int32, (-1 ≤ v2_4.toInt ∧ v2_4.toInt ≤ 4) ∧ (v3_4.toInt ≤ 5) ∧ (RCH (fun x_ y_ => ST_X12_nameOf_4b v Mz x_.1 x_.2 y_.1 y_.2) ((0 : Int32), ((-1) : Int32)) (v3_4, v2_4)) ∧ ∃ z17_ : Int32, (z17_ = Mz.1 (12, 0, 0) 10) ∧ (0 ≤ z17_.toInt ∧ z17_.toInt ≤ 2) ∧ (z17_.toInt = 1) ∧ (3 ≤ v3_4.toInt) ∧ r_ = v2_4) ∨ (((Mz.1 (12, 0, 0) 10).toInt = 2) ∧ ∃ v3_4 : Int32, (0 ≤ v3_4.toInt) ∧ ∃ v2_4 : Int32, (-1 ≤ v2_4.toInt ∧ v2_4.toInt ≤ 4) ∧ (v3_4.toInt ≤ 5) ∧ (RCH (fun x_ y_ => ST_X12_nameOf_4c v Mz x_.1 x_.2 y_.1 y_.2) ((0 : Int32), ((-1) : Int32)) (v3_4, v2_4)) ∧ ∃ z31_ : Int32, (z31_ = Mz.1 (12, 0, 0) 10) ∧ (0 ≤ z31_.toInt ∧ z31_.toInt ≤ 2) ∧ (z31_.toInt = 2) ∧ (5 ≤ v3_4.toInt) ∧ r_ = v2_4))
theorem lf_c_X12_nameOf_0  (v3_4 : Int32) (hv0_4 : 0 ≤ v3_4.toInt) (hv2_4 : v3_4.toInt ≤ 5) (h7_ : v3_4.toInt < 4) : 0 ≤ v3_4.toInt ∧ v3_4.toInt < 4 := by have r_v3_4 := rngI v3_4; omega
theorem lf_c_X12_nameOf_1  (v3_4 : Int32) (hv0_4 : 0 ≤ v3_4.toInt) (hv2_4 : v3_4.toInt ≤ 5) (h7_ : v3_4.toInt < 4) : -2147483648 ≤ v3_4.toInt + 1 ∧ v3_4.toInt + 1 < 2147483648 := by have r_v3_4 := rngI v3_4; omega
theorem lf_c_X12_nameOf_2  (v3_4 : Int32) (z12_ : Int32) (hv0_4 : 0 ≤ v3_4.toInt) (hv2_4 : v3_4.toInt ≤ 5) (h7_ : v3_4.toInt < 4) (h13_ : z12_.toInt = v3_4.toInt + 1) : 0 ≤ z12_.toInt := by have r_v3_4 := rngI v3_4; have r_z12_ := rngI z12_; omega
theorem lf_c_X12_nameOf_3  (v3_4 : Int32) (z12_ : Int32) (hv0_4 : 0 ≤ v3_4.toInt) (hv2_4 : v3_4.toInt ≤ 5) (h7_ : v3_4.toInt < 4) (h13_ : z12_.toInt = v3_4.toInt + 1) : z12_.toInt ≤ 5 := by have r_v3_4 := rngI v3_4; have r_z12_ := rngI z12_; omega
theorem lf_c_X12_nameOf_4  (v3_4 : Int32) (z12_ : Int32) (hv0_4 : 0 ≤ v3_4.toInt) (hv2_4 : v3_4.toInt ≤ 5) (h7_ : v3_4.toInt < 4) (h13_ : z12_.toInt = v3_4.toInt + 1) : (2147483648 - z12_.toInt).toNat < (2147483648 - v3_4.toInt).toNat := by have r_v3_4 := rngI v3_4; have r_z12_ := rngI z12_; omega
theorem lf_c_X12_nameOf_5  (v3_4 : Int32) (hv0_4 : 0 ≤ v3_4.toInt) (hv2_4 : v3_4.toInt ≤ 5) (h7_ : v3_4.toInt < 4) : -2147483648 ≤ v3_4.toInt + 1 ∧ v3_4.toInt + 1 < 2147483648 := by have r_v3_4 := rngI v3_4; omega
theorem lf_c_X12_nameOf_6  (v3_4 : Int32) (z14_ : Int32) (hv0_4 : 0 ≤ v3_4.toInt) (hv2_4 : v3_4.toInt ≤ 5) (h7_ : v3_4.toInt < 4) (h15_ : z14_.toInt = v3_4.toInt + 1) : 0 ≤ z14_.toInt := by have r_v3_4 := rngI v3_4; have r_z14_ := rngI z14_; omega
theorem lf_c_X12_nameOf_7  (v3_4 : Int32) (z14_ : Int32) (hv0_4 : 0 ≤ v3_4.toInt) (hv2_4 : v3_4.toInt ≤ 5) (h7_ : v3_4.toInt < 4) (h15_ : z14_.toInt = v3_4.toInt + 1) : -1 ≤ v3_4.toInt ∧ v3_4.toInt ≤ 4 := by have r_v3_4 := rngI v3_4; have r_z14_ := rngI z14_; omega
theorem lf_c_X12_nameOf_8  (v3_4 : Int32) (z14_ : Int32) (hv0_4 : 0 ≤ v3_4.toInt) (hv2_4 : v3_4.toInt ≤ 5) (h7_ : v3_4.toInt < 4) (h15_ : z14_.toInt = v3_4.toInt + 1) : z14_.toInt ≤ 5 := by have r_v3_4 := rngI v3_4; have r_z14_ := rngI z14_; omega
theorem lf_c_X12_nameOf_9  (v3_4 : Int32) (z14_ : Int32) (hv0_4 : 0 ≤ v3_4.toInt) (hv2_4 : v3_4.toInt ≤ 5) (h7_ : v3_4.toInt < 4) (h15_ : z14_.toInt = v3_4.toInt + 1) : (2147483648 - z14_.toInt).toNat < (2147483648 - v3_4.toInt).toNat := by have r_v3_4 := rngI v3_4; have r_z14_ := rngI z14_; omega
theorem lf_c_X12_nameOf_10    : 0 ≤ (0 : Int32).toInt := by have q0 := li_m1; have q1 := li_0; omega
theorem lf_c_X12_nameOf_11    : -1 ≤ ((-1) : Int32).toInt ∧ ((-1) : Int32).toInt ≤ 4 := by have q0 := li_m1; have q1 := li_0; omega
theorem lf_c_X12_nameOf_12    : (0 : Int32).toInt ≤ 5 := by have q0 := li_m1; have q1 := li_0; omega
theorem lf_c_X12_nameOf_13  (v3_4 : Int32) (hv0_4 : 0 ≤ v3_4.toInt) (hv2_4 : v3_4.toInt ≤ 5) (h21_ : v3_4.toInt < 3) : 0 ≤ v3_4.toInt ∧ v3_4.toInt < 3 := by have r_v3_4 := rngI v3_4; omega
theorem lf_c_X12_nameOf_14  (v3_4 : Int32) (hv0_4 : 0 ≤ v3_4.toInt) (hv2_4 : v3_4.toInt ≤ 5) (h21_ : v3_4.toInt < 3) : -2147483648 ≤ v3_4.toInt + 1 ∧ v3_4.toInt + 1 < 2147483648 := by have r_v3_4 := rngI v3_4; omega
theorem lf_c_X12_nameOf_15  (v3_4 : Int32) (z26_ : Int32) (hv0_4 : 0 ≤ v3_4.toInt) (hv2_4 : v3_4.toInt ≤ 5) (h21_ : v3_4.toInt < 3) (h27_ : z26_.toInt = v3_4.toInt + 1) : 0 ≤ z26_.toInt := by have r_v3_4 := rngI v3_4; have r_z26_ := rngI z26_; omega
theorem lf_c_X12_nameOf_16  (v3_4 : Int32) (z26_ : Int32) (hv0_4 : 0 ≤ v3_4.toInt) (hv2_4 : v3_4.toInt ≤ 5) (h21_ : v3_4.toInt < 3) (h27_ : z26_.toInt = v3_4.toInt + 1) : z26_.toInt ≤ 5 := by have r_v3_4 := rngI v3_4; have r_z26_ := rngI z26_; omega
theorem lf_c_X12_nameOf_17  (v3_4 : Int32) (z26_ : Int32) (hv0_4 : 0 ≤ v3_4.toInt) (hv2_4 : v3_4.toInt ≤ 5) (h21_ : v3_4.toInt < 3) (h27_ : z26_.toInt = v3_4.toInt + 1) : (2147483648 - z26_.toInt).toNat < (2147483648 - v3_4.toInt).toNat := by have r_v3_4 := rngI v3_4; have r_z26_ := rngI z26_; omega
theorem lf_c_X12_nameOf_18  (v3_4 : Int32) (hv0_4 : 0 ≤ v3_4.toInt) (hv2_4 : v3_4.toInt ≤ 5) (h21_ : v3_4.toInt < 3) : -2147483648 ≤ v3_4.toInt + 1 ∧ v3_4.toInt + 1 < 2147483648 := by have r_v3_4 := rngI v3_4; omega
theorem lf_c_X12_nameOf_19  (v3_4 : Int32) (z28_ : Int32) (hv0_4 : 0 ≤ v3_4.toInt) (hv2_4 : v3_4.toInt ≤ 5) (h21_ : v3_4.toInt < 3) (h29_ : z28_.toInt = v3_4.toInt + 1) : 0 ≤ z28_.toInt := by have r_v3_4 := rngI v3_4; have r_z28_ := rngI z28_; omega
theorem lf_c_X12_nameOf_20  (v3_4 : Int32) (z28_ : Int32) (hv0_4 : 0 ≤ v3_4.toInt) (hv2_4 : v3_4.toInt ≤ 5) (h21_ : v3_4.toInt < 3) (h29_ : z28_.toInt = v3_4.toInt + 1) : -1 ≤ v3_4.toInt ∧ v3_4.toInt ≤ 4 := by have r_v3_4 := rngI v3_4; have r_z28_ := rngI z28_; omega
theorem lf_c_X12_nameOf_21  (v3_4 : Int32) (z28_ : Int32) (hv0_4 : 0 ≤ v3_4.toInt) (hv2_4 : v3_4.toInt ≤ 5) (h21_ : v3_4.toInt < 3) (h29_ : z28_.toInt = v3_4.toInt + 1) : z28_.toInt ≤ 5 := by have r_v3_4 := rngI v3_4; have r_z28_ := rngI z28_; omega
theorem lf_c_X12_nameOf_22  (v3_4 : Int32) (z28_ : Int32) (hv0_4 : 0 ≤ v3_4.toInt) (hv2_4 : v3_4.toInt ≤ 5) (h21_ : v3_4.toInt < 3) (h29_ : z28_.toInt = v3_4.toInt + 1) : (2147483648 - z28_.toInt).toNat < (2147483648 - v3_4.toInt).toNat := by have r_v3_4 := rngI v3_4; have r_z28_ := rngI z28_; omega
theorem lf_c_X12_nameOf_23    : 0 ≤ (0 : Int32).toInt := by have q0 := li_m1; have q1 := li_0; omega
theorem lf_c_X12_nameOf_24    : -1 ≤ ((-1) : Int32).toInt ∧ ((-1) : Int32).toInt ≤ 4 := by have q0 := li_m1; have q1 := li_0; omega
theorem lf_c_X12_nameOf_25    : (0 : Int32).toInt ≤ 5 := by have q0 := li_m1; have q1 := li_0; omega
theorem lf_c_X12_nameOf_26  (v3_4 : Int32) (hv0_4 : 0 ≤ v3_4.toInt) (hv2_4 : v3_4.toInt ≤ 5) (h35_ : v3_4.toInt < 5) : 0 ≤ v3_4.toInt ∧ v3_4.toInt < 5 := by have r_v3_4 := rngI v3_4; omega
theorem lf_c_X12_nameOf_27  (v3_4 : Int32) (hv0_4 : 0 ≤ v3_4.toInt) (hv2_4 : v3_4.toInt ≤ 5) (h35_ : v3_4.toInt < 5) : -2147483648 ≤ v3_4.toInt + 1 ∧ v3_4.toInt + 1 < 2147483648 := by have r_v3_4 := rngI v3_4; omega
theorem lf_c_X12_nameOf_28  (v3_4 : Int32) (z40_ : Int32) (hv0_4 : 0 ≤ v3_4.toInt) (hv2_4 : v3_4.toInt ≤ 5) (h35_ : v3_4.toInt < 5) (h41_ : z40_.toInt = v3_4.toInt + 1) : 0 ≤ z40_.toInt := by have r_v3_4 := rngI v3_4; have r_z40_ := rngI z40_; omega
theorem lf_c_X12_nameOf_29  (v3_4 : Int32) (z40_ : Int32) (hv0_4 : 0 ≤ v3_4.toInt) (hv2_4 : v3_4.toInt ≤ 5) (h35_ : v3_4.toInt < 5) (h41_ : z40_.toInt = v3_4.toInt + 1) : z40_.toInt ≤ 5 := by have r_v3_4 := rngI v3_4; have r_z40_ := rngI z40_; omega
theorem lf_c_X12_nameOf_30  (v3_4 : Int32) (z40_ : Int32) (hv0_4 : 0 ≤ v3_4.toInt) (hv2_4 : v3_4.toInt ≤ 5) (h35_ : v3_4.toInt < 5) (h41_ : z40_.toInt = v3_4.toInt + 1) : (2147483648 - z40_.toInt).toNat < (2147483648 - v3_4.toInt).toNat := by have r_v3_4 := rngI v3_4; have r_z40_ := rngI z40_; omega
theorem lf_c_X12_nameOf_31  (v3_4 : Int32) (hv0_4 : 0 ≤ v3_4.toInt) (hv2_4 : v3_4.toInt ≤ 5) (h35_ : v3_4.toInt < 5) : -2147483648 ≤ v3_4.toInt + 1 ∧ v3_4.toInt + 1 < 2147483648 := by have r_v3_4 := rngI v3_4; omega
theorem lf_c_X12_nameOf_32  (v3_4 : Int32) (z42_ : Int32) (hv0_4 : 0 ≤ v3_4.toInt) (hv2_4 : v3_4.toInt ≤ 5) (h35_ : v3_4.toInt < 5) (h43_ : z42_.toInt = v3_4.toInt + 1) : 0 ≤ z42_.toInt := by have r_v3_4 := rngI v3_4; have r_z42_ := rngI z42_; omega
theorem lf_c_X12_nameOf_33  (v3_4 : Int32) (z42_ : Int32) (hv0_4 : 0 ≤ v3_4.toInt) (hv2_4 : v3_4.toInt ≤ 5) (h35_ : v3_4.toInt < 5) (h43_ : z42_.toInt = v3_4.toInt + 1) : -1 ≤ v3_4.toInt ∧ v3_4.toInt ≤ 4 := by have r_v3_4 := rngI v3_4; have r_z42_ := rngI z42_; omega
theorem lf_c_X12_nameOf_34  (v3_4 : Int32) (z42_ : Int32) (hv0_4 : 0 ≤ v3_4.toInt) (hv2_4 : v3_4.toInt ≤ 5) (h35_ : v3_4.toInt < 5) (h43_ : z42_.toInt = v3_4.toInt + 1) : z42_.toInt ≤ 5 := by have r_v3_4 := rngI v3_4; have r_z42_ := rngI z42_; omega
theorem lf_c_X12_nameOf_35  (v3_4 : Int32) (z42_ : Int32) (hv0_4 : 0 ≤ v3_4.toInt) (hv2_4 : v3_4.toInt ≤ 5) (h35_ : v3_4.toInt < 5) (h43_ : z42_.toInt = v3_4.toInt + 1) : (2147483648 - z42_.toInt).toNat < (2147483648 - v3_4.toInt).toNat := by have r_v3_4 := rngI v3_4; have r_z42_ := rngI z42_; omega
theorem lf_c_X12_nameOf_36    : 0 ≤ (0 : Int32).toInt := by have q0 := li_m1; have q1 := li_0; omega
theorem lf_c_X12_nameOf_37    : -1 ≤ ((-1) : Int32).toInt ∧ ((-1) : Int32).toInt ≤ 4 := by have q0 := li_m1; have q1 := li_0; omega
theorem lf_c_X12_nameOf_38    : (0 : Int32).toInt ≤ 5 := by have q0 := li_m1; have q1 := li_0; omega
set_option maxHeartbeats 4000000 in
set_option maxRecDepth 100000 in
theorem c_X12_nameOf (l : Launch) (G : va_G) (cy : Nat → ClassId) (ad : rf → Nat) (d : Nat) (v : Int32) (Mz : mM) (hIz : InvD Mz) : WP DD l G cy ad yX12_nameOf cX12_nameOf 4 (some .int) (d + 8) 0 [(0, vR (12, 0, 0)), (1, vI v)] [] Mz (fun r M' => Mz = M' ∧ (-1 ≤ r.toInt ∧ r.toInt ≤ 4) ∧ SP_X12_nameOf v Mz r) := by
  rcases use3 hIz with h1_ | h1_ | h1_
  · refine w_iconst (v := (-1)) dX12_nameOf_0 (by decide) ?_
    refine w_istore_n (ls' := [(2, vI (-1)), (0, vR (12, 0, 0)), (1, vI v)]) dX12_nameOf_1 rfl (by decide) rfl ?_
    refine w_iconst (v := 0) dX12_nameOf_2 (by decide) ?_
    refine w_istore_n (ls' := [(3, vI 0), (2, vI (-1)), (0, vR (12, 0, 0)), (1, vI v)]) dX12_nameOf_3 rfl (by decide) rfl ?_
    have lp2_ : ∀ (nn_4 : Nat) (v3_4 : Int32) (v2_4 : Int32) (hv0_4 : 0 ≤ v3_4.toInt) (hv1_4 : -1 ≤ v2_4.toInt ∧ v2_4.toInt ≤ 4) (hv2_4 : v3_4.toInt ≤ 5) (hL_4 : RCH (fun x_ y_ => ST_X12_nameOf_4 v Mz x_.1 x_.2 y_.1 y_.2) ((0 : Int32), ((-1) : Int32)) (v3_4, v2_4)), (2147483648 - v3_4.toInt).toNat < nn_4 → WP DD l G cy ad yX12_nameOf cX12_nameOf 4 (some .int) (d + 8) 4 [(3, vI v3_4), (2, vI v2_4), (0, vR (12, 0, 0)), (1, vI v)] [] Mz (fun r M' => Mz = M' ∧ (-1 ≤ r.toInt ∧ r.toInt ≤ 4) ∧ SP_X12_nameOf v Mz r) := by
      intro nn_4
      induction nn_4 with
      | zero => intro v3_4 v2_4 hv0_4 hv1_4 hv2_4 hL_4 hm_4; exact absurd hm_4 (Nat.not_lt_zero _)
      | succ nn_4 ih_4 =>
        intro v3_4 v2_4 hv0_4 hv1_4 hv2_4 hL_4 hm_4
        refine w_iload_n dX12_nameOf_4 rfl 0 rfl ?_
        refine w_aload_n dX12_nameOf_5 rfl 2 rfl ?_
        refine w_getR (c' := (56, 0, 0)) fl_RX12_40 rfl rfl ic_12 dX12_nameOf_6 rfl ?_
        refine w_aload_n dX12_nameOf_9 rfl 2 rfl ?_
        refine w_getI fl_RX12_181 rfl rfl ic_12 dX12_nameOf_10 (fun z3_ e4_ => ?_)
        have h5_ : 0 ≤ z3_.toInt ∧ z3_.toInt ≤ 2 := ofEq (P := fun v => 0 ≤ v.toInt ∧ v.toInt ≤ 2) e4_ (hIz.1 (12, 0, 0) 10)
        have h6_ : z3_.toInt = 0 := by rw [e4_]; exact h1_
        refine w_aaldL 0 rfl rfl rfl (fun _ => rfl) ic_56 h6_ (by decide) dX12_nameOf_13 ?_
        refine w_strlen (k := 4) (v := 4) rfl m_1599 (Nat.le_of_ble_eq_true rfl) (by omega) dX12_nameOf_14 rfl ?_
        refine w_icmp_ge (tgt := 49) dX12_nameOf_17 (by decide) (rfl : v3_4.toInt = v3_4.toInt) li_4 (fun h7_ => ?_) (fun h7_ => ?_)
        · refine w_iload_n dX12_nameOf_49 rfl 1 rfl ?_
          exact w_iret rfl dX12_nameOf_50 ⟨rfl, hv1_4, (Or.inl ⟨h1_, v3_4, hv0_4, v2_4, hv1_4, hv2_4, hL_4, z3_, e4_, h5_, h6_, h7_, rfl⟩)⟩
        · refine w_aload_n dX12_nameOf_20 rfl 2 rfl ?_
          refine w_getR (c' := (56, 0, 0)) fl_RX12_40 rfl rfl ic_12 dX12_nameOf_21 rfl ?_
          refine w_aload_n dX12_nameOf_24 rfl 2 rfl ?_
          refine w_getI fl_RX12_181 rfl rfl ic_12 dX12_nameOf_25 (fun z8_ e9_ => ?_)
          obtain rfl : z3_ = z8_ := e4_.trans e9_.symm
          refine w_aaldL 0 rfl rfl rfl (fun _ => rfl) ic_56 h6_ (by decide) dX12_nameOf_28 ?_
          refine w_iload_n dX12_nameOf_29 rfl 0 rfl ?_
          refine w_charAt (k := 4) rfl m_1600 (Nat.le_of_ble_eq_true rfl) (by omega) (lf_c_X12_nameOf_0 v3_4 hv0_4 hv2_4 h7_) dX12_nameOf_30 (fun z10_ z10_h => ?_)
          refine w_iload_n dX12_nameOf_33 rfl 3 rfl ?_
          refine w_icmp_ne (tgt := 41) dX12_nameOf_34 (by decide) (rfl : z10_.toInt = z10_.toInt) (rfl : v.toInt = v.toInt) (fun h11_ => ?_) (fun h11_ => ?_)
          · refine w_iload_n dX12_nameOf_41 rfl 1 rfl ?_
            refine w_istore_n (ls' := [(2, vI v2_4), (3, vI v3_4), (0, vR (12, 0, 0)), (1, vI v)]) dX12_nameOf_42 rfl (by decide) rfl ?_
            refine w_iincB (j := 1) (f := fun z12_ => [(3, vI z12_), (2, vI v2_4), (0, vR (12, 0, 0)), (1, vI v)]) dX12_nameOf_43 rfl (by decide) (fun _ => rfl) (rfl : v3_4.toInt = v3_4.toInt) li_1 (lf_c_X12_nameOf_1 v3_4 hv0_4 hv2_4 h7_) (fun z12_ h13_ => ?_)
            refine w_goto (tgt := 4) dX12_nameOf_46 (by decide) ?_
            refine w_loc (ls' := [(3, vI z12_), (2, vI v2_4), (0, vR (12, 0, 0)), (1, vI v)]) [0, 1, 2, 3] rfl ?_
            exact ih_4 z12_ v2_4 (lf_c_X12_nameOf_2 v3_4 z12_ hv0_4 hv2_4 h7_ h13_) hv1_4 (lf_c_X12_nameOf_3 v3_4 z12_ hv0_4 hv2_4 h7_ h13_) (RCH.tail hL_4 ⟨hv0_4, hv1_4, hv2_4, z3_, e4_, h5_, h6_, h7_, z10_, z10_h, (Or.inl ⟨h11_, z12_, h13_, rfl, rfl⟩)⟩) (Nat.lt_of_lt_of_le (lf_c_X12_nameOf_4 v3_4 z12_ hv0_4 hv2_4 h7_ h13_) (Nat.le_of_lt_succ hm_4))
          · refine w_iload_n dX12_nameOf_37 rfl 0 rfl ?_
            refine w_goto (tgt := 42) dX12_nameOf_38 (by decide) ?_
            refine w_istore_n (ls' := [(2, vI v3_4), (3, vI v3_4), (0, vR (12, 0, 0)), (1, vI v)]) dX12_nameOf_42 rfl (by decide) rfl ?_
            refine w_iincB (j := 1) (f := fun z14_ => [(3, vI z14_), (2, vI v3_4), (0, vR (12, 0, 0)), (1, vI v)]) dX12_nameOf_43 rfl (by decide) (fun _ => rfl) (rfl : v3_4.toInt = v3_4.toInt) li_1 (lf_c_X12_nameOf_5 v3_4 hv0_4 hv2_4 h7_) (fun z14_ h15_ => ?_)
            refine w_goto (tgt := 4) dX12_nameOf_46 (by decide) ?_
            refine w_loc (ls' := [(3, vI z14_), (2, vI v3_4), (0, vR (12, 0, 0)), (1, vI v)]) [0, 1, 2, 3] rfl ?_
            exact ih_4 z14_ v3_4 (lf_c_X12_nameOf_6 v3_4 z14_ hv0_4 hv2_4 h7_ h15_) (lf_c_X12_nameOf_7 v3_4 z14_ hv0_4 hv2_4 h7_ h15_) (lf_c_X12_nameOf_8 v3_4 z14_ hv0_4 hv2_4 h7_ h15_) (RCH.tail hL_4 ⟨hv0_4, hv1_4, hv2_4, z3_, e4_, h5_, h6_, h7_, z10_, z10_h, (Or.inr ⟨h11_, z14_, h15_, rfl, rfl⟩)⟩) (Nat.lt_of_lt_of_le (lf_c_X12_nameOf_9 v3_4 z14_ hv0_4 hv2_4 h7_ h15_) (Nat.le_of_lt_succ hm_4))
    exact lp2_ _ 0 (-1) (lf_c_X12_nameOf_10 ) (lf_c_X12_nameOf_11 ) (lf_c_X12_nameOf_12 ) RCH.refl (Nat.lt_succ_self _)
  · refine w_iconst (v := (-1)) dX12_nameOf_0 (by decide) ?_
    refine w_istore_n (ls' := [(2, vI (-1)), (0, vR (12, 0, 0)), (1, vI v)]) dX12_nameOf_1 rfl (by decide) rfl ?_
    refine w_iconst (v := 0) dX12_nameOf_2 (by decide) ?_
    refine w_istore_n (ls' := [(3, vI 0), (2, vI (-1)), (0, vR (12, 0, 0)), (1, vI v)]) dX12_nameOf_3 rfl (by decide) rfl ?_
    have lp16_ : ∀ (nn_4 : Nat) (v3_4 : Int32) (v2_4 : Int32) (hv0_4 : 0 ≤ v3_4.toInt) (hv1_4 : -1 ≤ v2_4.toInt ∧ v2_4.toInt ≤ 4) (hv2_4 : v3_4.toInt ≤ 5) (hL_4 : RCH (fun x_ y_ => ST_X12_nameOf_4b v Mz x_.1 x_.2 y_.1 y_.2) ((0 : Int32), ((-1) : Int32)) (v3_4, v2_4)), (2147483648 - v3_4.toInt).toNat < nn_4 → WP DD l G cy ad yX12_nameOf cX12_nameOf 4 (some .int) (d + 8) 4 [(3, vI v3_4), (2, vI v2_4), (0, vR (12, 0, 0)), (1, vI v)] [] Mz (fun r M' => Mz = M' ∧ (-1 ≤ r.toInt ∧ r.toInt ≤ 4) ∧ SP_X12_nameOf v Mz r) := by
      intro nn_4
      induction nn_4 with
      | zero => intro v3_4 v2_4 hv0_4 hv1_4 hv2_4 hL_4 hm_4; exact absurd hm_4 (Nat.not_lt_zero _)
      | succ nn_4 ih_4 =>
        intro v3_4 v2_4 hv0_4 hv1_4 hv2_4 hL_4 hm_4
        refine w_iload_n dX12_nameOf_4 rfl 0 rfl ?_
        refine w_aload_n dX12_nameOf_5 rfl 2 rfl ?_
        refine w_getR (c' := (56, 0, 0)) fl_RX12_40 rfl rfl ic_12 dX12_nameOf_6 rfl ?_
        refine w_aload_n dX12_nameOf_9 rfl 2 rfl ?_
        refine w_getI fl_RX12_181 rfl rfl ic_12 dX12_nameOf_10 (fun z17_ e18_ => ?_)
        have h19_ : 0 ≤ z17_.toInt ∧ z17_.toInt ≤ 2 := ofEq (P := fun v => 0 ≤ v.toInt ∧ v.toInt ≤ 2) e18_ (hIz.1 (12, 0, 0) 10)
        have h20_ : z17_.toInt = 1 := by rw [e18_]; exact h1_
        refine w_aaldL 1 rfl rfl rfl (fun _ => rfl) ic_56 h20_ (by decide) dX12_nameOf_13 ?_
        refine w_strlen (k := 5) (v := 3) rfl m_1599 (Nat.le_of_ble_eq_true rfl) (by omega) dX12_nameOf_14 rfl ?_
        refine w_icmp_ge (tgt := 49) dX12_nameOf_17 (by decide) (rfl : v3_4.toInt = v3_4.toInt) li_3 (fun h21_ => ?_) (fun h21_ => ?_)
        · refine w_iload_n dX12_nameOf_49 rfl 1 rfl ?_
          exact w_iret rfl dX12_nameOf_50 ⟨rfl, hv1_4, (Or.inr (Or.inl ⟨h1_, v3_4, hv0_4, v2_4, hv1_4, hv2_4, hL_4, z17_, e18_, h19_, h20_, h21_, rfl⟩))⟩
        · refine w_aload_n dX12_nameOf_20 rfl 2 rfl ?_
          refine w_getR (c' := (56, 0, 0)) fl_RX12_40 rfl rfl ic_12 dX12_nameOf_21 rfl ?_
          refine w_aload_n dX12_nameOf_24 rfl 2 rfl ?_
          refine w_getI fl_RX12_181 rfl rfl ic_12 dX12_nameOf_25 (fun z22_ e23_ => ?_)
          obtain rfl : z17_ = z22_ := e18_.trans e23_.symm
          refine w_aaldL 1 rfl rfl rfl (fun _ => rfl) ic_56 h20_ (by decide) dX12_nameOf_28 ?_
          refine w_iload_n dX12_nameOf_29 rfl 0 rfl ?_
          refine w_charAt (k := 5) rfl m_1600 (Nat.le_of_ble_eq_true rfl) (by omega) (lf_c_X12_nameOf_13 v3_4 hv0_4 hv2_4 h21_) dX12_nameOf_30 (fun z24_ z24_h => ?_)
          refine w_iload_n dX12_nameOf_33 rfl 3 rfl ?_
          refine w_icmp_ne (tgt := 41) dX12_nameOf_34 (by decide) (rfl : z24_.toInt = z24_.toInt) (rfl : v.toInt = v.toInt) (fun h25_ => ?_) (fun h25_ => ?_)
          · refine w_iload_n dX12_nameOf_41 rfl 1 rfl ?_
            refine w_istore_n (ls' := [(2, vI v2_4), (3, vI v3_4), (0, vR (12, 0, 0)), (1, vI v)]) dX12_nameOf_42 rfl (by decide) rfl ?_
            refine w_iincB (j := 1) (f := fun z26_ => [(3, vI z26_), (2, vI v2_4), (0, vR (12, 0, 0)), (1, vI v)]) dX12_nameOf_43 rfl (by decide) (fun _ => rfl) (rfl : v3_4.toInt = v3_4.toInt) li_1 (lf_c_X12_nameOf_14 v3_4 hv0_4 hv2_4 h21_) (fun z26_ h27_ => ?_)
            refine w_goto (tgt := 4) dX12_nameOf_46 (by decide) ?_
            refine w_loc (ls' := [(3, vI z26_), (2, vI v2_4), (0, vR (12, 0, 0)), (1, vI v)]) [0, 1, 2, 3] rfl ?_
            exact ih_4 z26_ v2_4 (lf_c_X12_nameOf_15 v3_4 z26_ hv0_4 hv2_4 h21_ h27_) hv1_4 (lf_c_X12_nameOf_16 v3_4 z26_ hv0_4 hv2_4 h21_ h27_) (RCH.tail hL_4 ⟨hv0_4, hv1_4, hv2_4, z17_, e18_, h19_, h20_, h21_, z24_, z24_h, (Or.inl ⟨h25_, z26_, h27_, rfl, rfl⟩)⟩) (Nat.lt_of_lt_of_le (lf_c_X12_nameOf_17 v3_4 z26_ hv0_4 hv2_4 h21_ h27_) (Nat.le_of_lt_succ hm_4))
          · refine w_iload_n dX12_nameOf_37 rfl 0 rfl ?_
            refine w_goto (tgt := 42) dX12_nameOf_38 (by decide) ?_
            refine w_istore_n (ls' := [(2, vI v3_4), (3, vI v3_4), (0, vR (12, 0, 0)), (1, vI v)]) dX12_nameOf_42 rfl (by decide) rfl ?_
            refine w_iincB (j := 1) (f := fun z28_ => [(3, vI z28_), (2, vI v3_4), (0, vR (12, 0, 0)), (1, vI v)]) dX12_nameOf_43 rfl (by decide) (fun _ => rfl) (rfl : v3_4.toInt = v3_4.toInt) li_1 (lf_c_X12_nameOf_18 v3_4 hv0_4 hv2_4 h21_) (fun z28_ h29_ => ?_)
            refine w_goto (tgt := 4) dX12_nameOf_46 (by decide) ?_
            refine w_loc (ls' := [(3, vI z28_), (2, vI v3_4), (0, vR (12, 0, 0)), (1, vI v)]) [0, 1, 2, 3] rfl ?_
            exact ih_4 z28_ v3_4 (lf_c_X12_nameOf_19 v3_4 z28_ hv0_4 hv2_4 h21_ h29_) (lf_c_X12_nameOf_20 v3_4 z28_ hv0_4 hv2_4 h21_ h29_) (lf_c_X12_nameOf_21 v3_4 z28_ hv0_4 hv2_4 h21_ h29_) (RCH.tail hL_4 ⟨hv0_4, hv1_4, hv2_4, z17_, e18_, h19_, h20_, h21_, z24_, z24_h, (Or.inr ⟨h25_, z28_, h29_, rfl, rfl⟩)⟩) (Nat.lt_of_lt_of_le (lf_c_X12_nameOf_22 v3_4 z28_ hv0_4 hv2_4 h21_ h29_) (Nat.le_of_lt_succ hm_4))
    exact lp16_ _ 0 (-1) (lf_c_X12_nameOf_23 ) (lf_c_X12_nameOf_24 ) (lf_c_X12_nameOf_25 ) RCH.refl (Nat.lt_succ_self _)
  · refine w_iconst (v := (-1)) dX12_nameOf_0 (by decide) ?_
    refine w_istore_n (ls' := [(2, vI (-1)), (0, vR (12, 0, 0)), (1, vI v)]) dX12_nameOf_1 rfl (by decide) rfl ?_
    refine w_iconst (v := 0) dX12_nameOf_2 (by decide) ?_
    refine w_istore_n (ls' := [(3, vI 0), (2, vI (-1)), (0, vR (12, 0, 0)), (1, vI v)]) dX12_nameOf_3 rfl (by decide) rfl ?_
    have lp30_ : ∀ (nn_4 : Nat) (v3_4 : Int32) (v2_4 : Int32) (hv0_4 : 0 ≤ v3_4.toInt) (hv1_4 : -1 ≤ v2_4.toInt ∧ v2_4.toInt ≤ 4) (hv2_4 : v3_4.toInt ≤ 5) (hL_4 : RCH (fun x_ y_ => ST_X12_nameOf_4c v Mz x_.1 x_.2 y_.1 y_.2) ((0 : Int32), ((-1) : Int32)) (v3_4, v2_4)), (2147483648 - v3_4.toInt).toNat < nn_4 → WP DD l G cy ad yX12_nameOf cX12_nameOf 4 (some .int) (d + 8) 4 [(3, vI v3_4), (2, vI v2_4), (0, vR (12, 0, 0)), (1, vI v)] [] Mz (fun r M' => Mz = M' ∧ (-1 ≤ r.toInt ∧ r.toInt ≤ 4) ∧ SP_X12_nameOf v Mz r) := by
      intro nn_4
      induction nn_4 with
      | zero => intro v3_4 v2_4 hv0_4 hv1_4 hv2_4 hL_4 hm_4; exact absurd hm_4 (Nat.not_lt_zero _)
      | succ nn_4 ih_4 =>
        intro v3_4 v2_4 hv0_4 hv1_4 hv2_4 hL_4 hm_4
        refine w_iload_n dX12_nameOf_4 rfl 0 rfl ?_
        refine w_aload_n dX12_nameOf_5 rfl 2 rfl ?_
        refine w_getR (c' := (56, 0, 0)) fl_RX12_40 rfl rfl ic_12 dX12_nameOf_6 rfl ?_
        refine w_aload_n dX12_nameOf_9 rfl 2 rfl ?_
        refine w_getI fl_RX12_181 rfl rfl ic_12 dX12_nameOf_10 (fun z31_ e32_ => ?_)
        have h33_ : 0 ≤ z31_.toInt ∧ z31_.toInt ≤ 2 := ofEq (P := fun v => 0 ≤ v.toInt ∧ v.toInt ≤ 2) e32_ (hIz.1 (12, 0, 0) 10)
        have h34_ : z31_.toInt = 2 := by rw [e32_]; exact h1_
        refine w_aaldL 2 rfl rfl rfl (fun _ => rfl) ic_56 h34_ (by decide) dX12_nameOf_13 ?_
        refine w_strlen (k := 6) (v := 5) rfl m_1599 (Nat.le_of_ble_eq_true rfl) (by omega) dX12_nameOf_14 rfl ?_
        refine w_icmp_ge (tgt := 49) dX12_nameOf_17 (by decide) (rfl : v3_4.toInt = v3_4.toInt) li_5 (fun h35_ => ?_) (fun h35_ => ?_)
        · refine w_iload_n dX12_nameOf_49 rfl 1 rfl ?_
          exact w_iret rfl dX12_nameOf_50 ⟨rfl, hv1_4, (Or.inr (Or.inr ⟨h1_, v3_4, hv0_4, v2_4, hv1_4, hv2_4, hL_4, z31_, e32_, h33_, h34_, h35_, rfl⟩))⟩
        · refine w_aload_n dX12_nameOf_20 rfl 2 rfl ?_
          refine w_getR (c' := (56, 0, 0)) fl_RX12_40 rfl rfl ic_12 dX12_nameOf_21 rfl ?_
          refine w_aload_n dX12_nameOf_24 rfl 2 rfl ?_
          refine w_getI fl_RX12_181 rfl rfl ic_12 dX12_nameOf_25 (fun z36_ e37_ => ?_)
          obtain rfl : z31_ = z36_ := e32_.trans e37_.symm
          refine w_aaldL 2 rfl rfl rfl (fun _ => rfl) ic_56 h34_ (by decide) dX12_nameOf_28 ?_
          refine w_iload_n dX12_nameOf_29 rfl 0 rfl ?_
          refine w_charAt (k := 6) rfl m_1600 (Nat.le_of_ble_eq_true rfl) (by omega) (lf_c_X12_nameOf_26 v3_4 hv0_4 hv2_4 h35_) dX12_nameOf_30 (fun z38_ z38_h => ?_)
          refine w_iload_n dX12_nameOf_33 rfl 3 rfl ?_
          refine w_icmp_ne (tgt := 41) dX12_nameOf_34 (by decide) (rfl : z38_.toInt = z38_.toInt) (rfl : v.toInt = v.toInt) (fun h39_ => ?_) (fun h39_ => ?_)
          · refine w_iload_n dX12_nameOf_41 rfl 1 rfl ?_
            refine w_istore_n (ls' := [(2, vI v2_4), (3, vI v3_4), (0, vR (12, 0, 0)), (1, vI v)]) dX12_nameOf_42 rfl (by decide) rfl ?_
            refine w_iincB (j := 1) (f := fun z40_ => [(3, vI z40_), (2, vI v2_4), (0, vR (12, 0, 0)), (1, vI v)]) dX12_nameOf_43 rfl (by decide) (fun _ => rfl) (rfl : v3_4.toInt = v3_4.toInt) li_1 (lf_c_X12_nameOf_27 v3_4 hv0_4 hv2_4 h35_) (fun z40_ h41_ => ?_)
            refine w_goto (tgt := 4) dX12_nameOf_46 (by decide) ?_
            refine w_loc (ls' := [(3, vI z40_), (2, vI v2_4), (0, vR (12, 0, 0)), (1, vI v)]) [0, 1, 2, 3] rfl ?_
            exact ih_4 z40_ v2_4 (lf_c_X12_nameOf_28 v3_4 z40_ hv0_4 hv2_4 h35_ h41_) hv1_4 (lf_c_X12_nameOf_29 v3_4 z40_ hv0_4 hv2_4 h35_ h41_) (RCH.tail hL_4 ⟨hv0_4, hv1_4, hv2_4, z31_, e32_, h33_, h34_, h35_, z38_, z38_h, (Or.inl ⟨h39_, z40_, h41_, rfl, rfl⟩)⟩) (Nat.lt_of_lt_of_le (lf_c_X12_nameOf_30 v3_4 z40_ hv0_4 hv2_4 h35_ h41_) (Nat.le_of_lt_succ hm_4))
          · refine w_iload_n dX12_nameOf_37 rfl 0 rfl ?_
            refine w_goto (tgt := 42) dX12_nameOf_38 (by decide) ?_
            refine w_istore_n (ls' := [(2, vI v3_4), (3, vI v3_4), (0, vR (12, 0, 0)), (1, vI v)]) dX12_nameOf_42 rfl (by decide) rfl ?_
            refine w_iincB (j := 1) (f := fun z42_ => [(3, vI z42_), (2, vI v3_4), (0, vR (12, 0, 0)), (1, vI v)]) dX12_nameOf_43 rfl (by decide) (fun _ => rfl) (rfl : v3_4.toInt = v3_4.toInt) li_1 (lf_c_X12_nameOf_31 v3_4 hv0_4 hv2_4 h35_) (fun z42_ h43_ => ?_)
            refine w_goto (tgt := 4) dX12_nameOf_46 (by decide) ?_
            refine w_loc (ls' := [(3, vI z42_), (2, vI v3_4), (0, vR (12, 0, 0)), (1, vI v)]) [0, 1, 2, 3] rfl ?_
            exact ih_4 z42_ v3_4 (lf_c_X12_nameOf_32 v3_4 z42_ hv0_4 hv2_4 h35_ h43_) (lf_c_X12_nameOf_33 v3_4 z42_ hv0_4 hv2_4 h35_ h43_) (lf_c_X12_nameOf_34 v3_4 z42_ hv0_4 hv2_4 h35_ h43_) (RCH.tail hL_4 ⟨hv0_4, hv1_4, hv2_4, z31_, e32_, h33_, h34_, h35_, z38_, z38_h, (Or.inr ⟨h39_, z42_, h43_, rfl, rfl⟩)⟩) (Nat.lt_of_lt_of_le (lf_c_X12_nameOf_35 v3_4 z42_ hv0_4 hv2_4 h35_ h43_) (Nat.le_of_lt_succ hm_4))
    exact lp30_ _ 0 (-1) (lf_c_X12_nameOf_36 ) (lf_c_X12_nameOf_37 ) (lf_c_X12_nameOf_38 ) RCH.refl (Nat.lt_succ_self _)
