section
def SP_X12_hasText (v : Int32) (Mz : mM) (r_ : Int32) : Prop := ∃ z1_ : Int32, (z1_.toInt = 50 * v.toInt) ∧ ∃ z3_ : Int32, (z3_.toInt = 345 + z1_.toInt) ∧ ∃ j7_ : Nat, ((j7_ : Int) = z3_.toInt) ∧ ∃ z5_ : Int32, (z5_ = Mz.1 (50, 0, 0) j7_) ∧ (((z5_.toInt ≤ 0) ∧ r_ = 0) ∨ ((0 < z5_.toInt) ∧ r_ = 1))
theorem lf_c_X12_hasText_0 (v : Int32) (hu : 0 ≤ v.toInt ∧ v.toInt ≤ 2) : -2147483648 ≤ 50 * v.toInt ∧ 50 * v.toInt < 2147483648 := by omega
theorem lf_c_X12_hasText_1 (v : Int32) (z1_ : Int32) (hu : 0 ≤ v.toInt ∧ v.toInt ≤ 2) (h2_ : z1_.toInt = 50 * v.toInt) : -2147483648 ≤ 345 + z1_.toInt ∧ 345 + z1_.toInt < 2147483648 := by omega
theorem lf_c_X12_hasText_2 (v : Int32) (z1_ : Int32) (z3_ : Int32) (hu : 0 ≤ v.toInt ∧ v.toInt ≤ 2) (h2_ : z1_.toInt = 50 * v.toInt) (h4_ : z3_.toInt = 345 + z1_.toInt) : 0 ≤ z3_.toInt ∧ z3_.toInt < ((3567 : Nat) : Int) := by omega
set_option maxHeartbeats 4000000 in
set_option maxRecDepth 100000 in
theorem c_X12_hasText (l : Launch) (G : va_G) (cy : Nat → ClassId) (ad : rf → Nat) (d : Nat) (v : Int32) (Mz : mM) (hIz : InvD Mz) (hu : 0 ≤ v.toInt ∧ v.toInt ≤ 2) : WP DD l G cy ad yX12_hasText cX12_hasText 2 (some .boolean) d 0 [(0, vR (12, 0, 0)), (1, vI v)] [] Mz (fun r M' => Mz = M' ∧ ((0 ≤ r.toInt ∧ r.toInt ≤ 1)) ∧ SP_X12_hasText v Mz r) := by
  refine w_aload_n dX12_hasText_0 rfl 0 rfl ?_
  refine w_getR (c' := (50, 0, 0)) fl_RX12_9 rfl rfl ic_12 dX12_hasText_1 rfl ?_
  refine w_sipush (v := 345) dX12_hasText_4 (by decide) ?_
  refine w_bipush (v := 50) dX12_hasText_7 (by decide) ?_
  refine w_iload_n dX12_hasText_9 rfl 1 rfl ?_
  refine w_imulB dX12_hasText_10 li_50 (rfl : v.toInt = v.toInt) (lf_c_X12_hasText_0 v hu ) (fun z1_ h2_ => ?_)
  refine w_iaddB dX12_hasText_11 li_345 (rfl : z1_.toInt = z1_.toInt) (lf_c_X12_hasText_1 v z1_ hu h2_ ) (fun z3_ h4_ => ?_)
  refine w_iald rfl rfl ic_50 (rfl : z3_.toInt = z3_.toInt) (lf_c_X12_hasText_2 v z1_ z3_ hu h2_ h4_ ) dX12_hasText_12 (fun j7_ h8_ z5_ e6_ => ?_)
  refine w_if_le (tgt := 20) dX12_hasText_13 (by decide) (rfl : z5_.toInt = z5_.toInt) (fun h9_ => ?_) (fun h9_ => ?_)
  · refine w_iconst (v := 0) dX12_hasText_20 (by decide) ?_
    exact w_zret rfl dX12_hasText_21 ⟨by decide, by decide⟩ ⟨rfl, ⟨by decide, by decide⟩, ⟨z1_, h2_, z3_, h4_, j7_, h8_, z5_, e6_, (Or.inl ⟨h9_, rfl⟩)⟩⟩
  · refine w_iconst (v := 1) dX12_hasText_16 (by decide) ?_
    refine w_goto (tgt := 21) dX12_hasText_17 (by decide) ?_
    exact w_zret rfl dX12_hasText_21 ⟨by decide, by decide⟩ ⟨rfl, ⟨by decide, by decide⟩, ⟨z1_, h2_, z3_, h4_, j7_, h8_, z5_, e6_, (Or.inr ⟨h9_, rfl⟩)⟩⟩
def S_c_X12_given : rf → Nat → Prop := fun c k => (c.1 = 59 ∧ c.2.1 = 0) ∨ False
def ST_X12_given_16 (Mz : mM) (z5_ : Int32) (v4_16 : Int32) (v3_16 : Int32) (M_16 : mM) (v4_16y : Int32) (v3_16y : Int32) (M_16y : mM) : Prop := (z5_.toInt ≤ v4_16.toInt) ∧ (v4_16.toInt ≤ z5_.toInt + 48) ∧ (0 ≤ v3_16.toInt) ∧ (v3_16.toInt ≤ 48) ∧ (dpt (M_16.1 (50, 0, 0)) z5_.toInt.toNat (v4_16.toInt - z5_.toInt).toNat = some v3_16.toInt.toNat) ∧ (InvD M_16) ∧ (FR (S_c_X12_given) Mz M_16) ∧ ∃ z8_ : Int32, (z8_.toInt = z5_.toInt - 1) ∧ ∃ j12_ : Nat, ((j12_ : Int) = z8_.toInt) ∧ ∃ z10_ : Int32, (z10_ = M_16.1 (50, 0, 0) j12_) ∧ (0 ≤ z10_.toInt ∧ z10_.toInt ≤ 48) ∧ ∃ z15_ : Int32, (z15_.toInt = z5_.toInt + z10_.toInt) ∧ (v4_16.toInt < z15_.toInt) ∧ ∃ j22_ : Nat, ((j22_ : Int) = v4_16.toInt) ∧ ∃ z20_ : Int32, (z20_ = M_16.1 (50, 0, 0) j22_) ∧ (v3_16.toInt ≤ v4_16.toInt - z5_.toInt ∧ v4_16.toInt - z5_.toInt < 48) ∧ (((0 ≤ z20_.toInt) ∧ (z20_.toInt ≤ 1004) ∧ (dpt (M_16.1 (50, 0, 0)) z5_.toInt.toNat (v4_16.toInt + 1 - z5_.toInt).toNat = some (v3_16.toInt + 1).toNat) ∧ (z20_.toInt < 2000) ∧ (((1000 ≤ z20_.toInt) ∧ ∃ z29_ : Int32, (z29_.toInt = z20_.toInt - 1000) ∧ ∃ j33_ : Nat, ((j33_ : Int) = z29_.toInt) ∧ ∃ z31_ : Int32, (z31_ = M_16.1 (58, 0, 0) j33_) ∧ ∃ j37_ : Nat, ((j37_ : Int) = v3_16.toInt) ∧ ∃ M35_ : mM, (M35_ = up M_16 (59, 0, 0) j37_ z31_) ∧ ∃ z42_ : Int32, (z42_.toInt = v3_16.toInt + 1) ∧ ∃ z44_ : Int32, (z44_.toInt = v4_16.toInt + 1) ∧ v4_16y = z44_ ∧ v3_16y = z42_ ∧ M_16y = M35_) ∨ ((z20_.toInt < 1000) ∧ ∃ j48_ : Nat, ((j48_ : Int) = v3_16.toInt) ∧ ∃ M46_ : mM, (M46_ = up M_16 (59, 0, 0) j48_ z20_) ∧ ∃ z53_ : Int32, (z53_.toInt = v3_16.toInt + 1) ∧ ∃ z55_ : Int32, (z55_.toInt = v4_16.toInt + 1) ∧ v4_16y = z55_ ∧ v3_16y = z53_ ∧ M_16y = M46_))) ∨ ((z20_.toInt = 2008 ∧ 1 ≤ v3_16.toInt) ∧ (dpt (M_16.1 (50, 0, 0)) z5_.toInt.toNat (v4_16.toInt + 1 - z5_.toInt).toNat = some (v3_16.toInt).toNat) ∧ (2000 ≤ z20_.toInt) ∧ (z20_.toInt = 2008) ∧ ∃ z59_ : Int32, (z59_.toInt = v3_16.toInt - 1) ∧ ∃ z61_ : Int32, (z61_.toInt = v3_16.toInt - 1) ∧ ∃ j65_ : Nat, ((j65_ : Int) = z61_.toInt) ∧ ∃ z63_ : Int32, (z63_ = M_16.1 (59, 0, 0) j65_) ∧ ∃ z67_ : Int32, (z67_ = -z63_) ∧ ∃ j71_ : Nat, ((j71_ : Int) = z59_.toInt) ∧ ∃ M69_ : mM, (M69_ = up M_16 (59, 0, 0) j71_ z67_) ∧ ∃ z76_ : Int32, (z76_.toInt = v4_16.toInt + 1) ∧ v4_16y = z76_ ∧ v3_16y = v3_16 ∧ M_16y = M69_) ∨ ((z20_.toInt = 2009 ∧ 3 ≤ v3_16.toInt) ∧ (dpt (M_16.1 (50, 0, 0)) z5_.toInt.toNat (v4_16.toInt + 1 - z5_.toInt).toNat = some (v3_16.toInt - 2).toNat) ∧ (2000 ≤ z20_.toInt) ∧ (¬ z20_.toInt = 2008) ∧ (z20_.toInt = 2009) ∧ ∃ z81_ : Int32, (z81_.toInt = v3_16.toInt + (-2)) ∧ ∃ z83_ : Int32, (z83_.toInt = z81_.toInt - 1) ∧ ∃ z85_ : Int32, (z85_.toInt = z81_.toInt - 1) ∧ ∃ j89_ : Nat, ((j89_ : Int) = z85_.toInt) ∧ ∃ z87_ : Int32, (z87_ = M_16.1 (59, 0, 0) j89_) ∧ (((z87_.toInt = 0) ∧ ∃ z92_ : Int32, (z92_.toInt = z81_.toInt + 1) ∧ ∃ j96_ : Nat, ((j96_ : Int) = z92_.toInt) ∧ ∃ z94_ : Int32, (z94_ = M_16.1 (59, 0, 0) j96_) ∧ ∃ j100_ : Nat, ((j100_ : Int) = z83_.toInt) ∧ ∃ M98_ : mM, (M98_ = up M_16 (59, 0, 0) j100_ z94_) ∧ ∃ z105_ : Int32, (z105_.toInt = v4_16.toInt + 1) ∧ v4_16y = z105_ ∧ v3_16y = z81_ ∧ M_16y = M98_) ∨ ((¬ z87_.toInt = 0) ∧ ∃ j109_ : Nat, ((j109_ : Int) = z81_.toInt) ∧ ∃ z107_ : Int32, (z107_ = M_16.1 (59, 0, 0) j109_) ∧ ∃ j113_ : Nat, ((j113_ : Int) = z83_.toInt) ∧ ∃ M111_ : mM, (M111_ = up M_16 (59, 0, 0) j113_ z107_) ∧ ∃ z118_ : Int32, (z118_.toInt = v4_16.toInt + 1) ∧ v4_16y = z118_ ∧ v3_16y = z81_ ∧ M_16y = M111_))) ∨ ((2000 ≤ z20_.toInt ∧ z20_.toInt ≤ 2007 ∧ 2 ≤ v3_16.toInt) ∧ (dpt (M_16.1 (50, 0, 0)) z5_.toInt.toNat (v4_16.toInt + 1 - z5_.toInt).toNat = some (v3_16.toInt - 1).toNat) ∧ (2000 ≤ z20_.toInt) ∧ (¬ z20_.toInt = 2008) ∧ (¬ z20_.toInt = 2009) ∧ ∃ z123_ : Int32, (z123_.toInt = v3_16.toInt + (-1)) ∧ ∃ z125_ : Int32, (z125_.toInt = z123_.toInt - 1) ∧ ∃ z127_ : Int32, (z127_.toInt = z123_.toInt - 1) ∧ ∃ j131_ : Nat, ((j131_ : Int) = z127_.toInt) ∧ ∃ z129_ : Int32, (z129_ = M_16.1 (59, 0, 0) j131_) ∧ ∃ j135_ : Nat, ((j135_ : Int) = z123_.toInt) ∧ ∃ z133_ : Int32, (z133_ = M_16.1 (59, 0, 0) j135_) ∧ ∃ r137_ : Int32, (SP_X12_done z20_ z129_ z133_ M_16 r137_) ∧ ∃ j144_ : Nat, ((j144_ : Int) = z125_.toInt) ∧ ∃ M142_ : mM, (M142_ = up M_16 (59, 0, 0) j144_ r137_) ∧ ∃ z149_ : Int32, (z149_.toInt = v4_16.toInt + 1) ∧ v4_16y = z149_ ∧ v3_16y = z123_ ∧ M_16y = M142_))
def SP_X12_given (v : Int32) (Mz : mM) (r_ : Int32) (M_ : mM) : Prop := ∃ z1_ : Int32, (z1_.toInt = 50 * v.toInt) ∧ ∃ z3_ : Int32, (z3_.toInt = 345 + z1_.toInt) ∧ ∃ z5_ : Int32, (z5_.toInt = z3_.toInt + 1) ∧ ∃ v4_16 : Int32, (z5_.toInt ≤ v4_16.toInt) ∧ (v4_16.toInt ≤ z5_.toInt + 48) ∧ ∃ v3_16 : Int32, (0 ≤ v3_16.toInt) ∧ (v3_16.toInt ≤ 48) ∧ ∃ M_16 : mM, (dpt (M_16.1 (50, 0, 0)) z5_.toInt.toNat (v4_16.toInt - z5_.toInt).toNat = some v3_16.toInt.toNat) ∧ (RCH (fun x_ y_ => ST_X12_given_16 Mz z5_ x_.1 x_.2.1 x_.2.2 y_.1 y_.2.1 y_.2.2) (z5_, (0 : Int32), Mz) (v4_16, v3_16, M_16)) ∧ (InvD M_16) ∧ (FR (S_c_X12_given) Mz M_16) ∧ ∃ z8_ : Int32, (z8_.toInt = z5_.toInt - 1) ∧ ∃ j12_ : Nat, ((j12_ : Int) = z8_.toInt) ∧ ∃ z10_ : Int32, (z10_ = M_16.1 (50, 0, 0) j12_) ∧ (0 ≤ z10_.toInt ∧ z10_.toInt ≤ 48) ∧ ∃ z15_ : Int32, (z15_.toInt = z5_.toInt + z10_.toInt) ∧ (z15_.toInt ≤ v4_16.toInt) ∧ ∃ z18_ : Int32, (z18_ = M_16.1 (59, 0, 0) 0) ∧ r_ = z18_ ∧ M_ = M_16
theorem lf_c_X12_given_2 (v : Int32) (z1_ : Int32) (z3_ : Int32) (hu : 0 ≤ v.toInt ∧ v.toInt ≤ 2) (h2_ : z1_.toInt = 50 * v.toInt) (h4_ : z3_.toInt = 345 + z1_.toInt) : -2147483648 ≤ z3_.toInt + 1 ∧ z3_.toInt + 1 < 2147483648 := by omega
theorem lf_c_X12_given_3 (v : Int32) (z1_ : Int32) (z3_ : Int32) (z5_ : Int32) (hu : 0 ≤ v.toInt ∧ v.toInt ≤ 2) (h2_ : z1_.toInt = 50 * v.toInt) (h4_ : z3_.toInt = 345 + z1_.toInt) (h6_ : z5_.toInt = z3_.toInt + 1) : -2147483648 ≤ z5_.toInt - 1 ∧ z5_.toInt - 1 < 2147483648 := by omega
theorem lf_c_X12_given_4 (v : Int32) (z1_ : Int32) (z3_ : Int32) (z5_ : Int32) (z8_ : Int32) (hu : 0 ≤ v.toInt ∧ v.toInt ≤ 2) (h2_ : z1_.toInt = 50 * v.toInt) (h4_ : z3_.toInt = 345 + z1_.toInt) (h6_ : z5_.toInt = z3_.toInt + 1) (h9_ : z8_.toInt = z5_.toInt - 1) : 0 ≤ z8_.toInt ∧ z8_.toInt < ((3567 : Nat) : Int) := by omega
theorem lf_c_X12_given_5 (v : Int32) (z1_ : Int32) (z3_ : Int32) (z5_ : Int32) (z8_ : Int32) (j12_ : Nat) (h2_ : z1_.toInt = 50 * v.toInt) (h4_ : z3_.toInt = 345 + z1_.toInt) (h6_ : z5_.toInt = z3_.toInt + 1) (h9_ : z8_.toInt = z5_.toInt - 1) (h13_ : (j12_ : Int) = z8_.toInt) : (j12_ : Int) = 345 + 50 * v.toInt := by omega
theorem lf_c_X12_given_6 (v : Int32) (z1_ : Int32) (z3_ : Int32) (z5_ : Int32) (z8_ : Int32) (j12_ : Nat) (z10_ : Int32) (hu : 0 ≤ v.toInt ∧ v.toInt ≤ 2) (h2_ : z1_.toInt = 50 * v.toInt) (h4_ : z3_.toInt = 345 + z1_.toInt) (h6_ : z5_.toInt = z3_.toInt + 1) (h9_ : z8_.toInt = z5_.toInt - 1) (h13_ : (j12_ : Int) = z8_.toInt) (h14_ : 0 ≤ z10_.toInt ∧ z10_.toInt ≤ 48) : -2147483648 ≤ z5_.toInt + z10_.toInt ∧ z5_.toInt + z10_.toInt < 2147483648 := by omega
theorem lf_c_X12_given_7 (v : Int32) (z1_ : Int32) (z3_ : Int32) (z5_ : Int32) (v4_16 : Int32) (hu : 0 ≤ v.toInt ∧ v.toInt ≤ 2) (h2_ : z1_.toInt = 50 * v.toInt) (h4_ : z3_.toInt = 345 + z1_.toInt) (h6_ : z5_.toInt = z3_.toInt + 1) (hv0_16 : z5_.toInt ≤ v4_16.toInt) (hv1_16 : v4_16.toInt ≤ z5_.toInt + 48) : 0 ≤ v4_16.toInt ∧ v4_16.toInt < ((3567 : Nat) : Int) := by omega
theorem lf_c_X12_given_8 (v : Int32) (z1_ : Int32) (z3_ : Int32) (z5_ : Int32) (h2_ : z1_.toInt = 50 * v.toInt) (h4_ : z3_.toInt = 345 + z1_.toInt) (h6_ : z5_.toInt = z3_.toInt + 1) : z5_.toInt = 346 + 50 * v.toInt := by omega
theorem lf_c_X12_given_10 (z5_ : Int32) (v4_16 : Int32) (hv0_16 : z5_.toInt ≤ v4_16.toInt) : z5_.toInt ≤ v4_16.toInt := by omega
theorem lf_c_X12_given_11 (z5_ : Int32) (v4_16 : Int32) (z10_ : Int32) (z15_ : Int32) (h16_ : z15_.toInt = z5_.toInt + z10_.toInt) (h17_ : v4_16.toInt < z15_.toInt) : v4_16.toInt < z5_.toInt + z10_.toInt := by omega
theorem lf_c_X12_given_13 (v3_16 : Int32) (hv2_16 : 0 ≤ v3_16.toInt) : 0 ≤ v3_16.toInt := by omega
theorem lf_c_X12_given_14 (z20_ : Int32) (h25_x : z20_.toInt ≤ 1004) (h9 : 2000 ≤ z20_.toInt) : False := by omega
theorem lf_c_X12_given_15 (z20_ : Int32) (h25_x : z20_.toInt ≤ 1004) (h28_ : 1000 ≤ z20_.toInt) : -2147483648 ≤ z20_.toInt - 1000 ∧ z20_.toInt - 1000 < 2147483648 := by omega
theorem lf_c_X12_given_16 (z20_ : Int32) (z29_ : Int32) (h25_x : z20_.toInt ≤ 1004) (h28_ : 1000 ≤ z20_.toInt) (h30_ : z29_.toInt = z20_.toInt - 1000) : 0 ≤ z29_.toInt ∧ z29_.toInt < ((5 : Nat) : Int) := by omega
theorem lf_c_X12_given_17 (z5_ : Int32) (v4_16 : Int32) (v3_16 : Int32) (hv2_16 : 0 ≤ v3_16.toInt) (h24_ : v3_16.toInt ≤ v4_16.toInt - z5_.toInt ∧ v4_16.toInt - z5_.toInt < 48) : 0 ≤ v3_16.toInt ∧ v3_16.toInt < ((49 : Nat) : Int) := by omega
theorem lf_c_X12_given_18 (v3_16 : Int32) (hv2_16 : 0 ≤ v3_16.toInt) (hv3_16 : v3_16.toInt ≤ 48) : -2147483648 ≤ v3_16.toInt + 1 ∧ v3_16.toInt + 1 < 2147483648 := by omega
theorem lf_c_X12_given_19 (v : Int32) (z1_ : Int32) (z3_ : Int32) (z5_ : Int32) (v4_16 : Int32) (v3_16 : Int32) (j22_ : Nat) (hu : 0 ≤ v.toInt ∧ v.toInt ≤ 2) (h2_ : z1_.toInt = 50 * v.toInt) (h4_ : z3_.toInt = 345 + z1_.toInt) (h6_ : z5_.toInt = z3_.toInt + 1) (h23_ : (j22_ : Int) = v4_16.toInt) (h24_ : v3_16.toInt ≤ v4_16.toInt - z5_.toInt ∧ v4_16.toInt - z5_.toInt < 48) : -2147483648 ≤ v4_16.toInt + 1 ∧ v4_16.toInt + 1 < 2147483648 := by omega
theorem lf_c_X12_given_20 (z5_ : Int32) (v4_16 : Int32) (z44_ : Int32) (hv0_16 : z5_.toInt ≤ v4_16.toInt) (h45_ : z44_.toInt = v4_16.toInt + 1) : z5_.toInt ≤ z44_.toInt := by omega
theorem lf_c_X12_given_21 (z5_ : Int32) (v4_16 : Int32) (v3_16 : Int32) (z44_ : Int32) (h24_ : v3_16.toInt ≤ v4_16.toInt - z5_.toInt ∧ v4_16.toInt - z5_.toInt < 48) (h45_ : z44_.toInt = v4_16.toInt + 1) : z44_.toInt ≤ z5_.toInt + 48 := by omega
theorem lf_c_X12_given_23 (z5_ : Int32) (v4_16 : Int32) (v3_16 : Int32) (z42_ : Int32) (h24_ : v3_16.toInt ≤ v4_16.toInt - z5_.toInt ∧ v4_16.toInt - z5_.toInt < 48) (h43_ : z42_.toInt = v3_16.toInt + 1) : z42_.toInt ≤ 48 := by omega
theorem lf_c_X12_given_24 (z5_ : Int32) (v4_16 : Int32) (z44_ : Int32) (h45_ : z44_.toInt = v4_16.toInt + 1) : z44_.toInt - z5_.toInt = v4_16.toInt + 1 - z5_.toInt := by omega
theorem lf_c_X12_given_25 (v3_16 : Int32) (z42_ : Int32) (h43_ : z42_.toInt = v3_16.toInt + 1) : z42_.toInt = v3_16.toInt + 1 := by omega
theorem lf_c_X12_given_26 (z5_ : Int32) (v4_16 : Int32) (v3_16 : Int32) (z44_ : Int32) (h24_ : v3_16.toInt ≤ v4_16.toInt - z5_.toInt ∧ v4_16.toInt - z5_.toInt < 48) (h45_ : z44_.toInt = v4_16.toInt + 1) : (z5_.toInt + 48 - z44_.toInt).toNat < (z5_.toInt + 48 - v4_16.toInt).toNat := by omega
theorem lf_c_X12_given_37 (v3_16 : Int32) (z20_ : Int32) (h25_ : z20_.toInt = 2008 ∧ 1 ≤ v3_16.toInt) (h9 : z20_.toInt < 2000) : False := by omega
theorem lf_c_X12_given_38 (v3_16 : Int32) (z20_ : Int32) (h25_ : z20_.toInt = 2008 ∧ 1 ≤ v3_16.toInt) (h9 : ¬ z20_.toInt = 2008) : False := by omega
theorem lf_c_X12_given_39 (v3_16 : Int32) (z20_ : Int32) (hv3_16 : v3_16.toInt ≤ 48) (h25_ : z20_.toInt = 2008 ∧ 1 ≤ v3_16.toInt) : -2147483648 ≤ v3_16.toInt - 1 ∧ v3_16.toInt - 1 < 2147483648 := by omega
theorem lf_c_X12_given_41 (z5_ : Int32) (v4_16 : Int32) (v3_16 : Int32) (z20_ : Int32) (z61_ : Int32) (h24_ : v3_16.toInt ≤ v4_16.toInt - z5_.toInt ∧ v4_16.toInt - z5_.toInt < 48) (h25_ : z20_.toInt = 2008 ∧ 1 ≤ v3_16.toInt) (h62_ : z61_.toInt = v3_16.toInt - 1) : 0 ≤ z61_.toInt ∧ z61_.toInt < ((49 : Nat) : Int) := by omega
theorem lf_c_X12_given_44 (z5_ : Int32) (v4_16 : Int32) (v3_16 : Int32) (z20_ : Int32) (z76_ : Int32) (h24_ : v3_16.toInt ≤ v4_16.toInt - z5_.toInt ∧ v4_16.toInt - z5_.toInt < 48) (h25_ : z20_.toInt = 2008 ∧ 1 ≤ v3_16.toInt) (h77_ : z76_.toInt = v4_16.toInt + 1) : z5_.toInt ≤ z76_.toInt := by omega
theorem lf_c_X12_given_49 (v3_16 : Int32) (z20_ : Int32) (h25_ : z20_.toInt = 2009 ∧ 3 ≤ v3_16.toInt) (h9 : z20_.toInt < 2000) : False := by omega
theorem lf_c_X12_given_50 (v3_16 : Int32) (z20_ : Int32) (h25_ : z20_.toInt = 2009 ∧ 3 ≤ v3_16.toInt) (h9 : z20_.toInt = 2008) : False := by omega
theorem lf_c_X12_given_51 (v3_16 : Int32) (z20_ : Int32) (h25_ : z20_.toInt = 2009 ∧ 3 ≤ v3_16.toInt) (h9 : ¬ z20_.toInt = 2009) : False := by omega
theorem lf_c_X12_given_52 (v3_16 : Int32) (z20_ : Int32) (hv3_16 : v3_16.toInt ≤ 48) (h25_ : z20_.toInt = 2009 ∧ 3 ≤ v3_16.toInt) : -2147483648 ≤ v3_16.toInt + (-2) ∧ v3_16.toInt + (-2) < 2147483648 := by omega
theorem lf_c_X12_given_53 (v3_16 : Int32) (z20_ : Int32) (z81_ : Int32) (hv3_16 : v3_16.toInt ≤ 48) (h25_ : z20_.toInt = 2009 ∧ 3 ≤ v3_16.toInt) (h82_ : z81_.toInt = v3_16.toInt + (-2)) : -2147483648 ≤ z81_.toInt - 1 ∧ z81_.toInt - 1 < 2147483648 := by omega
theorem lf_c_X12_given_55 (z5_ : Int32) (v4_16 : Int32) (v3_16 : Int32) (z20_ : Int32) (z81_ : Int32) (z85_ : Int32) (h24_ : v3_16.toInt ≤ v4_16.toInt - z5_.toInt ∧ v4_16.toInt - z5_.toInt < 48) (h25_ : z20_.toInt = 2009 ∧ 3 ≤ v3_16.toInt) (h82_ : z81_.toInt = v3_16.toInt + (-2)) (h86_ : z85_.toInt = z81_.toInt - 1) : 0 ≤ z85_.toInt ∧ z85_.toInt < ((49 : Nat) : Int) := by omega
theorem lf_c_X12_given_56 (v3_16 : Int32) (z20_ : Int32) (z81_ : Int32) (hv3_16 : v3_16.toInt ≤ 48) (h25_ : z20_.toInt = 2009 ∧ 3 ≤ v3_16.toInt) (h82_ : z81_.toInt = v3_16.toInt + (-2)) : -2147483648 ≤ z81_.toInt + 1 ∧ z81_.toInt + 1 < 2147483648 := by omega
theorem lf_c_X12_given_57 (z5_ : Int32) (v4_16 : Int32) (v3_16 : Int32) (z20_ : Int32) (z81_ : Int32) (z92_ : Int32) (h24_ : v3_16.toInt ≤ v4_16.toInt - z5_.toInt ∧ v4_16.toInt - z5_.toInt < 48) (h25_ : z20_.toInt = 2009 ∧ 3 ≤ v3_16.toInt) (h82_ : z81_.toInt = v3_16.toInt + (-2)) (h93_ : z92_.toInt = z81_.toInt + 1) : 0 ≤ z92_.toInt ∧ z92_.toInt < ((49 : Nat) : Int) := by omega
theorem lf_c_X12_given_60 (z5_ : Int32) (v4_16 : Int32) (v3_16 : Int32) (z20_ : Int32) (z105_ : Int32) (h24_ : v3_16.toInt ≤ v4_16.toInt - z5_.toInt ∧ v4_16.toInt - z5_.toInt < 48) (h25_ : z20_.toInt = 2009 ∧ 3 ≤ v3_16.toInt) (h106_ : z105_.toInt = v4_16.toInt + 1) : z5_.toInt ≤ z105_.toInt := by omega
theorem lf_c_X12_given_62 (v3_16 : Int32) (z20_ : Int32) (z81_ : Int32) (h25_ : z20_.toInt = 2009 ∧ 3 ≤ v3_16.toInt) (h82_ : z81_.toInt = v3_16.toInt + (-2)) : 0 ≤ z81_.toInt := by omega
theorem lf_c_X12_given_63 (z5_ : Int32) (v4_16 : Int32) (v3_16 : Int32) (z81_ : Int32) (h24_ : v3_16.toInt ≤ v4_16.toInt - z5_.toInt ∧ v4_16.toInt - z5_.toInt < 48) (h82_ : z81_.toInt = v3_16.toInt + (-2)) : z81_.toInt ≤ 48 := by omega
theorem lf_c_X12_given_65 (v3_16 : Int32) (z81_ : Int32) (h82_ : z81_.toInt = v3_16.toInt + (-2)) : z81_.toInt = v3_16.toInt - 2 := by omega
theorem lf_c_X12_given_67 (z5_ : Int32) (v4_16 : Int32) (v3_16 : Int32) (z20_ : Int32) (z81_ : Int32) (h24_ : v3_16.toInt ≤ v4_16.toInt - z5_.toInt ∧ v4_16.toInt - z5_.toInt < 48) (h25_ : z20_.toInt = 2009 ∧ 3 ≤ v3_16.toInt) (h82_ : z81_.toInt = v3_16.toInt + (-2)) : 0 ≤ z81_.toInt ∧ z81_.toInt < ((49 : Nat) : Int) := by omega
theorem lf_c_X12_given_77 (v3_16 : Int32) (z20_ : Int32) (h25_ : 2000 ≤ z20_.toInt ∧ z20_.toInt ≤ 2007 ∧ 2 ≤ v3_16.toInt) (h9 : z20_.toInt < 2000) : False := by omega
theorem lf_c_X12_given_78 (v3_16 : Int32) (z20_ : Int32) (h25_ : 2000 ≤ z20_.toInt ∧ z20_.toInt ≤ 2007 ∧ 2 ≤ v3_16.toInt) (h9 : z20_.toInt = 2008) : False := by omega
theorem lf_c_X12_given_79 (v3_16 : Int32) (z20_ : Int32) (h25_ : 2000 ≤ z20_.toInt ∧ z20_.toInt ≤ 2007 ∧ 2 ≤ v3_16.toInt) (h9 : z20_.toInt = 2009) : False := by omega
theorem lf_c_X12_given_80 (v3_16 : Int32) (z20_ : Int32) (hv3_16 : v3_16.toInt ≤ 48) (h25_ : 2000 ≤ z20_.toInt ∧ z20_.toInt ≤ 2007 ∧ 2 ≤ v3_16.toInt) : -2147483648 ≤ v3_16.toInt + (-1) ∧ v3_16.toInt + (-1) < 2147483648 := by omega
theorem lf_c_X12_given_81 (v3_16 : Int32) (z20_ : Int32) (z123_ : Int32) (hv3_16 : v3_16.toInt ≤ 48) (h25_ : 2000 ≤ z20_.toInt ∧ z20_.toInt ≤ 2007 ∧ 2 ≤ v3_16.toInt) (h124_ : z123_.toInt = v3_16.toInt + (-1)) : -2147483648 ≤ z123_.toInt - 1 ∧ z123_.toInt - 1 < 2147483648 := by omega
theorem lf_c_X12_given_83 (z5_ : Int32) (v4_16 : Int32) (v3_16 : Int32) (z20_ : Int32) (z123_ : Int32) (z127_ : Int32) (h24_ : v3_16.toInt ≤ v4_16.toInt - z5_.toInt ∧ v4_16.toInt - z5_.toInt < 48) (h25_ : 2000 ≤ z20_.toInt ∧ z20_.toInt ≤ 2007 ∧ 2 ≤ v3_16.toInt) (h124_ : z123_.toInt = v3_16.toInt + (-1)) (h128_ : z127_.toInt = z123_.toInt - 1) : 0 ≤ z127_.toInt ∧ z127_.toInt < ((49 : Nat) : Int) := by omega
theorem lf_c_X12_given_84 (z5_ : Int32) (v4_16 : Int32) (v3_16 : Int32) (z20_ : Int32) (z123_ : Int32) (h24_ : v3_16.toInt ≤ v4_16.toInt - z5_.toInt ∧ v4_16.toInt - z5_.toInt < 48) (h25_ : 2000 ≤ z20_.toInt ∧ z20_.toInt ≤ 2007 ∧ 2 ≤ v3_16.toInt) (h124_ : z123_.toInt = v3_16.toInt + (-1)) : 0 ≤ z123_.toInt ∧ z123_.toInt < ((49 : Nat) : Int) := by omega
theorem lf_c_X12_given_87 (z5_ : Int32) (v4_16 : Int32) (v3_16 : Int32) (z20_ : Int32) (z149_ : Int32) (h24_ : v3_16.toInt ≤ v4_16.toInt - z5_.toInt ∧ v4_16.toInt - z5_.toInt < 48) (h25_ : 2000 ≤ z20_.toInt ∧ z20_.toInt ≤ 2007 ∧ 2 ≤ v3_16.toInt) (h150_ : z149_.toInt = v4_16.toInt + 1) : z5_.toInt ≤ z149_.toInt := by omega
theorem lf_c_X12_given_89 (v3_16 : Int32) (z20_ : Int32) (z123_ : Int32) (h25_ : 2000 ≤ z20_.toInt ∧ z20_.toInt ≤ 2007 ∧ 2 ≤ v3_16.toInt) (h124_ : z123_.toInt = v3_16.toInt + (-1)) : 0 ≤ z123_.toInt := by omega
theorem lf_c_X12_given_90 (z5_ : Int32) (v4_16 : Int32) (v3_16 : Int32) (z123_ : Int32) (h24_ : v3_16.toInt ≤ v4_16.toInt - z5_.toInt ∧ v4_16.toInt - z5_.toInt < 48) (h124_ : z123_.toInt = v3_16.toInt + (-1)) : z123_.toInt ≤ 48 := by omega
theorem lf_c_X12_given_92 (v3_16 : Int32) (z123_ : Int32) (h124_ : z123_.toInt = v3_16.toInt + (-1)) : z123_.toInt = v3_16.toInt - 1 := by omega
theorem lf_c_X12_given_94 (z5_ : Int32) : z5_.toInt ≤ z5_.toInt := by have q0 := li_0; omega
theorem lf_c_X12_given_95 (z5_ : Int32) : z5_.toInt ≤ z5_.toInt + 48 := by have q0 := li_0; omega
set_option maxHeartbeats 4000000 in
set_option maxRecDepth 100000 in
theorem c_X12_given (l : Launch) (G : va_G) (cy : Nat → ClassId) (ad : rf → Nat) (d : Nat) (v : Int32) (Mz : mM) (hIz : InvD Mz) (hu : 0 ≤ v.toInt ∧ v.toInt ≤ 2) : WP DD l G cy ad yX12_given cX12_given 6 (some .int) (d + 1) 0 [(0, vR (12, 0, 0)), (1, vI v)] [] Mz (fun r M' => InvD M' ∧ FR (S_c_X12_given) Mz M' ∧ (True) ∧ SP_X12_given v Mz r M') := by
  have hFz : FR (S_c_X12_given) Mz Mz := FR.self
  refine w_sipush (v := 345) dX12_given_0 (by decide) ?_
  refine w_bipush (v := 50) dX12_given_3 (by decide) ?_
  refine w_iload_n dX12_given_5 rfl 1 rfl ?_
  refine w_imulB dX12_given_6 li_50 (rfl : v.toInt = v.toInt) (lf_c_X12_hasText_0 v hu ) (fun z1_ h2_ => ?_)
  refine w_iaddB dX12_given_7 li_345 (rfl : z1_.toInt = z1_.toInt) (lf_c_X12_hasText_1 v z1_ hu h2_ ) (fun z3_ h4_ => ?_)
  refine w_iconst (v := 1) dX12_given_8 (by decide) ?_
  refine w_iaddB dX12_given_9 (rfl : z3_.toInt = z3_.toInt) li_1 (lf_c_X12_given_2 v z1_ z3_ hu h2_ h4_ ) (fun z5_ h6_ => ?_)
  refine w_istore_n (ls' := [(2, vI z5_), (0, vR (12, 0, 0)), (1, vI v)]) dX12_given_10 rfl (by decide) rfl ?_
  refine w_iconst (v := 0) dX12_given_11 (by decide) ?_
  refine w_istore_n (ls' := [(3, vI 0), (2, vI z5_), (0, vR (12, 0, 0)), (1, vI v)]) dX12_given_12 rfl (by decide) rfl ?_
  refine w_iload_n dX12_given_13 rfl 1 rfl ?_
  refine w_istore (ls' := [(4, vI z5_), (3, vI 0), (2, vI z5_), (0, vR (12, 0, 0)), (1, vI v)]) dX12_given_14 (by decide) rfl ?_
  have lp7_ : ∀ (nn_16 : Nat) (M_16 : mM) (hI_16 : InvD M_16) (hF_16 : FR (S_c_X12_given) Mz M_16) (v4_16 : Int32) (v3_16 : Int32) (hv0_16 : z5_.toInt ≤ v4_16.toInt) (hv1_16 : v4_16.toInt ≤ z5_.toInt + 48) (hv2_16 : 0 ≤ v3_16.toInt) (hv3_16 : v3_16.toInt ≤ 48) (hv4_16 : dpt (M_16.1 (50, 0, 0)) z5_.toInt.toNat (v4_16.toInt - z5_.toInt).toNat = some v3_16.toInt.toNat) (hL_16 : RCH (fun x_ y_ => ST_X12_given_16 Mz z5_ x_.1 x_.2.1 x_.2.2 y_.1 y_.2.1 y_.2.2) (z5_, (0 : Int32), Mz) (v4_16, v3_16, M_16)), (z5_.toInt + 48 - v4_16.toInt).toNat < nn_16 → WP DD l G cy ad yX12_given cX12_given 6 (some .int) (d + 1) 16 [(4, vI v4_16), (3, vI v3_16), (2, vI z5_), (0, vR (12, 0, 0)), (1, vI v)] [] M_16 (fun r M' => InvD M' ∧ FR (S_c_X12_given) Mz M' ∧ (True) ∧ SP_X12_given v Mz r M') := by
    intro nn_16
    induction nn_16 with
    | zero => intro M_16 hI_16 hF_16 v4_16 v3_16 hv0_16 hv1_16 hv2_16 hv3_16 hv4_16 hL_16 hm_16; exact absurd hm_16 (Nat.not_lt_zero _)
    | succ nn_16 ih_16 =>
      intro M_16 hI_16 hF_16 v4_16 v3_16 hv0_16 hv1_16 hv2_16 hv3_16 hv4_16 hL_16 hm_16
      refine w_iload dX12_given_16 0 rfl ?_
      refine w_iload_n dX12_given_18 rfl 2 rfl ?_
      refine w_aload_n dX12_given_19 rfl 3 rfl ?_
      refine w_getR (c' := (50, 0, 0)) fl_RX12_9 rfl rfl ic_12 dX12_given_20 rfl ?_
      refine w_iload_n dX12_given_23 rfl 2 rfl ?_
      refine w_iconst (v := 1) dX12_given_24 (by decide) ?_
      refine w_isubB dX12_given_25 (rfl : z5_.toInt = z5_.toInt) li_1 (lf_c_X12_given_3 v z1_ z3_ z5_ hu h2_ h4_ h6_ ) (fun z8_ h9_ => ?_)
      refine w_iald rfl rfl ic_50 (rfl : z8_.toInt = z8_.toInt) (lf_c_X12_given_4 v z1_ z3_ z5_ z8_ hu h2_ h4_ h6_ h9_ ) dX12_given_26 (fun j12_ h13_ z10_ e11_ => ?_)
      have h14_ : 0 ≤ z10_.toInt ∧ z10_.toInt ≤ 48 := given_cnt hI_16.2.1.2 hu (lf_c_X12_given_5 v z1_ z3_ z5_ z8_ j12_ h2_ h4_ h6_ h9_ h13_ ) e11_
      refine w_iaddB dX12_given_27 (rfl : z5_.toInt = z5_.toInt) (rfl : z10_.toInt = z10_.toInt) (lf_c_X12_given_6 v z1_ z3_ z5_ z8_ j12_ z10_ hu h2_ h4_ h6_ h9_ h13_ h14_ ) (fun z15_ h16_ => ?_)
      refine w_icmp_ge (tgt := 198) dX12_given_28 (by decide) (rfl : v4_16.toInt = v4_16.toInt) (rfl : z15_.toInt = z15_.toInt) (fun h17_ => ?_) (fun h17_ => ?_)
      · refine w_aload_n dX12_given_198 rfl 3 rfl ?_
        refine w_getR (c' := (59, 0, 0)) fl_RX12_50 rfl rfl ic_12 dX12_given_199 rfl ?_
        refine w_iconst (v := 0) dX12_given_202 (by decide) ?_
        refine w_ialdL 0 rfl rfl ic_59 li_0 (by decide) dX12_given_203 (fun z18_ e19_ => ?_)
        exact w_iret rfl dX12_given_204 ⟨hI_16, hF_16, trivial, ⟨z1_, h2_, z3_, h4_, z5_, h6_, v4_16, hv0_16, hv1_16, v3_16, hv2_16, hv3_16, M_16, hv4_16, hL_16, hI_16, hF_16, z8_, h9_, j12_, h13_, z10_, e11_, h14_, z15_, h16_, h17_, z18_, e19_, rfl, rfl⟩⟩
      · refine w_aload_n dX12_given_31 rfl 3 rfl ?_
        refine w_getR (c' := (50, 0, 0)) fl_RX12_9 rfl rfl ic_12 dX12_given_32 rfl ?_
        refine w_iload dX12_given_35 0 rfl ?_
        refine w_iald rfl rfl ic_50 (rfl : v4_16.toInt = v4_16.toInt) (lf_c_X12_given_7 v z1_ z3_ z5_ v4_16 hu h2_ h4_ h6_ hv0_16 hv1_16 ) dX12_given_37 (fun j22_ h23_ z20_ e21_ => ?_)
        obtain ⟨h24_, h25_⟩ := given_case hI_16.2.1.2 hu (lf_c_X12_given_8 v z1_ z3_ z5_ h2_ h4_ h6_ ) (lf_c_X12_given_5 v z1_ z3_ z5_ z8_ j12_ h2_ h4_ h6_ h9_ h13_ ) e11_ (lf_c_X12_given_10 z5_ v4_16 hv0_16 ) (lf_c_X12_given_11 z5_ v4_16 z10_ z15_ h16_ h17_ ) (lf_c_X12_lays_6 v4_16 j22_ h23_ ) e21_ (lf_c_X12_given_13 v3_16 hv2_16 ) hv4_16
        rcases h25_ with ⟨h25_, h25_x, h26_⟩ | ⟨h25_, h26_⟩ | ⟨h25_, h26_⟩ | ⟨h25_, h26_⟩
        · refine w_istore (ls' := [(5, vI z20_), (4, vI v4_16), (3, vI v3_16), (2, vI z5_), (0, vR (12, 0, 0)), (1, vI v)]) dX12_given_38 (by decide) rfl ?_
          refine w_iload dX12_given_40 0 rfl ?_
          refine w_sipush (v := 2000) dX12_given_42 (by decide) ?_
          refine w_icmp_ge (tgt := 84) dX12_given_45 (by decide) (rfl : z20_.toInt = z20_.toInt) li_2000 (fun h9 => (lf_c_X12_given_14 z20_ h25_x h9 ).elim) (fun h27_ => ?_)
          refine w_aload_n dX12_given_48 rfl 4 rfl ?_
          refine w_getR (c' := (59, 0, 0)) fl_RX12_50 rfl rfl ic_12 dX12_given_49 rfl ?_
          refine w_iload_n dX12_given_52 rfl 2 rfl ?_
          refine w_iload dX12_given_53 0 rfl ?_
          refine w_sipush (v := 1000) dX12_given_55 (by decide) ?_
          refine w_icmp_ge (tgt := 66) dX12_given_58 (by decide) (rfl : z20_.toInt = z20_.toInt) li_1000 (fun h28_ => ?_) (fun h28_ => ?_)
          · refine w_aload_n dX12_given_66 rfl 4 rfl ?_
            refine w_getR (c' := (58, 0, 0)) fl_RX12_47 rfl rfl ic_12 dX12_given_67 rfl ?_
            refine w_iload dX12_given_70 0 rfl ?_
            refine w_sipush (v := 1000) dX12_given_72 (by decide) ?_
            refine w_isubB dX12_given_75 (rfl : z20_.toInt = z20_.toInt) li_1000 (lf_c_X12_given_15 z20_ h25_x h28_ ) (fun z29_ h30_ => ?_)
            refine w_iald rfl rfl ic_58 (rfl : z29_.toInt = z29_.toInt) (lf_c_X12_given_16 z20_ z29_ h25_x h28_ h30_ ) dX12_given_76 (fun j33_ h34_ z31_ e32_ => ?_)
            refine w_iast DD_nd rfl rfl ic_59 (rfl : v3_16.toInt = v3_16.toInt) (lf_c_X12_given_17 z5_ v4_16 v3_16 hv2_16 h24_ ) dX12_given_77 (fun j37_ h38_ M35_ hM36_ => ?_)
            have hI39_ := hI_16.put hM36_ ⟨trivial, Or.inr (by decide)⟩
            have hF40_ := hF_16.put hM36_ (Or.inl ⟨rfl, rfl⟩)
            have kf41_ : dpt (M35_.1 (50, 0, 0)) z5_.toInt.toNat (v4_16.toInt + 1 - z5_.toInt).toNat = some (v3_16.toInt + 1).toNat := by rw [(show M35_.1 (50, 0, 0) = M_16.1 (50, 0, 0) by rw [hM36_]; exact up_other _ _ (by simp))]; exact h26_
            refine w_iincB (j := 2) (f := fun z42_ => [(3, vI z42_), (5, vI z20_), (4, vI v4_16), (2, vI z5_), (0, vR (12, 0, 0)), (1, vI v)]) dX12_given_78 rfl (by decide) (fun _ => rfl) (rfl : v3_16.toInt = v3_16.toInt) li_1 (lf_c_X12_given_18 v3_16 hv2_16 hv3_16 ) (fun z42_ h43_ => ?_)
            refine w_goto (tgt := 192) dX12_given_81 (by decide) ?_
            refine w_iincB (j := 2) (f := fun z44_ => [(4, vI z44_), (3, vI z42_), (5, vI z20_), (2, vI z5_), (0, vR (12, 0, 0)), (1, vI v)]) dX12_given_192 rfl (by decide) (fun _ => rfl) (rfl : v4_16.toInt = v4_16.toInt) li_1 (lf_c_X12_given_19 v z1_ z3_ z5_ v4_16 v3_16 j22_ hu h2_ h4_ h6_ h23_ h24_ ) (fun z44_ h45_ => ?_)
            refine w_goto (tgt := 16) dX12_given_195 (by decide) ?_
            refine w_loc (ls' := [(4, vI z44_), (3, vI z42_), (2, vI z5_), (0, vR (12, 0, 0)), (1, vI v)]) [0, 1, 3, 4, 5] rfl ?_
            exact ih_16 M35_ hI39_ hF40_ z44_ z42_ (lf_c_X12_given_20 z5_ v4_16 z44_ hv0_16 h45_ ) (lf_c_X12_given_21 z5_ v4_16 v3_16 z44_ h24_ h45_ ) (lf_c_X5_takeFrom_3 v3_16 z42_ hv2_16 h43_ ) (lf_c_X12_given_23 z5_ v4_16 v3_16 z42_ h24_ h43_ ) (by rw [show z44_.toInt - z5_.toInt = v4_16.toInt + 1 - z5_.toInt from (lf_c_X12_given_24 z5_ v4_16 z44_ h45_ ), show z42_.toInt = v3_16.toInt + 1 from (lf_c_X12_given_25 v3_16 z42_ h43_ )]; exact kf41_) (RCH.tail hL_16 ⟨hv0_16, hv1_16, hv2_16, hv3_16, hv4_16, hI_16, hF_16, z8_, h9_, j12_, h13_, z10_, e11_, h14_, z15_, h16_, h17_, j22_, h23_, z20_, e21_, h24_, (Or.inl ⟨h25_, h25_x, h26_, h27_, (Or.inl ⟨h28_, z29_, h30_, j33_, h34_, z31_, e32_, j37_, h38_, M35_, hM36_, z42_, h43_, z44_, h45_, rfl, rfl, rfl⟩)⟩)⟩) (Nat.lt_of_lt_of_le (lf_c_X12_given_26 z5_ v4_16 v3_16 z44_ h24_ h45_ ) (Nat.le_of_lt_succ hm_16))
          · refine w_iload dX12_given_61 0 rfl ?_
            refine w_goto (tgt := 77) dX12_given_63 (by decide) ?_
            refine w_iast DD_nd rfl rfl ic_59 (rfl : v3_16.toInt = v3_16.toInt) (lf_c_X12_given_17 z5_ v4_16 v3_16 hv2_16 h24_ ) dX12_given_77 (fun j48_ h49_ M46_ hM47_ => ?_)
            have hI50_ := hI_16.put hM47_ ⟨trivial, Or.inr (by decide)⟩
            have hF51_ := hF_16.put hM47_ (Or.inl ⟨rfl, rfl⟩)
            have kf52_ : dpt (M46_.1 (50, 0, 0)) z5_.toInt.toNat (v4_16.toInt + 1 - z5_.toInt).toNat = some (v3_16.toInt + 1).toNat := by rw [(show M46_.1 (50, 0, 0) = M_16.1 (50, 0, 0) by rw [hM47_]; exact up_other _ _ (by simp))]; exact h26_
            refine w_iincB (j := 2) (f := fun z53_ => [(3, vI z53_), (5, vI z20_), (4, vI v4_16), (2, vI z5_), (0, vR (12, 0, 0)), (1, vI v)]) dX12_given_78 rfl (by decide) (fun _ => rfl) (rfl : v3_16.toInt = v3_16.toInt) li_1 (lf_c_X12_given_18 v3_16 hv2_16 hv3_16 ) (fun z53_ h54_ => ?_)
            refine w_goto (tgt := 192) dX12_given_81 (by decide) ?_
            refine w_iincB (j := 2) (f := fun z55_ => [(4, vI z55_), (3, vI z53_), (5, vI z20_), (2, vI z5_), (0, vR (12, 0, 0)), (1, vI v)]) dX12_given_192 rfl (by decide) (fun _ => rfl) (rfl : v4_16.toInt = v4_16.toInt) li_1 (lf_c_X12_given_19 v z1_ z3_ z5_ v4_16 v3_16 j22_ hu h2_ h4_ h6_ h23_ h24_ ) (fun z55_ h56_ => ?_)
            refine w_goto (tgt := 16) dX12_given_195 (by decide) ?_
            refine w_loc (ls' := [(4, vI z55_), (3, vI z53_), (2, vI z5_), (0, vR (12, 0, 0)), (1, vI v)]) [0, 1, 3, 4, 5] rfl ?_
            exact ih_16 M46_ hI50_ hF51_ z55_ z53_ (lf_c_X12_given_20 z5_ v4_16 z55_ hv0_16 h56_ ) (lf_c_X12_given_21 z5_ v4_16 v3_16 z55_ h24_ h56_ ) (lf_c_X5_takeFrom_3 v3_16 z53_ hv2_16 h54_ ) (lf_c_X12_given_23 z5_ v4_16 v3_16 z53_ h24_ h54_ ) (by rw [show z55_.toInt - z5_.toInt = v4_16.toInt + 1 - z5_.toInt from (lf_c_X12_given_24 z5_ v4_16 z55_ h56_ ), show z53_.toInt = v3_16.toInt + 1 from (lf_c_X12_given_25 v3_16 z53_ h54_ )]; exact kf52_) (RCH.tail hL_16 ⟨hv0_16, hv1_16, hv2_16, hv3_16, hv4_16, hI_16, hF_16, z8_, h9_, j12_, h13_, z10_, e11_, h14_, z15_, h16_, h17_, j22_, h23_, z20_, e21_, h24_, (Or.inl ⟨h25_, h25_x, h26_, h27_, (Or.inr ⟨h28_, j48_, h49_, M46_, hM47_, z53_, h54_, z55_, h56_, rfl, rfl, rfl⟩)⟩)⟩) (Nat.lt_of_lt_of_le (lf_c_X12_given_26 z5_ v4_16 v3_16 z55_ h24_ h56_ ) (Nat.le_of_lt_succ hm_16))
        · refine w_istore (ls' := [(5, vI z20_), (4, vI v4_16), (3, vI v3_16), (2, vI z5_), (0, vR (12, 0, 0)), (1, vI v)]) dX12_given_38 (by decide) rfl ?_
          refine w_iload dX12_given_40 0 rfl ?_
          refine w_sipush (v := 2000) dX12_given_42 (by decide) ?_
          refine w_icmp_ge (tgt := 84) dX12_given_45 (by decide) (rfl : z20_.toInt = z20_.toInt) li_2000 (fun h57_ => ?_) (fun h9 => (lf_c_X12_given_37 v3_16 z20_ h25_ h9 ).elim)
          refine w_iload dX12_given_84 0 rfl ?_
          refine w_sipush (v := 2008) dX12_given_86 (by decide) ?_
          refine w_icmp_ne (tgt := 112) dX12_given_89 (by decide) (rfl : z20_.toInt = z20_.toInt) li_2008 (fun h9 => (lf_c_X12_given_38 v3_16 z20_ h25_ h9 ).elim) (fun h58_ => ?_)
          refine w_aload_n dX12_given_92 rfl 4 rfl ?_
          refine w_getR (c' := (59, 0, 0)) fl_RX12_50 rfl rfl ic_12 dX12_given_93 rfl ?_
          refine w_iload_n dX12_given_96 rfl 2 rfl ?_
          refine w_iconst (v := 1) dX12_given_97 (by decide) ?_
          refine w_isubB dX12_given_98 (rfl : v3_16.toInt = v3_16.toInt) li_1 (lf_c_X12_given_39 v3_16 z20_ hv3_16 h25_ ) (fun z59_ h60_ => ?_)
          refine w_aload_n dX12_given_99 rfl 4 rfl ?_
          refine w_getR (c' := (59, 0, 0)) fl_RX12_50 rfl rfl ic_12 dX12_given_100 rfl ?_
          refine w_iload_n dX12_given_103 rfl 2 rfl ?_
          refine w_iconst (v := 1) dX12_given_104 (by decide) ?_
          refine w_isubB dX12_given_105 (rfl : v3_16.toInt = v3_16.toInt) li_1 (lf_c_X12_given_39 v3_16 z20_ hv3_16 h25_ ) (fun z61_ h62_ => ?_)
          refine w_iald rfl rfl ic_59 (rfl : z61_.toInt = z61_.toInt) (lf_c_X12_given_41 z5_ v4_16 v3_16 z20_ z61_ h24_ h25_ h62_ ) dX12_given_106 (fun j65_ h66_ z63_ e64_ => ?_)
          refine w_ineg dX12_given_107 (fun z67_ h68_ => ?_)
          refine w_iast DD_nd rfl rfl ic_59 (rfl : z59_.toInt = z59_.toInt) (lf_c_X12_given_41 z5_ v4_16 v3_16 z20_ z59_ h24_ h25_ h60_ ) dX12_given_108 (fun j71_ h72_ M69_ hM70_ => ?_)
          have hI73_ := hI_16.put hM70_ ⟨trivial, Or.inr (by decide)⟩
          have hF74_ := hF_16.put hM70_ (Or.inl ⟨rfl, rfl⟩)
          have kf75_ : dpt (M69_.1 (50, 0, 0)) z5_.toInt.toNat (v4_16.toInt + 1 - z5_.toInt).toNat = some (v3_16.toInt).toNat := by rw [(show M69_.1 (50, 0, 0) = M_16.1 (50, 0, 0) by rw [hM70_]; exact up_other _ _ (by simp))]; exact h26_
          refine w_goto (tgt := 192) dX12_given_109 (by decide) ?_
          refine w_iincB (j := 1) (f := fun z76_ => [(4, vI z76_), (5, vI z20_), (3, vI v3_16), (2, vI z5_), (0, vR (12, 0, 0)), (1, vI v)]) dX12_given_192 rfl (by decide) (fun _ => rfl) (rfl : v4_16.toInt = v4_16.toInt) li_1 (lf_c_X12_given_19 v z1_ z3_ z5_ v4_16 v3_16 j22_ hu h2_ h4_ h6_ h23_ h24_ ) (fun z76_ h77_ => ?_)
          refine w_goto (tgt := 16) dX12_given_195 (by decide) ?_
          refine w_loc (ls' := [(4, vI z76_), (3, vI v3_16), (2, vI z5_), (0, vR (12, 0, 0)), (1, vI v)]) [0, 2, 3, 4, 5] rfl ?_
          exact ih_16 M69_ hI73_ hF74_ z76_ v3_16 (lf_c_X12_given_44 z5_ v4_16 v3_16 z20_ z76_ h24_ h25_ h77_ ) (lf_c_X12_given_21 z5_ v4_16 v3_16 z76_ h24_ h77_ ) hv2_16 hv3_16 (by rw [show z76_.toInt - z5_.toInt = v4_16.toInt + 1 - z5_.toInt from (lf_c_X12_given_24 z5_ v4_16 z76_ h77_ ), show v3_16.toInt = v3_16.toInt from (lf_c_X12_finding_3 v3_16 )]; exact kf75_) (RCH.tail hL_16 ⟨hv0_16, hv1_16, hv2_16, hv3_16, hv4_16, hI_16, hF_16, z8_, h9_, j12_, h13_, z10_, e11_, h14_, z15_, h16_, h17_, j22_, h23_, z20_, e21_, h24_, (Or.inr (Or.inl ⟨h25_, h26_, h57_, h58_, z59_, h60_, z61_, h62_, j65_, h66_, z63_, e64_, z67_, h68_, j71_, h72_, M69_, hM70_, z76_, h77_, rfl, rfl, rfl⟩))⟩) (Nat.lt_of_lt_of_le (lf_c_X12_given_26 z5_ v4_16 v3_16 z76_ h24_ h77_ ) (Nat.le_of_lt_succ hm_16))
        · refine w_istore (ls' := [(5, vI z20_), (4, vI v4_16), (3, vI v3_16), (2, vI z5_), (0, vR (12, 0, 0)), (1, vI v)]) dX12_given_38 (by decide) rfl ?_
          refine w_iload dX12_given_40 0 rfl ?_
          refine w_sipush (v := 2000) dX12_given_42 (by decide) ?_
          refine w_icmp_ge (tgt := 84) dX12_given_45 (by decide) (rfl : z20_.toInt = z20_.toInt) li_2000 (fun h78_ => ?_) (fun h9 => (lf_c_X12_given_49 v3_16 z20_ h25_ h9 ).elim)
          refine w_iload dX12_given_84 0 rfl ?_
          refine w_sipush (v := 2008) dX12_given_86 (by decide) ?_
          refine w_icmp_ne (tgt := 112) dX12_given_89 (by decide) (rfl : z20_.toInt = z20_.toInt) li_2008 (fun h79_ => ?_) (fun h9 => (lf_c_X12_given_50 v3_16 z20_ h25_ h9 ).elim)
          refine w_iload dX12_given_112 0 rfl ?_
          refine w_sipush (v := 2009) dX12_given_114 (by decide) ?_
          refine w_icmp_ne (tgt := 162) dX12_given_117 (by decide) (rfl : z20_.toInt = z20_.toInt) li_2009 (fun h9 => (lf_c_X12_given_51 v3_16 z20_ h25_ h9 ).elim) (fun h80_ => ?_)
          refine w_iincB (j := 2) (f := fun z81_ => [(3, vI z81_), (5, vI z20_), (4, vI v4_16), (2, vI z5_), (0, vR (12, 0, 0)), (1, vI v)]) dX12_given_120 rfl (by decide) (fun _ => rfl) (rfl : v3_16.toInt = v3_16.toInt) li_m2 (lf_c_X12_given_52 v3_16 z20_ hv3_16 h25_ ) (fun z81_ h82_ => ?_)
          refine w_aload_n dX12_given_123 rfl 4 rfl ?_
          refine w_getR (c' := (59, 0, 0)) fl_RX12_50 rfl rfl ic_12 dX12_given_124 rfl ?_
          refine w_iload_n dX12_given_127 rfl 0 rfl ?_
          refine w_iconst (v := 1) dX12_given_128 (by decide) ?_
          refine w_isubB dX12_given_129 (rfl : z81_.toInt = z81_.toInt) li_1 (lf_c_X12_given_53 v3_16 z20_ z81_ hv3_16 h25_ h82_ ) (fun z83_ h84_ => ?_)
          refine w_aload_n dX12_given_130 rfl 4 rfl ?_
          refine w_getR (c' := (59, 0, 0)) fl_RX12_50 rfl rfl ic_12 dX12_given_131 rfl ?_
          refine w_iload_n dX12_given_134 rfl 0 rfl ?_
          refine w_iconst (v := 1) dX12_given_135 (by decide) ?_
          refine w_isubB dX12_given_136 (rfl : z81_.toInt = z81_.toInt) li_1 (lf_c_X12_given_53 v3_16 z20_ z81_ hv3_16 h25_ h82_ ) (fun z85_ h86_ => ?_)
          refine w_iald rfl rfl ic_59 (rfl : z85_.toInt = z85_.toInt) (lf_c_X12_given_55 z5_ v4_16 v3_16 z20_ z81_ z85_ h24_ h25_ h82_ h86_ ) dX12_given_137 (fun j89_ h90_ z87_ e88_ => ?_)
          refine w_if_eq (tgt := 150) dX12_given_138 (by decide) (rfl : z87_.toInt = z87_.toInt) (fun h91_ => ?_) (fun h91_ => ?_)
          · refine w_aload_n dX12_given_150 rfl 4 rfl ?_
            refine w_getR (c' := (59, 0, 0)) fl_RX12_50 rfl rfl ic_12 dX12_given_151 rfl ?_
            refine w_iload_n dX12_given_154 rfl 0 rfl ?_
            refine w_iconst (v := 1) dX12_given_155 (by decide) ?_
            refine w_iaddB dX12_given_156 (rfl : z81_.toInt = z81_.toInt) li_1 (lf_c_X12_given_56 v3_16 z20_ z81_ hv3_16 h25_ h82_ ) (fun z92_ h93_ => ?_)
            refine w_iald rfl rfl ic_59 (rfl : z92_.toInt = z92_.toInt) (lf_c_X12_given_57 z5_ v4_16 v3_16 z20_ z81_ z92_ h24_ h25_ h82_ h93_ ) dX12_given_157 (fun j96_ h97_ z94_ e95_ => ?_)
            refine w_iast DD_nd rfl rfl ic_59 (rfl : z83_.toInt = z83_.toInt) (lf_c_X12_given_55 z5_ v4_16 v3_16 z20_ z81_ z83_ h24_ h25_ h82_ h84_ ) dX12_given_158 (fun j100_ h101_ M98_ hM99_ => ?_)
            have hI102_ := hI_16.put hM99_ ⟨trivial, Or.inr (by decide)⟩
            have hF103_ := hF_16.put hM99_ (Or.inl ⟨rfl, rfl⟩)
            have kf104_ : dpt (M98_.1 (50, 0, 0)) z5_.toInt.toNat (v4_16.toInt + 1 - z5_.toInt).toNat = some (v3_16.toInt - 2).toNat := by rw [(show M98_.1 (50, 0, 0) = M_16.1 (50, 0, 0) by rw [hM99_]; exact up_other _ _ (by simp))]; exact h26_
            refine w_goto (tgt := 192) dX12_given_159 (by decide) ?_
            refine w_iincB (j := 2) (f := fun z105_ => [(4, vI z105_), (3, vI z81_), (5, vI z20_), (2, vI z5_), (0, vR (12, 0, 0)), (1, vI v)]) dX12_given_192 rfl (by decide) (fun _ => rfl) (rfl : v4_16.toInt = v4_16.toInt) li_1 (lf_c_X12_given_19 v z1_ z3_ z5_ v4_16 v3_16 j22_ hu h2_ h4_ h6_ h23_ h24_ ) (fun z105_ h106_ => ?_)
            refine w_goto (tgt := 16) dX12_given_195 (by decide) ?_
            refine w_loc (ls' := [(4, vI z105_), (3, vI z81_), (2, vI z5_), (0, vR (12, 0, 0)), (1, vI v)]) [0, 1, 3, 4, 5] rfl ?_
            exact ih_16 M98_ hI102_ hF103_ z105_ z81_ (lf_c_X12_given_60 z5_ v4_16 v3_16 z20_ z105_ h24_ h25_ h106_ ) (lf_c_X12_given_21 z5_ v4_16 v3_16 z105_ h24_ h106_ ) (lf_c_X12_given_62 v3_16 z20_ z81_ h25_ h82_ ) (lf_c_X12_given_63 z5_ v4_16 v3_16 z81_ h24_ h82_ ) (by rw [show z105_.toInt - z5_.toInt = v4_16.toInt + 1 - z5_.toInt from (lf_c_X12_given_24 z5_ v4_16 z105_ h106_ ), show z81_.toInt = v3_16.toInt - 2 from (lf_c_X12_given_65 v3_16 z81_ h82_ )]; exact kf104_) (RCH.tail hL_16 ⟨hv0_16, hv1_16, hv2_16, hv3_16, hv4_16, hI_16, hF_16, z8_, h9_, j12_, h13_, z10_, e11_, h14_, z15_, h16_, h17_, j22_, h23_, z20_, e21_, h24_, (Or.inr (Or.inr (Or.inl ⟨h25_, h26_, h78_, h79_, h80_, z81_, h82_, z83_, h84_, z85_, h86_, j89_, h90_, z87_, e88_, (Or.inl ⟨h91_, z92_, h93_, j96_, h97_, z94_, e95_, j100_, h101_, M98_, hM99_, z105_, h106_, rfl, rfl, rfl⟩)⟩)))⟩) (Nat.lt_of_lt_of_le (lf_c_X12_given_26 z5_ v4_16 v3_16 z105_ h24_ h106_ ) (Nat.le_of_lt_succ hm_16))
          · refine w_aload_n dX12_given_141 rfl 4 rfl ?_
            refine w_getR (c' := (59, 0, 0)) fl_RX12_50 rfl rfl ic_12 dX12_given_142 rfl ?_
            refine w_iload_n dX12_given_145 rfl 0 rfl ?_
            refine w_iald rfl rfl ic_59 (rfl : z81_.toInt = z81_.toInt) (lf_c_X12_given_67 z5_ v4_16 v3_16 z20_ z81_ h24_ h25_ h82_ ) dX12_given_146 (fun j109_ h110_ z107_ e108_ => ?_)
            refine w_goto (tgt := 158) dX12_given_147 (by decide) ?_
            refine w_iast DD_nd rfl rfl ic_59 (rfl : z83_.toInt = z83_.toInt) (lf_c_X12_given_55 z5_ v4_16 v3_16 z20_ z81_ z83_ h24_ h25_ h82_ h84_ ) dX12_given_158 (fun j113_ h114_ M111_ hM112_ => ?_)
            have hI115_ := hI_16.put hM112_ ⟨trivial, Or.inr (by decide)⟩
            have hF116_ := hF_16.put hM112_ (Or.inl ⟨rfl, rfl⟩)
            have kf117_ : dpt (M111_.1 (50, 0, 0)) z5_.toInt.toNat (v4_16.toInt + 1 - z5_.toInt).toNat = some (v3_16.toInt - 2).toNat := by rw [(show M111_.1 (50, 0, 0) = M_16.1 (50, 0, 0) by rw [hM112_]; exact up_other _ _ (by simp))]; exact h26_
            refine w_goto (tgt := 192) dX12_given_159 (by decide) ?_
            refine w_iincB (j := 2) (f := fun z118_ => [(4, vI z118_), (3, vI z81_), (5, vI z20_), (2, vI z5_), (0, vR (12, 0, 0)), (1, vI v)]) dX12_given_192 rfl (by decide) (fun _ => rfl) (rfl : v4_16.toInt = v4_16.toInt) li_1 (lf_c_X12_given_19 v z1_ z3_ z5_ v4_16 v3_16 j22_ hu h2_ h4_ h6_ h23_ h24_ ) (fun z118_ h119_ => ?_)
            refine w_goto (tgt := 16) dX12_given_195 (by decide) ?_
            refine w_loc (ls' := [(4, vI z118_), (3, vI z81_), (2, vI z5_), (0, vR (12, 0, 0)), (1, vI v)]) [0, 1, 3, 4, 5] rfl ?_
            exact ih_16 M111_ hI115_ hF116_ z118_ z81_ (lf_c_X12_given_60 z5_ v4_16 v3_16 z20_ z118_ h24_ h25_ h119_ ) (lf_c_X12_given_21 z5_ v4_16 v3_16 z118_ h24_ h119_ ) (lf_c_X12_given_62 v3_16 z20_ z81_ h25_ h82_ ) (lf_c_X12_given_63 z5_ v4_16 v3_16 z81_ h24_ h82_ ) (by rw [show z118_.toInt - z5_.toInt = v4_16.toInt + 1 - z5_.toInt from (lf_c_X12_given_24 z5_ v4_16 z118_ h119_ ), show z81_.toInt = v3_16.toInt - 2 from (lf_c_X12_given_65 v3_16 z81_ h82_ )]; exact kf117_) (RCH.tail hL_16 ⟨hv0_16, hv1_16, hv2_16, hv3_16, hv4_16, hI_16, hF_16, z8_, h9_, j12_, h13_, z10_, e11_, h14_, z15_, h16_, h17_, j22_, h23_, z20_, e21_, h24_, (Or.inr (Or.inr (Or.inl ⟨h25_, h26_, h78_, h79_, h80_, z81_, h82_, z83_, h84_, z85_, h86_, j89_, h90_, z87_, e88_, (Or.inr ⟨h91_, j109_, h110_, z107_, e108_, j113_, h114_, M111_, hM112_, z118_, h119_, rfl, rfl, rfl⟩)⟩)))⟩) (Nat.lt_of_lt_of_le (lf_c_X12_given_26 z5_ v4_16 v3_16 z118_ h24_ h119_ ) (Nat.le_of_lt_succ hm_16))
        · refine w_istore (ls' := [(5, vI z20_), (4, vI v4_16), (3, vI v3_16), (2, vI z5_), (0, vR (12, 0, 0)), (1, vI v)]) dX12_given_38 (by decide) rfl ?_
          refine w_iload dX12_given_40 0 rfl ?_
          refine w_sipush (v := 2000) dX12_given_42 (by decide) ?_
          refine w_icmp_ge (tgt := 84) dX12_given_45 (by decide) (rfl : z20_.toInt = z20_.toInt) li_2000 (fun h120_ => ?_) (fun h9 => (lf_c_X12_given_77 v3_16 z20_ h25_ h9 ).elim)
          refine w_iload dX12_given_84 0 rfl ?_
          refine w_sipush (v := 2008) dX12_given_86 (by decide) ?_
          refine w_icmp_ne (tgt := 112) dX12_given_89 (by decide) (rfl : z20_.toInt = z20_.toInt) li_2008 (fun h121_ => ?_) (fun h9 => (lf_c_X12_given_78 v3_16 z20_ h25_ h9 ).elim)
          refine w_iload dX12_given_112 0 rfl ?_
          refine w_sipush (v := 2009) dX12_given_114 (by decide) ?_
          refine w_icmp_ne (tgt := 162) dX12_given_117 (by decide) (rfl : z20_.toInt = z20_.toInt) li_2009 (fun h122_ => ?_) (fun h9 => (lf_c_X12_given_79 v3_16 z20_ h25_ h9 ).elim)
          refine w_iincB (j := 2) (f := fun z123_ => [(3, vI z123_), (5, vI z20_), (4, vI v4_16), (2, vI z5_), (0, vR (12, 0, 0)), (1, vI v)]) dX12_given_162 rfl (by decide) (fun _ => rfl) (rfl : v3_16.toInt = v3_16.toInt) li_m1 (lf_c_X12_given_80 v3_16 z20_ hv3_16 h25_ ) (fun z123_ h124_ => ?_)
          refine w_aload_n dX12_given_165 rfl 4 rfl ?_
          refine w_getR (c' := (59, 0, 0)) fl_RX12_50 rfl rfl ic_12 dX12_given_166 rfl ?_
          refine w_iload_n dX12_given_169 rfl 0 rfl ?_
          refine w_iconst (v := 1) dX12_given_170 (by decide) ?_
          refine w_isubB dX12_given_171 (rfl : z123_.toInt = z123_.toInt) li_1 (lf_c_X12_given_81 v3_16 z20_ z123_ hv3_16 h25_ h124_ ) (fun z125_ h126_ => ?_)
          refine w_iload dX12_given_172 1 rfl ?_
          refine w_aload_n dX12_given_174 rfl 4 rfl ?_
          refine w_getR (c' := (59, 0, 0)) fl_RX12_50 rfl rfl ic_12 dX12_given_175 rfl ?_
          refine w_iload_n dX12_given_178 rfl 0 rfl ?_
          refine w_iconst (v := 1) dX12_given_179 (by decide) ?_
          refine w_isubB dX12_given_180 (rfl : z123_.toInt = z123_.toInt) li_1 (lf_c_X12_given_81 v3_16 z20_ z123_ hv3_16 h25_ h124_ ) (fun z127_ h128_ => ?_)
          refine w_iald rfl rfl ic_59 (rfl : z127_.toInt = z127_.toInt) (lf_c_X12_given_83 z5_ v4_16 v3_16 z20_ z123_ z127_ h24_ h25_ h124_ h128_ ) dX12_given_181 (fun j131_ h132_ z129_ e130_ => ?_)
          refine w_aload_n dX12_given_182 rfl 4 rfl ?_
          refine w_getR (c' := (59, 0, 0)) fl_RX12_50 rfl rfl ic_12 dX12_given_183 rfl ?_
          refine w_iload_n dX12_given_186 rfl 0 rfl ?_
          refine w_iald rfl rfl ic_59 (rfl : z123_.toInt = z123_.toInt) (lf_c_X12_given_84 z5_ v4_16 v3_16 z20_ z123_ h24_ h25_ h124_ ) dX12_given_187 (fun j135_ h136_ z133_ e134_ => ?_)
          refine w_callS (as := [vI z20_, vI z129_, vI z133_]) (rest := [vI z125_, vR (59, 0, 0)]) (c_X12_done l G cy ad d z20_ z129_ z133_ M_16 hI_16) kS_X12_done pnn_17 (Nat.le_of_ble_eq_true rfl) m_1652 rfl rfl (by decide) (Nat.le_of_ble_eq_true rfl) dX12_given_188 (fun r137_ M138_ q139_ => ?_)
          obtain ⟨rfl, h140_, hs141_⟩ := q139_
          refine w_iast DD_nd rfl rfl ic_59 (rfl : z125_.toInt = z125_.toInt) (lf_c_X12_given_83 z5_ v4_16 v3_16 z20_ z123_ z125_ h24_ h25_ h124_ h126_ ) dX12_given_191 (fun j144_ h145_ M142_ hM143_ => ?_)
          have hI146_ := hI_16.put hM143_ ⟨trivial, Or.inr (by decide)⟩
          have hF147_ := hF_16.put hM143_ (Or.inl ⟨rfl, rfl⟩)
          have kf148_ : dpt (M142_.1 (50, 0, 0)) z5_.toInt.toNat (v4_16.toInt + 1 - z5_.toInt).toNat = some (v3_16.toInt - 1).toNat := by rw [(show M142_.1 (50, 0, 0) = M_16.1 (50, 0, 0) by rw [hM143_]; exact up_other _ _ (by simp))]; exact h26_
          refine w_iincB (j := 2) (f := fun z149_ => [(4, vI z149_), (3, vI z123_), (5, vI z20_), (2, vI z5_), (0, vR (12, 0, 0)), (1, vI v)]) dX12_given_192 rfl (by decide) (fun _ => rfl) (rfl : v4_16.toInt = v4_16.toInt) li_1 (lf_c_X12_given_19 v z1_ z3_ z5_ v4_16 v3_16 j22_ hu h2_ h4_ h6_ h23_ h24_ ) (fun z149_ h150_ => ?_)
          refine w_goto (tgt := 16) dX12_given_195 (by decide) ?_
          refine w_loc (ls' := [(4, vI z149_), (3, vI z123_), (2, vI z5_), (0, vR (12, 0, 0)), (1, vI v)]) [0, 1, 3, 4, 5] rfl ?_
          exact ih_16 M142_ hI146_ hF147_ z149_ z123_ (lf_c_X12_given_87 z5_ v4_16 v3_16 z20_ z149_ h24_ h25_ h150_ ) (lf_c_X12_given_21 z5_ v4_16 v3_16 z149_ h24_ h150_ ) (lf_c_X12_given_89 v3_16 z20_ z123_ h25_ h124_ ) (lf_c_X12_given_90 z5_ v4_16 v3_16 z123_ h24_ h124_ ) (by rw [show z149_.toInt - z5_.toInt = v4_16.toInt + 1 - z5_.toInt from (lf_c_X12_given_24 z5_ v4_16 z149_ h150_ ), show z123_.toInt = v3_16.toInt - 1 from (lf_c_X12_given_92 v3_16 z123_ h124_ )]; exact kf148_) (RCH.tail hL_16 ⟨hv0_16, hv1_16, hv2_16, hv3_16, hv4_16, hI_16, hF_16, z8_, h9_, j12_, h13_, z10_, e11_, h14_, z15_, h16_, h17_, j22_, h23_, z20_, e21_, h24_, (Or.inr (Or.inr (Or.inr ⟨h25_, h26_, h120_, h121_, h122_, z123_, h124_, z125_, h126_, z127_, h128_, j131_, h132_, z129_, e130_, j135_, h136_, z133_, e134_, r137_, hs141_, j144_, h145_, M142_, hM143_, z149_, h150_, rfl, rfl, rfl⟩)))⟩) (Nat.lt_of_lt_of_le (lf_c_X12_given_26 z5_ v4_16 v3_16 z149_ h24_ h150_ ) (Nat.le_of_lt_succ hm_16))
  exact lp7_ _ Mz hIz hFz z5_ 0 (lf_c_X12_given_94 z5_ ) (lf_c_X12_given_95 z5_ ) (lf_c_X5_takeFrom_5 ) (lf_c_X1_work_705 ) (by rw [show z5_.toInt - z5_.toInt = 0 from Int.sub_self _]; rfl) RCH.refl (Nat.lt_succ_self _)
def S_c_X12_strength : rf → Nat → Prop := fun c k => (c.1 = 58 ∧ c.2.1 = 0 ∧ k = 0) ∨ (c.1 = 58 ∧ c.2.1 = 0 ∧ k = 1) ∨ (c.1 = 58 ∧ c.2.1 = 0 ∧ k = 2) ∨ (c.1 = 58 ∧ c.2.1 = 0 ∧ k = 3) ∨ (c.1 = 59 ∧ c.2.1 = 0) ∨ False
def SP_X12_strength (v : Int32) (u : Int32) (t : Int32) (s : Int32) (Mz : mM) (r_ : Int32) (M_ : mM) : Prop := ∃ z1_ : Int32, (z1_.toInt = 9 + v.toInt) ∧ ∃ j5_ : Nat, ((j5_ : Int) = z1_.toInt) ∧ ∃ z3_ : Int32, (z3_ = Mz.1 (50, 0, 0) j5_) ∧ ∃ M7_ : mM, (M7_ = up Mz (58, 0, 0) 0 t) ∧ ∃ M11_ : mM, (M11_ = up M7_ (58, 0, 0) 1 z3_) ∧ ∃ M15_ : mM, (M15_ = up M11_ (58, 0, 0) 2 s) ∧ ∃ M19_ : mM, (M19_ = up M15_ (58, 0, 0) 3 u) ∧ (InvD M19_) ∧ ∃ r23_ : Int32, (SP_X12_hasText 0 M19_ r23_) ∧ ((0 ≤ r23_.toInt ∧ r23_.toInt ≤ 1)) ∧ (((r23_.toInt = 0) ∧ ∃ z29_ : Int32, (z29_ = t * z3_) ∧ ∃ z31_ : Int32, (z31_ = z29_ / (50 : Int32)) ∧ ∃ z33_ : Int32, (z33_ = (2 : Int32) * s) ∧ ∃ z35_ : Int32, (z35_ = z31_ - z33_) ∧ ∃ z37_ : Int32, ((z37_.toInt = 999 ∧ 999 ≤ z35_.toInt) ∨ (z37_.toInt = z35_.toInt ∧ z35_.toInt ≤ 999)) ∧ ∃ z39_ : Int32, ((z39_.toInt = 0 ∧ z37_.toInt ≤ 0) ∨ (z39_.toInt = z37_.toInt ∧ 0 ≤ z37_.toInt)) ∧ ∃ z41_ : Int32, (z41_ = M19_.1 (50, 0, 0) 8) ∧ (((¬ z41_.toInt = 1) ∧ ∃ z44_ : Int32, (z44_.toInt = 14 + v.toInt) ∧ ∃ j48_ : Nat, ((j48_ : Int) = z44_.toInt) ∧ ∃ z46_ : Int32, (z46_ = M19_.1 (50, 0, 0) j48_) ∧ (((z46_.toInt ≤ u.toInt) ∧ r_ = z39_ ∧ M_ = M19_) ∨ ((u.toInt < z46_.toInt) ∧ r_ = 0 ∧ M_ = M19_))) ∨ ((z41_.toInt = 1) ∧ ∃ z51_ : Int32, (z51_.toInt = z39_.toInt / 2) ∧ ∃ z53_ : Int32, (z53_.toInt = 14 + v.toInt) ∧ ∃ j57_ : Nat, ((j57_ : Int) = z53_.toInt) ∧ ∃ z55_ : Int32, (z55_ = M19_.1 (50, 0, 0) j57_) ∧ (((z55_.toInt ≤ u.toInt) ∧ r_ = z51_ ∧ M_ = M19_) ∨ ((u.toInt < z55_.toInt) ∧ r_ = 0 ∧ M_ = M19_))))) ∨ ((¬ r23_.toInt = 0) ∧ ∃ M61_ : mM, (InvD M61_) ∧ (FR (S_c_X12_given) M19_ M61_) ∧ ∃ r60_ : Int32, (SP_X12_given 0 M19_ r60_ M61_) ∧ ∃ z68_ : Int32, ((z68_.toInt = 999 ∧ 999 ≤ r60_.toInt) ∨ (z68_.toInt = r60_.toInt ∧ r60_.toInt ≤ 999)) ∧ ∃ z70_ : Int32, ((z70_.toInt = 0 ∧ z68_.toInt ≤ 0) ∨ (z70_.toInt = z68_.toInt ∧ 0 ≤ z68_.toInt)) ∧ ∃ z72_ : Int32, (z72_ = M61_.1 (50, 0, 0) 8) ∧ (((¬ z72_.toInt = 1) ∧ ∃ z75_ : Int32, (z75_.toInt = 14 + v.toInt) ∧ ∃ j79_ : Nat, ((j79_ : Int) = z75_.toInt) ∧ ∃ z77_ : Int32, (z77_ = M61_.1 (50, 0, 0) j79_) ∧ (((z77_.toInt ≤ u.toInt) ∧ r_ = z70_ ∧ M_ = M61_) ∨ ((u.toInt < z77_.toInt) ∧ r_ = 0 ∧ M_ = M61_))) ∨ ((z72_.toInt = 1) ∧ ∃ z82_ : Int32, (z82_.toInt = z70_.toInt / 2) ∧ ∃ z84_ : Int32, (z84_.toInt = 14 + v.toInt) ∧ ∃ j88_ : Nat, ((j88_ : Int) = z84_.toInt) ∧ ∃ z86_ : Int32, (z86_ = M61_.1 (50, 0, 0) j88_) ∧ (((z86_.toInt ≤ u.toInt) ∧ r_ = z82_ ∧ M_ = M61_) ∨ ((u.toInt < z86_.toInt) ∧ r_ = 0 ∧ M_ = M61_))))))
theorem lf_c_X12_strength_0 (v : Int32) (hk : 0 ≤ v.toInt ∧ v.toInt ≤ 99) : -2147483648 ≤ 9 + v.toInt ∧ 9 + v.toInt < 2147483648 := by omega
theorem lf_c_X12_strength_1 (v : Int32) (z1_ : Int32) (hk : 0 ≤ v.toInt ∧ v.toInt ≤ 99) (h2_ : z1_.toInt = 9 + v.toInt) : 0 ≤ z1_.toInt ∧ z1_.toInt < ((3567 : Nat) : Int) := by omega
theorem lf_c_X12_strength_2 (v : Int32) (hk : 0 ≤ v.toInt ∧ v.toInt ≤ 99) : -2147483648 ≤ 14 + v.toInt ∧ 14 + v.toInt < 2147483648 := by omega
theorem lf_c_X12_strength_3 (v : Int32) (z44_ : Int32) (hk : 0 ≤ v.toInt ∧ v.toInt ≤ 99) (h45_ : z44_.toInt = 14 + v.toInt) : 0 ≤ z44_.toInt ∧ z44_.toInt < ((3567 : Nat) : Int) := by omega
set_option maxHeartbeats 4000000 in
set_option maxRecDepth 100000 in
theorem c_X12_strength (l : Launch) (G : va_G) (cy : Nat → ClassId) (ad : rf → Nat) (d : Nat) (v : Int32) (u : Int32) (t : Int32) (s : Int32) (Mz : mM) (hIz : InvD Mz) (hk : 0 ≤ v.toInt ∧ v.toInt ≤ 99) : WP DD l G cy ad yX12_strength cX12_strength 7 (some .int) (d + 2) 0 [(0, vR (12, 0, 0)), (1, vI v), (2, vI u), (3, vI t), (4, vI s)] [] Mz (fun r M' => InvD M' ∧ FR (S_c_X12_strength) Mz M' ∧ (True) ∧ SP_X12_strength v u t s Mz r M') := by
  have hFz : FR (S_c_X12_strength) Mz Mz := FR.self
  refine w_aload_n dX12_strength_0 rfl 0 rfl ?_
  refine w_getR (c' := (50, 0, 0)) fl_RX12_9 rfl rfl ic_12 dX12_strength_1 rfl ?_
  refine w_bipush (v := 9) dX12_strength_4 (by decide) ?_
  refine w_iload_n dX12_strength_6 rfl 1 rfl ?_
  refine w_iaddB dX12_strength_7 li_9 (rfl : v.toInt = v.toInt) (lf_c_X12_strength_0 v hk ) (fun z1_ h2_ => ?_)
  refine w_iald rfl rfl ic_50 (rfl : z1_.toInt = z1_.toInt) (lf_c_X12_strength_1 v z1_ hk h2_ ) dX12_strength_8 (fun j5_ h6_ z3_ e4_ => ?_)
  refine w_istore (ls' := [(5, vI z3_), (0, vR (12, 0, 0)), (1, vI v), (2, vI u), (3, vI t), (4, vI s)]) dX12_strength_9 (by decide) rfl ?_
  refine w_aload_n dX12_strength_11 rfl 1 rfl ?_
  refine w_getR (c' := (58, 0, 0)) fl_RX12_47 rfl rfl ic_12 dX12_strength_12 rfl ?_
  refine w_iconst (v := 0) dX12_strength_15 (by decide) ?_
  refine w_iload_n dX12_strength_16 rfl 4 rfl ?_
  refine w_iastL 0 DD_nd rfl rfl ic_58 li_0 (by decide) dX12_strength_17 (fun M7_ hM8_ => ?_)
  have hI9_ := hIz.put hM8_ ⟨trivial, Or.inr (by decide)⟩
  have hF10_ := hFz.put hM8_ (Or.inl ⟨rfl, rfl, rfl⟩)
  refine w_aload_n dX12_strength_18 rfl 1 rfl ?_
  refine w_getR (c' := (58, 0, 0)) fl_RX12_47 rfl rfl ic_12 dX12_strength_19 rfl ?_
  refine w_iconst (v := 1) dX12_strength_22 (by decide) ?_
  refine w_iload dX12_strength_23 0 rfl ?_
  refine w_iastL 1 DD_nd rfl rfl ic_58 li_1 (by decide) dX12_strength_25 (fun M11_ hM12_ => ?_)
  have hI13_ := hI9_.put hM12_ ⟨trivial, Or.inr (by decide)⟩
  have hF14_ := hF10_.put hM12_ (Or.inr (Or.inl ⟨rfl, rfl, rfl⟩))
  refine w_aload_n dX12_strength_26 rfl 1 rfl ?_
  refine w_getR (c' := (58, 0, 0)) fl_RX12_47 rfl rfl ic_12 dX12_strength_27 rfl ?_
  refine w_iconst (v := 2) dX12_strength_30 (by decide) ?_
  refine w_iload dX12_strength_31 5 rfl ?_
  refine w_iastL 2 DD_nd rfl rfl ic_58 li_2 (by decide) dX12_strength_33 (fun M15_ hM16_ => ?_)
  have hI17_ := hI13_.put hM16_ ⟨trivial, Or.inr (by decide)⟩
  have hF18_ := hF14_.put hM16_ (Or.inr (Or.inr (Or.inl ⟨rfl, rfl, rfl⟩)))
  refine w_aload_n dX12_strength_34 rfl 1 rfl ?_
  refine w_getR (c' := (58, 0, 0)) fl_RX12_47 rfl rfl ic_12 dX12_strength_35 rfl ?_
  refine w_iconst (v := 3) dX12_strength_38 (by decide) ?_
  refine w_iload_n dX12_strength_39 rfl 3 rfl ?_
  refine w_iastL 3 DD_nd rfl rfl ic_58 li_3 (by decide) dX12_strength_40 (fun M19_ hM20_ => ?_)
  have hI21_ := hI17_.put hM20_ ⟨trivial, Or.inr (by decide)⟩
  have hF22_ := hF18_.put hM20_ (Or.inr (Or.inr (Or.inr (Or.inl ⟨rfl, rfl, rfl⟩))))
  refine w_aload_n dX12_strength_41 rfl 1 rfl ?_
  refine w_iconst (v := 0) dX12_strength_42 (by decide) ?_
  refine w_callV (as := [vI 0]) (rest := []) (c_X12_hasText l G cy ad (d + 1) 0 M19_ hI21_ (by first | decide | (unfold vF; omega) | (unfold vRw; omega))) kV_X12_hasText pnn_17 (Nat.le_of_ble_eq_true rfl) m_1644 rfl rfl rfl ic_12 rfl rfl (by decide) (Nat.le_of_ble_eq_true rfl) dX12_strength_43 (fun r23_ M24_ q25_ => ?_)
  obtain ⟨rfl, h26_, hs27_⟩ := q25_
  refine w_if_eq (tgt := 57) dX12_strength_46 (by decide) (rfl : r23_.toInt = r23_.toInt) (fun h28_ => ?_) (fun h28_ => ?_)
  · refine w_iload_n dX12_strength_57 rfl 4 rfl ?_
    refine w_iload dX12_strength_58 0 rfl ?_
    refine w_imul dX12_strength_60 (fun z29_ h30_ => ?_)
    refine w_bipush (v := 50) dX12_strength_61 (by decide) ?_
    refine w_idiv dX12_strength_63 (by decide) (fun z31_ h32_ => ?_)
    refine w_iconst (v := 2) dX12_strength_64 (by decide) ?_
    refine w_iload dX12_strength_65 5 rfl ?_
    refine w_imul dX12_strength_67 (fun z33_ h34_ => ?_)
    refine w_isub dX12_strength_68 (fun z35_ h36_ => ?_)
    refine w_istore (ls' := [(6, vI z35_), (5, vI z3_), (0, vR (12, 0, 0)), (1, vI v), (2, vI u), (3, vI t), (4, vI s)]) dX12_strength_69 (by decide) rfl ?_
    refine w_iconst (v := 0) dX12_strength_71 (by decide) ?_
    refine w_sipush (v := 999) dX12_strength_72 (by decide) ?_
    refine w_iload dX12_strength_75 0 rfl ?_
    refine w_min m_1655 m_770 m_86 m_771 li_999 (rfl : z35_.toInt = z35_.toInt) (Nat.le_of_ble_eq_true rfl) (by omega) dX12_strength_77 (fun z37_ h38_ => ?_)
    refine w_max m_1656 m_206 m_86 m_207 li_0 (rfl : z37_.toInt = z37_.toInt) (Nat.le_of_ble_eq_true rfl) (by omega) dX12_strength_80 (fun z39_ h40_ => ?_)
    refine w_istore (ls' := [(6, vI z39_), (5, vI z3_), (0, vR (12, 0, 0)), (1, vI v), (2, vI u), (3, vI t), (4, vI s)]) dX12_strength_83 (by decide) rfl ?_
    refine w_aload_n dX12_strength_85 rfl 2 rfl ?_
    refine w_getR (c' := (50, 0, 0)) fl_RX12_9 rfl rfl ic_12 dX12_strength_86 rfl ?_
    refine w_bipush (v := 8) dX12_strength_89 (by decide) ?_
    refine w_ialdL 8 rfl rfl ic_50 li_8 (by decide) dX12_strength_91 (fun z41_ e42_ => ?_)
    refine w_iconst (v := 1) dX12_strength_92 (by decide) ?_
    refine w_icmp_ne (tgt := 103) dX12_strength_93 (by decide) (rfl : z41_.toInt = z41_.toInt) li_1 (fun h43_ => ?_) (fun h43_ => ?_)
    · refine w_iload dX12_strength_103 0 rfl ?_
      refine w_istore (ls' := [(6, vI z39_), (5, vI z3_), (0, vR (12, 0, 0)), (1, vI v), (2, vI u), (3, vI t), (4, vI s)]) dX12_strength_105 (by decide) rfl ?_
      refine w_aload_n dX12_strength_107 rfl 2 rfl ?_
      refine w_getR (c' := (50, 0, 0)) fl_RX12_9 rfl rfl ic_12 dX12_strength_108 rfl ?_
      refine w_bipush (v := 14) dX12_strength_111 (by decide) ?_
      refine w_iload_n dX12_strength_113 rfl 3 rfl ?_
      refine w_iaddB dX12_strength_114 li_14 (rfl : v.toInt = v.toInt) (lf_c_X12_strength_2 v hk ) (fun z44_ h45_ => ?_)
      refine w_iald rfl rfl ic_50 (rfl : z44_.toInt = z44_.toInt) (lf_c_X12_strength_3 v z44_ hk h45_ ) dX12_strength_115 (fun j48_ h49_ z46_ e47_ => ?_)
      refine w_iload_n dX12_strength_116 rfl 4 rfl ?_
      refine w_icmp_le (tgt := 124) dX12_strength_117 (by decide) (rfl : z46_.toInt = z46_.toInt) (rfl : u.toInt = u.toInt) (fun h50_ => ?_) (fun h50_ => ?_)
      · refine w_iload dX12_strength_124 0 rfl ?_
        exact w_iret rfl dX12_strength_126 ⟨hI21_, hF22_, trivial, ⟨z1_, h2_, j5_, h6_, z3_, e4_, M7_, hM8_, M11_, hM12_, M15_, hM16_, M19_, hM20_, hI21_, r23_, hs27_, h26_, (Or.inl ⟨h28_, z29_, h30_, z31_, h32_, z33_, h34_, z35_, h36_, z37_, h38_, z39_, h40_, z41_, e42_, (Or.inl ⟨h43_, z44_, h45_, j48_, h49_, z46_, e47_, (Or.inl ⟨h50_, rfl, rfl⟩)⟩)⟩)⟩⟩
      · refine w_iconst (v := 0) dX12_strength_120 (by decide) ?_
        refine w_goto (tgt := 126) dX12_strength_121 (by decide) ?_
        exact w_iret rfl dX12_strength_126 ⟨hI21_, hF22_, trivial, ⟨z1_, h2_, j5_, h6_, z3_, e4_, M7_, hM8_, M11_, hM12_, M15_, hM16_, M19_, hM20_, hI21_, r23_, hs27_, h26_, (Or.inl ⟨h28_, z29_, h30_, z31_, h32_, z33_, h34_, z35_, h36_, z37_, h38_, z39_, h40_, z41_, e42_, (Or.inl ⟨h43_, z44_, h45_, j48_, h49_, z46_, e47_, (Or.inr ⟨h50_, rfl, rfl⟩)⟩)⟩)⟩⟩
    · refine w_iload dX12_strength_96 0 rfl ?_
      refine w_iconst (v := 2) dX12_strength_98 (by decide) ?_
      refine w_idivB dX12_strength_99 (by decide) (rfl : z39_.toInt = z39_.toInt) li_2 (lf_c_X2_strength_4 z37_ z39_ h40_ ) (by decide) (fun z51_ h52_ => ?_)
      refine w_goto (tgt := 105) dX12_strength_100 (by decide) ?_
      refine w_istore (ls' := [(6, vI z51_), (5, vI z3_), (0, vR (12, 0, 0)), (1, vI v), (2, vI u), (3, vI t), (4, vI s)]) dX12_strength_105 (by decide) rfl ?_
      refine w_aload_n dX12_strength_107 rfl 2 rfl ?_
      refine w_getR (c' := (50, 0, 0)) fl_RX12_9 rfl rfl ic_12 dX12_strength_108 rfl ?_
      refine w_bipush (v := 14) dX12_strength_111 (by decide) ?_
      refine w_iload_n dX12_strength_113 rfl 3 rfl ?_
      refine w_iaddB dX12_strength_114 li_14 (rfl : v.toInt = v.toInt) (lf_c_X12_strength_2 v hk ) (fun z53_ h54_ => ?_)
      refine w_iald rfl rfl ic_50 (rfl : z53_.toInt = z53_.toInt) (lf_c_X12_strength_3 v z53_ hk h54_ ) dX12_strength_115 (fun j57_ h58_ z55_ e56_ => ?_)
      refine w_iload_n dX12_strength_116 rfl 4 rfl ?_
      refine w_icmp_le (tgt := 124) dX12_strength_117 (by decide) (rfl : z55_.toInt = z55_.toInt) (rfl : u.toInt = u.toInt) (fun h59_ => ?_) (fun h59_ => ?_)
      · refine w_iload dX12_strength_124 0 rfl ?_
        exact w_iret rfl dX12_strength_126 ⟨hI21_, hF22_, trivial, ⟨z1_, h2_, j5_, h6_, z3_, e4_, M7_, hM8_, M11_, hM12_, M15_, hM16_, M19_, hM20_, hI21_, r23_, hs27_, h26_, (Or.inl ⟨h28_, z29_, h30_, z31_, h32_, z33_, h34_, z35_, h36_, z37_, h38_, z39_, h40_, z41_, e42_, (Or.inr ⟨h43_, z51_, h52_, z53_, h54_, j57_, h58_, z55_, e56_, (Or.inl ⟨h59_, rfl, rfl⟩)⟩)⟩)⟩⟩
      · refine w_iconst (v := 0) dX12_strength_120 (by decide) ?_
        refine w_goto (tgt := 126) dX12_strength_121 (by decide) ?_
        exact w_iret rfl dX12_strength_126 ⟨hI21_, hF22_, trivial, ⟨z1_, h2_, j5_, h6_, z3_, e4_, M7_, hM8_, M11_, hM12_, M15_, hM16_, M19_, hM20_, hI21_, r23_, hs27_, h26_, (Or.inl ⟨h28_, z29_, h30_, z31_, h32_, z33_, h34_, z35_, h36_, z37_, h38_, z39_, h40_, z41_, e42_, (Or.inr ⟨h43_, z51_, h52_, z53_, h54_, j57_, h58_, z55_, e56_, (Or.inr ⟨h59_, rfl, rfl⟩)⟩)⟩)⟩⟩
  · refine w_aload_n dX12_strength_49 rfl 1 rfl ?_
    refine w_iconst (v := 0) dX12_strength_50 (by decide) ?_
    refine w_callV (as := [vI 0]) (rest := []) (c_X12_given l G cy ad d 0 M19_ hI21_ (by first | decide | (unfold vF; omega) | (unfold vRw; omega))) kV_X12_given pnn_17 (Nat.le_of_ble_eq_true rfl) m_1648 rfl rfl rfl ic_12 rfl rfl (by decide) (Nat.le_of_ble_eq_true rfl) dX12_strength_51 (fun r60_ M61_ q62_ => ?_)
    obtain ⟨hI64_, hF65_, h63_, hs67_⟩ := q62_
    have hF66_ := hF22_.tr hF65_ (fun c k => (fun h => h.elim (fun h => (Or.inr (Or.inr (Or.inr (Or.inr (Or.inl ⟨h.1, h.2⟩)))))) (fun h => h.elim)))
    refine w_goto (tgt := 69) dX12_strength_54 (by decide) ?_
    refine w_istore (ls' := [(6, vI r60_), (5, vI z3_), (0, vR (12, 0, 0)), (1, vI v), (2, vI u), (3, vI t), (4, vI s)]) dX12_strength_69 (by decide) rfl ?_
    refine w_iconst (v := 0) dX12_strength_71 (by decide) ?_
    refine w_sipush (v := 999) dX12_strength_72 (by decide) ?_
    refine w_iload dX12_strength_75 0 rfl ?_
    refine w_min m_1655 m_770 m_86 m_771 li_999 (rfl : r60_.toInt = r60_.toInt) (Nat.le_of_ble_eq_true rfl) (by omega) dX12_strength_77 (fun z68_ h69_ => ?_)
    refine w_max m_1656 m_206 m_86 m_207 li_0 (rfl : z68_.toInt = z68_.toInt) (Nat.le_of_ble_eq_true rfl) (by omega) dX12_strength_80 (fun z70_ h71_ => ?_)
    refine w_istore (ls' := [(6, vI z70_), (5, vI z3_), (0, vR (12, 0, 0)), (1, vI v), (2, vI u), (3, vI t), (4, vI s)]) dX12_strength_83 (by decide) rfl ?_
    refine w_aload_n dX12_strength_85 rfl 2 rfl ?_
    refine w_getR (c' := (50, 0, 0)) fl_RX12_9 rfl rfl ic_12 dX12_strength_86 rfl ?_
    refine w_bipush (v := 8) dX12_strength_89 (by decide) ?_
    refine w_ialdL 8 rfl rfl ic_50 li_8 (by decide) dX12_strength_91 (fun z72_ e73_ => ?_)
    refine w_iconst (v := 1) dX12_strength_92 (by decide) ?_
    refine w_icmp_ne (tgt := 103) dX12_strength_93 (by decide) (rfl : z72_.toInt = z72_.toInt) li_1 (fun h74_ => ?_) (fun h74_ => ?_)
    · refine w_iload dX12_strength_103 0 rfl ?_
      refine w_istore (ls' := [(6, vI z70_), (5, vI z3_), (0, vR (12, 0, 0)), (1, vI v), (2, vI u), (3, vI t), (4, vI s)]) dX12_strength_105 (by decide) rfl ?_
      refine w_aload_n dX12_strength_107 rfl 2 rfl ?_
      refine w_getR (c' := (50, 0, 0)) fl_RX12_9 rfl rfl ic_12 dX12_strength_108 rfl ?_
      refine w_bipush (v := 14) dX12_strength_111 (by decide) ?_
      refine w_iload_n dX12_strength_113 rfl 3 rfl ?_
      refine w_iaddB dX12_strength_114 li_14 (rfl : v.toInt = v.toInt) (lf_c_X12_strength_2 v hk ) (fun z75_ h76_ => ?_)
      refine w_iald rfl rfl ic_50 (rfl : z75_.toInt = z75_.toInt) (lf_c_X12_strength_3 v z75_ hk h76_ ) dX12_strength_115 (fun j79_ h80_ z77_ e78_ => ?_)
      refine w_iload_n dX12_strength_116 rfl 4 rfl ?_
      refine w_icmp_le (tgt := 124) dX12_strength_117 (by decide) (rfl : z77_.toInt = z77_.toInt) (rfl : u.toInt = u.toInt) (fun h81_ => ?_) (fun h81_ => ?_)
      · refine w_iload dX12_strength_124 0 rfl ?_
        exact w_iret rfl dX12_strength_126 ⟨hI64_, hF66_, trivial, ⟨z1_, h2_, j5_, h6_, z3_, e4_, M7_, hM8_, M11_, hM12_, M15_, hM16_, M19_, hM20_, hI21_, r23_, hs27_, h26_, (Or.inr ⟨h28_, M61_, hI64_, hF65_, r60_, hs67_, z68_, h69_, z70_, h71_, z72_, e73_, (Or.inl ⟨h74_, z75_, h76_, j79_, h80_, z77_, e78_, (Or.inl ⟨h81_, rfl, rfl⟩)⟩)⟩)⟩⟩
      · refine w_iconst (v := 0) dX12_strength_120 (by decide) ?_
        refine w_goto (tgt := 126) dX12_strength_121 (by decide) ?_
        exact w_iret rfl dX12_strength_126 ⟨hI64_, hF66_, trivial, ⟨z1_, h2_, j5_, h6_, z3_, e4_, M7_, hM8_, M11_, hM12_, M15_, hM16_, M19_, hM20_, hI21_, r23_, hs27_, h26_, (Or.inr ⟨h28_, M61_, hI64_, hF65_, r60_, hs67_, z68_, h69_, z70_, h71_, z72_, e73_, (Or.inl ⟨h74_, z75_, h76_, j79_, h80_, z77_, e78_, (Or.inr ⟨h81_, rfl, rfl⟩)⟩)⟩)⟩⟩
    · refine w_iload dX12_strength_96 0 rfl ?_
      refine w_iconst (v := 2) dX12_strength_98 (by decide) ?_
      refine w_idivB dX12_strength_99 (by decide) (rfl : z70_.toInt = z70_.toInt) li_2 (lf_c_X2_strength_4 z68_ z70_ h71_ ) (by decide) (fun z82_ h83_ => ?_)
      refine w_goto (tgt := 105) dX12_strength_100 (by decide) ?_
      refine w_istore (ls' := [(6, vI z82_), (5, vI z3_), (0, vR (12, 0, 0)), (1, vI v), (2, vI u), (3, vI t), (4, vI s)]) dX12_strength_105 (by decide) rfl ?_
      refine w_aload_n dX12_strength_107 rfl 2 rfl ?_
      refine w_getR (c' := (50, 0, 0)) fl_RX12_9 rfl rfl ic_12 dX12_strength_108 rfl ?_
      refine w_bipush (v := 14) dX12_strength_111 (by decide) ?_
      refine w_iload_n dX12_strength_113 rfl 3 rfl ?_
      refine w_iaddB dX12_strength_114 li_14 (rfl : v.toInt = v.toInt) (lf_c_X12_strength_2 v hk ) (fun z84_ h85_ => ?_)
      refine w_iald rfl rfl ic_50 (rfl : z84_.toInt = z84_.toInt) (lf_c_X12_strength_3 v z84_ hk h85_ ) dX12_strength_115 (fun j88_ h89_ z86_ e87_ => ?_)
      refine w_iload_n dX12_strength_116 rfl 4 rfl ?_
      refine w_icmp_le (tgt := 124) dX12_strength_117 (by decide) (rfl : z86_.toInt = z86_.toInt) (rfl : u.toInt = u.toInt) (fun h90_ => ?_) (fun h90_ => ?_)
      · refine w_iload dX12_strength_124 0 rfl ?_
        exact w_iret rfl dX12_strength_126 ⟨hI64_, hF66_, trivial, ⟨z1_, h2_, j5_, h6_, z3_, e4_, M7_, hM8_, M11_, hM12_, M15_, hM16_, M19_, hM20_, hI21_, r23_, hs27_, h26_, (Or.inr ⟨h28_, M61_, hI64_, hF65_, r60_, hs67_, z68_, h69_, z70_, h71_, z72_, e73_, (Or.inr ⟨h74_, z82_, h83_, z84_, h85_, j88_, h89_, z86_, e87_, (Or.inl ⟨h90_, rfl, rfl⟩)⟩)⟩)⟩⟩
      · refine w_iconst (v := 0) dX12_strength_120 (by decide) ?_
        refine w_goto (tgt := 126) dX12_strength_121 (by decide) ?_
        exact w_iret rfl dX12_strength_126 ⟨hI64_, hF66_, trivial, ⟨z1_, h2_, j5_, h6_, z3_, e4_, M7_, hM8_, M11_, hM12_, M15_, hM16_, M19_, hM20_, hI21_, r23_, hs27_, h26_, (Or.inr ⟨h28_, M61_, hI64_, hF65_, r60_, hs67_, z68_, h69_, z70_, h71_, z72_, e73_, (Or.inr ⟨h74_, z82_, h83_, z84_, h85_, j88_, h89_, z86_, e87_, (Or.inr ⟨h90_, rfl, rfl⟩)⟩)⟩)⟩⟩
def S_c_X12_isHeard : rf → Nat → Prop := fun c k => (c.1 = 58 ∧ c.2.1 = 0 ∧ k = 0) ∨ (c.1 = 58 ∧ c.2.1 = 0 ∧ k = 1) ∨ (c.1 = 58 ∧ c.2.1 = 0 ∧ k = 2) ∨ (c.1 = 58 ∧ c.2.1 = 0 ∧ k = 3) ∨ (c.1 = 59 ∧ c.2.1 = 0) ∨ False
def SP_X12_isHeard (q : Int32) (v : Int32) (u : Int32) (t : Int32) (s : Int32) (p : Int32) (Mz : mM) (r_ : Int32) (M_ : mM) : Prop := ∃ r1_ : Int32, (SP_X12_late s p Mz r1_) ∧ ∃ M7_ : mM, (InvD M7_) ∧ (FR (S_c_X12_strength) Mz M7_) ∧ ∃ r6_ : Int32, (SP_X12_strength v u t p Mz r6_ M7_) ∧ (((q.toInt < u.toInt) ∧ r_ = 0 ∧ M_ = M7_) ∨ ((u.toInt ≤ q.toInt) ∧ ∃ z15_ : Int32, (z15_ = M7_.1 (50, 0, 0) 7) ∧ (((r1_.toInt ≤ z15_.toInt) ∧ r_ = 0 ∧ M_ = M7_) ∨ ((z15_.toInt < r1_.toInt) ∧ (((¬ r6_.toInt = 0) ∧ ∃ M19_ : mM, (M19_ = up M7_ (58, 0, 0) 0 r6_) ∧ ∃ z23_ : Int32, (z23_ = M19_.1 (50, 0, 0) 6) ∧ ∃ M25_ : mM, (M25_ = up M19_ (58, 0, 0) 1 z23_) ∧ ∃ M29_ : mM, (M29_ = up M25_ (58, 0, 0) 2 r1_) ∧ (InvD M29_) ∧ ∃ r33_ : Int32, (SP_X12_hasText 1 M29_ r33_) ∧ ((0 ≤ r33_.toInt ∧ r33_.toInt ≤ 1)) ∧ (((r33_.toInt = 0) ∧ ∃ z39_ : Int32, (z39_ = M29_.1 (50, 0, 0) 6) ∧ (((r6_.toInt ≤ z39_.toInt) ∧ r_ = 0 ∧ M_ = M29_) ∨ ((z39_.toInt < r6_.toInt) ∧ r_ = 1 ∧ M_ = M29_))) ∨ ((¬ r33_.toInt = 0) ∧ ∃ M43_ : mM, (InvD M43_) ∧ (FR (S_c_X12_given) M29_ M43_) ∧ ∃ r42_ : Int32, (SP_X12_given 1 M29_ r42_ M43_) ∧ (((r42_.toInt = 0) ∧ r_ = 0 ∧ M_ = M43_) ∨ ((¬ r42_.toInt = 0) ∧ r_ = 1 ∧ M_ = M43_))))) ∨ ((r6_.toInt = 0) ∧ r_ = 0 ∧ M_ = M7_))))))
set_option maxHeartbeats 4000000 in
set_option maxRecDepth 100000 in
theorem c_X12_isHeard (l : Launch) (G : va_G) (cy : Nat → ClassId) (ad : rf → Nat) (d : Nat) (q : Int32) (v : Int32) (u : Int32) (t : Int32) (s : Int32) (p : Int32) (Mz : mM) (hIz : InvD Mz) (hk : 0 ≤ v.toInt ∧ v.toInt ≤ 99) : WP DD l G cy ad yX12_isHeard cX12_isHeard 9 (some .boolean) (d + 3) 0 [(0, vR (12, 0, 0)), (1, vI q), (2, vI v), (3, vI u), (4, vI t), (5, vI s), (6, vI p)] [] Mz (fun r M' => InvD M' ∧ FR (S_c_X12_isHeard) Mz M' ∧ ((0 ≤ r.toInt ∧ r.toInt ≤ 1)) ∧ SP_X12_isHeard q v u t s p Mz r M') := by
  have hFz : FR (S_c_X12_isHeard) Mz Mz := FR.self
  refine w_iload dX12_isHeard_0 5 rfl ?_
  refine w_iload dX12_isHeard_2 6 rfl ?_
  refine w_callS (as := [vI s, vI p]) (rest := []) (c_X12_late l G cy ad (d + 2) s p Mz hIz) kS_X12_late pnn_17 (Nat.le_of_ble_eq_true rfl) m_1657 rfl rfl (by decide) (Nat.le_of_ble_eq_true rfl) dX12_isHeard_4 (fun r1_ M2_ q3_ => ?_)
  obtain ⟨rfl, h4_, hs5_⟩ := q3_
  refine w_istore (ls' := [(7, vI r1_), (0, vR (12, 0, 0)), (1, vI q), (2, vI v), (3, vI u), (4, vI t), (5, vI s), (6, vI p)]) dX12_isHeard_7 (by decide) rfl ?_
  refine w_aload_n dX12_isHeard_9 rfl 1 rfl ?_
  refine w_iload_n dX12_isHeard_10 rfl 3 rfl ?_
  refine w_iload_n dX12_isHeard_11 rfl 4 rfl ?_
  refine w_iload dX12_isHeard_12 5 rfl ?_
  refine w_iload dX12_isHeard_14 7 rfl ?_
  refine w_callV (as := [vI v, vI u, vI t, vI p]) (rest := []) (c_X12_strength l G cy ad d v u t p Mz hIz hk) kV_X12_strength pnn_17 (Nat.le_of_ble_eq_true rfl) m_1640 rfl rfl rfl ic_12 rfl rfl (by decide) (Nat.le_of_ble_eq_true rfl) dX12_isHeard_16 (fun r6_ M7_ q8_ => ?_)
  obtain ⟨hI10_, hF11_, h9_, hs13_⟩ := q8_
  have hF12_ := hFz.tr hF11_ (fun c k => (fun h => h.elim (fun h => (Or.inl ⟨h.1, h.2.1, h.2.2⟩)) (fun h => h.elim (fun h => (Or.inr (Or.inl ⟨h.1, h.2.1, h.2.2⟩))) (fun h => h.elim (fun h => (Or.inr (Or.inr (Or.inl ⟨h.1, h.2.1, h.2.2⟩)))) (fun h => h.elim (fun h => (Or.inr (Or.inr (Or.inr (Or.inl ⟨h.1, h.2.1, h.2.2⟩))))) (fun h => h.elim (fun h => (Or.inr (Or.inr (Or.inr (Or.inr (Or.inl ⟨h.1, h.2⟩)))))) (fun h => h.elim)))))))
  refine w_istore (ls' := [(8, vI r6_), (7, vI r1_), (0, vR (12, 0, 0)), (1, vI q), (2, vI v), (3, vI u), (4, vI t), (5, vI s), (6, vI p)]) dX12_isHeard_19 (by decide) rfl ?_
  refine w_iload_n dX12_isHeard_21 rfl 5 rfl ?_
  refine w_iload_n dX12_isHeard_22 rfl 3 rfl ?_
  refine w_icmp_gt (tgt := 43) dX12_isHeard_23 (by decide) (rfl : u.toInt = u.toInt) (rfl : q.toInt = q.toInt) (fun h14_ => ?_) (fun h14_ => ?_)
  · refine w_iconst (v := 0) dX12_isHeard_43 (by decide) ?_
    exact w_zret rfl dX12_isHeard_44 ⟨by decide, by decide⟩ ⟨hI10_, hF12_, ⟨by decide, by decide⟩, ⟨r1_, hs5_, M7_, hI10_, hF11_, r6_, hs13_, (Or.inl ⟨h14_, rfl, rfl⟩)⟩⟩
  · refine w_iload dX12_isHeard_26 1 rfl ?_
    refine w_aload_n dX12_isHeard_28 rfl 2 rfl ?_
    refine w_getR (c' := (50, 0, 0)) fl_RX12_9 rfl rfl ic_12 dX12_isHeard_29 rfl ?_
    refine w_bipush (v := 7) dX12_isHeard_32 (by decide) ?_
    refine w_ialdL 7 rfl rfl ic_50 li_7 (by decide) dX12_isHeard_34 (fun z15_ e16_ => ?_)
    refine w_icmp_le (tgt := 43) dX12_isHeard_35 (by decide) (rfl : r1_.toInt = r1_.toInt) (rfl : z15_.toInt = z15_.toInt) (fun h17_ => ?_) (fun h17_ => ?_)
    · refine w_iconst (v := 0) dX12_isHeard_43 (by decide) ?_
      exact w_zret rfl dX12_isHeard_44 ⟨by decide, by decide⟩ ⟨hI10_, hF12_, ⟨by decide, by decide⟩, ⟨r1_, hs5_, M7_, hI10_, hF11_, r6_, hs13_, (Or.inr ⟨h14_, z15_, e16_, (Or.inl ⟨h17_, rfl, rfl⟩)⟩)⟩⟩
    · refine w_iload dX12_isHeard_38 0 rfl ?_
      refine w_if_ne (tgt := 45) dX12_isHeard_40 (by decide) (rfl : r6_.toInt = r6_.toInt) (fun h18_ => ?_) (fun h18_ => ?_)
      · refine w_aload_n dX12_isHeard_45 rfl 2 rfl ?_
        refine w_getR (c' := (58, 0, 0)) fl_RX12_47 rfl rfl ic_12 dX12_isHeard_46 rfl ?_
        refine w_iconst (v := 0) dX12_isHeard_49 (by decide) ?_
        refine w_iload dX12_isHeard_50 0 rfl ?_
        refine w_iastL 0 DD_nd rfl rfl ic_58 li_0 (by decide) dX12_isHeard_52 (fun M19_ hM20_ => ?_)
        have hI21_ := hI10_.put hM20_ ⟨trivial, Or.inr (by decide)⟩
        have hF22_ := hF12_.put hM20_ (Or.inl ⟨rfl, rfl, rfl⟩)
        refine w_aload_n dX12_isHeard_53 rfl 2 rfl ?_
        refine w_getR (c' := (58, 0, 0)) fl_RX12_47 rfl rfl ic_12 dX12_isHeard_54 rfl ?_
        refine w_iconst (v := 1) dX12_isHeard_57 (by decide) ?_
        refine w_aload_n dX12_isHeard_58 rfl 2 rfl ?_
        refine w_getR (c' := (50, 0, 0)) fl_RX12_9 rfl rfl ic_12 dX12_isHeard_59 rfl ?_
        refine w_bipush (v := 6) dX12_isHeard_62 (by decide) ?_
        refine w_ialdL 6 rfl rfl ic_50 li_6 (by decide) dX12_isHeard_64 (fun z23_ e24_ => ?_)
        refine w_iastL 1 DD_nd rfl rfl ic_58 li_1 (by decide) dX12_isHeard_65 (fun M25_ hM26_ => ?_)
        have hI27_ := hI21_.put hM26_ ⟨trivial, Or.inr (by decide)⟩
        have hF28_ := hF22_.put hM26_ (Or.inr (Or.inl ⟨rfl, rfl, rfl⟩))
        refine w_aload_n dX12_isHeard_66 rfl 2 rfl ?_
        refine w_getR (c' := (58, 0, 0)) fl_RX12_47 rfl rfl ic_12 dX12_isHeard_67 rfl ?_
        refine w_iconst (v := 2) dX12_isHeard_70 (by decide) ?_
        refine w_iload dX12_isHeard_71 1 rfl ?_
        refine w_iastL 2 DD_nd rfl rfl ic_58 li_2 (by decide) dX12_isHeard_73 (fun M29_ hM30_ => ?_)
        have hI31_ := hI27_.put hM30_ ⟨trivial, Or.inr (by decide)⟩
        have hF32_ := hF28_.put hM30_ (Or.inr (Or.inr (Or.inl ⟨rfl, rfl, rfl⟩)))
        refine w_aload_n dX12_isHeard_74 rfl 2 rfl ?_
        refine w_iconst (v := 1) dX12_isHeard_75 (by decide) ?_
        refine w_callV (as := [vI 1]) (rest := []) (c_X12_hasText l G cy ad (d + 2) 1 M29_ hI31_ (by first | decide | (unfold vF; omega) | (unfold vRw; omega))) kV_X12_hasText pnn_17 (Nat.le_of_ble_eq_true rfl) m_1644 rfl rfl rfl ic_12 rfl rfl (by decide) (Nat.le_of_ble_eq_true rfl) dX12_isHeard_76 (fun r33_ M34_ q35_ => ?_)
        obtain ⟨rfl, h36_, hs37_⟩ := q35_
        refine w_if_eq (tgt := 98) dX12_isHeard_79 (by decide) (rfl : r33_.toInt = r33_.toInt) (fun h38_ => ?_) (fun h38_ => ?_)
        · refine w_iload dX12_isHeard_98 0 rfl ?_
          refine w_aload_n dX12_isHeard_100 rfl 2 rfl ?_
          refine w_getR (c' := (50, 0, 0)) fl_RX12_9 rfl rfl ic_12 dX12_isHeard_101 rfl ?_
          refine w_bipush (v := 6) dX12_isHeard_104 (by decide) ?_
          refine w_ialdL 6 rfl rfl ic_50 li_6 (by decide) dX12_isHeard_106 (fun z39_ e40_ => ?_)
          refine w_icmp_le (tgt := 114) dX12_isHeard_107 (by decide) (rfl : r6_.toInt = r6_.toInt) (rfl : z39_.toInt = z39_.toInt) (fun h41_ => ?_) (fun h41_ => ?_)
          · refine w_iconst (v := 0) dX12_isHeard_114 (by decide) ?_
            exact w_zret rfl dX12_isHeard_115 ⟨by decide, by decide⟩ ⟨hI31_, hF32_, ⟨by decide, by decide⟩, ⟨r1_, hs5_, M7_, hI10_, hF11_, r6_, hs13_, (Or.inr ⟨h14_, z15_, e16_, (Or.inr ⟨h17_, (Or.inl ⟨h18_, M19_, hM20_, z23_, e24_, M25_, hM26_, M29_, hM30_, hI31_, r33_, hs37_, h36_, (Or.inl ⟨h38_, z39_, e40_, (Or.inl ⟨h41_, rfl, rfl⟩)⟩)⟩)⟩)⟩)⟩⟩
          · refine w_iconst (v := 1) dX12_isHeard_110 (by decide) ?_
            refine w_goto (tgt := 115) dX12_isHeard_111 (by decide) ?_
            exact w_zret rfl dX12_isHeard_115 ⟨by decide, by decide⟩ ⟨hI31_, hF32_, ⟨by decide, by decide⟩, ⟨r1_, hs5_, M7_, hI10_, hF11_, r6_, hs13_, (Or.inr ⟨h14_, z15_, e16_, (Or.inr ⟨h17_, (Or.inl ⟨h18_, M19_, hM20_, z23_, e24_, M25_, hM26_, M29_, hM30_, hI31_, r33_, hs37_, h36_, (Or.inl ⟨h38_, z39_, e40_, (Or.inr ⟨h41_, rfl, rfl⟩)⟩)⟩)⟩)⟩)⟩⟩
        · refine w_aload_n dX12_isHeard_82 rfl 2 rfl ?_
          refine w_iconst (v := 1) dX12_isHeard_83 (by decide) ?_
          refine w_callV (as := [vI 1]) (rest := []) (c_X12_given l G cy ad (d + 1) 1 M29_ hI31_ (by first | decide | (unfold vF; omega) | (unfold vRw; omega))) kV_X12_given pnn_17 (Nat.le_of_ble_eq_true rfl) m_1648 rfl rfl rfl ic_12 rfl rfl (by decide) (Nat.le_of_ble_eq_true rfl) dX12_isHeard_84 (fun r42_ M43_ q44_ => ?_)
          obtain ⟨hI46_, hF47_, h45_, hs49_⟩ := q44_
          have hF48_ := hF32_.tr hF47_ (fun c k => (fun h => h.elim (fun h => (Or.inr (Or.inr (Or.inr (Or.inr (Or.inl ⟨h.1, h.2⟩)))))) (fun h => h.elim)))
          refine w_if_eq (tgt := 94) dX12_isHeard_87 (by decide) (rfl : r42_.toInt = r42_.toInt) (fun h50_ => ?_) (fun h50_ => ?_)
          · refine w_iconst (v := 0) dX12_isHeard_94 (by decide) ?_
            refine w_goto (tgt := 115) dX12_isHeard_95 (by decide) ?_
            exact w_zret rfl dX12_isHeard_115 ⟨by decide, by decide⟩ ⟨hI46_, hF48_, ⟨by decide, by decide⟩, ⟨r1_, hs5_, M7_, hI10_, hF11_, r6_, hs13_, (Or.inr ⟨h14_, z15_, e16_, (Or.inr ⟨h17_, (Or.inl ⟨h18_, M19_, hM20_, z23_, e24_, M25_, hM26_, M29_, hM30_, hI31_, r33_, hs37_, h36_, (Or.inr ⟨h38_, M43_, hI46_, hF47_, r42_, hs49_, (Or.inl ⟨h50_, rfl, rfl⟩)⟩)⟩)⟩)⟩)⟩⟩
          · refine w_iconst (v := 1) dX12_isHeard_90 (by decide) ?_
            refine w_goto (tgt := 115) dX12_isHeard_91 (by decide) ?_
            exact w_zret rfl dX12_isHeard_115 ⟨by decide, by decide⟩ ⟨hI46_, hF48_, ⟨by decide, by decide⟩, ⟨r1_, hs5_, M7_, hI10_, hF11_, r6_, hs13_, (Or.inr ⟨h14_, z15_, e16_, (Or.inr ⟨h17_, (Or.inl ⟨h18_, M19_, hM20_, z23_, e24_, M25_, hM26_, M29_, hM30_, hI31_, r33_, hs37_, h36_, (Or.inr ⟨h38_, M43_, hI46_, hF47_, r42_, hs49_, (Or.inr ⟨h50_, rfl, rfl⟩)⟩)⟩)⟩)⟩)⟩⟩
      · refine w_iconst (v := 0) dX12_isHeard_43 (by decide) ?_
        exact w_zret rfl dX12_isHeard_44 ⟨by decide, by decide⟩ ⟨hI10_, hF12_, ⟨by decide, by decide⟩, ⟨r1_, hs5_, M7_, hI10_, hF11_, r6_, hs13_, (Or.inr ⟨h14_, z15_, e16_, (Or.inr ⟨h17_, (Or.inr ⟨h18_, rfl, rfl⟩)⟩)⟩)⟩⟩
def SP_X12_kindIn (v : Int32) (Mz : mM) (r_ : Int32) : Prop := ∃ r1_ : Int32, (SP_X12_in v Mz r1_) ∧ (((-1 ≤ r1_.toInt ∧ r1_.toInt ≤ 39) ∨ (100 ≤ r1_.toInt ∧ r1_.toInt ≤ 107))) ∧ (((100 ≤ r1_.toInt) ∧ r_ = 3) ∨ ((r1_.toInt < 100) ∧ ∃ r7_ : Int32, (SP_X12_thing r1_ Mz r7_) ∧ (r7_.toInt = 20 + 4 * r1_.toInt) ∧ ∃ z12_ : Int32, (z12_.toInt = r7_.toInt + 0) ∧ ∃ j16_ : Nat, ((j16_ : Int) = z12_.toInt) ∧ ∃ z14_ : Int32, (z14_ = Mz.1 (50, 0, 0) j16_) ∧ (0 ≤ z14_.toInt ∧ z14_.toInt ≤ 99) ∧ r_ = z14_))
theorem lf_c_X12_kindIn_0 : 0 ≤ (3 : Int32).toInt ∧ (3 : Int32).toInt ≤ 99 := by have r9 := li_3; omega
theorem lf_c_X12_kindIn_1 (r1_ : Int32) (h4_ : ((-1 ≤ r1_.toInt ∧ r1_.toInt ≤ 39) ∨ (100 ≤ r1_.toInt ∧ r1_.toInt ≤ 107))) (h6_ : r1_.toInt < 100) : -1 ≤ r1_.toInt ∧ r1_.toInt ≤ 39 := by omega
theorem lf_c_X12_kindIn_2 (r1_ : Int32) (r7_ : Int32) (h6_ : r1_.toInt < 100) (h10_ : r7_.toInt = 20 + 4 * r1_.toInt) : -2147483648 ≤ r7_.toInt + 0 ∧ r7_.toInt + 0 < 2147483648 := by have r_r7_ := rngI r7_; omega
theorem lf_c_X12_kindIn_3 (r1_ : Int32) (r7_ : Int32) (z12_ : Int32) (h4_ : ((-1 ≤ r1_.toInt ∧ r1_.toInt ≤ 39) ∨ (100 ≤ r1_.toInt ∧ r1_.toInt ≤ 107))) (h6_ : r1_.toInt < 100) (h10_ : r7_.toInt = 20 + 4 * r1_.toInt) (h13_ : z12_.toInt = r7_.toInt + 0) : 0 ≤ z12_.toInt ∧ z12_.toInt < ((3567 : Nat) : Int) := by omega
theorem lf_c_X12_kindIn_4 (Mz : mM) (r1_ : Int32) (r7_ : Int32) (z12_ : Int32) (j16_ : Nat) (z14_ : Int32) (h4_ : ((-1 ≤ r1_.toInt ∧ r1_.toInt ≤ 39) ∨ (100 ≤ r1_.toInt ∧ r1_.toInt ≤ 107))) (h6_ : r1_.toInt < 100) (h10_ : r7_.toInt = 20 + 4 * r1_.toInt) (h13_ : z12_.toInt = r7_.toInt + 0) (h17_ : (j16_ : Int) = z12_.toInt) (e15_ : z14_ = Mz.1 (50, 0, 0) j16_) : 16 ≤ j16_ ∧ j16_ < 180 ∧ j16_ % 4 = 0 := by have r_r1_ := rngI r1_; have r_r7_ := rngI r7_; have r_z12_ := rngI z12_; have r_z14_ := rngI z14_; subst e15_; omega
set_option maxHeartbeats 4000000 in
set_option maxRecDepth 100000 in
theorem c_X12_kindIn (l : Launch) (G : va_G) (cy : Nat → ClassId) (ad : rf → Nat) (d : Nat) (v : Int32) (Mz : mM) (hIz : InvD Mz) : WP DD l G cy ad yX12_kindIn cX12_kindIn 3 (some .int) (d + 2) 0 [(0, vR (12, 0, 0)), (1, vI v)] [] Mz (fun r M' => Mz = M' ∧ (0 ≤ r.toInt ∧ r.toInt ≤ 99) ∧ SP_X12_kindIn v Mz r) := by
  refine w_aload_n dX12_kindIn_0 rfl 0 rfl ?_
  refine w_iload_n dX12_kindIn_1 rfl 1 rfl ?_
  refine w_callV (as := [vI v]) (rest := []) (c_X12_in l G cy ad d v Mz hIz) kV_X12_in pnn_17 (Nat.le_of_ble_eq_true rfl) m_1443 rfl rfl rfl ic_12 rfl rfl (by decide) (Nat.le_of_ble_eq_true rfl) dX12_kindIn_2 (fun r1_ M2_ q3_ => ?_)
  obtain ⟨rfl, h4_, hs5_⟩ := q3_
  refine w_istore_n (ls' := [(2, vI r1_), (0, vR (12, 0, 0)), (1, vI v)]) dX12_kindIn_5 rfl (by decide) rfl ?_
  refine w_iload_n dX12_kindIn_6 rfl 0 rfl ?_
  refine w_bipush (v := 100) dX12_kindIn_7 (by decide) ?_
  refine w_icmp_ge (tgt := 27) dX12_kindIn_9 (by decide) (rfl : r1_.toInt = r1_.toInt) li_100 (fun h6_ => ?_) (fun h6_ => ?_)
  · refine w_iconst (v := 3) dX12_kindIn_27 (by decide) ?_
    exact w_iret rfl dX12_kindIn_28 ⟨rfl, (lf_c_X12_kindIn_0 ), ⟨r1_, hs5_, h4_, (Or.inl ⟨h6_, rfl⟩)⟩⟩
  · refine w_aload_n dX12_kindIn_12 rfl 1 rfl ?_
    refine w_getR (c' := (50, 0, 0)) fl_RX12_9 rfl rfl ic_12 dX12_kindIn_13 rfl ?_
    refine w_aload_n dX12_kindIn_16 rfl 1 rfl ?_
    refine w_iload_n dX12_kindIn_17 rfl 0 rfl ?_
    refine w_callV (as := [vI r1_]) (rest := [vR (50, 0, 0)]) (c_X12_thing l G cy ad (d + 1) r1_ Mz hIz (lf_c_X12_kindIn_1 r1_ h4_ h6_ )) kV_X12_thing pnn_17 (Nat.le_of_ble_eq_true rfl) m_1447 rfl rfl rfl ic_12 rfl rfl (by decide) (Nat.le_of_ble_eq_true rfl) dX12_kindIn_18 (fun r7_ M8_ q9_ => ?_)
    obtain ⟨rfl, h10_, hs11_⟩ := q9_
    refine w_iconst (v := 0) dX12_kindIn_21 (by decide) ?_
    refine w_iaddB dX12_kindIn_22 (rfl : r7_.toInt = r7_.toInt) li_0 (lf_c_X12_kindIn_2 r1_ r7_ h6_ h10_ ) (fun z12_ h13_ => ?_)
    refine w_iald rfl rfl ic_50 (rfl : z12_.toInt = z12_.toInt) (lf_c_X12_kindIn_3 r1_ r7_ z12_ h4_ h6_ h10_ h13_ ) dX12_kindIn_23 (fun j16_ h17_ z14_ e15_ => ?_)
    have h18_ : 0 ≤ z14_.toInt ∧ z14_.toInt ≤ 99 := pn_kx hIz e15_ (lf_c_X12_kindIn_4 Mz r1_ r7_ z12_ j16_ z14_ h4_ h6_ h10_ h13_ h17_ e15_ )
    refine w_goto (tgt := 28) dX12_kindIn_24 (by decide) ?_
    exact w_iret rfl dX12_kindIn_28 ⟨rfl, h18_, ⟨r1_, hs5_, h4_, (Or.inr ⟨h6_, r7_, hs11_, h10_, z12_, h13_, j16_, h17_, z14_, e15_, h18_, rfl⟩)⟩⟩
def ST_X12_echoFrom_3 (v : Int32) (u : Int32) (t : Int32) (Mz : mM) (v4_3 : Int32) (v4_3y : Int32) : Prop := (1 ≤ v4_3.toInt) ∧ (v4_3.toInt ≤ 13) ∧ (upI v u (v4_3.toInt - 1)) ∧ (v4_3.toInt ≤ t.toInt) ∧ ∃ r3_ : Int32, (SP_X12_on v u v4_3 Mz r3_) ∧ (onP v u v4_3 r3_ ∧ -1 ≤ r3_.toInt ∧ r3_.toInt ≤ 191) ∧ (0 ≤ r3_.toInt) ∧ (upI v u v4_3.toInt) ∧ ∃ r10_ : Int32, (SP_X12_on v u v4_3 Mz r10_) ∧ (onP v u v4_3 r10_ ∧ -1 ≤ r10_.toInt ∧ r10_.toInt ≤ 191) ∧ ∃ r15_ : Int32, (SP_X12_isFree r10_ Mz r15_) ∧ ((0 ≤ r15_.toInt ∧ r15_.toInt ≤ 1)) ∧ (¬ r15_.toInt = 0) ∧ ∃ z21_ : Int32, (z21_.toInt = v4_3.toInt + 1) ∧ v4_3y = z21_
def SP_X12_echoFrom (v : Int32) (u : Int32) (t : Int32) (Mz : mM) (r_ : Int32) : Prop := ∃ v4_3 : Int32, (1 ≤ v4_3.toInt) ∧ (v4_3.toInt ≤ 13) ∧ (upI v u (v4_3.toInt - 1)) ∧ (RCH (fun x_ y_ => ST_X12_echoFrom_3 v u t Mz x_ y_) (1 : Int32) v4_3) ∧ (((t.toInt < v4_3.toInt) ∧ r_ = 0) ∨ ((v4_3.toInt ≤ t.toInt) ∧ ∃ r3_ : Int32, (SP_X12_on v u v4_3 Mz r3_) ∧ (onP v u v4_3 r3_ ∧ -1 ≤ r3_.toInt ∧ r3_.toInt ≤ 191) ∧ (((r3_.toInt < 0) ∧ r_ = 0) ∨ ((0 ≤ r3_.toInt) ∧ (upI v u v4_3.toInt) ∧ ∃ r10_ : Int32, (SP_X12_on v u v4_3 Mz r10_) ∧ (onP v u v4_3 r10_ ∧ -1 ≤ r10_.toInt ∧ r10_.toInt ≤ 191) ∧ ∃ r15_ : Int32, (SP_X12_isFree r10_ Mz r15_) ∧ ((0 ≤ r15_.toInt ∧ r15_.toInt ≤ 1)) ∧ (r15_.toInt = 0) ∧ r_ = v4_3))))
theorem lf_c_X12_echoFrom_1 (v4_3 : Int32) (hv0_3 : 1 ≤ v4_3.toInt) (hv1_3 : v4_3.toInt ≤ 13) : -2147483648 ≤ v4_3.toInt + 1 ∧ v4_3.toInt + 1 < 2147483648 := by omega
theorem lf_c_X12_echoFrom_3 (t : Int32) (v4_3 : Int32) (z21_ : Int32) (ht : 0 ≤ t.toInt ∧ t.toInt ≤ 12) (h2_ : v4_3.toInt ≤ t.toInt) (h22_ : z21_.toInt = v4_3.toInt + 1) : z21_.toInt ≤ 13 := by omega
theorem lf_c_X12_echoFrom_4 (v4_3 : Int32) (z21_ : Int32) (h22_ : z21_.toInt = v4_3.toInt + 1) : z21_.toInt - 1 = v4_3.toInt := by omega
theorem lf_c_X12_echoFrom_5 (t : Int32) (v4_3 : Int32) (z21_ : Int32) (ht : 0 ≤ t.toInt ∧ t.toInt ≤ 12) (h2_ : v4_3.toInt ≤ t.toInt) (h22_ : z21_.toInt = v4_3.toInt + 1) : (13 - z21_.toInt).toNat < (13 - v4_3.toInt).toNat := by omega
theorem lf_c_X12_echoFrom_6 (v4_3 : Int32) (hv0_3 : 1 ≤ v4_3.toInt) : 0 ≤ v4_3.toInt := by omega
theorem lf_c_X12_echoFrom_7 (t : Int32) (v4_3 : Int32) (ht : 0 ≤ t.toInt ∧ t.toInt ≤ 12) (h2_ : v4_3.toInt ≤ t.toInt) : v4_3.toInt ≤ 12 := by omega
theorem lf_c_X12_echoFrom_9 : (1 : Int32).toInt ≤ 13 := by have q0 := li_1; omega
set_option maxHeartbeats 4000000 in
set_option maxRecDepth 100000 in
theorem c_X12_echoFrom (l : Launch) (G : va_G) (cy : Nat → ClassId) (ad : rf → Nat) (d : Nat) (v : Int32) (u : Int32) (t : Int32) (Mz : mM) (hIz : InvD Mz) (hu : 0 ≤ u.toInt ∧ u.toInt ≤ 7) (ht : 0 ≤ t.toInt ∧ t.toInt ≤ 12) : WP DD l G cy ad yX12_echoFrom cX12_echoFrom 5 (some .int) (d + 3) 0 [(0, vR (12, 0, 0)), (1, vI v), (2, vI u), (3, vI t)] [] Mz (fun r M' => Mz = M' ∧ (0 ≤ r.toInt ∧ r.toInt ≤ 12 ∧ upI v u r.toInt) ∧ SP_X12_echoFrom v u t Mz r) := by
  refine w_iconst (v := 1) dX12_echoFrom_0 (by decide) ?_
  refine w_istore (ls' := [(4, vI 1), (0, vR (12, 0, 0)), (1, vI v), (2, vI u), (3, vI t)]) dX12_echoFrom_1 (by decide) rfl ?_
  have lp1_ : ∀ (nn_3 : Nat) (v4_3 : Int32) (hv0_3 : 1 ≤ v4_3.toInt) (hv1_3 : v4_3.toInt ≤ 13) (hv2_3 : upI v u (v4_3.toInt - 1)) (hL_3 : RCH (fun x_ y_ => ST_X12_echoFrom_3 v u t Mz x_ y_) (1 : Int32) v4_3), (13 - v4_3.toInt).toNat < nn_3 → WP DD l G cy ad yX12_echoFrom cX12_echoFrom 5 (some .int) (d + 3) 3 [(4, vI v4_3), (0, vR (12, 0, 0)), (1, vI v), (2, vI u), (3, vI t)] [] Mz (fun r M' => Mz = M' ∧ (0 ≤ r.toInt ∧ r.toInt ≤ 12 ∧ upI v u r.toInt) ∧ SP_X12_echoFrom v u t Mz r) := by
    intro nn_3
    induction nn_3 with
    | zero => intro v4_3 hv0_3 hv1_3 hv2_3 hL_3 hm_3; exact absurd hm_3 (Nat.not_lt_zero _)
    | succ nn_3 ih_3 =>
      intro v4_3 hv0_3 hv1_3 hv2_3 hL_3 hm_3
      refine w_iload dX12_echoFrom_3 0 rfl ?_
      refine w_iload_n dX12_echoFrom_5 rfl 4 rfl ?_
      refine w_icmp_gt (tgt := 44) dX12_echoFrom_6 (by decide) (rfl : v4_3.toInt = v4_3.toInt) (rfl : t.toInt = t.toInt) (fun h2_ => ?_) (fun h2_ => ?_)
      · refine w_iconst (v := 0) dX12_echoFrom_44 (by decide) ?_
        exact w_iret rfl dX12_echoFrom_45 ⟨rfl, ⟨by decide, by decide, upI_0 (by decide)⟩, ⟨v4_3, hv0_3, hv1_3, hv2_3, hL_3, (Or.inl ⟨h2_, rfl⟩)⟩⟩
      · refine w_aload_n dX12_echoFrom_9 rfl 1 rfl ?_
        refine w_iload_n dX12_echoFrom_10 rfl 2 rfl ?_
        refine w_iload_n dX12_echoFrom_11 rfl 3 rfl ?_
        refine w_iload dX12_echoFrom_12 0 rfl ?_
        refine w_callV (as := [vI v, vI u, vI v4_3]) (rest := []) (c_X12_on l G cy ad (d + 1) v u v4_3 Mz hIz hu) kV_X12_on pnn_17 (Nat.le_of_ble_eq_true rfl) m_1632 rfl rfl rfl ic_12 rfl rfl (by decide) (Nat.le_of_ble_eq_true rfl) dX12_echoFrom_14 (fun r3_ M4_ q5_ => ?_)
        obtain ⟨rfl, h6_, hs7_⟩ := q5_
        refine w_if_lt (tgt := 44) dX12_echoFrom_17 (by decide) (rfl : r3_.toInt = r3_.toInt) (fun h8_ => ?_) (fun h8_ => ?_)
        · refine w_iconst (v := 0) dX12_echoFrom_44 (by decide) ?_
          exact w_iret rfl dX12_echoFrom_45 ⟨rfl, ⟨by decide, by decide, upI_0 (by decide)⟩, ⟨v4_3, hv0_3, hv1_3, hv2_3, hL_3, (Or.inr ⟨h2_, r3_, hs7_, h6_, (Or.inl ⟨h8_, rfl⟩)⟩)⟩⟩
        · have h9_ : upI v u v4_3.toInt := upI_s hv2_3 h6_.1 (lf_c_X12_given_13 r3_ h8_ )
          refine w_aload_n dX12_echoFrom_20 rfl 1 rfl ?_
          refine w_aload_n dX12_echoFrom_21 rfl 1 rfl ?_
          refine w_iload_n dX12_echoFrom_22 rfl 2 rfl ?_
          refine w_iload_n dX12_echoFrom_23 rfl 3 rfl ?_
          refine w_iload dX12_echoFrom_24 0 rfl ?_
          refine w_callV (as := [vI v, vI u, vI v4_3]) (rest := [vR (12, 0, 0)]) (c_X12_on l G cy ad (d + 1) v u v4_3 Mz hIz hu) kV_X12_on pnn_17 (Nat.le_of_ble_eq_true rfl) m_1632 rfl rfl rfl ic_12 rfl rfl (by decide) (Nat.le_of_ble_eq_true rfl) dX12_echoFrom_26 (fun r10_ M11_ q12_ => ?_)
          obtain ⟨rfl, h13_, hs14_⟩ := q12_
          refine w_callV (as := [vI r10_]) (rest := []) (c_X12_isFree l G cy ad d r10_ Mz hIz) kV_X12_isFree pnn_17 (Nat.le_of_ble_eq_true rfl) m_1439 rfl rfl rfl ic_12 rfl rfl (by decide) (Nat.le_of_ble_eq_true rfl) dX12_echoFrom_29 (fun r15_ M16_ q17_ => ?_)
          obtain ⟨rfl, h18_, hs19_⟩ := q17_
          refine w_if_ne (tgt := 38) dX12_echoFrom_32 (by decide) (rfl : r15_.toInt = r15_.toInt) (fun h20_ => ?_) (fun h20_ => ?_)
          · refine w_iincB (j := 0) (f := fun z21_ => [(4, vI z21_), (0, vR (12, 0, 0)), (1, vI v), (2, vI u), (3, vI t)]) dX12_echoFrom_38 rfl (by decide) (fun _ => rfl) (rfl : v4_3.toInt = v4_3.toInt) li_1 (lf_c_X12_echoFrom_1 v4_3 hv0_3 hv1_3 ) (fun z21_ h22_ => ?_)
            refine w_goto (tgt := 3) dX12_echoFrom_41 (by decide) ?_
            refine w_loc (ls' := [(4, vI z21_), (0, vR (12, 0, 0)), (1, vI v), (2, vI u), (3, vI t)]) [0, 1, 2, 3, 4] rfl ?_
            exact ih_3 z21_ (lf_c_X9_yardsToFull_1 v4_3 z21_ hv0_3 h22_ ) (lf_c_X12_echoFrom_3 t v4_3 z21_ ht h2_ h22_ ) (upI_e h9_ (lf_c_X12_echoFrom_4 v4_3 z21_ h22_ )) (RCH.tail hL_3 ⟨hv0_3, hv1_3, hv2_3, h2_, r3_, hs7_, h6_, h8_, h9_, r10_, hs14_, h13_, r15_, hs19_, h18_, h20_, z21_, h22_, rfl⟩) (Nat.lt_of_lt_of_le (lf_c_X12_echoFrom_5 t v4_3 z21_ ht h2_ h22_ ) (Nat.le_of_lt_succ hm_3))
          · refine w_iload dX12_echoFrom_35 0 rfl ?_
            exact w_iret rfl dX12_echoFrom_37 ⟨rfl, ⟨(lf_c_X12_echoFrom_6 v4_3 hv0_3 ), (lf_c_X12_echoFrom_7 t v4_3 ht h2_ ), h9_⟩, ⟨v4_3, hv0_3, hv1_3, hv2_3, hL_3, (Or.inr ⟨h2_, r3_, hs7_, h6_, (Or.inr ⟨h8_, h9_, r10_, hs14_, h13_, r15_, hs19_, h18_, h20_, rfl⟩)⟩)⟩⟩
  exact lp1_ _ 1 (lf_c_X9_yardsToFull_4 ) (lf_c_X12_echoFrom_9 ) (upI_0 (by decide)) RCH.refl (Nat.lt_succ_self _)
def S_c_X12_echo : rf → Nat → Prop := fun c k => (c.1 = 58 ∧ c.2.1 = 0 ∧ k = 0) ∨ (c.1 = 58 ∧ c.2.1 = 0 ∧ k = 1) ∨ (c.1 = 58 ∧ c.2.1 = 0 ∧ k = 2) ∨ (c.1 = 58 ∧ c.2.1 = 0 ∧ k = 3) ∨ (c.1 = 59 ∧ c.2.1 = 0) ∨ (c.1 = 53 ∧ c.2.1 = 0) ∨ False
def SP_X12_echo (v : Int32) (u : Int32) (t : Int32) (s : Int32) (Mz : mM) (r_ : Int32) (M_ : mM) : Prop := (((SP_is2 v Mz (1 : Int32)) ∧ (0 ≤ v.toInt ∧ v.toInt ≤ 7) ∧ (((SP_X12_isClick u Mz (1 : Int32)) ∧ (100 ≤ u.toInt ∧ u.toInt ≤ 999) ∧ (((SP_X12_isSide t Mz (1 : Int32)) ∧ (0 ≤ t.toInt ∧ t.toInt ≤ 7) ∧ (((SP_X12_within s 0 5 Mz (1 : Int32)) ∧ (0 ≤ s.toInt ∧ s.toInt ≤ 5) ∧ ∃ r25_ : Int32, (SP_X12_goer v Mz r25_) ∧ (r25_.toInt = 180 + 9 * v.toInt) ∧ ∃ z30_ : Int32, (z30_.toInt = r25_.toInt + 1) ∧ ∃ j34_ : Nat, ((j34_ : Int) = z30_.toInt) ∧ ∃ z32_ : Int32, (z32_ = Mz.1 (50, 0, 0) j34_) ∧ (0 ≤ z32_.toInt ∧ z32_.toInt ≤ 191) ∧ ∃ r37_ : Int32, (SP_X12_reach v Mz r37_) ∧ (0 ≤ r37_.toInt ∧ r37_.toInt ≤ 12) ∧ ∃ r42_ : Int32, (SP_X12_echoFrom z32_ t r37_ Mz r42_) ∧ (0 ≤ r42_.toInt ∧ r42_.toInt ≤ 12 ∧ upI z32_ t r42_.toInt) ∧ (((¬ r42_.toInt = 0) ∧ ∃ r48_ : Int32, (SP_X12_on z32_ t r42_ Mz r48_) ∧ (onP z32_ t r42_ r48_ ∧ -1 ≤ r48_.toInt ∧ r48_.toInt ≤ 191) ∧ ∃ r53_ : Int32, (SP_X12_kindIn r48_ Mz r53_) ∧ (0 ≤ r53_.toInt ∧ r53_.toInt ≤ 99) ∧ ∃ z58_ : Int32, (z58_.toInt = u.toInt / 100) ∧ ∃ z60_ : Int32, (z60_.toInt = u.toInt % 100) ∧ ∃ M63_ : mM, (InvD M63_) ∧ (FR (S_c_X12_strength) Mz M63_) ∧ ∃ r62_ : Int32, (SP_X12_strength r53_ z58_ z60_ r42_ Mz r62_ M63_) ∧ ∃ r70_ : Int32, (SP_X12_goer v M63_ r70_) ∧ (r70_.toInt = 180 + 9 * v.toInt) ∧ ∃ z75_ : Int32, (z75_.toInt = r70_.toInt + 2) ∧ ∃ j79_ : Nat, ((j79_ : Int) = z75_.toInt) ∧ ∃ z77_ : Int32, (z77_ = M63_.1 (50, 0, 0) j79_) ∧ (0 ≤ z77_.toInt ∧ z77_.toInt ≤ 7) ∧ (((s.toInt = 0) ∧ r_ = r42_ ∧ M_ = M63_) ∨ ((s.toInt = 1) ∧ ∃ r83_ : Int32, (SP_X12_late t r42_ M63_ r83_) ∧ r_ = r83_ ∧ M_ = M63_) ∨ ((s.toInt = 2) ∧ r_ = r62_ ∧ M_ = M63_) ∨ ((s.toInt = 3) ∧ ∃ r88_ : Int32, (SP_X12_ear r62_ t z77_ 1 M63_ r88_) ∧ r_ = r88_ ∧ M_ = M63_) ∨ ((s.toInt = 4) ∧ ∃ r93_ : Int32, (SP_X12_ear r62_ t z77_ 5 M63_ r93_) ∧ r_ = r93_ ∧ M_ = M63_) ∨ (((¬ s.toInt = 0 ∧ ¬ s.toInt = 1 ∧ ¬ s.toInt = 2 ∧ ¬ s.toInt = 3 ∧ ¬ s.toInt = 4)) ∧ ∃ r98_ : Int32, (SP_X12_ears v M63_ r98_) ∧ (0 ≤ r98_.toInt ∧ r98_.toInt ≤ 9) ∧ ∃ z103_ : Int32, (z103_.toInt = u.toInt / 100) ∧ ∃ z105_ : Int32, (z105_.toInt = u.toInt % 100) ∧ ∃ M108_ : mM, (InvD M108_) ∧ (FR (S_c_X12_isHeard) M63_ M108_) ∧ ∃ r107_ : Int32, (SP_X12_isHeard r98_ r53_ z103_ z105_ t r42_ M63_ r107_ M108_) ∧ ((0 ≤ r107_.toInt ∧ r107_.toInt ≤ 1)) ∧ (((r107_.toInt = 0) ∧ r_ = 0 ∧ M_ = M108_) ∨ ((¬ r107_.toInt = 0) ∧ r_ = 1 ∧ M_ = M108_))))) ∨ ((r42_.toInt = 0) ∧ ∃ M117_ : mM, (InvD M117_) ∧ (FR (S_c_X12_finding) Mz M117_) ∧ ∃ r116_ : Int32, (SP_X12_finding (-1000002) Mz r116_ M117_) ∧ (r116_.toInt = (-1000002)) ∧ r_ = r116_ ∧ M_ = M117_))) ∨ ((SP_X12_within s 0 5 Mz (0 : Int32)) ∧ (¬ (0 ≤ s.toInt ∧ s.toInt ≤ 5)) ∧ ∃ M126_ : mM, (InvD M126_) ∧ (FR (S_c_X12_finding) Mz M126_) ∧ ∃ r125_ : Int32, (SP_X12_finding (-1000001) Mz r125_ M126_) ∧ (r125_.toInt = (-1000001)) ∧ r_ = r125_ ∧ M_ = M126_))) ∨ ((SP_X12_isSide t Mz (0 : Int32)) ∧ (¬ (0 ≤ t.toInt ∧ t.toInt ≤ 7)) ∧ ∃ M135_ : mM, (InvD M135_) ∧ (FR (S_c_X12_finding) Mz M135_) ∧ ∃ r134_ : Int32, (SP_X12_finding (-1000001) Mz r134_ M135_) ∧ (r134_.toInt = (-1000001)) ∧ r_ = r134_ ∧ M_ = M135_))) ∨ ((SP_X12_isClick u Mz (0 : Int32)) ∧ ∃ M144_ : mM, (InvD M144_) ∧ (FR (S_c_X12_finding) Mz M144_) ∧ ∃ r143_ : Int32, (SP_X12_finding (-1000001) Mz r143_ M144_) ∧ (r143_.toInt = (-1000001)) ∧ r_ = r143_ ∧ M_ = M144_))) ∨ ((SP_is2 v Mz (0 : Int32)) ∧ ∃ M153_ : mM, (InvD M153_) ∧ (FR (S_c_X12_finding) Mz M153_) ∧ ∃ r152_ : Int32, (SP_X12_finding (-1000001) Mz r152_ M153_) ∧ (r152_.toInt = (-1000001)) ∧ r_ = r152_ ∧ M_ = M153_))
theorem lf_c_X12_echo_0 (v : Int32) (r25_ : Int32) (h4_ : 0 ≤ v.toInt ∧ v.toInt ≤ 7) (h28_ : r25_.toInt = 180 + 9 * v.toInt) : -2147483648 ≤ r25_.toInt + 1 ∧ r25_.toInt + 1 < 2147483648 := by omega
theorem lf_c_X12_echo_1 (v : Int32) (r25_ : Int32) (z30_ : Int32) (h4_ : 0 ≤ v.toInt ∧ v.toInt ≤ 7) (h28_ : r25_.toInt = 180 + 9 * v.toInt) (h31_ : z30_.toInt = r25_.toInt + 1) : 0 ≤ z30_.toInt ∧ z30_.toInt < ((3567 : Nat) : Int) := by omega
theorem lf_c_X12_echo_2 (Mz : mM) (v : Int32) (r25_ : Int32) (z30_ : Int32) (j34_ : Nat) (z32_ : Int32) (h4_ : 0 ≤ v.toInt ∧ v.toInt ≤ 7) (h28_ : r25_.toInt = 180 + 9 * v.toInt) (h31_ : z30_.toInt = r25_.toInt + 1) (h35_ : (j34_ : Int) = z30_.toInt) (e33_ : z32_ = Mz.1 (50, 0, 0) j34_) : 180 ≤ j34_ ∧ j34_ < 252 ∧ j34_ % 9 = 1 := by have r_v := rngI v; have r_r25_ := rngI r25_; have r_z30_ := rngI z30_; have r_z32_ := rngI z32_; subst e33_; omega
theorem lf_c_X12_echo_5 (v : Int32) (r25_ : Int32) (z30_ : Int32) (j34_ : Nat) (r70_ : Int32) (h4_ : 0 ≤ v.toInt ∧ v.toInt ≤ 7) (h28_ : r25_.toInt = 180 + 9 * v.toInt) (h31_ : z30_.toInt = r25_.toInt + 1) (h35_ : (j34_ : Int) = z30_.toInt) (h73_ : r70_.toInt = 180 + 9 * v.toInt) : -2147483648 ≤ r70_.toInt + 2 ∧ r70_.toInt + 2 < 2147483648 := by omega
theorem lf_c_X12_echo_6 (v : Int32) (r70_ : Int32) (z75_ : Int32) (h4_ : 0 ≤ v.toInt ∧ v.toInt ≤ 7) (h73_ : r70_.toInt = 180 + 9 * v.toInt) (h76_ : z75_.toInt = r70_.toInt + 2) : 0 ≤ z75_.toInt ∧ z75_.toInt < ((3567 : Nat) : Int) := by omega
theorem lf_c_X12_echo_7 (M63_ : mM) (Mz : mM) (v : Int32) (t : Int32) (r25_ : Int32) (z30_ : Int32) (j34_ : Nat) (z32_ : Int32) (r42_ : Int32) (r48_ : Int32) (r70_ : Int32) (z75_ : Int32) (j79_ : Nat) (z77_ : Int32) (h4_ : 0 ≤ v.toInt ∧ v.toInt ≤ 7) (h16_ : 0 ≤ t.toInt ∧ t.toInt ≤ 7) (h28_ : r25_.toInt = 180 + 9 * v.toInt) (h31_ : z30_.toInt = r25_.toInt + 1) (h35_ : (j34_ : Int) = z30_.toInt) (e33_ : z32_ = Mz.1 (50, 0, 0) j34_) (h36_ : 0 ≤ z32_.toInt ∧ z32_.toInt ≤ 191) (h45_ : 0 ≤ r42_.toInt ∧ r42_.toInt ≤ 12 ∧ upI z32_ t r42_.toInt) (h47_ : ¬ r42_.toInt = 0) (h51_ : onP z32_ t r42_ r48_ ∧ -1 ≤ r48_.toInt ∧ r48_.toInt ≤ 191) (h73_ : r70_.toInt = 180 + 9 * v.toInt) (h76_ : z75_.toInt = r70_.toInt + 2) (h80_ : (j79_ : Int) = z75_.toInt) (e78_ : z77_ = M63_.1 (50, 0, 0) j79_) : 180 ≤ j79_ ∧ j79_ < 252 ∧ j79_ % 9 = 2 := by have r_v := rngI v; have r_t := rngI t; have r_r25_ := rngI r25_; have r_z30_ := rngI z30_; have r_z32_ := rngI z32_; have r_r42_ := rngI r42_; have r_r48_ := rngI r48_; have r_r70_ := rngI r70_; have r_z75_ := rngI z75_; have r_z77_ := rngI z77_; subst e33_; subst e78_; omega
theorem lf_c_X12_echo_8 (s : Int32) (h22_ : 0 ≤ s.toInt ∧ s.toInt ≤ 5) : s.toInt = 0 ∨ s.toInt = 1 ∨ s.toInt = 2 ∨ s.toInt = 3 ∨ s.toInt = 4 ∨ (¬ s.toInt = 0 ∧ ¬ s.toInt = 1 ∧ ¬ s.toInt = 2 ∧ ¬ s.toInt = 3 ∧ ¬ s.toInt = 4) := by omega
theorem lf_c_X12_echo_9 (s : Int32) (h22_ : 0 ≤ s.toInt ∧ s.toInt ≤ 5) (e82_ : (¬ s.toInt = 0 ∧ ¬ s.toInt = 1 ∧ ¬ s.toInt = 2 ∧ ¬ s.toInt = 3 ∧ ¬ s.toInt = 4)) : s.toInt < 0 ∨ 4 < s.toInt := by have r_s := rngI s; omega
set_option maxHeartbeats 4000000 in
set_option maxRecDepth 100000 in
theorem c_X12_echo (l : Launch) (G : va_G) (cy : Nat → ClassId) (ad : rf → Nat) (d : Nat) (v : Int32) (u : Int32) (t : Int32) (s : Int32) (Mz : mM) (hIz : InvD Mz) : WP DD l G cy ad yX12_echo cX12_echo 10 (some .int) (d + 4) 0 [(0, vR (12, 0, 0)), (1, vI v), (2, vI u), (3, vI t), (4, vI s)] [] Mz (fun r M' => InvD M' ∧ FR (S_c_X12_echo) Mz M' ∧ (True) ∧ SP_X12_echo v u t s Mz r M') := by
  have hFz : FR (S_c_X12_echo) Mz Mz := FR.self
  refine w_aload_n dX12_echo_0 rfl 0 rfl ?_
  refine w_iload_n dX12_echo_1 rfl 1 rfl ?_
  refine w_iconst (v := 2) dX12_echo_2 (by decide) ?_
  refine w_callV (as := [vI v, vI 2]) (rest := []) (c_is2 l G cy ad (d + 2) v Mz hIz) kV_X12_is pnn_17 (Nat.le_of_ble_eq_true rfl) m_1465 rfl rfl rfl ic_12 rfl rfl (by decide) (Nat.le_of_ble_eq_true rfl) dX12_echo_3 (fun r1_ M2_ q3_ => ?_)
  obtain ⟨rfl, h4_, hs5_⟩ := q3_
  rcases h4_ with ⟨rfl, h4_⟩ | rfl
  · refine w_if_eq (tgt := 34) dX12_echo_6 (by decide) li_1 (fun h9 => (absurd h9 (by decide))) (fun h6_ => ?_)
    refine w_aload_n dX12_echo_9 rfl 0 rfl ?_
    refine w_iload_n dX12_echo_10 rfl 2 rfl ?_
    refine w_callV (as := [vI u]) (rest := []) (c_X12_isClick l G cy ad (d + 2) u Mz hIz) kV_X12_isClick pnn_17 (Nat.le_of_ble_eq_true rfl) m_1624 rfl rfl rfl ic_12 rfl rfl (by decide) (Nat.le_of_ble_eq_true rfl) dX12_echo_11 (fun r7_ M8_ q9_ => ?_)
    obtain ⟨rfl, h10_, hs11_⟩ := q9_
    rcases h10_ with ⟨rfl, h10_⟩ | rfl
    · refine w_if_eq (tgt := 34) dX12_echo_14 (by decide) li_1 (fun h9 => (absurd h9 (by decide))) (fun h12_ => ?_)
      refine w_iload_n dX12_echo_17 rfl 3 rfl ?_
      refine w_callS (as := [vI t]) (rest := []) (c_X12_isSide l G cy ad (d + 2) t Mz hIz) kS_X12_isSide pnn_17 (Nat.le_of_ble_eq_true rfl) m_1473 rfl rfl (by decide) (Nat.le_of_ble_eq_true rfl) dX12_echo_18 (fun r13_ M14_ q15_ => ?_)
      obtain ⟨rfl, h16_, hs17_⟩ := q15_
      rcases h16_ with ⟨rfl, h16_⟩ | ⟨rfl, h16_⟩
      · refine w_if_eq (tgt := 34) dX12_echo_21 (by decide) li_1 (fun h9 => (absurd h9 (by decide))) (fun h18_ => ?_)
        refine w_iload dX12_echo_24 4 rfl ?_
        refine w_iconst (v := 0) dX12_echo_26 (by decide) ?_
        refine w_iconst (v := 5) dX12_echo_27 (by decide) ?_
        refine w_callS (as := [vI s, vI 0, vI 5]) (rest := []) (c_X12_within l G cy ad (d + 3) s 0 5 Mz hIz) kS_X12_within pnn_17 (Nat.le_of_ble_eq_true rfl) m_1427 rfl rfl (by decide) (Nat.le_of_ble_eq_true rfl) dX12_echo_28 (fun r19_ M20_ q21_ => ?_)
        obtain ⟨rfl, h22_, hs23_⟩ := q21_
        rcases h22_ with ⟨rfl, h22_⟩ | ⟨rfl, h22_⟩
        · simp only [li_0, li_5] at h22_
          refine w_if_ne (tgt := 41) dX12_echo_31 (by decide) li_1 (fun h24_ => ?_) (fun h9 => (absurd h9 (by decide)))
          refine w_aload_n dX12_echo_41 rfl 0 rfl ?_
          refine w_getR (c' := (50, 0, 0)) fl_RX12_9 rfl rfl ic_12 dX12_echo_42 rfl ?_
          refine w_aload_n dX12_echo_45 rfl 0 rfl ?_
          refine w_iload_n dX12_echo_46 rfl 1 rfl ?_
          refine w_callV (as := [vI v]) (rest := [vR (50, 0, 0)]) (c_X12_goer l G cy ad (d + 3) v Mz hIz h4_) kV_X12_goer pnn_17 (Nat.le_of_ble_eq_true rfl) m_1451 rfl rfl rfl ic_12 rfl rfl (by decide) (Nat.le_of_ble_eq_true rfl) dX12_echo_47 (fun r25_ M26_ q27_ => ?_)
          obtain ⟨rfl, h28_, hs29_⟩ := q27_
          refine w_iconst (v := 1) dX12_echo_50 (by decide) ?_
          refine w_iaddB dX12_echo_51 (rfl : r25_.toInt = r25_.toInt) li_1 (lf_c_X12_echo_0 v r25_ h4_ h28_ ) (fun z30_ h31_ => ?_)
          refine w_iald rfl rfl ic_50 (rfl : z30_.toInt = z30_.toInt) (lf_c_X12_echo_1 v r25_ z30_ h4_ h28_ h31_ ) dX12_echo_52 (fun j34_ h35_ z32_ e33_ => ?_)
          have h36_ : 0 ≤ z32_.toInt ∧ z32_.toInt ≤ 191 := pn_wc hIz e33_ (lf_c_X12_echo_2 Mz v r25_ z30_ j34_ z32_ h4_ h28_ h31_ h35_ e33_ )
          refine w_istore (ls' := [(5, vI z32_), (0, vR (12, 0, 0)), (1, vI v), (2, vI u), (3, vI t), (4, vI s)]) dX12_echo_53 (by decide) rfl ?_
          refine w_aload_n dX12_echo_55 rfl 1 rfl ?_
          refine w_iload dX12_echo_56 0 rfl ?_
          refine w_iload_n dX12_echo_58 rfl 4 rfl ?_
          refine w_aload_n dX12_echo_59 rfl 1 rfl ?_
          refine w_iload_n dX12_echo_60 rfl 2 rfl ?_
          refine w_callV (as := [vI v]) (rest := [vI t, vI z32_, vR (12, 0, 0)]) (c_X12_reach l G cy ad d v Mz hIz h4_) kV_X12_reach pnn_17 (Nat.le_of_ble_eq_true rfl) m_1513 rfl rfl rfl ic_12 rfl rfl (by decide) (Nat.le_of_ble_eq_true rfl) dX12_echo_61 (fun r37_ M38_ q39_ => ?_)
          obtain ⟨rfl, h40_, hs41_⟩ := q39_
          refine w_callV (as := [vI z32_, vI t, vI r37_]) (rest := []) (c_X12_echoFrom l G cy ad d z32_ t r37_ Mz hIz h16_ h40_) kV_X12_echoFrom pnn_17 (Nat.le_of_ble_eq_true rfl) m_1628 rfl rfl rfl ic_12 rfl rfl (by decide) (Nat.le_of_ble_eq_true rfl) dX12_echo_64 (fun r42_ M43_ q44_ => ?_)
          obtain ⟨rfl, h45_, hs46_⟩ := q44_
          refine w_istore (ls' := [(6, vI r42_), (5, vI z32_), (0, vR (12, 0, 0)), (1, vI v), (2, vI u), (3, vI t), (4, vI s)]) dX12_echo_67 (by decide) rfl ?_
          refine w_iload dX12_echo_69 0 rfl ?_
          refine w_if_ne (tgt := 81) dX12_echo_71 (by decide) (rfl : r42_.toInt = r42_.toInt) (fun h47_ => ?_) (fun h47_ => ?_)
          · refine w_aload_n dX12_echo_81 rfl 2 rfl ?_
            refine w_aload_n dX12_echo_82 rfl 2 rfl ?_
            refine w_iload dX12_echo_83 1 rfl ?_
            refine w_iload_n dX12_echo_85 rfl 5 rfl ?_
            refine w_iload dX12_echo_86 0 rfl ?_
            refine w_callV (as := [vI z32_, vI t, vI r42_]) (rest := [vR (12, 0, 0)]) (c_X12_on l G cy ad (d + 2) z32_ t r42_ Mz hIz h16_) kV_X12_on pnn_17 (Nat.le_of_ble_eq_true rfl) m_1632 rfl rfl rfl ic_12 rfl rfl (by decide) (Nat.le_of_ble_eq_true rfl) dX12_echo_88 (fun r48_ M49_ q50_ => ?_)
            obtain ⟨rfl, h51_, hs52_⟩ := q50_
            refine w_callV (as := [vI r48_]) (rest := []) (c_X12_kindIn l G cy ad (d + 1) r48_ Mz hIz) kV_X12_kindIn pnn_17 (Nat.le_of_ble_eq_true rfl) m_1636 rfl rfl rfl ic_12 rfl rfl (by decide) (Nat.le_of_ble_eq_true rfl) dX12_echo_91 (fun r53_ M54_ q55_ => ?_)
            obtain ⟨rfl, h56_, hs57_⟩ := q55_
            refine w_istore (ls' := [(7, vI r53_), (6, vI r42_), (5, vI z32_), (0, vR (12, 0, 0)), (1, vI v), (2, vI u), (3, vI t), (4, vI s)]) dX12_echo_94 (by decide) rfl ?_
            refine w_aload_n dX12_echo_96 rfl 3 rfl ?_
            refine w_iload dX12_echo_97 0 rfl ?_
            refine w_iload_n dX12_echo_99 rfl 5 rfl ?_
            refine w_bipush (v := 100) dX12_echo_100 (by decide) ?_
            refine w_idivB dX12_echo_102 (by decide) (rfl : u.toInt = u.toInt) li_100 (lf_c_X12_isClick_0 u h10_ ) (by decide) (fun z58_ h59_ => ?_)
            refine w_iload_n dX12_echo_103 rfl 5 rfl ?_
            refine w_bipush (v := 100) dX12_echo_104 (by decide) ?_
            refine w_iremB dX12_echo_106 (by decide) (rfl : u.toInt = u.toInt) li_100 (lf_c_X12_isClick_0 u h10_ ) (by decide) (fun z60_ h61_ => ?_)
            refine w_iload dX12_echo_107 1 rfl ?_
            refine w_callV (as := [vI r53_, vI z58_, vI z60_, vI r42_]) (rest := []) (c_X12_strength l G cy ad (d + 1) r53_ z58_ z60_ r42_ Mz hIz h56_) kV_X12_strength pnn_17 (Nat.le_of_ble_eq_true rfl) m_1640 rfl rfl rfl ic_12 rfl rfl (by decide) (Nat.le_of_ble_eq_true rfl) dX12_echo_109 (fun r62_ M63_ q64_ => ?_)
            obtain ⟨hI66_, hF67_, h65_, hs69_⟩ := q64_
            have hF68_ := hFz.tr hF67_ (fun c k => (fun h => h.elim (fun h => (Or.inl ⟨h.1, h.2.1, h.2.2⟩)) (fun h => h.elim (fun h => (Or.inr (Or.inl ⟨h.1, h.2.1, h.2.2⟩))) (fun h => h.elim (fun h => (Or.inr (Or.inr (Or.inl ⟨h.1, h.2.1, h.2.2⟩)))) (fun h => h.elim (fun h => (Or.inr (Or.inr (Or.inr (Or.inl ⟨h.1, h.2.1, h.2.2⟩))))) (fun h => h.elim (fun h => (Or.inr (Or.inr (Or.inr (Or.inr (Or.inl ⟨h.1, h.2⟩)))))) (fun h => h.elim)))))))
            refine w_istore (ls' := [(8, vI r62_), (7, vI r53_), (6, vI r42_), (5, vI z32_), (0, vR (12, 0, 0)), (1, vI v), (2, vI u), (3, vI t), (4, vI s)]) dX12_echo_112 (by decide) rfl ?_
            refine w_aload_n dX12_echo_114 rfl 4 rfl ?_
            refine w_getR (c' := (50, 0, 0)) fl_RX12_9 rfl rfl ic_12 dX12_echo_115 rfl ?_
            refine w_aload_n dX12_echo_118 rfl 4 rfl ?_
            refine w_iload_n dX12_echo_119 rfl 5 rfl ?_
            refine w_callV (as := [vI v]) (rest := [vR (50, 0, 0)]) (c_X12_goer l G cy ad (d + 3) v M63_ hI66_ h4_) kV_X12_goer pnn_17 (Nat.le_of_ble_eq_true rfl) m_1451 rfl rfl rfl ic_12 rfl rfl (by decide) (Nat.le_of_ble_eq_true rfl) dX12_echo_120 (fun r70_ M71_ q72_ => ?_)
            obtain ⟨rfl, h73_, hs74_⟩ := q72_
            refine w_iconst (v := 2) dX12_echo_123 (by decide) ?_
            refine w_iaddB dX12_echo_124 (rfl : r70_.toInt = r70_.toInt) li_2 (lf_c_X12_echo_5 v r25_ z30_ j34_ r70_ h4_ h28_ h31_ h35_ h73_ ) (fun z75_ h76_ => ?_)
            refine w_iald rfl rfl ic_50 (rfl : z75_.toInt = z75_.toInt) (lf_c_X12_echo_6 v r70_ z75_ h4_ h73_ h76_ ) dX12_echo_125 (fun j79_ h80_ z77_ e78_ => ?_)
            have h81_ : 0 ≤ z77_.toInt ∧ z77_.toInt ≤ 7 := pn_ws hI66_ e78_ (lf_c_X12_echo_7 M63_ Mz v t r25_ z30_ j34_ z32_ r42_ r48_ r70_ z75_ j79_ z77_ h4_ h16_ h28_ h31_ h35_ e33_ h36_ h45_ h47_ h51_ h73_ h76_ h80_ e78_ )
            refine w_istore (ls' := [(9, vI z77_), (8, vI r62_), (7, vI r53_), (6, vI r42_), (5, vI z32_), (0, vR (12, 0, 0)), (1, vI v), (2, vI u), (3, vI t), (4, vI s)]) dX12_echo_126 (by decide) rfl ?_
            refine w_iload dX12_echo_128 9 rfl ?_
            rcases (lf_c_X12_echo_8 s h22_ ) with e82_ | e82_ | e82_ | e82_ | e82_ | e82_
            · refine w_tsIn (tgt := 164) (off := 34) dX12_echo_130 e82_ (by decide) (by decide) rfl (by decide) ?_
              refine w_iload dX12_echo_164 3 rfl ?_
              exact w_iret rfl dX12_echo_166 ⟨hI66_, hF68_, trivial, (Or.inl ⟨hs5_, h4_, (Or.inl ⟨hs11_, h10_, (Or.inl ⟨hs17_, h16_, (Or.inl ⟨hs23_, h22_, r25_, hs29_, h28_, z30_, h31_, j34_, h35_, z32_, e33_, h36_, r37_, hs41_, h40_, r42_, hs46_, h45_, (Or.inl ⟨h47_, r48_, hs52_, h51_, r53_, hs57_, h56_, z58_, h59_, z60_, h61_, M63_, hI66_, hF67_, r62_, hs69_, r70_, hs74_, h73_, z75_, h76_, j79_, h80_, z77_, e78_, h81_, (Or.inl ⟨e82_, rfl, rfl⟩)⟩)⟩)⟩)⟩)⟩)⟩
            · refine w_tsIn (tgt := 167) (off := 37) dX12_echo_130 e82_ (by decide) (by decide) rfl (by decide) ?_
              refine w_iload_n dX12_echo_167 rfl 8 rfl ?_
              refine w_iload dX12_echo_168 3 rfl ?_
              refine w_callS (as := [vI t, vI r42_]) (rest := []) (c_X12_late l G cy ad (d + 3) t r42_ M63_ hI66_) kS_X12_late pnn_17 (Nat.le_of_ble_eq_true rfl) m_1657 rfl rfl (by decide) (Nat.le_of_ble_eq_true rfl) dX12_echo_170 (fun r83_ M84_ q85_ => ?_)
              obtain ⟨rfl, h86_, hs87_⟩ := q85_
              exact w_iret rfl dX12_echo_173 ⟨hI66_, hF68_, trivial, (Or.inl ⟨hs5_, h4_, (Or.inl ⟨hs11_, h10_, (Or.inl ⟨hs17_, h16_, (Or.inl ⟨hs23_, h22_, r25_, hs29_, h28_, z30_, h31_, j34_, h35_, z32_, e33_, h36_, r37_, hs41_, h40_, r42_, hs46_, h45_, (Or.inl ⟨h47_, r48_, hs52_, h51_, r53_, hs57_, h56_, z58_, h59_, z60_, h61_, M63_, hI66_, hF67_, r62_, hs69_, r70_, hs74_, h73_, z75_, h76_, j79_, h80_, z77_, e78_, h81_, (Or.inr (Or.inl ⟨e82_, r83_, hs87_, rfl, rfl⟩))⟩)⟩)⟩)⟩)⟩)⟩
            · refine w_tsIn (tgt := 174) (off := 44) dX12_echo_130 e82_ (by decide) (by decide) rfl (by decide) ?_
              refine w_iload dX12_echo_174 1 rfl ?_
              exact w_iret rfl dX12_echo_176 ⟨hI66_, hF68_, trivial, (Or.inl ⟨hs5_, h4_, (Or.inl ⟨hs11_, h10_, (Or.inl ⟨hs17_, h16_, (Or.inl ⟨hs23_, h22_, r25_, hs29_, h28_, z30_, h31_, j34_, h35_, z32_, e33_, h36_, r37_, hs41_, h40_, r42_, hs46_, h45_, (Or.inl ⟨h47_, r48_, hs52_, h51_, r53_, hs57_, h56_, z58_, h59_, z60_, h61_, M63_, hI66_, hF67_, r62_, hs69_, r70_, hs74_, h73_, z75_, h76_, j79_, h80_, z77_, e78_, h81_, (Or.inr (Or.inr (Or.inl ⟨e82_, rfl, rfl⟩)))⟩)⟩)⟩)⟩)⟩)⟩
            · refine w_tsIn (tgt := 177) (off := 47) dX12_echo_130 e82_ (by decide) (by decide) rfl (by decide) ?_
              refine w_iload dX12_echo_177 1 rfl ?_
              refine w_iload_n dX12_echo_179 rfl 8 rfl ?_
              refine w_iload dX12_echo_180 0 rfl ?_
              refine w_iconst (v := 1) dX12_echo_182 (by decide) ?_
              refine w_callS (as := [vI r62_, vI t, vI z77_, vI 1]) (rest := []) (c_X12_ear l G cy ad (d + 3) r62_ t z77_ 1 M63_ hI66_) kS_X12_ear pnn_17 (Nat.le_of_ble_eq_true rfl) m_1660 rfl rfl (by decide) (Nat.le_of_ble_eq_true rfl) dX12_echo_183 (fun r88_ M89_ q90_ => ?_)
              obtain ⟨rfl, h91_, hs92_⟩ := q90_
              exact w_iret rfl dX12_echo_186 ⟨hI66_, hF68_, trivial, (Or.inl ⟨hs5_, h4_, (Or.inl ⟨hs11_, h10_, (Or.inl ⟨hs17_, h16_, (Or.inl ⟨hs23_, h22_, r25_, hs29_, h28_, z30_, h31_, j34_, h35_, z32_, e33_, h36_, r37_, hs41_, h40_, r42_, hs46_, h45_, (Or.inl ⟨h47_, r48_, hs52_, h51_, r53_, hs57_, h56_, z58_, h59_, z60_, h61_, M63_, hI66_, hF67_, r62_, hs69_, r70_, hs74_, h73_, z75_, h76_, j79_, h80_, z77_, e78_, h81_, (Or.inr (Or.inr (Or.inr (Or.inl ⟨e82_, r88_, hs92_, rfl, rfl⟩))))⟩)⟩)⟩)⟩)⟩)⟩
            · refine w_tsIn (tgt := 187) (off := 57) dX12_echo_130 e82_ (by decide) (by decide) rfl (by decide) ?_
              refine w_iload dX12_echo_187 1 rfl ?_
              refine w_iload_n dX12_echo_189 rfl 8 rfl ?_
              refine w_iload dX12_echo_190 0 rfl ?_
              refine w_iconst (v := 5) dX12_echo_192 (by decide) ?_
              refine w_callS (as := [vI r62_, vI t, vI z77_, vI 5]) (rest := []) (c_X12_ear l G cy ad (d + 3) r62_ t z77_ 5 M63_ hI66_) kS_X12_ear pnn_17 (Nat.le_of_ble_eq_true rfl) m_1660 rfl rfl (by decide) (Nat.le_of_ble_eq_true rfl) dX12_echo_193 (fun r93_ M94_ q95_ => ?_)
              obtain ⟨rfl, h96_, hs97_⟩ := q95_
              exact w_iret rfl dX12_echo_196 ⟨hI66_, hF68_, trivial, (Or.inl ⟨hs5_, h4_, (Or.inl ⟨hs11_, h10_, (Or.inl ⟨hs17_, h16_, (Or.inl ⟨hs23_, h22_, r25_, hs29_, h28_, z30_, h31_, j34_, h35_, z32_, e33_, h36_, r37_, hs41_, h40_, r42_, hs46_, h45_, (Or.inl ⟨h47_, r48_, hs52_, h51_, r53_, hs57_, h56_, z58_, h59_, z60_, h61_, M63_, hI66_, hF67_, r62_, hs69_, r70_, hs74_, h73_, z75_, h76_, j79_, h80_, z77_, e78_, h81_, (Or.inr (Or.inr (Or.inr (Or.inr (Or.inl ⟨e82_, r93_, hs97_, rfl, rfl⟩)))))⟩)⟩)⟩)⟩)⟩)⟩
            · refine w_tsOut (tgt := 197) dX12_echo_130 rfl (lf_c_X12_echo_9 s h22_ e82_ ) (by decide) ?_
              refine w_aload_n dX12_echo_197 rfl 5 rfl ?_
              refine w_aload_n dX12_echo_198 rfl 5 rfl ?_
              refine w_iload_n dX12_echo_199 rfl 6 rfl ?_
              refine w_callV (as := [vI v]) (rest := [vR (12, 0, 0)]) (c_X12_ears l G cy ad (d + 1) v M63_ hI66_ h4_) kV_X12_ears pnn_17 (Nat.le_of_ble_eq_true rfl) m_1524 rfl rfl rfl ic_12 rfl rfl (by decide) (Nat.le_of_ble_eq_true rfl) dX12_echo_200 (fun r98_ M99_ q100_ => ?_)
              obtain ⟨rfl, h101_, hs102_⟩ := q100_
              refine w_iload dX12_echo_203 2 rfl ?_
              refine w_iload_n dX12_echo_205 rfl 7 rfl ?_
              refine w_bipush (v := 100) dX12_echo_206 (by decide) ?_
              refine w_idivB dX12_echo_208 (by decide) (rfl : u.toInt = u.toInt) li_100 (lf_c_X12_isClick_0 u h10_ ) (by decide) (fun z103_ h104_ => ?_)
              refine w_iload_n dX12_echo_209 rfl 7 rfl ?_
              refine w_bipush (v := 100) dX12_echo_210 (by decide) ?_
              refine w_iremB dX12_echo_212 (by decide) (rfl : u.toInt = u.toInt) li_100 (lf_c_X12_isClick_0 u h10_ ) (by decide) (fun z105_ h106_ => ?_)
              refine w_iload_n dX12_echo_213 rfl 8 rfl ?_
              refine w_iload dX12_echo_214 3 rfl ?_
              refine w_callV (as := [vI r98_, vI r53_, vI z103_, vI z105_, vI t, vI r42_]) (rest := []) (c_X12_isHeard l G cy ad d r98_ r53_ z103_ z105_ t r42_ M63_ hI66_ h56_) kV_X12_isHeard pnn_17 (Nat.le_of_ble_eq_true rfl) m_1663 rfl rfl rfl ic_12 rfl rfl (by decide) (Nat.le_of_ble_eq_true rfl) dX12_echo_216 (fun r107_ M108_ q109_ => ?_)
              obtain ⟨hI111_, hF112_, h110_, hs114_⟩ := q109_
              have hF113_ := hF68_.tr hF112_ (fun c k => (fun h => h.elim (fun h => (Or.inl ⟨h.1, h.2.1, h.2.2⟩)) (fun h => h.elim (fun h => (Or.inr (Or.inl ⟨h.1, h.2.1, h.2.2⟩))) (fun h => h.elim (fun h => (Or.inr (Or.inr (Or.inl ⟨h.1, h.2.1, h.2.2⟩)))) (fun h => h.elim (fun h => (Or.inr (Or.inr (Or.inr (Or.inl ⟨h.1, h.2.1, h.2.2⟩))))) (fun h => h.elim (fun h => (Or.inr (Or.inr (Or.inr (Or.inr (Or.inl ⟨h.1, h.2⟩)))))) (fun h => h.elim)))))))
              refine w_if_eq (tgt := 226) dX12_echo_219 (by decide) (rfl : r107_.toInt = r107_.toInt) (fun h115_ => ?_) (fun h115_ => ?_)
              · refine w_iconst (v := 0) dX12_echo_226 (by decide) ?_
                exact w_iret rfl dX12_echo_227 ⟨hI111_, hF113_, trivial, (Or.inl ⟨hs5_, h4_, (Or.inl ⟨hs11_, h10_, (Or.inl ⟨hs17_, h16_, (Or.inl ⟨hs23_, h22_, r25_, hs29_, h28_, z30_, h31_, j34_, h35_, z32_, e33_, h36_, r37_, hs41_, h40_, r42_, hs46_, h45_, (Or.inl ⟨h47_, r48_, hs52_, h51_, r53_, hs57_, h56_, z58_, h59_, z60_, h61_, M63_, hI66_, hF67_, r62_, hs69_, r70_, hs74_, h73_, z75_, h76_, j79_, h80_, z77_, e78_, h81_, (Or.inr (Or.inr (Or.inr (Or.inr (Or.inr ⟨e82_, r98_, hs102_, h101_, z103_, h104_, z105_, h106_, M108_, hI111_, hF112_, r107_, hs114_, h110_, (Or.inl ⟨h115_, rfl, rfl⟩)⟩)))))⟩)⟩)⟩)⟩)⟩)⟩
              · refine w_iconst (v := 1) dX12_echo_222 (by decide) ?_
                refine w_goto (tgt := 227) dX12_echo_223 (by decide) ?_
                exact w_iret rfl dX12_echo_227 ⟨hI111_, hF113_, trivial, (Or.inl ⟨hs5_, h4_, (Or.inl ⟨hs11_, h10_, (Or.inl ⟨hs17_, h16_, (Or.inl ⟨hs23_, h22_, r25_, hs29_, h28_, z30_, h31_, j34_, h35_, z32_, e33_, h36_, r37_, hs41_, h40_, r42_, hs46_, h45_, (Or.inl ⟨h47_, r48_, hs52_, h51_, r53_, hs57_, h56_, z58_, h59_, z60_, h61_, M63_, hI66_, hF67_, r62_, hs69_, r70_, hs74_, h73_, z75_, h76_, j79_, h80_, z77_, e78_, h81_, (Or.inr (Or.inr (Or.inr (Or.inr (Or.inr ⟨e82_, r98_, hs102_, h101_, z103_, h104_, z105_, h106_, M108_, hI111_, hF112_, r107_, hs114_, h110_, (Or.inr ⟨h115_, rfl, rfl⟩)⟩)))))⟩)⟩)⟩)⟩)⟩)⟩
          · refine w_aload_n dX12_echo_74 rfl 2 rfl ?_
            refine w_ldc (v := (-1000002)) m_1500 dX12_echo_75 ?_
            refine w_callV (as := [vI (-1000002)]) (rest := []) (c_X12_finding l G cy ad (d + 3) (-1000002) Mz hIz (by first | decide | (unfold vF; omega) | (unfold vRw; omega))) kV_X12_finding pnn_17 (Nat.le_of_ble_eq_true rfl) m_1434 rfl rfl rfl ic_12 rfl rfl (by decide) (Nat.le_of_ble_eq_true rfl) dX12_echo_77 (fun r116_ M117_ q118_ => ?_)
            obtain ⟨hI120_, hF121_, h119_, hs123_⟩ := q118_
            have hF122_ := hFz.tr hF121_ (fun c k => (fun h => h.elim (fun h => (Or.inr (Or.inr (Or.inr (Or.inr (Or.inr (Or.inl ⟨h.1, h.2⟩))))))) (fun h => h.elim)))
            simp only [li_m1000002] at h119_
            exact w_iret rfl dX12_echo_80 ⟨hI120_, hF122_, trivial, (Or.inl ⟨hs5_, h4_, (Or.inl ⟨hs11_, h10_, (Or.inl ⟨hs17_, h16_, (Or.inl ⟨hs23_, h22_, r25_, hs29_, h28_, z30_, h31_, j34_, h35_, z32_, e33_, h36_, r37_, hs41_, h40_, r42_, hs46_, h45_, (Or.inr ⟨h47_, M117_, hI120_, hF121_, r116_, hs123_, h119_, rfl, rfl⟩)⟩)⟩)⟩)⟩)⟩
        · simp only [li_0, li_5] at h22_
          refine w_if_ne (tgt := 41) dX12_echo_31 (by decide) li_0 (fun h9 => (absurd h9 (by decide))) (fun h124_ => ?_)
          refine w_aload_n dX12_echo_34 rfl 0 rfl ?_
          refine w_ldc (v := (-1000001)) m_1433 dX12_echo_35 ?_
          refine w_callV (as := [vI (-1000001)]) (rest := []) (c_X12_finding l G cy ad (d + 3) (-1000001) Mz hIz (by first | decide | (unfold vF; omega) | (unfold vRw; omega))) kV_X12_finding pnn_17 (Nat.le_of_ble_eq_true rfl) m_1434 rfl rfl rfl ic_12 rfl rfl (by decide) (Nat.le_of_ble_eq_true rfl) dX12_echo_37 (fun r125_ M126_ q127_ => ?_)
          obtain ⟨hI129_, hF130_, h128_, hs132_⟩ := q127_
          have hF131_ := hFz.tr hF130_ (fun c k => (fun h => h.elim (fun h => (Or.inr (Or.inr (Or.inr (Or.inr (Or.inr (Or.inl ⟨h.1, h.2⟩))))))) (fun h => h.elim)))
          simp only [li_m1000001] at h128_
          exact w_iret rfl dX12_echo_40 ⟨hI129_, hF131_, trivial, (Or.inl ⟨hs5_, h4_, (Or.inl ⟨hs11_, h10_, (Or.inl ⟨hs17_, h16_, (Or.inr ⟨hs23_, h22_, M126_, hI129_, hF130_, r125_, hs132_, h128_, rfl, rfl⟩)⟩)⟩)⟩)⟩
      · refine w_if_eq (tgt := 34) dX12_echo_21 (by decide) li_0 (fun h133_ => ?_) (fun h9 => (absurd h9 (by decide)))
        refine w_aload_n dX12_echo_34 rfl 0 rfl ?_
        refine w_ldc (v := (-1000001)) m_1433 dX12_echo_35 ?_
        refine w_callV (as := [vI (-1000001)]) (rest := []) (c_X12_finding l G cy ad (d + 3) (-1000001) Mz hIz (by first | decide | (unfold vF; omega) | (unfold vRw; omega))) kV_X12_finding pnn_17 (Nat.le_of_ble_eq_true rfl) m_1434 rfl rfl rfl ic_12 rfl rfl (by decide) (Nat.le_of_ble_eq_true rfl) dX12_echo_37 (fun r134_ M135_ q136_ => ?_)
        obtain ⟨hI138_, hF139_, h137_, hs141_⟩ := q136_
        have hF140_ := hFz.tr hF139_ (fun c k => (fun h => h.elim (fun h => (Or.inr (Or.inr (Or.inr (Or.inr (Or.inr (Or.inl ⟨h.1, h.2⟩))))))) (fun h => h.elim)))
        simp only [li_m1000001] at h137_
        exact w_iret rfl dX12_echo_40 ⟨hI138_, hF140_, trivial, (Or.inl ⟨hs5_, h4_, (Or.inl ⟨hs11_, h10_, (Or.inr ⟨hs17_, h16_, M135_, hI138_, hF139_, r134_, hs141_, h137_, rfl, rfl⟩)⟩)⟩)⟩
    · refine w_if_eq (tgt := 34) dX12_echo_14 (by decide) li_0 (fun h142_ => ?_) (fun h9 => (absurd h9 (by decide)))
      refine w_aload_n dX12_echo_34 rfl 0 rfl ?_
      refine w_ldc (v := (-1000001)) m_1433 dX12_echo_35 ?_
      refine w_callV (as := [vI (-1000001)]) (rest := []) (c_X12_finding l G cy ad (d + 3) (-1000001) Mz hIz (by first | decide | (unfold vF; omega) | (unfold vRw; omega))) kV_X12_finding pnn_17 (Nat.le_of_ble_eq_true rfl) m_1434 rfl rfl rfl ic_12 rfl rfl (by decide) (Nat.le_of_ble_eq_true rfl) dX12_echo_37 (fun r143_ M144_ q145_ => ?_)
      obtain ⟨hI147_, hF148_, h146_, hs150_⟩ := q145_
      have hF149_ := hFz.tr hF148_ (fun c k => (fun h => h.elim (fun h => (Or.inr (Or.inr (Or.inr (Or.inr (Or.inr (Or.inl ⟨h.1, h.2⟩))))))) (fun h => h.elim)))
      simp only [li_m1000001] at h146_
      exact w_iret rfl dX12_echo_40 ⟨hI147_, hF149_, trivial, (Or.inl ⟨hs5_, h4_, (Or.inr ⟨hs11_, M144_, hI147_, hF148_, r143_, hs150_, h146_, rfl, rfl⟩)⟩)⟩
  · refine w_if_eq (tgt := 34) dX12_echo_6 (by decide) li_0 (fun h151_ => ?_) (fun h9 => (absurd h9 (by decide)))
    refine w_aload_n dX12_echo_34 rfl 0 rfl ?_
    refine w_ldc (v := (-1000001)) m_1433 dX12_echo_35 ?_
    refine w_callV (as := [vI (-1000001)]) (rest := []) (c_X12_finding l G cy ad (d + 3) (-1000001) Mz hIz (by first | decide | (unfold vF; omega) | (unfold vRw; omega))) kV_X12_finding pnn_17 (Nat.le_of_ble_eq_true rfl) m_1434 rfl rfl rfl ic_12 rfl rfl (by decide) (Nat.le_of_ble_eq_true rfl) dX12_echo_37 (fun r152_ M153_ q154_ => ?_)
    obtain ⟨hI156_, hF157_, h155_, hs159_⟩ := q154_
    have hF158_ := hFz.tr hF157_ (fun c k => (fun h => h.elim (fun h => (Or.inr (Or.inr (Or.inr (Or.inr (Or.inr (Or.inl ⟨h.1, h.2⟩))))))) (fun h => h.elim)))
    simp only [li_m1000001] at h155_
    exact w_iret rfl dX12_echo_40 ⟨hI156_, hF158_, trivial, (Or.inr ⟨hs5_, M153_, hI156_, hF157_, r152_, hs159_, h155_, rfl, rfl⟩)⟩
def S_c_X12_more : rf → Nat → Prop := fun c k => (c.1 = 50 ∧ c.2.1 = 0) ∨ False
def SP_X12_more (v : Int32) (u : Int32) (Mz : mM) (M_ : mM) : Prop := ∃ j3_ : Nat, ((j3_ : Int) = v.toInt) ∧ ∃ z1_ : Int32, (z1_ = Mz.1 (50, 0, 0) j3_) ∧ ∃ z5_ : Int32, (z5_ = z1_ + u) ∧ ∃ z7_ : Int32, ((z7_.toInt = 99 ∧ 99 ≤ z5_.toInt) ∨ (z7_.toInt = z5_.toInt ∧ z5_.toInt ≤ 99)) ∧ ∃ j11_ : Nat, ((j11_ : Int) = v.toInt) ∧ ∃ M9_ : mM, (M9_ = up Mz (50, 0, 0) j11_ z7_) ∧ M_ = M9_
theorem lf_c_X12_more_0 (v : Int32) (hv : 494 ≤ v.toInt ∧ v.toInt ≤ 3566) : 0 ≤ v.toInt ∧ v.toInt < ((3567 : Nat) : Int) := by omega
theorem lf_c_X12_more_2 (M9_ : mM) (Mz : mM) (v : Int32) (j3_ : Nat) (z1_ : Int32) (z5_ : Int32) (z7_ : Int32) (j11_ : Nat) (hv : 494 ≤ v.toInt ∧ v.toInt ≤ 3566) (h4_ : (j3_ : Int) = v.toInt) (e2_ : z1_ = Mz.1 (50, 0, 0) j3_) (h8_ : (z7_.toInt = 99 ∧ 99 ≤ z5_.toInt) ∨ (z7_.toInt = z5_.toInt ∧ z5_.toInt ≤ 99)) (h12_ : (j11_ : Int) = v.toInt) (hM10_ : M9_ = up Mz (50, 0, 0) j11_ z7_) : PN j11_ z7_ ∧ (j11_ < 345 ∨ 493 < j11_) := by have r_v := rngI v; have r_z1_ := rngI z1_; have r_z5_ := rngI z5_; have r_z7_ := rngI z7_; subst e2_; unfold PN; omega
set_option maxHeartbeats 4000000 in
set_option maxRecDepth 100000 in
theorem c_X12_more (l : Launch) (G : va_G) (cy : Nat → ClassId) (ad : rf → Nat) (d : Nat) (v : Int32) (u : Int32) (Mz : mM) (hIz : InvD Mz) (hv : 494 ≤ v.toInt ∧ v.toInt ≤ 3566) : WP DD l G cy ad yX12_more cX12_more 3 none (d + 1) 0 [(0, vR (12, 0, 0)), (1, vI v), (2, vI u)] [] Mz (fun r M' => InvD M' ∧ FR (S_c_X12_more) Mz M' ∧ (True) ∧ SP_X12_more v u Mz M') := by
  have hFz : FR (S_c_X12_more) Mz Mz := FR.self
  refine w_aload_n dX12_more_0 rfl 0 rfl ?_
  refine w_getR (c' := (50, 0, 0)) fl_RX12_9 rfl rfl ic_12 dX12_more_1 rfl ?_
  refine w_iload_n dX12_more_4 rfl 1 rfl ?_
  refine w_bipush (v := 99) dX12_more_5 (by decide) ?_
  refine w_aload_n dX12_more_7 rfl 0 rfl ?_
  refine w_getR (c' := (50, 0, 0)) fl_RX12_9 rfl rfl ic_12 dX12_more_8 rfl ?_
  refine w_iload_n dX12_more_11 rfl 1 rfl ?_
  refine w_iald rfl rfl ic_50 (rfl : v.toInt = v.toInt) (lf_c_X12_more_0 v hv ) dX12_more_12 (fun j3_ h4_ z1_ e2_ => ?_)
  refine w_iload_n dX12_more_13 rfl 2 rfl ?_
  refine w_iadd dX12_more_14 (fun z5_ h6_ => ?_)
  refine w_min m_1655 m_770 m_86 m_771 li_99 (rfl : z5_.toInt = z5_.toInt) (Nat.le_of_ble_eq_true rfl) (by omega) dX12_more_15 (fun z7_ h8_ => ?_)
  refine w_iast DD_nd rfl rfl ic_50 (rfl : v.toInt = v.toInt) (lf_c_X12_more_0 v hv ) dX12_more_18 (fun j11_ h12_ M9_ hM10_ => ?_)
  have hI13_ := hIz.put50 hM10_ (lf_c_X12_more_2 M9_ Mz v j3_ z1_ z5_ z7_ j11_ hv h4_ e2_ h8_ h12_ hM10_ )
  have hF14_ := hFz.put hM10_ (Or.inl ⟨rfl, rfl⟩)
  exact w_vret rfl dX12_more_19 ⟨hI13_, hF14_, trivial, ⟨j3_, h4_, z1_, e2_, z5_, h6_, z7_, h8_, j11_, h12_, M9_, hM10_, rfl⟩⟩
def S_c_X12_heardFrom : rf → Nat → Prop := fun c k => (c.1 = 58 ∧ c.2.1 = 0 ∧ k = 0) ∨ (c.1 = 58 ∧ c.2.1 = 0 ∧ k = 1) ∨ (c.1 = 58 ∧ c.2.1 = 0 ∧ k = 2) ∨ (c.1 = 58 ∧ c.2.1 = 0 ∧ k = 3) ∨ (c.1 = 59 ∧ c.2.1 = 0) ∨ False
def SP_X12_heardFrom (v : Int32) (u : Int32) (t : Int32) (Mz : mM) (r_ : Int32) (M_ : mM) : Prop := ∃ r1_ : Int32, (SP_X12_reach v Mz r1_) ∧ (0 ≤ r1_.toInt ∧ r1_.toInt ≤ 12) ∧ ∃ r6_ : Int32, (SP_X12_echoFrom u t r1_ Mz r6_) ∧ (0 ≤ r6_.toInt ∧ r6_.toInt ≤ 12 ∧ upI u t r6_.toInt) ∧ ∃ r11_ : Int32, (SP_X12_goer v Mz r11_) ∧ (r11_.toInt = 180 + 9 * v.toInt) ∧ (((r6_.toInt ≤ 0) ∧ r_ = 0 ∧ M_ = Mz) ∨ ((0 < r6_.toInt) ∧ ∃ r18_ : Int32, (SP_X12_ears v Mz r18_) ∧ (0 ≤ r18_.toInt ∧ r18_.toInt ≤ 9) ∧ ∃ r23_ : Int32, (SP_X12_on u t r6_ Mz r23_) ∧ (onP u t r6_ r23_ ∧ -1 ≤ r23_.toInt ∧ r23_.toInt ≤ 191) ∧ ∃ r28_ : Int32, (SP_X12_kindIn r23_ Mz r28_) ∧ (0 ≤ r28_.toInt ∧ r28_.toInt ≤ 99) ∧ ∃ z33_ : Int32, (z33_.toInt = r11_.toInt + 3) ∧ ∃ j37_ : Nat, ((j37_ : Int) = z33_.toInt) ∧ ∃ z35_ : Int32, (z35_ = Mz.1 (50, 0, 0) j37_) ∧ ∃ z39_ : Int32, (z39_.toInt = r11_.toInt + 4) ∧ ∃ j43_ : Nat, ((j43_ : Int) = z39_.toInt) ∧ ∃ z41_ : Int32, (z41_ = Mz.1 (50, 0, 0) j43_) ∧ ∃ M46_ : mM, (InvD M46_) ∧ (FR (S_c_X12_isHeard) Mz M46_) ∧ ∃ r45_ : Int32, (SP_X12_isHeard r18_ r28_ z35_ z41_ t r6_ Mz r45_ M46_) ∧ ((0 ≤ r45_.toInt ∧ r45_.toInt ≤ 1)) ∧ (((r45_.toInt = 0) ∧ r_ = 0 ∧ M_ = M46_) ∨ ((¬ r45_.toInt = 0) ∧ r_ = r6_ ∧ M_ = M46_))))
theorem lf_c_X12_heardFrom_2 (v : Int32) (r11_ : Int32) (z33_ : Int32) (j37_ : Nat) (hv : 0 ≤ v.toInt ∧ v.toInt ≤ 7) (h14_ : r11_.toInt = 180 + 9 * v.toInt) (h34_ : z33_.toInt = r11_.toInt + 3) (h38_ : (j37_ : Int) = z33_.toInt) : -2147483648 ≤ r11_.toInt + 4 ∧ r11_.toInt + 4 < 2147483648 := by omega
set_option maxHeartbeats 4000000 in
set_option maxRecDepth 100000 in
theorem c_X12_heardFrom (l : Launch) (G : va_G) (cy : Nat → ClassId) (ad : rf → Nat) (d : Nat) (v : Int32) (u : Int32) (t : Int32) (Mz : mM) (hIz : InvD Mz) (hv : 0 ≤ v.toInt ∧ v.toInt ≤ 7) (ht : 0 ≤ t.toInt ∧ t.toInt ≤ 7) : WP DD l G cy ad yX12_heardFrom cX12_heardFrom 7 (some .int) (d + 4) 0 [(0, vR (12, 0, 0)), (1, vI v), (2, vI u), (3, vI t)] [] Mz (fun r M' => InvD M' ∧ FR (S_c_X12_heardFrom) Mz M' ∧ (0 ≤ r.toInt ∧ r.toInt ≤ 12 ∧ upI u t r.toInt) ∧ SP_X12_heardFrom v u t Mz r M') := by
  have hFz : FR (S_c_X12_heardFrom) Mz Mz := FR.self
  refine w_aload_n dX12_heardFrom_0 rfl 0 rfl ?_
  refine w_iload_n dX12_heardFrom_1 rfl 2 rfl ?_
  refine w_iload_n dX12_heardFrom_2 rfl 3 rfl ?_
  refine w_aload_n dX12_heardFrom_3 rfl 0 rfl ?_
  refine w_iload_n dX12_heardFrom_4 rfl 1 rfl ?_
  refine w_callV (as := [vI v]) (rest := [vI t, vI u, vR (12, 0, 0)]) (c_X12_reach l G cy ad d v Mz hIz hv) kV_X12_reach pnn_17 (Nat.le_of_ble_eq_true rfl) m_1513 rfl rfl rfl ic_12 rfl rfl (by decide) (Nat.le_of_ble_eq_true rfl) dX12_heardFrom_5 (fun r1_ M2_ q3_ => ?_)
  obtain ⟨rfl, h4_, hs5_⟩ := q3_
  refine w_callV (as := [vI u, vI t, vI r1_]) (rest := []) (c_X12_echoFrom l G cy ad d u t r1_ Mz hIz ht h4_) kV_X12_echoFrom pnn_17 (Nat.le_of_ble_eq_true rfl) m_1628 rfl rfl rfl ic_12 rfl rfl (by decide) (Nat.le_of_ble_eq_true rfl) dX12_heardFrom_8 (fun r6_ M7_ q8_ => ?_)
  obtain ⟨rfl, h9_, hs10_⟩ := q8_
  refine w_istore (ls' := [(4, vI r6_), (0, vR (12, 0, 0)), (1, vI v), (2, vI u), (3, vI t)]) dX12_heardFrom_11 (by decide) rfl ?_
  refine w_aload_n dX12_heardFrom_13 rfl 1 rfl ?_
  refine w_iload_n dX12_heardFrom_14 rfl 2 rfl ?_
  refine w_callV (as := [vI v]) (rest := []) (c_X12_goer l G cy ad (d + 3) v Mz hIz hv) kV_X12_goer pnn_17 (Nat.le_of_ble_eq_true rfl) m_1451 rfl rfl rfl ic_12 rfl rfl (by decide) (Nat.le_of_ble_eq_true rfl) dX12_heardFrom_15 (fun r11_ M12_ q13_ => ?_)
  obtain ⟨rfl, h14_, hs15_⟩ := q13_
  refine w_istore (ls' := [(5, vI r11_), (4, vI r6_), (0, vR (12, 0, 0)), (1, vI v), (2, vI u), (3, vI t)]) dX12_heardFrom_18 (by decide) rfl ?_
  refine w_iload dX12_heardFrom_20 1 rfl ?_
  refine w_if_le (tgt := 74) dX12_heardFrom_22 (by decide) (rfl : r6_.toInt = r6_.toInt) (fun h16_ => ?_) (fun h16_ => ?_)
  · refine w_iconst (v := 0) dX12_heardFrom_74 (by decide) ?_
    refine w_istore (ls' := [(6, vI 0), (5, vI r11_), (4, vI r6_), (0, vR (12, 0, 0)), (1, vI v), (2, vI u), (3, vI t)]) dX12_heardFrom_75 (by decide) rfl ?_
    refine w_iload dX12_heardFrom_77 0 rfl ?_
    refine w_if_eq (tgt := 87) dX12_heardFrom_79 (by decide) li_0 (fun h17_ => ?_) (fun h9 => (absurd h9 (by decide)))
    refine w_iconst (v := 0) dX12_heardFrom_87 (by decide) ?_
    exact w_iret rfl dX12_heardFrom_88 ⟨hIz, hFz, ⟨by decide, by decide, upI_0 (by decide)⟩, ⟨r1_, hs5_, h4_, r6_, hs10_, h9_, r11_, hs15_, h14_, (Or.inl ⟨h16_, rfl, rfl⟩)⟩⟩
  · refine w_aload_n dX12_heardFrom_25 rfl 2 rfl ?_
    refine w_aload_n dX12_heardFrom_26 rfl 2 rfl ?_
    refine w_iload_n dX12_heardFrom_27 rfl 3 rfl ?_
    refine w_callV (as := [vI v]) (rest := [vR (12, 0, 0)]) (c_X12_ears l G cy ad (d + 1) v Mz hIz hv) kV_X12_ears pnn_17 (Nat.le_of_ble_eq_true rfl) m_1524 rfl rfl rfl ic_12 rfl rfl (by decide) (Nat.le_of_ble_eq_true rfl) dX12_heardFrom_28 (fun r18_ M19_ q20_ => ?_)
    obtain ⟨rfl, h21_, hs22_⟩ := q20_
    refine w_aload_n dX12_heardFrom_31 rfl 2 rfl ?_
    refine w_aload_n dX12_heardFrom_32 rfl 2 rfl ?_
    refine w_iload_n dX12_heardFrom_33 rfl 4 rfl ?_
    refine w_iload_n dX12_heardFrom_34 rfl 5 rfl ?_
    refine w_iload dX12_heardFrom_35 1 rfl ?_
    refine w_callV (as := [vI u, vI t, vI r6_]) (rest := [vR (12, 0, 0), vI r18_, vR (12, 0, 0)]) (c_X12_on l G cy ad (d + 2) u t r6_ Mz hIz ht) kV_X12_on pnn_17 (Nat.le_of_ble_eq_true rfl) m_1632 rfl rfl rfl ic_12 rfl rfl (by decide) (Nat.le_of_ble_eq_true rfl) dX12_heardFrom_37 (fun r23_ M24_ q25_ => ?_)
    obtain ⟨rfl, h26_, hs27_⟩ := q25_
    refine w_callV (as := [vI r23_]) (rest := [vI r18_, vR (12, 0, 0)]) (c_X12_kindIn l G cy ad (d + 1) r23_ Mz hIz) kV_X12_kindIn pnn_17 (Nat.le_of_ble_eq_true rfl) m_1636 rfl rfl rfl ic_12 rfl rfl (by decide) (Nat.le_of_ble_eq_true rfl) dX12_heardFrom_40 (fun r28_ M29_ q30_ => ?_)
    obtain ⟨rfl, h31_, hs32_⟩ := q30_
    refine w_aload_n dX12_heardFrom_43 rfl 2 rfl ?_
    refine w_getR (c' := (50, 0, 0)) fl_RX12_9 rfl rfl ic_12 dX12_heardFrom_44 rfl ?_
    refine w_iload dX12_heardFrom_47 0 rfl ?_
    refine w_iconst (v := 3) dX12_heardFrom_49 (by decide) ?_
    refine w_iaddB dX12_heardFrom_50 (rfl : r11_.toInt = r11_.toInt) li_3 (lf_c_X12_habit_0 v r11_ hv h14_ ) (fun z33_ h34_ => ?_)
    refine w_iald rfl rfl ic_50 (rfl : z33_.toInt = z33_.toInt) (lf_c_X12_habit_1 v r11_ z33_ hv h14_ h34_ ) dX12_heardFrom_51 (fun j37_ h38_ z35_ e36_ => ?_)
    refine w_aload_n dX12_heardFrom_52 rfl 2 rfl ?_
    refine w_getR (c' := (50, 0, 0)) fl_RX12_9 rfl rfl ic_12 dX12_heardFrom_53 rfl ?_
    refine w_iload dX12_heardFrom_56 0 rfl ?_
    refine w_iconst (v := 4) dX12_heardFrom_58 (by decide) ?_
    refine w_iaddB dX12_heardFrom_59 (rfl : r11_.toInt = r11_.toInt) li_4 (lf_c_X12_heardFrom_2 v r11_ z33_ j37_ hv h14_ h34_ h38_ ) (fun z39_ h40_ => ?_)
    refine w_iald rfl rfl ic_50 (rfl : z39_.toInt = z39_.toInt) (lf_c_X12_habit_4 v r11_ z39_ hv h14_ h40_ ) dX12_heardFrom_60 (fun j43_ h44_ z41_ e42_ => ?_)
    refine w_iload_n dX12_heardFrom_61 rfl 5 rfl ?_
    refine w_iload dX12_heardFrom_62 1 rfl ?_
    refine w_callV (as := [vI r18_, vI r28_, vI z35_, vI z41_, vI t, vI r6_]) (rest := []) (c_X12_isHeard l G cy ad d r18_ r28_ z35_ z41_ t r6_ Mz hIz h31_) kV_X12_isHeard pnn_17 (Nat.le_of_ble_eq_true rfl) m_1663 rfl rfl rfl ic_12 rfl rfl (by decide) (Nat.le_of_ble_eq_true rfl) dX12_heardFrom_64 (fun r45_ M46_ q47_ => ?_)
    obtain ⟨hI49_, hF50_, h48_, hs52_⟩ := q47_
    have hF51_ := hFz.tr hF50_ (fun c k => (fun h => h.elim (fun h => (Or.inl ⟨h.1, h.2.1, h.2.2⟩)) (fun h => h.elim (fun h => (Or.inr (Or.inl ⟨h.1, h.2.1, h.2.2⟩))) (fun h => h.elim (fun h => (Or.inr (Or.inr (Or.inl ⟨h.1, h.2.1, h.2.2⟩)))) (fun h => h.elim (fun h => (Or.inr (Or.inr (Or.inr (Or.inl ⟨h.1, h.2.1, h.2.2⟩))))) (fun h => h.elim (fun h => (Or.inr (Or.inr (Or.inr (Or.inr (Or.inl ⟨h.1, h.2⟩)))))) (fun h => h.elim)))))))
    refine w_if_eq (tgt := 74) dX12_heardFrom_67 (by decide) (rfl : r45_.toInt = r45_.toInt) (fun h53_ => ?_) (fun h53_ => ?_)
    · refine w_iconst (v := 0) dX12_heardFrom_74 (by decide) ?_
      refine w_istore (ls' := [(6, vI 0), (5, vI r11_), (4, vI r6_), (0, vR (12, 0, 0)), (1, vI v), (2, vI u), (3, vI t)]) dX12_heardFrom_75 (by decide) rfl ?_
      refine w_iload dX12_heardFrom_77 0 rfl ?_
      refine w_if_eq (tgt := 87) dX12_heardFrom_79 (by decide) li_0 (fun h54_ => ?_) (fun h9 => (absurd h9 (by decide)))
      refine w_iconst (v := 0) dX12_heardFrom_87 (by decide) ?_
      exact w_iret rfl dX12_heardFrom_88 ⟨hI49_, hF51_, ⟨by decide, by decide, upI_0 (by decide)⟩, ⟨r1_, hs5_, h4_, r6_, hs10_, h9_, r11_, hs15_, h14_, (Or.inr ⟨h16_, r18_, hs22_, h21_, r23_, hs27_, h26_, r28_, hs32_, h31_, z33_, h34_, j37_, h38_, z35_, e36_, z39_, h40_, j43_, h44_, z41_, e42_, M46_, hI49_, hF50_, r45_, hs52_, h48_, (Or.inl ⟨h53_, rfl, rfl⟩)⟩)⟩⟩
    · refine w_iconst (v := 1) dX12_heardFrom_70 (by decide) ?_
      refine w_goto (tgt := 75) dX12_heardFrom_71 (by decide) ?_
      refine w_istore (ls' := [(6, vI 1), (5, vI r11_), (4, vI r6_), (0, vR (12, 0, 0)), (1, vI v), (2, vI u), (3, vI t)]) dX12_heardFrom_75 (by decide) rfl ?_
      refine w_iload dX12_heardFrom_77 0 rfl ?_
      refine w_if_eq (tgt := 87) dX12_heardFrom_79 (by decide) li_1 (fun h9 => (absurd h9 (by decide))) (fun h55_ => ?_)
      refine w_iload dX12_heardFrom_82 2 rfl ?_
      refine w_goto (tgt := 88) dX12_heardFrom_84 (by decide) ?_
      exact w_iret rfl dX12_heardFrom_88 ⟨hI49_, hF51_, h9_, ⟨r1_, hs5_, h4_, r6_, hs10_, h9_, r11_, hs15_, h14_, (Or.inr ⟨h16_, r18_, hs22_, h21_, r23_, hs27_, h26_, r28_, hs32_, h31_, z33_, h34_, j37_, h38_, z35_, e36_, z39_, h40_, j43_, h44_, z41_, e42_, M46_, hI49_, hF50_, r45_, hs52_, h48_, (Or.inr ⟨h53_, rfl, rfl⟩)⟩)⟩⟩
def S_c_X12_clicks : rf → Nat → Prop := fun c k => (c.1 = 50 ∧ c.2.1 = 0) ∨ (c.1 = 58 ∧ c.2.1 = 0 ∧ k = 0) ∨ (c.1 = 58 ∧ c.2.1 = 0 ∧ k = 1) ∨ (c.1 = 58 ∧ c.2.1 = 0 ∧ k = 2) ∨ (c.1 = 58 ∧ c.2.1 = 0 ∧ k = 3) ∨ (c.1 = 59 ∧ c.2.1 = 0) ∨ False
def ST_X12_clicks_55 (v : Int32) (Mz : mM) (z8_ : Int32) (v4_35 : Int32) (r34_ : Int32) (v6_55 : Int32) (M_55 : mM) (v6_55y : Int32) (M_55y : mM) : Prop := (1 ≤ v6_55.toInt) ∧ (InvD M_55) ∧ (FR (S_c_X12_clicks) Mz M_55) ∧ (v6_55.toInt < r34_.toInt) ∧ ∃ r68_ : Int32, (SP_X12_on z8_ v4_35 v6_55 M_55 r68_) ∧ (onP z8_ v4_35 v6_55 r68_ ∧ -1 ≤ r68_.toInt ∧ r68_.toInt ≤ 191) ∧ ∃ r73_ : Int32, (SP_X12_no v r68_ M_55 r73_) ∧ (r73_.toInt = 687 + 384 * v.toInt + r68_.toInt) ∧ ∃ M78_ : mM, (InvD M78_) ∧ (FR (S_c_X12_more) M_55 M78_) ∧ (SP_X12_more r73_ 1 M_55 M78_) ∧ ∃ z85_ : Int32, (z85_.toInt = v6_55.toInt + 1) ∧ v6_55y = z85_ ∧ M_55y = M78_
def ST_X12_clicks_35 (v : Int32) (Mz : mM) (z8_ : Int32) (v4_35 : Int32) (v3_35 : Int32) (M_35 : mM) (v4_35y : Int32) (v3_35y : Int32) (M_35y : mM) : Prop := (0 ≤ v4_35.toInt) ∧ (v4_35.toInt ≤ 8) ∧ (InvD M_35) ∧ (FR (S_c_X12_clicks) Mz M_35) ∧ (v4_35.toInt < 8) ∧ ∃ M35_ : mM, (InvD M35_) ∧ (FR (S_c_X12_heardFrom) M_35 M35_) ∧ ∃ r34_ : Int32, (SP_X12_heardFrom v z8_ v4_35 M_35 r34_ M35_) ∧ (0 ≤ r34_.toInt ∧ r34_.toInt ≤ 12 ∧ upI z8_ v4_35 r34_.toInt) ∧ ∃ v6_55 : Int32, (1 ≤ v6_55.toInt) ∧ ∃ M_55 : mM, (RCH (fun x_ y_ => ST_X12_clicks_55 v Mz z8_ v4_35 r34_ x_.1 x_.2 y_.1 y_.2) ((1 : Int32), M35_) (v6_55, M_55)) ∧ (InvD M_55) ∧ (FR (S_c_X12_clicks) Mz M_55) ∧ (r34_.toInt ≤ v6_55.toInt) ∧ (((r34_.toInt ≤ 0) ∧ ∃ z45_ : Int32, (z45_.toInt = v4_35.toInt + 1) ∧ v4_35y = z45_ ∧ v3_35y = v3_35 ∧ M_35y = M_55) ∨ ((0 < r34_.toInt) ∧ ∃ r47_ : Int32, (SP_X12_on z8_ v4_35 r34_ M_55 r47_) ∧ (onP z8_ v4_35 r34_ r47_ ∧ -1 ≤ r47_.toInt ∧ r47_.toInt ≤ 191) ∧ ∃ r52_ : Int32, (SP_X12_yes v r47_ M_55 r52_) ∧ (r52_.toInt = 495 + 384 * v.toInt + r47_.toInt) ∧ ∃ M57_ : mM, (InvD M57_) ∧ (FR (S_c_X12_more) M_55 M57_) ∧ (SP_X12_more r52_ 1 M_55 M57_) ∧ ∃ z64_ : Int32, (z64_ = v3_35 + Int32.ofInt 1) ∧ ∃ z66_ : Int32, (z66_.toInt = v4_35.toInt + 1) ∧ v4_35y = z66_ ∧ v3_35y = z64_ ∧ M_35y = M57_))
def SP_X12_clicks (v : Int32) (Mz : mM) (r_ : Int32) (M_ : mM) : Prop := ∃ r1_ : Int32, (SP_X12_goer v Mz r1_) ∧ (r1_.toInt = 180 + 9 * v.toInt) ∧ ∃ z6_ : Int32, (z6_.toInt = r1_.toInt + 1) ∧ ∃ j10_ : Nat, ((j10_ : Int) = z6_.toInt) ∧ ∃ z8_ : Int32, (z8_ = Mz.1 (50, 0, 0) j10_) ∧ (0 ≤ z8_.toInt ∧ z8_.toInt ≤ 191) ∧ ∃ r13_ : Int32, (SP_X12_goer v Mz r13_) ∧ (r13_.toInt = 180 + 9 * v.toInt) ∧ ∃ z18_ : Int32, (z18_.toInt = r13_.toInt + 8) ∧ ∃ j22_ : Nat, ((j22_ : Int) = z18_.toInt) ∧ ∃ z20_ : Int32, (z20_ = Mz.1 (50, 0, 0) j22_) ∧ ∃ z24_ : Int32, (z24_ = z20_ + (1 : Int32)) ∧ ∃ j28_ : Nat, ((j28_ : Int) = z18_.toInt) ∧ ∃ M26_ : mM, (M26_ = up Mz (50, 0, 0) j28_ z24_) ∧ ∃ v4_35 : Int32, (0 ≤ v4_35.toInt) ∧ (v4_35.toInt ≤ 8) ∧ ∃ v3_35 : Int32, ∃ M_35 : mM, (RCH (fun x_ y_ => ST_X12_clicks_35 v Mz z8_ x_.1 x_.2.1 x_.2.2 y_.1 y_.2.1 y_.2.2) ((0 : Int32), (0 : Int32), M26_) (v4_35, v3_35, M_35)) ∧ (InvD M_35) ∧ (FR (S_c_X12_clicks) Mz M_35) ∧ (8 ≤ v4_35.toInt) ∧ r_ = v3_35 ∧ M_ = M_35
theorem lf_c_X12_clicks_3 (v : Int32) (r1_ : Int32) (z6_ : Int32) (j10_ : Nat) (r13_ : Int32) (hv : 0 ≤ v.toInt ∧ v.toInt ≤ 7) (h4_ : r1_.toInt = 180 + 9 * v.toInt) (h7_ : z6_.toInt = r1_.toInt + 1) (h11_ : (j10_ : Int) = z6_.toInt) (h16_ : r13_.toInt = 180 + 9 * v.toInt) : -2147483648 ≤ r13_.toInt + 8 ∧ r13_.toInt + 8 < 2147483648 := by omega
theorem lf_c_X12_clicks_4 (v : Int32) (r13_ : Int32) (z18_ : Int32) (hv : 0 ≤ v.toInt ∧ v.toInt ≤ 7) (h16_ : r13_.toInt = 180 + 9 * v.toInt) (h19_ : z18_.toInt = r13_.toInt + 8) : 0 ≤ z18_.toInt ∧ z18_.toInt < ((3567 : Nat) : Int) := by omega
theorem lf_c_X12_clicks_6 (M26_ : mM) (Mz : mM) (v : Int32) (r1_ : Int32) (z6_ : Int32) (j10_ : Nat) (z8_ : Int32) (r13_ : Int32) (z18_ : Int32) (j22_ : Nat) (z20_ : Int32) (z24_ : Int32) (j28_ : Nat) (hv : 0 ≤ v.toInt ∧ v.toInt ≤ 7) (h4_ : r1_.toInt = 180 + 9 * v.toInt) (h7_ : z6_.toInt = r1_.toInt + 1) (h11_ : (j10_ : Int) = z6_.toInt) (e9_ : z8_ = Mz.1 (50, 0, 0) j10_) (h12_ : 0 ≤ z8_.toInt ∧ z8_.toInt ≤ 191) (h16_ : r13_.toInt = 180 + 9 * v.toInt) (h19_ : z18_.toInt = r13_.toInt + 8) (h23_ : (j22_ : Int) = z18_.toInt) (e21_ : z20_ = Mz.1 (50, 0, 0) j22_) (h29_ : (j28_ : Int) = z18_.toInt) (hM27_ : M26_ = up Mz (50, 0, 0) j28_ z24_) : PN j28_ z24_ ∧ (j28_ < 345 ∨ 493 < j28_) := by have r_v := rngI v; have r_r1_ := rngI r1_; have r_z6_ := rngI z6_; have r_z8_ := rngI z8_; have r_r13_ := rngI r13_; have r_z18_ := rngI z18_; have r_z20_ := rngI z20_; have r_z24_ := rngI z24_; subst e9_; subst e21_; unfold PN; omega
theorem lf_c_X12_clicks_13 (z8_ : Int32) (v4_35 : Int32) (r34_ : Int32) (r47_ : Int32) (h50_ : onP z8_ v4_35 r34_ r47_ ∧ -1 ≤ r47_.toInt ∧ r47_.toInt ≤ 191) : -1 ≤ r47_.toInt ∧ r47_.toInt ≤ 191 := by omega
theorem lf_c_X12_clicks_14 (v : Int32) (z8_ : Int32) (v4_35 : Int32) (r34_ : Int32) (r47_ : Int32) (r52_ : Int32) (hv : 0 ≤ v.toInt ∧ v.toInt ≤ 7) (h50_ : onP z8_ v4_35 r34_ r47_ ∧ -1 ≤ r47_.toInt ∧ r47_.toInt ≤ 191) (h55_ : r52_.toInt = 495 + 384 * v.toInt + r47_.toInt) : 494 ≤ r52_.toInt ∧ r52_.toInt ≤ 3566 := by omega
theorem lf_c_X12_clicks_21 (v : Int32) (z8_ : Int32) (v4_35 : Int32) (v6_55 : Int32) (r68_ : Int32) (r73_ : Int32) (hv : 0 ≤ v.toInt ∧ v.toInt ≤ 7) (h71_ : onP z8_ v4_35 v6_55 r68_ ∧ -1 ≤ r68_.toInt ∧ r68_.toInt ≤ 191) (h76_ : r73_.toInt = 687 + 384 * v.toInt + r68_.toInt) : 494 ≤ r73_.toInt ∧ r73_.toInt ≤ 3566 := by omega
theorem lf_c_X12_clicks_22 (z8_ : Int32) (v4_35 : Int32) (r34_ : Int32) (v6_55 : Int32) (h37_ : 0 ≤ r34_.toInt ∧ r34_.toInt ≤ 12 ∧ upI z8_ v4_35 r34_.toInt) (hv0_55 : 1 ≤ v6_55.toInt) (h43_ : v6_55.toInt < r34_.toInt) : -2147483648 ≤ v6_55.toInt + 1 ∧ v6_55.toInt + 1 < 2147483648 := by omega
theorem lf_c_X12_clicks_24 (z8_ : Int32) (v4_35 : Int32) (r34_ : Int32) (v6_55 : Int32) (z85_ : Int32) (h37_ : 0 ≤ r34_.toInt ∧ r34_.toInt ≤ 12 ∧ upI z8_ v4_35 r34_.toInt) (h43_ : v6_55.toInt < r34_.toInt) (h86_ : z85_.toInt = v6_55.toInt + 1) : (2147483648 - z85_.toInt).toNat < (2147483648 - v6_55.toInt).toNat := by omega
set_option maxHeartbeats 4000000 in
set_option maxRecDepth 100000 in
theorem c_X12_clicks (l : Launch) (G : va_G) (cy : Nat → ClassId) (ad : rf → Nat) (d : Nat) (v : Int32) (Mz : mM) (hIz : InvD Mz) (hv : 0 ≤ v.toInt ∧ v.toInt ≤ 7) : WP DD l G cy ad yX12_clicks cX12_clicks 7 (some .int) (d + 5) 0 [(0, vR (12, 0, 0)), (1, vI v)] [] Mz (fun r M' => InvD M' ∧ FR (S_c_X12_clicks) Mz M' ∧ (True) ∧ SP_X12_clicks v Mz r M') := by
  have hFz : FR (S_c_X12_clicks) Mz Mz := FR.self
  refine w_aload_n dX12_clicks_0 rfl 0 rfl ?_
  refine w_getR (c' := (50, 0, 0)) fl_RX12_9 rfl rfl ic_12 dX12_clicks_1 rfl ?_
  refine w_aload_n dX12_clicks_4 rfl 0 rfl ?_
  refine w_iload_n dX12_clicks_5 rfl 1 rfl ?_
  refine w_callV (as := [vI v]) (rest := [vR (50, 0, 0)]) (c_X12_goer l G cy ad (d + 4) v Mz hIz hv) kV_X12_goer pnn_17 (Nat.le_of_ble_eq_true rfl) m_1451 rfl rfl rfl ic_12 rfl rfl (by decide) (Nat.le_of_ble_eq_true rfl) dX12_clicks_6 (fun r1_ M2_ q3_ => ?_)
  obtain ⟨rfl, h4_, hs5_⟩ := q3_
  refine w_iconst (v := 1) dX12_clicks_9 (by decide) ?_
  refine w_iaddB dX12_clicks_10 (rfl : r1_.toInt = r1_.toInt) li_1 (lf_c_X12_echo_0 v r1_ hv h4_ ) (fun z6_ h7_ => ?_)
  refine w_iald rfl rfl ic_50 (rfl : z6_.toInt = z6_.toInt) (lf_c_X12_echo_1 v r1_ z6_ hv h4_ h7_ ) dX12_clicks_11 (fun j10_ h11_ z8_ e9_ => ?_)
  have h12_ : 0 ≤ z8_.toInt ∧ z8_.toInt ≤ 191 := pn_wc hIz e9_ (lf_c_X12_echo_2 Mz v r1_ z6_ j10_ z8_ hv h4_ h7_ h11_ e9_ )
  refine w_istore_n (ls' := [(2, vI z8_), (0, vR (12, 0, 0)), (1, vI v)]) dX12_clicks_12 rfl (by decide) rfl ?_
  refine w_iconst (v := 0) dX12_clicks_13 (by decide) ?_
  refine w_istore_n (ls' := [(3, vI 0), (2, vI z8_), (0, vR (12, 0, 0)), (1, vI v)]) dX12_clicks_14 rfl (by decide) rfl ?_
  refine w_aload_n dX12_clicks_15 rfl 2 rfl ?_
  refine w_getR (c' := (50, 0, 0)) fl_RX12_9 rfl rfl ic_12 dX12_clicks_16 rfl ?_
  refine w_aload_n dX12_clicks_19 rfl 2 rfl ?_
  refine w_iload_n dX12_clicks_20 rfl 3 rfl ?_
  refine w_callV (as := [vI v]) (rest := [vR (50, 0, 0)]) (c_X12_goer l G cy ad (d + 4) v Mz hIz hv) kV_X12_goer pnn_17 (Nat.le_of_ble_eq_true rfl) m_1451 rfl rfl rfl ic_12 rfl rfl (by decide) (Nat.le_of_ble_eq_true rfl) dX12_clicks_21 (fun r13_ M14_ q15_ => ?_)
  obtain ⟨rfl, h16_, hs17_⟩ := q15_
  refine w_bipush (v := 8) dX12_clicks_24 (by decide) ?_
  refine w_iaddB dX12_clicks_26 (rfl : r13_.toInt = r13_.toInt) li_8 (lf_c_X12_clicks_3 v r1_ z6_ j10_ r13_ hv h4_ h7_ h11_ h16_ ) (fun z18_ h19_ => ?_)
  refine w_dup2 dX12_clicks_27 rfl rfl ?_
  refine w_iald rfl rfl ic_50 (rfl : z18_.toInt = z18_.toInt) (lf_c_X12_clicks_4 v r13_ z18_ hv h16_ h19_ ) dX12_clicks_28 (fun j22_ h23_ z20_ e21_ => ?_)
  refine w_iconst (v := 1) dX12_clicks_29 (by decide) ?_
  refine w_iadd dX12_clicks_30 (fun z24_ h25_ => ?_)
  refine w_iast DD_nd rfl rfl ic_50 (rfl : z18_.toInt = z18_.toInt) (lf_c_X12_clicks_4 v r13_ z18_ hv h16_ h19_ ) dX12_clicks_31 (fun j28_ h29_ M26_ hM27_ => ?_)
  have hI30_ := hIz.put50 hM27_ (lf_c_X12_clicks_6 M26_ Mz v r1_ z6_ j10_ z8_ r13_ z18_ j22_ z20_ z24_ j28_ hv h4_ h7_ h11_ e9_ h12_ h16_ h19_ h23_ e21_ h29_ hM27_ )
  have hF31_ := hFz.put hM27_ (Or.inl ⟨rfl, rfl⟩)
  refine w_iconst (v := 0) dX12_clicks_32 (by decide) ?_
  refine w_istore (ls' := [(4, vI 0), (3, vI 0), (2, vI z8_), (0, vR (12, 0, 0)), (1, vI v)]) dX12_clicks_33 (by decide) rfl ?_
  have lp32_ : ∀ (nn_35 : Nat) (M_35 : mM) (hI_35 : InvD M_35) (hF_35 : FR (S_c_X12_clicks) Mz M_35) (v4_35 : Int32) (v3_35 : Int32) (hv0_35 : 0 ≤ v4_35.toInt) (hv1_35 : v4_35.toInt ≤ 8) (hL_35 : RCH (fun x_ y_ => ST_X12_clicks_35 v Mz z8_ x_.1 x_.2.1 x_.2.2 y_.1 y_.2.1 y_.2.2) ((0 : Int32), (0 : Int32), M26_) (v4_35, v3_35, M_35)), (2147483648 - v4_35.toInt).toNat < nn_35 → WP DD l G cy ad yX12_clicks cX12_clicks 7 (some .int) (d + 5) 35 [(4, vI v4_35), (3, vI v3_35), (2, vI z8_), (0, vR (12, 0, 0)), (1, vI v)] [] M_35 (fun r M' => InvD M' ∧ FR (S_c_X12_clicks) Mz M' ∧ (True) ∧ SP_X12_clicks v Mz r M') := by
    intro nn_35
    induction nn_35 with
    | zero => intro M_35 hI_35 hF_35 v4_35 v3_35 hv0_35 hv1_35 hL_35 hm_35; exact absurd hm_35 (Nat.not_lt_zero _)
    | succ nn_35 ih_35 =>
      intro M_35 hI_35 hF_35 v4_35 v3_35 hv0_35 hv1_35 hL_35 hm_35
      refine w_iload dX12_clicks_35 0 rfl ?_
      refine w_bipush (v := 8) dX12_clicks_37 (by decide) ?_
      refine w_icmp_ge (tgt := 120) dX12_clicks_39 (by decide) (rfl : v4_35.toInt = v4_35.toInt) li_8 (fun h33_ => ?_) (fun h33_ => ?_)
      · refine w_iload_n dX12_clicks_120 rfl 1 rfl ?_
        exact w_iret rfl dX12_clicks_121 ⟨hI_35, hF_35, trivial, ⟨r1_, hs5_, h4_, z6_, h7_, j10_, h11_, z8_, e9_, h12_, r13_, hs17_, h16_, z18_, h19_, j22_, h23_, z20_, e21_, z24_, h25_, j28_, h29_, M26_, hM27_, v4_35, hv0_35, hv1_35, v3_35, M_35, hL_35, hI_35, hF_35, h33_, rfl, rfl⟩⟩
      · refine w_aload_n dX12_clicks_42 rfl 3 rfl ?_
        refine w_iload_n dX12_clicks_43 rfl 4 rfl ?_
        refine w_iload_n dX12_clicks_44 rfl 2 rfl ?_
        refine w_iload dX12_clicks_45 0 rfl ?_
        refine w_callV (as := [vI v, vI z8_, vI v4_35]) (rest := []) (c_X12_heardFrom l G cy ad d v z8_ v4_35 M_35 hI_35 hv (lf_c_X7_isSide_2 v4_35 hv0_35 h33_ )) kV_X12_heardFrom pnn_17 (Nat.le_of_ble_eq_true rfl) m_1675 rfl rfl rfl ic_12 rfl rfl (by decide) (Nat.le_of_ble_eq_true rfl) dX12_clicks_47 (fun r34_ M35_ q36_ => ?_)
        obtain ⟨hI38_, hF39_, h37_, hs41_⟩ := q36_
        have hF40_ := hF_35.tr hF39_ (fun c k => (fun h => h.elim (fun h => (Or.inr (Or.inl ⟨h.1, h.2.1, h.2.2⟩))) (fun h => h.elim (fun h => (Or.inr (Or.inr (Or.inl ⟨h.1, h.2.1, h.2.2⟩)))) (fun h => h.elim (fun h => (Or.inr (Or.inr (Or.inr (Or.inl ⟨h.1, h.2.1, h.2.2⟩))))) (fun h => h.elim (fun h => (Or.inr (Or.inr (Or.inr (Or.inr (Or.inl ⟨h.1, h.2.1, h.2.2⟩)))))) (fun h => h.elim (fun h => (Or.inr (Or.inr (Or.inr (Or.inr (Or.inr (Or.inl ⟨h.1, h.2⟩))))))) (fun h => h.elim)))))))
        refine w_istore (ls' := [(5, vI r34_), (4, vI v4_35), (3, vI v3_35), (2, vI z8_), (0, vR (12, 0, 0)), (1, vI v)]) dX12_clicks_50 (by decide) rfl ?_
        refine w_iconst (v := 1) dX12_clicks_52 (by decide) ?_
        refine w_istore (ls' := [(6, vI 1), (5, vI r34_), (4, vI v4_35), (3, vI v3_35), (2, vI z8_), (0, vR (12, 0, 0)), (1, vI v)]) dX12_clicks_53 (by decide) rfl ?_
        have lp42_ : ∀ (nn_55 : Nat) (M_55 : mM) (hI_55 : InvD M_55) (hF_55 : FR (S_c_X12_clicks) Mz M_55) (v6_55 : Int32) (hv0_55 : 1 ≤ v6_55.toInt) (hL_55 : RCH (fun x_ y_ => ST_X12_clicks_55 v Mz z8_ v4_35 r34_ x_.1 x_.2 y_.1 y_.2) ((1 : Int32), M35_) (v6_55, M_55)), (2147483648 - v6_55.toInt).toNat < nn_55 → WP DD l G cy ad yX12_clicks cX12_clicks 7 (some .int) (d + 5) 55 [(6, vI v6_55), (5, vI r34_), (4, vI v4_35), (3, vI v3_35), (2, vI z8_), (0, vR (12, 0, 0)), (1, vI v)] [] M_55 (fun r M' => InvD M' ∧ FR (S_c_X12_clicks) Mz M' ∧ (True) ∧ SP_X12_clicks v Mz r M') := by
          intro nn_55
          induction nn_55 with
          | zero => intro M_55 hI_55 hF_55 v6_55 hv0_55 hL_55 hm_55; exact absurd hm_55 (Nat.not_lt_zero _)
          | succ nn_55 ih_55 =>
            intro M_55 hI_55 hF_55 v6_55 hv0_55 hL_55 hm_55
            refine w_iload dX12_clicks_55 0 rfl ?_
            refine w_iload dX12_clicks_57 1 rfl ?_
            refine w_icmp_ge (tgt := 87) dX12_clicks_59 (by decide) (rfl : v6_55.toInt = v6_55.toInt) (rfl : r34_.toInt = r34_.toInt) (fun h43_ => ?_) (fun h43_ => ?_)
            · refine w_iload dX12_clicks_87 1 rfl ?_
              refine w_if_le (tgt := 114) dX12_clicks_89 (by decide) (rfl : r34_.toInt = r34_.toInt) (fun h44_ => ?_) (fun h44_ => ?_)
              · refine w_iincB (j := 2) (f := fun z45_ => [(4, vI z45_), (6, vI v6_55), (5, vI r34_), (3, vI v3_35), (2, vI z8_), (0, vR (12, 0, 0)), (1, vI v)]) dX12_clicks_114 rfl (by decide) (fun _ => rfl) (rfl : v4_35.toInt = v4_35.toInt) li_1 (lf_c_X9_isOf_0 v4_35 hv0_35 h33_ ) (fun z45_ h46_ => ?_)
                refine w_goto (tgt := 35) dX12_clicks_117 (by decide) ?_
                refine w_loc (ls' := [(4, vI z45_), (3, vI v3_35), (2, vI z8_), (0, vR (12, 0, 0)), (1, vI v)]) [0, 3, 4, 5, 6] rfl ?_
                exact ih_35 M_55 hI_55 hF_55 z45_ v3_35 (lf_c_X5_takeFrom_3 v4_35 z45_ hv0_35 h46_ ) (lf_c_X9_isOf_2 v4_35 z45_ h33_ h46_ ) (RCH.tail hL_35 ⟨hv0_35, hv1_35, hI_35, hF_35, h33_, M35_, hI38_, hF39_, r34_, hs41_, h37_, v6_55, hv0_55, M_55, hL_55, hI_55, hF_55, h43_, (Or.inl ⟨h44_, z45_, h46_, rfl, rfl, rfl⟩)⟩) (Nat.lt_of_lt_of_le (lf_c_X9_isOf_3 v4_35 z45_ h33_ h46_ ) (Nat.le_of_lt_succ hm_35))
              · refine w_aload_n dX12_clicks_92 rfl 5 rfl ?_
                refine w_aload_n dX12_clicks_93 rfl 5 rfl ?_
                refine w_iload_n dX12_clicks_94 rfl 6 rfl ?_
                refine w_aload_n dX12_clicks_95 rfl 5 rfl ?_
                refine w_iload_n dX12_clicks_96 rfl 4 rfl ?_
                refine w_iload dX12_clicks_97 2 rfl ?_
                refine w_iload dX12_clicks_99 1 rfl ?_
                refine w_callV (as := [vI z8_, vI v4_35, vI r34_]) (rest := [vI v, vR (12, 0, 0), vR (12, 0, 0)]) (c_X12_on l G cy ad (d + 3) z8_ v4_35 r34_ M_55 hI_55 (lf_c_X7_isSide_2 v4_35 hv0_35 h33_ )) kV_X12_on pnn_17 (Nat.le_of_ble_eq_true rfl) m_1632 rfl rfl rfl ic_12 rfl rfl (by decide) (Nat.le_of_ble_eq_true rfl) dX12_clicks_101 (fun r47_ M48_ q49_ => ?_)
                obtain ⟨rfl, h50_, hs51_⟩ := q49_
                refine w_callV (as := [vI v, vI r47_]) (rest := [vR (12, 0, 0)]) (c_X12_yes l G cy ad (d + 4) v r47_ M_55 hI_55 hv (lf_c_X12_clicks_13 z8_ v4_35 r34_ r47_ h50_ )) kV_X12_yes pnn_17 (Nat.le_of_ble_eq_true rfl) m_1683 rfl rfl rfl ic_12 rfl rfl (by decide) (Nat.le_of_ble_eq_true rfl) dX12_clicks_104 (fun r52_ M53_ q54_ => ?_)
                obtain ⟨rfl, h55_, hs56_⟩ := q54_
                refine w_iconst (v := 1) dX12_clicks_107 (by decide) ?_
                refine w_callVv (as := [vI r52_, vI 1]) (rest := []) (c_X12_more l G cy ad (d + 3) r52_ 1 M_55 hI_55 (lf_c_X12_clicks_14 v z8_ v4_35 r34_ r47_ r52_ hv h50_ h55_ )) kV_X12_more pnn_17 (Nat.le_of_ble_eq_true rfl) m_1687 rfl rfl rfl ic_12 rfl rfl (by decide) (Nat.le_of_ble_eq_true rfl) dX12_clicks_108 (fun M57_ q58_ => ?_)
                obtain ⟨hI60_, hF61_, h59_, hs63_⟩ := q58_
                have hF62_ := hF_55.tr hF61_ (fun c k => (fun h => h.elim (fun h => (Or.inl ⟨h.1, h.2⟩)) (fun h => h.elim)))
                refine w_iincX (j := 3) (f := fun z64_ => [(3, vI z64_), (6, vI v6_55), (5, vI r34_), (4, vI v4_35), (2, vI z8_), (0, vR (12, 0, 0)), (1, vI v)]) dX12_clicks_111 rfl (by decide) (fun _ => rfl) (fun z64_ h65_ => ?_)
                refine w_iincB (j := 3) (f := fun z66_ => [(4, vI z66_), (3, vI z64_), (6, vI v6_55), (5, vI r34_), (2, vI z8_), (0, vR (12, 0, 0)), (1, vI v)]) dX12_clicks_114 rfl (by decide) (fun _ => rfl) (rfl : v4_35.toInt = v4_35.toInt) li_1 (lf_c_X9_isOf_0 v4_35 hv0_35 h33_ ) (fun z66_ h67_ => ?_)
                refine w_goto (tgt := 35) dX12_clicks_117 (by decide) ?_
                refine w_loc (ls' := [(4, vI z66_), (3, vI z64_), (2, vI z8_), (0, vR (12, 0, 0)), (1, vI v)]) [0, 1, 4, 5, 6] rfl ?_
                exact ih_35 M57_ hI60_ hF62_ z66_ z64_ (lf_c_X5_takeFrom_3 v4_35 z66_ hv0_35 h67_ ) (lf_c_X9_isOf_2 v4_35 z66_ h33_ h67_ ) (RCH.tail hL_35 ⟨hv0_35, hv1_35, hI_35, hF_35, h33_, M35_, hI38_, hF39_, r34_, hs41_, h37_, v6_55, hv0_55, M_55, hL_55, hI_55, hF_55, h43_, (Or.inr ⟨h44_, r47_, hs51_, h50_, r52_, hs56_, h55_, M57_, hI60_, hF61_, hs63_, z64_, h65_, z66_, h67_, rfl, rfl, rfl⟩)⟩) (Nat.lt_of_lt_of_le (lf_c_X9_isOf_3 v4_35 z66_ h33_ h67_ ) (Nat.le_of_lt_succ hm_35))
            · refine w_aload_n dX12_clicks_62 rfl 5 rfl ?_
              refine w_aload_n dX12_clicks_63 rfl 5 rfl ?_
              refine w_iload_n dX12_clicks_64 rfl 6 rfl ?_
              refine w_aload_n dX12_clicks_65 rfl 5 rfl ?_
              refine w_iload_n dX12_clicks_66 rfl 4 rfl ?_
              refine w_iload dX12_clicks_67 2 rfl ?_
              refine w_iload dX12_clicks_69 0 rfl ?_
              refine w_callV (as := [vI z8_, vI v4_35, vI v6_55]) (rest := [vI v, vR (12, 0, 0), vR (12, 0, 0)]) (c_X12_on l G cy ad (d + 3) z8_ v4_35 v6_55 M_55 hI_55 (lf_c_X7_isSide_2 v4_35 hv0_35 h33_ )) kV_X12_on pnn_17 (Nat.le_of_ble_eq_true rfl) m_1632 rfl rfl rfl ic_12 rfl rfl (by decide) (Nat.le_of_ble_eq_true rfl) dX12_clicks_71 (fun r68_ M69_ q70_ => ?_)
              obtain ⟨rfl, h71_, hs72_⟩ := q70_
              refine w_callV (as := [vI v, vI r68_]) (rest := [vR (12, 0, 0)]) (c_X12_no l G cy ad (d + 3) v r68_ M_55 hI_55 hv (lf_c_X12_clicks_13 z8_ v4_35 v6_55 r68_ h71_ )) kV_X12_no pnn_17 (Nat.le_of_ble_eq_true rfl) m_1679 rfl rfl rfl ic_12 rfl rfl (by decide) (Nat.le_of_ble_eq_true rfl) dX12_clicks_74 (fun r73_ M74_ q75_ => ?_)
              obtain ⟨rfl, h76_, hs77_⟩ := q75_
              refine w_iconst (v := 1) dX12_clicks_77 (by decide) ?_
              refine w_callVv (as := [vI r73_, vI 1]) (rest := []) (c_X12_more l G cy ad (d + 3) r73_ 1 M_55 hI_55 (lf_c_X12_clicks_21 v z8_ v4_35 v6_55 r68_ r73_ hv h71_ h76_ )) kV_X12_more pnn_17 (Nat.le_of_ble_eq_true rfl) m_1687 rfl rfl rfl ic_12 rfl rfl (by decide) (Nat.le_of_ble_eq_true rfl) dX12_clicks_78 (fun M78_ q79_ => ?_)
              obtain ⟨hI81_, hF82_, h80_, hs84_⟩ := q79_
              have hF83_ := hF_55.tr hF82_ (fun c k => (fun h => h.elim (fun h => (Or.inl ⟨h.1, h.2⟩)) (fun h => h.elim)))
              refine w_iincB (j := 0) (f := fun z85_ => [(6, vI z85_), (5, vI r34_), (4, vI v4_35), (3, vI v3_35), (2, vI z8_), (0, vR (12, 0, 0)), (1, vI v)]) dX12_clicks_81 rfl (by decide) (fun _ => rfl) (rfl : v6_55.toInt = v6_55.toInt) li_1 (lf_c_X12_clicks_22 z8_ v4_35 r34_ v6_55 h37_ hv0_55 h43_ ) (fun z85_ h86_ => ?_)
              refine w_goto (tgt := 55) dX12_clicks_84 (by decide) ?_
              refine w_loc (ls' := [(6, vI z85_), (5, vI r34_), (4, vI v4_35), (3, vI v3_35), (2, vI z8_), (0, vR (12, 0, 0)), (1, vI v)]) [0, 1, 2, 3, 4, 5, 6] rfl ?_
              exact ih_55 M78_ hI81_ hF83_ z85_ (lf_c_X9_yardsToFull_1 v6_55 z85_ hv0_55 h86_ ) (RCH.tail hL_55 ⟨hv0_55, hI_55, hF_55, h43_, r68_, hs72_, h71_, r73_, hs77_, h76_, M78_, hI81_, hF82_, hs84_, z85_, h86_, rfl, rfl⟩) (Nat.lt_of_lt_of_le (lf_c_X12_clicks_24 z8_ v4_35 r34_ v6_55 z85_ h37_ h43_ h86_ ) (Nat.le_of_lt_succ hm_55))
        exact lp42_ _ M35_ hI38_ hF40_ 1 (lf_c_X9_yardsToFull_4 ) RCH.refl (Nat.lt_succ_self _)
  exact lp32_ _ M26_ hI30_ hF31_ 0 0 (lf_c_X5_takeFrom_5 ) (lf_c_X9_isOf_5 ) RCH.refl (Nat.lt_succ_self _)
def S_c_X12_click : rf → Nat → Prop := fun c k => (c.1 = 53 ∧ c.2.1 = 0) ∨ (c.1 = 50 ∧ c.2.1 = 0) ∨ (c.1 = 58 ∧ c.2.1 = 0 ∧ k = 0) ∨ (c.1 = 58 ∧ c.2.1 = 0 ∧ k = 1) ∨ (c.1 = 58 ∧ c.2.1 = 0 ∧ k = 2) ∨ (c.1 = 58 ∧ c.2.1 = 0 ∧ k = 3) ∨ (c.1 = 59 ∧ c.2.1 = 0) ∨ False
def SP_X12_click (v : Int32) (Mz : mM) (r_ : Int32) (M_ : mM) : Prop := (((SP_is2 v Mz (1 : Int32)) ∧ (0 ≤ v.toInt ∧ v.toInt ≤ 7) ∧ ∃ r7_ : Int32, (SP_X12_kindOf v Mz r7_) ∧ (0 ≤ r7_.toInt ∧ r7_.toInt ≤ 7) ∧ ∃ r12_ : Int32, (SP_X12_isUnder r7_ 1 Mz r12_) ∧ ((0 ≤ r12_.toInt ∧ r12_.toInt ≤ 1)) ∧ (((r12_.toInt = 0) ∧ ∃ M19_ : mM, (InvD M19_) ∧ (FR (S_c_X12_finding) Mz M19_) ∧ ∃ r18_ : Int32, (SP_X12_finding (-1000005) Mz r18_ M19_) ∧ (r18_.toInt = (-1000005)) ∧ r_ = r18_ ∧ M_ = M19_) ∨ ((¬ r12_.toInt = 0) ∧ ∃ M27_ : mM, (InvD M27_) ∧ (FR (S_c_X12_clicks) Mz M27_) ∧ ∃ r26_ : Int32, (SP_X12_clicks v Mz r26_ M27_) ∧ r_ = r26_ ∧ M_ = M27_))) ∨ ((SP_is2 v Mz (0 : Int32)) ∧ ∃ M36_ : mM, (InvD M36_) ∧ (FR (S_c_X12_finding) Mz M36_) ∧ ∃ r35_ : Int32, (SP_X12_finding (-1000001) Mz r35_ M36_) ∧ (r35_.toInt = (-1000001)) ∧ r_ = r35_ ∧ M_ = M36_))
set_option maxHeartbeats 4000000 in
set_option maxRecDepth 100000 in
theorem c_X12_click (l : Launch) (G : va_G) (cy : Nat → ClassId) (ad : rf → Nat) (d : Nat) (v : Int32) (Mz : mM) (hIz : InvD Mz) : WP DD l G cy ad yX12_click cX12_click 2 (some .int) (d + 6) 0 [(0, vR (12, 0, 0)), (1, vI v)] [] Mz (fun r M' => InvD M' ∧ FR (S_c_X12_click) Mz M' ∧ (True) ∧ SP_X12_click v Mz r M') := by
  have hFz : FR (S_c_X12_click) Mz Mz := FR.self
  refine w_aload_n dX12_click_0 rfl 0 rfl ?_
  refine w_iload_n dX12_click_1 rfl 1 rfl ?_
  refine w_iconst (v := 2) dX12_click_2 (by decide) ?_
  refine w_callV (as := [vI v, vI 2]) (rest := []) (c_is2 l G cy ad (d + 4) v Mz hIz) kV_X12_is pnn_17 (Nat.le_of_ble_eq_true rfl) m_1465 rfl rfl rfl ic_12 rfl rfl (by decide) (Nat.le_of_ble_eq_true rfl) dX12_click_3 (fun r1_ M2_ q3_ => ?_)
  obtain ⟨rfl, h4_, hs5_⟩ := q3_
  rcases h4_ with ⟨rfl, h4_⟩ | rfl
  · refine w_if_ne (tgt := 16) dX12_click_6 (by decide) li_1 (fun h6_ => ?_) (fun h9 => (absurd h9 (by decide)))
    refine w_aload_n dX12_click_16 rfl 0 rfl ?_
    refine w_iload_n dX12_click_17 rfl 1 rfl ?_
    refine w_callV (as := [vI v]) (rest := []) (c_X12_kindOf l G cy ad (d + 4) v Mz hIz h4_) kV_X12_kindOf pnn_17 (Nat.le_of_ble_eq_true rfl) m_1517 rfl rfl rfl ic_12 rfl rfl (by decide) (Nat.le_of_ble_eq_true rfl) dX12_click_18 (fun r7_ M8_ q9_ => ?_)
    obtain ⟨rfl, h10_, hs11_⟩ := q9_
    refine w_iconst (v := 1) dX12_click_21 (by decide) ?_
    refine w_callS (as := [vI r7_, vI 1]) (rest := []) (c_X12_isUnder l G cy ad (d + 4) r7_ 1 Mz hIz) kS_X12_isUnder pnn_17 (Nat.le_of_ble_eq_true rfl) m_1532 rfl rfl (by decide) (Nat.le_of_ble_eq_true rfl) dX12_click_22 (fun r12_ M13_ q14_ => ?_)
    obtain ⟨rfl, h15_, hs16_⟩ := q14_
    refine w_if_eq (tgt := 36) dX12_click_25 (by decide) (rfl : r12_.toInt = r12_.toInt) (fun h17_ => ?_) (fun h17_ => ?_)
    · refine w_aload_n dX12_click_36 rfl 0 rfl ?_
      refine w_ldc (v := (-1000005)) m_1476 dX12_click_37 ?_
      refine w_callV (as := [vI (-1000005)]) (rest := []) (c_X12_finding l G cy ad (d + 5) (-1000005) Mz hIz (by first | decide | (unfold vF; omega) | (unfold vRw; omega))) kV_X12_finding pnn_17 (Nat.le_of_ble_eq_true rfl) m_1434 rfl rfl rfl ic_12 rfl rfl (by decide) (Nat.le_of_ble_eq_true rfl) dX12_click_39 (fun r18_ M19_ q20_ => ?_)
      obtain ⟨hI22_, hF23_, h21_, hs25_⟩ := q20_
      have hF24_ := hFz.tr hF23_ (fun c k => (fun h => h.elim (fun h => (Or.inl ⟨h.1, h.2⟩)) (fun h => h.elim)))
      simp only [li_m1000005] at h21_
      exact w_iret rfl dX12_click_42 ⟨hI22_, hF24_, trivial, (Or.inl ⟨hs5_, h4_, r7_, hs11_, h10_, r12_, hs16_, h15_, (Or.inl ⟨h17_, M19_, hI22_, hF23_, r18_, hs25_, h21_, rfl, rfl⟩)⟩)⟩
    · refine w_aload_n dX12_click_28 rfl 0 rfl ?_
      refine w_iload_n dX12_click_29 rfl 1 rfl ?_
      refine w_callV (as := [vI v]) (rest := []) (c_X12_clicks l G cy ad d v Mz hIz h4_) kV_X12_clicks pnn_17 (Nat.le_of_ble_eq_true rfl) m_1671 rfl rfl rfl ic_12 rfl rfl (by decide) (Nat.le_of_ble_eq_true rfl) dX12_click_30 (fun r26_ M27_ q28_ => ?_)
      obtain ⟨hI30_, hF31_, h29_, hs33_⟩ := q28_
      have hF32_ := hFz.tr hF31_ (fun c k => (fun h => h.elim (fun h => (Or.inr (Or.inl ⟨h.1, h.2⟩))) (fun h => h.elim (fun h => (Or.inr (Or.inr (Or.inl ⟨h.1, h.2.1, h.2.2⟩)))) (fun h => h.elim (fun h => (Or.inr (Or.inr (Or.inr (Or.inl ⟨h.1, h.2.1, h.2.2⟩))))) (fun h => h.elim (fun h => (Or.inr (Or.inr (Or.inr (Or.inr (Or.inl ⟨h.1, h.2.1, h.2.2⟩)))))) (fun h => h.elim (fun h => (Or.inr (Or.inr (Or.inr (Or.inr (Or.inr (Or.inl ⟨h.1, h.2.1, h.2.2⟩))))))) (fun h => h.elim (fun h => (Or.inr (Or.inr (Or.inr (Or.inr (Or.inr (Or.inr (Or.inl ⟨h.1, h.2⟩)))))))) (fun h => h.elim))))))))
      refine w_goto (tgt := 42) dX12_click_33 (by decide) ?_
      exact w_iret rfl dX12_click_42 ⟨hI30_, hF32_, trivial, (Or.inl ⟨hs5_, h4_, r7_, hs11_, h10_, r12_, hs16_, h15_, (Or.inr ⟨h17_, M27_, hI30_, hF31_, r26_, hs33_, rfl, rfl⟩)⟩)⟩
  · refine w_if_ne (tgt := 16) dX12_click_6 (by decide) li_0 (fun h9 => (absurd h9 (by decide))) (fun h34_ => ?_)
    refine w_aload_n dX12_click_9 rfl 0 rfl ?_
    refine w_ldc (v := (-1000001)) m_1433 dX12_click_10 ?_
    refine w_callV (as := [vI (-1000001)]) (rest := []) (c_X12_finding l G cy ad (d + 5) (-1000001) Mz hIz (by first | decide | (unfold vF; omega) | (unfold vRw; omega))) kV_X12_finding pnn_17 (Nat.le_of_ble_eq_true rfl) m_1434 rfl rfl rfl ic_12 rfl rfl (by decide) (Nat.le_of_ble_eq_true rfl) dX12_click_12 (fun r35_ M36_ q37_ => ?_)
    obtain ⟨hI39_, hF40_, h38_, hs42_⟩ := q37_
    have hF41_ := hFz.tr hF40_ (fun c k => (fun h => h.elim (fun h => (Or.inl ⟨h.1, h.2⟩)) (fun h => h.elim)))
    simp only [li_m1000001] at h38_
    exact w_iret rfl dX12_click_15 ⟨hI39_, hF41_, trivial, (Or.inr ⟨hs5_, M36_, hI39_, hF40_, r35_, hs42_, h38_, rfl, rfl⟩)⟩
def SP_X12_held (v : Int32) (u : Int32) (Mz : mM) (r_ : Int32) : Prop := ∃ r1_ : Int32, (SP_X12_yes v u Mz r1_) ∧ (r1_.toInt = 495 + 384 * v.toInt + u.toInt) ∧ ∃ j8_ : Nat, ((j8_ : Int) = r1_.toInt) ∧ ∃ z6_ : Int32, (z6_ = Mz.1 (50, 0, 0) j8_) ∧ ∃ r10_ : Int32, (SP_X12_no v u Mz r10_) ∧ (r10_.toInt = 687 + 384 * v.toInt + u.toInt) ∧ ∃ j17_ : Nat, ((j17_ : Int) = r10_.toInt) ∧ ∃ z15_ : Int32, (z15_ = Mz.1 (50, 0, 0) j17_) ∧ (((z6_.toInt ≤ z15_.toInt) ∧ (((z15_.toInt ≤ z6_.toInt) ∧ r_ = 0) ∨ ((z6_.toInt < z15_.toInt) ∧ r_ = 1))) ∨ ((z15_.toInt < z6_.toInt) ∧ r_ = 2))
theorem lf_c_X12_held_0 (v : Int32) (u : Int32) (r1_ : Int32) (hv : 0 ≤ v.toInt ∧ v.toInt ≤ 7) (hu : -1 ≤ u.toInt ∧ u.toInt ≤ 191) (h4_ : r1_.toInt = 495 + 384 * v.toInt + u.toInt) : 0 ≤ r1_.toInt ∧ r1_.toInt < ((3567 : Nat) : Int) := by omega
theorem lf_c_X12_held_1 (v : Int32) (u : Int32) (r1_ : Int32) (j8_ : Nat) (r10_ : Int32) (hv : 0 ≤ v.toInt ∧ v.toInt ≤ 7) (hu : -1 ≤ u.toInt ∧ u.toInt ≤ 191) (h4_ : r1_.toInt = 495 + 384 * v.toInt + u.toInt) (h9_ : (j8_ : Int) = r1_.toInt) (h13_ : r10_.toInt = 687 + 384 * v.toInt + u.toInt) : 0 ≤ r10_.toInt ∧ r10_.toInt < ((3567 : Nat) : Int) := by omega
theorem lf_c_X12_held_3 : 0 ≤ (1 : Int32).toInt ∧ (1 : Int32).toInt ≤ 2 := by have r9 := li_1; omega
theorem lf_c_X12_held_4 : 0 ≤ (2 : Int32).toInt ∧ (2 : Int32).toInt ≤ 2 := by have r9 := li_2; omega
set_option maxHeartbeats 4000000 in
set_option maxRecDepth 100000 in
theorem c_X12_held (l : Launch) (G : va_G) (cy : Nat → ClassId) (ad : rf → Nat) (d : Nat) (v : Int32) (u : Int32) (Mz : mM) (hIz : InvD Mz) (hv : 0 ≤ v.toInt ∧ v.toInt ≤ 7) (hu : -1 ≤ u.toInt ∧ u.toInt ≤ 191) : WP DD l G cy ad yX12_held cX12_held 5 (some .int) (d + 2) 0 [(0, vR (12, 0, 0)), (1, vI v), (2, vI u)] [] Mz (fun r M' => Mz = M' ∧ (0 ≤ r.toInt ∧ r.toInt ≤ 2) ∧ SP_X12_held v u Mz r) := by
  refine w_aload_n dX12_held_0 rfl 0 rfl ?_
  refine w_getR (c' := (50, 0, 0)) fl_RX12_9 rfl rfl ic_12 dX12_held_1 rfl ?_
  refine w_aload_n dX12_held_4 rfl 0 rfl ?_
  refine w_iload_n dX12_held_5 rfl 1 rfl ?_
  refine w_iload_n dX12_held_6 rfl 2 rfl ?_
  refine w_callV (as := [vI v, vI u]) (rest := [vR (50, 0, 0)]) (c_X12_yes l G cy ad (d + 1) v u Mz hIz hv hu) kV_X12_yes pnn_17 (Nat.le_of_ble_eq_true rfl) m_1683 rfl rfl rfl ic_12 rfl rfl (by decide) (Nat.le_of_ble_eq_true rfl) dX12_held_7 (fun r1_ M2_ q3_ => ?_)
  obtain ⟨rfl, h4_, hs5_⟩ := q3_
  refine w_iald rfl rfl ic_50 (rfl : r1_.toInt = r1_.toInt) (lf_c_X12_held_0 v u r1_ hv hu h4_ ) dX12_held_10 (fun j8_ h9_ z6_ e7_ => ?_)
  refine w_istore_n (ls' := [(3, vI z6_), (0, vR (12, 0, 0)), (1, vI v), (2, vI u)]) dX12_held_11 rfl (by decide) rfl ?_
  refine w_aload_n dX12_held_12 rfl 1 rfl ?_
  refine w_getR (c' := (50, 0, 0)) fl_RX12_9 rfl rfl ic_12 dX12_held_13 rfl ?_
  refine w_aload_n dX12_held_16 rfl 1 rfl ?_
  refine w_iload_n dX12_held_17 rfl 2 rfl ?_
  refine w_iload_n dX12_held_18 rfl 3 rfl ?_
  refine w_callV (as := [vI v, vI u]) (rest := [vR (50, 0, 0)]) (c_X12_no l G cy ad d v u Mz hIz hv hu) kV_X12_no pnn_17 (Nat.le_of_ble_eq_true rfl) m_1679 rfl rfl rfl ic_12 rfl rfl (by decide) (Nat.le_of_ble_eq_true rfl) dX12_held_19 (fun r10_ M11_ q12_ => ?_)
  obtain ⟨rfl, h13_, hs14_⟩ := q12_
  refine w_iald rfl rfl ic_50 (rfl : r10_.toInt = r10_.toInt) (lf_c_X12_held_1 v u r1_ j8_ r10_ hv hu h4_ h9_ h13_ ) dX12_held_22 (fun j17_ h18_ z15_ e16_ => ?_)
  refine w_istore (ls' := [(4, vI z15_), (3, vI z6_), (0, vR (12, 0, 0)), (1, vI v), (2, vI u)]) dX12_held_23 (by decide) rfl ?_
  refine w_iload_n dX12_held_25 rfl 1 rfl ?_
  refine w_iload dX12_held_26 0 rfl ?_
  refine w_icmp_le (tgt := 35) dX12_held_28 (by decide) (rfl : z6_.toInt = z6_.toInt) (rfl : z15_.toInt = z15_.toInt) (fun h19_ => ?_) (fun h19_ => ?_)
  · refine w_iload dX12_held_35 0 rfl ?_
    refine w_iload_n dX12_held_37 rfl 1 rfl ?_
    refine w_icmp_le (tgt := 45) dX12_held_38 (by decide) (rfl : z15_.toInt = z15_.toInt) (rfl : z6_.toInt = z6_.toInt) (fun h20_ => ?_) (fun h20_ => ?_)
    · refine w_iconst (v := 0) dX12_held_45 (by decide) ?_
      exact w_iret rfl dX12_held_46 ⟨rfl, (lf_c_X9_speed_0 ), ⟨r1_, hs5_, h4_, j8_, h9_, z6_, e7_, r10_, hs14_, h13_, j17_, h18_, z15_, e16_, (Or.inl ⟨h19_, (Or.inl ⟨h20_, rfl⟩)⟩)⟩⟩
    · refine w_iconst (v := 1) dX12_held_41 (by decide) ?_
      refine w_goto (tgt := 46) dX12_held_42 (by decide) ?_
      exact w_iret rfl dX12_held_46 ⟨rfl, (lf_c_X12_held_3 ), ⟨r1_, hs5_, h4_, j8_, h9_, z6_, e7_, r10_, hs14_, h13_, j17_, h18_, z15_, e16_, (Or.inl ⟨h19_, (Or.inr ⟨h20_, rfl⟩)⟩)⟩⟩
  · refine w_iconst (v := 2) dX12_held_31 (by decide) ?_
    refine w_goto (tgt := 46) dX12_held_32 (by decide) ?_
    exact w_iret rfl dX12_held_46 ⟨rfl, (lf_c_X12_held_4 ), ⟨r1_, hs5_, h4_, j8_, h9_, z6_, e7_, r10_, hs14_, h13_, j17_, h18_, z15_, e16_, (Or.inr ⟨h19_, rfl⟩)⟩⟩
def S_c_X12_head : rf → Nat → Prop := fun c k => (c.1 = 53 ∧ c.2.1 = 0) ∨ False
def SP_X12_head (v : Int32) (u : Int32) (t : Int32) (Mz : mM) (r_ : Int32) (M_ : mM) : Prop := (((SP_is2 v Mz (1 : Int32)) ∧ (0 ≤ v.toInt ∧ v.toInt ≤ 7) ∧ (((SP_X12_isCell u Mz (1 : Int32)) ∧ (0 ≤ u.toInt ∧ u.toInt ≤ 191) ∧ (((SP_X12_within t 0 2 Mz (1 : Int32)) ∧ (0 ≤ t.toInt ∧ t.toInt ≤ 2) ∧ (((¬ t.toInt = 2) ∧ (((¬ t.toInt = 0) ∧ ∃ r21_ : Int32, (SP_X12_no v u Mz r21_) ∧ (r21_.toInt = 687 + 384 * v.toInt + u.toInt) ∧ ∃ j28_ : Nat, ((j28_ : Int) = r21_.toInt) ∧ ∃ z26_ : Int32, (z26_ = Mz.1 (50, 0, 0) j28_) ∧ r_ = z26_ ∧ M_ = Mz) ∨ ((t.toInt = 0) ∧ ∃ r30_ : Int32, (SP_X12_yes v u Mz r30_) ∧ (r30_.toInt = 495 + 384 * v.toInt + u.toInt) ∧ ∃ j37_ : Nat, ((j37_ : Int) = r30_.toInt) ∧ ∃ z35_ : Int32, (z35_ = Mz.1 (50, 0, 0) j37_) ∧ r_ = z35_ ∧ M_ = Mz))) ∨ ((t.toInt = 2) ∧ ∃ r39_ : Int32, (SP_X12_held v u Mz r39_) ∧ (0 ≤ r39_.toInt ∧ r39_.toInt ≤ 2) ∧ r_ = r39_ ∧ M_ = Mz))) ∨ ((SP_X12_within t 0 2 Mz (0 : Int32)) ∧ (¬ (0 ≤ t.toInt ∧ t.toInt ≤ 2)) ∧ ∃ M46_ : mM, (InvD M46_) ∧ (FR (S_c_X12_finding) Mz M46_) ∧ ∃ r45_ : Int32, (SP_X12_finding (-1000001) Mz r45_ M46_) ∧ (r45_.toInt = (-1000001)) ∧ r_ = r45_ ∧ M_ = M46_))) ∨ ((SP_X12_isCell u Mz (0 : Int32)) ∧ (¬ (0 ≤ u.toInt ∧ u.toInt ≤ 191)) ∧ ∃ M55_ : mM, (InvD M55_) ∧ (FR (S_c_X12_finding) Mz M55_) ∧ ∃ r54_ : Int32, (SP_X12_finding (-1000001) Mz r54_ M55_) ∧ (r54_.toInt = (-1000001)) ∧ r_ = r54_ ∧ M_ = M55_))) ∨ ((SP_is2 v Mz (0 : Int32)) ∧ ∃ M64_ : mM, (InvD M64_) ∧ (FR (S_c_X12_finding) Mz M64_) ∧ ∃ r63_ : Int32, (SP_X12_finding (-1000001) Mz r63_ M64_) ∧ (r63_.toInt = (-1000001)) ∧ r_ = r63_ ∧ M_ = M64_))
theorem lf_c_X12_head_0 (u : Int32) (h10_ : 0 ≤ u.toInt ∧ u.toInt ≤ 191) : -1 ≤ u.toInt ∧ u.toInt ≤ 191 := by omega
theorem lf_c_X12_head_1 (v : Int32) (u : Int32) (r21_ : Int32) (h4_ : 0 ≤ v.toInt ∧ v.toInt ≤ 7) (h10_ : 0 ≤ u.toInt ∧ u.toInt ≤ 191) (h24_ : r21_.toInt = 687 + 384 * v.toInt + u.toInt) : 0 ≤ r21_.toInt ∧ r21_.toInt < ((3567 : Nat) : Int) := by omega
theorem lf_c_X12_head_3 (v : Int32) (u : Int32) (r30_ : Int32) (h4_ : 0 ≤ v.toInt ∧ v.toInt ≤ 7) (h10_ : 0 ≤ u.toInt ∧ u.toInt ≤ 191) (h33_ : r30_.toInt = 495 + 384 * v.toInt + u.toInt) : 0 ≤ r30_.toInt ∧ r30_.toInt < ((3567 : Nat) : Int) := by omega
set_option maxHeartbeats 4000000 in
set_option maxRecDepth 100000 in
theorem c_X12_head (l : Launch) (G : va_G) (cy : Nat → ClassId) (ad : rf → Nat) (d : Nat) (v : Int32) (u : Int32) (t : Int32) (Mz : mM) (hIz : InvD Mz) : WP DD l G cy ad yX12_head cX12_head 4 (some .int) (d + 3) 0 [(0, vR (12, 0, 0)), (1, vI v), (2, vI u), (3, vI t)] [] Mz (fun r M' => InvD M' ∧ FR (S_c_X12_head) Mz M' ∧ (True) ∧ SP_X12_head v u t Mz r M') := by
  have hFz : FR (S_c_X12_head) Mz Mz := FR.self
  refine w_aload_n dX12_head_0 rfl 0 rfl ?_
  refine w_iload_n dX12_head_1 rfl 1 rfl ?_
  refine w_iconst (v := 2) dX12_head_2 (by decide) ?_
  refine w_callV (as := [vI v, vI 2]) (rest := []) (c_is2 l G cy ad (d + 1) v Mz hIz) kV_X12_is pnn_17 (Nat.le_of_ble_eq_true rfl) m_1465 rfl rfl rfl ic_12 rfl rfl (by decide) (Nat.le_of_ble_eq_true rfl) dX12_head_3 (fun r1_ M2_ q3_ => ?_)
  obtain ⟨rfl, h4_, hs5_⟩ := q3_
  rcases h4_ with ⟨rfl, h4_⟩ | rfl
  · refine w_if_eq (tgt := 25) dX12_head_6 (by decide) li_1 (fun h9 => (absurd h9 (by decide))) (fun h6_ => ?_)
    refine w_iload_n dX12_head_9 rfl 2 rfl ?_
    refine w_callS (as := [vI u]) (rest := []) (c_X12_isCell l G cy ad (d + 1) u Mz hIz) kS_X12_isCell pnn_17 (Nat.le_of_ble_eq_true rfl) m_1430 rfl rfl (by decide) (Nat.le_of_ble_eq_true rfl) dX12_head_10 (fun r7_ M8_ q9_ => ?_)
    obtain ⟨rfl, h10_, hs11_⟩ := q9_
    rcases h10_ with ⟨rfl, h10_⟩ | ⟨rfl, h10_⟩
    · refine w_if_eq (tgt := 25) dX12_head_13 (by decide) li_1 (fun h9 => (absurd h9 (by decide))) (fun h12_ => ?_)
      refine w_iload_n dX12_head_16 rfl 3 rfl ?_
      refine w_iconst (v := 0) dX12_head_17 (by decide) ?_
      refine w_iconst (v := 2) dX12_head_18 (by decide) ?_
      refine w_callS (as := [vI t, vI 0, vI 2]) (rest := []) (c_X12_within l G cy ad (d + 2) t 0 2 Mz hIz) kS_X12_within pnn_17 (Nat.le_of_ble_eq_true rfl) m_1427 rfl rfl (by decide) (Nat.le_of_ble_eq_true rfl) dX12_head_19 (fun r13_ M14_ q15_ => ?_)
      obtain ⟨rfl, h16_, hs17_⟩ := q15_
      rcases h16_ with ⟨rfl, h16_⟩ | ⟨rfl, h16_⟩
      · simp only [li_0, li_2] at h16_
        refine w_if_ne (tgt := 32) dX12_head_22 (by decide) li_1 (fun h18_ => ?_) (fun h9 => (absurd h9 (by decide)))
        refine w_iload_n dX12_head_32 rfl 3 rfl ?_
        refine w_iconst (v := 2) dX12_head_33 (by decide) ?_
        refine w_icmp_ne (tgt := 46) dX12_head_34 (by decide) (rfl : t.toInt = t.toInt) li_2 (fun h19_ => ?_) (fun h19_ => ?_)
        · refine w_aload_n dX12_head_46 rfl 0 rfl ?_
          refine w_getR (c' := (50, 0, 0)) fl_RX12_9 rfl rfl ic_12 dX12_head_47 rfl ?_
          refine w_iload_n dX12_head_50 rfl 3 rfl ?_
          refine w_if_ne (tgt := 63) dX12_head_51 (by decide) (rfl : t.toInt = t.toInt) (fun h20_ => ?_) (fun h20_ => ?_)
          · refine w_aload_n dX12_head_63 rfl 0 rfl ?_
            refine w_iload_n dX12_head_64 rfl 1 rfl ?_
            refine w_iload_n dX12_head_65 rfl 2 rfl ?_
            refine w_callV (as := [vI v, vI u]) (rest := [vR (50, 0, 0)]) (c_X12_no l G cy ad (d + 1) v u Mz hIz h4_ (lf_c_X12_head_0 u h10_ )) kV_X12_no pnn_17 (Nat.le_of_ble_eq_true rfl) m_1679 rfl rfl rfl ic_12 rfl rfl (by decide) (Nat.le_of_ble_eq_true rfl) dX12_head_66 (fun r21_ M22_ q23_ => ?_)
            obtain ⟨rfl, h24_, hs25_⟩ := q23_
            refine w_iald rfl rfl ic_50 (rfl : r21_.toInt = r21_.toInt) (lf_c_X12_head_1 v u r21_ h4_ h10_ h24_ ) dX12_head_69 (fun j28_ h29_ z26_ e27_ => ?_)
            exact w_iret rfl dX12_head_70 ⟨hIz, hFz, trivial, (Or.inl ⟨hs5_, h4_, (Or.inl ⟨hs11_, h10_, (Or.inl ⟨hs17_, h16_, (Or.inl ⟨h19_, (Or.inl ⟨h20_, r21_, hs25_, h24_, j28_, h29_, z26_, e27_, rfl, rfl⟩)⟩)⟩)⟩)⟩)⟩
          · refine w_aload_n dX12_head_54 rfl 0 rfl ?_
            refine w_iload_n dX12_head_55 rfl 1 rfl ?_
            refine w_iload_n dX12_head_56 rfl 2 rfl ?_
            refine w_callV (as := [vI v, vI u]) (rest := [vR (50, 0, 0)]) (c_X12_yes l G cy ad (d + 2) v u Mz hIz h4_ (lf_c_X12_head_0 u h10_ )) kV_X12_yes pnn_17 (Nat.le_of_ble_eq_true rfl) m_1683 rfl rfl rfl ic_12 rfl rfl (by decide) (Nat.le_of_ble_eq_true rfl) dX12_head_57 (fun r30_ M31_ q32_ => ?_)
            obtain ⟨rfl, h33_, hs34_⟩ := q32_
            refine w_goto (tgt := 69) dX12_head_60 (by decide) ?_
            refine w_iald rfl rfl ic_50 (rfl : r30_.toInt = r30_.toInt) (lf_c_X12_head_3 v u r30_ h4_ h10_ h33_ ) dX12_head_69 (fun j37_ h38_ z35_ e36_ => ?_)
            exact w_iret rfl dX12_head_70 ⟨hIz, hFz, trivial, (Or.inl ⟨hs5_, h4_, (Or.inl ⟨hs11_, h10_, (Or.inl ⟨hs17_, h16_, (Or.inl ⟨h19_, (Or.inr ⟨h20_, r30_, hs34_, h33_, j37_, h38_, z35_, e36_, rfl, rfl⟩)⟩)⟩)⟩)⟩)⟩
        · refine w_aload_n dX12_head_37 rfl 0 rfl ?_
          refine w_iload_n dX12_head_38 rfl 1 rfl ?_
          refine w_iload_n dX12_head_39 rfl 2 rfl ?_
          refine w_callV (as := [vI v, vI u]) (rest := []) (c_X12_held l G cy ad d v u Mz hIz h4_ (lf_c_X12_head_0 u h10_ )) kV_X12_held pnn_17 (Nat.le_of_ble_eq_true rfl) m_1695 rfl rfl rfl ic_12 rfl rfl (by decide) (Nat.le_of_ble_eq_true rfl) dX12_head_40 (fun r39_ M40_ q41_ => ?_)
          obtain ⟨rfl, h42_, hs43_⟩ := q41_
          refine w_goto (tgt := 70) dX12_head_43 (by decide) ?_
          exact w_iret rfl dX12_head_70 ⟨hIz, hFz, trivial, (Or.inl ⟨hs5_, h4_, (Or.inl ⟨hs11_, h10_, (Or.inl ⟨hs17_, h16_, (Or.inr ⟨h19_, r39_, hs43_, h42_, rfl, rfl⟩)⟩)⟩)⟩)⟩
      · simp only [li_0, li_2] at h16_
        refine w_if_ne (tgt := 32) dX12_head_22 (by decide) li_0 (fun h9 => (absurd h9 (by decide))) (fun h44_ => ?_)
        refine w_aload_n dX12_head_25 rfl 0 rfl ?_
        refine w_ldc (v := (-1000001)) m_1433 dX12_head_26 ?_
        refine w_callV (as := [vI (-1000001)]) (rest := []) (c_X12_finding l G cy ad (d + 2) (-1000001) Mz hIz (by first | decide | (unfold vF; omega) | (unfold vRw; omega))) kV_X12_finding pnn_17 (Nat.le_of_ble_eq_true rfl) m_1434 rfl rfl rfl ic_12 rfl rfl (by decide) (Nat.le_of_ble_eq_true rfl) dX12_head_28 (fun r45_ M46_ q47_ => ?_)
        obtain ⟨hI49_, hF50_, h48_, hs52_⟩ := q47_
        have hF51_ := hFz.tr hF50_ (fun c k => (fun h => h.elim (fun h => (Or.inl ⟨h.1, h.2⟩)) (fun h => h.elim)))
        simp only [li_m1000001] at h48_
        exact w_iret rfl dX12_head_31 ⟨hI49_, hF51_, trivial, (Or.inl ⟨hs5_, h4_, (Or.inl ⟨hs11_, h10_, (Or.inr ⟨hs17_, h16_, M46_, hI49_, hF50_, r45_, hs52_, h48_, rfl, rfl⟩)⟩)⟩)⟩
    · refine w_if_eq (tgt := 25) dX12_head_13 (by decide) li_0 (fun h53_ => ?_) (fun h9 => (absurd h9 (by decide)))
      refine w_aload_n dX12_head_25 rfl 0 rfl ?_
      refine w_ldc (v := (-1000001)) m_1433 dX12_head_26 ?_
      refine w_callV (as := [vI (-1000001)]) (rest := []) (c_X12_finding l G cy ad (d + 2) (-1000001) Mz hIz (by first | decide | (unfold vF; omega) | (unfold vRw; omega))) kV_X12_finding pnn_17 (Nat.le_of_ble_eq_true rfl) m_1434 rfl rfl rfl ic_12 rfl rfl (by decide) (Nat.le_of_ble_eq_true rfl) dX12_head_28 (fun r54_ M55_ q56_ => ?_)
      obtain ⟨hI58_, hF59_, h57_, hs61_⟩ := q56_
      have hF60_ := hFz.tr hF59_ (fun c k => (fun h => h.elim (fun h => (Or.inl ⟨h.1, h.2⟩)) (fun h => h.elim)))
      simp only [li_m1000001] at h57_
      exact w_iret rfl dX12_head_31 ⟨hI58_, hF60_, trivial, (Or.inl ⟨hs5_, h4_, (Or.inr ⟨hs11_, h10_, M55_, hI58_, hF59_, r54_, hs61_, h57_, rfl, rfl⟩)⟩)⟩
  · refine w_if_eq (tgt := 25) dX12_head_6 (by decide) li_0 (fun h62_ => ?_) (fun h9 => (absurd h9 (by decide)))
    refine w_aload_n dX12_head_25 rfl 0 rfl ?_
    refine w_ldc (v := (-1000001)) m_1433 dX12_head_26 ?_
    refine w_callV (as := [vI (-1000001)]) (rest := []) (c_X12_finding l G cy ad (d + 2) (-1000001) Mz hIz (by first | decide | (unfold vF; omega) | (unfold vRw; omega))) kV_X12_finding pnn_17 (Nat.le_of_ble_eq_true rfl) m_1434 rfl rfl rfl ic_12 rfl rfl (by decide) (Nat.le_of_ble_eq_true rfl) dX12_head_28 (fun r63_ M64_ q65_ => ?_)
    obtain ⟨hI67_, hF68_, h66_, hs70_⟩ := q65_
    have hF69_ := hFz.tr hF68_ (fun c k => (fun h => h.elim (fun h => (Or.inl ⟨h.1, h.2⟩)) (fun h => h.elim)))
    simp only [li_m1000001] at h66_
    exact w_iret rfl dX12_head_31 ⟨hI67_, hF69_, trivial, (Or.inr ⟨hs5_, M64_, hI67_, hF68_, r63_, hs70_, h66_, rfl, rfl⟩)⟩
def S_c_X12_heads : rf → Nat → Prop := fun c k => (c.1 = 53 ∧ c.2.1 = 0) ∨ False
def ST_X12_heads_30 (v : Int32) (u : Int32) (Mz : mM) (v4_30 : Int32) (v3_30 : Int32) (v4_30y : Int32) (v3_30y : Int32) : Prop := (0 ≤ v4_30.toInt) ∧ (v4_30.toInt ≤ 192) ∧ (v4_30.toInt < 192) ∧ ∃ r15_ : Int32, (SP_X12_held v v4_30 Mz r15_) ∧ (0 ≤ r15_.toInt ∧ r15_.toInt ≤ 2) ∧ ∃ r20_ : Int32, (SP_X12_goer v Mz r20_) ∧ (r20_.toInt = 180 + 9 * v.toInt) ∧ ∃ z25_ : Int32, (z25_.toInt = r20_.toInt + 1) ∧ ∃ j29_ : Nat, ((j29_ : Int) = z25_.toInt) ∧ ∃ z27_ : Int32, (z27_ = Mz.1 (50, 0, 0) j29_) ∧ (0 ≤ z27_.toInt ∧ z27_.toInt ≤ 191) ∧ (((v4_30.toInt = z27_.toInt) ∧ (((3 ≤ u.toInt) ∧ (((r15_.toInt ≤ 0) ∧ ∃ z35_ : Int32, (z35_ = v3_30 + (0 : Int32)) ∧ ∃ z37_ : Int32, (z37_.toInt = v4_30.toInt + 1) ∧ v4_30y = z37_ ∧ v3_30y = z35_) ∨ ((0 < r15_.toInt) ∧ (((¬ r15_.toInt = 2) ∧ ∃ z41_ : Int32, (z41_ = v3_30 + (0 : Int32)) ∧ ∃ z43_ : Int32, (z43_.toInt = v4_30.toInt + 1) ∧ v4_30y = z43_ ∧ v3_30y = z41_) ∨ ((r15_.toInt = 2) ∧ ∃ z45_ : Int32, (z45_ = v3_30 + (1 : Int32)) ∧ ∃ z47_ : Int32, (z47_.toInt = v4_30.toInt + 1) ∧ v4_30y = z47_ ∧ v3_30y = z45_))))) ∨ ((u.toInt < 3) ∧ (((¬ r15_.toInt = u.toInt) ∧ ∃ z50_ : Int32, (z50_ = v3_30 + (0 : Int32)) ∧ ∃ z52_ : Int32, (z52_.toInt = v4_30.toInt + 1) ∧ v4_30y = z52_ ∧ v3_30y = z50_) ∨ ((r15_.toInt = u.toInt) ∧ ∃ z54_ : Int32, (z54_ = v3_30 + (1 : Int32)) ∧ ∃ z56_ : Int32, (z56_.toInt = v4_30.toInt + 1) ∧ v4_30y = z56_ ∧ v3_30y = z54_))))) ∨ ((¬ v4_30.toInt = z27_.toInt) ∧ ∃ r58_ : Int32, (SP_X12_isFree v4_30 Mz r58_) ∧ ((0 ≤ r58_.toInt ∧ r58_.toInt ≤ 1)) ∧ (((r58_.toInt = 0) ∧ (((3 ≤ u.toInt) ∧ (((r15_.toInt ≤ 0) ∧ ∃ z66_ : Int32, (z66_ = v3_30 + (0 : Int32)) ∧ ∃ z68_ : Int32, (z68_.toInt = v4_30.toInt + 1) ∧ v4_30y = z68_ ∧ v3_30y = z66_) ∨ ((0 < r15_.toInt) ∧ (((¬ r15_.toInt = 1) ∧ ∃ z72_ : Int32, (z72_ = v3_30 + (0 : Int32)) ∧ ∃ z74_ : Int32, (z74_.toInt = v4_30.toInt + 1) ∧ v4_30y = z74_ ∧ v3_30y = z72_) ∨ ((r15_.toInt = 1) ∧ ∃ z76_ : Int32, (z76_ = v3_30 + (1 : Int32)) ∧ ∃ z78_ : Int32, (z78_.toInt = v4_30.toInt + 1) ∧ v4_30y = z78_ ∧ v3_30y = z76_))))) ∨ ((u.toInt < 3) ∧ (((¬ r15_.toInt = u.toInt) ∧ ∃ z81_ : Int32, (z81_ = v3_30 + (0 : Int32)) ∧ ∃ z83_ : Int32, (z83_.toInt = v4_30.toInt + 1) ∧ v4_30y = z83_ ∧ v3_30y = z81_) ∨ ((r15_.toInt = u.toInt) ∧ ∃ z85_ : Int32, (z85_ = v3_30 + (1 : Int32)) ∧ ∃ z87_ : Int32, (z87_.toInt = v4_30.toInt + 1) ∧ v4_30y = z87_ ∧ v3_30y = z85_))))) ∨ ((¬ r58_.toInt = 0) ∧ (((3 ≤ u.toInt) ∧ (((r15_.toInt ≤ 0) ∧ ∃ z91_ : Int32, (z91_ = v3_30 + (0 : Int32)) ∧ ∃ z93_ : Int32, (z93_.toInt = v4_30.toInt + 1) ∧ v4_30y = z93_ ∧ v3_30y = z91_) ∨ ((0 < r15_.toInt) ∧ (((¬ r15_.toInt = 2) ∧ ∃ z97_ : Int32, (z97_ = v3_30 + (0 : Int32)) ∧ ∃ z99_ : Int32, (z99_.toInt = v4_30.toInt + 1) ∧ v4_30y = z99_ ∧ v3_30y = z97_) ∨ ((r15_.toInt = 2) ∧ ∃ z101_ : Int32, (z101_ = v3_30 + (1 : Int32)) ∧ ∃ z103_ : Int32, (z103_.toInt = v4_30.toInt + 1) ∧ v4_30y = z103_ ∧ v3_30y = z101_))))) ∨ ((u.toInt < 3) ∧ (((¬ r15_.toInt = u.toInt) ∧ ∃ z106_ : Int32, (z106_ = v3_30 + (0 : Int32)) ∧ ∃ z108_ : Int32, (z108_.toInt = v4_30.toInt + 1) ∧ v4_30y = z108_ ∧ v3_30y = z106_) ∨ ((r15_.toInt = u.toInt) ∧ ∃ z110_ : Int32, (z110_ = v3_30 + (1 : Int32)) ∧ ∃ z112_ : Int32, (z112_.toInt = v4_30.toInt + 1) ∧ v4_30y = z112_ ∧ v3_30y = z110_))))))))
def SP_X12_heads (v : Int32) (u : Int32) (Mz : mM) (r_ : Int32) (M_ : mM) : Prop := (((SP_is2 v Mz (1 : Int32)) ∧ (0 ≤ v.toInt ∧ v.toInt ≤ 7) ∧ (((SP_X12_within u 0 3 Mz (1 : Int32)) ∧ (0 ≤ u.toInt ∧ u.toInt ≤ 3) ∧ ∃ v4_30 : Int32, (0 ≤ v4_30.toInt) ∧ (v4_30.toInt ≤ 192) ∧ ∃ v3_30 : Int32, (RCH (fun x_ y_ => ST_X12_heads_30 v u Mz x_.1 x_.2 y_.1 y_.2) ((0 : Int32), (0 : Int32)) (v4_30, v3_30)) ∧ (192 ≤ v4_30.toInt) ∧ r_ = v3_30 ∧ M_ = Mz) ∨ ((SP_X12_within u 0 3 Mz (0 : Int32)) ∧ (¬ (0 ≤ u.toInt ∧ u.toInt ≤ 3)) ∧ ∃ M116_ : mM, (InvD M116_) ∧ (FR (S_c_X12_finding) Mz M116_) ∧ ∃ r115_ : Int32, (SP_X12_finding (-1000001) Mz r115_ M116_) ∧ (r115_.toInt = (-1000001)) ∧ r_ = r115_ ∧ M_ = M116_))) ∨ ((SP_is2 v Mz (0 : Int32)) ∧ ∃ M125_ : mM, (InvD M125_) ∧ (FR (S_c_X12_finding) Mz M125_) ∧ ∃ r124_ : Int32, (SP_X12_finding (-1000001) Mz r124_ M125_) ∧ (r124_.toInt = (-1000001)) ∧ r_ = r124_ ∧ M_ = M125_))
theorem lf_c_X12_heads_0 (v4_30 : Int32) (hv0_30 : 0 ≤ v4_30.toInt) (h14_ : v4_30.toInt < 192) : -1 ≤ v4_30.toInt ∧ v4_30.toInt ≤ 191 := by omega
set_option maxHeartbeats 4000000 in
set_option maxRecDepth 100000 in
theorem c_X12_heads (l : Launch) (G : va_G) (cy : Nat → ClassId) (ad : rf → Nat) (d : Nat) (v : Int32) (u : Int32) (Mz : mM) (hIz : InvD Mz) : WP DD l G cy ad yX12_heads cX12_heads 7 (some .int) (d + 3) 0 [(0, vR (12, 0, 0)), (1, vI v), (2, vI u)] [] Mz (fun r M' => InvD M' ∧ FR (S_c_X12_heads) Mz M' ∧ (True) ∧ SP_X12_heads v u Mz r M') := by
  have hFz : FR (S_c_X12_heads) Mz Mz := FR.self
  refine w_aload_n dX12_heads_0 rfl 0 rfl ?_
  refine w_iload_n dX12_heads_1 rfl 1 rfl ?_
  refine w_iconst (v := 2) dX12_heads_2 (by decide) ?_
  refine w_callV (as := [vI v, vI 2]) (rest := []) (c_is2 l G cy ad (d + 1) v Mz hIz) kV_X12_is pnn_17 (Nat.le_of_ble_eq_true rfl) m_1465 rfl rfl rfl ic_12 rfl rfl (by decide) (Nat.le_of_ble_eq_true rfl) dX12_heads_3 (fun r1_ M2_ q3_ => ?_)
  obtain ⟨rfl, h4_, hs5_⟩ := q3_
  rcases h4_ with ⟨rfl, h4_⟩ | rfl
  · refine w_if_eq (tgt := 18) dX12_heads_6 (by decide) li_1 (fun h9 => (absurd h9 (by decide))) (fun h6_ => ?_)
    refine w_iload_n dX12_heads_9 rfl 2 rfl ?_
    refine w_iconst (v := 0) dX12_heads_10 (by decide) ?_
    refine w_iconst (v := 3) dX12_heads_11 (by decide) ?_
    refine w_callS (as := [vI u, vI 0, vI 3]) (rest := []) (c_X12_within l G cy ad (d + 2) u 0 3 Mz hIz) kS_X12_within pnn_17 (Nat.le_of_ble_eq_true rfl) m_1427 rfl rfl (by decide) (Nat.le_of_ble_eq_true rfl) dX12_heads_12 (fun r7_ M8_ q9_ => ?_)
    obtain ⟨rfl, h10_, hs11_⟩ := q9_
    rcases h10_ with ⟨rfl, h10_⟩ | ⟨rfl, h10_⟩
    · simp only [li_0, li_3] at h10_
      refine w_if_ne (tgt := 25) dX12_heads_15 (by decide) li_1 (fun h12_ => ?_) (fun h9 => (absurd h9 (by decide)))
      refine w_iconst (v := 0) dX12_heads_25 (by decide) ?_
      refine w_istore_n (ls' := [(3, vI 0), (0, vR (12, 0, 0)), (1, vI v), (2, vI u)]) dX12_heads_26 rfl (by decide) rfl ?_
      refine w_iconst (v := 0) dX12_heads_27 (by decide) ?_
      refine w_istore (ls' := [(4, vI 0), (3, vI 0), (0, vR (12, 0, 0)), (1, vI v), (2, vI u)]) dX12_heads_28 (by decide) rfl ?_
      have lp13_ : ∀ (nn_30 : Nat) (v4_30 : Int32) (v3_30 : Int32) (hv0_30 : 0 ≤ v4_30.toInt) (hv1_30 : v4_30.toInt ≤ 192) (hL_30 : RCH (fun x_ y_ => ST_X12_heads_30 v u Mz x_.1 x_.2 y_.1 y_.2) ((0 : Int32), (0 : Int32)) (v4_30, v3_30)), (2147483648 - v4_30.toInt).toNat < nn_30 → WP DD l G cy ad yX12_heads cX12_heads 7 (some .int) (d + 3) 30 [(4, vI v4_30), (3, vI v3_30), (0, vR (12, 0, 0)), (1, vI v), (2, vI u)] [] Mz (fun r M' => InvD M' ∧ FR (S_c_X12_heads) Mz M' ∧ (True) ∧ SP_X12_heads v u Mz r M') := by
        intro nn_30
        induction nn_30 with
        | zero => intro v4_30 v3_30 hv0_30 hv1_30 hL_30 hm_30; exact absurd hm_30 (Nat.not_lt_zero _)
        | succ nn_30 ih_30 =>
          intro v4_30 v3_30 hv0_30 hv1_30 hL_30 hm_30
          refine w_iload dX12_heads_30 0 rfl ?_
          refine w_sipush (v := 192) dX12_heads_32 (by decide) ?_
          refine w_icmp_ge (tgt := 128) dX12_heads_35 (by decide) (rfl : v4_30.toInt = v4_30.toInt) li_192 (fun h14_ => ?_) (fun h14_ => ?_)
          · refine w_iload_n dX12_heads_128 rfl 1 rfl ?_
            exact w_iret rfl dX12_heads_129 ⟨hIz, hFz, trivial, (Or.inl ⟨hs5_, h4_, (Or.inl ⟨hs11_, h10_, v4_30, hv0_30, hv1_30, v3_30, hL_30, h14_, rfl, rfl⟩)⟩)⟩
          · refine w_aload_n dX12_heads_38 rfl 2 rfl ?_
            refine w_iload_n dX12_heads_39 rfl 3 rfl ?_
            refine w_iload dX12_heads_40 0 rfl ?_
            refine w_callV (as := [vI v, vI v4_30]) (rest := []) (c_X12_held l G cy ad d v v4_30 Mz hIz h4_ (lf_c_X12_heads_0 v4_30 hv0_30 h14_ )) kV_X12_held pnn_17 (Nat.le_of_ble_eq_true rfl) m_1695 rfl rfl rfl ic_12 rfl rfl (by decide) (Nat.le_of_ble_eq_true rfl) dX12_heads_42 (fun r15_ M16_ q17_ => ?_)
            obtain ⟨rfl, h18_, hs19_⟩ := q17_
            refine w_istore (ls' := [(5, vI r15_), (4, vI v4_30), (3, vI v3_30), (0, vR (12, 0, 0)), (1, vI v), (2, vI u)]) dX12_heads_45 (by decide) rfl ?_
            refine w_iload dX12_heads_47 1 rfl ?_
            refine w_aload_n dX12_heads_49 rfl 3 rfl ?_
            refine w_getR (c' := (50, 0, 0)) fl_RX12_9 rfl rfl ic_12 dX12_heads_50 rfl ?_
            refine w_aload_n dX12_heads_53 rfl 3 rfl ?_
            refine w_iload_n dX12_heads_54 rfl 4 rfl ?_
            refine w_callV (as := [vI v]) (rest := [vR (50, 0, 0), vI v4_30]) (c_X12_goer l G cy ad (d + 2) v Mz hIz h4_) kV_X12_goer pnn_17 (Nat.le_of_ble_eq_true rfl) m_1451 rfl rfl rfl ic_12 rfl rfl (by decide) (Nat.le_of_ble_eq_true rfl) dX12_heads_55 (fun r20_ M21_ q22_ => ?_)
            obtain ⟨rfl, h23_, hs24_⟩ := q22_
            refine w_iconst (v := 1) dX12_heads_58 (by decide) ?_
            refine w_iaddB dX12_heads_59 (rfl : r20_.toInt = r20_.toInt) li_1 (lf_c_X12_echo_0 v r20_ h4_ h23_ ) (fun z25_ h26_ => ?_)
            refine w_iald rfl rfl ic_50 (rfl : z25_.toInt = z25_.toInt) (lf_c_X12_echo_1 v r20_ z25_ h4_ h23_ h26_ ) dX12_heads_60 (fun j29_ h30_ z27_ e28_ => ?_)
            have h31_ : 0 ≤ z27_.toInt ∧ z27_.toInt ≤ 191 := pn_wc hIz e28_ (lf_c_X12_echo_2 Mz v r20_ z25_ j29_ z27_ h4_ h23_ h26_ h30_ e28_ )
            refine w_icmp_eq (tgt := 73) dX12_heads_61 (by decide) (rfl : v4_30.toInt = v4_30.toInt) (rfl : z27_.toInt = z27_.toInt) (fun h32_ => ?_) (fun h32_ => ?_)
            · refine w_iconst (v := 1) dX12_heads_73 (by decide) ?_
              refine w_goto (tgt := 78) dX12_heads_74 (by decide) ?_
              refine w_istore (ls' := [(6, vI 1), (5, vI r15_), (4, vI v4_30), (3, vI v3_30), (0, vR (12, 0, 0)), (1, vI v), (2, vI u)]) dX12_heads_78 (by decide) rfl ?_
              refine w_iload_n dX12_heads_80 rfl 3 rfl ?_
              refine w_iload_n dX12_heads_81 rfl 6 rfl ?_
              refine w_iconst (v := 3) dX12_heads_82 (by decide) ?_
              refine w_icmp_ge (tgt := 95) dX12_heads_83 (by decide) (rfl : u.toInt = u.toInt) li_3 (fun h33_ => ?_) (fun h33_ => ?_)
              · refine w_iload dX12_heads_95 1 rfl ?_
                refine w_if_le (tgt := 119) dX12_heads_97 (by decide) (rfl : r15_.toInt = r15_.toInt) (fun h34_ => ?_) (fun h34_ => ?_)
                · refine w_iconst (v := 0) dX12_heads_119 (by decide) ?_
                  refine w_iadd dX12_heads_120 (fun z35_ h36_ => ?_)
                  refine w_istore_n (ls' := [(3, vI z35_), (6, vI 1), (5, vI r15_), (4, vI v4_30), (0, vR (12, 0, 0)), (1, vI v), (2, vI u)]) dX12_heads_121 rfl (by decide) rfl ?_
                  refine w_iincB (j := 3) (f := fun z37_ => [(4, vI z37_), (3, vI z35_), (6, vI 1), (5, vI r15_), (0, vR (12, 0, 0)), (1, vI v), (2, vI u)]) dX12_heads_122 rfl (by decide) (fun _ => rfl) (rfl : v4_30.toInt = v4_30.toInt) li_1 (lf_c_X9_begin_2 v4_30 hv0_30 h14_ ) (fun z37_ h38_ => ?_)
                  refine w_goto (tgt := 30) dX12_heads_125 (by decide) ?_
                  refine w_loc (ls' := [(4, vI z37_), (3, vI z35_), (0, vR (12, 0, 0)), (1, vI v), (2, vI u)]) [0, 1, 4, 5, 6] rfl ?_
                  exact ih_30 z37_ z35_ (lf_c_X5_takeFrom_3 v4_30 z37_ hv0_30 h38_ ) (lf_c_X9_begin_4 v4_30 z37_ h14_ h38_ ) (RCH.tail hL_30 ⟨hv0_30, hv1_30, h14_, r15_, hs19_, h18_, r20_, hs24_, h23_, z25_, h26_, j29_, h30_, z27_, e28_, h31_, (Or.inl ⟨h32_, (Or.inl ⟨h33_, (Or.inl ⟨h34_, z35_, h36_, z37_, h38_, rfl, rfl⟩)⟩)⟩)⟩) (Nat.lt_of_lt_of_le (lf_c_X9_begin_5 v4_30 z37_ h14_ h38_ ) (Nat.le_of_lt_succ hm_30))
                · refine w_iload dX12_heads_100 1 rfl ?_
                  refine w_iload dX12_heads_102 0 rfl ?_
                  refine w_if_eq (tgt := 111) dX12_heads_104 (by decide) li_1 (fun h9 => (absurd h9 (by decide))) (fun h39_ => ?_)
                  refine w_iconst (v := 2) dX12_heads_107 (by decide) ?_
                  refine w_goto (tgt := 112) dX12_heads_108 (by decide) ?_
                  refine w_icmp_ne (tgt := 119) dX12_heads_112 (by decide) (rfl : r15_.toInt = r15_.toInt) li_2 (fun h40_ => ?_) (fun h40_ => ?_)
                  · refine w_iconst (v := 0) dX12_heads_119 (by decide) ?_
                    refine w_iadd dX12_heads_120 (fun z41_ h42_ => ?_)
                    refine w_istore_n (ls' := [(3, vI z41_), (6, vI 1), (5, vI r15_), (4, vI v4_30), (0, vR (12, 0, 0)), (1, vI v), (2, vI u)]) dX12_heads_121 rfl (by decide) rfl ?_
                    refine w_iincB (j := 3) (f := fun z43_ => [(4, vI z43_), (3, vI z41_), (6, vI 1), (5, vI r15_), (0, vR (12, 0, 0)), (1, vI v), (2, vI u)]) dX12_heads_122 rfl (by decide) (fun _ => rfl) (rfl : v4_30.toInt = v4_30.toInt) li_1 (lf_c_X9_begin_2 v4_30 hv0_30 h14_ ) (fun z43_ h44_ => ?_)
                    refine w_goto (tgt := 30) dX12_heads_125 (by decide) ?_
                    refine w_loc (ls' := [(4, vI z43_), (3, vI z41_), (0, vR (12, 0, 0)), (1, vI v), (2, vI u)]) [0, 1, 4, 5, 6] rfl ?_
                    exact ih_30 z43_ z41_ (lf_c_X5_takeFrom_3 v4_30 z43_ hv0_30 h44_ ) (lf_c_X9_begin_4 v4_30 z43_ h14_ h44_ ) (RCH.tail hL_30 ⟨hv0_30, hv1_30, h14_, r15_, hs19_, h18_, r20_, hs24_, h23_, z25_, h26_, j29_, h30_, z27_, e28_, h31_, (Or.inl ⟨h32_, (Or.inl ⟨h33_, (Or.inr ⟨h34_, (Or.inl ⟨h40_, z41_, h42_, z43_, h44_, rfl, rfl⟩)⟩)⟩)⟩)⟩) (Nat.lt_of_lt_of_le (lf_c_X9_begin_5 v4_30 z43_ h14_ h44_ ) (Nat.le_of_lt_succ hm_30))
                  · refine w_iconst (v := 1) dX12_heads_115 (by decide) ?_
                    refine w_goto (tgt := 120) dX12_heads_116 (by decide) ?_
                    refine w_iadd dX12_heads_120 (fun z45_ h46_ => ?_)
                    refine w_istore_n (ls' := [(3, vI z45_), (6, vI 1), (5, vI r15_), (4, vI v4_30), (0, vR (12, 0, 0)), (1, vI v), (2, vI u)]) dX12_heads_121 rfl (by decide) rfl ?_
                    refine w_iincB (j := 3) (f := fun z47_ => [(4, vI z47_), (3, vI z45_), (6, vI 1), (5, vI r15_), (0, vR (12, 0, 0)), (1, vI v), (2, vI u)]) dX12_heads_122 rfl (by decide) (fun _ => rfl) (rfl : v4_30.toInt = v4_30.toInt) li_1 (lf_c_X9_begin_2 v4_30 hv0_30 h14_ ) (fun z47_ h48_ => ?_)
                    refine w_goto (tgt := 30) dX12_heads_125 (by decide) ?_
                    refine w_loc (ls' := [(4, vI z47_), (3, vI z45_), (0, vR (12, 0, 0)), (1, vI v), (2, vI u)]) [0, 1, 4, 5, 6] rfl ?_
                    exact ih_30 z47_ z45_ (lf_c_X5_takeFrom_3 v4_30 z47_ hv0_30 h48_ ) (lf_c_X9_begin_4 v4_30 z47_ h14_ h48_ ) (RCH.tail hL_30 ⟨hv0_30, hv1_30, h14_, r15_, hs19_, h18_, r20_, hs24_, h23_, z25_, h26_, j29_, h30_, z27_, e28_, h31_, (Or.inl ⟨h32_, (Or.inl ⟨h33_, (Or.inr ⟨h34_, (Or.inr ⟨h40_, z45_, h46_, z47_, h48_, rfl, rfl⟩)⟩)⟩)⟩)⟩) (Nat.lt_of_lt_of_le (lf_c_X9_begin_5 v4_30 z47_ h14_ h48_ ) (Nat.le_of_lt_succ hm_30))
              · refine w_iload dX12_heads_86 1 rfl ?_
                refine w_iload_n dX12_heads_88 rfl 6 rfl ?_
                refine w_icmp_ne (tgt := 119) dX12_heads_89 (by decide) (rfl : r15_.toInt = r15_.toInt) (rfl : u.toInt = u.toInt) (fun h49_ => ?_) (fun h49_ => ?_)
                · refine w_iconst (v := 0) dX12_heads_119 (by decide) ?_
                  refine w_iadd dX12_heads_120 (fun z50_ h51_ => ?_)
                  refine w_istore_n (ls' := [(3, vI z50_), (6, vI 1), (5, vI r15_), (4, vI v4_30), (0, vR (12, 0, 0)), (1, vI v), (2, vI u)]) dX12_heads_121 rfl (by decide) rfl ?_
                  refine w_iincB (j := 3) (f := fun z52_ => [(4, vI z52_), (3, vI z50_), (6, vI 1), (5, vI r15_), (0, vR (12, 0, 0)), (1, vI v), (2, vI u)]) dX12_heads_122 rfl (by decide) (fun _ => rfl) (rfl : v4_30.toInt = v4_30.toInt) li_1 (lf_c_X9_begin_2 v4_30 hv0_30 h14_ ) (fun z52_ h53_ => ?_)
                  refine w_goto (tgt := 30) dX12_heads_125 (by decide) ?_
                  refine w_loc (ls' := [(4, vI z52_), (3, vI z50_), (0, vR (12, 0, 0)), (1, vI v), (2, vI u)]) [0, 1, 4, 5, 6] rfl ?_
                  exact ih_30 z52_ z50_ (lf_c_X5_takeFrom_3 v4_30 z52_ hv0_30 h53_ ) (lf_c_X9_begin_4 v4_30 z52_ h14_ h53_ ) (RCH.tail hL_30 ⟨hv0_30, hv1_30, h14_, r15_, hs19_, h18_, r20_, hs24_, h23_, z25_, h26_, j29_, h30_, z27_, e28_, h31_, (Or.inl ⟨h32_, (Or.inr ⟨h33_, (Or.inl ⟨h49_, z50_, h51_, z52_, h53_, rfl, rfl⟩)⟩)⟩)⟩) (Nat.lt_of_lt_of_le (lf_c_X9_begin_5 v4_30 z52_ h14_ h53_ ) (Nat.le_of_lt_succ hm_30))
                · refine w_goto (tgt := 115) dX12_heads_92 (by decide) ?_
                  refine w_iconst (v := 1) dX12_heads_115 (by decide) ?_
                  refine w_goto (tgt := 120) dX12_heads_116 (by decide) ?_
                  refine w_iadd dX12_heads_120 (fun z54_ h55_ => ?_)
                  refine w_istore_n (ls' := [(3, vI z54_), (6, vI 1), (5, vI r15_), (4, vI v4_30), (0, vR (12, 0, 0)), (1, vI v), (2, vI u)]) dX12_heads_121 rfl (by decide) rfl ?_
                  refine w_iincB (j := 3) (f := fun z56_ => [(4, vI z56_), (3, vI z54_), (6, vI 1), (5, vI r15_), (0, vR (12, 0, 0)), (1, vI v), (2, vI u)]) dX12_heads_122 rfl (by decide) (fun _ => rfl) (rfl : v4_30.toInt = v4_30.toInt) li_1 (lf_c_X9_begin_2 v4_30 hv0_30 h14_ ) (fun z56_ h57_ => ?_)
                  refine w_goto (tgt := 30) dX12_heads_125 (by decide) ?_
                  refine w_loc (ls' := [(4, vI z56_), (3, vI z54_), (0, vR (12, 0, 0)), (1, vI v), (2, vI u)]) [0, 1, 4, 5, 6] rfl ?_
                  exact ih_30 z56_ z54_ (lf_c_X5_takeFrom_3 v4_30 z56_ hv0_30 h57_ ) (lf_c_X9_begin_4 v4_30 z56_ h14_ h57_ ) (RCH.tail hL_30 ⟨hv0_30, hv1_30, h14_, r15_, hs19_, h18_, r20_, hs24_, h23_, z25_, h26_, j29_, h30_, z27_, e28_, h31_, (Or.inl ⟨h32_, (Or.inr ⟨h33_, (Or.inr ⟨h49_, z54_, h55_, z56_, h57_, rfl, rfl⟩)⟩)⟩)⟩) (Nat.lt_of_lt_of_le (lf_c_X9_begin_5 v4_30 z56_ h14_ h57_ ) (Nat.le_of_lt_succ hm_30))
            · refine w_aload_n dX12_heads_64 rfl 3 rfl ?_
              refine w_iload dX12_heads_65 1 rfl ?_
              refine w_callV (as := [vI v4_30]) (rest := []) (c_X12_isFree l G cy ad d v4_30 Mz hIz) kV_X12_isFree pnn_17 (Nat.le_of_ble_eq_true rfl) m_1439 rfl rfl rfl ic_12 rfl rfl (by decide) (Nat.le_of_ble_eq_true rfl) dX12_heads_67 (fun r58_ M59_ q60_ => ?_)
              obtain ⟨rfl, h61_, hs62_⟩ := q60_
              refine w_if_eq (tgt := 77) dX12_heads_70 (by decide) (rfl : r58_.toInt = r58_.toInt) (fun h63_ => ?_) (fun h63_ => ?_)
              · refine w_iconst (v := 0) dX12_heads_77 (by decide) ?_
                refine w_istore (ls' := [(6, vI 0), (5, vI r15_), (4, vI v4_30), (3, vI v3_30), (0, vR (12, 0, 0)), (1, vI v), (2, vI u)]) dX12_heads_78 (by decide) rfl ?_
                refine w_iload_n dX12_heads_80 rfl 3 rfl ?_
                refine w_iload_n dX12_heads_81 rfl 6 rfl ?_
                refine w_iconst (v := 3) dX12_heads_82 (by decide) ?_
                refine w_icmp_ge (tgt := 95) dX12_heads_83 (by decide) (rfl : u.toInt = u.toInt) li_3 (fun h64_ => ?_) (fun h64_ => ?_)
                · refine w_iload dX12_heads_95 1 rfl ?_
                  refine w_if_le (tgt := 119) dX12_heads_97 (by decide) (rfl : r15_.toInt = r15_.toInt) (fun h65_ => ?_) (fun h65_ => ?_)
                  · refine w_iconst (v := 0) dX12_heads_119 (by decide) ?_
                    refine w_iadd dX12_heads_120 (fun z66_ h67_ => ?_)
                    refine w_istore_n (ls' := [(3, vI z66_), (6, vI 0), (5, vI r15_), (4, vI v4_30), (0, vR (12, 0, 0)), (1, vI v), (2, vI u)]) dX12_heads_121 rfl (by decide) rfl ?_
                    refine w_iincB (j := 3) (f := fun z68_ => [(4, vI z68_), (3, vI z66_), (6, vI 0), (5, vI r15_), (0, vR (12, 0, 0)), (1, vI v), (2, vI u)]) dX12_heads_122 rfl (by decide) (fun _ => rfl) (rfl : v4_30.toInt = v4_30.toInt) li_1 (lf_c_X9_begin_2 v4_30 hv0_30 h14_ ) (fun z68_ h69_ => ?_)
                    refine w_goto (tgt := 30) dX12_heads_125 (by decide) ?_
                    refine w_loc (ls' := [(4, vI z68_), (3, vI z66_), (0, vR (12, 0, 0)), (1, vI v), (2, vI u)]) [0, 1, 4, 5, 6] rfl ?_
                    exact ih_30 z68_ z66_ (lf_c_X5_takeFrom_3 v4_30 z68_ hv0_30 h69_ ) (lf_c_X9_begin_4 v4_30 z68_ h14_ h69_ ) (RCH.tail hL_30 ⟨hv0_30, hv1_30, h14_, r15_, hs19_, h18_, r20_, hs24_, h23_, z25_, h26_, j29_, h30_, z27_, e28_, h31_, (Or.inr ⟨h32_, r58_, hs62_, h61_, (Or.inl ⟨h63_, (Or.inl ⟨h64_, (Or.inl ⟨h65_, z66_, h67_, z68_, h69_, rfl, rfl⟩)⟩)⟩)⟩)⟩) (Nat.lt_of_lt_of_le (lf_c_X9_begin_5 v4_30 z68_ h14_ h69_ ) (Nat.le_of_lt_succ hm_30))
                  · refine w_iload dX12_heads_100 1 rfl ?_
                    refine w_iload dX12_heads_102 0 rfl ?_
                    refine w_if_eq (tgt := 111) dX12_heads_104 (by decide) li_0 (fun h70_ => ?_) (fun h9 => (absurd h9 (by decide)))
                    refine w_iconst (v := 1) dX12_heads_111 (by decide) ?_
                    refine w_icmp_ne (tgt := 119) dX12_heads_112 (by decide) (rfl : r15_.toInt = r15_.toInt) li_1 (fun h71_ => ?_) (fun h71_ => ?_)
                    · refine w_iconst (v := 0) dX12_heads_119 (by decide) ?_
                      refine w_iadd dX12_heads_120 (fun z72_ h73_ => ?_)
                      refine w_istore_n (ls' := [(3, vI z72_), (6, vI 0), (5, vI r15_), (4, vI v4_30), (0, vR (12, 0, 0)), (1, vI v), (2, vI u)]) dX12_heads_121 rfl (by decide) rfl ?_
                      refine w_iincB (j := 3) (f := fun z74_ => [(4, vI z74_), (3, vI z72_), (6, vI 0), (5, vI r15_), (0, vR (12, 0, 0)), (1, vI v), (2, vI u)]) dX12_heads_122 rfl (by decide) (fun _ => rfl) (rfl : v4_30.toInt = v4_30.toInt) li_1 (lf_c_X9_begin_2 v4_30 hv0_30 h14_ ) (fun z74_ h75_ => ?_)
                      refine w_goto (tgt := 30) dX12_heads_125 (by decide) ?_
                      refine w_loc (ls' := [(4, vI z74_), (3, vI z72_), (0, vR (12, 0, 0)), (1, vI v), (2, vI u)]) [0, 1, 4, 5, 6] rfl ?_
                      exact ih_30 z74_ z72_ (lf_c_X5_takeFrom_3 v4_30 z74_ hv0_30 h75_ ) (lf_c_X9_begin_4 v4_30 z74_ h14_ h75_ ) (RCH.tail hL_30 ⟨hv0_30, hv1_30, h14_, r15_, hs19_, h18_, r20_, hs24_, h23_, z25_, h26_, j29_, h30_, z27_, e28_, h31_, (Or.inr ⟨h32_, r58_, hs62_, h61_, (Or.inl ⟨h63_, (Or.inl ⟨h64_, (Or.inr ⟨h65_, (Or.inl ⟨h71_, z72_, h73_, z74_, h75_, rfl, rfl⟩)⟩)⟩)⟩)⟩)⟩) (Nat.lt_of_lt_of_le (lf_c_X9_begin_5 v4_30 z74_ h14_ h75_ ) (Nat.le_of_lt_succ hm_30))
                    · refine w_iconst (v := 1) dX12_heads_115 (by decide) ?_
                      refine w_goto (tgt := 120) dX12_heads_116 (by decide) ?_
                      refine w_iadd dX12_heads_120 (fun z76_ h77_ => ?_)
                      refine w_istore_n (ls' := [(3, vI z76_), (6, vI 0), (5, vI r15_), (4, vI v4_30), (0, vR (12, 0, 0)), (1, vI v), (2, vI u)]) dX12_heads_121 rfl (by decide) rfl ?_
                      refine w_iincB (j := 3) (f := fun z78_ => [(4, vI z78_), (3, vI z76_), (6, vI 0), (5, vI r15_), (0, vR (12, 0, 0)), (1, vI v), (2, vI u)]) dX12_heads_122 rfl (by decide) (fun _ => rfl) (rfl : v4_30.toInt = v4_30.toInt) li_1 (lf_c_X9_begin_2 v4_30 hv0_30 h14_ ) (fun z78_ h79_ => ?_)
                      refine w_goto (tgt := 30) dX12_heads_125 (by decide) ?_
                      refine w_loc (ls' := [(4, vI z78_), (3, vI z76_), (0, vR (12, 0, 0)), (1, vI v), (2, vI u)]) [0, 1, 4, 5, 6] rfl ?_
                      exact ih_30 z78_ z76_ (lf_c_X5_takeFrom_3 v4_30 z78_ hv0_30 h79_ ) (lf_c_X9_begin_4 v4_30 z78_ h14_ h79_ ) (RCH.tail hL_30 ⟨hv0_30, hv1_30, h14_, r15_, hs19_, h18_, r20_, hs24_, h23_, z25_, h26_, j29_, h30_, z27_, e28_, h31_, (Or.inr ⟨h32_, r58_, hs62_, h61_, (Or.inl ⟨h63_, (Or.inl ⟨h64_, (Or.inr ⟨h65_, (Or.inr ⟨h71_, z76_, h77_, z78_, h79_, rfl, rfl⟩)⟩)⟩)⟩)⟩)⟩) (Nat.lt_of_lt_of_le (lf_c_X9_begin_5 v4_30 z78_ h14_ h79_ ) (Nat.le_of_lt_succ hm_30))
                · refine w_iload dX12_heads_86 1 rfl ?_
                  refine w_iload_n dX12_heads_88 rfl 6 rfl ?_
                  refine w_icmp_ne (tgt := 119) dX12_heads_89 (by decide) (rfl : r15_.toInt = r15_.toInt) (rfl : u.toInt = u.toInt) (fun h80_ => ?_) (fun h80_ => ?_)
                  · refine w_iconst (v := 0) dX12_heads_119 (by decide) ?_
                    refine w_iadd dX12_heads_120 (fun z81_ h82_ => ?_)
                    refine w_istore_n (ls' := [(3, vI z81_), (6, vI 0), (5, vI r15_), (4, vI v4_30), (0, vR (12, 0, 0)), (1, vI v), (2, vI u)]) dX12_heads_121 rfl (by decide) rfl ?_
                    refine w_iincB (j := 3) (f := fun z83_ => [(4, vI z83_), (3, vI z81_), (6, vI 0), (5, vI r15_), (0, vR (12, 0, 0)), (1, vI v), (2, vI u)]) dX12_heads_122 rfl (by decide) (fun _ => rfl) (rfl : v4_30.toInt = v4_30.toInt) li_1 (lf_c_X9_begin_2 v4_30 hv0_30 h14_ ) (fun z83_ h84_ => ?_)
                    refine w_goto (tgt := 30) dX12_heads_125 (by decide) ?_
                    refine w_loc (ls' := [(4, vI z83_), (3, vI z81_), (0, vR (12, 0, 0)), (1, vI v), (2, vI u)]) [0, 1, 4, 5, 6] rfl ?_
                    exact ih_30 z83_ z81_ (lf_c_X5_takeFrom_3 v4_30 z83_ hv0_30 h84_ ) (lf_c_X9_begin_4 v4_30 z83_ h14_ h84_ ) (RCH.tail hL_30 ⟨hv0_30, hv1_30, h14_, r15_, hs19_, h18_, r20_, hs24_, h23_, z25_, h26_, j29_, h30_, z27_, e28_, h31_, (Or.inr ⟨h32_, r58_, hs62_, h61_, (Or.inl ⟨h63_, (Or.inr ⟨h64_, (Or.inl ⟨h80_, z81_, h82_, z83_, h84_, rfl, rfl⟩)⟩)⟩)⟩)⟩) (Nat.lt_of_lt_of_le (lf_c_X9_begin_5 v4_30 z83_ h14_ h84_ ) (Nat.le_of_lt_succ hm_30))
                  · refine w_goto (tgt := 115) dX12_heads_92 (by decide) ?_
                    refine w_iconst (v := 1) dX12_heads_115 (by decide) ?_
                    refine w_goto (tgt := 120) dX12_heads_116 (by decide) ?_
                    refine w_iadd dX12_heads_120 (fun z85_ h86_ => ?_)
                    refine w_istore_n (ls' := [(3, vI z85_), (6, vI 0), (5, vI r15_), (4, vI v4_30), (0, vR (12, 0, 0)), (1, vI v), (2, vI u)]) dX12_heads_121 rfl (by decide) rfl ?_
                    refine w_iincB (j := 3) (f := fun z87_ => [(4, vI z87_), (3, vI z85_), (6, vI 0), (5, vI r15_), (0, vR (12, 0, 0)), (1, vI v), (2, vI u)]) dX12_heads_122 rfl (by decide) (fun _ => rfl) (rfl : v4_30.toInt = v4_30.toInt) li_1 (lf_c_X9_begin_2 v4_30 hv0_30 h14_ ) (fun z87_ h88_ => ?_)
                    refine w_goto (tgt := 30) dX12_heads_125 (by decide) ?_
                    refine w_loc (ls' := [(4, vI z87_), (3, vI z85_), (0, vR (12, 0, 0)), (1, vI v), (2, vI u)]) [0, 1, 4, 5, 6] rfl ?_
                    exact ih_30 z87_ z85_ (lf_c_X5_takeFrom_3 v4_30 z87_ hv0_30 h88_ ) (lf_c_X9_begin_4 v4_30 z87_ h14_ h88_ ) (RCH.tail hL_30 ⟨hv0_30, hv1_30, h14_, r15_, hs19_, h18_, r20_, hs24_, h23_, z25_, h26_, j29_, h30_, z27_, e28_, h31_, (Or.inr ⟨h32_, r58_, hs62_, h61_, (Or.inl ⟨h63_, (Or.inr ⟨h64_, (Or.inr ⟨h80_, z85_, h86_, z87_, h88_, rfl, rfl⟩)⟩)⟩)⟩)⟩) (Nat.lt_of_lt_of_le (lf_c_X9_begin_5 v4_30 z87_ h14_ h88_ ) (Nat.le_of_lt_succ hm_30))
              · refine w_iconst (v := 1) dX12_heads_73 (by decide) ?_
                refine w_goto (tgt := 78) dX12_heads_74 (by decide) ?_
                refine w_istore (ls' := [(6, vI 1), (5, vI r15_), (4, vI v4_30), (3, vI v3_30), (0, vR (12, 0, 0)), (1, vI v), (2, vI u)]) dX12_heads_78 (by decide) rfl ?_
                refine w_iload_n dX12_heads_80 rfl 3 rfl ?_
                refine w_iload_n dX12_heads_81 rfl 6 rfl ?_
                refine w_iconst (v := 3) dX12_heads_82 (by decide) ?_
                refine w_icmp_ge (tgt := 95) dX12_heads_83 (by decide) (rfl : u.toInt = u.toInt) li_3 (fun h89_ => ?_) (fun h89_ => ?_)
                · refine w_iload dX12_heads_95 1 rfl ?_
                  refine w_if_le (tgt := 119) dX12_heads_97 (by decide) (rfl : r15_.toInt = r15_.toInt) (fun h90_ => ?_) (fun h90_ => ?_)
                  · refine w_iconst (v := 0) dX12_heads_119 (by decide) ?_
                    refine w_iadd dX12_heads_120 (fun z91_ h92_ => ?_)
                    refine w_istore_n (ls' := [(3, vI z91_), (6, vI 1), (5, vI r15_), (4, vI v4_30), (0, vR (12, 0, 0)), (1, vI v), (2, vI u)]) dX12_heads_121 rfl (by decide) rfl ?_
                    refine w_iincB (j := 3) (f := fun z93_ => [(4, vI z93_), (3, vI z91_), (6, vI 1), (5, vI r15_), (0, vR (12, 0, 0)), (1, vI v), (2, vI u)]) dX12_heads_122 rfl (by decide) (fun _ => rfl) (rfl : v4_30.toInt = v4_30.toInt) li_1 (lf_c_X9_begin_2 v4_30 hv0_30 h14_ ) (fun z93_ h94_ => ?_)
                    refine w_goto (tgt := 30) dX12_heads_125 (by decide) ?_
                    refine w_loc (ls' := [(4, vI z93_), (3, vI z91_), (0, vR (12, 0, 0)), (1, vI v), (2, vI u)]) [0, 1, 4, 5, 6] rfl ?_
                    exact ih_30 z93_ z91_ (lf_c_X5_takeFrom_3 v4_30 z93_ hv0_30 h94_ ) (lf_c_X9_begin_4 v4_30 z93_ h14_ h94_ ) (RCH.tail hL_30 ⟨hv0_30, hv1_30, h14_, r15_, hs19_, h18_, r20_, hs24_, h23_, z25_, h26_, j29_, h30_, z27_, e28_, h31_, (Or.inr ⟨h32_, r58_, hs62_, h61_, (Or.inr ⟨h63_, (Or.inl ⟨h89_, (Or.inl ⟨h90_, z91_, h92_, z93_, h94_, rfl, rfl⟩)⟩)⟩)⟩)⟩) (Nat.lt_of_lt_of_le (lf_c_X9_begin_5 v4_30 z93_ h14_ h94_ ) (Nat.le_of_lt_succ hm_30))
                  · refine w_iload dX12_heads_100 1 rfl ?_
                    refine w_iload dX12_heads_102 0 rfl ?_
                    refine w_if_eq (tgt := 111) dX12_heads_104 (by decide) li_1 (fun h9 => (absurd h9 (by decide))) (fun h95_ => ?_)
                    refine w_iconst (v := 2) dX12_heads_107 (by decide) ?_
                    refine w_goto (tgt := 112) dX12_heads_108 (by decide) ?_
                    refine w_icmp_ne (tgt := 119) dX12_heads_112 (by decide) (rfl : r15_.toInt = r15_.toInt) li_2 (fun h96_ => ?_) (fun h96_ => ?_)
                    · refine w_iconst (v := 0) dX12_heads_119 (by decide) ?_
                      refine w_iadd dX12_heads_120 (fun z97_ h98_ => ?_)
                      refine w_istore_n (ls' := [(3, vI z97_), (6, vI 1), (5, vI r15_), (4, vI v4_30), (0, vR (12, 0, 0)), (1, vI v), (2, vI u)]) dX12_heads_121 rfl (by decide) rfl ?_
                      refine w_iincB (j := 3) (f := fun z99_ => [(4, vI z99_), (3, vI z97_), (6, vI 1), (5, vI r15_), (0, vR (12, 0, 0)), (1, vI v), (2, vI u)]) dX12_heads_122 rfl (by decide) (fun _ => rfl) (rfl : v4_30.toInt = v4_30.toInt) li_1 (lf_c_X9_begin_2 v4_30 hv0_30 h14_ ) (fun z99_ h100_ => ?_)
                      refine w_goto (tgt := 30) dX12_heads_125 (by decide) ?_
                      refine w_loc (ls' := [(4, vI z99_), (3, vI z97_), (0, vR (12, 0, 0)), (1, vI v), (2, vI u)]) [0, 1, 4, 5, 6] rfl ?_
                      exact ih_30 z99_ z97_ (lf_c_X5_takeFrom_3 v4_30 z99_ hv0_30 h100_ ) (lf_c_X9_begin_4 v4_30 z99_ h14_ h100_ ) (RCH.tail hL_30 ⟨hv0_30, hv1_30, h14_, r15_, hs19_, h18_, r20_, hs24_, h23_, z25_, h26_, j29_, h30_, z27_, e28_, h31_, (Or.inr ⟨h32_, r58_, hs62_, h61_, (Or.inr ⟨h63_, (Or.inl ⟨h89_, (Or.inr ⟨h90_, (Or.inl ⟨h96_, z97_, h98_, z99_, h100_, rfl, rfl⟩)⟩)⟩)⟩)⟩)⟩) (Nat.lt_of_lt_of_le (lf_c_X9_begin_5 v4_30 z99_ h14_ h100_ ) (Nat.le_of_lt_succ hm_30))
                    · refine w_iconst (v := 1) dX12_heads_115 (by decide) ?_
                      refine w_goto (tgt := 120) dX12_heads_116 (by decide) ?_
                      refine w_iadd dX12_heads_120 (fun z101_ h102_ => ?_)
                      refine w_istore_n (ls' := [(3, vI z101_), (6, vI 1), (5, vI r15_), (4, vI v4_30), (0, vR (12, 0, 0)), (1, vI v), (2, vI u)]) dX12_heads_121 rfl (by decide) rfl ?_
                      refine w_iincB (j := 3) (f := fun z103_ => [(4, vI z103_), (3, vI z101_), (6, vI 1), (5, vI r15_), (0, vR (12, 0, 0)), (1, vI v), (2, vI u)]) dX12_heads_122 rfl (by decide) (fun _ => rfl) (rfl : v4_30.toInt = v4_30.toInt) li_1 (lf_c_X9_begin_2 v4_30 hv0_30 h14_ ) (fun z103_ h104_ => ?_)
                      refine w_goto (tgt := 30) dX12_heads_125 (by decide) ?_
                      refine w_loc (ls' := [(4, vI z103_), (3, vI z101_), (0, vR (12, 0, 0)), (1, vI v), (2, vI u)]) [0, 1, 4, 5, 6] rfl ?_
                      exact ih_30 z103_ z101_ (lf_c_X5_takeFrom_3 v4_30 z103_ hv0_30 h104_ ) (lf_c_X9_begin_4 v4_30 z103_ h14_ h104_ ) (RCH.tail hL_30 ⟨hv0_30, hv1_30, h14_, r15_, hs19_, h18_, r20_, hs24_, h23_, z25_, h26_, j29_, h30_, z27_, e28_, h31_, (Or.inr ⟨h32_, r58_, hs62_, h61_, (Or.inr ⟨h63_, (Or.inl ⟨h89_, (Or.inr ⟨h90_, (Or.inr ⟨h96_, z101_, h102_, z103_, h104_, rfl, rfl⟩)⟩)⟩)⟩)⟩)⟩) (Nat.lt_of_lt_of_le (lf_c_X9_begin_5 v4_30 z103_ h14_ h104_ ) (Nat.le_of_lt_succ hm_30))
                · refine w_iload dX12_heads_86 1 rfl ?_
                  refine w_iload_n dX12_heads_88 rfl 6 rfl ?_
                  refine w_icmp_ne (tgt := 119) dX12_heads_89 (by decide) (rfl : r15_.toInt = r15_.toInt) (rfl : u.toInt = u.toInt) (fun h105_ => ?_) (fun h105_ => ?_)
                  · refine w_iconst (v := 0) dX12_heads_119 (by decide) ?_
                    refine w_iadd dX12_heads_120 (fun z106_ h107_ => ?_)
                    refine w_istore_n (ls' := [(3, vI z106_), (6, vI 1), (5, vI r15_), (4, vI v4_30), (0, vR (12, 0, 0)), (1, vI v), (2, vI u)]) dX12_heads_121 rfl (by decide) rfl ?_
                    refine w_iincB (j := 3) (f := fun z108_ => [(4, vI z108_), (3, vI z106_), (6, vI 1), (5, vI r15_), (0, vR (12, 0, 0)), (1, vI v), (2, vI u)]) dX12_heads_122 rfl (by decide) (fun _ => rfl) (rfl : v4_30.toInt = v4_30.toInt) li_1 (lf_c_X9_begin_2 v4_30 hv0_30 h14_ ) (fun z108_ h109_ => ?_)
                    refine w_goto (tgt := 30) dX12_heads_125 (by decide) ?_
                    refine w_loc (ls' := [(4, vI z108_), (3, vI z106_), (0, vR (12, 0, 0)), (1, vI v), (2, vI u)]) [0, 1, 4, 5, 6] rfl ?_
                    exact ih_30 z108_ z106_ (lf_c_X5_takeFrom_3 v4_30 z108_ hv0_30 h109_ ) (lf_c_X9_begin_4 v4_30 z108_ h14_ h109_ ) (RCH.tail hL_30 ⟨hv0_30, hv1_30, h14_, r15_, hs19_, h18_, r20_, hs24_, h23_, z25_, h26_, j29_, h30_, z27_, e28_, h31_, (Or.inr ⟨h32_, r58_, hs62_, h61_, (Or.inr ⟨h63_, (Or.inr ⟨h89_, (Or.inl ⟨h105_, z106_, h107_, z108_, h109_, rfl, rfl⟩)⟩)⟩)⟩)⟩) (Nat.lt_of_lt_of_le (lf_c_X9_begin_5 v4_30 z108_ h14_ h109_ ) (Nat.le_of_lt_succ hm_30))
                  · refine w_goto (tgt := 115) dX12_heads_92 (by decide) ?_
                    refine w_iconst (v := 1) dX12_heads_115 (by decide) ?_
                    refine w_goto (tgt := 120) dX12_heads_116 (by decide) ?_
                    refine w_iadd dX12_heads_120 (fun z110_ h111_ => ?_)
                    refine w_istore_n (ls' := [(3, vI z110_), (6, vI 1), (5, vI r15_), (4, vI v4_30), (0, vR (12, 0, 0)), (1, vI v), (2, vI u)]) dX12_heads_121 rfl (by decide) rfl ?_
                    refine w_iincB (j := 3) (f := fun z112_ => [(4, vI z112_), (3, vI z110_), (6, vI 1), (5, vI r15_), (0, vR (12, 0, 0)), (1, vI v), (2, vI u)]) dX12_heads_122 rfl (by decide) (fun _ => rfl) (rfl : v4_30.toInt = v4_30.toInt) li_1 (lf_c_X9_begin_2 v4_30 hv0_30 h14_ ) (fun z112_ h113_ => ?_)
                    refine w_goto (tgt := 30) dX12_heads_125 (by decide) ?_
                    refine w_loc (ls' := [(4, vI z112_), (3, vI z110_), (0, vR (12, 0, 0)), (1, vI v), (2, vI u)]) [0, 1, 4, 5, 6] rfl ?_
                    exact ih_30 z112_ z110_ (lf_c_X5_takeFrom_3 v4_30 z112_ hv0_30 h113_ ) (lf_c_X9_begin_4 v4_30 z112_ h14_ h113_ ) (RCH.tail hL_30 ⟨hv0_30, hv1_30, h14_, r15_, hs19_, h18_, r20_, hs24_, h23_, z25_, h26_, j29_, h30_, z27_, e28_, h31_, (Or.inr ⟨h32_, r58_, hs62_, h61_, (Or.inr ⟨h63_, (Or.inr ⟨h89_, (Or.inr ⟨h105_, z110_, h111_, z112_, h113_, rfl, rfl⟩)⟩)⟩)⟩)⟩) (Nat.lt_of_lt_of_le (lf_c_X9_begin_5 v4_30 z112_ h14_ h113_ ) (Nat.le_of_lt_succ hm_30))
      exact lp13_ _ 0 0 (lf_c_X5_takeFrom_5 ) (lf_c_X9_begin_7 ) RCH.refl (Nat.lt_succ_self _)
    · simp only [li_0, li_3] at h10_
      refine w_if_ne (tgt := 25) dX12_heads_15 (by decide) li_0 (fun h9 => (absurd h9 (by decide))) (fun h114_ => ?_)
      refine w_aload_n dX12_heads_18 rfl 0 rfl ?_
      refine w_ldc (v := (-1000001)) m_1433 dX12_heads_19 ?_
      refine w_callV (as := [vI (-1000001)]) (rest := []) (c_X12_finding l G cy ad (d + 2) (-1000001) Mz hIz (by first | decide | (unfold vF; omega) | (unfold vRw; omega))) kV_X12_finding pnn_17 (Nat.le_of_ble_eq_true rfl) m_1434 rfl rfl rfl ic_12 rfl rfl (by decide) (Nat.le_of_ble_eq_true rfl) dX12_heads_21 (fun r115_ M116_ q117_ => ?_)
      obtain ⟨hI119_, hF120_, h118_, hs122_⟩ := q117_
      have hF121_ := hFz.tr hF120_ (fun c k => (fun h => h.elim (fun h => (Or.inl ⟨h.1, h.2⟩)) (fun h => h.elim)))
      simp only [li_m1000001] at h118_
      exact w_iret rfl dX12_heads_24 ⟨hI119_, hF121_, trivial, (Or.inl ⟨hs5_, h4_, (Or.inr ⟨hs11_, h10_, M116_, hI119_, hF120_, r115_, hs122_, h118_, rfl, rfl⟩)⟩)⟩
  · refine w_if_eq (tgt := 18) dX12_heads_6 (by decide) li_0 (fun h123_ => ?_) (fun h9 => (absurd h9 (by decide)))
    refine w_aload_n dX12_heads_18 rfl 0 rfl ?_
    refine w_ldc (v := (-1000001)) m_1433 dX12_heads_19 ?_
    refine w_callV (as := [vI (-1000001)]) (rest := []) (c_X12_finding l G cy ad (d + 2) (-1000001) Mz hIz (by first | decide | (unfold vF; omega) | (unfold vRw; omega))) kV_X12_finding pnn_17 (Nat.le_of_ble_eq_true rfl) m_1434 rfl rfl rfl ic_12 rfl rfl (by decide) (Nat.le_of_ble_eq_true rfl) dX12_heads_21 (fun r124_ M125_ q126_ => ?_)
    obtain ⟨hI128_, hF129_, h127_, hs131_⟩ := q126_
    have hF130_ := hFz.tr hF129_ (fun c k => (fun h => h.elim (fun h => (Or.inl ⟨h.1, h.2⟩)) (fun h => h.elim)))
    simp only [li_m1000001] at h127_
    exact w_iret rfl dX12_heads_24 ⟨hI128_, hF130_, trivial, (Or.inr ⟨hs5_, M125_, hI128_, hF129_, r124_, hs131_, h127_, rfl, rfl⟩)⟩
def S_c_X12_alike : rf → Nat → Prop := fun c k => (c.1 = 58 ∧ c.2.1 = 0 ∧ k = 0) ∨ (c.1 = 58 ∧ c.2.1 = 0 ∧ k = 1) ∨ (c.1 = 58 ∧ c.2.1 = 0 ∧ k = 2) ∨ (c.1 = 58 ∧ c.2.1 = 0 ∧ k = 3) ∨ (c.1 = 59 ∧ c.2.1 = 0) ∨ (c.1 = 53 ∧ c.2.1 = 0) ∨ False
def ST_X12_alike_51 (v : Int32) (u : Int32) (t : Int32) (s : Int32) (q : Int32) (Mz : mM) (v7_51 : Int32) (v6_51 : Int32) (M_51 : mM) (v7_51y : Int32) (v6_51y : Int32) (M_51y : mM) : Prop := (0 ≤ v7_51.toInt) ∧ (v7_51.toInt ≤ 5) ∧ (InvD M_51) ∧ (FR (S_c_X12_alike) Mz M_51) ∧ (v7_51.toInt < 5) ∧ ∃ z32_ : Int32, (z32_.toInt = u.toInt / 100) ∧ ∃ z34_ : Int32, (z34_.toInt = u.toInt % 100) ∧ ∃ M37_ : mM, (InvD M37_) ∧ (FR (S_c_X12_strength) M_51 M37_) ∧ ∃ r36_ : Int32, (SP_X12_strength v7_51 z32_ z34_ t M_51 r36_ M37_) ∧ (((¬ r36_.toInt = q.toInt) ∧ ∃ z46_ : Int32, (z46_ = v6_51 ||| (0 : Int32)) ∧ ∃ z48_ : Int32, (z48_.toInt = v7_51.toInt + 1) ∧ v7_51y = z48_ ∧ v6_51y = z46_ ∧ M_51y = M37_) ∨ ((r36_.toInt = q.toInt) ∧ ∃ r50_ : Int32, (SP_X12_ears v M37_ r50_) ∧ (0 ≤ r50_.toInt ∧ r50_.toInt ≤ 9) ∧ ∃ z55_ : Int32, (z55_.toInt = u.toInt / 100) ∧ ∃ z57_ : Int32, (z57_.toInt = u.toInt % 100) ∧ ∃ M60_ : mM, (InvD M60_) ∧ (FR (S_c_X12_isHeard) M37_ M60_) ∧ ∃ r59_ : Int32, (SP_X12_isHeard r50_ v7_51 z55_ z57_ s t M37_ r59_ M60_) ∧ ((0 ≤ r59_.toInt ∧ r59_.toInt ≤ 1)) ∧ (((r59_.toInt = 0) ∧ ∃ z69_ : Int32, (z69_ = v6_51 ||| (0 : Int32)) ∧ ∃ z71_ : Int32, (z71_.toInt = v7_51.toInt + 1) ∧ v7_51y = z71_ ∧ v6_51y = z69_ ∧ M_51y = M60_) ∨ ((¬ r59_.toInt = 0) ∧ ∃ z74_ : Int32, (z74_ = (1 : Int32) <<< (v7_51 &&& 31)) ∧ ∃ z76_ : Int32, (z76_ = v6_51 ||| z74_) ∧ ∃ z78_ : Int32, (z78_.toInt = v7_51.toInt + 1) ∧ v7_51y = z78_ ∧ v6_51y = z76_ ∧ M_51y = M60_))))
def SP_X12_alike (v : Int32) (u : Int32) (t : Int32) (s : Int32) (q : Int32) (Mz : mM) (r_ : Int32) (M_ : mM) : Prop := (((SP_is2 v Mz (1 : Int32)) ∧ (0 ≤ v.toInt ∧ v.toInt ≤ 7) ∧ (((SP_X12_isClick u Mz (1 : Int32)) ∧ (100 ≤ u.toInt ∧ u.toInt ≤ 999) ∧ ∃ r13_ : Int32, (SP_X12_reach v Mz r13_) ∧ (0 ≤ r13_.toInt ∧ r13_.toInt ≤ 12) ∧ (((SP_X12_within t 1 r13_ Mz (1 : Int32)) ∧ (1 ≤ t.toInt ∧ t.toInt ≤ r13_.toInt) ∧ (((SP_X12_isSide s Mz (1 : Int32)) ∧ (0 ≤ s.toInt ∧ s.toInt ≤ 7) ∧ ∃ v7_51 : Int32, (0 ≤ v7_51.toInt) ∧ (v7_51.toInt ≤ 5) ∧ ∃ v6_51 : Int32, ∃ M_51 : mM, (RCH (fun x_ y_ => ST_X12_alike_51 v u t s q Mz x_.1 x_.2.1 x_.2.2 y_.1 y_.2.1 y_.2.2) ((0 : Int32), (0 : Int32), Mz) (v7_51, v6_51, M_51)) ∧ (InvD M_51) ∧ (FR (S_c_X12_alike) Mz M_51) ∧ (5 ≤ v7_51.toInt) ∧ r_ = v6_51 ∧ M_ = M_51) ∨ ((SP_X12_isSide s Mz (0 : Int32)) ∧ (¬ (0 ≤ s.toInt ∧ s.toInt ≤ 7)) ∧ ∃ M82_ : mM, (InvD M82_) ∧ (FR (S_c_X12_finding) Mz M82_) ∧ ∃ r81_ : Int32, (SP_X12_finding (-1000001) Mz r81_ M82_) ∧ (r81_.toInt = (-1000001)) ∧ r_ = r81_ ∧ M_ = M82_))) ∨ ((SP_X12_within t 1 r13_ Mz (0 : Int32)) ∧ (¬ (1 ≤ t.toInt ∧ t.toInt ≤ r13_.toInt)) ∧ ∃ M91_ : mM, (InvD M91_) ∧ (FR (S_c_X12_finding) Mz M91_) ∧ ∃ r90_ : Int32, (SP_X12_finding (-1000001) Mz r90_ M91_) ∧ (r90_.toInt = (-1000001)) ∧ r_ = r90_ ∧ M_ = M91_))) ∨ ((SP_X12_isClick u Mz (0 : Int32)) ∧ ∃ M100_ : mM, (InvD M100_) ∧ (FR (S_c_X12_finding) Mz M100_) ∧ ∃ r99_ : Int32, (SP_X12_finding (-1000001) Mz r99_ M100_) ∧ (r99_.toInt = (-1000001)) ∧ r_ = r99_ ∧ M_ = M100_))) ∨ ((SP_is2 v Mz (0 : Int32)) ∧ ∃ M109_ : mM, (InvD M109_) ∧ (FR (S_c_X12_finding) Mz M109_) ∧ ∃ r108_ : Int32, (SP_X12_finding (-1000001) Mz r108_ M109_) ∧ (r108_.toInt = (-1000001)) ∧ r_ = r108_ ∧ M_ = M109_))
theorem lf_c_X12_alike_2 (v7_51 : Int32) (hv0_51 : 0 ≤ v7_51.toInt) (h31_ : v7_51.toInt < 5) : 0 ≤ v7_51.toInt ∧ v7_51.toInt ≤ 99 := by omega
set_option maxHeartbeats 4000000 in
set_option maxRecDepth 100000 in
theorem c_X12_alike (l : Launch) (G : va_G) (cy : Nat → ClassId) (ad : rf → Nat) (d : Nat) (v : Int32) (u : Int32) (t : Int32) (s : Int32) (q : Int32) (Mz : mM) (hIz : InvD Mz) : WP DD l G cy ad yX12_alike cX12_alike 9 (some .int) (d + 4) 0 [(0, vR (12, 0, 0)), (1, vI v), (2, vI u), (3, vI t), (4, vI s), (5, vI q)] [] Mz (fun r M' => InvD M' ∧ FR (S_c_X12_alike) Mz M' ∧ (True) ∧ SP_X12_alike v u t s q Mz r M') := by
  have hFz : FR (S_c_X12_alike) Mz Mz := FR.self
  refine w_aload_n dX12_alike_0 rfl 0 rfl ?_
  refine w_iload_n dX12_alike_1 rfl 1 rfl ?_
  refine w_iconst (v := 2) dX12_alike_2 (by decide) ?_
  refine w_callV (as := [vI v, vI 2]) (rest := []) (c_is2 l G cy ad (d + 2) v Mz hIz) kV_X12_is pnn_17 (Nat.le_of_ble_eq_true rfl) m_1465 rfl rfl rfl ic_12 rfl rfl (by decide) (Nat.le_of_ble_eq_true rfl) dX12_alike_3 (fun r1_ M2_ q3_ => ?_)
  obtain ⟨rfl, h4_, hs5_⟩ := q3_
  rcases h4_ with ⟨rfl, h4_⟩ | rfl
  · refine w_if_eq (tgt := 38) dX12_alike_6 (by decide) li_1 (fun h9 => (absurd h9 (by decide))) (fun h6_ => ?_)
    refine w_aload_n dX12_alike_9 rfl 0 rfl ?_
    refine w_iload_n dX12_alike_10 rfl 2 rfl ?_
    refine w_callV (as := [vI u]) (rest := []) (c_X12_isClick l G cy ad (d + 2) u Mz hIz) kV_X12_isClick pnn_17 (Nat.le_of_ble_eq_true rfl) m_1624 rfl rfl rfl ic_12 rfl rfl (by decide) (Nat.le_of_ble_eq_true rfl) dX12_alike_11 (fun r7_ M8_ q9_ => ?_)
    obtain ⟨rfl, h10_, hs11_⟩ := q9_
    rcases h10_ with ⟨rfl, h10_⟩ | rfl
    · refine w_if_eq (tgt := 38) dX12_alike_14 (by decide) li_1 (fun h9 => (absurd h9 (by decide))) (fun h12_ => ?_)
      refine w_iload_n dX12_alike_17 rfl 3 rfl ?_
      refine w_iconst (v := 1) dX12_alike_18 (by decide) ?_
      refine w_aload_n dX12_alike_19 rfl 0 rfl ?_
      refine w_iload_n dX12_alike_20 rfl 1 rfl ?_
      refine w_callV (as := [vI v]) (rest := [vI 1, vI t]) (c_X12_reach l G cy ad d v Mz hIz h4_) kV_X12_reach pnn_17 (Nat.le_of_ble_eq_true rfl) m_1513 rfl rfl rfl ic_12 rfl rfl (by decide) (Nat.le_of_ble_eq_true rfl) dX12_alike_21 (fun r13_ M14_ q15_ => ?_)
      obtain ⟨rfl, h16_, hs17_⟩ := q15_
      refine w_callS (as := [vI t, vI 1, vI r13_]) (rest := []) (c_X12_within l G cy ad (d + 3) t 1 r13_ Mz hIz) kS_X12_within pnn_17 (Nat.le_of_ble_eq_true rfl) m_1427 rfl rfl (by decide) (Nat.le_of_ble_eq_true rfl) dX12_alike_24 (fun r18_ M19_ q20_ => ?_)
      obtain ⟨rfl, h21_, hs22_⟩ := q20_
      rcases h21_ with ⟨rfl, h21_⟩ | ⟨rfl, h21_⟩
      · simp only [li_1] at h21_
        refine w_if_eq (tgt := 38) dX12_alike_27 (by decide) li_1 (fun h9 => (absurd h9 (by decide))) (fun h23_ => ?_)
        refine w_iload dX12_alike_30 4 rfl ?_
        refine w_callS (as := [vI s]) (rest := []) (c_X12_isSide l G cy ad (d + 2) s Mz hIz) kS_X12_isSide pnn_17 (Nat.le_of_ble_eq_true rfl) m_1473 rfl rfl (by decide) (Nat.le_of_ble_eq_true rfl) dX12_alike_32 (fun r24_ M25_ q26_ => ?_)
        obtain ⟨rfl, h27_, hs28_⟩ := q26_
        rcases h27_ with ⟨rfl, h27_⟩ | ⟨rfl, h27_⟩
        · refine w_if_ne (tgt := 45) dX12_alike_35 (by decide) li_1 (fun h29_ => ?_) (fun h9 => (absurd h9 (by decide)))
          refine w_iconst (v := 0) dX12_alike_45 (by decide) ?_
          refine w_istore (ls' := [(6, vI 0), (0, vR (12, 0, 0)), (1, vI v), (2, vI u), (3, vI t), (4, vI s), (5, vI q)]) dX12_alike_46 (by decide) rfl ?_
          refine w_iconst (v := 0) dX12_alike_48 (by decide) ?_
          refine w_istore (ls' := [(7, vI 0), (6, vI 0), (0, vR (12, 0, 0)), (1, vI v), (2, vI u), (3, vI t), (4, vI s), (5, vI q)]) dX12_alike_49 (by decide) rfl ?_
          have lp30_ : ∀ (nn_51 : Nat) (M_51 : mM) (hI_51 : InvD M_51) (hF_51 : FR (S_c_X12_alike) Mz M_51) (v7_51 : Int32) (v6_51 : Int32) (hv0_51 : 0 ≤ v7_51.toInt) (hv1_51 : v7_51.toInt ≤ 5) (hL_51 : RCH (fun x_ y_ => ST_X12_alike_51 v u t s q Mz x_.1 x_.2.1 x_.2.2 y_.1 y_.2.1 y_.2.2) ((0 : Int32), (0 : Int32), Mz) (v7_51, v6_51, M_51)), (2147483648 - v7_51.toInt).toNat < nn_51 → WP DD l G cy ad yX12_alike cX12_alike 9 (some .int) (d + 4) 51 [(7, vI v7_51), (6, vI v6_51), (0, vR (12, 0, 0)), (1, vI v), (2, vI u), (3, vI t), (4, vI s), (5, vI q)] [] M_51 (fun r M' => InvD M' ∧ FR (S_c_X12_alike) Mz M' ∧ (True) ∧ SP_X12_alike v u t s q Mz r M') := by
            intro nn_51
            induction nn_51 with
            | zero => intro M_51 hI_51 hF_51 v7_51 v6_51 hv0_51 hv1_51 hL_51 hm_51; exact absurd hm_51 (Nat.not_lt_zero _)
            | succ nn_51 ih_51 =>
              intro M_51 hI_51 hF_51 v7_51 v6_51 hv0_51 hv1_51 hL_51 hm_51
              refine w_iload dX12_alike_51 0 rfl ?_
              refine w_iconst (v := 5) dX12_alike_53 (by decide) ?_
              refine w_icmp_ge (tgt := 133) dX12_alike_54 (by decide) (rfl : v7_51.toInt = v7_51.toInt) li_5 (fun h31_ => ?_) (fun h31_ => ?_)
              · refine w_iload dX12_alike_133 1 rfl ?_
                exact w_iret rfl dX12_alike_135 ⟨hI_51, hF_51, trivial, (Or.inl ⟨hs5_, h4_, (Or.inl ⟨hs11_, h10_, r13_, hs17_, h16_, (Or.inl ⟨hs22_, h21_, (Or.inl ⟨hs28_, h27_, v7_51, hv0_51, hv1_51, v6_51, M_51, hL_51, hI_51, hF_51, h31_, rfl, rfl⟩)⟩)⟩)⟩)⟩
              · refine w_aload_n dX12_alike_57 rfl 2 rfl ?_
                refine w_iload dX12_alike_58 0 rfl ?_
                refine w_iload_n dX12_alike_60 rfl 4 rfl ?_
                refine w_bipush (v := 100) dX12_alike_61 (by decide) ?_
                refine w_idivB dX12_alike_63 (by decide) (rfl : u.toInt = u.toInt) li_100 (lf_c_X12_isClick_0 u h10_ ) (by decide) (fun z32_ h33_ => ?_)
                refine w_iload_n dX12_alike_64 rfl 4 rfl ?_
                refine w_bipush (v := 100) dX12_alike_65 (by decide) ?_
                refine w_iremB dX12_alike_67 (by decide) (rfl : u.toInt = u.toInt) li_100 (lf_c_X12_isClick_0 u h10_ ) (by decide) (fun z34_ h35_ => ?_)
                refine w_iload_n dX12_alike_68 rfl 5 rfl ?_
                refine w_callV (as := [vI v7_51, vI z32_, vI z34_, vI t]) (rest := []) (c_X12_strength l G cy ad (d + 1) v7_51 z32_ z34_ t M_51 hI_51 (lf_c_X12_alike_2 v7_51 hv0_51 h31_ )) kV_X12_strength pnn_17 (Nat.le_of_ble_eq_true rfl) m_1640 rfl rfl rfl ic_12 rfl rfl (by decide) (Nat.le_of_ble_eq_true rfl) dX12_alike_69 (fun r36_ M37_ q38_ => ?_)
                obtain ⟨hI40_, hF41_, h39_, hs43_⟩ := q38_
                have hF42_ := hF_51.tr hF41_ (fun c k => (fun h => h.elim (fun h => (Or.inl ⟨h.1, h.2.1, h.2.2⟩)) (fun h => h.elim (fun h => (Or.inr (Or.inl ⟨h.1, h.2.1, h.2.2⟩))) (fun h => h.elim (fun h => (Or.inr (Or.inr (Or.inl ⟨h.1, h.2.1, h.2.2⟩)))) (fun h => h.elim (fun h => (Or.inr (Or.inr (Or.inr (Or.inl ⟨h.1, h.2.1, h.2.2⟩))))) (fun h => h.elim (fun h => (Or.inr (Or.inr (Or.inr (Or.inr (Or.inl ⟨h.1, h.2⟩)))))) (fun h => h.elim)))))))
                refine w_iload dX12_alike_72 7 rfl ?_
                refine w_icmp_ne (tgt := 106) dX12_alike_74 (by decide) (rfl : r36_.toInt = r36_.toInt) (rfl : q.toInt = q.toInt) (fun h44_ => ?_) (fun h44_ => ?_)
                · refine w_iconst (v := 0) dX12_alike_106 (by decide) ?_
                  refine w_istore (ls' := [(8, vI 0), (7, vI v7_51), (6, vI v6_51), (0, vR (12, 0, 0)), (1, vI v), (2, vI u), (3, vI t), (4, vI s), (5, vI q)]) dX12_alike_107 (by decide) rfl ?_
                  refine w_iload dX12_alike_109 2 rfl ?_
                  refine w_iload dX12_alike_111 0 rfl ?_
                  refine w_if_eq (tgt := 123) dX12_alike_113 (by decide) li_0 (fun h45_ => ?_) (fun h9 => (absurd h9 (by decide)))
                  refine w_iconst (v := 0) dX12_alike_123 (by decide) ?_
                  refine w_ior dX12_alike_124 (fun z46_ h47_ => ?_)
                  refine w_istore (ls' := [(6, vI z46_), (8, vI 0), (7, vI v7_51), (0, vR (12, 0, 0)), (1, vI v), (2, vI u), (3, vI t), (4, vI s), (5, vI q)]) dX12_alike_125 (by decide) rfl ?_
                  refine w_iincB (j := 2) (f := fun z48_ => [(7, vI z48_), (6, vI z46_), (8, vI 0), (0, vR (12, 0, 0)), (1, vI v), (2, vI u), (3, vI t), (4, vI s), (5, vI q)]) dX12_alike_127 rfl (by decide) (fun _ => rfl) (rfl : v7_51.toInt = v7_51.toInt) li_1 (lf_c_X2_kindsAlike_0 v7_51 hv0_51 h31_ ) (fun z48_ h49_ => ?_)
                  refine w_goto (tgt := 51) dX12_alike_130 (by decide) ?_
                  refine w_loc (ls' := [(7, vI z48_), (6, vI z46_), (0, vR (12, 0, 0)), (1, vI v), (2, vI u), (3, vI t), (4, vI s), (5, vI q)]) [0, 1, 3, 4, 5, 6, 7, 8] rfl ?_
                  exact ih_51 M37_ hI40_ hF42_ z48_ z46_ (lf_c_X5_takeFrom_3 v7_51 z48_ hv0_51 h49_ ) (lf_c_X2_kindsAlike_2 v7_51 z48_ h31_ h49_ ) (RCH.tail hL_51 ⟨hv0_51, hv1_51, hI_51, hF_51, h31_, z32_, h33_, z34_, h35_, M37_, hI40_, hF41_, r36_, hs43_, (Or.inl ⟨h44_, z46_, h47_, z48_, h49_, rfl, rfl, rfl⟩)⟩) (Nat.lt_of_lt_of_le (lf_c_X2_kindsAlike_3 v7_51 z48_ h31_ h49_ ) (Nat.le_of_lt_succ hm_51))
                · refine w_aload_n dX12_alike_77 rfl 2 rfl ?_
                  refine w_aload_n dX12_alike_78 rfl 2 rfl ?_
                  refine w_iload_n dX12_alike_79 rfl 3 rfl ?_
                  refine w_callV (as := [vI v]) (rest := [vR (12, 0, 0)]) (c_X12_ears l G cy ad (d + 1) v M37_ hI40_ h4_) kV_X12_ears pnn_17 (Nat.le_of_ble_eq_true rfl) m_1524 rfl rfl rfl ic_12 rfl rfl (by decide) (Nat.le_of_ble_eq_true rfl) dX12_alike_80 (fun r50_ M51_ q52_ => ?_)
                  obtain ⟨rfl, h53_, hs54_⟩ := q52_
                  refine w_iload dX12_alike_83 0 rfl ?_
                  refine w_iload_n dX12_alike_85 rfl 4 rfl ?_
                  refine w_bipush (v := 100) dX12_alike_86 (by decide) ?_
                  refine w_idivB dX12_alike_88 (by decide) (rfl : u.toInt = u.toInt) li_100 (lf_c_X12_isClick_0 u h10_ ) (by decide) (fun z55_ h56_ => ?_)
                  refine w_iload_n dX12_alike_89 rfl 4 rfl ?_
                  refine w_bipush (v := 100) dX12_alike_90 (by decide) ?_
                  refine w_iremB dX12_alike_92 (by decide) (rfl : u.toInt = u.toInt) li_100 (lf_c_X12_isClick_0 u h10_ ) (by decide) (fun z57_ h58_ => ?_)
                  refine w_iload dX12_alike_93 6 rfl ?_
                  refine w_iload_n dX12_alike_95 rfl 5 rfl ?_
                  refine w_callV (as := [vI r50_, vI v7_51, vI z55_, vI z57_, vI s, vI t]) (rest := []) (c_X12_isHeard l G cy ad d r50_ v7_51 z55_ z57_ s t M37_ hI40_ (lf_c_X12_alike_2 v7_51 hv0_51 h31_ )) kV_X12_isHeard pnn_17 (Nat.le_of_ble_eq_true rfl) m_1663 rfl rfl rfl ic_12 rfl rfl (by decide) (Nat.le_of_ble_eq_true rfl) dX12_alike_96 (fun r59_ M60_ q61_ => ?_)
                  obtain ⟨hI63_, hF64_, h62_, hs66_⟩ := q61_
                  have hF65_ := hF42_.tr hF64_ (fun c k => (fun h => h.elim (fun h => (Or.inl ⟨h.1, h.2.1, h.2.2⟩)) (fun h => h.elim (fun h => (Or.inr (Or.inl ⟨h.1, h.2.1, h.2.2⟩))) (fun h => h.elim (fun h => (Or.inr (Or.inr (Or.inl ⟨h.1, h.2.1, h.2.2⟩)))) (fun h => h.elim (fun h => (Or.inr (Or.inr (Or.inr (Or.inl ⟨h.1, h.2.1, h.2.2⟩))))) (fun h => h.elim (fun h => (Or.inr (Or.inr (Or.inr (Or.inr (Or.inl ⟨h.1, h.2⟩)))))) (fun h => h.elim)))))))
                  refine w_if_eq (tgt := 106) dX12_alike_99 (by decide) (rfl : r59_.toInt = r59_.toInt) (fun h67_ => ?_) (fun h67_ => ?_)
                  · refine w_iconst (v := 0) dX12_alike_106 (by decide) ?_
                    refine w_istore (ls' := [(8, vI 0), (7, vI v7_51), (6, vI v6_51), (0, vR (12, 0, 0)), (1, vI v), (2, vI u), (3, vI t), (4, vI s), (5, vI q)]) dX12_alike_107 (by decide) rfl ?_
                    refine w_iload dX12_alike_109 2 rfl ?_
                    refine w_iload dX12_alike_111 0 rfl ?_
                    refine w_if_eq (tgt := 123) dX12_alike_113 (by decide) li_0 (fun h68_ => ?_) (fun h9 => (absurd h9 (by decide)))
                    refine w_iconst (v := 0) dX12_alike_123 (by decide) ?_
                    refine w_ior dX12_alike_124 (fun z69_ h70_ => ?_)
                    refine w_istore (ls' := [(6, vI z69_), (8, vI 0), (7, vI v7_51), (0, vR (12, 0, 0)), (1, vI v), (2, vI u), (3, vI t), (4, vI s), (5, vI q)]) dX12_alike_125 (by decide) rfl ?_
                    refine w_iincB (j := 2) (f := fun z71_ => [(7, vI z71_), (6, vI z69_), (8, vI 0), (0, vR (12, 0, 0)), (1, vI v), (2, vI u), (3, vI t), (4, vI s), (5, vI q)]) dX12_alike_127 rfl (by decide) (fun _ => rfl) (rfl : v7_51.toInt = v7_51.toInt) li_1 (lf_c_X2_kindsAlike_0 v7_51 hv0_51 h31_ ) (fun z71_ h72_ => ?_)
                    refine w_goto (tgt := 51) dX12_alike_130 (by decide) ?_
                    refine w_loc (ls' := [(7, vI z71_), (6, vI z69_), (0, vR (12, 0, 0)), (1, vI v), (2, vI u), (3, vI t), (4, vI s), (5, vI q)]) [0, 1, 3, 4, 5, 6, 7, 8] rfl ?_
                    exact ih_51 M60_ hI63_ hF65_ z71_ z69_ (lf_c_X5_takeFrom_3 v7_51 z71_ hv0_51 h72_ ) (lf_c_X2_kindsAlike_2 v7_51 z71_ h31_ h72_ ) (RCH.tail hL_51 ⟨hv0_51, hv1_51, hI_51, hF_51, h31_, z32_, h33_, z34_, h35_, M37_, hI40_, hF41_, r36_, hs43_, (Or.inr ⟨h44_, r50_, hs54_, h53_, z55_, h56_, z57_, h58_, M60_, hI63_, hF64_, r59_, hs66_, h62_, (Or.inl ⟨h67_, z69_, h70_, z71_, h72_, rfl, rfl, rfl⟩)⟩)⟩) (Nat.lt_of_lt_of_le (lf_c_X2_kindsAlike_3 v7_51 z71_ h31_ h72_ ) (Nat.le_of_lt_succ hm_51))
                  · refine w_iconst (v := 1) dX12_alike_102 (by decide) ?_
                    refine w_goto (tgt := 107) dX12_alike_103 (by decide) ?_
                    refine w_istore (ls' := [(8, vI 1), (7, vI v7_51), (6, vI v6_51), (0, vR (12, 0, 0)), (1, vI v), (2, vI u), (3, vI t), (4, vI s), (5, vI q)]) dX12_alike_107 (by decide) rfl ?_
                    refine w_iload dX12_alike_109 2 rfl ?_
                    refine w_iload dX12_alike_111 0 rfl ?_
                    refine w_if_eq (tgt := 123) dX12_alike_113 (by decide) li_1 (fun h9 => (absurd h9 (by decide))) (fun h73_ => ?_)
                    refine w_iconst (v := 1) dX12_alike_116 (by decide) ?_
                    refine w_iload dX12_alike_117 1 rfl ?_
                    refine w_ishl dX12_alike_119 (fun z74_ h75_ => ?_)
                    refine w_goto (tgt := 124) dX12_alike_120 (by decide) ?_
                    refine w_ior dX12_alike_124 (fun z76_ h77_ => ?_)
                    refine w_istore (ls' := [(6, vI z76_), (8, vI 1), (7, vI v7_51), (0, vR (12, 0, 0)), (1, vI v), (2, vI u), (3, vI t), (4, vI s), (5, vI q)]) dX12_alike_125 (by decide) rfl ?_
                    refine w_iincB (j := 2) (f := fun z78_ => [(7, vI z78_), (6, vI z76_), (8, vI 1), (0, vR (12, 0, 0)), (1, vI v), (2, vI u), (3, vI t), (4, vI s), (5, vI q)]) dX12_alike_127 rfl (by decide) (fun _ => rfl) (rfl : v7_51.toInt = v7_51.toInt) li_1 (lf_c_X2_kindsAlike_0 v7_51 hv0_51 h31_ ) (fun z78_ h79_ => ?_)
                    refine w_goto (tgt := 51) dX12_alike_130 (by decide) ?_
                    refine w_loc (ls' := [(7, vI z78_), (6, vI z76_), (0, vR (12, 0, 0)), (1, vI v), (2, vI u), (3, vI t), (4, vI s), (5, vI q)]) [0, 1, 3, 4, 5, 6, 7, 8] rfl ?_
                    exact ih_51 M60_ hI63_ hF65_ z78_ z76_ (lf_c_X5_takeFrom_3 v7_51 z78_ hv0_51 h79_ ) (lf_c_X2_kindsAlike_2 v7_51 z78_ h31_ h79_ ) (RCH.tail hL_51 ⟨hv0_51, hv1_51, hI_51, hF_51, h31_, z32_, h33_, z34_, h35_, M37_, hI40_, hF41_, r36_, hs43_, (Or.inr ⟨h44_, r50_, hs54_, h53_, z55_, h56_, z57_, h58_, M60_, hI63_, hF64_, r59_, hs66_, h62_, (Or.inr ⟨h67_, z74_, h75_, z76_, h77_, z78_, h79_, rfl, rfl, rfl⟩)⟩)⟩) (Nat.lt_of_lt_of_le (lf_c_X2_kindsAlike_3 v7_51 z78_ h31_ h79_ ) (Nat.le_of_lt_succ hm_51))
          exact lp30_ _ Mz hIz hFz 0 0 (lf_c_X5_takeFrom_5 ) (lf_c_X2_kindsAlike_13 ) RCH.refl (Nat.lt_succ_self _)
        · refine w_if_ne (tgt := 45) dX12_alike_35 (by decide) li_0 (fun h9 => (absurd h9 (by decide))) (fun h80_ => ?_)
          refine w_aload_n dX12_alike_38 rfl 0 rfl ?_
          refine w_ldc (v := (-1000001)) m_1433 dX12_alike_39 ?_
          refine w_callV (as := [vI (-1000001)]) (rest := []) (c_X12_finding l G cy ad (d + 3) (-1000001) Mz hIz (by first | decide | (unfold vF; omega) | (unfold vRw; omega))) kV_X12_finding pnn_17 (Nat.le_of_ble_eq_true rfl) m_1434 rfl rfl rfl ic_12 rfl rfl (by decide) (Nat.le_of_ble_eq_true rfl) dX12_alike_41 (fun r81_ M82_ q83_ => ?_)
          obtain ⟨hI85_, hF86_, h84_, hs88_⟩ := q83_
          have hF87_ := hFz.tr hF86_ (fun c k => (fun h => h.elim (fun h => (Or.inr (Or.inr (Or.inr (Or.inr (Or.inr (Or.inl ⟨h.1, h.2⟩))))))) (fun h => h.elim)))
          simp only [li_m1000001] at h84_
          exact w_iret rfl dX12_alike_44 ⟨hI85_, hF87_, trivial, (Or.inl ⟨hs5_, h4_, (Or.inl ⟨hs11_, h10_, r13_, hs17_, h16_, (Or.inl ⟨hs22_, h21_, (Or.inr ⟨hs28_, h27_, M82_, hI85_, hF86_, r81_, hs88_, h84_, rfl, rfl⟩)⟩)⟩)⟩)⟩
      · simp only [li_1] at h21_
        refine w_if_eq (tgt := 38) dX12_alike_27 (by decide) li_0 (fun h89_ => ?_) (fun h9 => (absurd h9 (by decide)))
        refine w_aload_n dX12_alike_38 rfl 0 rfl ?_
        refine w_ldc (v := (-1000001)) m_1433 dX12_alike_39 ?_
        refine w_callV (as := [vI (-1000001)]) (rest := []) (c_X12_finding l G cy ad (d + 3) (-1000001) Mz hIz (by first | decide | (unfold vF; omega) | (unfold vRw; omega))) kV_X12_finding pnn_17 (Nat.le_of_ble_eq_true rfl) m_1434 rfl rfl rfl ic_12 rfl rfl (by decide) (Nat.le_of_ble_eq_true rfl) dX12_alike_41 (fun r90_ M91_ q92_ => ?_)
        obtain ⟨hI94_, hF95_, h93_, hs97_⟩ := q92_
        have hF96_ := hFz.tr hF95_ (fun c k => (fun h => h.elim (fun h => (Or.inr (Or.inr (Or.inr (Or.inr (Or.inr (Or.inl ⟨h.1, h.2⟩))))))) (fun h => h.elim)))
        simp only [li_m1000001] at h93_
        exact w_iret rfl dX12_alike_44 ⟨hI94_, hF96_, trivial, (Or.inl ⟨hs5_, h4_, (Or.inl ⟨hs11_, h10_, r13_, hs17_, h16_, (Or.inr ⟨hs22_, h21_, M91_, hI94_, hF95_, r90_, hs97_, h93_, rfl, rfl⟩)⟩)⟩)⟩
    · refine w_if_eq (tgt := 38) dX12_alike_14 (by decide) li_0 (fun h98_ => ?_) (fun h9 => (absurd h9 (by decide)))
      refine w_aload_n dX12_alike_38 rfl 0 rfl ?_
      refine w_ldc (v := (-1000001)) m_1433 dX12_alike_39 ?_
      refine w_callV (as := [vI (-1000001)]) (rest := []) (c_X12_finding l G cy ad (d + 3) (-1000001) Mz hIz (by first | decide | (unfold vF; omega) | (unfold vRw; omega))) kV_X12_finding pnn_17 (Nat.le_of_ble_eq_true rfl) m_1434 rfl rfl rfl ic_12 rfl rfl (by decide) (Nat.le_of_ble_eq_true rfl) dX12_alike_41 (fun r99_ M100_ q101_ => ?_)
      obtain ⟨hI103_, hF104_, h102_, hs106_⟩ := q101_
      have hF105_ := hFz.tr hF104_ (fun c k => (fun h => h.elim (fun h => (Or.inr (Or.inr (Or.inr (Or.inr (Or.inr (Or.inl ⟨h.1, h.2⟩))))))) (fun h => h.elim)))
      simp only [li_m1000001] at h102_
      exact w_iret rfl dX12_alike_44 ⟨hI103_, hF105_, trivial, (Or.inl ⟨hs5_, h4_, (Or.inr ⟨hs11_, M100_, hI103_, hF104_, r99_, hs106_, h102_, rfl, rfl⟩)⟩)⟩
  · refine w_if_eq (tgt := 38) dX12_alike_6 (by decide) li_0 (fun h107_ => ?_) (fun h9 => (absurd h9 (by decide)))
    refine w_aload_n dX12_alike_38 rfl 0 rfl ?_
    refine w_ldc (v := (-1000001)) m_1433 dX12_alike_39 ?_
    refine w_callV (as := [vI (-1000001)]) (rest := []) (c_X12_finding l G cy ad (d + 3) (-1000001) Mz hIz (by first | decide | (unfold vF; omega) | (unfold vRw; omega))) kV_X12_finding pnn_17 (Nat.le_of_ble_eq_true rfl) m_1434 rfl rfl rfl ic_12 rfl rfl (by decide) (Nat.le_of_ble_eq_true rfl) dX12_alike_41 (fun r108_ M109_ q110_ => ?_)
    obtain ⟨hI112_, hF113_, h111_, hs115_⟩ := q110_
    have hF114_ := hFz.tr hF113_ (fun c k => (fun h => h.elim (fun h => (Or.inr (Or.inr (Or.inr (Or.inr (Or.inr (Or.inl ⟨h.1, h.2⟩))))))) (fun h => h.elim)))
    simp only [li_m1000001] at h111_
    exact w_iret rfl dX12_alike_44 ⟨hI112_, hF114_, trivial, (Or.inr ⟨hs5_, M109_, hI112_, hF113_, r108_, hs115_, h111_, rfl, rfl⟩)⟩
def S_c_X12_least : rf → Nat → Prop := fun c k => (c.1 = 53 ∧ c.2.1 = 0) ∨ (c.1 = 58 ∧ c.2.1 = 0 ∧ k = 0) ∨ (c.1 = 58 ∧ c.2.1 = 0 ∧ k = 1) ∨ (c.1 = 58 ∧ c.2.1 = 0 ∧ k = 2) ∨ (c.1 = 58 ∧ c.2.1 = 0 ∧ k = 3) ∨ (c.1 = 59 ∧ c.2.1 = 0) ∨ False
def ST_X12_least_57 (v : Int32) (u : Int32) (t : Int32) (s : Int32) (Mz : mM) (v5_57 : Int32) (M_57 : mM) (v5_57y : Int32) (M_57y : mM) : Prop := (1 ≤ v5_57.toInt) ∧ (InvD M_57) ∧ (FR (S_c_X12_least) Mz M_57) ∧ (((¬ s.toInt = 0) ∧ (v5_57.toInt ≤ 99) ∧ ∃ r50_ : Int32, (SP_X12_ears v M_57 r50_) ∧ (0 ≤ r50_.toInt ∧ r50_.toInt ≤ 9) ∧ (¬ s.toInt = 0) ∧ ∃ r56_ : Int32, (SP_X12_ears v M_57 r56_) ∧ (0 ≤ r56_.toInt ∧ r56_.toInt ≤ 9) ∧ ∃ z61_ : Int32, ((z61_.toInt = 9 ∧ 9 ≤ r56_.toInt) ∨ (z61_.toInt = r56_.toInt ∧ r56_.toInt ≤ 9)) ∧ (¬ s.toInt = 0) ∧ ∃ M65_ : mM, (InvD M65_) ∧ (FR (S_c_X12_isHeard) M_57 M65_) ∧ ∃ r64_ : Int32, (SP_X12_isHeard r50_ u z61_ v5_57 0 t M_57 r64_ M65_) ∧ ((0 ≤ r64_.toInt ∧ r64_.toInt ≤ 1)) ∧ (r64_.toInt = 0) ∧ ∃ z73_ : Int32, (z73_.toInt = v5_57.toInt + 1) ∧ v5_57y = z73_ ∧ M_57y = M65_) ∨ ((s.toInt = 0) ∧ (v5_57.toInt ≤ 9) ∧ ∃ r84_ : Int32, (SP_X12_ears v M_57 r84_) ∧ (0 ≤ r84_.toInt ∧ r84_.toInt ≤ 9) ∧ (s.toInt = 0) ∧ (s.toInt = 0) ∧ ∃ M92_ : mM, (InvD M92_) ∧ (FR (S_c_X12_isHeard) M_57 M92_) ∧ ∃ r91_ : Int32, (SP_X12_isHeard r84_ u v5_57 99 0 t M_57 r91_ M92_) ∧ ((0 ≤ r91_.toInt ∧ r91_.toInt ≤ 1)) ∧ (r91_.toInt = 0) ∧ ∃ z100_ : Int32, (z100_.toInt = v5_57.toInt + 1) ∧ v5_57y = z100_ ∧ M_57y = M92_))
def SP_X12_least (v : Int32) (u : Int32) (t : Int32) (s : Int32) (Mz : mM) (r_ : Int32) (M_ : mM) : Prop := (((SP_is2 v Mz (1 : Int32)) ∧ (0 ≤ v.toInt ∧ v.toInt ≤ 7) ∧ (((SP_X12_within u 0 4 Mz (1 : Int32)) ∧ (0 ≤ u.toInt ∧ u.toInt ≤ 4) ∧ (((SP_X12_within t 1 15 Mz (1 : Int32)) ∧ (1 ≤ t.toInt ∧ t.toInt ≤ 15) ∧ (((SP_X12_within s 0 1 Mz (1 : Int32)) ∧ (0 ≤ s.toInt ∧ s.toInt ≤ 1) ∧ ∃ r25_ : Int32, (SP_X12_reach v Mz r25_) ∧ (0 ≤ r25_.toInt ∧ r25_.toInt ≤ 12) ∧ (((r25_.toInt < t.toInt) ∧ ∃ M32_ : mM, (InvD M32_) ∧ (FR (S_c_X12_finding) Mz M32_) ∧ ∃ r31_ : Int32, (SP_X12_finding (-1000002) Mz r31_ M32_) ∧ (r31_.toInt = (-1000002)) ∧ r_ = r31_ ∧ M_ = M32_) ∨ ((t.toInt ≤ r25_.toInt) ∧ ∃ v5_57 : Int32, (1 ≤ v5_57.toInt) ∧ ∃ M_57 : mM, (RCH (fun x_ y_ => ST_X12_least_57 v u t s Mz x_.1 x_.2 y_.1 y_.2) ((1 : Int32), Mz) (v5_57, M_57)) ∧ (InvD M_57) ∧ (FR (S_c_X12_least) Mz M_57) ∧ (((¬ s.toInt = 0) ∧ (((99 < v5_57.toInt) ∧ ∃ M43_ : mM, (InvD M43_) ∧ (FR (S_c_X12_finding) M_57 M43_) ∧ ∃ r42_ : Int32, (SP_X12_finding (-1000002) M_57 r42_ M43_) ∧ (r42_.toInt = (-1000002)) ∧ r_ = r42_ ∧ M_ = M43_) ∨ ((v5_57.toInt ≤ 99) ∧ ∃ r50_ : Int32, (SP_X12_ears v M_57 r50_) ∧ (0 ≤ r50_.toInt ∧ r50_.toInt ≤ 9) ∧ (¬ s.toInt = 0) ∧ ∃ r56_ : Int32, (SP_X12_ears v M_57 r56_) ∧ (0 ≤ r56_.toInt ∧ r56_.toInt ≤ 9) ∧ ∃ z61_ : Int32, ((z61_.toInt = 9 ∧ 9 ≤ r56_.toInt) ∨ (z61_.toInt = r56_.toInt ∧ r56_.toInt ≤ 9)) ∧ (¬ s.toInt = 0) ∧ ∃ M65_ : mM, (InvD M65_) ∧ (FR (S_c_X12_isHeard) M_57 M65_) ∧ ∃ r64_ : Int32, (SP_X12_isHeard r50_ u z61_ v5_57 0 t M_57 r64_ M65_) ∧ ((0 ≤ r64_.toInt ∧ r64_.toInt ≤ 1)) ∧ (¬ r64_.toInt = 0) ∧ r_ = v5_57 ∧ M_ = M65_))) ∨ ((s.toInt = 0) ∧ (((9 < v5_57.toInt) ∧ ∃ M77_ : mM, (InvD M77_) ∧ (FR (S_c_X12_finding) M_57 M77_) ∧ ∃ r76_ : Int32, (SP_X12_finding (-1000002) M_57 r76_ M77_) ∧ (r76_.toInt = (-1000002)) ∧ r_ = r76_ ∧ M_ = M77_) ∨ ((v5_57.toInt ≤ 9) ∧ ∃ r84_ : Int32, (SP_X12_ears v M_57 r84_) ∧ (0 ≤ r84_.toInt ∧ r84_.toInt ≤ 9) ∧ (s.toInt = 0) ∧ (s.toInt = 0) ∧ ∃ M92_ : mM, (InvD M92_) ∧ (FR (S_c_X12_isHeard) M_57 M92_) ∧ ∃ r91_ : Int32, (SP_X12_isHeard r84_ u v5_57 99 0 t M_57 r91_ M92_) ∧ ((0 ≤ r91_.toInt ∧ r91_.toInt ≤ 1)) ∧ (¬ r91_.toInt = 0) ∧ r_ = v5_57 ∧ M_ = M92_))))))) ∨ ((SP_X12_within s 0 1 Mz (0 : Int32)) ∧ (¬ (0 ≤ s.toInt ∧ s.toInt ≤ 1)) ∧ ∃ M104_ : mM, (InvD M104_) ∧ (FR (S_c_X12_finding) Mz M104_) ∧ ∃ r103_ : Int32, (SP_X12_finding (-1000001) Mz r103_ M104_) ∧ (r103_.toInt = (-1000001)) ∧ r_ = r103_ ∧ M_ = M104_))) ∨ ((SP_X12_within t 1 15 Mz (0 : Int32)) ∧ (¬ (1 ≤ t.toInt ∧ t.toInt ≤ 15)) ∧ ∃ M113_ : mM, (InvD M113_) ∧ (FR (S_c_X12_finding) Mz M113_) ∧ ∃ r112_ : Int32, (SP_X12_finding (-1000001) Mz r112_ M113_) ∧ (r112_.toInt = (-1000001)) ∧ r_ = r112_ ∧ M_ = M113_))) ∨ ((SP_X12_within u 0 4 Mz (0 : Int32)) ∧ (¬ (0 ≤ u.toInt ∧ u.toInt ≤ 4)) ∧ ∃ M122_ : mM, (InvD M122_) ∧ (FR (S_c_X12_finding) Mz M122_) ∧ ∃ r121_ : Int32, (SP_X12_finding (-1000001) Mz r121_ M122_) ∧ (r121_.toInt = (-1000001)) ∧ r_ = r121_ ∧ M_ = M122_))) ∨ ((SP_is2 v Mz (0 : Int32)) ∧ ∃ M131_ : mM, (InvD M131_) ∧ (FR (S_c_X12_finding) Mz M131_) ∧ ∃ r130_ : Int32, (SP_X12_finding (-1000001) Mz r130_ M131_) ∧ (r130_.toInt = (-1000001)) ∧ r_ = r130_ ∧ M_ = M131_))
theorem lf_c_X12_least_2 (u : Int32) (h10_ : 0 ≤ u.toInt ∧ u.toInt ≤ 4) : 0 ≤ u.toInt ∧ u.toInt ≤ 99 := by omega
set_option maxHeartbeats 4000000 in
set_option maxRecDepth 100000 in
theorem c_X12_least (l : Launch) (G : va_G) (cy : Nat → ClassId) (ad : rf → Nat) (d : Nat) (v : Int32) (u : Int32) (t : Int32) (s : Int32) (Mz : mM) (hIz : InvD Mz) : WP DD l G cy ad yX12_least cX12_least 6 (some .int) (d + 4) 0 [(0, vR (12, 0, 0)), (1, vI v), (2, vI u), (3, vI t), (4, vI s)] [] Mz (fun r M' => InvD M' ∧ FR (S_c_X12_least) Mz M' ∧ (True) ∧ SP_X12_least v u t s Mz r M') := by
  have hFz : FR (S_c_X12_least) Mz Mz := FR.self
  refine w_aload_n dX12_least_0 rfl 0 rfl ?_
  refine w_iload_n dX12_least_1 rfl 1 rfl ?_
  refine w_iconst (v := 2) dX12_least_2 (by decide) ?_
  refine w_callV (as := [vI v, vI 2]) (rest := []) (c_is2 l G cy ad (d + 2) v Mz hIz) kV_X12_is pnn_17 (Nat.le_of_ble_eq_true rfl) m_1465 rfl rfl rfl ic_12 rfl rfl (by decide) (Nat.le_of_ble_eq_true rfl) dX12_least_3 (fun r1_ M2_ q3_ => ?_)
  obtain ⟨rfl, h4_, hs5_⟩ := q3_
  rcases h4_ with ⟨rfl, h4_⟩ | rfl
  · refine w_if_eq (tgt := 38) dX12_least_6 (by decide) li_1 (fun h9 => (absurd h9 (by decide))) (fun h6_ => ?_)
    refine w_iload_n dX12_least_9 rfl 2 rfl ?_
    refine w_iconst (v := 0) dX12_least_10 (by decide) ?_
    refine w_iconst (v := 4) dX12_least_11 (by decide) ?_
    refine w_callS (as := [vI u, vI 0, vI 4]) (rest := []) (c_X12_within l G cy ad (d + 3) u 0 4 Mz hIz) kS_X12_within pnn_17 (Nat.le_of_ble_eq_true rfl) m_1427 rfl rfl (by decide) (Nat.le_of_ble_eq_true rfl) dX12_least_12 (fun r7_ M8_ q9_ => ?_)
    obtain ⟨rfl, h10_, hs11_⟩ := q9_
    rcases h10_ with ⟨rfl, h10_⟩ | ⟨rfl, h10_⟩
    · simp only [li_0, li_4] at h10_
      refine w_if_eq (tgt := 38) dX12_least_15 (by decide) li_1 (fun h9 => (absurd h9 (by decide))) (fun h12_ => ?_)
      refine w_iload_n dX12_least_18 rfl 3 rfl ?_
      refine w_iconst (v := 1) dX12_least_19 (by decide) ?_
      refine w_bipush (v := 15) dX12_least_20 (by decide) ?_
      refine w_callS (as := [vI t, vI 1, vI 15]) (rest := []) (c_X12_within l G cy ad (d + 3) t 1 15 Mz hIz) kS_X12_within pnn_17 (Nat.le_of_ble_eq_true rfl) m_1427 rfl rfl (by decide) (Nat.le_of_ble_eq_true rfl) dX12_least_22 (fun r13_ M14_ q15_ => ?_)
      obtain ⟨rfl, h16_, hs17_⟩ := q15_
      rcases h16_ with ⟨rfl, h16_⟩ | ⟨rfl, h16_⟩
      · simp only [li_1, li_15] at h16_
        refine w_if_eq (tgt := 38) dX12_least_25 (by decide) li_1 (fun h9 => (absurd h9 (by decide))) (fun h18_ => ?_)
        refine w_iload dX12_least_28 4 rfl ?_
        refine w_iconst (v := 0) dX12_least_30 (by decide) ?_
        refine w_iconst (v := 1) dX12_least_31 (by decide) ?_
        refine w_callS (as := [vI s, vI 0, vI 1]) (rest := []) (c_X12_within l G cy ad (d + 3) s 0 1 Mz hIz) kS_X12_within pnn_17 (Nat.le_of_ble_eq_true rfl) m_1427 rfl rfl (by decide) (Nat.le_of_ble_eq_true rfl) dX12_least_32 (fun r19_ M20_ q21_ => ?_)
        obtain ⟨rfl, h22_, hs23_⟩ := q21_
        rcases h22_ with ⟨rfl, h22_⟩ | ⟨rfl, h22_⟩
        · simp only [li_0, li_1] at h22_
          refine w_if_ne (tgt := 45) dX12_least_35 (by decide) li_1 (fun h24_ => ?_) (fun h9 => (absurd h9 (by decide)))
          refine w_iload_n dX12_least_45 rfl 3 rfl ?_
          refine w_aload_n dX12_least_46 rfl 0 rfl ?_
          refine w_iload_n dX12_least_47 rfl 1 rfl ?_
          refine w_callV (as := [vI v]) (rest := [vI t]) (c_X12_reach l G cy ad d v Mz hIz h4_) kV_X12_reach pnn_17 (Nat.le_of_ble_eq_true rfl) m_1513 rfl rfl rfl ic_12 rfl rfl (by decide) (Nat.le_of_ble_eq_true rfl) dX12_least_48 (fun r25_ M26_ q27_ => ?_)
          obtain ⟨rfl, h28_, hs29_⟩ := q27_
          refine w_icmp_gt (tgt := 130) dX12_least_51 (by decide) (rfl : t.toInt = t.toInt) (rfl : r25_.toInt = r25_.toInt) (fun h30_ => ?_) (fun h30_ => ?_)
          · refine w_aload_n dX12_least_130 rfl 0 rfl ?_
            refine w_ldc (v := (-1000002)) m_1500 dX12_least_131 ?_
            refine w_callV (as := [vI (-1000002)]) (rest := []) (c_X12_finding l G cy ad (d + 3) (-1000002) Mz hIz (by first | decide | (unfold vF; omega) | (unfold vRw; omega))) kV_X12_finding pnn_17 (Nat.le_of_ble_eq_true rfl) m_1434 rfl rfl rfl ic_12 rfl rfl (by decide) (Nat.le_of_ble_eq_true rfl) dX12_least_133 (fun r31_ M32_ q33_ => ?_)
            obtain ⟨hI35_, hF36_, h34_, hs38_⟩ := q33_
            have hF37_ := hFz.tr hF36_ (fun c k => (fun h => h.elim (fun h => (Or.inl ⟨h.1, h.2⟩)) (fun h => h.elim)))
            simp only [li_m1000002] at h34_
            exact w_iret rfl dX12_least_136 ⟨hI35_, hF37_, trivial, (Or.inl ⟨hs5_, h4_, (Or.inl ⟨hs11_, h10_, (Or.inl ⟨hs17_, h16_, (Or.inl ⟨hs23_, h22_, r25_, hs29_, h28_, (Or.inl ⟨h30_, M32_, hI35_, hF36_, r31_, hs38_, h34_, rfl, rfl⟩)⟩)⟩)⟩)⟩)⟩
          · refine w_iconst (v := 1) dX12_least_54 (by decide) ?_
            refine w_istore (ls' := [(5, vI 1), (0, vR (12, 0, 0)), (1, vI v), (2, vI u), (3, vI t), (4, vI s)]) dX12_least_55 (by decide) rfl ?_
            have lp39_ : ∀ (nn_57 : Nat) (M_57 : mM) (hI_57 : InvD M_57) (hF_57 : FR (S_c_X12_least) Mz M_57) (v5_57 : Int32) (hv0_57 : 1 ≤ v5_57.toInt) (hL_57 : RCH (fun x_ y_ => ST_X12_least_57 v u t s Mz x_.1 x_.2 y_.1 y_.2) ((1 : Int32), Mz) (v5_57, M_57)), (2147483648 - v5_57.toInt).toNat < nn_57 → WP DD l G cy ad yX12_least cX12_least 6 (some .int) (d + 4) 57 [(5, vI v5_57), (0, vR (12, 0, 0)), (1, vI v), (2, vI u), (3, vI t), (4, vI s)] [] M_57 (fun r M' => InvD M' ∧ FR (S_c_X12_least) Mz M' ∧ (True) ∧ SP_X12_least v u t s Mz r M') := by
              intro nn_57
              induction nn_57 with
              | zero => intro M_57 hI_57 hF_57 v5_57 hv0_57 hL_57 hm_57; exact absurd hm_57 (Nat.not_lt_zero _)
              | succ nn_57 ih_57 =>
                intro M_57 hI_57 hF_57 v5_57 hv0_57 hL_57 hm_57
                refine w_iload dX12_least_57 0 rfl ?_
                refine w_iload dX12_least_59 5 rfl ?_
                refine w_if_ne (tgt := 69) dX12_least_61 (by decide) (rfl : s.toInt = s.toInt) (fun h40_ => ?_) (fun h40_ => ?_)
                · refine w_bipush (v := 99) dX12_least_69 (by decide) ?_
                  refine w_icmp_gt (tgt := 130) dX12_least_71 (by decide) (rfl : v5_57.toInt = v5_57.toInt) li_99 (fun h41_ => ?_) (fun h41_ => ?_)
                  · refine w_aload_n dX12_least_130 rfl 1 rfl ?_
                    refine w_ldc (v := (-1000002)) m_1500 dX12_least_131 ?_
                    refine w_callV (as := [vI (-1000002)]) (rest := []) (c_X12_finding l G cy ad (d + 3) (-1000002) M_57 hI_57 (by first | decide | (unfold vF; omega) | (unfold vRw; omega))) kV_X12_finding pnn_17 (Nat.le_of_ble_eq_true rfl) m_1434 rfl rfl rfl ic_12 rfl rfl (by decide) (Nat.le_of_ble_eq_true rfl) dX12_least_133 (fun r42_ M43_ q44_ => ?_)
                    obtain ⟨hI46_, hF47_, h45_, hs49_⟩ := q44_
                    have hF48_ := hF_57.tr hF47_ (fun c k => (fun h => h.elim (fun h => (Or.inl ⟨h.1, h.2⟩)) (fun h => h.elim)))
                    simp only [li_m1000002] at h45_
                    exact w_iret rfl dX12_least_136 ⟨hI46_, hF48_, trivial, (Or.inl ⟨hs5_, h4_, (Or.inl ⟨hs11_, h10_, (Or.inl ⟨hs17_, h16_, (Or.inl ⟨hs23_, h22_, r25_, hs29_, h28_, (Or.inr ⟨h30_, v5_57, hv0_57, M_57, hL_57, hI_57, hF_57, (Or.inl ⟨h40_, (Or.inl ⟨h41_, M43_, hI46_, hF47_, r42_, hs49_, h45_, rfl, rfl⟩)⟩)⟩)⟩)⟩)⟩)⟩)⟩
                  · refine w_aload_n dX12_least_74 rfl 1 rfl ?_
                    refine w_aload_n dX12_least_75 rfl 1 rfl ?_
                    refine w_iload_n dX12_least_76 rfl 2 rfl ?_
                    refine w_callV (as := [vI v]) (rest := [vR (12, 0, 0)]) (c_X12_ears l G cy ad (d + 1) v M_57 hI_57 h4_) kV_X12_ears pnn_17 (Nat.le_of_ble_eq_true rfl) m_1524 rfl rfl rfl ic_12 rfl rfl (by decide) (Nat.le_of_ble_eq_true rfl) dX12_least_77 (fun r50_ M51_ q52_ => ?_)
                    obtain ⟨rfl, h53_, hs54_⟩ := q52_
                    refine w_iload_n dX12_least_80 rfl 3 rfl ?_
                    refine w_iload dX12_least_81 5 rfl ?_
                    refine w_if_ne (tgt := 91) dX12_least_83 (by decide) (rfl : s.toInt = s.toInt) (fun h55_ => ?_) (fun h9 => (lf_c_X12_kind_0 s h22_ h40_ h9 ).elim)
                    refine w_bipush (v := 9) dX12_least_91 (by decide) ?_
                    refine w_aload_n dX12_least_93 rfl 1 rfl ?_
                    refine w_iload_n dX12_least_94 rfl 2 rfl ?_
                    refine w_callV (as := [vI v]) (rest := [vI 9, vI u, vI r50_, vR (12, 0, 0)]) (c_X12_ears l G cy ad (d + 1) v M_57 hI_57 h4_) kV_X12_ears pnn_17 (Nat.le_of_ble_eq_true rfl) m_1524 rfl rfl rfl ic_12 rfl rfl (by decide) (Nat.le_of_ble_eq_true rfl) dX12_least_95 (fun r56_ M57_ q58_ => ?_)
                    obtain ⟨rfl, h59_, hs60_⟩ := q58_
                    refine w_min m_1655 m_770 m_86 m_771 li_9 (rfl : r56_.toInt = r56_.toInt) (Nat.le_of_ble_eq_true rfl) (by omega) dX12_least_98 (fun z61_ h62_ => ?_)
                    refine w_iload dX12_least_101 5 rfl ?_
                    refine w_if_ne (tgt := 111) dX12_least_103 (by decide) (rfl : s.toInt = s.toInt) (fun h63_ => ?_) (fun h9 => (lf_c_X12_kind_0 s h22_ h40_ h9 ).elim)
                    refine w_iload dX12_least_111 0 rfl ?_
                    refine w_iconst (v := 0) dX12_least_113 (by decide) ?_
                    refine w_iload_n dX12_least_114 rfl 4 rfl ?_
                    refine w_callV (as := [vI r50_, vI u, vI z61_, vI v5_57, vI 0, vI t]) (rest := []) (c_X12_isHeard l G cy ad d r50_ u z61_ v5_57 0 t M_57 hI_57 (lf_c_X12_least_2 u h10_ )) kV_X12_isHeard pnn_17 (Nat.le_of_ble_eq_true rfl) m_1663 rfl rfl rfl ic_12 rfl rfl (by decide) (Nat.le_of_ble_eq_true rfl) dX12_least_115 (fun r64_ M65_ q66_ => ?_)
                    obtain ⟨hI68_, hF69_, h67_, hs71_⟩ := q66_
                    have hF70_ := hF_57.tr hF69_ (fun c k => (fun h => h.elim (fun h => (Or.inr (Or.inl ⟨h.1, h.2.1, h.2.2⟩))) (fun h => h.elim (fun h => (Or.inr (Or.inr (Or.inl ⟨h.1, h.2.1, h.2.2⟩)))) (fun h => h.elim (fun h => (Or.inr (Or.inr (Or.inr (Or.inl ⟨h.1, h.2.1, h.2.2⟩))))) (fun h => h.elim (fun h => (Or.inr (Or.inr (Or.inr (Or.inr (Or.inl ⟨h.1, h.2.1, h.2.2⟩)))))) (fun h => h.elim (fun h => (Or.inr (Or.inr (Or.inr (Or.inr (Or.inr (Or.inl ⟨h.1, h.2⟩))))))) (fun h => h.elim)))))))
                    refine w_if_eq (tgt := 124) dX12_least_118 (by decide) (rfl : r64_.toInt = r64_.toInt) (fun h72_ => ?_) (fun h72_ => ?_)
                    · refine w_iincB (j := 0) (f := fun z73_ => [(5, vI z73_), (0, vR (12, 0, 0)), (1, vI v), (2, vI u), (3, vI t), (4, vI s)]) dX12_least_124 rfl (by decide) (fun _ => rfl) (rfl : v5_57.toInt = v5_57.toInt) li_1 (lf_c_X2_leastLoudness_0 v5_57 hv0_57 h41_ ) (fun z73_ h74_ => ?_)
                      refine w_goto (tgt := 57) dX12_least_127 (by decide) ?_
                      refine w_loc (ls' := [(5, vI z73_), (0, vR (12, 0, 0)), (1, vI v), (2, vI u), (3, vI t), (4, vI s)]) [0, 1, 2, 3, 4, 5] rfl ?_
                      exact ih_57 M65_ hI68_ hF70_ z73_ (lf_c_X9_yardsToFull_1 v5_57 z73_ hv0_57 h74_ ) (RCH.tail hL_57 ⟨hv0_57, hI_57, hF_57, (Or.inl ⟨h40_, h41_, r50_, hs54_, h53_, h55_, r56_, hs60_, h59_, z61_, h62_, h63_, M65_, hI68_, hF69_, r64_, hs71_, h67_, h72_, z73_, h74_, rfl, rfl⟩)⟩) (Nat.lt_of_lt_of_le (lf_c_X2_leastLoudness_3 v5_57 z73_ h41_ h74_ ) (Nat.le_of_lt_succ hm_57))
                    · refine w_iload dX12_least_121 0 rfl ?_
                      exact w_iret rfl dX12_least_123 ⟨hI68_, hF70_, trivial, (Or.inl ⟨hs5_, h4_, (Or.inl ⟨hs11_, h10_, (Or.inl ⟨hs17_, h16_, (Or.inl ⟨hs23_, h22_, r25_, hs29_, h28_, (Or.inr ⟨h30_, v5_57, hv0_57, M_57, hL_57, hI_57, hF_57, (Or.inl ⟨h40_, (Or.inr ⟨h41_, r50_, hs54_, h53_, h55_, r56_, hs60_, h59_, z61_, h62_, h63_, M65_, hI68_, hF69_, r64_, hs71_, h67_, h72_, rfl, rfl⟩)⟩)⟩)⟩)⟩)⟩)⟩)⟩
                · refine w_bipush (v := 9) dX12_least_64 (by decide) ?_
                  refine w_goto (tgt := 71) dX12_least_66 (by decide) ?_
                  refine w_icmp_gt (tgt := 130) dX12_least_71 (by decide) (rfl : v5_57.toInt = v5_57.toInt) li_9 (fun h75_ => ?_) (fun h75_ => ?_)
                  · refine w_aload_n dX12_least_130 rfl 1 rfl ?_
                    refine w_ldc (v := (-1000002)) m_1500 dX12_least_131 ?_
                    refine w_callV (as := [vI (-1000002)]) (rest := []) (c_X12_finding l G cy ad (d + 3) (-1000002) M_57 hI_57 (by first | decide | (unfold vF; omega) | (unfold vRw; omega))) kV_X12_finding pnn_17 (Nat.le_of_ble_eq_true rfl) m_1434 rfl rfl rfl ic_12 rfl rfl (by decide) (Nat.le_of_ble_eq_true rfl) dX12_least_133 (fun r76_ M77_ q78_ => ?_)
                    obtain ⟨hI80_, hF81_, h79_, hs83_⟩ := q78_
                    have hF82_ := hF_57.tr hF81_ (fun c k => (fun h => h.elim (fun h => (Or.inl ⟨h.1, h.2⟩)) (fun h => h.elim)))
                    simp only [li_m1000002] at h79_
                    exact w_iret rfl dX12_least_136 ⟨hI80_, hF82_, trivial, (Or.inl ⟨hs5_, h4_, (Or.inl ⟨hs11_, h10_, (Or.inl ⟨hs17_, h16_, (Or.inl ⟨hs23_, h22_, r25_, hs29_, h28_, (Or.inr ⟨h30_, v5_57, hv0_57, M_57, hL_57, hI_57, hF_57, (Or.inr ⟨h40_, (Or.inl ⟨h75_, M77_, hI80_, hF81_, r76_, hs83_, h79_, rfl, rfl⟩)⟩)⟩)⟩)⟩)⟩)⟩)⟩
                  · refine w_aload_n dX12_least_74 rfl 1 rfl ?_
                    refine w_aload_n dX12_least_75 rfl 1 rfl ?_
                    refine w_iload_n dX12_least_76 rfl 2 rfl ?_
                    refine w_callV (as := [vI v]) (rest := [vR (12, 0, 0)]) (c_X12_ears l G cy ad (d + 1) v M_57 hI_57 h4_) kV_X12_ears pnn_17 (Nat.le_of_ble_eq_true rfl) m_1524 rfl rfl rfl ic_12 rfl rfl (by decide) (Nat.le_of_ble_eq_true rfl) dX12_least_77 (fun r84_ M85_ q86_ => ?_)
                    obtain ⟨rfl, h87_, hs88_⟩ := q86_
                    refine w_iload_n dX12_least_80 rfl 3 rfl ?_
                    refine w_iload dX12_least_81 5 rfl ?_
                    refine w_if_ne (tgt := 91) dX12_least_83 (by decide) (rfl : s.toInt = s.toInt) (fun h9 => (lf_c_X12_kind_4 s h22_ h40_ h9 ).elim) (fun h89_ => ?_)
                    refine w_iload dX12_least_86 0 rfl ?_
                    refine w_goto (tgt := 101) dX12_least_88 (by decide) ?_
                    refine w_iload dX12_least_101 5 rfl ?_
                    refine w_if_ne (tgt := 111) dX12_least_103 (by decide) (rfl : s.toInt = s.toInt) (fun h9 => (lf_c_X12_kind_4 s h22_ h89_ h9 ).elim) (fun h90_ => ?_)
                    refine w_bipush (v := 99) dX12_least_106 (by decide) ?_
                    refine w_goto (tgt := 113) dX12_least_108 (by decide) ?_
                    refine w_iconst (v := 0) dX12_least_113 (by decide) ?_
                    refine w_iload_n dX12_least_114 rfl 4 rfl ?_
                    refine w_callV (as := [vI r84_, vI u, vI v5_57, vI 99, vI 0, vI t]) (rest := []) (c_X12_isHeard l G cy ad d r84_ u v5_57 99 0 t M_57 hI_57 (lf_c_X12_least_2 u h10_ )) kV_X12_isHeard pnn_17 (Nat.le_of_ble_eq_true rfl) m_1663 rfl rfl rfl ic_12 rfl rfl (by decide) (Nat.le_of_ble_eq_true rfl) dX12_least_115 (fun r91_ M92_ q93_ => ?_)
                    obtain ⟨hI95_, hF96_, h94_, hs98_⟩ := q93_
                    have hF97_ := hF_57.tr hF96_ (fun c k => (fun h => h.elim (fun h => (Or.inr (Or.inl ⟨h.1, h.2.1, h.2.2⟩))) (fun h => h.elim (fun h => (Or.inr (Or.inr (Or.inl ⟨h.1, h.2.1, h.2.2⟩)))) (fun h => h.elim (fun h => (Or.inr (Or.inr (Or.inr (Or.inl ⟨h.1, h.2.1, h.2.2⟩))))) (fun h => h.elim (fun h => (Or.inr (Or.inr (Or.inr (Or.inr (Or.inl ⟨h.1, h.2.1, h.2.2⟩)))))) (fun h => h.elim (fun h => (Or.inr (Or.inr (Or.inr (Or.inr (Or.inr (Or.inl ⟨h.1, h.2⟩))))))) (fun h => h.elim)))))))
                    refine w_if_eq (tgt := 124) dX12_least_118 (by decide) (rfl : r91_.toInt = r91_.toInt) (fun h99_ => ?_) (fun h99_ => ?_)
                    · refine w_iincB (j := 0) (f := fun z100_ => [(5, vI z100_), (0, vR (12, 0, 0)), (1, vI v), (2, vI u), (3, vI t), (4, vI s)]) dX12_least_124 rfl (by decide) (fun _ => rfl) (rfl : v5_57.toInt = v5_57.toInt) li_1 (lf_c_X9_yardsToFull_0 v5_57 hv0_57 h75_ ) (fun z100_ h101_ => ?_)
                      refine w_goto (tgt := 57) dX12_least_127 (by decide) ?_
                      refine w_loc (ls' := [(5, vI z100_), (0, vR (12, 0, 0)), (1, vI v), (2, vI u), (3, vI t), (4, vI s)]) [0, 1, 2, 3, 4, 5] rfl ?_
                      exact ih_57 M92_ hI95_ hF97_ z100_ (lf_c_X9_yardsToFull_1 v5_57 z100_ hv0_57 h101_ ) (RCH.tail hL_57 ⟨hv0_57, hI_57, hF_57, (Or.inr ⟨h40_, h75_, r84_, hs88_, h87_, h89_, h90_, M92_, hI95_, hF96_, r91_, hs98_, h94_, h99_, z100_, h101_, rfl, rfl⟩)⟩) (Nat.lt_of_lt_of_le (lf_c_X9_yardsToFull_3 v5_57 z100_ h75_ h101_ ) (Nat.le_of_lt_succ hm_57))
                    · refine w_iload dX12_least_121 0 rfl ?_
                      exact w_iret rfl dX12_least_123 ⟨hI95_, hF97_, trivial, (Or.inl ⟨hs5_, h4_, (Or.inl ⟨hs11_, h10_, (Or.inl ⟨hs17_, h16_, (Or.inl ⟨hs23_, h22_, r25_, hs29_, h28_, (Or.inr ⟨h30_, v5_57, hv0_57, M_57, hL_57, hI_57, hF_57, (Or.inr ⟨h40_, (Or.inr ⟨h75_, r84_, hs88_, h87_, h89_, h90_, M92_, hI95_, hF96_, r91_, hs98_, h94_, h99_, rfl, rfl⟩)⟩)⟩)⟩)⟩)⟩)⟩)⟩
            exact lp39_ _ Mz hIz hFz 1 (lf_c_X9_yardsToFull_4 ) RCH.refl (Nat.lt_succ_self _)
        · simp only [li_0, li_1] at h22_
          refine w_if_ne (tgt := 45) dX12_least_35 (by decide) li_0 (fun h9 => (absurd h9 (by decide))) (fun h102_ => ?_)
          refine w_aload_n dX12_least_38 rfl 0 rfl ?_
          refine w_ldc (v := (-1000001)) m_1433 dX12_least_39 ?_
          refine w_callV (as := [vI (-1000001)]) (rest := []) (c_X12_finding l G cy ad (d + 3) (-1000001) Mz hIz (by first | decide | (unfold vF; omega) | (unfold vRw; omega))) kV_X12_finding pnn_17 (Nat.le_of_ble_eq_true rfl) m_1434 rfl rfl rfl ic_12 rfl rfl (by decide) (Nat.le_of_ble_eq_true rfl) dX12_least_41 (fun r103_ M104_ q105_ => ?_)
          obtain ⟨hI107_, hF108_, h106_, hs110_⟩ := q105_
          have hF109_ := hFz.tr hF108_ (fun c k => (fun h => h.elim (fun h => (Or.inl ⟨h.1, h.2⟩)) (fun h => h.elim)))
          simp only [li_m1000001] at h106_
          exact w_iret rfl dX12_least_44 ⟨hI107_, hF109_, trivial, (Or.inl ⟨hs5_, h4_, (Or.inl ⟨hs11_, h10_, (Or.inl ⟨hs17_, h16_, (Or.inr ⟨hs23_, h22_, M104_, hI107_, hF108_, r103_, hs110_, h106_, rfl, rfl⟩)⟩)⟩)⟩)⟩
      · simp only [li_1, li_15] at h16_
        refine w_if_eq (tgt := 38) dX12_least_25 (by decide) li_0 (fun h111_ => ?_) (fun h9 => (absurd h9 (by decide)))
        refine w_aload_n dX12_least_38 rfl 0 rfl ?_
        refine w_ldc (v := (-1000001)) m_1433 dX12_least_39 ?_
        refine w_callV (as := [vI (-1000001)]) (rest := []) (c_X12_finding l G cy ad (d + 3) (-1000001) Mz hIz (by first | decide | (unfold vF; omega) | (unfold vRw; omega))) kV_X12_finding pnn_17 (Nat.le_of_ble_eq_true rfl) m_1434 rfl rfl rfl ic_12 rfl rfl (by decide) (Nat.le_of_ble_eq_true rfl) dX12_least_41 (fun r112_ M113_ q114_ => ?_)
        obtain ⟨hI116_, hF117_, h115_, hs119_⟩ := q114_
        have hF118_ := hFz.tr hF117_ (fun c k => (fun h => h.elim (fun h => (Or.inl ⟨h.1, h.2⟩)) (fun h => h.elim)))
        simp only [li_m1000001] at h115_
        exact w_iret rfl dX12_least_44 ⟨hI116_, hF118_, trivial, (Or.inl ⟨hs5_, h4_, (Or.inl ⟨hs11_, h10_, (Or.inr ⟨hs17_, h16_, M113_, hI116_, hF117_, r112_, hs119_, h115_, rfl, rfl⟩)⟩)⟩)⟩
    · simp only [li_0, li_4] at h10_
      refine w_if_eq (tgt := 38) dX12_least_15 (by decide) li_0 (fun h120_ => ?_) (fun h9 => (absurd h9 (by decide)))
      refine w_aload_n dX12_least_38 rfl 0 rfl ?_
      refine w_ldc (v := (-1000001)) m_1433 dX12_least_39 ?_
      refine w_callV (as := [vI (-1000001)]) (rest := []) (c_X12_finding l G cy ad (d + 3) (-1000001) Mz hIz (by first | decide | (unfold vF; omega) | (unfold vRw; omega))) kV_X12_finding pnn_17 (Nat.le_of_ble_eq_true rfl) m_1434 rfl rfl rfl ic_12 rfl rfl (by decide) (Nat.le_of_ble_eq_true rfl) dX12_least_41 (fun r121_ M122_ q123_ => ?_)
      obtain ⟨hI125_, hF126_, h124_, hs128_⟩ := q123_
      have hF127_ := hFz.tr hF126_ (fun c k => (fun h => h.elim (fun h => (Or.inl ⟨h.1, h.2⟩)) (fun h => h.elim)))
      simp only [li_m1000001] at h124_
      exact w_iret rfl dX12_least_44 ⟨hI125_, hF127_, trivial, (Or.inl ⟨hs5_, h4_, (Or.inr ⟨hs11_, h10_, M122_, hI125_, hF126_, r121_, hs128_, h124_, rfl, rfl⟩)⟩)⟩
  · refine w_if_eq (tgt := 38) dX12_least_6 (by decide) li_0 (fun h129_ => ?_) (fun h9 => (absurd h9 (by decide)))
    refine w_aload_n dX12_least_38 rfl 0 rfl ?_
    refine w_ldc (v := (-1000001)) m_1433 dX12_least_39 ?_
    refine w_callV (as := [vI (-1000001)]) (rest := []) (c_X12_finding l G cy ad (d + 3) (-1000001) Mz hIz (by first | decide | (unfold vF; omega) | (unfold vRw; omega))) kV_X12_finding pnn_17 (Nat.le_of_ble_eq_true rfl) m_1434 rfl rfl rfl ic_12 rfl rfl (by decide) (Nat.le_of_ble_eq_true rfl) dX12_least_41 (fun r130_ M131_ q132_ => ?_)
    obtain ⟨hI134_, hF135_, h133_, hs137_⟩ := q132_
    have hF136_ := hFz.tr hF135_ (fun c k => (fun h => h.elim (fun h => (Or.inl ⟨h.1, h.2⟩)) (fun h => h.elim)))
    simp only [li_m1000001] at h133_
    exact w_iret rfl dX12_least_44 ⟨hI134_, hF136_, trivial, (Or.inr ⟨hs5_, M131_, hI134_, hF135_, r130_, hs137_, h133_, rfl, rfl⟩)⟩
def S_c_X12_farthest : rf → Nat → Prop := fun c k => (c.1 = 53 ∧ c.2.1 = 0) ∨ (c.1 = 58 ∧ c.2.1 = 0 ∧ k = 0) ∨ (c.1 = 58 ∧ c.2.1 = 0 ∧ k = 1) ∨ (c.1 = 58 ∧ c.2.1 = 0 ∧ k = 2) ∨ (c.1 = 58 ∧ c.2.1 = 0 ∧ k = 3) ∨ (c.1 = 59 ∧ c.2.1 = 0) ∨ False
def ST_X12_farthest_40 (v : Int32) (u : Int32) (t : Int32) (Mz : mM) (v4_40 : Int32) (M_40 : mM) (v4_40y : Int32) (M_40y : mM) : Prop := (v4_40.toInt ≤ 12) ∧ (InvD M_40) ∧ (FR (S_c_X12_farthest) Mz M_40) ∧ (0 < v4_40.toInt) ∧ ∃ r34_ : Int32, (SP_X12_ears v M_40 r34_) ∧ (0 ≤ r34_.toInt ∧ r34_.toInt ≤ 9) ∧ ∃ z39_ : Int32, (z39_.toInt = t.toInt / 100) ∧ ∃ z41_ : Int32, (z41_.toInt = t.toInt % 100) ∧ ∃ M44_ : mM, (InvD M44_) ∧ (FR (S_c_X12_isHeard) M_40 M44_) ∧ ∃ r43_ : Int32, (SP_X12_isHeard r34_ u z39_ z41_ 0 v4_40 M_40 r43_ M44_) ∧ ((0 ≤ r43_.toInt ∧ r43_.toInt ≤ 1)) ∧ (r43_.toInt = 0) ∧ ∃ z52_ : Int32, (z52_.toInt = v4_40.toInt + (-1)) ∧ v4_40y = z52_ ∧ M_40y = M44_
def SP_X12_farthest (v : Int32) (u : Int32) (t : Int32) (Mz : mM) (r_ : Int32) (M_ : mM) : Prop := (((SP_is2 v Mz (1 : Int32)) ∧ (0 ≤ v.toInt ∧ v.toInt ≤ 7) ∧ (((SP_X12_within u 0 4 Mz (1 : Int32)) ∧ (0 ≤ u.toInt ∧ u.toInt ≤ 4) ∧ (((SP_X12_isClick t Mz (1 : Int32)) ∧ (100 ≤ t.toInt ∧ t.toInt ≤ 999) ∧ ∃ r19_ : Int32, (SP_X12_reach v Mz r19_) ∧ (0 ≤ r19_.toInt ∧ r19_.toInt ≤ 12) ∧ ∃ v4_40 : Int32, (v4_40.toInt ≤ 12) ∧ ∃ M_40 : mM, (RCH (fun x_ y_ => ST_X12_farthest_40 v u t Mz x_.1 x_.2 y_.1 y_.2) (r19_, Mz) (v4_40, M_40)) ∧ (InvD M_40) ∧ (FR (S_c_X12_farthest) Mz M_40) ∧ (((v4_40.toInt ≤ 0) ∧ ∃ M27_ : mM, (InvD M27_) ∧ (FR (S_c_X12_finding) M_40 M27_) ∧ ∃ r26_ : Int32, (SP_X12_finding (-1000002) M_40 r26_ M27_) ∧ (r26_.toInt = (-1000002)) ∧ r_ = r26_ ∧ M_ = M27_) ∨ ((0 < v4_40.toInt) ∧ ∃ r34_ : Int32, (SP_X12_ears v M_40 r34_) ∧ (0 ≤ r34_.toInt ∧ r34_.toInt ≤ 9) ∧ ∃ z39_ : Int32, (z39_.toInt = t.toInt / 100) ∧ ∃ z41_ : Int32, (z41_.toInt = t.toInt % 100) ∧ ∃ M44_ : mM, (InvD M44_) ∧ (FR (S_c_X12_isHeard) M_40 M44_) ∧ ∃ r43_ : Int32, (SP_X12_isHeard r34_ u z39_ z41_ 0 v4_40 M_40 r43_ M44_) ∧ ((0 ≤ r43_.toInt ∧ r43_.toInt ≤ 1)) ∧ (¬ r43_.toInt = 0) ∧ r_ = v4_40 ∧ M_ = M44_))) ∨ ((SP_X12_isClick t Mz (0 : Int32)) ∧ ∃ M56_ : mM, (InvD M56_) ∧ (FR (S_c_X12_finding) Mz M56_) ∧ ∃ r55_ : Int32, (SP_X12_finding (-1000001) Mz r55_ M56_) ∧ (r55_.toInt = (-1000001)) ∧ r_ = r55_ ∧ M_ = M56_))) ∨ ((SP_X12_within u 0 4 Mz (0 : Int32)) ∧ (¬ (0 ≤ u.toInt ∧ u.toInt ≤ 4)) ∧ ∃ M65_ : mM, (InvD M65_) ∧ (FR (S_c_X12_finding) Mz M65_) ∧ ∃ r64_ : Int32, (SP_X12_finding (-1000001) Mz r64_ M65_) ∧ (r64_.toInt = (-1000001)) ∧ r_ = r64_ ∧ M_ = M65_))) ∨ ((SP_is2 v Mz (0 : Int32)) ∧ ∃ M74_ : mM, (InvD M74_) ∧ (FR (S_c_X12_finding) Mz M74_) ∧ ∃ r73_ : Int32, (SP_X12_finding (-1000001) Mz r73_ M74_) ∧ (r73_.toInt = (-1000001)) ∧ r_ = r73_ ∧ M_ = M74_))
theorem lf_c_X12_farthest_3 (v4_40 : Int32) (hv0_40 : v4_40.toInt ≤ 12) (h25_ : 0 < v4_40.toInt) : -2147483648 ≤ v4_40.toInt + (-1) ∧ v4_40.toInt + (-1) < 2147483648 := by omega
theorem lf_c_X12_farthest_4 (v4_40 : Int32) (z52_ : Int32) (hv0_40 : v4_40.toInt ≤ 12) (h53_ : z52_.toInt = v4_40.toInt + (-1)) : z52_.toInt ≤ 12 := by omega
theorem lf_c_X12_farthest_5 (v4_40 : Int32) (z52_ : Int32) (h25_ : 0 < v4_40.toInt) (h53_ : z52_.toInt = v4_40.toInt + (-1)) : (z52_.toInt).toNat < (v4_40.toInt).toNat := by omega
theorem lf_c_X12_farthest_6 (r19_ : Int32) (h22_ : 0 ≤ r19_.toInt ∧ r19_.toInt ≤ 12) : r19_.toInt ≤ 12 := by omega
set_option maxHeartbeats 4000000 in
set_option maxRecDepth 100000 in
theorem c_X12_farthest (l : Launch) (G : va_G) (cy : Nat → ClassId) (ad : rf → Nat) (d : Nat) (v : Int32) (u : Int32) (t : Int32) (Mz : mM) (hIz : InvD Mz) : WP DD l G cy ad yX12_farthest cX12_farthest 5 (some .int) (d + 4) 0 [(0, vR (12, 0, 0)), (1, vI v), (2, vI u), (3, vI t)] [] Mz (fun r M' => InvD M' ∧ FR (S_c_X12_farthest) Mz M' ∧ (True) ∧ SP_X12_farthest v u t Mz r M') := by
  have hFz : FR (S_c_X12_farthest) Mz Mz := FR.self
  refine w_aload_n dX12_farthest_0 rfl 0 rfl ?_
  refine w_iload_n dX12_farthest_1 rfl 1 rfl ?_
  refine w_iconst (v := 2) dX12_farthest_2 (by decide) ?_
  refine w_callV (as := [vI v, vI 2]) (rest := []) (c_is2 l G cy ad (d + 2) v Mz hIz) kV_X12_is pnn_17 (Nat.le_of_ble_eq_true rfl) m_1465 rfl rfl rfl ic_12 rfl rfl (by decide) (Nat.le_of_ble_eq_true rfl) dX12_farthest_3 (fun r1_ M2_ q3_ => ?_)
  obtain ⟨rfl, h4_, hs5_⟩ := q3_
  rcases h4_ with ⟨rfl, h4_⟩ | rfl
  · refine w_if_eq (tgt := 26) dX12_farthest_6 (by decide) li_1 (fun h9 => (absurd h9 (by decide))) (fun h6_ => ?_)
    refine w_iload_n dX12_farthest_9 rfl 2 rfl ?_
    refine w_iconst (v := 0) dX12_farthest_10 (by decide) ?_
    refine w_iconst (v := 4) dX12_farthest_11 (by decide) ?_
    refine w_callS (as := [vI u, vI 0, vI 4]) (rest := []) (c_X12_within l G cy ad (d + 3) u 0 4 Mz hIz) kS_X12_within pnn_17 (Nat.le_of_ble_eq_true rfl) m_1427 rfl rfl (by decide) (Nat.le_of_ble_eq_true rfl) dX12_farthest_12 (fun r7_ M8_ q9_ => ?_)
    obtain ⟨rfl, h10_, hs11_⟩ := q9_
    rcases h10_ with ⟨rfl, h10_⟩ | ⟨rfl, h10_⟩
    · simp only [li_0, li_4] at h10_
      refine w_if_eq (tgt := 26) dX12_farthest_15 (by decide) li_1 (fun h9 => (absurd h9 (by decide))) (fun h12_ => ?_)
      refine w_aload_n dX12_farthest_18 rfl 0 rfl ?_
      refine w_iload_n dX12_farthest_19 rfl 3 rfl ?_
      refine w_callV (as := [vI t]) (rest := []) (c_X12_isClick l G cy ad (d + 2) t Mz hIz) kV_X12_isClick pnn_17 (Nat.le_of_ble_eq_true rfl) m_1624 rfl rfl rfl ic_12 rfl rfl (by decide) (Nat.le_of_ble_eq_true rfl) dX12_farthest_20 (fun r13_ M14_ q15_ => ?_)
      obtain ⟨rfl, h16_, hs17_⟩ := q15_
      rcases h16_ with ⟨rfl, h16_⟩ | rfl
      · refine w_if_ne (tgt := 33) dX12_farthest_23 (by decide) li_1 (fun h18_ => ?_) (fun h9 => (absurd h9 (by decide)))
        refine w_aload_n dX12_farthest_33 rfl 0 rfl ?_
        refine w_iload_n dX12_farthest_34 rfl 1 rfl ?_
        refine w_callV (as := [vI v]) (rest := []) (c_X12_reach l G cy ad d v Mz hIz h4_) kV_X12_reach pnn_17 (Nat.le_of_ble_eq_true rfl) m_1513 rfl rfl rfl ic_12 rfl rfl (by decide) (Nat.le_of_ble_eq_true rfl) dX12_farthest_35 (fun r19_ M20_ q21_ => ?_)
        obtain ⟨rfl, h22_, hs23_⟩ := q21_
        refine w_istore (ls' := [(4, vI r19_), (0, vR (12, 0, 0)), (1, vI v), (2, vI u), (3, vI t)]) dX12_farthest_38 (by decide) rfl ?_
        have lp24_ : ∀ (nn_40 : Nat) (M_40 : mM) (hI_40 : InvD M_40) (hF_40 : FR (S_c_X12_farthest) Mz M_40) (v4_40 : Int32) (hv0_40 : v4_40.toInt ≤ 12) (hL_40 : RCH (fun x_ y_ => ST_X12_farthest_40 v u t Mz x_.1 x_.2 y_.1 y_.2) (r19_, Mz) (v4_40, M_40)), (v4_40.toInt).toNat < nn_40 → WP DD l G cy ad yX12_farthest cX12_farthest 5 (some .int) (d + 4) 40 [(4, vI v4_40), (0, vR (12, 0, 0)), (1, vI v), (2, vI u), (3, vI t)] [] M_40 (fun r M' => InvD M' ∧ FR (S_c_X12_farthest) Mz M' ∧ (True) ∧ SP_X12_farthest v u t Mz r M') := by
          intro nn_40
          induction nn_40 with
          | zero => intro M_40 hI_40 hF_40 v4_40 hv0_40 hL_40 hm_40; exact absurd hm_40 (Nat.not_lt_zero _)
          | succ nn_40 ih_40 =>
            intro M_40 hI_40 hF_40 v4_40 hv0_40 hL_40 hm_40
            refine w_iload dX12_farthest_40 0 rfl ?_
            refine w_if_le (tgt := 78) dX12_farthest_42 (by decide) (rfl : v4_40.toInt = v4_40.toInt) (fun h25_ => ?_) (fun h25_ => ?_)
            · refine w_aload_n dX12_farthest_78 rfl 1 rfl ?_
              refine w_ldc (v := (-1000002)) m_1500 dX12_farthest_79 ?_
              refine w_callV (as := [vI (-1000002)]) (rest := []) (c_X12_finding l G cy ad (d + 3) (-1000002) M_40 hI_40 (by first | decide | (unfold vF; omega) | (unfold vRw; omega))) kV_X12_finding pnn_17 (Nat.le_of_ble_eq_true rfl) m_1434 rfl rfl rfl ic_12 rfl rfl (by decide) (Nat.le_of_ble_eq_true rfl) dX12_farthest_81 (fun r26_ M27_ q28_ => ?_)
              obtain ⟨hI30_, hF31_, h29_, hs33_⟩ := q28_
              have hF32_ := hF_40.tr hF31_ (fun c k => (fun h => h.elim (fun h => (Or.inl ⟨h.1, h.2⟩)) (fun h => h.elim)))
              simp only [li_m1000002] at h29_
              exact w_iret rfl dX12_farthest_84 ⟨hI30_, hF32_, trivial, (Or.inl ⟨hs5_, h4_, (Or.inl ⟨hs11_, h10_, (Or.inl ⟨hs17_, h16_, r19_, hs23_, h22_, v4_40, hv0_40, M_40, hL_40, hI_40, hF_40, (Or.inl ⟨h25_, M27_, hI30_, hF31_, r26_, hs33_, h29_, rfl, rfl⟩)⟩)⟩)⟩)⟩
            · refine w_aload_n dX12_farthest_45 rfl 1 rfl ?_
              refine w_aload_n dX12_farthest_46 rfl 1 rfl ?_
              refine w_iload_n dX12_farthest_47 rfl 2 rfl ?_
              refine w_callV (as := [vI v]) (rest := [vR (12, 0, 0)]) (c_X12_ears l G cy ad (d + 1) v M_40 hI_40 h4_) kV_X12_ears pnn_17 (Nat.le_of_ble_eq_true rfl) m_1524 rfl rfl rfl ic_12 rfl rfl (by decide) (Nat.le_of_ble_eq_true rfl) dX12_farthest_48 (fun r34_ M35_ q36_ => ?_)
              obtain ⟨rfl, h37_, hs38_⟩ := q36_
              refine w_iload_n dX12_farthest_51 rfl 3 rfl ?_
              refine w_iload_n dX12_farthest_52 rfl 4 rfl ?_
              refine w_bipush (v := 100) dX12_farthest_53 (by decide) ?_
              refine w_idivB dX12_farthest_55 (by decide) (rfl : t.toInt = t.toInt) li_100 (lf_c_X12_isClick_0 t h16_ ) (by decide) (fun z39_ h40_ => ?_)
              refine w_iload_n dX12_farthest_56 rfl 4 rfl ?_
              refine w_bipush (v := 100) dX12_farthest_57 (by decide) ?_
              refine w_iremB dX12_farthest_59 (by decide) (rfl : t.toInt = t.toInt) li_100 (lf_c_X12_isClick_0 t h16_ ) (by decide) (fun z41_ h42_ => ?_)
              refine w_iconst (v := 0) dX12_farthest_60 (by decide) ?_
              refine w_iload dX12_farthest_61 0 rfl ?_
              refine w_callV (as := [vI r34_, vI u, vI z39_, vI z41_, vI 0, vI v4_40]) (rest := []) (c_X12_isHeard l G cy ad d r34_ u z39_ z41_ 0 v4_40 M_40 hI_40 (lf_c_X12_least_2 u h10_ )) kV_X12_isHeard pnn_17 (Nat.le_of_ble_eq_true rfl) m_1663 rfl rfl rfl ic_12 rfl rfl (by decide) (Nat.le_of_ble_eq_true rfl) dX12_farthest_63 (fun r43_ M44_ q45_ => ?_)
              obtain ⟨hI47_, hF48_, h46_, hs50_⟩ := q45_
              have hF49_ := hF_40.tr hF48_ (fun c k => (fun h => h.elim (fun h => (Or.inr (Or.inl ⟨h.1, h.2.1, h.2.2⟩))) (fun h => h.elim (fun h => (Or.inr (Or.inr (Or.inl ⟨h.1, h.2.1, h.2.2⟩)))) (fun h => h.elim (fun h => (Or.inr (Or.inr (Or.inr (Or.inl ⟨h.1, h.2.1, h.2.2⟩))))) (fun h => h.elim (fun h => (Or.inr (Or.inr (Or.inr (Or.inr (Or.inl ⟨h.1, h.2.1, h.2.2⟩)))))) (fun h => h.elim (fun h => (Or.inr (Or.inr (Or.inr (Or.inr (Or.inr (Or.inl ⟨h.1, h.2⟩))))))) (fun h => h.elim)))))))
              refine w_if_eq (tgt := 72) dX12_farthest_66 (by decide) (rfl : r43_.toInt = r43_.toInt) (fun h51_ => ?_) (fun h51_ => ?_)
              · refine w_iincB (j := 0) (f := fun z52_ => [(4, vI z52_), (0, vR (12, 0, 0)), (1, vI v), (2, vI u), (3, vI t)]) dX12_farthest_72 rfl (by decide) (fun _ => rfl) (rfl : v4_40.toInt = v4_40.toInt) li_m1 (lf_c_X12_farthest_3 v4_40 hv0_40 h25_ ) (fun z52_ h53_ => ?_)
                refine w_goto (tgt := 40) dX12_farthest_75 (by decide) ?_
                refine w_loc (ls' := [(4, vI z52_), (0, vR (12, 0, 0)), (1, vI v), (2, vI u), (3, vI t)]) [0, 1, 2, 3, 4] rfl ?_
                exact ih_40 M44_ hI47_ hF49_ z52_ (lf_c_X12_farthest_4 v4_40 z52_ hv0_40 h53_ ) (RCH.tail hL_40 ⟨hv0_40, hI_40, hF_40, h25_, r34_, hs38_, h37_, z39_, h40_, z41_, h42_, M44_, hI47_, hF48_, r43_, hs50_, h46_, h51_, z52_, h53_, rfl, rfl⟩) (Nat.lt_of_lt_of_le (lf_c_X12_farthest_5 v4_40 z52_ h25_ h53_ ) (Nat.le_of_lt_succ hm_40))
              · refine w_iload dX12_farthest_69 0 rfl ?_
                exact w_iret rfl dX12_farthest_71 ⟨hI47_, hF49_, trivial, (Or.inl ⟨hs5_, h4_, (Or.inl ⟨hs11_, h10_, (Or.inl ⟨hs17_, h16_, r19_, hs23_, h22_, v4_40, hv0_40, M_40, hL_40, hI_40, hF_40, (Or.inr ⟨h25_, r34_, hs38_, h37_, z39_, h40_, z41_, h42_, M44_, hI47_, hF48_, r43_, hs50_, h46_, h51_, rfl, rfl⟩)⟩)⟩)⟩)⟩
        exact lp24_ _ Mz hIz hFz r19_ (lf_c_X12_farthest_6 r19_ h22_ ) RCH.refl (Nat.lt_succ_self _)
      · refine w_if_ne (tgt := 33) dX12_farthest_23 (by decide) li_0 (fun h9 => (absurd h9 (by decide))) (fun h54_ => ?_)
        refine w_aload_n dX12_farthest_26 rfl 0 rfl ?_
        refine w_ldc (v := (-1000001)) m_1433 dX12_farthest_27 ?_
        refine w_callV (as := [vI (-1000001)]) (rest := []) (c_X12_finding l G cy ad (d + 3) (-1000001) Mz hIz (by first | decide | (unfold vF; omega) | (unfold vRw; omega))) kV_X12_finding pnn_17 (Nat.le_of_ble_eq_true rfl) m_1434 rfl rfl rfl ic_12 rfl rfl (by decide) (Nat.le_of_ble_eq_true rfl) dX12_farthest_29 (fun r55_ M56_ q57_ => ?_)
        obtain ⟨hI59_, hF60_, h58_, hs62_⟩ := q57_
        have hF61_ := hFz.tr hF60_ (fun c k => (fun h => h.elim (fun h => (Or.inl ⟨h.1, h.2⟩)) (fun h => h.elim)))
        simp only [li_m1000001] at h58_
        exact w_iret rfl dX12_farthest_32 ⟨hI59_, hF61_, trivial, (Or.inl ⟨hs5_, h4_, (Or.inl ⟨hs11_, h10_, (Or.inr ⟨hs17_, M56_, hI59_, hF60_, r55_, hs62_, h58_, rfl, rfl⟩)⟩)⟩)⟩
    · simp only [li_0, li_4] at h10_
      refine w_if_eq (tgt := 26) dX12_farthest_15 (by decide) li_0 (fun h63_ => ?_) (fun h9 => (absurd h9 (by decide)))
      refine w_aload_n dX12_farthest_26 rfl 0 rfl ?_
      refine w_ldc (v := (-1000001)) m_1433 dX12_farthest_27 ?_
      refine w_callV (as := [vI (-1000001)]) (rest := []) (c_X12_finding l G cy ad (d + 3) (-1000001) Mz hIz (by first | decide | (unfold vF; omega) | (unfold vRw; omega))) kV_X12_finding pnn_17 (Nat.le_of_ble_eq_true rfl) m_1434 rfl rfl rfl ic_12 rfl rfl (by decide) (Nat.le_of_ble_eq_true rfl) dX12_farthest_29 (fun r64_ M65_ q66_ => ?_)
      obtain ⟨hI68_, hF69_, h67_, hs71_⟩ := q66_
      have hF70_ := hFz.tr hF69_ (fun c k => (fun h => h.elim (fun h => (Or.inl ⟨h.1, h.2⟩)) (fun h => h.elim)))
      simp only [li_m1000001] at h67_
      exact w_iret rfl dX12_farthest_32 ⟨hI68_, hF70_, trivial, (Or.inl ⟨hs5_, h4_, (Or.inr ⟨hs11_, h10_, M65_, hI68_, hF69_, r64_, hs71_, h67_, rfl, rfl⟩)⟩)⟩
  · refine w_if_eq (tgt := 26) dX12_farthest_6 (by decide) li_0 (fun h72_ => ?_) (fun h9 => (absurd h9 (by decide)))
    refine w_aload_n dX12_farthest_26 rfl 0 rfl ?_
    refine w_ldc (v := (-1000001)) m_1433 dX12_farthest_27 ?_
    refine w_callV (as := [vI (-1000001)]) (rest := []) (c_X12_finding l G cy ad (d + 3) (-1000001) Mz hIz (by first | decide | (unfold vF; omega) | (unfold vRw; omega))) kV_X12_finding pnn_17 (Nat.le_of_ble_eq_true rfl) m_1434 rfl rfl rfl ic_12 rfl rfl (by decide) (Nat.le_of_ble_eq_true rfl) dX12_farthest_29 (fun r73_ M74_ q75_ => ?_)
    obtain ⟨hI77_, hF78_, h76_, hs80_⟩ := q75_
    have hF79_ := hFz.tr hF78_ (fun c k => (fun h => h.elim (fun h => (Or.inl ⟨h.1, h.2⟩)) (fun h => h.elim)))
    simp only [li_m1000001] at h76_
    exact w_iret rfl dX12_farthest_32 ⟨hI77_, hF79_, trivial, (Or.inr ⟨hs5_, M74_, hI77_, hF78_, r73_, hs80_, h76_, rfl, rfl⟩)⟩
end
section
/-! words of the tables that are used, by their places; decode rows; fields -/
theorem m_60 : Cond.selects yX12_areCells.cls yX12_areCells yX12_areCells ∈ BASE := bmem 60 (by decide +kernel) rfl
theorem m_61 : Cond.selects yX12_findTold.cls yX12_findTold yX12_findTold ∈ BASE := bmem 61 (by decide +kernel) rfl
theorem m_62 : Cond.selects yX12_toldBy.cls yX12_toldBy yX12_toldBy ∈ BASE := bmem 62 (by decide +kernel) rfl
set_option maxRecDepth 20000 in
theorem m_1341 : Cond.fieldLink RX12 53 "ClickStreetModel" "tells" "[Z" ∈ BASE := bmT6 63 rfl rfl
set_option maxRecDepth 20000 in
theorem m_1719 : Cond.methodLink RX12 272 yX12_areCells ∈ BASE := bmT7 201 rfl rfl
set_option maxRecDepth 20000 in
theorem m_1721 : Cond.instanceMethod yX12_areCells ∈ BASE := bmT7 203 rfl rfl
set_option maxRecDepth 20000 in
theorem m_1722 : Cond.code yX12_areCells cX12_areCells 6 (some .boolean) ∈ BASE := bmT7 204 rfl rfl
set_option maxRecDepth 20000 in
theorem m_1723 : Cond.methodLink RX12 276 yX12_findTold ∈ BASE := bmT7 205 rfl rfl
set_option maxRecDepth 20000 in
theorem m_1725 : Cond.instanceMethod yX12_findTold ∈ BASE := bmT7 207 rfl rfl
set_option maxRecDepth 20000 in
theorem m_1726 : Cond.code yX12_findTold cX12_findTold 8 none ∈ BASE := bmT7 208 rfl rfl
set_option maxRecDepth 20000 in
theorem m_1727 : Cond.methodLink RX12 280 yX12_bits ∈ BASE := bmT7 209 rfl rfl
set_option maxRecDepth 20000 in
theorem m_1728 : Cond.static yX12_bits ∈ BASE := bmT7 210 rfl rfl
set_option maxRecDepth 20000 in
theorem m_1729 : Cond.code yX12_bits cX12_bits 3 (some .int) ∈ BASE := bmT7 211 rfl rfl
set_option maxRecDepth 20000 in
theorem m_1730 : Cond.methodLink RX12 283 yX12_toldBy ∈ BASE := bmT7 212 rfl rfl
set_option maxRecDepth 20000 in
theorem m_1732 : Cond.instanceMethod yX12_toldBy ∈ BASE := bmT7 214 rfl rfl
set_option maxRecDepth 20000 in
theorem m_1733 : Cond.code yX12_toldBy cX12_toldBy 6 (some .int) ∈ BASE := bmT7 215 rfl rfl
theorem kS_X12_bits : KS yX12_bits cX12_bits 3 (some .int) 1 := ⟨m_1728, m_92, m_1729, nhM_17, nhV_17, pdn_2⟩
theorem kV_X12_areCells : KV yX12_areCells cX12_areCells 6 (some .boolean) 2 := ⟨m_1721, m_60, m_92, m_1722, nhM_17, nhV_17, pdn_39⟩
theorem kV_X12_findTold : KV yX12_findTold cX12_findTold 8 none 3 := ⟨m_1725, m_61, m_92, m_1726, nhM_17, nhV_17, pdn_19⟩
theorem kV_X12_toldBy : KV yX12_toldBy cX12_toldBy 6 (some .int) 1 := ⟨m_1732, m_62, m_92, m_1733, nhM_17, nhV_17, pdn_2⟩
theorem fl_RX12_53 : FLK RX12 53 12 18 (.array .boolean) true := ⟨RX12, TX12, 33, tyX12, rfl, inB12, tyX12_ok, nmX12, by decide, rfl, rfl, Or.inl m_1341⟩
theorem ch_cX12_areCells_0 : (cX12_areCells.data.toList.drop 0).take 36 = [42, 180, 0, 75, 27, 46, 4, 16, 8, 184, 0, 85, 62, 3, 54, 4, 21, 4, 42, 180, 0, 75, 27, 46, 162, 0, 86, 29, 153, 0, 82, 42, 180, 0, 78, 16] := by decide +kernel
theorem dX12_areCells_0 : decode cX12_areCells 0 = .ok (.aload_n 0, 1) := do_42 (rdb (p := 0) (i := 0) ch_cX12_areCells_0 rfl)
theorem dX12_areCells_1 : decode cX12_areCells 1 = .ok (.getfield 75, 3) := do_180 (rdb (p := 0) (i := 1) ch_cX12_areCells_0 rfl) (rdb (p := 0) (i := 2) ch_cX12_areCells_0 rfl) (rdb (p := 0) (i := 3) ch_cX12_areCells_0 rfl) rfl
theorem dX12_areCells_4 : decode cX12_areCells 4 = .ok (.iload_n 1, 1) := do_27 (rdb (p := 0) (i := 4) ch_cX12_areCells_0 rfl)
theorem dX12_areCells_5 : decode cX12_areCells 5 = .ok (.iaload, 1) := do_46 (rdb (p := 0) (i := 5) ch_cX12_areCells_0 rfl)
theorem dX12_areCells_6 : decode cX12_areCells 6 = .ok (.iconst 1, 1) := do_4 (rdb (p := 0) (i := 6) ch_cX12_areCells_0 rfl)
theorem dX12_areCells_7 : decode cX12_areCells 7 = .ok (.bipush 8, 2) := do_16 (rdb (p := 0) (i := 7) ch_cX12_areCells_0 rfl) (rdb (p := 0) (i := 8) ch_cX12_areCells_0 rfl) (by decide +kernel)
theorem dX12_areCells_9 : decode cX12_areCells 9 = .ok (.invokestatic 85, 3) := do_184 (rdb (p := 0) (i := 9) ch_cX12_areCells_0 rfl) (rdb (p := 0) (i := 10) ch_cX12_areCells_0 rfl) (rdb (p := 0) (i := 11) ch_cX12_areCells_0 rfl) rfl
theorem dX12_areCells_12 : decode cX12_areCells 12 = .ok (.istore_n 3, 1) := do_62 (rdb (p := 0) (i := 12) ch_cX12_areCells_0 rfl)
theorem dX12_areCells_13 : decode cX12_areCells 13 = .ok (.iconst 0, 1) := do_3 (rdb (p := 0) (i := 13) ch_cX12_areCells_0 rfl)
theorem dX12_areCells_14 : decode cX12_areCells 14 = .ok (.istore 4, 2) := do_54 (rdb (p := 0) (i := 14) ch_cX12_areCells_0 rfl) (rdb (p := 0) (i := 15) ch_cX12_areCells_0 rfl)
theorem dX12_areCells_16 : decode cX12_areCells 16 = .ok (.iload 4, 2) := do_21 (rdb (p := 0) (i := 16) ch_cX12_areCells_0 rfl) (rdb (p := 0) (i := 17) ch_cX12_areCells_0 rfl)
theorem dX12_areCells_18 : decode cX12_areCells 18 = .ok (.aload_n 0, 1) := do_42 (rdb (p := 0) (i := 18) ch_cX12_areCells_0 rfl)
theorem dX12_areCells_19 : decode cX12_areCells 19 = .ok (.getfield 75, 3) := do_180 (rdb (p := 0) (i := 19) ch_cX12_areCells_0 rfl) (rdb (p := 0) (i := 20) ch_cX12_areCells_0 rfl) (rdb (p := 0) (i := 21) ch_cX12_areCells_0 rfl) rfl
theorem dX12_areCells_22 : decode cX12_areCells 22 = .ok (.iload_n 1, 1) := do_27 (rdb (p := 0) (i := 22) ch_cX12_areCells_0 rfl)
theorem dX12_areCells_23 : decode cX12_areCells 23 = .ok (.iaload, 1) := do_46 (rdb (p := 0) (i := 23) ch_cX12_areCells_0 rfl)
theorem dX12_areCells_24 : decode cX12_areCells 24 = .ok (.if_icmp .ge 86, 3) := do_162 (rdb (p := 0) (i := 24) ch_cX12_areCells_0 rfl) (rdb (p := 0) (i := 25) ch_cX12_areCells_0 rfl) (rdb (p := 0) (i := 26) ch_cX12_areCells_0 rfl) (by decide +kernel)
theorem dX12_areCells_27 : decode cX12_areCells 27 = .ok (.iload_n 3, 1) := do_29 (rdb (p := 0) (i := 27) ch_cX12_areCells_0 rfl)
theorem dX12_areCells_28 : decode cX12_areCells 28 = .ok (.ifCond .eq 82, 3) := do_153 (rdb (p := 0) (i := 28) ch_cX12_areCells_0 rfl) (rdb (p := 0) (i := 29) ch_cX12_areCells_0 rfl) (rdb (p := 0) (i := 30) ch_cX12_areCells_0 rfl) (by decide +kernel)
theorem dX12_areCells_31 : decode cX12_areCells 31 = .ok (.aload_n 0, 1) := do_42 (rdb (p := 0) (i := 31) ch_cX12_areCells_0 rfl)
theorem ch_cX12_areCells_32 : (cX12_areCells.data.toList.drop 32).take 36 = [180, 0, 78, 16, 24, 27, 104, 21, 4, 96, 46, 184, 0, 99, 62, 3, 54, 5, 21, 5, 21, 4, 162, 0, 50, 29, 153, 0, 38, 28, 153, 0, 30, 42, 180, 0] := by decide +kernel
theorem dX12_areCells_32 : decode cX12_areCells 32 = .ok (.getfield 78, 3) := do_180 (rdb (p := 32) (i := 0) ch_cX12_areCells_32 rfl) (rdb (p := 32) (i := 1) ch_cX12_areCells_32 rfl) (rdb (p := 32) (i := 2) ch_cX12_areCells_32 rfl) rfl
theorem dX12_areCells_35 : decode cX12_areCells 35 = .ok (.bipush 24, 2) := do_16 (rdb (p := 32) (i := 3) ch_cX12_areCells_32 rfl) (rdb (p := 32) (i := 4) ch_cX12_areCells_32 rfl) (by decide +kernel)
theorem dX12_areCells_37 : decode cX12_areCells 37 = .ok (.iload_n 1, 1) := do_27 (rdb (p := 32) (i := 5) ch_cX12_areCells_32 rfl)
theorem dX12_areCells_38 : decode cX12_areCells 38 = .ok (.imul, 1) := do_104 (rdb (p := 32) (i := 6) ch_cX12_areCells_32 rfl)
theorem dX12_areCells_39 : decode cX12_areCells 39 = .ok (.iload 4, 2) := do_21 (rdb (p := 32) (i := 7) ch_cX12_areCells_32 rfl) (rdb (p := 32) (i := 8) ch_cX12_areCells_32 rfl)
theorem dX12_areCells_41 : decode cX12_areCells 41 = .ok (.iadd, 1) := do_96 (rdb (p := 32) (i := 9) ch_cX12_areCells_32 rfl)
theorem dX12_areCells_42 : decode cX12_areCells 42 = .ok (.iaload, 1) := do_46 (rdb (p := 32) (i := 10) ch_cX12_areCells_32 rfl)
theorem dX12_areCells_43 : decode cX12_areCells 43 = .ok (.invokestatic 99, 3) := do_184 (rdb (p := 32) (i := 11) ch_cX12_areCells_32 rfl) (rdb (p := 32) (i := 12) ch_cX12_areCells_32 rfl) (rdb (p := 32) (i := 13) ch_cX12_areCells_32 rfl) rfl
theorem dX12_areCells_46 : decode cX12_areCells 46 = .ok (.istore_n 3, 1) := do_62 (rdb (p := 32) (i := 14) ch_cX12_areCells_32 rfl)
theorem dX12_areCells_47 : decode cX12_areCells 47 = .ok (.iconst 0, 1) := do_3 (rdb (p := 32) (i := 15) ch_cX12_areCells_32 rfl)
theorem dX12_areCells_48 : decode cX12_areCells 48 = .ok (.istore 5, 2) := do_54 (rdb (p := 32) (i := 16) ch_cX12_areCells_32 rfl) (rdb (p := 32) (i := 17) ch_cX12_areCells_32 rfl)
theorem dX12_areCells_50 : decode cX12_areCells 50 = .ok (.iload 5, 2) := do_21 (rdb (p := 32) (i := 18) ch_cX12_areCells_32 rfl) (rdb (p := 32) (i := 19) ch_cX12_areCells_32 rfl)
theorem dX12_areCells_52 : decode cX12_areCells 52 = .ok (.iload 4, 2) := do_21 (rdb (p := 32) (i := 20) ch_cX12_areCells_32 rfl) (rdb (p := 32) (i := 21) ch_cX12_areCells_32 rfl)
theorem dX12_areCells_54 : decode cX12_areCells 54 = .ok (.if_icmp .ge 50, 3) := do_162 (rdb (p := 32) (i := 22) ch_cX12_areCells_32 rfl) (rdb (p := 32) (i := 23) ch_cX12_areCells_32 rfl) (rdb (p := 32) (i := 24) ch_cX12_areCells_32 rfl) (by decide +kernel)
theorem dX12_areCells_57 : decode cX12_areCells 57 = .ok (.iload_n 3, 1) := do_29 (rdb (p := 32) (i := 25) ch_cX12_areCells_32 rfl)
theorem dX12_areCells_58 : decode cX12_areCells 58 = .ok (.ifCond .eq 38, 3) := do_153 (rdb (p := 32) (i := 26) ch_cX12_areCells_32 rfl) (rdb (p := 32) (i := 27) ch_cX12_areCells_32 rfl) (rdb (p := 32) (i := 28) ch_cX12_areCells_32 rfl) (by decide +kernel)
theorem dX12_areCells_61 : decode cX12_areCells 61 = .ok (.iload_n 2, 1) := do_28 (rdb (p := 32) (i := 29) ch_cX12_areCells_32 rfl)
theorem dX12_areCells_62 : decode cX12_areCells 62 = .ok (.ifCond .eq 30, 3) := do_153 (rdb (p := 32) (i := 30) ch_cX12_areCells_32 rfl) (rdb (p := 32) (i := 31) ch_cX12_areCells_32 rfl) (rdb (p := 32) (i := 32) ch_cX12_areCells_32 rfl) (by decide +kernel)
theorem ch_cX12_areCells_64 : (cX12_areCells.data.toList.drop 64).take 36 = [30, 42, 180, 0, 78, 16, 24, 27, 104, 21, 5, 96, 46, 42, 180, 0, 78, 16, 24, 27, 104, 21, 4, 96, 46, 159, 0, 7, 4, 167, 0, 4, 3, 62, 132, 5] := by decide +kernel
theorem dX12_areCells_65 : decode cX12_areCells 65 = .ok (.aload_n 0, 1) := do_42 (rdb (p := 64) (i := 1) ch_cX12_areCells_64 rfl)
theorem dX12_areCells_66 : decode cX12_areCells 66 = .ok (.getfield 78, 3) := do_180 (rdb (p := 64) (i := 2) ch_cX12_areCells_64 rfl) (rdb (p := 64) (i := 3) ch_cX12_areCells_64 rfl) (rdb (p := 64) (i := 4) ch_cX12_areCells_64 rfl) rfl
theorem dX12_areCells_69 : decode cX12_areCells 69 = .ok (.bipush 24, 2) := do_16 (rdb (p := 64) (i := 5) ch_cX12_areCells_64 rfl) (rdb (p := 64) (i := 6) ch_cX12_areCells_64 rfl) (by decide +kernel)
theorem dX12_areCells_71 : decode cX12_areCells 71 = .ok (.iload_n 1, 1) := do_27 (rdb (p := 64) (i := 7) ch_cX12_areCells_64 rfl)
theorem dX12_areCells_72 : decode cX12_areCells 72 = .ok (.imul, 1) := do_104 (rdb (p := 64) (i := 8) ch_cX12_areCells_64 rfl)
theorem dX12_areCells_73 : decode cX12_areCells 73 = .ok (.iload 5, 2) := do_21 (rdb (p := 64) (i := 9) ch_cX12_areCells_64 rfl) (rdb (p := 64) (i := 10) ch_cX12_areCells_64 rfl)
theorem dX12_areCells_75 : decode cX12_areCells 75 = .ok (.iadd, 1) := do_96 (rdb (p := 64) (i := 11) ch_cX12_areCells_64 rfl)
theorem dX12_areCells_76 : decode cX12_areCells 76 = .ok (.iaload, 1) := do_46 (rdb (p := 64) (i := 12) ch_cX12_areCells_64 rfl)
theorem dX12_areCells_77 : decode cX12_areCells 77 = .ok (.aload_n 0, 1) := do_42 (rdb (p := 64) (i := 13) ch_cX12_areCells_64 rfl)
theorem dX12_areCells_78 : decode cX12_areCells 78 = .ok (.getfield 78, 3) := do_180 (rdb (p := 64) (i := 14) ch_cX12_areCells_64 rfl) (rdb (p := 64) (i := 15) ch_cX12_areCells_64 rfl) (rdb (p := 64) (i := 16) ch_cX12_areCells_64 rfl) rfl
theorem dX12_areCells_81 : decode cX12_areCells 81 = .ok (.bipush 24, 2) := do_16 (rdb (p := 64) (i := 17) ch_cX12_areCells_64 rfl) (rdb (p := 64) (i := 18) ch_cX12_areCells_64 rfl) (by decide +kernel)
theorem dX12_areCells_83 : decode cX12_areCells 83 = .ok (.iload_n 1, 1) := do_27 (rdb (p := 64) (i := 19) ch_cX12_areCells_64 rfl)
theorem dX12_areCells_84 : decode cX12_areCells 84 = .ok (.imul, 1) := do_104 (rdb (p := 64) (i := 20) ch_cX12_areCells_64 rfl)
theorem dX12_areCells_85 : decode cX12_areCells 85 = .ok (.iload 4, 2) := do_21 (rdb (p := 64) (i := 21) ch_cX12_areCells_64 rfl) (rdb (p := 64) (i := 22) ch_cX12_areCells_64 rfl)
theorem dX12_areCells_87 : decode cX12_areCells 87 = .ok (.iadd, 1) := do_96 (rdb (p := 64) (i := 23) ch_cX12_areCells_64 rfl)
theorem dX12_areCells_88 : decode cX12_areCells 88 = .ok (.iaload, 1) := do_46 (rdb (p := 64) (i := 24) ch_cX12_areCells_64 rfl)
theorem dX12_areCells_89 : decode cX12_areCells 89 = .ok (.if_icmp .eq 7, 3) := do_159 (rdb (p := 64) (i := 25) ch_cX12_areCells_64 rfl) (rdb (p := 64) (i := 26) ch_cX12_areCells_64 rfl) (rdb (p := 64) (i := 27) ch_cX12_areCells_64 rfl) (by decide +kernel)
theorem dX12_areCells_92 : decode cX12_areCells 92 = .ok (.iconst 1, 1) := do_4 (rdb (p := 64) (i := 28) ch_cX12_areCells_64 rfl)
theorem dX12_areCells_93 : decode cX12_areCells 93 = .ok (.goto 4, 3) := do_167 (rdb (p := 64) (i := 29) ch_cX12_areCells_64 rfl) (rdb (p := 64) (i := 30) ch_cX12_areCells_64 rfl) (rdb (p := 64) (i := 31) ch_cX12_areCells_64 rfl) (by decide +kernel)
theorem ch_cX12_areCells_96 : (cX12_areCells.data.toList.drop 96).take 36 = [3, 62, 132, 5, 1, 167, 255, 205, 132, 4, 1, 167, 255, 165, 29, 172] := by decide +kernel
theorem dX12_areCells_96 : decode cX12_areCells 96 = .ok (.iconst 0, 1) := do_3 (rdb (p := 96) (i := 0) ch_cX12_areCells_96 rfl)
theorem dX12_areCells_97 : decode cX12_areCells 97 = .ok (.istore_n 3, 1) := do_62 (rdb (p := 96) (i := 1) ch_cX12_areCells_96 rfl)
theorem dX12_areCells_98 : decode cX12_areCells 98 = .ok (.iinc 5 1, 3) := do_132 (rdb (p := 96) (i := 2) ch_cX12_areCells_96 rfl) (rdb (p := 96) (i := 3) ch_cX12_areCells_96 rfl) (rdb (p := 96) (i := 4) ch_cX12_areCells_96 rfl) (by decide +kernel)
theorem dX12_areCells_101 : decode cX12_areCells 101 = .ok (.goto (-51), 3) := do_167 (rdb (p := 96) (i := 5) ch_cX12_areCells_96 rfl) (rdb (p := 96) (i := 6) ch_cX12_areCells_96 rfl) (rdb (p := 96) (i := 7) ch_cX12_areCells_96 rfl) (by decide +kernel)
theorem dX12_areCells_104 : decode cX12_areCells 104 = .ok (.iinc 4 1, 3) := do_132 (rdb (p := 96) (i := 8) ch_cX12_areCells_96 rfl) (rdb (p := 96) (i := 9) ch_cX12_areCells_96 rfl) (rdb (p := 96) (i := 10) ch_cX12_areCells_96 rfl) (by decide +kernel)
theorem dX12_areCells_107 : decode cX12_areCells 107 = .ok (.goto (-91), 3) := do_167 (rdb (p := 96) (i := 11) ch_cX12_areCells_96 rfl) (rdb (p := 96) (i := 12) ch_cX12_areCells_96 rfl) (rdb (p := 96) (i := 13) ch_cX12_areCells_96 rfl) (by decide +kernel)
theorem dX12_areCells_110 : decode cX12_areCells 110 = .ok (.iload_n 3, 1) := do_29 (rdb (p := 96) (i := 14) ch_cX12_areCells_96 rfl)
theorem dX12_areCells_111 : decode cX12_areCells 111 = .ok (.ireturn, 1) := do_172 (rdb (p := 96) (i := 15) ch_cX12_areCells_96 rfl)
theorem ch_cX12_findTold_0 : (cX12_findTold.data.toList.drop 0).take 36 = [3, 54, 4, 21, 4, 17, 0, 192, 162, 0, 23, 42, 180, 0, 53, 17, 0, 192, 28, 104, 21, 4, 96, 3, 84, 132, 4, 1, 167, 255, 231, 42, 27, 181, 0, 28] := by decide +kernel
theorem dX12_findTold_0 : decode cX12_findTold 0 = .ok (.iconst 0, 1) := do_3 (rdb (p := 0) (i := 0) ch_cX12_findTold_0 rfl)
theorem dX12_findTold_1 : decode cX12_findTold 1 = .ok (.istore 4, 2) := do_54 (rdb (p := 0) (i := 1) ch_cX12_findTold_0 rfl) (rdb (p := 0) (i := 2) ch_cX12_findTold_0 rfl)
theorem dX12_findTold_3 : decode cX12_findTold 3 = .ok (.iload 4, 2) := do_21 (rdb (p := 0) (i := 3) ch_cX12_findTold_0 rfl) (rdb (p := 0) (i := 4) ch_cX12_findTold_0 rfl)
theorem dX12_findTold_5 : decode cX12_findTold 5 = .ok (.sipush 192, 3) := do_17 (rdb (p := 0) (i := 5) ch_cX12_findTold_0 rfl) (rdb (p := 0) (i := 6) ch_cX12_findTold_0 rfl) (rdb (p := 0) (i := 7) ch_cX12_findTold_0 rfl) (by decide +kernel)
theorem dX12_findTold_8 : decode cX12_findTold 8 = .ok (.if_icmp .ge 23, 3) := do_162 (rdb (p := 0) (i := 8) ch_cX12_findTold_0 rfl) (rdb (p := 0) (i := 9) ch_cX12_findTold_0 rfl) (rdb (p := 0) (i := 10) ch_cX12_findTold_0 rfl) (by decide +kernel)
theorem dX12_findTold_11 : decode cX12_findTold 11 = .ok (.aload_n 0, 1) := do_42 (rdb (p := 0) (i := 11) ch_cX12_findTold_0 rfl)
theorem dX12_findTold_12 : decode cX12_findTold 12 = .ok (.getfield 53, 3) := do_180 (rdb (p := 0) (i := 12) ch_cX12_findTold_0 rfl) (rdb (p := 0) (i := 13) ch_cX12_findTold_0 rfl) (rdb (p := 0) (i := 14) ch_cX12_findTold_0 rfl) rfl
theorem dX12_findTold_15 : decode cX12_findTold 15 = .ok (.sipush 192, 3) := do_17 (rdb (p := 0) (i := 15) ch_cX12_findTold_0 rfl) (rdb (p := 0) (i := 16) ch_cX12_findTold_0 rfl) (rdb (p := 0) (i := 17) ch_cX12_findTold_0 rfl) (by decide +kernel)
theorem dX12_findTold_18 : decode cX12_findTold 18 = .ok (.iload_n 2, 1) := do_28 (rdb (p := 0) (i := 18) ch_cX12_findTold_0 rfl)
theorem dX12_findTold_19 : decode cX12_findTold 19 = .ok (.imul, 1) := do_104 (rdb (p := 0) (i := 19) ch_cX12_findTold_0 rfl)
theorem dX12_findTold_20 : decode cX12_findTold 20 = .ok (.iload 4, 2) := do_21 (rdb (p := 0) (i := 20) ch_cX12_findTold_0 rfl) (rdb (p := 0) (i := 21) ch_cX12_findTold_0 rfl)
theorem dX12_findTold_22 : decode cX12_findTold 22 = .ok (.iadd, 1) := do_96 (rdb (p := 0) (i := 22) ch_cX12_findTold_0 rfl)
theorem dX12_findTold_23 : decode cX12_findTold 23 = .ok (.iconst 0, 1) := do_3 (rdb (p := 0) (i := 23) ch_cX12_findTold_0 rfl)
theorem dX12_findTold_24 : decode cX12_findTold 24 = .ok (.bastore, 1) := do_84 (rdb (p := 0) (i := 24) ch_cX12_findTold_0 rfl)
theorem dX12_findTold_25 : decode cX12_findTold 25 = .ok (.iinc 4 1, 3) := do_132 (rdb (p := 0) (i := 25) ch_cX12_findTold_0 rfl) (rdb (p := 0) (i := 26) ch_cX12_findTold_0 rfl) (rdb (p := 0) (i := 27) ch_cX12_findTold_0 rfl) (by decide +kernel)
theorem dX12_findTold_28 : decode cX12_findTold 28 = .ok (.goto (-25), 3) := do_167 (rdb (p := 0) (i := 28) ch_cX12_findTold_0 rfl) (rdb (p := 0) (i := 29) ch_cX12_findTold_0 rfl) (rdb (p := 0) (i := 30) ch_cX12_findTold_0 rfl) (by decide +kernel)
theorem dX12_findTold_31 : decode cX12_findTold 31 = .ok (.aload_n 0, 1) := do_42 (rdb (p := 0) (i := 31) ch_cX12_findTold_0 rfl)
theorem ch_cX12_findTold_32 : (cX12_findTold.data.toList.drop 32).take 36 = [27, 181, 0, 28, 3, 54, 4, 21, 4, 16, 8, 162, 0, 91, 42, 27, 29, 21, 4, 182, 1, 0, 54, 5, 4, 54, 6, 21, 6, 21, 5, 163, 0, 65, 42, 29] := by decide +kernel
theorem dX12_findTold_32 : decode cX12_findTold 32 = .ok (.iload_n 1, 1) := do_27 (rdb (p := 32) (i := 0) ch_cX12_findTold_32 rfl)
theorem dX12_findTold_33 : decode cX12_findTold 33 = .ok (.putfield 28, 3) := do_181 (rdb (p := 32) (i := 1) ch_cX12_findTold_32 rfl) (rdb (p := 32) (i := 2) ch_cX12_findTold_32 rfl) (rdb (p := 32) (i := 3) ch_cX12_findTold_32 rfl) rfl
theorem dX12_findTold_36 : decode cX12_findTold 36 = .ok (.iconst 0, 1) := do_3 (rdb (p := 32) (i := 4) ch_cX12_findTold_32 rfl)
theorem dX12_findTold_37 : decode cX12_findTold 37 = .ok (.istore 4, 2) := do_54 (rdb (p := 32) (i := 5) ch_cX12_findTold_32 rfl) (rdb (p := 32) (i := 6) ch_cX12_findTold_32 rfl)
theorem dX12_findTold_39 : decode cX12_findTold 39 = .ok (.iload 4, 2) := do_21 (rdb (p := 32) (i := 7) ch_cX12_findTold_32 rfl) (rdb (p := 32) (i := 8) ch_cX12_findTold_32 rfl)
theorem dX12_findTold_41 : decode cX12_findTold 41 = .ok (.bipush 8, 2) := do_16 (rdb (p := 32) (i := 9) ch_cX12_findTold_32 rfl) (rdb (p := 32) (i := 10) ch_cX12_findTold_32 rfl) (by decide +kernel)
theorem dX12_findTold_43 : decode cX12_findTold 43 = .ok (.if_icmp .ge 91, 3) := do_162 (rdb (p := 32) (i := 11) ch_cX12_findTold_32 rfl) (rdb (p := 32) (i := 12) ch_cX12_findTold_32 rfl) (rdb (p := 32) (i := 13) ch_cX12_findTold_32 rfl) (by decide +kernel)
theorem dX12_findTold_46 : decode cX12_findTold 46 = .ok (.aload_n 0, 1) := do_42 (rdb (p := 32) (i := 14) ch_cX12_findTold_32 rfl)
theorem dX12_findTold_47 : decode cX12_findTold 47 = .ok (.iload_n 1, 1) := do_27 (rdb (p := 32) (i := 15) ch_cX12_findTold_32 rfl)
theorem dX12_findTold_48 : decode cX12_findTold 48 = .ok (.iload_n 3, 1) := do_29 (rdb (p := 32) (i := 16) ch_cX12_findTold_32 rfl)
theorem dX12_findTold_49 : decode cX12_findTold 49 = .ok (.iload 4, 2) := do_21 (rdb (p := 32) (i := 17) ch_cX12_findTold_32 rfl) (rdb (p := 32) (i := 18) ch_cX12_findTold_32 rfl)
theorem dX12_findTold_51 : decode cX12_findTold 51 = .ok (.invokevirtual 256, 3) := do_182 (rdb (p := 32) (i := 19) ch_cX12_findTold_32 rfl) (rdb (p := 32) (i := 20) ch_cX12_findTold_32 rfl) (rdb (p := 32) (i := 21) ch_cX12_findTold_32 rfl) rfl
theorem dX12_findTold_54 : decode cX12_findTold 54 = .ok (.istore 5, 2) := do_54 (rdb (p := 32) (i := 22) ch_cX12_findTold_32 rfl) (rdb (p := 32) (i := 23) ch_cX12_findTold_32 rfl)
theorem dX12_findTold_56 : decode cX12_findTold 56 = .ok (.iconst 1, 1) := do_4 (rdb (p := 32) (i := 24) ch_cX12_findTold_32 rfl)
theorem dX12_findTold_57 : decode cX12_findTold 57 = .ok (.istore 6, 2) := do_54 (rdb (p := 32) (i := 25) ch_cX12_findTold_32 rfl) (rdb (p := 32) (i := 26) ch_cX12_findTold_32 rfl)
theorem dX12_findTold_59 : decode cX12_findTold 59 = .ok (.iload 6, 2) := do_21 (rdb (p := 32) (i := 27) ch_cX12_findTold_32 rfl) (rdb (p := 32) (i := 28) ch_cX12_findTold_32 rfl)
theorem dX12_findTold_61 : decode cX12_findTold 61 = .ok (.iload 5, 2) := do_21 (rdb (p := 32) (i := 29) ch_cX12_findTold_32 rfl) (rdb (p := 32) (i := 30) ch_cX12_findTold_32 rfl)
theorem dX12_findTold_63 : decode cX12_findTold 63 = .ok (.if_icmp .gt 65, 3) := do_163 (rdb (p := 32) (i := 31) ch_cX12_findTold_32 rfl) (rdb (p := 32) (i := 32) ch_cX12_findTold_32 rfl) (rdb (p := 32) (i := 33) ch_cX12_findTold_32 rfl) (by decide +kernel)
theorem ch_cX12_findTold_64 : (cX12_findTold.data.toList.drop 64).take 36 = [0, 65, 42, 29, 21, 4, 21, 6, 182, 0, 234, 54, 7, 42, 180, 0, 53, 17, 0, 192, 28, 104, 21, 7, 96, 42, 27, 21, 7, 182, 1, 13, 154, 0, 24, 42] := by decide +kernel
theorem dX12_findTold_66 : decode cX12_findTold 66 = .ok (.aload_n 0, 1) := do_42 (rdb (p := 64) (i := 2) ch_cX12_findTold_64 rfl)
theorem dX12_findTold_67 : decode cX12_findTold 67 = .ok (.iload_n 3, 1) := do_29 (rdb (p := 64) (i := 3) ch_cX12_findTold_64 rfl)
theorem dX12_findTold_68 : decode cX12_findTold 68 = .ok (.iload 4, 2) := do_21 (rdb (p := 64) (i := 4) ch_cX12_findTold_64 rfl) (rdb (p := 64) (i := 5) ch_cX12_findTold_64 rfl)
theorem dX12_findTold_70 : decode cX12_findTold 70 = .ok (.iload 6, 2) := do_21 (rdb (p := 64) (i := 6) ch_cX12_findTold_64 rfl) (rdb (p := 64) (i := 7) ch_cX12_findTold_64 rfl)
theorem dX12_findTold_72 : decode cX12_findTold 72 = .ok (.invokevirtual 234, 3) := do_182 (rdb (p := 64) (i := 8) ch_cX12_findTold_64 rfl) (rdb (p := 64) (i := 9) ch_cX12_findTold_64 rfl) (rdb (p := 64) (i := 10) ch_cX12_findTold_64 rfl) rfl
theorem dX12_findTold_75 : decode cX12_findTold 75 = .ok (.istore 7, 2) := do_54 (rdb (p := 64) (i := 11) ch_cX12_findTold_64 rfl) (rdb (p := 64) (i := 12) ch_cX12_findTold_64 rfl)
theorem dX12_findTold_77 : decode cX12_findTold 77 = .ok (.aload_n 0, 1) := do_42 (rdb (p := 64) (i := 13) ch_cX12_findTold_64 rfl)
theorem dX12_findTold_78 : decode cX12_findTold 78 = .ok (.getfield 53, 3) := do_180 (rdb (p := 64) (i := 14) ch_cX12_findTold_64 rfl) (rdb (p := 64) (i := 15) ch_cX12_findTold_64 rfl) (rdb (p := 64) (i := 16) ch_cX12_findTold_64 rfl) rfl
theorem dX12_findTold_81 : decode cX12_findTold 81 = .ok (.sipush 192, 3) := do_17 (rdb (p := 64) (i := 17) ch_cX12_findTold_64 rfl) (rdb (p := 64) (i := 18) ch_cX12_findTold_64 rfl) (rdb (p := 64) (i := 19) ch_cX12_findTold_64 rfl) (by decide +kernel)
theorem dX12_findTold_84 : decode cX12_findTold 84 = .ok (.iload_n 2, 1) := do_28 (rdb (p := 64) (i := 20) ch_cX12_findTold_64 rfl)
theorem dX12_findTold_85 : decode cX12_findTold 85 = .ok (.imul, 1) := do_104 (rdb (p := 64) (i := 21) ch_cX12_findTold_64 rfl)
theorem dX12_findTold_86 : decode cX12_findTold 86 = .ok (.iload 7, 2) := do_21 (rdb (p := 64) (i := 22) ch_cX12_findTold_64 rfl) (rdb (p := 64) (i := 23) ch_cX12_findTold_64 rfl)
theorem dX12_findTold_88 : decode cX12_findTold 88 = .ok (.iadd, 1) := do_96 (rdb (p := 64) (i := 24) ch_cX12_findTold_64 rfl)
theorem dX12_findTold_89 : decode cX12_findTold 89 = .ok (.aload_n 0, 1) := do_42 (rdb (p := 64) (i := 25) ch_cX12_findTold_64 rfl)
theorem dX12_findTold_90 : decode cX12_findTold 90 = .ok (.iload_n 1, 1) := do_27 (rdb (p := 64) (i := 26) ch_cX12_findTold_64 rfl)
theorem dX12_findTold_91 : decode cX12_findTold 91 = .ok (.iload 7, 2) := do_21 (rdb (p := 64) (i := 27) ch_cX12_findTold_64 rfl) (rdb (p := 64) (i := 28) ch_cX12_findTold_64 rfl)
theorem dX12_findTold_93 : decode cX12_findTold 93 = .ok (.invokevirtual 269, 3) := do_182 (rdb (p := 64) (i := 29) ch_cX12_findTold_64 rfl) (rdb (p := 64) (i := 30) ch_cX12_findTold_64 rfl) (rdb (p := 64) (i := 31) ch_cX12_findTold_64 rfl) rfl
theorem ch_cX12_findTold_96 : (cX12_findTold.data.toList.drop 96).take 36 = [154, 0, 24, 42, 180, 0, 9, 42, 27, 21, 7, 182, 0, 253, 46, 16, 99, 162, 0, 7, 4, 167, 0, 4, 3, 84, 132, 6, 1, 167, 255, 190, 132, 4, 1, 167] := by decide +kernel
theorem dX12_findTold_96 : decode cX12_findTold 96 = .ok (.ifCond .ne 24, 3) := do_154 (rdb (p := 96) (i := 0) ch_cX12_findTold_96 rfl) (rdb (p := 96) (i := 1) ch_cX12_findTold_96 rfl) (rdb (p := 96) (i := 2) ch_cX12_findTold_96 rfl) (by decide +kernel)
theorem dX12_findTold_99 : decode cX12_findTold 99 = .ok (.aload_n 0, 1) := do_42 (rdb (p := 96) (i := 3) ch_cX12_findTold_96 rfl)
theorem dX12_findTold_100 : decode cX12_findTold 100 = .ok (.getfield 9, 3) := do_180 (rdb (p := 96) (i := 4) ch_cX12_findTold_96 rfl) (rdb (p := 96) (i := 5) ch_cX12_findTold_96 rfl) (rdb (p := 96) (i := 6) ch_cX12_findTold_96 rfl) rfl
theorem dX12_findTold_103 : decode cX12_findTold 103 = .ok (.aload_n 0, 1) := do_42 (rdb (p := 96) (i := 7) ch_cX12_findTold_96 rfl)
theorem dX12_findTold_104 : decode cX12_findTold 104 = .ok (.iload_n 1, 1) := do_27 (rdb (p := 96) (i := 8) ch_cX12_findTold_96 rfl)
theorem dX12_findTold_105 : decode cX12_findTold 105 = .ok (.iload 7, 2) := do_21 (rdb (p := 96) (i := 9) ch_cX12_findTold_96 rfl) (rdb (p := 96) (i := 10) ch_cX12_findTold_96 rfl)
theorem dX12_findTold_107 : decode cX12_findTold 107 = .ok (.invokevirtual 253, 3) := do_182 (rdb (p := 96) (i := 11) ch_cX12_findTold_96 rfl) (rdb (p := 96) (i := 12) ch_cX12_findTold_96 rfl) (rdb (p := 96) (i := 13) ch_cX12_findTold_96 rfl) rfl
theorem dX12_findTold_110 : decode cX12_findTold 110 = .ok (.iaload, 1) := do_46 (rdb (p := 96) (i := 14) ch_cX12_findTold_96 rfl)
theorem dX12_findTold_111 : decode cX12_findTold 111 = .ok (.bipush 99, 2) := do_16 (rdb (p := 96) (i := 15) ch_cX12_findTold_96 rfl) (rdb (p := 96) (i := 16) ch_cX12_findTold_96 rfl) (by decide +kernel)
theorem dX12_findTold_113 : decode cX12_findTold 113 = .ok (.if_icmp .ge 7, 3) := do_162 (rdb (p := 96) (i := 17) ch_cX12_findTold_96 rfl) (rdb (p := 96) (i := 18) ch_cX12_findTold_96 rfl) (rdb (p := 96) (i := 19) ch_cX12_findTold_96 rfl) (by decide +kernel)
theorem dX12_findTold_116 : decode cX12_findTold 116 = .ok (.iconst 1, 1) := do_4 (rdb (p := 96) (i := 20) ch_cX12_findTold_96 rfl)
theorem dX12_findTold_117 : decode cX12_findTold 117 = .ok (.goto 4, 3) := do_167 (rdb (p := 96) (i := 21) ch_cX12_findTold_96 rfl) (rdb (p := 96) (i := 22) ch_cX12_findTold_96 rfl) (rdb (p := 96) (i := 23) ch_cX12_findTold_96 rfl) (by decide +kernel)
theorem dX12_findTold_120 : decode cX12_findTold 120 = .ok (.iconst 0, 1) := do_3 (rdb (p := 96) (i := 24) ch_cX12_findTold_96 rfl)
theorem dX12_findTold_121 : decode cX12_findTold 121 = .ok (.bastore, 1) := do_84 (rdb (p := 96) (i := 25) ch_cX12_findTold_96 rfl)
theorem dX12_findTold_122 : decode cX12_findTold 122 = .ok (.iinc 6 1, 3) := do_132 (rdb (p := 96) (i := 26) ch_cX12_findTold_96 rfl) (rdb (p := 96) (i := 27) ch_cX12_findTold_96 rfl) (rdb (p := 96) (i := 28) ch_cX12_findTold_96 rfl) (by decide +kernel)
theorem dX12_findTold_125 : decode cX12_findTold 125 = .ok (.goto (-66), 3) := do_167 (rdb (p := 96) (i := 29) ch_cX12_findTold_96 rfl) (rdb (p := 96) (i := 30) ch_cX12_findTold_96 rfl) (rdb (p := 96) (i := 31) ch_cX12_findTold_96 rfl) (by decide +kernel)
theorem ch_cX12_findTold_128 : (cX12_findTold.data.toList.drop 128).take 36 = [132, 4, 1, 167, 255, 164, 42, 2, 181, 0, 28, 177] := by decide +kernel
theorem dX12_findTold_128 : decode cX12_findTold 128 = .ok (.iinc 4 1, 3) := do_132 (rdb (p := 128) (i := 0) ch_cX12_findTold_128 rfl) (rdb (p := 128) (i := 1) ch_cX12_findTold_128 rfl) (rdb (p := 128) (i := 2) ch_cX12_findTold_128 rfl) (by decide +kernel)
theorem dX12_findTold_131 : decode cX12_findTold 131 = .ok (.goto (-92), 3) := do_167 (rdb (p := 128) (i := 3) ch_cX12_findTold_128 rfl) (rdb (p := 128) (i := 4) ch_cX12_findTold_128 rfl) (rdb (p := 128) (i := 5) ch_cX12_findTold_128 rfl) (by decide +kernel)
theorem dX12_findTold_134 : decode cX12_findTold 134 = .ok (.aload_n 0, 1) := do_42 (rdb (p := 128) (i := 6) ch_cX12_findTold_128 rfl)
theorem dX12_findTold_135 : decode cX12_findTold 135 = .ok (.iconst (-1), 1) := do_2 (rdb (p := 128) (i := 7) ch_cX12_findTold_128 rfl)
theorem dX12_findTold_136 : decode cX12_findTold 136 = .ok (.putfield 28, 3) := do_181 (rdb (p := 128) (i := 8) ch_cX12_findTold_128 rfl) (rdb (p := 128) (i := 9) ch_cX12_findTold_128 rfl) (rdb (p := 128) (i := 10) ch_cX12_findTold_128 rfl) rfl
theorem dX12_findTold_139 : decode cX12_findTold 139 = .ok (.return_, 1) := do_177 (rdb (p := 128) (i := 11) ch_cX12_findTold_128 rfl)
theorem ch_cX12_spots_0 : (cX12_spots.data.toList.drop 0).take 36 = [42, 27, 5, 182, 0, 116, 153, 0, 29, 28, 184, 0, 127, 153, 0, 22, 29, 4, 6, 184, 0, 85, 153, 0, 13, 21, 4, 3, 4, 184, 0, 85, 154, 0, 10, 42] := by decide +kernel
theorem dX12_spots_0 : decode cX12_spots 0 = .ok (.aload_n 0, 1) := do_42 (rdb (p := 0) (i := 0) ch_cX12_spots_0 rfl)
theorem dX12_spots_1 : decode cX12_spots 1 = .ok (.iload_n 1, 1) := do_27 (rdb (p := 0) (i := 1) ch_cX12_spots_0 rfl)
theorem dX12_spots_2 : decode cX12_spots 2 = .ok (.iconst 2, 1) := do_5 (rdb (p := 0) (i := 2) ch_cX12_spots_0 rfl)
theorem dX12_spots_3 : decode cX12_spots 3 = .ok (.invokevirtual 116, 3) := do_182 (rdb (p := 0) (i := 3) ch_cX12_spots_0 rfl) (rdb (p := 0) (i := 4) ch_cX12_spots_0 rfl) (rdb (p := 0) (i := 5) ch_cX12_spots_0 rfl) rfl
theorem dX12_spots_6 : decode cX12_spots 6 = .ok (.ifCond .eq 29, 3) := do_153 (rdb (p := 0) (i := 6) ch_cX12_spots_0 rfl) (rdb (p := 0) (i := 7) ch_cX12_spots_0 rfl) (rdb (p := 0) (i := 8) ch_cX12_spots_0 rfl) (by decide +kernel)
theorem dX12_spots_9 : decode cX12_spots 9 = .ok (.iload_n 2, 1) := do_28 (rdb (p := 0) (i := 9) ch_cX12_spots_0 rfl)
theorem dX12_spots_10 : decode cX12_spots 10 = .ok (.invokestatic 127, 3) := do_184 (rdb (p := 0) (i := 10) ch_cX12_spots_0 rfl) (rdb (p := 0) (i := 11) ch_cX12_spots_0 rfl) (rdb (p := 0) (i := 12) ch_cX12_spots_0 rfl) rfl
theorem dX12_spots_13 : decode cX12_spots 13 = .ok (.ifCond .eq 22, 3) := do_153 (rdb (p := 0) (i := 13) ch_cX12_spots_0 rfl) (rdb (p := 0) (i := 14) ch_cX12_spots_0 rfl) (rdb (p := 0) (i := 15) ch_cX12_spots_0 rfl) (by decide +kernel)
theorem dX12_spots_16 : decode cX12_spots 16 = .ok (.iload_n 3, 1) := do_29 (rdb (p := 0) (i := 16) ch_cX12_spots_0 rfl)
theorem dX12_spots_17 : decode cX12_spots 17 = .ok (.iconst 1, 1) := do_4 (rdb (p := 0) (i := 17) ch_cX12_spots_0 rfl)
theorem dX12_spots_18 : decode cX12_spots 18 = .ok (.iconst 3, 1) := do_6 (rdb (p := 0) (i := 18) ch_cX12_spots_0 rfl)
theorem dX12_spots_19 : decode cX12_spots 19 = .ok (.invokestatic 85, 3) := do_184 (rdb (p := 0) (i := 19) ch_cX12_spots_0 rfl) (rdb (p := 0) (i := 20) ch_cX12_spots_0 rfl) (rdb (p := 0) (i := 21) ch_cX12_spots_0 rfl) rfl
theorem dX12_spots_22 : decode cX12_spots 22 = .ok (.ifCond .eq 13, 3) := do_153 (rdb (p := 0) (i := 22) ch_cX12_spots_0 rfl) (rdb (p := 0) (i := 23) ch_cX12_spots_0 rfl) (rdb (p := 0) (i := 24) ch_cX12_spots_0 rfl) (by decide +kernel)
theorem dX12_spots_25 : decode cX12_spots 25 = .ok (.iload 4, 2) := do_21 (rdb (p := 0) (i := 25) ch_cX12_spots_0 rfl) (rdb (p := 0) (i := 26) ch_cX12_spots_0 rfl)
theorem dX12_spots_27 : decode cX12_spots 27 = .ok (.iconst 0, 1) := do_3 (rdb (p := 0) (i := 27) ch_cX12_spots_0 rfl)
theorem dX12_spots_28 : decode cX12_spots 28 = .ok (.iconst 1, 1) := do_4 (rdb (p := 0) (i := 28) ch_cX12_spots_0 rfl)
theorem dX12_spots_29 : decode cX12_spots 29 = .ok (.invokestatic 85, 3) := do_184 (rdb (p := 0) (i := 29) ch_cX12_spots_0 rfl) (rdb (p := 0) (i := 30) ch_cX12_spots_0 rfl) (rdb (p := 0) (i := 31) ch_cX12_spots_0 rfl) rfl
theorem ch_cX12_spots_32 : (cX12_spots.data.toList.drop 32).take 36 = [154, 0, 10, 42, 18, 103, 182, 0, 104, 172, 42, 180, 0, 72, 28, 46, 154, 0, 10, 42, 18, 130, 182, 0, 104, 172, 42, 28, 4, 182, 1, 16, 154, 0, 10, 42] := by decide +kernel
theorem dX12_spots_32 : decode cX12_spots 32 = .ok (.ifCond .ne 10, 3) := do_154 (rdb (p := 32) (i := 0) ch_cX12_spots_32 rfl) (rdb (p := 32) (i := 1) ch_cX12_spots_32 rfl) (rdb (p := 32) (i := 2) ch_cX12_spots_32 rfl) (by decide +kernel)
theorem dX12_spots_35 : decode cX12_spots 35 = .ok (.aload_n 0, 1) := do_42 (rdb (p := 32) (i := 3) ch_cX12_spots_32 rfl)
theorem dX12_spots_36 : decode cX12_spots 36 = .ok (.ldc 103, 2) := do_18 (rdb (p := 32) (i := 4) ch_cX12_spots_32 rfl) (rdb (p := 32) (i := 5) ch_cX12_spots_32 rfl)
theorem dX12_spots_38 : decode cX12_spots 38 = .ok (.invokevirtual 104, 3) := do_182 (rdb (p := 32) (i := 6) ch_cX12_spots_32 rfl) (rdb (p := 32) (i := 7) ch_cX12_spots_32 rfl) (rdb (p := 32) (i := 8) ch_cX12_spots_32 rfl) rfl
theorem dX12_spots_41 : decode cX12_spots 41 = .ok (.ireturn, 1) := do_172 (rdb (p := 32) (i := 9) ch_cX12_spots_32 rfl)
theorem dX12_spots_42 : decode cX12_spots 42 = .ok (.aload_n 0, 1) := do_42 (rdb (p := 32) (i := 10) ch_cX12_spots_32 rfl)
theorem dX12_spots_43 : decode cX12_spots 43 = .ok (.getfield 72, 3) := do_180 (rdb (p := 32) (i := 11) ch_cX12_spots_32 rfl) (rdb (p := 32) (i := 12) ch_cX12_spots_32 rfl) (rdb (p := 32) (i := 13) ch_cX12_spots_32 rfl) rfl
theorem dX12_spots_46 : decode cX12_spots 46 = .ok (.iload_n 2, 1) := do_28 (rdb (p := 32) (i := 14) ch_cX12_spots_32 rfl)
theorem dX12_spots_47 : decode cX12_spots 47 = .ok (.iaload, 1) := do_46 (rdb (p := 32) (i := 15) ch_cX12_spots_32 rfl)
theorem dX12_spots_48 : decode cX12_spots 48 = .ok (.ifCond .ne 10, 3) := do_154 (rdb (p := 32) (i := 16) ch_cX12_spots_32 rfl) (rdb (p := 32) (i := 17) ch_cX12_spots_32 rfl) (rdb (p := 32) (i := 18) ch_cX12_spots_32 rfl) (by decide +kernel)
theorem dX12_spots_51 : decode cX12_spots 51 = .ok (.aload_n 0, 1) := do_42 (rdb (p := 32) (i := 19) ch_cX12_spots_32 rfl)
theorem dX12_spots_52 : decode cX12_spots 52 = .ok (.ldc 130, 2) := do_18 (rdb (p := 32) (i := 20) ch_cX12_spots_32 rfl) (rdb (p := 32) (i := 21) ch_cX12_spots_32 rfl)
theorem dX12_spots_54 : decode cX12_spots 54 = .ok (.invokevirtual 104, 3) := do_182 (rdb (p := 32) (i := 22) ch_cX12_spots_32 rfl) (rdb (p := 32) (i := 23) ch_cX12_spots_32 rfl) (rdb (p := 32) (i := 24) ch_cX12_spots_32 rfl) rfl
theorem dX12_spots_57 : decode cX12_spots 57 = .ok (.ireturn, 1) := do_172 (rdb (p := 32) (i := 25) ch_cX12_spots_32 rfl)
theorem dX12_spots_58 : decode cX12_spots 58 = .ok (.aload_n 0, 1) := do_42 (rdb (p := 32) (i := 26) ch_cX12_spots_32 rfl)
theorem dX12_spots_59 : decode cX12_spots 59 = .ok (.iload_n 2, 1) := do_28 (rdb (p := 32) (i := 27) ch_cX12_spots_32 rfl)
theorem dX12_spots_60 : decode cX12_spots 60 = .ok (.iconst 1, 1) := do_4 (rdb (p := 32) (i := 28) ch_cX12_spots_32 rfl)
theorem dX12_spots_61 : decode cX12_spots 61 = .ok (.invokevirtual 272, 3) := do_182 (rdb (p := 32) (i := 29) ch_cX12_spots_32 rfl) (rdb (p := 32) (i := 30) ch_cX12_spots_32 rfl) (rdb (p := 32) (i := 31) ch_cX12_spots_32 rfl) rfl
theorem ch_cX12_spots_64 : (cX12_spots.data.toList.drop 64).take 36 = [154, 0, 10, 42, 18, 123, 182, 0, 104, 172, 3, 54, 5, 3, 54, 6, 21, 6, 42, 180, 0, 75, 28, 46, 162, 0, 56, 42, 42, 180, 0, 78, 16, 24, 28, 104] := by decide +kernel
theorem dX12_spots_64 : decode cX12_spots 64 = .ok (.ifCond .ne 10, 3) := do_154 (rdb (p := 64) (i := 0) ch_cX12_spots_64 rfl) (rdb (p := 64) (i := 1) ch_cX12_spots_64 rfl) (rdb (p := 64) (i := 2) ch_cX12_spots_64 rfl) (by decide +kernel)
theorem dX12_spots_67 : decode cX12_spots 67 = .ok (.aload_n 0, 1) := do_42 (rdb (p := 64) (i := 3) ch_cX12_spots_64 rfl)
theorem dX12_spots_68 : decode cX12_spots 68 = .ok (.ldc 123, 2) := do_18 (rdb (p := 64) (i := 4) ch_cX12_spots_64 rfl) (rdb (p := 64) (i := 5) ch_cX12_spots_64 rfl)
theorem dX12_spots_70 : decode cX12_spots 70 = .ok (.invokevirtual 104, 3) := do_182 (rdb (p := 64) (i := 6) ch_cX12_spots_64 rfl) (rdb (p := 64) (i := 7) ch_cX12_spots_64 rfl) (rdb (p := 64) (i := 8) ch_cX12_spots_64 rfl) rfl
theorem dX12_spots_73 : decode cX12_spots 73 = .ok (.ireturn, 1) := do_172 (rdb (p := 64) (i := 9) ch_cX12_spots_64 rfl)
theorem dX12_spots_74 : decode cX12_spots 74 = .ok (.iconst 0, 1) := do_3 (rdb (p := 64) (i := 10) ch_cX12_spots_64 rfl)
theorem dX12_spots_75 : decode cX12_spots 75 = .ok (.istore 5, 2) := do_54 (rdb (p := 64) (i := 11) ch_cX12_spots_64 rfl) (rdb (p := 64) (i := 12) ch_cX12_spots_64 rfl)
theorem dX12_spots_77 : decode cX12_spots 77 = .ok (.iconst 0, 1) := do_3 (rdb (p := 64) (i := 13) ch_cX12_spots_64 rfl)
theorem dX12_spots_78 : decode cX12_spots 78 = .ok (.istore 6, 2) := do_54 (rdb (p := 64) (i := 14) ch_cX12_spots_64 rfl) (rdb (p := 64) (i := 15) ch_cX12_spots_64 rfl)
theorem dX12_spots_80 : decode cX12_spots 80 = .ok (.iload 6, 2) := do_21 (rdb (p := 64) (i := 16) ch_cX12_spots_64 rfl) (rdb (p := 64) (i := 17) ch_cX12_spots_64 rfl)
theorem dX12_spots_82 : decode cX12_spots 82 = .ok (.aload_n 0, 1) := do_42 (rdb (p := 64) (i := 18) ch_cX12_spots_64 rfl)
theorem dX12_spots_83 : decode cX12_spots 83 = .ok (.getfield 75, 3) := do_180 (rdb (p := 64) (i := 19) ch_cX12_spots_64 rfl) (rdb (p := 64) (i := 20) ch_cX12_spots_64 rfl) (rdb (p := 64) (i := 21) ch_cX12_spots_64 rfl) rfl
theorem dX12_spots_86 : decode cX12_spots 86 = .ok (.iload_n 2, 1) := do_28 (rdb (p := 64) (i := 22) ch_cX12_spots_64 rfl)
theorem dX12_spots_87 : decode cX12_spots 87 = .ok (.iaload, 1) := do_46 (rdb (p := 64) (i := 23) ch_cX12_spots_64 rfl)
theorem dX12_spots_88 : decode cX12_spots 88 = .ok (.if_icmp .ge 56, 3) := do_162 (rdb (p := 64) (i := 24) ch_cX12_spots_64 rfl) (rdb (p := 64) (i := 25) ch_cX12_spots_64 rfl) (rdb (p := 64) (i := 26) ch_cX12_spots_64 rfl) (by decide +kernel)
theorem dX12_spots_91 : decode cX12_spots 91 = .ok (.aload_n 0, 1) := do_42 (rdb (p := 64) (i := 27) ch_cX12_spots_64 rfl)
theorem dX12_spots_92 : decode cX12_spots 92 = .ok (.aload_n 0, 1) := do_42 (rdb (p := 64) (i := 28) ch_cX12_spots_64 rfl)
theorem dX12_spots_93 : decode cX12_spots 93 = .ok (.getfield 78, 3) := do_180 (rdb (p := 64) (i := 29) ch_cX12_spots_64 rfl) (rdb (p := 64) (i := 30) ch_cX12_spots_64 rfl) (rdb (p := 64) (i := 31) ch_cX12_spots_64 rfl) rfl
theorem ch_cX12_spots_96 : (cX12_spots.data.toList.drop 96).take 36 = [16, 24, 28, 104, 21, 6, 96, 46, 182, 0, 107, 153, 0, 31, 21, 5, 4, 21, 6, 120, 128, 54, 5, 42, 27, 21, 6, 42, 180, 0, 78, 16, 24, 28, 104, 21] := by decide +kernel
theorem dX12_spots_96 : decode cX12_spots 96 = .ok (.bipush 24, 2) := do_16 (rdb (p := 96) (i := 0) ch_cX12_spots_96 rfl) (rdb (p := 96) (i := 1) ch_cX12_spots_96 rfl) (by decide +kernel)
theorem dX12_spots_98 : decode cX12_spots 98 = .ok (.iload_n 2, 1) := do_28 (rdb (p := 96) (i := 2) ch_cX12_spots_96 rfl)
theorem dX12_spots_99 : decode cX12_spots 99 = .ok (.imul, 1) := do_104 (rdb (p := 96) (i := 3) ch_cX12_spots_96 rfl)
theorem dX12_spots_100 : decode cX12_spots 100 = .ok (.iload 6, 2) := do_21 (rdb (p := 96) (i := 4) ch_cX12_spots_96 rfl) (rdb (p := 96) (i := 5) ch_cX12_spots_96 rfl)
theorem dX12_spots_102 : decode cX12_spots 102 = .ok (.iadd, 1) := do_96 (rdb (p := 96) (i := 6) ch_cX12_spots_96 rfl)
theorem dX12_spots_103 : decode cX12_spots 103 = .ok (.iaload, 1) := do_46 (rdb (p := 96) (i := 7) ch_cX12_spots_96 rfl)
theorem dX12_spots_104 : decode cX12_spots 104 = .ok (.invokevirtual 107, 3) := do_182 (rdb (p := 96) (i := 8) ch_cX12_spots_96 rfl) (rdb (p := 96) (i := 9) ch_cX12_spots_96 rfl) (rdb (p := 96) (i := 10) ch_cX12_spots_96 rfl) rfl
theorem dX12_spots_107 : decode cX12_spots 107 = .ok (.ifCond .eq 31, 3) := do_153 (rdb (p := 96) (i := 11) ch_cX12_spots_96 rfl) (rdb (p := 96) (i := 12) ch_cX12_spots_96 rfl) (rdb (p := 96) (i := 13) ch_cX12_spots_96 rfl) (by decide +kernel)
theorem dX12_spots_110 : decode cX12_spots 110 = .ok (.iload 5, 2) := do_21 (rdb (p := 96) (i := 14) ch_cX12_spots_96 rfl) (rdb (p := 96) (i := 15) ch_cX12_spots_96 rfl)
theorem dX12_spots_112 : decode cX12_spots 112 = .ok (.iconst 1, 1) := do_4 (rdb (p := 96) (i := 16) ch_cX12_spots_96 rfl)
theorem dX12_spots_113 : decode cX12_spots 113 = .ok (.iload 6, 2) := do_21 (rdb (p := 96) (i := 17) ch_cX12_spots_96 rfl) (rdb (p := 96) (i := 18) ch_cX12_spots_96 rfl)
theorem dX12_spots_115 : decode cX12_spots 115 = .ok (.ishl, 1) := do_120 (rdb (p := 96) (i := 19) ch_cX12_spots_96 rfl)
theorem dX12_spots_116 : decode cX12_spots 116 = .ok (.ior, 1) := do_128 (rdb (p := 96) (i := 20) ch_cX12_spots_96 rfl)
theorem dX12_spots_117 : decode cX12_spots 117 = .ok (.istore 5, 2) := do_54 (rdb (p := 96) (i := 21) ch_cX12_spots_96 rfl) (rdb (p := 96) (i := 22) ch_cX12_spots_96 rfl)
theorem dX12_spots_119 : decode cX12_spots 119 = .ok (.aload_n 0, 1) := do_42 (rdb (p := 96) (i := 23) ch_cX12_spots_96 rfl)
theorem dX12_spots_120 : decode cX12_spots 120 = .ok (.iload_n 1, 1) := do_27 (rdb (p := 96) (i := 24) ch_cX12_spots_96 rfl)
theorem dX12_spots_121 : decode cX12_spots 121 = .ok (.iload 6, 2) := do_21 (rdb (p := 96) (i := 25) ch_cX12_spots_96 rfl) (rdb (p := 96) (i := 26) ch_cX12_spots_96 rfl)
theorem dX12_spots_123 : decode cX12_spots 123 = .ok (.aload_n 0, 1) := do_42 (rdb (p := 96) (i := 27) ch_cX12_spots_96 rfl)
theorem dX12_spots_124 : decode cX12_spots 124 = .ok (.getfield 78, 3) := do_180 (rdb (p := 96) (i := 28) ch_cX12_spots_96 rfl) (rdb (p := 96) (i := 29) ch_cX12_spots_96 rfl) (rdb (p := 96) (i := 30) ch_cX12_spots_96 rfl) rfl
theorem dX12_spots_127 : decode cX12_spots 127 = .ok (.bipush 24, 2) := do_16 (rdb (p := 96) (i := 31) ch_cX12_spots_96 rfl) (rdb (p := 96) (i := 32) ch_cX12_spots_96 rfl) (by decide +kernel)
theorem ch_cX12_spots_128 : (cX12_spots.data.toList.drop 128).take 36 = [24, 28, 104, 21, 6, 96, 46, 182, 1, 20, 132, 6, 1, 167, 255, 195, 21, 5, 184, 1, 24, 29, 162, 0, 10, 42, 18, 110, 182, 0, 104, 172, 3, 54, 6, 2] := by decide +kernel
theorem dX12_spots_129 : decode cX12_spots 129 = .ok (.iload_n 2, 1) := do_28 (rdb (p := 128) (i := 1) ch_cX12_spots_128 rfl)
theorem dX12_spots_130 : decode cX12_spots 130 = .ok (.imul, 1) := do_104 (rdb (p := 128) (i := 2) ch_cX12_spots_128 rfl)
theorem dX12_spots_131 : decode cX12_spots 131 = .ok (.iload 6, 2) := do_21 (rdb (p := 128) (i := 3) ch_cX12_spots_128 rfl) (rdb (p := 128) (i := 4) ch_cX12_spots_128 rfl)
theorem dX12_spots_133 : decode cX12_spots 133 = .ok (.iadd, 1) := do_96 (rdb (p := 128) (i := 5) ch_cX12_spots_128 rfl)
theorem dX12_spots_134 : decode cX12_spots 134 = .ok (.iaload, 1) := do_46 (rdb (p := 128) (i := 6) ch_cX12_spots_128 rfl)
theorem dX12_spots_135 : decode cX12_spots 135 = .ok (.invokevirtual 276, 3) := do_182 (rdb (p := 128) (i := 7) ch_cX12_spots_128 rfl) (rdb (p := 128) (i := 8) ch_cX12_spots_128 rfl) (rdb (p := 128) (i := 9) ch_cX12_spots_128 rfl) rfl
theorem dX12_spots_138 : decode cX12_spots 138 = .ok (.iinc 6 1, 3) := do_132 (rdb (p := 128) (i := 10) ch_cX12_spots_128 rfl) (rdb (p := 128) (i := 11) ch_cX12_spots_128 rfl) (rdb (p := 128) (i := 12) ch_cX12_spots_128 rfl) (by decide +kernel)
theorem dX12_spots_141 : decode cX12_spots 141 = .ok (.goto (-61), 3) := do_167 (rdb (p := 128) (i := 13) ch_cX12_spots_128 rfl) (rdb (p := 128) (i := 14) ch_cX12_spots_128 rfl) (rdb (p := 128) (i := 15) ch_cX12_spots_128 rfl) (by decide +kernel)
theorem dX12_spots_144 : decode cX12_spots 144 = .ok (.iload 5, 2) := do_21 (rdb (p := 128) (i := 16) ch_cX12_spots_128 rfl) (rdb (p := 128) (i := 17) ch_cX12_spots_128 rfl)
theorem dX12_spots_146 : decode cX12_spots 146 = .ok (.invokestatic 280, 3) := do_184 (rdb (p := 128) (i := 18) ch_cX12_spots_128 rfl) (rdb (p := 128) (i := 19) ch_cX12_spots_128 rfl) (rdb (p := 128) (i := 20) ch_cX12_spots_128 rfl) rfl
theorem dX12_spots_149 : decode cX12_spots 149 = .ok (.iload_n 3, 1) := do_29 (rdb (p := 128) (i := 21) ch_cX12_spots_128 rfl)
theorem dX12_spots_150 : decode cX12_spots 150 = .ok (.if_icmp .ge 10, 3) := do_162 (rdb (p := 128) (i := 22) ch_cX12_spots_128 rfl) (rdb (p := 128) (i := 23) ch_cX12_spots_128 rfl) (rdb (p := 128) (i := 24) ch_cX12_spots_128 rfl) (by decide +kernel)
theorem dX12_spots_153 : decode cX12_spots 153 = .ok (.aload_n 0, 1) := do_42 (rdb (p := 128) (i := 25) ch_cX12_spots_128 rfl)
theorem dX12_spots_154 : decode cX12_spots 154 = .ok (.ldc 110, 2) := do_18 (rdb (p := 128) (i := 26) ch_cX12_spots_128 rfl) (rdb (p := 128) (i := 27) ch_cX12_spots_128 rfl)
theorem dX12_spots_156 : decode cX12_spots 156 = .ok (.invokevirtual 104, 3) := do_182 (rdb (p := 128) (i := 28) ch_cX12_spots_128 rfl) (rdb (p := 128) (i := 29) ch_cX12_spots_128 rfl) (rdb (p := 128) (i := 30) ch_cX12_spots_128 rfl) rfl
theorem dX12_spots_159 : decode cX12_spots 159 = .ok (.ireturn, 1) := do_172 (rdb (p := 128) (i := 31) ch_cX12_spots_128 rfl)
theorem ch_cX12_spots_160 : (cX12_spots.data.toList.drop 160).take 36 = [3, 54, 6, 2, 54, 7, 3, 54, 8, 21, 8, 4, 42, 180, 0, 75, 28, 46, 120, 162, 0, 51, 21, 8, 21, 5, 2, 130, 126, 154, 0, 35, 21, 8, 184, 1] := by decide +kernel
theorem dX12_spots_160 : decode cX12_spots 160 = .ok (.iconst 0, 1) := do_3 (rdb (p := 160) (i := 0) ch_cX12_spots_160 rfl)
theorem dX12_spots_161 : decode cX12_spots 161 = .ok (.istore 6, 2) := do_54 (rdb (p := 160) (i := 1) ch_cX12_spots_160 rfl) (rdb (p := 160) (i := 2) ch_cX12_spots_160 rfl)
theorem dX12_spots_163 : decode cX12_spots 163 = .ok (.iconst (-1), 1) := do_2 (rdb (p := 160) (i := 3) ch_cX12_spots_160 rfl)
theorem dX12_spots_164 : decode cX12_spots 164 = .ok (.istore 7, 2) := do_54 (rdb (p := 160) (i := 4) ch_cX12_spots_160 rfl) (rdb (p := 160) (i := 5) ch_cX12_spots_160 rfl)
theorem dX12_spots_166 : decode cX12_spots 166 = .ok (.iconst 0, 1) := do_3 (rdb (p := 160) (i := 6) ch_cX12_spots_160 rfl)
theorem dX12_spots_167 : decode cX12_spots 167 = .ok (.istore 8, 2) := do_54 (rdb (p := 160) (i := 7) ch_cX12_spots_160 rfl) (rdb (p := 160) (i := 8) ch_cX12_spots_160 rfl)
theorem dX12_spots_169 : decode cX12_spots 169 = .ok (.iload 8, 2) := do_21 (rdb (p := 160) (i := 9) ch_cX12_spots_160 rfl) (rdb (p := 160) (i := 10) ch_cX12_spots_160 rfl)
theorem dX12_spots_171 : decode cX12_spots 171 = .ok (.iconst 1, 1) := do_4 (rdb (p := 160) (i := 11) ch_cX12_spots_160 rfl)
theorem dX12_spots_172 : decode cX12_spots 172 = .ok (.aload_n 0, 1) := do_42 (rdb (p := 160) (i := 12) ch_cX12_spots_160 rfl)
theorem dX12_spots_173 : decode cX12_spots 173 = .ok (.getfield 75, 3) := do_180 (rdb (p := 160) (i := 13) ch_cX12_spots_160 rfl) (rdb (p := 160) (i := 14) ch_cX12_spots_160 rfl) (rdb (p := 160) (i := 15) ch_cX12_spots_160 rfl) rfl
theorem dX12_spots_176 : decode cX12_spots 176 = .ok (.iload_n 2, 1) := do_28 (rdb (p := 160) (i := 16) ch_cX12_spots_160 rfl)
theorem dX12_spots_177 : decode cX12_spots 177 = .ok (.iaload, 1) := do_46 (rdb (p := 160) (i := 17) ch_cX12_spots_160 rfl)
theorem dX12_spots_178 : decode cX12_spots 178 = .ok (.ishl, 1) := do_120 (rdb (p := 160) (i := 18) ch_cX12_spots_160 rfl)
theorem dX12_spots_179 : decode cX12_spots 179 = .ok (.if_icmp .ge 51, 3) := do_162 (rdb (p := 160) (i := 19) ch_cX12_spots_160 rfl) (rdb (p := 160) (i := 20) ch_cX12_spots_160 rfl) (rdb (p := 160) (i := 21) ch_cX12_spots_160 rfl) (by decide +kernel)
theorem dX12_spots_182 : decode cX12_spots 182 = .ok (.iload 8, 2) := do_21 (rdb (p := 160) (i := 22) ch_cX12_spots_160 rfl) (rdb (p := 160) (i := 23) ch_cX12_spots_160 rfl)
theorem dX12_spots_184 : decode cX12_spots 184 = .ok (.iload 5, 2) := do_21 (rdb (p := 160) (i := 24) ch_cX12_spots_160 rfl) (rdb (p := 160) (i := 25) ch_cX12_spots_160 rfl)
theorem dX12_spots_186 : decode cX12_spots 186 = .ok (.iconst (-1), 1) := do_2 (rdb (p := 160) (i := 26) ch_cX12_spots_160 rfl)
theorem dX12_spots_187 : decode cX12_spots 187 = .ok (.ixor, 1) := do_130 (rdb (p := 160) (i := 27) ch_cX12_spots_160 rfl)
theorem dX12_spots_188 : decode cX12_spots 188 = .ok (.iand, 1) := do_126 (rdb (p := 160) (i := 28) ch_cX12_spots_160 rfl)
theorem dX12_spots_189 : decode cX12_spots 189 = .ok (.ifCond .ne 35, 3) := do_154 (rdb (p := 160) (i := 29) ch_cX12_spots_160 rfl) (rdb (p := 160) (i := 30) ch_cX12_spots_160 rfl) (rdb (p := 160) (i := 31) ch_cX12_spots_160 rfl) (by decide +kernel)
theorem ch_cX12_spots_192 : (cX12_spots.data.toList.drop 192).take 36 = [21, 8, 184, 1, 24, 29, 160, 0, 26, 42, 21, 8, 182, 1, 27, 21, 7, 164, 0, 15, 21, 8, 54, 6, 42, 21, 8, 182, 1, 27, 54, 7, 132, 8, 1, 167] := by decide +kernel
theorem dX12_spots_192 : decode cX12_spots 192 = .ok (.iload 8, 2) := do_21 (rdb (p := 192) (i := 0) ch_cX12_spots_192 rfl) (rdb (p := 192) (i := 1) ch_cX12_spots_192 rfl)
theorem dX12_spots_194 : decode cX12_spots 194 = .ok (.invokestatic 280, 3) := do_184 (rdb (p := 192) (i := 2) ch_cX12_spots_192 rfl) (rdb (p := 192) (i := 3) ch_cX12_spots_192 rfl) (rdb (p := 192) (i := 4) ch_cX12_spots_192 rfl) rfl
theorem dX12_spots_197 : decode cX12_spots 197 = .ok (.iload_n 3, 1) := do_29 (rdb (p := 192) (i := 5) ch_cX12_spots_192 rfl)
theorem dX12_spots_198 : decode cX12_spots 198 = .ok (.if_icmp .ne 26, 3) := do_160 (rdb (p := 192) (i := 6) ch_cX12_spots_192 rfl) (rdb (p := 192) (i := 7) ch_cX12_spots_192 rfl) (rdb (p := 192) (i := 8) ch_cX12_spots_192 rfl) (by decide +kernel)
theorem dX12_spots_201 : decode cX12_spots 201 = .ok (.aload_n 0, 1) := do_42 (rdb (p := 192) (i := 9) ch_cX12_spots_192 rfl)
theorem dX12_spots_202 : decode cX12_spots 202 = .ok (.iload 8, 2) := do_21 (rdb (p := 192) (i := 10) ch_cX12_spots_192 rfl) (rdb (p := 192) (i := 11) ch_cX12_spots_192 rfl)
theorem dX12_spots_204 : decode cX12_spots 204 = .ok (.invokevirtual 283, 3) := do_182 (rdb (p := 192) (i := 12) ch_cX12_spots_192 rfl) (rdb (p := 192) (i := 13) ch_cX12_spots_192 rfl) (rdb (p := 192) (i := 14) ch_cX12_spots_192 rfl) rfl
theorem dX12_spots_207 : decode cX12_spots 207 = .ok (.iload 7, 2) := do_21 (rdb (p := 192) (i := 15) ch_cX12_spots_192 rfl) (rdb (p := 192) (i := 16) ch_cX12_spots_192 rfl)
theorem dX12_spots_209 : decode cX12_spots 209 = .ok (.if_icmp .le 15, 3) := do_164 (rdb (p := 192) (i := 17) ch_cX12_spots_192 rfl) (rdb (p := 192) (i := 18) ch_cX12_spots_192 rfl) (rdb (p := 192) (i := 19) ch_cX12_spots_192 rfl) (by decide +kernel)
theorem dX12_spots_212 : decode cX12_spots 212 = .ok (.iload 8, 2) := do_21 (rdb (p := 192) (i := 20) ch_cX12_spots_192 rfl) (rdb (p := 192) (i := 21) ch_cX12_spots_192 rfl)
theorem dX12_spots_214 : decode cX12_spots 214 = .ok (.istore 6, 2) := do_54 (rdb (p := 192) (i := 22) ch_cX12_spots_192 rfl) (rdb (p := 192) (i := 23) ch_cX12_spots_192 rfl)
theorem dX12_spots_216 : decode cX12_spots 216 = .ok (.aload_n 0, 1) := do_42 (rdb (p := 192) (i := 24) ch_cX12_spots_192 rfl)
theorem dX12_spots_217 : decode cX12_spots 217 = .ok (.iload 8, 2) := do_21 (rdb (p := 192) (i := 25) ch_cX12_spots_192 rfl) (rdb (p := 192) (i := 26) ch_cX12_spots_192 rfl)
theorem dX12_spots_219 : decode cX12_spots 219 = .ok (.invokevirtual 283, 3) := do_182 (rdb (p := 192) (i := 27) ch_cX12_spots_192 rfl) (rdb (p := 192) (i := 28) ch_cX12_spots_192 rfl) (rdb (p := 192) (i := 29) ch_cX12_spots_192 rfl) rfl
theorem dX12_spots_222 : decode cX12_spots 222 = .ok (.istore 7, 2) := do_54 (rdb (p := 192) (i := 30) ch_cX12_spots_192 rfl) (rdb (p := 192) (i := 31) ch_cX12_spots_192 rfl)
theorem ch_cX12_spots_224 : (cX12_spots.data.toList.drop 224).take 36 = [132, 8, 1, 167, 255, 198, 21, 4, 154, 0, 8, 21, 7, 167, 0, 5, 21, 6, 172] := by decide +kernel
theorem dX12_spots_224 : decode cX12_spots 224 = .ok (.iinc 8 1, 3) := do_132 (rdb (p := 224) (i := 0) ch_cX12_spots_224 rfl) (rdb (p := 224) (i := 1) ch_cX12_spots_224 rfl) (rdb (p := 224) (i := 2) ch_cX12_spots_224 rfl) (by decide +kernel)
theorem dX12_spots_227 : decode cX12_spots 227 = .ok (.goto (-58), 3) := do_167 (rdb (p := 224) (i := 3) ch_cX12_spots_224 rfl) (rdb (p := 224) (i := 4) ch_cX12_spots_224 rfl) (rdb (p := 224) (i := 5) ch_cX12_spots_224 rfl) (by decide +kernel)
theorem dX12_spots_230 : decode cX12_spots 230 = .ok (.iload 4, 2) := do_21 (rdb (p := 224) (i := 6) ch_cX12_spots_224 rfl) (rdb (p := 224) (i := 7) ch_cX12_spots_224 rfl)
theorem dX12_spots_232 : decode cX12_spots 232 = .ok (.ifCond .ne 8, 3) := do_154 (rdb (p := 224) (i := 8) ch_cX12_spots_224 rfl) (rdb (p := 224) (i := 9) ch_cX12_spots_224 rfl) (rdb (p := 224) (i := 10) ch_cX12_spots_224 rfl) (by decide +kernel)
theorem dX12_spots_235 : decode cX12_spots 235 = .ok (.iload 7, 2) := do_21 (rdb (p := 224) (i := 11) ch_cX12_spots_224 rfl) (rdb (p := 224) (i := 12) ch_cX12_spots_224 rfl)
theorem dX12_spots_237 : decode cX12_spots 237 = .ok (.goto 5, 3) := do_167 (rdb (p := 224) (i := 13) ch_cX12_spots_224 rfl) (rdb (p := 224) (i := 14) ch_cX12_spots_224 rfl) (rdb (p := 224) (i := 15) ch_cX12_spots_224 rfl) (by decide +kernel)
theorem dX12_spots_240 : decode cX12_spots 240 = .ok (.iload 6, 2) := do_21 (rdb (p := 224) (i := 16) ch_cX12_spots_224 rfl) (rdb (p := 224) (i := 17) ch_cX12_spots_224 rfl)
theorem dX12_spots_242 : decode cX12_spots 242 = .ok (.ireturn, 1) := do_172 (rdb (p := 224) (i := 18) ch_cX12_spots_224 rfl)
theorem ch_cX12_toldBy_0 : (cX12_toldBy.data.toList.drop 0).take 36 = [3, 61, 3, 62, 29, 17, 0, 192, 162, 0, 79, 3, 54, 4, 3, 54, 5, 21, 5, 16, 8, 162, 0, 47, 21, 4, 154, 0, 29, 27, 21, 5, 122, 4, 126, 4] := by decide +kernel
theorem dX12_toldBy_0 : decode cX12_toldBy 0 = .ok (.iconst 0, 1) := do_3 (rdb (p := 0) (i := 0) ch_cX12_toldBy_0 rfl)
theorem dX12_toldBy_1 : decode cX12_toldBy 1 = .ok (.istore_n 2, 1) := do_61 (rdb (p := 0) (i := 1) ch_cX12_toldBy_0 rfl)
theorem dX12_toldBy_2 : decode cX12_toldBy 2 = .ok (.iconst 0, 1) := do_3 (rdb (p := 0) (i := 2) ch_cX12_toldBy_0 rfl)
theorem dX12_toldBy_3 : decode cX12_toldBy 3 = .ok (.istore_n 3, 1) := do_62 (rdb (p := 0) (i := 3) ch_cX12_toldBy_0 rfl)
theorem dX12_toldBy_4 : decode cX12_toldBy 4 = .ok (.iload_n 3, 1) := do_29 (rdb (p := 0) (i := 4) ch_cX12_toldBy_0 rfl)
theorem dX12_toldBy_5 : decode cX12_toldBy 5 = .ok (.sipush 192, 3) := do_17 (rdb (p := 0) (i := 5) ch_cX12_toldBy_0 rfl) (rdb (p := 0) (i := 6) ch_cX12_toldBy_0 rfl) (rdb (p := 0) (i := 7) ch_cX12_toldBy_0 rfl) (by decide +kernel)
theorem dX12_toldBy_8 : decode cX12_toldBy 8 = .ok (.if_icmp .ge 79, 3) := do_162 (rdb (p := 0) (i := 8) ch_cX12_toldBy_0 rfl) (rdb (p := 0) (i := 9) ch_cX12_toldBy_0 rfl) (rdb (p := 0) (i := 10) ch_cX12_toldBy_0 rfl) (by decide +kernel)
theorem dX12_toldBy_11 : decode cX12_toldBy 11 = .ok (.iconst 0, 1) := do_3 (rdb (p := 0) (i := 11) ch_cX12_toldBy_0 rfl)
theorem dX12_toldBy_12 : decode cX12_toldBy 12 = .ok (.istore 4, 2) := do_54 (rdb (p := 0) (i := 12) ch_cX12_toldBy_0 rfl) (rdb (p := 0) (i := 13) ch_cX12_toldBy_0 rfl)
theorem dX12_toldBy_14 : decode cX12_toldBy 14 = .ok (.iconst 0, 1) := do_3 (rdb (p := 0) (i := 14) ch_cX12_toldBy_0 rfl)
theorem dX12_toldBy_15 : decode cX12_toldBy 15 = .ok (.istore 5, 2) := do_54 (rdb (p := 0) (i := 15) ch_cX12_toldBy_0 rfl) (rdb (p := 0) (i := 16) ch_cX12_toldBy_0 rfl)
theorem dX12_toldBy_17 : decode cX12_toldBy 17 = .ok (.iload 5, 2) := do_21 (rdb (p := 0) (i := 17) ch_cX12_toldBy_0 rfl) (rdb (p := 0) (i := 18) ch_cX12_toldBy_0 rfl)
theorem dX12_toldBy_19 : decode cX12_toldBy 19 = .ok (.bipush 8, 2) := do_16 (rdb (p := 0) (i := 19) ch_cX12_toldBy_0 rfl) (rdb (p := 0) (i := 20) ch_cX12_toldBy_0 rfl) (by decide +kernel)
theorem dX12_toldBy_21 : decode cX12_toldBy 21 = .ok (.if_icmp .ge 47, 3) := do_162 (rdb (p := 0) (i := 21) ch_cX12_toldBy_0 rfl) (rdb (p := 0) (i := 22) ch_cX12_toldBy_0 rfl) (rdb (p := 0) (i := 23) ch_cX12_toldBy_0 rfl) (by decide +kernel)
theorem dX12_toldBy_24 : decode cX12_toldBy 24 = .ok (.iload 4, 2) := do_21 (rdb (p := 0) (i := 24) ch_cX12_toldBy_0 rfl) (rdb (p := 0) (i := 25) ch_cX12_toldBy_0 rfl)
theorem dX12_toldBy_26 : decode cX12_toldBy 26 = .ok (.ifCond .ne 29, 3) := do_154 (rdb (p := 0) (i := 26) ch_cX12_toldBy_0 rfl) (rdb (p := 0) (i := 27) ch_cX12_toldBy_0 rfl) (rdb (p := 0) (i := 28) ch_cX12_toldBy_0 rfl) (by decide +kernel)
theorem dX12_toldBy_29 : decode cX12_toldBy 29 = .ok (.iload_n 1, 1) := do_27 (rdb (p := 0) (i := 29) ch_cX12_toldBy_0 rfl)
theorem dX12_toldBy_30 : decode cX12_toldBy 30 = .ok (.iload 5, 2) := do_21 (rdb (p := 0) (i := 30) ch_cX12_toldBy_0 rfl) (rdb (p := 0) (i := 31) ch_cX12_toldBy_0 rfl)
theorem ch_cX12_toldBy_32 : (cX12_toldBy.data.toList.drop 32).take 36 = [122, 4, 126, 4, 160, 0, 23, 42, 180, 0, 53, 17, 0, 192, 21, 5, 104, 29, 96, 51, 153, 0, 7, 4, 167, 0, 4, 3, 54, 4, 132, 5, 1, 167, 255, 208] := by decide +kernel
theorem dX12_toldBy_32 : decode cX12_toldBy 32 = .ok (.ishr, 1) := do_122 (rdb (p := 32) (i := 0) ch_cX12_toldBy_32 rfl)
theorem dX12_toldBy_33 : decode cX12_toldBy 33 = .ok (.iconst 1, 1) := do_4 (rdb (p := 32) (i := 1) ch_cX12_toldBy_32 rfl)
theorem dX12_toldBy_34 : decode cX12_toldBy 34 = .ok (.iand, 1) := do_126 (rdb (p := 32) (i := 2) ch_cX12_toldBy_32 rfl)
theorem dX12_toldBy_35 : decode cX12_toldBy 35 = .ok (.iconst 1, 1) := do_4 (rdb (p := 32) (i := 3) ch_cX12_toldBy_32 rfl)
theorem dX12_toldBy_36 : decode cX12_toldBy 36 = .ok (.if_icmp .ne 23, 3) := do_160 (rdb (p := 32) (i := 4) ch_cX12_toldBy_32 rfl) (rdb (p := 32) (i := 5) ch_cX12_toldBy_32 rfl) (rdb (p := 32) (i := 6) ch_cX12_toldBy_32 rfl) (by decide +kernel)
theorem dX12_toldBy_39 : decode cX12_toldBy 39 = .ok (.aload_n 0, 1) := do_42 (rdb (p := 32) (i := 7) ch_cX12_toldBy_32 rfl)
theorem dX12_toldBy_40 : decode cX12_toldBy 40 = .ok (.getfield 53, 3) := do_180 (rdb (p := 32) (i := 8) ch_cX12_toldBy_32 rfl) (rdb (p := 32) (i := 9) ch_cX12_toldBy_32 rfl) (rdb (p := 32) (i := 10) ch_cX12_toldBy_32 rfl) rfl
theorem dX12_toldBy_43 : decode cX12_toldBy 43 = .ok (.sipush 192, 3) := do_17 (rdb (p := 32) (i := 11) ch_cX12_toldBy_32 rfl) (rdb (p := 32) (i := 12) ch_cX12_toldBy_32 rfl) (rdb (p := 32) (i := 13) ch_cX12_toldBy_32 rfl) (by decide +kernel)
theorem dX12_toldBy_46 : decode cX12_toldBy 46 = .ok (.iload 5, 2) := do_21 (rdb (p := 32) (i := 14) ch_cX12_toldBy_32 rfl) (rdb (p := 32) (i := 15) ch_cX12_toldBy_32 rfl)
theorem dX12_toldBy_48 : decode cX12_toldBy 48 = .ok (.imul, 1) := do_104 (rdb (p := 32) (i := 16) ch_cX12_toldBy_32 rfl)
theorem dX12_toldBy_49 : decode cX12_toldBy 49 = .ok (.iload_n 3, 1) := do_29 (rdb (p := 32) (i := 17) ch_cX12_toldBy_32 rfl)
theorem dX12_toldBy_50 : decode cX12_toldBy 50 = .ok (.iadd, 1) := do_96 (rdb (p := 32) (i := 18) ch_cX12_toldBy_32 rfl)
theorem dX12_toldBy_51 : decode cX12_toldBy 51 = .ok (.baload, 1) := do_51 (rdb (p := 32) (i := 19) ch_cX12_toldBy_32 rfl)
theorem dX12_toldBy_52 : decode cX12_toldBy 52 = .ok (.ifCond .eq 7, 3) := do_153 (rdb (p := 32) (i := 20) ch_cX12_toldBy_32 rfl) (rdb (p := 32) (i := 21) ch_cX12_toldBy_32 rfl) (rdb (p := 32) (i := 22) ch_cX12_toldBy_32 rfl) (by decide +kernel)
theorem dX12_toldBy_55 : decode cX12_toldBy 55 = .ok (.iconst 1, 1) := do_4 (rdb (p := 32) (i := 23) ch_cX12_toldBy_32 rfl)
theorem dX12_toldBy_56 : decode cX12_toldBy 56 = .ok (.goto 4, 3) := do_167 (rdb (p := 32) (i := 24) ch_cX12_toldBy_32 rfl) (rdb (p := 32) (i := 25) ch_cX12_toldBy_32 rfl) (rdb (p := 32) (i := 26) ch_cX12_toldBy_32 rfl) (by decide +kernel)
theorem dX12_toldBy_59 : decode cX12_toldBy 59 = .ok (.iconst 0, 1) := do_3 (rdb (p := 32) (i := 27) ch_cX12_toldBy_32 rfl)
theorem dX12_toldBy_60 : decode cX12_toldBy 60 = .ok (.istore 4, 2) := do_54 (rdb (p := 32) (i := 28) ch_cX12_toldBy_32 rfl) (rdb (p := 32) (i := 29) ch_cX12_toldBy_32 rfl)
theorem dX12_toldBy_62 : decode cX12_toldBy 62 = .ok (.iinc 5 1, 3) := do_132 (rdb (p := 32) (i := 30) ch_cX12_toldBy_32 rfl) (rdb (p := 32) (i := 31) ch_cX12_toldBy_32 rfl) (rdb (p := 32) (i := 32) ch_cX12_toldBy_32 rfl) (by decide +kernel)
theorem ch_cX12_toldBy_64 : (cX12_toldBy.data.toList.drop 64).take 36 = [1, 167, 255, 208, 28, 21, 4, 153, 0, 7, 4, 167, 0, 4, 3, 96, 61, 132, 3, 1, 167, 255, 176, 28, 172] := by decide +kernel
theorem dX12_toldBy_65 : decode cX12_toldBy 65 = .ok (.goto (-48), 3) := do_167 (rdb (p := 64) (i := 1) ch_cX12_toldBy_64 rfl) (rdb (p := 64) (i := 2) ch_cX12_toldBy_64 rfl) (rdb (p := 64) (i := 3) ch_cX12_toldBy_64 rfl) (by decide +kernel)
theorem dX12_toldBy_68 : decode cX12_toldBy 68 = .ok (.iload_n 2, 1) := do_28 (rdb (p := 64) (i := 4) ch_cX12_toldBy_64 rfl)
theorem dX12_toldBy_69 : decode cX12_toldBy 69 = .ok (.iload 4, 2) := do_21 (rdb (p := 64) (i := 5) ch_cX12_toldBy_64 rfl) (rdb (p := 64) (i := 6) ch_cX12_toldBy_64 rfl)
theorem dX12_toldBy_71 : decode cX12_toldBy 71 = .ok (.ifCond .eq 7, 3) := do_153 (rdb (p := 64) (i := 7) ch_cX12_toldBy_64 rfl) (rdb (p := 64) (i := 8) ch_cX12_toldBy_64 rfl) (rdb (p := 64) (i := 9) ch_cX12_toldBy_64 rfl) (by decide +kernel)
theorem dX12_toldBy_74 : decode cX12_toldBy 74 = .ok (.iconst 1, 1) := do_4 (rdb (p := 64) (i := 10) ch_cX12_toldBy_64 rfl)
theorem dX12_toldBy_75 : decode cX12_toldBy 75 = .ok (.goto 4, 3) := do_167 (rdb (p := 64) (i := 11) ch_cX12_toldBy_64 rfl) (rdb (p := 64) (i := 12) ch_cX12_toldBy_64 rfl) (rdb (p := 64) (i := 13) ch_cX12_toldBy_64 rfl) (by decide +kernel)
theorem dX12_toldBy_78 : decode cX12_toldBy 78 = .ok (.iconst 0, 1) := do_3 (rdb (p := 64) (i := 14) ch_cX12_toldBy_64 rfl)
theorem dX12_toldBy_79 : decode cX12_toldBy 79 = .ok (.iadd, 1) := do_96 (rdb (p := 64) (i := 15) ch_cX12_toldBy_64 rfl)
theorem dX12_toldBy_80 : decode cX12_toldBy 80 = .ok (.istore_n 2, 1) := do_61 (rdb (p := 64) (i := 16) ch_cX12_toldBy_64 rfl)
theorem dX12_toldBy_81 : decode cX12_toldBy 81 = .ok (.iinc 3 1, 3) := do_132 (rdb (p := 64) (i := 17) ch_cX12_toldBy_64 rfl) (rdb (p := 64) (i := 18) ch_cX12_toldBy_64 rfl) (rdb (p := 64) (i := 19) ch_cX12_toldBy_64 rfl) (by decide +kernel)
theorem dX12_toldBy_84 : decode cX12_toldBy 84 = .ok (.goto (-80), 3) := do_167 (rdb (p := 64) (i := 20) ch_cX12_toldBy_64 rfl) (rdb (p := 64) (i := 21) ch_cX12_toldBy_64 rfl) (rdb (p := 64) (i := 22) ch_cX12_toldBy_64 rfl) (by decide +kernel)
theorem dX12_toldBy_87 : decode cX12_toldBy 87 = .ok (.iload_n 2, 1) := do_28 (rdb (p := 64) (i := 23) ch_cX12_toldBy_64 rfl)
theorem dX12_toldBy_88 : decode cX12_toldBy 88 = .ok (.ireturn, 1) := do_172 (rdb (p := 64) (i := 24) ch_cX12_toldBy_64 rfl)
end
section
def S_c_X12_findTold : rf → Nat → Prop := fun c k => (c.1 = 12 ∧ c.2.1 = 0 ∧ k = 7) ∨ (c.1 = 58 ∧ c.2.1 = 0 ∧ k = 0) ∨ (c.1 = 58 ∧ c.2.1 = 0 ∧ k = 1) ∨ (c.1 = 58 ∧ c.2.1 = 0 ∧ k = 2) ∨ (c.1 = 58 ∧ c.2.1 = 0 ∧ k = 3) ∨ (c.1 = 59 ∧ c.2.1 = 0) ∨ (c.1 = 60 ∧ c.2.1 = 0) ∨ False
def ST_X12_findTold_59 (v : Int32) (u : Int32) (t : Int32) (Mz : mM) (v4_39 : Int32) (r13_ : Int32) (v6_59 : Int32) (M_59 : mM) (v6_59y : Int32) (M_59y : mM) : Prop := (1 ≤ v6_59.toInt) ∧ (v6_59.toInt ≤ 13) ∧ (InvD M_59) ∧ (FR (S_c_X12_findTold) Mz M_59) ∧ (v6_59.toInt ≤ r13_.toInt) ∧ ∃ r25_ : Int32, (SP_X12_on t v4_39 v6_59 M_59 r25_) ∧ (onP t v4_39 v6_59 r25_ ∧ -1 ≤ r25_.toInt ∧ r25_.toInt ≤ 191) ∧ (0 ≤ r25_.toInt) ∧ ∃ z31_ : Int32, (z31_.toInt = 192 * u.toInt) ∧ ∃ z33_ : Int32, (z33_.toInt = z31_.toInt + r25_.toInt) ∧ ∃ r35_ : Int32, (SP_X12_held v r25_ M_59 r35_) ∧ (0 ≤ r35_.toInt ∧ r35_.toInt ≤ 2) ∧ (((¬ r35_.toInt = 0) ∧ ∃ j43_ : Nat, ((j43_ : Int) = z33_.toInt) ∧ ∃ M41_ : mM, (M41_ = up M_59 (60, 0, 0) j43_ (vp_nar .boolean 0)) ∧ ∃ z47_ : Int32, (z47_.toInt = v6_59.toInt + 1) ∧ v6_59y = z47_ ∧ M_59y = M41_) ∨ ((r35_.toInt = 0) ∧ ∃ r49_ : Int32, (SP_X12_yes v r25_ M_59 r49_) ∧ (r49_.toInt = 495 + 384 * v.toInt + r25_.toInt) ∧ ∃ j56_ : Nat, ((j56_ : Int) = r49_.toInt) ∧ ∃ z54_ : Int32, (z54_ = M_59.1 (50, 0, 0) j56_) ∧ (((99 ≤ z54_.toInt) ∧ ∃ j61_ : Nat, ((j61_ : Int) = z33_.toInt) ∧ ∃ M59_ : mM, (M59_ = up M_59 (60, 0, 0) j61_ (vp_nar .boolean 0)) ∧ ∃ z65_ : Int32, (z65_.toInt = v6_59.toInt + 1) ∧ v6_59y = z65_ ∧ M_59y = M59_) ∨ ((z54_.toInt < 99) ∧ ∃ j69_ : Nat, ((j69_ : Int) = z33_.toInt) ∧ ∃ M67_ : mM, (M67_ = up M_59 (60, 0, 0) j69_ (vp_nar .boolean 1)) ∧ ∃ z73_ : Int32, (z73_.toInt = v6_59.toInt + 1) ∧ v6_59y = z73_ ∧ M_59y = M67_))))
def ST_X12_findTold_39 (v : Int32) (u : Int32) (t : Int32) (Mz : mM) (v4_39 : Int32) (M_39 : mM) (v4_39y : Int32) (M_39y : mM) : Prop := (0 ≤ v4_39.toInt) ∧ (v4_39.toInt ≤ 8) ∧ (InvD M_39) ∧ (FR (S_c_X12_findTold) Mz M_39) ∧ (v4_39.toInt < 8) ∧ ∃ M14_ : mM, (InvD M14_) ∧ (FR (S_c_X12_heardFrom) M_39 M14_) ∧ ∃ r13_ : Int32, (SP_X12_heardFrom v t v4_39 M_39 r13_ M14_) ∧ (0 ≤ r13_.toInt ∧ r13_.toInt ≤ 12 ∧ upI t v4_39 r13_.toInt) ∧ ∃ v6_59 : Int32, (1 ≤ v6_59.toInt) ∧ (v6_59.toInt ≤ 13) ∧ ∃ M_59 : mM, (RCH (fun x_ y_ => ST_X12_findTold_59 v u t Mz v4_39 r13_ x_.1 x_.2 y_.1 y_.2) ((1 : Int32), M14_) (v6_59, M_59)) ∧ (InvD M_59) ∧ (FR (S_c_X12_findTold) Mz M_59) ∧ (r13_.toInt < v6_59.toInt) ∧ ∃ z23_ : Int32, (z23_.toInt = v4_39.toInt + 1) ∧ v4_39y = z23_ ∧ M_39y = M_59
def ST_X12_findTold_3 (u : Int32) (Mz : mM) (v4_3 : Int32) (M_3 : mM) (v4_3y : Int32) (M_3y : mM) : Prop := (0 ≤ v4_3.toInt) ∧ (v4_3.toInt ≤ 192) ∧ (InvD M_3) ∧ (FR (S_c_X12_findTold) Mz M_3) ∧ (v4_3.toInt < 192) ∧ ∃ z75_ : Int32, (z75_.toInt = 192 * u.toInt) ∧ ∃ z77_ : Int32, (z77_.toInt = z75_.toInt + v4_3.toInt) ∧ ∃ j81_ : Nat, ((j81_ : Int) = z77_.toInt) ∧ ∃ M79_ : mM, (M79_ = up M_3 (60, 0, 0) j81_ (vp_nar .boolean 0)) ∧ ∃ z85_ : Int32, (z85_.toInt = v4_3.toInt + 1) ∧ v4_3y = z85_ ∧ M_3y = M79_
def SP_X12_findTold (v : Int32) (u : Int32) (t : Int32) (Mz : mM) (M_ : mM) : Prop := ∃ v4_3 : Int32, (0 ≤ v4_3.toInt) ∧ (v4_3.toInt ≤ 192) ∧ ∃ M_3 : mM, (RCH (fun x_ y_ => ST_X12_findTold_3 u Mz x_.1 x_.2 y_.1 y_.2) ((0 : Int32), Mz) (v4_3, M_3)) ∧ (InvD M_3) ∧ (FR (S_c_X12_findTold) Mz M_3) ∧ (192 ≤ v4_3.toInt) ∧ ∃ M3_ : mM, (M3_ = up M_3 (12, 0, 0) 7 v) ∧ ∃ v4_39 : Int32, (0 ≤ v4_39.toInt) ∧ (v4_39.toInt ≤ 8) ∧ ∃ M_39 : mM, (RCH (fun x_ y_ => ST_X12_findTold_39 v u t Mz x_.1 x_.2 y_.1 y_.2) ((0 : Int32), M3_) (v4_39, M_39)) ∧ (InvD M_39) ∧ (FR (S_c_X12_findTold) Mz M_39) ∧ (8 ≤ v4_39.toInt) ∧ ∃ M9_ : mM, (M9_ = up M_39 (12, 0, 0) 7 (-1)) ∧ M_ = M9_
theorem lf_c_X12_findTold_6 (v6_59 : Int32) (hv0_59 : 1 ≤ v6_59.toInt) : 1 ≤ v6_59.toInt := by omega
theorem lf_c_X12_findTold_7 (r13_ : Int32) (v6_59 : Int32) (h22_ : v6_59.toInt ≤ r13_.toInt) : v6_59.toInt ≤ r13_.toInt := by omega
theorem lf_c_X12_findTold_8 (u : Int32) (hu : 0 ≤ u.toInt ∧ u.toInt ≤ 7) : -2147483648 ≤ 192 * u.toInt ∧ 192 * u.toInt < 2147483648 := by omega
theorem lf_c_X12_findTold_9 (u : Int32) (t : Int32) (v4_39 : Int32) (v6_59 : Int32) (r25_ : Int32) (z31_ : Int32) (hu : 0 ≤ u.toInt ∧ u.toInt ≤ 7) (h28_ : onP t v4_39 v6_59 r25_ ∧ -1 ≤ r25_.toInt ∧ r25_.toInt ≤ 191) (h30_ : 0 ≤ r25_.toInt) (h32_ : z31_.toInt = 192 * u.toInt) : -2147483648 ≤ z31_.toInt + r25_.toInt ∧ z31_.toInt + r25_.toInt < 2147483648 := by omega
theorem lf_c_X12_findTold_10 (t : Int32) (v4_39 : Int32) (v6_59 : Int32) (r25_ : Int32) (h28_ : onP t v4_39 v6_59 r25_ ∧ -1 ≤ r25_.toInt ∧ r25_.toInt ≤ 191) (h30_ : 0 ≤ r25_.toInt) : -1 ≤ r25_.toInt ∧ r25_.toInt ≤ 191 := by omega
theorem lf_c_X12_findTold_11 (u : Int32) (t : Int32) (v4_39 : Int32) (v6_59 : Int32) (r25_ : Int32) (z31_ : Int32) (z33_ : Int32) (hu : 0 ≤ u.toInt ∧ u.toInt ≤ 7) (h28_ : onP t v4_39 v6_59 r25_ ∧ -1 ≤ r25_.toInt ∧ r25_.toInt ≤ 191) (h30_ : 0 ≤ r25_.toInt) (h32_ : z31_.toInt = 192 * u.toInt) (h34_ : z33_.toInt = z31_.toInt + r25_.toInt) : 0 ≤ z33_.toInt ∧ z33_.toInt < ((1536 : Nat) : Int) := by omega
theorem lf_c_X12_findTold_14 (t : Int32) (v4_39 : Int32) (r13_ : Int32) (v6_59 : Int32) (z47_ : Int32) (h16_ : 0 ≤ r13_.toInt ∧ r13_.toInt ≤ 12 ∧ upI t v4_39 r13_.toInt) (h22_ : v6_59.toInt ≤ r13_.toInt) (h48_ : z47_.toInt = v6_59.toInt + 1) : z47_.toInt ≤ 13 := by omega
theorem lf_c_X12_findTold_15 (v6_59 : Int32) (z47_ : Int32) (hv1_59 : v6_59.toInt ≤ 13) (h48_ : z47_.toInt = v6_59.toInt + 1) : (2147483648 - z47_.toInt).toNat < (2147483648 - v6_59.toInt).toNat := by omega
theorem lf_c_X12_findTold_17 (v : Int32) (t : Int32) (v4_39 : Int32) (v6_59 : Int32) (r25_ : Int32) (r49_ : Int32) (hv : 0 ≤ v.toInt ∧ v.toInt ≤ 7) (h28_ : onP t v4_39 v6_59 r25_ ∧ -1 ≤ r25_.toInt ∧ r25_.toInt ≤ 191) (h30_ : 0 ≤ r25_.toInt) (h52_ : r49_.toInt = 495 + 384 * v.toInt + r25_.toInt) : 0 ≤ r49_.toInt ∧ r49_.toInt < ((3567 : Nat) : Int) := by omega
theorem lf_c_X12_findTold_33 (u : Int32) (v4_3 : Int32) (z75_ : Int32) (hu : 0 ≤ u.toInt ∧ u.toInt ≤ 7) (hv0_3 : 0 ≤ v4_3.toInt) (h2_ : v4_3.toInt < 192) (h76_ : z75_.toInt = 192 * u.toInt) : -2147483648 ≤ z75_.toInt + v4_3.toInt ∧ z75_.toInt + v4_3.toInt < 2147483648 := by omega
theorem lf_c_X12_findTold_34 (u : Int32) (v4_3 : Int32) (z75_ : Int32) (z77_ : Int32) (hu : 0 ≤ u.toInt ∧ u.toInt ≤ 7) (hv0_3 : 0 ≤ v4_3.toInt) (h2_ : v4_3.toInt < 192) (h76_ : z75_.toInt = 192 * u.toInt) (h78_ : z77_.toInt = z75_.toInt + v4_3.toInt) : 0 ≤ z77_.toInt ∧ z77_.toInt < ((1536 : Nat) : Int) := by omega
set_option maxHeartbeats 4000000 in
set_option maxRecDepth 100000 in
theorem c_X12_findTold (l : Launch) (G : va_G) (cy : Nat → ClassId) (ad : rf → Nat) (d : Nat) (v : Int32) (u : Int32) (t : Int32) (Mz : mM) (hIz : InvD Mz) (hv : 0 ≤ v.toInt ∧ v.toInt ≤ 7) (hu : 0 ≤ u.toInt ∧ u.toInt ≤ 7) : WP DD l G cy ad yX12_findTold cX12_findTold 8 none (d + 5) 0 [(0, vR (12, 0, 0)), (1, vI v), (2, vI u), (3, vI t)] [] Mz (fun r M' => InvD M' ∧ FR (S_c_X12_findTold) Mz M' ∧ (True) ∧ SP_X12_findTold v u t Mz M') := by
  have hFz : FR (S_c_X12_findTold) Mz Mz := FR.self
  refine w_iconst (v := 0) dX12_findTold_0 (by decide) ?_
  refine w_istore (ls' := [(4, vI 0), (0, vR (12, 0, 0)), (1, vI v), (2, vI u), (3, vI t)]) dX12_findTold_1 (by decide) rfl ?_
  have lp1_ : ∀ (nn_3 : Nat) (M_3 : mM) (hI_3 : InvD M_3) (hF_3 : FR (S_c_X12_findTold) Mz M_3) (v4_3 : Int32) (hv0_3 : 0 ≤ v4_3.toInt) (hv1_3 : v4_3.toInt ≤ 192) (hL_3 : RCH (fun x_ y_ => ST_X12_findTold_3 u Mz x_.1 x_.2 y_.1 y_.2) ((0 : Int32), Mz) (v4_3, M_3)), (2147483648 - v4_3.toInt).toNat < nn_3 → WP DD l G cy ad yX12_findTold cX12_findTold 8 none (d + 5) 3 [(4, vI v4_3), (0, vR (12, 0, 0)), (1, vI v), (2, vI u), (3, vI t)] [] M_3 (fun r M' => InvD M' ∧ FR (S_c_X12_findTold) Mz M' ∧ (True) ∧ SP_X12_findTold v u t Mz M') := by
    intro nn_3
    induction nn_3 with
    | zero => intro M_3 hI_3 hF_3 v4_3 hv0_3 hv1_3 hL_3 hm_3; exact absurd hm_3 (Nat.not_lt_zero _)
    | succ nn_3 ih_3 =>
      intro M_3 hI_3 hF_3 v4_3 hv0_3 hv1_3 hL_3 hm_3
      refine w_iload dX12_findTold_3 0 rfl ?_
      refine w_sipush (v := 192) dX12_findTold_5 (by decide) ?_
      refine w_icmp_ge (tgt := 31) dX12_findTold_8 (by decide) (rfl : v4_3.toInt = v4_3.toInt) li_192 (fun h2_ => ?_) (fun h2_ => ?_)
      · refine w_aload_n dX12_findTold_31 rfl 1 rfl ?_
        refine w_iload_n dX12_findTold_32 rfl 2 rfl ?_
        refine w_putI DD_nd fl_RX12_28 rfl rfl ic_12 dX12_findTold_33 (fun M3_ hM4_ => ?_)
        have hI5_ := hI_3.put hM4_ ⟨trivial, Or.inl (by decide)⟩
        have hF6_ := hF_3.put hM4_ (Or.inl ⟨rfl, rfl, rfl⟩)
        refine w_iconst (v := 0) dX12_findTold_36 (by decide) ?_
        refine w_istore (ls' := [(4, vI 0), (0, vR (12, 0, 0)), (1, vI v), (2, vI u), (3, vI t)]) dX12_findTold_37 (by decide) rfl ?_
        have lp7_ : ∀ (nn_39 : Nat) (M_39 : mM) (hI_39 : InvD M_39) (hF_39 : FR (S_c_X12_findTold) Mz M_39) (v4_39 : Int32) (hv0_39 : 0 ≤ v4_39.toInt) (hv1_39 : v4_39.toInt ≤ 8) (hL_39 : RCH (fun x_ y_ => ST_X12_findTold_39 v u t Mz x_.1 x_.2 y_.1 y_.2) ((0 : Int32), M3_) (v4_39, M_39)), (2147483648 - v4_39.toInt).toNat < nn_39 → WP DD l G cy ad yX12_findTold cX12_findTold 8 none (d + 5) 39 [(4, vI v4_39), (0, vR (12, 0, 0)), (1, vI v), (2, vI u), (3, vI t)] [] M_39 (fun r M' => InvD M' ∧ FR (S_c_X12_findTold) Mz M' ∧ (True) ∧ SP_X12_findTold v u t Mz M') := by
          intro nn_39
          induction nn_39 with
          | zero => intro M_39 hI_39 hF_39 v4_39 hv0_39 hv1_39 hL_39 hm_39; exact absurd hm_39 (Nat.not_lt_zero _)
          | succ nn_39 ih_39 =>
            intro M_39 hI_39 hF_39 v4_39 hv0_39 hv1_39 hL_39 hm_39
            refine w_iload dX12_findTold_39 0 rfl ?_
            refine w_bipush (v := 8) dX12_findTold_41 (by decide) ?_
            refine w_icmp_ge (tgt := 134) dX12_findTold_43 (by decide) (rfl : v4_39.toInt = v4_39.toInt) li_8 (fun h8_ => ?_) (fun h8_ => ?_)
            · refine w_aload_n dX12_findTold_134 rfl 1 rfl ?_
              refine w_iconst (v := (-1)) dX12_findTold_135 (by decide) ?_
              refine w_putI DD_nd fl_RX12_28 rfl rfl ic_12 dX12_findTold_136 (fun M9_ hM10_ => ?_)
              have hI11_ := hI_39.put hM10_ ⟨trivial, Or.inl (by decide)⟩
              have hF12_ := hF_39.put hM10_ (Or.inl ⟨rfl, rfl, rfl⟩)
              exact w_vret rfl dX12_findTold_139 ⟨hI11_, hF12_, trivial, ⟨v4_3, hv0_3, hv1_3, M_3, hL_3, hI_3, hF_3, h2_, M3_, hM4_, v4_39, hv0_39, hv1_39, M_39, hL_39, hI_39, hF_39, h8_, M9_, hM10_, rfl⟩⟩
            · refine w_aload_n dX12_findTold_46 rfl 1 rfl ?_
              refine w_iload_n dX12_findTold_47 rfl 2 rfl ?_
              refine w_iload_n dX12_findTold_48 rfl 4 rfl ?_
              refine w_iload dX12_findTold_49 0 rfl ?_
              refine w_callV (as := [vI v, vI t, vI v4_39]) (rest := []) (c_X12_heardFrom l G cy ad d v t v4_39 M_39 hI_39 hv (lf_c_X7_isSide_2 v4_39 hv0_39 h8_ )) kV_X12_heardFrom pnn_17 (Nat.le_of_ble_eq_true rfl) m_1675 rfl rfl rfl ic_12 rfl rfl (by decide) (Nat.le_of_ble_eq_true rfl) dX12_findTold_51 (fun r13_ M14_ q15_ => ?_)
              obtain ⟨hI17_, hF18_, h16_, hs20_⟩ := q15_
              have hF19_ := hF_39.tr hF18_ (fun c k => (fun h => h.elim (fun h => (Or.inr (Or.inl ⟨h.1, h.2.1, h.2.2⟩))) (fun h => h.elim (fun h => (Or.inr (Or.inr (Or.inl ⟨h.1, h.2.1, h.2.2⟩)))) (fun h => h.elim (fun h => (Or.inr (Or.inr (Or.inr (Or.inl ⟨h.1, h.2.1, h.2.2⟩))))) (fun h => h.elim (fun h => (Or.inr (Or.inr (Or.inr (Or.inr (Or.inl ⟨h.1, h.2.1, h.2.2⟩)))))) (fun h => h.elim (fun h => (Or.inr (Or.inr (Or.inr (Or.inr (Or.inr (Or.inl ⟨h.1, h.2⟩))))))) (fun h => h.elim)))))))
              refine w_istore (ls' := [(5, vI r13_), (4, vI v4_39), (0, vR (12, 0, 0)), (1, vI v), (2, vI u), (3, vI t)]) dX12_findTold_54 (by decide) rfl ?_
              refine w_iconst (v := 1) dX12_findTold_56 (by decide) ?_
              refine w_istore (ls' := [(6, vI 1), (5, vI r13_), (4, vI v4_39), (0, vR (12, 0, 0)), (1, vI v), (2, vI u), (3, vI t)]) dX12_findTold_57 (by decide) rfl ?_
              have lp21_ : ∀ (nn_59 : Nat) (M_59 : mM) (hI_59 : InvD M_59) (hF_59 : FR (S_c_X12_findTold) Mz M_59) (v6_59 : Int32) (hv0_59 : 1 ≤ v6_59.toInt) (hv1_59 : v6_59.toInt ≤ 13) (hL_59 : RCH (fun x_ y_ => ST_X12_findTold_59 v u t Mz v4_39 r13_ x_.1 x_.2 y_.1 y_.2) ((1 : Int32), M14_) (v6_59, M_59)), (2147483648 - v6_59.toInt).toNat < nn_59 → WP DD l G cy ad yX12_findTold cX12_findTold 8 none (d + 5) 59 [(6, vI v6_59), (5, vI r13_), (4, vI v4_39), (0, vR (12, 0, 0)), (1, vI v), (2, vI u), (3, vI t)] [] M_59 (fun r M' => InvD M' ∧ FR (S_c_X12_findTold) Mz M' ∧ (True) ∧ SP_X12_findTold v u t Mz M') := by
                intro nn_59
                induction nn_59 with
                | zero => intro M_59 hI_59 hF_59 v6_59 hv0_59 hv1_59 hL_59 hm_59; exact absurd hm_59 (Nat.not_lt_zero _)
                | succ nn_59 ih_59 =>
                  intro M_59 hI_59 hF_59 v6_59 hv0_59 hv1_59 hL_59 hm_59
                  refine w_iload dX12_findTold_59 0 rfl ?_
                  refine w_iload dX12_findTold_61 1 rfl ?_
                  refine w_icmp_gt (tgt := 128) dX12_findTold_63 (by decide) (rfl : v6_59.toInt = v6_59.toInt) (rfl : r13_.toInt = r13_.toInt) (fun h22_ => ?_) (fun h22_ => ?_)
                  · refine w_iincB (j := 2) (f := fun z23_ => [(4, vI z23_), (6, vI v6_59), (5, vI r13_), (0, vR (12, 0, 0)), (1, vI v), (2, vI u), (3, vI t)]) dX12_findTold_128 rfl (by decide) (fun _ => rfl) (rfl : v4_39.toInt = v4_39.toInt) li_1 (lf_c_X9_isOf_0 v4_39 hv0_39 h8_ ) (fun z23_ h24_ => ?_)
                    refine w_goto (tgt := 39) dX12_findTold_131 (by decide) ?_
                    refine w_loc (ls' := [(4, vI z23_), (0, vR (12, 0, 0)), (1, vI v), (2, vI u), (3, vI t)]) [0, 3, 4, 5, 6] rfl ?_
                    exact ih_39 M_59 hI_59 hF_59 z23_ (lf_c_X5_takeFrom_3 v4_39 z23_ hv0_39 h24_ ) (lf_c_X9_isOf_2 v4_39 z23_ h8_ h24_ ) (RCH.tail hL_39 ⟨hv0_39, hv1_39, hI_39, hF_39, h8_, M14_, hI17_, hF18_, r13_, hs20_, h16_, v6_59, hv0_59, hv1_59, M_59, hL_59, hI_59, hF_59, h22_, z23_, h24_, rfl, rfl⟩) (Nat.lt_of_lt_of_le (lf_c_X9_isOf_3 v4_39 z23_ h8_ h24_ ) (Nat.le_of_lt_succ hm_39))
                  · refine w_aload_n dX12_findTold_66 rfl 3 rfl ?_
                    refine w_iload_n dX12_findTold_67 rfl 6 rfl ?_
                    refine w_iload dX12_findTold_68 2 rfl ?_
                    refine w_iload dX12_findTold_70 0 rfl ?_
                    refine w_callV (as := [vI t, vI v4_39, vI v6_59]) (rest := []) (c_X12_on l G cy ad (d + 3) t v4_39 v6_59 M_59 hI_59 (lf_c_X7_isSide_2 v4_39 hv0_39 h8_ )) kV_X12_on pnn_17 (Nat.le_of_ble_eq_true rfl) m_1632 rfl rfl rfl ic_12 rfl rfl (by decide) (Nat.le_of_ble_eq_true rfl) dX12_findTold_72 (fun r25_ M26_ q27_ => ?_)
                    obtain ⟨rfl, h28_, hs29_⟩ := q27_
                    have h30_ : 0 ≤ r25_.toInt := onP_of h28_.1 (h16_.2.2 v6_59 (lf_c_X12_findTold_6 v6_59 hv0_59 ) (lf_c_X12_findTold_7 r13_ v6_59 h22_ ))
                    refine w_istore (ls' := [(7, vI r25_), (6, vI v6_59), (5, vI r13_), (4, vI v4_39), (0, vR (12, 0, 0)), (1, vI v), (2, vI u), (3, vI t)]) dX12_findTold_75 (by decide) rfl ?_
                    refine w_aload_n dX12_findTold_77 rfl 4 rfl ?_
                    refine w_getR (c' := (60, 0, 0)) fl_RX12_53 rfl rfl ic_12 dX12_findTold_78 rfl ?_
                    refine w_sipush (v := 192) dX12_findTold_81 (by decide) ?_
                    refine w_iload_n dX12_findTold_84 rfl 6 rfl ?_
                    refine w_imulB dX12_findTold_85 li_192 (rfl : u.toInt = u.toInt) (lf_c_X12_findTold_8 u hu ) (fun z31_ h32_ => ?_)
                    refine w_iload dX12_findTold_86 0 rfl ?_
                    refine w_iaddB dX12_findTold_88 (rfl : z31_.toInt = z31_.toInt) (rfl : r25_.toInt = r25_.toInt) (lf_c_X12_findTold_9 u t v4_39 v6_59 r25_ z31_ hu h28_ h30_ h32_ ) (fun z33_ h34_ => ?_)
                    refine w_aload_n dX12_findTold_89 rfl 4 rfl ?_
                    refine w_iload_n dX12_findTold_90 rfl 5 rfl ?_
                    refine w_iload dX12_findTold_91 0 rfl ?_
                    refine w_callV (as := [vI v, vI r25_]) (rest := [vI z33_, vR (60, 0, 0)]) (c_X12_held l G cy ad (d + 2) v r25_ M_59 hI_59 hv (lf_c_X12_findTold_10 t v4_39 v6_59 r25_ h28_ h30_ )) kV_X12_held pnn_17 (Nat.le_of_ble_eq_true rfl) m_1695 rfl rfl rfl ic_12 rfl rfl (by decide) (Nat.le_of_ble_eq_true rfl) dX12_findTold_93 (fun r35_ M36_ q37_ => ?_)
                    obtain ⟨rfl, h38_, hs39_⟩ := q37_
                    refine w_if_ne (tgt := 120) dX12_findTold_96 (by decide) (rfl : r35_.toInt = r35_.toInt) (fun h40_ => ?_) (fun h40_ => ?_)
                    · refine w_iconst (v := 0) dX12_findTold_120 (by decide) ?_
                      refine w_zast DD_nd rfl rfl ic_60 (rfl : z33_.toInt = z33_.toInt) (lf_c_X12_findTold_11 u t v4_39 v6_59 r25_ z31_ z33_ hu h28_ h30_ h32_ h34_ ) dX12_findTold_121 (fun j43_ h44_ M41_ hM42_ => ?_)
                      have hI45_ := hI_59.put hM42_ ⟨trivial, Or.inr (by decide)⟩
                      have hF46_ := hF_59.put hM42_ (Or.inr (Or.inr (Or.inr (Or.inr (Or.inr (Or.inr (Or.inl ⟨rfl, rfl⟩)))))))
                      refine w_iincB (j := 1) (f := fun z47_ => [(6, vI z47_), (7, vI r25_), (5, vI r13_), (4, vI v4_39), (0, vR (12, 0, 0)), (1, vI v), (2, vI u), (3, vI t)]) dX12_findTold_122 rfl (by decide) (fun _ => rfl) (rfl : v6_59.toInt = v6_59.toInt) li_1 (lf_c_X12_echoFrom_1 v6_59 hv0_59 hv1_59 ) (fun z47_ h48_ => ?_)
                      refine w_goto (tgt := 59) dX12_findTold_125 (by decide) ?_
                      refine w_loc (ls' := [(6, vI z47_), (5, vI r13_), (4, vI v4_39), (0, vR (12, 0, 0)), (1, vI v), (2, vI u), (3, vI t)]) [0, 2, 3, 4, 5, 6, 7] rfl ?_
                      exact ih_59 M41_ hI45_ hF46_ z47_ (lf_c_X9_yardsToFull_1 v6_59 z47_ hv0_59 h48_ ) (lf_c_X12_findTold_14 t v4_39 r13_ v6_59 z47_ h16_ h22_ h48_ ) (RCH.tail hL_59 ⟨hv0_59, hv1_59, hI_59, hF_59, h22_, r25_, hs29_, h28_, h30_, z31_, h32_, z33_, h34_, r35_, hs39_, h38_, (Or.inl ⟨h40_, j43_, h44_, M41_, hM42_, z47_, h48_, rfl, rfl⟩)⟩) (Nat.lt_of_lt_of_le (lf_c_X12_findTold_15 v6_59 z47_ hv1_59 h48_ ) (Nat.le_of_lt_succ hm_59))
                    · refine w_aload_n dX12_findTold_99 rfl 4 rfl ?_
                      refine w_getR (c' := (50, 0, 0)) fl_RX12_9 rfl rfl ic_12 dX12_findTold_100 rfl ?_
                      refine w_aload_n dX12_findTold_103 rfl 4 rfl ?_
                      refine w_iload_n dX12_findTold_104 rfl 5 rfl ?_
                      refine w_iload dX12_findTold_105 0 rfl ?_
                      refine w_callV (as := [vI v, vI r25_]) (rest := [vR (50, 0, 0), vI z33_, vR (60, 0, 0)]) (c_X12_yes l G cy ad (d + 4) v r25_ M_59 hI_59 hv (lf_c_X12_findTold_10 t v4_39 v6_59 r25_ h28_ h30_ )) kV_X12_yes pnn_17 (Nat.le_of_ble_eq_true rfl) m_1683 rfl rfl rfl ic_12 rfl rfl (by decide) (Nat.le_of_ble_eq_true rfl) dX12_findTold_107 (fun r49_ M50_ q51_ => ?_)
                      obtain ⟨rfl, h52_, hs53_⟩ := q51_
                      refine w_iald rfl rfl ic_50 (rfl : r49_.toInt = r49_.toInt) (lf_c_X12_findTold_17 v t v4_39 v6_59 r25_ r49_ hv h28_ h30_ h52_ ) dX12_findTold_110 (fun j56_ h57_ z54_ e55_ => ?_)
                      refine w_bipush (v := 99) dX12_findTold_111 (by decide) ?_
                      refine w_icmp_ge (tgt := 120) dX12_findTold_113 (by decide) (rfl : z54_.toInt = z54_.toInt) li_99 (fun h58_ => ?_) (fun h58_ => ?_)
                      · refine w_iconst (v := 0) dX12_findTold_120 (by decide) ?_
                        refine w_zast DD_nd rfl rfl ic_60 (rfl : z33_.toInt = z33_.toInt) (lf_c_X12_findTold_11 u t v4_39 v6_59 r25_ z31_ z33_ hu h28_ h30_ h32_ h34_ ) dX12_findTold_121 (fun j61_ h62_ M59_ hM60_ => ?_)
                        have hI63_ := hI_59.put hM60_ ⟨trivial, Or.inr (by decide)⟩
                        have hF64_ := hF_59.put hM60_ (Or.inr (Or.inr (Or.inr (Or.inr (Or.inr (Or.inr (Or.inl ⟨rfl, rfl⟩)))))))
                        refine w_iincB (j := 1) (f := fun z65_ => [(6, vI z65_), (7, vI r25_), (5, vI r13_), (4, vI v4_39), (0, vR (12, 0, 0)), (1, vI v), (2, vI u), (3, vI t)]) dX12_findTold_122 rfl (by decide) (fun _ => rfl) (rfl : v6_59.toInt = v6_59.toInt) li_1 (lf_c_X12_echoFrom_1 v6_59 hv0_59 hv1_59 ) (fun z65_ h66_ => ?_)
                        refine w_goto (tgt := 59) dX12_findTold_125 (by decide) ?_
                        refine w_loc (ls' := [(6, vI z65_), (5, vI r13_), (4, vI v4_39), (0, vR (12, 0, 0)), (1, vI v), (2, vI u), (3, vI t)]) [0, 2, 3, 4, 5, 6, 7] rfl ?_
                        exact ih_59 M59_ hI63_ hF64_ z65_ (lf_c_X9_yardsToFull_1 v6_59 z65_ hv0_59 h66_ ) (lf_c_X12_findTold_14 t v4_39 r13_ v6_59 z65_ h16_ h22_ h66_ ) (RCH.tail hL_59 ⟨hv0_59, hv1_59, hI_59, hF_59, h22_, r25_, hs29_, h28_, h30_, z31_, h32_, z33_, h34_, r35_, hs39_, h38_, (Or.inr ⟨h40_, r49_, hs53_, h52_, j56_, h57_, z54_, e55_, (Or.inl ⟨h58_, j61_, h62_, M59_, hM60_, z65_, h66_, rfl, rfl⟩)⟩)⟩) (Nat.lt_of_lt_of_le (lf_c_X12_findTold_15 v6_59 z65_ hv1_59 h66_ ) (Nat.le_of_lt_succ hm_59))
                      · refine w_iconst (v := 1) dX12_findTold_116 (by decide) ?_
                        refine w_goto (tgt := 121) dX12_findTold_117 (by decide) ?_
                        refine w_zast DD_nd rfl rfl ic_60 (rfl : z33_.toInt = z33_.toInt) (lf_c_X12_findTold_11 u t v4_39 v6_59 r25_ z31_ z33_ hu h28_ h30_ h32_ h34_ ) dX12_findTold_121 (fun j69_ h70_ M67_ hM68_ => ?_)
                        have hI71_ := hI_59.put hM68_ ⟨trivial, Or.inr (by decide)⟩
                        have hF72_ := hF_59.put hM68_ (Or.inr (Or.inr (Or.inr (Or.inr (Or.inr (Or.inr (Or.inl ⟨rfl, rfl⟩)))))))
                        refine w_iincB (j := 1) (f := fun z73_ => [(6, vI z73_), (7, vI r25_), (5, vI r13_), (4, vI v4_39), (0, vR (12, 0, 0)), (1, vI v), (2, vI u), (3, vI t)]) dX12_findTold_122 rfl (by decide) (fun _ => rfl) (rfl : v6_59.toInt = v6_59.toInt) li_1 (lf_c_X12_echoFrom_1 v6_59 hv0_59 hv1_59 ) (fun z73_ h74_ => ?_)
                        refine w_goto (tgt := 59) dX12_findTold_125 (by decide) ?_
                        refine w_loc (ls' := [(6, vI z73_), (5, vI r13_), (4, vI v4_39), (0, vR (12, 0, 0)), (1, vI v), (2, vI u), (3, vI t)]) [0, 2, 3, 4, 5, 6, 7] rfl ?_
                        exact ih_59 M67_ hI71_ hF72_ z73_ (lf_c_X9_yardsToFull_1 v6_59 z73_ hv0_59 h74_ ) (lf_c_X12_findTold_14 t v4_39 r13_ v6_59 z73_ h16_ h22_ h74_ ) (RCH.tail hL_59 ⟨hv0_59, hv1_59, hI_59, hF_59, h22_, r25_, hs29_, h28_, h30_, z31_, h32_, z33_, h34_, r35_, hs39_, h38_, (Or.inr ⟨h40_, r49_, hs53_, h52_, j56_, h57_, z54_, e55_, (Or.inr ⟨h58_, j69_, h70_, M67_, hM68_, z73_, h74_, rfl, rfl⟩)⟩)⟩) (Nat.lt_of_lt_of_le (lf_c_X12_findTold_15 v6_59 z73_ hv1_59 h74_ ) (Nat.le_of_lt_succ hm_59))
              exact lp21_ _ M14_ hI17_ hF19_ 1 (lf_c_X9_yardsToFull_4 ) (lf_c_X12_echoFrom_9 ) RCH.refl (Nat.lt_succ_self _)
        exact lp7_ _ M3_ hI5_ hF6_ 0 (lf_c_X5_takeFrom_5 ) (lf_c_X9_isOf_5 ) RCH.refl (Nat.lt_succ_self _)
      · refine w_aload_n dX12_findTold_11 rfl 1 rfl ?_
        refine w_getR (c' := (60, 0, 0)) fl_RX12_53 rfl rfl ic_12 dX12_findTold_12 rfl ?_
        refine w_sipush (v := 192) dX12_findTold_15 (by decide) ?_
        refine w_iload_n dX12_findTold_18 rfl 3 rfl ?_
        refine w_imulB dX12_findTold_19 li_192 (rfl : u.toInt = u.toInt) (lf_c_X12_findTold_8 u hu ) (fun z75_ h76_ => ?_)
        refine w_iload dX12_findTold_20 0 rfl ?_
        refine w_iaddB dX12_findTold_22 (rfl : z75_.toInt = z75_.toInt) (rfl : v4_3.toInt = v4_3.toInt) (lf_c_X12_findTold_33 u v4_3 z75_ hu hv0_3 h2_ h76_ ) (fun z77_ h78_ => ?_)
        refine w_iconst (v := 0) dX12_findTold_23 (by decide) ?_
        refine w_zast DD_nd rfl rfl ic_60 (rfl : z77_.toInt = z77_.toInt) (lf_c_X12_findTold_34 u v4_3 z75_ z77_ hu hv0_3 h2_ h76_ h78_ ) dX12_findTold_24 (fun j81_ h82_ M79_ hM80_ => ?_)
        have hI83_ := hI_3.put hM80_ ⟨trivial, Or.inr (by decide)⟩
        have hF84_ := hF_3.put hM80_ (Or.inr (Or.inr (Or.inr (Or.inr (Or.inr (Or.inr (Or.inl ⟨rfl, rfl⟩)))))))
        refine w_iincB (j := 0) (f := fun z85_ => [(4, vI z85_), (0, vR (12, 0, 0)), (1, vI v), (2, vI u), (3, vI t)]) dX12_findTold_25 rfl (by decide) (fun _ => rfl) (rfl : v4_3.toInt = v4_3.toInt) li_1 (lf_c_X9_begin_2 v4_3 hv0_3 h2_ ) (fun z85_ h86_ => ?_)
        refine w_goto (tgt := 3) dX12_findTold_28 (by decide) ?_
        refine w_loc (ls' := [(4, vI z85_), (0, vR (12, 0, 0)), (1, vI v), (2, vI u), (3, vI t)]) [0, 1, 2, 3, 4] rfl ?_
        exact ih_3 M79_ hI83_ hF84_ z85_ (lf_c_X5_takeFrom_3 v4_3 z85_ hv0_3 h86_ ) (lf_c_X9_begin_4 v4_3 z85_ h2_ h86_ ) (RCH.tail hL_3 ⟨hv0_3, hv1_3, hI_3, hF_3, h2_, z75_, h76_, z77_, h78_, j81_, h82_, M79_, hM80_, z85_, h86_, rfl, rfl⟩) (Nat.lt_of_lt_of_le (lf_c_X9_begin_5 v4_3 z85_ h2_ h86_ ) (Nat.le_of_lt_succ hm_3))
  exact lp1_ _ Mz hIz hFz 0 (lf_c_X5_takeFrom_5 ) (lf_c_X9_begin_7 ) RCH.refl (Nat.lt_succ_self _)
def ST_X12_toldBy_17 (v : Int32) (Mz : mM) (v3_4 : Int32) (v5_17 : Int32) (v4_17 : Int32) (v5_17y : Int32) (v4_17y : Int32) : Prop := (0 ≤ v5_17.toInt) ∧ (v5_17.toInt ≤ 8) ∧ (v5_17.toInt < 8) ∧ (((¬ v4_17.toInt = 0) ∧ ∃ z15_ : Int32, (z15_.toInt = v5_17.toInt + 1) ∧ v5_17y = z15_ ∧ v4_17y = 1) ∨ ((v4_17.toInt = 0) ∧ ∃ z17_ : Int32, (z17_ = v >>> (v5_17 &&& 31)) ∧ ∃ z19_ : Int32, (z19_ = z17_ &&& (1 : Int32)) ∧ (0 ≤ z19_.toInt ∧ z19_.toInt < ((2 ^ 1 : Nat) : Int)) ∧ (((¬ z19_.toInt = 1) ∧ ∃ z23_ : Int32, (z23_.toInt = v5_17.toInt + 1) ∧ v5_17y = z23_ ∧ v4_17y = 0) ∨ ((z19_.toInt = 1) ∧ ∃ z25_ : Int32, (z25_.toInt = 192 * v5_17.toInt) ∧ ∃ z27_ : Int32, (z27_.toInt = z25_.toInt + v3_4.toInt) ∧ ∃ j31_ : Nat, ((j31_ : Int) = z27_.toInt) ∧ ∃ z29_ : Int32, (z29_ = Mz.1 (60, 0, 0) j31_) ∧ (((z29_.toInt = 0) ∧ ∃ z34_ : Int32, (z34_.toInt = v5_17.toInt + 1) ∧ v5_17y = z34_ ∧ v4_17y = 0) ∨ ((¬ z29_.toInt = 0) ∧ ∃ z36_ : Int32, (z36_.toInt = v5_17.toInt + 1) ∧ v5_17y = z36_ ∧ v4_17y = 1))))))
def ST_X12_toldBy_4 (v : Int32) (Mz : mM) (v3_4 : Int32) (v2_4 : Int32) (v3_4y : Int32) (v2_4y : Int32) : Prop := (0 ≤ v3_4.toInt) ∧ (v3_4.toInt ≤ 192) ∧ (v3_4.toInt < 192) ∧ ∃ v5_17 : Int32, (0 ≤ v5_17.toInt) ∧ (v5_17.toInt ≤ 8) ∧ ∃ v4_17 : Int32, (RCH (fun x_ y_ => ST_X12_toldBy_17 v Mz v3_4 x_.1 x_.2 y_.1 y_.2) ((0 : Int32), (0 : Int32)) (v5_17, v4_17)) ∧ (8 ≤ v5_17.toInt) ∧ (((v4_17.toInt = 0) ∧ ∃ z6_ : Int32, (z6_ = v2_4 + (0 : Int32)) ∧ ∃ z8_ : Int32, (z8_.toInt = v3_4.toInt + 1) ∧ v3_4y = z8_ ∧ v2_4y = z6_) ∨ ((¬ v4_17.toInt = 0) ∧ ∃ z10_ : Int32, (z10_ = v2_4 + (1 : Int32)) ∧ ∃ z12_ : Int32, (z12_.toInt = v3_4.toInt + 1) ∧ v3_4y = z12_ ∧ v2_4y = z10_))
def SP_X12_toldBy (v : Int32) (Mz : mM) (r_ : Int32) : Prop := ∃ v3_4 : Int32, (0 ≤ v3_4.toInt) ∧ (v3_4.toInt ≤ 192) ∧ ∃ v2_4 : Int32, (RCH (fun x_ y_ => ST_X12_toldBy_4 v Mz x_.1 x_.2 y_.1 y_.2) ((0 : Int32), (0 : Int32)) (v3_4, v2_4)) ∧ (192 ≤ v3_4.toInt) ∧ r_ = v2_4
theorem lf_c_X12_toldBy_9 (v5_17 : Int32) (z15_ : Int32) (hv0_17 : 0 ≤ v5_17.toInt) (h16_ : z15_.toInt = v5_17.toInt + 1) : 0 ≤ z15_.toInt := by have q0 := li_1; omega
theorem lf_c_X12_toldBy_10 (v5_17 : Int32) (z15_ : Int32) (h4_ : v5_17.toInt < 8) (h16_ : z15_.toInt = v5_17.toInt + 1) : z15_.toInt ≤ 8 := by have q0 := li_1; omega
theorem lf_c_X12_toldBy_11 (v5_17 : Int32) (z15_ : Int32) (h4_ : v5_17.toInt < 8) (h16_ : z15_.toInt = v5_17.toInt + 1) : (2147483648 - z15_.toInt).toNat < (2147483648 - v5_17.toInt).toNat := by have q0 := li_1; omega
theorem lf_c_X12_toldBy_13 (v5_17 : Int32) (z23_ : Int32) (hv0_17 : 0 ≤ v5_17.toInt) (h24_ : z23_.toInt = v5_17.toInt + 1) : 0 ≤ z23_.toInt := by have q0 := li_0; omega
theorem lf_c_X12_toldBy_14 (v5_17 : Int32) (z23_ : Int32) (h4_ : v5_17.toInt < 8) (h24_ : z23_.toInt = v5_17.toInt + 1) : z23_.toInt ≤ 8 := by have q0 := li_0; omega
theorem lf_c_X12_toldBy_15 (v5_17 : Int32) (z23_ : Int32) (h4_ : v5_17.toInt < 8) (h24_ : z23_.toInt = v5_17.toInt + 1) : (2147483648 - z23_.toInt).toNat < (2147483648 - v5_17.toInt).toNat := by have q0 := li_0; omega
theorem lf_c_X12_toldBy_16 (v5_17 : Int32) (hv0_17 : 0 ≤ v5_17.toInt) (h4_ : v5_17.toInt < 8) : -2147483648 ≤ 192 * v5_17.toInt ∧ 192 * v5_17.toInt < 2147483648 := by omega
theorem lf_c_X12_toldBy_17 (v3_4 : Int32) (v5_17 : Int32) (z25_ : Int32) (hv0_4 : 0 ≤ v3_4.toInt) (h2_ : v3_4.toInt < 192) (hv0_17 : 0 ≤ v5_17.toInt) (h4_ : v5_17.toInt < 8) (h26_ : z25_.toInt = 192 * v5_17.toInt) : -2147483648 ≤ z25_.toInt + v3_4.toInt ∧ z25_.toInt + v3_4.toInt < 2147483648 := by omega
theorem lf_c_X12_toldBy_18 (v3_4 : Int32) (v5_17 : Int32) (z25_ : Int32) (z27_ : Int32) (hv0_4 : 0 ≤ v3_4.toInt) (h2_ : v3_4.toInt < 192) (hv0_17 : 0 ≤ v5_17.toInt) (h4_ : v5_17.toInt < 8) (h26_ : z25_.toInt = 192 * v5_17.toInt) (h28_ : z27_.toInt = z25_.toInt + v3_4.toInt) : 0 ≤ z27_.toInt ∧ z27_.toInt < ((1536 : Nat) : Int) := by omega
theorem lf_c_X12_toldBy_19 (v5_17 : Int32) (z25_ : Int32) (h26_ : z25_.toInt = 192 * v5_17.toInt) : -2147483648 ≤ v5_17.toInt + 1 ∧ v5_17.toInt + 1 < 2147483648 := by have r_z25_ := rngI z25_; omega
theorem lf_c_X12_toldBy_22 (v5_17 : Int32) (z25_ : Int32) (z34_ : Int32) (h26_ : z25_.toInt = 192 * v5_17.toInt) (h35_ : z34_.toInt = v5_17.toInt + 1) : (2147483648 - z34_.toInt).toNat < (2147483648 - v5_17.toInt).toNat := by have r_z25_ := rngI z25_; have q0 := li_0; omega
theorem lf_c_X12_toldBy_26 (v5_17 : Int32) (z25_ : Int32) (z36_ : Int32) (h26_ : z25_.toInt = 192 * v5_17.toInt) (h37_ : z36_.toInt = v5_17.toInt + 1) : (2147483648 - z36_.toInt).toNat < (2147483648 - v5_17.toInt).toNat := by have r_z25_ := rngI z25_; have q0 := li_1; omega
set_option maxHeartbeats 4000000 in
set_option maxRecDepth 100000 in
theorem c_X12_toldBy (l : Launch) (G : va_G) (cy : Nat → ClassId) (ad : rf → Nat) (d : Nat) (v : Int32) (Mz : mM) (hIz : InvD Mz) : WP DD l G cy ad yX12_toldBy cX12_toldBy 6 (some .int) d 0 [(0, vR (12, 0, 0)), (1, vI v)] [] Mz (fun r M' => Mz = M' ∧ (True) ∧ SP_X12_toldBy v Mz r) := by
  refine w_iconst (v := 0) dX12_toldBy_0 (by decide) ?_
  refine w_istore_n (ls' := [(2, vI 0), (0, vR (12, 0, 0)), (1, vI v)]) dX12_toldBy_1 rfl (by decide) rfl ?_
  refine w_iconst (v := 0) dX12_toldBy_2 (by decide) ?_
  refine w_istore_n (ls' := [(3, vI 0), (2, vI 0), (0, vR (12, 0, 0)), (1, vI v)]) dX12_toldBy_3 rfl (by decide) rfl ?_
  have lp1_ : ∀ (nn_4 : Nat) (v3_4 : Int32) (v2_4 : Int32) (hv0_4 : 0 ≤ v3_4.toInt) (hv1_4 : v3_4.toInt ≤ 192) (hL_4 : RCH (fun x_ y_ => ST_X12_toldBy_4 v Mz x_.1 x_.2 y_.1 y_.2) ((0 : Int32), (0 : Int32)) (v3_4, v2_4)), (2147483648 - v3_4.toInt).toNat < nn_4 → WP DD l G cy ad yX12_toldBy cX12_toldBy 6 (some .int) d 4 [(3, vI v3_4), (2, vI v2_4), (0, vR (12, 0, 0)), (1, vI v)] [] Mz (fun r M' => Mz = M' ∧ (True) ∧ SP_X12_toldBy v Mz r) := by
    intro nn_4
    induction nn_4 with
    | zero => intro v3_4 v2_4 hv0_4 hv1_4 hL_4 hm_4; exact absurd hm_4 (Nat.not_lt_zero _)
    | succ nn_4 ih_4 =>
      intro v3_4 v2_4 hv0_4 hv1_4 hL_4 hm_4
      refine w_iload_n dX12_toldBy_4 rfl 0 rfl ?_
      refine w_sipush (v := 192) dX12_toldBy_5 (by decide) ?_
      refine w_icmp_ge (tgt := 87) dX12_toldBy_8 (by decide) (rfl : v3_4.toInt = v3_4.toInt) li_192 (fun h2_ => ?_) (fun h2_ => ?_)
      · refine w_iload_n dX12_toldBy_87 rfl 1 rfl ?_
        exact w_iret rfl dX12_toldBy_88 ⟨rfl, trivial, ⟨v3_4, hv0_4, hv1_4, v2_4, hL_4, h2_, rfl⟩⟩
      · refine w_iconst (v := 0) dX12_toldBy_11 (by decide) ?_
        refine w_istore (ls' := [(4, vI 0), (3, vI v3_4), (2, vI v2_4), (0, vR (12, 0, 0)), (1, vI v)]) dX12_toldBy_12 (by decide) rfl ?_
        refine w_iconst (v := 0) dX12_toldBy_14 (by decide) ?_
        refine w_istore (ls' := [(5, vI 0), (4, vI 0), (3, vI v3_4), (2, vI v2_4), (0, vR (12, 0, 0)), (1, vI v)]) dX12_toldBy_15 (by decide) rfl ?_
        have lp3_ : ∀ (nn_17 : Nat) (v5_17 : Int32) (v4_17 : Int32) (hv0_17 : 0 ≤ v5_17.toInt) (hv1_17 : v5_17.toInt ≤ 8) (hL_17 : RCH (fun x_ y_ => ST_X12_toldBy_17 v Mz v3_4 x_.1 x_.2 y_.1 y_.2) ((0 : Int32), (0 : Int32)) (v5_17, v4_17)), (2147483648 - v5_17.toInt).toNat < nn_17 → WP DD l G cy ad yX12_toldBy cX12_toldBy 6 (some .int) d 17 [(5, vI v5_17), (4, vI v4_17), (3, vI v3_4), (2, vI v2_4), (0, vR (12, 0, 0)), (1, vI v)] [] Mz (fun r M' => Mz = M' ∧ (True) ∧ SP_X12_toldBy v Mz r) := by
          intro nn_17
          induction nn_17 with
          | zero => intro v5_17 v4_17 hv0_17 hv1_17 hL_17 hm_17; exact absurd hm_17 (Nat.not_lt_zero _)
          | succ nn_17 ih_17 =>
            intro v5_17 v4_17 hv0_17 hv1_17 hL_17 hm_17
            refine w_iload dX12_toldBy_17 0 rfl ?_
            refine w_bipush (v := 8) dX12_toldBy_19 (by decide) ?_
            refine w_icmp_ge (tgt := 68) dX12_toldBy_21 (by decide) (rfl : v5_17.toInt = v5_17.toInt) li_8 (fun h4_ => ?_) (fun h4_ => ?_)
            · refine w_iload_n dX12_toldBy_68 rfl 3 rfl ?_
              refine w_iload dX12_toldBy_69 1 rfl ?_
              refine w_if_eq (tgt := 78) dX12_toldBy_71 (by decide) (rfl : v4_17.toInt = v4_17.toInt) (fun h5_ => ?_) (fun h5_ => ?_)
              · refine w_iconst (v := 0) dX12_toldBy_78 (by decide) ?_
                refine w_iadd dX12_toldBy_79 (fun z6_ h7_ => ?_)
                refine w_istore_n (ls' := [(2, vI z6_), (5, vI v5_17), (4, vI v4_17), (3, vI v3_4), (0, vR (12, 0, 0)), (1, vI v)]) dX12_toldBy_80 rfl (by decide) rfl ?_
                refine w_iincB (j := 3) (f := fun z8_ => [(3, vI z8_), (2, vI z6_), (5, vI v5_17), (4, vI v4_17), (0, vR (12, 0, 0)), (1, vI v)]) dX12_toldBy_81 rfl (by decide) (fun _ => rfl) (rfl : v3_4.toInt = v3_4.toInt) li_1 (lf_c_X9_begin_2 v3_4 hv0_4 h2_ ) (fun z8_ h9_ => ?_)
                refine w_goto (tgt := 4) dX12_toldBy_84 (by decide) ?_
                refine w_loc (ls' := [(3, vI z8_), (2, vI z6_), (0, vR (12, 0, 0)), (1, vI v)]) [0, 1, 4, 5] rfl ?_
                exact ih_4 z8_ z6_ (lf_c_X5_takeFrom_3 v3_4 z8_ hv0_4 h9_ ) (lf_c_X9_begin_4 v3_4 z8_ h2_ h9_ ) (RCH.tail hL_4 ⟨hv0_4, hv1_4, h2_, v5_17, hv0_17, hv1_17, v4_17, hL_17, h4_, (Or.inl ⟨h5_, z6_, h7_, z8_, h9_, rfl, rfl⟩)⟩) (Nat.lt_of_lt_of_le (lf_c_X9_begin_5 v3_4 z8_ h2_ h9_ ) (Nat.le_of_lt_succ hm_4))
              · refine w_iconst (v := 1) dX12_toldBy_74 (by decide) ?_
                refine w_goto (tgt := 79) dX12_toldBy_75 (by decide) ?_
                refine w_iadd dX12_toldBy_79 (fun z10_ h11_ => ?_)
                refine w_istore_n (ls' := [(2, vI z10_), (5, vI v5_17), (4, vI v4_17), (3, vI v3_4), (0, vR (12, 0, 0)), (1, vI v)]) dX12_toldBy_80 rfl (by decide) rfl ?_
                refine w_iincB (j := 3) (f := fun z12_ => [(3, vI z12_), (2, vI z10_), (5, vI v5_17), (4, vI v4_17), (0, vR (12, 0, 0)), (1, vI v)]) dX12_toldBy_81 rfl (by decide) (fun _ => rfl) (rfl : v3_4.toInt = v3_4.toInt) li_1 (lf_c_X9_begin_2 v3_4 hv0_4 h2_ ) (fun z12_ h13_ => ?_)
                refine w_goto (tgt := 4) dX12_toldBy_84 (by decide) ?_
                refine w_loc (ls' := [(3, vI z12_), (2, vI z10_), (0, vR (12, 0, 0)), (1, vI v)]) [0, 1, 4, 5] rfl ?_
                exact ih_4 z12_ z10_ (lf_c_X5_takeFrom_3 v3_4 z12_ hv0_4 h13_ ) (lf_c_X9_begin_4 v3_4 z12_ h2_ h13_ ) (RCH.tail hL_4 ⟨hv0_4, hv1_4, h2_, v5_17, hv0_17, hv1_17, v4_17, hL_17, h4_, (Or.inr ⟨h5_, z10_, h11_, z12_, h13_, rfl, rfl⟩)⟩) (Nat.lt_of_lt_of_le (lf_c_X9_begin_5 v3_4 z12_ h2_ h13_ ) (Nat.le_of_lt_succ hm_4))
            · refine w_iload dX12_toldBy_24 1 rfl ?_
              refine w_if_ne (tgt := 55) dX12_toldBy_26 (by decide) (rfl : v4_17.toInt = v4_17.toInt) (fun h14_ => ?_) (fun h14_ => ?_)
              · refine w_iconst (v := 1) dX12_toldBy_55 (by decide) ?_
                refine w_goto (tgt := 60) dX12_toldBy_56 (by decide) ?_
                refine w_istore (ls' := [(4, vI 1), (5, vI v5_17), (3, vI v3_4), (2, vI v2_4), (0, vR (12, 0, 0)), (1, vI v)]) dX12_toldBy_60 (by decide) rfl ?_
                refine w_iincB (j := 1) (f := fun z15_ => [(5, vI z15_), (4, vI 1), (3, vI v3_4), (2, vI v2_4), (0, vR (12, 0, 0)), (1, vI v)]) dX12_toldBy_62 rfl (by decide) (fun _ => rfl) (rfl : v5_17.toInt = v5_17.toInt) li_1 (lf_c_X9_isOf_0 v5_17 hv0_17 h4_ ) (fun z15_ h16_ => ?_)
                refine w_goto (tgt := 17) dX12_toldBy_65 (by decide) ?_
                refine w_loc (ls' := [(5, vI z15_), (4, vI 1), (3, vI v3_4), (2, vI v2_4), (0, vR (12, 0, 0)), (1, vI v)]) [0, 1, 2, 3, 4, 5] rfl ?_
                exact ih_17 z15_ 1 (lf_c_X12_toldBy_9 v5_17 z15_ hv0_17 h16_ ) (lf_c_X12_toldBy_10 v5_17 z15_ h4_ h16_ ) (RCH.tail hL_17 ⟨hv0_17, hv1_17, h4_, (Or.inl ⟨h14_, z15_, h16_, rfl, rfl⟩)⟩) (Nat.lt_of_lt_of_le (lf_c_X12_toldBy_11 v5_17 z15_ h4_ h16_ ) (Nat.le_of_lt_succ hm_17))
              · refine w_iload_n dX12_toldBy_29 rfl 5 rfl ?_
                refine w_iload dX12_toldBy_30 0 rfl ?_
                refine w_ishr dX12_toldBy_32 (fun z17_ h18_ => ?_)
                refine w_iconst (v := 1) dX12_toldBy_33 (by decide) ?_
                refine w_iand dX12_toldBy_34 (fun z19_ h21_ => ?_)
                have h20_ : 0 ≤ z19_.toInt ∧ z19_.toInt < ((2 ^ 1 : Nat) : Int) := by rw [h21_]; exact andI _ 1 (by decide) (by decide)
                refine w_iconst (v := 1) dX12_toldBy_35 (by decide) ?_
                refine w_icmp_ne (tgt := 59) dX12_toldBy_36 (by decide) (rfl : z19_.toInt = z19_.toInt) li_1 (fun h22_ => ?_) (fun h22_ => ?_)
                · refine w_iconst (v := 0) dX12_toldBy_59 (by decide) ?_
                  refine w_istore (ls' := [(4, vI 0), (5, vI v5_17), (3, vI v3_4), (2, vI v2_4), (0, vR (12, 0, 0)), (1, vI v)]) dX12_toldBy_60 (by decide) rfl ?_
                  refine w_iincB (j := 1) (f := fun z23_ => [(5, vI z23_), (4, vI 0), (3, vI v3_4), (2, vI v2_4), (0, vR (12, 0, 0)), (1, vI v)]) dX12_toldBy_62 rfl (by decide) (fun _ => rfl) (rfl : v5_17.toInt = v5_17.toInt) li_1 (lf_c_X9_isOf_0 v5_17 hv0_17 h4_ ) (fun z23_ h24_ => ?_)
                  refine w_goto (tgt := 17) dX12_toldBy_65 (by decide) ?_
                  refine w_loc (ls' := [(5, vI z23_), (4, vI 0), (3, vI v3_4), (2, vI v2_4), (0, vR (12, 0, 0)), (1, vI v)]) [0, 1, 2, 3, 4, 5] rfl ?_
                  exact ih_17 z23_ 0 (lf_c_X12_toldBy_13 v5_17 z23_ hv0_17 h24_ ) (lf_c_X12_toldBy_14 v5_17 z23_ h4_ h24_ ) (RCH.tail hL_17 ⟨hv0_17, hv1_17, h4_, (Or.inr ⟨h14_, z17_, h18_, z19_, h21_, h20_, (Or.inl ⟨h22_, z23_, h24_, rfl, rfl⟩)⟩)⟩) (Nat.lt_of_lt_of_le (lf_c_X12_toldBy_15 v5_17 z23_ h4_ h24_ ) (Nat.le_of_lt_succ hm_17))
                · refine w_aload_n dX12_toldBy_39 rfl 4 rfl ?_
                  refine w_getR (c' := (60, 0, 0)) fl_RX12_53 rfl rfl ic_12 dX12_toldBy_40 rfl ?_
                  refine w_sipush (v := 192) dX12_toldBy_43 (by decide) ?_
                  refine w_iload dX12_toldBy_46 0 rfl ?_
                  refine w_imulB dX12_toldBy_48 li_192 (rfl : v5_17.toInt = v5_17.toInt) (lf_c_X12_toldBy_16 v5_17 hv0_17 h4_ ) (fun z25_ h26_ => ?_)
                  refine w_iload_n dX12_toldBy_49 rfl 2 rfl ?_
                  refine w_iaddB dX12_toldBy_50 (rfl : z25_.toInt = z25_.toInt) (rfl : v3_4.toInt = v3_4.toInt) (lf_c_X12_toldBy_17 v3_4 v5_17 z25_ hv0_4 h2_ hv0_17 h4_ h26_ ) (fun z27_ h28_ => ?_)
                  refine w_zald rfl rfl ic_60 (rfl : z27_.toInt = z27_.toInt) (lf_c_X12_toldBy_18 v3_4 v5_17 z25_ z27_ hv0_4 h2_ hv0_17 h4_ h26_ h28_ ) dX12_toldBy_51 (fun j31_ h32_ z29_ e30_ => ?_)
                  refine w_if_eq (tgt := 59) dX12_toldBy_52 (by decide) (rfl : z29_.toInt = z29_.toInt) (fun h33_ => ?_) (fun h33_ => ?_)
                  · refine w_iconst (v := 0) dX12_toldBy_59 (by decide) ?_
                    refine w_istore (ls' := [(4, vI 0), (5, vI v5_17), (3, vI v3_4), (2, vI v2_4), (0, vR (12, 0, 0)), (1, vI v)]) dX12_toldBy_60 (by decide) rfl ?_
                    refine w_iincB (j := 1) (f := fun z34_ => [(5, vI z34_), (4, vI 0), (3, vI v3_4), (2, vI v2_4), (0, vR (12, 0, 0)), (1, vI v)]) dX12_toldBy_62 rfl (by decide) (fun _ => rfl) (rfl : v5_17.toInt = v5_17.toInt) li_1 (lf_c_X12_toldBy_19 v5_17 z25_ h26_ ) (fun z34_ h35_ => ?_)
                    refine w_goto (tgt := 17) dX12_toldBy_65 (by decide) ?_
                    refine w_loc (ls' := [(5, vI z34_), (4, vI 0), (3, vI v3_4), (2, vI v2_4), (0, vR (12, 0, 0)), (1, vI v)]) [0, 1, 2, 3, 4, 5] rfl ?_
                    exact ih_17 z34_ 0 (lf_c_X12_toldBy_13 v5_17 z34_ hv0_17 h35_ ) (lf_c_X12_toldBy_14 v5_17 z34_ h4_ h35_ ) (RCH.tail hL_17 ⟨hv0_17, hv1_17, h4_, (Or.inr ⟨h14_, z17_, h18_, z19_, h21_, h20_, (Or.inr ⟨h22_, z25_, h26_, z27_, h28_, j31_, h32_, z29_, e30_, (Or.inl ⟨h33_, z34_, h35_, rfl, rfl⟩)⟩)⟩)⟩) (Nat.lt_of_lt_of_le (lf_c_X12_toldBy_22 v5_17 z25_ z34_ h26_ h35_ ) (Nat.le_of_lt_succ hm_17))
                  · refine w_iconst (v := 1) dX12_toldBy_55 (by decide) ?_
                    refine w_goto (tgt := 60) dX12_toldBy_56 (by decide) ?_
                    refine w_istore (ls' := [(4, vI 1), (5, vI v5_17), (3, vI v3_4), (2, vI v2_4), (0, vR (12, 0, 0)), (1, vI v)]) dX12_toldBy_60 (by decide) rfl ?_
                    refine w_iincB (j := 1) (f := fun z36_ => [(5, vI z36_), (4, vI 1), (3, vI v3_4), (2, vI v2_4), (0, vR (12, 0, 0)), (1, vI v)]) dX12_toldBy_62 rfl (by decide) (fun _ => rfl) (rfl : v5_17.toInt = v5_17.toInt) li_1 (lf_c_X12_toldBy_19 v5_17 z25_ h26_ ) (fun z36_ h37_ => ?_)
                    refine w_goto (tgt := 17) dX12_toldBy_65 (by decide) ?_
                    refine w_loc (ls' := [(5, vI z36_), (4, vI 1), (3, vI v3_4), (2, vI v2_4), (0, vR (12, 0, 0)), (1, vI v)]) [0, 1, 2, 3, 4, 5] rfl ?_
                    exact ih_17 z36_ 1 (lf_c_X12_toldBy_9 v5_17 z36_ hv0_17 h37_ ) (lf_c_X12_toldBy_10 v5_17 z36_ h4_ h37_ ) (RCH.tail hL_17 ⟨hv0_17, hv1_17, h4_, (Or.inr ⟨h14_, z17_, h18_, z19_, h21_, h20_, (Or.inr ⟨h22_, z25_, h26_, z27_, h28_, j31_, h32_, z29_, e30_, (Or.inr ⟨h33_, z36_, h37_, rfl, rfl⟩)⟩)⟩)⟩) (Nat.lt_of_lt_of_le (lf_c_X12_toldBy_26 v5_17 z25_ z36_ h26_ h37_ ) (Nat.le_of_lt_succ hm_17))
        exact lp3_ _ 0 0 (lf_c_X5_takeFrom_5 ) (lf_c_X9_isOf_5 ) RCH.refl (Nat.lt_succ_self _)
  exact lp1_ _ 0 0 (lf_c_X5_takeFrom_5 ) (lf_c_X9_begin_7 ) RCH.refl (Nat.lt_succ_self _)
def ST_X12_areCells_50 (v : Int32) (u : Int32) (Mz : mM) (v4_16 : Int32) (v5_50 : Int32) (v3_50 : Int32) (v5_50y : Int32) (v3_50y : Int32) : Prop := (0 ≤ v5_50.toInt) ∧ (v5_50.toInt ≤ v4_16.toInt) ∧ (0 ≤ v3_50.toInt ∧ v3_50.toInt ≤ 1) ∧ (v5_50.toInt < v4_16.toInt) ∧ (((v3_50.toInt = 0) ∧ ∃ z38_ : Int32, (z38_.toInt = v5_50.toInt + 1) ∧ v5_50y = z38_ ∧ v3_50y = 0) ∨ ((¬ v3_50.toInt = 0) ∧ (((u.toInt = 0) ∧ ∃ z41_ : Int32, (z41_.toInt = v5_50.toInt + 1) ∧ v5_50y = z41_ ∧ v3_50y = 1) ∨ ((¬ u.toInt = 0) ∧ ∃ z43_ : Int32, (z43_.toInt = 24 * v.toInt) ∧ ∃ z45_ : Int32, (z45_.toInt = z43_.toInt + v5_50.toInt) ∧ ∃ j49_ : Nat, ((j49_ : Int) = z45_.toInt) ∧ ∃ z47_ : Int32, (z47_ = Mz.1 (68, 0, 0) j49_) ∧ ∃ z51_ : Int32, (z51_.toInt = 24 * v.toInt) ∧ ∃ z53_ : Int32, (z53_.toInt = z51_.toInt + v4_16.toInt) ∧ ∃ j57_ : Nat, ((j57_ : Int) = z53_.toInt) ∧ ∃ z55_ : Int32, (z55_ = Mz.1 (68, 0, 0) j57_) ∧ (((z47_.toInt = z55_.toInt) ∧ ∃ z60_ : Int32, (z60_.toInt = v5_50.toInt + 1) ∧ v5_50y = z60_ ∧ v3_50y = 0) ∨ ((¬ z47_.toInt = z55_.toInt) ∧ ∃ z62_ : Int32, (z62_.toInt = v5_50.toInt + 1) ∧ v5_50y = z62_ ∧ v3_50y = 1))))))
def ST_X12_areCells_50b (v : Int32) (u : Int32) (Mz : mM) (v4_16 : Int32) (v5_50 : Int32) (v3_50 : Int32) (v5_50y : Int32) (v3_50y : Int32) : Prop := (0 ≤ v5_50.toInt) ∧ (v5_50.toInt ≤ v4_16.toInt) ∧ (0 ≤ v3_50.toInt ∧ v3_50.toInt ≤ 1) ∧ (v5_50.toInt < v4_16.toInt) ∧ (((v3_50.toInt = 0) ∧ ∃ z69_ : Int32, (z69_.toInt = v5_50.toInt + 1) ∧ v5_50y = z69_ ∧ v3_50y = 0) ∨ ((¬ v3_50.toInt = 0) ∧ (((u.toInt = 0) ∧ ∃ z72_ : Int32, (z72_.toInt = v5_50.toInt + 1) ∧ v5_50y = z72_ ∧ v3_50y = 1) ∨ ((¬ u.toInt = 0) ∧ ∃ z74_ : Int32, (z74_.toInt = 24 * v.toInt) ∧ ∃ z76_ : Int32, (z76_.toInt = z74_.toInt + v5_50.toInt) ∧ ∃ j80_ : Nat, ((j80_ : Int) = z76_.toInt) ∧ ∃ z78_ : Int32, (z78_ = Mz.1 (68, 0, 0) j80_) ∧ ∃ z82_ : Int32, (z82_.toInt = 24 * v.toInt) ∧ ∃ z84_ : Int32, (z84_.toInt = z82_.toInt + v4_16.toInt) ∧ ∃ j88_ : Nat, ((j88_ : Int) = z84_.toInt) ∧ ∃ z86_ : Int32, (z86_ = Mz.1 (68, 0, 0) j88_) ∧ (((z78_.toInt = z86_.toInt) ∧ ∃ z91_ : Int32, (z91_.toInt = v5_50.toInt + 1) ∧ v5_50y = z91_ ∧ v3_50y = 0) ∨ ((¬ z78_.toInt = z86_.toInt) ∧ ∃ z93_ : Int32, (z93_.toInt = v5_50.toInt + 1) ∧ v5_50y = z93_ ∧ v3_50y = 1))))))
def ST_X12_areCells_16 (v : Int32) (u : Int32) (Mz : mM) (v4_16 : Int32) (v3_16 : Int32) (v4_16y : Int32) (v3_16y : Int32) : Prop := (0 ≤ v4_16.toInt) ∧ (v4_16.toInt ≤ 24) ∧ (0 ≤ v3_16.toInt ∧ v3_16.toInt ≤ 1) ∧ (v3_16.toInt = 0 ∨ SZ (Mz.1 (67, 0, 0)) v 8) ∧ ∃ j14_ : Nat, ((j14_ : Int) = v.toInt) ∧ ∃ z12_ : Int32, (z12_ = Mz.1 (67, 0, 0) j14_) ∧ (0 ≤ z12_.toInt ∧ z12_.toInt ≤ 24) ∧ (v4_16.toInt < z12_.toInt) ∧ (¬ v3_16.toInt = 0) ∧ (SZ (Mz.1 (67, 0, 0)) v 8) ∧ ∃ z20_ : Int32, (z20_.toInt = 24 * v.toInt) ∧ ∃ z22_ : Int32, (z22_.toInt = z20_.toInt + v4_16.toInt) ∧ ∃ j26_ : Nat, ((j26_ : Int) = z22_.toInt) ∧ ∃ z24_ : Int32, (z24_ = Mz.1 (68, 0, 0) j26_) ∧ (((SP_X12_isCell z24_ Mz (1 : Int32)) ∧ (0 ≤ z24_.toInt ∧ z24_.toInt ≤ 191) ∧ ∃ v5_50 : Int32, (0 ≤ v5_50.toInt) ∧ (v5_50.toInt ≤ v4_16.toInt) ∧ ∃ v3_50 : Int32, (0 ≤ v3_50.toInt ∧ v3_50.toInt ≤ 1) ∧ (RCH (fun x_ y_ => ST_X12_areCells_50 v u Mz v4_16 x_.1 x_.2 y_.1 y_.2) ((0 : Int32), (1 : Int32)) (v5_50, v3_50)) ∧ (v4_16.toInt ≤ v5_50.toInt) ∧ ∃ z35_ : Int32, (z35_.toInt = v4_16.toInt + 1) ∧ v4_16y = z35_ ∧ v3_16y = v3_50) ∨ ((SP_X12_isCell z24_ Mz (0 : Int32)) ∧ (¬ (0 ≤ z24_.toInt ∧ z24_.toInt ≤ 191)) ∧ ∃ v5_50 : Int32, (0 ≤ v5_50.toInt) ∧ (v5_50.toInt ≤ v4_16.toInt) ∧ ∃ v3_50 : Int32, (0 ≤ v3_50.toInt ∧ v3_50.toInt ≤ 1) ∧ (RCH (fun x_ y_ => ST_X12_areCells_50b v u Mz v4_16 x_.1 x_.2 y_.1 y_.2) ((0 : Int32), (0 : Int32)) (v5_50, v3_50)) ∧ (v4_16.toInt ≤ v5_50.toInt) ∧ ∃ z66_ : Int32, (z66_.toInt = v4_16.toInt + 1) ∧ v4_16y = z66_ ∧ v3_16y = v3_50))
def ST_X12_areCells_50c (v : Int32) (u : Int32) (Mz : mM) (v4_16 : Int32) (v5_50 : Int32) (v3_50 : Int32) (v5_50y : Int32) (v3_50y : Int32) : Prop := (0 ≤ v5_50.toInt) ∧ (v5_50.toInt ≤ v4_16.toInt) ∧ (0 ≤ v3_50.toInt ∧ v3_50.toInt ≤ 1) ∧ (v5_50.toInt < v4_16.toInt) ∧ (((v3_50.toInt = 0) ∧ ∃ z122_ : Int32, (z122_.toInt = v5_50.toInt + 1) ∧ v5_50y = z122_ ∧ v3_50y = 0) ∨ ((¬ v3_50.toInt = 0) ∧ (((u.toInt = 0) ∧ ∃ z125_ : Int32, (z125_.toInt = v5_50.toInt + 1) ∧ v5_50y = z125_ ∧ v3_50y = 1) ∨ ((¬ u.toInt = 0) ∧ ∃ z127_ : Int32, (z127_.toInt = 24 * v.toInt) ∧ ∃ z129_ : Int32, (z129_.toInt = z127_.toInt + v5_50.toInt) ∧ ∃ j133_ : Nat, ((j133_ : Int) = z129_.toInt) ∧ ∃ z131_ : Int32, (z131_ = Mz.1 (68, 0, 0) j133_) ∧ ∃ z135_ : Int32, (z135_.toInt = 24 * v.toInt) ∧ ∃ z137_ : Int32, (z137_.toInt = z135_.toInt + v4_16.toInt) ∧ ∃ j141_ : Nat, ((j141_ : Int) = z137_.toInt) ∧ ∃ z139_ : Int32, (z139_ = Mz.1 (68, 0, 0) j141_) ∧ (((z131_.toInt = z139_.toInt) ∧ ∃ z144_ : Int32, (z144_.toInt = v5_50.toInt + 1) ∧ v5_50y = z144_ ∧ v3_50y = 0) ∨ ((¬ z131_.toInt = z139_.toInt) ∧ ∃ z146_ : Int32, (z146_.toInt = v5_50.toInt + 1) ∧ v5_50y = z146_ ∧ v3_50y = 1))))))
def ST_X12_areCells_50d (v : Int32) (u : Int32) (Mz : mM) (v4_16 : Int32) (v5_50 : Int32) (v3_50 : Int32) (v5_50y : Int32) (v3_50y : Int32) : Prop := (0 ≤ v5_50.toInt) ∧ (v5_50.toInt ≤ v4_16.toInt) ∧ (0 ≤ v3_50.toInt ∧ v3_50.toInt ≤ 1) ∧ (v5_50.toInt < v4_16.toInt) ∧ (((v3_50.toInt = 0) ∧ ∃ z153_ : Int32, (z153_.toInt = v5_50.toInt + 1) ∧ v5_50y = z153_ ∧ v3_50y = 0) ∨ ((¬ v3_50.toInt = 0) ∧ (((u.toInt = 0) ∧ ∃ z156_ : Int32, (z156_.toInt = v5_50.toInt + 1) ∧ v5_50y = z156_ ∧ v3_50y = 1) ∨ ((¬ u.toInt = 0) ∧ ∃ z158_ : Int32, (z158_.toInt = 24 * v.toInt) ∧ ∃ z160_ : Int32, (z160_.toInt = z158_.toInt + v5_50.toInt) ∧ ∃ j164_ : Nat, ((j164_ : Int) = z160_.toInt) ∧ ∃ z162_ : Int32, (z162_ = Mz.1 (68, 0, 0) j164_) ∧ ∃ z166_ : Int32, (z166_.toInt = 24 * v.toInt) ∧ ∃ z168_ : Int32, (z168_.toInt = z166_.toInt + v4_16.toInt) ∧ ∃ j172_ : Nat, ((j172_ : Int) = z168_.toInt) ∧ ∃ z170_ : Int32, (z170_ = Mz.1 (68, 0, 0) j172_) ∧ (((z162_.toInt = z170_.toInt) ∧ ∃ z175_ : Int32, (z175_.toInt = v5_50.toInt + 1) ∧ v5_50y = z175_ ∧ v3_50y = 0) ∨ ((¬ z162_.toInt = z170_.toInt) ∧ ∃ z177_ : Int32, (z177_.toInt = v5_50.toInt + 1) ∧ v5_50y = z177_ ∧ v3_50y = 1))))))
def ST_X12_areCells_16b (v : Int32) (u : Int32) (Mz : mM) (v4_16 : Int32) (v3_16 : Int32) (v4_16y : Int32) (v3_16y : Int32) : Prop := (0 ≤ v4_16.toInt) ∧ (v4_16.toInt ≤ 24) ∧ (0 ≤ v3_16.toInt ∧ v3_16.toInt ≤ 1) ∧ (v3_16.toInt = 0 ∨ SZ (Mz.1 (67, 0, 0)) v 8) ∧ ∃ j98_ : Nat, ((j98_ : Int) = v.toInt) ∧ ∃ z96_ : Int32, (z96_ = Mz.1 (67, 0, 0) j98_) ∧ (0 ≤ z96_.toInt ∧ z96_.toInt ≤ 24) ∧ (v4_16.toInt < z96_.toInt) ∧ (¬ v3_16.toInt = 0) ∧ (SZ (Mz.1 (67, 0, 0)) v 8) ∧ ∃ z104_ : Int32, (z104_.toInt = 24 * v.toInt) ∧ ∃ z106_ : Int32, (z106_.toInt = z104_.toInt + v4_16.toInt) ∧ ∃ j110_ : Nat, ((j110_ : Int) = z106_.toInt) ∧ ∃ z108_ : Int32, (z108_ = Mz.1 (68, 0, 0) j110_) ∧ (((SP_X12_isCell z108_ Mz (1 : Int32)) ∧ (0 ≤ z108_.toInt ∧ z108_.toInt ≤ 191) ∧ ∃ v5_50 : Int32, (0 ≤ v5_50.toInt) ∧ (v5_50.toInt ≤ v4_16.toInt) ∧ ∃ v3_50 : Int32, (0 ≤ v3_50.toInt ∧ v3_50.toInt ≤ 1) ∧ (RCH (fun x_ y_ => ST_X12_areCells_50c v u Mz v4_16 x_.1 x_.2 y_.1 y_.2) ((0 : Int32), (1 : Int32)) (v5_50, v3_50)) ∧ (v4_16.toInt ≤ v5_50.toInt) ∧ ∃ z119_ : Int32, (z119_.toInt = v4_16.toInt + 1) ∧ v4_16y = z119_ ∧ v3_16y = v3_50) ∨ ((SP_X12_isCell z108_ Mz (0 : Int32)) ∧ (¬ (0 ≤ z108_.toInt ∧ z108_.toInt ≤ 191)) ∧ ∃ v5_50 : Int32, (0 ≤ v5_50.toInt) ∧ (v5_50.toInt ≤ v4_16.toInt) ∧ ∃ v3_50 : Int32, (0 ≤ v3_50.toInt ∧ v3_50.toInt ≤ 1) ∧ (RCH (fun x_ y_ => ST_X12_areCells_50d v u Mz v4_16 x_.1 x_.2 y_.1 y_.2) ((0 : Int32), (0 : Int32)) (v5_50, v3_50)) ∧ (v4_16.toInt ≤ v5_50.toInt) ∧ ∃ z150_ : Int32, (z150_.toInt = v4_16.toInt + 1) ∧ v4_16y = z150_ ∧ v3_16y = v3_50))
def SP_X12_areCells (v : Int32) (u : Int32) (Mz : mM) (r_ : Int32) : Prop := ∃ j3_ : Nat, ((j3_ : Int) = v.toInt) ∧ ∃ z1_ : Int32, (z1_ = Mz.1 (67, 0, 0) j3_) ∧ (0 ≤ z1_.toInt ∧ z1_.toInt ≤ 24) ∧ (((SP_X12_within z1_ 1 8 Mz (1 : Int32)) ∧ (1 ≤ z1_.toInt ∧ z1_.toInt ≤ 8) ∧ ∃ v4_16 : Int32, (0 ≤ v4_16.toInt) ∧ (v4_16.toInt ≤ 24) ∧ ∃ v3_16 : Int32, (0 ≤ v3_16.toInt ∧ v3_16.toInt ≤ 1) ∧ (v3_16.toInt = 0 ∨ SZ (Mz.1 (67, 0, 0)) v 8) ∧ (RCH (fun x_ y_ => ST_X12_areCells_16 v u Mz x_.1 x_.2 y_.1 y_.2) ((0 : Int32), (1 : Int32)) (v4_16, v3_16)) ∧ ∃ j14_ : Nat, ((j14_ : Int) = v.toInt) ∧ ∃ z12_ : Int32, (z12_ = Mz.1 (67, 0, 0) j14_) ∧ (0 ≤ z12_.toInt ∧ z12_.toInt ≤ 24) ∧ (((z12_.toInt ≤ v4_16.toInt) ∧ r_ = v3_16) ∨ ((v4_16.toInt < z12_.toInt) ∧ (v3_16.toInt = 0) ∧ r_ = v3_16))) ∨ ((SP_X12_within z1_ 1 8 Mz (0 : Int32)) ∧ (¬ (1 ≤ z1_.toInt ∧ z1_.toInt ≤ 8)) ∧ ∃ v4_16 : Int32, (0 ≤ v4_16.toInt) ∧ (v4_16.toInt ≤ 24) ∧ ∃ v3_16 : Int32, (0 ≤ v3_16.toInt ∧ v3_16.toInt ≤ 1) ∧ (v3_16.toInt = 0 ∨ SZ (Mz.1 (67, 0, 0)) v 8) ∧ (RCH (fun x_ y_ => ST_X12_areCells_16b v u Mz x_.1 x_.2 y_.1 y_.2) ((0 : Int32), (0 : Int32)) (v4_16, v3_16)) ∧ ∃ j98_ : Nat, ((j98_ : Int) = v.toInt) ∧ ∃ z96_ : Int32, (z96_ = Mz.1 (67, 0, 0) j98_) ∧ (0 ≤ z96_.toInt ∧ z96_.toInt ≤ 24) ∧ (((z96_.toInt ≤ v4_16.toInt) ∧ r_ = v3_16) ∨ ((v4_16.toInt < z96_.toInt) ∧ (v3_16.toInt = 0) ∧ r_ = v3_16))))
theorem lf_c_X12_areCells_2 (v3_16 : Int32) (hv2_16 : 0 ≤ v3_16.toInt ∧ v3_16.toInt ≤ 1) : 0 ≤ v3_16.toInt ∧ v3_16.toInt ≤ 1 := by omega
theorem lf_c_X12_areCells_3 (v3_16 : Int32) (hv2_16 : 0 ≤ v3_16.toInt ∧ v3_16.toInt ≤ 1) (h18_ : v3_16.toInt = 0) : 0 ≤ v3_16.toInt ∧ v3_16.toInt ≤ 1 := by omega
theorem lf_c_X12_areCells_5 (v : Int32) (v4_16 : Int32) (z20_ : Int32) (hv : 0 ≤ v.toInt ∧ v.toInt ≤ 3) (hv0_16 : 0 ≤ v4_16.toInt) (hv1_16 : v4_16.toInt ≤ 24) (h21_ : z20_.toInt = 24 * v.toInt) : -2147483648 ≤ z20_.toInt + v4_16.toInt ∧ z20_.toInt + v4_16.toInt < 2147483648 := by omega
theorem lf_c_X12_areCells_6 (v : Int32) (v4_16 : Int32) (z12_ : Int32) (z20_ : Int32) (z22_ : Int32) (hv : 0 ≤ v.toInt ∧ v.toInt ≤ 3) (hv0_16 : 0 ≤ v4_16.toInt) (h16_ : 0 ≤ z12_.toInt ∧ z12_.toInt ≤ 24) (h17_ : v4_16.toInt < z12_.toInt) (h21_ : z20_.toInt = 24 * v.toInt) (h23_ : z22_.toInt = z20_.toInt + v4_16.toInt) : 0 ≤ z22_.toInt ∧ z22_.toInt < ((96 : Nat) : Int) := by omega
theorem lf_c_X12_areCells_7 (v4_16 : Int32) (hv0_16 : 0 ≤ v4_16.toInt) (hv1_16 : v4_16.toInt ≤ 24) : -2147483648 ≤ v4_16.toInt + 1 ∧ v4_16.toInt + 1 < 2147483648 := by omega
theorem lf_c_X12_areCells_9 (v4_16 : Int32) (z12_ : Int32) (z35_ : Int32) (h16_ : 0 ≤ z12_.toInt ∧ z12_.toInt ≤ 24) (h17_ : v4_16.toInt < z12_.toInt) (h36_ : z35_.toInt = v4_16.toInt + 1) : z35_.toInt ≤ 24 := by omega
theorem lf_c_X12_areCells_10 (v4_16 : Int32) (z12_ : Int32) (z35_ : Int32) (h16_ : 0 ≤ z12_.toInt ∧ z12_.toInt ≤ 24) (h17_ : v4_16.toInt < z12_.toInt) (h36_ : z35_.toInt = v4_16.toInt + 1) : (24 - z35_.toInt).toNat < (24 - v4_16.toInt).toNat := by omega
theorem lf_c_X12_areCells_11 (v4_16 : Int32) (v5_50 : Int32) (hv1_16 : v4_16.toInt ≤ 24) (hv0_50 : 0 ≤ v5_50.toInt) (h34_ : v5_50.toInt < v4_16.toInt) : -2147483648 ≤ v5_50.toInt + 1 ∧ v5_50.toInt + 1 < 2147483648 := by omega
theorem lf_c_X12_areCells_13 (v4_16 : Int32) (v5_50 : Int32) (z38_ : Int32) (h34_ : v5_50.toInt < v4_16.toInt) (h39_ : z38_.toInt = v5_50.toInt + 1) : z38_.toInt ≤ v4_16.toInt := by have q0 := li_0; omega
theorem lf_c_X12_areCells_14 : 0 ≤ (0 : Int32).toInt ∧ (0 : Int32).toInt ≤ 1 := by have q0 := li_0; omega
theorem lf_c_X12_areCells_15 (v4_16 : Int32) (v5_50 : Int32) (z38_ : Int32) (h34_ : v5_50.toInt < v4_16.toInt) (h39_ : z38_.toInt = v5_50.toInt + 1) : (v4_16.toInt - z38_.toInt).toNat < (v4_16.toInt - v5_50.toInt).toNat := by have q0 := li_0; omega
theorem lf_c_X12_areCells_18 (v4_16 : Int32) (v5_50 : Int32) (z41_ : Int32) (h34_ : v5_50.toInt < v4_16.toInt) (h42_ : z41_.toInt = v5_50.toInt + 1) : z41_.toInt ≤ v4_16.toInt := by have q0 := li_1; omega
theorem lf_c_X12_areCells_19 : 0 ≤ (1 : Int32).toInt ∧ (1 : Int32).toInt ≤ 1 := by have q0 := li_1; omega
theorem lf_c_X12_areCells_20 (v4_16 : Int32) (v5_50 : Int32) (z41_ : Int32) (h34_ : v5_50.toInt < v4_16.toInt) (h42_ : z41_.toInt = v5_50.toInt + 1) : (v4_16.toInt - z41_.toInt).toNat < (v4_16.toInt - v5_50.toInt).toNat := by have q0 := li_1; omega
theorem lf_c_X12_areCells_21 (v : Int32) (v4_16 : Int32) (z20_ : Int32) (z22_ : Int32) (j26_ : Nat) (hv : 0 ≤ v.toInt ∧ v.toInt ≤ 3) (hv1_16 : v4_16.toInt ≤ 24) (h21_ : z20_.toInt = 24 * v.toInt) (h23_ : z22_.toInt = z20_.toInt + v4_16.toInt) (h27_ : (j26_ : Int) = z22_.toInt) : -2147483648 ≤ 24 * v.toInt ∧ 24 * v.toInt < 2147483648 := by omega
theorem lf_c_X12_areCells_22 (v : Int32) (v4_16 : Int32) (z20_ : Int32) (z22_ : Int32) (j26_ : Nat) (v5_50 : Int32) (z43_ : Int32) (hv : 0 ≤ v.toInt ∧ v.toInt ≤ 3) (hv1_16 : v4_16.toInt ≤ 24) (h21_ : z20_.toInt = 24 * v.toInt) (h23_ : z22_.toInt = z20_.toInt + v4_16.toInt) (h27_ : (j26_ : Int) = z22_.toInt) (hv0_50 : 0 ≤ v5_50.toInt) (h34_ : v5_50.toInt < v4_16.toInt) (h44_ : z43_.toInt = 24 * v.toInt) : -2147483648 ≤ z43_.toInt + v5_50.toInt ∧ z43_.toInt + v5_50.toInt < 2147483648 := by omega
theorem lf_c_X12_areCells_23 (v : Int32) (v4_16 : Int32) (z12_ : Int32) (v5_50 : Int32) (z43_ : Int32) (z45_ : Int32) (hv : 0 ≤ v.toInt ∧ v.toInt ≤ 3) (h16_ : 0 ≤ z12_.toInt ∧ z12_.toInt ≤ 24) (h17_ : v4_16.toInt < z12_.toInt) (hv0_50 : 0 ≤ v5_50.toInt) (h34_ : v5_50.toInt < v4_16.toInt) (h44_ : z43_.toInt = 24 * v.toInt) (h46_ : z45_.toInt = z43_.toInt + v5_50.toInt) : 0 ≤ z45_.toInt ∧ z45_.toInt < ((96 : Nat) : Int) := by omega
theorem lf_c_X12_areCells_25 (v : Int32) (v4_16 : Int32) (z20_ : Int32) (z22_ : Int32) (j26_ : Nat) (z51_ : Int32) (hv : 0 ≤ v.toInt ∧ v.toInt ≤ 3) (hv1_16 : v4_16.toInt ≤ 24) (h21_ : z20_.toInt = 24 * v.toInt) (h23_ : z22_.toInt = z20_.toInt + v4_16.toInt) (h27_ : (j26_ : Int) = z22_.toInt) (h52_ : z51_.toInt = 24 * v.toInt) : -2147483648 ≤ z51_.toInt + v4_16.toInt ∧ z51_.toInt + v4_16.toInt < 2147483648 := by omega
theorem lf_c_X12_areCells_26 (v : Int32) (v4_16 : Int32) (z12_ : Int32) (v5_50 : Int32) (z43_ : Int32) (z45_ : Int32) (j49_ : Nat) (z51_ : Int32) (z53_ : Int32) (hv : 0 ≤ v.toInt ∧ v.toInt ≤ 3) (h16_ : 0 ≤ z12_.toInt ∧ z12_.toInt ≤ 24) (h17_ : v4_16.toInt < z12_.toInt) (h34_ : v5_50.toInt < v4_16.toInt) (h44_ : z43_.toInt = 24 * v.toInt) (h46_ : z45_.toInt = z43_.toInt + v5_50.toInt) (h50_ : (j49_ : Int) = z45_.toInt) (h52_ : z51_.toInt = 24 * v.toInt) (h54_ : z53_.toInt = z51_.toInt + v4_16.toInt) : 0 ≤ z53_.toInt ∧ z53_.toInt < ((96 : Nat) : Int) := by omega
theorem lf_c_X12_areCells_37 : 0 ≤ (0 : Int32).toInt := by have q0 := li_0; have q1 := li_1; omega
theorem lf_c_X12_areCells_38 (v4_16 : Int32) (hv0_16 : 0 ≤ v4_16.toInt) : (0 : Int32).toInt ≤ v4_16.toInt := by have q0 := li_0; have q1 := li_1; omega
theorem lf_c_X12_areCells_39 : 0 ≤ (1 : Int32).toInt ∧ (1 : Int32).toInt ≤ 1 := by have q0 := li_0; have q1 := li_1; omega
theorem lf_c_X12_areCells_71 (v4_16 : Int32) (hv0_16 : 0 ≤ v4_16.toInt) : (0 : Int32).toInt ≤ v4_16.toInt := by have q0 := li_0; omega
theorem lf_c_X12_areCells_74 : (0 : Int32).toInt ≤ 24 := by have q0 := li_0; have q1 := li_1; omega
theorem lf_c_X12_areCells_77 (z1_ : Int32) (h9_ : 1 ≤ z1_.toInt ∧ z1_.toInt ≤ 8) : z1_.toInt ≤ 8 := by omega
set_option maxHeartbeats 4000000 in
set_option maxRecDepth 100000 in
theorem c_X12_areCells (l : Launch) (G : va_G) (cy : Nat → ClassId) (ad : rf → Nat) (d : Nat) (v : Int32) (u : Int32) (Mz : mM) (hIz : InvD Mz) (hv : 0 ≤ v.toInt ∧ v.toInt ≤ 3) (hu : 0 ≤ u.toInt ∧ u.toInt ≤ 1) : WP DD l G cy ad yX12_areCells cX12_areCells 6 (some .boolean) (d + 2) 0 [(0, vR (12, 0, 0)), (1, vI v), (2, vI u)] [] Mz (fun r M' => Mz = M' ∧ (((r = 1 ∧ SZ (Mz.1 (67, 0, 0)) v 8) ∨ r = 0)) ∧ SP_X12_areCells v u Mz r) := by
  refine w_aload_n dX12_areCells_0 rfl 0 rfl ?_
  refine w_getR (c' := (67, 0, 0)) fl_RX12_75 rfl rfl ic_12 dX12_areCells_1 rfl ?_
  refine w_iload_n dX12_areCells_4 rfl 1 rfl ?_
  refine w_iald rfl rfl ic_67 (rfl : v.toInt = v.toInt) (lf_c_X11_lays_0 v hv ) dX12_areCells_5 (fun j3_ h4_ z1_ e2_ => ?_)
  have h5_ : 0 ≤ z1_.toInt ∧ z1_.toInt ≤ 24 := pn_67 hIz e2_
  refine w_iconst (v := 1) dX12_areCells_6 (by decide) ?_
  refine w_bipush (v := 8) dX12_areCells_7 (by decide) ?_
  refine w_callS (as := [vI z1_, vI 1, vI 8]) (rest := []) (c_X12_within l G cy ad (d + 1) z1_ 1 8 Mz hIz) kS_X12_within pnn_17 (Nat.le_of_ble_eq_true rfl) m_1427 rfl rfl (by decide) (Nat.le_of_ble_eq_true rfl) dX12_areCells_9 (fun r6_ M7_ q8_ => ?_)
  obtain ⟨rfl, h9_, hs10_⟩ := q8_
  rcases h9_ with ⟨rfl, h9_⟩ | ⟨rfl, h9_⟩
  · simp only [li_1, li_8] at h9_
    refine w_istore_n (ls' := [(3, vI 1), (0, vR (12, 0, 0)), (1, vI v), (2, vI u)]) dX12_areCells_12 rfl (by decide) rfl ?_
    refine w_iconst (v := 0) dX12_areCells_13 (by decide) ?_
    refine w_istore (ls' := [(4, vI 0), (3, vI 1), (0, vR (12, 0, 0)), (1, vI v), (2, vI u)]) dX12_areCells_14 (by decide) rfl ?_
    have lp11_ : ∀ (nn_16 : Nat) (v4_16 : Int32) (v3_16 : Int32) (hv0_16 : 0 ≤ v4_16.toInt) (hv1_16 : v4_16.toInt ≤ 24) (hv2_16 : 0 ≤ v3_16.toInt ∧ v3_16.toInt ≤ 1) (hv3_16 : v3_16.toInt = 0 ∨ SZ (Mz.1 (67, 0, 0)) v 8) (hL_16 : RCH (fun x_ y_ => ST_X12_areCells_16 v u Mz x_.1 x_.2 y_.1 y_.2) ((0 : Int32), (1 : Int32)) (v4_16, v3_16)), (24 - v4_16.toInt).toNat < nn_16 → WP DD l G cy ad yX12_areCells cX12_areCells 6 (some .boolean) (d + 2) 16 [(4, vI v4_16), (3, vI v3_16), (0, vR (12, 0, 0)), (1, vI v), (2, vI u)] [] Mz (fun r M' => Mz = M' ∧ (((r = 1 ∧ SZ (Mz.1 (67, 0, 0)) v 8) ∨ r = 0)) ∧ SP_X12_areCells v u Mz r) := by
      intro nn_16
      induction nn_16 with
      | zero => intro v4_16 v3_16 hv0_16 hv1_16 hv2_16 hv3_16 hL_16 hm_16; exact absurd hm_16 (Nat.not_lt_zero _)
      | succ nn_16 ih_16 =>
        intro v4_16 v3_16 hv0_16 hv1_16 hv2_16 hv3_16 hL_16 hm_16
        refine w_iload dX12_areCells_16 0 rfl ?_
        refine w_aload_n dX12_areCells_18 rfl 2 rfl ?_
        refine w_getR (c' := (67, 0, 0)) fl_RX12_75 rfl rfl ic_12 dX12_areCells_19 rfl ?_
        refine w_iload_n dX12_areCells_22 rfl 3 rfl ?_
        refine w_iald rfl rfl ic_67 (rfl : v.toInt = v.toInt) (lf_c_X11_lays_0 v hv ) dX12_areCells_23 (fun j14_ h15_ z12_ e13_ => ?_)
        have h16_ : 0 ≤ z12_.toInt ∧ z12_.toInt ≤ 24 := pn_67 hIz e13_
        refine w_icmp_ge (tgt := 110) dX12_areCells_24 (by decide) (rfl : v4_16.toInt = v4_16.toInt) (rfl : z12_.toInt = z12_.toInt) (fun h17_ => ?_) (fun h17_ => ?_)
        · refine w_iload_n dX12_areCells_110 rfl 1 rfl ?_
          exact w_zret rfl dX12_areCells_111 hv2_16 ⟨rfl, (boolSZ (lf_c_X12_areCells_2 v3_16 hv2_16 ) hv3_16), ⟨j3_, h4_, z1_, e2_, h5_, (Or.inl ⟨hs10_, h9_, v4_16, hv0_16, hv1_16, v3_16, hv2_16, hv3_16, hL_16, j14_, h15_, z12_, e13_, h16_, (Or.inl ⟨h17_, rfl⟩)⟩)⟩⟩
        · refine w_iload_n dX12_areCells_27 rfl 1 rfl ?_
          refine w_if_eq (tgt := 110) dX12_areCells_28 (by decide) (rfl : v3_16.toInt = v3_16.toInt) (fun h18_ => ?_) (fun h18_ => ?_)
          · refine w_iload_n dX12_areCells_110 rfl 1 rfl ?_
            exact w_zret rfl dX12_areCells_111 hv2_16 ⟨rfl, (boolSZ (lf_c_X12_areCells_3 v3_16 hv2_16 h18_ ) hv3_16), ⟨j3_, h4_, z1_, e2_, h5_, (Or.inl ⟨hs10_, h9_, v4_16, hv0_16, hv1_16, v3_16, hv2_16, hv3_16, hL_16, j14_, h15_, z12_, e13_, h16_, (Or.inr ⟨h17_, h18_, rfl⟩)⟩)⟩⟩
          · have h19_ : SZ (Mz.1 (67, 0, 0)) v 8 := hv3_16.resolve_left h18_
            refine w_aload_n dX12_areCells_31 rfl 2 rfl ?_
            refine w_getR (c' := (68, 0, 0)) fl_RX12_78 rfl rfl ic_12 dX12_areCells_32 rfl ?_
            refine w_bipush (v := 24) dX12_areCells_35 (by decide) ?_
            refine w_iload_n dX12_areCells_37 rfl 3 rfl ?_
            refine w_imulB dX12_areCells_38 li_24 (rfl : v.toInt = v.toInt) (lf_c_X12_lays_7 v hv ) (fun z20_ h21_ => ?_)
            refine w_iload dX12_areCells_39 0 rfl ?_
            refine w_iaddB dX12_areCells_41 (rfl : z20_.toInt = z20_.toInt) (rfl : v4_16.toInt = v4_16.toInt) (lf_c_X12_areCells_5 v v4_16 z20_ hv hv0_16 hv1_16 h21_ ) (fun z22_ h23_ => ?_)
            refine w_iald rfl rfl ic_68 (rfl : z22_.toInt = z22_.toInt) (lf_c_X12_areCells_6 v v4_16 z12_ z20_ z22_ hv hv0_16 h16_ h17_ h21_ h23_ ) dX12_areCells_42 (fun j26_ h27_ z24_ e25_ => ?_)
            refine w_callS (as := [vI z24_]) (rest := []) (c_X12_isCell l G cy ad d z24_ Mz hIz) kS_X12_isCell pnn_17 (Nat.le_of_ble_eq_true rfl) m_1430 rfl rfl (by decide) (Nat.le_of_ble_eq_true rfl) dX12_areCells_43 (fun r28_ M29_ q30_ => ?_)
            obtain ⟨rfl, h31_, hs32_⟩ := q30_
            rcases h31_ with ⟨rfl, h31_⟩ | ⟨rfl, h31_⟩
            · refine w_istore_n (ls' := [(3, vI 1), (4, vI v4_16), (0, vR (12, 0, 0)), (1, vI v), (2, vI u)]) dX12_areCells_46 rfl (by decide) rfl ?_
              refine w_iconst (v := 0) dX12_areCells_47 (by decide) ?_
              refine w_istore (ls' := [(5, vI 0), (3, vI 1), (4, vI v4_16), (0, vR (12, 0, 0)), (1, vI v), (2, vI u)]) dX12_areCells_48 (by decide) rfl ?_
              have lp33_ : ∀ (nn_50 : Nat) (v5_50 : Int32) (v3_50 : Int32) (hv0_50 : 0 ≤ v5_50.toInt) (hv1_50 : v5_50.toInt ≤ v4_16.toInt) (hv2_50 : 0 ≤ v3_50.toInt ∧ v3_50.toInt ≤ 1) (hL_50 : RCH (fun x_ y_ => ST_X12_areCells_50 v u Mz v4_16 x_.1 x_.2 y_.1 y_.2) ((0 : Int32), (1 : Int32)) (v5_50, v3_50)), (v4_16.toInt - v5_50.toInt).toNat < nn_50 → WP DD l G cy ad yX12_areCells cX12_areCells 6 (some .boolean) (d + 2) 50 [(5, vI v5_50), (3, vI v3_50), (4, vI v4_16), (0, vR (12, 0, 0)), (1, vI v), (2, vI u)] [] Mz (fun r M' => Mz = M' ∧ (((r = 1 ∧ SZ (Mz.1 (67, 0, 0)) v 8) ∨ r = 0)) ∧ SP_X12_areCells v u Mz r) := by
                intro nn_50
                induction nn_50 with
                | zero => intro v5_50 v3_50 hv0_50 hv1_50 hv2_50 hL_50 hm_50; exact absurd hm_50 (Nat.not_lt_zero _)
                | succ nn_50 ih_50 =>
                  intro v5_50 v3_50 hv0_50 hv1_50 hv2_50 hL_50 hm_50
                  refine w_iload dX12_areCells_50 0 rfl ?_
                  refine w_iload dX12_areCells_52 2 rfl ?_
                  refine w_icmp_ge (tgt := 104) dX12_areCells_54 (by decide) (rfl : v5_50.toInt = v5_50.toInt) (rfl : v4_16.toInt = v4_16.toInt) (fun h34_ => ?_) (fun h34_ => ?_)
                  · refine w_iincB (j := 2) (f := fun z35_ => [(4, vI z35_), (5, vI v5_50), (3, vI v3_50), (0, vR (12, 0, 0)), (1, vI v), (2, vI u)]) dX12_areCells_104 rfl (by decide) (fun _ => rfl) (rfl : v4_16.toInt = v4_16.toInt) li_1 (lf_c_X12_areCells_7 v4_16 hv0_16 hv1_16 ) (fun z35_ h36_ => ?_)
                    refine w_goto (tgt := 16) dX12_areCells_107 (by decide) ?_
                    refine w_loc (ls' := [(4, vI z35_), (3, vI v3_50), (0, vR (12, 0, 0)), (1, vI v), (2, vI u)]) [0, 2, 3, 4, 5] rfl ?_
                    exact ih_16 z35_ v3_50 (lf_c_X5_takeFrom_3 v4_16 z35_ hv0_16 h36_ ) (lf_c_X12_areCells_9 v4_16 z12_ z35_ h16_ h17_ h36_ ) hv2_50 (Or.inr h19_) (RCH.tail hL_16 ⟨hv0_16, hv1_16, hv2_16, hv3_16, j14_, h15_, z12_, e13_, h16_, h17_, h18_, h19_, z20_, h21_, z22_, h23_, j26_, h27_, z24_, e25_, (Or.inl ⟨hs32_, h31_, v5_50, hv0_50, hv1_50, v3_50, hv2_50, hL_50, h34_, z35_, h36_, rfl, rfl⟩)⟩) (Nat.lt_of_lt_of_le (lf_c_X12_areCells_10 v4_16 z12_ z35_ h16_ h17_ h36_ ) (Nat.le_of_lt_succ hm_16))
                  · refine w_iload_n dX12_areCells_57 rfl 1 rfl ?_
                    refine w_if_eq (tgt := 96) dX12_areCells_58 (by decide) (rfl : v3_50.toInt = v3_50.toInt) (fun h37_ => ?_) (fun h37_ => ?_)
                    · refine w_iconst (v := 0) dX12_areCells_96 (by decide) ?_
                      refine w_istore_n (ls' := [(3, vI 0), (5, vI v5_50), (4, vI v4_16), (0, vR (12, 0, 0)), (1, vI v), (2, vI u)]) dX12_areCells_97 rfl (by decide) rfl ?_
                      refine w_iincB (j := 1) (f := fun z38_ => [(5, vI z38_), (3, vI 0), (4, vI v4_16), (0, vR (12, 0, 0)), (1, vI v), (2, vI u)]) dX12_areCells_98 rfl (by decide) (fun _ => rfl) (rfl : v5_50.toInt = v5_50.toInt) li_1 (lf_c_X12_areCells_11 v4_16 v5_50 hv1_16 hv0_50 h34_ ) (fun z38_ h39_ => ?_)
                      refine w_goto (tgt := 50) dX12_areCells_101 (by decide) ?_
                      refine w_loc (ls' := [(5, vI z38_), (3, vI 0), (4, vI v4_16), (0, vR (12, 0, 0)), (1, vI v), (2, vI u)]) [0, 1, 2, 3, 4, 5] rfl ?_
                      exact ih_50 z38_ 0 (lf_c_X12_toldBy_13 v5_50 z38_ hv0_50 h39_ ) (lf_c_X12_areCells_13 v4_16 v5_50 z38_ h34_ h39_ ) (lf_c_X12_areCells_14 ) (RCH.tail hL_50 ⟨hv0_50, hv1_50, hv2_50, h34_, (Or.inl ⟨h37_, z38_, h39_, rfl, rfl⟩)⟩) (Nat.lt_of_lt_of_le (lf_c_X12_areCells_15 v4_16 v5_50 z38_ h34_ h39_ ) (Nat.le_of_lt_succ hm_50))
                    · refine w_iload_n dX12_areCells_61 rfl 5 rfl ?_
                      refine w_if_eq (tgt := 92) dX12_areCells_62 (by decide) (rfl : u.toInt = u.toInt) (fun h40_ => ?_) (fun h40_ => ?_)
                      · refine w_iconst (v := 1) dX12_areCells_92 (by decide) ?_
                        refine w_goto (tgt := 97) dX12_areCells_93 (by decide) ?_
                        refine w_istore_n (ls' := [(3, vI 1), (5, vI v5_50), (4, vI v4_16), (0, vR (12, 0, 0)), (1, vI v), (2, vI u)]) dX12_areCells_97 rfl (by decide) rfl ?_
                        refine w_iincB (j := 1) (f := fun z41_ => [(5, vI z41_), (3, vI 1), (4, vI v4_16), (0, vR (12, 0, 0)), (1, vI v), (2, vI u)]) dX12_areCells_98 rfl (by decide) (fun _ => rfl) (rfl : v5_50.toInt = v5_50.toInt) li_1 (lf_c_X12_areCells_11 v4_16 v5_50 hv1_16 hv0_50 h34_ ) (fun z41_ h42_ => ?_)
                        refine w_goto (tgt := 50) dX12_areCells_101 (by decide) ?_
                        refine w_loc (ls' := [(5, vI z41_), (3, vI 1), (4, vI v4_16), (0, vR (12, 0, 0)), (1, vI v), (2, vI u)]) [0, 1, 2, 3, 4, 5] rfl ?_
                        exact ih_50 z41_ 1 (lf_c_X12_toldBy_9 v5_50 z41_ hv0_50 h42_ ) (lf_c_X12_areCells_18 v4_16 v5_50 z41_ h34_ h42_ ) (lf_c_X12_areCells_19 ) (RCH.tail hL_50 ⟨hv0_50, hv1_50, hv2_50, h34_, (Or.inr ⟨h37_, (Or.inl ⟨h40_, z41_, h42_, rfl, rfl⟩)⟩)⟩) (Nat.lt_of_lt_of_le (lf_c_X12_areCells_20 v4_16 v5_50 z41_ h34_ h42_ ) (Nat.le_of_lt_succ hm_50))
                      · refine w_aload_n dX12_areCells_65 rfl 3 rfl ?_
                        refine w_getR (c' := (68, 0, 0)) fl_RX12_78 rfl rfl ic_12 dX12_areCells_66 rfl ?_
                        refine w_bipush (v := 24) dX12_areCells_69 (by decide) ?_
                        refine w_iload_n dX12_areCells_71 rfl 4 rfl ?_
                        refine w_imulB dX12_areCells_72 li_24 (rfl : v.toInt = v.toInt) (lf_c_X12_areCells_21 v v4_16 z20_ z22_ j26_ hv hv1_16 h21_ h23_ h27_ ) (fun z43_ h44_ => ?_)
                        refine w_iload dX12_areCells_73 0 rfl ?_
                        refine w_iaddB dX12_areCells_75 (rfl : z43_.toInt = z43_.toInt) (rfl : v5_50.toInt = v5_50.toInt) (lf_c_X12_areCells_22 v v4_16 z20_ z22_ j26_ v5_50 z43_ hv hv1_16 h21_ h23_ h27_ hv0_50 h34_ h44_ ) (fun z45_ h46_ => ?_)
                        refine w_iald rfl rfl ic_68 (rfl : z45_.toInt = z45_.toInt) (lf_c_X12_areCells_23 v v4_16 z12_ v5_50 z43_ z45_ hv h16_ h17_ hv0_50 h34_ h44_ h46_ ) dX12_areCells_76 (fun j49_ h50_ z47_ e48_ => ?_)
                        refine w_aload_n dX12_areCells_77 rfl 3 rfl ?_
                        refine w_getR (c' := (68, 0, 0)) fl_RX12_78 rfl rfl ic_12 dX12_areCells_78 rfl ?_
                        refine w_bipush (v := 24) dX12_areCells_81 (by decide) ?_
                        refine w_iload_n dX12_areCells_83 rfl 4 rfl ?_
                        refine w_imulB dX12_areCells_84 li_24 (rfl : v.toInt = v.toInt) (lf_c_X12_areCells_21 v v4_16 z20_ z22_ j26_ hv hv1_16 h21_ h23_ h27_ ) (fun z51_ h52_ => ?_)
                        refine w_iload dX12_areCells_85 2 rfl ?_
                        refine w_iaddB dX12_areCells_87 (rfl : z51_.toInt = z51_.toInt) (rfl : v4_16.toInt = v4_16.toInt) (lf_c_X12_areCells_25 v v4_16 z20_ z22_ j26_ z51_ hv hv1_16 h21_ h23_ h27_ h52_ ) (fun z53_ h54_ => ?_)
                        refine w_iald rfl rfl ic_68 (rfl : z53_.toInt = z53_.toInt) (lf_c_X12_areCells_26 v v4_16 z12_ v5_50 z43_ z45_ j49_ z51_ z53_ hv h16_ h17_ h34_ h44_ h46_ h50_ h52_ h54_ ) dX12_areCells_88 (fun j57_ h58_ z55_ e56_ => ?_)
                        refine w_icmp_eq (tgt := 96) dX12_areCells_89 (by decide) (rfl : z47_.toInt = z47_.toInt) (rfl : z55_.toInt = z55_.toInt) (fun h59_ => ?_) (fun h59_ => ?_)
                        · refine w_iconst (v := 0) dX12_areCells_96 (by decide) ?_
                          refine w_istore_n (ls' := [(3, vI 0), (5, vI v5_50), (4, vI v4_16), (0, vR (12, 0, 0)), (1, vI v), (2, vI u)]) dX12_areCells_97 rfl (by decide) rfl ?_
                          refine w_iincB (j := 1) (f := fun z60_ => [(5, vI z60_), (3, vI 0), (4, vI v4_16), (0, vR (12, 0, 0)), (1, vI v), (2, vI u)]) dX12_areCells_98 rfl (by decide) (fun _ => rfl) (rfl : v5_50.toInt = v5_50.toInt) li_1 (lf_c_X12_areCells_11 v4_16 v5_50 hv1_16 hv0_50 h34_ ) (fun z60_ h61_ => ?_)
                          refine w_goto (tgt := 50) dX12_areCells_101 (by decide) ?_
                          refine w_loc (ls' := [(5, vI z60_), (3, vI 0), (4, vI v4_16), (0, vR (12, 0, 0)), (1, vI v), (2, vI u)]) [0, 1, 2, 3, 4, 5] rfl ?_
                          exact ih_50 z60_ 0 (lf_c_X12_toldBy_13 v5_50 z60_ hv0_50 h61_ ) (lf_c_X12_areCells_13 v4_16 v5_50 z60_ h34_ h61_ ) (lf_c_X12_areCells_14 ) (RCH.tail hL_50 ⟨hv0_50, hv1_50, hv2_50, h34_, (Or.inr ⟨h37_, (Or.inr ⟨h40_, z43_, h44_, z45_, h46_, j49_, h50_, z47_, e48_, z51_, h52_, z53_, h54_, j57_, h58_, z55_, e56_, (Or.inl ⟨h59_, z60_, h61_, rfl, rfl⟩)⟩)⟩)⟩) (Nat.lt_of_lt_of_le (lf_c_X12_areCells_15 v4_16 v5_50 z60_ h34_ h61_ ) (Nat.le_of_lt_succ hm_50))
                        · refine w_iconst (v := 1) dX12_areCells_92 (by decide) ?_
                          refine w_goto (tgt := 97) dX12_areCells_93 (by decide) ?_
                          refine w_istore_n (ls' := [(3, vI 1), (5, vI v5_50), (4, vI v4_16), (0, vR (12, 0, 0)), (1, vI v), (2, vI u)]) dX12_areCells_97 rfl (by decide) rfl ?_
                          refine w_iincB (j := 1) (f := fun z62_ => [(5, vI z62_), (3, vI 1), (4, vI v4_16), (0, vR (12, 0, 0)), (1, vI v), (2, vI u)]) dX12_areCells_98 rfl (by decide) (fun _ => rfl) (rfl : v5_50.toInt = v5_50.toInt) li_1 (lf_c_X12_areCells_11 v4_16 v5_50 hv1_16 hv0_50 h34_ ) (fun z62_ h63_ => ?_)
                          refine w_goto (tgt := 50) dX12_areCells_101 (by decide) ?_
                          refine w_loc (ls' := [(5, vI z62_), (3, vI 1), (4, vI v4_16), (0, vR (12, 0, 0)), (1, vI v), (2, vI u)]) [0, 1, 2, 3, 4, 5] rfl ?_
                          exact ih_50 z62_ 1 (lf_c_X12_toldBy_9 v5_50 z62_ hv0_50 h63_ ) (lf_c_X12_areCells_18 v4_16 v5_50 z62_ h34_ h63_ ) (lf_c_X12_areCells_19 ) (RCH.tail hL_50 ⟨hv0_50, hv1_50, hv2_50, h34_, (Or.inr ⟨h37_, (Or.inr ⟨h40_, z43_, h44_, z45_, h46_, j49_, h50_, z47_, e48_, z51_, h52_, z53_, h54_, j57_, h58_, z55_, e56_, (Or.inr ⟨h59_, z62_, h63_, rfl, rfl⟩)⟩)⟩)⟩) (Nat.lt_of_lt_of_le (lf_c_X12_areCells_20 v4_16 v5_50 z62_ h34_ h63_ ) (Nat.le_of_lt_succ hm_50))
              exact lp33_ _ 0 1 (lf_c_X12_areCells_37 ) (lf_c_X12_areCells_38 v4_16 hv0_16 ) (lf_c_X12_areCells_39 ) RCH.refl (Nat.lt_succ_self _)
            · refine w_istore_n (ls' := [(3, vI 0), (4, vI v4_16), (0, vR (12, 0, 0)), (1, vI v), (2, vI u)]) dX12_areCells_46 rfl (by decide) rfl ?_
              refine w_iconst (v := 0) dX12_areCells_47 (by decide) ?_
              refine w_istore (ls' := [(5, vI 0), (3, vI 0), (4, vI v4_16), (0, vR (12, 0, 0)), (1, vI v), (2, vI u)]) dX12_areCells_48 (by decide) rfl ?_
              have lp64_ : ∀ (nn_50 : Nat) (v5_50 : Int32) (v3_50 : Int32) (hv0_50 : 0 ≤ v5_50.toInt) (hv1_50 : v5_50.toInt ≤ v4_16.toInt) (hv2_50 : 0 ≤ v3_50.toInt ∧ v3_50.toInt ≤ 1) (hL_50 : RCH (fun x_ y_ => ST_X12_areCells_50b v u Mz v4_16 x_.1 x_.2 y_.1 y_.2) ((0 : Int32), (0 : Int32)) (v5_50, v3_50)), (v4_16.toInt - v5_50.toInt).toNat < nn_50 → WP DD l G cy ad yX12_areCells cX12_areCells 6 (some .boolean) (d + 2) 50 [(5, vI v5_50), (3, vI v3_50), (4, vI v4_16), (0, vR (12, 0, 0)), (1, vI v), (2, vI u)] [] Mz (fun r M' => Mz = M' ∧ (((r = 1 ∧ SZ (Mz.1 (67, 0, 0)) v 8) ∨ r = 0)) ∧ SP_X12_areCells v u Mz r) := by
                intro nn_50
                induction nn_50 with
                | zero => intro v5_50 v3_50 hv0_50 hv1_50 hv2_50 hL_50 hm_50; exact absurd hm_50 (Nat.not_lt_zero _)
                | succ nn_50 ih_50 =>
                  intro v5_50 v3_50 hv0_50 hv1_50 hv2_50 hL_50 hm_50
                  refine w_iload dX12_areCells_50 0 rfl ?_
                  refine w_iload dX12_areCells_52 2 rfl ?_
                  refine w_icmp_ge (tgt := 104) dX12_areCells_54 (by decide) (rfl : v5_50.toInt = v5_50.toInt) (rfl : v4_16.toInt = v4_16.toInt) (fun h65_ => ?_) (fun h65_ => ?_)
                  · refine w_iincB (j := 2) (f := fun z66_ => [(4, vI z66_), (5, vI v5_50), (3, vI v3_50), (0, vR (12, 0, 0)), (1, vI v), (2, vI u)]) dX12_areCells_104 rfl (by decide) (fun _ => rfl) (rfl : v4_16.toInt = v4_16.toInt) li_1 (lf_c_X12_areCells_7 v4_16 hv0_16 hv1_16 ) (fun z66_ h67_ => ?_)
                    refine w_goto (tgt := 16) dX12_areCells_107 (by decide) ?_
                    refine w_loc (ls' := [(4, vI z66_), (3, vI v3_50), (0, vR (12, 0, 0)), (1, vI v), (2, vI u)]) [0, 2, 3, 4, 5] rfl ?_
                    exact ih_16 z66_ v3_50 (lf_c_X5_takeFrom_3 v4_16 z66_ hv0_16 h67_ ) (lf_c_X12_areCells_9 v4_16 z12_ z66_ h16_ h17_ h67_ ) hv2_50 (Or.inr h19_) (RCH.tail hL_16 ⟨hv0_16, hv1_16, hv2_16, hv3_16, j14_, h15_, z12_, e13_, h16_, h17_, h18_, h19_, z20_, h21_, z22_, h23_, j26_, h27_, z24_, e25_, (Or.inr ⟨hs32_, h31_, v5_50, hv0_50, hv1_50, v3_50, hv2_50, hL_50, h65_, z66_, h67_, rfl, rfl⟩)⟩) (Nat.lt_of_lt_of_le (lf_c_X12_areCells_10 v4_16 z12_ z66_ h16_ h17_ h67_ ) (Nat.le_of_lt_succ hm_16))
                  · refine w_iload_n dX12_areCells_57 rfl 1 rfl ?_
                    refine w_if_eq (tgt := 96) dX12_areCells_58 (by decide) (rfl : v3_50.toInt = v3_50.toInt) (fun h68_ => ?_) (fun h68_ => ?_)
                    · refine w_iconst (v := 0) dX12_areCells_96 (by decide) ?_
                      refine w_istore_n (ls' := [(3, vI 0), (5, vI v5_50), (4, vI v4_16), (0, vR (12, 0, 0)), (1, vI v), (2, vI u)]) dX12_areCells_97 rfl (by decide) rfl ?_
                      refine w_iincB (j := 1) (f := fun z69_ => [(5, vI z69_), (3, vI 0), (4, vI v4_16), (0, vR (12, 0, 0)), (1, vI v), (2, vI u)]) dX12_areCells_98 rfl (by decide) (fun _ => rfl) (rfl : v5_50.toInt = v5_50.toInt) li_1 (lf_c_X12_areCells_11 v4_16 v5_50 hv1_16 hv0_50 h65_ ) (fun z69_ h70_ => ?_)
                      refine w_goto (tgt := 50) dX12_areCells_101 (by decide) ?_
                      refine w_loc (ls' := [(5, vI z69_), (3, vI 0), (4, vI v4_16), (0, vR (12, 0, 0)), (1, vI v), (2, vI u)]) [0, 1, 2, 3, 4, 5] rfl ?_
                      exact ih_50 z69_ 0 (lf_c_X12_toldBy_13 v5_50 z69_ hv0_50 h70_ ) (lf_c_X12_areCells_13 v4_16 v5_50 z69_ h65_ h70_ ) (lf_c_X12_areCells_14 ) (RCH.tail hL_50 ⟨hv0_50, hv1_50, hv2_50, h65_, (Or.inl ⟨h68_, z69_, h70_, rfl, rfl⟩)⟩) (Nat.lt_of_lt_of_le (lf_c_X12_areCells_15 v4_16 v5_50 z69_ h65_ h70_ ) (Nat.le_of_lt_succ hm_50))
                    · refine w_iload_n dX12_areCells_61 rfl 5 rfl ?_
                      refine w_if_eq (tgt := 92) dX12_areCells_62 (by decide) (rfl : u.toInt = u.toInt) (fun h71_ => ?_) (fun h71_ => ?_)
                      · refine w_iconst (v := 1) dX12_areCells_92 (by decide) ?_
                        refine w_goto (tgt := 97) dX12_areCells_93 (by decide) ?_
                        refine w_istore_n (ls' := [(3, vI 1), (5, vI v5_50), (4, vI v4_16), (0, vR (12, 0, 0)), (1, vI v), (2, vI u)]) dX12_areCells_97 rfl (by decide) rfl ?_
                        refine w_iincB (j := 1) (f := fun z72_ => [(5, vI z72_), (3, vI 1), (4, vI v4_16), (0, vR (12, 0, 0)), (1, vI v), (2, vI u)]) dX12_areCells_98 rfl (by decide) (fun _ => rfl) (rfl : v5_50.toInt = v5_50.toInt) li_1 (lf_c_X12_areCells_11 v4_16 v5_50 hv1_16 hv0_50 h65_ ) (fun z72_ h73_ => ?_)
                        refine w_goto (tgt := 50) dX12_areCells_101 (by decide) ?_
                        refine w_loc (ls' := [(5, vI z72_), (3, vI 1), (4, vI v4_16), (0, vR (12, 0, 0)), (1, vI v), (2, vI u)]) [0, 1, 2, 3, 4, 5] rfl ?_
                        exact ih_50 z72_ 1 (lf_c_X12_toldBy_9 v5_50 z72_ hv0_50 h73_ ) (lf_c_X12_areCells_18 v4_16 v5_50 z72_ h65_ h73_ ) (lf_c_X12_areCells_19 ) (RCH.tail hL_50 ⟨hv0_50, hv1_50, hv2_50, h65_, (Or.inr ⟨h68_, (Or.inl ⟨h71_, z72_, h73_, rfl, rfl⟩)⟩)⟩) (Nat.lt_of_lt_of_le (lf_c_X12_areCells_20 v4_16 v5_50 z72_ h65_ h73_ ) (Nat.le_of_lt_succ hm_50))
                      · refine w_aload_n dX12_areCells_65 rfl 3 rfl ?_
                        refine w_getR (c' := (68, 0, 0)) fl_RX12_78 rfl rfl ic_12 dX12_areCells_66 rfl ?_
                        refine w_bipush (v := 24) dX12_areCells_69 (by decide) ?_
                        refine w_iload_n dX12_areCells_71 rfl 4 rfl ?_
                        refine w_imulB dX12_areCells_72 li_24 (rfl : v.toInt = v.toInt) (lf_c_X12_areCells_21 v v4_16 z20_ z22_ j26_ hv hv1_16 h21_ h23_ h27_ ) (fun z74_ h75_ => ?_)
                        refine w_iload dX12_areCells_73 0 rfl ?_
                        refine w_iaddB dX12_areCells_75 (rfl : z74_.toInt = z74_.toInt) (rfl : v5_50.toInt = v5_50.toInt) (lf_c_X12_areCells_22 v v4_16 z20_ z22_ j26_ v5_50 z74_ hv hv1_16 h21_ h23_ h27_ hv0_50 h65_ h75_ ) (fun z76_ h77_ => ?_)
                        refine w_iald rfl rfl ic_68 (rfl : z76_.toInt = z76_.toInt) (lf_c_X12_areCells_23 v v4_16 z12_ v5_50 z74_ z76_ hv h16_ h17_ hv0_50 h65_ h75_ h77_ ) dX12_areCells_76 (fun j80_ h81_ z78_ e79_ => ?_)
                        refine w_aload_n dX12_areCells_77 rfl 3 rfl ?_
                        refine w_getR (c' := (68, 0, 0)) fl_RX12_78 rfl rfl ic_12 dX12_areCells_78 rfl ?_
                        refine w_bipush (v := 24) dX12_areCells_81 (by decide) ?_
                        refine w_iload_n dX12_areCells_83 rfl 4 rfl ?_
                        refine w_imulB dX12_areCells_84 li_24 (rfl : v.toInt = v.toInt) (lf_c_X12_areCells_21 v v4_16 z20_ z22_ j26_ hv hv1_16 h21_ h23_ h27_ ) (fun z82_ h83_ => ?_)
                        refine w_iload dX12_areCells_85 2 rfl ?_
                        refine w_iaddB dX12_areCells_87 (rfl : z82_.toInt = z82_.toInt) (rfl : v4_16.toInt = v4_16.toInt) (lf_c_X12_areCells_25 v v4_16 z20_ z22_ j26_ z82_ hv hv1_16 h21_ h23_ h27_ h83_ ) (fun z84_ h85_ => ?_)
                        refine w_iald rfl rfl ic_68 (rfl : z84_.toInt = z84_.toInt) (lf_c_X12_areCells_26 v v4_16 z12_ v5_50 z74_ z76_ j80_ z82_ z84_ hv h16_ h17_ h65_ h75_ h77_ h81_ h83_ h85_ ) dX12_areCells_88 (fun j88_ h89_ z86_ e87_ => ?_)
                        refine w_icmp_eq (tgt := 96) dX12_areCells_89 (by decide) (rfl : z78_.toInt = z78_.toInt) (rfl : z86_.toInt = z86_.toInt) (fun h90_ => ?_) (fun h90_ => ?_)
                        · refine w_iconst (v := 0) dX12_areCells_96 (by decide) ?_
                          refine w_istore_n (ls' := [(3, vI 0), (5, vI v5_50), (4, vI v4_16), (0, vR (12, 0, 0)), (1, vI v), (2, vI u)]) dX12_areCells_97 rfl (by decide) rfl ?_
                          refine w_iincB (j := 1) (f := fun z91_ => [(5, vI z91_), (3, vI 0), (4, vI v4_16), (0, vR (12, 0, 0)), (1, vI v), (2, vI u)]) dX12_areCells_98 rfl (by decide) (fun _ => rfl) (rfl : v5_50.toInt = v5_50.toInt) li_1 (lf_c_X12_areCells_11 v4_16 v5_50 hv1_16 hv0_50 h65_ ) (fun z91_ h92_ => ?_)
                          refine w_goto (tgt := 50) dX12_areCells_101 (by decide) ?_
                          refine w_loc (ls' := [(5, vI z91_), (3, vI 0), (4, vI v4_16), (0, vR (12, 0, 0)), (1, vI v), (2, vI u)]) [0, 1, 2, 3, 4, 5] rfl ?_
                          exact ih_50 z91_ 0 (lf_c_X12_toldBy_13 v5_50 z91_ hv0_50 h92_ ) (lf_c_X12_areCells_13 v4_16 v5_50 z91_ h65_ h92_ ) (lf_c_X12_areCells_14 ) (RCH.tail hL_50 ⟨hv0_50, hv1_50, hv2_50, h65_, (Or.inr ⟨h68_, (Or.inr ⟨h71_, z74_, h75_, z76_, h77_, j80_, h81_, z78_, e79_, z82_, h83_, z84_, h85_, j88_, h89_, z86_, e87_, (Or.inl ⟨h90_, z91_, h92_, rfl, rfl⟩)⟩)⟩)⟩) (Nat.lt_of_lt_of_le (lf_c_X12_areCells_15 v4_16 v5_50 z91_ h65_ h92_ ) (Nat.le_of_lt_succ hm_50))
                        · refine w_iconst (v := 1) dX12_areCells_92 (by decide) ?_
                          refine w_goto (tgt := 97) dX12_areCells_93 (by decide) ?_
                          refine w_istore_n (ls' := [(3, vI 1), (5, vI v5_50), (4, vI v4_16), (0, vR (12, 0, 0)), (1, vI v), (2, vI u)]) dX12_areCells_97 rfl (by decide) rfl ?_
                          refine w_iincB (j := 1) (f := fun z93_ => [(5, vI z93_), (3, vI 1), (4, vI v4_16), (0, vR (12, 0, 0)), (1, vI v), (2, vI u)]) dX12_areCells_98 rfl (by decide) (fun _ => rfl) (rfl : v5_50.toInt = v5_50.toInt) li_1 (lf_c_X12_areCells_11 v4_16 v5_50 hv1_16 hv0_50 h65_ ) (fun z93_ h94_ => ?_)
                          refine w_goto (tgt := 50) dX12_areCells_101 (by decide) ?_
                          refine w_loc (ls' := [(5, vI z93_), (3, vI 1), (4, vI v4_16), (0, vR (12, 0, 0)), (1, vI v), (2, vI u)]) [0, 1, 2, 3, 4, 5] rfl ?_
                          exact ih_50 z93_ 1 (lf_c_X12_toldBy_9 v5_50 z93_ hv0_50 h94_ ) (lf_c_X12_areCells_18 v4_16 v5_50 z93_ h65_ h94_ ) (lf_c_X12_areCells_19 ) (RCH.tail hL_50 ⟨hv0_50, hv1_50, hv2_50, h65_, (Or.inr ⟨h68_, (Or.inr ⟨h71_, z74_, h75_, z76_, h77_, j80_, h81_, z78_, e79_, z82_, h83_, z84_, h85_, j88_, h89_, z86_, e87_, (Or.inr ⟨h90_, z93_, h94_, rfl, rfl⟩)⟩)⟩)⟩) (Nat.lt_of_lt_of_le (lf_c_X12_areCells_20 v4_16 v5_50 z93_ h65_ h94_ ) (Nat.le_of_lt_succ hm_50))
              exact lp64_ _ 0 0 (lf_c_X5_takeFrom_5 ) (lf_c_X12_areCells_71 v4_16 hv0_16 ) (lf_c_X12_areCells_14 ) RCH.refl (Nat.lt_succ_self _)
    exact lp11_ _ 0 1 (lf_c_X12_areCells_37 ) (lf_c_X12_areCells_74 ) (lf_c_X12_areCells_39 ) (Or.inr (fun q9 hq9 => by rw [show q9 = j3_ from Int.ofNat_inj.mp (hq9.trans (lf_c_X12_lays_3 v j3_ h4_ )), ← e2_]; exact (lf_c_X12_areCells_77 z1_ h9_ ))) RCH.refl (Nat.lt_succ_self _)
  · simp only [li_1, li_8] at h9_
    refine w_istore_n (ls' := [(3, vI 0), (0, vR (12, 0, 0)), (1, vI v), (2, vI u)]) dX12_areCells_12 rfl (by decide) rfl ?_
    refine w_iconst (v := 0) dX12_areCells_13 (by decide) ?_
    refine w_istore (ls' := [(4, vI 0), (3, vI 0), (0, vR (12, 0, 0)), (1, vI v), (2, vI u)]) dX12_areCells_14 (by decide) rfl ?_
    have lp95_ : ∀ (nn_16 : Nat) (v4_16 : Int32) (v3_16 : Int32) (hv0_16 : 0 ≤ v4_16.toInt) (hv1_16 : v4_16.toInt ≤ 24) (hv2_16 : 0 ≤ v3_16.toInt ∧ v3_16.toInt ≤ 1) (hv3_16 : v3_16.toInt = 0 ∨ SZ (Mz.1 (67, 0, 0)) v 8) (hL_16 : RCH (fun x_ y_ => ST_X12_areCells_16b v u Mz x_.1 x_.2 y_.1 y_.2) ((0 : Int32), (0 : Int32)) (v4_16, v3_16)), (24 - v4_16.toInt).toNat < nn_16 → WP DD l G cy ad yX12_areCells cX12_areCells 6 (some .boolean) (d + 2) 16 [(4, vI v4_16), (3, vI v3_16), (0, vR (12, 0, 0)), (1, vI v), (2, vI u)] [] Mz (fun r M' => Mz = M' ∧ (((r = 1 ∧ SZ (Mz.1 (67, 0, 0)) v 8) ∨ r = 0)) ∧ SP_X12_areCells v u Mz r) := by
      intro nn_16
      induction nn_16 with
      | zero => intro v4_16 v3_16 hv0_16 hv1_16 hv2_16 hv3_16 hL_16 hm_16; exact absurd hm_16 (Nat.not_lt_zero _)
      | succ nn_16 ih_16 =>
        intro v4_16 v3_16 hv0_16 hv1_16 hv2_16 hv3_16 hL_16 hm_16
        refine w_iload dX12_areCells_16 0 rfl ?_
        refine w_aload_n dX12_areCells_18 rfl 2 rfl ?_
        refine w_getR (c' := (67, 0, 0)) fl_RX12_75 rfl rfl ic_12 dX12_areCells_19 rfl ?_
        refine w_iload_n dX12_areCells_22 rfl 3 rfl ?_
        refine w_iald rfl rfl ic_67 (rfl : v.toInt = v.toInt) (lf_c_X11_lays_0 v hv ) dX12_areCells_23 (fun j98_ h99_ z96_ e97_ => ?_)
        have h100_ : 0 ≤ z96_.toInt ∧ z96_.toInt ≤ 24 := pn_67 hIz e97_
        refine w_icmp_ge (tgt := 110) dX12_areCells_24 (by decide) (rfl : v4_16.toInt = v4_16.toInt) (rfl : z96_.toInt = z96_.toInt) (fun h101_ => ?_) (fun h101_ => ?_)
        · refine w_iload_n dX12_areCells_110 rfl 1 rfl ?_
          exact w_zret rfl dX12_areCells_111 hv2_16 ⟨rfl, (boolSZ (lf_c_X12_areCells_2 v3_16 hv2_16 ) hv3_16), ⟨j3_, h4_, z1_, e2_, h5_, (Or.inr ⟨hs10_, h9_, v4_16, hv0_16, hv1_16, v3_16, hv2_16, hv3_16, hL_16, j98_, h99_, z96_, e97_, h100_, (Or.inl ⟨h101_, rfl⟩)⟩)⟩⟩
        · refine w_iload_n dX12_areCells_27 rfl 1 rfl ?_
          refine w_if_eq (tgt := 110) dX12_areCells_28 (by decide) (rfl : v3_16.toInt = v3_16.toInt) (fun h102_ => ?_) (fun h102_ => ?_)
          · refine w_iload_n dX12_areCells_110 rfl 1 rfl ?_
            exact w_zret rfl dX12_areCells_111 hv2_16 ⟨rfl, (boolSZ (lf_c_X12_areCells_3 v3_16 hv2_16 h102_ ) hv3_16), ⟨j3_, h4_, z1_, e2_, h5_, (Or.inr ⟨hs10_, h9_, v4_16, hv0_16, hv1_16, v3_16, hv2_16, hv3_16, hL_16, j98_, h99_, z96_, e97_, h100_, (Or.inr ⟨h101_, h102_, rfl⟩)⟩)⟩⟩
          · have h103_ : SZ (Mz.1 (67, 0, 0)) v 8 := hv3_16.resolve_left h102_
            refine w_aload_n dX12_areCells_31 rfl 2 rfl ?_
            refine w_getR (c' := (68, 0, 0)) fl_RX12_78 rfl rfl ic_12 dX12_areCells_32 rfl ?_
            refine w_bipush (v := 24) dX12_areCells_35 (by decide) ?_
            refine w_iload_n dX12_areCells_37 rfl 3 rfl ?_
            refine w_imulB dX12_areCells_38 li_24 (rfl : v.toInt = v.toInt) (lf_c_X12_lays_7 v hv ) (fun z104_ h105_ => ?_)
            refine w_iload dX12_areCells_39 0 rfl ?_
            refine w_iaddB dX12_areCells_41 (rfl : z104_.toInt = z104_.toInt) (rfl : v4_16.toInt = v4_16.toInt) (lf_c_X12_areCells_5 v v4_16 z104_ hv hv0_16 hv1_16 h105_ ) (fun z106_ h107_ => ?_)
            refine w_iald rfl rfl ic_68 (rfl : z106_.toInt = z106_.toInt) (lf_c_X12_areCells_6 v v4_16 z96_ z104_ z106_ hv hv0_16 h100_ h101_ h105_ h107_ ) dX12_areCells_42 (fun j110_ h111_ z108_ e109_ => ?_)
            refine w_callS (as := [vI z108_]) (rest := []) (c_X12_isCell l G cy ad d z108_ Mz hIz) kS_X12_isCell pnn_17 (Nat.le_of_ble_eq_true rfl) m_1430 rfl rfl (by decide) (Nat.le_of_ble_eq_true rfl) dX12_areCells_43 (fun r112_ M113_ q114_ => ?_)
            obtain ⟨rfl, h115_, hs116_⟩ := q114_
            rcases h115_ with ⟨rfl, h115_⟩ | ⟨rfl, h115_⟩
            · refine w_istore_n (ls' := [(3, vI 1), (4, vI v4_16), (0, vR (12, 0, 0)), (1, vI v), (2, vI u)]) dX12_areCells_46 rfl (by decide) rfl ?_
              refine w_iconst (v := 0) dX12_areCells_47 (by decide) ?_
              refine w_istore (ls' := [(5, vI 0), (3, vI 1), (4, vI v4_16), (0, vR (12, 0, 0)), (1, vI v), (2, vI u)]) dX12_areCells_48 (by decide) rfl ?_
              have lp117_ : ∀ (nn_50 : Nat) (v5_50 : Int32) (v3_50 : Int32) (hv0_50 : 0 ≤ v5_50.toInt) (hv1_50 : v5_50.toInt ≤ v4_16.toInt) (hv2_50 : 0 ≤ v3_50.toInt ∧ v3_50.toInt ≤ 1) (hL_50 : RCH (fun x_ y_ => ST_X12_areCells_50c v u Mz v4_16 x_.1 x_.2 y_.1 y_.2) ((0 : Int32), (1 : Int32)) (v5_50, v3_50)), (v4_16.toInt - v5_50.toInt).toNat < nn_50 → WP DD l G cy ad yX12_areCells cX12_areCells 6 (some .boolean) (d + 2) 50 [(5, vI v5_50), (3, vI v3_50), (4, vI v4_16), (0, vR (12, 0, 0)), (1, vI v), (2, vI u)] [] Mz (fun r M' => Mz = M' ∧ (((r = 1 ∧ SZ (Mz.1 (67, 0, 0)) v 8) ∨ r = 0)) ∧ SP_X12_areCells v u Mz r) := by
                intro nn_50
                induction nn_50 with
                | zero => intro v5_50 v3_50 hv0_50 hv1_50 hv2_50 hL_50 hm_50; exact absurd hm_50 (Nat.not_lt_zero _)
                | succ nn_50 ih_50 =>
                  intro v5_50 v3_50 hv0_50 hv1_50 hv2_50 hL_50 hm_50
                  refine w_iload dX12_areCells_50 0 rfl ?_
                  refine w_iload dX12_areCells_52 2 rfl ?_
                  refine w_icmp_ge (tgt := 104) dX12_areCells_54 (by decide) (rfl : v5_50.toInt = v5_50.toInt) (rfl : v4_16.toInt = v4_16.toInt) (fun h118_ => ?_) (fun h118_ => ?_)
                  · refine w_iincB (j := 2) (f := fun z119_ => [(4, vI z119_), (5, vI v5_50), (3, vI v3_50), (0, vR (12, 0, 0)), (1, vI v), (2, vI u)]) dX12_areCells_104 rfl (by decide) (fun _ => rfl) (rfl : v4_16.toInt = v4_16.toInt) li_1 (lf_c_X12_areCells_7 v4_16 hv0_16 hv1_16 ) (fun z119_ h120_ => ?_)
                    refine w_goto (tgt := 16) dX12_areCells_107 (by decide) ?_
                    refine w_loc (ls' := [(4, vI z119_), (3, vI v3_50), (0, vR (12, 0, 0)), (1, vI v), (2, vI u)]) [0, 2, 3, 4, 5] rfl ?_
                    exact ih_16 z119_ v3_50 (lf_c_X5_takeFrom_3 v4_16 z119_ hv0_16 h120_ ) (lf_c_X12_areCells_9 v4_16 z96_ z119_ h100_ h101_ h120_ ) hv2_50 (Or.inr h103_) (RCH.tail hL_16 ⟨hv0_16, hv1_16, hv2_16, hv3_16, j98_, h99_, z96_, e97_, h100_, h101_, h102_, h103_, z104_, h105_, z106_, h107_, j110_, h111_, z108_, e109_, (Or.inl ⟨hs116_, h115_, v5_50, hv0_50, hv1_50, v3_50, hv2_50, hL_50, h118_, z119_, h120_, rfl, rfl⟩)⟩) (Nat.lt_of_lt_of_le (lf_c_X12_areCells_10 v4_16 z96_ z119_ h100_ h101_ h120_ ) (Nat.le_of_lt_succ hm_16))
                  · refine w_iload_n dX12_areCells_57 rfl 1 rfl ?_
                    refine w_if_eq (tgt := 96) dX12_areCells_58 (by decide) (rfl : v3_50.toInt = v3_50.toInt) (fun h121_ => ?_) (fun h121_ => ?_)
                    · refine w_iconst (v := 0) dX12_areCells_96 (by decide) ?_
                      refine w_istore_n (ls' := [(3, vI 0), (5, vI v5_50), (4, vI v4_16), (0, vR (12, 0, 0)), (1, vI v), (2, vI u)]) dX12_areCells_97 rfl (by decide) rfl ?_
                      refine w_iincB (j := 1) (f := fun z122_ => [(5, vI z122_), (3, vI 0), (4, vI v4_16), (0, vR (12, 0, 0)), (1, vI v), (2, vI u)]) dX12_areCells_98 rfl (by decide) (fun _ => rfl) (rfl : v5_50.toInt = v5_50.toInt) li_1 (lf_c_X12_areCells_11 v4_16 v5_50 hv1_16 hv0_50 h118_ ) (fun z122_ h123_ => ?_)
                      refine w_goto (tgt := 50) dX12_areCells_101 (by decide) ?_
                      refine w_loc (ls' := [(5, vI z122_), (3, vI 0), (4, vI v4_16), (0, vR (12, 0, 0)), (1, vI v), (2, vI u)]) [0, 1, 2, 3, 4, 5] rfl ?_
                      exact ih_50 z122_ 0 (lf_c_X12_toldBy_13 v5_50 z122_ hv0_50 h123_ ) (lf_c_X12_areCells_13 v4_16 v5_50 z122_ h118_ h123_ ) (lf_c_X12_areCells_14 ) (RCH.tail hL_50 ⟨hv0_50, hv1_50, hv2_50, h118_, (Or.inl ⟨h121_, z122_, h123_, rfl, rfl⟩)⟩) (Nat.lt_of_lt_of_le (lf_c_X12_areCells_15 v4_16 v5_50 z122_ h118_ h123_ ) (Nat.le_of_lt_succ hm_50))
                    · refine w_iload_n dX12_areCells_61 rfl 5 rfl ?_
                      refine w_if_eq (tgt := 92) dX12_areCells_62 (by decide) (rfl : u.toInt = u.toInt) (fun h124_ => ?_) (fun h124_ => ?_)
                      · refine w_iconst (v := 1) dX12_areCells_92 (by decide) ?_
                        refine w_goto (tgt := 97) dX12_areCells_93 (by decide) ?_
                        refine w_istore_n (ls' := [(3, vI 1), (5, vI v5_50), (4, vI v4_16), (0, vR (12, 0, 0)), (1, vI v), (2, vI u)]) dX12_areCells_97 rfl (by decide) rfl ?_
                        refine w_iincB (j := 1) (f := fun z125_ => [(5, vI z125_), (3, vI 1), (4, vI v4_16), (0, vR (12, 0, 0)), (1, vI v), (2, vI u)]) dX12_areCells_98 rfl (by decide) (fun _ => rfl) (rfl : v5_50.toInt = v5_50.toInt) li_1 (lf_c_X12_areCells_11 v4_16 v5_50 hv1_16 hv0_50 h118_ ) (fun z125_ h126_ => ?_)
                        refine w_goto (tgt := 50) dX12_areCells_101 (by decide) ?_
                        refine w_loc (ls' := [(5, vI z125_), (3, vI 1), (4, vI v4_16), (0, vR (12, 0, 0)), (1, vI v), (2, vI u)]) [0, 1, 2, 3, 4, 5] rfl ?_
                        exact ih_50 z125_ 1 (lf_c_X12_toldBy_9 v5_50 z125_ hv0_50 h126_ ) (lf_c_X12_areCells_18 v4_16 v5_50 z125_ h118_ h126_ ) (lf_c_X12_areCells_19 ) (RCH.tail hL_50 ⟨hv0_50, hv1_50, hv2_50, h118_, (Or.inr ⟨h121_, (Or.inl ⟨h124_, z125_, h126_, rfl, rfl⟩)⟩)⟩) (Nat.lt_of_lt_of_le (lf_c_X12_areCells_20 v4_16 v5_50 z125_ h118_ h126_ ) (Nat.le_of_lt_succ hm_50))
                      · refine w_aload_n dX12_areCells_65 rfl 3 rfl ?_
                        refine w_getR (c' := (68, 0, 0)) fl_RX12_78 rfl rfl ic_12 dX12_areCells_66 rfl ?_
                        refine w_bipush (v := 24) dX12_areCells_69 (by decide) ?_
                        refine w_iload_n dX12_areCells_71 rfl 4 rfl ?_
                        refine w_imulB dX12_areCells_72 li_24 (rfl : v.toInt = v.toInt) (lf_c_X12_areCells_21 v v4_16 z104_ z106_ j110_ hv hv1_16 h105_ h107_ h111_ ) (fun z127_ h128_ => ?_)
                        refine w_iload dX12_areCells_73 0 rfl ?_
                        refine w_iaddB dX12_areCells_75 (rfl : z127_.toInt = z127_.toInt) (rfl : v5_50.toInt = v5_50.toInt) (lf_c_X12_areCells_22 v v4_16 z104_ z106_ j110_ v5_50 z127_ hv hv1_16 h105_ h107_ h111_ hv0_50 h118_ h128_ ) (fun z129_ h130_ => ?_)
                        refine w_iald rfl rfl ic_68 (rfl : z129_.toInt = z129_.toInt) (lf_c_X12_areCells_23 v v4_16 z96_ v5_50 z127_ z129_ hv h100_ h101_ hv0_50 h118_ h128_ h130_ ) dX12_areCells_76 (fun j133_ h134_ z131_ e132_ => ?_)
                        refine w_aload_n dX12_areCells_77 rfl 3 rfl ?_
                        refine w_getR (c' := (68, 0, 0)) fl_RX12_78 rfl rfl ic_12 dX12_areCells_78 rfl ?_
                        refine w_bipush (v := 24) dX12_areCells_81 (by decide) ?_
                        refine w_iload_n dX12_areCells_83 rfl 4 rfl ?_
                        refine w_imulB dX12_areCells_84 li_24 (rfl : v.toInt = v.toInt) (lf_c_X12_areCells_21 v v4_16 z104_ z106_ j110_ hv hv1_16 h105_ h107_ h111_ ) (fun z135_ h136_ => ?_)
                        refine w_iload dX12_areCells_85 2 rfl ?_
                        refine w_iaddB dX12_areCells_87 (rfl : z135_.toInt = z135_.toInt) (rfl : v4_16.toInt = v4_16.toInt) (lf_c_X12_areCells_25 v v4_16 z104_ z106_ j110_ z135_ hv hv1_16 h105_ h107_ h111_ h136_ ) (fun z137_ h138_ => ?_)
                        refine w_iald rfl rfl ic_68 (rfl : z137_.toInt = z137_.toInt) (lf_c_X12_areCells_26 v v4_16 z96_ v5_50 z127_ z129_ j133_ z135_ z137_ hv h100_ h101_ h118_ h128_ h130_ h134_ h136_ h138_ ) dX12_areCells_88 (fun j141_ h142_ z139_ e140_ => ?_)
                        refine w_icmp_eq (tgt := 96) dX12_areCells_89 (by decide) (rfl : z131_.toInt = z131_.toInt) (rfl : z139_.toInt = z139_.toInt) (fun h143_ => ?_) (fun h143_ => ?_)
                        · refine w_iconst (v := 0) dX12_areCells_96 (by decide) ?_
                          refine w_istore_n (ls' := [(3, vI 0), (5, vI v5_50), (4, vI v4_16), (0, vR (12, 0, 0)), (1, vI v), (2, vI u)]) dX12_areCells_97 rfl (by decide) rfl ?_
                          refine w_iincB (j := 1) (f := fun z144_ => [(5, vI z144_), (3, vI 0), (4, vI v4_16), (0, vR (12, 0, 0)), (1, vI v), (2, vI u)]) dX12_areCells_98 rfl (by decide) (fun _ => rfl) (rfl : v5_50.toInt = v5_50.toInt) li_1 (lf_c_X12_areCells_11 v4_16 v5_50 hv1_16 hv0_50 h118_ ) (fun z144_ h145_ => ?_)
                          refine w_goto (tgt := 50) dX12_areCells_101 (by decide) ?_
                          refine w_loc (ls' := [(5, vI z144_), (3, vI 0), (4, vI v4_16), (0, vR (12, 0, 0)), (1, vI v), (2, vI u)]) [0, 1, 2, 3, 4, 5] rfl ?_
                          exact ih_50 z144_ 0 (lf_c_X12_toldBy_13 v5_50 z144_ hv0_50 h145_ ) (lf_c_X12_areCells_13 v4_16 v5_50 z144_ h118_ h145_ ) (lf_c_X12_areCells_14 ) (RCH.tail hL_50 ⟨hv0_50, hv1_50, hv2_50, h118_, (Or.inr ⟨h121_, (Or.inr ⟨h124_, z127_, h128_, z129_, h130_, j133_, h134_, z131_, e132_, z135_, h136_, z137_, h138_, j141_, h142_, z139_, e140_, (Or.inl ⟨h143_, z144_, h145_, rfl, rfl⟩)⟩)⟩)⟩) (Nat.lt_of_lt_of_le (lf_c_X12_areCells_15 v4_16 v5_50 z144_ h118_ h145_ ) (Nat.le_of_lt_succ hm_50))
                        · refine w_iconst (v := 1) dX12_areCells_92 (by decide) ?_
                          refine w_goto (tgt := 97) dX12_areCells_93 (by decide) ?_
                          refine w_istore_n (ls' := [(3, vI 1), (5, vI v5_50), (4, vI v4_16), (0, vR (12, 0, 0)), (1, vI v), (2, vI u)]) dX12_areCells_97 rfl (by decide) rfl ?_
                          refine w_iincB (j := 1) (f := fun z146_ => [(5, vI z146_), (3, vI 1), (4, vI v4_16), (0, vR (12, 0, 0)), (1, vI v), (2, vI u)]) dX12_areCells_98 rfl (by decide) (fun _ => rfl) (rfl : v5_50.toInt = v5_50.toInt) li_1 (lf_c_X12_areCells_11 v4_16 v5_50 hv1_16 hv0_50 h118_ ) (fun z146_ h147_ => ?_)
                          refine w_goto (tgt := 50) dX12_areCells_101 (by decide) ?_
                          refine w_loc (ls' := [(5, vI z146_), (3, vI 1), (4, vI v4_16), (0, vR (12, 0, 0)), (1, vI v), (2, vI u)]) [0, 1, 2, 3, 4, 5] rfl ?_
                          exact ih_50 z146_ 1 (lf_c_X12_toldBy_9 v5_50 z146_ hv0_50 h147_ ) (lf_c_X12_areCells_18 v4_16 v5_50 z146_ h118_ h147_ ) (lf_c_X12_areCells_19 ) (RCH.tail hL_50 ⟨hv0_50, hv1_50, hv2_50, h118_, (Or.inr ⟨h121_, (Or.inr ⟨h124_, z127_, h128_, z129_, h130_, j133_, h134_, z131_, e132_, z135_, h136_, z137_, h138_, j141_, h142_, z139_, e140_, (Or.inr ⟨h143_, z146_, h147_, rfl, rfl⟩)⟩)⟩)⟩) (Nat.lt_of_lt_of_le (lf_c_X12_areCells_20 v4_16 v5_50 z146_ h118_ h147_ ) (Nat.le_of_lt_succ hm_50))
              exact lp117_ _ 0 1 (lf_c_X12_areCells_37 ) (lf_c_X12_areCells_38 v4_16 hv0_16 ) (lf_c_X12_areCells_39 ) RCH.refl (Nat.lt_succ_self _)
            · refine w_istore_n (ls' := [(3, vI 0), (4, vI v4_16), (0, vR (12, 0, 0)), (1, vI v), (2, vI u)]) dX12_areCells_46 rfl (by decide) rfl ?_
              refine w_iconst (v := 0) dX12_areCells_47 (by decide) ?_
              refine w_istore (ls' := [(5, vI 0), (3, vI 0), (4, vI v4_16), (0, vR (12, 0, 0)), (1, vI v), (2, vI u)]) dX12_areCells_48 (by decide) rfl ?_
              have lp148_ : ∀ (nn_50 : Nat) (v5_50 : Int32) (v3_50 : Int32) (hv0_50 : 0 ≤ v5_50.toInt) (hv1_50 : v5_50.toInt ≤ v4_16.toInt) (hv2_50 : 0 ≤ v3_50.toInt ∧ v3_50.toInt ≤ 1) (hL_50 : RCH (fun x_ y_ => ST_X12_areCells_50d v u Mz v4_16 x_.1 x_.2 y_.1 y_.2) ((0 : Int32), (0 : Int32)) (v5_50, v3_50)), (v4_16.toInt - v5_50.toInt).toNat < nn_50 → WP DD l G cy ad yX12_areCells cX12_areCells 6 (some .boolean) (d + 2) 50 [(5, vI v5_50), (3, vI v3_50), (4, vI v4_16), (0, vR (12, 0, 0)), (1, vI v), (2, vI u)] [] Mz (fun r M' => Mz = M' ∧ (((r = 1 ∧ SZ (Mz.1 (67, 0, 0)) v 8) ∨ r = 0)) ∧ SP_X12_areCells v u Mz r) := by
                intro nn_50
                induction nn_50 with
                | zero => intro v5_50 v3_50 hv0_50 hv1_50 hv2_50 hL_50 hm_50; exact absurd hm_50 (Nat.not_lt_zero _)
                | succ nn_50 ih_50 =>
                  intro v5_50 v3_50 hv0_50 hv1_50 hv2_50 hL_50 hm_50
                  refine w_iload dX12_areCells_50 0 rfl ?_
                  refine w_iload dX12_areCells_52 2 rfl ?_
                  refine w_icmp_ge (tgt := 104) dX12_areCells_54 (by decide) (rfl : v5_50.toInt = v5_50.toInt) (rfl : v4_16.toInt = v4_16.toInt) (fun h149_ => ?_) (fun h149_ => ?_)
                  · refine w_iincB (j := 2) (f := fun z150_ => [(4, vI z150_), (5, vI v5_50), (3, vI v3_50), (0, vR (12, 0, 0)), (1, vI v), (2, vI u)]) dX12_areCells_104 rfl (by decide) (fun _ => rfl) (rfl : v4_16.toInt = v4_16.toInt) li_1 (lf_c_X12_areCells_7 v4_16 hv0_16 hv1_16 ) (fun z150_ h151_ => ?_)
                    refine w_goto (tgt := 16) dX12_areCells_107 (by decide) ?_
                    refine w_loc (ls' := [(4, vI z150_), (3, vI v3_50), (0, vR (12, 0, 0)), (1, vI v), (2, vI u)]) [0, 2, 3, 4, 5] rfl ?_
                    exact ih_16 z150_ v3_50 (lf_c_X5_takeFrom_3 v4_16 z150_ hv0_16 h151_ ) (lf_c_X12_areCells_9 v4_16 z96_ z150_ h100_ h101_ h151_ ) hv2_50 (Or.inr h103_) (RCH.tail hL_16 ⟨hv0_16, hv1_16, hv2_16, hv3_16, j98_, h99_, z96_, e97_, h100_, h101_, h102_, h103_, z104_, h105_, z106_, h107_, j110_, h111_, z108_, e109_, (Or.inr ⟨hs116_, h115_, v5_50, hv0_50, hv1_50, v3_50, hv2_50, hL_50, h149_, z150_, h151_, rfl, rfl⟩)⟩) (Nat.lt_of_lt_of_le (lf_c_X12_areCells_10 v4_16 z96_ z150_ h100_ h101_ h151_ ) (Nat.le_of_lt_succ hm_16))
                  · refine w_iload_n dX12_areCells_57 rfl 1 rfl ?_
                    refine w_if_eq (tgt := 96) dX12_areCells_58 (by decide) (rfl : v3_50.toInt = v3_50.toInt) (fun h152_ => ?_) (fun h152_ => ?_)
                    · refine w_iconst (v := 0) dX12_areCells_96 (by decide) ?_
                      refine w_istore_n (ls' := [(3, vI 0), (5, vI v5_50), (4, vI v4_16), (0, vR (12, 0, 0)), (1, vI v), (2, vI u)]) dX12_areCells_97 rfl (by decide) rfl ?_
                      refine w_iincB (j := 1) (f := fun z153_ => [(5, vI z153_), (3, vI 0), (4, vI v4_16), (0, vR (12, 0, 0)), (1, vI v), (2, vI u)]) dX12_areCells_98 rfl (by decide) (fun _ => rfl) (rfl : v5_50.toInt = v5_50.toInt) li_1 (lf_c_X12_areCells_11 v4_16 v5_50 hv1_16 hv0_50 h149_ ) (fun z153_ h154_ => ?_)
                      refine w_goto (tgt := 50) dX12_areCells_101 (by decide) ?_
                      refine w_loc (ls' := [(5, vI z153_), (3, vI 0), (4, vI v4_16), (0, vR (12, 0, 0)), (1, vI v), (2, vI u)]) [0, 1, 2, 3, 4, 5] rfl ?_
                      exact ih_50 z153_ 0 (lf_c_X12_toldBy_13 v5_50 z153_ hv0_50 h154_ ) (lf_c_X12_areCells_13 v4_16 v5_50 z153_ h149_ h154_ ) (lf_c_X12_areCells_14 ) (RCH.tail hL_50 ⟨hv0_50, hv1_50, hv2_50, h149_, (Or.inl ⟨h152_, z153_, h154_, rfl, rfl⟩)⟩) (Nat.lt_of_lt_of_le (lf_c_X12_areCells_15 v4_16 v5_50 z153_ h149_ h154_ ) (Nat.le_of_lt_succ hm_50))
                    · refine w_iload_n dX12_areCells_61 rfl 5 rfl ?_
                      refine w_if_eq (tgt := 92) dX12_areCells_62 (by decide) (rfl : u.toInt = u.toInt) (fun h155_ => ?_) (fun h155_ => ?_)
                      · refine w_iconst (v := 1) dX12_areCells_92 (by decide) ?_
                        refine w_goto (tgt := 97) dX12_areCells_93 (by decide) ?_
                        refine w_istore_n (ls' := [(3, vI 1), (5, vI v5_50), (4, vI v4_16), (0, vR (12, 0, 0)), (1, vI v), (2, vI u)]) dX12_areCells_97 rfl (by decide) rfl ?_
                        refine w_iincB (j := 1) (f := fun z156_ => [(5, vI z156_), (3, vI 1), (4, vI v4_16), (0, vR (12, 0, 0)), (1, vI v), (2, vI u)]) dX12_areCells_98 rfl (by decide) (fun _ => rfl) (rfl : v5_50.toInt = v5_50.toInt) li_1 (lf_c_X12_areCells_11 v4_16 v5_50 hv1_16 hv0_50 h149_ ) (fun z156_ h157_ => ?_)
                        refine w_goto (tgt := 50) dX12_areCells_101 (by decide) ?_
                        refine w_loc (ls' := [(5, vI z156_), (3, vI 1), (4, vI v4_16), (0, vR (12, 0, 0)), (1, vI v), (2, vI u)]) [0, 1, 2, 3, 4, 5] rfl ?_
                        exact ih_50 z156_ 1 (lf_c_X12_toldBy_9 v5_50 z156_ hv0_50 h157_ ) (lf_c_X12_areCells_18 v4_16 v5_50 z156_ h149_ h157_ ) (lf_c_X12_areCells_19 ) (RCH.tail hL_50 ⟨hv0_50, hv1_50, hv2_50, h149_, (Or.inr ⟨h152_, (Or.inl ⟨h155_, z156_, h157_, rfl, rfl⟩)⟩)⟩) (Nat.lt_of_lt_of_le (lf_c_X12_areCells_20 v4_16 v5_50 z156_ h149_ h157_ ) (Nat.le_of_lt_succ hm_50))
                      · refine w_aload_n dX12_areCells_65 rfl 3 rfl ?_
                        refine w_getR (c' := (68, 0, 0)) fl_RX12_78 rfl rfl ic_12 dX12_areCells_66 rfl ?_
                        refine w_bipush (v := 24) dX12_areCells_69 (by decide) ?_
                        refine w_iload_n dX12_areCells_71 rfl 4 rfl ?_
                        refine w_imulB dX12_areCells_72 li_24 (rfl : v.toInt = v.toInt) (lf_c_X12_areCells_21 v v4_16 z104_ z106_ j110_ hv hv1_16 h105_ h107_ h111_ ) (fun z158_ h159_ => ?_)
                        refine w_iload dX12_areCells_73 0 rfl ?_
                        refine w_iaddB dX12_areCells_75 (rfl : z158_.toInt = z158_.toInt) (rfl : v5_50.toInt = v5_50.toInt) (lf_c_X12_areCells_22 v v4_16 z104_ z106_ j110_ v5_50 z158_ hv hv1_16 h105_ h107_ h111_ hv0_50 h149_ h159_ ) (fun z160_ h161_ => ?_)
                        refine w_iald rfl rfl ic_68 (rfl : z160_.toInt = z160_.toInt) (lf_c_X12_areCells_23 v v4_16 z96_ v5_50 z158_ z160_ hv h100_ h101_ hv0_50 h149_ h159_ h161_ ) dX12_areCells_76 (fun j164_ h165_ z162_ e163_ => ?_)
                        refine w_aload_n dX12_areCells_77 rfl 3 rfl ?_
                        refine w_getR (c' := (68, 0, 0)) fl_RX12_78 rfl rfl ic_12 dX12_areCells_78 rfl ?_
                        refine w_bipush (v := 24) dX12_areCells_81 (by decide) ?_
                        refine w_iload_n dX12_areCells_83 rfl 4 rfl ?_
                        refine w_imulB dX12_areCells_84 li_24 (rfl : v.toInt = v.toInt) (lf_c_X12_areCells_21 v v4_16 z104_ z106_ j110_ hv hv1_16 h105_ h107_ h111_ ) (fun z166_ h167_ => ?_)
                        refine w_iload dX12_areCells_85 2 rfl ?_
                        refine w_iaddB dX12_areCells_87 (rfl : z166_.toInt = z166_.toInt) (rfl : v4_16.toInt = v4_16.toInt) (lf_c_X12_areCells_25 v v4_16 z104_ z106_ j110_ z166_ hv hv1_16 h105_ h107_ h111_ h167_ ) (fun z168_ h169_ => ?_)
                        refine w_iald rfl rfl ic_68 (rfl : z168_.toInt = z168_.toInt) (lf_c_X12_areCells_26 v v4_16 z96_ v5_50 z158_ z160_ j164_ z166_ z168_ hv h100_ h101_ h149_ h159_ h161_ h165_ h167_ h169_ ) dX12_areCells_88 (fun j172_ h173_ z170_ e171_ => ?_)
                        refine w_icmp_eq (tgt := 96) dX12_areCells_89 (by decide) (rfl : z162_.toInt = z162_.toInt) (rfl : z170_.toInt = z170_.toInt) (fun h174_ => ?_) (fun h174_ => ?_)
                        · refine w_iconst (v := 0) dX12_areCells_96 (by decide) ?_
                          refine w_istore_n (ls' := [(3, vI 0), (5, vI v5_50), (4, vI v4_16), (0, vR (12, 0, 0)), (1, vI v), (2, vI u)]) dX12_areCells_97 rfl (by decide) rfl ?_
                          refine w_iincB (j := 1) (f := fun z175_ => [(5, vI z175_), (3, vI 0), (4, vI v4_16), (0, vR (12, 0, 0)), (1, vI v), (2, vI u)]) dX12_areCells_98 rfl (by decide) (fun _ => rfl) (rfl : v5_50.toInt = v5_50.toInt) li_1 (lf_c_X12_areCells_11 v4_16 v5_50 hv1_16 hv0_50 h149_ ) (fun z175_ h176_ => ?_)
                          refine w_goto (tgt := 50) dX12_areCells_101 (by decide) ?_
                          refine w_loc (ls' := [(5, vI z175_), (3, vI 0), (4, vI v4_16), (0, vR (12, 0, 0)), (1, vI v), (2, vI u)]) [0, 1, 2, 3, 4, 5] rfl ?_
                          exact ih_50 z175_ 0 (lf_c_X12_toldBy_13 v5_50 z175_ hv0_50 h176_ ) (lf_c_X12_areCells_13 v4_16 v5_50 z175_ h149_ h176_ ) (lf_c_X12_areCells_14 ) (RCH.tail hL_50 ⟨hv0_50, hv1_50, hv2_50, h149_, (Or.inr ⟨h152_, (Or.inr ⟨h155_, z158_, h159_, z160_, h161_, j164_, h165_, z162_, e163_, z166_, h167_, z168_, h169_, j172_, h173_, z170_, e171_, (Or.inl ⟨h174_, z175_, h176_, rfl, rfl⟩)⟩)⟩)⟩) (Nat.lt_of_lt_of_le (lf_c_X12_areCells_15 v4_16 v5_50 z175_ h149_ h176_ ) (Nat.le_of_lt_succ hm_50))
                        · refine w_iconst (v := 1) dX12_areCells_92 (by decide) ?_
                          refine w_goto (tgt := 97) dX12_areCells_93 (by decide) ?_
                          refine w_istore_n (ls' := [(3, vI 1), (5, vI v5_50), (4, vI v4_16), (0, vR (12, 0, 0)), (1, vI v), (2, vI u)]) dX12_areCells_97 rfl (by decide) rfl ?_
                          refine w_iincB (j := 1) (f := fun z177_ => [(5, vI z177_), (3, vI 1), (4, vI v4_16), (0, vR (12, 0, 0)), (1, vI v), (2, vI u)]) dX12_areCells_98 rfl (by decide) (fun _ => rfl) (rfl : v5_50.toInt = v5_50.toInt) li_1 (lf_c_X12_areCells_11 v4_16 v5_50 hv1_16 hv0_50 h149_ ) (fun z177_ h178_ => ?_)
                          refine w_goto (tgt := 50) dX12_areCells_101 (by decide) ?_
                          refine w_loc (ls' := [(5, vI z177_), (3, vI 1), (4, vI v4_16), (0, vR (12, 0, 0)), (1, vI v), (2, vI u)]) [0, 1, 2, 3, 4, 5] rfl ?_
                          exact ih_50 z177_ 1 (lf_c_X12_toldBy_9 v5_50 z177_ hv0_50 h178_ ) (lf_c_X12_areCells_18 v4_16 v5_50 z177_ h149_ h178_ ) (lf_c_X12_areCells_19 ) (RCH.tail hL_50 ⟨hv0_50, hv1_50, hv2_50, h149_, (Or.inr ⟨h152_, (Or.inr ⟨h155_, z158_, h159_, z160_, h161_, j164_, h165_, z162_, e163_, z166_, h167_, z168_, h169_, j172_, h173_, z170_, e171_, (Or.inr ⟨h174_, z177_, h178_, rfl, rfl⟩)⟩)⟩)⟩) (Nat.lt_of_lt_of_le (lf_c_X12_areCells_20 v4_16 v5_50 z177_ h149_ h178_ ) (Nat.le_of_lt_succ hm_50))
              exact lp148_ _ 0 0 (lf_c_X5_takeFrom_5 ) (lf_c_X12_areCells_71 v4_16 hv0_16 ) (lf_c_X12_areCells_14 ) RCH.refl (Nat.lt_succ_self _)
    exact lp95_ _ 0 0 (lf_c_X5_takeFrom_5 ) (lf_c_X6_begin_7 ) (lf_c_X12_areCells_14 ) (Or.inl (by decide)) RCH.refl (Nat.lt_succ_self _)
def S_c_X12_spots : rf → Nat → Prop := fun c k => (c.1 = 53 ∧ c.2.1 = 0) ∨ (c.1 = 12 ∧ c.2.1 = 0 ∧ k = 7) ∨ (c.1 = 58 ∧ c.2.1 = 0 ∧ k = 0) ∨ (c.1 = 58 ∧ c.2.1 = 0 ∧ k = 1) ∨ (c.1 = 58 ∧ c.2.1 = 0 ∧ k = 2) ∨ (c.1 = 58 ∧ c.2.1 = 0 ∧ k = 3) ∨ (c.1 = 59 ∧ c.2.1 = 0) ∨ (c.1 = 60 ∧ c.2.1 = 0) ∨ False
def ST_X12_spots_169 (u : Int32) (t : Int32) (M_80 : mM) (v5_80 : Int32) (v8_169 : Int32) (v7_169 : Int32) (v6_169 : Int32) (v8_169y : Int32) (v7_169y : Int32) (v6_169y : Int32) : Prop := (0 ≤ v8_169.toInt) ∧ ∃ j53_ : Nat, ((j53_ : Int) = u.toInt) ∧ ∃ z51_ : Int32, (z51_ = M_80.1 (67, 0, 0) j53_) ∧ (0 ≤ z51_.toInt ∧ z51_.toInt ≤ 24) ∧ (z51_.toInt ≤ 8) ∧ ∃ z57_ : Int32, (z57_ = (1 : Int32) <<< (z51_ &&& 31)) ∧ (v8_169.toInt < z57_.toInt) ∧ ∃ z61_ : Int32, (z61_ = v5_80 ^^^ ((-1) : Int32)) ∧ ∃ z63_ : Int32, (z63_ = v8_169 &&& z61_) ∧ (((¬ z63_.toInt = 0) ∧ ∃ z66_ : Int32, (z66_.toInt = v8_169.toInt + 1) ∧ v8_169y = z66_ ∧ v7_169y = v7_169 ∧ v6_169y = v6_169) ∨ ((z63_.toInt = 0) ∧ ∃ r68_ : Int32, (SP_X12_bits v8_169 M_80 r68_) ∧ (((¬ r68_.toInt = t.toInt) ∧ ∃ z74_ : Int32, (z74_.toInt = v8_169.toInt + 1) ∧ v8_169y = z74_ ∧ v7_169y = v7_169 ∧ v6_169y = v6_169) ∨ ((r68_.toInt = t.toInt) ∧ ∃ r76_ : Int32, (SP_X12_toldBy v8_169 M_80 r76_) ∧ (((r76_.toInt ≤ v7_169.toInt) ∧ ∃ z82_ : Int32, (z82_.toInt = v8_169.toInt + 1) ∧ v8_169y = z82_ ∧ v7_169y = v7_169 ∧ v6_169y = v6_169) ∨ ((v7_169.toInt < r76_.toInt) ∧ ∃ r84_ : Int32, (SP_X12_toldBy v8_169 M_80 r84_) ∧ ∃ z89_ : Int32, (z89_.toInt = v8_169.toInt + 1) ∧ v8_169y = z89_ ∧ v7_169y = r84_ ∧ v6_169y = v8_169))))))
def ST_X12_spots_80 (v : Int32) (u : Int32) (Mz : mM) (v6_80 : Int32) (v5_80 : Int32) (M_80 : mM) (v6_80y : Int32) (v5_80y : Int32) (M_80y : mM) : Prop := (0 ≤ v6_80.toInt) ∧ (InvD M_80) ∧ (FR (S_c_X12_spots) Mz M_80) ∧ ∃ j39_ : Nat, ((j39_ : Int) = u.toInt) ∧ ∃ z37_ : Int32, (z37_ = M_80.1 (67, 0, 0) j39_) ∧ (0 ≤ z37_.toInt ∧ z37_.toInt ≤ 24) ∧ (z37_.toInt ≤ 8) ∧ (v6_80.toInt < z37_.toInt) ∧ ∃ z100_ : Int32, (z100_.toInt = 24 * u.toInt) ∧ ∃ z102_ : Int32, (z102_.toInt = z100_.toInt + v6_80.toInt) ∧ ∃ j106_ : Nat, ((j106_ : Int) = z102_.toInt) ∧ ∃ z104_ : Int32, (z104_ = M_80.1 (68, 0, 0) j106_) ∧ ∃ r108_ : Int32, (SP_X12_isFree z104_ M_80 r108_) ∧ ((0 ≤ r108_.toInt ∧ r108_.toInt ≤ 1)) ∧ (((r108_.toInt = 0) ∧ ∃ z114_ : Int32, (z114_.toInt = v6_80.toInt + 1) ∧ v6_80y = z114_ ∧ v5_80y = v5_80 ∧ M_80y = M_80) ∨ ((¬ r108_.toInt = 0) ∧ ∃ z116_ : Int32, (z116_ = (1 : Int32) <<< (v6_80 &&& 31)) ∧ ∃ z118_ : Int32, (z118_ = v5_80 ||| z116_) ∧ ∃ z120_ : Int32, (z120_.toInt = 24 * u.toInt) ∧ ∃ z122_ : Int32, (z122_.toInt = z120_.toInt + v6_80.toInt) ∧ ∃ j126_ : Nat, ((j126_ : Int) = z122_.toInt) ∧ ∃ z124_ : Int32, (z124_ = M_80.1 (68, 0, 0) j126_) ∧ ∃ M128_ : mM, (InvD M128_) ∧ (FR (S_c_X12_findTold) M_80 M128_) ∧ (SP_X12_findTold v v6_80 z124_ M_80 M128_) ∧ ∃ z136_ : Int32, (z136_.toInt = v6_80.toInt + 1) ∧ v6_80y = z136_ ∧ v5_80y = z118_ ∧ M_80y = M128_))
def SP_X12_spots (v : Int32) (u : Int32) (t : Int32) (s : Int32) (Mz : mM) (r_ : Int32) (M_ : mM) : Prop := (((SP_is2 v Mz (1 : Int32)) ∧ (0 ≤ v.toInt ∧ v.toInt ≤ 7) ∧ (((SP_X12_isSheet u Mz (1 : Int32)) ∧ (0 ≤ u.toInt ∧ u.toInt ≤ 3) ∧ (((SP_X12_within t 1 3 Mz (1 : Int32)) ∧ (1 ≤ t.toInt ∧ t.toInt ≤ 3) ∧ (((SP_X12_within s 0 1 Mz (1 : Int32)) ∧ (0 ≤ s.toInt ∧ s.toInt ≤ 1) ∧ ∃ j27_ : Nat, ((j27_ : Int) = u.toInt) ∧ ∃ z25_ : Int32, (z25_ = Mz.1 (66, 0, 0) j27_) ∧ (((¬ z25_.toInt = 0) ∧ (((SP_X12_areCells u 1 Mz (1 : Int32)) ∧ (SZ (Mz.1 (67, 0, 0)) u 8) ∧ ∃ v6_80 : Int32, (0 ≤ v6_80.toInt) ∧ ∃ v5_80 : Int32, ∃ M_80 : mM, (RCH (fun x_ y_ => ST_X12_spots_80 v u Mz x_.1 x_.2.1 x_.2.2 y_.1 y_.2.1 y_.2.2) ((0 : Int32), (0 : Int32), Mz) (v6_80, v5_80, M_80)) ∧ (InvD M_80) ∧ (FR (S_c_X12_spots) Mz M_80) ∧ ∃ j39_ : Nat, ((j39_ : Int) = u.toInt) ∧ ∃ z37_ : Int32, (z37_ = M_80.1 (67, 0, 0) j39_) ∧ (0 ≤ z37_.toInt ∧ z37_.toInt ≤ 24) ∧ (z37_.toInt ≤ 8) ∧ (z37_.toInt ≤ v6_80.toInt) ∧ ∃ r44_ : Int32, (SP_X12_bits v5_80 M_80 r44_) ∧ (((t.toInt ≤ r44_.toInt) ∧ ∃ v8_169 : Int32, (0 ≤ v8_169.toInt) ∧ ∃ v7_169 : Int32, ∃ v6_169 : Int32, (RCH (fun x_ y_ => ST_X12_spots_169 u t M_80 v5_80 x_.1 x_.2.1 x_.2.2 y_.1 y_.2.1 y_.2.2) ((0 : Int32), ((-1) : Int32), (0 : Int32)) (v8_169, v7_169, v6_169)) ∧ ∃ j53_ : Nat, ((j53_ : Int) = u.toInt) ∧ ∃ z51_ : Int32, (z51_ = M_80.1 (67, 0, 0) j53_) ∧ (0 ≤ z51_.toInt ∧ z51_.toInt ≤ 24) ∧ (z51_.toInt ≤ 8) ∧ ∃ z57_ : Int32, (z57_ = (1 : Int32) <<< (z51_ &&& 31)) ∧ (z57_.toInt ≤ v8_169.toInt) ∧ (((¬ s.toInt = 0) ∧ r_ = v6_169 ∧ M_ = M_80) ∨ ((s.toInt = 0) ∧ r_ = v7_169 ∧ M_ = M_80))) ∨ ((r44_.toInt < t.toInt) ∧ ∃ M92_ : mM, (InvD M92_) ∧ (FR (S_c_X12_finding) M_80 M92_) ∧ ∃ r91_ : Int32, (SP_X12_finding (-1000003) M_80 r91_ M92_) ∧ (r91_.toInt = (-1000003)) ∧ r_ = r91_ ∧ M_ = M92_))) ∨ ((SP_X12_areCells u 1 Mz (0 : Int32)) ∧ ∃ M140_ : mM, (InvD M140_) ∧ (FR (S_c_X12_finding) Mz M140_) ∧ ∃ r139_ : Int32, (SP_X12_finding (-1000005) Mz r139_ M140_) ∧ (r139_.toInt = (-1000005)) ∧ r_ = r139_ ∧ M_ = M140_))) ∨ ((z25_.toInt = 0) ∧ ∃ M148_ : mM, (InvD M148_) ∧ (FR (S_c_X12_finding) Mz M148_) ∧ ∃ r147_ : Int32, (SP_X12_finding (-1000002) Mz r147_ M148_) ∧ (r147_.toInt = (-1000002)) ∧ r_ = r147_ ∧ M_ = M148_))) ∨ ((SP_X12_within s 0 1 Mz (0 : Int32)) ∧ (¬ (0 ≤ s.toInt ∧ s.toInt ≤ 1)) ∧ ∃ M157_ : mM, (InvD M157_) ∧ (FR (S_c_X12_finding) Mz M157_) ∧ ∃ r156_ : Int32, (SP_X12_finding (-1000001) Mz r156_ M157_) ∧ (r156_.toInt = (-1000001)) ∧ r_ = r156_ ∧ M_ = M157_))) ∨ ((SP_X12_within t 1 3 Mz (0 : Int32)) ∧ (¬ (1 ≤ t.toInt ∧ t.toInt ≤ 3)) ∧ ∃ M166_ : mM, (InvD M166_) ∧ (FR (S_c_X12_finding) Mz M166_) ∧ ∃ r165_ : Int32, (SP_X12_finding (-1000001) Mz r165_ M166_) ∧ (r165_.toInt = (-1000001)) ∧ r_ = r165_ ∧ M_ = M166_))) ∨ ((SP_X12_isSheet u Mz (0 : Int32)) ∧ (¬ (0 ≤ u.toInt ∧ u.toInt ≤ 3)) ∧ ∃ M175_ : mM, (InvD M175_) ∧ (FR (S_c_X12_finding) Mz M175_) ∧ ∃ r174_ : Int32, (SP_X12_finding (-1000001) Mz r174_ M175_) ∧ (r174_.toInt = (-1000001)) ∧ r_ = r174_ ∧ M_ = M175_))) ∨ ((SP_is2 v Mz (0 : Int32)) ∧ ∃ M184_ : mM, (InvD M184_) ∧ (FR (S_c_X12_finding) Mz M184_) ∧ ∃ r183_ : Int32, (SP_X12_finding (-1000001) Mz r183_ M184_) ∧ (r183_.toInt = (-1000001)) ∧ r_ = r183_ ∧ M_ = M184_))
theorem lf_c_X12_spots_19 (u : Int32) (v6_80 : Int32) (z37_ : Int32) (z100_ : Int32) (h10_ : 0 ≤ u.toInt ∧ u.toInt ≤ 3) (hv0_80 : 0 ≤ v6_80.toInt) (h42_ : z37_.toInt ≤ 8) (h43_ : v6_80.toInt < z37_.toInt) (h101_ : z100_.toInt = 24 * u.toInt) : -2147483648 ≤ z100_.toInt + v6_80.toInt ∧ z100_.toInt + v6_80.toInt < 2147483648 := by omega
theorem lf_c_X12_spots_20 (u : Int32) (v6_80 : Int32) (z37_ : Int32) (z100_ : Int32) (z102_ : Int32) (h10_ : 0 ≤ u.toInt ∧ u.toInt ≤ 3) (hv0_80 : 0 ≤ v6_80.toInt) (h42_ : z37_.toInt ≤ 8) (h43_ : v6_80.toInt < z37_.toInt) (h101_ : z100_.toInt = 24 * u.toInt) (h103_ : z102_.toInt = z100_.toInt + v6_80.toInt) : 0 ≤ z102_.toInt ∧ z102_.toInt < ((96 : Nat) : Int) := by omega
theorem lf_c_X12_spots_21 (v6_80 : Int32) (z37_ : Int32) (hv0_80 : 0 ≤ v6_80.toInt) (h42_ : z37_.toInt ≤ 8) (h43_ : v6_80.toInt < z37_.toInt) : -2147483648 ≤ v6_80.toInt + 1 ∧ v6_80.toInt + 1 < 2147483648 := by omega
theorem lf_c_X12_spots_23 (v6_80 : Int32) (z37_ : Int32) (z114_ : Int32) (h42_ : z37_.toInt ≤ 8) (h43_ : v6_80.toInt < z37_.toInt) (h115_ : z114_.toInt = v6_80.toInt + 1) : (2147483648 - z114_.toInt).toNat < (2147483648 - v6_80.toInt).toNat := by omega
theorem lf_c_X12_spots_24 (u : Int32) (v6_80 : Int32) (z37_ : Int32) (z100_ : Int32) (z102_ : Int32) (j106_ : Nat) (h10_ : 0 ≤ u.toInt ∧ u.toInt ≤ 3) (h42_ : z37_.toInt ≤ 8) (h43_ : v6_80.toInt < z37_.toInt) (h101_ : z100_.toInt = 24 * u.toInt) (h103_ : z102_.toInt = z100_.toInt + v6_80.toInt) (h107_ : (j106_ : Int) = z102_.toInt) : -2147483648 ≤ 24 * u.toInt ∧ 24 * u.toInt < 2147483648 := by omega
theorem lf_c_X12_spots_25 (u : Int32) (v6_80 : Int32) (z37_ : Int32) (z100_ : Int32) (z102_ : Int32) (j106_ : Nat) (z120_ : Int32) (h10_ : 0 ≤ u.toInt ∧ u.toInt ≤ 3) (h42_ : z37_.toInt ≤ 8) (h43_ : v6_80.toInt < z37_.toInt) (h101_ : z100_.toInt = 24 * u.toInt) (h103_ : z102_.toInt = z100_.toInt + v6_80.toInt) (h107_ : (j106_ : Int) = z102_.toInt) (h121_ : z120_.toInt = 24 * u.toInt) : -2147483648 ≤ z120_.toInt + v6_80.toInt ∧ z120_.toInt + v6_80.toInt < 2147483648 := by omega
theorem lf_c_X12_spots_26 (u : Int32) (v6_80 : Int32) (z37_ : Int32) (z100_ : Int32) (z102_ : Int32) (j106_ : Nat) (z120_ : Int32) (z122_ : Int32) (h10_ : 0 ≤ u.toInt ∧ u.toInt ≤ 3) (h42_ : z37_.toInt ≤ 8) (h43_ : v6_80.toInt < z37_.toInt) (h101_ : z100_.toInt = 24 * u.toInt) (h103_ : z102_.toInt = z100_.toInt + v6_80.toInt) (h107_ : (j106_ : Int) = z102_.toInt) (h121_ : z120_.toInt = 24 * u.toInt) (h123_ : z122_.toInt = z120_.toInt + v6_80.toInt) : 0 ≤ z122_.toInt ∧ z122_.toInt < ((96 : Nat) : Int) := by omega
theorem lf_c_X12_spots_27 (v6_80 : Int32) (z37_ : Int32) (hv0_80 : 0 ≤ v6_80.toInt) (h42_ : z37_.toInt ≤ 8) (h43_ : v6_80.toInt < z37_.toInt) : 0 ≤ v6_80.toInt ∧ v6_80.toInt ≤ 7 := by omega
set_option maxHeartbeats 4000000 in
set_option maxRecDepth 100000 in
theorem c_X12_spots (l : Launch) (G : va_G) (cy : Nat → ClassId) (ad : rf → Nat) (d : Nat) (v : Int32) (u : Int32) (t : Int32) (s : Int32) (Mz : mM) (hIz : InvD Mz) : WP DD l G cy ad yX12_spots cX12_spots 9 (some .int) (d + 6) 0 [(0, vR (12, 0, 0)), (1, vI v), (2, vI u), (3, vI t), (4, vI s)] [] Mz (fun r M' => InvD M' ∧ FR (S_c_X12_spots) Mz M' ∧ (True) ∧ SP_X12_spots v u t s Mz r M') := by
  have hFz : FR (S_c_X12_spots) Mz Mz := FR.self
  refine w_aload_n dX12_spots_0 rfl 0 rfl ?_
  refine w_iload_n dX12_spots_1 rfl 1 rfl ?_
  refine w_iconst (v := 2) dX12_spots_2 (by decide) ?_
  refine w_callV (as := [vI v, vI 2]) (rest := []) (c_is2 l G cy ad (d + 4) v Mz hIz) kV_X12_is pnn_17 (Nat.le_of_ble_eq_true rfl) m_1465 rfl rfl rfl ic_12 rfl rfl (by decide) (Nat.le_of_ble_eq_true rfl) dX12_spots_3 (fun r1_ M2_ q3_ => ?_)
  obtain ⟨rfl, h4_, hs5_⟩ := q3_
  rcases h4_ with ⟨rfl, h4_⟩ | rfl
  · refine w_if_eq (tgt := 35) dX12_spots_6 (by decide) li_1 (fun h9 => (absurd h9 (by decide))) (fun h6_ => ?_)
    refine w_iload_n dX12_spots_9 rfl 2 rfl ?_
    refine w_callS (as := [vI u]) (rest := []) (c_X12_isSheet l G cy ad (d + 4) u Mz hIz) kS_X12_isSheet pnn_17 (Nat.le_of_ble_eq_true rfl) m_1497 rfl rfl (by decide) (Nat.le_of_ble_eq_true rfl) dX12_spots_10 (fun r7_ M8_ q9_ => ?_)
    obtain ⟨rfl, h10_, hs11_⟩ := q9_
    rcases h10_ with ⟨rfl, h10_⟩ | ⟨rfl, h10_⟩
    · refine w_if_eq (tgt := 35) dX12_spots_13 (by decide) li_1 (fun h9 => (absurd h9 (by decide))) (fun h12_ => ?_)
      refine w_iload_n dX12_spots_16 rfl 3 rfl ?_
      refine w_iconst (v := 1) dX12_spots_17 (by decide) ?_
      refine w_iconst (v := 3) dX12_spots_18 (by decide) ?_
      refine w_callS (as := [vI t, vI 1, vI 3]) (rest := []) (c_X12_within l G cy ad (d + 5) t 1 3 Mz hIz) kS_X12_within pnn_17 (Nat.le_of_ble_eq_true rfl) m_1427 rfl rfl (by decide) (Nat.le_of_ble_eq_true rfl) dX12_spots_19 (fun r13_ M14_ q15_ => ?_)
      obtain ⟨rfl, h16_, hs17_⟩ := q15_
      rcases h16_ with ⟨rfl, h16_⟩ | ⟨rfl, h16_⟩
      · simp only [li_1, li_3] at h16_
        refine w_if_eq (tgt := 35) dX12_spots_22 (by decide) li_1 (fun h9 => (absurd h9 (by decide))) (fun h18_ => ?_)
        refine w_iload dX12_spots_25 4 rfl ?_
        refine w_iconst (v := 0) dX12_spots_27 (by decide) ?_
        refine w_iconst (v := 1) dX12_spots_28 (by decide) ?_
        refine w_callS (as := [vI s, vI 0, vI 1]) (rest := []) (c_X12_within l G cy ad (d + 5) s 0 1 Mz hIz) kS_X12_within pnn_17 (Nat.le_of_ble_eq_true rfl) m_1427 rfl rfl (by decide) (Nat.le_of_ble_eq_true rfl) dX12_spots_29 (fun r19_ M20_ q21_ => ?_)
        obtain ⟨rfl, h22_, hs23_⟩ := q21_
        rcases h22_ with ⟨rfl, h22_⟩ | ⟨rfl, h22_⟩
        · simp only [li_0, li_1] at h22_
          refine w_if_ne (tgt := 42) dX12_spots_32 (by decide) li_1 (fun h24_ => ?_) (fun h9 => (absurd h9 (by decide)))
          refine w_aload_n dX12_spots_42 rfl 0 rfl ?_
          refine w_getR (c' := (66, 0, 0)) fl_RX12_72 rfl rfl ic_12 dX12_spots_43 rfl ?_
          refine w_iload_n dX12_spots_46 rfl 2 rfl ?_
          refine w_iald rfl rfl ic_66 (rfl : u.toInt = u.toInt) (lf_c_X11_lays_0 u h10_ ) dX12_spots_47 (fun j27_ h28_ z25_ e26_ => ?_)
          refine w_if_ne (tgt := 58) dX12_spots_48 (by decide) (rfl : z25_.toInt = z25_.toInt) (fun h29_ => ?_) (fun h29_ => ?_)
          · refine w_aload_n dX12_spots_58 rfl 0 rfl ?_
            refine w_iload_n dX12_spots_59 rfl 2 rfl ?_
            refine w_iconst (v := 1) dX12_spots_60 (by decide) ?_
            refine w_callV (as := [vI u, vI 1]) (rest := []) (c_X12_areCells l G cy ad (d + 3) u 1 Mz hIz h10_ (by first | decide | (unfold vF; omega) | (unfold vRw; omega))) kV_X12_areCells pnn_17 (Nat.le_of_ble_eq_true rfl) m_1719 rfl rfl rfl ic_12 rfl rfl (by decide) (Nat.le_of_ble_eq_true rfl) dX12_spots_61 (fun r30_ M31_ q32_ => ?_)
            obtain ⟨rfl, h33_, hs34_⟩ := q32_
            rcases h33_ with ⟨rfl, h33_⟩ | rfl
            · refine w_if_ne (tgt := 74) dX12_spots_64 (by decide) li_1 (fun h35_ => ?_) (fun h9 => (absurd h9 (by decide)))
              refine w_iconst (v := 0) dX12_spots_74 (by decide) ?_
              refine w_istore (ls' := [(5, vI 0), (0, vR (12, 0, 0)), (1, vI v), (2, vI u), (3, vI t), (4, vI s)]) dX12_spots_75 (by decide) rfl ?_
              refine w_iconst (v := 0) dX12_spots_77 (by decide) ?_
              refine w_istore (ls' := [(6, vI 0), (5, vI 0), (0, vR (12, 0, 0)), (1, vI v), (2, vI u), (3, vI t), (4, vI s)]) dX12_spots_78 (by decide) rfl ?_
              have lp36_ : ∀ (nn_80 : Nat) (M_80 : mM) (hI_80 : InvD M_80) (hF_80 : FR (S_c_X12_spots) Mz M_80) (v6_80 : Int32) (v5_80 : Int32) (hv0_80 : 0 ≤ v6_80.toInt) (kv0_80 : SZ (M_80.1 (67, 0, 0)) u 8) (hL_80 : RCH (fun x_ y_ => ST_X12_spots_80 v u Mz x_.1 x_.2.1 x_.2.2 y_.1 y_.2.1 y_.2.2) ((0 : Int32), (0 : Int32), Mz) (v6_80, v5_80, M_80)), (2147483648 - v6_80.toInt).toNat < nn_80 → WP DD l G cy ad yX12_spots cX12_spots 9 (some .int) (d + 6) 80 [(6, vI v6_80), (5, vI v5_80), (0, vR (12, 0, 0)), (1, vI v), (2, vI u), (3, vI t), (4, vI s)] [] M_80 (fun r M' => InvD M' ∧ FR (S_c_X12_spots) Mz M' ∧ (True) ∧ SP_X12_spots v u t s Mz r M') := by
                intro nn_80
                induction nn_80 with
                | zero => intro M_80 hI_80 hF_80 v6_80 v5_80 hv0_80 kv0_80 hL_80 hm_80; exact absurd hm_80 (Nat.not_lt_zero _)
                | succ nn_80 ih_80 =>
                  intro M_80 hI_80 hF_80 v6_80 v5_80 hv0_80 kv0_80 hL_80 hm_80
                  refine w_iload dX12_spots_80 0 rfl ?_
                  refine w_aload_n dX12_spots_82 rfl 2 rfl ?_
                  refine w_getR (c' := (67, 0, 0)) fl_RX12_75 rfl rfl ic_12 dX12_spots_83 rfl ?_
                  refine w_iload_n dX12_spots_86 rfl 4 rfl ?_
                  refine w_iald rfl rfl ic_67 (rfl : u.toInt = u.toInt) (lf_c_X11_lays_0 u h10_ ) dX12_spots_87 (fun j39_ h40_ z37_ e38_ => ?_)
                  have h41_ : 0 ≤ z37_.toInt ∧ z37_.toInt ≤ 24 := pn_67 hI_80 e38_
                  have h42_ : z37_.toInt ≤ 8 := by rw [e38_]; exact kv0_80 j39_ (lf_c_X12_lays_6 u j39_ h40_ )
                  refine w_icmp_ge (tgt := 144) dX12_spots_88 (by decide) (rfl : v6_80.toInt = v6_80.toInt) (rfl : z37_.toInt = z37_.toInt) (fun h43_ => ?_) (fun h43_ => ?_)
                  · refine w_iload dX12_spots_144 1 rfl ?_
                    refine w_callS (as := [vI v5_80]) (rest := []) (c_X12_bits l G cy ad (d + 5) v5_80 M_80 hI_80) kS_X12_bits pnn_17 (Nat.le_of_ble_eq_true rfl) m_1727 rfl rfl (by decide) (Nat.le_of_ble_eq_true rfl) dX12_spots_146 (fun r44_ M45_ q46_ => ?_)
                    obtain ⟨rfl, h47_, hs48_⟩ := q46_
                    refine w_iload_n dX12_spots_149 rfl 5 rfl ?_
                    refine w_icmp_ge (tgt := 160) dX12_spots_150 (by decide) (rfl : r44_.toInt = r44_.toInt) (rfl : t.toInt = t.toInt) (fun h49_ => ?_) (fun h49_ => ?_)
                    · refine w_iconst (v := 0) dX12_spots_160 (by decide) ?_
                      refine w_istore (ls' := [(6, vI 0), (5, vI v5_80), (0, vR (12, 0, 0)), (1, vI v), (2, vI u), (3, vI t), (4, vI s)]) dX12_spots_161 (by decide) rfl ?_
                      refine w_iconst (v := (-1)) dX12_spots_163 (by decide) ?_
                      refine w_istore (ls' := [(7, vI (-1)), (6, vI 0), (5, vI v5_80), (0, vR (12, 0, 0)), (1, vI v), (2, vI u), (3, vI t), (4, vI s)]) dX12_spots_164 (by decide) rfl ?_
                      refine w_iconst (v := 0) dX12_spots_166 (by decide) ?_
                      refine w_istore (ls' := [(8, vI 0), (7, vI (-1)), (6, vI 0), (5, vI v5_80), (0, vR (12, 0, 0)), (1, vI v), (2, vI u), (3, vI t), (4, vI s)]) dX12_spots_167 (by decide) rfl ?_
                      have lp50_ : ∀ (nn_169 : Nat) (v8_169 : Int32) (v7_169 : Int32) (v6_169 : Int32) (hv0_169 : 0 ≤ v8_169.toInt) (hL_169 : RCH (fun x_ y_ => ST_X12_spots_169 u t M_80 v5_80 x_.1 x_.2.1 x_.2.2 y_.1 y_.2.1 y_.2.2) ((0 : Int32), ((-1) : Int32), (0 : Int32)) (v8_169, v7_169, v6_169)), (2147483648 - v8_169.toInt).toNat < nn_169 → WP DD l G cy ad yX12_spots cX12_spots 9 (some .int) (d + 6) 169 [(8, vI v8_169), (7, vI v7_169), (6, vI v6_169), (5, vI v5_80), (0, vR (12, 0, 0)), (1, vI v), (2, vI u), (3, vI t), (4, vI s)] [] M_80 (fun r M' => InvD M' ∧ FR (S_c_X12_spots) Mz M' ∧ (True) ∧ SP_X12_spots v u t s Mz r M') := by
                        intro nn_169
                        induction nn_169 with
                        | zero => intro v8_169 v7_169 v6_169 hv0_169 hL_169 hm_169; exact absurd hm_169 (Nat.not_lt_zero _)
                        | succ nn_169 ih_169 =>
                          intro v8_169 v7_169 v6_169 hv0_169 hL_169 hm_169
                          refine w_iload dX12_spots_169 0 rfl ?_
                          refine w_iconst (v := 1) dX12_spots_171 (by decide) ?_
                          refine w_aload_n dX12_spots_172 rfl 4 rfl ?_
                          refine w_getR (c' := (67, 0, 0)) fl_RX12_75 rfl rfl ic_12 dX12_spots_173 rfl ?_
                          refine w_iload_n dX12_spots_176 rfl 6 rfl ?_
                          refine w_iald rfl rfl ic_67 (rfl : u.toInt = u.toInt) (lf_c_X11_lays_0 u h10_ ) dX12_spots_177 (fun j53_ h54_ z51_ e52_ => ?_)
                          have h55_ : 0 ≤ z51_.toInt ∧ z51_.toInt ≤ 24 := pn_67 hI_80 e52_
                          have h56_ : z51_.toInt ≤ 8 := by rw [e52_]; exact kv0_80 j53_ (lf_c_X12_lays_6 u j53_ h54_ )
                          refine w_ishl dX12_spots_178 (fun z57_ h58_ => ?_)
                          refine w_icmp_ge (tgt := 230) dX12_spots_179 (by decide) (rfl : v8_169.toInt = v8_169.toInt) (rfl : z57_.toInt = z57_.toInt) (fun h59_ => ?_) (fun h59_ => ?_)
                          · refine w_iload dX12_spots_230 8 rfl ?_
                            refine w_if_ne (tgt := 240) dX12_spots_232 (by decide) (rfl : s.toInt = s.toInt) (fun h60_ => ?_) (fun h60_ => ?_)
                            · refine w_iload dX12_spots_240 2 rfl ?_
                              exact w_iret rfl dX12_spots_242 ⟨hI_80, hF_80, trivial, (Or.inl ⟨hs5_, h4_, (Or.inl ⟨hs11_, h10_, (Or.inl ⟨hs17_, h16_, (Or.inl ⟨hs23_, h22_, j27_, h28_, z25_, e26_, (Or.inl ⟨h29_, (Or.inl ⟨hs34_, h33_, v6_80, hv0_80, v5_80, M_80, hL_80, hI_80, hF_80, j39_, h40_, z37_, e38_, h41_, h42_, h43_, r44_, hs48_, (Or.inl ⟨h49_, v8_169, hv0_169, v7_169, v6_169, hL_169, j53_, h54_, z51_, e52_, h55_, h56_, z57_, h58_, h59_, (Or.inl ⟨h60_, rfl, rfl⟩)⟩)⟩)⟩)⟩)⟩)⟩)⟩)⟩
                            · refine w_iload dX12_spots_235 1 rfl ?_
                              refine w_goto (tgt := 242) dX12_spots_237 (by decide) ?_
                              exact w_iret rfl dX12_spots_242 ⟨hI_80, hF_80, trivial, (Or.inl ⟨hs5_, h4_, (Or.inl ⟨hs11_, h10_, (Or.inl ⟨hs17_, h16_, (Or.inl ⟨hs23_, h22_, j27_, h28_, z25_, e26_, (Or.inl ⟨h29_, (Or.inl ⟨hs34_, h33_, v6_80, hv0_80, v5_80, M_80, hL_80, hI_80, hF_80, j39_, h40_, z37_, e38_, h41_, h42_, h43_, r44_, hs48_, (Or.inl ⟨h49_, v8_169, hv0_169, v7_169, v6_169, hL_169, j53_, h54_, z51_, e52_, h55_, h56_, z57_, h58_, h59_, (Or.inr ⟨h60_, rfl, rfl⟩)⟩)⟩)⟩)⟩)⟩)⟩)⟩)⟩
                          · refine w_iload dX12_spots_182 0 rfl ?_
                            refine w_iload dX12_spots_184 3 rfl ?_
                            refine w_iconst (v := (-1)) dX12_spots_186 (by decide) ?_
                            refine w_ixor dX12_spots_187 (fun z61_ h62_ => ?_)
                            refine w_iand dX12_spots_188 (fun z63_ h64_ => ?_)
                            refine w_if_ne (tgt := 224) dX12_spots_189 (by decide) (rfl : z63_.toInt = z63_.toInt) (fun h65_ => ?_) (fun h65_ => ?_)
                            · refine w_iincB (j := 0) (f := fun z66_ => [(8, vI z66_), (7, vI v7_169), (6, vI v6_169), (5, vI v5_80), (0, vR (12, 0, 0)), (1, vI v), (2, vI u), (3, vI t), (4, vI s)]) dX12_spots_224 rfl (by decide) (fun _ => rfl) (rfl : v8_169.toInt = v8_169.toInt) li_1 (lf_c_X5_takeFrom_2 v8_169 z57_ hv0_169 h59_ ) (fun z66_ h67_ => ?_)
                              refine w_goto (tgt := 169) dX12_spots_227 (by decide) ?_
                              refine w_loc (ls' := [(8, vI z66_), (7, vI v7_169), (6, vI v6_169), (5, vI v5_80), (0, vR (12, 0, 0)), (1, vI v), (2, vI u), (3, vI t), (4, vI s)]) [0, 1, 2, 3, 4, 5, 6, 7, 8] rfl ?_
                              exact ih_169 z66_ v7_169 v6_169 (lf_c_X5_takeFrom_3 v8_169 z66_ hv0_169 h67_ ) (RCH.tail hL_169 ⟨hv0_169, j53_, h54_, z51_, e52_, h55_, h56_, z57_, h58_, h59_, z61_, h62_, z63_, h64_, (Or.inl ⟨h65_, z66_, h67_, rfl, rfl, rfl⟩)⟩) (Nat.lt_of_lt_of_le (lf_c_X5_takeFrom_4 v8_169 z66_ h67_ ) (Nat.le_of_lt_succ hm_169))
                            · refine w_iload dX12_spots_192 0 rfl ?_
                              refine w_callS (as := [vI v8_169]) (rest := []) (c_X12_bits l G cy ad (d + 5) v8_169 M_80 hI_80) kS_X12_bits pnn_17 (Nat.le_of_ble_eq_true rfl) m_1727 rfl rfl (by decide) (Nat.le_of_ble_eq_true rfl) dX12_spots_194 (fun r68_ M69_ q70_ => ?_)
                              obtain ⟨rfl, h71_, hs72_⟩ := q70_
                              refine w_iload_n dX12_spots_197 rfl 7 rfl ?_
                              refine w_icmp_ne (tgt := 224) dX12_spots_198 (by decide) (rfl : r68_.toInt = r68_.toInt) (rfl : t.toInt = t.toInt) (fun h73_ => ?_) (fun h73_ => ?_)
                              · refine w_iincB (j := 0) (f := fun z74_ => [(8, vI z74_), (7, vI v7_169), (6, vI v6_169), (5, vI v5_80), (0, vR (12, 0, 0)), (1, vI v), (2, vI u), (3, vI t), (4, vI s)]) dX12_spots_224 rfl (by decide) (fun _ => rfl) (rfl : v8_169.toInt = v8_169.toInt) li_1 (lf_c_X5_takeFrom_2 v8_169 z57_ hv0_169 h59_ ) (fun z74_ h75_ => ?_)
                                refine w_goto (tgt := 169) dX12_spots_227 (by decide) ?_
                                refine w_loc (ls' := [(8, vI z74_), (7, vI v7_169), (6, vI v6_169), (5, vI v5_80), (0, vR (12, 0, 0)), (1, vI v), (2, vI u), (3, vI t), (4, vI s)]) [0, 1, 2, 3, 4, 5, 6, 7, 8] rfl ?_
                                exact ih_169 z74_ v7_169 v6_169 (lf_c_X5_takeFrom_3 v8_169 z74_ hv0_169 h75_ ) (RCH.tail hL_169 ⟨hv0_169, j53_, h54_, z51_, e52_, h55_, h56_, z57_, h58_, h59_, z61_, h62_, z63_, h64_, (Or.inr ⟨h65_, r68_, hs72_, (Or.inl ⟨h73_, z74_, h75_, rfl, rfl, rfl⟩)⟩)⟩) (Nat.lt_of_lt_of_le (lf_c_X5_takeFrom_4 v8_169 z74_ h75_ ) (Nat.le_of_lt_succ hm_169))
                              · refine w_aload_n dX12_spots_201 rfl 4 rfl ?_
                                refine w_iload dX12_spots_202 0 rfl ?_
                                refine w_callV (as := [vI v8_169]) (rest := []) (c_X12_toldBy l G cy ad (d + 5) v8_169 M_80 hI_80) kV_X12_toldBy pnn_17 (Nat.le_of_ble_eq_true rfl) m_1730 rfl rfl rfl ic_12 rfl rfl (by decide) (Nat.le_of_ble_eq_true rfl) dX12_spots_204 (fun r76_ M77_ q78_ => ?_)
                                obtain ⟨rfl, h79_, hs80_⟩ := q78_
                                refine w_iload dX12_spots_207 1 rfl ?_
                                refine w_icmp_le (tgt := 224) dX12_spots_209 (by decide) (rfl : r76_.toInt = r76_.toInt) (rfl : v7_169.toInt = v7_169.toInt) (fun h81_ => ?_) (fun h81_ => ?_)
                                · refine w_iincB (j := 0) (f := fun z82_ => [(8, vI z82_), (7, vI v7_169), (6, vI v6_169), (5, vI v5_80), (0, vR (12, 0, 0)), (1, vI v), (2, vI u), (3, vI t), (4, vI s)]) dX12_spots_224 rfl (by decide) (fun _ => rfl) (rfl : v8_169.toInt = v8_169.toInt) li_1 (lf_c_X5_takeFrom_2 v8_169 z57_ hv0_169 h59_ ) (fun z82_ h83_ => ?_)
                                  refine w_goto (tgt := 169) dX12_spots_227 (by decide) ?_
                                  refine w_loc (ls' := [(8, vI z82_), (7, vI v7_169), (6, vI v6_169), (5, vI v5_80), (0, vR (12, 0, 0)), (1, vI v), (2, vI u), (3, vI t), (4, vI s)]) [0, 1, 2, 3, 4, 5, 6, 7, 8] rfl ?_
                                  exact ih_169 z82_ v7_169 v6_169 (lf_c_X5_takeFrom_3 v8_169 z82_ hv0_169 h83_ ) (RCH.tail hL_169 ⟨hv0_169, j53_, h54_, z51_, e52_, h55_, h56_, z57_, h58_, h59_, z61_, h62_, z63_, h64_, (Or.inr ⟨h65_, r68_, hs72_, (Or.inr ⟨h73_, r76_, hs80_, (Or.inl ⟨h81_, z82_, h83_, rfl, rfl, rfl⟩)⟩)⟩)⟩) (Nat.lt_of_lt_of_le (lf_c_X5_takeFrom_4 v8_169 z82_ h83_ ) (Nat.le_of_lt_succ hm_169))
                                · refine w_iload dX12_spots_212 0 rfl ?_
                                  refine w_istore (ls' := [(6, vI v8_169), (8, vI v8_169), (7, vI v7_169), (5, vI v5_80), (0, vR (12, 0, 0)), (1, vI v), (2, vI u), (3, vI t), (4, vI s)]) dX12_spots_214 (by decide) rfl ?_
                                  refine w_aload_n dX12_spots_216 rfl 4 rfl ?_
                                  refine w_iload dX12_spots_217 1 rfl ?_
                                  refine w_callV (as := [vI v8_169]) (rest := []) (c_X12_toldBy l G cy ad (d + 5) v8_169 M_80 hI_80) kV_X12_toldBy pnn_17 (Nat.le_of_ble_eq_true rfl) m_1730 rfl rfl rfl ic_12 rfl rfl (by decide) (Nat.le_of_ble_eq_true rfl) dX12_spots_219 (fun r84_ M85_ q86_ => ?_)
                                  obtain ⟨rfl, h87_, hs88_⟩ := q86_
                                  refine w_istore (ls' := [(7, vI r84_), (6, vI v8_169), (8, vI v8_169), (5, vI v5_80), (0, vR (12, 0, 0)), (1, vI v), (2, vI u), (3, vI t), (4, vI s)]) dX12_spots_222 (by decide) rfl ?_
                                  refine w_iincB (j := 2) (f := fun z89_ => [(8, vI z89_), (7, vI r84_), (6, vI v8_169), (5, vI v5_80), (0, vR (12, 0, 0)), (1, vI v), (2, vI u), (3, vI t), (4, vI s)]) dX12_spots_224 rfl (by decide) (fun _ => rfl) (rfl : v8_169.toInt = v8_169.toInt) li_1 (lf_c_X5_takeFrom_2 v8_169 z57_ hv0_169 h59_ ) (fun z89_ h90_ => ?_)
                                  refine w_goto (tgt := 169) dX12_spots_227 (by decide) ?_
                                  refine w_loc (ls' := [(8, vI z89_), (7, vI r84_), (6, vI v8_169), (5, vI v5_80), (0, vR (12, 0, 0)), (1, vI v), (2, vI u), (3, vI t), (4, vI s)]) [0, 1, 2, 3, 4, 5, 6, 7, 8] rfl ?_
                                  exact ih_169 z89_ r84_ v8_169 (lf_c_X5_takeFrom_3 v8_169 z89_ hv0_169 h90_ ) (RCH.tail hL_169 ⟨hv0_169, j53_, h54_, z51_, e52_, h55_, h56_, z57_, h58_, h59_, z61_, h62_, z63_, h64_, (Or.inr ⟨h65_, r68_, hs72_, (Or.inr ⟨h73_, r76_, hs80_, (Or.inr ⟨h81_, r84_, hs88_, z89_, h90_, rfl, rfl, rfl⟩)⟩)⟩)⟩) (Nat.lt_of_lt_of_le (lf_c_X5_takeFrom_4 v8_169 z89_ h90_ ) (Nat.le_of_lt_succ hm_169))
                      exact lp50_ _ 0 (-1) 0 (lf_c_X0_nearestOpen_29 ) RCH.refl (Nat.lt_succ_self _)
                    · refine w_aload_n dX12_spots_153 rfl 2 rfl ?_
                      refine w_ldc (v := (-1000003)) m_1455 dX12_spots_154 ?_
                      refine w_callV (as := [vI (-1000003)]) (rest := []) (c_X12_finding l G cy ad (d + 5) (-1000003) M_80 hI_80 (by first | decide | (unfold vF; omega) | (unfold vRw; omega))) kV_X12_finding pnn_17 (Nat.le_of_ble_eq_true rfl) m_1434 rfl rfl rfl ic_12 rfl rfl (by decide) (Nat.le_of_ble_eq_true rfl) dX12_spots_156 (fun r91_ M92_ q93_ => ?_)
                      obtain ⟨hI95_, hF96_, h94_, hs98_⟩ := q93_
                      have hF97_ := hF_80.tr hF96_ (fun c k => (fun h => h.elim (fun h => (Or.inl ⟨h.1, h.2⟩)) (fun h => h.elim)))
                      have kf99_ : SZ (M92_.1 (67, 0, 0)) u 8 := by rw [(show M92_.1 (67, 0, 0) = M_80.1 (67, 0, 0) from funext (fun k => hF96_ (67, 0, 0) k (by simp [S_c_X12_finding])))]; exact kv0_80
                      simp only [li_m1000003] at h94_
                      exact w_iret rfl dX12_spots_159 ⟨hI95_, hF97_, trivial, (Or.inl ⟨hs5_, h4_, (Or.inl ⟨hs11_, h10_, (Or.inl ⟨hs17_, h16_, (Or.inl ⟨hs23_, h22_, j27_, h28_, z25_, e26_, (Or.inl ⟨h29_, (Or.inl ⟨hs34_, h33_, v6_80, hv0_80, v5_80, M_80, hL_80, hI_80, hF_80, j39_, h40_, z37_, e38_, h41_, h42_, h43_, r44_, hs48_, (Or.inr ⟨h49_, M92_, hI95_, hF96_, r91_, hs98_, h94_, rfl, rfl⟩)⟩)⟩)⟩)⟩)⟩)⟩)⟩
                  · refine w_aload_n dX12_spots_91 rfl 2 rfl ?_
                    refine w_aload_n dX12_spots_92 rfl 2 rfl ?_
                    refine w_getR (c' := (68, 0, 0)) fl_RX12_78 rfl rfl ic_12 dX12_spots_93 rfl ?_
                    refine w_bipush (v := 24) dX12_spots_96 (by decide) ?_
                    refine w_iload_n dX12_spots_98 rfl 4 rfl ?_
                    refine w_imulB dX12_spots_99 li_24 (rfl : u.toInt = u.toInt) (lf_c_X12_lays_7 u h10_ ) (fun z100_ h101_ => ?_)
                    refine w_iload dX12_spots_100 0 rfl ?_
                    refine w_iaddB dX12_spots_102 (rfl : z100_.toInt = z100_.toInt) (rfl : v6_80.toInt = v6_80.toInt) (lf_c_X12_spots_19 u v6_80 z37_ z100_ h10_ hv0_80 h42_ h43_ h101_ ) (fun z102_ h103_ => ?_)
                    refine w_iald rfl rfl ic_68 (rfl : z102_.toInt = z102_.toInt) (lf_c_X12_spots_20 u v6_80 z37_ z100_ z102_ h10_ hv0_80 h42_ h43_ h101_ h103_ ) dX12_spots_103 (fun j106_ h107_ z104_ e105_ => ?_)
                    refine w_callV (as := [vI z104_]) (rest := []) (c_X12_isFree l G cy ad (d + 3) z104_ M_80 hI_80) kV_X12_isFree pnn_17 (Nat.le_of_ble_eq_true rfl) m_1439 rfl rfl rfl ic_12 rfl rfl (by decide) (Nat.le_of_ble_eq_true rfl) dX12_spots_104 (fun r108_ M109_ q110_ => ?_)
                    obtain ⟨rfl, h111_, hs112_⟩ := q110_
                    refine w_if_eq (tgt := 138) dX12_spots_107 (by decide) (rfl : r108_.toInt = r108_.toInt) (fun h113_ => ?_) (fun h113_ => ?_)
                    · refine w_iincB (j := 0) (f := fun z114_ => [(6, vI z114_), (5, vI v5_80), (0, vR (12, 0, 0)), (1, vI v), (2, vI u), (3, vI t), (4, vI s)]) dX12_spots_138 rfl (by decide) (fun _ => rfl) (rfl : v6_80.toInt = v6_80.toInt) li_1 (lf_c_X12_spots_21 v6_80 z37_ hv0_80 h42_ h43_ ) (fun z114_ h115_ => ?_)
                      refine w_goto (tgt := 80) dX12_spots_141 (by decide) ?_
                      refine w_loc (ls' := [(6, vI z114_), (5, vI v5_80), (0, vR (12, 0, 0)), (1, vI v), (2, vI u), (3, vI t), (4, vI s)]) [0, 1, 2, 3, 4, 5, 6] rfl ?_
                      exact ih_80 M_80 hI_80 hF_80 z114_ v5_80 (lf_c_X5_takeFrom_3 v6_80 z114_ hv0_80 h115_ ) kv0_80 (RCH.tail hL_80 ⟨hv0_80, hI_80, hF_80, j39_, h40_, z37_, e38_, h41_, h42_, h43_, z100_, h101_, z102_, h103_, j106_, h107_, z104_, e105_, r108_, hs112_, h111_, (Or.inl ⟨h113_, z114_, h115_, rfl, rfl, rfl⟩)⟩) (Nat.lt_of_lt_of_le (lf_c_X12_spots_23 v6_80 z37_ z114_ h42_ h43_ h115_ ) (Nat.le_of_lt_succ hm_80))
                    · refine w_iload dX12_spots_110 1 rfl ?_
                      refine w_iconst (v := 1) dX12_spots_112 (by decide) ?_
                      refine w_iload dX12_spots_113 0 rfl ?_
                      refine w_ishl dX12_spots_115 (fun z116_ h117_ => ?_)
                      refine w_ior dX12_spots_116 (fun z118_ h119_ => ?_)
                      refine w_istore (ls' := [(5, vI z118_), (6, vI v6_80), (0, vR (12, 0, 0)), (1, vI v), (2, vI u), (3, vI t), (4, vI s)]) dX12_spots_117 (by decide) rfl ?_
                      refine w_aload_n dX12_spots_119 rfl 2 rfl ?_
                      refine w_iload_n dX12_spots_120 rfl 3 rfl ?_
                      refine w_iload dX12_spots_121 1 rfl ?_
                      refine w_aload_n dX12_spots_123 rfl 2 rfl ?_
                      refine w_getR (c' := (68, 0, 0)) fl_RX12_78 rfl rfl ic_12 dX12_spots_124 rfl ?_
                      refine w_bipush (v := 24) dX12_spots_127 (by decide) ?_
                      refine w_iload_n dX12_spots_129 rfl 4 rfl ?_
                      refine w_imulB dX12_spots_130 li_24 (rfl : u.toInt = u.toInt) (lf_c_X12_spots_24 u v6_80 z37_ z100_ z102_ j106_ h10_ h42_ h43_ h101_ h103_ h107_ ) (fun z120_ h121_ => ?_)
                      refine w_iload dX12_spots_131 1 rfl ?_
                      refine w_iaddB dX12_spots_133 (rfl : z120_.toInt = z120_.toInt) (rfl : v6_80.toInt = v6_80.toInt) (lf_c_X12_spots_25 u v6_80 z37_ z100_ z102_ j106_ z120_ h10_ h42_ h43_ h101_ h103_ h107_ h121_ ) (fun z122_ h123_ => ?_)
                      refine w_iald rfl rfl ic_68 (rfl : z122_.toInt = z122_.toInt) (lf_c_X12_spots_26 u v6_80 z37_ z100_ z102_ j106_ z120_ z122_ h10_ h42_ h43_ h101_ h103_ h107_ h121_ h123_ ) dX12_spots_134 (fun j126_ h127_ z124_ e125_ => ?_)
                      refine w_callVv (as := [vI v, vI v6_80, vI z124_]) (rest := []) (c_X12_findTold l G cy ad d v v6_80 z124_ M_80 hI_80 h4_ (lf_c_X12_spots_27 v6_80 z37_ hv0_80 h42_ h43_ )) kV_X12_findTold pnn_17 (Nat.le_of_ble_eq_true rfl) m_1723 rfl rfl rfl ic_12 rfl rfl (by decide) (Nat.le_of_ble_eq_true rfl) dX12_spots_135 (fun M128_ q129_ => ?_)
                      obtain ⟨hI131_, hF132_, h130_, hs134_⟩ := q129_
                      have hF133_ := hF_80.tr hF132_ (fun c k => (fun h => h.elim (fun h => (Or.inr (Or.inl ⟨h.1, h.2.1, h.2.2⟩))) (fun h => h.elim (fun h => (Or.inr (Or.inr (Or.inl ⟨h.1, h.2.1, h.2.2⟩)))) (fun h => h.elim (fun h => (Or.inr (Or.inr (Or.inr (Or.inl ⟨h.1, h.2.1, h.2.2⟩))))) (fun h => h.elim (fun h => (Or.inr (Or.inr (Or.inr (Or.inr (Or.inl ⟨h.1, h.2.1, h.2.2⟩)))))) (fun h => h.elim (fun h => (Or.inr (Or.inr (Or.inr (Or.inr (Or.inr (Or.inl ⟨h.1, h.2.1, h.2.2⟩))))))) (fun h => h.elim (fun h => (Or.inr (Or.inr (Or.inr (Or.inr (Or.inr (Or.inr (Or.inl ⟨h.1, h.2⟩)))))))) (fun h => h.elim (fun h => (Or.inr (Or.inr (Or.inr (Or.inr (Or.inr (Or.inr (Or.inr (Or.inl ⟨h.1, h.2⟩))))))))) (fun h => h.elim)))))))))
                      have kf135_ : SZ (M128_.1 (67, 0, 0)) u 8 := by rw [(show M128_.1 (67, 0, 0) = M_80.1 (67, 0, 0) from funext (fun k => hF132_ (67, 0, 0) k (by simp [S_c_X12_findTold])))]; exact kv0_80
                      refine w_iincB (j := 1) (f := fun z136_ => [(6, vI z136_), (5, vI z118_), (0, vR (12, 0, 0)), (1, vI v), (2, vI u), (3, vI t), (4, vI s)]) dX12_spots_138 rfl (by decide) (fun _ => rfl) (rfl : v6_80.toInt = v6_80.toInt) li_1 (lf_c_X12_spots_21 v6_80 z37_ hv0_80 h42_ h43_ ) (fun z136_ h137_ => ?_)
                      refine w_goto (tgt := 80) dX12_spots_141 (by decide) ?_
                      refine w_loc (ls' := [(6, vI z136_), (5, vI z118_), (0, vR (12, 0, 0)), (1, vI v), (2, vI u), (3, vI t), (4, vI s)]) [0, 1, 2, 3, 4, 5, 6] rfl ?_
                      exact ih_80 M128_ hI131_ hF133_ z136_ z118_ (lf_c_X5_takeFrom_3 v6_80 z136_ hv0_80 h137_ ) kf135_ (RCH.tail hL_80 ⟨hv0_80, hI_80, hF_80, j39_, h40_, z37_, e38_, h41_, h42_, h43_, z100_, h101_, z102_, h103_, j106_, h107_, z104_, e105_, r108_, hs112_, h111_, (Or.inr ⟨h113_, z116_, h117_, z118_, h119_, z120_, h121_, z122_, h123_, j126_, h127_, z124_, e125_, M128_, hI131_, hF132_, hs134_, z136_, h137_, rfl, rfl, rfl⟩)⟩) (Nat.lt_of_lt_of_le (lf_c_X12_spots_23 v6_80 z37_ z136_ h42_ h43_ h137_ ) (Nat.le_of_lt_succ hm_80))
              exact lp36_ _ Mz hIz hFz 0 0 (lf_c_X5_takeFrom_5 ) h33_ RCH.refl (Nat.lt_succ_self _)
            · refine w_if_ne (tgt := 74) dX12_spots_64 (by decide) li_0 (fun h9 => (absurd h9 (by decide))) (fun h138_ => ?_)
              refine w_aload_n dX12_spots_67 rfl 0 rfl ?_
              refine w_ldc (v := (-1000005)) m_1476 dX12_spots_68 ?_
              refine w_callV (as := [vI (-1000005)]) (rest := []) (c_X12_finding l G cy ad (d + 5) (-1000005) Mz hIz (by first | decide | (unfold vF; omega) | (unfold vRw; omega))) kV_X12_finding pnn_17 (Nat.le_of_ble_eq_true rfl) m_1434 rfl rfl rfl ic_12 rfl rfl (by decide) (Nat.le_of_ble_eq_true rfl) dX12_spots_70 (fun r139_ M140_ q141_ => ?_)
              obtain ⟨hI143_, hF144_, h142_, hs146_⟩ := q141_
              have hF145_ := hFz.tr hF144_ (fun c k => (fun h => h.elim (fun h => (Or.inl ⟨h.1, h.2⟩)) (fun h => h.elim)))
              simp only [li_m1000005] at h142_
              exact w_iret rfl dX12_spots_73 ⟨hI143_, hF145_, trivial, (Or.inl ⟨hs5_, h4_, (Or.inl ⟨hs11_, h10_, (Or.inl ⟨hs17_, h16_, (Or.inl ⟨hs23_, h22_, j27_, h28_, z25_, e26_, (Or.inl ⟨h29_, (Or.inr ⟨hs34_, M140_, hI143_, hF144_, r139_, hs146_, h142_, rfl, rfl⟩)⟩)⟩)⟩)⟩)⟩)⟩
          · refine w_aload_n dX12_spots_51 rfl 0 rfl ?_
            refine w_ldc (v := (-1000002)) m_1500 dX12_spots_52 ?_
            refine w_callV (as := [vI (-1000002)]) (rest := []) (c_X12_finding l G cy ad (d + 5) (-1000002) Mz hIz (by first | decide | (unfold vF; omega) | (unfold vRw; omega))) kV_X12_finding pnn_17 (Nat.le_of_ble_eq_true rfl) m_1434 rfl rfl rfl ic_12 rfl rfl (by decide) (Nat.le_of_ble_eq_true rfl) dX12_spots_54 (fun r147_ M148_ q149_ => ?_)
            obtain ⟨hI151_, hF152_, h150_, hs154_⟩ := q149_
            have hF153_ := hFz.tr hF152_ (fun c k => (fun h => h.elim (fun h => (Or.inl ⟨h.1, h.2⟩)) (fun h => h.elim)))
            simp only [li_m1000002] at h150_
            exact w_iret rfl dX12_spots_57 ⟨hI151_, hF153_, trivial, (Or.inl ⟨hs5_, h4_, (Or.inl ⟨hs11_, h10_, (Or.inl ⟨hs17_, h16_, (Or.inl ⟨hs23_, h22_, j27_, h28_, z25_, e26_, (Or.inr ⟨h29_, M148_, hI151_, hF152_, r147_, hs154_, h150_, rfl, rfl⟩)⟩)⟩)⟩)⟩)⟩
        · simp only [li_0, li_1] at h22_
          refine w_if_ne (tgt := 42) dX12_spots_32 (by decide) li_0 (fun h9 => (absurd h9 (by decide))) (fun h155_ => ?_)
          refine w_aload_n dX12_spots_35 rfl 0 rfl ?_
          refine w_ldc (v := (-1000001)) m_1433 dX12_spots_36 ?_
          refine w_callV (as := [vI (-1000001)]) (rest := []) (c_X12_finding l G cy ad (d + 5) (-1000001) Mz hIz (by first | decide | (unfold vF; omega) | (unfold vRw; omega))) kV_X12_finding pnn_17 (Nat.le_of_ble_eq_true rfl) m_1434 rfl rfl rfl ic_12 rfl rfl (by decide) (Nat.le_of_ble_eq_true rfl) dX12_spots_38 (fun r156_ M157_ q158_ => ?_)
          obtain ⟨hI160_, hF161_, h159_, hs163_⟩ := q158_
          have hF162_ := hFz.tr hF161_ (fun c k => (fun h => h.elim (fun h => (Or.inl ⟨h.1, h.2⟩)) (fun h => h.elim)))
          simp only [li_m1000001] at h159_
          exact w_iret rfl dX12_spots_41 ⟨hI160_, hF162_, trivial, (Or.inl ⟨hs5_, h4_, (Or.inl ⟨hs11_, h10_, (Or.inl ⟨hs17_, h16_, (Or.inr ⟨hs23_, h22_, M157_, hI160_, hF161_, r156_, hs163_, h159_, rfl, rfl⟩)⟩)⟩)⟩)⟩
      · simp only [li_1, li_3] at h16_
        refine w_if_eq (tgt := 35) dX12_spots_22 (by decide) li_0 (fun h164_ => ?_) (fun h9 => (absurd h9 (by decide)))
        refine w_aload_n dX12_spots_35 rfl 0 rfl ?_
        refine w_ldc (v := (-1000001)) m_1433 dX12_spots_36 ?_
        refine w_callV (as := [vI (-1000001)]) (rest := []) (c_X12_finding l G cy ad (d + 5) (-1000001) Mz hIz (by first | decide | (unfold vF; omega) | (unfold vRw; omega))) kV_X12_finding pnn_17 (Nat.le_of_ble_eq_true rfl) m_1434 rfl rfl rfl ic_12 rfl rfl (by decide) (Nat.le_of_ble_eq_true rfl) dX12_spots_38 (fun r165_ M166_ q167_ => ?_)
        obtain ⟨hI169_, hF170_, h168_, hs172_⟩ := q167_
        have hF171_ := hFz.tr hF170_ (fun c k => (fun h => h.elim (fun h => (Or.inl ⟨h.1, h.2⟩)) (fun h => h.elim)))
        simp only [li_m1000001] at h168_
        exact w_iret rfl dX12_spots_41 ⟨hI169_, hF171_, trivial, (Or.inl ⟨hs5_, h4_, (Or.inl ⟨hs11_, h10_, (Or.inr ⟨hs17_, h16_, M166_, hI169_, hF170_, r165_, hs172_, h168_, rfl, rfl⟩)⟩)⟩)⟩
    · refine w_if_eq (tgt := 35) dX12_spots_13 (by decide) li_0 (fun h173_ => ?_) (fun h9 => (absurd h9 (by decide)))
      refine w_aload_n dX12_spots_35 rfl 0 rfl ?_
      refine w_ldc (v := (-1000001)) m_1433 dX12_spots_36 ?_
      refine w_callV (as := [vI (-1000001)]) (rest := []) (c_X12_finding l G cy ad (d + 5) (-1000001) Mz hIz (by first | decide | (unfold vF; omega) | (unfold vRw; omega))) kV_X12_finding pnn_17 (Nat.le_of_ble_eq_true rfl) m_1434 rfl rfl rfl ic_12 rfl rfl (by decide) (Nat.le_of_ble_eq_true rfl) dX12_spots_38 (fun r174_ M175_ q176_ => ?_)
      obtain ⟨hI178_, hF179_, h177_, hs181_⟩ := q176_
      have hF180_ := hFz.tr hF179_ (fun c k => (fun h => h.elim (fun h => (Or.inl ⟨h.1, h.2⟩)) (fun h => h.elim)))
      simp only [li_m1000001] at h177_
      exact w_iret rfl dX12_spots_41 ⟨hI178_, hF180_, trivial, (Or.inl ⟨hs5_, h4_, (Or.inr ⟨hs11_, h10_, M175_, hI178_, hF179_, r174_, hs181_, h177_, rfl, rfl⟩)⟩)⟩
  · refine w_if_eq (tgt := 35) dX12_spots_6 (by decide) li_0 (fun h182_ => ?_) (fun h9 => (absurd h9 (by decide)))
    refine w_aload_n dX12_spots_35 rfl 0 rfl ?_
    refine w_ldc (v := (-1000001)) m_1433 dX12_spots_36 ?_
    refine w_callV (as := [vI (-1000001)]) (rest := []) (c_X12_finding l G cy ad (d + 5) (-1000001) Mz hIz (by first | decide | (unfold vF; omega) | (unfold vRw; omega))) kV_X12_finding pnn_17 (Nat.le_of_ble_eq_true rfl) m_1434 rfl rfl rfl ic_12 rfl rfl (by decide) (Nat.le_of_ble_eq_true rfl) dX12_spots_38 (fun r183_ M184_ q185_ => ?_)
    obtain ⟨hI187_, hF188_, h186_, hs190_⟩ := q185_
    have hF189_ := hFz.tr hF188_ (fun c k => (fun h => h.elim (fun h => (Or.inl ⟨h.1, h.2⟩)) (fun h => h.elim)))
    simp only [li_m1000001] at h186_
    exact w_iret rfl dX12_spots_41 ⟨hI187_, hF189_, trivial, (Or.inr ⟨hs5_, M184_, hI187_, hF188_, r183_, hs190_, h186_, rfl, rfl⟩)⟩
end
section
/-! words of the tables that are used, by their places; decode rows; fields -/
theorem li_10 : (10 : Int32).toInt = 10 := by decide
theorem li_252 : (252 : Int32).toInt = 252 := by decide
theorem m_63 : Cond.selects yX12_tenth.cls yX12_tenth yX12_tenth ∈ BASE := bmem 63 (by decide +kernel) rfl
theorem m_64 : Cond.selects yX12_thingGoes.cls yX12_thingGoes yX12_thingGoes ∈ BASE := bmem 64 (by decide +kernel) rfl
theorem m_65 : Cond.selects yX12_walkerGoes.cls yX12_walkerGoes yX12_walkerGoes ∈ BASE := bmem 65 (by decide +kernel) rfl
theorem m_66 : Cond.selects yX12_habitOf.cls yX12_habitOf yX12_habitOf ∈ BASE := bmem 66 (by decide +kernel) rfl
theorem m_67 : Cond.selects yX12_fullAhead.cls yX12_fullAhead yX12_fullAhead ∈ BASE := bmem 67 (by decide +kernel) rfl
theorem m_68 : Cond.selects yX12_goesOn.cls yX12_goesOn yX12_goesOn ∈ BASE := bmem 68 (by decide +kernel) rfl
theorem m_72 : Cond.selects yX12_isPost.cls yX12_isPost yX12_isPost ∈ BASE := bmem 72 (by decide +kernel) rfl
set_option maxRecDepth 20000 in
theorem m_1347 : Cond.fieldLink RX12 66 "ClickStreetModel" "posted" "[I" ∈ BASE := bmT6 69 rfl rfl
set_option maxRecDepth 20000 in
theorem m_1738 : Cond.methodLink RX12 301 yX12_tenth ∈ BASE := bmT7 220 rfl rfl
set_option maxRecDepth 20000 in
theorem m_1740 : Cond.instanceMethod yX12_tenth ∈ BASE := bmT7 222 rfl rfl
set_option maxRecDepth 20000 in
theorem m_1741 : Cond.code yX12_tenth cX12_tenth 2 none ∈ BASE := bmT7 223 rfl rfl
set_option maxRecDepth 20000 in
theorem m_1742 : Cond.methodLink RX12 295 yX12_thingGoes ∈ BASE := bmT7 224 rfl rfl
set_option maxRecDepth 20000 in
theorem m_1744 : Cond.instanceMethod yX12_thingGoes ∈ BASE := bmT7 226 rfl rfl
set_option maxRecDepth 20000 in
theorem m_1745 : Cond.code yX12_thingGoes cX12_thingGoes 5 none ∈ BASE := bmT7 227 rfl rfl
set_option maxRecDepth 20000 in
theorem m_1746 : Cond.methodLink RX12 298 yX12_walkerGoes ∈ BASE := bmT7 228 rfl rfl
set_option maxRecDepth 20000 in
theorem m_1748 : Cond.instanceMethod yX12_walkerGoes ∈ BASE := bmT7 230 rfl rfl
set_option maxRecDepth 20000 in
theorem m_1749 : Cond.code yX12_walkerGoes cX12_walkerGoes 5 none ∈ BASE := bmT7 231 rfl rfl
set_option maxRecDepth 20000 in
theorem m_1750 : Cond.methodLink RX12 289 yX12_habitOf ∈ BASE := bmT7 232 rfl rfl
set_option maxRecDepth 20000 in
theorem m_1752 : Cond.instanceMethod yX12_habitOf ∈ BASE := bmT7 234 rfl rfl
set_option maxRecDepth 20000 in
theorem m_1753 : Cond.code yX12_habitOf cX12_habitOf 3 (some .int) ∈ BASE := bmT7 235 rfl rfl
set_option maxRecDepth 20000 in
theorem m_1754 : Cond.methodLink RX12 286 yX12_fullAhead ∈ BASE := bmT7 236 rfl rfl
set_option maxRecDepth 20000 in
theorem m_1756 : Cond.instanceMethod yX12_fullAhead ∈ BASE := bmT7 238 rfl rfl
set_option maxRecDepth 20000 in
theorem m_1757 : Cond.code yX12_fullAhead cX12_fullAhead 5 (some .int) ∈ BASE := bmT7 239 rfl rfl
set_option maxRecDepth 20000 in
theorem m_1758 : Cond.methodLink RX12 292 yX12_goesOn ∈ BASE := bmT8 0 rfl rfl
set_option maxRecDepth 20000 in
theorem m_1760 : Cond.instanceMethod yX12_goesOn ∈ BASE := bmT8 2 rfl rfl
set_option maxRecDepth 20000 in
theorem m_1761 : Cond.code yX12_goesOn cX12_goesOn 5 none ∈ BASE := bmT8 3 rfl rfl
set_option maxRecDepth 20000 in
theorem m_1795 : Cond.methodLink RX12 321 yX12_isPost ∈ BASE := bmT8 37 rfl rfl
set_option maxRecDepth 20000 in
theorem m_1797 : Cond.instanceMethod yX12_isPost ∈ BASE := bmT8 39 rfl rfl
set_option maxRecDepth 20000 in
theorem m_1798 : Cond.code yX12_isPost cX12_isPost 9 (some .boolean) ∈ BASE := bmT8 40 rfl rfl
theorem kV_X12_fullAhead : KV yX12_fullAhead cX12_fullAhead 5 (some .int) 2 := ⟨m_1756, m_67, m_92, m_1757, nhM_17, nhV_17, pdn_8⟩
theorem kV_X12_goesOn : KV yX12_goesOn cX12_goesOn 5 none 1 := ⟨m_1760, m_68, m_92, m_1761, nhM_17, nhV_17, pdn_4⟩
theorem kV_X12_habitOf : KV yX12_habitOf cX12_habitOf 3 (some .int) 1 := ⟨m_1752, m_66, m_92, m_1753, nhM_17, nhV_17, pdn_2⟩
theorem kV_X12_isPost : KV yX12_isPost cX12_isPost 9 (some .boolean) 3 := ⟨m_1797, m_72, m_92, m_1798, nhM_17, nhV_17, pdn_0⟩
theorem kV_X12_tenth : KV yX12_tenth cX12_tenth 2 none 0 := ⟨m_1740, m_63, m_92, m_1741, nhM_17, nhV_17, pdn_30⟩
theorem kV_X12_thingGoes : KV yX12_thingGoes cX12_thingGoes 5 none 1 := ⟨m_1744, m_64, m_92, m_1745, nhM_17, nhV_17, pdn_4⟩
theorem kV_X12_walkerGoes : KV yX12_walkerGoes cX12_walkerGoes 5 none 1 := ⟨m_1748, m_65, m_92, m_1749, nhM_17, nhV_17, pdn_4⟩
theorem fl_RX12_66 : FLK RX12 66 12 24 (.array .int) true := ⟨RX12, TX12, 33, tyX12, rfl, inB12, tyX12_ok, nmX12, by decide, rfl, rfl, Or.inl m_1347⟩
theorem dX12_cost_0 : decode cX12_cost 0 = .ok (.aload_n 0, 1) := by decide +kernel
theorem dX12_cost_1 : decode cX12_cost 1 = .ok (.iload_n 1, 1) := by decide +kernel
theorem dX12_cost_2 : decode cX12_cost 2 = .ok (.iload_n 2, 1) := by decide +kernel
theorem dX12_cost_3 : decode cX12_cost 3 = .ok (.invokevirtual 269, 3) := by decide +kernel
theorem dX12_cost_6 : decode cX12_cost 6 = .ok (.istore_n 3, 1) := by decide +kernel
theorem dX12_cost_7 : decode cX12_cost 7 = .ok (.iload_n 3, 1) := by decide +kernel
theorem dX12_cost_8 : decode cX12_cost 8 = .ok (.iconst 1, 1) := by decide +kernel
theorem dX12_cost_9 : decode cX12_cost 9 = .ok (.if_icmp .ne 7, 3) := by decide +kernel
theorem dX12_cost_12 : decode cX12_cost 12 = .ok (.iconst 1, 1) := by decide +kernel
theorem dX12_cost_13 : decode cX12_cost 13 = .ok (.goto 13, 3) := by decide +kernel
theorem dX12_cost_16 : decode cX12_cost 16 = .ok (.iload_n 3, 1) := by decide +kernel
theorem dX12_cost_17 : decode cX12_cost 17 = .ok (.ifCond .ne 7, 3) := by decide +kernel
theorem dX12_cost_20 : decode cX12_cost 20 = .ok (.iconst 3, 1) := by decide +kernel
theorem dX12_cost_21 : decode cX12_cost 21 = .ok (.goto 5, 3) := by decide +kernel
theorem dX12_cost_24 : decode cX12_cost 24 = .ok (.bipush 20, 2) := by decide +kernel
theorem dX12_cost_26 : decode cX12_cost 26 = .ok (.ireturn, 1) := by decide +kernel
theorem ch_cX12_fullAhead_0 : (cX12_fullAhead.data.toList.drop 0).take 36 = [42, 180, 0, 9, 42, 27, 182, 0, 93, 4, 96, 46, 62, 4, 54, 4, 21, 4, 16, 10, 162, 0, 46, 42, 29, 28, 16, 7, 126, 21, 4, 182, 0, 234, 155, 0] := by decide +kernel
theorem dX12_fullAhead_0 : decode cX12_fullAhead 0 = .ok (.aload_n 0, 1) := do_42 (rdb (p := 0) (i := 0) ch_cX12_fullAhead_0 rfl)
theorem dX12_fullAhead_1 : decode cX12_fullAhead 1 = .ok (.getfield 9, 3) := do_180 (rdb (p := 0) (i := 1) ch_cX12_fullAhead_0 rfl) (rdb (p := 0) (i := 2) ch_cX12_fullAhead_0 rfl) (rdb (p := 0) (i := 3) ch_cX12_fullAhead_0 rfl) rfl
theorem dX12_fullAhead_4 : decode cX12_fullAhead 4 = .ok (.aload_n 0, 1) := do_42 (rdb (p := 0) (i := 4) ch_cX12_fullAhead_0 rfl)
theorem dX12_fullAhead_5 : decode cX12_fullAhead 5 = .ok (.iload_n 1, 1) := do_27 (rdb (p := 0) (i := 5) ch_cX12_fullAhead_0 rfl)
theorem dX12_fullAhead_6 : decode cX12_fullAhead 6 = .ok (.invokevirtual 93, 3) := do_182 (rdb (p := 0) (i := 6) ch_cX12_fullAhead_0 rfl) (rdb (p := 0) (i := 7) ch_cX12_fullAhead_0 rfl) (rdb (p := 0) (i := 8) ch_cX12_fullAhead_0 rfl) rfl
theorem dX12_fullAhead_9 : decode cX12_fullAhead 9 = .ok (.iconst 1, 1) := do_4 (rdb (p := 0) (i := 9) ch_cX12_fullAhead_0 rfl)
theorem dX12_fullAhead_10 : decode cX12_fullAhead 10 = .ok (.iadd, 1) := do_96 (rdb (p := 0) (i := 10) ch_cX12_fullAhead_0 rfl)
theorem dX12_fullAhead_11 : decode cX12_fullAhead 11 = .ok (.iaload, 1) := do_46 (rdb (p := 0) (i := 11) ch_cX12_fullAhead_0 rfl)
theorem dX12_fullAhead_12 : decode cX12_fullAhead 12 = .ok (.istore_n 3, 1) := do_62 (rdb (p := 0) (i := 12) ch_cX12_fullAhead_0 rfl)
theorem dX12_fullAhead_13 : decode cX12_fullAhead 13 = .ok (.iconst 1, 1) := do_4 (rdb (p := 0) (i := 13) ch_cX12_fullAhead_0 rfl)
theorem dX12_fullAhead_14 : decode cX12_fullAhead 14 = .ok (.istore 4, 2) := do_54 (rdb (p := 0) (i := 14) ch_cX12_fullAhead_0 rfl) (rdb (p := 0) (i := 15) ch_cX12_fullAhead_0 rfl)
theorem dX12_fullAhead_16 : decode cX12_fullAhead 16 = .ok (.iload 4, 2) := do_21 (rdb (p := 0) (i := 16) ch_cX12_fullAhead_0 rfl) (rdb (p := 0) (i := 17) ch_cX12_fullAhead_0 rfl)
theorem dX12_fullAhead_18 : decode cX12_fullAhead 18 = .ok (.bipush 10, 2) := do_16 (rdb (p := 0) (i := 18) ch_cX12_fullAhead_0 rfl) (rdb (p := 0) (i := 19) ch_cX12_fullAhead_0 rfl) (by decide +kernel)
theorem dX12_fullAhead_20 : decode cX12_fullAhead 20 = .ok (.if_icmp .ge 46, 3) := do_162 (rdb (p := 0) (i := 20) ch_cX12_fullAhead_0 rfl) (rdb (p := 0) (i := 21) ch_cX12_fullAhead_0 rfl) (rdb (p := 0) (i := 22) ch_cX12_fullAhead_0 rfl) (by decide +kernel)
theorem dX12_fullAhead_23 : decode cX12_fullAhead 23 = .ok (.aload_n 0, 1) := do_42 (rdb (p := 0) (i := 23) ch_cX12_fullAhead_0 rfl)
theorem dX12_fullAhead_24 : decode cX12_fullAhead 24 = .ok (.iload_n 3, 1) := do_29 (rdb (p := 0) (i := 24) ch_cX12_fullAhead_0 rfl)
theorem dX12_fullAhead_25 : decode cX12_fullAhead 25 = .ok (.iload_n 2, 1) := do_28 (rdb (p := 0) (i := 25) ch_cX12_fullAhead_0 rfl)
theorem dX12_fullAhead_26 : decode cX12_fullAhead 26 = .ok (.bipush 7, 2) := do_16 (rdb (p := 0) (i := 26) ch_cX12_fullAhead_0 rfl) (rdb (p := 0) (i := 27) ch_cX12_fullAhead_0 rfl) (by decide +kernel)
theorem dX12_fullAhead_28 : decode cX12_fullAhead 28 = .ok (.iand, 1) := do_126 (rdb (p := 0) (i := 28) ch_cX12_fullAhead_0 rfl)
theorem dX12_fullAhead_29 : decode cX12_fullAhead 29 = .ok (.iload 4, 2) := do_21 (rdb (p := 0) (i := 29) ch_cX12_fullAhead_0 rfl) (rdb (p := 0) (i := 30) ch_cX12_fullAhead_0 rfl)
theorem dX12_fullAhead_31 : decode cX12_fullAhead 31 = .ok (.invokevirtual 234, 3) := do_182 (rdb (p := 0) (i := 31) ch_cX12_fullAhead_0 rfl) (rdb (p := 0) (i := 32) ch_cX12_fullAhead_0 rfl) (rdb (p := 0) (i := 33) ch_cX12_fullAhead_0 rfl) rfl
theorem ch_cX12_fullAhead_32 : (cX12_fullAhead.data.toList.drop 32).take 36 = [0, 234, 155, 0, 32, 42, 27, 42, 29, 28, 16, 7, 126, 21, 4, 182, 0, 234, 182, 1, 13, 5, 160, 0, 6, 21, 4, 172, 132, 4, 1, 167, 255, 209, 3, 172] := by decide +kernel
theorem dX12_fullAhead_34 : decode cX12_fullAhead 34 = .ok (.ifCond .lt 32, 3) := do_155 (rdb (p := 32) (i := 2) ch_cX12_fullAhead_32 rfl) (rdb (p := 32) (i := 3) ch_cX12_fullAhead_32 rfl) (rdb (p := 32) (i := 4) ch_cX12_fullAhead_32 rfl) (by decide +kernel)
theorem dX12_fullAhead_37 : decode cX12_fullAhead 37 = .ok (.aload_n 0, 1) := do_42 (rdb (p := 32) (i := 5) ch_cX12_fullAhead_32 rfl)
theorem dX12_fullAhead_38 : decode cX12_fullAhead 38 = .ok (.iload_n 1, 1) := do_27 (rdb (p := 32) (i := 6) ch_cX12_fullAhead_32 rfl)
theorem dX12_fullAhead_39 : decode cX12_fullAhead 39 = .ok (.aload_n 0, 1) := do_42 (rdb (p := 32) (i := 7) ch_cX12_fullAhead_32 rfl)
theorem dX12_fullAhead_40 : decode cX12_fullAhead 40 = .ok (.iload_n 3, 1) := do_29 (rdb (p := 32) (i := 8) ch_cX12_fullAhead_32 rfl)
theorem dX12_fullAhead_41 : decode cX12_fullAhead 41 = .ok (.iload_n 2, 1) := do_28 (rdb (p := 32) (i := 9) ch_cX12_fullAhead_32 rfl)
theorem dX12_fullAhead_42 : decode cX12_fullAhead 42 = .ok (.bipush 7, 2) := do_16 (rdb (p := 32) (i := 10) ch_cX12_fullAhead_32 rfl) (rdb (p := 32) (i := 11) ch_cX12_fullAhead_32 rfl) (by decide +kernel)
theorem dX12_fullAhead_44 : decode cX12_fullAhead 44 = .ok (.iand, 1) := do_126 (rdb (p := 32) (i := 12) ch_cX12_fullAhead_32 rfl)
theorem dX12_fullAhead_45 : decode cX12_fullAhead 45 = .ok (.iload 4, 2) := do_21 (rdb (p := 32) (i := 13) ch_cX12_fullAhead_32 rfl) (rdb (p := 32) (i := 14) ch_cX12_fullAhead_32 rfl)
theorem dX12_fullAhead_47 : decode cX12_fullAhead 47 = .ok (.invokevirtual 234, 3) := do_182 (rdb (p := 32) (i := 15) ch_cX12_fullAhead_32 rfl) (rdb (p := 32) (i := 16) ch_cX12_fullAhead_32 rfl) (rdb (p := 32) (i := 17) ch_cX12_fullAhead_32 rfl) rfl
theorem dX12_fullAhead_50 : decode cX12_fullAhead 50 = .ok (.invokevirtual 269, 3) := do_182 (rdb (p := 32) (i := 18) ch_cX12_fullAhead_32 rfl) (rdb (p := 32) (i := 19) ch_cX12_fullAhead_32 rfl) (rdb (p := 32) (i := 20) ch_cX12_fullAhead_32 rfl) rfl
theorem dX12_fullAhead_53 : decode cX12_fullAhead 53 = .ok (.iconst 2, 1) := do_5 (rdb (p := 32) (i := 21) ch_cX12_fullAhead_32 rfl)
theorem dX12_fullAhead_54 : decode cX12_fullAhead 54 = .ok (.if_icmp .ne 6, 3) := do_160 (rdb (p := 32) (i := 22) ch_cX12_fullAhead_32 rfl) (rdb (p := 32) (i := 23) ch_cX12_fullAhead_32 rfl) (rdb (p := 32) (i := 24) ch_cX12_fullAhead_32 rfl) (by decide +kernel)
theorem dX12_fullAhead_57 : decode cX12_fullAhead 57 = .ok (.iload 4, 2) := do_21 (rdb (p := 32) (i := 25) ch_cX12_fullAhead_32 rfl) (rdb (p := 32) (i := 26) ch_cX12_fullAhead_32 rfl)
theorem dX12_fullAhead_59 : decode cX12_fullAhead 59 = .ok (.ireturn, 1) := do_172 (rdb (p := 32) (i := 27) ch_cX12_fullAhead_32 rfl)
theorem dX12_fullAhead_60 : decode cX12_fullAhead 60 = .ok (.iinc 4 1, 3) := do_132 (rdb (p := 32) (i := 28) ch_cX12_fullAhead_32 rfl) (rdb (p := 32) (i := 29) ch_cX12_fullAhead_32 rfl) (rdb (p := 32) (i := 30) ch_cX12_fullAhead_32 rfl) (by decide +kernel)
theorem dX12_fullAhead_63 : decode cX12_fullAhead 63 = .ok (.goto (-47), 3) := do_167 (rdb (p := 32) (i := 31) ch_cX12_fullAhead_32 rfl) (rdb (p := 32) (i := 32) ch_cX12_fullAhead_32 rfl) (rdb (p := 32) (i := 33) ch_cX12_fullAhead_32 rfl) (by decide +kernel)
theorem ch_cX12_fullAhead_64 : (cX12_fullAhead.data.toList.drop 64).take 36 = [255, 209, 3, 172] := by decide +kernel
theorem dX12_fullAhead_66 : decode cX12_fullAhead 66 = .ok (.iconst 0, 1) := do_3 (rdb (p := 64) (i := 2) ch_cX12_fullAhead_64 rfl)
theorem dX12_fullAhead_67 : decode cX12_fullAhead 67 = .ok (.ireturn, 1) := do_172 (rdb (p := 64) (i := 3) ch_cX12_fullAhead_64 rfl)
theorem ch_cX12_goesOn_0 : (cX12_goesOn.data.toList.drop 0).take 36 = [42, 27, 182, 0, 93, 61, 42, 27, 182, 0, 137, 16, 7, 160, 0, 7, 5, 167, 0, 4, 4, 62, 29, 158, 0, 87, 42, 42, 180, 0, 9, 28, 4, 96, 46, 42] := by decide +kernel
theorem dX12_goesOn_0 : decode cX12_goesOn 0 = .ok (.aload_n 0, 1) := do_42 (rdb (p := 0) (i := 0) ch_cX12_goesOn_0 rfl)
theorem dX12_goesOn_1 : decode cX12_goesOn 1 = .ok (.iload_n 1, 1) := do_27 (rdb (p := 0) (i := 1) ch_cX12_goesOn_0 rfl)
theorem dX12_goesOn_2 : decode cX12_goesOn 2 = .ok (.invokevirtual 93, 3) := do_182 (rdb (p := 0) (i := 2) ch_cX12_goesOn_0 rfl) (rdb (p := 0) (i := 3) ch_cX12_goesOn_0 rfl) (rdb (p := 0) (i := 4) ch_cX12_goesOn_0 rfl) rfl
theorem dX12_goesOn_5 : decode cX12_goesOn 5 = .ok (.istore_n 2, 1) := do_61 (rdb (p := 0) (i := 5) ch_cX12_goesOn_0 rfl)
theorem dX12_goesOn_6 : decode cX12_goesOn 6 = .ok (.aload_n 0, 1) := do_42 (rdb (p := 0) (i := 6) ch_cX12_goesOn_0 rfl)
theorem dX12_goesOn_7 : decode cX12_goesOn 7 = .ok (.iload_n 1, 1) := do_27 (rdb (p := 0) (i := 7) ch_cX12_goesOn_0 rfl)
theorem dX12_goesOn_8 : decode cX12_goesOn 8 = .ok (.invokevirtual 137, 3) := do_182 (rdb (p := 0) (i := 8) ch_cX12_goesOn_0 rfl) (rdb (p := 0) (i := 9) ch_cX12_goesOn_0 rfl) (rdb (p := 0) (i := 10) ch_cX12_goesOn_0 rfl) rfl
theorem dX12_goesOn_11 : decode cX12_goesOn 11 = .ok (.bipush 7, 2) := do_16 (rdb (p := 0) (i := 11) ch_cX12_goesOn_0 rfl) (rdb (p := 0) (i := 12) ch_cX12_goesOn_0 rfl) (by decide +kernel)
theorem dX12_goesOn_13 : decode cX12_goesOn 13 = .ok (.if_icmp .ne 7, 3) := do_160 (rdb (p := 0) (i := 13) ch_cX12_goesOn_0 rfl) (rdb (p := 0) (i := 14) ch_cX12_goesOn_0 rfl) (rdb (p := 0) (i := 15) ch_cX12_goesOn_0 rfl) (by decide +kernel)
theorem dX12_goesOn_16 : decode cX12_goesOn 16 = .ok (.iconst 2, 1) := do_5 (rdb (p := 0) (i := 16) ch_cX12_goesOn_0 rfl)
theorem dX12_goesOn_17 : decode cX12_goesOn 17 = .ok (.goto 4, 3) := do_167 (rdb (p := 0) (i := 17) ch_cX12_goesOn_0 rfl) (rdb (p := 0) (i := 18) ch_cX12_goesOn_0 rfl) (rdb (p := 0) (i := 19) ch_cX12_goesOn_0 rfl) (by decide +kernel)
theorem dX12_goesOn_20 : decode cX12_goesOn 20 = .ok (.iconst 1, 1) := do_4 (rdb (p := 0) (i := 20) ch_cX12_goesOn_0 rfl)
theorem dX12_goesOn_21 : decode cX12_goesOn 21 = .ok (.istore_n 3, 1) := do_62 (rdb (p := 0) (i := 21) ch_cX12_goesOn_0 rfl)
theorem dX12_goesOn_22 : decode cX12_goesOn 22 = .ok (.iload_n 3, 1) := do_29 (rdb (p := 0) (i := 22) ch_cX12_goesOn_0 rfl)
theorem dX12_goesOn_23 : decode cX12_goesOn 23 = .ok (.ifCond .le 87, 3) := do_158 (rdb (p := 0) (i := 23) ch_cX12_goesOn_0 rfl) (rdb (p := 0) (i := 24) ch_cX12_goesOn_0 rfl) (rdb (p := 0) (i := 25) ch_cX12_goesOn_0 rfl) (by decide +kernel)
theorem dX12_goesOn_26 : decode cX12_goesOn 26 = .ok (.aload_n 0, 1) := do_42 (rdb (p := 0) (i := 26) ch_cX12_goesOn_0 rfl)
theorem dX12_goesOn_27 : decode cX12_goesOn 27 = .ok (.aload_n 0, 1) := do_42 (rdb (p := 0) (i := 27) ch_cX12_goesOn_0 rfl)
theorem dX12_goesOn_28 : decode cX12_goesOn 28 = .ok (.getfield 9, 3) := do_180 (rdb (p := 0) (i := 28) ch_cX12_goesOn_0 rfl) (rdb (p := 0) (i := 29) ch_cX12_goesOn_0 rfl) (rdb (p := 0) (i := 30) ch_cX12_goesOn_0 rfl) rfl
theorem dX12_goesOn_31 : decode cX12_goesOn 31 = .ok (.iload_n 2, 1) := do_28 (rdb (p := 0) (i := 31) ch_cX12_goesOn_0 rfl)
theorem ch_cX12_goesOn_32 : (cX12_goesOn.data.toList.drop 32).take 36 = [4, 96, 46, 42, 180, 0, 9, 28, 5, 96, 46, 4, 182, 0, 234, 54, 4, 21, 4, 155, 0, 12, 42, 21, 4, 182, 0, 107, 154, 0, 34, 42, 180, 0, 9, 28] := by decide +kernel
theorem dX12_goesOn_32 : decode cX12_goesOn 32 = .ok (.iconst 1, 1) := do_4 (rdb (p := 32) (i := 0) ch_cX12_goesOn_32 rfl)
theorem dX12_goesOn_33 : decode cX12_goesOn 33 = .ok (.iadd, 1) := do_96 (rdb (p := 32) (i := 1) ch_cX12_goesOn_32 rfl)
theorem dX12_goesOn_34 : decode cX12_goesOn 34 = .ok (.iaload, 1) := do_46 (rdb (p := 32) (i := 2) ch_cX12_goesOn_32 rfl)
theorem dX12_goesOn_35 : decode cX12_goesOn 35 = .ok (.aload_n 0, 1) := do_42 (rdb (p := 32) (i := 3) ch_cX12_goesOn_32 rfl)
theorem dX12_goesOn_36 : decode cX12_goesOn 36 = .ok (.getfield 9, 3) := do_180 (rdb (p := 32) (i := 4) ch_cX12_goesOn_32 rfl) (rdb (p := 32) (i := 5) ch_cX12_goesOn_32 rfl) (rdb (p := 32) (i := 6) ch_cX12_goesOn_32 rfl) rfl
theorem dX12_goesOn_39 : decode cX12_goesOn 39 = .ok (.iload_n 2, 1) := do_28 (rdb (p := 32) (i := 7) ch_cX12_goesOn_32 rfl)
theorem dX12_goesOn_40 : decode cX12_goesOn 40 = .ok (.iconst 2, 1) := do_5 (rdb (p := 32) (i := 8) ch_cX12_goesOn_32 rfl)
theorem dX12_goesOn_41 : decode cX12_goesOn 41 = .ok (.iadd, 1) := do_96 (rdb (p := 32) (i := 9) ch_cX12_goesOn_32 rfl)
theorem dX12_goesOn_42 : decode cX12_goesOn 42 = .ok (.iaload, 1) := do_46 (rdb (p := 32) (i := 10) ch_cX12_goesOn_32 rfl)
theorem dX12_goesOn_43 : decode cX12_goesOn 43 = .ok (.iconst 1, 1) := do_4 (rdb (p := 32) (i := 11) ch_cX12_goesOn_32 rfl)
theorem dX12_goesOn_44 : decode cX12_goesOn 44 = .ok (.invokevirtual 234, 3) := do_182 (rdb (p := 32) (i := 12) ch_cX12_goesOn_32 rfl) (rdb (p := 32) (i := 13) ch_cX12_goesOn_32 rfl) (rdb (p := 32) (i := 14) ch_cX12_goesOn_32 rfl) rfl
theorem dX12_goesOn_47 : decode cX12_goesOn 47 = .ok (.istore 4, 2) := do_54 (rdb (p := 32) (i := 15) ch_cX12_goesOn_32 rfl) (rdb (p := 32) (i := 16) ch_cX12_goesOn_32 rfl)
theorem dX12_goesOn_49 : decode cX12_goesOn 49 = .ok (.iload 4, 2) := do_21 (rdb (p := 32) (i := 17) ch_cX12_goesOn_32 rfl) (rdb (p := 32) (i := 18) ch_cX12_goesOn_32 rfl)
theorem dX12_goesOn_51 : decode cX12_goesOn 51 = .ok (.ifCond .lt 12, 3) := do_155 (rdb (p := 32) (i := 19) ch_cX12_goesOn_32 rfl) (rdb (p := 32) (i := 20) ch_cX12_goesOn_32 rfl) (rdb (p := 32) (i := 21) ch_cX12_goesOn_32 rfl) (by decide +kernel)
theorem dX12_goesOn_54 : decode cX12_goesOn 54 = .ok (.aload_n 0, 1) := do_42 (rdb (p := 32) (i := 22) ch_cX12_goesOn_32 rfl)
theorem dX12_goesOn_55 : decode cX12_goesOn 55 = .ok (.iload 4, 2) := do_21 (rdb (p := 32) (i := 23) ch_cX12_goesOn_32 rfl) (rdb (p := 32) (i := 24) ch_cX12_goesOn_32 rfl)
theorem dX12_goesOn_57 : decode cX12_goesOn 57 = .ok (.invokevirtual 107, 3) := do_182 (rdb (p := 32) (i := 25) ch_cX12_goesOn_32 rfl) (rdb (p := 32) (i := 26) ch_cX12_goesOn_32 rfl) (rdb (p := 32) (i := 27) ch_cX12_goesOn_32 rfl) rfl
theorem dX12_goesOn_60 : decode cX12_goesOn 60 = .ok (.ifCond .ne 34, 3) := do_154 (rdb (p := 32) (i := 28) ch_cX12_goesOn_32 rfl) (rdb (p := 32) (i := 29) ch_cX12_goesOn_32 rfl) (rdb (p := 32) (i := 30) ch_cX12_goesOn_32 rfl) (by decide +kernel)
theorem dX12_goesOn_63 : decode cX12_goesOn 63 = .ok (.aload_n 0, 1) := do_42 (rdb (p := 32) (i := 31) ch_cX12_goesOn_32 rfl)
theorem ch_cX12_goesOn_64 : (cX12_goesOn.data.toList.drop 64).take 36 = [180, 0, 9, 28, 16, 7, 96, 92, 46, 4, 96, 79, 21, 4, 155, 0, 15, 42, 42, 27, 21, 4, 182, 0, 253, 6, 182, 1, 6, 177, 42, 180, 0, 9, 28, 4] := by decide +kernel
theorem dX12_goesOn_64 : decode cX12_goesOn 64 = .ok (.getfield 9, 3) := do_180 (rdb (p := 64) (i := 0) ch_cX12_goesOn_64 rfl) (rdb (p := 64) (i := 1) ch_cX12_goesOn_64 rfl) (rdb (p := 64) (i := 2) ch_cX12_goesOn_64 rfl) rfl
theorem dX12_goesOn_67 : decode cX12_goesOn 67 = .ok (.iload_n 2, 1) := do_28 (rdb (p := 64) (i := 3) ch_cX12_goesOn_64 rfl)
theorem dX12_goesOn_68 : decode cX12_goesOn 68 = .ok (.bipush 7, 2) := do_16 (rdb (p := 64) (i := 4) ch_cX12_goesOn_64 rfl) (rdb (p := 64) (i := 5) ch_cX12_goesOn_64 rfl) (by decide +kernel)
theorem dX12_goesOn_70 : decode cX12_goesOn 70 = .ok (.iadd, 1) := do_96 (rdb (p := 64) (i := 6) ch_cX12_goesOn_64 rfl)
theorem dX12_goesOn_71 : decode cX12_goesOn 71 = .ok (.dup2, 1) := do_92 (rdb (p := 64) (i := 7) ch_cX12_goesOn_64 rfl)
theorem dX12_goesOn_72 : decode cX12_goesOn 72 = .ok (.iaload, 1) := do_46 (rdb (p := 64) (i := 8) ch_cX12_goesOn_64 rfl)
theorem dX12_goesOn_73 : decode cX12_goesOn 73 = .ok (.iconst 1, 1) := do_4 (rdb (p := 64) (i := 9) ch_cX12_goesOn_64 rfl)
theorem dX12_goesOn_74 : decode cX12_goesOn 74 = .ok (.iadd, 1) := do_96 (rdb (p := 64) (i := 10) ch_cX12_goesOn_64 rfl)
theorem dX12_goesOn_75 : decode cX12_goesOn 75 = .ok (.iastore, 1) := do_79 (rdb (p := 64) (i := 11) ch_cX12_goesOn_64 rfl)
theorem dX12_goesOn_76 : decode cX12_goesOn 76 = .ok (.iload 4, 2) := do_21 (rdb (p := 64) (i := 12) ch_cX12_goesOn_64 rfl) (rdb (p := 64) (i := 13) ch_cX12_goesOn_64 rfl)
theorem dX12_goesOn_78 : decode cX12_goesOn 78 = .ok (.ifCond .lt 15, 3) := do_155 (rdb (p := 64) (i := 14) ch_cX12_goesOn_64 rfl) (rdb (p := 64) (i := 15) ch_cX12_goesOn_64 rfl) (rdb (p := 64) (i := 16) ch_cX12_goesOn_64 rfl) (by decide +kernel)
theorem dX12_goesOn_81 : decode cX12_goesOn 81 = .ok (.aload_n 0, 1) := do_42 (rdb (p := 64) (i := 17) ch_cX12_goesOn_64 rfl)
theorem dX12_goesOn_82 : decode cX12_goesOn 82 = .ok (.aload_n 0, 1) := do_42 (rdb (p := 64) (i := 18) ch_cX12_goesOn_64 rfl)
theorem dX12_goesOn_83 : decode cX12_goesOn 83 = .ok (.iload_n 1, 1) := do_27 (rdb (p := 64) (i := 19) ch_cX12_goesOn_64 rfl)
theorem dX12_goesOn_84 : decode cX12_goesOn 84 = .ok (.iload 4, 2) := do_21 (rdb (p := 64) (i := 20) ch_cX12_goesOn_64 rfl) (rdb (p := 64) (i := 21) ch_cX12_goesOn_64 rfl)
theorem dX12_goesOn_86 : decode cX12_goesOn 86 = .ok (.invokevirtual 253, 3) := do_182 (rdb (p := 64) (i := 22) ch_cX12_goesOn_64 rfl) (rdb (p := 64) (i := 23) ch_cX12_goesOn_64 rfl) (rdb (p := 64) (i := 24) ch_cX12_goesOn_64 rfl) rfl
theorem dX12_goesOn_89 : decode cX12_goesOn 89 = .ok (.iconst 3, 1) := do_6 (rdb (p := 64) (i := 25) ch_cX12_goesOn_64 rfl)
theorem dX12_goesOn_90 : decode cX12_goesOn 90 = .ok (.invokevirtual 262, 3) := do_182 (rdb (p := 64) (i := 26) ch_cX12_goesOn_64 rfl) (rdb (p := 64) (i := 27) ch_cX12_goesOn_64 rfl) (rdb (p := 64) (i := 28) ch_cX12_goesOn_64 rfl) rfl
theorem dX12_goesOn_93 : decode cX12_goesOn 93 = .ok (.return_, 1) := do_177 (rdb (p := 64) (i := 29) ch_cX12_goesOn_64 rfl)
theorem dX12_goesOn_94 : decode cX12_goesOn 94 = .ok (.aload_n 0, 1) := do_42 (rdb (p := 64) (i := 30) ch_cX12_goesOn_64 rfl)
theorem dX12_goesOn_95 : decode cX12_goesOn 95 = .ok (.getfield 9, 3) := do_180 (rdb (p := 64) (i := 31) ch_cX12_goesOn_64 rfl) (rdb (p := 64) (i := 32) ch_cX12_goesOn_64 rfl) (rdb (p := 64) (i := 33) ch_cX12_goesOn_64 rfl) rfl
theorem ch_cX12_goesOn_96 : (cX12_goesOn.data.toList.drop 96).take 36 = [0, 9, 28, 4, 96, 21, 4, 79, 132, 3, 255, 167, 255, 171, 177] := by decide +kernel
theorem dX12_goesOn_98 : decode cX12_goesOn 98 = .ok (.iload_n 2, 1) := do_28 (rdb (p := 96) (i := 2) ch_cX12_goesOn_96 rfl)
theorem dX12_goesOn_99 : decode cX12_goesOn 99 = .ok (.iconst 1, 1) := do_4 (rdb (p := 96) (i := 3) ch_cX12_goesOn_96 rfl)
theorem dX12_goesOn_100 : decode cX12_goesOn 100 = .ok (.iadd, 1) := do_96 (rdb (p := 96) (i := 4) ch_cX12_goesOn_96 rfl)
theorem dX12_goesOn_101 : decode cX12_goesOn 101 = .ok (.iload 4, 2) := do_21 (rdb (p := 96) (i := 5) ch_cX12_goesOn_96 rfl) (rdb (p := 96) (i := 6) ch_cX12_goesOn_96 rfl)
theorem dX12_goesOn_103 : decode cX12_goesOn 103 = .ok (.iastore, 1) := do_79 (rdb (p := 96) (i := 7) ch_cX12_goesOn_96 rfl)
theorem dX12_goesOn_104 : decode cX12_goesOn 104 = .ok (.iinc 3 (-1), 3) := do_132 (rdb (p := 96) (i := 8) ch_cX12_goesOn_96 rfl) (rdb (p := 96) (i := 9) ch_cX12_goesOn_96 rfl) (rdb (p := 96) (i := 10) ch_cX12_goesOn_96 rfl) (by decide +kernel)
theorem dX12_goesOn_107 : decode cX12_goesOn 107 = .ok (.goto (-85), 3) := do_167 (rdb (p := 96) (i := 11) ch_cX12_goesOn_96 rfl) (rdb (p := 96) (i := 12) ch_cX12_goesOn_96 rfl) (rdb (p := 96) (i := 13) ch_cX12_goesOn_96 rfl) (by decide +kernel)
theorem dX12_goesOn_110 : decode cX12_goesOn 110 = .ok (.return_, 1) := do_177 (rdb (p := 96) (i := 14) ch_cX12_goesOn_96 rfl)
theorem ch_cX12_habitOf_0 : (cX12_habitOf.data.toList.drop 0).take 36 = [42, 180, 0, 9, 42, 27, 182, 0, 93, 5, 96, 46, 61, 42, 180, 0, 47, 3, 42, 27, 28, 182, 1, 30, 79, 42, 180, 0, 47, 4, 42, 27, 28, 16, 6, 96] := by decide +kernel
theorem dX12_habitOf_0 : decode cX12_habitOf 0 = .ok (.aload_n 0, 1) := do_42 (rdb (p := 0) (i := 0) ch_cX12_habitOf_0 rfl)
theorem dX12_habitOf_1 : decode cX12_habitOf 1 = .ok (.getfield 9, 3) := do_180 (rdb (p := 0) (i := 1) ch_cX12_habitOf_0 rfl) (rdb (p := 0) (i := 2) ch_cX12_habitOf_0 rfl) (rdb (p := 0) (i := 3) ch_cX12_habitOf_0 rfl) rfl
theorem dX12_habitOf_4 : decode cX12_habitOf 4 = .ok (.aload_n 0, 1) := do_42 (rdb (p := 0) (i := 4) ch_cX12_habitOf_0 rfl)
theorem dX12_habitOf_5 : decode cX12_habitOf 5 = .ok (.iload_n 1, 1) := do_27 (rdb (p := 0) (i := 5) ch_cX12_habitOf_0 rfl)
theorem dX12_habitOf_6 : decode cX12_habitOf 6 = .ok (.invokevirtual 93, 3) := do_182 (rdb (p := 0) (i := 6) ch_cX12_habitOf_0 rfl) (rdb (p := 0) (i := 7) ch_cX12_habitOf_0 rfl) (rdb (p := 0) (i := 8) ch_cX12_habitOf_0 rfl) rfl
theorem dX12_habitOf_9 : decode cX12_habitOf 9 = .ok (.iconst 2, 1) := do_5 (rdb (p := 0) (i := 9) ch_cX12_habitOf_0 rfl)
theorem dX12_habitOf_10 : decode cX12_habitOf 10 = .ok (.iadd, 1) := do_96 (rdb (p := 0) (i := 10) ch_cX12_habitOf_0 rfl)
theorem dX12_habitOf_11 : decode cX12_habitOf 11 = .ok (.iaload, 1) := do_46 (rdb (p := 0) (i := 11) ch_cX12_habitOf_0 rfl)
theorem dX12_habitOf_12 : decode cX12_habitOf 12 = .ok (.istore_n 2, 1) := do_61 (rdb (p := 0) (i := 12) ch_cX12_habitOf_0 rfl)
theorem dX12_habitOf_13 : decode cX12_habitOf 13 = .ok (.aload_n 0, 1) := do_42 (rdb (p := 0) (i := 13) ch_cX12_habitOf_0 rfl)
theorem dX12_habitOf_14 : decode cX12_habitOf 14 = .ok (.getfield 47, 3) := do_180 (rdb (p := 0) (i := 14) ch_cX12_habitOf_0 rfl) (rdb (p := 0) (i := 15) ch_cX12_habitOf_0 rfl) (rdb (p := 0) (i := 16) ch_cX12_habitOf_0 rfl) rfl
theorem dX12_habitOf_17 : decode cX12_habitOf 17 = .ok (.iconst 0, 1) := do_3 (rdb (p := 0) (i := 17) ch_cX12_habitOf_0 rfl)
theorem dX12_habitOf_18 : decode cX12_habitOf 18 = .ok (.aload_n 0, 1) := do_42 (rdb (p := 0) (i := 18) ch_cX12_habitOf_0 rfl)
theorem dX12_habitOf_19 : decode cX12_habitOf 19 = .ok (.iload_n 1, 1) := do_27 (rdb (p := 0) (i := 19) ch_cX12_habitOf_0 rfl)
theorem dX12_habitOf_20 : decode cX12_habitOf 20 = .ok (.iload_n 2, 1) := do_28 (rdb (p := 0) (i := 20) ch_cX12_habitOf_0 rfl)
theorem dX12_habitOf_21 : decode cX12_habitOf 21 = .ok (.invokevirtual 286, 3) := do_182 (rdb (p := 0) (i := 21) ch_cX12_habitOf_0 rfl) (rdb (p := 0) (i := 22) ch_cX12_habitOf_0 rfl) (rdb (p := 0) (i := 23) ch_cX12_habitOf_0 rfl) rfl
theorem dX12_habitOf_24 : decode cX12_habitOf 24 = .ok (.iastore, 1) := do_79 (rdb (p := 0) (i := 24) ch_cX12_habitOf_0 rfl)
theorem dX12_habitOf_25 : decode cX12_habitOf 25 = .ok (.aload_n 0, 1) := do_42 (rdb (p := 0) (i := 25) ch_cX12_habitOf_0 rfl)
theorem dX12_habitOf_26 : decode cX12_habitOf 26 = .ok (.getfield 47, 3) := do_180 (rdb (p := 0) (i := 26) ch_cX12_habitOf_0 rfl) (rdb (p := 0) (i := 27) ch_cX12_habitOf_0 rfl) (rdb (p := 0) (i := 28) ch_cX12_habitOf_0 rfl) rfl
theorem dX12_habitOf_29 : decode cX12_habitOf 29 = .ok (.iconst 1, 1) := do_4 (rdb (p := 0) (i := 29) ch_cX12_habitOf_0 rfl)
theorem dX12_habitOf_30 : decode cX12_habitOf 30 = .ok (.aload_n 0, 1) := do_42 (rdb (p := 0) (i := 30) ch_cX12_habitOf_0 rfl)
theorem dX12_habitOf_31 : decode cX12_habitOf 31 = .ok (.iload_n 1, 1) := do_27 (rdb (p := 0) (i := 31) ch_cX12_habitOf_0 rfl)
theorem ch_cX12_habitOf_32 : (cX12_habitOf.data.toList.drop 32).take 36 = [28, 16, 6, 96, 182, 1, 30, 79, 42, 180, 0, 47, 5, 42, 27, 28, 5, 96, 182, 1, 30, 79, 42, 180, 0, 47, 6, 42, 180, 0, 9, 42, 27, 182, 0, 93] := by decide +kernel
theorem dX12_habitOf_32 : decode cX12_habitOf 32 = .ok (.iload_n 2, 1) := do_28 (rdb (p := 32) (i := 0) ch_cX12_habitOf_32 rfl)
theorem dX12_habitOf_33 : decode cX12_habitOf 33 = .ok (.bipush 6, 2) := do_16 (rdb (p := 32) (i := 1) ch_cX12_habitOf_32 rfl) (rdb (p := 32) (i := 2) ch_cX12_habitOf_32 rfl) (by decide +kernel)
theorem dX12_habitOf_35 : decode cX12_habitOf 35 = .ok (.iadd, 1) := do_96 (rdb (p := 32) (i := 3) ch_cX12_habitOf_32 rfl)
theorem dX12_habitOf_36 : decode cX12_habitOf 36 = .ok (.invokevirtual 286, 3) := do_182 (rdb (p := 32) (i := 4) ch_cX12_habitOf_32 rfl) (rdb (p := 32) (i := 5) ch_cX12_habitOf_32 rfl) (rdb (p := 32) (i := 6) ch_cX12_habitOf_32 rfl) rfl
theorem dX12_habitOf_39 : decode cX12_habitOf 39 = .ok (.iastore, 1) := do_79 (rdb (p := 32) (i := 7) ch_cX12_habitOf_32 rfl)
theorem dX12_habitOf_40 : decode cX12_habitOf 40 = .ok (.aload_n 0, 1) := do_42 (rdb (p := 32) (i := 8) ch_cX12_habitOf_32 rfl)
theorem dX12_habitOf_41 : decode cX12_habitOf 41 = .ok (.getfield 47, 3) := do_180 (rdb (p := 32) (i := 9) ch_cX12_habitOf_32 rfl) (rdb (p := 32) (i := 10) ch_cX12_habitOf_32 rfl) (rdb (p := 32) (i := 11) ch_cX12_habitOf_32 rfl) rfl
theorem dX12_habitOf_44 : decode cX12_habitOf 44 = .ok (.iconst 2, 1) := do_5 (rdb (p := 32) (i := 12) ch_cX12_habitOf_32 rfl)
theorem dX12_habitOf_45 : decode cX12_habitOf 45 = .ok (.aload_n 0, 1) := do_42 (rdb (p := 32) (i := 13) ch_cX12_habitOf_32 rfl)
theorem dX12_habitOf_46 : decode cX12_habitOf 46 = .ok (.iload_n 1, 1) := do_27 (rdb (p := 32) (i := 14) ch_cX12_habitOf_32 rfl)
theorem dX12_habitOf_47 : decode cX12_habitOf 47 = .ok (.iload_n 2, 1) := do_28 (rdb (p := 32) (i := 15) ch_cX12_habitOf_32 rfl)
theorem dX12_habitOf_48 : decode cX12_habitOf 48 = .ok (.iconst 2, 1) := do_5 (rdb (p := 32) (i := 16) ch_cX12_habitOf_32 rfl)
theorem dX12_habitOf_49 : decode cX12_habitOf 49 = .ok (.iadd, 1) := do_96 (rdb (p := 32) (i := 17) ch_cX12_habitOf_32 rfl)
theorem dX12_habitOf_50 : decode cX12_habitOf 50 = .ok (.invokevirtual 286, 3) := do_182 (rdb (p := 32) (i := 18) ch_cX12_habitOf_32 rfl) (rdb (p := 32) (i := 19) ch_cX12_habitOf_32 rfl) (rdb (p := 32) (i := 20) ch_cX12_habitOf_32 rfl) rfl
theorem dX12_habitOf_53 : decode cX12_habitOf 53 = .ok (.iastore, 1) := do_79 (rdb (p := 32) (i := 21) ch_cX12_habitOf_32 rfl)
theorem dX12_habitOf_54 : decode cX12_habitOf 54 = .ok (.aload_n 0, 1) := do_42 (rdb (p := 32) (i := 22) ch_cX12_habitOf_32 rfl)
theorem dX12_habitOf_55 : decode cX12_habitOf 55 = .ok (.getfield 47, 3) := do_180 (rdb (p := 32) (i := 23) ch_cX12_habitOf_32 rfl) (rdb (p := 32) (i := 24) ch_cX12_habitOf_32 rfl) (rdb (p := 32) (i := 25) ch_cX12_habitOf_32 rfl) rfl
theorem dX12_habitOf_58 : decode cX12_habitOf 58 = .ok (.iconst 3, 1) := do_6 (rdb (p := 32) (i := 26) ch_cX12_habitOf_32 rfl)
theorem dX12_habitOf_59 : decode cX12_habitOf 59 = .ok (.aload_n 0, 1) := do_42 (rdb (p := 32) (i := 27) ch_cX12_habitOf_32 rfl)
theorem dX12_habitOf_60 : decode cX12_habitOf 60 = .ok (.getfield 9, 3) := do_180 (rdb (p := 32) (i := 28) ch_cX12_habitOf_32 rfl) (rdb (p := 32) (i := 29) ch_cX12_habitOf_32 rfl) (rdb (p := 32) (i := 30) ch_cX12_habitOf_32 rfl) rfl
theorem dX12_habitOf_63 : decode cX12_habitOf 63 = .ok (.aload_n 0, 1) := do_42 (rdb (p := 32) (i := 31) ch_cX12_habitOf_32 rfl)
theorem ch_cX12_habitOf_64 : (cX12_habitOf.data.toList.drop 64).take 36 = [27, 182, 0, 93, 16, 7, 96, 46, 79, 42, 180, 0, 47, 7, 42, 180, 0, 9, 3, 46, 79, 42, 5, 182, 0, 213, 153, 0, 13, 42, 5, 182, 0, 216, 6, 126] := by decide +kernel
theorem dX12_habitOf_64 : decode cX12_habitOf 64 = .ok (.iload_n 1, 1) := do_27 (rdb (p := 64) (i := 0) ch_cX12_habitOf_64 rfl)
theorem dX12_habitOf_65 : decode cX12_habitOf 65 = .ok (.invokevirtual 93, 3) := do_182 (rdb (p := 64) (i := 1) ch_cX12_habitOf_64 rfl) (rdb (p := 64) (i := 2) ch_cX12_habitOf_64 rfl) (rdb (p := 64) (i := 3) ch_cX12_habitOf_64 rfl) rfl
theorem dX12_habitOf_68 : decode cX12_habitOf 68 = .ok (.bipush 7, 2) := do_16 (rdb (p := 64) (i := 4) ch_cX12_habitOf_64 rfl) (rdb (p := 64) (i := 5) ch_cX12_habitOf_64 rfl) (by decide +kernel)
theorem dX12_habitOf_70 : decode cX12_habitOf 70 = .ok (.iadd, 1) := do_96 (rdb (p := 64) (i := 6) ch_cX12_habitOf_64 rfl)
theorem dX12_habitOf_71 : decode cX12_habitOf 71 = .ok (.iaload, 1) := do_46 (rdb (p := 64) (i := 7) ch_cX12_habitOf_64 rfl)
theorem dX12_habitOf_72 : decode cX12_habitOf 72 = .ok (.iastore, 1) := do_79 (rdb (p := 64) (i := 8) ch_cX12_habitOf_64 rfl)
theorem dX12_habitOf_73 : decode cX12_habitOf 73 = .ok (.aload_n 0, 1) := do_42 (rdb (p := 64) (i := 9) ch_cX12_habitOf_64 rfl)
theorem dX12_habitOf_74 : decode cX12_habitOf 74 = .ok (.getfield 47, 3) := do_180 (rdb (p := 64) (i := 10) ch_cX12_habitOf_64 rfl) (rdb (p := 64) (i := 11) ch_cX12_habitOf_64 rfl) (rdb (p := 64) (i := 12) ch_cX12_habitOf_64 rfl) rfl
theorem dX12_habitOf_77 : decode cX12_habitOf 77 = .ok (.iconst 4, 1) := do_7 (rdb (p := 64) (i := 13) ch_cX12_habitOf_64 rfl)
theorem dX12_habitOf_78 : decode cX12_habitOf 78 = .ok (.aload_n 0, 1) := do_42 (rdb (p := 64) (i := 14) ch_cX12_habitOf_64 rfl)
theorem dX12_habitOf_79 : decode cX12_habitOf 79 = .ok (.getfield 9, 3) := do_180 (rdb (p := 64) (i := 15) ch_cX12_habitOf_64 rfl) (rdb (p := 64) (i := 16) ch_cX12_habitOf_64 rfl) (rdb (p := 64) (i := 17) ch_cX12_habitOf_64 rfl) rfl
theorem dX12_habitOf_82 : decode cX12_habitOf 82 = .ok (.iconst 0, 1) := do_3 (rdb (p := 64) (i := 18) ch_cX12_habitOf_64 rfl)
theorem dX12_habitOf_83 : decode cX12_habitOf 83 = .ok (.iaload, 1) := do_46 (rdb (p := 64) (i := 19) ch_cX12_habitOf_64 rfl)
theorem dX12_habitOf_84 : decode cX12_habitOf 84 = .ok (.iastore, 1) := do_79 (rdb (p := 64) (i := 20) ch_cX12_habitOf_64 rfl)
theorem dX12_habitOf_85 : decode cX12_habitOf 85 = .ok (.aload_n 0, 1) := do_42 (rdb (p := 64) (i := 21) ch_cX12_habitOf_64 rfl)
theorem dX12_habitOf_86 : decode cX12_habitOf 86 = .ok (.iconst 2, 1) := do_5 (rdb (p := 64) (i := 22) ch_cX12_habitOf_64 rfl)
theorem dX12_habitOf_87 : decode cX12_habitOf 87 = .ok (.invokevirtual 213, 3) := do_182 (rdb (p := 64) (i := 23) ch_cX12_habitOf_64 rfl) (rdb (p := 64) (i := 24) ch_cX12_habitOf_64 rfl) (rdb (p := 64) (i := 25) ch_cX12_habitOf_64 rfl) rfl
theorem dX12_habitOf_90 : decode cX12_habitOf 90 = .ok (.ifCond .eq 13, 3) := do_153 (rdb (p := 64) (i := 26) ch_cX12_habitOf_64 rfl) (rdb (p := 64) (i := 27) ch_cX12_habitOf_64 rfl) (rdb (p := 64) (i := 28) ch_cX12_habitOf_64 rfl) (by decide +kernel)
theorem dX12_habitOf_93 : decode cX12_habitOf 93 = .ok (.aload_n 0, 1) := do_42 (rdb (p := 64) (i := 29) ch_cX12_habitOf_64 rfl)
theorem dX12_habitOf_94 : decode cX12_habitOf 94 = .ok (.iconst 2, 1) := do_5 (rdb (p := 64) (i := 30) ch_cX12_habitOf_64 rfl)
theorem dX12_habitOf_95 : decode cX12_habitOf 95 = .ok (.invokevirtual 216, 3) := do_182 (rdb (p := 64) (i := 31) ch_cX12_habitOf_64 rfl) (rdb (p := 64) (i := 32) ch_cX12_habitOf_64 rfl) (rdb (p := 64) (i := 33) ch_cX12_habitOf_64 rfl) rfl
theorem ch_cX12_habitOf_96 : (cX12_habitOf.data.toList.drop 96).take 36 = [0, 216, 6, 126, 167, 0, 18, 42, 180, 0, 47, 3, 46, 4, 160, 0, 7, 4, 167, 0, 4, 3, 172] := by decide +kernel
theorem dX12_habitOf_98 : decode cX12_habitOf 98 = .ok (.iconst 3, 1) := do_6 (rdb (p := 96) (i := 2) ch_cX12_habitOf_96 rfl)
theorem dX12_habitOf_99 : decode cX12_habitOf 99 = .ok (.iand, 1) := do_126 (rdb (p := 96) (i := 3) ch_cX12_habitOf_96 rfl)
theorem dX12_habitOf_100 : decode cX12_habitOf 100 = .ok (.goto 18, 3) := do_167 (rdb (p := 96) (i := 4) ch_cX12_habitOf_96 rfl) (rdb (p := 96) (i := 5) ch_cX12_habitOf_96 rfl) (rdb (p := 96) (i := 6) ch_cX12_habitOf_96 rfl) (by decide +kernel)
theorem dX12_habitOf_103 : decode cX12_habitOf 103 = .ok (.aload_n 0, 1) := do_42 (rdb (p := 96) (i := 7) ch_cX12_habitOf_96 rfl)
theorem dX12_habitOf_104 : decode cX12_habitOf 104 = .ok (.getfield 47, 3) := do_180 (rdb (p := 96) (i := 8) ch_cX12_habitOf_96 rfl) (rdb (p := 96) (i := 9) ch_cX12_habitOf_96 rfl) (rdb (p := 96) (i := 10) ch_cX12_habitOf_96 rfl) rfl
theorem dX12_habitOf_107 : decode cX12_habitOf 107 = .ok (.iconst 0, 1) := do_3 (rdb (p := 96) (i := 11) ch_cX12_habitOf_96 rfl)
theorem dX12_habitOf_108 : decode cX12_habitOf 108 = .ok (.iaload, 1) := do_46 (rdb (p := 96) (i := 12) ch_cX12_habitOf_96 rfl)
theorem dX12_habitOf_109 : decode cX12_habitOf 109 = .ok (.iconst 1, 1) := do_4 (rdb (p := 96) (i := 13) ch_cX12_habitOf_96 rfl)
theorem dX12_habitOf_110 : decode cX12_habitOf 110 = .ok (.if_icmp .ne 7, 3) := do_160 (rdb (p := 96) (i := 14) ch_cX12_habitOf_96 rfl) (rdb (p := 96) (i := 15) ch_cX12_habitOf_96 rfl) (rdb (p := 96) (i := 16) ch_cX12_habitOf_96 rfl) (by decide +kernel)
theorem dX12_habitOf_113 : decode cX12_habitOf 113 = .ok (.iconst 1, 1) := do_4 (rdb (p := 96) (i := 17) ch_cX12_habitOf_96 rfl)
theorem dX12_habitOf_114 : decode cX12_habitOf 114 = .ok (.goto 4, 3) := do_167 (rdb (p := 96) (i := 18) ch_cX12_habitOf_96 rfl) (rdb (p := 96) (i := 19) ch_cX12_habitOf_96 rfl) (rdb (p := 96) (i := 20) ch_cX12_habitOf_96 rfl) (by decide +kernel)
theorem dX12_habitOf_117 : decode cX12_habitOf 117 = .ok (.iconst 0, 1) := do_3 (rdb (p := 96) (i := 21) ch_cX12_habitOf_96 rfl)
theorem dX12_habitOf_118 : decode cX12_habitOf 118 = .ok (.ireturn, 1) := do_172 (rdb (p := 96) (i := 22) ch_cX12_habitOf_96 rfl)
theorem ch_cX12_isPost_0 : (cX12_isPost.data.toList.drop 0).take 36 = [42, 27, 182, 0, 93, 54, 4, 3, 54, 5, 3, 54, 6, 21, 6, 16, 8, 162, 0, 115, 4, 54, 7, 4, 54, 8, 21, 8, 42, 27, 182, 0, 140, 163, 0, 93] := by decide +kernel
theorem dX12_isPost_0 : decode cX12_isPost 0 = .ok (.aload_n 0, 1) := do_42 (rdb (p := 0) (i := 0) ch_cX12_isPost_0 rfl)
theorem dX12_isPost_1 : decode cX12_isPost 1 = .ok (.iload_n 1, 1) := do_27 (rdb (p := 0) (i := 1) ch_cX12_isPost_0 rfl)
theorem dX12_isPost_2 : decode cX12_isPost 2 = .ok (.invokevirtual 93, 3) := do_182 (rdb (p := 0) (i := 2) ch_cX12_isPost_0 rfl) (rdb (p := 0) (i := 3) ch_cX12_isPost_0 rfl) (rdb (p := 0) (i := 4) ch_cX12_isPost_0 rfl) rfl
theorem dX12_isPost_5 : decode cX12_isPost 5 = .ok (.istore 4, 2) := do_54 (rdb (p := 0) (i := 5) ch_cX12_isPost_0 rfl) (rdb (p := 0) (i := 6) ch_cX12_isPost_0 rfl)
theorem dX12_isPost_7 : decode cX12_isPost 7 = .ok (.iconst 0, 1) := do_3 (rdb (p := 0) (i := 7) ch_cX12_isPost_0 rfl)
theorem dX12_isPost_8 : decode cX12_isPost 8 = .ok (.istore 5, 2) := do_54 (rdb (p := 0) (i := 8) ch_cX12_isPost_0 rfl) (rdb (p := 0) (i := 9) ch_cX12_isPost_0 rfl)
theorem dX12_isPost_10 : decode cX12_isPost 10 = .ok (.iconst 0, 1) := do_3 (rdb (p := 0) (i := 10) ch_cX12_isPost_0 rfl)
theorem dX12_isPost_11 : decode cX12_isPost 11 = .ok (.istore 6, 2) := do_54 (rdb (p := 0) (i := 11) ch_cX12_isPost_0 rfl) (rdb (p := 0) (i := 12) ch_cX12_isPost_0 rfl)
theorem dX12_isPost_13 : decode cX12_isPost 13 = .ok (.iload 6, 2) := do_21 (rdb (p := 0) (i := 13) ch_cX12_isPost_0 rfl) (rdb (p := 0) (i := 14) ch_cX12_isPost_0 rfl)
theorem dX12_isPost_15 : decode cX12_isPost 15 = .ok (.bipush 8, 2) := do_16 (rdb (p := 0) (i := 15) ch_cX12_isPost_0 rfl) (rdb (p := 0) (i := 16) ch_cX12_isPost_0 rfl) (by decide +kernel)
theorem dX12_isPost_17 : decode cX12_isPost 17 = .ok (.if_icmp .ge 115, 3) := do_162 (rdb (p := 0) (i := 17) ch_cX12_isPost_0 rfl) (rdb (p := 0) (i := 18) ch_cX12_isPost_0 rfl) (rdb (p := 0) (i := 19) ch_cX12_isPost_0 rfl) (by decide +kernel)
theorem dX12_isPost_20 : decode cX12_isPost 20 = .ok (.iconst 1, 1) := do_4 (rdb (p := 0) (i := 20) ch_cX12_isPost_0 rfl)
theorem dX12_isPost_21 : decode cX12_isPost 21 = .ok (.istore 7, 2) := do_54 (rdb (p := 0) (i := 21) ch_cX12_isPost_0 rfl) (rdb (p := 0) (i := 22) ch_cX12_isPost_0 rfl)
theorem dX12_isPost_23 : decode cX12_isPost 23 = .ok (.iconst 1, 1) := do_4 (rdb (p := 0) (i := 23) ch_cX12_isPost_0 rfl)
theorem dX12_isPost_24 : decode cX12_isPost 24 = .ok (.istore 8, 2) := do_54 (rdb (p := 0) (i := 24) ch_cX12_isPost_0 rfl) (rdb (p := 0) (i := 25) ch_cX12_isPost_0 rfl)
theorem dX12_isPost_26 : decode cX12_isPost 26 = .ok (.iload 8, 2) := do_21 (rdb (p := 0) (i := 26) ch_cX12_isPost_0 rfl) (rdb (p := 0) (i := 27) ch_cX12_isPost_0 rfl)
theorem dX12_isPost_28 : decode cX12_isPost 28 = .ok (.aload_n 0, 1) := do_42 (rdb (p := 0) (i := 28) ch_cX12_isPost_0 rfl)
theorem dX12_isPost_29 : decode cX12_isPost 29 = .ok (.iload_n 1, 1) := do_27 (rdb (p := 0) (i := 29) ch_cX12_isPost_0 rfl)
theorem dX12_isPost_30 : decode cX12_isPost 30 = .ok (.invokevirtual 140, 3) := do_182 (rdb (p := 0) (i := 30) ch_cX12_isPost_0 rfl) (rdb (p := 0) (i := 31) ch_cX12_isPost_0 rfl) (rdb (p := 0) (i := 32) ch_cX12_isPost_0 rfl) rfl
theorem ch_cX12_isPost_32 : (cX12_isPost.data.toList.drop 32).take 36 = [140, 163, 0, 93, 21, 7, 153, 0, 88, 42, 28, 21, 6, 21, 8, 182, 0, 234, 155, 0, 76, 42, 42, 28, 21, 6, 21, 8, 182, 0, 234, 182, 0, 107, 54, 7] := by decide +kernel
theorem dX12_isPost_33 : decode cX12_isPost 33 = .ok (.if_icmp .gt 93, 3) := do_163 (rdb (p := 32) (i := 1) ch_cX12_isPost_32 rfl) (rdb (p := 32) (i := 2) ch_cX12_isPost_32 rfl) (rdb (p := 32) (i := 3) ch_cX12_isPost_32 rfl) (by decide +kernel)
theorem dX12_isPost_36 : decode cX12_isPost 36 = .ok (.iload 7, 2) := do_21 (rdb (p := 32) (i := 4) ch_cX12_isPost_32 rfl) (rdb (p := 32) (i := 5) ch_cX12_isPost_32 rfl)
theorem dX12_isPost_38 : decode cX12_isPost 38 = .ok (.ifCond .eq 88, 3) := do_153 (rdb (p := 32) (i := 6) ch_cX12_isPost_32 rfl) (rdb (p := 32) (i := 7) ch_cX12_isPost_32 rfl) (rdb (p := 32) (i := 8) ch_cX12_isPost_32 rfl) (by decide +kernel)
theorem dX12_isPost_41 : decode cX12_isPost 41 = .ok (.aload_n 0, 1) := do_42 (rdb (p := 32) (i := 9) ch_cX12_isPost_32 rfl)
theorem dX12_isPost_42 : decode cX12_isPost 42 = .ok (.iload_n 2, 1) := do_28 (rdb (p := 32) (i := 10) ch_cX12_isPost_32 rfl)
theorem dX12_isPost_43 : decode cX12_isPost 43 = .ok (.iload 6, 2) := do_21 (rdb (p := 32) (i := 11) ch_cX12_isPost_32 rfl) (rdb (p := 32) (i := 12) ch_cX12_isPost_32 rfl)
theorem dX12_isPost_45 : decode cX12_isPost 45 = .ok (.iload 8, 2) := do_21 (rdb (p := 32) (i := 13) ch_cX12_isPost_32 rfl) (rdb (p := 32) (i := 14) ch_cX12_isPost_32 rfl)
theorem dX12_isPost_47 : decode cX12_isPost 47 = .ok (.invokevirtual 234, 3) := do_182 (rdb (p := 32) (i := 15) ch_cX12_isPost_32 rfl) (rdb (p := 32) (i := 16) ch_cX12_isPost_32 rfl) (rdb (p := 32) (i := 17) ch_cX12_isPost_32 rfl) rfl
theorem dX12_isPost_50 : decode cX12_isPost 50 = .ok (.ifCond .lt 76, 3) := do_155 (rdb (p := 32) (i := 18) ch_cX12_isPost_32 rfl) (rdb (p := 32) (i := 19) ch_cX12_isPost_32 rfl) (rdb (p := 32) (i := 20) ch_cX12_isPost_32 rfl) (by decide +kernel)
theorem dX12_isPost_53 : decode cX12_isPost 53 = .ok (.aload_n 0, 1) := do_42 (rdb (p := 32) (i := 21) ch_cX12_isPost_32 rfl)
theorem dX12_isPost_54 : decode cX12_isPost 54 = .ok (.aload_n 0, 1) := do_42 (rdb (p := 32) (i := 22) ch_cX12_isPost_32 rfl)
theorem dX12_isPost_55 : decode cX12_isPost 55 = .ok (.iload_n 2, 1) := do_28 (rdb (p := 32) (i := 23) ch_cX12_isPost_32 rfl)
theorem dX12_isPost_56 : decode cX12_isPost 56 = .ok (.iload 6, 2) := do_21 (rdb (p := 32) (i := 24) ch_cX12_isPost_32 rfl) (rdb (p := 32) (i := 25) ch_cX12_isPost_32 rfl)
theorem dX12_isPost_58 : decode cX12_isPost 58 = .ok (.iload 8, 2) := do_21 (rdb (p := 32) (i := 26) ch_cX12_isPost_32 rfl) (rdb (p := 32) (i := 27) ch_cX12_isPost_32 rfl)
theorem dX12_isPost_60 : decode cX12_isPost 60 = .ok (.invokevirtual 234, 3) := do_182 (rdb (p := 32) (i := 28) ch_cX12_isPost_32 rfl) (rdb (p := 32) (i := 29) ch_cX12_isPost_32 rfl) (rdb (p := 32) (i := 30) ch_cX12_isPost_32 rfl) rfl
theorem dX12_isPost_63 : decode cX12_isPost 63 = .ok (.invokevirtual 107, 3) := do_182 (rdb (p := 32) (i := 31) ch_cX12_isPost_32 rfl) (rdb (p := 32) (i := 32) ch_cX12_isPost_32 rfl) (rdb (p := 32) (i := 33) ch_cX12_isPost_32 rfl) rfl
theorem ch_cX12_isPost_64 : (cX12_isPost.data.toList.drop 64).take 36 = [0, 107, 54, 7, 21, 7, 153, 0, 50, 42, 28, 21, 6, 21, 8, 182, 0, 234, 29, 160, 0, 37, 42, 42, 27, 182, 0, 143, 4, 42, 180, 0, 9, 21, 4, 6] := by decide +kernel
theorem dX12_isPost_66 : decode cX12_isPost 66 = .ok (.istore 7, 2) := do_54 (rdb (p := 64) (i := 2) ch_cX12_isPost_64 rfl) (rdb (p := 64) (i := 3) ch_cX12_isPost_64 rfl)
theorem dX12_isPost_68 : decode cX12_isPost 68 = .ok (.iload 7, 2) := do_21 (rdb (p := 64) (i := 4) ch_cX12_isPost_64 rfl) (rdb (p := 64) (i := 5) ch_cX12_isPost_64 rfl)
theorem dX12_isPost_70 : decode cX12_isPost 70 = .ok (.ifCond .eq 50, 3) := do_153 (rdb (p := 64) (i := 6) ch_cX12_isPost_64 rfl) (rdb (p := 64) (i := 7) ch_cX12_isPost_64 rfl) (rdb (p := 64) (i := 8) ch_cX12_isPost_64 rfl) (by decide +kernel)
theorem dX12_isPost_73 : decode cX12_isPost 73 = .ok (.aload_n 0, 1) := do_42 (rdb (p := 64) (i := 9) ch_cX12_isPost_64 rfl)
theorem dX12_isPost_74 : decode cX12_isPost 74 = .ok (.iload_n 2, 1) := do_28 (rdb (p := 64) (i := 10) ch_cX12_isPost_64 rfl)
theorem dX12_isPost_75 : decode cX12_isPost 75 = .ok (.iload 6, 2) := do_21 (rdb (p := 64) (i := 11) ch_cX12_isPost_64 rfl) (rdb (p := 64) (i := 12) ch_cX12_isPost_64 rfl)
theorem dX12_isPost_77 : decode cX12_isPost 77 = .ok (.iload 8, 2) := do_21 (rdb (p := 64) (i := 13) ch_cX12_isPost_64 rfl) (rdb (p := 64) (i := 14) ch_cX12_isPost_64 rfl)
theorem dX12_isPost_79 : decode cX12_isPost 79 = .ok (.invokevirtual 234, 3) := do_182 (rdb (p := 64) (i := 15) ch_cX12_isPost_64 rfl) (rdb (p := 64) (i := 16) ch_cX12_isPost_64 rfl) (rdb (p := 64) (i := 17) ch_cX12_isPost_64 rfl) rfl
theorem dX12_isPost_82 : decode cX12_isPost 82 = .ok (.iload_n 3, 1) := do_29 (rdb (p := 64) (i := 18) ch_cX12_isPost_64 rfl)
theorem dX12_isPost_83 : decode cX12_isPost 83 = .ok (.if_icmp .ne 37, 3) := do_160 (rdb (p := 64) (i := 19) ch_cX12_isPost_64 rfl) (rdb (p := 64) (i := 20) ch_cX12_isPost_64 rfl) (rdb (p := 64) (i := 21) ch_cX12_isPost_64 rfl) (by decide +kernel)
theorem dX12_isPost_86 : decode cX12_isPost 86 = .ok (.aload_n 0, 1) := do_42 (rdb (p := 64) (i := 22) ch_cX12_isPost_64 rfl)
theorem dX12_isPost_87 : decode cX12_isPost 87 = .ok (.aload_n 0, 1) := do_42 (rdb (p := 64) (i := 23) ch_cX12_isPost_64 rfl)
theorem dX12_isPost_88 : decode cX12_isPost 88 = .ok (.iload_n 1, 1) := do_27 (rdb (p := 64) (i := 24) ch_cX12_isPost_64 rfl)
theorem dX12_isPost_89 : decode cX12_isPost 89 = .ok (.invokevirtual 143, 3) := do_182 (rdb (p := 64) (i := 25) ch_cX12_isPost_64 rfl) (rdb (p := 64) (i := 26) ch_cX12_isPost_64 rfl) (rdb (p := 64) (i := 27) ch_cX12_isPost_64 rfl) rfl
theorem dX12_isPost_92 : decode cX12_isPost 92 = .ok (.iconst 1, 1) := do_4 (rdb (p := 64) (i := 28) ch_cX12_isPost_64 rfl)
theorem dX12_isPost_93 : decode cX12_isPost 93 = .ok (.aload_n 0, 1) := do_42 (rdb (p := 64) (i := 29) ch_cX12_isPost_64 rfl)
theorem dX12_isPost_94 : decode cX12_isPost 94 = .ok (.getfield 9, 3) := do_180 (rdb (p := 64) (i := 30) ch_cX12_isPost_64 rfl) (rdb (p := 64) (i := 31) ch_cX12_isPost_64 rfl) (rdb (p := 64) (i := 32) ch_cX12_isPost_64 rfl) rfl
theorem ch_cX12_isPost_96 : (cX12_isPost.data.toList.drop 96).take 36 = [9, 21, 4, 6, 96, 46, 42, 180, 0, 9, 21, 4, 7, 96, 46, 21, 6, 21, 8, 182, 0, 249, 54, 5, 132, 8, 1, 167, 255, 159, 132, 6, 1, 167, 255, 140] := by decide +kernel
theorem dX12_isPost_97 : decode cX12_isPost 97 = .ok (.iload 4, 2) := do_21 (rdb (p := 96) (i := 1) ch_cX12_isPost_96 rfl) (rdb (p := 96) (i := 2) ch_cX12_isPost_96 rfl)
theorem dX12_isPost_99 : decode cX12_isPost 99 = .ok (.iconst 3, 1) := do_6 (rdb (p := 96) (i := 3) ch_cX12_isPost_96 rfl)
theorem dX12_isPost_100 : decode cX12_isPost 100 = .ok (.iadd, 1) := do_96 (rdb (p := 96) (i := 4) ch_cX12_isPost_96 rfl)
theorem dX12_isPost_101 : decode cX12_isPost 101 = .ok (.iaload, 1) := do_46 (rdb (p := 96) (i := 5) ch_cX12_isPost_96 rfl)
theorem dX12_isPost_102 : decode cX12_isPost 102 = .ok (.aload_n 0, 1) := do_42 (rdb (p := 96) (i := 6) ch_cX12_isPost_96 rfl)
theorem dX12_isPost_103 : decode cX12_isPost 103 = .ok (.getfield 9, 3) := do_180 (rdb (p := 96) (i := 7) ch_cX12_isPost_96 rfl) (rdb (p := 96) (i := 8) ch_cX12_isPost_96 rfl) (rdb (p := 96) (i := 9) ch_cX12_isPost_96 rfl) rfl
theorem dX12_isPost_106 : decode cX12_isPost 106 = .ok (.iload 4, 2) := do_21 (rdb (p := 96) (i := 10) ch_cX12_isPost_96 rfl) (rdb (p := 96) (i := 11) ch_cX12_isPost_96 rfl)
theorem dX12_isPost_108 : decode cX12_isPost 108 = .ok (.iconst 4, 1) := do_7 (rdb (p := 96) (i := 12) ch_cX12_isPost_96 rfl)
theorem dX12_isPost_109 : decode cX12_isPost 109 = .ok (.iadd, 1) := do_96 (rdb (p := 96) (i := 13) ch_cX12_isPost_96 rfl)
theorem dX12_isPost_110 : decode cX12_isPost 110 = .ok (.iaload, 1) := do_46 (rdb (p := 96) (i := 14) ch_cX12_isPost_96 rfl)
theorem dX12_isPost_111 : decode cX12_isPost 111 = .ok (.iload 6, 2) := do_21 (rdb (p := 96) (i := 15) ch_cX12_isPost_96 rfl) (rdb (p := 96) (i := 16) ch_cX12_isPost_96 rfl)
theorem dX12_isPost_113 : decode cX12_isPost 113 = .ok (.iload 8, 2) := do_21 (rdb (p := 96) (i := 17) ch_cX12_isPost_96 rfl) (rdb (p := 96) (i := 18) ch_cX12_isPost_96 rfl)
theorem dX12_isPost_115 : decode cX12_isPost 115 = .ok (.invokevirtual 249, 3) := do_182 (rdb (p := 96) (i := 19) ch_cX12_isPost_96 rfl) (rdb (p := 96) (i := 20) ch_cX12_isPost_96 rfl) (rdb (p := 96) (i := 21) ch_cX12_isPost_96 rfl) rfl
theorem dX12_isPost_118 : decode cX12_isPost 118 = .ok (.istore 5, 2) := do_54 (rdb (p := 96) (i := 22) ch_cX12_isPost_96 rfl) (rdb (p := 96) (i := 23) ch_cX12_isPost_96 rfl)
theorem dX12_isPost_120 : decode cX12_isPost 120 = .ok (.iinc 8 1, 3) := do_132 (rdb (p := 96) (i := 24) ch_cX12_isPost_96 rfl) (rdb (p := 96) (i := 25) ch_cX12_isPost_96 rfl) (rdb (p := 96) (i := 26) ch_cX12_isPost_96 rfl) (by decide +kernel)
theorem dX12_isPost_123 : decode cX12_isPost 123 = .ok (.goto (-97), 3) := do_167 (rdb (p := 96) (i := 27) ch_cX12_isPost_96 rfl) (rdb (p := 96) (i := 28) ch_cX12_isPost_96 rfl) (rdb (p := 96) (i := 29) ch_cX12_isPost_96 rfl) (by decide +kernel)
theorem dX12_isPost_126 : decode cX12_isPost 126 = .ok (.iinc 6 1, 3) := do_132 (rdb (p := 96) (i := 30) ch_cX12_isPost_96 rfl) (rdb (p := 96) (i := 31) ch_cX12_isPost_96 rfl) (rdb (p := 96) (i := 32) ch_cX12_isPost_96 rfl) (by decide +kernel)
theorem ch_cX12_isPost_128 : (cX12_isPost.data.toList.drop 128).take 36 = [1, 167, 255, 140, 21, 5, 172] := by decide +kernel
theorem dX12_isPost_129 : decode cX12_isPost 129 = .ok (.goto (-116), 3) := do_167 (rdb (p := 128) (i := 1) ch_cX12_isPost_128 rfl) (rdb (p := 128) (i := 2) ch_cX12_isPost_128 rfl) (rdb (p := 128) (i := 3) ch_cX12_isPost_128 rfl) (by decide +kernel)
theorem dX12_isPost_132 : decode cX12_isPost 132 = .ok (.iload 5, 2) := do_21 (rdb (p := 128) (i := 4) ch_cX12_isPost_128 rfl) (rdb (p := 128) (i := 5) ch_cX12_isPost_128 rfl)
theorem dX12_isPost_134 : decode cX12_isPost 134 = .ok (.ireturn, 1) := do_172 (rdb (p := 128) (i := 6) ch_cX12_isPost_128 rfl)
theorem ch_cX12_lesson_0 : (cX12_lesson.data.toList.drop 0).take 36 = [27, 3, 16, 31, 184, 0, 85, 153, 0, 23, 28, 3, 16, 31, 184, 0, 85, 153, 0, 13, 29, 4, 16, 99, 184, 0, 85, 154, 0, 10, 42, 18, 103, 182, 0, 104] := by decide +kernel
theorem dX12_lesson_0 : decode cX12_lesson 0 = .ok (.iload_n 1, 1) := do_27 (rdb (p := 0) (i := 0) ch_cX12_lesson_0 rfl)
theorem dX12_lesson_1 : decode cX12_lesson 1 = .ok (.iconst 0, 1) := do_3 (rdb (p := 0) (i := 1) ch_cX12_lesson_0 rfl)
theorem dX12_lesson_2 : decode cX12_lesson 2 = .ok (.bipush 31, 2) := do_16 (rdb (p := 0) (i := 2) ch_cX12_lesson_0 rfl) (rdb (p := 0) (i := 3) ch_cX12_lesson_0 rfl) (by decide +kernel)
theorem dX12_lesson_4 : decode cX12_lesson 4 = .ok (.invokestatic 85, 3) := do_184 (rdb (p := 0) (i := 4) ch_cX12_lesson_0 rfl) (rdb (p := 0) (i := 5) ch_cX12_lesson_0 rfl) (rdb (p := 0) (i := 6) ch_cX12_lesson_0 rfl) rfl
theorem dX12_lesson_7 : decode cX12_lesson 7 = .ok (.ifCond .eq 23, 3) := do_153 (rdb (p := 0) (i := 7) ch_cX12_lesson_0 rfl) (rdb (p := 0) (i := 8) ch_cX12_lesson_0 rfl) (rdb (p := 0) (i := 9) ch_cX12_lesson_0 rfl) (by decide +kernel)
theorem dX12_lesson_10 : decode cX12_lesson 10 = .ok (.iload_n 2, 1) := do_28 (rdb (p := 0) (i := 10) ch_cX12_lesson_0 rfl)
theorem dX12_lesson_11 : decode cX12_lesson 11 = .ok (.iconst 0, 1) := do_3 (rdb (p := 0) (i := 11) ch_cX12_lesson_0 rfl)
theorem dX12_lesson_12 : decode cX12_lesson 12 = .ok (.bipush 31, 2) := do_16 (rdb (p := 0) (i := 12) ch_cX12_lesson_0 rfl) (rdb (p := 0) (i := 13) ch_cX12_lesson_0 rfl) (by decide +kernel)
theorem dX12_lesson_14 : decode cX12_lesson 14 = .ok (.invokestatic 85, 3) := do_184 (rdb (p := 0) (i := 14) ch_cX12_lesson_0 rfl) (rdb (p := 0) (i := 15) ch_cX12_lesson_0 rfl) (rdb (p := 0) (i := 16) ch_cX12_lesson_0 rfl) rfl
theorem dX12_lesson_17 : decode cX12_lesson 17 = .ok (.ifCond .eq 13, 3) := do_153 (rdb (p := 0) (i := 17) ch_cX12_lesson_0 rfl) (rdb (p := 0) (i := 18) ch_cX12_lesson_0 rfl) (rdb (p := 0) (i := 19) ch_cX12_lesson_0 rfl) (by decide +kernel)
theorem dX12_lesson_20 : decode cX12_lesson 20 = .ok (.iload_n 3, 1) := do_29 (rdb (p := 0) (i := 20) ch_cX12_lesson_0 rfl)
theorem dX12_lesson_21 : decode cX12_lesson 21 = .ok (.iconst 1, 1) := do_4 (rdb (p := 0) (i := 21) ch_cX12_lesson_0 rfl)
theorem dX12_lesson_22 : decode cX12_lesson 22 = .ok (.bipush 99, 2) := do_16 (rdb (p := 0) (i := 22) ch_cX12_lesson_0 rfl) (rdb (p := 0) (i := 23) ch_cX12_lesson_0 rfl) (by decide +kernel)
theorem dX12_lesson_24 : decode cX12_lesson 24 = .ok (.invokestatic 85, 3) := do_184 (rdb (p := 0) (i := 24) ch_cX12_lesson_0 rfl) (rdb (p := 0) (i := 25) ch_cX12_lesson_0 rfl) (rdb (p := 0) (i := 26) ch_cX12_lesson_0 rfl) rfl
theorem dX12_lesson_27 : decode cX12_lesson 27 = .ok (.ifCond .ne 10, 3) := do_154 (rdb (p := 0) (i := 27) ch_cX12_lesson_0 rfl) (rdb (p := 0) (i := 28) ch_cX12_lesson_0 rfl) (rdb (p := 0) (i := 29) ch_cX12_lesson_0 rfl) (by decide +kernel)
theorem dX12_lesson_30 : decode cX12_lesson 30 = .ok (.aload_n 0, 1) := do_42 (rdb (p := 0) (i := 30) ch_cX12_lesson_0 rfl)
theorem dX12_lesson_31 : decode cX12_lesson 31 = .ok (.ldc 103, 2) := do_18 (rdb (p := 0) (i := 31) ch_cX12_lesson_0 rfl) (rdb (p := 0) (i := 32) ch_cX12_lesson_0 rfl)
theorem ch_cX12_lesson_32 : (cX12_lesson.data.toList.drop 32).take 36 = [103, 182, 0, 104, 172, 42, 180, 0, 9, 6, 46, 54, 4, 21, 4, 16, 7, 160, 0, 10, 42, 18, 111, 182, 0, 104, 172, 42, 180, 0, 9, 17, 0, 252, 6, 21] := by decide +kernel
theorem dX12_lesson_33 : decode cX12_lesson 33 = .ok (.invokevirtual 104, 3) := do_182 (rdb (p := 32) (i := 1) ch_cX12_lesson_32 rfl) (rdb (p := 32) (i := 2) ch_cX12_lesson_32 rfl) (rdb (p := 32) (i := 3) ch_cX12_lesson_32 rfl) rfl
theorem dX12_lesson_36 : decode cX12_lesson 36 = .ok (.ireturn, 1) := do_172 (rdb (p := 32) (i := 4) ch_cX12_lesson_32 rfl)
theorem dX12_lesson_37 : decode cX12_lesson 37 = .ok (.aload_n 0, 1) := do_42 (rdb (p := 32) (i := 5) ch_cX12_lesson_32 rfl)
theorem dX12_lesson_38 : decode cX12_lesson 38 = .ok (.getfield 9, 3) := do_180 (rdb (p := 32) (i := 6) ch_cX12_lesson_32 rfl) (rdb (p := 32) (i := 7) ch_cX12_lesson_32 rfl) (rdb (p := 32) (i := 8) ch_cX12_lesson_32 rfl) rfl
theorem dX12_lesson_41 : decode cX12_lesson 41 = .ok (.iconst 3, 1) := do_6 (rdb (p := 32) (i := 9) ch_cX12_lesson_32 rfl)
theorem dX12_lesson_42 : decode cX12_lesson 42 = .ok (.iaload, 1) := do_46 (rdb (p := 32) (i := 10) ch_cX12_lesson_32 rfl)
theorem dX12_lesson_43 : decode cX12_lesson 43 = .ok (.istore 4, 2) := do_54 (rdb (p := 32) (i := 11) ch_cX12_lesson_32 rfl) (rdb (p := 32) (i := 12) ch_cX12_lesson_32 rfl)
theorem dX12_lesson_45 : decode cX12_lesson 45 = .ok (.iload 4, 2) := do_21 (rdb (p := 32) (i := 13) ch_cX12_lesson_32 rfl) (rdb (p := 32) (i := 14) ch_cX12_lesson_32 rfl)
theorem dX12_lesson_47 : decode cX12_lesson 47 = .ok (.bipush 7, 2) := do_16 (rdb (p := 32) (i := 15) ch_cX12_lesson_32 rfl) (rdb (p := 32) (i := 16) ch_cX12_lesson_32 rfl) (by decide +kernel)
theorem dX12_lesson_49 : decode cX12_lesson 49 = .ok (.if_icmp .ne 10, 3) := do_160 (rdb (p := 32) (i := 17) ch_cX12_lesson_32 rfl) (rdb (p := 32) (i := 18) ch_cX12_lesson_32 rfl) (rdb (p := 32) (i := 19) ch_cX12_lesson_32 rfl) (by decide +kernel)
theorem dX12_lesson_52 : decode cX12_lesson 52 = .ok (.aload_n 0, 1) := do_42 (rdb (p := 32) (i := 20) ch_cX12_lesson_32 rfl)
theorem dX12_lesson_53 : decode cX12_lesson 53 = .ok (.ldc 111, 2) := do_18 (rdb (p := 32) (i := 21) ch_cX12_lesson_32 rfl) (rdb (p := 32) (i := 22) ch_cX12_lesson_32 rfl)
theorem dX12_lesson_55 : decode cX12_lesson 55 = .ok (.invokevirtual 104, 3) := do_182 (rdb (p := 32) (i := 23) ch_cX12_lesson_32 rfl) (rdb (p := 32) (i := 24) ch_cX12_lesson_32 rfl) (rdb (p := 32) (i := 25) ch_cX12_lesson_32 rfl) rfl
theorem dX12_lesson_58 : decode cX12_lesson 58 = .ok (.ireturn, 1) := do_172 (rdb (p := 32) (i := 26) ch_cX12_lesson_32 rfl)
theorem dX12_lesson_59 : decode cX12_lesson 59 = .ok (.aload_n 0, 1) := do_42 (rdb (p := 32) (i := 27) ch_cX12_lesson_32 rfl)
theorem dX12_lesson_60 : decode cX12_lesson 60 = .ok (.getfield 9, 3) := do_180 (rdb (p := 32) (i := 28) ch_cX12_lesson_32 rfl) (rdb (p := 32) (i := 29) ch_cX12_lesson_32 rfl) (rdb (p := 32) (i := 30) ch_cX12_lesson_32 rfl) rfl
theorem dX12_lesson_63 : decode cX12_lesson 63 = .ok (.sipush 252, 3) := do_17 (rdb (p := 32) (i := 31) ch_cX12_lesson_32 rfl) (rdb (p := 32) (i := 32) ch_cX12_lesson_32 rfl) (rdb (p := 32) (i := 33) ch_cX12_lesson_32 rfl) (by decide +kernel)
theorem ch_cX12_lesson_64 : (cX12_lesson.data.toList.drop 64).take 36 = [0, 252, 6, 21, 4, 104, 96, 27, 79, 42, 180, 0, 9, 17, 0, 252, 6, 21, 4, 104, 96, 4, 96, 28, 79, 42, 180, 0, 9, 17, 0, 252, 6, 21, 4, 104] := by decide +kernel
theorem dX12_lesson_66 : decode cX12_lesson 66 = .ok (.iconst 3, 1) := do_6 (rdb (p := 64) (i := 2) ch_cX12_lesson_64 rfl)
theorem dX12_lesson_67 : decode cX12_lesson 67 = .ok (.iload 4, 2) := do_21 (rdb (p := 64) (i := 3) ch_cX12_lesson_64 rfl) (rdb (p := 64) (i := 4) ch_cX12_lesson_64 rfl)
theorem dX12_lesson_69 : decode cX12_lesson 69 = .ok (.imul, 1) := do_104 (rdb (p := 64) (i := 5) ch_cX12_lesson_64 rfl)
theorem dX12_lesson_70 : decode cX12_lesson 70 = .ok (.iadd, 1) := do_96 (rdb (p := 64) (i := 6) ch_cX12_lesson_64 rfl)
theorem dX12_lesson_71 : decode cX12_lesson 71 = .ok (.iload_n 1, 1) := do_27 (rdb (p := 64) (i := 7) ch_cX12_lesson_64 rfl)
theorem dX12_lesson_72 : decode cX12_lesson 72 = .ok (.iastore, 1) := do_79 (rdb (p := 64) (i := 8) ch_cX12_lesson_64 rfl)
theorem dX12_lesson_73 : decode cX12_lesson 73 = .ok (.aload_n 0, 1) := do_42 (rdb (p := 64) (i := 9) ch_cX12_lesson_64 rfl)
theorem dX12_lesson_74 : decode cX12_lesson 74 = .ok (.getfield 9, 3) := do_180 (rdb (p := 64) (i := 10) ch_cX12_lesson_64 rfl) (rdb (p := 64) (i := 11) ch_cX12_lesson_64 rfl) (rdb (p := 64) (i := 12) ch_cX12_lesson_64 rfl) rfl
theorem dX12_lesson_77 : decode cX12_lesson 77 = .ok (.sipush 252, 3) := do_17 (rdb (p := 64) (i := 13) ch_cX12_lesson_64 rfl) (rdb (p := 64) (i := 14) ch_cX12_lesson_64 rfl) (rdb (p := 64) (i := 15) ch_cX12_lesson_64 rfl) (by decide +kernel)
theorem dX12_lesson_80 : decode cX12_lesson 80 = .ok (.iconst 3, 1) := do_6 (rdb (p := 64) (i := 16) ch_cX12_lesson_64 rfl)
theorem dX12_lesson_81 : decode cX12_lesson 81 = .ok (.iload 4, 2) := do_21 (rdb (p := 64) (i := 17) ch_cX12_lesson_64 rfl) (rdb (p := 64) (i := 18) ch_cX12_lesson_64 rfl)
theorem dX12_lesson_83 : decode cX12_lesson 83 = .ok (.imul, 1) := do_104 (rdb (p := 64) (i := 19) ch_cX12_lesson_64 rfl)
theorem dX12_lesson_84 : decode cX12_lesson 84 = .ok (.iadd, 1) := do_96 (rdb (p := 64) (i := 20) ch_cX12_lesson_64 rfl)
theorem dX12_lesson_85 : decode cX12_lesson 85 = .ok (.iconst 1, 1) := do_4 (rdb (p := 64) (i := 21) ch_cX12_lesson_64 rfl)
theorem dX12_lesson_86 : decode cX12_lesson 86 = .ok (.iadd, 1) := do_96 (rdb (p := 64) (i := 22) ch_cX12_lesson_64 rfl)
theorem dX12_lesson_87 : decode cX12_lesson 87 = .ok (.iload_n 2, 1) := do_28 (rdb (p := 64) (i := 23) ch_cX12_lesson_64 rfl)
theorem dX12_lesson_88 : decode cX12_lesson 88 = .ok (.iastore, 1) := do_79 (rdb (p := 64) (i := 24) ch_cX12_lesson_64 rfl)
theorem dX12_lesson_89 : decode cX12_lesson 89 = .ok (.aload_n 0, 1) := do_42 (rdb (p := 64) (i := 25) ch_cX12_lesson_64 rfl)
theorem dX12_lesson_90 : decode cX12_lesson 90 = .ok (.getfield 9, 3) := do_180 (rdb (p := 64) (i := 26) ch_cX12_lesson_64 rfl) (rdb (p := 64) (i := 27) ch_cX12_lesson_64 rfl) (rdb (p := 64) (i := 28) ch_cX12_lesson_64 rfl) rfl
theorem dX12_lesson_93 : decode cX12_lesson 93 = .ok (.sipush 252, 3) := do_17 (rdb (p := 64) (i := 29) ch_cX12_lesson_64 rfl) (rdb (p := 64) (i := 30) ch_cX12_lesson_64 rfl) (rdb (p := 64) (i := 31) ch_cX12_lesson_64 rfl) (by decide +kernel)
theorem ch_cX12_lesson_96 : (cX12_lesson.data.toList.drop 96).take 36 = [6, 21, 4, 104, 96, 5, 96, 29, 79, 42, 180, 0, 9, 6, 92, 46, 4, 96, 79, 21, 4, 172] := by decide +kernel
theorem dX12_lesson_96 : decode cX12_lesson 96 = .ok (.iconst 3, 1) := do_6 (rdb (p := 96) (i := 0) ch_cX12_lesson_96 rfl)
theorem dX12_lesson_97 : decode cX12_lesson 97 = .ok (.iload 4, 2) := do_21 (rdb (p := 96) (i := 1) ch_cX12_lesson_96 rfl) (rdb (p := 96) (i := 2) ch_cX12_lesson_96 rfl)
theorem dX12_lesson_99 : decode cX12_lesson 99 = .ok (.imul, 1) := do_104 (rdb (p := 96) (i := 3) ch_cX12_lesson_96 rfl)
theorem dX12_lesson_100 : decode cX12_lesson 100 = .ok (.iadd, 1) := do_96 (rdb (p := 96) (i := 4) ch_cX12_lesson_96 rfl)
theorem dX12_lesson_101 : decode cX12_lesson 101 = .ok (.iconst 2, 1) := do_5 (rdb (p := 96) (i := 5) ch_cX12_lesson_96 rfl)
theorem dX12_lesson_102 : decode cX12_lesson 102 = .ok (.iadd, 1) := do_96 (rdb (p := 96) (i := 6) ch_cX12_lesson_96 rfl)
theorem dX12_lesson_103 : decode cX12_lesson 103 = .ok (.iload_n 3, 1) := do_29 (rdb (p := 96) (i := 7) ch_cX12_lesson_96 rfl)
theorem dX12_lesson_104 : decode cX12_lesson 104 = .ok (.iastore, 1) := do_79 (rdb (p := 96) (i := 8) ch_cX12_lesson_96 rfl)
theorem dX12_lesson_105 : decode cX12_lesson 105 = .ok (.aload_n 0, 1) := do_42 (rdb (p := 96) (i := 9) ch_cX12_lesson_96 rfl)
theorem dX12_lesson_106 : decode cX12_lesson 106 = .ok (.getfield 9, 3) := do_180 (rdb (p := 96) (i := 10) ch_cX12_lesson_96 rfl) (rdb (p := 96) (i := 11) ch_cX12_lesson_96 rfl) (rdb (p := 96) (i := 12) ch_cX12_lesson_96 rfl) rfl
theorem dX12_lesson_109 : decode cX12_lesson 109 = .ok (.iconst 3, 1) := do_6 (rdb (p := 96) (i := 13) ch_cX12_lesson_96 rfl)
theorem dX12_lesson_110 : decode cX12_lesson 110 = .ok (.dup2, 1) := do_92 (rdb (p := 96) (i := 14) ch_cX12_lesson_96 rfl)
theorem dX12_lesson_111 : decode cX12_lesson 111 = .ok (.iaload, 1) := do_46 (rdb (p := 96) (i := 15) ch_cX12_lesson_96 rfl)
theorem dX12_lesson_112 : decode cX12_lesson 112 = .ok (.iconst 1, 1) := do_4 (rdb (p := 96) (i := 16) ch_cX12_lesson_96 rfl)
theorem dX12_lesson_113 : decode cX12_lesson 113 = .ok (.iadd, 1) := do_96 (rdb (p := 96) (i := 17) ch_cX12_lesson_96 rfl)
theorem dX12_lesson_114 : decode cX12_lesson 114 = .ok (.iastore, 1) := do_79 (rdb (p := 96) (i := 18) ch_cX12_lesson_96 rfl)
theorem dX12_lesson_115 : decode cX12_lesson 115 = .ok (.iload 4, 2) := do_21 (rdb (p := 96) (i := 19) ch_cX12_lesson_96 rfl) (rdb (p := 96) (i := 20) ch_cX12_lesson_96 rfl)
theorem dX12_lesson_117 : decode cX12_lesson 117 = .ok (.ireturn, 1) := do_172 (rdb (p := 96) (i := 21) ch_cX12_lesson_96 rfl)
theorem ch_cX12_posts_0 : (cX12_posts.data.toList.drop 0).take 36 = [42, 27, 5, 182, 0, 116, 153, 0, 27, 28, 184, 0, 127, 153, 0, 20, 29, 184, 0, 127, 153, 0, 13, 21, 4, 3, 4, 184, 0, 85, 154, 0, 10, 42, 18, 103] := by decide +kernel
theorem dX12_posts_0 : decode cX12_posts 0 = .ok (.aload_n 0, 1) := do_42 (rdb (p := 0) (i := 0) ch_cX12_posts_0 rfl)
theorem dX12_posts_1 : decode cX12_posts 1 = .ok (.iload_n 1, 1) := do_27 (rdb (p := 0) (i := 1) ch_cX12_posts_0 rfl)
theorem dX12_posts_2 : decode cX12_posts 2 = .ok (.iconst 2, 1) := do_5 (rdb (p := 0) (i := 2) ch_cX12_posts_0 rfl)
theorem dX12_posts_3 : decode cX12_posts 3 = .ok (.invokevirtual 116, 3) := do_182 (rdb (p := 0) (i := 3) ch_cX12_posts_0 rfl) (rdb (p := 0) (i := 4) ch_cX12_posts_0 rfl) (rdb (p := 0) (i := 5) ch_cX12_posts_0 rfl) rfl
theorem dX12_posts_6 : decode cX12_posts 6 = .ok (.ifCond .eq 27, 3) := do_153 (rdb (p := 0) (i := 6) ch_cX12_posts_0 rfl) (rdb (p := 0) (i := 7) ch_cX12_posts_0 rfl) (rdb (p := 0) (i := 8) ch_cX12_posts_0 rfl) (by decide +kernel)
theorem dX12_posts_9 : decode cX12_posts 9 = .ok (.iload_n 2, 1) := do_28 (rdb (p := 0) (i := 9) ch_cX12_posts_0 rfl)
theorem dX12_posts_10 : decode cX12_posts 10 = .ok (.invokestatic 127, 3) := do_184 (rdb (p := 0) (i := 10) ch_cX12_posts_0 rfl) (rdb (p := 0) (i := 11) ch_cX12_posts_0 rfl) (rdb (p := 0) (i := 12) ch_cX12_posts_0 rfl) rfl
theorem dX12_posts_13 : decode cX12_posts 13 = .ok (.ifCond .eq 20, 3) := do_153 (rdb (p := 0) (i := 13) ch_cX12_posts_0 rfl) (rdb (p := 0) (i := 14) ch_cX12_posts_0 rfl) (rdb (p := 0) (i := 15) ch_cX12_posts_0 rfl) (by decide +kernel)
theorem dX12_posts_16 : decode cX12_posts 16 = .ok (.iload_n 3, 1) := do_29 (rdb (p := 0) (i := 16) ch_cX12_posts_0 rfl)
theorem dX12_posts_17 : decode cX12_posts 17 = .ok (.invokestatic 127, 3) := do_184 (rdb (p := 0) (i := 17) ch_cX12_posts_0 rfl) (rdb (p := 0) (i := 18) ch_cX12_posts_0 rfl) (rdb (p := 0) (i := 19) ch_cX12_posts_0 rfl) rfl
theorem dX12_posts_20 : decode cX12_posts 20 = .ok (.ifCond .eq 13, 3) := do_153 (rdb (p := 0) (i := 20) ch_cX12_posts_0 rfl) (rdb (p := 0) (i := 21) ch_cX12_posts_0 rfl) (rdb (p := 0) (i := 22) ch_cX12_posts_0 rfl) (by decide +kernel)
theorem dX12_posts_23 : decode cX12_posts 23 = .ok (.iload 4, 2) := do_21 (rdb (p := 0) (i := 23) ch_cX12_posts_0 rfl) (rdb (p := 0) (i := 24) ch_cX12_posts_0 rfl)
theorem dX12_posts_25 : decode cX12_posts 25 = .ok (.iconst 0, 1) := do_3 (rdb (p := 0) (i := 25) ch_cX12_posts_0 rfl)
theorem dX12_posts_26 : decode cX12_posts 26 = .ok (.iconst 1, 1) := do_4 (rdb (p := 0) (i := 26) ch_cX12_posts_0 rfl)
theorem dX12_posts_27 : decode cX12_posts 27 = .ok (.invokestatic 85, 3) := do_184 (rdb (p := 0) (i := 27) ch_cX12_posts_0 rfl) (rdb (p := 0) (i := 28) ch_cX12_posts_0 rfl) (rdb (p := 0) (i := 29) ch_cX12_posts_0 rfl) rfl
theorem dX12_posts_30 : decode cX12_posts 30 = .ok (.ifCond .ne 10, 3) := do_154 (rdb (p := 0) (i := 30) ch_cX12_posts_0 rfl) (rdb (p := 0) (i := 31) ch_cX12_posts_0 rfl) (rdb (p := 0) (i := 32) ch_cX12_posts_0 rfl) (by decide +kernel)
theorem ch_cX12_posts_32 : (cX12_posts.data.toList.drop 32).take 36 = [10, 42, 18, 103, 182, 0, 104, 172, 42, 180, 0, 72, 28, 46, 153, 0, 12, 42, 180, 0, 72, 29, 46, 154, 0, 10, 42, 18, 130, 182, 0, 104, 172, 42, 28, 3] := by decide +kernel
theorem dX12_posts_33 : decode cX12_posts 33 = .ok (.aload_n 0, 1) := do_42 (rdb (p := 32) (i := 1) ch_cX12_posts_32 rfl)
theorem dX12_posts_34 : decode cX12_posts 34 = .ok (.ldc 103, 2) := do_18 (rdb (p := 32) (i := 2) ch_cX12_posts_32 rfl) (rdb (p := 32) (i := 3) ch_cX12_posts_32 rfl)
theorem dX12_posts_36 : decode cX12_posts 36 = .ok (.invokevirtual 104, 3) := do_182 (rdb (p := 32) (i := 4) ch_cX12_posts_32 rfl) (rdb (p := 32) (i := 5) ch_cX12_posts_32 rfl) (rdb (p := 32) (i := 6) ch_cX12_posts_32 rfl) rfl
theorem dX12_posts_39 : decode cX12_posts 39 = .ok (.ireturn, 1) := do_172 (rdb (p := 32) (i := 7) ch_cX12_posts_32 rfl)
theorem dX12_posts_40 : decode cX12_posts 40 = .ok (.aload_n 0, 1) := do_42 (rdb (p := 32) (i := 8) ch_cX12_posts_32 rfl)
theorem dX12_posts_41 : decode cX12_posts 41 = .ok (.getfield 72, 3) := do_180 (rdb (p := 32) (i := 9) ch_cX12_posts_32 rfl) (rdb (p := 32) (i := 10) ch_cX12_posts_32 rfl) (rdb (p := 32) (i := 11) ch_cX12_posts_32 rfl) rfl
theorem dX12_posts_44 : decode cX12_posts 44 = .ok (.iload_n 2, 1) := do_28 (rdb (p := 32) (i := 12) ch_cX12_posts_32 rfl)
theorem dX12_posts_45 : decode cX12_posts 45 = .ok (.iaload, 1) := do_46 (rdb (p := 32) (i := 13) ch_cX12_posts_32 rfl)
theorem dX12_posts_46 : decode cX12_posts 46 = .ok (.ifCond .eq 12, 3) := do_153 (rdb (p := 32) (i := 14) ch_cX12_posts_32 rfl) (rdb (p := 32) (i := 15) ch_cX12_posts_32 rfl) (rdb (p := 32) (i := 16) ch_cX12_posts_32 rfl) (by decide +kernel)
theorem dX12_posts_49 : decode cX12_posts 49 = .ok (.aload_n 0, 1) := do_42 (rdb (p := 32) (i := 17) ch_cX12_posts_32 rfl)
theorem dX12_posts_50 : decode cX12_posts 50 = .ok (.getfield 72, 3) := do_180 (rdb (p := 32) (i := 18) ch_cX12_posts_32 rfl) (rdb (p := 32) (i := 19) ch_cX12_posts_32 rfl) (rdb (p := 32) (i := 20) ch_cX12_posts_32 rfl) rfl
theorem dX12_posts_53 : decode cX12_posts 53 = .ok (.iload_n 3, 1) := do_29 (rdb (p := 32) (i := 21) ch_cX12_posts_32 rfl)
theorem dX12_posts_54 : decode cX12_posts 54 = .ok (.iaload, 1) := do_46 (rdb (p := 32) (i := 22) ch_cX12_posts_32 rfl)
theorem dX12_posts_55 : decode cX12_posts 55 = .ok (.ifCond .ne 10, 3) := do_154 (rdb (p := 32) (i := 23) ch_cX12_posts_32 rfl) (rdb (p := 32) (i := 24) ch_cX12_posts_32 rfl) (rdb (p := 32) (i := 25) ch_cX12_posts_32 rfl) (by decide +kernel)
theorem dX12_posts_58 : decode cX12_posts 58 = .ok (.aload_n 0, 1) := do_42 (rdb (p := 32) (i := 26) ch_cX12_posts_32 rfl)
theorem dX12_posts_59 : decode cX12_posts 59 = .ok (.ldc 130, 2) := do_18 (rdb (p := 32) (i := 27) ch_cX12_posts_32 rfl) (rdb (p := 32) (i := 28) ch_cX12_posts_32 rfl)
theorem dX12_posts_61 : decode cX12_posts 61 = .ok (.invokevirtual 104, 3) := do_182 (rdb (p := 32) (i := 29) ch_cX12_posts_32 rfl) (rdb (p := 32) (i := 30) ch_cX12_posts_32 rfl) (rdb (p := 32) (i := 31) ch_cX12_posts_32 rfl) rfl
theorem ch_cX12_posts_64 : (cX12_posts.data.toList.drop 64).take 36 = [172, 42, 28, 3, 182, 1, 16, 153, 0, 12, 42, 29, 3, 182, 1, 16, 154, 0, 10, 42, 18, 123, 182, 0, 104, 172, 42, 27, 181, 0, 28, 3, 54, 5, 21, 5] := by decide +kernel
theorem dX12_posts_64 : decode cX12_posts 64 = .ok (.ireturn, 1) := do_172 (rdb (p := 64) (i := 0) ch_cX12_posts_64 rfl)
theorem dX12_posts_65 : decode cX12_posts 65 = .ok (.aload_n 0, 1) := do_42 (rdb (p := 64) (i := 1) ch_cX12_posts_64 rfl)
theorem dX12_posts_66 : decode cX12_posts 66 = .ok (.iload_n 2, 1) := do_28 (rdb (p := 64) (i := 2) ch_cX12_posts_64 rfl)
theorem dX12_posts_67 : decode cX12_posts 67 = .ok (.iconst 0, 1) := do_3 (rdb (p := 64) (i := 3) ch_cX12_posts_64 rfl)
theorem dX12_posts_68 : decode cX12_posts 68 = .ok (.invokevirtual 272, 3) := do_182 (rdb (p := 64) (i := 4) ch_cX12_posts_64 rfl) (rdb (p := 64) (i := 5) ch_cX12_posts_64 rfl) (rdb (p := 64) (i := 6) ch_cX12_posts_64 rfl) rfl
theorem dX12_posts_71 : decode cX12_posts 71 = .ok (.ifCond .eq 12, 3) := do_153 (rdb (p := 64) (i := 7) ch_cX12_posts_64 rfl) (rdb (p := 64) (i := 8) ch_cX12_posts_64 rfl) (rdb (p := 64) (i := 9) ch_cX12_posts_64 rfl) (by decide +kernel)
theorem dX12_posts_74 : decode cX12_posts 74 = .ok (.aload_n 0, 1) := do_42 (rdb (p := 64) (i := 10) ch_cX12_posts_64 rfl)
theorem dX12_posts_75 : decode cX12_posts 75 = .ok (.iload_n 3, 1) := do_29 (rdb (p := 64) (i := 11) ch_cX12_posts_64 rfl)
theorem dX12_posts_76 : decode cX12_posts 76 = .ok (.iconst 0, 1) := do_3 (rdb (p := 64) (i := 12) ch_cX12_posts_64 rfl)
theorem dX12_posts_77 : decode cX12_posts 77 = .ok (.invokevirtual 272, 3) := do_182 (rdb (p := 64) (i := 13) ch_cX12_posts_64 rfl) (rdb (p := 64) (i := 14) ch_cX12_posts_64 rfl) (rdb (p := 64) (i := 15) ch_cX12_posts_64 rfl) rfl
theorem dX12_posts_80 : decode cX12_posts 80 = .ok (.ifCond .ne 10, 3) := do_154 (rdb (p := 64) (i := 16) ch_cX12_posts_64 rfl) (rdb (p := 64) (i := 17) ch_cX12_posts_64 rfl) (rdb (p := 64) (i := 18) ch_cX12_posts_64 rfl) (by decide +kernel)
theorem dX12_posts_83 : decode cX12_posts 83 = .ok (.aload_n 0, 1) := do_42 (rdb (p := 64) (i := 19) ch_cX12_posts_64 rfl)
theorem dX12_posts_84 : decode cX12_posts 84 = .ok (.ldc 123, 2) := do_18 (rdb (p := 64) (i := 20) ch_cX12_posts_64 rfl) (rdb (p := 64) (i := 21) ch_cX12_posts_64 rfl)
theorem dX12_posts_86 : decode cX12_posts 86 = .ok (.invokevirtual 104, 3) := do_182 (rdb (p := 64) (i := 22) ch_cX12_posts_64 rfl) (rdb (p := 64) (i := 23) ch_cX12_posts_64 rfl) (rdb (p := 64) (i := 24) ch_cX12_posts_64 rfl) rfl
theorem dX12_posts_89 : decode cX12_posts 89 = .ok (.ireturn, 1) := do_172 (rdb (p := 64) (i := 25) ch_cX12_posts_64 rfl)
theorem dX12_posts_90 : decode cX12_posts 90 = .ok (.aload_n 0, 1) := do_42 (rdb (p := 64) (i := 26) ch_cX12_posts_64 rfl)
theorem dX12_posts_91 : decode cX12_posts 91 = .ok (.iload_n 1, 1) := do_27 (rdb (p := 64) (i := 27) ch_cX12_posts_64 rfl)
theorem dX12_posts_92 : decode cX12_posts 92 = .ok (.putfield 28, 3) := do_181 (rdb (p := 64) (i := 28) ch_cX12_posts_64 rfl) (rdb (p := 64) (i := 29) ch_cX12_posts_64 rfl) (rdb (p := 64) (i := 30) ch_cX12_posts_64 rfl) rfl
theorem dX12_posts_95 : decode cX12_posts 95 = .ok (.iconst 0, 1) := do_3 (rdb (p := 64) (i := 31) ch_cX12_posts_64 rfl)
theorem ch_cX12_posts_96 : (cX12_posts.data.toList.drop 96).take 36 = [54, 5, 21, 5, 42, 180, 0, 75, 29, 46, 162, 0, 87, 42, 180, 0, 66, 21, 5, 3, 79, 3, 54, 6, 21, 6, 42, 180, 0, 75, 28, 46, 162, 0, 59, 42] := by decide +kernel
theorem dX12_posts_96 : decode cX12_posts 96 = .ok (.istore 5, 2) := do_54 (rdb (p := 96) (i := 0) ch_cX12_posts_96 rfl) (rdb (p := 96) (i := 1) ch_cX12_posts_96 rfl)
theorem dX12_posts_98 : decode cX12_posts 98 = .ok (.iload 5, 2) := do_21 (rdb (p := 96) (i := 2) ch_cX12_posts_96 rfl) (rdb (p := 96) (i := 3) ch_cX12_posts_96 rfl)
theorem dX12_posts_100 : decode cX12_posts 100 = .ok (.aload_n 0, 1) := do_42 (rdb (p := 96) (i := 4) ch_cX12_posts_96 rfl)
theorem dX12_posts_101 : decode cX12_posts 101 = .ok (.getfield 75, 3) := do_180 (rdb (p := 96) (i := 5) ch_cX12_posts_96 rfl) (rdb (p := 96) (i := 6) ch_cX12_posts_96 rfl) (rdb (p := 96) (i := 7) ch_cX12_posts_96 rfl) rfl
theorem dX12_posts_104 : decode cX12_posts 104 = .ok (.iload_n 3, 1) := do_29 (rdb (p := 96) (i := 8) ch_cX12_posts_96 rfl)
theorem dX12_posts_105 : decode cX12_posts 105 = .ok (.iaload, 1) := do_46 (rdb (p := 96) (i := 9) ch_cX12_posts_96 rfl)
theorem dX12_posts_106 : decode cX12_posts 106 = .ok (.if_icmp .ge 87, 3) := do_162 (rdb (p := 96) (i := 10) ch_cX12_posts_96 rfl) (rdb (p := 96) (i := 11) ch_cX12_posts_96 rfl) (rdb (p := 96) (i := 12) ch_cX12_posts_96 rfl) (by decide +kernel)
theorem dX12_posts_109 : decode cX12_posts 109 = .ok (.aload_n 0, 1) := do_42 (rdb (p := 96) (i := 13) ch_cX12_posts_96 rfl)
theorem dX12_posts_110 : decode cX12_posts 110 = .ok (.getfield 66, 3) := do_180 (rdb (p := 96) (i := 14) ch_cX12_posts_96 rfl) (rdb (p := 96) (i := 15) ch_cX12_posts_96 rfl) (rdb (p := 96) (i := 16) ch_cX12_posts_96 rfl) rfl
theorem dX12_posts_113 : decode cX12_posts 113 = .ok (.iload 5, 2) := do_21 (rdb (p := 96) (i := 17) ch_cX12_posts_96 rfl) (rdb (p := 96) (i := 18) ch_cX12_posts_96 rfl)
theorem dX12_posts_115 : decode cX12_posts 115 = .ok (.iconst 0, 1) := do_3 (rdb (p := 96) (i := 19) ch_cX12_posts_96 rfl)
theorem dX12_posts_116 : decode cX12_posts 116 = .ok (.iastore, 1) := do_79 (rdb (p := 96) (i := 20) ch_cX12_posts_96 rfl)
theorem dX12_posts_117 : decode cX12_posts 117 = .ok (.iconst 0, 1) := do_3 (rdb (p := 96) (i := 21) ch_cX12_posts_96 rfl)
theorem dX12_posts_118 : decode cX12_posts 118 = .ok (.istore 6, 2) := do_54 (rdb (p := 96) (i := 22) ch_cX12_posts_96 rfl) (rdb (p := 96) (i := 23) ch_cX12_posts_96 rfl)
theorem dX12_posts_120 : decode cX12_posts 120 = .ok (.iload 6, 2) := do_21 (rdb (p := 96) (i := 24) ch_cX12_posts_96 rfl) (rdb (p := 96) (i := 25) ch_cX12_posts_96 rfl)
theorem dX12_posts_122 : decode cX12_posts 122 = .ok (.aload_n 0, 1) := do_42 (rdb (p := 96) (i := 26) ch_cX12_posts_96 rfl)
theorem dX12_posts_123 : decode cX12_posts 123 = .ok (.getfield 75, 3) := do_180 (rdb (p := 96) (i := 27) ch_cX12_posts_96 rfl) (rdb (p := 96) (i := 28) ch_cX12_posts_96 rfl) (rdb (p := 96) (i := 29) ch_cX12_posts_96 rfl) rfl
theorem dX12_posts_126 : decode cX12_posts 126 = .ok (.iload_n 2, 1) := do_28 (rdb (p := 96) (i := 30) ch_cX12_posts_96 rfl)
theorem dX12_posts_127 : decode cX12_posts 127 = .ok (.iaload, 1) := do_46 (rdb (p := 96) (i := 31) ch_cX12_posts_96 rfl)
theorem ch_cX12_posts_128 : (cX12_posts.data.toList.drop 128).take 36 = [162, 0, 59, 42, 180, 0, 66, 21, 5, 92, 46, 42, 27, 42, 180, 0, 78, 16, 24, 29, 104, 21, 5, 96, 46, 42, 180, 0, 78, 16, 24, 28, 104, 21, 6, 96] := by decide +kernel
theorem dX12_posts_128 : decode cX12_posts 128 = .ok (.if_icmp .ge 59, 3) := do_162 (rdb (p := 128) (i := 0) ch_cX12_posts_128 rfl) (rdb (p := 128) (i := 1) ch_cX12_posts_128 rfl) (rdb (p := 128) (i := 2) ch_cX12_posts_128 rfl) (by decide +kernel)
theorem dX12_posts_131 : decode cX12_posts 131 = .ok (.aload_n 0, 1) := do_42 (rdb (p := 128) (i := 3) ch_cX12_posts_128 rfl)
theorem dX12_posts_132 : decode cX12_posts 132 = .ok (.getfield 66, 3) := do_180 (rdb (p := 128) (i := 4) ch_cX12_posts_128 rfl) (rdb (p := 128) (i := 5) ch_cX12_posts_128 rfl) (rdb (p := 128) (i := 6) ch_cX12_posts_128 rfl) rfl
theorem dX12_posts_135 : decode cX12_posts 135 = .ok (.iload 5, 2) := do_21 (rdb (p := 128) (i := 7) ch_cX12_posts_128 rfl) (rdb (p := 128) (i := 8) ch_cX12_posts_128 rfl)
theorem dX12_posts_137 : decode cX12_posts 137 = .ok (.dup2, 1) := do_92 (rdb (p := 128) (i := 9) ch_cX12_posts_128 rfl)
theorem dX12_posts_138 : decode cX12_posts 138 = .ok (.iaload, 1) := do_46 (rdb (p := 128) (i := 10) ch_cX12_posts_128 rfl)
theorem dX12_posts_139 : decode cX12_posts 139 = .ok (.aload_n 0, 1) := do_42 (rdb (p := 128) (i := 11) ch_cX12_posts_128 rfl)
theorem dX12_posts_140 : decode cX12_posts 140 = .ok (.iload_n 1, 1) := do_27 (rdb (p := 128) (i := 12) ch_cX12_posts_128 rfl)
theorem dX12_posts_141 : decode cX12_posts 141 = .ok (.aload_n 0, 1) := do_42 (rdb (p := 128) (i := 13) ch_cX12_posts_128 rfl)
theorem dX12_posts_142 : decode cX12_posts 142 = .ok (.getfield 78, 3) := do_180 (rdb (p := 128) (i := 14) ch_cX12_posts_128 rfl) (rdb (p := 128) (i := 15) ch_cX12_posts_128 rfl) (rdb (p := 128) (i := 16) ch_cX12_posts_128 rfl) rfl
theorem dX12_posts_145 : decode cX12_posts 145 = .ok (.bipush 24, 2) := do_16 (rdb (p := 128) (i := 17) ch_cX12_posts_128 rfl) (rdb (p := 128) (i := 18) ch_cX12_posts_128 rfl) (by decide +kernel)
theorem dX12_posts_147 : decode cX12_posts 147 = .ok (.iload_n 3, 1) := do_29 (rdb (p := 128) (i := 19) ch_cX12_posts_128 rfl)
theorem dX12_posts_148 : decode cX12_posts 148 = .ok (.imul, 1) := do_104 (rdb (p := 128) (i := 20) ch_cX12_posts_128 rfl)
theorem dX12_posts_149 : decode cX12_posts 149 = .ok (.iload 5, 2) := do_21 (rdb (p := 128) (i := 21) ch_cX12_posts_128 rfl) (rdb (p := 128) (i := 22) ch_cX12_posts_128 rfl)
theorem dX12_posts_151 : decode cX12_posts 151 = .ok (.iadd, 1) := do_96 (rdb (p := 128) (i := 23) ch_cX12_posts_128 rfl)
theorem dX12_posts_152 : decode cX12_posts 152 = .ok (.iaload, 1) := do_46 (rdb (p := 128) (i := 24) ch_cX12_posts_128 rfl)
theorem dX12_posts_153 : decode cX12_posts 153 = .ok (.aload_n 0, 1) := do_42 (rdb (p := 128) (i := 25) ch_cX12_posts_128 rfl)
theorem dX12_posts_154 : decode cX12_posts 154 = .ok (.getfield 78, 3) := do_180 (rdb (p := 128) (i := 26) ch_cX12_posts_128 rfl) (rdb (p := 128) (i := 27) ch_cX12_posts_128 rfl) (rdb (p := 128) (i := 28) ch_cX12_posts_128 rfl) rfl
theorem dX12_posts_157 : decode cX12_posts 157 = .ok (.bipush 24, 2) := do_16 (rdb (p := 128) (i := 29) ch_cX12_posts_128 rfl) (rdb (p := 128) (i := 30) ch_cX12_posts_128 rfl) (by decide +kernel)
theorem dX12_posts_159 : decode cX12_posts 159 = .ok (.iload_n 2, 1) := do_28 (rdb (p := 128) (i := 31) ch_cX12_posts_128 rfl)
theorem ch_cX12_posts_160 : (cX12_posts.data.toList.drop 160).take 36 = [104, 21, 6, 96, 46, 182, 1, 65, 153, 0, 10, 4, 21, 6, 120, 167, 0, 4, 3, 128, 79, 132, 6, 1, 167, 255, 192, 132, 5, 1, 167, 255, 164, 42, 2, 181] := by decide +kernel
theorem dX12_posts_160 : decode cX12_posts 160 = .ok (.imul, 1) := do_104 (rdb (p := 160) (i := 0) ch_cX12_posts_160 rfl)
theorem dX12_posts_161 : decode cX12_posts 161 = .ok (.iload 6, 2) := do_21 (rdb (p := 160) (i := 1) ch_cX12_posts_160 rfl) (rdb (p := 160) (i := 2) ch_cX12_posts_160 rfl)
theorem dX12_posts_163 : decode cX12_posts 163 = .ok (.iadd, 1) := do_96 (rdb (p := 160) (i := 3) ch_cX12_posts_160 rfl)
theorem dX12_posts_164 : decode cX12_posts 164 = .ok (.iaload, 1) := do_46 (rdb (p := 160) (i := 4) ch_cX12_posts_160 rfl)
theorem dX12_posts_165 : decode cX12_posts 165 = .ok (.invokevirtual 321, 3) := do_182 (rdb (p := 160) (i := 5) ch_cX12_posts_160 rfl) (rdb (p := 160) (i := 6) ch_cX12_posts_160 rfl) (rdb (p := 160) (i := 7) ch_cX12_posts_160 rfl) rfl
theorem dX12_posts_168 : decode cX12_posts 168 = .ok (.ifCond .eq 10, 3) := do_153 (rdb (p := 160) (i := 8) ch_cX12_posts_160 rfl) (rdb (p := 160) (i := 9) ch_cX12_posts_160 rfl) (rdb (p := 160) (i := 10) ch_cX12_posts_160 rfl) (by decide +kernel)
theorem dX12_posts_171 : decode cX12_posts 171 = .ok (.iconst 1, 1) := do_4 (rdb (p := 160) (i := 11) ch_cX12_posts_160 rfl)
theorem dX12_posts_172 : decode cX12_posts 172 = .ok (.iload 6, 2) := do_21 (rdb (p := 160) (i := 12) ch_cX12_posts_160 rfl) (rdb (p := 160) (i := 13) ch_cX12_posts_160 rfl)
theorem dX12_posts_174 : decode cX12_posts 174 = .ok (.ishl, 1) := do_120 (rdb (p := 160) (i := 14) ch_cX12_posts_160 rfl)
theorem dX12_posts_175 : decode cX12_posts 175 = .ok (.goto 4, 3) := do_167 (rdb (p := 160) (i := 15) ch_cX12_posts_160 rfl) (rdb (p := 160) (i := 16) ch_cX12_posts_160 rfl) (rdb (p := 160) (i := 17) ch_cX12_posts_160 rfl) (by decide +kernel)
theorem dX12_posts_178 : decode cX12_posts 178 = .ok (.iconst 0, 1) := do_3 (rdb (p := 160) (i := 18) ch_cX12_posts_160 rfl)
theorem dX12_posts_179 : decode cX12_posts 179 = .ok (.ior, 1) := do_128 (rdb (p := 160) (i := 19) ch_cX12_posts_160 rfl)
theorem dX12_posts_180 : decode cX12_posts 180 = .ok (.iastore, 1) := do_79 (rdb (p := 160) (i := 20) ch_cX12_posts_160 rfl)
theorem dX12_posts_181 : decode cX12_posts 181 = .ok (.iinc 6 1, 3) := do_132 (rdb (p := 160) (i := 21) ch_cX12_posts_160 rfl) (rdb (p := 160) (i := 22) ch_cX12_posts_160 rfl) (rdb (p := 160) (i := 23) ch_cX12_posts_160 rfl) (by decide +kernel)
theorem dX12_posts_184 : decode cX12_posts 184 = .ok (.goto (-64), 3) := do_167 (rdb (p := 160) (i := 24) ch_cX12_posts_160 rfl) (rdb (p := 160) (i := 25) ch_cX12_posts_160 rfl) (rdb (p := 160) (i := 26) ch_cX12_posts_160 rfl) (by decide +kernel)
theorem dX12_posts_187 : decode cX12_posts 187 = .ok (.iinc 5 1, 3) := do_132 (rdb (p := 160) (i := 27) ch_cX12_posts_160 rfl) (rdb (p := 160) (i := 28) ch_cX12_posts_160 rfl) (rdb (p := 160) (i := 29) ch_cX12_posts_160 rfl) (by decide +kernel)
theorem dX12_posts_190 : decode cX12_posts 190 = .ok (.goto (-92), 3) := do_167 (rdb (p := 160) (i := 30) ch_cX12_posts_160 rfl) (rdb (p := 160) (i := 31) ch_cX12_posts_160 rfl) (rdb (p := 160) (i := 32) ch_cX12_posts_160 rfl) (by decide +kernel)
theorem ch_cX12_posts_192 : (cX12_posts.data.toList.drop 192).take 36 = [164, 42, 2, 181, 0, 28, 2, 54, 5, 3, 54, 6, 21, 6, 4, 42, 180, 0, 75, 28, 46, 120, 162, 0, 89, 4, 54, 7, 3, 54, 8, 21, 8, 42, 180, 0] := by decide +kernel
theorem dX12_posts_193 : decode cX12_posts 193 = .ok (.aload_n 0, 1) := do_42 (rdb (p := 192) (i := 1) ch_cX12_posts_192 rfl)
theorem dX12_posts_194 : decode cX12_posts 194 = .ok (.iconst (-1), 1) := do_2 (rdb (p := 192) (i := 2) ch_cX12_posts_192 rfl)
theorem dX12_posts_195 : decode cX12_posts 195 = .ok (.putfield 28, 3) := do_181 (rdb (p := 192) (i := 3) ch_cX12_posts_192 rfl) (rdb (p := 192) (i := 4) ch_cX12_posts_192 rfl) (rdb (p := 192) (i := 5) ch_cX12_posts_192 rfl) rfl
theorem dX12_posts_198 : decode cX12_posts 198 = .ok (.iconst (-1), 1) := do_2 (rdb (p := 192) (i := 6) ch_cX12_posts_192 rfl)
theorem dX12_posts_199 : decode cX12_posts 199 = .ok (.istore 5, 2) := do_54 (rdb (p := 192) (i := 7) ch_cX12_posts_192 rfl) (rdb (p := 192) (i := 8) ch_cX12_posts_192 rfl)
theorem dX12_posts_201 : decode cX12_posts 201 = .ok (.iconst 0, 1) := do_3 (rdb (p := 192) (i := 9) ch_cX12_posts_192 rfl)
theorem dX12_posts_202 : decode cX12_posts 202 = .ok (.istore 6, 2) := do_54 (rdb (p := 192) (i := 10) ch_cX12_posts_192 rfl) (rdb (p := 192) (i := 11) ch_cX12_posts_192 rfl)
theorem dX12_posts_204 : decode cX12_posts 204 = .ok (.iload 6, 2) := do_21 (rdb (p := 192) (i := 12) ch_cX12_posts_192 rfl) (rdb (p := 192) (i := 13) ch_cX12_posts_192 rfl)
theorem dX12_posts_206 : decode cX12_posts 206 = .ok (.iconst 1, 1) := do_4 (rdb (p := 192) (i := 14) ch_cX12_posts_192 rfl)
theorem dX12_posts_207 : decode cX12_posts 207 = .ok (.aload_n 0, 1) := do_42 (rdb (p := 192) (i := 15) ch_cX12_posts_192 rfl)
theorem dX12_posts_208 : decode cX12_posts 208 = .ok (.getfield 75, 3) := do_180 (rdb (p := 192) (i := 16) ch_cX12_posts_192 rfl) (rdb (p := 192) (i := 17) ch_cX12_posts_192 rfl) (rdb (p := 192) (i := 18) ch_cX12_posts_192 rfl) rfl
theorem dX12_posts_211 : decode cX12_posts 211 = .ok (.iload_n 2, 1) := do_28 (rdb (p := 192) (i := 19) ch_cX12_posts_192 rfl)
theorem dX12_posts_212 : decode cX12_posts 212 = .ok (.iaload, 1) := do_46 (rdb (p := 192) (i := 20) ch_cX12_posts_192 rfl)
theorem dX12_posts_213 : decode cX12_posts 213 = .ok (.ishl, 1) := do_120 (rdb (p := 192) (i := 21) ch_cX12_posts_192 rfl)
theorem dX12_posts_214 : decode cX12_posts 214 = .ok (.if_icmp .ge 89, 3) := do_162 (rdb (p := 192) (i := 22) ch_cX12_posts_192 rfl) (rdb (p := 192) (i := 23) ch_cX12_posts_192 rfl) (rdb (p := 192) (i := 24) ch_cX12_posts_192 rfl) (by decide +kernel)
theorem dX12_posts_217 : decode cX12_posts 217 = .ok (.iconst 1, 1) := do_4 (rdb (p := 192) (i := 25) ch_cX12_posts_192 rfl)
theorem dX12_posts_218 : decode cX12_posts 218 = .ok (.istore 7, 2) := do_54 (rdb (p := 192) (i := 26) ch_cX12_posts_192 rfl) (rdb (p := 192) (i := 27) ch_cX12_posts_192 rfl)
theorem dX12_posts_220 : decode cX12_posts 220 = .ok (.iconst 0, 1) := do_3 (rdb (p := 192) (i := 28) ch_cX12_posts_192 rfl)
theorem dX12_posts_221 : decode cX12_posts 221 = .ok (.istore 8, 2) := do_54 (rdb (p := 192) (i := 29) ch_cX12_posts_192 rfl) (rdb (p := 192) (i := 30) ch_cX12_posts_192 rfl)
theorem dX12_posts_223 : decode cX12_posts 223 = .ok (.iload 8, 2) := do_21 (rdb (p := 192) (i := 31) ch_cX12_posts_192 rfl) (rdb (p := 192) (i := 32) ch_cX12_posts_192 rfl)
theorem ch_cX12_posts_224 : (cX12_posts.data.toList.drop 224).take 36 = [8, 42, 180, 0, 75, 29, 46, 162, 0, 34, 21, 7, 153, 0, 20, 42, 180, 0, 66, 21, 8, 46, 21, 6, 126, 153, 0, 7, 4, 167, 0, 4, 3, 54, 7, 132] := by decide +kernel
theorem dX12_posts_225 : decode cX12_posts 225 = .ok (.aload_n 0, 1) := do_42 (rdb (p := 224) (i := 1) ch_cX12_posts_224 rfl)
theorem dX12_posts_226 : decode cX12_posts 226 = .ok (.getfield 75, 3) := do_180 (rdb (p := 224) (i := 2) ch_cX12_posts_224 rfl) (rdb (p := 224) (i := 3) ch_cX12_posts_224 rfl) (rdb (p := 224) (i := 4) ch_cX12_posts_224 rfl) rfl
theorem dX12_posts_229 : decode cX12_posts 229 = .ok (.iload_n 3, 1) := do_29 (rdb (p := 224) (i := 5) ch_cX12_posts_224 rfl)
theorem dX12_posts_230 : decode cX12_posts 230 = .ok (.iaload, 1) := do_46 (rdb (p := 224) (i := 6) ch_cX12_posts_224 rfl)
theorem dX12_posts_231 : decode cX12_posts 231 = .ok (.if_icmp .ge 34, 3) := do_162 (rdb (p := 224) (i := 7) ch_cX12_posts_224 rfl) (rdb (p := 224) (i := 8) ch_cX12_posts_224 rfl) (rdb (p := 224) (i := 9) ch_cX12_posts_224 rfl) (by decide +kernel)
theorem dX12_posts_234 : decode cX12_posts 234 = .ok (.iload 7, 2) := do_21 (rdb (p := 224) (i := 10) ch_cX12_posts_224 rfl) (rdb (p := 224) (i := 11) ch_cX12_posts_224 rfl)
theorem dX12_posts_236 : decode cX12_posts 236 = .ok (.ifCond .eq 20, 3) := do_153 (rdb (p := 224) (i := 12) ch_cX12_posts_224 rfl) (rdb (p := 224) (i := 13) ch_cX12_posts_224 rfl) (rdb (p := 224) (i := 14) ch_cX12_posts_224 rfl) (by decide +kernel)
theorem dX12_posts_239 : decode cX12_posts 239 = .ok (.aload_n 0, 1) := do_42 (rdb (p := 224) (i := 15) ch_cX12_posts_224 rfl)
theorem dX12_posts_240 : decode cX12_posts 240 = .ok (.getfield 66, 3) := do_180 (rdb (p := 224) (i := 16) ch_cX12_posts_224 rfl) (rdb (p := 224) (i := 17) ch_cX12_posts_224 rfl) (rdb (p := 224) (i := 18) ch_cX12_posts_224 rfl) rfl
theorem dX12_posts_243 : decode cX12_posts 243 = .ok (.iload 8, 2) := do_21 (rdb (p := 224) (i := 19) ch_cX12_posts_224 rfl) (rdb (p := 224) (i := 20) ch_cX12_posts_224 rfl)
theorem dX12_posts_245 : decode cX12_posts 245 = .ok (.iaload, 1) := do_46 (rdb (p := 224) (i := 21) ch_cX12_posts_224 rfl)
theorem dX12_posts_246 : decode cX12_posts 246 = .ok (.iload 6, 2) := do_21 (rdb (p := 224) (i := 22) ch_cX12_posts_224 rfl) (rdb (p := 224) (i := 23) ch_cX12_posts_224 rfl)
theorem dX12_posts_248 : decode cX12_posts 248 = .ok (.iand, 1) := do_126 (rdb (p := 224) (i := 24) ch_cX12_posts_224 rfl)
theorem dX12_posts_249 : decode cX12_posts 249 = .ok (.ifCond .eq 7, 3) := do_153 (rdb (p := 224) (i := 25) ch_cX12_posts_224 rfl) (rdb (p := 224) (i := 26) ch_cX12_posts_224 rfl) (rdb (p := 224) (i := 27) ch_cX12_posts_224 rfl) (by decide +kernel)
theorem dX12_posts_252 : decode cX12_posts 252 = .ok (.iconst 1, 1) := do_4 (rdb (p := 224) (i := 28) ch_cX12_posts_224 rfl)
theorem dX12_posts_253 : decode cX12_posts 253 = .ok (.goto 4, 3) := do_167 (rdb (p := 224) (i := 29) ch_cX12_posts_224 rfl) (rdb (p := 224) (i := 30) ch_cX12_posts_224 rfl) (rdb (p := 224) (i := 31) ch_cX12_posts_224 rfl) (by decide +kernel)
theorem ch_cX12_posts_256 : (cX12_posts.data.toList.drop 256).take 36 = [3, 54, 7, 132, 8, 1, 167, 255, 217, 21, 7, 153, 0, 26, 21, 5, 155, 0, 16, 21, 6, 184, 1, 24, 21, 5, 184, 1, 24, 162, 0, 8, 21, 6, 167, 0] := by decide +kernel
theorem dX12_posts_256 : decode cX12_posts 256 = .ok (.iconst 0, 1) := do_3 (rdb (p := 256) (i := 0) ch_cX12_posts_256 rfl)
theorem dX12_posts_257 : decode cX12_posts 257 = .ok (.istore 7, 2) := do_54 (rdb (p := 256) (i := 1) ch_cX12_posts_256 rfl) (rdb (p := 256) (i := 2) ch_cX12_posts_256 rfl)
theorem dX12_posts_259 : decode cX12_posts 259 = .ok (.iinc 8 1, 3) := do_132 (rdb (p := 256) (i := 3) ch_cX12_posts_256 rfl) (rdb (p := 256) (i := 4) ch_cX12_posts_256 rfl) (rdb (p := 256) (i := 5) ch_cX12_posts_256 rfl) (by decide +kernel)
theorem dX12_posts_262 : decode cX12_posts 262 = .ok (.goto (-39), 3) := do_167 (rdb (p := 256) (i := 6) ch_cX12_posts_256 rfl) (rdb (p := 256) (i := 7) ch_cX12_posts_256 rfl) (rdb (p := 256) (i := 8) ch_cX12_posts_256 rfl) (by decide +kernel)
theorem dX12_posts_265 : decode cX12_posts 265 = .ok (.iload 7, 2) := do_21 (rdb (p := 256) (i := 9) ch_cX12_posts_256 rfl) (rdb (p := 256) (i := 10) ch_cX12_posts_256 rfl)
theorem dX12_posts_267 : decode cX12_posts 267 = .ok (.ifCond .eq 26, 3) := do_153 (rdb (p := 256) (i := 11) ch_cX12_posts_256 rfl) (rdb (p := 256) (i := 12) ch_cX12_posts_256 rfl) (rdb (p := 256) (i := 13) ch_cX12_posts_256 rfl) (by decide +kernel)
theorem dX12_posts_270 : decode cX12_posts 270 = .ok (.iload 5, 2) := do_21 (rdb (p := 256) (i := 14) ch_cX12_posts_256 rfl) (rdb (p := 256) (i := 15) ch_cX12_posts_256 rfl)
theorem dX12_posts_272 : decode cX12_posts 272 = .ok (.ifCond .lt 16, 3) := do_155 (rdb (p := 256) (i := 16) ch_cX12_posts_256 rfl) (rdb (p := 256) (i := 17) ch_cX12_posts_256 rfl) (rdb (p := 256) (i := 18) ch_cX12_posts_256 rfl) (by decide +kernel)
theorem dX12_posts_275 : decode cX12_posts 275 = .ok (.iload 6, 2) := do_21 (rdb (p := 256) (i := 19) ch_cX12_posts_256 rfl) (rdb (p := 256) (i := 20) ch_cX12_posts_256 rfl)
theorem dX12_posts_277 : decode cX12_posts 277 = .ok (.invokestatic 280, 3) := do_184 (rdb (p := 256) (i := 21) ch_cX12_posts_256 rfl) (rdb (p := 256) (i := 22) ch_cX12_posts_256 rfl) (rdb (p := 256) (i := 23) ch_cX12_posts_256 rfl) rfl
theorem dX12_posts_280 : decode cX12_posts 280 = .ok (.iload 5, 2) := do_21 (rdb (p := 256) (i := 24) ch_cX12_posts_256 rfl) (rdb (p := 256) (i := 25) ch_cX12_posts_256 rfl)
theorem dX12_posts_282 : decode cX12_posts 282 = .ok (.invokestatic 280, 3) := do_184 (rdb (p := 256) (i := 26) ch_cX12_posts_256 rfl) (rdb (p := 256) (i := 27) ch_cX12_posts_256 rfl) (rdb (p := 256) (i := 28) ch_cX12_posts_256 rfl) rfl
theorem dX12_posts_285 : decode cX12_posts 285 = .ok (.if_icmp .ge 8, 3) := do_162 (rdb (p := 256) (i := 29) ch_cX12_posts_256 rfl) (rdb (p := 256) (i := 30) ch_cX12_posts_256 rfl) (rdb (p := 256) (i := 31) ch_cX12_posts_256 rfl) (by decide +kernel)
theorem ch_cX12_posts_288 : (cX12_posts.data.toList.drop 288).take 36 = [21, 6, 167, 0, 5, 21, 5, 54, 5, 132, 6, 1, 167, 255, 160, 21, 5, 156, 0, 12, 42, 18, 110, 182, 0, 104, 167, 0, 18, 21, 4, 154, 0, 11, 21, 5] := by decide +kernel
theorem dX12_posts_288 : decode cX12_posts 288 = .ok (.iload 6, 2) := do_21 (rdb (p := 288) (i := 0) ch_cX12_posts_288 rfl) (rdb (p := 288) (i := 1) ch_cX12_posts_288 rfl)
theorem dX12_posts_290 : decode cX12_posts 290 = .ok (.goto 5, 3) := do_167 (rdb (p := 288) (i := 2) ch_cX12_posts_288 rfl) (rdb (p := 288) (i := 3) ch_cX12_posts_288 rfl) (rdb (p := 288) (i := 4) ch_cX12_posts_288 rfl) (by decide +kernel)
theorem dX12_posts_293 : decode cX12_posts 293 = .ok (.iload 5, 2) := do_21 (rdb (p := 288) (i := 5) ch_cX12_posts_288 rfl) (rdb (p := 288) (i := 6) ch_cX12_posts_288 rfl)
theorem dX12_posts_295 : decode cX12_posts 295 = .ok (.istore 5, 2) := do_54 (rdb (p := 288) (i := 7) ch_cX12_posts_288 rfl) (rdb (p := 288) (i := 8) ch_cX12_posts_288 rfl)
theorem dX12_posts_297 : decode cX12_posts 297 = .ok (.iinc 6 1, 3) := do_132 (rdb (p := 288) (i := 9) ch_cX12_posts_288 rfl) (rdb (p := 288) (i := 10) ch_cX12_posts_288 rfl) (rdb (p := 288) (i := 11) ch_cX12_posts_288 rfl) (by decide +kernel)
theorem dX12_posts_300 : decode cX12_posts 300 = .ok (.goto (-96), 3) := do_167 (rdb (p := 288) (i := 12) ch_cX12_posts_288 rfl) (rdb (p := 288) (i := 13) ch_cX12_posts_288 rfl) (rdb (p := 288) (i := 14) ch_cX12_posts_288 rfl) (by decide +kernel)
theorem dX12_posts_303 : decode cX12_posts 303 = .ok (.iload 5, 2) := do_21 (rdb (p := 288) (i := 15) ch_cX12_posts_288 rfl) (rdb (p := 288) (i := 16) ch_cX12_posts_288 rfl)
theorem dX12_posts_305 : decode cX12_posts 305 = .ok (.ifCond .ge 12, 3) := do_156 (rdb (p := 288) (i := 17) ch_cX12_posts_288 rfl) (rdb (p := 288) (i := 18) ch_cX12_posts_288 rfl) (rdb (p := 288) (i := 19) ch_cX12_posts_288 rfl) (by decide +kernel)
theorem dX12_posts_308 : decode cX12_posts 308 = .ok (.aload_n 0, 1) := do_42 (rdb (p := 288) (i := 20) ch_cX12_posts_288 rfl)
theorem dX12_posts_309 : decode cX12_posts 309 = .ok (.ldc 110, 2) := do_18 (rdb (p := 288) (i := 21) ch_cX12_posts_288 rfl) (rdb (p := 288) (i := 22) ch_cX12_posts_288 rfl)
theorem dX12_posts_311 : decode cX12_posts 311 = .ok (.invokevirtual 104, 3) := do_182 (rdb (p := 288) (i := 23) ch_cX12_posts_288 rfl) (rdb (p := 288) (i := 24) ch_cX12_posts_288 rfl) (rdb (p := 288) (i := 25) ch_cX12_posts_288 rfl) rfl
theorem dX12_posts_314 : decode cX12_posts 314 = .ok (.goto 18, 3) := do_167 (rdb (p := 288) (i := 26) ch_cX12_posts_288 rfl) (rdb (p := 288) (i := 27) ch_cX12_posts_288 rfl) (rdb (p := 288) (i := 28) ch_cX12_posts_288 rfl) (by decide +kernel)
theorem dX12_posts_317 : decode cX12_posts 317 = .ok (.iload 4, 2) := do_21 (rdb (p := 288) (i := 29) ch_cX12_posts_288 rfl) (rdb (p := 288) (i := 30) ch_cX12_posts_288 rfl)
theorem dX12_posts_319 : decode cX12_posts 319 = .ok (.ifCond .ne 11, 3) := do_154 (rdb (p := 288) (i := 31) ch_cX12_posts_288 rfl) (rdb (p := 288) (i := 32) ch_cX12_posts_288 rfl) (rdb (p := 288) (i := 33) ch_cX12_posts_288 rfl) (by decide +kernel)
theorem ch_cX12_posts_320 : (cX12_posts.data.toList.drop 320).take 36 = [0, 11, 21, 5, 184, 1, 24, 167, 0, 5, 21, 5, 172] := by decide +kernel
theorem dX12_posts_322 : decode cX12_posts 322 = .ok (.iload 5, 2) := do_21 (rdb (p := 320) (i := 2) ch_cX12_posts_320 rfl) (rdb (p := 320) (i := 3) ch_cX12_posts_320 rfl)
theorem dX12_posts_324 : decode cX12_posts 324 = .ok (.invokestatic 280, 3) := do_184 (rdb (p := 320) (i := 4) ch_cX12_posts_320 rfl) (rdb (p := 320) (i := 5) ch_cX12_posts_320 rfl) (rdb (p := 320) (i := 6) ch_cX12_posts_320 rfl) rfl
theorem dX12_posts_327 : decode cX12_posts 327 = .ok (.goto 5, 3) := do_167 (rdb (p := 320) (i := 7) ch_cX12_posts_320 rfl) (rdb (p := 320) (i := 8) ch_cX12_posts_320 rfl) (rdb (p := 320) (i := 9) ch_cX12_posts_320 rfl) (by decide +kernel)
theorem dX12_posts_330 : decode cX12_posts 330 = .ok (.iload 5, 2) := do_21 (rdb (p := 320) (i := 10) ch_cX12_posts_320 rfl) (rdb (p := 320) (i := 11) ch_cX12_posts_320 rfl)
theorem dX12_posts_332 : decode cX12_posts 332 = .ok (.ireturn, 1) := do_172 (rdb (p := 320) (i := 12) ch_cX12_posts_320 rfl)
theorem ch_cX12_safe_0 : (cX12_safe.data.toList.drop 0).take 36 = [42, 27, 5, 182, 0, 116, 154, 0, 10, 42, 18, 103, 182, 0, 104, 172, 42, 180, 0, 9, 42, 27, 182, 0, 93, 4, 96, 46, 61, 42, 180, 0, 9, 42, 27, 182] := by decide +kernel
theorem dX12_safe_0 : decode cX12_safe 0 = .ok (.aload_n 0, 1) := do_42 (rdb (p := 0) (i := 0) ch_cX12_safe_0 rfl)
theorem dX12_safe_1 : decode cX12_safe 1 = .ok (.iload_n 1, 1) := do_27 (rdb (p := 0) (i := 1) ch_cX12_safe_0 rfl)
theorem dX12_safe_2 : decode cX12_safe 2 = .ok (.iconst 2, 1) := do_5 (rdb (p := 0) (i := 2) ch_cX12_safe_0 rfl)
theorem dX12_safe_3 : decode cX12_safe 3 = .ok (.invokevirtual 116, 3) := do_182 (rdb (p := 0) (i := 3) ch_cX12_safe_0 rfl) (rdb (p := 0) (i := 4) ch_cX12_safe_0 rfl) (rdb (p := 0) (i := 5) ch_cX12_safe_0 rfl) rfl
theorem dX12_safe_6 : decode cX12_safe 6 = .ok (.ifCond .ne 10, 3) := do_154 (rdb (p := 0) (i := 6) ch_cX12_safe_0 rfl) (rdb (p := 0) (i := 7) ch_cX12_safe_0 rfl) (rdb (p := 0) (i := 8) ch_cX12_safe_0 rfl) (by decide +kernel)
theorem dX12_safe_9 : decode cX12_safe 9 = .ok (.aload_n 0, 1) := do_42 (rdb (p := 0) (i := 9) ch_cX12_safe_0 rfl)
theorem dX12_safe_10 : decode cX12_safe 10 = .ok (.ldc 103, 2) := do_18 (rdb (p := 0) (i := 10) ch_cX12_safe_0 rfl) (rdb (p := 0) (i := 11) ch_cX12_safe_0 rfl)
theorem dX12_safe_12 : decode cX12_safe 12 = .ok (.invokevirtual 104, 3) := do_182 (rdb (p := 0) (i := 12) ch_cX12_safe_0 rfl) (rdb (p := 0) (i := 13) ch_cX12_safe_0 rfl) (rdb (p := 0) (i := 14) ch_cX12_safe_0 rfl) rfl
theorem dX12_safe_15 : decode cX12_safe 15 = .ok (.ireturn, 1) := do_172 (rdb (p := 0) (i := 15) ch_cX12_safe_0 rfl)
theorem dX12_safe_16 : decode cX12_safe 16 = .ok (.aload_n 0, 1) := do_42 (rdb (p := 0) (i := 16) ch_cX12_safe_0 rfl)
theorem dX12_safe_17 : decode cX12_safe 17 = .ok (.getfield 9, 3) := do_180 (rdb (p := 0) (i := 17) ch_cX12_safe_0 rfl) (rdb (p := 0) (i := 18) ch_cX12_safe_0 rfl) (rdb (p := 0) (i := 19) ch_cX12_safe_0 rfl) rfl
theorem dX12_safe_20 : decode cX12_safe 20 = .ok (.aload_n 0, 1) := do_42 (rdb (p := 0) (i := 20) ch_cX12_safe_0 rfl)
theorem dX12_safe_21 : decode cX12_safe 21 = .ok (.iload_n 1, 1) := do_27 (rdb (p := 0) (i := 21) ch_cX12_safe_0 rfl)
theorem dX12_safe_22 : decode cX12_safe 22 = .ok (.invokevirtual 93, 3) := do_182 (rdb (p := 0) (i := 22) ch_cX12_safe_0 rfl) (rdb (p := 0) (i := 23) ch_cX12_safe_0 rfl) (rdb (p := 0) (i := 24) ch_cX12_safe_0 rfl) rfl
theorem dX12_safe_25 : decode cX12_safe 25 = .ok (.iconst 1, 1) := do_4 (rdb (p := 0) (i := 25) ch_cX12_safe_0 rfl)
theorem dX12_safe_26 : decode cX12_safe 26 = .ok (.iadd, 1) := do_96 (rdb (p := 0) (i := 26) ch_cX12_safe_0 rfl)
theorem dX12_safe_27 : decode cX12_safe 27 = .ok (.iaload, 1) := do_46 (rdb (p := 0) (i := 27) ch_cX12_safe_0 rfl)
theorem dX12_safe_28 : decode cX12_safe 28 = .ok (.istore_n 2, 1) := do_61 (rdb (p := 0) (i := 28) ch_cX12_safe_0 rfl)
theorem dX12_safe_29 : decode cX12_safe 29 = .ok (.aload_n 0, 1) := do_42 (rdb (p := 0) (i := 29) ch_cX12_safe_0 rfl)
theorem dX12_safe_30 : decode cX12_safe 30 = .ok (.getfield 9, 3) := do_180 (rdb (p := 0) (i := 30) ch_cX12_safe_0 rfl) (rdb (p := 0) (i := 31) ch_cX12_safe_0 rfl) (rdb (p := 0) (i := 32) ch_cX12_safe_0 rfl) rfl
theorem ch_cX12_safe_32 : (cX12_safe.data.toList.drop 32).take 36 = [9, 42, 27, 182, 0, 93, 5, 96, 46, 62, 42, 27, 28, 29, 182, 1, 0, 54, 4, 21, 4, 4, 100, 54, 5, 21, 4, 154, 0, 51, 3, 54, 5, 21, 5, 16] := by decide +kernel
theorem dX12_safe_33 : decode cX12_safe 33 = .ok (.aload_n 0, 1) := do_42 (rdb (p := 32) (i := 1) ch_cX12_safe_32 rfl)
theorem dX12_safe_34 : decode cX12_safe 34 = .ok (.iload_n 1, 1) := do_27 (rdb (p := 32) (i := 2) ch_cX12_safe_32 rfl)
theorem dX12_safe_35 : decode cX12_safe 35 = .ok (.invokevirtual 93, 3) := do_182 (rdb (p := 32) (i := 3) ch_cX12_safe_32 rfl) (rdb (p := 32) (i := 4) ch_cX12_safe_32 rfl) (rdb (p := 32) (i := 5) ch_cX12_safe_32 rfl) rfl
theorem dX12_safe_38 : decode cX12_safe 38 = .ok (.iconst 2, 1) := do_5 (rdb (p := 32) (i := 6) ch_cX12_safe_32 rfl)
theorem dX12_safe_39 : decode cX12_safe 39 = .ok (.iadd, 1) := do_96 (rdb (p := 32) (i := 7) ch_cX12_safe_32 rfl)
theorem dX12_safe_40 : decode cX12_safe 40 = .ok (.iaload, 1) := do_46 (rdb (p := 32) (i := 8) ch_cX12_safe_32 rfl)
theorem dX12_safe_41 : decode cX12_safe 41 = .ok (.istore_n 3, 1) := do_62 (rdb (p := 32) (i := 9) ch_cX12_safe_32 rfl)
theorem dX12_safe_42 : decode cX12_safe 42 = .ok (.aload_n 0, 1) := do_42 (rdb (p := 32) (i := 10) ch_cX12_safe_32 rfl)
theorem dX12_safe_43 : decode cX12_safe 43 = .ok (.iload_n 1, 1) := do_27 (rdb (p := 32) (i := 11) ch_cX12_safe_32 rfl)
theorem dX12_safe_44 : decode cX12_safe 44 = .ok (.iload_n 2, 1) := do_28 (rdb (p := 32) (i := 12) ch_cX12_safe_32 rfl)
theorem dX12_safe_45 : decode cX12_safe 45 = .ok (.iload_n 3, 1) := do_29 (rdb (p := 32) (i := 13) ch_cX12_safe_32 rfl)
theorem dX12_safe_46 : decode cX12_safe 46 = .ok (.invokevirtual 256, 3) := do_182 (rdb (p := 32) (i := 14) ch_cX12_safe_32 rfl) (rdb (p := 32) (i := 15) ch_cX12_safe_32 rfl) (rdb (p := 32) (i := 16) ch_cX12_safe_32 rfl) rfl
theorem dX12_safe_49 : decode cX12_safe 49 = .ok (.istore 4, 2) := do_54 (rdb (p := 32) (i := 17) ch_cX12_safe_32 rfl) (rdb (p := 32) (i := 18) ch_cX12_safe_32 rfl)
theorem dX12_safe_51 : decode cX12_safe 51 = .ok (.iload 4, 2) := do_21 (rdb (p := 32) (i := 19) ch_cX12_safe_32 rfl) (rdb (p := 32) (i := 20) ch_cX12_safe_32 rfl)
theorem dX12_safe_53 : decode cX12_safe 53 = .ok (.iconst 1, 1) := do_4 (rdb (p := 32) (i := 21) ch_cX12_safe_32 rfl)
theorem dX12_safe_54 : decode cX12_safe 54 = .ok (.isub, 1) := do_100 (rdb (p := 32) (i := 22) ch_cX12_safe_32 rfl)
theorem dX12_safe_55 : decode cX12_safe 55 = .ok (.istore 5, 2) := do_54 (rdb (p := 32) (i := 23) ch_cX12_safe_32 rfl) (rdb (p := 32) (i := 24) ch_cX12_safe_32 rfl)
theorem dX12_safe_57 : decode cX12_safe 57 = .ok (.iload 4, 2) := do_21 (rdb (p := 32) (i := 25) ch_cX12_safe_32 rfl) (rdb (p := 32) (i := 26) ch_cX12_safe_32 rfl)
theorem dX12_safe_59 : decode cX12_safe 59 = .ok (.ifCond .ne 51, 3) := do_154 (rdb (p := 32) (i := 27) ch_cX12_safe_32 rfl) (rdb (p := 32) (i := 28) ch_cX12_safe_32 rfl) (rdb (p := 32) (i := 29) ch_cX12_safe_32 rfl) (by decide +kernel)
theorem dX12_safe_62 : decode cX12_safe 62 = .ok (.iconst 0, 1) := do_3 (rdb (p := 32) (i := 30) ch_cX12_safe_32 rfl)
theorem dX12_safe_63 : decode cX12_safe 63 = .ok (.istore 5, 2) := do_54 (rdb (p := 32) (i := 31) ch_cX12_safe_32 rfl) (rdb (p := 32) (i := 32) ch_cX12_safe_32 rfl)
theorem ch_cX12_safe_64 : (cX12_safe.data.toList.drop 64).take 36 = [5, 21, 5, 16, 15, 162, 0, 41, 42, 28, 29, 21, 5, 4, 96, 182, 0, 234, 155, 0, 28, 42, 27, 42, 28, 29, 21, 5, 4, 96, 182, 0, 234, 182, 1, 13] := by decide +kernel
theorem dX12_safe_65 : decode cX12_safe 65 = .ok (.iload 5, 2) := do_21 (rdb (p := 64) (i := 1) ch_cX12_safe_64 rfl) (rdb (p := 64) (i := 2) ch_cX12_safe_64 rfl)
theorem dX12_safe_67 : decode cX12_safe 67 = .ok (.bipush 15, 2) := do_16 (rdb (p := 64) (i := 3) ch_cX12_safe_64 rfl) (rdb (p := 64) (i := 4) ch_cX12_safe_64 rfl) (by decide +kernel)
theorem dX12_safe_69 : decode cX12_safe 69 = .ok (.if_icmp .ge 41, 3) := do_162 (rdb (p := 64) (i := 5) ch_cX12_safe_64 rfl) (rdb (p := 64) (i := 6) ch_cX12_safe_64 rfl) (rdb (p := 64) (i := 7) ch_cX12_safe_64 rfl) (by decide +kernel)
theorem dX12_safe_72 : decode cX12_safe 72 = .ok (.aload_n 0, 1) := do_42 (rdb (p := 64) (i := 8) ch_cX12_safe_64 rfl)
theorem dX12_safe_73 : decode cX12_safe 73 = .ok (.iload_n 2, 1) := do_28 (rdb (p := 64) (i := 9) ch_cX12_safe_64 rfl)
theorem dX12_safe_74 : decode cX12_safe 74 = .ok (.iload_n 3, 1) := do_29 (rdb (p := 64) (i := 10) ch_cX12_safe_64 rfl)
theorem dX12_safe_75 : decode cX12_safe 75 = .ok (.iload 5, 2) := do_21 (rdb (p := 64) (i := 11) ch_cX12_safe_64 rfl) (rdb (p := 64) (i := 12) ch_cX12_safe_64 rfl)
theorem dX12_safe_77 : decode cX12_safe 77 = .ok (.iconst 1, 1) := do_4 (rdb (p := 64) (i := 13) ch_cX12_safe_64 rfl)
theorem dX12_safe_78 : decode cX12_safe 78 = .ok (.iadd, 1) := do_96 (rdb (p := 64) (i := 14) ch_cX12_safe_64 rfl)
theorem dX12_safe_79 : decode cX12_safe 79 = .ok (.invokevirtual 234, 3) := do_182 (rdb (p := 64) (i := 15) ch_cX12_safe_64 rfl) (rdb (p := 64) (i := 16) ch_cX12_safe_64 rfl) (rdb (p := 64) (i := 17) ch_cX12_safe_64 rfl) rfl
theorem dX12_safe_82 : decode cX12_safe 82 = .ok (.ifCond .lt 28, 3) := do_155 (rdb (p := 64) (i := 18) ch_cX12_safe_64 rfl) (rdb (p := 64) (i := 19) ch_cX12_safe_64 rfl) (rdb (p := 64) (i := 20) ch_cX12_safe_64 rfl) (by decide +kernel)
theorem dX12_safe_85 : decode cX12_safe 85 = .ok (.aload_n 0, 1) := do_42 (rdb (p := 64) (i := 21) ch_cX12_safe_64 rfl)
theorem dX12_safe_86 : decode cX12_safe 86 = .ok (.iload_n 1, 1) := do_27 (rdb (p := 64) (i := 22) ch_cX12_safe_64 rfl)
theorem dX12_safe_87 : decode cX12_safe 87 = .ok (.aload_n 0, 1) := do_42 (rdb (p := 64) (i := 23) ch_cX12_safe_64 rfl)
theorem dX12_safe_88 : decode cX12_safe 88 = .ok (.iload_n 2, 1) := do_28 (rdb (p := 64) (i := 24) ch_cX12_safe_64 rfl)
theorem dX12_safe_89 : decode cX12_safe 89 = .ok (.iload_n 3, 1) := do_29 (rdb (p := 64) (i := 25) ch_cX12_safe_64 rfl)
theorem dX12_safe_90 : decode cX12_safe 90 = .ok (.iload 5, 2) := do_21 (rdb (p := 64) (i := 26) ch_cX12_safe_64 rfl) (rdb (p := 64) (i := 27) ch_cX12_safe_64 rfl)
theorem dX12_safe_92 : decode cX12_safe 92 = .ok (.iconst 1, 1) := do_4 (rdb (p := 64) (i := 28) ch_cX12_safe_64 rfl)
theorem dX12_safe_93 : decode cX12_safe 93 = .ok (.iadd, 1) := do_96 (rdb (p := 64) (i := 29) ch_cX12_safe_64 rfl)
theorem dX12_safe_94 : decode cX12_safe 94 = .ok (.invokevirtual 234, 3) := do_182 (rdb (p := 64) (i := 30) ch_cX12_safe_64 rfl) (rdb (p := 64) (i := 31) ch_cX12_safe_64 rfl) (rdb (p := 64) (i := 32) ch_cX12_safe_64 rfl) rfl
theorem ch_cX12_safe_96 : (cX12_safe.data.toList.drop 96).take 36 = [234, 182, 1, 13, 4, 160, 0, 9, 132, 5, 1, 167, 255, 214, 3, 54, 6, 21, 6, 16, 9, 162, 0, 25, 21, 6, 4, 96, 21, 6, 5, 96, 104, 5, 108, 21] := by decide +kernel
theorem dX12_safe_97 : decode cX12_safe 97 = .ok (.invokevirtual 269, 3) := do_182 (rdb (p := 96) (i := 1) ch_cX12_safe_96 rfl) (rdb (p := 96) (i := 2) ch_cX12_safe_96 rfl) (rdb (p := 96) (i := 3) ch_cX12_safe_96 rfl) rfl
theorem dX12_safe_100 : decode cX12_safe 100 = .ok (.iconst 1, 1) := do_4 (rdb (p := 96) (i := 4) ch_cX12_safe_96 rfl)
theorem dX12_safe_101 : decode cX12_safe 101 = .ok (.if_icmp .ne 9, 3) := do_160 (rdb (p := 96) (i := 5) ch_cX12_safe_96 rfl) (rdb (p := 96) (i := 6) ch_cX12_safe_96 rfl) (rdb (p := 96) (i := 7) ch_cX12_safe_96 rfl) (by decide +kernel)
theorem dX12_safe_104 : decode cX12_safe 104 = .ok (.iinc 5 1, 3) := do_132 (rdb (p := 96) (i := 8) ch_cX12_safe_96 rfl) (rdb (p := 96) (i := 9) ch_cX12_safe_96 rfl) (rdb (p := 96) (i := 10) ch_cX12_safe_96 rfl) (by decide +kernel)
theorem dX12_safe_107 : decode cX12_safe 107 = .ok (.goto (-42), 3) := do_167 (rdb (p := 96) (i := 11) ch_cX12_safe_96 rfl) (rdb (p := 96) (i := 12) ch_cX12_safe_96 rfl) (rdb (p := 96) (i := 13) ch_cX12_safe_96 rfl) (by decide +kernel)
theorem dX12_safe_110 : decode cX12_safe 110 = .ok (.iconst 0, 1) := do_3 (rdb (p := 96) (i := 14) ch_cX12_safe_96 rfl)
theorem dX12_safe_111 : decode cX12_safe 111 = .ok (.istore 6, 2) := do_54 (rdb (p := 96) (i := 15) ch_cX12_safe_96 rfl) (rdb (p := 96) (i := 16) ch_cX12_safe_96 rfl)
theorem dX12_safe_113 : decode cX12_safe 113 = .ok (.iload 6, 2) := do_21 (rdb (p := 96) (i := 17) ch_cX12_safe_96 rfl) (rdb (p := 96) (i := 18) ch_cX12_safe_96 rfl)
theorem dX12_safe_115 : decode cX12_safe 115 = .ok (.bipush 9, 2) := do_16 (rdb (p := 96) (i := 19) ch_cX12_safe_96 rfl) (rdb (p := 96) (i := 20) ch_cX12_safe_96 rfl) (by decide +kernel)
theorem dX12_safe_117 : decode cX12_safe 117 = .ok (.if_icmp .ge 25, 3) := do_162 (rdb (p := 96) (i := 21) ch_cX12_safe_96 rfl) (rdb (p := 96) (i := 22) ch_cX12_safe_96 rfl) (rdb (p := 96) (i := 23) ch_cX12_safe_96 rfl) (by decide +kernel)
theorem dX12_safe_120 : decode cX12_safe 120 = .ok (.iload 6, 2) := do_21 (rdb (p := 96) (i := 24) ch_cX12_safe_96 rfl) (rdb (p := 96) (i := 25) ch_cX12_safe_96 rfl)
theorem dX12_safe_122 : decode cX12_safe 122 = .ok (.iconst 1, 1) := do_4 (rdb (p := 96) (i := 26) ch_cX12_safe_96 rfl)
theorem dX12_safe_123 : decode cX12_safe 123 = .ok (.iadd, 1) := do_96 (rdb (p := 96) (i := 27) ch_cX12_safe_96 rfl)
theorem dX12_safe_124 : decode cX12_safe 124 = .ok (.iload 6, 2) := do_21 (rdb (p := 96) (i := 28) ch_cX12_safe_96 rfl) (rdb (p := 96) (i := 29) ch_cX12_safe_96 rfl)
theorem dX12_safe_126 : decode cX12_safe 126 = .ok (.iconst 2, 1) := do_5 (rdb (p := 96) (i := 30) ch_cX12_safe_96 rfl)
theorem dX12_safe_127 : decode cX12_safe 127 = .ok (.iadd, 1) := do_96 (rdb (p := 96) (i := 31) ch_cX12_safe_96 rfl)
theorem ch_cX12_safe_128 : (cX12_safe.data.toList.drop 128).take 36 = [104, 5, 108, 21, 5, 163, 0, 9, 132, 6, 1, 167, 255, 230, 21, 6, 172] := by decide +kernel
theorem dX12_safe_128 : decode cX12_safe 128 = .ok (.imul, 1) := do_104 (rdb (p := 128) (i := 0) ch_cX12_safe_128 rfl)
theorem dX12_safe_129 : decode cX12_safe 129 = .ok (.iconst 2, 1) := do_5 (rdb (p := 128) (i := 1) ch_cX12_safe_128 rfl)
theorem dX12_safe_130 : decode cX12_safe 130 = .ok (.idiv, 1) := do_108 (rdb (p := 128) (i := 2) ch_cX12_safe_128 rfl)
theorem dX12_safe_131 : decode cX12_safe 131 = .ok (.iload 5, 2) := do_21 (rdb (p := 128) (i := 3) ch_cX12_safe_128 rfl) (rdb (p := 128) (i := 4) ch_cX12_safe_128 rfl)
theorem dX12_safe_133 : decode cX12_safe 133 = .ok (.if_icmp .gt 9, 3) := do_163 (rdb (p := 128) (i := 5) ch_cX12_safe_128 rfl) (rdb (p := 128) (i := 6) ch_cX12_safe_128 rfl) (rdb (p := 128) (i := 7) ch_cX12_safe_128 rfl) (by decide +kernel)
theorem dX12_safe_136 : decode cX12_safe 136 = .ok (.iinc 6 1, 3) := do_132 (rdb (p := 128) (i := 8) ch_cX12_safe_128 rfl) (rdb (p := 128) (i := 9) ch_cX12_safe_128 rfl) (rdb (p := 128) (i := 10) ch_cX12_safe_128 rfl) (by decide +kernel)
theorem dX12_safe_139 : decode cX12_safe 139 = .ok (.goto (-26), 3) := do_167 (rdb (p := 128) (i := 11) ch_cX12_safe_128 rfl) (rdb (p := 128) (i := 12) ch_cX12_safe_128 rfl) (rdb (p := 128) (i := 13) ch_cX12_safe_128 rfl) (by decide +kernel)
theorem dX12_safe_142 : decode cX12_safe 142 = .ok (.iload 6, 2) := do_21 (rdb (p := 128) (i := 14) ch_cX12_safe_128 rfl) (rdb (p := 128) (i := 15) ch_cX12_safe_128 rfl)
theorem dX12_safe_144 : decode cX12_safe 144 = .ok (.ireturn, 1) := do_172 (rdb (p := 128) (i := 16) ch_cX12_safe_128 rfl)
theorem ch_cX12_tenth_0 : (cX12_tenth.data.toList.drop 0).take 36 = [42, 180, 0, 9, 3, 92, 46, 4, 96, 79, 3, 60, 27, 42, 180, 0, 9, 4, 46, 162, 0, 14, 42, 27, 182, 1, 39, 132, 1, 1, 167, 255, 238, 3, 60, 27] := by decide +kernel
theorem dX12_tenth_0 : decode cX12_tenth 0 = .ok (.aload_n 0, 1) := do_42 (rdb (p := 0) (i := 0) ch_cX12_tenth_0 rfl)
theorem dX12_tenth_1 : decode cX12_tenth 1 = .ok (.getfield 9, 3) := do_180 (rdb (p := 0) (i := 1) ch_cX12_tenth_0 rfl) (rdb (p := 0) (i := 2) ch_cX12_tenth_0 rfl) (rdb (p := 0) (i := 3) ch_cX12_tenth_0 rfl) rfl
theorem dX12_tenth_4 : decode cX12_tenth 4 = .ok (.iconst 0, 1) := do_3 (rdb (p := 0) (i := 4) ch_cX12_tenth_0 rfl)
theorem dX12_tenth_5 : decode cX12_tenth 5 = .ok (.dup2, 1) := do_92 (rdb (p := 0) (i := 5) ch_cX12_tenth_0 rfl)
theorem dX12_tenth_6 : decode cX12_tenth 6 = .ok (.iaload, 1) := do_46 (rdb (p := 0) (i := 6) ch_cX12_tenth_0 rfl)
theorem dX12_tenth_7 : decode cX12_tenth 7 = .ok (.iconst 1, 1) := do_4 (rdb (p := 0) (i := 7) ch_cX12_tenth_0 rfl)
theorem dX12_tenth_8 : decode cX12_tenth 8 = .ok (.iadd, 1) := do_96 (rdb (p := 0) (i := 8) ch_cX12_tenth_0 rfl)
theorem dX12_tenth_9 : decode cX12_tenth 9 = .ok (.iastore, 1) := do_79 (rdb (p := 0) (i := 9) ch_cX12_tenth_0 rfl)
theorem dX12_tenth_10 : decode cX12_tenth 10 = .ok (.iconst 0, 1) := do_3 (rdb (p := 0) (i := 10) ch_cX12_tenth_0 rfl)
theorem dX12_tenth_11 : decode cX12_tenth 11 = .ok (.istore_n 1, 1) := do_60 (rdb (p := 0) (i := 11) ch_cX12_tenth_0 rfl)
theorem dX12_tenth_12 : decode cX12_tenth 12 = .ok (.iload_n 1, 1) := do_27 (rdb (p := 0) (i := 12) ch_cX12_tenth_0 rfl)
theorem dX12_tenth_13 : decode cX12_tenth 13 = .ok (.aload_n 0, 1) := do_42 (rdb (p := 0) (i := 13) ch_cX12_tenth_0 rfl)
theorem dX12_tenth_14 : decode cX12_tenth 14 = .ok (.getfield 9, 3) := do_180 (rdb (p := 0) (i := 14) ch_cX12_tenth_0 rfl) (rdb (p := 0) (i := 15) ch_cX12_tenth_0 rfl) (rdb (p := 0) (i := 16) ch_cX12_tenth_0 rfl) rfl
theorem dX12_tenth_17 : decode cX12_tenth 17 = .ok (.iconst 1, 1) := do_4 (rdb (p := 0) (i := 17) ch_cX12_tenth_0 rfl)
theorem dX12_tenth_18 : decode cX12_tenth 18 = .ok (.iaload, 1) := do_46 (rdb (p := 0) (i := 18) ch_cX12_tenth_0 rfl)
theorem dX12_tenth_19 : decode cX12_tenth 19 = .ok (.if_icmp .ge 14, 3) := do_162 (rdb (p := 0) (i := 19) ch_cX12_tenth_0 rfl) (rdb (p := 0) (i := 20) ch_cX12_tenth_0 rfl) (rdb (p := 0) (i := 21) ch_cX12_tenth_0 rfl) (by decide +kernel)
theorem dX12_tenth_22 : decode cX12_tenth 22 = .ok (.aload_n 0, 1) := do_42 (rdb (p := 0) (i := 22) ch_cX12_tenth_0 rfl)
theorem dX12_tenth_23 : decode cX12_tenth 23 = .ok (.iload_n 1, 1) := do_27 (rdb (p := 0) (i := 23) ch_cX12_tenth_0 rfl)
theorem dX12_tenth_24 : decode cX12_tenth 24 = .ok (.invokevirtual 295, 3) := do_182 (rdb (p := 0) (i := 24) ch_cX12_tenth_0 rfl) (rdb (p := 0) (i := 25) ch_cX12_tenth_0 rfl) (rdb (p := 0) (i := 26) ch_cX12_tenth_0 rfl) rfl
theorem dX12_tenth_27 : decode cX12_tenth 27 = .ok (.iinc 1 1, 3) := do_132 (rdb (p := 0) (i := 27) ch_cX12_tenth_0 rfl) (rdb (p := 0) (i := 28) ch_cX12_tenth_0 rfl) (rdb (p := 0) (i := 29) ch_cX12_tenth_0 rfl) (by decide +kernel)
theorem dX12_tenth_30 : decode cX12_tenth 30 = .ok (.goto (-18), 3) := do_167 (rdb (p := 0) (i := 30) ch_cX12_tenth_0 rfl) (rdb (p := 0) (i := 31) ch_cX12_tenth_0 rfl) (rdb (p := 0) (i := 32) ch_cX12_tenth_0 rfl) (by decide +kernel)
theorem ch_cX12_tenth_32 : (cX12_tenth.data.toList.drop 32).take 36 = [238, 3, 60, 27, 42, 180, 0, 9, 5, 46, 162, 0, 14, 42, 27, 182, 1, 42, 132, 1, 1, 167, 255, 238, 177] := by decide +kernel
theorem dX12_tenth_33 : decode cX12_tenth 33 = .ok (.iconst 0, 1) := do_3 (rdb (p := 32) (i := 1) ch_cX12_tenth_32 rfl)
theorem dX12_tenth_34 : decode cX12_tenth 34 = .ok (.istore_n 1, 1) := do_60 (rdb (p := 32) (i := 2) ch_cX12_tenth_32 rfl)
theorem dX12_tenth_35 : decode cX12_tenth 35 = .ok (.iload_n 1, 1) := do_27 (rdb (p := 32) (i := 3) ch_cX12_tenth_32 rfl)
theorem dX12_tenth_36 : decode cX12_tenth 36 = .ok (.aload_n 0, 1) := do_42 (rdb (p := 32) (i := 4) ch_cX12_tenth_32 rfl)
theorem dX12_tenth_37 : decode cX12_tenth 37 = .ok (.getfield 9, 3) := do_180 (rdb (p := 32) (i := 5) ch_cX12_tenth_32 rfl) (rdb (p := 32) (i := 6) ch_cX12_tenth_32 rfl) (rdb (p := 32) (i := 7) ch_cX12_tenth_32 rfl) rfl
theorem dX12_tenth_40 : decode cX12_tenth 40 = .ok (.iconst 2, 1) := do_5 (rdb (p := 32) (i := 8) ch_cX12_tenth_32 rfl)
theorem dX12_tenth_41 : decode cX12_tenth 41 = .ok (.iaload, 1) := do_46 (rdb (p := 32) (i := 9) ch_cX12_tenth_32 rfl)
theorem dX12_tenth_42 : decode cX12_tenth 42 = .ok (.if_icmp .ge 14, 3) := do_162 (rdb (p := 32) (i := 10) ch_cX12_tenth_32 rfl) (rdb (p := 32) (i := 11) ch_cX12_tenth_32 rfl) (rdb (p := 32) (i := 12) ch_cX12_tenth_32 rfl) (by decide +kernel)
theorem dX12_tenth_45 : decode cX12_tenth 45 = .ok (.aload_n 0, 1) := do_42 (rdb (p := 32) (i := 13) ch_cX12_tenth_32 rfl)
theorem dX12_tenth_46 : decode cX12_tenth 46 = .ok (.iload_n 1, 1) := do_27 (rdb (p := 32) (i := 14) ch_cX12_tenth_32 rfl)
theorem dX12_tenth_47 : decode cX12_tenth 47 = .ok (.invokevirtual 298, 3) := do_182 (rdb (p := 32) (i := 15) ch_cX12_tenth_32 rfl) (rdb (p := 32) (i := 16) ch_cX12_tenth_32 rfl) (rdb (p := 32) (i := 17) ch_cX12_tenth_32 rfl) rfl
theorem dX12_tenth_50 : decode cX12_tenth 50 = .ok (.iinc 1 1, 3) := do_132 (rdb (p := 32) (i := 18) ch_cX12_tenth_32 rfl) (rdb (p := 32) (i := 19) ch_cX12_tenth_32 rfl) (rdb (p := 32) (i := 20) ch_cX12_tenth_32 rfl) (by decide +kernel)
theorem dX12_tenth_53 : decode cX12_tenth 53 = .ok (.goto (-18), 3) := do_167 (rdb (p := 32) (i := 21) ch_cX12_tenth_32 rfl) (rdb (p := 32) (i := 22) ch_cX12_tenth_32 rfl) (rdb (p := 32) (i := 23) ch_cX12_tenth_32 rfl) (by decide +kernel)
theorem dX12_tenth_56 : decode cX12_tenth 56 = .ok (.return_, 1) := do_177 (rdb (p := 32) (i := 24) ch_cX12_tenth_32 rfl)
theorem ch_cX12_tenths_0 : (cX12_tenths.data.toList.drop 0).take 36 = [27, 4, 16, 100, 184, 0, 85, 154, 0, 10, 42, 18, 103, 182, 0, 104, 172, 42, 180, 0, 9, 3, 46, 27, 96, 17, 39, 15, 164, 0, 10, 42, 18, 110, 182, 0] := by decide +kernel
theorem dX12_tenths_0 : decode cX12_tenths 0 = .ok (.iload_n 1, 1) := do_27 (rdb (p := 0) (i := 0) ch_cX12_tenths_0 rfl)
theorem dX12_tenths_1 : decode cX12_tenths 1 = .ok (.iconst 1, 1) := do_4 (rdb (p := 0) (i := 1) ch_cX12_tenths_0 rfl)
theorem dX12_tenths_2 : decode cX12_tenths 2 = .ok (.bipush 100, 2) := do_16 (rdb (p := 0) (i := 2) ch_cX12_tenths_0 rfl) (rdb (p := 0) (i := 3) ch_cX12_tenths_0 rfl) (by decide +kernel)
theorem dX12_tenths_4 : decode cX12_tenths 4 = .ok (.invokestatic 85, 3) := do_184 (rdb (p := 0) (i := 4) ch_cX12_tenths_0 rfl) (rdb (p := 0) (i := 5) ch_cX12_tenths_0 rfl) (rdb (p := 0) (i := 6) ch_cX12_tenths_0 rfl) rfl
theorem dX12_tenths_7 : decode cX12_tenths 7 = .ok (.ifCond .ne 10, 3) := do_154 (rdb (p := 0) (i := 7) ch_cX12_tenths_0 rfl) (rdb (p := 0) (i := 8) ch_cX12_tenths_0 rfl) (rdb (p := 0) (i := 9) ch_cX12_tenths_0 rfl) (by decide +kernel)
theorem dX12_tenths_10 : decode cX12_tenths 10 = .ok (.aload_n 0, 1) := do_42 (rdb (p := 0) (i := 10) ch_cX12_tenths_0 rfl)
theorem dX12_tenths_11 : decode cX12_tenths 11 = .ok (.ldc 103, 2) := do_18 (rdb (p := 0) (i := 11) ch_cX12_tenths_0 rfl) (rdb (p := 0) (i := 12) ch_cX12_tenths_0 rfl)
theorem dX12_tenths_13 : decode cX12_tenths 13 = .ok (.invokevirtual 104, 3) := do_182 (rdb (p := 0) (i := 13) ch_cX12_tenths_0 rfl) (rdb (p := 0) (i := 14) ch_cX12_tenths_0 rfl) (rdb (p := 0) (i := 15) ch_cX12_tenths_0 rfl) rfl
theorem dX12_tenths_16 : decode cX12_tenths 16 = .ok (.ireturn, 1) := do_172 (rdb (p := 0) (i := 16) ch_cX12_tenths_0 rfl)
theorem dX12_tenths_17 : decode cX12_tenths 17 = .ok (.aload_n 0, 1) := do_42 (rdb (p := 0) (i := 17) ch_cX12_tenths_0 rfl)
theorem dX12_tenths_18 : decode cX12_tenths 18 = .ok (.getfield 9, 3) := do_180 (rdb (p := 0) (i := 18) ch_cX12_tenths_0 rfl) (rdb (p := 0) (i := 19) ch_cX12_tenths_0 rfl) (rdb (p := 0) (i := 20) ch_cX12_tenths_0 rfl) rfl
theorem dX12_tenths_21 : decode cX12_tenths 21 = .ok (.iconst 0, 1) := do_3 (rdb (p := 0) (i := 21) ch_cX12_tenths_0 rfl)
theorem dX12_tenths_22 : decode cX12_tenths 22 = .ok (.iaload, 1) := do_46 (rdb (p := 0) (i := 22) ch_cX12_tenths_0 rfl)
theorem dX12_tenths_23 : decode cX12_tenths 23 = .ok (.iload_n 1, 1) := do_27 (rdb (p := 0) (i := 23) ch_cX12_tenths_0 rfl)
theorem dX12_tenths_24 : decode cX12_tenths 24 = .ok (.iadd, 1) := do_96 (rdb (p := 0) (i := 24) ch_cX12_tenths_0 rfl)
theorem dX12_tenths_25 : decode cX12_tenths 25 = .ok (.sipush 9999, 3) := do_17 (rdb (p := 0) (i := 25) ch_cX12_tenths_0 rfl) (rdb (p := 0) (i := 26) ch_cX12_tenths_0 rfl) (rdb (p := 0) (i := 27) ch_cX12_tenths_0 rfl) (by decide +kernel)
theorem dX12_tenths_28 : decode cX12_tenths 28 = .ok (.if_icmp .le 10, 3) := do_164 (rdb (p := 0) (i := 28) ch_cX12_tenths_0 rfl) (rdb (p := 0) (i := 29) ch_cX12_tenths_0 rfl) (rdb (p := 0) (i := 30) ch_cX12_tenths_0 rfl) (by decide +kernel)
theorem dX12_tenths_31 : decode cX12_tenths 31 = .ok (.aload_n 0, 1) := do_42 (rdb (p := 0) (i := 31) ch_cX12_tenths_0 rfl)
theorem ch_cX12_tenths_32 : (cX12_tenths.data.toList.drop 32).take 36 = [18, 110, 182, 0, 104, 172, 3, 61, 28, 27, 162, 0, 13, 42, 182, 1, 45, 132, 2, 1, 167, 255, 244, 42, 180, 0, 9, 3, 46, 172] := by decide +kernel
theorem dX12_tenths_32 : decode cX12_tenths 32 = .ok (.ldc 110, 2) := do_18 (rdb (p := 32) (i := 0) ch_cX12_tenths_32 rfl) (rdb (p := 32) (i := 1) ch_cX12_tenths_32 rfl)
theorem dX12_tenths_34 : decode cX12_tenths 34 = .ok (.invokevirtual 104, 3) := do_182 (rdb (p := 32) (i := 2) ch_cX12_tenths_32 rfl) (rdb (p := 32) (i := 3) ch_cX12_tenths_32 rfl) (rdb (p := 32) (i := 4) ch_cX12_tenths_32 rfl) rfl
theorem dX12_tenths_37 : decode cX12_tenths 37 = .ok (.ireturn, 1) := do_172 (rdb (p := 32) (i := 5) ch_cX12_tenths_32 rfl)
theorem dX12_tenths_38 : decode cX12_tenths 38 = .ok (.iconst 0, 1) := do_3 (rdb (p := 32) (i := 6) ch_cX12_tenths_32 rfl)
theorem dX12_tenths_39 : decode cX12_tenths 39 = .ok (.istore_n 2, 1) := do_61 (rdb (p := 32) (i := 7) ch_cX12_tenths_32 rfl)
theorem dX12_tenths_40 : decode cX12_tenths 40 = .ok (.iload_n 2, 1) := do_28 (rdb (p := 32) (i := 8) ch_cX12_tenths_32 rfl)
theorem dX12_tenths_41 : decode cX12_tenths 41 = .ok (.iload_n 1, 1) := do_27 (rdb (p := 32) (i := 9) ch_cX12_tenths_32 rfl)
theorem dX12_tenths_42 : decode cX12_tenths 42 = .ok (.if_icmp .ge 13, 3) := do_162 (rdb (p := 32) (i := 10) ch_cX12_tenths_32 rfl) (rdb (p := 32) (i := 11) ch_cX12_tenths_32 rfl) (rdb (p := 32) (i := 12) ch_cX12_tenths_32 rfl) (by decide +kernel)
theorem dX12_tenths_45 : decode cX12_tenths 45 = .ok (.aload_n 0, 1) := do_42 (rdb (p := 32) (i := 13) ch_cX12_tenths_32 rfl)
theorem dX12_tenths_46 : decode cX12_tenths 46 = .ok (.invokevirtual 301, 3) := do_182 (rdb (p := 32) (i := 14) ch_cX12_tenths_32 rfl) (rdb (p := 32) (i := 15) ch_cX12_tenths_32 rfl) (rdb (p := 32) (i := 16) ch_cX12_tenths_32 rfl) rfl
theorem dX12_tenths_49 : decode cX12_tenths 49 = .ok (.iinc 2 1, 3) := do_132 (rdb (p := 32) (i := 17) ch_cX12_tenths_32 rfl) (rdb (p := 32) (i := 18) ch_cX12_tenths_32 rfl) (rdb (p := 32) (i := 19) ch_cX12_tenths_32 rfl) (by decide +kernel)
theorem dX12_tenths_52 : decode cX12_tenths 52 = .ok (.goto (-12), 3) := do_167 (rdb (p := 32) (i := 20) ch_cX12_tenths_32 rfl) (rdb (p := 32) (i := 21) ch_cX12_tenths_32 rfl) (rdb (p := 32) (i := 22) ch_cX12_tenths_32 rfl) (by decide +kernel)
theorem dX12_tenths_55 : decode cX12_tenths 55 = .ok (.aload_n 0, 1) := do_42 (rdb (p := 32) (i := 23) ch_cX12_tenths_32 rfl)
theorem dX12_tenths_56 : decode cX12_tenths 56 = .ok (.getfield 9, 3) := do_180 (rdb (p := 32) (i := 24) ch_cX12_tenths_32 rfl) (rdb (p := 32) (i := 25) ch_cX12_tenths_32 rfl) (rdb (p := 32) (i := 26) ch_cX12_tenths_32 rfl) rfl
theorem dX12_tenths_59 : decode cX12_tenths 59 = .ok (.iconst 0, 1) := do_3 (rdb (p := 32) (i := 27) ch_cX12_tenths_32 rfl)
theorem dX12_tenths_60 : decode cX12_tenths 60 = .ok (.iaload, 1) := do_46 (rdb (p := 32) (i := 28) ch_cX12_tenths_32 rfl)
theorem dX12_tenths_61 : decode cX12_tenths 61 = .ok (.ireturn, 1) := do_172 (rdb (p := 32) (i := 29) ch_cX12_tenths_32 rfl)
theorem ch_cX12_thingGoes_0 : (cX12_thingGoes.data.toList.drop 0).take 36 = [42, 180, 0, 9, 42, 27, 182, 0, 89, 6, 96, 46, 61, 42, 180, 0, 9, 42, 27, 182, 0, 89, 4, 96, 46, 62, 42, 180, 0, 9, 42, 27, 182, 0, 89, 3] := by decide +kernel
theorem dX12_thingGoes_0 : decode cX12_thingGoes 0 = .ok (.aload_n 0, 1) := do_42 (rdb (p := 0) (i := 0) ch_cX12_thingGoes_0 rfl)
theorem dX12_thingGoes_1 : decode cX12_thingGoes 1 = .ok (.getfield 9, 3) := do_180 (rdb (p := 0) (i := 1) ch_cX12_thingGoes_0 rfl) (rdb (p := 0) (i := 2) ch_cX12_thingGoes_0 rfl) (rdb (p := 0) (i := 3) ch_cX12_thingGoes_0 rfl) rfl
theorem dX12_thingGoes_4 : decode cX12_thingGoes 4 = .ok (.aload_n 0, 1) := do_42 (rdb (p := 0) (i := 4) ch_cX12_thingGoes_0 rfl)
theorem dX12_thingGoes_5 : decode cX12_thingGoes 5 = .ok (.iload_n 1, 1) := do_27 (rdb (p := 0) (i := 5) ch_cX12_thingGoes_0 rfl)
theorem dX12_thingGoes_6 : decode cX12_thingGoes 6 = .ok (.invokevirtual 89, 3) := do_182 (rdb (p := 0) (i := 6) ch_cX12_thingGoes_0 rfl) (rdb (p := 0) (i := 7) ch_cX12_thingGoes_0 rfl) (rdb (p := 0) (i := 8) ch_cX12_thingGoes_0 rfl) rfl
theorem dX12_thingGoes_9 : decode cX12_thingGoes 9 = .ok (.iconst 3, 1) := do_6 (rdb (p := 0) (i := 9) ch_cX12_thingGoes_0 rfl)
theorem dX12_thingGoes_10 : decode cX12_thingGoes 10 = .ok (.iadd, 1) := do_96 (rdb (p := 0) (i := 10) ch_cX12_thingGoes_0 rfl)
theorem dX12_thingGoes_11 : decode cX12_thingGoes 11 = .ok (.iaload, 1) := do_46 (rdb (p := 0) (i := 11) ch_cX12_thingGoes_0 rfl)
theorem dX12_thingGoes_12 : decode cX12_thingGoes 12 = .ok (.istore_n 2, 1) := do_61 (rdb (p := 0) (i := 12) ch_cX12_thingGoes_0 rfl)
theorem dX12_thingGoes_13 : decode cX12_thingGoes 13 = .ok (.aload_n 0, 1) := do_42 (rdb (p := 0) (i := 13) ch_cX12_thingGoes_0 rfl)
theorem dX12_thingGoes_14 : decode cX12_thingGoes 14 = .ok (.getfield 9, 3) := do_180 (rdb (p := 0) (i := 14) ch_cX12_thingGoes_0 rfl) (rdb (p := 0) (i := 15) ch_cX12_thingGoes_0 rfl) (rdb (p := 0) (i := 16) ch_cX12_thingGoes_0 rfl) rfl
theorem dX12_thingGoes_17 : decode cX12_thingGoes 17 = .ok (.aload_n 0, 1) := do_42 (rdb (p := 0) (i := 17) ch_cX12_thingGoes_0 rfl)
theorem dX12_thingGoes_18 : decode cX12_thingGoes 18 = .ok (.iload_n 1, 1) := do_27 (rdb (p := 0) (i := 18) ch_cX12_thingGoes_0 rfl)
theorem dX12_thingGoes_19 : decode cX12_thingGoes 19 = .ok (.invokevirtual 89, 3) := do_182 (rdb (p := 0) (i := 19) ch_cX12_thingGoes_0 rfl) (rdb (p := 0) (i := 20) ch_cX12_thingGoes_0 rfl) (rdb (p := 0) (i := 21) ch_cX12_thingGoes_0 rfl) rfl
theorem dX12_thingGoes_22 : decode cX12_thingGoes 22 = .ok (.iconst 1, 1) := do_4 (rdb (p := 0) (i := 22) ch_cX12_thingGoes_0 rfl)
theorem dX12_thingGoes_23 : decode cX12_thingGoes 23 = .ok (.iadd, 1) := do_96 (rdb (p := 0) (i := 23) ch_cX12_thingGoes_0 rfl)
theorem dX12_thingGoes_24 : decode cX12_thingGoes 24 = .ok (.iaload, 1) := do_46 (rdb (p := 0) (i := 24) ch_cX12_thingGoes_0 rfl)
theorem dX12_thingGoes_25 : decode cX12_thingGoes 25 = .ok (.istore_n 3, 1) := do_62 (rdb (p := 0) (i := 25) ch_cX12_thingGoes_0 rfl)
theorem dX12_thingGoes_26 : decode cX12_thingGoes 26 = .ok (.aload_n 0, 1) := do_42 (rdb (p := 0) (i := 26) ch_cX12_thingGoes_0 rfl)
theorem dX12_thingGoes_27 : decode cX12_thingGoes 27 = .ok (.getfield 9, 3) := do_180 (rdb (p := 0) (i := 27) ch_cX12_thingGoes_0 rfl) (rdb (p := 0) (i := 28) ch_cX12_thingGoes_0 rfl) (rdb (p := 0) (i := 29) ch_cX12_thingGoes_0 rfl) rfl
theorem dX12_thingGoes_30 : decode cX12_thingGoes 30 = .ok (.aload_n 0, 1) := do_42 (rdb (p := 0) (i := 30) ch_cX12_thingGoes_0 rfl)
theorem dX12_thingGoes_31 : decode cX12_thingGoes 31 = .ok (.iload_n 1, 1) := do_27 (rdb (p := 0) (i := 31) ch_cX12_thingGoes_0 rfl)
theorem ch_cX12_thingGoes_32 : (cX12_thingGoes.data.toList.drop 32).take 36 = [182, 0, 89, 3, 96, 46, 6, 161, 0, 22, 28, 153, 0, 18, 29, 155, 0, 14, 42, 180, 0, 9, 3, 46, 28, 112, 153, 0, 4, 177, 42, 29, 42, 180, 0, 9] := by decide +kernel
theorem dX12_thingGoes_32 : decode cX12_thingGoes 32 = .ok (.invokevirtual 89, 3) := do_182 (rdb (p := 32) (i := 0) ch_cX12_thingGoes_32 rfl) (rdb (p := 32) (i := 1) ch_cX12_thingGoes_32 rfl) (rdb (p := 32) (i := 2) ch_cX12_thingGoes_32 rfl) rfl
theorem dX12_thingGoes_35 : decode cX12_thingGoes 35 = .ok (.iconst 0, 1) := do_3 (rdb (p := 32) (i := 3) ch_cX12_thingGoes_32 rfl)
theorem dX12_thingGoes_36 : decode cX12_thingGoes 36 = .ok (.iadd, 1) := do_96 (rdb (p := 32) (i := 4) ch_cX12_thingGoes_32 rfl)
theorem dX12_thingGoes_37 : decode cX12_thingGoes 37 = .ok (.iaload, 1) := do_46 (rdb (p := 32) (i := 5) ch_cX12_thingGoes_32 rfl)
theorem dX12_thingGoes_38 : decode cX12_thingGoes 38 = .ok (.iconst 3, 1) := do_6 (rdb (p := 32) (i := 6) ch_cX12_thingGoes_32 rfl)
theorem dX12_thingGoes_39 : decode cX12_thingGoes 39 = .ok (.if_icmp .lt 22, 3) := do_161 (rdb (p := 32) (i := 7) ch_cX12_thingGoes_32 rfl) (rdb (p := 32) (i := 8) ch_cX12_thingGoes_32 rfl) (rdb (p := 32) (i := 9) ch_cX12_thingGoes_32 rfl) (by decide +kernel)
theorem dX12_thingGoes_42 : decode cX12_thingGoes 42 = .ok (.iload_n 2, 1) := do_28 (rdb (p := 32) (i := 10) ch_cX12_thingGoes_32 rfl)
theorem dX12_thingGoes_43 : decode cX12_thingGoes 43 = .ok (.ifCond .eq 18, 3) := do_153 (rdb (p := 32) (i := 11) ch_cX12_thingGoes_32 rfl) (rdb (p := 32) (i := 12) ch_cX12_thingGoes_32 rfl) (rdb (p := 32) (i := 13) ch_cX12_thingGoes_32 rfl) (by decide +kernel)
theorem dX12_thingGoes_46 : decode cX12_thingGoes 46 = .ok (.iload_n 3, 1) := do_29 (rdb (p := 32) (i := 14) ch_cX12_thingGoes_32 rfl)
theorem dX12_thingGoes_47 : decode cX12_thingGoes 47 = .ok (.ifCond .lt 14, 3) := do_155 (rdb (p := 32) (i := 15) ch_cX12_thingGoes_32 rfl) (rdb (p := 32) (i := 16) ch_cX12_thingGoes_32 rfl) (rdb (p := 32) (i := 17) ch_cX12_thingGoes_32 rfl) (by decide +kernel)
theorem dX12_thingGoes_50 : decode cX12_thingGoes 50 = .ok (.aload_n 0, 1) := do_42 (rdb (p := 32) (i := 18) ch_cX12_thingGoes_32 rfl)
theorem dX12_thingGoes_51 : decode cX12_thingGoes 51 = .ok (.getfield 9, 3) := do_180 (rdb (p := 32) (i := 19) ch_cX12_thingGoes_32 rfl) (rdb (p := 32) (i := 20) ch_cX12_thingGoes_32 rfl) (rdb (p := 32) (i := 21) ch_cX12_thingGoes_32 rfl) rfl
theorem dX12_thingGoes_54 : decode cX12_thingGoes 54 = .ok (.iconst 0, 1) := do_3 (rdb (p := 32) (i := 22) ch_cX12_thingGoes_32 rfl)
theorem dX12_thingGoes_55 : decode cX12_thingGoes 55 = .ok (.iaload, 1) := do_46 (rdb (p := 32) (i := 23) ch_cX12_thingGoes_32 rfl)
theorem dX12_thingGoes_56 : decode cX12_thingGoes 56 = .ok (.iload_n 2, 1) := do_28 (rdb (p := 32) (i := 24) ch_cX12_thingGoes_32 rfl)
theorem dX12_thingGoes_57 : decode cX12_thingGoes 57 = .ok (.irem, 1) := do_112 (rdb (p := 32) (i := 25) ch_cX12_thingGoes_32 rfl)
theorem dX12_thingGoes_58 : decode cX12_thingGoes 58 = .ok (.ifCond .eq 4, 3) := do_153 (rdb (p := 32) (i := 26) ch_cX12_thingGoes_32 rfl) (rdb (p := 32) (i := 27) ch_cX12_thingGoes_32 rfl) (rdb (p := 32) (i := 28) ch_cX12_thingGoes_32 rfl) (by decide +kernel)
theorem dX12_thingGoes_61 : decode cX12_thingGoes 61 = .ok (.return_, 1) := do_177 (rdb (p := 32) (i := 29) ch_cX12_thingGoes_32 rfl)
theorem dX12_thingGoes_62 : decode cX12_thingGoes 62 = .ok (.aload_n 0, 1) := do_42 (rdb (p := 32) (i := 30) ch_cX12_thingGoes_32 rfl)
theorem dX12_thingGoes_63 : decode cX12_thingGoes 63 = .ok (.iload_n 3, 1) := do_29 (rdb (p := 32) (i := 31) ch_cX12_thingGoes_32 rfl)
theorem ch_cX12_thingGoes_64 : (cX12_thingGoes.data.toList.drop 64).take 36 = [42, 180, 0, 9, 42, 27, 182, 0, 89, 5, 96, 46, 4, 182, 0, 234, 54, 4, 21, 4, 155, 0, 29, 42, 21, 4, 182, 0, 107, 153, 0, 20, 42, 180, 0, 9] := by decide +kernel
theorem dX12_thingGoes_64 : decode cX12_thingGoes 64 = .ok (.aload_n 0, 1) := do_42 (rdb (p := 64) (i := 0) ch_cX12_thingGoes_64 rfl)
theorem dX12_thingGoes_65 : decode cX12_thingGoes 65 = .ok (.getfield 9, 3) := do_180 (rdb (p := 64) (i := 1) ch_cX12_thingGoes_64 rfl) (rdb (p := 64) (i := 2) ch_cX12_thingGoes_64 rfl) (rdb (p := 64) (i := 3) ch_cX12_thingGoes_64 rfl) rfl
theorem dX12_thingGoes_68 : decode cX12_thingGoes 68 = .ok (.aload_n 0, 1) := do_42 (rdb (p := 64) (i := 4) ch_cX12_thingGoes_64 rfl)
theorem dX12_thingGoes_69 : decode cX12_thingGoes 69 = .ok (.iload_n 1, 1) := do_27 (rdb (p := 64) (i := 5) ch_cX12_thingGoes_64 rfl)
theorem dX12_thingGoes_70 : decode cX12_thingGoes 70 = .ok (.invokevirtual 89, 3) := do_182 (rdb (p := 64) (i := 6) ch_cX12_thingGoes_64 rfl) (rdb (p := 64) (i := 7) ch_cX12_thingGoes_64 rfl) (rdb (p := 64) (i := 8) ch_cX12_thingGoes_64 rfl) rfl
theorem dX12_thingGoes_73 : decode cX12_thingGoes 73 = .ok (.iconst 2, 1) := do_5 (rdb (p := 64) (i := 9) ch_cX12_thingGoes_64 rfl)
theorem dX12_thingGoes_74 : decode cX12_thingGoes 74 = .ok (.iadd, 1) := do_96 (rdb (p := 64) (i := 10) ch_cX12_thingGoes_64 rfl)
theorem dX12_thingGoes_75 : decode cX12_thingGoes 75 = .ok (.iaload, 1) := do_46 (rdb (p := 64) (i := 11) ch_cX12_thingGoes_64 rfl)
theorem dX12_thingGoes_76 : decode cX12_thingGoes 76 = .ok (.iconst 1, 1) := do_4 (rdb (p := 64) (i := 12) ch_cX12_thingGoes_64 rfl)
theorem dX12_thingGoes_77 : decode cX12_thingGoes 77 = .ok (.invokevirtual 234, 3) := do_182 (rdb (p := 64) (i := 13) ch_cX12_thingGoes_64 rfl) (rdb (p := 64) (i := 14) ch_cX12_thingGoes_64 rfl) (rdb (p := 64) (i := 15) ch_cX12_thingGoes_64 rfl) rfl
theorem dX12_thingGoes_80 : decode cX12_thingGoes 80 = .ok (.istore 4, 2) := do_54 (rdb (p := 64) (i := 16) ch_cX12_thingGoes_64 rfl) (rdb (p := 64) (i := 17) ch_cX12_thingGoes_64 rfl)
theorem dX12_thingGoes_82 : decode cX12_thingGoes 82 = .ok (.iload 4, 2) := do_21 (rdb (p := 64) (i := 18) ch_cX12_thingGoes_64 rfl) (rdb (p := 64) (i := 19) ch_cX12_thingGoes_64 rfl)
theorem dX12_thingGoes_84 : decode cX12_thingGoes 84 = .ok (.ifCond .lt 29, 3) := do_155 (rdb (p := 64) (i := 20) ch_cX12_thingGoes_64 rfl) (rdb (p := 64) (i := 21) ch_cX12_thingGoes_64 rfl) (rdb (p := 64) (i := 22) ch_cX12_thingGoes_64 rfl) (by decide +kernel)
theorem dX12_thingGoes_87 : decode cX12_thingGoes 87 = .ok (.aload_n 0, 1) := do_42 (rdb (p := 64) (i := 23) ch_cX12_thingGoes_64 rfl)
theorem dX12_thingGoes_88 : decode cX12_thingGoes 88 = .ok (.iload 4, 2) := do_21 (rdb (p := 64) (i := 24) ch_cX12_thingGoes_64 rfl) (rdb (p := 64) (i := 25) ch_cX12_thingGoes_64 rfl)
theorem dX12_thingGoes_90 : decode cX12_thingGoes 90 = .ok (.invokevirtual 107, 3) := do_182 (rdb (p := 64) (i := 26) ch_cX12_thingGoes_64 rfl) (rdb (p := 64) (i := 27) ch_cX12_thingGoes_64 rfl) (rdb (p := 64) (i := 28) ch_cX12_thingGoes_64 rfl) rfl
theorem dX12_thingGoes_93 : decode cX12_thingGoes 93 = .ok (.ifCond .eq 20, 3) := do_153 (rdb (p := 64) (i := 29) ch_cX12_thingGoes_64 rfl) (rdb (p := 64) (i := 30) ch_cX12_thingGoes_64 rfl) (rdb (p := 64) (i := 31) ch_cX12_thingGoes_64 rfl) (by decide +kernel)
theorem ch_cX12_thingGoes_96 : (cX12_thingGoes.data.toList.drop 96).take 36 = [42, 180, 0, 9, 42, 27, 182, 0, 89, 4, 96, 21, 4, 79, 167, 0, 32, 42, 180, 0, 9, 42, 27, 182, 0, 89, 5, 96, 42, 180, 0, 9, 42, 27, 182, 0] := by decide +kernel
theorem dX12_thingGoes_96 : decode cX12_thingGoes 96 = .ok (.aload_n 0, 1) := do_42 (rdb (p := 96) (i := 0) ch_cX12_thingGoes_96 rfl)
theorem dX12_thingGoes_97 : decode cX12_thingGoes 97 = .ok (.getfield 9, 3) := do_180 (rdb (p := 96) (i := 1) ch_cX12_thingGoes_96 rfl) (rdb (p := 96) (i := 2) ch_cX12_thingGoes_96 rfl) (rdb (p := 96) (i := 3) ch_cX12_thingGoes_96 rfl) rfl
theorem dX12_thingGoes_100 : decode cX12_thingGoes 100 = .ok (.aload_n 0, 1) := do_42 (rdb (p := 96) (i := 4) ch_cX12_thingGoes_96 rfl)
theorem dX12_thingGoes_101 : decode cX12_thingGoes 101 = .ok (.iload_n 1, 1) := do_27 (rdb (p := 96) (i := 5) ch_cX12_thingGoes_96 rfl)
theorem dX12_thingGoes_102 : decode cX12_thingGoes 102 = .ok (.invokevirtual 89, 3) := do_182 (rdb (p := 96) (i := 6) ch_cX12_thingGoes_96 rfl) (rdb (p := 96) (i := 7) ch_cX12_thingGoes_96 rfl) (rdb (p := 96) (i := 8) ch_cX12_thingGoes_96 rfl) rfl
theorem dX12_thingGoes_105 : decode cX12_thingGoes 105 = .ok (.iconst 1, 1) := do_4 (rdb (p := 96) (i := 9) ch_cX12_thingGoes_96 rfl)
theorem dX12_thingGoes_106 : decode cX12_thingGoes 106 = .ok (.iadd, 1) := do_96 (rdb (p := 96) (i := 10) ch_cX12_thingGoes_96 rfl)
theorem dX12_thingGoes_107 : decode cX12_thingGoes 107 = .ok (.iload 4, 2) := do_21 (rdb (p := 96) (i := 11) ch_cX12_thingGoes_96 rfl) (rdb (p := 96) (i := 12) ch_cX12_thingGoes_96 rfl)
theorem dX12_thingGoes_109 : decode cX12_thingGoes 109 = .ok (.iastore, 1) := do_79 (rdb (p := 96) (i := 13) ch_cX12_thingGoes_96 rfl)
theorem dX12_thingGoes_110 : decode cX12_thingGoes 110 = .ok (.goto 32, 3) := do_167 (rdb (p := 96) (i := 14) ch_cX12_thingGoes_96 rfl) (rdb (p := 96) (i := 15) ch_cX12_thingGoes_96 rfl) (rdb (p := 96) (i := 16) ch_cX12_thingGoes_96 rfl) (by decide +kernel)
theorem dX12_thingGoes_113 : decode cX12_thingGoes 113 = .ok (.aload_n 0, 1) := do_42 (rdb (p := 96) (i := 17) ch_cX12_thingGoes_96 rfl)
theorem dX12_thingGoes_114 : decode cX12_thingGoes 114 = .ok (.getfield 9, 3) := do_180 (rdb (p := 96) (i := 18) ch_cX12_thingGoes_96 rfl) (rdb (p := 96) (i := 19) ch_cX12_thingGoes_96 rfl) (rdb (p := 96) (i := 20) ch_cX12_thingGoes_96 rfl) rfl
theorem dX12_thingGoes_117 : decode cX12_thingGoes 117 = .ok (.aload_n 0, 1) := do_42 (rdb (p := 96) (i := 21) ch_cX12_thingGoes_96 rfl)
theorem dX12_thingGoes_118 : decode cX12_thingGoes 118 = .ok (.iload_n 1, 1) := do_27 (rdb (p := 96) (i := 22) ch_cX12_thingGoes_96 rfl)
theorem dX12_thingGoes_119 : decode cX12_thingGoes 119 = .ok (.invokevirtual 89, 3) := do_182 (rdb (p := 96) (i := 23) ch_cX12_thingGoes_96 rfl) (rdb (p := 96) (i := 24) ch_cX12_thingGoes_96 rfl) (rdb (p := 96) (i := 25) ch_cX12_thingGoes_96 rfl) rfl
theorem dX12_thingGoes_122 : decode cX12_thingGoes 122 = .ok (.iconst 2, 1) := do_5 (rdb (p := 96) (i := 26) ch_cX12_thingGoes_96 rfl)
theorem dX12_thingGoes_123 : decode cX12_thingGoes 123 = .ok (.iadd, 1) := do_96 (rdb (p := 96) (i := 27) ch_cX12_thingGoes_96 rfl)
theorem dX12_thingGoes_124 : decode cX12_thingGoes 124 = .ok (.aload_n 0, 1) := do_42 (rdb (p := 96) (i := 28) ch_cX12_thingGoes_96 rfl)
theorem dX12_thingGoes_125 : decode cX12_thingGoes 125 = .ok (.getfield 9, 3) := do_180 (rdb (p := 96) (i := 29) ch_cX12_thingGoes_96 rfl) (rdb (p := 96) (i := 30) ch_cX12_thingGoes_96 rfl) (rdb (p := 96) (i := 31) ch_cX12_thingGoes_96 rfl) rfl
theorem ch_cX12_thingGoes_128 : (cX12_thingGoes.data.toList.drop 128).take 36 = [42, 27, 182, 0, 89, 5, 96, 46, 7, 96, 16, 7, 126, 79, 177] := by decide +kernel
theorem dX12_thingGoes_128 : decode cX12_thingGoes 128 = .ok (.aload_n 0, 1) := do_42 (rdb (p := 128) (i := 0) ch_cX12_thingGoes_128 rfl)
theorem dX12_thingGoes_129 : decode cX12_thingGoes 129 = .ok (.iload_n 1, 1) := do_27 (rdb (p := 128) (i := 1) ch_cX12_thingGoes_128 rfl)
theorem dX12_thingGoes_130 : decode cX12_thingGoes 130 = .ok (.invokevirtual 89, 3) := do_182 (rdb (p := 128) (i := 2) ch_cX12_thingGoes_128 rfl) (rdb (p := 128) (i := 3) ch_cX12_thingGoes_128 rfl) (rdb (p := 128) (i := 4) ch_cX12_thingGoes_128 rfl) rfl
theorem dX12_thingGoes_133 : decode cX12_thingGoes 133 = .ok (.iconst 2, 1) := do_5 (rdb (p := 128) (i := 5) ch_cX12_thingGoes_128 rfl)
theorem dX12_thingGoes_134 : decode cX12_thingGoes 134 = .ok (.iadd, 1) := do_96 (rdb (p := 128) (i := 6) ch_cX12_thingGoes_128 rfl)
theorem dX12_thingGoes_135 : decode cX12_thingGoes 135 = .ok (.iaload, 1) := do_46 (rdb (p := 128) (i := 7) ch_cX12_thingGoes_128 rfl)
theorem dX12_thingGoes_136 : decode cX12_thingGoes 136 = .ok (.iconst 4, 1) := do_7 (rdb (p := 128) (i := 8) ch_cX12_thingGoes_128 rfl)
theorem dX12_thingGoes_137 : decode cX12_thingGoes 137 = .ok (.iadd, 1) := do_96 (rdb (p := 128) (i := 9) ch_cX12_thingGoes_128 rfl)
theorem dX12_thingGoes_138 : decode cX12_thingGoes 138 = .ok (.bipush 7, 2) := do_16 (rdb (p := 128) (i := 10) ch_cX12_thingGoes_128 rfl) (rdb (p := 128) (i := 11) ch_cX12_thingGoes_128 rfl) (by decide +kernel)
theorem dX12_thingGoes_140 : decode cX12_thingGoes 140 = .ok (.iand, 1) := do_126 (rdb (p := 128) (i := 12) ch_cX12_thingGoes_128 rfl)
theorem dX12_thingGoes_141 : decode cX12_thingGoes 141 = .ok (.iastore, 1) := do_79 (rdb (p := 128) (i := 13) ch_cX12_thingGoes_128 rfl)
theorem dX12_thingGoes_142 : decode cX12_thingGoes 142 = .ok (.return_, 1) := do_177 (rdb (p := 128) (i := 14) ch_cX12_thingGoes_128 rfl)
theorem ch_cX12_walkerGoes_0 : (cX12_walkerGoes.data.toList.drop 0).take 36 = [42, 27, 182, 0, 93, 61, 42, 180, 0, 9, 28, 8, 96, 46, 62, 42, 180, 0, 9, 28, 16, 6, 96, 46, 154, 0, 4, 177, 29, 158, 0, 32, 42, 180, 0, 9] := by decide +kernel
theorem dX12_walkerGoes_0 : decode cX12_walkerGoes 0 = .ok (.aload_n 0, 1) := do_42 (rdb (p := 0) (i := 0) ch_cX12_walkerGoes_0 rfl)
theorem dX12_walkerGoes_1 : decode cX12_walkerGoes 1 = .ok (.iload_n 1, 1) := do_27 (rdb (p := 0) (i := 1) ch_cX12_walkerGoes_0 rfl)
theorem dX12_walkerGoes_2 : decode cX12_walkerGoes 2 = .ok (.invokevirtual 93, 3) := do_182 (rdb (p := 0) (i := 2) ch_cX12_walkerGoes_0 rfl) (rdb (p := 0) (i := 3) ch_cX12_walkerGoes_0 rfl) (rdb (p := 0) (i := 4) ch_cX12_walkerGoes_0 rfl) rfl
theorem dX12_walkerGoes_5 : decode cX12_walkerGoes 5 = .ok (.istore_n 2, 1) := do_61 (rdb (p := 0) (i := 5) ch_cX12_walkerGoes_0 rfl)
theorem dX12_walkerGoes_6 : decode cX12_walkerGoes 6 = .ok (.aload_n 0, 1) := do_42 (rdb (p := 0) (i := 6) ch_cX12_walkerGoes_0 rfl)
theorem dX12_walkerGoes_7 : decode cX12_walkerGoes 7 = .ok (.getfield 9, 3) := do_180 (rdb (p := 0) (i := 7) ch_cX12_walkerGoes_0 rfl) (rdb (p := 0) (i := 8) ch_cX12_walkerGoes_0 rfl) (rdb (p := 0) (i := 9) ch_cX12_walkerGoes_0 rfl) rfl
theorem dX12_walkerGoes_10 : decode cX12_walkerGoes 10 = .ok (.iload_n 2, 1) := do_28 (rdb (p := 0) (i := 10) ch_cX12_walkerGoes_0 rfl)
theorem dX12_walkerGoes_11 : decode cX12_walkerGoes 11 = .ok (.iconst 5, 1) := do_8 (rdb (p := 0) (i := 11) ch_cX12_walkerGoes_0 rfl)
theorem dX12_walkerGoes_12 : decode cX12_walkerGoes 12 = .ok (.iadd, 1) := do_96 (rdb (p := 0) (i := 12) ch_cX12_walkerGoes_0 rfl)
theorem dX12_walkerGoes_13 : decode cX12_walkerGoes 13 = .ok (.iaload, 1) := do_46 (rdb (p := 0) (i := 13) ch_cX12_walkerGoes_0 rfl)
theorem dX12_walkerGoes_14 : decode cX12_walkerGoes 14 = .ok (.istore_n 3, 1) := do_62 (rdb (p := 0) (i := 14) ch_cX12_walkerGoes_0 rfl)
theorem dX12_walkerGoes_15 : decode cX12_walkerGoes 15 = .ok (.aload_n 0, 1) := do_42 (rdb (p := 0) (i := 15) ch_cX12_walkerGoes_0 rfl)
theorem dX12_walkerGoes_16 : decode cX12_walkerGoes 16 = .ok (.getfield 9, 3) := do_180 (rdb (p := 0) (i := 16) ch_cX12_walkerGoes_0 rfl) (rdb (p := 0) (i := 17) ch_cX12_walkerGoes_0 rfl) (rdb (p := 0) (i := 18) ch_cX12_walkerGoes_0 rfl) rfl
theorem dX12_walkerGoes_19 : decode cX12_walkerGoes 19 = .ok (.iload_n 2, 1) := do_28 (rdb (p := 0) (i := 19) ch_cX12_walkerGoes_0 rfl)
theorem dX12_walkerGoes_20 : decode cX12_walkerGoes 20 = .ok (.bipush 6, 2) := do_16 (rdb (p := 0) (i := 20) ch_cX12_walkerGoes_0 rfl) (rdb (p := 0) (i := 21) ch_cX12_walkerGoes_0 rfl) (by decide +kernel)
theorem dX12_walkerGoes_22 : decode cX12_walkerGoes 22 = .ok (.iadd, 1) := do_96 (rdb (p := 0) (i := 22) ch_cX12_walkerGoes_0 rfl)
theorem dX12_walkerGoes_23 : decode cX12_walkerGoes 23 = .ok (.iaload, 1) := do_46 (rdb (p := 0) (i := 23) ch_cX12_walkerGoes_0 rfl)
theorem dX12_walkerGoes_24 : decode cX12_walkerGoes 24 = .ok (.ifCond .ne 4, 3) := do_154 (rdb (p := 0) (i := 24) ch_cX12_walkerGoes_0 rfl) (rdb (p := 0) (i := 25) ch_cX12_walkerGoes_0 rfl) (rdb (p := 0) (i := 26) ch_cX12_walkerGoes_0 rfl) (by decide +kernel)
theorem dX12_walkerGoes_27 : decode cX12_walkerGoes 27 = .ok (.return_, 1) := do_177 (rdb (p := 0) (i := 27) ch_cX12_walkerGoes_0 rfl)
theorem dX12_walkerGoes_28 : decode cX12_walkerGoes 28 = .ok (.iload_n 3, 1) := do_29 (rdb (p := 0) (i := 28) ch_cX12_walkerGoes_0 rfl)
theorem dX12_walkerGoes_29 : decode cX12_walkerGoes 29 = .ok (.ifCond .le 32, 3) := do_158 (rdb (p := 0) (i := 29) ch_cX12_walkerGoes_0 rfl) (rdb (p := 0) (i := 30) ch_cX12_walkerGoes_0 rfl) (rdb (p := 0) (i := 31) ch_cX12_walkerGoes_0 rfl) (by decide +kernel)
theorem ch_cX12_walkerGoes_32 : (cX12_walkerGoes.data.toList.drop 32).take 36 = [42, 180, 0, 9, 3, 46, 29, 112, 154, 0, 21, 42, 27, 182, 0, 137, 4, 184, 0, 146, 153, 0, 9, 42, 27, 182, 1, 10, 87, 42, 27, 182, 1, 33, 54, 4] := by decide +kernel
theorem dX12_walkerGoes_32 : decode cX12_walkerGoes 32 = .ok (.aload_n 0, 1) := do_42 (rdb (p := 32) (i := 0) ch_cX12_walkerGoes_32 rfl)
theorem dX12_walkerGoes_33 : decode cX12_walkerGoes 33 = .ok (.getfield 9, 3) := do_180 (rdb (p := 32) (i := 1) ch_cX12_walkerGoes_32 rfl) (rdb (p := 32) (i := 2) ch_cX12_walkerGoes_32 rfl) (rdb (p := 32) (i := 3) ch_cX12_walkerGoes_32 rfl) rfl
theorem dX12_walkerGoes_36 : decode cX12_walkerGoes 36 = .ok (.iconst 0, 1) := do_3 (rdb (p := 32) (i := 4) ch_cX12_walkerGoes_32 rfl)
theorem dX12_walkerGoes_37 : decode cX12_walkerGoes 37 = .ok (.iaload, 1) := do_46 (rdb (p := 32) (i := 5) ch_cX12_walkerGoes_32 rfl)
theorem dX12_walkerGoes_38 : decode cX12_walkerGoes 38 = .ok (.iload_n 3, 1) := do_29 (rdb (p := 32) (i := 6) ch_cX12_walkerGoes_32 rfl)
theorem dX12_walkerGoes_39 : decode cX12_walkerGoes 39 = .ok (.irem, 1) := do_112 (rdb (p := 32) (i := 7) ch_cX12_walkerGoes_32 rfl)
theorem dX12_walkerGoes_40 : decode cX12_walkerGoes 40 = .ok (.ifCond .ne 21, 3) := do_154 (rdb (p := 32) (i := 8) ch_cX12_walkerGoes_32 rfl) (rdb (p := 32) (i := 9) ch_cX12_walkerGoes_32 rfl) (rdb (p := 32) (i := 10) ch_cX12_walkerGoes_32 rfl) (by decide +kernel)
theorem dX12_walkerGoes_43 : decode cX12_walkerGoes 43 = .ok (.aload_n 0, 1) := do_42 (rdb (p := 32) (i := 11) ch_cX12_walkerGoes_32 rfl)
theorem dX12_walkerGoes_44 : decode cX12_walkerGoes 44 = .ok (.iload_n 1, 1) := do_27 (rdb (p := 32) (i := 12) ch_cX12_walkerGoes_32 rfl)
theorem dX12_walkerGoes_45 : decode cX12_walkerGoes 45 = .ok (.invokevirtual 137, 3) := do_182 (rdb (p := 32) (i := 13) ch_cX12_walkerGoes_32 rfl) (rdb (p := 32) (i := 14) ch_cX12_walkerGoes_32 rfl) (rdb (p := 32) (i := 15) ch_cX12_walkerGoes_32 rfl) rfl
theorem dX12_walkerGoes_48 : decode cX12_walkerGoes 48 = .ok (.iconst 1, 1) := do_4 (rdb (p := 32) (i := 16) ch_cX12_walkerGoes_32 rfl)
theorem dX12_walkerGoes_49 : decode cX12_walkerGoes 49 = .ok (.invokestatic 146, 3) := do_184 (rdb (p := 32) (i := 17) ch_cX12_walkerGoes_32 rfl) (rdb (p := 32) (i := 18) ch_cX12_walkerGoes_32 rfl) (rdb (p := 32) (i := 19) ch_cX12_walkerGoes_32 rfl) rfl
theorem dX12_walkerGoes_52 : decode cX12_walkerGoes 52 = .ok (.ifCond .eq 9, 3) := do_153 (rdb (p := 32) (i := 20) ch_cX12_walkerGoes_32 rfl) (rdb (p := 32) (i := 21) ch_cX12_walkerGoes_32 rfl) (rdb (p := 32) (i := 22) ch_cX12_walkerGoes_32 rfl) (by decide +kernel)
theorem dX12_walkerGoes_55 : decode cX12_walkerGoes 55 = .ok (.aload_n 0, 1) := do_42 (rdb (p := 32) (i := 23) ch_cX12_walkerGoes_32 rfl)
theorem dX12_walkerGoes_56 : decode cX12_walkerGoes 56 = .ok (.iload_n 1, 1) := do_27 (rdb (p := 32) (i := 24) ch_cX12_walkerGoes_32 rfl)
theorem dX12_walkerGoes_57 : decode cX12_walkerGoes 57 = .ok (.invokevirtual 266, 3) := do_182 (rdb (p := 32) (i := 25) ch_cX12_walkerGoes_32 rfl) (rdb (p := 32) (i := 26) ch_cX12_walkerGoes_32 rfl) (rdb (p := 32) (i := 27) ch_cX12_walkerGoes_32 rfl) rfl
theorem dX12_walkerGoes_60 : decode cX12_walkerGoes 60 = .ok (.pop, 1) := do_87 (rdb (p := 32) (i := 28) ch_cX12_walkerGoes_32 rfl)
theorem dX12_walkerGoes_61 : decode cX12_walkerGoes 61 = .ok (.aload_n 0, 1) := do_42 (rdb (p := 32) (i := 29) ch_cX12_walkerGoes_32 rfl)
theorem dX12_walkerGoes_62 : decode cX12_walkerGoes 62 = .ok (.iload_n 1, 1) := do_27 (rdb (p := 32) (i := 30) ch_cX12_walkerGoes_32 rfl)
theorem dX12_walkerGoes_63 : decode cX12_walkerGoes 63 = .ok (.invokevirtual 289, 3) := do_182 (rdb (p := 32) (i := 31) ch_cX12_walkerGoes_32 rfl) (rdb (p := 32) (i := 32) ch_cX12_walkerGoes_32 rfl) (rdb (p := 32) (i := 33) ch_cX12_walkerGoes_32 rfl) rfl
theorem ch_cX12_walkerGoes_64 : (cX12_walkerGoes.data.toList.drop 64).take 36 = [1, 33, 54, 4, 21, 4, 154, 0, 11, 42, 27, 182, 1, 36, 167, 0, 45, 42, 180, 0, 9, 28, 5, 96, 42, 180, 0, 9, 28, 5, 96, 46, 21, 4, 4, 160] := by decide +kernel
theorem dX12_walkerGoes_66 : decode cX12_walkerGoes 66 = .ok (.istore 4, 2) := do_54 (rdb (p := 64) (i := 2) ch_cX12_walkerGoes_64 rfl) (rdb (p := 64) (i := 3) ch_cX12_walkerGoes_64 rfl)
theorem dX12_walkerGoes_68 : decode cX12_walkerGoes 68 = .ok (.iload 4, 2) := do_21 (rdb (p := 64) (i := 4) ch_cX12_walkerGoes_64 rfl) (rdb (p := 64) (i := 5) ch_cX12_walkerGoes_64 rfl)
theorem dX12_walkerGoes_70 : decode cX12_walkerGoes 70 = .ok (.ifCond .ne 11, 3) := do_154 (rdb (p := 64) (i := 6) ch_cX12_walkerGoes_64 rfl) (rdb (p := 64) (i := 7) ch_cX12_walkerGoes_64 rfl) (rdb (p := 64) (i := 8) ch_cX12_walkerGoes_64 rfl) (by decide +kernel)
theorem dX12_walkerGoes_73 : decode cX12_walkerGoes 73 = .ok (.aload_n 0, 1) := do_42 (rdb (p := 64) (i := 9) ch_cX12_walkerGoes_64 rfl)
theorem dX12_walkerGoes_74 : decode cX12_walkerGoes 74 = .ok (.iload_n 1, 1) := do_27 (rdb (p := 64) (i := 10) ch_cX12_walkerGoes_64 rfl)
theorem dX12_walkerGoes_75 : decode cX12_walkerGoes 75 = .ok (.invokevirtual 292, 3) := do_182 (rdb (p := 64) (i := 11) ch_cX12_walkerGoes_64 rfl) (rdb (p := 64) (i := 12) ch_cX12_walkerGoes_64 rfl) (rdb (p := 64) (i := 13) ch_cX12_walkerGoes_64 rfl) rfl
theorem dX12_walkerGoes_78 : decode cX12_walkerGoes 78 = .ok (.goto 45, 3) := do_167 (rdb (p := 64) (i := 14) ch_cX12_walkerGoes_64 rfl) (rdb (p := 64) (i := 15) ch_cX12_walkerGoes_64 rfl) (rdb (p := 64) (i := 16) ch_cX12_walkerGoes_64 rfl) (by decide +kernel)
theorem dX12_walkerGoes_81 : decode cX12_walkerGoes 81 = .ok (.aload_n 0, 1) := do_42 (rdb (p := 64) (i := 17) ch_cX12_walkerGoes_64 rfl)
theorem dX12_walkerGoes_82 : decode cX12_walkerGoes 82 = .ok (.getfield 9, 3) := do_180 (rdb (p := 64) (i := 18) ch_cX12_walkerGoes_64 rfl) (rdb (p := 64) (i := 19) ch_cX12_walkerGoes_64 rfl) (rdb (p := 64) (i := 20) ch_cX12_walkerGoes_64 rfl) rfl
theorem dX12_walkerGoes_85 : decode cX12_walkerGoes 85 = .ok (.iload_n 2, 1) := do_28 (rdb (p := 64) (i := 21) ch_cX12_walkerGoes_64 rfl)
theorem dX12_walkerGoes_86 : decode cX12_walkerGoes 86 = .ok (.iconst 2, 1) := do_5 (rdb (p := 64) (i := 22) ch_cX12_walkerGoes_64 rfl)
theorem dX12_walkerGoes_87 : decode cX12_walkerGoes 87 = .ok (.iadd, 1) := do_96 (rdb (p := 64) (i := 23) ch_cX12_walkerGoes_64 rfl)
theorem dX12_walkerGoes_88 : decode cX12_walkerGoes 88 = .ok (.aload_n 0, 1) := do_42 (rdb (p := 64) (i := 24) ch_cX12_walkerGoes_64 rfl)
theorem dX12_walkerGoes_89 : decode cX12_walkerGoes 89 = .ok (.getfield 9, 3) := do_180 (rdb (p := 64) (i := 25) ch_cX12_walkerGoes_64 rfl) (rdb (p := 64) (i := 26) ch_cX12_walkerGoes_64 rfl) (rdb (p := 64) (i := 27) ch_cX12_walkerGoes_64 rfl) rfl
theorem dX12_walkerGoes_92 : decode cX12_walkerGoes 92 = .ok (.iload_n 2, 1) := do_28 (rdb (p := 64) (i := 28) ch_cX12_walkerGoes_64 rfl)
theorem dX12_walkerGoes_93 : decode cX12_walkerGoes 93 = .ok (.iconst 2, 1) := do_5 (rdb (p := 64) (i := 29) ch_cX12_walkerGoes_64 rfl)
theorem dX12_walkerGoes_94 : decode cX12_walkerGoes 94 = .ok (.iadd, 1) := do_96 (rdb (p := 64) (i := 30) ch_cX12_walkerGoes_64 rfl)
theorem dX12_walkerGoes_95 : decode cX12_walkerGoes 95 = .ok (.iaload, 1) := do_46 (rdb (p := 64) (i := 31) ch_cX12_walkerGoes_64 rfl)
theorem ch_cX12_walkerGoes_96 : (cX12_walkerGoes.data.toList.drop 96).take 36 = [21, 4, 4, 160, 0, 7, 4, 167, 0, 15, 21, 4, 5, 160, 0, 7, 5, 167, 0, 5, 16, 6, 96, 16, 7, 126, 79, 177] := by decide +kernel
theorem dX12_walkerGoes_96 : decode cX12_walkerGoes 96 = .ok (.iload 4, 2) := do_21 (rdb (p := 96) (i := 0) ch_cX12_walkerGoes_96 rfl) (rdb (p := 96) (i := 1) ch_cX12_walkerGoes_96 rfl)
theorem dX12_walkerGoes_98 : decode cX12_walkerGoes 98 = .ok (.iconst 1, 1) := do_4 (rdb (p := 96) (i := 2) ch_cX12_walkerGoes_96 rfl)
theorem dX12_walkerGoes_99 : decode cX12_walkerGoes 99 = .ok (.if_icmp .ne 7, 3) := do_160 (rdb (p := 96) (i := 3) ch_cX12_walkerGoes_96 rfl) (rdb (p := 96) (i := 4) ch_cX12_walkerGoes_96 rfl) (rdb (p := 96) (i := 5) ch_cX12_walkerGoes_96 rfl) (by decide +kernel)
theorem dX12_walkerGoes_102 : decode cX12_walkerGoes 102 = .ok (.iconst 1, 1) := do_4 (rdb (p := 96) (i := 6) ch_cX12_walkerGoes_96 rfl)
theorem dX12_walkerGoes_103 : decode cX12_walkerGoes 103 = .ok (.goto 15, 3) := do_167 (rdb (p := 96) (i := 7) ch_cX12_walkerGoes_96 rfl) (rdb (p := 96) (i := 8) ch_cX12_walkerGoes_96 rfl) (rdb (p := 96) (i := 9) ch_cX12_walkerGoes_96 rfl) (by decide +kernel)
theorem dX12_walkerGoes_106 : decode cX12_walkerGoes 106 = .ok (.iload 4, 2) := do_21 (rdb (p := 96) (i := 10) ch_cX12_walkerGoes_96 rfl) (rdb (p := 96) (i := 11) ch_cX12_walkerGoes_96 rfl)
theorem dX12_walkerGoes_108 : decode cX12_walkerGoes 108 = .ok (.iconst 2, 1) := do_5 (rdb (p := 96) (i := 12) ch_cX12_walkerGoes_96 rfl)
theorem dX12_walkerGoes_109 : decode cX12_walkerGoes 109 = .ok (.if_icmp .ne 7, 3) := do_160 (rdb (p := 96) (i := 13) ch_cX12_walkerGoes_96 rfl) (rdb (p := 96) (i := 14) ch_cX12_walkerGoes_96 rfl) (rdb (p := 96) (i := 15) ch_cX12_walkerGoes_96 rfl) (by decide +kernel)
theorem dX12_walkerGoes_112 : decode cX12_walkerGoes 112 = .ok (.iconst 2, 1) := do_5 (rdb (p := 96) (i := 16) ch_cX12_walkerGoes_96 rfl)
theorem dX12_walkerGoes_113 : decode cX12_walkerGoes 113 = .ok (.goto 5, 3) := do_167 (rdb (p := 96) (i := 17) ch_cX12_walkerGoes_96 rfl) (rdb (p := 96) (i := 18) ch_cX12_walkerGoes_96 rfl) (rdb (p := 96) (i := 19) ch_cX12_walkerGoes_96 rfl) (by decide +kernel)
theorem dX12_walkerGoes_116 : decode cX12_walkerGoes 116 = .ok (.bipush 6, 2) := do_16 (rdb (p := 96) (i := 20) ch_cX12_walkerGoes_96 rfl) (rdb (p := 96) (i := 21) ch_cX12_walkerGoes_96 rfl) (by decide +kernel)
theorem dX12_walkerGoes_118 : decode cX12_walkerGoes 118 = .ok (.iadd, 1) := do_96 (rdb (p := 96) (i := 22) ch_cX12_walkerGoes_96 rfl)
theorem dX12_walkerGoes_119 : decode cX12_walkerGoes 119 = .ok (.bipush 7, 2) := do_16 (rdb (p := 96) (i := 23) ch_cX12_walkerGoes_96 rfl) (rdb (p := 96) (i := 24) ch_cX12_walkerGoes_96 rfl) (by decide +kernel)
theorem dX12_walkerGoes_121 : decode cX12_walkerGoes 121 = .ok (.iand, 1) := do_126 (rdb (p := 96) (i := 25) ch_cX12_walkerGoes_96 rfl)
theorem dX12_walkerGoes_122 : decode cX12_walkerGoes 122 = .ok (.iastore, 1) := do_79 (rdb (p := 96) (i := 26) ch_cX12_walkerGoes_96 rfl)
theorem dX12_walkerGoes_123 : decode cX12_walkerGoes 123 = .ok (.return_, 1) := do_177 (rdb (p := 96) (i := 27) ch_cX12_walkerGoes_96 rfl)
end
