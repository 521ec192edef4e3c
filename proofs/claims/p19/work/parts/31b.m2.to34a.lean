section
def SP_X12_on (v : Int32) (u : Int32) (t : Int32) (Mz : mM) (r_ : Int32) : Prop := ∃ z1_ : Int32, (z1_ = v - v / (16 : Int32) * (16 : Int32)) ∧ ∃ j5_ : Nat, ((j5_ : Int) = u.toInt) ∧ ∃ z3_ : Int32, (z3_ = Mz.1 (54, 0, 0) j5_) ∧ (-1 ≤ z3_.toInt ∧ z3_.toInt ≤ 1) ∧ ∃ z13_ : Int32, (z13_ = v / (16 : Int32)) ∧ ∃ j17_ : Nat, ((j17_ : Int) = u.toInt) ∧ ∃ z15_ : Int32, (z15_ = Mz.1 (55, 0, 0) j17_) ∧ (-1 ≤ z15_.toInt ∧ z15_.toInt ≤ 1) ∧ ∃ z11_ : Int32, (((SP_X12_within z11_ 0 15 Mz (1 : Int32)) ∧ (0 ≤ z11_.toInt ∧ z11_.toInt ≤ 15) ∧ ∃ z23_ : Int32, (((SP_X12_within z23_ 0 11 Mz (1 : Int32)) ∧ (0 ≤ z23_.toInt ∧ z23_.toInt ≤ 11) ∧ ∃ z41_ : Int32, (z41_.toInt = 16 * z23_.toInt) ∧ ∃ z43_ : Int32, (z43_.toInt = z41_.toInt + z11_.toInt) ∧ r_ = z43_) ∨ ((SP_X12_within z23_ 0 11 Mz (0 : Int32)) ∧ (¬ (0 ≤ z23_.toInt ∧ z23_.toInt ≤ 11)) ∧ r_ = (-1)))) ∨ ((SP_X12_within z11_ 0 15 Mz (0 : Int32)) ∧ (¬ (0 ≤ z11_.toInt ∧ z11_.toInt ≤ 15)) ∧ r_ = (-1)))
theorem lf_c_X12_on_1 (u : Int32) (j5_ : Nat) (hu : 0 ≤ u.toInt ∧ u.toInt ≤ 7) (h6_ : (j5_ : Int) = u.toInt) : j5_ < 8 := by omega
theorem lf_c_X12_on_6 (u : Int32) (j5_ : Nat) (hu : 0 ≤ u.toInt ∧ u.toInt ≤ 7) (h6_ : (j5_ : Int) = u.toInt) : j5_ = u.toInt.toNat := by omega
theorem lf_c_X12_on_9 (z11_ : Int32) (z23_ : Int32) (z41_ : Int32) (h32_ : 0 ≤ z11_.toInt ∧ z11_.toInt ≤ 15) (h38_ : 0 ≤ z23_.toInt ∧ z23_.toInt ≤ 11) (h42_ : z41_.toInt = 16 * z23_.toInt) : -2147483648 ≤ z41_.toInt + z11_.toInt ∧ z41_.toInt + z11_.toInt < 2147483648 := by omega
theorem lf_c_X12_on_10 (z11_ : Int32) (z23_ : Int32) (z41_ : Int32) (z43_ : Int32) (h32_ : 0 ≤ z11_.toInt ∧ z11_.toInt ≤ 15) (h38_ : 0 ≤ z23_.toInt ∧ z23_.toInt ≤ 11) (h42_ : z41_.toInt = 16 * z23_.toInt) (h44_ : z43_.toInt = z41_.toInt + z11_.toInt) : ((0 ≤ z11_.toInt ∧ z11_.toInt ≤ 15) ∧ (0 ≤ z23_.toInt ∧ z23_.toInt ≤ 11)) ∧ z43_.toInt = 16 * z23_.toInt + z11_.toInt := by omega
theorem lf_c_X12_on_11 (z11_ : Int32) (z23_ : Int32) (z41_ : Int32) (z43_ : Int32) (h32_ : 0 ≤ z11_.toInt ∧ z11_.toInt ≤ 15) (h38_ : 0 ≤ z23_.toInt ∧ z23_.toInt ≤ 11) (h42_ : z41_.toInt = 16 * z23_.toInt) (h44_ : z43_.toInt = z41_.toInt + z11_.toInt) : -1 ≤ z43_.toInt ∧ z43_.toInt ≤ 191 := by omega
theorem lf_c_X12_on_12 (z11_ : Int32) (z23_ : Int32) (h38_ : ¬ (0 ≤ z23_.toInt ∧ z23_.toInt ≤ 11)) : ¬ ((0 ≤ z11_.toInt ∧ z11_.toInt ≤ 15) ∧ (0 ≤ z23_.toInt ∧ z23_.toInt ≤ 11)) := by omega
theorem lf_c_X12_on_13 (z11_ : Int32) (z23_ : Int32) (h32_ : ¬ (0 ≤ z11_.toInt ∧ z11_.toInt ≤ 15)) : ¬ ((0 ≤ z11_.toInt ∧ z11_.toInt ≤ 15) ∧ (0 ≤ z23_.toInt ∧ z23_.toInt ≤ 11)) := by omega
set_option maxHeartbeats 4000000 in
set_option maxRecDepth 100000 in
theorem c_X12_on (l : Launch) (G : va_G) (cy : Nat → ClassId) (ad : rf → Nat) (d : Nat) (v : Int32) (u : Int32) (t : Int32) (Mz : mM) (hIz : InvD Mz) (hu : 0 ≤ u.toInt ∧ u.toInt ≤ 7) : WP DD l G cy ad yX12_on cX12_on 6 (some .int) (d + 1) 0 [(0, vR (12, 0, 0)), (1, vI v), (2, vI u), (3, vI t)] [] Mz (fun r M' => Mz = M' ∧ (onP v u t r ∧ -1 ≤ r.toInt ∧ r.toInt ≤ 191) ∧ SP_X12_on v u t Mz r) := by
  refine w_iload_n dX12_on_0 rfl 1 rfl ?_
  refine w_bipush (v := 16) dX12_on_1 (by decide) ?_
  refine w_irem dX12_on_3 (by decide) (fun z1_ h2_ => ?_)
  refine w_iload_n dX12_on_4 rfl 3 rfl ?_
  refine w_aload_n dX12_on_5 rfl 0 rfl ?_
  refine w_getR (c' := (54, 0, 0)) fl_RX12_22 rfl rfl ic_12 dX12_on_6 rfl ?_
  refine w_iload_n dX12_on_9 rfl 2 rfl ?_
  refine w_iald rfl rfl ic_54 (rfl : u.toInt = u.toInt) (lf_c_X7_cellFrom_2 u hu ) dX12_on_10 (fun j5_ h6_ z3_ e4_ => ?_)
  have h7_ : z3_ = EAq.getD j5_ 0 := by rw [e4_]; exact hIz.1 (54, 0, 0) j5_ (lf_c_X12_on_1 u j5_ hu h6_ )
  have h8_ : -1 ≤ z3_.toInt ∧ z3_.toInt ≤ 1 := by rw [h7_]; exact ea_bnd j5_ (lf_c_X12_on_1 u j5_ hu h6_ )
  refine w_imul dX12_on_11 (fun z9_ h10_ => ?_)
  refine w_iadd dX12_on_12 (fun z11_ h12_ => ?_)
  refine w_istore (ls' := [(4, vI z11_), (0, vR (12, 0, 0)), (1, vI v), (2, vI u), (3, vI t)]) dX12_on_13 (by decide) rfl ?_
  refine w_iload_n dX12_on_15 rfl 2 rfl ?_
  refine w_bipush (v := 16) dX12_on_16 (by decide) ?_
  refine w_idiv dX12_on_18 (by decide) (fun z13_ h14_ => ?_)
  refine w_iload_n dX12_on_19 rfl 4 rfl ?_
  refine w_aload_n dX12_on_20 rfl 1 rfl ?_
  refine w_getR (c' := (55, 0, 0)) fl_RX12_25 rfl rfl ic_12 dX12_on_21 rfl ?_
  refine w_iload_n dX12_on_24 rfl 3 rfl ?_
  refine w_iald rfl rfl ic_55 (rfl : u.toInt = u.toInt) (lf_c_X7_cellFrom_2 u hu ) dX12_on_25 (fun j17_ h18_ z15_ e16_ => ?_)
  have h19_ : z15_ = SOq.getD j17_ 0 := by rw [e16_]; exact hIz.1 (55, 0, 0) j17_ (lf_c_X12_on_1 u j17_ hu h18_ )
  have h20_ : -1 ≤ z15_.toInt ∧ z15_.toInt ≤ 1 := by rw [h19_]; exact so_bnd j17_ (lf_c_X12_on_1 u j17_ hu h18_ )
  refine w_imul dX12_on_26 (fun z21_ h22_ => ?_)
  refine w_iadd dX12_on_27 (fun z23_ h24_ => ?_)
  refine w_istore (ls' := [(5, vI z23_), (4, vI z11_), (0, vR (12, 0, 0)), (1, vI v), (2, vI u), (3, vI t)]) dX12_on_28 (by decide) rfl ?_
  have h25_ : j5_ = u.toInt.toNat := (lf_c_X12_on_6 u j5_ hu h6_ )
  have h26_ : z11_ = onX v u t := by rw [h12_, h2_, h10_, h7_, h25_]; rfl
  have h27_ : j17_ = u.toInt.toNat := (lf_c_X12_on_6 u j17_ hu h18_ )
  have h28_ : z23_ = onY v u t := by rw [h24_, h14_, h22_, h19_, h27_]; rfl
  refine w_iload dX12_on_30 1 rfl ?_
  refine w_iconst (v := 0) dX12_on_32 (by decide) ?_
  refine w_bipush (v := 15) dX12_on_33 (by decide) ?_
  refine w_callS (as := [vI z11_, vI 0, vI 15]) (rest := []) (c_X12_within l G cy ad d z11_ 0 15 Mz hIz) kS_X12_within pnn_17 (Nat.le_of_ble_eq_true rfl) m_1427 rfl rfl (by decide) (Nat.le_of_ble_eq_true rfl) dX12_on_35 (fun r29_ M30_ q31_ => ?_)
  obtain ⟨rfl, h32_, hs33_⟩ := q31_
  rcases h32_ with ⟨rfl, h32_⟩ | ⟨rfl, h32_⟩
  · simp only [li_0, li_15] at h32_
    refine w_if_eq (tgt := 63) dX12_on_38 (by decide) li_1 (fun h9 => (absurd h9 (by decide))) (fun h34_ => ?_)
    refine w_iload dX12_on_41 0 rfl ?_
    refine w_iconst (v := 0) dX12_on_43 (by decide) ?_
    refine w_bipush (v := 11) dX12_on_44 (by decide) ?_
    refine w_callS (as := [vI z23_, vI 0, vI 11]) (rest := []) (c_X12_within l G cy ad d z23_ 0 11 Mz hIz) kS_X12_within pnn_17 (Nat.le_of_ble_eq_true rfl) m_1427 rfl rfl (by decide) (Nat.le_of_ble_eq_true rfl) dX12_on_46 (fun r35_ M36_ q37_ => ?_)
    obtain ⟨rfl, h38_, hs39_⟩ := q37_
    rcases h38_ with ⟨rfl, h38_⟩ | ⟨rfl, h38_⟩
    · simp only [li_0, li_11] at h38_
      refine w_if_eq (tgt := 63) dX12_on_49 (by decide) li_1 (fun h9 => (absurd h9 (by decide))) (fun h40_ => ?_)
      refine w_bipush (v := 16) dX12_on_52 (by decide) ?_
      refine w_iload dX12_on_54 0 rfl ?_
      refine w_imulB dX12_on_56 li_16 (rfl : z23_.toInt = z23_.toInt) (lf_c_X11_lays_1 z23_ h38_ ) (fun z41_ h42_ => ?_)
      refine w_iload dX12_on_57 1 rfl ?_
      refine w_iaddB dX12_on_59 (rfl : z41_.toInt = z41_.toInt) (rfl : z11_.toInt = z11_.toInt) (lf_c_X12_on_9 z11_ z23_ z41_ h32_ h38_ h42_ ) (fun z43_ h44_ => ?_)
      refine w_goto (tgt := 64) dX12_on_60 (by decide) ?_
      exact w_iret rfl dX12_on_64 ⟨rfl, ⟨(by unfold onP onIn; rw [← h26_, ← h28_]; exact Or.inl (lf_c_X12_on_10 z11_ z23_ z41_ z43_ h32_ h38_ h42_ h44_ )), (lf_c_X12_on_11 z11_ z23_ z41_ z43_ h32_ h38_ h42_ h44_ )⟩, ⟨z1_, h2_, j5_, h6_, z3_, e4_, h8_, z13_, h14_, j17_, h18_, z15_, e16_, h20_, z11_, (Or.inl ⟨hs33_, h32_, z23_, (Or.inl ⟨hs39_, h38_, z41_, h42_, z43_, h44_, rfl⟩)⟩)⟩⟩
    · simp only [li_0, li_11] at h38_
      refine w_if_eq (tgt := 63) dX12_on_49 (by decide) li_0 (fun h45_ => ?_) (fun h9 => (absurd h9 (by decide)))
      refine w_iconst (v := (-1)) dX12_on_63 (by decide) ?_
      exact w_iret rfl dX12_on_64 ⟨rfl, ⟨(by unfold onP onIn; rw [← h26_, ← h28_]; exact Or.inr ⟨(lf_c_X12_on_12 z11_ z23_ h38_ ), by decide⟩), (by decide), (by decide)⟩, ⟨z1_, h2_, j5_, h6_, z3_, e4_, h8_, z13_, h14_, j17_, h18_, z15_, e16_, h20_, z11_, (Or.inl ⟨hs33_, h32_, z23_, (Or.inr ⟨hs39_, h38_, rfl⟩)⟩)⟩⟩
  · simp only [li_0, li_15] at h32_
    refine w_if_eq (tgt := 63) dX12_on_38 (by decide) li_0 (fun h46_ => ?_) (fun h9 => (absurd h9 (by decide)))
    refine w_iconst (v := (-1)) dX12_on_63 (by decide) ?_
    exact w_iret rfl dX12_on_64 ⟨rfl, ⟨(by unfold onP onIn; rw [← h26_, ← h28_]; exact Or.inr ⟨(lf_c_X12_on_13 z11_ z23_ h32_ ), by decide⟩), (by decide), (by decide)⟩, ⟨z1_, h2_, j5_, h6_, z3_, e4_, h8_, z13_, h14_, j17_, h18_, z15_, e16_, h20_, z11_, (Or.inr ⟨hs33_, h32_, rfl⟩)⟩⟩
def ST_X12_in_38 (v : Int32) (Mz : mM) (v2_38 : Int32) (v2_38y : Int32) : Prop := (0 ≤ v2_38.toInt) ∧ ∃ z7_ : Int32, (z7_ = Mz.1 (50, 0, 0) 2) ∧ (0 ≤ z7_.toInt ∧ z7_.toInt ≤ 8) ∧ (v2_38.toInt < z7_.toInt) ∧ ∃ r11_ : Int32, (SP_X12_goer v2_38 Mz r11_) ∧ (r11_.toInt = 180 + 9 * v2_38.toInt) ∧ ∃ z16_ : Int32, (z16_.toInt = r11_.toInt + 1) ∧ ∃ j20_ : Nat, ((j20_ : Int) = z16_.toInt) ∧ ∃ z18_ : Int32, (z18_ = Mz.1 (50, 0, 0) j20_) ∧ (0 ≤ z18_.toInt ∧ z18_.toInt ≤ 191) ∧ (((¬ z18_.toInt = v.toInt) ∧ ∃ z24_ : Int32, (z24_.toInt = v2_38.toInt + 1) ∧ v2_38y = z24_) ∨ ((z18_.toInt = v.toInt) ∧ ∃ z26_ : Int32, (z26_ = Mz.1 (12, 0, 0) 7) ∧ (v2_38.toInt = z26_.toInt) ∧ ∃ z29_ : Int32, (z29_.toInt = v2_38.toInt + 1) ∧ v2_38y = z29_))
def ST_X12_in_2 (v : Int32) (Mz : mM) (v2_2 : Int32) (v2_2y : Int32) : Prop := (0 ≤ v2_2.toInt) ∧ ∃ z2_ : Int32, (z2_ = Mz.1 (50, 0, 0) 1) ∧ (0 ≤ z2_.toInt ∧ z2_.toInt ≤ 40) ∧ (v2_2.toInt < z2_.toInt) ∧ ∃ r33_ : Int32, (SP_X12_thing v2_2 Mz r33_) ∧ (r33_.toInt = 20 + 4 * v2_2.toInt) ∧ ∃ z38_ : Int32, (z38_.toInt = r33_.toInt + 1) ∧ ∃ j42_ : Nat, ((j42_ : Int) = z38_.toInt) ∧ ∃ z40_ : Int32, (z40_ = Mz.1 (50, 0, 0) j42_) ∧ (-1 ≤ z40_.toInt ∧ z40_.toInt ≤ 191) ∧ (¬ z40_.toInt = v.toInt) ∧ ∃ z46_ : Int32, (z46_.toInt = v2_2.toInt + 1) ∧ v2_2y = z46_
def SP_X12_in (v : Int32) (Mz : mM) (r_ : Int32) : Prop := ∃ v2_2 : Int32, (0 ≤ v2_2.toInt) ∧ (RCH (fun x_ y_ => ST_X12_in_2 v Mz x_ y_) (0 : Int32) v2_2) ∧ ∃ z2_ : Int32, (z2_ = Mz.1 (50, 0, 0) 1) ∧ (0 ≤ z2_.toInt ∧ z2_.toInt ≤ 40) ∧ (((z2_.toInt ≤ v2_2.toInt) ∧ ∃ v2_38 : Int32, (0 ≤ v2_38.toInt) ∧ (RCH (fun x_ y_ => ST_X12_in_38 v Mz x_ y_) (0 : Int32) v2_38) ∧ ∃ z7_ : Int32, (z7_ = Mz.1 (50, 0, 0) 2) ∧ (0 ≤ z7_.toInt ∧ z7_.toInt ≤ 8) ∧ (((z7_.toInt ≤ v2_38.toInt) ∧ r_ = (-1)) ∨ ((v2_38.toInt < z7_.toInt) ∧ ∃ r11_ : Int32, (SP_X12_goer v2_38 Mz r11_) ∧ (r11_.toInt = 180 + 9 * v2_38.toInt) ∧ ∃ z16_ : Int32, (z16_.toInt = r11_.toInt + 1) ∧ ∃ j20_ : Nat, ((j20_ : Int) = z16_.toInt) ∧ ∃ z18_ : Int32, (z18_ = Mz.1 (50, 0, 0) j20_) ∧ (0 ≤ z18_.toInt ∧ z18_.toInt ≤ 191) ∧ (z18_.toInt = v.toInt) ∧ ∃ z26_ : Int32, (z26_ = Mz.1 (12, 0, 0) 7) ∧ (¬ v2_38.toInt = z26_.toInt) ∧ ∃ z31_ : Int32, (z31_.toInt = 100 + v2_38.toInt) ∧ r_ = z31_))) ∨ ((v2_2.toInt < z2_.toInt) ∧ ∃ r33_ : Int32, (SP_X12_thing v2_2 Mz r33_) ∧ (r33_.toInt = 20 + 4 * v2_2.toInt) ∧ ∃ z38_ : Int32, (z38_.toInt = r33_.toInt + 1) ∧ ∃ j42_ : Nat, ((j42_ : Int) = z38_.toInt) ∧ ∃ z40_ : Int32, (z40_ = Mz.1 (50, 0, 0) j42_) ∧ (-1 ≤ z40_.toInt ∧ z40_.toInt ≤ 191) ∧ (z40_.toInt = v.toInt) ∧ r_ = v2_2))
theorem lf_c_X12_in_0 : ((-1 ≤ ((-1) : Int32).toInt ∧ ((-1) : Int32).toInt ≤ 39) ∨ (100 ≤ ((-1) : Int32).toInt ∧ ((-1) : Int32).toInt ≤ 107)) := by have r9 := li_m1; omega
theorem lf_c_X12_in_1 (v2_38 : Int32) (z7_ : Int32) (hv0_38 : 0 ≤ v2_38.toInt) (h9_ : 0 ≤ z7_.toInt ∧ z7_.toInt ≤ 8) (h10_ : v2_38.toInt < z7_.toInt) : 0 ≤ v2_38.toInt ∧ v2_38.toInt ≤ 7 := by omega
theorem lf_c_X12_in_2 (v2_38 : Int32) (z7_ : Int32) (r11_ : Int32) (hv0_38 : 0 ≤ v2_38.toInt) (h9_ : 0 ≤ z7_.toInt ∧ z7_.toInt ≤ 8) (h10_ : v2_38.toInt < z7_.toInt) (h14_ : r11_.toInt = 180 + 9 * v2_38.toInt) : -2147483648 ≤ r11_.toInt + 1 ∧ r11_.toInt + 1 < 2147483648 := by omega
theorem lf_c_X12_in_3 (v2_38 : Int32) (z7_ : Int32) (r11_ : Int32) (z16_ : Int32) (hv0_38 : 0 ≤ v2_38.toInt) (h9_ : 0 ≤ z7_.toInt ∧ z7_.toInt ≤ 8) (h10_ : v2_38.toInt < z7_.toInt) (h14_ : r11_.toInt = 180 + 9 * v2_38.toInt) (h17_ : z16_.toInt = r11_.toInt + 1) : 0 ≤ z16_.toInt ∧ z16_.toInt < ((3567 : Nat) : Int) := by omega
theorem lf_c_X12_in_4 (Mz : mM) (v2_38 : Int32) (z7_ : Int32) (r11_ : Int32) (z16_ : Int32) (j20_ : Nat) (z18_ : Int32) (hv0_38 : 0 ≤ v2_38.toInt) (e8_ : z7_ = Mz.1 (50, 0, 0) 2) (h9_ : 0 ≤ z7_.toInt ∧ z7_.toInt ≤ 8) (h10_ : v2_38.toInt < z7_.toInt) (h14_ : r11_.toInt = 180 + 9 * v2_38.toInt) (h17_ : z16_.toInt = r11_.toInt + 1) (h21_ : (j20_ : Int) = z16_.toInt) (e19_ : z18_ = Mz.1 (50, 0, 0) j20_) : 180 ≤ j20_ ∧ j20_ < 252 ∧ j20_ % 9 = 1 := by have r_v2_38 := rngI v2_38; have r_z7_ := rngI z7_; have r_r11_ := rngI r11_; have r_z16_ := rngI z16_; have r_z18_ := rngI z18_; subst e8_; subst e19_; omega
theorem lf_c_X12_in_5 (v2_38 : Int32) (r11_ : Int32) (h14_ : r11_.toInt = 180 + 9 * v2_38.toInt) : -2147483648 ≤ v2_38.toInt + 1 ∧ v2_38.toInt + 1 < 2147483648 := by have r_r11_ := rngI r11_; omega
theorem lf_c_X12_in_7 (v2_38 : Int32) (r11_ : Int32) (z24_ : Int32) (h14_ : r11_.toInt = 180 + 9 * v2_38.toInt) (h25_ : z24_.toInt = v2_38.toInt + 1) : (2147483648 - z24_.toInt).toNat < (2147483648 - v2_38.toInt).toNat := by have r_r11_ := rngI r11_; omega
theorem lf_c_X12_in_11 (v2_38 : Int32) (r11_ : Int32) (h14_ : r11_.toInt = 180 + 9 * v2_38.toInt) : -2147483648 ≤ 100 + v2_38.toInt ∧ 100 + v2_38.toInt < 2147483648 := by have r_r11_ := rngI r11_; omega
theorem lf_c_X12_in_12 (v2_38 : Int32) (z7_ : Int32) (z31_ : Int32) (hv0_38 : 0 ≤ v2_38.toInt) (h9_ : 0 ≤ z7_.toInt ∧ z7_.toInt ≤ 8) (h10_ : v2_38.toInt < z7_.toInt) (h32_ : z31_.toInt = 100 + v2_38.toInt) : ((-1 ≤ z31_.toInt ∧ z31_.toInt ≤ 39) ∨ (100 ≤ z31_.toInt ∧ z31_.toInt ≤ 107)) := by omega
theorem lf_c_X12_in_14 (v2_2 : Int32) (z2_ : Int32) (hv0_2 : 0 ≤ v2_2.toInt) (h4_ : 0 ≤ z2_.toInt ∧ z2_.toInt ≤ 40) (h5_ : v2_2.toInt < z2_.toInt) : -1 ≤ v2_2.toInt ∧ v2_2.toInt ≤ 39 := by omega
theorem lf_c_X12_in_15 (v2_2 : Int32) (z2_ : Int32) (r33_ : Int32) (hv0_2 : 0 ≤ v2_2.toInt) (h4_ : 0 ≤ z2_.toInt ∧ z2_.toInt ≤ 40) (h5_ : v2_2.toInt < z2_.toInt) (h36_ : r33_.toInt = 20 + 4 * v2_2.toInt) : -2147483648 ≤ r33_.toInt + 1 ∧ r33_.toInt + 1 < 2147483648 := by omega
theorem lf_c_X12_in_16 (v2_2 : Int32) (z2_ : Int32) (r33_ : Int32) (z38_ : Int32) (hv0_2 : 0 ≤ v2_2.toInt) (h4_ : 0 ≤ z2_.toInt ∧ z2_.toInt ≤ 40) (h5_ : v2_2.toInt < z2_.toInt) (h36_ : r33_.toInt = 20 + 4 * v2_2.toInt) (h39_ : z38_.toInt = r33_.toInt + 1) : 0 ≤ z38_.toInt ∧ z38_.toInt < ((3567 : Nat) : Int) := by omega
theorem lf_c_X12_in_17 (Mz : mM) (v2_2 : Int32) (z2_ : Int32) (r33_ : Int32) (z38_ : Int32) (j42_ : Nat) (z40_ : Int32) (hv0_2 : 0 ≤ v2_2.toInt) (e3_ : z2_ = Mz.1 (50, 0, 0) 1) (h4_ : 0 ≤ z2_.toInt ∧ z2_.toInt ≤ 40) (h5_ : v2_2.toInt < z2_.toInt) (h36_ : r33_.toInt = 20 + 4 * v2_2.toInt) (h39_ : z38_.toInt = r33_.toInt + 1) (h43_ : (j42_ : Int) = z38_.toInt) (e41_ : z40_ = Mz.1 (50, 0, 0) j42_) : 20 ≤ j42_ ∧ j42_ < 180 ∧ j42_ % 4 = 1 := by have r_v2_2 := rngI v2_2; have r_z2_ := rngI z2_; have r_r33_ := rngI r33_; have r_z38_ := rngI z38_; have r_z40_ := rngI z40_; subst e3_; subst e41_; omega
theorem lf_c_X12_in_18 (Mz : mM) (v : Int32) (v2_2 : Int32) (z2_ : Int32) (r33_ : Int32) (z38_ : Int32) (j42_ : Nat) (z40_ : Int32) (hv0_2 : 0 ≤ v2_2.toInt) (e3_ : z2_ = Mz.1 (50, 0, 0) 1) (h4_ : 0 ≤ z2_.toInt ∧ z2_.toInt ≤ 40) (h5_ : v2_2.toInt < z2_.toInt) (h36_ : r33_.toInt = 20 + 4 * v2_2.toInt) (h39_ : z38_.toInt = r33_.toInt + 1) (h43_ : (j42_ : Int) = z38_.toInt) (e41_ : z40_ = Mz.1 (50, 0, 0) j42_) (h44_ : -1 ≤ z40_.toInt ∧ z40_.toInt ≤ 191) (h45_ : ¬ z40_.toInt = v.toInt) : -2147483648 ≤ v2_2.toInt + 1 ∧ v2_2.toInt + 1 < 2147483648 := by have r_v := rngI v; have r_v2_2 := rngI v2_2; have r_z2_ := rngI z2_; have r_r33_ := rngI r33_; have r_z38_ := rngI z38_; have r_z40_ := rngI z40_; subst e3_; subst e41_; omega
theorem lf_c_X12_in_20 (v2_2 : Int32) (r33_ : Int32) (z46_ : Int32) (h36_ : r33_.toInt = 20 + 4 * v2_2.toInt) (h47_ : z46_.toInt = v2_2.toInt + 1) : (2147483648 - z46_.toInt).toNat < (2147483648 - v2_2.toInt).toNat := by have r_r33_ := rngI r33_; omega
theorem lf_c_X12_in_21 (v2_2 : Int32) (z2_ : Int32) (hv0_2 : 0 ≤ v2_2.toInt) (h4_ : 0 ≤ z2_.toInt ∧ z2_.toInt ≤ 40) (h5_ : v2_2.toInt < z2_.toInt) : ((-1 ≤ v2_2.toInt ∧ v2_2.toInt ≤ 39) ∨ (100 ≤ v2_2.toInt ∧ v2_2.toInt ≤ 107)) := by omega
set_option maxHeartbeats 4000000 in
set_option maxRecDepth 100000 in
theorem c_X12_in (l : Launch) (G : va_G) (cy : Nat → ClassId) (ad : rf → Nat) (d : Nat) (v : Int32) (Mz : mM) (hIz : InvD Mz) : WP DD l G cy ad yX12_in cX12_in 3 (some .int) (d + 1) 0 [(0, vR (12, 0, 0)), (1, vI v)] [] Mz (fun r M' => Mz = M' ∧ (((-1 ≤ r.toInt ∧ r.toInt ≤ 39) ∨ (100 ≤ r.toInt ∧ r.toInt ≤ 107))) ∧ SP_X12_in v Mz r) := by
  refine w_iconst (v := 0) dX12_in_0 (by decide) ?_
  refine w_istore_n (ls' := [(2, vI 0), (0, vR (12, 0, 0)), (1, vI v)]) dX12_in_1 rfl (by decide) rfl ?_
  have lp1_ : ∀ (nn_2 : Nat) (v2_2 : Int32) (hv0_2 : 0 ≤ v2_2.toInt) (hL_2 : RCH (fun x_ y_ => ST_X12_in_2 v Mz x_ y_) (0 : Int32) v2_2), (2147483648 - v2_2.toInt).toNat < nn_2 → WP DD l G cy ad yX12_in cX12_in 3 (some .int) (d + 1) 2 [(2, vI v2_2), (0, vR (12, 0, 0)), (1, vI v)] [] Mz (fun r M' => Mz = M' ∧ (((-1 ≤ r.toInt ∧ r.toInt ≤ 39) ∨ (100 ≤ r.toInt ∧ r.toInt ≤ 107))) ∧ SP_X12_in v Mz r) := by
    intro nn_2
    induction nn_2 with
    | zero => intro v2_2 hv0_2 hL_2 hm_2; exact absurd hm_2 (Nat.not_lt_zero _)
    | succ nn_2 ih_2 =>
      intro v2_2 hv0_2 hL_2 hm_2
      refine w_iload_n dX12_in_2 rfl 0 rfl ?_
      refine w_aload_n dX12_in_3 rfl 1 rfl ?_
      refine w_getR (c' := (50, 0, 0)) fl_RX12_9 rfl rfl ic_12 dX12_in_4 rfl ?_
      refine w_iconst (v := 1) dX12_in_7 (by decide) ?_
      refine w_ialdL 1 rfl rfl ic_50 li_1 (by decide) dX12_in_8 (fun z2_ e3_ => ?_)
      have h4_ : 0 ≤ z2_.toInt ∧ z2_.toInt ≤ 40 := pn_1 hIz e3_
      refine w_icmp_ge (tgt := 36) dX12_in_9 (by decide) (rfl : v2_2.toInt = v2_2.toInt) (rfl : z2_.toInt = z2_.toInt) (fun h5_ => ?_) (fun h5_ => ?_)
      · refine w_iconst (v := 0) dX12_in_36 (by decide) ?_
        refine w_istore_n (ls' := [(2, vI 0), (0, vR (12, 0, 0)), (1, vI v)]) dX12_in_37 rfl (by decide) rfl ?_
        have lp6_ : ∀ (nn_38 : Nat) (v2_38 : Int32) (hv0_38 : 0 ≤ v2_38.toInt) (hL_38 : RCH (fun x_ y_ => ST_X12_in_38 v Mz x_ y_) (0 : Int32) v2_38), (2147483648 - v2_38.toInt).toNat < nn_38 → WP DD l G cy ad yX12_in cX12_in 3 (some .int) (d + 1) 38 [(2, vI v2_38), (0, vR (12, 0, 0)), (1, vI v)] [] Mz (fun r M' => Mz = M' ∧ (((-1 ≤ r.toInt ∧ r.toInt ≤ 39) ∨ (100 ≤ r.toInt ∧ r.toInt ≤ 107))) ∧ SP_X12_in v Mz r) := by
          intro nn_38
          induction nn_38 with
          | zero => intro v2_38 hv0_38 hL_38 hm_38; exact absurd hm_38 (Nat.not_lt_zero _)
          | succ nn_38 ih_38 =>
            intro v2_38 hv0_38 hL_38 hm_38
            refine w_iload_n dX12_in_38 rfl 0 rfl ?_
            refine w_aload_n dX12_in_39 rfl 1 rfl ?_
            refine w_getR (c' := (50, 0, 0)) fl_RX12_9 rfl rfl ic_12 dX12_in_40 rfl ?_
            refine w_iconst (v := 2) dX12_in_43 (by decide) ?_
            refine w_ialdL 2 rfl rfl ic_50 li_2 (by decide) dX12_in_44 (fun z7_ e8_ => ?_)
            have h9_ : 0 ≤ z7_.toInt ∧ z7_.toInt ≤ 8 := pn_2 hIz e8_
            refine w_icmp_ge (tgt := 83) dX12_in_45 (by decide) (rfl : v2_38.toInt = v2_38.toInt) (rfl : z7_.toInt = z7_.toInt) (fun h10_ => ?_) (fun h10_ => ?_)
            · refine w_iconst (v := (-1)) dX12_in_83 (by decide) ?_
              exact w_iret rfl dX12_in_84 ⟨rfl, (lf_c_X12_in_0 ), ⟨v2_2, hv0_2, hL_2, z2_, e3_, h4_, (Or.inl ⟨h5_, v2_38, hv0_38, hL_38, z7_, e8_, h9_, (Or.inl ⟨h10_, rfl⟩)⟩)⟩⟩
            · refine w_aload_n dX12_in_48 rfl 1 rfl ?_
              refine w_getR (c' := (50, 0, 0)) fl_RX12_9 rfl rfl ic_12 dX12_in_49 rfl ?_
              refine w_aload_n dX12_in_52 rfl 1 rfl ?_
              refine w_iload_n dX12_in_53 rfl 0 rfl ?_
              refine w_callV (as := [vI v2_38]) (rest := [vR (50, 0, 0)]) (c_X12_goer l G cy ad d v2_38 Mz hIz (lf_c_X12_in_1 v2_38 z7_ hv0_38 h9_ h10_ )) kV_X12_goer pnn_17 (Nat.le_of_ble_eq_true rfl) m_1451 rfl rfl rfl ic_12 rfl rfl (by decide) (Nat.le_of_ble_eq_true rfl) dX12_in_54 (fun r11_ M12_ q13_ => ?_)
              obtain ⟨rfl, h14_, hs15_⟩ := q13_
              refine w_iconst (v := 1) dX12_in_57 (by decide) ?_
              refine w_iaddB dX12_in_58 (rfl : r11_.toInt = r11_.toInt) li_1 (lf_c_X12_in_2 v2_38 z7_ r11_ hv0_38 h9_ h10_ h14_ ) (fun z16_ h17_ => ?_)
              refine w_iald rfl rfl ic_50 (rfl : z16_.toInt = z16_.toInt) (lf_c_X12_in_3 v2_38 z7_ r11_ z16_ hv0_38 h9_ h10_ h14_ h17_ ) dX12_in_59 (fun j20_ h21_ z18_ e19_ => ?_)
              have h22_ : 0 ≤ z18_.toInt ∧ z18_.toInt ≤ 191 := pn_wc hIz e19_ (lf_c_X12_in_4 Mz v2_38 z7_ r11_ z16_ j20_ z18_ hv0_38 e8_ h9_ h10_ h14_ h17_ h21_ e19_ )
              refine w_iload_n dX12_in_60 rfl 2 rfl ?_
              refine w_icmp_ne (tgt := 77) dX12_in_61 (by decide) (rfl : z18_.toInt = z18_.toInt) (rfl : v.toInt = v.toInt) (fun h23_ => ?_) (fun h23_ => ?_)
              · refine w_iincB (j := 0) (f := fun z24_ => [(2, vI z24_), (0, vR (12, 0, 0)), (1, vI v)]) dX12_in_77 rfl (by decide) (fun _ => rfl) (rfl : v2_38.toInt = v2_38.toInt) li_1 (lf_c_X12_in_5 v2_38 r11_ h14_ ) (fun z24_ h25_ => ?_)
                refine w_goto (tgt := 38) dX12_in_80 (by decide) ?_
                refine w_loc (ls' := [(2, vI z24_), (0, vR (12, 0, 0)), (1, vI v)]) [0, 1, 2] rfl ?_
                exact ih_38 z24_ (lf_c_X5_takeFrom_3 v2_38 z24_ hv0_38 h25_ ) (RCH.tail hL_38 ⟨hv0_38, z7_, e8_, h9_, h10_, r11_, hs15_, h14_, z16_, h17_, j20_, h21_, z18_, e19_, h22_, (Or.inl ⟨h23_, z24_, h25_, rfl⟩)⟩) (Nat.lt_of_lt_of_le (lf_c_X12_in_7 v2_38 r11_ z24_ h14_ h25_ ) (Nat.le_of_lt_succ hm_38))
              · refine w_iload_n dX12_in_64 rfl 0 rfl ?_
                refine w_aload_n dX12_in_65 rfl 1 rfl ?_
                refine w_getI fl_RX12_28 rfl rfl ic_12 dX12_in_66 (fun z26_ e27_ => ?_)
                refine w_icmp_eq (tgt := 77) dX12_in_69 (by decide) (rfl : v2_38.toInt = v2_38.toInt) (rfl : z26_.toInt = z26_.toInt) (fun h28_ => ?_) (fun h28_ => ?_)
                · refine w_iincB (j := 0) (f := fun z29_ => [(2, vI z29_), (0, vR (12, 0, 0)), (1, vI v)]) dX12_in_77 rfl (by decide) (fun _ => rfl) (rfl : v2_38.toInt = v2_38.toInt) li_1 (lf_c_X12_in_5 v2_38 r11_ h14_ ) (fun z29_ h30_ => ?_)
                  refine w_goto (tgt := 38) dX12_in_80 (by decide) ?_
                  refine w_loc (ls' := [(2, vI z29_), (0, vR (12, 0, 0)), (1, vI v)]) [0, 1, 2] rfl ?_
                  exact ih_38 z29_ (lf_c_X5_takeFrom_3 v2_38 z29_ hv0_38 h30_ ) (RCH.tail hL_38 ⟨hv0_38, z7_, e8_, h9_, h10_, r11_, hs15_, h14_, z16_, h17_, j20_, h21_, z18_, e19_, h22_, (Or.inr ⟨h23_, z26_, e27_, h28_, z29_, h30_, rfl⟩)⟩) (Nat.lt_of_lt_of_le (lf_c_X12_in_7 v2_38 r11_ z29_ h14_ h30_ ) (Nat.le_of_lt_succ hm_38))
                · refine w_bipush (v := 100) dX12_in_72 (by decide) ?_
                  refine w_iload_n dX12_in_74 rfl 0 rfl ?_
                  refine w_iaddB dX12_in_75 li_100 (rfl : v2_38.toInt = v2_38.toInt) (lf_c_X12_in_11 v2_38 r11_ h14_ ) (fun z31_ h32_ => ?_)
                  exact w_iret rfl dX12_in_76 ⟨rfl, (lf_c_X12_in_12 v2_38 z7_ z31_ hv0_38 h9_ h10_ h32_ ), ⟨v2_2, hv0_2, hL_2, z2_, e3_, h4_, (Or.inl ⟨h5_, v2_38, hv0_38, hL_38, z7_, e8_, h9_, (Or.inr ⟨h10_, r11_, hs15_, h14_, z16_, h17_, j20_, h21_, z18_, e19_, h22_, h23_, z26_, e27_, h28_, z31_, h32_, rfl⟩)⟩)⟩⟩
        exact lp6_ _ 0 (lf_c_X5_takeFrom_5 ) RCH.refl (Nat.lt_succ_self _)
      · refine w_aload_n dX12_in_12 rfl 1 rfl ?_
        refine w_getR (c' := (50, 0, 0)) fl_RX12_9 rfl rfl ic_12 dX12_in_13 rfl ?_
        refine w_aload_n dX12_in_16 rfl 1 rfl ?_
        refine w_iload_n dX12_in_17 rfl 0 rfl ?_
        refine w_callV (as := [vI v2_2]) (rest := [vR (50, 0, 0)]) (c_X12_thing l G cy ad d v2_2 Mz hIz (lf_c_X12_in_14 v2_2 z2_ hv0_2 h4_ h5_ )) kV_X12_thing pnn_17 (Nat.le_of_ble_eq_true rfl) m_1447 rfl rfl rfl ic_12 rfl rfl (by decide) (Nat.le_of_ble_eq_true rfl) dX12_in_18 (fun r33_ M34_ q35_ => ?_)
        obtain ⟨rfl, h36_, hs37_⟩ := q35_
        refine w_iconst (v := 1) dX12_in_21 (by decide) ?_
        refine w_iaddB dX12_in_22 (rfl : r33_.toInt = r33_.toInt) li_1 (lf_c_X12_in_15 v2_2 z2_ r33_ hv0_2 h4_ h5_ h36_ ) (fun z38_ h39_ => ?_)
        refine w_iald rfl rfl ic_50 (rfl : z38_.toInt = z38_.toInt) (lf_c_X12_in_16 v2_2 z2_ r33_ z38_ hv0_2 h4_ h5_ h36_ h39_ ) dX12_in_23 (fun j42_ h43_ z40_ e41_ => ?_)
        have h44_ : -1 ≤ z40_.toInt ∧ z40_.toInt ≤ 191 := pn_tc hIz e41_ (lf_c_X12_in_17 Mz v2_2 z2_ r33_ z38_ j42_ z40_ hv0_2 e3_ h4_ h5_ h36_ h39_ h43_ e41_ )
        refine w_iload_n dX12_in_24 rfl 2 rfl ?_
        refine w_icmp_ne (tgt := 30) dX12_in_25 (by decide) (rfl : z40_.toInt = z40_.toInt) (rfl : v.toInt = v.toInt) (fun h45_ => ?_) (fun h45_ => ?_)
        · refine w_iincB (j := 0) (f := fun z46_ => [(2, vI z46_), (0, vR (12, 0, 0)), (1, vI v)]) dX12_in_30 rfl (by decide) (fun _ => rfl) (rfl : v2_2.toInt = v2_2.toInt) li_1 (lf_c_X12_in_18 Mz v v2_2 z2_ r33_ z38_ j42_ z40_ hv0_2 e3_ h4_ h5_ h36_ h39_ h43_ e41_ h44_ h45_ ) (fun z46_ h47_ => ?_)
          refine w_goto (tgt := 2) dX12_in_33 (by decide) ?_
          refine w_loc (ls' := [(2, vI z46_), (0, vR (12, 0, 0)), (1, vI v)]) [0, 1, 2] rfl ?_
          exact ih_2 z46_ (lf_c_X5_takeFrom_3 v2_2 z46_ hv0_2 h47_ ) (RCH.tail hL_2 ⟨hv0_2, z2_, e3_, h4_, h5_, r33_, hs37_, h36_, z38_, h39_, j42_, h43_, z40_, e41_, h44_, h45_, z46_, h47_, rfl⟩) (Nat.lt_of_lt_of_le (lf_c_X12_in_20 v2_2 r33_ z46_ h36_ h47_ ) (Nat.le_of_lt_succ hm_2))
        · refine w_iload_n dX12_in_28 rfl 0 rfl ?_
          exact w_iret rfl dX12_in_29 ⟨rfl, (lf_c_X12_in_21 v2_2 z2_ hv0_2 h4_ h5_ ), ⟨v2_2, hv0_2, hL_2, z2_, e3_, h4_, (Or.inr ⟨h5_, r33_, hs37_, h36_, z38_, h39_, j42_, h43_, z40_, e41_, h44_, h45_, rfl⟩)⟩⟩
  exact lp1_ _ 0 (lf_c_X5_takeFrom_5 ) RCH.refl (Nat.lt_succ_self _)
def SP_X12_isFree (v : Int32) (Mz : mM) (r_ : Int32) : Prop := ∃ r1_ : Int32, (SP_X12_in v Mz r1_) ∧ (((-1 ≤ r1_.toInt ∧ r1_.toInt ≤ 39) ∨ (100 ≤ r1_.toInt ∧ r1_.toInt ≤ 107))) ∧ (((0 ≤ r1_.toInt) ∧ r_ = 0) ∨ ((r1_.toInt < 0) ∧ r_ = 1))
set_option maxHeartbeats 4000000 in
set_option maxRecDepth 100000 in
theorem c_X12_isFree (l : Launch) (G : va_G) (cy : Nat → ClassId) (ad : rf → Nat) (d : Nat) (v : Int32) (Mz : mM) (hIz : InvD Mz) : WP DD l G cy ad yX12_isFree cX12_isFree 2 (some .boolean) (d + 2) 0 [(0, vR (12, 0, 0)), (1, vI v)] [] Mz (fun r M' => Mz = M' ∧ ((0 ≤ r.toInt ∧ r.toInt ≤ 1)) ∧ SP_X12_isFree v Mz r) := by
  refine w_aload_n dX12_isFree_0 rfl 0 rfl ?_
  refine w_iload_n dX12_isFree_1 rfl 1 rfl ?_
  refine w_callV (as := [vI v]) (rest := []) (c_X12_in l G cy ad d v Mz hIz) kV_X12_in pnn_17 (Nat.le_of_ble_eq_true rfl) m_1443 rfl rfl rfl ic_12 rfl rfl (by decide) (Nat.le_of_ble_eq_true rfl) dX12_isFree_2 (fun r1_ M2_ q3_ => ?_)
  obtain ⟨rfl, h4_, hs5_⟩ := q3_
  refine w_if_ge (tgt := 12) dX12_isFree_5 (by decide) (rfl : r1_.toInt = r1_.toInt) (fun h6_ => ?_) (fun h6_ => ?_)
  · refine w_iconst (v := 0) dX12_isFree_12 (by decide) ?_
    exact w_zret rfl dX12_isFree_13 ⟨by decide, by decide⟩ ⟨rfl, ⟨by decide, by decide⟩, ⟨r1_, hs5_, h4_, (Or.inl ⟨h6_, rfl⟩)⟩⟩
  · refine w_iconst (v := 1) dX12_isFree_8 (by decide) ?_
    refine w_goto (tgt := 13) dX12_isFree_9 (by decide) ?_
    exact w_zret rfl dX12_isFree_13 ⟨by decide, by decide⟩ ⟨rfl, ⟨by decide, by decide⟩, ⟨r1_, hs5_, h4_, (Or.inr ⟨h6_, rfl⟩)⟩⟩
def S_c_X12_become : rf → Nat → Prop := fun c k => (c.1 = 50 ∧ c.2.1 = 0) ∨ False
def SP_X12_become (v : Int32) (u : Int32) (Mz : mM) (r_ : Int32) (M_ : mM) : Prop := ∃ j3_ : Nat, ((j3_ : Int) = v.toInt) ∧ ∃ z1_ : Int32, (z1_ = Mz.1 (50, 0, 0) j3_) ∧ ∃ j7_ : Nat, ((j7_ : Int) = v.toInt) ∧ ∃ M5_ : mM, (M5_ = up Mz (50, 0, 0) j7_ u) ∧ r_ = z1_ ∧ M_ = M5_
theorem lf_c_X12_become_0 (v : Int32) (hv : 0 ≤ v.toInt ∧ v.toInt ≤ 3566) : 0 ≤ v.toInt ∧ v.toInt < ((3567 : Nat) : Int) := by omega
theorem lf_c_X12_become_2 (v : Int32) (j7_ : Nat) (hv : 0 ≤ v.toInt ∧ v.toInt ≤ 3566) (h8_ : (j7_ : Int) = v.toInt) : j7_ = v.toInt.toNat := by omega
set_option maxHeartbeats 4000000 in
set_option maxRecDepth 100000 in
theorem c_X12_become (l : Launch) (G : va_G) (cy : Nat → ClassId) (ad : rf → Nat) (d : Nat) (v : Int32) (u : Int32) (Mz : mM) (hIz : InvD Mz) (hp : PN v.toInt.toNat u ∧ (v.toInt.toNat < 345 ∨ 493 < v.toInt.toNat)) (hv : 0 ≤ v.toInt ∧ v.toInt ≤ 3566) : WP DD l G cy ad yX12_become cX12_become 4 (some .int) d 0 [(0, vR (12, 0, 0)), (1, vI v), (2, vI u)] [] Mz (fun r M' => InvD M' ∧ FR (S_c_X12_become) Mz M' ∧ (True) ∧ SP_X12_become v u Mz r M') := by
  have hFz : FR (S_c_X12_become) Mz Mz := FR.self
  refine w_aload_n dX12_become_0 rfl 0 rfl ?_
  refine w_getR (c' := (50, 0, 0)) fl_RX12_9 rfl rfl ic_12 dX12_become_1 rfl ?_
  refine w_iload_n dX12_become_4 rfl 1 rfl ?_
  refine w_iald rfl rfl ic_50 (rfl : v.toInt = v.toInt) (lf_c_X12_become_0 v hv ) dX12_become_5 (fun j3_ h4_ z1_ e2_ => ?_)
  refine w_istore_n (ls' := [(3, vI z1_), (0, vR (12, 0, 0)), (1, vI v), (2, vI u)]) dX12_become_6 rfl (by decide) rfl ?_
  refine w_aload_n dX12_become_7 rfl 1 rfl ?_
  refine w_getR (c' := (50, 0, 0)) fl_RX12_9 rfl rfl ic_12 dX12_become_8 rfl ?_
  refine w_iload_n dX12_become_11 rfl 2 rfl ?_
  refine w_iload_n dX12_become_12 rfl 3 rfl ?_
  refine w_iast DD_nd rfl rfl ic_50 (rfl : v.toInt = v.toInt) (lf_c_X12_become_0 v hv ) dX12_become_13 (fun j7_ h8_ M5_ hM6_ => ?_)
  have hI9_ := hIz.put50 hM6_ (by rw [show j7_ = v.toInt.toNat from (lf_c_X12_become_2 v j7_ hv h8_ )]; exact hp)
  have hF10_ := hFz.put hM6_ (Or.inl ⟨rfl, rfl⟩)
  refine w_iload_n dX12_become_14 rfl 0 rfl ?_
  exact w_iret rfl dX12_become_15 ⟨hI9_, hF10_, trivial, ⟨j3_, h4_, z1_, e2_, j7_, h8_, M5_, hM6_, rfl, rfl⟩⟩
def S_c_X12_comes : rf → Nat → Prop := fun c k => (c.1 = 50 ∧ c.2.1 = 0) ∨ False
def SP_X12_comes (v : Int32) (u : Int32) (Mz : mM) (r_ : Int32) (M_ : mM) : Prop := ∃ z1_ : Int32, (z1_ = Mz.1 (50, 0, 0) 1) ∧ (z1_.toInt ≤ 39) ∧ (0 ≤ z1_.toInt ∧ z1_.toInt ≤ 40) ∧ ∃ r5_ : Int32, (SP_X12_thing z1_ Mz r5_) ∧ (r5_.toInt = 20 + 4 * z1_.toInt) ∧ ∃ z10_ : Int32, (z10_.toInt = r5_.toInt + 0) ∧ ∃ j14_ : Nat, ((j14_ : Int) = z10_.toInt) ∧ ∃ M12_ : mM, (M12_ = up Mz (50, 0, 0) j14_ v) ∧ (InvD M12_) ∧ ∃ r19_ : Int32, (SP_X12_thing z1_ M12_ r19_) ∧ (r19_.toInt = 20 + 4 * z1_.toInt) ∧ ∃ z24_ : Int32, (z24_.toInt = r19_.toInt + 1) ∧ ∃ j28_ : Nat, ((j28_ : Int) = z24_.toInt) ∧ ∃ M26_ : mM, (M26_ = up M12_ (50, 0, 0) j28_ u) ∧ (InvD M26_) ∧ ∃ r33_ : Int32, (SP_X12_thing z1_ M26_ r33_) ∧ (r33_.toInt = 20 + 4 * z1_.toInt) ∧ ∃ z38_ : Int32, (z38_.toInt = r33_.toInt + 2) ∧ ∃ j42_ : Nat, ((j42_ : Int) = z38_.toInt) ∧ ∃ M40_ : mM, (M40_ = up M26_ (50, 0, 0) j42_ 0) ∧ (InvD M40_) ∧ ∃ r47_ : Int32, (SP_X12_thing z1_ M40_ r47_) ∧ (r47_.toInt = 20 + 4 * z1_.toInt) ∧ ∃ z52_ : Int32, (z52_.toInt = r47_.toInt + 3) ∧ ∃ j56_ : Nat, ((j56_ : Int) = z52_.toInt) ∧ ∃ M54_ : mM, (M54_ = up M40_ (50, 0, 0) j56_ 0) ∧ ∃ z61_ : Int32, (z61_ = M54_.1 (50, 0, 0) 1) ∧ (z61_.toInt ≤ 39) ∧ (0 ≤ z61_.toInt ∧ z61_.toInt ≤ 40) ∧ ∃ z65_ : Int32, (z65_.toInt = z61_.toInt + 1) ∧ ∃ M67_ : mM, (M67_ = up M54_ (50, 0, 0) 1 z65_) ∧ r_ = z1_ ∧ M_ = M67_
theorem lf_c_X12_comes_0 (z1_ : Int32) (h3_ : z1_.toInt ≤ 39) (h4_ : 0 ≤ z1_.toInt ∧ z1_.toInt ≤ 40) : -1 ≤ z1_.toInt ∧ z1_.toInt ≤ 39 := by omega
theorem lf_c_X12_comes_1 (z1_ : Int32) (r5_ : Int32) (h3_ : z1_.toInt ≤ 39) (h4_ : 0 ≤ z1_.toInt ∧ z1_.toInt ≤ 40) (h8_ : r5_.toInt = 20 + 4 * z1_.toInt) : -2147483648 ≤ r5_.toInt + 0 ∧ r5_.toInt + 0 < 2147483648 := by omega
theorem lf_c_X12_comes_2 (z1_ : Int32) (r5_ : Int32) (z10_ : Int32) (h3_ : z1_.toInt ≤ 39) (h4_ : 0 ≤ z1_.toInt ∧ z1_.toInt ≤ 40) (h8_ : r5_.toInt = 20 + 4 * z1_.toInt) (h11_ : z10_.toInt = r5_.toInt + 0) : 0 ≤ z10_.toInt ∧ z10_.toInt < ((3567 : Nat) : Int) := by omega
theorem lf_c_X12_comes_3 (M12_ : mM) (Mz : mM) (v : Int32) (z1_ : Int32) (r5_ : Int32) (z10_ : Int32) (j14_ : Nat) (hv : 0 ≤ v.toInt ∧ v.toInt ≤ 4) (e2_ : z1_ = Mz.1 (50, 0, 0) 1) (h3_ : z1_.toInt ≤ 39) (h4_ : 0 ≤ z1_.toInt ∧ z1_.toInt ≤ 40) (h8_ : r5_.toInt = 20 + 4 * z1_.toInt) (h11_ : z10_.toInt = r5_.toInt + 0) (h15_ : (j14_ : Int) = z10_.toInt) (hM13_ : M12_ = up Mz (50, 0, 0) j14_ v) : PN j14_ v ∧ (j14_ < 345 ∨ 493 < j14_) := by have r_v := rngI v; have r_z1_ := rngI z1_; have r_r5_ := rngI r5_; have r_z10_ := rngI z10_; subst e2_; unfold PN; omega
theorem lf_c_X12_comes_4 (z1_ : Int32) (r5_ : Int32) (z10_ : Int32) (j14_ : Nat) (h4_ : 0 ≤ z1_.toInt ∧ z1_.toInt ≤ 40) (h8_ : r5_.toInt = 20 + 4 * z1_.toInt) (h11_ : z10_.toInt = r5_.toInt + 0) (h15_ : (j14_ : Int) = z10_.toInt) : ¬ 1 = j14_ := by omega
theorem lf_c_X12_comes_6 (z1_ : Int32) (r19_ : Int32) (h3_ : z1_.toInt ≤ 39) (h4_ : 0 ≤ z1_.toInt ∧ z1_.toInt ≤ 40) (h22_ : r19_.toInt = 20 + 4 * z1_.toInt) : -2147483648 ≤ r19_.toInt + 1 ∧ r19_.toInt + 1 < 2147483648 := by omega
theorem lf_c_X12_comes_7 (z1_ : Int32) (r19_ : Int32) (z24_ : Int32) (h3_ : z1_.toInt ≤ 39) (h4_ : 0 ≤ z1_.toInt ∧ z1_.toInt ≤ 40) (h22_ : r19_.toInt = 20 + 4 * z1_.toInt) (h25_ : z24_.toInt = r19_.toInt + 1) : 0 ≤ z24_.toInt ∧ z24_.toInt < ((3567 : Nat) : Int) := by omega
theorem lf_c_X12_comes_8 (M12_ : mM) (M26_ : mM) (Mz : mM) (v : Int32) (u : Int32) (z1_ : Int32) (r5_ : Int32) (z10_ : Int32) (j14_ : Nat) (r19_ : Int32) (z24_ : Int32) (j28_ : Nat) (hv : 0 ≤ v.toInt ∧ v.toInt ≤ 4) (hu : 0 ≤ u.toInt ∧ u.toInt ≤ 191) (e2_ : z1_ = Mz.1 (50, 0, 0) 1) (h3_ : z1_.toInt ≤ 39) (h4_ : 0 ≤ z1_.toInt ∧ z1_.toInt ≤ 40) (h8_ : r5_.toInt = 20 + 4 * z1_.toInt) (h11_ : z10_.toInt = r5_.toInt + 0) (h15_ : (j14_ : Int) = z10_.toInt) (hM13_ : M12_ = up Mz (50, 0, 0) j14_ v) (h22_ : r19_.toInt = 20 + 4 * z1_.toInt) (h25_ : z24_.toInt = r19_.toInt + 1) (h29_ : (j28_ : Int) = z24_.toInt) (hM27_ : M26_ = up M12_ (50, 0, 0) j28_ u) : PN j28_ u ∧ (j28_ < 345 ∨ 493 < j28_) := by have r_v := rngI v; have r_u := rngI u; have r_z1_ := rngI z1_; have r_r5_ := rngI r5_; have r_z10_ := rngI z10_; have r_r19_ := rngI r19_; have r_z24_ := rngI z24_; subst e2_; unfold PN; omega
theorem lf_c_X12_comes_9 (z1_ : Int32) (r19_ : Int32) (z24_ : Int32) (j28_ : Nat) (h4_ : 0 ≤ z1_.toInt ∧ z1_.toInt ≤ 40) (h22_ : r19_.toInt = 20 + 4 * z1_.toInt) (h25_ : z24_.toInt = r19_.toInt + 1) (h29_ : (j28_ : Int) = z24_.toInt) : ¬ 1 = j28_ := by omega
theorem lf_c_X12_comes_11 (M12_ : mM) (M26_ : mM) (Mz : mM) (v : Int32) (u : Int32) (z1_ : Int32) (r5_ : Int32) (z10_ : Int32) (j14_ : Nat) (r19_ : Int32) (z24_ : Int32) (j28_ : Nat) (r33_ : Int32) (hv : 0 ≤ v.toInt ∧ v.toInt ≤ 4) (hu : 0 ≤ u.toInt ∧ u.toInt ≤ 191) (e2_ : z1_ = Mz.1 (50, 0, 0) 1) (h3_ : z1_.toInt ≤ 39) (h4_ : 0 ≤ z1_.toInt ∧ z1_.toInt ≤ 40) (h8_ : r5_.toInt = 20 + 4 * z1_.toInt) (h11_ : z10_.toInt = r5_.toInt + 0) (h15_ : (j14_ : Int) = z10_.toInt) (hM13_ : M12_ = up Mz (50, 0, 0) j14_ v) (h22_ : r19_.toInt = 20 + 4 * z1_.toInt) (h25_ : z24_.toInt = r19_.toInt + 1) (h29_ : (j28_ : Int) = z24_.toInt) (hM27_ : M26_ = up M12_ (50, 0, 0) j28_ u) (h36_ : r33_.toInt = 20 + 4 * z1_.toInt) : -2147483648 ≤ r33_.toInt + 2 ∧ r33_.toInt + 2 < 2147483648 := by have r_v := rngI v; have r_u := rngI u; have r_z1_ := rngI z1_; have r_r5_ := rngI r5_; have r_z10_ := rngI z10_; have r_r19_ := rngI r19_; have r_z24_ := rngI z24_; have r_r33_ := rngI r33_; subst e2_; omega
theorem lf_c_X12_comes_12 (z1_ : Int32) (r33_ : Int32) (z38_ : Int32) (h3_ : z1_.toInt ≤ 39) (h4_ : 0 ≤ z1_.toInt ∧ z1_.toInt ≤ 40) (h36_ : r33_.toInt = 20 + 4 * z1_.toInt) (h39_ : z38_.toInt = r33_.toInt + 2) : 0 ≤ z38_.toInt ∧ z38_.toInt < ((3567 : Nat) : Int) := by omega
theorem lf_c_X12_comes_13 (M12_ : mM) (M26_ : mM) (M40_ : mM) (Mz : mM) (v : Int32) (u : Int32) (z1_ : Int32) (r5_ : Int32) (z10_ : Int32) (j14_ : Nat) (r19_ : Int32) (z24_ : Int32) (j28_ : Nat) (r33_ : Int32) (z38_ : Int32) (j42_ : Nat) (hv : 0 ≤ v.toInt ∧ v.toInt ≤ 4) (hu : 0 ≤ u.toInt ∧ u.toInt ≤ 191) (e2_ : z1_ = Mz.1 (50, 0, 0) 1) (h3_ : z1_.toInt ≤ 39) (h4_ : 0 ≤ z1_.toInt ∧ z1_.toInt ≤ 40) (h8_ : r5_.toInt = 20 + 4 * z1_.toInt) (h11_ : z10_.toInt = r5_.toInt + 0) (h15_ : (j14_ : Int) = z10_.toInt) (hM13_ : M12_ = up Mz (50, 0, 0) j14_ v) (h22_ : r19_.toInt = 20 + 4 * z1_.toInt) (h25_ : z24_.toInt = r19_.toInt + 1) (h29_ : (j28_ : Int) = z24_.toInt) (hM27_ : M26_ = up M12_ (50, 0, 0) j28_ u) (h36_ : r33_.toInt = 20 + 4 * z1_.toInt) (h39_ : z38_.toInt = r33_.toInt + 2) (h43_ : (j42_ : Int) = z38_.toInt) (hM41_ : M40_ = up M26_ (50, 0, 0) j42_ 0) : PN j42_ (0 : Int32) ∧ (j42_ < 345 ∨ 493 < j42_) := by have r_v := rngI v; have r_u := rngI u; have r_z1_ := rngI z1_; have r_r5_ := rngI r5_; have r_z10_ := rngI z10_; have r_r19_ := rngI r19_; have r_z24_ := rngI z24_; have r_r33_ := rngI r33_; have r_z38_ := rngI z38_; have q9 := li_0; subst e2_; unfold PN; omega
theorem lf_c_X12_comes_14 (z1_ : Int32) (r33_ : Int32) (z38_ : Int32) (j42_ : Nat) (h4_ : 0 ≤ z1_.toInt ∧ z1_.toInt ≤ 40) (h36_ : r33_.toInt = 20 + 4 * z1_.toInt) (h39_ : z38_.toInt = r33_.toInt + 2) (h43_ : (j42_ : Int) = z38_.toInt) : ¬ 1 = j42_ := by omega
theorem lf_c_X12_comes_16 (z1_ : Int32) (r47_ : Int32) (h3_ : z1_.toInt ≤ 39) (h4_ : 0 ≤ z1_.toInt ∧ z1_.toInt ≤ 40) (h50_ : r47_.toInt = 20 + 4 * z1_.toInt) : -2147483648 ≤ r47_.toInt + 3 ∧ r47_.toInt + 3 < 2147483648 := by omega
theorem lf_c_X12_comes_17 (z1_ : Int32) (r47_ : Int32) (z52_ : Int32) (h3_ : z1_.toInt ≤ 39) (h4_ : 0 ≤ z1_.toInt ∧ z1_.toInt ≤ 40) (h50_ : r47_.toInt = 20 + 4 * z1_.toInt) (h53_ : z52_.toInt = r47_.toInt + 3) : 0 ≤ z52_.toInt ∧ z52_.toInt < ((3567 : Nat) : Int) := by omega
theorem lf_c_X12_comes_18 (M12_ : mM) (M26_ : mM) (M40_ : mM) (M54_ : mM) (Mz : mM) (v : Int32) (u : Int32) (z1_ : Int32) (r5_ : Int32) (z10_ : Int32) (j14_ : Nat) (r19_ : Int32) (z24_ : Int32) (j28_ : Nat) (r33_ : Int32) (z38_ : Int32) (j42_ : Nat) (r47_ : Int32) (z52_ : Int32) (j56_ : Nat) (hv : 0 ≤ v.toInt ∧ v.toInt ≤ 4) (hu : 0 ≤ u.toInt ∧ u.toInt ≤ 191) (e2_ : z1_ = Mz.1 (50, 0, 0) 1) (h3_ : z1_.toInt ≤ 39) (h4_ : 0 ≤ z1_.toInt ∧ z1_.toInt ≤ 40) (h8_ : r5_.toInt = 20 + 4 * z1_.toInt) (h11_ : z10_.toInt = r5_.toInt + 0) (h15_ : (j14_ : Int) = z10_.toInt) (hM13_ : M12_ = up Mz (50, 0, 0) j14_ v) (h22_ : r19_.toInt = 20 + 4 * z1_.toInt) (h25_ : z24_.toInt = r19_.toInt + 1) (h29_ : (j28_ : Int) = z24_.toInt) (hM27_ : M26_ = up M12_ (50, 0, 0) j28_ u) (h36_ : r33_.toInt = 20 + 4 * z1_.toInt) (h39_ : z38_.toInt = r33_.toInt + 2) (h43_ : (j42_ : Int) = z38_.toInt) (hM41_ : M40_ = up M26_ (50, 0, 0) j42_ 0) (h50_ : r47_.toInt = 20 + 4 * z1_.toInt) (h53_ : z52_.toInt = r47_.toInt + 3) (h57_ : (j56_ : Int) = z52_.toInt) (hM55_ : M54_ = up M40_ (50, 0, 0) j56_ 0) : PN j56_ (0 : Int32) ∧ (j56_ < 345 ∨ 493 < j56_) := by have r_v := rngI v; have r_u := rngI u; have r_z1_ := rngI z1_; have r_r5_ := rngI r5_; have r_z10_ := rngI z10_; have r_r19_ := rngI r19_; have r_z24_ := rngI z24_; have r_r33_ := rngI r33_; have r_z38_ := rngI z38_; have r_r47_ := rngI r47_; have r_z52_ := rngI z52_; have q9 := li_0; subst e2_; unfold PN; omega
theorem lf_c_X12_comes_19 (z1_ : Int32) (r47_ : Int32) (z52_ : Int32) (j56_ : Nat) (h4_ : 0 ≤ z1_.toInt ∧ z1_.toInt ≤ 40) (h50_ : r47_.toInt = 20 + 4 * z1_.toInt) (h53_ : z52_.toInt = r47_.toInt + 3) (h57_ : (j56_ : Int) = z52_.toInt) : ¬ 1 = j56_ := by omega
theorem lf_c_X12_comes_20 (z61_ : Int32) (h63_ : z61_.toInt ≤ 39) (h64_ : 0 ≤ z61_.toInt ∧ z61_.toInt ≤ 40) : -2147483648 ≤ z61_.toInt + 1 ∧ z61_.toInt + 1 < 2147483648 := by omega
theorem lf_c_X12_comes_21 (M54_ : mM) (M67_ : mM) (z61_ : Int32) (z65_ : Int32) (e62_ : z61_ = M54_.1 (50, 0, 0) 1) (h63_ : z61_.toInt ≤ 39) (h64_ : 0 ≤ z61_.toInt ∧ z61_.toInt ≤ 40) (h66_ : z65_.toInt = z61_.toInt + 1) (hM68_ : M67_ = up M54_ (50, 0, 0) 1 z65_) : PN 1 z65_ ∧ (1 < 345 ∨ 493 < 1) := by have r_z61_ := rngI z61_; have r_z65_ := rngI z65_; subst e62_; unfold PN; omega
theorem lf_c_X12_comes_22 (z1_ : Int32) (h3_ : z1_.toInt ≤ 39) (h4_ : 0 ≤ z1_.toInt ∧ z1_.toInt ≤ 40) : 0 ≤ z1_.toInt ∧ z1_.toInt ≤ 39 := by omega
set_option maxHeartbeats 4000000 in
set_option maxRecDepth 100000 in
theorem c_X12_comes (l : Launch) (G : va_G) (cy : Nat → ClassId) (ad : rf → Nat) (d : Nat) (v : Int32) (u : Int32) (Mz : mM) (hIz : InvD Mz) (hv : 0 ≤ v.toInt ∧ v.toInt ≤ 4) (hu : 0 ≤ u.toInt ∧ u.toInt ≤ 191) (hn : (Mz.1 (50, 0, 0) 1).toInt ≤ 39) : WP DD l G cy ad yX12_comes cX12_comes 4 (some .int) (d + 1) 0 [(0, vR (12, 0, 0)), (1, vI v), (2, vI u)] [] Mz (fun r M' => InvD M' ∧ FR (S_c_X12_comes) Mz M' ∧ (0 ≤ r.toInt ∧ r.toInt ≤ 39) ∧ SP_X12_comes v u Mz r M') := by
  have hFz : FR (S_c_X12_comes) Mz Mz := FR.self
  refine w_aload_n dX12_comes_0 rfl 0 rfl ?_
  refine w_getR (c' := (50, 0, 0)) fl_RX12_9 rfl rfl ic_12 dX12_comes_1 rfl ?_
  refine w_iconst (v := 1) dX12_comes_4 (by decide) ?_
  refine w_ialdL 1 rfl rfl ic_50 li_1 (by decide) dX12_comes_5 (fun z1_ e2_ => ?_)
  have h3_ : z1_.toInt ≤ 39 := by rw [e2_]; exact hn
  have h4_ : 0 ≤ z1_.toInt ∧ z1_.toInt ≤ 40 := pn_1 hIz e2_
  refine w_istore_n (ls' := [(3, vI z1_), (0, vR (12, 0, 0)), (1, vI v), (2, vI u)]) dX12_comes_6 rfl (by decide) rfl ?_
  refine w_aload_n dX12_comes_7 rfl 1 rfl ?_
  refine w_getR (c' := (50, 0, 0)) fl_RX12_9 rfl rfl ic_12 dX12_comes_8 rfl ?_
  refine w_aload_n dX12_comes_11 rfl 1 rfl ?_
  refine w_iload_n dX12_comes_12 rfl 0 rfl ?_
  refine w_callV (as := [vI z1_]) (rest := [vR (50, 0, 0)]) (c_X12_thing l G cy ad d z1_ Mz hIz (lf_c_X12_comes_0 z1_ h3_ h4_ )) kV_X12_thing pnn_17 (Nat.le_of_ble_eq_true rfl) m_1447 rfl rfl rfl ic_12 rfl rfl (by decide) (Nat.le_of_ble_eq_true rfl) dX12_comes_13 (fun r5_ M6_ q7_ => ?_)
  obtain ⟨rfl, h8_, hs9_⟩ := q7_
  refine w_iconst (v := 0) dX12_comes_16 (by decide) ?_
  refine w_iaddB dX12_comes_17 (rfl : r5_.toInt = r5_.toInt) li_0 (lf_c_X12_comes_1 z1_ r5_ h3_ h4_ h8_ ) (fun z10_ h11_ => ?_)
  refine w_iload_n dX12_comes_18 rfl 2 rfl ?_
  refine w_iast DD_nd rfl rfl ic_50 (rfl : z10_.toInt = z10_.toInt) (lf_c_X12_comes_2 z1_ r5_ z10_ h3_ h4_ h8_ h11_ ) dX12_comes_19 (fun j14_ h15_ M12_ hM13_ => ?_)
  have hI16_ := hIz.put50 hM13_ (lf_c_X12_comes_3 M12_ Mz v z1_ r5_ z10_ j14_ hv e2_ h3_ h4_ h8_ h11_ h15_ hM13_ )
  have hF17_ := hFz.put hM13_ (Or.inl ⟨rfl, rfl⟩)
  have kf18_ : (M12_.1 (50, 0, 0) 1).toInt ≤ 39 := by rw [(show M12_.1 (50, 0, 0) 1 = Mz.1 (50, 0, 0) 1 by rw [hM13_]; exact up_ne (fun q => absurd q.2 (lf_c_X12_comes_4 z1_ r5_ z10_ j14_ h4_ h8_ h11_ h15_ )))]; exact hn
  refine w_aload_n dX12_comes_20 rfl 1 rfl ?_
  refine w_getR (c' := (50, 0, 0)) fl_RX12_9 rfl rfl ic_12 dX12_comes_21 rfl ?_
  refine w_aload_n dX12_comes_24 rfl 1 rfl ?_
  refine w_iload_n dX12_comes_25 rfl 0 rfl ?_
  refine w_callV (as := [vI z1_]) (rest := [vR (50, 0, 0)]) (c_X12_thing l G cy ad d z1_ M12_ hI16_ (lf_c_X12_comes_0 z1_ h3_ h4_ )) kV_X12_thing pnn_17 (Nat.le_of_ble_eq_true rfl) m_1447 rfl rfl rfl ic_12 rfl rfl (by decide) (Nat.le_of_ble_eq_true rfl) dX12_comes_26 (fun r19_ M20_ q21_ => ?_)
  obtain ⟨rfl, h22_, hs23_⟩ := q21_
  refine w_iconst (v := 1) dX12_comes_29 (by decide) ?_
  refine w_iaddB dX12_comes_30 (rfl : r19_.toInt = r19_.toInt) li_1 (lf_c_X12_comes_6 z1_ r19_ h3_ h4_ h22_ ) (fun z24_ h25_ => ?_)
  refine w_iload_n dX12_comes_31 rfl 3 rfl ?_
  refine w_iast DD_nd rfl rfl ic_50 (rfl : z24_.toInt = z24_.toInt) (lf_c_X12_comes_7 z1_ r19_ z24_ h3_ h4_ h22_ h25_ ) dX12_comes_32 (fun j28_ h29_ M26_ hM27_ => ?_)
  have hI30_ := hI16_.put50 hM27_ (lf_c_X12_comes_8 M12_ M26_ Mz v u z1_ r5_ z10_ j14_ r19_ z24_ j28_ hv hu e2_ h3_ h4_ h8_ h11_ h15_ hM13_ h22_ h25_ h29_ hM27_ )
  have hF31_ := hF17_.put hM27_ (Or.inl ⟨rfl, rfl⟩)
  have kf32_ : (M26_.1 (50, 0, 0) 1).toInt ≤ 39 := by rw [(show M26_.1 (50, 0, 0) 1 = M12_.1 (50, 0, 0) 1 by rw [hM27_]; exact up_ne (fun q => absurd q.2 (lf_c_X12_comes_9 z1_ r19_ z24_ j28_ h4_ h22_ h25_ h29_ )))]; exact kf18_
  refine w_aload_n dX12_comes_33 rfl 1 rfl ?_
  refine w_getR (c' := (50, 0, 0)) fl_RX12_9 rfl rfl ic_12 dX12_comes_34 rfl ?_
  refine w_aload_n dX12_comes_37 rfl 1 rfl ?_
  refine w_iload_n dX12_comes_38 rfl 0 rfl ?_
  refine w_callV (as := [vI z1_]) (rest := [vR (50, 0, 0)]) (c_X12_thing l G cy ad d z1_ M26_ hI30_ (lf_c_X12_comes_0 z1_ h3_ h4_ )) kV_X12_thing pnn_17 (Nat.le_of_ble_eq_true rfl) m_1447 rfl rfl rfl ic_12 rfl rfl (by decide) (Nat.le_of_ble_eq_true rfl) dX12_comes_39 (fun r33_ M34_ q35_ => ?_)
  obtain ⟨rfl, h36_, hs37_⟩ := q35_
  refine w_iconst (v := 2) dX12_comes_42 (by decide) ?_
  refine w_iaddB dX12_comes_43 (rfl : r33_.toInt = r33_.toInt) li_2 (lf_c_X12_comes_11 M12_ M26_ Mz v u z1_ r5_ z10_ j14_ r19_ z24_ j28_ r33_ hv hu e2_ h3_ h4_ h8_ h11_ h15_ hM13_ h22_ h25_ h29_ hM27_ h36_ ) (fun z38_ h39_ => ?_)
  refine w_iconst (v := 0) dX12_comes_44 (by decide) ?_
  refine w_iast DD_nd rfl rfl ic_50 (rfl : z38_.toInt = z38_.toInt) (lf_c_X12_comes_12 z1_ r33_ z38_ h3_ h4_ h36_ h39_ ) dX12_comes_45 (fun j42_ h43_ M40_ hM41_ => ?_)
  have hI44_ := hI30_.put50 hM41_ (lf_c_X12_comes_13 M12_ M26_ M40_ Mz v u z1_ r5_ z10_ j14_ r19_ z24_ j28_ r33_ z38_ j42_ hv hu e2_ h3_ h4_ h8_ h11_ h15_ hM13_ h22_ h25_ h29_ hM27_ h36_ h39_ h43_ hM41_ )
  have hF45_ := hF31_.put hM41_ (Or.inl ⟨rfl, rfl⟩)
  have kf46_ : (M40_.1 (50, 0, 0) 1).toInt ≤ 39 := by rw [(show M40_.1 (50, 0, 0) 1 = M26_.1 (50, 0, 0) 1 by rw [hM41_]; exact up_ne (fun q => absurd q.2 (lf_c_X12_comes_14 z1_ r33_ z38_ j42_ h4_ h36_ h39_ h43_ )))]; exact kf32_
  refine w_aload_n dX12_comes_46 rfl 1 rfl ?_
  refine w_getR (c' := (50, 0, 0)) fl_RX12_9 rfl rfl ic_12 dX12_comes_47 rfl ?_
  refine w_aload_n dX12_comes_50 rfl 1 rfl ?_
  refine w_iload_n dX12_comes_51 rfl 0 rfl ?_
  refine w_callV (as := [vI z1_]) (rest := [vR (50, 0, 0)]) (c_X12_thing l G cy ad d z1_ M40_ hI44_ (lf_c_X12_comes_0 z1_ h3_ h4_ )) kV_X12_thing pnn_17 (Nat.le_of_ble_eq_true rfl) m_1447 rfl rfl rfl ic_12 rfl rfl (by decide) (Nat.le_of_ble_eq_true rfl) dX12_comes_52 (fun r47_ M48_ q49_ => ?_)
  obtain ⟨rfl, h50_, hs51_⟩ := q49_
  refine w_iconst (v := 3) dX12_comes_55 (by decide) ?_
  refine w_iaddB dX12_comes_56 (rfl : r47_.toInt = r47_.toInt) li_3 (lf_c_X12_comes_16 z1_ r47_ h3_ h4_ h50_ ) (fun z52_ h53_ => ?_)
  refine w_iconst (v := 0) dX12_comes_57 (by decide) ?_
  refine w_iast DD_nd rfl rfl ic_50 (rfl : z52_.toInt = z52_.toInt) (lf_c_X12_comes_17 z1_ r47_ z52_ h3_ h4_ h50_ h53_ ) dX12_comes_58 (fun j56_ h57_ M54_ hM55_ => ?_)
  have hI58_ := hI44_.put50 hM55_ (lf_c_X12_comes_18 M12_ M26_ M40_ M54_ Mz v u z1_ r5_ z10_ j14_ r19_ z24_ j28_ r33_ z38_ j42_ r47_ z52_ j56_ hv hu e2_ h3_ h4_ h8_ h11_ h15_ hM13_ h22_ h25_ h29_ hM27_ h36_ h39_ h43_ hM41_ h50_ h53_ h57_ hM55_ )
  have hF59_ := hF45_.put hM55_ (Or.inl ⟨rfl, rfl⟩)
  have kf60_ : (M54_.1 (50, 0, 0) 1).toInt ≤ 39 := by rw [(show M54_.1 (50, 0, 0) 1 = M40_.1 (50, 0, 0) 1 by rw [hM55_]; exact up_ne (fun q => absurd q.2 (lf_c_X12_comes_19 z1_ r47_ z52_ j56_ h4_ h50_ h53_ h57_ )))]; exact kf46_
  refine w_aload_n dX12_comes_59 rfl 1 rfl ?_
  refine w_getR (c' := (50, 0, 0)) fl_RX12_9 rfl rfl ic_12 dX12_comes_60 rfl ?_
  refine w_iconst (v := 1) dX12_comes_63 (by decide) ?_
  refine w_dup2 dX12_comes_64 rfl rfl ?_
  refine w_ialdL 1 rfl rfl ic_50 li_1 (by decide) dX12_comes_65 (fun z61_ e62_ => ?_)
  have h63_ : z61_.toInt ≤ 39 := by rw [e62_]; exact kf60_
  have h64_ : 0 ≤ z61_.toInt ∧ z61_.toInt ≤ 40 := pn_1 hI58_ e62_
  refine w_iconst (v := 1) dX12_comes_66 (by decide) ?_
  refine w_iaddB dX12_comes_67 (rfl : z61_.toInt = z61_.toInt) li_1 (lf_c_X12_comes_20 z61_ h63_ h64_ ) (fun z65_ h66_ => ?_)
  refine w_iastL 1 DD_nd rfl rfl ic_50 li_1 (by decide) dX12_comes_68 (fun M67_ hM68_ => ?_)
  have hI69_ := hI58_.put50 hM68_ (lf_c_X12_comes_21 M54_ M67_ z61_ z65_ e62_ h63_ h64_ h66_ hM68_ )
  have hF70_ := hF59_.put hM68_ (Or.inl ⟨rfl, rfl⟩)
  refine w_iload_n dX12_comes_69 rfl 0 rfl ?_
  exact w_iret rfl dX12_comes_70 ⟨hI69_, hF70_, (lf_c_X12_comes_22 z1_ h3_ h4_ ), ⟨z1_, e2_, h3_, h4_, r5_, hs9_, h8_, z10_, h11_, j14_, h15_, M12_, hM13_, hI16_, r19_, hs23_, h22_, z24_, h25_, j28_, h29_, M26_, hM27_, hI30_, r33_, hs37_, h36_, z38_, h39_, j42_, h43_, M40_, hM41_, hI44_, r47_, hs51_, h50_, z52_, h53_, j56_, h57_, M54_, hM55_, z61_, e62_, h63_, h64_, z65_, h66_, M67_, hM68_, rfl, rfl⟩⟩
end
section
/-! words of the tables that are used, by their places; decode rows; fields -/
theorem li_m1000005 : ((-1000005) : Int32).toInt = -1000005 := by decide
theorem li_m1000004 : ((-1000004) : Int32).toInt = -1000004 := by decide
theorem li_m1000003 : ((-1000003) : Int32).toInt = -1000003 := by decide
theorem li_m1000002 : ((-1000002) : Int32).toInt = -1000002 := by decide
theorem li_m1000001 : ((-1000001) : Int32).toInt = -1000001 := by decide
theorem li_14 : (14 : Int32).toInt = 14 := by decide
theorem li_273 : (273 : Int32).toInt = 273 := by decide
theorem m_25 : Cond.selects yX12_finding.cls yX12_finding yX12_finding ∈ BASE := bmem 25 (by decide +kernel) rfl
theorem m_26 : Cond.selects yX12_isFree.cls yX12_isFree yX12_isFree ∈ BASE := bmem 26 (by decide +kernel) rfl
theorem m_30 : Cond.selects yX12_comes.cls yX12_comes yX12_comes ∈ BASE := bmem 30 (by decide +kernel) rfl
theorem m_31 : Cond.selects yX12_is.cls yX12_is yX12_is ∈ BASE := bmem 31 (by decide +kernel) rfl
theorem m_32 : Cond.selects yX12_become.cls yX12_become yX12_become ∈ BASE := bmem 32 (by decide +kernel) rfl
theorem m_33 : Cond.selects yX12_reach.cls yX12_reach yX12_reach ∈ BASE := bmem 33 (by decide +kernel) rfl
theorem m_34 : Cond.selects yX12_kindOf.cls yX12_kindOf yX12_kindOf ∈ BASE := bmem 34 (by decide +kernel) rfl
theorem m_35 : Cond.selects yX12_ears.cls yX12_ears yX12_ears ∈ BASE := bmem 35 (by decide +kernel) rfl
set_option maxRecDepth 20000 in
theorem m_1352 : Cond.fieldLink RX12 72 "ClickStreetModel" "widths" "[I" ∈ BASE := bmT6 74 rfl rfl
set_option maxRecDepth 20000 in
theorem m_1353 : Cond.fieldLink RX12 75 "ClickStreetModel" "sizes" "[I" ∈ BASE := bmT6 75 rfl rfl
set_option maxRecDepth 20000 in
theorem m_1354 : Cond.fieldLink RX12 78 "ClickStreetModel" "numbers" "[I" ∈ BASE := bmT6 76 rfl rfl
set_option maxRecDepth 20000 in
theorem m_1430 : Cond.methodLink RX12 99 yX12_isCell ∈ BASE := bmT6 152 rfl rfl
set_option maxRecDepth 20000 in
theorem m_1431 : Cond.static yX12_isCell ∈ BASE := bmT6 153 rfl rfl
set_option maxRecDepth 20000 in
theorem m_1432 : Cond.code yX12_isCell cX12_isCell 1 (some .boolean) ∈ BASE := bmT6 154 rfl rfl
set_option maxRecDepth 20000 in
theorem m_1433 : Cond.constant RX12 103 (-1000001) ∈ BASE := bmT6 155 rfl rfl
set_option maxRecDepth 20000 in
theorem m_1434 : Cond.methodLink RX12 104 yX12_finding ∈ BASE := bmT6 156 rfl rfl
set_option maxRecDepth 20000 in
theorem m_1436 : Cond.instanceMethod yX12_finding ∈ BASE := bmT6 158 rfl rfl
set_option maxRecDepth 20000 in
theorem m_1437 : Cond.code yX12_finding cX12_finding 2 (some .int) ∈ BASE := bmT6 159 rfl rfl
set_option maxRecDepth 20000 in
theorem m_1439 : Cond.methodLink RX12 107 yX12_isFree ∈ BASE := bmT6 161 rfl rfl
set_option maxRecDepth 20000 in
theorem m_1441 : Cond.instanceMethod yX12_isFree ∈ BASE := bmT6 163 rfl rfl
set_option maxRecDepth 20000 in
theorem m_1442 : Cond.code yX12_isFree cX12_isFree 2 (some .boolean) ∈ BASE := bmT6 164 rfl rfl
set_option maxRecDepth 20000 in
theorem m_1455 : Cond.constant RX12 110 (-1000003) ∈ BASE := bmT6 177 rfl rfl
set_option maxRecDepth 20000 in
theorem m_1456 : Cond.constant RX12 111 (-1000004) ∈ BASE := bmT6 178 rfl rfl
set_option maxRecDepth 20000 in
theorem m_1457 : Cond.methodLink RX12 112 yX12_comes ∈ BASE := bmT6 179 rfl rfl
set_option maxRecDepth 20000 in
theorem m_1459 : Cond.instanceMethod yX12_comes ∈ BASE := bmT6 181 rfl rfl
set_option maxRecDepth 20000 in
theorem m_1460 : Cond.code yX12_comes cX12_comes 4 (some .int) ∈ BASE := bmT6 182 rfl rfl
set_option maxRecDepth 20000 in
theorem m_1465 : Cond.methodLink RX12 116 yX12_is ∈ BASE := bmT6 187 rfl rfl
set_option maxRecDepth 20000 in
theorem m_1467 : Cond.instanceMethod yX12_is ∈ BASE := bmT6 189 rfl rfl
set_option maxRecDepth 20000 in
theorem m_1468 : Cond.code yX12_is cX12_is 3 (some .boolean) ∈ BASE := bmT6 190 rfl rfl
set_option maxRecDepth 20000 in
theorem m_1473 : Cond.methodLink RX12 120 yX12_isSide ∈ BASE := bmT6 195 rfl rfl
set_option maxRecDepth 20000 in
theorem m_1474 : Cond.static yX12_isSide ∈ BASE := bmT6 196 rfl rfl
set_option maxRecDepth 20000 in
theorem m_1475 : Cond.code yX12_isSide cX12_isSide 1 (some .boolean) ∈ BASE := bmT6 197 rfl rfl
set_option maxRecDepth 20000 in
theorem m_1476 : Cond.constant RX12 123 (-1000005) ∈ BASE := bmT6 198 rfl rfl
set_option maxRecDepth 20000 in
theorem m_1481 : Cond.methodLink RX12 124 yX12_become ∈ BASE := bmT6 203 rfl rfl
set_option maxRecDepth 20000 in
theorem m_1483 : Cond.instanceMethod yX12_become ∈ BASE := bmT6 205 rfl rfl
set_option maxRecDepth 20000 in
theorem m_1484 : Cond.code yX12_become cX12_become 4 (some .int) ∈ BASE := bmT6 206 rfl rfl
set_option maxRecDepth 20000 in
theorem m_1497 : Cond.methodLink RX12 127 yX12_isSheet ∈ BASE := bmT6 219 rfl rfl
set_option maxRecDepth 20000 in
theorem m_1498 : Cond.static yX12_isSheet ∈ BASE := bmT6 220 rfl rfl
set_option maxRecDepth 20000 in
theorem m_1499 : Cond.code yX12_isSheet cX12_isSheet 1 (some .boolean) ∈ BASE := bmT6 221 rfl rfl
set_option maxRecDepth 20000 in
theorem m_1500 : Cond.constant RX12 130 (-1000002) ∈ BASE := bmT6 222 rfl rfl
set_option maxRecDepth 20000 in
theorem m_1513 : Cond.methodLink RX12 140 yX12_reach ∈ BASE := bmT6 235 rfl rfl
set_option maxRecDepth 20000 in
theorem m_1515 : Cond.instanceMethod yX12_reach ∈ BASE := bmT6 237 rfl rfl
set_option maxRecDepth 20000 in
theorem m_1516 : Cond.code yX12_reach cX12_reach 2 (some .int) ∈ BASE := bmT6 238 rfl rfl
set_option maxRecDepth 20000 in
theorem m_1517 : Cond.methodLink RX12 137 yX12_kindOf ∈ BASE := bmT6 239 rfl rfl
set_option maxRecDepth 20000 in
theorem m_1519 : Cond.instanceMethod yX12_kindOf ∈ BASE := bmT7 1 rfl rfl
set_option maxRecDepth 20000 in
theorem m_1520 : Cond.code yX12_kindOf cX12_kindOf 2 (some .int) ∈ BASE := bmT7 2 rfl rfl
set_option maxRecDepth 20000 in
theorem m_1521 : Cond.methodLink RX12 134 yX12_reachOf ∈ BASE := bmT7 3 rfl rfl
set_option maxRecDepth 20000 in
theorem m_1522 : Cond.static yX12_reachOf ∈ BASE := bmT7 4 rfl rfl
set_option maxRecDepth 20000 in
theorem m_1523 : Cond.code yX12_reachOf cX12_reachOf 1 (some .int) ∈ BASE := bmT7 5 rfl rfl
set_option maxRecDepth 20000 in
theorem m_1524 : Cond.methodLink RX12 143 yX12_ears ∈ BASE := bmT7 6 rfl rfl
set_option maxRecDepth 20000 in
theorem m_1526 : Cond.instanceMethod yX12_ears ∈ BASE := bmT7 8 rfl rfl
set_option maxRecDepth 20000 in
theorem m_1527 : Cond.code yX12_ears cX12_ears 2 (some .int) ∈ BASE := bmT7 9 rfl rfl
set_option maxRecDepth 20000 in
theorem m_1532 : Cond.methodLink RX12 146 yX12_isUnder ∈ BASE := bmT7 14 rfl rfl
set_option maxRecDepth 20000 in
theorem m_1533 : Cond.static yX12_isUnder ∈ BASE := bmT7 15 rfl rfl
set_option maxRecDepth 20000 in
theorem m_1534 : Cond.code yX12_isUnder cX12_isUnder 3 (some .boolean) ∈ BASE := bmT7 16 rfl rfl
set_option maxRecDepth 20000 in
theorem m_1535 : Cond.methodLink RX12 131 yX12_above ∈ BASE := bmT7 17 rfl rfl
set_option maxRecDepth 20000 in
theorem m_1536 : Cond.static yX12_above ∈ BASE := bmT7 18 rfl rfl
set_option maxRecDepth 20000 in
theorem m_1537 : Cond.code yX12_above cX12_above 1 (some .int) ∈ BASE := bmT7 19 rfl rfl
set_option maxRecDepth 20000 in
theorem m_1554 : Cond.constantLong RX12 149 (255) ∈ BASE := bmT7 36 rfl rfl
theorem kS_X12_above : KS yX12_above cX12_above 1 (some .int) 1 := ⟨m_1536, m_92, m_1537, nhM_17, nhV_17, pdn_2⟩
theorem kS_X12_isCell : KS yX12_isCell cX12_isCell 1 (some .boolean) 1 := ⟨m_1431, m_92, m_1432, nhM_17, nhV_17, pdn_1⟩
theorem kS_X12_isSheet : KS yX12_isSheet cX12_isSheet 1 (some .boolean) 1 := ⟨m_1498, m_92, m_1499, nhM_17, nhV_17, pdn_1⟩
theorem kS_X12_isSide : KS yX12_isSide cX12_isSide 1 (some .boolean) 1 := ⟨m_1474, m_92, m_1475, nhM_17, nhV_17, pdn_1⟩
theorem kS_X12_isUnder : KS yX12_isUnder cX12_isUnder 3 (some .boolean) 2 := ⟨m_1533, m_92, m_1534, nhM_17, nhV_17, pdn_7⟩
theorem kS_X12_reachOf : KS yX12_reachOf cX12_reachOf 1 (some .int) 1 := ⟨m_1522, m_92, m_1523, nhM_17, nhV_17, pdn_2⟩
theorem kV_X12_become : KV yX12_become cX12_become 4 (some .int) 2 := ⟨m_1483, m_32, m_92, m_1484, nhM_17, nhV_17, pdn_8⟩
theorem kV_X12_comes : KV yX12_comes cX12_comes 4 (some .int) 2 := ⟨m_1459, m_30, m_92, m_1460, nhM_17, nhV_17, pdn_8⟩
theorem kV_X12_ears : KV yX12_ears cX12_ears 2 (some .int) 1 := ⟨m_1526, m_35, m_92, m_1527, nhM_17, nhV_17, pdn_2⟩
theorem kV_X12_finding : KV yX12_finding cX12_finding 2 (some .int) 1 := ⟨m_1436, m_25, m_92, m_1437, nhM_17, nhV_17, pdn_2⟩
theorem kV_X12_is : KV yX12_is cX12_is 3 (some .boolean) 2 := ⟨m_1467, m_31, m_92, m_1468, nhM_17, nhV_17, pdn_7⟩
theorem kV_X12_isFree : KV yX12_isFree cX12_isFree 2 (some .boolean) 1 := ⟨m_1441, m_26, m_92, m_1442, nhM_17, nhV_17, pdn_1⟩
theorem kV_X12_kindOf : KV yX12_kindOf cX12_kindOf 2 (some .int) 1 := ⟨m_1519, m_34, m_92, m_1520, nhM_17, nhV_17, pdn_2⟩
theorem kV_X12_reach : KV yX12_reach cX12_reach 2 (some .int) 1 := ⟨m_1515, m_33, m_92, m_1516, nhM_17, nhV_17, pdn_2⟩
theorem fl_RX12_72 : FLK RX12 72 12 29 (.array .int) true := ⟨RX12, TX12, 33, tyX12, rfl, inB12, tyX12_ok, nmX12, by decide, rfl, rfl, Or.inl m_1352⟩
theorem fl_RX12_75 : FLK RX12 75 12 30 (.array .int) true := ⟨RX12, TX12, 33, tyX12, rfl, inB12, tyX12_ok, nmX12, by decide, rfl, rfl, Or.inl m_1353⟩
theorem fl_RX12_78 : FLK RX12 78 12 31 (.array .int) true := ⟨RX12, TX12, 33, tyX12, rfl, inB12, tyX12_ok, nmX12, by decide, rfl, rfl, Or.inl m_1354⟩
theorem ch_cX12_air_0 : (cX12_air.data.toList.drop 0).take 36 = [27, 154, 0, 13, 28, 3, 16, 99, 184, 0, 85, 167, 0, 37, 27, 4, 160, 0, 13, 28, 3, 16, 90, 184, 0, 85, 167, 0, 22, 27, 5, 160, 0, 16, 28, 3] := by decide +kernel
theorem dX12_air_0 : decode cX12_air 0 = .ok (.iload_n 1, 1) := do_27 (rdb (p := 0) (i := 0) ch_cX12_air_0 rfl)
theorem dX12_air_1 : decode cX12_air 1 = .ok (.ifCond .ne 13, 3) := do_154 (rdb (p := 0) (i := 1) ch_cX12_air_0 rfl) (rdb (p := 0) (i := 2) ch_cX12_air_0 rfl) (rdb (p := 0) (i := 3) ch_cX12_air_0 rfl) (by decide +kernel)
theorem dX12_air_4 : decode cX12_air 4 = .ok (.iload_n 2, 1) := do_28 (rdb (p := 0) (i := 4) ch_cX12_air_0 rfl)
theorem dX12_air_5 : decode cX12_air 5 = .ok (.iconst 0, 1) := do_3 (rdb (p := 0) (i := 5) ch_cX12_air_0 rfl)
theorem dX12_air_6 : decode cX12_air 6 = .ok (.bipush 99, 2) := do_16 (rdb (p := 0) (i := 6) ch_cX12_air_0 rfl) (rdb (p := 0) (i := 7) ch_cX12_air_0 rfl) (by decide +kernel)
theorem dX12_air_8 : decode cX12_air 8 = .ok (.invokestatic 85, 3) := do_184 (rdb (p := 0) (i := 8) ch_cX12_air_0 rfl) (rdb (p := 0) (i := 9) ch_cX12_air_0 rfl) (rdb (p := 0) (i := 10) ch_cX12_air_0 rfl) rfl
theorem dX12_air_11 : decode cX12_air 11 = .ok (.goto 37, 3) := do_167 (rdb (p := 0) (i := 11) ch_cX12_air_0 rfl) (rdb (p := 0) (i := 12) ch_cX12_air_0 rfl) (rdb (p := 0) (i := 13) ch_cX12_air_0 rfl) (by decide +kernel)
theorem dX12_air_14 : decode cX12_air 14 = .ok (.iload_n 1, 1) := do_27 (rdb (p := 0) (i := 14) ch_cX12_air_0 rfl)
theorem dX12_air_15 : decode cX12_air 15 = .ok (.iconst 1, 1) := do_4 (rdb (p := 0) (i := 15) ch_cX12_air_0 rfl)
theorem dX12_air_16 : decode cX12_air 16 = .ok (.if_icmp .ne 13, 3) := do_160 (rdb (p := 0) (i := 16) ch_cX12_air_0 rfl) (rdb (p := 0) (i := 17) ch_cX12_air_0 rfl) (rdb (p := 0) (i := 18) ch_cX12_air_0 rfl) (by decide +kernel)
theorem dX12_air_19 : decode cX12_air 19 = .ok (.iload_n 2, 1) := do_28 (rdb (p := 0) (i := 19) ch_cX12_air_0 rfl)
theorem dX12_air_20 : decode cX12_air 20 = .ok (.iconst 0, 1) := do_3 (rdb (p := 0) (i := 20) ch_cX12_air_0 rfl)
theorem dX12_air_21 : decode cX12_air 21 = .ok (.bipush 90, 2) := do_16 (rdb (p := 0) (i := 21) ch_cX12_air_0 rfl) (rdb (p := 0) (i := 22) ch_cX12_air_0 rfl) (by decide +kernel)
theorem dX12_air_23 : decode cX12_air 23 = .ok (.invokestatic 85, 3) := do_184 (rdb (p := 0) (i := 23) ch_cX12_air_0 rfl) (rdb (p := 0) (i := 24) ch_cX12_air_0 rfl) (rdb (p := 0) (i := 25) ch_cX12_air_0 rfl) rfl
theorem dX12_air_26 : decode cX12_air 26 = .ok (.goto 22, 3) := do_167 (rdb (p := 0) (i := 26) ch_cX12_air_0 rfl) (rdb (p := 0) (i := 27) ch_cX12_air_0 rfl) (rdb (p := 0) (i := 28) ch_cX12_air_0 rfl) (by decide +kernel)
theorem dX12_air_29 : decode cX12_air 29 = .ok (.iload_n 1, 1) := do_27 (rdb (p := 0) (i := 29) ch_cX12_air_0 rfl)
theorem dX12_air_30 : decode cX12_air 30 = .ok (.iconst 2, 1) := do_5 (rdb (p := 0) (i := 30) ch_cX12_air_0 rfl)
theorem dX12_air_31 : decode cX12_air 31 = .ok (.if_icmp .ne 16, 3) := do_160 (rdb (p := 0) (i := 31) ch_cX12_air_0 rfl) (rdb (p := 0) (i := 32) ch_cX12_air_0 rfl) (rdb (p := 0) (i := 33) ch_cX12_air_0 rfl) (by decide +kernel)
theorem ch_cX12_air_32 : (cX12_air.data.toList.drop 32).take 36 = [0, 16, 28, 3, 4, 184, 0, 85, 153, 0, 7, 4, 167, 0, 4, 3, 62, 29, 153, 0, 15, 42, 16, 6, 27, 96, 28, 182, 0, 124, 167, 0, 9, 42, 18, 103] := by decide +kernel
theorem dX12_air_34 : decode cX12_air 34 = .ok (.iload_n 2, 1) := do_28 (rdb (p := 32) (i := 2) ch_cX12_air_32 rfl)
theorem dX12_air_35 : decode cX12_air 35 = .ok (.iconst 0, 1) := do_3 (rdb (p := 32) (i := 3) ch_cX12_air_32 rfl)
theorem dX12_air_36 : decode cX12_air 36 = .ok (.iconst 1, 1) := do_4 (rdb (p := 32) (i := 4) ch_cX12_air_32 rfl)
theorem dX12_air_37 : decode cX12_air 37 = .ok (.invokestatic 85, 3) := do_184 (rdb (p := 32) (i := 5) ch_cX12_air_32 rfl) (rdb (p := 32) (i := 6) ch_cX12_air_32 rfl) (rdb (p := 32) (i := 7) ch_cX12_air_32 rfl) rfl
theorem dX12_air_40 : decode cX12_air 40 = .ok (.ifCond .eq 7, 3) := do_153 (rdb (p := 32) (i := 8) ch_cX12_air_32 rfl) (rdb (p := 32) (i := 9) ch_cX12_air_32 rfl) (rdb (p := 32) (i := 10) ch_cX12_air_32 rfl) (by decide +kernel)
theorem dX12_air_43 : decode cX12_air 43 = .ok (.iconst 1, 1) := do_4 (rdb (p := 32) (i := 11) ch_cX12_air_32 rfl)
theorem dX12_air_44 : decode cX12_air 44 = .ok (.goto 4, 3) := do_167 (rdb (p := 32) (i := 12) ch_cX12_air_32 rfl) (rdb (p := 32) (i := 13) ch_cX12_air_32 rfl) (rdb (p := 32) (i := 14) ch_cX12_air_32 rfl) (by decide +kernel)
theorem dX12_air_47 : decode cX12_air 47 = .ok (.iconst 0, 1) := do_3 (rdb (p := 32) (i := 15) ch_cX12_air_32 rfl)
theorem dX12_air_48 : decode cX12_air 48 = .ok (.istore_n 3, 1) := do_62 (rdb (p := 32) (i := 16) ch_cX12_air_32 rfl)
theorem dX12_air_49 : decode cX12_air 49 = .ok (.iload_n 3, 1) := do_29 (rdb (p := 32) (i := 17) ch_cX12_air_32 rfl)
theorem dX12_air_50 : decode cX12_air 50 = .ok (.ifCond .eq 15, 3) := do_153 (rdb (p := 32) (i := 18) ch_cX12_air_32 rfl) (rdb (p := 32) (i := 19) ch_cX12_air_32 rfl) (rdb (p := 32) (i := 20) ch_cX12_air_32 rfl) (by decide +kernel)
theorem dX12_air_53 : decode cX12_air 53 = .ok (.aload_n 0, 1) := do_42 (rdb (p := 32) (i := 21) ch_cX12_air_32 rfl)
theorem dX12_air_54 : decode cX12_air 54 = .ok (.bipush 6, 2) := do_16 (rdb (p := 32) (i := 22) ch_cX12_air_32 rfl) (rdb (p := 32) (i := 23) ch_cX12_air_32 rfl) (by decide +kernel)
theorem dX12_air_56 : decode cX12_air 56 = .ok (.iload_n 1, 1) := do_27 (rdb (p := 32) (i := 24) ch_cX12_air_32 rfl)
theorem dX12_air_57 : decode cX12_air 57 = .ok (.iadd, 1) := do_96 (rdb (p := 32) (i := 25) ch_cX12_air_32 rfl)
theorem dX12_air_58 : decode cX12_air 58 = .ok (.iload_n 2, 1) := do_28 (rdb (p := 32) (i := 26) ch_cX12_air_32 rfl)
theorem dX12_air_59 : decode cX12_air 59 = .ok (.invokevirtual 124, 3) := do_182 (rdb (p := 32) (i := 27) ch_cX12_air_32 rfl) (rdb (p := 32) (i := 28) ch_cX12_air_32 rfl) (rdb (p := 32) (i := 29) ch_cX12_air_32 rfl) rfl
theorem dX12_air_62 : decode cX12_air 62 = .ok (.goto 9, 3) := do_167 (rdb (p := 32) (i := 30) ch_cX12_air_32 rfl) (rdb (p := 32) (i := 31) ch_cX12_air_32 rfl) (rdb (p := 32) (i := 32) ch_cX12_air_32 rfl) (by decide +kernel)
theorem ch_cX12_air_64 : (cX12_air.data.toList.drop 64).take 36 = [9, 42, 18, 103, 182, 0, 104, 172] := by decide +kernel
theorem dX12_air_65 : decode cX12_air 65 = .ok (.aload_n 0, 1) := do_42 (rdb (p := 64) (i := 1) ch_cX12_air_64 rfl)
theorem dX12_air_66 : decode cX12_air 66 = .ok (.ldc 103, 2) := do_18 (rdb (p := 64) (i := 2) ch_cX12_air_64 rfl) (rdb (p := 64) (i := 3) ch_cX12_air_64 rfl)
theorem dX12_air_68 : decode cX12_air 68 = .ok (.invokevirtual 104, 3) := do_182 (rdb (p := 64) (i := 4) ch_cX12_air_64 rfl) (rdb (p := 64) (i := 5) ch_cX12_air_64 rfl) (rdb (p := 64) (i := 6) ch_cX12_air_64 rfl) rfl
theorem dX12_air_71 : decode cX12_air 71 = .ok (.ireturn, 1) := do_172 (rdb (p := 64) (i := 7) ch_cX12_air_64 rfl)
theorem ch_cX12_as_0 : (cX12_as.data.toList.drop 0).take 36 = [42, 27, 5, 182, 0, 116, 153, 0, 13, 28, 3, 16, 7, 184, 0, 85, 154, 0, 10, 42, 18, 103, 182, 0, 104, 172, 42, 27, 182, 0, 137, 28, 184, 0, 146, 153] := by decide +kernel
theorem dX12_as_0 : decode cX12_as 0 = .ok (.aload_n 0, 1) := do_42 (rdb (p := 0) (i := 0) ch_cX12_as_0 rfl)
theorem dX12_as_1 : decode cX12_as 1 = .ok (.iload_n 1, 1) := do_27 (rdb (p := 0) (i := 1) ch_cX12_as_0 rfl)
theorem dX12_as_2 : decode cX12_as 2 = .ok (.iconst 2, 1) := do_5 (rdb (p := 0) (i := 2) ch_cX12_as_0 rfl)
theorem dX12_as_3 : decode cX12_as 3 = .ok (.invokevirtual 116, 3) := do_182 (rdb (p := 0) (i := 3) ch_cX12_as_0 rfl) (rdb (p := 0) (i := 4) ch_cX12_as_0 rfl) (rdb (p := 0) (i := 5) ch_cX12_as_0 rfl) rfl
theorem dX12_as_6 : decode cX12_as 6 = .ok (.ifCond .eq 13, 3) := do_153 (rdb (p := 0) (i := 6) ch_cX12_as_0 rfl) (rdb (p := 0) (i := 7) ch_cX12_as_0 rfl) (rdb (p := 0) (i := 8) ch_cX12_as_0 rfl) (by decide +kernel)
theorem dX12_as_9 : decode cX12_as 9 = .ok (.iload_n 2, 1) := do_28 (rdb (p := 0) (i := 9) ch_cX12_as_0 rfl)
theorem dX12_as_10 : decode cX12_as 10 = .ok (.iconst 0, 1) := do_3 (rdb (p := 0) (i := 10) ch_cX12_as_0 rfl)
theorem dX12_as_11 : decode cX12_as 11 = .ok (.bipush 7, 2) := do_16 (rdb (p := 0) (i := 11) ch_cX12_as_0 rfl) (rdb (p := 0) (i := 12) ch_cX12_as_0 rfl) (by decide +kernel)
theorem dX12_as_13 : decode cX12_as 13 = .ok (.invokestatic 85, 3) := do_184 (rdb (p := 0) (i := 13) ch_cX12_as_0 rfl) (rdb (p := 0) (i := 14) ch_cX12_as_0 rfl) (rdb (p := 0) (i := 15) ch_cX12_as_0 rfl) rfl
theorem dX12_as_16 : decode cX12_as 16 = .ok (.ifCond .ne 10, 3) := do_154 (rdb (p := 0) (i := 16) ch_cX12_as_0 rfl) (rdb (p := 0) (i := 17) ch_cX12_as_0 rfl) (rdb (p := 0) (i := 18) ch_cX12_as_0 rfl) (by decide +kernel)
theorem dX12_as_19 : decode cX12_as 19 = .ok (.aload_n 0, 1) := do_42 (rdb (p := 0) (i := 19) ch_cX12_as_0 rfl)
theorem dX12_as_20 : decode cX12_as 20 = .ok (.ldc 103, 2) := do_18 (rdb (p := 0) (i := 20) ch_cX12_as_0 rfl) (rdb (p := 0) (i := 21) ch_cX12_as_0 rfl)
theorem dX12_as_22 : decode cX12_as 22 = .ok (.invokevirtual 104, 3) := do_182 (rdb (p := 0) (i := 22) ch_cX12_as_0 rfl) (rdb (p := 0) (i := 23) ch_cX12_as_0 rfl) (rdb (p := 0) (i := 24) ch_cX12_as_0 rfl) rfl
theorem dX12_as_25 : decode cX12_as 25 = .ok (.ireturn, 1) := do_172 (rdb (p := 0) (i := 25) ch_cX12_as_0 rfl)
theorem dX12_as_26 : decode cX12_as 26 = .ok (.aload_n 0, 1) := do_42 (rdb (p := 0) (i := 26) ch_cX12_as_0 rfl)
theorem dX12_as_27 : decode cX12_as 27 = .ok (.iload_n 1, 1) := do_27 (rdb (p := 0) (i := 27) ch_cX12_as_0 rfl)
theorem dX12_as_28 : decode cX12_as 28 = .ok (.invokevirtual 137, 3) := do_182 (rdb (p := 0) (i := 28) ch_cX12_as_0 rfl) (rdb (p := 0) (i := 29) ch_cX12_as_0 rfl) (rdb (p := 0) (i := 30) ch_cX12_as_0 rfl) rfl
theorem dX12_as_31 : decode cX12_as 31 = .ok (.iload_n 2, 1) := do_28 (rdb (p := 0) (i := 31) ch_cX12_as_0 rfl)
theorem ch_cX12_as_32 : (cX12_as.data.toList.drop 32).take 36 = [184, 0, 146, 153, 0, 11, 42, 27, 182, 0, 140, 167, 0, 9, 42, 18, 123, 182, 0, 104, 172] := by decide +kernel
theorem dX12_as_32 : decode cX12_as 32 = .ok (.invokestatic 146, 3) := do_184 (rdb (p := 32) (i := 0) ch_cX12_as_32 rfl) (rdb (p := 32) (i := 1) ch_cX12_as_32 rfl) (rdb (p := 32) (i := 2) ch_cX12_as_32 rfl) rfl
theorem dX12_as_35 : decode cX12_as 35 = .ok (.ifCond .eq 11, 3) := do_153 (rdb (p := 32) (i := 3) ch_cX12_as_32 rfl) (rdb (p := 32) (i := 4) ch_cX12_as_32 rfl) (rdb (p := 32) (i := 5) ch_cX12_as_32 rfl) (by decide +kernel)
theorem dX12_as_38 : decode cX12_as 38 = .ok (.aload_n 0, 1) := do_42 (rdb (p := 32) (i := 6) ch_cX12_as_32 rfl)
theorem dX12_as_39 : decode cX12_as 39 = .ok (.iload_n 1, 1) := do_27 (rdb (p := 32) (i := 7) ch_cX12_as_32 rfl)
theorem dX12_as_40 : decode cX12_as 40 = .ok (.invokevirtual 140, 3) := do_182 (rdb (p := 32) (i := 8) ch_cX12_as_32 rfl) (rdb (p := 32) (i := 9) ch_cX12_as_32 rfl) (rdb (p := 32) (i := 10) ch_cX12_as_32 rfl) rfl
theorem dX12_as_43 : decode cX12_as 43 = .ok (.goto 9, 3) := do_167 (rdb (p := 32) (i := 11) ch_cX12_as_32 rfl) (rdb (p := 32) (i := 12) ch_cX12_as_32 rfl) (rdb (p := 32) (i := 13) ch_cX12_as_32 rfl) (by decide +kernel)
theorem dX12_as_46 : decode cX12_as 46 = .ok (.aload_n 0, 1) := do_42 (rdb (p := 32) (i := 14) ch_cX12_as_32 rfl)
theorem dX12_as_47 : decode cX12_as 47 = .ok (.ldc 123, 2) := do_18 (rdb (p := 32) (i := 15) ch_cX12_as_32 rfl) (rdb (p := 32) (i := 16) ch_cX12_as_32 rfl)
theorem dX12_as_49 : decode cX12_as 49 = .ok (.invokevirtual 104, 3) := do_182 (rdb (p := 32) (i := 17) ch_cX12_as_32 rfl) (rdb (p := 32) (i := 18) ch_cX12_as_32 rfl) (rdb (p := 32) (i := 19) ch_cX12_as_32 rfl) rfl
theorem dX12_as_52 : decode cX12_as 52 = .ok (.ireturn, 1) := do_172 (rdb (p := 32) (i := 20) ch_cX12_as_32 rfl)
theorem dX12_at_0 : decode cX12_at 0 = .ok (.iload_n 1, 1) := by decide +kernel
theorem dX12_at_1 : decode cX12_at 1 = .ok (.invokestatic 99, 3) := by decide +kernel
theorem dX12_at_4 : decode cX12_at 4 = .ok (.ifCond .eq 11, 3) := by decide +kernel
theorem dX12_at_7 : decode cX12_at 7 = .ok (.aload_n 0, 1) := by decide +kernel
theorem dX12_at_8 : decode cX12_at 8 = .ok (.iload_n 1, 1) := by decide +kernel
theorem dX12_at_9 : decode cX12_at 9 = .ok (.invokevirtual 96, 3) := by decide +kernel
theorem dX12_at_12 : decode cX12_at 12 = .ok (.goto 9, 3) := by decide +kernel
theorem dX12_at_15 : decode cX12_at 15 = .ok (.aload_n 0, 1) := by decide +kernel
theorem dX12_at_16 : decode cX12_at 16 = .ok (.ldc 103, 2) := by decide +kernel
theorem dX12_at_18 : decode cX12_at 18 = .ok (.invokevirtual 104, 3) := by decide +kernel
theorem dX12_at_21 : decode cX12_at 21 = .ok (.ireturn, 1) := by decide +kernel
theorem ch_cX12_away_0 : (cX12_away.data.toList.drop 0).take 36 = [42, 27, 4, 182, 0, 116, 154, 0, 10, 42, 18, 103, 182, 0, 104, 172, 42, 180, 0, 9, 42, 27, 182, 0, 89, 4, 96, 46, 156, 0, 12, 42, 18, 110, 182, 0] := by decide +kernel
theorem dX12_away_0 : decode cX12_away 0 = .ok (.aload_n 0, 1) := do_42 (rdb (p := 0) (i := 0) ch_cX12_away_0 rfl)
theorem dX12_away_1 : decode cX12_away 1 = .ok (.iload_n 1, 1) := do_27 (rdb (p := 0) (i := 1) ch_cX12_away_0 rfl)
theorem dX12_away_2 : decode cX12_away 2 = .ok (.iconst 1, 1) := do_4 (rdb (p := 0) (i := 2) ch_cX12_away_0 rfl)
theorem dX12_away_3 : decode cX12_away 3 = .ok (.invokevirtual 116, 3) := do_182 (rdb (p := 0) (i := 3) ch_cX12_away_0 rfl) (rdb (p := 0) (i := 4) ch_cX12_away_0 rfl) (rdb (p := 0) (i := 5) ch_cX12_away_0 rfl) rfl
theorem dX12_away_6 : decode cX12_away 6 = .ok (.ifCond .ne 10, 3) := do_154 (rdb (p := 0) (i := 6) ch_cX12_away_0 rfl) (rdb (p := 0) (i := 7) ch_cX12_away_0 rfl) (rdb (p := 0) (i := 8) ch_cX12_away_0 rfl) (by decide +kernel)
theorem dX12_away_9 : decode cX12_away 9 = .ok (.aload_n 0, 1) := do_42 (rdb (p := 0) (i := 9) ch_cX12_away_0 rfl)
theorem dX12_away_10 : decode cX12_away 10 = .ok (.ldc 103, 2) := do_18 (rdb (p := 0) (i := 10) ch_cX12_away_0 rfl) (rdb (p := 0) (i := 11) ch_cX12_away_0 rfl)
theorem dX12_away_12 : decode cX12_away 12 = .ok (.invokevirtual 104, 3) := do_182 (rdb (p := 0) (i := 12) ch_cX12_away_0 rfl) (rdb (p := 0) (i := 13) ch_cX12_away_0 rfl) (rdb (p := 0) (i := 14) ch_cX12_away_0 rfl) rfl
theorem dX12_away_15 : decode cX12_away 15 = .ok (.ireturn, 1) := do_172 (rdb (p := 0) (i := 15) ch_cX12_away_0 rfl)
theorem dX12_away_16 : decode cX12_away 16 = .ok (.aload_n 0, 1) := do_42 (rdb (p := 0) (i := 16) ch_cX12_away_0 rfl)
theorem dX12_away_17 : decode cX12_away 17 = .ok (.getfield 9, 3) := do_180 (rdb (p := 0) (i := 17) ch_cX12_away_0 rfl) (rdb (p := 0) (i := 18) ch_cX12_away_0 rfl) (rdb (p := 0) (i := 19) ch_cX12_away_0 rfl) rfl
theorem dX12_away_20 : decode cX12_away 20 = .ok (.aload_n 0, 1) := do_42 (rdb (p := 0) (i := 20) ch_cX12_away_0 rfl)
theorem dX12_away_21 : decode cX12_away 21 = .ok (.iload_n 1, 1) := do_27 (rdb (p := 0) (i := 21) ch_cX12_away_0 rfl)
theorem dX12_away_22 : decode cX12_away 22 = .ok (.invokevirtual 89, 3) := do_182 (rdb (p := 0) (i := 22) ch_cX12_away_0 rfl) (rdb (p := 0) (i := 23) ch_cX12_away_0 rfl) (rdb (p := 0) (i := 24) ch_cX12_away_0 rfl) rfl
theorem dX12_away_25 : decode cX12_away 25 = .ok (.iconst 1, 1) := do_4 (rdb (p := 0) (i := 25) ch_cX12_away_0 rfl)
theorem dX12_away_26 : decode cX12_away 26 = .ok (.iadd, 1) := do_96 (rdb (p := 0) (i := 26) ch_cX12_away_0 rfl)
theorem dX12_away_27 : decode cX12_away 27 = .ok (.iaload, 1) := do_46 (rdb (p := 0) (i := 27) ch_cX12_away_0 rfl)
theorem dX12_away_28 : decode cX12_away 28 = .ok (.ifCond .ge 12, 3) := do_156 (rdb (p := 0) (i := 28) ch_cX12_away_0 rfl) (rdb (p := 0) (i := 29) ch_cX12_away_0 rfl) (rdb (p := 0) (i := 30) ch_cX12_away_0 rfl) (by decide +kernel)
theorem dX12_away_31 : decode cX12_away 31 = .ok (.aload_n 0, 1) := do_42 (rdb (p := 0) (i := 31) ch_cX12_away_0 rfl)
theorem ch_cX12_away_32 : (cX12_away.data.toList.drop 32).take 36 = [18, 110, 182, 0, 104, 167, 0, 15, 42, 42, 27, 182, 0, 89, 4, 96, 2, 182, 0, 124, 172] := by decide +kernel
theorem dX12_away_32 : decode cX12_away 32 = .ok (.ldc 110, 2) := do_18 (rdb (p := 32) (i := 0) ch_cX12_away_32 rfl) (rdb (p := 32) (i := 1) ch_cX12_away_32 rfl)
theorem dX12_away_34 : decode cX12_away 34 = .ok (.invokevirtual 104, 3) := do_182 (rdb (p := 32) (i := 2) ch_cX12_away_32 rfl) (rdb (p := 32) (i := 3) ch_cX12_away_32 rfl) (rdb (p := 32) (i := 4) ch_cX12_away_32 rfl) rfl
theorem dX12_away_37 : decode cX12_away 37 = .ok (.goto 15, 3) := do_167 (rdb (p := 32) (i := 5) ch_cX12_away_32 rfl) (rdb (p := 32) (i := 6) ch_cX12_away_32 rfl) (rdb (p := 32) (i := 7) ch_cX12_away_32 rfl) (by decide +kernel)
theorem dX12_away_40 : decode cX12_away 40 = .ok (.aload_n 0, 1) := do_42 (rdb (p := 32) (i := 8) ch_cX12_away_32 rfl)
theorem dX12_away_41 : decode cX12_away 41 = .ok (.aload_n 0, 1) := do_42 (rdb (p := 32) (i := 9) ch_cX12_away_32 rfl)
theorem dX12_away_42 : decode cX12_away 42 = .ok (.iload_n 1, 1) := do_27 (rdb (p := 32) (i := 10) ch_cX12_away_32 rfl)
theorem dX12_away_43 : decode cX12_away 43 = .ok (.invokevirtual 89, 3) := do_182 (rdb (p := 32) (i := 11) ch_cX12_away_32 rfl) (rdb (p := 32) (i := 12) ch_cX12_away_32 rfl) (rdb (p := 32) (i := 13) ch_cX12_away_32 rfl) rfl
theorem dX12_away_46 : decode cX12_away 46 = .ok (.iconst 1, 1) := do_4 (rdb (p := 32) (i := 14) ch_cX12_away_32 rfl)
theorem dX12_away_47 : decode cX12_away 47 = .ok (.iadd, 1) := do_96 (rdb (p := 32) (i := 15) ch_cX12_away_32 rfl)
theorem dX12_away_48 : decode cX12_away 48 = .ok (.iconst (-1), 1) := do_2 (rdb (p := 32) (i := 16) ch_cX12_away_32 rfl)
theorem dX12_away_49 : decode cX12_away 49 = .ok (.invokevirtual 124, 3) := do_182 (rdb (p := 32) (i := 17) ch_cX12_away_32 rfl) (rdb (p := 32) (i := 18) ch_cX12_away_32 rfl) (rdb (p := 32) (i := 19) ch_cX12_away_32 rfl) rfl
theorem dX12_away_52 : decode cX12_away 52 = .ok (.ireturn, 1) := do_172 (rdb (p := 32) (i := 20) ch_cX12_away_32 rfl)
theorem dX12_ears_0 : decode cX12_ears 0 = .ok (.aload_n 0, 1) := by decide +kernel
theorem dX12_ears_1 : decode cX12_ears 1 = .ok (.iload_n 1, 1) := by decide +kernel
theorem dX12_ears_2 : decode cX12_ears 2 = .ok (.invokevirtual 137, 3) := by decide +kernel
theorem dX12_ears_5 : decode cX12_ears 5 = .ok (.bipush 6, 2) := by decide +kernel
theorem dX12_ears_7 : decode cX12_ears 7 = .ok (.if_icmp .ne 7, 3) := by decide +kernel
theorem dX12_ears_10 : decode cX12_ears 10 = .ok (.iconst 5, 1) := by decide +kernel
theorem dX12_ears_11 : decode cX12_ears 11 = .ok (.goto 5, 3) := by decide +kernel
theorem dX12_ears_14 : decode cX12_ears 14 = .ok (.bipush 9, 2) := by decide +kernel
theorem dX12_ears_16 : decode cX12_ears 16 = .ok (.ireturn, 1) := by decide +kernel
theorem dX12_face_0 : decode cX12_face 0 = .ok (.aload_n 0, 1) := by decide +kernel
theorem dX12_face_1 : decode cX12_face 1 = .ok (.iload_n 1, 1) := by decide +kernel
theorem dX12_face_2 : decode cX12_face 2 = .ok (.iconst 2, 1) := by decide +kernel
theorem dX12_face_3 : decode cX12_face 3 = .ok (.invokevirtual 116, 3) := by decide +kernel
theorem dX12_face_6 : decode cX12_face 6 = .ok (.ifCond .eq 25, 3) := by decide +kernel
theorem dX12_face_9 : decode cX12_face 9 = .ok (.iload_n 2, 1) := by decide +kernel
theorem dX12_face_10 : decode cX12_face 10 = .ok (.invokestatic 120, 3) := by decide +kernel
theorem dX12_face_13 : decode cX12_face 13 = .ok (.ifCond .eq 18, 3) := by decide +kernel
theorem dX12_face_16 : decode cX12_face 16 = .ok (.aload_n 0, 1) := by decide +kernel
theorem dX12_face_17 : decode cX12_face 17 = .ok (.aload_n 0, 1) := by decide +kernel
theorem dX12_face_18 : decode cX12_face 18 = .ok (.iload_n 1, 1) := by decide +kernel
theorem dX12_face_19 : decode cX12_face 19 = .ok (.invokevirtual 93, 3) := by decide +kernel
theorem dX12_face_22 : decode cX12_face 22 = .ok (.iconst 2, 1) := by decide +kernel
theorem dX12_face_23 : decode cX12_face 23 = .ok (.iadd, 1) := by decide +kernel
theorem dX12_face_24 : decode cX12_face 24 = .ok (.iload_n 2, 1) := by decide +kernel
theorem dX12_face_25 : decode cX12_face 25 = .ok (.invokevirtual 124, 3) := by decide +kernel
theorem dX12_face_28 : decode cX12_face 28 = .ok (.goto 9, 3) := by decide +kernel
theorem dX12_face_31 : decode cX12_face 31 = .ok (.aload_n 0, 1) := by decide +kernel
theorem dX12_face_32 : decode cX12_face 32 = .ok (.ldc 103, 2) := by decide +kernel
theorem dX12_face_34 : decode cX12_face 34 = .ok (.invokevirtual 104, 3) := by decide +kernel
theorem dX12_face_37 : decode cX12_face 37 = .ok (.ireturn, 1) := by decide +kernel
theorem ch_cX12_feed_0 : (cX12_feed.data.toList.drop 0).take 36 = [29, 4, 16, 8, 184, 0, 85, 154, 0, 10, 42, 18, 103, 182, 0, 104, 172, 42, 180, 0, 9, 7, 46, 29, 96, 16, 48, 164, 0, 10, 42, 18, 111, 182, 0, 104] := by decide +kernel
theorem dX12_feed_0 : decode cX12_feed 0 = .ok (.iload_n 3, 1) := do_29 (rdb (p := 0) (i := 0) ch_cX12_feed_0 rfl)
theorem dX12_feed_1 : decode cX12_feed 1 = .ok (.iconst 1, 1) := do_4 (rdb (p := 0) (i := 1) ch_cX12_feed_0 rfl)
theorem dX12_feed_2 : decode cX12_feed 2 = .ok (.bipush 8, 2) := do_16 (rdb (p := 0) (i := 2) ch_cX12_feed_0 rfl) (rdb (p := 0) (i := 3) ch_cX12_feed_0 rfl) (by decide +kernel)
theorem dX12_feed_4 : decode cX12_feed 4 = .ok (.invokestatic 85, 3) := do_184 (rdb (p := 0) (i := 4) ch_cX12_feed_0 rfl) (rdb (p := 0) (i := 5) ch_cX12_feed_0 rfl) (rdb (p := 0) (i := 6) ch_cX12_feed_0 rfl) rfl
theorem dX12_feed_7 : decode cX12_feed 7 = .ok (.ifCond .ne 10, 3) := do_154 (rdb (p := 0) (i := 7) ch_cX12_feed_0 rfl) (rdb (p := 0) (i := 8) ch_cX12_feed_0 rfl) (rdb (p := 0) (i := 9) ch_cX12_feed_0 rfl) (by decide +kernel)
theorem dX12_feed_10 : decode cX12_feed 10 = .ok (.aload_n 0, 1) := do_42 (rdb (p := 0) (i := 10) ch_cX12_feed_0 rfl)
theorem dX12_feed_11 : decode cX12_feed 11 = .ok (.ldc 103, 2) := do_18 (rdb (p := 0) (i := 11) ch_cX12_feed_0 rfl) (rdb (p := 0) (i := 12) ch_cX12_feed_0 rfl)
theorem dX12_feed_13 : decode cX12_feed 13 = .ok (.invokevirtual 104, 3) := do_182 (rdb (p := 0) (i := 13) ch_cX12_feed_0 rfl) (rdb (p := 0) (i := 14) ch_cX12_feed_0 rfl) (rdb (p := 0) (i := 15) ch_cX12_feed_0 rfl) rfl
theorem dX12_feed_16 : decode cX12_feed 16 = .ok (.ireturn, 1) := do_172 (rdb (p := 0) (i := 16) ch_cX12_feed_0 rfl)
theorem dX12_feed_17 : decode cX12_feed 17 = .ok (.aload_n 0, 1) := do_42 (rdb (p := 0) (i := 17) ch_cX12_feed_0 rfl)
theorem dX12_feed_18 : decode cX12_feed 18 = .ok (.getfield 9, 3) := do_180 (rdb (p := 0) (i := 18) ch_cX12_feed_0 rfl) (rdb (p := 0) (i := 19) ch_cX12_feed_0 rfl) (rdb (p := 0) (i := 20) ch_cX12_feed_0 rfl) rfl
theorem dX12_feed_21 : decode cX12_feed 21 = .ok (.iconst 4, 1) := do_7 (rdb (p := 0) (i := 21) ch_cX12_feed_0 rfl)
theorem dX12_feed_22 : decode cX12_feed 22 = .ok (.iaload, 1) := do_46 (rdb (p := 0) (i := 22) ch_cX12_feed_0 rfl)
theorem dX12_feed_23 : decode cX12_feed 23 = .ok (.iload_n 3, 1) := do_29 (rdb (p := 0) (i := 23) ch_cX12_feed_0 rfl)
theorem dX12_feed_24 : decode cX12_feed 24 = .ok (.iadd, 1) := do_96 (rdb (p := 0) (i := 24) ch_cX12_feed_0 rfl)
theorem dX12_feed_25 : decode cX12_feed 25 = .ok (.bipush 48, 2) := do_16 (rdb (p := 0) (i := 25) ch_cX12_feed_0 rfl) (rdb (p := 0) (i := 26) ch_cX12_feed_0 rfl) (by decide +kernel)
theorem dX12_feed_27 : decode cX12_feed 27 = .ok (.if_icmp .le 10, 3) := do_164 (rdb (p := 0) (i := 27) ch_cX12_feed_0 rfl) (rdb (p := 0) (i := 28) ch_cX12_feed_0 rfl) (rdb (p := 0) (i := 29) ch_cX12_feed_0 rfl) (by decide +kernel)
theorem dX12_feed_30 : decode cX12_feed 30 = .ok (.aload_n 0, 1) := do_42 (rdb (p := 0) (i := 30) ch_cX12_feed_0 rfl)
theorem dX12_feed_31 : decode cX12_feed 31 = .ok (.ldc 111, 2) := do_18 (rdb (p := 0) (i := 31) ch_cX12_feed_0 rfl) (rdb (p := 0) (i := 32) ch_cX12_feed_0 rfl)
theorem ch_cX12_feed_32 : (cX12_feed.data.toList.drop 32).take 36 = [111, 182, 0, 104, 172, 3, 54, 4, 21, 4, 29, 162, 0, 46, 42, 180, 0, 9, 17, 1, 17, 42, 180, 0, 9, 7, 46, 96, 31, 16, 8, 21, 4, 104, 123, 20] := by decide +kernel
theorem dX12_feed_33 : decode cX12_feed 33 = .ok (.invokevirtual 104, 3) := do_182 (rdb (p := 32) (i := 1) ch_cX12_feed_32 rfl) (rdb (p := 32) (i := 2) ch_cX12_feed_32 rfl) (rdb (p := 32) (i := 3) ch_cX12_feed_32 rfl) rfl
theorem dX12_feed_36 : decode cX12_feed 36 = .ok (.ireturn, 1) := do_172 (rdb (p := 32) (i := 4) ch_cX12_feed_32 rfl)
theorem dX12_feed_37 : decode cX12_feed 37 = .ok (.iconst 0, 1) := do_3 (rdb (p := 32) (i := 5) ch_cX12_feed_32 rfl)
theorem dX12_feed_38 : decode cX12_feed 38 = .ok (.istore 4, 2) := do_54 (rdb (p := 32) (i := 6) ch_cX12_feed_32 rfl) (rdb (p := 32) (i := 7) ch_cX12_feed_32 rfl)
theorem dX12_feed_40 : decode cX12_feed 40 = .ok (.iload 4, 2) := do_21 (rdb (p := 32) (i := 8) ch_cX12_feed_32 rfl) (rdb (p := 32) (i := 9) ch_cX12_feed_32 rfl)
theorem dX12_feed_42 : decode cX12_feed 42 = .ok (.iload_n 3, 1) := do_29 (rdb (p := 32) (i := 10) ch_cX12_feed_32 rfl)
theorem dX12_feed_43 : decode cX12_feed 43 = .ok (.if_icmp .ge 46, 3) := do_162 (rdb (p := 32) (i := 11) ch_cX12_feed_32 rfl) (rdb (p := 32) (i := 12) ch_cX12_feed_32 rfl) (rdb (p := 32) (i := 13) ch_cX12_feed_32 rfl) (by decide +kernel)
theorem dX12_feed_46 : decode cX12_feed 46 = .ok (.aload_n 0, 1) := do_42 (rdb (p := 32) (i := 14) ch_cX12_feed_32 rfl)
theorem dX12_feed_47 : decode cX12_feed 47 = .ok (.getfield 9, 3) := do_180 (rdb (p := 32) (i := 15) ch_cX12_feed_32 rfl) (rdb (p := 32) (i := 16) ch_cX12_feed_32 rfl) (rdb (p := 32) (i := 17) ch_cX12_feed_32 rfl) rfl
theorem dX12_feed_50 : decode cX12_feed 50 = .ok (.sipush 273, 3) := do_17 (rdb (p := 32) (i := 18) ch_cX12_feed_32 rfl) (rdb (p := 32) (i := 19) ch_cX12_feed_32 rfl) (rdb (p := 32) (i := 20) ch_cX12_feed_32 rfl) (by decide +kernel)
theorem dX12_feed_53 : decode cX12_feed 53 = .ok (.aload_n 0, 1) := do_42 (rdb (p := 32) (i := 21) ch_cX12_feed_32 rfl)
theorem dX12_feed_54 : decode cX12_feed 54 = .ok (.getfield 9, 3) := do_180 (rdb (p := 32) (i := 22) ch_cX12_feed_32 rfl) (rdb (p := 32) (i := 23) ch_cX12_feed_32 rfl) (rdb (p := 32) (i := 24) ch_cX12_feed_32 rfl) rfl
theorem dX12_feed_57 : decode cX12_feed 57 = .ok (.iconst 4, 1) := do_7 (rdb (p := 32) (i := 25) ch_cX12_feed_32 rfl)
theorem dX12_feed_58 : decode cX12_feed 58 = .ok (.iaload, 1) := do_46 (rdb (p := 32) (i := 26) ch_cX12_feed_32 rfl)
theorem dX12_feed_59 : decode cX12_feed 59 = .ok (.iadd, 1) := do_96 (rdb (p := 32) (i := 27) ch_cX12_feed_32 rfl)
theorem dX12_feed_60 : decode cX12_feed 60 = .ok (.lload_n 1, 1) := do_31 (rdb (p := 32) (i := 28) ch_cX12_feed_32 rfl)
theorem dX12_feed_61 : decode cX12_feed 61 = .ok (.bipush 8, 2) := do_16 (rdb (p := 32) (i := 29) ch_cX12_feed_32 rfl) (rdb (p := 32) (i := 30) ch_cX12_feed_32 rfl) (by decide +kernel)
theorem dX12_feed_63 : decode cX12_feed 63 = .ok (.iload 4, 2) := do_21 (rdb (p := 32) (i := 31) ch_cX12_feed_32 rfl) (rdb (p := 32) (i := 32) ch_cX12_feed_32 rfl)
theorem ch_cX12_feed_64 : (cX12_feed.data.toList.drop 64).take 36 = [4, 104, 123, 20, 0, 149, 127, 136, 79, 42, 180, 0, 9, 7, 92, 46, 4, 96, 79, 132, 4, 1, 167, 255, 210, 42, 180, 0, 9, 7, 46, 172] := by decide +kernel
theorem dX12_feed_65 : decode cX12_feed 65 = .ok (.imul, 1) := do_104 (rdb (p := 64) (i := 1) ch_cX12_feed_64 rfl)
theorem dX12_feed_66 : decode cX12_feed 66 = .ok (.lshr, 1) := do_123 (rdb (p := 64) (i := 2) ch_cX12_feed_64 rfl)
theorem dX12_feed_67 : decode cX12_feed 67 = .ok (.ldc2_w 149, 3) := do_20 (rdb (p := 64) (i := 3) ch_cX12_feed_64 rfl) (rdb (p := 64) (i := 4) ch_cX12_feed_64 rfl) (rdb (p := 64) (i := 5) ch_cX12_feed_64 rfl) rfl
theorem dX12_feed_70 : decode cX12_feed 70 = .ok (.land, 1) := do_127 (rdb (p := 64) (i := 6) ch_cX12_feed_64 rfl)
theorem dX12_feed_71 : decode cX12_feed 71 = .ok (.l2i, 1) := do_136 (rdb (p := 64) (i := 7) ch_cX12_feed_64 rfl)
theorem dX12_feed_72 : decode cX12_feed 72 = .ok (.iastore, 1) := do_79 (rdb (p := 64) (i := 8) ch_cX12_feed_64 rfl)
theorem dX12_feed_73 : decode cX12_feed 73 = .ok (.aload_n 0, 1) := do_42 (rdb (p := 64) (i := 9) ch_cX12_feed_64 rfl)
theorem dX12_feed_74 : decode cX12_feed 74 = .ok (.getfield 9, 3) := do_180 (rdb (p := 64) (i := 10) ch_cX12_feed_64 rfl) (rdb (p := 64) (i := 11) ch_cX12_feed_64 rfl) (rdb (p := 64) (i := 12) ch_cX12_feed_64 rfl) rfl
theorem dX12_feed_77 : decode cX12_feed 77 = .ok (.iconst 4, 1) := do_7 (rdb (p := 64) (i := 13) ch_cX12_feed_64 rfl)
theorem dX12_feed_78 : decode cX12_feed 78 = .ok (.dup2, 1) := do_92 (rdb (p := 64) (i := 14) ch_cX12_feed_64 rfl)
theorem dX12_feed_79 : decode cX12_feed 79 = .ok (.iaload, 1) := do_46 (rdb (p := 64) (i := 15) ch_cX12_feed_64 rfl)
theorem dX12_feed_80 : decode cX12_feed 80 = .ok (.iconst 1, 1) := do_4 (rdb (p := 64) (i := 16) ch_cX12_feed_64 rfl)
theorem dX12_feed_81 : decode cX12_feed 81 = .ok (.iadd, 1) := do_96 (rdb (p := 64) (i := 17) ch_cX12_feed_64 rfl)
theorem dX12_feed_82 : decode cX12_feed 82 = .ok (.iastore, 1) := do_79 (rdb (p := 64) (i := 18) ch_cX12_feed_64 rfl)
theorem dX12_feed_83 : decode cX12_feed 83 = .ok (.iinc 4 1, 3) := do_132 (rdb (p := 64) (i := 19) ch_cX12_feed_64 rfl) (rdb (p := 64) (i := 20) ch_cX12_feed_64 rfl) (rdb (p := 64) (i := 21) ch_cX12_feed_64 rfl) (by decide +kernel)
theorem dX12_feed_86 : decode cX12_feed 86 = .ok (.goto (-46), 3) := do_167 (rdb (p := 64) (i := 22) ch_cX12_feed_64 rfl) (rdb (p := 64) (i := 23) ch_cX12_feed_64 rfl) (rdb (p := 64) (i := 24) ch_cX12_feed_64 rfl) (by decide +kernel)
theorem dX12_feed_89 : decode cX12_feed 89 = .ok (.aload_n 0, 1) := do_42 (rdb (p := 64) (i := 25) ch_cX12_feed_64 rfl)
theorem dX12_feed_90 : decode cX12_feed 90 = .ok (.getfield 9, 3) := do_180 (rdb (p := 64) (i := 26) ch_cX12_feed_64 rfl) (rdb (p := 64) (i := 27) ch_cX12_feed_64 rfl) (rdb (p := 64) (i := 28) ch_cX12_feed_64 rfl) rfl
theorem dX12_feed_93 : decode cX12_feed 93 = .ok (.iconst 4, 1) := do_7 (rdb (p := 64) (i := 29) ch_cX12_feed_64 rfl)
theorem dX12_feed_94 : decode cX12_feed 94 = .ok (.iaload, 1) := do_46 (rdb (p := 64) (i := 30) ch_cX12_feed_64 rfl)
theorem dX12_feed_95 : decode cX12_feed 95 = .ok (.ireturn, 1) := do_172 (rdb (p := 64) (i := 31) ch_cX12_feed_64 rfl)
theorem dX12_goes_0 : decode cX12_goes 0 = .ok (.aload_n 0, 1) := by decide +kernel
theorem dX12_goes_1 : decode cX12_goes 1 = .ok (.iload_n 1, 1) := by decide +kernel
theorem dX12_goes_2 : decode cX12_goes 2 = .ok (.iconst 2, 1) := by decide +kernel
theorem dX12_goes_3 : decode cX12_goes 3 = .ok (.invokevirtual 116, 3) := by decide +kernel
theorem dX12_goes_6 : decode cX12_goes 6 = .ok (.ifCond .eq 27, 3) := by decide +kernel
theorem dX12_goes_9 : decode cX12_goes 9 = .ok (.aload_n 0, 1) := by decide +kernel
theorem dX12_goes_10 : decode cX12_goes 10 = .ok (.aload_n 0, 1) := by decide +kernel
theorem dX12_goes_11 : decode cX12_goes 11 = .ok (.iload_n 1, 1) := by decide +kernel
theorem dX12_goes_12 : decode cX12_goes 12 = .ok (.invokevirtual 93, 3) := by decide +kernel
theorem dX12_goes_15 : decode cX12_goes 15 = .ok (.bipush 6, 2) := by decide +kernel
theorem dX12_goes_17 : decode cX12_goes 17 = .ok (.iadd, 1) := by decide +kernel
theorem dX12_goes_18 : decode cX12_goes 18 = .ok (.iload_n 2, 1) := by decide +kernel
theorem dX12_goes_19 : decode cX12_goes 19 = .ok (.ifCond .eq 7, 3) := by decide +kernel
theorem dX12_goes_22 : decode cX12_goes 22 = .ok (.iconst 1, 1) := by decide +kernel
theorem dX12_goes_23 : decode cX12_goes 23 = .ok (.goto 4, 3) := by decide +kernel
theorem dX12_goes_26 : decode cX12_goes 26 = .ok (.iconst 0, 1) := by decide +kernel
theorem dX12_goes_27 : decode cX12_goes 27 = .ok (.invokevirtual 124, 3) := by decide +kernel
theorem dX12_goes_30 : decode cX12_goes 30 = .ok (.goto 9, 3) := by decide +kernel
theorem dX12_goes_33 : decode cX12_goes 33 = .ok (.aload_n 0, 1) := by decide +kernel
theorem dX12_goes_34 : decode cX12_goes 34 = .ok (.ldc 103, 2) := by decide +kernel
theorem dX12_goes_36 : decode cX12_goes 36 = .ok (.invokevirtual 104, 3) := by decide +kernel
theorem dX12_goes_39 : decode cX12_goes 39 = .ok (.ireturn, 1) := by decide +kernel
theorem ch_cX12_habit_0 : (cX12_habit.data.toList.drop 0).take 36 = [42, 27, 5, 182, 0, 116, 153, 0, 34, 28, 4, 16, 9, 184, 0, 85, 153, 0, 24, 29, 4, 16, 99, 184, 0, 85, 153, 0, 14, 21, 4, 3, 16, 30, 184, 0] := by decide +kernel
theorem dX12_habit_0 : decode cX12_habit 0 = .ok (.aload_n 0, 1) := do_42 (rdb (p := 0) (i := 0) ch_cX12_habit_0 rfl)
theorem dX12_habit_1 : decode cX12_habit 1 = .ok (.iload_n 1, 1) := do_27 (rdb (p := 0) (i := 1) ch_cX12_habit_0 rfl)
theorem dX12_habit_2 : decode cX12_habit 2 = .ok (.iconst 2, 1) := do_5 (rdb (p := 0) (i := 2) ch_cX12_habit_0 rfl)
theorem dX12_habit_3 : decode cX12_habit 3 = .ok (.invokevirtual 116, 3) := do_182 (rdb (p := 0) (i := 3) ch_cX12_habit_0 rfl) (rdb (p := 0) (i := 4) ch_cX12_habit_0 rfl) (rdb (p := 0) (i := 5) ch_cX12_habit_0 rfl) rfl
theorem dX12_habit_6 : decode cX12_habit 6 = .ok (.ifCond .eq 34, 3) := do_153 (rdb (p := 0) (i := 6) ch_cX12_habit_0 rfl) (rdb (p := 0) (i := 7) ch_cX12_habit_0 rfl) (rdb (p := 0) (i := 8) ch_cX12_habit_0 rfl) (by decide +kernel)
theorem dX12_habit_9 : decode cX12_habit 9 = .ok (.iload_n 2, 1) := do_28 (rdb (p := 0) (i := 9) ch_cX12_habit_0 rfl)
theorem dX12_habit_10 : decode cX12_habit 10 = .ok (.iconst 1, 1) := do_4 (rdb (p := 0) (i := 10) ch_cX12_habit_0 rfl)
theorem dX12_habit_11 : decode cX12_habit 11 = .ok (.bipush 9, 2) := do_16 (rdb (p := 0) (i := 11) ch_cX12_habit_0 rfl) (rdb (p := 0) (i := 12) ch_cX12_habit_0 rfl) (by decide +kernel)
theorem dX12_habit_13 : decode cX12_habit 13 = .ok (.invokestatic 85, 3) := do_184 (rdb (p := 0) (i := 13) ch_cX12_habit_0 rfl) (rdb (p := 0) (i := 14) ch_cX12_habit_0 rfl) (rdb (p := 0) (i := 15) ch_cX12_habit_0 rfl) rfl
theorem dX12_habit_16 : decode cX12_habit 16 = .ok (.ifCond .eq 24, 3) := do_153 (rdb (p := 0) (i := 16) ch_cX12_habit_0 rfl) (rdb (p := 0) (i := 17) ch_cX12_habit_0 rfl) (rdb (p := 0) (i := 18) ch_cX12_habit_0 rfl) (by decide +kernel)
theorem dX12_habit_19 : decode cX12_habit 19 = .ok (.iload_n 3, 1) := do_29 (rdb (p := 0) (i := 19) ch_cX12_habit_0 rfl)
theorem dX12_habit_20 : decode cX12_habit 20 = .ok (.iconst 1, 1) := do_4 (rdb (p := 0) (i := 20) ch_cX12_habit_0 rfl)
theorem dX12_habit_21 : decode cX12_habit 21 = .ok (.bipush 99, 2) := do_16 (rdb (p := 0) (i := 21) ch_cX12_habit_0 rfl) (rdb (p := 0) (i := 22) ch_cX12_habit_0 rfl) (by decide +kernel)
theorem dX12_habit_23 : decode cX12_habit 23 = .ok (.invokestatic 85, 3) := do_184 (rdb (p := 0) (i := 23) ch_cX12_habit_0 rfl) (rdb (p := 0) (i := 24) ch_cX12_habit_0 rfl) (rdb (p := 0) (i := 25) ch_cX12_habit_0 rfl) rfl
theorem dX12_habit_26 : decode cX12_habit 26 = .ok (.ifCond .eq 14, 3) := do_153 (rdb (p := 0) (i := 26) ch_cX12_habit_0 rfl) (rdb (p := 0) (i := 27) ch_cX12_habit_0 rfl) (rdb (p := 0) (i := 28) ch_cX12_habit_0 rfl) (by decide +kernel)
theorem dX12_habit_29 : decode cX12_habit 29 = .ok (.iload 4, 2) := do_21 (rdb (p := 0) (i := 29) ch_cX12_habit_0 rfl) (rdb (p := 0) (i := 30) ch_cX12_habit_0 rfl)
theorem dX12_habit_31 : decode cX12_habit 31 = .ok (.iconst 0, 1) := do_3 (rdb (p := 0) (i := 31) ch_cX12_habit_0 rfl)
theorem ch_cX12_habit_32 : (cX12_habit.data.toList.drop 32).take 36 = [16, 30, 184, 0, 85, 154, 0, 10, 42, 18, 103, 182, 0, 104, 172, 42, 180, 0, 9, 42, 27, 182, 0, 93, 6, 96, 28, 79, 42, 180, 0, 9, 42, 27, 182, 0] := by decide +kernel
theorem dX12_habit_32 : decode cX12_habit 32 = .ok (.bipush 30, 2) := do_16 (rdb (p := 32) (i := 0) ch_cX12_habit_32 rfl) (rdb (p := 32) (i := 1) ch_cX12_habit_32 rfl) (by decide +kernel)
theorem dX12_habit_34 : decode cX12_habit 34 = .ok (.invokestatic 85, 3) := do_184 (rdb (p := 32) (i := 2) ch_cX12_habit_32 rfl) (rdb (p := 32) (i := 3) ch_cX12_habit_32 rfl) (rdb (p := 32) (i := 4) ch_cX12_habit_32 rfl) rfl
theorem dX12_habit_37 : decode cX12_habit 37 = .ok (.ifCond .ne 10, 3) := do_154 (rdb (p := 32) (i := 5) ch_cX12_habit_32 rfl) (rdb (p := 32) (i := 6) ch_cX12_habit_32 rfl) (rdb (p := 32) (i := 7) ch_cX12_habit_32 rfl) (by decide +kernel)
theorem dX12_habit_40 : decode cX12_habit 40 = .ok (.aload_n 0, 1) := do_42 (rdb (p := 32) (i := 8) ch_cX12_habit_32 rfl)
theorem dX12_habit_41 : decode cX12_habit 41 = .ok (.ldc 103, 2) := do_18 (rdb (p := 32) (i := 9) ch_cX12_habit_32 rfl) (rdb (p := 32) (i := 10) ch_cX12_habit_32 rfl)
theorem dX12_habit_43 : decode cX12_habit 43 = .ok (.invokevirtual 104, 3) := do_182 (rdb (p := 32) (i := 11) ch_cX12_habit_32 rfl) (rdb (p := 32) (i := 12) ch_cX12_habit_32 rfl) (rdb (p := 32) (i := 13) ch_cX12_habit_32 rfl) rfl
theorem dX12_habit_46 : decode cX12_habit 46 = .ok (.ireturn, 1) := do_172 (rdb (p := 32) (i := 14) ch_cX12_habit_32 rfl)
theorem dX12_habit_47 : decode cX12_habit 47 = .ok (.aload_n 0, 1) := do_42 (rdb (p := 32) (i := 15) ch_cX12_habit_32 rfl)
theorem dX12_habit_48 : decode cX12_habit 48 = .ok (.getfield 9, 3) := do_180 (rdb (p := 32) (i := 16) ch_cX12_habit_32 rfl) (rdb (p := 32) (i := 17) ch_cX12_habit_32 rfl) (rdb (p := 32) (i := 18) ch_cX12_habit_32 rfl) rfl
theorem dX12_habit_51 : decode cX12_habit 51 = .ok (.aload_n 0, 1) := do_42 (rdb (p := 32) (i := 19) ch_cX12_habit_32 rfl)
theorem dX12_habit_52 : decode cX12_habit 52 = .ok (.iload_n 1, 1) := do_27 (rdb (p := 32) (i := 20) ch_cX12_habit_32 rfl)
theorem dX12_habit_53 : decode cX12_habit 53 = .ok (.invokevirtual 93, 3) := do_182 (rdb (p := 32) (i := 21) ch_cX12_habit_32 rfl) (rdb (p := 32) (i := 22) ch_cX12_habit_32 rfl) (rdb (p := 32) (i := 23) ch_cX12_habit_32 rfl) rfl
theorem dX12_habit_56 : decode cX12_habit 56 = .ok (.iconst 3, 1) := do_6 (rdb (p := 32) (i := 24) ch_cX12_habit_32 rfl)
theorem dX12_habit_57 : decode cX12_habit 57 = .ok (.iadd, 1) := do_96 (rdb (p := 32) (i := 25) ch_cX12_habit_32 rfl)
theorem dX12_habit_58 : decode cX12_habit 58 = .ok (.iload_n 2, 1) := do_28 (rdb (p := 32) (i := 26) ch_cX12_habit_32 rfl)
theorem dX12_habit_59 : decode cX12_habit 59 = .ok (.iastore, 1) := do_79 (rdb (p := 32) (i := 27) ch_cX12_habit_32 rfl)
theorem dX12_habit_60 : decode cX12_habit 60 = .ok (.aload_n 0, 1) := do_42 (rdb (p := 32) (i := 28) ch_cX12_habit_32 rfl)
theorem dX12_habit_61 : decode cX12_habit 61 = .ok (.getfield 9, 3) := do_180 (rdb (p := 32) (i := 29) ch_cX12_habit_32 rfl) (rdb (p := 32) (i := 30) ch_cX12_habit_32 rfl) (rdb (p := 32) (i := 31) ch_cX12_habit_32 rfl) rfl
theorem ch_cX12_habit_64 : (cX12_habit.data.toList.drop 64).take 36 = [42, 27, 182, 0, 93, 7, 96, 29, 79, 42, 180, 0, 9, 42, 27, 182, 0, 93, 8, 96, 21, 4, 79, 4, 172] := by decide +kernel
theorem dX12_habit_64 : decode cX12_habit 64 = .ok (.aload_n 0, 1) := do_42 (rdb (p := 64) (i := 0) ch_cX12_habit_64 rfl)
theorem dX12_habit_65 : decode cX12_habit 65 = .ok (.iload_n 1, 1) := do_27 (rdb (p := 64) (i := 1) ch_cX12_habit_64 rfl)
theorem dX12_habit_66 : decode cX12_habit 66 = .ok (.invokevirtual 93, 3) := do_182 (rdb (p := 64) (i := 2) ch_cX12_habit_64 rfl) (rdb (p := 64) (i := 3) ch_cX12_habit_64 rfl) (rdb (p := 64) (i := 4) ch_cX12_habit_64 rfl) rfl
theorem dX12_habit_69 : decode cX12_habit 69 = .ok (.iconst 4, 1) := do_7 (rdb (p := 64) (i := 5) ch_cX12_habit_64 rfl)
theorem dX12_habit_70 : decode cX12_habit 70 = .ok (.iadd, 1) := do_96 (rdb (p := 64) (i := 6) ch_cX12_habit_64 rfl)
theorem dX12_habit_71 : decode cX12_habit 71 = .ok (.iload_n 3, 1) := do_29 (rdb (p := 64) (i := 7) ch_cX12_habit_64 rfl)
theorem dX12_habit_72 : decode cX12_habit 72 = .ok (.iastore, 1) := do_79 (rdb (p := 64) (i := 8) ch_cX12_habit_64 rfl)
theorem dX12_habit_73 : decode cX12_habit 73 = .ok (.aload_n 0, 1) := do_42 (rdb (p := 64) (i := 9) ch_cX12_habit_64 rfl)
theorem dX12_habit_74 : decode cX12_habit 74 = .ok (.getfield 9, 3) := do_180 (rdb (p := 64) (i := 10) ch_cX12_habit_64 rfl) (rdb (p := 64) (i := 11) ch_cX12_habit_64 rfl) (rdb (p := 64) (i := 12) ch_cX12_habit_64 rfl) rfl
theorem dX12_habit_77 : decode cX12_habit 77 = .ok (.aload_n 0, 1) := do_42 (rdb (p := 64) (i := 13) ch_cX12_habit_64 rfl)
theorem dX12_habit_78 : decode cX12_habit 78 = .ok (.iload_n 1, 1) := do_27 (rdb (p := 64) (i := 14) ch_cX12_habit_64 rfl)
theorem dX12_habit_79 : decode cX12_habit 79 = .ok (.invokevirtual 93, 3) := do_182 (rdb (p := 64) (i := 15) ch_cX12_habit_64 rfl) (rdb (p := 64) (i := 16) ch_cX12_habit_64 rfl) (rdb (p := 64) (i := 17) ch_cX12_habit_64 rfl) rfl
theorem dX12_habit_82 : decode cX12_habit 82 = .ok (.iconst 5, 1) := do_8 (rdb (p := 64) (i := 18) ch_cX12_habit_64 rfl)
theorem dX12_habit_83 : decode cX12_habit 83 = .ok (.iadd, 1) := do_96 (rdb (p := 64) (i := 19) ch_cX12_habit_64 rfl)
theorem dX12_habit_84 : decode cX12_habit 84 = .ok (.iload 4, 2) := do_21 (rdb (p := 64) (i := 20) ch_cX12_habit_64 rfl) (rdb (p := 64) (i := 21) ch_cX12_habit_64 rfl)
theorem dX12_habit_86 : decode cX12_habit 86 = .ok (.iastore, 1) := do_79 (rdb (p := 64) (i := 22) ch_cX12_habit_64 rfl)
theorem dX12_habit_87 : decode cX12_habit 87 = .ok (.iconst 1, 1) := do_4 (rdb (p := 64) (i := 23) ch_cX12_habit_64 rfl)
theorem dX12_habit_88 : decode cX12_habit 88 = .ok (.ireturn, 1) := do_172 (rdb (p := 64) (i := 24) ch_cX12_habit_64 rfl)
theorem dX12_isUnder_0 : decode cX12_isUnder 0 = .ok (.iload_n 0, 1) := by decide +kernel
theorem dX12_isUnder_1 : decode cX12_isUnder 1 = .ok (.istore_n 2, 1) := by decide +kernel
theorem dX12_isUnder_2 : decode cX12_isUnder 2 = .ok (.iload_n 2, 1) := by decide +kernel
theorem dX12_isUnder_3 : decode cX12_isUnder 3 = .ok (.ifCond .lt 16, 3) := by decide +kernel
theorem dX12_isUnder_6 : decode cX12_isUnder 6 = .ok (.iload_n 2, 1) := by decide +kernel
theorem dX12_isUnder_7 : decode cX12_isUnder 7 = .ok (.iload_n 1, 1) := by decide +kernel
theorem dX12_isUnder_8 : decode cX12_isUnder 8 = .ok (.if_icmp .eq 11, 3) := by decide +kernel
theorem dX12_isUnder_11 : decode cX12_isUnder 11 = .ok (.iload_n 2, 1) := by decide +kernel
theorem dX12_isUnder_12 : decode cX12_isUnder 12 = .ok (.invokestatic 131, 3) := by decide +kernel
theorem dX12_isUnder_15 : decode cX12_isUnder 15 = .ok (.istore_n 2, 1) := by decide +kernel
theorem dX12_isUnder_16 : decode cX12_isUnder 16 = .ok (.goto (-14), 3) := by decide +kernel
theorem dX12_isUnder_19 : decode cX12_isUnder 19 = .ok (.iload_n 2, 1) := by decide +kernel
theorem dX12_isUnder_20 : decode cX12_isUnder 20 = .ok (.ifCond .lt 7, 3) := by decide +kernel
theorem dX12_isUnder_23 : decode cX12_isUnder 23 = .ok (.iconst 1, 1) := by decide +kernel
theorem dX12_isUnder_24 : decode cX12_isUnder 24 = .ok (.goto 4, 3) := by decide +kernel
theorem dX12_isUnder_27 : decode cX12_isUnder 27 = .ok (.iconst 0, 1) := by decide +kernel
theorem dX12_isUnder_28 : decode cX12_isUnder 28 = .ok (.ireturn, 1) := by decide +kernel
theorem ch_cX12_kind_0 : (cX12_kind.data.toList.drop 0).take 36 = [27, 3, 7, 184, 0, 85, 153, 0, 31, 28, 3, 4, 184, 0, 85, 153, 0, 22, 29, 3, 28, 154, 0, 8, 16, 99, 167, 0, 5, 16, 9, 184, 0, 85, 154, 0] := by decide +kernel
theorem dX12_kind_0 : decode cX12_kind 0 = .ok (.iload_n 1, 1) := do_27 (rdb (p := 0) (i := 0) ch_cX12_kind_0 rfl)
theorem dX12_kind_1 : decode cX12_kind 1 = .ok (.iconst 0, 1) := do_3 (rdb (p := 0) (i := 1) ch_cX12_kind_0 rfl)
theorem dX12_kind_2 : decode cX12_kind 2 = .ok (.iconst 4, 1) := do_7 (rdb (p := 0) (i := 2) ch_cX12_kind_0 rfl)
theorem dX12_kind_3 : decode cX12_kind 3 = .ok (.invokestatic 85, 3) := do_184 (rdb (p := 0) (i := 3) ch_cX12_kind_0 rfl) (rdb (p := 0) (i := 4) ch_cX12_kind_0 rfl) (rdb (p := 0) (i := 5) ch_cX12_kind_0 rfl) rfl
theorem dX12_kind_6 : decode cX12_kind 6 = .ok (.ifCond .eq 31, 3) := do_153 (rdb (p := 0) (i := 6) ch_cX12_kind_0 rfl) (rdb (p := 0) (i := 7) ch_cX12_kind_0 rfl) (rdb (p := 0) (i := 8) ch_cX12_kind_0 rfl) (by decide +kernel)
theorem dX12_kind_9 : decode cX12_kind 9 = .ok (.iload_n 2, 1) := do_28 (rdb (p := 0) (i := 9) ch_cX12_kind_0 rfl)
theorem dX12_kind_10 : decode cX12_kind 10 = .ok (.iconst 0, 1) := do_3 (rdb (p := 0) (i := 10) ch_cX12_kind_0 rfl)
theorem dX12_kind_11 : decode cX12_kind 11 = .ok (.iconst 1, 1) := do_4 (rdb (p := 0) (i := 11) ch_cX12_kind_0 rfl)
theorem dX12_kind_12 : decode cX12_kind 12 = .ok (.invokestatic 85, 3) := do_184 (rdb (p := 0) (i := 12) ch_cX12_kind_0 rfl) (rdb (p := 0) (i := 13) ch_cX12_kind_0 rfl) (rdb (p := 0) (i := 14) ch_cX12_kind_0 rfl) rfl
theorem dX12_kind_15 : decode cX12_kind 15 = .ok (.ifCond .eq 22, 3) := do_153 (rdb (p := 0) (i := 15) ch_cX12_kind_0 rfl) (rdb (p := 0) (i := 16) ch_cX12_kind_0 rfl) (rdb (p := 0) (i := 17) ch_cX12_kind_0 rfl) (by decide +kernel)
theorem dX12_kind_18 : decode cX12_kind 18 = .ok (.iload_n 3, 1) := do_29 (rdb (p := 0) (i := 18) ch_cX12_kind_0 rfl)
theorem dX12_kind_19 : decode cX12_kind 19 = .ok (.iconst 0, 1) := do_3 (rdb (p := 0) (i := 19) ch_cX12_kind_0 rfl)
theorem dX12_kind_20 : decode cX12_kind 20 = .ok (.iload_n 2, 1) := do_28 (rdb (p := 0) (i := 20) ch_cX12_kind_0 rfl)
theorem dX12_kind_21 : decode cX12_kind 21 = .ok (.ifCond .ne 8, 3) := do_154 (rdb (p := 0) (i := 21) ch_cX12_kind_0 rfl) (rdb (p := 0) (i := 22) ch_cX12_kind_0 rfl) (rdb (p := 0) (i := 23) ch_cX12_kind_0 rfl) (by decide +kernel)
theorem dX12_kind_24 : decode cX12_kind 24 = .ok (.bipush 99, 2) := do_16 (rdb (p := 0) (i := 24) ch_cX12_kind_0 rfl) (rdb (p := 0) (i := 25) ch_cX12_kind_0 rfl) (by decide +kernel)
theorem dX12_kind_26 : decode cX12_kind 26 = .ok (.goto 5, 3) := do_167 (rdb (p := 0) (i := 26) ch_cX12_kind_0 rfl) (rdb (p := 0) (i := 27) ch_cX12_kind_0 rfl) (rdb (p := 0) (i := 28) ch_cX12_kind_0 rfl) (by decide +kernel)
theorem dX12_kind_29 : decode cX12_kind 29 = .ok (.bipush 9, 2) := do_16 (rdb (p := 0) (i := 29) ch_cX12_kind_0 rfl) (rdb (p := 0) (i := 30) ch_cX12_kind_0 rfl) (by decide +kernel)
theorem dX12_kind_31 : decode cX12_kind 31 = .ok (.invokestatic 85, 3) := do_184 (rdb (p := 0) (i := 31) ch_cX12_kind_0 rfl) (rdb (p := 0) (i := 32) ch_cX12_kind_0 rfl) (rdb (p := 0) (i := 33) ch_cX12_kind_0 rfl) rfl
theorem ch_cX12_kind_32 : (cX12_kind.data.toList.drop 32).take 36 = [0, 85, 154, 0, 10, 42, 18, 103, 182, 0, 104, 172, 42, 28, 154, 0, 8, 16, 9, 167, 0, 5, 16, 14, 27, 96, 29, 182, 0, 124, 172] := by decide +kernel
theorem dX12_kind_34 : decode cX12_kind 34 = .ok (.ifCond .ne 10, 3) := do_154 (rdb (p := 32) (i := 2) ch_cX12_kind_32 rfl) (rdb (p := 32) (i := 3) ch_cX12_kind_32 rfl) (rdb (p := 32) (i := 4) ch_cX12_kind_32 rfl) (by decide +kernel)
theorem dX12_kind_37 : decode cX12_kind 37 = .ok (.aload_n 0, 1) := do_42 (rdb (p := 32) (i := 5) ch_cX12_kind_32 rfl)
theorem dX12_kind_38 : decode cX12_kind 38 = .ok (.ldc 103, 2) := do_18 (rdb (p := 32) (i := 6) ch_cX12_kind_32 rfl) (rdb (p := 32) (i := 7) ch_cX12_kind_32 rfl)
theorem dX12_kind_40 : decode cX12_kind 40 = .ok (.invokevirtual 104, 3) := do_182 (rdb (p := 32) (i := 8) ch_cX12_kind_32 rfl) (rdb (p := 32) (i := 9) ch_cX12_kind_32 rfl) (rdb (p := 32) (i := 10) ch_cX12_kind_32 rfl) rfl
theorem dX12_kind_43 : decode cX12_kind 43 = .ok (.ireturn, 1) := do_172 (rdb (p := 32) (i := 11) ch_cX12_kind_32 rfl)
theorem dX12_kind_44 : decode cX12_kind 44 = .ok (.aload_n 0, 1) := do_42 (rdb (p := 32) (i := 12) ch_cX12_kind_32 rfl)
theorem dX12_kind_45 : decode cX12_kind 45 = .ok (.iload_n 2, 1) := do_28 (rdb (p := 32) (i := 13) ch_cX12_kind_32 rfl)
theorem dX12_kind_46 : decode cX12_kind 46 = .ok (.ifCond .ne 8, 3) := do_154 (rdb (p := 32) (i := 14) ch_cX12_kind_32 rfl) (rdb (p := 32) (i := 15) ch_cX12_kind_32 rfl) (rdb (p := 32) (i := 16) ch_cX12_kind_32 rfl) (by decide +kernel)
theorem dX12_kind_49 : decode cX12_kind 49 = .ok (.bipush 9, 2) := do_16 (rdb (p := 32) (i := 17) ch_cX12_kind_32 rfl) (rdb (p := 32) (i := 18) ch_cX12_kind_32 rfl) (by decide +kernel)
theorem dX12_kind_51 : decode cX12_kind 51 = .ok (.goto 5, 3) := do_167 (rdb (p := 32) (i := 19) ch_cX12_kind_32 rfl) (rdb (p := 32) (i := 20) ch_cX12_kind_32 rfl) (rdb (p := 32) (i := 21) ch_cX12_kind_32 rfl) (by decide +kernel)
theorem dX12_kind_54 : decode cX12_kind 54 = .ok (.bipush 14, 2) := do_16 (rdb (p := 32) (i := 22) ch_cX12_kind_32 rfl) (rdb (p := 32) (i := 23) ch_cX12_kind_32 rfl) (by decide +kernel)
theorem dX12_kind_56 : decode cX12_kind 56 = .ok (.iload_n 1, 1) := do_27 (rdb (p := 32) (i := 24) ch_cX12_kind_32 rfl)
theorem dX12_kind_57 : decode cX12_kind 57 = .ok (.iadd, 1) := do_96 (rdb (p := 32) (i := 25) ch_cX12_kind_32 rfl)
theorem dX12_kind_58 : decode cX12_kind 58 = .ok (.iload_n 3, 1) := do_29 (rdb (p := 32) (i := 26) ch_cX12_kind_32 rfl)
theorem dX12_kind_59 : decode cX12_kind 59 = .ok (.invokevirtual 124, 3) := do_182 (rdb (p := 32) (i := 27) ch_cX12_kind_32 rfl) (rdb (p := 32) (i := 28) ch_cX12_kind_32 rfl) (rdb (p := 32) (i := 29) ch_cX12_kind_32 rfl) rfl
theorem dX12_kind_62 : decode cX12_kind 62 = .ok (.ireturn, 1) := do_172 (rdb (p := 32) (i := 30) ch_cX12_kind_32 rfl)
theorem dX12_kindOf_0 : decode cX12_kindOf 0 = .ok (.aload_n 0, 1) := by decide +kernel
theorem dX12_kindOf_1 : decode cX12_kindOf 1 = .ok (.getfield 9, 3) := by decide +kernel
theorem dX12_kindOf_4 : decode cX12_kindOf 4 = .ok (.aload_n 0, 1) := by decide +kernel
theorem dX12_kindOf_5 : decode cX12_kindOf 5 = .ok (.iload_n 1, 1) := by decide +kernel
theorem dX12_kindOf_6 : decode cX12_kindOf 6 = .ok (.invokevirtual 93, 3) := by decide +kernel
theorem dX12_kindOf_9 : decode cX12_kindOf 9 = .ok (.iconst 0, 1) := by decide +kernel
theorem dX12_kindOf_10 : decode cX12_kindOf 10 = .ok (.iadd, 1) := by decide +kernel
theorem dX12_kindOf_11 : decode cX12_kindOf 11 = .ok (.iaload, 1) := by decide +kernel
theorem dX12_kindOf_12 : decode cX12_kindOf 12 = .ok (.ireturn, 1) := by decide +kernel
theorem ch_cX12_lays_0 : (cX12_lays.data.toList.drop 0).take 36 = [27, 184, 0, 127, 153, 0, 13, 28, 3, 16, 11, 184, 0, 85, 154, 0, 10, 42, 18, 103, 182, 0, 104, 172, 42, 180, 0, 72, 27, 46, 154, 0, 10, 42, 18, 130] := by decide +kernel
theorem dX12_lays_0 : decode cX12_lays 0 = .ok (.iload_n 1, 1) := do_27 (rdb (p := 0) (i := 0) ch_cX12_lays_0 rfl)
theorem dX12_lays_1 : decode cX12_lays 1 = .ok (.invokestatic 127, 3) := do_184 (rdb (p := 0) (i := 1) ch_cX12_lays_0 rfl) (rdb (p := 0) (i := 2) ch_cX12_lays_0 rfl) (rdb (p := 0) (i := 3) ch_cX12_lays_0 rfl) rfl
theorem dX12_lays_4 : decode cX12_lays 4 = .ok (.ifCond .eq 13, 3) := do_153 (rdb (p := 0) (i := 4) ch_cX12_lays_0 rfl) (rdb (p := 0) (i := 5) ch_cX12_lays_0 rfl) (rdb (p := 0) (i := 6) ch_cX12_lays_0 rfl) (by decide +kernel)
theorem dX12_lays_7 : decode cX12_lays 7 = .ok (.iload_n 2, 1) := do_28 (rdb (p := 0) (i := 7) ch_cX12_lays_0 rfl)
theorem dX12_lays_8 : decode cX12_lays 8 = .ok (.iconst 0, 1) := do_3 (rdb (p := 0) (i := 8) ch_cX12_lays_0 rfl)
theorem dX12_lays_9 : decode cX12_lays 9 = .ok (.bipush 11, 2) := do_16 (rdb (p := 0) (i := 9) ch_cX12_lays_0 rfl) (rdb (p := 0) (i := 10) ch_cX12_lays_0 rfl) (by decide +kernel)
theorem dX12_lays_11 : decode cX12_lays 11 = .ok (.invokestatic 85, 3) := do_184 (rdb (p := 0) (i := 11) ch_cX12_lays_0 rfl) (rdb (p := 0) (i := 12) ch_cX12_lays_0 rfl) (rdb (p := 0) (i := 13) ch_cX12_lays_0 rfl) rfl
theorem dX12_lays_14 : decode cX12_lays 14 = .ok (.ifCond .ne 10, 3) := do_154 (rdb (p := 0) (i := 14) ch_cX12_lays_0 rfl) (rdb (p := 0) (i := 15) ch_cX12_lays_0 rfl) (rdb (p := 0) (i := 16) ch_cX12_lays_0 rfl) (by decide +kernel)
theorem dX12_lays_17 : decode cX12_lays 17 = .ok (.aload_n 0, 1) := do_42 (rdb (p := 0) (i := 17) ch_cX12_lays_0 rfl)
theorem dX12_lays_18 : decode cX12_lays 18 = .ok (.ldc 103, 2) := do_18 (rdb (p := 0) (i := 18) ch_cX12_lays_0 rfl) (rdb (p := 0) (i := 19) ch_cX12_lays_0 rfl)
theorem dX12_lays_20 : decode cX12_lays 20 = .ok (.invokevirtual 104, 3) := do_182 (rdb (p := 0) (i := 20) ch_cX12_lays_0 rfl) (rdb (p := 0) (i := 21) ch_cX12_lays_0 rfl) (rdb (p := 0) (i := 22) ch_cX12_lays_0 rfl) rfl
theorem dX12_lays_23 : decode cX12_lays 23 = .ok (.ireturn, 1) := do_172 (rdb (p := 0) (i := 23) ch_cX12_lays_0 rfl)
theorem dX12_lays_24 : decode cX12_lays 24 = .ok (.aload_n 0, 1) := do_42 (rdb (p := 0) (i := 24) ch_cX12_lays_0 rfl)
theorem dX12_lays_25 : decode cX12_lays 25 = .ok (.getfield 72, 3) := do_180 (rdb (p := 0) (i := 25) ch_cX12_lays_0 rfl) (rdb (p := 0) (i := 26) ch_cX12_lays_0 rfl) (rdb (p := 0) (i := 27) ch_cX12_lays_0 rfl) rfl
theorem dX12_lays_28 : decode cX12_lays 28 = .ok (.iload_n 1, 1) := do_27 (rdb (p := 0) (i := 28) ch_cX12_lays_0 rfl)
theorem dX12_lays_29 : decode cX12_lays 29 = .ok (.iaload, 1) := do_46 (rdb (p := 0) (i := 29) ch_cX12_lays_0 rfl)
theorem dX12_lays_30 : decode cX12_lays 30 = .ok (.ifCond .ne 10, 3) := do_154 (rdb (p := 0) (i := 30) ch_cX12_lays_0 rfl) (rdb (p := 0) (i := 31) ch_cX12_lays_0 rfl) (rdb (p := 0) (i := 32) ch_cX12_lays_0 rfl) (by decide +kernel)
theorem ch_cX12_lays_32 : (cX12_lays.data.toList.drop 32).take 36 = [10, 42, 18, 130, 182, 0, 104, 172, 42, 180, 0, 72, 27, 46, 16, 8, 159, 0, 10, 42, 18, 123, 182, 0, 104, 172, 42, 180, 0, 75, 27, 46, 16, 16, 164, 0] := by decide +kernel
theorem dX12_lays_33 : decode cX12_lays 33 = .ok (.aload_n 0, 1) := do_42 (rdb (p := 32) (i := 1) ch_cX12_lays_32 rfl)
theorem dX12_lays_34 : decode cX12_lays 34 = .ok (.ldc 130, 2) := do_18 (rdb (p := 32) (i := 2) ch_cX12_lays_32 rfl) (rdb (p := 32) (i := 3) ch_cX12_lays_32 rfl)
theorem dX12_lays_36 : decode cX12_lays 36 = .ok (.invokevirtual 104, 3) := do_182 (rdb (p := 32) (i := 4) ch_cX12_lays_32 rfl) (rdb (p := 32) (i := 5) ch_cX12_lays_32 rfl) (rdb (p := 32) (i := 6) ch_cX12_lays_32 rfl) rfl
theorem dX12_lays_39 : decode cX12_lays 39 = .ok (.ireturn, 1) := do_172 (rdb (p := 32) (i := 7) ch_cX12_lays_32 rfl)
theorem dX12_lays_40 : decode cX12_lays 40 = .ok (.aload_n 0, 1) := do_42 (rdb (p := 32) (i := 8) ch_cX12_lays_32 rfl)
theorem dX12_lays_41 : decode cX12_lays 41 = .ok (.getfield 72, 3) := do_180 (rdb (p := 32) (i := 9) ch_cX12_lays_32 rfl) (rdb (p := 32) (i := 10) ch_cX12_lays_32 rfl) (rdb (p := 32) (i := 11) ch_cX12_lays_32 rfl) rfl
theorem dX12_lays_44 : decode cX12_lays 44 = .ok (.iload_n 1, 1) := do_27 (rdb (p := 32) (i := 12) ch_cX12_lays_32 rfl)
theorem dX12_lays_45 : decode cX12_lays 45 = .ok (.iaload, 1) := do_46 (rdb (p := 32) (i := 13) ch_cX12_lays_32 rfl)
theorem dX12_lays_46 : decode cX12_lays 46 = .ok (.bipush 8, 2) := do_16 (rdb (p := 32) (i := 14) ch_cX12_lays_32 rfl) (rdb (p := 32) (i := 15) ch_cX12_lays_32 rfl) (by decide +kernel)
theorem dX12_lays_48 : decode cX12_lays 48 = .ok (.if_icmp .eq 10, 3) := do_159 (rdb (p := 32) (i := 16) ch_cX12_lays_32 rfl) (rdb (p := 32) (i := 17) ch_cX12_lays_32 rfl) (rdb (p := 32) (i := 18) ch_cX12_lays_32 rfl) (by decide +kernel)
theorem dX12_lays_51 : decode cX12_lays 51 = .ok (.aload_n 0, 1) := do_42 (rdb (p := 32) (i := 19) ch_cX12_lays_32 rfl)
theorem dX12_lays_52 : decode cX12_lays 52 = .ok (.ldc 123, 2) := do_18 (rdb (p := 32) (i := 20) ch_cX12_lays_32 rfl) (rdb (p := 32) (i := 21) ch_cX12_lays_32 rfl)
theorem dX12_lays_54 : decode cX12_lays 54 = .ok (.invokevirtual 104, 3) := do_182 (rdb (p := 32) (i := 22) ch_cX12_lays_32 rfl) (rdb (p := 32) (i := 23) ch_cX12_lays_32 rfl) (rdb (p := 32) (i := 24) ch_cX12_lays_32 rfl) rfl
theorem dX12_lays_57 : decode cX12_lays 57 = .ok (.ireturn, 1) := do_172 (rdb (p := 32) (i := 25) ch_cX12_lays_32 rfl)
theorem dX12_lays_58 : decode cX12_lays 58 = .ok (.aload_n 0, 1) := do_42 (rdb (p := 32) (i := 26) ch_cX12_lays_32 rfl)
theorem dX12_lays_59 : decode cX12_lays 59 = .ok (.getfield 75, 3) := do_180 (rdb (p := 32) (i := 27) ch_cX12_lays_32 rfl) (rdb (p := 32) (i := 28) ch_cX12_lays_32 rfl) (rdb (p := 32) (i := 29) ch_cX12_lays_32 rfl) rfl
theorem dX12_lays_62 : decode cX12_lays 62 = .ok (.iload_n 1, 1) := do_27 (rdb (p := 32) (i := 30) ch_cX12_lays_32 rfl)
theorem dX12_lays_63 : decode cX12_lays 63 = .ok (.iaload, 1) := do_46 (rdb (p := 32) (i := 31) ch_cX12_lays_32 rfl)
theorem ch_cX12_lays_64 : (cX12_lays.data.toList.drop 64).take 36 = [16, 16, 164, 0, 10, 42, 18, 110, 182, 0, 104, 172, 3, 62, 3, 54, 4, 21, 4, 42, 180, 0, 75, 27, 46, 162, 0, 77, 42, 180, 0, 78, 16, 24, 27, 104] := by decide +kernel
theorem dX12_lays_64 : decode cX12_lays 64 = .ok (.bipush 16, 2) := do_16 (rdb (p := 64) (i := 0) ch_cX12_lays_64 rfl) (rdb (p := 64) (i := 1) ch_cX12_lays_64 rfl) (by decide +kernel)
theorem dX12_lays_66 : decode cX12_lays 66 = .ok (.if_icmp .le 10, 3) := do_164 (rdb (p := 64) (i := 2) ch_cX12_lays_64 rfl) (rdb (p := 64) (i := 3) ch_cX12_lays_64 rfl) (rdb (p := 64) (i := 4) ch_cX12_lays_64 rfl) (by decide +kernel)
theorem dX12_lays_69 : decode cX12_lays 69 = .ok (.aload_n 0, 1) := do_42 (rdb (p := 64) (i := 5) ch_cX12_lays_64 rfl)
theorem dX12_lays_70 : decode cX12_lays 70 = .ok (.ldc 110, 2) := do_18 (rdb (p := 64) (i := 6) ch_cX12_lays_64 rfl) (rdb (p := 64) (i := 7) ch_cX12_lays_64 rfl)
theorem dX12_lays_72 : decode cX12_lays 72 = .ok (.invokevirtual 104, 3) := do_182 (rdb (p := 64) (i := 8) ch_cX12_lays_64 rfl) (rdb (p := 64) (i := 9) ch_cX12_lays_64 rfl) (rdb (p := 64) (i := 10) ch_cX12_lays_64 rfl) rfl
theorem dX12_lays_75 : decode cX12_lays 75 = .ok (.ireturn, 1) := do_172 (rdb (p := 64) (i := 11) ch_cX12_lays_64 rfl)
theorem dX12_lays_76 : decode cX12_lays 76 = .ok (.iconst 0, 1) := do_3 (rdb (p := 64) (i := 12) ch_cX12_lays_64 rfl)
theorem dX12_lays_77 : decode cX12_lays 77 = .ok (.istore_n 3, 1) := do_62 (rdb (p := 64) (i := 13) ch_cX12_lays_64 rfl)
theorem dX12_lays_78 : decode cX12_lays 78 = .ok (.iconst 0, 1) := do_3 (rdb (p := 64) (i := 14) ch_cX12_lays_64 rfl)
theorem dX12_lays_79 : decode cX12_lays 79 = .ok (.istore 4, 2) := do_54 (rdb (p := 64) (i := 15) ch_cX12_lays_64 rfl) (rdb (p := 64) (i := 16) ch_cX12_lays_64 rfl)
theorem dX12_lays_81 : decode cX12_lays 81 = .ok (.iload 4, 2) := do_21 (rdb (p := 64) (i := 17) ch_cX12_lays_64 rfl) (rdb (p := 64) (i := 18) ch_cX12_lays_64 rfl)
theorem dX12_lays_83 : decode cX12_lays 83 = .ok (.aload_n 0, 1) := do_42 (rdb (p := 64) (i := 19) ch_cX12_lays_64 rfl)
theorem dX12_lays_84 : decode cX12_lays 84 = .ok (.getfield 75, 3) := do_180 (rdb (p := 64) (i := 20) ch_cX12_lays_64 rfl) (rdb (p := 64) (i := 21) ch_cX12_lays_64 rfl) (rdb (p := 64) (i := 22) ch_cX12_lays_64 rfl) rfl
theorem dX12_lays_87 : decode cX12_lays 87 = .ok (.iload_n 1, 1) := do_27 (rdb (p := 64) (i := 23) ch_cX12_lays_64 rfl)
theorem dX12_lays_88 : decode cX12_lays 88 = .ok (.iaload, 1) := do_46 (rdb (p := 64) (i := 24) ch_cX12_lays_64 rfl)
theorem dX12_lays_89 : decode cX12_lays 89 = .ok (.if_icmp .ge 77, 3) := do_162 (rdb (p := 64) (i := 25) ch_cX12_lays_64 rfl) (rdb (p := 64) (i := 26) ch_cX12_lays_64 rfl) (rdb (p := 64) (i := 27) ch_cX12_lays_64 rfl) (by decide +kernel)
theorem dX12_lays_92 : decode cX12_lays 92 = .ok (.aload_n 0, 1) := do_42 (rdb (p := 64) (i := 28) ch_cX12_lays_64 rfl)
theorem dX12_lays_93 : decode cX12_lays 93 = .ok (.getfield 78, 3) := do_180 (rdb (p := 64) (i := 29) ch_cX12_lays_64 rfl) (rdb (p := 64) (i := 30) ch_cX12_lays_64 rfl) (rdb (p := 64) (i := 31) ch_cX12_lays_64 rfl) rfl
theorem ch_cX12_lays_96 : (cX12_lays.data.toList.drop 96).take 36 = [16, 24, 27, 104, 21, 4, 96, 46, 54, 5, 21, 5, 4, 8, 184, 0, 85, 153, 0, 47, 42, 180, 0, 9, 4, 46, 16, 40, 162, 0, 36, 42, 16, 16, 28, 104] := by decide +kernel
theorem dX12_lays_96 : decode cX12_lays 96 = .ok (.bipush 24, 2) := do_16 (rdb (p := 96) (i := 0) ch_cX12_lays_96 rfl) (rdb (p := 96) (i := 1) ch_cX12_lays_96 rfl) (by decide +kernel)
theorem dX12_lays_98 : decode cX12_lays 98 = .ok (.iload_n 1, 1) := do_27 (rdb (p := 96) (i := 2) ch_cX12_lays_96 rfl)
theorem dX12_lays_99 : decode cX12_lays 99 = .ok (.imul, 1) := do_104 (rdb (p := 96) (i := 3) ch_cX12_lays_96 rfl)
theorem dX12_lays_100 : decode cX12_lays 100 = .ok (.iload 4, 2) := do_21 (rdb (p := 96) (i := 4) ch_cX12_lays_96 rfl) (rdb (p := 96) (i := 5) ch_cX12_lays_96 rfl)
theorem dX12_lays_102 : decode cX12_lays 102 = .ok (.iadd, 1) := do_96 (rdb (p := 96) (i := 6) ch_cX12_lays_96 rfl)
theorem dX12_lays_103 : decode cX12_lays 103 = .ok (.iaload, 1) := do_46 (rdb (p := 96) (i := 7) ch_cX12_lays_96 rfl)
theorem dX12_lays_104 : decode cX12_lays 104 = .ok (.istore 5, 2) := do_54 (rdb (p := 96) (i := 8) ch_cX12_lays_96 rfl) (rdb (p := 96) (i := 9) ch_cX12_lays_96 rfl)
theorem dX12_lays_106 : decode cX12_lays 106 = .ok (.iload 5, 2) := do_21 (rdb (p := 96) (i := 10) ch_cX12_lays_96 rfl) (rdb (p := 96) (i := 11) ch_cX12_lays_96 rfl)
theorem dX12_lays_108 : decode cX12_lays 108 = .ok (.iconst 1, 1) := do_4 (rdb (p := 96) (i := 12) ch_cX12_lays_96 rfl)
theorem dX12_lays_109 : decode cX12_lays 109 = .ok (.iconst 5, 1) := do_8 (rdb (p := 96) (i := 13) ch_cX12_lays_96 rfl)
theorem dX12_lays_110 : decode cX12_lays 110 = .ok (.invokestatic 85, 3) := do_184 (rdb (p := 96) (i := 14) ch_cX12_lays_96 rfl) (rdb (p := 96) (i := 15) ch_cX12_lays_96 rfl) (rdb (p := 96) (i := 16) ch_cX12_lays_96 rfl) rfl
theorem dX12_lays_113 : decode cX12_lays 113 = .ok (.ifCond .eq 47, 3) := do_153 (rdb (p := 96) (i := 17) ch_cX12_lays_96 rfl) (rdb (p := 96) (i := 18) ch_cX12_lays_96 rfl) (rdb (p := 96) (i := 19) ch_cX12_lays_96 rfl) (by decide +kernel)
theorem dX12_lays_116 : decode cX12_lays 116 = .ok (.aload_n 0, 1) := do_42 (rdb (p := 96) (i := 20) ch_cX12_lays_96 rfl)
theorem dX12_lays_117 : decode cX12_lays 117 = .ok (.getfield 9, 3) := do_180 (rdb (p := 96) (i := 21) ch_cX12_lays_96 rfl) (rdb (p := 96) (i := 22) ch_cX12_lays_96 rfl) (rdb (p := 96) (i := 23) ch_cX12_lays_96 rfl) rfl
theorem dX12_lays_120 : decode cX12_lays 120 = .ok (.iconst 1, 1) := do_4 (rdb (p := 96) (i := 24) ch_cX12_lays_96 rfl)
theorem dX12_lays_121 : decode cX12_lays 121 = .ok (.iaload, 1) := do_46 (rdb (p := 96) (i := 25) ch_cX12_lays_96 rfl)
theorem dX12_lays_122 : decode cX12_lays 122 = .ok (.bipush 40, 2) := do_16 (rdb (p := 96) (i := 26) ch_cX12_lays_96 rfl) (rdb (p := 96) (i := 27) ch_cX12_lays_96 rfl) (by decide +kernel)
theorem dX12_lays_124 : decode cX12_lays 124 = .ok (.if_icmp .ge 36, 3) := do_162 (rdb (p := 96) (i := 28) ch_cX12_lays_96 rfl) (rdb (p := 96) (i := 29) ch_cX12_lays_96 rfl) (rdb (p := 96) (i := 30) ch_cX12_lays_96 rfl) (by decide +kernel)
theorem dX12_lays_127 : decode cX12_lays 127 = .ok (.aload_n 0, 1) := do_42 (rdb (p := 96) (i := 31) ch_cX12_lays_96 rfl)
theorem ch_cX12_lays_128 : (cX12_lays.data.toList.drop 128).take 36 = [16, 16, 28, 104, 21, 4, 96, 182, 0, 107, 153, 0, 22, 42, 21, 5, 4, 100, 16, 16, 28, 104, 21, 4, 96, 182, 0, 112, 87, 132, 3, 1, 132, 4, 1, 167] := by decide +kernel
theorem dX12_lays_128 : decode cX12_lays 128 = .ok (.bipush 16, 2) := do_16 (rdb (p := 128) (i := 0) ch_cX12_lays_128 rfl) (rdb (p := 128) (i := 1) ch_cX12_lays_128 rfl) (by decide +kernel)
theorem dX12_lays_130 : decode cX12_lays 130 = .ok (.iload_n 2, 1) := do_28 (rdb (p := 128) (i := 2) ch_cX12_lays_128 rfl)
theorem dX12_lays_131 : decode cX12_lays 131 = .ok (.imul, 1) := do_104 (rdb (p := 128) (i := 3) ch_cX12_lays_128 rfl)
theorem dX12_lays_132 : decode cX12_lays 132 = .ok (.iload 4, 2) := do_21 (rdb (p := 128) (i := 4) ch_cX12_lays_128 rfl) (rdb (p := 128) (i := 5) ch_cX12_lays_128 rfl)
theorem dX12_lays_134 : decode cX12_lays 134 = .ok (.iadd, 1) := do_96 (rdb (p := 128) (i := 6) ch_cX12_lays_128 rfl)
theorem dX12_lays_135 : decode cX12_lays 135 = .ok (.invokevirtual 107, 3) := do_182 (rdb (p := 128) (i := 7) ch_cX12_lays_128 rfl) (rdb (p := 128) (i := 8) ch_cX12_lays_128 rfl) (rdb (p := 128) (i := 9) ch_cX12_lays_128 rfl) rfl
theorem dX12_lays_138 : decode cX12_lays 138 = .ok (.ifCond .eq 22, 3) := do_153 (rdb (p := 128) (i := 10) ch_cX12_lays_128 rfl) (rdb (p := 128) (i := 11) ch_cX12_lays_128 rfl) (rdb (p := 128) (i := 12) ch_cX12_lays_128 rfl) (by decide +kernel)
theorem dX12_lays_141 : decode cX12_lays 141 = .ok (.aload_n 0, 1) := do_42 (rdb (p := 128) (i := 13) ch_cX12_lays_128 rfl)
theorem dX12_lays_142 : decode cX12_lays 142 = .ok (.iload 5, 2) := do_21 (rdb (p := 128) (i := 14) ch_cX12_lays_128 rfl) (rdb (p := 128) (i := 15) ch_cX12_lays_128 rfl)
theorem dX12_lays_144 : decode cX12_lays 144 = .ok (.iconst 1, 1) := do_4 (rdb (p := 128) (i := 16) ch_cX12_lays_128 rfl)
theorem dX12_lays_145 : decode cX12_lays 145 = .ok (.isub, 1) := do_100 (rdb (p := 128) (i := 17) ch_cX12_lays_128 rfl)
theorem dX12_lays_146 : decode cX12_lays 146 = .ok (.bipush 16, 2) := do_16 (rdb (p := 128) (i := 18) ch_cX12_lays_128 rfl) (rdb (p := 128) (i := 19) ch_cX12_lays_128 rfl) (by decide +kernel)
theorem dX12_lays_148 : decode cX12_lays 148 = .ok (.iload_n 2, 1) := do_28 (rdb (p := 128) (i := 20) ch_cX12_lays_128 rfl)
theorem dX12_lays_149 : decode cX12_lays 149 = .ok (.imul, 1) := do_104 (rdb (p := 128) (i := 21) ch_cX12_lays_128 rfl)
theorem dX12_lays_150 : decode cX12_lays 150 = .ok (.iload 4, 2) := do_21 (rdb (p := 128) (i := 22) ch_cX12_lays_128 rfl) (rdb (p := 128) (i := 23) ch_cX12_lays_128 rfl)
theorem dX12_lays_152 : decode cX12_lays 152 = .ok (.iadd, 1) := do_96 (rdb (p := 128) (i := 24) ch_cX12_lays_128 rfl)
theorem dX12_lays_153 : decode cX12_lays 153 = .ok (.invokevirtual 112, 3) := do_182 (rdb (p := 128) (i := 25) ch_cX12_lays_128 rfl) (rdb (p := 128) (i := 26) ch_cX12_lays_128 rfl) (rdb (p := 128) (i := 27) ch_cX12_lays_128 rfl) rfl
theorem dX12_lays_156 : decode cX12_lays 156 = .ok (.pop, 1) := do_87 (rdb (p := 128) (i := 28) ch_cX12_lays_128 rfl)
theorem dX12_lays_157 : decode cX12_lays 157 = .ok (.iinc 3 1, 3) := do_132 (rdb (p := 128) (i := 29) ch_cX12_lays_128 rfl) (rdb (p := 128) (i := 30) ch_cX12_lays_128 rfl) (rdb (p := 128) (i := 31) ch_cX12_lays_128 rfl) (by decide +kernel)
theorem ch_cX12_lays_160 : (cX12_lays.data.toList.drop 160).take 36 = [132, 4, 1, 167, 255, 174, 29, 172] := by decide +kernel
theorem dX12_lays_160 : decode cX12_lays 160 = .ok (.iinc 4 1, 3) := do_132 (rdb (p := 160) (i := 0) ch_cX12_lays_160 rfl) (rdb (p := 160) (i := 1) ch_cX12_lays_160 rfl) (rdb (p := 160) (i := 2) ch_cX12_lays_160 rfl) (by decide +kernel)
theorem dX12_lays_163 : decode cX12_lays 163 = .ok (.goto (-82), 3) := do_167 (rdb (p := 160) (i := 3) ch_cX12_lays_160 rfl) (rdb (p := 160) (i := 4) ch_cX12_lays_160 rfl) (rdb (p := 160) (i := 5) ch_cX12_lays_160 rfl) (by decide +kernel)
theorem dX12_lays_166 : decode cX12_lays 166 = .ok (.iload_n 3, 1) := do_29 (rdb (p := 160) (i := 6) ch_cX12_lays_160 rfl)
theorem dX12_lays_167 : decode cX12_lays 167 = .ok (.ireturn, 1) := do_172 (rdb (p := 160) (i := 7) ch_cX12_lays_160 rfl)
theorem ch_cX12_moves_0 : (cX12_moves.data.toList.drop 0).take 36 = [42, 27, 4, 182, 0, 116, 153, 0, 20, 28, 184, 0, 120, 153, 0, 13, 29, 3, 16, 20, 184, 0, 85, 154, 0, 10, 42, 18, 103, 182, 0, 104, 172, 42, 180, 0] := by decide +kernel
theorem dX12_moves_0 : decode cX12_moves 0 = .ok (.aload_n 0, 1) := do_42 (rdb (p := 0) (i := 0) ch_cX12_moves_0 rfl)
theorem dX12_moves_1 : decode cX12_moves 1 = .ok (.iload_n 1, 1) := do_27 (rdb (p := 0) (i := 1) ch_cX12_moves_0 rfl)
theorem dX12_moves_2 : decode cX12_moves 2 = .ok (.iconst 1, 1) := do_4 (rdb (p := 0) (i := 2) ch_cX12_moves_0 rfl)
theorem dX12_moves_3 : decode cX12_moves 3 = .ok (.invokevirtual 116, 3) := do_182 (rdb (p := 0) (i := 3) ch_cX12_moves_0 rfl) (rdb (p := 0) (i := 4) ch_cX12_moves_0 rfl) (rdb (p := 0) (i := 5) ch_cX12_moves_0 rfl) rfl
theorem dX12_moves_6 : decode cX12_moves 6 = .ok (.ifCond .eq 20, 3) := do_153 (rdb (p := 0) (i := 6) ch_cX12_moves_0 rfl) (rdb (p := 0) (i := 7) ch_cX12_moves_0 rfl) (rdb (p := 0) (i := 8) ch_cX12_moves_0 rfl) (by decide +kernel)
theorem dX12_moves_9 : decode cX12_moves 9 = .ok (.iload_n 2, 1) := do_28 (rdb (p := 0) (i := 9) ch_cX12_moves_0 rfl)
theorem dX12_moves_10 : decode cX12_moves 10 = .ok (.invokestatic 120, 3) := do_184 (rdb (p := 0) (i := 10) ch_cX12_moves_0 rfl) (rdb (p := 0) (i := 11) ch_cX12_moves_0 rfl) (rdb (p := 0) (i := 12) ch_cX12_moves_0 rfl) rfl
theorem dX12_moves_13 : decode cX12_moves 13 = .ok (.ifCond .eq 13, 3) := do_153 (rdb (p := 0) (i := 13) ch_cX12_moves_0 rfl) (rdb (p := 0) (i := 14) ch_cX12_moves_0 rfl) (rdb (p := 0) (i := 15) ch_cX12_moves_0 rfl) (by decide +kernel)
theorem dX12_moves_16 : decode cX12_moves 16 = .ok (.iload_n 3, 1) := do_29 (rdb (p := 0) (i := 16) ch_cX12_moves_0 rfl)
theorem dX12_moves_17 : decode cX12_moves 17 = .ok (.iconst 0, 1) := do_3 (rdb (p := 0) (i := 17) ch_cX12_moves_0 rfl)
theorem dX12_moves_18 : decode cX12_moves 18 = .ok (.bipush 20, 2) := do_16 (rdb (p := 0) (i := 18) ch_cX12_moves_0 rfl) (rdb (p := 0) (i := 19) ch_cX12_moves_0 rfl) (by decide +kernel)
theorem dX12_moves_20 : decode cX12_moves 20 = .ok (.invokestatic 85, 3) := do_184 (rdb (p := 0) (i := 20) ch_cX12_moves_0 rfl) (rdb (p := 0) (i := 21) ch_cX12_moves_0 rfl) (rdb (p := 0) (i := 22) ch_cX12_moves_0 rfl) rfl
theorem dX12_moves_23 : decode cX12_moves 23 = .ok (.ifCond .ne 10, 3) := do_154 (rdb (p := 0) (i := 23) ch_cX12_moves_0 rfl) (rdb (p := 0) (i := 24) ch_cX12_moves_0 rfl) (rdb (p := 0) (i := 25) ch_cX12_moves_0 rfl) (by decide +kernel)
theorem dX12_moves_26 : decode cX12_moves 26 = .ok (.aload_n 0, 1) := do_42 (rdb (p := 0) (i := 26) ch_cX12_moves_0 rfl)
theorem dX12_moves_27 : decode cX12_moves 27 = .ok (.ldc 103, 2) := do_18 (rdb (p := 0) (i := 27) ch_cX12_moves_0 rfl) (rdb (p := 0) (i := 28) ch_cX12_moves_0 rfl)
theorem dX12_moves_29 : decode cX12_moves 29 = .ok (.invokevirtual 104, 3) := do_182 (rdb (p := 0) (i := 29) ch_cX12_moves_0 rfl) (rdb (p := 0) (i := 30) ch_cX12_moves_0 rfl) (rdb (p := 0) (i := 31) ch_cX12_moves_0 rfl) rfl
theorem ch_cX12_moves_32 : (cX12_moves.data.toList.drop 32).take 36 = [172, 42, 180, 0, 9, 42, 27, 182, 0, 89, 3, 96, 46, 6, 162, 0, 10, 42, 18, 123, 182, 0, 104, 172, 42, 180, 0, 9, 42, 27, 182, 0, 89, 4, 96, 46] := by decide +kernel
theorem dX12_moves_32 : decode cX12_moves 32 = .ok (.ireturn, 1) := do_172 (rdb (p := 32) (i := 0) ch_cX12_moves_32 rfl)
theorem dX12_moves_33 : decode cX12_moves 33 = .ok (.aload_n 0, 1) := do_42 (rdb (p := 32) (i := 1) ch_cX12_moves_32 rfl)
theorem dX12_moves_34 : decode cX12_moves 34 = .ok (.getfield 9, 3) := do_180 (rdb (p := 32) (i := 2) ch_cX12_moves_32 rfl) (rdb (p := 32) (i := 3) ch_cX12_moves_32 rfl) (rdb (p := 32) (i := 4) ch_cX12_moves_32 rfl) rfl
theorem dX12_moves_37 : decode cX12_moves 37 = .ok (.aload_n 0, 1) := do_42 (rdb (p := 32) (i := 5) ch_cX12_moves_32 rfl)
theorem dX12_moves_38 : decode cX12_moves 38 = .ok (.iload_n 1, 1) := do_27 (rdb (p := 32) (i := 6) ch_cX12_moves_32 rfl)
theorem dX12_moves_39 : decode cX12_moves 39 = .ok (.invokevirtual 89, 3) := do_182 (rdb (p := 32) (i := 7) ch_cX12_moves_32 rfl) (rdb (p := 32) (i := 8) ch_cX12_moves_32 rfl) (rdb (p := 32) (i := 9) ch_cX12_moves_32 rfl) rfl
theorem dX12_moves_42 : decode cX12_moves 42 = .ok (.iconst 0, 1) := do_3 (rdb (p := 32) (i := 10) ch_cX12_moves_32 rfl)
theorem dX12_moves_43 : decode cX12_moves 43 = .ok (.iadd, 1) := do_96 (rdb (p := 32) (i := 11) ch_cX12_moves_32 rfl)
theorem dX12_moves_44 : decode cX12_moves 44 = .ok (.iaload, 1) := do_46 (rdb (p := 32) (i := 12) ch_cX12_moves_32 rfl)
theorem dX12_moves_45 : decode cX12_moves 45 = .ok (.iconst 3, 1) := do_6 (rdb (p := 32) (i := 13) ch_cX12_moves_32 rfl)
theorem dX12_moves_46 : decode cX12_moves 46 = .ok (.if_icmp .ge 10, 3) := do_162 (rdb (p := 32) (i := 14) ch_cX12_moves_32 rfl) (rdb (p := 32) (i := 15) ch_cX12_moves_32 rfl) (rdb (p := 32) (i := 16) ch_cX12_moves_32 rfl) (by decide +kernel)
theorem dX12_moves_49 : decode cX12_moves 49 = .ok (.aload_n 0, 1) := do_42 (rdb (p := 32) (i := 17) ch_cX12_moves_32 rfl)
theorem dX12_moves_50 : decode cX12_moves 50 = .ok (.ldc 123, 2) := do_18 (rdb (p := 32) (i := 18) ch_cX12_moves_32 rfl) (rdb (p := 32) (i := 19) ch_cX12_moves_32 rfl)
theorem dX12_moves_52 : decode cX12_moves 52 = .ok (.invokevirtual 104, 3) := do_182 (rdb (p := 32) (i := 20) ch_cX12_moves_32 rfl) (rdb (p := 32) (i := 21) ch_cX12_moves_32 rfl) (rdb (p := 32) (i := 22) ch_cX12_moves_32 rfl) rfl
theorem dX12_moves_55 : decode cX12_moves 55 = .ok (.ireturn, 1) := do_172 (rdb (p := 32) (i := 23) ch_cX12_moves_32 rfl)
theorem dX12_moves_56 : decode cX12_moves 56 = .ok (.aload_n 0, 1) := do_42 (rdb (p := 32) (i := 24) ch_cX12_moves_32 rfl)
theorem dX12_moves_57 : decode cX12_moves 57 = .ok (.getfield 9, 3) := do_180 (rdb (p := 32) (i := 25) ch_cX12_moves_32 rfl) (rdb (p := 32) (i := 26) ch_cX12_moves_32 rfl) (rdb (p := 32) (i := 27) ch_cX12_moves_32 rfl) rfl
theorem dX12_moves_60 : decode cX12_moves 60 = .ok (.aload_n 0, 1) := do_42 (rdb (p := 32) (i := 28) ch_cX12_moves_32 rfl)
theorem dX12_moves_61 : decode cX12_moves 61 = .ok (.iload_n 1, 1) := do_27 (rdb (p := 32) (i := 29) ch_cX12_moves_32 rfl)
theorem dX12_moves_62 : decode cX12_moves 62 = .ok (.invokevirtual 89, 3) := do_182 (rdb (p := 32) (i := 30) ch_cX12_moves_32 rfl) (rdb (p := 32) (i := 31) ch_cX12_moves_32 rfl) (rdb (p := 32) (i := 32) ch_cX12_moves_32 rfl) rfl
theorem ch_cX12_moves_64 : (cX12_moves.data.toList.drop 64).take 36 = [89, 4, 96, 46, 156, 0, 10, 42, 18, 110, 182, 0, 104, 172, 42, 180, 0, 9, 42, 27, 182, 0, 89, 5, 96, 28, 79, 42, 180, 0, 9, 42, 27, 182, 0, 89] := by decide +kernel
theorem dX12_moves_65 : decode cX12_moves 65 = .ok (.iconst 1, 1) := do_4 (rdb (p := 64) (i := 1) ch_cX12_moves_64 rfl)
theorem dX12_moves_66 : decode cX12_moves 66 = .ok (.iadd, 1) := do_96 (rdb (p := 64) (i := 2) ch_cX12_moves_64 rfl)
theorem dX12_moves_67 : decode cX12_moves 67 = .ok (.iaload, 1) := do_46 (rdb (p := 64) (i := 3) ch_cX12_moves_64 rfl)
theorem dX12_moves_68 : decode cX12_moves 68 = .ok (.ifCond .ge 10, 3) := do_156 (rdb (p := 64) (i := 4) ch_cX12_moves_64 rfl) (rdb (p := 64) (i := 5) ch_cX12_moves_64 rfl) (rdb (p := 64) (i := 6) ch_cX12_moves_64 rfl) (by decide +kernel)
theorem dX12_moves_71 : decode cX12_moves 71 = .ok (.aload_n 0, 1) := do_42 (rdb (p := 64) (i := 7) ch_cX12_moves_64 rfl)
theorem dX12_moves_72 : decode cX12_moves 72 = .ok (.ldc 110, 2) := do_18 (rdb (p := 64) (i := 8) ch_cX12_moves_64 rfl) (rdb (p := 64) (i := 9) ch_cX12_moves_64 rfl)
theorem dX12_moves_74 : decode cX12_moves 74 = .ok (.invokevirtual 104, 3) := do_182 (rdb (p := 64) (i := 10) ch_cX12_moves_64 rfl) (rdb (p := 64) (i := 11) ch_cX12_moves_64 rfl) (rdb (p := 64) (i := 12) ch_cX12_moves_64 rfl) rfl
theorem dX12_moves_77 : decode cX12_moves 77 = .ok (.ireturn, 1) := do_172 (rdb (p := 64) (i := 13) ch_cX12_moves_64 rfl)
theorem dX12_moves_78 : decode cX12_moves 78 = .ok (.aload_n 0, 1) := do_42 (rdb (p := 64) (i := 14) ch_cX12_moves_64 rfl)
theorem dX12_moves_79 : decode cX12_moves 79 = .ok (.getfield 9, 3) := do_180 (rdb (p := 64) (i := 15) ch_cX12_moves_64 rfl) (rdb (p := 64) (i := 16) ch_cX12_moves_64 rfl) (rdb (p := 64) (i := 17) ch_cX12_moves_64 rfl) rfl
theorem dX12_moves_82 : decode cX12_moves 82 = .ok (.aload_n 0, 1) := do_42 (rdb (p := 64) (i := 18) ch_cX12_moves_64 rfl)
theorem dX12_moves_83 : decode cX12_moves 83 = .ok (.iload_n 1, 1) := do_27 (rdb (p := 64) (i := 19) ch_cX12_moves_64 rfl)
theorem dX12_moves_84 : decode cX12_moves 84 = .ok (.invokevirtual 89, 3) := do_182 (rdb (p := 64) (i := 20) ch_cX12_moves_64 rfl) (rdb (p := 64) (i := 21) ch_cX12_moves_64 rfl) (rdb (p := 64) (i := 22) ch_cX12_moves_64 rfl) rfl
theorem dX12_moves_87 : decode cX12_moves 87 = .ok (.iconst 2, 1) := do_5 (rdb (p := 64) (i := 23) ch_cX12_moves_64 rfl)
theorem dX12_moves_88 : decode cX12_moves 88 = .ok (.iadd, 1) := do_96 (rdb (p := 64) (i := 24) ch_cX12_moves_64 rfl)
theorem dX12_moves_89 : decode cX12_moves 89 = .ok (.iload_n 2, 1) := do_28 (rdb (p := 64) (i := 25) ch_cX12_moves_64 rfl)
theorem dX12_moves_90 : decode cX12_moves 90 = .ok (.iastore, 1) := do_79 (rdb (p := 64) (i := 26) ch_cX12_moves_64 rfl)
theorem dX12_moves_91 : decode cX12_moves 91 = .ok (.aload_n 0, 1) := do_42 (rdb (p := 64) (i := 27) ch_cX12_moves_64 rfl)
theorem dX12_moves_92 : decode cX12_moves 92 = .ok (.getfield 9, 3) := do_180 (rdb (p := 64) (i := 28) ch_cX12_moves_64 rfl) (rdb (p := 64) (i := 29) ch_cX12_moves_64 rfl) (rdb (p := 64) (i := 30) ch_cX12_moves_64 rfl) rfl
theorem dX12_moves_95 : decode cX12_moves 95 = .ok (.aload_n 0, 1) := do_42 (rdb (p := 64) (i := 31) ch_cX12_moves_64 rfl)
theorem ch_cX12_moves_96 : (cX12_moves.data.toList.drop 96).take 36 = [27, 182, 0, 89, 6, 96, 29, 79, 4, 172] := by decide +kernel
theorem dX12_moves_96 : decode cX12_moves 96 = .ok (.iload_n 1, 1) := do_27 (rdb (p := 96) (i := 0) ch_cX12_moves_96 rfl)
theorem dX12_moves_97 : decode cX12_moves 97 = .ok (.invokevirtual 89, 3) := do_182 (rdb (p := 96) (i := 1) ch_cX12_moves_96 rfl) (rdb (p := 96) (i := 2) ch_cX12_moves_96 rfl) (rdb (p := 96) (i := 3) ch_cX12_moves_96 rfl) rfl
theorem dX12_moves_100 : decode cX12_moves 100 = .ok (.iconst 3, 1) := do_6 (rdb (p := 96) (i := 4) ch_cX12_moves_96 rfl)
theorem dX12_moves_101 : decode cX12_moves 101 = .ok (.iadd, 1) := do_96 (rdb (p := 96) (i := 5) ch_cX12_moves_96 rfl)
theorem dX12_moves_102 : decode cX12_moves 102 = .ok (.iload_n 3, 1) := do_29 (rdb (p := 96) (i := 6) ch_cX12_moves_96 rfl)
theorem dX12_moves_103 : decode cX12_moves 103 = .ok (.iastore, 1) := do_79 (rdb (p := 96) (i := 7) ch_cX12_moves_96 rfl)
theorem dX12_moves_104 : decode cX12_moves 104 = .ok (.iconst 1, 1) := do_4 (rdb (p := 96) (i := 8) ch_cX12_moves_96 rfl)
theorem dX12_moves_105 : decode cX12_moves 105 = .ok (.ireturn, 1) := do_172 (rdb (p := 96) (i := 9) ch_cX12_moves_96 rfl)
theorem dX12_reach_0 : decode cX12_reach 0 = .ok (.aload_n 0, 1) := by decide +kernel
theorem dX12_reach_1 : decode cX12_reach 1 = .ok (.iload_n 1, 1) := by decide +kernel
theorem dX12_reach_2 : decode cX12_reach 2 = .ok (.invokevirtual 137, 3) := by decide +kernel
theorem dX12_reach_5 : decode cX12_reach 5 = .ok (.invokestatic 134, 3) := by decide +kernel
theorem dX12_reach_8 : decode cX12_reach 8 = .ok (.ireturn, 1) := by decide +kernel
theorem ch_cX12_reachOf_0 : (cX12_reachOf.data.toList.drop 0).take 36 = [26, 170, 0, 0, 0, 0, 0, 77, 0, 0, 0, 0, 0, 0, 0, 6, 0, 0, 0, 43, 0, 0, 0, 45, 0, 0, 0, 52, 0, 0, 0, 54, 0, 0, 0, 61] := by decide +kernel
theorem dX12_reachOf_0 : decode cX12_reachOf 0 = .ok (.iload_n 0, 1) := do_26 (rdb (p := 0) (i := 0) ch_cX12_reachOf_0 rfl)
theorem dX12_reachOf_1 : decode cX12_reachOf 1 = .ok (.tableswitch 77 0 6 #[43, 45, 52, 54, 61, 63, 70], 43) := by decide +kernel
theorem ch_cX12_reachOf_32 : (cX12_reachOf.data.toList.drop 32).take 36 = [0, 0, 0, 61, 0, 0, 0, 63, 0, 0, 0, 70, 6, 172, 7, 3, 184, 0, 134, 104, 172, 4, 172, 5, 3, 184, 0, 134, 104, 172, 3, 172, 4, 184, 0, 134] := by decide +kernel
theorem dX12_reachOf_44 : decode cX12_reachOf 44 = .ok (.iconst 3, 1) := do_6 (rdb (p := 32) (i := 12) ch_cX12_reachOf_32 rfl)
theorem dX12_reachOf_45 : decode cX12_reachOf 45 = .ok (.ireturn, 1) := do_172 (rdb (p := 32) (i := 13) ch_cX12_reachOf_32 rfl)
theorem dX12_reachOf_46 : decode cX12_reachOf 46 = .ok (.iconst 4, 1) := do_7 (rdb (p := 32) (i := 14) ch_cX12_reachOf_32 rfl)
theorem dX12_reachOf_47 : decode cX12_reachOf 47 = .ok (.iconst 0, 1) := do_3 (rdb (p := 32) (i := 15) ch_cX12_reachOf_32 rfl)
theorem dX12_reachOf_48 : decode cX12_reachOf 48 = .ok (.invokestatic 134, 3) := do_184 (rdb (p := 32) (i := 16) ch_cX12_reachOf_32 rfl) (rdb (p := 32) (i := 17) ch_cX12_reachOf_32 rfl) (rdb (p := 32) (i := 18) ch_cX12_reachOf_32 rfl) rfl
theorem dX12_reachOf_51 : decode cX12_reachOf 51 = .ok (.imul, 1) := do_104 (rdb (p := 32) (i := 19) ch_cX12_reachOf_32 rfl)
theorem dX12_reachOf_52 : decode cX12_reachOf 52 = .ok (.ireturn, 1) := do_172 (rdb (p := 32) (i := 20) ch_cX12_reachOf_32 rfl)
theorem dX12_reachOf_53 : decode cX12_reachOf 53 = .ok (.iconst 1, 1) := do_4 (rdb (p := 32) (i := 21) ch_cX12_reachOf_32 rfl)
theorem dX12_reachOf_54 : decode cX12_reachOf 54 = .ok (.ireturn, 1) := do_172 (rdb (p := 32) (i := 22) ch_cX12_reachOf_32 rfl)
theorem dX12_reachOf_55 : decode cX12_reachOf 55 = .ok (.iconst 2, 1) := do_5 (rdb (p := 32) (i := 23) ch_cX12_reachOf_32 rfl)
theorem dX12_reachOf_56 : decode cX12_reachOf 56 = .ok (.iconst 0, 1) := do_3 (rdb (p := 32) (i := 24) ch_cX12_reachOf_32 rfl)
theorem dX12_reachOf_57 : decode cX12_reachOf 57 = .ok (.invokestatic 134, 3) := do_184 (rdb (p := 32) (i := 25) ch_cX12_reachOf_32 rfl) (rdb (p := 32) (i := 26) ch_cX12_reachOf_32 rfl) (rdb (p := 32) (i := 27) ch_cX12_reachOf_32 rfl) rfl
theorem dX12_reachOf_60 : decode cX12_reachOf 60 = .ok (.imul, 1) := do_104 (rdb (p := 32) (i := 28) ch_cX12_reachOf_32 rfl)
theorem dX12_reachOf_61 : decode cX12_reachOf 61 = .ok (.ireturn, 1) := do_172 (rdb (p := 32) (i := 29) ch_cX12_reachOf_32 rfl)
theorem dX12_reachOf_62 : decode cX12_reachOf 62 = .ok (.iconst 0, 1) := do_3 (rdb (p := 32) (i := 30) ch_cX12_reachOf_32 rfl)
theorem dX12_reachOf_63 : decode cX12_reachOf 63 = .ok (.ireturn, 1) := do_172 (rdb (p := 32) (i := 31) ch_cX12_reachOf_32 rfl)
theorem ch_cX12_reachOf_64 : (cX12_reachOf.data.toList.drop 64).take 36 = [4, 184, 0, 134, 5, 108, 172, 6, 184, 0, 134, 4, 100, 172, 4, 184, 0, 134, 5, 100, 172] := by decide +kernel
theorem dX12_reachOf_64 : decode cX12_reachOf 64 = .ok (.iconst 1, 1) := do_4 (rdb (p := 64) (i := 0) ch_cX12_reachOf_64 rfl)
theorem dX12_reachOf_65 : decode cX12_reachOf 65 = .ok (.invokestatic 134, 3) := do_184 (rdb (p := 64) (i := 1) ch_cX12_reachOf_64 rfl) (rdb (p := 64) (i := 2) ch_cX12_reachOf_64 rfl) (rdb (p := 64) (i := 3) ch_cX12_reachOf_64 rfl) rfl
theorem dX12_reachOf_68 : decode cX12_reachOf 68 = .ok (.iconst 2, 1) := do_5 (rdb (p := 64) (i := 4) ch_cX12_reachOf_64 rfl)
theorem dX12_reachOf_69 : decode cX12_reachOf 69 = .ok (.idiv, 1) := do_108 (rdb (p := 64) (i := 5) ch_cX12_reachOf_64 rfl)
theorem dX12_reachOf_70 : decode cX12_reachOf 70 = .ok (.ireturn, 1) := do_172 (rdb (p := 64) (i := 6) ch_cX12_reachOf_64 rfl)
theorem dX12_reachOf_71 : decode cX12_reachOf 71 = .ok (.iconst 3, 1) := do_6 (rdb (p := 64) (i := 7) ch_cX12_reachOf_64 rfl)
theorem dX12_reachOf_72 : decode cX12_reachOf 72 = .ok (.invokestatic 134, 3) := do_184 (rdb (p := 64) (i := 8) ch_cX12_reachOf_64 rfl) (rdb (p := 64) (i := 9) ch_cX12_reachOf_64 rfl) (rdb (p := 64) (i := 10) ch_cX12_reachOf_64 rfl) rfl
theorem dX12_reachOf_75 : decode cX12_reachOf 75 = .ok (.iconst 1, 1) := do_4 (rdb (p := 64) (i := 11) ch_cX12_reachOf_64 rfl)
theorem dX12_reachOf_76 : decode cX12_reachOf 76 = .ok (.isub, 1) := do_100 (rdb (p := 64) (i := 12) ch_cX12_reachOf_64 rfl)
theorem dX12_reachOf_77 : decode cX12_reachOf 77 = .ok (.ireturn, 1) := do_172 (rdb (p := 64) (i := 13) ch_cX12_reachOf_64 rfl)
theorem dX12_reachOf_78 : decode cX12_reachOf 78 = .ok (.iconst 1, 1) := do_4 (rdb (p := 64) (i := 14) ch_cX12_reachOf_64 rfl)
theorem dX12_reachOf_79 : decode cX12_reachOf 79 = .ok (.invokestatic 134, 3) := do_184 (rdb (p := 64) (i := 15) ch_cX12_reachOf_64 rfl) (rdb (p := 64) (i := 16) ch_cX12_reachOf_64 rfl) (rdb (p := 64) (i := 17) ch_cX12_reachOf_64 rfl) rfl
theorem dX12_reachOf_82 : decode cX12_reachOf 82 = .ok (.iconst 2, 1) := do_5 (rdb (p := 64) (i := 18) ch_cX12_reachOf_64 rfl)
theorem dX12_reachOf_83 : decode cX12_reachOf 83 = .ok (.isub, 1) := do_100 (rdb (p := 64) (i := 19) ch_cX12_reachOf_64 rfl)
theorem dX12_reachOf_84 : decode cX12_reachOf 84 = .ok (.ireturn, 1) := do_172 (rdb (p := 64) (i := 20) ch_cX12_reachOf_64 rfl)
theorem dX12_thingIs_0 : decode cX12_thingIs 0 = .ok (.aload_n 0, 1) := by decide +kernel
theorem dX12_thingIs_1 : decode cX12_thingIs 1 = .ok (.iload_n 1, 1) := by decide +kernel
theorem dX12_thingIs_2 : decode cX12_thingIs 2 = .ok (.iconst 1, 1) := by decide +kernel
theorem dX12_thingIs_3 : decode cX12_thingIs 3 = .ok (.invokevirtual 116, 3) := by decide +kernel
theorem dX12_thingIs_6 : decode cX12_thingIs 6 = .ok (.ifCond .eq 27, 3) := by decide +kernel
theorem dX12_thingIs_9 : decode cX12_thingIs 9 = .ok (.iload_n 2, 1) := by decide +kernel
theorem dX12_thingIs_10 : decode cX12_thingIs 10 = .ok (.iconst 0, 1) := by decide +kernel
theorem dX12_thingIs_11 : decode cX12_thingIs 11 = .ok (.iconst 3, 1) := by decide +kernel
theorem dX12_thingIs_12 : decode cX12_thingIs 12 = .ok (.invokestatic 85, 3) := by decide +kernel
theorem dX12_thingIs_15 : decode cX12_thingIs 15 = .ok (.ifCond .eq 18, 3) := by decide +kernel
theorem dX12_thingIs_18 : decode cX12_thingIs 18 = .ok (.aload_n 0, 1) := by decide +kernel
theorem dX12_thingIs_19 : decode cX12_thingIs 19 = .ok (.getfield 9, 3) := by decide +kernel
theorem dX12_thingIs_22 : decode cX12_thingIs 22 = .ok (.aload_n 0, 1) := by decide +kernel
theorem dX12_thingIs_23 : decode cX12_thingIs 23 = .ok (.iload_n 1, 1) := by decide +kernel
theorem dX12_thingIs_24 : decode cX12_thingIs 24 = .ok (.invokevirtual 89, 3) := by decide +kernel
theorem dX12_thingIs_27 : decode cX12_thingIs 27 = .ok (.iload_n 2, 1) := by decide +kernel
theorem dX12_thingIs_28 : decode cX12_thingIs 28 = .ok (.iadd, 1) := by decide +kernel
theorem dX12_thingIs_29 : decode cX12_thingIs 29 = .ok (.iaload, 1) := by decide +kernel
theorem dX12_thingIs_30 : decode cX12_thingIs 30 = .ok (.goto 9, 3) := by decide +kernel
theorem dX12_thingIs_33 : decode cX12_thingIs 33 = .ok (.aload_n 0, 1) := by decide +kernel
theorem dX12_thingIs_34 : decode cX12_thingIs 34 = .ok (.ldc 103, 2) := by decide +kernel
theorem dX12_thingIs_36 : decode cX12_thingIs 36 = .ok (.invokevirtual 104, 3) := by decide +kernel
theorem dX12_thingIs_39 : decode cX12_thingIs 39 = .ok (.ireturn, 1) := by decide +kernel
theorem ch_cX12_thing__0 : (cX12_thing_.data.toList.drop 0).take 36 = [27, 3, 7, 184, 0, 85, 153, 0, 10, 28, 184, 0, 99, 154, 0, 10, 42, 18, 103, 182, 0, 104, 172, 42, 28, 182, 0, 107, 154, 0, 10, 42, 18, 110, 182, 0] := by decide +kernel
theorem dX12_thing__0 : decode cX12_thing_ 0 = .ok (.iload_n 1, 1) := do_27 (rdb (p := 0) (i := 0) ch_cX12_thing__0 rfl)
theorem dX12_thing__1 : decode cX12_thing_ 1 = .ok (.iconst 0, 1) := do_3 (rdb (p := 0) (i := 1) ch_cX12_thing__0 rfl)
theorem dX12_thing__2 : decode cX12_thing_ 2 = .ok (.iconst 4, 1) := do_7 (rdb (p := 0) (i := 2) ch_cX12_thing__0 rfl)
theorem dX12_thing__3 : decode cX12_thing_ 3 = .ok (.invokestatic 85, 3) := do_184 (rdb (p := 0) (i := 3) ch_cX12_thing__0 rfl) (rdb (p := 0) (i := 4) ch_cX12_thing__0 rfl) (rdb (p := 0) (i := 5) ch_cX12_thing__0 rfl) rfl
theorem dX12_thing__6 : decode cX12_thing_ 6 = .ok (.ifCond .eq 10, 3) := do_153 (rdb (p := 0) (i := 6) ch_cX12_thing__0 rfl) (rdb (p := 0) (i := 7) ch_cX12_thing__0 rfl) (rdb (p := 0) (i := 8) ch_cX12_thing__0 rfl) (by decide +kernel)
theorem dX12_thing__9 : decode cX12_thing_ 9 = .ok (.iload_n 2, 1) := do_28 (rdb (p := 0) (i := 9) ch_cX12_thing__0 rfl)
theorem dX12_thing__10 : decode cX12_thing_ 10 = .ok (.invokestatic 99, 3) := do_184 (rdb (p := 0) (i := 10) ch_cX12_thing__0 rfl) (rdb (p := 0) (i := 11) ch_cX12_thing__0 rfl) (rdb (p := 0) (i := 12) ch_cX12_thing__0 rfl) rfl
theorem dX12_thing__13 : decode cX12_thing_ 13 = .ok (.ifCond .ne 10, 3) := do_154 (rdb (p := 0) (i := 13) ch_cX12_thing__0 rfl) (rdb (p := 0) (i := 14) ch_cX12_thing__0 rfl) (rdb (p := 0) (i := 15) ch_cX12_thing__0 rfl) (by decide +kernel)
theorem dX12_thing__16 : decode cX12_thing_ 16 = .ok (.aload_n 0, 1) := do_42 (rdb (p := 0) (i := 16) ch_cX12_thing__0 rfl)
theorem dX12_thing__17 : decode cX12_thing_ 17 = .ok (.ldc 103, 2) := do_18 (rdb (p := 0) (i := 17) ch_cX12_thing__0 rfl) (rdb (p := 0) (i := 18) ch_cX12_thing__0 rfl)
theorem dX12_thing__19 : decode cX12_thing_ 19 = .ok (.invokevirtual 104, 3) := do_182 (rdb (p := 0) (i := 19) ch_cX12_thing__0 rfl) (rdb (p := 0) (i := 20) ch_cX12_thing__0 rfl) (rdb (p := 0) (i := 21) ch_cX12_thing__0 rfl) rfl
theorem dX12_thing__22 : decode cX12_thing_ 22 = .ok (.ireturn, 1) := do_172 (rdb (p := 0) (i := 22) ch_cX12_thing__0 rfl)
theorem dX12_thing__23 : decode cX12_thing_ 23 = .ok (.aload_n 0, 1) := do_42 (rdb (p := 0) (i := 23) ch_cX12_thing__0 rfl)
theorem dX12_thing__24 : decode cX12_thing_ 24 = .ok (.iload_n 2, 1) := do_28 (rdb (p := 0) (i := 24) ch_cX12_thing__0 rfl)
theorem dX12_thing__25 : decode cX12_thing_ 25 = .ok (.invokevirtual 107, 3) := do_182 (rdb (p := 0) (i := 25) ch_cX12_thing__0 rfl) (rdb (p := 0) (i := 26) ch_cX12_thing__0 rfl) (rdb (p := 0) (i := 27) ch_cX12_thing__0 rfl) rfl
theorem dX12_thing__28 : decode cX12_thing_ 28 = .ok (.ifCond .ne 10, 3) := do_154 (rdb (p := 0) (i := 28) ch_cX12_thing__0 rfl) (rdb (p := 0) (i := 29) ch_cX12_thing__0 rfl) (rdb (p := 0) (i := 30) ch_cX12_thing__0 rfl) (by decide +kernel)
theorem dX12_thing__31 : decode cX12_thing_ 31 = .ok (.aload_n 0, 1) := do_42 (rdb (p := 0) (i := 31) ch_cX12_thing__0 rfl)
theorem ch_cX12_thing__32 : (cX12_thing_.data.toList.drop 32).take 36 = [18, 110, 182, 0, 104, 172, 42, 180, 0, 9, 4, 46, 16, 40, 160, 0, 12, 42, 18, 111, 182, 0, 104, 167, 0, 9, 42, 27, 28, 182, 0, 112, 172] := by decide +kernel
theorem dX12_thing__32 : decode cX12_thing_ 32 = .ok (.ldc 110, 2) := do_18 (rdb (p := 32) (i := 0) ch_cX12_thing__32 rfl) (rdb (p := 32) (i := 1) ch_cX12_thing__32 rfl)
theorem dX12_thing__34 : decode cX12_thing_ 34 = .ok (.invokevirtual 104, 3) := do_182 (rdb (p := 32) (i := 2) ch_cX12_thing__32 rfl) (rdb (p := 32) (i := 3) ch_cX12_thing__32 rfl) (rdb (p := 32) (i := 4) ch_cX12_thing__32 rfl) rfl
theorem dX12_thing__37 : decode cX12_thing_ 37 = .ok (.ireturn, 1) := do_172 (rdb (p := 32) (i := 5) ch_cX12_thing__32 rfl)
theorem dX12_thing__38 : decode cX12_thing_ 38 = .ok (.aload_n 0, 1) := do_42 (rdb (p := 32) (i := 6) ch_cX12_thing__32 rfl)
theorem dX12_thing__39 : decode cX12_thing_ 39 = .ok (.getfield 9, 3) := do_180 (rdb (p := 32) (i := 7) ch_cX12_thing__32 rfl) (rdb (p := 32) (i := 8) ch_cX12_thing__32 rfl) (rdb (p := 32) (i := 9) ch_cX12_thing__32 rfl) rfl
theorem dX12_thing__42 : decode cX12_thing_ 42 = .ok (.iconst 1, 1) := do_4 (rdb (p := 32) (i := 10) ch_cX12_thing__32 rfl)
theorem dX12_thing__43 : decode cX12_thing_ 43 = .ok (.iaload, 1) := do_46 (rdb (p := 32) (i := 11) ch_cX12_thing__32 rfl)
theorem dX12_thing__44 : decode cX12_thing_ 44 = .ok (.bipush 40, 2) := do_16 (rdb (p := 32) (i := 12) ch_cX12_thing__32 rfl) (rdb (p := 32) (i := 13) ch_cX12_thing__32 rfl) (by decide +kernel)
theorem dX12_thing__46 : decode cX12_thing_ 46 = .ok (.if_icmp .ne 12, 3) := do_160 (rdb (p := 32) (i := 14) ch_cX12_thing__32 rfl) (rdb (p := 32) (i := 15) ch_cX12_thing__32 rfl) (rdb (p := 32) (i := 16) ch_cX12_thing__32 rfl) (by decide +kernel)
theorem dX12_thing__49 : decode cX12_thing_ 49 = .ok (.aload_n 0, 1) := do_42 (rdb (p := 32) (i := 17) ch_cX12_thing__32 rfl)
theorem dX12_thing__50 : decode cX12_thing_ 50 = .ok (.ldc 111, 2) := do_18 (rdb (p := 32) (i := 18) ch_cX12_thing__32 rfl) (rdb (p := 32) (i := 19) ch_cX12_thing__32 rfl)
theorem dX12_thing__52 : decode cX12_thing_ 52 = .ok (.invokevirtual 104, 3) := do_182 (rdb (p := 32) (i := 20) ch_cX12_thing__32 rfl) (rdb (p := 32) (i := 21) ch_cX12_thing__32 rfl) (rdb (p := 32) (i := 22) ch_cX12_thing__32 rfl) rfl
theorem dX12_thing__55 : decode cX12_thing_ 55 = .ok (.goto 9, 3) := do_167 (rdb (p := 32) (i := 23) ch_cX12_thing__32 rfl) (rdb (p := 32) (i := 24) ch_cX12_thing__32 rfl) (rdb (p := 32) (i := 25) ch_cX12_thing__32 rfl) (by decide +kernel)
theorem dX12_thing__58 : decode cX12_thing_ 58 = .ok (.aload_n 0, 1) := do_42 (rdb (p := 32) (i := 26) ch_cX12_thing__32 rfl)
theorem dX12_thing__59 : decode cX12_thing_ 59 = .ok (.iload_n 1, 1) := do_27 (rdb (p := 32) (i := 27) ch_cX12_thing__32 rfl)
theorem dX12_thing__60 : decode cX12_thing_ 60 = .ok (.iload_n 2, 1) := do_28 (rdb (p := 32) (i := 28) ch_cX12_thing__32 rfl)
theorem dX12_thing__61 : decode cX12_thing_ 61 = .ok (.invokevirtual 112, 3) := do_182 (rdb (p := 32) (i := 29) ch_cX12_thing__32 rfl) (rdb (p := 32) (i := 30) ch_cX12_thing__32 rfl) (rdb (p := 32) (i := 31) ch_cX12_thing__32 rfl) rfl
theorem ch_cX12_thing__64 : (cX12_thing_.data.toList.drop 64).take 36 = [172] := by decide +kernel
theorem dX12_thing__64 : decode cX12_thing_ 64 = .ok (.ireturn, 1) := do_172 (rdb (p := 64) (i := 0) ch_cX12_thing__64 rfl)
theorem ch_cX12_walker_0 : (cX12_walker.data.toList.drop 0).take 36 = [27, 3, 16, 7, 184, 0, 85, 153, 0, 17, 28, 184, 0, 99, 153, 0, 10, 29, 184, 0, 120, 154, 0, 10, 42, 18, 103, 182, 0, 104, 172, 42, 28, 182, 0, 107] := by decide +kernel
theorem dX12_walker_0 : decode cX12_walker 0 = .ok (.iload_n 1, 1) := do_27 (rdb (p := 0) (i := 0) ch_cX12_walker_0 rfl)
theorem dX12_walker_1 : decode cX12_walker 1 = .ok (.iconst 0, 1) := do_3 (rdb (p := 0) (i := 1) ch_cX12_walker_0 rfl)
theorem dX12_walker_2 : decode cX12_walker 2 = .ok (.bipush 7, 2) := do_16 (rdb (p := 0) (i := 2) ch_cX12_walker_0 rfl) (rdb (p := 0) (i := 3) ch_cX12_walker_0 rfl) (by decide +kernel)
theorem dX12_walker_4 : decode cX12_walker 4 = .ok (.invokestatic 85, 3) := do_184 (rdb (p := 0) (i := 4) ch_cX12_walker_0 rfl) (rdb (p := 0) (i := 5) ch_cX12_walker_0 rfl) (rdb (p := 0) (i := 6) ch_cX12_walker_0 rfl) rfl
theorem dX12_walker_7 : decode cX12_walker 7 = .ok (.ifCond .eq 17, 3) := do_153 (rdb (p := 0) (i := 7) ch_cX12_walker_0 rfl) (rdb (p := 0) (i := 8) ch_cX12_walker_0 rfl) (rdb (p := 0) (i := 9) ch_cX12_walker_0 rfl) (by decide +kernel)
theorem dX12_walker_10 : decode cX12_walker 10 = .ok (.iload_n 2, 1) := do_28 (rdb (p := 0) (i := 10) ch_cX12_walker_0 rfl)
theorem dX12_walker_11 : decode cX12_walker 11 = .ok (.invokestatic 99, 3) := do_184 (rdb (p := 0) (i := 11) ch_cX12_walker_0 rfl) (rdb (p := 0) (i := 12) ch_cX12_walker_0 rfl) (rdb (p := 0) (i := 13) ch_cX12_walker_0 rfl) rfl
theorem dX12_walker_14 : decode cX12_walker 14 = .ok (.ifCond .eq 10, 3) := do_153 (rdb (p := 0) (i := 14) ch_cX12_walker_0 rfl) (rdb (p := 0) (i := 15) ch_cX12_walker_0 rfl) (rdb (p := 0) (i := 16) ch_cX12_walker_0 rfl) (by decide +kernel)
theorem dX12_walker_17 : decode cX12_walker 17 = .ok (.iload_n 3, 1) := do_29 (rdb (p := 0) (i := 17) ch_cX12_walker_0 rfl)
theorem dX12_walker_18 : decode cX12_walker 18 = .ok (.invokestatic 120, 3) := do_184 (rdb (p := 0) (i := 18) ch_cX12_walker_0 rfl) (rdb (p := 0) (i := 19) ch_cX12_walker_0 rfl) (rdb (p := 0) (i := 20) ch_cX12_walker_0 rfl) rfl
theorem dX12_walker_21 : decode cX12_walker 21 = .ok (.ifCond .ne 10, 3) := do_154 (rdb (p := 0) (i := 21) ch_cX12_walker_0 rfl) (rdb (p := 0) (i := 22) ch_cX12_walker_0 rfl) (rdb (p := 0) (i := 23) ch_cX12_walker_0 rfl) (by decide +kernel)
theorem dX12_walker_24 : decode cX12_walker 24 = .ok (.aload_n 0, 1) := do_42 (rdb (p := 0) (i := 24) ch_cX12_walker_0 rfl)
theorem dX12_walker_25 : decode cX12_walker 25 = .ok (.ldc 103, 2) := do_18 (rdb (p := 0) (i := 25) ch_cX12_walker_0 rfl) (rdb (p := 0) (i := 26) ch_cX12_walker_0 rfl)
theorem dX12_walker_27 : decode cX12_walker 27 = .ok (.invokevirtual 104, 3) := do_182 (rdb (p := 0) (i := 27) ch_cX12_walker_0 rfl) (rdb (p := 0) (i := 28) ch_cX12_walker_0 rfl) (rdb (p := 0) (i := 29) ch_cX12_walker_0 rfl) rfl
theorem dX12_walker_30 : decode cX12_walker 30 = .ok (.ireturn, 1) := do_172 (rdb (p := 0) (i := 30) ch_cX12_walker_0 rfl)
theorem dX12_walker_31 : decode cX12_walker 31 = .ok (.aload_n 0, 1) := do_42 (rdb (p := 0) (i := 31) ch_cX12_walker_0 rfl)
theorem ch_cX12_walker_32 : (cX12_walker.data.toList.drop 32).take 36 = [28, 182, 0, 107, 154, 0, 10, 42, 18, 110, 182, 0, 104, 172, 42, 180, 0, 9, 5, 46, 54, 4, 21, 4, 16, 8, 160, 0, 10, 42, 18, 111, 182, 0, 104, 172] := by decide +kernel
theorem dX12_walker_32 : decode cX12_walker 32 = .ok (.iload_n 2, 1) := do_28 (rdb (p := 32) (i := 0) ch_cX12_walker_32 rfl)
theorem dX12_walker_33 : decode cX12_walker 33 = .ok (.invokevirtual 107, 3) := do_182 (rdb (p := 32) (i := 1) ch_cX12_walker_32 rfl) (rdb (p := 32) (i := 2) ch_cX12_walker_32 rfl) (rdb (p := 32) (i := 3) ch_cX12_walker_32 rfl) rfl
theorem dX12_walker_36 : decode cX12_walker 36 = .ok (.ifCond .ne 10, 3) := do_154 (rdb (p := 32) (i := 4) ch_cX12_walker_32 rfl) (rdb (p := 32) (i := 5) ch_cX12_walker_32 rfl) (rdb (p := 32) (i := 6) ch_cX12_walker_32 rfl) (by decide +kernel)
theorem dX12_walker_39 : decode cX12_walker 39 = .ok (.aload_n 0, 1) := do_42 (rdb (p := 32) (i := 7) ch_cX12_walker_32 rfl)
theorem dX12_walker_40 : decode cX12_walker 40 = .ok (.ldc 110, 2) := do_18 (rdb (p := 32) (i := 8) ch_cX12_walker_32 rfl) (rdb (p := 32) (i := 9) ch_cX12_walker_32 rfl)
theorem dX12_walker_42 : decode cX12_walker 42 = .ok (.invokevirtual 104, 3) := do_182 (rdb (p := 32) (i := 10) ch_cX12_walker_32 rfl) (rdb (p := 32) (i := 11) ch_cX12_walker_32 rfl) (rdb (p := 32) (i := 12) ch_cX12_walker_32 rfl) rfl
theorem dX12_walker_45 : decode cX12_walker 45 = .ok (.ireturn, 1) := do_172 (rdb (p := 32) (i := 13) ch_cX12_walker_32 rfl)
theorem dX12_walker_46 : decode cX12_walker 46 = .ok (.aload_n 0, 1) := do_42 (rdb (p := 32) (i := 14) ch_cX12_walker_32 rfl)
theorem dX12_walker_47 : decode cX12_walker 47 = .ok (.getfield 9, 3) := do_180 (rdb (p := 32) (i := 15) ch_cX12_walker_32 rfl) (rdb (p := 32) (i := 16) ch_cX12_walker_32 rfl) (rdb (p := 32) (i := 17) ch_cX12_walker_32 rfl) rfl
theorem dX12_walker_50 : decode cX12_walker 50 = .ok (.iconst 2, 1) := do_5 (rdb (p := 32) (i := 18) ch_cX12_walker_32 rfl)
theorem dX12_walker_51 : decode cX12_walker 51 = .ok (.iaload, 1) := do_46 (rdb (p := 32) (i := 19) ch_cX12_walker_32 rfl)
theorem dX12_walker_52 : decode cX12_walker 52 = .ok (.istore 4, 2) := do_54 (rdb (p := 32) (i := 20) ch_cX12_walker_32 rfl) (rdb (p := 32) (i := 21) ch_cX12_walker_32 rfl)
theorem dX12_walker_54 : decode cX12_walker 54 = .ok (.iload 4, 2) := do_21 (rdb (p := 32) (i := 22) ch_cX12_walker_32 rfl) (rdb (p := 32) (i := 23) ch_cX12_walker_32 rfl)
theorem dX12_walker_56 : decode cX12_walker 56 = .ok (.bipush 8, 2) := do_16 (rdb (p := 32) (i := 24) ch_cX12_walker_32 rfl) (rdb (p := 32) (i := 25) ch_cX12_walker_32 rfl) (by decide +kernel)
theorem dX12_walker_58 : decode cX12_walker 58 = .ok (.if_icmp .ne 10, 3) := do_160 (rdb (p := 32) (i := 26) ch_cX12_walker_32 rfl) (rdb (p := 32) (i := 27) ch_cX12_walker_32 rfl) (rdb (p := 32) (i := 28) ch_cX12_walker_32 rfl) (by decide +kernel)
theorem dX12_walker_61 : decode cX12_walker 61 = .ok (.aload_n 0, 1) := do_42 (rdb (p := 32) (i := 29) ch_cX12_walker_32 rfl)
theorem dX12_walker_62 : decode cX12_walker 62 = .ok (.ldc 111, 2) := do_18 (rdb (p := 32) (i := 30) ch_cX12_walker_32 rfl) (rdb (p := 32) (i := 31) ch_cX12_walker_32 rfl)
theorem ch_cX12_walker_64 : (cX12_walker.data.toList.drop 64).take 36 = [182, 0, 104, 172, 42, 21, 4, 182, 0, 93, 54, 5, 42, 180, 0, 9, 21, 5, 3, 96, 27, 79, 42, 180, 0, 9, 21, 5, 4, 96, 28, 79, 42, 180, 0, 9] := by decide +kernel
theorem dX12_walker_64 : decode cX12_walker 64 = .ok (.invokevirtual 104, 3) := do_182 (rdb (p := 64) (i := 0) ch_cX12_walker_64 rfl) (rdb (p := 64) (i := 1) ch_cX12_walker_64 rfl) (rdb (p := 64) (i := 2) ch_cX12_walker_64 rfl) rfl
theorem dX12_walker_67 : decode cX12_walker 67 = .ok (.ireturn, 1) := do_172 (rdb (p := 64) (i := 3) ch_cX12_walker_64 rfl)
theorem dX12_walker_68 : decode cX12_walker 68 = .ok (.aload_n 0, 1) := do_42 (rdb (p := 64) (i := 4) ch_cX12_walker_64 rfl)
theorem dX12_walker_69 : decode cX12_walker 69 = .ok (.iload 4, 2) := do_21 (rdb (p := 64) (i := 5) ch_cX12_walker_64 rfl) (rdb (p := 64) (i := 6) ch_cX12_walker_64 rfl)
theorem dX12_walker_71 : decode cX12_walker 71 = .ok (.invokevirtual 93, 3) := do_182 (rdb (p := 64) (i := 7) ch_cX12_walker_64 rfl) (rdb (p := 64) (i := 8) ch_cX12_walker_64 rfl) (rdb (p := 64) (i := 9) ch_cX12_walker_64 rfl) rfl
theorem dX12_walker_74 : decode cX12_walker 74 = .ok (.istore 5, 2) := do_54 (rdb (p := 64) (i := 10) ch_cX12_walker_64 rfl) (rdb (p := 64) (i := 11) ch_cX12_walker_64 rfl)
theorem dX12_walker_76 : decode cX12_walker 76 = .ok (.aload_n 0, 1) := do_42 (rdb (p := 64) (i := 12) ch_cX12_walker_64 rfl)
theorem dX12_walker_77 : decode cX12_walker 77 = .ok (.getfield 9, 3) := do_180 (rdb (p := 64) (i := 13) ch_cX12_walker_64 rfl) (rdb (p := 64) (i := 14) ch_cX12_walker_64 rfl) (rdb (p := 64) (i := 15) ch_cX12_walker_64 rfl) rfl
theorem dX12_walker_80 : decode cX12_walker 80 = .ok (.iload 5, 2) := do_21 (rdb (p := 64) (i := 16) ch_cX12_walker_64 rfl) (rdb (p := 64) (i := 17) ch_cX12_walker_64 rfl)
theorem dX12_walker_82 : decode cX12_walker 82 = .ok (.iconst 0, 1) := do_3 (rdb (p := 64) (i := 18) ch_cX12_walker_64 rfl)
theorem dX12_walker_83 : decode cX12_walker 83 = .ok (.iadd, 1) := do_96 (rdb (p := 64) (i := 19) ch_cX12_walker_64 rfl)
theorem dX12_walker_84 : decode cX12_walker 84 = .ok (.iload_n 1, 1) := do_27 (rdb (p := 64) (i := 20) ch_cX12_walker_64 rfl)
theorem dX12_walker_85 : decode cX12_walker 85 = .ok (.iastore, 1) := do_79 (rdb (p := 64) (i := 21) ch_cX12_walker_64 rfl)
theorem dX12_walker_86 : decode cX12_walker 86 = .ok (.aload_n 0, 1) := do_42 (rdb (p := 64) (i := 22) ch_cX12_walker_64 rfl)
theorem dX12_walker_87 : decode cX12_walker 87 = .ok (.getfield 9, 3) := do_180 (rdb (p := 64) (i := 23) ch_cX12_walker_64 rfl) (rdb (p := 64) (i := 24) ch_cX12_walker_64 rfl) (rdb (p := 64) (i := 25) ch_cX12_walker_64 rfl) rfl
theorem dX12_walker_90 : decode cX12_walker 90 = .ok (.iload 5, 2) := do_21 (rdb (p := 64) (i := 26) ch_cX12_walker_64 rfl) (rdb (p := 64) (i := 27) ch_cX12_walker_64 rfl)
theorem dX12_walker_92 : decode cX12_walker 92 = .ok (.iconst 1, 1) := do_4 (rdb (p := 64) (i := 28) ch_cX12_walker_64 rfl)
theorem dX12_walker_93 : decode cX12_walker 93 = .ok (.iadd, 1) := do_96 (rdb (p := 64) (i := 29) ch_cX12_walker_64 rfl)
theorem dX12_walker_94 : decode cX12_walker 94 = .ok (.iload_n 2, 1) := do_28 (rdb (p := 64) (i := 30) ch_cX12_walker_64 rfl)
theorem dX12_walker_95 : decode cX12_walker 95 = .ok (.iastore, 1) := do_79 (rdb (p := 64) (i := 31) ch_cX12_walker_64 rfl)
theorem ch_cX12_walker_96 : (cX12_walker.data.toList.drop 96).take 36 = [42, 180, 0, 9, 21, 5, 5, 96, 29, 79, 42, 180, 0, 9, 21, 5, 6, 96, 8, 79, 42, 180, 0, 9, 21, 5, 7, 96, 16, 60, 79, 42, 180, 0, 9, 5] := by decide +kernel
theorem dX12_walker_96 : decode cX12_walker 96 = .ok (.aload_n 0, 1) := do_42 (rdb (p := 96) (i := 0) ch_cX12_walker_96 rfl)
theorem dX12_walker_97 : decode cX12_walker 97 = .ok (.getfield 9, 3) := do_180 (rdb (p := 96) (i := 1) ch_cX12_walker_96 rfl) (rdb (p := 96) (i := 2) ch_cX12_walker_96 rfl) (rdb (p := 96) (i := 3) ch_cX12_walker_96 rfl) rfl
theorem dX12_walker_100 : decode cX12_walker 100 = .ok (.iload 5, 2) := do_21 (rdb (p := 96) (i := 4) ch_cX12_walker_96 rfl) (rdb (p := 96) (i := 5) ch_cX12_walker_96 rfl)
theorem dX12_walker_102 : decode cX12_walker 102 = .ok (.iconst 2, 1) := do_5 (rdb (p := 96) (i := 6) ch_cX12_walker_96 rfl)
theorem dX12_walker_103 : decode cX12_walker 103 = .ok (.iadd, 1) := do_96 (rdb (p := 96) (i := 7) ch_cX12_walker_96 rfl)
theorem dX12_walker_104 : decode cX12_walker 104 = .ok (.iload_n 3, 1) := do_29 (rdb (p := 96) (i := 8) ch_cX12_walker_96 rfl)
theorem dX12_walker_105 : decode cX12_walker 105 = .ok (.iastore, 1) := do_79 (rdb (p := 96) (i := 9) ch_cX12_walker_96 rfl)
theorem dX12_walker_106 : decode cX12_walker 106 = .ok (.aload_n 0, 1) := do_42 (rdb (p := 96) (i := 10) ch_cX12_walker_96 rfl)
theorem dX12_walker_107 : decode cX12_walker 107 = .ok (.getfield 9, 3) := do_180 (rdb (p := 96) (i := 11) ch_cX12_walker_96 rfl) (rdb (p := 96) (i := 12) ch_cX12_walker_96 rfl) (rdb (p := 96) (i := 13) ch_cX12_walker_96 rfl) rfl
theorem dX12_walker_110 : decode cX12_walker 110 = .ok (.iload 5, 2) := do_21 (rdb (p := 96) (i := 14) ch_cX12_walker_96 rfl) (rdb (p := 96) (i := 15) ch_cX12_walker_96 rfl)
theorem dX12_walker_112 : decode cX12_walker 112 = .ok (.iconst 3, 1) := do_6 (rdb (p := 96) (i := 16) ch_cX12_walker_96 rfl)
theorem dX12_walker_113 : decode cX12_walker 113 = .ok (.iadd, 1) := do_96 (rdb (p := 96) (i := 17) ch_cX12_walker_96 rfl)
theorem dX12_walker_114 : decode cX12_walker 114 = .ok (.iconst 5, 1) := do_8 (rdb (p := 96) (i := 18) ch_cX12_walker_96 rfl)
theorem dX12_walker_115 : decode cX12_walker 115 = .ok (.iastore, 1) := do_79 (rdb (p := 96) (i := 19) ch_cX12_walker_96 rfl)
theorem dX12_walker_116 : decode cX12_walker 116 = .ok (.aload_n 0, 1) := do_42 (rdb (p := 96) (i := 20) ch_cX12_walker_96 rfl)
theorem dX12_walker_117 : decode cX12_walker 117 = .ok (.getfield 9, 3) := do_180 (rdb (p := 96) (i := 21) ch_cX12_walker_96 rfl) (rdb (p := 96) (i := 22) ch_cX12_walker_96 rfl) (rdb (p := 96) (i := 23) ch_cX12_walker_96 rfl) rfl
theorem dX12_walker_120 : decode cX12_walker 120 = .ok (.iload 5, 2) := do_21 (rdb (p := 96) (i := 24) ch_cX12_walker_96 rfl) (rdb (p := 96) (i := 25) ch_cX12_walker_96 rfl)
theorem dX12_walker_122 : decode cX12_walker 122 = .ok (.iconst 4, 1) := do_7 (rdb (p := 96) (i := 26) ch_cX12_walker_96 rfl)
theorem dX12_walker_123 : decode cX12_walker 123 = .ok (.iadd, 1) := do_96 (rdb (p := 96) (i := 27) ch_cX12_walker_96 rfl)
theorem dX12_walker_124 : decode cX12_walker 124 = .ok (.bipush 60, 2) := do_16 (rdb (p := 96) (i := 28) ch_cX12_walker_96 rfl) (rdb (p := 96) (i := 29) ch_cX12_walker_96 rfl) (by decide +kernel)
theorem dX12_walker_126 : decode cX12_walker 126 = .ok (.iastore, 1) := do_79 (rdb (p := 96) (i := 30) ch_cX12_walker_96 rfl)
theorem dX12_walker_127 : decode cX12_walker 127 = .ok (.aload_n 0, 1) := do_42 (rdb (p := 96) (i := 31) ch_cX12_walker_96 rfl)
theorem ch_cX12_walker_128 : (cX12_walker.data.toList.drop 128).take 36 = [180, 0, 9, 5, 92, 46, 4, 96, 79, 21, 4, 172] := by decide +kernel
theorem dX12_walker_128 : decode cX12_walker 128 = .ok (.getfield 9, 3) := do_180 (rdb (p := 128) (i := 0) ch_cX12_walker_128 rfl) (rdb (p := 128) (i := 1) ch_cX12_walker_128 rfl) (rdb (p := 128) (i := 2) ch_cX12_walker_128 rfl) rfl
theorem dX12_walker_131 : decode cX12_walker 131 = .ok (.iconst 2, 1) := do_5 (rdb (p := 128) (i := 3) ch_cX12_walker_128 rfl)
theorem dX12_walker_132 : decode cX12_walker 132 = .ok (.dup2, 1) := do_92 (rdb (p := 128) (i := 4) ch_cX12_walker_128 rfl)
theorem dX12_walker_133 : decode cX12_walker 133 = .ok (.iaload, 1) := do_46 (rdb (p := 128) (i := 5) ch_cX12_walker_128 rfl)
theorem dX12_walker_134 : decode cX12_walker 134 = .ok (.iconst 1, 1) := do_4 (rdb (p := 128) (i := 6) ch_cX12_walker_128 rfl)
theorem dX12_walker_135 : decode cX12_walker 135 = .ok (.iadd, 1) := do_96 (rdb (p := 128) (i := 7) ch_cX12_walker_128 rfl)
theorem dX12_walker_136 : decode cX12_walker 136 = .ok (.iastore, 1) := do_79 (rdb (p := 128) (i := 8) ch_cX12_walker_128 rfl)
theorem dX12_walker_137 : decode cX12_walker 137 = .ok (.iload 4, 2) := do_21 (rdb (p := 128) (i := 9) ch_cX12_walker_128 rfl) (rdb (p := 128) (i := 10) ch_cX12_walker_128 rfl)
theorem dX12_walker_139 : decode cX12_walker 139 = .ok (.ireturn, 1) := do_172 (rdb (p := 128) (i := 11) ch_cX12_walker_128 rfl)
theorem ch_cX12_walkerIs_0 : (cX12_walkerIs.data.toList.drop 0).take 36 = [42, 27, 5, 182, 0, 116, 153, 0, 13, 28, 3, 16, 11, 184, 0, 85, 154, 0, 10, 42, 18, 103, 182, 0, 104, 172, 28, 16, 9, 162, 0, 18, 42, 180, 0, 9] := by decide +kernel
theorem dX12_walkerIs_0 : decode cX12_walkerIs 0 = .ok (.aload_n 0, 1) := do_42 (rdb (p := 0) (i := 0) ch_cX12_walkerIs_0 rfl)
theorem dX12_walkerIs_1 : decode cX12_walkerIs 1 = .ok (.iload_n 1, 1) := do_27 (rdb (p := 0) (i := 1) ch_cX12_walkerIs_0 rfl)
theorem dX12_walkerIs_2 : decode cX12_walkerIs 2 = .ok (.iconst 2, 1) := do_5 (rdb (p := 0) (i := 2) ch_cX12_walkerIs_0 rfl)
theorem dX12_walkerIs_3 : decode cX12_walkerIs 3 = .ok (.invokevirtual 116, 3) := do_182 (rdb (p := 0) (i := 3) ch_cX12_walkerIs_0 rfl) (rdb (p := 0) (i := 4) ch_cX12_walkerIs_0 rfl) (rdb (p := 0) (i := 5) ch_cX12_walkerIs_0 rfl) rfl
theorem dX12_walkerIs_6 : decode cX12_walkerIs 6 = .ok (.ifCond .eq 13, 3) := do_153 (rdb (p := 0) (i := 6) ch_cX12_walkerIs_0 rfl) (rdb (p := 0) (i := 7) ch_cX12_walkerIs_0 rfl) (rdb (p := 0) (i := 8) ch_cX12_walkerIs_0 rfl) (by decide +kernel)
theorem dX12_walkerIs_9 : decode cX12_walkerIs 9 = .ok (.iload_n 2, 1) := do_28 (rdb (p := 0) (i := 9) ch_cX12_walkerIs_0 rfl)
theorem dX12_walkerIs_10 : decode cX12_walkerIs 10 = .ok (.iconst 0, 1) := do_3 (rdb (p := 0) (i := 10) ch_cX12_walkerIs_0 rfl)
theorem dX12_walkerIs_11 : decode cX12_walkerIs 11 = .ok (.bipush 11, 2) := do_16 (rdb (p := 0) (i := 11) ch_cX12_walkerIs_0 rfl) (rdb (p := 0) (i := 12) ch_cX12_walkerIs_0 rfl) (by decide +kernel)
theorem dX12_walkerIs_13 : decode cX12_walkerIs 13 = .ok (.invokestatic 85, 3) := do_184 (rdb (p := 0) (i := 13) ch_cX12_walkerIs_0 rfl) (rdb (p := 0) (i := 14) ch_cX12_walkerIs_0 rfl) (rdb (p := 0) (i := 15) ch_cX12_walkerIs_0 rfl) rfl
theorem dX12_walkerIs_16 : decode cX12_walkerIs 16 = .ok (.ifCond .ne 10, 3) := do_154 (rdb (p := 0) (i := 16) ch_cX12_walkerIs_0 rfl) (rdb (p := 0) (i := 17) ch_cX12_walkerIs_0 rfl) (rdb (p := 0) (i := 18) ch_cX12_walkerIs_0 rfl) (by decide +kernel)
theorem dX12_walkerIs_19 : decode cX12_walkerIs 19 = .ok (.aload_n 0, 1) := do_42 (rdb (p := 0) (i := 19) ch_cX12_walkerIs_0 rfl)
theorem dX12_walkerIs_20 : decode cX12_walkerIs 20 = .ok (.ldc 103, 2) := do_18 (rdb (p := 0) (i := 20) ch_cX12_walkerIs_0 rfl) (rdb (p := 0) (i := 21) ch_cX12_walkerIs_0 rfl)
theorem dX12_walkerIs_22 : decode cX12_walkerIs 22 = .ok (.invokevirtual 104, 3) := do_182 (rdb (p := 0) (i := 22) ch_cX12_walkerIs_0 rfl) (rdb (p := 0) (i := 23) ch_cX12_walkerIs_0 rfl) (rdb (p := 0) (i := 24) ch_cX12_walkerIs_0 rfl) rfl
theorem dX12_walkerIs_25 : decode cX12_walkerIs 25 = .ok (.ireturn, 1) := do_172 (rdb (p := 0) (i := 25) ch_cX12_walkerIs_0 rfl)
theorem dX12_walkerIs_26 : decode cX12_walkerIs 26 = .ok (.iload_n 2, 1) := do_28 (rdb (p := 0) (i := 26) ch_cX12_walkerIs_0 rfl)
theorem dX12_walkerIs_27 : decode cX12_walkerIs 27 = .ok (.bipush 9, 2) := do_16 (rdb (p := 0) (i := 27) ch_cX12_walkerIs_0 rfl) (rdb (p := 0) (i := 28) ch_cX12_walkerIs_0 rfl) (by decide +kernel)
theorem dX12_walkerIs_29 : decode cX12_walkerIs 29 = .ok (.if_icmp .ge 18, 3) := do_162 (rdb (p := 0) (i := 29) ch_cX12_walkerIs_0 rfl) (rdb (p := 0) (i := 30) ch_cX12_walkerIs_0 rfl) (rdb (p := 0) (i := 31) ch_cX12_walkerIs_0 rfl) (by decide +kernel)
theorem ch_cX12_walkerIs_32 : (cX12_walkerIs.data.toList.drop 32).take 36 = [42, 180, 0, 9, 42, 27, 182, 0, 93, 28, 96, 46, 167, 0, 46, 28, 16, 9, 160, 0, 11, 42, 27, 182, 0, 140, 167, 0, 32, 28, 16, 11, 160, 0, 11, 42] := by decide +kernel
theorem dX12_walkerIs_32 : decode cX12_walkerIs 32 = .ok (.aload_n 0, 1) := do_42 (rdb (p := 32) (i := 0) ch_cX12_walkerIs_32 rfl)
theorem dX12_walkerIs_33 : decode cX12_walkerIs 33 = .ok (.getfield 9, 3) := do_180 (rdb (p := 32) (i := 1) ch_cX12_walkerIs_32 rfl) (rdb (p := 32) (i := 2) ch_cX12_walkerIs_32 rfl) (rdb (p := 32) (i := 3) ch_cX12_walkerIs_32 rfl) rfl
theorem dX12_walkerIs_36 : decode cX12_walkerIs 36 = .ok (.aload_n 0, 1) := do_42 (rdb (p := 32) (i := 4) ch_cX12_walkerIs_32 rfl)
theorem dX12_walkerIs_37 : decode cX12_walkerIs 37 = .ok (.iload_n 1, 1) := do_27 (rdb (p := 32) (i := 5) ch_cX12_walkerIs_32 rfl)
theorem dX12_walkerIs_38 : decode cX12_walkerIs 38 = .ok (.invokevirtual 93, 3) := do_182 (rdb (p := 32) (i := 6) ch_cX12_walkerIs_32 rfl) (rdb (p := 32) (i := 7) ch_cX12_walkerIs_32 rfl) (rdb (p := 32) (i := 8) ch_cX12_walkerIs_32 rfl) rfl
theorem dX12_walkerIs_41 : decode cX12_walkerIs 41 = .ok (.iload_n 2, 1) := do_28 (rdb (p := 32) (i := 9) ch_cX12_walkerIs_32 rfl)
theorem dX12_walkerIs_42 : decode cX12_walkerIs 42 = .ok (.iadd, 1) := do_96 (rdb (p := 32) (i := 10) ch_cX12_walkerIs_32 rfl)
theorem dX12_walkerIs_43 : decode cX12_walkerIs 43 = .ok (.iaload, 1) := do_46 (rdb (p := 32) (i := 11) ch_cX12_walkerIs_32 rfl)
theorem dX12_walkerIs_44 : decode cX12_walkerIs 44 = .ok (.goto 46, 3) := do_167 (rdb (p := 32) (i := 12) ch_cX12_walkerIs_32 rfl) (rdb (p := 32) (i := 13) ch_cX12_walkerIs_32 rfl) (rdb (p := 32) (i := 14) ch_cX12_walkerIs_32 rfl) (by decide +kernel)
theorem dX12_walkerIs_47 : decode cX12_walkerIs 47 = .ok (.iload_n 2, 1) := do_28 (rdb (p := 32) (i := 15) ch_cX12_walkerIs_32 rfl)
theorem dX12_walkerIs_48 : decode cX12_walkerIs 48 = .ok (.bipush 9, 2) := do_16 (rdb (p := 32) (i := 16) ch_cX12_walkerIs_32 rfl) (rdb (p := 32) (i := 17) ch_cX12_walkerIs_32 rfl) (by decide +kernel)
theorem dX12_walkerIs_50 : decode cX12_walkerIs 50 = .ok (.if_icmp .ne 11, 3) := do_160 (rdb (p := 32) (i := 18) ch_cX12_walkerIs_32 rfl) (rdb (p := 32) (i := 19) ch_cX12_walkerIs_32 rfl) (rdb (p := 32) (i := 20) ch_cX12_walkerIs_32 rfl) (by decide +kernel)
theorem dX12_walkerIs_53 : decode cX12_walkerIs 53 = .ok (.aload_n 0, 1) := do_42 (rdb (p := 32) (i := 21) ch_cX12_walkerIs_32 rfl)
theorem dX12_walkerIs_54 : decode cX12_walkerIs 54 = .ok (.iload_n 1, 1) := do_27 (rdb (p := 32) (i := 22) ch_cX12_walkerIs_32 rfl)
theorem dX12_walkerIs_55 : decode cX12_walkerIs 55 = .ok (.invokevirtual 140, 3) := do_182 (rdb (p := 32) (i := 23) ch_cX12_walkerIs_32 rfl) (rdb (p := 32) (i := 24) ch_cX12_walkerIs_32 rfl) (rdb (p := 32) (i := 25) ch_cX12_walkerIs_32 rfl) rfl
theorem dX12_walkerIs_58 : decode cX12_walkerIs 58 = .ok (.goto 32, 3) := do_167 (rdb (p := 32) (i := 26) ch_cX12_walkerIs_32 rfl) (rdb (p := 32) (i := 27) ch_cX12_walkerIs_32 rfl) (rdb (p := 32) (i := 28) ch_cX12_walkerIs_32 rfl) (by decide +kernel)
theorem dX12_walkerIs_61 : decode cX12_walkerIs 61 = .ok (.iload_n 2, 1) := do_28 (rdb (p := 32) (i := 29) ch_cX12_walkerIs_32 rfl)
theorem dX12_walkerIs_62 : decode cX12_walkerIs 62 = .ok (.bipush 11, 2) := do_16 (rdb (p := 32) (i := 30) ch_cX12_walkerIs_32 rfl) (rdb (p := 32) (i := 31) ch_cX12_walkerIs_32 rfl) (by decide +kernel)
theorem ch_cX12_walkerIs_64 : (cX12_walkerIs.data.toList.drop 64).take 36 = [160, 0, 11, 42, 27, 182, 0, 143, 167, 0, 18, 42, 27, 182, 0, 137, 16, 7, 160, 0, 7, 5, 167, 0, 4, 4, 172] := by decide +kernel
theorem dX12_walkerIs_64 : decode cX12_walkerIs 64 = .ok (.if_icmp .ne 11, 3) := do_160 (rdb (p := 64) (i := 0) ch_cX12_walkerIs_64 rfl) (rdb (p := 64) (i := 1) ch_cX12_walkerIs_64 rfl) (rdb (p := 64) (i := 2) ch_cX12_walkerIs_64 rfl) (by decide +kernel)
theorem dX12_walkerIs_67 : decode cX12_walkerIs 67 = .ok (.aload_n 0, 1) := do_42 (rdb (p := 64) (i := 3) ch_cX12_walkerIs_64 rfl)
theorem dX12_walkerIs_68 : decode cX12_walkerIs 68 = .ok (.iload_n 1, 1) := do_27 (rdb (p := 64) (i := 4) ch_cX12_walkerIs_64 rfl)
theorem dX12_walkerIs_69 : decode cX12_walkerIs 69 = .ok (.invokevirtual 143, 3) := do_182 (rdb (p := 64) (i := 5) ch_cX12_walkerIs_64 rfl) (rdb (p := 64) (i := 6) ch_cX12_walkerIs_64 rfl) (rdb (p := 64) (i := 7) ch_cX12_walkerIs_64 rfl) rfl
theorem dX12_walkerIs_72 : decode cX12_walkerIs 72 = .ok (.goto 18, 3) := do_167 (rdb (p := 64) (i := 8) ch_cX12_walkerIs_64 rfl) (rdb (p := 64) (i := 9) ch_cX12_walkerIs_64 rfl) (rdb (p := 64) (i := 10) ch_cX12_walkerIs_64 rfl) (by decide +kernel)
theorem dX12_walkerIs_75 : decode cX12_walkerIs 75 = .ok (.aload_n 0, 1) := do_42 (rdb (p := 64) (i := 11) ch_cX12_walkerIs_64 rfl)
theorem dX12_walkerIs_76 : decode cX12_walkerIs 76 = .ok (.iload_n 1, 1) := do_27 (rdb (p := 64) (i := 12) ch_cX12_walkerIs_64 rfl)
theorem dX12_walkerIs_77 : decode cX12_walkerIs 77 = .ok (.invokevirtual 137, 3) := do_182 (rdb (p := 64) (i := 13) ch_cX12_walkerIs_64 rfl) (rdb (p := 64) (i := 14) ch_cX12_walkerIs_64 rfl) (rdb (p := 64) (i := 15) ch_cX12_walkerIs_64 rfl) rfl
theorem dX12_walkerIs_80 : decode cX12_walkerIs 80 = .ok (.bipush 7, 2) := do_16 (rdb (p := 64) (i := 16) ch_cX12_walkerIs_64 rfl) (rdb (p := 64) (i := 17) ch_cX12_walkerIs_64 rfl) (by decide +kernel)
theorem dX12_walkerIs_82 : decode cX12_walkerIs 82 = .ok (.if_icmp .ne 7, 3) := do_160 (rdb (p := 64) (i := 18) ch_cX12_walkerIs_64 rfl) (rdb (p := 64) (i := 19) ch_cX12_walkerIs_64 rfl) (rdb (p := 64) (i := 20) ch_cX12_walkerIs_64 rfl) (by decide +kernel)
theorem dX12_walkerIs_85 : decode cX12_walkerIs 85 = .ok (.iconst 2, 1) := do_5 (rdb (p := 64) (i := 21) ch_cX12_walkerIs_64 rfl)
theorem dX12_walkerIs_86 : decode cX12_walkerIs 86 = .ok (.goto 4, 3) := do_167 (rdb (p := 64) (i := 22) ch_cX12_walkerIs_64 rfl) (rdb (p := 64) (i := 23) ch_cX12_walkerIs_64 rfl) (rdb (p := 64) (i := 24) ch_cX12_walkerIs_64 rfl) (by decide +kernel)
theorem dX12_walkerIs_89 : decode cX12_walkerIs 89 = .ok (.iconst 1, 1) := do_4 (rdb (p := 64) (i := 25) ch_cX12_walkerIs_64 rfl)
theorem dX12_walkerIs_90 : decode cX12_walkerIs 90 = .ok (.ireturn, 1) := do_172 (rdb (p := 64) (i := 26) ch_cX12_walkerIs_64 rfl)
end
section
def S_c_X12_thing_ : rf → Nat → Prop := fun c k => (c.1 = 50 ∧ c.2.1 = 0) ∨ (c.1 = 53 ∧ c.2.1 = 0) ∨ False
def SP_X12_thing_ (v : Int32) (u : Int32) (Mz : mM) (r_ : Int32) (M_ : mM) : Prop := (((SP_X12_within v 0 4 Mz (1 : Int32)) ∧ (0 ≤ v.toInt ∧ v.toInt ≤ 4) ∧ (((SP_X12_isCell u Mz (1 : Int32)) ∧ (0 ≤ u.toInt ∧ u.toInt ≤ 191) ∧ ∃ r13_ : Int32, (SP_X12_isFree u Mz r13_) ∧ ((0 ≤ r13_.toInt ∧ r13_.toInt ≤ 1)) ∧ (((¬ r13_.toInt = 0) ∧ ∃ z19_ : Int32, (z19_ = Mz.1 (50, 0, 0) 1) ∧ (0 ≤ z19_.toInt ∧ z19_.toInt ≤ 40) ∧ (((¬ z19_.toInt = 40) ∧ ∃ M24_ : mM, (InvD M24_) ∧ (FR (S_c_X12_comes) Mz M24_) ∧ ∃ r23_ : Int32, (SP_X12_comes v u Mz r23_ M24_) ∧ (0 ≤ r23_.toInt ∧ r23_.toInt ≤ 39) ∧ r_ = r23_ ∧ M_ = M24_) ∨ ((z19_.toInt = 40) ∧ ∃ M32_ : mM, (InvD M32_) ∧ (FR (S_c_X12_finding) Mz M32_) ∧ ∃ r31_ : Int32, (SP_X12_finding (-1000004) Mz r31_ M32_) ∧ (r31_.toInt = (-1000004)) ∧ r_ = r31_ ∧ M_ = M32_))) ∨ ((r13_.toInt = 0) ∧ ∃ M40_ : mM, (InvD M40_) ∧ (FR (S_c_X12_finding) Mz M40_) ∧ ∃ r39_ : Int32, (SP_X12_finding (-1000003) Mz r39_ M40_) ∧ (r39_.toInt = (-1000003)) ∧ r_ = r39_ ∧ M_ = M40_))) ∨ ((SP_X12_isCell u Mz (0 : Int32)) ∧ (¬ (0 ≤ u.toInt ∧ u.toInt ≤ 191)) ∧ ∃ M49_ : mM, (InvD M49_) ∧ (FR (S_c_X12_finding) Mz M49_) ∧ ∃ r48_ : Int32, (SP_X12_finding (-1000001) Mz r48_ M49_) ∧ (r48_.toInt = (-1000001)) ∧ r_ = r48_ ∧ M_ = M49_))) ∨ ((SP_X12_within v 0 4 Mz (0 : Int32)) ∧ (¬ (0 ≤ v.toInt ∧ v.toInt ≤ 4)) ∧ ∃ M58_ : mM, (InvD M58_) ∧ (FR (S_c_X12_finding) Mz M58_) ∧ ∃ r57_ : Int32, (SP_X12_finding (-1000001) Mz r57_ M58_) ∧ (r57_.toInt = (-1000001)) ∧ r_ = r57_ ∧ M_ = M58_))
theorem lf_c_X12_thing__0 (z19_ : Int32) (h21_ : 0 ≤ z19_.toInt ∧ z19_.toInt ≤ 40) (h22_ : ¬ z19_.toInt = 40) : z19_.toInt ≤ 39 := by omega
set_option maxHeartbeats 4000000 in
set_option maxRecDepth 100000 in
theorem c_X12_thing_ (l : Launch) (G : va_G) (cy : Nat → ClassId) (ad : rf → Nat) (d : Nat) (v : Int32) (u : Int32) (Mz : mM) (hIz : InvD Mz) : WP DD l G cy ad yX12_thing_ cX12_thing_ 3 (some .int) (d + 3) 0 [(0, vR (12, 0, 0)), (1, vI v), (2, vI u)] [] Mz (fun r M' => InvD M' ∧ FR (S_c_X12_thing_) Mz M' ∧ (True) ∧ SP_X12_thing_ v u Mz r M') := by
  have hFz : FR (S_c_X12_thing_) Mz Mz := FR.self
  refine w_iload_n dX12_thing__0 rfl 1 rfl ?_
  refine w_iconst (v := 0) dX12_thing__1 (by decide) ?_
  refine w_iconst (v := 4) dX12_thing__2 (by decide) ?_
  refine w_callS (as := [vI v, vI 0, vI 4]) (rest := []) (c_X12_within l G cy ad (d + 2) v 0 4 Mz hIz) kS_X12_within pnn_17 (Nat.le_of_ble_eq_true rfl) m_1427 rfl rfl (by decide) (Nat.le_of_ble_eq_true rfl) dX12_thing__3 (fun r1_ M2_ q3_ => ?_)
  obtain ⟨rfl, h4_, hs5_⟩ := q3_
  rcases h4_ with ⟨rfl, h4_⟩ | ⟨rfl, h4_⟩
  · simp only [li_0, li_4] at h4_
    refine w_if_eq (tgt := 16) dX12_thing__6 (by decide) li_1 (fun h9 => (absurd h9 (by decide))) (fun h6_ => ?_)
    refine w_iload_n dX12_thing__9 rfl 2 rfl ?_
    refine w_callS (as := [vI u]) (rest := []) (c_X12_isCell l G cy ad (d + 1) u Mz hIz) kS_X12_isCell pnn_17 (Nat.le_of_ble_eq_true rfl) m_1430 rfl rfl (by decide) (Nat.le_of_ble_eq_true rfl) dX12_thing__10 (fun r7_ M8_ q9_ => ?_)
    obtain ⟨rfl, h10_, hs11_⟩ := q9_
    rcases h10_ with ⟨rfl, h10_⟩ | ⟨rfl, h10_⟩
    · refine w_if_ne (tgt := 23) dX12_thing__13 (by decide) li_1 (fun h12_ => ?_) (fun h9 => (absurd h9 (by decide)))
      refine w_aload_n dX12_thing__23 rfl 0 rfl ?_
      refine w_iload_n dX12_thing__24 rfl 2 rfl ?_
      refine w_callV (as := [vI u]) (rest := []) (c_X12_isFree l G cy ad d u Mz hIz) kV_X12_isFree pnn_17 (Nat.le_of_ble_eq_true rfl) m_1439 rfl rfl rfl ic_12 rfl rfl (by decide) (Nat.le_of_ble_eq_true rfl) dX12_thing__25 (fun r13_ M14_ q15_ => ?_)
      obtain ⟨rfl, h16_, hs17_⟩ := q15_
      refine w_if_ne (tgt := 38) dX12_thing__28 (by decide) (rfl : r13_.toInt = r13_.toInt) (fun h18_ => ?_) (fun h18_ => ?_)
      · refine w_aload_n dX12_thing__38 rfl 0 rfl ?_
        refine w_getR (c' := (50, 0, 0)) fl_RX12_9 rfl rfl ic_12 dX12_thing__39 rfl ?_
        refine w_iconst (v := 1) dX12_thing__42 (by decide) ?_
        refine w_ialdL 1 rfl rfl ic_50 li_1 (by decide) dX12_thing__43 (fun z19_ e20_ => ?_)
        have h21_ : 0 ≤ z19_.toInt ∧ z19_.toInt ≤ 40 := pn_1 hIz e20_
        refine w_bipush (v := 40) dX12_thing__44 (by decide) ?_
        refine w_icmp_ne (tgt := 58) dX12_thing__46 (by decide) (rfl : z19_.toInt = z19_.toInt) li_40 (fun h22_ => ?_) (fun h22_ => ?_)
        · refine w_aload_n dX12_thing__58 rfl 0 rfl ?_
          refine w_iload_n dX12_thing__59 rfl 1 rfl ?_
          refine w_iload_n dX12_thing__60 rfl 2 rfl ?_
          refine w_callV (as := [vI v, vI u]) (rest := []) (c_X12_comes l G cy ad (d + 1) v u Mz hIz h4_ h10_ (by rw [← e20_]; exact (lf_c_X12_thing__0 z19_ h21_ h22_ ))) kV_X12_comes pnn_17 (Nat.le_of_ble_eq_true rfl) m_1457 rfl rfl rfl ic_12 rfl rfl (by decide) (Nat.le_of_ble_eq_true rfl) dX12_thing__61 (fun r23_ M24_ q25_ => ?_)
          obtain ⟨hI27_, hF28_, h26_, hs30_⟩ := q25_
          have hF29_ := hFz.tr hF28_ (fun c k => (fun h => h.elim (fun h => (Or.inl ⟨h.1, h.2⟩)) (fun h => h.elim)))
          exact w_iret rfl dX12_thing__64 ⟨hI27_, hF29_, trivial, (Or.inl ⟨hs5_, h4_, (Or.inl ⟨hs11_, h10_, r13_, hs17_, h16_, (Or.inl ⟨h18_, z19_, e20_, h21_, (Or.inl ⟨h22_, M24_, hI27_, hF28_, r23_, hs30_, h26_, rfl, rfl⟩)⟩)⟩)⟩)⟩
        · refine w_aload_n dX12_thing__49 rfl 0 rfl ?_
          refine w_ldc (v := (-1000004)) m_1456 dX12_thing__50 ?_
          refine w_callV (as := [vI (-1000004)]) (rest := []) (c_X12_finding l G cy ad (d + 2) (-1000004) Mz hIz (by first | decide | (unfold vF; omega) | (unfold vRw; omega))) kV_X12_finding pnn_17 (Nat.le_of_ble_eq_true rfl) m_1434 rfl rfl rfl ic_12 rfl rfl (by decide) (Nat.le_of_ble_eq_true rfl) dX12_thing__52 (fun r31_ M32_ q33_ => ?_)
          obtain ⟨hI35_, hF36_, h34_, hs38_⟩ := q33_
          have hF37_ := hFz.tr hF36_ (fun c k => (fun h => h.elim (fun h => (Or.inr (Or.inl ⟨h.1, h.2⟩))) (fun h => h.elim)))
          simp only [li_m1000004] at h34_
          refine w_goto (tgt := 64) dX12_thing__55 (by decide) ?_
          exact w_iret rfl dX12_thing__64 ⟨hI35_, hF37_, trivial, (Or.inl ⟨hs5_, h4_, (Or.inl ⟨hs11_, h10_, r13_, hs17_, h16_, (Or.inl ⟨h18_, z19_, e20_, h21_, (Or.inr ⟨h22_, M32_, hI35_, hF36_, r31_, hs38_, h34_, rfl, rfl⟩)⟩)⟩)⟩)⟩
      · refine w_aload_n dX12_thing__31 rfl 0 rfl ?_
        refine w_ldc (v := (-1000003)) m_1455 dX12_thing__32 ?_
        refine w_callV (as := [vI (-1000003)]) (rest := []) (c_X12_finding l G cy ad (d + 2) (-1000003) Mz hIz (by first | decide | (unfold vF; omega) | (unfold vRw; omega))) kV_X12_finding pnn_17 (Nat.le_of_ble_eq_true rfl) m_1434 rfl rfl rfl ic_12 rfl rfl (by decide) (Nat.le_of_ble_eq_true rfl) dX12_thing__34 (fun r39_ M40_ q41_ => ?_)
        obtain ⟨hI43_, hF44_, h42_, hs46_⟩ := q41_
        have hF45_ := hFz.tr hF44_ (fun c k => (fun h => h.elim (fun h => (Or.inr (Or.inl ⟨h.1, h.2⟩))) (fun h => h.elim)))
        simp only [li_m1000003] at h42_
        exact w_iret rfl dX12_thing__37 ⟨hI43_, hF45_, trivial, (Or.inl ⟨hs5_, h4_, (Or.inl ⟨hs11_, h10_, r13_, hs17_, h16_, (Or.inr ⟨h18_, M40_, hI43_, hF44_, r39_, hs46_, h42_, rfl, rfl⟩)⟩)⟩)⟩
    · refine w_if_ne (tgt := 23) dX12_thing__13 (by decide) li_0 (fun h9 => (absurd h9 (by decide))) (fun h47_ => ?_)
      refine w_aload_n dX12_thing__16 rfl 0 rfl ?_
      refine w_ldc (v := (-1000001)) m_1433 dX12_thing__17 ?_
      refine w_callV (as := [vI (-1000001)]) (rest := []) (c_X12_finding l G cy ad (d + 2) (-1000001) Mz hIz (by first | decide | (unfold vF; omega) | (unfold vRw; omega))) kV_X12_finding pnn_17 (Nat.le_of_ble_eq_true rfl) m_1434 rfl rfl rfl ic_12 rfl rfl (by decide) (Nat.le_of_ble_eq_true rfl) dX12_thing__19 (fun r48_ M49_ q50_ => ?_)
      obtain ⟨hI52_, hF53_, h51_, hs55_⟩ := q50_
      have hF54_ := hFz.tr hF53_ (fun c k => (fun h => h.elim (fun h => (Or.inr (Or.inl ⟨h.1, h.2⟩))) (fun h => h.elim)))
      simp only [li_m1000001] at h51_
      exact w_iret rfl dX12_thing__22 ⟨hI52_, hF54_, trivial, (Or.inl ⟨hs5_, h4_, (Or.inr ⟨hs11_, h10_, M49_, hI52_, hF53_, r48_, hs55_, h51_, rfl, rfl⟩)⟩)⟩
  · simp only [li_0, li_4] at h4_
    refine w_if_eq (tgt := 16) dX12_thing__6 (by decide) li_0 (fun h56_ => ?_) (fun h9 => (absurd h9 (by decide)))
    refine w_aload_n dX12_thing__16 rfl 0 rfl ?_
    refine w_ldc (v := (-1000001)) m_1433 dX12_thing__17 ?_
    refine w_callV (as := [vI (-1000001)]) (rest := []) (c_X12_finding l G cy ad (d + 2) (-1000001) Mz hIz (by first | decide | (unfold vF; omega) | (unfold vRw; omega))) kV_X12_finding pnn_17 (Nat.le_of_ble_eq_true rfl) m_1434 rfl rfl rfl ic_12 rfl rfl (by decide) (Nat.le_of_ble_eq_true rfl) dX12_thing__19 (fun r57_ M58_ q59_ => ?_)
    obtain ⟨hI61_, hF62_, h60_, hs64_⟩ := q59_
    have hF63_ := hFz.tr hF62_ (fun c k => (fun h => h.elim (fun h => (Or.inr (Or.inl ⟨h.1, h.2⟩))) (fun h => h.elim)))
    simp only [li_m1000001] at h60_
    exact w_iret rfl dX12_thing__22 ⟨hI61_, hF63_, trivial, (Or.inr ⟨hs5_, h4_, M58_, hI61_, hF62_, r57_, hs64_, h60_, rfl, rfl⟩)⟩
def S_c_X12_thingIs : rf → Nat → Prop := fun c k => (c.1 = 53 ∧ c.2.1 = 0) ∨ False
def SP_X12_thingIs (v : Int32) (u : Int32) (Mz : mM) (r_ : Int32) (M_ : mM) : Prop := (((SP_is1 v Mz (1 : Int32)) ∧ (0 ≤ v.toInt ∧ v.toInt ≤ 39) ∧ (((SP_X12_within u 0 3 Mz (1 : Int32)) ∧ (0 ≤ u.toInt ∧ u.toInt ≤ 3) ∧ ∃ r13_ : Int32, (SP_X12_thing v Mz r13_) ∧ (r13_.toInt = 20 + 4 * v.toInt) ∧ ∃ z18_ : Int32, (z18_.toInt = r13_.toInt + u.toInt) ∧ ∃ j22_ : Nat, ((j22_ : Int) = z18_.toInt) ∧ ∃ z20_ : Int32, (z20_ = Mz.1 (50, 0, 0) j22_) ∧ r_ = z20_ ∧ M_ = Mz) ∨ ((SP_X12_within u 0 3 Mz (0 : Int32)) ∧ (¬ (0 ≤ u.toInt ∧ u.toInt ≤ 3)) ∧ ∃ M26_ : mM, (InvD M26_) ∧ (FR (S_c_X12_finding) Mz M26_) ∧ ∃ r25_ : Int32, (SP_X12_finding (-1000001) Mz r25_ M26_) ∧ (r25_.toInt = (-1000001)) ∧ r_ = r25_ ∧ M_ = M26_))) ∨ ((SP_is1 v Mz (0 : Int32)) ∧ ∃ M35_ : mM, (InvD M35_) ∧ (FR (S_c_X12_finding) Mz M35_) ∧ ∃ r34_ : Int32, (SP_X12_finding (-1000001) Mz r34_ M35_) ∧ (r34_.toInt = (-1000001)) ∧ r_ = r34_ ∧ M_ = M35_))
theorem lf_c_X12_thingIs_0 (v : Int32) (h4_ : 0 ≤ v.toInt ∧ v.toInt ≤ 39) : -1 ≤ v.toInt ∧ v.toInt ≤ 39 := by omega
theorem lf_c_X12_thingIs_1 (v : Int32) (u : Int32) (r13_ : Int32) (h4_ : 0 ≤ v.toInt ∧ v.toInt ≤ 39) (h10_ : 0 ≤ u.toInt ∧ u.toInt ≤ 3) (h16_ : r13_.toInt = 20 + 4 * v.toInt) : -2147483648 ≤ r13_.toInt + u.toInt ∧ r13_.toInt + u.toInt < 2147483648 := by omega
theorem lf_c_X12_thingIs_2 (v : Int32) (u : Int32) (r13_ : Int32) (z18_ : Int32) (h4_ : 0 ≤ v.toInt ∧ v.toInt ≤ 39) (h10_ : 0 ≤ u.toInt ∧ u.toInt ≤ 3) (h16_ : r13_.toInt = 20 + 4 * v.toInt) (h19_ : z18_.toInt = r13_.toInt + u.toInt) : 0 ≤ z18_.toInt ∧ z18_.toInt < ((3567 : Nat) : Int) := by omega
set_option maxHeartbeats 4000000 in
set_option maxRecDepth 100000 in
theorem c_X12_thingIs (l : Launch) (G : va_G) (cy : Nat → ClassId) (ad : rf → Nat) (d : Nat) (v : Int32) (u : Int32) (Mz : mM) (hIz : InvD Mz) : WP DD l G cy ad yX12_thingIs cX12_thingIs 3 (some .int) (d + 2) 0 [(0, vR (12, 0, 0)), (1, vI v), (2, vI u)] [] Mz (fun r M' => InvD M' ∧ FR (S_c_X12_thingIs) Mz M' ∧ (True) ∧ SP_X12_thingIs v u Mz r M') := by
  have hFz : FR (S_c_X12_thingIs) Mz Mz := FR.self
  refine w_aload_n dX12_thingIs_0 rfl 0 rfl ?_
  refine w_iload_n dX12_thingIs_1 rfl 1 rfl ?_
  refine w_iconst (v := 1) dX12_thingIs_2 (by decide) ?_
  refine w_callV (as := [vI v, vI 1]) (rest := []) (c_is1 l G cy ad d v Mz hIz) kV_X12_is pnn_17 (Nat.le_of_ble_eq_true rfl) m_1465 rfl rfl rfl ic_12 rfl rfl (by decide) (Nat.le_of_ble_eq_true rfl) dX12_thingIs_3 (fun r1_ M2_ q3_ => ?_)
  obtain ⟨rfl, h4_, hs5_⟩ := q3_
  rcases h4_ with ⟨rfl, h4_⟩ | rfl
  · refine w_if_eq (tgt := 33) dX12_thingIs_6 (by decide) li_1 (fun h9 => (absurd h9 (by decide))) (fun h6_ => ?_)
    refine w_iload_n dX12_thingIs_9 rfl 2 rfl ?_
    refine w_iconst (v := 0) dX12_thingIs_10 (by decide) ?_
    refine w_iconst (v := 3) dX12_thingIs_11 (by decide) ?_
    refine w_callS (as := [vI u, vI 0, vI 3]) (rest := []) (c_X12_within l G cy ad (d + 1) u 0 3 Mz hIz) kS_X12_within pnn_17 (Nat.le_of_ble_eq_true rfl) m_1427 rfl rfl (by decide) (Nat.le_of_ble_eq_true rfl) dX12_thingIs_12 (fun r7_ M8_ q9_ => ?_)
    obtain ⟨rfl, h10_, hs11_⟩ := q9_
    rcases h10_ with ⟨rfl, h10_⟩ | ⟨rfl, h10_⟩
    · simp only [li_0, li_3] at h10_
      refine w_if_eq (tgt := 33) dX12_thingIs_15 (by decide) li_1 (fun h9 => (absurd h9 (by decide))) (fun h12_ => ?_)
      refine w_aload_n dX12_thingIs_18 rfl 0 rfl ?_
      refine w_getR (c' := (50, 0, 0)) fl_RX12_9 rfl rfl ic_12 dX12_thingIs_19 rfl ?_
      refine w_aload_n dX12_thingIs_22 rfl 0 rfl ?_
      refine w_iload_n dX12_thingIs_23 rfl 1 rfl ?_
      refine w_callV (as := [vI v]) (rest := [vR (50, 0, 0)]) (c_X12_thing l G cy ad (d + 1) v Mz hIz (lf_c_X12_thingIs_0 v h4_ )) kV_X12_thing pnn_17 (Nat.le_of_ble_eq_true rfl) m_1447 rfl rfl rfl ic_12 rfl rfl (by decide) (Nat.le_of_ble_eq_true rfl) dX12_thingIs_24 (fun r13_ M14_ q15_ => ?_)
      obtain ⟨rfl, h16_, hs17_⟩ := q15_
      refine w_iload_n dX12_thingIs_27 rfl 2 rfl ?_
      refine w_iaddB dX12_thingIs_28 (rfl : r13_.toInt = r13_.toInt) (rfl : u.toInt = u.toInt) (lf_c_X12_thingIs_1 v u r13_ h4_ h10_ h16_ ) (fun z18_ h19_ => ?_)
      refine w_iald rfl rfl ic_50 (rfl : z18_.toInt = z18_.toInt) (lf_c_X12_thingIs_2 v u r13_ z18_ h4_ h10_ h16_ h19_ ) dX12_thingIs_29 (fun j22_ h23_ z20_ e21_ => ?_)
      refine w_goto (tgt := 39) dX12_thingIs_30 (by decide) ?_
      exact w_iret rfl dX12_thingIs_39 ⟨hIz, hFz, trivial, (Or.inl ⟨hs5_, h4_, (Or.inl ⟨hs11_, h10_, r13_, hs17_, h16_, z18_, h19_, j22_, h23_, z20_, e21_, rfl, rfl⟩)⟩)⟩
    · simp only [li_0, li_3] at h10_
      refine w_if_eq (tgt := 33) dX12_thingIs_15 (by decide) li_0 (fun h24_ => ?_) (fun h9 => (absurd h9 (by decide)))
      refine w_aload_n dX12_thingIs_33 rfl 0 rfl ?_
      refine w_ldc (v := (-1000001)) m_1433 dX12_thingIs_34 ?_
      refine w_callV (as := [vI (-1000001)]) (rest := []) (c_X12_finding l G cy ad (d + 1) (-1000001) Mz hIz (by first | decide | (unfold vF; omega) | (unfold vRw; omega))) kV_X12_finding pnn_17 (Nat.le_of_ble_eq_true rfl) m_1434 rfl rfl rfl ic_12 rfl rfl (by decide) (Nat.le_of_ble_eq_true rfl) dX12_thingIs_36 (fun r25_ M26_ q27_ => ?_)
      obtain ⟨hI29_, hF30_, h28_, hs32_⟩ := q27_
      have hF31_ := hFz.tr hF30_ (fun c k => (fun h => h.elim (fun h => (Or.inl ⟨h.1, h.2⟩)) (fun h => h.elim)))
      simp only [li_m1000001] at h28_
      exact w_iret rfl dX12_thingIs_39 ⟨hI29_, hF31_, trivial, (Or.inl ⟨hs5_, h4_, (Or.inr ⟨hs11_, h10_, M26_, hI29_, hF30_, r25_, hs32_, h28_, rfl, rfl⟩)⟩)⟩
  · refine w_if_eq (tgt := 33) dX12_thingIs_6 (by decide) li_0 (fun h33_ => ?_) (fun h9 => (absurd h9 (by decide)))
    refine w_aload_n dX12_thingIs_33 rfl 0 rfl ?_
    refine w_ldc (v := (-1000001)) m_1433 dX12_thingIs_34 ?_
    refine w_callV (as := [vI (-1000001)]) (rest := []) (c_X12_finding l G cy ad (d + 1) (-1000001) Mz hIz (by first | decide | (unfold vF; omega) | (unfold vRw; omega))) kV_X12_finding pnn_17 (Nat.le_of_ble_eq_true rfl) m_1434 rfl rfl rfl ic_12 rfl rfl (by decide) (Nat.le_of_ble_eq_true rfl) dX12_thingIs_36 (fun r34_ M35_ q36_ => ?_)
    obtain ⟨hI38_, hF39_, h37_, hs41_⟩ := q36_
    have hF40_ := hFz.tr hF39_ (fun c k => (fun h => h.elim (fun h => (Or.inl ⟨h.1, h.2⟩)) (fun h => h.elim)))
    simp only [li_m1000001] at h37_
    exact w_iret rfl dX12_thingIs_39 ⟨hI38_, hF40_, trivial, (Or.inr ⟨hs5_, M35_, hI38_, hF39_, r34_, hs41_, h37_, rfl, rfl⟩)⟩
def S_c_X12_moves : rf → Nat → Prop := fun c k => (c.1 = 50 ∧ c.2.1 = 0) ∨ (c.1 = 53 ∧ c.2.1 = 0) ∨ False
def SP_X12_moves (v : Int32) (u : Int32) (t : Int32) (Mz : mM) (r_ : Int32) (M_ : mM) : Prop := (((SP_is1 v Mz (1 : Int32)) ∧ (0 ≤ v.toInt ∧ v.toInt ≤ 39) ∧ (((SP_X12_isSide u Mz (1 : Int32)) ∧ (0 ≤ u.toInt ∧ u.toInt ≤ 7) ∧ (((SP_X12_within t 0 20 Mz (1 : Int32)) ∧ (0 ≤ t.toInt ∧ t.toInt ≤ 20) ∧ ∃ r19_ : Int32, (SP_X12_thing v Mz r19_) ∧ (r19_.toInt = 20 + 4 * v.toInt) ∧ ∃ z24_ : Int32, (z24_.toInt = r19_.toInt + 0) ∧ ∃ j28_ : Nat, ((j28_ : Int) = z24_.toInt) ∧ ∃ z26_ : Int32, (z26_ = Mz.1 (50, 0, 0) j28_) ∧ (0 ≤ z26_.toInt ∧ z26_.toInt ≤ 4) ∧ (((3 ≤ z26_.toInt) ∧ ∃ r32_ : Int32, (SP_X12_thing v Mz r32_) ∧ (r32_.toInt = 20 + 4 * v.toInt) ∧ ∃ z37_ : Int32, (z37_.toInt = r32_.toInt + 1) ∧ ∃ j41_ : Nat, ((j41_ : Int) = z37_.toInt) ∧ ∃ z39_ : Int32, (z39_ = Mz.1 (50, 0, 0) j41_) ∧ (-1 ≤ z39_.toInt ∧ z39_.toInt ≤ 191) ∧ (((0 ≤ z39_.toInt) ∧ ∃ r45_ : Int32, (SP_X12_thing v Mz r45_) ∧ (r45_.toInt = 20 + 4 * v.toInt) ∧ ∃ z50_ : Int32, (z50_.toInt = r45_.toInt + 2) ∧ ∃ j54_ : Nat, ((j54_ : Int) = z50_.toInt) ∧ ∃ M52_ : mM, (M52_ = up Mz (50, 0, 0) j54_ u) ∧ (InvD M52_) ∧ ∃ r58_ : Int32, (SP_X12_thing v M52_ r58_) ∧ (r58_.toInt = 20 + 4 * v.toInt) ∧ ∃ z63_ : Int32, (z63_.toInt = r58_.toInt + 3) ∧ ∃ j67_ : Nat, ((j67_ : Int) = z63_.toInt) ∧ ∃ M65_ : mM, (M65_ = up M52_ (50, 0, 0) j67_ t) ∧ r_ = 1 ∧ M_ = M65_) ∨ ((z39_.toInt < 0) ∧ ∃ M72_ : mM, (InvD M72_) ∧ (FR (S_c_X12_finding) Mz M72_) ∧ ∃ r71_ : Int32, (SP_X12_finding (-1000003) Mz r71_ M72_) ∧ (r71_.toInt = (-1000003)) ∧ r_ = r71_ ∧ M_ = M72_))) ∨ ((z26_.toInt < 3) ∧ ∃ M80_ : mM, (InvD M80_) ∧ (FR (S_c_X12_finding) Mz M80_) ∧ ∃ r79_ : Int32, (SP_X12_finding (-1000005) Mz r79_ M80_) ∧ (r79_.toInt = (-1000005)) ∧ r_ = r79_ ∧ M_ = M80_))) ∨ ((SP_X12_within t 0 20 Mz (0 : Int32)) ∧ (¬ (0 ≤ t.toInt ∧ t.toInt ≤ 20)) ∧ ∃ M89_ : mM, (InvD M89_) ∧ (FR (S_c_X12_finding) Mz M89_) ∧ ∃ r88_ : Int32, (SP_X12_finding (-1000001) Mz r88_ M89_) ∧ (r88_.toInt = (-1000001)) ∧ r_ = r88_ ∧ M_ = M89_))) ∨ ((SP_X12_isSide u Mz (0 : Int32)) ∧ (¬ (0 ≤ u.toInt ∧ u.toInt ≤ 7)) ∧ ∃ M98_ : mM, (InvD M98_) ∧ (FR (S_c_X12_finding) Mz M98_) ∧ ∃ r97_ : Int32, (SP_X12_finding (-1000001) Mz r97_ M98_) ∧ (r97_.toInt = (-1000001)) ∧ r_ = r97_ ∧ M_ = M98_))) ∨ ((SP_is1 v Mz (0 : Int32)) ∧ ∃ M107_ : mM, (InvD M107_) ∧ (FR (S_c_X12_finding) Mz M107_) ∧ ∃ r106_ : Int32, (SP_X12_finding (-1000001) Mz r106_ M107_) ∧ (r106_.toInt = (-1000001)) ∧ r_ = r106_ ∧ M_ = M107_))
theorem lf_c_X12_moves_1 (v : Int32) (r19_ : Int32) (h4_ : 0 ≤ v.toInt ∧ v.toInt ≤ 39) (h22_ : r19_.toInt = 20 + 4 * v.toInt) : -2147483648 ≤ r19_.toInt + 0 ∧ r19_.toInt + 0 < 2147483648 := by omega
theorem lf_c_X12_moves_2 (v : Int32) (r19_ : Int32) (z24_ : Int32) (h4_ : 0 ≤ v.toInt ∧ v.toInt ≤ 39) (h22_ : r19_.toInt = 20 + 4 * v.toInt) (h25_ : z24_.toInt = r19_.toInt + 0) : 0 ≤ z24_.toInt ∧ z24_.toInt < ((3567 : Nat) : Int) := by omega
theorem lf_c_X12_moves_3 (Mz : mM) (v : Int32) (r19_ : Int32) (z24_ : Int32) (j28_ : Nat) (z26_ : Int32) (h4_ : 0 ≤ v.toInt ∧ v.toInt ≤ 39) (h22_ : r19_.toInt = 20 + 4 * v.toInt) (h25_ : z24_.toInt = r19_.toInt + 0) (h29_ : (j28_ : Int) = z24_.toInt) (e27_ : z26_ = Mz.1 (50, 0, 0) j28_) : 20 ≤ j28_ ∧ j28_ < 180 ∧ j28_ % 4 = 0 := by have r_v := rngI v; have r_r19_ := rngI r19_; have r_z24_ := rngI z24_; have r_z26_ := rngI z26_; subst e27_; omega
theorem lf_c_X12_moves_5 (Mz : mM) (v : Int32) (r19_ : Int32) (z24_ : Int32) (j28_ : Nat) (z26_ : Int32) (r32_ : Int32) (h4_ : 0 ≤ v.toInt ∧ v.toInt ≤ 39) (h22_ : r19_.toInt = 20 + 4 * v.toInt) (h25_ : z24_.toInt = r19_.toInt + 0) (h29_ : (j28_ : Int) = z24_.toInt) (e27_ : z26_ = Mz.1 (50, 0, 0) j28_) (h30_ : 0 ≤ z26_.toInt ∧ z26_.toInt ≤ 4) (h31_ : 3 ≤ z26_.toInt) (h35_ : r32_.toInt = 20 + 4 * v.toInt) : -2147483648 ≤ r32_.toInt + 1 ∧ r32_.toInt + 1 < 2147483648 := by have r_v := rngI v; have r_r19_ := rngI r19_; have r_z24_ := rngI z24_; have r_z26_ := rngI z26_; have r_r32_ := rngI r32_; subst e27_; omega
theorem lf_c_X12_moves_6 (v : Int32) (r32_ : Int32) (z37_ : Int32) (h4_ : 0 ≤ v.toInt ∧ v.toInt ≤ 39) (h35_ : r32_.toInt = 20 + 4 * v.toInt) (h38_ : z37_.toInt = r32_.toInt + 1) : 0 ≤ z37_.toInt ∧ z37_.toInt < ((3567 : Nat) : Int) := by omega
theorem lf_c_X12_moves_7 (Mz : mM) (v : Int32) (r19_ : Int32) (z24_ : Int32) (j28_ : Nat) (z26_ : Int32) (r32_ : Int32) (z37_ : Int32) (j41_ : Nat) (z39_ : Int32) (h4_ : 0 ≤ v.toInt ∧ v.toInt ≤ 39) (h22_ : r19_.toInt = 20 + 4 * v.toInt) (h25_ : z24_.toInt = r19_.toInt + 0) (h29_ : (j28_ : Int) = z24_.toInt) (e27_ : z26_ = Mz.1 (50, 0, 0) j28_) (h30_ : 0 ≤ z26_.toInt ∧ z26_.toInt ≤ 4) (h31_ : 3 ≤ z26_.toInt) (h35_ : r32_.toInt = 20 + 4 * v.toInt) (h38_ : z37_.toInt = r32_.toInt + 1) (h42_ : (j41_ : Int) = z37_.toInt) (e40_ : z39_ = Mz.1 (50, 0, 0) j41_) : 20 ≤ j41_ ∧ j41_ < 180 ∧ j41_ % 4 = 1 := by have r_v := rngI v; have r_r19_ := rngI r19_; have r_z24_ := rngI z24_; have r_z26_ := rngI z26_; have r_r32_ := rngI r32_; have r_z37_ := rngI z37_; have r_z39_ := rngI z39_; subst e27_; subst e40_; omega
theorem lf_c_X12_moves_9 (v : Int32) (r45_ : Int32) (h4_ : 0 ≤ v.toInt ∧ v.toInt ≤ 39) (h48_ : r45_.toInt = 20 + 4 * v.toInt) : -2147483648 ≤ r45_.toInt + 2 ∧ r45_.toInt + 2 < 2147483648 := by omega
theorem lf_c_X12_moves_10 (v : Int32) (r45_ : Int32) (z50_ : Int32) (h4_ : 0 ≤ v.toInt ∧ v.toInt ≤ 39) (h48_ : r45_.toInt = 20 + 4 * v.toInt) (h51_ : z50_.toInt = r45_.toInt + 2) : 0 ≤ z50_.toInt ∧ z50_.toInt < ((3567 : Nat) : Int) := by omega
theorem lf_c_X12_moves_11 (M52_ : mM) (Mz : mM) (v : Int32) (u : Int32) (r19_ : Int32) (z24_ : Int32) (j28_ : Nat) (z26_ : Int32) (r32_ : Int32) (z37_ : Int32) (j41_ : Nat) (z39_ : Int32) (r45_ : Int32) (z50_ : Int32) (j54_ : Nat) (h4_ : 0 ≤ v.toInt ∧ v.toInt ≤ 39) (h10_ : 0 ≤ u.toInt ∧ u.toInt ≤ 7) (h22_ : r19_.toInt = 20 + 4 * v.toInt) (h25_ : z24_.toInt = r19_.toInt + 0) (h29_ : (j28_ : Int) = z24_.toInt) (e27_ : z26_ = Mz.1 (50, 0, 0) j28_) (h30_ : 0 ≤ z26_.toInt ∧ z26_.toInt ≤ 4) (h31_ : 3 ≤ z26_.toInt) (h35_ : r32_.toInt = 20 + 4 * v.toInt) (h38_ : z37_.toInt = r32_.toInt + 1) (h42_ : (j41_ : Int) = z37_.toInt) (e40_ : z39_ = Mz.1 (50, 0, 0) j41_) (h43_ : -1 ≤ z39_.toInt ∧ z39_.toInt ≤ 191) (h44_ : 0 ≤ z39_.toInt) (h48_ : r45_.toInt = 20 + 4 * v.toInt) (h51_ : z50_.toInt = r45_.toInt + 2) (h55_ : (j54_ : Int) = z50_.toInt) (hM53_ : M52_ = up Mz (50, 0, 0) j54_ u) : PN j54_ u ∧ (j54_ < 345 ∨ 493 < j54_) := by have r_v := rngI v; have r_u := rngI u; have r_r19_ := rngI r19_; have r_z24_ := rngI z24_; have r_z26_ := rngI z26_; have r_r32_ := rngI r32_; have r_z37_ := rngI z37_; have r_z39_ := rngI z39_; have r_r45_ := rngI r45_; have r_z50_ := rngI z50_; subst e27_; subst e40_; unfold PN; omega
theorem lf_c_X12_moves_13 (M52_ : mM) (Mz : mM) (v : Int32) (u : Int32) (r19_ : Int32) (z24_ : Int32) (j28_ : Nat) (z26_ : Int32) (r32_ : Int32) (z37_ : Int32) (j41_ : Nat) (z39_ : Int32) (r45_ : Int32) (z50_ : Int32) (j54_ : Nat) (r58_ : Int32) (h4_ : 0 ≤ v.toInt ∧ v.toInt ≤ 39) (h10_ : 0 ≤ u.toInt ∧ u.toInt ≤ 7) (h22_ : r19_.toInt = 20 + 4 * v.toInt) (h25_ : z24_.toInt = r19_.toInt + 0) (h29_ : (j28_ : Int) = z24_.toInt) (e27_ : z26_ = Mz.1 (50, 0, 0) j28_) (h30_ : 0 ≤ z26_.toInt ∧ z26_.toInt ≤ 4) (h31_ : 3 ≤ z26_.toInt) (h35_ : r32_.toInt = 20 + 4 * v.toInt) (h38_ : z37_.toInt = r32_.toInt + 1) (h42_ : (j41_ : Int) = z37_.toInt) (e40_ : z39_ = Mz.1 (50, 0, 0) j41_) (h43_ : -1 ≤ z39_.toInt ∧ z39_.toInt ≤ 191) (h44_ : 0 ≤ z39_.toInt) (h48_ : r45_.toInt = 20 + 4 * v.toInt) (h51_ : z50_.toInt = r45_.toInt + 2) (h55_ : (j54_ : Int) = z50_.toInt) (hM53_ : M52_ = up Mz (50, 0, 0) j54_ u) (h61_ : r58_.toInt = 20 + 4 * v.toInt) : -2147483648 ≤ r58_.toInt + 3 ∧ r58_.toInt + 3 < 2147483648 := by have r_v := rngI v; have r_u := rngI u; have r_r19_ := rngI r19_; have r_z24_ := rngI z24_; have r_z26_ := rngI z26_; have r_r32_ := rngI r32_; have r_z37_ := rngI z37_; have r_z39_ := rngI z39_; have r_r45_ := rngI r45_; have r_z50_ := rngI z50_; have r_r58_ := rngI r58_; subst e27_; subst e40_; omega
theorem lf_c_X12_moves_14 (v : Int32) (r58_ : Int32) (z63_ : Int32) (h4_ : 0 ≤ v.toInt ∧ v.toInt ≤ 39) (h61_ : r58_.toInt = 20 + 4 * v.toInt) (h64_ : z63_.toInt = r58_.toInt + 3) : 0 ≤ z63_.toInt ∧ z63_.toInt < ((3567 : Nat) : Int) := by omega
theorem lf_c_X12_moves_15 (M52_ : mM) (M65_ : mM) (Mz : mM) (v : Int32) (u : Int32) (t : Int32) (r19_ : Int32) (z24_ : Int32) (j28_ : Nat) (z26_ : Int32) (r32_ : Int32) (z37_ : Int32) (j41_ : Nat) (z39_ : Int32) (r45_ : Int32) (z50_ : Int32) (j54_ : Nat) (r58_ : Int32) (z63_ : Int32) (j67_ : Nat) (h4_ : 0 ≤ v.toInt ∧ v.toInt ≤ 39) (h10_ : 0 ≤ u.toInt ∧ u.toInt ≤ 7) (h16_ : 0 ≤ t.toInt ∧ t.toInt ≤ 20) (h22_ : r19_.toInt = 20 + 4 * v.toInt) (h25_ : z24_.toInt = r19_.toInt + 0) (h29_ : (j28_ : Int) = z24_.toInt) (e27_ : z26_ = Mz.1 (50, 0, 0) j28_) (h30_ : 0 ≤ z26_.toInt ∧ z26_.toInt ≤ 4) (h31_ : 3 ≤ z26_.toInt) (h35_ : r32_.toInt = 20 + 4 * v.toInt) (h38_ : z37_.toInt = r32_.toInt + 1) (h42_ : (j41_ : Int) = z37_.toInt) (e40_ : z39_ = Mz.1 (50, 0, 0) j41_) (h43_ : -1 ≤ z39_.toInt ∧ z39_.toInt ≤ 191) (h44_ : 0 ≤ z39_.toInt) (h48_ : r45_.toInt = 20 + 4 * v.toInt) (h51_ : z50_.toInt = r45_.toInt + 2) (h55_ : (j54_ : Int) = z50_.toInt) (hM53_ : M52_ = up Mz (50, 0, 0) j54_ u) (h61_ : r58_.toInt = 20 + 4 * v.toInt) (h64_ : z63_.toInt = r58_.toInt + 3) (h68_ : (j67_ : Int) = z63_.toInt) (hM66_ : M65_ = up M52_ (50, 0, 0) j67_ t) : PN j67_ t ∧ (j67_ < 345 ∨ 493 < j67_) := by have r_v := rngI v; have r_u := rngI u; have r_t := rngI t; have r_r19_ := rngI r19_; have r_z24_ := rngI z24_; have r_z26_ := rngI z26_; have r_r32_ := rngI r32_; have r_z37_ := rngI z37_; have r_z39_ := rngI z39_; have r_r45_ := rngI r45_; have r_z50_ := rngI z50_; have r_r58_ := rngI r58_; have r_z63_ := rngI z63_; subst e27_; subst e40_; unfold PN; omega
set_option maxHeartbeats 4000000 in
set_option maxRecDepth 100000 in
theorem c_X12_moves (l : Launch) (G : va_G) (cy : Nat → ClassId) (ad : rf → Nat) (d : Nat) (v : Int32) (u : Int32) (t : Int32) (Mz : mM) (hIz : InvD Mz) : WP DD l G cy ad yX12_moves cX12_moves 4 (some .int) (d + 2) 0 [(0, vR (12, 0, 0)), (1, vI v), (2, vI u), (3, vI t)] [] Mz (fun r M' => InvD M' ∧ FR (S_c_X12_moves) Mz M' ∧ (True) ∧ SP_X12_moves v u t Mz r M') := by
  have hFz : FR (S_c_X12_moves) Mz Mz := FR.self
  refine w_aload_n dX12_moves_0 rfl 0 rfl ?_
  refine w_iload_n dX12_moves_1 rfl 1 rfl ?_
  refine w_iconst (v := 1) dX12_moves_2 (by decide) ?_
  refine w_callV (as := [vI v, vI 1]) (rest := []) (c_is1 l G cy ad d v Mz hIz) kV_X12_is pnn_17 (Nat.le_of_ble_eq_true rfl) m_1465 rfl rfl rfl ic_12 rfl rfl (by decide) (Nat.le_of_ble_eq_true rfl) dX12_moves_3 (fun r1_ M2_ q3_ => ?_)
  obtain ⟨rfl, h4_, hs5_⟩ := q3_
  rcases h4_ with ⟨rfl, h4_⟩ | rfl
  · refine w_if_eq (tgt := 26) dX12_moves_6 (by decide) li_1 (fun h9 => (absurd h9 (by decide))) (fun h6_ => ?_)
    refine w_iload_n dX12_moves_9 rfl 2 rfl ?_
    refine w_callS (as := [vI u]) (rest := []) (c_X12_isSide l G cy ad d u Mz hIz) kS_X12_isSide pnn_17 (Nat.le_of_ble_eq_true rfl) m_1473 rfl rfl (by decide) (Nat.le_of_ble_eq_true rfl) dX12_moves_10 (fun r7_ M8_ q9_ => ?_)
    obtain ⟨rfl, h10_, hs11_⟩ := q9_
    rcases h10_ with ⟨rfl, h10_⟩ | ⟨rfl, h10_⟩
    · refine w_if_eq (tgt := 26) dX12_moves_13 (by decide) li_1 (fun h9 => (absurd h9 (by decide))) (fun h12_ => ?_)
      refine w_iload_n dX12_moves_16 rfl 3 rfl ?_
      refine w_iconst (v := 0) dX12_moves_17 (by decide) ?_
      refine w_bipush (v := 20) dX12_moves_18 (by decide) ?_
      refine w_callS (as := [vI t, vI 0, vI 20]) (rest := []) (c_X12_within l G cy ad (d + 1) t 0 20 Mz hIz) kS_X12_within pnn_17 (Nat.le_of_ble_eq_true rfl) m_1427 rfl rfl (by decide) (Nat.le_of_ble_eq_true rfl) dX12_moves_20 (fun r13_ M14_ q15_ => ?_)
      obtain ⟨rfl, h16_, hs17_⟩ := q15_
      rcases h16_ with ⟨rfl, h16_⟩ | ⟨rfl, h16_⟩
      · simp only [li_0, li_20] at h16_
        refine w_if_ne (tgt := 33) dX12_moves_23 (by decide) li_1 (fun h18_ => ?_) (fun h9 => (absurd h9 (by decide)))
        refine w_aload_n dX12_moves_33 rfl 0 rfl ?_
        refine w_getR (c' := (50, 0, 0)) fl_RX12_9 rfl rfl ic_12 dX12_moves_34 rfl ?_
        refine w_aload_n dX12_moves_37 rfl 0 rfl ?_
        refine w_iload_n dX12_moves_38 rfl 1 rfl ?_
        refine w_callV (as := [vI v]) (rest := [vR (50, 0, 0)]) (c_X12_thing l G cy ad (d + 1) v Mz hIz (lf_c_X12_thingIs_0 v h4_ )) kV_X12_thing pnn_17 (Nat.le_of_ble_eq_true rfl) m_1447 rfl rfl rfl ic_12 rfl rfl (by decide) (Nat.le_of_ble_eq_true rfl) dX12_moves_39 (fun r19_ M20_ q21_ => ?_)
        obtain ⟨rfl, h22_, hs23_⟩ := q21_
        refine w_iconst (v := 0) dX12_moves_42 (by decide) ?_
        refine w_iaddB dX12_moves_43 (rfl : r19_.toInt = r19_.toInt) li_0 (lf_c_X12_moves_1 v r19_ h4_ h22_ ) (fun z24_ h25_ => ?_)
        refine w_iald rfl rfl ic_50 (rfl : z24_.toInt = z24_.toInt) (lf_c_X12_moves_2 v r19_ z24_ h4_ h22_ h25_ ) dX12_moves_44 (fun j28_ h29_ z26_ e27_ => ?_)
        have h30_ : 0 ≤ z26_.toInt ∧ z26_.toInt ≤ 4 := pn_tk hIz e27_ (lf_c_X12_moves_3 Mz v r19_ z24_ j28_ z26_ h4_ h22_ h25_ h29_ e27_ )
        refine w_iconst (v := 3) dX12_moves_45 (by decide) ?_
        refine w_icmp_ge (tgt := 56) dX12_moves_46 (by decide) (rfl : z26_.toInt = z26_.toInt) li_3 (fun h31_ => ?_) (fun h31_ => ?_)
        · refine w_aload_n dX12_moves_56 rfl 0 rfl ?_
          refine w_getR (c' := (50, 0, 0)) fl_RX12_9 rfl rfl ic_12 dX12_moves_57 rfl ?_
          refine w_aload_n dX12_moves_60 rfl 0 rfl ?_
          refine w_iload_n dX12_moves_61 rfl 1 rfl ?_
          refine w_callV (as := [vI v]) (rest := [vR (50, 0, 0)]) (c_X12_thing l G cy ad (d + 1) v Mz hIz (lf_c_X12_thingIs_0 v h4_ )) kV_X12_thing pnn_17 (Nat.le_of_ble_eq_true rfl) m_1447 rfl rfl rfl ic_12 rfl rfl (by decide) (Nat.le_of_ble_eq_true rfl) dX12_moves_62 (fun r32_ M33_ q34_ => ?_)
          obtain ⟨rfl, h35_, hs36_⟩ := q34_
          refine w_iconst (v := 1) dX12_moves_65 (by decide) ?_
          refine w_iaddB dX12_moves_66 (rfl : r32_.toInt = r32_.toInt) li_1 (lf_c_X12_moves_5 Mz v r19_ z24_ j28_ z26_ r32_ h4_ h22_ h25_ h29_ e27_ h30_ h31_ h35_ ) (fun z37_ h38_ => ?_)
          refine w_iald rfl rfl ic_50 (rfl : z37_.toInt = z37_.toInt) (lf_c_X12_moves_6 v r32_ z37_ h4_ h35_ h38_ ) dX12_moves_67 (fun j41_ h42_ z39_ e40_ => ?_)
          have h43_ : -1 ≤ z39_.toInt ∧ z39_.toInt ≤ 191 := pn_tc hIz e40_ (lf_c_X12_moves_7 Mz v r19_ z24_ j28_ z26_ r32_ z37_ j41_ z39_ h4_ h22_ h25_ h29_ e27_ h30_ h31_ h35_ h38_ h42_ e40_ )
          refine w_if_ge (tgt := 78) dX12_moves_68 (by decide) (rfl : z39_.toInt = z39_.toInt) (fun h44_ => ?_) (fun h44_ => ?_)
          · refine w_aload_n dX12_moves_78 rfl 0 rfl ?_
            refine w_getR (c' := (50, 0, 0)) fl_RX12_9 rfl rfl ic_12 dX12_moves_79 rfl ?_
            refine w_aload_n dX12_moves_82 rfl 0 rfl ?_
            refine w_iload_n dX12_moves_83 rfl 1 rfl ?_
            refine w_callV (as := [vI v]) (rest := [vR (50, 0, 0)]) (c_X12_thing l G cy ad (d + 1) v Mz hIz (lf_c_X12_thingIs_0 v h4_ )) kV_X12_thing pnn_17 (Nat.le_of_ble_eq_true rfl) m_1447 rfl rfl rfl ic_12 rfl rfl (by decide) (Nat.le_of_ble_eq_true rfl) dX12_moves_84 (fun r45_ M46_ q47_ => ?_)
            obtain ⟨rfl, h48_, hs49_⟩ := q47_
            refine w_iconst (v := 2) dX12_moves_87 (by decide) ?_
            refine w_iaddB dX12_moves_88 (rfl : r45_.toInt = r45_.toInt) li_2 (lf_c_X12_moves_9 v r45_ h4_ h48_ ) (fun z50_ h51_ => ?_)
            refine w_iload_n dX12_moves_89 rfl 2 rfl ?_
            refine w_iast DD_nd rfl rfl ic_50 (rfl : z50_.toInt = z50_.toInt) (lf_c_X12_moves_10 v r45_ z50_ h4_ h48_ h51_ ) dX12_moves_90 (fun j54_ h55_ M52_ hM53_ => ?_)
            have hI56_ := hIz.put50 hM53_ (lf_c_X12_moves_11 M52_ Mz v u r19_ z24_ j28_ z26_ r32_ z37_ j41_ z39_ r45_ z50_ j54_ h4_ h10_ h22_ h25_ h29_ e27_ h30_ h31_ h35_ h38_ h42_ e40_ h43_ h44_ h48_ h51_ h55_ hM53_ )
            have hF57_ := hFz.put hM53_ (Or.inl ⟨rfl, rfl⟩)
            refine w_aload_n dX12_moves_91 rfl 0 rfl ?_
            refine w_getR (c' := (50, 0, 0)) fl_RX12_9 rfl rfl ic_12 dX12_moves_92 rfl ?_
            refine w_aload_n dX12_moves_95 rfl 0 rfl ?_
            refine w_iload_n dX12_moves_96 rfl 1 rfl ?_
            refine w_callV (as := [vI v]) (rest := [vR (50, 0, 0)]) (c_X12_thing l G cy ad (d + 1) v M52_ hI56_ (lf_c_X12_thingIs_0 v h4_ )) kV_X12_thing pnn_17 (Nat.le_of_ble_eq_true rfl) m_1447 rfl rfl rfl ic_12 rfl rfl (by decide) (Nat.le_of_ble_eq_true rfl) dX12_moves_97 (fun r58_ M59_ q60_ => ?_)
            obtain ⟨rfl, h61_, hs62_⟩ := q60_
            refine w_iconst (v := 3) dX12_moves_100 (by decide) ?_
            refine w_iaddB dX12_moves_101 (rfl : r58_.toInt = r58_.toInt) li_3 (lf_c_X12_moves_13 M52_ Mz v u r19_ z24_ j28_ z26_ r32_ z37_ j41_ z39_ r45_ z50_ j54_ r58_ h4_ h10_ h22_ h25_ h29_ e27_ h30_ h31_ h35_ h38_ h42_ e40_ h43_ h44_ h48_ h51_ h55_ hM53_ h61_ ) (fun z63_ h64_ => ?_)
            refine w_iload_n dX12_moves_102 rfl 3 rfl ?_
            refine w_iast DD_nd rfl rfl ic_50 (rfl : z63_.toInt = z63_.toInt) (lf_c_X12_moves_14 v r58_ z63_ h4_ h61_ h64_ ) dX12_moves_103 (fun j67_ h68_ M65_ hM66_ => ?_)
            have hI69_ := hI56_.put50 hM66_ (lf_c_X12_moves_15 M52_ M65_ Mz v u t r19_ z24_ j28_ z26_ r32_ z37_ j41_ z39_ r45_ z50_ j54_ r58_ z63_ j67_ h4_ h10_ h16_ h22_ h25_ h29_ e27_ h30_ h31_ h35_ h38_ h42_ e40_ h43_ h44_ h48_ h51_ h55_ hM53_ h61_ h64_ h68_ hM66_ )
            have hF70_ := hF57_.put hM66_ (Or.inl ⟨rfl, rfl⟩)
            refine w_iconst (v := 1) dX12_moves_104 (by decide) ?_
            exact w_iret rfl dX12_moves_105 ⟨hI69_, hF70_, trivial, (Or.inl ⟨hs5_, h4_, (Or.inl ⟨hs11_, h10_, (Or.inl ⟨hs17_, h16_, r19_, hs23_, h22_, z24_, h25_, j28_, h29_, z26_, e27_, h30_, (Or.inl ⟨h31_, r32_, hs36_, h35_, z37_, h38_, j41_, h42_, z39_, e40_, h43_, (Or.inl ⟨h44_, r45_, hs49_, h48_, z50_, h51_, j54_, h55_, M52_, hM53_, hI56_, r58_, hs62_, h61_, z63_, h64_, j67_, h68_, M65_, hM66_, rfl, rfl⟩)⟩)⟩)⟩)⟩)⟩
          · refine w_aload_n dX12_moves_71 rfl 0 rfl ?_
            refine w_ldc (v := (-1000003)) m_1455 dX12_moves_72 ?_
            refine w_callV (as := [vI (-1000003)]) (rest := []) (c_X12_finding l G cy ad (d + 1) (-1000003) Mz hIz (by first | decide | (unfold vF; omega) | (unfold vRw; omega))) kV_X12_finding pnn_17 (Nat.le_of_ble_eq_true rfl) m_1434 rfl rfl rfl ic_12 rfl rfl (by decide) (Nat.le_of_ble_eq_true rfl) dX12_moves_74 (fun r71_ M72_ q73_ => ?_)
            obtain ⟨hI75_, hF76_, h74_, hs78_⟩ := q73_
            have hF77_ := hFz.tr hF76_ (fun c k => (fun h => h.elim (fun h => (Or.inr (Or.inl ⟨h.1, h.2⟩))) (fun h => h.elim)))
            simp only [li_m1000003] at h74_
            exact w_iret rfl dX12_moves_77 ⟨hI75_, hF77_, trivial, (Or.inl ⟨hs5_, h4_, (Or.inl ⟨hs11_, h10_, (Or.inl ⟨hs17_, h16_, r19_, hs23_, h22_, z24_, h25_, j28_, h29_, z26_, e27_, h30_, (Or.inl ⟨h31_, r32_, hs36_, h35_, z37_, h38_, j41_, h42_, z39_, e40_, h43_, (Or.inr ⟨h44_, M72_, hI75_, hF76_, r71_, hs78_, h74_, rfl, rfl⟩)⟩)⟩)⟩)⟩)⟩
        · refine w_aload_n dX12_moves_49 rfl 0 rfl ?_
          refine w_ldc (v := (-1000005)) m_1476 dX12_moves_50 ?_
          refine w_callV (as := [vI (-1000005)]) (rest := []) (c_X12_finding l G cy ad (d + 1) (-1000005) Mz hIz (by first | decide | (unfold vF; omega) | (unfold vRw; omega))) kV_X12_finding pnn_17 (Nat.le_of_ble_eq_true rfl) m_1434 rfl rfl rfl ic_12 rfl rfl (by decide) (Nat.le_of_ble_eq_true rfl) dX12_moves_52 (fun r79_ M80_ q81_ => ?_)
          obtain ⟨hI83_, hF84_, h82_, hs86_⟩ := q81_
          have hF85_ := hFz.tr hF84_ (fun c k => (fun h => h.elim (fun h => (Or.inr (Or.inl ⟨h.1, h.2⟩))) (fun h => h.elim)))
          simp only [li_m1000005] at h82_
          exact w_iret rfl dX12_moves_55 ⟨hI83_, hF85_, trivial, (Or.inl ⟨hs5_, h4_, (Or.inl ⟨hs11_, h10_, (Or.inl ⟨hs17_, h16_, r19_, hs23_, h22_, z24_, h25_, j28_, h29_, z26_, e27_, h30_, (Or.inr ⟨h31_, M80_, hI83_, hF84_, r79_, hs86_, h82_, rfl, rfl⟩)⟩)⟩)⟩)⟩
      · simp only [li_0, li_20] at h16_
        refine w_if_ne (tgt := 33) dX12_moves_23 (by decide) li_0 (fun h9 => (absurd h9 (by decide))) (fun h87_ => ?_)
        refine w_aload_n dX12_moves_26 rfl 0 rfl ?_
        refine w_ldc (v := (-1000001)) m_1433 dX12_moves_27 ?_
        refine w_callV (as := [vI (-1000001)]) (rest := []) (c_X12_finding l G cy ad (d + 1) (-1000001) Mz hIz (by first | decide | (unfold vF; omega) | (unfold vRw; omega))) kV_X12_finding pnn_17 (Nat.le_of_ble_eq_true rfl) m_1434 rfl rfl rfl ic_12 rfl rfl (by decide) (Nat.le_of_ble_eq_true rfl) dX12_moves_29 (fun r88_ M89_ q90_ => ?_)
        obtain ⟨hI92_, hF93_, h91_, hs95_⟩ := q90_
        have hF94_ := hFz.tr hF93_ (fun c k => (fun h => h.elim (fun h => (Or.inr (Or.inl ⟨h.1, h.2⟩))) (fun h => h.elim)))
        simp only [li_m1000001] at h91_
        exact w_iret rfl dX12_moves_32 ⟨hI92_, hF94_, trivial, (Or.inl ⟨hs5_, h4_, (Or.inl ⟨hs11_, h10_, (Or.inr ⟨hs17_, h16_, M89_, hI92_, hF93_, r88_, hs95_, h91_, rfl, rfl⟩)⟩)⟩)⟩
    · refine w_if_eq (tgt := 26) dX12_moves_13 (by decide) li_0 (fun h96_ => ?_) (fun h9 => (absurd h9 (by decide)))
      refine w_aload_n dX12_moves_26 rfl 0 rfl ?_
      refine w_ldc (v := (-1000001)) m_1433 dX12_moves_27 ?_
      refine w_callV (as := [vI (-1000001)]) (rest := []) (c_X12_finding l G cy ad (d + 1) (-1000001) Mz hIz (by first | decide | (unfold vF; omega) | (unfold vRw; omega))) kV_X12_finding pnn_17 (Nat.le_of_ble_eq_true rfl) m_1434 rfl rfl rfl ic_12 rfl rfl (by decide) (Nat.le_of_ble_eq_true rfl) dX12_moves_29 (fun r97_ M98_ q99_ => ?_)
      obtain ⟨hI101_, hF102_, h100_, hs104_⟩ := q99_
      have hF103_ := hFz.tr hF102_ (fun c k => (fun h => h.elim (fun h => (Or.inr (Or.inl ⟨h.1, h.2⟩))) (fun h => h.elim)))
      simp only [li_m1000001] at h100_
      exact w_iret rfl dX12_moves_32 ⟨hI101_, hF103_, trivial, (Or.inl ⟨hs5_, h4_, (Or.inr ⟨hs11_, h10_, M98_, hI101_, hF102_, r97_, hs104_, h100_, rfl, rfl⟩)⟩)⟩
  · refine w_if_eq (tgt := 26) dX12_moves_6 (by decide) li_0 (fun h105_ => ?_) (fun h9 => (absurd h9 (by decide)))
    refine w_aload_n dX12_moves_26 rfl 0 rfl ?_
    refine w_ldc (v := (-1000001)) m_1433 dX12_moves_27 ?_
    refine w_callV (as := [vI (-1000001)]) (rest := []) (c_X12_finding l G cy ad (d + 1) (-1000001) Mz hIz (by first | decide | (unfold vF; omega) | (unfold vRw; omega))) kV_X12_finding pnn_17 (Nat.le_of_ble_eq_true rfl) m_1434 rfl rfl rfl ic_12 rfl rfl (by decide) (Nat.le_of_ble_eq_true rfl) dX12_moves_29 (fun r106_ M107_ q108_ => ?_)
    obtain ⟨hI110_, hF111_, h109_, hs113_⟩ := q108_
    have hF112_ := hFz.tr hF111_ (fun c k => (fun h => h.elim (fun h => (Or.inr (Or.inl ⟨h.1, h.2⟩))) (fun h => h.elim)))
    simp only [li_m1000001] at h109_
    exact w_iret rfl dX12_moves_32 ⟨hI110_, hF112_, trivial, (Or.inr ⟨hs5_, M107_, hI110_, hF111_, r106_, hs113_, h109_, rfl, rfl⟩)⟩
def S_c_X12_away : rf → Nat → Prop := fun c k => (c.1 = 50 ∧ c.2.1 = 0) ∨ (c.1 = 53 ∧ c.2.1 = 0) ∨ False
def SP_X12_away (v : Int32) (Mz : mM) (r_ : Int32) (M_ : mM) : Prop := (((SP_is1 v Mz (1 : Int32)) ∧ (0 ≤ v.toInt ∧ v.toInt ≤ 39) ∧ ∃ r7_ : Int32, (SP_X12_thing v Mz r7_) ∧ (r7_.toInt = 20 + 4 * v.toInt) ∧ ∃ z12_ : Int32, (z12_.toInt = r7_.toInt + 1) ∧ ∃ j16_ : Nat, ((j16_ : Int) = z12_.toInt) ∧ ∃ z14_ : Int32, (z14_ = Mz.1 (50, 0, 0) j16_) ∧ (-1 ≤ z14_.toInt ∧ z14_.toInt ≤ 191) ∧ (((0 ≤ z14_.toInt) ∧ ∃ r20_ : Int32, (SP_X12_thing v Mz r20_) ∧ (r20_.toInt = 20 + 4 * v.toInt) ∧ ∃ z25_ : Int32, (z25_.toInt = r20_.toInt + 1) ∧ ∃ M28_ : mM, (InvD M28_) ∧ (FR (S_c_X12_become) Mz M28_) ∧ ∃ r27_ : Int32, (SP_X12_become z25_ (-1) Mz r27_ M28_) ∧ r_ = r27_ ∧ M_ = M28_) ∨ ((z14_.toInt < 0) ∧ ∃ M36_ : mM, (InvD M36_) ∧ (FR (S_c_X12_finding) Mz M36_) ∧ ∃ r35_ : Int32, (SP_X12_finding (-1000003) Mz r35_ M36_) ∧ (r35_.toInt = (-1000003)) ∧ r_ = r35_ ∧ M_ = M36_))) ∨ ((SP_is1 v Mz (0 : Int32)) ∧ ∃ M45_ : mM, (InvD M45_) ∧ (FR (S_c_X12_finding) Mz M45_) ∧ ∃ r44_ : Int32, (SP_X12_finding (-1000001) Mz r44_ M45_) ∧ (r44_.toInt = (-1000001)) ∧ r_ = r44_ ∧ M_ = M45_))
theorem lf_c_X12_away_1 (v : Int32) (r7_ : Int32) (h4_ : 0 ≤ v.toInt ∧ v.toInt ≤ 39) (h10_ : r7_.toInt = 20 + 4 * v.toInt) : -2147483648 ≤ r7_.toInt + 1 ∧ r7_.toInt + 1 < 2147483648 := by omega
theorem lf_c_X12_away_3 (Mz : mM) (v : Int32) (r7_ : Int32) (z12_ : Int32) (j16_ : Nat) (z14_ : Int32) (h4_ : 0 ≤ v.toInt ∧ v.toInt ≤ 39) (h10_ : r7_.toInt = 20 + 4 * v.toInt) (h13_ : z12_.toInt = r7_.toInt + 1) (h17_ : (j16_ : Int) = z12_.toInt) (e15_ : z14_ = Mz.1 (50, 0, 0) j16_) : 20 ≤ j16_ ∧ j16_ < 180 ∧ j16_ % 4 = 1 := by have r_v := rngI v; have r_r7_ := rngI r7_; have r_z12_ := rngI z12_; have r_z14_ := rngI z14_; subst e15_; omega
theorem lf_c_X12_away_5 (Mz : mM) (v : Int32) (r7_ : Int32) (z12_ : Int32) (j16_ : Nat) (z14_ : Int32) (r20_ : Int32) (h4_ : 0 ≤ v.toInt ∧ v.toInt ≤ 39) (h10_ : r7_.toInt = 20 + 4 * v.toInt) (h13_ : z12_.toInt = r7_.toInt + 1) (h17_ : (j16_ : Int) = z12_.toInt) (e15_ : z14_ = Mz.1 (50, 0, 0) j16_) (h18_ : -1 ≤ z14_.toInt ∧ z14_.toInt ≤ 191) (h19_ : 0 ≤ z14_.toInt) (h23_ : r20_.toInt = 20 + 4 * v.toInt) : -2147483648 ≤ r20_.toInt + 1 ∧ r20_.toInt + 1 < 2147483648 := by have r_v := rngI v; have r_r7_ := rngI r7_; have r_z12_ := rngI z12_; have r_z14_ := rngI z14_; have r_r20_ := rngI r20_; subst e15_; omega
theorem lf_c_X12_away_6 (Mz : mM) (v : Int32) (r7_ : Int32) (z12_ : Int32) (j16_ : Nat) (z14_ : Int32) (r20_ : Int32) (z25_ : Int32) (h4_ : 0 ≤ v.toInt ∧ v.toInt ≤ 39) (h10_ : r7_.toInt = 20 + 4 * v.toInt) (h13_ : z12_.toInt = r7_.toInt + 1) (h17_ : (j16_ : Int) = z12_.toInt) (e15_ : z14_ = Mz.1 (50, 0, 0) j16_) (h18_ : -1 ≤ z14_.toInt ∧ z14_.toInt ≤ 191) (h19_ : 0 ≤ z14_.toInt) (h23_ : r20_.toInt = 20 + 4 * v.toInt) (h26_ : z25_.toInt = r20_.toInt + 1) : PN z25_.toInt.toNat (-1 : Int32) ∧ (z25_.toInt.toNat < 345 ∨ 493 < z25_.toInt.toNat) := by have r_v := rngI v; have r_r7_ := rngI r7_; have r_z12_ := rngI z12_; have r_z14_ := rngI z14_; have r_r20_ := rngI r20_; have r_z25_ := rngI z25_; have q0 := li_m1; subst e15_; unfold PN; omega
theorem lf_c_X12_away_7 (v : Int32) (r20_ : Int32) (z25_ : Int32) (h4_ : 0 ≤ v.toInt ∧ v.toInt ≤ 39) (h23_ : r20_.toInt = 20 + 4 * v.toInt) (h26_ : z25_.toInt = r20_.toInt + 1) : 0 ≤ z25_.toInt ∧ z25_.toInt ≤ 3566 := by omega
set_option maxHeartbeats 4000000 in
set_option maxRecDepth 100000 in
theorem c_X12_away (l : Launch) (G : va_G) (cy : Nat → ClassId) (ad : rf → Nat) (d : Nat) (v : Int32) (Mz : mM) (hIz : InvD Mz) : WP DD l G cy ad yX12_away cX12_away 2 (some .int) (d + 2) 0 [(0, vR (12, 0, 0)), (1, vI v)] [] Mz (fun r M' => InvD M' ∧ FR (S_c_X12_away) Mz M' ∧ (True) ∧ SP_X12_away v Mz r M') := by
  have hFz : FR (S_c_X12_away) Mz Mz := FR.self
  refine w_aload_n dX12_away_0 rfl 0 rfl ?_
  refine w_iload_n dX12_away_1 rfl 1 rfl ?_
  refine w_iconst (v := 1) dX12_away_2 (by decide) ?_
  refine w_callV (as := [vI v, vI 1]) (rest := []) (c_is1 l G cy ad d v Mz hIz) kV_X12_is pnn_17 (Nat.le_of_ble_eq_true rfl) m_1465 rfl rfl rfl ic_12 rfl rfl (by decide) (Nat.le_of_ble_eq_true rfl) dX12_away_3 (fun r1_ M2_ q3_ => ?_)
  obtain ⟨rfl, h4_, hs5_⟩ := q3_
  rcases h4_ with ⟨rfl, h4_⟩ | rfl
  · refine w_if_ne (tgt := 16) dX12_away_6 (by decide) li_1 (fun h6_ => ?_) (fun h9 => (absurd h9 (by decide)))
    refine w_aload_n dX12_away_16 rfl 0 rfl ?_
    refine w_getR (c' := (50, 0, 0)) fl_RX12_9 rfl rfl ic_12 dX12_away_17 rfl ?_
    refine w_aload_n dX12_away_20 rfl 0 rfl ?_
    refine w_iload_n dX12_away_21 rfl 1 rfl ?_
    refine w_callV (as := [vI v]) (rest := [vR (50, 0, 0)]) (c_X12_thing l G cy ad (d + 1) v Mz hIz (lf_c_X12_thingIs_0 v h4_ )) kV_X12_thing pnn_17 (Nat.le_of_ble_eq_true rfl) m_1447 rfl rfl rfl ic_12 rfl rfl (by decide) (Nat.le_of_ble_eq_true rfl) dX12_away_22 (fun r7_ M8_ q9_ => ?_)
    obtain ⟨rfl, h10_, hs11_⟩ := q9_
    refine w_iconst (v := 1) dX12_away_25 (by decide) ?_
    refine w_iaddB dX12_away_26 (rfl : r7_.toInt = r7_.toInt) li_1 (lf_c_X12_away_1 v r7_ h4_ h10_ ) (fun z12_ h13_ => ?_)
    refine w_iald rfl rfl ic_50 (rfl : z12_.toInt = z12_.toInt) (lf_c_X12_moves_6 v r7_ z12_ h4_ h10_ h13_ ) dX12_away_27 (fun j16_ h17_ z14_ e15_ => ?_)
    have h18_ : -1 ≤ z14_.toInt ∧ z14_.toInt ≤ 191 := pn_tc hIz e15_ (lf_c_X12_away_3 Mz v r7_ z12_ j16_ z14_ h4_ h10_ h13_ h17_ e15_ )
    refine w_if_ge (tgt := 40) dX12_away_28 (by decide) (rfl : z14_.toInt = z14_.toInt) (fun h19_ => ?_) (fun h19_ => ?_)
    · refine w_aload_n dX12_away_40 rfl 0 rfl ?_
      refine w_aload_n dX12_away_41 rfl 0 rfl ?_
      refine w_iload_n dX12_away_42 rfl 1 rfl ?_
      refine w_callV (as := [vI v]) (rest := [vR (12, 0, 0)]) (c_X12_thing l G cy ad (d + 1) v Mz hIz (lf_c_X12_thingIs_0 v h4_ )) kV_X12_thing pnn_17 (Nat.le_of_ble_eq_true rfl) m_1447 rfl rfl rfl ic_12 rfl rfl (by decide) (Nat.le_of_ble_eq_true rfl) dX12_away_43 (fun r20_ M21_ q22_ => ?_)
      obtain ⟨rfl, h23_, hs24_⟩ := q22_
      refine w_iconst (v := 1) dX12_away_46 (by decide) ?_
      refine w_iaddB dX12_away_47 (rfl : r20_.toInt = r20_.toInt) li_1 (lf_c_X12_away_5 Mz v r7_ z12_ j16_ z14_ r20_ h4_ h10_ h13_ h17_ e15_ h18_ h19_ h23_ ) (fun z25_ h26_ => ?_)
      refine w_iconst (v := (-1)) dX12_away_48 (by decide) ?_
      refine w_callV (as := [vI z25_, vI (-1)]) (rest := []) (c_X12_become l G cy ad (d + 1) z25_ (-1) Mz hIz (lf_c_X12_away_6 Mz v r7_ z12_ j16_ z14_ r20_ z25_ h4_ h10_ h13_ h17_ e15_ h18_ h19_ h23_ h26_ ) (lf_c_X12_away_7 v r20_ z25_ h4_ h23_ h26_ )) kV_X12_become pnn_17 (Nat.le_of_ble_eq_true rfl) m_1481 rfl rfl rfl ic_12 rfl rfl (by decide) (Nat.le_of_ble_eq_true rfl) dX12_away_49 (fun r27_ M28_ q29_ => ?_)
      obtain ⟨hI31_, hF32_, h30_, hs34_⟩ := q29_
      have hF33_ := hFz.tr hF32_ (fun c k => (fun h => h.elim (fun h => (Or.inl ⟨h.1, h.2⟩)) (fun h => h.elim)))
      exact w_iret rfl dX12_away_52 ⟨hI31_, hF33_, trivial, (Or.inl ⟨hs5_, h4_, r7_, hs11_, h10_, z12_, h13_, j16_, h17_, z14_, e15_, h18_, (Or.inl ⟨h19_, r20_, hs24_, h23_, z25_, h26_, M28_, hI31_, hF32_, r27_, hs34_, rfl, rfl⟩)⟩)⟩
    · refine w_aload_n dX12_away_31 rfl 0 rfl ?_
      refine w_ldc (v := (-1000003)) m_1455 dX12_away_32 ?_
      refine w_callV (as := [vI (-1000003)]) (rest := []) (c_X12_finding l G cy ad (d + 1) (-1000003) Mz hIz (by first | decide | (unfold vF; omega) | (unfold vRw; omega))) kV_X12_finding pnn_17 (Nat.le_of_ble_eq_true rfl) m_1434 rfl rfl rfl ic_12 rfl rfl (by decide) (Nat.le_of_ble_eq_true rfl) dX12_away_34 (fun r35_ M36_ q37_ => ?_)
      obtain ⟨hI39_, hF40_, h38_, hs42_⟩ := q37_
      have hF41_ := hFz.tr hF40_ (fun c k => (fun h => h.elim (fun h => (Or.inr (Or.inl ⟨h.1, h.2⟩))) (fun h => h.elim)))
      simp only [li_m1000003] at h38_
      refine w_goto (tgt := 52) dX12_away_37 (by decide) ?_
      exact w_iret rfl dX12_away_52 ⟨hI39_, hF41_, trivial, (Or.inl ⟨hs5_, h4_, r7_, hs11_, h10_, z12_, h13_, j16_, h17_, z14_, e15_, h18_, (Or.inr ⟨h19_, M36_, hI39_, hF40_, r35_, hs42_, h38_, rfl, rfl⟩)⟩)⟩
  · refine w_if_ne (tgt := 16) dX12_away_6 (by decide) li_0 (fun h9 => (absurd h9 (by decide))) (fun h43_ => ?_)
    refine w_aload_n dX12_away_9 rfl 0 rfl ?_
    refine w_ldc (v := (-1000001)) m_1433 dX12_away_10 ?_
    refine w_callV (as := [vI (-1000001)]) (rest := []) (c_X12_finding l G cy ad (d + 1) (-1000001) Mz hIz (by first | decide | (unfold vF; omega) | (unfold vRw; omega))) kV_X12_finding pnn_17 (Nat.le_of_ble_eq_true rfl) m_1434 rfl rfl rfl ic_12 rfl rfl (by decide) (Nat.le_of_ble_eq_true rfl) dX12_away_12 (fun r44_ M45_ q46_ => ?_)
    obtain ⟨hI48_, hF49_, h47_, hs51_⟩ := q46_
    have hF50_ := hFz.tr hF49_ (fun c k => (fun h => h.elim (fun h => (Or.inr (Or.inl ⟨h.1, h.2⟩))) (fun h => h.elim)))
    simp only [li_m1000001] at h47_
    exact w_iret rfl dX12_away_15 ⟨hI48_, hF50_, trivial, (Or.inr ⟨hs5_, M45_, hI48_, hF49_, r44_, hs51_, h47_, rfl, rfl⟩)⟩
def S_c_X12_kind : rf → Nat → Prop := fun c k => (c.1 = 50 ∧ c.2.1 = 0) ∨ (c.1 = 53 ∧ c.2.1 = 0) ∨ False
def SP_X12_kind (v : Int32) (u : Int32) (t : Int32) (Mz : mM) (r_ : Int32) (M_ : mM) : Prop := (((SP_X12_within v 0 4 Mz (1 : Int32)) ∧ (0 ≤ v.toInt ∧ v.toInt ≤ 4) ∧ (((SP_X12_within u 0 1 Mz (1 : Int32)) ∧ (0 ≤ u.toInt ∧ u.toInt ≤ 1) ∧ (((¬ u.toInt = 0) ∧ (((SP_X12_within t 0 9 Mz (1 : Int32)) ∧ (0 ≤ t.toInt ∧ t.toInt ≤ 9) ∧ (¬ u.toInt = 0) ∧ ∃ z21_ : Int32, (z21_.toInt = 14 + v.toInt) ∧ ∃ M24_ : mM, (InvD M24_) ∧ (FR (S_c_X12_become) Mz M24_) ∧ ∃ r23_ : Int32, (SP_X12_become z21_ t Mz r23_ M24_) ∧ r_ = r23_ ∧ M_ = M24_) ∨ ((SP_X12_within t 0 9 Mz (0 : Int32)) ∧ (¬ (0 ≤ t.toInt ∧ t.toInt ≤ 9)) ∧ ∃ M33_ : mM, (InvD M33_) ∧ (FR (S_c_X12_finding) Mz M33_) ∧ ∃ r32_ : Int32, (SP_X12_finding (-1000001) Mz r32_ M33_) ∧ (r32_.toInt = (-1000001)) ∧ r_ = r32_ ∧ M_ = M33_))) ∨ ((u.toInt = 0) ∧ (((SP_X12_within t 0 99 Mz (1 : Int32)) ∧ (0 ≤ t.toInt ∧ t.toInt ≤ 99) ∧ (u.toInt = 0) ∧ ∃ z47_ : Int32, (z47_.toInt = 9 + v.toInt) ∧ ∃ M50_ : mM, (InvD M50_) ∧ (FR (S_c_X12_become) Mz M50_) ∧ ∃ r49_ : Int32, (SP_X12_become z47_ t Mz r49_ M50_) ∧ r_ = r49_ ∧ M_ = M50_) ∨ ((SP_X12_within t 0 99 Mz (0 : Int32)) ∧ (¬ (0 ≤ t.toInt ∧ t.toInt ≤ 99)) ∧ ∃ M59_ : mM, (InvD M59_) ∧ (FR (S_c_X12_finding) Mz M59_) ∧ ∃ r58_ : Int32, (SP_X12_finding (-1000001) Mz r58_ M59_) ∧ (r58_.toInt = (-1000001)) ∧ r_ = r58_ ∧ M_ = M59_))))) ∨ ((SP_X12_within u 0 1 Mz (0 : Int32)) ∧ (¬ (0 ≤ u.toInt ∧ u.toInt ≤ 1)) ∧ ∃ M68_ : mM, (InvD M68_) ∧ (FR (S_c_X12_finding) Mz M68_) ∧ ∃ r67_ : Int32, (SP_X12_finding (-1000001) Mz r67_ M68_) ∧ (r67_.toInt = (-1000001)) ∧ r_ = r67_ ∧ M_ = M68_))) ∨ ((SP_X12_within v 0 4 Mz (0 : Int32)) ∧ (¬ (0 ≤ v.toInt ∧ v.toInt ≤ 4)) ∧ ∃ M77_ : mM, (InvD M77_) ∧ (FR (S_c_X12_finding) Mz M77_) ∧ ∃ r76_ : Int32, (SP_X12_finding (-1000001) Mz r76_ M77_) ∧ (r76_.toInt = (-1000001)) ∧ r_ = r76_ ∧ M_ = M77_))
theorem lf_c_X12_kind_0 (u : Int32) (h10_ : 0 ≤ u.toInt ∧ u.toInt ≤ 1) (h13_ : ¬ u.toInt = 0) (h9 : u.toInt = 0) : False := by omega
theorem lf_c_X12_kind_1 (v : Int32) (h4_ : 0 ≤ v.toInt ∧ v.toInt ≤ 4) : -2147483648 ≤ 14 + v.toInt ∧ 14 + v.toInt < 2147483648 := by omega
theorem lf_c_X12_kind_2 (v : Int32) (t : Int32) (z21_ : Int32) (h4_ : 0 ≤ v.toInt ∧ v.toInt ≤ 4) (h17_ : 0 ≤ t.toInt ∧ t.toInt ≤ 9) (h22_ : z21_.toInt = 14 + v.toInt) : PN z21_.toInt.toNat t ∧ (z21_.toInt.toNat < 345 ∨ 493 < z21_.toInt.toNat) := by have r_v := rngI v; have r_t := rngI t; have r_z21_ := rngI z21_; unfold PN; omega
theorem lf_c_X12_kind_3 (v : Int32) (z21_ : Int32) (h4_ : 0 ≤ v.toInt ∧ v.toInt ≤ 4) (h22_ : z21_.toInt = 14 + v.toInt) : 0 ≤ z21_.toInt ∧ z21_.toInt ≤ 3566 := by omega
theorem lf_c_X12_kind_4 (u : Int32) (h10_ : 0 ≤ u.toInt ∧ u.toInt ≤ 1) (h13_ : u.toInt = 0) (h9 : ¬ u.toInt = 0) : False := by omega
theorem lf_c_X12_kind_5 (v : Int32) (h4_ : 0 ≤ v.toInt ∧ v.toInt ≤ 4) : -2147483648 ≤ 9 + v.toInt ∧ 9 + v.toInt < 2147483648 := by omega
theorem lf_c_X12_kind_6 (v : Int32) (t : Int32) (z47_ : Int32) (h4_ : 0 ≤ v.toInt ∧ v.toInt ≤ 4) (h43_ : 0 ≤ t.toInt ∧ t.toInt ≤ 99) (h48_ : z47_.toInt = 9 + v.toInt) : PN z47_.toInt.toNat t ∧ (z47_.toInt.toNat < 345 ∨ 493 < z47_.toInt.toNat) := by have r_v := rngI v; have r_t := rngI t; have r_z47_ := rngI z47_; unfold PN; omega
theorem lf_c_X12_kind_7 (v : Int32) (z47_ : Int32) (h4_ : 0 ≤ v.toInt ∧ v.toInt ≤ 4) (h48_ : z47_.toInt = 9 + v.toInt) : 0 ≤ z47_.toInt ∧ z47_.toInt ≤ 3566 := by omega
set_option maxHeartbeats 4000000 in
set_option maxRecDepth 100000 in
theorem c_X12_kind (l : Launch) (G : va_G) (cy : Nat → ClassId) (ad : rf → Nat) (d : Nat) (v : Int32) (u : Int32) (t : Int32) (Mz : mM) (hIz : InvD Mz) : WP DD l G cy ad yX12_kind cX12_kind 4 (some .int) (d + 1) 0 [(0, vR (12, 0, 0)), (1, vI v), (2, vI u), (3, vI t)] [] Mz (fun r M' => InvD M' ∧ FR (S_c_X12_kind) Mz M' ∧ (True) ∧ SP_X12_kind v u t Mz r M') := by
  have hFz : FR (S_c_X12_kind) Mz Mz := FR.self
  refine w_iload_n dX12_kind_0 rfl 1 rfl ?_
  refine w_iconst (v := 0) dX12_kind_1 (by decide) ?_
  refine w_iconst (v := 4) dX12_kind_2 (by decide) ?_
  refine w_callS (as := [vI v, vI 0, vI 4]) (rest := []) (c_X12_within l G cy ad d v 0 4 Mz hIz) kS_X12_within pnn_17 (Nat.le_of_ble_eq_true rfl) m_1427 rfl rfl (by decide) (Nat.le_of_ble_eq_true rfl) dX12_kind_3 (fun r1_ M2_ q3_ => ?_)
  obtain ⟨rfl, h4_, hs5_⟩ := q3_
  rcases h4_ with ⟨rfl, h4_⟩ | ⟨rfl, h4_⟩
  · simp only [li_0, li_4] at h4_
    refine w_if_eq (tgt := 37) dX12_kind_6 (by decide) li_1 (fun h9 => (absurd h9 (by decide))) (fun h6_ => ?_)
    refine w_iload_n dX12_kind_9 rfl 2 rfl ?_
    refine w_iconst (v := 0) dX12_kind_10 (by decide) ?_
    refine w_iconst (v := 1) dX12_kind_11 (by decide) ?_
    refine w_callS (as := [vI u, vI 0, vI 1]) (rest := []) (c_X12_within l G cy ad d u 0 1 Mz hIz) kS_X12_within pnn_17 (Nat.le_of_ble_eq_true rfl) m_1427 rfl rfl (by decide) (Nat.le_of_ble_eq_true rfl) dX12_kind_12 (fun r7_ M8_ q9_ => ?_)
    obtain ⟨rfl, h10_, hs11_⟩ := q9_
    rcases h10_ with ⟨rfl, h10_⟩ | ⟨rfl, h10_⟩
    · simp only [li_0, li_1] at h10_
      refine w_if_eq (tgt := 37) dX12_kind_15 (by decide) li_1 (fun h9 => (absurd h9 (by decide))) (fun h12_ => ?_)
      refine w_iload_n dX12_kind_18 rfl 3 rfl ?_
      refine w_iconst (v := 0) dX12_kind_19 (by decide) ?_
      refine w_iload_n dX12_kind_20 rfl 2 rfl ?_
      refine w_if_ne (tgt := 29) dX12_kind_21 (by decide) (rfl : u.toInt = u.toInt) (fun h13_ => ?_) (fun h13_ => ?_)
      · refine w_bipush (v := 9) dX12_kind_29 (by decide) ?_
        refine w_callS (as := [vI t, vI 0, vI 9]) (rest := []) (c_X12_within l G cy ad d t 0 9 Mz hIz) kS_X12_within pnn_17 (Nat.le_of_ble_eq_true rfl) m_1427 rfl rfl (by decide) (Nat.le_of_ble_eq_true rfl) dX12_kind_31 (fun r14_ M15_ q16_ => ?_)
        obtain ⟨rfl, h17_, hs18_⟩ := q16_
        rcases h17_ with ⟨rfl, h17_⟩ | ⟨rfl, h17_⟩
        · simp only [li_0, li_9] at h17_
          refine w_if_ne (tgt := 44) dX12_kind_34 (by decide) li_1 (fun h19_ => ?_) (fun h9 => (absurd h9 (by decide)))
          refine w_aload_n dX12_kind_44 rfl 0 rfl ?_
          refine w_iload_n dX12_kind_45 rfl 2 rfl ?_
          refine w_if_ne (tgt := 54) dX12_kind_46 (by decide) (rfl : u.toInt = u.toInt) (fun h20_ => ?_) (fun h9 => (lf_c_X12_kind_0 u h10_ h13_ h9 ).elim)
          refine w_bipush (v := 14) dX12_kind_54 (by decide) ?_
          refine w_iload_n dX12_kind_56 rfl 1 rfl ?_
          refine w_iaddB dX12_kind_57 li_14 (rfl : v.toInt = v.toInt) (lf_c_X12_kind_1 v h4_ ) (fun z21_ h22_ => ?_)
          refine w_iload_n dX12_kind_58 rfl 3 rfl ?_
          refine w_callV (as := [vI z21_, vI t]) (rest := []) (c_X12_become l G cy ad d z21_ t Mz hIz (lf_c_X12_kind_2 v t z21_ h4_ h17_ h22_ ) (lf_c_X12_kind_3 v z21_ h4_ h22_ )) kV_X12_become pnn_17 (Nat.le_of_ble_eq_true rfl) m_1481 rfl rfl rfl ic_12 rfl rfl (by decide) (Nat.le_of_ble_eq_true rfl) dX12_kind_59 (fun r23_ M24_ q25_ => ?_)
          obtain ⟨hI27_, hF28_, h26_, hs30_⟩ := q25_
          have hF29_ := hFz.tr hF28_ (fun c k => (fun h => h.elim (fun h => (Or.inl ⟨h.1, h.2⟩)) (fun h => h.elim)))
          exact w_iret rfl dX12_kind_62 ⟨hI27_, hF29_, trivial, (Or.inl ⟨hs5_, h4_, (Or.inl ⟨hs11_, h10_, (Or.inl ⟨h13_, (Or.inl ⟨hs18_, h17_, h20_, z21_, h22_, M24_, hI27_, hF28_, r23_, hs30_, rfl, rfl⟩)⟩)⟩)⟩)⟩
        · simp only [li_0, li_9] at h17_
          refine w_if_ne (tgt := 44) dX12_kind_34 (by decide) li_0 (fun h9 => (absurd h9 (by decide))) (fun h31_ => ?_)
          refine w_aload_n dX12_kind_37 rfl 0 rfl ?_
          refine w_ldc (v := (-1000001)) m_1433 dX12_kind_38 ?_
          refine w_callV (as := [vI (-1000001)]) (rest := []) (c_X12_finding l G cy ad d (-1000001) Mz hIz (by first | decide | (unfold vF; omega) | (unfold vRw; omega))) kV_X12_finding pnn_17 (Nat.le_of_ble_eq_true rfl) m_1434 rfl rfl rfl ic_12 rfl rfl (by decide) (Nat.le_of_ble_eq_true rfl) dX12_kind_40 (fun r32_ M33_ q34_ => ?_)
          obtain ⟨hI36_, hF37_, h35_, hs39_⟩ := q34_
          have hF38_ := hFz.tr hF37_ (fun c k => (fun h => h.elim (fun h => (Or.inr (Or.inl ⟨h.1, h.2⟩))) (fun h => h.elim)))
          simp only [li_m1000001] at h35_
          exact w_iret rfl dX12_kind_43 ⟨hI36_, hF38_, trivial, (Or.inl ⟨hs5_, h4_, (Or.inl ⟨hs11_, h10_, (Or.inl ⟨h13_, (Or.inr ⟨hs18_, h17_, M33_, hI36_, hF37_, r32_, hs39_, h35_, rfl, rfl⟩)⟩)⟩)⟩)⟩
      · refine w_bipush (v := 99) dX12_kind_24 (by decide) ?_
        refine w_goto (tgt := 31) dX12_kind_26 (by decide) ?_
        refine w_callS (as := [vI t, vI 0, vI 99]) (rest := []) (c_X12_within l G cy ad d t 0 99 Mz hIz) kS_X12_within pnn_17 (Nat.le_of_ble_eq_true rfl) m_1427 rfl rfl (by decide) (Nat.le_of_ble_eq_true rfl) dX12_kind_31 (fun r40_ M41_ q42_ => ?_)
        obtain ⟨rfl, h43_, hs44_⟩ := q42_
        rcases h43_ with ⟨rfl, h43_⟩ | ⟨rfl, h43_⟩
        · simp only [li_0, li_99] at h43_
          refine w_if_ne (tgt := 44) dX12_kind_34 (by decide) li_1 (fun h45_ => ?_) (fun h9 => (absurd h9 (by decide)))
          refine w_aload_n dX12_kind_44 rfl 0 rfl ?_
          refine w_iload_n dX12_kind_45 rfl 2 rfl ?_
          refine w_if_ne (tgt := 54) dX12_kind_46 (by decide) (rfl : u.toInt = u.toInt) (fun h9 => (lf_c_X12_kind_4 u h10_ h13_ h9 ).elim) (fun h46_ => ?_)
          refine w_bipush (v := 9) dX12_kind_49 (by decide) ?_
          refine w_goto (tgt := 56) dX12_kind_51 (by decide) ?_
          refine w_iload_n dX12_kind_56 rfl 1 rfl ?_
          refine w_iaddB dX12_kind_57 li_9 (rfl : v.toInt = v.toInt) (lf_c_X12_kind_5 v h4_ ) (fun z47_ h48_ => ?_)
          refine w_iload_n dX12_kind_58 rfl 3 rfl ?_
          refine w_callV (as := [vI z47_, vI t]) (rest := []) (c_X12_become l G cy ad d z47_ t Mz hIz (lf_c_X12_kind_6 v t z47_ h4_ h43_ h48_ ) (lf_c_X12_kind_7 v z47_ h4_ h48_ )) kV_X12_become pnn_17 (Nat.le_of_ble_eq_true rfl) m_1481 rfl rfl rfl ic_12 rfl rfl (by decide) (Nat.le_of_ble_eq_true rfl) dX12_kind_59 (fun r49_ M50_ q51_ => ?_)
          obtain ⟨hI53_, hF54_, h52_, hs56_⟩ := q51_
          have hF55_ := hFz.tr hF54_ (fun c k => (fun h => h.elim (fun h => (Or.inl ⟨h.1, h.2⟩)) (fun h => h.elim)))
          exact w_iret rfl dX12_kind_62 ⟨hI53_, hF55_, trivial, (Or.inl ⟨hs5_, h4_, (Or.inl ⟨hs11_, h10_, (Or.inr ⟨h13_, (Or.inl ⟨hs44_, h43_, h46_, z47_, h48_, M50_, hI53_, hF54_, r49_, hs56_, rfl, rfl⟩)⟩)⟩)⟩)⟩
        · simp only [li_0, li_99] at h43_
          refine w_if_ne (tgt := 44) dX12_kind_34 (by decide) li_0 (fun h9 => (absurd h9 (by decide))) (fun h57_ => ?_)
          refine w_aload_n dX12_kind_37 rfl 0 rfl ?_
          refine w_ldc (v := (-1000001)) m_1433 dX12_kind_38 ?_
          refine w_callV (as := [vI (-1000001)]) (rest := []) (c_X12_finding l G cy ad d (-1000001) Mz hIz (by first | decide | (unfold vF; omega) | (unfold vRw; omega))) kV_X12_finding pnn_17 (Nat.le_of_ble_eq_true rfl) m_1434 rfl rfl rfl ic_12 rfl rfl (by decide) (Nat.le_of_ble_eq_true rfl) dX12_kind_40 (fun r58_ M59_ q60_ => ?_)
          obtain ⟨hI62_, hF63_, h61_, hs65_⟩ := q60_
          have hF64_ := hFz.tr hF63_ (fun c k => (fun h => h.elim (fun h => (Or.inr (Or.inl ⟨h.1, h.2⟩))) (fun h => h.elim)))
          simp only [li_m1000001] at h61_
          exact w_iret rfl dX12_kind_43 ⟨hI62_, hF64_, trivial, (Or.inl ⟨hs5_, h4_, (Or.inl ⟨hs11_, h10_, (Or.inr ⟨h13_, (Or.inr ⟨hs44_, h43_, M59_, hI62_, hF63_, r58_, hs65_, h61_, rfl, rfl⟩)⟩)⟩)⟩)⟩
    · simp only [li_0, li_1] at h10_
      refine w_if_eq (tgt := 37) dX12_kind_15 (by decide) li_0 (fun h66_ => ?_) (fun h9 => (absurd h9 (by decide)))
      refine w_aload_n dX12_kind_37 rfl 0 rfl ?_
      refine w_ldc (v := (-1000001)) m_1433 dX12_kind_38 ?_
      refine w_callV (as := [vI (-1000001)]) (rest := []) (c_X12_finding l G cy ad d (-1000001) Mz hIz (by first | decide | (unfold vF; omega) | (unfold vRw; omega))) kV_X12_finding pnn_17 (Nat.le_of_ble_eq_true rfl) m_1434 rfl rfl rfl ic_12 rfl rfl (by decide) (Nat.le_of_ble_eq_true rfl) dX12_kind_40 (fun r67_ M68_ q69_ => ?_)
      obtain ⟨hI71_, hF72_, h70_, hs74_⟩ := q69_
      have hF73_ := hFz.tr hF72_ (fun c k => (fun h => h.elim (fun h => (Or.inr (Or.inl ⟨h.1, h.2⟩))) (fun h => h.elim)))
      simp only [li_m1000001] at h70_
      exact w_iret rfl dX12_kind_43 ⟨hI71_, hF73_, trivial, (Or.inl ⟨hs5_, h4_, (Or.inr ⟨hs11_, h10_, M68_, hI71_, hF72_, r67_, hs74_, h70_, rfl, rfl⟩)⟩)⟩
  · simp only [li_0, li_4] at h4_
    refine w_if_eq (tgt := 37) dX12_kind_6 (by decide) li_0 (fun h75_ => ?_) (fun h9 => (absurd h9 (by decide)))
    refine w_aload_n dX12_kind_37 rfl 0 rfl ?_
    refine w_ldc (v := (-1000001)) m_1433 dX12_kind_38 ?_
    refine w_callV (as := [vI (-1000001)]) (rest := []) (c_X12_finding l G cy ad d (-1000001) Mz hIz (by first | decide | (unfold vF; omega) | (unfold vRw; omega))) kV_X12_finding pnn_17 (Nat.le_of_ble_eq_true rfl) m_1434 rfl rfl rfl ic_12 rfl rfl (by decide) (Nat.le_of_ble_eq_true rfl) dX12_kind_40 (fun r76_ M77_ q78_ => ?_)
    obtain ⟨hI80_, hF81_, h79_, hs83_⟩ := q78_
    have hF82_ := hFz.tr hF81_ (fun c k => (fun h => h.elim (fun h => (Or.inr (Or.inl ⟨h.1, h.2⟩))) (fun h => h.elim)))
    simp only [li_m1000001] at h79_
    exact w_iret rfl dX12_kind_43 ⟨hI80_, hF82_, trivial, (Or.inr ⟨hs5_, h4_, M77_, hI80_, hF81_, r76_, hs83_, h79_, rfl, rfl⟩)⟩
def S_c_X12_at : rf → Nat → Prop := fun c k => (c.1 = 53 ∧ c.2.1 = 0) ∨ False
def SP_X12_at (v : Int32) (Mz : mM) (r_ : Int32) (M_ : mM) : Prop := (((SP_X12_isCell v Mz (1 : Int32)) ∧ (0 ≤ v.toInt ∧ v.toInt ≤ 191) ∧ ∃ r7_ : Int32, (SP_X12_in v Mz r7_) ∧ (((-1 ≤ r7_.toInt ∧ r7_.toInt ≤ 39) ∨ (100 ≤ r7_.toInt ∧ r7_.toInt ≤ 107))) ∧ r_ = r7_ ∧ M_ = Mz) ∨ ((SP_X12_isCell v Mz (0 : Int32)) ∧ (¬ (0 ≤ v.toInt ∧ v.toInt ≤ 191)) ∧ ∃ M14_ : mM, (InvD M14_) ∧ (FR (S_c_X12_finding) Mz M14_) ∧ ∃ r13_ : Int32, (SP_X12_finding (-1000001) Mz r13_ M14_) ∧ (r13_.toInt = (-1000001)) ∧ r_ = r13_ ∧ M_ = M14_))
set_option maxHeartbeats 4000000 in
set_option maxRecDepth 100000 in
theorem c_X12_at (l : Launch) (G : va_G) (cy : Nat → ClassId) (ad : rf → Nat) (d : Nat) (v : Int32) (Mz : mM) (hIz : InvD Mz) : WP DD l G cy ad yX12_at cX12_at 2 (some .int) (d + 2) 0 [(0, vR (12, 0, 0)), (1, vI v)] [] Mz (fun r M' => InvD M' ∧ FR (S_c_X12_at) Mz M' ∧ (True) ∧ SP_X12_at v Mz r M') := by
  have hFz : FR (S_c_X12_at) Mz Mz := FR.self
  refine w_iload_n dX12_at_0 rfl 1 rfl ?_
  refine w_callS (as := [vI v]) (rest := []) (c_X12_isCell l G cy ad d v Mz hIz) kS_X12_isCell pnn_17 (Nat.le_of_ble_eq_true rfl) m_1430 rfl rfl (by decide) (Nat.le_of_ble_eq_true rfl) dX12_at_1 (fun r1_ M2_ q3_ => ?_)
  obtain ⟨rfl, h4_, hs5_⟩ := q3_
  rcases h4_ with ⟨rfl, h4_⟩ | ⟨rfl, h4_⟩
  · refine w_if_eq (tgt := 15) dX12_at_4 (by decide) li_1 (fun h9 => (absurd h9 (by decide))) (fun h6_ => ?_)
    refine w_aload_n dX12_at_7 rfl 0 rfl ?_
    refine w_iload_n dX12_at_8 rfl 1 rfl ?_
    refine w_callV (as := [vI v]) (rest := []) (c_X12_in l G cy ad d v Mz hIz) kV_X12_in pnn_17 (Nat.le_of_ble_eq_true rfl) m_1443 rfl rfl rfl ic_12 rfl rfl (by decide) (Nat.le_of_ble_eq_true rfl) dX12_at_9 (fun r7_ M8_ q9_ => ?_)
    obtain ⟨rfl, h10_, hs11_⟩ := q9_
    refine w_goto (tgt := 21) dX12_at_12 (by decide) ?_
    exact w_iret rfl dX12_at_21 ⟨hIz, hFz, trivial, (Or.inl ⟨hs5_, h4_, r7_, hs11_, h10_, rfl, rfl⟩)⟩
  · refine w_if_eq (tgt := 15) dX12_at_4 (by decide) li_0 (fun h12_ => ?_) (fun h9 => (absurd h9 (by decide)))
    refine w_aload_n dX12_at_15 rfl 0 rfl ?_
    refine w_ldc (v := (-1000001)) m_1433 dX12_at_16 ?_
    refine w_callV (as := [vI (-1000001)]) (rest := []) (c_X12_finding l G cy ad (d + 1) (-1000001) Mz hIz (by first | decide | (unfold vF; omega) | (unfold vRw; omega))) kV_X12_finding pnn_17 (Nat.le_of_ble_eq_true rfl) m_1434 rfl rfl rfl ic_12 rfl rfl (by decide) (Nat.le_of_ble_eq_true rfl) dX12_at_18 (fun r13_ M14_ q15_ => ?_)
    obtain ⟨hI17_, hF18_, h16_, hs20_⟩ := q15_
    have hF19_ := hFz.tr hF18_ (fun c k => (fun h => h.elim (fun h => (Or.inl ⟨h.1, h.2⟩)) (fun h => h.elim)))
    simp only [li_m1000001] at h16_
    exact w_iret rfl dX12_at_21 ⟨hI17_, hF19_, trivial, (Or.inr ⟨hs5_, h4_, M14_, hI17_, hF18_, r13_, hs20_, h16_, rfl, rfl⟩)⟩
def S_c_X12_lays : rf → Nat → Prop := fun c k => (c.1 = 50 ∧ c.2.1 = 0) ∨ (c.1 = 53 ∧ c.2.1 = 0) ∨ False
def ST_X12_lays_81 (v : Int32) (u : Int32) (Mz : mM) (v4_81 : Int32) (v3_81 : Int32) (M_81 : mM) (v4_81y : Int32) (v3_81y : Int32) (M_81y : mM) : Prop := (0 ≤ v4_81.toInt) ∧ (InvD M_81) ∧ (FR (S_c_X12_lays) Mz M_81) ∧ ∃ j33_ : Nat, ((j33_ : Int) = v.toInt) ∧ ∃ z31_ : Int32, (z31_ = M_81.1 (67, 0, 0) j33_) ∧ (0 ≤ z31_.toInt ∧ z31_.toInt ≤ 24) ∧ (z31_.toInt ≤ 16) ∧ (v4_81.toInt < z31_.toInt) ∧ ∃ z38_ : Int32, (z38_.toInt = 24 * v.toInt) ∧ ∃ z40_ : Int32, (z40_.toInt = z38_.toInt + v4_81.toInt) ∧ ∃ j44_ : Nat, ((j44_ : Int) = z40_.toInt) ∧ ∃ z42_ : Int32, (z42_ = M_81.1 (68, 0, 0) j44_) ∧ (((SP_X12_within z42_ 1 5 M_81 (1 : Int32)) ∧ (1 ≤ z42_.toInt ∧ z42_.toInt ≤ 5) ∧ ∃ z52_ : Int32, (z52_ = M_81.1 (50, 0, 0) 1) ∧ (0 ≤ z52_.toInt ∧ z52_.toInt ≤ 40) ∧ (((40 ≤ z52_.toInt) ∧ ∃ z56_ : Int32, (z56_.toInt = v4_81.toInt + 1) ∧ v4_81y = z56_ ∧ v3_81y = v3_81 ∧ M_81y = M_81) ∨ ((z52_.toInt < 40) ∧ ∃ z58_ : Int32, (z58_.toInt = 16 * u.toInt) ∧ ∃ z60_ : Int32, (z60_.toInt = z58_.toInt + v4_81.toInt) ∧ ∃ r62_ : Int32, (SP_X12_isFree z60_ M_81 r62_) ∧ ((0 ≤ r62_.toInt ∧ r62_.toInt ≤ 1)) ∧ (((r62_.toInt = 0) ∧ ∃ z68_ : Int32, (z68_.toInt = v4_81.toInt + 1) ∧ v4_81y = z68_ ∧ v3_81y = v3_81 ∧ M_81y = M_81) ∨ ((¬ r62_.toInt = 0) ∧ ∃ z70_ : Int32, (z70_.toInt = z42_.toInt - 1) ∧ ∃ z72_ : Int32, (z72_.toInt = 16 * u.toInt) ∧ ∃ z74_ : Int32, (z74_.toInt = z72_.toInt + v4_81.toInt) ∧ ∃ M77_ : mM, (InvD M77_) ∧ (FR (S_c_X12_comes) M_81 M77_) ∧ ∃ r76_ : Int32, (SP_X12_comes z70_ z74_ M_81 r76_ M77_) ∧ (0 ≤ r76_.toInt ∧ r76_.toInt ≤ 39) ∧ ∃ z85_ : Int32, (z85_ = v3_81 + Int32.ofInt 1) ∧ ∃ z87_ : Int32, (z87_.toInt = v4_81.toInt + 1) ∧ v4_81y = z87_ ∧ v3_81y = z85_ ∧ M_81y = M77_))))) ∨ ((SP_X12_within z42_ 1 5 M_81 (0 : Int32)) ∧ (¬ (1 ≤ z42_.toInt ∧ z42_.toInt ≤ 5)) ∧ ∃ z90_ : Int32, (z90_.toInt = v4_81.toInt + 1) ∧ v4_81y = z90_ ∧ v3_81y = v3_81 ∧ M_81y = M_81))
def SP_X12_lays (v : Int32) (u : Int32) (Mz : mM) (r_ : Int32) (M_ : mM) : Prop := (((SP_X12_isSheet v Mz (1 : Int32)) ∧ (0 ≤ v.toInt ∧ v.toInt ≤ 3) ∧ (((SP_X12_within u 0 11 Mz (1 : Int32)) ∧ (0 ≤ u.toInt ∧ u.toInt ≤ 11) ∧ ∃ j15_ : Nat, ((j15_ : Int) = v.toInt) ∧ ∃ z13_ : Int32, (z13_ = Mz.1 (66, 0, 0) j15_) ∧ (((¬ z13_.toInt = 0) ∧ ∃ j20_ : Nat, ((j20_ : Int) = v.toInt) ∧ ∃ z18_ : Int32, (z18_ = Mz.1 (66, 0, 0) j20_) ∧ (((z18_.toInt = 8) ∧ ∃ j25_ : Nat, ((j25_ : Int) = v.toInt) ∧ ∃ z23_ : Int32, (z23_ = Mz.1 (67, 0, 0) j25_) ∧ (0 ≤ z23_.toInt ∧ z23_.toInt ≤ 24) ∧ (((z23_.toInt ≤ 16) ∧ ∃ v4_81 : Int32, (0 ≤ v4_81.toInt) ∧ ∃ v3_81 : Int32, ∃ M_81 : mM, (RCH (fun x_ y_ => ST_X12_lays_81 v u Mz x_.1 x_.2.1 x_.2.2 y_.1 y_.2.1 y_.2.2) ((0 : Int32), (0 : Int32), Mz) (v4_81, v3_81, M_81)) ∧ (InvD M_81) ∧ (FR (S_c_X12_lays) Mz M_81) ∧ ∃ j33_ : Nat, ((j33_ : Int) = v.toInt) ∧ ∃ z31_ : Int32, (z31_ = M_81.1 (67, 0, 0) j33_) ∧ (0 ≤ z31_.toInt ∧ z31_.toInt ≤ 24) ∧ (z31_.toInt ≤ 16) ∧ (z31_.toInt ≤ v4_81.toInt) ∧ r_ = v3_81 ∧ M_ = M_81) ∨ ((16 < z23_.toInt) ∧ ∃ M93_ : mM, (InvD M93_) ∧ (FR (S_c_X12_finding) Mz M93_) ∧ ∃ r92_ : Int32, (SP_X12_finding (-1000003) Mz r92_ M93_) ∧ (r92_.toInt = (-1000003)) ∧ r_ = r92_ ∧ M_ = M93_))) ∨ ((¬ z18_.toInt = 8) ∧ ∃ M101_ : mM, (InvD M101_) ∧ (FR (S_c_X12_finding) Mz M101_) ∧ ∃ r100_ : Int32, (SP_X12_finding (-1000005) Mz r100_ M101_) ∧ (r100_.toInt = (-1000005)) ∧ r_ = r100_ ∧ M_ = M101_))) ∨ ((z13_.toInt = 0) ∧ ∃ M109_ : mM, (InvD M109_) ∧ (FR (S_c_X12_finding) Mz M109_) ∧ ∃ r108_ : Int32, (SP_X12_finding (-1000002) Mz r108_ M109_) ∧ (r108_.toInt = (-1000002)) ∧ r_ = r108_ ∧ M_ = M109_))) ∨ ((SP_X12_within u 0 11 Mz (0 : Int32)) ∧ (¬ (0 ≤ u.toInt ∧ u.toInt ≤ 11)) ∧ ∃ M118_ : mM, (InvD M118_) ∧ (FR (S_c_X12_finding) Mz M118_) ∧ ∃ r117_ : Int32, (SP_X12_finding (-1000001) Mz r117_ M118_) ∧ (r117_.toInt = (-1000001)) ∧ r_ = r117_ ∧ M_ = M118_))) ∨ ((SP_X12_isSheet v Mz (0 : Int32)) ∧ (¬ (0 ≤ v.toInt ∧ v.toInt ≤ 3)) ∧ ∃ M127_ : mM, (InvD M127_) ∧ (FR (S_c_X12_finding) Mz M127_) ∧ ∃ r126_ : Int32, (SP_X12_finding (-1000001) Mz r126_ M127_) ∧ (r126_.toInt = (-1000001)) ∧ r_ = r126_ ∧ M_ = M127_))
theorem lf_c_X12_lays_3 (v : Int32) (j25_ : Nat) (h26_ : (j25_ : Int) = v.toInt) : v.toInt = (j25_ : Int) := by omega
theorem lf_c_X12_lays_4 (z23_ : Int32) (h28_ : z23_.toInt ≤ 16) : z23_.toInt ≤ 16 := by omega
theorem lf_c_X12_lays_6 (v : Int32) (j33_ : Nat) (h34_ : (j33_ : Int) = v.toInt) : (j33_ : Int) = v.toInt := by omega
theorem lf_c_X12_lays_7 (v : Int32) (h4_ : 0 ≤ v.toInt ∧ v.toInt ≤ 3) : -2147483648 ≤ 24 * v.toInt ∧ 24 * v.toInt < 2147483648 := by omega
theorem lf_c_X12_lays_8 (v : Int32) (v4_81 : Int32) (z31_ : Int32) (z38_ : Int32) (h4_ : 0 ≤ v.toInt ∧ v.toInt ≤ 3) (hv0_81 : 0 ≤ v4_81.toInt) (h36_ : z31_.toInt ≤ 16) (h37_ : v4_81.toInt < z31_.toInt) (h39_ : z38_.toInt = 24 * v.toInt) : -2147483648 ≤ z38_.toInt + v4_81.toInt ∧ z38_.toInt + v4_81.toInt < 2147483648 := by omega
theorem lf_c_X12_lays_9 (v : Int32) (v4_81 : Int32) (z31_ : Int32) (z38_ : Int32) (z40_ : Int32) (h4_ : 0 ≤ v.toInt ∧ v.toInt ≤ 3) (hv0_81 : 0 ≤ v4_81.toInt) (h36_ : z31_.toInt ≤ 16) (h37_ : v4_81.toInt < z31_.toInt) (h39_ : z38_.toInt = 24 * v.toInt) (h41_ : z40_.toInt = z38_.toInt + v4_81.toInt) : 0 ≤ z40_.toInt ∧ z40_.toInt < ((96 : Nat) : Int) := by omega
theorem lf_c_X12_lays_10 (v4_81 : Int32) (z31_ : Int32) (hv0_81 : 0 ≤ v4_81.toInt) (h36_ : z31_.toInt ≤ 16) (h37_ : v4_81.toInt < z31_.toInt) : -2147483648 ≤ v4_81.toInt + 1 ∧ v4_81.toInt + 1 < 2147483648 := by omega
theorem lf_c_X12_lays_12 (v4_81 : Int32) (z31_ : Int32) (z56_ : Int32) (h36_ : z31_.toInt ≤ 16) (h37_ : v4_81.toInt < z31_.toInt) (h57_ : z56_.toInt = v4_81.toInt + 1) : (2147483648 - z56_.toInt).toNat < (2147483648 - v4_81.toInt).toNat := by omega
theorem lf_c_X12_lays_14 (u : Int32) (v4_81 : Int32) (z31_ : Int32) (z58_ : Int32) (h10_ : 0 ≤ u.toInt ∧ u.toInt ≤ 11) (hv0_81 : 0 ≤ v4_81.toInt) (h36_ : z31_.toInt ≤ 16) (h37_ : v4_81.toInt < z31_.toInt) (h59_ : z58_.toInt = 16 * u.toInt) : -2147483648 ≤ z58_.toInt + v4_81.toInt ∧ z58_.toInt + v4_81.toInt < 2147483648 := by omega
theorem lf_c_X12_lays_18 (z42_ : Int32) (h49_ : 1 ≤ z42_.toInt ∧ z42_.toInt ≤ 5) : -2147483648 ≤ z42_.toInt - 1 ∧ z42_.toInt - 1 < 2147483648 := by omega
theorem lf_c_X12_lays_21 (z42_ : Int32) (z70_ : Int32) (h49_ : 1 ≤ z42_.toInt ∧ z42_.toInt ≤ 5) (h71_ : z70_.toInt = z42_.toInt - 1) : 0 ≤ z70_.toInt ∧ z70_.toInt ≤ 4 := by omega
theorem lf_c_X12_lays_22 (u : Int32) (v4_81 : Int32) (z31_ : Int32) (z72_ : Int32) (z74_ : Int32) (h10_ : 0 ≤ u.toInt ∧ u.toInt ≤ 11) (hv0_81 : 0 ≤ v4_81.toInt) (h36_ : z31_.toInt ≤ 16) (h37_ : v4_81.toInt < z31_.toInt) (h73_ : z72_.toInt = 16 * u.toInt) (h75_ : z74_.toInt = z72_.toInt + v4_81.toInt) : 0 ≤ z74_.toInt ∧ z74_.toInt ≤ 191 := by omega
theorem lf_c_X12_lays_23 (z52_ : Int32) (h55_ : z52_.toInt < 40) : z52_.toInt ≤ 39 := by omega
set_option maxHeartbeats 4000000 in
set_option maxRecDepth 100000 in
theorem c_X12_lays (l : Launch) (G : va_G) (cy : Nat → ClassId) (ad : rf → Nat) (d : Nat) (v : Int32) (u : Int32) (Mz : mM) (hIz : InvD Mz) : WP DD l G cy ad yX12_lays cX12_lays 6 (some .int) (d + 3) 0 [(0, vR (12, 0, 0)), (1, vI v), (2, vI u)] [] Mz (fun r M' => InvD M' ∧ FR (S_c_X12_lays) Mz M' ∧ (True) ∧ SP_X12_lays v u Mz r M') := by
  have hFz : FR (S_c_X12_lays) Mz Mz := FR.self
  refine w_iload_n dX12_lays_0 rfl 1 rfl ?_
  refine w_callS (as := [vI v]) (rest := []) (c_X12_isSheet l G cy ad (d + 1) v Mz hIz) kS_X12_isSheet pnn_17 (Nat.le_of_ble_eq_true rfl) m_1497 rfl rfl (by decide) (Nat.le_of_ble_eq_true rfl) dX12_lays_1 (fun r1_ M2_ q3_ => ?_)
  obtain ⟨rfl, h4_, hs5_⟩ := q3_
  rcases h4_ with ⟨rfl, h4_⟩ | ⟨rfl, h4_⟩
  · refine w_if_eq (tgt := 17) dX12_lays_4 (by decide) li_1 (fun h9 => (absurd h9 (by decide))) (fun h6_ => ?_)
    refine w_iload_n dX12_lays_7 rfl 2 rfl ?_
    refine w_iconst (v := 0) dX12_lays_8 (by decide) ?_
    refine w_bipush (v := 11) dX12_lays_9 (by decide) ?_
    refine w_callS (as := [vI u, vI 0, vI 11]) (rest := []) (c_X12_within l G cy ad (d + 2) u 0 11 Mz hIz) kS_X12_within pnn_17 (Nat.le_of_ble_eq_true rfl) m_1427 rfl rfl (by decide) (Nat.le_of_ble_eq_true rfl) dX12_lays_11 (fun r7_ M8_ q9_ => ?_)
    obtain ⟨rfl, h10_, hs11_⟩ := q9_
    rcases h10_ with ⟨rfl, h10_⟩ | ⟨rfl, h10_⟩
    · simp only [li_0, li_11] at h10_
      refine w_if_ne (tgt := 24) dX12_lays_14 (by decide) li_1 (fun h12_ => ?_) (fun h9 => (absurd h9 (by decide)))
      refine w_aload_n dX12_lays_24 rfl 0 rfl ?_
      refine w_getR (c' := (66, 0, 0)) fl_RX12_72 rfl rfl ic_12 dX12_lays_25 rfl ?_
      refine w_iload_n dX12_lays_28 rfl 1 rfl ?_
      refine w_iald rfl rfl ic_66 (rfl : v.toInt = v.toInt) (lf_c_X11_lays_0 v h4_ ) dX12_lays_29 (fun j15_ h16_ z13_ e14_ => ?_)
      refine w_if_ne (tgt := 40) dX12_lays_30 (by decide) (rfl : z13_.toInt = z13_.toInt) (fun h17_ => ?_) (fun h17_ => ?_)
      · refine w_aload_n dX12_lays_40 rfl 0 rfl ?_
        refine w_getR (c' := (66, 0, 0)) fl_RX12_72 rfl rfl ic_12 dX12_lays_41 rfl ?_
        refine w_iload_n dX12_lays_44 rfl 1 rfl ?_
        refine w_iald rfl rfl ic_66 (rfl : v.toInt = v.toInt) (lf_c_X11_lays_0 v h4_ ) dX12_lays_45 (fun j20_ h21_ z18_ e19_ => ?_)
        refine w_bipush (v := 8) dX12_lays_46 (by decide) ?_
        refine w_icmp_eq (tgt := 58) dX12_lays_48 (by decide) (rfl : z18_.toInt = z18_.toInt) li_8 (fun h22_ => ?_) (fun h22_ => ?_)
        · refine w_aload_n dX12_lays_58 rfl 0 rfl ?_
          refine w_getR (c' := (67, 0, 0)) fl_RX12_75 rfl rfl ic_12 dX12_lays_59 rfl ?_
          refine w_iload_n dX12_lays_62 rfl 1 rfl ?_
          refine w_iald rfl rfl ic_67 (rfl : v.toInt = v.toInt) (lf_c_X11_lays_0 v h4_ ) dX12_lays_63 (fun j25_ h26_ z23_ e24_ => ?_)
          have h27_ : 0 ≤ z23_.toInt ∧ z23_.toInt ≤ 24 := pn_67 hIz e24_
          refine w_bipush (v := 16) dX12_lays_64 (by decide) ?_
          refine w_icmp_le (tgt := 76) dX12_lays_66 (by decide) (rfl : z23_.toInt = z23_.toInt) li_16 (fun h28_ => ?_) (fun h28_ => ?_)
          · have kf29_ : SZ (Mz.1 (67, 0, 0)) v 16 := fun q9 hq9 => by
              have e9 : q9 = j25_ := Int.ofNat_inj.mp (hq9.trans (lf_c_X12_lays_3 v j25_ h26_ ))
              rw [e9, ← e24_]; exact (lf_c_X12_lays_4 z23_ h28_ )
            refine w_iconst (v := 0) dX12_lays_76 (by decide) ?_
            refine w_istore_n (ls' := [(3, vI 0), (0, vR (12, 0, 0)), (1, vI v), (2, vI u)]) dX12_lays_77 rfl (by decide) rfl ?_
            refine w_iconst (v := 0) dX12_lays_78 (by decide) ?_
            refine w_istore (ls' := [(4, vI 0), (3, vI 0), (0, vR (12, 0, 0)), (1, vI v), (2, vI u)]) dX12_lays_79 (by decide) rfl ?_
            have lp30_ : ∀ (nn_81 : Nat) (M_81 : mM) (hI_81 : InvD M_81) (hF_81 : FR (S_c_X12_lays) Mz M_81) (v4_81 : Int32) (v3_81 : Int32) (hv0_81 : 0 ≤ v4_81.toInt) (kv0_81 : SZ (M_81.1 (67, 0, 0)) v 16) (hL_81 : RCH (fun x_ y_ => ST_X12_lays_81 v u Mz x_.1 x_.2.1 x_.2.2 y_.1 y_.2.1 y_.2.2) ((0 : Int32), (0 : Int32), Mz) (v4_81, v3_81, M_81)), (2147483648 - v4_81.toInt).toNat < nn_81 → WP DD l G cy ad yX12_lays cX12_lays 6 (some .int) (d + 3) 81 [(4, vI v4_81), (3, vI v3_81), (0, vR (12, 0, 0)), (1, vI v), (2, vI u)] [] M_81 (fun r M' => InvD M' ∧ FR (S_c_X12_lays) Mz M' ∧ (True) ∧ SP_X12_lays v u Mz r M') := by
              intro nn_81
              induction nn_81 with
              | zero => intro M_81 hI_81 hF_81 v4_81 v3_81 hv0_81 kv0_81 hL_81 hm_81; exact absurd hm_81 (Nat.not_lt_zero _)
              | succ nn_81 ih_81 =>
                intro M_81 hI_81 hF_81 v4_81 v3_81 hv0_81 kv0_81 hL_81 hm_81
                refine w_iload dX12_lays_81 0 rfl ?_
                refine w_aload_n dX12_lays_83 rfl 2 rfl ?_
                refine w_getR (c' := (67, 0, 0)) fl_RX12_75 rfl rfl ic_12 dX12_lays_84 rfl ?_
                refine w_iload_n dX12_lays_87 rfl 3 rfl ?_
                refine w_iald rfl rfl ic_67 (rfl : v.toInt = v.toInt) (lf_c_X11_lays_0 v h4_ ) dX12_lays_88 (fun j33_ h34_ z31_ e32_ => ?_)
                have h35_ : 0 ≤ z31_.toInt ∧ z31_.toInt ≤ 24 := pn_67 hI_81 e32_
                have h36_ : z31_.toInt ≤ 16 := by rw [e32_]; exact kv0_81 j33_ (lf_c_X12_lays_6 v j33_ h34_ )
                refine w_icmp_ge (tgt := 166) dX12_lays_89 (by decide) (rfl : v4_81.toInt = v4_81.toInt) (rfl : z31_.toInt = z31_.toInt) (fun h37_ => ?_) (fun h37_ => ?_)
                · refine w_iload_n dX12_lays_166 rfl 1 rfl ?_
                  exact w_iret rfl dX12_lays_167 ⟨hI_81, hF_81, trivial, (Or.inl ⟨hs5_, h4_, (Or.inl ⟨hs11_, h10_, j15_, h16_, z13_, e14_, (Or.inl ⟨h17_, j20_, h21_, z18_, e19_, (Or.inl ⟨h22_, j25_, h26_, z23_, e24_, h27_, (Or.inl ⟨h28_, v4_81, hv0_81, v3_81, M_81, hL_81, hI_81, hF_81, j33_, h34_, z31_, e32_, h35_, h36_, h37_, rfl, rfl⟩)⟩)⟩)⟩)⟩)⟩
                · refine w_aload_n dX12_lays_92 rfl 2 rfl ?_
                  refine w_getR (c' := (68, 0, 0)) fl_RX12_78 rfl rfl ic_12 dX12_lays_93 rfl ?_
                  refine w_bipush (v := 24) dX12_lays_96 (by decide) ?_
                  refine w_iload_n dX12_lays_98 rfl 3 rfl ?_
                  refine w_imulB dX12_lays_99 li_24 (rfl : v.toInt = v.toInt) (lf_c_X12_lays_7 v h4_ ) (fun z38_ h39_ => ?_)
                  refine w_iload dX12_lays_100 0 rfl ?_
                  refine w_iaddB dX12_lays_102 (rfl : z38_.toInt = z38_.toInt) (rfl : v4_81.toInt = v4_81.toInt) (lf_c_X12_lays_8 v v4_81 z31_ z38_ h4_ hv0_81 h36_ h37_ h39_ ) (fun z40_ h41_ => ?_)
                  refine w_iald rfl rfl ic_68 (rfl : z40_.toInt = z40_.toInt) (lf_c_X12_lays_9 v v4_81 z31_ z38_ z40_ h4_ hv0_81 h36_ h37_ h39_ h41_ ) dX12_lays_103 (fun j44_ h45_ z42_ e43_ => ?_)
                  refine w_istore (ls' := [(5, vI z42_), (4, vI v4_81), (3, vI v3_81), (0, vR (12, 0, 0)), (1, vI v), (2, vI u)]) dX12_lays_104 (by decide) rfl ?_
                  refine w_iload dX12_lays_106 0 rfl ?_
                  refine w_iconst (v := 1) dX12_lays_108 (by decide) ?_
                  refine w_iconst (v := 5) dX12_lays_109 (by decide) ?_
                  refine w_callS (as := [vI z42_, vI 1, vI 5]) (rest := []) (c_X12_within l G cy ad (d + 2) z42_ 1 5 M_81 hI_81) kS_X12_within pnn_17 (Nat.le_of_ble_eq_true rfl) m_1427 rfl rfl (by decide) (Nat.le_of_ble_eq_true rfl) dX12_lays_110 (fun r46_ M47_ q48_ => ?_)
                  obtain ⟨rfl, h49_, hs50_⟩ := q48_
                  rcases h49_ with ⟨rfl, h49_⟩ | ⟨rfl, h49_⟩
                  · simp only [li_1, li_5] at h49_
                    refine w_if_eq (tgt := 160) dX12_lays_113 (by decide) li_1 (fun h9 => (absurd h9 (by decide))) (fun h51_ => ?_)
                    refine w_aload_n dX12_lays_116 rfl 3 rfl ?_
                    refine w_getR (c' := (50, 0, 0)) fl_RX12_9 rfl rfl ic_12 dX12_lays_117 rfl ?_
                    refine w_iconst (v := 1) dX12_lays_120 (by decide) ?_
                    refine w_ialdL 1 rfl rfl ic_50 li_1 (by decide) dX12_lays_121 (fun z52_ e53_ => ?_)
                    have h54_ : 0 ≤ z52_.toInt ∧ z52_.toInt ≤ 40 := pn_1 hI_81 e53_
                    refine w_bipush (v := 40) dX12_lays_122 (by decide) ?_
                    refine w_icmp_ge (tgt := 160) dX12_lays_124 (by decide) (rfl : z52_.toInt = z52_.toInt) li_40 (fun h55_ => ?_) (fun h55_ => ?_)
                    · refine w_iincB (j := 1) (f := fun z56_ => [(4, vI z56_), (5, vI z42_), (3, vI v3_81), (0, vR (12, 0, 0)), (1, vI v), (2, vI u)]) dX12_lays_160 rfl (by decide) (fun _ => rfl) (rfl : v4_81.toInt = v4_81.toInt) li_1 (lf_c_X12_lays_10 v4_81 z31_ hv0_81 h36_ h37_ ) (fun z56_ h57_ => ?_)
                      refine w_goto (tgt := 81) dX12_lays_163 (by decide) ?_
                      refine w_loc (ls' := [(4, vI z56_), (3, vI v3_81), (0, vR (12, 0, 0)), (1, vI v), (2, vI u)]) [0, 2, 3, 4, 5] rfl ?_
                      exact ih_81 M_81 hI_81 hF_81 z56_ v3_81 (lf_c_X5_takeFrom_3 v4_81 z56_ hv0_81 h57_ ) kv0_81 (RCH.tail hL_81 ⟨hv0_81, hI_81, hF_81, j33_, h34_, z31_, e32_, h35_, h36_, h37_, z38_, h39_, z40_, h41_, j44_, h45_, z42_, e43_, (Or.inl ⟨hs50_, h49_, z52_, e53_, h54_, (Or.inl ⟨h55_, z56_, h57_, rfl, rfl, rfl⟩)⟩)⟩) (Nat.lt_of_lt_of_le (lf_c_X12_lays_12 v4_81 z31_ z56_ h36_ h37_ h57_ ) (Nat.le_of_lt_succ hm_81))
                    · refine w_aload_n dX12_lays_127 rfl 3 rfl ?_
                      refine w_bipush (v := 16) dX12_lays_128 (by decide) ?_
                      refine w_iload_n dX12_lays_130 rfl 5 rfl ?_
                      refine w_imulB dX12_lays_131 li_16 (rfl : u.toInt = u.toInt) (lf_c_X11_lays_1 u h10_ ) (fun z58_ h59_ => ?_)
                      refine w_iload dX12_lays_132 1 rfl ?_
                      refine w_iaddB dX12_lays_134 (rfl : z58_.toInt = z58_.toInt) (rfl : v4_81.toInt = v4_81.toInt) (lf_c_X12_lays_14 u v4_81 z31_ z58_ h10_ hv0_81 h36_ h37_ h59_ ) (fun z60_ h61_ => ?_)
                      refine w_callV (as := [vI z60_]) (rest := []) (c_X12_isFree l G cy ad d z60_ M_81 hI_81) kV_X12_isFree pnn_17 (Nat.le_of_ble_eq_true rfl) m_1439 rfl rfl rfl ic_12 rfl rfl (by decide) (Nat.le_of_ble_eq_true rfl) dX12_lays_135 (fun r62_ M63_ q64_ => ?_)
                      obtain ⟨rfl, h65_, hs66_⟩ := q64_
                      refine w_if_eq (tgt := 160) dX12_lays_138 (by decide) (rfl : r62_.toInt = r62_.toInt) (fun h67_ => ?_) (fun h67_ => ?_)
                      · refine w_iincB (j := 1) (f := fun z68_ => [(4, vI z68_), (5, vI z42_), (3, vI v3_81), (0, vR (12, 0, 0)), (1, vI v), (2, vI u)]) dX12_lays_160 rfl (by decide) (fun _ => rfl) (rfl : v4_81.toInt = v4_81.toInt) li_1 (lf_c_X12_lays_10 v4_81 z31_ hv0_81 h36_ h37_ ) (fun z68_ h69_ => ?_)
                        refine w_goto (tgt := 81) dX12_lays_163 (by decide) ?_
                        refine w_loc (ls' := [(4, vI z68_), (3, vI v3_81), (0, vR (12, 0, 0)), (1, vI v), (2, vI u)]) [0, 2, 3, 4, 5] rfl ?_
                        exact ih_81 M_81 hI_81 hF_81 z68_ v3_81 (lf_c_X5_takeFrom_3 v4_81 z68_ hv0_81 h69_ ) kv0_81 (RCH.tail hL_81 ⟨hv0_81, hI_81, hF_81, j33_, h34_, z31_, e32_, h35_, h36_, h37_, z38_, h39_, z40_, h41_, j44_, h45_, z42_, e43_, (Or.inl ⟨hs50_, h49_, z52_, e53_, h54_, (Or.inr ⟨h55_, z58_, h59_, z60_, h61_, r62_, hs66_, h65_, (Or.inl ⟨h67_, z68_, h69_, rfl, rfl, rfl⟩)⟩)⟩)⟩) (Nat.lt_of_lt_of_le (lf_c_X12_lays_12 v4_81 z31_ z68_ h36_ h37_ h69_ ) (Nat.le_of_lt_succ hm_81))
                      · refine w_aload_n dX12_lays_141 rfl 3 rfl ?_
                        refine w_iload dX12_lays_142 0 rfl ?_
                        refine w_iconst (v := 1) dX12_lays_144 (by decide) ?_
                        refine w_isubB dX12_lays_145 (rfl : z42_.toInt = z42_.toInt) li_1 (lf_c_X12_lays_18 z42_ h49_ ) (fun z70_ h71_ => ?_)
                        refine w_bipush (v := 16) dX12_lays_146 (by decide) ?_
                        refine w_iload_n dX12_lays_148 rfl 5 rfl ?_
                        refine w_imulB dX12_lays_149 li_16 (rfl : u.toInt = u.toInt) (lf_c_X11_lays_1 u h10_ ) (fun z72_ h73_ => ?_)
                        refine w_iload dX12_lays_150 1 rfl ?_
                        refine w_iaddB dX12_lays_152 (rfl : z72_.toInt = z72_.toInt) (rfl : v4_81.toInt = v4_81.toInt) (lf_c_X12_lays_14 u v4_81 z31_ z72_ h10_ hv0_81 h36_ h37_ h73_ ) (fun z74_ h75_ => ?_)
                        refine w_callV (as := [vI z70_, vI z74_]) (rest := []) (c_X12_comes l G cy ad (d + 1) z70_ z74_ M_81 hI_81 (lf_c_X12_lays_21 z42_ z70_ h49_ h71_ ) (lf_c_X12_lays_22 u v4_81 z31_ z72_ z74_ h10_ hv0_81 h36_ h37_ h73_ h75_ ) (by rw [← e53_]; exact (lf_c_X12_lays_23 z52_ h55_ ))) kV_X12_comes pnn_17 (Nat.le_of_ble_eq_true rfl) m_1457 rfl rfl rfl ic_12 rfl rfl (by decide) (Nat.le_of_ble_eq_true rfl) dX12_lays_153 (fun r76_ M77_ q78_ => ?_)
                        obtain ⟨hI80_, hF81_, h79_, hs83_⟩ := q78_
                        have hF82_ := hF_81.tr hF81_ (fun c k => (fun h => h.elim (fun h => (Or.inl ⟨h.1, h.2⟩)) (fun h => h.elim)))
                        have kf84_ : SZ (M77_.1 (67, 0, 0)) v 16 := by rw [(show M77_.1 (67, 0, 0) = M_81.1 (67, 0, 0) from funext (fun k => hF81_ (67, 0, 0) k (by simp [S_c_X12_comes])))]; exact kv0_81
                        refine w_pop dX12_lays_156 rfl ?_
                        refine w_iincX (j := 2) (f := fun z85_ => [(3, vI z85_), (5, vI z42_), (4, vI v4_81), (0, vR (12, 0, 0)), (1, vI v), (2, vI u)]) dX12_lays_157 rfl (by decide) (fun _ => rfl) (fun z85_ h86_ => ?_)
                        refine w_iincB (j := 2) (f := fun z87_ => [(4, vI z87_), (3, vI z85_), (5, vI z42_), (0, vR (12, 0, 0)), (1, vI v), (2, vI u)]) dX12_lays_160 rfl (by decide) (fun _ => rfl) (rfl : v4_81.toInt = v4_81.toInt) li_1 (lf_c_X12_lays_10 v4_81 z31_ hv0_81 h36_ h37_ ) (fun z87_ h88_ => ?_)
                        refine w_goto (tgt := 81) dX12_lays_163 (by decide) ?_
                        refine w_loc (ls' := [(4, vI z87_), (3, vI z85_), (0, vR (12, 0, 0)), (1, vI v), (2, vI u)]) [0, 1, 3, 4, 5] rfl ?_
                        exact ih_81 M77_ hI80_ hF82_ z87_ z85_ (lf_c_X5_takeFrom_3 v4_81 z87_ hv0_81 h88_ ) kf84_ (RCH.tail hL_81 ⟨hv0_81, hI_81, hF_81, j33_, h34_, z31_, e32_, h35_, h36_, h37_, z38_, h39_, z40_, h41_, j44_, h45_, z42_, e43_, (Or.inl ⟨hs50_, h49_, z52_, e53_, h54_, (Or.inr ⟨h55_, z58_, h59_, z60_, h61_, r62_, hs66_, h65_, (Or.inr ⟨h67_, z70_, h71_, z72_, h73_, z74_, h75_, M77_, hI80_, hF81_, r76_, hs83_, h79_, z85_, h86_, z87_, h88_, rfl, rfl, rfl⟩)⟩)⟩)⟩) (Nat.lt_of_lt_of_le (lf_c_X12_lays_12 v4_81 z31_ z87_ h36_ h37_ h88_ ) (Nat.le_of_lt_succ hm_81))
                  · simp only [li_1, li_5] at h49_
                    refine w_if_eq (tgt := 160) dX12_lays_113 (by decide) li_0 (fun h89_ => ?_) (fun h9 => (absurd h9 (by decide)))
                    refine w_iincB (j := 1) (f := fun z90_ => [(4, vI z90_), (5, vI z42_), (3, vI v3_81), (0, vR (12, 0, 0)), (1, vI v), (2, vI u)]) dX12_lays_160 rfl (by decide) (fun _ => rfl) (rfl : v4_81.toInt = v4_81.toInt) li_1 (lf_c_X12_lays_10 v4_81 z31_ hv0_81 h36_ h37_ ) (fun z90_ h91_ => ?_)
                    refine w_goto (tgt := 81) dX12_lays_163 (by decide) ?_
                    refine w_loc (ls' := [(4, vI z90_), (3, vI v3_81), (0, vR (12, 0, 0)), (1, vI v), (2, vI u)]) [0, 2, 3, 4, 5] rfl ?_
                    exact ih_81 M_81 hI_81 hF_81 z90_ v3_81 (lf_c_X5_takeFrom_3 v4_81 z90_ hv0_81 h91_ ) kv0_81 (RCH.tail hL_81 ⟨hv0_81, hI_81, hF_81, j33_, h34_, z31_, e32_, h35_, h36_, h37_, z38_, h39_, z40_, h41_, j44_, h45_, z42_, e43_, (Or.inr ⟨hs50_, h49_, z90_, h91_, rfl, rfl, rfl⟩)⟩) (Nat.lt_of_lt_of_le (lf_c_X12_lays_12 v4_81 z31_ z90_ h36_ h37_ h91_ ) (Nat.le_of_lt_succ hm_81))
            exact lp30_ _ Mz hIz hFz 0 0 (lf_c_X5_takeFrom_5 ) kf29_ RCH.refl (Nat.lt_succ_self _)
          · refine w_aload_n dX12_lays_69 rfl 0 rfl ?_
            refine w_ldc (v := (-1000003)) m_1455 dX12_lays_70 ?_
            refine w_callV (as := [vI (-1000003)]) (rest := []) (c_X12_finding l G cy ad (d + 2) (-1000003) Mz hIz (by first | decide | (unfold vF; omega) | (unfold vRw; omega))) kV_X12_finding pnn_17 (Nat.le_of_ble_eq_true rfl) m_1434 rfl rfl rfl ic_12 rfl rfl (by decide) (Nat.le_of_ble_eq_true rfl) dX12_lays_72 (fun r92_ M93_ q94_ => ?_)
            obtain ⟨hI96_, hF97_, h95_, hs99_⟩ := q94_
            have hF98_ := hFz.tr hF97_ (fun c k => (fun h => h.elim (fun h => (Or.inr (Or.inl ⟨h.1, h.2⟩))) (fun h => h.elim)))
            simp only [li_m1000003] at h95_
            exact w_iret rfl dX12_lays_75 ⟨hI96_, hF98_, trivial, (Or.inl ⟨hs5_, h4_, (Or.inl ⟨hs11_, h10_, j15_, h16_, z13_, e14_, (Or.inl ⟨h17_, j20_, h21_, z18_, e19_, (Or.inl ⟨h22_, j25_, h26_, z23_, e24_, h27_, (Or.inr ⟨h28_, M93_, hI96_, hF97_, r92_, hs99_, h95_, rfl, rfl⟩)⟩)⟩)⟩)⟩)⟩
        · refine w_aload_n dX12_lays_51 rfl 0 rfl ?_
          refine w_ldc (v := (-1000005)) m_1476 dX12_lays_52 ?_
          refine w_callV (as := [vI (-1000005)]) (rest := []) (c_X12_finding l G cy ad (d + 2) (-1000005) Mz hIz (by first | decide | (unfold vF; omega) | (unfold vRw; omega))) kV_X12_finding pnn_17 (Nat.le_of_ble_eq_true rfl) m_1434 rfl rfl rfl ic_12 rfl rfl (by decide) (Nat.le_of_ble_eq_true rfl) dX12_lays_54 (fun r100_ M101_ q102_ => ?_)
          obtain ⟨hI104_, hF105_, h103_, hs107_⟩ := q102_
          have hF106_ := hFz.tr hF105_ (fun c k => (fun h => h.elim (fun h => (Or.inr (Or.inl ⟨h.1, h.2⟩))) (fun h => h.elim)))
          simp only [li_m1000005] at h103_
          exact w_iret rfl dX12_lays_57 ⟨hI104_, hF106_, trivial, (Or.inl ⟨hs5_, h4_, (Or.inl ⟨hs11_, h10_, j15_, h16_, z13_, e14_, (Or.inl ⟨h17_, j20_, h21_, z18_, e19_, (Or.inr ⟨h22_, M101_, hI104_, hF105_, r100_, hs107_, h103_, rfl, rfl⟩)⟩)⟩)⟩)⟩
      · refine w_aload_n dX12_lays_33 rfl 0 rfl ?_
        refine w_ldc (v := (-1000002)) m_1500 dX12_lays_34 ?_
        refine w_callV (as := [vI (-1000002)]) (rest := []) (c_X12_finding l G cy ad (d + 2) (-1000002) Mz hIz (by first | decide | (unfold vF; omega) | (unfold vRw; omega))) kV_X12_finding pnn_17 (Nat.le_of_ble_eq_true rfl) m_1434 rfl rfl rfl ic_12 rfl rfl (by decide) (Nat.le_of_ble_eq_true rfl) dX12_lays_36 (fun r108_ M109_ q110_ => ?_)
        obtain ⟨hI112_, hF113_, h111_, hs115_⟩ := q110_
        have hF114_ := hFz.tr hF113_ (fun c k => (fun h => h.elim (fun h => (Or.inr (Or.inl ⟨h.1, h.2⟩))) (fun h => h.elim)))
        simp only [li_m1000002] at h111_
        exact w_iret rfl dX12_lays_39 ⟨hI112_, hF114_, trivial, (Or.inl ⟨hs5_, h4_, (Or.inl ⟨hs11_, h10_, j15_, h16_, z13_, e14_, (Or.inr ⟨h17_, M109_, hI112_, hF113_, r108_, hs115_, h111_, rfl, rfl⟩)⟩)⟩)⟩
    · simp only [li_0, li_11] at h10_
      refine w_if_ne (tgt := 24) dX12_lays_14 (by decide) li_0 (fun h9 => (absurd h9 (by decide))) (fun h116_ => ?_)
      refine w_aload_n dX12_lays_17 rfl 0 rfl ?_
      refine w_ldc (v := (-1000001)) m_1433 dX12_lays_18 ?_
      refine w_callV (as := [vI (-1000001)]) (rest := []) (c_X12_finding l G cy ad (d + 2) (-1000001) Mz hIz (by first | decide | (unfold vF; omega) | (unfold vRw; omega))) kV_X12_finding pnn_17 (Nat.le_of_ble_eq_true rfl) m_1434 rfl rfl rfl ic_12 rfl rfl (by decide) (Nat.le_of_ble_eq_true rfl) dX12_lays_20 (fun r117_ M118_ q119_ => ?_)
      obtain ⟨hI121_, hF122_, h120_, hs124_⟩ := q119_
      have hF123_ := hFz.tr hF122_ (fun c k => (fun h => h.elim (fun h => (Or.inr (Or.inl ⟨h.1, h.2⟩))) (fun h => h.elim)))
      simp only [li_m1000001] at h120_
      exact w_iret rfl dX12_lays_23 ⟨hI121_, hF123_, trivial, (Or.inl ⟨hs5_, h4_, (Or.inr ⟨hs11_, h10_, M118_, hI121_, hF122_, r117_, hs124_, h120_, rfl, rfl⟩)⟩)⟩
  · refine w_if_eq (tgt := 17) dX12_lays_4 (by decide) li_0 (fun h125_ => ?_) (fun h9 => (absurd h9 (by decide)))
    refine w_aload_n dX12_lays_17 rfl 0 rfl ?_
    refine w_ldc (v := (-1000001)) m_1433 dX12_lays_18 ?_
    refine w_callV (as := [vI (-1000001)]) (rest := []) (c_X12_finding l G cy ad (d + 2) (-1000001) Mz hIz (by first | decide | (unfold vF; omega) | (unfold vRw; omega))) kV_X12_finding pnn_17 (Nat.le_of_ble_eq_true rfl) m_1434 rfl rfl rfl ic_12 rfl rfl (by decide) (Nat.le_of_ble_eq_true rfl) dX12_lays_20 (fun r126_ M127_ q128_ => ?_)
    obtain ⟨hI130_, hF131_, h129_, hs133_⟩ := q128_
    have hF132_ := hFz.tr hF131_ (fun c k => (fun h => h.elim (fun h => (Or.inr (Or.inl ⟨h.1, h.2⟩))) (fun h => h.elim)))
    simp only [li_m1000001] at h129_
    exact w_iret rfl dX12_lays_23 ⟨hI130_, hF132_, trivial, (Or.inr ⟨hs5_, h4_, M127_, hI130_, hF131_, r126_, hs133_, h129_, rfl, rfl⟩)⟩
def S_c_X12_air : rf → Nat → Prop := fun c k => (c.1 = 53 ∧ c.2.1 = 0) ∨ (c.1 = 50 ∧ c.2.1 = 0) ∨ False
def SP_X12_air (v : Int32) (u : Int32) (Mz : mM) (r_ : Int32) (M_ : mM) : Prop := (((¬ v.toInt = 0) ∧ (((¬ v.toInt = 1) ∧ (((¬ v.toInt = 2) ∧ ∃ M6_ : mM, (InvD M6_) ∧ (FR (S_c_X12_finding) Mz M6_) ∧ ∃ r5_ : Int32, (SP_X12_finding (-1000001) Mz r5_ M6_) ∧ (r5_.toInt = (-1000001)) ∧ r_ = r5_ ∧ M_ = M6_) ∨ ((v.toInt = 2) ∧ (((SP_X12_within u 0 1 Mz (1 : Int32)) ∧ (0 ≤ u.toInt ∧ u.toInt ≤ 1) ∧ ∃ z20_ : Int32, (z20_.toInt = 6 + v.toInt) ∧ ∃ M23_ : mM, (InvD M23_) ∧ (FR (S_c_X12_become) Mz M23_) ∧ ∃ r22_ : Int32, (SP_X12_become z20_ u Mz r22_ M23_) ∧ r_ = r22_ ∧ M_ = M23_) ∨ ((SP_X12_within u 0 1 Mz (0 : Int32)) ∧ (¬ (0 ≤ u.toInt ∧ u.toInt ≤ 1)) ∧ ∃ M33_ : mM, (InvD M33_) ∧ (FR (S_c_X12_finding) Mz M33_) ∧ ∃ r32_ : Int32, (SP_X12_finding (-1000001) Mz r32_ M33_) ∧ (r32_.toInt = (-1000001)) ∧ r_ = r32_ ∧ M_ = M33_))))) ∨ ((v.toInt = 1) ∧ (((SP_X12_within u 0 90 Mz (1 : Int32)) ∧ (0 ≤ u.toInt ∧ u.toInt ≤ 90) ∧ ∃ z46_ : Int32, (z46_.toInt = 6 + v.toInt) ∧ ∃ M49_ : mM, (InvD M49_) ∧ (FR (S_c_X12_become) Mz M49_) ∧ ∃ r48_ : Int32, (SP_X12_become z46_ u Mz r48_ M49_) ∧ r_ = r48_ ∧ M_ = M49_) ∨ ((SP_X12_within u 0 90 Mz (0 : Int32)) ∧ (¬ (0 ≤ u.toInt ∧ u.toInt ≤ 90)) ∧ ∃ M58_ : mM, (InvD M58_) ∧ (FR (S_c_X12_finding) Mz M58_) ∧ ∃ r57_ : Int32, (SP_X12_finding (-1000001) Mz r57_ M58_) ∧ (r57_.toInt = (-1000001)) ∧ r_ = r57_ ∧ M_ = M58_))))) ∨ ((v.toInt = 0) ∧ (((SP_X12_within u 0 99 Mz (1 : Int32)) ∧ (0 ≤ u.toInt ∧ u.toInt ≤ 99) ∧ ∃ z71_ : Int32, (z71_.toInt = 6 + v.toInt) ∧ ∃ M74_ : mM, (InvD M74_) ∧ (FR (S_c_X12_become) Mz M74_) ∧ ∃ r73_ : Int32, (SP_X12_become z71_ u Mz r73_ M74_) ∧ r_ = r73_ ∧ M_ = M74_) ∨ ((SP_X12_within u 0 99 Mz (0 : Int32)) ∧ (¬ (0 ≤ u.toInt ∧ u.toInt ≤ 99)) ∧ ∃ M83_ : mM, (InvD M83_) ∧ (FR (S_c_X12_finding) Mz M83_) ∧ ∃ r82_ : Int32, (SP_X12_finding (-1000001) Mz r82_ M83_) ∧ (r82_.toInt = (-1000001)) ∧ r_ = r82_ ∧ M_ = M83_))))
theorem lf_c_X12_air_0 (v : Int32) (h3_ : v.toInt = 2) : -2147483648 ≤ 6 + v.toInt ∧ 6 + v.toInt < 2147483648 := by omega
theorem lf_c_X12_air_1 (v : Int32) (u : Int32) (z20_ : Int32) (h1_ : ¬ v.toInt = 0) (h2_ : ¬ v.toInt = 1) (h3_ : v.toInt = 2) (h16_ : 0 ≤ u.toInt ∧ u.toInt ≤ 1) (h21_ : z20_.toInt = 6 + v.toInt) : PN z20_.toInt.toNat u ∧ (z20_.toInt.toNat < 345 ∨ 493 < z20_.toInt.toNat) := by have r_v := rngI v; have r_u := rngI u; have r_z20_ := rngI z20_; unfold PN; omega
theorem lf_c_X12_air_2 (v : Int32) (z20_ : Int32) (h3_ : v.toInt = 2) (h21_ : z20_.toInt = 6 + v.toInt) : 0 ≤ z20_.toInt ∧ z20_.toInt ≤ 3566 := by omega
theorem lf_c_X12_air_3 (v : Int32) (h2_ : v.toInt = 1) : -2147483648 ≤ 6 + v.toInt ∧ 6 + v.toInt < 2147483648 := by omega
theorem lf_c_X12_air_4 (v : Int32) (u : Int32) (z46_ : Int32) (h1_ : ¬ v.toInt = 0) (h2_ : v.toInt = 1) (h43_ : 0 ≤ u.toInt ∧ u.toInt ≤ 90) (h47_ : z46_.toInt = 6 + v.toInt) : PN z46_.toInt.toNat u ∧ (z46_.toInt.toNat < 345 ∨ 493 < z46_.toInt.toNat) := by have r_v := rngI v; have r_u := rngI u; have r_z46_ := rngI z46_; unfold PN; omega
theorem lf_c_X12_air_5 (v : Int32) (z46_ : Int32) (h2_ : v.toInt = 1) (h47_ : z46_.toInt = 6 + v.toInt) : 0 ≤ z46_.toInt ∧ z46_.toInt ≤ 3566 := by omega
theorem lf_c_X12_air_6 (v : Int32) (h1_ : v.toInt = 0) : -2147483648 ≤ 6 + v.toInt ∧ 6 + v.toInt < 2147483648 := by omega
theorem lf_c_X12_air_7 (v : Int32) (u : Int32) (z71_ : Int32) (h1_ : v.toInt = 0) (h68_ : 0 ≤ u.toInt ∧ u.toInt ≤ 99) (h72_ : z71_.toInt = 6 + v.toInt) : PN z71_.toInt.toNat u ∧ (z71_.toInt.toNat < 345 ∨ 493 < z71_.toInt.toNat) := by have r_v := rngI v; have r_u := rngI u; have r_z71_ := rngI z71_; unfold PN; omega
theorem lf_c_X12_air_8 (v : Int32) (z71_ : Int32) (h1_ : v.toInt = 0) (h72_ : z71_.toInt = 6 + v.toInt) : 0 ≤ z71_.toInt ∧ z71_.toInt ≤ 3566 := by omega
set_option maxHeartbeats 4000000 in
set_option maxRecDepth 100000 in
theorem c_X12_air (l : Launch) (G : va_G) (cy : Nat → ClassId) (ad : rf → Nat) (d : Nat) (v : Int32) (u : Int32) (Mz : mM) (hIz : InvD Mz) : WP DD l G cy ad yX12_air cX12_air 4 (some .int) (d + 1) 0 [(0, vR (12, 0, 0)), (1, vI v), (2, vI u)] [] Mz (fun r M' => InvD M' ∧ FR (S_c_X12_air) Mz M' ∧ (True) ∧ SP_X12_air v u Mz r M') := by
  have hFz : FR (S_c_X12_air) Mz Mz := FR.self
  refine w_iload_n dX12_air_0 rfl 1 rfl ?_
  refine w_if_ne (tgt := 14) dX12_air_1 (by decide) (rfl : v.toInt = v.toInt) (fun h1_ => ?_) (fun h1_ => ?_)
  · refine w_iload_n dX12_air_14 rfl 1 rfl ?_
    refine w_iconst (v := 1) dX12_air_15 (by decide) ?_
    refine w_icmp_ne (tgt := 29) dX12_air_16 (by decide) (rfl : v.toInt = v.toInt) li_1 (fun h2_ => ?_) (fun h2_ => ?_)
    · refine w_iload_n dX12_air_29 rfl 1 rfl ?_
      refine w_iconst (v := 2) dX12_air_30 (by decide) ?_
      refine w_icmp_ne (tgt := 47) dX12_air_31 (by decide) (rfl : v.toInt = v.toInt) li_2 (fun h3_ => ?_) (fun h3_ => ?_)
      · refine w_iconst (v := 0) dX12_air_47 (by decide) ?_
        refine w_istore_n (ls' := [(3, vI 0), (0, vR (12, 0, 0)), (1, vI v), (2, vI u)]) dX12_air_48 rfl (by decide) rfl ?_
        refine w_iload_n dX12_air_49 rfl 0 rfl ?_
        refine w_if_eq (tgt := 65) dX12_air_50 (by decide) li_0 (fun h4_ => ?_) (fun h9 => (absurd h9 (by decide)))
        refine w_aload_n dX12_air_65 rfl 1 rfl ?_
        refine w_ldc (v := (-1000001)) m_1433 dX12_air_66 ?_
        refine w_callV (as := [vI (-1000001)]) (rest := []) (c_X12_finding l G cy ad d (-1000001) Mz hIz (by first | decide | (unfold vF; omega) | (unfold vRw; omega))) kV_X12_finding pnn_17 (Nat.le_of_ble_eq_true rfl) m_1434 rfl rfl rfl ic_12 rfl rfl (by decide) (Nat.le_of_ble_eq_true rfl) dX12_air_68 (fun r5_ M6_ q7_ => ?_)
        obtain ⟨hI9_, hF10_, h8_, hs12_⟩ := q7_
        have hF11_ := hFz.tr hF10_ (fun c k => (fun h => h.elim (fun h => (Or.inl ⟨h.1, h.2⟩)) (fun h => h.elim)))
        simp only [li_m1000001] at h8_
        exact w_iret rfl dX12_air_71 ⟨hI9_, hF11_, trivial, (Or.inl ⟨h1_, (Or.inl ⟨h2_, (Or.inl ⟨h3_, M6_, hI9_, hF10_, r5_, hs12_, h8_, rfl, rfl⟩)⟩)⟩)⟩
      · refine w_iload_n dX12_air_34 rfl 2 rfl ?_
        refine w_iconst (v := 0) dX12_air_35 (by decide) ?_
        refine w_iconst (v := 1) dX12_air_36 (by decide) ?_
        refine w_callS (as := [vI u, vI 0, vI 1]) (rest := []) (c_X12_within l G cy ad d u 0 1 Mz hIz) kS_X12_within pnn_17 (Nat.le_of_ble_eq_true rfl) m_1427 rfl rfl (by decide) (Nat.le_of_ble_eq_true rfl) dX12_air_37 (fun r13_ M14_ q15_ => ?_)
        obtain ⟨rfl, h16_, hs17_⟩ := q15_
        rcases h16_ with ⟨rfl, h16_⟩ | ⟨rfl, h16_⟩
        · simp only [li_0, li_1] at h16_
          refine w_if_eq (tgt := 47) dX12_air_40 (by decide) li_1 (fun h9 => (absurd h9 (by decide))) (fun h18_ => ?_)
          refine w_iconst (v := 1) dX12_air_43 (by decide) ?_
          refine w_goto (tgt := 48) dX12_air_44 (by decide) ?_
          refine w_istore_n (ls' := [(3, vI 1), (0, vR (12, 0, 0)), (1, vI v), (2, vI u)]) dX12_air_48 rfl (by decide) rfl ?_
          refine w_iload_n dX12_air_49 rfl 0 rfl ?_
          refine w_if_eq (tgt := 65) dX12_air_50 (by decide) li_1 (fun h9 => (absurd h9 (by decide))) (fun h19_ => ?_)
          refine w_aload_n dX12_air_53 rfl 1 rfl ?_
          refine w_bipush (v := 6) dX12_air_54 (by decide) ?_
          refine w_iload_n dX12_air_56 rfl 2 rfl ?_
          refine w_iaddB dX12_air_57 li_6 (rfl : v.toInt = v.toInt) (lf_c_X12_air_0 v h3_ ) (fun z20_ h21_ => ?_)
          refine w_iload_n dX12_air_58 rfl 3 rfl ?_
          refine w_callV (as := [vI z20_, vI u]) (rest := []) (c_X12_become l G cy ad d z20_ u Mz hIz (lf_c_X12_air_1 v u z20_ h1_ h2_ h3_ h16_ h21_ ) (lf_c_X12_air_2 v z20_ h3_ h21_ )) kV_X12_become pnn_17 (Nat.le_of_ble_eq_true rfl) m_1481 rfl rfl rfl ic_12 rfl rfl (by decide) (Nat.le_of_ble_eq_true rfl) dX12_air_59 (fun r22_ M23_ q24_ => ?_)
          obtain ⟨hI26_, hF27_, h25_, hs29_⟩ := q24_
          have hF28_ := hFz.tr hF27_ (fun c k => (fun h => h.elim (fun h => (Or.inr (Or.inl ⟨h.1, h.2⟩))) (fun h => h.elim)))
          refine w_goto (tgt := 71) dX12_air_62 (by decide) ?_
          exact w_iret rfl dX12_air_71 ⟨hI26_, hF28_, trivial, (Or.inl ⟨h1_, (Or.inl ⟨h2_, (Or.inr ⟨h3_, (Or.inl ⟨hs17_, h16_, z20_, h21_, M23_, hI26_, hF27_, r22_, hs29_, rfl, rfl⟩)⟩)⟩)⟩)⟩
        · simp only [li_0, li_1] at h16_
          refine w_if_eq (tgt := 47) dX12_air_40 (by decide) li_0 (fun h30_ => ?_) (fun h9 => (absurd h9 (by decide)))
          refine w_iconst (v := 0) dX12_air_47 (by decide) ?_
          refine w_istore_n (ls' := [(3, vI 0), (0, vR (12, 0, 0)), (1, vI v), (2, vI u)]) dX12_air_48 rfl (by decide) rfl ?_
          refine w_iload_n dX12_air_49 rfl 0 rfl ?_
          refine w_if_eq (tgt := 65) dX12_air_50 (by decide) li_0 (fun h31_ => ?_) (fun h9 => (absurd h9 (by decide)))
          refine w_aload_n dX12_air_65 rfl 1 rfl ?_
          refine w_ldc (v := (-1000001)) m_1433 dX12_air_66 ?_
          refine w_callV (as := [vI (-1000001)]) (rest := []) (c_X12_finding l G cy ad d (-1000001) Mz hIz (by first | decide | (unfold vF; omega) | (unfold vRw; omega))) kV_X12_finding pnn_17 (Nat.le_of_ble_eq_true rfl) m_1434 rfl rfl rfl ic_12 rfl rfl (by decide) (Nat.le_of_ble_eq_true rfl) dX12_air_68 (fun r32_ M33_ q34_ => ?_)
          obtain ⟨hI36_, hF37_, h35_, hs39_⟩ := q34_
          have hF38_ := hFz.tr hF37_ (fun c k => (fun h => h.elim (fun h => (Or.inl ⟨h.1, h.2⟩)) (fun h => h.elim)))
          simp only [li_m1000001] at h35_
          exact w_iret rfl dX12_air_71 ⟨hI36_, hF38_, trivial, (Or.inl ⟨h1_, (Or.inl ⟨h2_, (Or.inr ⟨h3_, (Or.inr ⟨hs17_, h16_, M33_, hI36_, hF37_, r32_, hs39_, h35_, rfl, rfl⟩)⟩)⟩)⟩)⟩
    · refine w_iload_n dX12_air_19 rfl 2 rfl ?_
      refine w_iconst (v := 0) dX12_air_20 (by decide) ?_
      refine w_bipush (v := 90) dX12_air_21 (by decide) ?_
      refine w_callS (as := [vI u, vI 0, vI 90]) (rest := []) (c_X12_within l G cy ad d u 0 90 Mz hIz) kS_X12_within pnn_17 (Nat.le_of_ble_eq_true rfl) m_1427 rfl rfl (by decide) (Nat.le_of_ble_eq_true rfl) dX12_air_23 (fun r40_ M41_ q42_ => ?_)
      obtain ⟨rfl, h43_, hs44_⟩ := q42_
      rcases h43_ with ⟨rfl, h43_⟩ | ⟨rfl, h43_⟩
      · simp only [li_0, li_90] at h43_
        refine w_goto (tgt := 48) dX12_air_26 (by decide) ?_
        refine w_istore_n (ls' := [(3, vI 1), (0, vR (12, 0, 0)), (1, vI v), (2, vI u)]) dX12_air_48 rfl (by decide) rfl ?_
        refine w_iload_n dX12_air_49 rfl 0 rfl ?_
        refine w_if_eq (tgt := 65) dX12_air_50 (by decide) li_1 (fun h9 => (absurd h9 (by decide))) (fun h45_ => ?_)
        refine w_aload_n dX12_air_53 rfl 1 rfl ?_
        refine w_bipush (v := 6) dX12_air_54 (by decide) ?_
        refine w_iload_n dX12_air_56 rfl 2 rfl ?_
        refine w_iaddB dX12_air_57 li_6 (rfl : v.toInt = v.toInt) (lf_c_X12_air_3 v h2_ ) (fun z46_ h47_ => ?_)
        refine w_iload_n dX12_air_58 rfl 3 rfl ?_
        refine w_callV (as := [vI z46_, vI u]) (rest := []) (c_X12_become l G cy ad d z46_ u Mz hIz (lf_c_X12_air_4 v u z46_ h1_ h2_ h43_ h47_ ) (lf_c_X12_air_5 v z46_ h2_ h47_ )) kV_X12_become pnn_17 (Nat.le_of_ble_eq_true rfl) m_1481 rfl rfl rfl ic_12 rfl rfl (by decide) (Nat.le_of_ble_eq_true rfl) dX12_air_59 (fun r48_ M49_ q50_ => ?_)
        obtain ⟨hI52_, hF53_, h51_, hs55_⟩ := q50_
        have hF54_ := hFz.tr hF53_ (fun c k => (fun h => h.elim (fun h => (Or.inr (Or.inl ⟨h.1, h.2⟩))) (fun h => h.elim)))
        refine w_goto (tgt := 71) dX12_air_62 (by decide) ?_
        exact w_iret rfl dX12_air_71 ⟨hI52_, hF54_, trivial, (Or.inl ⟨h1_, (Or.inr ⟨h2_, (Or.inl ⟨hs44_, h43_, z46_, h47_, M49_, hI52_, hF53_, r48_, hs55_, rfl, rfl⟩)⟩)⟩)⟩
      · simp only [li_0, li_90] at h43_
        refine w_goto (tgt := 48) dX12_air_26 (by decide) ?_
        refine w_istore_n (ls' := [(3, vI 0), (0, vR (12, 0, 0)), (1, vI v), (2, vI u)]) dX12_air_48 rfl (by decide) rfl ?_
        refine w_iload_n dX12_air_49 rfl 0 rfl ?_
        refine w_if_eq (tgt := 65) dX12_air_50 (by decide) li_0 (fun h56_ => ?_) (fun h9 => (absurd h9 (by decide)))
        refine w_aload_n dX12_air_65 rfl 1 rfl ?_
        refine w_ldc (v := (-1000001)) m_1433 dX12_air_66 ?_
        refine w_callV (as := [vI (-1000001)]) (rest := []) (c_X12_finding l G cy ad d (-1000001) Mz hIz (by first | decide | (unfold vF; omega) | (unfold vRw; omega))) kV_X12_finding pnn_17 (Nat.le_of_ble_eq_true rfl) m_1434 rfl rfl rfl ic_12 rfl rfl (by decide) (Nat.le_of_ble_eq_true rfl) dX12_air_68 (fun r57_ M58_ q59_ => ?_)
        obtain ⟨hI61_, hF62_, h60_, hs64_⟩ := q59_
        have hF63_ := hFz.tr hF62_ (fun c k => (fun h => h.elim (fun h => (Or.inl ⟨h.1, h.2⟩)) (fun h => h.elim)))
        simp only [li_m1000001] at h60_
        exact w_iret rfl dX12_air_71 ⟨hI61_, hF63_, trivial, (Or.inl ⟨h1_, (Or.inr ⟨h2_, (Or.inr ⟨hs44_, h43_, M58_, hI61_, hF62_, r57_, hs64_, h60_, rfl, rfl⟩)⟩)⟩)⟩
  · refine w_iload_n dX12_air_4 rfl 2 rfl ?_
    refine w_iconst (v := 0) dX12_air_5 (by decide) ?_
    refine w_bipush (v := 99) dX12_air_6 (by decide) ?_
    refine w_callS (as := [vI u, vI 0, vI 99]) (rest := []) (c_X12_within l G cy ad d u 0 99 Mz hIz) kS_X12_within pnn_17 (Nat.le_of_ble_eq_true rfl) m_1427 rfl rfl (by decide) (Nat.le_of_ble_eq_true rfl) dX12_air_8 (fun r65_ M66_ q67_ => ?_)
    obtain ⟨rfl, h68_, hs69_⟩ := q67_
    rcases h68_ with ⟨rfl, h68_⟩ | ⟨rfl, h68_⟩
    · simp only [li_0, li_99] at h68_
      refine w_goto (tgt := 48) dX12_air_11 (by decide) ?_
      refine w_istore_n (ls' := [(3, vI 1), (0, vR (12, 0, 0)), (1, vI v), (2, vI u)]) dX12_air_48 rfl (by decide) rfl ?_
      refine w_iload_n dX12_air_49 rfl 0 rfl ?_
      refine w_if_eq (tgt := 65) dX12_air_50 (by decide) li_1 (fun h9 => (absurd h9 (by decide))) (fun h70_ => ?_)
      refine w_aload_n dX12_air_53 rfl 1 rfl ?_
      refine w_bipush (v := 6) dX12_air_54 (by decide) ?_
      refine w_iload_n dX12_air_56 rfl 2 rfl ?_
      refine w_iaddB dX12_air_57 li_6 (rfl : v.toInt = v.toInt) (lf_c_X12_air_6 v h1_ ) (fun z71_ h72_ => ?_)
      refine w_iload_n dX12_air_58 rfl 3 rfl ?_
      refine w_callV (as := [vI z71_, vI u]) (rest := []) (c_X12_become l G cy ad d z71_ u Mz hIz (lf_c_X12_air_7 v u z71_ h1_ h68_ h72_ ) (lf_c_X12_air_8 v z71_ h1_ h72_ )) kV_X12_become pnn_17 (Nat.le_of_ble_eq_true rfl) m_1481 rfl rfl rfl ic_12 rfl rfl (by decide) (Nat.le_of_ble_eq_true rfl) dX12_air_59 (fun r73_ M74_ q75_ => ?_)
      obtain ⟨hI77_, hF78_, h76_, hs80_⟩ := q75_
      have hF79_ := hFz.tr hF78_ (fun c k => (fun h => h.elim (fun h => (Or.inr (Or.inl ⟨h.1, h.2⟩))) (fun h => h.elim)))
      refine w_goto (tgt := 71) dX12_air_62 (by decide) ?_
      exact w_iret rfl dX12_air_71 ⟨hI77_, hF79_, trivial, (Or.inr ⟨h1_, (Or.inl ⟨hs69_, h68_, z71_, h72_, M74_, hI77_, hF78_, r73_, hs80_, rfl, rfl⟩)⟩)⟩
    · simp only [li_0, li_99] at h68_
      refine w_goto (tgt := 48) dX12_air_11 (by decide) ?_
      refine w_istore_n (ls' := [(3, vI 0), (0, vR (12, 0, 0)), (1, vI v), (2, vI u)]) dX12_air_48 rfl (by decide) rfl ?_
      refine w_iload_n dX12_air_49 rfl 0 rfl ?_
      refine w_if_eq (tgt := 65) dX12_air_50 (by decide) li_0 (fun h81_ => ?_) (fun h9 => (absurd h9 (by decide)))
      refine w_aload_n dX12_air_65 rfl 1 rfl ?_
      refine w_ldc (v := (-1000001)) m_1433 dX12_air_66 ?_
      refine w_callV (as := [vI (-1000001)]) (rest := []) (c_X12_finding l G cy ad d (-1000001) Mz hIz (by first | decide | (unfold vF; omega) | (unfold vRw; omega))) kV_X12_finding pnn_17 (Nat.le_of_ble_eq_true rfl) m_1434 rfl rfl rfl ic_12 rfl rfl (by decide) (Nat.le_of_ble_eq_true rfl) dX12_air_68 (fun r82_ M83_ q84_ => ?_)
      obtain ⟨hI86_, hF87_, h85_, hs89_⟩ := q84_
      have hF88_ := hFz.tr hF87_ (fun c k => (fun h => h.elim (fun h => (Or.inl ⟨h.1, h.2⟩)) (fun h => h.elim)))
      simp only [li_m1000001] at h85_
      exact w_iret rfl dX12_air_71 ⟨hI86_, hF88_, trivial, (Or.inr ⟨h1_, (Or.inr ⟨hs69_, h68_, M83_, hI86_, hF87_, r82_, hs89_, h85_, rfl, rfl⟩)⟩)⟩
def S_c_X12_walker : rf → Nat → Prop := fun c k => (c.1 = 50 ∧ c.2.1 = 0) ∨ (c.1 = 53 ∧ c.2.1 = 0) ∨ False
def SP_X12_walker (v : Int32) (u : Int32) (t : Int32) (Mz : mM) (r_ : Int32) (M_ : mM) : Prop := (((SP_X12_within v 0 7 Mz (1 : Int32)) ∧ (0 ≤ v.toInt ∧ v.toInt ≤ 7) ∧ (((SP_X12_isCell u Mz (1 : Int32)) ∧ (0 ≤ u.toInt ∧ u.toInt ≤ 191) ∧ (((SP_X12_isSide t Mz (1 : Int32)) ∧ (0 ≤ t.toInt ∧ t.toInt ≤ 7) ∧ ∃ r19_ : Int32, (SP_X12_isFree u Mz r19_) ∧ ((0 ≤ r19_.toInt ∧ r19_.toInt ≤ 1)) ∧ (((¬ r19_.toInt = 0) ∧ ∃ z25_ : Int32, (z25_ = Mz.1 (50, 0, 0) 2) ∧ (0 ≤ z25_.toInt ∧ z25_.toInt ≤ 8) ∧ (((¬ z25_.toInt = 8) ∧ ∃ r30_ : Int32, (SP_X12_goer z25_ Mz r30_) ∧ (r30_.toInt = 180 + 9 * z25_.toInt) ∧ ∃ z35_ : Int32, (z35_.toInt = r30_.toInt + 0) ∧ ∃ j39_ : Nat, ((j39_ : Int) = z35_.toInt) ∧ ∃ M37_ : mM, (M37_ = up Mz (50, 0, 0) j39_ v) ∧ ∃ z44_ : Int32, (z44_.toInt = r30_.toInt + 1) ∧ ∃ j48_ : Nat, ((j48_ : Int) = z44_.toInt) ∧ ∃ M46_ : mM, (M46_ = up M37_ (50, 0, 0) j48_ u) ∧ ∃ z53_ : Int32, (z53_.toInt = r30_.toInt + 2) ∧ ∃ j57_ : Nat, ((j57_ : Int) = z53_.toInt) ∧ ∃ M55_ : mM, (M55_ = up M46_ (50, 0, 0) j57_ t) ∧ ∃ z62_ : Int32, (z62_.toInt = r30_.toInt + 3) ∧ ∃ j66_ : Nat, ((j66_ : Int) = z62_.toInt) ∧ ∃ M64_ : mM, (M64_ = up M55_ (50, 0, 0) j66_ 5) ∧ ∃ z71_ : Int32, (z71_.toInt = r30_.toInt + 4) ∧ ∃ j75_ : Nat, ((j75_ : Int) = z71_.toInt) ∧ ∃ M73_ : mM, (M73_ = up M64_ (50, 0, 0) j75_ 60) ∧ ∃ z80_ : Int32, (z80_ = M73_.1 (50, 0, 0) 2) ∧ (z80_.toInt = z25_.toInt) ∧ (0 ≤ z80_.toInt ∧ z80_.toInt ≤ 8) ∧ ∃ z84_ : Int32, (z84_.toInt = z80_.toInt + 1) ∧ ∃ M86_ : mM, (M86_ = up M73_ (50, 0, 0) 2 z84_) ∧ r_ = z25_ ∧ M_ = M86_) ∨ ((z25_.toInt = 8) ∧ ∃ M91_ : mM, (InvD M91_) ∧ (FR (S_c_X12_finding) Mz M91_) ∧ ∃ r90_ : Int32, (SP_X12_finding (-1000004) Mz r90_ M91_) ∧ (r90_.toInt = (-1000004)) ∧ r_ = r90_ ∧ M_ = M91_))) ∨ ((r19_.toInt = 0) ∧ ∃ M100_ : mM, (InvD M100_) ∧ (FR (S_c_X12_finding) Mz M100_) ∧ ∃ r99_ : Int32, (SP_X12_finding (-1000003) Mz r99_ M100_) ∧ (r99_.toInt = (-1000003)) ∧ r_ = r99_ ∧ M_ = M100_))) ∨ ((SP_X12_isSide t Mz (0 : Int32)) ∧ (¬ (0 ≤ t.toInt ∧ t.toInt ≤ 7)) ∧ ∃ M109_ : mM, (InvD M109_) ∧ (FR (S_c_X12_finding) Mz M109_) ∧ ∃ r108_ : Int32, (SP_X12_finding (-1000001) Mz r108_ M109_) ∧ (r108_.toInt = (-1000001)) ∧ r_ = r108_ ∧ M_ = M109_))) ∨ ((SP_X12_isCell u Mz (0 : Int32)) ∧ (¬ (0 ≤ u.toInt ∧ u.toInt ≤ 191)) ∧ ∃ M118_ : mM, (InvD M118_) ∧ (FR (S_c_X12_finding) Mz M118_) ∧ ∃ r117_ : Int32, (SP_X12_finding (-1000001) Mz r117_ M118_) ∧ (r117_.toInt = (-1000001)) ∧ r_ = r117_ ∧ M_ = M118_))) ∨ ((SP_X12_within v 0 7 Mz (0 : Int32)) ∧ (¬ (0 ≤ v.toInt ∧ v.toInt ≤ 7)) ∧ ∃ M127_ : mM, (InvD M127_) ∧ (FR (S_c_X12_finding) Mz M127_) ∧ ∃ r126_ : Int32, (SP_X12_finding (-1000001) Mz r126_ M127_) ∧ (r126_.toInt = (-1000001)) ∧ r_ = r126_ ∧ M_ = M127_))
theorem lf_c_X12_walker_0 (z25_ : Int32) (h28_ : 0 ≤ z25_.toInt ∧ z25_.toInt ≤ 8) (h29_ : ¬ z25_.toInt = 8) : 0 ≤ z25_.toInt ∧ z25_.toInt ≤ 7 := by omega
theorem lf_c_X12_walker_1 (z25_ : Int32) (r30_ : Int32) (h28_ : 0 ≤ z25_.toInt ∧ z25_.toInt ≤ 8) (h33_ : r30_.toInt = 180 + 9 * z25_.toInt) : -2147483648 ≤ r30_.toInt + 0 ∧ r30_.toInt + 0 < 2147483648 := by omega
theorem lf_c_X12_walker_2 (z25_ : Int32) (r30_ : Int32) (z35_ : Int32) (h28_ : 0 ≤ z25_.toInt ∧ z25_.toInt ≤ 8) (h33_ : r30_.toInt = 180 + 9 * z25_.toInt) (h36_ : z35_.toInt = r30_.toInt + 0) : 0 ≤ z35_.toInt ∧ z35_.toInt < ((3567 : Nat) : Int) := by omega
theorem lf_c_X12_walker_3 (M37_ : mM) (Mz : mM) (v : Int32) (z25_ : Int32) (r30_ : Int32) (z35_ : Int32) (j39_ : Nat) (h4_ : 0 ≤ v.toInt ∧ v.toInt ≤ 7) (e26_ : z25_ = Mz.1 (50, 0, 0) 2) (kf27_ : (Mz.1 (50, 0, 0) 2).toInt = z25_.toInt) (h28_ : 0 ≤ z25_.toInt ∧ z25_.toInt ≤ 8) (h29_ : ¬ z25_.toInt = 8) (h33_ : r30_.toInt = 180 + 9 * z25_.toInt) (h36_ : z35_.toInt = r30_.toInt + 0) (h40_ : (j39_ : Int) = z35_.toInt) (hM38_ : M37_ = up Mz (50, 0, 0) j39_ v) : PN j39_ v ∧ (j39_ < 345 ∨ 493 < j39_) := by have r_v := rngI v; have r_z25_ := rngI z25_; have r_r30_ := rngI r30_; have r_z35_ := rngI z35_; subst e26_; unfold PN; omega
theorem lf_c_X12_walker_4 (z25_ : Int32) (r30_ : Int32) (z35_ : Int32) (j39_ : Nat) (h28_ : 0 ≤ z25_.toInt ∧ z25_.toInt ≤ 8) (h33_ : r30_.toInt = 180 + 9 * z25_.toInt) (h36_ : z35_.toInt = r30_.toInt + 0) (h40_ : (j39_ : Int) = z35_.toInt) : ¬ 2 = j39_ := by omega
theorem lf_c_X12_walker_5 (z25_ : Int32) (r30_ : Int32) (z35_ : Int32) (j39_ : Nat) (h28_ : 0 ≤ z25_.toInt ∧ z25_.toInt ≤ 8) (h33_ : r30_.toInt = 180 + 9 * z25_.toInt) (h36_ : z35_.toInt = r30_.toInt + 0) (h40_ : (j39_ : Int) = z35_.toInt) : -2147483648 ≤ r30_.toInt + 1 ∧ r30_.toInt + 1 < 2147483648 := by omega
theorem lf_c_X12_walker_6 (z25_ : Int32) (r30_ : Int32) (z44_ : Int32) (h28_ : 0 ≤ z25_.toInt ∧ z25_.toInt ≤ 8) (h33_ : r30_.toInt = 180 + 9 * z25_.toInt) (h45_ : z44_.toInt = r30_.toInt + 1) : 0 ≤ z44_.toInt ∧ z44_.toInt < ((3567 : Nat) : Int) := by omega
theorem lf_c_X12_walker_7 (M37_ : mM) (M46_ : mM) (Mz : mM) (v : Int32) (u : Int32) (z25_ : Int32) (r30_ : Int32) (z35_ : Int32) (j39_ : Nat) (z44_ : Int32) (j48_ : Nat) (h4_ : 0 ≤ v.toInt ∧ v.toInt ≤ 7) (h10_ : 0 ≤ u.toInt ∧ u.toInt ≤ 191) (e26_ : z25_ = Mz.1 (50, 0, 0) 2) (kf27_ : (Mz.1 (50, 0, 0) 2).toInt = z25_.toInt) (h28_ : 0 ≤ z25_.toInt ∧ z25_.toInt ≤ 8) (h29_ : ¬ z25_.toInt = 8) (h33_ : r30_.toInt = 180 + 9 * z25_.toInt) (h36_ : z35_.toInt = r30_.toInt + 0) (h40_ : (j39_ : Int) = z35_.toInt) (hM38_ : M37_ = up Mz (50, 0, 0) j39_ v) (kf43_ : (M37_.1 (50, 0, 0) 2).toInt = z25_.toInt) (h45_ : z44_.toInt = r30_.toInt + 1) (h49_ : (j48_ : Int) = z44_.toInt) (hM47_ : M46_ = up M37_ (50, 0, 0) j48_ u) : PN j48_ u ∧ (j48_ < 345 ∨ 493 < j48_) := by have r_v := rngI v; have r_u := rngI u; have r_z25_ := rngI z25_; have r_r30_ := rngI r30_; have r_z35_ := rngI z35_; have r_z44_ := rngI z44_; subst e26_; unfold PN; omega
theorem lf_c_X12_walker_8 (z25_ : Int32) (r30_ : Int32) (z44_ : Int32) (j48_ : Nat) (h28_ : 0 ≤ z25_.toInt ∧ z25_.toInt ≤ 8) (h33_ : r30_.toInt = 180 + 9 * z25_.toInt) (h45_ : z44_.toInt = r30_.toInt + 1) (h49_ : (j48_ : Int) = z44_.toInt) : ¬ 2 = j48_ := by omega
theorem lf_c_X12_walker_9 (z25_ : Int32) (r30_ : Int32) (z35_ : Int32) (j39_ : Nat) (h28_ : 0 ≤ z25_.toInt ∧ z25_.toInt ≤ 8) (h33_ : r30_.toInt = 180 + 9 * z25_.toInt) (h36_ : z35_.toInt = r30_.toInt + 0) (h40_ : (j39_ : Int) = z35_.toInt) : -2147483648 ≤ r30_.toInt + 2 ∧ r30_.toInt + 2 < 2147483648 := by omega
theorem lf_c_X12_walker_10 (z25_ : Int32) (r30_ : Int32) (z53_ : Int32) (h28_ : 0 ≤ z25_.toInt ∧ z25_.toInt ≤ 8) (h33_ : r30_.toInt = 180 + 9 * z25_.toInt) (h54_ : z53_.toInt = r30_.toInt + 2) : 0 ≤ z53_.toInt ∧ z53_.toInt < ((3567 : Nat) : Int) := by omega
theorem lf_c_X12_walker_11 (M37_ : mM) (M46_ : mM) (M55_ : mM) (Mz : mM) (v : Int32) (u : Int32) (t : Int32) (z25_ : Int32) (r30_ : Int32) (z35_ : Int32) (j39_ : Nat) (z44_ : Int32) (j48_ : Nat) (z53_ : Int32) (j57_ : Nat) (h4_ : 0 ≤ v.toInt ∧ v.toInt ≤ 7) (h10_ : 0 ≤ u.toInt ∧ u.toInt ≤ 191) (h16_ : 0 ≤ t.toInt ∧ t.toInt ≤ 7) (e26_ : z25_ = Mz.1 (50, 0, 0) 2) (kf27_ : (Mz.1 (50, 0, 0) 2).toInt = z25_.toInt) (h28_ : 0 ≤ z25_.toInt ∧ z25_.toInt ≤ 8) (h29_ : ¬ z25_.toInt = 8) (h33_ : r30_.toInt = 180 + 9 * z25_.toInt) (h36_ : z35_.toInt = r30_.toInt + 0) (h40_ : (j39_ : Int) = z35_.toInt) (hM38_ : M37_ = up Mz (50, 0, 0) j39_ v) (kf43_ : (M37_.1 (50, 0, 0) 2).toInt = z25_.toInt) (h45_ : z44_.toInt = r30_.toInt + 1) (h49_ : (j48_ : Int) = z44_.toInt) (hM47_ : M46_ = up M37_ (50, 0, 0) j48_ u) (kf52_ : (M46_.1 (50, 0, 0) 2).toInt = z25_.toInt) (h54_ : z53_.toInt = r30_.toInt + 2) (h58_ : (j57_ : Int) = z53_.toInt) (hM56_ : M55_ = up M46_ (50, 0, 0) j57_ t) : PN j57_ t ∧ (j57_ < 345 ∨ 493 < j57_) := by have r_v := rngI v; have r_u := rngI u; have r_t := rngI t; have r_z25_ := rngI z25_; have r_r30_ := rngI r30_; have r_z35_ := rngI z35_; have r_z44_ := rngI z44_; have r_z53_ := rngI z53_; subst e26_; unfold PN; omega
theorem lf_c_X12_walker_12 (z25_ : Int32) (r30_ : Int32) (z53_ : Int32) (j57_ : Nat) (h28_ : 0 ≤ z25_.toInt ∧ z25_.toInt ≤ 8) (h33_ : r30_.toInt = 180 + 9 * z25_.toInt) (h54_ : z53_.toInt = r30_.toInt + 2) (h58_ : (j57_ : Int) = z53_.toInt) : ¬ 2 = j57_ := by omega
theorem lf_c_X12_walker_13 (z25_ : Int32) (r30_ : Int32) (z35_ : Int32) (j39_ : Nat) (h28_ : 0 ≤ z25_.toInt ∧ z25_.toInt ≤ 8) (h33_ : r30_.toInt = 180 + 9 * z25_.toInt) (h36_ : z35_.toInt = r30_.toInt + 0) (h40_ : (j39_ : Int) = z35_.toInt) : -2147483648 ≤ r30_.toInt + 3 ∧ r30_.toInt + 3 < 2147483648 := by omega
theorem lf_c_X12_walker_14 (z25_ : Int32) (r30_ : Int32) (z62_ : Int32) (h28_ : 0 ≤ z25_.toInt ∧ z25_.toInt ≤ 8) (h33_ : r30_.toInt = 180 + 9 * z25_.toInt) (h63_ : z62_.toInt = r30_.toInt + 3) : 0 ≤ z62_.toInt ∧ z62_.toInt < ((3567 : Nat) : Int) := by omega
theorem lf_c_X12_walker_15 (M37_ : mM) (M46_ : mM) (M55_ : mM) (M64_ : mM) (Mz : mM) (v : Int32) (u : Int32) (t : Int32) (z25_ : Int32) (r30_ : Int32) (z35_ : Int32) (j39_ : Nat) (z44_ : Int32) (j48_ : Nat) (z53_ : Int32) (j57_ : Nat) (z62_ : Int32) (j66_ : Nat) (h4_ : 0 ≤ v.toInt ∧ v.toInt ≤ 7) (h10_ : 0 ≤ u.toInt ∧ u.toInt ≤ 191) (h16_ : 0 ≤ t.toInt ∧ t.toInt ≤ 7) (e26_ : z25_ = Mz.1 (50, 0, 0) 2) (kf27_ : (Mz.1 (50, 0, 0) 2).toInt = z25_.toInt) (h28_ : 0 ≤ z25_.toInt ∧ z25_.toInt ≤ 8) (h29_ : ¬ z25_.toInt = 8) (h33_ : r30_.toInt = 180 + 9 * z25_.toInt) (h36_ : z35_.toInt = r30_.toInt + 0) (h40_ : (j39_ : Int) = z35_.toInt) (hM38_ : M37_ = up Mz (50, 0, 0) j39_ v) (kf43_ : (M37_.1 (50, 0, 0) 2).toInt = z25_.toInt) (h45_ : z44_.toInt = r30_.toInt + 1) (h49_ : (j48_ : Int) = z44_.toInt) (hM47_ : M46_ = up M37_ (50, 0, 0) j48_ u) (kf52_ : (M46_.1 (50, 0, 0) 2).toInt = z25_.toInt) (h54_ : z53_.toInt = r30_.toInt + 2) (h58_ : (j57_ : Int) = z53_.toInt) (hM56_ : M55_ = up M46_ (50, 0, 0) j57_ t) (kf61_ : (M55_.1 (50, 0, 0) 2).toInt = z25_.toInt) (h63_ : z62_.toInt = r30_.toInt + 3) (h67_ : (j66_ : Int) = z62_.toInt) (hM65_ : M64_ = up M55_ (50, 0, 0) j66_ 5) : PN j66_ (5 : Int32) ∧ (j66_ < 345 ∨ 493 < j66_) := by have r_v := rngI v; have r_u := rngI u; have r_t := rngI t; have r_z25_ := rngI z25_; have r_r30_ := rngI r30_; have r_z35_ := rngI z35_; have r_z44_ := rngI z44_; have r_z53_ := rngI z53_; have r_z62_ := rngI z62_; have q9 := li_5; subst e26_; unfold PN; omega
theorem lf_c_X12_walker_16 (z25_ : Int32) (r30_ : Int32) (z62_ : Int32) (j66_ : Nat) (h28_ : 0 ≤ z25_.toInt ∧ z25_.toInt ≤ 8) (h33_ : r30_.toInt = 180 + 9 * z25_.toInt) (h63_ : z62_.toInt = r30_.toInt + 3) (h67_ : (j66_ : Int) = z62_.toInt) : ¬ 2 = j66_ := by omega
theorem lf_c_X12_walker_17 (z25_ : Int32) (r30_ : Int32) (z35_ : Int32) (j39_ : Nat) (h28_ : 0 ≤ z25_.toInt ∧ z25_.toInt ≤ 8) (h33_ : r30_.toInt = 180 + 9 * z25_.toInt) (h36_ : z35_.toInt = r30_.toInt + 0) (h40_ : (j39_ : Int) = z35_.toInt) : -2147483648 ≤ r30_.toInt + 4 ∧ r30_.toInt + 4 < 2147483648 := by omega
theorem lf_c_X12_walker_18 (z25_ : Int32) (r30_ : Int32) (z71_ : Int32) (h28_ : 0 ≤ z25_.toInt ∧ z25_.toInt ≤ 8) (h33_ : r30_.toInt = 180 + 9 * z25_.toInt) (h72_ : z71_.toInt = r30_.toInt + 4) : 0 ≤ z71_.toInt ∧ z71_.toInt < ((3567 : Nat) : Int) := by omega
theorem lf_c_X12_walker_19 (M37_ : mM) (M46_ : mM) (M55_ : mM) (M64_ : mM) (M73_ : mM) (Mz : mM) (v : Int32) (u : Int32) (t : Int32) (z25_ : Int32) (r30_ : Int32) (z35_ : Int32) (j39_ : Nat) (z44_ : Int32) (j48_ : Nat) (z53_ : Int32) (j57_ : Nat) (z62_ : Int32) (j66_ : Nat) (z71_ : Int32) (j75_ : Nat) (h4_ : 0 ≤ v.toInt ∧ v.toInt ≤ 7) (h10_ : 0 ≤ u.toInt ∧ u.toInt ≤ 191) (h16_ : 0 ≤ t.toInt ∧ t.toInt ≤ 7) (e26_ : z25_ = Mz.1 (50, 0, 0) 2) (kf27_ : (Mz.1 (50, 0, 0) 2).toInt = z25_.toInt) (h28_ : 0 ≤ z25_.toInt ∧ z25_.toInt ≤ 8) (h29_ : ¬ z25_.toInt = 8) (h33_ : r30_.toInt = 180 + 9 * z25_.toInt) (h36_ : z35_.toInt = r30_.toInt + 0) (h40_ : (j39_ : Int) = z35_.toInt) (hM38_ : M37_ = up Mz (50, 0, 0) j39_ v) (kf43_ : (M37_.1 (50, 0, 0) 2).toInt = z25_.toInt) (h45_ : z44_.toInt = r30_.toInt + 1) (h49_ : (j48_ : Int) = z44_.toInt) (hM47_ : M46_ = up M37_ (50, 0, 0) j48_ u) (kf52_ : (M46_.1 (50, 0, 0) 2).toInt = z25_.toInt) (h54_ : z53_.toInt = r30_.toInt + 2) (h58_ : (j57_ : Int) = z53_.toInt) (hM56_ : M55_ = up M46_ (50, 0, 0) j57_ t) (kf61_ : (M55_.1 (50, 0, 0) 2).toInt = z25_.toInt) (h63_ : z62_.toInt = r30_.toInt + 3) (h67_ : (j66_ : Int) = z62_.toInt) (hM65_ : M64_ = up M55_ (50, 0, 0) j66_ 5) (kf70_ : (M64_.1 (50, 0, 0) 2).toInt = z25_.toInt) (h72_ : z71_.toInt = r30_.toInt + 4) (h76_ : (j75_ : Int) = z71_.toInt) (hM74_ : M73_ = up M64_ (50, 0, 0) j75_ 60) : PN j75_ (60 : Int32) ∧ (j75_ < 345 ∨ 493 < j75_) := by have r_v := rngI v; have r_u := rngI u; have r_t := rngI t; have r_z25_ := rngI z25_; have r_r30_ := rngI r30_; have r_z35_ := rngI z35_; have r_z44_ := rngI z44_; have r_z53_ := rngI z53_; have r_z62_ := rngI z62_; have r_z71_ := rngI z71_; have q9 := li_60; subst e26_; unfold PN; omega
theorem lf_c_X12_walker_20 (z25_ : Int32) (r30_ : Int32) (z71_ : Int32) (j75_ : Nat) (h28_ : 0 ≤ z25_.toInt ∧ z25_.toInt ≤ 8) (h33_ : r30_.toInt = 180 + 9 * z25_.toInt) (h72_ : z71_.toInt = r30_.toInt + 4) (h76_ : (j75_ : Int) = z71_.toInt) : ¬ 2 = j75_ := by omega
theorem lf_c_X12_walker_21 (z80_ : Int32) (h83_ : 0 ≤ z80_.toInt ∧ z80_.toInt ≤ 8) : -2147483648 ≤ z80_.toInt + 1 ∧ z80_.toInt + 1 < 2147483648 := by omega
theorem lf_c_X12_walker_22 (M37_ : mM) (M46_ : mM) (M55_ : mM) (M64_ : mM) (M73_ : mM) (M86_ : mM) (Mz : mM) (v : Int32) (u : Int32) (t : Int32) (z25_ : Int32) (r30_ : Int32) (z35_ : Int32) (j39_ : Nat) (z44_ : Int32) (j48_ : Nat) (z53_ : Int32) (j57_ : Nat) (z62_ : Int32) (j66_ : Nat) (z71_ : Int32) (j75_ : Nat) (z80_ : Int32) (z84_ : Int32) (h4_ : 0 ≤ v.toInt ∧ v.toInt ≤ 7) (h10_ : 0 ≤ u.toInt ∧ u.toInt ≤ 191) (h16_ : 0 ≤ t.toInt ∧ t.toInt ≤ 7) (e26_ : z25_ = Mz.1 (50, 0, 0) 2) (kf27_ : (Mz.1 (50, 0, 0) 2).toInt = z25_.toInt) (h28_ : 0 ≤ z25_.toInt ∧ z25_.toInt ≤ 8) (h29_ : ¬ z25_.toInt = 8) (h33_ : r30_.toInt = 180 + 9 * z25_.toInt) (h36_ : z35_.toInt = r30_.toInt + 0) (h40_ : (j39_ : Int) = z35_.toInt) (hM38_ : M37_ = up Mz (50, 0, 0) j39_ v) (kf43_ : (M37_.1 (50, 0, 0) 2).toInt = z25_.toInt) (h45_ : z44_.toInt = r30_.toInt + 1) (h49_ : (j48_ : Int) = z44_.toInt) (hM47_ : M46_ = up M37_ (50, 0, 0) j48_ u) (kf52_ : (M46_.1 (50, 0, 0) 2).toInt = z25_.toInt) (h54_ : z53_.toInt = r30_.toInt + 2) (h58_ : (j57_ : Int) = z53_.toInt) (hM56_ : M55_ = up M46_ (50, 0, 0) j57_ t) (kf61_ : (M55_.1 (50, 0, 0) 2).toInt = z25_.toInt) (h63_ : z62_.toInt = r30_.toInt + 3) (h67_ : (j66_ : Int) = z62_.toInt) (hM65_ : M64_ = up M55_ (50, 0, 0) j66_ 5) (kf70_ : (M64_.1 (50, 0, 0) 2).toInt = z25_.toInt) (h72_ : z71_.toInt = r30_.toInt + 4) (h76_ : (j75_ : Int) = z71_.toInt) (hM74_ : M73_ = up M64_ (50, 0, 0) j75_ 60) (kf79_ : (M73_.1 (50, 0, 0) 2).toInt = z25_.toInt) (e81_ : z80_ = M73_.1 (50, 0, 0) 2) (h82_ : z80_.toInt = z25_.toInt) (h83_ : 0 ≤ z80_.toInt ∧ z80_.toInt ≤ 8) (h85_ : z84_.toInt = z80_.toInt + 1) (hM87_ : M86_ = up M73_ (50, 0, 0) 2 z84_) : PN 2 z84_ ∧ (2 < 345 ∨ 493 < 2) := by have r_v := rngI v; have r_u := rngI u; have r_t := rngI t; have r_z25_ := rngI z25_; have r_r30_ := rngI r30_; have r_z35_ := rngI z35_; have r_z44_ := rngI z44_; have r_z53_ := rngI z53_; have r_z62_ := rngI z62_; have r_z71_ := rngI z71_; have r_z80_ := rngI z80_; have r_z84_ := rngI z84_; subst e26_; subst e81_; unfold PN; omega
set_option maxHeartbeats 4000000 in
set_option maxRecDepth 100000 in
theorem c_X12_walker (l : Launch) (G : va_G) (cy : Nat → ClassId) (ad : rf → Nat) (d : Nat) (v : Int32) (u : Int32) (t : Int32) (Mz : mM) (hIz : InvD Mz) : WP DD l G cy ad yX12_walker cX12_walker 6 (some .int) (d + 3) 0 [(0, vR (12, 0, 0)), (1, vI v), (2, vI u), (3, vI t)] [] Mz (fun r M' => InvD M' ∧ FR (S_c_X12_walker) Mz M' ∧ (True) ∧ SP_X12_walker v u t Mz r M') := by
  have hFz : FR (S_c_X12_walker) Mz Mz := FR.self
  refine w_iload_n dX12_walker_0 rfl 1 rfl ?_
  refine w_iconst (v := 0) dX12_walker_1 (by decide) ?_
  refine w_bipush (v := 7) dX12_walker_2 (by decide) ?_
  refine w_callS (as := [vI v, vI 0, vI 7]) (rest := []) (c_X12_within l G cy ad (d + 2) v 0 7 Mz hIz) kS_X12_within pnn_17 (Nat.le_of_ble_eq_true rfl) m_1427 rfl rfl (by decide) (Nat.le_of_ble_eq_true rfl) dX12_walker_4 (fun r1_ M2_ q3_ => ?_)
  obtain ⟨rfl, h4_, hs5_⟩ := q3_
  rcases h4_ with ⟨rfl, h4_⟩ | ⟨rfl, h4_⟩
  · simp only [li_0, li_7] at h4_
    refine w_if_eq (tgt := 24) dX12_walker_7 (by decide) li_1 (fun h9 => (absurd h9 (by decide))) (fun h6_ => ?_)
    refine w_iload_n dX12_walker_10 rfl 2 rfl ?_
    refine w_callS (as := [vI u]) (rest := []) (c_X12_isCell l G cy ad (d + 1) u Mz hIz) kS_X12_isCell pnn_17 (Nat.le_of_ble_eq_true rfl) m_1430 rfl rfl (by decide) (Nat.le_of_ble_eq_true rfl) dX12_walker_11 (fun r7_ M8_ q9_ => ?_)
    obtain ⟨rfl, h10_, hs11_⟩ := q9_
    rcases h10_ with ⟨rfl, h10_⟩ | ⟨rfl, h10_⟩
    · refine w_if_eq (tgt := 24) dX12_walker_14 (by decide) li_1 (fun h9 => (absurd h9 (by decide))) (fun h12_ => ?_)
      refine w_iload_n dX12_walker_17 rfl 3 rfl ?_
      refine w_callS (as := [vI t]) (rest := []) (c_X12_isSide l G cy ad (d + 1) t Mz hIz) kS_X12_isSide pnn_17 (Nat.le_of_ble_eq_true rfl) m_1473 rfl rfl (by decide) (Nat.le_of_ble_eq_true rfl) dX12_walker_18 (fun r13_ M14_ q15_ => ?_)
      obtain ⟨rfl, h16_, hs17_⟩ := q15_
      rcases h16_ with ⟨rfl, h16_⟩ | ⟨rfl, h16_⟩
      · refine w_if_ne (tgt := 31) dX12_walker_21 (by decide) li_1 (fun h18_ => ?_) (fun h9 => (absurd h9 (by decide)))
        refine w_aload_n dX12_walker_31 rfl 0 rfl ?_
        refine w_iload_n dX12_walker_32 rfl 2 rfl ?_
        refine w_callV (as := [vI u]) (rest := []) (c_X12_isFree l G cy ad d u Mz hIz) kV_X12_isFree pnn_17 (Nat.le_of_ble_eq_true rfl) m_1439 rfl rfl rfl ic_12 rfl rfl (by decide) (Nat.le_of_ble_eq_true rfl) dX12_walker_33 (fun r19_ M20_ q21_ => ?_)
        obtain ⟨rfl, h22_, hs23_⟩ := q21_
        refine w_if_ne (tgt := 46) dX12_walker_36 (by decide) (rfl : r19_.toInt = r19_.toInt) (fun h24_ => ?_) (fun h24_ => ?_)
        · refine w_aload_n dX12_walker_46 rfl 0 rfl ?_
          refine w_getR (c' := (50, 0, 0)) fl_RX12_9 rfl rfl ic_12 dX12_walker_47 rfl ?_
          refine w_iconst (v := 2) dX12_walker_50 (by decide) ?_
          refine w_ialdL 2 rfl rfl ic_50 li_2 (by decide) dX12_walker_51 (fun z25_ e26_ => ?_)
          have kf27_ : (Mz.1 (50, 0, 0) 2).toInt = z25_.toInt := by rw [e26_]
          have h28_ : 0 ≤ z25_.toInt ∧ z25_.toInt ≤ 8 := pn_2 hIz e26_
          refine w_istore (ls' := [(4, vI z25_), (0, vR (12, 0, 0)), (1, vI v), (2, vI u), (3, vI t)]) dX12_walker_52 (by decide) rfl ?_
          refine w_iload dX12_walker_54 0 rfl ?_
          refine w_bipush (v := 8) dX12_walker_56 (by decide) ?_
          refine w_icmp_ne (tgt := 68) dX12_walker_58 (by decide) (rfl : z25_.toInt = z25_.toInt) li_8 (fun h29_ => ?_) (fun h29_ => ?_)
          · refine w_aload_n dX12_walker_68 rfl 1 rfl ?_
            refine w_iload dX12_walker_69 0 rfl ?_
            refine w_callV (as := [vI z25_]) (rest := []) (c_X12_goer l G cy ad (d + 2) z25_ Mz hIz (lf_c_X12_walker_0 z25_ h28_ h29_ )) kV_X12_goer pnn_17 (Nat.le_of_ble_eq_true rfl) m_1451 rfl rfl rfl ic_12 rfl rfl (by decide) (Nat.le_of_ble_eq_true rfl) dX12_walker_71 (fun r30_ M31_ q32_ => ?_)
            obtain ⟨rfl, h33_, hs34_⟩ := q32_
            refine w_istore (ls' := [(5, vI r30_), (4, vI z25_), (0, vR (12, 0, 0)), (1, vI v), (2, vI u), (3, vI t)]) dX12_walker_74 (by decide) rfl ?_
            refine w_aload_n dX12_walker_76 rfl 2 rfl ?_
            refine w_getR (c' := (50, 0, 0)) fl_RX12_9 rfl rfl ic_12 dX12_walker_77 rfl ?_
            refine w_iload dX12_walker_80 0 rfl ?_
            refine w_iconst (v := 0) dX12_walker_82 (by decide) ?_
            refine w_iaddB dX12_walker_83 (rfl : r30_.toInt = r30_.toInt) li_0 (lf_c_X12_walker_1 z25_ r30_ h28_ h33_ ) (fun z35_ h36_ => ?_)
            refine w_iload_n dX12_walker_84 rfl 3 rfl ?_
            refine w_iast DD_nd rfl rfl ic_50 (rfl : z35_.toInt = z35_.toInt) (lf_c_X12_walker_2 z25_ r30_ z35_ h28_ h33_ h36_ ) dX12_walker_85 (fun j39_ h40_ M37_ hM38_ => ?_)
            have hI41_ := hIz.put50 hM38_ (lf_c_X12_walker_3 M37_ Mz v z25_ r30_ z35_ j39_ h4_ e26_ kf27_ h28_ h29_ h33_ h36_ h40_ hM38_ )
            have hF42_ := hFz.put hM38_ (Or.inl ⟨rfl, rfl⟩)
            have kf43_ : (M37_.1 (50, 0, 0) 2).toInt = z25_.toInt := by rw [(show M37_.1 (50, 0, 0) 2 = Mz.1 (50, 0, 0) 2 by rw [hM38_]; exact up_ne (fun q => absurd q.2 (lf_c_X12_walker_4 z25_ r30_ z35_ j39_ h28_ h33_ h36_ h40_ )))]; exact kf27_
            refine w_aload_n dX12_walker_86 rfl 2 rfl ?_
            refine w_getR (c' := (50, 0, 0)) fl_RX12_9 rfl rfl ic_12 dX12_walker_87 rfl ?_
            refine w_iload dX12_walker_90 0 rfl ?_
            refine w_iconst (v := 1) dX12_walker_92 (by decide) ?_
            refine w_iaddB dX12_walker_93 (rfl : r30_.toInt = r30_.toInt) li_1 (lf_c_X12_walker_5 z25_ r30_ z35_ j39_ h28_ h33_ h36_ h40_ ) (fun z44_ h45_ => ?_)
            refine w_iload_n dX12_walker_94 rfl 4 rfl ?_
            refine w_iast DD_nd rfl rfl ic_50 (rfl : z44_.toInt = z44_.toInt) (lf_c_X12_walker_6 z25_ r30_ z44_ h28_ h33_ h45_ ) dX12_walker_95 (fun j48_ h49_ M46_ hM47_ => ?_)
            have hI50_ := hI41_.put50 hM47_ (lf_c_X12_walker_7 M37_ M46_ Mz v u z25_ r30_ z35_ j39_ z44_ j48_ h4_ h10_ e26_ kf27_ h28_ h29_ h33_ h36_ h40_ hM38_ kf43_ h45_ h49_ hM47_ )
            have hF51_ := hF42_.put hM47_ (Or.inl ⟨rfl, rfl⟩)
            have kf52_ : (M46_.1 (50, 0, 0) 2).toInt = z25_.toInt := by rw [(show M46_.1 (50, 0, 0) 2 = M37_.1 (50, 0, 0) 2 by rw [hM47_]; exact up_ne (fun q => absurd q.2 (lf_c_X12_walker_8 z25_ r30_ z44_ j48_ h28_ h33_ h45_ h49_ )))]; exact kf43_
            refine w_aload_n dX12_walker_96 rfl 2 rfl ?_
            refine w_getR (c' := (50, 0, 0)) fl_RX12_9 rfl rfl ic_12 dX12_walker_97 rfl ?_
            refine w_iload dX12_walker_100 0 rfl ?_
            refine w_iconst (v := 2) dX12_walker_102 (by decide) ?_
            refine w_iaddB dX12_walker_103 (rfl : r30_.toInt = r30_.toInt) li_2 (lf_c_X12_walker_9 z25_ r30_ z35_ j39_ h28_ h33_ h36_ h40_ ) (fun z53_ h54_ => ?_)
            refine w_iload_n dX12_walker_104 rfl 5 rfl ?_
            refine w_iast DD_nd rfl rfl ic_50 (rfl : z53_.toInt = z53_.toInt) (lf_c_X12_walker_10 z25_ r30_ z53_ h28_ h33_ h54_ ) dX12_walker_105 (fun j57_ h58_ M55_ hM56_ => ?_)
            have hI59_ := hI50_.put50 hM56_ (lf_c_X12_walker_11 M37_ M46_ M55_ Mz v u t z25_ r30_ z35_ j39_ z44_ j48_ z53_ j57_ h4_ h10_ h16_ e26_ kf27_ h28_ h29_ h33_ h36_ h40_ hM38_ kf43_ h45_ h49_ hM47_ kf52_ h54_ h58_ hM56_ )
            have hF60_ := hF51_.put hM56_ (Or.inl ⟨rfl, rfl⟩)
            have kf61_ : (M55_.1 (50, 0, 0) 2).toInt = z25_.toInt := by rw [(show M55_.1 (50, 0, 0) 2 = M46_.1 (50, 0, 0) 2 by rw [hM56_]; exact up_ne (fun q => absurd q.2 (lf_c_X12_walker_12 z25_ r30_ z53_ j57_ h28_ h33_ h54_ h58_ )))]; exact kf52_
            refine w_aload_n dX12_walker_106 rfl 2 rfl ?_
            refine w_getR (c' := (50, 0, 0)) fl_RX12_9 rfl rfl ic_12 dX12_walker_107 rfl ?_
            refine w_iload dX12_walker_110 0 rfl ?_
            refine w_iconst (v := 3) dX12_walker_112 (by decide) ?_
            refine w_iaddB dX12_walker_113 (rfl : r30_.toInt = r30_.toInt) li_3 (lf_c_X12_walker_13 z25_ r30_ z35_ j39_ h28_ h33_ h36_ h40_ ) (fun z62_ h63_ => ?_)
            refine w_iconst (v := 5) dX12_walker_114 (by decide) ?_
            refine w_iast DD_nd rfl rfl ic_50 (rfl : z62_.toInt = z62_.toInt) (lf_c_X12_walker_14 z25_ r30_ z62_ h28_ h33_ h63_ ) dX12_walker_115 (fun j66_ h67_ M64_ hM65_ => ?_)
            have hI68_ := hI59_.put50 hM65_ (lf_c_X12_walker_15 M37_ M46_ M55_ M64_ Mz v u t z25_ r30_ z35_ j39_ z44_ j48_ z53_ j57_ z62_ j66_ h4_ h10_ h16_ e26_ kf27_ h28_ h29_ h33_ h36_ h40_ hM38_ kf43_ h45_ h49_ hM47_ kf52_ h54_ h58_ hM56_ kf61_ h63_ h67_ hM65_ )
            have hF69_ := hF60_.put hM65_ (Or.inl ⟨rfl, rfl⟩)
            have kf70_ : (M64_.1 (50, 0, 0) 2).toInt = z25_.toInt := by rw [(show M64_.1 (50, 0, 0) 2 = M55_.1 (50, 0, 0) 2 by rw [hM65_]; exact up_ne (fun q => absurd q.2 (lf_c_X12_walker_16 z25_ r30_ z62_ j66_ h28_ h33_ h63_ h67_ )))]; exact kf61_
            refine w_aload_n dX12_walker_116 rfl 2 rfl ?_
            refine w_getR (c' := (50, 0, 0)) fl_RX12_9 rfl rfl ic_12 dX12_walker_117 rfl ?_
            refine w_iload dX12_walker_120 0 rfl ?_
            refine w_iconst (v := 4) dX12_walker_122 (by decide) ?_
            refine w_iaddB dX12_walker_123 (rfl : r30_.toInt = r30_.toInt) li_4 (lf_c_X12_walker_17 z25_ r30_ z35_ j39_ h28_ h33_ h36_ h40_ ) (fun z71_ h72_ => ?_)
            refine w_bipush (v := 60) dX12_walker_124 (by decide) ?_
            refine w_iast DD_nd rfl rfl ic_50 (rfl : z71_.toInt = z71_.toInt) (lf_c_X12_walker_18 z25_ r30_ z71_ h28_ h33_ h72_ ) dX12_walker_126 (fun j75_ h76_ M73_ hM74_ => ?_)
            have hI77_ := hI68_.put50 hM74_ (lf_c_X12_walker_19 M37_ M46_ M55_ M64_ M73_ Mz v u t z25_ r30_ z35_ j39_ z44_ j48_ z53_ j57_ z62_ j66_ z71_ j75_ h4_ h10_ h16_ e26_ kf27_ h28_ h29_ h33_ h36_ h40_ hM38_ kf43_ h45_ h49_ hM47_ kf52_ h54_ h58_ hM56_ kf61_ h63_ h67_ hM65_ kf70_ h72_ h76_ hM74_ )
            have hF78_ := hF69_.put hM74_ (Or.inl ⟨rfl, rfl⟩)
            have kf79_ : (M73_.1 (50, 0, 0) 2).toInt = z25_.toInt := by rw [(show M73_.1 (50, 0, 0) 2 = M64_.1 (50, 0, 0) 2 by rw [hM74_]; exact up_ne (fun q => absurd q.2 (lf_c_X12_walker_20 z25_ r30_ z71_ j75_ h28_ h33_ h72_ h76_ )))]; exact kf70_
            refine w_aload_n dX12_walker_127 rfl 2 rfl ?_
            refine w_getR (c' := (50, 0, 0)) fl_RX12_9 rfl rfl ic_12 dX12_walker_128 rfl ?_
            refine w_iconst (v := 2) dX12_walker_131 (by decide) ?_
            refine w_dup2 dX12_walker_132 rfl rfl ?_
            refine w_ialdL 2 rfl rfl ic_50 li_2 (by decide) dX12_walker_133 (fun z80_ e81_ => ?_)
            have h82_ : z80_.toInt = z25_.toInt := by rw [e81_]; exact kf79_
            have h83_ : 0 ≤ z80_.toInt ∧ z80_.toInt ≤ 8 := pn_2 hI77_ e81_
            refine w_iconst (v := 1) dX12_walker_134 (by decide) ?_
            refine w_iaddB dX12_walker_135 (rfl : z80_.toInt = z80_.toInt) li_1 (lf_c_X12_walker_21 z80_ h83_ ) (fun z84_ h85_ => ?_)
            refine w_iastL 2 DD_nd rfl rfl ic_50 li_2 (by decide) dX12_walker_136 (fun M86_ hM87_ => ?_)
            have hI88_ := hI77_.put50 hM87_ (lf_c_X12_walker_22 M37_ M46_ M55_ M64_ M73_ M86_ Mz v u t z25_ r30_ z35_ j39_ z44_ j48_ z53_ j57_ z62_ j66_ z71_ j75_ z80_ z84_ h4_ h10_ h16_ e26_ kf27_ h28_ h29_ h33_ h36_ h40_ hM38_ kf43_ h45_ h49_ hM47_ kf52_ h54_ h58_ hM56_ kf61_ h63_ h67_ hM65_ kf70_ h72_ h76_ hM74_ kf79_ e81_ h82_ h83_ h85_ hM87_ )
            have hF89_ := hF78_.put hM87_ (Or.inl ⟨rfl, rfl⟩)
            refine w_iload dX12_walker_137 1 rfl ?_
            exact w_iret rfl dX12_walker_139 ⟨hI88_, hF89_, trivial, (Or.inl ⟨hs5_, h4_, (Or.inl ⟨hs11_, h10_, (Or.inl ⟨hs17_, h16_, r19_, hs23_, h22_, (Or.inl ⟨h24_, z25_, e26_, h28_, (Or.inl ⟨h29_, r30_, hs34_, h33_, z35_, h36_, j39_, h40_, M37_, hM38_, z44_, h45_, j48_, h49_, M46_, hM47_, z53_, h54_, j57_, h58_, M55_, hM56_, z62_, h63_, j66_, h67_, M64_, hM65_, z71_, h72_, j75_, h76_, M73_, hM74_, z80_, e81_, h82_, h83_, z84_, h85_, M86_, hM87_, rfl, rfl⟩)⟩)⟩)⟩)⟩)⟩
          · refine w_aload_n dX12_walker_61 rfl 1 rfl ?_
            refine w_ldc (v := (-1000004)) m_1456 dX12_walker_62 ?_
            refine w_callV (as := [vI (-1000004)]) (rest := []) (c_X12_finding l G cy ad (d + 2) (-1000004) Mz hIz (by first | decide | (unfold vF; omega) | (unfold vRw; omega))) kV_X12_finding pnn_17 (Nat.le_of_ble_eq_true rfl) m_1434 rfl rfl rfl ic_12 rfl rfl (by decide) (Nat.le_of_ble_eq_true rfl) dX12_walker_64 (fun r90_ M91_ q92_ => ?_)
            obtain ⟨hI94_, hF95_, h93_, hs97_⟩ := q92_
            have hF96_ := hFz.tr hF95_ (fun c k => (fun h => h.elim (fun h => (Or.inr (Or.inl ⟨h.1, h.2⟩))) (fun h => h.elim)))
            have kf98_ : (M91_.1 (50, 0, 0) 2).toInt = z25_.toInt := by rw [(hF95_ (50, 0, 0) 2 (by simp [S_c_X12_finding]))]; exact kf27_
            simp only [li_m1000004] at h93_
            exact w_iret rfl dX12_walker_67 ⟨hI94_, hF96_, trivial, (Or.inl ⟨hs5_, h4_, (Or.inl ⟨hs11_, h10_, (Or.inl ⟨hs17_, h16_, r19_, hs23_, h22_, (Or.inl ⟨h24_, z25_, e26_, h28_, (Or.inr ⟨h29_, M91_, hI94_, hF95_, r90_, hs97_, h93_, rfl, rfl⟩)⟩)⟩)⟩)⟩)⟩
        · refine w_aload_n dX12_walker_39 rfl 0 rfl ?_
          refine w_ldc (v := (-1000003)) m_1455 dX12_walker_40 ?_
          refine w_callV (as := [vI (-1000003)]) (rest := []) (c_X12_finding l G cy ad (d + 2) (-1000003) Mz hIz (by first | decide | (unfold vF; omega) | (unfold vRw; omega))) kV_X12_finding pnn_17 (Nat.le_of_ble_eq_true rfl) m_1434 rfl rfl rfl ic_12 rfl rfl (by decide) (Nat.le_of_ble_eq_true rfl) dX12_walker_42 (fun r99_ M100_ q101_ => ?_)
          obtain ⟨hI103_, hF104_, h102_, hs106_⟩ := q101_
          have hF105_ := hFz.tr hF104_ (fun c k => (fun h => h.elim (fun h => (Or.inr (Or.inl ⟨h.1, h.2⟩))) (fun h => h.elim)))
          simp only [li_m1000003] at h102_
          exact w_iret rfl dX12_walker_45 ⟨hI103_, hF105_, trivial, (Or.inl ⟨hs5_, h4_, (Or.inl ⟨hs11_, h10_, (Or.inl ⟨hs17_, h16_, r19_, hs23_, h22_, (Or.inr ⟨h24_, M100_, hI103_, hF104_, r99_, hs106_, h102_, rfl, rfl⟩)⟩)⟩)⟩)⟩
      · refine w_if_ne (tgt := 31) dX12_walker_21 (by decide) li_0 (fun h9 => (absurd h9 (by decide))) (fun h107_ => ?_)
        refine w_aload_n dX12_walker_24 rfl 0 rfl ?_
        refine w_ldc (v := (-1000001)) m_1433 dX12_walker_25 ?_
        refine w_callV (as := [vI (-1000001)]) (rest := []) (c_X12_finding l G cy ad (d + 2) (-1000001) Mz hIz (by first | decide | (unfold vF; omega) | (unfold vRw; omega))) kV_X12_finding pnn_17 (Nat.le_of_ble_eq_true rfl) m_1434 rfl rfl rfl ic_12 rfl rfl (by decide) (Nat.le_of_ble_eq_true rfl) dX12_walker_27 (fun r108_ M109_ q110_ => ?_)
        obtain ⟨hI112_, hF113_, h111_, hs115_⟩ := q110_
        have hF114_ := hFz.tr hF113_ (fun c k => (fun h => h.elim (fun h => (Or.inr (Or.inl ⟨h.1, h.2⟩))) (fun h => h.elim)))
        simp only [li_m1000001] at h111_
        exact w_iret rfl dX12_walker_30 ⟨hI112_, hF114_, trivial, (Or.inl ⟨hs5_, h4_, (Or.inl ⟨hs11_, h10_, (Or.inr ⟨hs17_, h16_, M109_, hI112_, hF113_, r108_, hs115_, h111_, rfl, rfl⟩)⟩)⟩)⟩
    · refine w_if_eq (tgt := 24) dX12_walker_14 (by decide) li_0 (fun h116_ => ?_) (fun h9 => (absurd h9 (by decide)))
      refine w_aload_n dX12_walker_24 rfl 0 rfl ?_
      refine w_ldc (v := (-1000001)) m_1433 dX12_walker_25 ?_
      refine w_callV (as := [vI (-1000001)]) (rest := []) (c_X12_finding l G cy ad (d + 2) (-1000001) Mz hIz (by first | decide | (unfold vF; omega) | (unfold vRw; omega))) kV_X12_finding pnn_17 (Nat.le_of_ble_eq_true rfl) m_1434 rfl rfl rfl ic_12 rfl rfl (by decide) (Nat.le_of_ble_eq_true rfl) dX12_walker_27 (fun r117_ M118_ q119_ => ?_)
      obtain ⟨hI121_, hF122_, h120_, hs124_⟩ := q119_
      have hF123_ := hFz.tr hF122_ (fun c k => (fun h => h.elim (fun h => (Or.inr (Or.inl ⟨h.1, h.2⟩))) (fun h => h.elim)))
      simp only [li_m1000001] at h120_
      exact w_iret rfl dX12_walker_30 ⟨hI121_, hF123_, trivial, (Or.inl ⟨hs5_, h4_, (Or.inr ⟨hs11_, h10_, M118_, hI121_, hF122_, r117_, hs124_, h120_, rfl, rfl⟩)⟩)⟩
  · simp only [li_0, li_7] at h4_
    refine w_if_eq (tgt := 24) dX12_walker_7 (by decide) li_0 (fun h125_ => ?_) (fun h9 => (absurd h9 (by decide)))
    refine w_aload_n dX12_walker_24 rfl 0 rfl ?_
    refine w_ldc (v := (-1000001)) m_1433 dX12_walker_25 ?_
    refine w_callV (as := [vI (-1000001)]) (rest := []) (c_X12_finding l G cy ad (d + 2) (-1000001) Mz hIz (by first | decide | (unfold vF; omega) | (unfold vRw; omega))) kV_X12_finding pnn_17 (Nat.le_of_ble_eq_true rfl) m_1434 rfl rfl rfl ic_12 rfl rfl (by decide) (Nat.le_of_ble_eq_true rfl) dX12_walker_27 (fun r126_ M127_ q128_ => ?_)
    obtain ⟨hI130_, hF131_, h129_, hs133_⟩ := q128_
    have hF132_ := hFz.tr hF131_ (fun c k => (fun h => h.elim (fun h => (Or.inr (Or.inl ⟨h.1, h.2⟩))) (fun h => h.elim)))
    simp only [li_m1000001] at h129_
    exact w_iret rfl dX12_walker_30 ⟨hI130_, hF132_, trivial, (Or.inr ⟨hs5_, h4_, M127_, hI130_, hF131_, r126_, hs133_, h129_, rfl, rfl⟩)⟩
def SP_reach0 (Mz : mM) (r_ : Int32) : Prop := r_ = 3
theorem lf_c_reach0_0 : (3 : Int32).toInt = 3 := by have r9 := li_3; omega
set_option maxHeartbeats 4000000 in
set_option maxRecDepth 100000 in
theorem c_reach0 (l : Launch) (G : va_G) (cy : Nat → ClassId) (ad : rf → Nat) (d : Nat) (Mz : mM) (hIz : InvD Mz) : WP DD l G cy ad yX12_reachOf cX12_reachOf 1 (some .int) d 0 [(0, vI 0)] [] Mz (fun r M' => Mz = M' ∧ (r.toInt = 3) ∧ SP_reach0 Mz r) := by
  refine w_iload_n dX12_reachOf_0 rfl 0 rfl ?_
  refine w_tsIn (tgt := 44) (off := 43) dX12_reachOf_1 li_0 (by decide) (by decide) rfl (by decide) ?_
  refine w_iconst (v := 3) dX12_reachOf_44 (by decide) ?_
  exact w_iret rfl dX12_reachOf_45 ⟨rfl, (lf_c_reach0_0 ), rfl⟩
def SP_reach1 (Mz : mM) (r_ : Int32) : Prop := ∃ r1_ : Int32, (SP_reach0 Mz r1_) ∧ (r1_.toInt = 3) ∧ ∃ z6_ : Int32, (z6_.toInt = 4 * r1_.toInt) ∧ r_ = z6_
theorem lf_c_reach1_0 (r1_ : Int32) (h4_ : r1_.toInt = 3) : -2147483648 ≤ 4 * r1_.toInt ∧ 4 * r1_.toInt < 2147483648 := by omega
theorem lf_c_reach1_1 (r1_ : Int32) (z6_ : Int32) (h4_ : r1_.toInt = 3) (h7_ : z6_.toInt = 4 * r1_.toInt) : z6_.toInt = 12 := by omega
set_option maxHeartbeats 4000000 in
set_option maxRecDepth 100000 in
theorem c_reach1 (l : Launch) (G : va_G) (cy : Nat → ClassId) (ad : rf → Nat) (d : Nat) (Mz : mM) (hIz : InvD Mz) : WP DD l G cy ad yX12_reachOf cX12_reachOf 1 (some .int) (d + 1) 0 [(0, vI 1)] [] Mz (fun r M' => Mz = M' ∧ (r.toInt = 12) ∧ SP_reach1 Mz r) := by
  refine w_iload_n dX12_reachOf_0 rfl 0 rfl ?_
  refine w_tsIn (tgt := 46) (off := 45) dX12_reachOf_1 li_1 (by decide) (by decide) rfl (by decide) ?_
  refine w_iconst (v := 4) dX12_reachOf_46 (by decide) ?_
  refine w_iconst (v := 0) dX12_reachOf_47 (by decide) ?_
  refine w_callS (as := [vI 0]) (rest := [vI 4]) (c_reach0 l G cy ad d Mz hIz) kS_X12_reachOf pnn_17 (Nat.le_of_ble_eq_true rfl) m_1521 rfl rfl (by decide) (Nat.le_of_ble_eq_true rfl) dX12_reachOf_48 (fun r1_ M2_ q3_ => ?_)
  obtain ⟨rfl, h4_, hs5_⟩ := q3_
  refine w_imulB dX12_reachOf_51 li_4 (rfl : r1_.toInt = r1_.toInt) (lf_c_reach1_0 r1_ h4_ ) (fun z6_ h7_ => ?_)
  exact w_iret rfl dX12_reachOf_52 ⟨rfl, (lf_c_reach1_1 r1_ z6_ h4_ h7_ ), ⟨r1_, hs5_, h4_, z6_, h7_, rfl⟩⟩
def SP_reach3 (Mz : mM) (r_ : Int32) : Prop := ∃ r1_ : Int32, (SP_reach0 Mz r1_) ∧ (r1_.toInt = 3) ∧ ∃ z6_ : Int32, (z6_.toInt = 2 * r1_.toInt) ∧ r_ = z6_
theorem lf_c_reach3_0 (r1_ : Int32) (h4_ : r1_.toInt = 3) : -2147483648 ≤ 2 * r1_.toInt ∧ 2 * r1_.toInt < 2147483648 := by omega
theorem lf_c_reach3_1 (r1_ : Int32) (z6_ : Int32) (h4_ : r1_.toInt = 3) (h7_ : z6_.toInt = 2 * r1_.toInt) : z6_.toInt = 6 := by omega
set_option maxHeartbeats 4000000 in
set_option maxRecDepth 100000 in
theorem c_reach3 (l : Launch) (G : va_G) (cy : Nat → ClassId) (ad : rf → Nat) (d : Nat) (Mz : mM) (hIz : InvD Mz) : WP DD l G cy ad yX12_reachOf cX12_reachOf 1 (some .int) (d + 1) 0 [(0, vI 3)] [] Mz (fun r M' => Mz = M' ∧ (r.toInt = 6) ∧ SP_reach3 Mz r) := by
  refine w_iload_n dX12_reachOf_0 rfl 0 rfl ?_
  refine w_tsIn (tgt := 55) (off := 54) dX12_reachOf_1 li_3 (by decide) (by decide) rfl (by decide) ?_
  refine w_iconst (v := 2) dX12_reachOf_55 (by decide) ?_
  refine w_iconst (v := 0) dX12_reachOf_56 (by decide) ?_
  refine w_callS (as := [vI 0]) (rest := [vI 2]) (c_reach0 l G cy ad d Mz hIz) kS_X12_reachOf pnn_17 (Nat.le_of_ble_eq_true rfl) m_1521 rfl rfl (by decide) (Nat.le_of_ble_eq_true rfl) dX12_reachOf_57 (fun r1_ M2_ q3_ => ?_)
  obtain ⟨rfl, h4_, hs5_⟩ := q3_
  refine w_imulB dX12_reachOf_60 li_2 (rfl : r1_.toInt = r1_.toInt) (lf_c_reach3_0 r1_ h4_ ) (fun z6_ h7_ => ?_)
  exact w_iret rfl dX12_reachOf_61 ⟨rfl, (lf_c_reach3_1 r1_ z6_ h4_ h7_ ), ⟨r1_, hs5_, h4_, z6_, h7_, rfl⟩⟩
def SP_X12_reachOf (v : Int32) (Mz : mM) (r_ : Int32) : Prop := (((v.toInt = 0) ∧ r_ = 3) ∨ ((v.toInt = 1) ∧ ∃ r2_ : Int32, (SP_reach0 Mz r2_) ∧ (r2_.toInt = 3) ∧ ∃ z7_ : Int32, (z7_.toInt = 4 * r2_.toInt) ∧ r_ = z7_) ∨ ((v.toInt = 2) ∧ r_ = 1) ∨ ((v.toInt = 3) ∧ ∃ r9_ : Int32, (SP_reach0 Mz r9_) ∧ (r9_.toInt = 3) ∧ ∃ z14_ : Int32, (z14_.toInt = 2 * r9_.toInt) ∧ r_ = z14_) ∨ ((v.toInt = 4) ∧ r_ = 0) ∨ ((v.toInt = 5) ∧ ∃ r16_ : Int32, (SP_reach1 Mz r16_) ∧ (r16_.toInt = 12) ∧ ∃ z21_ : Int32, (z21_.toInt = r16_.toInt / 2) ∧ r_ = z21_) ∨ ((v.toInt = 6) ∧ ∃ r23_ : Int32, (SP_reach3 Mz r23_) ∧ (r23_.toInt = 6) ∧ ∃ z28_ : Int32, (z28_.toInt = r23_.toInt - 1) ∧ r_ = z28_) ∨ (((¬ v.toInt = 0 ∧ ¬ v.toInt = 1 ∧ ¬ v.toInt = 2 ∧ ¬ v.toInt = 3 ∧ ¬ v.toInt = 4 ∧ ¬ v.toInt = 5 ∧ ¬ v.toInt = 6)) ∧ ∃ r30_ : Int32, (SP_reach1 Mz r30_) ∧ (r30_.toInt = 12) ∧ ∃ z35_ : Int32, (z35_.toInt = r30_.toInt - 2) ∧ r_ = z35_))
theorem lf_c_X12_reachOf_0 (v : Int32) : v.toInt = 0 ∨ v.toInt = 1 ∨ v.toInt = 2 ∨ v.toInt = 3 ∨ v.toInt = 4 ∨ v.toInt = 5 ∨ v.toInt = 6 ∨ (¬ v.toInt = 0 ∧ ¬ v.toInt = 1 ∧ ¬ v.toInt = 2 ∧ ¬ v.toInt = 3 ∧ ¬ v.toInt = 4 ∧ ¬ v.toInt = 5 ∧ ¬ v.toInt = 6) := by have r_v := rngI v; omega
theorem lf_c_X12_reachOf_1 : 0 ≤ (3 : Int32).toInt ∧ (3 : Int32).toInt ≤ 12 := by have r9 := li_3; omega
theorem lf_c_X12_reachOf_3 (r2_ : Int32) (z7_ : Int32) (h5_ : r2_.toInt = 3) (h8_ : z7_.toInt = 4 * r2_.toInt) : 0 ≤ z7_.toInt ∧ z7_.toInt ≤ 12 := by omega
theorem lf_c_X12_reachOf_4 : 0 ≤ (1 : Int32).toInt ∧ (1 : Int32).toInt ≤ 12 := by have r9 := li_1; omega
theorem lf_c_X12_reachOf_6 (r9_ : Int32) (z14_ : Int32) (h12_ : r9_.toInt = 3) (h15_ : z14_.toInt = 2 * r9_.toInt) : 0 ≤ z14_.toInt ∧ z14_.toInt ≤ 12 := by omega
theorem lf_c_X12_reachOf_8 (r16_ : Int32) (h19_ : r16_.toInt = 12) : 0 ≤ r16_.toInt := by omega
theorem lf_c_X12_reachOf_9 (r16_ : Int32) (z21_ : Int32) (h19_ : r16_.toInt = 12) (h22_ : z21_.toInt = r16_.toInt / 2) : 0 ≤ z21_.toInt ∧ z21_.toInt ≤ 12 := by omega
theorem lf_c_X12_reachOf_10 (r23_ : Int32) (h26_ : r23_.toInt = 6) : -2147483648 ≤ r23_.toInt - 1 ∧ r23_.toInt - 1 < 2147483648 := by omega
theorem lf_c_X12_reachOf_11 (r23_ : Int32) (z28_ : Int32) (h26_ : r23_.toInt = 6) (h29_ : z28_.toInt = r23_.toInt - 1) : 0 ≤ z28_.toInt ∧ z28_.toInt ≤ 12 := by omega
theorem lf_c_X12_reachOf_12 (v : Int32) (e1_ : (¬ v.toInt = 0 ∧ ¬ v.toInt = 1 ∧ ¬ v.toInt = 2 ∧ ¬ v.toInt = 3 ∧ ¬ v.toInt = 4 ∧ ¬ v.toInt = 5 ∧ ¬ v.toInt = 6)) : v.toInt < 0 ∨ 6 < v.toInt := by have r_v := rngI v; omega
theorem lf_c_X12_reachOf_13 (r30_ : Int32) (h33_ : r30_.toInt = 12) : -2147483648 ≤ r30_.toInt - 2 ∧ r30_.toInt - 2 < 2147483648 := by omega
theorem lf_c_X12_reachOf_14 (r30_ : Int32) (z35_ : Int32) (h33_ : r30_.toInt = 12) (h36_ : z35_.toInt = r30_.toInt - 2) : 0 ≤ z35_.toInt ∧ z35_.toInt ≤ 12 := by omega
set_option maxHeartbeats 4000000 in
set_option maxRecDepth 100000 in
theorem c_X12_reachOf (l : Launch) (G : va_G) (cy : Nat → ClassId) (ad : rf → Nat) (d : Nat) (v : Int32) (Mz : mM) (hIz : InvD Mz) : WP DD l G cy ad yX12_reachOf cX12_reachOf 1 (some .int) (d + 2) 0 [(0, vI v)] [] Mz (fun r M' => Mz = M' ∧ (0 ≤ r.toInt ∧ r.toInt ≤ 12) ∧ SP_X12_reachOf v Mz r) := by
  refine w_iload_n dX12_reachOf_0 rfl 0 rfl ?_
  rcases (lf_c_X12_reachOf_0 v ) with e1_ | e1_ | e1_ | e1_ | e1_ | e1_ | e1_ | e1_
  · refine w_tsIn (tgt := 44) (off := 43) dX12_reachOf_1 e1_ (by decide) (by decide) rfl (by decide) ?_
    refine w_iconst (v := 3) dX12_reachOf_44 (by decide) ?_
    exact w_iret rfl dX12_reachOf_45 ⟨rfl, (lf_c_X12_reachOf_1 ), (Or.inl ⟨e1_, rfl⟩)⟩
  · refine w_tsIn (tgt := 46) (off := 45) dX12_reachOf_1 e1_ (by decide) (by decide) rfl (by decide) ?_
    refine w_iconst (v := 4) dX12_reachOf_46 (by decide) ?_
    refine w_iconst (v := 0) dX12_reachOf_47 (by decide) ?_
    refine w_callS (as := [vI 0]) (rest := [vI 4]) (c_reach0 l G cy ad (d + 1) Mz hIz) kS_X12_reachOf pnn_17 (Nat.le_of_ble_eq_true rfl) m_1521 rfl rfl (by decide) (Nat.le_of_ble_eq_true rfl) dX12_reachOf_48 (fun r2_ M3_ q4_ => ?_)
    obtain ⟨rfl, h5_, hs6_⟩ := q4_
    refine w_imulB dX12_reachOf_51 li_4 (rfl : r2_.toInt = r2_.toInt) (lf_c_reach1_0 r2_ h5_ ) (fun z7_ h8_ => ?_)
    exact w_iret rfl dX12_reachOf_52 ⟨rfl, (lf_c_X12_reachOf_3 r2_ z7_ h5_ h8_ ), (Or.inr (Or.inl ⟨e1_, r2_, hs6_, h5_, z7_, h8_, rfl⟩))⟩
  · refine w_tsIn (tgt := 53) (off := 52) dX12_reachOf_1 e1_ (by decide) (by decide) rfl (by decide) ?_
    refine w_iconst (v := 1) dX12_reachOf_53 (by decide) ?_
    exact w_iret rfl dX12_reachOf_54 ⟨rfl, (lf_c_X12_reachOf_4 ), (Or.inr (Or.inr (Or.inl ⟨e1_, rfl⟩)))⟩
  · refine w_tsIn (tgt := 55) (off := 54) dX12_reachOf_1 e1_ (by decide) (by decide) rfl (by decide) ?_
    refine w_iconst (v := 2) dX12_reachOf_55 (by decide) ?_
    refine w_iconst (v := 0) dX12_reachOf_56 (by decide) ?_
    refine w_callS (as := [vI 0]) (rest := [vI 2]) (c_reach0 l G cy ad (d + 1) Mz hIz) kS_X12_reachOf pnn_17 (Nat.le_of_ble_eq_true rfl) m_1521 rfl rfl (by decide) (Nat.le_of_ble_eq_true rfl) dX12_reachOf_57 (fun r9_ M10_ q11_ => ?_)
    obtain ⟨rfl, h12_, hs13_⟩ := q11_
    refine w_imulB dX12_reachOf_60 li_2 (rfl : r9_.toInt = r9_.toInt) (lf_c_reach3_0 r9_ h12_ ) (fun z14_ h15_ => ?_)
    exact w_iret rfl dX12_reachOf_61 ⟨rfl, (lf_c_X12_reachOf_6 r9_ z14_ h12_ h15_ ), (Or.inr (Or.inr (Or.inr (Or.inl ⟨e1_, r9_, hs13_, h12_, z14_, h15_, rfl⟩))))⟩
  · refine w_tsIn (tgt := 62) (off := 61) dX12_reachOf_1 e1_ (by decide) (by decide) rfl (by decide) ?_
    refine w_iconst (v := 0) dX12_reachOf_62 (by decide) ?_
    exact w_iret rfl dX12_reachOf_63 ⟨rfl, (lf_c_X9_reach_0 ), (Or.inr (Or.inr (Or.inr (Or.inr (Or.inl ⟨e1_, rfl⟩)))))⟩
  · refine w_tsIn (tgt := 64) (off := 63) dX12_reachOf_1 e1_ (by decide) (by decide) rfl (by decide) ?_
    refine w_iconst (v := 1) dX12_reachOf_64 (by decide) ?_
    refine w_callS (as := [vI 1]) (rest := []) (c_reach1 l G cy ad d Mz hIz) kS_X12_reachOf pnn_17 (Nat.le_of_ble_eq_true rfl) m_1521 rfl rfl (by decide) (Nat.le_of_ble_eq_true rfl) dX12_reachOf_65 (fun r16_ M17_ q18_ => ?_)
    obtain ⟨rfl, h19_, hs20_⟩ := q18_
    refine w_iconst (v := 2) dX12_reachOf_68 (by decide) ?_
    refine w_idivB dX12_reachOf_69 (by decide) (rfl : r16_.toInt = r16_.toInt) li_2 (lf_c_X12_reachOf_8 r16_ h19_ ) (by decide) (fun z21_ h22_ => ?_)
    exact w_iret rfl dX12_reachOf_70 ⟨rfl, (lf_c_X12_reachOf_9 r16_ z21_ h19_ h22_ ), (Or.inr (Or.inr (Or.inr (Or.inr (Or.inr (Or.inl ⟨e1_, r16_, hs20_, h19_, z21_, h22_, rfl⟩))))))⟩
  · refine w_tsIn (tgt := 71) (off := 70) dX12_reachOf_1 e1_ (by decide) (by decide) rfl (by decide) ?_
    refine w_iconst (v := 3) dX12_reachOf_71 (by decide) ?_
    refine w_callS (as := [vI 3]) (rest := []) (c_reach3 l G cy ad d Mz hIz) kS_X12_reachOf pnn_17 (Nat.le_of_ble_eq_true rfl) m_1521 rfl rfl (by decide) (Nat.le_of_ble_eq_true rfl) dX12_reachOf_72 (fun r23_ M24_ q25_ => ?_)
    obtain ⟨rfl, h26_, hs27_⟩ := q25_
    refine w_iconst (v := 1) dX12_reachOf_75 (by decide) ?_
    refine w_isubB dX12_reachOf_76 (rfl : r23_.toInt = r23_.toInt) li_1 (lf_c_X12_reachOf_10 r23_ h26_ ) (fun z28_ h29_ => ?_)
    exact w_iret rfl dX12_reachOf_77 ⟨rfl, (lf_c_X12_reachOf_11 r23_ z28_ h26_ h29_ ), (Or.inr (Or.inr (Or.inr (Or.inr (Or.inr (Or.inr (Or.inl ⟨e1_, r23_, hs27_, h26_, z28_, h29_, rfl⟩)))))))⟩
  · refine w_tsOut (tgt := 78) dX12_reachOf_1 rfl (lf_c_X12_reachOf_12 v e1_ ) (by decide) ?_
    refine w_iconst (v := 1) dX12_reachOf_78 (by decide) ?_
    refine w_callS (as := [vI 1]) (rest := []) (c_reach1 l G cy ad d Mz hIz) kS_X12_reachOf pnn_17 (Nat.le_of_ble_eq_true rfl) m_1521 rfl rfl (by decide) (Nat.le_of_ble_eq_true rfl) dX12_reachOf_79 (fun r30_ M31_ q32_ => ?_)
    obtain ⟨rfl, h33_, hs34_⟩ := q32_
    refine w_iconst (v := 2) dX12_reachOf_82 (by decide) ?_
    refine w_isubB dX12_reachOf_83 (rfl : r30_.toInt = r30_.toInt) li_2 (lf_c_X12_reachOf_13 r30_ h33_ ) (fun z35_ h36_ => ?_)
    exact w_iret rfl dX12_reachOf_84 ⟨rfl, (lf_c_X12_reachOf_14 r30_ z35_ h33_ h36_ ), (Or.inr (Or.inr (Or.inr (Or.inr (Or.inr (Or.inr (Or.inr ⟨e1_, r30_, hs34_, h33_, z35_, h36_, rfl⟩)))))))⟩
def ST_X12_isUnder_2 (u : Int32) (Mz : mM) (v2_2 : Int32) (v2_2y : Int32) : Prop := (0 ≤ v2_2.toInt) ∧ (¬ v2_2.toInt = u.toInt) ∧ ∃ r6_ : Int32, (SP_X12_above v2_2 Mz r6_) ∧ (-1 ≤ r6_.toInt ∧ r6_.toInt ≤ 3 ∧ (0 ≤ v2_2.toInt → r6_.toInt < v2_2.toInt)) ∧ v2_2y = r6_
def SP_X12_isUnder (v : Int32) (u : Int32) (Mz : mM) (r_ : Int32) : Prop := ∃ v2_2 : Int32, (RCH (fun x_ y_ => ST_X12_isUnder_2 u Mz x_ y_) v v2_2) ∧ (((v2_2.toInt < 0) ∧ (v2_2.toInt < 0) ∧ r_ = 0) ∨ ((0 ≤ v2_2.toInt) ∧ (v2_2.toInt = u.toInt) ∧ (0 ≤ v2_2.toInt) ∧ r_ = 1))
theorem lf_c_X12_isUnder_0 (v2_2 : Int32) (h2_ : v2_2.toInt < 0) (h9 : 0 ≤ v2_2.toInt) : False := by omega
theorem lf_c_X12_isUnder_1 (v2_2 : Int32) (h2_ : 0 ≤ v2_2.toInt) (h9 : v2_2.toInt < 0) : False := by omega
theorem lf_c_X12_isUnder_2 (v2_2 : Int32) (r6_ : Int32) (h2_ : 0 ≤ v2_2.toInt) (h9_ : -1 ≤ r6_.toInt ∧ r6_.toInt ≤ 3 ∧ (0 ≤ v2_2.toInt → r6_.toInt < v2_2.toInt)) : (r6_.toInt + 1).toNat < (v2_2.toInt + 1).toNat := by omega
set_option maxHeartbeats 4000000 in
set_option maxRecDepth 100000 in
theorem c_X12_isUnder (l : Launch) (G : va_G) (cy : Nat → ClassId) (ad : rf → Nat) (d : Nat) (v : Int32) (u : Int32) (Mz : mM) (hIz : InvD Mz) : WP DD l G cy ad yX12_isUnder cX12_isUnder 3 (some .boolean) (d + 1) 0 [(0, vI v), (1, vI u)] [] Mz (fun r M' => Mz = M' ∧ ((0 ≤ r.toInt ∧ r.toInt ≤ 1)) ∧ SP_X12_isUnder v u Mz r) := by
  refine w_iload_n dX12_isUnder_0 rfl 0 rfl ?_
  refine w_istore_n (ls' := [(2, vI v), (0, vI v), (1, vI u)]) dX12_isUnder_1 rfl (by decide) rfl ?_
  have lp1_ : ∀ (nn_2 : Nat) (v2_2 : Int32) (hL_2 : RCH (fun x_ y_ => ST_X12_isUnder_2 u Mz x_ y_) v v2_2), (v2_2.toInt + 1).toNat < nn_2 → WP DD l G cy ad yX12_isUnder cX12_isUnder 3 (some .boolean) (d + 1) 2 [(2, vI v2_2), (0, vI v), (1, vI u)] [] Mz (fun r M' => Mz = M' ∧ ((0 ≤ r.toInt ∧ r.toInt ≤ 1)) ∧ SP_X12_isUnder v u Mz r) := by
    intro nn_2
    induction nn_2 with
    | zero => intro v2_2 hL_2 hm_2; exact absurd hm_2 (Nat.not_lt_zero _)
    | succ nn_2 ih_2 =>
      intro v2_2 hL_2 hm_2
      refine w_iload_n dX12_isUnder_2 rfl 0 rfl ?_
      refine w_if_lt (tgt := 19) dX12_isUnder_3 (by decide) (rfl : v2_2.toInt = v2_2.toInt) (fun h2_ => ?_) (fun h2_ => ?_)
      · refine w_iload_n dX12_isUnder_19 rfl 0 rfl ?_
        refine w_if_lt (tgt := 27) dX12_isUnder_20 (by decide) (rfl : v2_2.toInt = v2_2.toInt) (fun h3_ => ?_) (fun h9 => (lf_c_X12_isUnder_0 v2_2 h2_ h9 ).elim)
        refine w_iconst (v := 0) dX12_isUnder_27 (by decide) ?_
        exact w_zret rfl dX12_isUnder_28 ⟨by decide, by decide⟩ ⟨rfl, ⟨by decide, by decide⟩, ⟨v2_2, hL_2, (Or.inl ⟨h2_, h3_, rfl⟩)⟩⟩
      · refine w_iload_n dX12_isUnder_6 rfl 0 rfl ?_
        refine w_iload_n dX12_isUnder_7 rfl 2 rfl ?_
        refine w_icmp_eq (tgt := 19) dX12_isUnder_8 (by decide) (rfl : v2_2.toInt = v2_2.toInt) (rfl : u.toInt = u.toInt) (fun h4_ => ?_) (fun h4_ => ?_)
        · refine w_iload_n dX12_isUnder_19 rfl 0 rfl ?_
          refine w_if_lt (tgt := 27) dX12_isUnder_20 (by decide) (rfl : v2_2.toInt = v2_2.toInt) (fun h9 => (lf_c_X12_isUnder_1 v2_2 h2_ h9 ).elim) (fun h5_ => ?_)
          refine w_iconst (v := 1) dX12_isUnder_23 (by decide) ?_
          refine w_goto (tgt := 28) dX12_isUnder_24 (by decide) ?_
          exact w_zret rfl dX12_isUnder_28 ⟨by decide, by decide⟩ ⟨rfl, ⟨by decide, by decide⟩, ⟨v2_2, hL_2, (Or.inr ⟨h2_, h4_, h5_, rfl⟩)⟩⟩
        · refine w_iload_n dX12_isUnder_11 rfl 0 rfl ?_
          refine w_callS (as := [vI v2_2]) (rest := []) (c_X12_above l G cy ad d v2_2 Mz hIz) kS_X12_above pnn_17 (Nat.le_of_ble_eq_true rfl) m_1535 rfl rfl (by decide) (Nat.le_of_ble_eq_true rfl) dX12_isUnder_12 (fun r6_ M7_ q8_ => ?_)
          obtain ⟨rfl, h9_, hs10_⟩ := q8_
          refine w_istore_n (ls' := [(2, vI r6_), (0, vI v), (1, vI u)]) dX12_isUnder_15 rfl (by decide) rfl ?_
          refine w_goto (tgt := 2) dX12_isUnder_16 (by decide) ?_
          refine w_loc (ls' := [(2, vI r6_), (0, vI v), (1, vI u)]) [0, 1, 2] rfl ?_
          exact ih_2 r6_ (RCH.tail hL_2 ⟨h2_, h4_, r6_, hs10_, h9_, rfl⟩) (Nat.lt_of_lt_of_le (lf_c_X12_isUnder_2 v2_2 r6_ h2_ h9_ ) (Nat.le_of_lt_succ hm_2))
  exact lp1_ _ v RCH.refl (Nat.lt_succ_self _)
def SP_X12_kindOf (v : Int32) (Mz : mM) (r_ : Int32) : Prop := ∃ r1_ : Int32, (SP_X12_goer v Mz r1_) ∧ (r1_.toInt = 180 + 9 * v.toInt) ∧ ∃ z6_ : Int32, (z6_.toInt = r1_.toInt + 0) ∧ ∃ j10_ : Nat, ((j10_ : Int) = z6_.toInt) ∧ ∃ z8_ : Int32, (z8_ = Mz.1 (50, 0, 0) j10_) ∧ (0 ≤ z8_.toInt ∧ z8_.toInt ≤ 7) ∧ r_ = z8_
theorem lf_c_X12_kindOf_0 (v : Int32) (r1_ : Int32) (hv : 0 ≤ v.toInt ∧ v.toInt ≤ 7) (h4_ : r1_.toInt = 180 + 9 * v.toInt) : -2147483648 ≤ r1_.toInt + 0 ∧ r1_.toInt + 0 < 2147483648 := by omega
theorem lf_c_X12_kindOf_1 (v : Int32) (r1_ : Int32) (z6_ : Int32) (hv : 0 ≤ v.toInt ∧ v.toInt ≤ 7) (h4_ : r1_.toInt = 180 + 9 * v.toInt) (h7_ : z6_.toInt = r1_.toInt + 0) : 0 ≤ z6_.toInt ∧ z6_.toInt < ((3567 : Nat) : Int) := by omega
theorem lf_c_X12_kindOf_2 (Mz : mM) (v : Int32) (r1_ : Int32) (z6_ : Int32) (j10_ : Nat) (z8_ : Int32) (hv : 0 ≤ v.toInt ∧ v.toInt ≤ 7) (h4_ : r1_.toInt = 180 + 9 * v.toInt) (h7_ : z6_.toInt = r1_.toInt + 0) (h11_ : (j10_ : Int) = z6_.toInt) (e9_ : z8_ = Mz.1 (50, 0, 0) j10_) : 180 ≤ j10_ ∧ j10_ < 252 ∧ j10_ % 9 = 0 := by have r_v := rngI v; have r_r1_ := rngI r1_; have r_z6_ := rngI z6_; have r_z8_ := rngI z8_; subst e9_; omega
set_option maxHeartbeats 4000000 in
set_option maxRecDepth 100000 in
theorem c_X12_kindOf (l : Launch) (G : va_G) (cy : Nat → ClassId) (ad : rf → Nat) (d : Nat) (v : Int32) (Mz : mM) (hIz : InvD Mz) (hv : 0 ≤ v.toInt ∧ v.toInt ≤ 7) : WP DD l G cy ad yX12_kindOf cX12_kindOf 2 (some .int) (d + 1) 0 [(0, vR (12, 0, 0)), (1, vI v)] [] Mz (fun r M' => Mz = M' ∧ (0 ≤ r.toInt ∧ r.toInt ≤ 7) ∧ SP_X12_kindOf v Mz r) := by
  refine w_aload_n dX12_kindOf_0 rfl 0 rfl ?_
  refine w_getR (c' := (50, 0, 0)) fl_RX12_9 rfl rfl ic_12 dX12_kindOf_1 rfl ?_
  refine w_aload_n dX12_kindOf_4 rfl 0 rfl ?_
  refine w_iload_n dX12_kindOf_5 rfl 1 rfl ?_
  refine w_callV (as := [vI v]) (rest := [vR (50, 0, 0)]) (c_X12_goer l G cy ad d v Mz hIz hv) kV_X12_goer pnn_17 (Nat.le_of_ble_eq_true rfl) m_1451 rfl rfl rfl ic_12 rfl rfl (by decide) (Nat.le_of_ble_eq_true rfl) dX12_kindOf_6 (fun r1_ M2_ q3_ => ?_)
  obtain ⟨rfl, h4_, hs5_⟩ := q3_
  refine w_iconst (v := 0) dX12_kindOf_9 (by decide) ?_
  refine w_iaddB dX12_kindOf_10 (rfl : r1_.toInt = r1_.toInt) li_0 (lf_c_X12_kindOf_0 v r1_ hv h4_ ) (fun z6_ h7_ => ?_)
  refine w_iald rfl rfl ic_50 (rfl : z6_.toInt = z6_.toInt) (lf_c_X12_kindOf_1 v r1_ z6_ hv h4_ h7_ ) dX12_kindOf_11 (fun j10_ h11_ z8_ e9_ => ?_)
  have h12_ : 0 ≤ z8_.toInt ∧ z8_.toInt ≤ 7 := pn_wk hIz e9_ (lf_c_X12_kindOf_2 Mz v r1_ z6_ j10_ z8_ hv h4_ h7_ h11_ e9_ )
  exact w_iret rfl dX12_kindOf_12 ⟨rfl, h12_, ⟨r1_, hs5_, h4_, z6_, h7_, j10_, h11_, z8_, e9_, h12_, rfl⟩⟩
def SP_X12_reach (v : Int32) (Mz : mM) (r_ : Int32) : Prop := ∃ r1_ : Int32, (SP_X12_kindOf v Mz r1_) ∧ (0 ≤ r1_.toInt ∧ r1_.toInt ≤ 7) ∧ ∃ r6_ : Int32, (SP_X12_reachOf r1_ Mz r6_) ∧ (0 ≤ r6_.toInt ∧ r6_.toInt ≤ 12) ∧ r_ = r6_
set_option maxHeartbeats 4000000 in
set_option maxRecDepth 100000 in
theorem c_X12_reach (l : Launch) (G : va_G) (cy : Nat → ClassId) (ad : rf → Nat) (d : Nat) (v : Int32) (Mz : mM) (hIz : InvD Mz) (hv : 0 ≤ v.toInt ∧ v.toInt ≤ 7) : WP DD l G cy ad yX12_reach cX12_reach 2 (some .int) (d + 3) 0 [(0, vR (12, 0, 0)), (1, vI v)] [] Mz (fun r M' => Mz = M' ∧ (0 ≤ r.toInt ∧ r.toInt ≤ 12) ∧ SP_X12_reach v Mz r) := by
  refine w_aload_n dX12_reach_0 rfl 0 rfl ?_
  refine w_iload_n dX12_reach_1 rfl 1 rfl ?_
  refine w_callV (as := [vI v]) (rest := []) (c_X12_kindOf l G cy ad (d + 1) v Mz hIz hv) kV_X12_kindOf pnn_17 (Nat.le_of_ble_eq_true rfl) m_1517 rfl rfl rfl ic_12 rfl rfl (by decide) (Nat.le_of_ble_eq_true rfl) dX12_reach_2 (fun r1_ M2_ q3_ => ?_)
  obtain ⟨rfl, h4_, hs5_⟩ := q3_
  refine w_callS (as := [vI r1_]) (rest := []) (c_X12_reachOf l G cy ad d r1_ Mz hIz) kS_X12_reachOf pnn_17 (Nat.le_of_ble_eq_true rfl) m_1521 rfl rfl (by decide) (Nat.le_of_ble_eq_true rfl) dX12_reach_5 (fun r6_ M7_ q8_ => ?_)
  obtain ⟨rfl, h9_, hs10_⟩ := q8_
  exact w_iret rfl dX12_reach_8 ⟨rfl, h9_, ⟨r1_, hs5_, h4_, r6_, hs10_, h9_, rfl⟩⟩
def SP_X12_ears (v : Int32) (Mz : mM) (r_ : Int32) : Prop := ∃ r1_ : Int32, (SP_X12_kindOf v Mz r1_) ∧ (0 ≤ r1_.toInt ∧ r1_.toInt ≤ 7) ∧ (((¬ r1_.toInt = 6) ∧ r_ = 9) ∨ ((r1_.toInt = 6) ∧ r_ = 5))
theorem lf_c_X12_ears_0 : 0 ≤ (9 : Int32).toInt ∧ (9 : Int32).toInt ≤ 9 := by have r9 := li_9; omega
theorem lf_c_X12_ears_1 : 0 ≤ (5 : Int32).toInt ∧ (5 : Int32).toInt ≤ 9 := by have r9 := li_5; omega
set_option maxHeartbeats 4000000 in
set_option maxRecDepth 100000 in
theorem c_X12_ears (l : Launch) (G : va_G) (cy : Nat → ClassId) (ad : rf → Nat) (d : Nat) (v : Int32) (Mz : mM) (hIz : InvD Mz) (hv : 0 ≤ v.toInt ∧ v.toInt ≤ 7) : WP DD l G cy ad yX12_ears cX12_ears 2 (some .int) (d + 2) 0 [(0, vR (12, 0, 0)), (1, vI v)] [] Mz (fun r M' => Mz = M' ∧ (0 ≤ r.toInt ∧ r.toInt ≤ 9) ∧ SP_X12_ears v Mz r) := by
  refine w_aload_n dX12_ears_0 rfl 0 rfl ?_
  refine w_iload_n dX12_ears_1 rfl 1 rfl ?_
  refine w_callV (as := [vI v]) (rest := []) (c_X12_kindOf l G cy ad d v Mz hIz hv) kV_X12_kindOf pnn_17 (Nat.le_of_ble_eq_true rfl) m_1517 rfl rfl rfl ic_12 rfl rfl (by decide) (Nat.le_of_ble_eq_true rfl) dX12_ears_2 (fun r1_ M2_ q3_ => ?_)
  obtain ⟨rfl, h4_, hs5_⟩ := q3_
  refine w_bipush (v := 6) dX12_ears_5 (by decide) ?_
  refine w_icmp_ne (tgt := 14) dX12_ears_7 (by decide) (rfl : r1_.toInt = r1_.toInt) li_6 (fun h6_ => ?_) (fun h6_ => ?_)
  · refine w_bipush (v := 9) dX12_ears_14 (by decide) ?_
    exact w_iret rfl dX12_ears_16 ⟨rfl, (lf_c_X12_ears_0 ), ⟨r1_, hs5_, h4_, (Or.inl ⟨h6_, rfl⟩)⟩⟩
  · refine w_iconst (v := 5) dX12_ears_10 (by decide) ?_
    refine w_goto (tgt := 16) dX12_ears_11 (by decide) ?_
    exact w_iret rfl dX12_ears_16 ⟨rfl, (lf_c_X12_ears_1 ), ⟨r1_, hs5_, h4_, (Or.inr ⟨h6_, rfl⟩)⟩⟩
def S_c_X12_walkerIs : rf → Nat → Prop := fun c k => (c.1 = 53 ∧ c.2.1 = 0) ∨ False
def SP_X12_walkerIs (v : Int32) (u : Int32) (Mz : mM) (r_ : Int32) (M_ : mM) : Prop := (((SP_is2 v Mz (1 : Int32)) ∧ (0 ≤ v.toInt ∧ v.toInt ≤ 7) ∧ (((SP_X12_within u 0 11 Mz (1 : Int32)) ∧ (0 ≤ u.toInt ∧ u.toInt ≤ 11) ∧ (((9 ≤ u.toInt) ∧ (((¬ u.toInt = 9) ∧ (((¬ u.toInt = 11) ∧ ∃ r16_ : Int32, (SP_X12_kindOf v Mz r16_) ∧ (0 ≤ r16_.toInt ∧ r16_.toInt ≤ 7) ∧ (((¬ r16_.toInt = 7) ∧ r_ = 1 ∧ M_ = Mz) ∨ ((r16_.toInt = 7) ∧ r_ = 2 ∧ M_ = Mz))) ∨ ((u.toInt = 11) ∧ ∃ r22_ : Int32, (SP_X12_ears v Mz r22_) ∧ (0 ≤ r22_.toInt ∧ r22_.toInt ≤ 9) ∧ r_ = r22_ ∧ M_ = Mz))) ∨ ((u.toInt = 9) ∧ ∃ r27_ : Int32, (SP_X12_reach v Mz r27_) ∧ (0 ≤ r27_.toInt ∧ r27_.toInt ≤ 12) ∧ r_ = r27_ ∧ M_ = Mz))) ∨ ((u.toInt < 9) ∧ ∃ r32_ : Int32, (SP_X12_goer v Mz r32_) ∧ (r32_.toInt = 180 + 9 * v.toInt) ∧ ∃ z37_ : Int32, (z37_.toInt = r32_.toInt + u.toInt) ∧ ∃ j41_ : Nat, ((j41_ : Int) = z37_.toInt) ∧ ∃ z39_ : Int32, (z39_ = Mz.1 (50, 0, 0) j41_) ∧ r_ = z39_ ∧ M_ = Mz))) ∨ ((SP_X12_within u 0 11 Mz (0 : Int32)) ∧ (¬ (0 ≤ u.toInt ∧ u.toInt ≤ 11)) ∧ ∃ M45_ : mM, (InvD M45_) ∧ (FR (S_c_X12_finding) Mz M45_) ∧ ∃ r44_ : Int32, (SP_X12_finding (-1000001) Mz r44_ M45_) ∧ (r44_.toInt = (-1000001)) ∧ r_ = r44_ ∧ M_ = M45_))) ∨ ((SP_is2 v Mz (0 : Int32)) ∧ ∃ M54_ : mM, (InvD M54_) ∧ (FR (S_c_X12_finding) Mz M54_) ∧ ∃ r53_ : Int32, (SP_X12_finding (-1000001) Mz r53_ M54_) ∧ (r53_.toInt = (-1000001)) ∧ r_ = r53_ ∧ M_ = M54_))
theorem lf_c_X12_walkerIs_0 (v : Int32) (u : Int32) (r32_ : Int32) (h4_ : 0 ≤ v.toInt ∧ v.toInt ≤ 7) (h10_ : 0 ≤ u.toInt ∧ u.toInt ≤ 11) (h13_ : u.toInt < 9) (h35_ : r32_.toInt = 180 + 9 * v.toInt) : -2147483648 ≤ r32_.toInt + u.toInt ∧ r32_.toInt + u.toInt < 2147483648 := by omega
theorem lf_c_X12_walkerIs_1 (v : Int32) (u : Int32) (r32_ : Int32) (z37_ : Int32) (h4_ : 0 ≤ v.toInt ∧ v.toInt ≤ 7) (h10_ : 0 ≤ u.toInt ∧ u.toInt ≤ 11) (h13_ : u.toInt < 9) (h35_ : r32_.toInt = 180 + 9 * v.toInt) (h38_ : z37_.toInt = r32_.toInt + u.toInt) : 0 ≤ z37_.toInt ∧ z37_.toInt < ((3567 : Nat) : Int) := by omega
set_option maxHeartbeats 4000000 in
set_option maxRecDepth 100000 in
theorem c_X12_walkerIs (l : Launch) (G : va_G) (cy : Nat → ClassId) (ad : rf → Nat) (d : Nat) (v : Int32) (u : Int32) (Mz : mM) (hIz : InvD Mz) : WP DD l G cy ad yX12_walkerIs cX12_walkerIs 3 (some .int) (d + 4) 0 [(0, vR (12, 0, 0)), (1, vI v), (2, vI u)] [] Mz (fun r M' => InvD M' ∧ FR (S_c_X12_walkerIs) Mz M' ∧ (True) ∧ SP_X12_walkerIs v u Mz r M') := by
  have hFz : FR (S_c_X12_walkerIs) Mz Mz := FR.self
  refine w_aload_n dX12_walkerIs_0 rfl 0 rfl ?_
  refine w_iload_n dX12_walkerIs_1 rfl 1 rfl ?_
  refine w_iconst (v := 2) dX12_walkerIs_2 (by decide) ?_
  refine w_callV (as := [vI v, vI 2]) (rest := []) (c_is2 l G cy ad (d + 2) v Mz hIz) kV_X12_is pnn_17 (Nat.le_of_ble_eq_true rfl) m_1465 rfl rfl rfl ic_12 rfl rfl (by decide) (Nat.le_of_ble_eq_true rfl) dX12_walkerIs_3 (fun r1_ M2_ q3_ => ?_)
  obtain ⟨rfl, h4_, hs5_⟩ := q3_
  rcases h4_ with ⟨rfl, h4_⟩ | rfl
  · refine w_if_eq (tgt := 19) dX12_walkerIs_6 (by decide) li_1 (fun h9 => (absurd h9 (by decide))) (fun h6_ => ?_)
    refine w_iload_n dX12_walkerIs_9 rfl 2 rfl ?_
    refine w_iconst (v := 0) dX12_walkerIs_10 (by decide) ?_
    refine w_bipush (v := 11) dX12_walkerIs_11 (by decide) ?_
    refine w_callS (as := [vI u, vI 0, vI 11]) (rest := []) (c_X12_within l G cy ad (d + 3) u 0 11 Mz hIz) kS_X12_within pnn_17 (Nat.le_of_ble_eq_true rfl) m_1427 rfl rfl (by decide) (Nat.le_of_ble_eq_true rfl) dX12_walkerIs_13 (fun r7_ M8_ q9_ => ?_)
    obtain ⟨rfl, h10_, hs11_⟩ := q9_
    rcases h10_ with ⟨rfl, h10_⟩ | ⟨rfl, h10_⟩
    · simp only [li_0, li_11] at h10_
      refine w_if_ne (tgt := 26) dX12_walkerIs_16 (by decide) li_1 (fun h12_ => ?_) (fun h9 => (absurd h9 (by decide)))
      refine w_iload_n dX12_walkerIs_26 rfl 2 rfl ?_
      refine w_bipush (v := 9) dX12_walkerIs_27 (by decide) ?_
      refine w_icmp_ge (tgt := 47) dX12_walkerIs_29 (by decide) (rfl : u.toInt = u.toInt) li_9 (fun h13_ => ?_) (fun h13_ => ?_)
      · refine w_iload_n dX12_walkerIs_47 rfl 2 rfl ?_
        refine w_bipush (v := 9) dX12_walkerIs_48 (by decide) ?_
        refine w_icmp_ne (tgt := 61) dX12_walkerIs_50 (by decide) (rfl : u.toInt = u.toInt) li_9 (fun h14_ => ?_) (fun h14_ => ?_)
        · refine w_iload_n dX12_walkerIs_61 rfl 2 rfl ?_
          refine w_bipush (v := 11) dX12_walkerIs_62 (by decide) ?_
          refine w_icmp_ne (tgt := 75) dX12_walkerIs_64 (by decide) (rfl : u.toInt = u.toInt) li_11 (fun h15_ => ?_) (fun h15_ => ?_)
          · refine w_aload_n dX12_walkerIs_75 rfl 0 rfl ?_
            refine w_iload_n dX12_walkerIs_76 rfl 1 rfl ?_
            refine w_callV (as := [vI v]) (rest := []) (c_X12_kindOf l G cy ad (d + 2) v Mz hIz h4_) kV_X12_kindOf pnn_17 (Nat.le_of_ble_eq_true rfl) m_1517 rfl rfl rfl ic_12 rfl rfl (by decide) (Nat.le_of_ble_eq_true rfl) dX12_walkerIs_77 (fun r16_ M17_ q18_ => ?_)
            obtain ⟨rfl, h19_, hs20_⟩ := q18_
            refine w_bipush (v := 7) dX12_walkerIs_80 (by decide) ?_
            refine w_icmp_ne (tgt := 89) dX12_walkerIs_82 (by decide) (rfl : r16_.toInt = r16_.toInt) li_7 (fun h21_ => ?_) (fun h21_ => ?_)
            · refine w_iconst (v := 1) dX12_walkerIs_89 (by decide) ?_
              exact w_iret rfl dX12_walkerIs_90 ⟨hIz, hFz, trivial, (Or.inl ⟨hs5_, h4_, (Or.inl ⟨hs11_, h10_, (Or.inl ⟨h13_, (Or.inl ⟨h14_, (Or.inl ⟨h15_, r16_, hs20_, h19_, (Or.inl ⟨h21_, rfl, rfl⟩)⟩)⟩)⟩)⟩)⟩)⟩
            · refine w_iconst (v := 2) dX12_walkerIs_85 (by decide) ?_
              refine w_goto (tgt := 90) dX12_walkerIs_86 (by decide) ?_
              exact w_iret rfl dX12_walkerIs_90 ⟨hIz, hFz, trivial, (Or.inl ⟨hs5_, h4_, (Or.inl ⟨hs11_, h10_, (Or.inl ⟨h13_, (Or.inl ⟨h14_, (Or.inl ⟨h15_, r16_, hs20_, h19_, (Or.inr ⟨h21_, rfl, rfl⟩)⟩)⟩)⟩)⟩)⟩)⟩
          · refine w_aload_n dX12_walkerIs_67 rfl 0 rfl ?_
            refine w_iload_n dX12_walkerIs_68 rfl 1 rfl ?_
            refine w_callV (as := [vI v]) (rest := []) (c_X12_ears l G cy ad (d + 1) v Mz hIz h4_) kV_X12_ears pnn_17 (Nat.le_of_ble_eq_true rfl) m_1524 rfl rfl rfl ic_12 rfl rfl (by decide) (Nat.le_of_ble_eq_true rfl) dX12_walkerIs_69 (fun r22_ M23_ q24_ => ?_)
            obtain ⟨rfl, h25_, hs26_⟩ := q24_
            refine w_goto (tgt := 90) dX12_walkerIs_72 (by decide) ?_
            exact w_iret rfl dX12_walkerIs_90 ⟨hIz, hFz, trivial, (Or.inl ⟨hs5_, h4_, (Or.inl ⟨hs11_, h10_, (Or.inl ⟨h13_, (Or.inl ⟨h14_, (Or.inr ⟨h15_, r22_, hs26_, h25_, rfl, rfl⟩)⟩)⟩)⟩)⟩)⟩
        · refine w_aload_n dX12_walkerIs_53 rfl 0 rfl ?_
          refine w_iload_n dX12_walkerIs_54 rfl 1 rfl ?_
          refine w_callV (as := [vI v]) (rest := []) (c_X12_reach l G cy ad d v Mz hIz h4_) kV_X12_reach pnn_17 (Nat.le_of_ble_eq_true rfl) m_1513 rfl rfl rfl ic_12 rfl rfl (by decide) (Nat.le_of_ble_eq_true rfl) dX12_walkerIs_55 (fun r27_ M28_ q29_ => ?_)
          obtain ⟨rfl, h30_, hs31_⟩ := q29_
          refine w_goto (tgt := 90) dX12_walkerIs_58 (by decide) ?_
          exact w_iret rfl dX12_walkerIs_90 ⟨hIz, hFz, trivial, (Or.inl ⟨hs5_, h4_, (Or.inl ⟨hs11_, h10_, (Or.inl ⟨h13_, (Or.inr ⟨h14_, r27_, hs31_, h30_, rfl, rfl⟩)⟩)⟩)⟩)⟩
      · refine w_aload_n dX12_walkerIs_32 rfl 0 rfl ?_
        refine w_getR (c' := (50, 0, 0)) fl_RX12_9 rfl rfl ic_12 dX12_walkerIs_33 rfl ?_
        refine w_aload_n dX12_walkerIs_36 rfl 0 rfl ?_
        refine w_iload_n dX12_walkerIs_37 rfl 1 rfl ?_
        refine w_callV (as := [vI v]) (rest := [vR (50, 0, 0)]) (c_X12_goer l G cy ad (d + 3) v Mz hIz h4_) kV_X12_goer pnn_17 (Nat.le_of_ble_eq_true rfl) m_1451 rfl rfl rfl ic_12 rfl rfl (by decide) (Nat.le_of_ble_eq_true rfl) dX12_walkerIs_38 (fun r32_ M33_ q34_ => ?_)
        obtain ⟨rfl, h35_, hs36_⟩ := q34_
        refine w_iload_n dX12_walkerIs_41 rfl 2 rfl ?_
        refine w_iaddB dX12_walkerIs_42 (rfl : r32_.toInt = r32_.toInt) (rfl : u.toInt = u.toInt) (lf_c_X12_walkerIs_0 v u r32_ h4_ h10_ h13_ h35_ ) (fun z37_ h38_ => ?_)
        refine w_iald rfl rfl ic_50 (rfl : z37_.toInt = z37_.toInt) (lf_c_X12_walkerIs_1 v u r32_ z37_ h4_ h10_ h13_ h35_ h38_ ) dX12_walkerIs_43 (fun j41_ h42_ z39_ e40_ => ?_)
        refine w_goto (tgt := 90) dX12_walkerIs_44 (by decide) ?_
        exact w_iret rfl dX12_walkerIs_90 ⟨hIz, hFz, trivial, (Or.inl ⟨hs5_, h4_, (Or.inl ⟨hs11_, h10_, (Or.inr ⟨h13_, r32_, hs36_, h35_, z37_, h38_, j41_, h42_, z39_, e40_, rfl, rfl⟩)⟩)⟩)⟩
    · simp only [li_0, li_11] at h10_
      refine w_if_ne (tgt := 26) dX12_walkerIs_16 (by decide) li_0 (fun h9 => (absurd h9 (by decide))) (fun h43_ => ?_)
      refine w_aload_n dX12_walkerIs_19 rfl 0 rfl ?_
      refine w_ldc (v := (-1000001)) m_1433 dX12_walkerIs_20 ?_
      refine w_callV (as := [vI (-1000001)]) (rest := []) (c_X12_finding l G cy ad (d + 3) (-1000001) Mz hIz (by first | decide | (unfold vF; omega) | (unfold vRw; omega))) kV_X12_finding pnn_17 (Nat.le_of_ble_eq_true rfl) m_1434 rfl rfl rfl ic_12 rfl rfl (by decide) (Nat.le_of_ble_eq_true rfl) dX12_walkerIs_22 (fun r44_ M45_ q46_ => ?_)
      obtain ⟨hI48_, hF49_, h47_, hs51_⟩ := q46_
      have hF50_ := hFz.tr hF49_ (fun c k => (fun h => h.elim (fun h => (Or.inl ⟨h.1, h.2⟩)) (fun h => h.elim)))
      simp only [li_m1000001] at h47_
      exact w_iret rfl dX12_walkerIs_25 ⟨hI48_, hF50_, trivial, (Or.inl ⟨hs5_, h4_, (Or.inr ⟨hs11_, h10_, M45_, hI48_, hF49_, r44_, hs51_, h47_, rfl, rfl⟩)⟩)⟩
  · refine w_if_eq (tgt := 19) dX12_walkerIs_6 (by decide) li_0 (fun h52_ => ?_) (fun h9 => (absurd h9 (by decide)))
    refine w_aload_n dX12_walkerIs_19 rfl 0 rfl ?_
    refine w_ldc (v := (-1000001)) m_1433 dX12_walkerIs_20 ?_
    refine w_callV (as := [vI (-1000001)]) (rest := []) (c_X12_finding l G cy ad (d + 3) (-1000001) Mz hIz (by first | decide | (unfold vF; omega) | (unfold vRw; omega))) kV_X12_finding pnn_17 (Nat.le_of_ble_eq_true rfl) m_1434 rfl rfl rfl ic_12 rfl rfl (by decide) (Nat.le_of_ble_eq_true rfl) dX12_walkerIs_22 (fun r53_ M54_ q55_ => ?_)
    obtain ⟨hI57_, hF58_, h56_, hs60_⟩ := q55_
    have hF59_ := hFz.tr hF58_ (fun c k => (fun h => h.elim (fun h => (Or.inl ⟨h.1, h.2⟩)) (fun h => h.elim)))
    simp only [li_m1000001] at h56_
    exact w_iret rfl dX12_walkerIs_25 ⟨hI57_, hF59_, trivial, (Or.inr ⟨hs5_, M54_, hI57_, hF58_, r53_, hs60_, h56_, rfl, rfl⟩)⟩
def S_c_X12_as : rf → Nat → Prop := fun c k => (c.1 = 53 ∧ c.2.1 = 0) ∨ False
def SP_X12_as (v : Int32) (u : Int32) (Mz : mM) (r_ : Int32) (M_ : mM) : Prop := (((SP_is2 v Mz (1 : Int32)) ∧ (0 ≤ v.toInt ∧ v.toInt ≤ 7) ∧ (((SP_X12_within u 0 7 Mz (1 : Int32)) ∧ (0 ≤ u.toInt ∧ u.toInt ≤ 7) ∧ ∃ r13_ : Int32, (SP_X12_kindOf v Mz r13_) ∧ (0 ≤ r13_.toInt ∧ r13_.toInt ≤ 7) ∧ ∃ r18_ : Int32, (SP_X12_isUnder r13_ u Mz r18_) ∧ ((0 ≤ r18_.toInt ∧ r18_.toInt ≤ 1)) ∧ (((r18_.toInt = 0) ∧ ∃ M25_ : mM, (InvD M25_) ∧ (FR (S_c_X12_finding) Mz M25_) ∧ ∃ r24_ : Int32, (SP_X12_finding (-1000005) Mz r24_ M25_) ∧ (r24_.toInt = (-1000005)) ∧ r_ = r24_ ∧ M_ = M25_) ∨ ((¬ r18_.toInt = 0) ∧ ∃ r32_ : Int32, (SP_X12_reach v Mz r32_) ∧ (0 ≤ r32_.toInt ∧ r32_.toInt ≤ 12) ∧ r_ = r32_ ∧ M_ = Mz))) ∨ ((SP_X12_within u 0 7 Mz (0 : Int32)) ∧ (¬ (0 ≤ u.toInt ∧ u.toInt ≤ 7)) ∧ ∃ M39_ : mM, (InvD M39_) ∧ (FR (S_c_X12_finding) Mz M39_) ∧ ∃ r38_ : Int32, (SP_X12_finding (-1000001) Mz r38_ M39_) ∧ (r38_.toInt = (-1000001)) ∧ r_ = r38_ ∧ M_ = M39_))) ∨ ((SP_is2 v Mz (0 : Int32)) ∧ ∃ M48_ : mM, (InvD M48_) ∧ (FR (S_c_X12_finding) Mz M48_) ∧ ∃ r47_ : Int32, (SP_X12_finding (-1000001) Mz r47_ M48_) ∧ (r47_.toInt = (-1000001)) ∧ r_ = r47_ ∧ M_ = M48_))
set_option maxHeartbeats 4000000 in
set_option maxRecDepth 100000 in
theorem c_X12_as (l : Launch) (G : va_G) (cy : Nat → ClassId) (ad : rf → Nat) (d : Nat) (v : Int32) (u : Int32) (Mz : mM) (hIz : InvD Mz) : WP DD l G cy ad yX12_as cX12_as 3 (some .int) (d + 4) 0 [(0, vR (12, 0, 0)), (1, vI v), (2, vI u)] [] Mz (fun r M' => InvD M' ∧ FR (S_c_X12_as) Mz M' ∧ (True) ∧ SP_X12_as v u Mz r M') := by
  have hFz : FR (S_c_X12_as) Mz Mz := FR.self
  refine w_aload_n dX12_as_0 rfl 0 rfl ?_
  refine w_iload_n dX12_as_1 rfl 1 rfl ?_
  refine w_iconst (v := 2) dX12_as_2 (by decide) ?_
  refine w_callV (as := [vI v, vI 2]) (rest := []) (c_is2 l G cy ad (d + 2) v Mz hIz) kV_X12_is pnn_17 (Nat.le_of_ble_eq_true rfl) m_1465 rfl rfl rfl ic_12 rfl rfl (by decide) (Nat.le_of_ble_eq_true rfl) dX12_as_3 (fun r1_ M2_ q3_ => ?_)
  obtain ⟨rfl, h4_, hs5_⟩ := q3_
  rcases h4_ with ⟨rfl, h4_⟩ | rfl
  · refine w_if_eq (tgt := 19) dX12_as_6 (by decide) li_1 (fun h9 => (absurd h9 (by decide))) (fun h6_ => ?_)
    refine w_iload_n dX12_as_9 rfl 2 rfl ?_
    refine w_iconst (v := 0) dX12_as_10 (by decide) ?_
    refine w_bipush (v := 7) dX12_as_11 (by decide) ?_
    refine w_callS (as := [vI u, vI 0, vI 7]) (rest := []) (c_X12_within l G cy ad (d + 3) u 0 7 Mz hIz) kS_X12_within pnn_17 (Nat.le_of_ble_eq_true rfl) m_1427 rfl rfl (by decide) (Nat.le_of_ble_eq_true rfl) dX12_as_13 (fun r7_ M8_ q9_ => ?_)
    obtain ⟨rfl, h10_, hs11_⟩ := q9_
    rcases h10_ with ⟨rfl, h10_⟩ | ⟨rfl, h10_⟩
    · simp only [li_0, li_7] at h10_
      refine w_if_ne (tgt := 26) dX12_as_16 (by decide) li_1 (fun h12_ => ?_) (fun h9 => (absurd h9 (by decide)))
      refine w_aload_n dX12_as_26 rfl 0 rfl ?_
      refine w_iload_n dX12_as_27 rfl 1 rfl ?_
      refine w_callV (as := [vI v]) (rest := []) (c_X12_kindOf l G cy ad (d + 2) v Mz hIz h4_) kV_X12_kindOf pnn_17 (Nat.le_of_ble_eq_true rfl) m_1517 rfl rfl rfl ic_12 rfl rfl (by decide) (Nat.le_of_ble_eq_true rfl) dX12_as_28 (fun r13_ M14_ q15_ => ?_)
      obtain ⟨rfl, h16_, hs17_⟩ := q15_
      refine w_iload_n dX12_as_31 rfl 2 rfl ?_
      refine w_callS (as := [vI r13_, vI u]) (rest := []) (c_X12_isUnder l G cy ad (d + 2) r13_ u Mz hIz) kS_X12_isUnder pnn_17 (Nat.le_of_ble_eq_true rfl) m_1532 rfl rfl (by decide) (Nat.le_of_ble_eq_true rfl) dX12_as_32 (fun r18_ M19_ q20_ => ?_)
      obtain ⟨rfl, h21_, hs22_⟩ := q20_
      refine w_if_eq (tgt := 46) dX12_as_35 (by decide) (rfl : r18_.toInt = r18_.toInt) (fun h23_ => ?_) (fun h23_ => ?_)
      · refine w_aload_n dX12_as_46 rfl 0 rfl ?_
        refine w_ldc (v := (-1000005)) m_1476 dX12_as_47 ?_
        refine w_callV (as := [vI (-1000005)]) (rest := []) (c_X12_finding l G cy ad (d + 3) (-1000005) Mz hIz (by first | decide | (unfold vF; omega) | (unfold vRw; omega))) kV_X12_finding pnn_17 (Nat.le_of_ble_eq_true rfl) m_1434 rfl rfl rfl ic_12 rfl rfl (by decide) (Nat.le_of_ble_eq_true rfl) dX12_as_49 (fun r24_ M25_ q26_ => ?_)
        obtain ⟨hI28_, hF29_, h27_, hs31_⟩ := q26_
        have hF30_ := hFz.tr hF29_ (fun c k => (fun h => h.elim (fun h => (Or.inl ⟨h.1, h.2⟩)) (fun h => h.elim)))
        simp only [li_m1000005] at h27_
        exact w_iret rfl dX12_as_52 ⟨hI28_, hF30_, trivial, (Or.inl ⟨hs5_, h4_, (Or.inl ⟨hs11_, h10_, r13_, hs17_, h16_, r18_, hs22_, h21_, (Or.inl ⟨h23_, M25_, hI28_, hF29_, r24_, hs31_, h27_, rfl, rfl⟩)⟩)⟩)⟩
      · refine w_aload_n dX12_as_38 rfl 0 rfl ?_
        refine w_iload_n dX12_as_39 rfl 1 rfl ?_
        refine w_callV (as := [vI v]) (rest := []) (c_X12_reach l G cy ad d v Mz hIz h4_) kV_X12_reach pnn_17 (Nat.le_of_ble_eq_true rfl) m_1513 rfl rfl rfl ic_12 rfl rfl (by decide) (Nat.le_of_ble_eq_true rfl) dX12_as_40 (fun r32_ M33_ q34_ => ?_)
        obtain ⟨rfl, h35_, hs36_⟩ := q34_
        refine w_goto (tgt := 52) dX12_as_43 (by decide) ?_
        exact w_iret rfl dX12_as_52 ⟨hIz, hFz, trivial, (Or.inl ⟨hs5_, h4_, (Or.inl ⟨hs11_, h10_, r13_, hs17_, h16_, r18_, hs22_, h21_, (Or.inr ⟨h23_, r32_, hs36_, h35_, rfl, rfl⟩)⟩)⟩)⟩
    · simp only [li_0, li_7] at h10_
      refine w_if_ne (tgt := 26) dX12_as_16 (by decide) li_0 (fun h9 => (absurd h9 (by decide))) (fun h37_ => ?_)
      refine w_aload_n dX12_as_19 rfl 0 rfl ?_
      refine w_ldc (v := (-1000001)) m_1433 dX12_as_20 ?_
      refine w_callV (as := [vI (-1000001)]) (rest := []) (c_X12_finding l G cy ad (d + 3) (-1000001) Mz hIz (by first | decide | (unfold vF; omega) | (unfold vRw; omega))) kV_X12_finding pnn_17 (Nat.le_of_ble_eq_true rfl) m_1434 rfl rfl rfl ic_12 rfl rfl (by decide) (Nat.le_of_ble_eq_true rfl) dX12_as_22 (fun r38_ M39_ q40_ => ?_)
      obtain ⟨hI42_, hF43_, h41_, hs45_⟩ := q40_
      have hF44_ := hFz.tr hF43_ (fun c k => (fun h => h.elim (fun h => (Or.inl ⟨h.1, h.2⟩)) (fun h => h.elim)))
      simp only [li_m1000001] at h41_
      exact w_iret rfl dX12_as_25 ⟨hI42_, hF44_, trivial, (Or.inl ⟨hs5_, h4_, (Or.inr ⟨hs11_, h10_, M39_, hI42_, hF43_, r38_, hs45_, h41_, rfl, rfl⟩)⟩)⟩
  · refine w_if_eq (tgt := 19) dX12_as_6 (by decide) li_0 (fun h46_ => ?_) (fun h9 => (absurd h9 (by decide)))
    refine w_aload_n dX12_as_19 rfl 0 rfl ?_
    refine w_ldc (v := (-1000001)) m_1433 dX12_as_20 ?_
    refine w_callV (as := [vI (-1000001)]) (rest := []) (c_X12_finding l G cy ad (d + 3) (-1000001) Mz hIz (by first | decide | (unfold vF; omega) | (unfold vRw; omega))) kV_X12_finding pnn_17 (Nat.le_of_ble_eq_true rfl) m_1434 rfl rfl rfl ic_12 rfl rfl (by decide) (Nat.le_of_ble_eq_true rfl) dX12_as_22 (fun r47_ M48_ q49_ => ?_)
    obtain ⟨hI51_, hF52_, h50_, hs54_⟩ := q49_
    have hF53_ := hFz.tr hF52_ (fun c k => (fun h => h.elim (fun h => (Or.inl ⟨h.1, h.2⟩)) (fun h => h.elim)))
    simp only [li_m1000001] at h50_
    exact w_iret rfl dX12_as_25 ⟨hI51_, hF53_, trivial, (Or.inr ⟨hs5_, M48_, hI51_, hF52_, r47_, hs54_, h50_, rfl, rfl⟩)⟩
def S_c_X12_habit : rf → Nat → Prop := fun c k => (c.1 = 50 ∧ c.2.1 = 0) ∨ (c.1 = 53 ∧ c.2.1 = 0) ∨ False
def SP_X12_habit (v : Int32) (u : Int32) (t : Int32) (s : Int32) (Mz : mM) (r_ : Int32) (M_ : mM) : Prop := (((SP_is2 v Mz (1 : Int32)) ∧ (0 ≤ v.toInt ∧ v.toInt ≤ 7) ∧ (((SP_X12_within u 1 9 Mz (1 : Int32)) ∧ (1 ≤ u.toInt ∧ u.toInt ≤ 9) ∧ (((SP_X12_within t 1 99 Mz (1 : Int32)) ∧ (1 ≤ t.toInt ∧ t.toInt ≤ 99) ∧ (((SP_X12_within s 0 30 Mz (1 : Int32)) ∧ (0 ≤ s.toInt ∧ s.toInt ≤ 30) ∧ ∃ r25_ : Int32, (SP_X12_goer v Mz r25_) ∧ (r25_.toInt = 180 + 9 * v.toInt) ∧ ∃ z30_ : Int32, (z30_.toInt = r25_.toInt + 3) ∧ ∃ j34_ : Nat, ((j34_ : Int) = z30_.toInt) ∧ ∃ M32_ : mM, (M32_ = up Mz (50, 0, 0) j34_ u) ∧ (InvD M32_) ∧ ∃ r38_ : Int32, (SP_X12_goer v M32_ r38_) ∧ (r38_.toInt = 180 + 9 * v.toInt) ∧ ∃ z43_ : Int32, (z43_.toInt = r38_.toInt + 4) ∧ ∃ j47_ : Nat, ((j47_ : Int) = z43_.toInt) ∧ ∃ M45_ : mM, (M45_ = up M32_ (50, 0, 0) j47_ t) ∧ (InvD M45_) ∧ ∃ r51_ : Int32, (SP_X12_goer v M45_ r51_) ∧ (r51_.toInt = 180 + 9 * v.toInt) ∧ ∃ z56_ : Int32, (z56_.toInt = r51_.toInt + 5) ∧ ∃ j60_ : Nat, ((j60_ : Int) = z56_.toInt) ∧ ∃ M58_ : mM, (M58_ = up M45_ (50, 0, 0) j60_ s) ∧ r_ = 1 ∧ M_ = M58_) ∨ ((SP_X12_within s 0 30 Mz (0 : Int32)) ∧ (¬ (0 ≤ s.toInt ∧ s.toInt ≤ 30)) ∧ ∃ M66_ : mM, (InvD M66_) ∧ (FR (S_c_X12_finding) Mz M66_) ∧ ∃ r65_ : Int32, (SP_X12_finding (-1000001) Mz r65_ M66_) ∧ (r65_.toInt = (-1000001)) ∧ r_ = r65_ ∧ M_ = M66_))) ∨ ((SP_X12_within t 1 99 Mz (0 : Int32)) ∧ (¬ (1 ≤ t.toInt ∧ t.toInt ≤ 99)) ∧ ∃ M75_ : mM, (InvD M75_) ∧ (FR (S_c_X12_finding) Mz M75_) ∧ ∃ r74_ : Int32, (SP_X12_finding (-1000001) Mz r74_ M75_) ∧ (r74_.toInt = (-1000001)) ∧ r_ = r74_ ∧ M_ = M75_))) ∨ ((SP_X12_within u 1 9 Mz (0 : Int32)) ∧ (¬ (1 ≤ u.toInt ∧ u.toInt ≤ 9)) ∧ ∃ M84_ : mM, (InvD M84_) ∧ (FR (S_c_X12_finding) Mz M84_) ∧ ∃ r83_ : Int32, (SP_X12_finding (-1000001) Mz r83_ M84_) ∧ (r83_.toInt = (-1000001)) ∧ r_ = r83_ ∧ M_ = M84_))) ∨ ((SP_is2 v Mz (0 : Int32)) ∧ ∃ M93_ : mM, (InvD M93_) ∧ (FR (S_c_X12_finding) Mz M93_) ∧ ∃ r92_ : Int32, (SP_X12_finding (-1000001) Mz r92_ M93_) ∧ (r92_.toInt = (-1000001)) ∧ r_ = r92_ ∧ M_ = M93_))
theorem lf_c_X12_habit_0 (v : Int32) (r25_ : Int32) (h4_ : 0 ≤ v.toInt ∧ v.toInt ≤ 7) (h28_ : r25_.toInt = 180 + 9 * v.toInt) : -2147483648 ≤ r25_.toInt + 3 ∧ r25_.toInt + 3 < 2147483648 := by omega
theorem lf_c_X12_habit_1 (v : Int32) (r25_ : Int32) (z30_ : Int32) (h4_ : 0 ≤ v.toInt ∧ v.toInt ≤ 7) (h28_ : r25_.toInt = 180 + 9 * v.toInt) (h31_ : z30_.toInt = r25_.toInt + 3) : 0 ≤ z30_.toInt ∧ z30_.toInt < ((3567 : Nat) : Int) := by omega
theorem lf_c_X12_habit_2 (M32_ : mM) (Mz : mM) (v : Int32) (u : Int32) (r25_ : Int32) (z30_ : Int32) (j34_ : Nat) (h4_ : 0 ≤ v.toInt ∧ v.toInt ≤ 7) (h10_ : 1 ≤ u.toInt ∧ u.toInt ≤ 9) (h28_ : r25_.toInt = 180 + 9 * v.toInt) (h31_ : z30_.toInt = r25_.toInt + 3) (h35_ : (j34_ : Int) = z30_.toInt) (hM33_ : M32_ = up Mz (50, 0, 0) j34_ u) : PN j34_ u ∧ (j34_ < 345 ∨ 493 < j34_) := by have r_v := rngI v; have r_u := rngI u; have r_r25_ := rngI r25_; have r_z30_ := rngI z30_; unfold PN; omega
theorem lf_c_X12_habit_3 (v : Int32) (r25_ : Int32) (z30_ : Int32) (j34_ : Nat) (r38_ : Int32) (h4_ : 0 ≤ v.toInt ∧ v.toInt ≤ 7) (h28_ : r25_.toInt = 180 + 9 * v.toInt) (h31_ : z30_.toInt = r25_.toInt + 3) (h35_ : (j34_ : Int) = z30_.toInt) (h41_ : r38_.toInt = 180 + 9 * v.toInt) : -2147483648 ≤ r38_.toInt + 4 ∧ r38_.toInt + 4 < 2147483648 := by omega
theorem lf_c_X12_habit_4 (v : Int32) (r38_ : Int32) (z43_ : Int32) (h4_ : 0 ≤ v.toInt ∧ v.toInt ≤ 7) (h41_ : r38_.toInt = 180 + 9 * v.toInt) (h44_ : z43_.toInt = r38_.toInt + 4) : 0 ≤ z43_.toInt ∧ z43_.toInt < ((3567 : Nat) : Int) := by omega
theorem lf_c_X12_habit_5 (M32_ : mM) (M45_ : mM) (Mz : mM) (v : Int32) (u : Int32) (t : Int32) (r25_ : Int32) (z30_ : Int32) (j34_ : Nat) (r38_ : Int32) (z43_ : Int32) (j47_ : Nat) (h4_ : 0 ≤ v.toInt ∧ v.toInt ≤ 7) (h10_ : 1 ≤ u.toInt ∧ u.toInt ≤ 9) (h16_ : 1 ≤ t.toInt ∧ t.toInt ≤ 99) (h28_ : r25_.toInt = 180 + 9 * v.toInt) (h31_ : z30_.toInt = r25_.toInt + 3) (h35_ : (j34_ : Int) = z30_.toInt) (hM33_ : M32_ = up Mz (50, 0, 0) j34_ u) (h41_ : r38_.toInt = 180 + 9 * v.toInt) (h44_ : z43_.toInt = r38_.toInt + 4) (h48_ : (j47_ : Int) = z43_.toInt) (hM46_ : M45_ = up M32_ (50, 0, 0) j47_ t) : PN j47_ t ∧ (j47_ < 345 ∨ 493 < j47_) := by have r_v := rngI v; have r_u := rngI u; have r_t := rngI t; have r_r25_ := rngI r25_; have r_z30_ := rngI z30_; have r_r38_ := rngI r38_; have r_z43_ := rngI z43_; unfold PN; omega
theorem lf_c_X12_habit_6 (v : Int32) (r25_ : Int32) (z30_ : Int32) (j34_ : Nat) (r51_ : Int32) (h4_ : 0 ≤ v.toInt ∧ v.toInt ≤ 7) (h28_ : r25_.toInt = 180 + 9 * v.toInt) (h31_ : z30_.toInt = r25_.toInt + 3) (h35_ : (j34_ : Int) = z30_.toInt) (h54_ : r51_.toInt = 180 + 9 * v.toInt) : -2147483648 ≤ r51_.toInt + 5 ∧ r51_.toInt + 5 < 2147483648 := by omega
theorem lf_c_X12_habit_7 (v : Int32) (r51_ : Int32) (z56_ : Int32) (h4_ : 0 ≤ v.toInt ∧ v.toInt ≤ 7) (h54_ : r51_.toInt = 180 + 9 * v.toInt) (h57_ : z56_.toInt = r51_.toInt + 5) : 0 ≤ z56_.toInt ∧ z56_.toInt < ((3567 : Nat) : Int) := by omega
theorem lf_c_X12_habit_8 (M32_ : mM) (M45_ : mM) (M58_ : mM) (Mz : mM) (v : Int32) (u : Int32) (t : Int32) (s : Int32) (r25_ : Int32) (z30_ : Int32) (j34_ : Nat) (r38_ : Int32) (z43_ : Int32) (j47_ : Nat) (r51_ : Int32) (z56_ : Int32) (j60_ : Nat) (h4_ : 0 ≤ v.toInt ∧ v.toInt ≤ 7) (h10_ : 1 ≤ u.toInt ∧ u.toInt ≤ 9) (h16_ : 1 ≤ t.toInt ∧ t.toInt ≤ 99) (h22_ : 0 ≤ s.toInt ∧ s.toInt ≤ 30) (h28_ : r25_.toInt = 180 + 9 * v.toInt) (h31_ : z30_.toInt = r25_.toInt + 3) (h35_ : (j34_ : Int) = z30_.toInt) (hM33_ : M32_ = up Mz (50, 0, 0) j34_ u) (h41_ : r38_.toInt = 180 + 9 * v.toInt) (h44_ : z43_.toInt = r38_.toInt + 4) (h48_ : (j47_ : Int) = z43_.toInt) (hM46_ : M45_ = up M32_ (50, 0, 0) j47_ t) (h54_ : r51_.toInt = 180 + 9 * v.toInt) (h57_ : z56_.toInt = r51_.toInt + 5) (h61_ : (j60_ : Int) = z56_.toInt) (hM59_ : M58_ = up M45_ (50, 0, 0) j60_ s) : PN j60_ s ∧ (j60_ < 345 ∨ 493 < j60_) := by have r_v := rngI v; have r_u := rngI u; have r_t := rngI t; have r_s := rngI s; have r_r25_ := rngI r25_; have r_z30_ := rngI z30_; have r_r38_ := rngI r38_; have r_z43_ := rngI z43_; have r_r51_ := rngI r51_; have r_z56_ := rngI z56_; unfold PN; omega
set_option maxHeartbeats 4000000 in
set_option maxRecDepth 100000 in
theorem c_X12_habit (l : Launch) (G : va_G) (cy : Nat → ClassId) (ad : rf → Nat) (d : Nat) (v : Int32) (u : Int32) (t : Int32) (s : Int32) (Mz : mM) (hIz : InvD Mz) : WP DD l G cy ad yX12_habit cX12_habit 5 (some .int) (d + 2) 0 [(0, vR (12, 0, 0)), (1, vI v), (2, vI u), (3, vI t), (4, vI s)] [] Mz (fun r M' => InvD M' ∧ FR (S_c_X12_habit) Mz M' ∧ (True) ∧ SP_X12_habit v u t s Mz r M') := by
  have hFz : FR (S_c_X12_habit) Mz Mz := FR.self
  refine w_aload_n dX12_habit_0 rfl 0 rfl ?_
  refine w_iload_n dX12_habit_1 rfl 1 rfl ?_
  refine w_iconst (v := 2) dX12_habit_2 (by decide) ?_
  refine w_callV (as := [vI v, vI 2]) (rest := []) (c_is2 l G cy ad d v Mz hIz) kV_X12_is pnn_17 (Nat.le_of_ble_eq_true rfl) m_1465 rfl rfl rfl ic_12 rfl rfl (by decide) (Nat.le_of_ble_eq_true rfl) dX12_habit_3 (fun r1_ M2_ q3_ => ?_)
  obtain ⟨rfl, h4_, hs5_⟩ := q3_
  rcases h4_ with ⟨rfl, h4_⟩ | rfl
  · refine w_if_eq (tgt := 40) dX12_habit_6 (by decide) li_1 (fun h9 => (absurd h9 (by decide))) (fun h6_ => ?_)
    refine w_iload_n dX12_habit_9 rfl 2 rfl ?_
    refine w_iconst (v := 1) dX12_habit_10 (by decide) ?_
    refine w_bipush (v := 9) dX12_habit_11 (by decide) ?_
    refine w_callS (as := [vI u, vI 1, vI 9]) (rest := []) (c_X12_within l G cy ad (d + 1) u 1 9 Mz hIz) kS_X12_within pnn_17 (Nat.le_of_ble_eq_true rfl) m_1427 rfl rfl (by decide) (Nat.le_of_ble_eq_true rfl) dX12_habit_13 (fun r7_ M8_ q9_ => ?_)
    obtain ⟨rfl, h10_, hs11_⟩ := q9_
    rcases h10_ with ⟨rfl, h10_⟩ | ⟨rfl, h10_⟩
    · simp only [li_1, li_9] at h10_
      refine w_if_eq (tgt := 40) dX12_habit_16 (by decide) li_1 (fun h9 => (absurd h9 (by decide))) (fun h12_ => ?_)
      refine w_iload_n dX12_habit_19 rfl 3 rfl ?_
      refine w_iconst (v := 1) dX12_habit_20 (by decide) ?_
      refine w_bipush (v := 99) dX12_habit_21 (by decide) ?_
      refine w_callS (as := [vI t, vI 1, vI 99]) (rest := []) (c_X12_within l G cy ad (d + 1) t 1 99 Mz hIz) kS_X12_within pnn_17 (Nat.le_of_ble_eq_true rfl) m_1427 rfl rfl (by decide) (Nat.le_of_ble_eq_true rfl) dX12_habit_23 (fun r13_ M14_ q15_ => ?_)
      obtain ⟨rfl, h16_, hs17_⟩ := q15_
      rcases h16_ with ⟨rfl, h16_⟩ | ⟨rfl, h16_⟩
      · simp only [li_1, li_99] at h16_
        refine w_if_eq (tgt := 40) dX12_habit_26 (by decide) li_1 (fun h9 => (absurd h9 (by decide))) (fun h18_ => ?_)
        refine w_iload dX12_habit_29 4 rfl ?_
        refine w_iconst (v := 0) dX12_habit_31 (by decide) ?_
        refine w_bipush (v := 30) dX12_habit_32 (by decide) ?_
        refine w_callS (as := [vI s, vI 0, vI 30]) (rest := []) (c_X12_within l G cy ad (d + 1) s 0 30 Mz hIz) kS_X12_within pnn_17 (Nat.le_of_ble_eq_true rfl) m_1427 rfl rfl (by decide) (Nat.le_of_ble_eq_true rfl) dX12_habit_34 (fun r19_ M20_ q21_ => ?_)
        obtain ⟨rfl, h22_, hs23_⟩ := q21_
        rcases h22_ with ⟨rfl, h22_⟩ | ⟨rfl, h22_⟩
        · simp only [li_0, li_30] at h22_
          refine w_if_ne (tgt := 47) dX12_habit_37 (by decide) li_1 (fun h24_ => ?_) (fun h9 => (absurd h9 (by decide)))
          refine w_aload_n dX12_habit_47 rfl 0 rfl ?_
          refine w_getR (c' := (50, 0, 0)) fl_RX12_9 rfl rfl ic_12 dX12_habit_48 rfl ?_
          refine w_aload_n dX12_habit_51 rfl 0 rfl ?_
          refine w_iload_n dX12_habit_52 rfl 1 rfl ?_
          refine w_callV (as := [vI v]) (rest := [vR (50, 0, 0)]) (c_X12_goer l G cy ad (d + 1) v Mz hIz h4_) kV_X12_goer pnn_17 (Nat.le_of_ble_eq_true rfl) m_1451 rfl rfl rfl ic_12 rfl rfl (by decide) (Nat.le_of_ble_eq_true rfl) dX12_habit_53 (fun r25_ M26_ q27_ => ?_)
          obtain ⟨rfl, h28_, hs29_⟩ := q27_
          refine w_iconst (v := 3) dX12_habit_56 (by decide) ?_
          refine w_iaddB dX12_habit_57 (rfl : r25_.toInt = r25_.toInt) li_3 (lf_c_X12_habit_0 v r25_ h4_ h28_ ) (fun z30_ h31_ => ?_)
          refine w_iload_n dX12_habit_58 rfl 2 rfl ?_
          refine w_iast DD_nd rfl rfl ic_50 (rfl : z30_.toInt = z30_.toInt) (lf_c_X12_habit_1 v r25_ z30_ h4_ h28_ h31_ ) dX12_habit_59 (fun j34_ h35_ M32_ hM33_ => ?_)
          have hI36_ := hIz.put50 hM33_ (lf_c_X12_habit_2 M32_ Mz v u r25_ z30_ j34_ h4_ h10_ h28_ h31_ h35_ hM33_ )
          have hF37_ := hFz.put hM33_ (Or.inl ⟨rfl, rfl⟩)
          refine w_aload_n dX12_habit_60 rfl 0 rfl ?_
          refine w_getR (c' := (50, 0, 0)) fl_RX12_9 rfl rfl ic_12 dX12_habit_61 rfl ?_
          refine w_aload_n dX12_habit_64 rfl 0 rfl ?_
          refine w_iload_n dX12_habit_65 rfl 1 rfl ?_
          refine w_callV (as := [vI v]) (rest := [vR (50, 0, 0)]) (c_X12_goer l G cy ad (d + 1) v M32_ hI36_ h4_) kV_X12_goer pnn_17 (Nat.le_of_ble_eq_true rfl) m_1451 rfl rfl rfl ic_12 rfl rfl (by decide) (Nat.le_of_ble_eq_true rfl) dX12_habit_66 (fun r38_ M39_ q40_ => ?_)
          obtain ⟨rfl, h41_, hs42_⟩ := q40_
          refine w_iconst (v := 4) dX12_habit_69 (by decide) ?_
          refine w_iaddB dX12_habit_70 (rfl : r38_.toInt = r38_.toInt) li_4 (lf_c_X12_habit_3 v r25_ z30_ j34_ r38_ h4_ h28_ h31_ h35_ h41_ ) (fun z43_ h44_ => ?_)
          refine w_iload_n dX12_habit_71 rfl 3 rfl ?_
          refine w_iast DD_nd rfl rfl ic_50 (rfl : z43_.toInt = z43_.toInt) (lf_c_X12_habit_4 v r38_ z43_ h4_ h41_ h44_ ) dX12_habit_72 (fun j47_ h48_ M45_ hM46_ => ?_)
          have hI49_ := hI36_.put50 hM46_ (lf_c_X12_habit_5 M32_ M45_ Mz v u t r25_ z30_ j34_ r38_ z43_ j47_ h4_ h10_ h16_ h28_ h31_ h35_ hM33_ h41_ h44_ h48_ hM46_ )
          have hF50_ := hF37_.put hM46_ (Or.inl ⟨rfl, rfl⟩)
          refine w_aload_n dX12_habit_73 rfl 0 rfl ?_
          refine w_getR (c' := (50, 0, 0)) fl_RX12_9 rfl rfl ic_12 dX12_habit_74 rfl ?_
          refine w_aload_n dX12_habit_77 rfl 0 rfl ?_
          refine w_iload_n dX12_habit_78 rfl 1 rfl ?_
          refine w_callV (as := [vI v]) (rest := [vR (50, 0, 0)]) (c_X12_goer l G cy ad (d + 1) v M45_ hI49_ h4_) kV_X12_goer pnn_17 (Nat.le_of_ble_eq_true rfl) m_1451 rfl rfl rfl ic_12 rfl rfl (by decide) (Nat.le_of_ble_eq_true rfl) dX12_habit_79 (fun r51_ M52_ q53_ => ?_)
          obtain ⟨rfl, h54_, hs55_⟩ := q53_
          refine w_iconst (v := 5) dX12_habit_82 (by decide) ?_
          refine w_iaddB dX12_habit_83 (rfl : r51_.toInt = r51_.toInt) li_5 (lf_c_X12_habit_6 v r25_ z30_ j34_ r51_ h4_ h28_ h31_ h35_ h54_ ) (fun z56_ h57_ => ?_)
          refine w_iload dX12_habit_84 4 rfl ?_
          refine w_iast DD_nd rfl rfl ic_50 (rfl : z56_.toInt = z56_.toInt) (lf_c_X12_habit_7 v r51_ z56_ h4_ h54_ h57_ ) dX12_habit_86 (fun j60_ h61_ M58_ hM59_ => ?_)
          have hI62_ := hI49_.put50 hM59_ (lf_c_X12_habit_8 M32_ M45_ M58_ Mz v u t s r25_ z30_ j34_ r38_ z43_ j47_ r51_ z56_ j60_ h4_ h10_ h16_ h22_ h28_ h31_ h35_ hM33_ h41_ h44_ h48_ hM46_ h54_ h57_ h61_ hM59_ )
          have hF63_ := hF50_.put hM59_ (Or.inl ⟨rfl, rfl⟩)
          refine w_iconst (v := 1) dX12_habit_87 (by decide) ?_
          exact w_iret rfl dX12_habit_88 ⟨hI62_, hF63_, trivial, (Or.inl ⟨hs5_, h4_, (Or.inl ⟨hs11_, h10_, (Or.inl ⟨hs17_, h16_, (Or.inl ⟨hs23_, h22_, r25_, hs29_, h28_, z30_, h31_, j34_, h35_, M32_, hM33_, hI36_, r38_, hs42_, h41_, z43_, h44_, j47_, h48_, M45_, hM46_, hI49_, r51_, hs55_, h54_, z56_, h57_, j60_, h61_, M58_, hM59_, rfl, rfl⟩)⟩)⟩)⟩)⟩
        · simp only [li_0, li_30] at h22_
          refine w_if_ne (tgt := 47) dX12_habit_37 (by decide) li_0 (fun h9 => (absurd h9 (by decide))) (fun h64_ => ?_)
          refine w_aload_n dX12_habit_40 rfl 0 rfl ?_
          refine w_ldc (v := (-1000001)) m_1433 dX12_habit_41 ?_
          refine w_callV (as := [vI (-1000001)]) (rest := []) (c_X12_finding l G cy ad (d + 1) (-1000001) Mz hIz (by first | decide | (unfold vF; omega) | (unfold vRw; omega))) kV_X12_finding pnn_17 (Nat.le_of_ble_eq_true rfl) m_1434 rfl rfl rfl ic_12 rfl rfl (by decide) (Nat.le_of_ble_eq_true rfl) dX12_habit_43 (fun r65_ M66_ q67_ => ?_)
          obtain ⟨hI69_, hF70_, h68_, hs72_⟩ := q67_
          have hF71_ := hFz.tr hF70_ (fun c k => (fun h => h.elim (fun h => (Or.inr (Or.inl ⟨h.1, h.2⟩))) (fun h => h.elim)))
          simp only [li_m1000001] at h68_
          exact w_iret rfl dX12_habit_46 ⟨hI69_, hF71_, trivial, (Or.inl ⟨hs5_, h4_, (Or.inl ⟨hs11_, h10_, (Or.inl ⟨hs17_, h16_, (Or.inr ⟨hs23_, h22_, M66_, hI69_, hF70_, r65_, hs72_, h68_, rfl, rfl⟩)⟩)⟩)⟩)⟩
      · simp only [li_1, li_99] at h16_
        refine w_if_eq (tgt := 40) dX12_habit_26 (by decide) li_0 (fun h73_ => ?_) (fun h9 => (absurd h9 (by decide)))
        refine w_aload_n dX12_habit_40 rfl 0 rfl ?_
        refine w_ldc (v := (-1000001)) m_1433 dX12_habit_41 ?_
        refine w_callV (as := [vI (-1000001)]) (rest := []) (c_X12_finding l G cy ad (d + 1) (-1000001) Mz hIz (by first | decide | (unfold vF; omega) | (unfold vRw; omega))) kV_X12_finding pnn_17 (Nat.le_of_ble_eq_true rfl) m_1434 rfl rfl rfl ic_12 rfl rfl (by decide) (Nat.le_of_ble_eq_true rfl) dX12_habit_43 (fun r74_ M75_ q76_ => ?_)
        obtain ⟨hI78_, hF79_, h77_, hs81_⟩ := q76_
        have hF80_ := hFz.tr hF79_ (fun c k => (fun h => h.elim (fun h => (Or.inr (Or.inl ⟨h.1, h.2⟩))) (fun h => h.elim)))
        simp only [li_m1000001] at h77_
        exact w_iret rfl dX12_habit_46 ⟨hI78_, hF80_, trivial, (Or.inl ⟨hs5_, h4_, (Or.inl ⟨hs11_, h10_, (Or.inr ⟨hs17_, h16_, M75_, hI78_, hF79_, r74_, hs81_, h77_, rfl, rfl⟩)⟩)⟩)⟩
    · simp only [li_1, li_9] at h10_
      refine w_if_eq (tgt := 40) dX12_habit_16 (by decide) li_0 (fun h82_ => ?_) (fun h9 => (absurd h9 (by decide)))
      refine w_aload_n dX12_habit_40 rfl 0 rfl ?_
      refine w_ldc (v := (-1000001)) m_1433 dX12_habit_41 ?_
      refine w_callV (as := [vI (-1000001)]) (rest := []) (c_X12_finding l G cy ad (d + 1) (-1000001) Mz hIz (by first | decide | (unfold vF; omega) | (unfold vRw; omega))) kV_X12_finding pnn_17 (Nat.le_of_ble_eq_true rfl) m_1434 rfl rfl rfl ic_12 rfl rfl (by decide) (Nat.le_of_ble_eq_true rfl) dX12_habit_43 (fun r83_ M84_ q85_ => ?_)
      obtain ⟨hI87_, hF88_, h86_, hs90_⟩ := q85_
      have hF89_ := hFz.tr hF88_ (fun c k => (fun h => h.elim (fun h => (Or.inr (Or.inl ⟨h.1, h.2⟩))) (fun h => h.elim)))
      simp only [li_m1000001] at h86_
      exact w_iret rfl dX12_habit_46 ⟨hI87_, hF89_, trivial, (Or.inl ⟨hs5_, h4_, (Or.inr ⟨hs11_, h10_, M84_, hI87_, hF88_, r83_, hs90_, h86_, rfl, rfl⟩)⟩)⟩
  · refine w_if_eq (tgt := 40) dX12_habit_6 (by decide) li_0 (fun h91_ => ?_) (fun h9 => (absurd h9 (by decide)))
    refine w_aload_n dX12_habit_40 rfl 0 rfl ?_
    refine w_ldc (v := (-1000001)) m_1433 dX12_habit_41 ?_
    refine w_callV (as := [vI (-1000001)]) (rest := []) (c_X12_finding l G cy ad (d + 1) (-1000001) Mz hIz (by first | decide | (unfold vF; omega) | (unfold vRw; omega))) kV_X12_finding pnn_17 (Nat.le_of_ble_eq_true rfl) m_1434 rfl rfl rfl ic_12 rfl rfl (by decide) (Nat.le_of_ble_eq_true rfl) dX12_habit_43 (fun r92_ M93_ q94_ => ?_)
    obtain ⟨hI96_, hF97_, h95_, hs99_⟩ := q94_
    have hF98_ := hFz.tr hF97_ (fun c k => (fun h => h.elim (fun h => (Or.inr (Or.inl ⟨h.1, h.2⟩))) (fun h => h.elim)))
    simp only [li_m1000001] at h95_
    exact w_iret rfl dX12_habit_46 ⟨hI96_, hF98_, trivial, (Or.inr ⟨hs5_, M93_, hI96_, hF97_, r92_, hs99_, h95_, rfl, rfl⟩)⟩
def S_c_X12_face : rf → Nat → Prop := fun c k => (c.1 = 50 ∧ c.2.1 = 0) ∨ (c.1 = 53 ∧ c.2.1 = 0) ∨ False
def SP_X12_face (v : Int32) (u : Int32) (Mz : mM) (r_ : Int32) (M_ : mM) : Prop := (((SP_is2 v Mz (1 : Int32)) ∧ (0 ≤ v.toInt ∧ v.toInt ≤ 7) ∧ (((SP_X12_isSide u Mz (1 : Int32)) ∧ (0 ≤ u.toInt ∧ u.toInt ≤ 7) ∧ ∃ r13_ : Int32, (SP_X12_goer v Mz r13_) ∧ (r13_.toInt = 180 + 9 * v.toInt) ∧ ∃ z18_ : Int32, (z18_.toInt = r13_.toInt + 2) ∧ ∃ M21_ : mM, (InvD M21_) ∧ (FR (S_c_X12_become) Mz M21_) ∧ ∃ r20_ : Int32, (SP_X12_become z18_ u Mz r20_ M21_) ∧ r_ = r20_ ∧ M_ = M21_) ∨ ((SP_X12_isSide u Mz (0 : Int32)) ∧ (¬ (0 ≤ u.toInt ∧ u.toInt ≤ 7)) ∧ ∃ M30_ : mM, (InvD M30_) ∧ (FR (S_c_X12_finding) Mz M30_) ∧ ∃ r29_ : Int32, (SP_X12_finding (-1000001) Mz r29_ M30_) ∧ (r29_.toInt = (-1000001)) ∧ r_ = r29_ ∧ M_ = M30_))) ∨ ((SP_is2 v Mz (0 : Int32)) ∧ ∃ M39_ : mM, (InvD M39_) ∧ (FR (S_c_X12_finding) Mz M39_) ∧ ∃ r38_ : Int32, (SP_X12_finding (-1000001) Mz r38_ M39_) ∧ (r38_.toInt = (-1000001)) ∧ r_ = r38_ ∧ M_ = M39_))
theorem lf_c_X12_face_0 (v : Int32) (r13_ : Int32) (h4_ : 0 ≤ v.toInt ∧ v.toInt ≤ 7) (h16_ : r13_.toInt = 180 + 9 * v.toInt) : -2147483648 ≤ r13_.toInt + 2 ∧ r13_.toInt + 2 < 2147483648 := by omega
theorem lf_c_X12_face_1 (v : Int32) (u : Int32) (r13_ : Int32) (z18_ : Int32) (h4_ : 0 ≤ v.toInt ∧ v.toInt ≤ 7) (h10_ : 0 ≤ u.toInt ∧ u.toInt ≤ 7) (h16_ : r13_.toInt = 180 + 9 * v.toInt) (h19_ : z18_.toInt = r13_.toInt + 2) : PN z18_.toInt.toNat u ∧ (z18_.toInt.toNat < 345 ∨ 493 < z18_.toInt.toNat) := by have r_v := rngI v; have r_u := rngI u; have r_r13_ := rngI r13_; have r_z18_ := rngI z18_; unfold PN; omega
theorem lf_c_X12_face_2 (v : Int32) (r13_ : Int32) (z18_ : Int32) (h4_ : 0 ≤ v.toInt ∧ v.toInt ≤ 7) (h16_ : r13_.toInt = 180 + 9 * v.toInt) (h19_ : z18_.toInt = r13_.toInt + 2) : 0 ≤ z18_.toInt ∧ z18_.toInt ≤ 3566 := by omega
set_option maxHeartbeats 4000000 in
set_option maxRecDepth 100000 in
theorem c_X12_face (l : Launch) (G : va_G) (cy : Nat → ClassId) (ad : rf → Nat) (d : Nat) (v : Int32) (u : Int32) (Mz : mM) (hIz : InvD Mz) : WP DD l G cy ad yX12_face cX12_face 3 (some .int) (d + 2) 0 [(0, vR (12, 0, 0)), (1, vI v), (2, vI u)] [] Mz (fun r M' => InvD M' ∧ FR (S_c_X12_face) Mz M' ∧ (True) ∧ SP_X12_face v u Mz r M') := by
  have hFz : FR (S_c_X12_face) Mz Mz := FR.self
  refine w_aload_n dX12_face_0 rfl 0 rfl ?_
  refine w_iload_n dX12_face_1 rfl 1 rfl ?_
  refine w_iconst (v := 2) dX12_face_2 (by decide) ?_
  refine w_callV (as := [vI v, vI 2]) (rest := []) (c_is2 l G cy ad d v Mz hIz) kV_X12_is pnn_17 (Nat.le_of_ble_eq_true rfl) m_1465 rfl rfl rfl ic_12 rfl rfl (by decide) (Nat.le_of_ble_eq_true rfl) dX12_face_3 (fun r1_ M2_ q3_ => ?_)
  obtain ⟨rfl, h4_, hs5_⟩ := q3_
  rcases h4_ with ⟨rfl, h4_⟩ | rfl
  · refine w_if_eq (tgt := 31) dX12_face_6 (by decide) li_1 (fun h9 => (absurd h9 (by decide))) (fun h6_ => ?_)
    refine w_iload_n dX12_face_9 rfl 2 rfl ?_
    refine w_callS (as := [vI u]) (rest := []) (c_X12_isSide l G cy ad d u Mz hIz) kS_X12_isSide pnn_17 (Nat.le_of_ble_eq_true rfl) m_1473 rfl rfl (by decide) (Nat.le_of_ble_eq_true rfl) dX12_face_10 (fun r7_ M8_ q9_ => ?_)
    obtain ⟨rfl, h10_, hs11_⟩ := q9_
    rcases h10_ with ⟨rfl, h10_⟩ | ⟨rfl, h10_⟩
    · refine w_if_eq (tgt := 31) dX12_face_13 (by decide) li_1 (fun h9 => (absurd h9 (by decide))) (fun h12_ => ?_)
      refine w_aload_n dX12_face_16 rfl 0 rfl ?_
      refine w_aload_n dX12_face_17 rfl 0 rfl ?_
      refine w_iload_n dX12_face_18 rfl 1 rfl ?_
      refine w_callV (as := [vI v]) (rest := [vR (12, 0, 0)]) (c_X12_goer l G cy ad (d + 1) v Mz hIz h4_) kV_X12_goer pnn_17 (Nat.le_of_ble_eq_true rfl) m_1451 rfl rfl rfl ic_12 rfl rfl (by decide) (Nat.le_of_ble_eq_true rfl) dX12_face_19 (fun r13_ M14_ q15_ => ?_)
      obtain ⟨rfl, h16_, hs17_⟩ := q15_
      refine w_iconst (v := 2) dX12_face_22 (by decide) ?_
      refine w_iaddB dX12_face_23 (rfl : r13_.toInt = r13_.toInt) li_2 (lf_c_X12_face_0 v r13_ h4_ h16_ ) (fun z18_ h19_ => ?_)
      refine w_iload_n dX12_face_24 rfl 2 rfl ?_
      refine w_callV (as := [vI z18_, vI u]) (rest := []) (c_X12_become l G cy ad (d + 1) z18_ u Mz hIz (lf_c_X12_face_1 v u r13_ z18_ h4_ h10_ h16_ h19_ ) (lf_c_X12_face_2 v r13_ z18_ h4_ h16_ h19_ )) kV_X12_become pnn_17 (Nat.le_of_ble_eq_true rfl) m_1481 rfl rfl rfl ic_12 rfl rfl (by decide) (Nat.le_of_ble_eq_true rfl) dX12_face_25 (fun r20_ M21_ q22_ => ?_)
      obtain ⟨hI24_, hF25_, h23_, hs27_⟩ := q22_
      have hF26_ := hFz.tr hF25_ (fun c k => (fun h => h.elim (fun h => (Or.inl ⟨h.1, h.2⟩)) (fun h => h.elim)))
      refine w_goto (tgt := 37) dX12_face_28 (by decide) ?_
      exact w_iret rfl dX12_face_37 ⟨hI24_, hF26_, trivial, (Or.inl ⟨hs5_, h4_, (Or.inl ⟨hs11_, h10_, r13_, hs17_, h16_, z18_, h19_, M21_, hI24_, hF25_, r20_, hs27_, rfl, rfl⟩)⟩)⟩
    · refine w_if_eq (tgt := 31) dX12_face_13 (by decide) li_0 (fun h28_ => ?_) (fun h9 => (absurd h9 (by decide)))
      refine w_aload_n dX12_face_31 rfl 0 rfl ?_
      refine w_ldc (v := (-1000001)) m_1433 dX12_face_32 ?_
      refine w_callV (as := [vI (-1000001)]) (rest := []) (c_X12_finding l G cy ad (d + 1) (-1000001) Mz hIz (by first | decide | (unfold vF; omega) | (unfold vRw; omega))) kV_X12_finding pnn_17 (Nat.le_of_ble_eq_true rfl) m_1434 rfl rfl rfl ic_12 rfl rfl (by decide) (Nat.le_of_ble_eq_true rfl) dX12_face_34 (fun r29_ M30_ q31_ => ?_)
      obtain ⟨hI33_, hF34_, h32_, hs36_⟩ := q31_
      have hF35_ := hFz.tr hF34_ (fun c k => (fun h => h.elim (fun h => (Or.inr (Or.inl ⟨h.1, h.2⟩))) (fun h => h.elim)))
      simp only [li_m1000001] at h32_
      exact w_iret rfl dX12_face_37 ⟨hI33_, hF35_, trivial, (Or.inl ⟨hs5_, h4_, (Or.inr ⟨hs11_, h10_, M30_, hI33_, hF34_, r29_, hs36_, h32_, rfl, rfl⟩)⟩)⟩
  · refine w_if_eq (tgt := 31) dX12_face_6 (by decide) li_0 (fun h37_ => ?_) (fun h9 => (absurd h9 (by decide)))
    refine w_aload_n dX12_face_31 rfl 0 rfl ?_
    refine w_ldc (v := (-1000001)) m_1433 dX12_face_32 ?_
    refine w_callV (as := [vI (-1000001)]) (rest := []) (c_X12_finding l G cy ad (d + 1) (-1000001) Mz hIz (by first | decide | (unfold vF; omega) | (unfold vRw; omega))) kV_X12_finding pnn_17 (Nat.le_of_ble_eq_true rfl) m_1434 rfl rfl rfl ic_12 rfl rfl (by decide) (Nat.le_of_ble_eq_true rfl) dX12_face_34 (fun r38_ M39_ q40_ => ?_)
    obtain ⟨hI42_, hF43_, h41_, hs45_⟩ := q40_
    have hF44_ := hFz.tr hF43_ (fun c k => (fun h => h.elim (fun h => (Or.inr (Or.inl ⟨h.1, h.2⟩))) (fun h => h.elim)))
    simp only [li_m1000001] at h41_
    exact w_iret rfl dX12_face_37 ⟨hI42_, hF44_, trivial, (Or.inr ⟨hs5_, M39_, hI42_, hF43_, r38_, hs45_, h41_, rfl, rfl⟩)⟩
def S_c_X12_goes : rf → Nat → Prop := fun c k => (c.1 = 50 ∧ c.2.1 = 0) ∨ (c.1 = 53 ∧ c.2.1 = 0) ∨ False
def SP_X12_goes (v : Int32) (u : Int32) (Mz : mM) (r_ : Int32) (M_ : mM) : Prop := (((SP_is2 v Mz (1 : Int32)) ∧ (0 ≤ v.toInt ∧ v.toInt ≤ 7) ∧ ∃ r7_ : Int32, (SP_X12_goer v Mz r7_) ∧ (r7_.toInt = 180 + 9 * v.toInt) ∧ ∃ z12_ : Int32, (z12_.toInt = r7_.toInt + 6) ∧ (((u.toInt = 0) ∧ ∃ M16_ : mM, (InvD M16_) ∧ (FR (S_c_X12_become) Mz M16_) ∧ ∃ r15_ : Int32, (SP_X12_become z12_ 0 Mz r15_ M16_) ∧ r_ = r15_ ∧ M_ = M16_) ∨ ((¬ u.toInt = 0) ∧ ∃ M24_ : mM, (InvD M24_) ∧ (FR (S_c_X12_become) Mz M24_) ∧ ∃ r23_ : Int32, (SP_X12_become z12_ 1 Mz r23_ M24_) ∧ r_ = r23_ ∧ M_ = M24_))) ∨ ((SP_is2 v Mz (0 : Int32)) ∧ ∃ M33_ : mM, (InvD M33_) ∧ (FR (S_c_X12_finding) Mz M33_) ∧ ∃ r32_ : Int32, (SP_X12_finding (-1000001) Mz r32_ M33_) ∧ (r32_.toInt = (-1000001)) ∧ r_ = r32_ ∧ M_ = M33_))
theorem lf_c_X12_goes_0 (v : Int32) (r7_ : Int32) (h4_ : 0 ≤ v.toInt ∧ v.toInt ≤ 7) (h10_ : r7_.toInt = 180 + 9 * v.toInt) : -2147483648 ≤ r7_.toInt + 6 ∧ r7_.toInt + 6 < 2147483648 := by omega
theorem lf_c_X12_goes_1 (v : Int32) (r7_ : Int32) (z12_ : Int32) (h4_ : 0 ≤ v.toInt ∧ v.toInt ≤ 7) (h10_ : r7_.toInt = 180 + 9 * v.toInt) (h13_ : z12_.toInt = r7_.toInt + 6) : PN z12_.toInt.toNat (0 : Int32) ∧ (z12_.toInt.toNat < 345 ∨ 493 < z12_.toInt.toNat) := by have r_v := rngI v; have r_r7_ := rngI r7_; have r_z12_ := rngI z12_; have q0 := li_0; unfold PN; omega
theorem lf_c_X12_goes_2 (v : Int32) (r7_ : Int32) (z12_ : Int32) (h4_ : 0 ≤ v.toInt ∧ v.toInt ≤ 7) (h10_ : r7_.toInt = 180 + 9 * v.toInt) (h13_ : z12_.toInt = r7_.toInt + 6) : 0 ≤ z12_.toInt ∧ z12_.toInt ≤ 3566 := by omega
theorem lf_c_X12_goes_3 (v : Int32) (r7_ : Int32) (z12_ : Int32) (h4_ : 0 ≤ v.toInt ∧ v.toInt ≤ 7) (h10_ : r7_.toInt = 180 + 9 * v.toInt) (h13_ : z12_.toInt = r7_.toInt + 6) : PN z12_.toInt.toNat (1 : Int32) ∧ (z12_.toInt.toNat < 345 ∨ 493 < z12_.toInt.toNat) := by have r_v := rngI v; have r_r7_ := rngI r7_; have r_z12_ := rngI z12_; have q0 := li_1; unfold PN; omega
set_option maxHeartbeats 4000000 in
set_option maxRecDepth 100000 in
theorem c_X12_goes (l : Launch) (G : va_G) (cy : Nat → ClassId) (ad : rf → Nat) (d : Nat) (v : Int32) (u : Int32) (Mz : mM) (hIz : InvD Mz) (hu : 0 ≤ u.toInt ∧ u.toInt ≤ 1) : WP DD l G cy ad yX12_goes cX12_goes 3 (some .int) (d + 2) 0 [(0, vR (12, 0, 0)), (1, vI v), (2, vI u)] [] Mz (fun r M' => InvD M' ∧ FR (S_c_X12_goes) Mz M' ∧ (True) ∧ SP_X12_goes v u Mz r M') := by
  have hFz : FR (S_c_X12_goes) Mz Mz := FR.self
  refine w_aload_n dX12_goes_0 rfl 0 rfl ?_
  refine w_iload_n dX12_goes_1 rfl 1 rfl ?_
  refine w_iconst (v := 2) dX12_goes_2 (by decide) ?_
  refine w_callV (as := [vI v, vI 2]) (rest := []) (c_is2 l G cy ad d v Mz hIz) kV_X12_is pnn_17 (Nat.le_of_ble_eq_true rfl) m_1465 rfl rfl rfl ic_12 rfl rfl (by decide) (Nat.le_of_ble_eq_true rfl) dX12_goes_3 (fun r1_ M2_ q3_ => ?_)
  obtain ⟨rfl, h4_, hs5_⟩ := q3_
  rcases h4_ with ⟨rfl, h4_⟩ | rfl
  · refine w_if_eq (tgt := 33) dX12_goes_6 (by decide) li_1 (fun h9 => (absurd h9 (by decide))) (fun h6_ => ?_)
    refine w_aload_n dX12_goes_9 rfl 0 rfl ?_
    refine w_aload_n dX12_goes_10 rfl 0 rfl ?_
    refine w_iload_n dX12_goes_11 rfl 1 rfl ?_
    refine w_callV (as := [vI v]) (rest := [vR (12, 0, 0)]) (c_X12_goer l G cy ad (d + 1) v Mz hIz h4_) kV_X12_goer pnn_17 (Nat.le_of_ble_eq_true rfl) m_1451 rfl rfl rfl ic_12 rfl rfl (by decide) (Nat.le_of_ble_eq_true rfl) dX12_goes_12 (fun r7_ M8_ q9_ => ?_)
    obtain ⟨rfl, h10_, hs11_⟩ := q9_
    refine w_bipush (v := 6) dX12_goes_15 (by decide) ?_
    refine w_iaddB dX12_goes_17 (rfl : r7_.toInt = r7_.toInt) li_6 (lf_c_X12_goes_0 v r7_ h4_ h10_ ) (fun z12_ h13_ => ?_)
    refine w_iload_n dX12_goes_18 rfl 2 rfl ?_
    refine w_if_eq (tgt := 26) dX12_goes_19 (by decide) (rfl : u.toInt = u.toInt) (fun h14_ => ?_) (fun h14_ => ?_)
    · refine w_iconst (v := 0) dX12_goes_26 (by decide) ?_
      refine w_callV (as := [vI z12_, vI 0]) (rest := []) (c_X12_become l G cy ad (d + 1) z12_ 0 Mz hIz (lf_c_X12_goes_1 v r7_ z12_ h4_ h10_ h13_ ) (lf_c_X12_goes_2 v r7_ z12_ h4_ h10_ h13_ )) kV_X12_become pnn_17 (Nat.le_of_ble_eq_true rfl) m_1481 rfl rfl rfl ic_12 rfl rfl (by decide) (Nat.le_of_ble_eq_true rfl) dX12_goes_27 (fun r15_ M16_ q17_ => ?_)
      obtain ⟨hI19_, hF20_, h18_, hs22_⟩ := q17_
      have hF21_ := hFz.tr hF20_ (fun c k => (fun h => h.elim (fun h => (Or.inl ⟨h.1, h.2⟩)) (fun h => h.elim)))
      refine w_goto (tgt := 39) dX12_goes_30 (by decide) ?_
      exact w_iret rfl dX12_goes_39 ⟨hI19_, hF21_, trivial, (Or.inl ⟨hs5_, h4_, r7_, hs11_, h10_, z12_, h13_, (Or.inl ⟨h14_, M16_, hI19_, hF20_, r15_, hs22_, rfl, rfl⟩)⟩)⟩
    · refine w_iconst (v := 1) dX12_goes_22 (by decide) ?_
      refine w_goto (tgt := 27) dX12_goes_23 (by decide) ?_
      refine w_callV (as := [vI z12_, vI 1]) (rest := []) (c_X12_become l G cy ad (d + 1) z12_ 1 Mz hIz (lf_c_X12_goes_3 v r7_ z12_ h4_ h10_ h13_ ) (lf_c_X12_goes_2 v r7_ z12_ h4_ h10_ h13_ )) kV_X12_become pnn_17 (Nat.le_of_ble_eq_true rfl) m_1481 rfl rfl rfl ic_12 rfl rfl (by decide) (Nat.le_of_ble_eq_true rfl) dX12_goes_27 (fun r23_ M24_ q25_ => ?_)
      obtain ⟨hI27_, hF28_, h26_, hs30_⟩ := q25_
      have hF29_ := hFz.tr hF28_ (fun c k => (fun h => h.elim (fun h => (Or.inl ⟨h.1, h.2⟩)) (fun h => h.elim)))
      refine w_goto (tgt := 39) dX12_goes_30 (by decide) ?_
      exact w_iret rfl dX12_goes_39 ⟨hI27_, hF29_, trivial, (Or.inl ⟨hs5_, h4_, r7_, hs11_, h10_, z12_, h13_, (Or.inr ⟨h14_, M24_, hI27_, hF28_, r23_, hs30_, rfl, rfl⟩)⟩)⟩
  · refine w_if_eq (tgt := 33) dX12_goes_6 (by decide) li_0 (fun h31_ => ?_) (fun h9 => (absurd h9 (by decide)))
    refine w_aload_n dX12_goes_33 rfl 0 rfl ?_
    refine w_ldc (v := (-1000001)) m_1433 dX12_goes_34 ?_
    refine w_callV (as := [vI (-1000001)]) (rest := []) (c_X12_finding l G cy ad (d + 1) (-1000001) Mz hIz (by first | decide | (unfold vF; omega) | (unfold vRw; omega))) kV_X12_finding pnn_17 (Nat.le_of_ble_eq_true rfl) m_1434 rfl rfl rfl ic_12 rfl rfl (by decide) (Nat.le_of_ble_eq_true rfl) dX12_goes_36 (fun r32_ M33_ q34_ => ?_)
    obtain ⟨hI36_, hF37_, h35_, hs39_⟩ := q34_
    have hF38_ := hFz.tr hF37_ (fun c k => (fun h => h.elim (fun h => (Or.inr (Or.inl ⟨h.1, h.2⟩))) (fun h => h.elim)))
    simp only [li_m1000001] at h35_
    exact w_iret rfl dX12_goes_39 ⟨hI36_, hF38_, trivial, (Or.inr ⟨hs5_, M33_, hI36_, hF37_, r32_, hs39_, h35_, rfl, rfl⟩)⟩
def S_c_X12_feed : rf → Nat → Prop := fun c k => (c.1 = 50 ∧ c.2.1 = 0) ∨ (c.1 = 53 ∧ c.2.1 = 0) ∨ False
def ST_X12_feed_40 (v : Int64) (u : Int32) (Mz : mM) (v4_40 : Int32) (M_40 : mM) (v4_40y : Int32) (M_40y : mM) : Prop := (0 ≤ v4_40.toInt) ∧ (v4_40.toInt ≤ u.toInt) ∧ ((M_40.1 (50, 0, 0) 4).toInt + u.toInt ≤ 48 + v4_40.toInt) ∧ (InvD M_40) ∧ (FR (S_c_X12_feed) Mz M_40) ∧ (v4_40.toInt < u.toInt) ∧ ∃ z18_ : Int32, (z18_ = M_40.1 (50, 0, 0) 4) ∧ (0 ≤ z18_.toInt ∧ z18_.toInt ≤ 48) ∧ ∃ z22_ : Int32, (z22_.toInt = 273 + z18_.toInt) ∧ ∃ z24_ : Int32, (z24_.toInt = 8 * v4_40.toInt) ∧ ∃ w26_ : Int64, (w26_ = v >>> (z24_.toInt64 &&& 63)) ∧ ∃ w28_ : Int64, (w28_ = w26_ &&& (255 : Int64)) ∧ ∃ z30_ : Int32, (z30_ = w28_.toInt32) ∧ ∃ j34_ : Nat, ((j34_ : Int) = z22_.toInt) ∧ ∃ M32_ : mM, (M32_ = up M_40 (50, 0, 0) j34_ z30_) ∧ ∃ z39_ : Int32, (z39_ = M32_.1 (50, 0, 0) 4) ∧ (z39_.toInt = z18_.toInt) ∧ (0 ≤ z39_.toInt ∧ z39_.toInt ≤ 48) ∧ ∃ z43_ : Int32, (z43_.toInt = z39_.toInt + 1) ∧ ∃ M45_ : mM, (M45_ = up M32_ (50, 0, 0) 4 z43_) ∧ ∃ z50_ : Int32, (z50_.toInt = v4_40.toInt + 1) ∧ v4_40y = z50_ ∧ M_40y = M45_
def SP_X12_feed (v : Int64) (u : Int32) (Mz : mM) (r_ : Int32) (M_ : mM) : Prop := (((SP_X12_within u 1 8 Mz (1 : Int32)) ∧ (1 ≤ u.toInt ∧ u.toInt ≤ 8) ∧ ∃ z7_ : Int32, (z7_ = Mz.1 (50, 0, 0) 4) ∧ (0 ≤ z7_.toInt ∧ z7_.toInt ≤ 48) ∧ ∃ z10_ : Int32, (z10_.toInt = z7_.toInt + u.toInt) ∧ (((z10_.toInt ≤ 48) ∧ ∃ v4_40 : Int32, (0 ≤ v4_40.toInt) ∧ (v4_40.toInt ≤ u.toInt) ∧ ∃ M_40 : mM, ((M_40.1 (50, 0, 0) 4).toInt + u.toInt ≤ 48 + v4_40.toInt) ∧ (RCH (fun x_ y_ => ST_X12_feed_40 v u Mz x_.1 x_.2 y_.1 y_.2) ((0 : Int32), Mz) (v4_40, M_40)) ∧ (InvD M_40) ∧ (FR (S_c_X12_feed) Mz M_40) ∧ (u.toInt ≤ v4_40.toInt) ∧ ∃ z15_ : Int32, (z15_ = M_40.1 (50, 0, 0) 4) ∧ (0 ≤ z15_.toInt ∧ z15_.toInt ≤ 48) ∧ r_ = z15_ ∧ M_ = M_40) ∨ ((48 < z10_.toInt) ∧ ∃ M53_ : mM, (InvD M53_) ∧ (FR (S_c_X12_finding) Mz M53_) ∧ ∃ r52_ : Int32, (SP_X12_finding (-1000004) Mz r52_ M53_) ∧ (r52_.toInt = (-1000004)) ∧ r_ = r52_ ∧ M_ = M53_))) ∨ ((SP_X12_within u 1 8 Mz (0 : Int32)) ∧ (¬ (1 ≤ u.toInt ∧ u.toInt ≤ 8)) ∧ ∃ M62_ : mM, (InvD M62_) ∧ (FR (S_c_X12_finding) Mz M62_) ∧ ∃ r61_ : Int32, (SP_X12_finding (-1000001) Mz r61_ M62_) ∧ (r61_.toInt = (-1000001)) ∧ r_ = r61_ ∧ M_ = M62_))
theorem lf_c_X12_feed_0 (u : Int32) (z7_ : Int32) (h4_ : 1 ≤ u.toInt ∧ u.toInt ≤ 8) (h9_ : 0 ≤ z7_.toInt ∧ z7_.toInt ≤ 48) : -2147483648 ≤ z7_.toInt + u.toInt ∧ z7_.toInt + u.toInt < 2147483648 := by omega
theorem lf_c_X12_feed_1 (z18_ : Int32) (h21_ : 0 ≤ z18_.toInt ∧ z18_.toInt ≤ 48) : -2147483648 ≤ 273 + z18_.toInt ∧ 273 + z18_.toInt < 2147483648 := by omega
theorem lf_c_X12_feed_3 (z18_ : Int32) (z22_ : Int32) (h21_ : 0 ≤ z18_.toInt ∧ z18_.toInt ≤ 48) (h23_ : z22_.toInt = 273 + z18_.toInt) : 0 ≤ z22_.toInt ∧ z22_.toInt < ((3567 : Nat) : Int) := by omega
theorem lf_c_X12_feed_4 (M32_ : mM) (M_40 : mM) (z18_ : Int32) (z22_ : Int32) (z30_ : Int32) (j34_ : Nat) (e19_ : z18_ = M_40.1 (50, 0, 0) 4) (kf20_ : (M_40.1 (50, 0, 0) 4).toInt = z18_.toInt) (h21_ : 0 ≤ z18_.toInt ∧ z18_.toInt ≤ 48) (h23_ : z22_.toInt = 273 + z18_.toInt) (h35_ : (j34_ : Int) = z22_.toInt) (hM33_ : M32_ = up M_40 (50, 0, 0) j34_ z30_) : PN j34_ z30_ ∧ (j34_ < 345 ∨ 493 < j34_) := by have r_z18_ := rngI z18_; have r_z22_ := rngI z22_; have r_z30_ := rngI z30_; subst e19_; unfold PN; omega
theorem lf_c_X12_feed_5 (z18_ : Int32) (z22_ : Int32) (j34_ : Nat) (h21_ : 0 ≤ z18_.toInt ∧ z18_.toInt ≤ 48) (h23_ : z22_.toInt = 273 + z18_.toInt) (h35_ : (j34_ : Int) = z22_.toInt) : ¬ 4 = j34_ := by omega
theorem lf_c_X12_feed_6 (z39_ : Int32) (h42_ : 0 ≤ z39_.toInt ∧ z39_.toInt ≤ 48) : -2147483648 ≤ z39_.toInt + 1 ∧ z39_.toInt + 1 < 2147483648 := by omega
theorem lf_c_X12_feed_7 (M32_ : mM) (M45_ : mM) (M_40 : mM) (Mz : mM) (u : Int32) (z7_ : Int32) (z10_ : Int32) (v4_40 : Int32) (z18_ : Int32) (z22_ : Int32) (z24_ : Int32) (z30_ : Int32) (j34_ : Nat) (z39_ : Int32) (z43_ : Int32) (h4_ : 1 ≤ u.toInt ∧ u.toInt ≤ 8) (e8_ : z7_ = Mz.1 (50, 0, 0) 4) (h9_ : 0 ≤ z7_.toInt ∧ z7_.toInt ≤ 48) (h11_ : z10_.toInt = z7_.toInt + u.toInt) (h12_ : z10_.toInt ≤ 48) (hv0_40 : 0 ≤ v4_40.toInt) (hv1_40 : v4_40.toInt ≤ u.toInt) (hv2_40 : (M_40.1 (50, 0, 0) 4).toInt + u.toInt ≤ 48 + v4_40.toInt) (h14_ : v4_40.toInt < u.toInt) (e19_ : z18_ = M_40.1 (50, 0, 0) 4) (kf20_ : (M_40.1 (50, 0, 0) 4).toInt = z18_.toInt) (h21_ : 0 ≤ z18_.toInt ∧ z18_.toInt ≤ 48) (h23_ : z22_.toInt = 273 + z18_.toInt) (h25_ : z24_.toInt = 8 * v4_40.toInt) (h35_ : (j34_ : Int) = z22_.toInt) (hM33_ : M32_ = up M_40 (50, 0, 0) j34_ z30_) (kf38_ : (M32_.1 (50, 0, 0) 4).toInt = z18_.toInt) (e40_ : z39_ = M32_.1 (50, 0, 0) 4) (h41_ : z39_.toInt = z18_.toInt) (h42_ : 0 ≤ z39_.toInt ∧ z39_.toInt ≤ 48) (h44_ : z43_.toInt = z39_.toInt + 1) (hM46_ : M45_ = up M32_ (50, 0, 0) 4 z43_) : PN 4 z43_ ∧ (4 < 345 ∨ 493 < 4) := by have r_u := rngI u; have r_z7_ := rngI z7_; have r_z10_ := rngI z10_; have r_v4_40 := rngI v4_40; have r_z18_ := rngI z18_; have r_z22_ := rngI z22_; have r_z24_ := rngI z24_; have r_z30_ := rngI z30_; have r_z39_ := rngI z39_; have r_z43_ := rngI z43_; subst e8_; subst e19_; subst e40_; unfold PN; omega
theorem lf_c_X12_feed_10 (u : Int32) (v4_40 : Int32) (z50_ : Int32) (h14_ : v4_40.toInt < u.toInt) (h51_ : z50_.toInt = v4_40.toInt + 1) : z50_.toInt ≤ u.toInt := by omega
theorem lf_c_X12_feed_11 (M45_ : mM) (M_40 : mM) (u : Int32) (v4_40 : Int32) (z18_ : Int32) (z39_ : Int32) (z43_ : Int32) (z50_ : Int32) (hv2_40 : (M_40.1 (50, 0, 0) 4).toInt + u.toInt ≤ 48 + v4_40.toInt) (e19_ : z18_ = M_40.1 (50, 0, 0) 4) (h41_ : z39_.toInt = z18_.toInt) (h44_ : z43_.toInt = z39_.toInt + 1) (kf49_ : (M45_.1 (50, 0, 0) 4).toInt = z43_.toInt) (h51_ : z50_.toInt = v4_40.toInt + 1) : (M45_.1 (50, 0, 0) 4).toInt + u.toInt ≤ 48 + z50_.toInt := by subst e19_; omega
theorem lf_c_X12_feed_14 (u : Int32) (h4_ : 1 ≤ u.toInt ∧ u.toInt ≤ 8) : (0 : Int32).toInt ≤ u.toInt := by have q0 := li_0; omega
theorem lf_c_X12_feed_15 (Mz : mM) (u : Int32) (z7_ : Int32) (z10_ : Int32) (e8_ : z7_ = Mz.1 (50, 0, 0) 4) (h11_ : z10_.toInt = z7_.toInt + u.toInt) (h12_ : z10_.toInt ≤ 48) : (Mz.1 (50, 0, 0) 4).toInt + u.toInt ≤ 48 + (0 : Int32).toInt := by have q0 := li_0; subst e8_; omega
set_option maxHeartbeats 4000000 in
set_option maxRecDepth 100000 in
theorem c_X12_feed (l : Launch) (G : va_G) (cy : Nat → ClassId) (ad : rf → Nat) (d : Nat) (v : Int64) (u : Int32) (Mz : mM) (hIz : InvD Mz) : WP DD l G cy ad yX12_feed cX12_feed 5 (some .int) (d + 1) 0 [(0, vR (12, 0, 0)), (1, vL v), (3, vI u)] [] Mz (fun r M' => InvD M' ∧ FR (S_c_X12_feed) Mz M' ∧ (True) ∧ SP_X12_feed v u Mz r M') := by
  have hFz : FR (S_c_X12_feed) Mz Mz := FR.self
  refine w_iload_n dX12_feed_0 rfl 2 rfl ?_
  refine w_iconst (v := 1) dX12_feed_1 (by decide) ?_
  refine w_bipush (v := 8) dX12_feed_2 (by decide) ?_
  refine w_callS (as := [vI u, vI 1, vI 8]) (rest := []) (c_X12_within l G cy ad d u 1 8 Mz hIz) kS_X12_within pnn_17 (Nat.le_of_ble_eq_true rfl) m_1427 rfl rfl (by decide) (Nat.le_of_ble_eq_true rfl) dX12_feed_4 (fun r1_ M2_ q3_ => ?_)
  obtain ⟨rfl, h4_, hs5_⟩ := q3_
  rcases h4_ with ⟨rfl, h4_⟩ | ⟨rfl, h4_⟩
  · simp only [li_1, li_8] at h4_
    refine w_if_ne (tgt := 17) dX12_feed_7 (by decide) li_1 (fun h6_ => ?_) (fun h9 => (absurd h9 (by decide)))
    refine w_aload_n dX12_feed_17 rfl 0 rfl ?_
    refine w_getR (c' := (50, 0, 0)) fl_RX12_9 rfl rfl ic_12 dX12_feed_18 rfl ?_
    refine w_iconst (v := 4) dX12_feed_21 (by decide) ?_
    refine w_ialdL 4 rfl rfl ic_50 li_4 (by decide) dX12_feed_22 (fun z7_ e8_ => ?_)
    have h9_ : 0 ≤ z7_.toInt ∧ z7_.toInt ≤ 48 := pn_4 hIz e8_
    refine w_iload_n dX12_feed_23 rfl 2 rfl ?_
    refine w_iaddB dX12_feed_24 (rfl : z7_.toInt = z7_.toInt) (rfl : u.toInt = u.toInt) (lf_c_X12_feed_0 u z7_ h4_ h9_ ) (fun z10_ h11_ => ?_)
    refine w_bipush (v := 48) dX12_feed_25 (by decide) ?_
    refine w_icmp_le (tgt := 37) dX12_feed_27 (by decide) (rfl : z10_.toInt = z10_.toInt) li_48 (fun h12_ => ?_) (fun h12_ => ?_)
    · refine w_iconst (v := 0) dX12_feed_37 (by decide) ?_
      refine w_istore (ls' := [(4, vI 0), (0, vR (12, 0, 0)), (1, vL v), (3, vI u)]) dX12_feed_38 (by decide) rfl ?_
      have lp13_ : ∀ (nn_40 : Nat) (M_40 : mM) (hI_40 : InvD M_40) (hF_40 : FR (S_c_X12_feed) Mz M_40) (v4_40 : Int32) (hv0_40 : 0 ≤ v4_40.toInt) (hv1_40 : v4_40.toInt ≤ u.toInt) (hv2_40 : (M_40.1 (50, 0, 0) 4).toInt + u.toInt ≤ 48 + v4_40.toInt) (hL_40 : RCH (fun x_ y_ => ST_X12_feed_40 v u Mz x_.1 x_.2 y_.1 y_.2) ((0 : Int32), Mz) (v4_40, M_40)), (u.toInt - v4_40.toInt).toNat < nn_40 → WP DD l G cy ad yX12_feed cX12_feed 5 (some .int) (d + 1) 40 [(4, vI v4_40), (0, vR (12, 0, 0)), (1, vL v), (3, vI u)] [] M_40 (fun r M' => InvD M' ∧ FR (S_c_X12_feed) Mz M' ∧ (True) ∧ SP_X12_feed v u Mz r M') := by
        intro nn_40
        induction nn_40 with
        | zero => intro M_40 hI_40 hF_40 v4_40 hv0_40 hv1_40 hv2_40 hL_40 hm_40; exact absurd hm_40 (Nat.not_lt_zero _)
        | succ nn_40 ih_40 =>
          intro M_40 hI_40 hF_40 v4_40 hv0_40 hv1_40 hv2_40 hL_40 hm_40
          refine w_iload dX12_feed_40 0 rfl ?_
          refine w_iload_n dX12_feed_42 rfl 3 rfl ?_
          refine w_icmp_ge (tgt := 89) dX12_feed_43 (by decide) (rfl : v4_40.toInt = v4_40.toInt) (rfl : u.toInt = u.toInt) (fun h14_ => ?_) (fun h14_ => ?_)
          · refine w_aload_n dX12_feed_89 rfl 1 rfl ?_
            refine w_getR (c' := (50, 0, 0)) fl_RX12_9 rfl rfl ic_12 dX12_feed_90 rfl ?_
            refine w_iconst (v := 4) dX12_feed_93 (by decide) ?_
            refine w_ialdL 4 rfl rfl ic_50 li_4 (by decide) dX12_feed_94 (fun z15_ e16_ => ?_)
            have h17_ : 0 ≤ z15_.toInt ∧ z15_.toInt ≤ 48 := pn_4 hI_40 e16_
            exact w_iret rfl dX12_feed_95 ⟨hI_40, hF_40, trivial, (Or.inl ⟨hs5_, h4_, z7_, e8_, h9_, z10_, h11_, (Or.inl ⟨h12_, v4_40, hv0_40, hv1_40, M_40, hv2_40, hL_40, hI_40, hF_40, h14_, z15_, e16_, h17_, rfl, rfl⟩)⟩)⟩
          · refine w_aload_n dX12_feed_46 rfl 1 rfl ?_
            refine w_getR (c' := (50, 0, 0)) fl_RX12_9 rfl rfl ic_12 dX12_feed_47 rfl ?_
            refine w_sipush (v := 273) dX12_feed_50 (by decide) ?_
            refine w_aload_n dX12_feed_53 rfl 1 rfl ?_
            refine w_getR (c' := (50, 0, 0)) fl_RX12_9 rfl rfl ic_12 dX12_feed_54 rfl ?_
            refine w_iconst (v := 4) dX12_feed_57 (by decide) ?_
            refine w_ialdL 4 rfl rfl ic_50 li_4 (by decide) dX12_feed_58 (fun z18_ e19_ => ?_)
            have kf20_ : (M_40.1 (50, 0, 0) 4).toInt = z18_.toInt := by rw [e19_]
            have h21_ : 0 ≤ z18_.toInt ∧ z18_.toInt ≤ 48 := pn_4 hI_40 e19_
            refine w_iaddB dX12_feed_59 li_273 (rfl : z18_.toInt = z18_.toInt) (lf_c_X12_feed_1 z18_ h21_ ) (fun z22_ h23_ => ?_)
            refine w_lload_n dX12_feed_60 rfl 2 rfl ?_
            refine w_bipush (v := 8) dX12_feed_61 (by decide) ?_
            refine w_iload dX12_feed_63 0 rfl ?_
            refine w_imulB dX12_feed_65 li_8 (rfl : v4_40.toInt = v4_40.toInt) (lf_c_X11_feed_0 u v4_40 h4_ hv0_40 h14_ ) (fun z24_ h25_ => ?_)
            refine w_lshr dX12_feed_66 (fun w26_ h27_ => ?_)
            refine w_ldc2 (v := 255) m_1554 dX12_feed_67 ?_
            refine w_land dX12_feed_70 (fun w28_ h29_ => ?_)
            refine w_l2i dX12_feed_71 (fun z30_ h31_ => ?_)
            refine w_iast DD_nd rfl rfl ic_50 (rfl : z22_.toInt = z22_.toInt) (lf_c_X12_feed_3 z18_ z22_ h21_ h23_ ) dX12_feed_72 (fun j34_ h35_ M32_ hM33_ => ?_)
            have hI36_ := hI_40.put50 hM33_ (lf_c_X12_feed_4 M32_ M_40 z18_ z22_ z30_ j34_ e19_ kf20_ h21_ h23_ h35_ hM33_ )
            have hF37_ := hF_40.put hM33_ (Or.inl ⟨rfl, rfl⟩)
            have kf38_ : (M32_.1 (50, 0, 0) 4).toInt = z18_.toInt := by rw [(show M32_.1 (50, 0, 0) 4 = M_40.1 (50, 0, 0) 4 by rw [hM33_]; exact up_ne (fun q => absurd q.2 (lf_c_X12_feed_5 z18_ z22_ j34_ h21_ h23_ h35_ )))]; exact kf20_
            refine w_aload_n dX12_feed_73 rfl 1 rfl ?_
            refine w_getR (c' := (50, 0, 0)) fl_RX12_9 rfl rfl ic_12 dX12_feed_74 rfl ?_
            refine w_iconst (v := 4) dX12_feed_77 (by decide) ?_
            refine w_dup2 dX12_feed_78 rfl rfl ?_
            refine w_ialdL 4 rfl rfl ic_50 li_4 (by decide) dX12_feed_79 (fun z39_ e40_ => ?_)
            have h41_ : z39_.toInt = z18_.toInt := by rw [e40_]; exact kf38_
            have h42_ : 0 ≤ z39_.toInt ∧ z39_.toInt ≤ 48 := pn_4 hI36_ e40_
            refine w_iconst (v := 1) dX12_feed_80 (by decide) ?_
            refine w_iaddB dX12_feed_81 (rfl : z39_.toInt = z39_.toInt) li_1 (lf_c_X12_feed_6 z39_ h42_ ) (fun z43_ h44_ => ?_)
            refine w_iastL 4 DD_nd rfl rfl ic_50 li_4 (by decide) dX12_feed_82 (fun M45_ hM46_ => ?_)
            have hI47_ := hI36_.put50 hM46_ (lf_c_X12_feed_7 M32_ M45_ M_40 Mz u z7_ z10_ v4_40 z18_ z22_ z24_ z30_ j34_ z39_ z43_ h4_ e8_ h9_ h11_ h12_ hv0_40 hv1_40 hv2_40 h14_ e19_ kf20_ h21_ h23_ h25_ h35_ hM33_ kf38_ e40_ h41_ h42_ h44_ hM46_ )
            have hF48_ := hF37_.put hM46_ (Or.inl ⟨rfl, rfl⟩)
            have kf49_ : (M45_.1 (50, 0, 0) 4).toInt = z43_.toInt := by rw [hM46_, up_same]
            refine w_iincB (j := 0) (f := fun z50_ => [(4, vI z50_), (0, vR (12, 0, 0)), (1, vL v), (3, vI u)]) dX12_feed_83 rfl (by decide) (fun _ => rfl) (rfl : v4_40.toInt = v4_40.toInt) li_1 (lf_c_X11_feed_1 v4_40 z24_ h25_ ) (fun z50_ h51_ => ?_)
            refine w_goto (tgt := 40) dX12_feed_86 (by decide) ?_
            refine w_loc (ls' := [(4, vI z50_), (0, vR (12, 0, 0)), (1, vL v), (3, vI u)]) [0, 1, 2, 3] rfl ?_
            exact ih_40 M45_ hI47_ hF48_ z50_ (lf_c_X5_takeFrom_3 v4_40 z50_ hv0_40 h51_ ) (lf_c_X12_feed_10 u v4_40 z50_ h14_ h51_ ) (lf_c_X12_feed_11 M45_ M_40 u v4_40 z18_ z39_ z43_ z50_ hv2_40 e19_ h41_ h44_ kf49_ h51_ ) (RCH.tail hL_40 ⟨hv0_40, hv1_40, hv2_40, hI_40, hF_40, h14_, z18_, e19_, h21_, z22_, h23_, z24_, h25_, w26_, h27_, w28_, h29_, z30_, h31_, j34_, h35_, M32_, hM33_, z39_, e40_, h41_, h42_, z43_, h44_, M45_, hM46_, z50_, h51_, rfl, rfl⟩) (Nat.lt_of_lt_of_le (lf_c_SL_indexOfChar_1_3 u v4_40 z50_ h14_ h51_ ) (Nat.le_of_lt_succ hm_40))
      exact lp13_ _ Mz hIz hFz 0 (lf_c_X5_takeFrom_5 ) (lf_c_X12_feed_14 u h4_ ) (lf_c_X12_feed_15 Mz u z7_ z10_ e8_ h11_ h12_ ) RCH.refl (Nat.lt_succ_self _)
    · refine w_aload_n dX12_feed_30 rfl 0 rfl ?_
      refine w_ldc (v := (-1000004)) m_1456 dX12_feed_31 ?_
      refine w_callV (as := [vI (-1000004)]) (rest := []) (c_X12_finding l G cy ad d (-1000004) Mz hIz (by first | decide | (unfold vF; omega) | (unfold vRw; omega))) kV_X12_finding pnn_17 (Nat.le_of_ble_eq_true rfl) m_1434 rfl rfl rfl ic_12 rfl rfl (by decide) (Nat.le_of_ble_eq_true rfl) dX12_feed_33 (fun r52_ M53_ q54_ => ?_)
      obtain ⟨hI56_, hF57_, h55_, hs59_⟩ := q54_
      have hF58_ := hFz.tr hF57_ (fun c k => (fun h => h.elim (fun h => (Or.inr (Or.inl ⟨h.1, h.2⟩))) (fun h => h.elim)))
      simp only [li_m1000004] at h55_
      exact w_iret rfl dX12_feed_36 ⟨hI56_, hF58_, trivial, (Or.inl ⟨hs5_, h4_, z7_, e8_, h9_, z10_, h11_, (Or.inr ⟨h12_, M53_, hI56_, hF57_, r52_, hs59_, h55_, rfl, rfl⟩)⟩)⟩
  · simp only [li_1, li_8] at h4_
    refine w_if_ne (tgt := 17) dX12_feed_7 (by decide) li_0 (fun h9 => (absurd h9 (by decide))) (fun h60_ => ?_)
    refine w_aload_n dX12_feed_10 rfl 0 rfl ?_
    refine w_ldc (v := (-1000001)) m_1433 dX12_feed_11 ?_
    refine w_callV (as := [vI (-1000001)]) (rest := []) (c_X12_finding l G cy ad d (-1000001) Mz hIz (by first | decide | (unfold vF; omega) | (unfold vRw; omega))) kV_X12_finding pnn_17 (Nat.le_of_ble_eq_true rfl) m_1434 rfl rfl rfl ic_12 rfl rfl (by decide) (Nat.le_of_ble_eq_true rfl) dX12_feed_13 (fun r61_ M62_ q63_ => ?_)
    obtain ⟨hI65_, hF66_, h64_, hs68_⟩ := q63_
    have hF67_ := hFz.tr hF66_ (fun c k => (fun h => h.elim (fun h => (Or.inr (Or.inl ⟨h.1, h.2⟩))) (fun h => h.elim)))
    simp only [li_m1000001] at h64_
    exact w_iret rfl dX12_feed_16 ⟨hI65_, hF67_, trivial, (Or.inr ⟨hs5_, h4_, M62_, hI65_, hF66_, r61_, hs68_, h64_, rfl, rfl⟩)⟩
end
section
/-! texts as they are run; sides as far as they lead -/
theorem given_cnt {f : Nat → Int32} (hW : WT f) {u c : Int32} {j : Nat} (hu : 0 ≤ u.toInt ∧ u.toInt ≤ 2) (hj : (j : Int) = 345 + 50 * u.toInt) (hc : c = f j) : 0 ≤ c.toInt ∧ c.toInt ≤ 48 := by
  obtain ⟨n, D, h1, h2, h3⟩ := hW u.toInt.toNat (by omega)
  rw [show 345 + 50 * u.toInt.toNat = j by omega, ← hc] at h2
  omega
theorem given_case {f : Nat → Int32} (hW : WT f) {u fr k n c z : Int32} {jc j : Nat} (hu : 0 ≤ u.toInt ∧ u.toInt ≤ 2) (hfr : fr.toInt = 346 + 50 * u.toInt) (hjc : (jc : Int) = 345 + 50 * u.toInt) (hc : c = f jc) (hk : fr.toInt ≤ k.toInt) (hlt : k.toInt < fr.toInt + c.toInt) (hj : (j : Int) = k.toInt) (hz : z = f j) (hn : 0 ≤ n.toInt) (hd : dpt f fr.toInt.toNat (k.toInt - fr.toInt).toNat = some n.toInt.toNat) :
    (n.toInt ≤ k.toInt - fr.toInt ∧ k.toInt - fr.toInt < 48) ∧ ((0 ≤ z.toInt ∧ z.toInt ≤ 1004 ∧ dpt f fr.toInt.toNat (k.toInt + 1 - fr.toInt).toNat = some (n.toInt + 1).toNat) ∨ ((z.toInt = 2008 ∧ 1 ≤ n.toInt) ∧ dpt f fr.toInt.toNat (k.toInt + 1 - fr.toInt).toNat = some (n.toInt).toNat) ∨ ((z.toInt = 2009 ∧ 3 ≤ n.toInt) ∧ dpt f fr.toInt.toNat (k.toInt + 1 - fr.toInt).toNat = some (n.toInt - 2).toNat) ∨ ((2000 ≤ z.toInt ∧ z.toInt ≤ 2007 ∧ 2 ≤ n.toInt) ∧ dpt f fr.toInt.toNat (k.toInt + 1 - fr.toInt).toNat = some (n.toInt - 1).toNat)) := by
  obtain ⟨m, D, h1, h2, h3⟩ := hW u.toInt.toNat (by omega)
  rw [show 345 + 50 * u.toInt.toNat = jc by omega, ← hc] at h2
  rw [show 345 + 50 * u.toInt.toNat + 1 = fr.toInt.toNat by omega] at h3
  have hle := dpt_le hd
  have hq := dpt_next hd (m := m) (by omega) h3
  rw [show fr.toInt.toNat + (k.toInt - fr.toInt).toNat = j by omega, ← hz, show (k.toInt - fr.toInt).toNat + 1 = (k.toInt + 1 - fr.toInt).toNat by omega] at hq
  refine ⟨⟨by omega, by omega⟩, ?_⟩
  rcases hq with ⟨a, b, c⟩ | ⟨a, b, c⟩ | ⟨a, b, c⟩ | ⟨a, b, b2, c⟩
  · exact Or.inl ⟨a, by omega, by rw [c]; congr 1; omega⟩
  · exact Or.inr (Or.inl ⟨⟨a, by omega⟩, c⟩)
  · exact Or.inr (Or.inr (Or.inl ⟨⟨a, by omega⟩, by rw [c]; congr 1; omega⟩))
  · exact Or.inr (Or.inr (Or.inr ⟨⟨a, by omega, by omega⟩, by rw [c]; congr 1; omega⟩))
theorem pn_kx {M : mM} {z : Int32} {j : Nat} (h : InvD M) (hz : z = M.1 (50, 0, 0) j) (hj : 16 ≤ j ∧ j < 180 ∧ j % 4 = 0) : 0 ≤ z.toInt ∧ z.toInt ≤ 99 := by
  rcases Nat.lt_or_ge j 20 with q | q
  · exact pn_ls h hz (by omega)
  · have := pn_tk h hz ⟨q, hj.2.1, hj.2.2⟩
    omega
def upI (c s : Int32) (k : Int) : Prop := ∀ y : Int32, 1 ≤ y.toInt → y.toInt ≤ k → onIn c s y
theorem upI_0 {c s : Int32} {k : Int} (h : k ≤ 0) : upI c s k := fun y h1 h2 => by omega
theorem upI_s {c s k r : Int32} (h : upI c s (k.toInt - 1)) (hr : onP c s k r) (h0 : 0 ≤ r.toInt) : upI c s k.toInt := fun y h1 h2 => by
  rcases Int.lt_or_le y.toInt k.toInt with q | q
  · exact h y h1 (by omega)
  · have e : y = k := Int32.toInt_inj.mp (by omega)
    rw [e]; exact onP_in hr h0
theorem upI_e {c s : Int32} {a b : Int} (h : upI c s a) (e : b = a) : upI c s b := e ▸ h
theorem boolSZ {v : Int32} {P : Prop} (h : 0 ≤ v.toInt ∧ v.toInt ≤ 1) (h2 : v.toInt = 0 ∨ P) : (v = 1 ∧ P) ∨ v = 0 := by
  have h3 : v.toInt = 0 ∨ v.toInt = 1 := by omega
  rcases h3 with h3 | h3
  · exact Or.inr (Int32.toInt_inj.mp h3)
  · exact Or.inl ⟨Int32.toInt_inj.mp h3, h2.resolve_left (by omega)⟩
theorem addL {a b : Int64} (h : -9223372036854775808 ≤ a.toInt + b.toInt ∧ a.toInt + b.toInt < 9223372036854775808) : (a + b).toInt = a.toInt + b.toInt := by
  rw [Int64.toInt_add, Int.bmod_def]
  split <;> omega
end
section
/-! words of the tables that are used, by their places; decode rows; fields -/
theorem li_50 : (50 : Int32).toInt = 50 := by decide
theorem li_345 : (345 : Int32).toInt = 345 := by decide
theorem li_1000 : (1000 : Int32).toInt = 1000 := by decide
theorem li_2008 : (2008 : Int32).toInt = 2008 := by decide
theorem li_2009 : (2009 : Int32).toInt = 2009 := by decide
theorem m_46 : Cond.selects yX12_isClick.cls yX12_isClick yX12_isClick ∈ BASE := bmem 46 (by decide +kernel) rfl
theorem m_47 : Cond.selects yX12_echoFrom.cls yX12_echoFrom yX12_echoFrom ∈ BASE := bmem 47 (by decide +kernel) rfl
theorem m_48 : Cond.selects yX12_on.cls yX12_on yX12_on ∈ BASE := bmem 48 (by decide +kernel) rfl
theorem m_49 : Cond.selects yX12_kindIn.cls yX12_kindIn yX12_kindIn ∈ BASE := bmem 49 (by decide +kernel) rfl
theorem m_50 : Cond.selects yX12_strength.cls yX12_strength yX12_strength ∈ BASE := bmem 50 (by decide +kernel) rfl
theorem m_51 : Cond.selects yX12_hasText.cls yX12_hasText yX12_hasText ∈ BASE := bmem 51 (by decide +kernel) rfl
theorem m_52 : Cond.selects yX12_given.cls yX12_given yX12_given ∈ BASE := bmem 52 (by decide +kernel) rfl
theorem m_53 : Cond.selects yX12_isHeard.cls yX12_isHeard yX12_isHeard ∈ BASE := bmem 53 (by decide +kernel) rfl
theorem m_54 : Cond.selects yX12_clicks.cls yX12_clicks yX12_clicks ∈ BASE := bmem 54 (by decide +kernel) rfl
theorem m_55 : Cond.selects yX12_heardFrom.cls yX12_heardFrom yX12_heardFrom ∈ BASE := bmem 55 (by decide +kernel) rfl
theorem m_56 : Cond.selects yX12_no.cls yX12_no yX12_no ∈ BASE := bmem 56 (by decide +kernel) rfl
theorem m_58 : Cond.selects yX12_more.cls yX12_more yX12_more ∈ BASE := bmem 58 (by decide +kernel) rfl
theorem m_59 : Cond.selects yX12_held.cls yX12_held yX12_held ∈ BASE := bmem 59 (by decide +kernel) rfl
set_option maxRecDepth 20000 in
theorem m_1339 : Cond.fieldLink RX12 47 "ClickStreetModel" "named" "[I" ∈ BASE := bmT6 61 rfl rfl
set_option maxRecDepth 20000 in
theorem m_1340 : Cond.fieldLink RX12 50 "ClickStreetModel" "pile" "[I" ∈ BASE := bmT6 62 rfl rfl
set_option maxRecDepth 20000 in
theorem m_1624 : Cond.methodLink RX12 237 yX12_isClick ∈ BASE := bmT7 106 rfl rfl
set_option maxRecDepth 20000 in
theorem m_1626 : Cond.instanceMethod yX12_isClick ∈ BASE := bmT7 108 rfl rfl
set_option maxRecDepth 20000 in
theorem m_1627 : Cond.code yX12_isClick cX12_isClick 2 (some .boolean) ∈ BASE := bmT7 109 rfl rfl
set_option maxRecDepth 20000 in
theorem m_1628 : Cond.methodLink RX12 240 yX12_echoFrom ∈ BASE := bmT7 110 rfl rfl
set_option maxRecDepth 20000 in
theorem m_1630 : Cond.instanceMethod yX12_echoFrom ∈ BASE := bmT7 112 rfl rfl
set_option maxRecDepth 20000 in
theorem m_1631 : Cond.code yX12_echoFrom cX12_echoFrom 5 (some .int) ∈ BASE := bmT7 113 rfl rfl
set_option maxRecDepth 20000 in
theorem m_1632 : Cond.methodLink RX12 234 yX12_on ∈ BASE := bmT7 114 rfl rfl
set_option maxRecDepth 20000 in
theorem m_1634 : Cond.instanceMethod yX12_on ∈ BASE := bmT7 116 rfl rfl
set_option maxRecDepth 20000 in
theorem m_1635 : Cond.code yX12_on cX12_on 6 (some .int) ∈ BASE := bmT7 117 rfl rfl
set_option maxRecDepth 20000 in
theorem m_1636 : Cond.methodLink RX12 243 yX12_kindIn ∈ BASE := bmT7 118 rfl rfl
set_option maxRecDepth 20000 in
theorem m_1638 : Cond.instanceMethod yX12_kindIn ∈ BASE := bmT7 120 rfl rfl
set_option maxRecDepth 20000 in
theorem m_1639 : Cond.code yX12_kindIn cX12_kindIn 3 (some .int) ∈ BASE := bmT7 121 rfl rfl
set_option maxRecDepth 20000 in
theorem m_1640 : Cond.methodLink RX12 230 yX12_strength ∈ BASE := bmT7 122 rfl rfl
set_option maxRecDepth 20000 in
theorem m_1642 : Cond.instanceMethod yX12_strength ∈ BASE := bmT7 124 rfl rfl
set_option maxRecDepth 20000 in
theorem m_1643 : Cond.code yX12_strength cX12_strength 7 (some .int) ∈ BASE := bmT7 125 rfl rfl
set_option maxRecDepth 20000 in
theorem m_1644 : Cond.methodLink RX12 213 yX12_hasText ∈ BASE := bmT7 126 rfl rfl
set_option maxRecDepth 20000 in
theorem m_1646 : Cond.instanceMethod yX12_hasText ∈ BASE := bmT7 128 rfl rfl
set_option maxRecDepth 20000 in
theorem m_1647 : Cond.code yX12_hasText cX12_hasText 2 (some .boolean) ∈ BASE := bmT7 129 rfl rfl
set_option maxRecDepth 20000 in
theorem m_1648 : Cond.methodLink RX12 216 yX12_given ∈ BASE := bmT7 130 rfl rfl
set_option maxRecDepth 20000 in
theorem m_1650 : Cond.instanceMethod yX12_given ∈ BASE := bmT7 132 rfl rfl
set_option maxRecDepth 20000 in
theorem m_1651 : Cond.code yX12_given cX12_given 6 (some .int) ∈ BASE := bmT7 133 rfl rfl
set_option maxRecDepth 20000 in
theorem m_1652 : Cond.methodLink RX12 209 yX12_done ∈ BASE := bmT7 134 rfl rfl
set_option maxRecDepth 20000 in
theorem m_1653 : Cond.static yX12_done ∈ BASE := bmT7 135 rfl rfl
set_option maxRecDepth 20000 in
theorem m_1654 : Cond.code yX12_done cX12_done 3 (some .int) ∈ BASE := bmT7 136 rfl rfl
set_option maxRecDepth 20000 in
theorem m_1655 : Cond.methodLink RX12 219 Lib.Math.min.name ∈ BASE := bmT7 137 rfl rfl
set_option maxRecDepth 20000 in
theorem m_1656 : Cond.methodLink RX12 224 Lib.Math.max.name ∈ BASE := bmT7 138 rfl rfl
set_option maxRecDepth 20000 in
theorem m_1657 : Cond.methodLink RX12 227 yX12_late ∈ BASE := bmT7 139 rfl rfl
set_option maxRecDepth 20000 in
theorem m_1658 : Cond.static yX12_late ∈ BASE := bmT7 140 rfl rfl
set_option maxRecDepth 20000 in
theorem m_1659 : Cond.code yX12_late cX12_late 2 (some .int) ∈ BASE := bmT7 141 rfl rfl
set_option maxRecDepth 20000 in
theorem m_1660 : Cond.methodLink RX12 246 yX12_ear ∈ BASE := bmT7 142 rfl rfl
set_option maxRecDepth 20000 in
theorem m_1661 : Cond.static yX12_ear ∈ BASE := bmT7 143 rfl rfl
set_option maxRecDepth 20000 in
theorem m_1662 : Cond.code yX12_ear cX12_ear 5 (some .int) ∈ BASE := bmT7 144 rfl rfl
set_option maxRecDepth 20000 in
theorem m_1663 : Cond.methodLink RX12 249 yX12_isHeard ∈ BASE := bmT7 145 rfl rfl
set_option maxRecDepth 20000 in
theorem m_1665 : Cond.instanceMethod yX12_isHeard ∈ BASE := bmT7 147 rfl rfl
set_option maxRecDepth 20000 in
theorem m_1666 : Cond.code yX12_isHeard cX12_isHeard 9 (some .boolean) ∈ BASE := bmT7 148 rfl rfl
set_option maxRecDepth 20000 in
theorem m_1671 : Cond.methodLink RX12 266 yX12_clicks ∈ BASE := bmT7 153 rfl rfl
set_option maxRecDepth 20000 in
theorem m_1673 : Cond.instanceMethod yX12_clicks ∈ BASE := bmT7 155 rfl rfl
set_option maxRecDepth 20000 in
theorem m_1674 : Cond.code yX12_clicks cX12_clicks 7 (some .int) ∈ BASE := bmT7 156 rfl rfl
set_option maxRecDepth 20000 in
theorem m_1675 : Cond.methodLink RX12 256 yX12_heardFrom ∈ BASE := bmT7 157 rfl rfl
set_option maxRecDepth 20000 in
theorem m_1677 : Cond.instanceMethod yX12_heardFrom ∈ BASE := bmT7 159 rfl rfl
set_option maxRecDepth 20000 in
theorem m_1678 : Cond.code yX12_heardFrom cX12_heardFrom 7 (some .int) ∈ BASE := bmT7 160 rfl rfl
set_option maxRecDepth 20000 in
theorem m_1679 : Cond.methodLink RX12 259 yX12_no ∈ BASE := bmT7 161 rfl rfl
set_option maxRecDepth 20000 in
theorem m_1681 : Cond.instanceMethod yX12_no ∈ BASE := bmT7 163 rfl rfl
set_option maxRecDepth 20000 in
theorem m_1682 : Cond.code yX12_no cX12_no 3 (some .int) ∈ BASE := bmT7 164 rfl rfl
set_option maxRecDepth 20000 in
theorem m_1687 : Cond.methodLink RX12 262 yX12_more ∈ BASE := bmT7 169 rfl rfl
set_option maxRecDepth 20000 in
theorem m_1689 : Cond.instanceMethod yX12_more ∈ BASE := bmT7 171 rfl rfl
set_option maxRecDepth 20000 in
theorem m_1690 : Cond.code yX12_more cX12_more 3 none ∈ BASE := bmT7 172 rfl rfl
set_option maxRecDepth 20000 in
theorem m_1695 : Cond.methodLink RX12 269 yX12_held ∈ BASE := bmT7 177 rfl rfl
set_option maxRecDepth 20000 in
theorem m_1697 : Cond.instanceMethod yX12_held ∈ BASE := bmT7 179 rfl rfl
set_option maxRecDepth 20000 in
theorem m_1698 : Cond.code yX12_held cX12_held 5 (some .int) ∈ BASE := bmT7 180 rfl rfl
theorem kS_X12_done : KS yX12_done cX12_done 3 (some .int) 3 := ⟨m_1653, m_92, m_1654, nhM_17, nhV_17, pdn_3⟩
theorem kS_X12_ear : KS yX12_ear cX12_ear 5 (some .int) 4 := ⟨m_1661, m_92, m_1662, nhM_17, nhV_17, pdn_25⟩
theorem kS_X12_late : KS yX12_late cX12_late 2 (some .int) 2 := ⟨m_1658, m_92, m_1659, nhM_17, nhV_17, pdn_8⟩
theorem kV_X12_clicks : KV yX12_clicks cX12_clicks 7 (some .int) 1 := ⟨m_1673, m_54, m_92, m_1674, nhM_17, nhV_17, pdn_2⟩
theorem kV_X12_echoFrom : KV yX12_echoFrom cX12_echoFrom 5 (some .int) 3 := ⟨m_1630, m_47, m_92, m_1631, nhM_17, nhV_17, pdn_3⟩
theorem kV_X12_given : KV yX12_given cX12_given 6 (some .int) 1 := ⟨m_1650, m_52, m_92, m_1651, nhM_17, nhV_17, pdn_2⟩
theorem kV_X12_hasText : KV yX12_hasText cX12_hasText 2 (some .boolean) 1 := ⟨m_1646, m_51, m_92, m_1647, nhM_17, nhV_17, pdn_1⟩
theorem kV_X12_heardFrom : KV yX12_heardFrom cX12_heardFrom 7 (some .int) 3 := ⟨m_1677, m_55, m_92, m_1678, nhM_17, nhV_17, pdn_3⟩
theorem kV_X12_held : KV yX12_held cX12_held 5 (some .int) 2 := ⟨m_1697, m_59, m_92, m_1698, nhM_17, nhV_17, pdn_8⟩
theorem kV_X12_isClick : KV yX12_isClick cX12_isClick 2 (some .boolean) 1 := ⟨m_1626, m_46, m_92, m_1627, nhM_17, nhV_17, pdn_1⟩
theorem kV_X12_isHeard : KV yX12_isHeard cX12_isHeard 9 (some .boolean) 6 := ⟨m_1665, m_53, m_92, m_1666, nhM_17, nhV_17, pdn_38⟩
theorem kV_X12_kindIn : KV yX12_kindIn cX12_kindIn 3 (some .int) 1 := ⟨m_1638, m_49, m_92, m_1639, nhM_17, nhV_17, pdn_2⟩
theorem kV_X12_more : KV yX12_more cX12_more 3 none 2 := ⟨m_1689, m_58, m_92, m_1690, nhM_17, nhV_17, pdn_5⟩
theorem kV_X12_no : KV yX12_no cX12_no 3 (some .int) 2 := ⟨m_1681, m_56, m_92, m_1682, nhM_17, nhV_17, pdn_8⟩
theorem kV_X12_on : KV yX12_on cX12_on 6 (some .int) 3 := ⟨m_1634, m_48, m_92, m_1635, nhM_17, nhV_17, pdn_3⟩
theorem kV_X12_strength : KV yX12_strength cX12_strength 7 (some .int) 4 := ⟨m_1642, m_50, m_92, m_1643, nhM_17, nhV_17, pdn_25⟩
theorem fl_RX12_47 : FLK RX12 47 12 16 (.array .int) true := ⟨RX12, TX12, 33, tyX12, rfl, inB12, tyX12_ok, nmX12, by decide, rfl, rfl, Or.inl m_1339⟩
theorem fl_RX12_50 : FLK RX12 50 12 17 (.array .int) true := ⟨RX12, TX12, 33, tyX12, rfl, inB12, tyX12_ok, nmX12, by decide, rfl, rfl, Or.inl m_1340⟩
theorem ch_cX12_alike_0 : (cX12_alike.data.toList.drop 0).take 36 = [42, 27, 5, 182, 0, 116, 153, 0, 32, 42, 28, 182, 0, 237, 153, 0, 24, 29, 4, 42, 27, 182, 0, 140, 184, 0, 85, 153, 0, 11, 21, 4, 184, 0, 120, 154] := by decide +kernel
theorem dX12_alike_0 : decode cX12_alike 0 = .ok (.aload_n 0, 1) := do_42 (rdb (p := 0) (i := 0) ch_cX12_alike_0 rfl)
theorem dX12_alike_1 : decode cX12_alike 1 = .ok (.iload_n 1, 1) := do_27 (rdb (p := 0) (i := 1) ch_cX12_alike_0 rfl)
theorem dX12_alike_2 : decode cX12_alike 2 = .ok (.iconst 2, 1) := do_5 (rdb (p := 0) (i := 2) ch_cX12_alike_0 rfl)
theorem dX12_alike_3 : decode cX12_alike 3 = .ok (.invokevirtual 116, 3) := do_182 (rdb (p := 0) (i := 3) ch_cX12_alike_0 rfl) (rdb (p := 0) (i := 4) ch_cX12_alike_0 rfl) (rdb (p := 0) (i := 5) ch_cX12_alike_0 rfl) rfl
theorem dX12_alike_6 : decode cX12_alike 6 = .ok (.ifCond .eq 32, 3) := do_153 (rdb (p := 0) (i := 6) ch_cX12_alike_0 rfl) (rdb (p := 0) (i := 7) ch_cX12_alike_0 rfl) (rdb (p := 0) (i := 8) ch_cX12_alike_0 rfl) (by decide +kernel)
theorem dX12_alike_9 : decode cX12_alike 9 = .ok (.aload_n 0, 1) := do_42 (rdb (p := 0) (i := 9) ch_cX12_alike_0 rfl)
theorem dX12_alike_10 : decode cX12_alike 10 = .ok (.iload_n 2, 1) := do_28 (rdb (p := 0) (i := 10) ch_cX12_alike_0 rfl)
theorem dX12_alike_11 : decode cX12_alike 11 = .ok (.invokevirtual 237, 3) := do_182 (rdb (p := 0) (i := 11) ch_cX12_alike_0 rfl) (rdb (p := 0) (i := 12) ch_cX12_alike_0 rfl) (rdb (p := 0) (i := 13) ch_cX12_alike_0 rfl) rfl
theorem dX12_alike_14 : decode cX12_alike 14 = .ok (.ifCond .eq 24, 3) := do_153 (rdb (p := 0) (i := 14) ch_cX12_alike_0 rfl) (rdb (p := 0) (i := 15) ch_cX12_alike_0 rfl) (rdb (p := 0) (i := 16) ch_cX12_alike_0 rfl) (by decide +kernel)
theorem dX12_alike_17 : decode cX12_alike 17 = .ok (.iload_n 3, 1) := do_29 (rdb (p := 0) (i := 17) ch_cX12_alike_0 rfl)
theorem dX12_alike_18 : decode cX12_alike 18 = .ok (.iconst 1, 1) := do_4 (rdb (p := 0) (i := 18) ch_cX12_alike_0 rfl)
theorem dX12_alike_19 : decode cX12_alike 19 = .ok (.aload_n 0, 1) := do_42 (rdb (p := 0) (i := 19) ch_cX12_alike_0 rfl)
theorem dX12_alike_20 : decode cX12_alike 20 = .ok (.iload_n 1, 1) := do_27 (rdb (p := 0) (i := 20) ch_cX12_alike_0 rfl)
theorem dX12_alike_21 : decode cX12_alike 21 = .ok (.invokevirtual 140, 3) := do_182 (rdb (p := 0) (i := 21) ch_cX12_alike_0 rfl) (rdb (p := 0) (i := 22) ch_cX12_alike_0 rfl) (rdb (p := 0) (i := 23) ch_cX12_alike_0 rfl) rfl
theorem dX12_alike_24 : decode cX12_alike 24 = .ok (.invokestatic 85, 3) := do_184 (rdb (p := 0) (i := 24) ch_cX12_alike_0 rfl) (rdb (p := 0) (i := 25) ch_cX12_alike_0 rfl) (rdb (p := 0) (i := 26) ch_cX12_alike_0 rfl) rfl
theorem dX12_alike_27 : decode cX12_alike 27 = .ok (.ifCond .eq 11, 3) := do_153 (rdb (p := 0) (i := 27) ch_cX12_alike_0 rfl) (rdb (p := 0) (i := 28) ch_cX12_alike_0 rfl) (rdb (p := 0) (i := 29) ch_cX12_alike_0 rfl) (by decide +kernel)
theorem dX12_alike_30 : decode cX12_alike 30 = .ok (.iload 4, 2) := do_21 (rdb (p := 0) (i := 30) ch_cX12_alike_0 rfl) (rdb (p := 0) (i := 31) ch_cX12_alike_0 rfl)
theorem ch_cX12_alike_32 : (cX12_alike.data.toList.drop 32).take 36 = [184, 0, 120, 154, 0, 10, 42, 18, 103, 182, 0, 104, 172, 3, 54, 6, 3, 54, 7, 21, 7, 8, 162, 0, 79, 42, 21, 7, 28, 16, 100, 108, 28, 16, 100, 112] := by decide +kernel
theorem dX12_alike_32 : decode cX12_alike 32 = .ok (.invokestatic 120, 3) := do_184 (rdb (p := 32) (i := 0) ch_cX12_alike_32 rfl) (rdb (p := 32) (i := 1) ch_cX12_alike_32 rfl) (rdb (p := 32) (i := 2) ch_cX12_alike_32 rfl) rfl
theorem dX12_alike_35 : decode cX12_alike 35 = .ok (.ifCond .ne 10, 3) := do_154 (rdb (p := 32) (i := 3) ch_cX12_alike_32 rfl) (rdb (p := 32) (i := 4) ch_cX12_alike_32 rfl) (rdb (p := 32) (i := 5) ch_cX12_alike_32 rfl) (by decide +kernel)
theorem dX12_alike_38 : decode cX12_alike 38 = .ok (.aload_n 0, 1) := do_42 (rdb (p := 32) (i := 6) ch_cX12_alike_32 rfl)
theorem dX12_alike_39 : decode cX12_alike 39 = .ok (.ldc 103, 2) := do_18 (rdb (p := 32) (i := 7) ch_cX12_alike_32 rfl) (rdb (p := 32) (i := 8) ch_cX12_alike_32 rfl)
theorem dX12_alike_41 : decode cX12_alike 41 = .ok (.invokevirtual 104, 3) := do_182 (rdb (p := 32) (i := 9) ch_cX12_alike_32 rfl) (rdb (p := 32) (i := 10) ch_cX12_alike_32 rfl) (rdb (p := 32) (i := 11) ch_cX12_alike_32 rfl) rfl
theorem dX12_alike_44 : decode cX12_alike 44 = .ok (.ireturn, 1) := do_172 (rdb (p := 32) (i := 12) ch_cX12_alike_32 rfl)
theorem dX12_alike_45 : decode cX12_alike 45 = .ok (.iconst 0, 1) := do_3 (rdb (p := 32) (i := 13) ch_cX12_alike_32 rfl)
theorem dX12_alike_46 : decode cX12_alike 46 = .ok (.istore 6, 2) := do_54 (rdb (p := 32) (i := 14) ch_cX12_alike_32 rfl) (rdb (p := 32) (i := 15) ch_cX12_alike_32 rfl)
theorem dX12_alike_48 : decode cX12_alike 48 = .ok (.iconst 0, 1) := do_3 (rdb (p := 32) (i := 16) ch_cX12_alike_32 rfl)
theorem dX12_alike_49 : decode cX12_alike 49 = .ok (.istore 7, 2) := do_54 (rdb (p := 32) (i := 17) ch_cX12_alike_32 rfl) (rdb (p := 32) (i := 18) ch_cX12_alike_32 rfl)
theorem dX12_alike_51 : decode cX12_alike 51 = .ok (.iload 7, 2) := do_21 (rdb (p := 32) (i := 19) ch_cX12_alike_32 rfl) (rdb (p := 32) (i := 20) ch_cX12_alike_32 rfl)
theorem dX12_alike_53 : decode cX12_alike 53 = .ok (.iconst 5, 1) := do_8 (rdb (p := 32) (i := 21) ch_cX12_alike_32 rfl)
theorem dX12_alike_54 : decode cX12_alike 54 = .ok (.if_icmp .ge 79, 3) := do_162 (rdb (p := 32) (i := 22) ch_cX12_alike_32 rfl) (rdb (p := 32) (i := 23) ch_cX12_alike_32 rfl) (rdb (p := 32) (i := 24) ch_cX12_alike_32 rfl) (by decide +kernel)
theorem dX12_alike_57 : decode cX12_alike 57 = .ok (.aload_n 0, 1) := do_42 (rdb (p := 32) (i := 25) ch_cX12_alike_32 rfl)
theorem dX12_alike_58 : decode cX12_alike 58 = .ok (.iload 7, 2) := do_21 (rdb (p := 32) (i := 26) ch_cX12_alike_32 rfl) (rdb (p := 32) (i := 27) ch_cX12_alike_32 rfl)
theorem dX12_alike_60 : decode cX12_alike 60 = .ok (.iload_n 2, 1) := do_28 (rdb (p := 32) (i := 28) ch_cX12_alike_32 rfl)
theorem dX12_alike_61 : decode cX12_alike 61 = .ok (.bipush 100, 2) := do_16 (rdb (p := 32) (i := 29) ch_cX12_alike_32 rfl) (rdb (p := 32) (i := 30) ch_cX12_alike_32 rfl) (by decide +kernel)
theorem dX12_alike_63 : decode cX12_alike 63 = .ok (.idiv, 1) := do_108 (rdb (p := 32) (i := 31) ch_cX12_alike_32 rfl)
theorem ch_cX12_alike_64 : (cX12_alike.data.toList.drop 64).take 36 = [28, 16, 100, 112, 29, 182, 0, 230, 21, 5, 160, 0, 32, 42, 42, 27, 182, 0, 143, 21, 7, 28, 16, 100, 108, 28, 16, 100, 112, 21, 4, 29, 182, 0, 249, 153] := by decide +kernel
theorem dX12_alike_64 : decode cX12_alike 64 = .ok (.iload_n 2, 1) := do_28 (rdb (p := 64) (i := 0) ch_cX12_alike_64 rfl)
theorem dX12_alike_65 : decode cX12_alike 65 = .ok (.bipush 100, 2) := do_16 (rdb (p := 64) (i := 1) ch_cX12_alike_64 rfl) (rdb (p := 64) (i := 2) ch_cX12_alike_64 rfl) (by decide +kernel)
theorem dX12_alike_67 : decode cX12_alike 67 = .ok (.irem, 1) := do_112 (rdb (p := 64) (i := 3) ch_cX12_alike_64 rfl)
theorem dX12_alike_68 : decode cX12_alike 68 = .ok (.iload_n 3, 1) := do_29 (rdb (p := 64) (i := 4) ch_cX12_alike_64 rfl)
theorem dX12_alike_69 : decode cX12_alike 69 = .ok (.invokevirtual 230, 3) := do_182 (rdb (p := 64) (i := 5) ch_cX12_alike_64 rfl) (rdb (p := 64) (i := 6) ch_cX12_alike_64 rfl) (rdb (p := 64) (i := 7) ch_cX12_alike_64 rfl) rfl
theorem dX12_alike_72 : decode cX12_alike 72 = .ok (.iload 5, 2) := do_21 (rdb (p := 64) (i := 8) ch_cX12_alike_64 rfl) (rdb (p := 64) (i := 9) ch_cX12_alike_64 rfl)
theorem dX12_alike_74 : decode cX12_alike 74 = .ok (.if_icmp .ne 32, 3) := do_160 (rdb (p := 64) (i := 10) ch_cX12_alike_64 rfl) (rdb (p := 64) (i := 11) ch_cX12_alike_64 rfl) (rdb (p := 64) (i := 12) ch_cX12_alike_64 rfl) (by decide +kernel)
theorem dX12_alike_77 : decode cX12_alike 77 = .ok (.aload_n 0, 1) := do_42 (rdb (p := 64) (i := 13) ch_cX12_alike_64 rfl)
theorem dX12_alike_78 : decode cX12_alike 78 = .ok (.aload_n 0, 1) := do_42 (rdb (p := 64) (i := 14) ch_cX12_alike_64 rfl)
theorem dX12_alike_79 : decode cX12_alike 79 = .ok (.iload_n 1, 1) := do_27 (rdb (p := 64) (i := 15) ch_cX12_alike_64 rfl)
theorem dX12_alike_80 : decode cX12_alike 80 = .ok (.invokevirtual 143, 3) := do_182 (rdb (p := 64) (i := 16) ch_cX12_alike_64 rfl) (rdb (p := 64) (i := 17) ch_cX12_alike_64 rfl) (rdb (p := 64) (i := 18) ch_cX12_alike_64 rfl) rfl
theorem dX12_alike_83 : decode cX12_alike 83 = .ok (.iload 7, 2) := do_21 (rdb (p := 64) (i := 19) ch_cX12_alike_64 rfl) (rdb (p := 64) (i := 20) ch_cX12_alike_64 rfl)
theorem dX12_alike_85 : decode cX12_alike 85 = .ok (.iload_n 2, 1) := do_28 (rdb (p := 64) (i := 21) ch_cX12_alike_64 rfl)
theorem dX12_alike_86 : decode cX12_alike 86 = .ok (.bipush 100, 2) := do_16 (rdb (p := 64) (i := 22) ch_cX12_alike_64 rfl) (rdb (p := 64) (i := 23) ch_cX12_alike_64 rfl) (by decide +kernel)
theorem dX12_alike_88 : decode cX12_alike 88 = .ok (.idiv, 1) := do_108 (rdb (p := 64) (i := 24) ch_cX12_alike_64 rfl)
theorem dX12_alike_89 : decode cX12_alike 89 = .ok (.iload_n 2, 1) := do_28 (rdb (p := 64) (i := 25) ch_cX12_alike_64 rfl)
theorem dX12_alike_90 : decode cX12_alike 90 = .ok (.bipush 100, 2) := do_16 (rdb (p := 64) (i := 26) ch_cX12_alike_64 rfl) (rdb (p := 64) (i := 27) ch_cX12_alike_64 rfl) (by decide +kernel)
theorem dX12_alike_92 : decode cX12_alike 92 = .ok (.irem, 1) := do_112 (rdb (p := 64) (i := 28) ch_cX12_alike_64 rfl)
theorem dX12_alike_93 : decode cX12_alike 93 = .ok (.iload 4, 2) := do_21 (rdb (p := 64) (i := 29) ch_cX12_alike_64 rfl) (rdb (p := 64) (i := 30) ch_cX12_alike_64 rfl)
theorem dX12_alike_95 : decode cX12_alike 95 = .ok (.iload_n 3, 1) := do_29 (rdb (p := 64) (i := 31) ch_cX12_alike_64 rfl)
theorem ch_cX12_alike_96 : (cX12_alike.data.toList.drop 96).take 36 = [182, 0, 249, 153, 0, 7, 4, 167, 0, 4, 3, 54, 8, 21, 6, 21, 8, 153, 0, 10, 4, 21, 7, 120, 167, 0, 4, 3, 128, 54, 6, 132, 7, 1, 167, 255] := by decide +kernel
theorem dX12_alike_96 : decode cX12_alike 96 = .ok (.invokevirtual 249, 3) := do_182 (rdb (p := 96) (i := 0) ch_cX12_alike_96 rfl) (rdb (p := 96) (i := 1) ch_cX12_alike_96 rfl) (rdb (p := 96) (i := 2) ch_cX12_alike_96 rfl) rfl
theorem dX12_alike_99 : decode cX12_alike 99 = .ok (.ifCond .eq 7, 3) := do_153 (rdb (p := 96) (i := 3) ch_cX12_alike_96 rfl) (rdb (p := 96) (i := 4) ch_cX12_alike_96 rfl) (rdb (p := 96) (i := 5) ch_cX12_alike_96 rfl) (by decide +kernel)
theorem dX12_alike_102 : decode cX12_alike 102 = .ok (.iconst 1, 1) := do_4 (rdb (p := 96) (i := 6) ch_cX12_alike_96 rfl)
theorem dX12_alike_103 : decode cX12_alike 103 = .ok (.goto 4, 3) := do_167 (rdb (p := 96) (i := 7) ch_cX12_alike_96 rfl) (rdb (p := 96) (i := 8) ch_cX12_alike_96 rfl) (rdb (p := 96) (i := 9) ch_cX12_alike_96 rfl) (by decide +kernel)
theorem dX12_alike_106 : decode cX12_alike 106 = .ok (.iconst 0, 1) := do_3 (rdb (p := 96) (i := 10) ch_cX12_alike_96 rfl)
theorem dX12_alike_107 : decode cX12_alike 107 = .ok (.istore 8, 2) := do_54 (rdb (p := 96) (i := 11) ch_cX12_alike_96 rfl) (rdb (p := 96) (i := 12) ch_cX12_alike_96 rfl)
theorem dX12_alike_109 : decode cX12_alike 109 = .ok (.iload 6, 2) := do_21 (rdb (p := 96) (i := 13) ch_cX12_alike_96 rfl) (rdb (p := 96) (i := 14) ch_cX12_alike_96 rfl)
theorem dX12_alike_111 : decode cX12_alike 111 = .ok (.iload 8, 2) := do_21 (rdb (p := 96) (i := 15) ch_cX12_alike_96 rfl) (rdb (p := 96) (i := 16) ch_cX12_alike_96 rfl)
theorem dX12_alike_113 : decode cX12_alike 113 = .ok (.ifCond .eq 10, 3) := do_153 (rdb (p := 96) (i := 17) ch_cX12_alike_96 rfl) (rdb (p := 96) (i := 18) ch_cX12_alike_96 rfl) (rdb (p := 96) (i := 19) ch_cX12_alike_96 rfl) (by decide +kernel)
theorem dX12_alike_116 : decode cX12_alike 116 = .ok (.iconst 1, 1) := do_4 (rdb (p := 96) (i := 20) ch_cX12_alike_96 rfl)
theorem dX12_alike_117 : decode cX12_alike 117 = .ok (.iload 7, 2) := do_21 (rdb (p := 96) (i := 21) ch_cX12_alike_96 rfl) (rdb (p := 96) (i := 22) ch_cX12_alike_96 rfl)
theorem dX12_alike_119 : decode cX12_alike 119 = .ok (.ishl, 1) := do_120 (rdb (p := 96) (i := 23) ch_cX12_alike_96 rfl)
theorem dX12_alike_120 : decode cX12_alike 120 = .ok (.goto 4, 3) := do_167 (rdb (p := 96) (i := 24) ch_cX12_alike_96 rfl) (rdb (p := 96) (i := 25) ch_cX12_alike_96 rfl) (rdb (p := 96) (i := 26) ch_cX12_alike_96 rfl) (by decide +kernel)
theorem dX12_alike_123 : decode cX12_alike 123 = .ok (.iconst 0, 1) := do_3 (rdb (p := 96) (i := 27) ch_cX12_alike_96 rfl)
theorem dX12_alike_124 : decode cX12_alike 124 = .ok (.ior, 1) := do_128 (rdb (p := 96) (i := 28) ch_cX12_alike_96 rfl)
theorem dX12_alike_125 : decode cX12_alike 125 = .ok (.istore 6, 2) := do_54 (rdb (p := 96) (i := 29) ch_cX12_alike_96 rfl) (rdb (p := 96) (i := 30) ch_cX12_alike_96 rfl)
theorem dX12_alike_127 : decode cX12_alike 127 = .ok (.iinc 7 1, 3) := do_132 (rdb (p := 96) (i := 31) ch_cX12_alike_96 rfl) (rdb (p := 96) (i := 32) ch_cX12_alike_96 rfl) (rdb (p := 96) (i := 33) ch_cX12_alike_96 rfl) (by decide +kernel)
theorem ch_cX12_alike_128 : (cX12_alike.data.toList.drop 128).take 36 = [7, 1, 167, 255, 177, 21, 6, 172] := by decide +kernel
theorem dX12_alike_130 : decode cX12_alike 130 = .ok (.goto (-79), 3) := do_167 (rdb (p := 128) (i := 2) ch_cX12_alike_128 rfl) (rdb (p := 128) (i := 3) ch_cX12_alike_128 rfl) (rdb (p := 128) (i := 4) ch_cX12_alike_128 rfl) (by decide +kernel)
theorem dX12_alike_133 : decode cX12_alike 133 = .ok (.iload 6, 2) := do_21 (rdb (p := 128) (i := 5) ch_cX12_alike_128 rfl) (rdb (p := 128) (i := 6) ch_cX12_alike_128 rfl)
theorem dX12_alike_135 : decode cX12_alike 135 = .ok (.ireturn, 1) := do_172 (rdb (p := 128) (i := 7) ch_cX12_alike_128 rfl)
theorem ch_cX12_click_0 : (cX12_click.data.toList.drop 0).take 36 = [42, 27, 5, 182, 0, 116, 154, 0, 10, 42, 18, 103, 182, 0, 104, 172, 42, 27, 182, 0, 137, 4, 184, 0, 146, 153, 0, 11, 42, 27, 182, 1, 10, 167, 0, 9] := by decide +kernel
theorem dX12_click_0 : decode cX12_click 0 = .ok (.aload_n 0, 1) := do_42 (rdb (p := 0) (i := 0) ch_cX12_click_0 rfl)
theorem dX12_click_1 : decode cX12_click 1 = .ok (.iload_n 1, 1) := do_27 (rdb (p := 0) (i := 1) ch_cX12_click_0 rfl)
theorem dX12_click_2 : decode cX12_click 2 = .ok (.iconst 2, 1) := do_5 (rdb (p := 0) (i := 2) ch_cX12_click_0 rfl)
theorem dX12_click_3 : decode cX12_click 3 = .ok (.invokevirtual 116, 3) := do_182 (rdb (p := 0) (i := 3) ch_cX12_click_0 rfl) (rdb (p := 0) (i := 4) ch_cX12_click_0 rfl) (rdb (p := 0) (i := 5) ch_cX12_click_0 rfl) rfl
theorem dX12_click_6 : decode cX12_click 6 = .ok (.ifCond .ne 10, 3) := do_154 (rdb (p := 0) (i := 6) ch_cX12_click_0 rfl) (rdb (p := 0) (i := 7) ch_cX12_click_0 rfl) (rdb (p := 0) (i := 8) ch_cX12_click_0 rfl) (by decide +kernel)
theorem dX12_click_9 : decode cX12_click 9 = .ok (.aload_n 0, 1) := do_42 (rdb (p := 0) (i := 9) ch_cX12_click_0 rfl)
theorem dX12_click_10 : decode cX12_click 10 = .ok (.ldc 103, 2) := do_18 (rdb (p := 0) (i := 10) ch_cX12_click_0 rfl) (rdb (p := 0) (i := 11) ch_cX12_click_0 rfl)
theorem dX12_click_12 : decode cX12_click 12 = .ok (.invokevirtual 104, 3) := do_182 (rdb (p := 0) (i := 12) ch_cX12_click_0 rfl) (rdb (p := 0) (i := 13) ch_cX12_click_0 rfl) (rdb (p := 0) (i := 14) ch_cX12_click_0 rfl) rfl
theorem dX12_click_15 : decode cX12_click 15 = .ok (.ireturn, 1) := do_172 (rdb (p := 0) (i := 15) ch_cX12_click_0 rfl)
theorem dX12_click_16 : decode cX12_click 16 = .ok (.aload_n 0, 1) := do_42 (rdb (p := 0) (i := 16) ch_cX12_click_0 rfl)
theorem dX12_click_17 : decode cX12_click 17 = .ok (.iload_n 1, 1) := do_27 (rdb (p := 0) (i := 17) ch_cX12_click_0 rfl)
theorem dX12_click_18 : decode cX12_click 18 = .ok (.invokevirtual 137, 3) := do_182 (rdb (p := 0) (i := 18) ch_cX12_click_0 rfl) (rdb (p := 0) (i := 19) ch_cX12_click_0 rfl) (rdb (p := 0) (i := 20) ch_cX12_click_0 rfl) rfl
theorem dX12_click_21 : decode cX12_click 21 = .ok (.iconst 1, 1) := do_4 (rdb (p := 0) (i := 21) ch_cX12_click_0 rfl)
theorem dX12_click_22 : decode cX12_click 22 = .ok (.invokestatic 146, 3) := do_184 (rdb (p := 0) (i := 22) ch_cX12_click_0 rfl) (rdb (p := 0) (i := 23) ch_cX12_click_0 rfl) (rdb (p := 0) (i := 24) ch_cX12_click_0 rfl) rfl
theorem dX12_click_25 : decode cX12_click 25 = .ok (.ifCond .eq 11, 3) := do_153 (rdb (p := 0) (i := 25) ch_cX12_click_0 rfl) (rdb (p := 0) (i := 26) ch_cX12_click_0 rfl) (rdb (p := 0) (i := 27) ch_cX12_click_0 rfl) (by decide +kernel)
theorem dX12_click_28 : decode cX12_click 28 = .ok (.aload_n 0, 1) := do_42 (rdb (p := 0) (i := 28) ch_cX12_click_0 rfl)
theorem dX12_click_29 : decode cX12_click 29 = .ok (.iload_n 1, 1) := do_27 (rdb (p := 0) (i := 29) ch_cX12_click_0 rfl)
theorem dX12_click_30 : decode cX12_click 30 = .ok (.invokevirtual 266, 3) := do_182 (rdb (p := 0) (i := 30) ch_cX12_click_0 rfl) (rdb (p := 0) (i := 31) ch_cX12_click_0 rfl) (rdb (p := 0) (i := 32) ch_cX12_click_0 rfl) rfl
theorem ch_cX12_click_32 : (cX12_click.data.toList.drop 32).take 36 = [10, 167, 0, 9, 42, 18, 123, 182, 0, 104, 172] := by decide +kernel
theorem dX12_click_33 : decode cX12_click 33 = .ok (.goto 9, 3) := do_167 (rdb (p := 32) (i := 1) ch_cX12_click_32 rfl) (rdb (p := 32) (i := 2) ch_cX12_click_32 rfl) (rdb (p := 32) (i := 3) ch_cX12_click_32 rfl) (by decide +kernel)
theorem dX12_click_36 : decode cX12_click 36 = .ok (.aload_n 0, 1) := do_42 (rdb (p := 32) (i := 4) ch_cX12_click_32 rfl)
theorem dX12_click_37 : decode cX12_click 37 = .ok (.ldc 123, 2) := do_18 (rdb (p := 32) (i := 5) ch_cX12_click_32 rfl) (rdb (p := 32) (i := 6) ch_cX12_click_32 rfl)
theorem dX12_click_39 : decode cX12_click 39 = .ok (.invokevirtual 104, 3) := do_182 (rdb (p := 32) (i := 7) ch_cX12_click_32 rfl) (rdb (p := 32) (i := 8) ch_cX12_click_32 rfl) (rdb (p := 32) (i := 9) ch_cX12_click_32 rfl) rfl
theorem dX12_click_42 : decode cX12_click 42 = .ok (.ireturn, 1) := do_172 (rdb (p := 32) (i := 10) ch_cX12_click_32 rfl)
theorem ch_cX12_clicks_0 : (cX12_clicks.data.toList.drop 0).take 36 = [42, 180, 0, 9, 42, 27, 182, 0, 93, 4, 96, 46, 61, 3, 62, 42, 180, 0, 9, 42, 27, 182, 0, 93, 16, 8, 96, 92, 46, 4, 96, 79, 3, 54, 4, 21] := by decide +kernel
theorem dX12_clicks_0 : decode cX12_clicks 0 = .ok (.aload_n 0, 1) := do_42 (rdb (p := 0) (i := 0) ch_cX12_clicks_0 rfl)
theorem dX12_clicks_1 : decode cX12_clicks 1 = .ok (.getfield 9, 3) := do_180 (rdb (p := 0) (i := 1) ch_cX12_clicks_0 rfl) (rdb (p := 0) (i := 2) ch_cX12_clicks_0 rfl) (rdb (p := 0) (i := 3) ch_cX12_clicks_0 rfl) rfl
theorem dX12_clicks_4 : decode cX12_clicks 4 = .ok (.aload_n 0, 1) := do_42 (rdb (p := 0) (i := 4) ch_cX12_clicks_0 rfl)
theorem dX12_clicks_5 : decode cX12_clicks 5 = .ok (.iload_n 1, 1) := do_27 (rdb (p := 0) (i := 5) ch_cX12_clicks_0 rfl)
theorem dX12_clicks_6 : decode cX12_clicks 6 = .ok (.invokevirtual 93, 3) := do_182 (rdb (p := 0) (i := 6) ch_cX12_clicks_0 rfl) (rdb (p := 0) (i := 7) ch_cX12_clicks_0 rfl) (rdb (p := 0) (i := 8) ch_cX12_clicks_0 rfl) rfl
theorem dX12_clicks_9 : decode cX12_clicks 9 = .ok (.iconst 1, 1) := do_4 (rdb (p := 0) (i := 9) ch_cX12_clicks_0 rfl)
theorem dX12_clicks_10 : decode cX12_clicks 10 = .ok (.iadd, 1) := do_96 (rdb (p := 0) (i := 10) ch_cX12_clicks_0 rfl)
theorem dX12_clicks_11 : decode cX12_clicks 11 = .ok (.iaload, 1) := do_46 (rdb (p := 0) (i := 11) ch_cX12_clicks_0 rfl)
theorem dX12_clicks_12 : decode cX12_clicks 12 = .ok (.istore_n 2, 1) := do_61 (rdb (p := 0) (i := 12) ch_cX12_clicks_0 rfl)
theorem dX12_clicks_13 : decode cX12_clicks 13 = .ok (.iconst 0, 1) := do_3 (rdb (p := 0) (i := 13) ch_cX12_clicks_0 rfl)
theorem dX12_clicks_14 : decode cX12_clicks 14 = .ok (.istore_n 3, 1) := do_62 (rdb (p := 0) (i := 14) ch_cX12_clicks_0 rfl)
theorem dX12_clicks_15 : decode cX12_clicks 15 = .ok (.aload_n 0, 1) := do_42 (rdb (p := 0) (i := 15) ch_cX12_clicks_0 rfl)
theorem dX12_clicks_16 : decode cX12_clicks 16 = .ok (.getfield 9, 3) := do_180 (rdb (p := 0) (i := 16) ch_cX12_clicks_0 rfl) (rdb (p := 0) (i := 17) ch_cX12_clicks_0 rfl) (rdb (p := 0) (i := 18) ch_cX12_clicks_0 rfl) rfl
theorem dX12_clicks_19 : decode cX12_clicks 19 = .ok (.aload_n 0, 1) := do_42 (rdb (p := 0) (i := 19) ch_cX12_clicks_0 rfl)
theorem dX12_clicks_20 : decode cX12_clicks 20 = .ok (.iload_n 1, 1) := do_27 (rdb (p := 0) (i := 20) ch_cX12_clicks_0 rfl)
theorem dX12_clicks_21 : decode cX12_clicks 21 = .ok (.invokevirtual 93, 3) := do_182 (rdb (p := 0) (i := 21) ch_cX12_clicks_0 rfl) (rdb (p := 0) (i := 22) ch_cX12_clicks_0 rfl) (rdb (p := 0) (i := 23) ch_cX12_clicks_0 rfl) rfl
theorem dX12_clicks_24 : decode cX12_clicks 24 = .ok (.bipush 8, 2) := do_16 (rdb (p := 0) (i := 24) ch_cX12_clicks_0 rfl) (rdb (p := 0) (i := 25) ch_cX12_clicks_0 rfl) (by decide +kernel)
theorem dX12_clicks_26 : decode cX12_clicks 26 = .ok (.iadd, 1) := do_96 (rdb (p := 0) (i := 26) ch_cX12_clicks_0 rfl)
theorem dX12_clicks_27 : decode cX12_clicks 27 = .ok (.dup2, 1) := do_92 (rdb (p := 0) (i := 27) ch_cX12_clicks_0 rfl)
theorem dX12_clicks_28 : decode cX12_clicks 28 = .ok (.iaload, 1) := do_46 (rdb (p := 0) (i := 28) ch_cX12_clicks_0 rfl)
theorem dX12_clicks_29 : decode cX12_clicks 29 = .ok (.iconst 1, 1) := do_4 (rdb (p := 0) (i := 29) ch_cX12_clicks_0 rfl)
theorem dX12_clicks_30 : decode cX12_clicks 30 = .ok (.iadd, 1) := do_96 (rdb (p := 0) (i := 30) ch_cX12_clicks_0 rfl)
theorem dX12_clicks_31 : decode cX12_clicks 31 = .ok (.iastore, 1) := do_79 (rdb (p := 0) (i := 31) ch_cX12_clicks_0 rfl)
theorem ch_cX12_clicks_32 : (cX12_clicks.data.toList.drop 32).take 36 = [3, 54, 4, 21, 4, 16, 8, 162, 0, 81, 42, 27, 28, 21, 4, 182, 1, 0, 54, 5, 4, 54, 6, 21, 6, 21, 5, 162, 0, 28, 42, 42, 27, 42, 28, 21] := by decide +kernel
theorem dX12_clicks_32 : decode cX12_clicks 32 = .ok (.iconst 0, 1) := do_3 (rdb (p := 32) (i := 0) ch_cX12_clicks_32 rfl)
theorem dX12_clicks_33 : decode cX12_clicks 33 = .ok (.istore 4, 2) := do_54 (rdb (p := 32) (i := 1) ch_cX12_clicks_32 rfl) (rdb (p := 32) (i := 2) ch_cX12_clicks_32 rfl)
theorem dX12_clicks_35 : decode cX12_clicks 35 = .ok (.iload 4, 2) := do_21 (rdb (p := 32) (i := 3) ch_cX12_clicks_32 rfl) (rdb (p := 32) (i := 4) ch_cX12_clicks_32 rfl)
theorem dX12_clicks_37 : decode cX12_clicks 37 = .ok (.bipush 8, 2) := do_16 (rdb (p := 32) (i := 5) ch_cX12_clicks_32 rfl) (rdb (p := 32) (i := 6) ch_cX12_clicks_32 rfl) (by decide +kernel)
theorem dX12_clicks_39 : decode cX12_clicks 39 = .ok (.if_icmp .ge 81, 3) := do_162 (rdb (p := 32) (i := 7) ch_cX12_clicks_32 rfl) (rdb (p := 32) (i := 8) ch_cX12_clicks_32 rfl) (rdb (p := 32) (i := 9) ch_cX12_clicks_32 rfl) (by decide +kernel)
theorem dX12_clicks_42 : decode cX12_clicks 42 = .ok (.aload_n 0, 1) := do_42 (rdb (p := 32) (i := 10) ch_cX12_clicks_32 rfl)
theorem dX12_clicks_43 : decode cX12_clicks 43 = .ok (.iload_n 1, 1) := do_27 (rdb (p := 32) (i := 11) ch_cX12_clicks_32 rfl)
theorem dX12_clicks_44 : decode cX12_clicks 44 = .ok (.iload_n 2, 1) := do_28 (rdb (p := 32) (i := 12) ch_cX12_clicks_32 rfl)
theorem dX12_clicks_45 : decode cX12_clicks 45 = .ok (.iload 4, 2) := do_21 (rdb (p := 32) (i := 13) ch_cX12_clicks_32 rfl) (rdb (p := 32) (i := 14) ch_cX12_clicks_32 rfl)
theorem dX12_clicks_47 : decode cX12_clicks 47 = .ok (.invokevirtual 256, 3) := do_182 (rdb (p := 32) (i := 15) ch_cX12_clicks_32 rfl) (rdb (p := 32) (i := 16) ch_cX12_clicks_32 rfl) (rdb (p := 32) (i := 17) ch_cX12_clicks_32 rfl) rfl
theorem dX12_clicks_50 : decode cX12_clicks 50 = .ok (.istore 5, 2) := do_54 (rdb (p := 32) (i := 18) ch_cX12_clicks_32 rfl) (rdb (p := 32) (i := 19) ch_cX12_clicks_32 rfl)
theorem dX12_clicks_52 : decode cX12_clicks 52 = .ok (.iconst 1, 1) := do_4 (rdb (p := 32) (i := 20) ch_cX12_clicks_32 rfl)
theorem dX12_clicks_53 : decode cX12_clicks 53 = .ok (.istore 6, 2) := do_54 (rdb (p := 32) (i := 21) ch_cX12_clicks_32 rfl) (rdb (p := 32) (i := 22) ch_cX12_clicks_32 rfl)
theorem dX12_clicks_55 : decode cX12_clicks 55 = .ok (.iload 6, 2) := do_21 (rdb (p := 32) (i := 23) ch_cX12_clicks_32 rfl) (rdb (p := 32) (i := 24) ch_cX12_clicks_32 rfl)
theorem dX12_clicks_57 : decode cX12_clicks 57 = .ok (.iload 5, 2) := do_21 (rdb (p := 32) (i := 25) ch_cX12_clicks_32 rfl) (rdb (p := 32) (i := 26) ch_cX12_clicks_32 rfl)
theorem dX12_clicks_59 : decode cX12_clicks 59 = .ok (.if_icmp .ge 28, 3) := do_162 (rdb (p := 32) (i := 27) ch_cX12_clicks_32 rfl) (rdb (p := 32) (i := 28) ch_cX12_clicks_32 rfl) (rdb (p := 32) (i := 29) ch_cX12_clicks_32 rfl) (by decide +kernel)
theorem dX12_clicks_62 : decode cX12_clicks 62 = .ok (.aload_n 0, 1) := do_42 (rdb (p := 32) (i := 30) ch_cX12_clicks_32 rfl)
theorem dX12_clicks_63 : decode cX12_clicks 63 = .ok (.aload_n 0, 1) := do_42 (rdb (p := 32) (i := 31) ch_cX12_clicks_32 rfl)
theorem ch_cX12_clicks_64 : (cX12_clicks.data.toList.drop 64).take 36 = [27, 42, 28, 21, 4, 21, 6, 182, 0, 234, 182, 1, 3, 4, 182, 1, 6, 132, 6, 1, 167, 255, 227, 21, 5, 158, 0, 25, 42, 42, 27, 42, 28, 21, 4, 21] := by decide +kernel
theorem dX12_clicks_64 : decode cX12_clicks 64 = .ok (.iload_n 1, 1) := do_27 (rdb (p := 64) (i := 0) ch_cX12_clicks_64 rfl)
theorem dX12_clicks_65 : decode cX12_clicks 65 = .ok (.aload_n 0, 1) := do_42 (rdb (p := 64) (i := 1) ch_cX12_clicks_64 rfl)
theorem dX12_clicks_66 : decode cX12_clicks 66 = .ok (.iload_n 2, 1) := do_28 (rdb (p := 64) (i := 2) ch_cX12_clicks_64 rfl)
theorem dX12_clicks_67 : decode cX12_clicks 67 = .ok (.iload 4, 2) := do_21 (rdb (p := 64) (i := 3) ch_cX12_clicks_64 rfl) (rdb (p := 64) (i := 4) ch_cX12_clicks_64 rfl)
theorem dX12_clicks_69 : decode cX12_clicks 69 = .ok (.iload 6, 2) := do_21 (rdb (p := 64) (i := 5) ch_cX12_clicks_64 rfl) (rdb (p := 64) (i := 6) ch_cX12_clicks_64 rfl)
theorem dX12_clicks_71 : decode cX12_clicks 71 = .ok (.invokevirtual 234, 3) := do_182 (rdb (p := 64) (i := 7) ch_cX12_clicks_64 rfl) (rdb (p := 64) (i := 8) ch_cX12_clicks_64 rfl) (rdb (p := 64) (i := 9) ch_cX12_clicks_64 rfl) rfl
theorem dX12_clicks_74 : decode cX12_clicks 74 = .ok (.invokevirtual 259, 3) := do_182 (rdb (p := 64) (i := 10) ch_cX12_clicks_64 rfl) (rdb (p := 64) (i := 11) ch_cX12_clicks_64 rfl) (rdb (p := 64) (i := 12) ch_cX12_clicks_64 rfl) rfl
theorem dX12_clicks_77 : decode cX12_clicks 77 = .ok (.iconst 1, 1) := do_4 (rdb (p := 64) (i := 13) ch_cX12_clicks_64 rfl)
theorem dX12_clicks_78 : decode cX12_clicks 78 = .ok (.invokevirtual 262, 3) := do_182 (rdb (p := 64) (i := 14) ch_cX12_clicks_64 rfl) (rdb (p := 64) (i := 15) ch_cX12_clicks_64 rfl) (rdb (p := 64) (i := 16) ch_cX12_clicks_64 rfl) rfl
theorem dX12_clicks_81 : decode cX12_clicks 81 = .ok (.iinc 6 1, 3) := do_132 (rdb (p := 64) (i := 17) ch_cX12_clicks_64 rfl) (rdb (p := 64) (i := 18) ch_cX12_clicks_64 rfl) (rdb (p := 64) (i := 19) ch_cX12_clicks_64 rfl) (by decide +kernel)
theorem dX12_clicks_84 : decode cX12_clicks 84 = .ok (.goto (-29), 3) := do_167 (rdb (p := 64) (i := 20) ch_cX12_clicks_64 rfl) (rdb (p := 64) (i := 21) ch_cX12_clicks_64 rfl) (rdb (p := 64) (i := 22) ch_cX12_clicks_64 rfl) (by decide +kernel)
theorem dX12_clicks_87 : decode cX12_clicks 87 = .ok (.iload 5, 2) := do_21 (rdb (p := 64) (i := 23) ch_cX12_clicks_64 rfl) (rdb (p := 64) (i := 24) ch_cX12_clicks_64 rfl)
theorem dX12_clicks_89 : decode cX12_clicks 89 = .ok (.ifCond .le 25, 3) := do_158 (rdb (p := 64) (i := 25) ch_cX12_clicks_64 rfl) (rdb (p := 64) (i := 26) ch_cX12_clicks_64 rfl) (rdb (p := 64) (i := 27) ch_cX12_clicks_64 rfl) (by decide +kernel)
theorem dX12_clicks_92 : decode cX12_clicks 92 = .ok (.aload_n 0, 1) := do_42 (rdb (p := 64) (i := 28) ch_cX12_clicks_64 rfl)
theorem dX12_clicks_93 : decode cX12_clicks 93 = .ok (.aload_n 0, 1) := do_42 (rdb (p := 64) (i := 29) ch_cX12_clicks_64 rfl)
theorem dX12_clicks_94 : decode cX12_clicks 94 = .ok (.iload_n 1, 1) := do_27 (rdb (p := 64) (i := 30) ch_cX12_clicks_64 rfl)
theorem dX12_clicks_95 : decode cX12_clicks 95 = .ok (.aload_n 0, 1) := do_42 (rdb (p := 64) (i := 31) ch_cX12_clicks_64 rfl)
theorem ch_cX12_clicks_96 : (cX12_clicks.data.toList.drop 96).take 36 = [28, 21, 4, 21, 5, 182, 0, 234, 182, 0, 253, 4, 182, 1, 6, 132, 3, 1, 132, 4, 1, 167, 255, 174, 29, 172] := by decide +kernel
theorem dX12_clicks_96 : decode cX12_clicks 96 = .ok (.iload_n 2, 1) := do_28 (rdb (p := 96) (i := 0) ch_cX12_clicks_96 rfl)
theorem dX12_clicks_97 : decode cX12_clicks 97 = .ok (.iload 4, 2) := do_21 (rdb (p := 96) (i := 1) ch_cX12_clicks_96 rfl) (rdb (p := 96) (i := 2) ch_cX12_clicks_96 rfl)
theorem dX12_clicks_99 : decode cX12_clicks 99 = .ok (.iload 5, 2) := do_21 (rdb (p := 96) (i := 3) ch_cX12_clicks_96 rfl) (rdb (p := 96) (i := 4) ch_cX12_clicks_96 rfl)
theorem dX12_clicks_101 : decode cX12_clicks 101 = .ok (.invokevirtual 234, 3) := do_182 (rdb (p := 96) (i := 5) ch_cX12_clicks_96 rfl) (rdb (p := 96) (i := 6) ch_cX12_clicks_96 rfl) (rdb (p := 96) (i := 7) ch_cX12_clicks_96 rfl) rfl
theorem dX12_clicks_104 : decode cX12_clicks 104 = .ok (.invokevirtual 253, 3) := do_182 (rdb (p := 96) (i := 8) ch_cX12_clicks_96 rfl) (rdb (p := 96) (i := 9) ch_cX12_clicks_96 rfl) (rdb (p := 96) (i := 10) ch_cX12_clicks_96 rfl) rfl
theorem dX12_clicks_107 : decode cX12_clicks 107 = .ok (.iconst 1, 1) := do_4 (rdb (p := 96) (i := 11) ch_cX12_clicks_96 rfl)
theorem dX12_clicks_108 : decode cX12_clicks 108 = .ok (.invokevirtual 262, 3) := do_182 (rdb (p := 96) (i := 12) ch_cX12_clicks_96 rfl) (rdb (p := 96) (i := 13) ch_cX12_clicks_96 rfl) (rdb (p := 96) (i := 14) ch_cX12_clicks_96 rfl) rfl
theorem dX12_clicks_111 : decode cX12_clicks 111 = .ok (.iinc 3 1, 3) := do_132 (rdb (p := 96) (i := 15) ch_cX12_clicks_96 rfl) (rdb (p := 96) (i := 16) ch_cX12_clicks_96 rfl) (rdb (p := 96) (i := 17) ch_cX12_clicks_96 rfl) (by decide +kernel)
theorem dX12_clicks_114 : decode cX12_clicks 114 = .ok (.iinc 4 1, 3) := do_132 (rdb (p := 96) (i := 18) ch_cX12_clicks_96 rfl) (rdb (p := 96) (i := 19) ch_cX12_clicks_96 rfl) (rdb (p := 96) (i := 20) ch_cX12_clicks_96 rfl) (by decide +kernel)
theorem dX12_clicks_117 : decode cX12_clicks 117 = .ok (.goto (-82), 3) := do_167 (rdb (p := 96) (i := 21) ch_cX12_clicks_96 rfl) (rdb (p := 96) (i := 22) ch_cX12_clicks_96 rfl) (rdb (p := 96) (i := 23) ch_cX12_clicks_96 rfl) (by decide +kernel)
theorem dX12_clicks_120 : decode cX12_clicks 120 = .ok (.iload_n 3, 1) := do_29 (rdb (p := 96) (i := 24) ch_cX12_clicks_96 rfl)
theorem dX12_clicks_121 : decode cX12_clicks 121 = .ok (.ireturn, 1) := do_172 (rdb (p := 96) (i := 25) ch_cX12_clicks_96 rfl)
theorem ch_cX12_echo_0 : (cX12_echo.data.toList.drop 0).take 36 = [42, 27, 5, 182, 0, 116, 153, 0, 28, 42, 28, 182, 0, 237, 153, 0, 20, 29, 184, 0, 120, 153, 0, 13, 21, 4, 3, 8, 184, 0, 85, 154, 0, 10, 42, 18] := by decide +kernel
theorem dX12_echo_0 : decode cX12_echo 0 = .ok (.aload_n 0, 1) := do_42 (rdb (p := 0) (i := 0) ch_cX12_echo_0 rfl)
theorem dX12_echo_1 : decode cX12_echo 1 = .ok (.iload_n 1, 1) := do_27 (rdb (p := 0) (i := 1) ch_cX12_echo_0 rfl)
theorem dX12_echo_2 : decode cX12_echo 2 = .ok (.iconst 2, 1) := do_5 (rdb (p := 0) (i := 2) ch_cX12_echo_0 rfl)
theorem dX12_echo_3 : decode cX12_echo 3 = .ok (.invokevirtual 116, 3) := do_182 (rdb (p := 0) (i := 3) ch_cX12_echo_0 rfl) (rdb (p := 0) (i := 4) ch_cX12_echo_0 rfl) (rdb (p := 0) (i := 5) ch_cX12_echo_0 rfl) rfl
theorem dX12_echo_6 : decode cX12_echo 6 = .ok (.ifCond .eq 28, 3) := do_153 (rdb (p := 0) (i := 6) ch_cX12_echo_0 rfl) (rdb (p := 0) (i := 7) ch_cX12_echo_0 rfl) (rdb (p := 0) (i := 8) ch_cX12_echo_0 rfl) (by decide +kernel)
theorem dX12_echo_9 : decode cX12_echo 9 = .ok (.aload_n 0, 1) := do_42 (rdb (p := 0) (i := 9) ch_cX12_echo_0 rfl)
theorem dX12_echo_10 : decode cX12_echo 10 = .ok (.iload_n 2, 1) := do_28 (rdb (p := 0) (i := 10) ch_cX12_echo_0 rfl)
theorem dX12_echo_11 : decode cX12_echo 11 = .ok (.invokevirtual 237, 3) := do_182 (rdb (p := 0) (i := 11) ch_cX12_echo_0 rfl) (rdb (p := 0) (i := 12) ch_cX12_echo_0 rfl) (rdb (p := 0) (i := 13) ch_cX12_echo_0 rfl) rfl
theorem dX12_echo_14 : decode cX12_echo 14 = .ok (.ifCond .eq 20, 3) := do_153 (rdb (p := 0) (i := 14) ch_cX12_echo_0 rfl) (rdb (p := 0) (i := 15) ch_cX12_echo_0 rfl) (rdb (p := 0) (i := 16) ch_cX12_echo_0 rfl) (by decide +kernel)
theorem dX12_echo_17 : decode cX12_echo 17 = .ok (.iload_n 3, 1) := do_29 (rdb (p := 0) (i := 17) ch_cX12_echo_0 rfl)
theorem dX12_echo_18 : decode cX12_echo 18 = .ok (.invokestatic 120, 3) := do_184 (rdb (p := 0) (i := 18) ch_cX12_echo_0 rfl) (rdb (p := 0) (i := 19) ch_cX12_echo_0 rfl) (rdb (p := 0) (i := 20) ch_cX12_echo_0 rfl) rfl
theorem dX12_echo_21 : decode cX12_echo 21 = .ok (.ifCond .eq 13, 3) := do_153 (rdb (p := 0) (i := 21) ch_cX12_echo_0 rfl) (rdb (p := 0) (i := 22) ch_cX12_echo_0 rfl) (rdb (p := 0) (i := 23) ch_cX12_echo_0 rfl) (by decide +kernel)
theorem dX12_echo_24 : decode cX12_echo 24 = .ok (.iload 4, 2) := do_21 (rdb (p := 0) (i := 24) ch_cX12_echo_0 rfl) (rdb (p := 0) (i := 25) ch_cX12_echo_0 rfl)
theorem dX12_echo_26 : decode cX12_echo 26 = .ok (.iconst 0, 1) := do_3 (rdb (p := 0) (i := 26) ch_cX12_echo_0 rfl)
theorem dX12_echo_27 : decode cX12_echo 27 = .ok (.iconst 5, 1) := do_8 (rdb (p := 0) (i := 27) ch_cX12_echo_0 rfl)
theorem dX12_echo_28 : decode cX12_echo 28 = .ok (.invokestatic 85, 3) := do_184 (rdb (p := 0) (i := 28) ch_cX12_echo_0 rfl) (rdb (p := 0) (i := 29) ch_cX12_echo_0 rfl) (rdb (p := 0) (i := 30) ch_cX12_echo_0 rfl) rfl
theorem dX12_echo_31 : decode cX12_echo 31 = .ok (.ifCond .ne 10, 3) := do_154 (rdb (p := 0) (i := 31) ch_cX12_echo_0 rfl) (rdb (p := 0) (i := 32) ch_cX12_echo_0 rfl) (rdb (p := 0) (i := 33) ch_cX12_echo_0 rfl) (by decide +kernel)
theorem ch_cX12_echo_32 : (cX12_echo.data.toList.drop 32).take 36 = [0, 10, 42, 18, 103, 182, 0, 104, 172, 42, 180, 0, 9, 42, 27, 182, 0, 93, 4, 96, 46, 54, 5, 42, 21, 5, 29, 42, 27, 182, 0, 140, 182, 0, 240, 54] := by decide +kernel
theorem dX12_echo_34 : decode cX12_echo 34 = .ok (.aload_n 0, 1) := do_42 (rdb (p := 32) (i := 2) ch_cX12_echo_32 rfl)
theorem dX12_echo_35 : decode cX12_echo 35 = .ok (.ldc 103, 2) := do_18 (rdb (p := 32) (i := 3) ch_cX12_echo_32 rfl) (rdb (p := 32) (i := 4) ch_cX12_echo_32 rfl)
theorem dX12_echo_37 : decode cX12_echo 37 = .ok (.invokevirtual 104, 3) := do_182 (rdb (p := 32) (i := 5) ch_cX12_echo_32 rfl) (rdb (p := 32) (i := 6) ch_cX12_echo_32 rfl) (rdb (p := 32) (i := 7) ch_cX12_echo_32 rfl) rfl
theorem dX12_echo_40 : decode cX12_echo 40 = .ok (.ireturn, 1) := do_172 (rdb (p := 32) (i := 8) ch_cX12_echo_32 rfl)
theorem dX12_echo_41 : decode cX12_echo 41 = .ok (.aload_n 0, 1) := do_42 (rdb (p := 32) (i := 9) ch_cX12_echo_32 rfl)
theorem dX12_echo_42 : decode cX12_echo 42 = .ok (.getfield 9, 3) := do_180 (rdb (p := 32) (i := 10) ch_cX12_echo_32 rfl) (rdb (p := 32) (i := 11) ch_cX12_echo_32 rfl) (rdb (p := 32) (i := 12) ch_cX12_echo_32 rfl) rfl
theorem dX12_echo_45 : decode cX12_echo 45 = .ok (.aload_n 0, 1) := do_42 (rdb (p := 32) (i := 13) ch_cX12_echo_32 rfl)
theorem dX12_echo_46 : decode cX12_echo 46 = .ok (.iload_n 1, 1) := do_27 (rdb (p := 32) (i := 14) ch_cX12_echo_32 rfl)
theorem dX12_echo_47 : decode cX12_echo 47 = .ok (.invokevirtual 93, 3) := do_182 (rdb (p := 32) (i := 15) ch_cX12_echo_32 rfl) (rdb (p := 32) (i := 16) ch_cX12_echo_32 rfl) (rdb (p := 32) (i := 17) ch_cX12_echo_32 rfl) rfl
theorem dX12_echo_50 : decode cX12_echo 50 = .ok (.iconst 1, 1) := do_4 (rdb (p := 32) (i := 18) ch_cX12_echo_32 rfl)
theorem dX12_echo_51 : decode cX12_echo 51 = .ok (.iadd, 1) := do_96 (rdb (p := 32) (i := 19) ch_cX12_echo_32 rfl)
theorem dX12_echo_52 : decode cX12_echo 52 = .ok (.iaload, 1) := do_46 (rdb (p := 32) (i := 20) ch_cX12_echo_32 rfl)
theorem dX12_echo_53 : decode cX12_echo 53 = .ok (.istore 5, 2) := do_54 (rdb (p := 32) (i := 21) ch_cX12_echo_32 rfl) (rdb (p := 32) (i := 22) ch_cX12_echo_32 rfl)
theorem dX12_echo_55 : decode cX12_echo 55 = .ok (.aload_n 0, 1) := do_42 (rdb (p := 32) (i := 23) ch_cX12_echo_32 rfl)
theorem dX12_echo_56 : decode cX12_echo 56 = .ok (.iload 5, 2) := do_21 (rdb (p := 32) (i := 24) ch_cX12_echo_32 rfl) (rdb (p := 32) (i := 25) ch_cX12_echo_32 rfl)
theorem dX12_echo_58 : decode cX12_echo 58 = .ok (.iload_n 3, 1) := do_29 (rdb (p := 32) (i := 26) ch_cX12_echo_32 rfl)
theorem dX12_echo_59 : decode cX12_echo 59 = .ok (.aload_n 0, 1) := do_42 (rdb (p := 32) (i := 27) ch_cX12_echo_32 rfl)
theorem dX12_echo_60 : decode cX12_echo 60 = .ok (.iload_n 1, 1) := do_27 (rdb (p := 32) (i := 28) ch_cX12_echo_32 rfl)
theorem dX12_echo_61 : decode cX12_echo 61 = .ok (.invokevirtual 140, 3) := do_182 (rdb (p := 32) (i := 29) ch_cX12_echo_32 rfl) (rdb (p := 32) (i := 30) ch_cX12_echo_32 rfl) (rdb (p := 32) (i := 31) ch_cX12_echo_32 rfl) rfl
theorem ch_cX12_echo_64 : (cX12_echo.data.toList.drop 64).take 36 = [182, 0, 240, 54, 6, 21, 6, 154, 0, 10, 42, 18, 130, 182, 0, 104, 172, 42, 42, 21, 5, 29, 21, 6, 182, 0, 234, 182, 0, 243, 54, 7, 42, 21, 7, 28] := by decide +kernel
theorem dX12_echo_64 : decode cX12_echo 64 = .ok (.invokevirtual 240, 3) := do_182 (rdb (p := 64) (i := 0) ch_cX12_echo_64 rfl) (rdb (p := 64) (i := 1) ch_cX12_echo_64 rfl) (rdb (p := 64) (i := 2) ch_cX12_echo_64 rfl) rfl
theorem dX12_echo_67 : decode cX12_echo 67 = .ok (.istore 6, 2) := do_54 (rdb (p := 64) (i := 3) ch_cX12_echo_64 rfl) (rdb (p := 64) (i := 4) ch_cX12_echo_64 rfl)
theorem dX12_echo_69 : decode cX12_echo 69 = .ok (.iload 6, 2) := do_21 (rdb (p := 64) (i := 5) ch_cX12_echo_64 rfl) (rdb (p := 64) (i := 6) ch_cX12_echo_64 rfl)
theorem dX12_echo_71 : decode cX12_echo 71 = .ok (.ifCond .ne 10, 3) := do_154 (rdb (p := 64) (i := 7) ch_cX12_echo_64 rfl) (rdb (p := 64) (i := 8) ch_cX12_echo_64 rfl) (rdb (p := 64) (i := 9) ch_cX12_echo_64 rfl) (by decide +kernel)
theorem dX12_echo_74 : decode cX12_echo 74 = .ok (.aload_n 0, 1) := do_42 (rdb (p := 64) (i := 10) ch_cX12_echo_64 rfl)
theorem dX12_echo_75 : decode cX12_echo 75 = .ok (.ldc 130, 2) := do_18 (rdb (p := 64) (i := 11) ch_cX12_echo_64 rfl) (rdb (p := 64) (i := 12) ch_cX12_echo_64 rfl)
theorem dX12_echo_77 : decode cX12_echo 77 = .ok (.invokevirtual 104, 3) := do_182 (rdb (p := 64) (i := 13) ch_cX12_echo_64 rfl) (rdb (p := 64) (i := 14) ch_cX12_echo_64 rfl) (rdb (p := 64) (i := 15) ch_cX12_echo_64 rfl) rfl
theorem dX12_echo_80 : decode cX12_echo 80 = .ok (.ireturn, 1) := do_172 (rdb (p := 64) (i := 16) ch_cX12_echo_64 rfl)
theorem dX12_echo_81 : decode cX12_echo 81 = .ok (.aload_n 0, 1) := do_42 (rdb (p := 64) (i := 17) ch_cX12_echo_64 rfl)
theorem dX12_echo_82 : decode cX12_echo 82 = .ok (.aload_n 0, 1) := do_42 (rdb (p := 64) (i := 18) ch_cX12_echo_64 rfl)
theorem dX12_echo_83 : decode cX12_echo 83 = .ok (.iload 5, 2) := do_21 (rdb (p := 64) (i := 19) ch_cX12_echo_64 rfl) (rdb (p := 64) (i := 20) ch_cX12_echo_64 rfl)
theorem dX12_echo_85 : decode cX12_echo 85 = .ok (.iload_n 3, 1) := do_29 (rdb (p := 64) (i := 21) ch_cX12_echo_64 rfl)
theorem dX12_echo_86 : decode cX12_echo 86 = .ok (.iload 6, 2) := do_21 (rdb (p := 64) (i := 22) ch_cX12_echo_64 rfl) (rdb (p := 64) (i := 23) ch_cX12_echo_64 rfl)
theorem dX12_echo_88 : decode cX12_echo 88 = .ok (.invokevirtual 234, 3) := do_182 (rdb (p := 64) (i := 24) ch_cX12_echo_64 rfl) (rdb (p := 64) (i := 25) ch_cX12_echo_64 rfl) (rdb (p := 64) (i := 26) ch_cX12_echo_64 rfl) rfl
theorem dX12_echo_91 : decode cX12_echo 91 = .ok (.invokevirtual 243, 3) := do_182 (rdb (p := 64) (i := 27) ch_cX12_echo_64 rfl) (rdb (p := 64) (i := 28) ch_cX12_echo_64 rfl) (rdb (p := 64) (i := 29) ch_cX12_echo_64 rfl) rfl
theorem dX12_echo_94 : decode cX12_echo 94 = .ok (.istore 7, 2) := do_54 (rdb (p := 64) (i := 30) ch_cX12_echo_64 rfl) (rdb (p := 64) (i := 31) ch_cX12_echo_64 rfl)
theorem ch_cX12_echo_96 : (cX12_echo.data.toList.drop 96).take 36 = [42, 21, 7, 28, 16, 100, 108, 28, 16, 100, 112, 21, 6, 182, 0, 230, 54, 8, 42, 180, 0, 9, 42, 27, 182, 0, 93, 5, 96, 46, 54, 9, 21, 4, 170, 0] := by decide +kernel
theorem dX12_echo_96 : decode cX12_echo 96 = .ok (.aload_n 0, 1) := do_42 (rdb (p := 96) (i := 0) ch_cX12_echo_96 rfl)
theorem dX12_echo_97 : decode cX12_echo 97 = .ok (.iload 7, 2) := do_21 (rdb (p := 96) (i := 1) ch_cX12_echo_96 rfl) (rdb (p := 96) (i := 2) ch_cX12_echo_96 rfl)
theorem dX12_echo_99 : decode cX12_echo 99 = .ok (.iload_n 2, 1) := do_28 (rdb (p := 96) (i := 3) ch_cX12_echo_96 rfl)
theorem dX12_echo_100 : decode cX12_echo 100 = .ok (.bipush 100, 2) := do_16 (rdb (p := 96) (i := 4) ch_cX12_echo_96 rfl) (rdb (p := 96) (i := 5) ch_cX12_echo_96 rfl) (by decide +kernel)
theorem dX12_echo_102 : decode cX12_echo 102 = .ok (.idiv, 1) := do_108 (rdb (p := 96) (i := 6) ch_cX12_echo_96 rfl)
theorem dX12_echo_103 : decode cX12_echo 103 = .ok (.iload_n 2, 1) := do_28 (rdb (p := 96) (i := 7) ch_cX12_echo_96 rfl)
theorem dX12_echo_104 : decode cX12_echo 104 = .ok (.bipush 100, 2) := do_16 (rdb (p := 96) (i := 8) ch_cX12_echo_96 rfl) (rdb (p := 96) (i := 9) ch_cX12_echo_96 rfl) (by decide +kernel)
theorem dX12_echo_106 : decode cX12_echo 106 = .ok (.irem, 1) := do_112 (rdb (p := 96) (i := 10) ch_cX12_echo_96 rfl)
theorem dX12_echo_107 : decode cX12_echo 107 = .ok (.iload 6, 2) := do_21 (rdb (p := 96) (i := 11) ch_cX12_echo_96 rfl) (rdb (p := 96) (i := 12) ch_cX12_echo_96 rfl)
theorem dX12_echo_109 : decode cX12_echo 109 = .ok (.invokevirtual 230, 3) := do_182 (rdb (p := 96) (i := 13) ch_cX12_echo_96 rfl) (rdb (p := 96) (i := 14) ch_cX12_echo_96 rfl) (rdb (p := 96) (i := 15) ch_cX12_echo_96 rfl) rfl
theorem dX12_echo_112 : decode cX12_echo 112 = .ok (.istore 8, 2) := do_54 (rdb (p := 96) (i := 16) ch_cX12_echo_96 rfl) (rdb (p := 96) (i := 17) ch_cX12_echo_96 rfl)
theorem dX12_echo_114 : decode cX12_echo 114 = .ok (.aload_n 0, 1) := do_42 (rdb (p := 96) (i := 18) ch_cX12_echo_96 rfl)
theorem dX12_echo_115 : decode cX12_echo 115 = .ok (.getfield 9, 3) := do_180 (rdb (p := 96) (i := 19) ch_cX12_echo_96 rfl) (rdb (p := 96) (i := 20) ch_cX12_echo_96 rfl) (rdb (p := 96) (i := 21) ch_cX12_echo_96 rfl) rfl
theorem dX12_echo_118 : decode cX12_echo 118 = .ok (.aload_n 0, 1) := do_42 (rdb (p := 96) (i := 22) ch_cX12_echo_96 rfl)
theorem dX12_echo_119 : decode cX12_echo 119 = .ok (.iload_n 1, 1) := do_27 (rdb (p := 96) (i := 23) ch_cX12_echo_96 rfl)
theorem dX12_echo_120 : decode cX12_echo 120 = .ok (.invokevirtual 93, 3) := do_182 (rdb (p := 96) (i := 24) ch_cX12_echo_96 rfl) (rdb (p := 96) (i := 25) ch_cX12_echo_96 rfl) (rdb (p := 96) (i := 26) ch_cX12_echo_96 rfl) rfl
theorem dX12_echo_123 : decode cX12_echo 123 = .ok (.iconst 2, 1) := do_5 (rdb (p := 96) (i := 27) ch_cX12_echo_96 rfl)
theorem dX12_echo_124 : decode cX12_echo 124 = .ok (.iadd, 1) := do_96 (rdb (p := 96) (i := 28) ch_cX12_echo_96 rfl)
theorem dX12_echo_125 : decode cX12_echo 125 = .ok (.iaload, 1) := do_46 (rdb (p := 96) (i := 29) ch_cX12_echo_96 rfl)
theorem dX12_echo_126 : decode cX12_echo 126 = .ok (.istore 9, 2) := do_54 (rdb (p := 96) (i := 30) ch_cX12_echo_96 rfl) (rdb (p := 96) (i := 31) ch_cX12_echo_96 rfl)
theorem ch_cX12_echo_128 : (cX12_echo.data.toList.drop 128).take 36 = [21, 4, 170, 0, 0, 0, 0, 67, 0, 0, 0, 0, 0, 0, 0, 4, 0, 0, 0, 34, 0, 0, 0, 37, 0, 0, 0, 44, 0, 0, 0, 47, 0, 0, 0, 57] := by decide +kernel
theorem dX12_echo_128 : decode cX12_echo 128 = .ok (.iload 4, 2) := do_21 (rdb (p := 128) (i := 0) ch_cX12_echo_128 rfl) (rdb (p := 128) (i := 1) ch_cX12_echo_128 rfl)
theorem dX12_echo_130 : decode cX12_echo 130 = .ok (.tableswitch 67 0 4 #[34, 37, 44, 47, 57], 34) := by decide +kernel
theorem ch_cX12_echo_160 : (cX12_echo.data.toList.drop 160).take 36 = [0, 0, 0, 57, 21, 6, 172, 29, 21, 6, 184, 0, 227, 172, 21, 8, 172, 21, 8, 29, 21, 9, 4, 184, 0, 246, 172, 21, 8, 29, 21, 9, 8, 184, 0, 246] := by decide +kernel
theorem dX12_echo_164 : decode cX12_echo 164 = .ok (.iload 6, 2) := do_21 (rdb (p := 160) (i := 4) ch_cX12_echo_160 rfl) (rdb (p := 160) (i := 5) ch_cX12_echo_160 rfl)
theorem dX12_echo_166 : decode cX12_echo 166 = .ok (.ireturn, 1) := do_172 (rdb (p := 160) (i := 6) ch_cX12_echo_160 rfl)
theorem dX12_echo_167 : decode cX12_echo 167 = .ok (.iload_n 3, 1) := do_29 (rdb (p := 160) (i := 7) ch_cX12_echo_160 rfl)
theorem dX12_echo_168 : decode cX12_echo 168 = .ok (.iload 6, 2) := do_21 (rdb (p := 160) (i := 8) ch_cX12_echo_160 rfl) (rdb (p := 160) (i := 9) ch_cX12_echo_160 rfl)
theorem dX12_echo_170 : decode cX12_echo 170 = .ok (.invokestatic 227, 3) := do_184 (rdb (p := 160) (i := 10) ch_cX12_echo_160 rfl) (rdb (p := 160) (i := 11) ch_cX12_echo_160 rfl) (rdb (p := 160) (i := 12) ch_cX12_echo_160 rfl) rfl
theorem dX12_echo_173 : decode cX12_echo 173 = .ok (.ireturn, 1) := do_172 (rdb (p := 160) (i := 13) ch_cX12_echo_160 rfl)
theorem dX12_echo_174 : decode cX12_echo 174 = .ok (.iload 8, 2) := do_21 (rdb (p := 160) (i := 14) ch_cX12_echo_160 rfl) (rdb (p := 160) (i := 15) ch_cX12_echo_160 rfl)
theorem dX12_echo_176 : decode cX12_echo 176 = .ok (.ireturn, 1) := do_172 (rdb (p := 160) (i := 16) ch_cX12_echo_160 rfl)
theorem dX12_echo_177 : decode cX12_echo 177 = .ok (.iload 8, 2) := do_21 (rdb (p := 160) (i := 17) ch_cX12_echo_160 rfl) (rdb (p := 160) (i := 18) ch_cX12_echo_160 rfl)
theorem dX12_echo_179 : decode cX12_echo 179 = .ok (.iload_n 3, 1) := do_29 (rdb (p := 160) (i := 19) ch_cX12_echo_160 rfl)
theorem dX12_echo_180 : decode cX12_echo 180 = .ok (.iload 9, 2) := do_21 (rdb (p := 160) (i := 20) ch_cX12_echo_160 rfl) (rdb (p := 160) (i := 21) ch_cX12_echo_160 rfl)
theorem dX12_echo_182 : decode cX12_echo 182 = .ok (.iconst 1, 1) := do_4 (rdb (p := 160) (i := 22) ch_cX12_echo_160 rfl)
theorem dX12_echo_183 : decode cX12_echo 183 = .ok (.invokestatic 246, 3) := do_184 (rdb (p := 160) (i := 23) ch_cX12_echo_160 rfl) (rdb (p := 160) (i := 24) ch_cX12_echo_160 rfl) (rdb (p := 160) (i := 25) ch_cX12_echo_160 rfl) rfl
theorem dX12_echo_186 : decode cX12_echo 186 = .ok (.ireturn, 1) := do_172 (rdb (p := 160) (i := 26) ch_cX12_echo_160 rfl)
theorem dX12_echo_187 : decode cX12_echo 187 = .ok (.iload 8, 2) := do_21 (rdb (p := 160) (i := 27) ch_cX12_echo_160 rfl) (rdb (p := 160) (i := 28) ch_cX12_echo_160 rfl)
theorem dX12_echo_189 : decode cX12_echo 189 = .ok (.iload_n 3, 1) := do_29 (rdb (p := 160) (i := 29) ch_cX12_echo_160 rfl)
theorem dX12_echo_190 : decode cX12_echo 190 = .ok (.iload 9, 2) := do_21 (rdb (p := 160) (i := 30) ch_cX12_echo_160 rfl) (rdb (p := 160) (i := 31) ch_cX12_echo_160 rfl)
theorem ch_cX12_echo_192 : (cX12_echo.data.toList.drop 192).take 36 = [8, 184, 0, 246, 172, 42, 42, 27, 182, 0, 143, 21, 7, 28, 16, 100, 108, 28, 16, 100, 112, 29, 21, 6, 182, 0, 249, 153, 0, 7, 4, 167, 0, 4, 3, 172] := by decide +kernel
theorem dX12_echo_192 : decode cX12_echo 192 = .ok (.iconst 5, 1) := do_8 (rdb (p := 192) (i := 0) ch_cX12_echo_192 rfl)
theorem dX12_echo_193 : decode cX12_echo 193 = .ok (.invokestatic 246, 3) := do_184 (rdb (p := 192) (i := 1) ch_cX12_echo_192 rfl) (rdb (p := 192) (i := 2) ch_cX12_echo_192 rfl) (rdb (p := 192) (i := 3) ch_cX12_echo_192 rfl) rfl
theorem dX12_echo_196 : decode cX12_echo 196 = .ok (.ireturn, 1) := do_172 (rdb (p := 192) (i := 4) ch_cX12_echo_192 rfl)
theorem dX12_echo_197 : decode cX12_echo 197 = .ok (.aload_n 0, 1) := do_42 (rdb (p := 192) (i := 5) ch_cX12_echo_192 rfl)
theorem dX12_echo_198 : decode cX12_echo 198 = .ok (.aload_n 0, 1) := do_42 (rdb (p := 192) (i := 6) ch_cX12_echo_192 rfl)
theorem dX12_echo_199 : decode cX12_echo 199 = .ok (.iload_n 1, 1) := do_27 (rdb (p := 192) (i := 7) ch_cX12_echo_192 rfl)
theorem dX12_echo_200 : decode cX12_echo 200 = .ok (.invokevirtual 143, 3) := do_182 (rdb (p := 192) (i := 8) ch_cX12_echo_192 rfl) (rdb (p := 192) (i := 9) ch_cX12_echo_192 rfl) (rdb (p := 192) (i := 10) ch_cX12_echo_192 rfl) rfl
theorem dX12_echo_203 : decode cX12_echo 203 = .ok (.iload 7, 2) := do_21 (rdb (p := 192) (i := 11) ch_cX12_echo_192 rfl) (rdb (p := 192) (i := 12) ch_cX12_echo_192 rfl)
theorem dX12_echo_205 : decode cX12_echo 205 = .ok (.iload_n 2, 1) := do_28 (rdb (p := 192) (i := 13) ch_cX12_echo_192 rfl)
theorem dX12_echo_206 : decode cX12_echo 206 = .ok (.bipush 100, 2) := do_16 (rdb (p := 192) (i := 14) ch_cX12_echo_192 rfl) (rdb (p := 192) (i := 15) ch_cX12_echo_192 rfl) (by decide +kernel)
theorem dX12_echo_208 : decode cX12_echo 208 = .ok (.idiv, 1) := do_108 (rdb (p := 192) (i := 16) ch_cX12_echo_192 rfl)
theorem dX12_echo_209 : decode cX12_echo 209 = .ok (.iload_n 2, 1) := do_28 (rdb (p := 192) (i := 17) ch_cX12_echo_192 rfl)
theorem dX12_echo_210 : decode cX12_echo 210 = .ok (.bipush 100, 2) := do_16 (rdb (p := 192) (i := 18) ch_cX12_echo_192 rfl) (rdb (p := 192) (i := 19) ch_cX12_echo_192 rfl) (by decide +kernel)
theorem dX12_echo_212 : decode cX12_echo 212 = .ok (.irem, 1) := do_112 (rdb (p := 192) (i := 20) ch_cX12_echo_192 rfl)
theorem dX12_echo_213 : decode cX12_echo 213 = .ok (.iload_n 3, 1) := do_29 (rdb (p := 192) (i := 21) ch_cX12_echo_192 rfl)
theorem dX12_echo_214 : decode cX12_echo 214 = .ok (.iload 6, 2) := do_21 (rdb (p := 192) (i := 22) ch_cX12_echo_192 rfl) (rdb (p := 192) (i := 23) ch_cX12_echo_192 rfl)
theorem dX12_echo_216 : decode cX12_echo 216 = .ok (.invokevirtual 249, 3) := do_182 (rdb (p := 192) (i := 24) ch_cX12_echo_192 rfl) (rdb (p := 192) (i := 25) ch_cX12_echo_192 rfl) (rdb (p := 192) (i := 26) ch_cX12_echo_192 rfl) rfl
theorem dX12_echo_219 : decode cX12_echo 219 = .ok (.ifCond .eq 7, 3) := do_153 (rdb (p := 192) (i := 27) ch_cX12_echo_192 rfl) (rdb (p := 192) (i := 28) ch_cX12_echo_192 rfl) (rdb (p := 192) (i := 29) ch_cX12_echo_192 rfl) (by decide +kernel)
theorem dX12_echo_222 : decode cX12_echo 222 = .ok (.iconst 1, 1) := do_4 (rdb (p := 192) (i := 30) ch_cX12_echo_192 rfl)
theorem dX12_echo_223 : decode cX12_echo 223 = .ok (.goto 4, 3) := do_167 (rdb (p := 192) (i := 31) ch_cX12_echo_192 rfl) (rdb (p := 192) (i := 32) ch_cX12_echo_192 rfl) (rdb (p := 192) (i := 33) ch_cX12_echo_192 rfl) (by decide +kernel)
theorem ch_cX12_echo_224 : (cX12_echo.data.toList.drop 224).take 36 = [0, 4, 3, 172] := by decide +kernel
theorem dX12_echo_226 : decode cX12_echo 226 = .ok (.iconst 0, 1) := do_3 (rdb (p := 224) (i := 2) ch_cX12_echo_224 rfl)
theorem dX12_echo_227 : decode cX12_echo 227 = .ok (.ireturn, 1) := do_172 (rdb (p := 224) (i := 3) ch_cX12_echo_224 rfl)
theorem ch_cX12_echoFrom_0 : (cX12_echoFrom.data.toList.drop 0).take 36 = [4, 54, 4, 21, 4, 29, 163, 0, 38, 42, 27, 28, 21, 4, 182, 0, 234, 155, 0, 27, 42, 42, 27, 28, 21, 4, 182, 0, 234, 182, 0, 107, 154, 0, 6, 21] := by decide +kernel
theorem dX12_echoFrom_0 : decode cX12_echoFrom 0 = .ok (.iconst 1, 1) := do_4 (rdb (p := 0) (i := 0) ch_cX12_echoFrom_0 rfl)
theorem dX12_echoFrom_1 : decode cX12_echoFrom 1 = .ok (.istore 4, 2) := do_54 (rdb (p := 0) (i := 1) ch_cX12_echoFrom_0 rfl) (rdb (p := 0) (i := 2) ch_cX12_echoFrom_0 rfl)
theorem dX12_echoFrom_3 : decode cX12_echoFrom 3 = .ok (.iload 4, 2) := do_21 (rdb (p := 0) (i := 3) ch_cX12_echoFrom_0 rfl) (rdb (p := 0) (i := 4) ch_cX12_echoFrom_0 rfl)
theorem dX12_echoFrom_5 : decode cX12_echoFrom 5 = .ok (.iload_n 3, 1) := do_29 (rdb (p := 0) (i := 5) ch_cX12_echoFrom_0 rfl)
theorem dX12_echoFrom_6 : decode cX12_echoFrom 6 = .ok (.if_icmp .gt 38, 3) := do_163 (rdb (p := 0) (i := 6) ch_cX12_echoFrom_0 rfl) (rdb (p := 0) (i := 7) ch_cX12_echoFrom_0 rfl) (rdb (p := 0) (i := 8) ch_cX12_echoFrom_0 rfl) (by decide +kernel)
theorem dX12_echoFrom_9 : decode cX12_echoFrom 9 = .ok (.aload_n 0, 1) := do_42 (rdb (p := 0) (i := 9) ch_cX12_echoFrom_0 rfl)
theorem dX12_echoFrom_10 : decode cX12_echoFrom 10 = .ok (.iload_n 1, 1) := do_27 (rdb (p := 0) (i := 10) ch_cX12_echoFrom_0 rfl)
theorem dX12_echoFrom_11 : decode cX12_echoFrom 11 = .ok (.iload_n 2, 1) := do_28 (rdb (p := 0) (i := 11) ch_cX12_echoFrom_0 rfl)
theorem dX12_echoFrom_12 : decode cX12_echoFrom 12 = .ok (.iload 4, 2) := do_21 (rdb (p := 0) (i := 12) ch_cX12_echoFrom_0 rfl) (rdb (p := 0) (i := 13) ch_cX12_echoFrom_0 rfl)
theorem dX12_echoFrom_14 : decode cX12_echoFrom 14 = .ok (.invokevirtual 234, 3) := do_182 (rdb (p := 0) (i := 14) ch_cX12_echoFrom_0 rfl) (rdb (p := 0) (i := 15) ch_cX12_echoFrom_0 rfl) (rdb (p := 0) (i := 16) ch_cX12_echoFrom_0 rfl) rfl
theorem dX12_echoFrom_17 : decode cX12_echoFrom 17 = .ok (.ifCond .lt 27, 3) := do_155 (rdb (p := 0) (i := 17) ch_cX12_echoFrom_0 rfl) (rdb (p := 0) (i := 18) ch_cX12_echoFrom_0 rfl) (rdb (p := 0) (i := 19) ch_cX12_echoFrom_0 rfl) (by decide +kernel)
theorem dX12_echoFrom_20 : decode cX12_echoFrom 20 = .ok (.aload_n 0, 1) := do_42 (rdb (p := 0) (i := 20) ch_cX12_echoFrom_0 rfl)
theorem dX12_echoFrom_21 : decode cX12_echoFrom 21 = .ok (.aload_n 0, 1) := do_42 (rdb (p := 0) (i := 21) ch_cX12_echoFrom_0 rfl)
theorem dX12_echoFrom_22 : decode cX12_echoFrom 22 = .ok (.iload_n 1, 1) := do_27 (rdb (p := 0) (i := 22) ch_cX12_echoFrom_0 rfl)
theorem dX12_echoFrom_23 : decode cX12_echoFrom 23 = .ok (.iload_n 2, 1) := do_28 (rdb (p := 0) (i := 23) ch_cX12_echoFrom_0 rfl)
theorem dX12_echoFrom_24 : decode cX12_echoFrom 24 = .ok (.iload 4, 2) := do_21 (rdb (p := 0) (i := 24) ch_cX12_echoFrom_0 rfl) (rdb (p := 0) (i := 25) ch_cX12_echoFrom_0 rfl)
theorem dX12_echoFrom_26 : decode cX12_echoFrom 26 = .ok (.invokevirtual 234, 3) := do_182 (rdb (p := 0) (i := 26) ch_cX12_echoFrom_0 rfl) (rdb (p := 0) (i := 27) ch_cX12_echoFrom_0 rfl) (rdb (p := 0) (i := 28) ch_cX12_echoFrom_0 rfl) rfl
theorem dX12_echoFrom_29 : decode cX12_echoFrom 29 = .ok (.invokevirtual 107, 3) := do_182 (rdb (p := 0) (i := 29) ch_cX12_echoFrom_0 rfl) (rdb (p := 0) (i := 30) ch_cX12_echoFrom_0 rfl) (rdb (p := 0) (i := 31) ch_cX12_echoFrom_0 rfl) rfl
theorem ch_cX12_echoFrom_32 : (cX12_echoFrom.data.toList.drop 32).take 36 = [154, 0, 6, 21, 4, 172, 132, 4, 1, 167, 255, 218, 3, 172] := by decide +kernel
theorem dX12_echoFrom_32 : decode cX12_echoFrom 32 = .ok (.ifCond .ne 6, 3) := do_154 (rdb (p := 32) (i := 0) ch_cX12_echoFrom_32 rfl) (rdb (p := 32) (i := 1) ch_cX12_echoFrom_32 rfl) (rdb (p := 32) (i := 2) ch_cX12_echoFrom_32 rfl) (by decide +kernel)
theorem dX12_echoFrom_35 : decode cX12_echoFrom 35 = .ok (.iload 4, 2) := do_21 (rdb (p := 32) (i := 3) ch_cX12_echoFrom_32 rfl) (rdb (p := 32) (i := 4) ch_cX12_echoFrom_32 rfl)
theorem dX12_echoFrom_37 : decode cX12_echoFrom 37 = .ok (.ireturn, 1) := do_172 (rdb (p := 32) (i := 5) ch_cX12_echoFrom_32 rfl)
theorem dX12_echoFrom_38 : decode cX12_echoFrom 38 = .ok (.iinc 4 1, 3) := do_132 (rdb (p := 32) (i := 6) ch_cX12_echoFrom_32 rfl) (rdb (p := 32) (i := 7) ch_cX12_echoFrom_32 rfl) (rdb (p := 32) (i := 8) ch_cX12_echoFrom_32 rfl) (by decide +kernel)
theorem dX12_echoFrom_41 : decode cX12_echoFrom 41 = .ok (.goto (-38), 3) := do_167 (rdb (p := 32) (i := 9) ch_cX12_echoFrom_32 rfl) (rdb (p := 32) (i := 10) ch_cX12_echoFrom_32 rfl) (rdb (p := 32) (i := 11) ch_cX12_echoFrom_32 rfl) (by decide +kernel)
theorem dX12_echoFrom_44 : decode cX12_echoFrom 44 = .ok (.iconst 0, 1) := do_3 (rdb (p := 32) (i := 12) ch_cX12_echoFrom_32 rfl)
theorem dX12_echoFrom_45 : decode cX12_echoFrom 45 = .ok (.ireturn, 1) := do_172 (rdb (p := 32) (i := 13) ch_cX12_echoFrom_32 rfl)
theorem ch_cX12_farthest_0 : (cX12_farthest.data.toList.drop 0).take 36 = [42, 27, 5, 182, 0, 116, 153, 0, 20, 28, 3, 7, 184, 0, 85, 153, 0, 11, 42, 29, 182, 0, 237, 154, 0, 10, 42, 18, 103, 182, 0, 104, 172, 42, 27, 182] := by decide +kernel
theorem dX12_farthest_0 : decode cX12_farthest 0 = .ok (.aload_n 0, 1) := do_42 (rdb (p := 0) (i := 0) ch_cX12_farthest_0 rfl)
theorem dX12_farthest_1 : decode cX12_farthest 1 = .ok (.iload_n 1, 1) := do_27 (rdb (p := 0) (i := 1) ch_cX12_farthest_0 rfl)
theorem dX12_farthest_2 : decode cX12_farthest 2 = .ok (.iconst 2, 1) := do_5 (rdb (p := 0) (i := 2) ch_cX12_farthest_0 rfl)
theorem dX12_farthest_3 : decode cX12_farthest 3 = .ok (.invokevirtual 116, 3) := do_182 (rdb (p := 0) (i := 3) ch_cX12_farthest_0 rfl) (rdb (p := 0) (i := 4) ch_cX12_farthest_0 rfl) (rdb (p := 0) (i := 5) ch_cX12_farthest_0 rfl) rfl
theorem dX12_farthest_6 : decode cX12_farthest 6 = .ok (.ifCond .eq 20, 3) := do_153 (rdb (p := 0) (i := 6) ch_cX12_farthest_0 rfl) (rdb (p := 0) (i := 7) ch_cX12_farthest_0 rfl) (rdb (p := 0) (i := 8) ch_cX12_farthest_0 rfl) (by decide +kernel)
theorem dX12_farthest_9 : decode cX12_farthest 9 = .ok (.iload_n 2, 1) := do_28 (rdb (p := 0) (i := 9) ch_cX12_farthest_0 rfl)
theorem dX12_farthest_10 : decode cX12_farthest 10 = .ok (.iconst 0, 1) := do_3 (rdb (p := 0) (i := 10) ch_cX12_farthest_0 rfl)
theorem dX12_farthest_11 : decode cX12_farthest 11 = .ok (.iconst 4, 1) := do_7 (rdb (p := 0) (i := 11) ch_cX12_farthest_0 rfl)
theorem dX12_farthest_12 : decode cX12_farthest 12 = .ok (.invokestatic 85, 3) := do_184 (rdb (p := 0) (i := 12) ch_cX12_farthest_0 rfl) (rdb (p := 0) (i := 13) ch_cX12_farthest_0 rfl) (rdb (p := 0) (i := 14) ch_cX12_farthest_0 rfl) rfl
theorem dX12_farthest_15 : decode cX12_farthest 15 = .ok (.ifCond .eq 11, 3) := do_153 (rdb (p := 0) (i := 15) ch_cX12_farthest_0 rfl) (rdb (p := 0) (i := 16) ch_cX12_farthest_0 rfl) (rdb (p := 0) (i := 17) ch_cX12_farthest_0 rfl) (by decide +kernel)
theorem dX12_farthest_18 : decode cX12_farthest 18 = .ok (.aload_n 0, 1) := do_42 (rdb (p := 0) (i := 18) ch_cX12_farthest_0 rfl)
theorem dX12_farthest_19 : decode cX12_farthest 19 = .ok (.iload_n 3, 1) := do_29 (rdb (p := 0) (i := 19) ch_cX12_farthest_0 rfl)
theorem dX12_farthest_20 : decode cX12_farthest 20 = .ok (.invokevirtual 237, 3) := do_182 (rdb (p := 0) (i := 20) ch_cX12_farthest_0 rfl) (rdb (p := 0) (i := 21) ch_cX12_farthest_0 rfl) (rdb (p := 0) (i := 22) ch_cX12_farthest_0 rfl) rfl
theorem dX12_farthest_23 : decode cX12_farthest 23 = .ok (.ifCond .ne 10, 3) := do_154 (rdb (p := 0) (i := 23) ch_cX12_farthest_0 rfl) (rdb (p := 0) (i := 24) ch_cX12_farthest_0 rfl) (rdb (p := 0) (i := 25) ch_cX12_farthest_0 rfl) (by decide +kernel)
theorem dX12_farthest_26 : decode cX12_farthest 26 = .ok (.aload_n 0, 1) := do_42 (rdb (p := 0) (i := 26) ch_cX12_farthest_0 rfl)
theorem dX12_farthest_27 : decode cX12_farthest 27 = .ok (.ldc 103, 2) := do_18 (rdb (p := 0) (i := 27) ch_cX12_farthest_0 rfl) (rdb (p := 0) (i := 28) ch_cX12_farthest_0 rfl)
theorem dX12_farthest_29 : decode cX12_farthest 29 = .ok (.invokevirtual 104, 3) := do_182 (rdb (p := 0) (i := 29) ch_cX12_farthest_0 rfl) (rdb (p := 0) (i := 30) ch_cX12_farthest_0 rfl) (rdb (p := 0) (i := 31) ch_cX12_farthest_0 rfl) rfl
theorem ch_cX12_farthest_32 : (cX12_farthest.data.toList.drop 32).take 36 = [172, 42, 27, 182, 0, 140, 54, 4, 21, 4, 158, 0, 36, 42, 42, 27, 182, 0, 143, 28, 29, 16, 100, 108, 29, 16, 100, 112, 3, 21, 4, 182, 0, 249, 153, 0] := by decide +kernel
theorem dX12_farthest_32 : decode cX12_farthest 32 = .ok (.ireturn, 1) := do_172 (rdb (p := 32) (i := 0) ch_cX12_farthest_32 rfl)
theorem dX12_farthest_33 : decode cX12_farthest 33 = .ok (.aload_n 0, 1) := do_42 (rdb (p := 32) (i := 1) ch_cX12_farthest_32 rfl)
theorem dX12_farthest_34 : decode cX12_farthest 34 = .ok (.iload_n 1, 1) := do_27 (rdb (p := 32) (i := 2) ch_cX12_farthest_32 rfl)
theorem dX12_farthest_35 : decode cX12_farthest 35 = .ok (.invokevirtual 140, 3) := do_182 (rdb (p := 32) (i := 3) ch_cX12_farthest_32 rfl) (rdb (p := 32) (i := 4) ch_cX12_farthest_32 rfl) (rdb (p := 32) (i := 5) ch_cX12_farthest_32 rfl) rfl
theorem dX12_farthest_38 : decode cX12_farthest 38 = .ok (.istore 4, 2) := do_54 (rdb (p := 32) (i := 6) ch_cX12_farthest_32 rfl) (rdb (p := 32) (i := 7) ch_cX12_farthest_32 rfl)
theorem dX12_farthest_40 : decode cX12_farthest 40 = .ok (.iload 4, 2) := do_21 (rdb (p := 32) (i := 8) ch_cX12_farthest_32 rfl) (rdb (p := 32) (i := 9) ch_cX12_farthest_32 rfl)
theorem dX12_farthest_42 : decode cX12_farthest 42 = .ok (.ifCond .le 36, 3) := do_158 (rdb (p := 32) (i := 10) ch_cX12_farthest_32 rfl) (rdb (p := 32) (i := 11) ch_cX12_farthest_32 rfl) (rdb (p := 32) (i := 12) ch_cX12_farthest_32 rfl) (by decide +kernel)
theorem dX12_farthest_45 : decode cX12_farthest 45 = .ok (.aload_n 0, 1) := do_42 (rdb (p := 32) (i := 13) ch_cX12_farthest_32 rfl)
theorem dX12_farthest_46 : decode cX12_farthest 46 = .ok (.aload_n 0, 1) := do_42 (rdb (p := 32) (i := 14) ch_cX12_farthest_32 rfl)
theorem dX12_farthest_47 : decode cX12_farthest 47 = .ok (.iload_n 1, 1) := do_27 (rdb (p := 32) (i := 15) ch_cX12_farthest_32 rfl)
theorem dX12_farthest_48 : decode cX12_farthest 48 = .ok (.invokevirtual 143, 3) := do_182 (rdb (p := 32) (i := 16) ch_cX12_farthest_32 rfl) (rdb (p := 32) (i := 17) ch_cX12_farthest_32 rfl) (rdb (p := 32) (i := 18) ch_cX12_farthest_32 rfl) rfl
theorem dX12_farthest_51 : decode cX12_farthest 51 = .ok (.iload_n 2, 1) := do_28 (rdb (p := 32) (i := 19) ch_cX12_farthest_32 rfl)
theorem dX12_farthest_52 : decode cX12_farthest 52 = .ok (.iload_n 3, 1) := do_29 (rdb (p := 32) (i := 20) ch_cX12_farthest_32 rfl)
theorem dX12_farthest_53 : decode cX12_farthest 53 = .ok (.bipush 100, 2) := do_16 (rdb (p := 32) (i := 21) ch_cX12_farthest_32 rfl) (rdb (p := 32) (i := 22) ch_cX12_farthest_32 rfl) (by decide +kernel)
theorem dX12_farthest_55 : decode cX12_farthest 55 = .ok (.idiv, 1) := do_108 (rdb (p := 32) (i := 23) ch_cX12_farthest_32 rfl)
theorem dX12_farthest_56 : decode cX12_farthest 56 = .ok (.iload_n 3, 1) := do_29 (rdb (p := 32) (i := 24) ch_cX12_farthest_32 rfl)
theorem dX12_farthest_57 : decode cX12_farthest 57 = .ok (.bipush 100, 2) := do_16 (rdb (p := 32) (i := 25) ch_cX12_farthest_32 rfl) (rdb (p := 32) (i := 26) ch_cX12_farthest_32 rfl) (by decide +kernel)
theorem dX12_farthest_59 : decode cX12_farthest 59 = .ok (.irem, 1) := do_112 (rdb (p := 32) (i := 27) ch_cX12_farthest_32 rfl)
theorem dX12_farthest_60 : decode cX12_farthest 60 = .ok (.iconst 0, 1) := do_3 (rdb (p := 32) (i := 28) ch_cX12_farthest_32 rfl)
theorem dX12_farthest_61 : decode cX12_farthest 61 = .ok (.iload 4, 2) := do_21 (rdb (p := 32) (i := 29) ch_cX12_farthest_32 rfl) (rdb (p := 32) (i := 30) ch_cX12_farthest_32 rfl)
theorem dX12_farthest_63 : decode cX12_farthest 63 = .ok (.invokevirtual 249, 3) := do_182 (rdb (p := 32) (i := 31) ch_cX12_farthest_32 rfl) (rdb (p := 32) (i := 32) ch_cX12_farthest_32 rfl) (rdb (p := 32) (i := 33) ch_cX12_farthest_32 rfl) rfl
theorem ch_cX12_farthest_64 : (cX12_farthest.data.toList.drop 64).take 36 = [0, 249, 153, 0, 6, 21, 4, 172, 132, 4, 255, 167, 255, 221, 42, 18, 130, 182, 0, 104, 172] := by decide +kernel
theorem dX12_farthest_66 : decode cX12_farthest 66 = .ok (.ifCond .eq 6, 3) := do_153 (rdb (p := 64) (i := 2) ch_cX12_farthest_64 rfl) (rdb (p := 64) (i := 3) ch_cX12_farthest_64 rfl) (rdb (p := 64) (i := 4) ch_cX12_farthest_64 rfl) (by decide +kernel)
theorem dX12_farthest_69 : decode cX12_farthest 69 = .ok (.iload 4, 2) := do_21 (rdb (p := 64) (i := 5) ch_cX12_farthest_64 rfl) (rdb (p := 64) (i := 6) ch_cX12_farthest_64 rfl)
theorem dX12_farthest_71 : decode cX12_farthest 71 = .ok (.ireturn, 1) := do_172 (rdb (p := 64) (i := 7) ch_cX12_farthest_64 rfl)
theorem dX12_farthest_72 : decode cX12_farthest 72 = .ok (.iinc 4 (-1), 3) := do_132 (rdb (p := 64) (i := 8) ch_cX12_farthest_64 rfl) (rdb (p := 64) (i := 9) ch_cX12_farthest_64 rfl) (rdb (p := 64) (i := 10) ch_cX12_farthest_64 rfl) (by decide +kernel)
theorem dX12_farthest_75 : decode cX12_farthest 75 = .ok (.goto (-35), 3) := do_167 (rdb (p := 64) (i := 11) ch_cX12_farthest_64 rfl) (rdb (p := 64) (i := 12) ch_cX12_farthest_64 rfl) (rdb (p := 64) (i := 13) ch_cX12_farthest_64 rfl) (by decide +kernel)
theorem dX12_farthest_78 : decode cX12_farthest 78 = .ok (.aload_n 0, 1) := do_42 (rdb (p := 64) (i := 14) ch_cX12_farthest_64 rfl)
theorem dX12_farthest_79 : decode cX12_farthest 79 = .ok (.ldc 130, 2) := do_18 (rdb (p := 64) (i := 15) ch_cX12_farthest_64 rfl) (rdb (p := 64) (i := 16) ch_cX12_farthest_64 rfl)
theorem dX12_farthest_81 : decode cX12_farthest 81 = .ok (.invokevirtual 104, 3) := do_182 (rdb (p := 64) (i := 17) ch_cX12_farthest_64 rfl) (rdb (p := 64) (i := 18) ch_cX12_farthest_64 rfl) (rdb (p := 64) (i := 19) ch_cX12_farthest_64 rfl) rfl
theorem dX12_farthest_84 : decode cX12_farthest 84 = .ok (.ireturn, 1) := do_172 (rdb (p := 64) (i := 20) ch_cX12_farthest_64 rfl)
theorem ch_cX12_given_0 : (cX12_given.data.toList.drop 0).take 36 = [17, 1, 89, 16, 50, 27, 104, 96, 4, 96, 61, 3, 62, 28, 54, 4, 21, 4, 28, 42, 180, 0, 9, 28, 4, 100, 46, 96, 162, 0, 170, 42, 180, 0, 9, 21] := by decide +kernel
theorem dX12_given_0 : decode cX12_given 0 = .ok (.sipush 345, 3) := do_17 (rdb (p := 0) (i := 0) ch_cX12_given_0 rfl) (rdb (p := 0) (i := 1) ch_cX12_given_0 rfl) (rdb (p := 0) (i := 2) ch_cX12_given_0 rfl) (by decide +kernel)
theorem dX12_given_3 : decode cX12_given 3 = .ok (.bipush 50, 2) := do_16 (rdb (p := 0) (i := 3) ch_cX12_given_0 rfl) (rdb (p := 0) (i := 4) ch_cX12_given_0 rfl) (by decide +kernel)
theorem dX12_given_5 : decode cX12_given 5 = .ok (.iload_n 1, 1) := do_27 (rdb (p := 0) (i := 5) ch_cX12_given_0 rfl)
theorem dX12_given_6 : decode cX12_given 6 = .ok (.imul, 1) := do_104 (rdb (p := 0) (i := 6) ch_cX12_given_0 rfl)
theorem dX12_given_7 : decode cX12_given 7 = .ok (.iadd, 1) := do_96 (rdb (p := 0) (i := 7) ch_cX12_given_0 rfl)
theorem dX12_given_8 : decode cX12_given 8 = .ok (.iconst 1, 1) := do_4 (rdb (p := 0) (i := 8) ch_cX12_given_0 rfl)
theorem dX12_given_9 : decode cX12_given 9 = .ok (.iadd, 1) := do_96 (rdb (p := 0) (i := 9) ch_cX12_given_0 rfl)
theorem dX12_given_10 : decode cX12_given 10 = .ok (.istore_n 2, 1) := do_61 (rdb (p := 0) (i := 10) ch_cX12_given_0 rfl)
theorem dX12_given_11 : decode cX12_given 11 = .ok (.iconst 0, 1) := do_3 (rdb (p := 0) (i := 11) ch_cX12_given_0 rfl)
theorem dX12_given_12 : decode cX12_given 12 = .ok (.istore_n 3, 1) := do_62 (rdb (p := 0) (i := 12) ch_cX12_given_0 rfl)
theorem dX12_given_13 : decode cX12_given 13 = .ok (.iload_n 2, 1) := do_28 (rdb (p := 0) (i := 13) ch_cX12_given_0 rfl)
theorem dX12_given_14 : decode cX12_given 14 = .ok (.istore 4, 2) := do_54 (rdb (p := 0) (i := 14) ch_cX12_given_0 rfl) (rdb (p := 0) (i := 15) ch_cX12_given_0 rfl)
theorem dX12_given_16 : decode cX12_given 16 = .ok (.iload 4, 2) := do_21 (rdb (p := 0) (i := 16) ch_cX12_given_0 rfl) (rdb (p := 0) (i := 17) ch_cX12_given_0 rfl)
theorem dX12_given_18 : decode cX12_given 18 = .ok (.iload_n 2, 1) := do_28 (rdb (p := 0) (i := 18) ch_cX12_given_0 rfl)
theorem dX12_given_19 : decode cX12_given 19 = .ok (.aload_n 0, 1) := do_42 (rdb (p := 0) (i := 19) ch_cX12_given_0 rfl)
theorem dX12_given_20 : decode cX12_given 20 = .ok (.getfield 9, 3) := do_180 (rdb (p := 0) (i := 20) ch_cX12_given_0 rfl) (rdb (p := 0) (i := 21) ch_cX12_given_0 rfl) (rdb (p := 0) (i := 22) ch_cX12_given_0 rfl) rfl
theorem dX12_given_23 : decode cX12_given 23 = .ok (.iload_n 2, 1) := do_28 (rdb (p := 0) (i := 23) ch_cX12_given_0 rfl)
theorem dX12_given_24 : decode cX12_given 24 = .ok (.iconst 1, 1) := do_4 (rdb (p := 0) (i := 24) ch_cX12_given_0 rfl)
theorem dX12_given_25 : decode cX12_given 25 = .ok (.isub, 1) := do_100 (rdb (p := 0) (i := 25) ch_cX12_given_0 rfl)
theorem dX12_given_26 : decode cX12_given 26 = .ok (.iaload, 1) := do_46 (rdb (p := 0) (i := 26) ch_cX12_given_0 rfl)
theorem dX12_given_27 : decode cX12_given 27 = .ok (.iadd, 1) := do_96 (rdb (p := 0) (i := 27) ch_cX12_given_0 rfl)
theorem dX12_given_28 : decode cX12_given 28 = .ok (.if_icmp .ge 170, 3) := do_162 (rdb (p := 0) (i := 28) ch_cX12_given_0 rfl) (rdb (p := 0) (i := 29) ch_cX12_given_0 rfl) (rdb (p := 0) (i := 30) ch_cX12_given_0 rfl) (by decide +kernel)
theorem dX12_given_31 : decode cX12_given 31 = .ok (.aload_n 0, 1) := do_42 (rdb (p := 0) (i := 31) ch_cX12_given_0 rfl)
theorem ch_cX12_given_32 : (cX12_given.data.toList.drop 32).take 36 = [180, 0, 9, 21, 4, 46, 54, 5, 21, 5, 17, 7, 208, 162, 0, 39, 42, 180, 0, 50, 29, 21, 5, 17, 3, 232, 162, 0, 8, 21, 5, 167, 0, 14, 42, 180] := by decide +kernel
theorem dX12_given_32 : decode cX12_given 32 = .ok (.getfield 9, 3) := do_180 (rdb (p := 32) (i := 0) ch_cX12_given_32 rfl) (rdb (p := 32) (i := 1) ch_cX12_given_32 rfl) (rdb (p := 32) (i := 2) ch_cX12_given_32 rfl) rfl
theorem dX12_given_35 : decode cX12_given 35 = .ok (.iload 4, 2) := do_21 (rdb (p := 32) (i := 3) ch_cX12_given_32 rfl) (rdb (p := 32) (i := 4) ch_cX12_given_32 rfl)
theorem dX12_given_37 : decode cX12_given 37 = .ok (.iaload, 1) := do_46 (rdb (p := 32) (i := 5) ch_cX12_given_32 rfl)
theorem dX12_given_38 : decode cX12_given 38 = .ok (.istore 5, 2) := do_54 (rdb (p := 32) (i := 6) ch_cX12_given_32 rfl) (rdb (p := 32) (i := 7) ch_cX12_given_32 rfl)
theorem dX12_given_40 : decode cX12_given 40 = .ok (.iload 5, 2) := do_21 (rdb (p := 32) (i := 8) ch_cX12_given_32 rfl) (rdb (p := 32) (i := 9) ch_cX12_given_32 rfl)
theorem dX12_given_42 : decode cX12_given 42 = .ok (.sipush 2000, 3) := do_17 (rdb (p := 32) (i := 10) ch_cX12_given_32 rfl) (rdb (p := 32) (i := 11) ch_cX12_given_32 rfl) (rdb (p := 32) (i := 12) ch_cX12_given_32 rfl) (by decide +kernel)
theorem dX12_given_45 : decode cX12_given 45 = .ok (.if_icmp .ge 39, 3) := do_162 (rdb (p := 32) (i := 13) ch_cX12_given_32 rfl) (rdb (p := 32) (i := 14) ch_cX12_given_32 rfl) (rdb (p := 32) (i := 15) ch_cX12_given_32 rfl) (by decide +kernel)
theorem dX12_given_48 : decode cX12_given 48 = .ok (.aload_n 0, 1) := do_42 (rdb (p := 32) (i := 16) ch_cX12_given_32 rfl)
theorem dX12_given_49 : decode cX12_given 49 = .ok (.getfield 50, 3) := do_180 (rdb (p := 32) (i := 17) ch_cX12_given_32 rfl) (rdb (p := 32) (i := 18) ch_cX12_given_32 rfl) (rdb (p := 32) (i := 19) ch_cX12_given_32 rfl) rfl
theorem dX12_given_52 : decode cX12_given 52 = .ok (.iload_n 3, 1) := do_29 (rdb (p := 32) (i := 20) ch_cX12_given_32 rfl)
theorem dX12_given_53 : decode cX12_given 53 = .ok (.iload 5, 2) := do_21 (rdb (p := 32) (i := 21) ch_cX12_given_32 rfl) (rdb (p := 32) (i := 22) ch_cX12_given_32 rfl)
theorem dX12_given_55 : decode cX12_given 55 = .ok (.sipush 1000, 3) := do_17 (rdb (p := 32) (i := 23) ch_cX12_given_32 rfl) (rdb (p := 32) (i := 24) ch_cX12_given_32 rfl) (rdb (p := 32) (i := 25) ch_cX12_given_32 rfl) (by decide +kernel)
theorem dX12_given_58 : decode cX12_given 58 = .ok (.if_icmp .ge 8, 3) := do_162 (rdb (p := 32) (i := 26) ch_cX12_given_32 rfl) (rdb (p := 32) (i := 27) ch_cX12_given_32 rfl) (rdb (p := 32) (i := 28) ch_cX12_given_32 rfl) (by decide +kernel)
theorem dX12_given_61 : decode cX12_given 61 = .ok (.iload 5, 2) := do_21 (rdb (p := 32) (i := 29) ch_cX12_given_32 rfl) (rdb (p := 32) (i := 30) ch_cX12_given_32 rfl)
theorem dX12_given_63 : decode cX12_given 63 = .ok (.goto 14, 3) := do_167 (rdb (p := 32) (i := 31) ch_cX12_given_32 rfl) (rdb (p := 32) (i := 32) ch_cX12_given_32 rfl) (rdb (p := 32) (i := 33) ch_cX12_given_32 rfl) (by decide +kernel)
theorem ch_cX12_given_64 : (cX12_given.data.toList.drop 64).take 36 = [0, 14, 42, 180, 0, 47, 21, 5, 17, 3, 232, 100, 46, 79, 132, 3, 1, 167, 0, 111, 21, 5, 17, 7, 216, 160, 0, 23, 42, 180, 0, 50, 29, 4, 100, 42] := by decide +kernel
theorem dX12_given_66 : decode cX12_given 66 = .ok (.aload_n 0, 1) := do_42 (rdb (p := 64) (i := 2) ch_cX12_given_64 rfl)
theorem dX12_given_67 : decode cX12_given 67 = .ok (.getfield 47, 3) := do_180 (rdb (p := 64) (i := 3) ch_cX12_given_64 rfl) (rdb (p := 64) (i := 4) ch_cX12_given_64 rfl) (rdb (p := 64) (i := 5) ch_cX12_given_64 rfl) rfl
theorem dX12_given_70 : decode cX12_given 70 = .ok (.iload 5, 2) := do_21 (rdb (p := 64) (i := 6) ch_cX12_given_64 rfl) (rdb (p := 64) (i := 7) ch_cX12_given_64 rfl)
theorem dX12_given_72 : decode cX12_given 72 = .ok (.sipush 1000, 3) := do_17 (rdb (p := 64) (i := 8) ch_cX12_given_64 rfl) (rdb (p := 64) (i := 9) ch_cX12_given_64 rfl) (rdb (p := 64) (i := 10) ch_cX12_given_64 rfl) (by decide +kernel)
theorem dX12_given_75 : decode cX12_given 75 = .ok (.isub, 1) := do_100 (rdb (p := 64) (i := 11) ch_cX12_given_64 rfl)
theorem dX12_given_76 : decode cX12_given 76 = .ok (.iaload, 1) := do_46 (rdb (p := 64) (i := 12) ch_cX12_given_64 rfl)
theorem dX12_given_77 : decode cX12_given 77 = .ok (.iastore, 1) := do_79 (rdb (p := 64) (i := 13) ch_cX12_given_64 rfl)
theorem dX12_given_78 : decode cX12_given 78 = .ok (.iinc 3 1, 3) := do_132 (rdb (p := 64) (i := 14) ch_cX12_given_64 rfl) (rdb (p := 64) (i := 15) ch_cX12_given_64 rfl) (rdb (p := 64) (i := 16) ch_cX12_given_64 rfl) (by decide +kernel)
theorem dX12_given_81 : decode cX12_given 81 = .ok (.goto 111, 3) := do_167 (rdb (p := 64) (i := 17) ch_cX12_given_64 rfl) (rdb (p := 64) (i := 18) ch_cX12_given_64 rfl) (rdb (p := 64) (i := 19) ch_cX12_given_64 rfl) (by decide +kernel)
theorem dX12_given_84 : decode cX12_given 84 = .ok (.iload 5, 2) := do_21 (rdb (p := 64) (i := 20) ch_cX12_given_64 rfl) (rdb (p := 64) (i := 21) ch_cX12_given_64 rfl)
theorem dX12_given_86 : decode cX12_given 86 = .ok (.sipush 2008, 3) := do_17 (rdb (p := 64) (i := 22) ch_cX12_given_64 rfl) (rdb (p := 64) (i := 23) ch_cX12_given_64 rfl) (rdb (p := 64) (i := 24) ch_cX12_given_64 rfl) (by decide +kernel)
theorem dX12_given_89 : decode cX12_given 89 = .ok (.if_icmp .ne 23, 3) := do_160 (rdb (p := 64) (i := 25) ch_cX12_given_64 rfl) (rdb (p := 64) (i := 26) ch_cX12_given_64 rfl) (rdb (p := 64) (i := 27) ch_cX12_given_64 rfl) (by decide +kernel)
theorem dX12_given_92 : decode cX12_given 92 = .ok (.aload_n 0, 1) := do_42 (rdb (p := 64) (i := 28) ch_cX12_given_64 rfl)
theorem dX12_given_93 : decode cX12_given 93 = .ok (.getfield 50, 3) := do_180 (rdb (p := 64) (i := 29) ch_cX12_given_64 rfl) (rdb (p := 64) (i := 30) ch_cX12_given_64 rfl) (rdb (p := 64) (i := 31) ch_cX12_given_64 rfl) rfl
theorem ch_cX12_given_96 : (cX12_given.data.toList.drop 96).take 36 = [29, 4, 100, 42, 180, 0, 50, 29, 4, 100, 46, 116, 79, 167, 0, 83, 21, 5, 17, 7, 217, 160, 0, 45, 132, 3, 254, 42, 180, 0, 50, 29, 4, 100, 42, 180] := by decide +kernel
theorem dX12_given_96 : decode cX12_given 96 = .ok (.iload_n 3, 1) := do_29 (rdb (p := 96) (i := 0) ch_cX12_given_96 rfl)
theorem dX12_given_97 : decode cX12_given 97 = .ok (.iconst 1, 1) := do_4 (rdb (p := 96) (i := 1) ch_cX12_given_96 rfl)
theorem dX12_given_98 : decode cX12_given 98 = .ok (.isub, 1) := do_100 (rdb (p := 96) (i := 2) ch_cX12_given_96 rfl)
theorem dX12_given_99 : decode cX12_given 99 = .ok (.aload_n 0, 1) := do_42 (rdb (p := 96) (i := 3) ch_cX12_given_96 rfl)
theorem dX12_given_100 : decode cX12_given 100 = .ok (.getfield 50, 3) := do_180 (rdb (p := 96) (i := 4) ch_cX12_given_96 rfl) (rdb (p := 96) (i := 5) ch_cX12_given_96 rfl) (rdb (p := 96) (i := 6) ch_cX12_given_96 rfl) rfl
theorem dX12_given_103 : decode cX12_given 103 = .ok (.iload_n 3, 1) := do_29 (rdb (p := 96) (i := 7) ch_cX12_given_96 rfl)
theorem dX12_given_104 : decode cX12_given 104 = .ok (.iconst 1, 1) := do_4 (rdb (p := 96) (i := 8) ch_cX12_given_96 rfl)
theorem dX12_given_105 : decode cX12_given 105 = .ok (.isub, 1) := do_100 (rdb (p := 96) (i := 9) ch_cX12_given_96 rfl)
theorem dX12_given_106 : decode cX12_given 106 = .ok (.iaload, 1) := do_46 (rdb (p := 96) (i := 10) ch_cX12_given_96 rfl)
theorem dX12_given_107 : decode cX12_given 107 = .ok (.ineg, 1) := do_116 (rdb (p := 96) (i := 11) ch_cX12_given_96 rfl)
theorem dX12_given_108 : decode cX12_given 108 = .ok (.iastore, 1) := do_79 (rdb (p := 96) (i := 12) ch_cX12_given_96 rfl)
theorem dX12_given_109 : decode cX12_given 109 = .ok (.goto 83, 3) := do_167 (rdb (p := 96) (i := 13) ch_cX12_given_96 rfl) (rdb (p := 96) (i := 14) ch_cX12_given_96 rfl) (rdb (p := 96) (i := 15) ch_cX12_given_96 rfl) (by decide +kernel)
theorem dX12_given_112 : decode cX12_given 112 = .ok (.iload 5, 2) := do_21 (rdb (p := 96) (i := 16) ch_cX12_given_96 rfl) (rdb (p := 96) (i := 17) ch_cX12_given_96 rfl)
theorem dX12_given_114 : decode cX12_given 114 = .ok (.sipush 2009, 3) := do_17 (rdb (p := 96) (i := 18) ch_cX12_given_96 rfl) (rdb (p := 96) (i := 19) ch_cX12_given_96 rfl) (rdb (p := 96) (i := 20) ch_cX12_given_96 rfl) (by decide +kernel)
theorem dX12_given_117 : decode cX12_given 117 = .ok (.if_icmp .ne 45, 3) := do_160 (rdb (p := 96) (i := 21) ch_cX12_given_96 rfl) (rdb (p := 96) (i := 22) ch_cX12_given_96 rfl) (rdb (p := 96) (i := 23) ch_cX12_given_96 rfl) (by decide +kernel)
theorem dX12_given_120 : decode cX12_given 120 = .ok (.iinc 3 (-2), 3) := do_132 (rdb (p := 96) (i := 24) ch_cX12_given_96 rfl) (rdb (p := 96) (i := 25) ch_cX12_given_96 rfl) (rdb (p := 96) (i := 26) ch_cX12_given_96 rfl) (by decide +kernel)
theorem dX12_given_123 : decode cX12_given 123 = .ok (.aload_n 0, 1) := do_42 (rdb (p := 96) (i := 27) ch_cX12_given_96 rfl)
theorem dX12_given_124 : decode cX12_given 124 = .ok (.getfield 50, 3) := do_180 (rdb (p := 96) (i := 28) ch_cX12_given_96 rfl) (rdb (p := 96) (i := 29) ch_cX12_given_96 rfl) (rdb (p := 96) (i := 30) ch_cX12_given_96 rfl) rfl
theorem dX12_given_127 : decode cX12_given 127 = .ok (.iload_n 3, 1) := do_29 (rdb (p := 96) (i := 31) ch_cX12_given_96 rfl)
theorem ch_cX12_given_128 : (cX12_given.data.toList.drop 128).take 36 = [4, 100, 42, 180, 0, 50, 29, 4, 100, 46, 153, 0, 12, 42, 180, 0, 50, 29, 46, 167, 0, 11, 42, 180, 0, 50, 29, 4, 96, 46, 79, 167, 0, 33, 132, 3] := by decide +kernel
theorem dX12_given_128 : decode cX12_given 128 = .ok (.iconst 1, 1) := do_4 (rdb (p := 128) (i := 0) ch_cX12_given_128 rfl)
theorem dX12_given_129 : decode cX12_given 129 = .ok (.isub, 1) := do_100 (rdb (p := 128) (i := 1) ch_cX12_given_128 rfl)
theorem dX12_given_130 : decode cX12_given 130 = .ok (.aload_n 0, 1) := do_42 (rdb (p := 128) (i := 2) ch_cX12_given_128 rfl)
theorem dX12_given_131 : decode cX12_given 131 = .ok (.getfield 50, 3) := do_180 (rdb (p := 128) (i := 3) ch_cX12_given_128 rfl) (rdb (p := 128) (i := 4) ch_cX12_given_128 rfl) (rdb (p := 128) (i := 5) ch_cX12_given_128 rfl) rfl
theorem dX12_given_134 : decode cX12_given 134 = .ok (.iload_n 3, 1) := do_29 (rdb (p := 128) (i := 6) ch_cX12_given_128 rfl)
theorem dX12_given_135 : decode cX12_given 135 = .ok (.iconst 1, 1) := do_4 (rdb (p := 128) (i := 7) ch_cX12_given_128 rfl)
theorem dX12_given_136 : decode cX12_given 136 = .ok (.isub, 1) := do_100 (rdb (p := 128) (i := 8) ch_cX12_given_128 rfl)
theorem dX12_given_137 : decode cX12_given 137 = .ok (.iaload, 1) := do_46 (rdb (p := 128) (i := 9) ch_cX12_given_128 rfl)
theorem dX12_given_138 : decode cX12_given 138 = .ok (.ifCond .eq 12, 3) := do_153 (rdb (p := 128) (i := 10) ch_cX12_given_128 rfl) (rdb (p := 128) (i := 11) ch_cX12_given_128 rfl) (rdb (p := 128) (i := 12) ch_cX12_given_128 rfl) (by decide +kernel)
theorem dX12_given_141 : decode cX12_given 141 = .ok (.aload_n 0, 1) := do_42 (rdb (p := 128) (i := 13) ch_cX12_given_128 rfl)
theorem dX12_given_142 : decode cX12_given 142 = .ok (.getfield 50, 3) := do_180 (rdb (p := 128) (i := 14) ch_cX12_given_128 rfl) (rdb (p := 128) (i := 15) ch_cX12_given_128 rfl) (rdb (p := 128) (i := 16) ch_cX12_given_128 rfl) rfl
theorem dX12_given_145 : decode cX12_given 145 = .ok (.iload_n 3, 1) := do_29 (rdb (p := 128) (i := 17) ch_cX12_given_128 rfl)
theorem dX12_given_146 : decode cX12_given 146 = .ok (.iaload, 1) := do_46 (rdb (p := 128) (i := 18) ch_cX12_given_128 rfl)
theorem dX12_given_147 : decode cX12_given 147 = .ok (.goto 11, 3) := do_167 (rdb (p := 128) (i := 19) ch_cX12_given_128 rfl) (rdb (p := 128) (i := 20) ch_cX12_given_128 rfl) (rdb (p := 128) (i := 21) ch_cX12_given_128 rfl) (by decide +kernel)
theorem dX12_given_150 : decode cX12_given 150 = .ok (.aload_n 0, 1) := do_42 (rdb (p := 128) (i := 22) ch_cX12_given_128 rfl)
theorem dX12_given_151 : decode cX12_given 151 = .ok (.getfield 50, 3) := do_180 (rdb (p := 128) (i := 23) ch_cX12_given_128 rfl) (rdb (p := 128) (i := 24) ch_cX12_given_128 rfl) (rdb (p := 128) (i := 25) ch_cX12_given_128 rfl) rfl
theorem dX12_given_154 : decode cX12_given 154 = .ok (.iload_n 3, 1) := do_29 (rdb (p := 128) (i := 26) ch_cX12_given_128 rfl)
theorem dX12_given_155 : decode cX12_given 155 = .ok (.iconst 1, 1) := do_4 (rdb (p := 128) (i := 27) ch_cX12_given_128 rfl)
theorem dX12_given_156 : decode cX12_given 156 = .ok (.iadd, 1) := do_96 (rdb (p := 128) (i := 28) ch_cX12_given_128 rfl)
theorem dX12_given_157 : decode cX12_given 157 = .ok (.iaload, 1) := do_46 (rdb (p := 128) (i := 29) ch_cX12_given_128 rfl)
theorem dX12_given_158 : decode cX12_given 158 = .ok (.iastore, 1) := do_79 (rdb (p := 128) (i := 30) ch_cX12_given_128 rfl)
theorem dX12_given_159 : decode cX12_given 159 = .ok (.goto 33, 3) := do_167 (rdb (p := 128) (i := 31) ch_cX12_given_128 rfl) (rdb (p := 128) (i := 32) ch_cX12_given_128 rfl) (rdb (p := 128) (i := 33) ch_cX12_given_128 rfl) (by decide +kernel)
theorem ch_cX12_given_160 : (cX12_given.data.toList.drop 160).take 36 = [0, 33, 132, 3, 255, 42, 180, 0, 50, 29, 4, 100, 21, 5, 42, 180, 0, 50, 29, 4, 100, 46, 42, 180, 0, 50, 29, 46, 184, 0, 209, 79, 132, 4, 1, 167] := by decide +kernel
theorem dX12_given_162 : decode cX12_given 162 = .ok (.iinc 3 (-1), 3) := do_132 (rdb (p := 160) (i := 2) ch_cX12_given_160 rfl) (rdb (p := 160) (i := 3) ch_cX12_given_160 rfl) (rdb (p := 160) (i := 4) ch_cX12_given_160 rfl) (by decide +kernel)
theorem dX12_given_165 : decode cX12_given 165 = .ok (.aload_n 0, 1) := do_42 (rdb (p := 160) (i := 5) ch_cX12_given_160 rfl)
theorem dX12_given_166 : decode cX12_given 166 = .ok (.getfield 50, 3) := do_180 (rdb (p := 160) (i := 6) ch_cX12_given_160 rfl) (rdb (p := 160) (i := 7) ch_cX12_given_160 rfl) (rdb (p := 160) (i := 8) ch_cX12_given_160 rfl) rfl
theorem dX12_given_169 : decode cX12_given 169 = .ok (.iload_n 3, 1) := do_29 (rdb (p := 160) (i := 9) ch_cX12_given_160 rfl)
theorem dX12_given_170 : decode cX12_given 170 = .ok (.iconst 1, 1) := do_4 (rdb (p := 160) (i := 10) ch_cX12_given_160 rfl)
theorem dX12_given_171 : decode cX12_given 171 = .ok (.isub, 1) := do_100 (rdb (p := 160) (i := 11) ch_cX12_given_160 rfl)
theorem dX12_given_172 : decode cX12_given 172 = .ok (.iload 5, 2) := do_21 (rdb (p := 160) (i := 12) ch_cX12_given_160 rfl) (rdb (p := 160) (i := 13) ch_cX12_given_160 rfl)
theorem dX12_given_174 : decode cX12_given 174 = .ok (.aload_n 0, 1) := do_42 (rdb (p := 160) (i := 14) ch_cX12_given_160 rfl)
theorem dX12_given_175 : decode cX12_given 175 = .ok (.getfield 50, 3) := do_180 (rdb (p := 160) (i := 15) ch_cX12_given_160 rfl) (rdb (p := 160) (i := 16) ch_cX12_given_160 rfl) (rdb (p := 160) (i := 17) ch_cX12_given_160 rfl) rfl
theorem dX12_given_178 : decode cX12_given 178 = .ok (.iload_n 3, 1) := do_29 (rdb (p := 160) (i := 18) ch_cX12_given_160 rfl)
theorem dX12_given_179 : decode cX12_given 179 = .ok (.iconst 1, 1) := do_4 (rdb (p := 160) (i := 19) ch_cX12_given_160 rfl)
theorem dX12_given_180 : decode cX12_given 180 = .ok (.isub, 1) := do_100 (rdb (p := 160) (i := 20) ch_cX12_given_160 rfl)
theorem dX12_given_181 : decode cX12_given 181 = .ok (.iaload, 1) := do_46 (rdb (p := 160) (i := 21) ch_cX12_given_160 rfl)
theorem dX12_given_182 : decode cX12_given 182 = .ok (.aload_n 0, 1) := do_42 (rdb (p := 160) (i := 22) ch_cX12_given_160 rfl)
theorem dX12_given_183 : decode cX12_given 183 = .ok (.getfield 50, 3) := do_180 (rdb (p := 160) (i := 23) ch_cX12_given_160 rfl) (rdb (p := 160) (i := 24) ch_cX12_given_160 rfl) (rdb (p := 160) (i := 25) ch_cX12_given_160 rfl) rfl
theorem dX12_given_186 : decode cX12_given 186 = .ok (.iload_n 3, 1) := do_29 (rdb (p := 160) (i := 26) ch_cX12_given_160 rfl)
theorem dX12_given_187 : decode cX12_given 187 = .ok (.iaload, 1) := do_46 (rdb (p := 160) (i := 27) ch_cX12_given_160 rfl)
theorem dX12_given_188 : decode cX12_given 188 = .ok (.invokestatic 209, 3) := do_184 (rdb (p := 160) (i := 28) ch_cX12_given_160 rfl) (rdb (p := 160) (i := 29) ch_cX12_given_160 rfl) (rdb (p := 160) (i := 30) ch_cX12_given_160 rfl) rfl
theorem dX12_given_191 : decode cX12_given 191 = .ok (.iastore, 1) := do_79 (rdb (p := 160) (i := 31) ch_cX12_given_160 rfl)
theorem ch_cX12_given_192 : (cX12_given.data.toList.drop 192).take 36 = [132, 4, 1, 167, 255, 77, 42, 180, 0, 50, 3, 46, 172] := by decide +kernel
theorem dX12_given_192 : decode cX12_given 192 = .ok (.iinc 4 1, 3) := do_132 (rdb (p := 192) (i := 0) ch_cX12_given_192 rfl) (rdb (p := 192) (i := 1) ch_cX12_given_192 rfl) (rdb (p := 192) (i := 2) ch_cX12_given_192 rfl) (by decide +kernel)
theorem dX12_given_195 : decode cX12_given 195 = .ok (.goto (-179), 3) := do_167 (rdb (p := 192) (i := 3) ch_cX12_given_192 rfl) (rdb (p := 192) (i := 4) ch_cX12_given_192 rfl) (rdb (p := 192) (i := 5) ch_cX12_given_192 rfl) (by decide +kernel)
theorem dX12_given_198 : decode cX12_given 198 = .ok (.aload_n 0, 1) := do_42 (rdb (p := 192) (i := 6) ch_cX12_given_192 rfl)
theorem dX12_given_199 : decode cX12_given 199 = .ok (.getfield 50, 3) := do_180 (rdb (p := 192) (i := 7) ch_cX12_given_192 rfl) (rdb (p := 192) (i := 8) ch_cX12_given_192 rfl) (rdb (p := 192) (i := 9) ch_cX12_given_192 rfl) rfl
theorem dX12_given_202 : decode cX12_given 202 = .ok (.iconst 0, 1) := do_3 (rdb (p := 192) (i := 10) ch_cX12_given_192 rfl)
theorem dX12_given_203 : decode cX12_given 203 = .ok (.iaload, 1) := do_46 (rdb (p := 192) (i := 11) ch_cX12_given_192 rfl)
theorem dX12_given_204 : decode cX12_given 204 = .ok (.ireturn, 1) := do_172 (rdb (p := 192) (i := 12) ch_cX12_given_192 rfl)
theorem dX12_hasText_0 : decode cX12_hasText 0 = .ok (.aload_n 0, 1) := by decide +kernel
theorem dX12_hasText_1 : decode cX12_hasText 1 = .ok (.getfield 9, 3) := by decide +kernel
theorem dX12_hasText_4 : decode cX12_hasText 4 = .ok (.sipush 345, 3) := by decide +kernel
theorem dX12_hasText_7 : decode cX12_hasText 7 = .ok (.bipush 50, 2) := by decide +kernel
theorem dX12_hasText_9 : decode cX12_hasText 9 = .ok (.iload_n 1, 1) := by decide +kernel
theorem dX12_hasText_10 : decode cX12_hasText 10 = .ok (.imul, 1) := by decide +kernel
theorem dX12_hasText_11 : decode cX12_hasText 11 = .ok (.iadd, 1) := by decide +kernel
theorem dX12_hasText_12 : decode cX12_hasText 12 = .ok (.iaload, 1) := by decide +kernel
theorem dX12_hasText_13 : decode cX12_hasText 13 = .ok (.ifCond .le 7, 3) := by decide +kernel
theorem dX12_hasText_16 : decode cX12_hasText 16 = .ok (.iconst 1, 1) := by decide +kernel
theorem dX12_hasText_17 : decode cX12_hasText 17 = .ok (.goto 4, 3) := by decide +kernel
theorem dX12_hasText_20 : decode cX12_hasText 20 = .ok (.iconst 0, 1) := by decide +kernel
theorem dX12_hasText_21 : decode cX12_hasText 21 = .ok (.ireturn, 1) := by decide +kernel
theorem ch_cX12_head_0 : (cX12_head.data.toList.drop 0).take 36 = [42, 27, 5, 182, 0, 116, 153, 0, 19, 28, 184, 0, 99, 153, 0, 12, 29, 3, 5, 184, 0, 85, 154, 0, 10, 42, 18, 103, 182, 0, 104, 172, 29, 5, 160, 0] := by decide +kernel
theorem dX12_head_0 : decode cX12_head 0 = .ok (.aload_n 0, 1) := do_42 (rdb (p := 0) (i := 0) ch_cX12_head_0 rfl)
theorem dX12_head_1 : decode cX12_head 1 = .ok (.iload_n 1, 1) := do_27 (rdb (p := 0) (i := 1) ch_cX12_head_0 rfl)
theorem dX12_head_2 : decode cX12_head 2 = .ok (.iconst 2, 1) := do_5 (rdb (p := 0) (i := 2) ch_cX12_head_0 rfl)
theorem dX12_head_3 : decode cX12_head 3 = .ok (.invokevirtual 116, 3) := do_182 (rdb (p := 0) (i := 3) ch_cX12_head_0 rfl) (rdb (p := 0) (i := 4) ch_cX12_head_0 rfl) (rdb (p := 0) (i := 5) ch_cX12_head_0 rfl) rfl
theorem dX12_head_6 : decode cX12_head 6 = .ok (.ifCond .eq 19, 3) := do_153 (rdb (p := 0) (i := 6) ch_cX12_head_0 rfl) (rdb (p := 0) (i := 7) ch_cX12_head_0 rfl) (rdb (p := 0) (i := 8) ch_cX12_head_0 rfl) (by decide +kernel)
theorem dX12_head_9 : decode cX12_head 9 = .ok (.iload_n 2, 1) := do_28 (rdb (p := 0) (i := 9) ch_cX12_head_0 rfl)
theorem dX12_head_10 : decode cX12_head 10 = .ok (.invokestatic 99, 3) := do_184 (rdb (p := 0) (i := 10) ch_cX12_head_0 rfl) (rdb (p := 0) (i := 11) ch_cX12_head_0 rfl) (rdb (p := 0) (i := 12) ch_cX12_head_0 rfl) rfl
theorem dX12_head_13 : decode cX12_head 13 = .ok (.ifCond .eq 12, 3) := do_153 (rdb (p := 0) (i := 13) ch_cX12_head_0 rfl) (rdb (p := 0) (i := 14) ch_cX12_head_0 rfl) (rdb (p := 0) (i := 15) ch_cX12_head_0 rfl) (by decide +kernel)
theorem dX12_head_16 : decode cX12_head 16 = .ok (.iload_n 3, 1) := do_29 (rdb (p := 0) (i := 16) ch_cX12_head_0 rfl)
theorem dX12_head_17 : decode cX12_head 17 = .ok (.iconst 0, 1) := do_3 (rdb (p := 0) (i := 17) ch_cX12_head_0 rfl)
theorem dX12_head_18 : decode cX12_head 18 = .ok (.iconst 2, 1) := do_5 (rdb (p := 0) (i := 18) ch_cX12_head_0 rfl)
theorem dX12_head_19 : decode cX12_head 19 = .ok (.invokestatic 85, 3) := do_184 (rdb (p := 0) (i := 19) ch_cX12_head_0 rfl) (rdb (p := 0) (i := 20) ch_cX12_head_0 rfl) (rdb (p := 0) (i := 21) ch_cX12_head_0 rfl) rfl
theorem dX12_head_22 : decode cX12_head 22 = .ok (.ifCond .ne 10, 3) := do_154 (rdb (p := 0) (i := 22) ch_cX12_head_0 rfl) (rdb (p := 0) (i := 23) ch_cX12_head_0 rfl) (rdb (p := 0) (i := 24) ch_cX12_head_0 rfl) (by decide +kernel)
theorem dX12_head_25 : decode cX12_head 25 = .ok (.aload_n 0, 1) := do_42 (rdb (p := 0) (i := 25) ch_cX12_head_0 rfl)
theorem dX12_head_26 : decode cX12_head 26 = .ok (.ldc 103, 2) := do_18 (rdb (p := 0) (i := 26) ch_cX12_head_0 rfl) (rdb (p := 0) (i := 27) ch_cX12_head_0 rfl)
theorem dX12_head_28 : decode cX12_head 28 = .ok (.invokevirtual 104, 3) := do_182 (rdb (p := 0) (i := 28) ch_cX12_head_0 rfl) (rdb (p := 0) (i := 29) ch_cX12_head_0 rfl) (rdb (p := 0) (i := 30) ch_cX12_head_0 rfl) rfl
theorem dX12_head_31 : decode cX12_head 31 = .ok (.ireturn, 1) := do_172 (rdb (p := 0) (i := 31) ch_cX12_head_0 rfl)
theorem ch_cX12_head_32 : (cX12_head.data.toList.drop 32).take 36 = [29, 5, 160, 0, 12, 42, 27, 28, 182, 1, 13, 167, 0, 27, 42, 180, 0, 9, 29, 154, 0, 12, 42, 27, 28, 182, 0, 253, 167, 0, 9, 42, 27, 28, 182, 1] := by decide +kernel
theorem dX12_head_32 : decode cX12_head 32 = .ok (.iload_n 3, 1) := do_29 (rdb (p := 32) (i := 0) ch_cX12_head_32 rfl)
theorem dX12_head_33 : decode cX12_head 33 = .ok (.iconst 2, 1) := do_5 (rdb (p := 32) (i := 1) ch_cX12_head_32 rfl)
theorem dX12_head_34 : decode cX12_head 34 = .ok (.if_icmp .ne 12, 3) := do_160 (rdb (p := 32) (i := 2) ch_cX12_head_32 rfl) (rdb (p := 32) (i := 3) ch_cX12_head_32 rfl) (rdb (p := 32) (i := 4) ch_cX12_head_32 rfl) (by decide +kernel)
theorem dX12_head_37 : decode cX12_head 37 = .ok (.aload_n 0, 1) := do_42 (rdb (p := 32) (i := 5) ch_cX12_head_32 rfl)
theorem dX12_head_38 : decode cX12_head 38 = .ok (.iload_n 1, 1) := do_27 (rdb (p := 32) (i := 6) ch_cX12_head_32 rfl)
theorem dX12_head_39 : decode cX12_head 39 = .ok (.iload_n 2, 1) := do_28 (rdb (p := 32) (i := 7) ch_cX12_head_32 rfl)
theorem dX12_head_40 : decode cX12_head 40 = .ok (.invokevirtual 269, 3) := do_182 (rdb (p := 32) (i := 8) ch_cX12_head_32 rfl) (rdb (p := 32) (i := 9) ch_cX12_head_32 rfl) (rdb (p := 32) (i := 10) ch_cX12_head_32 rfl) rfl
theorem dX12_head_43 : decode cX12_head 43 = .ok (.goto 27, 3) := do_167 (rdb (p := 32) (i := 11) ch_cX12_head_32 rfl) (rdb (p := 32) (i := 12) ch_cX12_head_32 rfl) (rdb (p := 32) (i := 13) ch_cX12_head_32 rfl) (by decide +kernel)
theorem dX12_head_46 : decode cX12_head 46 = .ok (.aload_n 0, 1) := do_42 (rdb (p := 32) (i := 14) ch_cX12_head_32 rfl)
theorem dX12_head_47 : decode cX12_head 47 = .ok (.getfield 9, 3) := do_180 (rdb (p := 32) (i := 15) ch_cX12_head_32 rfl) (rdb (p := 32) (i := 16) ch_cX12_head_32 rfl) (rdb (p := 32) (i := 17) ch_cX12_head_32 rfl) rfl
theorem dX12_head_50 : decode cX12_head 50 = .ok (.iload_n 3, 1) := do_29 (rdb (p := 32) (i := 18) ch_cX12_head_32 rfl)
theorem dX12_head_51 : decode cX12_head 51 = .ok (.ifCond .ne 12, 3) := do_154 (rdb (p := 32) (i := 19) ch_cX12_head_32 rfl) (rdb (p := 32) (i := 20) ch_cX12_head_32 rfl) (rdb (p := 32) (i := 21) ch_cX12_head_32 rfl) (by decide +kernel)
theorem dX12_head_54 : decode cX12_head 54 = .ok (.aload_n 0, 1) := do_42 (rdb (p := 32) (i := 22) ch_cX12_head_32 rfl)
theorem dX12_head_55 : decode cX12_head 55 = .ok (.iload_n 1, 1) := do_27 (rdb (p := 32) (i := 23) ch_cX12_head_32 rfl)
theorem dX12_head_56 : decode cX12_head 56 = .ok (.iload_n 2, 1) := do_28 (rdb (p := 32) (i := 24) ch_cX12_head_32 rfl)
theorem dX12_head_57 : decode cX12_head 57 = .ok (.invokevirtual 253, 3) := do_182 (rdb (p := 32) (i := 25) ch_cX12_head_32 rfl) (rdb (p := 32) (i := 26) ch_cX12_head_32 rfl) (rdb (p := 32) (i := 27) ch_cX12_head_32 rfl) rfl
theorem dX12_head_60 : decode cX12_head 60 = .ok (.goto 9, 3) := do_167 (rdb (p := 32) (i := 28) ch_cX12_head_32 rfl) (rdb (p := 32) (i := 29) ch_cX12_head_32 rfl) (rdb (p := 32) (i := 30) ch_cX12_head_32 rfl) (by decide +kernel)
theorem dX12_head_63 : decode cX12_head 63 = .ok (.aload_n 0, 1) := do_42 (rdb (p := 32) (i := 31) ch_cX12_head_32 rfl)
theorem ch_cX12_head_64 : (cX12_head.data.toList.drop 64).take 36 = [27, 28, 182, 1, 3, 46, 172] := by decide +kernel
theorem dX12_head_64 : decode cX12_head 64 = .ok (.iload_n 1, 1) := do_27 (rdb (p := 64) (i := 0) ch_cX12_head_64 rfl)
theorem dX12_head_65 : decode cX12_head 65 = .ok (.iload_n 2, 1) := do_28 (rdb (p := 64) (i := 1) ch_cX12_head_64 rfl)
theorem dX12_head_66 : decode cX12_head 66 = .ok (.invokevirtual 259, 3) := do_182 (rdb (p := 64) (i := 2) ch_cX12_head_64 rfl) (rdb (p := 64) (i := 3) ch_cX12_head_64 rfl) (rdb (p := 64) (i := 4) ch_cX12_head_64 rfl) rfl
theorem dX12_head_69 : decode cX12_head 69 = .ok (.iaload, 1) := do_46 (rdb (p := 64) (i := 5) ch_cX12_head_64 rfl)
theorem dX12_head_70 : decode cX12_head 70 = .ok (.ireturn, 1) := do_172 (rdb (p := 64) (i := 6) ch_cX12_head_64 rfl)
theorem ch_cX12_heads_0 : (cX12_heads.data.toList.drop 0).take 36 = [42, 27, 5, 182, 0, 116, 153, 0, 12, 28, 3, 6, 184, 0, 85, 154, 0, 10, 42, 18, 103, 182, 0, 104, 172, 3, 62, 3, 54, 4, 21, 4, 17, 0, 192, 162] := by decide +kernel
theorem dX12_heads_0 : decode cX12_heads 0 = .ok (.aload_n 0, 1) := do_42 (rdb (p := 0) (i := 0) ch_cX12_heads_0 rfl)
theorem dX12_heads_1 : decode cX12_heads 1 = .ok (.iload_n 1, 1) := do_27 (rdb (p := 0) (i := 1) ch_cX12_heads_0 rfl)
theorem dX12_heads_2 : decode cX12_heads 2 = .ok (.iconst 2, 1) := do_5 (rdb (p := 0) (i := 2) ch_cX12_heads_0 rfl)
theorem dX12_heads_3 : decode cX12_heads 3 = .ok (.invokevirtual 116, 3) := do_182 (rdb (p := 0) (i := 3) ch_cX12_heads_0 rfl) (rdb (p := 0) (i := 4) ch_cX12_heads_0 rfl) (rdb (p := 0) (i := 5) ch_cX12_heads_0 rfl) rfl
theorem dX12_heads_6 : decode cX12_heads 6 = .ok (.ifCond .eq 12, 3) := do_153 (rdb (p := 0) (i := 6) ch_cX12_heads_0 rfl) (rdb (p := 0) (i := 7) ch_cX12_heads_0 rfl) (rdb (p := 0) (i := 8) ch_cX12_heads_0 rfl) (by decide +kernel)
theorem dX12_heads_9 : decode cX12_heads 9 = .ok (.iload_n 2, 1) := do_28 (rdb (p := 0) (i := 9) ch_cX12_heads_0 rfl)
theorem dX12_heads_10 : decode cX12_heads 10 = .ok (.iconst 0, 1) := do_3 (rdb (p := 0) (i := 10) ch_cX12_heads_0 rfl)
theorem dX12_heads_11 : decode cX12_heads 11 = .ok (.iconst 3, 1) := do_6 (rdb (p := 0) (i := 11) ch_cX12_heads_0 rfl)
theorem dX12_heads_12 : decode cX12_heads 12 = .ok (.invokestatic 85, 3) := do_184 (rdb (p := 0) (i := 12) ch_cX12_heads_0 rfl) (rdb (p := 0) (i := 13) ch_cX12_heads_0 rfl) (rdb (p := 0) (i := 14) ch_cX12_heads_0 rfl) rfl
theorem dX12_heads_15 : decode cX12_heads 15 = .ok (.ifCond .ne 10, 3) := do_154 (rdb (p := 0) (i := 15) ch_cX12_heads_0 rfl) (rdb (p := 0) (i := 16) ch_cX12_heads_0 rfl) (rdb (p := 0) (i := 17) ch_cX12_heads_0 rfl) (by decide +kernel)
theorem dX12_heads_18 : decode cX12_heads 18 = .ok (.aload_n 0, 1) := do_42 (rdb (p := 0) (i := 18) ch_cX12_heads_0 rfl)
theorem dX12_heads_19 : decode cX12_heads 19 = .ok (.ldc 103, 2) := do_18 (rdb (p := 0) (i := 19) ch_cX12_heads_0 rfl) (rdb (p := 0) (i := 20) ch_cX12_heads_0 rfl)
theorem dX12_heads_21 : decode cX12_heads 21 = .ok (.invokevirtual 104, 3) := do_182 (rdb (p := 0) (i := 21) ch_cX12_heads_0 rfl) (rdb (p := 0) (i := 22) ch_cX12_heads_0 rfl) (rdb (p := 0) (i := 23) ch_cX12_heads_0 rfl) rfl
theorem dX12_heads_24 : decode cX12_heads 24 = .ok (.ireturn, 1) := do_172 (rdb (p := 0) (i := 24) ch_cX12_heads_0 rfl)
theorem dX12_heads_25 : decode cX12_heads 25 = .ok (.iconst 0, 1) := do_3 (rdb (p := 0) (i := 25) ch_cX12_heads_0 rfl)
theorem dX12_heads_26 : decode cX12_heads 26 = .ok (.istore_n 3, 1) := do_62 (rdb (p := 0) (i := 26) ch_cX12_heads_0 rfl)
theorem dX12_heads_27 : decode cX12_heads 27 = .ok (.iconst 0, 1) := do_3 (rdb (p := 0) (i := 27) ch_cX12_heads_0 rfl)
theorem dX12_heads_28 : decode cX12_heads 28 = .ok (.istore 4, 2) := do_54 (rdb (p := 0) (i := 28) ch_cX12_heads_0 rfl) (rdb (p := 0) (i := 29) ch_cX12_heads_0 rfl)
theorem dX12_heads_30 : decode cX12_heads 30 = .ok (.iload 4, 2) := do_21 (rdb (p := 0) (i := 30) ch_cX12_heads_0 rfl) (rdb (p := 0) (i := 31) ch_cX12_heads_0 rfl)
theorem ch_cX12_heads_32 : (cX12_heads.data.toList.drop 32).take 36 = [17, 0, 192, 162, 0, 93, 42, 27, 21, 4, 182, 1, 13, 54, 5, 21, 4, 42, 180, 0, 9, 42, 27, 182, 0, 93, 4, 96, 46, 159, 0, 12, 42, 21, 4, 182] := by decide +kernel
theorem dX12_heads_32 : decode cX12_heads 32 = .ok (.sipush 192, 3) := do_17 (rdb (p := 32) (i := 0) ch_cX12_heads_32 rfl) (rdb (p := 32) (i := 1) ch_cX12_heads_32 rfl) (rdb (p := 32) (i := 2) ch_cX12_heads_32 rfl) (by decide +kernel)
theorem dX12_heads_35 : decode cX12_heads 35 = .ok (.if_icmp .ge 93, 3) := do_162 (rdb (p := 32) (i := 3) ch_cX12_heads_32 rfl) (rdb (p := 32) (i := 4) ch_cX12_heads_32 rfl) (rdb (p := 32) (i := 5) ch_cX12_heads_32 rfl) (by decide +kernel)
theorem dX12_heads_38 : decode cX12_heads 38 = .ok (.aload_n 0, 1) := do_42 (rdb (p := 32) (i := 6) ch_cX12_heads_32 rfl)
theorem dX12_heads_39 : decode cX12_heads 39 = .ok (.iload_n 1, 1) := do_27 (rdb (p := 32) (i := 7) ch_cX12_heads_32 rfl)
theorem dX12_heads_40 : decode cX12_heads 40 = .ok (.iload 4, 2) := do_21 (rdb (p := 32) (i := 8) ch_cX12_heads_32 rfl) (rdb (p := 32) (i := 9) ch_cX12_heads_32 rfl)
theorem dX12_heads_42 : decode cX12_heads 42 = .ok (.invokevirtual 269, 3) := do_182 (rdb (p := 32) (i := 10) ch_cX12_heads_32 rfl) (rdb (p := 32) (i := 11) ch_cX12_heads_32 rfl) (rdb (p := 32) (i := 12) ch_cX12_heads_32 rfl) rfl
theorem dX12_heads_45 : decode cX12_heads 45 = .ok (.istore 5, 2) := do_54 (rdb (p := 32) (i := 13) ch_cX12_heads_32 rfl) (rdb (p := 32) (i := 14) ch_cX12_heads_32 rfl)
theorem dX12_heads_47 : decode cX12_heads 47 = .ok (.iload 4, 2) := do_21 (rdb (p := 32) (i := 15) ch_cX12_heads_32 rfl) (rdb (p := 32) (i := 16) ch_cX12_heads_32 rfl)
theorem dX12_heads_49 : decode cX12_heads 49 = .ok (.aload_n 0, 1) := do_42 (rdb (p := 32) (i := 17) ch_cX12_heads_32 rfl)
theorem dX12_heads_50 : decode cX12_heads 50 = .ok (.getfield 9, 3) := do_180 (rdb (p := 32) (i := 18) ch_cX12_heads_32 rfl) (rdb (p := 32) (i := 19) ch_cX12_heads_32 rfl) (rdb (p := 32) (i := 20) ch_cX12_heads_32 rfl) rfl
theorem dX12_heads_53 : decode cX12_heads 53 = .ok (.aload_n 0, 1) := do_42 (rdb (p := 32) (i := 21) ch_cX12_heads_32 rfl)
theorem dX12_heads_54 : decode cX12_heads 54 = .ok (.iload_n 1, 1) := do_27 (rdb (p := 32) (i := 22) ch_cX12_heads_32 rfl)
theorem dX12_heads_55 : decode cX12_heads 55 = .ok (.invokevirtual 93, 3) := do_182 (rdb (p := 32) (i := 23) ch_cX12_heads_32 rfl) (rdb (p := 32) (i := 24) ch_cX12_heads_32 rfl) (rdb (p := 32) (i := 25) ch_cX12_heads_32 rfl) rfl
theorem dX12_heads_58 : decode cX12_heads 58 = .ok (.iconst 1, 1) := do_4 (rdb (p := 32) (i := 26) ch_cX12_heads_32 rfl)
theorem dX12_heads_59 : decode cX12_heads 59 = .ok (.iadd, 1) := do_96 (rdb (p := 32) (i := 27) ch_cX12_heads_32 rfl)
theorem dX12_heads_60 : decode cX12_heads 60 = .ok (.iaload, 1) := do_46 (rdb (p := 32) (i := 28) ch_cX12_heads_32 rfl)
theorem dX12_heads_61 : decode cX12_heads 61 = .ok (.if_icmp .eq 12, 3) := do_159 (rdb (p := 32) (i := 29) ch_cX12_heads_32 rfl) (rdb (p := 32) (i := 30) ch_cX12_heads_32 rfl) (rdb (p := 32) (i := 31) ch_cX12_heads_32 rfl) (by decide +kernel)
theorem ch_cX12_heads_64 : (cX12_heads.data.toList.drop 64).take 36 = [42, 21, 4, 182, 0, 107, 153, 0, 7, 4, 167, 0, 4, 3, 54, 6, 29, 28, 6, 162, 0, 12, 21, 5, 28, 160, 0, 30, 167, 0, 23, 21, 5, 158, 0, 22] := by decide +kernel
theorem dX12_heads_64 : decode cX12_heads 64 = .ok (.aload_n 0, 1) := do_42 (rdb (p := 64) (i := 0) ch_cX12_heads_64 rfl)
theorem dX12_heads_65 : decode cX12_heads 65 = .ok (.iload 4, 2) := do_21 (rdb (p := 64) (i := 1) ch_cX12_heads_64 rfl) (rdb (p := 64) (i := 2) ch_cX12_heads_64 rfl)
theorem dX12_heads_67 : decode cX12_heads 67 = .ok (.invokevirtual 107, 3) := do_182 (rdb (p := 64) (i := 3) ch_cX12_heads_64 rfl) (rdb (p := 64) (i := 4) ch_cX12_heads_64 rfl) (rdb (p := 64) (i := 5) ch_cX12_heads_64 rfl) rfl
theorem dX12_heads_70 : decode cX12_heads 70 = .ok (.ifCond .eq 7, 3) := do_153 (rdb (p := 64) (i := 6) ch_cX12_heads_64 rfl) (rdb (p := 64) (i := 7) ch_cX12_heads_64 rfl) (rdb (p := 64) (i := 8) ch_cX12_heads_64 rfl) (by decide +kernel)
theorem dX12_heads_73 : decode cX12_heads 73 = .ok (.iconst 1, 1) := do_4 (rdb (p := 64) (i := 9) ch_cX12_heads_64 rfl)
theorem dX12_heads_74 : decode cX12_heads 74 = .ok (.goto 4, 3) := do_167 (rdb (p := 64) (i := 10) ch_cX12_heads_64 rfl) (rdb (p := 64) (i := 11) ch_cX12_heads_64 rfl) (rdb (p := 64) (i := 12) ch_cX12_heads_64 rfl) (by decide +kernel)
theorem dX12_heads_77 : decode cX12_heads 77 = .ok (.iconst 0, 1) := do_3 (rdb (p := 64) (i := 13) ch_cX12_heads_64 rfl)
theorem dX12_heads_78 : decode cX12_heads 78 = .ok (.istore 6, 2) := do_54 (rdb (p := 64) (i := 14) ch_cX12_heads_64 rfl) (rdb (p := 64) (i := 15) ch_cX12_heads_64 rfl)
theorem dX12_heads_80 : decode cX12_heads 80 = .ok (.iload_n 3, 1) := do_29 (rdb (p := 64) (i := 16) ch_cX12_heads_64 rfl)
theorem dX12_heads_81 : decode cX12_heads 81 = .ok (.iload_n 2, 1) := do_28 (rdb (p := 64) (i := 17) ch_cX12_heads_64 rfl)
theorem dX12_heads_82 : decode cX12_heads 82 = .ok (.iconst 3, 1) := do_6 (rdb (p := 64) (i := 18) ch_cX12_heads_64 rfl)
theorem dX12_heads_83 : decode cX12_heads 83 = .ok (.if_icmp .ge 12, 3) := do_162 (rdb (p := 64) (i := 19) ch_cX12_heads_64 rfl) (rdb (p := 64) (i := 20) ch_cX12_heads_64 rfl) (rdb (p := 64) (i := 21) ch_cX12_heads_64 rfl) (by decide +kernel)
theorem dX12_heads_86 : decode cX12_heads 86 = .ok (.iload 5, 2) := do_21 (rdb (p := 64) (i := 22) ch_cX12_heads_64 rfl) (rdb (p := 64) (i := 23) ch_cX12_heads_64 rfl)
theorem dX12_heads_88 : decode cX12_heads 88 = .ok (.iload_n 2, 1) := do_28 (rdb (p := 64) (i := 24) ch_cX12_heads_64 rfl)
theorem dX12_heads_89 : decode cX12_heads 89 = .ok (.if_icmp .ne 30, 3) := do_160 (rdb (p := 64) (i := 25) ch_cX12_heads_64 rfl) (rdb (p := 64) (i := 26) ch_cX12_heads_64 rfl) (rdb (p := 64) (i := 27) ch_cX12_heads_64 rfl) (by decide +kernel)
theorem dX12_heads_92 : decode cX12_heads 92 = .ok (.goto 23, 3) := do_167 (rdb (p := 64) (i := 28) ch_cX12_heads_64 rfl) (rdb (p := 64) (i := 29) ch_cX12_heads_64 rfl) (rdb (p := 64) (i := 30) ch_cX12_heads_64 rfl) (by decide +kernel)
theorem dX12_heads_95 : decode cX12_heads 95 = .ok (.iload 5, 2) := do_21 (rdb (p := 64) (i := 31) ch_cX12_heads_64 rfl) (rdb (p := 64) (i := 32) ch_cX12_heads_64 rfl)
theorem ch_cX12_heads_96 : (cX12_heads.data.toList.drop 96).take 36 = [5, 158, 0, 22, 21, 5, 21, 6, 153, 0, 7, 5, 167, 0, 4, 4, 160, 0, 7, 4, 167, 0, 4, 3, 96, 62, 132, 4, 1, 167, 255, 161, 29, 172] := by decide +kernel
theorem dX12_heads_97 : decode cX12_heads 97 = .ok (.ifCond .le 22, 3) := do_158 (rdb (p := 96) (i := 1) ch_cX12_heads_96 rfl) (rdb (p := 96) (i := 2) ch_cX12_heads_96 rfl) (rdb (p := 96) (i := 3) ch_cX12_heads_96 rfl) (by decide +kernel)
theorem dX12_heads_100 : decode cX12_heads 100 = .ok (.iload 5, 2) := do_21 (rdb (p := 96) (i := 4) ch_cX12_heads_96 rfl) (rdb (p := 96) (i := 5) ch_cX12_heads_96 rfl)
theorem dX12_heads_102 : decode cX12_heads 102 = .ok (.iload 6, 2) := do_21 (rdb (p := 96) (i := 6) ch_cX12_heads_96 rfl) (rdb (p := 96) (i := 7) ch_cX12_heads_96 rfl)
theorem dX12_heads_104 : decode cX12_heads 104 = .ok (.ifCond .eq 7, 3) := do_153 (rdb (p := 96) (i := 8) ch_cX12_heads_96 rfl) (rdb (p := 96) (i := 9) ch_cX12_heads_96 rfl) (rdb (p := 96) (i := 10) ch_cX12_heads_96 rfl) (by decide +kernel)
theorem dX12_heads_107 : decode cX12_heads 107 = .ok (.iconst 2, 1) := do_5 (rdb (p := 96) (i := 11) ch_cX12_heads_96 rfl)
theorem dX12_heads_108 : decode cX12_heads 108 = .ok (.goto 4, 3) := do_167 (rdb (p := 96) (i := 12) ch_cX12_heads_96 rfl) (rdb (p := 96) (i := 13) ch_cX12_heads_96 rfl) (rdb (p := 96) (i := 14) ch_cX12_heads_96 rfl) (by decide +kernel)
theorem dX12_heads_111 : decode cX12_heads 111 = .ok (.iconst 1, 1) := do_4 (rdb (p := 96) (i := 15) ch_cX12_heads_96 rfl)
theorem dX12_heads_112 : decode cX12_heads 112 = .ok (.if_icmp .ne 7, 3) := do_160 (rdb (p := 96) (i := 16) ch_cX12_heads_96 rfl) (rdb (p := 96) (i := 17) ch_cX12_heads_96 rfl) (rdb (p := 96) (i := 18) ch_cX12_heads_96 rfl) (by decide +kernel)
theorem dX12_heads_115 : decode cX12_heads 115 = .ok (.iconst 1, 1) := do_4 (rdb (p := 96) (i := 19) ch_cX12_heads_96 rfl)
theorem dX12_heads_116 : decode cX12_heads 116 = .ok (.goto 4, 3) := do_167 (rdb (p := 96) (i := 20) ch_cX12_heads_96 rfl) (rdb (p := 96) (i := 21) ch_cX12_heads_96 rfl) (rdb (p := 96) (i := 22) ch_cX12_heads_96 rfl) (by decide +kernel)
theorem dX12_heads_119 : decode cX12_heads 119 = .ok (.iconst 0, 1) := do_3 (rdb (p := 96) (i := 23) ch_cX12_heads_96 rfl)
theorem dX12_heads_120 : decode cX12_heads 120 = .ok (.iadd, 1) := do_96 (rdb (p := 96) (i := 24) ch_cX12_heads_96 rfl)
theorem dX12_heads_121 : decode cX12_heads 121 = .ok (.istore_n 3, 1) := do_62 (rdb (p := 96) (i := 25) ch_cX12_heads_96 rfl)
theorem dX12_heads_122 : decode cX12_heads 122 = .ok (.iinc 4 1, 3) := do_132 (rdb (p := 96) (i := 26) ch_cX12_heads_96 rfl) (rdb (p := 96) (i := 27) ch_cX12_heads_96 rfl) (rdb (p := 96) (i := 28) ch_cX12_heads_96 rfl) (by decide +kernel)
theorem dX12_heads_125 : decode cX12_heads 125 = .ok (.goto (-95), 3) := do_167 (rdb (p := 96) (i := 29) ch_cX12_heads_96 rfl) (rdb (p := 96) (i := 30) ch_cX12_heads_96 rfl) (rdb (p := 96) (i := 31) ch_cX12_heads_96 rfl) (by decide +kernel)
theorem ch_cX12_heads_128 : (cX12_heads.data.toList.drop 128).take 36 = [29, 172] := by decide +kernel
theorem dX12_heads_128 : decode cX12_heads 128 = .ok (.iload_n 3, 1) := do_29 (rdb (p := 128) (i := 0) ch_cX12_heads_128 rfl)
theorem dX12_heads_129 : decode cX12_heads 129 = .ok (.ireturn, 1) := do_172 (rdb (p := 128) (i := 1) ch_cX12_heads_128 rfl)
theorem ch_cX12_heardFrom_0 : (cX12_heardFrom.data.toList.drop 0).take 36 = [42, 28, 29, 42, 27, 182, 0, 140, 182, 0, 240, 54, 4, 42, 27, 182, 0, 93, 54, 5, 21, 4, 158, 0, 52, 42, 42, 27, 182, 0, 143, 42, 42, 28, 29, 21] := by decide +kernel
theorem dX12_heardFrom_0 : decode cX12_heardFrom 0 = .ok (.aload_n 0, 1) := do_42 (rdb (p := 0) (i := 0) ch_cX12_heardFrom_0 rfl)
theorem dX12_heardFrom_1 : decode cX12_heardFrom 1 = .ok (.iload_n 2, 1) := do_28 (rdb (p := 0) (i := 1) ch_cX12_heardFrom_0 rfl)
theorem dX12_heardFrom_2 : decode cX12_heardFrom 2 = .ok (.iload_n 3, 1) := do_29 (rdb (p := 0) (i := 2) ch_cX12_heardFrom_0 rfl)
theorem dX12_heardFrom_3 : decode cX12_heardFrom 3 = .ok (.aload_n 0, 1) := do_42 (rdb (p := 0) (i := 3) ch_cX12_heardFrom_0 rfl)
theorem dX12_heardFrom_4 : decode cX12_heardFrom 4 = .ok (.iload_n 1, 1) := do_27 (rdb (p := 0) (i := 4) ch_cX12_heardFrom_0 rfl)
theorem dX12_heardFrom_5 : decode cX12_heardFrom 5 = .ok (.invokevirtual 140, 3) := do_182 (rdb (p := 0) (i := 5) ch_cX12_heardFrom_0 rfl) (rdb (p := 0) (i := 6) ch_cX12_heardFrom_0 rfl) (rdb (p := 0) (i := 7) ch_cX12_heardFrom_0 rfl) rfl
theorem dX12_heardFrom_8 : decode cX12_heardFrom 8 = .ok (.invokevirtual 240, 3) := do_182 (rdb (p := 0) (i := 8) ch_cX12_heardFrom_0 rfl) (rdb (p := 0) (i := 9) ch_cX12_heardFrom_0 rfl) (rdb (p := 0) (i := 10) ch_cX12_heardFrom_0 rfl) rfl
theorem dX12_heardFrom_11 : decode cX12_heardFrom 11 = .ok (.istore 4, 2) := do_54 (rdb (p := 0) (i := 11) ch_cX12_heardFrom_0 rfl) (rdb (p := 0) (i := 12) ch_cX12_heardFrom_0 rfl)
theorem dX12_heardFrom_13 : decode cX12_heardFrom 13 = .ok (.aload_n 0, 1) := do_42 (rdb (p := 0) (i := 13) ch_cX12_heardFrom_0 rfl)
theorem dX12_heardFrom_14 : decode cX12_heardFrom 14 = .ok (.iload_n 1, 1) := do_27 (rdb (p := 0) (i := 14) ch_cX12_heardFrom_0 rfl)
theorem dX12_heardFrom_15 : decode cX12_heardFrom 15 = .ok (.invokevirtual 93, 3) := do_182 (rdb (p := 0) (i := 15) ch_cX12_heardFrom_0 rfl) (rdb (p := 0) (i := 16) ch_cX12_heardFrom_0 rfl) (rdb (p := 0) (i := 17) ch_cX12_heardFrom_0 rfl) rfl
theorem dX12_heardFrom_18 : decode cX12_heardFrom 18 = .ok (.istore 5, 2) := do_54 (rdb (p := 0) (i := 18) ch_cX12_heardFrom_0 rfl) (rdb (p := 0) (i := 19) ch_cX12_heardFrom_0 rfl)
theorem dX12_heardFrom_20 : decode cX12_heardFrom 20 = .ok (.iload 4, 2) := do_21 (rdb (p := 0) (i := 20) ch_cX12_heardFrom_0 rfl) (rdb (p := 0) (i := 21) ch_cX12_heardFrom_0 rfl)
theorem dX12_heardFrom_22 : decode cX12_heardFrom 22 = .ok (.ifCond .le 52, 3) := do_158 (rdb (p := 0) (i := 22) ch_cX12_heardFrom_0 rfl) (rdb (p := 0) (i := 23) ch_cX12_heardFrom_0 rfl) (rdb (p := 0) (i := 24) ch_cX12_heardFrom_0 rfl) (by decide +kernel)
theorem dX12_heardFrom_25 : decode cX12_heardFrom 25 = .ok (.aload_n 0, 1) := do_42 (rdb (p := 0) (i := 25) ch_cX12_heardFrom_0 rfl)
theorem dX12_heardFrom_26 : decode cX12_heardFrom 26 = .ok (.aload_n 0, 1) := do_42 (rdb (p := 0) (i := 26) ch_cX12_heardFrom_0 rfl)
theorem dX12_heardFrom_27 : decode cX12_heardFrom 27 = .ok (.iload_n 1, 1) := do_27 (rdb (p := 0) (i := 27) ch_cX12_heardFrom_0 rfl)
theorem dX12_heardFrom_28 : decode cX12_heardFrom 28 = .ok (.invokevirtual 143, 3) := do_182 (rdb (p := 0) (i := 28) ch_cX12_heardFrom_0 rfl) (rdb (p := 0) (i := 29) ch_cX12_heardFrom_0 rfl) (rdb (p := 0) (i := 30) ch_cX12_heardFrom_0 rfl) rfl
theorem dX12_heardFrom_31 : decode cX12_heardFrom 31 = .ok (.aload_n 0, 1) := do_42 (rdb (p := 0) (i := 31) ch_cX12_heardFrom_0 rfl)
theorem ch_cX12_heardFrom_32 : (cX12_heardFrom.data.toList.drop 32).take 36 = [42, 28, 29, 21, 4, 182, 0, 234, 182, 0, 243, 42, 180, 0, 9, 21, 5, 6, 96, 46, 42, 180, 0, 9, 21, 5, 7, 96, 46, 29, 21, 4, 182, 0, 249, 153] := by decide +kernel
theorem dX12_heardFrom_32 : decode cX12_heardFrom 32 = .ok (.aload_n 0, 1) := do_42 (rdb (p := 32) (i := 0) ch_cX12_heardFrom_32 rfl)
theorem dX12_heardFrom_33 : decode cX12_heardFrom 33 = .ok (.iload_n 2, 1) := do_28 (rdb (p := 32) (i := 1) ch_cX12_heardFrom_32 rfl)
theorem dX12_heardFrom_34 : decode cX12_heardFrom 34 = .ok (.iload_n 3, 1) := do_29 (rdb (p := 32) (i := 2) ch_cX12_heardFrom_32 rfl)
theorem dX12_heardFrom_35 : decode cX12_heardFrom 35 = .ok (.iload 4, 2) := do_21 (rdb (p := 32) (i := 3) ch_cX12_heardFrom_32 rfl) (rdb (p := 32) (i := 4) ch_cX12_heardFrom_32 rfl)
theorem dX12_heardFrom_37 : decode cX12_heardFrom 37 = .ok (.invokevirtual 234, 3) := do_182 (rdb (p := 32) (i := 5) ch_cX12_heardFrom_32 rfl) (rdb (p := 32) (i := 6) ch_cX12_heardFrom_32 rfl) (rdb (p := 32) (i := 7) ch_cX12_heardFrom_32 rfl) rfl
theorem dX12_heardFrom_40 : decode cX12_heardFrom 40 = .ok (.invokevirtual 243, 3) := do_182 (rdb (p := 32) (i := 8) ch_cX12_heardFrom_32 rfl) (rdb (p := 32) (i := 9) ch_cX12_heardFrom_32 rfl) (rdb (p := 32) (i := 10) ch_cX12_heardFrom_32 rfl) rfl
theorem dX12_heardFrom_43 : decode cX12_heardFrom 43 = .ok (.aload_n 0, 1) := do_42 (rdb (p := 32) (i := 11) ch_cX12_heardFrom_32 rfl)
theorem dX12_heardFrom_44 : decode cX12_heardFrom 44 = .ok (.getfield 9, 3) := do_180 (rdb (p := 32) (i := 12) ch_cX12_heardFrom_32 rfl) (rdb (p := 32) (i := 13) ch_cX12_heardFrom_32 rfl) (rdb (p := 32) (i := 14) ch_cX12_heardFrom_32 rfl) rfl
theorem dX12_heardFrom_47 : decode cX12_heardFrom 47 = .ok (.iload 5, 2) := do_21 (rdb (p := 32) (i := 15) ch_cX12_heardFrom_32 rfl) (rdb (p := 32) (i := 16) ch_cX12_heardFrom_32 rfl)
theorem dX12_heardFrom_49 : decode cX12_heardFrom 49 = .ok (.iconst 3, 1) := do_6 (rdb (p := 32) (i := 17) ch_cX12_heardFrom_32 rfl)
theorem dX12_heardFrom_50 : decode cX12_heardFrom 50 = .ok (.iadd, 1) := do_96 (rdb (p := 32) (i := 18) ch_cX12_heardFrom_32 rfl)
theorem dX12_heardFrom_51 : decode cX12_heardFrom 51 = .ok (.iaload, 1) := do_46 (rdb (p := 32) (i := 19) ch_cX12_heardFrom_32 rfl)
theorem dX12_heardFrom_52 : decode cX12_heardFrom 52 = .ok (.aload_n 0, 1) := do_42 (rdb (p := 32) (i := 20) ch_cX12_heardFrom_32 rfl)
theorem dX12_heardFrom_53 : decode cX12_heardFrom 53 = .ok (.getfield 9, 3) := do_180 (rdb (p := 32) (i := 21) ch_cX12_heardFrom_32 rfl) (rdb (p := 32) (i := 22) ch_cX12_heardFrom_32 rfl) (rdb (p := 32) (i := 23) ch_cX12_heardFrom_32 rfl) rfl
theorem dX12_heardFrom_56 : decode cX12_heardFrom 56 = .ok (.iload 5, 2) := do_21 (rdb (p := 32) (i := 24) ch_cX12_heardFrom_32 rfl) (rdb (p := 32) (i := 25) ch_cX12_heardFrom_32 rfl)
theorem dX12_heardFrom_58 : decode cX12_heardFrom 58 = .ok (.iconst 4, 1) := do_7 (rdb (p := 32) (i := 26) ch_cX12_heardFrom_32 rfl)
theorem dX12_heardFrom_59 : decode cX12_heardFrom 59 = .ok (.iadd, 1) := do_96 (rdb (p := 32) (i := 27) ch_cX12_heardFrom_32 rfl)
theorem dX12_heardFrom_60 : decode cX12_heardFrom 60 = .ok (.iaload, 1) := do_46 (rdb (p := 32) (i := 28) ch_cX12_heardFrom_32 rfl)
theorem dX12_heardFrom_61 : decode cX12_heardFrom 61 = .ok (.iload_n 3, 1) := do_29 (rdb (p := 32) (i := 29) ch_cX12_heardFrom_32 rfl)
theorem dX12_heardFrom_62 : decode cX12_heardFrom 62 = .ok (.iload 4, 2) := do_21 (rdb (p := 32) (i := 30) ch_cX12_heardFrom_32 rfl) (rdb (p := 32) (i := 31) ch_cX12_heardFrom_32 rfl)
theorem ch_cX12_heardFrom_64 : (cX12_heardFrom.data.toList.drop 64).take 36 = [182, 0, 249, 153, 0, 7, 4, 167, 0, 4, 3, 54, 6, 21, 6, 153, 0, 8, 21, 4, 167, 0, 4, 3, 172] := by decide +kernel
theorem dX12_heardFrom_64 : decode cX12_heardFrom 64 = .ok (.invokevirtual 249, 3) := do_182 (rdb (p := 64) (i := 0) ch_cX12_heardFrom_64 rfl) (rdb (p := 64) (i := 1) ch_cX12_heardFrom_64 rfl) (rdb (p := 64) (i := 2) ch_cX12_heardFrom_64 rfl) rfl
theorem dX12_heardFrom_67 : decode cX12_heardFrom 67 = .ok (.ifCond .eq 7, 3) := do_153 (rdb (p := 64) (i := 3) ch_cX12_heardFrom_64 rfl) (rdb (p := 64) (i := 4) ch_cX12_heardFrom_64 rfl) (rdb (p := 64) (i := 5) ch_cX12_heardFrom_64 rfl) (by decide +kernel)
theorem dX12_heardFrom_70 : decode cX12_heardFrom 70 = .ok (.iconst 1, 1) := do_4 (rdb (p := 64) (i := 6) ch_cX12_heardFrom_64 rfl)
theorem dX12_heardFrom_71 : decode cX12_heardFrom 71 = .ok (.goto 4, 3) := do_167 (rdb (p := 64) (i := 7) ch_cX12_heardFrom_64 rfl) (rdb (p := 64) (i := 8) ch_cX12_heardFrom_64 rfl) (rdb (p := 64) (i := 9) ch_cX12_heardFrom_64 rfl) (by decide +kernel)
theorem dX12_heardFrom_74 : decode cX12_heardFrom 74 = .ok (.iconst 0, 1) := do_3 (rdb (p := 64) (i := 10) ch_cX12_heardFrom_64 rfl)
theorem dX12_heardFrom_75 : decode cX12_heardFrom 75 = .ok (.istore 6, 2) := do_54 (rdb (p := 64) (i := 11) ch_cX12_heardFrom_64 rfl) (rdb (p := 64) (i := 12) ch_cX12_heardFrom_64 rfl)
theorem dX12_heardFrom_77 : decode cX12_heardFrom 77 = .ok (.iload 6, 2) := do_21 (rdb (p := 64) (i := 13) ch_cX12_heardFrom_64 rfl) (rdb (p := 64) (i := 14) ch_cX12_heardFrom_64 rfl)
theorem dX12_heardFrom_79 : decode cX12_heardFrom 79 = .ok (.ifCond .eq 8, 3) := do_153 (rdb (p := 64) (i := 15) ch_cX12_heardFrom_64 rfl) (rdb (p := 64) (i := 16) ch_cX12_heardFrom_64 rfl) (rdb (p := 64) (i := 17) ch_cX12_heardFrom_64 rfl) (by decide +kernel)
theorem dX12_heardFrom_82 : decode cX12_heardFrom 82 = .ok (.iload 4, 2) := do_21 (rdb (p := 64) (i := 18) ch_cX12_heardFrom_64 rfl) (rdb (p := 64) (i := 19) ch_cX12_heardFrom_64 rfl)
theorem dX12_heardFrom_84 : decode cX12_heardFrom 84 = .ok (.goto 4, 3) := do_167 (rdb (p := 64) (i := 20) ch_cX12_heardFrom_64 rfl) (rdb (p := 64) (i := 21) ch_cX12_heardFrom_64 rfl) (rdb (p := 64) (i := 22) ch_cX12_heardFrom_64 rfl) (by decide +kernel)
theorem dX12_heardFrom_87 : decode cX12_heardFrom 87 = .ok (.iconst 0, 1) := do_3 (rdb (p := 64) (i := 23) ch_cX12_heardFrom_64 rfl)
theorem dX12_heardFrom_88 : decode cX12_heardFrom 88 = .ok (.ireturn, 1) := do_172 (rdb (p := 64) (i := 24) ch_cX12_heardFrom_64 rfl)
theorem ch_cX12_held_0 : (cX12_held.data.toList.drop 0).take 36 = [42, 180, 0, 9, 42, 27, 28, 182, 0, 253, 46, 62, 42, 180, 0, 9, 42, 27, 28, 182, 1, 3, 46, 54, 4, 29, 21, 4, 164, 0, 7, 5, 167, 0, 14, 21] := by decide +kernel
theorem dX12_held_0 : decode cX12_held 0 = .ok (.aload_n 0, 1) := do_42 (rdb (p := 0) (i := 0) ch_cX12_held_0 rfl)
theorem dX12_held_1 : decode cX12_held 1 = .ok (.getfield 9, 3) := do_180 (rdb (p := 0) (i := 1) ch_cX12_held_0 rfl) (rdb (p := 0) (i := 2) ch_cX12_held_0 rfl) (rdb (p := 0) (i := 3) ch_cX12_held_0 rfl) rfl
theorem dX12_held_4 : decode cX12_held 4 = .ok (.aload_n 0, 1) := do_42 (rdb (p := 0) (i := 4) ch_cX12_held_0 rfl)
theorem dX12_held_5 : decode cX12_held 5 = .ok (.iload_n 1, 1) := do_27 (rdb (p := 0) (i := 5) ch_cX12_held_0 rfl)
theorem dX12_held_6 : decode cX12_held 6 = .ok (.iload_n 2, 1) := do_28 (rdb (p := 0) (i := 6) ch_cX12_held_0 rfl)
theorem dX12_held_7 : decode cX12_held 7 = .ok (.invokevirtual 253, 3) := do_182 (rdb (p := 0) (i := 7) ch_cX12_held_0 rfl) (rdb (p := 0) (i := 8) ch_cX12_held_0 rfl) (rdb (p := 0) (i := 9) ch_cX12_held_0 rfl) rfl
theorem dX12_held_10 : decode cX12_held 10 = .ok (.iaload, 1) := do_46 (rdb (p := 0) (i := 10) ch_cX12_held_0 rfl)
theorem dX12_held_11 : decode cX12_held 11 = .ok (.istore_n 3, 1) := do_62 (rdb (p := 0) (i := 11) ch_cX12_held_0 rfl)
theorem dX12_held_12 : decode cX12_held 12 = .ok (.aload_n 0, 1) := do_42 (rdb (p := 0) (i := 12) ch_cX12_held_0 rfl)
theorem dX12_held_13 : decode cX12_held 13 = .ok (.getfield 9, 3) := do_180 (rdb (p := 0) (i := 13) ch_cX12_held_0 rfl) (rdb (p := 0) (i := 14) ch_cX12_held_0 rfl) (rdb (p := 0) (i := 15) ch_cX12_held_0 rfl) rfl
theorem dX12_held_16 : decode cX12_held 16 = .ok (.aload_n 0, 1) := do_42 (rdb (p := 0) (i := 16) ch_cX12_held_0 rfl)
theorem dX12_held_17 : decode cX12_held 17 = .ok (.iload_n 1, 1) := do_27 (rdb (p := 0) (i := 17) ch_cX12_held_0 rfl)
theorem dX12_held_18 : decode cX12_held 18 = .ok (.iload_n 2, 1) := do_28 (rdb (p := 0) (i := 18) ch_cX12_held_0 rfl)
theorem dX12_held_19 : decode cX12_held 19 = .ok (.invokevirtual 259, 3) := do_182 (rdb (p := 0) (i := 19) ch_cX12_held_0 rfl) (rdb (p := 0) (i := 20) ch_cX12_held_0 rfl) (rdb (p := 0) (i := 21) ch_cX12_held_0 rfl) rfl
theorem dX12_held_22 : decode cX12_held 22 = .ok (.iaload, 1) := do_46 (rdb (p := 0) (i := 22) ch_cX12_held_0 rfl)
theorem dX12_held_23 : decode cX12_held 23 = .ok (.istore 4, 2) := do_54 (rdb (p := 0) (i := 23) ch_cX12_held_0 rfl) (rdb (p := 0) (i := 24) ch_cX12_held_0 rfl)
theorem dX12_held_25 : decode cX12_held 25 = .ok (.iload_n 3, 1) := do_29 (rdb (p := 0) (i := 25) ch_cX12_held_0 rfl)
theorem dX12_held_26 : decode cX12_held 26 = .ok (.iload 4, 2) := do_21 (rdb (p := 0) (i := 26) ch_cX12_held_0 rfl) (rdb (p := 0) (i := 27) ch_cX12_held_0 rfl)
theorem dX12_held_28 : decode cX12_held 28 = .ok (.if_icmp .le 7, 3) := do_164 (rdb (p := 0) (i := 28) ch_cX12_held_0 rfl) (rdb (p := 0) (i := 29) ch_cX12_held_0 rfl) (rdb (p := 0) (i := 30) ch_cX12_held_0 rfl) (by decide +kernel)
theorem dX12_held_31 : decode cX12_held 31 = .ok (.iconst 2, 1) := do_5 (rdb (p := 0) (i := 31) ch_cX12_held_0 rfl)
theorem ch_cX12_held_32 : (cX12_held.data.toList.drop 32).take 36 = [167, 0, 14, 21, 4, 29, 164, 0, 7, 4, 167, 0, 4, 3, 172] := by decide +kernel
theorem dX12_held_32 : decode cX12_held 32 = .ok (.goto 14, 3) := do_167 (rdb (p := 32) (i := 0) ch_cX12_held_32 rfl) (rdb (p := 32) (i := 1) ch_cX12_held_32 rfl) (rdb (p := 32) (i := 2) ch_cX12_held_32 rfl) (by decide +kernel)
theorem dX12_held_35 : decode cX12_held 35 = .ok (.iload 4, 2) := do_21 (rdb (p := 32) (i := 3) ch_cX12_held_32 rfl) (rdb (p := 32) (i := 4) ch_cX12_held_32 rfl)
theorem dX12_held_37 : decode cX12_held 37 = .ok (.iload_n 3, 1) := do_29 (rdb (p := 32) (i := 5) ch_cX12_held_32 rfl)
theorem dX12_held_38 : decode cX12_held 38 = .ok (.if_icmp .le 7, 3) := do_164 (rdb (p := 32) (i := 6) ch_cX12_held_32 rfl) (rdb (p := 32) (i := 7) ch_cX12_held_32 rfl) (rdb (p := 32) (i := 8) ch_cX12_held_32 rfl) (by decide +kernel)
theorem dX12_held_41 : decode cX12_held 41 = .ok (.iconst 1, 1) := do_4 (rdb (p := 32) (i := 9) ch_cX12_held_32 rfl)
theorem dX12_held_42 : decode cX12_held 42 = .ok (.goto 4, 3) := do_167 (rdb (p := 32) (i := 10) ch_cX12_held_32 rfl) (rdb (p := 32) (i := 11) ch_cX12_held_32 rfl) (rdb (p := 32) (i := 12) ch_cX12_held_32 rfl) (by decide +kernel)
theorem dX12_held_45 : decode cX12_held 45 = .ok (.iconst 0, 1) := do_3 (rdb (p := 32) (i := 13) ch_cX12_held_32 rfl)
theorem dX12_held_46 : decode cX12_held 46 = .ok (.ireturn, 1) := do_172 (rdb (p := 32) (i := 14) ch_cX12_held_32 rfl)
theorem ch_cX12_isHeard_0 : (cX12_isHeard.data.toList.drop 0).take 36 = [21, 5, 21, 6, 184, 0, 227, 54, 7, 42, 28, 29, 21, 4, 21, 6, 182, 0, 230, 54, 8, 29, 27, 163, 0, 20, 21, 7, 42, 180, 0, 9, 16, 7, 46, 164] := by decide +kernel
theorem dX12_isHeard_0 : decode cX12_isHeard 0 = .ok (.iload 5, 2) := do_21 (rdb (p := 0) (i := 0) ch_cX12_isHeard_0 rfl) (rdb (p := 0) (i := 1) ch_cX12_isHeard_0 rfl)
theorem dX12_isHeard_2 : decode cX12_isHeard 2 = .ok (.iload 6, 2) := do_21 (rdb (p := 0) (i := 2) ch_cX12_isHeard_0 rfl) (rdb (p := 0) (i := 3) ch_cX12_isHeard_0 rfl)
theorem dX12_isHeard_4 : decode cX12_isHeard 4 = .ok (.invokestatic 227, 3) := do_184 (rdb (p := 0) (i := 4) ch_cX12_isHeard_0 rfl) (rdb (p := 0) (i := 5) ch_cX12_isHeard_0 rfl) (rdb (p := 0) (i := 6) ch_cX12_isHeard_0 rfl) rfl
theorem dX12_isHeard_7 : decode cX12_isHeard 7 = .ok (.istore 7, 2) := do_54 (rdb (p := 0) (i := 7) ch_cX12_isHeard_0 rfl) (rdb (p := 0) (i := 8) ch_cX12_isHeard_0 rfl)
theorem dX12_isHeard_9 : decode cX12_isHeard 9 = .ok (.aload_n 0, 1) := do_42 (rdb (p := 0) (i := 9) ch_cX12_isHeard_0 rfl)
theorem dX12_isHeard_10 : decode cX12_isHeard 10 = .ok (.iload_n 2, 1) := do_28 (rdb (p := 0) (i := 10) ch_cX12_isHeard_0 rfl)
theorem dX12_isHeard_11 : decode cX12_isHeard 11 = .ok (.iload_n 3, 1) := do_29 (rdb (p := 0) (i := 11) ch_cX12_isHeard_0 rfl)
theorem dX12_isHeard_12 : decode cX12_isHeard 12 = .ok (.iload 4, 2) := do_21 (rdb (p := 0) (i := 12) ch_cX12_isHeard_0 rfl) (rdb (p := 0) (i := 13) ch_cX12_isHeard_0 rfl)
theorem dX12_isHeard_14 : decode cX12_isHeard 14 = .ok (.iload 6, 2) := do_21 (rdb (p := 0) (i := 14) ch_cX12_isHeard_0 rfl) (rdb (p := 0) (i := 15) ch_cX12_isHeard_0 rfl)
theorem dX12_isHeard_16 : decode cX12_isHeard 16 = .ok (.invokevirtual 230, 3) := do_182 (rdb (p := 0) (i := 16) ch_cX12_isHeard_0 rfl) (rdb (p := 0) (i := 17) ch_cX12_isHeard_0 rfl) (rdb (p := 0) (i := 18) ch_cX12_isHeard_0 rfl) rfl
theorem dX12_isHeard_19 : decode cX12_isHeard 19 = .ok (.istore 8, 2) := do_54 (rdb (p := 0) (i := 19) ch_cX12_isHeard_0 rfl) (rdb (p := 0) (i := 20) ch_cX12_isHeard_0 rfl)
theorem dX12_isHeard_21 : decode cX12_isHeard 21 = .ok (.iload_n 3, 1) := do_29 (rdb (p := 0) (i := 21) ch_cX12_isHeard_0 rfl)
theorem dX12_isHeard_22 : decode cX12_isHeard 22 = .ok (.iload_n 1, 1) := do_27 (rdb (p := 0) (i := 22) ch_cX12_isHeard_0 rfl)
theorem dX12_isHeard_23 : decode cX12_isHeard 23 = .ok (.if_icmp .gt 20, 3) := do_163 (rdb (p := 0) (i := 23) ch_cX12_isHeard_0 rfl) (rdb (p := 0) (i := 24) ch_cX12_isHeard_0 rfl) (rdb (p := 0) (i := 25) ch_cX12_isHeard_0 rfl) (by decide +kernel)
theorem dX12_isHeard_26 : decode cX12_isHeard 26 = .ok (.iload 7, 2) := do_21 (rdb (p := 0) (i := 26) ch_cX12_isHeard_0 rfl) (rdb (p := 0) (i := 27) ch_cX12_isHeard_0 rfl)
theorem dX12_isHeard_28 : decode cX12_isHeard 28 = .ok (.aload_n 0, 1) := do_42 (rdb (p := 0) (i := 28) ch_cX12_isHeard_0 rfl)
theorem dX12_isHeard_29 : decode cX12_isHeard 29 = .ok (.getfield 9, 3) := do_180 (rdb (p := 0) (i := 29) ch_cX12_isHeard_0 rfl) (rdb (p := 0) (i := 30) ch_cX12_isHeard_0 rfl) (rdb (p := 0) (i := 31) ch_cX12_isHeard_0 rfl) rfl
theorem ch_cX12_isHeard_32 : (cX12_isHeard.data.toList.drop 32).take 36 = [16, 7, 46, 164, 0, 8, 21, 8, 154, 0, 5, 3, 172, 42, 180, 0, 47, 3, 21, 8, 79, 42, 180, 0, 47, 4, 42, 180, 0, 9, 16, 6, 46, 79, 42, 180] := by decide +kernel
theorem dX12_isHeard_32 : decode cX12_isHeard 32 = .ok (.bipush 7, 2) := do_16 (rdb (p := 32) (i := 0) ch_cX12_isHeard_32 rfl) (rdb (p := 32) (i := 1) ch_cX12_isHeard_32 rfl) (by decide +kernel)
theorem dX12_isHeard_34 : decode cX12_isHeard 34 = .ok (.iaload, 1) := do_46 (rdb (p := 32) (i := 2) ch_cX12_isHeard_32 rfl)
theorem dX12_isHeard_35 : decode cX12_isHeard 35 = .ok (.if_icmp .le 8, 3) := do_164 (rdb (p := 32) (i := 3) ch_cX12_isHeard_32 rfl) (rdb (p := 32) (i := 4) ch_cX12_isHeard_32 rfl) (rdb (p := 32) (i := 5) ch_cX12_isHeard_32 rfl) (by decide +kernel)
theorem dX12_isHeard_38 : decode cX12_isHeard 38 = .ok (.iload 8, 2) := do_21 (rdb (p := 32) (i := 6) ch_cX12_isHeard_32 rfl) (rdb (p := 32) (i := 7) ch_cX12_isHeard_32 rfl)
theorem dX12_isHeard_40 : decode cX12_isHeard 40 = .ok (.ifCond .ne 5, 3) := do_154 (rdb (p := 32) (i := 8) ch_cX12_isHeard_32 rfl) (rdb (p := 32) (i := 9) ch_cX12_isHeard_32 rfl) (rdb (p := 32) (i := 10) ch_cX12_isHeard_32 rfl) (by decide +kernel)
theorem dX12_isHeard_43 : decode cX12_isHeard 43 = .ok (.iconst 0, 1) := do_3 (rdb (p := 32) (i := 11) ch_cX12_isHeard_32 rfl)
theorem dX12_isHeard_44 : decode cX12_isHeard 44 = .ok (.ireturn, 1) := do_172 (rdb (p := 32) (i := 12) ch_cX12_isHeard_32 rfl)
theorem dX12_isHeard_45 : decode cX12_isHeard 45 = .ok (.aload_n 0, 1) := do_42 (rdb (p := 32) (i := 13) ch_cX12_isHeard_32 rfl)
theorem dX12_isHeard_46 : decode cX12_isHeard 46 = .ok (.getfield 47, 3) := do_180 (rdb (p := 32) (i := 14) ch_cX12_isHeard_32 rfl) (rdb (p := 32) (i := 15) ch_cX12_isHeard_32 rfl) (rdb (p := 32) (i := 16) ch_cX12_isHeard_32 rfl) rfl
theorem dX12_isHeard_49 : decode cX12_isHeard 49 = .ok (.iconst 0, 1) := do_3 (rdb (p := 32) (i := 17) ch_cX12_isHeard_32 rfl)
theorem dX12_isHeard_50 : decode cX12_isHeard 50 = .ok (.iload 8, 2) := do_21 (rdb (p := 32) (i := 18) ch_cX12_isHeard_32 rfl) (rdb (p := 32) (i := 19) ch_cX12_isHeard_32 rfl)
theorem dX12_isHeard_52 : decode cX12_isHeard 52 = .ok (.iastore, 1) := do_79 (rdb (p := 32) (i := 20) ch_cX12_isHeard_32 rfl)
theorem dX12_isHeard_53 : decode cX12_isHeard 53 = .ok (.aload_n 0, 1) := do_42 (rdb (p := 32) (i := 21) ch_cX12_isHeard_32 rfl)
theorem dX12_isHeard_54 : decode cX12_isHeard 54 = .ok (.getfield 47, 3) := do_180 (rdb (p := 32) (i := 22) ch_cX12_isHeard_32 rfl) (rdb (p := 32) (i := 23) ch_cX12_isHeard_32 rfl) (rdb (p := 32) (i := 24) ch_cX12_isHeard_32 rfl) rfl
theorem dX12_isHeard_57 : decode cX12_isHeard 57 = .ok (.iconst 1, 1) := do_4 (rdb (p := 32) (i := 25) ch_cX12_isHeard_32 rfl)
theorem dX12_isHeard_58 : decode cX12_isHeard 58 = .ok (.aload_n 0, 1) := do_42 (rdb (p := 32) (i := 26) ch_cX12_isHeard_32 rfl)
theorem dX12_isHeard_59 : decode cX12_isHeard 59 = .ok (.getfield 9, 3) := do_180 (rdb (p := 32) (i := 27) ch_cX12_isHeard_32 rfl) (rdb (p := 32) (i := 28) ch_cX12_isHeard_32 rfl) (rdb (p := 32) (i := 29) ch_cX12_isHeard_32 rfl) rfl
theorem dX12_isHeard_62 : decode cX12_isHeard 62 = .ok (.bipush 6, 2) := do_16 (rdb (p := 32) (i := 30) ch_cX12_isHeard_32 rfl) (rdb (p := 32) (i := 31) ch_cX12_isHeard_32 rfl) (by decide +kernel)
theorem ch_cX12_isHeard_64 : (cX12_isHeard.data.toList.drop 64).take 36 = [46, 79, 42, 180, 0, 47, 5, 21, 7, 79, 42, 4, 182, 0, 213, 153, 0, 19, 42, 4, 182, 0, 216, 153, 0, 7, 4, 167, 0, 24, 3, 167, 0, 20, 21, 8] := by decide +kernel
theorem dX12_isHeard_64 : decode cX12_isHeard 64 = .ok (.iaload, 1) := do_46 (rdb (p := 64) (i := 0) ch_cX12_isHeard_64 rfl)
theorem dX12_isHeard_65 : decode cX12_isHeard 65 = .ok (.iastore, 1) := do_79 (rdb (p := 64) (i := 1) ch_cX12_isHeard_64 rfl)
theorem dX12_isHeard_66 : decode cX12_isHeard 66 = .ok (.aload_n 0, 1) := do_42 (rdb (p := 64) (i := 2) ch_cX12_isHeard_64 rfl)
theorem dX12_isHeard_67 : decode cX12_isHeard 67 = .ok (.getfield 47, 3) := do_180 (rdb (p := 64) (i := 3) ch_cX12_isHeard_64 rfl) (rdb (p := 64) (i := 4) ch_cX12_isHeard_64 rfl) (rdb (p := 64) (i := 5) ch_cX12_isHeard_64 rfl) rfl
theorem dX12_isHeard_70 : decode cX12_isHeard 70 = .ok (.iconst 2, 1) := do_5 (rdb (p := 64) (i := 6) ch_cX12_isHeard_64 rfl)
theorem dX12_isHeard_71 : decode cX12_isHeard 71 = .ok (.iload 7, 2) := do_21 (rdb (p := 64) (i := 7) ch_cX12_isHeard_64 rfl) (rdb (p := 64) (i := 8) ch_cX12_isHeard_64 rfl)
theorem dX12_isHeard_73 : decode cX12_isHeard 73 = .ok (.iastore, 1) := do_79 (rdb (p := 64) (i := 9) ch_cX12_isHeard_64 rfl)
theorem dX12_isHeard_74 : decode cX12_isHeard 74 = .ok (.aload_n 0, 1) := do_42 (rdb (p := 64) (i := 10) ch_cX12_isHeard_64 rfl)
theorem dX12_isHeard_75 : decode cX12_isHeard 75 = .ok (.iconst 1, 1) := do_4 (rdb (p := 64) (i := 11) ch_cX12_isHeard_64 rfl)
theorem dX12_isHeard_76 : decode cX12_isHeard 76 = .ok (.invokevirtual 213, 3) := do_182 (rdb (p := 64) (i := 12) ch_cX12_isHeard_64 rfl) (rdb (p := 64) (i := 13) ch_cX12_isHeard_64 rfl) (rdb (p := 64) (i := 14) ch_cX12_isHeard_64 rfl) rfl
theorem dX12_isHeard_79 : decode cX12_isHeard 79 = .ok (.ifCond .eq 19, 3) := do_153 (rdb (p := 64) (i := 15) ch_cX12_isHeard_64 rfl) (rdb (p := 64) (i := 16) ch_cX12_isHeard_64 rfl) (rdb (p := 64) (i := 17) ch_cX12_isHeard_64 rfl) (by decide +kernel)
theorem dX12_isHeard_82 : decode cX12_isHeard 82 = .ok (.aload_n 0, 1) := do_42 (rdb (p := 64) (i := 18) ch_cX12_isHeard_64 rfl)
theorem dX12_isHeard_83 : decode cX12_isHeard 83 = .ok (.iconst 1, 1) := do_4 (rdb (p := 64) (i := 19) ch_cX12_isHeard_64 rfl)
theorem dX12_isHeard_84 : decode cX12_isHeard 84 = .ok (.invokevirtual 216, 3) := do_182 (rdb (p := 64) (i := 20) ch_cX12_isHeard_64 rfl) (rdb (p := 64) (i := 21) ch_cX12_isHeard_64 rfl) (rdb (p := 64) (i := 22) ch_cX12_isHeard_64 rfl) rfl
theorem dX12_isHeard_87 : decode cX12_isHeard 87 = .ok (.ifCond .eq 7, 3) := do_153 (rdb (p := 64) (i := 23) ch_cX12_isHeard_64 rfl) (rdb (p := 64) (i := 24) ch_cX12_isHeard_64 rfl) (rdb (p := 64) (i := 25) ch_cX12_isHeard_64 rfl) (by decide +kernel)
theorem dX12_isHeard_90 : decode cX12_isHeard 90 = .ok (.iconst 1, 1) := do_4 (rdb (p := 64) (i := 26) ch_cX12_isHeard_64 rfl)
theorem dX12_isHeard_91 : decode cX12_isHeard 91 = .ok (.goto 24, 3) := do_167 (rdb (p := 64) (i := 27) ch_cX12_isHeard_64 rfl) (rdb (p := 64) (i := 28) ch_cX12_isHeard_64 rfl) (rdb (p := 64) (i := 29) ch_cX12_isHeard_64 rfl) (by decide +kernel)
theorem dX12_isHeard_94 : decode cX12_isHeard 94 = .ok (.iconst 0, 1) := do_3 (rdb (p := 64) (i := 30) ch_cX12_isHeard_64 rfl)
theorem dX12_isHeard_95 : decode cX12_isHeard 95 = .ok (.goto 20, 3) := do_167 (rdb (p := 64) (i := 31) ch_cX12_isHeard_64 rfl) (rdb (p := 64) (i := 32) ch_cX12_isHeard_64 rfl) (rdb (p := 64) (i := 33) ch_cX12_isHeard_64 rfl) (by decide +kernel)
theorem ch_cX12_isHeard_96 : (cX12_isHeard.data.toList.drop 96).take 36 = [0, 20, 21, 8, 42, 180, 0, 9, 16, 6, 46, 164, 0, 7, 4, 167, 0, 4, 3, 172] := by decide +kernel
theorem dX12_isHeard_98 : decode cX12_isHeard 98 = .ok (.iload 8, 2) := do_21 (rdb (p := 96) (i := 2) ch_cX12_isHeard_96 rfl) (rdb (p := 96) (i := 3) ch_cX12_isHeard_96 rfl)
theorem dX12_isHeard_100 : decode cX12_isHeard 100 = .ok (.aload_n 0, 1) := do_42 (rdb (p := 96) (i := 4) ch_cX12_isHeard_96 rfl)
theorem dX12_isHeard_101 : decode cX12_isHeard 101 = .ok (.getfield 9, 3) := do_180 (rdb (p := 96) (i := 5) ch_cX12_isHeard_96 rfl) (rdb (p := 96) (i := 6) ch_cX12_isHeard_96 rfl) (rdb (p := 96) (i := 7) ch_cX12_isHeard_96 rfl) rfl
theorem dX12_isHeard_104 : decode cX12_isHeard 104 = .ok (.bipush 6, 2) := do_16 (rdb (p := 96) (i := 8) ch_cX12_isHeard_96 rfl) (rdb (p := 96) (i := 9) ch_cX12_isHeard_96 rfl) (by decide +kernel)
theorem dX12_isHeard_106 : decode cX12_isHeard 106 = .ok (.iaload, 1) := do_46 (rdb (p := 96) (i := 10) ch_cX12_isHeard_96 rfl)
theorem dX12_isHeard_107 : decode cX12_isHeard 107 = .ok (.if_icmp .le 7, 3) := do_164 (rdb (p := 96) (i := 11) ch_cX12_isHeard_96 rfl) (rdb (p := 96) (i := 12) ch_cX12_isHeard_96 rfl) (rdb (p := 96) (i := 13) ch_cX12_isHeard_96 rfl) (by decide +kernel)
theorem dX12_isHeard_110 : decode cX12_isHeard 110 = .ok (.iconst 1, 1) := do_4 (rdb (p := 96) (i := 14) ch_cX12_isHeard_96 rfl)
theorem dX12_isHeard_111 : decode cX12_isHeard 111 = .ok (.goto 4, 3) := do_167 (rdb (p := 96) (i := 15) ch_cX12_isHeard_96 rfl) (rdb (p := 96) (i := 16) ch_cX12_isHeard_96 rfl) (rdb (p := 96) (i := 17) ch_cX12_isHeard_96 rfl) (by decide +kernel)
theorem dX12_isHeard_114 : decode cX12_isHeard 114 = .ok (.iconst 0, 1) := do_3 (rdb (p := 96) (i := 18) ch_cX12_isHeard_96 rfl)
theorem dX12_isHeard_115 : decode cX12_isHeard 115 = .ok (.ireturn, 1) := do_172 (rdb (p := 96) (i := 19) ch_cX12_isHeard_96 rfl)
theorem dX12_kindIn_0 : decode cX12_kindIn 0 = .ok (.aload_n 0, 1) := by decide +kernel
theorem dX12_kindIn_1 : decode cX12_kindIn 1 = .ok (.iload_n 1, 1) := by decide +kernel
theorem dX12_kindIn_2 : decode cX12_kindIn 2 = .ok (.invokevirtual 96, 3) := by decide +kernel
theorem dX12_kindIn_5 : decode cX12_kindIn 5 = .ok (.istore_n 2, 1) := by decide +kernel
theorem dX12_kindIn_6 : decode cX12_kindIn 6 = .ok (.iload_n 2, 1) := by decide +kernel
theorem dX12_kindIn_7 : decode cX12_kindIn 7 = .ok (.bipush 100, 2) := by decide +kernel
theorem dX12_kindIn_9 : decode cX12_kindIn 9 = .ok (.if_icmp .ge 18, 3) := by decide +kernel
theorem dX12_kindIn_12 : decode cX12_kindIn 12 = .ok (.aload_n 0, 1) := by decide +kernel
theorem dX12_kindIn_13 : decode cX12_kindIn 13 = .ok (.getfield 9, 3) := by decide +kernel
theorem dX12_kindIn_16 : decode cX12_kindIn 16 = .ok (.aload_n 0, 1) := by decide +kernel
theorem dX12_kindIn_17 : decode cX12_kindIn 17 = .ok (.iload_n 2, 1) := by decide +kernel
theorem dX12_kindIn_18 : decode cX12_kindIn 18 = .ok (.invokevirtual 89, 3) := by decide +kernel
theorem dX12_kindIn_21 : decode cX12_kindIn 21 = .ok (.iconst 0, 1) := by decide +kernel
theorem dX12_kindIn_22 : decode cX12_kindIn 22 = .ok (.iadd, 1) := by decide +kernel
theorem dX12_kindIn_23 : decode cX12_kindIn 23 = .ok (.iaload, 1) := by decide +kernel
theorem dX12_kindIn_24 : decode cX12_kindIn 24 = .ok (.goto 4, 3) := by decide +kernel
theorem dX12_kindIn_27 : decode cX12_kindIn 27 = .ok (.iconst 3, 1) := by decide +kernel
theorem dX12_kindIn_28 : decode cX12_kindIn 28 = .ok (.ireturn, 1) := by decide +kernel
theorem ch_cX12_least_0 : (cX12_least.data.toList.drop 0).take 36 = [42, 27, 5, 182, 0, 116, 153, 0, 32, 28, 3, 7, 184, 0, 85, 153, 0, 23, 29, 4, 16, 15, 184, 0, 85, 153, 0, 13, 21, 4, 3, 4, 184, 0, 85, 154] := by decide +kernel
theorem dX12_least_0 : decode cX12_least 0 = .ok (.aload_n 0, 1) := do_42 (rdb (p := 0) (i := 0) ch_cX12_least_0 rfl)
theorem dX12_least_1 : decode cX12_least 1 = .ok (.iload_n 1, 1) := do_27 (rdb (p := 0) (i := 1) ch_cX12_least_0 rfl)
theorem dX12_least_2 : decode cX12_least 2 = .ok (.iconst 2, 1) := do_5 (rdb (p := 0) (i := 2) ch_cX12_least_0 rfl)
theorem dX12_least_3 : decode cX12_least 3 = .ok (.invokevirtual 116, 3) := do_182 (rdb (p := 0) (i := 3) ch_cX12_least_0 rfl) (rdb (p := 0) (i := 4) ch_cX12_least_0 rfl) (rdb (p := 0) (i := 5) ch_cX12_least_0 rfl) rfl
theorem dX12_least_6 : decode cX12_least 6 = .ok (.ifCond .eq 32, 3) := do_153 (rdb (p := 0) (i := 6) ch_cX12_least_0 rfl) (rdb (p := 0) (i := 7) ch_cX12_least_0 rfl) (rdb (p := 0) (i := 8) ch_cX12_least_0 rfl) (by decide +kernel)
theorem dX12_least_9 : decode cX12_least 9 = .ok (.iload_n 2, 1) := do_28 (rdb (p := 0) (i := 9) ch_cX12_least_0 rfl)
theorem dX12_least_10 : decode cX12_least 10 = .ok (.iconst 0, 1) := do_3 (rdb (p := 0) (i := 10) ch_cX12_least_0 rfl)
theorem dX12_least_11 : decode cX12_least 11 = .ok (.iconst 4, 1) := do_7 (rdb (p := 0) (i := 11) ch_cX12_least_0 rfl)
theorem dX12_least_12 : decode cX12_least 12 = .ok (.invokestatic 85, 3) := do_184 (rdb (p := 0) (i := 12) ch_cX12_least_0 rfl) (rdb (p := 0) (i := 13) ch_cX12_least_0 rfl) (rdb (p := 0) (i := 14) ch_cX12_least_0 rfl) rfl
theorem dX12_least_15 : decode cX12_least 15 = .ok (.ifCond .eq 23, 3) := do_153 (rdb (p := 0) (i := 15) ch_cX12_least_0 rfl) (rdb (p := 0) (i := 16) ch_cX12_least_0 rfl) (rdb (p := 0) (i := 17) ch_cX12_least_0 rfl) (by decide +kernel)
theorem dX12_least_18 : decode cX12_least 18 = .ok (.iload_n 3, 1) := do_29 (rdb (p := 0) (i := 18) ch_cX12_least_0 rfl)
theorem dX12_least_19 : decode cX12_least 19 = .ok (.iconst 1, 1) := do_4 (rdb (p := 0) (i := 19) ch_cX12_least_0 rfl)
theorem dX12_least_20 : decode cX12_least 20 = .ok (.bipush 15, 2) := do_16 (rdb (p := 0) (i := 20) ch_cX12_least_0 rfl) (rdb (p := 0) (i := 21) ch_cX12_least_0 rfl) (by decide +kernel)
theorem dX12_least_22 : decode cX12_least 22 = .ok (.invokestatic 85, 3) := do_184 (rdb (p := 0) (i := 22) ch_cX12_least_0 rfl) (rdb (p := 0) (i := 23) ch_cX12_least_0 rfl) (rdb (p := 0) (i := 24) ch_cX12_least_0 rfl) rfl
theorem dX12_least_25 : decode cX12_least 25 = .ok (.ifCond .eq 13, 3) := do_153 (rdb (p := 0) (i := 25) ch_cX12_least_0 rfl) (rdb (p := 0) (i := 26) ch_cX12_least_0 rfl) (rdb (p := 0) (i := 27) ch_cX12_least_0 rfl) (by decide +kernel)
theorem dX12_least_28 : decode cX12_least 28 = .ok (.iload 4, 2) := do_21 (rdb (p := 0) (i := 28) ch_cX12_least_0 rfl) (rdb (p := 0) (i := 29) ch_cX12_least_0 rfl)
theorem dX12_least_30 : decode cX12_least 30 = .ok (.iconst 0, 1) := do_3 (rdb (p := 0) (i := 30) ch_cX12_least_0 rfl)
theorem dX12_least_31 : decode cX12_least 31 = .ok (.iconst 1, 1) := do_4 (rdb (p := 0) (i := 31) ch_cX12_least_0 rfl)
theorem ch_cX12_least_32 : (cX12_least.data.toList.drop 32).take 36 = [184, 0, 85, 154, 0, 10, 42, 18, 103, 182, 0, 104, 172, 29, 42, 27, 182, 0, 140, 163, 0, 79, 4, 54, 5, 21, 5, 21, 4, 154, 0, 8, 16, 9, 167, 0] := by decide +kernel
theorem dX12_least_32 : decode cX12_least 32 = .ok (.invokestatic 85, 3) := do_184 (rdb (p := 32) (i := 0) ch_cX12_least_32 rfl) (rdb (p := 32) (i := 1) ch_cX12_least_32 rfl) (rdb (p := 32) (i := 2) ch_cX12_least_32 rfl) rfl
theorem dX12_least_35 : decode cX12_least 35 = .ok (.ifCond .ne 10, 3) := do_154 (rdb (p := 32) (i := 3) ch_cX12_least_32 rfl) (rdb (p := 32) (i := 4) ch_cX12_least_32 rfl) (rdb (p := 32) (i := 5) ch_cX12_least_32 rfl) (by decide +kernel)
theorem dX12_least_38 : decode cX12_least 38 = .ok (.aload_n 0, 1) := do_42 (rdb (p := 32) (i := 6) ch_cX12_least_32 rfl)
theorem dX12_least_39 : decode cX12_least 39 = .ok (.ldc 103, 2) := do_18 (rdb (p := 32) (i := 7) ch_cX12_least_32 rfl) (rdb (p := 32) (i := 8) ch_cX12_least_32 rfl)
theorem dX12_least_41 : decode cX12_least 41 = .ok (.invokevirtual 104, 3) := do_182 (rdb (p := 32) (i := 9) ch_cX12_least_32 rfl) (rdb (p := 32) (i := 10) ch_cX12_least_32 rfl) (rdb (p := 32) (i := 11) ch_cX12_least_32 rfl) rfl
theorem dX12_least_44 : decode cX12_least 44 = .ok (.ireturn, 1) := do_172 (rdb (p := 32) (i := 12) ch_cX12_least_32 rfl)
theorem dX12_least_45 : decode cX12_least 45 = .ok (.iload_n 3, 1) := do_29 (rdb (p := 32) (i := 13) ch_cX12_least_32 rfl)
theorem dX12_least_46 : decode cX12_least 46 = .ok (.aload_n 0, 1) := do_42 (rdb (p := 32) (i := 14) ch_cX12_least_32 rfl)
theorem dX12_least_47 : decode cX12_least 47 = .ok (.iload_n 1, 1) := do_27 (rdb (p := 32) (i := 15) ch_cX12_least_32 rfl)
theorem dX12_least_48 : decode cX12_least 48 = .ok (.invokevirtual 140, 3) := do_182 (rdb (p := 32) (i := 16) ch_cX12_least_32 rfl) (rdb (p := 32) (i := 17) ch_cX12_least_32 rfl) (rdb (p := 32) (i := 18) ch_cX12_least_32 rfl) rfl
theorem dX12_least_51 : decode cX12_least 51 = .ok (.if_icmp .gt 79, 3) := do_163 (rdb (p := 32) (i := 19) ch_cX12_least_32 rfl) (rdb (p := 32) (i := 20) ch_cX12_least_32 rfl) (rdb (p := 32) (i := 21) ch_cX12_least_32 rfl) (by decide +kernel)
theorem dX12_least_54 : decode cX12_least 54 = .ok (.iconst 1, 1) := do_4 (rdb (p := 32) (i := 22) ch_cX12_least_32 rfl)
theorem dX12_least_55 : decode cX12_least 55 = .ok (.istore 5, 2) := do_54 (rdb (p := 32) (i := 23) ch_cX12_least_32 rfl) (rdb (p := 32) (i := 24) ch_cX12_least_32 rfl)
theorem dX12_least_57 : decode cX12_least 57 = .ok (.iload 5, 2) := do_21 (rdb (p := 32) (i := 25) ch_cX12_least_32 rfl) (rdb (p := 32) (i := 26) ch_cX12_least_32 rfl)
theorem dX12_least_59 : decode cX12_least 59 = .ok (.iload 4, 2) := do_21 (rdb (p := 32) (i := 27) ch_cX12_least_32 rfl) (rdb (p := 32) (i := 28) ch_cX12_least_32 rfl)
theorem dX12_least_61 : decode cX12_least 61 = .ok (.ifCond .ne 8, 3) := do_154 (rdb (p := 32) (i := 29) ch_cX12_least_32 rfl) (rdb (p := 32) (i := 30) ch_cX12_least_32 rfl) (rdb (p := 32) (i := 31) ch_cX12_least_32 rfl) (by decide +kernel)
theorem ch_cX12_least_64 : (cX12_least.data.toList.drop 64).take 36 = [16, 9, 167, 0, 5, 16, 99, 163, 0, 59, 42, 42, 27, 182, 0, 143, 28, 21, 4, 154, 0, 8, 21, 5, 167, 0, 13, 16, 9, 42, 27, 182, 0, 143, 184, 0] := by decide +kernel
theorem dX12_least_64 : decode cX12_least 64 = .ok (.bipush 9, 2) := do_16 (rdb (p := 64) (i := 0) ch_cX12_least_64 rfl) (rdb (p := 64) (i := 1) ch_cX12_least_64 rfl) (by decide +kernel)
theorem dX12_least_66 : decode cX12_least 66 = .ok (.goto 5, 3) := do_167 (rdb (p := 64) (i := 2) ch_cX12_least_64 rfl) (rdb (p := 64) (i := 3) ch_cX12_least_64 rfl) (rdb (p := 64) (i := 4) ch_cX12_least_64 rfl) (by decide +kernel)
theorem dX12_least_69 : decode cX12_least 69 = .ok (.bipush 99, 2) := do_16 (rdb (p := 64) (i := 5) ch_cX12_least_64 rfl) (rdb (p := 64) (i := 6) ch_cX12_least_64 rfl) (by decide +kernel)
theorem dX12_least_71 : decode cX12_least 71 = .ok (.if_icmp .gt 59, 3) := do_163 (rdb (p := 64) (i := 7) ch_cX12_least_64 rfl) (rdb (p := 64) (i := 8) ch_cX12_least_64 rfl) (rdb (p := 64) (i := 9) ch_cX12_least_64 rfl) (by decide +kernel)
theorem dX12_least_74 : decode cX12_least 74 = .ok (.aload_n 0, 1) := do_42 (rdb (p := 64) (i := 10) ch_cX12_least_64 rfl)
theorem dX12_least_75 : decode cX12_least 75 = .ok (.aload_n 0, 1) := do_42 (rdb (p := 64) (i := 11) ch_cX12_least_64 rfl)
theorem dX12_least_76 : decode cX12_least 76 = .ok (.iload_n 1, 1) := do_27 (rdb (p := 64) (i := 12) ch_cX12_least_64 rfl)
theorem dX12_least_77 : decode cX12_least 77 = .ok (.invokevirtual 143, 3) := do_182 (rdb (p := 64) (i := 13) ch_cX12_least_64 rfl) (rdb (p := 64) (i := 14) ch_cX12_least_64 rfl) (rdb (p := 64) (i := 15) ch_cX12_least_64 rfl) rfl
theorem dX12_least_80 : decode cX12_least 80 = .ok (.iload_n 2, 1) := do_28 (rdb (p := 64) (i := 16) ch_cX12_least_64 rfl)
theorem dX12_least_81 : decode cX12_least 81 = .ok (.iload 4, 2) := do_21 (rdb (p := 64) (i := 17) ch_cX12_least_64 rfl) (rdb (p := 64) (i := 18) ch_cX12_least_64 rfl)
theorem dX12_least_83 : decode cX12_least 83 = .ok (.ifCond .ne 8, 3) := do_154 (rdb (p := 64) (i := 19) ch_cX12_least_64 rfl) (rdb (p := 64) (i := 20) ch_cX12_least_64 rfl) (rdb (p := 64) (i := 21) ch_cX12_least_64 rfl) (by decide +kernel)
theorem dX12_least_86 : decode cX12_least 86 = .ok (.iload 5, 2) := do_21 (rdb (p := 64) (i := 22) ch_cX12_least_64 rfl) (rdb (p := 64) (i := 23) ch_cX12_least_64 rfl)
theorem dX12_least_88 : decode cX12_least 88 = .ok (.goto 13, 3) := do_167 (rdb (p := 64) (i := 24) ch_cX12_least_64 rfl) (rdb (p := 64) (i := 25) ch_cX12_least_64 rfl) (rdb (p := 64) (i := 26) ch_cX12_least_64 rfl) (by decide +kernel)
theorem dX12_least_91 : decode cX12_least 91 = .ok (.bipush 9, 2) := do_16 (rdb (p := 64) (i := 27) ch_cX12_least_64 rfl) (rdb (p := 64) (i := 28) ch_cX12_least_64 rfl) (by decide +kernel)
theorem dX12_least_93 : decode cX12_least 93 = .ok (.aload_n 0, 1) := do_42 (rdb (p := 64) (i := 29) ch_cX12_least_64 rfl)
theorem dX12_least_94 : decode cX12_least 94 = .ok (.iload_n 1, 1) := do_27 (rdb (p := 64) (i := 30) ch_cX12_least_64 rfl)
theorem dX12_least_95 : decode cX12_least 95 = .ok (.invokevirtual 143, 3) := do_182 (rdb (p := 64) (i := 31) ch_cX12_least_64 rfl) (rdb (p := 64) (i := 32) ch_cX12_least_64 rfl) (rdb (p := 64) (i := 33) ch_cX12_least_64 rfl) rfl
theorem ch_cX12_least_96 : (cX12_least.data.toList.drop 96).take 36 = [0, 143, 184, 0, 219, 21, 4, 154, 0, 8, 16, 99, 167, 0, 5, 21, 5, 3, 29, 182, 0, 249, 153, 0, 6, 21, 5, 172, 132, 5, 1, 167, 255, 186, 42, 18] := by decide +kernel
theorem dX12_least_98 : decode cX12_least 98 = .ok (.invokestatic 219, 3) := do_184 (rdb (p := 96) (i := 2) ch_cX12_least_96 rfl) (rdb (p := 96) (i := 3) ch_cX12_least_96 rfl) (rdb (p := 96) (i := 4) ch_cX12_least_96 rfl) rfl
theorem dX12_least_101 : decode cX12_least 101 = .ok (.iload 4, 2) := do_21 (rdb (p := 96) (i := 5) ch_cX12_least_96 rfl) (rdb (p := 96) (i := 6) ch_cX12_least_96 rfl)
theorem dX12_least_103 : decode cX12_least 103 = .ok (.ifCond .ne 8, 3) := do_154 (rdb (p := 96) (i := 7) ch_cX12_least_96 rfl) (rdb (p := 96) (i := 8) ch_cX12_least_96 rfl) (rdb (p := 96) (i := 9) ch_cX12_least_96 rfl) (by decide +kernel)
theorem dX12_least_106 : decode cX12_least 106 = .ok (.bipush 99, 2) := do_16 (rdb (p := 96) (i := 10) ch_cX12_least_96 rfl) (rdb (p := 96) (i := 11) ch_cX12_least_96 rfl) (by decide +kernel)
theorem dX12_least_108 : decode cX12_least 108 = .ok (.goto 5, 3) := do_167 (rdb (p := 96) (i := 12) ch_cX12_least_96 rfl) (rdb (p := 96) (i := 13) ch_cX12_least_96 rfl) (rdb (p := 96) (i := 14) ch_cX12_least_96 rfl) (by decide +kernel)
theorem dX12_least_111 : decode cX12_least 111 = .ok (.iload 5, 2) := do_21 (rdb (p := 96) (i := 15) ch_cX12_least_96 rfl) (rdb (p := 96) (i := 16) ch_cX12_least_96 rfl)
theorem dX12_least_113 : decode cX12_least 113 = .ok (.iconst 0, 1) := do_3 (rdb (p := 96) (i := 17) ch_cX12_least_96 rfl)
theorem dX12_least_114 : decode cX12_least 114 = .ok (.iload_n 3, 1) := do_29 (rdb (p := 96) (i := 18) ch_cX12_least_96 rfl)
theorem dX12_least_115 : decode cX12_least 115 = .ok (.invokevirtual 249, 3) := do_182 (rdb (p := 96) (i := 19) ch_cX12_least_96 rfl) (rdb (p := 96) (i := 20) ch_cX12_least_96 rfl) (rdb (p := 96) (i := 21) ch_cX12_least_96 rfl) rfl
theorem dX12_least_118 : decode cX12_least 118 = .ok (.ifCond .eq 6, 3) := do_153 (rdb (p := 96) (i := 22) ch_cX12_least_96 rfl) (rdb (p := 96) (i := 23) ch_cX12_least_96 rfl) (rdb (p := 96) (i := 24) ch_cX12_least_96 rfl) (by decide +kernel)
theorem dX12_least_121 : decode cX12_least 121 = .ok (.iload 5, 2) := do_21 (rdb (p := 96) (i := 25) ch_cX12_least_96 rfl) (rdb (p := 96) (i := 26) ch_cX12_least_96 rfl)
theorem dX12_least_123 : decode cX12_least 123 = .ok (.ireturn, 1) := do_172 (rdb (p := 96) (i := 27) ch_cX12_least_96 rfl)
theorem dX12_least_124 : decode cX12_least 124 = .ok (.iinc 5 1, 3) := do_132 (rdb (p := 96) (i := 28) ch_cX12_least_96 rfl) (rdb (p := 96) (i := 29) ch_cX12_least_96 rfl) (rdb (p := 96) (i := 30) ch_cX12_least_96 rfl) (by decide +kernel)
theorem dX12_least_127 : decode cX12_least 127 = .ok (.goto (-70), 3) := do_167 (rdb (p := 96) (i := 31) ch_cX12_least_96 rfl) (rdb (p := 96) (i := 32) ch_cX12_least_96 rfl) (rdb (p := 96) (i := 33) ch_cX12_least_96 rfl) (by decide +kernel)
theorem ch_cX12_least_128 : (cX12_least.data.toList.drop 128).take 36 = [255, 186, 42, 18, 130, 182, 0, 104, 172] := by decide +kernel
theorem dX12_least_130 : decode cX12_least 130 = .ok (.aload_n 0, 1) := do_42 (rdb (p := 128) (i := 2) ch_cX12_least_128 rfl)
theorem dX12_least_131 : decode cX12_least 131 = .ok (.ldc 130, 2) := do_18 (rdb (p := 128) (i := 3) ch_cX12_least_128 rfl) (rdb (p := 128) (i := 4) ch_cX12_least_128 rfl)
theorem dX12_least_133 : decode cX12_least 133 = .ok (.invokevirtual 104, 3) := do_182 (rdb (p := 128) (i := 5) ch_cX12_least_128 rfl) (rdb (p := 128) (i := 6) ch_cX12_least_128 rfl) (rdb (p := 128) (i := 7) ch_cX12_least_128 rfl) rfl
theorem dX12_least_136 : decode cX12_least 136 = .ok (.ireturn, 1) := do_172 (rdb (p := 128) (i := 8) ch_cX12_least_128 rfl)
theorem dX12_more_0 : decode cX12_more 0 = .ok (.aload_n 0, 1) := by decide +kernel
theorem dX12_more_1 : decode cX12_more 1 = .ok (.getfield 9, 3) := by decide +kernel
theorem dX12_more_4 : decode cX12_more 4 = .ok (.iload_n 1, 1) := by decide +kernel
theorem dX12_more_5 : decode cX12_more 5 = .ok (.bipush 99, 2) := by decide +kernel
theorem dX12_more_7 : decode cX12_more 7 = .ok (.aload_n 0, 1) := by decide +kernel
theorem dX12_more_8 : decode cX12_more 8 = .ok (.getfield 9, 3) := by decide +kernel
theorem dX12_more_11 : decode cX12_more 11 = .ok (.iload_n 1, 1) := by decide +kernel
theorem dX12_more_12 : decode cX12_more 12 = .ok (.iaload, 1) := by decide +kernel
theorem dX12_more_13 : decode cX12_more 13 = .ok (.iload_n 2, 1) := by decide +kernel
theorem dX12_more_14 : decode cX12_more 14 = .ok (.iadd, 1) := by decide +kernel
theorem dX12_more_15 : decode cX12_more 15 = .ok (.invokestatic 219, 3) := by decide +kernel
theorem dX12_more_18 : decode cX12_more 18 = .ok (.iastore, 1) := by decide +kernel
theorem dX12_more_19 : decode cX12_more 19 = .ok (.return_, 1) := by decide +kernel
theorem ch_cX12_strength_0 : (cX12_strength.data.toList.drop 0).take 36 = [42, 180, 0, 9, 16, 9, 27, 96, 46, 54, 5, 42, 180, 0, 47, 3, 29, 79, 42, 180, 0, 47, 4, 21, 5, 79, 42, 180, 0, 47, 5, 21, 4, 79, 42, 180] := by decide +kernel
theorem dX12_strength_0 : decode cX12_strength 0 = .ok (.aload_n 0, 1) := do_42 (rdb (p := 0) (i := 0) ch_cX12_strength_0 rfl)
theorem dX12_strength_1 : decode cX12_strength 1 = .ok (.getfield 9, 3) := do_180 (rdb (p := 0) (i := 1) ch_cX12_strength_0 rfl) (rdb (p := 0) (i := 2) ch_cX12_strength_0 rfl) (rdb (p := 0) (i := 3) ch_cX12_strength_0 rfl) rfl
theorem dX12_strength_4 : decode cX12_strength 4 = .ok (.bipush 9, 2) := do_16 (rdb (p := 0) (i := 4) ch_cX12_strength_0 rfl) (rdb (p := 0) (i := 5) ch_cX12_strength_0 rfl) (by decide +kernel)
theorem dX12_strength_6 : decode cX12_strength 6 = .ok (.iload_n 1, 1) := do_27 (rdb (p := 0) (i := 6) ch_cX12_strength_0 rfl)
theorem dX12_strength_7 : decode cX12_strength 7 = .ok (.iadd, 1) := do_96 (rdb (p := 0) (i := 7) ch_cX12_strength_0 rfl)
theorem dX12_strength_8 : decode cX12_strength 8 = .ok (.iaload, 1) := do_46 (rdb (p := 0) (i := 8) ch_cX12_strength_0 rfl)
theorem dX12_strength_9 : decode cX12_strength 9 = .ok (.istore 5, 2) := do_54 (rdb (p := 0) (i := 9) ch_cX12_strength_0 rfl) (rdb (p := 0) (i := 10) ch_cX12_strength_0 rfl)
theorem dX12_strength_11 : decode cX12_strength 11 = .ok (.aload_n 0, 1) := do_42 (rdb (p := 0) (i := 11) ch_cX12_strength_0 rfl)
theorem dX12_strength_12 : decode cX12_strength 12 = .ok (.getfield 47, 3) := do_180 (rdb (p := 0) (i := 12) ch_cX12_strength_0 rfl) (rdb (p := 0) (i := 13) ch_cX12_strength_0 rfl) (rdb (p := 0) (i := 14) ch_cX12_strength_0 rfl) rfl
theorem dX12_strength_15 : decode cX12_strength 15 = .ok (.iconst 0, 1) := do_3 (rdb (p := 0) (i := 15) ch_cX12_strength_0 rfl)
theorem dX12_strength_16 : decode cX12_strength 16 = .ok (.iload_n 3, 1) := do_29 (rdb (p := 0) (i := 16) ch_cX12_strength_0 rfl)
theorem dX12_strength_17 : decode cX12_strength 17 = .ok (.iastore, 1) := do_79 (rdb (p := 0) (i := 17) ch_cX12_strength_0 rfl)
theorem dX12_strength_18 : decode cX12_strength 18 = .ok (.aload_n 0, 1) := do_42 (rdb (p := 0) (i := 18) ch_cX12_strength_0 rfl)
theorem dX12_strength_19 : decode cX12_strength 19 = .ok (.getfield 47, 3) := do_180 (rdb (p := 0) (i := 19) ch_cX12_strength_0 rfl) (rdb (p := 0) (i := 20) ch_cX12_strength_0 rfl) (rdb (p := 0) (i := 21) ch_cX12_strength_0 rfl) rfl
theorem dX12_strength_22 : decode cX12_strength 22 = .ok (.iconst 1, 1) := do_4 (rdb (p := 0) (i := 22) ch_cX12_strength_0 rfl)
theorem dX12_strength_23 : decode cX12_strength 23 = .ok (.iload 5, 2) := do_21 (rdb (p := 0) (i := 23) ch_cX12_strength_0 rfl) (rdb (p := 0) (i := 24) ch_cX12_strength_0 rfl)
theorem dX12_strength_25 : decode cX12_strength 25 = .ok (.iastore, 1) := do_79 (rdb (p := 0) (i := 25) ch_cX12_strength_0 rfl)
theorem dX12_strength_26 : decode cX12_strength 26 = .ok (.aload_n 0, 1) := do_42 (rdb (p := 0) (i := 26) ch_cX12_strength_0 rfl)
theorem dX12_strength_27 : decode cX12_strength 27 = .ok (.getfield 47, 3) := do_180 (rdb (p := 0) (i := 27) ch_cX12_strength_0 rfl) (rdb (p := 0) (i := 28) ch_cX12_strength_0 rfl) (rdb (p := 0) (i := 29) ch_cX12_strength_0 rfl) rfl
theorem dX12_strength_30 : decode cX12_strength 30 = .ok (.iconst 2, 1) := do_5 (rdb (p := 0) (i := 30) ch_cX12_strength_0 rfl)
theorem dX12_strength_31 : decode cX12_strength 31 = .ok (.iload 4, 2) := do_21 (rdb (p := 0) (i := 31) ch_cX12_strength_0 rfl) (rdb (p := 0) (i := 32) ch_cX12_strength_0 rfl)
theorem ch_cX12_strength_32 : (cX12_strength.data.toList.drop 32).take 36 = [4, 79, 42, 180, 0, 47, 6, 28, 79, 42, 3, 182, 0, 213, 153, 0, 11, 42, 3, 182, 0, 216, 167, 0, 15, 29, 21, 5, 104, 16, 50, 108, 5, 21, 4, 104] := by decide +kernel
theorem dX12_strength_33 : decode cX12_strength 33 = .ok (.iastore, 1) := do_79 (rdb (p := 32) (i := 1) ch_cX12_strength_32 rfl)
theorem dX12_strength_34 : decode cX12_strength 34 = .ok (.aload_n 0, 1) := do_42 (rdb (p := 32) (i := 2) ch_cX12_strength_32 rfl)
theorem dX12_strength_35 : decode cX12_strength 35 = .ok (.getfield 47, 3) := do_180 (rdb (p := 32) (i := 3) ch_cX12_strength_32 rfl) (rdb (p := 32) (i := 4) ch_cX12_strength_32 rfl) (rdb (p := 32) (i := 5) ch_cX12_strength_32 rfl) rfl
theorem dX12_strength_38 : decode cX12_strength 38 = .ok (.iconst 3, 1) := do_6 (rdb (p := 32) (i := 6) ch_cX12_strength_32 rfl)
theorem dX12_strength_39 : decode cX12_strength 39 = .ok (.iload_n 2, 1) := do_28 (rdb (p := 32) (i := 7) ch_cX12_strength_32 rfl)
theorem dX12_strength_40 : decode cX12_strength 40 = .ok (.iastore, 1) := do_79 (rdb (p := 32) (i := 8) ch_cX12_strength_32 rfl)
theorem dX12_strength_41 : decode cX12_strength 41 = .ok (.aload_n 0, 1) := do_42 (rdb (p := 32) (i := 9) ch_cX12_strength_32 rfl)
theorem dX12_strength_42 : decode cX12_strength 42 = .ok (.iconst 0, 1) := do_3 (rdb (p := 32) (i := 10) ch_cX12_strength_32 rfl)
theorem dX12_strength_43 : decode cX12_strength 43 = .ok (.invokevirtual 213, 3) := do_182 (rdb (p := 32) (i := 11) ch_cX12_strength_32 rfl) (rdb (p := 32) (i := 12) ch_cX12_strength_32 rfl) (rdb (p := 32) (i := 13) ch_cX12_strength_32 rfl) rfl
theorem dX12_strength_46 : decode cX12_strength 46 = .ok (.ifCond .eq 11, 3) := do_153 (rdb (p := 32) (i := 14) ch_cX12_strength_32 rfl) (rdb (p := 32) (i := 15) ch_cX12_strength_32 rfl) (rdb (p := 32) (i := 16) ch_cX12_strength_32 rfl) (by decide +kernel)
theorem dX12_strength_49 : decode cX12_strength 49 = .ok (.aload_n 0, 1) := do_42 (rdb (p := 32) (i := 17) ch_cX12_strength_32 rfl)
theorem dX12_strength_50 : decode cX12_strength 50 = .ok (.iconst 0, 1) := do_3 (rdb (p := 32) (i := 18) ch_cX12_strength_32 rfl)
theorem dX12_strength_51 : decode cX12_strength 51 = .ok (.invokevirtual 216, 3) := do_182 (rdb (p := 32) (i := 19) ch_cX12_strength_32 rfl) (rdb (p := 32) (i := 20) ch_cX12_strength_32 rfl) (rdb (p := 32) (i := 21) ch_cX12_strength_32 rfl) rfl
theorem dX12_strength_54 : decode cX12_strength 54 = .ok (.goto 15, 3) := do_167 (rdb (p := 32) (i := 22) ch_cX12_strength_32 rfl) (rdb (p := 32) (i := 23) ch_cX12_strength_32 rfl) (rdb (p := 32) (i := 24) ch_cX12_strength_32 rfl) (by decide +kernel)
theorem dX12_strength_57 : decode cX12_strength 57 = .ok (.iload_n 3, 1) := do_29 (rdb (p := 32) (i := 25) ch_cX12_strength_32 rfl)
theorem dX12_strength_58 : decode cX12_strength 58 = .ok (.iload 5, 2) := do_21 (rdb (p := 32) (i := 26) ch_cX12_strength_32 rfl) (rdb (p := 32) (i := 27) ch_cX12_strength_32 rfl)
theorem dX12_strength_60 : decode cX12_strength 60 = .ok (.imul, 1) := do_104 (rdb (p := 32) (i := 28) ch_cX12_strength_32 rfl)
theorem dX12_strength_61 : decode cX12_strength 61 = .ok (.bipush 50, 2) := do_16 (rdb (p := 32) (i := 29) ch_cX12_strength_32 rfl) (rdb (p := 32) (i := 30) ch_cX12_strength_32 rfl) (by decide +kernel)
theorem dX12_strength_63 : decode cX12_strength 63 = .ok (.idiv, 1) := do_108 (rdb (p := 32) (i := 31) ch_cX12_strength_32 rfl)
theorem ch_cX12_strength_64 : (cX12_strength.data.toList.drop 64).take 36 = [5, 21, 4, 104, 100, 54, 6, 3, 17, 3, 231, 21, 6, 184, 0, 219, 184, 0, 224, 54, 6, 42, 180, 0, 9, 16, 8, 46, 4, 160, 0, 10, 21, 6, 5, 108] := by decide +kernel
theorem dX12_strength_64 : decode cX12_strength 64 = .ok (.iconst 2, 1) := do_5 (rdb (p := 64) (i := 0) ch_cX12_strength_64 rfl)
theorem dX12_strength_65 : decode cX12_strength 65 = .ok (.iload 4, 2) := do_21 (rdb (p := 64) (i := 1) ch_cX12_strength_64 rfl) (rdb (p := 64) (i := 2) ch_cX12_strength_64 rfl)
theorem dX12_strength_67 : decode cX12_strength 67 = .ok (.imul, 1) := do_104 (rdb (p := 64) (i := 3) ch_cX12_strength_64 rfl)
theorem dX12_strength_68 : decode cX12_strength 68 = .ok (.isub, 1) := do_100 (rdb (p := 64) (i := 4) ch_cX12_strength_64 rfl)
theorem dX12_strength_69 : decode cX12_strength 69 = .ok (.istore 6, 2) := do_54 (rdb (p := 64) (i := 5) ch_cX12_strength_64 rfl) (rdb (p := 64) (i := 6) ch_cX12_strength_64 rfl)
theorem dX12_strength_71 : decode cX12_strength 71 = .ok (.iconst 0, 1) := do_3 (rdb (p := 64) (i := 7) ch_cX12_strength_64 rfl)
theorem dX12_strength_72 : decode cX12_strength 72 = .ok (.sipush 999, 3) := do_17 (rdb (p := 64) (i := 8) ch_cX12_strength_64 rfl) (rdb (p := 64) (i := 9) ch_cX12_strength_64 rfl) (rdb (p := 64) (i := 10) ch_cX12_strength_64 rfl) (by decide +kernel)
theorem dX12_strength_75 : decode cX12_strength 75 = .ok (.iload 6, 2) := do_21 (rdb (p := 64) (i := 11) ch_cX12_strength_64 rfl) (rdb (p := 64) (i := 12) ch_cX12_strength_64 rfl)
theorem dX12_strength_77 : decode cX12_strength 77 = .ok (.invokestatic 219, 3) := do_184 (rdb (p := 64) (i := 13) ch_cX12_strength_64 rfl) (rdb (p := 64) (i := 14) ch_cX12_strength_64 rfl) (rdb (p := 64) (i := 15) ch_cX12_strength_64 rfl) rfl
theorem dX12_strength_80 : decode cX12_strength 80 = .ok (.invokestatic 224, 3) := do_184 (rdb (p := 64) (i := 16) ch_cX12_strength_64 rfl) (rdb (p := 64) (i := 17) ch_cX12_strength_64 rfl) (rdb (p := 64) (i := 18) ch_cX12_strength_64 rfl) rfl
theorem dX12_strength_83 : decode cX12_strength 83 = .ok (.istore 6, 2) := do_54 (rdb (p := 64) (i := 19) ch_cX12_strength_64 rfl) (rdb (p := 64) (i := 20) ch_cX12_strength_64 rfl)
theorem dX12_strength_85 : decode cX12_strength 85 = .ok (.aload_n 0, 1) := do_42 (rdb (p := 64) (i := 21) ch_cX12_strength_64 rfl)
theorem dX12_strength_86 : decode cX12_strength 86 = .ok (.getfield 9, 3) := do_180 (rdb (p := 64) (i := 22) ch_cX12_strength_64 rfl) (rdb (p := 64) (i := 23) ch_cX12_strength_64 rfl) (rdb (p := 64) (i := 24) ch_cX12_strength_64 rfl) rfl
theorem dX12_strength_89 : decode cX12_strength 89 = .ok (.bipush 8, 2) := do_16 (rdb (p := 64) (i := 25) ch_cX12_strength_64 rfl) (rdb (p := 64) (i := 26) ch_cX12_strength_64 rfl) (by decide +kernel)
theorem dX12_strength_91 : decode cX12_strength 91 = .ok (.iaload, 1) := do_46 (rdb (p := 64) (i := 27) ch_cX12_strength_64 rfl)
theorem dX12_strength_92 : decode cX12_strength 92 = .ok (.iconst 1, 1) := do_4 (rdb (p := 64) (i := 28) ch_cX12_strength_64 rfl)
theorem dX12_strength_93 : decode cX12_strength 93 = .ok (.if_icmp .ne 10, 3) := do_160 (rdb (p := 64) (i := 29) ch_cX12_strength_64 rfl) (rdb (p := 64) (i := 30) ch_cX12_strength_64 rfl) (rdb (p := 64) (i := 31) ch_cX12_strength_64 rfl) (by decide +kernel)
theorem ch_cX12_strength_96 : (cX12_strength.data.toList.drop 96).take 36 = [21, 6, 5, 108, 167, 0, 5, 21, 6, 54, 6, 42, 180, 0, 9, 16, 14, 27, 96, 46, 28, 164, 0, 7, 3, 167, 0, 5, 21, 6, 172] := by decide +kernel
theorem dX12_strength_96 : decode cX12_strength 96 = .ok (.iload 6, 2) := do_21 (rdb (p := 96) (i := 0) ch_cX12_strength_96 rfl) (rdb (p := 96) (i := 1) ch_cX12_strength_96 rfl)
theorem dX12_strength_98 : decode cX12_strength 98 = .ok (.iconst 2, 1) := do_5 (rdb (p := 96) (i := 2) ch_cX12_strength_96 rfl)
theorem dX12_strength_99 : decode cX12_strength 99 = .ok (.idiv, 1) := do_108 (rdb (p := 96) (i := 3) ch_cX12_strength_96 rfl)
theorem dX12_strength_100 : decode cX12_strength 100 = .ok (.goto 5, 3) := do_167 (rdb (p := 96) (i := 4) ch_cX12_strength_96 rfl) (rdb (p := 96) (i := 5) ch_cX12_strength_96 rfl) (rdb (p := 96) (i := 6) ch_cX12_strength_96 rfl) (by decide +kernel)
theorem dX12_strength_103 : decode cX12_strength 103 = .ok (.iload 6, 2) := do_21 (rdb (p := 96) (i := 7) ch_cX12_strength_96 rfl) (rdb (p := 96) (i := 8) ch_cX12_strength_96 rfl)
theorem dX12_strength_105 : decode cX12_strength 105 = .ok (.istore 6, 2) := do_54 (rdb (p := 96) (i := 9) ch_cX12_strength_96 rfl) (rdb (p := 96) (i := 10) ch_cX12_strength_96 rfl)
theorem dX12_strength_107 : decode cX12_strength 107 = .ok (.aload_n 0, 1) := do_42 (rdb (p := 96) (i := 11) ch_cX12_strength_96 rfl)
theorem dX12_strength_108 : decode cX12_strength 108 = .ok (.getfield 9, 3) := do_180 (rdb (p := 96) (i := 12) ch_cX12_strength_96 rfl) (rdb (p := 96) (i := 13) ch_cX12_strength_96 rfl) (rdb (p := 96) (i := 14) ch_cX12_strength_96 rfl) rfl
theorem dX12_strength_111 : decode cX12_strength 111 = .ok (.bipush 14, 2) := do_16 (rdb (p := 96) (i := 15) ch_cX12_strength_96 rfl) (rdb (p := 96) (i := 16) ch_cX12_strength_96 rfl) (by decide +kernel)
theorem dX12_strength_113 : decode cX12_strength 113 = .ok (.iload_n 1, 1) := do_27 (rdb (p := 96) (i := 17) ch_cX12_strength_96 rfl)
theorem dX12_strength_114 : decode cX12_strength 114 = .ok (.iadd, 1) := do_96 (rdb (p := 96) (i := 18) ch_cX12_strength_96 rfl)
theorem dX12_strength_115 : decode cX12_strength 115 = .ok (.iaload, 1) := do_46 (rdb (p := 96) (i := 19) ch_cX12_strength_96 rfl)
theorem dX12_strength_116 : decode cX12_strength 116 = .ok (.iload_n 2, 1) := do_28 (rdb (p := 96) (i := 20) ch_cX12_strength_96 rfl)
theorem dX12_strength_117 : decode cX12_strength 117 = .ok (.if_icmp .le 7, 3) := do_164 (rdb (p := 96) (i := 21) ch_cX12_strength_96 rfl) (rdb (p := 96) (i := 22) ch_cX12_strength_96 rfl) (rdb (p := 96) (i := 23) ch_cX12_strength_96 rfl) (by decide +kernel)
theorem dX12_strength_120 : decode cX12_strength 120 = .ok (.iconst 0, 1) := do_3 (rdb (p := 96) (i := 24) ch_cX12_strength_96 rfl)
theorem dX12_strength_121 : decode cX12_strength 121 = .ok (.goto 5, 3) := do_167 (rdb (p := 96) (i := 25) ch_cX12_strength_96 rfl) (rdb (p := 96) (i := 26) ch_cX12_strength_96 rfl) (rdb (p := 96) (i := 27) ch_cX12_strength_96 rfl) (by decide +kernel)
theorem dX12_strength_124 : decode cX12_strength 124 = .ok (.iload 6, 2) := do_21 (rdb (p := 96) (i := 28) ch_cX12_strength_96 rfl) (rdb (p := 96) (i := 29) ch_cX12_strength_96 rfl)
theorem dX12_strength_126 : decode cX12_strength 126 = .ok (.ireturn, 1) := do_172 (rdb (p := 96) (i := 30) ch_cX12_strength_96 rfl)
end
