def SP_JI_bitCount (v : Int32) (Mz : mM) (r_ : Int32) : Prop := ∃ z1_ : Int32, (z1_ = iushrX v (1 : Int32)) ∧ ∃ z3_ : Int32, (z3_ = z1_ &&& (1431655765 : Int32)) ∧ ∃ z5_ : Int32, (z5_ = v - z3_) ∧ ∃ z7_ : Int32, (z7_ = z5_ &&& (858993459 : Int32)) ∧ ∃ z9_ : Int32, (z9_ = iushrX z5_ (2 : Int32)) ∧ ∃ z11_ : Int32, (z11_ = z9_ &&& (858993459 : Int32)) ∧ ∃ z13_ : Int32, (z13_ = z7_ + z11_) ∧ ∃ z15_ : Int32, (z15_ = iushrX z13_ (4 : Int32)) ∧ ∃ z17_ : Int32, (z17_ = z13_ + z15_) ∧ ∃ z19_ : Int32, (z19_ = z17_ &&& (252645135 : Int32)) ∧ ∃ z21_ : Int32, (z21_ = iushrX z19_ (8 : Int32)) ∧ ∃ z23_ : Int32, (z23_ = z19_ + z21_) ∧ ∃ z25_ : Int32, (z25_ = iushrX z23_ (16 : Int32)) ∧ ∃ z27_ : Int32, (z27_ = z23_ + z25_) ∧ ∃ z29_ : Int32, (z29_ = z27_ &&& (63 : Int32)) ∧ (0 ≤ z29_.toInt ∧ z29_.toInt < ((2 ^ 6 : Nat) : Int)) ∧ r_ = z29_
set_option maxHeartbeats 4000000 in
set_option maxRecDepth 100000 in
theorem c_JI_bitCount (l : Launch) (G : va_G) (cy : Nat → ClassId) (ad : rf → Nat) (d : Nat) (v : Int32) (Mz : mM) (hIz : Inv Mz) : WP CC l G cy ad yJI_bitCount cJI_bitCount 1 (some .int) d 0 [(0, vI v)] [] Mz (fun r M' => Mz = M' ∧ (True) ∧ SP_JI_bitCount v Mz r) := by
  refine w_iload_n dJI_bitCount_0 rfl 0 rfl ?_
  refine w_iload_n dJI_bitCount_1 rfl 0 rfl ?_
  refine w_iconst (v := 1) dJI_bitCount_2 (by decide) ?_
  refine w_iushr dJI_bitCount_3 (fun z1_ h2_ => ?_)
  refine w_ldc_w (v := 1431655765) m_1008 dJI_bitCount_4 ?_
  refine w_iand dJI_bitCount_7 (fun z3_ h4_ => ?_)
  refine w_isub dJI_bitCount_8 (fun z5_ h6_ => ?_)
  refine w_istore_n (ls' := [(0, vI z5_)]) dJI_bitCount_9 rfl (by decide) rfl ?_
  refine w_iload_n dJI_bitCount_10 rfl 0 rfl ?_
  refine w_ldc_w (v := 858993459) m_1009 dJI_bitCount_11 ?_
  refine w_iand dJI_bitCount_14 (fun z7_ h8_ => ?_)
  refine w_iload_n dJI_bitCount_15 rfl 0 rfl ?_
  refine w_iconst (v := 2) dJI_bitCount_16 (by decide) ?_
  refine w_iushr dJI_bitCount_17 (fun z9_ h10_ => ?_)
  refine w_ldc_w (v := 858993459) m_1009 dJI_bitCount_18 ?_
  refine w_iand dJI_bitCount_21 (fun z11_ h12_ => ?_)
  refine w_iadd dJI_bitCount_22 (fun z13_ h14_ => ?_)
  refine w_istore_n (ls' := [(0, vI z13_)]) dJI_bitCount_23 rfl (by decide) rfl ?_
  refine w_iload_n dJI_bitCount_24 rfl 0 rfl ?_
  refine w_iload_n dJI_bitCount_25 rfl 0 rfl ?_
  refine w_iconst (v := 4) dJI_bitCount_26 (by decide) ?_
  refine w_iushr dJI_bitCount_27 (fun z15_ h16_ => ?_)
  refine w_iadd dJI_bitCount_28 (fun z17_ h18_ => ?_)
  refine w_ldc_w (v := 252645135) m_1010 dJI_bitCount_29 ?_
  refine w_iand dJI_bitCount_32 (fun z19_ h20_ => ?_)
  refine w_istore_n (ls' := [(0, vI z19_)]) dJI_bitCount_33 rfl (by decide) rfl ?_
  refine w_iload_n dJI_bitCount_34 rfl 0 rfl ?_
  refine w_iload_n dJI_bitCount_35 rfl 0 rfl ?_
  refine w_bipush (v := 8) dJI_bitCount_36 (by decide) ?_
  refine w_iushr dJI_bitCount_38 (fun z21_ h22_ => ?_)
  refine w_iadd dJI_bitCount_39 (fun z23_ h24_ => ?_)
  refine w_istore_n (ls' := [(0, vI z23_)]) dJI_bitCount_40 rfl (by decide) rfl ?_
  refine w_iload_n dJI_bitCount_41 rfl 0 rfl ?_
  refine w_iload_n dJI_bitCount_42 rfl 0 rfl ?_
  refine w_bipush (v := 16) dJI_bitCount_43 (by decide) ?_
  refine w_iushr dJI_bitCount_45 (fun z25_ h26_ => ?_)
  refine w_iadd dJI_bitCount_46 (fun z27_ h28_ => ?_)
  refine w_istore_n (ls' := [(0, vI z27_)]) dJI_bitCount_47 rfl (by decide) rfl ?_
  refine w_iload_n dJI_bitCount_48 rfl 0 rfl ?_
  refine w_bipush (v := 63) dJI_bitCount_49 (by decide) ?_
  refine w_iand dJI_bitCount_51 (fun z29_ h31_ => ?_)
  have h30_ : 0 ≤ z29_.toInt ∧ z29_.toInt < ((2 ^ 6 : Nat) : Int) := by rw [h31_]; exact andI _ 6 (by decide) (by decide)
  exact w_iret rfl dJI_bitCount_52 ⟨rfl, trivial, ⟨z1_, h2_, z3_, h4_, z5_, h6_, z7_, h8_, z9_, h10_, z11_, h12_, z13_, h14_, z15_, h16_, z17_, h18_, z19_, h20_, z21_, h22_, z23_, h24_, z25_, h26_, z27_, h28_, z29_, h31_, h30_, rfl⟩⟩
def SP_JL_bitCount (v : Int64) (Mz : mM) (r_ : Int32) : Prop := ∃ w1_ : Int64, (w1_ = (v.toUInt64 >>> ((1 : Int32).toInt64.toUInt64 &&& Int64.toUInt64 63)).toInt64) ∧ ∃ w3_ : Int64, (w3_ = w1_ &&& (6148914691236517205 : Int64)) ∧ ∃ w5_ : Int64, (w5_ = v - w3_) ∧ ∃ w7_ : Int64, (w7_ = w5_ &&& (3689348814741910323 : Int64)) ∧ ∃ w9_ : Int64, (w9_ = (w5_.toUInt64 >>> ((2 : Int32).toInt64.toUInt64 &&& Int64.toUInt64 63)).toInt64) ∧ ∃ w11_ : Int64, (w11_ = w9_ &&& (3689348814741910323 : Int64)) ∧ ∃ w13_ : Int64, (w13_ = w7_ + w11_) ∧ ∃ w15_ : Int64, (w15_ = (w13_.toUInt64 >>> ((4 : Int32).toInt64.toUInt64 &&& Int64.toUInt64 63)).toInt64) ∧ ∃ w17_ : Int64, (w17_ = w13_ + w15_) ∧ ∃ w19_ : Int64, (w19_ = w17_ &&& (1085102592571150095 : Int64)) ∧ ∃ w21_ : Int64, (w21_ = (w19_.toUInt64 >>> ((8 : Int32).toInt64.toUInt64 &&& Int64.toUInt64 63)).toInt64) ∧ ∃ w23_ : Int64, (w23_ = w19_ + w21_) ∧ ∃ w25_ : Int64, (w25_ = (w23_.toUInt64 >>> ((16 : Int32).toInt64.toUInt64 &&& Int64.toUInt64 63)).toInt64) ∧ ∃ w27_ : Int64, (w27_ = w23_ + w25_) ∧ ∃ w29_ : Int64, (w29_ = (w27_.toUInt64 >>> ((32 : Int32).toInt64.toUInt64 &&& Int64.toUInt64 63)).toInt64) ∧ ∃ w31_ : Int64, (w31_ = w27_ + w29_) ∧ ∃ z33_ : Int32, (z33_ = w31_.toInt32) ∧ ∃ z35_ : Int32, (z35_ = z33_ &&& (127 : Int32)) ∧ (0 ≤ z35_.toInt ∧ z35_.toInt < ((2 ^ 7 : Nat) : Int)) ∧ r_ = z35_
set_option maxHeartbeats 4000000 in
set_option maxRecDepth 100000 in
theorem c_JL_bitCount (l : Launch) (G : va_G) (cy : Nat → ClassId) (ad : rf → Nat) (d : Nat) (v : Int64) (Mz : mM) (hIz : Inv Mz) : WP CC l G cy ad yJL_bitCount cJL_bitCount 2 (some .int) d 0 [(0, vL v)] [] Mz (fun r M' => Mz = M' ∧ (True) ∧ SP_JL_bitCount v Mz r) := by
  refine w_lload_n dJL_bitCount_0 rfl 0 rfl ?_
  refine w_lload_n dJL_bitCount_1 rfl 0 rfl ?_
  refine w_iconst (v := 1) dJL_bitCount_2 (by decide) ?_
  refine w_lushr dJL_bitCount_3 (fun w1_ h2_ => ?_)
  refine w_ldc2 (v := 6148914691236517205) m_1018 dJL_bitCount_4 ?_
  refine w_land dJL_bitCount_7 (fun w3_ h4_ => ?_)
  refine w_lsub dJL_bitCount_8 (fun w5_ h6_ => ?_)
  refine w_lstore_n (ls' := [(0, vL w5_)]) dJL_bitCount_9 rfl (by decide) rfl ?_
  refine w_lload_n dJL_bitCount_10 rfl 0 rfl ?_
  refine w_ldc2 (v := 3689348814741910323) m_1019 dJL_bitCount_11 ?_
  refine w_land dJL_bitCount_14 (fun w7_ h8_ => ?_)
  refine w_lload_n dJL_bitCount_15 rfl 0 rfl ?_
  refine w_iconst (v := 2) dJL_bitCount_16 (by decide) ?_
  refine w_lushr dJL_bitCount_17 (fun w9_ h10_ => ?_)
  refine w_ldc2 (v := 3689348814741910323) m_1019 dJL_bitCount_18 ?_
  refine w_land dJL_bitCount_21 (fun w11_ h12_ => ?_)
  refine w_ladd dJL_bitCount_22 (fun w13_ h14_ => ?_)
  refine w_lstore_n (ls' := [(0, vL w13_)]) dJL_bitCount_23 rfl (by decide) rfl ?_
  refine w_lload_n dJL_bitCount_24 rfl 0 rfl ?_
  refine w_lload_n dJL_bitCount_25 rfl 0 rfl ?_
  refine w_iconst (v := 4) dJL_bitCount_26 (by decide) ?_
  refine w_lushr dJL_bitCount_27 (fun w15_ h16_ => ?_)
  refine w_ladd dJL_bitCount_28 (fun w17_ h18_ => ?_)
  refine w_ldc2 (v := 1085102592571150095) m_1020 dJL_bitCount_29 ?_
  refine w_land dJL_bitCount_32 (fun w19_ h20_ => ?_)
  refine w_lstore_n (ls' := [(0, vL w19_)]) dJL_bitCount_33 rfl (by decide) rfl ?_
  refine w_lload_n dJL_bitCount_34 rfl 0 rfl ?_
  refine w_lload_n dJL_bitCount_35 rfl 0 rfl ?_
  refine w_bipush (v := 8) dJL_bitCount_36 (by decide) ?_
  refine w_lushr dJL_bitCount_38 (fun w21_ h22_ => ?_)
  refine w_ladd dJL_bitCount_39 (fun w23_ h24_ => ?_)
  refine w_lstore_n (ls' := [(0, vL w23_)]) dJL_bitCount_40 rfl (by decide) rfl ?_
  refine w_lload_n dJL_bitCount_41 rfl 0 rfl ?_
  refine w_lload_n dJL_bitCount_42 rfl 0 rfl ?_
  refine w_bipush (v := 16) dJL_bitCount_43 (by decide) ?_
  refine w_lushr dJL_bitCount_45 (fun w25_ h26_ => ?_)
  refine w_ladd dJL_bitCount_46 (fun w27_ h28_ => ?_)
  refine w_lstore_n (ls' := [(0, vL w27_)]) dJL_bitCount_47 rfl (by decide) rfl ?_
  refine w_lload_n dJL_bitCount_48 rfl 0 rfl ?_
  refine w_lload_n dJL_bitCount_49 rfl 0 rfl ?_
  refine w_bipush (v := 32) dJL_bitCount_50 (by decide) ?_
  refine w_lushr dJL_bitCount_52 (fun w29_ h30_ => ?_)
  refine w_ladd dJL_bitCount_53 (fun w31_ h32_ => ?_)
  refine w_lstore_n (ls' := [(0, vL w31_)]) dJL_bitCount_54 rfl (by decide) rfl ?_
  refine w_lload_n dJL_bitCount_55 rfl 0 rfl ?_
  refine w_l2i dJL_bitCount_56 (fun z33_ h34_ => ?_)
  refine w_bipush (v := 127) dJL_bitCount_57 (by decide) ?_
  refine w_iand dJL_bitCount_59 (fun z35_ h37_ => ?_)
  have h36_ : 0 ≤ z35_.toInt ∧ z35_.toInt < ((2 ^ 7 : Nat) : Int) := by rw [h37_]; exact andI _ 7 (by decide) (by decide)
  exact w_iret rfl dJL_bitCount_60 ⟨rfl, trivial, ⟨w1_, h2_, w3_, h4_, w5_, h6_, w7_, h8_, w9_, h10_, w11_, h12_, w13_, h14_, w15_, h16_, w17_, h18_, w19_, h20_, w21_, h22_, w23_, h24_, w25_, h26_, w27_, h28_, w29_, h30_, w31_, h32_, z33_, h34_, z35_, h37_, h36_, rfl⟩⟩
def SP_X2_isClick (v : Int32) (u : Int32) (Mz : mM) (r_ : Int32) : Prop := (((SP_X11_within v 1 9 Mz (1 : Int32)) ∧ (1 ≤ v.toInt ∧ v.toInt ≤ 9) ∧ (((SP_X11_within u 1 99 Mz (1 : Int32)) ∧ (1 ≤ u.toInt ∧ u.toInt ≤ 99) ∧ r_ = 1) ∨ ((SP_X11_within u 1 99 Mz (0 : Int32)) ∧ (¬ (1 ≤ u.toInt ∧ u.toInt ≤ 99)) ∧ r_ = 0))) ∨ ((SP_X11_within v 1 9 Mz (0 : Int32)) ∧ (¬ (1 ≤ v.toInt ∧ v.toInt ≤ 9)) ∧ r_ = 0))
set_option maxHeartbeats 4000000 in
set_option maxRecDepth 100000 in
theorem c_X2_isClick (l : Launch) (G : va_G) (cy : Nat → ClassId) (ad : rf → Nat) (d : Nat) (v : Int32) (u : Int32) (Mz : mM) (hIz : Inv Mz) : WP CC l G cy ad yX2_isClick cX2_isClick 2 (some .boolean) (d + 1) 0 [(0, vI v), (1, vI u)] [] Mz (fun r M' => Mz = M' ∧ ((0 ≤ r.toInt ∧ r.toInt ≤ 1)) ∧ SP_X2_isClick v u Mz r) := by
  refine w_iload_n dX2_isClick_0 rfl 0 rfl ?_
  refine w_iconst (v := 1) dX2_isClick_1 (by decide) ?_
  refine w_bipush (v := 9) dX2_isClick_2 (by decide) ?_
  refine w_callSN (as := [vI v, vI 1, vI 9]) (rest := []) (c_X11_within l G cy ad d v 1 9 Mz hIz) kS_X11_within (by decide +kernel) (Nat.le_of_ble_eq_true rfl) (List.mem_of_getElem? (l := NMs) (i := 8) rfl) rfl rfl (by decide) (Nat.le_of_ble_eq_true rfl) dX2_isClick_4 (fun r1_ M2_ q3_ => ?_)
  obtain ⟨rfl, h4_, hs5_⟩ := q3_
  rcases h4_ with ⟨rfl, h4_⟩ | ⟨rfl, h4_⟩
  · simp only [li_1, li_9] at h4_
    refine w_if_eq (tgt := 24) dX2_isClick_7 (by decide) li_1 (fun h9 => (absurd h9 (by decide))) (fun h6_ => ?_)
    refine w_iload_n dX2_isClick_10 rfl 1 rfl ?_
    refine w_iconst (v := 1) dX2_isClick_11 (by decide) ?_
    refine w_bipush (v := 99) dX2_isClick_12 (by decide) ?_
    refine w_callSN (as := [vI u, vI 1, vI 99]) (rest := []) (c_X11_within l G cy ad d u 1 99 Mz hIz) kS_X11_within (by decide +kernel) (Nat.le_of_ble_eq_true rfl) (List.mem_of_getElem? (l := NMs) (i := 8) rfl) rfl rfl (by decide) (Nat.le_of_ble_eq_true rfl) dX2_isClick_14 (fun r7_ M8_ q9_ => ?_)
    obtain ⟨rfl, h10_, hs11_⟩ := q9_
    rcases h10_ with ⟨rfl, h10_⟩ | ⟨rfl, h10_⟩
    · simp only [li_1, li_99] at h10_
      refine w_if_eq (tgt := 24) dX2_isClick_17 (by decide) li_1 (fun h9 => (absurd h9 (by decide))) (fun h12_ => ?_)
      refine w_iconst (v := 1) dX2_isClick_20 (by decide) ?_
      refine w_goto (tgt := 25) dX2_isClick_21 (by decide) ?_
      exact w_zret rfl dX2_isClick_25 ⟨by decide, by decide⟩ ⟨rfl, ⟨by decide, by decide⟩, (Or.inl ⟨hs5_, h4_, (Or.inl ⟨hs11_, h10_, rfl⟩)⟩)⟩
    · simp only [li_1, li_99] at h10_
      refine w_if_eq (tgt := 24) dX2_isClick_17 (by decide) li_0 (fun h13_ => ?_) (fun h9 => (absurd h9 (by decide)))
      refine w_iconst (v := 0) dX2_isClick_24 (by decide) ?_
      exact w_zret rfl dX2_isClick_25 ⟨by decide, by decide⟩ ⟨rfl, ⟨by decide, by decide⟩, (Or.inl ⟨hs5_, h4_, (Or.inr ⟨hs11_, h10_, rfl⟩)⟩)⟩
  · simp only [li_1, li_9] at h4_
    refine w_if_eq (tgt := 24) dX2_isClick_7 (by decide) li_0 (fun h14_ => ?_) (fun h9 => (absurd h9 (by decide)))
    refine w_iconst (v := 0) dX2_isClick_24 (by decide) ?_
    exact w_zret rfl dX2_isClick_25 ⟨by decide, by decide⟩ ⟨rfl, ⟨by decide, by decide⟩, (Or.inr ⟨hs5_, h4_, rfl⟩)⟩
def SP_X2_isClick_ (v : Int32) (Mz : mM) (r_ : Int32) : Prop := (((v.toInt ≤ 0) ∧ r_ = 0) ∨ ((0 < v.toInt) ∧ ∃ z2_ : Int32, (z2_.toInt = v.toInt / 100) ∧ ∃ z4_ : Int32, (z4_.toInt = v.toInt % 100) ∧ ∃ r6_ : Int32, (SP_X2_isClick z2_ z4_ Mz r6_) ∧ ((0 ≤ r6_.toInt ∧ r6_.toInt ≤ 1)) ∧ (((r6_.toInt = 0) ∧ r_ = 0) ∨ ((¬ r6_.toInt = 0) ∧ r_ = 1))))
theorem lf_c_X2_isClick__0  (v : Int32) (h1_ : 0 < v.toInt) : 0 ≤ v.toInt := by have r_v := rngI v; omega
theorem lf_c_X2_isClick__1  (v : Int32) (z2_ : Int32) (h1_ : 0 < v.toInt) (h3_ : z2_.toInt = v.toInt / 100) : 0 ≤ v.toInt := by have r_v := rngI v; have r_z2_ := rngI z2_; omega
set_option maxHeartbeats 4000000 in
set_option maxRecDepth 100000 in
theorem c_X2_isClick_ (l : Launch) (G : va_G) (cy : Nat → ClassId) (ad : rf → Nat) (d : Nat) (v : Int32) (Mz : mM) (hIz : Inv Mz) : WP CC l G cy ad yX2_isClick_ cX2_isClick_ 1 (some .boolean) (d + 2) 0 [(0, vI v)] [] Mz (fun r M' => Mz = M' ∧ ((0 ≤ r.toInt ∧ r.toInt ≤ 1)) ∧ SP_X2_isClick_ v Mz r) := by
  refine w_iload_n dX2_isClick__0 rfl 0 rfl ?_
  refine w_if_le (tgt := 22) dX2_isClick__1 (by decide) (rfl : v.toInt = v.toInt) (fun h1_ => ?_) (fun h1_ => ?_)
  · refine w_iconst (v := 0) dX2_isClick__22 (by decide) ?_
    exact w_zret rfl dX2_isClick__23 ⟨by decide, by decide⟩ ⟨rfl, ⟨by decide, by decide⟩, (Or.inl ⟨h1_, rfl⟩)⟩
  · refine w_iload_n dX2_isClick__4 rfl 0 rfl ?_
    refine w_bipush (v := 100) dX2_isClick__5 (by decide) ?_
    refine w_idivB dX2_isClick__7 (by decide) (rfl : v.toInt = v.toInt) li_100 (lf_c_X2_isClick__0 v h1_) (by decide) (fun z2_ h3_ => ?_)
    refine w_iload_n dX2_isClick__8 rfl 0 rfl ?_
    refine w_bipush (v := 100) dX2_isClick__9 (by decide) ?_
    refine w_iremB dX2_isClick__11 (by decide) (rfl : v.toInt = v.toInt) li_100 (lf_c_X2_isClick__1 v z2_ h1_ h3_) (by decide) (fun z4_ h5_ => ?_)
    refine w_callS (as := [vI z2_, vI z4_]) (rest := []) (c_X2_isClick l G cy ad d z2_ z4_ Mz hIz) kS_X2_isClick (by decide +kernel) (Nat.le_of_ble_eq_true rfl) m_842 rfl rfl (by decide) (Nat.le_of_ble_eq_true rfl) dX2_isClick__12 (fun r6_ M7_ q8_ => ?_)
    obtain ⟨rfl, h9_, hs10_⟩ := q8_
    refine w_if_eq (tgt := 22) dX2_isClick__15 (by decide) (rfl : r6_.toInt = r6_.toInt) (fun h11_ => ?_) (fun h11_ => ?_)
    · refine w_iconst (v := 0) dX2_isClick__22 (by decide) ?_
      exact w_zret rfl dX2_isClick__23 ⟨by decide, by decide⟩ ⟨rfl, ⟨by decide, by decide⟩, (Or.inr ⟨h1_, z2_, h3_, z4_, h5_, r6_, hs10_, h9_, (Or.inl ⟨h11_, rfl⟩)⟩)⟩
    · refine w_iconst (v := 1) dX2_isClick__18 (by decide) ?_
      refine w_goto (tgt := 23) dX2_isClick__19 (by decide) ?_
      exact w_zret rfl dX2_isClick__23 ⟨by decide, by decide⟩ ⟨rfl, ⟨by decide, by decide⟩, (Or.inr ⟨h1_, z2_, h3_, z4_, h5_, r6_, hs10_, h9_, (Or.inr ⟨h11_, rfl⟩)⟩)⟩
def SP_X2_late (v : Int32) (u : Int32) (Mz : mM) (r_ : Int32) : Prop := ∃ z1_ : Int32, (z1_ = v &&& (1 : Int32)) ∧ (0 ≤ z1_.toInt ∧ z1_.toInt < ((2 ^ 1 : Nat) : Int)) ∧ (((¬ z1_.toInt = 1) ∧ ∃ z5_ : Int32, (z5_ = u * (6 : Int32)) ∧ r_ = z5_) ∨ ((z1_.toInt = 1) ∧ ∃ z7_ : Int32, (z7_ = u * (8 : Int32)) ∧ r_ = z7_))
set_option maxHeartbeats 4000000 in
set_option maxRecDepth 100000 in
theorem c_X2_late (l : Launch) (G : va_G) (cy : Nat → ClassId) (ad : rf → Nat) (d : Nat) (v : Int32) (u : Int32) (Mz : mM) (hIz : Inv Mz) : WP CC l G cy ad yX2_late cX2_late 2 (some .int) d 0 [(0, vI v), (1, vI u)] [] Mz (fun r M' => Mz = M' ∧ (True) ∧ SP_X2_late v u Mz r) := by
  refine w_iload_n dX2_late_0 rfl 1 rfl ?_
  refine w_iload_n dX2_late_1 rfl 0 rfl ?_
  refine w_iconst (v := 1) dX2_late_2 (by decide) ?_
  refine w_iand dX2_late_3 (fun z1_ h3_ => ?_)
  have h2_ : 0 ≤ z1_.toInt ∧ z1_.toInt < ((2 ^ 1 : Nat) : Int) := by rw [h3_]; exact andI _ 1 (by decide) (by decide)
  refine w_iconst (v := 1) dX2_late_4 (by decide) ?_
  refine w_icmp_ne (tgt := 13) dX2_late_5 (by decide) (rfl : z1_.toInt = z1_.toInt) li_1 (fun h4_ => ?_) (fun h4_ => ?_)
  · refine w_bipush (v := 6) dX2_late_13 (by decide) ?_
    refine w_imul dX2_late_15 (fun z5_ h6_ => ?_)
    exact w_iret rfl dX2_late_16 ⟨rfl, trivial, ⟨z1_, h3_, h2_, (Or.inl ⟨h4_, z5_, h6_, rfl⟩)⟩⟩
  · refine w_bipush (v := 8) dX2_late_8 (by decide) ?_
    refine w_goto (tgt := 15) dX2_late_10 (by decide) ?_
    refine w_imul dX2_late_15 (fun z7_ h8_ => ?_)
    exact w_iret rfl dX2_late_16 ⟨rfl, trivial, ⟨z1_, h3_, h2_, (Or.inr ⟨h4_, z7_, h8_, rfl⟩)⟩⟩
def S_c_X2_changeKind (b : Nat) : rf → Nat → Prop := fun c k => (c.1 = 27 ∧ c.2.1 = b) ∨ (c.1 = 26 ∧ c.2.1 = b) ∨ False
def SP_X2_changeKind (b : Nat) (v : Int32) (u : Int32) (t : Int32) (Mz : mM) (r_ : Int32) (M_ : mM) : Prop := (((¬ u.toInt = 0) ∧ (((v.toInt < 0) ∧ r_ = 0 ∧ M_ = Mz) ∨ ((0 ≤ v.toInt) ∧ (((v.toInt < 5) ∧ ∃ j6_ : Nat, ((j6_ : Int) = v.toInt) ∧ ∃ z4_ : Int32, (z4_ = Mz.1 (27, b, 0) j6_) ∧ ∃ j10_ : Nat, ((j10_ : Int) = v.toInt) ∧ ∃ M8_ : mM, (M8_ = up Mz (27, b, 0) j10_ t) ∧ r_ = z4_ ∧ M_ = M8_) ∨ ((5 ≤ v.toInt) ∧ r_ = 0 ∧ M_ = Mz))))) ∨ ((u.toInt = 0) ∧ (((v.toInt < 0) ∧ r_ = 0 ∧ M_ = Mz) ∨ ((0 ≤ v.toInt) ∧ (((v.toInt < 5) ∧ ∃ j18_ : Nat, ((j18_ : Int) = v.toInt) ∧ ∃ z16_ : Int32, (z16_ = Mz.1 (26, b, 0) j18_) ∧ ∃ j22_ : Nat, ((j22_ : Int) = v.toInt) ∧ ∃ M20_ : mM, (M20_ = up Mz (26, b, 0) j22_ t) ∧ r_ = z16_ ∧ M_ = M20_) ∨ ((5 ≤ v.toInt) ∧ r_ = 0 ∧ M_ = Mz))))))
theorem lf_c_X2_changeKind_0  (v : Int32) (h2_ : 0 ≤ v.toInt) (h3_ : v.toInt < 5) : 0 ≤ v.toInt ∧ v.toInt < ((5 : Nat) : Int) := by have r_v := rngI v; omega
theorem lf_c_X2_changeKind_1 (Mz : mM) (b : Nat) (v : Int32) (j6_ : Nat) (z4_ : Int32) (hb : b < 3) (h2_ : 0 ≤ v.toInt) (h3_ : v.toInt < 5) (h7_ : (j6_ : Int) = v.toInt) (e5_ : z4_ = Mz.1 (27, b, 0) j6_) : 0 ≤ v.toInt ∧ v.toInt < ((5 : Nat) : Int) := by have r_v := rngI v; have r_z4_ := rngI z4_; subst e5_; omega
theorem lf_c_X2_changeKind_2  (v : Int32) (h14_ : 0 ≤ v.toInt) (h15_ : v.toInt < 5) : 0 ≤ v.toInt ∧ v.toInt < ((5 : Nat) : Int) := by have r_v := rngI v; omega
theorem lf_c_X2_changeKind_3 (Mz : mM) (b : Nat) (v : Int32) (j18_ : Nat) (z16_ : Int32) (hb : b < 3) (h14_ : 0 ≤ v.toInt) (h15_ : v.toInt < 5) (h19_ : (j18_ : Int) = v.toInt) (e17_ : z16_ = Mz.1 (26, b, 0) j18_) : 0 ≤ v.toInt ∧ v.toInt < ((5 : Nat) : Int) := by have r_v := rngI v; have r_z16_ := rngI z16_; subst e17_; omega
set_option maxHeartbeats 4000000 in
set_option maxRecDepth 100000 in
theorem c_X2_changeKind (l : Launch) (G : va_G) (cy : Nat → ClassId) (ad : rf → Nat) (d : Nat) (b : Nat) (v : Int32) (u : Int32) (t : Int32) (Mz : mM) (hIz : Inv Mz) (hb : b < 3) : WP CC l G cy ad yX2_changeKind cX2_changeKind 6 (some .int) d 0 [(0, vR (2, b, 0)), (1, vI v), (2, vI u), (3, vI t)] [] Mz (fun r M' => Inv M' ∧ FR (S_c_X2_changeKind b) Mz M' ∧ (True) ∧ SP_X2_changeKind b v u t Mz r M') := by
  have hFz : FR (S_c_X2_changeKind b) Mz Mz := FR.self
  refine w_iload_n dX2_changeKind_0 rfl 2 rfl ?_
  refine w_if_ne (tgt := 11) dX2_changeKind_1 (by decide) (rfl : u.toInt = u.toInt) (fun h1_ => ?_) (fun h1_ => ?_)
  · refine w_aload_n dX2_changeKind_11 rfl 0 rfl ?_
    refine w_getR (c' := (27, b, 0)) fl_RX2_25 rfl rfl (ic_2 hb) dX2_changeKind_12 rfl ?_
    refine w_astore (ls' := [(4, vR (27, b, 0)), (0, vR (2, b, 0)), (1, vI v), (2, vI u), (3, vI t)]) dX2_changeKind_15 (by decide) rfl ?_
    refine w_iload_n dX2_changeKind_17 rfl 2 rfl ?_
    refine w_if_lt (tgt := 28) dX2_changeKind_18 (by decide) (rfl : v.toInt = v.toInt) (fun h2_ => ?_) (fun h2_ => ?_)
    · refine w_iconst (v := 0) dX2_changeKind_28 (by decide) ?_
      exact w_iret rfl dX2_changeKind_29 ⟨hIz, hFz, trivial, (Or.inl ⟨h1_, (Or.inl ⟨h2_, rfl, rfl⟩)⟩)⟩
    · refine w_iload_n dX2_changeKind_21 rfl 2 rfl ?_
      refine w_aload dX2_changeKind_22 0 rfl ?_
      refine w_alen (v := 5) (by decide) rfl rfl (ic_27 hb) dX2_changeKind_24 rfl ?_
      refine w_icmp_lt (tgt := 30) dX2_changeKind_25 (by decide) (rfl : v.toInt = v.toInt) li_5 (fun h3_ => ?_) (fun h3_ => ?_)
      · refine w_aload dX2_changeKind_30 0 rfl ?_
        refine w_iload_n dX2_changeKind_32 rfl 2 rfl ?_
        refine w_iald rfl rfl (ic_27 hb) (rfl : v.toInt = v.toInt) (lf_c_X2_changeKind_0 v h2_ h3_) dX2_changeKind_33 (fun j6_ h7_ z4_ e5_ => ?_)
        refine w_istore (ls' := [(5, vI z4_), (4, vR (27, b, 0)), (0, vR (2, b, 0)), (1, vI v), (2, vI u), (3, vI t)]) dX2_changeKind_34 (by decide) rfl ?_
        refine w_aload dX2_changeKind_36 1 rfl ?_
        refine w_iload_n dX2_changeKind_38 rfl 3 rfl ?_
        refine w_iload_n dX2_changeKind_39 rfl 5 rfl ?_
        refine w_iast CC_nd rfl rfl (ic_27 hb) (rfl : v.toInt = v.toInt) (lf_c_X2_changeKind_1 Mz b v j6_ z4_ hb h2_ h3_ h7_ e5_) dX2_changeKind_40 (fun j10_ h11_ M8_ hM9_ => ?_)
        have hI12_ := hIz.put hM9_ trivial
        have hF13_ := hFz.put hM9_ (Or.inl ⟨rfl, rfl⟩)
        refine w_iload dX2_changeKind_41 0 rfl ?_
        exact w_iret rfl dX2_changeKind_43 ⟨hI12_, hF13_, trivial, (Or.inl ⟨h1_, (Or.inr ⟨h2_, (Or.inl ⟨h3_, j6_, h7_, z4_, e5_, j10_, h11_, M8_, hM9_, rfl, rfl⟩)⟩)⟩)⟩
      · refine w_iconst (v := 0) dX2_changeKind_28 (by decide) ?_
        exact w_iret rfl dX2_changeKind_29 ⟨hIz, hFz, trivial, (Or.inl ⟨h1_, (Or.inr ⟨h2_, (Or.inr ⟨h3_, rfl, rfl⟩)⟩)⟩)⟩
  · refine w_aload_n dX2_changeKind_4 rfl 0 rfl ?_
    refine w_getR (c' := (26, b, 0)) fl_RX2_21 rfl rfl (ic_2 hb) dX2_changeKind_5 rfl ?_
    refine w_goto (tgt := 15) dX2_changeKind_8 (by decide) ?_
    refine w_astore (ls' := [(4, vR (26, b, 0)), (0, vR (2, b, 0)), (1, vI v), (2, vI u), (3, vI t)]) dX2_changeKind_15 (by decide) rfl ?_
    refine w_iload_n dX2_changeKind_17 rfl 2 rfl ?_
    refine w_if_lt (tgt := 28) dX2_changeKind_18 (by decide) (rfl : v.toInt = v.toInt) (fun h14_ => ?_) (fun h14_ => ?_)
    · refine w_iconst (v := 0) dX2_changeKind_28 (by decide) ?_
      exact w_iret rfl dX2_changeKind_29 ⟨hIz, hFz, trivial, (Or.inr ⟨h1_, (Or.inl ⟨h14_, rfl, rfl⟩)⟩)⟩
    · refine w_iload_n dX2_changeKind_21 rfl 2 rfl ?_
      refine w_aload dX2_changeKind_22 0 rfl ?_
      refine w_alen (v := 5) (by decide) rfl rfl (ic_26 hb) dX2_changeKind_24 rfl ?_
      refine w_icmp_lt (tgt := 30) dX2_changeKind_25 (by decide) (rfl : v.toInt = v.toInt) li_5 (fun h15_ => ?_) (fun h15_ => ?_)
      · refine w_aload dX2_changeKind_30 0 rfl ?_
        refine w_iload_n dX2_changeKind_32 rfl 2 rfl ?_
        refine w_iald rfl rfl (ic_26 hb) (rfl : v.toInt = v.toInt) (lf_c_X2_changeKind_2 v h14_ h15_) dX2_changeKind_33 (fun j18_ h19_ z16_ e17_ => ?_)
        refine w_istore (ls' := [(5, vI z16_), (4, vR (26, b, 0)), (0, vR (2, b, 0)), (1, vI v), (2, vI u), (3, vI t)]) dX2_changeKind_34 (by decide) rfl ?_
        refine w_aload dX2_changeKind_36 1 rfl ?_
        refine w_iload_n dX2_changeKind_38 rfl 3 rfl ?_
        refine w_iload_n dX2_changeKind_39 rfl 5 rfl ?_
        refine w_iast CC_nd rfl rfl (ic_26 hb) (rfl : v.toInt = v.toInt) (lf_c_X2_changeKind_3 Mz b v j18_ z16_ hb h14_ h15_ h19_ e17_) dX2_changeKind_40 (fun j22_ h23_ M20_ hM21_ => ?_)
        have hI24_ := hIz.put hM21_ trivial
        have hF25_ := hFz.put hM21_ (Or.inr (Or.inl ⟨rfl, rfl⟩))
        refine w_iload dX2_changeKind_41 0 rfl ?_
        exact w_iret rfl dX2_changeKind_43 ⟨hI24_, hF25_, trivial, (Or.inr ⟨h1_, (Or.inr ⟨h14_, (Or.inl ⟨h15_, j18_, h19_, z16_, e17_, j22_, h23_, M20_, hM21_, rfl, rfl⟩)⟩)⟩)⟩
      · refine w_iconst (v := 0) dX2_changeKind_28 (by decide) ?_
        exact w_iret rfl dX2_changeKind_29 ⟨hIz, hFz, trivial, (Or.inr ⟨h1_, (Or.inr ⟨h14_, (Or.inr ⟨h15_, rfl, rfl⟩)⟩)⟩)⟩
def S_c_X2_changeAir (b : Nat) : rf → Nat → Prop := fun c k => (c.1 = 2 ∧ c.2.1 = b ∧ k = 2) ∨ (c.1 = 2 ∧ c.2.1 = b ∧ k = 1) ∨ (c.1 = 2 ∧ c.2.1 = b ∧ k = 0) ∨ False
def SP_X2_changeAir (b : Nat) (v : Int32) (u : Int32) (Mz : mM) (r_ : Int32) (M_ : mM) : Prop := (((¬ v.toInt = 0) ∧ (((¬ v.toInt = 1) ∧ ∃ z3_ : Int32, (z3_ = Mz.1 (2, b, 0) 2) ∧ (((¬ v.toInt = 0) ∧ (((¬ v.toInt = 1) ∧ ∃ M7_ : mM, (M7_ = up Mz (2, b, 0) 2 u) ∧ r_ = z3_ ∧ M_ = M7_) ∨ ((v.toInt = 1) ∧ ∃ M11_ : mM, (M11_ = up Mz (2, b, 0) 1 u) ∧ r_ = z3_ ∧ M_ = M11_))) ∨ ((v.toInt = 0) ∧ ∃ M15_ : mM, (M15_ = up Mz (2, b, 0) 0 u) ∧ r_ = z3_ ∧ M_ = M15_))) ∨ ((v.toInt = 1) ∧ ∃ z19_ : Int32, (z19_ = Mz.1 (2, b, 0) 1) ∧ (¬ v.toInt = 0) ∧ (v.toInt = 1) ∧ ∃ M23_ : mM, (M23_ = up Mz (2, b, 0) 1 u) ∧ r_ = z19_ ∧ M_ = M23_))) ∨ ((v.toInt = 0) ∧ ∃ z27_ : Int32, (z27_ = Mz.1 (2, b, 0) 0) ∧ (v.toInt = 0) ∧ ∃ M30_ : mM, (M30_ = up Mz (2, b, 0) 0 u) ∧ r_ = z27_ ∧ M_ = M30_))
theorem lf_c_X2_changeAir_0  (v : Int32) (h1_ : ¬ v.toInt = 0) (h2_ : v.toInt = 1) (h9 : v.toInt = 0) : False := by have r_v := rngI v; omega
theorem lf_c_X2_changeAir_1  (v : Int32) (h1_ : ¬ v.toInt = 0) (h2_ : v.toInt = 1) (h21_ : ¬ v.toInt = 0) (h9 : ¬ v.toInt = 1) : False := by have r_v := rngI v; omega
theorem lf_c_X2_changeAir_2  (v : Int32) (h1_ : v.toInt = 0) (h9 : ¬ v.toInt = 0) : False := by have r_v := rngI v; omega
set_option maxHeartbeats 4000000 in
set_option maxRecDepth 100000 in
theorem c_X2_changeAir (l : Launch) (G : va_G) (cy : Nat → ClassId) (ad : rf → Nat) (d : Nat) (b : Nat) (v : Int32) (u : Int32) (Mz : mM) (hIz : Inv Mz) (hb : b < 3) : WP CC l G cy ad yX2_changeAir cX2_changeAir 4 (some .int) d 0 [(0, vR (2, b, 0)), (1, vI v), (2, vI u)] [] Mz (fun r M' => Inv M' ∧ FR (S_c_X2_changeAir b) Mz M' ∧ (True) ∧ SP_X2_changeAir b v u Mz r M') := by
  have hFz : FR (S_c_X2_changeAir b) Mz Mz := FR.self
  refine w_iload_n dX2_changeAir_0 rfl 1 rfl ?_
  refine w_if_ne (tgt := 11) dX2_changeAir_1 (by decide) (rfl : v.toInt = v.toInt) (fun h1_ => ?_) (fun h1_ => ?_)
  · refine w_iload_n dX2_changeAir_11 rfl 1 rfl ?_
    refine w_iconst (v := 1) dX2_changeAir_12 (by decide) ?_
    refine w_icmp_ne (tgt := 23) dX2_changeAir_13 (by decide) (rfl : v.toInt = v.toInt) li_1 (fun h2_ => ?_) (fun h2_ => ?_)
    · refine w_aload_n dX2_changeAir_23 rfl 0 rfl ?_
      refine w_getI fl_RX2_16 rfl rfl (ic_2 hb) dX2_changeAir_24 (fun z3_ e4_ => ?_)
      refine w_istore_n (ls' := [(3, vI z3_), (0, vR (2, b, 0)), (1, vI v), (2, vI u)]) dX2_changeAir_27 rfl (by decide) rfl ?_
      refine w_iload_n dX2_changeAir_28 rfl 2 rfl ?_
      refine w_if_ne (tgt := 40) dX2_changeAir_29 (by decide) (rfl : v.toInt = v.toInt) (fun h5_ => ?_) (fun h5_ => ?_)
      · refine w_iload_n dX2_changeAir_40 rfl 2 rfl ?_
        refine w_iconst (v := 1) dX2_changeAir_41 (by decide) ?_
        refine w_icmp_ne (tgt := 53) dX2_changeAir_42 (by decide) (rfl : v.toInt = v.toInt) li_1 (fun h6_ => ?_) (fun h6_ => ?_)
        · refine w_aload_n dX2_changeAir_53 rfl 1 rfl ?_
          refine w_iload_n dX2_changeAir_54 rfl 3 rfl ?_
          refine w_putI CC_nd fl_RX2_16 rfl rfl (ic_2 hb) dX2_changeAir_55 (fun M7_ hM8_ => ?_)
          have hI9_ := hIz.put hM8_ trivial
          have hF10_ := hFz.put hM8_ (Or.inl ⟨rfl, rfl, rfl⟩)
          refine w_iload_n dX2_changeAir_58 rfl 0 rfl ?_
          exact w_iret rfl dX2_changeAir_59 ⟨hI9_, hF10_, trivial, (Or.inl ⟨h1_, (Or.inl ⟨h2_, z3_, e4_, (Or.inl ⟨h5_, (Or.inl ⟨h6_, M7_, hM8_, rfl, rfl⟩)⟩)⟩)⟩)⟩
        · refine w_aload_n dX2_changeAir_45 rfl 1 rfl ?_
          refine w_iload_n dX2_changeAir_46 rfl 3 rfl ?_
          refine w_putI CC_nd fl_RX2_13 rfl rfl (ic_2 hb) dX2_changeAir_47 (fun M11_ hM12_ => ?_)
          have hI13_ := hIz.put hM12_ trivial
          have hF14_ := hFz.put hM12_ (Or.inr (Or.inl ⟨rfl, rfl, rfl⟩))
          refine w_goto (tgt := 58) dX2_changeAir_50 (by decide) ?_
          refine w_iload_n dX2_changeAir_58 rfl 0 rfl ?_
          exact w_iret rfl dX2_changeAir_59 ⟨hI13_, hF14_, trivial, (Or.inl ⟨h1_, (Or.inl ⟨h2_, z3_, e4_, (Or.inl ⟨h5_, (Or.inr ⟨h6_, M11_, hM12_, rfl, rfl⟩)⟩)⟩)⟩)⟩
      · refine w_aload_n dX2_changeAir_32 rfl 1 rfl ?_
        refine w_iload_n dX2_changeAir_33 rfl 3 rfl ?_
        refine w_putI CC_nd fl_RX2_7 rfl rfl (ic_2 hb) dX2_changeAir_34 (fun M15_ hM16_ => ?_)
        have hI17_ := hIz.put hM16_ trivial
        have hF18_ := hFz.put hM16_ (Or.inr (Or.inr (Or.inl ⟨rfl, rfl, rfl⟩)))
        refine w_goto (tgt := 58) dX2_changeAir_37 (by decide) ?_
        refine w_iload_n dX2_changeAir_58 rfl 0 rfl ?_
        exact w_iret rfl dX2_changeAir_59 ⟨hI17_, hF18_, trivial, (Or.inl ⟨h1_, (Or.inl ⟨h2_, z3_, e4_, (Or.inr ⟨h5_, M15_, hM16_, rfl, rfl⟩)⟩)⟩)⟩
    · refine w_aload_n dX2_changeAir_16 rfl 0 rfl ?_
      refine w_getI fl_RX2_13 rfl rfl (ic_2 hb) dX2_changeAir_17 (fun z19_ e20_ => ?_)
      refine w_goto (tgt := 27) dX2_changeAir_20 (by decide) ?_
      refine w_istore_n (ls' := [(3, vI z19_), (0, vR (2, b, 0)), (1, vI v), (2, vI u)]) dX2_changeAir_27 rfl (by decide) rfl ?_
      refine w_iload_n dX2_changeAir_28 rfl 2 rfl ?_
      refine w_if_ne (tgt := 40) dX2_changeAir_29 (by decide) (rfl : v.toInt = v.toInt) (fun h21_ => ?_) (fun h9 => (lf_c_X2_changeAir_0 v h1_ h2_ h9).elim)
      refine w_iload_n dX2_changeAir_40 rfl 2 rfl ?_
      refine w_iconst (v := 1) dX2_changeAir_41 (by decide) ?_
      refine w_icmp_ne (tgt := 53) dX2_changeAir_42 (by decide) (rfl : v.toInt = v.toInt) li_1 (fun h9 => (lf_c_X2_changeAir_1 v h1_ h2_ h21_ h9).elim) (fun h22_ => ?_)
      refine w_aload_n dX2_changeAir_45 rfl 1 rfl ?_
      refine w_iload_n dX2_changeAir_46 rfl 3 rfl ?_
      refine w_putI CC_nd fl_RX2_13 rfl rfl (ic_2 hb) dX2_changeAir_47 (fun M23_ hM24_ => ?_)
      have hI25_ := hIz.put hM24_ trivial
      have hF26_ := hFz.put hM24_ (Or.inr (Or.inl ⟨rfl, rfl, rfl⟩))
      refine w_goto (tgt := 58) dX2_changeAir_50 (by decide) ?_
      refine w_iload_n dX2_changeAir_58 rfl 0 rfl ?_
      exact w_iret rfl dX2_changeAir_59 ⟨hI25_, hF26_, trivial, (Or.inl ⟨h1_, (Or.inr ⟨h2_, z19_, e20_, h21_, h22_, M23_, hM24_, rfl, rfl⟩)⟩)⟩
  · refine w_aload_n dX2_changeAir_4 rfl 0 rfl ?_
    refine w_getI fl_RX2_7 rfl rfl (ic_2 hb) dX2_changeAir_5 (fun z27_ e28_ => ?_)
    refine w_goto (tgt := 27) dX2_changeAir_8 (by decide) ?_
    refine w_istore_n (ls' := [(3, vI z27_), (0, vR (2, b, 0)), (1, vI v), (2, vI u)]) dX2_changeAir_27 rfl (by decide) rfl ?_
    refine w_iload_n dX2_changeAir_28 rfl 2 rfl ?_
    refine w_if_ne (tgt := 40) dX2_changeAir_29 (by decide) (rfl : v.toInt = v.toInt) (fun h9 => (lf_c_X2_changeAir_2 v h1_ h9).elim) (fun h29_ => ?_)
    refine w_aload_n dX2_changeAir_32 rfl 1 rfl ?_
    refine w_iload_n dX2_changeAir_33 rfl 3 rfl ?_
    refine w_putI CC_nd fl_RX2_7 rfl rfl (ic_2 hb) dX2_changeAir_34 (fun M30_ hM31_ => ?_)
    have hI32_ := hIz.put hM31_ trivial
    have hF33_ := hFz.put hM31_ (Or.inr (Or.inr (Or.inl ⟨rfl, rfl, rfl⟩)))
    refine w_goto (tgt := 58) dX2_changeAir_37 (by decide) ?_
    refine w_iload_n dX2_changeAir_58 rfl 0 rfl ?_
    exact w_iret rfl dX2_changeAir_59 ⟨hI32_, hF33_, trivial, (Or.inr ⟨h1_, z27_, e28_, h29_, M30_, hM31_, rfl, rfl⟩)⟩
def S_c_X2_strength (b : Nat) : rf → Nat → Prop := fun c k => (c.1 = 29 ∧ c.2.1 = b ∧ k = 0) ∨ (c.1 = 29 ∧ c.2.1 = b ∧ k = 1) ∨ (c.1 = 29 ∧ c.2.1 = b ∧ k = 2) ∨ (c.1 = 29 ∧ c.2.1 = b ∧ k = 3) ∨ (c.1 = 25 ∧ c.2.1 = b ∧ c.2.2 = 0) ∨ False
def SP_X2_strength (b : Nat) (v : Int32) (u : Int32) (t : Int32) (Mz : mM) (r_ : Int32) (M_ : mM) : Prop := ∃ z1_ : Int32, (z1_ = u / (100 : Int32)) ∧ ∃ z3_ : Int32, (z3_ = u - u / (100 : Int32) * (100 : Int32)) ∧ (((v.toInt < 0) ∧ r_ = 0 ∧ M_ = Mz) ∨ ((0 ≤ v.toInt) ∧ (((5 ≤ v.toInt) ∧ r_ = 0 ∧ M_ = Mz) ∨ ((v.toInt < 5) ∧ ∃ j9_ : Nat, ((j9_ : Int) = v.toInt) ∧ ∃ z7_ : Int32, (z7_ = Mz.1 (27, b, 0) j9_) ∧ (((z7_.toInt ≤ z1_.toInt) ∧ ∃ j14_ : Nat, ((j14_ : Int) = v.toInt) ∧ ∃ z12_ : Int32, (z12_ = Mz.1 (26, b, 0) j14_) ∧ ∃ z16_ : Int32, (z16_ = z3_ * z12_) ∧ ∃ z18_ : Int32, (z18_ = z16_ / (50 : Int32)) ∧ ∃ z20_ : Int32, (z20_ = (2 : Int32) * t) ∧ ∃ z22_ : Int32, (z22_ = z18_ - z20_) ∧ ∃ r24_ : Int32, (SP_X1_isGiven b 0 Mz r24_) ∧ ((0 ≤ r24_.toInt ∧ r24_.toInt ≤ 1)) ∧ (((r24_.toInt = 0) ∧ ∃ z30_ : Int32, ((z30_.toInt = 999 ∧ 999 ≤ z22_.toInt) ∨ (z30_.toInt = z22_.toInt ∧ z22_.toInt ≤ 999)) ∧ ∃ z32_ : Int32, ((z32_.toInt = 0 ∧ z30_.toInt ≤ 0) ∨ (z32_.toInt = z30_.toInt ∧ 0 ≤ z30_.toInt)) ∧ ∃ z34_ : Int32, (z34_ = Mz.1 (2, b, 0) 2) ∧ (((¬ z34_.toInt = 1) ∧ r_ = z32_ ∧ M_ = Mz) ∨ ((z34_.toInt = 1) ∧ ∃ z37_ : Int32, (z37_.toInt = z32_.toInt / 2) ∧ r_ = z37_ ∧ M_ = Mz))) ∨ ((¬ r24_.toInt = 0) ∧ ∃ M39_ : mM, (M39_ = up Mz (29, b, 0) 0 z3_) ∧ ∃ j45_ : Nat, ((j45_ : Int) = v.toInt) ∧ ∃ z43_ : Int32, (z43_ = M39_.1 (26, b, 0) j45_) ∧ ∃ M47_ : mM, (M47_ = up M39_ (29, b, 0) 1 z43_) ∧ ∃ M51_ : mM, (M51_ = up M47_ (29, b, 0) 2 t) ∧ ∃ M55_ : mM, (M55_ = up M51_ (29, b, 0) 3 z1_) ∧ (Inv M55_) ∧ ∃ M60_ : mM, (Inv M60_) ∧ (FR (S_c_X1_work b 0 b) M55_ M60_) ∧ ∃ r59_ : Int32, (SP_X1_work b 0 b M55_ r59_ M60_) ∧ ∃ z67_ : Int32, ((z67_.toInt = 999 ∧ 999 ≤ r59_.toInt) ∨ (z67_.toInt = r59_.toInt ∧ r59_.toInt ≤ 999)) ∧ ∃ z69_ : Int32, ((z69_.toInt = 0 ∧ z67_.toInt ≤ 0) ∨ (z69_.toInt = z67_.toInt ∧ 0 ≤ z67_.toInt)) ∧ ∃ z71_ : Int32, (z71_ = M60_.1 (2, b, 0) 2) ∧ (((¬ z71_.toInt = 1) ∧ r_ = z69_ ∧ M_ = M60_) ∨ ((z71_.toInt = 1) ∧ ∃ z74_ : Int32, (z74_.toInt = z69_.toInt / 2) ∧ r_ = z74_ ∧ M_ = M60_))))) ∨ ((z1_.toInt < z7_.toInt) ∧ r_ = 0 ∧ M_ = Mz))))))
theorem lf_c_X2_strength_0  (v : Int32) (h5_ : 0 ≤ v.toInt) (h6_ : v.toInt < 5) : 0 ≤ v.toInt ∧ v.toInt < ((5 : Nat) : Int) := by have r_v := rngI v; omega
theorem lf_c_X2_strength_1 (Mz : mM) (b : Nat) (v : Int32) (z1_ : Int32) (j9_ : Nat) (z7_ : Int32) (hb : b < 3) (h5_ : 0 ≤ v.toInt) (h6_ : v.toInt < 5) (h10_ : (j9_ : Int) = v.toInt) (e8_ : z7_ = Mz.1 (27, b, 0) j9_) (h11_ : z7_.toInt ≤ z1_.toInt) : 0 ≤ v.toInt ∧ v.toInt < ((5 : Nat) : Int) := by have r_v := rngI v; have r_z1_ := rngI z1_; have r_z7_ := rngI z7_; subst e8_; omega
theorem lf_c_X2_strength_2 (Mz : mM) (b : Nat) (v : Int32) (z1_ : Int32) (j9_ : Nat) (z7_ : Int32) (j14_ : Nat) (z12_ : Int32) (hb : b < 3) (h5_ : 0 ≤ v.toInt) (h6_ : v.toInt < 5) (h10_ : (j9_ : Int) = v.toInt) (e8_ : z7_ = Mz.1 (27, b, 0) j9_) (h11_ : z7_.toInt ≤ z1_.toInt) (h15_ : (j14_ : Int) = v.toInt) (e13_ : z12_ = Mz.1 (26, b, 0) j14_) : vF b 0 := by have r_v := rngI v; have r_z1_ := rngI z1_; have r_z7_ := rngI z7_; have r_z12_ := rngI z12_; unfold vF; omega
theorem lf_c_X2_strength_3 (Mz : mM) (b : Nat) (v : Int32) (z1_ : Int32) (j9_ : Nat) (z7_ : Int32) (j14_ : Nat) (z12_ : Int32) (hb : b < 3) (h5_ : 0 ≤ v.toInt) (h6_ : v.toInt < 5) (h10_ : (j9_ : Int) = v.toInt) (e8_ : z7_ = Mz.1 (27, b, 0) j9_) (h11_ : z7_.toInt ≤ z1_.toInt) (h15_ : (j14_ : Int) = v.toInt) (e13_ : z12_ = Mz.1 (26, b, 0) j14_) : vF b 0 := by have r_v := rngI v; have r_z1_ := rngI z1_; have r_z7_ := rngI z7_; have r_z12_ := rngI z12_; unfold vF; omega
theorem lf_c_X2_strength_4  (z22_ : Int32) (z30_ : Int32) (z32_ : Int32) (h31_ : (z30_.toInt = 999 ∧ 999 ≤ z22_.toInt) ∨ (z30_.toInt = z22_.toInt ∧ z22_.toInt ≤ 999)) (h33_ : (z32_.toInt = 0 ∧ z30_.toInt ≤ 0) ∨ (z32_.toInt = z30_.toInt ∧ 0 ≤ z30_.toInt)) : 0 ≤ z32_.toInt := by have r_z22_ := rngI z22_; have r_z30_ := rngI z30_; have r_z32_ := rngI z32_; omega
theorem lf_c_X2_strength_5 (M39_ : mM) (Mz : mM) (b : Nat) (v : Int32) (z1_ : Int32) (z3_ : Int32) (j9_ : Nat) (z7_ : Int32) (j14_ : Nat) (z12_ : Int32) (hb : b < 3) (h5_ : 0 ≤ v.toInt) (h6_ : v.toInt < 5) (h10_ : (j9_ : Int) = v.toInt) (e8_ : z7_ = Mz.1 (27, b, 0) j9_) (h11_ : z7_.toInt ≤ z1_.toInt) (h15_ : (j14_ : Int) = v.toInt) (e13_ : z12_ = Mz.1 (26, b, 0) j14_) (hM40_ : M39_ = up Mz (29, b, 0) 0 z3_) : 0 ≤ v.toInt ∧ v.toInt < ((5 : Nat) : Int) := by have r_v := rngI v; have r_z1_ := rngI z1_; have r_z3_ := rngI z3_; have r_z7_ := rngI z7_; have r_z12_ := rngI z12_; subst e8_; subst e13_; omega
theorem lf_c_X2_strength_6 (M39_ : mM) (M47_ : mM) (M51_ : mM) (M55_ : mM) (Mz : mM) (b : Nat) (v : Int32) (t : Int32) (z1_ : Int32) (z3_ : Int32) (j9_ : Nat) (z7_ : Int32) (j14_ : Nat) (z12_ : Int32) (j45_ : Nat) (z43_ : Int32) (hb : b < 3) (h5_ : 0 ≤ v.toInt) (h6_ : v.toInt < 5) (h10_ : (j9_ : Int) = v.toInt) (e8_ : z7_ = Mz.1 (27, b, 0) j9_) (h11_ : z7_.toInt ≤ z1_.toInt) (h15_ : (j14_ : Int) = v.toInt) (e13_ : z12_ = Mz.1 (26, b, 0) j14_) (hM40_ : M39_ = up Mz (29, b, 0) 0 z3_) (h46_ : (j45_ : Int) = v.toInt) (e44_ : z43_ = M39_.1 (26, b, 0) j45_) (hM48_ : M47_ = up M39_ (29, b, 0) 1 z43_) (hM52_ : M51_ = up M47_ (29, b, 0) 2 t) (hM56_ : M55_ = up M51_ (29, b, 0) 3 z1_) : vF b 0 := by have r_v := rngI v; have r_t := rngI t; have r_z1_ := rngI z1_; have r_z3_ := rngI z3_; have r_z7_ := rngI z7_; have r_z12_ := rngI z12_; have r_z43_ := rngI z43_; unfold vF; omega
theorem lf_c_X2_strength_7 (M39_ : mM) (M47_ : mM) (M51_ : mM) (M55_ : mM) (Mz : mM) (b : Nat) (v : Int32) (t : Int32) (z1_ : Int32) (z3_ : Int32) (j9_ : Nat) (z7_ : Int32) (j14_ : Nat) (z12_ : Int32) (j45_ : Nat) (z43_ : Int32) (hb : b < 3) (h5_ : 0 ≤ v.toInt) (h6_ : v.toInt < 5) (h10_ : (j9_ : Int) = v.toInt) (e8_ : z7_ = Mz.1 (27, b, 0) j9_) (h11_ : z7_.toInt ≤ z1_.toInt) (h15_ : (j14_ : Int) = v.toInt) (e13_ : z12_ = Mz.1 (26, b, 0) j14_) (hM40_ : M39_ = up Mz (29, b, 0) 0 z3_) (h46_ : (j45_ : Int) = v.toInt) (e44_ : z43_ = M39_.1 (26, b, 0) j45_) (hM48_ : M47_ = up M39_ (29, b, 0) 1 z43_) (hM52_ : M51_ = up M47_ (29, b, 0) 2 t) (hM56_ : M55_ = up M51_ (29, b, 0) 3 z1_) : vF b 0 := by have r_v := rngI v; have r_t := rngI t; have r_z1_ := rngI z1_; have r_z3_ := rngI z3_; have r_z7_ := rngI z7_; have r_z12_ := rngI z12_; have r_z43_ := rngI z43_; unfold vF; omega
theorem lf_c_X2_strength_8  (r59_ : Int32) (z67_ : Int32) (z69_ : Int32) (h68_ : (z67_.toInt = 999 ∧ 999 ≤ r59_.toInt) ∨ (z67_.toInt = r59_.toInt ∧ r59_.toInt ≤ 999)) (h70_ : (z69_.toInt = 0 ∧ z67_.toInt ≤ 0) ∨ (z69_.toInt = z67_.toInt ∧ 0 ≤ z67_.toInt)) : 0 ≤ z69_.toInt := by have r_r59_ := rngI r59_; have r_z67_ := rngI z67_; have r_z69_ := rngI z69_; omega
set_option maxHeartbeats 4000000 in
set_option maxRecDepth 100000 in
theorem c_X2_strength (l : Launch) (G : va_G) (cy : Nat → ClassId) (ad : rf → Nat) (d : Nat) (b : Nat) (v : Int32) (u : Int32) (t : Int32) (Mz : mM) (hIz : Inv Mz) (hb : b < 3) : WP CC l G cy ad yX2_strength cX2_strength 8 (some .int) (d + 1) 0 [(0, vR (2, b, 0)), (1, vI v), (2, vI u), (3, vI t)] [] Mz (fun r M' => Inv M' ∧ FR (S_c_X2_strength b) Mz M' ∧ (True) ∧ SP_X2_strength b v u t Mz r M') := by
  have hFz : FR (S_c_X2_strength b) Mz Mz := FR.self
  refine w_iload_n dX2_strength_0 rfl 2 rfl ?_
  refine w_bipush (v := 100) dX2_strength_1 (by decide) ?_
  refine w_idiv dX2_strength_3 (by decide) (fun z1_ h2_ => ?_)
  refine w_istore (ls' := [(4, vI z1_), (0, vR (2, b, 0)), (1, vI v), (2, vI u), (3, vI t)]) dX2_strength_4 (by decide) rfl ?_
  refine w_iload_n dX2_strength_6 rfl 3 rfl ?_
  refine w_bipush (v := 100) dX2_strength_7 (by decide) ?_
  refine w_irem dX2_strength_9 (by decide) (fun z3_ h4_ => ?_)
  refine w_istore (ls' := [(5, vI z3_), (4, vI z1_), (0, vR (2, b, 0)), (1, vI v), (2, vI u), (3, vI t)]) dX2_strength_10 (by decide) rfl ?_
  refine w_iload_n dX2_strength_12 rfl 3 rfl ?_
  refine w_if_lt (tgt := 32) dX2_strength_13 (by decide) (rfl : v.toInt = v.toInt) (fun h5_ => ?_) (fun h5_ => ?_)
  · refine w_iconst (v := 0) dX2_strength_32 (by decide) ?_
    exact w_iret rfl dX2_strength_33 ⟨hIz, hFz, trivial, ⟨z1_, h2_, z3_, h4_, (Or.inl ⟨h5_, rfl, rfl⟩)⟩⟩
  · refine w_iload_n dX2_strength_16 rfl 3 rfl ?_
    refine w_iconst (v := 5) dX2_strength_17 (by decide) ?_
    refine w_icmp_ge (tgt := 32) dX2_strength_18 (by decide) (rfl : v.toInt = v.toInt) li_5 (fun h6_ => ?_) (fun h6_ => ?_)
    · refine w_iconst (v := 0) dX2_strength_32 (by decide) ?_
      exact w_iret rfl dX2_strength_33 ⟨hIz, hFz, trivial, ⟨z1_, h2_, z3_, h4_, (Or.inr ⟨h5_, (Or.inl ⟨h6_, rfl, rfl⟩)⟩)⟩⟩
    · refine w_aload_n dX2_strength_21 rfl 2 rfl ?_
      refine w_getR (c' := (27, b, 0)) fl_RX2_25 rfl rfl (ic_2 hb) dX2_strength_22 rfl ?_
      refine w_iload_n dX2_strength_25 rfl 3 rfl ?_
      refine w_iald rfl rfl (ic_27 hb) (rfl : v.toInt = v.toInt) (lf_c_X2_strength_0 v h5_ h6_) dX2_strength_26 (fun j9_ h10_ z7_ e8_ => ?_)
      refine w_iload dX2_strength_27 1 rfl ?_
      refine w_icmp_le (tgt := 34) dX2_strength_29 (by decide) (rfl : z7_.toInt = z7_.toInt) (rfl : z1_.toInt = z1_.toInt) (fun h11_ => ?_) (fun h11_ => ?_)
      · refine w_iload dX2_strength_34 0 rfl ?_
        refine w_aload_n dX2_strength_36 rfl 2 rfl ?_
        refine w_getR (c' := (26, b, 0)) fl_RX2_21 rfl rfl (ic_2 hb) dX2_strength_37 rfl ?_
        refine w_iload_n dX2_strength_40 rfl 3 rfl ?_
        refine w_iald rfl rfl (ic_26 hb) (rfl : v.toInt = v.toInt) (lf_c_X2_strength_1 Mz b v z1_ j9_ z7_ hb h5_ h6_ h10_ e8_ h11_) dX2_strength_41 (fun j14_ h15_ z12_ e13_ => ?_)
        refine w_imul dX2_strength_42 (fun z16_ h17_ => ?_)
        refine w_bipush (v := 50) dX2_strength_43 (by decide) ?_
        refine w_idiv dX2_strength_45 (by decide) (fun z18_ h19_ => ?_)
        refine w_iconst (v := 2) dX2_strength_46 (by decide) ?_
        refine w_iload_n dX2_strength_47 rfl 5 rfl ?_
        refine w_imul dX2_strength_48 (fun z20_ h21_ => ?_)
        refine w_isub dX2_strength_49 (fun z22_ h23_ => ?_)
        refine w_istore (ls' := [(6, vI z22_), (5, vI z3_), (4, vI z1_), (0, vR (2, b, 0)), (1, vI v), (2, vI u), (3, vI t)]) dX2_strength_50 (by decide) rfl ?_
        refine w_aload_n dX2_strength_52 rfl 3 rfl ?_
        refine w_getR (c' := (28, b, 0)) fl_RX2_30 rfl rfl (ic_2 hb) dX2_strength_53 rfl ?_
        refine w_iconst (v := 0) dX2_strength_56 (by decide) ?_
        refine w_aaldL 0 rfl rfl rfl (fun _ => rfl) (ic_28 hb) li_0 (by decide) dX2_strength_57 ?_
        refine w_callV (as := []) (rest := []) (c_X1_isGiven l G cy ad d b 0 Mz hIz (lf_c_X2_strength_2 Mz b v z1_ j9_ z7_ j14_ z12_ hb h5_ h6_ h10_ e8_ h11_ h15_ e13_)) kV_X1_isGiven (by decide +kernel) (Nat.le_of_ble_eq_true rfl) m_877 rfl rfl rfl (ic_1 (lf_c_X2_strength_3 Mz b v z1_ j9_ z7_ j14_ z12_ hb h5_ h6_ h10_ e8_ h11_ h15_ e13_)) rfl rfl (by decide) (Nat.le_of_ble_eq_true rfl) dX2_strength_58 (fun r24_ M25_ q26_ => ?_)
        obtain ⟨rfl, h27_, hs28_⟩ := q26_
        refine w_if_eq (tgt := 114) dX2_strength_61 (by decide) (rfl : r24_.toInt = r24_.toInt) (fun h29_ => ?_) (fun h29_ => ?_)
        · refine w_iconst (v := 0) dX2_strength_114 (by decide) ?_
          refine w_sipush (v := 999) dX2_strength_115 (by decide) ?_
          refine w_iload dX2_strength_118 0 rfl ?_
          refine w_min m_885 m_770 m_86 m_771 li_999 (rfl : z22_.toInt = z22_.toInt) (Nat.le_of_ble_eq_true rfl) (by omega) dX2_strength_120 (fun z30_ h31_ => ?_)
          refine w_max m_886 m_206 m_86 m_207 li_0 (rfl : z30_.toInt = z30_.toInt) (Nat.le_of_ble_eq_true rfl) (by omega) dX2_strength_123 (fun z32_ h33_ => ?_)
          refine w_istore (ls' := [(7, vI z32_), (6, vI z22_), (5, vI z3_), (4, vI z1_), (0, vR (2, b, 0)), (1, vI v), (2, vI u), (3, vI t)]) dX2_strength_126 (by decide) rfl ?_
          refine w_aload_n dX2_strength_128 rfl 4 rfl ?_
          refine w_getI fl_RX2_16 rfl rfl (ic_2 hb) dX2_strength_129 (fun z34_ e35_ => ?_)
          refine w_iconst (v := 1) dX2_strength_132 (by decide) ?_
          refine w_icmp_ne (tgt := 143) dX2_strength_133 (by decide) (rfl : z34_.toInt = z34_.toInt) li_1 (fun h36_ => ?_) (fun h36_ => ?_)
          · refine w_iload dX2_strength_143 0 rfl ?_
            exact w_iret rfl dX2_strength_145 ⟨hIz, hFz, trivial, ⟨z1_, h2_, z3_, h4_, (Or.inr ⟨h5_, (Or.inr ⟨h6_, j9_, h10_, z7_, e8_, (Or.inl ⟨h11_, j14_, h15_, z12_, e13_, z16_, h17_, z18_, h19_, z20_, h21_, z22_, h23_, r24_, hs28_, h27_, (Or.inl ⟨h29_, z30_, h31_, z32_, h33_, z34_, e35_, (Or.inl ⟨h36_, rfl, rfl⟩)⟩)⟩)⟩)⟩)⟩⟩
          · refine w_iload dX2_strength_136 0 rfl ?_
            refine w_iconst (v := 2) dX2_strength_138 (by decide) ?_
            refine w_idivB dX2_strength_139 (by decide) (rfl : z32_.toInt = z32_.toInt) li_2 (lf_c_X2_strength_4 z22_ z30_ z32_ h31_ h33_) (by decide) (fun z37_ h38_ => ?_)
            refine w_goto (tgt := 145) dX2_strength_140 (by decide) ?_
            exact w_iret rfl dX2_strength_145 ⟨hIz, hFz, trivial, ⟨z1_, h2_, z3_, h4_, (Or.inr ⟨h5_, (Or.inr ⟨h6_, j9_, h10_, z7_, e8_, (Or.inl ⟨h11_, j14_, h15_, z12_, e13_, z16_, h17_, z18_, h19_, z20_, h21_, z22_, h23_, r24_, hs28_, h27_, (Or.inl ⟨h29_, z30_, h31_, z32_, h33_, z34_, e35_, (Or.inr ⟨h36_, z37_, h38_, rfl, rfl⟩)⟩)⟩)⟩)⟩)⟩⟩
        · refine w_aload_n dX2_strength_64 rfl 3 rfl ?_
          refine w_getR (c' := (29, b, 0)) fl_RX2_34 rfl rfl (ic_2 hb) dX2_strength_65 rfl ?_
          refine w_iconst (v := 0) dX2_strength_68 (by decide) ?_
          refine w_iload dX2_strength_69 1 rfl ?_
          refine w_iastL 0 CC_nd rfl rfl (ic_29 hb) li_0 (by decide) dX2_strength_71 (fun M39_ hM40_ => ?_)
          have hI41_ := hIz.put hM40_ trivial
          have hF42_ := hFz.put hM40_ (Or.inl ⟨rfl, rfl, rfl⟩)
          refine w_aload_n dX2_strength_72 rfl 3 rfl ?_
          refine w_getR (c' := (29, b, 0)) fl_RX2_34 rfl rfl (ic_2 hb) dX2_strength_73 rfl ?_
          refine w_iconst (v := 1) dX2_strength_76 (by decide) ?_
          refine w_aload_n dX2_strength_77 rfl 3 rfl ?_
          refine w_getR (c' := (26, b, 0)) fl_RX2_21 rfl rfl (ic_2 hb) dX2_strength_78 rfl ?_
          refine w_iload_n dX2_strength_81 rfl 4 rfl ?_
          refine w_iald rfl rfl (ic_26 hb) (rfl : v.toInt = v.toInt) (lf_c_X2_strength_5 M39_ Mz b v z1_ z3_ j9_ z7_ j14_ z12_ hb h5_ h6_ h10_ e8_ h11_ h15_ e13_ hM40_) dX2_strength_82 (fun j45_ h46_ z43_ e44_ => ?_)
          refine w_iastL 1 CC_nd rfl rfl (ic_29 hb) li_1 (by decide) dX2_strength_83 (fun M47_ hM48_ => ?_)
          have hI49_ := hI41_.put hM48_ trivial
          have hF50_ := hF42_.put hM48_ (Or.inr (Or.inl ⟨rfl, rfl, rfl⟩))
          refine w_aload_n dX2_strength_84 rfl 3 rfl ?_
          refine w_getR (c' := (29, b, 0)) fl_RX2_34 rfl rfl (ic_2 hb) dX2_strength_85 rfl ?_
          refine w_iconst (v := 2) dX2_strength_88 (by decide) ?_
          refine w_iload_n dX2_strength_89 rfl 6 rfl ?_
          refine w_iastL 2 CC_nd rfl rfl (ic_29 hb) li_2 (by decide) dX2_strength_90 (fun M51_ hM52_ => ?_)
          have hI53_ := hI49_.put hM52_ trivial
          have hF54_ := hF50_.put hM52_ (Or.inr (Or.inr (Or.inl ⟨rfl, rfl, rfl⟩)))
          refine w_aload_n dX2_strength_91 rfl 3 rfl ?_
          refine w_getR (c' := (29, b, 0)) fl_RX2_34 rfl rfl (ic_2 hb) dX2_strength_92 rfl ?_
          refine w_iconst (v := 3) dX2_strength_95 (by decide) ?_
          refine w_iload dX2_strength_96 2 rfl ?_
          refine w_iastL 3 CC_nd rfl rfl (ic_29 hb) li_3 (by decide) dX2_strength_98 (fun M55_ hM56_ => ?_)
          have hI57_ := hI53_.put hM56_ trivial
          have hF58_ := hF54_.put hM56_ (Or.inr (Or.inr (Or.inr (Or.inl ⟨rfl, rfl, rfl⟩))))
          refine w_aload_n dX2_strength_99 rfl 3 rfl ?_
          refine w_getR (c' := (28, b, 0)) fl_RX2_30 rfl rfl (ic_2 hb) dX2_strength_100 rfl ?_
          refine w_iconst (v := 0) dX2_strength_103 (by decide) ?_
          refine w_aaldL 0 rfl rfl rfl (fun _ => rfl) (ic_28 hb) li_0 (by decide) dX2_strength_104 ?_
          refine w_aload_n dX2_strength_105 rfl 3 rfl ?_
          refine w_getR (c' := (29, b, 0)) fl_RX2_34 rfl rfl (ic_2 hb) dX2_strength_106 rfl ?_
          refine w_callV (as := [vR (29, b, 0)]) (rest := []) (c_X1_work l G cy ad d b 0 b M55_ hI57_ (lf_c_X2_strength_6 M39_ M47_ M51_ M55_ Mz b v t z1_ z3_ j9_ z7_ j14_ z12_ j45_ z43_ hb h5_ h6_ h10_ e8_ h11_ h15_ e13_ hM40_ h46_ e44_ hM48_ hM52_ hM56_) hb) kV_X1_work (by decide +kernel) (Nat.le_of_ble_eq_true rfl) m_881 rfl rfl rfl (ic_1 (lf_c_X2_strength_7 M39_ M47_ M51_ M55_ Mz b v t z1_ z3_ j9_ z7_ j14_ z12_ j45_ z43_ hb h5_ h6_ h10_ e8_ h11_ h15_ e13_ hM40_ h46_ e44_ hM48_ hM52_ hM56_)) rfl rfl (by decide) (Nat.le_of_ble_eq_true rfl) dX2_strength_109 (fun r59_ M60_ q61_ => ?_)
          obtain ⟨hI63_, hF64_, h62_, hs66_⟩ := q61_
          have hF65_ := hF58_.tr hF64_ (fun c k => (fun h => h.elim (fun h => (Or.inr (Or.inr (Or.inr (Or.inr (Or.inl ⟨h.1, h.2.1, h.2.2⟩)))))) (fun h => h.elim)))
          refine w_istore (ls' := [(6, vI r59_), (5, vI z3_), (4, vI z1_), (0, vR (2, b, 0)), (1, vI v), (2, vI u), (3, vI t)]) dX2_strength_112 (by decide) rfl ?_
          refine w_iconst (v := 0) dX2_strength_114 (by decide) ?_
          refine w_sipush (v := 999) dX2_strength_115 (by decide) ?_
          refine w_iload dX2_strength_118 0 rfl ?_
          refine w_min m_885 m_770 m_86 m_771 li_999 (rfl : r59_.toInt = r59_.toInt) (Nat.le_of_ble_eq_true rfl) (by omega) dX2_strength_120 (fun z67_ h68_ => ?_)
          refine w_max m_886 m_206 m_86 m_207 li_0 (rfl : z67_.toInt = z67_.toInt) (Nat.le_of_ble_eq_true rfl) (by omega) dX2_strength_123 (fun z69_ h70_ => ?_)
          refine w_istore (ls' := [(7, vI z69_), (6, vI r59_), (5, vI z3_), (4, vI z1_), (0, vR (2, b, 0)), (1, vI v), (2, vI u), (3, vI t)]) dX2_strength_126 (by decide) rfl ?_
          refine w_aload_n dX2_strength_128 rfl 4 rfl ?_
          refine w_getI fl_RX2_16 rfl rfl (ic_2 hb) dX2_strength_129 (fun z71_ e72_ => ?_)
          refine w_iconst (v := 1) dX2_strength_132 (by decide) ?_
          refine w_icmp_ne (tgt := 143) dX2_strength_133 (by decide) (rfl : z71_.toInt = z71_.toInt) li_1 (fun h73_ => ?_) (fun h73_ => ?_)
          · refine w_iload dX2_strength_143 0 rfl ?_
            exact w_iret rfl dX2_strength_145 ⟨hI63_, hF65_, trivial, ⟨z1_, h2_, z3_, h4_, (Or.inr ⟨h5_, (Or.inr ⟨h6_, j9_, h10_, z7_, e8_, (Or.inl ⟨h11_, j14_, h15_, z12_, e13_, z16_, h17_, z18_, h19_, z20_, h21_, z22_, h23_, r24_, hs28_, h27_, (Or.inr ⟨h29_, M39_, hM40_, j45_, h46_, z43_, e44_, M47_, hM48_, M51_, hM52_, M55_, hM56_, hI57_, M60_, hI63_, hF64_, r59_, hs66_, z67_, h68_, z69_, h70_, z71_, e72_, (Or.inl ⟨h73_, rfl, rfl⟩)⟩)⟩)⟩)⟩)⟩⟩
          · refine w_iload dX2_strength_136 0 rfl ?_
            refine w_iconst (v := 2) dX2_strength_138 (by decide) ?_
            refine w_idivB dX2_strength_139 (by decide) (rfl : z69_.toInt = z69_.toInt) li_2 (lf_c_X2_strength_8 r59_ z67_ z69_ h68_ h70_) (by decide) (fun z74_ h75_ => ?_)
            refine w_goto (tgt := 145) dX2_strength_140 (by decide) ?_
            exact w_iret rfl dX2_strength_145 ⟨hI63_, hF65_, trivial, ⟨z1_, h2_, z3_, h4_, (Or.inr ⟨h5_, (Or.inr ⟨h6_, j9_, h10_, z7_, e8_, (Or.inl ⟨h11_, j14_, h15_, z12_, e13_, z16_, h17_, z18_, h19_, z20_, h21_, z22_, h23_, r24_, hs28_, h27_, (Or.inr ⟨h29_, M39_, hM40_, j45_, h46_, z43_, e44_, M47_, hM48_, M51_, hM52_, M55_, hM56_, hI57_, M60_, hI63_, hF64_, r59_, hs66_, z67_, h68_, z69_, h70_, z71_, e72_, (Or.inr ⟨h73_, z74_, h75_, rfl, rfl⟩)⟩)⟩)⟩)⟩)⟩⟩
      · refine w_iconst (v := 0) dX2_strength_32 (by decide) ?_
        exact w_iret rfl dX2_strength_33 ⟨hIz, hFz, trivial, ⟨z1_, h2_, z3_, h4_, (Or.inr ⟨h5_, (Or.inr ⟨h6_, j9_, h10_, z7_, e8_, (Or.inr ⟨h11_, rfl, rfl⟩)⟩)⟩)⟩⟩
def S_c_X2_isHeard (b : Nat) : rf → Nat → Prop := fun c k => (c.1 = 29 ∧ c.2.1 = b ∧ k = 0) ∨ (c.1 = 29 ∧ c.2.1 = b ∧ k = 1) ∨ (c.1 = 29 ∧ c.2.1 = b ∧ k = 2) ∨ (c.1 = 25 ∧ c.2.1 = b ∧ c.2.2 = 1) ∨ False
def SP_X2_isHeard (b : Nat) (v : Int32) (u : Int32) (t : Int32) (s : Int32) (Mz : mM) (r_ : Int32) (M_ : mM) : Prop := ∃ z1_ : Int32, (z1_ = u / (100 : Int32)) ∧ (((v.toInt < z1_.toInt) ∧ r_ = 0 ∧ M_ = Mz) ∨ ((z1_.toInt ≤ v.toInt) ∧ ∃ z4_ : Int32, (z4_ = Mz.1 (2, b, 0) 1) ∧ (((t.toInt ≤ z4_.toInt) ∧ r_ = 0 ∧ M_ = Mz) ∨ ((z4_.toInt < t.toInt) ∧ (((¬ s.toInt = 0) ∧ ∃ r8_ : Int32, (SP_X1_isGiven b 1 Mz r8_) ∧ ((0 ≤ r8_.toInt ∧ r8_.toInt ≤ 1)) ∧ (((¬ r8_.toInt = 0) ∧ ∃ M14_ : mM, (M14_ = up Mz (29, b, 0) 0 s) ∧ ∃ z18_ : Int32, (z18_ = M14_.1 (2, b, 0) 0) ∧ ∃ M20_ : mM, (M20_ = up M14_ (29, b, 0) 1 z18_) ∧ ∃ M24_ : mM, (M24_ = up M20_ (29, b, 0) 2 t) ∧ (Inv M24_) ∧ ∃ M29_ : mM, (Inv M29_) ∧ (FR (S_c_X1_work b 1 b) M24_ M29_) ∧ ∃ r28_ : Int32, (SP_X1_work b 1 b M24_ r28_ M29_) ∧ (((r28_.toInt = 0) ∧ r_ = 0 ∧ M_ = M29_) ∨ ((¬ r28_.toInt = 0) ∧ r_ = 1 ∧ M_ = M29_))) ∨ ((r8_.toInt = 0) ∧ ∃ z37_ : Int32, (z37_ = Mz.1 (2, b, 0) 0) ∧ (((s.toInt ≤ z37_.toInt) ∧ r_ = 0 ∧ M_ = Mz) ∨ ((z37_.toInt < s.toInt) ∧ r_ = 1 ∧ M_ = Mz))))) ∨ ((s.toInt = 0) ∧ r_ = 0 ∧ M_ = Mz))))))
theorem lf_c_X2_isHeard_0 (Mz : mM) (b : Nat) (t : Int32) (z4_ : Int32) (hb : b < 3) (e5_ : z4_ = Mz.1 (2, b, 0) 1) (h6_ : z4_.toInt < t.toInt) : vF b 1 := by have r_t := rngI t; have r_z4_ := rngI z4_; unfold vF; omega
theorem lf_c_X2_isHeard_1 (Mz : mM) (b : Nat) (t : Int32) (z4_ : Int32) (hb : b < 3) (e5_ : z4_ = Mz.1 (2, b, 0) 1) (h6_ : z4_.toInt < t.toInt) : vF b 1 := by have r_t := rngI t; have r_z4_ := rngI z4_; unfold vF; omega
theorem lf_c_X2_isHeard_2 (M14_ : mM) (M20_ : mM) (M24_ : mM) (Mz : mM) (b : Nat) (t : Int32) (s : Int32) (z4_ : Int32) (z18_ : Int32) (hb : b < 3) (e5_ : z4_ = Mz.1 (2, b, 0) 1) (h6_ : z4_.toInt < t.toInt) (h7_ : ¬ s.toInt = 0) (hM15_ : M14_ = up Mz (29, b, 0) 0 s) (e19_ : z18_ = M14_.1 (2, b, 0) 0) (hM21_ : M20_ = up M14_ (29, b, 0) 1 z18_) (hM25_ : M24_ = up M20_ (29, b, 0) 2 t) : vF b 1 := by have r_t := rngI t; have r_s := rngI s; have r_z4_ := rngI z4_; have r_z18_ := rngI z18_; unfold vF; omega
theorem lf_c_X2_isHeard_3 (M14_ : mM) (M20_ : mM) (M24_ : mM) (Mz : mM) (b : Nat) (t : Int32) (s : Int32) (z4_ : Int32) (z18_ : Int32) (hb : b < 3) (e5_ : z4_ = Mz.1 (2, b, 0) 1) (h6_ : z4_.toInt < t.toInt) (h7_ : ¬ s.toInt = 0) (hM15_ : M14_ = up Mz (29, b, 0) 0 s) (e19_ : z18_ = M14_.1 (2, b, 0) 0) (hM21_ : M20_ = up M14_ (29, b, 0) 1 z18_) (hM25_ : M24_ = up M20_ (29, b, 0) 2 t) : vF b 1 := by have r_t := rngI t; have r_s := rngI s; have r_z4_ := rngI z4_; have r_z18_ := rngI z18_; unfold vF; omega
set_option maxHeartbeats 4000000 in
set_option maxRecDepth 100000 in
theorem c_X2_isHeard (l : Launch) (G : va_G) (cy : Nat → ClassId) (ad : rf → Nat) (d : Nat) (b : Nat) (v : Int32) (u : Int32) (t : Int32) (s : Int32) (Mz : mM) (hIz : Inv Mz) (hb : b < 3) : WP CC l G cy ad yX2_isHeard cX2_isHeard 5 (some .boolean) (d + 1) 0 [(0, vR (2, b, 0)), (1, vI v), (2, vI u), (3, vI t), (4, vI s)] [] Mz (fun r M' => Inv M' ∧ FR (S_c_X2_isHeard b) Mz M' ∧ ((0 ≤ r.toInt ∧ r.toInt ≤ 1)) ∧ SP_X2_isHeard b v u t s Mz r M') := by
  have hFz : FR (S_c_X2_isHeard b) Mz Mz := FR.self
  refine w_iload_n dX2_isHeard_0 rfl 2 rfl ?_
  refine w_bipush (v := 100) dX2_isHeard_1 (by decide) ?_
  refine w_idiv dX2_isHeard_3 (by decide) (fun z1_ h2_ => ?_)
  refine w_iload_n dX2_isHeard_4 rfl 1 rfl ?_
  refine w_icmp_gt (tgt := 21) dX2_isHeard_5 (by decide) (rfl : z1_.toInt = z1_.toInt) (rfl : v.toInt = v.toInt) (fun h3_ => ?_) (fun h3_ => ?_)
  · refine w_iconst (v := 0) dX2_isHeard_21 (by decide) ?_
    exact w_zret rfl dX2_isHeard_22 ⟨by decide, by decide⟩ ⟨hIz, hFz, ⟨by decide, by decide⟩, ⟨z1_, h2_, (Or.inl ⟨h3_, rfl, rfl⟩)⟩⟩
  · refine w_iload_n dX2_isHeard_8 rfl 3 rfl ?_
    refine w_aload_n dX2_isHeard_9 rfl 0 rfl ?_
    refine w_getI fl_RX2_13 rfl rfl (ic_2 hb) dX2_isHeard_10 (fun z4_ e5_ => ?_)
    refine w_icmp_le (tgt := 21) dX2_isHeard_13 (by decide) (rfl : t.toInt = t.toInt) (rfl : z4_.toInt = z4_.toInt) (fun h6_ => ?_) (fun h6_ => ?_)
    · refine w_iconst (v := 0) dX2_isHeard_21 (by decide) ?_
      exact w_zret rfl dX2_isHeard_22 ⟨by decide, by decide⟩ ⟨hIz, hFz, ⟨by decide, by decide⟩, ⟨z1_, h2_, (Or.inr ⟨h3_, z4_, e5_, (Or.inl ⟨h6_, rfl, rfl⟩)⟩)⟩⟩
    · refine w_iload dX2_isHeard_16 4 rfl ?_
      refine w_if_ne (tgt := 23) dX2_isHeard_18 (by decide) (rfl : s.toInt = s.toInt) (fun h7_ => ?_) (fun h7_ => ?_)
      · refine w_aload_n dX2_isHeard_23 rfl 0 rfl ?_
        refine w_getR (c' := (28, b, 0)) fl_RX2_30 rfl rfl (ic_2 hb) dX2_isHeard_24 rfl ?_
        refine w_iconst (v := 1) dX2_isHeard_27 (by decide) ?_
        refine w_aaldL 1 rfl rfl rfl (fun _ => rfl) (ic_28 hb) li_1 (by decide) dX2_isHeard_28 ?_
        refine w_callV (as := []) (rest := []) (c_X1_isGiven l G cy ad d b 1 Mz hIz (lf_c_X2_isHeard_0 Mz b t z4_ hb e5_ h6_)) kV_X1_isGiven (by decide +kernel) (Nat.le_of_ble_eq_true rfl) m_877 rfl rfl rfl (ic_1 (lf_c_X2_isHeard_1 Mz b t z4_ hb e5_ h6_)) rfl rfl (by decide) (Nat.le_of_ble_eq_true rfl) dX2_isHeard_29 (fun r8_ M9_ q10_ => ?_)
        obtain ⟨rfl, h11_, hs12_⟩ := q10_
        refine w_if_ne (tgt := 50) dX2_isHeard_32 (by decide) (rfl : r8_.toInt = r8_.toInt) (fun h13_ => ?_) (fun h13_ => ?_)
        · refine w_aload_n dX2_isHeard_50 rfl 0 rfl ?_
          refine w_getR (c' := (29, b, 0)) fl_RX2_34 rfl rfl (ic_2 hb) dX2_isHeard_51 rfl ?_
          refine w_iconst (v := 0) dX2_isHeard_54 (by decide) ?_
          refine w_iload dX2_isHeard_55 4 rfl ?_
          refine w_iastL 0 CC_nd rfl rfl (ic_29 hb) li_0 (by decide) dX2_isHeard_57 (fun M14_ hM15_ => ?_)
          have hI16_ := hIz.put hM15_ trivial
          have hF17_ := hFz.put hM15_ (Or.inl ⟨rfl, rfl, rfl⟩)
          refine w_aload_n dX2_isHeard_58 rfl 0 rfl ?_
          refine w_getR (c' := (29, b, 0)) fl_RX2_34 rfl rfl (ic_2 hb) dX2_isHeard_59 rfl ?_
          refine w_iconst (v := 1) dX2_isHeard_62 (by decide) ?_
          refine w_aload_n dX2_isHeard_63 rfl 0 rfl ?_
          refine w_getI fl_RX2_7 rfl rfl (ic_2 hb) dX2_isHeard_64 (fun z18_ e19_ => ?_)
          refine w_iastL 1 CC_nd rfl rfl (ic_29 hb) li_1 (by decide) dX2_isHeard_67 (fun M20_ hM21_ => ?_)
          have hI22_ := hI16_.put hM21_ trivial
          have hF23_ := hF17_.put hM21_ (Or.inr (Or.inl ⟨rfl, rfl, rfl⟩))
          refine w_aload_n dX2_isHeard_68 rfl 0 rfl ?_
          refine w_getR (c' := (29, b, 0)) fl_RX2_34 rfl rfl (ic_2 hb) dX2_isHeard_69 rfl ?_
          refine w_iconst (v := 2) dX2_isHeard_72 (by decide) ?_
          refine w_iload_n dX2_isHeard_73 rfl 3 rfl ?_
          refine w_iastL 2 CC_nd rfl rfl (ic_29 hb) li_2 (by decide) dX2_isHeard_74 (fun M24_ hM25_ => ?_)
          have hI26_ := hI22_.put hM25_ trivial
          have hF27_ := hF23_.put hM25_ (Or.inr (Or.inr (Or.inl ⟨rfl, rfl, rfl⟩)))
          refine w_aload_n dX2_isHeard_75 rfl 0 rfl ?_
          refine w_getR (c' := (28, b, 0)) fl_RX2_30 rfl rfl (ic_2 hb) dX2_isHeard_76 rfl ?_
          refine w_iconst (v := 1) dX2_isHeard_79 (by decide) ?_
          refine w_aaldL 1 rfl rfl rfl (fun _ => rfl) (ic_28 hb) li_1 (by decide) dX2_isHeard_80 ?_
          refine w_aload_n dX2_isHeard_81 rfl 0 rfl ?_
          refine w_getR (c' := (29, b, 0)) fl_RX2_34 rfl rfl (ic_2 hb) dX2_isHeard_82 rfl ?_
          refine w_callV (as := [vR (29, b, 0)]) (rest := []) (c_X1_work l G cy ad d b 1 b M24_ hI26_ (lf_c_X2_isHeard_2 M14_ M20_ M24_ Mz b t s z4_ z18_ hb e5_ h6_ h7_ hM15_ e19_ hM21_ hM25_) hb) kV_X1_work (by decide +kernel) (Nat.le_of_ble_eq_true rfl) m_881 rfl rfl rfl (ic_1 (lf_c_X2_isHeard_3 M14_ M20_ M24_ Mz b t s z4_ z18_ hb e5_ h6_ h7_ hM15_ e19_ hM21_ hM25_)) rfl rfl (by decide) (Nat.le_of_ble_eq_true rfl) dX2_isHeard_85 (fun r28_ M29_ q30_ => ?_)
          obtain ⟨hI32_, hF33_, h31_, hs35_⟩ := q30_
          have hF34_ := hF27_.tr hF33_ (fun c k => (fun h => h.elim (fun h => (Or.inr (Or.inr (Or.inr (Or.inl ⟨h.1, h.2.1, h.2.2⟩))))) (fun h => h.elim)))
          refine w_if_eq (tgt := 95) dX2_isHeard_88 (by decide) (rfl : r28_.toInt = r28_.toInt) (fun h36_ => ?_) (fun h36_ => ?_)
          · refine w_iconst (v := 0) dX2_isHeard_95 (by decide) ?_
            exact w_zret rfl dX2_isHeard_96 ⟨by decide, by decide⟩ ⟨hI32_, hF34_, ⟨by decide, by decide⟩, ⟨z1_, h2_, (Or.inr ⟨h3_, z4_, e5_, (Or.inr ⟨h6_, (Or.inl ⟨h7_, r8_, hs12_, h11_, (Or.inl ⟨h13_, M14_, hM15_, z18_, e19_, M20_, hM21_, M24_, hM25_, hI26_, M29_, hI32_, hF33_, r28_, hs35_, (Or.inl ⟨h36_, rfl, rfl⟩)⟩)⟩)⟩)⟩)⟩⟩
          · refine w_iconst (v := 1) dX2_isHeard_91 (by decide) ?_
            refine w_goto (tgt := 96) dX2_isHeard_92 (by decide) ?_
            exact w_zret rfl dX2_isHeard_96 ⟨by decide, by decide⟩ ⟨hI32_, hF34_, ⟨by decide, by decide⟩, ⟨z1_, h2_, (Or.inr ⟨h3_, z4_, e5_, (Or.inr ⟨h6_, (Or.inl ⟨h7_, r8_, hs12_, h11_, (Or.inl ⟨h13_, M14_, hM15_, z18_, e19_, M20_, hM21_, M24_, hM25_, hI26_, M29_, hI32_, hF33_, r28_, hs35_, (Or.inr ⟨h36_, rfl, rfl⟩)⟩)⟩)⟩)⟩)⟩⟩
        · refine w_iload dX2_isHeard_35 4 rfl ?_
          refine w_aload_n dX2_isHeard_37 rfl 0 rfl ?_
          refine w_getI fl_RX2_7 rfl rfl (ic_2 hb) dX2_isHeard_38 (fun z37_ e38_ => ?_)
          refine w_icmp_le (tgt := 48) dX2_isHeard_41 (by decide) (rfl : s.toInt = s.toInt) (rfl : z37_.toInt = z37_.toInt) (fun h39_ => ?_) (fun h39_ => ?_)
          · refine w_iconst (v := 0) dX2_isHeard_48 (by decide) ?_
            exact w_zret rfl dX2_isHeard_49 ⟨by decide, by decide⟩ ⟨hIz, hFz, ⟨by decide, by decide⟩, ⟨z1_, h2_, (Or.inr ⟨h3_, z4_, e5_, (Or.inr ⟨h6_, (Or.inl ⟨h7_, r8_, hs12_, h11_, (Or.inr ⟨h13_, z37_, e38_, (Or.inl ⟨h39_, rfl, rfl⟩)⟩)⟩)⟩)⟩)⟩⟩
          · refine w_iconst (v := 1) dX2_isHeard_44 (by decide) ?_
            refine w_goto (tgt := 49) dX2_isHeard_45 (by decide) ?_
            exact w_zret rfl dX2_isHeard_49 ⟨by decide, by decide⟩ ⟨hIz, hFz, ⟨by decide, by decide⟩, ⟨z1_, h2_, (Or.inr ⟨h3_, z4_, e5_, (Or.inr ⟨h6_, (Or.inl ⟨h7_, r8_, hs12_, h11_, (Or.inr ⟨h13_, z37_, e38_, (Or.inr ⟨h39_, rfl, rfl⟩)⟩)⟩)⟩)⟩)⟩⟩
      · refine w_iconst (v := 0) dX2_isHeard_21 (by decide) ?_
        exact w_zret rfl dX2_isHeard_22 ⟨by decide, by decide⟩ ⟨hIz, hFz, ⟨by decide, by decide⟩, ⟨z1_, h2_, (Or.inr ⟨h3_, z4_, e5_, (Or.inr ⟨h6_, (Or.inr ⟨h7_, rfl, rfl⟩)⟩)⟩)⟩⟩
def S_c_X2_hears (b : Nat) : rf → Nat → Prop := fun c k => (c.1 = 29 ∧ c.2.1 = b ∧ k = 0) ∨ (c.1 = 29 ∧ c.2.1 = b ∧ k = 1) ∨ (c.1 = 29 ∧ c.2.1 = b ∧ k = 2) ∨ (c.1 = 29 ∧ c.2.1 = b ∧ k = 3) ∨ (c.1 = 25 ∧ c.2.1 = b ∧ c.2.2 = 0) ∨ (c.1 = 25 ∧ c.2.1 = b ∧ c.2.2 = 1) ∨ False
def SP_X2_hears (b : Nat) (v : Int32) (u : Int32) (t : Int32) (s : Int32) (q : Int32) (Mz : mM) (r_ : Int32) (M_ : mM) : Prop := ∃ r1_ : Int32, (SP_X2_late q s Mz r1_) ∧ ∃ M7_ : mM, (Inv M7_) ∧ (FR (S_c_X2_strength b) Mz M7_) ∧ ∃ r6_ : Int32, (SP_X2_strength b u t s Mz r6_ M7_) ∧ ∃ M15_ : mM, (Inv M15_) ∧ (FR (S_c_X2_isHeard b) M7_ M15_) ∧ ∃ r14_ : Int32, (SP_X2_isHeard b v t r1_ r6_ M7_ r14_ M15_) ∧ ((0 ≤ r14_.toInt ∧ r14_.toInt ≤ 1)) ∧ r_ = r14_ ∧ M_ = M15_
theorem lf_c_X2_hears_0  (r14_ : Int32) (h17_ : (0 ≤ r14_.toInt ∧ r14_.toInt ≤ 1)) : 0 ≤ r14_.toInt ∧ r14_.toInt ≤ 1 := by have r_r14_ := rngI r14_; omega
theorem lf_c_X2_hears_1  (r14_ : Int32) (h17_ : (0 ≤ r14_.toInt ∧ r14_.toInt ≤ 1)) : 0 ≤ r14_.toInt ∧ r14_.toInt ≤ 1 := by have r_r14_ := rngI r14_; omega
set_option maxHeartbeats 4000000 in
set_option maxRecDepth 100000 in
theorem c_X2_hears (l : Launch) (G : va_G) (cy : Nat → ClassId) (ad : rf → Nat) (d : Nat) (b : Nat) (v : Int32) (u : Int32) (t : Int32) (s : Int32) (q : Int32) (Mz : mM) (hIz : Inv Mz) (hb : b < 3) : WP CC l G cy ad yX2_hears cX2_hears 6 (some .boolean) (d + 2) 0 [(0, vR (2, b, 0)), (1, vI v), (2, vI u), (3, vI t), (4, vI s), (5, vI q)] [] Mz (fun r M' => Inv M' ∧ FR (S_c_X2_hears b) Mz M' ∧ ((0 ≤ r.toInt ∧ r.toInt ≤ 1)) ∧ SP_X2_hears b v u t s q Mz r M') := by
  have hFz : FR (S_c_X2_hears b) Mz Mz := FR.self
  refine w_aload_n dX2_hears_0 rfl 0 rfl ?_
  refine w_iload_n dX2_hears_1 rfl 1 rfl ?_
  refine w_iload_n dX2_hears_2 rfl 3 rfl ?_
  refine w_iload dX2_hears_3 5 rfl ?_
  refine w_iload dX2_hears_5 4 rfl ?_
  refine w_callS (as := [vI q, vI s]) (rest := [vI t, vI v, vR (2, b, 0)]) (c_X2_late l G cy ad (d + 1) q s Mz hIz) kS_X2_late (by decide +kernel) (Nat.le_of_ble_eq_true rfl) m_912 rfl rfl (by decide) (Nat.le_of_ble_eq_true rfl) dX2_hears_7 (fun r1_ M2_ q3_ => ?_)
  obtain ⟨rfl, h4_, hs5_⟩ := q3_
  refine w_aload_n dX2_hears_10 rfl 0 rfl ?_
  refine w_iload_n dX2_hears_11 rfl 2 rfl ?_
  refine w_iload_n dX2_hears_12 rfl 3 rfl ?_
  refine w_iload dX2_hears_13 4 rfl ?_
  refine w_callV (as := [vI u, vI t, vI s]) (rest := [vI r1_, vI t, vI v, vR (2, b, 0)]) (c_X2_strength l G cy ad d b u t s Mz hIz hb) kV_X2_strength (by decide +kernel) (Nat.le_of_ble_eq_true rfl) m_913 rfl rfl rfl (ic_2 hb) rfl rfl (by decide) (Nat.le_of_ble_eq_true rfl) dX2_hears_15 (fun r6_ M7_ q8_ => ?_)
  obtain ⟨hI10_, hF11_, h9_, hs13_⟩ := q8_
  have hF12_ := hFz.tr hF11_ (fun c k => (fun h => h.elim (fun h => (Or.inl ⟨h.1, h.2.1, h.2.2⟩)) (fun h => h.elim (fun h => (Or.inr (Or.inl ⟨h.1, h.2.1, h.2.2⟩))) (fun h => h.elim (fun h => (Or.inr (Or.inr (Or.inl ⟨h.1, h.2.1, h.2.2⟩)))) (fun h => h.elim (fun h => (Or.inr (Or.inr (Or.inr (Or.inl ⟨h.1, h.2.1, h.2.2⟩))))) (fun h => h.elim (fun h => (Or.inr (Or.inr (Or.inr (Or.inr (Or.inl ⟨h.1, h.2.1, h.2.2⟩)))))) (fun h => h.elim)))))))
  refine w_callV (as := [vI v, vI t, vI r1_, vI r6_]) (rest := []) (c_X2_isHeard l G cy ad d b v t r1_ r6_ M7_ hI10_ hb) kV_X2_isHeard (by decide +kernel) (Nat.le_of_ble_eq_true rfl) m_914 rfl rfl rfl (ic_2 hb) rfl rfl (by decide) (Nat.le_of_ble_eq_true rfl) dX2_hears_18 (fun r14_ M15_ q16_ => ?_)
  obtain ⟨hI18_, hF19_, h17_, hs21_⟩ := q16_
  have hF20_ := hF12_.tr hF19_ (fun c k => (fun h => h.elim (fun h => (Or.inl ⟨h.1, h.2.1, h.2.2⟩)) (fun h => h.elim (fun h => (Or.inr (Or.inl ⟨h.1, h.2.1, h.2.2⟩))) (fun h => h.elim (fun h => (Or.inr (Or.inr (Or.inl ⟨h.1, h.2.1, h.2.2⟩)))) (fun h => h.elim (fun h => (Or.inr (Or.inr (Or.inr (Or.inr (Or.inr (Or.inl ⟨h.1, h.2.1, h.2.2⟩))))))) (fun h => h.elim))))))
  exact w_zret rfl dX2_hears_21 (lf_c_X2_hears_1 r14_ h17_) ⟨hI18_, hF20_, (lf_c_X2_hears_0 r14_ h17_), ⟨r1_, hs5_, M7_, hI10_, hF11_, r6_, hs13_, M15_, hI18_, hF19_, r14_, hs21_, h17_, rfl, rfl⟩⟩
def S_c_X2_habitValue (b : Nat) : rf → Nat → Prop := fun c k => (c.1 = 29 ∧ c.2.1 = b ∧ k = 0) ∨ (c.1 = 29 ∧ c.2.1 = b ∧ k = 1) ∨ (c.1 = 29 ∧ c.2.1 = b ∧ k = 2) ∨ (c.1 = 29 ∧ c.2.1 = b ∧ k = 3) ∨ (c.1 = 29 ∧ c.2.1 = b ∧ k = 4) ∨ (c.1 = 25 ∧ c.2.1 = b ∧ c.2.2 = 2) ∨ False
def SP_X2_habitValue (b : Nat) (v : Int32) (u : Int32) (t : Int32) (s : Int32) (q : Int32) (Mz : mM) (r_ : Int32) (M_ : mM) : Prop := ∃ r1_ : Int32, (SP_X1_isGiven b 2 Mz r1_) ∧ ((0 ≤ r1_.toInt ∧ r1_.toInt ≤ 1)) ∧ (((¬ r1_.toInt = 0) ∧ ∃ M7_ : mM, (M7_ = up Mz (29, b, 0) 0 v) ∧ ∃ M11_ : mM, (M11_ = up M7_ (29, b, 0) 1 u) ∧ ∃ M15_ : mM, (M15_ = up M11_ (29, b, 0) 2 t) ∧ ∃ M19_ : mM, (M19_ = up M15_ (29, b, 0) 3 s) ∧ ∃ M23_ : mM, (M23_ = up M19_ (29, b, 0) 4 q) ∧ (Inv M23_) ∧ ∃ M28_ : mM, (Inv M28_) ∧ (FR (S_c_X1_work b 2 b) M23_ M28_) ∧ ∃ r27_ : Int32, (SP_X1_work b 2 b M23_ r27_ M28_) ∧ r_ = r27_ ∧ M_ = M28_) ∨ ((r1_.toInt = 0) ∧ (((¬ v.toInt = 1) ∧ r_ = 0 ∧ M_ = Mz) ∨ ((v.toInt = 1) ∧ r_ = 1 ∧ M_ = Mz))))
theorem lf_c_X2_habitValue_0  (b : Nat) (hb : b < 3) : vF b 2 := by unfold vF; omega
theorem lf_c_X2_habitValue_1  (b : Nat) (hb : b < 3) : vF b 2 := by unfold vF; omega
theorem lf_c_X2_habitValue_2 (M11_ : mM) (M15_ : mM) (M19_ : mM) (M23_ : mM) (M7_ : mM) (Mz : mM) (b : Nat) (v : Int32) (u : Int32) (t : Int32) (s : Int32) (q : Int32) (hb : b < 3) (hM8_ : M7_ = up Mz (29, b, 0) 0 v) (hM12_ : M11_ = up M7_ (29, b, 0) 1 u) (hM16_ : M15_ = up M11_ (29, b, 0) 2 t) (hM20_ : M19_ = up M15_ (29, b, 0) 3 s) (hM24_ : M23_ = up M19_ (29, b, 0) 4 q) : vF b 2 := by have r_v := rngI v; have r_u := rngI u; have r_t := rngI t; have r_s := rngI s; have r_q := rngI q; unfold vF; omega
theorem lf_c_X2_habitValue_3 (M11_ : mM) (M15_ : mM) (M19_ : mM) (M23_ : mM) (M7_ : mM) (Mz : mM) (b : Nat) (v : Int32) (u : Int32) (t : Int32) (s : Int32) (q : Int32) (hb : b < 3) (hM8_ : M7_ = up Mz (29, b, 0) 0 v) (hM12_ : M11_ = up M7_ (29, b, 0) 1 u) (hM16_ : M15_ = up M11_ (29, b, 0) 2 t) (hM20_ : M19_ = up M15_ (29, b, 0) 3 s) (hM24_ : M23_ = up M19_ (29, b, 0) 4 q) : vF b 2 := by have r_v := rngI v; have r_u := rngI u; have r_t := rngI t; have r_s := rngI s; have r_q := rngI q; unfold vF; omega
set_option maxHeartbeats 4000000 in
set_option maxRecDepth 100000 in
theorem c_X2_habitValue (l : Launch) (G : va_G) (cy : Nat → ClassId) (ad : rf → Nat) (d : Nat) (b : Nat) (v : Int32) (u : Int32) (t : Int32) (s : Int32) (q : Int32) (Mz : mM) (hIz : Inv Mz) (hb : b < 3) : WP CC l G cy ad yX2_habitValue cX2_habitValue 6 (some .int) (d + 1) 0 [(0, vR (2, b, 0)), (1, vI v), (2, vI u), (3, vI t), (4, vI s), (5, vI q)] [] Mz (fun r M' => Inv M' ∧ FR (S_c_X2_habitValue b) Mz M' ∧ (True) ∧ SP_X2_habitValue b v u t s q Mz r M') := by
  have hFz : FR (S_c_X2_habitValue b) Mz Mz := FR.self
  refine w_aload_n dX2_habitValue_0 rfl 0 rfl ?_
  refine w_getR (c' := (28, b, 0)) fl_RX2_30 rfl rfl (ic_2 hb) dX2_habitValue_1 rfl ?_
  refine w_iconst (v := 2) dX2_habitValue_4 (by decide) ?_
  refine w_aaldL 2 rfl rfl rfl (fun _ => rfl) (ic_28 hb) li_2 (by decide) dX2_habitValue_5 ?_
  refine w_callV (as := []) (rest := []) (c_X1_isGiven l G cy ad d b 2 Mz hIz (lf_c_X2_habitValue_0 b hb)) kV_X1_isGiven (by decide +kernel) (Nat.le_of_ble_eq_true rfl) m_877 rfl rfl rfl (ic_1 (lf_c_X2_habitValue_1 b hb)) rfl rfl (by decide) (Nat.le_of_ble_eq_true rfl) dX2_habitValue_6 (fun r1_ M2_ q3_ => ?_)
  obtain ⟨rfl, h4_, hs5_⟩ := q3_
  refine w_if_ne (tgt := 23) dX2_habitValue_9 (by decide) (rfl : r1_.toInt = r1_.toInt) (fun h6_ => ?_) (fun h6_ => ?_)
  · refine w_aload_n dX2_habitValue_23 rfl 0 rfl ?_
    refine w_getR (c' := (29, b, 0)) fl_RX2_34 rfl rfl (ic_2 hb) dX2_habitValue_24 rfl ?_
    refine w_iconst (v := 0) dX2_habitValue_27 (by decide) ?_
    refine w_iload_n dX2_habitValue_28 rfl 1 rfl ?_
    refine w_iastL 0 CC_nd rfl rfl (ic_29 hb) li_0 (by decide) dX2_habitValue_29 (fun M7_ hM8_ => ?_)
    have hI9_ := hIz.put hM8_ trivial
    have hF10_ := hFz.put hM8_ (Or.inl ⟨rfl, rfl, rfl⟩)
    refine w_aload_n dX2_habitValue_30 rfl 0 rfl ?_
    refine w_getR (c' := (29, b, 0)) fl_RX2_34 rfl rfl (ic_2 hb) dX2_habitValue_31 rfl ?_
    refine w_iconst (v := 1) dX2_habitValue_34 (by decide) ?_
    refine w_iload_n dX2_habitValue_35 rfl 2 rfl ?_
    refine w_iastL 1 CC_nd rfl rfl (ic_29 hb) li_1 (by decide) dX2_habitValue_36 (fun M11_ hM12_ => ?_)
    have hI13_ := hI9_.put hM12_ trivial
    have hF14_ := hF10_.put hM12_ (Or.inr (Or.inl ⟨rfl, rfl, rfl⟩))
    refine w_aload_n dX2_habitValue_37 rfl 0 rfl ?_
    refine w_getR (c' := (29, b, 0)) fl_RX2_34 rfl rfl (ic_2 hb) dX2_habitValue_38 rfl ?_
    refine w_iconst (v := 2) dX2_habitValue_41 (by decide) ?_
    refine w_iload_n dX2_habitValue_42 rfl 3 rfl ?_
    refine w_iastL 2 CC_nd rfl rfl (ic_29 hb) li_2 (by decide) dX2_habitValue_43 (fun M15_ hM16_ => ?_)
    have hI17_ := hI13_.put hM16_ trivial
    have hF18_ := hF14_.put hM16_ (Or.inr (Or.inr (Or.inl ⟨rfl, rfl, rfl⟩)))
    refine w_aload_n dX2_habitValue_44 rfl 0 rfl ?_
    refine w_getR (c' := (29, b, 0)) fl_RX2_34 rfl rfl (ic_2 hb) dX2_habitValue_45 rfl ?_
    refine w_iconst (v := 3) dX2_habitValue_48 (by decide) ?_
    refine w_iload dX2_habitValue_49 4 rfl ?_
    refine w_iastL 3 CC_nd rfl rfl (ic_29 hb) li_3 (by decide) dX2_habitValue_51 (fun M19_ hM20_ => ?_)
    have hI21_ := hI17_.put hM20_ trivial
    have hF22_ := hF18_.put hM20_ (Or.inr (Or.inr (Or.inr (Or.inl ⟨rfl, rfl, rfl⟩))))
    refine w_aload_n dX2_habitValue_52 rfl 0 rfl ?_
    refine w_getR (c' := (29, b, 0)) fl_RX2_34 rfl rfl (ic_2 hb) dX2_habitValue_53 rfl ?_
    refine w_iconst (v := 4) dX2_habitValue_56 (by decide) ?_
    refine w_iload dX2_habitValue_57 5 rfl ?_
    refine w_iastL 4 CC_nd rfl rfl (ic_29 hb) li_4 (by decide) dX2_habitValue_59 (fun M23_ hM24_ => ?_)
    have hI25_ := hI21_.put hM24_ trivial
    have hF26_ := hF22_.put hM24_ (Or.inr (Or.inr (Or.inr (Or.inr (Or.inl ⟨rfl, rfl, rfl⟩)))))
    refine w_aload_n dX2_habitValue_60 rfl 0 rfl ?_
    refine w_getR (c' := (28, b, 0)) fl_RX2_30 rfl rfl (ic_2 hb) dX2_habitValue_61 rfl ?_
    refine w_iconst (v := 2) dX2_habitValue_64 (by decide) ?_
    refine w_aaldL 2 rfl rfl rfl (fun _ => rfl) (ic_28 hb) li_2 (by decide) dX2_habitValue_65 ?_
    refine w_aload_n dX2_habitValue_66 rfl 0 rfl ?_
    refine w_getR (c' := (29, b, 0)) fl_RX2_34 rfl rfl (ic_2 hb) dX2_habitValue_67 rfl ?_
    refine w_callV (as := [vR (29, b, 0)]) (rest := []) (c_X1_work l G cy ad d b 2 b M23_ hI25_ (lf_c_X2_habitValue_2 M11_ M15_ M19_ M23_ M7_ Mz b v u t s q hb hM8_ hM12_ hM16_ hM20_ hM24_) hb) kV_X1_work (by decide +kernel) (Nat.le_of_ble_eq_true rfl) m_881 rfl rfl rfl (ic_1 (lf_c_X2_habitValue_3 M11_ M15_ M19_ M23_ M7_ Mz b v u t s q hb hM8_ hM12_ hM16_ hM20_ hM24_)) rfl rfl (by decide) (Nat.le_of_ble_eq_true rfl) dX2_habitValue_70 (fun r27_ M28_ q29_ => ?_)
    obtain ⟨hI31_, hF32_, h30_, hs34_⟩ := q29_
    have hF33_ := hF26_.tr hF32_ (fun c k => (fun h => h.elim (fun h => (Or.inr (Or.inr (Or.inr (Or.inr (Or.inr (Or.inl ⟨h.1, h.2.1, h.2.2⟩))))))) (fun h => h.elim)))
    exact w_iret rfl dX2_habitValue_73 ⟨hI31_, hF33_, trivial, ⟨r1_, hs5_, h4_, (Or.inl ⟨h6_, M7_, hM8_, M11_, hM12_, M15_, hM16_, M19_, hM20_, M23_, hM24_, hI25_, M28_, hI31_, hF32_, r27_, hs34_, rfl, rfl⟩)⟩⟩
  · refine w_iload_n dX2_habitValue_12 rfl 1 rfl ?_
    refine w_iconst (v := 1) dX2_habitValue_13 (by decide) ?_
    refine w_icmp_ne (tgt := 21) dX2_habitValue_14 (by decide) (rfl : v.toInt = v.toInt) li_1 (fun h35_ => ?_) (fun h35_ => ?_)
    · refine w_iconst (v := 0) dX2_habitValue_21 (by decide) ?_
      exact w_iret rfl dX2_habitValue_22 ⟨hIz, hFz, trivial, ⟨r1_, hs5_, h4_, (Or.inr ⟨h6_, (Or.inl ⟨h35_, rfl, rfl⟩)⟩)⟩⟩
    · refine w_iconst (v := 1) dX2_habitValue_17 (by decide) ?_
      refine w_goto (tgt := 22) dX2_habitValue_18 (by decide) ?_
      exact w_iret rfl dX2_habitValue_22 ⟨hIz, hFz, trivial, ⟨r1_, hs5_, h4_, (Or.inr ⟨h6_, (Or.inr ⟨h35_, rfl, rfl⟩)⟩)⟩⟩
def S_c_X2_kindsAlike (b : Nat) : rf → Nat → Prop := fun c k => (c.1 = 29 ∧ c.2.1 = b ∧ k = 0) ∨ (c.1 = 29 ∧ c.2.1 = b ∧ k = 1) ∨ (c.1 = 29 ∧ c.2.1 = b ∧ k = 2) ∨ (c.1 = 29 ∧ c.2.1 = b ∧ k = 3) ∨ (c.1 = 25 ∧ c.2.1 = b ∧ c.2.2 = 0) ∨ (c.1 = 25 ∧ c.2.1 = b ∧ c.2.2 = 1) ∨ False
def ST_X2_kindsAlike_6 (b : Nat) (v : Int32) (u : Int32) (t : Int32) (s : Int32) (q : Int32) (Mz : mM) (v7_6 : Int32) (v6_6 : Int32) (M_6 : mM) (v7_6y : Int32) (v6_6y : Int32) (M_6y : mM) : Prop := (0 ≤ v7_6.toInt) ∧ (v7_6.toInt ≤ 5) ∧ (Inv M_6) ∧ (FR (S_c_X2_kindsAlike b) Mz M_6) ∧ (v7_6.toInt < 5) ∧ ∃ M4_ : mM, (Inv M4_) ∧ (FR (S_c_X2_strength b) M_6 M4_) ∧ ∃ r3_ : Int32, (SP_X2_strength b v7_6 u t M_6 r3_ M4_) ∧ (((¬ r3_.toInt = q.toInt) ∧ ∃ z12_ : Int32, (z12_.toInt = v7_6.toInt + 1) ∧ v7_6y = z12_ ∧ v6_6y = v6_6 ∧ M_6y = M4_) ∨ ((r3_.toInt = q.toInt) ∧ ∃ M15_ : mM, (Inv M15_) ∧ (FR (S_c_X2_hears b) M4_ M15_) ∧ ∃ r14_ : Int32, (SP_X2_hears b v v7_6 u t s M4_ r14_ M15_) ∧ ((0 ≤ r14_.toInt ∧ r14_.toInt ≤ 1)) ∧ (((r14_.toInt = 0) ∧ ∃ z23_ : Int32, (z23_.toInt = v7_6.toInt + 1) ∧ v7_6y = z23_ ∧ v6_6y = v6_6 ∧ M_6y = M15_) ∨ ((¬ r14_.toInt = 0) ∧ ∃ z25_ : Int32, (z25_ = (1 : Int32) <<< (v7_6 &&& 31)) ∧ ∃ z27_ : Int32, (z27_ = v6_6 ||| z25_) ∧ ∃ z29_ : Int32, (z29_.toInt = v7_6.toInt + 1) ∧ v7_6y = z29_ ∧ v6_6y = z27_ ∧ M_6y = M15_))))
def SP_X2_kindsAlike (b : Nat) (v : Int32) (u : Int32) (t : Int32) (s : Int32) (q : Int32) (Mz : mM) (r_ : Int32) (M_ : mM) : Prop := ∃ v7_6 : Int32, (0 ≤ v7_6.toInt) ∧ (v7_6.toInt ≤ 5) ∧ ∃ v6_6 : Int32, ∃ M_6 : mM, (RCH (fun x_ y_ => ST_X2_kindsAlike_6 b v u t s q Mz x_.1 x_.2.1 x_.2.2 y_.1 y_.2.1 y_.2.2) ((0 : Int32), (0 : Int32), Mz) (v7_6, v6_6, M_6)) ∧ (Inv M_6) ∧ (FR (S_c_X2_kindsAlike b) Mz M_6) ∧ (5 ≤ v7_6.toInt) ∧ r_ = v6_6 ∧ M_ = M_6
theorem lf_c_X2_kindsAlike_0  (v7_6 : Int32) (hv0_6 : 0 ≤ v7_6.toInt) (hv1_6 : v7_6.toInt ≤ 5) (h2_ : v7_6.toInt < 5) : -2147483648 ≤ v7_6.toInt + 1 ∧ v7_6.toInt + 1 < 2147483648 := by have r_v7_6 := rngI v7_6; omega
theorem lf_c_X2_kindsAlike_1  (v7_6 : Int32) (z12_ : Int32) (hv0_6 : 0 ≤ v7_6.toInt) (hv1_6 : v7_6.toInt ≤ 5) (h2_ : v7_6.toInt < 5) (h13_ : z12_.toInt = v7_6.toInt + 1) : 0 ≤ z12_.toInt := by have r_v7_6 := rngI v7_6; have r_z12_ := rngI z12_; omega
theorem lf_c_X2_kindsAlike_2  (v7_6 : Int32) (z12_ : Int32) (hv0_6 : 0 ≤ v7_6.toInt) (hv1_6 : v7_6.toInt ≤ 5) (h2_ : v7_6.toInt < 5) (h13_ : z12_.toInt = v7_6.toInt + 1) : z12_.toInt ≤ 5 := by have r_v7_6 := rngI v7_6; have r_z12_ := rngI z12_; omega
theorem lf_c_X2_kindsAlike_3  (v7_6 : Int32) (z12_ : Int32) (hv0_6 : 0 ≤ v7_6.toInt) (hv1_6 : v7_6.toInt ≤ 5) (h2_ : v7_6.toInt < 5) (h13_ : z12_.toInt = v7_6.toInt + 1) : (2147483648 - z12_.toInt).toNat < (2147483648 - v7_6.toInt).toNat := by have r_v7_6 := rngI v7_6; have r_z12_ := rngI z12_; omega
theorem lf_c_X2_kindsAlike_4  (v7_6 : Int32) (hv0_6 : 0 ≤ v7_6.toInt) (hv1_6 : v7_6.toInt ≤ 5) (h2_ : v7_6.toInt < 5) : -2147483648 ≤ v7_6.toInt + 1 ∧ v7_6.toInt + 1 < 2147483648 := by have r_v7_6 := rngI v7_6; omega
theorem lf_c_X2_kindsAlike_5  (v7_6 : Int32) (z23_ : Int32) (hv0_6 : 0 ≤ v7_6.toInt) (hv1_6 : v7_6.toInt ≤ 5) (h2_ : v7_6.toInt < 5) (h24_ : z23_.toInt = v7_6.toInt + 1) : 0 ≤ z23_.toInt := by have r_v7_6 := rngI v7_6; have r_z23_ := rngI z23_; omega
theorem lf_c_X2_kindsAlike_6  (v7_6 : Int32) (z23_ : Int32) (hv0_6 : 0 ≤ v7_6.toInt) (hv1_6 : v7_6.toInt ≤ 5) (h2_ : v7_6.toInt < 5) (h24_ : z23_.toInt = v7_6.toInt + 1) : z23_.toInt ≤ 5 := by have r_v7_6 := rngI v7_6; have r_z23_ := rngI z23_; omega
theorem lf_c_X2_kindsAlike_7  (v7_6 : Int32) (z23_ : Int32) (hv0_6 : 0 ≤ v7_6.toInt) (hv1_6 : v7_6.toInt ≤ 5) (h2_ : v7_6.toInt < 5) (h24_ : z23_.toInt = v7_6.toInt + 1) : (2147483648 - z23_.toInt).toNat < (2147483648 - v7_6.toInt).toNat := by have r_v7_6 := rngI v7_6; have r_z23_ := rngI z23_; omega
theorem lf_c_X2_kindsAlike_8  (v7_6 : Int32) (hv0_6 : 0 ≤ v7_6.toInt) (hv1_6 : v7_6.toInt ≤ 5) (h2_ : v7_6.toInt < 5) : -2147483648 ≤ v7_6.toInt + 1 ∧ v7_6.toInt + 1 < 2147483648 := by have r_v7_6 := rngI v7_6; omega
theorem lf_c_X2_kindsAlike_9  (v7_6 : Int32) (z29_ : Int32) (hv0_6 : 0 ≤ v7_6.toInt) (hv1_6 : v7_6.toInt ≤ 5) (h2_ : v7_6.toInt < 5) (h30_ : z29_.toInt = v7_6.toInt + 1) : 0 ≤ z29_.toInt := by have r_v7_6 := rngI v7_6; have r_z29_ := rngI z29_; omega
theorem lf_c_X2_kindsAlike_10  (v7_6 : Int32) (z29_ : Int32) (hv0_6 : 0 ≤ v7_6.toInt) (hv1_6 : v7_6.toInt ≤ 5) (h2_ : v7_6.toInt < 5) (h30_ : z29_.toInt = v7_6.toInt + 1) : z29_.toInt ≤ 5 := by have r_v7_6 := rngI v7_6; have r_z29_ := rngI z29_; omega
theorem lf_c_X2_kindsAlike_11  (v7_6 : Int32) (z29_ : Int32) (hv0_6 : 0 ≤ v7_6.toInt) (hv1_6 : v7_6.toInt ≤ 5) (h2_ : v7_6.toInt < 5) (h30_ : z29_.toInt = v7_6.toInt + 1) : (2147483648 - z29_.toInt).toNat < (2147483648 - v7_6.toInt).toNat := by have r_v7_6 := rngI v7_6; have r_z29_ := rngI z29_; omega
theorem lf_c_X2_kindsAlike_12    : 0 ≤ (0 : Int32).toInt := by have q0 := li_0; omega
theorem lf_c_X2_kindsAlike_13    : (0 : Int32).toInt ≤ 5 := by have q0 := li_0; omega
set_option maxHeartbeats 4000000 in
set_option maxRecDepth 100000 in
theorem c_X2_kindsAlike (l : Launch) (G : va_G) (cy : Nat → ClassId) (ad : rf → Nat) (d : Nat) (b : Nat) (v : Int32) (u : Int32) (t : Int32) (s : Int32) (q : Int32) (Mz : mM) (hIz : Inv Mz) (hb : b < 3) : WP CC l G cy ad yX2_kindsAlike cX2_kindsAlike 8 (some .int) (d + 3) 0 [(0, vR (2, b, 0)), (1, vI v), (2, vI u), (3, vI t), (4, vI s), (5, vI q)] [] Mz (fun r M' => Inv M' ∧ FR (S_c_X2_kindsAlike b) Mz M' ∧ (True) ∧ SP_X2_kindsAlike b v u t s q Mz r M') := by
  have hFz : FR (S_c_X2_kindsAlike b) Mz Mz := FR.self
  refine w_iconst (v := 0) dX2_kindsAlike_0 (by decide) ?_
  refine w_istore (ls' := [(6, vI 0), (0, vR (2, b, 0)), (1, vI v), (2, vI u), (3, vI t), (4, vI s), (5, vI q)]) dX2_kindsAlike_1 (by decide) rfl ?_
  refine w_iconst (v := 0) dX2_kindsAlike_3 (by decide) ?_
  refine w_istore (ls' := [(7, vI 0), (6, vI 0), (0, vR (2, b, 0)), (1, vI v), (2, vI u), (3, vI t), (4, vI s), (5, vI q)]) dX2_kindsAlike_4 (by decide) rfl ?_
  have lp1_ : ∀ (nn_6 : Nat) (M_6 : mM) (hI_6 : Inv M_6) (hF_6 : FR (S_c_X2_kindsAlike b) Mz M_6) (v7_6 : Int32) (v6_6 : Int32) (hv0_6 : 0 ≤ v7_6.toInt) (hv1_6 : v7_6.toInt ≤ 5) (hL_6 : RCH (fun x_ y_ => ST_X2_kindsAlike_6 b v u t s q Mz x_.1 x_.2.1 x_.2.2 y_.1 y_.2.1 y_.2.2) ((0 : Int32), (0 : Int32), Mz) (v7_6, v6_6, M_6)), (2147483648 - v7_6.toInt).toNat < nn_6 → WP CC l G cy ad yX2_kindsAlike cX2_kindsAlike 8 (some .int) (d + 3) 6 [(7, vI v7_6), (6, vI v6_6), (0, vR (2, b, 0)), (1, vI v), (2, vI u), (3, vI t), (4, vI s), (5, vI q)] [] M_6 (fun r M' => Inv M' ∧ FR (S_c_X2_kindsAlike b) Mz M' ∧ (True) ∧ SP_X2_kindsAlike b v u t s q Mz r M') := by
    intro nn_6
    induction nn_6 with
    | zero => intro M_6 hI_6 hF_6 v7_6 v6_6 hv0_6 hv1_6 hL_6 hm_6; exact absurd hm_6 (Nat.not_lt_zero _)
    | succ nn_6 ih_6 =>
      intro M_6 hI_6 hF_6 v7_6 v6_6 hv0_6 hv1_6 hL_6 hm_6
      refine w_iload dX2_kindsAlike_6 0 rfl ?_
      refine w_iconst (v := 5) dX2_kindsAlike_8 (by decide) ?_
      refine w_icmp_ge (tgt := 54) dX2_kindsAlike_9 (by decide) (rfl : v7_6.toInt = v7_6.toInt) li_5 (fun h2_ => ?_) (fun h2_ => ?_)
      · refine w_iload dX2_kindsAlike_54 1 rfl ?_
        exact w_iret rfl dX2_kindsAlike_56 ⟨hI_6, hF_6, trivial, ⟨v7_6, hv0_6, hv1_6, v6_6, M_6, hL_6, hI_6, hF_6, h2_, rfl, rfl⟩⟩
      · refine w_aload_n dX2_kindsAlike_12 rfl 2 rfl ?_
        refine w_iload dX2_kindsAlike_13 0 rfl ?_
        refine w_iload_n dX2_kindsAlike_15 rfl 4 rfl ?_
        refine w_iload_n dX2_kindsAlike_16 rfl 5 rfl ?_
        refine w_callV (as := [vI v7_6, vI u, vI t]) (rest := []) (c_X2_strength l G cy ad (d + 1) b v7_6 u t M_6 hI_6 hb) kV_X2_strength (by decide +kernel) (Nat.le_of_ble_eq_true rfl) m_913 rfl rfl rfl (ic_2 hb) rfl rfl (by decide) (Nat.le_of_ble_eq_true rfl) dX2_kindsAlike_17 (fun r3_ M4_ q5_ => ?_)
        obtain ⟨hI7_, hF8_, h6_, hs10_⟩ := q5_
        have hF9_ := hF_6.tr hF8_ (fun c k => (fun h => h.elim (fun h => (Or.inl ⟨h.1, h.2.1, h.2.2⟩)) (fun h => h.elim (fun h => (Or.inr (Or.inl ⟨h.1, h.2.1, h.2.2⟩))) (fun h => h.elim (fun h => (Or.inr (Or.inr (Or.inl ⟨h.1, h.2.1, h.2.2⟩)))) (fun h => h.elim (fun h => (Or.inr (Or.inr (Or.inr (Or.inl ⟨h.1, h.2.1, h.2.2⟩))))) (fun h => h.elim (fun h => (Or.inr (Or.inr (Or.inr (Or.inr (Or.inl ⟨h.1, h.2.1, h.2.2⟩)))))) (fun h => h.elim)))))))
        refine w_iload dX2_kindsAlike_20 7 rfl ?_
        refine w_icmp_ne (tgt := 48) dX2_kindsAlike_22 (by decide) (rfl : r3_.toInt = r3_.toInt) (rfl : q.toInt = q.toInt) (fun h11_ => ?_) (fun h11_ => ?_)
        · refine w_iincB (j := 0) (f := fun z12_ => [(7, vI z12_), (6, vI v6_6), (0, vR (2, b, 0)), (1, vI v), (2, vI u), (3, vI t), (4, vI s), (5, vI q)]) dX2_kindsAlike_48 rfl (by decide) (fun _ => rfl) (rfl : v7_6.toInt = v7_6.toInt) li_1 (lf_c_X2_kindsAlike_0 v7_6 hv0_6 hv1_6 h2_) (fun z12_ h13_ => ?_)
          refine w_goto (tgt := 6) dX2_kindsAlike_51 (by decide) ?_
          refine w_loc (ls' := [(7, vI z12_), (6, vI v6_6), (0, vR (2, b, 0)), (1, vI v), (2, vI u), (3, vI t), (4, vI s), (5, vI q)]) [0, 1, 2, 3, 4, 5, 6, 7] rfl ?_
          exact ih_6 M4_ hI7_ hF9_ z12_ v6_6 (lf_c_X2_kindsAlike_1 v7_6 z12_ hv0_6 hv1_6 h2_ h13_) (lf_c_X2_kindsAlike_2 v7_6 z12_ hv0_6 hv1_6 h2_ h13_) (RCH.tail hL_6 ⟨hv0_6, hv1_6, hI_6, hF_6, h2_, M4_, hI7_, hF8_, r3_, hs10_, (Or.inl ⟨h11_, z12_, h13_, rfl, rfl, rfl⟩)⟩) (Nat.lt_of_lt_of_le (lf_c_X2_kindsAlike_3 v7_6 z12_ hv0_6 hv1_6 h2_ h13_) (Nat.le_of_lt_succ hm_6))
        · refine w_aload_n dX2_kindsAlike_25 rfl 2 rfl ?_
          refine w_iload_n dX2_kindsAlike_26 rfl 3 rfl ?_
          refine w_iload dX2_kindsAlike_27 0 rfl ?_
          refine w_iload_n dX2_kindsAlike_29 rfl 4 rfl ?_
          refine w_iload_n dX2_kindsAlike_30 rfl 5 rfl ?_
          refine w_iload dX2_kindsAlike_31 6 rfl ?_
          refine w_callV (as := [vI v, vI v7_6, vI u, vI t, vI s]) (rest := []) (c_X2_hears l G cy ad d b v v7_6 u t s M4_ hI7_ hb) kV_X2_hears (by decide +kernel) (Nat.le_of_ble_eq_true rfl) m_956 rfl rfl rfl (ic_2 hb) rfl rfl (by decide) (Nat.le_of_ble_eq_true rfl) dX2_kindsAlike_33 (fun r14_ M15_ q16_ => ?_)
          obtain ⟨hI18_, hF19_, h17_, hs21_⟩ := q16_
          have hF20_ := hF9_.tr hF19_ (fun c k => (fun h => h.elim (fun h => (Or.inl ⟨h.1, h.2.1, h.2.2⟩)) (fun h => h.elim (fun h => (Or.inr (Or.inl ⟨h.1, h.2.1, h.2.2⟩))) (fun h => h.elim (fun h => (Or.inr (Or.inr (Or.inl ⟨h.1, h.2.1, h.2.2⟩)))) (fun h => h.elim (fun h => (Or.inr (Or.inr (Or.inr (Or.inl ⟨h.1, h.2.1, h.2.2⟩))))) (fun h => h.elim (fun h => (Or.inr (Or.inr (Or.inr (Or.inr (Or.inl ⟨h.1, h.2.1, h.2.2⟩)))))) (fun h => h.elim (fun h => (Or.inr (Or.inr (Or.inr (Or.inr (Or.inr (Or.inl ⟨h.1, h.2.1, h.2.2⟩))))))) (fun h => h.elim))))))))
          refine w_if_eq (tgt := 48) dX2_kindsAlike_36 (by decide) (rfl : r14_.toInt = r14_.toInt) (fun h22_ => ?_) (fun h22_ => ?_)
          · refine w_iincB (j := 0) (f := fun z23_ => [(7, vI z23_), (6, vI v6_6), (0, vR (2, b, 0)), (1, vI v), (2, vI u), (3, vI t), (4, vI s), (5, vI q)]) dX2_kindsAlike_48 rfl (by decide) (fun _ => rfl) (rfl : v7_6.toInt = v7_6.toInt) li_1 (lf_c_X2_kindsAlike_4 v7_6 hv0_6 hv1_6 h2_) (fun z23_ h24_ => ?_)
            refine w_goto (tgt := 6) dX2_kindsAlike_51 (by decide) ?_
            refine w_loc (ls' := [(7, vI z23_), (6, vI v6_6), (0, vR (2, b, 0)), (1, vI v), (2, vI u), (3, vI t), (4, vI s), (5, vI q)]) [0, 1, 2, 3, 4, 5, 6, 7] rfl ?_
            exact ih_6 M15_ hI18_ hF20_ z23_ v6_6 (lf_c_X2_kindsAlike_5 v7_6 z23_ hv0_6 hv1_6 h2_ h24_) (lf_c_X2_kindsAlike_6 v7_6 z23_ hv0_6 hv1_6 h2_ h24_) (RCH.tail hL_6 ⟨hv0_6, hv1_6, hI_6, hF_6, h2_, M4_, hI7_, hF8_, r3_, hs10_, (Or.inr ⟨h11_, M15_, hI18_, hF19_, r14_, hs21_, h17_, (Or.inl ⟨h22_, z23_, h24_, rfl, rfl, rfl⟩)⟩)⟩) (Nat.lt_of_lt_of_le (lf_c_X2_kindsAlike_7 v7_6 z23_ hv0_6 hv1_6 h2_ h24_) (Nat.le_of_lt_succ hm_6))
          · refine w_iload dX2_kindsAlike_39 1 rfl ?_
            refine w_iconst (v := 1) dX2_kindsAlike_41 (by decide) ?_
            refine w_iload dX2_kindsAlike_42 0 rfl ?_
            refine w_ishl dX2_kindsAlike_44 (fun z25_ h26_ => ?_)
            refine w_ior dX2_kindsAlike_45 (fun z27_ h28_ => ?_)
            refine w_istore (ls' := [(6, vI z27_), (7, vI v7_6), (0, vR (2, b, 0)), (1, vI v), (2, vI u), (3, vI t), (4, vI s), (5, vI q)]) dX2_kindsAlike_46 (by decide) rfl ?_
            refine w_iincB (j := 1) (f := fun z29_ => [(7, vI z29_), (6, vI z27_), (0, vR (2, b, 0)), (1, vI v), (2, vI u), (3, vI t), (4, vI s), (5, vI q)]) dX2_kindsAlike_48 rfl (by decide) (fun _ => rfl) (rfl : v7_6.toInt = v7_6.toInt) li_1 (lf_c_X2_kindsAlike_8 v7_6 hv0_6 hv1_6 h2_) (fun z29_ h30_ => ?_)
            refine w_goto (tgt := 6) dX2_kindsAlike_51 (by decide) ?_
            refine w_loc (ls' := [(7, vI z29_), (6, vI z27_), (0, vR (2, b, 0)), (1, vI v), (2, vI u), (3, vI t), (4, vI s), (5, vI q)]) [0, 1, 2, 3, 4, 5, 6, 7] rfl ?_
            exact ih_6 M15_ hI18_ hF20_ z29_ z27_ (lf_c_X2_kindsAlike_9 v7_6 z29_ hv0_6 hv1_6 h2_ h30_) (lf_c_X2_kindsAlike_10 v7_6 z29_ hv0_6 hv1_6 h2_ h30_) (RCH.tail hL_6 ⟨hv0_6, hv1_6, hI_6, hF_6, h2_, M4_, hI7_, hF8_, r3_, hs10_, (Or.inr ⟨h11_, M15_, hI18_, hF19_, r14_, hs21_, h17_, (Or.inr ⟨h22_, z25_, h26_, z27_, h28_, z29_, h30_, rfl, rfl, rfl⟩)⟩)⟩) (Nat.lt_of_lt_of_le (lf_c_X2_kindsAlike_11 v7_6 z29_ hv0_6 hv1_6 h2_ h30_) (Nat.le_of_lt_succ hm_6))
  exact lp1_ _ Mz hIz hFz 0 0 (lf_c_X2_kindsAlike_12 ) (lf_c_X2_kindsAlike_13 ) RCH.refl (Nat.lt_succ_self _)
def S_c_X2_leastPitch (b : Nat) : rf → Nat → Prop := fun c k => (c.1 = 29 ∧ c.2.1 = b ∧ k = 0) ∨ (c.1 = 29 ∧ c.2.1 = b ∧ k = 1) ∨ (c.1 = 29 ∧ c.2.1 = b ∧ k = 2) ∨ (c.1 = 29 ∧ c.2.1 = b ∧ k = 3) ∨ (c.1 = 25 ∧ c.2.1 = b ∧ c.2.2 = 0) ∨ (c.1 = 25 ∧ c.2.1 = b ∧ c.2.2 = 1) ∨ False
def ST_X2_leastPitch_3 (b : Nat) (v : Int32) (u : Int32) (t : Int32) (Mz : mM) (v4_3 : Int32) (M_3 : mM) (v4_3y : Int32) (M_3y : mM) : Prop := (1 ≤ v4_3.toInt) ∧ (v4_3.toInt ≤ 10) ∧ (Inv M_3) ∧ (FR (S_c_X2_leastPitch b) Mz M_3) ∧ (v4_3.toInt ≤ 9) ∧ ∃ z3_ : Int32, (z3_.toInt = 100 * v4_3.toInt) ∧ ∃ z5_ : Int32, (z5_.toInt = z3_.toInt + 99) ∧ ∃ M8_ : mM, (Inv M8_) ∧ (FR (S_c_X2_hears b) M_3 M8_) ∧ ∃ r7_ : Int32, (SP_X2_hears b v u z5_ t 0 M_3 r7_ M8_) ∧ ((0 ≤ r7_.toInt ∧ r7_.toInt ≤ 1)) ∧ (r7_.toInt = 0) ∧ ∃ z16_ : Int32, (z16_.toInt = v4_3.toInt + 1) ∧ v4_3y = z16_ ∧ M_3y = M8_
def SP_X2_leastPitch (b : Nat) (v : Int32) (u : Int32) (t : Int32) (Mz : mM) (r_ : Int32) (M_ : mM) : Prop := ∃ v4_3 : Int32, (1 ≤ v4_3.toInt) ∧ (v4_3.toInt ≤ 10) ∧ ∃ M_3 : mM, (RCH (fun x_ y_ => ST_X2_leastPitch_3 b v u t Mz x_.1 x_.2 y_.1 y_.2) ((1 : Int32), Mz) (v4_3, M_3)) ∧ (Inv M_3) ∧ (FR (S_c_X2_leastPitch b) Mz M_3) ∧ (((9 < v4_3.toInt) ∧ r_ = 0 ∧ M_ = M_3) ∨ ((v4_3.toInt ≤ 9) ∧ ∃ z3_ : Int32, (z3_.toInt = 100 * v4_3.toInt) ∧ ∃ z5_ : Int32, (z5_.toInt = z3_.toInt + 99) ∧ ∃ M8_ : mM, (Inv M8_) ∧ (FR (S_c_X2_hears b) M_3 M8_) ∧ ∃ r7_ : Int32, (SP_X2_hears b v u z5_ t 0 M_3 r7_ M8_) ∧ ((0 ≤ r7_.toInt ∧ r7_.toInt ≤ 1)) ∧ (¬ r7_.toInt = 0) ∧ r_ = v4_3 ∧ M_ = M8_))
theorem lf_c_X2_leastPitch_0  (v4_3 : Int32) (hv0_3 : 1 ≤ v4_3.toInt) (hv1_3 : v4_3.toInt ≤ 10) (h2_ : v4_3.toInt ≤ 9) : -2147483648 ≤ 100 * v4_3.toInt ∧ 100 * v4_3.toInt < 2147483648 := by have r_v4_3 := rngI v4_3; omega
theorem lf_c_X2_leastPitch_1  (v4_3 : Int32) (z3_ : Int32) (hv0_3 : 1 ≤ v4_3.toInt) (hv1_3 : v4_3.toInt ≤ 10) (h2_ : v4_3.toInt ≤ 9) (h4_ : z3_.toInt = 100 * v4_3.toInt) : -2147483648 ≤ z3_.toInt + 99 ∧ z3_.toInt + 99 < 2147483648 := by have r_v4_3 := rngI v4_3; have r_z3_ := rngI z3_; omega
theorem lf_c_X2_leastPitch_2  (v4_3 : Int32) (z3_ : Int32) (z5_ : Int32) (hv0_3 : 1 ≤ v4_3.toInt) (hv1_3 : v4_3.toInt ≤ 10) (h2_ : v4_3.toInt ≤ 9) (h4_ : z3_.toInt = 100 * v4_3.toInt) (h6_ : z5_.toInt = z3_.toInt + 99) : -2147483648 ≤ v4_3.toInt + 1 ∧ v4_3.toInt + 1 < 2147483648 := by have r_v4_3 := rngI v4_3; have r_z3_ := rngI z3_; have r_z5_ := rngI z5_; omega
theorem lf_c_X2_leastPitch_3  (v4_3 : Int32) (z3_ : Int32) (z5_ : Int32) (z16_ : Int32) (hv0_3 : 1 ≤ v4_3.toInt) (hv1_3 : v4_3.toInt ≤ 10) (h2_ : v4_3.toInt ≤ 9) (h4_ : z3_.toInt = 100 * v4_3.toInt) (h6_ : z5_.toInt = z3_.toInt + 99) (h17_ : z16_.toInt = v4_3.toInt + 1) : 1 ≤ z16_.toInt := by have r_v4_3 := rngI v4_3; have r_z3_ := rngI z3_; have r_z5_ := rngI z5_; have r_z16_ := rngI z16_; omega
theorem lf_c_X2_leastPitch_4  (v4_3 : Int32) (z3_ : Int32) (z5_ : Int32) (z16_ : Int32) (hv0_3 : 1 ≤ v4_3.toInt) (hv1_3 : v4_3.toInt ≤ 10) (h2_ : v4_3.toInt ≤ 9) (h4_ : z3_.toInt = 100 * v4_3.toInt) (h6_ : z5_.toInt = z3_.toInt + 99) (h17_ : z16_.toInt = v4_3.toInt + 1) : z16_.toInt ≤ 10 := by have r_v4_3 := rngI v4_3; have r_z3_ := rngI z3_; have r_z5_ := rngI z5_; have r_z16_ := rngI z16_; omega
theorem lf_c_X2_leastPitch_5  (v4_3 : Int32) (z3_ : Int32) (z5_ : Int32) (z16_ : Int32) (hv0_3 : 1 ≤ v4_3.toInt) (hv1_3 : v4_3.toInt ≤ 10) (h2_ : v4_3.toInt ≤ 9) (h4_ : z3_.toInt = 100 * v4_3.toInt) (h6_ : z5_.toInt = z3_.toInt + 99) (h17_ : z16_.toInt = v4_3.toInt + 1) : (2147483648 - z16_.toInt).toNat < (2147483648 - v4_3.toInt).toNat := by have r_v4_3 := rngI v4_3; have r_z3_ := rngI z3_; have r_z5_ := rngI z5_; have r_z16_ := rngI z16_; omega
theorem lf_c_X2_leastPitch_6    : 1 ≤ (1 : Int32).toInt := by have q0 := li_1; omega
theorem lf_c_X2_leastPitch_7    : (1 : Int32).toInt ≤ 10 := by have q0 := li_1; omega
set_option maxHeartbeats 4000000 in
set_option maxRecDepth 100000 in
theorem c_X2_leastPitch (l : Launch) (G : va_G) (cy : Nat → ClassId) (ad : rf → Nat) (d : Nat) (b : Nat) (v : Int32) (u : Int32) (t : Int32) (Mz : mM) (hIz : Inv Mz) (hb : b < 3) : WP CC l G cy ad yX2_leastPitch cX2_leastPitch 5 (some .int) (d + 3) 0 [(0, vR (2, b, 0)), (1, vI v), (2, vI u), (3, vI t)] [] Mz (fun r M' => Inv M' ∧ FR (S_c_X2_leastPitch b) Mz M' ∧ (True) ∧ SP_X2_leastPitch b v u t Mz r M') := by
  have hFz : FR (S_c_X2_leastPitch b) Mz Mz := FR.self
  refine w_iconst (v := 1) dX2_leastPitch_0 (by decide) ?_
  refine w_istore (ls' := [(4, vI 1), (0, vR (2, b, 0)), (1, vI v), (2, vI u), (3, vI t)]) dX2_leastPitch_1 (by decide) rfl ?_
  have lp1_ : ∀ (nn_3 : Nat) (M_3 : mM) (hI_3 : Inv M_3) (hF_3 : FR (S_c_X2_leastPitch b) Mz M_3) (v4_3 : Int32) (hv0_3 : 1 ≤ v4_3.toInt) (hv1_3 : v4_3.toInt ≤ 10) (hL_3 : RCH (fun x_ y_ => ST_X2_leastPitch_3 b v u t Mz x_.1 x_.2 y_.1 y_.2) ((1 : Int32), Mz) (v4_3, M_3)), (2147483648 - v4_3.toInt).toNat < nn_3 → WP CC l G cy ad yX2_leastPitch cX2_leastPitch 5 (some .int) (d + 3) 3 [(4, vI v4_3), (0, vR (2, b, 0)), (1, vI v), (2, vI u), (3, vI t)] [] M_3 (fun r M' => Inv M' ∧ FR (S_c_X2_leastPitch b) Mz M' ∧ (True) ∧ SP_X2_leastPitch b v u t Mz r M') := by
    intro nn_3
    induction nn_3 with
    | zero => intro M_3 hI_3 hF_3 v4_3 hv0_3 hv1_3 hL_3 hm_3; exact absurd hm_3 (Nat.not_lt_zero _)
    | succ nn_3 ih_3 =>
      intro M_3 hI_3 hF_3 v4_3 hv0_3 hv1_3 hL_3 hm_3
      refine w_iload dX2_leastPitch_3 0 rfl ?_
      refine w_bipush (v := 9) dX2_leastPitch_5 (by decide) ?_
      refine w_icmp_gt (tgt := 38) dX2_leastPitch_7 (by decide) (rfl : v4_3.toInt = v4_3.toInt) li_9 (fun h2_ => ?_) (fun h2_ => ?_)
      · refine w_iconst (v := 0) dX2_leastPitch_38 (by decide) ?_
        exact w_iret rfl dX2_leastPitch_39 ⟨hI_3, hF_3, trivial, ⟨v4_3, hv0_3, hv1_3, M_3, hL_3, hI_3, hF_3, (Or.inl ⟨h2_, rfl, rfl⟩)⟩⟩
      · refine w_aload_n dX2_leastPitch_10 rfl 1 rfl ?_
        refine w_iload_n dX2_leastPitch_11 rfl 2 rfl ?_
        refine w_iload_n dX2_leastPitch_12 rfl 3 rfl ?_
        refine w_bipush (v := 100) dX2_leastPitch_13 (by decide) ?_
        refine w_iload dX2_leastPitch_15 0 rfl ?_
        refine w_imulB dX2_leastPitch_17 li_100 (rfl : v4_3.toInt = v4_3.toInt) (lf_c_X2_leastPitch_0 v4_3 hv0_3 hv1_3 h2_) (fun z3_ h4_ => ?_)
        refine w_bipush (v := 99) dX2_leastPitch_18 (by decide) ?_
        refine w_iaddB dX2_leastPitch_20 (rfl : z3_.toInt = z3_.toInt) li_99 (lf_c_X2_leastPitch_1 v4_3 z3_ hv0_3 hv1_3 h2_ h4_) (fun z5_ h6_ => ?_)
        refine w_iload_n dX2_leastPitch_21 rfl 4 rfl ?_
        refine w_iconst (v := 0) dX2_leastPitch_22 (by decide) ?_
        refine w_callV (as := [vI v, vI u, vI z5_, vI t, vI 0]) (rest := []) (c_X2_hears l G cy ad d b v u z5_ t 0 M_3 hI_3 hb) kV_X2_hears (by decide +kernel) (Nat.le_of_ble_eq_true rfl) m_956 rfl rfl rfl (ic_2 hb) rfl rfl (by decide) (Nat.le_of_ble_eq_true rfl) dX2_leastPitch_23 (fun r7_ M8_ q9_ => ?_)
        obtain ⟨hI11_, hF12_, h10_, hs14_⟩ := q9_
        have hF13_ := hF_3.tr hF12_ (fun c k => (fun h => h.elim (fun h => (Or.inl ⟨h.1, h.2.1, h.2.2⟩)) (fun h => h.elim (fun h => (Or.inr (Or.inl ⟨h.1, h.2.1, h.2.2⟩))) (fun h => h.elim (fun h => (Or.inr (Or.inr (Or.inl ⟨h.1, h.2.1, h.2.2⟩)))) (fun h => h.elim (fun h => (Or.inr (Or.inr (Or.inr (Or.inl ⟨h.1, h.2.1, h.2.2⟩))))) (fun h => h.elim (fun h => (Or.inr (Or.inr (Or.inr (Or.inr (Or.inl ⟨h.1, h.2.1, h.2.2⟩)))))) (fun h => h.elim (fun h => (Or.inr (Or.inr (Or.inr (Or.inr (Or.inr (Or.inl ⟨h.1, h.2.1, h.2.2⟩))))))) (fun h => h.elim))))))))
        refine w_if_eq (tgt := 32) dX2_leastPitch_26 (by decide) (rfl : r7_.toInt = r7_.toInt) (fun h15_ => ?_) (fun h15_ => ?_)
        · refine w_iincB (j := 0) (f := fun z16_ => [(4, vI z16_), (0, vR (2, b, 0)), (1, vI v), (2, vI u), (3, vI t)]) dX2_leastPitch_32 rfl (by decide) (fun _ => rfl) (rfl : v4_3.toInt = v4_3.toInt) li_1 (lf_c_X2_leastPitch_2 v4_3 z3_ z5_ hv0_3 hv1_3 h2_ h4_ h6_) (fun z16_ h17_ => ?_)
          refine w_goto (tgt := 3) dX2_leastPitch_35 (by decide) ?_
          refine w_loc (ls' := [(4, vI z16_), (0, vR (2, b, 0)), (1, vI v), (2, vI u), (3, vI t)]) [0, 1, 2, 3, 4] rfl ?_
          exact ih_3 M8_ hI11_ hF13_ z16_ (lf_c_X2_leastPitch_3 v4_3 z3_ z5_ z16_ hv0_3 hv1_3 h2_ h4_ h6_ h17_) (lf_c_X2_leastPitch_4 v4_3 z3_ z5_ z16_ hv0_3 hv1_3 h2_ h4_ h6_ h17_) (RCH.tail hL_3 ⟨hv0_3, hv1_3, hI_3, hF_3, h2_, z3_, h4_, z5_, h6_, M8_, hI11_, hF12_, r7_, hs14_, h10_, h15_, z16_, h17_, rfl, rfl⟩) (Nat.lt_of_lt_of_le (lf_c_X2_leastPitch_5 v4_3 z3_ z5_ z16_ hv0_3 hv1_3 h2_ h4_ h6_ h17_) (Nat.le_of_lt_succ hm_3))
        · refine w_iload dX2_leastPitch_29 0 rfl ?_
          exact w_iret rfl dX2_leastPitch_31 ⟨hI11_, hF13_, trivial, ⟨v4_3, hv0_3, hv1_3, M_3, hL_3, hI_3, hF_3, (Or.inr ⟨h2_, z3_, h4_, z5_, h6_, M8_, hI11_, hF12_, r7_, hs14_, h10_, h15_, rfl, rfl⟩)⟩⟩
  exact lp1_ _ Mz hIz hFz 1 (lf_c_X2_leastPitch_6 ) (lf_c_X2_leastPitch_7 ) RCH.refl (Nat.lt_succ_self _)
def S_c_X2_leastLoudness (b : Nat) : rf → Nat → Prop := fun c k => (c.1 = 29 ∧ c.2.1 = b ∧ k = 0) ∨ (c.1 = 29 ∧ c.2.1 = b ∧ k = 1) ∨ (c.1 = 29 ∧ c.2.1 = b ∧ k = 2) ∨ (c.1 = 29 ∧ c.2.1 = b ∧ k = 3) ∨ (c.1 = 25 ∧ c.2.1 = b ∧ c.2.2 = 0) ∨ (c.1 = 25 ∧ c.2.1 = b ∧ c.2.2 = 1) ∨ False
def ST_X2_leastLoudness_3 (b : Nat) (v : Int32) (u : Int32) (t : Int32) (Mz : mM) (v4_3 : Int32) (M_3 : mM) (v4_3y : Int32) (M_3y : mM) : Prop := (1 ≤ v4_3.toInt) ∧ (v4_3.toInt ≤ 100) ∧ (Inv M_3) ∧ (FR (S_c_X2_leastLoudness b) Mz M_3) ∧ (v4_3.toInt ≤ 99) ∧ ∃ z3_ : Int32, ((z3_.toInt = 9 ∧ 9 ≤ v.toInt) ∨ (z3_.toInt = v.toInt ∧ v.toInt ≤ 9)) ∧ ∃ z5_ : Int32, (z5_ = (100 : Int32) * z3_) ∧ ∃ z7_ : Int32, (z7_ = z5_ + v4_3) ∧ ∃ M10_ : mM, (Inv M10_) ∧ (FR (S_c_X2_hears b) M_3 M10_) ∧ ∃ r9_ : Int32, (SP_X2_hears b v u z7_ t 0 M_3 r9_ M10_) ∧ ((0 ≤ r9_.toInt ∧ r9_.toInt ≤ 1)) ∧ (r9_.toInt = 0) ∧ ∃ z18_ : Int32, (z18_.toInt = v4_3.toInt + 1) ∧ v4_3y = z18_ ∧ M_3y = M10_
def SP_X2_leastLoudness (b : Nat) (v : Int32) (u : Int32) (t : Int32) (Mz : mM) (r_ : Int32) (M_ : mM) : Prop := ∃ v4_3 : Int32, (1 ≤ v4_3.toInt) ∧ (v4_3.toInt ≤ 100) ∧ ∃ M_3 : mM, (RCH (fun x_ y_ => ST_X2_leastLoudness_3 b v u t Mz x_.1 x_.2 y_.1 y_.2) ((1 : Int32), Mz) (v4_3, M_3)) ∧ (Inv M_3) ∧ (FR (S_c_X2_leastLoudness b) Mz M_3) ∧ (((99 < v4_3.toInt) ∧ r_ = 0 ∧ M_ = M_3) ∨ ((v4_3.toInt ≤ 99) ∧ ∃ z3_ : Int32, ((z3_.toInt = 9 ∧ 9 ≤ v.toInt) ∨ (z3_.toInt = v.toInt ∧ v.toInt ≤ 9)) ∧ ∃ z5_ : Int32, (z5_ = (100 : Int32) * z3_) ∧ ∃ z7_ : Int32, (z7_ = z5_ + v4_3) ∧ ∃ M10_ : mM, (Inv M10_) ∧ (FR (S_c_X2_hears b) M_3 M10_) ∧ ∃ r9_ : Int32, (SP_X2_hears b v u z7_ t 0 M_3 r9_ M10_) ∧ ((0 ≤ r9_.toInt ∧ r9_.toInt ≤ 1)) ∧ (¬ r9_.toInt = 0) ∧ r_ = v4_3 ∧ M_ = M10_))
theorem lf_c_X2_leastLoudness_0  (v4_3 : Int32) (hv0_3 : 1 ≤ v4_3.toInt) (hv1_3 : v4_3.toInt ≤ 100) (h2_ : v4_3.toInt ≤ 99) : -2147483648 ≤ v4_3.toInt + 1 ∧ v4_3.toInt + 1 < 2147483648 := by have r_v4_3 := rngI v4_3; omega
theorem lf_c_X2_leastLoudness_1  (v4_3 : Int32) (z18_ : Int32) (hv0_3 : 1 ≤ v4_3.toInt) (hv1_3 : v4_3.toInt ≤ 100) (h2_ : v4_3.toInt ≤ 99) (h19_ : z18_.toInt = v4_3.toInt + 1) : 1 ≤ z18_.toInt := by have r_v4_3 := rngI v4_3; have r_z18_ := rngI z18_; omega
theorem lf_c_X2_leastLoudness_2  (v4_3 : Int32) (z18_ : Int32) (hv0_3 : 1 ≤ v4_3.toInt) (hv1_3 : v4_3.toInt ≤ 100) (h2_ : v4_3.toInt ≤ 99) (h19_ : z18_.toInt = v4_3.toInt + 1) : z18_.toInt ≤ 100 := by have r_v4_3 := rngI v4_3; have r_z18_ := rngI z18_; omega
theorem lf_c_X2_leastLoudness_3  (v4_3 : Int32) (z18_ : Int32) (hv0_3 : 1 ≤ v4_3.toInt) (hv1_3 : v4_3.toInt ≤ 100) (h2_ : v4_3.toInt ≤ 99) (h19_ : z18_.toInt = v4_3.toInt + 1) : (2147483648 - z18_.toInt).toNat < (2147483648 - v4_3.toInt).toNat := by have r_v4_3 := rngI v4_3; have r_z18_ := rngI z18_; omega
theorem lf_c_X2_leastLoudness_4    : 1 ≤ (1 : Int32).toInt := by have q0 := li_1; omega
theorem lf_c_X2_leastLoudness_5    : (1 : Int32).toInt ≤ 100 := by have q0 := li_1; omega
set_option maxHeartbeats 4000000 in
set_option maxRecDepth 100000 in
theorem c_X2_leastLoudness (l : Launch) (G : va_G) (cy : Nat → ClassId) (ad : rf → Nat) (d : Nat) (b : Nat) (v : Int32) (u : Int32) (t : Int32) (Mz : mM) (hIz : Inv Mz) (hb : b < 3) : WP CC l G cy ad yX2_leastLoudness cX2_leastLoudness 5 (some .int) (d + 3) 0 [(0, vR (2, b, 0)), (1, vI v), (2, vI u), (3, vI t)] [] Mz (fun r M' => Inv M' ∧ FR (S_c_X2_leastLoudness b) Mz M' ∧ (True) ∧ SP_X2_leastLoudness b v u t Mz r M') := by
  have hFz : FR (S_c_X2_leastLoudness b) Mz Mz := FR.self
  refine w_iconst (v := 1) dX2_leastLoudness_0 (by decide) ?_
  refine w_istore (ls' := [(4, vI 1), (0, vR (2, b, 0)), (1, vI v), (2, vI u), (3, vI t)]) dX2_leastLoudness_1 (by decide) rfl ?_
  have lp1_ : ∀ (nn_3 : Nat) (M_3 : mM) (hI_3 : Inv M_3) (hF_3 : FR (S_c_X2_leastLoudness b) Mz M_3) (v4_3 : Int32) (hv0_3 : 1 ≤ v4_3.toInt) (hv1_3 : v4_3.toInt ≤ 100) (hL_3 : RCH (fun x_ y_ => ST_X2_leastLoudness_3 b v u t Mz x_.1 x_.2 y_.1 y_.2) ((1 : Int32), Mz) (v4_3, M_3)), (2147483648 - v4_3.toInt).toNat < nn_3 → WP CC l G cy ad yX2_leastLoudness cX2_leastLoudness 5 (some .int) (d + 3) 3 [(4, vI v4_3), (0, vR (2, b, 0)), (1, vI v), (2, vI u), (3, vI t)] [] M_3 (fun r M' => Inv M' ∧ FR (S_c_X2_leastLoudness b) Mz M' ∧ (True) ∧ SP_X2_leastLoudness b v u t Mz r M') := by
    intro nn_3
    induction nn_3 with
    | zero => intro M_3 hI_3 hF_3 v4_3 hv0_3 hv1_3 hL_3 hm_3; exact absurd hm_3 (Nat.not_lt_zero _)
    | succ nn_3 ih_3 =>
      intro M_3 hI_3 hF_3 v4_3 hv0_3 hv1_3 hL_3 hm_3
      refine w_iload dX2_leastLoudness_3 0 rfl ?_
      refine w_bipush (v := 99) dX2_leastLoudness_5 (by decide) ?_
      refine w_icmp_gt (tgt := 42) dX2_leastLoudness_7 (by decide) (rfl : v4_3.toInt = v4_3.toInt) li_99 (fun h2_ => ?_) (fun h2_ => ?_)
      · refine w_iconst (v := 0) dX2_leastLoudness_42 (by decide) ?_
        exact w_iret rfl dX2_leastLoudness_43 ⟨hI_3, hF_3, trivial, ⟨v4_3, hv0_3, hv1_3, M_3, hL_3, hI_3, hF_3, (Or.inl ⟨h2_, rfl, rfl⟩)⟩⟩
      · refine w_aload_n dX2_leastLoudness_10 rfl 1 rfl ?_
        refine w_iload_n dX2_leastLoudness_11 rfl 2 rfl ?_
        refine w_iload_n dX2_leastLoudness_12 rfl 3 rfl ?_
        refine w_bipush (v := 100) dX2_leastLoudness_13 (by decide) ?_
        refine w_bipush (v := 9) dX2_leastLoudness_15 (by decide) ?_
        refine w_iload_n dX2_leastLoudness_17 rfl 2 rfl ?_
        refine w_min m_885 m_770 m_86 m_771 li_9 (rfl : v.toInt = v.toInt) (Nat.le_of_ble_eq_true rfl) (by omega) dX2_leastLoudness_18 (fun z3_ h4_ => ?_)
        refine w_imul dX2_leastLoudness_21 (fun z5_ h6_ => ?_)
        refine w_iload dX2_leastLoudness_22 0 rfl ?_
        refine w_iadd dX2_leastLoudness_24 (fun z7_ h8_ => ?_)
        refine w_iload_n dX2_leastLoudness_25 rfl 4 rfl ?_
        refine w_iconst (v := 0) dX2_leastLoudness_26 (by decide) ?_
        refine w_callV (as := [vI v, vI u, vI z7_, vI t, vI 0]) (rest := []) (c_X2_hears l G cy ad d b v u z7_ t 0 M_3 hI_3 hb) kV_X2_hears (by decide +kernel) (Nat.le_of_ble_eq_true rfl) m_956 rfl rfl rfl (ic_2 hb) rfl rfl (by decide) (Nat.le_of_ble_eq_true rfl) dX2_leastLoudness_27 (fun r9_ M10_ q11_ => ?_)
        obtain ⟨hI13_, hF14_, h12_, hs16_⟩ := q11_
        have hF15_ := hF_3.tr hF14_ (fun c k => (fun h => h.elim (fun h => (Or.inl ⟨h.1, h.2.1, h.2.2⟩)) (fun h => h.elim (fun h => (Or.inr (Or.inl ⟨h.1, h.2.1, h.2.2⟩))) (fun h => h.elim (fun h => (Or.inr (Or.inr (Or.inl ⟨h.1, h.2.1, h.2.2⟩)))) (fun h => h.elim (fun h => (Or.inr (Or.inr (Or.inr (Or.inl ⟨h.1, h.2.1, h.2.2⟩))))) (fun h => h.elim (fun h => (Or.inr (Or.inr (Or.inr (Or.inr (Or.inl ⟨h.1, h.2.1, h.2.2⟩)))))) (fun h => h.elim (fun h => (Or.inr (Or.inr (Or.inr (Or.inr (Or.inr (Or.inl ⟨h.1, h.2.1, h.2.2⟩))))))) (fun h => h.elim))))))))
        refine w_if_eq (tgt := 36) dX2_leastLoudness_30 (by decide) (rfl : r9_.toInt = r9_.toInt) (fun h17_ => ?_) (fun h17_ => ?_)
        · refine w_iincB (j := 0) (f := fun z18_ => [(4, vI z18_), (0, vR (2, b, 0)), (1, vI v), (2, vI u), (3, vI t)]) dX2_leastLoudness_36 rfl (by decide) (fun _ => rfl) (rfl : v4_3.toInt = v4_3.toInt) li_1 (lf_c_X2_leastLoudness_0 v4_3 hv0_3 hv1_3 h2_) (fun z18_ h19_ => ?_)
          refine w_goto (tgt := 3) dX2_leastLoudness_39 (by decide) ?_
          refine w_loc (ls' := [(4, vI z18_), (0, vR (2, b, 0)), (1, vI v), (2, vI u), (3, vI t)]) [0, 1, 2, 3, 4] rfl ?_
          exact ih_3 M10_ hI13_ hF15_ z18_ (lf_c_X2_leastLoudness_1 v4_3 z18_ hv0_3 hv1_3 h2_ h19_) (lf_c_X2_leastLoudness_2 v4_3 z18_ hv0_3 hv1_3 h2_ h19_) (RCH.tail hL_3 ⟨hv0_3, hv1_3, hI_3, hF_3, h2_, z3_, h4_, z5_, h6_, z7_, h8_, M10_, hI13_, hF14_, r9_, hs16_, h12_, h17_, z18_, h19_, rfl, rfl⟩) (Nat.lt_of_lt_of_le (lf_c_X2_leastLoudness_3 v4_3 z18_ hv0_3 hv1_3 h2_ h19_) (Nat.le_of_lt_succ hm_3))
        · refine w_iload dX2_leastLoudness_33 0 rfl ?_
          exact w_iret rfl dX2_leastLoudness_35 ⟨hI13_, hF15_, trivial, ⟨v4_3, hv0_3, hv1_3, M_3, hL_3, hI_3, hF_3, (Or.inr ⟨h2_, z3_, h4_, z5_, h6_, z7_, h8_, M10_, hI13_, hF14_, r9_, hs16_, h12_, h17_, rfl, rfl⟩)⟩⟩
  exact lp1_ _ Mz hIz hFz 1 (lf_c_X2_leastLoudness_4 ) (lf_c_X2_leastLoudness_5 ) RCH.refl (Nat.lt_succ_self _)
def S_c_X2_takeFrom (b : Nat) (b2 : Nat) : rf → Nat → Prop := fun c k => (c.1 = 2 ∧ c.2.1 = b ∧ k = 0) ∨ (c.1 = 2 ∧ c.2.1 = b ∧ k = 1) ∨ (c.1 = 2 ∧ c.2.1 = b ∧ k = 2) ∨ (c.1 = 26 ∧ c.2.1 = b) ∨ (c.1 = 27 ∧ c.2.1 = b) ∨ (c.1 = 1 ∧ c.2.1 = b ∧ k = 2) ∨ (c.1 = 24 ∧ c.2.1 = b) ∨ False
def ST_X2_takeFrom_54 (b : Nat) (b2 : Nat) (Mz : mM) (v2_54 : Int32) (M_54 : mM) (v2_54y : Int32) (M_54y : mM) : Prop := (0 ≤ v2_54.toInt) ∧ (v2_54.toInt ≤ 3) ∧ (Inv M_54) ∧ (FR (S_c_X2_takeFrom b b2) Mz M_54) ∧ (v2_54.toInt < 3) ∧ ∃ j29_ : Nat, ((j29_ : Int) = v2_54.toInt) ∧ (j29_ < 3) ∧ (vF b j29_) ∧ ∃ j33_ : Nat, ((j33_ : Int) = v2_54.toInt) ∧ (j33_ < 3) ∧ (vF b2 j33_) ∧ ∃ M37_ : mM, (Inv M37_) ∧ (FR (S_c_X1_takeFrom b j29_ b2 j33_) M_54 M37_) ∧ (SP_X1_takeFrom b j29_ b2 j33_ M_54 M37_) ∧ ∃ z44_ : Int32, (z44_.toInt = v2_54.toInt + 1) ∧ v2_54y = z44_ ∧ M_54y = M37_
def SP_X2_takeFrom (b : Nat) (b2 : Nat) (Mz : mM) (M_ : mM) : Prop := ∃ z1_ : Int32, (z1_ = Mz.1 (2, b2, 0) 0) ∧ ∃ M3_ : mM, (M3_ = up Mz (2, b, 0) 0 z1_) ∧ ∃ z7_ : Int32, (z7_ = M3_.1 (2, b2, 0) 1) ∧ ∃ M9_ : mM, (M9_ = up M3_ (2, b, 0) 1 z7_) ∧ ∃ z13_ : Int32, (z13_ = M9_.1 (2, b2, 0) 2) ∧ ∃ M15_ : mM, (M15_ = up M9_ (2, b, 0) 2 z13_) ∧ ∃ M19_ : mM, (M19_ = cp M15_ (26, b2, 0) (26, b, 0) (0 : Int32).toNatClampNeg (0 : Int32).toNatClampNeg (5 : Int32).toNatClampNeg) ∧ ∃ M23_ : mM, (M23_ = cp M19_ (27, b2, 0) (27, b, 0) (0 : Int32).toNatClampNeg (0 : Int32).toNatClampNeg (5 : Int32).toNatClampNeg) ∧ ∃ v2_54 : Int32, (0 ≤ v2_54.toInt) ∧ (v2_54.toInt ≤ 3) ∧ ∃ M_54 : mM, (RCH (fun x_ y_ => ST_X2_takeFrom_54 b b2 Mz x_.1 x_.2 y_.1 y_.2) ((0 : Int32), M23_) (v2_54, M_54)) ∧ (Inv M_54) ∧ (FR (S_c_X2_takeFrom b b2) Mz M_54) ∧ (3 ≤ v2_54.toInt) ∧ M_ = M_54
theorem lf_c_X2_takeFrom_0  (v2_54 : Int32) (hv0_54 : 0 ≤ v2_54.toInt) (hv1_54 : v2_54.toInt ≤ 3) (h28_ : v2_54.toInt < 3) : 0 ≤ v2_54.toInt ∧ v2_54.toInt < ((3 : Nat) : Int) := by have r_v2_54 := rngI v2_54; omega
theorem lf_c_X2_takeFrom_1 (M15_ : mM) (M19_ : mM) (M23_ : mM) (M3_ : mM) (M9_ : mM) (Mz : mM) (b : Nat) (b2 : Nat) (z1_ : Int32) (z7_ : Int32) (z13_ : Int32) (v2_54 : Int32) (j29_ : Nat) (hb : b < 3) (hb2 : b2 < 3) (e2_ : z1_ = Mz.1 (2, b2, 0) 0) (hM4_ : M3_ = up Mz (2, b, 0) 0 z1_) (e8_ : z7_ = M3_.1 (2, b2, 0) 1) (hM10_ : M9_ = up M3_ (2, b, 0) 1 z7_) (e14_ : z13_ = M9_.1 (2, b2, 0) 2) (hM16_ : M15_ = up M9_ (2, b, 0) 2 z13_) (hM20_ : M19_ = cp M15_ (26, b2, 0) (26, b, 0) (0 : Int32).toNatClampNeg (0 : Int32).toNatClampNeg (5 : Int32).toNatClampNeg) (hM24_ : M23_ = cp M19_ (27, b2, 0) (27, b, 0) (0 : Int32).toNatClampNeg (0 : Int32).toNatClampNeg (5 : Int32).toNatClampNeg) (hv0_54 : 0 ≤ v2_54.toInt) (hv1_54 : v2_54.toInt ≤ 3) (h28_ : v2_54.toInt < 3) (h30_ : (j29_ : Int) = v2_54.toInt) (h31_ : j29_ < 3) (h32_ : vF b j29_) : 0 ≤ v2_54.toInt ∧ v2_54.toInt < ((3 : Nat) : Int) := by have r_z1_ := rngI z1_; have r_z7_ := rngI z7_; have r_z13_ := rngI z13_; have r_v2_54 := rngI v2_54; subst e2_; subst e8_; subst e14_; omega
theorem lf_c_X2_takeFrom_2 (M15_ : mM) (M19_ : mM) (M23_ : mM) (M3_ : mM) (M9_ : mM) (Mz : mM) (b : Nat) (b2 : Nat) (z1_ : Int32) (z7_ : Int32) (z13_ : Int32) (v2_54 : Int32) (j29_ : Nat) (j33_ : Nat) (hb : b < 3) (hb2 : b2 < 3) (e2_ : z1_ = Mz.1 (2, b2, 0) 0) (hM4_ : M3_ = up Mz (2, b, 0) 0 z1_) (e8_ : z7_ = M3_.1 (2, b2, 0) 1) (hM10_ : M9_ = up M3_ (2, b, 0) 1 z7_) (e14_ : z13_ = M9_.1 (2, b2, 0) 2) (hM16_ : M15_ = up M9_ (2, b, 0) 2 z13_) (hM20_ : M19_ = cp M15_ (26, b2, 0) (26, b, 0) (0 : Int32).toNatClampNeg (0 : Int32).toNatClampNeg (5 : Int32).toNatClampNeg) (hM24_ : M23_ = cp M19_ (27, b2, 0) (27, b, 0) (0 : Int32).toNatClampNeg (0 : Int32).toNatClampNeg (5 : Int32).toNatClampNeg) (hv0_54 : 0 ≤ v2_54.toInt) (hv1_54 : v2_54.toInt ≤ 3) (h28_ : v2_54.toInt < 3) (h30_ : (j29_ : Int) = v2_54.toInt) (h31_ : j29_ < 3) (h32_ : vF b j29_) (h34_ : (j33_ : Int) = v2_54.toInt) (h35_ : j33_ < 3) (h36_ : vF b2 j33_) : -2147483648 ≤ v2_54.toInt + 1 ∧ v2_54.toInt + 1 < 2147483648 := by have r_z1_ := rngI z1_; have r_z7_ := rngI z7_; have r_z13_ := rngI z13_; have r_v2_54 := rngI v2_54; subst e2_; subst e8_; subst e14_; omega
theorem lf_c_X2_takeFrom_3 (M15_ : mM) (M19_ : mM) (M23_ : mM) (M3_ : mM) (M9_ : mM) (Mz : mM) (b : Nat) (b2 : Nat) (z1_ : Int32) (z7_ : Int32) (z13_ : Int32) (v2_54 : Int32) (j29_ : Nat) (j33_ : Nat) (z44_ : Int32) (hb : b < 3) (hb2 : b2 < 3) (e2_ : z1_ = Mz.1 (2, b2, 0) 0) (hM4_ : M3_ = up Mz (2, b, 0) 0 z1_) (e8_ : z7_ = M3_.1 (2, b2, 0) 1) (hM10_ : M9_ = up M3_ (2, b, 0) 1 z7_) (e14_ : z13_ = M9_.1 (2, b2, 0) 2) (hM16_ : M15_ = up M9_ (2, b, 0) 2 z13_) (hM20_ : M19_ = cp M15_ (26, b2, 0) (26, b, 0) (0 : Int32).toNatClampNeg (0 : Int32).toNatClampNeg (5 : Int32).toNatClampNeg) (hM24_ : M23_ = cp M19_ (27, b2, 0) (27, b, 0) (0 : Int32).toNatClampNeg (0 : Int32).toNatClampNeg (5 : Int32).toNatClampNeg) (hv0_54 : 0 ≤ v2_54.toInt) (hv1_54 : v2_54.toInt ≤ 3) (h28_ : v2_54.toInt < 3) (h30_ : (j29_ : Int) = v2_54.toInt) (h31_ : j29_ < 3) (h32_ : vF b j29_) (h34_ : (j33_ : Int) = v2_54.toInt) (h35_ : j33_ < 3) (h36_ : vF b2 j33_) (h45_ : z44_.toInt = v2_54.toInt + 1) : 0 ≤ z44_.toInt := by have r_z1_ := rngI z1_; have r_z7_ := rngI z7_; have r_z13_ := rngI z13_; have r_v2_54 := rngI v2_54; have r_z44_ := rngI z44_; omega
theorem lf_c_X2_takeFrom_4 (M15_ : mM) (M19_ : mM) (M23_ : mM) (M3_ : mM) (M9_ : mM) (Mz : mM) (b : Nat) (b2 : Nat) (z1_ : Int32) (z7_ : Int32) (z13_ : Int32) (v2_54 : Int32) (j29_ : Nat) (j33_ : Nat) (z44_ : Int32) (hb : b < 3) (hb2 : b2 < 3) (e2_ : z1_ = Mz.1 (2, b2, 0) 0) (hM4_ : M3_ = up Mz (2, b, 0) 0 z1_) (e8_ : z7_ = M3_.1 (2, b2, 0) 1) (hM10_ : M9_ = up M3_ (2, b, 0) 1 z7_) (e14_ : z13_ = M9_.1 (2, b2, 0) 2) (hM16_ : M15_ = up M9_ (2, b, 0) 2 z13_) (hM20_ : M19_ = cp M15_ (26, b2, 0) (26, b, 0) (0 : Int32).toNatClampNeg (0 : Int32).toNatClampNeg (5 : Int32).toNatClampNeg) (hM24_ : M23_ = cp M19_ (27, b2, 0) (27, b, 0) (0 : Int32).toNatClampNeg (0 : Int32).toNatClampNeg (5 : Int32).toNatClampNeg) (hv0_54 : 0 ≤ v2_54.toInt) (hv1_54 : v2_54.toInt ≤ 3) (h28_ : v2_54.toInt < 3) (h30_ : (j29_ : Int) = v2_54.toInt) (h31_ : j29_ < 3) (h32_ : vF b j29_) (h34_ : (j33_ : Int) = v2_54.toInt) (h35_ : j33_ < 3) (h36_ : vF b2 j33_) (h45_ : z44_.toInt = v2_54.toInt + 1) : z44_.toInt ≤ 3 := by have r_z1_ := rngI z1_; have r_z7_ := rngI z7_; have r_z13_ := rngI z13_; have r_v2_54 := rngI v2_54; have r_z44_ := rngI z44_; omega
theorem lf_c_X2_takeFrom_5 (M15_ : mM) (M19_ : mM) (M23_ : mM) (M3_ : mM) (M9_ : mM) (Mz : mM) (b : Nat) (b2 : Nat) (z1_ : Int32) (z7_ : Int32) (z13_ : Int32) (v2_54 : Int32) (j29_ : Nat) (j33_ : Nat) (z44_ : Int32) (hb : b < 3) (hb2 : b2 < 3) (e2_ : z1_ = Mz.1 (2, b2, 0) 0) (hM4_ : M3_ = up Mz (2, b, 0) 0 z1_) (e8_ : z7_ = M3_.1 (2, b2, 0) 1) (hM10_ : M9_ = up M3_ (2, b, 0) 1 z7_) (e14_ : z13_ = M9_.1 (2, b2, 0) 2) (hM16_ : M15_ = up M9_ (2, b, 0) 2 z13_) (hM20_ : M19_ = cp M15_ (26, b2, 0) (26, b, 0) (0 : Int32).toNatClampNeg (0 : Int32).toNatClampNeg (5 : Int32).toNatClampNeg) (hM24_ : M23_ = cp M19_ (27, b2, 0) (27, b, 0) (0 : Int32).toNatClampNeg (0 : Int32).toNatClampNeg (5 : Int32).toNatClampNeg) (hv0_54 : 0 ≤ v2_54.toInt) (hv1_54 : v2_54.toInt ≤ 3) (h28_ : v2_54.toInt < 3) (h30_ : (j29_ : Int) = v2_54.toInt) (h31_ : j29_ < 3) (h32_ : vF b j29_) (h34_ : (j33_ : Int) = v2_54.toInt) (h35_ : j33_ < 3) (h36_ : vF b2 j33_) (h45_ : z44_.toInt = v2_54.toInt + 1) : (2147483648 - z44_.toInt).toNat < (2147483648 - v2_54.toInt).toNat := by have r_z1_ := rngI z1_; have r_z7_ := rngI z7_; have r_z13_ := rngI z13_; have r_v2_54 := rngI v2_54; have r_z44_ := rngI z44_; omega
theorem lf_c_X2_takeFrom_6    : 0 ≤ (0 : Int32).toInt := by have q0 := li_0; omega
theorem lf_c_X2_takeFrom_7    : (0 : Int32).toInt ≤ 3 := by have q0 := li_0; omega
set_option maxHeartbeats 4000000 in
set_option maxRecDepth 100000 in
theorem c_X2_takeFrom (l : Launch) (G : va_G) (cy : Nat → ClassId) (ad : rf → Nat) (d : Nat) (b : Nat) (b2 : Nat) (Mz : mM) (hIz : Inv Mz) (hb : b < 3) (hb2 : b2 < 3) : WP CC l G cy ad yX2_takeFrom cX2_takeFrom 3 none (d + 2) 0 [(0, vR (2, b, 0)), (1, vR (2, b2, 0))] [] Mz (fun r M' => Inv M' ∧ FR (S_c_X2_takeFrom b b2) Mz M' ∧ (True) ∧ SP_X2_takeFrom b b2 Mz M') := by
  have hFz : FR (S_c_X2_takeFrom b b2) Mz Mz := FR.self
  refine w_aload_n dX2_takeFrom_0 rfl 0 rfl ?_
  refine w_aload_n dX2_takeFrom_1 rfl 1 rfl ?_
  refine w_getI fl_RX2_7 rfl rfl (ic_2 hb2) dX2_takeFrom_2 (fun z1_ e2_ => ?_)
  refine w_putI CC_nd fl_RX2_7 rfl rfl (ic_2 hb) dX2_takeFrom_5 (fun M3_ hM4_ => ?_)
  have hI5_ := hIz.put hM4_ trivial
  have hF6_ := hFz.put hM4_ (Or.inl ⟨rfl, rfl, rfl⟩)
  refine w_aload_n dX2_takeFrom_8 rfl 0 rfl ?_
  refine w_aload_n dX2_takeFrom_9 rfl 1 rfl ?_
  refine w_getI fl_RX2_13 rfl rfl (ic_2 hb2) dX2_takeFrom_10 (fun z7_ e8_ => ?_)
  refine w_putI CC_nd fl_RX2_13 rfl rfl (ic_2 hb) dX2_takeFrom_13 (fun M9_ hM10_ => ?_)
  have hI11_ := hI5_.put hM10_ trivial
  have hF12_ := hF6_.put hM10_ (Or.inr (Or.inl ⟨rfl, rfl, rfl⟩))
  refine w_aload_n dX2_takeFrom_16 rfl 0 rfl ?_
  refine w_aload_n dX2_takeFrom_17 rfl 1 rfl ?_
  refine w_getI fl_RX2_16 rfl rfl (ic_2 hb2) dX2_takeFrom_18 (fun z13_ e14_ => ?_)
  refine w_putI CC_nd fl_RX2_16 rfl rfl (ic_2 hb) dX2_takeFrom_21 (fun M15_ hM16_ => ?_)
  have hI17_ := hI11_.put hM16_ trivial
  have hF18_ := hF12_.put hM16_ (Or.inr (Or.inr (Or.inl ⟨rfl, rfl, rfl⟩)))
  refine w_aload_n dX2_takeFrom_24 rfl 1 rfl ?_
  refine w_getR (c' := (26, b2, 0)) fl_RX2_21 rfl rfl (ic_2 hb2) dX2_takeFrom_25 rfl ?_
  refine w_iconst (v := 0) dX2_takeFrom_28 (by decide) ?_
  refine w_aload_n dX2_takeFrom_29 rfl 0 rfl ?_
  refine w_getR (c' := (26, b, 0)) fl_RX2_21 rfl rfl (ic_2 hb) dX2_takeFrom_30 rfl ?_
  refine w_iconst (v := 0) dX2_takeFrom_33 (by decide) ?_
  refine w_iconst (v := 5) dX2_takeFrom_34 (by decide) ?_
  refine w_copy CC_nd rfl rfl (ic_26 hb2) rfl rfl (ic_26 hb) m_1267 m_830 m_829 m_98 li_0 li_0 li_5 (by decide) rfl (by omega) dX2_takeFrom_35 (fun M19_ hM20_ => ?_)
  have hI21_ := hI17_.cpy hM20_ (fun _ _ => trivial)
  have hF22_ := hF18_.cpy hM20_ (fun _ => (Or.inr (Or.inr (Or.inr (Or.inl ⟨rfl, rfl⟩)))))
  refine w_aload_n dX2_takeFrom_38 rfl 1 rfl ?_
  refine w_getR (c' := (27, b2, 0)) fl_RX2_25 rfl rfl (ic_2 hb2) dX2_takeFrom_39 rfl ?_
  refine w_iconst (v := 0) dX2_takeFrom_42 (by decide) ?_
  refine w_aload_n dX2_takeFrom_43 rfl 0 rfl ?_
  refine w_getR (c' := (27, b, 0)) fl_RX2_25 rfl rfl (ic_2 hb) dX2_takeFrom_44 rfl ?_
  refine w_iconst (v := 0) dX2_takeFrom_47 (by decide) ?_
  refine w_iconst (v := 5) dX2_takeFrom_48 (by decide) ?_
  refine w_copy CC_nd rfl rfl (ic_27 hb2) rfl rfl (ic_27 hb) m_1267 m_830 m_829 m_98 li_0 li_0 li_5 (by decide) rfl (by omega) dX2_takeFrom_49 (fun M23_ hM24_ => ?_)
  have hI25_ := hI21_.cpy hM24_ (fun _ _ => trivial)
  have hF26_ := hF22_.cpy hM24_ (fun _ => (Or.inr (Or.inr (Or.inr (Or.inr (Or.inl ⟨rfl, rfl⟩))))))
  refine w_iconst (v := 0) dX2_takeFrom_52 (by decide) ?_
  refine w_istore_n (ls' := [(2, vI 0), (0, vR (2, b, 0)), (1, vR (2, b2, 0))]) dX2_takeFrom_53 rfl (by decide) rfl ?_
  have lp27_ : ∀ (nn_54 : Nat) (M_54 : mM) (hI_54 : Inv M_54) (hF_54 : FR (S_c_X2_takeFrom b b2) Mz M_54) (v2_54 : Int32) (hv0_54 : 0 ≤ v2_54.toInt) (hv1_54 : v2_54.toInt ≤ 3) (hL_54 : RCH (fun x_ y_ => ST_X2_takeFrom_54 b b2 Mz x_.1 x_.2 y_.1 y_.2) ((0 : Int32), M23_) (v2_54, M_54)), (2147483648 - v2_54.toInt).toNat < nn_54 → WP CC l G cy ad yX2_takeFrom cX2_takeFrom 3 none (d + 2) 54 [(2, vI v2_54), (0, vR (2, b, 0)), (1, vR (2, b2, 0))] [] M_54 (fun r M' => Inv M' ∧ FR (S_c_X2_takeFrom b b2) Mz M' ∧ (True) ∧ SP_X2_takeFrom b b2 Mz M') := by
    intro nn_54
    induction nn_54 with
    | zero => intro M_54 hI_54 hF_54 v2_54 hv0_54 hv1_54 hL_54 hm_54; exact absurd hm_54 (Nat.not_lt_zero _)
    | succ nn_54 ih_54 =>
      intro M_54 hI_54 hF_54 v2_54 hv0_54 hv1_54 hL_54 hm_54
      refine w_iload_n dX2_takeFrom_54 rfl 0 rfl ?_
      refine w_iconst (v := 3) dX2_takeFrom_55 (by decide) ?_
      refine w_icmp_ge (tgt := 80) dX2_takeFrom_56 (by decide) (rfl : v2_54.toInt = v2_54.toInt) li_3 (fun h28_ => ?_) (fun h28_ => ?_)
      · exact w_vret rfl dX2_takeFrom_80 ⟨hI_54, hF_54, trivial, ⟨z1_, e2_, M3_, hM4_, z7_, e8_, M9_, hM10_, z13_, e14_, M15_, hM16_, M19_, hM20_, M23_, hM24_, v2_54, hv0_54, hv1_54, M_54, hL_54, hI_54, hF_54, h28_, rfl⟩⟩
      · refine w_aload_n dX2_takeFrom_59 rfl 1 rfl ?_
        refine w_getR (c' := (28, b, 0)) fl_RX2_30 rfl rfl (ic_2 hb) dX2_takeFrom_60 rfl ?_
        refine w_iload_n dX2_takeFrom_63 rfl 0 rfl ?_
        refine w_aald rfl rfl rfl (fun _ => rfl) (ic_28 hb) (rfl : v2_54.toInt = v2_54.toInt) (lf_c_X2_takeFrom_0 v2_54 hv0_54 hv1_54 h28_) dX2_takeFrom_64 (fun j29_ h30_ h31_ => ?_)
        have h32_ : vF b j29_ := Or.inl ⟨hb, h31_⟩
        refine w_aload_n dX2_takeFrom_65 rfl 2 rfl ?_
        refine w_getR (c' := (28, b2, 0)) fl_RX2_30 rfl rfl (ic_2 hb2) dX2_takeFrom_66 rfl ?_
        refine w_iload_n dX2_takeFrom_69 rfl 0 rfl ?_
        refine w_aald rfl rfl rfl (fun _ => rfl) (ic_28 hb2) (rfl : v2_54.toInt = v2_54.toInt) (lf_c_X2_takeFrom_1 M15_ M19_ M23_ M3_ M9_ Mz b b2 z1_ z7_ z13_ v2_54 j29_ hb hb2 e2_ hM4_ e8_ hM10_ e14_ hM16_ hM20_ hM24_ hv0_54 hv1_54 h28_ h30_ h31_ h32_) dX2_takeFrom_70 (fun j33_ h34_ h35_ => ?_)
        have h36_ : vF b2 j33_ := Or.inl ⟨hb2, h35_⟩
        refine w_callVv (as := [vR (1, b2, j33_)]) (rest := []) (c_X1_takeFrom l G cy ad d b j29_ b2 j33_ M_54 hI_54 h32_ h36_) kV_X1_takeFrom (by decide +kernel) (Nat.le_of_ble_eq_true rfl) m_1268 rfl rfl rfl (ic_1 h32_) rfl rfl (by decide) (Nat.le_of_ble_eq_true rfl) dX2_takeFrom_71 (fun M37_ q38_ => ?_)
        obtain ⟨hI40_, hF41_, h39_, hs43_⟩ := q38_
        have hF42_ := hF_54.tr hF41_ (fun c k => (fun h => h.elim (fun h => (Or.inr (Or.inr (Or.inr (Or.inr (Or.inr (Or.inl ⟨h.1, h.2.1, h.2.2.2⟩))))))) (fun h => h.elim (fun h => (Or.inr (Or.inr (Or.inr (Or.inr (Or.inr (Or.inr (Or.inl ⟨h.1, h.2.1⟩)))))))) (fun h => h.elim))))
        refine w_iincB (j := 0) (f := fun z44_ => [(2, vI z44_), (0, vR (2, b, 0)), (1, vR (2, b2, 0))]) dX2_takeFrom_74 rfl (by decide) (fun _ => rfl) (rfl : v2_54.toInt = v2_54.toInt) li_1 (lf_c_X2_takeFrom_2 M15_ M19_ M23_ M3_ M9_ Mz b b2 z1_ z7_ z13_ v2_54 j29_ j33_ hb hb2 e2_ hM4_ e8_ hM10_ e14_ hM16_ hM20_ hM24_ hv0_54 hv1_54 h28_ h30_ h31_ h32_ h34_ h35_ h36_) (fun z44_ h45_ => ?_)
        refine w_goto (tgt := 54) dX2_takeFrom_77 (by decide) ?_
        refine w_loc (ls' := [(2, vI z44_), (0, vR (2, b, 0)), (1, vR (2, b2, 0))]) [0, 1, 2] rfl ?_
        exact ih_54 M37_ hI40_ hF42_ z44_ (lf_c_X2_takeFrom_3 M15_ M19_ M23_ M3_ M9_ Mz b b2 z1_ z7_ z13_ v2_54 j29_ j33_ z44_ hb hb2 e2_ hM4_ e8_ hM10_ e14_ hM16_ hM20_ hM24_ hv0_54 hv1_54 h28_ h30_ h31_ h32_ h34_ h35_ h36_ h45_) (lf_c_X2_takeFrom_4 M15_ M19_ M23_ M3_ M9_ Mz b b2 z1_ z7_ z13_ v2_54 j29_ j33_ z44_ hb hb2 e2_ hM4_ e8_ hM10_ e14_ hM16_ hM20_ hM24_ hv0_54 hv1_54 h28_ h30_ h31_ h32_ h34_ h35_ h36_ h45_) (RCH.tail hL_54 ⟨hv0_54, hv1_54, hI_54, hF_54, h28_, j29_, h30_, h31_, h32_, j33_, h34_, h35_, h36_, M37_, hI40_, hF41_, hs43_, z44_, h45_, rfl, rfl⟩) (Nat.lt_of_lt_of_le (lf_c_X2_takeFrom_5 M15_ M19_ M23_ M3_ M9_ Mz b b2 z1_ z7_ z13_ v2_54 j29_ j33_ z44_ hb hb2 e2_ hM4_ e8_ hM10_ e14_ hM16_ hM20_ hM24_ hv0_54 hv1_54 h28_ h30_ h31_ h32_ h34_ h35_ h36_ h45_) (Nat.le_of_lt_succ hm_54))
  exact lp27_ _ M23_ hI25_ hF26_ 0 (lf_c_X2_takeFrom_6 ) (lf_c_X2_takeFrom_7 ) RCH.refl (Nat.lt_succ_self _)
def SP_X3_hasRoom (b : Nat) (Mz : mM) (r_ : Int32) : Prop := ∃ z1_ : Int32, (z1_ = Mz.1 (3, b, 0) 3) ∧ (((7 ≤ z1_.toInt) ∧ r_ = 0) ∨ ((z1_.toInt < 7) ∧ r_ = 1))
set_option maxHeartbeats 4000000 in
set_option maxRecDepth 100000 in
theorem c_X3_hasRoom (l : Launch) (G : va_G) (cy : Nat → ClassId) (ad : rf → Nat) (d : Nat) (b : Nat) (Mz : mM) (hIz : Inv Mz) (hb : b < 3) : WP CC l G cy ad yX3_hasRoom cX3_hasRoom 1 (some .boolean) d 0 [(0, vR (3, b, 0))] [] Mz (fun r M' => Mz = M' ∧ ((0 ≤ r.toInt ∧ r.toInt ≤ 1)) ∧ SP_X3_hasRoom b Mz r) := by
  refine w_aload_n dX3_hasRoom_0 rfl 0 rfl ?_
  refine w_getI fl_RX3_19 rfl rfl (ic_3 hb) dX3_hasRoom_1 (fun z1_ e2_ => ?_)
  refine w_bipush (v := 7) dX3_hasRoom_4 (by decide) ?_
  refine w_icmp_ge (tgt := 13) dX3_hasRoom_6 (by decide) (rfl : z1_.toInt = z1_.toInt) li_7 (fun h3_ => ?_) (fun h3_ => ?_)
  · refine w_iconst (v := 0) dX3_hasRoom_13 (by decide) ?_
    exact w_zret rfl dX3_hasRoom_14 ⟨by decide, by decide⟩ ⟨rfl, ⟨by decide, by decide⟩, ⟨z1_, e2_, (Or.inl ⟨h3_, rfl⟩)⟩⟩
  · refine w_iconst (v := 1) dX3_hasRoom_9 (by decide) ?_
    refine w_goto (tgt := 14) dX3_hasRoom_10 (by decide) ?_
    exact w_zret rfl dX3_hasRoom_14 ⟨by decide, by decide⟩ ⟨rfl, ⟨by decide, by decide⟩, ⟨z1_, e2_, (Or.inr ⟨h3_, rfl⟩)⟩⟩
def S_c_X3_add (b : Nat) : rf → Nat → Prop := fun c k => (c.1 = 30 ∧ c.2.1 = b) ∨ (c.1 = 31 ∧ c.2.1 = b) ∨ (c.1 = 32 ∧ c.2.1 = b) ∨ (c.1 = 3 ∧ c.2.1 = b ∧ k = 3) ∨ False
def SP_X3_add (b : Nat) (v : Int32) (u : Int32) (t : Int32) (Mz : mM) (r_ : Int32) (M_ : mM) : Prop := ∃ z1_ : Int32, (z1_ = Mz.1 (3, b, 0) 3) ∧ (((z1_.toInt < 0) ∧ r_ = (-1) ∧ M_ = Mz) ∨ ((0 ≤ z1_.toInt) ∧ (((z1_.toInt < 7) ∧ ∃ j7_ : Nat, ((j7_ : Int) = z1_.toInt) ∧ ∃ M5_ : mM, (M5_ = up Mz (30, b, 0) j7_ v) ∧ ∃ j13_ : Nat, ((j13_ : Int) = z1_.toInt) ∧ ∃ M11_ : mM, (M11_ = up M5_ (31, b, 0) j13_ u) ∧ ∃ j19_ : Nat, ((j19_ : Int) = z1_.toInt) ∧ ∃ M17_ : mM, (M17_ = up M11_ (32, b, 0) j19_ t) ∧ ∃ z23_ : Int32, (z23_ = M17_.1 (3, b, 0) 3) ∧ ∃ z25_ : Int32, (z25_ = z23_ + (1 : Int32)) ∧ ∃ M27_ : mM, (M27_ = up M17_ (3, b, 0) 3 z25_) ∧ r_ = z1_ ∧ M_ = M27_) ∨ ((7 ≤ z1_.toInt) ∧ r_ = (-1) ∧ M_ = Mz))))
theorem lf_c_X3_add_0 (Mz : mM) (b : Nat) (z1_ : Int32) (hb : b < 3) (e2_ : z1_ = Mz.1 (3, b, 0) 3) (h3_ : 0 ≤ z1_.toInt) (h4_ : z1_.toInt < 7) : 0 ≤ z1_.toInt ∧ z1_.toInt < ((7 : Nat) : Int) := by have r_z1_ := rngI z1_; subst e2_; omega
theorem lf_c_X3_add_1 (M5_ : mM) (Mz : mM) (b : Nat) (v : Int32) (z1_ : Int32) (j7_ : Nat) (hb : b < 3) (e2_ : z1_ = Mz.1 (3, b, 0) 3) (h3_ : 0 ≤ z1_.toInt) (h4_ : z1_.toInt < 7) (h8_ : (j7_ : Int) = z1_.toInt) (hM6_ : M5_ = up Mz (30, b, 0) j7_ v) : 0 ≤ z1_.toInt ∧ z1_.toInt < ((7 : Nat) : Int) := by have r_v := rngI v; have r_z1_ := rngI z1_; subst e2_; omega
theorem lf_c_X3_add_2 (M11_ : mM) (M5_ : mM) (Mz : mM) (b : Nat) (v : Int32) (u : Int32) (z1_ : Int32) (j7_ : Nat) (j13_ : Nat) (hb : b < 3) (e2_ : z1_ = Mz.1 (3, b, 0) 3) (h3_ : 0 ≤ z1_.toInt) (h4_ : z1_.toInt < 7) (h8_ : (j7_ : Int) = z1_.toInt) (hM6_ : M5_ = up Mz (30, b, 0) j7_ v) (h14_ : (j13_ : Int) = z1_.toInt) (hM12_ : M11_ = up M5_ (31, b, 0) j13_ u) : 0 ≤ z1_.toInt ∧ z1_.toInt < ((7 : Nat) : Int) := by have r_v := rngI v; have r_u := rngI u; have r_z1_ := rngI z1_; subst e2_; omega
set_option maxHeartbeats 4000000 in
set_option maxRecDepth 100000 in
theorem c_X3_add (l : Launch) (G : va_G) (cy : Nat → ClassId) (ad : rf → Nat) (d : Nat) (b : Nat) (v : Int32) (u : Int32) (t : Int32) (Mz : mM) (hIz : Inv Mz) (hb : b < 3) : WP CC l G cy ad yX3_add cX3_add 5 (some .int) d 0 [(0, vR (3, b, 0)), (1, vI v), (2, vI u), (3, vI t)] [] Mz (fun r M' => Inv M' ∧ FR (S_c_X3_add b) Mz M' ∧ (True) ∧ SP_X3_add b v u t Mz r M') := by
  have hFz : FR (S_c_X3_add b) Mz Mz := FR.self
  refine w_aload_n dX3_add_0 rfl 0 rfl ?_
  refine w_getI fl_RX3_19 rfl rfl (ic_3 hb) dX3_add_1 (fun z1_ e2_ => ?_)
  refine w_istore (ls' := [(4, vI z1_), (0, vR (3, b, 0)), (1, vI v), (2, vI u), (3, vI t)]) dX3_add_4 (by decide) rfl ?_
  refine w_iload dX3_add_6 0 rfl ?_
  refine w_if_lt (tgt := 18) dX3_add_8 (by decide) (rfl : z1_.toInt = z1_.toInt) (fun h3_ => ?_) (fun h3_ => ?_)
  · refine w_iconst (v := (-1)) dX3_add_18 (by decide) ?_
    exact w_iret rfl dX3_add_19 ⟨hIz, hFz, trivial, ⟨z1_, e2_, (Or.inl ⟨h3_, rfl, rfl⟩)⟩⟩
  · refine w_iload dX3_add_11 0 rfl ?_
    refine w_bipush (v := 7) dX3_add_13 (by decide) ?_
    refine w_icmp_lt (tgt := 20) dX3_add_15 (by decide) (rfl : z1_.toInt = z1_.toInt) li_7 (fun h4_ => ?_) (fun h4_ => ?_)
    · refine w_aload_n dX3_add_20 rfl 1 rfl ?_
      refine w_getR (c' := (30, b, 0)) fl_RX3_9 rfl rfl (ic_3 hb) dX3_add_21 rfl ?_
      refine w_iload dX3_add_24 0 rfl ?_
      refine w_iload_n dX3_add_26 rfl 2 rfl ?_
      refine w_iast CC_nd rfl rfl (ic_30 hb) (rfl : z1_.toInt = z1_.toInt) (lf_c_X3_add_0 Mz b z1_ hb e2_ h3_ h4_) dX3_add_27 (fun j7_ h8_ M5_ hM6_ => ?_)
      have hI9_ := hIz.put hM6_ trivial
      have hF10_ := hFz.put hM6_ (Or.inl ⟨rfl, rfl⟩)
      refine w_aload_n dX3_add_28 rfl 1 rfl ?_
      refine w_getR (c' := (31, b, 0)) fl_RX3_13 rfl rfl (ic_3 hb) dX3_add_29 rfl ?_
      refine w_iload dX3_add_32 0 rfl ?_
      refine w_iload_n dX3_add_34 rfl 3 rfl ?_
      refine w_iast CC_nd rfl rfl (ic_31 hb) (rfl : z1_.toInt = z1_.toInt) (lf_c_X3_add_1 M5_ Mz b v z1_ j7_ hb e2_ h3_ h4_ h8_ hM6_) dX3_add_35 (fun j13_ h14_ M11_ hM12_ => ?_)
      have hI15_ := hI9_.put hM12_ trivial
      have hF16_ := hF10_.put hM12_ (Or.inr (Or.inl ⟨rfl, rfl⟩))
      refine w_aload_n dX3_add_36 rfl 1 rfl ?_
      refine w_getR (c' := (32, b, 0)) fl_RX3_16 rfl rfl (ic_3 hb) dX3_add_37 rfl ?_
      refine w_iload dX3_add_40 0 rfl ?_
      refine w_iload_n dX3_add_42 rfl 4 rfl ?_
      refine w_iast CC_nd rfl rfl (ic_32 hb) (rfl : z1_.toInt = z1_.toInt) (lf_c_X3_add_2 M11_ M5_ Mz b v u z1_ j7_ j13_ hb e2_ h3_ h4_ h8_ hM6_ h14_ hM12_) dX3_add_43 (fun j19_ h20_ M17_ hM18_ => ?_)
      have hI21_ := hI15_.put hM18_ trivial
      have hF22_ := hF16_.put hM18_ (Or.inr (Or.inr (Or.inl ⟨rfl, rfl⟩)))
      refine w_aload_n dX3_add_44 rfl 1 rfl ?_
      refine w_dup dX3_add_45 rfl ?_
      refine w_getI fl_RX3_19 rfl rfl (ic_3 hb) dX3_add_46 (fun z23_ e24_ => ?_)
      refine w_iconst (v := 1) dX3_add_49 (by decide) ?_
      refine w_iadd dX3_add_50 (fun z25_ h26_ => ?_)
      refine w_putI CC_nd fl_RX3_19 rfl rfl (ic_3 hb) dX3_add_51 (fun M27_ hM28_ => ?_)
      have hI29_ := hI21_.put hM28_ (fun h => absurd h (by decide))
      have hF30_ := hF22_.put hM28_ (Or.inr (Or.inr (Or.inr (Or.inl ⟨rfl, rfl, rfl⟩))))
      refine w_iload dX3_add_54 0 rfl ?_
      exact w_iret rfl dX3_add_56 ⟨hI29_, hF30_, trivial, ⟨z1_, e2_, (Or.inr ⟨h3_, (Or.inl ⟨h4_, j7_, h8_, M5_, hM6_, j13_, h14_, M11_, hM12_, j19_, h20_, M17_, hM18_, z23_, e24_, z25_, h26_, M27_, hM28_, rfl, rfl⟩)⟩)⟩⟩
    · refine w_iconst (v := (-1)) dX3_add_18 (by decide) ?_
      exact w_iret rfl dX3_add_19 ⟨hIz, hFz, trivial, ⟨z1_, e2_, (Or.inr ⟨h3_, (Or.inr ⟨h4_, rfl, rfl⟩)⟩)⟩⟩
def SP_X3_isBetter (b : Nat) (v : Int32) (Mz : mM) (r_ : Int32) : Prop := ∃ z1_ : Int32, (z1_ = Mz.1 (3, b, 0) 7) ∧ (((v.toInt < z1_.toInt) ∧ r_ = 1) ∨ ((z1_.toInt ≤ v.toInt) ∧ (((¬ v.toInt = z1_.toInt) ∧ r_ = 0) ∨ ((v.toInt = z1_.toInt) ∧ ∃ z7_ : Int32, (z7_ = Mz.1 (5, b, 2) 1) ∧ ∃ z9_ : Int32, (z9_ = Mz.1 (5, b, 3) 1) ∧ (((z9_.toInt ≤ z7_.toInt) ∧ r_ = 0) ∨ ((z7_.toInt < z9_.toInt) ∧ r_ = 1))))))
theorem lf_c_X3_isBetter_0 (Mz : mM) (b : Nat) (v : Int32) (z1_ : Int32) (hb : b < 3) (e2_ : z1_ = Mz.1 (3, b, 0) 7) (h3_ : z1_.toInt ≤ v.toInt) (h6_ : v.toInt = z1_.toInt) : vRw b 2 := by have r_v := rngI v; have r_z1_ := rngI z1_; unfold vRw; omega
theorem lf_c_X3_isBetter_1 (Mz : mM) (b : Nat) (v : Int32) (z1_ : Int32) (z7_ : Int32) (hb : b < 3) (e2_ : z1_ = Mz.1 (3, b, 0) 7) (h3_ : z1_.toInt ≤ v.toInt) (h6_ : v.toInt = z1_.toInt) (e8_ : z7_ = Mz.1 (5, b, 2) 1) : vRw b 3 := by have r_v := rngI v; have r_z1_ := rngI z1_; have r_z7_ := rngI z7_; unfold vRw; omega
set_option maxHeartbeats 4000000 in
set_option maxRecDepth 100000 in
theorem c_X3_isBetter (l : Launch) (G : va_G) (cy : Nat → ClassId) (ad : rf → Nat) (d : Nat) (b : Nat) (v : Int32) (Mz : mM) (hIz : Inv Mz) (hb : b < 3) : WP CC l G cy ad yX3_isBetter cX3_isBetter 2 (some .boolean) d 0 [(0, vR (3, b, 0)), (1, vI v)] [] Mz (fun r M' => Mz = M' ∧ ((0 ≤ r.toInt ∧ r.toInt ≤ 1)) ∧ SP_X3_isBetter b v Mz r) := by
  refine w_iload_n dX3_isBetter_0 rfl 1 rfl ?_
  refine w_aload_n dX3_isBetter_1 rfl 0 rfl ?_
  refine w_getI fl_RX3_38 rfl rfl (ic_3 hb) dX3_isBetter_2 (fun z1_ e2_ => ?_)
  refine w_icmp_lt (tgt := 33) dX3_isBetter_5 (by decide) (rfl : v.toInt = v.toInt) (rfl : z1_.toInt = z1_.toInt) (fun h3_ => ?_) (fun h3_ => ?_)
  · refine w_iconst (v := 1) dX3_isBetter_33 (by decide) ?_
    refine w_goto (tgt := 38) dX3_isBetter_34 (by decide) ?_
    exact w_zret rfl dX3_isBetter_38 ⟨by decide, by decide⟩ ⟨rfl, ⟨by decide, by decide⟩, ⟨z1_, e2_, (Or.inl ⟨h3_, rfl⟩)⟩⟩
  · refine w_iload_n dX3_isBetter_8 rfl 1 rfl ?_
    refine w_aload_n dX3_isBetter_9 rfl 0 rfl ?_
    refine w_getI fl_RX3_38 rfl rfl (ic_3 hb) dX3_isBetter_10 (fun z4_ e5_ => ?_)
    obtain rfl : z1_ = z4_ := e2_.trans e5_.symm
    refine w_icmp_ne (tgt := 37) dX3_isBetter_13 (by decide) (rfl : v.toInt = v.toInt) (rfl : z1_.toInt = z1_.toInt) (fun h6_ => ?_) (fun h6_ => ?_)
    · refine w_iconst (v := 0) dX3_isBetter_37 (by decide) ?_
      exact w_zret rfl dX3_isBetter_38 ⟨by decide, by decide⟩ ⟨rfl, ⟨by decide, by decide⟩, ⟨z1_, e2_, (Or.inr ⟨h3_, (Or.inl ⟨h6_, rfl⟩)⟩)⟩⟩
    · refine w_aload_n dX3_isBetter_16 rfl 0 rfl ?_
      refine w_getR (c' := (5, b, 2)) fl_RX3_28 rfl rfl (ic_3 hb) dX3_isBetter_17 rfl ?_
      refine w_getI fl_RX3_70 rfl rfl (ic_5 (lf_c_X3_isBetter_0 Mz b v z1_ hb e2_ h3_ h6_)) dX3_isBetter_20 (fun z7_ e8_ => ?_)
      refine w_aload_n dX3_isBetter_23 rfl 0 rfl ?_
      refine w_getR (c' := (5, b, 3)) fl_RX3_32 rfl rfl (ic_3 hb) dX3_isBetter_24 rfl ?_
      refine w_getI fl_RX3_70 rfl rfl (ic_5 (lf_c_X3_isBetter_1 Mz b v z1_ z7_ hb e2_ h3_ h6_ e8_)) dX3_isBetter_27 (fun z9_ e10_ => ?_)
      refine w_icmp_ge (tgt := 37) dX3_isBetter_30 (by decide) (rfl : z7_.toInt = z7_.toInt) (rfl : z9_.toInt = z9_.toInt) (fun h11_ => ?_) (fun h11_ => ?_)
      · refine w_iconst (v := 0) dX3_isBetter_37 (by decide) ?_
        exact w_zret rfl dX3_isBetter_38 ⟨by decide, by decide⟩ ⟨rfl, ⟨by decide, by decide⟩, ⟨z1_, e2_, (Or.inr ⟨h3_, (Or.inr ⟨h6_, z7_, e8_, z9_, e10_, (Or.inl ⟨h11_, rfl⟩)⟩)⟩)⟩⟩
      · refine w_iconst (v := 1) dX3_isBetter_33 (by decide) ?_
        refine w_goto (tgt := 38) dX3_isBetter_34 (by decide) ?_
        exact w_zret rfl dX3_isBetter_38 ⟨by decide, by decide⟩ ⟨rfl, ⟨by decide, by decide⟩, ⟨z1_, e2_, (Or.inr ⟨h3_, (Or.inr ⟨h6_, z7_, e8_, z9_, e10_, (Or.inr ⟨h11_, rfl⟩)⟩)⟩)⟩⟩
def S_c_X3_takeFrom (b : Nat) (b2 : Nat) : rf → Nat → Prop := fun c k => (c.1 = 30 ∧ c.2.1 = b) ∨ (c.1 = 31 ∧ c.2.1 = b) ∨ (c.1 = 32 ∧ c.2.1 = b) ∨ (c.1 = 3 ∧ c.2.1 = b ∧ k = 3) ∨ False
def SP_X3_takeFrom (b : Nat) (b2 : Nat) (Mz : mM) (M_ : mM) : Prop := ∃ M1_ : mM, (M1_ = cp Mz (30, b2, 0) (30, b, 0) (0 : Int32).toNatClampNeg (0 : Int32).toNatClampNeg (7 : Int32).toNatClampNeg) ∧ ∃ M5_ : mM, (M5_ = cp M1_ (31, b2, 0) (31, b, 0) (0 : Int32).toNatClampNeg (0 : Int32).toNatClampNeg (7 : Int32).toNatClampNeg) ∧ ∃ M9_ : mM, (M9_ = cp M5_ (32, b2, 0) (32, b, 0) (0 : Int32).toNatClampNeg (0 : Int32).toNatClampNeg (7 : Int32).toNatClampNeg) ∧ ∃ z13_ : Int32, (z13_ = M9_.1 (3, b2, 0) 3) ∧ ∃ M15_ : mM, (M15_ = up M9_ (3, b, 0) 3 z13_) ∧ M_ = M15_
set_option maxHeartbeats 4000000 in
set_option maxRecDepth 100000 in
theorem c_X3_takeFrom (l : Launch) (G : va_G) (cy : Nat → ClassId) (ad : rf → Nat) (d : Nat) (b : Nat) (b2 : Nat) (Mz : mM) (hIz : Inv Mz) (hb : b < 3) (hb2 : b2 < 3) : WP CC l G cy ad yX3_takeFrom cX3_takeFrom 2 none (d + 1) 0 [(0, vR (3, b, 0)), (1, vR (3, b2, 0))] [] Mz (fun r M' => Inv M' ∧ FR (S_c_X3_takeFrom b b2) Mz M' ∧ (True) ∧ SP_X3_takeFrom b b2 Mz M') := by
  have hFz : FR (S_c_X3_takeFrom b b2) Mz Mz := FR.self
  refine w_aload_n dX3_takeFrom_0 rfl 1 rfl ?_
  refine w_getR (c' := (30, b2, 0)) fl_RX3_9 rfl rfl (ic_3 hb2) dX3_takeFrom_1 rfl ?_
  refine w_iconst (v := 0) dX3_takeFrom_4 (by decide) ?_
  refine w_aload_n dX3_takeFrom_5 rfl 0 rfl ?_
  refine w_getR (c' := (30, b, 0)) fl_RX3_9 rfl rfl (ic_3 hb) dX3_takeFrom_6 rfl ?_
  refine w_iconst (v := 0) dX3_takeFrom_9 (by decide) ?_
  refine w_bipush (v := 7) dX3_takeFrom_10 (by decide) ?_
  refine w_copy CC_nd rfl rfl (ic_30 hb2) rfl rfl (ic_30 hb) m_1273 m_830 m_829 m_98 li_0 li_0 li_7 (by decide) rfl (by omega) dX3_takeFrom_12 (fun M1_ hM2_ => ?_)
  have hI3_ := hIz.cpy hM2_ (fun _ _ => trivial)
  have hF4_ := hFz.cpy hM2_ (fun _ => (Or.inl ⟨rfl, rfl⟩))
  refine w_aload_n dX3_takeFrom_15 rfl 1 rfl ?_
  refine w_getR (c' := (31, b2, 0)) fl_RX3_13 rfl rfl (ic_3 hb2) dX3_takeFrom_16 rfl ?_
  refine w_iconst (v := 0) dX3_takeFrom_19 (by decide) ?_
  refine w_aload_n dX3_takeFrom_20 rfl 0 rfl ?_
  refine w_getR (c' := (31, b, 0)) fl_RX3_13 rfl rfl (ic_3 hb) dX3_takeFrom_21 rfl ?_
  refine w_iconst (v := 0) dX3_takeFrom_24 (by decide) ?_
  refine w_bipush (v := 7) dX3_takeFrom_25 (by decide) ?_
  refine w_copy CC_nd rfl rfl (ic_31 hb2) rfl rfl (ic_31 hb) m_1273 m_830 m_829 m_98 li_0 li_0 li_7 (by decide) rfl (by omega) dX3_takeFrom_27 (fun M5_ hM6_ => ?_)
  have hI7_ := hI3_.cpy hM6_ (fun _ _ => trivial)
  have hF8_ := hF4_.cpy hM6_ (fun _ => (Or.inr (Or.inl ⟨rfl, rfl⟩)))
  refine w_aload_n dX3_takeFrom_30 rfl 1 rfl ?_
  refine w_getR (c' := (32, b2, 0)) fl_RX3_16 rfl rfl (ic_3 hb2) dX3_takeFrom_31 rfl ?_
  refine w_iconst (v := 0) dX3_takeFrom_34 (by decide) ?_
  refine w_aload_n dX3_takeFrom_35 rfl 0 rfl ?_
  refine w_getR (c' := (32, b, 0)) fl_RX3_16 rfl rfl (ic_3 hb) dX3_takeFrom_36 rfl ?_
  refine w_iconst (v := 0) dX3_takeFrom_39 (by decide) ?_
  refine w_bipush (v := 7) dX3_takeFrom_40 (by decide) ?_
  refine w_copy CC_nd rfl rfl (ic_32 hb2) rfl rfl (ic_32 hb) m_1273 m_830 m_829 m_98 li_0 li_0 li_7 (by decide) rfl (by omega) dX3_takeFrom_42 (fun M9_ hM10_ => ?_)
  have hI11_ := hI7_.cpy hM10_ (fun _ _ => trivial)
  have hF12_ := hF8_.cpy hM10_ (fun _ => (Or.inr (Or.inr (Or.inl ⟨rfl, rfl⟩))))
  refine w_aload_n dX3_takeFrom_45 rfl 0 rfl ?_
  refine w_aload_n dX3_takeFrom_46 rfl 1 rfl ?_
  refine w_getI fl_RX3_19 rfl rfl (ic_3 hb2) dX3_takeFrom_47 (fun z13_ e14_ => ?_)
  refine w_putI CC_nd fl_RX3_19 rfl rfl (ic_3 hb) dX3_takeFrom_50 (fun M15_ hM16_ => ?_)
  have hI17_ := hI11_.put hM16_ (fun h => absurd h (by decide))
  have hF18_ := hF12_.put hM16_ (Or.inr (Or.inr (Or.inr (Or.inl ⟨rfl, rfl, rfl⟩))))
  exact w_vret rfl dX3_takeFrom_53 ⟨hI17_, hF18_, trivial, ⟨M1_, hM2_, M5_, hM6_, M9_, hM10_, z13_, e14_, M15_, hM16_, rfl⟩⟩
