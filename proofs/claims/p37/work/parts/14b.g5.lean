set_option maxHeartbeats 4000000 in
set_option maxRecDepth 100000 in
theorem c_JI_bitCount (l : Launch) (G : va_G) (cy : Nat → ClassId) (ad : rf → Nat) (d : Nat) (v : Int32) (Mz : mM) (hIz : Inv Mz) : WP CC l G cy ad yJI_bitCount cJI_bitCount 1 (some .int) d 0 [(0, vI v)] [] Mz (fun r M' => Mz = M' ∧ True) := by
  refine w_iload_n dJI_bitCount_0 rfl 0 rfl ?_
  refine w_iload_n dJI_bitCount_1 rfl 0 rfl ?_
  refine w_iconst (v := 1) dJI_bitCount_2 (by decide) ?_
  refine w_iushr dJI_bitCount_3 (fun z1_ => ?_)
  refine w_ldc_w (v := 1431655765) m_1008 dJI_bitCount_4 ?_
  refine w_iand dJI_bitCount_7 (fun z2_ _ => ?_)
  refine w_isub dJI_bitCount_8 (fun z3_ _ => ?_)
  refine w_istore_n (ls' := [(0, vI z3_)]) dJI_bitCount_9 rfl (by decide) rfl ?_
  refine w_iload_n dJI_bitCount_10 rfl 0 rfl ?_
  refine w_ldc_w (v := 858993459) m_1009 dJI_bitCount_11 ?_
  refine w_iand dJI_bitCount_14 (fun z4_ _ => ?_)
  refine w_iload_n dJI_bitCount_15 rfl 0 rfl ?_
  refine w_iconst (v := 2) dJI_bitCount_16 (by decide) ?_
  refine w_iushr dJI_bitCount_17 (fun z5_ => ?_)
  refine w_ldc_w (v := 858993459) m_1009 dJI_bitCount_18 ?_
  refine w_iand dJI_bitCount_21 (fun z6_ _ => ?_)
  refine w_iadd dJI_bitCount_22 (fun z7_ _ => ?_)
  refine w_istore_n (ls' := [(0, vI z7_)]) dJI_bitCount_23 rfl (by decide) rfl ?_
  refine w_iload_n dJI_bitCount_24 rfl 0 rfl ?_
  refine w_iload_n dJI_bitCount_25 rfl 0 rfl ?_
  refine w_iconst (v := 4) dJI_bitCount_26 (by decide) ?_
  refine w_iushr dJI_bitCount_27 (fun z8_ => ?_)
  refine w_iadd dJI_bitCount_28 (fun z9_ _ => ?_)
  refine w_ldc_w (v := 252645135) m_1010 dJI_bitCount_29 ?_
  refine w_iand dJI_bitCount_32 (fun z10_ _ => ?_)
  refine w_istore_n (ls' := [(0, vI z10_)]) dJI_bitCount_33 rfl (by decide) rfl ?_
  refine w_iload_n dJI_bitCount_34 rfl 0 rfl ?_
  refine w_iload_n dJI_bitCount_35 rfl 0 rfl ?_
  refine w_bipush (v := 8) dJI_bitCount_36 (by decide) ?_
  refine w_iushr dJI_bitCount_38 (fun z11_ => ?_)
  refine w_iadd dJI_bitCount_39 (fun z12_ _ => ?_)
  refine w_istore_n (ls' := [(0, vI z12_)]) dJI_bitCount_40 rfl (by decide) rfl ?_
  refine w_iload_n dJI_bitCount_41 rfl 0 rfl ?_
  refine w_iload_n dJI_bitCount_42 rfl 0 rfl ?_
  refine w_bipush (v := 16) dJI_bitCount_43 (by decide) ?_
  refine w_iushr dJI_bitCount_45 (fun z13_ => ?_)
  refine w_iadd dJI_bitCount_46 (fun z14_ _ => ?_)
  refine w_istore_n (ls' := [(0, vI z14_)]) dJI_bitCount_47 rfl (by decide) rfl ?_
  refine w_iload_n dJI_bitCount_48 rfl 0 rfl ?_
  refine w_bipush (v := 63) dJI_bitCount_49 (by decide) ?_
  refine w_iandB 6 dJI_bitCount_51 (by decide) (by decide) (fun z15_ h16_ => ?_)
  exact w_iret rfl dJI_bitCount_52 ⟨rfl, trivial⟩
set_option maxHeartbeats 4000000 in
set_option maxRecDepth 100000 in
theorem c_JL_bitCount (l : Launch) (G : va_G) (cy : Nat → ClassId) (ad : rf → Nat) (d : Nat) (v : Int64) (Mz : mM) (hIz : Inv Mz) : WP CC l G cy ad yJL_bitCount cJL_bitCount 2 (some .int) d 0 [(0, vL v)] [] Mz (fun r M' => Mz = M' ∧ True) := by
  refine w_lload_n dJL_bitCount_0 rfl 0 rfl ?_
  refine w_lload_n dJL_bitCount_1 rfl 0 rfl ?_
  refine w_iconst (v := 1) dJL_bitCount_2 (by decide) ?_
  refine w_lushr dJL_bitCount_3 (fun w1_ _ => ?_)
  refine w_ldc2 (v := 6148914691236517205) m_1018 dJL_bitCount_4 ?_
  refine w_land dJL_bitCount_7 (fun w2_ h3_ => ?_)
  refine w_lsub dJL_bitCount_8 (fun w4_ => ?_)
  refine w_lstore_n (ls' := [(0, vL w4_)]) dJL_bitCount_9 rfl (by decide) rfl ?_
  refine w_lload_n dJL_bitCount_10 rfl 0 rfl ?_
  refine w_ldc2 (v := 3689348814741910323) m_1019 dJL_bitCount_11 ?_
  refine w_land dJL_bitCount_14 (fun w5_ h6_ => ?_)
  refine w_lload_n dJL_bitCount_15 rfl 0 rfl ?_
  refine w_iconst (v := 2) dJL_bitCount_16 (by decide) ?_
  refine w_lushr dJL_bitCount_17 (fun w7_ _ => ?_)
  refine w_ldc2 (v := 3689348814741910323) m_1019 dJL_bitCount_18 ?_
  refine w_land dJL_bitCount_21 (fun w8_ h9_ => ?_)
  refine w_ladd dJL_bitCount_22 (fun w10_ h11_ => ?_)
  refine w_lstore_n (ls' := [(0, vL w10_)]) dJL_bitCount_23 rfl (by decide) rfl ?_
  refine w_lload_n dJL_bitCount_24 rfl 0 rfl ?_
  refine w_lload_n dJL_bitCount_25 rfl 0 rfl ?_
  refine w_iconst (v := 4) dJL_bitCount_26 (by decide) ?_
  refine w_lushr dJL_bitCount_27 (fun w12_ _ => ?_)
  refine w_ladd dJL_bitCount_28 (fun w13_ h14_ => ?_)
  refine w_ldc2 (v := 1085102592571150095) m_1020 dJL_bitCount_29 ?_
  refine w_land dJL_bitCount_32 (fun w15_ h16_ => ?_)
  refine w_lstore_n (ls' := [(0, vL w15_)]) dJL_bitCount_33 rfl (by decide) rfl ?_
  refine w_lload_n dJL_bitCount_34 rfl 0 rfl ?_
  refine w_lload_n dJL_bitCount_35 rfl 0 rfl ?_
  refine w_bipush (v := 8) dJL_bitCount_36 (by decide) ?_
  refine w_lushr dJL_bitCount_38 (fun w17_ _ => ?_)
  refine w_ladd dJL_bitCount_39 (fun w18_ h19_ => ?_)
  refine w_lstore_n (ls' := [(0, vL w18_)]) dJL_bitCount_40 rfl (by decide) rfl ?_
  refine w_lload_n dJL_bitCount_41 rfl 0 rfl ?_
  refine w_lload_n dJL_bitCount_42 rfl 0 rfl ?_
  refine w_bipush (v := 16) dJL_bitCount_43 (by decide) ?_
  refine w_lushr dJL_bitCount_45 (fun w20_ _ => ?_)
  refine w_ladd dJL_bitCount_46 (fun w21_ h22_ => ?_)
  refine w_lstore_n (ls' := [(0, vL w21_)]) dJL_bitCount_47 rfl (by decide) rfl ?_
  refine w_lload_n dJL_bitCount_48 rfl 0 rfl ?_
  refine w_lload_n dJL_bitCount_49 rfl 0 rfl ?_
  refine w_bipush (v := 32) dJL_bitCount_50 (by decide) ?_
  refine w_lushr dJL_bitCount_52 (fun w23_ _ => ?_)
  refine w_ladd dJL_bitCount_53 (fun w24_ h25_ => ?_)
  refine w_lstore_n (ls' := [(0, vL w24_)]) dJL_bitCount_54 rfl (by decide) rfl ?_
  refine w_lload_n dJL_bitCount_55 rfl 0 rfl ?_
  refine w_l2i dJL_bitCount_56 (fun z26_ h27_ => ?_)
  refine w_bipush (v := 127) dJL_bitCount_57 (by decide) ?_
  refine w_iandB 7 dJL_bitCount_59 (by decide) (by decide) (fun z28_ h29_ => ?_)
  exact w_iret rfl dJL_bitCount_60 ⟨rfl, trivial⟩
set_option maxHeartbeats 4000000 in
set_option maxRecDepth 100000 in
theorem c_X2_isClick (l : Launch) (G : va_G) (cy : Nat → ClassId) (ad : rf → Nat) (d : Nat) (v : Int32) (u : Int32) (Mz : mM) (hIz : Inv Mz) : WP CC l G cy ad yX2_isClick cX2_isClick 2 (some .boolean) (d + 1) 0 [(0, vI v), (1, vI u)] [] Mz (fun r M' => Mz = M' ∧ (0 ≤ r.toInt ∧ r.toInt ≤ 1)) := by
  refine w_iload_n dX2_isClick_0 rfl 0 rfl ?_
  refine w_iconst (v := 1) dX2_isClick_1 (by decide) ?_
  refine w_bipush (v := 9) dX2_isClick_2 (by decide) ?_
  refine w_callSN (as := [vI v, vI 1, vI 9]) (rest := []) (c_X11_within l G cy ad d v 1 9 Mz hIz) kS_X11_within (by decide +kernel) (Nat.le_of_ble_eq_true rfl) (List.mem_of_getElem? (l := NMs) (i := 8) rfl) rfl rfl (by decide) (Nat.le_of_ble_eq_true rfl) dX2_isClick_4 (fun r1_ M2_ q3_ => ?_)
  obtain ⟨rfl, h4_⟩ := q3_
  rcases h4_ with ⟨rfl, h4_⟩ | ⟨rfl, h4_⟩
  · simp only [li_1, li_9] at h4_
    refine w_if_eq (tgt := 24) dX2_isClick_7 (by decide) li_1 (fun h9 => (absurd h9 (by decide))) (fun h5_ => ?_)
    refine w_iload_n dX2_isClick_10 rfl 1 rfl ?_
    refine w_iconst (v := 1) dX2_isClick_11 (by decide) ?_
    refine w_bipush (v := 99) dX2_isClick_12 (by decide) ?_
    refine w_callSN (as := [vI u, vI 1, vI 99]) (rest := []) (c_X11_within l G cy ad d u 1 99 Mz hIz) kS_X11_within (by decide +kernel) (Nat.le_of_ble_eq_true rfl) (List.mem_of_getElem? (l := NMs) (i := 8) rfl) rfl rfl (by decide) (Nat.le_of_ble_eq_true rfl) dX2_isClick_14 (fun r6_ M7_ q8_ => ?_)
    obtain ⟨rfl, h9_⟩ := q8_
    rcases h9_ with ⟨rfl, h9_⟩ | ⟨rfl, h9_⟩
    · simp only [li_1, li_99] at h9_
      refine w_if_eq (tgt := 24) dX2_isClick_17 (by decide) li_1 (fun h9 => (absurd h9 (by decide))) (fun h10_ => ?_)
      refine w_iconst (v := 1) dX2_isClick_20 (by decide) ?_
      refine w_goto (tgt := 25) dX2_isClick_21 (by decide) ?_
      exact w_zret rfl dX2_isClick_25 ⟨by decide, by decide⟩ ⟨rfl, ⟨by decide, by decide⟩⟩
    · simp only [li_1, li_99] at h9_
      refine w_if_eq (tgt := 24) dX2_isClick_17 (by decide) li_0 (fun h11_ => ?_) (fun h9 => (absurd h9 (by decide)))
      refine w_iconst (v := 0) dX2_isClick_24 (by decide) ?_
      exact w_zret rfl dX2_isClick_25 ⟨by decide, by decide⟩ ⟨rfl, ⟨by decide, by decide⟩⟩
  · simp only [li_1, li_9] at h4_
    refine w_if_eq (tgt := 24) dX2_isClick_7 (by decide) li_0 (fun h12_ => ?_) (fun h9 => (absurd h9 (by decide)))
    refine w_iconst (v := 0) dX2_isClick_24 (by decide) ?_
    exact w_zret rfl dX2_isClick_25 ⟨by decide, by decide⟩ ⟨rfl, ⟨by decide, by decide⟩⟩
theorem lf_c_X2_isClick__0  (v : Int32) (h1_ : 0 < v.toInt) : 0 ≤ v.toInt := by have r_v := rngI v; omega
theorem lf_c_X2_isClick__1  (v : Int32) (z2_ : Int32) (h1_ : 0 < v.toInt) (h3_ : z2_.toInt = v.toInt / 100) : 0 ≤ v.toInt := by have r_v := rngI v; have r_z2_ := rngI z2_; omega
set_option maxHeartbeats 4000000 in
set_option maxRecDepth 100000 in
theorem c_X2_isClick_ (l : Launch) (G : va_G) (cy : Nat → ClassId) (ad : rf → Nat) (d : Nat) (v : Int32) (Mz : mM) (hIz : Inv Mz) : WP CC l G cy ad yX2_isClick_ cX2_isClick_ 1 (some .boolean) (d + 2) 0 [(0, vI v)] [] Mz (fun r M' => Mz = M' ∧ (0 ≤ r.toInt ∧ r.toInt ≤ 1)) := by
  refine w_iload_n dX2_isClick__0 rfl 0 rfl ?_
  refine w_if_le (tgt := 22) dX2_isClick__1 (by decide) (rfl : v.toInt = v.toInt) (fun h1_ => ?_) (fun h1_ => ?_)
  · refine w_iconst (v := 0) dX2_isClick__22 (by decide) ?_
    exact w_zret rfl dX2_isClick__23 ⟨by decide, by decide⟩ ⟨rfl, ⟨by decide, by decide⟩⟩
  · refine w_iload_n dX2_isClick__4 rfl 0 rfl ?_
    refine w_bipush (v := 100) dX2_isClick__5 (by decide) ?_
    refine w_idivB dX2_isClick__7 (by decide) (rfl : v.toInt = v.toInt) li_100 (lf_c_X2_isClick__0 v h1_) (by decide) (fun z2_ h3_ => ?_)
    refine w_iload_n dX2_isClick__8 rfl 0 rfl ?_
    refine w_bipush (v := 100) dX2_isClick__9 (by decide) ?_
    refine w_iremB dX2_isClick__11 (by decide) (rfl : v.toInt = v.toInt) li_100 (lf_c_X2_isClick__1 v z2_ h1_ h3_) (by decide) (fun z4_ h5_ => ?_)
    refine w_callS (as := [vI z2_, vI z4_]) (rest := []) (c_X2_isClick l G cy ad d z2_ z4_ Mz hIz) kS_X2_isClick (by decide +kernel) (Nat.le_of_ble_eq_true rfl) m_842 rfl rfl (by decide) (Nat.le_of_ble_eq_true rfl) dX2_isClick__12 (fun r6_ M7_ q8_ => ?_)
    obtain ⟨rfl, h9_⟩ := q8_
    refine w_if_eq (tgt := 22) dX2_isClick__15 (by decide) (rfl : r6_.toInt = r6_.toInt) (fun h10_ => ?_) (fun h10_ => ?_)
    · refine w_iconst (v := 0) dX2_isClick__22 (by decide) ?_
      exact w_zret rfl dX2_isClick__23 ⟨by decide, by decide⟩ ⟨rfl, ⟨by decide, by decide⟩⟩
    · refine w_iconst (v := 1) dX2_isClick__18 (by decide) ?_
      refine w_goto (tgt := 23) dX2_isClick__19 (by decide) ?_
      exact w_zret rfl dX2_isClick__23 ⟨by decide, by decide⟩ ⟨rfl, ⟨by decide, by decide⟩⟩
set_option maxHeartbeats 4000000 in
set_option maxRecDepth 100000 in
theorem c_X2_late (l : Launch) (G : va_G) (cy : Nat → ClassId) (ad : rf → Nat) (d : Nat) (v : Int32) (u : Int32) (Mz : mM) (hIz : Inv Mz) : WP CC l G cy ad yX2_late cX2_late 2 (some .int) d 0 [(0, vI v), (1, vI u)] [] Mz (fun r M' => Mz = M' ∧ True) := by
  refine w_iload_n dX2_late_0 rfl 1 rfl ?_
  refine w_iload_n dX2_late_1 rfl 0 rfl ?_
  refine w_iconst (v := 1) dX2_late_2 (by decide) ?_
  refine w_iandB 1 dX2_late_3 (by decide) (by decide) (fun z1_ h2_ => ?_)
  refine w_iconst (v := 1) dX2_late_4 (by decide) ?_
  refine w_icmp_ne (tgt := 13) dX2_late_5 (by decide) (rfl : z1_.toInt = z1_.toInt) li_1 (fun h3_ => ?_) (fun h3_ => ?_)
  · refine w_bipush (v := 6) dX2_late_13 (by decide) ?_
    refine w_imul dX2_late_15 (fun z4_ _ => ?_)
    exact w_iret rfl dX2_late_16 ⟨rfl, trivial⟩
  · refine w_bipush (v := 8) dX2_late_8 (by decide) ?_
    refine w_goto (tgt := 15) dX2_late_10 (by decide) ?_
    refine w_imul dX2_late_15 (fun z5_ _ => ?_)
    exact w_iret rfl dX2_late_16 ⟨rfl, trivial⟩
def S_c_X2_changeKind (b : Nat) : rf → Nat → Prop := fun c k => (c.1 = 27 ∧ c.2.1 = b) ∨ (c.1 = 26 ∧ c.2.1 = b) ∨ False
theorem lf_c_X2_changeKind_0  (v : Int32) (h2_ : 0 ≤ v.toInt) (h3_ : v.toInt < 5) : 0 ≤ v.toInt ∧ v.toInt < ((5 : Nat) : Int) := by have r_v := rngI v; omega
theorem lf_c_X2_changeKind_1 (Mz : mM) (b : Nat) (v : Int32) (j6_ : Nat) (z4_ : Int32) (hb : b < 3) (h2_ : 0 ≤ v.toInt) (h3_ : v.toInt < 5) (h7_ : (j6_ : Int) = v.toInt) (e5_ : z4_ = Mz.1 (27, b, 0) j6_) : 0 ≤ v.toInt ∧ v.toInt < ((5 : Nat) : Int) := by have r_v := rngI v; have r_z4_ := rngI z4_; subst e5_; omega
theorem lf_c_X2_changeKind_2  (v : Int32) (h14_ : 0 ≤ v.toInt) (h15_ : v.toInt < 5) : 0 ≤ v.toInt ∧ v.toInt < ((5 : Nat) : Int) := by have r_v := rngI v; omega
theorem lf_c_X2_changeKind_3 (Mz : mM) (b : Nat) (v : Int32) (j18_ : Nat) (z16_ : Int32) (hb : b < 3) (h14_ : 0 ≤ v.toInt) (h15_ : v.toInt < 5) (h19_ : (j18_ : Int) = v.toInt) (e17_ : z16_ = Mz.1 (26, b, 0) j18_) : 0 ≤ v.toInt ∧ v.toInt < ((5 : Nat) : Int) := by have r_v := rngI v; have r_z16_ := rngI z16_; subst e17_; omega
set_option maxHeartbeats 4000000 in
set_option maxRecDepth 100000 in
theorem c_X2_changeKind (l : Launch) (G : va_G) (cy : Nat → ClassId) (ad : rf → Nat) (d : Nat) (b : Nat) (v : Int32) (u : Int32) (t : Int32) (Mz : mM) (hIz : Inv Mz) (hb : b < 3) : WP CC l G cy ad yX2_changeKind cX2_changeKind 6 (some .int) d 0 [(0, vR (2, b, 0)), (1, vI v), (2, vI u), (3, vI t)] [] Mz (fun r M' => Inv M' ∧ FR (S_c_X2_changeKind b) Mz M' ∧ True) := by
  have hFz : FR (S_c_X2_changeKind b) Mz Mz := FR.self
  refine w_iload_n dX2_changeKind_0 rfl 2 rfl ?_
  refine w_if_ne (tgt := 11) dX2_changeKind_1 (by decide) (rfl : u.toInt = u.toInt) (fun h1_ => ?_) (fun h1_ => ?_)
  · refine w_aload_n dX2_changeKind_11 rfl 0 rfl ?_
    refine w_getR (c' := (27, b, 0)) fl_RX2_25 rfl rfl (ic_2 hb) dX2_changeKind_12 rfl ?_
    refine w_astore (ls' := [(4, vR (27, b, 0)), (0, vR (2, b, 0)), (1, vI v), (2, vI u), (3, vI t)]) dX2_changeKind_15 (by decide) rfl ?_
    refine w_iload_n dX2_changeKind_17 rfl 2 rfl ?_
    refine w_if_lt (tgt := 28) dX2_changeKind_18 (by decide) (rfl : v.toInt = v.toInt) (fun h2_ => ?_) (fun h2_ => ?_)
    · refine w_iconst (v := 0) dX2_changeKind_28 (by decide) ?_
      exact w_iret rfl dX2_changeKind_29 ⟨hIz, hFz, trivial⟩
    · refine w_iload_n dX2_changeKind_21 rfl 2 rfl ?_
      refine w_aload dX2_changeKind_22 0 rfl ?_
      refine w_alen (v := 5) (by decide) rfl rfl (ic_27 hb) dX2_changeKind_24 rfl ?_
      refine w_icmp_lt (tgt := 30) dX2_changeKind_25 (by decide) (rfl : v.toInt = v.toInt) li_5 (fun h3_ => ?_) (fun h3_ => ?_)
      · refine w_aload dX2_changeKind_30 0 rfl ?_
        refine w_iload_n dX2_changeKind_32 rfl 2 rfl ?_
        refine w_iald rfl rfl (ic_27 hb) (rfl : v.toInt = v.toInt) (lf_c_X2_changeKind_0 v h2_ h3_) dX2_changeKind_33 (fun j6_ h7_ z4_ e5_ => ?_)
        refine w_istore (ls' := [(5, vI z4_), (4, vR (27, b, 0)), (0, vR (2, b, 0)), (1, vI v), (2, vI u), (3, vI t)]) dX2_changeKind_34 (by decide) rfl ?_
        refine w_aload dX2_changeKind_36 1 rfl ?_
        refine w_iload_n dX2_changeKind_38 rfl 3 rfl ?_
        refine w_iload_n dX2_changeKind_39 rfl 5 rfl ?_
        refine w_iast CC_nd rfl rfl (ic_27 hb) (rfl : v.toInt = v.toInt) (lf_c_X2_changeKind_1 Mz b v j6_ z4_ hb h2_ h3_ h7_ e5_) dX2_changeKind_40 (fun j10_ h11_ M8_ hM9_ => ?_)
        have hI12_ := hIz.put hM9_ trivial
        have hF13_ := hFz.put hM9_ (Or.inl ⟨rfl, rfl⟩)
        refine w_iload dX2_changeKind_41 0 rfl ?_
        exact w_iret rfl dX2_changeKind_43 ⟨hI12_, hF13_, trivial⟩
      · refine w_iconst (v := 0) dX2_changeKind_28 (by decide) ?_
        exact w_iret rfl dX2_changeKind_29 ⟨hIz, hFz, trivial⟩
  · refine w_aload_n dX2_changeKind_4 rfl 0 rfl ?_
    refine w_getR (c' := (26, b, 0)) fl_RX2_21 rfl rfl (ic_2 hb) dX2_changeKind_5 rfl ?_
    refine w_goto (tgt := 15) dX2_changeKind_8 (by decide) ?_
    refine w_astore (ls' := [(4, vR (26, b, 0)), (0, vR (2, b, 0)), (1, vI v), (2, vI u), (3, vI t)]) dX2_changeKind_15 (by decide) rfl ?_
    refine w_iload_n dX2_changeKind_17 rfl 2 rfl ?_
    refine w_if_lt (tgt := 28) dX2_changeKind_18 (by decide) (rfl : v.toInt = v.toInt) (fun h14_ => ?_) (fun h14_ => ?_)
    · refine w_iconst (v := 0) dX2_changeKind_28 (by decide) ?_
      exact w_iret rfl dX2_changeKind_29 ⟨hIz, hFz, trivial⟩
    · refine w_iload_n dX2_changeKind_21 rfl 2 rfl ?_
      refine w_aload dX2_changeKind_22 0 rfl ?_
      refine w_alen (v := 5) (by decide) rfl rfl (ic_26 hb) dX2_changeKind_24 rfl ?_
      refine w_icmp_lt (tgt := 30) dX2_changeKind_25 (by decide) (rfl : v.toInt = v.toInt) li_5 (fun h15_ => ?_) (fun h15_ => ?_)
      · refine w_aload dX2_changeKind_30 0 rfl ?_
        refine w_iload_n dX2_changeKind_32 rfl 2 rfl ?_
        refine w_iald rfl rfl (ic_26 hb) (rfl : v.toInt = v.toInt) (lf_c_X2_changeKind_2 v h14_ h15_) dX2_changeKind_33 (fun j18_ h19_ z16_ e17_ => ?_)
        refine w_istore (ls' := [(5, vI z16_), (4, vR (26, b, 0)), (0, vR (2, b, 0)), (1, vI v), (2, vI u), (3, vI t)]) dX2_changeKind_34 (by decide) rfl ?_
        refine w_aload dX2_changeKind_36 1 rfl ?_
        refine w_iload_n dX2_changeKind_38 rfl 3 rfl ?_
        refine w_iload_n dX2_changeKind_39 rfl 5 rfl ?_
        refine w_iast CC_nd rfl rfl (ic_26 hb) (rfl : v.toInt = v.toInt) (lf_c_X2_changeKind_3 Mz b v j18_ z16_ hb h14_ h15_ h19_ e17_) dX2_changeKind_40 (fun j22_ h23_ M20_ hM21_ => ?_)
        have hI24_ := hIz.put hM21_ trivial
        have hF25_ := hFz.put hM21_ (Or.inr (Or.inl ⟨rfl, rfl⟩))
        refine w_iload dX2_changeKind_41 0 rfl ?_
        exact w_iret rfl dX2_changeKind_43 ⟨hI24_, hF25_, trivial⟩
      · refine w_iconst (v := 0) dX2_changeKind_28 (by decide) ?_
        exact w_iret rfl dX2_changeKind_29 ⟨hIz, hFz, trivial⟩
def S_c_X2_changeAir (b : Nat) : rf → Nat → Prop := fun c k => (c.1 = 2 ∧ c.2.1 = b ∧ k = 2) ∨ (c.1 = 2 ∧ c.2.1 = b ∧ k = 1) ∨ (c.1 = 2 ∧ c.2.1 = b ∧ k = 0) ∨ False
theorem lf_c_X2_changeAir_0  (v : Int32) (h1_ : ¬ v.toInt = 0) (h2_ : v.toInt = 1) (h9 : v.toInt = 0) : False := by have r_v := rngI v; omega
theorem lf_c_X2_changeAir_1  (v : Int32) (h1_ : ¬ v.toInt = 0) (h2_ : v.toInt = 1) (h21_ : ¬ v.toInt = 0) (h9 : ¬ v.toInt = 1) : False := by have r_v := rngI v; omega
theorem lf_c_X2_changeAir_2  (v : Int32) (h1_ : v.toInt = 0) (h9 : ¬ v.toInt = 0) : False := by have r_v := rngI v; omega
set_option maxHeartbeats 4000000 in
set_option maxRecDepth 100000 in
theorem c_X2_changeAir (l : Launch) (G : va_G) (cy : Nat → ClassId) (ad : rf → Nat) (d : Nat) (b : Nat) (v : Int32) (u : Int32) (Mz : mM) (hIz : Inv Mz) (hb : b < 3) : WP CC l G cy ad yX2_changeAir cX2_changeAir 4 (some .int) d 0 [(0, vR (2, b, 0)), (1, vI v), (2, vI u)] [] Mz (fun r M' => Inv M' ∧ FR (S_c_X2_changeAir b) Mz M' ∧ True) := by
  have hFz : FR (S_c_X2_changeAir b) Mz Mz := FR.self
  refine w_iload_n dX2_changeAir_0 rfl 1 rfl ?_
  refine w_if_ne (tgt := 11) dX2_changeAir_1 (by decide) (rfl : v.toInt = v.toInt) (fun h1_ => ?_) (fun h1_ => ?_)
  · refine w_iload_n dX2_changeAir_11 rfl 1 rfl ?_
    refine w_iconst (v := 1) dX2_changeAir_12 (by decide) ?_
    refine w_icmp_ne (tgt := 23) dX2_changeAir_13 (by decide) (rfl : v.toInt = v.toInt) li_1 (fun h2_ => ?_) (fun h2_ => ?_)
    · refine w_aload_n dX2_changeAir_23 rfl 0 rfl ?_
      refine w_getI fl_RX2_16 rfl rfl (ic_2 hb) dX2_changeAir_24 (fun z3_ e4_ => ?_)
      refine w_istore_n (ls' := [(3, vI z3_), (0, vR (2, b, 0)), (1, vI v), (2, vI u)]) dX2_changeAir_27 rfl (by decide) rfl ?_
      refine w_iload_n dX2_changeAir_28 rfl 2 rfl ?_
      refine w_if_ne (tgt := 40) dX2_changeAir_29 (by decide) (rfl : v.toInt = v.toInt) (fun h5_ => ?_) (fun h5_ => ?_)
      · refine w_iload_n dX2_changeAir_40 rfl 2 rfl ?_
        refine w_iconst (v := 1) dX2_changeAir_41 (by decide) ?_
        refine w_icmp_ne (tgt := 53) dX2_changeAir_42 (by decide) (rfl : v.toInt = v.toInt) li_1 (fun h6_ => ?_) (fun h6_ => ?_)
        · refine w_aload_n dX2_changeAir_53 rfl 1 rfl ?_
          refine w_iload_n dX2_changeAir_54 rfl 3 rfl ?_
          refine w_putI CC_nd fl_RX2_16 rfl rfl (ic_2 hb) dX2_changeAir_55 (fun M7_ hM8_ => ?_)
          have hI9_ := hIz.put hM8_ trivial
          have hF10_ := hFz.put hM8_ (Or.inl ⟨rfl, rfl, rfl⟩)
          refine w_iload_n dX2_changeAir_58 rfl 0 rfl ?_
          exact w_iret rfl dX2_changeAir_59 ⟨hI9_, hF10_, trivial⟩
        · refine w_aload_n dX2_changeAir_45 rfl 1 rfl ?_
          refine w_iload_n dX2_changeAir_46 rfl 3 rfl ?_
          refine w_putI CC_nd fl_RX2_13 rfl rfl (ic_2 hb) dX2_changeAir_47 (fun M11_ hM12_ => ?_)
          have hI13_ := hIz.put hM12_ trivial
          have hF14_ := hFz.put hM12_ (Or.inr (Or.inl ⟨rfl, rfl, rfl⟩))
          refine w_goto (tgt := 58) dX2_changeAir_50 (by decide) ?_
          refine w_iload_n dX2_changeAir_58 rfl 0 rfl ?_
          exact w_iret rfl dX2_changeAir_59 ⟨hI13_, hF14_, trivial⟩
      · refine w_aload_n dX2_changeAir_32 rfl 1 rfl ?_
        refine w_iload_n dX2_changeAir_33 rfl 3 rfl ?_
        refine w_putI CC_nd fl_RX2_7 rfl rfl (ic_2 hb) dX2_changeAir_34 (fun M15_ hM16_ => ?_)
        have hI17_ := hIz.put hM16_ trivial
        have hF18_ := hFz.put hM16_ (Or.inr (Or.inr (Or.inl ⟨rfl, rfl, rfl⟩)))
        refine w_goto (tgt := 58) dX2_changeAir_37 (by decide) ?_
        refine w_iload_n dX2_changeAir_58 rfl 0 rfl ?_
        exact w_iret rfl dX2_changeAir_59 ⟨hI17_, hF18_, trivial⟩
    · refine w_aload_n dX2_changeAir_16 rfl 0 rfl ?_
      refine w_getI fl_RX2_13 rfl rfl (ic_2 hb) dX2_changeAir_17 (fun z19_ e20_ => ?_)
      refine w_goto (tgt := 27) dX2_changeAir_20 (by decide) ?_
      refine w_istore_n (ls' := [(3, vI z19_), (0, vR (2, b, 0)), (1, vI v), (2, vI u)]) dX2_changeAir_27 rfl (by decide) rfl ?_
      refine w_iload_n dX2_changeAir_28 rfl 2 rfl ?_
      refine w_if_ne (tgt := 40) dX2_changeAir_29 (by decide) (rfl : v.toInt = v.toInt) (fun h21_ => ?_) (fun h9 => (lf_c_X2_changeAir_0 v h1_ h2_ h9).elim)
      refine w_iload_n dX2_changeAir_40 rfl 2 rfl ?_
      refine w_iconst (v := 1) dX2_changeAir_41 (by decide) ?_
      refine w_icmp_ne (tgt := 53) dX2_changeAir_42 (by decide) (rfl : v.toInt = v.toInt) li_1 (fun h9 => (lf_c_X2_changeAir_1 v h1_ h2_ h21_ h9).elim) (fun h22_ => ?_)
      refine w_aload_n dX2_changeAir_45 rfl 1 rfl ?_
      refine w_iload_n dX2_changeAir_46 rfl 3 rfl ?_
      refine w_putI CC_nd fl_RX2_13 rfl rfl (ic_2 hb) dX2_changeAir_47 (fun M23_ hM24_ => ?_)
      have hI25_ := hIz.put hM24_ trivial
      have hF26_ := hFz.put hM24_ (Or.inr (Or.inl ⟨rfl, rfl, rfl⟩))
      refine w_goto (tgt := 58) dX2_changeAir_50 (by decide) ?_
      refine w_iload_n dX2_changeAir_58 rfl 0 rfl ?_
      exact w_iret rfl dX2_changeAir_59 ⟨hI25_, hF26_, trivial⟩
  · refine w_aload_n dX2_changeAir_4 rfl 0 rfl ?_
    refine w_getI fl_RX2_7 rfl rfl (ic_2 hb) dX2_changeAir_5 (fun z27_ e28_ => ?_)
    refine w_goto (tgt := 27) dX2_changeAir_8 (by decide) ?_
    refine w_istore_n (ls' := [(3, vI z27_), (0, vR (2, b, 0)), (1, vI v), (2, vI u)]) dX2_changeAir_27 rfl (by decide) rfl ?_
    refine w_iload_n dX2_changeAir_28 rfl 2 rfl ?_
    refine w_if_ne (tgt := 40) dX2_changeAir_29 (by decide) (rfl : v.toInt = v.toInt) (fun h9 => (lf_c_X2_changeAir_2 v h1_ h9).elim) (fun h29_ => ?_)
    refine w_aload_n dX2_changeAir_32 rfl 1 rfl ?_
    refine w_iload_n dX2_changeAir_33 rfl 3 rfl ?_
    refine w_putI CC_nd fl_RX2_7 rfl rfl (ic_2 hb) dX2_changeAir_34 (fun M30_ hM31_ => ?_)
    have hI32_ := hIz.put hM31_ trivial
    have hF33_ := hFz.put hM31_ (Or.inr (Or.inr (Or.inl ⟨rfl, rfl, rfl⟩)))
    refine w_goto (tgt := 58) dX2_changeAir_37 (by decide) ?_
    refine w_iload_n dX2_changeAir_58 rfl 0 rfl ?_
    exact w_iret rfl dX2_changeAir_59 ⟨hI32_, hF33_, trivial⟩
def S_c_X2_strength (b : Nat) : rf → Nat → Prop := fun c k => (c.1 = 29 ∧ c.2.1 = b ∧ k = 0) ∨ (c.1 = 29 ∧ c.2.1 = b ∧ k = 1) ∨ (c.1 = 29 ∧ c.2.1 = b ∧ k = 2) ∨ (c.1 = 29 ∧ c.2.1 = b ∧ k = 3) ∨ (c.1 = 25 ∧ c.2.1 = b ∧ c.2.2 = 0) ∨ False
theorem lf_c_X2_strength_0  (v : Int32) (h3_ : 0 ≤ v.toInt) (h4_ : v.toInt < 5) : 0 ≤ v.toInt ∧ v.toInt < ((5 : Nat) : Int) := by have r_v := rngI v; omega
theorem lf_c_X2_strength_1 (Mz : mM) (b : Nat) (v : Int32) (z1_ : Int32) (j7_ : Nat) (z5_ : Int32) (hb : b < 3) (h3_ : 0 ≤ v.toInt) (h4_ : v.toInt < 5) (h8_ : (j7_ : Int) = v.toInt) (e6_ : z5_ = Mz.1 (27, b, 0) j7_) (h9_ : z5_.toInt ≤ z1_.toInt) : 0 ≤ v.toInt ∧ v.toInt < ((5 : Nat) : Int) := by have r_v := rngI v; have r_z1_ := rngI z1_; have r_z5_ := rngI z5_; subst e6_; omega
theorem lf_c_X2_strength_2 (Mz : mM) (b : Nat) (v : Int32) (z1_ : Int32) (j7_ : Nat) (z5_ : Int32) (j12_ : Nat) (z10_ : Int32) (hb : b < 3) (h3_ : 0 ≤ v.toInt) (h4_ : v.toInt < 5) (h8_ : (j7_ : Int) = v.toInt) (e6_ : z5_ = Mz.1 (27, b, 0) j7_) (h9_ : z5_.toInt ≤ z1_.toInt) (h13_ : (j12_ : Int) = v.toInt) (e11_ : z10_ = Mz.1 (26, b, 0) j12_) : vF b 0 := by have r_v := rngI v; have r_z1_ := rngI z1_; have r_z5_ := rngI z5_; have r_z10_ := rngI z10_; unfold vF; omega
theorem lf_c_X2_strength_3 (Mz : mM) (b : Nat) (v : Int32) (z1_ : Int32) (j7_ : Nat) (z5_ : Int32) (j12_ : Nat) (z10_ : Int32) (hb : b < 3) (h3_ : 0 ≤ v.toInt) (h4_ : v.toInt < 5) (h8_ : (j7_ : Int) = v.toInt) (e6_ : z5_ = Mz.1 (27, b, 0) j7_) (h9_ : z5_.toInt ≤ z1_.toInt) (h13_ : (j12_ : Int) = v.toInt) (e11_ : z10_ = Mz.1 (26, b, 0) j12_) : vF b 0 := by have r_v := rngI v; have r_z1_ := rngI z1_; have r_z5_ := rngI z5_; have r_z10_ := rngI z10_; unfold vF; omega
theorem lf_c_X2_strength_4  (z17_ : Int32) (z23_ : Int32) (z25_ : Int32) (h24_ : (z23_.toInt = 999 ∧ 999 ≤ z17_.toInt) ∨ (z23_.toInt = z17_.toInt ∧ z17_.toInt ≤ 999)) (h26_ : (z25_.toInt = 0 ∧ z23_.toInt ≤ 0) ∨ (z25_.toInt = z23_.toInt ∧ 0 ≤ z23_.toInt)) : 0 ≤ z25_.toInt := by have r_z17_ := rngI z17_; have r_z23_ := rngI z23_; have r_z25_ := rngI z25_; omega
theorem lf_c_X2_strength_5 (M32_ : mM) (Mz : mM) (b : Nat) (v : Int32) (z1_ : Int32) (z2_ : Int32) (j7_ : Nat) (z5_ : Int32) (j12_ : Nat) (z10_ : Int32) (hb : b < 3) (h3_ : 0 ≤ v.toInt) (h4_ : v.toInt < 5) (h8_ : (j7_ : Int) = v.toInt) (e6_ : z5_ = Mz.1 (27, b, 0) j7_) (h9_ : z5_.toInt ≤ z1_.toInt) (h13_ : (j12_ : Int) = v.toInt) (e11_ : z10_ = Mz.1 (26, b, 0) j12_) (hM33_ : M32_ = up Mz (29, b, 0) 0 z2_) : 0 ≤ v.toInt ∧ v.toInt < ((5 : Nat) : Int) := by have r_v := rngI v; have r_z1_ := rngI z1_; have r_z2_ := rngI z2_; have r_z5_ := rngI z5_; have r_z10_ := rngI z10_; subst e6_; subst e11_; omega
theorem lf_c_X2_strength_6 (M32_ : mM) (M40_ : mM) (M44_ : mM) (M48_ : mM) (Mz : mM) (b : Nat) (v : Int32) (t : Int32) (z1_ : Int32) (z2_ : Int32) (j7_ : Nat) (z5_ : Int32) (j12_ : Nat) (z10_ : Int32) (j38_ : Nat) (z36_ : Int32) (hb : b < 3) (h3_ : 0 ≤ v.toInt) (h4_ : v.toInt < 5) (h8_ : (j7_ : Int) = v.toInt) (e6_ : z5_ = Mz.1 (27, b, 0) j7_) (h9_ : z5_.toInt ≤ z1_.toInt) (h13_ : (j12_ : Int) = v.toInt) (e11_ : z10_ = Mz.1 (26, b, 0) j12_) (hM33_ : M32_ = up Mz (29, b, 0) 0 z2_) (h39_ : (j38_ : Int) = v.toInt) (e37_ : z36_ = M32_.1 (26, b, 0) j38_) (hM41_ : M40_ = up M32_ (29, b, 0) 1 z36_) (hM45_ : M44_ = up M40_ (29, b, 0) 2 t) (hM49_ : M48_ = up M44_ (29, b, 0) 3 z1_) : vF b 0 := by have r_v := rngI v; have r_t := rngI t; have r_z1_ := rngI z1_; have r_z2_ := rngI z2_; have r_z5_ := rngI z5_; have r_z10_ := rngI z10_; have r_z36_ := rngI z36_; unfold vF; omega
theorem lf_c_X2_strength_7 (M32_ : mM) (M40_ : mM) (M44_ : mM) (M48_ : mM) (Mz : mM) (b : Nat) (v : Int32) (t : Int32) (z1_ : Int32) (z2_ : Int32) (j7_ : Nat) (z5_ : Int32) (j12_ : Nat) (z10_ : Int32) (j38_ : Nat) (z36_ : Int32) (hb : b < 3) (h3_ : 0 ≤ v.toInt) (h4_ : v.toInt < 5) (h8_ : (j7_ : Int) = v.toInt) (e6_ : z5_ = Mz.1 (27, b, 0) j7_) (h9_ : z5_.toInt ≤ z1_.toInt) (h13_ : (j12_ : Int) = v.toInt) (e11_ : z10_ = Mz.1 (26, b, 0) j12_) (hM33_ : M32_ = up Mz (29, b, 0) 0 z2_) (h39_ : (j38_ : Int) = v.toInt) (e37_ : z36_ = M32_.1 (26, b, 0) j38_) (hM41_ : M40_ = up M32_ (29, b, 0) 1 z36_) (hM45_ : M44_ = up M40_ (29, b, 0) 2 t) (hM49_ : M48_ = up M44_ (29, b, 0) 3 z1_) : vF b 0 := by have r_v := rngI v; have r_t := rngI t; have r_z1_ := rngI z1_; have r_z2_ := rngI z2_; have r_z5_ := rngI z5_; have r_z10_ := rngI z10_; have r_z36_ := rngI z36_; unfold vF; omega
theorem lf_c_X2_strength_8  (r52_ : Int32) (z59_ : Int32) (z61_ : Int32) (h60_ : (z59_.toInt = 999 ∧ 999 ≤ r52_.toInt) ∨ (z59_.toInt = r52_.toInt ∧ r52_.toInt ≤ 999)) (h62_ : (z61_.toInt = 0 ∧ z59_.toInt ≤ 0) ∨ (z61_.toInt = z59_.toInt ∧ 0 ≤ z59_.toInt)) : 0 ≤ z61_.toInt := by have r_r52_ := rngI r52_; have r_z59_ := rngI z59_; have r_z61_ := rngI z61_; omega
set_option maxHeartbeats 4000000 in
set_option maxRecDepth 100000 in
theorem c_X2_strength (l : Launch) (G : va_G) (cy : Nat → ClassId) (ad : rf → Nat) (d : Nat) (b : Nat) (v : Int32) (u : Int32) (t : Int32) (Mz : mM) (hIz : Inv Mz) (hb : b < 3) : WP CC l G cy ad yX2_strength cX2_strength 8 (some .int) (d + 1) 0 [(0, vR (2, b, 0)), (1, vI v), (2, vI u), (3, vI t)] [] Mz (fun r M' => Inv M' ∧ FR (S_c_X2_strength b) Mz M' ∧ True) := by
  have hFz : FR (S_c_X2_strength b) Mz Mz := FR.self
  refine w_iload_n dX2_strength_0 rfl 2 rfl ?_
  refine w_bipush (v := 100) dX2_strength_1 (by decide) ?_
  refine w_idiv dX2_strength_3 (by decide) (fun z1_ _ => ?_)
  refine w_istore (ls' := [(4, vI z1_), (0, vR (2, b, 0)), (1, vI v), (2, vI u), (3, vI t)]) dX2_strength_4 (by decide) rfl ?_
  refine w_iload_n dX2_strength_6 rfl 3 rfl ?_
  refine w_bipush (v := 100) dX2_strength_7 (by decide) ?_
  refine w_irem dX2_strength_9 (by decide) (fun z2_ _ => ?_)
  refine w_istore (ls' := [(5, vI z2_), (4, vI z1_), (0, vR (2, b, 0)), (1, vI v), (2, vI u), (3, vI t)]) dX2_strength_10 (by decide) rfl ?_
  refine w_iload_n dX2_strength_12 rfl 3 rfl ?_
  refine w_if_lt (tgt := 32) dX2_strength_13 (by decide) (rfl : v.toInt = v.toInt) (fun h3_ => ?_) (fun h3_ => ?_)
  · refine w_iconst (v := 0) dX2_strength_32 (by decide) ?_
    exact w_iret rfl dX2_strength_33 ⟨hIz, hFz, trivial⟩
  · refine w_iload_n dX2_strength_16 rfl 3 rfl ?_
    refine w_iconst (v := 5) dX2_strength_17 (by decide) ?_
    refine w_icmp_ge (tgt := 32) dX2_strength_18 (by decide) (rfl : v.toInt = v.toInt) li_5 (fun h4_ => ?_) (fun h4_ => ?_)
    · refine w_iconst (v := 0) dX2_strength_32 (by decide) ?_
      exact w_iret rfl dX2_strength_33 ⟨hIz, hFz, trivial⟩
    · refine w_aload_n dX2_strength_21 rfl 2 rfl ?_
      refine w_getR (c' := (27, b, 0)) fl_RX2_25 rfl rfl (ic_2 hb) dX2_strength_22 rfl ?_
      refine w_iload_n dX2_strength_25 rfl 3 rfl ?_
      refine w_iald rfl rfl (ic_27 hb) (rfl : v.toInt = v.toInt) (lf_c_X2_strength_0 v h3_ h4_) dX2_strength_26 (fun j7_ h8_ z5_ e6_ => ?_)
      refine w_iload dX2_strength_27 1 rfl ?_
      refine w_icmp_le (tgt := 34) dX2_strength_29 (by decide) (rfl : z5_.toInt = z5_.toInt) (rfl : z1_.toInt = z1_.toInt) (fun h9_ => ?_) (fun h9_ => ?_)
      · refine w_iload dX2_strength_34 0 rfl ?_
        refine w_aload_n dX2_strength_36 rfl 2 rfl ?_
        refine w_getR (c' := (26, b, 0)) fl_RX2_21 rfl rfl (ic_2 hb) dX2_strength_37 rfl ?_
        refine w_iload_n dX2_strength_40 rfl 3 rfl ?_
        refine w_iald rfl rfl (ic_26 hb) (rfl : v.toInt = v.toInt) (lf_c_X2_strength_1 Mz b v z1_ j7_ z5_ hb h3_ h4_ h8_ e6_ h9_) dX2_strength_41 (fun j12_ h13_ z10_ e11_ => ?_)
        refine w_imul dX2_strength_42 (fun z14_ _ => ?_)
        refine w_bipush (v := 50) dX2_strength_43 (by decide) ?_
        refine w_idiv dX2_strength_45 (by decide) (fun z15_ _ => ?_)
        refine w_iconst (v := 2) dX2_strength_46 (by decide) ?_
        refine w_iload_n dX2_strength_47 rfl 5 rfl ?_
        refine w_imul dX2_strength_48 (fun z16_ _ => ?_)
        refine w_isub dX2_strength_49 (fun z17_ _ => ?_)
        refine w_istore (ls' := [(6, vI z17_), (5, vI z2_), (4, vI z1_), (0, vR (2, b, 0)), (1, vI v), (2, vI u), (3, vI t)]) dX2_strength_50 (by decide) rfl ?_
        refine w_aload_n dX2_strength_52 rfl 3 rfl ?_
        refine w_getR (c' := (28, b, 0)) fl_RX2_30 rfl rfl (ic_2 hb) dX2_strength_53 rfl ?_
        refine w_iconst (v := 0) dX2_strength_56 (by decide) ?_
        refine w_aaldL 0 rfl rfl rfl (fun _ => rfl) (ic_28 hb) li_0 (by decide) dX2_strength_57 ?_
        refine w_callV (as := []) (rest := []) (c_X1_isGiven l G cy ad d b 0 Mz hIz (lf_c_X2_strength_2 Mz b v z1_ j7_ z5_ j12_ z10_ hb h3_ h4_ h8_ e6_ h9_ h13_ e11_)) kV_X1_isGiven (by decide +kernel) (Nat.le_of_ble_eq_true rfl) m_877 rfl rfl rfl (ic_1 (lf_c_X2_strength_3 Mz b v z1_ j7_ z5_ j12_ z10_ hb h3_ h4_ h8_ e6_ h9_ h13_ e11_)) rfl rfl (by decide) (Nat.le_of_ble_eq_true rfl) dX2_strength_58 (fun r18_ M19_ q20_ => ?_)
        obtain ⟨rfl, h21_⟩ := q20_
        refine w_if_eq (tgt := 114) dX2_strength_61 (by decide) (rfl : r18_.toInt = r18_.toInt) (fun h22_ => ?_) (fun h22_ => ?_)
        · refine w_iconst (v := 0) dX2_strength_114 (by decide) ?_
          refine w_sipush (v := 999) dX2_strength_115 (by decide) ?_
          refine w_iload dX2_strength_118 0 rfl ?_
          refine w_min m_885 m_770 m_86 m_771 li_999 (rfl : z17_.toInt = z17_.toInt) (Nat.le_of_ble_eq_true rfl) (by omega) dX2_strength_120 (fun z23_ h24_ => ?_)
          refine w_max m_886 m_206 m_86 m_207 li_0 (rfl : z23_.toInt = z23_.toInt) (Nat.le_of_ble_eq_true rfl) (by omega) dX2_strength_123 (fun z25_ h26_ => ?_)
          refine w_istore (ls' := [(7, vI z25_), (6, vI z17_), (5, vI z2_), (4, vI z1_), (0, vR (2, b, 0)), (1, vI v), (2, vI u), (3, vI t)]) dX2_strength_126 (by decide) rfl ?_
          refine w_aload_n dX2_strength_128 rfl 4 rfl ?_
          refine w_getI fl_RX2_16 rfl rfl (ic_2 hb) dX2_strength_129 (fun z27_ e28_ => ?_)
          refine w_iconst (v := 1) dX2_strength_132 (by decide) ?_
          refine w_icmp_ne (tgt := 143) dX2_strength_133 (by decide) (rfl : z27_.toInt = z27_.toInt) li_1 (fun h29_ => ?_) (fun h29_ => ?_)
          · refine w_iload dX2_strength_143 0 rfl ?_
            exact w_iret rfl dX2_strength_145 ⟨hIz, hFz, trivial⟩
          · refine w_iload dX2_strength_136 0 rfl ?_
            refine w_iconst (v := 2) dX2_strength_138 (by decide) ?_
            refine w_idivB dX2_strength_139 (by decide) (rfl : z25_.toInt = z25_.toInt) li_2 (lf_c_X2_strength_4 z17_ z23_ z25_ h24_ h26_) (by decide) (fun z30_ h31_ => ?_)
            refine w_goto (tgt := 145) dX2_strength_140 (by decide) ?_
            exact w_iret rfl dX2_strength_145 ⟨hIz, hFz, trivial⟩
        · refine w_aload_n dX2_strength_64 rfl 3 rfl ?_
          refine w_getR (c' := (29, b, 0)) fl_RX2_34 rfl rfl (ic_2 hb) dX2_strength_65 rfl ?_
          refine w_iconst (v := 0) dX2_strength_68 (by decide) ?_
          refine w_iload dX2_strength_69 1 rfl ?_
          refine w_iastL 0 CC_nd rfl rfl (ic_29 hb) li_0 (by decide) dX2_strength_71 (fun M32_ hM33_ => ?_)
          have hI34_ := hIz.put hM33_ trivial
          have hF35_ := hFz.put hM33_ (Or.inl ⟨rfl, rfl, rfl⟩)
          refine w_aload_n dX2_strength_72 rfl 3 rfl ?_
          refine w_getR (c' := (29, b, 0)) fl_RX2_34 rfl rfl (ic_2 hb) dX2_strength_73 rfl ?_
          refine w_iconst (v := 1) dX2_strength_76 (by decide) ?_
          refine w_aload_n dX2_strength_77 rfl 3 rfl ?_
          refine w_getR (c' := (26, b, 0)) fl_RX2_21 rfl rfl (ic_2 hb) dX2_strength_78 rfl ?_
          refine w_iload_n dX2_strength_81 rfl 4 rfl ?_
          refine w_iald rfl rfl (ic_26 hb) (rfl : v.toInt = v.toInt) (lf_c_X2_strength_5 M32_ Mz b v z1_ z2_ j7_ z5_ j12_ z10_ hb h3_ h4_ h8_ e6_ h9_ h13_ e11_ hM33_) dX2_strength_82 (fun j38_ h39_ z36_ e37_ => ?_)
          refine w_iastL 1 CC_nd rfl rfl (ic_29 hb) li_1 (by decide) dX2_strength_83 (fun M40_ hM41_ => ?_)
          have hI42_ := hI34_.put hM41_ trivial
          have hF43_ := hF35_.put hM41_ (Or.inr (Or.inl ⟨rfl, rfl, rfl⟩))
          refine w_aload_n dX2_strength_84 rfl 3 rfl ?_
          refine w_getR (c' := (29, b, 0)) fl_RX2_34 rfl rfl (ic_2 hb) dX2_strength_85 rfl ?_
          refine w_iconst (v := 2) dX2_strength_88 (by decide) ?_
          refine w_iload_n dX2_strength_89 rfl 6 rfl ?_
          refine w_iastL 2 CC_nd rfl rfl (ic_29 hb) li_2 (by decide) dX2_strength_90 (fun M44_ hM45_ => ?_)
          have hI46_ := hI42_.put hM45_ trivial
          have hF47_ := hF43_.put hM45_ (Or.inr (Or.inr (Or.inl ⟨rfl, rfl, rfl⟩)))
          refine w_aload_n dX2_strength_91 rfl 3 rfl ?_
          refine w_getR (c' := (29, b, 0)) fl_RX2_34 rfl rfl (ic_2 hb) dX2_strength_92 rfl ?_
          refine w_iconst (v := 3) dX2_strength_95 (by decide) ?_
          refine w_iload dX2_strength_96 2 rfl ?_
          refine w_iastL 3 CC_nd rfl rfl (ic_29 hb) li_3 (by decide) dX2_strength_98 (fun M48_ hM49_ => ?_)
          have hI50_ := hI46_.put hM49_ trivial
          have hF51_ := hF47_.put hM49_ (Or.inr (Or.inr (Or.inr (Or.inl ⟨rfl, rfl, rfl⟩))))
          refine w_aload_n dX2_strength_99 rfl 3 rfl ?_
          refine w_getR (c' := (28, b, 0)) fl_RX2_30 rfl rfl (ic_2 hb) dX2_strength_100 rfl ?_
          refine w_iconst (v := 0) dX2_strength_103 (by decide) ?_
          refine w_aaldL 0 rfl rfl rfl (fun _ => rfl) (ic_28 hb) li_0 (by decide) dX2_strength_104 ?_
          refine w_aload_n dX2_strength_105 rfl 3 rfl ?_
          refine w_getR (c' := (29, b, 0)) fl_RX2_34 rfl rfl (ic_2 hb) dX2_strength_106 rfl ?_
          refine w_callV (as := [vR (29, b, 0)]) (rest := []) (c_X1_work l G cy ad d b 0 b M48_ hI50_ (lf_c_X2_strength_6 M32_ M40_ M44_ M48_ Mz b v t z1_ z2_ j7_ z5_ j12_ z10_ j38_ z36_ hb h3_ h4_ h8_ e6_ h9_ h13_ e11_ hM33_ h39_ e37_ hM41_ hM45_ hM49_) hb) kV_X1_work (by decide +kernel) (Nat.le_of_ble_eq_true rfl) m_881 rfl rfl rfl (ic_1 (lf_c_X2_strength_7 M32_ M40_ M44_ M48_ Mz b v t z1_ z2_ j7_ z5_ j12_ z10_ j38_ z36_ hb h3_ h4_ h8_ e6_ h9_ h13_ e11_ hM33_ h39_ e37_ hM41_ hM45_ hM49_)) rfl rfl (by decide) (Nat.le_of_ble_eq_true rfl) dX2_strength_109 (fun r52_ M53_ q54_ => ?_)
          obtain ⟨hI56_, hF57_, h55_⟩ := q54_
          have hF58_ := hF51_.tr hF57_ (fun c k => (fun h => h.elim (fun h => (Or.inr (Or.inr (Or.inr (Or.inr (Or.inl ⟨h.1, h.2.1, h.2.2⟩)))))) (fun h => h.elim)))
          refine w_istore (ls' := [(6, vI r52_), (5, vI z2_), (4, vI z1_), (0, vR (2, b, 0)), (1, vI v), (2, vI u), (3, vI t)]) dX2_strength_112 (by decide) rfl ?_
          refine w_iconst (v := 0) dX2_strength_114 (by decide) ?_
          refine w_sipush (v := 999) dX2_strength_115 (by decide) ?_
          refine w_iload dX2_strength_118 0 rfl ?_
          refine w_min m_885 m_770 m_86 m_771 li_999 (rfl : r52_.toInt = r52_.toInt) (Nat.le_of_ble_eq_true rfl) (by omega) dX2_strength_120 (fun z59_ h60_ => ?_)
          refine w_max m_886 m_206 m_86 m_207 li_0 (rfl : z59_.toInt = z59_.toInt) (Nat.le_of_ble_eq_true rfl) (by omega) dX2_strength_123 (fun z61_ h62_ => ?_)
          refine w_istore (ls' := [(7, vI z61_), (6, vI r52_), (5, vI z2_), (4, vI z1_), (0, vR (2, b, 0)), (1, vI v), (2, vI u), (3, vI t)]) dX2_strength_126 (by decide) rfl ?_
          refine w_aload_n dX2_strength_128 rfl 4 rfl ?_
          refine w_getI fl_RX2_16 rfl rfl (ic_2 hb) dX2_strength_129 (fun z63_ e64_ => ?_)
          refine w_iconst (v := 1) dX2_strength_132 (by decide) ?_
          refine w_icmp_ne (tgt := 143) dX2_strength_133 (by decide) (rfl : z63_.toInt = z63_.toInt) li_1 (fun h65_ => ?_) (fun h65_ => ?_)
          · refine w_iload dX2_strength_143 0 rfl ?_
            exact w_iret rfl dX2_strength_145 ⟨hI56_, hF58_, trivial⟩
          · refine w_iload dX2_strength_136 0 rfl ?_
            refine w_iconst (v := 2) dX2_strength_138 (by decide) ?_
            refine w_idivB dX2_strength_139 (by decide) (rfl : z61_.toInt = z61_.toInt) li_2 (lf_c_X2_strength_8 r52_ z59_ z61_ h60_ h62_) (by decide) (fun z66_ h67_ => ?_)
            refine w_goto (tgt := 145) dX2_strength_140 (by decide) ?_
            exact w_iret rfl dX2_strength_145 ⟨hI56_, hF58_, trivial⟩
      · refine w_iconst (v := 0) dX2_strength_32 (by decide) ?_
        exact w_iret rfl dX2_strength_33 ⟨hIz, hFz, trivial⟩
def S_c_X2_isHeard (b : Nat) : rf → Nat → Prop := fun c k => (c.1 = 29 ∧ c.2.1 = b ∧ k = 0) ∨ (c.1 = 29 ∧ c.2.1 = b ∧ k = 1) ∨ (c.1 = 29 ∧ c.2.1 = b ∧ k = 2) ∨ (c.1 = 25 ∧ c.2.1 = b ∧ c.2.2 = 1) ∨ False
theorem lf_c_X2_isHeard_0 (Mz : mM) (b : Nat) (t : Int32) (z3_ : Int32) (hb : b < 3) (e4_ : z3_ = Mz.1 (2, b, 0) 1) (h5_ : z3_.toInt < t.toInt) : vF b 1 := by have r_t := rngI t; have r_z3_ := rngI z3_; unfold vF; omega
theorem lf_c_X2_isHeard_1 (Mz : mM) (b : Nat) (t : Int32) (z3_ : Int32) (hb : b < 3) (e4_ : z3_ = Mz.1 (2, b, 0) 1) (h5_ : z3_.toInt < t.toInt) : vF b 1 := by have r_t := rngI t; have r_z3_ := rngI z3_; unfold vF; omega
theorem lf_c_X2_isHeard_2 (M12_ : mM) (M18_ : mM) (M22_ : mM) (Mz : mM) (b : Nat) (t : Int32) (s : Int32) (z3_ : Int32) (z16_ : Int32) (hb : b < 3) (e4_ : z3_ = Mz.1 (2, b, 0) 1) (h5_ : z3_.toInt < t.toInt) (h6_ : ¬ s.toInt = 0) (hM13_ : M12_ = up Mz (29, b, 0) 0 s) (e17_ : z16_ = M12_.1 (2, b, 0) 0) (hM19_ : M18_ = up M12_ (29, b, 0) 1 z16_) (hM23_ : M22_ = up M18_ (29, b, 0) 2 t) : vF b 1 := by have r_t := rngI t; have r_s := rngI s; have r_z3_ := rngI z3_; have r_z16_ := rngI z16_; unfold vF; omega
theorem lf_c_X2_isHeard_3 (M12_ : mM) (M18_ : mM) (M22_ : mM) (Mz : mM) (b : Nat) (t : Int32) (s : Int32) (z3_ : Int32) (z16_ : Int32) (hb : b < 3) (e4_ : z3_ = Mz.1 (2, b, 0) 1) (h5_ : z3_.toInt < t.toInt) (h6_ : ¬ s.toInt = 0) (hM13_ : M12_ = up Mz (29, b, 0) 0 s) (e17_ : z16_ = M12_.1 (2, b, 0) 0) (hM19_ : M18_ = up M12_ (29, b, 0) 1 z16_) (hM23_ : M22_ = up M18_ (29, b, 0) 2 t) : vF b 1 := by have r_t := rngI t; have r_s := rngI s; have r_z3_ := rngI z3_; have r_z16_ := rngI z16_; unfold vF; omega
set_option maxHeartbeats 4000000 in
set_option maxRecDepth 100000 in
theorem c_X2_isHeard (l : Launch) (G : va_G) (cy : Nat → ClassId) (ad : rf → Nat) (d : Nat) (b : Nat) (v : Int32) (u : Int32) (t : Int32) (s : Int32) (Mz : mM) (hIz : Inv Mz) (hb : b < 3) : WP CC l G cy ad yX2_isHeard cX2_isHeard 5 (some .boolean) (d + 1) 0 [(0, vR (2, b, 0)), (1, vI v), (2, vI u), (3, vI t), (4, vI s)] [] Mz (fun r M' => Inv M' ∧ FR (S_c_X2_isHeard b) Mz M' ∧ (0 ≤ r.toInt ∧ r.toInt ≤ 1)) := by
  have hFz : FR (S_c_X2_isHeard b) Mz Mz := FR.self
  refine w_iload_n dX2_isHeard_0 rfl 2 rfl ?_
  refine w_bipush (v := 100) dX2_isHeard_1 (by decide) ?_
  refine w_idiv dX2_isHeard_3 (by decide) (fun z1_ _ => ?_)
  refine w_iload_n dX2_isHeard_4 rfl 1 rfl ?_
  refine w_icmp_gt (tgt := 21) dX2_isHeard_5 (by decide) (rfl : z1_.toInt = z1_.toInt) (rfl : v.toInt = v.toInt) (fun h2_ => ?_) (fun h2_ => ?_)
  · refine w_iconst (v := 0) dX2_isHeard_21 (by decide) ?_
    exact w_zret rfl dX2_isHeard_22 ⟨by decide, by decide⟩ ⟨hIz, hFz, ⟨by decide, by decide⟩⟩
  · refine w_iload_n dX2_isHeard_8 rfl 3 rfl ?_
    refine w_aload_n dX2_isHeard_9 rfl 0 rfl ?_
    refine w_getI fl_RX2_13 rfl rfl (ic_2 hb) dX2_isHeard_10 (fun z3_ e4_ => ?_)
    refine w_icmp_le (tgt := 21) dX2_isHeard_13 (by decide) (rfl : t.toInt = t.toInt) (rfl : z3_.toInt = z3_.toInt) (fun h5_ => ?_) (fun h5_ => ?_)
    · refine w_iconst (v := 0) dX2_isHeard_21 (by decide) ?_
      exact w_zret rfl dX2_isHeard_22 ⟨by decide, by decide⟩ ⟨hIz, hFz, ⟨by decide, by decide⟩⟩
    · refine w_iload dX2_isHeard_16 4 rfl ?_
      refine w_if_ne (tgt := 23) dX2_isHeard_18 (by decide) (rfl : s.toInt = s.toInt) (fun h6_ => ?_) (fun h6_ => ?_)
      · refine w_aload_n dX2_isHeard_23 rfl 0 rfl ?_
        refine w_getR (c' := (28, b, 0)) fl_RX2_30 rfl rfl (ic_2 hb) dX2_isHeard_24 rfl ?_
        refine w_iconst (v := 1) dX2_isHeard_27 (by decide) ?_
        refine w_aaldL 1 rfl rfl rfl (fun _ => rfl) (ic_28 hb) li_1 (by decide) dX2_isHeard_28 ?_
        refine w_callV (as := []) (rest := []) (c_X1_isGiven l G cy ad d b 1 Mz hIz (lf_c_X2_isHeard_0 Mz b t z3_ hb e4_ h5_)) kV_X1_isGiven (by decide +kernel) (Nat.le_of_ble_eq_true rfl) m_877 rfl rfl rfl (ic_1 (lf_c_X2_isHeard_1 Mz b t z3_ hb e4_ h5_)) rfl rfl (by decide) (Nat.le_of_ble_eq_true rfl) dX2_isHeard_29 (fun r7_ M8_ q9_ => ?_)
        obtain ⟨rfl, h10_⟩ := q9_
        refine w_if_ne (tgt := 50) dX2_isHeard_32 (by decide) (rfl : r7_.toInt = r7_.toInt) (fun h11_ => ?_) (fun h11_ => ?_)
        · refine w_aload_n dX2_isHeard_50 rfl 0 rfl ?_
          refine w_getR (c' := (29, b, 0)) fl_RX2_34 rfl rfl (ic_2 hb) dX2_isHeard_51 rfl ?_
          refine w_iconst (v := 0) dX2_isHeard_54 (by decide) ?_
          refine w_iload dX2_isHeard_55 4 rfl ?_
          refine w_iastL 0 CC_nd rfl rfl (ic_29 hb) li_0 (by decide) dX2_isHeard_57 (fun M12_ hM13_ => ?_)
          have hI14_ := hIz.put hM13_ trivial
          have hF15_ := hFz.put hM13_ (Or.inl ⟨rfl, rfl, rfl⟩)
          refine w_aload_n dX2_isHeard_58 rfl 0 rfl ?_
          refine w_getR (c' := (29, b, 0)) fl_RX2_34 rfl rfl (ic_2 hb) dX2_isHeard_59 rfl ?_
          refine w_iconst (v := 1) dX2_isHeard_62 (by decide) ?_
          refine w_aload_n dX2_isHeard_63 rfl 0 rfl ?_
          refine w_getI fl_RX2_7 rfl rfl (ic_2 hb) dX2_isHeard_64 (fun z16_ e17_ => ?_)
          refine w_iastL 1 CC_nd rfl rfl (ic_29 hb) li_1 (by decide) dX2_isHeard_67 (fun M18_ hM19_ => ?_)
          have hI20_ := hI14_.put hM19_ trivial
          have hF21_ := hF15_.put hM19_ (Or.inr (Or.inl ⟨rfl, rfl, rfl⟩))
          refine w_aload_n dX2_isHeard_68 rfl 0 rfl ?_
          refine w_getR (c' := (29, b, 0)) fl_RX2_34 rfl rfl (ic_2 hb) dX2_isHeard_69 rfl ?_
          refine w_iconst (v := 2) dX2_isHeard_72 (by decide) ?_
          refine w_iload_n dX2_isHeard_73 rfl 3 rfl ?_
          refine w_iastL 2 CC_nd rfl rfl (ic_29 hb) li_2 (by decide) dX2_isHeard_74 (fun M22_ hM23_ => ?_)
          have hI24_ := hI20_.put hM23_ trivial
          have hF25_ := hF21_.put hM23_ (Or.inr (Or.inr (Or.inl ⟨rfl, rfl, rfl⟩)))
          refine w_aload_n dX2_isHeard_75 rfl 0 rfl ?_
          refine w_getR (c' := (28, b, 0)) fl_RX2_30 rfl rfl (ic_2 hb) dX2_isHeard_76 rfl ?_
          refine w_iconst (v := 1) dX2_isHeard_79 (by decide) ?_
          refine w_aaldL 1 rfl rfl rfl (fun _ => rfl) (ic_28 hb) li_1 (by decide) dX2_isHeard_80 ?_
          refine w_aload_n dX2_isHeard_81 rfl 0 rfl ?_
          refine w_getR (c' := (29, b, 0)) fl_RX2_34 rfl rfl (ic_2 hb) dX2_isHeard_82 rfl ?_
          refine w_callV (as := [vR (29, b, 0)]) (rest := []) (c_X1_work l G cy ad d b 1 b M22_ hI24_ (lf_c_X2_isHeard_2 M12_ M18_ M22_ Mz b t s z3_ z16_ hb e4_ h5_ h6_ hM13_ e17_ hM19_ hM23_) hb) kV_X1_work (by decide +kernel) (Nat.le_of_ble_eq_true rfl) m_881 rfl rfl rfl (ic_1 (lf_c_X2_isHeard_3 M12_ M18_ M22_ Mz b t s z3_ z16_ hb e4_ h5_ h6_ hM13_ e17_ hM19_ hM23_)) rfl rfl (by decide) (Nat.le_of_ble_eq_true rfl) dX2_isHeard_85 (fun r26_ M27_ q28_ => ?_)
          obtain ⟨hI30_, hF31_, h29_⟩ := q28_
          have hF32_ := hF25_.tr hF31_ (fun c k => (fun h => h.elim (fun h => (Or.inr (Or.inr (Or.inr (Or.inl ⟨h.1, h.2.1, h.2.2⟩))))) (fun h => h.elim)))
          refine w_if_eq (tgt := 95) dX2_isHeard_88 (by decide) (rfl : r26_.toInt = r26_.toInt) (fun h33_ => ?_) (fun h33_ => ?_)
          · refine w_iconst (v := 0) dX2_isHeard_95 (by decide) ?_
            exact w_zret rfl dX2_isHeard_96 ⟨by decide, by decide⟩ ⟨hI30_, hF32_, ⟨by decide, by decide⟩⟩
          · refine w_iconst (v := 1) dX2_isHeard_91 (by decide) ?_
            refine w_goto (tgt := 96) dX2_isHeard_92 (by decide) ?_
            exact w_zret rfl dX2_isHeard_96 ⟨by decide, by decide⟩ ⟨hI30_, hF32_, ⟨by decide, by decide⟩⟩
        · refine w_iload dX2_isHeard_35 4 rfl ?_
          refine w_aload_n dX2_isHeard_37 rfl 0 rfl ?_
          refine w_getI fl_RX2_7 rfl rfl (ic_2 hb) dX2_isHeard_38 (fun z34_ e35_ => ?_)
          refine w_icmp_le (tgt := 48) dX2_isHeard_41 (by decide) (rfl : s.toInt = s.toInt) (rfl : z34_.toInt = z34_.toInt) (fun h36_ => ?_) (fun h36_ => ?_)
          · refine w_iconst (v := 0) dX2_isHeard_48 (by decide) ?_
            exact w_zret rfl dX2_isHeard_49 ⟨by decide, by decide⟩ ⟨hIz, hFz, ⟨by decide, by decide⟩⟩
          · refine w_iconst (v := 1) dX2_isHeard_44 (by decide) ?_
            refine w_goto (tgt := 49) dX2_isHeard_45 (by decide) ?_
            exact w_zret rfl dX2_isHeard_49 ⟨by decide, by decide⟩ ⟨hIz, hFz, ⟨by decide, by decide⟩⟩
      · refine w_iconst (v := 0) dX2_isHeard_21 (by decide) ?_
        exact w_zret rfl dX2_isHeard_22 ⟨by decide, by decide⟩ ⟨hIz, hFz, ⟨by decide, by decide⟩⟩
def S_c_X2_hears (b : Nat) : rf → Nat → Prop := fun c k => (c.1 = 29 ∧ c.2.1 = b ∧ k = 0) ∨ (c.1 = 29 ∧ c.2.1 = b ∧ k = 1) ∨ (c.1 = 29 ∧ c.2.1 = b ∧ k = 2) ∨ (c.1 = 29 ∧ c.2.1 = b ∧ k = 3) ∨ (c.1 = 25 ∧ c.2.1 = b ∧ c.2.2 = 0) ∨ (c.1 = 25 ∧ c.2.1 = b ∧ c.2.2 = 1) ∨ False
theorem lf_c_X2_hears_0  (r12_ : Int32) (h15_ : (0 ≤ r12_.toInt ∧ r12_.toInt ≤ 1)) : 0 ≤ r12_.toInt ∧ r12_.toInt ≤ 1 := by have r_r12_ := rngI r12_; omega
theorem lf_c_X2_hears_1  (r12_ : Int32) (h15_ : (0 ≤ r12_.toInt ∧ r12_.toInt ≤ 1)) : 0 ≤ r12_.toInt ∧ r12_.toInt ≤ 1 := by have r_r12_ := rngI r12_; omega
set_option maxHeartbeats 4000000 in
set_option maxRecDepth 100000 in
theorem c_X2_hears (l : Launch) (G : va_G) (cy : Nat → ClassId) (ad : rf → Nat) (d : Nat) (b : Nat) (v : Int32) (u : Int32) (t : Int32) (s : Int32) (q : Int32) (Mz : mM) (hIz : Inv Mz) (hb : b < 3) : WP CC l G cy ad yX2_hears cX2_hears 6 (some .boolean) (d + 2) 0 [(0, vR (2, b, 0)), (1, vI v), (2, vI u), (3, vI t), (4, vI s), (5, vI q)] [] Mz (fun r M' => Inv M' ∧ FR (S_c_X2_hears b) Mz M' ∧ (0 ≤ r.toInt ∧ r.toInt ≤ 1)) := by
  have hFz : FR (S_c_X2_hears b) Mz Mz := FR.self
  refine w_aload_n dX2_hears_0 rfl 0 rfl ?_
  refine w_iload_n dX2_hears_1 rfl 1 rfl ?_
  refine w_iload_n dX2_hears_2 rfl 3 rfl ?_
  refine w_iload dX2_hears_3 5 rfl ?_
  refine w_iload dX2_hears_5 4 rfl ?_
  refine w_callS (as := [vI q, vI s]) (rest := [vI t, vI v, vR (2, b, 0)]) (c_X2_late l G cy ad (d + 1) q s Mz hIz) kS_X2_late (by decide +kernel) (Nat.le_of_ble_eq_true rfl) m_912 rfl rfl (by decide) (Nat.le_of_ble_eq_true rfl) dX2_hears_7 (fun r1_ M2_ q3_ => ?_)
  obtain ⟨rfl, h4_⟩ := q3_
  refine w_aload_n dX2_hears_10 rfl 0 rfl ?_
  refine w_iload_n dX2_hears_11 rfl 2 rfl ?_
  refine w_iload_n dX2_hears_12 rfl 3 rfl ?_
  refine w_iload dX2_hears_13 4 rfl ?_
  refine w_callV (as := [vI u, vI t, vI s]) (rest := [vI r1_, vI t, vI v, vR (2, b, 0)]) (c_X2_strength l G cy ad d b u t s Mz hIz hb) kV_X2_strength (by decide +kernel) (Nat.le_of_ble_eq_true rfl) m_913 rfl rfl rfl (ic_2 hb) rfl rfl (by decide) (Nat.le_of_ble_eq_true rfl) dX2_hears_15 (fun r5_ M6_ q7_ => ?_)
  obtain ⟨hI9_, hF10_, h8_⟩ := q7_
  have hF11_ := hFz.tr hF10_ (fun c k => (fun h => h.elim (fun h => (Or.inl ⟨h.1, h.2.1, h.2.2⟩)) (fun h => h.elim (fun h => (Or.inr (Or.inl ⟨h.1, h.2.1, h.2.2⟩))) (fun h => h.elim (fun h => (Or.inr (Or.inr (Or.inl ⟨h.1, h.2.1, h.2.2⟩)))) (fun h => h.elim (fun h => (Or.inr (Or.inr (Or.inr (Or.inl ⟨h.1, h.2.1, h.2.2⟩))))) (fun h => h.elim (fun h => (Or.inr (Or.inr (Or.inr (Or.inr (Or.inl ⟨h.1, h.2.1, h.2.2⟩)))))) (fun h => h.elim)))))))
  refine w_callV (as := [vI v, vI t, vI r1_, vI r5_]) (rest := []) (c_X2_isHeard l G cy ad d b v t r1_ r5_ M6_ hI9_ hb) kV_X2_isHeard (by decide +kernel) (Nat.le_of_ble_eq_true rfl) m_914 rfl rfl rfl (ic_2 hb) rfl rfl (by decide) (Nat.le_of_ble_eq_true rfl) dX2_hears_18 (fun r12_ M13_ q14_ => ?_)
  obtain ⟨hI16_, hF17_, h15_⟩ := q14_
  have hF18_ := hF11_.tr hF17_ (fun c k => (fun h => h.elim (fun h => (Or.inl ⟨h.1, h.2.1, h.2.2⟩)) (fun h => h.elim (fun h => (Or.inr (Or.inl ⟨h.1, h.2.1, h.2.2⟩))) (fun h => h.elim (fun h => (Or.inr (Or.inr (Or.inl ⟨h.1, h.2.1, h.2.2⟩)))) (fun h => h.elim (fun h => (Or.inr (Or.inr (Or.inr (Or.inr (Or.inr (Or.inl ⟨h.1, h.2.1, h.2.2⟩))))))) (fun h => h.elim))))))
  exact w_zret rfl dX2_hears_21 (lf_c_X2_hears_1 r12_ h15_) ⟨hI16_, hF18_, (lf_c_X2_hears_0 r12_ h15_)⟩
def S_c_X2_habitValue (b : Nat) : rf → Nat → Prop := fun c k => (c.1 = 29 ∧ c.2.1 = b ∧ k = 0) ∨ (c.1 = 29 ∧ c.2.1 = b ∧ k = 1) ∨ (c.1 = 29 ∧ c.2.1 = b ∧ k = 2) ∨ (c.1 = 29 ∧ c.2.1 = b ∧ k = 3) ∨ (c.1 = 29 ∧ c.2.1 = b ∧ k = 4) ∨ (c.1 = 25 ∧ c.2.1 = b ∧ c.2.2 = 2) ∨ False
theorem lf_c_X2_habitValue_0  (b : Nat) (hb : b < 3) : vF b 2 := by unfold vF; omega
theorem lf_c_X2_habitValue_1  (b : Nat) (hb : b < 3) : vF b 2 := by unfold vF; omega
theorem lf_c_X2_habitValue_2 (M10_ : mM) (M14_ : mM) (M18_ : mM) (M22_ : mM) (M6_ : mM) (Mz : mM) (b : Nat) (v : Int32) (u : Int32) (t : Int32) (s : Int32) (q : Int32) (hb : b < 3) (hM7_ : M6_ = up Mz (29, b, 0) 0 v) (hM11_ : M10_ = up M6_ (29, b, 0) 1 u) (hM15_ : M14_ = up M10_ (29, b, 0) 2 t) (hM19_ : M18_ = up M14_ (29, b, 0) 3 s) (hM23_ : M22_ = up M18_ (29, b, 0) 4 q) : vF b 2 := by have r_v := rngI v; have r_u := rngI u; have r_t := rngI t; have r_s := rngI s; have r_q := rngI q; unfold vF; omega
theorem lf_c_X2_habitValue_3 (M10_ : mM) (M14_ : mM) (M18_ : mM) (M22_ : mM) (M6_ : mM) (Mz : mM) (b : Nat) (v : Int32) (u : Int32) (t : Int32) (s : Int32) (q : Int32) (hb : b < 3) (hM7_ : M6_ = up Mz (29, b, 0) 0 v) (hM11_ : M10_ = up M6_ (29, b, 0) 1 u) (hM15_ : M14_ = up M10_ (29, b, 0) 2 t) (hM19_ : M18_ = up M14_ (29, b, 0) 3 s) (hM23_ : M22_ = up M18_ (29, b, 0) 4 q) : vF b 2 := by have r_v := rngI v; have r_u := rngI u; have r_t := rngI t; have r_s := rngI s; have r_q := rngI q; unfold vF; omega
set_option maxHeartbeats 4000000 in
set_option maxRecDepth 100000 in
theorem c_X2_habitValue (l : Launch) (G : va_G) (cy : Nat → ClassId) (ad : rf → Nat) (d : Nat) (b : Nat) (v : Int32) (u : Int32) (t : Int32) (s : Int32) (q : Int32) (Mz : mM) (hIz : Inv Mz) (hb : b < 3) : WP CC l G cy ad yX2_habitValue cX2_habitValue 6 (some .int) (d + 1) 0 [(0, vR (2, b, 0)), (1, vI v), (2, vI u), (3, vI t), (4, vI s), (5, vI q)] [] Mz (fun r M' => Inv M' ∧ FR (S_c_X2_habitValue b) Mz M' ∧ True) := by
  have hFz : FR (S_c_X2_habitValue b) Mz Mz := FR.self
  refine w_aload_n dX2_habitValue_0 rfl 0 rfl ?_
  refine w_getR (c' := (28, b, 0)) fl_RX2_30 rfl rfl (ic_2 hb) dX2_habitValue_1 rfl ?_
  refine w_iconst (v := 2) dX2_habitValue_4 (by decide) ?_
  refine w_aaldL 2 rfl rfl rfl (fun _ => rfl) (ic_28 hb) li_2 (by decide) dX2_habitValue_5 ?_
  refine w_callV (as := []) (rest := []) (c_X1_isGiven l G cy ad d b 2 Mz hIz (lf_c_X2_habitValue_0 b hb)) kV_X1_isGiven (by decide +kernel) (Nat.le_of_ble_eq_true rfl) m_877 rfl rfl rfl (ic_1 (lf_c_X2_habitValue_1 b hb)) rfl rfl (by decide) (Nat.le_of_ble_eq_true rfl) dX2_habitValue_6 (fun r1_ M2_ q3_ => ?_)
  obtain ⟨rfl, h4_⟩ := q3_
  refine w_if_ne (tgt := 23) dX2_habitValue_9 (by decide) (rfl : r1_.toInt = r1_.toInt) (fun h5_ => ?_) (fun h5_ => ?_)
  · refine w_aload_n dX2_habitValue_23 rfl 0 rfl ?_
    refine w_getR (c' := (29, b, 0)) fl_RX2_34 rfl rfl (ic_2 hb) dX2_habitValue_24 rfl ?_
    refine w_iconst (v := 0) dX2_habitValue_27 (by decide) ?_
    refine w_iload_n dX2_habitValue_28 rfl 1 rfl ?_
    refine w_iastL 0 CC_nd rfl rfl (ic_29 hb) li_0 (by decide) dX2_habitValue_29 (fun M6_ hM7_ => ?_)
    have hI8_ := hIz.put hM7_ trivial
    have hF9_ := hFz.put hM7_ (Or.inl ⟨rfl, rfl, rfl⟩)
    refine w_aload_n dX2_habitValue_30 rfl 0 rfl ?_
    refine w_getR (c' := (29, b, 0)) fl_RX2_34 rfl rfl (ic_2 hb) dX2_habitValue_31 rfl ?_
    refine w_iconst (v := 1) dX2_habitValue_34 (by decide) ?_
    refine w_iload_n dX2_habitValue_35 rfl 2 rfl ?_
    refine w_iastL 1 CC_nd rfl rfl (ic_29 hb) li_1 (by decide) dX2_habitValue_36 (fun M10_ hM11_ => ?_)
    have hI12_ := hI8_.put hM11_ trivial
    have hF13_ := hF9_.put hM11_ (Or.inr (Or.inl ⟨rfl, rfl, rfl⟩))
    refine w_aload_n dX2_habitValue_37 rfl 0 rfl ?_
    refine w_getR (c' := (29, b, 0)) fl_RX2_34 rfl rfl (ic_2 hb) dX2_habitValue_38 rfl ?_
    refine w_iconst (v := 2) dX2_habitValue_41 (by decide) ?_
    refine w_iload_n dX2_habitValue_42 rfl 3 rfl ?_
    refine w_iastL 2 CC_nd rfl rfl (ic_29 hb) li_2 (by decide) dX2_habitValue_43 (fun M14_ hM15_ => ?_)
    have hI16_ := hI12_.put hM15_ trivial
    have hF17_ := hF13_.put hM15_ (Or.inr (Or.inr (Or.inl ⟨rfl, rfl, rfl⟩)))
    refine w_aload_n dX2_habitValue_44 rfl 0 rfl ?_
    refine w_getR (c' := (29, b, 0)) fl_RX2_34 rfl rfl (ic_2 hb) dX2_habitValue_45 rfl ?_
    refine w_iconst (v := 3) dX2_habitValue_48 (by decide) ?_
    refine w_iload dX2_habitValue_49 4 rfl ?_
    refine w_iastL 3 CC_nd rfl rfl (ic_29 hb) li_3 (by decide) dX2_habitValue_51 (fun M18_ hM19_ => ?_)
    have hI20_ := hI16_.put hM19_ trivial
    have hF21_ := hF17_.put hM19_ (Or.inr (Or.inr (Or.inr (Or.inl ⟨rfl, rfl, rfl⟩))))
    refine w_aload_n dX2_habitValue_52 rfl 0 rfl ?_
    refine w_getR (c' := (29, b, 0)) fl_RX2_34 rfl rfl (ic_2 hb) dX2_habitValue_53 rfl ?_
    refine w_iconst (v := 4) dX2_habitValue_56 (by decide) ?_
    refine w_iload dX2_habitValue_57 5 rfl ?_
    refine w_iastL 4 CC_nd rfl rfl (ic_29 hb) li_4 (by decide) dX2_habitValue_59 (fun M22_ hM23_ => ?_)
    have hI24_ := hI20_.put hM23_ trivial
    have hF25_ := hF21_.put hM23_ (Or.inr (Or.inr (Or.inr (Or.inr (Or.inl ⟨rfl, rfl, rfl⟩)))))
    refine w_aload_n dX2_habitValue_60 rfl 0 rfl ?_
    refine w_getR (c' := (28, b, 0)) fl_RX2_30 rfl rfl (ic_2 hb) dX2_habitValue_61 rfl ?_
    refine w_iconst (v := 2) dX2_habitValue_64 (by decide) ?_
    refine w_aaldL 2 rfl rfl rfl (fun _ => rfl) (ic_28 hb) li_2 (by decide) dX2_habitValue_65 ?_
    refine w_aload_n dX2_habitValue_66 rfl 0 rfl ?_
    refine w_getR (c' := (29, b, 0)) fl_RX2_34 rfl rfl (ic_2 hb) dX2_habitValue_67 rfl ?_
    refine w_callV (as := [vR (29, b, 0)]) (rest := []) (c_X1_work l G cy ad d b 2 b M22_ hI24_ (lf_c_X2_habitValue_2 M10_ M14_ M18_ M22_ M6_ Mz b v u t s q hb hM7_ hM11_ hM15_ hM19_ hM23_) hb) kV_X1_work (by decide +kernel) (Nat.le_of_ble_eq_true rfl) m_881 rfl rfl rfl (ic_1 (lf_c_X2_habitValue_3 M10_ M14_ M18_ M22_ M6_ Mz b v u t s q hb hM7_ hM11_ hM15_ hM19_ hM23_)) rfl rfl (by decide) (Nat.le_of_ble_eq_true rfl) dX2_habitValue_70 (fun r26_ M27_ q28_ => ?_)
    obtain ⟨hI30_, hF31_, h29_⟩ := q28_
    have hF32_ := hF25_.tr hF31_ (fun c k => (fun h => h.elim (fun h => (Or.inr (Or.inr (Or.inr (Or.inr (Or.inr (Or.inl ⟨h.1, h.2.1, h.2.2⟩))))))) (fun h => h.elim)))
    exact w_iret rfl dX2_habitValue_73 ⟨hI30_, hF32_, trivial⟩
  · refine w_iload_n dX2_habitValue_12 rfl 1 rfl ?_
    refine w_iconst (v := 1) dX2_habitValue_13 (by decide) ?_
    refine w_icmp_ne (tgt := 21) dX2_habitValue_14 (by decide) (rfl : v.toInt = v.toInt) li_1 (fun h33_ => ?_) (fun h33_ => ?_)
    · refine w_iconst (v := 0) dX2_habitValue_21 (by decide) ?_
      exact w_iret rfl dX2_habitValue_22 ⟨hIz, hFz, trivial⟩
    · refine w_iconst (v := 1) dX2_habitValue_17 (by decide) ?_
      refine w_goto (tgt := 22) dX2_habitValue_18 (by decide) ?_
      exact w_iret rfl dX2_habitValue_22 ⟨hIz, hFz, trivial⟩
def S_c_X2_kindsAlike (b : Nat) : rf → Nat → Prop := fun c k => (c.1 = 29 ∧ c.2.1 = b ∧ k = 0) ∨ (c.1 = 29 ∧ c.2.1 = b ∧ k = 1) ∨ (c.1 = 29 ∧ c.2.1 = b ∧ k = 2) ∨ (c.1 = 29 ∧ c.2.1 = b ∧ k = 3) ∨ (c.1 = 25 ∧ c.2.1 = b ∧ c.2.2 = 0) ∨ (c.1 = 25 ∧ c.2.1 = b ∧ c.2.2 = 1) ∨ False
theorem lf_c_X2_kindsAlike_0  (v7_6 : Int32) (hv0_6 : 0 ≤ v7_6.toInt) (hv1_6 : v7_6.toInt ≤ 5) (h2_ : v7_6.toInt < 5) : -2147483648 ≤ v7_6.toInt + 1 ∧ v7_6.toInt + 1 < 2147483648 := by have r_v7_6 := rngI v7_6; omega
theorem lf_c_X2_kindsAlike_1  (v7_6 : Int32) (z11_ : Int32) (hv0_6 : 0 ≤ v7_6.toInt) (hv1_6 : v7_6.toInt ≤ 5) (h2_ : v7_6.toInt < 5) (h12_ : z11_.toInt = v7_6.toInt + 1) : 0 ≤ z11_.toInt := by have r_v7_6 := rngI v7_6; have r_z11_ := rngI z11_; omega
theorem lf_c_X2_kindsAlike_2  (v7_6 : Int32) (z11_ : Int32) (hv0_6 : 0 ≤ v7_6.toInt) (hv1_6 : v7_6.toInt ≤ 5) (h2_ : v7_6.toInt < 5) (h12_ : z11_.toInt = v7_6.toInt + 1) : z11_.toInt ≤ 5 := by have r_v7_6 := rngI v7_6; have r_z11_ := rngI z11_; omega
theorem lf_c_X2_kindsAlike_3  (v7_6 : Int32) (z11_ : Int32) (hv0_6 : 0 ≤ v7_6.toInt) (hv1_6 : v7_6.toInt ≤ 5) (h2_ : v7_6.toInt < 5) (h12_ : z11_.toInt = v7_6.toInt + 1) : (2147483648 - z11_.toInt).toNat < (2147483648 - v7_6.toInt).toNat := by have r_v7_6 := rngI v7_6; have r_z11_ := rngI z11_; omega
theorem lf_c_X2_kindsAlike_4  (v7_6 : Int32) (hv0_6 : 0 ≤ v7_6.toInt) (hv1_6 : v7_6.toInt ≤ 5) (h2_ : v7_6.toInt < 5) : -2147483648 ≤ v7_6.toInt + 1 ∧ v7_6.toInt + 1 < 2147483648 := by have r_v7_6 := rngI v7_6; omega
theorem lf_c_X2_kindsAlike_5  (v7_6 : Int32) (z21_ : Int32) (hv0_6 : 0 ≤ v7_6.toInt) (hv1_6 : v7_6.toInt ≤ 5) (h2_ : v7_6.toInt < 5) (h22_ : z21_.toInt = v7_6.toInt + 1) : 0 ≤ z21_.toInt := by have r_v7_6 := rngI v7_6; have r_z21_ := rngI z21_; omega
theorem lf_c_X2_kindsAlike_6  (v7_6 : Int32) (z21_ : Int32) (hv0_6 : 0 ≤ v7_6.toInt) (hv1_6 : v7_6.toInt ≤ 5) (h2_ : v7_6.toInt < 5) (h22_ : z21_.toInt = v7_6.toInt + 1) : z21_.toInt ≤ 5 := by have r_v7_6 := rngI v7_6; have r_z21_ := rngI z21_; omega
theorem lf_c_X2_kindsAlike_7  (v7_6 : Int32) (z21_ : Int32) (hv0_6 : 0 ≤ v7_6.toInt) (hv1_6 : v7_6.toInt ≤ 5) (h2_ : v7_6.toInt < 5) (h22_ : z21_.toInt = v7_6.toInt + 1) : (2147483648 - z21_.toInt).toNat < (2147483648 - v7_6.toInt).toNat := by have r_v7_6 := rngI v7_6; have r_z21_ := rngI z21_; omega
theorem lf_c_X2_kindsAlike_8  (v7_6 : Int32) (hv0_6 : 0 ≤ v7_6.toInt) (hv1_6 : v7_6.toInt ≤ 5) (h2_ : v7_6.toInt < 5) : -2147483648 ≤ v7_6.toInt + 1 ∧ v7_6.toInt + 1 < 2147483648 := by have r_v7_6 := rngI v7_6; omega
theorem lf_c_X2_kindsAlike_9  (v7_6 : Int32) (z25_ : Int32) (hv0_6 : 0 ≤ v7_6.toInt) (hv1_6 : v7_6.toInt ≤ 5) (h2_ : v7_6.toInt < 5) (h26_ : z25_.toInt = v7_6.toInt + 1) : 0 ≤ z25_.toInt := by have r_v7_6 := rngI v7_6; have r_z25_ := rngI z25_; omega
theorem lf_c_X2_kindsAlike_10  (v7_6 : Int32) (z25_ : Int32) (hv0_6 : 0 ≤ v7_6.toInt) (hv1_6 : v7_6.toInt ≤ 5) (h2_ : v7_6.toInt < 5) (h26_ : z25_.toInt = v7_6.toInt + 1) : z25_.toInt ≤ 5 := by have r_v7_6 := rngI v7_6; have r_z25_ := rngI z25_; omega
theorem lf_c_X2_kindsAlike_11  (v7_6 : Int32) (z25_ : Int32) (hv0_6 : 0 ≤ v7_6.toInt) (hv1_6 : v7_6.toInt ≤ 5) (h2_ : v7_6.toInt < 5) (h26_ : z25_.toInt = v7_6.toInt + 1) : (2147483648 - z25_.toInt).toNat < (2147483648 - v7_6.toInt).toNat := by have r_v7_6 := rngI v7_6; have r_z25_ := rngI z25_; omega
theorem lf_c_X2_kindsAlike_12    : 0 ≤ (0 : Int32).toInt := by have q0 := li_0; omega
theorem lf_c_X2_kindsAlike_13    : (0 : Int32).toInt ≤ 5 := by have q0 := li_0; omega
set_option maxHeartbeats 4000000 in
set_option maxRecDepth 100000 in
theorem c_X2_kindsAlike (l : Launch) (G : va_G) (cy : Nat → ClassId) (ad : rf → Nat) (d : Nat) (b : Nat) (v : Int32) (u : Int32) (t : Int32) (s : Int32) (q : Int32) (Mz : mM) (hIz : Inv Mz) (hb : b < 3) : WP CC l G cy ad yX2_kindsAlike cX2_kindsAlike 8 (some .int) (d + 3) 0 [(0, vR (2, b, 0)), (1, vI v), (2, vI u), (3, vI t), (4, vI s), (5, vI q)] [] Mz (fun r M' => Inv M' ∧ FR (S_c_X2_kindsAlike b) Mz M' ∧ True) := by
  have hFz : FR (S_c_X2_kindsAlike b) Mz Mz := FR.self
  refine w_iconst (v := 0) dX2_kindsAlike_0 (by decide) ?_
  refine w_istore (ls' := [(6, vI 0), (0, vR (2, b, 0)), (1, vI v), (2, vI u), (3, vI t), (4, vI s), (5, vI q)]) dX2_kindsAlike_1 (by decide) rfl ?_
  refine w_iconst (v := 0) dX2_kindsAlike_3 (by decide) ?_
  refine w_istore (ls' := [(7, vI 0), (6, vI 0), (0, vR (2, b, 0)), (1, vI v), (2, vI u), (3, vI t), (4, vI s), (5, vI q)]) dX2_kindsAlike_4 (by decide) rfl ?_
  have lp1_ : ∀ (nn_6 : Nat) (M_6 : mM) (hI_6 : Inv M_6) (hF_6 : FR (S_c_X2_kindsAlike b) Mz M_6) (v7_6 : Int32) (v6_6 : Int32) (hv0_6 : 0 ≤ v7_6.toInt) (hv1_6 : v7_6.toInt ≤ 5), (2147483648 - v7_6.toInt).toNat < nn_6 → WP CC l G cy ad yX2_kindsAlike cX2_kindsAlike 8 (some .int) (d + 3) 6 [(7, vI v7_6), (6, vI v6_6), (0, vR (2, b, 0)), (1, vI v), (2, vI u), (3, vI t), (4, vI s), (5, vI q)] [] M_6 (fun r M' => Inv M' ∧ FR (S_c_X2_kindsAlike b) Mz M' ∧ True) := by
    intro nn_6
    induction nn_6 with
    | zero => intro M_6 hI_6 hF_6 v7_6 v6_6 hv0_6 hv1_6 hm_6; exact absurd hm_6 (Nat.not_lt_zero _)
    | succ nn_6 ih_6 =>
      intro M_6 hI_6 hF_6 v7_6 v6_6 hv0_6 hv1_6 hm_6
      refine w_iload dX2_kindsAlike_6 0 rfl ?_
      refine w_iconst (v := 5) dX2_kindsAlike_8 (by decide) ?_
      refine w_icmp_ge (tgt := 54) dX2_kindsAlike_9 (by decide) (rfl : v7_6.toInt = v7_6.toInt) li_5 (fun h2_ => ?_) (fun h2_ => ?_)
      · refine w_iload dX2_kindsAlike_54 1 rfl ?_
        exact w_iret rfl dX2_kindsAlike_56 ⟨hI_6, hF_6, trivial⟩
      · refine w_aload_n dX2_kindsAlike_12 rfl 2 rfl ?_
        refine w_iload dX2_kindsAlike_13 0 rfl ?_
        refine w_iload_n dX2_kindsAlike_15 rfl 4 rfl ?_
        refine w_iload_n dX2_kindsAlike_16 rfl 5 rfl ?_
        refine w_callV (as := [vI v7_6, vI u, vI t]) (rest := []) (c_X2_strength l G cy ad (d + 1) b v7_6 u t M_6 hI_6 hb) kV_X2_strength (by decide +kernel) (Nat.le_of_ble_eq_true rfl) m_913 rfl rfl rfl (ic_2 hb) rfl rfl (by decide) (Nat.le_of_ble_eq_true rfl) dX2_kindsAlike_17 (fun r3_ M4_ q5_ => ?_)
        obtain ⟨hI7_, hF8_, h6_⟩ := q5_
        have hF9_ := hF_6.tr hF8_ (fun c k => (fun h => h.elim (fun h => (Or.inl ⟨h.1, h.2.1, h.2.2⟩)) (fun h => h.elim (fun h => (Or.inr (Or.inl ⟨h.1, h.2.1, h.2.2⟩))) (fun h => h.elim (fun h => (Or.inr (Or.inr (Or.inl ⟨h.1, h.2.1, h.2.2⟩)))) (fun h => h.elim (fun h => (Or.inr (Or.inr (Or.inr (Or.inl ⟨h.1, h.2.1, h.2.2⟩))))) (fun h => h.elim (fun h => (Or.inr (Or.inr (Or.inr (Or.inr (Or.inl ⟨h.1, h.2.1, h.2.2⟩)))))) (fun h => h.elim)))))))
        refine w_iload dX2_kindsAlike_20 7 rfl ?_
        refine w_icmp_ne (tgt := 48) dX2_kindsAlike_22 (by decide) (rfl : r3_.toInt = r3_.toInt) (rfl : q.toInt = q.toInt) (fun h10_ => ?_) (fun h10_ => ?_)
        · refine w_iincB (j := 0) (f := fun z11_ => [(7, vI z11_), (6, vI v6_6), (0, vR (2, b, 0)), (1, vI v), (2, vI u), (3, vI t), (4, vI s), (5, vI q)]) dX2_kindsAlike_48 rfl (by decide) (fun _ => rfl) (rfl : v7_6.toInt = v7_6.toInt) li_1 (lf_c_X2_kindsAlike_0 v7_6 hv0_6 hv1_6 h2_) (fun z11_ h12_ => ?_)
          refine w_goto (tgt := 6) dX2_kindsAlike_51 (by decide) ?_
          refine w_loc (ls' := [(7, vI z11_), (6, vI v6_6), (0, vR (2, b, 0)), (1, vI v), (2, vI u), (3, vI t), (4, vI s), (5, vI q)]) [0, 1, 2, 3, 4, 5, 6, 7] rfl ?_
          exact ih_6 M4_ hI7_ hF9_ z11_ v6_6 (lf_c_X2_kindsAlike_1 v7_6 z11_ hv0_6 hv1_6 h2_ h12_) (lf_c_X2_kindsAlike_2 v7_6 z11_ hv0_6 hv1_6 h2_ h12_) (Nat.lt_of_lt_of_le (lf_c_X2_kindsAlike_3 v7_6 z11_ hv0_6 hv1_6 h2_ h12_) (Nat.le_of_lt_succ hm_6))
        · refine w_aload_n dX2_kindsAlike_25 rfl 2 rfl ?_
          refine w_iload_n dX2_kindsAlike_26 rfl 3 rfl ?_
          refine w_iload dX2_kindsAlike_27 0 rfl ?_
          refine w_iload_n dX2_kindsAlike_29 rfl 4 rfl ?_
          refine w_iload_n dX2_kindsAlike_30 rfl 5 rfl ?_
          refine w_iload dX2_kindsAlike_31 6 rfl ?_
          refine w_callV (as := [vI v, vI v7_6, vI u, vI t, vI s]) (rest := []) (c_X2_hears l G cy ad d b v v7_6 u t s M4_ hI7_ hb) kV_X2_hears (by decide +kernel) (Nat.le_of_ble_eq_true rfl) m_956 rfl rfl rfl (ic_2 hb) rfl rfl (by decide) (Nat.le_of_ble_eq_true rfl) dX2_kindsAlike_33 (fun r13_ M14_ q15_ => ?_)
          obtain ⟨hI17_, hF18_, h16_⟩ := q15_
          have hF19_ := hF9_.tr hF18_ (fun c k => (fun h => h.elim (fun h => (Or.inl ⟨h.1, h.2.1, h.2.2⟩)) (fun h => h.elim (fun h => (Or.inr (Or.inl ⟨h.1, h.2.1, h.2.2⟩))) (fun h => h.elim (fun h => (Or.inr (Or.inr (Or.inl ⟨h.1, h.2.1, h.2.2⟩)))) (fun h => h.elim (fun h => (Or.inr (Or.inr (Or.inr (Or.inl ⟨h.1, h.2.1, h.2.2⟩))))) (fun h => h.elim (fun h => (Or.inr (Or.inr (Or.inr (Or.inr (Or.inl ⟨h.1, h.2.1, h.2.2⟩)))))) (fun h => h.elim (fun h => (Or.inr (Or.inr (Or.inr (Or.inr (Or.inr (Or.inl ⟨h.1, h.2.1, h.2.2⟩))))))) (fun h => h.elim))))))))
          refine w_if_eq (tgt := 48) dX2_kindsAlike_36 (by decide) (rfl : r13_.toInt = r13_.toInt) (fun h20_ => ?_) (fun h20_ => ?_)
          · refine w_iincB (j := 0) (f := fun z21_ => [(7, vI z21_), (6, vI v6_6), (0, vR (2, b, 0)), (1, vI v), (2, vI u), (3, vI t), (4, vI s), (5, vI q)]) dX2_kindsAlike_48 rfl (by decide) (fun _ => rfl) (rfl : v7_6.toInt = v7_6.toInt) li_1 (lf_c_X2_kindsAlike_4 v7_6 hv0_6 hv1_6 h2_) (fun z21_ h22_ => ?_)
            refine w_goto (tgt := 6) dX2_kindsAlike_51 (by decide) ?_
            refine w_loc (ls' := [(7, vI z21_), (6, vI v6_6), (0, vR (2, b, 0)), (1, vI v), (2, vI u), (3, vI t), (4, vI s), (5, vI q)]) [0, 1, 2, 3, 4, 5, 6, 7] rfl ?_
            exact ih_6 M14_ hI17_ hF19_ z21_ v6_6 (lf_c_X2_kindsAlike_5 v7_6 z21_ hv0_6 hv1_6 h2_ h22_) (lf_c_X2_kindsAlike_6 v7_6 z21_ hv0_6 hv1_6 h2_ h22_) (Nat.lt_of_lt_of_le (lf_c_X2_kindsAlike_7 v7_6 z21_ hv0_6 hv1_6 h2_ h22_) (Nat.le_of_lt_succ hm_6))
          · refine w_iload dX2_kindsAlike_39 1 rfl ?_
            refine w_iconst (v := 1) dX2_kindsAlike_41 (by decide) ?_
            refine w_iload dX2_kindsAlike_42 0 rfl ?_
            refine w_ishl dX2_kindsAlike_44 (fun z23_ _ => ?_)
            refine w_ior dX2_kindsAlike_45 (fun z24_ _ => ?_)
            refine w_istore (ls' := [(6, vI z24_), (7, vI v7_6), (0, vR (2, b, 0)), (1, vI v), (2, vI u), (3, vI t), (4, vI s), (5, vI q)]) dX2_kindsAlike_46 (by decide) rfl ?_
            refine w_iincB (j := 1) (f := fun z25_ => [(7, vI z25_), (6, vI z24_), (0, vR (2, b, 0)), (1, vI v), (2, vI u), (3, vI t), (4, vI s), (5, vI q)]) dX2_kindsAlike_48 rfl (by decide) (fun _ => rfl) (rfl : v7_6.toInt = v7_6.toInt) li_1 (lf_c_X2_kindsAlike_8 v7_6 hv0_6 hv1_6 h2_) (fun z25_ h26_ => ?_)
            refine w_goto (tgt := 6) dX2_kindsAlike_51 (by decide) ?_
            refine w_loc (ls' := [(7, vI z25_), (6, vI z24_), (0, vR (2, b, 0)), (1, vI v), (2, vI u), (3, vI t), (4, vI s), (5, vI q)]) [0, 1, 2, 3, 4, 5, 6, 7] rfl ?_
            exact ih_6 M14_ hI17_ hF19_ z25_ z24_ (lf_c_X2_kindsAlike_9 v7_6 z25_ hv0_6 hv1_6 h2_ h26_) (lf_c_X2_kindsAlike_10 v7_6 z25_ hv0_6 hv1_6 h2_ h26_) (Nat.lt_of_lt_of_le (lf_c_X2_kindsAlike_11 v7_6 z25_ hv0_6 hv1_6 h2_ h26_) (Nat.le_of_lt_succ hm_6))
  exact lp1_ _ Mz hIz hFz 0 0 (lf_c_X2_kindsAlike_12 ) (lf_c_X2_kindsAlike_13 ) (Nat.lt_succ_self _)
def S_c_X2_leastPitch (b : Nat) : rf → Nat → Prop := fun c k => (c.1 = 29 ∧ c.2.1 = b ∧ k = 0) ∨ (c.1 = 29 ∧ c.2.1 = b ∧ k = 1) ∨ (c.1 = 29 ∧ c.2.1 = b ∧ k = 2) ∨ (c.1 = 29 ∧ c.2.1 = b ∧ k = 3) ∨ (c.1 = 25 ∧ c.2.1 = b ∧ c.2.2 = 0) ∨ (c.1 = 25 ∧ c.2.1 = b ∧ c.2.2 = 1) ∨ False
theorem lf_c_X2_leastPitch_0  (v4_3 : Int32) (hv0_3 : 1 ≤ v4_3.toInt) (hv1_3 : v4_3.toInt ≤ 10) (h2_ : v4_3.toInt ≤ 9) : -2147483648 ≤ 100 * v4_3.toInt ∧ 100 * v4_3.toInt < 2147483648 := by have r_v4_3 := rngI v4_3; omega
theorem lf_c_X2_leastPitch_1  (v4_3 : Int32) (z3_ : Int32) (hv0_3 : 1 ≤ v4_3.toInt) (hv1_3 : v4_3.toInt ≤ 10) (h2_ : v4_3.toInt ≤ 9) (h4_ : z3_.toInt = 100 * v4_3.toInt) : -2147483648 ≤ z3_.toInt + 99 ∧ z3_.toInt + 99 < 2147483648 := by have r_v4_3 := rngI v4_3; have r_z3_ := rngI z3_; omega
theorem lf_c_X2_leastPitch_2  (v4_3 : Int32) (z3_ : Int32) (z5_ : Int32) (hv0_3 : 1 ≤ v4_3.toInt) (hv1_3 : v4_3.toInt ≤ 10) (h2_ : v4_3.toInt ≤ 9) (h4_ : z3_.toInt = 100 * v4_3.toInt) (h6_ : z5_.toInt = z3_.toInt + 99) : -2147483648 ≤ v4_3.toInt + 1 ∧ v4_3.toInt + 1 < 2147483648 := by have r_v4_3 := rngI v4_3; have r_z3_ := rngI z3_; have r_z5_ := rngI z5_; omega
theorem lf_c_X2_leastPitch_3  (v4_3 : Int32) (z3_ : Int32) (z5_ : Int32) (z15_ : Int32) (hv0_3 : 1 ≤ v4_3.toInt) (hv1_3 : v4_3.toInt ≤ 10) (h2_ : v4_3.toInt ≤ 9) (h4_ : z3_.toInt = 100 * v4_3.toInt) (h6_ : z5_.toInt = z3_.toInt + 99) (h16_ : z15_.toInt = v4_3.toInt + 1) : 1 ≤ z15_.toInt := by have r_v4_3 := rngI v4_3; have r_z3_ := rngI z3_; have r_z5_ := rngI z5_; have r_z15_ := rngI z15_; omega
theorem lf_c_X2_leastPitch_4  (v4_3 : Int32) (z3_ : Int32) (z5_ : Int32) (z15_ : Int32) (hv0_3 : 1 ≤ v4_3.toInt) (hv1_3 : v4_3.toInt ≤ 10) (h2_ : v4_3.toInt ≤ 9) (h4_ : z3_.toInt = 100 * v4_3.toInt) (h6_ : z5_.toInt = z3_.toInt + 99) (h16_ : z15_.toInt = v4_3.toInt + 1) : z15_.toInt ≤ 10 := by have r_v4_3 := rngI v4_3; have r_z3_ := rngI z3_; have r_z5_ := rngI z5_; have r_z15_ := rngI z15_; omega
theorem lf_c_X2_leastPitch_5  (v4_3 : Int32) (z3_ : Int32) (z5_ : Int32) (z15_ : Int32) (hv0_3 : 1 ≤ v4_3.toInt) (hv1_3 : v4_3.toInt ≤ 10) (h2_ : v4_3.toInt ≤ 9) (h4_ : z3_.toInt = 100 * v4_3.toInt) (h6_ : z5_.toInt = z3_.toInt + 99) (h16_ : z15_.toInt = v4_3.toInt + 1) : (2147483648 - z15_.toInt).toNat < (2147483648 - v4_3.toInt).toNat := by have r_v4_3 := rngI v4_3; have r_z3_ := rngI z3_; have r_z5_ := rngI z5_; have r_z15_ := rngI z15_; omega
theorem lf_c_X2_leastPitch_6    : 1 ≤ (1 : Int32).toInt := by have q0 := li_1; omega
theorem lf_c_X2_leastPitch_7    : (1 : Int32).toInt ≤ 10 := by have q0 := li_1; omega
set_option maxHeartbeats 4000000 in
set_option maxRecDepth 100000 in
theorem c_X2_leastPitch (l : Launch) (G : va_G) (cy : Nat → ClassId) (ad : rf → Nat) (d : Nat) (b : Nat) (v : Int32) (u : Int32) (t : Int32) (Mz : mM) (hIz : Inv Mz) (hb : b < 3) : WP CC l G cy ad yX2_leastPitch cX2_leastPitch 5 (some .int) (d + 3) 0 [(0, vR (2, b, 0)), (1, vI v), (2, vI u), (3, vI t)] [] Mz (fun r M' => Inv M' ∧ FR (S_c_X2_leastPitch b) Mz M' ∧ True) := by
  have hFz : FR (S_c_X2_leastPitch b) Mz Mz := FR.self
  refine w_iconst (v := 1) dX2_leastPitch_0 (by decide) ?_
  refine w_istore (ls' := [(4, vI 1), (0, vR (2, b, 0)), (1, vI v), (2, vI u), (3, vI t)]) dX2_leastPitch_1 (by decide) rfl ?_
  have lp1_ : ∀ (nn_3 : Nat) (M_3 : mM) (hI_3 : Inv M_3) (hF_3 : FR (S_c_X2_leastPitch b) Mz M_3) (v4_3 : Int32) (hv0_3 : 1 ≤ v4_3.toInt) (hv1_3 : v4_3.toInt ≤ 10), (2147483648 - v4_3.toInt).toNat < nn_3 → WP CC l G cy ad yX2_leastPitch cX2_leastPitch 5 (some .int) (d + 3) 3 [(4, vI v4_3), (0, vR (2, b, 0)), (1, vI v), (2, vI u), (3, vI t)] [] M_3 (fun r M' => Inv M' ∧ FR (S_c_X2_leastPitch b) Mz M' ∧ True) := by
    intro nn_3
    induction nn_3 with
    | zero => intro M_3 hI_3 hF_3 v4_3 hv0_3 hv1_3 hm_3; exact absurd hm_3 (Nat.not_lt_zero _)
    | succ nn_3 ih_3 =>
      intro M_3 hI_3 hF_3 v4_3 hv0_3 hv1_3 hm_3
      refine w_iload dX2_leastPitch_3 0 rfl ?_
      refine w_bipush (v := 9) dX2_leastPitch_5 (by decide) ?_
      refine w_icmp_gt (tgt := 38) dX2_leastPitch_7 (by decide) (rfl : v4_3.toInt = v4_3.toInt) li_9 (fun h2_ => ?_) (fun h2_ => ?_)
      · refine w_iconst (v := 0) dX2_leastPitch_38 (by decide) ?_
        exact w_iret rfl dX2_leastPitch_39 ⟨hI_3, hF_3, trivial⟩
      · refine w_aload_n dX2_leastPitch_10 rfl 1 rfl ?_
        refine w_iload_n dX2_leastPitch_11 rfl 2 rfl ?_
        refine w_iload_n dX2_leastPitch_12 rfl 3 rfl ?_
        refine w_bipush (v := 100) dX2_leastPitch_13 (by decide) ?_
        refine w_iload dX2_leastPitch_15 0 rfl ?_
        refine w_imulB dX2_leastPitch_17 li_100 (rfl : v4_3.toInt = v4_3.toInt) (lf_c_X2_leastPitch_0 v4_3 hv0_3 hv1_3 h2_) (fun z3_ h4_ => ?_)
        refine w_bipush (v := 99) dX2_leastPitch_18 (by decide) ?_
        refine w_iaddB dX2_leastPitch_20 (rfl : z3_.toInt = z3_.toInt) li_99 (lf_c_X2_leastPitch_1 v4_3 z3_ hv0_3 hv1_3 h2_ h4_) (fun z5_ h6_ => ?_)
        refine w_iload_n dX2_leastPitch_21 rfl 4 rfl ?_
        refine w_iconst (v := 0) dX2_leastPitch_22 (by decide) ?_
        refine w_callV (as := [vI v, vI u, vI z5_, vI t, vI 0]) (rest := []) (c_X2_hears l G cy ad d b v u z5_ t 0 M_3 hI_3 hb) kV_X2_hears (by decide +kernel) (Nat.le_of_ble_eq_true rfl) m_956 rfl rfl rfl (ic_2 hb) rfl rfl (by decide) (Nat.le_of_ble_eq_true rfl) dX2_leastPitch_23 (fun r7_ M8_ q9_ => ?_)
        obtain ⟨hI11_, hF12_, h10_⟩ := q9_
        have hF13_ := hF_3.tr hF12_ (fun c k => (fun h => h.elim (fun h => (Or.inl ⟨h.1, h.2.1, h.2.2⟩)) (fun h => h.elim (fun h => (Or.inr (Or.inl ⟨h.1, h.2.1, h.2.2⟩))) (fun h => h.elim (fun h => (Or.inr (Or.inr (Or.inl ⟨h.1, h.2.1, h.2.2⟩)))) (fun h => h.elim (fun h => (Or.inr (Or.inr (Or.inr (Or.inl ⟨h.1, h.2.1, h.2.2⟩))))) (fun h => h.elim (fun h => (Or.inr (Or.inr (Or.inr (Or.inr (Or.inl ⟨h.1, h.2.1, h.2.2⟩)))))) (fun h => h.elim (fun h => (Or.inr (Or.inr (Or.inr (Or.inr (Or.inr (Or.inl ⟨h.1, h.2.1, h.2.2⟩))))))) (fun h => h.elim))))))))
        refine w_if_eq (tgt := 32) dX2_leastPitch_26 (by decide) (rfl : r7_.toInt = r7_.toInt) (fun h14_ => ?_) (fun h14_ => ?_)
        · refine w_iincB (j := 0) (f := fun z15_ => [(4, vI z15_), (0, vR (2, b, 0)), (1, vI v), (2, vI u), (3, vI t)]) dX2_leastPitch_32 rfl (by decide) (fun _ => rfl) (rfl : v4_3.toInt = v4_3.toInt) li_1 (lf_c_X2_leastPitch_2 v4_3 z3_ z5_ hv0_3 hv1_3 h2_ h4_ h6_) (fun z15_ h16_ => ?_)
          refine w_goto (tgt := 3) dX2_leastPitch_35 (by decide) ?_
          refine w_loc (ls' := [(4, vI z15_), (0, vR (2, b, 0)), (1, vI v), (2, vI u), (3, vI t)]) [0, 1, 2, 3, 4] rfl ?_
          exact ih_3 M8_ hI11_ hF13_ z15_ (lf_c_X2_leastPitch_3 v4_3 z3_ z5_ z15_ hv0_3 hv1_3 h2_ h4_ h6_ h16_) (lf_c_X2_leastPitch_4 v4_3 z3_ z5_ z15_ hv0_3 hv1_3 h2_ h4_ h6_ h16_) (Nat.lt_of_lt_of_le (lf_c_X2_leastPitch_5 v4_3 z3_ z5_ z15_ hv0_3 hv1_3 h2_ h4_ h6_ h16_) (Nat.le_of_lt_succ hm_3))
        · refine w_iload dX2_leastPitch_29 0 rfl ?_
          exact w_iret rfl dX2_leastPitch_31 ⟨hI11_, hF13_, trivial⟩
  exact lp1_ _ Mz hIz hFz 1 (lf_c_X2_leastPitch_6 ) (lf_c_X2_leastPitch_7 ) (Nat.lt_succ_self _)
def S_c_X2_leastLoudness (b : Nat) : rf → Nat → Prop := fun c k => (c.1 = 29 ∧ c.2.1 = b ∧ k = 0) ∨ (c.1 = 29 ∧ c.2.1 = b ∧ k = 1) ∨ (c.1 = 29 ∧ c.2.1 = b ∧ k = 2) ∨ (c.1 = 29 ∧ c.2.1 = b ∧ k = 3) ∨ (c.1 = 25 ∧ c.2.1 = b ∧ c.2.2 = 0) ∨ (c.1 = 25 ∧ c.2.1 = b ∧ c.2.2 = 1) ∨ False
theorem lf_c_X2_leastLoudness_0  (v4_3 : Int32) (hv0_3 : 1 ≤ v4_3.toInt) (hv1_3 : v4_3.toInt ≤ 100) (h2_ : v4_3.toInt ≤ 99) : -2147483648 ≤ v4_3.toInt + 1 ∧ v4_3.toInt + 1 < 2147483648 := by have r_v4_3 := rngI v4_3; omega
theorem lf_c_X2_leastLoudness_1  (v4_3 : Int32) (z15_ : Int32) (hv0_3 : 1 ≤ v4_3.toInt) (hv1_3 : v4_3.toInt ≤ 100) (h2_ : v4_3.toInt ≤ 99) (h16_ : z15_.toInt = v4_3.toInt + 1) : 1 ≤ z15_.toInt := by have r_v4_3 := rngI v4_3; have r_z15_ := rngI z15_; omega
theorem lf_c_X2_leastLoudness_2  (v4_3 : Int32) (z15_ : Int32) (hv0_3 : 1 ≤ v4_3.toInt) (hv1_3 : v4_3.toInt ≤ 100) (h2_ : v4_3.toInt ≤ 99) (h16_ : z15_.toInt = v4_3.toInt + 1) : z15_.toInt ≤ 100 := by have r_v4_3 := rngI v4_3; have r_z15_ := rngI z15_; omega
theorem lf_c_X2_leastLoudness_3  (v4_3 : Int32) (z15_ : Int32) (hv0_3 : 1 ≤ v4_3.toInt) (hv1_3 : v4_3.toInt ≤ 100) (h2_ : v4_3.toInt ≤ 99) (h16_ : z15_.toInt = v4_3.toInt + 1) : (2147483648 - z15_.toInt).toNat < (2147483648 - v4_3.toInt).toNat := by have r_v4_3 := rngI v4_3; have r_z15_ := rngI z15_; omega
theorem lf_c_X2_leastLoudness_4    : 1 ≤ (1 : Int32).toInt := by have q0 := li_1; omega
theorem lf_c_X2_leastLoudness_5    : (1 : Int32).toInt ≤ 100 := by have q0 := li_1; omega
set_option maxHeartbeats 4000000 in
set_option maxRecDepth 100000 in
theorem c_X2_leastLoudness (l : Launch) (G : va_G) (cy : Nat → ClassId) (ad : rf → Nat) (d : Nat) (b : Nat) (v : Int32) (u : Int32) (t : Int32) (Mz : mM) (hIz : Inv Mz) (hb : b < 3) : WP CC l G cy ad yX2_leastLoudness cX2_leastLoudness 5 (some .int) (d + 3) 0 [(0, vR (2, b, 0)), (1, vI v), (2, vI u), (3, vI t)] [] Mz (fun r M' => Inv M' ∧ FR (S_c_X2_leastLoudness b) Mz M' ∧ True) := by
  have hFz : FR (S_c_X2_leastLoudness b) Mz Mz := FR.self
  refine w_iconst (v := 1) dX2_leastLoudness_0 (by decide) ?_
  refine w_istore (ls' := [(4, vI 1), (0, vR (2, b, 0)), (1, vI v), (2, vI u), (3, vI t)]) dX2_leastLoudness_1 (by decide) rfl ?_
  have lp1_ : ∀ (nn_3 : Nat) (M_3 : mM) (hI_3 : Inv M_3) (hF_3 : FR (S_c_X2_leastLoudness b) Mz M_3) (v4_3 : Int32) (hv0_3 : 1 ≤ v4_3.toInt) (hv1_3 : v4_3.toInt ≤ 100), (2147483648 - v4_3.toInt).toNat < nn_3 → WP CC l G cy ad yX2_leastLoudness cX2_leastLoudness 5 (some .int) (d + 3) 3 [(4, vI v4_3), (0, vR (2, b, 0)), (1, vI v), (2, vI u), (3, vI t)] [] M_3 (fun r M' => Inv M' ∧ FR (S_c_X2_leastLoudness b) Mz M' ∧ True) := by
    intro nn_3
    induction nn_3 with
    | zero => intro M_3 hI_3 hF_3 v4_3 hv0_3 hv1_3 hm_3; exact absurd hm_3 (Nat.not_lt_zero _)
    | succ nn_3 ih_3 =>
      intro M_3 hI_3 hF_3 v4_3 hv0_3 hv1_3 hm_3
      refine w_iload dX2_leastLoudness_3 0 rfl ?_
      refine w_bipush (v := 99) dX2_leastLoudness_5 (by decide) ?_
      refine w_icmp_gt (tgt := 42) dX2_leastLoudness_7 (by decide) (rfl : v4_3.toInt = v4_3.toInt) li_99 (fun h2_ => ?_) (fun h2_ => ?_)
      · refine w_iconst (v := 0) dX2_leastLoudness_42 (by decide) ?_
        exact w_iret rfl dX2_leastLoudness_43 ⟨hI_3, hF_3, trivial⟩
      · refine w_aload_n dX2_leastLoudness_10 rfl 1 rfl ?_
        refine w_iload_n dX2_leastLoudness_11 rfl 2 rfl ?_
        refine w_iload_n dX2_leastLoudness_12 rfl 3 rfl ?_
        refine w_bipush (v := 100) dX2_leastLoudness_13 (by decide) ?_
        refine w_bipush (v := 9) dX2_leastLoudness_15 (by decide) ?_
        refine w_iload_n dX2_leastLoudness_17 rfl 2 rfl ?_
        refine w_min m_885 m_770 m_86 m_771 li_9 (rfl : v.toInt = v.toInt) (Nat.le_of_ble_eq_true rfl) (by omega) dX2_leastLoudness_18 (fun z3_ h4_ => ?_)
        refine w_imul dX2_leastLoudness_21 (fun z5_ _ => ?_)
        refine w_iload dX2_leastLoudness_22 0 rfl ?_
        refine w_iadd dX2_leastLoudness_24 (fun z6_ _ => ?_)
        refine w_iload_n dX2_leastLoudness_25 rfl 4 rfl ?_
        refine w_iconst (v := 0) dX2_leastLoudness_26 (by decide) ?_
        refine w_callV (as := [vI v, vI u, vI z6_, vI t, vI 0]) (rest := []) (c_X2_hears l G cy ad d b v u z6_ t 0 M_3 hI_3 hb) kV_X2_hears (by decide +kernel) (Nat.le_of_ble_eq_true rfl) m_956 rfl rfl rfl (ic_2 hb) rfl rfl (by decide) (Nat.le_of_ble_eq_true rfl) dX2_leastLoudness_27 (fun r7_ M8_ q9_ => ?_)
        obtain ⟨hI11_, hF12_, h10_⟩ := q9_
        have hF13_ := hF_3.tr hF12_ (fun c k => (fun h => h.elim (fun h => (Or.inl ⟨h.1, h.2.1, h.2.2⟩)) (fun h => h.elim (fun h => (Or.inr (Or.inl ⟨h.1, h.2.1, h.2.2⟩))) (fun h => h.elim (fun h => (Or.inr (Or.inr (Or.inl ⟨h.1, h.2.1, h.2.2⟩)))) (fun h => h.elim (fun h => (Or.inr (Or.inr (Or.inr (Or.inl ⟨h.1, h.2.1, h.2.2⟩))))) (fun h => h.elim (fun h => (Or.inr (Or.inr (Or.inr (Or.inr (Or.inl ⟨h.1, h.2.1, h.2.2⟩)))))) (fun h => h.elim (fun h => (Or.inr (Or.inr (Or.inr (Or.inr (Or.inr (Or.inl ⟨h.1, h.2.1, h.2.2⟩))))))) (fun h => h.elim))))))))
        refine w_if_eq (tgt := 36) dX2_leastLoudness_30 (by decide) (rfl : r7_.toInt = r7_.toInt) (fun h14_ => ?_) (fun h14_ => ?_)
        · refine w_iincB (j := 0) (f := fun z15_ => [(4, vI z15_), (0, vR (2, b, 0)), (1, vI v), (2, vI u), (3, vI t)]) dX2_leastLoudness_36 rfl (by decide) (fun _ => rfl) (rfl : v4_3.toInt = v4_3.toInt) li_1 (lf_c_X2_leastLoudness_0 v4_3 hv0_3 hv1_3 h2_) (fun z15_ h16_ => ?_)
          refine w_goto (tgt := 3) dX2_leastLoudness_39 (by decide) ?_
          refine w_loc (ls' := [(4, vI z15_), (0, vR (2, b, 0)), (1, vI v), (2, vI u), (3, vI t)]) [0, 1, 2, 3, 4] rfl ?_
          exact ih_3 M8_ hI11_ hF13_ z15_ (lf_c_X2_leastLoudness_1 v4_3 z15_ hv0_3 hv1_3 h2_ h16_) (lf_c_X2_leastLoudness_2 v4_3 z15_ hv0_3 hv1_3 h2_ h16_) (Nat.lt_of_lt_of_le (lf_c_X2_leastLoudness_3 v4_3 z15_ hv0_3 hv1_3 h2_ h16_) (Nat.le_of_lt_succ hm_3))
        · refine w_iload dX2_leastLoudness_33 0 rfl ?_
          exact w_iret rfl dX2_leastLoudness_35 ⟨hI11_, hF13_, trivial⟩
  exact lp1_ _ Mz hIz hFz 1 (lf_c_X2_leastLoudness_4 ) (lf_c_X2_leastLoudness_5 ) (Nat.lt_succ_self _)
def S_c_X2_takeFrom (b : Nat) (b2 : Nat) : rf → Nat → Prop := fun c k => (c.1 = 2 ∧ c.2.1 = b ∧ k = 0) ∨ (c.1 = 2 ∧ c.2.1 = b ∧ k = 1) ∨ (c.1 = 2 ∧ c.2.1 = b ∧ k = 2) ∨ (c.1 = 26 ∧ c.2.1 = b) ∨ (c.1 = 27 ∧ c.2.1 = b) ∨ (c.1 = 1 ∧ c.2.1 = b ∧ k = 2) ∨ (c.1 = 24 ∧ c.2.1 = b) ∨ False
theorem lf_c_X2_takeFrom_0  (v2_54 : Int32) (hv0_54 : 0 ≤ v2_54.toInt) (hv1_54 : v2_54.toInt ≤ 3) (h28_ : v2_54.toInt < 3) : 0 ≤ v2_54.toInt ∧ v2_54.toInt < ((3 : Nat) : Int) := by have r_v2_54 := rngI v2_54; omega
theorem lf_c_X2_takeFrom_1 (M15_ : mM) (M19_ : mM) (M23_ : mM) (M3_ : mM) (M9_ : mM) (Mz : mM) (b : Nat) (b2 : Nat) (z1_ : Int32) (z7_ : Int32) (z13_ : Int32) (v2_54 : Int32) (j29_ : Nat) (hb : b < 3) (hb2 : b2 < 3) (e2_ : z1_ = Mz.1 (2, b2, 0) 0) (hM4_ : M3_ = up Mz (2, b, 0) 0 z1_) (e8_ : z7_ = M3_.1 (2, b2, 0) 1) (hM10_ : M9_ = up M3_ (2, b, 0) 1 z7_) (e14_ : z13_ = M9_.1 (2, b2, 0) 2) (hM16_ : M15_ = up M9_ (2, b, 0) 2 z13_) (hM20_ : M19_ = cp M15_ (26, b2, 0) (26, b, 0) (0 : Int32).toNatClampNeg (0 : Int32).toNatClampNeg (5 : Int32).toNatClampNeg) (hM24_ : M23_ = cp M19_ (27, b2, 0) (27, b, 0) (0 : Int32).toNatClampNeg (0 : Int32).toNatClampNeg (5 : Int32).toNatClampNeg) (hv0_54 : 0 ≤ v2_54.toInt) (hv1_54 : v2_54.toInt ≤ 3) (h28_ : v2_54.toInt < 3) (h30_ : (j29_ : Int) = v2_54.toInt) (h31_ : j29_ < 3) (h32_ : vF b j29_) : 0 ≤ v2_54.toInt ∧ v2_54.toInt < ((3 : Nat) : Int) := by have r_z1_ := rngI z1_; have r_z7_ := rngI z7_; have r_z13_ := rngI z13_; have r_v2_54 := rngI v2_54; subst e2_; subst e8_; subst e14_; omega
theorem lf_c_X2_takeFrom_2 (M15_ : mM) (M19_ : mM) (M23_ : mM) (M3_ : mM) (M9_ : mM) (Mz : mM) (b : Nat) (b2 : Nat) (z1_ : Int32) (z7_ : Int32) (z13_ : Int32) (v2_54 : Int32) (j29_ : Nat) (j33_ : Nat) (hb : b < 3) (hb2 : b2 < 3) (e2_ : z1_ = Mz.1 (2, b2, 0) 0) (hM4_ : M3_ = up Mz (2, b, 0) 0 z1_) (e8_ : z7_ = M3_.1 (2, b2, 0) 1) (hM10_ : M9_ = up M3_ (2, b, 0) 1 z7_) (e14_ : z13_ = M9_.1 (2, b2, 0) 2) (hM16_ : M15_ = up M9_ (2, b, 0) 2 z13_) (hM20_ : M19_ = cp M15_ (26, b2, 0) (26, b, 0) (0 : Int32).toNatClampNeg (0 : Int32).toNatClampNeg (5 : Int32).toNatClampNeg) (hM24_ : M23_ = cp M19_ (27, b2, 0) (27, b, 0) (0 : Int32).toNatClampNeg (0 : Int32).toNatClampNeg (5 : Int32).toNatClampNeg) (hv0_54 : 0 ≤ v2_54.toInt) (hv1_54 : v2_54.toInt ≤ 3) (h28_ : v2_54.toInt < 3) (h30_ : (j29_ : Int) = v2_54.toInt) (h31_ : j29_ < 3) (h32_ : vF b j29_) (h34_ : (j33_ : Int) = v2_54.toInt) (h35_ : j33_ < 3) (h36_ : vF b2 j33_) : -2147483648 ≤ v2_54.toInt + 1 ∧ v2_54.toInt + 1 < 2147483648 := by have r_z1_ := rngI z1_; have r_z7_ := rngI z7_; have r_z13_ := rngI z13_; have r_v2_54 := rngI v2_54; subst e2_; subst e8_; subst e14_; omega
theorem lf_c_X2_takeFrom_3 (M15_ : mM) (M19_ : mM) (M23_ : mM) (M3_ : mM) (M9_ : mM) (Mz : mM) (b : Nat) (b2 : Nat) (z1_ : Int32) (z7_ : Int32) (z13_ : Int32) (v2_54 : Int32) (j29_ : Nat) (j33_ : Nat) (z43_ : Int32) (hb : b < 3) (hb2 : b2 < 3) (e2_ : z1_ = Mz.1 (2, b2, 0) 0) (hM4_ : M3_ = up Mz (2, b, 0) 0 z1_) (e8_ : z7_ = M3_.1 (2, b2, 0) 1) (hM10_ : M9_ = up M3_ (2, b, 0) 1 z7_) (e14_ : z13_ = M9_.1 (2, b2, 0) 2) (hM16_ : M15_ = up M9_ (2, b, 0) 2 z13_) (hM20_ : M19_ = cp M15_ (26, b2, 0) (26, b, 0) (0 : Int32).toNatClampNeg (0 : Int32).toNatClampNeg (5 : Int32).toNatClampNeg) (hM24_ : M23_ = cp M19_ (27, b2, 0) (27, b, 0) (0 : Int32).toNatClampNeg (0 : Int32).toNatClampNeg (5 : Int32).toNatClampNeg) (hv0_54 : 0 ≤ v2_54.toInt) (hv1_54 : v2_54.toInt ≤ 3) (h28_ : v2_54.toInt < 3) (h30_ : (j29_ : Int) = v2_54.toInt) (h31_ : j29_ < 3) (h32_ : vF b j29_) (h34_ : (j33_ : Int) = v2_54.toInt) (h35_ : j33_ < 3) (h36_ : vF b2 j33_) (h44_ : z43_.toInt = v2_54.toInt + 1) : 0 ≤ z43_.toInt := by have r_z1_ := rngI z1_; have r_z7_ := rngI z7_; have r_z13_ := rngI z13_; have r_v2_54 := rngI v2_54; have r_z43_ := rngI z43_; omega
theorem lf_c_X2_takeFrom_4 (M15_ : mM) (M19_ : mM) (M23_ : mM) (M3_ : mM) (M9_ : mM) (Mz : mM) (b : Nat) (b2 : Nat) (z1_ : Int32) (z7_ : Int32) (z13_ : Int32) (v2_54 : Int32) (j29_ : Nat) (j33_ : Nat) (z43_ : Int32) (hb : b < 3) (hb2 : b2 < 3) (e2_ : z1_ = Mz.1 (2, b2, 0) 0) (hM4_ : M3_ = up Mz (2, b, 0) 0 z1_) (e8_ : z7_ = M3_.1 (2, b2, 0) 1) (hM10_ : M9_ = up M3_ (2, b, 0) 1 z7_) (e14_ : z13_ = M9_.1 (2, b2, 0) 2) (hM16_ : M15_ = up M9_ (2, b, 0) 2 z13_) (hM20_ : M19_ = cp M15_ (26, b2, 0) (26, b, 0) (0 : Int32).toNatClampNeg (0 : Int32).toNatClampNeg (5 : Int32).toNatClampNeg) (hM24_ : M23_ = cp M19_ (27, b2, 0) (27, b, 0) (0 : Int32).toNatClampNeg (0 : Int32).toNatClampNeg (5 : Int32).toNatClampNeg) (hv0_54 : 0 ≤ v2_54.toInt) (hv1_54 : v2_54.toInt ≤ 3) (h28_ : v2_54.toInt < 3) (h30_ : (j29_ : Int) = v2_54.toInt) (h31_ : j29_ < 3) (h32_ : vF b j29_) (h34_ : (j33_ : Int) = v2_54.toInt) (h35_ : j33_ < 3) (h36_ : vF b2 j33_) (h44_ : z43_.toInt = v2_54.toInt + 1) : z43_.toInt ≤ 3 := by have r_z1_ := rngI z1_; have r_z7_ := rngI z7_; have r_z13_ := rngI z13_; have r_v2_54 := rngI v2_54; have r_z43_ := rngI z43_; omega
theorem lf_c_X2_takeFrom_5 (M15_ : mM) (M19_ : mM) (M23_ : mM) (M3_ : mM) (M9_ : mM) (Mz : mM) (b : Nat) (b2 : Nat) (z1_ : Int32) (z7_ : Int32) (z13_ : Int32) (v2_54 : Int32) (j29_ : Nat) (j33_ : Nat) (z43_ : Int32) (hb : b < 3) (hb2 : b2 < 3) (e2_ : z1_ = Mz.1 (2, b2, 0) 0) (hM4_ : M3_ = up Mz (2, b, 0) 0 z1_) (e8_ : z7_ = M3_.1 (2, b2, 0) 1) (hM10_ : M9_ = up M3_ (2, b, 0) 1 z7_) (e14_ : z13_ = M9_.1 (2, b2, 0) 2) (hM16_ : M15_ = up M9_ (2, b, 0) 2 z13_) (hM20_ : M19_ = cp M15_ (26, b2, 0) (26, b, 0) (0 : Int32).toNatClampNeg (0 : Int32).toNatClampNeg (5 : Int32).toNatClampNeg) (hM24_ : M23_ = cp M19_ (27, b2, 0) (27, b, 0) (0 : Int32).toNatClampNeg (0 : Int32).toNatClampNeg (5 : Int32).toNatClampNeg) (hv0_54 : 0 ≤ v2_54.toInt) (hv1_54 : v2_54.toInt ≤ 3) (h28_ : v2_54.toInt < 3) (h30_ : (j29_ : Int) = v2_54.toInt) (h31_ : j29_ < 3) (h32_ : vF b j29_) (h34_ : (j33_ : Int) = v2_54.toInt) (h35_ : j33_ < 3) (h36_ : vF b2 j33_) (h44_ : z43_.toInt = v2_54.toInt + 1) : (2147483648 - z43_.toInt).toNat < (2147483648 - v2_54.toInt).toNat := by have r_z1_ := rngI z1_; have r_z7_ := rngI z7_; have r_z13_ := rngI z13_; have r_v2_54 := rngI v2_54; have r_z43_ := rngI z43_; omega
theorem lf_c_X2_takeFrom_6    : 0 ≤ (0 : Int32).toInt := by have q0 := li_0; omega
theorem lf_c_X2_takeFrom_7    : (0 : Int32).toInt ≤ 3 := by have q0 := li_0; omega
set_option maxHeartbeats 4000000 in
set_option maxRecDepth 100000 in
theorem c_X2_takeFrom (l : Launch) (G : va_G) (cy : Nat → ClassId) (ad : rf → Nat) (d : Nat) (b : Nat) (b2 : Nat) (Mz : mM) (hIz : Inv Mz) (hb : b < 3) (hb2 : b2 < 3) : WP CC l G cy ad yX2_takeFrom cX2_takeFrom 3 none (d + 2) 0 [(0, vR (2, b, 0)), (1, vR (2, b2, 0))] [] Mz (fun r M' => Inv M' ∧ FR (S_c_X2_takeFrom b b2) Mz M' ∧ True) := by
  have hFz : FR (S_c_X2_takeFrom b b2) Mz Mz := FR.self
  refine w_aload_n dX2_takeFrom_0 rfl 0 rfl ?_
  refine w_aload_n dX2_takeFrom_1 rfl 1 rfl ?_
  refine w_getI fl_RX2_7 rfl rfl (ic_2 hb2) dX2_takeFrom_2 (fun z1_ e2_ => ?_)
  refine w_putI CC_nd fl_RX2_7 rfl rfl (ic_2 hb) dX2_takeFrom_5 (fun M3_ hM4_ => ?_)
  have hI5_ := hIz.put hM4_ trivial
  have hF6_ := hFz.put hM4_ (Or.inl ⟨rfl, rfl, rfl⟩)
  refine w_aload_n dX2_takeFrom_8 rfl 0 rfl ?_
  refine w_aload_n dX2_takeFrom_9 rfl 1 rfl ?_
  refine w_getI fl_RX2_13 rfl rfl (ic_2 hb2) dX2_takeFrom_10 (fun z7_ e8_ => ?_)
  refine w_putI CC_nd fl_RX2_13 rfl rfl (ic_2 hb) dX2_takeFrom_13 (fun M9_ hM10_ => ?_)
  have hI11_ := hI5_.put hM10_ trivial
  have hF12_ := hF6_.put hM10_ (Or.inr (Or.inl ⟨rfl, rfl, rfl⟩))
  refine w_aload_n dX2_takeFrom_16 rfl 0 rfl ?_
  refine w_aload_n dX2_takeFrom_17 rfl 1 rfl ?_
  refine w_getI fl_RX2_16 rfl rfl (ic_2 hb2) dX2_takeFrom_18 (fun z13_ e14_ => ?_)
  refine w_putI CC_nd fl_RX2_16 rfl rfl (ic_2 hb) dX2_takeFrom_21 (fun M15_ hM16_ => ?_)
  have hI17_ := hI11_.put hM16_ trivial
  have hF18_ := hF12_.put hM16_ (Or.inr (Or.inr (Or.inl ⟨rfl, rfl, rfl⟩)))
  refine w_aload_n dX2_takeFrom_24 rfl 1 rfl ?_
  refine w_getR (c' := (26, b2, 0)) fl_RX2_21 rfl rfl (ic_2 hb2) dX2_takeFrom_25 rfl ?_
  refine w_iconst (v := 0) dX2_takeFrom_28 (by decide) ?_
  refine w_aload_n dX2_takeFrom_29 rfl 0 rfl ?_
  refine w_getR (c' := (26, b, 0)) fl_RX2_21 rfl rfl (ic_2 hb) dX2_takeFrom_30 rfl ?_
  refine w_iconst (v := 0) dX2_takeFrom_33 (by decide) ?_
  refine w_iconst (v := 5) dX2_takeFrom_34 (by decide) ?_
  refine w_copy CC_nd rfl rfl (ic_26 hb2) rfl rfl (ic_26 hb) m_1267 m_830 m_829 m_98 li_0 li_0 li_5 (by decide) rfl (by omega) dX2_takeFrom_35 (fun M19_ hM20_ => ?_)
  have hI21_ := hI17_.cpy hM20_ (fun _ _ => trivial)
  have hF22_ := hF18_.cpy hM20_ (fun _ => (Or.inr (Or.inr (Or.inr (Or.inl ⟨rfl, rfl⟩)))))
  refine w_aload_n dX2_takeFrom_38 rfl 1 rfl ?_
  refine w_getR (c' := (27, b2, 0)) fl_RX2_25 rfl rfl (ic_2 hb2) dX2_takeFrom_39 rfl ?_
  refine w_iconst (v := 0) dX2_takeFrom_42 (by decide) ?_
  refine w_aload_n dX2_takeFrom_43 rfl 0 rfl ?_
  refine w_getR (c' := (27, b, 0)) fl_RX2_25 rfl rfl (ic_2 hb) dX2_takeFrom_44 rfl ?_
  refine w_iconst (v := 0) dX2_takeFrom_47 (by decide) ?_
  refine w_iconst (v := 5) dX2_takeFrom_48 (by decide) ?_
  refine w_copy CC_nd rfl rfl (ic_27 hb2) rfl rfl (ic_27 hb) m_1267 m_830 m_829 m_98 li_0 li_0 li_5 (by decide) rfl (by omega) dX2_takeFrom_49 (fun M23_ hM24_ => ?_)
  have hI25_ := hI21_.cpy hM24_ (fun _ _ => trivial)
  have hF26_ := hF22_.cpy hM24_ (fun _ => (Or.inr (Or.inr (Or.inr (Or.inr (Or.inl ⟨rfl, rfl⟩))))))
  refine w_iconst (v := 0) dX2_takeFrom_52 (by decide) ?_
  refine w_istore_n (ls' := [(2, vI 0), (0, vR (2, b, 0)), (1, vR (2, b2, 0))]) dX2_takeFrom_53 rfl (by decide) rfl ?_
  have lp27_ : ∀ (nn_54 : Nat) (M_54 : mM) (hI_54 : Inv M_54) (hF_54 : FR (S_c_X2_takeFrom b b2) Mz M_54) (v2_54 : Int32) (hv0_54 : 0 ≤ v2_54.toInt) (hv1_54 : v2_54.toInt ≤ 3), (2147483648 - v2_54.toInt).toNat < nn_54 → WP CC l G cy ad yX2_takeFrom cX2_takeFrom 3 none (d + 2) 54 [(2, vI v2_54), (0, vR (2, b, 0)), (1, vR (2, b2, 0))] [] M_54 (fun r M' => Inv M' ∧ FR (S_c_X2_takeFrom b b2) Mz M' ∧ True) := by
    intro nn_54
    induction nn_54 with
    | zero => intro M_54 hI_54 hF_54 v2_54 hv0_54 hv1_54 hm_54; exact absurd hm_54 (Nat.not_lt_zero _)
    | succ nn_54 ih_54 =>
      intro M_54 hI_54 hF_54 v2_54 hv0_54 hv1_54 hm_54
      refine w_iload_n dX2_takeFrom_54 rfl 0 rfl ?_
      refine w_iconst (v := 3) dX2_takeFrom_55 (by decide) ?_
      refine w_icmp_ge (tgt := 80) dX2_takeFrom_56 (by decide) (rfl : v2_54.toInt = v2_54.toInt) li_3 (fun h28_ => ?_) (fun h28_ => ?_)
      · exact w_vret rfl dX2_takeFrom_80 ⟨hI_54, hF_54, trivial⟩
      · refine w_aload_n dX2_takeFrom_59 rfl 1 rfl ?_
        refine w_getR (c' := (28, b, 0)) fl_RX2_30 rfl rfl (ic_2 hb) dX2_takeFrom_60 rfl ?_
        refine w_iload_n dX2_takeFrom_63 rfl 0 rfl ?_
        refine w_aald rfl rfl rfl (fun _ => rfl) (ic_28 hb) (rfl : v2_54.toInt = v2_54.toInt) (lf_c_X2_takeFrom_0 v2_54 hv0_54 hv1_54 h28_) dX2_takeFrom_64 (fun j29_ h30_ h31_ => ?_)
        have h32_ : vF b j29_ := Or.inl ⟨hb, h31_⟩
        refine w_aload_n dX2_takeFrom_65 rfl 2 rfl ?_
        refine w_getR (c' := (28, b2, 0)) fl_RX2_30 rfl rfl (ic_2 hb2) dX2_takeFrom_66 rfl ?_
        refine w_iload_n dX2_takeFrom_69 rfl 0 rfl ?_
        refine w_aald rfl rfl rfl (fun _ => rfl) (ic_28 hb2) (rfl : v2_54.toInt = v2_54.toInt) (lf_c_X2_takeFrom_1 M15_ M19_ M23_ M3_ M9_ Mz b b2 z1_ z7_ z13_ v2_54 j29_ hb hb2 e2_ hM4_ e8_ hM10_ e14_ hM16_ hM20_ hM24_ hv0_54 hv1_54 h28_ h30_ h31_ h32_) dX2_takeFrom_70 (fun j33_ h34_ h35_ => ?_)
        have h36_ : vF b2 j33_ := Or.inl ⟨hb2, h35_⟩
        refine w_callVv (as := [vR (1, b2, j33_)]) (rest := []) (c_X1_takeFrom l G cy ad d b j29_ b2 j33_ M_54 hI_54 h32_ h36_) kV_X1_takeFrom (by decide +kernel) (Nat.le_of_ble_eq_true rfl) m_1268 rfl rfl rfl (ic_1 h32_) rfl rfl (by decide) (Nat.le_of_ble_eq_true rfl) dX2_takeFrom_71 (fun M37_ q38_ => ?_)
        obtain ⟨hI40_, hF41_, h39_⟩ := q38_
        have hF42_ := hF_54.tr hF41_ (fun c k => (fun h => h.elim (fun h => (Or.inr (Or.inr (Or.inr (Or.inr (Or.inr (Or.inl ⟨h.1, h.2.1, h.2.2.2⟩))))))) (fun h => h.elim (fun h => (Or.inr (Or.inr (Or.inr (Or.inr (Or.inr (Or.inr (Or.inl ⟨h.1, h.2.1⟩)))))))) (fun h => h.elim))))
        refine w_iincB (j := 0) (f := fun z43_ => [(2, vI z43_), (0, vR (2, b, 0)), (1, vR (2, b2, 0))]) dX2_takeFrom_74 rfl (by decide) (fun _ => rfl) (rfl : v2_54.toInt = v2_54.toInt) li_1 (lf_c_X2_takeFrom_2 M15_ M19_ M23_ M3_ M9_ Mz b b2 z1_ z7_ z13_ v2_54 j29_ j33_ hb hb2 e2_ hM4_ e8_ hM10_ e14_ hM16_ hM20_ hM24_ hv0_54 hv1_54 h28_ h30_ h31_ h32_ h34_ h35_ h36_) (fun z43_ h44_ => ?_)
        refine w_goto (tgt := 54) dX2_takeFrom_77 (by decide) ?_
        refine w_loc (ls' := [(2, vI z43_), (0, vR (2, b, 0)), (1, vR (2, b2, 0))]) [0, 1, 2] rfl ?_
        exact ih_54 M37_ hI40_ hF42_ z43_ (lf_c_X2_takeFrom_3 M15_ M19_ M23_ M3_ M9_ Mz b b2 z1_ z7_ z13_ v2_54 j29_ j33_ z43_ hb hb2 e2_ hM4_ e8_ hM10_ e14_ hM16_ hM20_ hM24_ hv0_54 hv1_54 h28_ h30_ h31_ h32_ h34_ h35_ h36_ h44_) (lf_c_X2_takeFrom_4 M15_ M19_ M23_ M3_ M9_ Mz b b2 z1_ z7_ z13_ v2_54 j29_ j33_ z43_ hb hb2 e2_ hM4_ e8_ hM10_ e14_ hM16_ hM20_ hM24_ hv0_54 hv1_54 h28_ h30_ h31_ h32_ h34_ h35_ h36_ h44_) (Nat.lt_of_lt_of_le (lf_c_X2_takeFrom_5 M15_ M19_ M23_ M3_ M9_ Mz b b2 z1_ z7_ z13_ v2_54 j29_ j33_ z43_ hb hb2 e2_ hM4_ e8_ hM10_ e14_ hM16_ hM20_ hM24_ hv0_54 hv1_54 h28_ h30_ h31_ h32_ h34_ h35_ h36_ h44_) (Nat.le_of_lt_succ hm_54))
  exact lp27_ _ M23_ hI25_ hF26_ 0 (lf_c_X2_takeFrom_6 ) (lf_c_X2_takeFrom_7 ) (Nat.lt_succ_self _)
set_option maxHeartbeats 4000000 in
set_option maxRecDepth 100000 in
theorem c_X3_hasRoom (l : Launch) (G : va_G) (cy : Nat → ClassId) (ad : rf → Nat) (d : Nat) (b : Nat) (Mz : mM) (hIz : Inv Mz) (hb : b < 3) : WP CC l G cy ad yX3_hasRoom cX3_hasRoom 1 (some .boolean) d 0 [(0, vR (3, b, 0))] [] Mz (fun r M' => Mz = M' ∧ (0 ≤ r.toInt ∧ r.toInt ≤ 1)) := by
  refine w_aload_n dX3_hasRoom_0 rfl 0 rfl ?_
  refine w_getI fl_RX3_19 rfl rfl (ic_3 hb) dX3_hasRoom_1 (fun z1_ e2_ => ?_)
  refine w_bipush (v := 7) dX3_hasRoom_4 (by decide) ?_
  refine w_icmp_ge (tgt := 13) dX3_hasRoom_6 (by decide) (rfl : z1_.toInt = z1_.toInt) li_7 (fun h3_ => ?_) (fun h3_ => ?_)
  · refine w_iconst (v := 0) dX3_hasRoom_13 (by decide) ?_
    exact w_zret rfl dX3_hasRoom_14 ⟨by decide, by decide⟩ ⟨rfl, ⟨by decide, by decide⟩⟩
  · refine w_iconst (v := 1) dX3_hasRoom_9 (by decide) ?_
    refine w_goto (tgt := 14) dX3_hasRoom_10 (by decide) ?_
    exact w_zret rfl dX3_hasRoom_14 ⟨by decide, by decide⟩ ⟨rfl, ⟨by decide, by decide⟩⟩
def S_c_X3_add (b : Nat) : rf → Nat → Prop := fun c k => (c.1 = 30 ∧ c.2.1 = b) ∨ (c.1 = 31 ∧ c.2.1 = b) ∨ (c.1 = 32 ∧ c.2.1 = b) ∨ (c.1 = 3 ∧ c.2.1 = b ∧ k = 3) ∨ False
theorem lf_c_X3_add_0 (Mz : mM) (b : Nat) (z1_ : Int32) (hb : b < 3) (e2_ : z1_ = Mz.1 (3, b, 0) 3) (h3_ : 0 ≤ z1_.toInt) (h4_ : z1_.toInt < 7) : 0 ≤ z1_.toInt ∧ z1_.toInt < ((7 : Nat) : Int) := by have r_z1_ := rngI z1_; subst e2_; omega
theorem lf_c_X3_add_1 (M5_ : mM) (Mz : mM) (b : Nat) (v : Int32) (z1_ : Int32) (j7_ : Nat) (hb : b < 3) (e2_ : z1_ = Mz.1 (3, b, 0) 3) (h3_ : 0 ≤ z1_.toInt) (h4_ : z1_.toInt < 7) (h8_ : (j7_ : Int) = z1_.toInt) (hM6_ : M5_ = up Mz (30, b, 0) j7_ v) : 0 ≤ z1_.toInt ∧ z1_.toInt < ((7 : Nat) : Int) := by have r_v := rngI v; have r_z1_ := rngI z1_; subst e2_; omega
theorem lf_c_X3_add_2 (M11_ : mM) (M5_ : mM) (Mz : mM) (b : Nat) (v : Int32) (u : Int32) (z1_ : Int32) (j7_ : Nat) (j13_ : Nat) (hb : b < 3) (e2_ : z1_ = Mz.1 (3, b, 0) 3) (h3_ : 0 ≤ z1_.toInt) (h4_ : z1_.toInt < 7) (h8_ : (j7_ : Int) = z1_.toInt) (hM6_ : M5_ = up Mz (30, b, 0) j7_ v) (h14_ : (j13_ : Int) = z1_.toInt) (hM12_ : M11_ = up M5_ (31, b, 0) j13_ u) : 0 ≤ z1_.toInt ∧ z1_.toInt < ((7 : Nat) : Int) := by have r_v := rngI v; have r_u := rngI u; have r_z1_ := rngI z1_; subst e2_; omega
set_option maxHeartbeats 4000000 in
set_option maxRecDepth 100000 in
theorem c_X3_add (l : Launch) (G : va_G) (cy : Nat → ClassId) (ad : rf → Nat) (d : Nat) (b : Nat) (v : Int32) (u : Int32) (t : Int32) (Mz : mM) (hIz : Inv Mz) (hb : b < 3) : WP CC l G cy ad yX3_add cX3_add 5 (some .int) d 0 [(0, vR (3, b, 0)), (1, vI v), (2, vI u), (3, vI t)] [] Mz (fun r M' => Inv M' ∧ FR (S_c_X3_add b) Mz M' ∧ True) := by
  have hFz : FR (S_c_X3_add b) Mz Mz := FR.self
  refine w_aload_n dX3_add_0 rfl 0 rfl ?_
  refine w_getI fl_RX3_19 rfl rfl (ic_3 hb) dX3_add_1 (fun z1_ e2_ => ?_)
  refine w_istore (ls' := [(4, vI z1_), (0, vR (3, b, 0)), (1, vI v), (2, vI u), (3, vI t)]) dX3_add_4 (by decide) rfl ?_
  refine w_iload dX3_add_6 0 rfl ?_
  refine w_if_lt (tgt := 18) dX3_add_8 (by decide) (rfl : z1_.toInt = z1_.toInt) (fun h3_ => ?_) (fun h3_ => ?_)
  · refine w_iconst (v := (-1)) dX3_add_18 (by decide) ?_
    exact w_iret rfl dX3_add_19 ⟨hIz, hFz, trivial⟩
  · refine w_iload dX3_add_11 0 rfl ?_
    refine w_bipush (v := 7) dX3_add_13 (by decide) ?_
    refine w_icmp_lt (tgt := 20) dX3_add_15 (by decide) (rfl : z1_.toInt = z1_.toInt) li_7 (fun h4_ => ?_) (fun h4_ => ?_)
    · refine w_aload_n dX3_add_20 rfl 1 rfl ?_
      refine w_getR (c' := (30, b, 0)) fl_RX3_9 rfl rfl (ic_3 hb) dX3_add_21 rfl ?_
      refine w_iload dX3_add_24 0 rfl ?_
      refine w_iload_n dX3_add_26 rfl 2 rfl ?_
      refine w_iast CC_nd rfl rfl (ic_30 hb) (rfl : z1_.toInt = z1_.toInt) (lf_c_X3_add_0 Mz b z1_ hb e2_ h3_ h4_) dX3_add_27 (fun j7_ h8_ M5_ hM6_ => ?_)
      have hI9_ := hIz.put hM6_ trivial
      have hF10_ := hFz.put hM6_ (Or.inl ⟨rfl, rfl⟩)
      refine w_aload_n dX3_add_28 rfl 1 rfl ?_
      refine w_getR (c' := (31, b, 0)) fl_RX3_13 rfl rfl (ic_3 hb) dX3_add_29 rfl ?_
      refine w_iload dX3_add_32 0 rfl ?_
      refine w_iload_n dX3_add_34 rfl 3 rfl ?_
      refine w_iast CC_nd rfl rfl (ic_31 hb) (rfl : z1_.toInt = z1_.toInt) (lf_c_X3_add_1 M5_ Mz b v z1_ j7_ hb e2_ h3_ h4_ h8_ hM6_) dX3_add_35 (fun j13_ h14_ M11_ hM12_ => ?_)
      have hI15_ := hI9_.put hM12_ trivial
      have hF16_ := hF10_.put hM12_ (Or.inr (Or.inl ⟨rfl, rfl⟩))
      refine w_aload_n dX3_add_36 rfl 1 rfl ?_
      refine w_getR (c' := (32, b, 0)) fl_RX3_16 rfl rfl (ic_3 hb) dX3_add_37 rfl ?_
      refine w_iload dX3_add_40 0 rfl ?_
      refine w_iload_n dX3_add_42 rfl 4 rfl ?_
      refine w_iast CC_nd rfl rfl (ic_32 hb) (rfl : z1_.toInt = z1_.toInt) (lf_c_X3_add_2 M11_ M5_ Mz b v u z1_ j7_ j13_ hb e2_ h3_ h4_ h8_ hM6_ h14_ hM12_) dX3_add_43 (fun j19_ h20_ M17_ hM18_ => ?_)
      have hI21_ := hI15_.put hM18_ trivial
      have hF22_ := hF16_.put hM18_ (Or.inr (Or.inr (Or.inl ⟨rfl, rfl⟩)))
      refine w_aload_n dX3_add_44 rfl 1 rfl ?_
      refine w_dup dX3_add_45 rfl ?_
      refine w_getI fl_RX3_19 rfl rfl (ic_3 hb) dX3_add_46 (fun z23_ e24_ => ?_)
      refine w_iconst (v := 1) dX3_add_49 (by decide) ?_
      refine w_iadd dX3_add_50 (fun z25_ _ => ?_)
      refine w_putI CC_nd fl_RX3_19 rfl rfl (ic_3 hb) dX3_add_51 (fun M26_ hM27_ => ?_)
      have hI28_ := hI21_.put hM27_ (fun h => absurd h (by decide))
      have hF29_ := hF22_.put hM27_ (Or.inr (Or.inr (Or.inr (Or.inl ⟨rfl, rfl, rfl⟩))))
      refine w_iload dX3_add_54 0 rfl ?_
      exact w_iret rfl dX3_add_56 ⟨hI28_, hF29_, trivial⟩
    · refine w_iconst (v := (-1)) dX3_add_18 (by decide) ?_
      exact w_iret rfl dX3_add_19 ⟨hIz, hFz, trivial⟩
theorem lf_c_X3_isBetter_0 (Mz : mM) (b : Nat) (v : Int32) (z1_ : Int32) (hb : b < 3) (e2_ : z1_ = Mz.1 (3, b, 0) 7) (h3_ : z1_.toInt ≤ v.toInt) (h6_ : v.toInt = z1_.toInt) : vRw b 2 := by have r_v := rngI v; have r_z1_ := rngI z1_; unfold vRw; omega
theorem lf_c_X3_isBetter_1 (Mz : mM) (b : Nat) (v : Int32) (z1_ : Int32) (z7_ : Int32) (hb : b < 3) (e2_ : z1_ = Mz.1 (3, b, 0) 7) (h3_ : z1_.toInt ≤ v.toInt) (h6_ : v.toInt = z1_.toInt) (e8_ : z7_ = Mz.1 (5, b, 2) 1) : vRw b 3 := by have r_v := rngI v; have r_z1_ := rngI z1_; have r_z7_ := rngI z7_; unfold vRw; omega
set_option maxHeartbeats 4000000 in
set_option maxRecDepth 100000 in
theorem c_X3_isBetter (l : Launch) (G : va_G) (cy : Nat → ClassId) (ad : rf → Nat) (d : Nat) (b : Nat) (v : Int32) (Mz : mM) (hIz : Inv Mz) (hb : b < 3) : WP CC l G cy ad yX3_isBetter cX3_isBetter 2 (some .boolean) d 0 [(0, vR (3, b, 0)), (1, vI v)] [] Mz (fun r M' => Mz = M' ∧ (0 ≤ r.toInt ∧ r.toInt ≤ 1)) := by
  refine w_iload_n dX3_isBetter_0 rfl 1 rfl ?_
  refine w_aload_n dX3_isBetter_1 rfl 0 rfl ?_
  refine w_getI fl_RX3_38 rfl rfl (ic_3 hb) dX3_isBetter_2 (fun z1_ e2_ => ?_)
  refine w_icmp_lt (tgt := 33) dX3_isBetter_5 (by decide) (rfl : v.toInt = v.toInt) (rfl : z1_.toInt = z1_.toInt) (fun h3_ => ?_) (fun h3_ => ?_)
  · refine w_iconst (v := 1) dX3_isBetter_33 (by decide) ?_
    refine w_goto (tgt := 38) dX3_isBetter_34 (by decide) ?_
    exact w_zret rfl dX3_isBetter_38 ⟨by decide, by decide⟩ ⟨rfl, ⟨by decide, by decide⟩⟩
  · refine w_iload_n dX3_isBetter_8 rfl 1 rfl ?_
    refine w_aload_n dX3_isBetter_9 rfl 0 rfl ?_
    refine w_getI fl_RX3_38 rfl rfl (ic_3 hb) dX3_isBetter_10 (fun z4_ e5_ => ?_)
    obtain rfl : z1_ = z4_ := e2_.trans e5_.symm
    refine w_icmp_ne (tgt := 37) dX3_isBetter_13 (by decide) (rfl : v.toInt = v.toInt) (rfl : z1_.toInt = z1_.toInt) (fun h6_ => ?_) (fun h6_ => ?_)
    · refine w_iconst (v := 0) dX3_isBetter_37 (by decide) ?_
      exact w_zret rfl dX3_isBetter_38 ⟨by decide, by decide⟩ ⟨rfl, ⟨by decide, by decide⟩⟩
    · refine w_aload_n dX3_isBetter_16 rfl 0 rfl ?_
      refine w_getR (c' := (5, b, 2)) fl_RX3_28 rfl rfl (ic_3 hb) dX3_isBetter_17 rfl ?_
      refine w_getI fl_RX3_70 rfl rfl (ic_5 (lf_c_X3_isBetter_0 Mz b v z1_ hb e2_ h3_ h6_)) dX3_isBetter_20 (fun z7_ e8_ => ?_)
      refine w_aload_n dX3_isBetter_23 rfl 0 rfl ?_
      refine w_getR (c' := (5, b, 3)) fl_RX3_32 rfl rfl (ic_3 hb) dX3_isBetter_24 rfl ?_
      refine w_getI fl_RX3_70 rfl rfl (ic_5 (lf_c_X3_isBetter_1 Mz b v z1_ z7_ hb e2_ h3_ h6_ e8_)) dX3_isBetter_27 (fun z9_ e10_ => ?_)
      refine w_icmp_ge (tgt := 37) dX3_isBetter_30 (by decide) (rfl : z7_.toInt = z7_.toInt) (rfl : z9_.toInt = z9_.toInt) (fun h11_ => ?_) (fun h11_ => ?_)
      · refine w_iconst (v := 0) dX3_isBetter_37 (by decide) ?_
        exact w_zret rfl dX3_isBetter_38 ⟨by decide, by decide⟩ ⟨rfl, ⟨by decide, by decide⟩⟩
      · refine w_iconst (v := 1) dX3_isBetter_33 (by decide) ?_
        refine w_goto (tgt := 38) dX3_isBetter_34 (by decide) ?_
        exact w_zret rfl dX3_isBetter_38 ⟨by decide, by decide⟩ ⟨rfl, ⟨by decide, by decide⟩⟩
def S_c_X3_takeFrom (b : Nat) (b2 : Nat) : rf → Nat → Prop := fun c k => (c.1 = 30 ∧ c.2.1 = b) ∨ (c.1 = 31 ∧ c.2.1 = b) ∨ (c.1 = 32 ∧ c.2.1 = b) ∨ (c.1 = 3 ∧ c.2.1 = b ∧ k = 3) ∨ False
set_option maxHeartbeats 4000000 in
set_option maxRecDepth 100000 in
theorem c_X3_takeFrom (l : Launch) (G : va_G) (cy : Nat → ClassId) (ad : rf → Nat) (d : Nat) (b : Nat) (b2 : Nat) (Mz : mM) (hIz : Inv Mz) (hb : b < 3) (hb2 : b2 < 3) : WP CC l G cy ad yX3_takeFrom cX3_takeFrom 2 none (d + 1) 0 [(0, vR (3, b, 0)), (1, vR (3, b2, 0))] [] Mz (fun r M' => Inv M' ∧ FR (S_c_X3_takeFrom b b2) Mz M' ∧ True) := by
  have hFz : FR (S_c_X3_takeFrom b b2) Mz Mz := FR.self
  refine w_aload_n dX3_takeFrom_0 rfl 1 rfl ?_
  refine w_getR (c' := (30, b2, 0)) fl_RX3_9 rfl rfl (ic_3 hb2) dX3_takeFrom_1 rfl ?_
  refine w_iconst (v := 0) dX3_takeFrom_4 (by decide) ?_
  refine w_aload_n dX3_takeFrom_5 rfl 0 rfl ?_
  refine w_getR (c' := (30, b, 0)) fl_RX3_9 rfl rfl (ic_3 hb) dX3_takeFrom_6 rfl ?_
  refine w_iconst (v := 0) dX3_takeFrom_9 (by decide) ?_
  refine w_bipush (v := 7) dX3_takeFrom_10 (by decide) ?_
  refine w_copy CC_nd rfl rfl (ic_30 hb2) rfl rfl (ic_30 hb) m_1273 m_830 m_829 m_98 li_0 li_0 li_7 (by decide) rfl (by omega) dX3_takeFrom_12 (fun M1_ hM2_ => ?_)
  have hI3_ := hIz.cpy hM2_ (fun _ _ => trivial)
  have hF4_ := hFz.cpy hM2_ (fun _ => (Or.inl ⟨rfl, rfl⟩))
  refine w_aload_n dX3_takeFrom_15 rfl 1 rfl ?_
  refine w_getR (c' := (31, b2, 0)) fl_RX3_13 rfl rfl (ic_3 hb2) dX3_takeFrom_16 rfl ?_
  refine w_iconst (v := 0) dX3_takeFrom_19 (by decide) ?_
  refine w_aload_n dX3_takeFrom_20 rfl 0 rfl ?_
  refine w_getR (c' := (31, b, 0)) fl_RX3_13 rfl rfl (ic_3 hb) dX3_takeFrom_21 rfl ?_
  refine w_iconst (v := 0) dX3_takeFrom_24 (by decide) ?_
  refine w_bipush (v := 7) dX3_takeFrom_25 (by decide) ?_
  refine w_copy CC_nd rfl rfl (ic_31 hb2) rfl rfl (ic_31 hb) m_1273 m_830 m_829 m_98 li_0 li_0 li_7 (by decide) rfl (by omega) dX3_takeFrom_27 (fun M5_ hM6_ => ?_)
  have hI7_ := hI3_.cpy hM6_ (fun _ _ => trivial)
  have hF8_ := hF4_.cpy hM6_ (fun _ => (Or.inr (Or.inl ⟨rfl, rfl⟩)))
  refine w_aload_n dX3_takeFrom_30 rfl 1 rfl ?_
  refine w_getR (c' := (32, b2, 0)) fl_RX3_16 rfl rfl (ic_3 hb2) dX3_takeFrom_31 rfl ?_
  refine w_iconst (v := 0) dX3_takeFrom_34 (by decide) ?_
  refine w_aload_n dX3_takeFrom_35 rfl 0 rfl ?_
  refine w_getR (c' := (32, b, 0)) fl_RX3_16 rfl rfl (ic_3 hb) dX3_takeFrom_36 rfl ?_
  refine w_iconst (v := 0) dX3_takeFrom_39 (by decide) ?_
  refine w_bipush (v := 7) dX3_takeFrom_40 (by decide) ?_
  refine w_copy CC_nd rfl rfl (ic_32 hb2) rfl rfl (ic_32 hb) m_1273 m_830 m_829 m_98 li_0 li_0 li_7 (by decide) rfl (by omega) dX3_takeFrom_42 (fun M9_ hM10_ => ?_)
  have hI11_ := hI7_.cpy hM10_ (fun _ _ => trivial)
  have hF12_ := hF8_.cpy hM10_ (fun _ => (Or.inr (Or.inr (Or.inl ⟨rfl, rfl⟩))))
  refine w_aload_n dX3_takeFrom_45 rfl 0 rfl ?_
  refine w_aload_n dX3_takeFrom_46 rfl 1 rfl ?_
  refine w_getI fl_RX3_19 rfl rfl (ic_3 hb2) dX3_takeFrom_47 (fun z13_ e14_ => ?_)
  refine w_putI CC_nd fl_RX3_19 rfl rfl (ic_3 hb) dX3_takeFrom_50 (fun M15_ hM16_ => ?_)
  have hI17_ := hI11_.put hM16_ (fun h => absurd h (by decide))
  have hF18_ := hF12_.put hM16_ (Or.inr (Or.inr (Or.inr (Or.inl ⟨rfl, rfl, rfl⟩))))
  exact w_vret rfl dX3_takeFrom_53 ⟨hI17_, hF18_, trivial⟩
