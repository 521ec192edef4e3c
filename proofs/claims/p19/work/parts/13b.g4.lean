def SP_X9_reach (b : Nat) (w : Nat) (Mz : mM) (r_ : Int32) : Prop := ∃ z1_ : Int32, (z1_ = Mz.1 (9, b, w) 0) ∧ (((z1_.toInt < 0) ∧ r_ = 0) ∨ ((0 ≤ z1_.toInt) ∧ (((8 ≤ z1_.toInt) ∧ r_ = 0) ∨ ((z1_.toInt < 8) ∧ ∃ j11_ : Nat, ((j11_ : Int) = z1_.toInt) ∧ ∃ z9_ : Int32, (z9_ = ([3, 12, 1, 6, 0, 6, 5, 10] : List Int32).getD j11_ 0) ∧ (0 ≤ z9_.toInt ∧ z9_.toInt ≤ 12) ∧ r_ = z9_))))
theorem lf_c_X9_reach_0 : 0 ≤ (0 : Int32).toInt ∧ (0 : Int32).toInt ≤ 12 := by have r9 := li_0; omega
theorem lf_c_X9_reach_3 (z1_ : Int32) (j11_ : Nat) (h6_ : z1_.toInt < 8) (h12_ : (j11_ : Int) = z1_.toInt) : j11_ < 8 := by omega
set_option maxHeartbeats 4000000 in
set_option maxRecDepth 100000 in
theorem c_X9_reach (l : Launch) (G : va_G) (cy : Nat → ClassId) (ad : rf → Nat) (d : Nat) (b : Nat) (w : Nat) (Mz : mM) (hIz : Inv Mz) (hb : b < 3) (hw : w < 8) : WP CC l G cy ad yX9_reach cX9_reach 1 (some .int) d 0 [(0, vR (9, b, w))] [] Mz (fun r M' => Mz = M' ∧ (0 ≤ r.toInt ∧ r.toInt ≤ 12) ∧ SP_X9_reach b w Mz r) := by
  refine w_aload_n dX9_reach_0 rfl 0 rfl ?_
  refine w_getI fl_RX9_7 rfl rfl (ic_9 hb hw) dX9_reach_1 (fun z1_ e2_ => ?_)
  refine w_if_lt (tgt := 27) dX9_reach_4 (by decide) (rfl : z1_.toInt = z1_.toInt) (fun h3_ => ?_) (fun h3_ => ?_)
  · refine w_iconst (v := 0) dX9_reach_27 (by decide) ?_
    exact w_iret rfl dX9_reach_28 ⟨rfl, (lf_c_X9_reach_0 ), ⟨z1_, e2_, (Or.inl ⟨h3_, rfl⟩)⟩⟩
  · refine w_aload_n dX9_reach_7 rfl 0 rfl ?_
    refine w_getI fl_RX9_7 rfl rfl (ic_9 hb hw) dX9_reach_8 (fun z4_ e5_ => ?_)
    obtain rfl : z1_ = z4_ := e2_.trans e5_.symm
    refine w_bipush (v := 8) dX9_reach_11 (by decide) ?_
    refine w_icmp_ge (tgt := 27) dX9_reach_13 (by decide) (rfl : z1_.toInt = z1_.toInt) li_8 (fun h6_ => ?_) (fun h6_ => ?_)
    · refine w_iconst (v := 0) dX9_reach_27 (by decide) ?_
      exact w_iret rfl dX9_reach_28 ⟨rfl, (lf_c_X9_reach_0 ), ⟨z1_, e2_, (Or.inr ⟨h3_, (Or.inl ⟨h6_, rfl⟩)⟩)⟩⟩
    · refine w_gets (k := 0) rfl m_621 dX9_reach_16 ?_
      refine w_aload_n dX9_reach_19 rfl 0 rfl ?_
      refine w_getI fl_RX9_7 rfl rfl (ic_9 hb hw) dX9_reach_20 (fun z7_ e8_ => ?_)
      obtain rfl : z1_ = z7_ := e2_.trans e8_.symm
      refine w_iaT (k := 0) rfl (rfl : z1_.toInt = z1_.toInt) (lf_c_X9_kindAbove_0 z1_ h3_ h6_ ) dX9_reach_23 (fun j11_ h12_ z9_ e10_ => ?_)
      have h13_ : 0 ≤ z9_.toInt ∧ z9_.toInt ≤ 12 := by rw [e10_]; exact stb_0 j11_ (lf_c_X9_reach_3 z1_ j11_ h6_ h12_ )
      refine w_goto (tgt := 28) dX9_reach_24 (by decide) ?_
      exact w_iret rfl dX9_reach_28 ⟨rfl, h13_, ⟨z1_, e2_, (Or.inr ⟨h3_, (Or.inr ⟨h6_, j11_, h12_, z9_, e10_, h13_, rfl⟩)⟩)⟩⟩
def SP_X9_speed (b : Nat) (w : Nat) (Mz : mM) (r_ : Int32) : Prop := ∃ z1_ : Int32, (z1_ = Mz.1 (9, b, w) 0) ∧ (((z1_.toInt < 0) ∧ r_ = 0) ∨ ((0 ≤ z1_.toInt) ∧ (((8 ≤ z1_.toInt) ∧ r_ = 0) ∨ ((z1_.toInt < 8) ∧ ∃ j11_ : Nat, ((j11_ : Int) = z1_.toInt) ∧ ∃ z9_ : Int32, (z9_ = ([1, 1, 1, 1, 1, 1, 1, 2] : List Int32).getD j11_ 0) ∧ (1 ≤ z9_.toInt ∧ z9_.toInt ≤ 2) ∧ r_ = z9_))))
theorem lf_c_X9_speed_0 : 0 ≤ (0 : Int32).toInt ∧ (0 : Int32).toInt ≤ 2 := by have r9 := li_0; omega
theorem lf_c_X9_speed_4 (z9_ : Int32) (h13_ : 1 ≤ z9_.toInt ∧ z9_.toInt ≤ 2) : 0 ≤ z9_.toInt ∧ z9_.toInt ≤ 2 := by omega
set_option maxHeartbeats 4000000 in
set_option maxRecDepth 100000 in
theorem c_X9_speed (l : Launch) (G : va_G) (cy : Nat → ClassId) (ad : rf → Nat) (d : Nat) (b : Nat) (w : Nat) (Mz : mM) (hIz : Inv Mz) (hb : b < 3) (hw : w < 8) : WP CC l G cy ad yX9_speed cX9_speed 1 (some .int) d 0 [(0, vR (9, b, w))] [] Mz (fun r M' => Mz = M' ∧ (0 ≤ r.toInt ∧ r.toInt ≤ 2) ∧ SP_X9_speed b w Mz r) := by
  refine w_aload_n dX9_speed_0 rfl 0 rfl ?_
  refine w_getI fl_RX9_7 rfl rfl (ic_9 hb hw) dX9_speed_1 (fun z1_ e2_ => ?_)
  refine w_if_lt (tgt := 27) dX9_speed_4 (by decide) (rfl : z1_.toInt = z1_.toInt) (fun h3_ => ?_) (fun h3_ => ?_)
  · refine w_iconst (v := 0) dX9_speed_27 (by decide) ?_
    exact w_iret rfl dX9_speed_28 ⟨rfl, (lf_c_X9_speed_0 ), ⟨z1_, e2_, (Or.inl ⟨h3_, rfl⟩)⟩⟩
  · refine w_aload_n dX9_speed_7 rfl 0 rfl ?_
    refine w_getI fl_RX9_7 rfl rfl (ic_9 hb hw) dX9_speed_8 (fun z4_ e5_ => ?_)
    obtain rfl : z1_ = z4_ := e2_.trans e5_.symm
    refine w_bipush (v := 8) dX9_speed_11 (by decide) ?_
    refine w_icmp_ge (tgt := 27) dX9_speed_13 (by decide) (rfl : z1_.toInt = z1_.toInt) li_8 (fun h6_ => ?_) (fun h6_ => ?_)
    · refine w_iconst (v := 0) dX9_speed_27 (by decide) ?_
      exact w_iret rfl dX9_speed_28 ⟨rfl, (lf_c_X9_speed_0 ), ⟨z1_, e2_, (Or.inr ⟨h3_, (Or.inl ⟨h6_, rfl⟩)⟩)⟩⟩
    · refine w_gets (k := 1) rfl m_627 dX9_speed_16 ?_
      refine w_aload_n dX9_speed_19 rfl 0 rfl ?_
      refine w_getI fl_RX9_7 rfl rfl (ic_9 hb hw) dX9_speed_20 (fun z7_ e8_ => ?_)
      obtain rfl : z1_ = z7_ := e2_.trans e8_.symm
      refine w_iaT (k := 1) rfl (rfl : z1_.toInt = z1_.toInt) (lf_c_X9_kindAbove_0 z1_ h3_ h6_ ) dX9_speed_23 (fun j11_ h12_ z9_ e10_ => ?_)
      have h13_ : 1 ≤ z9_.toInt ∧ z9_.toInt ≤ 2 := by rw [e10_]; exact stb_1 j11_ (lf_c_X9_reach_3 z1_ j11_ h6_ h12_ )
      refine w_goto (tgt := 28) dX9_speed_24 (by decide) ?_
      exact w_iret rfl dX9_speed_28 ⟨rfl, (lf_c_X9_speed_4 z9_ h13_ ), ⟨z1_, e2_, (Or.inr ⟨h3_, (Or.inr ⟨h6_, j11_, h12_, z9_, e10_, h13_, rfl⟩)⟩)⟩⟩
def SP_X9_ears (b : Nat) (w : Nat) (Mz : mM) (r_ : Int32) : Prop := ∃ z1_ : Int32, (z1_ = Mz.1 (9, b, w) 0) ∧ (((z1_.toInt < 0) ∧ r_ = 0) ∨ ((0 ≤ z1_.toInt) ∧ (((8 ≤ z1_.toInt) ∧ r_ = 0) ∨ ((z1_.toInt < 8) ∧ ∃ j11_ : Nat, ((j11_ : Int) = z1_.toInt) ∧ ∃ z9_ : Int32, (z9_ = ([9, 9, 9, 9, 9, 9, 5, 9] : List Int32).getD j11_ 0) ∧ (5 ≤ z9_.toInt ∧ z9_.toInt ≤ 9) ∧ r_ = z9_))))
theorem lf_c_X9_ears_0 : 0 ≤ (0 : Int32).toInt ∧ (0 : Int32).toInt ≤ 9 := by have r9 := li_0; omega
theorem lf_c_X9_ears_4 (z9_ : Int32) (h13_ : 5 ≤ z9_.toInt ∧ z9_.toInt ≤ 9) : 0 ≤ z9_.toInt ∧ z9_.toInt ≤ 9 := by omega
set_option maxHeartbeats 4000000 in
set_option maxRecDepth 100000 in
theorem c_X9_ears (l : Launch) (G : va_G) (cy : Nat → ClassId) (ad : rf → Nat) (d : Nat) (b : Nat) (w : Nat) (Mz : mM) (hIz : Inv Mz) (hb : b < 3) (hw : w < 8) : WP CC l G cy ad yX9_ears cX9_ears 1 (some .int) d 0 [(0, vR (9, b, w))] [] Mz (fun r M' => Mz = M' ∧ (0 ≤ r.toInt ∧ r.toInt ≤ 9) ∧ SP_X9_ears b w Mz r) := by
  refine w_aload_n dX9_ears_0 rfl 0 rfl ?_
  refine w_getI fl_RX9_7 rfl rfl (ic_9 hb hw) dX9_ears_1 (fun z1_ e2_ => ?_)
  refine w_if_lt (tgt := 27) dX9_ears_4 (by decide) (rfl : z1_.toInt = z1_.toInt) (fun h3_ => ?_) (fun h3_ => ?_)
  · refine w_iconst (v := 0) dX9_ears_27 (by decide) ?_
    exact w_iret rfl dX9_ears_28 ⟨rfl, (lf_c_X9_ears_0 ), ⟨z1_, e2_, (Or.inl ⟨h3_, rfl⟩)⟩⟩
  · refine w_aload_n dX9_ears_7 rfl 0 rfl ?_
    refine w_getI fl_RX9_7 rfl rfl (ic_9 hb hw) dX9_ears_8 (fun z4_ e5_ => ?_)
    obtain rfl : z1_ = z4_ := e2_.trans e5_.symm
    refine w_bipush (v := 8) dX9_ears_11 (by decide) ?_
    refine w_icmp_ge (tgt := 27) dX9_ears_13 (by decide) (rfl : z1_.toInt = z1_.toInt) li_8 (fun h6_ => ?_) (fun h6_ => ?_)
    · refine w_iconst (v := 0) dX9_ears_27 (by decide) ?_
      exact w_iret rfl dX9_ears_28 ⟨rfl, (lf_c_X9_ears_0 ), ⟨z1_, e2_, (Or.inr ⟨h3_, (Or.inl ⟨h6_, rfl⟩)⟩)⟩⟩
    · refine w_gets (k := 2) rfl m_633 dX9_ears_16 ?_
      refine w_aload_n dX9_ears_19 rfl 0 rfl ?_
      refine w_getI fl_RX9_7 rfl rfl (ic_9 hb hw) dX9_ears_20 (fun z7_ e8_ => ?_)
      obtain rfl : z1_ = z7_ := e2_.trans e8_.symm
      refine w_iaT (k := 2) rfl (rfl : z1_.toInt = z1_.toInt) (lf_c_X9_kindAbove_0 z1_ h3_ h6_ ) dX9_ears_23 (fun j11_ h12_ z9_ e10_ => ?_)
      have h13_ : 5 ≤ z9_.toInt ∧ z9_.toInt ≤ 9 := by rw [e10_]; exact stb_2 j11_ (lf_c_X9_reach_3 z1_ j11_ h6_ h12_ )
      refine w_goto (tgt := 28) dX9_ears_24 (by decide) ?_
      exact w_iret rfl dX9_ears_28 ⟨rfl, (lf_c_X9_ears_4 z9_ h13_ ), ⟨z1_, e2_, (Or.inr ⟨h3_, (Or.inr ⟨h6_, j11_, h12_, z9_, e10_, h13_, rfl⟩)⟩)⟩⟩
def SP_X9_ownClick (b : Nat) (w : Nat) (Mz : mM) (r_ : Int32) : Prop := ∃ z1_ : Int32, (z1_ = Mz.1 (9, b, w) 3) ∧ ∃ z3_ : Int32, (z3_ = (100 : Int32) * z1_) ∧ ∃ z5_ : Int32, (z5_ = Mz.1 (9, b, w) 4) ∧ ∃ z7_ : Int32, (z7_ = z3_ + z5_) ∧ r_ = z7_
set_option maxHeartbeats 4000000 in
set_option maxRecDepth 100000 in
theorem c_X9_ownClick (l : Launch) (G : va_G) (cy : Nat → ClassId) (ad : rf → Nat) (d : Nat) (b : Nat) (w : Nat) (Mz : mM) (hIz : Inv Mz) (hb : b < 3) (hw : w < 8) : WP CC l G cy ad yX9_ownClick cX9_ownClick 1 (some .int) d 0 [(0, vR (9, b, w))] [] Mz (fun r M' => Mz = M' ∧ (True) ∧ SP_X9_ownClick b w Mz r) := by
  refine w_bipush (v := 100) dX9_ownClick_0 (by decide) ?_
  refine w_aload_n dX9_ownClick_2 rfl 0 rfl ?_
  refine w_getI fl_RX9_19 rfl rfl (ic_9 hb hw) dX9_ownClick_3 (fun z1_ e2_ => ?_)
  refine w_imul dX9_ownClick_6 (fun z3_ h4_ => ?_)
  refine w_aload_n dX9_ownClick_7 rfl 0 rfl ?_
  refine w_getI fl_RX9_22 rfl rfl (ic_9 hb hw) dX9_ownClick_8 (fun z5_ e6_ => ?_)
  refine w_iadd dX9_ownClick_11 (fun z7_ h8_ => ?_)
  exact w_iret rfl dX9_ownClick_12 ⟨rfl, trivial, ⟨z1_, e2_, z3_, h4_, z5_, e6_, z7_, h8_, rfl⟩⟩
def S_c_X9_begin (b : Nat) (w : Nat) : rf → Nat → Prop := fun c k => (c.1 = 9 ∧ c.2.1 = b ∧ c.2.2 = w ∧ k = 0) ∨ (c.1 = 9 ∧ c.2.1 = b ∧ c.2.2 = w ∧ k = 1) ∨ (c.1 = 9 ∧ c.2.1 = b ∧ c.2.2 = w ∧ k = 2) ∨ (c.1 = 9 ∧ c.2.1 = b ∧ c.2.2 = w ∧ k = 3) ∨ (c.1 = 9 ∧ c.2.1 = b ∧ c.2.2 = w ∧ k = 4) ∨ (c.1 = 9 ∧ c.2.1 = b ∧ c.2.2 = w ∧ k = 5) ∨ (c.1 = 9 ∧ c.2.1 = b ∧ c.2.2 = w ∧ k = 6) ∨ (c.1 = 9 ∧ c.2.1 = b ∧ c.2.2 = w ∧ k = 7) ∨ (c.1 = 9 ∧ c.2.1 = b ∧ c.2.2 = w ∧ k = 8) ∨ (c.1 = 40 ∧ c.2.1 = b ∧ c.2.2 = w) ∨ (c.1 = 41 ∧ c.2.1 = b ∧ c.2.2 = w) ∨ False
def ST_X9_begin_49 (b : Nat) (w : Nat) (Mz : mM) (v4_49 : Int32) (M_49 : mM) (v4_49y : Int32) (M_49y : mM) : Prop := (0 ≤ v4_49.toInt) ∧ (v4_49.toInt ≤ 192) ∧ (Inv M_49) ∧ (FR (S_c_X9_begin b w) Mz M_49) ∧ (v4_49.toInt < 192) ∧ ∃ j41_ : Nat, ((j41_ : Int) = v4_49.toInt) ∧ ∃ M39_ : mM, (M39_ = up M_49 (40, b, w) j41_ 0) ∧ ∃ j47_ : Nat, ((j47_ : Int) = v4_49.toInt) ∧ ∃ M45_ : mM, (M45_ = up M39_ (41, b, w) j47_ 0) ∧ ∃ z51_ : Int32, (z51_.toInt = v4_49.toInt + 1) ∧ v4_49y = z51_ ∧ M_49y = M45_
def SP_X9_begin (b : Nat) (w : Nat) (v : Int32) (u : Int32) (t : Int32) (Mz : mM) (M_ : mM) : Prop := ∃ M1_ : mM, (M1_ = up Mz (9, b, w) 0 v) ∧ ∃ M5_ : mM, (M5_ = up M1_ (9, b, w) 1 u) ∧ ∃ M9_ : mM, (M9_ = up M5_ (9, b, w) 2 t) ∧ ∃ M13_ : mM, (M13_ = up M9_ (9, b, w) 3 5) ∧ ∃ M17_ : mM, (M17_ = up M13_ (9, b, w) 4 60) ∧ ∃ M21_ : mM, (M21_ = up M17_ (9, b, w) 5 0) ∧ ∃ M25_ : mM, (M25_ = up M21_ (9, b, w) 6 0) ∧ ∃ M29_ : mM, (M29_ = up M25_ (9, b, w) 7 0) ∧ ∃ M33_ : mM, (M33_ = up M29_ (9, b, w) 8 0) ∧ ∃ v4_49 : Int32, (0 ≤ v4_49.toInt) ∧ (v4_49.toInt ≤ 192) ∧ ∃ M_49 : mM, (RCH (fun x_ y_ => ST_X9_begin_49 b w Mz x_.1 x_.2 y_.1 y_.2) ((0 : Int32), M33_) (v4_49, M_49)) ∧ (Inv M_49) ∧ (FR (S_c_X9_begin b w) Mz M_49) ∧ (192 ≤ v4_49.toInt) ∧ M_ = M_49
theorem lf_c_X9_begin_0 (v4_49 : Int32) (hv0_49 : 0 ≤ v4_49.toInt) (h38_ : v4_49.toInt < 192) : 0 ≤ v4_49.toInt ∧ v4_49.toInt < ((192 : Nat) : Int) := by omega
theorem lf_c_X9_begin_2 (v4_49 : Int32) (hv0_49 : 0 ≤ v4_49.toInt) (h38_ : v4_49.toInt < 192) : -2147483648 ≤ v4_49.toInt + 1 ∧ v4_49.toInt + 1 < 2147483648 := by omega
theorem lf_c_X9_begin_4 (v4_49 : Int32) (z51_ : Int32) (h38_ : v4_49.toInt < 192) (h52_ : z51_.toInt = v4_49.toInt + 1) : z51_.toInt ≤ 192 := by omega
theorem lf_c_X9_begin_5 (v4_49 : Int32) (z51_ : Int32) (h38_ : v4_49.toInt < 192) (h52_ : z51_.toInt = v4_49.toInt + 1) : (2147483648 - z51_.toInt).toNat < (2147483648 - v4_49.toInt).toNat := by omega
theorem lf_c_X9_begin_7 : (0 : Int32).toInt ≤ 192 := by have q0 := li_0; omega
set_option maxHeartbeats 4000000 in
set_option maxRecDepth 100000 in
theorem c_X9_begin (l : Launch) (G : va_G) (cy : Nat → ClassId) (ad : rf → Nat) (d : Nat) (b : Nat) (w : Nat) (v : Int32) (u : Int32) (t : Int32) (Mz : mM) (hIz : Inv Mz) (hb : b < 3) (hw : w < 8) : WP CC l G cy ad yX9_begin cX9_begin 5 none d 0 [(0, vR (9, b, w)), (1, vI v), (2, vI u), (3, vI t)] [] Mz (fun r M' => Inv M' ∧ FR (S_c_X9_begin b w) Mz M' ∧ (True) ∧ SP_X9_begin b w v u t Mz M') := by
  have hFz : FR (S_c_X9_begin b w) Mz Mz := FR.self
  refine w_aload_n dX9_begin_0 rfl 0 rfl ?_
  refine w_iload_n dX9_begin_1 rfl 1 rfl ?_
  refine w_putI CC_nd fl_RX9_7 rfl rfl (ic_9 hb hw) dX9_begin_2 (fun M1_ hM2_ => ?_)
  have hI3_ := hIz.put hM2_ (fun h => absurd h (by decide))
  have hF4_ := hFz.put hM2_ (Or.inl ⟨rfl, rfl, rfl, rfl⟩)
  refine w_aload_n dX9_begin_5 rfl 0 rfl ?_
  refine w_iload_n dX9_begin_6 rfl 2 rfl ?_
  refine w_putI CC_nd fl_RX9_13 rfl rfl (ic_9 hb hw) dX9_begin_7 (fun M5_ hM6_ => ?_)
  have hI7_ := hI3_.put hM6_ (fun h => absurd h (by decide))
  have hF8_ := hF4_.put hM6_ (Or.inr (Or.inl ⟨rfl, rfl, rfl, rfl⟩))
  refine w_aload_n dX9_begin_10 rfl 0 rfl ?_
  refine w_iload_n dX9_begin_11 rfl 3 rfl ?_
  refine w_putI CC_nd fl_RX9_16 rfl rfl (ic_9 hb hw) dX9_begin_12 (fun M9_ hM10_ => ?_)
  have hI11_ := hI7_.put hM10_ (fun h => absurd h (by decide))
  have hF12_ := hF8_.put hM10_ (Or.inr (Or.inr (Or.inl ⟨rfl, rfl, rfl, rfl⟩)))
  refine w_aload_n dX9_begin_15 rfl 0 rfl ?_
  refine w_iconst (v := 5) dX9_begin_16 (by decide) ?_
  refine w_putI CC_nd fl_RX9_19 rfl rfl (ic_9 hb hw) dX9_begin_17 (fun M13_ hM14_ => ?_)
  have hI15_ := hI11_.put hM14_ (fun h => absurd h (by decide))
  have hF16_ := hF12_.put hM14_ (Or.inr (Or.inr (Or.inr (Or.inl ⟨rfl, rfl, rfl, rfl⟩))))
  refine w_aload_n dX9_begin_20 rfl 0 rfl ?_
  refine w_bipush (v := 60) dX9_begin_21 (by decide) ?_
  refine w_putI CC_nd fl_RX9_22 rfl rfl (ic_9 hb hw) dX9_begin_23 (fun M17_ hM18_ => ?_)
  have hI19_ := hI15_.put hM18_ (fun h => absurd h (by decide))
  have hF20_ := hF16_.put hM18_ (Or.inr (Or.inr (Or.inr (Or.inr (Or.inl ⟨rfl, rfl, rfl, rfl⟩)))))
  refine w_aload_n dX9_begin_26 rfl 0 rfl ?_
  refine w_iconst (v := 0) dX9_begin_27 (by decide) ?_
  refine w_putI CC_nd fl_RX9_25 rfl rfl (ic_9 hb hw) dX9_begin_28 (fun M21_ hM22_ => ?_)
  have hI23_ := hI19_.put hM22_ (fun h => absurd h (by decide))
  have hF24_ := hF20_.put hM22_ (Or.inr (Or.inr (Or.inr (Or.inr (Or.inr (Or.inl ⟨rfl, rfl, rfl, rfl⟩))))))
  refine w_aload_n dX9_begin_31 rfl 0 rfl ?_
  refine w_iconst (v := 0) dX9_begin_32 (by decide) ?_
  refine w_putZ CC_nd fl_RX9_28 rfl rfl (ic_9 hb hw) ⟨by decide, by decide⟩ dX9_begin_33 (fun M25_ hM26_ => ?_)
  have hI27_ := hI23_.put hM26_ (fun _ => ⟨by decide, by decide⟩)
  have hF28_ := hF24_.put hM26_ (Or.inr (Or.inr (Or.inr (Or.inr (Or.inr (Or.inr (Or.inl ⟨rfl, rfl, rfl, rfl⟩)))))))
  refine w_aload_n dX9_begin_36 rfl 0 rfl ?_
  refine w_iconst (v := 0) dX9_begin_37 (by decide) ?_
  refine w_putI CC_nd fl_RX9_32 rfl rfl (ic_9 hb hw) dX9_begin_38 (fun M29_ hM30_ => ?_)
  have hI31_ := hI27_.put hM30_ (fun h => absurd h (by decide))
  have hF32_ := hF28_.put hM30_ (Or.inr (Or.inr (Or.inr (Or.inr (Or.inr (Or.inr (Or.inr (Or.inl ⟨rfl, rfl, rfl, rfl⟩))))))))
  refine w_aload_n dX9_begin_41 rfl 0 rfl ?_
  refine w_iconst (v := 0) dX9_begin_42 (by decide) ?_
  refine w_putI CC_nd fl_RX9_35 rfl rfl (ic_9 hb hw) dX9_begin_43 (fun M33_ hM34_ => ?_)
  have hI35_ := hI31_.put hM34_ (fun h => absurd h (by decide))
  have hF36_ := hF32_.put hM34_ (Or.inr (Or.inr (Or.inr (Or.inr (Or.inr (Or.inr (Or.inr (Or.inr (Or.inl ⟨rfl, rfl, rfl, rfl⟩)))))))))
  refine w_iconst (v := 0) dX9_begin_46 (by decide) ?_
  refine w_istore (ls' := [(4, vI 0), (0, vR (9, b, w)), (1, vI v), (2, vI u), (3, vI t)]) dX9_begin_47 (by decide) rfl ?_
  have lp37_ : ∀ (nn_49 : Nat) (M_49 : mM) (hI_49 : Inv M_49) (hF_49 : FR (S_c_X9_begin b w) Mz M_49) (v4_49 : Int32) (hv0_49 : 0 ≤ v4_49.toInt) (hv1_49 : v4_49.toInt ≤ 192) (hL_49 : RCH (fun x_ y_ => ST_X9_begin_49 b w Mz x_.1 x_.2 y_.1 y_.2) ((0 : Int32), M33_) (v4_49, M_49)), (2147483648 - v4_49.toInt).toNat < nn_49 → WP CC l G cy ad yX9_begin cX9_begin 5 none d 49 [(4, vI v4_49), (0, vR (9, b, w)), (1, vI v), (2, vI u), (3, vI t)] [] M_49 (fun r M' => Inv M' ∧ FR (S_c_X9_begin b w) Mz M' ∧ (True) ∧ SP_X9_begin b w v u t Mz M') := by
    intro nn_49
    induction nn_49 with
    | zero => intro M_49 hI_49 hF_49 v4_49 hv0_49 hv1_49 hL_49 hm_49; exact absurd hm_49 (Nat.not_lt_zero _)
    | succ nn_49 ih_49 =>
      intro M_49 hI_49 hF_49 v4_49 hv0_49 hv1_49 hL_49 hm_49
      refine w_iload dX9_begin_49 0 rfl ?_
      refine w_sipush (v := 192) dX9_begin_51 (by decide) ?_
      refine w_icmp_ge (tgt := 79) dX9_begin_54 (by decide) (rfl : v4_49.toInt = v4_49.toInt) li_192 (fun h38_ => ?_) (fun h38_ => ?_)
      · exact w_vret rfl dX9_begin_79 ⟨hI_49, hF_49, trivial, ⟨M1_, hM2_, M5_, hM6_, M9_, hM10_, M13_, hM14_, M17_, hM18_, M21_, hM22_, M25_, hM26_, M29_, hM30_, M33_, hM34_, v4_49, hv0_49, hv1_49, M_49, hL_49, hI_49, hF_49, h38_, rfl⟩⟩
      · refine w_aload_n dX9_begin_57 rfl 1 rfl ?_
        refine w_getR (c' := (40, b, w)) fl_RX9_40 rfl rfl (ic_9 hb hw) dX9_begin_58 rfl ?_
        refine w_iload dX9_begin_61 0 rfl ?_
        refine w_iconst (v := 0) dX9_begin_63 (by decide) ?_
        refine w_iast CC_nd rfl rfl (ic_40 hb hw) (rfl : v4_49.toInt = v4_49.toInt) (lf_c_X9_begin_0 v4_49 hv0_49 h38_ ) dX9_begin_64 (fun j41_ h42_ M39_ hM40_ => ?_)
        have hI43_ := hI_49.put hM40_ trivial
        have hF44_ := hF_49.put hM40_ (Or.inr (Or.inr (Or.inr (Or.inr (Or.inr (Or.inr (Or.inr (Or.inr (Or.inr (Or.inl ⟨rfl, rfl, rfl⟩))))))))))
        refine w_aload_n dX9_begin_65 rfl 1 rfl ?_
        refine w_getR (c' := (41, b, w)) fl_RX9_44 rfl rfl (ic_9 hb hw) dX9_begin_66 rfl ?_
        refine w_iload dX9_begin_69 0 rfl ?_
        refine w_iconst (v := 0) dX9_begin_71 (by decide) ?_
        refine w_iast CC_nd rfl rfl (ic_41 hb hw) (rfl : v4_49.toInt = v4_49.toInt) (lf_c_X9_begin_0 v4_49 hv0_49 h38_ ) dX9_begin_72 (fun j47_ h48_ M45_ hM46_ => ?_)
        have hI49_ := hI43_.put hM46_ trivial
        have hF50_ := hF44_.put hM46_ (Or.inr (Or.inr (Or.inr (Or.inr (Or.inr (Or.inr (Or.inr (Or.inr (Or.inr (Or.inr (Or.inl ⟨rfl, rfl, rfl⟩)))))))))))
        refine w_iincB (j := 0) (f := fun z51_ => [(4, vI z51_), (0, vR (9, b, w)), (1, vI v), (2, vI u), (3, vI t)]) dX9_begin_73 rfl (by decide) (fun _ => rfl) (rfl : v4_49.toInt = v4_49.toInt) li_1 (lf_c_X9_begin_2 v4_49 hv0_49 h38_ ) (fun z51_ h52_ => ?_)
        refine w_goto (tgt := 49) dX9_begin_76 (by decide) ?_
        refine w_loc (ls' := [(4, vI z51_), (0, vR (9, b, w)), (1, vI v), (2, vI u), (3, vI t)]) [0, 1, 2, 3, 4] rfl ?_
        exact ih_49 M45_ hI49_ hF50_ z51_ (lf_c_X5_takeFrom_3 v4_49 z51_ hv0_49 h52_ ) (lf_c_X9_begin_4 v4_49 z51_ h38_ h52_ ) (RCH.tail hL_49 ⟨hv0_49, hv1_49, hI_49, hF_49, h38_, j41_, h42_, M39_, hM40_, j47_, h48_, M45_, hM46_, z51_, h52_, rfl, rfl⟩) (Nat.lt_of_lt_of_le (lf_c_X9_begin_5 v4_49 z51_ h38_ h52_ ) (Nat.le_of_lt_succ hm_49))
  exact lp37_ _ M33_ hI35_ hF36_ 0 (lf_c_X5_takeFrom_5 ) (lf_c_X9_begin_7 ) RCH.refl (Nat.lt_succ_self _)
def ST_X9_isOf_7 (v : Int32) (Mz : mM) (v3_7 : Int32) (v2_7 : Int32) (v3_7y : Int32) (v2_7y : Int32) : Prop := (0 ≤ v3_7.toInt) ∧ (v3_7.toInt ≤ 8) ∧ (v3_7.toInt < 8) ∧ (0 ≤ v2_7.toInt) ∧ (¬ v2_7.toInt = v.toInt) ∧ ∃ r7_ : Int32, (SP_X9_kindAbove v2_7 Mz r7_) ∧ ∃ z12_ : Int32, (z12_.toInt = v3_7.toInt + 1) ∧ v3_7y = z12_ ∧ v2_7y = r7_
def SP_X9_isOf (b : Nat) (w : Nat) (v : Int32) (Mz : mM) (r_ : Int32) : Prop := ∃ z1_ : Int32, (z1_ = Mz.1 (9, b, w) 0) ∧ ∃ v3_7 : Int32, (0 ≤ v3_7.toInt) ∧ (v3_7.toInt ≤ 8) ∧ ∃ v2_7 : Int32, (RCH (fun x_ y_ => ST_X9_isOf_7 v Mz x_.1 x_.2 y_.1 y_.2) ((0 : Int32), z1_) (v3_7, v2_7)) ∧ (((8 ≤ v3_7.toInt) ∧ r_ = 0) ∨ ((v3_7.toInt < 8) ∧ (((v2_7.toInt < 0) ∧ r_ = 0) ∨ ((0 ≤ v2_7.toInt) ∧ (v2_7.toInt = v.toInt) ∧ r_ = 1))))
theorem lf_c_X9_isOf_0 (v3_7 : Int32) (hv0_7 : 0 ≤ v3_7.toInt) (h4_ : v3_7.toInt < 8) : -2147483648 ≤ v3_7.toInt + 1 ∧ v3_7.toInt + 1 < 2147483648 := by omega
theorem lf_c_X9_isOf_2 (v3_7 : Int32) (z12_ : Int32) (h4_ : v3_7.toInt < 8) (h13_ : z12_.toInt = v3_7.toInt + 1) : z12_.toInt ≤ 8 := by omega
theorem lf_c_X9_isOf_3 (v3_7 : Int32) (z12_ : Int32) (h4_ : v3_7.toInt < 8) (h13_ : z12_.toInt = v3_7.toInt + 1) : (2147483648 - z12_.toInt).toNat < (2147483648 - v3_7.toInt).toNat := by omega
theorem lf_c_X9_isOf_5 : (0 : Int32).toInt ≤ 8 := by have q0 := li_0; omega
set_option maxHeartbeats 4000000 in
set_option maxRecDepth 100000 in
theorem c_X9_isOf (l : Launch) (G : va_G) (cy : Nat → ClassId) (ad : rf → Nat) (d : Nat) (b : Nat) (w : Nat) (v : Int32) (Mz : mM) (hIz : Inv Mz) (hb : b < 3) (hw : w < 8) : WP CC l G cy ad yX9_isOf cX9_isOf 4 (some .boolean) (d + 1) 0 [(0, vR (9, b, w)), (1, vI v)] [] Mz (fun r M' => Mz = M' ∧ ((0 ≤ r.toInt ∧ r.toInt ≤ 1)) ∧ SP_X9_isOf b w v Mz r) := by
  refine w_aload_n dX9_isOf_0 rfl 0 rfl ?_
  refine w_getI fl_RX9_7 rfl rfl (ic_9 hb hw) dX9_isOf_1 (fun z1_ e2_ => ?_)
  refine w_istore_n (ls' := [(2, vI z1_), (0, vR (9, b, w)), (1, vI v)]) dX9_isOf_4 rfl (by decide) rfl ?_
  refine w_iconst (v := 0) dX9_isOf_5 (by decide) ?_
  refine w_istore_n (ls' := [(3, vI 0), (2, vI z1_), (0, vR (9, b, w)), (1, vI v)]) dX9_isOf_6 rfl (by decide) rfl ?_
  have lp3_ : ∀ (nn_7 : Nat) (v3_7 : Int32) (v2_7 : Int32) (hv0_7 : 0 ≤ v3_7.toInt) (hv1_7 : v3_7.toInt ≤ 8) (hL_7 : RCH (fun x_ y_ => ST_X9_isOf_7 v Mz x_.1 x_.2 y_.1 y_.2) ((0 : Int32), z1_) (v3_7, v2_7)), (2147483648 - v3_7.toInt).toNat < nn_7 → WP CC l G cy ad yX9_isOf cX9_isOf 4 (some .boolean) (d + 1) 7 [(3, vI v3_7), (2, vI v2_7), (0, vR (9, b, w)), (1, vI v)] [] Mz (fun r M' => Mz = M' ∧ ((0 ≤ r.toInt ∧ r.toInt ≤ 1)) ∧ SP_X9_isOf b w v Mz r) := by
    intro nn_7
    induction nn_7 with
    | zero => intro v3_7 v2_7 hv0_7 hv1_7 hL_7 hm_7; exact absurd hm_7 (Nat.not_lt_zero _)
    | succ nn_7 ih_7 =>
      intro v3_7 v2_7 hv0_7 hv1_7 hL_7 hm_7
      refine w_iload_n dX9_isOf_7 rfl 0 rfl ?_
      refine w_bipush (v := 8) dX9_isOf_8 (by decide) ?_
      refine w_icmp_ge (tgt := 35) dX9_isOf_10 (by decide) (rfl : v3_7.toInt = v3_7.toInt) li_8 (fun h4_ => ?_) (fun h4_ => ?_)
      · refine w_iconst (v := 0) dX9_isOf_35 (by decide) ?_
        exact w_zret rfl dX9_isOf_36 ⟨by decide, by decide⟩ ⟨rfl, ⟨by decide, by decide⟩, ⟨z1_, e2_, v3_7, hv0_7, hv1_7, v2_7, hL_7, (Or.inl ⟨h4_, rfl⟩)⟩⟩
      · refine w_iload_n dX9_isOf_13 rfl 1 rfl ?_
        refine w_if_lt (tgt := 35) dX9_isOf_14 (by decide) (rfl : v2_7.toInt = v2_7.toInt) (fun h5_ => ?_) (fun h5_ => ?_)
        · refine w_iconst (v := 0) dX9_isOf_35 (by decide) ?_
          exact w_zret rfl dX9_isOf_36 ⟨by decide, by decide⟩ ⟨rfl, ⟨by decide, by decide⟩, ⟨z1_, e2_, v3_7, hv0_7, hv1_7, v2_7, hL_7, (Or.inr ⟨h4_, (Or.inl ⟨h5_, rfl⟩)⟩)⟩⟩
        · refine w_iload_n dX9_isOf_17 rfl 1 rfl ?_
          refine w_iload_n dX9_isOf_18 rfl 3 rfl ?_
          refine w_icmp_ne (tgt := 24) dX9_isOf_19 (by decide) (rfl : v2_7.toInt = v2_7.toInt) (rfl : v.toInt = v.toInt) (fun h6_ => ?_) (fun h6_ => ?_)
          · refine w_iload_n dX9_isOf_24 rfl 1 rfl ?_
            refine w_callS (as := [vI v2_7]) (rest := []) (c_X9_kindAbove l G cy ad d v2_7 Mz hIz) kS_X9_kindAbove pnn_3 (Nat.le_of_ble_eq_true rfl) m_643 rfl rfl (by decide) (Nat.le_of_ble_eq_true rfl) dX9_isOf_25 (fun r7_ M8_ q9_ => ?_)
            obtain ⟨rfl, h10_, hs11_⟩ := q9_
            refine w_istore_n (ls' := [(2, vI r7_), (3, vI v3_7), (0, vR (9, b, w)), (1, vI v)]) dX9_isOf_28 rfl (by decide) rfl ?_
            refine w_iincB (j := 1) (f := fun z12_ => [(3, vI z12_), (2, vI r7_), (0, vR (9, b, w)), (1, vI v)]) dX9_isOf_29 rfl (by decide) (fun _ => rfl) (rfl : v3_7.toInt = v3_7.toInt) li_1 (lf_c_X9_isOf_0 v3_7 hv0_7 h4_ ) (fun z12_ h13_ => ?_)
            refine w_goto (tgt := 7) dX9_isOf_32 (by decide) ?_
            refine w_loc (ls' := [(3, vI z12_), (2, vI r7_), (0, vR (9, b, w)), (1, vI v)]) [0, 1, 2, 3] rfl ?_
            exact ih_7 z12_ r7_ (lf_c_X5_takeFrom_3 v3_7 z12_ hv0_7 h13_ ) (lf_c_X9_isOf_2 v3_7 z12_ h4_ h13_ ) (RCH.tail hL_7 ⟨hv0_7, hv1_7, h4_, h5_, h6_, r7_, hs11_, z12_, h13_, rfl, rfl⟩) (Nat.lt_of_lt_of_le (lf_c_X9_isOf_3 v3_7 z12_ h4_ h13_ ) (Nat.le_of_lt_succ hm_7))
          · refine w_iconst (v := 1) dX9_isOf_22 (by decide) ?_
            exact w_zret rfl dX9_isOf_23 ⟨by decide, by decide⟩ ⟨rfl, ⟨by decide, by decide⟩, ⟨z1_, e2_, v3_7, hv0_7, hv1_7, v2_7, hL_7, (Or.inr ⟨h4_, (Or.inr ⟨h5_, h6_, rfl⟩)⟩)⟩⟩
  exact lp3_ _ 0 z1_ (lf_c_X5_takeFrom_5 ) (lf_c_X9_isOf_5 ) RCH.refl (Nat.lt_succ_self _)
def SP_X9_factOf (b : Nat) (w : Nat) (v : Int32) (Mz : mM) (r_ : Int32) : Prop := (((v.toInt = 0) ∧ ∃ z2_ : Int32, (z2_ = Mz.1 (9, b, w) 0) ∧ r_ = z2_) ∨ ((v.toInt = 1) ∧ ∃ z4_ : Int32, (z4_ = Mz.1 (9, b, w) 1) ∧ r_ = z4_) ∨ ((v.toInt = 2) ∧ ∃ z6_ : Int32, (z6_ = Mz.1 (9, b, w) 2) ∧ r_ = z6_) ∨ ((v.toInt = 3) ∧ ∃ z8_ : Int32, (z8_ = Mz.1 (9, b, w) 3) ∧ r_ = z8_) ∨ ((v.toInt = 4) ∧ ∃ z10_ : Int32, (z10_ = Mz.1 (9, b, w) 4) ∧ r_ = z10_) ∨ ((v.toInt = 5) ∧ ∃ z12_ : Int32, (z12_ = Mz.1 (9, b, w) 5) ∧ r_ = z12_) ∨ ((v.toInt = 6) ∧ ∃ z14_ : Int32, (z14_ = Mz.1 (9, b, w) 6) ∧ (0 ≤ z14_.toInt ∧ z14_.toInt ≤ 1) ∧ (((z14_.toInt = 0) ∧ r_ = 0) ∨ ((¬ z14_.toInt = 0) ∧ r_ = 1))) ∨ ((v.toInt = 7) ∧ ∃ z18_ : Int32, (z18_ = Mz.1 (9, b, w) 7) ∧ r_ = z18_) ∨ ((v.toInt = 8) ∧ ∃ z20_ : Int32, (z20_ = Mz.1 (9, b, w) 8) ∧ r_ = z20_) ∨ ((v.toInt = 9) ∧ ∃ r22_ : Int32, (SP_X9_reach b w Mz r22_) ∧ (0 ≤ r22_.toInt ∧ r22_.toInt ≤ 12) ∧ r_ = r22_) ∨ ((v.toInt = 10) ∧ ∃ r27_ : Int32, (SP_X9_speed b w Mz r27_) ∧ (0 ≤ r27_.toInt ∧ r27_.toInt ≤ 2) ∧ r_ = r27_) ∨ (((¬ v.toInt = 0 ∧ ¬ v.toInt = 1 ∧ ¬ v.toInt = 2 ∧ ¬ v.toInt = 3 ∧ ¬ v.toInt = 4 ∧ ¬ v.toInt = 5 ∧ ¬ v.toInt = 6 ∧ ¬ v.toInt = 7 ∧ ¬ v.toInt = 8 ∧ ¬ v.toInt = 9 ∧ ¬ v.toInt = 10)) ∧ ∃ r32_ : Int32, (SP_X9_ears b w Mz r32_) ∧ (0 ≤ r32_.toInt ∧ r32_.toInt ≤ 9) ∧ r_ = r32_))
theorem lf_c_X9_factOf_0 (v : Int32) : v.toInt = 0 ∨ v.toInt = 1 ∨ v.toInt = 2 ∨ v.toInt = 3 ∨ v.toInt = 4 ∨ v.toInt = 5 ∨ v.toInt = 6 ∨ v.toInt = 7 ∨ v.toInt = 8 ∨ v.toInt = 9 ∨ v.toInt = 10 ∨ (¬ v.toInt = 0 ∧ ¬ v.toInt = 1 ∧ ¬ v.toInt = 2 ∧ ¬ v.toInt = 3 ∧ ¬ v.toInt = 4 ∧ ¬ v.toInt = 5 ∧ ¬ v.toInt = 6 ∧ ¬ v.toInt = 7 ∧ ¬ v.toInt = 8 ∧ ¬ v.toInt = 9 ∧ ¬ v.toInt = 10) := by have r_v := rngI v; omega
theorem lf_c_X9_factOf_1 (v : Int32) (e1_ : (¬ v.toInt = 0 ∧ ¬ v.toInt = 1 ∧ ¬ v.toInt = 2 ∧ ¬ v.toInt = 3 ∧ ¬ v.toInt = 4 ∧ ¬ v.toInt = 5 ∧ ¬ v.toInt = 6 ∧ ¬ v.toInt = 7 ∧ ¬ v.toInt = 8 ∧ ¬ v.toInt = 9 ∧ ¬ v.toInt = 10)) : v.toInt < 0 ∨ 10 < v.toInt := by have r_v := rngI v; omega
set_option maxHeartbeats 4000000 in
set_option maxRecDepth 100000 in
theorem c_X9_factOf (l : Launch) (G : va_G) (cy : Nat → ClassId) (ad : rf → Nat) (d : Nat) (b : Nat) (w : Nat) (v : Int32) (Mz : mM) (hIz : Inv Mz) (hb : b < 3) (hw : w < 8) : WP CC l G cy ad yX9_factOf cX9_factOf 2 (some .int) (d + 1) 0 [(0, vR (9, b, w)), (1, vI v)] [] Mz (fun r M' => Mz = M' ∧ (True) ∧ SP_X9_factOf b w v Mz r) := by
  refine w_iload_n dX9_factOf_0 rfl 1 rfl ?_
  rcases (lf_c_X9_factOf_0 v ) with e1_ | e1_ | e1_ | e1_ | e1_ | e1_ | e1_ | e1_ | e1_ | e1_ | e1_ | e1_
  · refine w_tsIn (tgt := 60) (off := 59) dX9_factOf_1 e1_ (by decide) (by decide) rfl (by decide) ?_
    refine w_aload_n dX9_factOf_60 rfl 0 rfl ?_
    refine w_getI fl_RX9_7 rfl rfl (ic_9 hb hw) dX9_factOf_61 (fun z2_ e3_ => ?_)
    exact w_iret rfl dX9_factOf_64 ⟨rfl, trivial, (Or.inl ⟨e1_, z2_, e3_, rfl⟩)⟩
  · refine w_tsIn (tgt := 65) (off := 64) dX9_factOf_1 e1_ (by decide) (by decide) rfl (by decide) ?_
    refine w_aload_n dX9_factOf_65 rfl 0 rfl ?_
    refine w_getI fl_RX9_13 rfl rfl (ic_9 hb hw) dX9_factOf_66 (fun z4_ e5_ => ?_)
    exact w_iret rfl dX9_factOf_69 ⟨rfl, trivial, (Or.inr (Or.inl ⟨e1_, z4_, e5_, rfl⟩))⟩
  · refine w_tsIn (tgt := 70) (off := 69) dX9_factOf_1 e1_ (by decide) (by decide) rfl (by decide) ?_
    refine w_aload_n dX9_factOf_70 rfl 0 rfl ?_
    refine w_getI fl_RX9_16 rfl rfl (ic_9 hb hw) dX9_factOf_71 (fun z6_ e7_ => ?_)
    exact w_iret rfl dX9_factOf_74 ⟨rfl, trivial, (Or.inr (Or.inr (Or.inl ⟨e1_, z6_, e7_, rfl⟩)))⟩
  · refine w_tsIn (tgt := 75) (off := 74) dX9_factOf_1 e1_ (by decide) (by decide) rfl (by decide) ?_
    refine w_aload_n dX9_factOf_75 rfl 0 rfl ?_
    refine w_getI fl_RX9_19 rfl rfl (ic_9 hb hw) dX9_factOf_76 (fun z8_ e9_ => ?_)
    exact w_iret rfl dX9_factOf_79 ⟨rfl, trivial, (Or.inr (Or.inr (Or.inr (Or.inl ⟨e1_, z8_, e9_, rfl⟩))))⟩
  · refine w_tsIn (tgt := 80) (off := 79) dX9_factOf_1 e1_ (by decide) (by decide) rfl (by decide) ?_
    refine w_aload_n dX9_factOf_80 rfl 0 rfl ?_
    refine w_getI fl_RX9_22 rfl rfl (ic_9 hb hw) dX9_factOf_81 (fun z10_ e11_ => ?_)
    exact w_iret rfl dX9_factOf_84 ⟨rfl, trivial, (Or.inr (Or.inr (Or.inr (Or.inr (Or.inl ⟨e1_, z10_, e11_, rfl⟩)))))⟩
  · refine w_tsIn (tgt := 85) (off := 84) dX9_factOf_1 e1_ (by decide) (by decide) rfl (by decide) ?_
    refine w_aload_n dX9_factOf_85 rfl 0 rfl ?_
    refine w_getI fl_RX9_25 rfl rfl (ic_9 hb hw) dX9_factOf_86 (fun z12_ e13_ => ?_)
    exact w_iret rfl dX9_factOf_89 ⟨rfl, trivial, (Or.inr (Or.inr (Or.inr (Or.inr (Or.inr (Or.inl ⟨e1_, z12_, e13_, rfl⟩))))))⟩
  · refine w_tsIn (tgt := 90) (off := 89) dX9_factOf_1 e1_ (by decide) (by decide) rfl (by decide) ?_
    refine w_aload_n dX9_factOf_90 rfl 0 rfl ?_
    refine w_getI fl_RX9_28 rfl rfl (ic_9 hb hw) dX9_factOf_91 (fun z14_ e15_ => ?_)
    have h16_ : 0 ≤ z14_.toInt ∧ z14_.toInt ≤ 1 := ofEq (P := fun v => 0 ≤ v.toInt ∧ v.toInt ≤ 1) e15_ (hIz (9, b, w) 6 rfl)
    refine w_if_eq (tgt := 101) dX9_factOf_94 (by decide) (rfl : z14_.toInt = z14_.toInt) (fun h17_ => ?_) (fun h17_ => ?_)
    · refine w_iconst (v := 0) dX9_factOf_101 (by decide) ?_
      exact w_iret rfl dX9_factOf_102 ⟨rfl, trivial, (Or.inr (Or.inr (Or.inr (Or.inr (Or.inr (Or.inr (Or.inl ⟨e1_, z14_, e15_, h16_, (Or.inl ⟨h17_, rfl⟩)⟩)))))))⟩
    · refine w_iconst (v := 1) dX9_factOf_97 (by decide) ?_
      refine w_goto (tgt := 102) dX9_factOf_98 (by decide) ?_
      exact w_iret rfl dX9_factOf_102 ⟨rfl, trivial, (Or.inr (Or.inr (Or.inr (Or.inr (Or.inr (Or.inr (Or.inl ⟨e1_, z14_, e15_, h16_, (Or.inr ⟨h17_, rfl⟩)⟩)))))))⟩
  · refine w_tsIn (tgt := 103) (off := 102) dX9_factOf_1 e1_ (by decide) (by decide) rfl (by decide) ?_
    refine w_aload_n dX9_factOf_103 rfl 0 rfl ?_
    refine w_getI fl_RX9_32 rfl rfl (ic_9 hb hw) dX9_factOf_104 (fun z18_ e19_ => ?_)
    exact w_iret rfl dX9_factOf_107 ⟨rfl, trivial, (Or.inr (Or.inr (Or.inr (Or.inr (Or.inr (Or.inr (Or.inr (Or.inl ⟨e1_, z18_, e19_, rfl⟩))))))))⟩
  · refine w_tsIn (tgt := 108) (off := 107) dX9_factOf_1 e1_ (by decide) (by decide) rfl (by decide) ?_
    refine w_aload_n dX9_factOf_108 rfl 0 rfl ?_
    refine w_getI fl_RX9_35 rfl rfl (ic_9 hb hw) dX9_factOf_109 (fun z20_ e21_ => ?_)
    exact w_iret rfl dX9_factOf_112 ⟨rfl, trivial, (Or.inr (Or.inr (Or.inr (Or.inr (Or.inr (Or.inr (Or.inr (Or.inr (Or.inl ⟨e1_, z20_, e21_, rfl⟩)))))))))⟩
  · refine w_tsIn (tgt := 113) (off := 112) dX9_factOf_1 e1_ (by decide) (by decide) rfl (by decide) ?_
    refine w_aload_n dX9_factOf_113 rfl 0 rfl ?_
    refine w_callV (as := []) (rest := []) (c_X9_reach l G cy ad d b w Mz hIz hb hw) kV_X9_reach pnn_3 (Nat.le_of_ble_eq_true rfl) m_617 rfl rfl rfl (ic_9 hb hw) rfl rfl (by decide) (Nat.le_of_ble_eq_true rfl) dX9_factOf_114 (fun r22_ M23_ q24_ => ?_)
    obtain ⟨rfl, h25_, hs26_⟩ := q24_
    exact w_iret rfl dX9_factOf_117 ⟨rfl, trivial, (Or.inr (Or.inr (Or.inr (Or.inr (Or.inr (Or.inr (Or.inr (Or.inr (Or.inr (Or.inl ⟨e1_, r22_, hs26_, h25_, rfl⟩))))))))))⟩
  · refine w_tsIn (tgt := 118) (off := 117) dX9_factOf_1 e1_ (by decide) (by decide) rfl (by decide) ?_
    refine w_aload_n dX9_factOf_118 rfl 0 rfl ?_
    refine w_callV (as := []) (rest := []) (c_X9_speed l G cy ad d b w Mz hIz hb hw) kV_X9_speed pnn_3 (Nat.le_of_ble_eq_true rfl) m_623 rfl rfl rfl (ic_9 hb hw) rfl rfl (by decide) (Nat.le_of_ble_eq_true rfl) dX9_factOf_119 (fun r27_ M28_ q29_ => ?_)
    obtain ⟨rfl, h30_, hs31_⟩ := q29_
    exact w_iret rfl dX9_factOf_122 ⟨rfl, trivial, (Or.inr (Or.inr (Or.inr (Or.inr (Or.inr (Or.inr (Or.inr (Or.inr (Or.inr (Or.inr (Or.inl ⟨e1_, r27_, hs31_, h30_, rfl⟩)))))))))))⟩
  · refine w_tsOut (tgt := 123) dX9_factOf_1 rfl (lf_c_X9_factOf_1 v e1_ ) (by decide) ?_
    refine w_aload_n dX9_factOf_123 rfl 0 rfl ?_
    refine w_callV (as := []) (rest := []) (c_X9_ears l G cy ad d b w Mz hIz hb hw) kV_X9_ears pnn_3 (Nat.le_of_ble_eq_true rfl) m_629 rfl rfl rfl (ic_9 hb hw) rfl rfl (by decide) (Nat.le_of_ble_eq_true rfl) dX9_factOf_124 (fun r32_ M33_ q34_ => ?_)
    obtain ⟨rfl, h35_, hs36_⟩ := q34_
    exact w_iret rfl dX9_factOf_127 ⟨rfl, trivial, (Or.inr (Or.inr (Or.inr (Or.inr (Or.inr (Or.inr (Or.inr (Or.inr (Or.inr (Or.inr (Or.inr ⟨e1_, r32_, hs36_, h35_, rfl⟩)))))))))))⟩
def S_c_X9_addYes (b : Nat) (w : Nat) : rf → Nat → Prop := fun c k => (c.1 = 40 ∧ c.2.1 = b ∧ c.2.2 = w) ∨ False
def SP_X9_addYes (b : Nat) (w : Nat) (v : Int32) (u : Int32) (Mz : mM) (M_ : mM) : Prop := (((SP_X7_isCell v Mz (1 : Int32)) ∧ (0 ≤ v.toInt ∧ v.toInt ≤ 191) ∧ ∃ j9_ : Nat, ((j9_ : Int) = v.toInt) ∧ ∃ z7_ : Int32, (z7_ = Mz.1 (40, b, w) j9_) ∧ ∃ z11_ : Int32, (z11_ = z7_ + u) ∧ ∃ z13_ : Int32, ((z13_.toInt = 99 ∧ 99 ≤ z11_.toInt) ∨ (z13_.toInt = z11_.toInt ∧ z11_.toInt ≤ 99)) ∧ ∃ j17_ : Nat, ((j17_ : Int) = v.toInt) ∧ ∃ M15_ : mM, (M15_ = up Mz (40, b, w) j17_ z13_) ∧ M_ = M15_) ∨ ((SP_X7_isCell v Mz (0 : Int32)) ∧ (¬ (0 ≤ v.toInt ∧ v.toInt ≤ 191)) ∧ M_ = Mz))
set_option maxHeartbeats 4000000 in
set_option maxRecDepth 100000 in
theorem c_X9_addYes (l : Launch) (G : va_G) (cy : Nat → ClassId) (ad : rf → Nat) (d : Nat) (b : Nat) (w : Nat) (v : Int32) (u : Int32) (Mz : mM) (hIz : Inv Mz) (hb : b < 3) (hw : w < 8) : WP CC l G cy ad yX9_addYes cX9_addYes 3 none (d + 1) 0 [(0, vR (9, b, w)), (1, vI v), (2, vI u)] [] Mz (fun r M' => Inv M' ∧ FR (S_c_X9_addYes b w) Mz M' ∧ (True) ∧ SP_X9_addYes b w v u Mz M') := by
  have hFz : FR (S_c_X9_addYes b w) Mz Mz := FR.self
  refine w_iload_n dX9_addYes_0 rfl 1 rfl ?_
  refine w_callS (as := [vI v]) (rest := []) (c_X7_isCell l G cy ad d v Mz hIz) kS_X7_isCell pnn_1 (Nat.le_of_ble_eq_true rfl) m_919 rfl rfl (by decide) (Nat.le_of_ble_eq_true rfl) dX9_addYes_1 (fun r1_ M2_ q3_ => ?_)
  obtain ⟨rfl, h4_, hs5_⟩ := q3_
  rcases h4_ with ⟨rfl, h4_⟩ | ⟨rfl, h4_⟩
  · refine w_if_eq (tgt := 26) dX9_addYes_4 (by decide) li_1 (fun h9 => (absurd h9 (by decide))) (fun h6_ => ?_)
    refine w_aload_n dX9_addYes_7 rfl 0 rfl ?_
    refine w_getR (c' := (40, b, w)) fl_RX9_40 rfl rfl (ic_9 hb hw) dX9_addYes_8 rfl ?_
    refine w_iload_n dX9_addYes_11 rfl 1 rfl ?_
    refine w_bipush (v := 99) dX9_addYes_12 (by decide) ?_
    refine w_aload_n dX9_addYes_14 rfl 0 rfl ?_
    refine w_getR (c' := (40, b, w)) fl_RX9_40 rfl rfl (ic_9 hb hw) dX9_addYes_15 rfl ?_
    refine w_iload_n dX9_addYes_18 rfl 1 rfl ?_
    refine w_iald rfl rfl (ic_40 hb hw) (rfl : v.toInt = v.toInt) (lf_c_X7_isFree_0 v h4_ ) dX9_addYes_19 (fun j9_ h10_ z7_ e8_ => ?_)
    refine w_iload_n dX9_addYes_20 rfl 2 rfl ?_
    refine w_iadd dX9_addYes_21 (fun z11_ h12_ => ?_)
    refine w_min m_920 m_770 m_86 m_771 li_99 (rfl : z11_.toInt = z11_.toInt) (Nat.le_of_ble_eq_true rfl) (by omega) dX9_addYes_22 (fun z13_ h14_ => ?_)
    refine w_iast CC_nd rfl rfl (ic_40 hb hw) (rfl : v.toInt = v.toInt) (lf_c_X7_isFree_0 v h4_ ) dX9_addYes_25 (fun j17_ h18_ M15_ hM16_ => ?_)
    have hI19_ := hIz.put hM16_ trivial
    have hF20_ := hFz.put hM16_ (Or.inl ⟨rfl, rfl, rfl⟩)
    exact w_vret rfl dX9_addYes_26 ⟨hI19_, hF20_, trivial, (Or.inl ⟨hs5_, h4_, j9_, h10_, z7_, e8_, z11_, h12_, z13_, h14_, j17_, h18_, M15_, hM16_, rfl⟩)⟩
  · refine w_if_eq (tgt := 26) dX9_addYes_4 (by decide) li_0 (fun h21_ => ?_) (fun h9 => (absurd h9 (by decide)))
    exact w_vret rfl dX9_addYes_26 ⟨hIz, hFz, trivial, (Or.inr ⟨hs5_, h4_, rfl⟩)⟩
def S_c_X9_addNo (b : Nat) (w : Nat) : rf → Nat → Prop := fun c k => (c.1 = 41 ∧ c.2.1 = b ∧ c.2.2 = w) ∨ False
def SP_X9_addNo (b : Nat) (w : Nat) (v : Int32) (Mz : mM) (M_ : mM) : Prop := (((SP_X7_isCell v Mz (1 : Int32)) ∧ (0 ≤ v.toInt ∧ v.toInt ≤ 191) ∧ ∃ j9_ : Nat, ((j9_ : Int) = v.toInt) ∧ ∃ z7_ : Int32, (z7_ = Mz.1 (41, b, w) j9_) ∧ ∃ z11_ : Int32, (z11_ = z7_ + (1 : Int32)) ∧ ∃ z13_ : Int32, ((z13_.toInt = 99 ∧ 99 ≤ z11_.toInt) ∨ (z13_.toInt = z11_.toInt ∧ z11_.toInt ≤ 99)) ∧ ∃ j17_ : Nat, ((j17_ : Int) = v.toInt) ∧ ∃ M15_ : mM, (M15_ = up Mz (41, b, w) j17_ z13_) ∧ M_ = M15_) ∨ ((SP_X7_isCell v Mz (0 : Int32)) ∧ (¬ (0 ≤ v.toInt ∧ v.toInt ≤ 191)) ∧ M_ = Mz))
set_option maxHeartbeats 4000000 in
set_option maxRecDepth 100000 in
theorem c_X9_addNo (l : Launch) (G : va_G) (cy : Nat → ClassId) (ad : rf → Nat) (d : Nat) (b : Nat) (w : Nat) (v : Int32) (Mz : mM) (hIz : Inv Mz) (hb : b < 3) (hw : w < 8) : WP CC l G cy ad yX9_addNo cX9_addNo 2 none (d + 1) 0 [(0, vR (9, b, w)), (1, vI v)] [] Mz (fun r M' => Inv M' ∧ FR (S_c_X9_addNo b w) Mz M' ∧ (True) ∧ SP_X9_addNo b w v Mz M') := by
  have hFz : FR (S_c_X9_addNo b w) Mz Mz := FR.self
  refine w_iload_n dX9_addNo_0 rfl 1 rfl ?_
  refine w_callS (as := [vI v]) (rest := []) (c_X7_isCell l G cy ad d v Mz hIz) kS_X7_isCell pnn_1 (Nat.le_of_ble_eq_true rfl) m_919 rfl rfl (by decide) (Nat.le_of_ble_eq_true rfl) dX9_addNo_1 (fun r1_ M2_ q3_ => ?_)
  obtain ⟨rfl, h4_, hs5_⟩ := q3_
  rcases h4_ with ⟨rfl, h4_⟩ | ⟨rfl, h4_⟩
  · refine w_if_eq (tgt := 26) dX9_addNo_4 (by decide) li_1 (fun h9 => (absurd h9 (by decide))) (fun h6_ => ?_)
    refine w_aload_n dX9_addNo_7 rfl 0 rfl ?_
    refine w_getR (c' := (41, b, w)) fl_RX9_44 rfl rfl (ic_9 hb hw) dX9_addNo_8 rfl ?_
    refine w_iload_n dX9_addNo_11 rfl 1 rfl ?_
    refine w_bipush (v := 99) dX9_addNo_12 (by decide) ?_
    refine w_aload_n dX9_addNo_14 rfl 0 rfl ?_
    refine w_getR (c' := (41, b, w)) fl_RX9_44 rfl rfl (ic_9 hb hw) dX9_addNo_15 rfl ?_
    refine w_iload_n dX9_addNo_18 rfl 1 rfl ?_
    refine w_iald rfl rfl (ic_41 hb hw) (rfl : v.toInt = v.toInt) (lf_c_X7_isFree_0 v h4_ ) dX9_addNo_19 (fun j9_ h10_ z7_ e8_ => ?_)
    refine w_iconst (v := 1) dX9_addNo_20 (by decide) ?_
    refine w_iadd dX9_addNo_21 (fun z11_ h12_ => ?_)
    refine w_min m_920 m_770 m_86 m_771 li_99 (rfl : z11_.toInt = z11_.toInt) (Nat.le_of_ble_eq_true rfl) (by omega) dX9_addNo_22 (fun z13_ h14_ => ?_)
    refine w_iast CC_nd rfl rfl (ic_41 hb hw) (rfl : v.toInt = v.toInt) (lf_c_X7_isFree_0 v h4_ ) dX9_addNo_25 (fun j17_ h18_ M15_ hM16_ => ?_)
    have hI19_ := hIz.put hM16_ trivial
    have hF20_ := hFz.put hM16_ (Or.inl ⟨rfl, rfl, rfl⟩)
    exact w_vret rfl dX9_addNo_26 ⟨hI19_, hF20_, trivial, (Or.inl ⟨hs5_, h4_, j9_, h10_, z7_, e8_, z11_, h12_, z13_, h14_, j17_, h18_, M15_, hM16_, rfl⟩)⟩
  · refine w_if_eq (tgt := 26) dX9_addNo_4 (by decide) li_0 (fun h21_ => ?_) (fun h9 => (absurd h9 (by decide)))
    exact w_vret rfl dX9_addNo_26 ⟨hIz, hFz, trivial, (Or.inr ⟨hs5_, h4_, rfl⟩)⟩
def SP_X9_held (b : Nat) (w : Nat) (v : Int32) (Mz : mM) (r_ : Int32) : Prop := (((SP_X7_isCell v Mz (1 : Int32)) ∧ (0 ≤ v.toInt ∧ v.toInt ≤ 191) ∧ ∃ j9_ : Nat, ((j9_ : Int) = v.toInt) ∧ ∃ z7_ : Int32, (z7_ = Mz.1 (40, b, w) j9_) ∧ ∃ j13_ : Nat, ((j13_ : Int) = v.toInt) ∧ ∃ z11_ : Int32, (z11_ = Mz.1 (41, b, w) j13_) ∧ (((¬ z7_.toInt = z11_.toInt) ∧ ∃ j18_ : Nat, ((j18_ : Int) = v.toInt) ∧ ∃ z16_ : Int32, (z16_ = Mz.1 (40, b, w) j18_) ∧ ∃ j22_ : Nat, ((j22_ : Int) = v.toInt) ∧ ∃ z20_ : Int32, (z20_ = Mz.1 (41, b, w) j22_) ∧ (((z16_.toInt ≤ z20_.toInt) ∧ r_ = 1) ∨ ((z20_.toInt < z16_.toInt) ∧ r_ = 2))) ∨ ((z7_.toInt = z11_.toInt) ∧ r_ = 0))) ∨ ((SP_X7_isCell v Mz (0 : Int32)) ∧ (¬ (0 ≤ v.toInt ∧ v.toInt ≤ 191)) ∧ r_ = 0))
set_option maxHeartbeats 4000000 in
set_option maxRecDepth 100000 in
theorem c_X9_held (l : Launch) (G : va_G) (cy : Nat → ClassId) (ad : rf → Nat) (d : Nat) (b : Nat) (w : Nat) (v : Int32) (Mz : mM) (hIz : Inv Mz) (hb : b < 3) (hw : w < 8) : WP CC l G cy ad yX9_held cX9_held 2 (some .int) (d + 1) 0 [(0, vR (9, b, w)), (1, vI v)] [] Mz (fun r M' => Mz = M' ∧ (True) ∧ SP_X9_held b w v Mz r) := by
  refine w_iload_n dX9_held_0 rfl 1 rfl ?_
  refine w_callS (as := [vI v]) (rest := []) (c_X7_isCell l G cy ad d v Mz hIz) kS_X7_isCell pnn_1 (Nat.le_of_ble_eq_true rfl) m_919 rfl rfl (by decide) (Nat.le_of_ble_eq_true rfl) dX9_held_1 (fun r1_ M2_ q3_ => ?_)
  obtain ⟨rfl, h4_, hs5_⟩ := q3_
  rcases h4_ with ⟨rfl, h4_⟩ | ⟨rfl, h4_⟩
  · refine w_if_eq (tgt := 22) dX9_held_4 (by decide) li_1 (fun h9 => (absurd h9 (by decide))) (fun h6_ => ?_)
    refine w_aload_n dX9_held_7 rfl 0 rfl ?_
    refine w_getR (c' := (40, b, w)) fl_RX9_40 rfl rfl (ic_9 hb hw) dX9_held_8 rfl ?_
    refine w_iload_n dX9_held_11 rfl 1 rfl ?_
    refine w_iald rfl rfl (ic_40 hb hw) (rfl : v.toInt = v.toInt) (lf_c_X7_isFree_0 v h4_ ) dX9_held_12 (fun j9_ h10_ z7_ e8_ => ?_)
    refine w_aload_n dX9_held_13 rfl 0 rfl ?_
    refine w_getR (c' := (41, b, w)) fl_RX9_44 rfl rfl (ic_9 hb hw) dX9_held_14 rfl ?_
    refine w_iload_n dX9_held_17 rfl 1 rfl ?_
    refine w_iald rfl rfl (ic_41 hb hw) (rfl : v.toInt = v.toInt) (lf_c_X7_isFree_0 v h4_ ) dX9_held_18 (fun j13_ h14_ z11_ e12_ => ?_)
    refine w_icmp_ne (tgt := 24) dX9_held_19 (by decide) (rfl : z7_.toInt = z7_.toInt) (rfl : z11_.toInt = z11_.toInt) (fun h15_ => ?_) (fun h15_ => ?_)
    · refine w_aload_n dX9_held_24 rfl 0 rfl ?_
      refine w_getR (c' := (40, b, w)) fl_RX9_40 rfl rfl (ic_9 hb hw) dX9_held_25 rfl ?_
      refine w_iload_n dX9_held_28 rfl 1 rfl ?_
      refine w_iald rfl rfl (ic_40 hb hw) (rfl : v.toInt = v.toInt) (lf_c_X7_isFree_0 v h4_ ) dX9_held_29 (fun j18_ h19_ z16_ e17_ => ?_)
      refine w_aload_n dX9_held_30 rfl 0 rfl ?_
      refine w_getR (c' := (41, b, w)) fl_RX9_44 rfl rfl (ic_9 hb hw) dX9_held_31 rfl ?_
      refine w_iload_n dX9_held_34 rfl 1 rfl ?_
      refine w_iald rfl rfl (ic_41 hb hw) (rfl : v.toInt = v.toInt) (lf_c_X7_isFree_0 v h4_ ) dX9_held_35 (fun j22_ h23_ z20_ e21_ => ?_)
      refine w_icmp_le (tgt := 43) dX9_held_36 (by decide) (rfl : z16_.toInt = z16_.toInt) (rfl : z20_.toInt = z20_.toInt) (fun h24_ => ?_) (fun h24_ => ?_)
      · refine w_iconst (v := 1) dX9_held_43 (by decide) ?_
        exact w_iret rfl dX9_held_44 ⟨rfl, trivial, (Or.inl ⟨hs5_, h4_, j9_, h10_, z7_, e8_, j13_, h14_, z11_, e12_, (Or.inl ⟨h15_, j18_, h19_, z16_, e17_, j22_, h23_, z20_, e21_, (Or.inl ⟨h24_, rfl⟩)⟩)⟩)⟩
      · refine w_iconst (v := 2) dX9_held_39 (by decide) ?_
        refine w_goto (tgt := 44) dX9_held_40 (by decide) ?_
        exact w_iret rfl dX9_held_44 ⟨rfl, trivial, (Or.inl ⟨hs5_, h4_, j9_, h10_, z7_, e8_, j13_, h14_, z11_, e12_, (Or.inl ⟨h15_, j18_, h19_, z16_, e17_, j22_, h23_, z20_, e21_, (Or.inr ⟨h24_, rfl⟩)⟩)⟩)⟩
    · refine w_iconst (v := 0) dX9_held_22 (by decide) ?_
      exact w_iret rfl dX9_held_23 ⟨rfl, trivial, (Or.inl ⟨hs5_, h4_, j9_, h10_, z7_, e8_, j13_, h14_, z11_, e12_, (Or.inr ⟨h15_, rfl⟩)⟩)⟩
  · refine w_if_eq (tgt := 22) dX9_held_4 (by decide) li_0 (fun h25_ => ?_) (fun h9 => (absurd h9 (by decide)))
    refine w_iconst (v := 0) dX9_held_22 (by decide) ?_
    exact w_iret rfl dX9_held_23 ⟨rfl, trivial, (Or.inr ⟨hs5_, h4_, rfl⟩)⟩
def SP_X9_canLearn (b : Nat) (w : Nat) (v : Int32) (Mz : mM) (r_ : Int32) : Prop := (((SP_X7_isCell v Mz (1 : Int32)) ∧ (0 ≤ v.toInt ∧ v.toInt ≤ 191) ∧ ∃ j9_ : Nat, ((j9_ : Int) = v.toInt) ∧ ∃ z7_ : Int32, (z7_ = Mz.1 (40, b, w) j9_) ∧ ∃ j13_ : Nat, ((j13_ : Int) = v.toInt) ∧ ∃ z11_ : Int32, (z11_ = Mz.1 (41, b, w) j13_) ∧ (((¬ z7_.toInt = z11_.toInt) ∧ r_ = 0) ∨ ((z7_.toInt = z11_.toInt) ∧ ∃ j18_ : Nat, ((j18_ : Int) = v.toInt) ∧ ∃ z16_ : Int32, (z16_ = Mz.1 (40, b, w) j18_) ∧ (((99 ≤ z16_.toInt) ∧ r_ = 0) ∨ ((z16_.toInt < 99) ∧ r_ = 1))))) ∨ ((SP_X7_isCell v Mz (0 : Int32)) ∧ (¬ (0 ≤ v.toInt ∧ v.toInt ≤ 191)) ∧ r_ = 0))
set_option maxHeartbeats 4000000 in
set_option maxRecDepth 100000 in
theorem c_X9_canLearn (l : Launch) (G : va_G) (cy : Nat → ClassId) (ad : rf → Nat) (d : Nat) (b : Nat) (w : Nat) (v : Int32) (Mz : mM) (hIz : Inv Mz) (hb : b < 3) (hw : w < 8) : WP CC l G cy ad yX9_canLearn cX9_canLearn 2 (some .boolean) (d + 1) 0 [(0, vR (9, b, w)), (1, vI v)] [] Mz (fun r M' => Mz = M' ∧ (((r = 1 ∧ 0 ≤ v.toInt ∧ v.toInt ≤ 191) ∨ r = 0)) ∧ SP_X9_canLearn b w v Mz r) := by
  refine w_iload_n dX9_canLearn_0 rfl 1 rfl ?_
  refine w_callS (as := [vI v]) (rest := []) (c_X7_isCell l G cy ad d v Mz hIz) kS_X7_isCell pnn_1 (Nat.le_of_ble_eq_true rfl) m_919 rfl rfl (by decide) (Nat.le_of_ble_eq_true rfl) dX9_canLearn_1 (fun r1_ M2_ q3_ => ?_)
  obtain ⟨rfl, h4_, hs5_⟩ := q3_
  rcases h4_ with ⟨rfl, h4_⟩ | ⟨rfl, h4_⟩
  · refine w_if_eq (tgt := 37) dX9_canLearn_4 (by decide) li_1 (fun h9 => (absurd h9 (by decide))) (fun h6_ => ?_)
    refine w_aload_n dX9_canLearn_7 rfl 0 rfl ?_
    refine w_getR (c' := (40, b, w)) fl_RX9_40 rfl rfl (ic_9 hb hw) dX9_canLearn_8 rfl ?_
    refine w_iload_n dX9_canLearn_11 rfl 1 rfl ?_
    refine w_iald rfl rfl (ic_40 hb hw) (rfl : v.toInt = v.toInt) (lf_c_X7_isFree_0 v h4_ ) dX9_canLearn_12 (fun j9_ h10_ z7_ e8_ => ?_)
    refine w_aload_n dX9_canLearn_13 rfl 0 rfl ?_
    refine w_getR (c' := (41, b, w)) fl_RX9_44 rfl rfl (ic_9 hb hw) dX9_canLearn_14 rfl ?_
    refine w_iload_n dX9_canLearn_17 rfl 1 rfl ?_
    refine w_iald rfl rfl (ic_41 hb hw) (rfl : v.toInt = v.toInt) (lf_c_X7_isFree_0 v h4_ ) dX9_canLearn_18 (fun j13_ h14_ z11_ e12_ => ?_)
    refine w_icmp_ne (tgt := 37) dX9_canLearn_19 (by decide) (rfl : z7_.toInt = z7_.toInt) (rfl : z11_.toInt = z11_.toInt) (fun h15_ => ?_) (fun h15_ => ?_)
    · refine w_iconst (v := 0) dX9_canLearn_37 (by decide) ?_
      exact w_zret rfl dX9_canLearn_38 ⟨by decide, by decide⟩ ⟨rfl, (Or.inr rfl), (Or.inl ⟨hs5_, h4_, j9_, h10_, z7_, e8_, j13_, h14_, z11_, e12_, (Or.inl ⟨h15_, rfl⟩)⟩)⟩
    · refine w_aload_n dX9_canLearn_22 rfl 0 rfl ?_
      refine w_getR (c' := (40, b, w)) fl_RX9_40 rfl rfl (ic_9 hb hw) dX9_canLearn_23 rfl ?_
      refine w_iload_n dX9_canLearn_26 rfl 1 rfl ?_
      refine w_iald rfl rfl (ic_40 hb hw) (rfl : v.toInt = v.toInt) (lf_c_X7_isFree_0 v h4_ ) dX9_canLearn_27 (fun j18_ h19_ z16_ e17_ => ?_)
      refine w_bipush (v := 99) dX9_canLearn_28 (by decide) ?_
      refine w_icmp_ge (tgt := 37) dX9_canLearn_30 (by decide) (rfl : z16_.toInt = z16_.toInt) li_99 (fun h20_ => ?_) (fun h20_ => ?_)
      · refine w_iconst (v := 0) dX9_canLearn_37 (by decide) ?_
        exact w_zret rfl dX9_canLearn_38 ⟨by decide, by decide⟩ ⟨rfl, (Or.inr rfl), (Or.inl ⟨hs5_, h4_, j9_, h10_, z7_, e8_, j13_, h14_, z11_, e12_, (Or.inr ⟨h15_, j18_, h19_, z16_, e17_, (Or.inl ⟨h20_, rfl⟩)⟩)⟩)⟩
      · refine w_iconst (v := 1) dX9_canLearn_33 (by decide) ?_
        refine w_goto (tgt := 38) dX9_canLearn_34 (by decide) ?_
        exact w_zret rfl dX9_canLearn_38 ⟨by decide, by decide⟩ ⟨rfl, (Or.inl ⟨rfl, h4_⟩), (Or.inl ⟨hs5_, h4_, j9_, h10_, z7_, e8_, j13_, h14_, z11_, e12_, (Or.inr ⟨h15_, j18_, h19_, z16_, e17_, (Or.inr ⟨h20_, rfl⟩)⟩)⟩)⟩
  · refine w_if_eq (tgt := 37) dX9_canLearn_4 (by decide) li_0 (fun h21_ => ?_) (fun h9 => (absurd h9 (by decide)))
    refine w_iconst (v := 0) dX9_canLearn_37 (by decide) ?_
    exact w_zret rfl dX9_canLearn_38 ⟨by decide, by decide⟩ ⟨rfl, (Or.inr rfl), (Or.inr ⟨hs5_, h4_, rfl⟩)⟩
def ST_X9_countHeld_4 (b : Nat) (w : Nat) (v : Int32) (Mz : mM) (v3_4 : Int32) (v2_4 : Int32) (v3_4y : Int32) (v2_4y : Int32) : Prop := (0 ≤ v3_4.toInt) ∧ (v3_4.toInt ≤ 192) ∧ (v3_4.toInt < 192) ∧ ∃ r3_ : Int32, (SP_X9_held b w v3_4 Mz r3_) ∧ (((¬ r3_.toInt = v.toInt) ∧ ∃ z9_ : Int32, (z9_.toInt = v3_4.toInt + 1) ∧ v3_4y = z9_ ∧ v2_4y = v2_4) ∨ ((r3_.toInt = v.toInt) ∧ ∃ z11_ : Int32, (z11_ = v2_4 + Int32.ofInt 1) ∧ ∃ z13_ : Int32, (z13_.toInt = v3_4.toInt + 1) ∧ v3_4y = z13_ ∧ v2_4y = z11_))
def SP_X9_countHeld (b : Nat) (w : Nat) (v : Int32) (Mz : mM) (r_ : Int32) : Prop := ∃ v3_4 : Int32, (0 ≤ v3_4.toInt) ∧ (v3_4.toInt ≤ 192) ∧ ∃ v2_4 : Int32, (RCH (fun x_ y_ => ST_X9_countHeld_4 b w v Mz x_.1 x_.2 y_.1 y_.2) ((0 : Int32), (0 : Int32)) (v3_4, v2_4)) ∧ (192 ≤ v3_4.toInt) ∧ r_ = v2_4
set_option maxHeartbeats 4000000 in
set_option maxRecDepth 100000 in
theorem c_X9_countHeld (l : Launch) (G : va_G) (cy : Nat → ClassId) (ad : rf → Nat) (d : Nat) (b : Nat) (w : Nat) (v : Int32) (Mz : mM) (hIz : Inv Mz) (hb : b < 3) (hw : w < 8) : WP CC l G cy ad yX9_countHeld cX9_countHeld 4 (some .int) (d + 2) 0 [(0, vR (9, b, w)), (1, vI v)] [] Mz (fun r M' => Mz = M' ∧ (True) ∧ SP_X9_countHeld b w v Mz r) := by
  refine w_iconst (v := 0) dX9_countHeld_0 (by decide) ?_
  refine w_istore_n (ls' := [(2, vI 0), (0, vR (9, b, w)), (1, vI v)]) dX9_countHeld_1 rfl (by decide) rfl ?_
  refine w_iconst (v := 0) dX9_countHeld_2 (by decide) ?_
  refine w_istore_n (ls' := [(3, vI 0), (2, vI 0), (0, vR (9, b, w)), (1, vI v)]) dX9_countHeld_3 rfl (by decide) rfl ?_
  have lp1_ : ∀ (nn_4 : Nat) (v3_4 : Int32) (v2_4 : Int32) (hv0_4 : 0 ≤ v3_4.toInt) (hv1_4 : v3_4.toInt ≤ 192) (hL_4 : RCH (fun x_ y_ => ST_X9_countHeld_4 b w v Mz x_.1 x_.2 y_.1 y_.2) ((0 : Int32), (0 : Int32)) (v3_4, v2_4)), (2147483648 - v3_4.toInt).toNat < nn_4 → WP CC l G cy ad yX9_countHeld cX9_countHeld 4 (some .int) (d + 2) 4 [(3, vI v3_4), (2, vI v2_4), (0, vR (9, b, w)), (1, vI v)] [] Mz (fun r M' => Mz = M' ∧ (True) ∧ SP_X9_countHeld b w v Mz r) := by
    intro nn_4
    induction nn_4 with
    | zero => intro v3_4 v2_4 hv0_4 hv1_4 hL_4 hm_4; exact absurd hm_4 (Nat.not_lt_zero _)
    | succ nn_4 ih_4 =>
      intro v3_4 v2_4 hv0_4 hv1_4 hL_4 hm_4
      refine w_iload_n dX9_countHeld_4 rfl 0 rfl ?_
      refine w_sipush (v := 192) dX9_countHeld_5 (by decide) ?_
      refine w_icmp_ge (tgt := 29) dX9_countHeld_8 (by decide) (rfl : v3_4.toInt = v3_4.toInt) li_192 (fun h2_ => ?_) (fun h2_ => ?_)
      · refine w_iload_n dX9_countHeld_29 rfl 1 rfl ?_
        exact w_iret rfl dX9_countHeld_30 ⟨rfl, trivial, ⟨v3_4, hv0_4, hv1_4, v2_4, hL_4, h2_, rfl⟩⟩
      · refine w_aload_n dX9_countHeld_11 rfl 2 rfl ?_
        refine w_iload_n dX9_countHeld_12 rfl 0 rfl ?_
        refine w_callV (as := [vI v3_4]) (rest := []) (c_X9_held l G cy ad d b w v3_4 Mz hIz hb hw) kV_X9_held pnn_3 (Nat.le_of_ble_eq_true rfl) m_946 rfl rfl rfl (ic_9 hb hw) rfl rfl (by decide) (Nat.le_of_ble_eq_true rfl) dX9_countHeld_13 (fun r3_ M4_ q5_ => ?_)
        obtain ⟨rfl, h6_, hs7_⟩ := q5_
        refine w_iload_n dX9_countHeld_16 rfl 3 rfl ?_
        refine w_icmp_ne (tgt := 23) dX9_countHeld_17 (by decide) (rfl : r3_.toInt = r3_.toInt) (rfl : v.toInt = v.toInt) (fun h8_ => ?_) (fun h8_ => ?_)
        · refine w_iincB (j := 0) (f := fun z9_ => [(3, vI z9_), (2, vI v2_4), (0, vR (9, b, w)), (1, vI v)]) dX9_countHeld_23 rfl (by decide) (fun _ => rfl) (rfl : v3_4.toInt = v3_4.toInt) li_1 (lf_c_X9_begin_2 v3_4 hv0_4 h2_ ) (fun z9_ h10_ => ?_)
          refine w_goto (tgt := 4) dX9_countHeld_26 (by decide) ?_
          refine w_loc (ls' := [(3, vI z9_), (2, vI v2_4), (0, vR (9, b, w)), (1, vI v)]) [0, 1, 2, 3] rfl ?_
          exact ih_4 z9_ v2_4 (lf_c_X5_takeFrom_3 v3_4 z9_ hv0_4 h10_ ) (lf_c_X9_begin_4 v3_4 z9_ h2_ h10_ ) (RCH.tail hL_4 ⟨hv0_4, hv1_4, h2_, r3_, hs7_, (Or.inl ⟨h8_, z9_, h10_, rfl, rfl⟩)⟩) (Nat.lt_of_lt_of_le (lf_c_X9_begin_5 v3_4 z9_ h2_ h10_ ) (Nat.le_of_lt_succ hm_4))
        · refine w_iincX (j := 1) (f := fun z11_ => [(2, vI z11_), (3, vI v3_4), (0, vR (9, b, w)), (1, vI v)]) dX9_countHeld_20 rfl (by decide) (fun _ => rfl) (fun z11_ h12_ => ?_)
          refine w_iincB (j := 1) (f := fun z13_ => [(3, vI z13_), (2, vI z11_), (0, vR (9, b, w)), (1, vI v)]) dX9_countHeld_23 rfl (by decide) (fun _ => rfl) (rfl : v3_4.toInt = v3_4.toInt) li_1 (lf_c_X9_begin_2 v3_4 hv0_4 h2_ ) (fun z13_ h14_ => ?_)
          refine w_goto (tgt := 4) dX9_countHeld_26 (by decide) ?_
          refine w_loc (ls' := [(3, vI z13_), (2, vI z11_), (0, vR (9, b, w)), (1, vI v)]) [0, 1, 2, 3] rfl ?_
          exact ih_4 z13_ z11_ (lf_c_X5_takeFrom_3 v3_4 z13_ hv0_4 h14_ ) (lf_c_X9_begin_4 v3_4 z13_ h2_ h14_ ) (RCH.tail hL_4 ⟨hv0_4, hv1_4, h2_, r3_, hs7_, (Or.inr ⟨h8_, z11_, h12_, z13_, h14_, rfl, rfl⟩)⟩) (Nat.lt_of_lt_of_le (lf_c_X9_begin_5 v3_4 z13_ h2_ h14_ ) (Nat.le_of_lt_succ hm_4))
  exact lp1_ _ 0 0 (lf_c_X5_takeFrom_5 ) (lf_c_X9_begin_7 ) RCH.refl (Nat.lt_succ_self _)
def ST_X9_yardsToFull_2 (b : Nat) (w : Nat) (v : Int32) (Mz : mM) (v2_2 : Int32) (v2_2y : Int32) : Prop := (1 ≤ v2_2.toInt) ∧ (v2_2.toInt ≤ 10) ∧ (v2_2.toInt ≤ 9) ∧ ∃ z3_ : Int32, (z3_ = Mz.1 (9, b, w) 1) ∧ ∃ r5_ : Int32, (SP_X7_cellFrom z3_ v v2_2 Mz r5_) ∧ (-1 ≤ r5_.toInt ∧ r5_.toInt ≤ 191) ∧ ∃ r10_ : Int32, (SP_X9_held b w r5_ Mz r10_) ∧ (¬ r10_.toInt = 2) ∧ ∃ z16_ : Int32, (z16_.toInt = v2_2.toInt + 1) ∧ v2_2y = z16_
def SP_X9_yardsToFull (b : Nat) (w : Nat) (v : Int32) (Mz : mM) (r_ : Int32) : Prop := ∃ v2_2 : Int32, (1 ≤ v2_2.toInt) ∧ (v2_2.toInt ≤ 10) ∧ (RCH (fun x_ y_ => ST_X9_yardsToFull_2 b w v Mz x_ y_) (1 : Int32) v2_2) ∧ (((9 < v2_2.toInt) ∧ r_ = 0) ∨ ((v2_2.toInt ≤ 9) ∧ ∃ z3_ : Int32, (z3_ = Mz.1 (9, b, w) 1) ∧ ∃ r5_ : Int32, (SP_X7_cellFrom z3_ v v2_2 Mz r5_) ∧ (-1 ≤ r5_.toInt ∧ r5_.toInt ≤ 191) ∧ ∃ r10_ : Int32, (SP_X9_held b w r5_ Mz r10_) ∧ (r10_.toInt = 2) ∧ r_ = v2_2))
theorem lf_c_X9_yardsToFull_0 (v2_2 : Int32) (hv0_2 : 1 ≤ v2_2.toInt) (h2_ : v2_2.toInt ≤ 9) : -2147483648 ≤ v2_2.toInt + 1 ∧ v2_2.toInt + 1 < 2147483648 := by omega
theorem lf_c_X9_yardsToFull_1 (v2_2 : Int32) (z16_ : Int32) (hv0_2 : 1 ≤ v2_2.toInt) (h17_ : z16_.toInt = v2_2.toInt + 1) : 1 ≤ z16_.toInt := by omega
theorem lf_c_X9_yardsToFull_2 (v2_2 : Int32) (z16_ : Int32) (h2_ : v2_2.toInt ≤ 9) (h17_ : z16_.toInt = v2_2.toInt + 1) : z16_.toInt ≤ 10 := by omega
theorem lf_c_X9_yardsToFull_3 (v2_2 : Int32) (z16_ : Int32) (h2_ : v2_2.toInt ≤ 9) (h17_ : z16_.toInt = v2_2.toInt + 1) : (2147483648 - z16_.toInt).toNat < (2147483648 - v2_2.toInt).toNat := by omega
theorem lf_c_X9_yardsToFull_4 : 1 ≤ (1 : Int32).toInt := by have q0 := li_1; omega
theorem lf_c_X9_yardsToFull_5 : (1 : Int32).toInt ≤ 10 := by have q0 := li_1; omega
set_option maxHeartbeats 4000000 in
set_option maxRecDepth 100000 in
theorem c_X9_yardsToFull (l : Launch) (G : va_G) (cy : Nat → ClassId) (ad : rf → Nat) (d : Nat) (b : Nat) (w : Nat) (v : Int32) (Mz : mM) (hIz : Inv Mz) (hb : b < 3) (hw : w < 8) : WP CC l G cy ad yX9_yardsToFull cX9_yardsToFull 3 (some .int) (d + 2) 0 [(0, vR (9, b, w)), (1, vI v)] [] Mz (fun r M' => Mz = M' ∧ (True) ∧ SP_X9_yardsToFull b w v Mz r) := by
  refine w_iconst (v := 1) dX9_yardsToFull_0 (by decide) ?_
  refine w_istore_n (ls' := [(2, vI 1), (0, vR (9, b, w)), (1, vI v)]) dX9_yardsToFull_1 rfl (by decide) rfl ?_
  have lp1_ : ∀ (nn_2 : Nat) (v2_2 : Int32) (hv0_2 : 1 ≤ v2_2.toInt) (hv1_2 : v2_2.toInt ≤ 10) (hL_2 : RCH (fun x_ y_ => ST_X9_yardsToFull_2 b w v Mz x_ y_) (1 : Int32) v2_2), (2147483648 - v2_2.toInt).toNat < nn_2 → WP CC l G cy ad yX9_yardsToFull cX9_yardsToFull 3 (some .int) (d + 2) 2 [(2, vI v2_2), (0, vR (9, b, w)), (1, vI v)] [] Mz (fun r M' => Mz = M' ∧ (True) ∧ SP_X9_yardsToFull b w v Mz r) := by
    intro nn_2
    induction nn_2 with
    | zero => intro v2_2 hv0_2 hv1_2 hL_2 hm_2; exact absurd hm_2 (Nat.not_lt_zero _)
    | succ nn_2 ih_2 =>
      intro v2_2 hv0_2 hv1_2 hL_2 hm_2
      refine w_iload_n dX9_yardsToFull_2 rfl 0 rfl ?_
      refine w_bipush (v := 9) dX9_yardsToFull_3 (by decide) ?_
      refine w_icmp_gt (tgt := 33) dX9_yardsToFull_5 (by decide) (rfl : v2_2.toInt = v2_2.toInt) li_9 (fun h2_ => ?_) (fun h2_ => ?_)
      · refine w_iconst (v := 0) dX9_yardsToFull_33 (by decide) ?_
        exact w_iret rfl dX9_yardsToFull_34 ⟨rfl, trivial, ⟨v2_2, hv0_2, hv1_2, hL_2, (Or.inl ⟨h2_, rfl⟩)⟩⟩
      · refine w_aload_n dX9_yardsToFull_8 rfl 1 rfl ?_
        refine w_aload_n dX9_yardsToFull_9 rfl 1 rfl ?_
        refine w_getI fl_RX9_13 rfl rfl (ic_9 hb hw) dX9_yardsToFull_10 (fun z3_ e4_ => ?_)
        refine w_iload_n dX9_yardsToFull_13 rfl 2 rfl ?_
        refine w_iload_n dX9_yardsToFull_14 rfl 0 rfl ?_
        refine w_callS (as := [vI z3_, vI v, vI v2_2]) (rest := [vR (9, b, w)]) (c_X7_cellFrom l G cy ad d z3_ v v2_2 Mz hIz) kS_X7_cellFrom pnn_1 (Nat.le_of_ble_eq_true rfl) m_1049 rfl rfl (by decide) (Nat.le_of_ble_eq_true rfl) dX9_yardsToFull_15 (fun r5_ M6_ q7_ => ?_)
        obtain ⟨rfl, h8_, hs9_⟩ := q7_
        refine w_callV (as := [vI r5_]) (rest := []) (c_X9_held l G cy ad d b w r5_ Mz hIz hb hw) kV_X9_held pnn_3 (Nat.le_of_ble_eq_true rfl) m_946 rfl rfl rfl (ic_9 hb hw) rfl rfl (by decide) (Nat.le_of_ble_eq_true rfl) dX9_yardsToFull_18 (fun r10_ M11_ q12_ => ?_)
        obtain ⟨rfl, h13_, hs14_⟩ := q12_
        refine w_iconst (v := 2) dX9_yardsToFull_21 (by decide) ?_
        refine w_icmp_ne (tgt := 27) dX9_yardsToFull_22 (by decide) (rfl : r10_.toInt = r10_.toInt) li_2 (fun h15_ => ?_) (fun h15_ => ?_)
        · refine w_iincB (j := 0) (f := fun z16_ => [(2, vI z16_), (0, vR (9, b, w)), (1, vI v)]) dX9_yardsToFull_27 rfl (by decide) (fun _ => rfl) (rfl : v2_2.toInt = v2_2.toInt) li_1 (lf_c_X9_yardsToFull_0 v2_2 hv0_2 h2_ ) (fun z16_ h17_ => ?_)
          refine w_goto (tgt := 2) dX9_yardsToFull_30 (by decide) ?_
          refine w_loc (ls' := [(2, vI z16_), (0, vR (9, b, w)), (1, vI v)]) [0, 1, 2] rfl ?_
          exact ih_2 z16_ (lf_c_X9_yardsToFull_1 v2_2 z16_ hv0_2 h17_ ) (lf_c_X9_yardsToFull_2 v2_2 z16_ h2_ h17_ ) (RCH.tail hL_2 ⟨hv0_2, hv1_2, h2_, z3_, e4_, r5_, hs9_, h8_, r10_, hs14_, h15_, z16_, h17_, rfl⟩) (Nat.lt_of_lt_of_le (lf_c_X9_yardsToFull_3 v2_2 z16_ h2_ h17_ ) (Nat.le_of_lt_succ hm_2))
        · refine w_iload_n dX9_yardsToFull_25 rfl 0 rfl ?_
          exact w_iret rfl dX9_yardsToFull_26 ⟨rfl, trivial, ⟨v2_2, hv0_2, hv1_2, hL_2, (Or.inr ⟨h2_, z3_, e4_, r5_, hs9_, h8_, r10_, hs14_, h15_, rfl⟩)⟩⟩
  exact lp1_ _ 1 (lf_c_X9_yardsToFull_4 ) (lf_c_X9_yardsToFull_5 ) RCH.refl (Nat.lt_succ_self _)
def ST_X9_yardsHeldFree_2 (b : Nat) (w : Nat) (Mz : mM) (v1_2 : Int32) (v1_2y : Int32) : Prop := (0 ≤ v1_2.toInt) ∧ (v1_2.toInt ≤ 15) ∧ (v1_2.toInt < 15) ∧ ∃ z3_ : Int32, (z3_ = Mz.1 (9, b, w) 1) ∧ ∃ z5_ : Int32, (z5_ = Mz.1 (9, b, w) 2) ∧ ∃ z7_ : Int32, (z7_.toInt = v1_2.toInt + 1) ∧ ∃ r9_ : Int32, (SP_X7_cellFrom z3_ z5_ z7_ Mz r9_) ∧ (-1 ≤ r9_.toInt ∧ r9_.toInt ≤ 191) ∧ ∃ r14_ : Int32, (SP_X9_held b w r9_ Mz r14_) ∧ (r14_.toInt = 1) ∧ ∃ z20_ : Int32, (z20_.toInt = v1_2.toInt + 1) ∧ v1_2y = z20_
def SP_X9_yardsHeldFree (b : Nat) (w : Nat) (Mz : mM) (r_ : Int32) : Prop := ∃ v1_2 : Int32, (0 ≤ v1_2.toInt) ∧ (v1_2.toInt ≤ 15) ∧ (RCH (fun x_ y_ => ST_X9_yardsHeldFree_2 b w Mz x_ y_) (0 : Int32) v1_2) ∧ (((15 ≤ v1_2.toInt) ∧ r_ = v1_2) ∨ ((v1_2.toInt < 15) ∧ ∃ z3_ : Int32, (z3_ = Mz.1 (9, b, w) 1) ∧ ∃ z5_ : Int32, (z5_ = Mz.1 (9, b, w) 2) ∧ ∃ z7_ : Int32, (z7_.toInt = v1_2.toInt + 1) ∧ ∃ r9_ : Int32, (SP_X7_cellFrom z3_ z5_ z7_ Mz r9_) ∧ (-1 ≤ r9_.toInt ∧ r9_.toInt ≤ 191) ∧ ∃ r14_ : Int32, (SP_X9_held b w r9_ Mz r14_) ∧ (¬ r14_.toInt = 1) ∧ r_ = v1_2))
theorem lf_c_X9_yardsHeldFree_0 (v1_2 : Int32) (hv0_2 : 0 ≤ v1_2.toInt) (h2_ : v1_2.toInt < 15) : -2147483648 ≤ v1_2.toInt + 1 ∧ v1_2.toInt + 1 < 2147483648 := by omega
theorem lf_c_X9_yardsHeldFree_3 (v1_2 : Int32) (z20_ : Int32) (h2_ : v1_2.toInt < 15) (h21_ : z20_.toInt = v1_2.toInt + 1) : z20_.toInt ≤ 15 := by omega
theorem lf_c_X9_yardsHeldFree_4 (v1_2 : Int32) (z20_ : Int32) (h2_ : v1_2.toInt < 15) (h21_ : z20_.toInt = v1_2.toInt + 1) : (2147483648 - z20_.toInt).toNat < (2147483648 - v1_2.toInt).toNat := by omega
theorem lf_c_X9_yardsHeldFree_6 : (0 : Int32).toInt ≤ 15 := by have q0 := li_0; omega
set_option maxHeartbeats 4000000 in
set_option maxRecDepth 100000 in
theorem c_X9_yardsHeldFree (l : Launch) (G : va_G) (cy : Nat → ClassId) (ad : rf → Nat) (d : Nat) (b : Nat) (w : Nat) (Mz : mM) (hIz : Inv Mz) (hb : b < 3) (hw : w < 8) : WP CC l G cy ad yX9_yardsHeldFree cX9_yardsHeldFree 2 (some .int) (d + 2) 0 [(0, vR (9, b, w))] [] Mz (fun r M' => Mz = M' ∧ (True) ∧ SP_X9_yardsHeldFree b w Mz r) := by
  refine w_iconst (v := 0) dX9_yardsHeldFree_0 (by decide) ?_
  refine w_istore_n (ls' := [(1, vI 0), (0, vR (9, b, w))]) dX9_yardsHeldFree_1 rfl (by decide) rfl ?_
  have lp1_ : ∀ (nn_2 : Nat) (v1_2 : Int32) (hv0_2 : 0 ≤ v1_2.toInt) (hv1_2 : v1_2.toInt ≤ 15) (hL_2 : RCH (fun x_ y_ => ST_X9_yardsHeldFree_2 b w Mz x_ y_) (0 : Int32) v1_2), (2147483648 - v1_2.toInt).toNat < nn_2 → WP CC l G cy ad yX9_yardsHeldFree cX9_yardsHeldFree 2 (some .int) (d + 2) 2 [(1, vI v1_2), (0, vR (9, b, w))] [] Mz (fun r M' => Mz = M' ∧ (True) ∧ SP_X9_yardsHeldFree b w Mz r) := by
    intro nn_2
    induction nn_2 with
    | zero => intro v1_2 hv0_2 hv1_2 hL_2 hm_2; exact absurd hm_2 (Nat.not_lt_zero _)
    | succ nn_2 ih_2 =>
      intro v1_2 hv0_2 hv1_2 hL_2 hm_2
      refine w_iload_n dX9_yardsHeldFree_2 rfl 0 rfl ?_
      refine w_bipush (v := 15) dX9_yardsHeldFree_3 (by decide) ?_
      refine w_icmp_ge (tgt := 36) dX9_yardsHeldFree_5 (by decide) (rfl : v1_2.toInt = v1_2.toInt) li_15 (fun h2_ => ?_) (fun h2_ => ?_)
      · refine w_iload_n dX9_yardsHeldFree_36 rfl 0 rfl ?_
        exact w_iret rfl dX9_yardsHeldFree_37 ⟨rfl, trivial, ⟨v1_2, hv0_2, hv1_2, hL_2, (Or.inl ⟨h2_, rfl⟩)⟩⟩
      · refine w_aload_n dX9_yardsHeldFree_8 rfl 1 rfl ?_
        refine w_aload_n dX9_yardsHeldFree_9 rfl 1 rfl ?_
        refine w_getI fl_RX9_13 rfl rfl (ic_9 hb hw) dX9_yardsHeldFree_10 (fun z3_ e4_ => ?_)
        refine w_aload_n dX9_yardsHeldFree_13 rfl 1 rfl ?_
        refine w_getI fl_RX9_16 rfl rfl (ic_9 hb hw) dX9_yardsHeldFree_14 (fun z5_ e6_ => ?_)
        refine w_iload_n dX9_yardsHeldFree_17 rfl 0 rfl ?_
        refine w_iconst (v := 1) dX9_yardsHeldFree_18 (by decide) ?_
        refine w_iaddB dX9_yardsHeldFree_19 (rfl : v1_2.toInt = v1_2.toInt) li_1 (lf_c_X9_yardsHeldFree_0 v1_2 hv0_2 h2_ ) (fun z7_ h8_ => ?_)
        refine w_callS (as := [vI z3_, vI z5_, vI z7_]) (rest := [vR (9, b, w)]) (c_X7_cellFrom l G cy ad d z3_ z5_ z7_ Mz hIz) kS_X7_cellFrom pnn_1 (Nat.le_of_ble_eq_true rfl) m_1049 rfl rfl (by decide) (Nat.le_of_ble_eq_true rfl) dX9_yardsHeldFree_20 (fun r9_ M10_ q11_ => ?_)
        obtain ⟨rfl, h12_, hs13_⟩ := q11_
        refine w_callV (as := [vI r9_]) (rest := []) (c_X9_held l G cy ad d b w r9_ Mz hIz hb hw) kV_X9_held pnn_3 (Nat.le_of_ble_eq_true rfl) m_946 rfl rfl rfl (ic_9 hb hw) rfl rfl (by decide) (Nat.le_of_ble_eq_true rfl) dX9_yardsHeldFree_23 (fun r14_ M15_ q16_ => ?_)
        obtain ⟨rfl, h17_, hs18_⟩ := q16_
        refine w_iconst (v := 1) dX9_yardsHeldFree_26 (by decide) ?_
        refine w_icmp_ne (tgt := 36) dX9_yardsHeldFree_27 (by decide) (rfl : r14_.toInt = r14_.toInt) li_1 (fun h19_ => ?_) (fun h19_ => ?_)
        · refine w_iload_n dX9_yardsHeldFree_36 rfl 0 rfl ?_
          exact w_iret rfl dX9_yardsHeldFree_37 ⟨rfl, trivial, ⟨v1_2, hv0_2, hv1_2, hL_2, (Or.inr ⟨h2_, z3_, e4_, z5_, e6_, z7_, h8_, r9_, hs13_, h12_, r14_, hs18_, h19_, rfl⟩)⟩⟩
        · refine w_iincB (j := 0) (f := fun z20_ => [(1, vI z20_), (0, vR (9, b, w))]) dX9_yardsHeldFree_30 rfl (by decide) (fun _ => rfl) (rfl : v1_2.toInt = v1_2.toInt) li_1 (lf_c_X9_yardsHeldFree_0 v1_2 hv0_2 h2_ ) (fun z20_ h21_ => ?_)
          refine w_goto (tgt := 2) dX9_yardsHeldFree_33 (by decide) ?_
          refine w_loc (ls' := [(1, vI z20_), (0, vR (9, b, w))]) [0, 1] rfl ?_
          exact ih_2 z20_ (lf_c_X5_takeFrom_3 v1_2 z20_ hv0_2 h21_ ) (lf_c_X9_yardsHeldFree_3 v1_2 z20_ h2_ h21_ ) (RCH.tail hL_2 ⟨hv0_2, hv1_2, h2_, z3_, e4_, z5_, e6_, z7_, h8_, r9_, hs13_, h12_, r14_, hs18_, h19_, z20_, h21_, rfl⟩) (Nat.lt_of_lt_of_le (lf_c_X9_yardsHeldFree_4 v1_2 z20_ h2_ h21_ ) (Nat.le_of_lt_succ hm_2))
  exact lp1_ _ 0 (lf_c_X5_takeFrom_5 ) (lf_c_X9_yardsHeldFree_6 ) RCH.refl (Nat.lt_succ_self _)
def S_c_X9_turn (b : Nat) (w : Nat) : rf → Nat → Prop := fun c k => (c.1 = 9 ∧ c.2.1 = b ∧ c.2.2 = w ∧ k = 2) ∨ False
def SP_X9_turn (b : Nat) (w : Nat) (v : Int32) (Mz : mM) (M_ : mM) : Prop := ∃ z1_ : Int32, (z1_ = Mz.1 (9, b, w) 2) ∧ ∃ z3_ : Int32, (z3_ = z1_ + v) ∧ ∃ z5_ : Int32, (z5_ = z3_ &&& (7 : Int32)) ∧ (0 ≤ z5_.toInt ∧ z5_.toInt < ((2 ^ 3 : Nat) : Int)) ∧ ∃ M8_ : mM, (M8_ = up Mz (9, b, w) 2 z5_) ∧ M_ = M8_
set_option maxHeartbeats 4000000 in
set_option maxRecDepth 100000 in
theorem c_X9_turn (l : Launch) (G : va_G) (cy : Nat → ClassId) (ad : rf → Nat) (d : Nat) (b : Nat) (w : Nat) (v : Int32) (Mz : mM) (hIz : Inv Mz) (hb : b < 3) (hw : w < 8) : WP CC l G cy ad yX9_turn cX9_turn 2 none d 0 [(0, vR (9, b, w)), (1, vI v)] [] Mz (fun r M' => Inv M' ∧ FR (S_c_X9_turn b w) Mz M' ∧ (True) ∧ SP_X9_turn b w v Mz M') := by
  have hFz : FR (S_c_X9_turn b w) Mz Mz := FR.self
  refine w_aload_n dX9_turn_0 rfl 0 rfl ?_
  refine w_aload_n dX9_turn_1 rfl 0 rfl ?_
  refine w_getI fl_RX9_16 rfl rfl (ic_9 hb hw) dX9_turn_2 (fun z1_ e2_ => ?_)
  refine w_iload_n dX9_turn_5 rfl 1 rfl ?_
  refine w_iadd dX9_turn_6 (fun z3_ h4_ => ?_)
  refine w_bipush (v := 7) dX9_turn_7 (by decide) ?_
  refine w_iand dX9_turn_9 (fun z5_ h7_ => ?_)
  have h6_ : 0 ≤ z5_.toInt ∧ z5_.toInt < ((2 ^ 3 : Nat) : Int) := by rw [h7_]; exact andI _ 3 (by decide) (by decide)
  refine w_putI CC_nd fl_RX9_16 rfl rfl (ic_9 hb hw) dX9_turn_10 (fun M8_ hM9_ => ?_)
  have hI10_ := hIz.put hM9_ (fun h => absurd h (by decide))
  have hF11_ := hFz.put hM9_ (Or.inl ⟨rfl, rfl, rfl, rfl⟩)
  exact w_vret rfl dX9_turn_13 ⟨hI10_, hF11_, trivial, ⟨z1_, e2_, z3_, h4_, z5_, h7_, h6_, M8_, hM9_, rfl⟩⟩
def S_c_X9_takeFrom (b : Nat) (w : Nat) (b2 : Nat) (w2 : Nat) : rf → Nat → Prop := fun c k => (c.1 = 9 ∧ c.2.1 = b ∧ c.2.2 = w ∧ k = 0) ∨ (c.1 = 9 ∧ c.2.1 = b ∧ c.2.2 = w ∧ k = 1) ∨ (c.1 = 9 ∧ c.2.1 = b ∧ c.2.2 = w ∧ k = 2) ∨ (c.1 = 9 ∧ c.2.1 = b ∧ c.2.2 = w ∧ k = 3) ∨ (c.1 = 9 ∧ c.2.1 = b ∧ c.2.2 = w ∧ k = 4) ∨ (c.1 = 9 ∧ c.2.1 = b ∧ c.2.2 = w ∧ k = 5) ∨ (c.1 = 9 ∧ c.2.1 = b ∧ c.2.2 = w ∧ k = 6) ∨ (c.1 = 9 ∧ c.2.1 = b ∧ c.2.2 = w ∧ k = 7) ∨ (c.1 = 9 ∧ c.2.1 = b ∧ c.2.2 = w ∧ k = 8) ∨ (c.1 = 40 ∧ c.2.1 = b ∧ c.2.2 = w) ∨ (c.1 = 41 ∧ c.2.1 = b ∧ c.2.2 = w) ∨ False
def SP_X9_takeFrom (b : Nat) (w : Nat) (b2 : Nat) (w2 : Nat) (Mz : mM) (M_ : mM) : Prop := ∃ z1_ : Int32, (z1_ = Mz.1 (9, b2, w2) 0) ∧ ∃ M3_ : mM, (M3_ = up Mz (9, b, w) 0 z1_) ∧ ∃ z7_ : Int32, (z7_ = M3_.1 (9, b2, w2) 1) ∧ ∃ M9_ : mM, (M9_ = up M3_ (9, b, w) 1 z7_) ∧ ∃ z13_ : Int32, (z13_ = M9_.1 (9, b2, w2) 2) ∧ ∃ M15_ : mM, (M15_ = up M9_ (9, b, w) 2 z13_) ∧ ∃ z19_ : Int32, (z19_ = M15_.1 (9, b2, w2) 3) ∧ ∃ M21_ : mM, (M21_ = up M15_ (9, b, w) 3 z19_) ∧ ∃ z25_ : Int32, (z25_ = M21_.1 (9, b2, w2) 4) ∧ ∃ M27_ : mM, (M27_ = up M21_ (9, b, w) 4 z25_) ∧ ∃ z31_ : Int32, (z31_ = M27_.1 (9, b2, w2) 5) ∧ ∃ M33_ : mM, (M33_ = up M27_ (9, b, w) 5 z31_) ∧ ∃ z37_ : Int32, (z37_ = M33_.1 (9, b2, w2) 6) ∧ (0 ≤ z37_.toInt ∧ z37_.toInt ≤ 1) ∧ ∃ M40_ : mM, (M40_ = up M33_ (9, b, w) 6 z37_) ∧ ∃ z44_ : Int32, (z44_ = M40_.1 (9, b2, w2) 7) ∧ ∃ M46_ : mM, (M46_ = up M40_ (9, b, w) 7 z44_) ∧ ∃ z50_ : Int32, (z50_ = M46_.1 (9, b2, w2) 8) ∧ ∃ M52_ : mM, (M52_ = up M46_ (9, b, w) 8 z50_) ∧ ∃ M56_ : mM, (M56_ = cp M52_ (40, b2, w2) (40, b, w) (0 : Int32).toNatClampNeg (0 : Int32).toNatClampNeg (192 : Int32).toNatClampNeg) ∧ ∃ M60_ : mM, (M60_ = cp M56_ (41, b2, w2) (41, b, w) (0 : Int32).toNatClampNeg (0 : Int32).toNatClampNeg (192 : Int32).toNatClampNeg) ∧ M_ = M60_
set_option maxHeartbeats 4000000 in
set_option maxRecDepth 100000 in
theorem c_X9_takeFrom (l : Launch) (G : va_G) (cy : Nat → ClassId) (ad : rf → Nat) (d : Nat) (b : Nat) (w : Nat) (b2 : Nat) (w2 : Nat) (Mz : mM) (hIz : Inv Mz) (hb : b < 3) (hw : w < 8) (hb2 : b2 < 3) (hw2 : w2 < 8) : WP CC l G cy ad yX9_takeFrom cX9_takeFrom 2 none (d + 1) 0 [(0, vR (9, b, w)), (1, vR (9, b2, w2))] [] Mz (fun r M' => Inv M' ∧ FR (S_c_X9_takeFrom b w b2 w2) Mz M' ∧ (True) ∧ SP_X9_takeFrom b w b2 w2 Mz M') := by
  have hFz : FR (S_c_X9_takeFrom b w b2 w2) Mz Mz := FR.self
  refine w_aload_n dX9_takeFrom_0 rfl 0 rfl ?_
  refine w_aload_n dX9_takeFrom_1 rfl 1 rfl ?_
  refine w_getI fl_RX9_7 rfl rfl (ic_9 hb2 hw2) dX9_takeFrom_2 (fun z1_ e2_ => ?_)
  refine w_putI CC_nd fl_RX9_7 rfl rfl (ic_9 hb hw) dX9_takeFrom_5 (fun M3_ hM4_ => ?_)
  have hI5_ := hIz.put hM4_ (fun h => absurd h (by decide))
  have hF6_ := hFz.put hM4_ (Or.inl ⟨rfl, rfl, rfl, rfl⟩)
  refine w_aload_n dX9_takeFrom_8 rfl 0 rfl ?_
  refine w_aload_n dX9_takeFrom_9 rfl 1 rfl ?_
  refine w_getI fl_RX9_13 rfl rfl (ic_9 hb2 hw2) dX9_takeFrom_10 (fun z7_ e8_ => ?_)
  refine w_putI CC_nd fl_RX9_13 rfl rfl (ic_9 hb hw) dX9_takeFrom_13 (fun M9_ hM10_ => ?_)
  have hI11_ := hI5_.put hM10_ (fun h => absurd h (by decide))
  have hF12_ := hF6_.put hM10_ (Or.inr (Or.inl ⟨rfl, rfl, rfl, rfl⟩))
  refine w_aload_n dX9_takeFrom_16 rfl 0 rfl ?_
  refine w_aload_n dX9_takeFrom_17 rfl 1 rfl ?_
  refine w_getI fl_RX9_16 rfl rfl (ic_9 hb2 hw2) dX9_takeFrom_18 (fun z13_ e14_ => ?_)
  refine w_putI CC_nd fl_RX9_16 rfl rfl (ic_9 hb hw) dX9_takeFrom_21 (fun M15_ hM16_ => ?_)
  have hI17_ := hI11_.put hM16_ (fun h => absurd h (by decide))
  have hF18_ := hF12_.put hM16_ (Or.inr (Or.inr (Or.inl ⟨rfl, rfl, rfl, rfl⟩)))
  refine w_aload_n dX9_takeFrom_24 rfl 0 rfl ?_
  refine w_aload_n dX9_takeFrom_25 rfl 1 rfl ?_
  refine w_getI fl_RX9_19 rfl rfl (ic_9 hb2 hw2) dX9_takeFrom_26 (fun z19_ e20_ => ?_)
  refine w_putI CC_nd fl_RX9_19 rfl rfl (ic_9 hb hw) dX9_takeFrom_29 (fun M21_ hM22_ => ?_)
  have hI23_ := hI17_.put hM22_ (fun h => absurd h (by decide))
  have hF24_ := hF18_.put hM22_ (Or.inr (Or.inr (Or.inr (Or.inl ⟨rfl, rfl, rfl, rfl⟩))))
  refine w_aload_n dX9_takeFrom_32 rfl 0 rfl ?_
  refine w_aload_n dX9_takeFrom_33 rfl 1 rfl ?_
  refine w_getI fl_RX9_22 rfl rfl (ic_9 hb2 hw2) dX9_takeFrom_34 (fun z25_ e26_ => ?_)
  refine w_putI CC_nd fl_RX9_22 rfl rfl (ic_9 hb hw) dX9_takeFrom_37 (fun M27_ hM28_ => ?_)
  have hI29_ := hI23_.put hM28_ (fun h => absurd h (by decide))
  have hF30_ := hF24_.put hM28_ (Or.inr (Or.inr (Or.inr (Or.inr (Or.inl ⟨rfl, rfl, rfl, rfl⟩)))))
  refine w_aload_n dX9_takeFrom_40 rfl 0 rfl ?_
  refine w_aload_n dX9_takeFrom_41 rfl 1 rfl ?_
  refine w_getI fl_RX9_25 rfl rfl (ic_9 hb2 hw2) dX9_takeFrom_42 (fun z31_ e32_ => ?_)
  refine w_putI CC_nd fl_RX9_25 rfl rfl (ic_9 hb hw) dX9_takeFrom_45 (fun M33_ hM34_ => ?_)
  have hI35_ := hI29_.put hM34_ (fun h => absurd h (by decide))
  have hF36_ := hF30_.put hM34_ (Or.inr (Or.inr (Or.inr (Or.inr (Or.inr (Or.inl ⟨rfl, rfl, rfl, rfl⟩))))))
  refine w_aload_n dX9_takeFrom_48 rfl 0 rfl ?_
  refine w_aload_n dX9_takeFrom_49 rfl 1 rfl ?_
  refine w_getI fl_RX9_28 rfl rfl (ic_9 hb2 hw2) dX9_takeFrom_50 (fun z37_ e38_ => ?_)
  have h39_ : 0 ≤ z37_.toInt ∧ z37_.toInt ≤ 1 := ofEq (P := fun v => 0 ≤ v.toInt ∧ v.toInt ≤ 1) e38_ (hI35_ (9, b2, w2) 6 rfl)
  refine w_putZ CC_nd fl_RX9_28 rfl rfl (ic_9 hb hw) h39_ dX9_takeFrom_53 (fun M40_ hM41_ => ?_)
  have hI42_ := hI35_.put hM41_ (fun _ => h39_)
  have hF43_ := hF36_.put hM41_ (Or.inr (Or.inr (Or.inr (Or.inr (Or.inr (Or.inr (Or.inl ⟨rfl, rfl, rfl, rfl⟩)))))))
  refine w_aload_n dX9_takeFrom_56 rfl 0 rfl ?_
  refine w_aload_n dX9_takeFrom_57 rfl 1 rfl ?_
  refine w_getI fl_RX9_32 rfl rfl (ic_9 hb2 hw2) dX9_takeFrom_58 (fun z44_ e45_ => ?_)
  refine w_putI CC_nd fl_RX9_32 rfl rfl (ic_9 hb hw) dX9_takeFrom_61 (fun M46_ hM47_ => ?_)
  have hI48_ := hI42_.put hM47_ (fun h => absurd h (by decide))
  have hF49_ := hF43_.put hM47_ (Or.inr (Or.inr (Or.inr (Or.inr (Or.inr (Or.inr (Or.inr (Or.inl ⟨rfl, rfl, rfl, rfl⟩))))))))
  refine w_aload_n dX9_takeFrom_64 rfl 0 rfl ?_
  refine w_aload_n dX9_takeFrom_65 rfl 1 rfl ?_
  refine w_getI fl_RX9_35 rfl rfl (ic_9 hb2 hw2) dX9_takeFrom_66 (fun z50_ e51_ => ?_)
  refine w_putI CC_nd fl_RX9_35 rfl rfl (ic_9 hb hw) dX9_takeFrom_69 (fun M52_ hM53_ => ?_)
  have hI54_ := hI48_.put hM53_ (fun h => absurd h (by decide))
  have hF55_ := hF49_.put hM53_ (Or.inr (Or.inr (Or.inr (Or.inr (Or.inr (Or.inr (Or.inr (Or.inr (Or.inl ⟨rfl, rfl, rfl, rfl⟩)))))))))
  refine w_aload_n dX9_takeFrom_72 rfl 1 rfl ?_
  refine w_getR (c' := (40, b2, w2)) fl_RX9_40 rfl rfl (ic_9 hb2 hw2) dX9_takeFrom_73 rfl ?_
  refine w_iconst (v := 0) dX9_takeFrom_76 (by decide) ?_
  refine w_aload_n dX9_takeFrom_77 rfl 0 rfl ?_
  refine w_getR (c' := (40, b, w)) fl_RX9_40 rfl rfl (ic_9 hb hw) dX9_takeFrom_78 rfl ?_
  refine w_iconst (v := 0) dX9_takeFrom_81 (by decide) ?_
  refine w_sipush (v := 192) dX9_takeFrom_82 (by decide) ?_
  refine w_copy CC_nd rfl rfl (ic_40 hb2 hw2) rfl rfl (ic_40 hb hw) m_1279 m_830 m_829 m_98 li_0 li_0 li_192 (by decide) rfl (by omega) dX9_takeFrom_85 (fun M56_ hM57_ => ?_)
  have hI58_ := hI54_.cpy hM57_ (fun _ _ => trivial)
  have hF59_ := hF55_.cpy hM57_ (fun _ => (Or.inr (Or.inr (Or.inr (Or.inr (Or.inr (Or.inr (Or.inr (Or.inr (Or.inr (Or.inl ⟨rfl, rfl, rfl⟩)))))))))))
  refine w_aload_n dX9_takeFrom_88 rfl 1 rfl ?_
  refine w_getR (c' := (41, b2, w2)) fl_RX9_44 rfl rfl (ic_9 hb2 hw2) dX9_takeFrom_89 rfl ?_
  refine w_iconst (v := 0) dX9_takeFrom_92 (by decide) ?_
  refine w_aload_n dX9_takeFrom_93 rfl 0 rfl ?_
  refine w_getR (c' := (41, b, w)) fl_RX9_44 rfl rfl (ic_9 hb hw) dX9_takeFrom_94 rfl ?_
  refine w_iconst (v := 0) dX9_takeFrom_97 (by decide) ?_
  refine w_sipush (v := 192) dX9_takeFrom_98 (by decide) ?_
  refine w_copy CC_nd rfl rfl (ic_41 hb2 hw2) rfl rfl (ic_41 hb hw) m_1279 m_830 m_829 m_98 li_0 li_0 li_192 (by decide) rfl (by omega) dX9_takeFrom_101 (fun M60_ hM61_ => ?_)
  have hI62_ := hI58_.cpy hM61_ (fun _ _ => trivial)
  have hF63_ := hF59_.cpy hM61_ (fun _ => (Or.inr (Or.inr (Or.inr (Or.inr (Or.inr (Or.inr (Or.inr (Or.inr (Or.inr (Or.inr (Or.inl ⟨rfl, rfl, rfl⟩))))))))))))
  exact w_vret rfl dX9_takeFrom_104 ⟨hI62_, hF63_, trivial, ⟨z1_, e2_, M3_, hM4_, z7_, e8_, M9_, hM10_, z13_, e14_, M15_, hM16_, z19_, e20_, M21_, hM22_, z25_, e26_, M27_, hM28_, z31_, e32_, M33_, hM34_, z37_, e38_, h39_, M40_, hM41_, z44_, e45_, M46_, hM47_, z50_, e51_, M52_, hM53_, M56_, hM57_, M60_, hM61_, rfl⟩⟩
def SP_X6_isMissing (w : Nat) (Mz : mM) (r_ : Int32) : Prop := ∃ z1_ : Int32, (z1_ = Mz.1 (6, 0, w) 0) ∧ (((¬ z1_.toInt = 0) ∧ r_ = 0) ∨ ((z1_.toInt = 0) ∧ r_ = 1))
set_option maxHeartbeats 4000000 in
set_option maxRecDepth 100000 in
theorem c_X6_isMissing (l : Launch) (G : va_G) (cy : Nat → ClassId) (ad : rf → Nat) (d : Nat) (w : Nat) (Mz : mM) (hIz : Inv Mz) (hw : w < 4) : WP CC l G cy ad yX6_isMissing cX6_isMissing 1 (some .boolean) d 0 [(0, vR (6, 0, w))] [] Mz (fun r M' => Mz = M' ∧ ((0 ≤ r.toInt ∧ r.toInt ≤ 1)) ∧ SP_X6_isMissing w Mz r) := by
  refine w_aload_n dX6_isMissing_0 rfl 0 rfl ?_
  refine w_getI fl_RX6_7 rfl rfl (ic_6 hw) dX6_isMissing_1 (fun z1_ e2_ => ?_)
  refine w_if_ne (tgt := 11) dX6_isMissing_4 (by decide) (rfl : z1_.toInt = z1_.toInt) (fun h3_ => ?_) (fun h3_ => ?_)
  · refine w_iconst (v := 0) dX6_isMissing_11 (by decide) ?_
    exact w_zret rfl dX6_isMissing_12 ⟨by decide, by decide⟩ ⟨rfl, ⟨by decide, by decide⟩, ⟨z1_, e2_, (Or.inl ⟨h3_, rfl⟩)⟩⟩
  · refine w_iconst (v := 1) dX6_isMissing_7 (by decide) ?_
    refine w_goto (tgt := 12) dX6_isMissing_8 (by decide) ?_
    exact w_zret rfl dX6_isMissing_12 ⟨by decide, by decide⟩ ⟨rfl, ⟨by decide, by decide⟩, ⟨z1_, e2_, (Or.inr ⟨h3_, rfl⟩)⟩⟩
def S_c_X6_drop (w : Nat) : rf → Nat → Prop := fun c k => (c.1 = 6 ∧ c.2.1 = 0 ∧ c.2.2 = w ∧ k = 0) ∨ (c.1 = 6 ∧ c.2.1 = 0 ∧ c.2.2 = w ∧ k = 1) ∨ False
def SP_X6_drop (w : Nat) (Mz : mM) (M_ : mM) : Prop := ∃ M1_ : mM, (M1_ = up Mz (6, 0, w) 0 0) ∧ ∃ M5_ : mM, (M5_ = up M1_ (6, 0, w) 1 0) ∧ M_ = M5_
set_option maxHeartbeats 4000000 in
set_option maxRecDepth 100000 in
theorem c_X6_drop (l : Launch) (G : va_G) (cy : Nat → ClassId) (ad : rf → Nat) (d : Nat) (w : Nat) (Mz : mM) (hIz : Inv Mz) (hw : w < 4) : WP CC l G cy ad yX6_drop cX6_drop 1 none d 0 [(0, vR (6, 0, w))] [] Mz (fun r M' => Inv M' ∧ FR (S_c_X6_drop w) Mz M' ∧ (True) ∧ SP_X6_drop w Mz M') := by
  have hFz : FR (S_c_X6_drop w) Mz Mz := FR.self
  refine w_aload_n dX6_drop_0 rfl 0 rfl ?_
  refine w_iconst (v := 0) dX6_drop_1 (by decide) ?_
  refine w_putI CC_nd fl_RX6_7 rfl rfl (ic_6 hw) dX6_drop_2 (fun M1_ hM2_ => ?_)
  have hI3_ := hIz.put hM2_ (fun h => absurd h (by decide))
  have hF4_ := hFz.put hM2_ (Or.inl ⟨rfl, rfl, rfl, rfl⟩)
  refine w_aload_n dX6_drop_5 rfl 0 rfl ?_
  refine w_iconst (v := 0) dX6_drop_6 (by decide) ?_
  refine w_putI CC_nd fl_RX6_13 rfl rfl (ic_6 hw) dX6_drop_7 (fun M5_ hM6_ => ?_)
  have hI7_ := hI3_.put hM6_ (fun _ => ⟨by decide, by decide⟩)
  have hF8_ := hF4_.put hM6_ (Or.inr (Or.inl ⟨rfl, rfl, rfl, rfl⟩))
  exact w_vret rfl dX6_drop_10 ⟨hI7_, hF8_, trivial, ⟨M1_, hM2_, M5_, hM6_, rfl⟩⟩
def S_c_X6_begin (w : Nat) : rf → Nat → Prop := fun c k => (c.1 = 6 ∧ c.2.1 = 0 ∧ c.2.2 = w ∧ k = 0) ∨ (c.1 = 6 ∧ c.2.1 = 0 ∧ c.2.2 = w ∧ k = 1) ∨ (c.1 = 34 ∧ c.2.1 = 0 ∧ c.2.2 = w) ∨ False
def ST_X6_begin_21 (w : Nat) (Mz : mM) (v3_21 : Int32) (M_21 : mM) (v3_21y : Int32) (M_21y : mM) : Prop := (0 ≤ v3_21.toInt) ∧ (v3_21.toInt ≤ 24) ∧ (Inv M_21) ∧ (FR (S_c_X6_begin w) Mz M_21) ∧ (v3_21.toInt < 24) ∧ ∃ j17_ : Nat, ((j17_ : Int) = v3_21.toInt) ∧ ∃ M15_ : mM, (M15_ = up M_21 (34, 0, w) j17_ 0) ∧ ∃ z21_ : Int32, (z21_.toInt = v3_21.toInt + 1) ∧ v3_21y = z21_ ∧ M_21y = M15_
def SP_X6_begin (w : Nat) (v : Int32) (u : Int32) (Mz : mM) (M_ : mM) : Prop := ∃ M1_ : mM, (M1_ = up Mz (6, 0, w) 0 v) ∧ ∃ z5_ : Int32, ((z5_.toInt = 24 ∧ 24 ≤ u.toInt) ∨ (z5_.toInt = u.toInt ∧ u.toInt ≤ 24)) ∧ ∃ z7_ : Int32, ((z7_.toInt = 0 ∧ z5_.toInt ≤ 0) ∨ (z7_.toInt = z5_.toInt ∧ 0 ≤ z5_.toInt)) ∧ ∃ M9_ : mM, (M9_ = up M1_ (6, 0, w) 1 z7_) ∧ ∃ v3_21 : Int32, (0 ≤ v3_21.toInt) ∧ (v3_21.toInt ≤ 24) ∧ ∃ M_21 : mM, (RCH (fun x_ y_ => ST_X6_begin_21 w Mz x_.1 x_.2 y_.1 y_.2) ((0 : Int32), M9_) (v3_21, M_21)) ∧ (Inv M_21) ∧ (FR (S_c_X6_begin w) Mz M_21) ∧ (24 ≤ v3_21.toInt) ∧ M_ = M_21
theorem lf_c_X6_begin_0 (u : Int32) (z5_ : Int32) (z7_ : Int32) (h6_ : (z5_.toInt = 24 ∧ 24 ≤ u.toInt) ∨ (z5_.toInt = u.toInt ∧ u.toInt ≤ 24)) (h8_ : (z7_.toInt = 0 ∧ z5_.toInt ≤ 0) ∨ (z7_.toInt = z5_.toInt ∧ 0 ≤ z5_.toInt)) : 0 ≤ z7_.toInt ∧ z7_.toInt ≤ 24 := by omega
theorem lf_c_X6_begin_1 (v3_21 : Int32) (hv0_21 : 0 ≤ v3_21.toInt) (h14_ : v3_21.toInt < 24) : 0 ≤ v3_21.toInt ∧ v3_21.toInt < ((24 : Nat) : Int) := by omega
theorem lf_c_X6_begin_2 (v3_21 : Int32) (hv0_21 : 0 ≤ v3_21.toInt) (h14_ : v3_21.toInt < 24) : -2147483648 ≤ v3_21.toInt + 1 ∧ v3_21.toInt + 1 < 2147483648 := by omega
theorem lf_c_X6_begin_4 (v3_21 : Int32) (z21_ : Int32) (h14_ : v3_21.toInt < 24) (h22_ : z21_.toInt = v3_21.toInt + 1) : z21_.toInt ≤ 24 := by omega
theorem lf_c_X6_begin_5 (v3_21 : Int32) (z21_ : Int32) (h14_ : v3_21.toInt < 24) (h22_ : z21_.toInt = v3_21.toInt + 1) : (2147483648 - z21_.toInt).toNat < (2147483648 - v3_21.toInt).toNat := by omega
theorem lf_c_X6_begin_7 : (0 : Int32).toInt ≤ 24 := by have q0 := li_0; omega
set_option maxHeartbeats 4000000 in
set_option maxRecDepth 100000 in
theorem c_X6_begin (l : Launch) (G : va_G) (cy : Nat → ClassId) (ad : rf → Nat) (d : Nat) (w : Nat) (v : Int32) (u : Int32) (Mz : mM) (hIz : Inv Mz) (hw : w < 4) : WP CC l G cy ad yX6_begin cX6_begin 4 none (d + 1) 0 [(0, vR (6, 0, w)), (1, vI v), (2, vI u)] [] Mz (fun r M' => Inv M' ∧ FR (S_c_X6_begin w) Mz M' ∧ (True) ∧ SP_X6_begin w v u Mz M') := by
  have hFz : FR (S_c_X6_begin w) Mz Mz := FR.self
  refine w_aload_n dX6_begin_0 rfl 0 rfl ?_
  refine w_iload_n dX6_begin_1 rfl 1 rfl ?_
  refine w_putI CC_nd fl_RX6_7 rfl rfl (ic_6 hw) dX6_begin_2 (fun M1_ hM2_ => ?_)
  have hI3_ := hIz.put hM2_ (fun h => absurd h (by decide))
  have hF4_ := hFz.put hM2_ (Or.inl ⟨rfl, rfl, rfl, rfl⟩)
  refine w_aload_n dX6_begin_5 rfl 0 rfl ?_
  refine w_iconst (v := 0) dX6_begin_6 (by decide) ?_
  refine w_bipush (v := 24) dX6_begin_7 (by decide) ?_
  refine w_iload_n dX6_begin_9 rfl 2 rfl ?_
  refine w_min m_1230 m_770 m_86 m_771 li_24 (rfl : u.toInt = u.toInt) (Nat.le_of_ble_eq_true rfl) (by omega) dX6_begin_10 (fun z5_ h6_ => ?_)
  refine w_max m_1231 m_206 m_86 m_207 li_0 (rfl : z5_.toInt = z5_.toInt) (Nat.le_of_ble_eq_true rfl) (by omega) dX6_begin_13 (fun z7_ h8_ => ?_)
  refine w_putI CC_nd fl_RX6_13 rfl rfl (ic_6 hw) dX6_begin_16 (fun M9_ hM10_ => ?_)
  have hI11_ := hI3_.put hM10_ (fun _ => (lf_c_X6_begin_0 u z5_ z7_ h6_ h8_ ))
  have hF12_ := hF4_.put hM10_ (Or.inr (Or.inl ⟨rfl, rfl, rfl, rfl⟩))
  refine w_iconst (v := 0) dX6_begin_19 (by decide) ?_
  refine w_istore_n (ls' := [(3, vI 0), (0, vR (6, 0, w)), (1, vI v), (2, vI u)]) dX6_begin_20 rfl (by decide) rfl ?_
  have lp13_ : ∀ (nn_21 : Nat) (M_21 : mM) (hI_21 : Inv M_21) (hF_21 : FR (S_c_X6_begin w) Mz M_21) (v3_21 : Int32) (hv0_21 : 0 ≤ v3_21.toInt) (hv1_21 : v3_21.toInt ≤ 24) (hL_21 : RCH (fun x_ y_ => ST_X6_begin_21 w Mz x_.1 x_.2 y_.1 y_.2) ((0 : Int32), M9_) (v3_21, M_21)), (2147483648 - v3_21.toInt).toNat < nn_21 → WP CC l G cy ad yX6_begin cX6_begin 4 none (d + 1) 21 [(3, vI v3_21), (0, vR (6, 0, w)), (1, vI v), (2, vI u)] [] M_21 (fun r M' => Inv M' ∧ FR (S_c_X6_begin w) Mz M' ∧ (True) ∧ SP_X6_begin w v u Mz M') := by
    intro nn_21
    induction nn_21 with
    | zero => intro M_21 hI_21 hF_21 v3_21 hv0_21 hv1_21 hL_21 hm_21; exact absurd hm_21 (Nat.not_lt_zero _)
    | succ nn_21 ih_21 =>
      intro M_21 hI_21 hF_21 v3_21 hv0_21 hv1_21 hL_21 hm_21
      refine w_iload_n dX6_begin_21 rfl 0 rfl ?_
      refine w_bipush (v := 24) dX6_begin_22 (by decide) ?_
      refine w_icmp_ge (tgt := 40) dX6_begin_24 (by decide) (rfl : v3_21.toInt = v3_21.toInt) li_24 (fun h14_ => ?_) (fun h14_ => ?_)
      · exact w_vret rfl dX6_begin_40 ⟨hI_21, hF_21, trivial, ⟨M1_, hM2_, z5_, h6_, z7_, h8_, M9_, hM10_, v3_21, hv0_21, hv1_21, M_21, hL_21, hI_21, hF_21, h14_, rfl⟩⟩
      · refine w_aload_n dX6_begin_27 rfl 1 rfl ?_
        refine w_getR (c' := (34, 0, w)) fl_RX6_16 rfl rfl (ic_6 hw) dX6_begin_28 rfl ?_
        refine w_iload_n dX6_begin_31 rfl 0 rfl ?_
        refine w_iconst (v := 0) dX6_begin_32 (by decide) ?_
        refine w_iast CC_nd rfl rfl (ic_34 hw) (rfl : v3_21.toInt = v3_21.toInt) (lf_c_X6_begin_1 v3_21 hv0_21 h14_ ) dX6_begin_33 (fun j17_ h18_ M15_ hM16_ => ?_)
        have hI19_ := hI_21.put hM16_ trivial
        have hF20_ := hF_21.put hM16_ (Or.inr (Or.inr (Or.inl ⟨rfl, rfl, rfl⟩)))
        refine w_iincB (j := 0) (f := fun z21_ => [(3, vI z21_), (0, vR (6, 0, w)), (1, vI v), (2, vI u)]) dX6_begin_34 rfl (by decide) (fun _ => rfl) (rfl : v3_21.toInt = v3_21.toInt) li_1 (lf_c_X6_begin_2 v3_21 hv0_21 h14_ ) (fun z21_ h22_ => ?_)
        refine w_goto (tgt := 21) dX6_begin_37 (by decide) ?_
        refine w_loc (ls' := [(3, vI z21_), (0, vR (6, 0, w)), (1, vI v), (2, vI u)]) [0, 1, 2, 3] rfl ?_
        exact ih_21 M15_ hI19_ hF20_ z21_ (lf_c_X5_takeFrom_3 v3_21 z21_ hv0_21 h22_ ) (lf_c_X6_begin_4 v3_21 z21_ h14_ h22_ ) (RCH.tail hL_21 ⟨hv0_21, hv1_21, hI_21, hF_21, h14_, j17_, h18_, M15_, hM16_, z21_, h22_, rfl, rfl⟩) (Nat.lt_of_lt_of_le (lf_c_X6_begin_5 v3_21 z21_ h14_ h22_ ) (Nat.le_of_lt_succ hm_21))
  exact lp13_ _ M9_ hI11_ hF12_ 0 (lf_c_X5_takeFrom_5 ) (lf_c_X6_begin_7 ) RCH.refl (Nat.lt_succ_self _)
def SP_X6_has (w : Nat) (v : Int32) (Mz : mM) (r_ : Int32) : Prop := (((v.toInt < 0) ∧ r_ = 0) ∨ ((0 ≤ v.toInt) ∧ ∃ z2_ : Int32, (z2_ = Mz.1 (6, 0, w) 1) ∧ (0 ≤ z2_.toInt ∧ z2_.toInt ≤ 24) ∧ (((z2_.toInt ≤ v.toInt) ∧ r_ = 0) ∨ ((v.toInt < z2_.toInt) ∧ (v.toInt < 24) ∧ r_ = 1))))
theorem lf_c_X6_has_0 (v : Int32) (z2_ : Int32) (h4_ : 0 ≤ z2_.toInt ∧ z2_.toInt ≤ 24) (h5_ : v.toInt < z2_.toInt) (h9 : 24 ≤ v.toInt) : False := by omega
theorem lf_c_X6_has_1 (v : Int32) (h1_ : 0 ≤ v.toInt) (h6_ : v.toInt < 24) : 0 ≤ v.toInt ∧ v.toInt ≤ 23 := by omega
set_option maxHeartbeats 4000000 in
set_option maxRecDepth 100000 in
theorem c_X6_has (l : Launch) (G : va_G) (cy : Nat → ClassId) (ad : rf → Nat) (d : Nat) (w : Nat) (v : Int32) (Mz : mM) (hIz : Inv Mz) (hw : w < 4) : WP CC l G cy ad yX6_has cX6_has 2 (some .boolean) d 0 [(0, vR (6, 0, w)), (1, vI v)] [] Mz (fun r M' => Mz = M' ∧ (((r = 1 ∧ 0 ≤ v.toInt ∧ v.toInt ≤ 23) ∨ r = 0)) ∧ SP_X6_has w v Mz r) := by
  refine w_iload_n dX6_has_0 rfl 1 rfl ?_
  refine w_if_lt (tgt := 22) dX6_has_1 (by decide) (rfl : v.toInt = v.toInt) (fun h1_ => ?_) (fun h1_ => ?_)
  · refine w_iconst (v := 0) dX6_has_22 (by decide) ?_
    exact w_zret rfl dX6_has_23 ⟨by decide, by decide⟩ ⟨rfl, (Or.inr rfl), (Or.inl ⟨h1_, rfl⟩)⟩
  · refine w_iload_n dX6_has_4 rfl 1 rfl ?_
    refine w_aload_n dX6_has_5 rfl 0 rfl ?_
    refine w_getI fl_RX6_13 rfl rfl (ic_6 hw) dX6_has_6 (fun z2_ e3_ => ?_)
    have h4_ : 0 ≤ z2_.toInt ∧ z2_.toInt ≤ 24 := ofEq (P := fun v => 0 ≤ v.toInt ∧ v.toInt ≤ 24) e3_ (hIz (6, 0, w) 1 rfl)
    refine w_icmp_ge (tgt := 22) dX6_has_9 (by decide) (rfl : v.toInt = v.toInt) (rfl : z2_.toInt = z2_.toInt) (fun h5_ => ?_) (fun h5_ => ?_)
    · refine w_iconst (v := 0) dX6_has_22 (by decide) ?_
      exact w_zret rfl dX6_has_23 ⟨by decide, by decide⟩ ⟨rfl, (Or.inr rfl), (Or.inr ⟨h1_, z2_, e3_, h4_, (Or.inl ⟨h5_, rfl⟩)⟩)⟩
    · refine w_iload_n dX6_has_12 rfl 1 rfl ?_
      refine w_bipush (v := 24) dX6_has_13 (by decide) ?_
      refine w_icmp_ge (tgt := 22) dX6_has_15 (by decide) (rfl : v.toInt = v.toInt) li_24 (fun h9 => (lf_c_X6_has_0 v z2_ h4_ h5_ h9 ).elim) (fun h6_ => ?_)
      refine w_iconst (v := 1) dX6_has_18 (by decide) ?_
      refine w_goto (tgt := 23) dX6_has_19 (by decide) ?_
      exact w_zret rfl dX6_has_23 ⟨by decide, by decide⟩ ⟨rfl, (Or.inl ⟨rfl, (lf_c_X6_has_1 v h1_ h6_ )⟩), (Or.inr ⟨h1_, z2_, e3_, h4_, (Or.inr ⟨h5_, h6_, rfl⟩)⟩)⟩
def SP_X6_numberAt (w : Nat) (v : Int32) (Mz : mM) (r_ : Int32) : Prop := (((SP_X6_has w v Mz (1 : Int32)) ∧ (0 ≤ v.toInt ∧ v.toInt ≤ 23) ∧ ∃ j9_ : Nat, ((j9_ : Int) = v.toInt) ∧ ∃ z7_ : Int32, (z7_ = Mz.1 (34, 0, w) j9_) ∧ r_ = z7_) ∨ ((SP_X6_has w v Mz (0 : Int32)) ∧ r_ = 0))
theorem lf_c_X6_numberAt_0 (v : Int32) (h4_ : 0 ≤ v.toInt ∧ v.toInt ≤ 23) : 0 ≤ v.toInt ∧ v.toInt < ((24 : Nat) : Int) := by omega
set_option maxHeartbeats 4000000 in
set_option maxRecDepth 100000 in
theorem c_X6_numberAt (l : Launch) (G : va_G) (cy : Nat → ClassId) (ad : rf → Nat) (d : Nat) (w : Nat) (v : Int32) (Mz : mM) (hIz : Inv Mz) (hw : w < 4) : WP CC l G cy ad yX6_numberAt cX6_numberAt 2 (some .int) (d + 1) 0 [(0, vR (6, 0, w)), (1, vI v)] [] Mz (fun r M' => Mz = M' ∧ (True) ∧ SP_X6_numberAt w v Mz r) := by
  refine w_aload_n dX6_numberAt_0 rfl 0 rfl ?_
  refine w_iload_n dX6_numberAt_1 rfl 1 rfl ?_
  refine w_callV (as := [vI v]) (rest := []) (c_X6_has l G cy ad d w v Mz hIz hw) kV_X6_has pnn_4 (Nat.le_of_ble_eq_true rfl) m_577 rfl rfl rfl (ic_6 hw) rfl rfl (by decide) (Nat.le_of_ble_eq_true rfl) dX6_numberAt_2 (fun r1_ M2_ q3_ => ?_)
  obtain ⟨rfl, h4_, hs5_⟩ := q3_
  rcases h4_ with ⟨rfl, h4_⟩ | rfl
  · refine w_if_eq (tgt := 17) dX6_numberAt_5 (by decide) li_1 (fun h9 => (absurd h9 (by decide))) (fun h6_ => ?_)
    refine w_aload_n dX6_numberAt_8 rfl 0 rfl ?_
    refine w_getR (c' := (34, 0, w)) fl_RX6_16 rfl rfl (ic_6 hw) dX6_numberAt_9 rfl ?_
    refine w_iload_n dX6_numberAt_12 rfl 1 rfl ?_
    refine w_iald rfl rfl (ic_34 hw) (rfl : v.toInt = v.toInt) (lf_c_X6_numberAt_0 v h4_ ) dX6_numberAt_13 (fun j9_ h10_ z7_ e8_ => ?_)
    refine w_goto (tgt := 18) dX6_numberAt_14 (by decide) ?_
    exact w_iret rfl dX6_numberAt_18 ⟨rfl, trivial, (Or.inl ⟨hs5_, h4_, j9_, h10_, z7_, e8_, rfl⟩)⟩
  · refine w_if_eq (tgt := 17) dX6_numberAt_5 (by decide) li_0 (fun h11_ => ?_) (fun h9 => (absurd h9 (by decide)))
    refine w_iconst (v := 0) dX6_numberAt_17 (by decide) ?_
    exact w_iret rfl dX6_numberAt_18 ⟨rfl, trivial, (Or.inr ⟨hs5_, rfl⟩)⟩
def S_c_X6_store (w : Nat) : rf → Nat → Prop := fun c k => (c.1 = 34 ∧ c.2.1 = 0 ∧ c.2.2 = w) ∨ False
def SP_X6_store (w : Nat) (v : Int32) (u : Int32) (Mz : mM) (M_ : mM) : Prop := (((SP_X6_has w v Mz (1 : Int32)) ∧ (0 ≤ v.toInt ∧ v.toInt ≤ 23) ∧ ∃ z7_ : Int32, (z7_ = Mz.1 (6, 0, w) 0) ∧ (((¬ z7_.toInt = 8) ∧ (((¬ z7_.toInt = 16) ∧ ∃ j15_ : Nat, ((j15_ : Int) = v.toInt) ∧ ∃ M13_ : mM, (M13_ = up Mz (34, 0, w) j15_ u) ∧ M_ = M13_) ∨ ((z7_.toInt = 16) ∧ ∃ z19_ : Int32, (z19_ = u.toInt16.toInt32) ∧ ∃ j23_ : Nat, ((j23_ : Int) = v.toInt) ∧ ∃ M21_ : mM, (M21_ = up Mz (34, 0, w) j23_ z19_) ∧ M_ = M21_))) ∨ ((z7_.toInt = 8) ∧ ∃ z27_ : Int32, (z27_ = u.toInt8.toInt32) ∧ ∃ j31_ : Nat, ((j31_ : Int) = v.toInt) ∧ ∃ M29_ : mM, (M29_ = up Mz (34, 0, w) j31_ z27_) ∧ M_ = M29_))) ∨ ((SP_X6_has w v Mz (0 : Int32)) ∧ M_ = Mz))
set_option maxHeartbeats 4000000 in
set_option maxRecDepth 100000 in
theorem c_X6_store (l : Launch) (G : va_G) (cy : Nat → ClassId) (ad : rf → Nat) (d : Nat) (w : Nat) (v : Int32) (u : Int32) (Mz : mM) (hIz : Inv Mz) (hw : w < 4) : WP CC l G cy ad yX6_store cX6_store 3 none (d + 1) 0 [(0, vR (6, 0, w)), (1, vI v), (2, vI u)] [] Mz (fun r M' => Inv M' ∧ FR (S_c_X6_store w) Mz M' ∧ (True) ∧ SP_X6_store w v u Mz M') := by
  have hFz : FR (S_c_X6_store w) Mz Mz := FR.self
  refine w_aload_n dX6_store_0 rfl 0 rfl ?_
  refine w_iload_n dX6_store_1 rfl 1 rfl ?_
  refine w_callV (as := [vI v]) (rest := []) (c_X6_has l G cy ad d w v Mz hIz hw) kV_X6_has pnn_4 (Nat.le_of_ble_eq_true rfl) m_577 rfl rfl rfl (ic_6 hw) rfl rfl (by decide) (Nat.le_of_ble_eq_true rfl) dX6_store_2 (fun r1_ M2_ q3_ => ?_)
  obtain ⟨rfl, h4_, hs5_⟩ := q3_
  rcases h4_ with ⟨rfl, h4_⟩ | rfl
  · refine w_if_eq (tgt := 43) dX6_store_5 (by decide) li_1 (fun h9 => (absurd h9 (by decide))) (fun h6_ => ?_)
    refine w_aload_n dX6_store_8 rfl 0 rfl ?_
    refine w_getR (c' := (34, 0, w)) fl_RX6_16 rfl rfl (ic_6 hw) dX6_store_9 rfl ?_
    refine w_iload_n dX6_store_12 rfl 1 rfl ?_
    refine w_aload_n dX6_store_13 rfl 0 rfl ?_
    refine w_getI fl_RX6_7 rfl rfl (ic_6 hw) dX6_store_14 (fun z7_ e8_ => ?_)
    refine w_bipush (v := 8) dX6_store_17 (by decide) ?_
    refine w_icmp_ne (tgt := 27) dX6_store_19 (by decide) (rfl : z7_.toInt = z7_.toInt) li_8 (fun h9_ => ?_) (fun h9_ => ?_)
    · refine w_aload_n dX6_store_27 rfl 0 rfl ?_
      refine w_getI fl_RX6_7 rfl rfl (ic_6 hw) dX6_store_28 (fun z10_ e11_ => ?_)
      obtain rfl : z7_ = z10_ := e8_.trans e11_.symm
      refine w_bipush (v := 16) dX6_store_31 (by decide) ?_
      refine w_icmp_ne (tgt := 41) dX6_store_33 (by decide) (rfl : z7_.toInt = z7_.toInt) li_16 (fun h12_ => ?_) (fun h12_ => ?_)
      · refine w_iload_n dX6_store_41 rfl 2 rfl ?_
        refine w_iast CC_nd rfl rfl (ic_34 hw) (rfl : v.toInt = v.toInt) (lf_c_X6_numberAt_0 v h4_ ) dX6_store_42 (fun j15_ h16_ M13_ hM14_ => ?_)
        have hI17_ := hIz.put hM14_ trivial
        have hF18_ := hFz.put hM14_ (Or.inl ⟨rfl, rfl, rfl⟩)
        exact w_vret rfl dX6_store_43 ⟨hI17_, hF18_, trivial, (Or.inl ⟨hs5_, h4_, z7_, e8_, (Or.inl ⟨h9_, (Or.inl ⟨h12_, j15_, h16_, M13_, hM14_, rfl⟩)⟩)⟩)⟩
      · refine w_iload_n dX6_store_36 rfl 2 rfl ?_
        refine w_i2s dX6_store_37 (fun z19_ h20_ => ?_)
        refine w_goto (tgt := 42) dX6_store_38 (by decide) ?_
        refine w_iast CC_nd rfl rfl (ic_34 hw) (rfl : v.toInt = v.toInt) (lf_c_X6_numberAt_0 v h4_ ) dX6_store_42 (fun j23_ h24_ M21_ hM22_ => ?_)
        have hI25_ := hIz.put hM22_ trivial
        have hF26_ := hFz.put hM22_ (Or.inl ⟨rfl, rfl, rfl⟩)
        exact w_vret rfl dX6_store_43 ⟨hI25_, hF26_, trivial, (Or.inl ⟨hs5_, h4_, z7_, e8_, (Or.inl ⟨h9_, (Or.inr ⟨h12_, z19_, h20_, j23_, h24_, M21_, hM22_, rfl⟩)⟩)⟩)⟩
    · refine w_iload_n dX6_store_22 rfl 2 rfl ?_
      refine w_i2b dX6_store_23 (fun z27_ h28_ => ?_)
      refine w_goto (tgt := 42) dX6_store_24 (by decide) ?_
      refine w_iast CC_nd rfl rfl (ic_34 hw) (rfl : v.toInt = v.toInt) (lf_c_X6_numberAt_0 v h4_ ) dX6_store_42 (fun j31_ h32_ M29_ hM30_ => ?_)
      have hI33_ := hIz.put hM30_ trivial
      have hF34_ := hFz.put hM30_ (Or.inl ⟨rfl, rfl, rfl⟩)
      exact w_vret rfl dX6_store_43 ⟨hI33_, hF34_, trivial, (Or.inl ⟨hs5_, h4_, z7_, e8_, (Or.inr ⟨h9_, z27_, h28_, j31_, h32_, M29_, hM30_, rfl⟩)⟩)⟩
  · refine w_if_eq (tgt := 43) dX6_store_5 (by decide) li_0 (fun h35_ => ?_) (fun h9 => (absurd h9 (by decide)))
    exact w_vret rfl dX6_store_43 ⟨hIz, hFz, trivial, (Or.inr ⟨hs5_, rfl⟩)⟩
def SP_X6_hasRun (w : Nat) (v : Int32) (u : Int32) (Mz : mM) (r_ : Int32) : Prop := (((v.toInt < 0) ∧ r_ = 0) ∨ ((0 ≤ v.toInt) ∧ (((u.toInt < 0) ∧ r_ = 0) ∨ ((0 ≤ u.toInt) ∧ ∃ z3_ : Int32, (z3_ = Mz.1 (6, 0, w) 1) ∧ (0 ≤ z3_.toInt ∧ z3_.toInt ≤ 24) ∧ (((z3_.toInt < v.toInt) ∧ r_ = 0) ∨ ((v.toInt ≤ z3_.toInt) ∧ ∃ z9_ : Int32, (z9_.toInt = z3_.toInt - v.toInt) ∧ (((z9_.toInt < u.toInt) ∧ r_ = 0) ∨ ((u.toInt ≤ z9_.toInt) ∧ r_ = 1))))))))
theorem lf_c_X6_hasRun_0 (v : Int32) (z3_ : Int32) (h1_ : 0 ≤ v.toInt) (h5_ : 0 ≤ z3_.toInt ∧ z3_.toInt ≤ 24) (h6_ : v.toInt ≤ z3_.toInt) : -2147483648 ≤ z3_.toInt - v.toInt ∧ z3_.toInt - v.toInt < 2147483648 := by omega
theorem lf_c_X6_hasRun_1 (v : Int32) (u : Int32) (z3_ : Int32) (z9_ : Int32) (h1_ : 0 ≤ v.toInt) (h2_ : 0 ≤ u.toInt) (h5_ : 0 ≤ z3_.toInt ∧ z3_.toInt ≤ 24) (h10_ : z9_.toInt = z3_.toInt - v.toInt) (h11_ : u.toInt ≤ z9_.toInt) : 0 ≤ v.toInt ∧ 0 ≤ u.toInt ∧ v.toInt + u.toInt ≤ 24 := by omega
set_option maxHeartbeats 4000000 in
set_option maxRecDepth 100000 in
theorem c_X6_hasRun (l : Launch) (G : va_G) (cy : Nat → ClassId) (ad : rf → Nat) (d : Nat) (w : Nat) (v : Int32) (u : Int32) (Mz : mM) (hIz : Inv Mz) (hw : w < 4) : WP CC l G cy ad yX6_hasRun cX6_hasRun 3 (some .boolean) d 0 [(0, vR (6, 0, w)), (1, vI v), (2, vI u)] [] Mz (fun r M' => Mz = M' ∧ (((r = 1 ∧ 0 ≤ v.toInt ∧ 0 ≤ u.toInt ∧ v.toInt + u.toInt ≤ 24) ∨ r = 0)) ∧ SP_X6_hasRun w v u Mz r) := by
  refine w_iload_n dX6_hasRun_0 rfl 1 rfl ?_
  refine w_if_lt (tgt := 30) dX6_hasRun_1 (by decide) (rfl : v.toInt = v.toInt) (fun h1_ => ?_) (fun h1_ => ?_)
  · refine w_iconst (v := 0) dX6_hasRun_30 (by decide) ?_
    exact w_zret rfl dX6_hasRun_31 ⟨by decide, by decide⟩ ⟨rfl, (Or.inr rfl), (Or.inl ⟨h1_, rfl⟩)⟩
  · refine w_iload_n dX6_hasRun_4 rfl 2 rfl ?_
    refine w_if_lt (tgt := 30) dX6_hasRun_5 (by decide) (rfl : u.toInt = u.toInt) (fun h2_ => ?_) (fun h2_ => ?_)
    · refine w_iconst (v := 0) dX6_hasRun_30 (by decide) ?_
      exact w_zret rfl dX6_hasRun_31 ⟨by decide, by decide⟩ ⟨rfl, (Or.inr rfl), (Or.inr ⟨h1_, (Or.inl ⟨h2_, rfl⟩)⟩)⟩
    · refine w_iload_n dX6_hasRun_8 rfl 1 rfl ?_
      refine w_aload_n dX6_hasRun_9 rfl 0 rfl ?_
      refine w_getI fl_RX6_13 rfl rfl (ic_6 hw) dX6_hasRun_10 (fun z3_ e4_ => ?_)
      have h5_ : 0 ≤ z3_.toInt ∧ z3_.toInt ≤ 24 := ofEq (P := fun v => 0 ≤ v.toInt ∧ v.toInt ≤ 24) e4_ (hIz (6, 0, w) 1 rfl)
      refine w_icmp_gt (tgt := 30) dX6_hasRun_13 (by decide) (rfl : v.toInt = v.toInt) (rfl : z3_.toInt = z3_.toInt) (fun h6_ => ?_) (fun h6_ => ?_)
      · refine w_iconst (v := 0) dX6_hasRun_30 (by decide) ?_
        exact w_zret rfl dX6_hasRun_31 ⟨by decide, by decide⟩ ⟨rfl, (Or.inr rfl), (Or.inr ⟨h1_, (Or.inr ⟨h2_, z3_, e4_, h5_, (Or.inl ⟨h6_, rfl⟩)⟩)⟩)⟩
      · refine w_iload_n dX6_hasRun_16 rfl 2 rfl ?_
        refine w_aload_n dX6_hasRun_17 rfl 0 rfl ?_
        refine w_getI fl_RX6_13 rfl rfl (ic_6 hw) dX6_hasRun_18 (fun z7_ e8_ => ?_)
        obtain rfl : z3_ = z7_ := e4_.trans e8_.symm
        refine w_iload_n dX6_hasRun_21 rfl 1 rfl ?_
        refine w_isubB dX6_hasRun_22 (rfl : z3_.toInt = z3_.toInt) (rfl : v.toInt = v.toInt) (lf_c_X6_hasRun_0 v z3_ h1_ h5_ h6_ ) (fun z9_ h10_ => ?_)
        refine w_icmp_gt (tgt := 30) dX6_hasRun_23 (by decide) (rfl : u.toInt = u.toInt) (rfl : z9_.toInt = z9_.toInt) (fun h11_ => ?_) (fun h11_ => ?_)
        · refine w_iconst (v := 0) dX6_hasRun_30 (by decide) ?_
          exact w_zret rfl dX6_hasRun_31 ⟨by decide, by decide⟩ ⟨rfl, (Or.inr rfl), (Or.inr ⟨h1_, (Or.inr ⟨h2_, z3_, e4_, h5_, (Or.inr ⟨h6_, z9_, h10_, (Or.inl ⟨h11_, rfl⟩)⟩)⟩)⟩)⟩
        · refine w_iconst (v := 1) dX6_hasRun_26 (by decide) ?_
          refine w_goto (tgt := 31) dX6_hasRun_27 (by decide) ?_
          exact w_zret rfl dX6_hasRun_31 ⟨by decide, by decide⟩ ⟨rfl, (Or.inl ⟨rfl, (lf_c_X6_hasRun_1 v u z3_ z9_ h1_ h2_ h5_ h10_ h11_ )⟩), (Or.inr ⟨h1_, (Or.inr ⟨h2_, z3_, e4_, h5_, (Or.inr ⟨h6_, z9_, h10_, (Or.inr ⟨h11_, rfl⟩)⟩)⟩)⟩)⟩
def ST_X6_holdsFewCells_21 (w : Nat) (Mz : mM) (z1_ : Int32) (v1_21 : Int32) (v1_21y : Int32) : Prop := (0 ≤ v1_21.toInt) ∧ (v1_21.toInt < z1_.toInt) ∧ ∃ r12_ : Int32, (SP_X6_numberAt w v1_21 Mz r12_) ∧ (SP_X7_isCell r12_ Mz (1 : Int32)) ∧ (0 ≤ r12_.toInt ∧ r12_.toInt ≤ 191) ∧ ∃ z23_ : Int32, (z23_.toInt = v1_21.toInt + 1) ∧ v1_21y = z23_
def SP_X6_holdsFewCells (w : Nat) (Mz : mM) (r_ : Int32) : Prop := ∃ z1_ : Int32, (z1_ = Mz.1 (6, 0, w) 1) ∧ (0 ≤ z1_.toInt ∧ z1_.toInt ≤ 24) ∧ (((z1_.toInt < 1) ∧ r_ = 0) ∨ ((1 ≤ z1_.toInt) ∧ (((z1_.toInt ≤ 8) ∧ ∃ v1_21 : Int32, (0 ≤ v1_21.toInt) ∧ (RCH (fun x_ y_ => ST_X6_holdsFewCells_21 w Mz z1_ x_ y_) (0 : Int32) v1_21) ∧ (((z1_.toInt ≤ v1_21.toInt) ∧ r_ = 1) ∨ ((v1_21.toInt < z1_.toInt) ∧ ∃ r12_ : Int32, (SP_X6_numberAt w v1_21 Mz r12_) ∧ (SP_X7_isCell r12_ Mz (0 : Int32)) ∧ (¬ (0 ≤ r12_.toInt ∧ r12_.toInt ≤ 191)) ∧ r_ = 0))) ∨ ((8 < z1_.toInt) ∧ r_ = 0))))
theorem lf_c_X6_holdsFewCells_0 (z1_ : Int32) (v1_21 : Int32) (h7_ : z1_.toInt ≤ 8) (hv0_21 : 0 ≤ v1_21.toInt) (h11_ : v1_21.toInt < z1_.toInt) : -2147483648 ≤ v1_21.toInt + 1 ∧ v1_21.toInt + 1 < 2147483648 := by omega
theorem lf_c_X6_holdsFewCells_2 (z1_ : Int32) (v1_21 : Int32) (z23_ : Int32) (h7_ : z1_.toInt ≤ 8) (h11_ : v1_21.toInt < z1_.toInt) (h24_ : z23_.toInt = v1_21.toInt + 1) : (2147483648 - z23_.toInt).toNat < (2147483648 - v1_21.toInt).toNat := by omega
set_option maxHeartbeats 4000000 in
set_option maxRecDepth 100000 in
theorem c_X6_holdsFewCells (l : Launch) (G : va_G) (cy : Nat → ClassId) (ad : rf → Nat) (d : Nat) (w : Nat) (Mz : mM) (hIz : Inv Mz) (hw : w < 4) : WP CC l G cy ad yX6_holdsFewCells cX6_holdsFewCells 2 (some .boolean) (d + 2) 0 [(0, vR (6, 0, w))] [] Mz (fun r M' => Mz = M' ∧ ((0 ≤ r.toInt ∧ r.toInt ≤ 1)) ∧ SP_X6_holdsFewCells w Mz r) := by
  refine w_aload_n dX6_holdsFewCells_0 rfl 0 rfl ?_
  refine w_getI fl_RX6_13 rfl rfl (ic_6 hw) dX6_holdsFewCells_1 (fun z1_ e2_ => ?_)
  have h3_ : 0 ≤ z1_.toInt ∧ z1_.toInt ≤ 24 := ofEq (P := fun v => 0 ≤ v.toInt ∧ v.toInt ≤ 24) e2_ (hIz (6, 0, w) 1 rfl)
  refine w_iconst (v := 1) dX6_holdsFewCells_4 (by decide) ?_
  refine w_icmp_lt (tgt := 17) dX6_holdsFewCells_5 (by decide) (rfl : z1_.toInt = z1_.toInt) li_1 (fun h4_ => ?_) (fun h4_ => ?_)
  · refine w_iconst (v := 0) dX6_holdsFewCells_17 (by decide) ?_
    exact w_zret rfl dX6_holdsFewCells_18 ⟨by decide, by decide⟩ ⟨rfl, ⟨by decide, by decide⟩, ⟨z1_, e2_, h3_, (Or.inl ⟨h4_, rfl⟩)⟩⟩
  · refine w_aload_n dX6_holdsFewCells_8 rfl 0 rfl ?_
    refine w_getI fl_RX6_13 rfl rfl (ic_6 hw) dX6_holdsFewCells_9 (fun z5_ e6_ => ?_)
    obtain rfl : z1_ = z5_ := e2_.trans e6_.symm
    refine w_bipush (v := 8) dX6_holdsFewCells_12 (by decide) ?_
    refine w_icmp_le (tgt := 19) dX6_holdsFewCells_14 (by decide) (rfl : z1_.toInt = z1_.toInt) li_8 (fun h7_ => ?_) (fun h7_ => ?_)
    · refine w_iconst (v := 0) dX6_holdsFewCells_19 (by decide) ?_
      refine w_istore_n (ls' := [(1, vI 0), (0, vR (6, 0, w))]) dX6_holdsFewCells_20 rfl (by decide) rfl ?_
      have lp8_ : ∀ (nn_21 : Nat) (v1_21 : Int32) (hv0_21 : 0 ≤ v1_21.toInt) (hL_21 : RCH (fun x_ y_ => ST_X6_holdsFewCells_21 w Mz z1_ x_ y_) (0 : Int32) v1_21), (2147483648 - v1_21.toInt).toNat < nn_21 → WP CC l G cy ad yX6_holdsFewCells cX6_holdsFewCells 2 (some .boolean) (d + 2) 21 [(1, vI v1_21), (0, vR (6, 0, w))] [] Mz (fun r M' => Mz = M' ∧ ((0 ≤ r.toInt ∧ r.toInt ≤ 1)) ∧ SP_X6_holdsFewCells w Mz r) := by
        intro nn_21
        induction nn_21 with
        | zero => intro v1_21 hv0_21 hL_21 hm_21; exact absurd hm_21 (Nat.not_lt_zero _)
        | succ nn_21 ih_21 =>
          intro v1_21 hv0_21 hL_21 hm_21
          refine w_iload_n dX6_holdsFewCells_21 rfl 0 rfl ?_
          refine w_aload_n dX6_holdsFewCells_22 rfl 1 rfl ?_
          refine w_getI fl_RX6_13 rfl rfl (ic_6 hw) dX6_holdsFewCells_23 (fun z9_ e10_ => ?_)
          obtain rfl : z1_ = z9_ := e2_.trans e10_.symm
          refine w_icmp_ge (tgt := 48) dX6_holdsFewCells_26 (by decide) (rfl : v1_21.toInt = v1_21.toInt) (rfl : z1_.toInt = z1_.toInt) (fun h11_ => ?_) (fun h11_ => ?_)
          · refine w_iconst (v := 1) dX6_holdsFewCells_48 (by decide) ?_
            exact w_zret rfl dX6_holdsFewCells_49 ⟨by decide, by decide⟩ ⟨rfl, ⟨by decide, by decide⟩, ⟨z1_, e2_, h3_, (Or.inr ⟨h4_, (Or.inl ⟨h7_, v1_21, hv0_21, hL_21, (Or.inl ⟨h11_, rfl⟩)⟩)⟩)⟩⟩
          · refine w_aload_n dX6_holdsFewCells_29 rfl 1 rfl ?_
            refine w_iload_n dX6_holdsFewCells_30 rfl 0 rfl ?_
            refine w_callV (as := [vI v1_21]) (rest := []) (c_X6_numberAt l G cy ad d w v1_21 Mz hIz hw) kV_X6_numberAt pnn_4 (Nat.le_of_ble_eq_true rfl) m_982 rfl rfl rfl (ic_6 hw) rfl rfl (by decide) (Nat.le_of_ble_eq_true rfl) dX6_holdsFewCells_31 (fun r12_ M13_ q14_ => ?_)
            obtain ⟨rfl, h15_, hs16_⟩ := q14_
            refine w_callS (as := [vI r12_]) (rest := []) (c_X7_isCell l G cy ad (d + 1) r12_ Mz hIz) kS_X7_isCell pnn_1 (Nat.le_of_ble_eq_true rfl) m_983 rfl rfl (by decide) (Nat.le_of_ble_eq_true rfl) dX6_holdsFewCells_34 (fun r17_ M18_ q19_ => ?_)
            obtain ⟨rfl, h20_, hs21_⟩ := q19_
            rcases h20_ with ⟨rfl, h20_⟩ | ⟨rfl, h20_⟩
            · refine w_if_ne (tgt := 42) dX6_holdsFewCells_37 (by decide) li_1 (fun h22_ => ?_) (fun h9 => (absurd h9 (by decide)))
              refine w_iincB (j := 0) (f := fun z23_ => [(1, vI z23_), (0, vR (6, 0, w))]) dX6_holdsFewCells_42 rfl (by decide) (fun _ => rfl) (rfl : v1_21.toInt = v1_21.toInt) li_1 (lf_c_X6_holdsFewCells_0 z1_ v1_21 h7_ hv0_21 h11_ ) (fun z23_ h24_ => ?_)
              refine w_goto (tgt := 21) dX6_holdsFewCells_45 (by decide) ?_
              refine w_loc (ls' := [(1, vI z23_), (0, vR (6, 0, w))]) [0, 1] rfl ?_
              exact ih_21 z23_ (lf_c_X5_takeFrom_3 v1_21 z23_ hv0_21 h24_ ) (RCH.tail hL_21 ⟨hv0_21, h11_, r12_, hs16_, hs21_, h20_, z23_, h24_, rfl⟩) (Nat.lt_of_lt_of_le (lf_c_X6_holdsFewCells_2 z1_ v1_21 z23_ h7_ h11_ h24_ ) (Nat.le_of_lt_succ hm_21))
            · refine w_if_ne (tgt := 42) dX6_holdsFewCells_37 (by decide) li_0 (fun h9 => (absurd h9 (by decide))) (fun h25_ => ?_)
              refine w_iconst (v := 0) dX6_holdsFewCells_40 (by decide) ?_
              exact w_zret rfl dX6_holdsFewCells_41 ⟨by decide, by decide⟩ ⟨rfl, ⟨by decide, by decide⟩, ⟨z1_, e2_, h3_, (Or.inr ⟨h4_, (Or.inl ⟨h7_, v1_21, hv0_21, hL_21, (Or.inr ⟨h11_, r12_, hs16_, hs21_, h20_, rfl⟩)⟩)⟩)⟩⟩
      exact lp8_ _ 0 (lf_c_X5_takeFrom_5 ) RCH.refl (Nat.lt_succ_self _)
    · refine w_iconst (v := 0) dX6_holdsFewCells_17 (by decide) ?_
      exact w_zret rfl dX6_holdsFewCells_18 ⟨by decide, by decide⟩ ⟨rfl, ⟨by decide, by decide⟩, ⟨z1_, e2_, h3_, (Or.inr ⟨h4_, (Or.inr ⟨h7_, rfl⟩)⟩)⟩⟩
def ST_X6_hasTwoAlike_12 (w : Nat) (Mz : mM) (v1_2 : Int32) (v2_12 : Int32) (v2_12y : Int32) : Prop := (0 ≤ v2_12.toInt) ∧ (v2_12.toInt < v1_2.toInt) ∧ ∃ r10_ : Int32, (SP_X6_numberAt w v1_2 Mz r10_) ∧ ∃ r15_ : Int32, (SP_X6_numberAt w v2_12 Mz r15_) ∧ (¬ r10_.toInt = r15_.toInt) ∧ ∃ z21_ : Int32, (z21_.toInt = v2_12.toInt + 1) ∧ v2_12y = z21_
def ST_X6_hasTwoAlike_2 (w : Nat) (Mz : mM) (v1_2 : Int32) (v1_2y : Int32) : Prop := (1 ≤ v1_2.toInt) ∧ ∃ z2_ : Int32, (z2_ = Mz.1 (6, 0, w) 1) ∧ (0 ≤ z2_.toInt ∧ z2_.toInt ≤ 24) ∧ (v1_2.toInt < z2_.toInt) ∧ ∃ v2_12 : Int32, (0 ≤ v2_12.toInt) ∧ (RCH (fun x_ y_ => ST_X6_hasTwoAlike_12 w Mz v1_2 x_ y_) (0 : Int32) v2_12) ∧ (v1_2.toInt ≤ v2_12.toInt) ∧ ∃ z8_ : Int32, (z8_.toInt = v1_2.toInt + 1) ∧ v1_2y = z8_
def SP_X6_hasTwoAlike (w : Nat) (Mz : mM) (r_ : Int32) : Prop := ∃ v1_2 : Int32, (1 ≤ v1_2.toInt) ∧ (RCH (fun x_ y_ => ST_X6_hasTwoAlike_2 w Mz x_ y_) (1 : Int32) v1_2) ∧ ∃ z2_ : Int32, (z2_ = Mz.1 (6, 0, w) 1) ∧ (0 ≤ z2_.toInt ∧ z2_.toInt ≤ 24) ∧ (((z2_.toInt ≤ v1_2.toInt) ∧ r_ = 0) ∨ ((v1_2.toInt < z2_.toInt) ∧ ∃ v2_12 : Int32, (0 ≤ v2_12.toInt) ∧ (RCH (fun x_ y_ => ST_X6_hasTwoAlike_12 w Mz v1_2 x_ y_) (0 : Int32) v2_12) ∧ (v2_12.toInt < v1_2.toInt) ∧ ∃ r10_ : Int32, (SP_X6_numberAt w v1_2 Mz r10_) ∧ ∃ r15_ : Int32, (SP_X6_numberAt w v2_12 Mz r15_) ∧ (r10_.toInt = r15_.toInt) ∧ r_ = 1))
theorem lf_c_X6_hasTwoAlike_0 (v1_2 : Int32) (z2_ : Int32) (hv0_2 : 1 ≤ v1_2.toInt) (h4_ : 0 ≤ z2_.toInt ∧ z2_.toInt ≤ 24) (h5_ : v1_2.toInt < z2_.toInt) : -2147483648 ≤ v1_2.toInt + 1 ∧ v1_2.toInt + 1 < 2147483648 := by omega
theorem lf_c_X6_hasTwoAlike_2 (v1_2 : Int32) (z2_ : Int32) (z8_ : Int32) (h4_ : 0 ≤ z2_.toInt ∧ z2_.toInt ≤ 24) (h5_ : v1_2.toInt < z2_.toInt) (h9_ : z8_.toInt = v1_2.toInt + 1) : (2147483648 - z8_.toInt).toNat < (2147483648 - v1_2.toInt).toNat := by omega
theorem lf_c_X6_hasTwoAlike_3 (v1_2 : Int32) (z2_ : Int32) (v2_12 : Int32) (h4_ : 0 ≤ z2_.toInt ∧ z2_.toInt ≤ 24) (h5_ : v1_2.toInt < z2_.toInt) (hv0_12 : 0 ≤ v2_12.toInt) (h7_ : v2_12.toInt < v1_2.toInt) : -2147483648 ≤ v2_12.toInt + 1 ∧ v2_12.toInt + 1 < 2147483648 := by omega
theorem lf_c_X6_hasTwoAlike_5 (v1_2 : Int32) (z2_ : Int32) (v2_12 : Int32) (z21_ : Int32) (h4_ : 0 ≤ z2_.toInt ∧ z2_.toInt ≤ 24) (h5_ : v1_2.toInt < z2_.toInt) (h7_ : v2_12.toInt < v1_2.toInt) (h22_ : z21_.toInt = v2_12.toInt + 1) : (2147483648 - z21_.toInt).toNat < (2147483648 - v2_12.toInt).toNat := by omega
set_option maxHeartbeats 4000000 in
set_option maxRecDepth 100000 in
theorem c_X6_hasTwoAlike (l : Launch) (G : va_G) (cy : Nat → ClassId) (ad : rf → Nat) (d : Nat) (w : Nat) (Mz : mM) (hIz : Inv Mz) (hw : w < 4) : WP CC l G cy ad yX6_hasTwoAlike cX6_hasTwoAlike 3 (some .boolean) (d + 2) 0 [(0, vR (6, 0, w))] [] Mz (fun r M' => Mz = M' ∧ ((0 ≤ r.toInt ∧ r.toInt ≤ 1)) ∧ SP_X6_hasTwoAlike w Mz r) := by
  refine w_iconst (v := 1) dX6_hasTwoAlike_0 (by decide) ?_
  refine w_istore_n (ls' := [(1, vI 1), (0, vR (6, 0, w))]) dX6_hasTwoAlike_1 rfl (by decide) rfl ?_
  have lp1_ : ∀ (nn_2 : Nat) (v1_2 : Int32) (hv0_2 : 1 ≤ v1_2.toInt) (hL_2 : RCH (fun x_ y_ => ST_X6_hasTwoAlike_2 w Mz x_ y_) (1 : Int32) v1_2), (2147483648 - v1_2.toInt).toNat < nn_2 → WP CC l G cy ad yX6_hasTwoAlike cX6_hasTwoAlike 3 (some .boolean) (d + 2) 2 [(1, vI v1_2), (0, vR (6, 0, w))] [] Mz (fun r M' => Mz = M' ∧ ((0 ≤ r.toInt ∧ r.toInt ≤ 1)) ∧ SP_X6_hasTwoAlike w Mz r) := by
    intro nn_2
    induction nn_2 with
    | zero => intro v1_2 hv0_2 hL_2 hm_2; exact absurd hm_2 (Nat.not_lt_zero _)
    | succ nn_2 ih_2 =>
      intro v1_2 hv0_2 hL_2 hm_2
      refine w_iload_n dX6_hasTwoAlike_2 rfl 0 rfl ?_
      refine w_aload_n dX6_hasTwoAlike_3 rfl 1 rfl ?_
      refine w_getI fl_RX6_13 rfl rfl (ic_6 hw) dX6_hasTwoAlike_4 (fun z2_ e3_ => ?_)
      have h4_ : 0 ≤ z2_.toInt ∧ z2_.toInt ≤ 24 := ofEq (P := fun v => 0 ≤ v.toInt ∧ v.toInt ≤ 24) e3_ (hIz (6, 0, w) 1 rfl)
      refine w_icmp_ge (tgt := 44) dX6_hasTwoAlike_7 (by decide) (rfl : v1_2.toInt = v1_2.toInt) (rfl : z2_.toInt = z2_.toInt) (fun h5_ => ?_) (fun h5_ => ?_)
      · refine w_iconst (v := 0) dX6_hasTwoAlike_44 (by decide) ?_
        exact w_zret rfl dX6_hasTwoAlike_45 ⟨by decide, by decide⟩ ⟨rfl, ⟨by decide, by decide⟩, ⟨v1_2, hv0_2, hL_2, z2_, e3_, h4_, (Or.inl ⟨h5_, rfl⟩)⟩⟩
      · refine w_iconst (v := 0) dX6_hasTwoAlike_10 (by decide) ?_
        refine w_istore_n (ls' := [(2, vI 0), (1, vI v1_2), (0, vR (6, 0, w))]) dX6_hasTwoAlike_11 rfl (by decide) rfl ?_
        have lp6_ : ∀ (nn_12 : Nat) (v2_12 : Int32) (hv0_12 : 0 ≤ v2_12.toInt) (hL_12 : RCH (fun x_ y_ => ST_X6_hasTwoAlike_12 w Mz v1_2 x_ y_) (0 : Int32) v2_12), (2147483648 - v2_12.toInt).toNat < nn_12 → WP CC l G cy ad yX6_hasTwoAlike cX6_hasTwoAlike 3 (some .boolean) (d + 2) 12 [(2, vI v2_12), (1, vI v1_2), (0, vR (6, 0, w))] [] Mz (fun r M' => Mz = M' ∧ ((0 ≤ r.toInt ∧ r.toInt ≤ 1)) ∧ SP_X6_hasTwoAlike w Mz r) := by
          intro nn_12
          induction nn_12 with
          | zero => intro v2_12 hv0_12 hL_12 hm_12; exact absurd hm_12 (Nat.not_lt_zero _)
          | succ nn_12 ih_12 =>
            intro v2_12 hv0_12 hL_12 hm_12
            refine w_iload_n dX6_hasTwoAlike_12 rfl 0 rfl ?_
            refine w_iload_n dX6_hasTwoAlike_13 rfl 1 rfl ?_
            refine w_icmp_ge (tgt := 38) dX6_hasTwoAlike_14 (by decide) (rfl : v2_12.toInt = v2_12.toInt) (rfl : v1_2.toInt = v1_2.toInt) (fun h7_ => ?_) (fun h7_ => ?_)
            · refine w_iincB (j := 1) (f := fun z8_ => [(1, vI z8_), (2, vI v2_12), (0, vR (6, 0, w))]) dX6_hasTwoAlike_38 rfl (by decide) (fun _ => rfl) (rfl : v1_2.toInt = v1_2.toInt) li_1 (lf_c_X6_hasTwoAlike_0 v1_2 z2_ hv0_2 h4_ h5_ ) (fun z8_ h9_ => ?_)
              refine w_goto (tgt := 2) dX6_hasTwoAlike_41 (by decide) ?_
              refine w_loc (ls' := [(1, vI z8_), (0, vR (6, 0, w))]) [0, 2] rfl ?_
              exact ih_2 z8_ (lf_c_X9_yardsToFull_1 v1_2 z8_ hv0_2 h9_ ) (RCH.tail hL_2 ⟨hv0_2, z2_, e3_, h4_, h5_, v2_12, hv0_12, hL_12, h7_, z8_, h9_, rfl⟩) (Nat.lt_of_lt_of_le (lf_c_X6_hasTwoAlike_2 v1_2 z2_ z8_ h4_ h5_ h9_ ) (Nat.le_of_lt_succ hm_2))
            · refine w_aload_n dX6_hasTwoAlike_17 rfl 2 rfl ?_
              refine w_iload_n dX6_hasTwoAlike_18 rfl 1 rfl ?_
              refine w_callV (as := [vI v1_2]) (rest := []) (c_X6_numberAt l G cy ad d w v1_2 Mz hIz hw) kV_X6_numberAt pnn_4 (Nat.le_of_ble_eq_true rfl) m_982 rfl rfl rfl (ic_6 hw) rfl rfl (by decide) (Nat.le_of_ble_eq_true rfl) dX6_hasTwoAlike_19 (fun r10_ M11_ q12_ => ?_)
              obtain ⟨rfl, h13_, hs14_⟩ := q12_
              refine w_aload_n dX6_hasTwoAlike_22 rfl 2 rfl ?_
              refine w_iload_n dX6_hasTwoAlike_23 rfl 0 rfl ?_
              refine w_callV (as := [vI v2_12]) (rest := [vI r10_]) (c_X6_numberAt l G cy ad d w v2_12 Mz hIz hw) kV_X6_numberAt pnn_4 (Nat.le_of_ble_eq_true rfl) m_982 rfl rfl rfl (ic_6 hw) rfl rfl (by decide) (Nat.le_of_ble_eq_true rfl) dX6_hasTwoAlike_24 (fun r15_ M16_ q17_ => ?_)
              obtain ⟨rfl, h18_, hs19_⟩ := q17_
              refine w_icmp_ne (tgt := 32) dX6_hasTwoAlike_27 (by decide) (rfl : r10_.toInt = r10_.toInt) (rfl : r15_.toInt = r15_.toInt) (fun h20_ => ?_) (fun h20_ => ?_)
              · refine w_iincB (j := 0) (f := fun z21_ => [(2, vI z21_), (1, vI v1_2), (0, vR (6, 0, w))]) dX6_hasTwoAlike_32 rfl (by decide) (fun _ => rfl) (rfl : v2_12.toInt = v2_12.toInt) li_1 (lf_c_X6_hasTwoAlike_3 v1_2 z2_ v2_12 h4_ h5_ hv0_12 h7_ ) (fun z21_ h22_ => ?_)
                refine w_goto (tgt := 12) dX6_hasTwoAlike_35 (by decide) ?_
                refine w_loc (ls' := [(2, vI z21_), (1, vI v1_2), (0, vR (6, 0, w))]) [0, 1, 2] rfl ?_
                exact ih_12 z21_ (lf_c_X5_takeFrom_3 v2_12 z21_ hv0_12 h22_ ) (RCH.tail hL_12 ⟨hv0_12, h7_, r10_, hs14_, r15_, hs19_, h20_, z21_, h22_, rfl⟩) (Nat.lt_of_lt_of_le (lf_c_X6_hasTwoAlike_5 v1_2 z2_ v2_12 z21_ h4_ h5_ h7_ h22_ ) (Nat.le_of_lt_succ hm_12))
              · refine w_iconst (v := 1) dX6_hasTwoAlike_30 (by decide) ?_
                exact w_zret rfl dX6_hasTwoAlike_31 ⟨by decide, by decide⟩ ⟨rfl, ⟨by decide, by decide⟩, ⟨v1_2, hv0_2, hL_2, z2_, e3_, h4_, (Or.inr ⟨h5_, v2_12, hv0_12, hL_12, h7_, r10_, hs14_, r15_, hs19_, h20_, rfl⟩)⟩⟩
        exact lp6_ _ 0 (lf_c_X5_takeFrom_5 ) RCH.refl (Nat.lt_succ_self _)
  exact lp1_ _ 1 (lf_c_X9_yardsToFull_4 ) RCH.refl (Nat.lt_succ_self _)
