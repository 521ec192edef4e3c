section
def SP_X10_hasWalker (b : Nat) (v : Int32) (Mz : mM) (r_ : Int32) : Prop := (((v.toInt < 0) ∧ r_ = 0) ∨ ((0 ≤ v.toInt) ∧ ∃ z2_ : Int32, (z2_ = Mz.1 (10, b, 0) 6) ∧ (((z2_.toInt ≤ v.toInt) ∧ r_ = 0) ∨ ((v.toInt < z2_.toInt) ∧ (((8 ≤ v.toInt) ∧ r_ = 0) ∨ ((v.toInt < 8) ∧ r_ = 1))))))
set_option maxHeartbeats 4000000 in
set_option maxRecDepth 100000 in
theorem c_X10_hasWalker (l : Launch) (G : va_G) (cy : Nat → ClassId) (ad : rf → Nat) (d : Nat) (b : Nat) (v : Int32) (Mz : mM) (hIz : Inv Mz) (hb : b < 3) : WP CC l G cy ad yX10_hasWalker cX10_hasWalker 2 (some .boolean) d 0 [(0, vR (10, b, 0)), (1, vI v)] [] Mz (fun r M' => Mz = M' ∧ (((r = 1 ∧ 0 ≤ v.toInt ∧ v.toInt ≤ 7) ∨ r = 0)) ∧ SP_X10_hasWalker b v Mz r) := by
  refine w_iload_n dX10_hasWalker_0 rfl 1 rfl ?_
  refine w_if_lt (tgt := 22) dX10_hasWalker_1 (by decide) (rfl : v.toInt = v.toInt) (fun h1_ => ?_) (fun h1_ => ?_)
  · refine w_iconst (v := 0) dX10_hasWalker_22 (by decide) ?_
    exact w_zret rfl dX10_hasWalker_23 ⟨by decide, by decide⟩ ⟨rfl, (Or.inr rfl), (Or.inl ⟨h1_, rfl⟩)⟩
  · refine w_iload_n dX10_hasWalker_4 rfl 1 rfl ?_
    refine w_aload_n dX10_hasWalker_5 rfl 0 rfl ?_
    refine w_getI fl_RX10_50 rfl rfl (ic_10 hb) dX10_hasWalker_6 (fun z2_ e3_ => ?_)
    refine w_icmp_ge (tgt := 22) dX10_hasWalker_9 (by decide) (rfl : v.toInt = v.toInt) (rfl : z2_.toInt = z2_.toInt) (fun h4_ => ?_) (fun h4_ => ?_)
    · refine w_iconst (v := 0) dX10_hasWalker_22 (by decide) ?_
      exact w_zret rfl dX10_hasWalker_23 ⟨by decide, by decide⟩ ⟨rfl, (Or.inr rfl), (Or.inr ⟨h1_, z2_, e3_, (Or.inl ⟨h4_, rfl⟩)⟩)⟩
    · refine w_iload_n dX10_hasWalker_12 rfl 1 rfl ?_
      refine w_bipush (v := 8) dX10_hasWalker_13 (by decide) ?_
      refine w_icmp_ge (tgt := 22) dX10_hasWalker_15 (by decide) (rfl : v.toInt = v.toInt) li_8 (fun h5_ => ?_) (fun h5_ => ?_)
      · refine w_iconst (v := 0) dX10_hasWalker_22 (by decide) ?_
        exact w_zret rfl dX10_hasWalker_23 ⟨by decide, by decide⟩ ⟨rfl, (Or.inr rfl), (Or.inr ⟨h1_, z2_, e3_, (Or.inr ⟨h4_, (Or.inl ⟨h5_, rfl⟩)⟩)⟩)⟩
      · refine w_iconst (v := 1) dX10_hasWalker_18 (by decide) ?_
        refine w_goto (tgt := 23) dX10_hasWalker_19 (by decide) ?_
        exact w_zret rfl dX10_hasWalker_23 ⟨by decide, by decide⟩ ⟨rfl, (Or.inl ⟨rfl, (lf_c_X7_isSide_2 v h1_ h5_ )⟩), (Or.inr ⟨h1_, z2_, e3_, (Or.inr ⟨h4_, (Or.inr ⟨h5_, rfl⟩)⟩)⟩)⟩
def S_c_X10_addWalker (b : Nat) : rf → Nat → Prop := fun c k => (c.1 = 9 ∧ c.2.1 = b ∧ k = 0) ∨ (c.1 = 9 ∧ c.2.1 = b ∧ k = 1) ∨ (c.1 = 9 ∧ c.2.1 = b ∧ k = 2) ∨ (c.1 = 9 ∧ c.2.1 = b ∧ k = 3) ∨ (c.1 = 9 ∧ c.2.1 = b ∧ k = 4) ∨ (c.1 = 9 ∧ c.2.1 = b ∧ k = 5) ∨ (c.1 = 9 ∧ c.2.1 = b ∧ k = 6) ∨ (c.1 = 9 ∧ c.2.1 = b ∧ k = 7) ∨ (c.1 = 9 ∧ c.2.1 = b ∧ k = 8) ∨ (c.1 = 40 ∧ c.2.1 = b) ∨ (c.1 = 41 ∧ c.2.1 = b) ∨ (c.1 = 35 ∧ c.2.1 = b) ∨ (c.1 = 10 ∧ c.2.1 = b ∧ k = 6) ∨ False
def SP_X10_addWalker (b : Nat) (v : Int32) (u : Int32) (t : Int32) (Mz : mM) (r_ : Int32) (M_ : mM) : Prop := ∃ z1_ : Int32, (z1_ = Mz.1 (10, b, 0) 6) ∧ (((z1_.toInt < 0) ∧ r_ = (-1) ∧ M_ = Mz) ∨ ((0 ≤ z1_.toInt) ∧ (((z1_.toInt < 8) ∧ ∃ j5_ : Nat, ((j5_ : Int) = z1_.toInt) ∧ (j5_ < 8) ∧ ∃ M8_ : mM, (Inv M8_) ∧ (FR (S_c_X9_begin b j5_) Mz M8_) ∧ (SP_X9_begin b j5_ v u t Mz M8_) ∧ ∃ z15_ : Int32, (z15_.toInt = 100 + z1_.toInt) ∧ ∃ M17_ : mM, (Inv M17_) ∧ (FR (S_c_X7_settle b) M8_ M17_) ∧ (SP_X7_settle b u z15_ M8_ M17_) ∧ ∃ z24_ : Int32, (z24_ = M17_.1 (10, b, 0) 6) ∧ ∃ z26_ : Int32, (z26_ = z24_ + (1 : Int32)) ∧ ∃ M28_ : mM, (M28_ = up M17_ (10, b, 0) 6 z26_) ∧ r_ = z1_ ∧ M_ = M28_) ∨ ((8 ≤ z1_.toInt) ∧ r_ = (-1) ∧ M_ = Mz))))
theorem lf_c_X10_addWalker_1 (z1_ : Int32) (h3_ : 0 ≤ z1_.toInt) (h4_ : z1_.toInt < 8) : -2147483648 ≤ 100 + z1_.toInt ∧ 100 + z1_.toInt < 2147483648 := by omega
set_option maxHeartbeats 4000000 in
set_option maxRecDepth 100000 in
theorem c_X10_addWalker (l : Launch) (G : va_G) (cy : Nat → ClassId) (ad : rf → Nat) (d : Nat) (b : Nat) (v : Int32) (u : Int32) (t : Int32) (Mz : mM) (hIz : Inv Mz) (hb : b < 3) : WP CC l G cy ad yX10_addWalker cX10_addWalker 5 (some .int) (d + 2) 0 [(0, vR (10, b, 0)), (1, vI v), (2, vI u), (3, vI t)] [] Mz (fun r M' => Inv M' ∧ FR (S_c_X10_addWalker b) Mz M' ∧ (True) ∧ SP_X10_addWalker b v u t Mz r M') := by
  have hFz : FR (S_c_X10_addWalker b) Mz Mz := FR.self
  refine w_aload_n dX10_addWalker_0 rfl 0 rfl ?_
  refine w_getI fl_RX10_50 rfl rfl (ic_10 hb) dX10_addWalker_1 (fun z1_ e2_ => ?_)
  refine w_istore (ls' := [(4, vI z1_), (0, vR (10, b, 0)), (1, vI v), (2, vI u), (3, vI t)]) dX10_addWalker_4 (by decide) rfl ?_
  refine w_iload dX10_addWalker_6 0 rfl ?_
  refine w_if_lt (tgt := 18) dX10_addWalker_8 (by decide) (rfl : z1_.toInt = z1_.toInt) (fun h3_ => ?_) (fun h3_ => ?_)
  · refine w_iconst (v := (-1)) dX10_addWalker_18 (by decide) ?_
    exact w_iret rfl dX10_addWalker_19 ⟨hIz, hFz, trivial, ⟨z1_, e2_, (Or.inl ⟨h3_, rfl, rfl⟩)⟩⟩
  · refine w_iload dX10_addWalker_11 0 rfl ?_
    refine w_bipush (v := 8) dX10_addWalker_13 (by decide) ?_
    refine w_icmp_lt (tgt := 20) dX10_addWalker_15 (by decide) (rfl : z1_.toInt = z1_.toInt) li_8 (fun h4_ => ?_) (fun h4_ => ?_)
    · refine w_aload_n dX10_addWalker_20 rfl 1 rfl ?_
      refine w_getR (c' := (42, b, 0)) fl_RX10_46 rfl rfl (ic_10 hb) dX10_addWalker_21 rfl ?_
      refine w_iload dX10_addWalker_24 0 rfl ?_
      refine w_aald rfl rfl rfl (fun _ => rfl) (ic_42 hb) (rfl : z1_.toInt = z1_.toInt) (lf_c_X9_kindAbove_0 z1_ h3_ h4_ ) dX10_addWalker_26 (fun j5_ h6_ h7_ => ?_)
      refine w_iload_n dX10_addWalker_27 rfl 2 rfl ?_
      refine w_iload_n dX10_addWalker_28 rfl 3 rfl ?_
      refine w_iload_n dX10_addWalker_29 rfl 4 rfl ?_
      refine w_callVv (as := [vI v, vI u, vI t]) (rest := []) (c_X9_begin l G cy ad (d + 1) b j5_ v u t Mz hIz hb h7_) kV_X9_begin pnn_3 (Nat.le_of_ble_eq_true rfl) m_600 rfl rfl rfl (ic_9 hb h7_) rfl rfl (by decide) (Nat.le_of_ble_eq_true rfl) dX10_addWalker_30 (fun M8_ q9_ => ?_)
      obtain ⟨hI11_, hF12_, h10_, hs14_⟩ := q9_
      have hF13_ := hFz.tr hF12_ (fun c k => (fun h => h.elim (fun h => (Or.inl ⟨h.1, h.2.1, h.2.2.2⟩)) (fun h => h.elim (fun h => (Or.inr (Or.inl ⟨h.1, h.2.1, h.2.2.2⟩))) (fun h => h.elim (fun h => (Or.inr (Or.inr (Or.inl ⟨h.1, h.2.1, h.2.2.2⟩)))) (fun h => h.elim (fun h => (Or.inr (Or.inr (Or.inr (Or.inl ⟨h.1, h.2.1, h.2.2.2⟩))))) (fun h => h.elim (fun h => (Or.inr (Or.inr (Or.inr (Or.inr (Or.inl ⟨h.1, h.2.1, h.2.2.2⟩)))))) (fun h => h.elim (fun h => (Or.inr (Or.inr (Or.inr (Or.inr (Or.inr (Or.inl ⟨h.1, h.2.1, h.2.2.2⟩))))))) (fun h => h.elim (fun h => (Or.inr (Or.inr (Or.inr (Or.inr (Or.inr (Or.inr (Or.inl ⟨h.1, h.2.1, h.2.2.2⟩)))))))) (fun h => h.elim (fun h => (Or.inr (Or.inr (Or.inr (Or.inr (Or.inr (Or.inr (Or.inr (Or.inl ⟨h.1, h.2.1, h.2.2.2⟩))))))))) (fun h => h.elim (fun h => (Or.inr (Or.inr (Or.inr (Or.inr (Or.inr (Or.inr (Or.inr (Or.inr (Or.inl ⟨h.1, h.2.1, h.2.2.2⟩)))))))))) (fun h => h.elim (fun h => (Or.inr (Or.inr (Or.inr (Or.inr (Or.inr (Or.inr (Or.inr (Or.inr (Or.inr (Or.inl ⟨h.1, h.2.1⟩))))))))))) (fun h => h.elim (fun h => (Or.inr (Or.inr (Or.inr (Or.inr (Or.inr (Or.inr (Or.inr (Or.inr (Or.inr (Or.inr (Or.inl ⟨h.1, h.2.1⟩)))))))))))) (fun h => h.elim)))))))))))))
      refine w_aload_n dX10_addWalker_33 rfl 1 rfl ?_
      refine w_getR (c' := (7, b, 0)) fl_RX10_10 rfl rfl (ic_10 hb) dX10_addWalker_34 rfl ?_
      refine w_iload_n dX10_addWalker_37 rfl 3 rfl ?_
      refine w_bipush (v := 100) dX10_addWalker_38 (by decide) ?_
      refine w_iload dX10_addWalker_40 0 rfl ?_
      refine w_iaddB dX10_addWalker_42 li_100 (rfl : z1_.toInt = z1_.toInt) (lf_c_X10_addWalker_1 z1_ h3_ h4_ ) (fun z15_ h16_ => ?_)
      refine w_callVv (as := [vI u, vI z15_]) (rest := []) (c_X7_settle l G cy ad d b u z15_ M8_ hI11_ hb) kV_X7_settle pnn_1 (Nat.le_of_ble_eq_true rfl) m_604 rfl rfl rfl (ic_7 hb) rfl rfl (by decide) (Nat.le_of_ble_eq_true rfl) dX10_addWalker_43 (fun M17_ q18_ => ?_)
      obtain ⟨hI20_, hF21_, h19_, hs23_⟩ := q18_
      have hF22_ := hF13_.tr hF21_ (fun c k => (fun h => h.elim (fun h => (Or.inr (Or.inr (Or.inr (Or.inr (Or.inr (Or.inr (Or.inr (Or.inr (Or.inr (Or.inr (Or.inr (Or.inl ⟨h.1, h.2⟩))))))))))))) (fun h => h.elim)))
      refine w_aload_n dX10_addWalker_46 rfl 1 rfl ?_
      refine w_dup dX10_addWalker_47 rfl ?_
      refine w_getI fl_RX10_50 rfl rfl (ic_10 hb) dX10_addWalker_48 (fun z24_ e25_ => ?_)
      refine w_iconst (v := 1) dX10_addWalker_51 (by decide) ?_
      refine w_iadd dX10_addWalker_52 (fun z26_ h27_ => ?_)
      refine w_putI CC_nd fl_RX10_50 rfl rfl (ic_10 hb) dX10_addWalker_53 (fun M28_ hM29_ => ?_)
      have hI30_ := hI20_.put hM29_ trivial
      have hF31_ := hF22_.put hM29_ (Or.inr (Or.inr (Or.inr (Or.inr (Or.inr (Or.inr (Or.inr (Or.inr (Or.inr (Or.inr (Or.inr (Or.inr (Or.inl ⟨rfl, rfl, rfl⟩)))))))))))))
      refine w_iload dX10_addWalker_56 0 rfl ?_
      exact w_iret rfl dX10_addWalker_58 ⟨hI30_, hF31_, trivial, ⟨z1_, e2_, (Or.inr ⟨h3_, (Or.inl ⟨h4_, j5_, h6_, h7_, M8_, hI11_, hF12_, hs14_, z15_, h16_, M17_, hI20_, hF21_, hs23_, z24_, e25_, z26_, h27_, M28_, hM29_, rfl, rfl⟩)⟩)⟩⟩
    · refine w_iconst (v := (-1)) dX10_addWalker_18 (by decide) ?_
      exact w_iret rfl dX10_addWalker_19 ⟨hIz, hFz, trivial, ⟨z1_, e2_, (Or.inr ⟨h3_, (Or.inr ⟨h4_, rfl, rfl⟩)⟩)⟩⟩
def ST_X10_countBumps_4 (b : Nat) (Mz : mM) (v2_4 : Int32) (v1_4 : Int32) (v2_4y : Int32) (v1_4y : Int32) : Prop := (0 ≤ v2_4.toInt) ∧ ∃ z2_ : Int32, (z2_ = Mz.1 (10, b, 0) 6) ∧ (v2_4.toInt < z2_.toInt) ∧ (v2_4.toInt < 8) ∧ ∃ j6_ : Nat, ((j6_ : Int) = v2_4.toInt) ∧ (j6_ < 8) ∧ ∃ z9_ : Int32, (z9_ = Mz.1 (9, b, j6_) 7) ∧ ∃ z11_ : Int32, (z11_ = v1_4 + z9_) ∧ ∃ z13_ : Int32, (z13_.toInt = v2_4.toInt + 1) ∧ v2_4y = z13_ ∧ v1_4y = z11_
def SP_X10_countBumps (b : Nat) (Mz : mM) (r_ : Int32) : Prop := ∃ v2_4 : Int32, (0 ≤ v2_4.toInt) ∧ ∃ v1_4 : Int32, (RCH (fun x_ y_ => ST_X10_countBumps_4 b Mz x_.1 x_.2 y_.1 y_.2) ((0 : Int32), (0 : Int32)) (v2_4, v1_4)) ∧ ∃ z2_ : Int32, (z2_ = Mz.1 (10, b, 0) 6) ∧ (((z2_.toInt ≤ v2_4.toInt) ∧ r_ = v1_4) ∨ ((v2_4.toInt < z2_.toInt) ∧ (8 ≤ v2_4.toInt) ∧ r_ = v1_4))
set_option maxHeartbeats 4000000 in
set_option maxRecDepth 100000 in
theorem c_X10_countBumps (l : Launch) (G : va_G) (cy : Nat → ClassId) (ad : rf → Nat) (d : Nat) (b : Nat) (Mz : mM) (hIz : Inv Mz) (hb : b < 3) : WP CC l G cy ad yX10_countBumps cX10_countBumps 3 (some .int) d 0 [(0, vR (10, b, 0))] [] Mz (fun r M' => Mz = M' ∧ (True) ∧ SP_X10_countBumps b Mz r) := by
  refine w_iconst (v := 0) dX10_countBumps_0 (by decide) ?_
  refine w_istore_n (ls' := [(1, vI 0), (0, vR (10, b, 0))]) dX10_countBumps_1 rfl (by decide) rfl ?_
  refine w_iconst (v := 0) dX10_countBumps_2 (by decide) ?_
  refine w_istore_n (ls' := [(2, vI 0), (1, vI 0), (0, vR (10, b, 0))]) dX10_countBumps_3 rfl (by decide) rfl ?_
  have lp1_ : ∀ (nn_4 : Nat) (v2_4 : Int32) (v1_4 : Int32) (hv0_4 : 0 ≤ v2_4.toInt) (hL_4 : RCH (fun x_ y_ => ST_X10_countBumps_4 b Mz x_.1 x_.2 y_.1 y_.2) ((0 : Int32), (0 : Int32)) (v2_4, v1_4)), (2147483648 - v2_4.toInt).toNat < nn_4 → WP CC l G cy ad yX10_countBumps cX10_countBumps 3 (some .int) d 4 [(2, vI v2_4), (1, vI v1_4), (0, vR (10, b, 0))] [] Mz (fun r M' => Mz = M' ∧ (True) ∧ SP_X10_countBumps b Mz r) := by
    intro nn_4
    induction nn_4 with
    | zero => intro v2_4 v1_4 hv0_4 hL_4 hm_4; exact absurd hm_4 (Nat.not_lt_zero _)
    | succ nn_4 ih_4 =>
      intro v2_4 v1_4 hv0_4 hL_4 hm_4
      refine w_iload_n dX10_countBumps_4 rfl 0 rfl ?_
      refine w_aload_n dX10_countBumps_5 rfl 2 rfl ?_
      refine w_getI fl_RX10_50 rfl rfl (ic_10 hb) dX10_countBumps_6 (fun z2_ e3_ => ?_)
      refine w_icmp_ge (tgt := 36) dX10_countBumps_9 (by decide) (rfl : v2_4.toInt = v2_4.toInt) (rfl : z2_.toInt = z2_.toInt) (fun h4_ => ?_) (fun h4_ => ?_)
      · refine w_iload_n dX10_countBumps_36 rfl 1 rfl ?_
        exact w_iret rfl dX10_countBumps_37 ⟨rfl, trivial, ⟨v2_4, hv0_4, v1_4, hL_4, z2_, e3_, (Or.inl ⟨h4_, rfl⟩)⟩⟩
      · refine w_iload_n dX10_countBumps_12 rfl 0 rfl ?_
        refine w_bipush (v := 8) dX10_countBumps_13 (by decide) ?_
        refine w_icmp_ge (tgt := 36) dX10_countBumps_15 (by decide) (rfl : v2_4.toInt = v2_4.toInt) li_8 (fun h5_ => ?_) (fun h5_ => ?_)
        · refine w_iload_n dX10_countBumps_36 rfl 1 rfl ?_
          exact w_iret rfl dX10_countBumps_37 ⟨rfl, trivial, ⟨v2_4, hv0_4, v1_4, hL_4, z2_, e3_, (Or.inr ⟨h4_, h5_, rfl⟩)⟩⟩
        · refine w_iload_n dX10_countBumps_18 rfl 1 rfl ?_
          refine w_aload_n dX10_countBumps_19 rfl 2 rfl ?_
          refine w_getR (c' := (42, b, 0)) fl_RX10_46 rfl rfl (ic_10 hb) dX10_countBumps_20 rfl ?_
          refine w_iload_n dX10_countBumps_23 rfl 0 rfl ?_
          refine w_aald rfl rfl rfl (fun _ => rfl) (ic_42 hb) (rfl : v2_4.toInt = v2_4.toInt) (lf_c_X9_kindAbove_0 v2_4 hv0_4 h5_ ) dX10_countBumps_24 (fun j6_ h7_ h8_ => ?_)
          refine w_getI fl_RX10_66 rfl rfl (ic_9 hb h8_) dX10_countBumps_25 (fun z9_ e10_ => ?_)
          refine w_iadd dX10_countBumps_28 (fun z11_ h12_ => ?_)
          refine w_istore_n (ls' := [(1, vI z11_), (2, vI v2_4), (0, vR (10, b, 0))]) dX10_countBumps_29 rfl (by decide) rfl ?_
          refine w_iincB (j := 1) (f := fun z13_ => [(2, vI z13_), (1, vI z11_), (0, vR (10, b, 0))]) dX10_countBumps_30 rfl (by decide) (fun _ => rfl) (rfl : v2_4.toInt = v2_4.toInt) li_1 (lf_c_X9_isOf_0 v2_4 hv0_4 h5_ ) (fun z13_ h14_ => ?_)
          refine w_goto (tgt := 4) dX10_countBumps_33 (by decide) ?_
          refine w_loc (ls' := [(2, vI z13_), (1, vI z11_), (0, vR (10, b, 0))]) [0, 1, 2] rfl ?_
          exact ih_4 z13_ z11_ (lf_c_X5_takeFrom_3 v2_4 z13_ hv0_4 h14_ ) (RCH.tail hL_4 ⟨hv0_4, z2_, e3_, h4_, h5_, j6_, h7_, h8_, z9_, e10_, z11_, h12_, z13_, h14_, rfl, rfl⟩) (Nat.lt_of_lt_of_le (lf_c_X9_isOf_3 v2_4 z13_ h5_ h14_ ) (Nat.le_of_lt_succ hm_4))
  exact lp1_ _ 0 0 (lf_c_X5_takeFrom_5 ) RCH.refl (Nat.lt_succ_self _)
def ST_X10_countClicks_4 (b : Nat) (Mz : mM) (v2_4 : Int32) (v1_4 : Int32) (v2_4y : Int32) (v1_4y : Int32) : Prop := (0 ≤ v2_4.toInt) ∧ ∃ z2_ : Int32, (z2_ = Mz.1 (10, b, 0) 6) ∧ (v2_4.toInt < z2_.toInt) ∧ (v2_4.toInt < 8) ∧ ∃ j6_ : Nat, ((j6_ : Int) = v2_4.toInt) ∧ (j6_ < 8) ∧ ∃ z9_ : Int32, (z9_ = Mz.1 (9, b, j6_) 8) ∧ ∃ z11_ : Int32, (z11_ = v1_4 + z9_) ∧ ∃ z13_ : Int32, (z13_.toInt = v2_4.toInt + 1) ∧ v2_4y = z13_ ∧ v1_4y = z11_
def SP_X10_countClicks (b : Nat) (Mz : mM) (r_ : Int32) : Prop := ∃ v2_4 : Int32, (0 ≤ v2_4.toInt) ∧ ∃ v1_4 : Int32, (RCH (fun x_ y_ => ST_X10_countClicks_4 b Mz x_.1 x_.2 y_.1 y_.2) ((0 : Int32), (0 : Int32)) (v2_4, v1_4)) ∧ ∃ z2_ : Int32, (z2_ = Mz.1 (10, b, 0) 6) ∧ (((z2_.toInt ≤ v2_4.toInt) ∧ r_ = v1_4) ∨ ((v2_4.toInt < z2_.toInt) ∧ (8 ≤ v2_4.toInt) ∧ r_ = v1_4))
set_option maxHeartbeats 4000000 in
set_option maxRecDepth 100000 in
theorem c_X10_countClicks (l : Launch) (G : va_G) (cy : Nat → ClassId) (ad : rf → Nat) (d : Nat) (b : Nat) (Mz : mM) (hIz : Inv Mz) (hb : b < 3) : WP CC l G cy ad yX10_countClicks cX10_countClicks 3 (some .int) d 0 [(0, vR (10, b, 0))] [] Mz (fun r M' => Mz = M' ∧ (True) ∧ SP_X10_countClicks b Mz r) := by
  refine w_iconst (v := 0) dX10_countClicks_0 (by decide) ?_
  refine w_istore_n (ls' := [(1, vI 0), (0, vR (10, b, 0))]) dX10_countClicks_1 rfl (by decide) rfl ?_
  refine w_iconst (v := 0) dX10_countClicks_2 (by decide) ?_
  refine w_istore_n (ls' := [(2, vI 0), (1, vI 0), (0, vR (10, b, 0))]) dX10_countClicks_3 rfl (by decide) rfl ?_
  have lp1_ : ∀ (nn_4 : Nat) (v2_4 : Int32) (v1_4 : Int32) (hv0_4 : 0 ≤ v2_4.toInt) (hL_4 : RCH (fun x_ y_ => ST_X10_countClicks_4 b Mz x_.1 x_.2 y_.1 y_.2) ((0 : Int32), (0 : Int32)) (v2_4, v1_4)), (2147483648 - v2_4.toInt).toNat < nn_4 → WP CC l G cy ad yX10_countClicks cX10_countClicks 3 (some .int) d 4 [(2, vI v2_4), (1, vI v1_4), (0, vR (10, b, 0))] [] Mz (fun r M' => Mz = M' ∧ (True) ∧ SP_X10_countClicks b Mz r) := by
    intro nn_4
    induction nn_4 with
    | zero => intro v2_4 v1_4 hv0_4 hL_4 hm_4; exact absurd hm_4 (Nat.not_lt_zero _)
    | succ nn_4 ih_4 =>
      intro v2_4 v1_4 hv0_4 hL_4 hm_4
      refine w_iload_n dX10_countClicks_4 rfl 0 rfl ?_
      refine w_aload_n dX10_countClicks_5 rfl 2 rfl ?_
      refine w_getI fl_RX10_50 rfl rfl (ic_10 hb) dX10_countClicks_6 (fun z2_ e3_ => ?_)
      refine w_icmp_ge (tgt := 36) dX10_countClicks_9 (by decide) (rfl : v2_4.toInt = v2_4.toInt) (rfl : z2_.toInt = z2_.toInt) (fun h4_ => ?_) (fun h4_ => ?_)
      · refine w_iload_n dX10_countClicks_36 rfl 1 rfl ?_
        exact w_iret rfl dX10_countClicks_37 ⟨rfl, trivial, ⟨v2_4, hv0_4, v1_4, hL_4, z2_, e3_, (Or.inl ⟨h4_, rfl⟩)⟩⟩
      · refine w_iload_n dX10_countClicks_12 rfl 0 rfl ?_
        refine w_bipush (v := 8) dX10_countClicks_13 (by decide) ?_
        refine w_icmp_ge (tgt := 36) dX10_countClicks_15 (by decide) (rfl : v2_4.toInt = v2_4.toInt) li_8 (fun h5_ => ?_) (fun h5_ => ?_)
        · refine w_iload_n dX10_countClicks_36 rfl 1 rfl ?_
          exact w_iret rfl dX10_countClicks_37 ⟨rfl, trivial, ⟨v2_4, hv0_4, v1_4, hL_4, z2_, e3_, (Or.inr ⟨h4_, h5_, rfl⟩)⟩⟩
        · refine w_iload_n dX10_countClicks_18 rfl 1 rfl ?_
          refine w_aload_n dX10_countClicks_19 rfl 2 rfl ?_
          refine w_getR (c' := (42, b, 0)) fl_RX10_46 rfl rfl (ic_10 hb) dX10_countClicks_20 rfl ?_
          refine w_iload_n dX10_countClicks_23 rfl 0 rfl ?_
          refine w_aald rfl rfl rfl (fun _ => rfl) (ic_42 hb) (rfl : v2_4.toInt = v2_4.toInt) (lf_c_X9_kindAbove_0 v2_4 hv0_4 h5_ ) dX10_countClicks_24 (fun j6_ h7_ h8_ => ?_)
          refine w_getI fl_RX10_69 rfl rfl (ic_9 hb h8_) dX10_countClicks_25 (fun z9_ e10_ => ?_)
          refine w_iadd dX10_countClicks_28 (fun z11_ h12_ => ?_)
          refine w_istore_n (ls' := [(1, vI z11_), (2, vI v2_4), (0, vR (10, b, 0))]) dX10_countClicks_29 rfl (by decide) rfl ?_
          refine w_iincB (j := 1) (f := fun z13_ => [(2, vI z13_), (1, vI z11_), (0, vR (10, b, 0))]) dX10_countClicks_30 rfl (by decide) (fun _ => rfl) (rfl : v2_4.toInt = v2_4.toInt) li_1 (lf_c_X9_isOf_0 v2_4 hv0_4 h5_ ) (fun z13_ h14_ => ?_)
          refine w_goto (tgt := 4) dX10_countClicks_33 (by decide) ?_
          refine w_loc (ls' := [(2, vI z13_), (1, vI z11_), (0, vR (10, b, 0))]) [0, 1, 2] rfl ?_
          exact ih_4 z13_ z11_ (lf_c_X5_takeFrom_3 v2_4 z13_ hv0_4 h14_ ) (RCH.tail hL_4 ⟨hv0_4, z2_, e3_, h4_, h5_, j6_, h7_, h8_, z9_, e10_, z11_, h12_, z13_, h14_, rfl, rfl⟩) (Nat.lt_of_lt_of_le (lf_c_X9_isOf_3 v2_4 z13_ h5_ h14_ ) (Nat.le_of_lt_succ hm_4))
  exact lp1_ _ 0 0 (lf_c_X5_takeFrom_5 ) RCH.refl (Nat.lt_succ_self _)
def SP_X10_isFreeBut (b : Nat) (v : Int32) (u : Int32) (Mz : mM) (r_ : Int32) : Prop := (((u.toInt < 0) ∧ r_ = 0) ∨ ((0 ≤ u.toInt) ∧ (((u.toInt < 192) ∧ ∃ j5_ : Nat, ((j5_ : Int) = u.toInt) ∧ ∃ z3_ : Int32, (z3_ = Mz.1 (35, b, 0) j5_) ∧ (((z3_.toInt = -1) ∧ r_ = 1) ∨ ((¬ z3_.toInt = -1) ∧ ∃ z8_ : Int32, (z8_ = (100 : Int32) + v) ∧ (((¬ z3_.toInt = z8_.toInt) ∧ r_ = 0) ∨ ((z3_.toInt = z8_.toInt) ∧ r_ = 1))))) ∨ ((192 ≤ u.toInt) ∧ r_ = 0))))
set_option maxHeartbeats 4000000 in
set_option maxRecDepth 100000 in
theorem c_X10_isFreeBut (l : Launch) (G : va_G) (cy : Nat → ClassId) (ad : rf → Nat) (d : Nat) (b : Nat) (v : Int32) (u : Int32) (Mz : mM) (hIz : Inv Mz) (hb : b < 3) : WP CC l G cy ad yX10_isFreeBut cX10_isFreeBut 4 (some .boolean) d 0 [(0, vR (10, b, 0)), (1, vI v), (2, vI u)] [] Mz (fun r M' => Mz = M' ∧ ((0 ≤ r.toInt ∧ r.toInt ≤ 1)) ∧ SP_X10_isFreeBut b v u Mz r) := by
  refine w_iload_n dX10_isFreeBut_0 rfl 2 rfl ?_
  refine w_if_lt (tgt := 11) dX10_isFreeBut_1 (by decide) (rfl : u.toInt = u.toInt) (fun h1_ => ?_) (fun h1_ => ?_)
  · refine w_iconst (v := 0) dX10_isFreeBut_11 (by decide) ?_
    exact w_zret rfl dX10_isFreeBut_12 ⟨by decide, by decide⟩ ⟨rfl, ⟨by decide, by decide⟩, (Or.inl ⟨h1_, rfl⟩)⟩
  · refine w_iload_n dX10_isFreeBut_4 rfl 2 rfl ?_
    refine w_sipush (v := 192) dX10_isFreeBut_5 (by decide) ?_
    refine w_icmp_lt (tgt := 13) dX10_isFreeBut_8 (by decide) (rfl : u.toInt = u.toInt) li_192 (fun h2_ => ?_) (fun h2_ => ?_)
    · refine w_aload_n dX10_isFreeBut_13 rfl 0 rfl ?_
      refine w_getR (c' := (7, b, 0)) fl_RX10_10 rfl rfl (ic_10 hb) dX10_isFreeBut_14 rfl ?_
      refine w_getR (c' := (35, b, 0)) fl_RX10_72 rfl rfl (ic_7 hb) dX10_isFreeBut_17 rfl ?_
      refine w_iload_n dX10_isFreeBut_20 rfl 2 rfl ?_
      refine w_iald rfl rfl (ic_35 hb) (rfl : u.toInt = u.toInt) (lf_c_X9_begin_0 u h1_ h2_ ) dX10_isFreeBut_21 (fun j5_ h6_ z3_ e4_ => ?_)
      refine w_istore_n (ls' := [(3, vI z3_), (0, vR (10, b, 0)), (1, vI v), (2, vI u)]) dX10_isFreeBut_22 rfl (by decide) rfl ?_
      refine w_iload_n dX10_isFreeBut_23 rfl 0 rfl ?_
      refine w_iconst (v := (-1)) dX10_isFreeBut_24 (by decide) ?_
      refine w_icmp_eq (tgt := 36) dX10_isFreeBut_25 (by decide) (rfl : z3_.toInt = z3_.toInt) li_m1 (fun h7_ => ?_) (fun h7_ => ?_)
      · refine w_iconst (v := 1) dX10_isFreeBut_36 (by decide) ?_
        refine w_goto (tgt := 41) dX10_isFreeBut_37 (by decide) ?_
        exact w_zret rfl dX10_isFreeBut_41 ⟨by decide, by decide⟩ ⟨rfl, ⟨by decide, by decide⟩, (Or.inr ⟨h1_, (Or.inl ⟨h2_, j5_, h6_, z3_, e4_, (Or.inl ⟨h7_, rfl⟩)⟩)⟩)⟩
      · refine w_iload_n dX10_isFreeBut_28 rfl 0 rfl ?_
        refine w_bipush (v := 100) dX10_isFreeBut_29 (by decide) ?_
        refine w_iload_n dX10_isFreeBut_31 rfl 2 rfl ?_
        refine w_iadd dX10_isFreeBut_32 (fun z8_ h9_ => ?_)
        refine w_icmp_ne (tgt := 40) dX10_isFreeBut_33 (by decide) (rfl : z3_.toInt = z3_.toInt) (rfl : z8_.toInt = z8_.toInt) (fun h10_ => ?_) (fun h10_ => ?_)
        · refine w_iconst (v := 0) dX10_isFreeBut_40 (by decide) ?_
          exact w_zret rfl dX10_isFreeBut_41 ⟨by decide, by decide⟩ ⟨rfl, ⟨by decide, by decide⟩, (Or.inr ⟨h1_, (Or.inl ⟨h2_, j5_, h6_, z3_, e4_, (Or.inr ⟨h7_, z8_, h9_, (Or.inl ⟨h10_, rfl⟩)⟩)⟩)⟩)⟩
        · refine w_iconst (v := 1) dX10_isFreeBut_36 (by decide) ?_
          refine w_goto (tgt := 41) dX10_isFreeBut_37 (by decide) ?_
          exact w_zret rfl dX10_isFreeBut_41 ⟨by decide, by decide⟩ ⟨rfl, ⟨by decide, by decide⟩, (Or.inr ⟨h1_, (Or.inl ⟨h2_, j5_, h6_, z3_, e4_, (Or.inr ⟨h7_, z8_, h9_, (Or.inr ⟨h10_, rfl⟩)⟩)⟩)⟩)⟩
    · refine w_iconst (v := 0) dX10_isFreeBut_11 (by decide) ?_
      exact w_zret rfl dX10_isFreeBut_12 ⟨by decide, by decide⟩ ⟨rfl, ⟨by decide, by decide⟩, (Or.inr ⟨h1_, (Or.inr ⟨h2_, rfl⟩)⟩)⟩
def ST_X10_echoYards_26 (b : Nat) (v : Int32) (u : Int32) (t : Int32) (Mz : mM) (r10_ : Int32) (v5_26 : Int32) (v5_26y : Int32) : Prop := (1 ≤ v5_26.toInt) ∧ (v5_26.toInt ≤ r10_.toInt) ∧ ∃ r17_ : Int32, (SP_X7_cellFrom u t v5_26 Mz r17_) ∧ (-1 ≤ r17_.toInt ∧ r17_.toInt ≤ 191) ∧ (0 ≤ r17_.toInt) ∧ ∃ r23_ : Int32, (SP_X10_isFreeBut b v r17_ Mz r23_) ∧ ((0 ≤ r23_.toInt ∧ r23_.toInt ≤ 1)) ∧ (¬ r23_.toInt = 0) ∧ ∃ z29_ : Int32, (z29_.toInt = v5_26.toInt + 1) ∧ v5_26y = z29_
def ST_X10_echoYards_26b (v5_26 : Int32) (v5_26y : Int32) : Prop := False
def SP_X10_echoYards (b : Nat) (v : Int32) (u : Int32) (t : Int32) (Mz : mM) (r_ : Int32) : Prop := (((SP_X10_hasWalker b v Mz (1 : Int32)) ∧ (0 ≤ v.toInt ∧ v.toInt ≤ 7) ∧ ∃ j7_ : Nat, ((j7_ : Int) = v.toInt) ∧ (j7_ < 8) ∧ ∃ r10_ : Int32, (SP_X9_reach b j7_ Mz r10_) ∧ (0 ≤ r10_.toInt ∧ r10_.toInt ≤ 12) ∧ ∃ v5_26 : Int32, (1 ≤ v5_26.toInt) ∧ (RCH (fun x_ y_ => ST_X10_echoYards_26 b v u t Mz r10_ x_ y_) (1 : Int32) v5_26) ∧ (((r10_.toInt < v5_26.toInt) ∧ r_ = 0) ∨ ((v5_26.toInt ≤ r10_.toInt) ∧ ∃ r17_ : Int32, (SP_X7_cellFrom u t v5_26 Mz r17_) ∧ (-1 ≤ r17_.toInt ∧ r17_.toInt ≤ 191) ∧ (((0 ≤ r17_.toInt) ∧ ∃ r23_ : Int32, (SP_X10_isFreeBut b v r17_ Mz r23_) ∧ ((0 ≤ r23_.toInt ∧ r23_.toInt ≤ 1)) ∧ (r23_.toInt = 0) ∧ r_ = v5_26) ∨ ((r17_.toInt < 0) ∧ r_ = 0))))) ∨ ((SP_X10_hasWalker b v Mz (0 : Int32)) ∧ ∃ v5_26 : Int32, (1 ≤ v5_26.toInt) ∧ (RCH (fun x_ y_ => ST_X10_echoYards_26b x_ y_) (1 : Int32) v5_26) ∧ (0 < v5_26.toInt) ∧ r_ = 0))
theorem lf_c_X10_echoYards_2 (r10_ : Int32) (v5_26 : Int32) (h13_ : 0 ≤ r10_.toInt ∧ r10_.toInt ≤ 12) (hv0_26 : 1 ≤ v5_26.toInt) (h16_ : v5_26.toInt ≤ r10_.toInt) : -2147483648 ≤ v5_26.toInt + 1 ∧ v5_26.toInt + 1 < 2147483648 := by omega
theorem lf_c_X10_echoYards_4 (r10_ : Int32) (v5_26 : Int32) (z29_ : Int32) (h13_ : 0 ≤ r10_.toInt ∧ r10_.toInt ≤ 12) (h16_ : v5_26.toInt ≤ r10_.toInt) (h30_ : z29_.toInt = v5_26.toInt + 1) : (2147483648 - z29_.toInt).toNat < (2147483648 - v5_26.toInt).toNat := by omega
theorem lf_c_X10_echoYards_5 (r10_ : Int32) (v5_26 : Int32) (h13_ : 0 ≤ r10_.toInt ∧ r10_.toInt ≤ 12) (hv0_26 : 1 ≤ v5_26.toInt) (h16_ : v5_26.toInt ≤ r10_.toInt) : 0 ≤ v5_26.toInt ∧ v5_26.toInt ≤ 12 := by omega
theorem lf_c_X10_echoYards_8 (v5_26 : Int32) (hv0_26 : 1 ≤ v5_26.toInt) (h9 : v5_26.toInt ≤ 0) : False := by omega
set_option maxHeartbeats 4000000 in
set_option maxRecDepth 100000 in
theorem c_X10_echoYards (l : Launch) (G : va_G) (cy : Nat → ClassId) (ad : rf → Nat) (d : Nat) (b : Nat) (v : Int32) (u : Int32) (t : Int32) (Mz : mM) (hIz : Inv Mz) (hb : b < 3) : WP CC l G cy ad yX10_echoYards cX10_echoYards 7 (some .int) (d + 2) 0 [(0, vR (10, b, 0)), (1, vI v), (2, vI u), (3, vI t)] [] Mz (fun r M' => Mz = M' ∧ (0 ≤ r.toInt ∧ r.toInt ≤ 12) ∧ SP_X10_echoYards b v u t Mz r) := by
  refine w_aload_n dX10_echoYards_0 rfl 0 rfl ?_
  refine w_iload_n dX10_echoYards_1 rfl 1 rfl ?_
  refine w_callV (as := [vI v]) (rest := []) (c_X10_hasWalker l G cy ad (d + 1) b v Mz hIz hb) kV_X10_hasWalker pnn_7 (Nat.le_of_ble_eq_true rfl) m_847 rfl rfl rfl (ic_10 hb) rfl rfl (by decide) (Nat.le_of_ble_eq_true rfl) dX10_echoYards_2 (fun r1_ M2_ q3_ => ?_)
  obtain ⟨rfl, h4_, hs5_⟩ := q3_
  rcases h4_ with ⟨rfl, h4_⟩ | rfl
  · refine w_if_eq (tgt := 20) dX10_echoYards_5 (by decide) li_1 (fun h9 => (absurd h9 (by decide))) (fun h6_ => ?_)
    refine w_aload_n dX10_echoYards_8 rfl 0 rfl ?_
    refine w_getR (c' := (42, b, 0)) fl_RX10_46 rfl rfl (ic_10 hb) dX10_echoYards_9 rfl ?_
    refine w_iload_n dX10_echoYards_12 rfl 1 rfl ?_
    refine w_aald rfl rfl rfl (fun _ => rfl) (ic_42 hb) (rfl : v.toInt = v.toInt) (lf_c_X7_cellFrom_2 v h4_ ) dX10_echoYards_13 (fun j7_ h8_ h9_ => ?_)
    refine w_callV (as := []) (rest := []) (c_X9_reach l G cy ad (d + 1) b j7_ Mz hIz hb h9_) kV_X9_reach pnn_3 (Nat.le_of_ble_eq_true rfl) m_848 rfl rfl rfl (ic_9 hb h9_) rfl rfl (by decide) (Nat.le_of_ble_eq_true rfl) dX10_echoYards_14 (fun r10_ M11_ q12_ => ?_)
    obtain ⟨rfl, h13_, hs14_⟩ := q12_
    refine w_goto (tgt := 21) dX10_echoYards_17 (by decide) ?_
    refine w_istore (ls' := [(4, vI r10_), (0, vR (10, b, 0)), (1, vI v), (2, vI u), (3, vI t)]) dX10_echoYards_21 (by decide) rfl ?_
    refine w_iconst (v := 1) dX10_echoYards_23 (by decide) ?_
    refine w_istore (ls' := [(5, vI 1), (4, vI r10_), (0, vR (10, b, 0)), (1, vI v), (2, vI u), (3, vI t)]) dX10_echoYards_24 (by decide) rfl ?_
    have lp15_ : ∀ (nn_26 : Nat) (v5_26 : Int32) (hv0_26 : 1 ≤ v5_26.toInt) (hL_26 : RCH (fun x_ y_ => ST_X10_echoYards_26 b v u t Mz r10_ x_ y_) (1 : Int32) v5_26), (2147483648 - v5_26.toInt).toNat < nn_26 → WP CC l G cy ad yX10_echoYards cX10_echoYards 7 (some .int) (d + 2) 26 [(5, vI v5_26), (4, vI r10_), (0, vR (10, b, 0)), (1, vI v), (2, vI u), (3, vI t)] [] Mz (fun r M' => Mz = M' ∧ (0 ≤ r.toInt ∧ r.toInt ≤ 12) ∧ SP_X10_echoYards b v u t Mz r) := by
      intro nn_26
      induction nn_26 with
      | zero => intro v5_26 hv0_26 hL_26 hm_26; exact absurd hm_26 (Nat.not_lt_zero _)
      | succ nn_26 ih_26 =>
        intro v5_26 hv0_26 hL_26 hm_26
        refine w_iload dX10_echoYards_26 0 rfl ?_
        refine w_iload dX10_echoYards_28 1 rfl ?_
        refine w_icmp_gt (tgt := 68) dX10_echoYards_30 (by decide) (rfl : v5_26.toInt = v5_26.toInt) (rfl : r10_.toInt = r10_.toInt) (fun h16_ => ?_) (fun h16_ => ?_)
        · refine w_iconst (v := 0) dX10_echoYards_68 (by decide) ?_
          exact w_iret rfl dX10_echoYards_69 ⟨rfl, (lf_c_X9_reach_0 ), (Or.inl ⟨hs5_, h4_, j7_, h8_, h9_, r10_, hs14_, h13_, v5_26, hv0_26, hL_26, (Or.inl ⟨h16_, rfl⟩)⟩)⟩
        · refine w_iload_n dX10_echoYards_33 rfl 4 rfl ?_
          refine w_iload_n dX10_echoYards_34 rfl 5 rfl ?_
          refine w_iload dX10_echoYards_35 0 rfl ?_
          refine w_callS (as := [vI u, vI t, vI v5_26]) (rest := []) (c_X7_cellFrom l G cy ad d u t v5_26 Mz hIz) kS_X7_cellFrom pnn_1 (Nat.le_of_ble_eq_true rfl) m_849 rfl rfl (by decide) (Nat.le_of_ble_eq_true rfl) dX10_echoYards_37 (fun r17_ M18_ q19_ => ?_)
          obtain ⟨rfl, h20_, hs21_⟩ := q19_
          refine w_istore (ls' := [(6, vI r17_), (5, vI v5_26), (4, vI r10_), (0, vR (10, b, 0)), (1, vI v), (2, vI u), (3, vI t)]) dX10_echoYards_40 (by decide) rfl ?_
          refine w_iload dX10_echoYards_42 0 rfl ?_
          refine w_if_ge (tgt := 49) dX10_echoYards_44 (by decide) (rfl : r17_.toInt = r17_.toInt) (fun h22_ => ?_) (fun h22_ => ?_)
          · refine w_aload_n dX10_echoYards_49 rfl 3 rfl ?_
            refine w_iload_n dX10_echoYards_50 rfl 4 rfl ?_
            refine w_iload dX10_echoYards_51 0 rfl ?_
            refine w_callV (as := [vI v, vI r17_]) (rest := []) (c_X10_isFreeBut l G cy ad (d + 1) b v r17_ Mz hIz hb) kV_X10_isFreeBut pnn_7 (Nat.le_of_ble_eq_true rfl) m_857 rfl rfl rfl (ic_10 hb) rfl rfl (by decide) (Nat.le_of_ble_eq_true rfl) dX10_echoYards_53 (fun r23_ M24_ q25_ => ?_)
            obtain ⟨rfl, h26_, hs27_⟩ := q25_
            refine w_if_ne (tgt := 62) dX10_echoYards_56 (by decide) (rfl : r23_.toInt = r23_.toInt) (fun h28_ => ?_) (fun h28_ => ?_)
            · refine w_iincB (j := 1) (f := fun z29_ => [(5, vI z29_), (6, vI r17_), (4, vI r10_), (0, vR (10, b, 0)), (1, vI v), (2, vI u), (3, vI t)]) dX10_echoYards_62 rfl (by decide) (fun _ => rfl) (rfl : v5_26.toInt = v5_26.toInt) li_1 (lf_c_X10_echoYards_2 r10_ v5_26 h13_ hv0_26 h16_ ) (fun z29_ h30_ => ?_)
              refine w_goto (tgt := 26) dX10_echoYards_65 (by decide) ?_
              refine w_loc (ls' := [(5, vI z29_), (4, vI r10_), (0, vR (10, b, 0)), (1, vI v), (2, vI u), (3, vI t)]) [0, 2, 3, 4, 5, 6] rfl ?_
              exact ih_26 z29_ (lf_c_X9_yardsToFull_1 v5_26 z29_ hv0_26 h30_ ) (RCH.tail hL_26 ⟨hv0_26, h16_, r17_, hs21_, h20_, h22_, r23_, hs27_, h26_, h28_, z29_, h30_, rfl⟩) (Nat.lt_of_lt_of_le (lf_c_X10_echoYards_4 r10_ v5_26 z29_ h13_ h16_ h30_ ) (Nat.le_of_lt_succ hm_26))
            · refine w_iload dX10_echoYards_59 1 rfl ?_
              exact w_iret rfl dX10_echoYards_61 ⟨rfl, (lf_c_X10_echoYards_5 r10_ v5_26 h13_ hv0_26 h16_ ), (Or.inl ⟨hs5_, h4_, j7_, h8_, h9_, r10_, hs14_, h13_, v5_26, hv0_26, hL_26, (Or.inr ⟨h16_, r17_, hs21_, h20_, (Or.inl ⟨h22_, r23_, hs27_, h26_, h28_, rfl⟩)⟩)⟩)⟩
          · refine w_iconst (v := 0) dX10_echoYards_47 (by decide) ?_
            exact w_iret rfl dX10_echoYards_48 ⟨rfl, (lf_c_X9_reach_0 ), (Or.inl ⟨hs5_, h4_, j7_, h8_, h9_, r10_, hs14_, h13_, v5_26, hv0_26, hL_26, (Or.inr ⟨h16_, r17_, hs21_, h20_, (Or.inr ⟨h22_, rfl⟩)⟩)⟩)⟩
    exact lp15_ _ 1 (lf_c_X9_yardsToFull_4 ) RCH.refl (Nat.lt_succ_self _)
  · refine w_if_eq (tgt := 20) dX10_echoYards_5 (by decide) li_0 (fun h31_ => ?_) (fun h9 => (absurd h9 (by decide)))
    refine w_iconst (v := 0) dX10_echoYards_20 (by decide) ?_
    refine w_istore (ls' := [(4, vI 0), (0, vR (10, b, 0)), (1, vI v), (2, vI u), (3, vI t)]) dX10_echoYards_21 (by decide) rfl ?_
    refine w_iconst (v := 1) dX10_echoYards_23 (by decide) ?_
    refine w_istore (ls' := [(5, vI 1), (4, vI 0), (0, vR (10, b, 0)), (1, vI v), (2, vI u), (3, vI t)]) dX10_echoYards_24 (by decide) rfl ?_
    have lp32_ : ∀ (nn_26 : Nat) (v5_26 : Int32) (hv0_26 : 1 ≤ v5_26.toInt) (hL_26 : RCH (fun x_ y_ => ST_X10_echoYards_26b x_ y_) (1 : Int32) v5_26), (2147483648 - v5_26.toInt).toNat < nn_26 → WP CC l G cy ad yX10_echoYards cX10_echoYards 7 (some .int) (d + 2) 26 [(5, vI v5_26), (4, vI 0), (0, vR (10, b, 0)), (1, vI v), (2, vI u), (3, vI t)] [] Mz (fun r M' => Mz = M' ∧ (0 ≤ r.toInt ∧ r.toInt ≤ 12) ∧ SP_X10_echoYards b v u t Mz r) := by
      intro nn_26
      induction nn_26 with
      | zero => intro v5_26 hv0_26 hL_26 hm_26; exact absurd hm_26 (Nat.not_lt_zero _)
      | succ nn_26 ih_26 =>
        intro v5_26 hv0_26 hL_26 hm_26
        refine w_iload dX10_echoYards_26 0 rfl ?_
        refine w_iload dX10_echoYards_28 1 rfl ?_
        refine w_icmp_gt (tgt := 68) dX10_echoYards_30 (by decide) (rfl : v5_26.toInt = v5_26.toInt) li_0 (fun h33_ => ?_) (fun h9 => (lf_c_X10_echoYards_8 v5_26 hv0_26 h9 ).elim)
        refine w_iconst (v := 0) dX10_echoYards_68 (by decide) ?_
        exact w_iret rfl dX10_echoYards_69 ⟨rfl, (lf_c_X9_reach_0 ), (Or.inr ⟨hs5_, v5_26, hv0_26, hL_26, h33_, rfl⟩)⟩
    exact lp32_ _ 1 (lf_c_X9_yardsToFull_4 ) RCH.refl (Nat.lt_succ_self _)
def S_c_X10_heardYards (b : Nat) : rf → Nat → Prop := fun c k => (c.1 = 29 ∧ c.2.1 = b ∧ k = 0) ∨ (c.1 = 29 ∧ c.2.1 = b ∧ k = 1) ∨ (c.1 = 29 ∧ c.2.1 = b ∧ k = 2) ∨ (c.1 = 29 ∧ c.2.1 = b ∧ k = 3) ∨ (c.1 = 25 ∧ c.2.1 = b ∧ c.2.2 = 0) ∨ (c.1 = 25 ∧ c.2.1 = b ∧ c.2.2 = 1) ∨ False
def SP_X10_heardYards (b : Nat) (v : Int32) (u : Int32) (t : Int32) (Mz : mM) (r_ : Int32) (M_ : mM) : Prop := ∃ r1_ : Int32, (SP_X10_echoYards b v u t Mz r1_) ∧ (0 ≤ r1_.toInt ∧ r1_.toInt ≤ 12) ∧ (((r1_.toInt = 0) ∧ r_ = 0 ∧ M_ = Mz) ∨ ((¬ r1_.toInt = 0) ∧ (((SP_X10_hasWalker b v Mz (1 : Int32)) ∧ (0 ≤ v.toInt ∧ v.toInt ≤ 7) ∧ ∃ j13_ : Nat, ((j13_ : Int) = v.toInt) ∧ (j13_ < 8) ∧ ∃ r16_ : Int32, (SP_X7_cellFrom u t r1_ Mz r16_) ∧ (-1 ≤ r16_.toInt ∧ r16_.toInt ≤ 191) ∧ ∃ r21_ : Int32, (SP_X7_kindIn b r16_ Mz r21_) ∧ ∃ r26_ : Int32, (SP_X9_ears b j13_ Mz r26_) ∧ (0 ≤ r26_.toInt ∧ r26_.toInt ≤ 9) ∧ ∃ r31_ : Int32, (SP_X9_ownClick b j13_ Mz r31_) ∧ ∃ M37_ : mM, (Inv M37_) ∧ (FR (S_c_X2_hears b) Mz M37_) ∧ ∃ r36_ : Int32, (SP_X2_hears b r26_ r21_ r31_ r1_ t Mz r36_ M37_) ∧ ((0 ≤ r36_.toInt ∧ r36_.toInt ≤ 1)) ∧ (((r36_.toInt = 0) ∧ r_ = 0 ∧ M_ = M37_) ∨ ((¬ r36_.toInt = 0) ∧ r_ = r1_ ∧ M_ = M37_))) ∨ ((SP_X10_hasWalker b v Mz (0 : Int32)) ∧ r_ = 0 ∧ M_ = Mz))))
set_option maxHeartbeats 4000000 in
set_option maxRecDepth 100000 in
theorem c_X10_heardYards (l : Launch) (G : va_G) (cy : Nat → ClassId) (ad : rf → Nat) (d : Nat) (b : Nat) (v : Int32) (u : Int32) (t : Int32) (Mz : mM) (hIz : Inv Mz) (hb : b < 3) : WP CC l G cy ad yX10_heardYards cX10_heardYards 7 (some .int) (d + 3) 0 [(0, vR (10, b, 0)), (1, vI v), (2, vI u), (3, vI t)] [] Mz (fun r M' => Inv M' ∧ FR (S_c_X10_heardYards b) Mz M' ∧ (0 ≤ r.toInt ∧ r.toInt ≤ 12) ∧ SP_X10_heardYards b v u t Mz r M') := by
  have hFz : FR (S_c_X10_heardYards b) Mz Mz := FR.self
  refine w_aload_n dX10_heardYards_0 rfl 0 rfl ?_
  refine w_iload_n dX10_heardYards_1 rfl 1 rfl ?_
  refine w_iload_n dX10_heardYards_2 rfl 2 rfl ?_
  refine w_iload_n dX10_heardYards_3 rfl 3 rfl ?_
  refine w_callV (as := [vI v, vI u, vI t]) (rest := []) (c_X10_echoYards l G cy ad d b v u t Mz hIz hb) kV_X10_echoYards pnn_7 (Nat.le_of_ble_eq_true rfl) m_865 rfl rfl rfl (ic_10 hb) rfl rfl (by decide) (Nat.le_of_ble_eq_true rfl) dX10_heardYards_4 (fun r1_ M2_ q3_ => ?_)
  obtain ⟨rfl, h4_, hs5_⟩ := q3_
  refine w_istore (ls' := [(4, vI r1_), (0, vR (10, b, 0)), (1, vI v), (2, vI u), (3, vI t)]) dX10_heardYards_7 (by decide) rfl ?_
  refine w_iload dX10_heardYards_9 0 rfl ?_
  refine w_if_eq (tgt := 22) dX10_heardYards_11 (by decide) (rfl : r1_.toInt = r1_.toInt) (fun h6_ => ?_) (fun h6_ => ?_)
  · refine w_iconst (v := 0) dX10_heardYards_22 (by decide) ?_
    exact w_iret rfl dX10_heardYards_23 ⟨hIz, hFz, (lf_c_X9_reach_0 ), ⟨r1_, hs5_, h4_, (Or.inl ⟨h6_, rfl, rfl⟩)⟩⟩
  · refine w_aload_n dX10_heardYards_14 rfl 1 rfl ?_
    refine w_iload_n dX10_heardYards_15 rfl 2 rfl ?_
    refine w_callV (as := [vI v]) (rest := []) (c_X10_hasWalker l G cy ad (d + 2) b v Mz hIz hb) kV_X10_hasWalker pnn_7 (Nat.le_of_ble_eq_true rfl) m_847 rfl rfl rfl (ic_10 hb) rfl rfl (by decide) (Nat.le_of_ble_eq_true rfl) dX10_heardYards_16 (fun r7_ M8_ q9_ => ?_)
    obtain ⟨rfl, h10_, hs11_⟩ := q9_
    rcases h10_ with ⟨rfl, h10_⟩ | rfl
    · refine w_if_ne (tgt := 24) dX10_heardYards_19 (by decide) li_1 (fun h12_ => ?_) (fun h9 => (absurd h9 (by decide)))
      refine w_aload_n dX10_heardYards_24 rfl 1 rfl ?_
      refine w_getR (c' := (42, b, 0)) fl_RX10_46 rfl rfl (ic_10 hb) dX10_heardYards_25 rfl ?_
      refine w_iload_n dX10_heardYards_28 rfl 2 rfl ?_
      refine w_aald rfl rfl rfl (fun _ => rfl) (ic_42 hb) (rfl : v.toInt = v.toInt) (lf_c_X7_cellFrom_2 v h10_ ) dX10_heardYards_29 (fun j13_ h14_ h15_ => ?_)
      refine w_astore (ls' := [(5, vR (9, b, j13_)), (4, vI r1_), (0, vR (10, b, 0)), (1, vI v), (2, vI u), (3, vI t)]) dX10_heardYards_30 (by decide) rfl ?_
      refine w_aload_n dX10_heardYards_32 rfl 2 rfl ?_
      refine w_getR (c' := (7, b, 0)) fl_RX10_10 rfl rfl (ic_10 hb) dX10_heardYards_33 rfl ?_
      refine w_iload_n dX10_heardYards_36 rfl 4 rfl ?_
      refine w_iload_n dX10_heardYards_37 rfl 5 rfl ?_
      refine w_iload dX10_heardYards_38 1 rfl ?_
      refine w_callS (as := [vI u, vI t, vI r1_]) (rest := [vR (7, b, 0)]) (c_X7_cellFrom l G cy ad (d + 1) u t r1_ Mz hIz) kS_X7_cellFrom pnn_1 (Nat.le_of_ble_eq_true rfl) m_849 rfl rfl (by decide) (Nat.le_of_ble_eq_true rfl) dX10_heardYards_40 (fun r16_ M17_ q18_ => ?_)
      obtain ⟨rfl, h19_, hs20_⟩ := q18_
      refine w_callV (as := [vI r16_]) (rest := []) (c_X7_kindIn l G cy ad (d + 1) b r16_ Mz hIz hb) kV_X7_kindIn pnn_1 (Nat.le_of_ble_eq_true rfl) m_869 rfl rfl rfl (ic_7 hb) rfl rfl (by decide) (Nat.le_of_ble_eq_true rfl) dX10_heardYards_43 (fun r21_ M22_ q23_ => ?_)
      obtain ⟨rfl, h24_, hs25_⟩ := q23_
      refine w_istore (ls' := [(6, vI r21_), (5, vR (9, b, j13_)), (4, vI r1_), (0, vR (10, b, 0)), (1, vI v), (2, vI u), (3, vI t)]) dX10_heardYards_46 (by decide) rfl ?_
      refine w_aload_n dX10_heardYards_48 rfl 3 rfl ?_
      refine w_getR (c' := (2, b, 0)) fl_RX10_19 rfl rfl (ic_10 hb) dX10_heardYards_49 rfl ?_
      refine w_aload dX10_heardYards_52 1 rfl ?_
      refine w_callV (as := []) (rest := [vR (2, b, 0)]) (c_X9_ears l G cy ad (d + 2) b j13_ Mz hIz hb h15_) kV_X9_ears pnn_3 (Nat.le_of_ble_eq_true rfl) m_887 rfl rfl rfl (ic_9 hb h15_) rfl rfl (by decide) (Nat.le_of_ble_eq_true rfl) dX10_heardYards_54 (fun r26_ M27_ q28_ => ?_)
      obtain ⟨rfl, h29_, hs30_⟩ := q28_
      refine w_iload dX10_heardYards_57 0 rfl ?_
      refine w_aload dX10_heardYards_59 1 rfl ?_
      refine w_callV (as := []) (rest := [vI r21_, vI r26_, vR (2, b, 0)]) (c_X9_ownClick l G cy ad (d + 2) b j13_ Mz hIz hb h15_) kV_X9_ownClick pnn_3 (Nat.le_of_ble_eq_true rfl) m_904 rfl rfl rfl (ic_9 hb h15_) rfl rfl (by decide) (Nat.le_of_ble_eq_true rfl) dX10_heardYards_61 (fun r31_ M32_ q33_ => ?_)
      obtain ⟨rfl, h34_, hs35_⟩ := q33_
      refine w_iload dX10_heardYards_64 2 rfl ?_
      refine w_iload_n dX10_heardYards_66 rfl 6 rfl ?_
      refine w_callV (as := [vI r26_, vI r21_, vI r31_, vI r1_, vI t]) (rest := []) (c_X2_hears l G cy ad d b r26_ r21_ r31_ r1_ t Mz hIz hb) kV_X2_hears pnn_5 (Nat.le_of_ble_eq_true rfl) m_908 rfl rfl rfl (ic_2 hb) rfl rfl (by decide) (Nat.le_of_ble_eq_true rfl) dX10_heardYards_67 (fun r36_ M37_ q38_ => ?_)
      obtain ⟨hI40_, hF41_, h39_, hs43_⟩ := q38_
      have hF42_ := hFz.tr hF41_ (fun c k => (fun h => h.elim (fun h => (Or.inl ⟨h.1, h.2.1, h.2.2⟩)) (fun h => h.elim (fun h => (Or.inr (Or.inl ⟨h.1, h.2.1, h.2.2⟩))) (fun h => h.elim (fun h => (Or.inr (Or.inr (Or.inl ⟨h.1, h.2.1, h.2.2⟩)))) (fun h => h.elim (fun h => (Or.inr (Or.inr (Or.inr (Or.inl ⟨h.1, h.2.1, h.2.2⟩))))) (fun h => h.elim (fun h => (Or.inr (Or.inr (Or.inr (Or.inr (Or.inl ⟨h.1, h.2.1, h.2.2⟩)))))) (fun h => h.elim (fun h => (Or.inr (Or.inr (Or.inr (Or.inr (Or.inr (Or.inl ⟨h.1, h.2.1, h.2.2⟩))))))) (fun h => h.elim))))))))
      refine w_if_eq (tgt := 78) dX10_heardYards_70 (by decide) (rfl : r36_.toInt = r36_.toInt) (fun h44_ => ?_) (fun h44_ => ?_)
      · refine w_iconst (v := 0) dX10_heardYards_78 (by decide) ?_
        exact w_iret rfl dX10_heardYards_79 ⟨hI40_, hF42_, (lf_c_X9_reach_0 ), ⟨r1_, hs5_, h4_, (Or.inr ⟨h6_, (Or.inl ⟨hs11_, h10_, j13_, h14_, h15_, r16_, hs20_, h19_, r21_, hs25_, r26_, hs30_, h29_, r31_, hs35_, M37_, hI40_, hF41_, r36_, hs43_, h39_, (Or.inl ⟨h44_, rfl, rfl⟩)⟩)⟩)⟩⟩
      · refine w_iload dX10_heardYards_73 2 rfl ?_
        refine w_goto (tgt := 79) dX10_heardYards_75 (by decide) ?_
        exact w_iret rfl dX10_heardYards_79 ⟨hI40_, hF42_, h4_, ⟨r1_, hs5_, h4_, (Or.inr ⟨h6_, (Or.inl ⟨hs11_, h10_, j13_, h14_, h15_, r16_, hs20_, h19_, r21_, hs25_, r26_, hs30_, h29_, r31_, hs35_, M37_, hI40_, hF41_, r36_, hs43_, h39_, (Or.inr ⟨h44_, rfl, rfl⟩)⟩)⟩)⟩⟩
    · refine w_if_ne (tgt := 24) dX10_heardYards_19 (by decide) li_0 (fun h9 => (absurd h9 (by decide))) (fun h45_ => ?_)
      refine w_iconst (v := 0) dX10_heardYards_22 (by decide) ?_
      exact w_iret rfl dX10_heardYards_23 ⟨hIz, hFz, (lf_c_X9_reach_0 ), ⟨r1_, hs5_, h4_, (Or.inr ⟨h6_, (Or.inr ⟨hs11_, rfl, rfl⟩)⟩)⟩⟩
def S_c_X10_echoFact (b : Nat) : rf → Nat → Prop := fun c k => (c.1 = 29 ∧ c.2.1 = b ∧ k = 0) ∨ (c.1 = 29 ∧ c.2.1 = b ∧ k = 1) ∨ (c.1 = 29 ∧ c.2.1 = b ∧ k = 2) ∨ (c.1 = 29 ∧ c.2.1 = b ∧ k = 3) ∨ (c.1 = 25 ∧ c.2.1 = b ∧ c.2.2 = 0) ∨ (c.1 = 25 ∧ c.2.1 = b ∧ c.2.2 = 1) ∨ False
def SP_X10_echoFact (b : Nat) (v : Int32) (u : Int32) (t : Int32) (s : Int32) (Mz : mM) (r_ : Int32) (M_ : mM) : Prop := (((SP_X10_hasWalker b v Mz (1 : Int32)) ∧ (0 ≤ v.toInt ∧ v.toInt ≤ 7) ∧ ∃ j7_ : Nat, ((j7_ : Int) = v.toInt) ∧ (j7_ < 8) ∧ ∃ z10_ : Int32, (z10_ = Mz.1 (9, b, j7_) 1) ∧ ∃ r12_ : Int32, (SP_X10_echoYards b v z10_ t Mz r12_) ∧ (0 ≤ r12_.toInt ∧ r12_.toInt ≤ 12) ∧ ∃ r17_ : Int32, (SP_X2_late t r12_ Mz r17_) ∧ ∃ r24_ : Int32, (SP_X7_cellFrom z10_ t r12_ Mz r24_) ∧ (-1 ≤ r24_.toInt ∧ r24_.toInt ≤ 191) ∧ ∃ r29_ : Int32, (SP_X7_kindIn b r24_ Mz r29_) ∧ ∃ M35_ : mM, (Inv M35_) ∧ (FR (S_c_X2_strength b) Mz M35_) ∧ ∃ r34_ : Int32, (SP_X2_strength b r29_ u r12_ Mz r34_ M35_) ∧ ∃ z42_ : Int32, (z42_ = M35_.1 (9, b, j7_) 2) ∧ ∃ z44_ : Int32, (z44_ = t - z42_) ∧ ∃ z46_ : Int32, (z46_ = z44_ &&& (7 : Int32)) ∧ (0 ≤ z46_.toInt ∧ z46_.toInt < ((2 ^ 3 : Nat) : Int)) ∧ (((s.toInt = 0) ∧ r_ = r12_ ∧ M_ = M35_) ∨ ((s.toInt = 1) ∧ r_ = r17_ ∧ M_ = M35_) ∨ ((s.toInt = 2) ∧ r_ = r34_ ∧ M_ = M35_) ∨ ((s.toInt = 3) ∧ (((z46_.toInt < 1) ∧ r_ = r34_ ∧ M_ = M35_) ∨ ((1 ≤ z46_.toInt) ∧ (((3 < z46_.toInt) ∧ r_ = r34_ ∧ M_ = M35_) ∨ ((z46_.toInt ≤ 3) ∧ ∃ z52_ : Int32, (z52_ = r34_ / (2 : Int32)) ∧ r_ = z52_ ∧ M_ = M35_))))) ∨ ((s.toInt = 4) ∧ (((z46_.toInt < 5) ∧ r_ = r34_ ∧ M_ = M35_) ∨ ((5 ≤ z46_.toInt) ∧ ∃ z55_ : Int32, (z55_ = r34_ / (2 : Int32)) ∧ r_ = z55_ ∧ M_ = M35_))) ∨ (((¬ s.toInt = 0 ∧ ¬ s.toInt = 1 ∧ ¬ s.toInt = 2 ∧ ¬ s.toInt = 3 ∧ ¬ s.toInt = 4)) ∧ ∃ r57_ : Int32, (SP_X9_ears b j7_ M35_ r57_) ∧ (0 ≤ r57_.toInt ∧ r57_.toInt ≤ 9) ∧ ∃ M63_ : mM, (Inv M63_) ∧ (FR (S_c_X2_isHeard b) M35_ M63_) ∧ ∃ r62_ : Int32, (SP_X2_isHeard b r57_ u r17_ r34_ M35_ r62_ M63_) ∧ ((0 ≤ r62_.toInt ∧ r62_.toInt ≤ 1)) ∧ (((r62_.toInt = 0) ∧ r_ = 0 ∧ M_ = M63_) ∨ ((¬ r62_.toInt = 0) ∧ r_ = 1 ∧ M_ = M63_))))) ∨ ((SP_X10_hasWalker b v Mz (0 : Int32)) ∧ r_ = 0 ∧ M_ = Mz))
theorem lf_c_X10_echoFact_1 (s : Int32) : s.toInt = 0 ∨ s.toInt = 1 ∨ s.toInt = 2 ∨ s.toInt = 3 ∨ s.toInt = 4 ∨ (¬ s.toInt = 0 ∧ ¬ s.toInt = 1 ∧ ¬ s.toInt = 2 ∧ ¬ s.toInt = 3 ∧ ¬ s.toInt = 4) := by omega
theorem lf_c_X10_echoFact_2 (s : Int32) (e49_ : (¬ s.toInt = 0 ∧ ¬ s.toInt = 1 ∧ ¬ s.toInt = 2 ∧ ¬ s.toInt = 3 ∧ ¬ s.toInt = 4)) : s.toInt < 0 ∨ 4 < s.toInt := by have r_s := rngI s; omega
set_option maxHeartbeats 4000000 in
set_option maxRecDepth 100000 in
theorem c_X10_echoFact (l : Launch) (G : va_G) (cy : Nat → ClassId) (ad : rf → Nat) (d : Nat) (b : Nat) (v : Int32) (u : Int32) (t : Int32) (s : Int32) (Mz : mM) (hIz : Inv Mz) (hb : b < 3) : WP CC l G cy ad yX10_echoFact cX10_echoFact 10 (some .int) (d + 3) 0 [(0, vR (10, b, 0)), (1, vI v), (2, vI u), (3, vI t), (4, vI s)] [] Mz (fun r M' => Inv M' ∧ FR (S_c_X10_echoFact b) Mz M' ∧ (True) ∧ SP_X10_echoFact b v u t s Mz r M') := by
  have hFz : FR (S_c_X10_echoFact b) Mz Mz := FR.self
  refine w_aload_n dX10_echoFact_0 rfl 0 rfl ?_
  refine w_iload_n dX10_echoFact_1 rfl 1 rfl ?_
  refine w_callV (as := [vI v]) (rest := []) (c_X10_hasWalker l G cy ad (d + 2) b v Mz hIz hb) kV_X10_hasWalker pnn_7 (Nat.le_of_ble_eq_true rfl) m_847 rfl rfl rfl (ic_10 hb) rfl rfl (by decide) (Nat.le_of_ble_eq_true rfl) dX10_echoFact_2 (fun r1_ M2_ q3_ => ?_)
  obtain ⟨rfl, h4_, hs5_⟩ := q3_
  rcases h4_ with ⟨rfl, h4_⟩ | rfl
  · refine w_if_ne (tgt := 10) dX10_echoFact_5 (by decide) li_1 (fun h6_ => ?_) (fun h9 => (absurd h9 (by decide)))
    refine w_aload_n dX10_echoFact_10 rfl 0 rfl ?_
    refine w_getR (c' := (42, b, 0)) fl_RX10_46 rfl rfl (ic_10 hb) dX10_echoFact_11 rfl ?_
    refine w_iload_n dX10_echoFact_14 rfl 1 rfl ?_
    refine w_aald rfl rfl rfl (fun _ => rfl) (ic_42 hb) (rfl : v.toInt = v.toInt) (lf_c_X7_cellFrom_2 v h4_ ) dX10_echoFact_15 (fun j7_ h8_ h9_ => ?_)
    refine w_astore (ls' := [(5, vR (9, b, j7_)), (0, vR (10, b, 0)), (1, vI v), (2, vI u), (3, vI t), (4, vI s)]) dX10_echoFact_16 (by decide) rfl ?_
    refine w_aload_n dX10_echoFact_18 rfl 1 rfl ?_
    refine w_iload_n dX10_echoFact_19 rfl 2 rfl ?_
    refine w_aload dX10_echoFact_20 0 rfl ?_
    refine w_getI fl_RX10_109 rfl rfl (ic_9 hb h9_) dX10_echoFact_22 (fun z10_ e11_ => ?_)
    refine w_iload_n dX10_echoFact_25 rfl 4 rfl ?_
    refine w_callV (as := [vI v, vI z10_, vI t]) (rest := []) (c_X10_echoYards l G cy ad d b v z10_ t Mz hIz hb) kV_X10_echoYards pnn_7 (Nat.le_of_ble_eq_true rfl) m_865 rfl rfl rfl (ic_10 hb) rfl rfl (by decide) (Nat.le_of_ble_eq_true rfl) dX10_echoFact_26 (fun r12_ M13_ q14_ => ?_)
    obtain ⟨rfl, h15_, hs16_⟩ := q14_
    refine w_istore (ls' := [(6, vI r12_), (5, vR (9, b, j7_)), (0, vR (10, b, 0)), (1, vI v), (2, vI u), (3, vI t), (4, vI s)]) dX10_echoFact_29 (by decide) rfl ?_
    refine w_iload_n dX10_echoFact_31 rfl 5 rfl ?_
    refine w_iload dX10_echoFact_32 0 rfl ?_
    refine w_callS (as := [vI t, vI r12_]) (rest := []) (c_X2_late l G cy ad (d + 2) t r12_ Mz hIz) kS_X2_late pnn_5 (Nat.le_of_ble_eq_true rfl) m_866 rfl rfl (by decide) (Nat.le_of_ble_eq_true rfl) dX10_echoFact_34 (fun r17_ M18_ q19_ => ?_)
    obtain ⟨rfl, h20_, hs21_⟩ := q19_
    refine w_istore (ls' := [(7, vI r17_), (6, vI r12_), (5, vR (9, b, j7_)), (0, vR (10, b, 0)), (1, vI v), (2, vI u), (3, vI t), (4, vI s)]) dX10_echoFact_37 (by decide) rfl ?_
    refine w_aload_n dX10_echoFact_39 rfl 3 rfl ?_
    refine w_getR (c' := (2, b, 0)) fl_RX10_19 rfl rfl (ic_10 hb) dX10_echoFact_40 rfl ?_
    refine w_aload_n dX10_echoFact_43 rfl 3 rfl ?_
    refine w_getR (c' := (7, b, 0)) fl_RX10_10 rfl rfl (ic_10 hb) dX10_echoFact_44 rfl ?_
    refine w_aload dX10_echoFact_47 2 rfl ?_
    refine w_getI fl_RX10_109 rfl rfl (ic_9 hb h9_) dX10_echoFact_49 (fun z22_ e23_ => ?_)
    obtain rfl : z10_ = z22_ := e11_.trans e23_.symm
    refine w_iload_n dX10_echoFact_52 rfl 6 rfl ?_
    refine w_iload dX10_echoFact_53 1 rfl ?_
    refine w_callS (as := [vI z10_, vI t, vI r12_]) (rest := [vR (7, b, 0), vR (2, b, 0)]) (c_X7_cellFrom l G cy ad (d + 1) z10_ t r12_ Mz hIz) kS_X7_cellFrom pnn_1 (Nat.le_of_ble_eq_true rfl) m_849 rfl rfl (by decide) (Nat.le_of_ble_eq_true rfl) dX10_echoFact_55 (fun r24_ M25_ q26_ => ?_)
    obtain ⟨rfl, h27_, hs28_⟩ := q26_
    refine w_callV (as := [vI r24_]) (rest := [vR (2, b, 0)]) (c_X7_kindIn l G cy ad (d + 1) b r24_ Mz hIz hb) kV_X7_kindIn pnn_1 (Nat.le_of_ble_eq_true rfl) m_869 rfl rfl rfl (ic_7 hb) rfl rfl (by decide) (Nat.le_of_ble_eq_true rfl) dX10_echoFact_58 (fun r29_ M30_ q31_ => ?_)
    obtain ⟨rfl, h32_, hs33_⟩ := q31_
    refine w_iload_n dX10_echoFact_61 rfl 5 rfl ?_
    refine w_iload dX10_echoFact_62 1 rfl ?_
    refine w_callV (as := [vI r29_, vI u, vI r12_]) (rest := []) (c_X2_strength l G cy ad (d + 1) b r29_ u r12_ Mz hIz hb) kV_X2_strength pnn_5 (Nat.le_of_ble_eq_true rfl) m_873 rfl rfl rfl (ic_2 hb) rfl rfl (by decide) (Nat.le_of_ble_eq_true rfl) dX10_echoFact_64 (fun r34_ M35_ q36_ => ?_)
    obtain ⟨hI38_, hF39_, h37_, hs41_⟩ := q36_
    have hF40_ := hFz.tr hF39_ (fun c k => (fun h => h.elim (fun h => (Or.inl ⟨h.1, h.2.1, h.2.2⟩)) (fun h => h.elim (fun h => (Or.inr (Or.inl ⟨h.1, h.2.1, h.2.2⟩))) (fun h => h.elim (fun h => (Or.inr (Or.inr (Or.inl ⟨h.1, h.2.1, h.2.2⟩)))) (fun h => h.elim (fun h => (Or.inr (Or.inr (Or.inr (Or.inl ⟨h.1, h.2.1, h.2.2⟩))))) (fun h => h.elim (fun h => (Or.inr (Or.inr (Or.inr (Or.inr (Or.inl ⟨h.1, h.2.1, h.2.2⟩)))))) (fun h => h.elim)))))))
    refine w_istore (ls' := [(8, vI r34_), (7, vI r17_), (6, vI r12_), (5, vR (9, b, j7_)), (0, vR (10, b, 0)), (1, vI v), (2, vI u), (3, vI t), (4, vI s)]) dX10_echoFact_67 (by decide) rfl ?_
    refine w_iload_n dX10_echoFact_69 rfl 7 rfl ?_
    refine w_aload dX10_echoFact_70 3 rfl ?_
    refine w_getI fl_RX10_119 rfl rfl (ic_9 hb h9_) dX10_echoFact_72 (fun z42_ e43_ => ?_)
    refine w_isub dX10_echoFact_75 (fun z44_ h45_ => ?_)
    refine w_bipush (v := 7) dX10_echoFact_76 (by decide) ?_
    refine w_iand dX10_echoFact_78 (fun z46_ h48_ => ?_)
    have h47_ : 0 ≤ z46_.toInt ∧ z46_.toInt < ((2 ^ 3 : Nat) : Int) := by rw [h48_]; exact andI _ 3 (by decide) (by decide)
    refine w_istore (ls' := [(9, vI z46_), (8, vI r34_), (7, vI r17_), (6, vI r12_), (5, vR (9, b, j7_)), (0, vR (10, b, 0)), (1, vI v), (2, vI u), (3, vI t), (4, vI s)]) dX10_echoFact_79 (by decide) rfl ?_
    refine w_iload dX10_echoFact_81 9 rfl ?_
    rcases (lf_c_X10_echoFact_1 s ) with e49_ | e49_ | e49_ | e49_ | e49_ | e49_
    · refine w_tsIn (tgt := 116) (off := 33) dX10_echoFact_83 e49_ (by decide) (by decide) rfl (by decide) ?_
      refine w_iload dX10_echoFact_116 3 rfl ?_
      exact w_iret rfl dX10_echoFact_118 ⟨hI38_, hF40_, trivial, (Or.inl ⟨hs5_, h4_, j7_, h8_, h9_, z10_, e11_, r12_, hs16_, h15_, r17_, hs21_, r24_, hs28_, h27_, r29_, hs33_, M35_, hI38_, hF39_, r34_, hs41_, z42_, e43_, z44_, h45_, z46_, h48_, h47_, (Or.inl ⟨e49_, rfl, rfl⟩)⟩)⟩
    · refine w_tsIn (tgt := 119) (off := 36) dX10_echoFact_83 e49_ (by decide) (by decide) rfl (by decide) ?_
      refine w_iload dX10_echoFact_119 2 rfl ?_
      exact w_iret rfl dX10_echoFact_121 ⟨hI38_, hF40_, trivial, (Or.inl ⟨hs5_, h4_, j7_, h8_, h9_, z10_, e11_, r12_, hs16_, h15_, r17_, hs21_, r24_, hs28_, h27_, r29_, hs33_, M35_, hI38_, hF39_, r34_, hs41_, z42_, e43_, z44_, h45_, z46_, h48_, h47_, (Or.inr (Or.inl ⟨e49_, rfl, rfl⟩))⟩)⟩
    · refine w_tsIn (tgt := 122) (off := 39) dX10_echoFact_83 e49_ (by decide) (by decide) rfl (by decide) ?_
      refine w_iload dX10_echoFact_122 1 rfl ?_
      exact w_iret rfl dX10_echoFact_124 ⟨hI38_, hF40_, trivial, (Or.inl ⟨hs5_, h4_, j7_, h8_, h9_, z10_, e11_, r12_, hs16_, h15_, r17_, hs21_, r24_, hs28_, h27_, r29_, hs33_, M35_, hI38_, hF39_, r34_, hs41_, z42_, e43_, z44_, h45_, z46_, h48_, h47_, (Or.inr (Or.inr (Or.inl ⟨e49_, rfl, rfl⟩)))⟩)⟩
    · refine w_tsIn (tgt := 125) (off := 42) dX10_echoFact_83 e49_ (by decide) (by decide) rfl (by decide) ?_
      refine w_iload dX10_echoFact_125 0 rfl ?_
      refine w_iconst (v := 1) dX10_echoFact_127 (by decide) ?_
      refine w_icmp_lt (tgt := 144) dX10_echoFact_128 (by decide) (rfl : z46_.toInt = z46_.toInt) li_1 (fun h50_ => ?_) (fun h50_ => ?_)
      · refine w_iload dX10_echoFact_144 1 rfl ?_
        exact w_iret rfl dX10_echoFact_146 ⟨hI38_, hF40_, trivial, (Or.inl ⟨hs5_, h4_, j7_, h8_, h9_, z10_, e11_, r12_, hs16_, h15_, r17_, hs21_, r24_, hs28_, h27_, r29_, hs33_, M35_, hI38_, hF39_, r34_, hs41_, z42_, e43_, z44_, h45_, z46_, h48_, h47_, (Or.inr (Or.inr (Or.inr (Or.inl ⟨e49_, (Or.inl ⟨h50_, rfl, rfl⟩)⟩))))⟩)⟩
      · refine w_iload dX10_echoFact_131 0 rfl ?_
        refine w_iconst (v := 3) dX10_echoFact_133 (by decide) ?_
        refine w_icmp_gt (tgt := 144) dX10_echoFact_134 (by decide) (rfl : z46_.toInt = z46_.toInt) li_3 (fun h51_ => ?_) (fun h51_ => ?_)
        · refine w_iload dX10_echoFact_144 1 rfl ?_
          exact w_iret rfl dX10_echoFact_146 ⟨hI38_, hF40_, trivial, (Or.inl ⟨hs5_, h4_, j7_, h8_, h9_, z10_, e11_, r12_, hs16_, h15_, r17_, hs21_, r24_, hs28_, h27_, r29_, hs33_, M35_, hI38_, hF39_, r34_, hs41_, z42_, e43_, z44_, h45_, z46_, h48_, h47_, (Or.inr (Or.inr (Or.inr (Or.inl ⟨e49_, (Or.inr ⟨h50_, (Or.inl ⟨h51_, rfl, rfl⟩)⟩)⟩))))⟩)⟩
        · refine w_iload dX10_echoFact_137 1 rfl ?_
          refine w_iconst (v := 2) dX10_echoFact_139 (by decide) ?_
          refine w_idiv dX10_echoFact_140 (by decide) (fun z52_ h53_ => ?_)
          refine w_goto (tgt := 146) dX10_echoFact_141 (by decide) ?_
          exact w_iret rfl dX10_echoFact_146 ⟨hI38_, hF40_, trivial, (Or.inl ⟨hs5_, h4_, j7_, h8_, h9_, z10_, e11_, r12_, hs16_, h15_, r17_, hs21_, r24_, hs28_, h27_, r29_, hs33_, M35_, hI38_, hF39_, r34_, hs41_, z42_, e43_, z44_, h45_, z46_, h48_, h47_, (Or.inr (Or.inr (Or.inr (Or.inl ⟨e49_, (Or.inr ⟨h50_, (Or.inr ⟨h51_, z52_, h53_, rfl, rfl⟩)⟩)⟩))))⟩)⟩
    · refine w_tsIn (tgt := 147) (off := 64) dX10_echoFact_83 e49_ (by decide) (by decide) rfl (by decide) ?_
      refine w_iload dX10_echoFact_147 0 rfl ?_
      refine w_iconst (v := 5) dX10_echoFact_149 (by decide) ?_
      refine w_icmp_lt (tgt := 160) dX10_echoFact_150 (by decide) (rfl : z46_.toInt = z46_.toInt) li_5 (fun h54_ => ?_) (fun h54_ => ?_)
      · refine w_iload dX10_echoFact_160 1 rfl ?_
        exact w_iret rfl dX10_echoFact_162 ⟨hI38_, hF40_, trivial, (Or.inl ⟨hs5_, h4_, j7_, h8_, h9_, z10_, e11_, r12_, hs16_, h15_, r17_, hs21_, r24_, hs28_, h27_, r29_, hs33_, M35_, hI38_, hF39_, r34_, hs41_, z42_, e43_, z44_, h45_, z46_, h48_, h47_, (Or.inr (Or.inr (Or.inr (Or.inr (Or.inl ⟨e49_, (Or.inl ⟨h54_, rfl, rfl⟩)⟩)))))⟩)⟩
      · refine w_iload dX10_echoFact_153 1 rfl ?_
        refine w_iconst (v := 2) dX10_echoFact_155 (by decide) ?_
        refine w_idiv dX10_echoFact_156 (by decide) (fun z55_ h56_ => ?_)
        refine w_goto (tgt := 162) dX10_echoFact_157 (by decide) ?_
        exact w_iret rfl dX10_echoFact_162 ⟨hI38_, hF40_, trivial, (Or.inl ⟨hs5_, h4_, j7_, h8_, h9_, z10_, e11_, r12_, hs16_, h15_, r17_, hs21_, r24_, hs28_, h27_, r29_, hs33_, M35_, hI38_, hF39_, r34_, hs41_, z42_, e43_, z44_, h45_, z46_, h48_, h47_, (Or.inr (Or.inr (Or.inr (Or.inr (Or.inl ⟨e49_, (Or.inr ⟨h54_, z55_, h56_, rfl, rfl⟩)⟩)))))⟩)⟩
    · refine w_tsOut (tgt := 163) dX10_echoFact_83 rfl (lf_c_X10_echoFact_2 s e49_ ) (by decide) ?_
      refine w_aload_n dX10_echoFact_163 rfl 5 rfl ?_
      refine w_getR (c' := (2, b, 0)) fl_RX10_19 rfl rfl (ic_10 hb) dX10_echoFact_164 rfl ?_
      refine w_aload dX10_echoFact_167 4 rfl ?_
      refine w_callV (as := []) (rest := [vR (2, b, 0)]) (c_X9_ears l G cy ad (d + 2) b j7_ M35_ hI38_ hb h9_) kV_X9_ears pnn_3 (Nat.le_of_ble_eq_true rfl) m_887 rfl rfl rfl (ic_9 hb h9_) rfl rfl (by decide) (Nat.le_of_ble_eq_true rfl) dX10_echoFact_169 (fun r57_ M58_ q59_ => ?_)
      obtain ⟨rfl, h60_, hs61_⟩ := q59_
      refine w_iload_n dX10_echoFact_172 rfl 7 rfl ?_
      refine w_iload dX10_echoFact_173 2 rfl ?_
      refine w_iload dX10_echoFact_175 1 rfl ?_
      refine w_callV (as := [vI r57_, vI u, vI r17_, vI r34_]) (rest := []) (c_X2_isHeard l G cy ad (d + 1) b r57_ u r17_ r34_ M35_ hI38_ hb) kV_X2_isHeard pnn_5 (Nat.le_of_ble_eq_true rfl) m_888 rfl rfl rfl (ic_2 hb) rfl rfl (by decide) (Nat.le_of_ble_eq_true rfl) dX10_echoFact_177 (fun r62_ M63_ q64_ => ?_)
      obtain ⟨hI66_, hF67_, h65_, hs69_⟩ := q64_
      have hF68_ := hF40_.tr hF67_ (fun c k => (fun h => h.elim (fun h => (Or.inl ⟨h.1, h.2.1, h.2.2⟩)) (fun h => h.elim (fun h => (Or.inr (Or.inl ⟨h.1, h.2.1, h.2.2⟩))) (fun h => h.elim (fun h => (Or.inr (Or.inr (Or.inl ⟨h.1, h.2.1, h.2.2⟩)))) (fun h => h.elim (fun h => (Or.inr (Or.inr (Or.inr (Or.inr (Or.inr (Or.inl ⟨h.1, h.2.1, h.2.2⟩))))))) (fun h => h.elim))))))
      refine w_if_eq (tgt := 187) dX10_echoFact_180 (by decide) (rfl : r62_.toInt = r62_.toInt) (fun h70_ => ?_) (fun h70_ => ?_)
      · refine w_iconst (v := 0) dX10_echoFact_187 (by decide) ?_
        exact w_iret rfl dX10_echoFact_188 ⟨hI66_, hF68_, trivial, (Or.inl ⟨hs5_, h4_, j7_, h8_, h9_, z10_, e11_, r12_, hs16_, h15_, r17_, hs21_, r24_, hs28_, h27_, r29_, hs33_, M35_, hI38_, hF39_, r34_, hs41_, z42_, e43_, z44_, h45_, z46_, h48_, h47_, (Or.inr (Or.inr (Or.inr (Or.inr (Or.inr ⟨e49_, r57_, hs61_, h60_, M63_, hI66_, hF67_, r62_, hs69_, h65_, (Or.inl ⟨h70_, rfl, rfl⟩)⟩)))))⟩)⟩
      · refine w_iconst (v := 1) dX10_echoFact_183 (by decide) ?_
        refine w_goto (tgt := 188) dX10_echoFact_184 (by decide) ?_
        exact w_iret rfl dX10_echoFact_188 ⟨hI66_, hF68_, trivial, (Or.inl ⟨hs5_, h4_, j7_, h8_, h9_, z10_, e11_, r12_, hs16_, h15_, r17_, hs21_, r24_, hs28_, h27_, r29_, hs33_, M35_, hI38_, hF39_, r34_, hs41_, z42_, e43_, z44_, h45_, z46_, h48_, h47_, (Or.inr (Or.inr (Or.inr (Or.inr (Or.inr ⟨e49_, r57_, hs61_, h60_, M63_, hI66_, hF67_, r62_, hs69_, h65_, (Or.inr ⟨h70_, rfl, rfl⟩)⟩)))))⟩)⟩
  · refine w_if_ne (tgt := 10) dX10_echoFact_5 (by decide) li_0 (fun h9 => (absurd h9 (by decide))) (fun h71_ => ?_)
    refine w_iconst (v := 0) dX10_echoFact_8 (by decide) ?_
    exact w_iret rfl dX10_echoFact_9 ⟨hIz, hFz, trivial, (Or.inr ⟨hs5_, rfl, rfl⟩)⟩
def S_c_X10_makeClick (b : Nat) : rf → Nat → Prop := fun c k => (c.1 = 9 ∧ c.2.1 = b ∧ k = 8) ∨ (c.1 = 29 ∧ c.2.1 = b ∧ k = 0) ∨ (c.1 = 29 ∧ c.2.1 = b ∧ k = 1) ∨ (c.1 = 29 ∧ c.2.1 = b ∧ k = 2) ∨ (c.1 = 29 ∧ c.2.1 = b ∧ k = 3) ∨ (c.1 = 25 ∧ c.2.1 = b ∧ c.2.2 = 0) ∨ (c.1 = 25 ∧ c.2.1 = b ∧ c.2.2 = 1) ∨ (c.1 = 40 ∧ c.2.1 = b) ∨ (c.1 = 41 ∧ c.2.1 = b) ∨ False
def ST_X10_makeClick_79 (v6_79 : Int32) (M_79 : mM) (v6_79y : Int32) (M_79y : mM) : Prop := False
def ST_X10_makeClick_79b (b : Nat) (Mz : mM) (j7_ : Nat) (v4_32 : Int32) (r22_ : Int32) (v6_79 : Int32) (M_79 : mM) (v6_79y : Int32) (M_79y : mM) : Prop := (1 ≤ v6_79.toInt) ∧ (Inv M_79) ∧ (FR (S_c_X10_makeClick b) Mz M_79) ∧ (v6_79.toInt < r22_.toInt) ∧ ∃ z55_ : Int32, (z55_ = M_79.1 (9, b, j7_) 1) ∧ ∃ r57_ : Int32, (SP_X7_cellFrom z55_ v4_32 v6_79 M_79 r57_) ∧ (-1 ≤ r57_.toInt ∧ r57_.toInt ≤ 191) ∧ ∃ M62_ : mM, (Inv M62_) ∧ (FR (S_c_X9_addNo b j7_) M_79 M62_) ∧ (SP_X9_addNo b j7_ r57_ M_79 M62_) ∧ ∃ z69_ : Int32, (z69_.toInt = v6_79.toInt + 1) ∧ v6_79y = z69_ ∧ M_79y = M62_
def ST_X10_makeClick_32 (b : Nat) (v : Int32) (Mz : mM) (j7_ : Nat) (v4_32 : Int32) (v3_32 : Int32) (M_32 : mM) (v4_32y : Int32) (v3_32y : Int32) (M_32y : mM) : Prop := (0 ≤ v4_32.toInt) ∧ (v4_32.toInt ≤ 8) ∧ (Inv M_32) ∧ (FR (S_c_X10_makeClick b) Mz M_32) ∧ (v4_32.toInt < 8) ∧ ∃ z20_ : Int32, (z20_ = M_32.1 (9, b, j7_) 1) ∧ ∃ M23_ : mM, (Inv M23_) ∧ (FR (S_c_X10_heardYards b) M_32 M23_) ∧ ∃ r22_ : Int32, (SP_X10_heardYards b v z20_ v4_32 M_32 r22_ M23_) ∧ (0 ≤ r22_.toInt ∧ r22_.toInt ≤ 12) ∧ (((r22_.toInt ≤ 0) ∧ ∃ v6_79 : Int32, (1 ≤ v6_79.toInt) ∧ ∃ M_79 : mM, (RCH (fun x_ y_ => ST_X10_makeClick_79 x_.1 x_.2 y_.1 y_.2) ((1 : Int32), M23_) (v6_79, M_79)) ∧ (Inv M_79) ∧ (FR (S_c_X10_makeClick b) Mz M_79) ∧ (r22_.toInt ≤ v6_79.toInt) ∧ ∃ z33_ : Int32, (z33_.toInt = v4_32.toInt + 1) ∧ v4_32y = z33_ ∧ v3_32y = v3_32 ∧ M_32y = M_79) ∨ ((0 < r22_.toInt) ∧ ∃ z35_ : Int32, (z35_ = v3_32 + Int32.ofInt 1) ∧ ∃ z37_ : Int32, (z37_ = M23_.1 (9, b, j7_) 1) ∧ ∃ r39_ : Int32, (SP_X7_cellFrom z37_ v4_32 r22_ M23_ r39_) ∧ (-1 ≤ r39_.toInt ∧ r39_.toInt ≤ 191) ∧ ∃ M44_ : mM, (Inv M44_) ∧ (FR (S_c_X9_addYes b j7_) M23_ M44_) ∧ (SP_X9_addYes b j7_ r39_ 1 M23_ M44_) ∧ ∃ v6_79 : Int32, (1 ≤ v6_79.toInt) ∧ ∃ M_79 : mM, (RCH (fun x_ y_ => ST_X10_makeClick_79b b Mz j7_ v4_32 r22_ x_.1 x_.2 y_.1 y_.2) ((1 : Int32), M44_) (v6_79, M_79)) ∧ (Inv M_79) ∧ (FR (S_c_X10_makeClick b) Mz M_79) ∧ (r22_.toInt ≤ v6_79.toInt) ∧ ∃ z53_ : Int32, (z53_.toInt = v4_32.toInt + 1) ∧ v4_32y = z53_ ∧ v3_32y = z35_ ∧ M_32y = M_79))
def SP_X10_makeClick (b : Nat) (v : Int32) (Mz : mM) (r_ : Int32) (M_ : mM) : Prop := (((SP_X10_hasWalker b v Mz (1 : Int32)) ∧ (0 ≤ v.toInt ∧ v.toInt ≤ 7) ∧ ∃ j7_ : Nat, ((j7_ : Int) = v.toInt) ∧ (j7_ < 8) ∧ ∃ z10_ : Int32, (z10_ = Mz.1 (9, b, j7_) 8) ∧ ∃ z12_ : Int32, (z12_ = z10_ + (1 : Int32)) ∧ ∃ M14_ : mM, (M14_ = up Mz (9, b, j7_) 8 z12_) ∧ ∃ v4_32 : Int32, (0 ≤ v4_32.toInt) ∧ (v4_32.toInt ≤ 8) ∧ ∃ v3_32 : Int32, ∃ M_32 : mM, (RCH (fun x_ y_ => ST_X10_makeClick_32 b v Mz j7_ x_.1 x_.2.1 x_.2.2 y_.1 y_.2.1 y_.2.2) ((0 : Int32), (0 : Int32), M14_) (v4_32, v3_32, M_32)) ∧ (Inv M_32) ∧ (FR (S_c_X10_makeClick b) Mz M_32) ∧ (8 ≤ v4_32.toInt) ∧ r_ = v3_32 ∧ M_ = M_32) ∨ ((SP_X10_hasWalker b v Mz (0 : Int32)) ∧ r_ = 0 ∧ M_ = Mz))
theorem lf_c_X10_makeClick_1 (r22_ : Int32) (v6_79 : Int32) (h30_ : r22_.toInt ≤ 0) (hv0_79 : 1 ≤ v6_79.toInt) (h9 : v6_79.toInt < r22_.toInt) : False := by omega
theorem lf_c_X10_makeClick_11 (r22_ : Int32) (v6_79 : Int32) (h25_ : 0 ≤ r22_.toInt ∧ r22_.toInt ≤ 12) (hv0_79 : 1 ≤ v6_79.toInt) (h52_ : v6_79.toInt < r22_.toInt) : -2147483648 ≤ v6_79.toInt + 1 ∧ v6_79.toInt + 1 < 2147483648 := by omega
theorem lf_c_X10_makeClick_13 (r22_ : Int32) (v6_79 : Int32) (z69_ : Int32) (h25_ : 0 ≤ r22_.toInt ∧ r22_.toInt ≤ 12) (h52_ : v6_79.toInt < r22_.toInt) (h70_ : z69_.toInt = v6_79.toInt + 1) : (2147483648 - z69_.toInt).toNat < (2147483648 - v6_79.toInt).toNat := by omega
set_option maxHeartbeats 4000000 in
set_option maxRecDepth 100000 in
theorem c_X10_makeClick (l : Launch) (G : va_G) (cy : Nat → ClassId) (ad : rf → Nat) (d : Nat) (b : Nat) (v : Int32) (Mz : mM) (hIz : Inv Mz) (hb : b < 3) : WP CC l G cy ad yX10_makeClick cX10_makeClick 7 (some .int) (d + 4) 0 [(0, vR (10, b, 0)), (1, vI v)] [] Mz (fun r M' => Inv M' ∧ FR (S_c_X10_makeClick b) Mz M' ∧ (True) ∧ SP_X10_makeClick b v Mz r M') := by
  have hFz : FR (S_c_X10_makeClick b) Mz Mz := FR.self
  refine w_aload_n dX10_makeClick_0 rfl 0 rfl ?_
  refine w_iload_n dX10_makeClick_1 rfl 1 rfl ?_
  refine w_callV (as := [vI v]) (rest := []) (c_X10_hasWalker l G cy ad (d + 3) b v Mz hIz hb) kV_X10_hasWalker pnn_7 (Nat.le_of_ble_eq_true rfl) m_847 rfl rfl rfl (ic_10 hb) rfl rfl (by decide) (Nat.le_of_ble_eq_true rfl) dX10_makeClick_2 (fun r1_ M2_ q3_ => ?_)
  obtain ⟨rfl, h4_, hs5_⟩ := q3_
  rcases h4_ with ⟨rfl, h4_⟩ | rfl
  · refine w_if_ne (tgt := 10) dX10_makeClick_5 (by decide) li_1 (fun h6_ => ?_) (fun h9 => (absurd h9 (by decide)))
    refine w_aload_n dX10_makeClick_10 rfl 0 rfl ?_
    refine w_getR (c' := (42, b, 0)) fl_RX10_46 rfl rfl (ic_10 hb) dX10_makeClick_11 rfl ?_
    refine w_iload_n dX10_makeClick_14 rfl 1 rfl ?_
    refine w_aald rfl rfl rfl (fun _ => rfl) (ic_42 hb) (rfl : v.toInt = v.toInt) (lf_c_X7_cellFrom_2 v h4_ ) dX10_makeClick_15 (fun j7_ h8_ h9_ => ?_)
    refine w_astore_n (ls' := [(2, vR (9, b, j7_)), (0, vR (10, b, 0)), (1, vI v)]) dX10_makeClick_16 rfl (by decide) rfl ?_
    refine w_aload_n dX10_makeClick_17 rfl 0 rfl ?_
    refine w_dup dX10_makeClick_18 rfl ?_
    refine w_getI fl_RX10_69 rfl rfl (ic_9 hb h9_) dX10_makeClick_19 (fun z10_ e11_ => ?_)
    refine w_iconst (v := 1) dX10_makeClick_22 (by decide) ?_
    refine w_iadd dX10_makeClick_23 (fun z12_ h13_ => ?_)
    refine w_putI CC_nd fl_RX10_69 rfl rfl (ic_9 hb h9_) dX10_makeClick_24 (fun M14_ hM15_ => ?_)
    have hI16_ := hIz.put hM15_ (fun h => absurd h (by decide))
    have hF17_ := hFz.put hM15_ (Or.inl ⟨rfl, rfl, rfl⟩)
    refine w_iconst (v := 0) dX10_makeClick_27 (by decide) ?_
    refine w_istore_n (ls' := [(3, vI 0), (2, vR (9, b, j7_)), (0, vR (10, b, 0)), (1, vI v)]) dX10_makeClick_28 rfl (by decide) rfl ?_
    refine w_iconst (v := 0) dX10_makeClick_29 (by decide) ?_
    refine w_istore (ls' := [(4, vI 0), (3, vI 0), (2, vR (9, b, j7_)), (0, vR (10, b, 0)), (1, vI v)]) dX10_makeClick_30 (by decide) rfl ?_
    have lp18_ : ∀ (nn_32 : Nat) (M_32 : mM) (hI_32 : Inv M_32) (hF_32 : FR (S_c_X10_makeClick b) Mz M_32) (v4_32 : Int32) (v3_32 : Int32) (hv0_32 : 0 ≤ v4_32.toInt) (hv1_32 : v4_32.toInt ≤ 8) (hL_32 : RCH (fun x_ y_ => ST_X10_makeClick_32 b v Mz j7_ x_.1 x_.2.1 x_.2.2 y_.1 y_.2.1 y_.2.2) ((0 : Int32), (0 : Int32), M14_) (v4_32, v3_32, M_32)), (2147483648 - v4_32.toInt).toNat < nn_32 → WP CC l G cy ad yX10_makeClick cX10_makeClick 7 (some .int) (d + 4) 32 [(4, vI v4_32), (3, vI v3_32), (2, vR (9, b, j7_)), (0, vR (10, b, 0)), (1, vI v)] [] M_32 (fun r M' => Inv M' ∧ FR (S_c_X10_makeClick b) Mz M' ∧ (True) ∧ SP_X10_makeClick b v Mz r M') := by
      intro nn_32
      induction nn_32 with
      | zero => intro M_32 hI_32 hF_32 v4_32 v3_32 hv0_32 hv1_32 hL_32 hm_32; exact absurd hm_32 (Nat.not_lt_zero _)
      | succ nn_32 ih_32 =>
        intro M_32 hI_32 hF_32 v4_32 v3_32 hv0_32 hv1_32 hL_32 hm_32
        refine w_iload dX10_makeClick_32 0 rfl ?_
        refine w_bipush (v := 8) dX10_makeClick_34 (by decide) ?_
        refine w_icmp_ge (tgt := 113) dX10_makeClick_36 (by decide) (rfl : v4_32.toInt = v4_32.toInt) li_8 (fun h19_ => ?_) (fun h19_ => ?_)
        · refine w_iload_n dX10_makeClick_113 rfl 1 rfl ?_
          exact w_iret rfl dX10_makeClick_114 ⟨hI_32, hF_32, trivial, (Or.inl ⟨hs5_, h4_, j7_, h8_, h9_, z10_, e11_, z12_, h13_, M14_, hM15_, v4_32, hv0_32, hv1_32, v3_32, M_32, hL_32, hI_32, hF_32, h19_, rfl, rfl⟩)⟩
        · refine w_aload_n dX10_makeClick_39 rfl 3 rfl ?_
          refine w_iload_n dX10_makeClick_40 rfl 4 rfl ?_
          refine w_aload_n dX10_makeClick_41 rfl 2 rfl ?_
          refine w_getI fl_RX10_109 rfl rfl (ic_9 hb h9_) dX10_makeClick_42 (fun z20_ e21_ => ?_)
          refine w_iload dX10_makeClick_45 0 rfl ?_
          refine w_callV (as := [vI v, vI z20_, vI v4_32]) (rest := []) (c_X10_heardYards l G cy ad d b v z20_ v4_32 M_32 hI_32 hb) kV_X10_heardYards pnn_7 (Nat.le_of_ble_eq_true rfl) m_900 rfl rfl rfl (ic_10 hb) rfl rfl (by decide) (Nat.le_of_ble_eq_true rfl) dX10_makeClick_47 (fun r22_ M23_ q24_ => ?_)
          obtain ⟨hI26_, hF27_, h25_, hs29_⟩ := q24_
          have hF28_ := hF_32.tr hF27_ (fun c k => (fun h => h.elim (fun h => (Or.inr (Or.inl ⟨h.1, h.2.1, h.2.2⟩))) (fun h => h.elim (fun h => (Or.inr (Or.inr (Or.inl ⟨h.1, h.2.1, h.2.2⟩)))) (fun h => h.elim (fun h => (Or.inr (Or.inr (Or.inr (Or.inl ⟨h.1, h.2.1, h.2.2⟩))))) (fun h => h.elim (fun h => (Or.inr (Or.inr (Or.inr (Or.inr (Or.inl ⟨h.1, h.2.1, h.2.2⟩)))))) (fun h => h.elim (fun h => (Or.inr (Or.inr (Or.inr (Or.inr (Or.inr (Or.inl ⟨h.1, h.2.1, h.2.2⟩))))))) (fun h => h.elim (fun h => (Or.inr (Or.inr (Or.inr (Or.inr (Or.inr (Or.inr (Or.inl ⟨h.1, h.2.1, h.2.2⟩)))))))) (fun h => h.elim))))))))
          refine w_istore (ls' := [(5, vI r22_), (4, vI v4_32), (3, vI v3_32), (2, vR (9, b, j7_)), (0, vR (10, b, 0)), (1, vI v)]) dX10_makeClick_50 (by decide) rfl ?_
          refine w_iload dX10_makeClick_52 0 rfl ?_
          refine w_if_le (tgt := 76) dX10_makeClick_54 (by decide) (rfl : r22_.toInt = r22_.toInt) (fun h30_ => ?_) (fun h30_ => ?_)
          · refine w_iconst (v := 1) dX10_makeClick_76 (by decide) ?_
            refine w_istore (ls' := [(6, vI 1), (5, vI r22_), (4, vI v4_32), (3, vI v3_32), (2, vR (9, b, j7_)), (0, vR (10, b, 0)), (1, vI v)]) dX10_makeClick_77 (by decide) rfl ?_
            have lp31_ : ∀ (nn_79 : Nat) (M_79 : mM) (hI_79 : Inv M_79) (hF_79 : FR (S_c_X10_makeClick b) Mz M_79) (v6_79 : Int32) (hv0_79 : 1 ≤ v6_79.toInt) (hL_79 : RCH (fun x_ y_ => ST_X10_makeClick_79 x_.1 x_.2 y_.1 y_.2) ((1 : Int32), M23_) (v6_79, M_79)), (2147483648 - v6_79.toInt).toNat < nn_79 → WP CC l G cy ad yX10_makeClick cX10_makeClick 7 (some .int) (d + 4) 79 [(6, vI v6_79), (5, vI r22_), (4, vI v4_32), (3, vI v3_32), (2, vR (9, b, j7_)), (0, vR (10, b, 0)), (1, vI v)] [] M_79 (fun r M' => Inv M' ∧ FR (S_c_X10_makeClick b) Mz M' ∧ (True) ∧ SP_X10_makeClick b v Mz r M') := by
              intro nn_79
              induction nn_79 with
              | zero => intro M_79 hI_79 hF_79 v6_79 hv0_79 hL_79 hm_79; exact absurd hm_79 (Nat.not_lt_zero _)
              | succ nn_79 ih_79 =>
                intro M_79 hI_79 hF_79 v6_79 hv0_79 hL_79 hm_79
                refine w_iload dX10_makeClick_79 0 rfl ?_
                refine w_iload dX10_makeClick_81 1 rfl ?_
                refine w_icmp_ge (tgt := 107) dX10_makeClick_83 (by decide) (rfl : v6_79.toInt = v6_79.toInt) (rfl : r22_.toInt = r22_.toInt) (fun h32_ => ?_) (fun h9 => (lf_c_X10_makeClick_1 r22_ v6_79 h30_ hv0_79 h9 ).elim)
                refine w_iincB (j := 2) (f := fun z33_ => [(4, vI z33_), (6, vI v6_79), (5, vI r22_), (3, vI v3_32), (2, vR (9, b, j7_)), (0, vR (10, b, 0)), (1, vI v)]) dX10_makeClick_107 rfl (by decide) (fun _ => rfl) (rfl : v4_32.toInt = v4_32.toInt) li_1 (lf_c_X9_isOf_0 v4_32 hv0_32 h19_ ) (fun z33_ h34_ => ?_)
                refine w_goto (tgt := 32) dX10_makeClick_110 (by decide) ?_
                refine w_loc (ls' := [(4, vI z33_), (3, vI v3_32), (2, vR (9, b, j7_)), (0, vR (10, b, 0)), (1, vI v)]) [0, 3, 4, 5, 6] rfl ?_
                exact ih_32 M_79 hI_79 hF_79 z33_ v3_32 (lf_c_X5_takeFrom_3 v4_32 z33_ hv0_32 h34_ ) (lf_c_X9_isOf_2 v4_32 z33_ h19_ h34_ ) (RCH.tail hL_32 ⟨hv0_32, hv1_32, hI_32, hF_32, h19_, z20_, e21_, M23_, hI26_, hF27_, r22_, hs29_, h25_, (Or.inl ⟨h30_, v6_79, hv0_79, M_79, hL_79, hI_79, hF_79, h32_, z33_, h34_, rfl, rfl, rfl⟩)⟩) (Nat.lt_of_lt_of_le (lf_c_X9_isOf_3 v4_32 z33_ h19_ h34_ ) (Nat.le_of_lt_succ hm_32))
            exact lp31_ _ M23_ hI26_ hF28_ 1 (lf_c_X9_yardsToFull_4 ) RCH.refl (Nat.lt_succ_self _)
          · refine w_iincX (j := 2) (f := fun z35_ => [(3, vI z35_), (5, vI r22_), (4, vI v4_32), (2, vR (9, b, j7_)), (0, vR (10, b, 0)), (1, vI v)]) dX10_makeClick_57 rfl (by decide) (fun _ => rfl) (fun z35_ h36_ => ?_)
            refine w_aload_n dX10_makeClick_60 rfl 3 rfl ?_
            refine w_aload_n dX10_makeClick_61 rfl 3 rfl ?_
            refine w_getI fl_RX10_109 rfl rfl (ic_9 hb h9_) dX10_makeClick_62 (fun z37_ e38_ => ?_)
            refine w_iload dX10_makeClick_65 2 rfl ?_
            refine w_iload dX10_makeClick_67 1 rfl ?_
            refine w_callS (as := [vI z37_, vI v4_32, vI r22_]) (rest := [vR (9, b, j7_)]) (c_X7_cellFrom l G cy ad (d + 2) z37_ v4_32 r22_ M23_ hI26_) kS_X7_cellFrom pnn_1 (Nat.le_of_ble_eq_true rfl) m_849 rfl rfl (by decide) (Nat.le_of_ble_eq_true rfl) dX10_makeClick_69 (fun r39_ M40_ q41_ => ?_)
            obtain ⟨rfl, h42_, hs43_⟩ := q41_
            refine w_iconst (v := 1) dX10_makeClick_72 (by decide) ?_
            refine w_callVv (as := [vI r39_, vI 1]) (rest := []) (c_X9_addYes l G cy ad (d + 2) b j7_ r39_ 1 M23_ hI26_ hb h9_) kV_X9_addYes pnn_3 (Nat.le_of_ble_eq_true rfl) m_915 rfl rfl rfl (ic_9 hb h9_) rfl rfl (by decide) (Nat.le_of_ble_eq_true rfl) dX10_makeClick_73 (fun M44_ q45_ => ?_)
            obtain ⟨hI47_, hF48_, h46_, hs50_⟩ := q45_
            have hF49_ := hF28_.tr hF48_ (fun c k => (fun h => h.elim (fun h => (Or.inr (Or.inr (Or.inr (Or.inr (Or.inr (Or.inr (Or.inr (Or.inl ⟨h.1, h.2.1⟩))))))))) (fun h => h.elim)))
            refine w_iconst (v := 1) dX10_makeClick_76 (by decide) ?_
            refine w_istore (ls' := [(6, vI 1), (3, vI z35_), (5, vI r22_), (4, vI v4_32), (2, vR (9, b, j7_)), (0, vR (10, b, 0)), (1, vI v)]) dX10_makeClick_77 (by decide) rfl ?_
            have lp51_ : ∀ (nn_79 : Nat) (M_79 : mM) (hI_79 : Inv M_79) (hF_79 : FR (S_c_X10_makeClick b) Mz M_79) (v6_79 : Int32) (hv0_79 : 1 ≤ v6_79.toInt) (hL_79 : RCH (fun x_ y_ => ST_X10_makeClick_79b b Mz j7_ v4_32 r22_ x_.1 x_.2 y_.1 y_.2) ((1 : Int32), M44_) (v6_79, M_79)), (2147483648 - v6_79.toInt).toNat < nn_79 → WP CC l G cy ad yX10_makeClick cX10_makeClick 7 (some .int) (d + 4) 79 [(6, vI v6_79), (3, vI z35_), (5, vI r22_), (4, vI v4_32), (2, vR (9, b, j7_)), (0, vR (10, b, 0)), (1, vI v)] [] M_79 (fun r M' => Inv M' ∧ FR (S_c_X10_makeClick b) Mz M' ∧ (True) ∧ SP_X10_makeClick b v Mz r M') := by
              intro nn_79
              induction nn_79 with
              | zero => intro M_79 hI_79 hF_79 v6_79 hv0_79 hL_79 hm_79; exact absurd hm_79 (Nat.not_lt_zero _)
              | succ nn_79 ih_79 =>
                intro M_79 hI_79 hF_79 v6_79 hv0_79 hL_79 hm_79
                refine w_iload dX10_makeClick_79 0 rfl ?_
                refine w_iload dX10_makeClick_81 2 rfl ?_
                refine w_icmp_ge (tgt := 107) dX10_makeClick_83 (by decide) (rfl : v6_79.toInt = v6_79.toInt) (rfl : r22_.toInt = r22_.toInt) (fun h52_ => ?_) (fun h52_ => ?_)
                · refine w_iincB (j := 3) (f := fun z53_ => [(4, vI z53_), (6, vI v6_79), (3, vI z35_), (5, vI r22_), (2, vR (9, b, j7_)), (0, vR (10, b, 0)), (1, vI v)]) dX10_makeClick_107 rfl (by decide) (fun _ => rfl) (rfl : v4_32.toInt = v4_32.toInt) li_1 (lf_c_X9_isOf_0 v4_32 hv0_32 h19_ ) (fun z53_ h54_ => ?_)
                  refine w_goto (tgt := 32) dX10_makeClick_110 (by decide) ?_
                  refine w_loc (ls' := [(4, vI z53_), (3, vI z35_), (2, vR (9, b, j7_)), (0, vR (10, b, 0)), (1, vI v)]) [0, 2, 4, 5, 6] rfl ?_
                  exact ih_32 M_79 hI_79 hF_79 z53_ z35_ (lf_c_X5_takeFrom_3 v4_32 z53_ hv0_32 h54_ ) (lf_c_X9_isOf_2 v4_32 z53_ h19_ h54_ ) (RCH.tail hL_32 ⟨hv0_32, hv1_32, hI_32, hF_32, h19_, z20_, e21_, M23_, hI26_, hF27_, r22_, hs29_, h25_, (Or.inr ⟨h30_, z35_, h36_, z37_, e38_, r39_, hs43_, h42_, M44_, hI47_, hF48_, hs50_, v6_79, hv0_79, M_79, hL_79, hI_79, hF_79, h52_, z53_, h54_, rfl, rfl, rfl⟩)⟩) (Nat.lt_of_lt_of_le (lf_c_X9_isOf_3 v4_32 z53_ h19_ h54_ ) (Nat.le_of_lt_succ hm_32))
                · refine w_aload_n dX10_makeClick_86 rfl 4 rfl ?_
                  refine w_aload_n dX10_makeClick_87 rfl 4 rfl ?_
                  refine w_getI fl_RX10_109 rfl rfl (ic_9 hb h9_) dX10_makeClick_88 (fun z55_ e56_ => ?_)
                  refine w_iload dX10_makeClick_91 3 rfl ?_
                  refine w_iload dX10_makeClick_93 0 rfl ?_
                  refine w_callS (as := [vI z55_, vI v4_32, vI v6_79]) (rest := [vR (9, b, j7_)]) (c_X7_cellFrom l G cy ad (d + 2) z55_ v4_32 v6_79 M_79 hI_79) kS_X7_cellFrom pnn_1 (Nat.le_of_ble_eq_true rfl) m_849 rfl rfl (by decide) (Nat.le_of_ble_eq_true rfl) dX10_makeClick_95 (fun r57_ M58_ q59_ => ?_)
                  obtain ⟨rfl, h60_, hs61_⟩ := q59_
                  refine w_callVv (as := [vI r57_]) (rest := []) (c_X9_addNo l G cy ad (d + 2) b j7_ r57_ M_79 hI_79 hb h9_) kV_X9_addNo pnn_3 (Nat.le_of_ble_eq_true rfl) m_921 rfl rfl rfl (ic_9 hb h9_) rfl rfl (by decide) (Nat.le_of_ble_eq_true rfl) dX10_makeClick_98 (fun M62_ q63_ => ?_)
                  obtain ⟨hI65_, hF66_, h64_, hs68_⟩ := q63_
                  have hF67_ := hF_79.tr hF66_ (fun c k => (fun h => h.elim (fun h => (Or.inr (Or.inr (Or.inr (Or.inr (Or.inr (Or.inr (Or.inr (Or.inr (Or.inl ⟨h.1, h.2.1⟩)))))))))) (fun h => h.elim)))
                  refine w_iincB (j := 0) (f := fun z69_ => [(6, vI z69_), (3, vI z35_), (5, vI r22_), (4, vI v4_32), (2, vR (9, b, j7_)), (0, vR (10, b, 0)), (1, vI v)]) dX10_makeClick_101 rfl (by decide) (fun _ => rfl) (rfl : v6_79.toInt = v6_79.toInt) li_1 (lf_c_X10_makeClick_11 r22_ v6_79 h25_ hv0_79 h52_ ) (fun z69_ h70_ => ?_)
                  refine w_goto (tgt := 79) dX10_makeClick_104 (by decide) ?_
                  refine w_loc (ls' := [(6, vI z69_), (3, vI z35_), (5, vI r22_), (4, vI v4_32), (2, vR (9, b, j7_)), (0, vR (10, b, 0)), (1, vI v)]) [0, 1, 2, 3, 4, 5, 6] rfl ?_
                  exact ih_79 M62_ hI65_ hF67_ z69_ (lf_c_X9_yardsToFull_1 v6_79 z69_ hv0_79 h70_ ) (RCH.tail hL_79 ⟨hv0_79, hI_79, hF_79, h52_, z55_, e56_, r57_, hs61_, h60_, M62_, hI65_, hF66_, hs68_, z69_, h70_, rfl, rfl⟩) (Nat.lt_of_lt_of_le (lf_c_X10_makeClick_13 r22_ v6_79 z69_ h25_ h52_ h70_ ) (Nat.le_of_lt_succ hm_79))
            exact lp51_ _ M44_ hI47_ hF49_ 1 (lf_c_X9_yardsToFull_4 ) RCH.refl (Nat.lt_succ_self _)
    exact lp18_ _ M14_ hI16_ hF17_ 0 0 (lf_c_X5_takeFrom_5 ) (lf_c_X9_isOf_5 ) RCH.refl (Nat.lt_succ_self _)
  · refine w_if_ne (tgt := 10) dX10_makeClick_5 (by decide) li_0 (fun h9 => (absurd h9 (by decide))) (fun h71_ => ?_)
    refine w_iconst (v := 0) dX10_makeClick_8 (by decide) ?_
    exact w_iret rfl dX10_makeClick_9 ⟨hIz, hFz, trivial, (Or.inr ⟨hs5_, rfl, rfl⟩)⟩
def ST_X10_countWrong_14 (b : Nat) (v : Int32) (Mz : mM) (v3_14 : Int32) (v2_14 : Int32) (v3_14y : Int32) (v2_14y : Int32) : Prop := (0 ≤ v3_14.toInt) ∧ (v3_14.toInt ≤ 192) ∧ (v3_14.toInt < 192) ∧ ∃ j9_ : Nat, ((j9_ : Int) = v.toInt) ∧ (j9_ < 8) ∧ ∃ r12_ : Int32, (SP_X9_held b j9_ v3_14 Mz r12_) ∧ ∃ r17_ : Int32, (SP_X10_isFreeBut b v v3_14 Mz r17_) ∧ ((0 ≤ r17_.toInt ∧ r17_.toInt ≤ 1)) ∧ (((r17_.toInt = 0) ∧ (((r12_.toInt = 0) ∧ ∃ z24_ : Int32, (z24_.toInt = v3_14.toInt + 1) ∧ v3_14y = z24_ ∧ v2_14y = v2_14) ∨ ((¬ r12_.toInt = 0) ∧ (((r12_.toInt = 2) ∧ ∃ z27_ : Int32, (z27_.toInt = v3_14.toInt + 1) ∧ v3_14y = z27_ ∧ v2_14y = v2_14) ∨ ((¬ r12_.toInt = 2) ∧ ∃ z29_ : Int32, (z29_ = v2_14 + Int32.ofInt 1) ∧ ∃ z31_ : Int32, (z31_.toInt = v3_14.toInt + 1) ∧ v3_14y = z31_ ∧ v2_14y = z29_))))) ∨ ((¬ r17_.toInt = 0) ∧ (((r12_.toInt = 0) ∧ ∃ z34_ : Int32, (z34_.toInt = v3_14.toInt + 1) ∧ v3_14y = z34_ ∧ v2_14y = v2_14) ∨ ((¬ r12_.toInt = 0) ∧ (((r12_.toInt = 1) ∧ ∃ z37_ : Int32, (z37_.toInt = v3_14.toInt + 1) ∧ v3_14y = z37_ ∧ v2_14y = v2_14) ∨ ((¬ r12_.toInt = 1) ∧ ∃ z39_ : Int32, (z39_ = v2_14 + Int32.ofInt 1) ∧ ∃ z41_ : Int32, (z41_.toInt = v3_14.toInt + 1) ∧ v3_14y = z41_ ∧ v2_14y = z39_))))))
def SP_X10_countWrong (b : Nat) (v : Int32) (Mz : mM) (r_ : Int32) : Prop := (((SP_X10_hasWalker b v Mz (1 : Int32)) ∧ (0 ≤ v.toInt ∧ v.toInt ≤ 7) ∧ ∃ v3_14 : Int32, (0 ≤ v3_14.toInt) ∧ (v3_14.toInt ≤ 192) ∧ ∃ v2_14 : Int32, (RCH (fun x_ y_ => ST_X10_countWrong_14 b v Mz x_.1 x_.2 y_.1 y_.2) ((0 : Int32), (0 : Int32)) (v3_14, v2_14)) ∧ (192 ≤ v3_14.toInt) ∧ r_ = v2_14) ∨ ((SP_X10_hasWalker b v Mz (0 : Int32)) ∧ r_ = 0))
set_option maxHeartbeats 4000000 in
set_option maxRecDepth 100000 in
theorem c_X10_countWrong (l : Launch) (G : va_G) (cy : Nat → ClassId) (ad : rf → Nat) (d : Nat) (b : Nat) (v : Int32) (Mz : mM) (hIz : Inv Mz) (hb : b < 3) : WP CC l G cy ad yX10_countWrong cX10_countWrong 6 (some .int) (d + 2) 0 [(0, vR (10, b, 0)), (1, vI v)] [] Mz (fun r M' => Mz = M' ∧ (True) ∧ SP_X10_countWrong b v Mz r) := by
  refine w_aload_n dX10_countWrong_0 rfl 0 rfl ?_
  refine w_iload_n dX10_countWrong_1 rfl 1 rfl ?_
  refine w_callV (as := [vI v]) (rest := []) (c_X10_hasWalker l G cy ad (d + 1) b v Mz hIz hb) kV_X10_hasWalker pnn_7 (Nat.le_of_ble_eq_true rfl) m_847 rfl rfl rfl (ic_10 hb) rfl rfl (by decide) (Nat.le_of_ble_eq_true rfl) dX10_countWrong_2 (fun r1_ M2_ q3_ => ?_)
  obtain ⟨rfl, h4_, hs5_⟩ := q3_
  rcases h4_ with ⟨rfl, h4_⟩ | rfl
  · refine w_if_ne (tgt := 10) dX10_countWrong_5 (by decide) li_1 (fun h6_ => ?_) (fun h9 => (absurd h9 (by decide)))
    refine w_iconst (v := 0) dX10_countWrong_10 (by decide) ?_
    refine w_istore_n (ls' := [(2, vI 0), (0, vR (10, b, 0)), (1, vI v)]) dX10_countWrong_11 rfl (by decide) rfl ?_
    refine w_iconst (v := 0) dX10_countWrong_12 (by decide) ?_
    refine w_istore_n (ls' := [(3, vI 0), (2, vI 0), (0, vR (10, b, 0)), (1, vI v)]) dX10_countWrong_13 rfl (by decide) rfl ?_
    have lp7_ : ∀ (nn_14 : Nat) (v3_14 : Int32) (v2_14 : Int32) (hv0_14 : 0 ≤ v3_14.toInt) (hv1_14 : v3_14.toInt ≤ 192) (hL_14 : RCH (fun x_ y_ => ST_X10_countWrong_14 b v Mz x_.1 x_.2 y_.1 y_.2) ((0 : Int32), (0 : Int32)) (v3_14, v2_14)), (2147483648 - v3_14.toInt).toNat < nn_14 → WP CC l G cy ad yX10_countWrong cX10_countWrong 6 (some .int) (d + 2) 14 [(3, vI v3_14), (2, vI v2_14), (0, vR (10, b, 0)), (1, vI v)] [] Mz (fun r M' => Mz = M' ∧ (True) ∧ SP_X10_countWrong b v Mz r) := by
      intro nn_14
      induction nn_14 with
      | zero => intro v3_14 v2_14 hv0_14 hv1_14 hL_14 hm_14; exact absurd hm_14 (Nat.not_lt_zero _)
      | succ nn_14 ih_14 =>
        intro v3_14 v2_14 hv0_14 hv1_14 hL_14 hm_14
        refine w_iload_n dX10_countWrong_14 rfl 0 rfl ?_
        refine w_sipush (v := 192) dX10_countWrong_15 (by decide) ?_
        refine w_icmp_ge (tgt := 70) dX10_countWrong_18 (by decide) (rfl : v3_14.toInt = v3_14.toInt) li_192 (fun h8_ => ?_) (fun h8_ => ?_)
        · refine w_iload_n dX10_countWrong_70 rfl 1 rfl ?_
          exact w_iret rfl dX10_countWrong_71 ⟨rfl, trivial, (Or.inl ⟨hs5_, h4_, v3_14, hv0_14, hv1_14, v2_14, hL_14, h8_, rfl⟩)⟩
        · refine w_aload_n dX10_countWrong_21 rfl 2 rfl ?_
          refine w_getR (c' := (42, b, 0)) fl_RX10_46 rfl rfl (ic_10 hb) dX10_countWrong_22 rfl ?_
          refine w_iload_n dX10_countWrong_25 rfl 3 rfl ?_
          refine w_aald rfl rfl rfl (fun _ => rfl) (ic_42 hb) (rfl : v.toInt = v.toInt) (lf_c_X7_cellFrom_2 v h4_ ) dX10_countWrong_26 (fun j9_ h10_ h11_ => ?_)
          refine w_iload_n dX10_countWrong_27 rfl 0 rfl ?_
          refine w_callV (as := [vI v3_14]) (rest := []) (c_X9_held l G cy ad d b j9_ v3_14 Mz hIz hb h11_) kV_X9_held pnn_3 (Nat.le_of_ble_eq_true rfl) m_941 rfl rfl rfl (ic_9 hb h11_) rfl rfl (by decide) (Nat.le_of_ble_eq_true rfl) dX10_countWrong_28 (fun r12_ M13_ q14_ => ?_)
          obtain ⟨rfl, h15_, hs16_⟩ := q14_
          refine w_istore (ls' := [(4, vI r12_), (3, vI v3_14), (2, vI v2_14), (0, vR (10, b, 0)), (1, vI v)]) dX10_countWrong_31 (by decide) rfl ?_
          refine w_aload_n dX10_countWrong_33 rfl 3 rfl ?_
          refine w_iload_n dX10_countWrong_34 rfl 4 rfl ?_
          refine w_iload_n dX10_countWrong_35 rfl 1 rfl ?_
          refine w_callV (as := [vI v, vI v3_14]) (rest := []) (c_X10_isFreeBut l G cy ad (d + 1) b v v3_14 Mz hIz hb) kV_X10_isFreeBut pnn_7 (Nat.le_of_ble_eq_true rfl) m_857 rfl rfl rfl (ic_10 hb) rfl rfl (by decide) (Nat.le_of_ble_eq_true rfl) dX10_countWrong_36 (fun r17_ M18_ q19_ => ?_)
          obtain ⟨rfl, h20_, hs21_⟩ := q19_
          refine w_if_eq (tgt := 46) dX10_countWrong_39 (by decide) (rfl : r17_.toInt = r17_.toInt) (fun h22_ => ?_) (fun h22_ => ?_)
          · refine w_iconst (v := 2) dX10_countWrong_46 (by decide) ?_
            refine w_istore (ls' := [(5, vI 2), (4, vI r12_), (3, vI v3_14), (2, vI v2_14), (0, vR (10, b, 0)), (1, vI v)]) dX10_countWrong_47 (by decide) rfl ?_
            refine w_iload dX10_countWrong_49 1 rfl ?_
            refine w_if_eq (tgt := 64) dX10_countWrong_51 (by decide) (rfl : r12_.toInt = r12_.toInt) (fun h23_ => ?_) (fun h23_ => ?_)
            · refine w_iincB (j := 2) (f := fun z24_ => [(3, vI z24_), (5, vI 2), (4, vI r12_), (2, vI v2_14), (0, vR (10, b, 0)), (1, vI v)]) dX10_countWrong_64 rfl (by decide) (fun _ => rfl) (rfl : v3_14.toInt = v3_14.toInt) li_1 (lf_c_X9_begin_2 v3_14 hv0_14 h8_ ) (fun z24_ h25_ => ?_)
              refine w_goto (tgt := 14) dX10_countWrong_67 (by decide) ?_
              refine w_loc (ls' := [(3, vI z24_), (2, vI v2_14), (0, vR (10, b, 0)), (1, vI v)]) [0, 3, 4, 5] rfl ?_
              exact ih_14 z24_ v2_14 (lf_c_X5_takeFrom_3 v3_14 z24_ hv0_14 h25_ ) (lf_c_X9_begin_4 v3_14 z24_ h8_ h25_ ) (RCH.tail hL_14 ⟨hv0_14, hv1_14, h8_, j9_, h10_, h11_, r12_, hs16_, r17_, hs21_, h20_, (Or.inl ⟨h22_, (Or.inl ⟨h23_, z24_, h25_, rfl, rfl⟩)⟩)⟩) (Nat.lt_of_lt_of_le (lf_c_X9_begin_5 v3_14 z24_ h8_ h25_ ) (Nat.le_of_lt_succ hm_14))
            · refine w_iload dX10_countWrong_54 1 rfl ?_
              refine w_iload dX10_countWrong_56 0 rfl ?_
              refine w_icmp_eq (tgt := 64) dX10_countWrong_58 (by decide) (rfl : r12_.toInt = r12_.toInt) li_2 (fun h26_ => ?_) (fun h26_ => ?_)
              · refine w_iincB (j := 2) (f := fun z27_ => [(3, vI z27_), (5, vI 2), (4, vI r12_), (2, vI v2_14), (0, vR (10, b, 0)), (1, vI v)]) dX10_countWrong_64 rfl (by decide) (fun _ => rfl) (rfl : v3_14.toInt = v3_14.toInt) li_1 (lf_c_X9_begin_2 v3_14 hv0_14 h8_ ) (fun z27_ h28_ => ?_)
                refine w_goto (tgt := 14) dX10_countWrong_67 (by decide) ?_
                refine w_loc (ls' := [(3, vI z27_), (2, vI v2_14), (0, vR (10, b, 0)), (1, vI v)]) [0, 3, 4, 5] rfl ?_
                exact ih_14 z27_ v2_14 (lf_c_X5_takeFrom_3 v3_14 z27_ hv0_14 h28_ ) (lf_c_X9_begin_4 v3_14 z27_ h8_ h28_ ) (RCH.tail hL_14 ⟨hv0_14, hv1_14, h8_, j9_, h10_, h11_, r12_, hs16_, r17_, hs21_, h20_, (Or.inl ⟨h22_, (Or.inr ⟨h23_, (Or.inl ⟨h26_, z27_, h28_, rfl, rfl⟩)⟩)⟩)⟩) (Nat.lt_of_lt_of_le (lf_c_X9_begin_5 v3_14 z27_ h8_ h28_ ) (Nat.le_of_lt_succ hm_14))
              · refine w_iincX (j := 3) (f := fun z29_ => [(2, vI z29_), (5, vI 2), (4, vI r12_), (3, vI v3_14), (0, vR (10, b, 0)), (1, vI v)]) dX10_countWrong_61 rfl (by decide) (fun _ => rfl) (fun z29_ h30_ => ?_)
                refine w_iincB (j := 3) (f := fun z31_ => [(3, vI z31_), (2, vI z29_), (5, vI 2), (4, vI r12_), (0, vR (10, b, 0)), (1, vI v)]) dX10_countWrong_64 rfl (by decide) (fun _ => rfl) (rfl : v3_14.toInt = v3_14.toInt) li_1 (lf_c_X9_begin_2 v3_14 hv0_14 h8_ ) (fun z31_ h32_ => ?_)
                refine w_goto (tgt := 14) dX10_countWrong_67 (by decide) ?_
                refine w_loc (ls' := [(3, vI z31_), (2, vI z29_), (0, vR (10, b, 0)), (1, vI v)]) [0, 1, 4, 5] rfl ?_
                exact ih_14 z31_ z29_ (lf_c_X5_takeFrom_3 v3_14 z31_ hv0_14 h32_ ) (lf_c_X9_begin_4 v3_14 z31_ h8_ h32_ ) (RCH.tail hL_14 ⟨hv0_14, hv1_14, h8_, j9_, h10_, h11_, r12_, hs16_, r17_, hs21_, h20_, (Or.inl ⟨h22_, (Or.inr ⟨h23_, (Or.inr ⟨h26_, z29_, h30_, z31_, h32_, rfl, rfl⟩)⟩)⟩)⟩) (Nat.lt_of_lt_of_le (lf_c_X9_begin_5 v3_14 z31_ h8_ h32_ ) (Nat.le_of_lt_succ hm_14))
          · refine w_iconst (v := 1) dX10_countWrong_42 (by decide) ?_
            refine w_goto (tgt := 47) dX10_countWrong_43 (by decide) ?_
            refine w_istore (ls' := [(5, vI 1), (4, vI r12_), (3, vI v3_14), (2, vI v2_14), (0, vR (10, b, 0)), (1, vI v)]) dX10_countWrong_47 (by decide) rfl ?_
            refine w_iload dX10_countWrong_49 1 rfl ?_
            refine w_if_eq (tgt := 64) dX10_countWrong_51 (by decide) (rfl : r12_.toInt = r12_.toInt) (fun h33_ => ?_) (fun h33_ => ?_)
            · refine w_iincB (j := 2) (f := fun z34_ => [(3, vI z34_), (5, vI 1), (4, vI r12_), (2, vI v2_14), (0, vR (10, b, 0)), (1, vI v)]) dX10_countWrong_64 rfl (by decide) (fun _ => rfl) (rfl : v3_14.toInt = v3_14.toInt) li_1 (lf_c_X9_begin_2 v3_14 hv0_14 h8_ ) (fun z34_ h35_ => ?_)
              refine w_goto (tgt := 14) dX10_countWrong_67 (by decide) ?_
              refine w_loc (ls' := [(3, vI z34_), (2, vI v2_14), (0, vR (10, b, 0)), (1, vI v)]) [0, 3, 4, 5] rfl ?_
              exact ih_14 z34_ v2_14 (lf_c_X5_takeFrom_3 v3_14 z34_ hv0_14 h35_ ) (lf_c_X9_begin_4 v3_14 z34_ h8_ h35_ ) (RCH.tail hL_14 ⟨hv0_14, hv1_14, h8_, j9_, h10_, h11_, r12_, hs16_, r17_, hs21_, h20_, (Or.inr ⟨h22_, (Or.inl ⟨h33_, z34_, h35_, rfl, rfl⟩)⟩)⟩) (Nat.lt_of_lt_of_le (lf_c_X9_begin_5 v3_14 z34_ h8_ h35_ ) (Nat.le_of_lt_succ hm_14))
            · refine w_iload dX10_countWrong_54 1 rfl ?_
              refine w_iload dX10_countWrong_56 0 rfl ?_
              refine w_icmp_eq (tgt := 64) dX10_countWrong_58 (by decide) (rfl : r12_.toInt = r12_.toInt) li_1 (fun h36_ => ?_) (fun h36_ => ?_)
              · refine w_iincB (j := 2) (f := fun z37_ => [(3, vI z37_), (5, vI 1), (4, vI r12_), (2, vI v2_14), (0, vR (10, b, 0)), (1, vI v)]) dX10_countWrong_64 rfl (by decide) (fun _ => rfl) (rfl : v3_14.toInt = v3_14.toInt) li_1 (lf_c_X9_begin_2 v3_14 hv0_14 h8_ ) (fun z37_ h38_ => ?_)
                refine w_goto (tgt := 14) dX10_countWrong_67 (by decide) ?_
                refine w_loc (ls' := [(3, vI z37_), (2, vI v2_14), (0, vR (10, b, 0)), (1, vI v)]) [0, 3, 4, 5] rfl ?_
                exact ih_14 z37_ v2_14 (lf_c_X5_takeFrom_3 v3_14 z37_ hv0_14 h38_ ) (lf_c_X9_begin_4 v3_14 z37_ h8_ h38_ ) (RCH.tail hL_14 ⟨hv0_14, hv1_14, h8_, j9_, h10_, h11_, r12_, hs16_, r17_, hs21_, h20_, (Or.inr ⟨h22_, (Or.inr ⟨h33_, (Or.inl ⟨h36_, z37_, h38_, rfl, rfl⟩)⟩)⟩)⟩) (Nat.lt_of_lt_of_le (lf_c_X9_begin_5 v3_14 z37_ h8_ h38_ ) (Nat.le_of_lt_succ hm_14))
              · refine w_iincX (j := 3) (f := fun z39_ => [(2, vI z39_), (5, vI 1), (4, vI r12_), (3, vI v3_14), (0, vR (10, b, 0)), (1, vI v)]) dX10_countWrong_61 rfl (by decide) (fun _ => rfl) (fun z39_ h40_ => ?_)
                refine w_iincB (j := 3) (f := fun z41_ => [(3, vI z41_), (2, vI z39_), (5, vI 1), (4, vI r12_), (0, vR (10, b, 0)), (1, vI v)]) dX10_countWrong_64 rfl (by decide) (fun _ => rfl) (rfl : v3_14.toInt = v3_14.toInt) li_1 (lf_c_X9_begin_2 v3_14 hv0_14 h8_ ) (fun z41_ h42_ => ?_)
                refine w_goto (tgt := 14) dX10_countWrong_67 (by decide) ?_
                refine w_loc (ls' := [(3, vI z41_), (2, vI z39_), (0, vR (10, b, 0)), (1, vI v)]) [0, 1, 4, 5] rfl ?_
                exact ih_14 z41_ z39_ (lf_c_X5_takeFrom_3 v3_14 z41_ hv0_14 h42_ ) (lf_c_X9_begin_4 v3_14 z41_ h8_ h42_ ) (RCH.tail hL_14 ⟨hv0_14, hv1_14, h8_, j9_, h10_, h11_, r12_, hs16_, r17_, hs21_, h20_, (Or.inr ⟨h22_, (Or.inr ⟨h33_, (Or.inr ⟨h36_, z39_, h40_, z41_, h42_, rfl, rfl⟩)⟩)⟩)⟩) (Nat.lt_of_lt_of_le (lf_c_X9_begin_5 v3_14 z41_ h8_ h42_ ) (Nat.le_of_lt_succ hm_14))
    exact lp7_ _ 0 0 (lf_c_X5_takeFrom_5 ) (lf_c_X9_begin_7 ) RCH.refl (Nat.lt_succ_self _)
  · refine w_if_ne (tgt := 10) dX10_countWrong_5 (by decide) li_0 (fun h9 => (absurd h9 (by decide))) (fun h43_ => ?_)
    refine w_iconst (v := 0) dX10_countWrong_8 (by decide) ?_
    exact w_iret rfl dX10_countWrong_9 ⟨rfl, trivial, (Or.inr ⟨hs5_, rfl⟩)⟩
def S_c_X10_sureYards (b : Nat) : rf → Nat → Prop := fun c k => (c.1 = 29 ∧ c.2.1 = b ∧ k = 0) ∨ (c.1 = 29 ∧ c.2.1 = b ∧ k = 1) ∨ (c.1 = 29 ∧ c.2.1 = b ∧ k = 2) ∨ (c.1 = 29 ∧ c.2.1 = b ∧ k = 3) ∨ (c.1 = 25 ∧ c.2.1 = b ∧ c.2.2 = 0) ∨ (c.1 = 25 ∧ c.2.1 = b ∧ c.2.2 = 1) ∨ False
def SP_X10_sureYards (b : Nat) (v : Int32) (Mz : mM) (r_ : Int32) (M_ : mM) : Prop := (((SP_X10_hasWalker b v Mz (1 : Int32)) ∧ (0 ≤ v.toInt ∧ v.toInt ≤ 7) ∧ ∃ j7_ : Nat, ((j7_ : Int) = v.toInt) ∧ (j7_ < 8) ∧ ∃ z10_ : Int32, (z10_ = Mz.1 (9, b, j7_) 1) ∧ ∃ z12_ : Int32, (z12_ = Mz.1 (9, b, j7_) 2) ∧ ∃ M15_ : mM, (Inv M15_) ∧ (FR (S_c_X10_heardYards b) Mz M15_) ∧ ∃ r14_ : Int32, (SP_X10_heardYards b v z10_ z12_ Mz r14_ M15_) ∧ (0 ≤ r14_.toInt ∧ r14_.toInt ≤ 12) ∧ (((r14_.toInt ≤ 0) ∧ ∃ r23_ : Int32, (SP_X9_yardsHeldFree b j7_ M15_ r23_) ∧ r_ = r23_ ∧ M_ = M15_) ∨ ((0 < r14_.toInt) ∧ ∃ z28_ : Int32, (z28_.toInt = r14_.toInt - 1) ∧ r_ = z28_ ∧ M_ = M15_))) ∨ ((SP_X10_hasWalker b v Mz (0 : Int32)) ∧ r_ = 0 ∧ M_ = Mz))
theorem lf_c_X10_sureYards_1 (r14_ : Int32) (h17_ : 0 ≤ r14_.toInt ∧ r14_.toInt ≤ 12) (h22_ : 0 < r14_.toInt) : -2147483648 ≤ r14_.toInt - 1 ∧ r14_.toInt - 1 < 2147483648 := by omega
set_option maxHeartbeats 4000000 in
set_option maxRecDepth 100000 in
theorem c_X10_sureYards (l : Launch) (G : va_G) (cy : Nat → ClassId) (ad : rf → Nat) (d : Nat) (b : Nat) (v : Int32) (Mz : mM) (hIz : Inv Mz) (hb : b < 3) : WP CC l G cy ad yX10_sureYards cX10_sureYards 4 (some .int) (d + 4) 0 [(0, vR (10, b, 0)), (1, vI v)] [] Mz (fun r M' => Inv M' ∧ FR (S_c_X10_sureYards b) Mz M' ∧ (True) ∧ SP_X10_sureYards b v Mz r M') := by
  have hFz : FR (S_c_X10_sureYards b) Mz Mz := FR.self
  refine w_aload_n dX10_sureYards_0 rfl 0 rfl ?_
  refine w_iload_n dX10_sureYards_1 rfl 1 rfl ?_
  refine w_callV (as := [vI v]) (rest := []) (c_X10_hasWalker l G cy ad (d + 3) b v Mz hIz hb) kV_X10_hasWalker pnn_7 (Nat.le_of_ble_eq_true rfl) m_847 rfl rfl rfl (ic_10 hb) rfl rfl (by decide) (Nat.le_of_ble_eq_true rfl) dX10_sureYards_2 (fun r1_ M2_ q3_ => ?_)
  obtain ⟨rfl, h4_, hs5_⟩ := q3_
  rcases h4_ with ⟨rfl, h4_⟩ | rfl
  · refine w_if_ne (tgt := 10) dX10_sureYards_5 (by decide) li_1 (fun h6_ => ?_) (fun h9 => (absurd h9 (by decide)))
    refine w_aload_n dX10_sureYards_10 rfl 0 rfl ?_
    refine w_getR (c' := (42, b, 0)) fl_RX10_46 rfl rfl (ic_10 hb) dX10_sureYards_11 rfl ?_
    refine w_iload_n dX10_sureYards_14 rfl 1 rfl ?_
    refine w_aald rfl rfl rfl (fun _ => rfl) (ic_42 hb) (rfl : v.toInt = v.toInt) (lf_c_X7_cellFrom_2 v h4_ ) dX10_sureYards_15 (fun j7_ h8_ h9_ => ?_)
    refine w_astore_n (ls' := [(2, vR (9, b, j7_)), (0, vR (10, b, 0)), (1, vI v)]) dX10_sureYards_16 rfl (by decide) rfl ?_
    refine w_aload_n dX10_sureYards_17 rfl 1 rfl ?_
    refine w_iload_n dX10_sureYards_18 rfl 2 rfl ?_
    refine w_aload_n dX10_sureYards_19 rfl 0 rfl ?_
    refine w_getI fl_RX10_109 rfl rfl (ic_9 hb h9_) dX10_sureYards_20 (fun z10_ e11_ => ?_)
    refine w_aload_n dX10_sureYards_23 rfl 0 rfl ?_
    refine w_getI fl_RX10_119 rfl rfl (ic_9 hb h9_) dX10_sureYards_24 (fun z12_ e13_ => ?_)
    refine w_callV (as := [vI v, vI z10_, vI z12_]) (rest := []) (c_X10_heardYards l G cy ad d b v z10_ z12_ Mz hIz hb) kV_X10_heardYards pnn_7 (Nat.le_of_ble_eq_true rfl) m_900 rfl rfl rfl (ic_10 hb) rfl rfl (by decide) (Nat.le_of_ble_eq_true rfl) dX10_sureYards_27 (fun r14_ M15_ q16_ => ?_)
    obtain ⟨hI18_, hF19_, h17_, hs21_⟩ := q16_
    have hF20_ := hFz.tr hF19_ (fun c k => (fun h => h.elim (fun h => (Or.inl ⟨h.1, h.2.1, h.2.2⟩)) (fun h => h.elim (fun h => (Or.inr (Or.inl ⟨h.1, h.2.1, h.2.2⟩))) (fun h => h.elim (fun h => (Or.inr (Or.inr (Or.inl ⟨h.1, h.2.1, h.2.2⟩)))) (fun h => h.elim (fun h => (Or.inr (Or.inr (Or.inr (Or.inl ⟨h.1, h.2.1, h.2.2⟩))))) (fun h => h.elim (fun h => (Or.inr (Or.inr (Or.inr (Or.inr (Or.inl ⟨h.1, h.2.1, h.2.2⟩)))))) (fun h => h.elim (fun h => (Or.inr (Or.inr (Or.inr (Or.inr (Or.inr (Or.inl ⟨h.1, h.2.1, h.2.2⟩))))))) (fun h => h.elim))))))))
    refine w_istore_n (ls' := [(3, vI r14_), (2, vR (9, b, j7_)), (0, vR (10, b, 0)), (1, vI v)]) dX10_sureYards_30 rfl (by decide) rfl ?_
    refine w_iload_n dX10_sureYards_31 rfl 0 rfl ?_
    refine w_if_le (tgt := 41) dX10_sureYards_32 (by decide) (rfl : r14_.toInt = r14_.toInt) (fun h22_ => ?_) (fun h22_ => ?_)
    · refine w_aload_n dX10_sureYards_41 rfl 1 rfl ?_
      refine w_callV (as := []) (rest := []) (c_X9_yardsHeldFree l G cy ad (d + 1) b j7_ M15_ hI18_ hb h9_) kV_X9_yardsHeldFree pnn_3 (Nat.le_of_ble_eq_true rfl) m_1106 rfl rfl rfl (ic_9 hb h9_) rfl rfl (by decide) (Nat.le_of_ble_eq_true rfl) dX10_sureYards_42 (fun r23_ M24_ q25_ => ?_)
      obtain ⟨rfl, h26_, hs27_⟩ := q25_
      exact w_iret rfl dX10_sureYards_45 ⟨hI18_, hF20_, trivial, (Or.inl ⟨hs5_, h4_, j7_, h8_, h9_, z10_, e11_, z12_, e13_, M15_, hI18_, hF19_, r14_, hs21_, h17_, (Or.inl ⟨h22_, r23_, hs27_, rfl, rfl⟩)⟩)⟩
    · refine w_iload_n dX10_sureYards_35 rfl 0 rfl ?_
      refine w_iconst (v := 1) dX10_sureYards_36 (by decide) ?_
      refine w_isubB dX10_sureYards_37 (rfl : r14_.toInt = r14_.toInt) li_1 (lf_c_X10_sureYards_1 r14_ h17_ h22_ ) (fun z28_ h29_ => ?_)
      refine w_goto (tgt := 45) dX10_sureYards_38 (by decide) ?_
      exact w_iret rfl dX10_sureYards_45 ⟨hI18_, hF20_, trivial, (Or.inl ⟨hs5_, h4_, j7_, h8_, h9_, z10_, e11_, z12_, e13_, M15_, hI18_, hF19_, r14_, hs21_, h17_, (Or.inr ⟨h22_, z28_, h29_, rfl, rfl⟩)⟩)⟩
  · refine w_if_ne (tgt := 10) dX10_sureYards_5 (by decide) li_0 (fun h9 => (absurd h9 (by decide))) (fun h30_ => ?_)
    refine w_iconst (v := 0) dX10_sureYards_8 (by decide) ?_
    exact w_iret rfl dX10_sureYards_9 ⟨hIz, hFz, trivial, (Or.inr ⟨hs5_, rfl, rfl⟩)⟩
def S_c_X10_goOn (b : Nat) : rf → Nat → Prop := fun c k => (c.1 = 35 ∧ c.2.1 = b) ∨ (c.1 = 9 ∧ c.2.1 = b ∧ k = 1) ∨ (c.1 = 9 ∧ c.2.1 = b ∧ k = 7) ∨ (c.1 = 40 ∧ c.2.1 = b) ∨ False
def ST_X10_goOn_18 (b : Nat) (v : Int32) (Mz : mM) (j7_ : Nat) (v3_18 : Int32) (M_18 : mM) (v3_18y : Int32) (M_18y : mM) : Prop := (0 ≤ v3_18.toInt) ∧ (Inv M_18) ∧ (FR (S_c_X10_goOn b) Mz M_18) ∧ ∃ r11_ : Int32, (SP_X9_speed b j7_ M_18 r11_) ∧ (0 ≤ r11_.toInt ∧ r11_.toInt ≤ 2) ∧ (v3_18.toInt < r11_.toInt) ∧ ∃ z17_ : Int32, (z17_ = M_18.1 (9, b, j7_) 1) ∧ ∃ z19_ : Int32, (z19_ = M_18.1 (9, b, j7_) 2) ∧ ∃ r21_ : Int32, (SP_X7_cellFrom z17_ z19_ 1 M_18 r21_) ∧ (-1 ≤ r21_.toInt ∧ r21_.toInt ≤ 191) ∧ (SP_X7_isFree b r21_ M_18 (1 : Int32)) ∧ (0 ≤ r21_.toInt ∧ r21_.toInt ≤ 191) ∧ ∃ M34_ : mM, (Inv M34_) ∧ (FR (S_c_X7_settle b) M_18 M34_) ∧ (SP_X7_settle b z17_ (-1) M_18 M34_) ∧ ∃ z41_ : Int32, (z41_.toInt = 100 + v.toInt) ∧ ∃ M43_ : mM, (Inv M43_) ∧ (FR (S_c_X7_settle b) M34_ M43_) ∧ (SP_X7_settle b r21_ z41_ M34_ M43_) ∧ ∃ M50_ : mM, (M50_ = up M43_ (9, b, j7_) 1 r21_) ∧ ∃ z54_ : Int32, (z54_.toInt = v3_18.toInt + 1) ∧ v3_18y = z54_ ∧ M_18y = M50_
def SP_X10_goOn (b : Nat) (v : Int32) (Mz : mM) (M_ : mM) : Prop := (((SP_X10_hasWalker b v Mz (1 : Int32)) ∧ (0 ≤ v.toInt ∧ v.toInt ≤ 7) ∧ ∃ j7_ : Nat, ((j7_ : Int) = v.toInt) ∧ (j7_ < 8) ∧ ∃ v3_18 : Int32, (0 ≤ v3_18.toInt) ∧ ∃ M_18 : mM, (RCH (fun x_ y_ => ST_X10_goOn_18 b v Mz j7_ x_.1 x_.2 y_.1 y_.2) ((0 : Int32), Mz) (v3_18, M_18)) ∧ (Inv M_18) ∧ (FR (S_c_X10_goOn b) Mz M_18) ∧ ∃ r11_ : Int32, (SP_X9_speed b j7_ M_18 r11_) ∧ (0 ≤ r11_.toInt ∧ r11_.toInt ≤ 2) ∧ (((r11_.toInt ≤ v3_18.toInt) ∧ M_ = M_18) ∨ ((v3_18.toInt < r11_.toInt) ∧ ∃ z17_ : Int32, (z17_ = M_18.1 (9, b, j7_) 1) ∧ ∃ z19_ : Int32, (z19_ = M_18.1 (9, b, j7_) 2) ∧ ∃ r21_ : Int32, (SP_X7_cellFrom z17_ z19_ 1 M_18 r21_) ∧ (-1 ≤ r21_.toInt ∧ r21_.toInt ≤ 191) ∧ (SP_X7_isFree b r21_ M_18 (0 : Int32)) ∧ ∃ z57_ : Int32, (z57_ = M_18.1 (9, b, j7_) 7) ∧ ∃ z59_ : Int32, (z59_ = z57_ + (1 : Int32)) ∧ ∃ M61_ : mM, (M61_ = up M_18 (9, b, j7_) 7 z59_) ∧ (Inv M61_) ∧ ∃ M65_ : mM, (Inv M65_) ∧ (FR (S_c_X9_addYes b j7_) M61_ M65_) ∧ (SP_X9_addYes b j7_ r21_ 3 M61_ M65_) ∧ M_ = M65_))) ∨ ((SP_X10_hasWalker b v Mz (0 : Int32)) ∧ M_ = Mz))
theorem lf_c_X10_goOn_1 (v : Int32) (h4_ : 0 ≤ v.toInt ∧ v.toInt ≤ 7) : -2147483648 ≤ 100 + v.toInt ∧ 100 + v.toInt < 2147483648 := by omega
theorem lf_c_X10_goOn_2 (v3_18 : Int32) (r11_ : Int32) (hv0_18 : 0 ≤ v3_18.toInt) (h14_ : 0 ≤ r11_.toInt ∧ r11_.toInt ≤ 2) (h16_ : v3_18.toInt < r11_.toInt) : -2147483648 ≤ v3_18.toInt + 1 ∧ v3_18.toInt + 1 < 2147483648 := by omega
theorem lf_c_X10_goOn_4 (v3_18 : Int32) (r11_ : Int32) (z54_ : Int32) (h14_ : 0 ≤ r11_.toInt ∧ r11_.toInt ≤ 2) (h16_ : v3_18.toInt < r11_.toInt) (h55_ : z54_.toInt = v3_18.toInt + 1) : (2147483648 - z54_.toInt).toNat < (2147483648 - v3_18.toInt).toNat := by omega
set_option maxHeartbeats 4000000 in
set_option maxRecDepth 100000 in
theorem c_X10_goOn (l : Launch) (G : va_G) (cy : Nat → ClassId) (ad : rf → Nat) (d : Nat) (b : Nat) (v : Int32) (Mz : mM) (hIz : Inv Mz) (hb : b < 3) : WP CC l G cy ad yX10_goOn cX10_goOn 5 none (d + 2) 0 [(0, vR (10, b, 0)), (1, vI v)] [] Mz (fun r M' => Inv M' ∧ FR (S_c_X10_goOn b) Mz M' ∧ (True) ∧ SP_X10_goOn b v Mz M') := by
  have hFz : FR (S_c_X10_goOn b) Mz Mz := FR.self
  refine w_aload_n dX10_goOn_0 rfl 0 rfl ?_
  refine w_iload_n dX10_goOn_1 rfl 1 rfl ?_
  refine w_callV (as := [vI v]) (rest := []) (c_X10_hasWalker l G cy ad (d + 1) b v Mz hIz hb) kV_X10_hasWalker pnn_7 (Nat.le_of_ble_eq_true rfl) m_847 rfl rfl rfl (ic_10 hb) rfl rfl (by decide) (Nat.le_of_ble_eq_true rfl) dX10_goOn_2 (fun r1_ M2_ q3_ => ?_)
  obtain ⟨rfl, h4_, hs5_⟩ := q3_
  rcases h4_ with ⟨rfl, h4_⟩ | rfl
  · refine w_if_ne (tgt := 9) dX10_goOn_5 (by decide) li_1 (fun h6_ => ?_) (fun h9 => (absurd h9 (by decide)))
    refine w_aload_n dX10_goOn_9 rfl 0 rfl ?_
    refine w_getR (c' := (42, b, 0)) fl_RX10_46 rfl rfl (ic_10 hb) dX10_goOn_10 rfl ?_
    refine w_iload_n dX10_goOn_13 rfl 1 rfl ?_
    refine w_aald rfl rfl rfl (fun _ => rfl) (ic_42 hb) (rfl : v.toInt = v.toInt) (lf_c_X7_cellFrom_2 v h4_ ) dX10_goOn_14 (fun j7_ h8_ h9_ => ?_)
    refine w_astore_n (ls' := [(2, vR (9, b, j7_)), (0, vR (10, b, 0)), (1, vI v)]) dX10_goOn_15 rfl (by decide) rfl ?_
    refine w_iconst (v := 0) dX10_goOn_16 (by decide) ?_
    refine w_istore_n (ls' := [(3, vI 0), (2, vR (9, b, j7_)), (0, vR (10, b, 0)), (1, vI v)]) dX10_goOn_17 rfl (by decide) rfl ?_
    have lp10_ : ∀ (nn_18 : Nat) (M_18 : mM) (hI_18 : Inv M_18) (hF_18 : FR (S_c_X10_goOn b) Mz M_18) (v3_18 : Int32) (hv0_18 : 0 ≤ v3_18.toInt) (hL_18 : RCH (fun x_ y_ => ST_X10_goOn_18 b v Mz j7_ x_.1 x_.2 y_.1 y_.2) ((0 : Int32), Mz) (v3_18, M_18)), (2147483648 - v3_18.toInt).toNat < nn_18 → WP CC l G cy ad yX10_goOn cX10_goOn 5 none (d + 2) 18 [(3, vI v3_18), (2, vR (9, b, j7_)), (0, vR (10, b, 0)), (1, vI v)] [] M_18 (fun r M' => Inv M' ∧ FR (S_c_X10_goOn b) Mz M' ∧ (True) ∧ SP_X10_goOn b v Mz M') := by
      intro nn_18
      induction nn_18 with
      | zero => intro M_18 hI_18 hF_18 v3_18 hv0_18 hL_18 hm_18; exact absurd hm_18 (Nat.not_lt_zero _)
      | succ nn_18 ih_18 =>
        intro M_18 hI_18 hF_18 v3_18 hv0_18 hL_18 hm_18
        refine w_iload_n dX10_goOn_18 rfl 0 rfl ?_
        refine w_aload_n dX10_goOn_19 rfl 1 rfl ?_
        refine w_callV (as := []) (rest := [vI v3_18]) (c_X9_speed l G cy ad (d + 1) b j7_ M_18 hI_18 hb h9_) kV_X9_speed pnn_3 (Nat.le_of_ble_eq_true rfl) m_1061 rfl rfl rfl (ic_9 hb h9_) rfl rfl (by decide) (Nat.le_of_ble_eq_true rfl) dX10_goOn_20 (fun r11_ M12_ q13_ => ?_)
        obtain ⟨rfl, h14_, hs15_⟩ := q13_
        refine w_icmp_ge (tgt := 107) dX10_goOn_23 (by decide) (rfl : v3_18.toInt = v3_18.toInt) (rfl : r11_.toInt = r11_.toInt) (fun h16_ => ?_) (fun h16_ => ?_)
        · exact w_vret rfl dX10_goOn_107 ⟨hI_18, hF_18, trivial, (Or.inl ⟨hs5_, h4_, j7_, h8_, h9_, v3_18, hv0_18, M_18, hL_18, hI_18, hF_18, r11_, hs15_, h14_, (Or.inl ⟨h16_, rfl⟩)⟩)⟩
        · refine w_aload_n dX10_goOn_26 rfl 1 rfl ?_
          refine w_getI fl_RX10_109 rfl rfl (ic_9 hb h9_) dX10_goOn_27 (fun z17_ e18_ => ?_)
          refine w_aload_n dX10_goOn_30 rfl 1 rfl ?_
          refine w_getI fl_RX10_119 rfl rfl (ic_9 hb h9_) dX10_goOn_31 (fun z19_ e20_ => ?_)
          refine w_iconst (v := 1) dX10_goOn_34 (by decide) ?_
          refine w_callS (as := [vI z17_, vI z19_, vI 1]) (rest := []) (c_X7_cellFrom l G cy ad d z17_ z19_ 1 M_18 hI_18) kS_X7_cellFrom pnn_1 (Nat.le_of_ble_eq_true rfl) m_849 rfl rfl (by decide) (Nat.le_of_ble_eq_true rfl) dX10_goOn_35 (fun r21_ M22_ q23_ => ?_)
          obtain ⟨rfl, h24_, hs25_⟩ := q23_
          refine w_istore (ls' := [(4, vI r21_), (3, vI v3_18), (2, vR (9, b, j7_)), (0, vR (10, b, 0)), (1, vI v)]) dX10_goOn_38 (by decide) rfl ?_
          refine w_aload_n dX10_goOn_40 rfl 3 rfl ?_
          refine w_getR (c' := (7, b, 0)) fl_RX10_10 rfl rfl (ic_10 hb) dX10_goOn_41 rfl ?_
          refine w_iload dX10_goOn_44 0 rfl ?_
          refine w_callV (as := [vI r21_]) (rest := []) (c_X7_isFree l G cy ad d b r21_ M_18 hI_18 hb) kV_X7_isFree pnn_1 (Nat.le_of_ble_eq_true rfl) m_1062 rfl rfl rfl (ic_7 hb) rfl rfl (by decide) (Nat.le_of_ble_eq_true rfl) dX10_goOn_46 (fun r26_ M27_ q28_ => ?_)
          obtain ⟨rfl, h29_, hs30_⟩ := q28_
          rcases h29_ with ⟨rfl, h29_⟩ | rfl
          · refine w_if_ne (tgt := 70) dX10_goOn_49 (by decide) li_1 (fun h31_ => ?_) (fun h9 => (absurd h9 (by decide)))
            refine w_aload_n dX10_goOn_70 rfl 3 rfl ?_
            refine w_getR (c' := (7, b, 0)) fl_RX10_10 rfl rfl (ic_10 hb) dX10_goOn_71 rfl ?_
            refine w_aload_n dX10_goOn_74 rfl 2 rfl ?_
            refine w_getI fl_RX10_109 rfl rfl (ic_9 hb h9_) dX10_goOn_75 (fun z32_ e33_ => ?_)
            obtain rfl : z17_ = z32_ := e18_.trans e33_.symm
            refine w_iconst (v := (-1)) dX10_goOn_78 (by decide) ?_
            refine w_callVv (as := [vI z17_, vI (-1)]) (rest := []) (c_X7_settle l G cy ad d b z17_ (-1) M_18 hI_18 hb) kV_X7_settle pnn_1 (Nat.le_of_ble_eq_true rfl) m_604 rfl rfl rfl (ic_7 hb) rfl rfl (by decide) (Nat.le_of_ble_eq_true rfl) dX10_goOn_79 (fun M34_ q35_ => ?_)
            obtain ⟨hI37_, hF38_, h36_, hs40_⟩ := q35_
            have hF39_ := hF_18.tr hF38_ (fun c k => (fun h => h.elim (fun h => (Or.inl ⟨h.1, h.2⟩)) (fun h => h.elim)))
            refine w_aload_n dX10_goOn_82 rfl 3 rfl ?_
            refine w_getR (c' := (7, b, 0)) fl_RX10_10 rfl rfl (ic_10 hb) dX10_goOn_83 rfl ?_
            refine w_iload dX10_goOn_86 0 rfl ?_
            refine w_bipush (v := 100) dX10_goOn_88 (by decide) ?_
            refine w_iload_n dX10_goOn_90 rfl 4 rfl ?_
            refine w_iaddB dX10_goOn_91 li_100 (rfl : v.toInt = v.toInt) (lf_c_X10_goOn_1 v h4_ ) (fun z41_ h42_ => ?_)
            refine w_callVv (as := [vI r21_, vI z41_]) (rest := []) (c_X7_settle l G cy ad d b r21_ z41_ M34_ hI37_ hb) kV_X7_settle pnn_1 (Nat.le_of_ble_eq_true rfl) m_604 rfl rfl rfl (ic_7 hb) rfl rfl (by decide) (Nat.le_of_ble_eq_true rfl) dX10_goOn_92 (fun M43_ q44_ => ?_)
            obtain ⟨hI46_, hF47_, h45_, hs49_⟩ := q44_
            have hF48_ := hF39_.tr hF47_ (fun c k => (fun h => h.elim (fun h => (Or.inl ⟨h.1, h.2⟩)) (fun h => h.elim)))
            refine w_aload_n dX10_goOn_95 rfl 2 rfl ?_
            refine w_iload dX10_goOn_96 0 rfl ?_
            refine w_putI CC_nd fl_RX10_109 rfl rfl (ic_9 hb h9_) dX10_goOn_98 (fun M50_ hM51_ => ?_)
            have hI52_ := hI46_.put hM51_ (fun h => absurd h (by decide))
            have hF53_ := hF48_.put hM51_ (Or.inr (Or.inl ⟨rfl, rfl, rfl⟩))
            refine w_iincB (j := 1) (f := fun z54_ => [(3, vI z54_), (4, vI r21_), (2, vR (9, b, j7_)), (0, vR (10, b, 0)), (1, vI v)]) dX10_goOn_101 rfl (by decide) (fun _ => rfl) (rfl : v3_18.toInt = v3_18.toInt) li_1 (lf_c_X10_goOn_2 v3_18 r11_ hv0_18 h14_ h16_ ) (fun z54_ h55_ => ?_)
            refine w_goto (tgt := 18) dX10_goOn_104 (by decide) ?_
            refine w_loc (ls' := [(3, vI z54_), (2, vR (9, b, j7_)), (0, vR (10, b, 0)), (1, vI v)]) [0, 2, 3, 4] rfl ?_
            exact ih_18 M50_ hI52_ hF53_ z54_ (lf_c_X5_takeFrom_3 v3_18 z54_ hv0_18 h55_ ) (RCH.tail hL_18 ⟨hv0_18, hI_18, hF_18, r11_, hs15_, h14_, h16_, z17_, e18_, z19_, e20_, r21_, hs25_, h24_, hs30_, h29_, M34_, hI37_, hF38_, hs40_, z41_, h42_, M43_, hI46_, hF47_, hs49_, M50_, hM51_, z54_, h55_, rfl, rfl⟩) (Nat.lt_of_lt_of_le (lf_c_X10_goOn_4 v3_18 r11_ z54_ h14_ h16_ h55_ ) (Nat.le_of_lt_succ hm_18))
          · refine w_if_ne (tgt := 70) dX10_goOn_49 (by decide) li_0 (fun h9 => (absurd h9 (by decide))) (fun h56_ => ?_)
            refine w_aload_n dX10_goOn_52 rfl 2 rfl ?_
            refine w_dup dX10_goOn_53 rfl ?_
            refine w_getI fl_RX10_66 rfl rfl (ic_9 hb h9_) dX10_goOn_54 (fun z57_ e58_ => ?_)
            refine w_iconst (v := 1) dX10_goOn_57 (by decide) ?_
            refine w_iadd dX10_goOn_58 (fun z59_ h60_ => ?_)
            refine w_putI CC_nd fl_RX10_66 rfl rfl (ic_9 hb h9_) dX10_goOn_59 (fun M61_ hM62_ => ?_)
            have hI63_ := hI_18.put hM62_ (fun h => absurd h (by decide))
            have hF64_ := hF_18.put hM62_ (Or.inr (Or.inr (Or.inl ⟨rfl, rfl, rfl⟩)))
            refine w_aload_n dX10_goOn_62 rfl 2 rfl ?_
            refine w_iload dX10_goOn_63 0 rfl ?_
            refine w_iconst (v := 3) dX10_goOn_65 (by decide) ?_
            refine w_callVv (as := [vI r21_, vI 3]) (rest := []) (c_X9_addYes l G cy ad d b j7_ r21_ 3 M61_ hI63_ hb h9_) kV_X9_addYes pnn_3 (Nat.le_of_ble_eq_true rfl) m_915 rfl rfl rfl (ic_9 hb h9_) rfl rfl (by decide) (Nat.le_of_ble_eq_true rfl) dX10_goOn_66 (fun M65_ q66_ => ?_)
            obtain ⟨hI68_, hF69_, h67_, hs71_⟩ := q66_
            have hF70_ := hF64_.tr hF69_ (fun c k => (fun h => h.elim (fun h => (Or.inr (Or.inr (Or.inr (Or.inl ⟨h.1, h.2.1⟩))))) (fun h => h.elim)))
            exact w_vret rfl dX10_goOn_69 ⟨hI68_, hF70_, trivial, (Or.inl ⟨hs5_, h4_, j7_, h8_, h9_, v3_18, hv0_18, M_18, hL_18, hI_18, hF_18, r11_, hs15_, h14_, (Or.inr ⟨h16_, z17_, e18_, z19_, e20_, r21_, hs25_, h24_, hs30_, z57_, e58_, z59_, h60_, M61_, hM62_, hI63_, M65_, hI68_, hF69_, hs71_, rfl⟩)⟩)⟩
    exact lp10_ _ Mz hIz hFz 0 (lf_c_X5_takeFrom_5 ) RCH.refl (Nat.lt_succ_self _)
  · refine w_if_ne (tgt := 9) dX10_goOn_5 (by decide) li_0 (fun h9 => (absurd h9 (by decide))) (fun h72_ => ?_)
    exact w_vret rfl dX10_goOn_8 ⟨hIz, hFz, trivial, (Or.inr ⟨hs5_, rfl⟩)⟩
def S_c_X10_letWalkerGo (b : Nat) : rf → Nat → Prop := fun c k => (c.1 = 29 ∧ c.2.1 = b ∧ k = 0) ∨ (c.1 = 29 ∧ c.2.1 = b ∧ k = 1) ∨ (c.1 = 29 ∧ c.2.1 = b ∧ k = 2) ∨ (c.1 = 29 ∧ c.2.1 = b ∧ k = 3) ∨ (c.1 = 29 ∧ c.2.1 = b ∧ k = 4) ∨ (c.1 = 25 ∧ c.2.1 = b ∧ c.2.2 = 2) ∨ (c.1 = 9 ∧ c.2.1 = b ∧ k = 2) ∨ (c.1 = 35 ∧ c.2.1 = b) ∨ (c.1 = 9 ∧ c.2.1 = b ∧ k = 1) ∨ (c.1 = 9 ∧ c.2.1 = b ∧ k = 7) ∨ (c.1 = 40 ∧ c.2.1 = b) ∨ (c.1 = 9 ∧ c.2.1 = b ∧ k = 8) ∨ (c.1 = 25 ∧ c.2.1 = b ∧ c.2.2 = 0) ∨ (c.1 = 25 ∧ c.2.1 = b ∧ c.2.2 = 1) ∨ (c.1 = 41 ∧ c.2.1 = b) ∨ False
def SP_X10_letWalkerGo (b : Nat) (v : Int32) (Mz : mM) (M_ : mM) : Prop := (((SP_X10_hasWalker b v Mz (1 : Int32)) ∧ (0 ≤ v.toInt ∧ v.toInt ≤ 7) ∧ ∃ j7_ : Nat, ((j7_ : Int) = v.toInt) ∧ (j7_ < 8) ∧ ∃ z10_ : Int32, (z10_ = Mz.1 (9, b, j7_) 5) ∧ (((z10_.toInt ≤ 0) ∧ ∃ z13_ : Int32, (z13_ = Mz.1 (9, b, j7_) 2) ∧ ∃ r15_ : Int32, (SP_X9_yardsToFull b j7_ z13_ Mz r15_) ∧ ∃ z22_ : Int32, (z22_ = z13_ + (6 : Int32)) ∧ ∃ z24_ : Int32, (z24_ = z22_ &&& (7 : Int32)) ∧ (0 ≤ z24_.toInt ∧ z24_.toInt < ((2 ^ 3 : Nat) : Int)) ∧ ∃ r27_ : Int32, (SP_X9_yardsToFull b j7_ z24_ Mz r27_) ∧ ∃ z34_ : Int32, (z34_ = z13_ + (2 : Int32)) ∧ ∃ z36_ : Int32, (z36_ = z34_ &&& (7 : Int32)) ∧ (0 ≤ z36_.toInt ∧ z36_.toInt < ((2 ^ 3 : Nat) : Int)) ∧ ∃ r39_ : Int32, (SP_X9_yardsToFull b j7_ z36_ Mz r39_) ∧ ∃ z44_ : Int32, (z44_ = Mz.1 (9, b, j7_) 7) ∧ ∃ z46_ : Int32, (z46_ = Mz.1 (10, b, 0) 7) ∧ ∃ M49_ : mM, (Inv M49_) ∧ (FR (S_c_X2_habitValue b) Mz M49_) ∧ ∃ r48_ : Int32, (SP_X2_habitValue b r15_ r27_ r39_ z44_ z46_ Mz r48_ M49_) ∧ ∃ z56_ : Int32, (z56_ = fmX r48_) ∧ (((¬ z56_.toInt = 0) ∧ (((¬ z56_.toInt = 3) ∧ ∃ M59_ : mM, (Inv M59_) ∧ (FR (S_c_X9_turn b j7_) M49_ M59_) ∧ (SP_X9_turn b j7_ z56_ M49_ M59_) ∧ M_ = M59_) ∨ ((z56_.toInt = 3) ∧ ∃ M66_ : mM, (Inv M66_) ∧ (FR (S_c_X9_turn b j7_) M49_ M66_) ∧ (SP_X9_turn b j7_ (-2) M49_ M66_) ∧ M_ = M66_))) ∨ ((z56_.toInt = 0) ∧ ∃ M73_ : mM, (Inv M73_) ∧ (FR (S_c_X10_goOn b) M49_ M73_) ∧ (SP_X10_goOn b v M49_ M73_) ∧ M_ = M73_))) ∨ ((0 < z10_.toInt) ∧ ∃ z80_ : Int32, (z80_ = Mz.1 (10, b, 0) 7) ∧ ∃ z82_ : Int32, (z82_ = z80_ - z80_ / z10_ * z10_) ∧ (((¬ z82_.toInt = 0) ∧ ∃ z85_ : Int32, (z85_ = Mz.1 (9, b, j7_) 2) ∧ ∃ r87_ : Int32, (SP_X9_yardsToFull b j7_ z85_ Mz r87_) ∧ ∃ z94_ : Int32, (z94_ = z85_ + (6 : Int32)) ∧ ∃ z96_ : Int32, (z96_ = z94_ &&& (7 : Int32)) ∧ (0 ≤ z96_.toInt ∧ z96_.toInt < ((2 ^ 3 : Nat) : Int)) ∧ ∃ r99_ : Int32, (SP_X9_yardsToFull b j7_ z96_ Mz r99_) ∧ ∃ z106_ : Int32, (z106_ = z85_ + (2 : Int32)) ∧ ∃ z108_ : Int32, (z108_ = z106_ &&& (7 : Int32)) ∧ (0 ≤ z108_.toInt ∧ z108_.toInt < ((2 ^ 3 : Nat) : Int)) ∧ ∃ r111_ : Int32, (SP_X9_yardsToFull b j7_ z108_ Mz r111_) ∧ ∃ z116_ : Int32, (z116_ = Mz.1 (9, b, j7_) 7) ∧ ∃ M121_ : mM, (Inv M121_) ∧ (FR (S_c_X2_habitValue b) Mz M121_) ∧ ∃ r120_ : Int32, (SP_X2_habitValue b r87_ r99_ r111_ z116_ z80_ Mz r120_ M121_) ∧ ∃ z128_ : Int32, (z128_ = fmX r120_) ∧ (((¬ z128_.toInt = 0) ∧ (((¬ z128_.toInt = 3) ∧ ∃ M131_ : mM, (Inv M131_) ∧ (FR (S_c_X9_turn b j7_) M121_ M131_) ∧ (SP_X9_turn b j7_ z128_ M121_ M131_) ∧ M_ = M131_) ∨ ((z128_.toInt = 3) ∧ ∃ M138_ : mM, (Inv M138_) ∧ (FR (S_c_X9_turn b j7_) M121_ M138_) ∧ (SP_X9_turn b j7_ (-2) M121_ M138_) ∧ M_ = M138_))) ∨ ((z128_.toInt = 0) ∧ ∃ M145_ : mM, (Inv M145_) ∧ (FR (S_c_X10_goOn b) M121_ M145_) ∧ (SP_X10_goOn b v M121_ M145_) ∧ M_ = M145_))) ∨ ((z82_.toInt = 0) ∧ ∃ r152_ : Int32, (SP_X9_isOf b j7_ 1 Mz r152_) ∧ ((0 ≤ r152_.toInt ∧ r152_.toInt ≤ 1)) ∧ (((r152_.toInt = 0) ∧ ∃ z158_ : Int32, (z158_ = Mz.1 (9, b, j7_) 2) ∧ ∃ r160_ : Int32, (SP_X9_yardsToFull b j7_ z158_ Mz r160_) ∧ ∃ z167_ : Int32, (z167_ = z158_ + (6 : Int32)) ∧ ∃ z169_ : Int32, (z169_ = z167_ &&& (7 : Int32)) ∧ (0 ≤ z169_.toInt ∧ z169_.toInt < ((2 ^ 3 : Nat) : Int)) ∧ ∃ r172_ : Int32, (SP_X9_yardsToFull b j7_ z169_ Mz r172_) ∧ ∃ z179_ : Int32, (z179_ = z158_ + (2 : Int32)) ∧ ∃ z181_ : Int32, (z181_ = z179_ &&& (7 : Int32)) ∧ (0 ≤ z181_.toInt ∧ z181_.toInt < ((2 ^ 3 : Nat) : Int)) ∧ ∃ r184_ : Int32, (SP_X9_yardsToFull b j7_ z181_ Mz r184_) ∧ ∃ z189_ : Int32, (z189_ = Mz.1 (9, b, j7_) 7) ∧ ∃ M194_ : mM, (Inv M194_) ∧ (FR (S_c_X2_habitValue b) Mz M194_) ∧ ∃ r193_ : Int32, (SP_X2_habitValue b r160_ r172_ r184_ z189_ z80_ Mz r193_ M194_) ∧ ∃ z201_ : Int32, (z201_ = fmX r193_) ∧ (((¬ z201_.toInt = 0) ∧ (((¬ z201_.toInt = 3) ∧ ∃ M204_ : mM, (Inv M204_) ∧ (FR (S_c_X9_turn b j7_) M194_ M204_) ∧ (SP_X9_turn b j7_ z201_ M194_ M204_) ∧ M_ = M204_) ∨ ((z201_.toInt = 3) ∧ ∃ M211_ : mM, (Inv M211_) ∧ (FR (S_c_X9_turn b j7_) M194_ M211_) ∧ (SP_X9_turn b j7_ (-2) M194_ M211_) ∧ M_ = M211_))) ∨ ((z201_.toInt = 0) ∧ ∃ M218_ : mM, (Inv M218_) ∧ (FR (S_c_X10_goOn b) M194_ M218_) ∧ (SP_X10_goOn b v M194_ M218_) ∧ M_ = M218_))) ∨ ((¬ r152_.toInt = 0) ∧ ∃ M226_ : mM, (Inv M226_) ∧ (FR (S_c_X10_makeClick b) Mz M226_) ∧ ∃ r225_ : Int32, (SP_X10_makeClick b v Mz r225_ M226_) ∧ ∃ z233_ : Int32, (z233_ = M226_.1 (9, b, j7_) 2) ∧ ∃ r235_ : Int32, (SP_X9_yardsToFull b j7_ z233_ M226_ r235_) ∧ ∃ z242_ : Int32, (z242_ = z233_ + (6 : Int32)) ∧ ∃ z244_ : Int32, (z244_ = z242_ &&& (7 : Int32)) ∧ (0 ≤ z244_.toInt ∧ z244_.toInt < ((2 ^ 3 : Nat) : Int)) ∧ ∃ r247_ : Int32, (SP_X9_yardsToFull b j7_ z244_ M226_ r247_) ∧ ∃ z254_ : Int32, (z254_ = z233_ + (2 : Int32)) ∧ ∃ z256_ : Int32, (z256_ = z254_ &&& (7 : Int32)) ∧ (0 ≤ z256_.toInt ∧ z256_.toInt < ((2 ^ 3 : Nat) : Int)) ∧ ∃ r259_ : Int32, (SP_X9_yardsToFull b j7_ z256_ M226_ r259_) ∧ ∃ z264_ : Int32, (z264_ = M226_.1 (9, b, j7_) 7) ∧ ∃ z266_ : Int32, (z266_ = M226_.1 (10, b, 0) 7) ∧ ∃ M269_ : mM, (Inv M269_) ∧ (FR (S_c_X2_habitValue b) M226_ M269_) ∧ ∃ r268_ : Int32, (SP_X2_habitValue b r235_ r247_ r259_ z264_ z266_ M226_ r268_ M269_) ∧ ∃ z276_ : Int32, (z276_ = fmX r268_) ∧ (((¬ z276_.toInt = 0) ∧ (((¬ z276_.toInt = 3) ∧ ∃ M279_ : mM, (Inv M279_) ∧ (FR (S_c_X9_turn b j7_) M269_ M279_) ∧ (SP_X9_turn b j7_ z276_ M269_ M279_) ∧ M_ = M279_) ∨ ((z276_.toInt = 3) ∧ ∃ M286_ : mM, (Inv M286_) ∧ (FR (S_c_X9_turn b j7_) M269_ M286_) ∧ (SP_X9_turn b j7_ (-2) M269_ M286_) ∧ M_ = M286_))) ∨ ((z276_.toInt = 0) ∧ ∃ M293_ : mM, (Inv M293_) ∧ (FR (S_c_X10_goOn b) M269_ M293_) ∧ (SP_X10_goOn b v M269_ M293_) ∧ M_ = M293_))))))))) ∨ ((SP_X10_hasWalker b v Mz (0 : Int32)) ∧ M_ = Mz))
theorem lf_c_X10_letWalkerGo_1 (Mz : mM) (b : Nat) (v : Int32) (j7_ : Nat) (z10_ : Int32) (z80_ : Int32) (hb : b < 3) (h4_ : 0 ≤ v.toInt ∧ v.toInt ≤ 7) (h8_ : (j7_ : Int) = v.toInt) (h9_ : j7_ < 8) (e11_ : z10_ = Mz.1 (9, b, j7_) 5) (h12_ : 0 < z10_.toInt) (e81_ : z80_ = Mz.1 (10, b, 0) 7) : ¬ z10_ = 0 := by have r_v := rngI v; have r_z10_ := rngI z10_; have r_z80_ := rngI z80_; intro h9; subst h9; simp at *; try omega
set_option maxHeartbeats 4000000 in
set_option maxRecDepth 100000 in
theorem c_X10_letWalkerGo (l : Launch) (G : va_G) (cy : Nat → ClassId) (ad : rf → Nat) (d : Nat) (b : Nat) (v : Int32) (Mz : mM) (hIz : Inv Mz) (hb : b < 3) : WP CC l G cy ad yX10_letWalkerGo cX10_letWalkerGo 8 none (d + 5) 0 [(0, vR (10, b, 0)), (1, vI v)] [] Mz (fun r M' => Inv M' ∧ FR (S_c_X10_letWalkerGo b) Mz M' ∧ (True) ∧ SP_X10_letWalkerGo b v Mz M') := by
  have hFz : FR (S_c_X10_letWalkerGo b) Mz Mz := FR.self
  refine w_aload_n dX10_letWalkerGo_0 rfl 0 rfl ?_
  refine w_iload_n dX10_letWalkerGo_1 rfl 1 rfl ?_
  refine w_callV (as := [vI v]) (rest := []) (c_X10_hasWalker l G cy ad (d + 4) b v Mz hIz hb) kV_X10_hasWalker pnn_7 (Nat.le_of_ble_eq_true rfl) m_847 rfl rfl rfl (ic_10 hb) rfl rfl (by decide) (Nat.le_of_ble_eq_true rfl) dX10_letWalkerGo_2 (fun r1_ M2_ q3_ => ?_)
  obtain ⟨rfl, h4_, hs5_⟩ := q3_
  rcases h4_ with ⟨rfl, h4_⟩ | rfl
  · refine w_if_ne (tgt := 9) dX10_letWalkerGo_5 (by decide) li_1 (fun h6_ => ?_) (fun h9 => (absurd h9 (by decide)))
    refine w_aload_n dX10_letWalkerGo_9 rfl 0 rfl ?_
    refine w_getR (c' := (42, b, 0)) fl_RX10_46 rfl rfl (ic_10 hb) dX10_letWalkerGo_10 rfl ?_
    refine w_iload_n dX10_letWalkerGo_13 rfl 1 rfl ?_
    refine w_aald rfl rfl rfl (fun _ => rfl) (ic_42 hb) (rfl : v.toInt = v.toInt) (lf_c_X7_cellFrom_2 v h4_ ) dX10_letWalkerGo_14 (fun j7_ h8_ h9_ => ?_)
    refine w_astore_n (ls' := [(2, vR (9, b, j7_)), (0, vR (10, b, 0)), (1, vI v)]) dX10_letWalkerGo_15 rfl (by decide) rfl ?_
    refine w_aload_n dX10_letWalkerGo_16 rfl 0 rfl ?_
    refine w_getI fl_RX10_151 rfl rfl (ic_9 hb h9_) dX10_letWalkerGo_17 (fun z10_ e11_ => ?_)
    refine w_istore_n (ls' := [(3, vI z10_), (2, vR (9, b, j7_)), (0, vR (10, b, 0)), (1, vI v)]) dX10_letWalkerGo_20 rfl (by decide) rfl ?_
    refine w_iload_n dX10_letWalkerGo_21 rfl 0 rfl ?_
    refine w_if_le (tgt := 48) dX10_letWalkerGo_22 (by decide) (rfl : z10_.toInt = z10_.toInt) (fun h12_ => ?_) (fun h12_ => ?_)
    · refine w_aload_n dX10_letWalkerGo_48 rfl 1 rfl ?_
      refine w_aload_n dX10_letWalkerGo_49 rfl 1 rfl ?_
      refine w_getI fl_RX10_119 rfl rfl (ic_9 hb h9_) dX10_letWalkerGo_50 (fun z13_ e14_ => ?_)
      refine w_callV (as := [vI z13_]) (rest := []) (c_X9_yardsToFull l G cy ad (d + 2) b j7_ z13_ Mz hIz hb h9_) kV_X9_yardsToFull pnn_3 (Nat.le_of_ble_eq_true rfl) m_1045 rfl rfl rfl (ic_9 hb h9_) rfl rfl (by decide) (Nat.le_of_ble_eq_true rfl) dX10_letWalkerGo_53 (fun r15_ M16_ q17_ => ?_)
      obtain ⟨rfl, h18_, hs19_⟩ := q17_
      refine w_istore (ls' := [(4, vI r15_), (3, vI z10_), (2, vR (9, b, j7_)), (0, vR (10, b, 0)), (1, vI v)]) dX10_letWalkerGo_56 (by decide) rfl ?_
      refine w_aload_n dX10_letWalkerGo_58 rfl 2 rfl ?_
      refine w_aload_n dX10_letWalkerGo_59 rfl 2 rfl ?_
      refine w_getI fl_RX10_119 rfl rfl (ic_9 hb h9_) dX10_letWalkerGo_60 (fun z20_ e21_ => ?_)
      obtain rfl : z13_ = z20_ := e14_.trans e21_.symm
      refine w_bipush (v := 6) dX10_letWalkerGo_63 (by decide) ?_
      refine w_iadd dX10_letWalkerGo_65 (fun z22_ h23_ => ?_)
      refine w_bipush (v := 7) dX10_letWalkerGo_66 (by decide) ?_
      refine w_iand dX10_letWalkerGo_68 (fun z24_ h26_ => ?_)
      have h25_ : 0 ≤ z24_.toInt ∧ z24_.toInt < ((2 ^ 3 : Nat) : Int) := by rw [h26_]; exact andI _ 3 (by decide) (by decide)
      refine w_callV (as := [vI z24_]) (rest := []) (c_X9_yardsToFull l G cy ad (d + 2) b j7_ z24_ Mz hIz hb h9_) kV_X9_yardsToFull pnn_3 (Nat.le_of_ble_eq_true rfl) m_1045 rfl rfl rfl (ic_9 hb h9_) rfl rfl (by decide) (Nat.le_of_ble_eq_true rfl) dX10_letWalkerGo_69 (fun r27_ M28_ q29_ => ?_)
      obtain ⟨rfl, h30_, hs31_⟩ := q29_
      refine w_istore (ls' := [(5, vI r27_), (4, vI r15_), (3, vI z10_), (2, vR (9, b, j7_)), (0, vR (10, b, 0)), (1, vI v)]) dX10_letWalkerGo_72 (by decide) rfl ?_
      refine w_aload_n dX10_letWalkerGo_74 rfl 3 rfl ?_
      refine w_aload_n dX10_letWalkerGo_75 rfl 3 rfl ?_
      refine w_getI fl_RX10_119 rfl rfl (ic_9 hb h9_) dX10_letWalkerGo_76 (fun z32_ e33_ => ?_)
      obtain rfl : z13_ = z32_ := e14_.trans e33_.symm
      refine w_iconst (v := 2) dX10_letWalkerGo_79 (by decide) ?_
      refine w_iadd dX10_letWalkerGo_80 (fun z34_ h35_ => ?_)
      refine w_bipush (v := 7) dX10_letWalkerGo_81 (by decide) ?_
      refine w_iand dX10_letWalkerGo_83 (fun z36_ h38_ => ?_)
      have h37_ : 0 ≤ z36_.toInt ∧ z36_.toInt < ((2 ^ 3 : Nat) : Int) := by rw [h38_]; exact andI _ 3 (by decide) (by decide)
      refine w_callV (as := [vI z36_]) (rest := []) (c_X9_yardsToFull l G cy ad (d + 2) b j7_ z36_ Mz hIz hb h9_) kV_X9_yardsToFull pnn_3 (Nat.le_of_ble_eq_true rfl) m_1045 rfl rfl rfl (ic_9 hb h9_) rfl rfl (by decide) (Nat.le_of_ble_eq_true rfl) dX10_letWalkerGo_84 (fun r39_ M40_ q41_ => ?_)
      obtain ⟨rfl, h42_, hs43_⟩ := q41_
      refine w_istore (ls' := [(6, vI r39_), (5, vI r27_), (4, vI r15_), (3, vI z10_), (2, vR (9, b, j7_)), (0, vR (10, b, 0)), (1, vI v)]) dX10_letWalkerGo_87 (by decide) rfl ?_
      refine w_aload_n dX10_letWalkerGo_89 rfl 5 rfl ?_
      refine w_getR (c' := (2, b, 0)) fl_RX10_19 rfl rfl (ic_10 hb) dX10_letWalkerGo_90 rfl ?_
      refine w_iload dX10_letWalkerGo_93 2 rfl ?_
      refine w_iload dX10_letWalkerGo_95 1 rfl ?_
      refine w_iload dX10_letWalkerGo_97 0 rfl ?_
      refine w_aload_n dX10_letWalkerGo_99 rfl 4 rfl ?_
      refine w_getI fl_RX10_66 rfl rfl (ic_9 hb h9_) dX10_letWalkerGo_100 (fun z44_ e45_ => ?_)
      refine w_aload_n dX10_letWalkerGo_103 rfl 5 rfl ?_
      refine w_getI fl_RX10_54 rfl rfl (ic_10 hb) dX10_letWalkerGo_104 (fun z46_ e47_ => ?_)
      refine w_callV (as := [vI r15_, vI r27_, vI r39_, vI z44_, vI z46_]) (rest := []) (c_X2_habitValue l G cy ad (d + 3) b r15_ r27_ r39_ z44_ z46_ Mz hIz hb) kV_X2_habitValue pnn_5 (Nat.le_of_ble_eq_true rfl) m_1050 rfl rfl rfl (ic_2 hb) rfl rfl (by decide) (Nat.le_of_ble_eq_true rfl) dX10_letWalkerGo_107 (fun r48_ M49_ q50_ => ?_)
      obtain ⟨hI52_, hF53_, h51_, hs55_⟩ := q50_
      have hF54_ := hFz.tr hF53_ (fun c k => (fun h => h.elim (fun h => (Or.inl ⟨h.1, h.2.1, h.2.2⟩)) (fun h => h.elim (fun h => (Or.inr (Or.inl ⟨h.1, h.2.1, h.2.2⟩))) (fun h => h.elim (fun h => (Or.inr (Or.inr (Or.inl ⟨h.1, h.2.1, h.2.2⟩)))) (fun h => h.elim (fun h => (Or.inr (Or.inr (Or.inr (Or.inl ⟨h.1, h.2.1, h.2.2⟩))))) (fun h => h.elim (fun h => (Or.inr (Or.inr (Or.inr (Or.inr (Or.inl ⟨h.1, h.2.1, h.2.2⟩)))))) (fun h => h.elim (fun h => (Or.inr (Or.inr (Or.inr (Or.inr (Or.inr (Or.inl ⟨h.1, h.2.1, h.2.2⟩))))))) (fun h => h.elim))))))))
      refine w_iconst (v := 4) dX10_letWalkerGo_110 (by decide) ?_
      refine w_floorMod4 m_1054 m_1055 m_86 m_1056 (Nat.le_of_ble_eq_true rfl) (by omega) dX10_letWalkerGo_111 (fun z56_ z56_h => ?_)
      refine w_istore (ls' := [(7, vI z56_), (6, vI r39_), (5, vI r27_), (4, vI r15_), (3, vI z10_), (2, vR (9, b, j7_)), (0, vR (10, b, 0)), (1, vI v)]) dX10_letWalkerGo_114 (by decide) rfl ?_
      refine w_iload dX10_letWalkerGo_116 0 rfl ?_
      refine w_if_ne (tgt := 129) dX10_letWalkerGo_118 (by decide) (rfl : z56_.toInt = z56_.toInt) (fun h57_ => ?_) (fun h57_ => ?_)
      · refine w_aload_n dX10_letWalkerGo_129 rfl 5 rfl ?_
        refine w_iload dX10_letWalkerGo_130 0 rfl ?_
        refine w_iconst (v := 3) dX10_letWalkerGo_132 (by decide) ?_
        refine w_icmp_ne (tgt := 141) dX10_letWalkerGo_133 (by decide) (rfl : z56_.toInt = z56_.toInt) li_3 (fun h58_ => ?_) (fun h58_ => ?_)
        · refine w_iload dX10_letWalkerGo_141 0 rfl ?_
          refine w_callVv (as := [vI z56_]) (rest := []) (c_X9_turn l G cy ad (d + 4) b j7_ z56_ M49_ hI52_ hb h9_) kV_X9_turn pnn_3 (Nat.le_of_ble_eq_true rfl) m_1063 rfl rfl rfl (ic_9 hb h9_) rfl rfl (by decide) (Nat.le_of_ble_eq_true rfl) dX10_letWalkerGo_143 (fun M59_ q60_ => ?_)
          obtain ⟨hI62_, hF63_, h61_, hs65_⟩ := q60_
          have hF64_ := hF54_.tr hF63_ (fun c k => (fun h => h.elim (fun h => (Or.inr (Or.inr (Or.inr (Or.inr (Or.inr (Or.inr (Or.inl ⟨h.1, h.2.1, h.2.2.2⟩)))))))) (fun h => h.elim)))
          exact w_vret rfl dX10_letWalkerGo_146 ⟨hI62_, hF64_, trivial, (Or.inl ⟨hs5_, h4_, j7_, h8_, h9_, z10_, e11_, (Or.inl ⟨h12_, z13_, e14_, r15_, hs19_, z22_, h23_, z24_, h26_, h25_, r27_, hs31_, z34_, h35_, z36_, h38_, h37_, r39_, hs43_, z44_, e45_, z46_, e47_, M49_, hI52_, hF53_, r48_, hs55_, z56_, z56_h, (Or.inl ⟨h57_, (Or.inl ⟨h58_, M59_, hI62_, hF63_, hs65_, rfl⟩)⟩)⟩)⟩)⟩
        · refine w_bipush (v := (-2)) dX10_letWalkerGo_136 (by decide) ?_
          refine w_goto (tgt := 143) dX10_letWalkerGo_138 (by decide) ?_
          refine w_callVv (as := [vI (-2)]) (rest := []) (c_X9_turn l G cy ad (d + 4) b j7_ (-2) M49_ hI52_ hb h9_) kV_X9_turn pnn_3 (Nat.le_of_ble_eq_true rfl) m_1063 rfl rfl rfl (ic_9 hb h9_) rfl rfl (by decide) (Nat.le_of_ble_eq_true rfl) dX10_letWalkerGo_143 (fun M66_ q67_ => ?_)
          obtain ⟨hI69_, hF70_, h68_, hs72_⟩ := q67_
          have hF71_ := hF54_.tr hF70_ (fun c k => (fun h => h.elim (fun h => (Or.inr (Or.inr (Or.inr (Or.inr (Or.inr (Or.inr (Or.inl ⟨h.1, h.2.1, h.2.2.2⟩)))))))) (fun h => h.elim)))
          exact w_vret rfl dX10_letWalkerGo_146 ⟨hI69_, hF71_, trivial, (Or.inl ⟨hs5_, h4_, j7_, h8_, h9_, z10_, e11_, (Or.inl ⟨h12_, z13_, e14_, r15_, hs19_, z22_, h23_, z24_, h26_, h25_, r27_, hs31_, z34_, h35_, z36_, h38_, h37_, r39_, hs43_, z44_, e45_, z46_, e47_, M49_, hI52_, hF53_, r48_, hs55_, z56_, z56_h, (Or.inl ⟨h57_, (Or.inr ⟨h58_, M66_, hI69_, hF70_, hs72_, rfl⟩)⟩)⟩)⟩)⟩
      · refine w_aload_n dX10_letWalkerGo_121 rfl 6 rfl ?_
        refine w_iload_n dX10_letWalkerGo_122 rfl 7 rfl ?_
        refine w_callVv (as := [vI v]) (rest := []) (c_X10_goOn l G cy ad (d + 2) b v M49_ hI52_ hb) kV_X10_goOn pnn_7 (Nat.le_of_ble_eq_true rfl) m_1057 rfl rfl rfl (ic_10 hb) rfl rfl (by decide) (Nat.le_of_ble_eq_true rfl) dX10_letWalkerGo_123 (fun M73_ q74_ => ?_)
        obtain ⟨hI76_, hF77_, h75_, hs79_⟩ := q74_
        have hF78_ := hF54_.tr hF77_ (fun c k => (fun h => h.elim (fun h => (Or.inr (Or.inr (Or.inr (Or.inr (Or.inr (Or.inr (Or.inr (Or.inl ⟨h.1, h.2⟩))))))))) (fun h => h.elim (fun h => (Or.inr (Or.inr (Or.inr (Or.inr (Or.inr (Or.inr (Or.inr (Or.inr (Or.inl ⟨h.1, h.2.1, h.2.2⟩)))))))))) (fun h => h.elim (fun h => (Or.inr (Or.inr (Or.inr (Or.inr (Or.inr (Or.inr (Or.inr (Or.inr (Or.inr (Or.inl ⟨h.1, h.2.1, h.2.2⟩))))))))))) (fun h => h.elim (fun h => (Or.inr (Or.inr (Or.inr (Or.inr (Or.inr (Or.inr (Or.inr (Or.inr (Or.inr (Or.inr (Or.inl ⟨h.1, h.2⟩)))))))))))) (fun h => h.elim))))))
        refine w_goto (tgt := 146) dX10_letWalkerGo_126 (by decide) ?_
        exact w_vret rfl dX10_letWalkerGo_146 ⟨hI76_, hF78_, trivial, (Or.inl ⟨hs5_, h4_, j7_, h8_, h9_, z10_, e11_, (Or.inl ⟨h12_, z13_, e14_, r15_, hs19_, z22_, h23_, z24_, h26_, h25_, r27_, hs31_, z34_, h35_, z36_, h38_, h37_, r39_, hs43_, z44_, e45_, z46_, e47_, M49_, hI52_, hF53_, r48_, hs55_, z56_, z56_h, (Or.inr ⟨h57_, M73_, hI76_, hF77_, hs79_, rfl⟩)⟩)⟩)⟩
    · refine w_aload_n dX10_letWalkerGo_25 rfl 2 rfl ?_
      refine w_getI fl_RX10_54 rfl rfl (ic_10 hb) dX10_letWalkerGo_26 (fun z80_ e81_ => ?_)
      refine w_iload_n dX10_letWalkerGo_29 rfl 0 rfl ?_
      refine w_irem dX10_letWalkerGo_30 (lf_c_X10_letWalkerGo_1 Mz b v j7_ z10_ z80_ hb h4_ h8_ h9_ e11_ h12_ e81_ ) (fun z82_ h83_ => ?_)
      refine w_if_ne (tgt := 48) dX10_letWalkerGo_31 (by decide) (rfl : z82_.toInt = z82_.toInt) (fun h84_ => ?_) (fun h84_ => ?_)
      · refine w_aload_n dX10_letWalkerGo_48 rfl 1 rfl ?_
        refine w_aload_n dX10_letWalkerGo_49 rfl 1 rfl ?_
        refine w_getI fl_RX10_119 rfl rfl (ic_9 hb h9_) dX10_letWalkerGo_50 (fun z85_ e86_ => ?_)
        refine w_callV (as := [vI z85_]) (rest := []) (c_X9_yardsToFull l G cy ad (d + 2) b j7_ z85_ Mz hIz hb h9_) kV_X9_yardsToFull pnn_3 (Nat.le_of_ble_eq_true rfl) m_1045 rfl rfl rfl (ic_9 hb h9_) rfl rfl (by decide) (Nat.le_of_ble_eq_true rfl) dX10_letWalkerGo_53 (fun r87_ M88_ q89_ => ?_)
        obtain ⟨rfl, h90_, hs91_⟩ := q89_
        refine w_istore (ls' := [(4, vI r87_), (3, vI z10_), (2, vR (9, b, j7_)), (0, vR (10, b, 0)), (1, vI v)]) dX10_letWalkerGo_56 (by decide) rfl ?_
        refine w_aload_n dX10_letWalkerGo_58 rfl 2 rfl ?_
        refine w_aload_n dX10_letWalkerGo_59 rfl 2 rfl ?_
        refine w_getI fl_RX10_119 rfl rfl (ic_9 hb h9_) dX10_letWalkerGo_60 (fun z92_ e93_ => ?_)
        obtain rfl : z85_ = z92_ := e86_.trans e93_.symm
        refine w_bipush (v := 6) dX10_letWalkerGo_63 (by decide) ?_
        refine w_iadd dX10_letWalkerGo_65 (fun z94_ h95_ => ?_)
        refine w_bipush (v := 7) dX10_letWalkerGo_66 (by decide) ?_
        refine w_iand dX10_letWalkerGo_68 (fun z96_ h98_ => ?_)
        have h97_ : 0 ≤ z96_.toInt ∧ z96_.toInt < ((2 ^ 3 : Nat) : Int) := by rw [h98_]; exact andI _ 3 (by decide) (by decide)
        refine w_callV (as := [vI z96_]) (rest := []) (c_X9_yardsToFull l G cy ad (d + 2) b j7_ z96_ Mz hIz hb h9_) kV_X9_yardsToFull pnn_3 (Nat.le_of_ble_eq_true rfl) m_1045 rfl rfl rfl (ic_9 hb h9_) rfl rfl (by decide) (Nat.le_of_ble_eq_true rfl) dX10_letWalkerGo_69 (fun r99_ M100_ q101_ => ?_)
        obtain ⟨rfl, h102_, hs103_⟩ := q101_
        refine w_istore (ls' := [(5, vI r99_), (4, vI r87_), (3, vI z10_), (2, vR (9, b, j7_)), (0, vR (10, b, 0)), (1, vI v)]) dX10_letWalkerGo_72 (by decide) rfl ?_
        refine w_aload_n dX10_letWalkerGo_74 rfl 3 rfl ?_
        refine w_aload_n dX10_letWalkerGo_75 rfl 3 rfl ?_
        refine w_getI fl_RX10_119 rfl rfl (ic_9 hb h9_) dX10_letWalkerGo_76 (fun z104_ e105_ => ?_)
        obtain rfl : z85_ = z104_ := e86_.trans e105_.symm
        refine w_iconst (v := 2) dX10_letWalkerGo_79 (by decide) ?_
        refine w_iadd dX10_letWalkerGo_80 (fun z106_ h107_ => ?_)
        refine w_bipush (v := 7) dX10_letWalkerGo_81 (by decide) ?_
        refine w_iand dX10_letWalkerGo_83 (fun z108_ h110_ => ?_)
        have h109_ : 0 ≤ z108_.toInt ∧ z108_.toInt < ((2 ^ 3 : Nat) : Int) := by rw [h110_]; exact andI _ 3 (by decide) (by decide)
        refine w_callV (as := [vI z108_]) (rest := []) (c_X9_yardsToFull l G cy ad (d + 2) b j7_ z108_ Mz hIz hb h9_) kV_X9_yardsToFull pnn_3 (Nat.le_of_ble_eq_true rfl) m_1045 rfl rfl rfl (ic_9 hb h9_) rfl rfl (by decide) (Nat.le_of_ble_eq_true rfl) dX10_letWalkerGo_84 (fun r111_ M112_ q113_ => ?_)
        obtain ⟨rfl, h114_, hs115_⟩ := q113_
        refine w_istore (ls' := [(6, vI r111_), (5, vI r99_), (4, vI r87_), (3, vI z10_), (2, vR (9, b, j7_)), (0, vR (10, b, 0)), (1, vI v)]) dX10_letWalkerGo_87 (by decide) rfl ?_
        refine w_aload_n dX10_letWalkerGo_89 rfl 5 rfl ?_
        refine w_getR (c' := (2, b, 0)) fl_RX10_19 rfl rfl (ic_10 hb) dX10_letWalkerGo_90 rfl ?_
        refine w_iload dX10_letWalkerGo_93 2 rfl ?_
        refine w_iload dX10_letWalkerGo_95 1 rfl ?_
        refine w_iload dX10_letWalkerGo_97 0 rfl ?_
        refine w_aload_n dX10_letWalkerGo_99 rfl 4 rfl ?_
        refine w_getI fl_RX10_66 rfl rfl (ic_9 hb h9_) dX10_letWalkerGo_100 (fun z116_ e117_ => ?_)
        refine w_aload_n dX10_letWalkerGo_103 rfl 5 rfl ?_
        refine w_getI fl_RX10_54 rfl rfl (ic_10 hb) dX10_letWalkerGo_104 (fun z118_ e119_ => ?_)
        obtain rfl : z80_ = z118_ := e81_.trans e119_.symm
        refine w_callV (as := [vI r87_, vI r99_, vI r111_, vI z116_, vI z80_]) (rest := []) (c_X2_habitValue l G cy ad (d + 3) b r87_ r99_ r111_ z116_ z80_ Mz hIz hb) kV_X2_habitValue pnn_5 (Nat.le_of_ble_eq_true rfl) m_1050 rfl rfl rfl (ic_2 hb) rfl rfl (by decide) (Nat.le_of_ble_eq_true rfl) dX10_letWalkerGo_107 (fun r120_ M121_ q122_ => ?_)
        obtain ⟨hI124_, hF125_, h123_, hs127_⟩ := q122_
        have hF126_ := hFz.tr hF125_ (fun c k => (fun h => h.elim (fun h => (Or.inl ⟨h.1, h.2.1, h.2.2⟩)) (fun h => h.elim (fun h => (Or.inr (Or.inl ⟨h.1, h.2.1, h.2.2⟩))) (fun h => h.elim (fun h => (Or.inr (Or.inr (Or.inl ⟨h.1, h.2.1, h.2.2⟩)))) (fun h => h.elim (fun h => (Or.inr (Or.inr (Or.inr (Or.inl ⟨h.1, h.2.1, h.2.2⟩))))) (fun h => h.elim (fun h => (Or.inr (Or.inr (Or.inr (Or.inr (Or.inl ⟨h.1, h.2.1, h.2.2⟩)))))) (fun h => h.elim (fun h => (Or.inr (Or.inr (Or.inr (Or.inr (Or.inr (Or.inl ⟨h.1, h.2.1, h.2.2⟩))))))) (fun h => h.elim))))))))
        refine w_iconst (v := 4) dX10_letWalkerGo_110 (by decide) ?_
        refine w_floorMod4 m_1054 m_1055 m_86 m_1056 (Nat.le_of_ble_eq_true rfl) (by omega) dX10_letWalkerGo_111 (fun z128_ z128_h => ?_)
        refine w_istore (ls' := [(7, vI z128_), (6, vI r111_), (5, vI r99_), (4, vI r87_), (3, vI z10_), (2, vR (9, b, j7_)), (0, vR (10, b, 0)), (1, vI v)]) dX10_letWalkerGo_114 (by decide) rfl ?_
        refine w_iload dX10_letWalkerGo_116 0 rfl ?_
        refine w_if_ne (tgt := 129) dX10_letWalkerGo_118 (by decide) (rfl : z128_.toInt = z128_.toInt) (fun h129_ => ?_) (fun h129_ => ?_)
        · refine w_aload_n dX10_letWalkerGo_129 rfl 5 rfl ?_
          refine w_iload dX10_letWalkerGo_130 0 rfl ?_
          refine w_iconst (v := 3) dX10_letWalkerGo_132 (by decide) ?_
          refine w_icmp_ne (tgt := 141) dX10_letWalkerGo_133 (by decide) (rfl : z128_.toInt = z128_.toInt) li_3 (fun h130_ => ?_) (fun h130_ => ?_)
          · refine w_iload dX10_letWalkerGo_141 0 rfl ?_
            refine w_callVv (as := [vI z128_]) (rest := []) (c_X9_turn l G cy ad (d + 4) b j7_ z128_ M121_ hI124_ hb h9_) kV_X9_turn pnn_3 (Nat.le_of_ble_eq_true rfl) m_1063 rfl rfl rfl (ic_9 hb h9_) rfl rfl (by decide) (Nat.le_of_ble_eq_true rfl) dX10_letWalkerGo_143 (fun M131_ q132_ => ?_)
            obtain ⟨hI134_, hF135_, h133_, hs137_⟩ := q132_
            have hF136_ := hF126_.tr hF135_ (fun c k => (fun h => h.elim (fun h => (Or.inr (Or.inr (Or.inr (Or.inr (Or.inr (Or.inr (Or.inl ⟨h.1, h.2.1, h.2.2.2⟩)))))))) (fun h => h.elim)))
            exact w_vret rfl dX10_letWalkerGo_146 ⟨hI134_, hF136_, trivial, (Or.inl ⟨hs5_, h4_, j7_, h8_, h9_, z10_, e11_, (Or.inr ⟨h12_, z80_, e81_, z82_, h83_, (Or.inl ⟨h84_, z85_, e86_, r87_, hs91_, z94_, h95_, z96_, h98_, h97_, r99_, hs103_, z106_, h107_, z108_, h110_, h109_, r111_, hs115_, z116_, e117_, M121_, hI124_, hF125_, r120_, hs127_, z128_, z128_h, (Or.inl ⟨h129_, (Or.inl ⟨h130_, M131_, hI134_, hF135_, hs137_, rfl⟩)⟩)⟩)⟩)⟩)⟩
          · refine w_bipush (v := (-2)) dX10_letWalkerGo_136 (by decide) ?_
            refine w_goto (tgt := 143) dX10_letWalkerGo_138 (by decide) ?_
            refine w_callVv (as := [vI (-2)]) (rest := []) (c_X9_turn l G cy ad (d + 4) b j7_ (-2) M121_ hI124_ hb h9_) kV_X9_turn pnn_3 (Nat.le_of_ble_eq_true rfl) m_1063 rfl rfl rfl (ic_9 hb h9_) rfl rfl (by decide) (Nat.le_of_ble_eq_true rfl) dX10_letWalkerGo_143 (fun M138_ q139_ => ?_)
            obtain ⟨hI141_, hF142_, h140_, hs144_⟩ := q139_
            have hF143_ := hF126_.tr hF142_ (fun c k => (fun h => h.elim (fun h => (Or.inr (Or.inr (Or.inr (Or.inr (Or.inr (Or.inr (Or.inl ⟨h.1, h.2.1, h.2.2.2⟩)))))))) (fun h => h.elim)))
            exact w_vret rfl dX10_letWalkerGo_146 ⟨hI141_, hF143_, trivial, (Or.inl ⟨hs5_, h4_, j7_, h8_, h9_, z10_, e11_, (Or.inr ⟨h12_, z80_, e81_, z82_, h83_, (Or.inl ⟨h84_, z85_, e86_, r87_, hs91_, z94_, h95_, z96_, h98_, h97_, r99_, hs103_, z106_, h107_, z108_, h110_, h109_, r111_, hs115_, z116_, e117_, M121_, hI124_, hF125_, r120_, hs127_, z128_, z128_h, (Or.inl ⟨h129_, (Or.inr ⟨h130_, M138_, hI141_, hF142_, hs144_, rfl⟩)⟩)⟩)⟩)⟩)⟩
        · refine w_aload_n dX10_letWalkerGo_121 rfl 6 rfl ?_
          refine w_iload_n dX10_letWalkerGo_122 rfl 7 rfl ?_
          refine w_callVv (as := [vI v]) (rest := []) (c_X10_goOn l G cy ad (d + 2) b v M121_ hI124_ hb) kV_X10_goOn pnn_7 (Nat.le_of_ble_eq_true rfl) m_1057 rfl rfl rfl (ic_10 hb) rfl rfl (by decide) (Nat.le_of_ble_eq_true rfl) dX10_letWalkerGo_123 (fun M145_ q146_ => ?_)
          obtain ⟨hI148_, hF149_, h147_, hs151_⟩ := q146_
          have hF150_ := hF126_.tr hF149_ (fun c k => (fun h => h.elim (fun h => (Or.inr (Or.inr (Or.inr (Or.inr (Or.inr (Or.inr (Or.inr (Or.inl ⟨h.1, h.2⟩))))))))) (fun h => h.elim (fun h => (Or.inr (Or.inr (Or.inr (Or.inr (Or.inr (Or.inr (Or.inr (Or.inr (Or.inl ⟨h.1, h.2.1, h.2.2⟩)))))))))) (fun h => h.elim (fun h => (Or.inr (Or.inr (Or.inr (Or.inr (Or.inr (Or.inr (Or.inr (Or.inr (Or.inr (Or.inl ⟨h.1, h.2.1, h.2.2⟩))))))))))) (fun h => h.elim (fun h => (Or.inr (Or.inr (Or.inr (Or.inr (Or.inr (Or.inr (Or.inr (Or.inr (Or.inr (Or.inr (Or.inl ⟨h.1, h.2⟩)))))))))))) (fun h => h.elim))))))
          refine w_goto (tgt := 146) dX10_letWalkerGo_126 (by decide) ?_
          exact w_vret rfl dX10_letWalkerGo_146 ⟨hI148_, hF150_, trivial, (Or.inl ⟨hs5_, h4_, j7_, h8_, h9_, z10_, e11_, (Or.inr ⟨h12_, z80_, e81_, z82_, h83_, (Or.inl ⟨h84_, z85_, e86_, r87_, hs91_, z94_, h95_, z96_, h98_, h97_, r99_, hs103_, z106_, h107_, z108_, h110_, h109_, r111_, hs115_, z116_, e117_, M121_, hI124_, hF125_, r120_, hs127_, z128_, z128_h, (Or.inr ⟨h129_, M145_, hI148_, hF149_, hs151_, rfl⟩)⟩)⟩)⟩)⟩
      · refine w_aload_n dX10_letWalkerGo_34 rfl 1 rfl ?_
        refine w_iconst (v := 1) dX10_letWalkerGo_35 (by decide) ?_
        refine w_callV (as := [vI 1]) (rest := []) (c_X9_isOf l G cy ad (d + 3) b j7_ 1 Mz hIz hb h9_) kV_X9_isOf pnn_3 (Nat.le_of_ble_eq_true rfl) m_1043 rfl rfl rfl (ic_9 hb h9_) rfl rfl (by decide) (Nat.le_of_ble_eq_true rfl) dX10_letWalkerGo_36 (fun r152_ M153_ q154_ => ?_)
        obtain ⟨rfl, h155_, hs156_⟩ := q154_
        refine w_if_eq (tgt := 48) dX10_letWalkerGo_39 (by decide) (rfl : r152_.toInt = r152_.toInt) (fun h157_ => ?_) (fun h157_ => ?_)
        · refine w_aload_n dX10_letWalkerGo_48 rfl 1 rfl ?_
          refine w_aload_n dX10_letWalkerGo_49 rfl 1 rfl ?_
          refine w_getI fl_RX10_119 rfl rfl (ic_9 hb h9_) dX10_letWalkerGo_50 (fun z158_ e159_ => ?_)
          refine w_callV (as := [vI z158_]) (rest := []) (c_X9_yardsToFull l G cy ad (d + 2) b j7_ z158_ Mz hIz hb h9_) kV_X9_yardsToFull pnn_3 (Nat.le_of_ble_eq_true rfl) m_1045 rfl rfl rfl (ic_9 hb h9_) rfl rfl (by decide) (Nat.le_of_ble_eq_true rfl) dX10_letWalkerGo_53 (fun r160_ M161_ q162_ => ?_)
          obtain ⟨rfl, h163_, hs164_⟩ := q162_
          refine w_istore (ls' := [(4, vI r160_), (3, vI z10_), (2, vR (9, b, j7_)), (0, vR (10, b, 0)), (1, vI v)]) dX10_letWalkerGo_56 (by decide) rfl ?_
          refine w_aload_n dX10_letWalkerGo_58 rfl 2 rfl ?_
          refine w_aload_n dX10_letWalkerGo_59 rfl 2 rfl ?_
          refine w_getI fl_RX10_119 rfl rfl (ic_9 hb h9_) dX10_letWalkerGo_60 (fun z165_ e166_ => ?_)
          obtain rfl : z158_ = z165_ := e159_.trans e166_.symm
          refine w_bipush (v := 6) dX10_letWalkerGo_63 (by decide) ?_
          refine w_iadd dX10_letWalkerGo_65 (fun z167_ h168_ => ?_)
          refine w_bipush (v := 7) dX10_letWalkerGo_66 (by decide) ?_
          refine w_iand dX10_letWalkerGo_68 (fun z169_ h171_ => ?_)
          have h170_ : 0 ≤ z169_.toInt ∧ z169_.toInt < ((2 ^ 3 : Nat) : Int) := by rw [h171_]; exact andI _ 3 (by decide) (by decide)
          refine w_callV (as := [vI z169_]) (rest := []) (c_X9_yardsToFull l G cy ad (d + 2) b j7_ z169_ Mz hIz hb h9_) kV_X9_yardsToFull pnn_3 (Nat.le_of_ble_eq_true rfl) m_1045 rfl rfl rfl (ic_9 hb h9_) rfl rfl (by decide) (Nat.le_of_ble_eq_true rfl) dX10_letWalkerGo_69 (fun r172_ M173_ q174_ => ?_)
          obtain ⟨rfl, h175_, hs176_⟩ := q174_
          refine w_istore (ls' := [(5, vI r172_), (4, vI r160_), (3, vI z10_), (2, vR (9, b, j7_)), (0, vR (10, b, 0)), (1, vI v)]) dX10_letWalkerGo_72 (by decide) rfl ?_
          refine w_aload_n dX10_letWalkerGo_74 rfl 3 rfl ?_
          refine w_aload_n dX10_letWalkerGo_75 rfl 3 rfl ?_
          refine w_getI fl_RX10_119 rfl rfl (ic_9 hb h9_) dX10_letWalkerGo_76 (fun z177_ e178_ => ?_)
          obtain rfl : z158_ = z177_ := e159_.trans e178_.symm
          refine w_iconst (v := 2) dX10_letWalkerGo_79 (by decide) ?_
          refine w_iadd dX10_letWalkerGo_80 (fun z179_ h180_ => ?_)
          refine w_bipush (v := 7) dX10_letWalkerGo_81 (by decide) ?_
          refine w_iand dX10_letWalkerGo_83 (fun z181_ h183_ => ?_)
          have h182_ : 0 ≤ z181_.toInt ∧ z181_.toInt < ((2 ^ 3 : Nat) : Int) := by rw [h183_]; exact andI _ 3 (by decide) (by decide)
          refine w_callV (as := [vI z181_]) (rest := []) (c_X9_yardsToFull l G cy ad (d + 2) b j7_ z181_ Mz hIz hb h9_) kV_X9_yardsToFull pnn_3 (Nat.le_of_ble_eq_true rfl) m_1045 rfl rfl rfl (ic_9 hb h9_) rfl rfl (by decide) (Nat.le_of_ble_eq_true rfl) dX10_letWalkerGo_84 (fun r184_ M185_ q186_ => ?_)
          obtain ⟨rfl, h187_, hs188_⟩ := q186_
          refine w_istore (ls' := [(6, vI r184_), (5, vI r172_), (4, vI r160_), (3, vI z10_), (2, vR (9, b, j7_)), (0, vR (10, b, 0)), (1, vI v)]) dX10_letWalkerGo_87 (by decide) rfl ?_
          refine w_aload_n dX10_letWalkerGo_89 rfl 5 rfl ?_
          refine w_getR (c' := (2, b, 0)) fl_RX10_19 rfl rfl (ic_10 hb) dX10_letWalkerGo_90 rfl ?_
          refine w_iload dX10_letWalkerGo_93 2 rfl ?_
          refine w_iload dX10_letWalkerGo_95 1 rfl ?_
          refine w_iload dX10_letWalkerGo_97 0 rfl ?_
          refine w_aload_n dX10_letWalkerGo_99 rfl 4 rfl ?_
          refine w_getI fl_RX10_66 rfl rfl (ic_9 hb h9_) dX10_letWalkerGo_100 (fun z189_ e190_ => ?_)
          refine w_aload_n dX10_letWalkerGo_103 rfl 5 rfl ?_
          refine w_getI fl_RX10_54 rfl rfl (ic_10 hb) dX10_letWalkerGo_104 (fun z191_ e192_ => ?_)
          obtain rfl : z80_ = z191_ := e81_.trans e192_.symm
          refine w_callV (as := [vI r160_, vI r172_, vI r184_, vI z189_, vI z80_]) (rest := []) (c_X2_habitValue l G cy ad (d + 3) b r160_ r172_ r184_ z189_ z80_ Mz hIz hb) kV_X2_habitValue pnn_5 (Nat.le_of_ble_eq_true rfl) m_1050 rfl rfl rfl (ic_2 hb) rfl rfl (by decide) (Nat.le_of_ble_eq_true rfl) dX10_letWalkerGo_107 (fun r193_ M194_ q195_ => ?_)
          obtain ⟨hI197_, hF198_, h196_, hs200_⟩ := q195_
          have hF199_ := hFz.tr hF198_ (fun c k => (fun h => h.elim (fun h => (Or.inl ⟨h.1, h.2.1, h.2.2⟩)) (fun h => h.elim (fun h => (Or.inr (Or.inl ⟨h.1, h.2.1, h.2.2⟩))) (fun h => h.elim (fun h => (Or.inr (Or.inr (Or.inl ⟨h.1, h.2.1, h.2.2⟩)))) (fun h => h.elim (fun h => (Or.inr (Or.inr (Or.inr (Or.inl ⟨h.1, h.2.1, h.2.2⟩))))) (fun h => h.elim (fun h => (Or.inr (Or.inr (Or.inr (Or.inr (Or.inl ⟨h.1, h.2.1, h.2.2⟩)))))) (fun h => h.elim (fun h => (Or.inr (Or.inr (Or.inr (Or.inr (Or.inr (Or.inl ⟨h.1, h.2.1, h.2.2⟩))))))) (fun h => h.elim))))))))
          refine w_iconst (v := 4) dX10_letWalkerGo_110 (by decide) ?_
          refine w_floorMod4 m_1054 m_1055 m_86 m_1056 (Nat.le_of_ble_eq_true rfl) (by omega) dX10_letWalkerGo_111 (fun z201_ z201_h => ?_)
          refine w_istore (ls' := [(7, vI z201_), (6, vI r184_), (5, vI r172_), (4, vI r160_), (3, vI z10_), (2, vR (9, b, j7_)), (0, vR (10, b, 0)), (1, vI v)]) dX10_letWalkerGo_114 (by decide) rfl ?_
          refine w_iload dX10_letWalkerGo_116 0 rfl ?_
          refine w_if_ne (tgt := 129) dX10_letWalkerGo_118 (by decide) (rfl : z201_.toInt = z201_.toInt) (fun h202_ => ?_) (fun h202_ => ?_)
          · refine w_aload_n dX10_letWalkerGo_129 rfl 5 rfl ?_
            refine w_iload dX10_letWalkerGo_130 0 rfl ?_
            refine w_iconst (v := 3) dX10_letWalkerGo_132 (by decide) ?_
            refine w_icmp_ne (tgt := 141) dX10_letWalkerGo_133 (by decide) (rfl : z201_.toInt = z201_.toInt) li_3 (fun h203_ => ?_) (fun h203_ => ?_)
            · refine w_iload dX10_letWalkerGo_141 0 rfl ?_
              refine w_callVv (as := [vI z201_]) (rest := []) (c_X9_turn l G cy ad (d + 4) b j7_ z201_ M194_ hI197_ hb h9_) kV_X9_turn pnn_3 (Nat.le_of_ble_eq_true rfl) m_1063 rfl rfl rfl (ic_9 hb h9_) rfl rfl (by decide) (Nat.le_of_ble_eq_true rfl) dX10_letWalkerGo_143 (fun M204_ q205_ => ?_)
              obtain ⟨hI207_, hF208_, h206_, hs210_⟩ := q205_
              have hF209_ := hF199_.tr hF208_ (fun c k => (fun h => h.elim (fun h => (Or.inr (Or.inr (Or.inr (Or.inr (Or.inr (Or.inr (Or.inl ⟨h.1, h.2.1, h.2.2.2⟩)))))))) (fun h => h.elim)))
              exact w_vret rfl dX10_letWalkerGo_146 ⟨hI207_, hF209_, trivial, (Or.inl ⟨hs5_, h4_, j7_, h8_, h9_, z10_, e11_, (Or.inr ⟨h12_, z80_, e81_, z82_, h83_, (Or.inr ⟨h84_, r152_, hs156_, h155_, (Or.inl ⟨h157_, z158_, e159_, r160_, hs164_, z167_, h168_, z169_, h171_, h170_, r172_, hs176_, z179_, h180_, z181_, h183_, h182_, r184_, hs188_, z189_, e190_, M194_, hI197_, hF198_, r193_, hs200_, z201_, z201_h, (Or.inl ⟨h202_, (Or.inl ⟨h203_, M204_, hI207_, hF208_, hs210_, rfl⟩)⟩)⟩)⟩)⟩)⟩)⟩
            · refine w_bipush (v := (-2)) dX10_letWalkerGo_136 (by decide) ?_
              refine w_goto (tgt := 143) dX10_letWalkerGo_138 (by decide) ?_
              refine w_callVv (as := [vI (-2)]) (rest := []) (c_X9_turn l G cy ad (d + 4) b j7_ (-2) M194_ hI197_ hb h9_) kV_X9_turn pnn_3 (Nat.le_of_ble_eq_true rfl) m_1063 rfl rfl rfl (ic_9 hb h9_) rfl rfl (by decide) (Nat.le_of_ble_eq_true rfl) dX10_letWalkerGo_143 (fun M211_ q212_ => ?_)
              obtain ⟨hI214_, hF215_, h213_, hs217_⟩ := q212_
              have hF216_ := hF199_.tr hF215_ (fun c k => (fun h => h.elim (fun h => (Or.inr (Or.inr (Or.inr (Or.inr (Or.inr (Or.inr (Or.inl ⟨h.1, h.2.1, h.2.2.2⟩)))))))) (fun h => h.elim)))
              exact w_vret rfl dX10_letWalkerGo_146 ⟨hI214_, hF216_, trivial, (Or.inl ⟨hs5_, h4_, j7_, h8_, h9_, z10_, e11_, (Or.inr ⟨h12_, z80_, e81_, z82_, h83_, (Or.inr ⟨h84_, r152_, hs156_, h155_, (Or.inl ⟨h157_, z158_, e159_, r160_, hs164_, z167_, h168_, z169_, h171_, h170_, r172_, hs176_, z179_, h180_, z181_, h183_, h182_, r184_, hs188_, z189_, e190_, M194_, hI197_, hF198_, r193_, hs200_, z201_, z201_h, (Or.inl ⟨h202_, (Or.inr ⟨h203_, M211_, hI214_, hF215_, hs217_, rfl⟩)⟩)⟩)⟩)⟩)⟩)⟩
          · refine w_aload_n dX10_letWalkerGo_121 rfl 6 rfl ?_
            refine w_iload_n dX10_letWalkerGo_122 rfl 7 rfl ?_
            refine w_callVv (as := [vI v]) (rest := []) (c_X10_goOn l G cy ad (d + 2) b v M194_ hI197_ hb) kV_X10_goOn pnn_7 (Nat.le_of_ble_eq_true rfl) m_1057 rfl rfl rfl (ic_10 hb) rfl rfl (by decide) (Nat.le_of_ble_eq_true rfl) dX10_letWalkerGo_123 (fun M218_ q219_ => ?_)
            obtain ⟨hI221_, hF222_, h220_, hs224_⟩ := q219_
            have hF223_ := hF199_.tr hF222_ (fun c k => (fun h => h.elim (fun h => (Or.inr (Or.inr (Or.inr (Or.inr (Or.inr (Or.inr (Or.inr (Or.inl ⟨h.1, h.2⟩))))))))) (fun h => h.elim (fun h => (Or.inr (Or.inr (Or.inr (Or.inr (Or.inr (Or.inr (Or.inr (Or.inr (Or.inl ⟨h.1, h.2.1, h.2.2⟩)))))))))) (fun h => h.elim (fun h => (Or.inr (Or.inr (Or.inr (Or.inr (Or.inr (Or.inr (Or.inr (Or.inr (Or.inr (Or.inl ⟨h.1, h.2.1, h.2.2⟩))))))))))) (fun h => h.elim (fun h => (Or.inr (Or.inr (Or.inr (Or.inr (Or.inr (Or.inr (Or.inr (Or.inr (Or.inr (Or.inr (Or.inl ⟨h.1, h.2⟩)))))))))))) (fun h => h.elim))))))
            refine w_goto (tgt := 146) dX10_letWalkerGo_126 (by decide) ?_
            exact w_vret rfl dX10_letWalkerGo_146 ⟨hI221_, hF223_, trivial, (Or.inl ⟨hs5_, h4_, j7_, h8_, h9_, z10_, e11_, (Or.inr ⟨h12_, z80_, e81_, z82_, h83_, (Or.inr ⟨h84_, r152_, hs156_, h155_, (Or.inl ⟨h157_, z158_, e159_, r160_, hs164_, z167_, h168_, z169_, h171_, h170_, r172_, hs176_, z179_, h180_, z181_, h183_, h182_, r184_, hs188_, z189_, e190_, M194_, hI197_, hF198_, r193_, hs200_, z201_, z201_h, (Or.inr ⟨h202_, M218_, hI221_, hF222_, hs224_, rfl⟩)⟩)⟩)⟩)⟩)⟩
        · refine w_aload_n dX10_letWalkerGo_42 rfl 2 rfl ?_
          refine w_iload_n dX10_letWalkerGo_43 rfl 3 rfl ?_
          refine w_callV (as := [vI v]) (rest := []) (c_X10_makeClick l G cy ad d b v Mz hIz hb) kV_X10_makeClick pnn_7 (Nat.le_of_ble_eq_true rfl) m_1044 rfl rfl rfl (ic_10 hb) rfl rfl (by decide) (Nat.le_of_ble_eq_true rfl) dX10_letWalkerGo_44 (fun r225_ M226_ q227_ => ?_)
          obtain ⟨hI229_, hF230_, h228_, hs232_⟩ := q227_
          have hF231_ := hFz.tr hF230_ (fun c k => (fun h => h.elim (fun h => (Or.inr (Or.inr (Or.inr (Or.inr (Or.inr (Or.inr (Or.inr (Or.inr (Or.inr (Or.inr (Or.inr (Or.inl ⟨h.1, h.2.1, h.2.2⟩))))))))))))) (fun h => h.elim (fun h => (Or.inl ⟨h.1, h.2.1, h.2.2⟩)) (fun h => h.elim (fun h => (Or.inr (Or.inl ⟨h.1, h.2.1, h.2.2⟩))) (fun h => h.elim (fun h => (Or.inr (Or.inr (Or.inl ⟨h.1, h.2.1, h.2.2⟩)))) (fun h => h.elim (fun h => (Or.inr (Or.inr (Or.inr (Or.inl ⟨h.1, h.2.1, h.2.2⟩))))) (fun h => h.elim (fun h => (Or.inr (Or.inr (Or.inr (Or.inr (Or.inr (Or.inr (Or.inr (Or.inr (Or.inr (Or.inr (Or.inr (Or.inr (Or.inl ⟨h.1, h.2.1, h.2.2⟩)))))))))))))) (fun h => h.elim (fun h => (Or.inr (Or.inr (Or.inr (Or.inr (Or.inr (Or.inr (Or.inr (Or.inr (Or.inr (Or.inr (Or.inr (Or.inr (Or.inr (Or.inl ⟨h.1, h.2.1, h.2.2⟩))))))))))))))) (fun h => h.elim (fun h => (Or.inr (Or.inr (Or.inr (Or.inr (Or.inr (Or.inr (Or.inr (Or.inr (Or.inr (Or.inr (Or.inl ⟨h.1, h.2⟩)))))))))))) (fun h => h.elim (fun h => (Or.inr (Or.inr (Or.inr (Or.inr (Or.inr (Or.inr (Or.inr (Or.inr (Or.inr (Or.inr (Or.inr (Or.inr (Or.inr (Or.inr (Or.inl ⟨h.1, h.2⟩)))))))))))))))) (fun h => h.elim)))))))))))
          refine w_pop dX10_letWalkerGo_47 rfl ?_
          refine w_aload_n dX10_letWalkerGo_48 rfl 1 rfl ?_
          refine w_aload_n dX10_letWalkerGo_49 rfl 1 rfl ?_
          refine w_getI fl_RX10_119 rfl rfl (ic_9 hb h9_) dX10_letWalkerGo_50 (fun z233_ e234_ => ?_)
          refine w_callV (as := [vI z233_]) (rest := []) (c_X9_yardsToFull l G cy ad (d + 2) b j7_ z233_ M226_ hI229_ hb h9_) kV_X9_yardsToFull pnn_3 (Nat.le_of_ble_eq_true rfl) m_1045 rfl rfl rfl (ic_9 hb h9_) rfl rfl (by decide) (Nat.le_of_ble_eq_true rfl) dX10_letWalkerGo_53 (fun r235_ M236_ q237_ => ?_)
          obtain ⟨rfl, h238_, hs239_⟩ := q237_
          refine w_istore (ls' := [(4, vI r235_), (3, vI z10_), (2, vR (9, b, j7_)), (0, vR (10, b, 0)), (1, vI v)]) dX10_letWalkerGo_56 (by decide) rfl ?_
          refine w_aload_n dX10_letWalkerGo_58 rfl 2 rfl ?_
          refine w_aload_n dX10_letWalkerGo_59 rfl 2 rfl ?_
          refine w_getI fl_RX10_119 rfl rfl (ic_9 hb h9_) dX10_letWalkerGo_60 (fun z240_ e241_ => ?_)
          obtain rfl : z233_ = z240_ := e234_.trans e241_.symm
          refine w_bipush (v := 6) dX10_letWalkerGo_63 (by decide) ?_
          refine w_iadd dX10_letWalkerGo_65 (fun z242_ h243_ => ?_)
          refine w_bipush (v := 7) dX10_letWalkerGo_66 (by decide) ?_
          refine w_iand dX10_letWalkerGo_68 (fun z244_ h246_ => ?_)
          have h245_ : 0 ≤ z244_.toInt ∧ z244_.toInt < ((2 ^ 3 : Nat) : Int) := by rw [h246_]; exact andI _ 3 (by decide) (by decide)
          refine w_callV (as := [vI z244_]) (rest := []) (c_X9_yardsToFull l G cy ad (d + 2) b j7_ z244_ M226_ hI229_ hb h9_) kV_X9_yardsToFull pnn_3 (Nat.le_of_ble_eq_true rfl) m_1045 rfl rfl rfl (ic_9 hb h9_) rfl rfl (by decide) (Nat.le_of_ble_eq_true rfl) dX10_letWalkerGo_69 (fun r247_ M248_ q249_ => ?_)
          obtain ⟨rfl, h250_, hs251_⟩ := q249_
          refine w_istore (ls' := [(5, vI r247_), (4, vI r235_), (3, vI z10_), (2, vR (9, b, j7_)), (0, vR (10, b, 0)), (1, vI v)]) dX10_letWalkerGo_72 (by decide) rfl ?_
          refine w_aload_n dX10_letWalkerGo_74 rfl 3 rfl ?_
          refine w_aload_n dX10_letWalkerGo_75 rfl 3 rfl ?_
          refine w_getI fl_RX10_119 rfl rfl (ic_9 hb h9_) dX10_letWalkerGo_76 (fun z252_ e253_ => ?_)
          obtain rfl : z233_ = z252_ := e234_.trans e253_.symm
          refine w_iconst (v := 2) dX10_letWalkerGo_79 (by decide) ?_
          refine w_iadd dX10_letWalkerGo_80 (fun z254_ h255_ => ?_)
          refine w_bipush (v := 7) dX10_letWalkerGo_81 (by decide) ?_
          refine w_iand dX10_letWalkerGo_83 (fun z256_ h258_ => ?_)
          have h257_ : 0 ≤ z256_.toInt ∧ z256_.toInt < ((2 ^ 3 : Nat) : Int) := by rw [h258_]; exact andI _ 3 (by decide) (by decide)
          refine w_callV (as := [vI z256_]) (rest := []) (c_X9_yardsToFull l G cy ad (d + 2) b j7_ z256_ M226_ hI229_ hb h9_) kV_X9_yardsToFull pnn_3 (Nat.le_of_ble_eq_true rfl) m_1045 rfl rfl rfl (ic_9 hb h9_) rfl rfl (by decide) (Nat.le_of_ble_eq_true rfl) dX10_letWalkerGo_84 (fun r259_ M260_ q261_ => ?_)
          obtain ⟨rfl, h262_, hs263_⟩ := q261_
          refine w_istore (ls' := [(6, vI r259_), (5, vI r247_), (4, vI r235_), (3, vI z10_), (2, vR (9, b, j7_)), (0, vR (10, b, 0)), (1, vI v)]) dX10_letWalkerGo_87 (by decide) rfl ?_
          refine w_aload_n dX10_letWalkerGo_89 rfl 5 rfl ?_
          refine w_getR (c' := (2, b, 0)) fl_RX10_19 rfl rfl (ic_10 hb) dX10_letWalkerGo_90 rfl ?_
          refine w_iload dX10_letWalkerGo_93 2 rfl ?_
          refine w_iload dX10_letWalkerGo_95 1 rfl ?_
          refine w_iload dX10_letWalkerGo_97 0 rfl ?_
          refine w_aload_n dX10_letWalkerGo_99 rfl 4 rfl ?_
          refine w_getI fl_RX10_66 rfl rfl (ic_9 hb h9_) dX10_letWalkerGo_100 (fun z264_ e265_ => ?_)
          refine w_aload_n dX10_letWalkerGo_103 rfl 5 rfl ?_
          refine w_getI fl_RX10_54 rfl rfl (ic_10 hb) dX10_letWalkerGo_104 (fun z266_ e267_ => ?_)
          refine w_callV (as := [vI r235_, vI r247_, vI r259_, vI z264_, vI z266_]) (rest := []) (c_X2_habitValue l G cy ad (d + 3) b r235_ r247_ r259_ z264_ z266_ M226_ hI229_ hb) kV_X2_habitValue pnn_5 (Nat.le_of_ble_eq_true rfl) m_1050 rfl rfl rfl (ic_2 hb) rfl rfl (by decide) (Nat.le_of_ble_eq_true rfl) dX10_letWalkerGo_107 (fun r268_ M269_ q270_ => ?_)
          obtain ⟨hI272_, hF273_, h271_, hs275_⟩ := q270_
          have hF274_ := hF231_.tr hF273_ (fun c k => (fun h => h.elim (fun h => (Or.inl ⟨h.1, h.2.1, h.2.2⟩)) (fun h => h.elim (fun h => (Or.inr (Or.inl ⟨h.1, h.2.1, h.2.2⟩))) (fun h => h.elim (fun h => (Or.inr (Or.inr (Or.inl ⟨h.1, h.2.1, h.2.2⟩)))) (fun h => h.elim (fun h => (Or.inr (Or.inr (Or.inr (Or.inl ⟨h.1, h.2.1, h.2.2⟩))))) (fun h => h.elim (fun h => (Or.inr (Or.inr (Or.inr (Or.inr (Or.inl ⟨h.1, h.2.1, h.2.2⟩)))))) (fun h => h.elim (fun h => (Or.inr (Or.inr (Or.inr (Or.inr (Or.inr (Or.inl ⟨h.1, h.2.1, h.2.2⟩))))))) (fun h => h.elim))))))))
          refine w_iconst (v := 4) dX10_letWalkerGo_110 (by decide) ?_
          refine w_floorMod4 m_1054 m_1055 m_86 m_1056 (Nat.le_of_ble_eq_true rfl) (by omega) dX10_letWalkerGo_111 (fun z276_ z276_h => ?_)
          refine w_istore (ls' := [(7, vI z276_), (6, vI r259_), (5, vI r247_), (4, vI r235_), (3, vI z10_), (2, vR (9, b, j7_)), (0, vR (10, b, 0)), (1, vI v)]) dX10_letWalkerGo_114 (by decide) rfl ?_
          refine w_iload dX10_letWalkerGo_116 0 rfl ?_
          refine w_if_ne (tgt := 129) dX10_letWalkerGo_118 (by decide) (rfl : z276_.toInt = z276_.toInt) (fun h277_ => ?_) (fun h277_ => ?_)
          · refine w_aload_n dX10_letWalkerGo_129 rfl 5 rfl ?_
            refine w_iload dX10_letWalkerGo_130 0 rfl ?_
            refine w_iconst (v := 3) dX10_letWalkerGo_132 (by decide) ?_
            refine w_icmp_ne (tgt := 141) dX10_letWalkerGo_133 (by decide) (rfl : z276_.toInt = z276_.toInt) li_3 (fun h278_ => ?_) (fun h278_ => ?_)
            · refine w_iload dX10_letWalkerGo_141 0 rfl ?_
              refine w_callVv (as := [vI z276_]) (rest := []) (c_X9_turn l G cy ad (d + 4) b j7_ z276_ M269_ hI272_ hb h9_) kV_X9_turn pnn_3 (Nat.le_of_ble_eq_true rfl) m_1063 rfl rfl rfl (ic_9 hb h9_) rfl rfl (by decide) (Nat.le_of_ble_eq_true rfl) dX10_letWalkerGo_143 (fun M279_ q280_ => ?_)
              obtain ⟨hI282_, hF283_, h281_, hs285_⟩ := q280_
              have hF284_ := hF274_.tr hF283_ (fun c k => (fun h => h.elim (fun h => (Or.inr (Or.inr (Or.inr (Or.inr (Or.inr (Or.inr (Or.inl ⟨h.1, h.2.1, h.2.2.2⟩)))))))) (fun h => h.elim)))
              exact w_vret rfl dX10_letWalkerGo_146 ⟨hI282_, hF284_, trivial, (Or.inl ⟨hs5_, h4_, j7_, h8_, h9_, z10_, e11_, (Or.inr ⟨h12_, z80_, e81_, z82_, h83_, (Or.inr ⟨h84_, r152_, hs156_, h155_, (Or.inr ⟨h157_, M226_, hI229_, hF230_, r225_, hs232_, z233_, e234_, r235_, hs239_, z242_, h243_, z244_, h246_, h245_, r247_, hs251_, z254_, h255_, z256_, h258_, h257_, r259_, hs263_, z264_, e265_, z266_, e267_, M269_, hI272_, hF273_, r268_, hs275_, z276_, z276_h, (Or.inl ⟨h277_, (Or.inl ⟨h278_, M279_, hI282_, hF283_, hs285_, rfl⟩)⟩)⟩)⟩)⟩)⟩)⟩
            · refine w_bipush (v := (-2)) dX10_letWalkerGo_136 (by decide) ?_
              refine w_goto (tgt := 143) dX10_letWalkerGo_138 (by decide) ?_
              refine w_callVv (as := [vI (-2)]) (rest := []) (c_X9_turn l G cy ad (d + 4) b j7_ (-2) M269_ hI272_ hb h9_) kV_X9_turn pnn_3 (Nat.le_of_ble_eq_true rfl) m_1063 rfl rfl rfl (ic_9 hb h9_) rfl rfl (by decide) (Nat.le_of_ble_eq_true rfl) dX10_letWalkerGo_143 (fun M286_ q287_ => ?_)
              obtain ⟨hI289_, hF290_, h288_, hs292_⟩ := q287_
              have hF291_ := hF274_.tr hF290_ (fun c k => (fun h => h.elim (fun h => (Or.inr (Or.inr (Or.inr (Or.inr (Or.inr (Or.inr (Or.inl ⟨h.1, h.2.1, h.2.2.2⟩)))))))) (fun h => h.elim)))
              exact w_vret rfl dX10_letWalkerGo_146 ⟨hI289_, hF291_, trivial, (Or.inl ⟨hs5_, h4_, j7_, h8_, h9_, z10_, e11_, (Or.inr ⟨h12_, z80_, e81_, z82_, h83_, (Or.inr ⟨h84_, r152_, hs156_, h155_, (Or.inr ⟨h157_, M226_, hI229_, hF230_, r225_, hs232_, z233_, e234_, r235_, hs239_, z242_, h243_, z244_, h246_, h245_, r247_, hs251_, z254_, h255_, z256_, h258_, h257_, r259_, hs263_, z264_, e265_, z266_, e267_, M269_, hI272_, hF273_, r268_, hs275_, z276_, z276_h, (Or.inl ⟨h277_, (Or.inr ⟨h278_, M286_, hI289_, hF290_, hs292_, rfl⟩)⟩)⟩)⟩)⟩)⟩)⟩
          · refine w_aload_n dX10_letWalkerGo_121 rfl 6 rfl ?_
            refine w_iload_n dX10_letWalkerGo_122 rfl 7 rfl ?_
            refine w_callVv (as := [vI v]) (rest := []) (c_X10_goOn l G cy ad (d + 2) b v M269_ hI272_ hb) kV_X10_goOn pnn_7 (Nat.le_of_ble_eq_true rfl) m_1057 rfl rfl rfl (ic_10 hb) rfl rfl (by decide) (Nat.le_of_ble_eq_true rfl) dX10_letWalkerGo_123 (fun M293_ q294_ => ?_)
            obtain ⟨hI296_, hF297_, h295_, hs299_⟩ := q294_
            have hF298_ := hF274_.tr hF297_ (fun c k => (fun h => h.elim (fun h => (Or.inr (Or.inr (Or.inr (Or.inr (Or.inr (Or.inr (Or.inr (Or.inl ⟨h.1, h.2⟩))))))))) (fun h => h.elim (fun h => (Or.inr (Or.inr (Or.inr (Or.inr (Or.inr (Or.inr (Or.inr (Or.inr (Or.inl ⟨h.1, h.2.1, h.2.2⟩)))))))))) (fun h => h.elim (fun h => (Or.inr (Or.inr (Or.inr (Or.inr (Or.inr (Or.inr (Or.inr (Or.inr (Or.inr (Or.inl ⟨h.1, h.2.1, h.2.2⟩))))))))))) (fun h => h.elim (fun h => (Or.inr (Or.inr (Or.inr (Or.inr (Or.inr (Or.inr (Or.inr (Or.inr (Or.inr (Or.inr (Or.inl ⟨h.1, h.2⟩)))))))))))) (fun h => h.elim))))))
            refine w_goto (tgt := 146) dX10_letWalkerGo_126 (by decide) ?_
            exact w_vret rfl dX10_letWalkerGo_146 ⟨hI296_, hF298_, trivial, (Or.inl ⟨hs5_, h4_, j7_, h8_, h9_, z10_, e11_, (Or.inr ⟨h12_, z80_, e81_, z82_, h83_, (Or.inr ⟨h84_, r152_, hs156_, h155_, (Or.inr ⟨h157_, M226_, hI229_, hF230_, r225_, hs232_, z233_, e234_, r235_, hs239_, z242_, h243_, z244_, h246_, h245_, r247_, hs251_, z254_, h255_, z256_, h258_, h257_, r259_, hs263_, z264_, e265_, z266_, e267_, M269_, hI272_, hF273_, r268_, hs275_, z276_, z276_h, (Or.inr ⟨h277_, M293_, hI296_, hF297_, hs299_, rfl⟩)⟩)⟩)⟩)⟩)⟩
  · refine w_if_ne (tgt := 9) dX10_letWalkerGo_5 (by decide) li_0 (fun h9 => (absurd h9 (by decide))) (fun h300_ => ?_)
    exact w_vret rfl dX10_letWalkerGo_8 ⟨hIz, hFz, trivial, (Or.inr ⟨hs5_, rfl⟩)⟩
def S_c_X10_passTenth (b : Nat) : rf → Nat → Prop := fun c k => (c.1 = 10 ∧ c.2.1 = b ∧ k = 7) ∨ (c.1 = 35 ∧ c.2.1 = b) ∨ (c.1 = 37 ∧ c.2.1 = b) ∨ (c.1 = 38 ∧ c.2.1 = b) ∨ (c.1 = 29 ∧ c.2.1 = b ∧ k = 0) ∨ (c.1 = 29 ∧ c.2.1 = b ∧ k = 1) ∨ (c.1 = 29 ∧ c.2.1 = b ∧ k = 2) ∨ (c.1 = 29 ∧ c.2.1 = b ∧ k = 3) ∨ (c.1 = 29 ∧ c.2.1 = b ∧ k = 4) ∨ (c.1 = 25 ∧ c.2.1 = b ∧ c.2.2 = 2) ∨ (c.1 = 9 ∧ c.2.1 = b ∧ k = 2) ∨ (c.1 = 9 ∧ c.2.1 = b ∧ k = 1) ∨ (c.1 = 9 ∧ c.2.1 = b ∧ k = 7) ∨ (c.1 = 40 ∧ c.2.1 = b) ∨ (c.1 = 9 ∧ c.2.1 = b ∧ k = 8) ∨ (c.1 = 25 ∧ c.2.1 = b ∧ c.2.2 = 0) ∨ (c.1 = 25 ∧ c.2.1 = b ∧ c.2.2 = 1) ∨ (c.1 = 41 ∧ c.2.1 = b) ∨ False
def ST_X10_passTenth_23 (b : Nat) (Mz : mM) (v1_23 : Int32) (M_23 : mM) (v1_23y : Int32) (M_23y : mM) : Prop := (0 ≤ v1_23.toInt) ∧ (Inv M_23) ∧ (FR (S_c_X10_passTenth b) Mz M_23) ∧ ∃ z19_ : Int32, (z19_ = M_23.1 (10, b, 0) 6) ∧ (v1_23.toInt < z19_.toInt) ∧ (v1_23.toInt < 8) ∧ ∃ j23_ : Nat, ((j23_ : Int) = v1_23.toInt) ∧ (j23_ < 8) ∧ ∃ z26_ : Int32, (z26_ = M_23.1 (9, b, j23_) 6) ∧ (0 ≤ z26_.toInt ∧ z26_.toInt ≤ 1) ∧ (((z26_.toInt = 0) ∧ ∃ z30_ : Int32, (z30_.toInt = v1_23.toInt + 1) ∧ v1_23y = z30_ ∧ M_23y = M_23) ∨ ((¬ z26_.toInt = 0) ∧ ∃ M32_ : mM, (Inv M32_) ∧ (FR (S_c_X10_letWalkerGo b) M_23 M32_) ∧ (SP_X10_letWalkerGo b v1_23 M_23 M32_) ∧ ∃ z39_ : Int32, (z39_.toInt = v1_23.toInt + 1) ∧ v1_23y = z39_ ∧ M_23y = M32_))
def SP_X10_passTenth (b : Nat) (Mz : mM) (M_ : mM) : Prop := ∃ z1_ : Int32, (z1_ = Mz.1 (10, b, 0) 7) ∧ ∃ z3_ : Int32, (z3_ = z1_ + (1 : Int32)) ∧ ∃ M5_ : mM, (M5_ = up Mz (10, b, 0) 7 z3_) ∧ ∃ z9_ : Int32, (z9_ = M5_.1 (10, b, 0) 7) ∧ (Inv M5_) ∧ ∃ M11_ : mM, (Inv M11_) ∧ (FR (S_c_X7_letThingsGo b) M5_ M11_) ∧ (SP_X7_letThingsGo b z9_ M5_ M11_) ∧ ∃ v1_23 : Int32, (0 ≤ v1_23.toInt) ∧ ∃ M_23 : mM, (RCH (fun x_ y_ => ST_X10_passTenth_23 b Mz x_.1 x_.2 y_.1 y_.2) ((0 : Int32), M11_) (v1_23, M_23)) ∧ (Inv M_23) ∧ (FR (S_c_X10_passTenth b) Mz M_23) ∧ ∃ z19_ : Int32, (z19_ = M_23.1 (10, b, 0) 6) ∧ (((z19_.toInt ≤ v1_23.toInt) ∧ M_ = M_23) ∨ ((v1_23.toInt < z19_.toInt) ∧ (8 ≤ v1_23.toInt) ∧ M_ = M_23))
set_option maxHeartbeats 4000000 in
set_option maxRecDepth 100000 in
theorem c_X10_passTenth (l : Launch) (G : va_G) (cy : Nat → ClassId) (ad : rf → Nat) (d : Nat) (b : Nat) (Mz : mM) (hIz : Inv Mz) (hb : b < 3) : WP CC l G cy ad yX10_passTenth cX10_passTenth 2 none (d + 6) 0 [(0, vR (10, b, 0))] [] Mz (fun r M' => Inv M' ∧ FR (S_c_X10_passTenth b) Mz M' ∧ (True) ∧ SP_X10_passTenth b Mz M') := by
  have hFz : FR (S_c_X10_passTenth b) Mz Mz := FR.self
  refine w_aload_n dX10_passTenth_0 rfl 0 rfl ?_
  refine w_dup dX10_passTenth_1 rfl ?_
  refine w_getI fl_RX10_54 rfl rfl (ic_10 hb) dX10_passTenth_2 (fun z1_ e2_ => ?_)
  refine w_iconst (v := 1) dX10_passTenth_5 (by decide) ?_
  refine w_iadd dX10_passTenth_6 (fun z3_ h4_ => ?_)
  refine w_putI CC_nd fl_RX10_54 rfl rfl (ic_10 hb) dX10_passTenth_7 (fun M5_ hM6_ => ?_)
  have hI7_ := hIz.put hM6_ trivial
  have hF8_ := hFz.put hM6_ (Or.inl ⟨rfl, rfl, rfl⟩)
  refine w_aload_n dX10_passTenth_10 rfl 0 rfl ?_
  refine w_getR (c' := (7, b, 0)) fl_RX10_10 rfl rfl (ic_10 hb) dX10_passTenth_11 rfl ?_
  refine w_aload_n dX10_passTenth_14 rfl 0 rfl ?_
  refine w_getI fl_RX10_54 rfl rfl (ic_10 hb) dX10_passTenth_15 (fun z9_ e10_ => ?_)
  refine w_callVv (as := [vI z9_]) (rest := []) (c_X7_letThingsGo l G cy ad (d + 2) b z9_ M5_ hI7_ hb) kV_X7_letThingsGo pnn_1 (Nat.le_of_ble_eq_true rfl) m_1029 rfl rfl rfl (ic_7 hb) rfl rfl (by decide) (Nat.le_of_ble_eq_true rfl) dX10_passTenth_18 (fun M11_ q12_ => ?_)
  obtain ⟨hI14_, hF15_, h13_, hs17_⟩ := q12_
  have hF16_ := hF8_.tr hF15_ (fun c k => (fun h => h.elim (fun h => (Or.inr (Or.inl ⟨h.1, h.2⟩))) (fun h => h.elim (fun h => (Or.inr (Or.inr (Or.inl ⟨h.1, h.2⟩)))) (fun h => h.elim (fun h => (Or.inr (Or.inr (Or.inr (Or.inl ⟨h.1, h.2⟩))))) (fun h => h.elim)))))
  refine w_iconst (v := 0) dX10_passTenth_21 (by decide) ?_
  refine w_istore_n (ls' := [(1, vI 0), (0, vR (10, b, 0))]) dX10_passTenth_22 rfl (by decide) rfl ?_
  have lp18_ : ∀ (nn_23 : Nat) (M_23 : mM) (hI_23 : Inv M_23) (hF_23 : FR (S_c_X10_passTenth b) Mz M_23) (v1_23 : Int32) (hv0_23 : 0 ≤ v1_23.toInt) (hL_23 : RCH (fun x_ y_ => ST_X10_passTenth_23 b Mz x_.1 x_.2 y_.1 y_.2) ((0 : Int32), M11_) (v1_23, M_23)), (2147483648 - v1_23.toInt).toNat < nn_23 → WP CC l G cy ad yX10_passTenth cX10_passTenth 2 none (d + 6) 23 [(1, vI v1_23), (0, vR (10, b, 0))] [] M_23 (fun r M' => Inv M' ∧ FR (S_c_X10_passTenth b) Mz M' ∧ (True) ∧ SP_X10_passTenth b Mz M') := by
    intro nn_23
    induction nn_23 with
    | zero => intro M_23 hI_23 hF_23 v1_23 hv0_23 hL_23 hm_23; exact absurd hm_23 (Nat.not_lt_zero _)
    | succ nn_23 ih_23 =>
      intro M_23 hI_23 hF_23 v1_23 hv0_23 hL_23 hm_23
      refine w_iload_n dX10_passTenth_23 rfl 0 rfl ?_
      refine w_aload_n dX10_passTenth_24 rfl 1 rfl ?_
      refine w_getI fl_RX10_50 rfl rfl (ic_10 hb) dX10_passTenth_25 (fun z19_ e20_ => ?_)
      refine w_icmp_ge (tgt := 60) dX10_passTenth_28 (by decide) (rfl : v1_23.toInt = v1_23.toInt) (rfl : z19_.toInt = z19_.toInt) (fun h21_ => ?_) (fun h21_ => ?_)
      · exact w_vret rfl dX10_passTenth_60 ⟨hI_23, hF_23, trivial, ⟨z1_, e2_, z3_, h4_, M5_, hM6_, z9_, e10_, hI7_, M11_, hI14_, hF15_, hs17_, v1_23, hv0_23, M_23, hL_23, hI_23, hF_23, z19_, e20_, (Or.inl ⟨h21_, rfl⟩)⟩⟩
      · refine w_iload_n dX10_passTenth_31 rfl 0 rfl ?_
        refine w_bipush (v := 8) dX10_passTenth_32 (by decide) ?_
        refine w_icmp_ge (tgt := 60) dX10_passTenth_34 (by decide) (rfl : v1_23.toInt = v1_23.toInt) li_8 (fun h22_ => ?_) (fun h22_ => ?_)
        · exact w_vret rfl dX10_passTenth_60 ⟨hI_23, hF_23, trivial, ⟨z1_, e2_, z3_, h4_, M5_, hM6_, z9_, e10_, hI7_, M11_, hI14_, hF15_, hs17_, v1_23, hv0_23, M_23, hL_23, hI_23, hF_23, z19_, e20_, (Or.inr ⟨h21_, h22_, rfl⟩)⟩⟩
        · refine w_aload_n dX10_passTenth_37 rfl 1 rfl ?_
          refine w_getR (c' := (42, b, 0)) fl_RX10_46 rfl rfl (ic_10 hb) dX10_passTenth_38 rfl ?_
          refine w_iload_n dX10_passTenth_41 rfl 0 rfl ?_
          refine w_aald rfl rfl rfl (fun _ => rfl) (ic_42 hb) (rfl : v1_23.toInt = v1_23.toInt) (lf_c_X9_kindAbove_0 v1_23 hv0_23 h22_ ) dX10_passTenth_42 (fun j23_ h24_ h25_ => ?_)
          refine w_getI fl_RX10_144 rfl rfl (ic_9 hb h25_) dX10_passTenth_43 (fun z26_ e27_ => ?_)
          have h28_ : 0 ≤ z26_.toInt ∧ z26_.toInt ≤ 1 := ofEq (P := fun v => 0 ≤ v.toInt ∧ v.toInt ≤ 1) e27_ (hI_23 (9, b, j23_) 6 rfl)
          refine w_if_eq (tgt := 54) dX10_passTenth_46 (by decide) (rfl : z26_.toInt = z26_.toInt) (fun h29_ => ?_) (fun h29_ => ?_)
          · refine w_iincB (j := 0) (f := fun z30_ => [(1, vI z30_), (0, vR (10, b, 0))]) dX10_passTenth_54 rfl (by decide) (fun _ => rfl) (rfl : v1_23.toInt = v1_23.toInt) li_1 (lf_c_X9_isOf_0 v1_23 hv0_23 h22_ ) (fun z30_ h31_ => ?_)
            refine w_goto (tgt := 23) dX10_passTenth_57 (by decide) ?_
            refine w_loc (ls' := [(1, vI z30_), (0, vR (10, b, 0))]) [0, 1] rfl ?_
            exact ih_23 M_23 hI_23 hF_23 z30_ (lf_c_X5_takeFrom_3 v1_23 z30_ hv0_23 h31_ ) (RCH.tail hL_23 ⟨hv0_23, hI_23, hF_23, z19_, e20_, h21_, h22_, j23_, h24_, h25_, z26_, e27_, h28_, (Or.inl ⟨h29_, z30_, h31_, rfl, rfl⟩)⟩) (Nat.lt_of_lt_of_le (lf_c_X9_isOf_3 v1_23 z30_ h22_ h31_ ) (Nat.le_of_lt_succ hm_23))
          · refine w_aload_n dX10_passTenth_49 rfl 1 rfl ?_
            refine w_iload_n dX10_passTenth_50 rfl 0 rfl ?_
            refine w_callVv (as := [vI v1_23]) (rest := []) (c_X10_letWalkerGo l G cy ad d b v1_23 M_23 hI_23 hb) kV_X10_letWalkerGo pnn_7 (Nat.le_of_ble_eq_true rfl) m_1039 rfl rfl rfl (ic_10 hb) rfl rfl (by decide) (Nat.le_of_ble_eq_true rfl) dX10_passTenth_51 (fun M32_ q33_ => ?_)
            obtain ⟨hI35_, hF36_, h34_, hs38_⟩ := q33_
            have hF37_ := hF_23.tr hF36_ (fun c k => (fun h => h.elim (fun h => (Or.inr (Or.inr (Or.inr (Or.inr (Or.inl ⟨h.1, h.2.1, h.2.2⟩)))))) (fun h => h.elim (fun h => (Or.inr (Or.inr (Or.inr (Or.inr (Or.inr (Or.inl ⟨h.1, h.2.1, h.2.2⟩))))))) (fun h => h.elim (fun h => (Or.inr (Or.inr (Or.inr (Or.inr (Or.inr (Or.inr (Or.inl ⟨h.1, h.2.1, h.2.2⟩)))))))) (fun h => h.elim (fun h => (Or.inr (Or.inr (Or.inr (Or.inr (Or.inr (Or.inr (Or.inr (Or.inl ⟨h.1, h.2.1, h.2.2⟩))))))))) (fun h => h.elim (fun h => (Or.inr (Or.inr (Or.inr (Or.inr (Or.inr (Or.inr (Or.inr (Or.inr (Or.inl ⟨h.1, h.2.1, h.2.2⟩)))))))))) (fun h => h.elim (fun h => (Or.inr (Or.inr (Or.inr (Or.inr (Or.inr (Or.inr (Or.inr (Or.inr (Or.inr (Or.inl ⟨h.1, h.2.1, h.2.2⟩))))))))))) (fun h => h.elim (fun h => (Or.inr (Or.inr (Or.inr (Or.inr (Or.inr (Or.inr (Or.inr (Or.inr (Or.inr (Or.inr (Or.inl ⟨h.1, h.2.1, h.2.2⟩)))))))))))) (fun h => h.elim (fun h => (Or.inr (Or.inl ⟨h.1, h.2⟩))) (fun h => h.elim (fun h => (Or.inr (Or.inr (Or.inr (Or.inr (Or.inr (Or.inr (Or.inr (Or.inr (Or.inr (Or.inr (Or.inr (Or.inl ⟨h.1, h.2.1, h.2.2⟩))))))))))))) (fun h => h.elim (fun h => (Or.inr (Or.inr (Or.inr (Or.inr (Or.inr (Or.inr (Or.inr (Or.inr (Or.inr (Or.inr (Or.inr (Or.inr (Or.inl ⟨h.1, h.2.1, h.2.2⟩)))))))))))))) (fun h => h.elim (fun h => (Or.inr (Or.inr (Or.inr (Or.inr (Or.inr (Or.inr (Or.inr (Or.inr (Or.inr (Or.inr (Or.inr (Or.inr (Or.inr (Or.inl ⟨h.1, h.2⟩))))))))))))))) (fun h => h.elim (fun h => (Or.inr (Or.inr (Or.inr (Or.inr (Or.inr (Or.inr (Or.inr (Or.inr (Or.inr (Or.inr (Or.inr (Or.inr (Or.inr (Or.inr (Or.inl ⟨h.1, h.2.1, h.2.2⟩)))))))))))))))) (fun h => h.elim (fun h => (Or.inr (Or.inr (Or.inr (Or.inr (Or.inr (Or.inr (Or.inr (Or.inr (Or.inr (Or.inr (Or.inr (Or.inr (Or.inr (Or.inr (Or.inr (Or.inl ⟨h.1, h.2.1, h.2.2⟩))))))))))))))))) (fun h => h.elim (fun h => (Or.inr (Or.inr (Or.inr (Or.inr (Or.inr (Or.inr (Or.inr (Or.inr (Or.inr (Or.inr (Or.inr (Or.inr (Or.inr (Or.inr (Or.inr (Or.inr (Or.inl ⟨h.1, h.2.1, h.2.2⟩)))))))))))))))))) (fun h => h.elim (fun h => (Or.inr (Or.inr (Or.inr (Or.inr (Or.inr (Or.inr (Or.inr (Or.inr (Or.inr (Or.inr (Or.inr (Or.inr (Or.inr (Or.inr (Or.inr (Or.inr (Or.inr (Or.inl ⟨h.1, h.2⟩))))))))))))))))))) (fun h => h.elim)))))))))))))))))
            refine w_iincB (j := 0) (f := fun z39_ => [(1, vI z39_), (0, vR (10, b, 0))]) dX10_passTenth_54 rfl (by decide) (fun _ => rfl) (rfl : v1_23.toInt = v1_23.toInt) li_1 (lf_c_X9_isOf_0 v1_23 hv0_23 h22_ ) (fun z39_ h40_ => ?_)
            refine w_goto (tgt := 23) dX10_passTenth_57 (by decide) ?_
            refine w_loc (ls' := [(1, vI z39_), (0, vR (10, b, 0))]) [0, 1] rfl ?_
            exact ih_23 M32_ hI35_ hF37_ z39_ (lf_c_X5_takeFrom_3 v1_23 z39_ hv0_23 h40_ ) (RCH.tail hL_23 ⟨hv0_23, hI_23, hF_23, z19_, e20_, h21_, h22_, j23_, h24_, h25_, z26_, e27_, h28_, (Or.inr ⟨h29_, M32_, hI35_, hF36_, hs38_, z39_, h40_, rfl, rfl⟩)⟩) (Nat.lt_of_lt_of_le (lf_c_X9_isOf_3 v1_23 z39_ h22_ h40_ ) (Nat.le_of_lt_succ hm_23))
  exact lp18_ _ M11_ hI14_ hF16_ 0 (lf_c_X5_takeFrom_5 ) RCH.refl (Nat.lt_succ_self _)
def S_c_X10_takeFrom (b : Nat) (b2 : Nat) : rf → Nat → Prop := fun c k => (c.1 = 35 ∧ c.2.1 = b) ∨ (c.1 = 36 ∧ c.2.1 = b) ∨ (c.1 = 37 ∧ c.2.1 = b) ∨ (c.1 = 38 ∧ c.2.1 = b) ∨ (c.1 = 39 ∧ c.2.1 = b) ∨ (c.1 = 7 ∧ c.2.1 = b ∧ k = 5) ∨ (c.1 = 2 ∧ c.2.1 = b ∧ k = 0) ∨ (c.1 = 2 ∧ c.2.1 = b ∧ k = 1) ∨ (c.1 = 2 ∧ c.2.1 = b ∧ k = 2) ∨ (c.1 = 26 ∧ c.2.1 = b) ∨ (c.1 = 27 ∧ c.2.1 = b) ∨ (c.1 = 1 ∧ c.2.1 = b ∧ k = 2) ∨ (c.1 = 24 ∧ c.2.1 = b) ∨ (c.1 = 30 ∧ c.2.1 = b) ∨ (c.1 = 31 ∧ c.2.1 = b) ∨ (c.1 = 32 ∧ c.2.1 = b) ∨ (c.1 = 3 ∧ c.2.1 = b ∧ k = 3) ∨ (c.1 = 5 ∧ c.2.1 = b ∧ c.2.2 = 0 ∧ k = 1) ∨ (c.1 = 33 ∧ c.2.1 = b ∧ c.2.2 = 0) ∨ (c.1 = 5 ∧ c.2.1 = b ∧ c.2.2 = 1 ∧ k = 1) ∨ (c.1 = 33 ∧ c.2.1 = b ∧ c.2.2 = 1) ∨ (c.1 = 10 ∧ c.2.1 = b ∧ k = 6) ∨ (c.1 = 10 ∧ c.2.1 = b ∧ k = 7) ∨ (c.1 = 9 ∧ c.2.1 = b ∧ k = 0) ∨ (c.1 = 9 ∧ c.2.1 = b ∧ k = 1) ∨ (c.1 = 9 ∧ c.2.1 = b ∧ k = 2) ∨ (c.1 = 9 ∧ c.2.1 = b ∧ k = 3) ∨ (c.1 = 9 ∧ c.2.1 = b ∧ k = 4) ∨ (c.1 = 9 ∧ c.2.1 = b ∧ k = 5) ∨ (c.1 = 9 ∧ c.2.1 = b ∧ k = 6) ∨ (c.1 = 9 ∧ c.2.1 = b ∧ k = 7) ∨ (c.1 = 9 ∧ c.2.1 = b ∧ k = 8) ∨ (c.1 = 40 ∧ c.2.1 = b) ∨ (c.1 = 41 ∧ c.2.1 = b) ∨ False
def ST_X10_takeFrom_73 (b : Nat) (b2 : Nat) (Mz : mM) (v2_73 : Int32) (M_73 : mM) (v2_73y : Int32) (M_73y : mM) : Prop := (0 ≤ v2_73.toInt) ∧ (Inv M_73) ∧ (FR (S_c_X10_takeFrom b b2) Mz M_73) ∧ ∃ z49_ : Int32, (z49_ = M_73.1 (10, b, 0) 6) ∧ (v2_73.toInt < z49_.toInt) ∧ (v2_73.toInt < 8) ∧ ∃ j53_ : Nat, ((j53_ : Int) = v2_73.toInt) ∧ (j53_ < 8) ∧ ∃ j56_ : Nat, ((j56_ : Int) = v2_73.toInt) ∧ (j56_ < 8) ∧ ∃ M59_ : mM, (Inv M59_) ∧ (FR (S_c_X9_takeFrom b j53_ b2 j56_) M_73 M59_) ∧ (SP_X9_takeFrom b j53_ b2 j56_ M_73 M59_) ∧ ∃ z66_ : Int32, (z66_.toInt = v2_73.toInt + 1) ∧ v2_73y = z66_ ∧ M_73y = M59_
def SP_X10_takeFrom (b : Nat) (b2 : Nat) (Mz : mM) (M_ : mM) : Prop := ∃ M1_ : mM, (Inv M1_) ∧ (FR (S_c_X7_takeFrom b b2) Mz M1_) ∧ (SP_X7_takeFrom b b2 Mz M1_) ∧ ∃ M8_ : mM, (Inv M8_) ∧ (FR (S_c_X2_takeFrom b b2) M1_ M8_) ∧ (SP_X2_takeFrom b b2 M1_ M8_) ∧ ∃ M15_ : mM, (Inv M15_) ∧ (FR (S_c_X3_takeFrom b b2) M8_ M15_) ∧ (SP_X3_takeFrom b b2 M8_ M15_) ∧ ∃ M22_ : mM, (Inv M22_) ∧ (FR (S_c_X5_takeFrom b 0 b2 0) M15_ M22_) ∧ (SP_X5_takeFrom b 0 b2 0 M15_ M22_) ∧ ∃ M29_ : mM, (Inv M29_) ∧ (FR (S_c_X5_takeFrom b 1 b2 1) M22_ M29_) ∧ (SP_X5_takeFrom b 1 b2 1 M22_ M29_) ∧ ∃ z36_ : Int32, (z36_ = M29_.1 (10, b2, 0) 6) ∧ ∃ M38_ : mM, (M38_ = up M29_ (10, b, 0) 6 z36_) ∧ ∃ z42_ : Int32, (z42_ = M38_.1 (10, b2, 0) 7) ∧ ∃ M44_ : mM, (M44_ = up M38_ (10, b, 0) 7 z42_) ∧ ∃ v2_73 : Int32, (0 ≤ v2_73.toInt) ∧ ∃ M_73 : mM, (RCH (fun x_ y_ => ST_X10_takeFrom_73 b b2 Mz x_.1 x_.2 y_.1 y_.2) ((0 : Int32), M44_) (v2_73, M_73)) ∧ (Inv M_73) ∧ (FR (S_c_X10_takeFrom b b2) Mz M_73) ∧ ∃ z49_ : Int32, (z49_ = M_73.1 (10, b, 0) 6) ∧ (((z49_.toInt ≤ v2_73.toInt) ∧ M_ = M_73) ∨ ((v2_73.toInt < z49_.toInt) ∧ (8 ≤ v2_73.toInt) ∧ M_ = M_73))
theorem lf_c_X10_takeFrom_0 (b : Nat) (hb : b < 3) : vRw b 0 := by unfold vRw; omega
theorem lf_c_X10_takeFrom_3 (b : Nat) (hb : b < 3) : vRw b 1 := by unfold vRw; omega
set_option maxHeartbeats 4000000 in
set_option maxRecDepth 100000 in
theorem c_X10_takeFrom (l : Launch) (G : va_G) (cy : Nat → ClassId) (ad : rf → Nat) (d : Nat) (b : Nat) (b2 : Nat) (Mz : mM) (hIz : Inv Mz) (hb : b < 3) (hb2 : b2 < 3) : WP CC l G cy ad yX10_takeFrom cX10_takeFrom 3 none (d + 3) 0 [(0, vR (10, b, 0)), (1, vR (10, b2, 0))] [] Mz (fun r M' => Inv M' ∧ FR (S_c_X10_takeFrom b b2) Mz M' ∧ (True) ∧ SP_X10_takeFrom b b2 Mz M') := by
  have hFz : FR (S_c_X10_takeFrom b b2) Mz Mz := FR.self
  refine w_aload_n dX10_takeFrom_0 rfl 0 rfl ?_
  refine w_getR (c' := (7, b, 0)) fl_RX10_10 rfl rfl (ic_10 hb) dX10_takeFrom_1 rfl ?_
  refine w_aload_n dX10_takeFrom_4 rfl 1 rfl ?_
  refine w_getR (c' := (7, b2, 0)) fl_RX10_10 rfl rfl (ic_10 hb2) dX10_takeFrom_5 rfl ?_
  refine w_callVv (as := [vR (7, b2, 0)]) (rest := []) (c_X7_takeFrom l G cy ad (d + 1) b b2 Mz hIz hb hb2) kV_X7_takeFrom pnn_1 (Nat.le_of_ble_eq_true rfl) m_1258 rfl rfl rfl (ic_7 hb) rfl rfl (by decide) (Nat.le_of_ble_eq_true rfl) dX10_takeFrom_8 (fun M1_ q2_ => ?_)
  obtain ⟨hI4_, hF5_, h3_, hs7_⟩ := q2_
  have hF6_ := hFz.tr hF5_ (fun c k => (fun h => h.elim (fun h => (Or.inl ⟨h.1, h.2⟩)) (fun h => h.elim (fun h => (Or.inr (Or.inl ⟨h.1, h.2⟩))) (fun h => h.elim (fun h => (Or.inr (Or.inr (Or.inl ⟨h.1, h.2⟩)))) (fun h => h.elim (fun h => (Or.inr (Or.inr (Or.inr (Or.inl ⟨h.1, h.2⟩))))) (fun h => h.elim (fun h => (Or.inr (Or.inr (Or.inr (Or.inr (Or.inl ⟨h.1, h.2⟩)))))) (fun h => h.elim (fun h => (Or.inr (Or.inr (Or.inr (Or.inr (Or.inr (Or.inl ⟨h.1, h.2.1, h.2.2⟩))))))) (fun h => h.elim))))))))
  refine w_aload_n dX10_takeFrom_11 rfl 0 rfl ?_
  refine w_getR (c' := (2, b, 0)) fl_RX10_19 rfl rfl (ic_10 hb) dX10_takeFrom_12 rfl ?_
  refine w_aload_n dX10_takeFrom_15 rfl 1 rfl ?_
  refine w_getR (c' := (2, b2, 0)) fl_RX10_19 rfl rfl (ic_10 hb2) dX10_takeFrom_16 rfl ?_
  refine w_callVv (as := [vR (2, b2, 0)]) (rest := []) (c_X2_takeFrom l G cy ad d b b2 M1_ hI4_ hb hb2) kV_X2_takeFrom pnn_5 (Nat.le_of_ble_eq_true rfl) m_1263 rfl rfl rfl (ic_2 hb) rfl rfl (by decide) (Nat.le_of_ble_eq_true rfl) dX10_takeFrom_19 (fun M8_ q9_ => ?_)
  obtain ⟨hI11_, hF12_, h10_, hs14_⟩ := q9_
  have hF13_ := hF6_.tr hF12_ (fun c k => (fun h => h.elim (fun h => (Or.inr (Or.inr (Or.inr (Or.inr (Or.inr (Or.inr (Or.inl ⟨h.1, h.2.1, h.2.2⟩)))))))) (fun h => h.elim (fun h => (Or.inr (Or.inr (Or.inr (Or.inr (Or.inr (Or.inr (Or.inr (Or.inl ⟨h.1, h.2.1, h.2.2⟩))))))))) (fun h => h.elim (fun h => (Or.inr (Or.inr (Or.inr (Or.inr (Or.inr (Or.inr (Or.inr (Or.inr (Or.inl ⟨h.1, h.2.1, h.2.2⟩)))))))))) (fun h => h.elim (fun h => (Or.inr (Or.inr (Or.inr (Or.inr (Or.inr (Or.inr (Or.inr (Or.inr (Or.inr (Or.inl ⟨h.1, h.2⟩))))))))))) (fun h => h.elim (fun h => (Or.inr (Or.inr (Or.inr (Or.inr (Or.inr (Or.inr (Or.inr (Or.inr (Or.inr (Or.inr (Or.inl ⟨h.1, h.2⟩)))))))))))) (fun h => h.elim (fun h => (Or.inr (Or.inr (Or.inr (Or.inr (Or.inr (Or.inr (Or.inr (Or.inr (Or.inr (Or.inr (Or.inr (Or.inl ⟨h.1, h.2.1, h.2.2⟩))))))))))))) (fun h => h.elim (fun h => (Or.inr (Or.inr (Or.inr (Or.inr (Or.inr (Or.inr (Or.inr (Or.inr (Or.inr (Or.inr (Or.inr (Or.inr (Or.inl ⟨h.1, h.2⟩)))))))))))))) (fun h => h.elim)))))))))
  refine w_aload_n dX10_takeFrom_22 rfl 0 rfl ?_
  refine w_getR (c' := (3, b, 0)) fl_RX10_26 rfl rfl (ic_10 hb) dX10_takeFrom_23 rfl ?_
  refine w_aload_n dX10_takeFrom_26 rfl 1 rfl ?_
  refine w_getR (c' := (3, b2, 0)) fl_RX10_26 rfl rfl (ic_10 hb2) dX10_takeFrom_27 rfl ?_
  refine w_callVv (as := [vR (3, b2, 0)]) (rest := []) (c_X3_takeFrom l G cy ad (d + 1) b b2 M8_ hI11_ hb hb2) kV_X3_takeFrom pnn_8 (Nat.le_of_ble_eq_true rfl) m_1269 rfl rfl rfl (ic_3 hb) rfl rfl (by decide) (Nat.le_of_ble_eq_true rfl) dX10_takeFrom_30 (fun M15_ q16_ => ?_)
  obtain ⟨hI18_, hF19_, h17_, hs21_⟩ := q16_
  have hF20_ := hF13_.tr hF19_ (fun c k => (fun h => h.elim (fun h => (Or.inr (Or.inr (Or.inr (Or.inr (Or.inr (Or.inr (Or.inr (Or.inr (Or.inr (Or.inr (Or.inr (Or.inr (Or.inr (Or.inl ⟨h.1, h.2⟩))))))))))))))) (fun h => h.elim (fun h => (Or.inr (Or.inr (Or.inr (Or.inr (Or.inr (Or.inr (Or.inr (Or.inr (Or.inr (Or.inr (Or.inr (Or.inr (Or.inr (Or.inr (Or.inl ⟨h.1, h.2⟩)))))))))))))))) (fun h => h.elim (fun h => (Or.inr (Or.inr (Or.inr (Or.inr (Or.inr (Or.inr (Or.inr (Or.inr (Or.inr (Or.inr (Or.inr (Or.inr (Or.inr (Or.inr (Or.inr (Or.inl ⟨h.1, h.2⟩))))))))))))))))) (fun h => h.elim (fun h => (Or.inr (Or.inr (Or.inr (Or.inr (Or.inr (Or.inr (Or.inr (Or.inr (Or.inr (Or.inr (Or.inr (Or.inr (Or.inr (Or.inr (Or.inr (Or.inr (Or.inl ⟨h.1, h.2.1, h.2.2⟩)))))))))))))))))) (fun h => h.elim))))))
  refine w_aload_n dX10_takeFrom_33 rfl 0 rfl ?_
  refine w_getR (c' := (5, b, 0)) fl_RX10_37 rfl rfl (ic_10 hb) dX10_takeFrom_34 rfl ?_
  refine w_aload_n dX10_takeFrom_37 rfl 1 rfl ?_
  refine w_getR (c' := (5, b2, 0)) fl_RX10_37 rfl rfl (ic_10 hb2) dX10_takeFrom_38 rfl ?_
  refine w_callVv (as := [vR (5, b2, 0)]) (rest := []) (c_X5_takeFrom l G cy ad (d + 1) b 0 b2 0 M15_ hI18_ (lf_c_X10_takeFrom_0 b hb ) (lf_c_X10_takeFrom_0 b2 hb2 )) kV_X5_takeFrom pnn_2 (Nat.le_of_ble_eq_true rfl) m_1274 rfl rfl rfl (ic_5 (lf_c_X10_takeFrom_0 b hb )) rfl rfl (by decide) (Nat.le_of_ble_eq_true rfl) dX10_takeFrom_41 (fun M22_ q23_ => ?_)
  obtain ⟨hI25_, hF26_, h24_, hs28_⟩ := q23_
  have hF27_ := hF20_.tr hF26_ (fun c k => (fun h => h.elim (fun h => (Or.inr (Or.inr (Or.inr (Or.inr (Or.inr (Or.inr (Or.inr (Or.inr (Or.inr (Or.inr (Or.inr (Or.inr (Or.inr (Or.inr (Or.inr (Or.inr (Or.inr (Or.inl ⟨h.1, h.2.1, h.2.2.1, h.2.2.2⟩))))))))))))))))))) (fun h => h.elim (fun h => (Or.inr (Or.inr (Or.inr (Or.inr (Or.inr (Or.inr (Or.inr (Or.inr (Or.inr (Or.inr (Or.inr (Or.inr (Or.inr (Or.inr (Or.inr (Or.inr (Or.inr (Or.inr (Or.inl ⟨h.1, h.2.1, h.2.2⟩)))))))))))))))))))) (fun h => h.elim))))
  refine w_aload_n dX10_takeFrom_44 rfl 0 rfl ?_
  refine w_getR (c' := (5, b, 1)) fl_RX10_41 rfl rfl (ic_10 hb) dX10_takeFrom_45 rfl ?_
  refine w_aload_n dX10_takeFrom_48 rfl 1 rfl ?_
  refine w_getR (c' := (5, b2, 1)) fl_RX10_41 rfl rfl (ic_10 hb2) dX10_takeFrom_49 rfl ?_
  refine w_callVv (as := [vR (5, b2, 1)]) (rest := []) (c_X5_takeFrom l G cy ad (d + 1) b 1 b2 1 M22_ hI25_ (lf_c_X10_takeFrom_3 b hb ) (lf_c_X10_takeFrom_3 b2 hb2 )) kV_X5_takeFrom pnn_2 (Nat.le_of_ble_eq_true rfl) m_1274 rfl rfl rfl (ic_5 (lf_c_X10_takeFrom_3 b hb )) rfl rfl (by decide) (Nat.le_of_ble_eq_true rfl) dX10_takeFrom_52 (fun M29_ q30_ => ?_)
  obtain ⟨hI32_, hF33_, h31_, hs35_⟩ := q30_
  have hF34_ := hF27_.tr hF33_ (fun c k => (fun h => h.elim (fun h => (Or.inr (Or.inr (Or.inr (Or.inr (Or.inr (Or.inr (Or.inr (Or.inr (Or.inr (Or.inr (Or.inr (Or.inr (Or.inr (Or.inr (Or.inr (Or.inr (Or.inr (Or.inr (Or.inr (Or.inl ⟨h.1, h.2.1, h.2.2.1, h.2.2.2⟩))))))))))))))))))))) (fun h => h.elim (fun h => (Or.inr (Or.inr (Or.inr (Or.inr (Or.inr (Or.inr (Or.inr (Or.inr (Or.inr (Or.inr (Or.inr (Or.inr (Or.inr (Or.inr (Or.inr (Or.inr (Or.inr (Or.inr (Or.inr (Or.inr (Or.inl ⟨h.1, h.2.1, h.2.2⟩)))))))))))))))))))))) (fun h => h.elim))))
  refine w_aload_n dX10_takeFrom_55 rfl 0 rfl ?_
  refine w_aload_n dX10_takeFrom_56 rfl 1 rfl ?_
  refine w_getI fl_RX10_50 rfl rfl (ic_10 hb2) dX10_takeFrom_57 (fun z36_ e37_ => ?_)
  refine w_putI CC_nd fl_RX10_50 rfl rfl (ic_10 hb) dX10_takeFrom_60 (fun M38_ hM39_ => ?_)
  have hI40_ := hI32_.put hM39_ trivial
  have hF41_ := hF34_.put hM39_ (Or.inr (Or.inr (Or.inr (Or.inr (Or.inr (Or.inr (Or.inr (Or.inr (Or.inr (Or.inr (Or.inr (Or.inr (Or.inr (Or.inr (Or.inr (Or.inr (Or.inr (Or.inr (Or.inr (Or.inr (Or.inr (Or.inl ⟨rfl, rfl, rfl⟩))))))))))))))))))))))
  refine w_aload_n dX10_takeFrom_63 rfl 0 rfl ?_
  refine w_aload_n dX10_takeFrom_64 rfl 1 rfl ?_
  refine w_getI fl_RX10_54 rfl rfl (ic_10 hb2) dX10_takeFrom_65 (fun z42_ e43_ => ?_)
  refine w_putI CC_nd fl_RX10_54 rfl rfl (ic_10 hb) dX10_takeFrom_68 (fun M44_ hM45_ => ?_)
  have hI46_ := hI40_.put hM45_ trivial
  have hF47_ := hF41_.put hM45_ (Or.inr (Or.inr (Or.inr (Or.inr (Or.inr (Or.inr (Or.inr (Or.inr (Or.inr (Or.inr (Or.inr (Or.inr (Or.inr (Or.inr (Or.inr (Or.inr (Or.inr (Or.inr (Or.inr (Or.inr (Or.inr (Or.inr (Or.inl ⟨rfl, rfl, rfl⟩)))))))))))))))))))))))
  refine w_iconst (v := 0) dX10_takeFrom_71 (by decide) ?_
  refine w_istore_n (ls' := [(2, vI 0), (0, vR (10, b, 0)), (1, vR (10, b2, 0))]) dX10_takeFrom_72 rfl (by decide) rfl ?_
  have lp48_ : ∀ (nn_73 : Nat) (M_73 : mM) (hI_73 : Inv M_73) (hF_73 : FR (S_c_X10_takeFrom b b2) Mz M_73) (v2_73 : Int32) (hv0_73 : 0 ≤ v2_73.toInt) (hL_73 : RCH (fun x_ y_ => ST_X10_takeFrom_73 b b2 Mz x_.1 x_.2 y_.1 y_.2) ((0 : Int32), M44_) (v2_73, M_73)), (2147483648 - v2_73.toInt).toNat < nn_73 → WP CC l G cy ad yX10_takeFrom cX10_takeFrom 3 none (d + 3) 73 [(2, vI v2_73), (0, vR (10, b, 0)), (1, vR (10, b2, 0))] [] M_73 (fun r M' => Inv M' ∧ FR (S_c_X10_takeFrom b b2) Mz M' ∧ (True) ∧ SP_X10_takeFrom b b2 Mz M') := by
    intro nn_73
    induction nn_73 with
    | zero => intro M_73 hI_73 hF_73 v2_73 hv0_73 hL_73 hm_73; exact absurd hm_73 (Nat.not_lt_zero _)
    | succ nn_73 ih_73 =>
      intro M_73 hI_73 hF_73 v2_73 hv0_73 hL_73 hm_73
      refine w_iload_n dX10_takeFrom_73 rfl 0 rfl ?_
      refine w_aload_n dX10_takeFrom_74 rfl 1 rfl ?_
      refine w_getI fl_RX10_50 rfl rfl (ic_10 hb) dX10_takeFrom_75 (fun z49_ e50_ => ?_)
      refine w_icmp_ge (tgt := 108) dX10_takeFrom_78 (by decide) (rfl : v2_73.toInt = v2_73.toInt) (rfl : z49_.toInt = z49_.toInt) (fun h51_ => ?_) (fun h51_ => ?_)
      · exact w_vret rfl dX10_takeFrom_108 ⟨hI_73, hF_73, trivial, ⟨M1_, hI4_, hF5_, hs7_, M8_, hI11_, hF12_, hs14_, M15_, hI18_, hF19_, hs21_, M22_, hI25_, hF26_, hs28_, M29_, hI32_, hF33_, hs35_, z36_, e37_, M38_, hM39_, z42_, e43_, M44_, hM45_, v2_73, hv0_73, M_73, hL_73, hI_73, hF_73, z49_, e50_, (Or.inl ⟨h51_, rfl⟩)⟩⟩
      · refine w_iload_n dX10_takeFrom_81 rfl 0 rfl ?_
        refine w_bipush (v := 8) dX10_takeFrom_82 (by decide) ?_
        refine w_icmp_ge (tgt := 108) dX10_takeFrom_84 (by decide) (rfl : v2_73.toInt = v2_73.toInt) li_8 (fun h52_ => ?_) (fun h52_ => ?_)
        · exact w_vret rfl dX10_takeFrom_108 ⟨hI_73, hF_73, trivial, ⟨M1_, hI4_, hF5_, hs7_, M8_, hI11_, hF12_, hs14_, M15_, hI18_, hF19_, hs21_, M22_, hI25_, hF26_, hs28_, M29_, hI32_, hF33_, hs35_, z36_, e37_, M38_, hM39_, z42_, e43_, M44_, hM45_, v2_73, hv0_73, M_73, hL_73, hI_73, hF_73, z49_, e50_, (Or.inr ⟨h51_, h52_, rfl⟩)⟩⟩
        · refine w_aload_n dX10_takeFrom_87 rfl 1 rfl ?_
          refine w_getR (c' := (42, b, 0)) fl_RX10_46 rfl rfl (ic_10 hb) dX10_takeFrom_88 rfl ?_
          refine w_iload_n dX10_takeFrom_91 rfl 0 rfl ?_
          refine w_aald rfl rfl rfl (fun _ => rfl) (ic_42 hb) (rfl : v2_73.toInt = v2_73.toInt) (lf_c_X9_kindAbove_0 v2_73 hv0_73 h52_ ) dX10_takeFrom_92 (fun j53_ h54_ h55_ => ?_)
          refine w_aload_n dX10_takeFrom_93 rfl 2 rfl ?_
          refine w_getR (c' := (42, b2, 0)) fl_RX10_46 rfl rfl (ic_10 hb2) dX10_takeFrom_94 rfl ?_
          refine w_iload_n dX10_takeFrom_97 rfl 0 rfl ?_
          refine w_aald rfl rfl rfl (fun _ => rfl) (ic_42 hb2) (rfl : v2_73.toInt = v2_73.toInt) (lf_c_X9_kindAbove_0 v2_73 hv0_73 h52_ ) dX10_takeFrom_98 (fun j56_ h57_ h58_ => ?_)
          refine w_callVv (as := [vR (9, b2, j56_)]) (rest := []) (c_X9_takeFrom l G cy ad (d + 1) b j53_ b2 j56_ M_73 hI_73 hb h55_ hb2 h58_) kV_X9_takeFrom pnn_3 (Nat.le_of_ble_eq_true rfl) m_1275 rfl rfl rfl (ic_9 hb h55_) rfl rfl (by decide) (Nat.le_of_ble_eq_true rfl) dX10_takeFrom_99 (fun M59_ q60_ => ?_)
          obtain ⟨hI62_, hF63_, h61_, hs65_⟩ := q60_
          have hF64_ := hF_73.tr hF63_ (fun c k => (fun h => h.elim (fun h => (Or.inr (Or.inr (Or.inr (Or.inr (Or.inr (Or.inr (Or.inr (Or.inr (Or.inr (Or.inr (Or.inr (Or.inr (Or.inr (Or.inr (Or.inr (Or.inr (Or.inr (Or.inr (Or.inr (Or.inr (Or.inr (Or.inr (Or.inr (Or.inl ⟨h.1, h.2.1, h.2.2.2⟩))))))))))))))))))))))))) (fun h => h.elim (fun h => (Or.inr (Or.inr (Or.inr (Or.inr (Or.inr (Or.inr (Or.inr (Or.inr (Or.inr (Or.inr (Or.inr (Or.inr (Or.inr (Or.inr (Or.inr (Or.inr (Or.inr (Or.inr (Or.inr (Or.inr (Or.inr (Or.inr (Or.inr (Or.inr (Or.inl ⟨h.1, h.2.1, h.2.2.2⟩)))))))))))))))))))))))))) (fun h => h.elim (fun h => (Or.inr (Or.inr (Or.inr (Or.inr (Or.inr (Or.inr (Or.inr (Or.inr (Or.inr (Or.inr (Or.inr (Or.inr (Or.inr (Or.inr (Or.inr (Or.inr (Or.inr (Or.inr (Or.inr (Or.inr (Or.inr (Or.inr (Or.inr (Or.inr (Or.inr (Or.inl ⟨h.1, h.2.1, h.2.2.2⟩))))))))))))))))))))))))))) (fun h => h.elim (fun h => (Or.inr (Or.inr (Or.inr (Or.inr (Or.inr (Or.inr (Or.inr (Or.inr (Or.inr (Or.inr (Or.inr (Or.inr (Or.inr (Or.inr (Or.inr (Or.inr (Or.inr (Or.inr (Or.inr (Or.inr (Or.inr (Or.inr (Or.inr (Or.inr (Or.inr (Or.inr (Or.inl ⟨h.1, h.2.1, h.2.2.2⟩)))))))))))))))))))))))))))) (fun h => h.elim (fun h => (Or.inr (Or.inr (Or.inr (Or.inr (Or.inr (Or.inr (Or.inr (Or.inr (Or.inr (Or.inr (Or.inr (Or.inr (Or.inr (Or.inr (Or.inr (Or.inr (Or.inr (Or.inr (Or.inr (Or.inr (Or.inr (Or.inr (Or.inr (Or.inr (Or.inr (Or.inr (Or.inr (Or.inl ⟨h.1, h.2.1, h.2.2.2⟩))))))))))))))))))))))))))))) (fun h => h.elim (fun h => (Or.inr (Or.inr (Or.inr (Or.inr (Or.inr (Or.inr (Or.inr (Or.inr (Or.inr (Or.inr (Or.inr (Or.inr (Or.inr (Or.inr (Or.inr (Or.inr (Or.inr (Or.inr (Or.inr (Or.inr (Or.inr (Or.inr (Or.inr (Or.inr (Or.inr (Or.inr (Or.inr (Or.inr (Or.inl ⟨h.1, h.2.1, h.2.2.2⟩)))))))))))))))))))))))))))))) (fun h => h.elim (fun h => (Or.inr (Or.inr (Or.inr (Or.inr (Or.inr (Or.inr (Or.inr (Or.inr (Or.inr (Or.inr (Or.inr (Or.inr (Or.inr (Or.inr (Or.inr (Or.inr (Or.inr (Or.inr (Or.inr (Or.inr (Or.inr (Or.inr (Or.inr (Or.inr (Or.inr (Or.inr (Or.inr (Or.inr (Or.inr (Or.inl ⟨h.1, h.2.1, h.2.2.2⟩))))))))))))))))))))))))))))))) (fun h => h.elim (fun h => (Or.inr (Or.inr (Or.inr (Or.inr (Or.inr (Or.inr (Or.inr (Or.inr (Or.inr (Or.inr (Or.inr (Or.inr (Or.inr (Or.inr (Or.inr (Or.inr (Or.inr (Or.inr (Or.inr (Or.inr (Or.inr (Or.inr (Or.inr (Or.inr (Or.inr (Or.inr (Or.inr (Or.inr (Or.inr (Or.inr (Or.inl ⟨h.1, h.2.1, h.2.2.2⟩)))))))))))))))))))))))))))))))) (fun h => h.elim (fun h => (Or.inr (Or.inr (Or.inr (Or.inr (Or.inr (Or.inr (Or.inr (Or.inr (Or.inr (Or.inr (Or.inr (Or.inr (Or.inr (Or.inr (Or.inr (Or.inr (Or.inr (Or.inr (Or.inr (Or.inr (Or.inr (Or.inr (Or.inr (Or.inr (Or.inr (Or.inr (Or.inr (Or.inr (Or.inr (Or.inr (Or.inr (Or.inl ⟨h.1, h.2.1, h.2.2.2⟩))))))))))))))))))))))))))))))))) (fun h => h.elim (fun h => (Or.inr (Or.inr (Or.inr (Or.inr (Or.inr (Or.inr (Or.inr (Or.inr (Or.inr (Or.inr (Or.inr (Or.inr (Or.inr (Or.inr (Or.inr (Or.inr (Or.inr (Or.inr (Or.inr (Or.inr (Or.inr (Or.inr (Or.inr (Or.inr (Or.inr (Or.inr (Or.inr (Or.inr (Or.inr (Or.inr (Or.inr (Or.inr (Or.inl ⟨h.1, h.2.1⟩)))))))))))))))))))))))))))))))))) (fun h => h.elim (fun h => (Or.inr (Or.inr (Or.inr (Or.inr (Or.inr (Or.inr (Or.inr (Or.inr (Or.inr (Or.inr (Or.inr (Or.inr (Or.inr (Or.inr (Or.inr (Or.inr (Or.inr (Or.inr (Or.inr (Or.inr (Or.inr (Or.inr (Or.inr (Or.inr (Or.inr (Or.inr (Or.inr (Or.inr (Or.inr (Or.inr (Or.inr (Or.inr (Or.inr (Or.inl ⟨h.1, h.2.1⟩))))))))))))))))))))))))))))))))))) (fun h => h.elim)))))))))))))
          refine w_iincB (j := 0) (f := fun z66_ => [(2, vI z66_), (0, vR (10, b, 0)), (1, vR (10, b2, 0))]) dX10_takeFrom_102 rfl (by decide) (fun _ => rfl) (rfl : v2_73.toInt = v2_73.toInt) li_1 (lf_c_X9_isOf_0 v2_73 hv0_73 h52_ ) (fun z66_ h67_ => ?_)
          refine w_goto (tgt := 73) dX10_takeFrom_105 (by decide) ?_
          refine w_loc (ls' := [(2, vI z66_), (0, vR (10, b, 0)), (1, vR (10, b2, 0))]) [0, 1, 2] rfl ?_
          exact ih_73 M59_ hI62_ hF64_ z66_ (lf_c_X5_takeFrom_3 v2_73 z66_ hv0_73 h67_ ) (RCH.tail hL_73 ⟨hv0_73, hI_73, hF_73, z49_, e50_, h51_, h52_, j53_, h54_, h55_, j56_, h57_, h58_, M59_, hI62_, hF63_, hs65_, z66_, h67_, rfl, rfl⟩) (Nat.lt_of_lt_of_le (lf_c_X9_isOf_3 v2_73 z66_ h52_ h67_ ) (Nat.le_of_lt_succ hm_73))
  exact lp48_ _ M44_ hI46_ hF47_ 0 (lf_c_X5_takeFrom_5 ) RCH.refl (Nat.lt_succ_self _)
end
section
/-! words of the tables that are used, by their places; decode rows; fields -/
theorem li_64 : (64 : Int32).toInt = 64 := by decide
theorem li_256 : (256 : Int32).toInt = 256 := by decide
theorem li_1000000 : (1000000 : Int32).toInt = 1000000 := by decide
theorem m_11 : Cond.selects yX0_noteLearned.cls yX0_noteLearned yX0_noteLearned ∈ BASE := bmem 11 (by decide +kernel) rfl
theorem m_12 : Cond.selects yX0_countLearned.cls yX0_countLearned yX0_countLearned ∈ BASE := bmem 12 (by decide +kernel) rfl
theorem m_16 : Cond.selects yX0_nearestOpen.cls yX0_nearestOpen yX0_nearestOpen ∈ BASE := bmem 16 (by decide +kernel) rfl
theorem m_17 : Cond.selects yX0_firstStep.cls yX0_firstStep yX0_firstStep ∈ BASE := bmem 17 (by decide +kernel) rfl
theorem m_20 : Cond.selects yX0_servesAll.cls yX0_servesAll yX0_servesAll ∈ BASE := bmem 20 (by decide +kernel) rfl
set_option maxRecDepth 20000 in
theorem m_89 : Cond.initialized RX0 ∈ BASE := bmT1 11 rfl rfl
set_option maxRecDepth 20000 in
theorem m_99 : Cond.initialized "java/lang/Integer" ∈ BASE := bmT1 21 rfl rfl
set_option maxRecDepth 20000 in
theorem m_100 : Cond.initialized "java/lang/Long" ∈ BASE := bmT1 22 rfl rfl
set_option maxRecDepth 20000 in
theorem m_388 : Cond.fieldLink RX0 9 "ClickStreet$Finder" "costs" "[I" ∈ BASE := bmT2 70 rfl rfl
set_option maxRecDepth 20000 in
theorem m_389 : Cond.fieldLink RX0 15 "ClickStreet$Finder" "isDone" "[Z" ∈ BASE := bmT2 71 rfl rfl
set_option maxRecDepth 20000 in
theorem m_390 : Cond.fieldLink RX0 19 "ClickStreet$Finder" "learned" "[J" ∈ BASE := bmT2 72 rfl rfl
set_option maxRecDepth 20000 in
theorem m_391 : Cond.fieldLink RX0 23 "ClickStreet$Finder" "heardPosts" "[I" ∈ BASE := bmT2 73 rfl rfl
set_option maxRecDepth 20000 in
theorem m_392 : Cond.fieldLink RX0 26 "ClickStreet$Finder" "most" "I" ∈ BASE := bmT2 74 rfl rfl
set_option maxRecDepth 20000 in
theorem m_394 : Cond.fieldLink RX0 30 "ClickStreet$Finder" "places" "I" ∈ BASE := bmT2 76 rfl rfl
set_option maxRecDepth 20000 in
theorem m_992 : Cond.methodLink RX0 76 yX6_numberAt ∈ BASE := bmT4 194 rfl rfl
set_option maxRecDepth 20000 in
theorem m_993 : Cond.methodLink RX0 79 yX7_isFree ∈ BASE := bmT4 195 rfl rfl
set_option maxRecDepth 20000 in
theorem m_994 : Cond.methodLink RX0 82 yX0_noteLearned ∈ BASE := bmT4 196 rfl rfl
set_option maxRecDepth 20000 in
theorem m_996 : Cond.instanceMethod yX0_noteLearned ∈ BASE := bmT4 198 rfl rfl
set_option maxRecDepth 20000 in
theorem m_997 : Cond.code yX0_noteLearned cX0_noteLearned 10 none ∈ BASE := bmT4 199 rfl rfl
set_option maxRecDepth 20000 in
theorem m_998 : Cond.methodLink RX0 94 yX10_hasWalker ∈ BASE := bmT4 200 rfl rfl
set_option maxRecDepth 20000 in
theorem m_999 : Cond.methodLink RX0 101 yX10_heardYards ∈ BASE := bmT4 201 rfl rfl
set_option maxRecDepth 20000 in
theorem m_1000 : Cond.methodLink RX0 46 yX7_cellFrom ∈ BASE := bmT4 202 rfl rfl
set_option maxRecDepth 20000 in
theorem m_1001 : Cond.methodLink RX0 104 yX9_canLearn ∈ BASE := bmT4 203 rfl rfl
set_option maxRecDepth 20000 in
theorem m_1002 : Cond.instanceMethod yX9_canLearn ∈ BASE := bmT4 204 rfl rfl
set_option maxRecDepth 20000 in
theorem m_1003 : Cond.selects yX9_canLearn.cls yX9_canLearn yX9_canLearn ∈ BASE := bmT4 205 rfl rfl
set_option maxRecDepth 20000 in
theorem m_1004 : Cond.code yX9_canLearn cX9_canLearn 2 (some .boolean) ∈ BASE := bmT4 206 rfl rfl
set_option maxRecDepth 20000 in
theorem m_1005 : Cond.methodLink RX0 86 yJI_bitCount ∈ BASE := bmT4 207 rfl rfl
set_option maxRecDepth 20000 in
theorem m_1006 : Cond.static yJI_bitCount ∈ BASE := bmT4 208 rfl rfl
set_option maxRecDepth 20000 in
theorem m_1007 : Cond.code yJI_bitCount cJI_bitCount 1 (some .int) ∈ BASE := bmT4 209 rfl rfl
set_option maxRecDepth 20000 in
theorem m_1011 : Cond.methodLink RX0 91 yX0_countLearned ∈ BASE := bmT4 213 rfl rfl
set_option maxRecDepth 20000 in
theorem m_1013 : Cond.instanceMethod yX0_countLearned ∈ BASE := bmT4 215 rfl rfl
set_option maxRecDepth 20000 in
theorem m_1014 : Cond.code yX0_countLearned cX0_countLearned 7 (some .int) ∈ BASE := bmT4 216 rfl rfl
set_option maxRecDepth 20000 in
theorem m_1015 : Cond.methodLink RX0 107 yJL_bitCount ∈ BASE := bmT4 217 rfl rfl
set_option maxRecDepth 20000 in
theorem m_1016 : Cond.static yJL_bitCount ∈ BASE := bmT4 218 rfl rfl
set_option maxRecDepth 20000 in
theorem m_1017 : Cond.code yJL_bitCount cJL_bitCount 2 (some .int) ∈ BASE := bmT4 219 rfl rfl
set_option maxRecDepth 20000 in
theorem m_1075 : Cond.constant RX0 33 (1000000) ∈ BASE := bmT5 37 rfl rfl
set_option maxRecDepth 20000 in
theorem m_1076 : Cond.methodLink RX0 34 yX7_isCell ∈ BASE := bmT5 38 rfl rfl
set_option maxRecDepth 20000 in
theorem m_1077 : Cond.methodLink RX0 38 yX0_nearestOpen ∈ BASE := bmT5 39 rfl rfl
set_option maxRecDepth 20000 in
theorem m_1079 : Cond.instanceMethod yX0_nearestOpen ∈ BASE := bmT5 41 rfl rfl
set_option maxRecDepth 20000 in
theorem m_1080 : Cond.code yX0_nearestOpen cX0_nearestOpen 3 (some .int) ∈ BASE := bmT5 42 rfl rfl
set_option maxRecDepth 20000 in
theorem m_1081 : Cond.methodLink RX0 42 yX0_costInto ∈ BASE := bmT5 43 rfl rfl
set_option maxRecDepth 20000 in
theorem m_1082 : Cond.static yX0_costInto ∈ BASE := bmT5 44 rfl rfl
set_option maxRecDepth 20000 in
theorem m_1083 : Cond.code yX0_costInto cX0_costInto 3 (some .int) ∈ BASE := bmT5 45 rfl rfl
set_option maxRecDepth 20000 in
theorem m_1084 : Cond.methodLink RX0 50 yX9_held ∈ BASE := bmT5 46 rfl rfl
set_option maxRecDepth 20000 in
theorem m_1086 : Cond.instanceMethod yX0_costFrom ∈ BASE := bmT5 48 rfl rfl
set_option maxRecDepth 20000 in
theorem m_1087 : Cond.selects yX0_costFrom.cls yX0_costFrom yX0_costFrom ∈ BASE := bmT5 49 rfl rfl
set_option maxRecDepth 20000 in
theorem m_1088 : Cond.code yX0_costFrom cX0_costFrom 2 (some .int) ∈ BASE := bmT5 50 rfl rfl
set_option maxRecDepth 20000 in
theorem m_1093 : Cond.methodLink RX0 59 yX0_firstStep ∈ BASE := bmT5 55 rfl rfl
set_option maxRecDepth 20000 in
theorem m_1095 : Cond.instanceMethod yX0_firstStep ∈ BASE := bmT5 57 rfl rfl
set_option maxRecDepth 20000 in
theorem m_1096 : Cond.code yX0_firstStep cX0_firstStep 5 (some .int) ∈ BASE := bmT5 58 rfl rfl
set_option maxRecDepth 20000 in
theorem m_1097 : Cond.methodLink RX0 62 yX0_costFrom ∈ BASE := bmT5 59 rfl rfl
set_option maxRecDepth 20000 in
theorem m_1163 : Cond.methodLink RX0 112 yX0_wouldHear ∈ BASE := bmT5 125 rfl rfl
set_option maxRecDepth 20000 in
theorem m_1164 : Cond.static yX0_wouldHear ∈ BASE := bmT5 126 rfl rfl
set_option maxRecDepth 20000 in
theorem m_1165 : Cond.code yX0_wouldHear cX0_wouldHear 8 (some .boolean) ∈ BASE := bmT5 127 rfl rfl
set_option maxRecDepth 20000 in
theorem m_1166 : Cond.methodLink RX0 120 yX9_reach ∈ BASE := bmT5 128 rfl rfl
set_option maxRecDepth 20000 in
theorem m_1167 : Cond.methodLink RX0 123 yX10_isFreeBut ∈ BASE := bmT5 129 rfl rfl
set_option maxRecDepth 20000 in
theorem m_1168 : Cond.methodLink RX0 130 yX9_ears ∈ BASE := bmT5 130 rfl rfl
set_option maxRecDepth 20000 in
theorem m_1169 : Cond.methodLink RX0 133 yX9_ownClick ∈ BASE := bmT5 131 rfl rfl
set_option maxRecDepth 20000 in
theorem m_1170 : Cond.methodLink RX0 136 yX2_hears ∈ BASE := bmT5 132 rfl rfl
set_option maxRecDepth 20000 in
theorem m_1171 : Cond.methodLink RX0 116 yX0_servesAll ∈ BASE := bmT5 133 rfl rfl
set_option maxRecDepth 20000 in
theorem m_1173 : Cond.instanceMethod yX0_servesAll ∈ BASE := bmT5 135 rfl rfl
set_option maxRecDepth 20000 in
theorem m_1174 : Cond.code yX0_servesAll cX0_servesAll 4 (some .boolean) ∈ BASE := bmT5 136 rfl rfl
theorem kS_JI_bitCount : KS yJI_bitCount cJI_bitCount 1 (some .int) 1 := ⟨m_1006, m_99, m_1007, nhM_9, nhV_9, pdn_2⟩
theorem kS_JL_bitCount : KS yJL_bitCount cJL_bitCount 2 (some .int) 1 := ⟨m_1016, m_100, m_1017, nhM_10, nhV_10, pdn_21⟩
theorem kS_X0_costInto : KS yX0_costInto cX0_costInto 3 (some .int) 2 := ⟨m_1082, m_89, m_1083, nhM_11, nhV_11, pdn_22⟩
theorem kS_X0_wouldHear : KS yX0_wouldHear cX0_wouldHear 8 (some .boolean) 4 := ⟨m_1164, m_89, m_1165, nhM_11, nhV_11, pdn_23⟩
theorem kV_X0_costFrom : KV yX0_costFrom cX0_costFrom 2 (some .int) 1 := ⟨m_1086, m_1087, m_89, m_1088, nhM_11, nhV_11, pdn_2⟩
theorem kV_X0_countLearned : KV yX0_countLearned cX0_countLearned 7 (some .int) 1 := ⟨m_1013, m_12, m_89, m_1014, nhM_11, nhV_11, pdn_2⟩
theorem kV_X0_firstStep : KV yX0_firstStep cX0_firstStep 5 (some .int) 2 := ⟨m_1095, m_17, m_89, m_1096, nhM_11, nhV_11, pdn_22⟩
theorem kV_X0_nearestOpen : KV yX0_nearestOpen cX0_nearestOpen 3 (some .int) 0 := ⟨m_1079, m_16, m_89, m_1080, nhM_11, nhV_11, pdn_6⟩
theorem kV_X0_noteLearned : KV yX0_noteLearned cX0_noteLearned 10 none 4 := ⟨m_996, m_11, m_89, m_997, nhM_11, nhV_11, pdn_24⟩
theorem kV_X0_servesAll : KV yX0_servesAll cX0_servesAll 4 (some .boolean) 2 := ⟨m_1173, m_20, m_89, m_1174, nhM_11, nhV_11, pdn_7⟩
theorem kV_X9_canLearn : KV yX9_canLearn cX9_canLearn 2 (some .boolean) 1 := ⟨m_1002, m_1003, m_87, m_1004, nhM_3, nhV_3, pdn_1⟩
theorem inB0 : ∀ w ∈ u_ws RX0 TX0 6, w ∈ BASE := bmems (u_ws RX0 TX0 6) [396, 398, 400, 402, 404, 406] (by decide +kernel) (by decide +kernel)
theorem fl_RX0_126 : FLK RX0 126 10 1 (.object "ClickStreet$Laws") true := ⟨RX10, TX10, 8, tyX10, rfl, inB10, tyX10_ok, nmX10, by decide, rfl, rfl, Or.inr ⟨"ClickStreet", List.mem_of_getElem? (l := NFs) (i := 33) rfl⟩⟩
theorem fl_RX0_15 : FLK RX0 15 0 1 (.array .boolean) true := ⟨RX0, TX0, 6, tyX0, rfl, inB0, tyX0_ok, nmX0, by decide, rfl, rfl, Or.inl m_389⟩
theorem fl_RX0_19 : FLK RX0 19 0 2 (.array .long) true := ⟨RX0, TX0, 6, tyX0, rfl, inB0, tyX0_ok, nmX0, by decide, rfl, rfl, Or.inl m_390⟩
theorem fl_RX0_23 : FLK RX0 23 0 3 (.array .int) true := ⟨RX0, TX0, 6, tyX0, rfl, inB0, tyX0_ok, nmX0, by decide, rfl, rfl, Or.inl m_391⟩
theorem fl_RX0_26 : FLK RX0 26 0 4 .int false := ⟨RX0, TX0, 6, tyX0, rfl, inB0, tyX0_ok, nmX0, by decide, rfl, rfl, Or.inl m_392⟩
theorem fl_RX0_30 : FLK RX0 30 0 5 .int false := ⟨RX0, TX0, 6, tyX0, rfl, inB0, tyX0_ok, nmX0, by decide, rfl, rfl, Or.inl m_394⟩
theorem fl_RX0_56 : FLK RX0 56 9 1 .int false := ⟨RX9, TX9, 11, tyX9, rfl, inB9, tyX9_ok, nmX9, by decide, rfl, rfl, Or.inr ⟨"ClickStreet", List.mem_of_getElem? (l := NFs) (i := 14) rfl⟩⟩
theorem fl_RX0_65 : FLK RX0 65 6 1 .int false := ⟨RX6, TX6, 3, tyX6, rfl, inB6, tyX6_ok, nmX6, by decide, rfl, rfl, Or.inr ⟨"ClickStreet", List.mem_of_getElem? (l := NFs) (i := 47) rfl⟩⟩
theorem fl_RX0_70 : FLK RX0 70 10 0 (.object "ClickStreet$Street") true := ⟨RX10, TX10, 8, tyX10, rfl, inB10, tyX10_ok, nmX10, by decide, rfl, rfl, Or.inr ⟨"ClickStreet", List.mem_of_getElem? (l := NFs) (i := 31) rfl⟩⟩
theorem fl_RX0_9 : FLK RX0 9 0 0 (.array .int) true := ⟨RX0, TX0, 6, tyX0, rfl, inB0, tyX0_ok, nmX0, by decide, rfl, rfl, Or.inl m_388⟩
theorem fl_RX0_97 : FLK RX0 97 10 5 (.array (.object "ClickStreet$Walker")) true := ⟨RX10, TX10, 8, tyX10, rfl, inB10, tyX10_ok, nmX10, by decide, rfl, rfl, Or.inr ⟨"ClickStreet", List.mem_of_getElem? (l := NFs) (i := 37) rfl⟩⟩
theorem ch_cX0_cellAfter_0 : (cX0_cellAfter.data.toList.drop 0).take 36 = [43, 180, 0, 56, 54, 4, 29, 17, 0, 192, 161, 0, 5, 2, 172, 3, 54, 5, 21, 5, 29, 162, 0, 31, 21, 4, 28, 159, 0, 8, 21, 4, 156, 0, 5, 2] := by decide +kernel
theorem dX0_cellAfter_0 : decode cX0_cellAfter 0 = .ok (.aload_n 1, 1) := do_43 (rdb (p := 0) (i := 0) ch_cX0_cellAfter_0 rfl)
theorem dX0_cellAfter_1 : decode cX0_cellAfter 1 = .ok (.getfield 56, 3) := do_180 (rdb (p := 0) (i := 1) ch_cX0_cellAfter_0 rfl) (rdb (p := 0) (i := 2) ch_cX0_cellAfter_0 rfl) (rdb (p := 0) (i := 3) ch_cX0_cellAfter_0 rfl) rfl
theorem dX0_cellAfter_4 : decode cX0_cellAfter 4 = .ok (.istore 4, 2) := do_54 (rdb (p := 0) (i := 4) ch_cX0_cellAfter_0 rfl) (rdb (p := 0) (i := 5) ch_cX0_cellAfter_0 rfl)
theorem dX0_cellAfter_6 : decode cX0_cellAfter 6 = .ok (.iload_n 3, 1) := do_29 (rdb (p := 0) (i := 6) ch_cX0_cellAfter_0 rfl)
theorem dX0_cellAfter_7 : decode cX0_cellAfter 7 = .ok (.sipush 192, 3) := do_17 (rdb (p := 0) (i := 7) ch_cX0_cellAfter_0 rfl) (rdb (p := 0) (i := 8) ch_cX0_cellAfter_0 rfl) (rdb (p := 0) (i := 9) ch_cX0_cellAfter_0 rfl) (by decide +kernel)
theorem dX0_cellAfter_10 : decode cX0_cellAfter 10 = .ok (.if_icmp .lt 5, 3) := do_161 (rdb (p := 0) (i := 10) ch_cX0_cellAfter_0 rfl) (rdb (p := 0) (i := 11) ch_cX0_cellAfter_0 rfl) (rdb (p := 0) (i := 12) ch_cX0_cellAfter_0 rfl) (by decide +kernel)
theorem dX0_cellAfter_13 : decode cX0_cellAfter 13 = .ok (.iconst (-1), 1) := do_2 (rdb (p := 0) (i := 13) ch_cX0_cellAfter_0 rfl)
theorem dX0_cellAfter_14 : decode cX0_cellAfter 14 = .ok (.ireturn, 1) := do_172 (rdb (p := 0) (i := 14) ch_cX0_cellAfter_0 rfl)
theorem dX0_cellAfter_15 : decode cX0_cellAfter 15 = .ok (.iconst 0, 1) := do_3 (rdb (p := 0) (i := 15) ch_cX0_cellAfter_0 rfl)
theorem dX0_cellAfter_16 : decode cX0_cellAfter 16 = .ok (.istore 5, 2) := do_54 (rdb (p := 0) (i := 16) ch_cX0_cellAfter_0 rfl) (rdb (p := 0) (i := 17) ch_cX0_cellAfter_0 rfl)
theorem dX0_cellAfter_18 : decode cX0_cellAfter 18 = .ok (.iload 5, 2) := do_21 (rdb (p := 0) (i := 18) ch_cX0_cellAfter_0 rfl) (rdb (p := 0) (i := 19) ch_cX0_cellAfter_0 rfl)
theorem dX0_cellAfter_20 : decode cX0_cellAfter 20 = .ok (.iload_n 3, 1) := do_29 (rdb (p := 0) (i := 20) ch_cX0_cellAfter_0 rfl)
theorem dX0_cellAfter_21 : decode cX0_cellAfter 21 = .ok (.if_icmp .ge 31, 3) := do_162 (rdb (p := 0) (i := 21) ch_cX0_cellAfter_0 rfl) (rdb (p := 0) (i := 22) ch_cX0_cellAfter_0 rfl) (rdb (p := 0) (i := 23) ch_cX0_cellAfter_0 rfl) (by decide +kernel)
theorem dX0_cellAfter_24 : decode cX0_cellAfter 24 = .ok (.iload 4, 2) := do_21 (rdb (p := 0) (i := 24) ch_cX0_cellAfter_0 rfl) (rdb (p := 0) (i := 25) ch_cX0_cellAfter_0 rfl)
theorem dX0_cellAfter_26 : decode cX0_cellAfter 26 = .ok (.iload_n 2, 1) := do_28 (rdb (p := 0) (i := 26) ch_cX0_cellAfter_0 rfl)
theorem dX0_cellAfter_27 : decode cX0_cellAfter 27 = .ok (.if_icmp .eq 8, 3) := do_159 (rdb (p := 0) (i := 27) ch_cX0_cellAfter_0 rfl) (rdb (p := 0) (i := 28) ch_cX0_cellAfter_0 rfl) (rdb (p := 0) (i := 29) ch_cX0_cellAfter_0 rfl) (by decide +kernel)
theorem dX0_cellAfter_30 : decode cX0_cellAfter 30 = .ok (.iload 4, 2) := do_21 (rdb (p := 0) (i := 30) ch_cX0_cellAfter_0 rfl) (rdb (p := 0) (i := 31) ch_cX0_cellAfter_0 rfl)
theorem ch_cX0_cellAfter_32 : (cX0_cellAfter.data.toList.drop 32).take 36 = [156, 0, 5, 2, 172, 42, 43, 21, 4, 182, 0, 59, 54, 4, 132, 5, 1, 167, 255, 225, 21, 4, 172] := by decide +kernel
theorem dX0_cellAfter_32 : decode cX0_cellAfter 32 = .ok (.ifCond .ge 5, 3) := do_156 (rdb (p := 32) (i := 0) ch_cX0_cellAfter_32 rfl) (rdb (p := 32) (i := 1) ch_cX0_cellAfter_32 rfl) (rdb (p := 32) (i := 2) ch_cX0_cellAfter_32 rfl) (by decide +kernel)
theorem dX0_cellAfter_35 : decode cX0_cellAfter 35 = .ok (.iconst (-1), 1) := do_2 (rdb (p := 32) (i := 3) ch_cX0_cellAfter_32 rfl)
theorem dX0_cellAfter_36 : decode cX0_cellAfter 36 = .ok (.ireturn, 1) := do_172 (rdb (p := 32) (i := 4) ch_cX0_cellAfter_32 rfl)
theorem dX0_cellAfter_37 : decode cX0_cellAfter 37 = .ok (.aload_n 0, 1) := do_42 (rdb (p := 32) (i := 5) ch_cX0_cellAfter_32 rfl)
theorem dX0_cellAfter_38 : decode cX0_cellAfter 38 = .ok (.aload_n 1, 1) := do_43 (rdb (p := 32) (i := 6) ch_cX0_cellAfter_32 rfl)
theorem dX0_cellAfter_39 : decode cX0_cellAfter 39 = .ok (.iload 4, 2) := do_21 (rdb (p := 32) (i := 7) ch_cX0_cellAfter_32 rfl) (rdb (p := 32) (i := 8) ch_cX0_cellAfter_32 rfl)
theorem dX0_cellAfter_41 : decode cX0_cellAfter 41 = .ok (.invokevirtual 59, 3) := do_182 (rdb (p := 32) (i := 9) ch_cX0_cellAfter_32 rfl) (rdb (p := 32) (i := 10) ch_cX0_cellAfter_32 rfl) (rdb (p := 32) (i := 11) ch_cX0_cellAfter_32 rfl) rfl
theorem dX0_cellAfter_44 : decode cX0_cellAfter 44 = .ok (.istore 4, 2) := do_54 (rdb (p := 32) (i := 12) ch_cX0_cellAfter_32 rfl) (rdb (p := 32) (i := 13) ch_cX0_cellAfter_32 rfl)
theorem dX0_cellAfter_46 : decode cX0_cellAfter 46 = .ok (.iinc 5 1, 3) := do_132 (rdb (p := 32) (i := 14) ch_cX0_cellAfter_32 rfl) (rdb (p := 32) (i := 15) ch_cX0_cellAfter_32 rfl) (rdb (p := 32) (i := 16) ch_cX0_cellAfter_32 rfl) (by decide +kernel)
theorem dX0_cellAfter_49 : decode cX0_cellAfter 49 = .ok (.goto (-31), 3) := do_167 (rdb (p := 32) (i := 17) ch_cX0_cellAfter_32 rfl) (rdb (p := 32) (i := 18) ch_cX0_cellAfter_32 rfl) (rdb (p := 32) (i := 19) ch_cX0_cellAfter_32 rfl) (by decide +kernel)
theorem dX0_cellAfter_52 : decode cX0_cellAfter 52 = .ok (.iload 4, 2) := do_21 (rdb (p := 32) (i := 20) ch_cX0_cellAfter_32 rfl) (rdb (p := 32) (i := 21) ch_cX0_cellAfter_32 rfl)
theorem dX0_cellAfter_54 : decode cX0_cellAfter 54 = .ok (.ireturn, 1) := do_172 (rdb (p := 32) (i := 22) ch_cX0_cellAfter_32 rfl)
theorem ch_cX0_choosePosts_0 : (cX0_choosePosts.data.toList.drop 0).take 36 = [3, 54, 5, 21, 5, 25, 4, 180, 0, 65, 162, 0, 84, 21, 5, 16, 8, 162, 0, 77, 42, 180, 0, 23, 21, 5, 3, 79, 3, 54, 6, 21, 6, 45, 180, 0] := by decide +kernel
theorem dX0_choosePosts_0 : decode cX0_choosePosts 0 = .ok (.iconst 0, 1) := do_3 (rdb (p := 0) (i := 0) ch_cX0_choosePosts_0 rfl)
theorem dX0_choosePosts_1 : decode cX0_choosePosts 1 = .ok (.istore 5, 2) := do_54 (rdb (p := 0) (i := 1) ch_cX0_choosePosts_0 rfl) (rdb (p := 0) (i := 2) ch_cX0_choosePosts_0 rfl)
theorem dX0_choosePosts_3 : decode cX0_choosePosts 3 = .ok (.iload 5, 2) := do_21 (rdb (p := 0) (i := 3) ch_cX0_choosePosts_0 rfl) (rdb (p := 0) (i := 4) ch_cX0_choosePosts_0 rfl)
theorem dX0_choosePosts_5 : decode cX0_choosePosts 5 = .ok (.aload 4, 2) := do_25 (rdb (p := 0) (i := 5) ch_cX0_choosePosts_0 rfl) (rdb (p := 0) (i := 6) ch_cX0_choosePosts_0 rfl)
theorem dX0_choosePosts_7 : decode cX0_choosePosts 7 = .ok (.getfield 65, 3) := do_180 (rdb (p := 0) (i := 7) ch_cX0_choosePosts_0 rfl) (rdb (p := 0) (i := 8) ch_cX0_choosePosts_0 rfl) (rdb (p := 0) (i := 9) ch_cX0_choosePosts_0 rfl) rfl
theorem dX0_choosePosts_10 : decode cX0_choosePosts 10 = .ok (.if_icmp .ge 84, 3) := do_162 (rdb (p := 0) (i := 10) ch_cX0_choosePosts_0 rfl) (rdb (p := 0) (i := 11) ch_cX0_choosePosts_0 rfl) (rdb (p := 0) (i := 12) ch_cX0_choosePosts_0 rfl) (by decide +kernel)
theorem dX0_choosePosts_13 : decode cX0_choosePosts 13 = .ok (.iload 5, 2) := do_21 (rdb (p := 0) (i := 13) ch_cX0_choosePosts_0 rfl) (rdb (p := 0) (i := 14) ch_cX0_choosePosts_0 rfl)
theorem dX0_choosePosts_15 : decode cX0_choosePosts 15 = .ok (.bipush 8, 2) := do_16 (rdb (p := 0) (i := 15) ch_cX0_choosePosts_0 rfl) (rdb (p := 0) (i := 16) ch_cX0_choosePosts_0 rfl) (by decide +kernel)
theorem dX0_choosePosts_17 : decode cX0_choosePosts 17 = .ok (.if_icmp .ge 77, 3) := do_162 (rdb (p := 0) (i := 17) ch_cX0_choosePosts_0 rfl) (rdb (p := 0) (i := 18) ch_cX0_choosePosts_0 rfl) (rdb (p := 0) (i := 19) ch_cX0_choosePosts_0 rfl) (by decide +kernel)
theorem dX0_choosePosts_20 : decode cX0_choosePosts 20 = .ok (.aload_n 0, 1) := do_42 (rdb (p := 0) (i := 20) ch_cX0_choosePosts_0 rfl)
theorem dX0_choosePosts_21 : decode cX0_choosePosts 21 = .ok (.getfield 23, 3) := do_180 (rdb (p := 0) (i := 21) ch_cX0_choosePosts_0 rfl) (rdb (p := 0) (i := 22) ch_cX0_choosePosts_0 rfl) (rdb (p := 0) (i := 23) ch_cX0_choosePosts_0 rfl) rfl
theorem dX0_choosePosts_24 : decode cX0_choosePosts 24 = .ok (.iload 5, 2) := do_21 (rdb (p := 0) (i := 24) ch_cX0_choosePosts_0 rfl) (rdb (p := 0) (i := 25) ch_cX0_choosePosts_0 rfl)
theorem dX0_choosePosts_26 : decode cX0_choosePosts 26 = .ok (.iconst 0, 1) := do_3 (rdb (p := 0) (i := 26) ch_cX0_choosePosts_0 rfl)
theorem dX0_choosePosts_27 : decode cX0_choosePosts 27 = .ok (.iastore, 1) := do_79 (rdb (p := 0) (i := 27) ch_cX0_choosePosts_0 rfl)
theorem dX0_choosePosts_28 : decode cX0_choosePosts 28 = .ok (.iconst 0, 1) := do_3 (rdb (p := 0) (i := 28) ch_cX0_choosePosts_0 rfl)
theorem dX0_choosePosts_29 : decode cX0_choosePosts 29 = .ok (.istore 6, 2) := do_54 (rdb (p := 0) (i := 29) ch_cX0_choosePosts_0 rfl) (rdb (p := 0) (i := 30) ch_cX0_choosePosts_0 rfl)
theorem dX0_choosePosts_31 : decode cX0_choosePosts 31 = .ok (.iload 6, 2) := do_21 (rdb (p := 0) (i := 31) ch_cX0_choosePosts_0 rfl) (rdb (p := 0) (i := 32) ch_cX0_choosePosts_0 rfl)
theorem ch_cX0_choosePosts_32 : (cX0_choosePosts.data.toList.drop 32).take 36 = [6, 45, 180, 0, 65, 162, 0, 51, 21, 6, 16, 8, 162, 0, 44, 43, 28, 25, 4, 21, 5, 182, 0, 76, 45, 21, 6, 182, 0, 76, 184, 0, 112, 153, 0, 17] := by decide +kernel
theorem dX0_choosePosts_33 : decode cX0_choosePosts 33 = .ok (.aload_n 3, 1) := do_45 (rdb (p := 32) (i := 1) ch_cX0_choosePosts_32 rfl)
theorem dX0_choosePosts_34 : decode cX0_choosePosts 34 = .ok (.getfield 65, 3) := do_180 (rdb (p := 32) (i := 2) ch_cX0_choosePosts_32 rfl) (rdb (p := 32) (i := 3) ch_cX0_choosePosts_32 rfl) (rdb (p := 32) (i := 4) ch_cX0_choosePosts_32 rfl) rfl
theorem dX0_choosePosts_37 : decode cX0_choosePosts 37 = .ok (.if_icmp .ge 51, 3) := do_162 (rdb (p := 32) (i := 5) ch_cX0_choosePosts_32 rfl) (rdb (p := 32) (i := 6) ch_cX0_choosePosts_32 rfl) (rdb (p := 32) (i := 7) ch_cX0_choosePosts_32 rfl) (by decide +kernel)
theorem dX0_choosePosts_40 : decode cX0_choosePosts 40 = .ok (.iload 6, 2) := do_21 (rdb (p := 32) (i := 8) ch_cX0_choosePosts_32 rfl) (rdb (p := 32) (i := 9) ch_cX0_choosePosts_32 rfl)
theorem dX0_choosePosts_42 : decode cX0_choosePosts 42 = .ok (.bipush 8, 2) := do_16 (rdb (p := 32) (i := 10) ch_cX0_choosePosts_32 rfl) (rdb (p := 32) (i := 11) ch_cX0_choosePosts_32 rfl) (by decide +kernel)
theorem dX0_choosePosts_44 : decode cX0_choosePosts 44 = .ok (.if_icmp .ge 44, 3) := do_162 (rdb (p := 32) (i := 12) ch_cX0_choosePosts_32 rfl) (rdb (p := 32) (i := 13) ch_cX0_choosePosts_32 rfl) (rdb (p := 32) (i := 14) ch_cX0_choosePosts_32 rfl) (by decide +kernel)
theorem dX0_choosePosts_47 : decode cX0_choosePosts 47 = .ok (.aload_n 1, 1) := do_43 (rdb (p := 32) (i := 15) ch_cX0_choosePosts_32 rfl)
theorem dX0_choosePosts_48 : decode cX0_choosePosts 48 = .ok (.iload_n 2, 1) := do_28 (rdb (p := 32) (i := 16) ch_cX0_choosePosts_32 rfl)
theorem dX0_choosePosts_49 : decode cX0_choosePosts 49 = .ok (.aload 4, 2) := do_25 (rdb (p := 32) (i := 17) ch_cX0_choosePosts_32 rfl) (rdb (p := 32) (i := 18) ch_cX0_choosePosts_32 rfl)
theorem dX0_choosePosts_51 : decode cX0_choosePosts 51 = .ok (.iload 5, 2) := do_21 (rdb (p := 32) (i := 19) ch_cX0_choosePosts_32 rfl) (rdb (p := 32) (i := 20) ch_cX0_choosePosts_32 rfl)
theorem dX0_choosePosts_53 : decode cX0_choosePosts 53 = .ok (.invokevirtual 76, 3) := do_182 (rdb (p := 32) (i := 21) ch_cX0_choosePosts_32 rfl) (rdb (p := 32) (i := 22) ch_cX0_choosePosts_32 rfl) (rdb (p := 32) (i := 23) ch_cX0_choosePosts_32 rfl) rfl
theorem dX0_choosePosts_56 : decode cX0_choosePosts 56 = .ok (.aload_n 3, 1) := do_45 (rdb (p := 32) (i := 24) ch_cX0_choosePosts_32 rfl)
theorem dX0_choosePosts_57 : decode cX0_choosePosts 57 = .ok (.iload 6, 2) := do_21 (rdb (p := 32) (i := 25) ch_cX0_choosePosts_32 rfl) (rdb (p := 32) (i := 26) ch_cX0_choosePosts_32 rfl)
theorem dX0_choosePosts_59 : decode cX0_choosePosts 59 = .ok (.invokevirtual 76, 3) := do_182 (rdb (p := 32) (i := 27) ch_cX0_choosePosts_32 rfl) (rdb (p := 32) (i := 28) ch_cX0_choosePosts_32 rfl) (rdb (p := 32) (i := 29) ch_cX0_choosePosts_32 rfl) rfl
theorem dX0_choosePosts_62 : decode cX0_choosePosts 62 = .ok (.invokestatic 112, 3) := do_184 (rdb (p := 32) (i := 30) ch_cX0_choosePosts_32 rfl) (rdb (p := 32) (i := 31) ch_cX0_choosePosts_32 rfl) (rdb (p := 32) (i := 32) ch_cX0_choosePosts_32 rfl) rfl
theorem ch_cX0_choosePosts_64 : (cX0_choosePosts.data.toList.drop 64).take 36 = [112, 153, 0, 17, 42, 180, 0, 23, 21, 5, 92, 46, 4, 21, 6, 120, 128, 79, 132, 6, 1, 167, 255, 202, 132, 5, 1, 167, 255, 168, 42, 3, 181, 0, 30, 4] := by decide +kernel
theorem dX0_choosePosts_65 : decode cX0_choosePosts 65 = .ok (.ifCond .eq 17, 3) := do_153 (rdb (p := 64) (i := 1) ch_cX0_choosePosts_64 rfl) (rdb (p := 64) (i := 2) ch_cX0_choosePosts_64 rfl) (rdb (p := 64) (i := 3) ch_cX0_choosePosts_64 rfl) (by decide +kernel)
theorem dX0_choosePosts_68 : decode cX0_choosePosts 68 = .ok (.aload_n 0, 1) := do_42 (rdb (p := 64) (i := 4) ch_cX0_choosePosts_64 rfl)
theorem dX0_choosePosts_69 : decode cX0_choosePosts 69 = .ok (.getfield 23, 3) := do_180 (rdb (p := 64) (i := 5) ch_cX0_choosePosts_64 rfl) (rdb (p := 64) (i := 6) ch_cX0_choosePosts_64 rfl) (rdb (p := 64) (i := 7) ch_cX0_choosePosts_64 rfl) rfl
theorem dX0_choosePosts_72 : decode cX0_choosePosts 72 = .ok (.iload 5, 2) := do_21 (rdb (p := 64) (i := 8) ch_cX0_choosePosts_64 rfl) (rdb (p := 64) (i := 9) ch_cX0_choosePosts_64 rfl)
theorem dX0_choosePosts_74 : decode cX0_choosePosts 74 = .ok (.dup2, 1) := do_92 (rdb (p := 64) (i := 10) ch_cX0_choosePosts_64 rfl)
theorem dX0_choosePosts_75 : decode cX0_choosePosts 75 = .ok (.iaload, 1) := do_46 (rdb (p := 64) (i := 11) ch_cX0_choosePosts_64 rfl)
theorem dX0_choosePosts_76 : decode cX0_choosePosts 76 = .ok (.iconst 1, 1) := do_4 (rdb (p := 64) (i := 12) ch_cX0_choosePosts_64 rfl)
theorem dX0_choosePosts_77 : decode cX0_choosePosts 77 = .ok (.iload 6, 2) := do_21 (rdb (p := 64) (i := 13) ch_cX0_choosePosts_64 rfl) (rdb (p := 64) (i := 14) ch_cX0_choosePosts_64 rfl)
theorem dX0_choosePosts_79 : decode cX0_choosePosts 79 = .ok (.ishl, 1) := do_120 (rdb (p := 64) (i := 15) ch_cX0_choosePosts_64 rfl)
theorem dX0_choosePosts_80 : decode cX0_choosePosts 80 = .ok (.ior, 1) := do_128 (rdb (p := 64) (i := 16) ch_cX0_choosePosts_64 rfl)
theorem dX0_choosePosts_81 : decode cX0_choosePosts 81 = .ok (.iastore, 1) := do_79 (rdb (p := 64) (i := 17) ch_cX0_choosePosts_64 rfl)
theorem dX0_choosePosts_82 : decode cX0_choosePosts 82 = .ok (.iinc 6 1, 3) := do_132 (rdb (p := 64) (i := 18) ch_cX0_choosePosts_64 rfl) (rdb (p := 64) (i := 19) ch_cX0_choosePosts_64 rfl) (rdb (p := 64) (i := 20) ch_cX0_choosePosts_64 rfl) (by decide +kernel)
theorem dX0_choosePosts_85 : decode cX0_choosePosts 85 = .ok (.goto (-54), 3) := do_167 (rdb (p := 64) (i := 21) ch_cX0_choosePosts_64 rfl) (rdb (p := 64) (i := 22) ch_cX0_choosePosts_64 rfl) (rdb (p := 64) (i := 23) ch_cX0_choosePosts_64 rfl) (by decide +kernel)
theorem dX0_choosePosts_88 : decode cX0_choosePosts 88 = .ok (.iinc 5 1, 3) := do_132 (rdb (p := 64) (i := 24) ch_cX0_choosePosts_64 rfl) (rdb (p := 64) (i := 25) ch_cX0_choosePosts_64 rfl) (rdb (p := 64) (i := 26) ch_cX0_choosePosts_64 rfl) (by decide +kernel)
theorem dX0_choosePosts_91 : decode cX0_choosePosts 91 = .ok (.goto (-88), 3) := do_167 (rdb (p := 64) (i := 27) ch_cX0_choosePosts_64 rfl) (rdb (p := 64) (i := 28) ch_cX0_choosePosts_64 rfl) (rdb (p := 64) (i := 29) ch_cX0_choosePosts_64 rfl) (by decide +kernel)
theorem dX0_choosePosts_94 : decode cX0_choosePosts 94 = .ok (.aload_n 0, 1) := do_42 (rdb (p := 64) (i := 30) ch_cX0_choosePosts_64 rfl)
theorem dX0_choosePosts_95 : decode cX0_choosePosts 95 = .ok (.iconst 0, 1) := do_3 (rdb (p := 64) (i := 31) ch_cX0_choosePosts_64 rfl)
theorem ch_cX0_choosePosts_96 : (cX0_choosePosts.data.toList.drop 96).take 36 = [181, 0, 30, 4, 54, 5, 21, 5, 17, 1, 0, 162, 0, 74, 42, 180, 0, 30, 153, 0, 18, 21, 5, 184, 0, 86, 42, 180, 0, 30, 184, 0, 86, 162, 0, 7] := by decide +kernel
theorem dX0_choosePosts_96 : decode cX0_choosePosts 96 = .ok (.putfield 30, 3) := do_181 (rdb (p := 96) (i := 0) ch_cX0_choosePosts_96 rfl) (rdb (p := 96) (i := 1) ch_cX0_choosePosts_96 rfl) (rdb (p := 96) (i := 2) ch_cX0_choosePosts_96 rfl) rfl
theorem dX0_choosePosts_99 : decode cX0_choosePosts 99 = .ok (.iconst 1, 1) := do_4 (rdb (p := 96) (i := 3) ch_cX0_choosePosts_96 rfl)
theorem dX0_choosePosts_100 : decode cX0_choosePosts 100 = .ok (.istore 5, 2) := do_54 (rdb (p := 96) (i := 4) ch_cX0_choosePosts_96 rfl) (rdb (p := 96) (i := 5) ch_cX0_choosePosts_96 rfl)
theorem dX0_choosePosts_102 : decode cX0_choosePosts 102 = .ok (.iload 5, 2) := do_21 (rdb (p := 96) (i := 6) ch_cX0_choosePosts_96 rfl) (rdb (p := 96) (i := 7) ch_cX0_choosePosts_96 rfl)
theorem dX0_choosePosts_104 : decode cX0_choosePosts 104 = .ok (.sipush 256, 3) := do_17 (rdb (p := 96) (i := 8) ch_cX0_choosePosts_96 rfl) (rdb (p := 96) (i := 9) ch_cX0_choosePosts_96 rfl) (rdb (p := 96) (i := 10) ch_cX0_choosePosts_96 rfl) (by decide +kernel)
theorem dX0_choosePosts_107 : decode cX0_choosePosts 107 = .ok (.if_icmp .ge 74, 3) := do_162 (rdb (p := 96) (i := 11) ch_cX0_choosePosts_96 rfl) (rdb (p := 96) (i := 12) ch_cX0_choosePosts_96 rfl) (rdb (p := 96) (i := 13) ch_cX0_choosePosts_96 rfl) (by decide +kernel)
theorem dX0_choosePosts_110 : decode cX0_choosePosts 110 = .ok (.aload_n 0, 1) := do_42 (rdb (p := 96) (i := 14) ch_cX0_choosePosts_96 rfl)
theorem dX0_choosePosts_111 : decode cX0_choosePosts 111 = .ok (.getfield 30, 3) := do_180 (rdb (p := 96) (i := 15) ch_cX0_choosePosts_96 rfl) (rdb (p := 96) (i := 16) ch_cX0_choosePosts_96 rfl) (rdb (p := 96) (i := 17) ch_cX0_choosePosts_96 rfl) rfl
theorem dX0_choosePosts_114 : decode cX0_choosePosts 114 = .ok (.ifCond .eq 18, 3) := do_153 (rdb (p := 96) (i := 18) ch_cX0_choosePosts_96 rfl) (rdb (p := 96) (i := 19) ch_cX0_choosePosts_96 rfl) (rdb (p := 96) (i := 20) ch_cX0_choosePosts_96 rfl) (by decide +kernel)
theorem dX0_choosePosts_117 : decode cX0_choosePosts 117 = .ok (.iload 5, 2) := do_21 (rdb (p := 96) (i := 21) ch_cX0_choosePosts_96 rfl) (rdb (p := 96) (i := 22) ch_cX0_choosePosts_96 rfl)
theorem dX0_choosePosts_119 : decode cX0_choosePosts 119 = .ok (.invokestatic 86, 3) := do_184 (rdb (p := 96) (i := 23) ch_cX0_choosePosts_96 rfl) (rdb (p := 96) (i := 24) ch_cX0_choosePosts_96 rfl) (rdb (p := 96) (i := 25) ch_cX0_choosePosts_96 rfl) rfl
theorem dX0_choosePosts_122 : decode cX0_choosePosts 122 = .ok (.aload_n 0, 1) := do_42 (rdb (p := 96) (i := 26) ch_cX0_choosePosts_96 rfl)
theorem dX0_choosePosts_123 : decode cX0_choosePosts 123 = .ok (.getfield 30, 3) := do_180 (rdb (p := 96) (i := 27) ch_cX0_choosePosts_96 rfl) (rdb (p := 96) (i := 28) ch_cX0_choosePosts_96 rfl) (rdb (p := 96) (i := 29) ch_cX0_choosePosts_96 rfl) rfl
theorem dX0_choosePosts_126 : decode cX0_choosePosts 126 = .ok (.invokestatic 86, 3) := do_184 (rdb (p := 96) (i := 30) ch_cX0_choosePosts_96 rfl) (rdb (p := 96) (i := 31) ch_cX0_choosePosts_96 rfl) (rdb (p := 96) (i := 32) ch_cX0_choosePosts_96 rfl) rfl
theorem ch_cX0_choosePosts_128 : (cX0_choosePosts.data.toList.drop 128).take 36 = [86, 162, 0, 7, 4, 167, 0, 4, 3, 54, 6, 21, 6, 153, 0, 34, 21, 5, 4, 45, 180, 0, 65, 120, 162, 0, 23, 42, 21, 5, 25, 4, 180, 0, 65, 182] := by decide +kernel
theorem dX0_choosePosts_129 : decode cX0_choosePosts 129 = .ok (.if_icmp .ge 7, 3) := do_162 (rdb (p := 128) (i := 1) ch_cX0_choosePosts_128 rfl) (rdb (p := 128) (i := 2) ch_cX0_choosePosts_128 rfl) (rdb (p := 128) (i := 3) ch_cX0_choosePosts_128 rfl) (by decide +kernel)
theorem dX0_choosePosts_132 : decode cX0_choosePosts 132 = .ok (.iconst 1, 1) := do_4 (rdb (p := 128) (i := 4) ch_cX0_choosePosts_128 rfl)
theorem dX0_choosePosts_133 : decode cX0_choosePosts 133 = .ok (.goto 4, 3) := do_167 (rdb (p := 128) (i := 5) ch_cX0_choosePosts_128 rfl) (rdb (p := 128) (i := 6) ch_cX0_choosePosts_128 rfl) (rdb (p := 128) (i := 7) ch_cX0_choosePosts_128 rfl) (by decide +kernel)
theorem dX0_choosePosts_136 : decode cX0_choosePosts 136 = .ok (.iconst 0, 1) := do_3 (rdb (p := 128) (i := 8) ch_cX0_choosePosts_128 rfl)
theorem dX0_choosePosts_137 : decode cX0_choosePosts 137 = .ok (.istore 6, 2) := do_54 (rdb (p := 128) (i := 9) ch_cX0_choosePosts_128 rfl) (rdb (p := 128) (i := 10) ch_cX0_choosePosts_128 rfl)
theorem dX0_choosePosts_139 : decode cX0_choosePosts 139 = .ok (.iload 6, 2) := do_21 (rdb (p := 128) (i := 11) ch_cX0_choosePosts_128 rfl) (rdb (p := 128) (i := 12) ch_cX0_choosePosts_128 rfl)
theorem dX0_choosePosts_141 : decode cX0_choosePosts 141 = .ok (.ifCond .eq 34, 3) := do_153 (rdb (p := 128) (i := 13) ch_cX0_choosePosts_128 rfl) (rdb (p := 128) (i := 14) ch_cX0_choosePosts_128 rfl) (rdb (p := 128) (i := 15) ch_cX0_choosePosts_128 rfl) (by decide +kernel)
theorem dX0_choosePosts_144 : decode cX0_choosePosts 144 = .ok (.iload 5, 2) := do_21 (rdb (p := 128) (i := 16) ch_cX0_choosePosts_128 rfl) (rdb (p := 128) (i := 17) ch_cX0_choosePosts_128 rfl)
theorem dX0_choosePosts_146 : decode cX0_choosePosts 146 = .ok (.iconst 1, 1) := do_4 (rdb (p := 128) (i := 18) ch_cX0_choosePosts_128 rfl)
theorem dX0_choosePosts_147 : decode cX0_choosePosts 147 = .ok (.aload_n 3, 1) := do_45 (rdb (p := 128) (i := 19) ch_cX0_choosePosts_128 rfl)
theorem dX0_choosePosts_148 : decode cX0_choosePosts 148 = .ok (.getfield 65, 3) := do_180 (rdb (p := 128) (i := 20) ch_cX0_choosePosts_128 rfl) (rdb (p := 128) (i := 21) ch_cX0_choosePosts_128 rfl) (rdb (p := 128) (i := 22) ch_cX0_choosePosts_128 rfl) rfl
theorem dX0_choosePosts_151 : decode cX0_choosePosts 151 = .ok (.ishl, 1) := do_120 (rdb (p := 128) (i := 23) ch_cX0_choosePosts_128 rfl)
theorem dX0_choosePosts_152 : decode cX0_choosePosts 152 = .ok (.if_icmp .ge 23, 3) := do_162 (rdb (p := 128) (i := 24) ch_cX0_choosePosts_128 rfl) (rdb (p := 128) (i := 25) ch_cX0_choosePosts_128 rfl) (rdb (p := 128) (i := 26) ch_cX0_choosePosts_128 rfl) (by decide +kernel)
theorem dX0_choosePosts_155 : decode cX0_choosePosts 155 = .ok (.aload_n 0, 1) := do_42 (rdb (p := 128) (i := 27) ch_cX0_choosePosts_128 rfl)
theorem dX0_choosePosts_156 : decode cX0_choosePosts 156 = .ok (.iload 5, 2) := do_21 (rdb (p := 128) (i := 28) ch_cX0_choosePosts_128 rfl) (rdb (p := 128) (i := 29) ch_cX0_choosePosts_128 rfl)
theorem dX0_choosePosts_158 : decode cX0_choosePosts 158 = .ok (.aload 4, 2) := do_25 (rdb (p := 128) (i := 30) ch_cX0_choosePosts_128 rfl) (rdb (p := 128) (i := 31) ch_cX0_choosePosts_128 rfl)
theorem ch_cX0_choosePosts_160 : (cX0_choosePosts.data.toList.drop 160).take 36 = [180, 0, 65, 182, 0, 116, 153, 0, 9, 42, 21, 5, 181, 0, 30, 132, 5, 1, 167, 255, 180, 42, 180, 0, 30, 153, 0, 7, 4, 167, 0, 4, 3, 172] := by decide +kernel
theorem dX0_choosePosts_160 : decode cX0_choosePosts 160 = .ok (.getfield 65, 3) := do_180 (rdb (p := 160) (i := 0) ch_cX0_choosePosts_160 rfl) (rdb (p := 160) (i := 1) ch_cX0_choosePosts_160 rfl) (rdb (p := 160) (i := 2) ch_cX0_choosePosts_160 rfl) rfl
theorem dX0_choosePosts_163 : decode cX0_choosePosts 163 = .ok (.invokevirtual 116, 3) := do_182 (rdb (p := 160) (i := 3) ch_cX0_choosePosts_160 rfl) (rdb (p := 160) (i := 4) ch_cX0_choosePosts_160 rfl) (rdb (p := 160) (i := 5) ch_cX0_choosePosts_160 rfl) rfl
theorem dX0_choosePosts_166 : decode cX0_choosePosts 166 = .ok (.ifCond .eq 9, 3) := do_153 (rdb (p := 160) (i := 6) ch_cX0_choosePosts_160 rfl) (rdb (p := 160) (i := 7) ch_cX0_choosePosts_160 rfl) (rdb (p := 160) (i := 8) ch_cX0_choosePosts_160 rfl) (by decide +kernel)
theorem dX0_choosePosts_169 : decode cX0_choosePosts 169 = .ok (.aload_n 0, 1) := do_42 (rdb (p := 160) (i := 9) ch_cX0_choosePosts_160 rfl)
theorem dX0_choosePosts_170 : decode cX0_choosePosts 170 = .ok (.iload 5, 2) := do_21 (rdb (p := 160) (i := 10) ch_cX0_choosePosts_160 rfl) (rdb (p := 160) (i := 11) ch_cX0_choosePosts_160 rfl)
theorem dX0_choosePosts_172 : decode cX0_choosePosts 172 = .ok (.putfield 30, 3) := do_181 (rdb (p := 160) (i := 12) ch_cX0_choosePosts_160 rfl) (rdb (p := 160) (i := 13) ch_cX0_choosePosts_160 rfl) (rdb (p := 160) (i := 14) ch_cX0_choosePosts_160 rfl) rfl
theorem dX0_choosePosts_175 : decode cX0_choosePosts 175 = .ok (.iinc 5 1, 3) := do_132 (rdb (p := 160) (i := 15) ch_cX0_choosePosts_160 rfl) (rdb (p := 160) (i := 16) ch_cX0_choosePosts_160 rfl) (rdb (p := 160) (i := 17) ch_cX0_choosePosts_160 rfl) (by decide +kernel)
theorem dX0_choosePosts_178 : decode cX0_choosePosts 178 = .ok (.goto (-76), 3) := do_167 (rdb (p := 160) (i := 18) ch_cX0_choosePosts_160 rfl) (rdb (p := 160) (i := 19) ch_cX0_choosePosts_160 rfl) (rdb (p := 160) (i := 20) ch_cX0_choosePosts_160 rfl) (by decide +kernel)
theorem dX0_choosePosts_181 : decode cX0_choosePosts 181 = .ok (.aload_n 0, 1) := do_42 (rdb (p := 160) (i := 21) ch_cX0_choosePosts_160 rfl)
theorem dX0_choosePosts_182 : decode cX0_choosePosts 182 = .ok (.getfield 30, 3) := do_180 (rdb (p := 160) (i := 22) ch_cX0_choosePosts_160 rfl) (rdb (p := 160) (i := 23) ch_cX0_choosePosts_160 rfl) (rdb (p := 160) (i := 24) ch_cX0_choosePosts_160 rfl) rfl
theorem dX0_choosePosts_185 : decode cX0_choosePosts 185 = .ok (.ifCond .eq 7, 3) := do_153 (rdb (p := 160) (i := 25) ch_cX0_choosePosts_160 rfl) (rdb (p := 160) (i := 26) ch_cX0_choosePosts_160 rfl) (rdb (p := 160) (i := 27) ch_cX0_choosePosts_160 rfl) (by decide +kernel)
theorem dX0_choosePosts_188 : decode cX0_choosePosts 188 = .ok (.iconst 1, 1) := do_4 (rdb (p := 160) (i := 28) ch_cX0_choosePosts_160 rfl)
theorem dX0_choosePosts_189 : decode cX0_choosePosts 189 = .ok (.goto 4, 3) := do_167 (rdb (p := 160) (i := 29) ch_cX0_choosePosts_160 rfl) (rdb (p := 160) (i := 30) ch_cX0_choosePosts_160 rfl) (rdb (p := 160) (i := 31) ch_cX0_choosePosts_160 rfl) (by decide +kernel)
theorem ch_cX0_choosePosts_192 : (cX0_choosePosts.data.toList.drop 192).take 36 = [3, 172] := by decide +kernel
theorem dX0_choosePosts_192 : decode cX0_choosePosts 192 = .ok (.iconst 0, 1) := do_3 (rdb (p := 192) (i := 0) ch_cX0_choosePosts_192 rfl)
theorem dX0_choosePosts_193 : decode cX0_choosePosts 193 = .ok (.ireturn, 1) := do_172 (rdb (p := 192) (i := 1) ch_cX0_choosePosts_192 rfl)
theorem ch_cX0_chooseSpots_0 : (cX0_chooseSpots.data.toList.drop 0).take 36 = [3, 54, 5, 3, 54, 6, 21, 6, 45, 180, 0, 65, 162, 0, 55, 21, 6, 16, 8, 162, 0, 48, 43, 180, 0, 70, 45, 21, 6, 182, 0, 76, 182, 0, 79, 153] := by decide +kernel
theorem dX0_chooseSpots_0 : decode cX0_chooseSpots 0 = .ok (.iconst 0, 1) := do_3 (rdb (p := 0) (i := 0) ch_cX0_chooseSpots_0 rfl)
theorem dX0_chooseSpots_1 : decode cX0_chooseSpots 1 = .ok (.istore 5, 2) := do_54 (rdb (p := 0) (i := 1) ch_cX0_chooseSpots_0 rfl) (rdb (p := 0) (i := 2) ch_cX0_chooseSpots_0 rfl)
theorem dX0_chooseSpots_3 : decode cX0_chooseSpots 3 = .ok (.iconst 0, 1) := do_3 (rdb (p := 0) (i := 3) ch_cX0_chooseSpots_0 rfl)
theorem dX0_chooseSpots_4 : decode cX0_chooseSpots 4 = .ok (.istore 6, 2) := do_54 (rdb (p := 0) (i := 4) ch_cX0_chooseSpots_0 rfl) (rdb (p := 0) (i := 5) ch_cX0_chooseSpots_0 rfl)
theorem dX0_chooseSpots_6 : decode cX0_chooseSpots 6 = .ok (.iload 6, 2) := do_21 (rdb (p := 0) (i := 6) ch_cX0_chooseSpots_0 rfl) (rdb (p := 0) (i := 7) ch_cX0_chooseSpots_0 rfl)
theorem dX0_chooseSpots_8 : decode cX0_chooseSpots 8 = .ok (.aload_n 3, 1) := do_45 (rdb (p := 0) (i := 8) ch_cX0_chooseSpots_0 rfl)
theorem dX0_chooseSpots_9 : decode cX0_chooseSpots 9 = .ok (.getfield 65, 3) := do_180 (rdb (p := 0) (i := 9) ch_cX0_chooseSpots_0 rfl) (rdb (p := 0) (i := 10) ch_cX0_chooseSpots_0 rfl) (rdb (p := 0) (i := 11) ch_cX0_chooseSpots_0 rfl) rfl
theorem dX0_chooseSpots_12 : decode cX0_chooseSpots 12 = .ok (.if_icmp .ge 55, 3) := do_162 (rdb (p := 0) (i := 12) ch_cX0_chooseSpots_0 rfl) (rdb (p := 0) (i := 13) ch_cX0_chooseSpots_0 rfl) (rdb (p := 0) (i := 14) ch_cX0_chooseSpots_0 rfl) (by decide +kernel)
theorem dX0_chooseSpots_15 : decode cX0_chooseSpots 15 = .ok (.iload 6, 2) := do_21 (rdb (p := 0) (i := 15) ch_cX0_chooseSpots_0 rfl) (rdb (p := 0) (i := 16) ch_cX0_chooseSpots_0 rfl)
theorem dX0_chooseSpots_17 : decode cX0_chooseSpots 17 = .ok (.bipush 8, 2) := do_16 (rdb (p := 0) (i := 17) ch_cX0_chooseSpots_0 rfl) (rdb (p := 0) (i := 18) ch_cX0_chooseSpots_0 rfl) (by decide +kernel)
theorem dX0_chooseSpots_19 : decode cX0_chooseSpots 19 = .ok (.if_icmp .ge 48, 3) := do_162 (rdb (p := 0) (i := 19) ch_cX0_chooseSpots_0 rfl) (rdb (p := 0) (i := 20) ch_cX0_chooseSpots_0 rfl) (rdb (p := 0) (i := 21) ch_cX0_chooseSpots_0 rfl) (by decide +kernel)
theorem dX0_chooseSpots_22 : decode cX0_chooseSpots 22 = .ok (.aload_n 1, 1) := do_43 (rdb (p := 0) (i := 22) ch_cX0_chooseSpots_0 rfl)
theorem dX0_chooseSpots_23 : decode cX0_chooseSpots 23 = .ok (.getfield 70, 3) := do_180 (rdb (p := 0) (i := 23) ch_cX0_chooseSpots_0 rfl) (rdb (p := 0) (i := 24) ch_cX0_chooseSpots_0 rfl) (rdb (p := 0) (i := 25) ch_cX0_chooseSpots_0 rfl) rfl
theorem dX0_chooseSpots_26 : decode cX0_chooseSpots 26 = .ok (.aload_n 3, 1) := do_45 (rdb (p := 0) (i := 26) ch_cX0_chooseSpots_0 rfl)
theorem dX0_chooseSpots_27 : decode cX0_chooseSpots 27 = .ok (.iload 6, 2) := do_21 (rdb (p := 0) (i := 27) ch_cX0_chooseSpots_0 rfl) (rdb (p := 0) (i := 28) ch_cX0_chooseSpots_0 rfl)
theorem dX0_chooseSpots_29 : decode cX0_chooseSpots 29 = .ok (.invokevirtual 76, 3) := do_182 (rdb (p := 0) (i := 29) ch_cX0_chooseSpots_0 rfl) (rdb (p := 0) (i := 30) ch_cX0_chooseSpots_0 rfl) (rdb (p := 0) (i := 31) ch_cX0_chooseSpots_0 rfl) rfl
theorem ch_cX0_chooseSpots_32 : (cX0_chooseSpots.data.toList.drop 32).take 36 = [182, 0, 79, 153, 0, 26, 21, 5, 4, 21, 6, 120, 128, 54, 5, 42, 43, 28, 21, 6, 45, 21, 6, 182, 0, 76, 182, 0, 82, 132, 6, 1, 167, 255, 198, 42] := by decide +kernel
theorem dX0_chooseSpots_32 : decode cX0_chooseSpots 32 = .ok (.invokevirtual 79, 3) := do_182 (rdb (p := 32) (i := 0) ch_cX0_chooseSpots_32 rfl) (rdb (p := 32) (i := 1) ch_cX0_chooseSpots_32 rfl) (rdb (p := 32) (i := 2) ch_cX0_chooseSpots_32 rfl) rfl
theorem dX0_chooseSpots_35 : decode cX0_chooseSpots 35 = .ok (.ifCond .eq 26, 3) := do_153 (rdb (p := 32) (i := 3) ch_cX0_chooseSpots_32 rfl) (rdb (p := 32) (i := 4) ch_cX0_chooseSpots_32 rfl) (rdb (p := 32) (i := 5) ch_cX0_chooseSpots_32 rfl) (by decide +kernel)
theorem dX0_chooseSpots_38 : decode cX0_chooseSpots 38 = .ok (.iload 5, 2) := do_21 (rdb (p := 32) (i := 6) ch_cX0_chooseSpots_32 rfl) (rdb (p := 32) (i := 7) ch_cX0_chooseSpots_32 rfl)
theorem dX0_chooseSpots_40 : decode cX0_chooseSpots 40 = .ok (.iconst 1, 1) := do_4 (rdb (p := 32) (i := 8) ch_cX0_chooseSpots_32 rfl)
theorem dX0_chooseSpots_41 : decode cX0_chooseSpots 41 = .ok (.iload 6, 2) := do_21 (rdb (p := 32) (i := 9) ch_cX0_chooseSpots_32 rfl) (rdb (p := 32) (i := 10) ch_cX0_chooseSpots_32 rfl)
theorem dX0_chooseSpots_43 : decode cX0_chooseSpots 43 = .ok (.ishl, 1) := do_120 (rdb (p := 32) (i := 11) ch_cX0_chooseSpots_32 rfl)
theorem dX0_chooseSpots_44 : decode cX0_chooseSpots 44 = .ok (.ior, 1) := do_128 (rdb (p := 32) (i := 12) ch_cX0_chooseSpots_32 rfl)
theorem dX0_chooseSpots_45 : decode cX0_chooseSpots 45 = .ok (.istore 5, 2) := do_54 (rdb (p := 32) (i := 13) ch_cX0_chooseSpots_32 rfl) (rdb (p := 32) (i := 14) ch_cX0_chooseSpots_32 rfl)
theorem dX0_chooseSpots_47 : decode cX0_chooseSpots 47 = .ok (.aload_n 0, 1) := do_42 (rdb (p := 32) (i := 15) ch_cX0_chooseSpots_32 rfl)
theorem dX0_chooseSpots_48 : decode cX0_chooseSpots 48 = .ok (.aload_n 1, 1) := do_43 (rdb (p := 32) (i := 16) ch_cX0_chooseSpots_32 rfl)
theorem dX0_chooseSpots_49 : decode cX0_chooseSpots 49 = .ok (.iload_n 2, 1) := do_28 (rdb (p := 32) (i := 17) ch_cX0_chooseSpots_32 rfl)
theorem dX0_chooseSpots_50 : decode cX0_chooseSpots 50 = .ok (.iload 6, 2) := do_21 (rdb (p := 32) (i := 18) ch_cX0_chooseSpots_32 rfl) (rdb (p := 32) (i := 19) ch_cX0_chooseSpots_32 rfl)
theorem dX0_chooseSpots_52 : decode cX0_chooseSpots 52 = .ok (.aload_n 3, 1) := do_45 (rdb (p := 32) (i := 20) ch_cX0_chooseSpots_32 rfl)
theorem dX0_chooseSpots_53 : decode cX0_chooseSpots 53 = .ok (.iload 6, 2) := do_21 (rdb (p := 32) (i := 21) ch_cX0_chooseSpots_32 rfl) (rdb (p := 32) (i := 22) ch_cX0_chooseSpots_32 rfl)
theorem dX0_chooseSpots_55 : decode cX0_chooseSpots 55 = .ok (.invokevirtual 76, 3) := do_182 (rdb (p := 32) (i := 23) ch_cX0_chooseSpots_32 rfl) (rdb (p := 32) (i := 24) ch_cX0_chooseSpots_32 rfl) (rdb (p := 32) (i := 25) ch_cX0_chooseSpots_32 rfl) rfl
theorem dX0_chooseSpots_58 : decode cX0_chooseSpots 58 = .ok (.invokevirtual 82, 3) := do_182 (rdb (p := 32) (i := 26) ch_cX0_chooseSpots_32 rfl) (rdb (p := 32) (i := 27) ch_cX0_chooseSpots_32 rfl) (rdb (p := 32) (i := 28) ch_cX0_chooseSpots_32 rfl) rfl
theorem dX0_chooseSpots_61 : decode cX0_chooseSpots 61 = .ok (.iinc 6 1, 3) := do_132 (rdb (p := 32) (i := 29) ch_cX0_chooseSpots_32 rfl) (rdb (p := 32) (i := 30) ch_cX0_chooseSpots_32 rfl) (rdb (p := 32) (i := 31) ch_cX0_chooseSpots_32 rfl) (by decide +kernel)
theorem ch_cX0_chooseSpots_64 : (cX0_chooseSpots.data.toList.drop 64).take 36 = [167, 255, 198, 42, 2, 181, 0, 26, 42, 3, 181, 0, 30, 4, 54, 6, 21, 6, 17, 1, 0, 162, 0, 58, 21, 6, 21, 5, 2, 130, 126, 154, 0, 42, 21, 6] := by decide +kernel
theorem dX0_chooseSpots_64 : decode cX0_chooseSpots 64 = .ok (.goto (-58), 3) := do_167 (rdb (p := 64) (i := 0) ch_cX0_chooseSpots_64 rfl) (rdb (p := 64) (i := 1) ch_cX0_chooseSpots_64 rfl) (rdb (p := 64) (i := 2) ch_cX0_chooseSpots_64 rfl) (by decide +kernel)
theorem dX0_chooseSpots_67 : decode cX0_chooseSpots 67 = .ok (.aload_n 0, 1) := do_42 (rdb (p := 64) (i := 3) ch_cX0_chooseSpots_64 rfl)
theorem dX0_chooseSpots_68 : decode cX0_chooseSpots 68 = .ok (.iconst (-1), 1) := do_2 (rdb (p := 64) (i := 4) ch_cX0_chooseSpots_64 rfl)
theorem dX0_chooseSpots_69 : decode cX0_chooseSpots 69 = .ok (.putfield 26, 3) := do_181 (rdb (p := 64) (i := 5) ch_cX0_chooseSpots_64 rfl) (rdb (p := 64) (i := 6) ch_cX0_chooseSpots_64 rfl) (rdb (p := 64) (i := 7) ch_cX0_chooseSpots_64 rfl) rfl
theorem dX0_chooseSpots_72 : decode cX0_chooseSpots 72 = .ok (.aload_n 0, 1) := do_42 (rdb (p := 64) (i := 8) ch_cX0_chooseSpots_64 rfl)
theorem dX0_chooseSpots_73 : decode cX0_chooseSpots 73 = .ok (.iconst 0, 1) := do_3 (rdb (p := 64) (i := 9) ch_cX0_chooseSpots_64 rfl)
theorem dX0_chooseSpots_74 : decode cX0_chooseSpots 74 = .ok (.putfield 30, 3) := do_181 (rdb (p := 64) (i := 10) ch_cX0_chooseSpots_64 rfl) (rdb (p := 64) (i := 11) ch_cX0_chooseSpots_64 rfl) (rdb (p := 64) (i := 12) ch_cX0_chooseSpots_64 rfl) rfl
theorem dX0_chooseSpots_77 : decode cX0_chooseSpots 77 = .ok (.iconst 1, 1) := do_4 (rdb (p := 64) (i := 13) ch_cX0_chooseSpots_64 rfl)
theorem dX0_chooseSpots_78 : decode cX0_chooseSpots 78 = .ok (.istore 6, 2) := do_54 (rdb (p := 64) (i := 14) ch_cX0_chooseSpots_64 rfl) (rdb (p := 64) (i := 15) ch_cX0_chooseSpots_64 rfl)
theorem dX0_chooseSpots_80 : decode cX0_chooseSpots 80 = .ok (.iload 6, 2) := do_21 (rdb (p := 64) (i := 16) ch_cX0_chooseSpots_64 rfl) (rdb (p := 64) (i := 17) ch_cX0_chooseSpots_64 rfl)
theorem dX0_chooseSpots_82 : decode cX0_chooseSpots 82 = .ok (.sipush 256, 3) := do_17 (rdb (p := 64) (i := 18) ch_cX0_chooseSpots_64 rfl) (rdb (p := 64) (i := 19) ch_cX0_chooseSpots_64 rfl) (rdb (p := 64) (i := 20) ch_cX0_chooseSpots_64 rfl) (by decide +kernel)
theorem dX0_chooseSpots_85 : decode cX0_chooseSpots 85 = .ok (.if_icmp .ge 58, 3) := do_162 (rdb (p := 64) (i := 21) ch_cX0_chooseSpots_64 rfl) (rdb (p := 64) (i := 22) ch_cX0_chooseSpots_64 rfl) (rdb (p := 64) (i := 23) ch_cX0_chooseSpots_64 rfl) (by decide +kernel)
theorem dX0_chooseSpots_88 : decode cX0_chooseSpots 88 = .ok (.iload 6, 2) := do_21 (rdb (p := 64) (i := 24) ch_cX0_chooseSpots_64 rfl) (rdb (p := 64) (i := 25) ch_cX0_chooseSpots_64 rfl)
theorem dX0_chooseSpots_90 : decode cX0_chooseSpots 90 = .ok (.iload 5, 2) := do_21 (rdb (p := 64) (i := 26) ch_cX0_chooseSpots_64 rfl) (rdb (p := 64) (i := 27) ch_cX0_chooseSpots_64 rfl)
theorem dX0_chooseSpots_92 : decode cX0_chooseSpots 92 = .ok (.iconst (-1), 1) := do_2 (rdb (p := 64) (i := 28) ch_cX0_chooseSpots_64 rfl)
theorem dX0_chooseSpots_93 : decode cX0_chooseSpots 93 = .ok (.ixor, 1) := do_130 (rdb (p := 64) (i := 29) ch_cX0_chooseSpots_64 rfl)
theorem dX0_chooseSpots_94 : decode cX0_chooseSpots 94 = .ok (.iand, 1) := do_126 (rdb (p := 64) (i := 30) ch_cX0_chooseSpots_64 rfl)
theorem dX0_chooseSpots_95 : decode cX0_chooseSpots 95 = .ok (.ifCond .ne 42, 3) := do_154 (rdb (p := 64) (i := 31) ch_cX0_chooseSpots_64 rfl) (rdb (p := 64) (i := 32) ch_cX0_chooseSpots_64 rfl) (rdb (p := 64) (i := 33) ch_cX0_chooseSpots_64 rfl) (by decide +kernel)
theorem ch_cX0_chooseSpots_96 : (cX0_chooseSpots.data.toList.drop 96).take 36 = [0, 42, 21, 6, 184, 0, 86, 21, 4, 160, 0, 32, 42, 21, 6, 182, 0, 91, 54, 7, 21, 7, 42, 180, 0, 26, 164, 0, 15, 42, 21, 7, 181, 0, 26, 42] := by decide +kernel
theorem dX0_chooseSpots_98 : decode cX0_chooseSpots 98 = .ok (.iload 6, 2) := do_21 (rdb (p := 96) (i := 2) ch_cX0_chooseSpots_96 rfl) (rdb (p := 96) (i := 3) ch_cX0_chooseSpots_96 rfl)
theorem dX0_chooseSpots_100 : decode cX0_chooseSpots 100 = .ok (.invokestatic 86, 3) := do_184 (rdb (p := 96) (i := 4) ch_cX0_chooseSpots_96 rfl) (rdb (p := 96) (i := 5) ch_cX0_chooseSpots_96 rfl) (rdb (p := 96) (i := 6) ch_cX0_chooseSpots_96 rfl) rfl
theorem dX0_chooseSpots_103 : decode cX0_chooseSpots 103 = .ok (.iload 4, 2) := do_21 (rdb (p := 96) (i := 7) ch_cX0_chooseSpots_96 rfl) (rdb (p := 96) (i := 8) ch_cX0_chooseSpots_96 rfl)
theorem dX0_chooseSpots_105 : decode cX0_chooseSpots 105 = .ok (.if_icmp .ne 32, 3) := do_160 (rdb (p := 96) (i := 9) ch_cX0_chooseSpots_96 rfl) (rdb (p := 96) (i := 10) ch_cX0_chooseSpots_96 rfl) (rdb (p := 96) (i := 11) ch_cX0_chooseSpots_96 rfl) (by decide +kernel)
theorem dX0_chooseSpots_108 : decode cX0_chooseSpots 108 = .ok (.aload_n 0, 1) := do_42 (rdb (p := 96) (i := 12) ch_cX0_chooseSpots_96 rfl)
theorem dX0_chooseSpots_109 : decode cX0_chooseSpots 109 = .ok (.iload 6, 2) := do_21 (rdb (p := 96) (i := 13) ch_cX0_chooseSpots_96 rfl) (rdb (p := 96) (i := 14) ch_cX0_chooseSpots_96 rfl)
theorem dX0_chooseSpots_111 : decode cX0_chooseSpots 111 = .ok (.invokevirtual 91, 3) := do_182 (rdb (p := 96) (i := 15) ch_cX0_chooseSpots_96 rfl) (rdb (p := 96) (i := 16) ch_cX0_chooseSpots_96 rfl) (rdb (p := 96) (i := 17) ch_cX0_chooseSpots_96 rfl) rfl
theorem dX0_chooseSpots_114 : decode cX0_chooseSpots 114 = .ok (.istore 7, 2) := do_54 (rdb (p := 96) (i := 18) ch_cX0_chooseSpots_96 rfl) (rdb (p := 96) (i := 19) ch_cX0_chooseSpots_96 rfl)
theorem dX0_chooseSpots_116 : decode cX0_chooseSpots 116 = .ok (.iload 7, 2) := do_21 (rdb (p := 96) (i := 20) ch_cX0_chooseSpots_96 rfl) (rdb (p := 96) (i := 21) ch_cX0_chooseSpots_96 rfl)
theorem dX0_chooseSpots_118 : decode cX0_chooseSpots 118 = .ok (.aload_n 0, 1) := do_42 (rdb (p := 96) (i := 22) ch_cX0_chooseSpots_96 rfl)
theorem dX0_chooseSpots_119 : decode cX0_chooseSpots 119 = .ok (.getfield 26, 3) := do_180 (rdb (p := 96) (i := 23) ch_cX0_chooseSpots_96 rfl) (rdb (p := 96) (i := 24) ch_cX0_chooseSpots_96 rfl) (rdb (p := 96) (i := 25) ch_cX0_chooseSpots_96 rfl) rfl
theorem dX0_chooseSpots_122 : decode cX0_chooseSpots 122 = .ok (.if_icmp .le 15, 3) := do_164 (rdb (p := 96) (i := 26) ch_cX0_chooseSpots_96 rfl) (rdb (p := 96) (i := 27) ch_cX0_chooseSpots_96 rfl) (rdb (p := 96) (i := 28) ch_cX0_chooseSpots_96 rfl) (by decide +kernel)
theorem dX0_chooseSpots_125 : decode cX0_chooseSpots 125 = .ok (.aload_n 0, 1) := do_42 (rdb (p := 96) (i := 29) ch_cX0_chooseSpots_96 rfl)
theorem dX0_chooseSpots_126 : decode cX0_chooseSpots 126 = .ok (.iload 7, 2) := do_21 (rdb (p := 96) (i := 30) ch_cX0_chooseSpots_96 rfl) (rdb (p := 96) (i := 31) ch_cX0_chooseSpots_96 rfl)
theorem ch_cX0_chooseSpots_128 : (cX0_chooseSpots.data.toList.drop 128).take 36 = [181, 0, 26, 42, 21, 6, 181, 0, 30, 132, 6, 1, 167, 255, 196, 42, 180, 0, 26, 155, 0, 7, 4, 167, 0, 4, 3, 172] := by decide +kernel
theorem dX0_chooseSpots_128 : decode cX0_chooseSpots 128 = .ok (.putfield 26, 3) := do_181 (rdb (p := 128) (i := 0) ch_cX0_chooseSpots_128 rfl) (rdb (p := 128) (i := 1) ch_cX0_chooseSpots_128 rfl) (rdb (p := 128) (i := 2) ch_cX0_chooseSpots_128 rfl) rfl
theorem dX0_chooseSpots_131 : decode cX0_chooseSpots 131 = .ok (.aload_n 0, 1) := do_42 (rdb (p := 128) (i := 3) ch_cX0_chooseSpots_128 rfl)
theorem dX0_chooseSpots_132 : decode cX0_chooseSpots 132 = .ok (.iload 6, 2) := do_21 (rdb (p := 128) (i := 4) ch_cX0_chooseSpots_128 rfl) (rdb (p := 128) (i := 5) ch_cX0_chooseSpots_128 rfl)
theorem dX0_chooseSpots_134 : decode cX0_chooseSpots 134 = .ok (.putfield 30, 3) := do_181 (rdb (p := 128) (i := 6) ch_cX0_chooseSpots_128 rfl) (rdb (p := 128) (i := 7) ch_cX0_chooseSpots_128 rfl) (rdb (p := 128) (i := 8) ch_cX0_chooseSpots_128 rfl) rfl
theorem dX0_chooseSpots_137 : decode cX0_chooseSpots 137 = .ok (.iinc 6 1, 3) := do_132 (rdb (p := 128) (i := 9) ch_cX0_chooseSpots_128 rfl) (rdb (p := 128) (i := 10) ch_cX0_chooseSpots_128 rfl) (rdb (p := 128) (i := 11) ch_cX0_chooseSpots_128 rfl) (by decide +kernel)
theorem dX0_chooseSpots_140 : decode cX0_chooseSpots 140 = .ok (.goto (-60), 3) := do_167 (rdb (p := 128) (i := 12) ch_cX0_chooseSpots_128 rfl) (rdb (p := 128) (i := 13) ch_cX0_chooseSpots_128 rfl) (rdb (p := 128) (i := 14) ch_cX0_chooseSpots_128 rfl) (by decide +kernel)
theorem dX0_chooseSpots_143 : decode cX0_chooseSpots 143 = .ok (.aload_n 0, 1) := do_42 (rdb (p := 128) (i := 15) ch_cX0_chooseSpots_128 rfl)
theorem dX0_chooseSpots_144 : decode cX0_chooseSpots 144 = .ok (.getfield 26, 3) := do_180 (rdb (p := 128) (i := 16) ch_cX0_chooseSpots_128 rfl) (rdb (p := 128) (i := 17) ch_cX0_chooseSpots_128 rfl) (rdb (p := 128) (i := 18) ch_cX0_chooseSpots_128 rfl) rfl
theorem dX0_chooseSpots_147 : decode cX0_chooseSpots 147 = .ok (.ifCond .lt 7, 3) := do_155 (rdb (p := 128) (i := 19) ch_cX0_chooseSpots_128 rfl) (rdb (p := 128) (i := 20) ch_cX0_chooseSpots_128 rfl) (rdb (p := 128) (i := 21) ch_cX0_chooseSpots_128 rfl) (by decide +kernel)
theorem dX0_chooseSpots_150 : decode cX0_chooseSpots 150 = .ok (.iconst 1, 1) := do_4 (rdb (p := 128) (i := 22) ch_cX0_chooseSpots_128 rfl)
theorem dX0_chooseSpots_151 : decode cX0_chooseSpots 151 = .ok (.goto 4, 3) := do_167 (rdb (p := 128) (i := 23) ch_cX0_chooseSpots_128 rfl) (rdb (p := 128) (i := 24) ch_cX0_chooseSpots_128 rfl) (rdb (p := 128) (i := 25) ch_cX0_chooseSpots_128 rfl) (by decide +kernel)
theorem dX0_chooseSpots_154 : decode cX0_chooseSpots 154 = .ok (.iconst 0, 1) := do_3 (rdb (p := 128) (i := 26) ch_cX0_chooseSpots_128 rfl)
theorem dX0_chooseSpots_155 : decode cX0_chooseSpots 155 = .ok (.ireturn, 1) := do_172 (rdb (p := 128) (i := 27) ch_cX0_chooseSpots_128 rfl)
theorem dX0_costFrom_0 : decode cX0_costFrom 0 = .ok (.iload_n 1, 1) := by decide +kernel
theorem dX0_costFrom_1 : decode cX0_costFrom 1 = .ok (.invokestatic 34, 3) := by decide +kernel
theorem dX0_costFrom_4 : decode cX0_costFrom 4 = .ok (.ifCond .eq 12, 3) := by decide +kernel
theorem dX0_costFrom_7 : decode cX0_costFrom 7 = .ok (.aload_n 0, 1) := by decide +kernel
theorem dX0_costFrom_8 : decode cX0_costFrom 8 = .ok (.getfield 9, 3) := by decide +kernel
theorem dX0_costFrom_11 : decode cX0_costFrom 11 = .ok (.iload_n 1, 1) := by decide +kernel
theorem dX0_costFrom_12 : decode cX0_costFrom 12 = .ok (.iaload, 1) := by decide +kernel
theorem dX0_costFrom_13 : decode cX0_costFrom 13 = .ok (.goto 5, 3) := by decide +kernel
theorem dX0_costFrom_16 : decode cX0_costFrom 16 = .ok (.ldc 33, 2) := by decide +kernel
theorem dX0_costFrom_18 : decode cX0_costFrom 18 = .ok (.ireturn, 1) := by decide +kernel
theorem dX0_costInto_0 : decode cX0_costInto 0 = .ok (.aload_n 0, 1) := by decide +kernel
theorem dX0_costInto_1 : decode cX0_costInto 1 = .ok (.iload_n 1, 1) := by decide +kernel
theorem dX0_costInto_2 : decode cX0_costInto 2 = .ok (.invokevirtual 50, 3) := by decide +kernel
theorem dX0_costInto_5 : decode cX0_costInto 5 = .ok (.istore_n 2, 1) := by decide +kernel
theorem dX0_costInto_6 : decode cX0_costInto 6 = .ok (.iload_n 2, 1) := by decide +kernel
theorem dX0_costInto_7 : decode cX0_costInto 7 = .ok (.iconst 1, 1) := by decide +kernel
theorem dX0_costInto_8 : decode cX0_costInto 8 = .ok (.if_icmp .ne 7, 3) := by decide +kernel
theorem dX0_costInto_11 : decode cX0_costInto 11 = .ok (.iconst 1, 1) := by decide +kernel
theorem dX0_costInto_12 : decode cX0_costInto 12 = .ok (.goto 14, 3) := by decide +kernel
theorem dX0_costInto_15 : decode cX0_costInto 15 = .ok (.iload_n 2, 1) := by decide +kernel
theorem dX0_costInto_16 : decode cX0_costInto 16 = .ok (.iconst 2, 1) := by decide +kernel
theorem dX0_costInto_17 : decode cX0_costInto 17 = .ok (.if_icmp .ne 8, 3) := by decide +kernel
theorem dX0_costInto_20 : decode cX0_costInto 20 = .ok (.bipush 20, 2) := by decide +kernel
theorem dX0_costInto_22 : decode cX0_costInto 22 = .ok (.goto 4, 3) := by decide +kernel
theorem dX0_costInto_25 : decode cX0_costInto 25 = .ok (.iconst 3, 1) := by decide +kernel
theorem dX0_costInto_26 : decode cX0_costInto 26 = .ok (.ireturn, 1) := by decide +kernel
theorem ch_cX0_countLearned_0 : (cX0_countLearned.data.toList.drop 0).take 36 = [3, 61, 3, 62, 29, 6, 162, 0, 61, 9, 55, 4, 3, 54, 6, 21, 6, 16, 8, 162, 0, 34, 27, 4, 21, 6, 120, 126, 153, 0, 19, 22, 4, 42, 180, 0] := by decide +kernel
theorem dX0_countLearned_0 : decode cX0_countLearned 0 = .ok (.iconst 0, 1) := do_3 (rdb (p := 0) (i := 0) ch_cX0_countLearned_0 rfl)
theorem dX0_countLearned_1 : decode cX0_countLearned 1 = .ok (.istore_n 2, 1) := do_61 (rdb (p := 0) (i := 1) ch_cX0_countLearned_0 rfl)
theorem dX0_countLearned_2 : decode cX0_countLearned 2 = .ok (.iconst 0, 1) := do_3 (rdb (p := 0) (i := 2) ch_cX0_countLearned_0 rfl)
theorem dX0_countLearned_3 : decode cX0_countLearned 3 = .ok (.istore_n 3, 1) := do_62 (rdb (p := 0) (i := 3) ch_cX0_countLearned_0 rfl)
theorem dX0_countLearned_4 : decode cX0_countLearned 4 = .ok (.iload_n 3, 1) := do_29 (rdb (p := 0) (i := 4) ch_cX0_countLearned_0 rfl)
theorem dX0_countLearned_5 : decode cX0_countLearned 5 = .ok (.iconst 3, 1) := do_6 (rdb (p := 0) (i := 5) ch_cX0_countLearned_0 rfl)
theorem dX0_countLearned_6 : decode cX0_countLearned 6 = .ok (.if_icmp .ge 61, 3) := do_162 (rdb (p := 0) (i := 6) ch_cX0_countLearned_0 rfl) (rdb (p := 0) (i := 7) ch_cX0_countLearned_0 rfl) (rdb (p := 0) (i := 8) ch_cX0_countLearned_0 rfl) (by decide +kernel)
theorem dX0_countLearned_9 : decode cX0_countLearned 9 = .ok (.lconst 0, 1) := do_9 (rdb (p := 0) (i := 9) ch_cX0_countLearned_0 rfl)
theorem dX0_countLearned_10 : decode cX0_countLearned 10 = .ok (.lstore 4, 2) := do_55 (rdb (p := 0) (i := 10) ch_cX0_countLearned_0 rfl) (rdb (p := 0) (i := 11) ch_cX0_countLearned_0 rfl)
theorem dX0_countLearned_12 : decode cX0_countLearned 12 = .ok (.iconst 0, 1) := do_3 (rdb (p := 0) (i := 12) ch_cX0_countLearned_0 rfl)
theorem dX0_countLearned_13 : decode cX0_countLearned 13 = .ok (.istore 6, 2) := do_54 (rdb (p := 0) (i := 13) ch_cX0_countLearned_0 rfl) (rdb (p := 0) (i := 14) ch_cX0_countLearned_0 rfl)
theorem dX0_countLearned_15 : decode cX0_countLearned 15 = .ok (.iload 6, 2) := do_21 (rdb (p := 0) (i := 15) ch_cX0_countLearned_0 rfl) (rdb (p := 0) (i := 16) ch_cX0_countLearned_0 rfl)
theorem dX0_countLearned_17 : decode cX0_countLearned 17 = .ok (.bipush 8, 2) := do_16 (rdb (p := 0) (i := 17) ch_cX0_countLearned_0 rfl) (rdb (p := 0) (i := 18) ch_cX0_countLearned_0 rfl) (by decide +kernel)
theorem dX0_countLearned_19 : decode cX0_countLearned 19 = .ok (.if_icmp .ge 34, 3) := do_162 (rdb (p := 0) (i := 19) ch_cX0_countLearned_0 rfl) (rdb (p := 0) (i := 20) ch_cX0_countLearned_0 rfl) (rdb (p := 0) (i := 21) ch_cX0_countLearned_0 rfl) (by decide +kernel)
theorem dX0_countLearned_22 : decode cX0_countLearned 22 = .ok (.iload_n 1, 1) := do_27 (rdb (p := 0) (i := 22) ch_cX0_countLearned_0 rfl)
theorem dX0_countLearned_23 : decode cX0_countLearned 23 = .ok (.iconst 1, 1) := do_4 (rdb (p := 0) (i := 23) ch_cX0_countLearned_0 rfl)
theorem dX0_countLearned_24 : decode cX0_countLearned 24 = .ok (.iload 6, 2) := do_21 (rdb (p := 0) (i := 24) ch_cX0_countLearned_0 rfl) (rdb (p := 0) (i := 25) ch_cX0_countLearned_0 rfl)
theorem dX0_countLearned_26 : decode cX0_countLearned 26 = .ok (.ishl, 1) := do_120 (rdb (p := 0) (i := 26) ch_cX0_countLearned_0 rfl)
theorem dX0_countLearned_27 : decode cX0_countLearned 27 = .ok (.iand, 1) := do_126 (rdb (p := 0) (i := 27) ch_cX0_countLearned_0 rfl)
theorem dX0_countLearned_28 : decode cX0_countLearned 28 = .ok (.ifCond .eq 19, 3) := do_153 (rdb (p := 0) (i := 28) ch_cX0_countLearned_0 rfl) (rdb (p := 0) (i := 29) ch_cX0_countLearned_0 rfl) (rdb (p := 0) (i := 30) ch_cX0_countLearned_0 rfl) (by decide +kernel)
theorem dX0_countLearned_31 : decode cX0_countLearned 31 = .ok (.lload 4, 2) := do_22 (rdb (p := 0) (i := 31) ch_cX0_countLearned_0 rfl) (rdb (p := 0) (i := 32) ch_cX0_countLearned_0 rfl)
theorem ch_cX0_countLearned_32 : (cX0_countLearned.data.toList.drop 32).take 36 = [4, 42, 180, 0, 19, 6, 21, 6, 104, 29, 96, 47, 129, 55, 4, 132, 6, 1, 167, 255, 221, 28, 22, 4, 184, 0, 107, 96, 61, 132, 3, 1, 167, 255, 196, 28] := by decide +kernel
theorem dX0_countLearned_33 : decode cX0_countLearned 33 = .ok (.aload_n 0, 1) := do_42 (rdb (p := 32) (i := 1) ch_cX0_countLearned_32 rfl)
theorem dX0_countLearned_34 : decode cX0_countLearned 34 = .ok (.getfield 19, 3) := do_180 (rdb (p := 32) (i := 2) ch_cX0_countLearned_32 rfl) (rdb (p := 32) (i := 3) ch_cX0_countLearned_32 rfl) (rdb (p := 32) (i := 4) ch_cX0_countLearned_32 rfl) rfl
theorem dX0_countLearned_37 : decode cX0_countLearned 37 = .ok (.iconst 3, 1) := do_6 (rdb (p := 32) (i := 5) ch_cX0_countLearned_32 rfl)
theorem dX0_countLearned_38 : decode cX0_countLearned 38 = .ok (.iload 6, 2) := do_21 (rdb (p := 32) (i := 6) ch_cX0_countLearned_32 rfl) (rdb (p := 32) (i := 7) ch_cX0_countLearned_32 rfl)
theorem dX0_countLearned_40 : decode cX0_countLearned 40 = .ok (.imul, 1) := do_104 (rdb (p := 32) (i := 8) ch_cX0_countLearned_32 rfl)
theorem dX0_countLearned_41 : decode cX0_countLearned 41 = .ok (.iload_n 3, 1) := do_29 (rdb (p := 32) (i := 9) ch_cX0_countLearned_32 rfl)
theorem dX0_countLearned_42 : decode cX0_countLearned 42 = .ok (.iadd, 1) := do_96 (rdb (p := 32) (i := 10) ch_cX0_countLearned_32 rfl)
theorem dX0_countLearned_43 : decode cX0_countLearned 43 = .ok (.laload, 1) := do_47 (rdb (p := 32) (i := 11) ch_cX0_countLearned_32 rfl)
theorem dX0_countLearned_44 : decode cX0_countLearned 44 = .ok (.lor, 1) := do_129 (rdb (p := 32) (i := 12) ch_cX0_countLearned_32 rfl)
theorem dX0_countLearned_45 : decode cX0_countLearned 45 = .ok (.lstore 4, 2) := do_55 (rdb (p := 32) (i := 13) ch_cX0_countLearned_32 rfl) (rdb (p := 32) (i := 14) ch_cX0_countLearned_32 rfl)
theorem dX0_countLearned_47 : decode cX0_countLearned 47 = .ok (.iinc 6 1, 3) := do_132 (rdb (p := 32) (i := 15) ch_cX0_countLearned_32 rfl) (rdb (p := 32) (i := 16) ch_cX0_countLearned_32 rfl) (rdb (p := 32) (i := 17) ch_cX0_countLearned_32 rfl) (by decide +kernel)
theorem dX0_countLearned_50 : decode cX0_countLearned 50 = .ok (.goto (-35), 3) := do_167 (rdb (p := 32) (i := 18) ch_cX0_countLearned_32 rfl) (rdb (p := 32) (i := 19) ch_cX0_countLearned_32 rfl) (rdb (p := 32) (i := 20) ch_cX0_countLearned_32 rfl) (by decide +kernel)
theorem dX0_countLearned_53 : decode cX0_countLearned 53 = .ok (.iload_n 2, 1) := do_28 (rdb (p := 32) (i := 21) ch_cX0_countLearned_32 rfl)
theorem dX0_countLearned_54 : decode cX0_countLearned 54 = .ok (.lload 4, 2) := do_22 (rdb (p := 32) (i := 22) ch_cX0_countLearned_32 rfl) (rdb (p := 32) (i := 23) ch_cX0_countLearned_32 rfl)
theorem dX0_countLearned_56 : decode cX0_countLearned 56 = .ok (.invokestatic 107, 3) := do_184 (rdb (p := 32) (i := 24) ch_cX0_countLearned_32 rfl) (rdb (p := 32) (i := 25) ch_cX0_countLearned_32 rfl) (rdb (p := 32) (i := 26) ch_cX0_countLearned_32 rfl) rfl
theorem dX0_countLearned_59 : decode cX0_countLearned 59 = .ok (.iadd, 1) := do_96 (rdb (p := 32) (i := 27) ch_cX0_countLearned_32 rfl)
theorem dX0_countLearned_60 : decode cX0_countLearned 60 = .ok (.istore_n 2, 1) := do_61 (rdb (p := 32) (i := 28) ch_cX0_countLearned_32 rfl)
theorem dX0_countLearned_61 : decode cX0_countLearned 61 = .ok (.iinc 3 1, 3) := do_132 (rdb (p := 32) (i := 29) ch_cX0_countLearned_32 rfl) (rdb (p := 32) (i := 30) ch_cX0_countLearned_32 rfl) (rdb (p := 32) (i := 31) ch_cX0_countLearned_32 rfl) (by decide +kernel)
theorem ch_cX0_countLearned_64 : (cX0_countLearned.data.toList.drop 64).take 36 = [167, 255, 196, 28, 172] := by decide +kernel
theorem dX0_countLearned_64 : decode cX0_countLearned 64 = .ok (.goto (-60), 3) := do_167 (rdb (p := 64) (i := 0) ch_cX0_countLearned_64 rfl) (rdb (p := 64) (i := 1) ch_cX0_countLearned_64 rfl) (rdb (p := 64) (i := 2) ch_cX0_countLearned_64 rfl) (by decide +kernel)
theorem dX0_countLearned_67 : decode cX0_countLearned 67 = .ok (.iload_n 2, 1) := do_28 (rdb (p := 64) (i := 3) ch_cX0_countLearned_64 rfl)
theorem dX0_countLearned_68 : decode cX0_countLearned 68 = .ok (.ireturn, 1) := do_172 (rdb (p := 64) (i := 4) ch_cX0_countLearned_64 rfl)
theorem ch_cX0_firstStep_0 : (cX0_firstStep.data.toList.drop 0).take 36 = [3, 62, 29, 16, 8, 162, 0, 46, 28, 29, 4, 184, 0, 46, 54, 4, 21, 4, 155, 0, 27, 42, 21, 4, 182, 0, 62, 43, 21, 4, 184, 0, 42, 96, 42, 28] := by decide +kernel
theorem dX0_firstStep_0 : decode cX0_firstStep 0 = .ok (.iconst 0, 1) := do_3 (rdb (p := 0) (i := 0) ch_cX0_firstStep_0 rfl)
theorem dX0_firstStep_1 : decode cX0_firstStep 1 = .ok (.istore_n 3, 1) := do_62 (rdb (p := 0) (i := 1) ch_cX0_firstStep_0 rfl)
theorem dX0_firstStep_2 : decode cX0_firstStep 2 = .ok (.iload_n 3, 1) := do_29 (rdb (p := 0) (i := 2) ch_cX0_firstStep_0 rfl)
theorem dX0_firstStep_3 : decode cX0_firstStep 3 = .ok (.bipush 8, 2) := do_16 (rdb (p := 0) (i := 3) ch_cX0_firstStep_0 rfl) (rdb (p := 0) (i := 4) ch_cX0_firstStep_0 rfl) (by decide +kernel)
theorem dX0_firstStep_5 : decode cX0_firstStep 5 = .ok (.if_icmp .ge 46, 3) := do_162 (rdb (p := 0) (i := 5) ch_cX0_firstStep_0 rfl) (rdb (p := 0) (i := 6) ch_cX0_firstStep_0 rfl) (rdb (p := 0) (i := 7) ch_cX0_firstStep_0 rfl) (by decide +kernel)
theorem dX0_firstStep_8 : decode cX0_firstStep 8 = .ok (.iload_n 2, 1) := do_28 (rdb (p := 0) (i := 8) ch_cX0_firstStep_0 rfl)
theorem dX0_firstStep_9 : decode cX0_firstStep 9 = .ok (.iload_n 3, 1) := do_29 (rdb (p := 0) (i := 9) ch_cX0_firstStep_0 rfl)
theorem dX0_firstStep_10 : decode cX0_firstStep 10 = .ok (.iconst 1, 1) := do_4 (rdb (p := 0) (i := 10) ch_cX0_firstStep_0 rfl)
theorem dX0_firstStep_11 : decode cX0_firstStep 11 = .ok (.invokestatic 46, 3) := do_184 (rdb (p := 0) (i := 11) ch_cX0_firstStep_0 rfl) (rdb (p := 0) (i := 12) ch_cX0_firstStep_0 rfl) (rdb (p := 0) (i := 13) ch_cX0_firstStep_0 rfl) rfl
theorem dX0_firstStep_14 : decode cX0_firstStep 14 = .ok (.istore 4, 2) := do_54 (rdb (p := 0) (i := 14) ch_cX0_firstStep_0 rfl) (rdb (p := 0) (i := 15) ch_cX0_firstStep_0 rfl)
theorem dX0_firstStep_16 : decode cX0_firstStep 16 = .ok (.iload 4, 2) := do_21 (rdb (p := 0) (i := 16) ch_cX0_firstStep_0 rfl) (rdb (p := 0) (i := 17) ch_cX0_firstStep_0 rfl)
theorem dX0_firstStep_18 : decode cX0_firstStep 18 = .ok (.ifCond .lt 27, 3) := do_155 (rdb (p := 0) (i := 18) ch_cX0_firstStep_0 rfl) (rdb (p := 0) (i := 19) ch_cX0_firstStep_0 rfl) (rdb (p := 0) (i := 20) ch_cX0_firstStep_0 rfl) (by decide +kernel)
theorem dX0_firstStep_21 : decode cX0_firstStep 21 = .ok (.aload_n 0, 1) := do_42 (rdb (p := 0) (i := 21) ch_cX0_firstStep_0 rfl)
theorem dX0_firstStep_22 : decode cX0_firstStep 22 = .ok (.iload 4, 2) := do_21 (rdb (p := 0) (i := 22) ch_cX0_firstStep_0 rfl) (rdb (p := 0) (i := 23) ch_cX0_firstStep_0 rfl)
theorem dX0_firstStep_24 : decode cX0_firstStep 24 = .ok (.invokevirtual 62, 3) := do_182 (rdb (p := 0) (i := 24) ch_cX0_firstStep_0 rfl) (rdb (p := 0) (i := 25) ch_cX0_firstStep_0 rfl) (rdb (p := 0) (i := 26) ch_cX0_firstStep_0 rfl) rfl
theorem dX0_firstStep_27 : decode cX0_firstStep 27 = .ok (.aload_n 1, 1) := do_43 (rdb (p := 0) (i := 27) ch_cX0_firstStep_0 rfl)
theorem dX0_firstStep_28 : decode cX0_firstStep 28 = .ok (.iload 4, 2) := do_21 (rdb (p := 0) (i := 28) ch_cX0_firstStep_0 rfl) (rdb (p := 0) (i := 29) ch_cX0_firstStep_0 rfl)
theorem dX0_firstStep_30 : decode cX0_firstStep 30 = .ok (.invokestatic 42, 3) := do_184 (rdb (p := 0) (i := 30) ch_cX0_firstStep_0 rfl) (rdb (p := 0) (i := 31) ch_cX0_firstStep_0 rfl) (rdb (p := 0) (i := 32) ch_cX0_firstStep_0 rfl) rfl
theorem ch_cX0_firstStep_32 : (cX0_firstStep.data.toList.drop 32).take 36 = [42, 96, 42, 28, 182, 0, 62, 160, 0, 6, 21, 4, 172, 132, 3, 2, 167, 255, 210, 2, 172] := by decide +kernel
theorem dX0_firstStep_33 : decode cX0_firstStep 33 = .ok (.iadd, 1) := do_96 (rdb (p := 32) (i := 1) ch_cX0_firstStep_32 rfl)
theorem dX0_firstStep_34 : decode cX0_firstStep 34 = .ok (.aload_n 0, 1) := do_42 (rdb (p := 32) (i := 2) ch_cX0_firstStep_32 rfl)
theorem dX0_firstStep_35 : decode cX0_firstStep 35 = .ok (.iload_n 2, 1) := do_28 (rdb (p := 32) (i := 3) ch_cX0_firstStep_32 rfl)
theorem dX0_firstStep_36 : decode cX0_firstStep 36 = .ok (.invokevirtual 62, 3) := do_182 (rdb (p := 32) (i := 4) ch_cX0_firstStep_32 rfl) (rdb (p := 32) (i := 5) ch_cX0_firstStep_32 rfl) (rdb (p := 32) (i := 6) ch_cX0_firstStep_32 rfl) rfl
theorem dX0_firstStep_39 : decode cX0_firstStep 39 = .ok (.if_icmp .ne 6, 3) := do_160 (rdb (p := 32) (i := 7) ch_cX0_firstStep_32 rfl) (rdb (p := 32) (i := 8) ch_cX0_firstStep_32 rfl) (rdb (p := 32) (i := 9) ch_cX0_firstStep_32 rfl) (by decide +kernel)
theorem dX0_firstStep_42 : decode cX0_firstStep 42 = .ok (.iload 4, 2) := do_21 (rdb (p := 32) (i := 10) ch_cX0_firstStep_32 rfl) (rdb (p := 32) (i := 11) ch_cX0_firstStep_32 rfl)
theorem dX0_firstStep_44 : decode cX0_firstStep 44 = .ok (.ireturn, 1) := do_172 (rdb (p := 32) (i := 12) ch_cX0_firstStep_32 rfl)
theorem dX0_firstStep_45 : decode cX0_firstStep 45 = .ok (.iinc 3 2, 3) := do_132 (rdb (p := 32) (i := 13) ch_cX0_firstStep_32 rfl) (rdb (p := 32) (i := 14) ch_cX0_firstStep_32 rfl) (rdb (p := 32) (i := 15) ch_cX0_firstStep_32 rfl) (by decide +kernel)
theorem dX0_firstStep_48 : decode cX0_firstStep 48 = .ok (.goto (-46), 3) := do_167 (rdb (p := 32) (i := 16) ch_cX0_firstStep_32 rfl) (rdb (p := 32) (i := 17) ch_cX0_firstStep_32 rfl) (rdb (p := 32) (i := 18) ch_cX0_firstStep_32 rfl) (by decide +kernel)
theorem dX0_firstStep_51 : decode cX0_firstStep 51 = .ok (.iconst (-1), 1) := do_2 (rdb (p := 32) (i := 19) ch_cX0_firstStep_32 rfl)
theorem dX0_firstStep_52 : decode cX0_firstStep 52 = .ok (.ireturn, 1) := do_172 (rdb (p := 32) (i := 20) ch_cX0_firstStep_32 rfl)
theorem ch_cX0_measure_0 : (cX0_measure.data.toList.drop 0).take 36 = [3, 62, 29, 17, 0, 192, 162, 0, 24, 42, 180, 0, 9, 29, 18, 33, 79, 42, 180, 0, 15, 29, 3, 84, 132, 3, 1, 167, 255, 231, 28, 184, 0, 34, 153, 0] := by decide +kernel
theorem dX0_measure_0 : decode cX0_measure 0 = .ok (.iconst 0, 1) := do_3 (rdb (p := 0) (i := 0) ch_cX0_measure_0 rfl)
theorem dX0_measure_1 : decode cX0_measure 1 = .ok (.istore_n 3, 1) := do_62 (rdb (p := 0) (i := 1) ch_cX0_measure_0 rfl)
theorem dX0_measure_2 : decode cX0_measure 2 = .ok (.iload_n 3, 1) := do_29 (rdb (p := 0) (i := 2) ch_cX0_measure_0 rfl)
theorem dX0_measure_3 : decode cX0_measure 3 = .ok (.sipush 192, 3) := do_17 (rdb (p := 0) (i := 3) ch_cX0_measure_0 rfl) (rdb (p := 0) (i := 4) ch_cX0_measure_0 rfl) (rdb (p := 0) (i := 5) ch_cX0_measure_0 rfl) (by decide +kernel)
theorem dX0_measure_6 : decode cX0_measure 6 = .ok (.if_icmp .ge 24, 3) := do_162 (rdb (p := 0) (i := 6) ch_cX0_measure_0 rfl) (rdb (p := 0) (i := 7) ch_cX0_measure_0 rfl) (rdb (p := 0) (i := 8) ch_cX0_measure_0 rfl) (by decide +kernel)
theorem dX0_measure_9 : decode cX0_measure 9 = .ok (.aload_n 0, 1) := do_42 (rdb (p := 0) (i := 9) ch_cX0_measure_0 rfl)
theorem dX0_measure_10 : decode cX0_measure 10 = .ok (.getfield 9, 3) := do_180 (rdb (p := 0) (i := 10) ch_cX0_measure_0 rfl) (rdb (p := 0) (i := 11) ch_cX0_measure_0 rfl) (rdb (p := 0) (i := 12) ch_cX0_measure_0 rfl) rfl
theorem dX0_measure_13 : decode cX0_measure 13 = .ok (.iload_n 3, 1) := do_29 (rdb (p := 0) (i := 13) ch_cX0_measure_0 rfl)
theorem dX0_measure_14 : decode cX0_measure 14 = .ok (.ldc 33, 2) := do_18 (rdb (p := 0) (i := 14) ch_cX0_measure_0 rfl) (rdb (p := 0) (i := 15) ch_cX0_measure_0 rfl)
theorem dX0_measure_16 : decode cX0_measure 16 = .ok (.iastore, 1) := do_79 (rdb (p := 0) (i := 16) ch_cX0_measure_0 rfl)
theorem dX0_measure_17 : decode cX0_measure 17 = .ok (.aload_n 0, 1) := do_42 (rdb (p := 0) (i := 17) ch_cX0_measure_0 rfl)
theorem dX0_measure_18 : decode cX0_measure 18 = .ok (.getfield 15, 3) := do_180 (rdb (p := 0) (i := 18) ch_cX0_measure_0 rfl) (rdb (p := 0) (i := 19) ch_cX0_measure_0 rfl) (rdb (p := 0) (i := 20) ch_cX0_measure_0 rfl) rfl
theorem dX0_measure_21 : decode cX0_measure 21 = .ok (.iload_n 3, 1) := do_29 (rdb (p := 0) (i := 21) ch_cX0_measure_0 rfl)
theorem dX0_measure_22 : decode cX0_measure 22 = .ok (.iconst 0, 1) := do_3 (rdb (p := 0) (i := 22) ch_cX0_measure_0 rfl)
theorem dX0_measure_23 : decode cX0_measure 23 = .ok (.bastore, 1) := do_84 (rdb (p := 0) (i := 23) ch_cX0_measure_0 rfl)
theorem dX0_measure_24 : decode cX0_measure 24 = .ok (.iinc 3 1, 3) := do_132 (rdb (p := 0) (i := 24) ch_cX0_measure_0 rfl) (rdb (p := 0) (i := 25) ch_cX0_measure_0 rfl) (rdb (p := 0) (i := 26) ch_cX0_measure_0 rfl) (by decide +kernel)
theorem dX0_measure_27 : decode cX0_measure 27 = .ok (.goto (-25), 3) := do_167 (rdb (p := 0) (i := 27) ch_cX0_measure_0 rfl) (rdb (p := 0) (i := 28) ch_cX0_measure_0 rfl) (rdb (p := 0) (i := 29) ch_cX0_measure_0 rfl) (by decide +kernel)
theorem dX0_measure_30 : decode cX0_measure 30 = .ok (.iload_n 2, 1) := do_28 (rdb (p := 0) (i := 30) ch_cX0_measure_0 rfl)
theorem dX0_measure_31 : decode cX0_measure 31 = .ok (.invokestatic 34, 3) := do_184 (rdb (p := 0) (i := 31) ch_cX0_measure_0 rfl) (rdb (p := 0) (i := 32) ch_cX0_measure_0 rfl) (rdb (p := 0) (i := 33) ch_cX0_measure_0 rfl) rfl
theorem ch_cX0_measure_32 : (cX0_measure.data.toList.drop 32).take 36 = [0, 34, 153, 0, 10, 42, 180, 0, 9, 28, 3, 79, 3, 62, 29, 17, 0, 192, 162, 0, 97, 42, 182, 0, 38, 54, 4, 21, 4, 156, 0, 4, 177, 42, 180, 0] := by decide +kernel
theorem dX0_measure_34 : decode cX0_measure 34 = .ok (.ifCond .eq 10, 3) := do_153 (rdb (p := 32) (i := 2) ch_cX0_measure_32 rfl) (rdb (p := 32) (i := 3) ch_cX0_measure_32 rfl) (rdb (p := 32) (i := 4) ch_cX0_measure_32 rfl) (by decide +kernel)
theorem dX0_measure_37 : decode cX0_measure 37 = .ok (.aload_n 0, 1) := do_42 (rdb (p := 32) (i := 5) ch_cX0_measure_32 rfl)
theorem dX0_measure_38 : decode cX0_measure 38 = .ok (.getfield 9, 3) := do_180 (rdb (p := 32) (i := 6) ch_cX0_measure_32 rfl) (rdb (p := 32) (i := 7) ch_cX0_measure_32 rfl) (rdb (p := 32) (i := 8) ch_cX0_measure_32 rfl) rfl
theorem dX0_measure_41 : decode cX0_measure 41 = .ok (.iload_n 2, 1) := do_28 (rdb (p := 32) (i := 9) ch_cX0_measure_32 rfl)
theorem dX0_measure_42 : decode cX0_measure 42 = .ok (.iconst 0, 1) := do_3 (rdb (p := 32) (i := 10) ch_cX0_measure_32 rfl)
theorem dX0_measure_43 : decode cX0_measure 43 = .ok (.iastore, 1) := do_79 (rdb (p := 32) (i := 11) ch_cX0_measure_32 rfl)
theorem dX0_measure_44 : decode cX0_measure 44 = .ok (.iconst 0, 1) := do_3 (rdb (p := 32) (i := 12) ch_cX0_measure_32 rfl)
theorem dX0_measure_45 : decode cX0_measure 45 = .ok (.istore_n 3, 1) := do_62 (rdb (p := 32) (i := 13) ch_cX0_measure_32 rfl)
theorem dX0_measure_46 : decode cX0_measure 46 = .ok (.iload_n 3, 1) := do_29 (rdb (p := 32) (i := 14) ch_cX0_measure_32 rfl)
theorem dX0_measure_47 : decode cX0_measure 47 = .ok (.sipush 192, 3) := do_17 (rdb (p := 32) (i := 15) ch_cX0_measure_32 rfl) (rdb (p := 32) (i := 16) ch_cX0_measure_32 rfl) (rdb (p := 32) (i := 17) ch_cX0_measure_32 rfl) (by decide +kernel)
theorem dX0_measure_50 : decode cX0_measure 50 = .ok (.if_icmp .ge 97, 3) := do_162 (rdb (p := 32) (i := 18) ch_cX0_measure_32 rfl) (rdb (p := 32) (i := 19) ch_cX0_measure_32 rfl) (rdb (p := 32) (i := 20) ch_cX0_measure_32 rfl) (by decide +kernel)
theorem dX0_measure_53 : decode cX0_measure 53 = .ok (.aload_n 0, 1) := do_42 (rdb (p := 32) (i := 21) ch_cX0_measure_32 rfl)
theorem dX0_measure_54 : decode cX0_measure 54 = .ok (.invokevirtual 38, 3) := do_182 (rdb (p := 32) (i := 22) ch_cX0_measure_32 rfl) (rdb (p := 32) (i := 23) ch_cX0_measure_32 rfl) (rdb (p := 32) (i := 24) ch_cX0_measure_32 rfl) rfl
theorem dX0_measure_57 : decode cX0_measure 57 = .ok (.istore 4, 2) := do_54 (rdb (p := 32) (i := 25) ch_cX0_measure_32 rfl) (rdb (p := 32) (i := 26) ch_cX0_measure_32 rfl)
theorem dX0_measure_59 : decode cX0_measure 59 = .ok (.iload 4, 2) := do_21 (rdb (p := 32) (i := 27) ch_cX0_measure_32 rfl) (rdb (p := 32) (i := 28) ch_cX0_measure_32 rfl)
theorem dX0_measure_61 : decode cX0_measure 61 = .ok (.ifCond .ge 4, 3) := do_156 (rdb (p := 32) (i := 29) ch_cX0_measure_32 rfl) (rdb (p := 32) (i := 30) ch_cX0_measure_32 rfl) (rdb (p := 32) (i := 31) ch_cX0_measure_32 rfl) (by decide +kernel)
theorem ch_cX0_measure_64 : (cX0_measure.data.toList.drop 64).take 36 = [177, 42, 180, 0, 15, 21, 4, 4, 84, 42, 180, 0, 9, 21, 4, 46, 43, 21, 4, 184, 0, 42, 96, 54, 5, 3, 54, 6, 21, 6, 16, 8, 162, 0, 45, 21] := by decide +kernel
theorem dX0_measure_64 : decode cX0_measure 64 = .ok (.return_, 1) := do_177 (rdb (p := 64) (i := 0) ch_cX0_measure_64 rfl)
theorem dX0_measure_65 : decode cX0_measure 65 = .ok (.aload_n 0, 1) := do_42 (rdb (p := 64) (i := 1) ch_cX0_measure_64 rfl)
theorem dX0_measure_66 : decode cX0_measure 66 = .ok (.getfield 15, 3) := do_180 (rdb (p := 64) (i := 2) ch_cX0_measure_64 rfl) (rdb (p := 64) (i := 3) ch_cX0_measure_64 rfl) (rdb (p := 64) (i := 4) ch_cX0_measure_64 rfl) rfl
theorem dX0_measure_69 : decode cX0_measure 69 = .ok (.iload 4, 2) := do_21 (rdb (p := 64) (i := 5) ch_cX0_measure_64 rfl) (rdb (p := 64) (i := 6) ch_cX0_measure_64 rfl)
theorem dX0_measure_71 : decode cX0_measure 71 = .ok (.iconst 1, 1) := do_4 (rdb (p := 64) (i := 7) ch_cX0_measure_64 rfl)
theorem dX0_measure_72 : decode cX0_measure 72 = .ok (.bastore, 1) := do_84 (rdb (p := 64) (i := 8) ch_cX0_measure_64 rfl)
theorem dX0_measure_73 : decode cX0_measure 73 = .ok (.aload_n 0, 1) := do_42 (rdb (p := 64) (i := 9) ch_cX0_measure_64 rfl)
theorem dX0_measure_74 : decode cX0_measure 74 = .ok (.getfield 9, 3) := do_180 (rdb (p := 64) (i := 10) ch_cX0_measure_64 rfl) (rdb (p := 64) (i := 11) ch_cX0_measure_64 rfl) (rdb (p := 64) (i := 12) ch_cX0_measure_64 rfl) rfl
theorem dX0_measure_77 : decode cX0_measure 77 = .ok (.iload 4, 2) := do_21 (rdb (p := 64) (i := 13) ch_cX0_measure_64 rfl) (rdb (p := 64) (i := 14) ch_cX0_measure_64 rfl)
theorem dX0_measure_79 : decode cX0_measure 79 = .ok (.iaload, 1) := do_46 (rdb (p := 64) (i := 15) ch_cX0_measure_64 rfl)
theorem dX0_measure_80 : decode cX0_measure 80 = .ok (.aload_n 1, 1) := do_43 (rdb (p := 64) (i := 16) ch_cX0_measure_64 rfl)
theorem dX0_measure_81 : decode cX0_measure 81 = .ok (.iload 4, 2) := do_21 (rdb (p := 64) (i := 17) ch_cX0_measure_64 rfl) (rdb (p := 64) (i := 18) ch_cX0_measure_64 rfl)
theorem dX0_measure_83 : decode cX0_measure 83 = .ok (.invokestatic 42, 3) := do_184 (rdb (p := 64) (i := 19) ch_cX0_measure_64 rfl) (rdb (p := 64) (i := 20) ch_cX0_measure_64 rfl) (rdb (p := 64) (i := 21) ch_cX0_measure_64 rfl) rfl
theorem dX0_measure_86 : decode cX0_measure 86 = .ok (.iadd, 1) := do_96 (rdb (p := 64) (i := 22) ch_cX0_measure_64 rfl)
theorem dX0_measure_87 : decode cX0_measure 87 = .ok (.istore 5, 2) := do_54 (rdb (p := 64) (i := 23) ch_cX0_measure_64 rfl) (rdb (p := 64) (i := 24) ch_cX0_measure_64 rfl)
theorem dX0_measure_89 : decode cX0_measure 89 = .ok (.iconst 0, 1) := do_3 (rdb (p := 64) (i := 25) ch_cX0_measure_64 rfl)
theorem dX0_measure_90 : decode cX0_measure 90 = .ok (.istore 6, 2) := do_54 (rdb (p := 64) (i := 26) ch_cX0_measure_64 rfl) (rdb (p := 64) (i := 27) ch_cX0_measure_64 rfl)
theorem dX0_measure_92 : decode cX0_measure 92 = .ok (.iload 6, 2) := do_21 (rdb (p := 64) (i := 28) ch_cX0_measure_64 rfl) (rdb (p := 64) (i := 29) ch_cX0_measure_64 rfl)
theorem dX0_measure_94 : decode cX0_measure 94 = .ok (.bipush 8, 2) := do_16 (rdb (p := 64) (i := 30) ch_cX0_measure_64 rfl) (rdb (p := 64) (i := 31) ch_cX0_measure_64 rfl) (by decide +kernel)
theorem ch_cX0_measure_96 : (cX0_measure.data.toList.drop 96).take 36 = [162, 0, 45, 21, 4, 21, 6, 4, 184, 0, 46, 54, 7, 21, 7, 155, 0, 24, 21, 5, 42, 180, 0, 9, 21, 7, 46, 162, 0, 12, 42, 180, 0, 9, 21, 7] := by decide +kernel
theorem dX0_measure_96 : decode cX0_measure 96 = .ok (.if_icmp .ge 45, 3) := do_162 (rdb (p := 96) (i := 0) ch_cX0_measure_96 rfl) (rdb (p := 96) (i := 1) ch_cX0_measure_96 rfl) (rdb (p := 96) (i := 2) ch_cX0_measure_96 rfl) (by decide +kernel)
theorem dX0_measure_99 : decode cX0_measure 99 = .ok (.iload 4, 2) := do_21 (rdb (p := 96) (i := 3) ch_cX0_measure_96 rfl) (rdb (p := 96) (i := 4) ch_cX0_measure_96 rfl)
theorem dX0_measure_101 : decode cX0_measure 101 = .ok (.iload 6, 2) := do_21 (rdb (p := 96) (i := 5) ch_cX0_measure_96 rfl) (rdb (p := 96) (i := 6) ch_cX0_measure_96 rfl)
theorem dX0_measure_103 : decode cX0_measure 103 = .ok (.iconst 1, 1) := do_4 (rdb (p := 96) (i := 7) ch_cX0_measure_96 rfl)
theorem dX0_measure_104 : decode cX0_measure 104 = .ok (.invokestatic 46, 3) := do_184 (rdb (p := 96) (i := 8) ch_cX0_measure_96 rfl) (rdb (p := 96) (i := 9) ch_cX0_measure_96 rfl) (rdb (p := 96) (i := 10) ch_cX0_measure_96 rfl) rfl
theorem dX0_measure_107 : decode cX0_measure 107 = .ok (.istore 7, 2) := do_54 (rdb (p := 96) (i := 11) ch_cX0_measure_96 rfl) (rdb (p := 96) (i := 12) ch_cX0_measure_96 rfl)
theorem dX0_measure_109 : decode cX0_measure 109 = .ok (.iload 7, 2) := do_21 (rdb (p := 96) (i := 13) ch_cX0_measure_96 rfl) (rdb (p := 96) (i := 14) ch_cX0_measure_96 rfl)
theorem dX0_measure_111 : decode cX0_measure 111 = .ok (.ifCond .lt 24, 3) := do_155 (rdb (p := 96) (i := 15) ch_cX0_measure_96 rfl) (rdb (p := 96) (i := 16) ch_cX0_measure_96 rfl) (rdb (p := 96) (i := 17) ch_cX0_measure_96 rfl) (by decide +kernel)
theorem dX0_measure_114 : decode cX0_measure 114 = .ok (.iload 5, 2) := do_21 (rdb (p := 96) (i := 18) ch_cX0_measure_96 rfl) (rdb (p := 96) (i := 19) ch_cX0_measure_96 rfl)
theorem dX0_measure_116 : decode cX0_measure 116 = .ok (.aload_n 0, 1) := do_42 (rdb (p := 96) (i := 20) ch_cX0_measure_96 rfl)
theorem dX0_measure_117 : decode cX0_measure 117 = .ok (.getfield 9, 3) := do_180 (rdb (p := 96) (i := 21) ch_cX0_measure_96 rfl) (rdb (p := 96) (i := 22) ch_cX0_measure_96 rfl) (rdb (p := 96) (i := 23) ch_cX0_measure_96 rfl) rfl
theorem dX0_measure_120 : decode cX0_measure 120 = .ok (.iload 7, 2) := do_21 (rdb (p := 96) (i := 24) ch_cX0_measure_96 rfl) (rdb (p := 96) (i := 25) ch_cX0_measure_96 rfl)
theorem dX0_measure_122 : decode cX0_measure 122 = .ok (.iaload, 1) := do_46 (rdb (p := 96) (i := 26) ch_cX0_measure_96 rfl)
theorem dX0_measure_123 : decode cX0_measure 123 = .ok (.if_icmp .ge 12, 3) := do_162 (rdb (p := 96) (i := 27) ch_cX0_measure_96 rfl) (rdb (p := 96) (i := 28) ch_cX0_measure_96 rfl) (rdb (p := 96) (i := 29) ch_cX0_measure_96 rfl) (by decide +kernel)
theorem dX0_measure_126 : decode cX0_measure 126 = .ok (.aload_n 0, 1) := do_42 (rdb (p := 96) (i := 30) ch_cX0_measure_96 rfl)
theorem dX0_measure_127 : decode cX0_measure 127 = .ok (.getfield 9, 3) := do_180 (rdb (p := 96) (i := 31) ch_cX0_measure_96 rfl) (rdb (p := 96) (i := 32) ch_cX0_measure_96 rfl) (rdb (p := 96) (i := 33) ch_cX0_measure_96 rfl) rfl
theorem ch_cX0_measure_128 : (cX0_measure.data.toList.drop 128).take 36 = [0, 9, 21, 7, 21, 5, 79, 132, 6, 2, 167, 255, 210, 132, 3, 1, 167, 255, 158, 177] := by decide +kernel
theorem dX0_measure_130 : decode cX0_measure 130 = .ok (.iload 7, 2) := do_21 (rdb (p := 128) (i := 2) ch_cX0_measure_128 rfl) (rdb (p := 128) (i := 3) ch_cX0_measure_128 rfl)
theorem dX0_measure_132 : decode cX0_measure 132 = .ok (.iload 5, 2) := do_21 (rdb (p := 128) (i := 4) ch_cX0_measure_128 rfl) (rdb (p := 128) (i := 5) ch_cX0_measure_128 rfl)
theorem dX0_measure_134 : decode cX0_measure 134 = .ok (.iastore, 1) := do_79 (rdb (p := 128) (i := 6) ch_cX0_measure_128 rfl)
theorem dX0_measure_135 : decode cX0_measure 135 = .ok (.iinc 6 2, 3) := do_132 (rdb (p := 128) (i := 7) ch_cX0_measure_128 rfl) (rdb (p := 128) (i := 8) ch_cX0_measure_128 rfl) (rdb (p := 128) (i := 9) ch_cX0_measure_128 rfl) (by decide +kernel)
theorem dX0_measure_138 : decode cX0_measure 138 = .ok (.goto (-46), 3) := do_167 (rdb (p := 128) (i := 10) ch_cX0_measure_128 rfl) (rdb (p := 128) (i := 11) ch_cX0_measure_128 rfl) (rdb (p := 128) (i := 12) ch_cX0_measure_128 rfl) (by decide +kernel)
theorem dX0_measure_141 : decode cX0_measure 141 = .ok (.iinc 3 1, 3) := do_132 (rdb (p := 128) (i := 13) ch_cX0_measure_128 rfl) (rdb (p := 128) (i := 14) ch_cX0_measure_128 rfl) (rdb (p := 128) (i := 15) ch_cX0_measure_128 rfl) (by decide +kernel)
theorem dX0_measure_144 : decode cX0_measure 144 = .ok (.goto (-98), 3) := do_167 (rdb (p := 128) (i := 16) ch_cX0_measure_128 rfl) (rdb (p := 128) (i := 17) ch_cX0_measure_128 rfl) (rdb (p := 128) (i := 18) ch_cX0_measure_128 rfl) (by decide +kernel)
theorem dX0_measure_147 : decode cX0_measure 147 = .ok (.return_, 1) := do_177 (rdb (p := 128) (i := 19) ch_cX0_measure_128 rfl)
theorem ch_cX0_nearestOpen_0 : (cX0_nearestOpen.data.toList.drop 0).take 36 = [2, 60, 3, 61, 28, 17, 0, 192, 162, 0, 50, 42, 180, 0, 15, 28, 51, 154, 0, 35, 42, 180, 0, 9, 28, 46, 18, 33, 162, 0, 24, 27, 155, 0, 18, 42] := by decide +kernel
theorem dX0_nearestOpen_0 : decode cX0_nearestOpen 0 = .ok (.iconst (-1), 1) := do_2 (rdb (p := 0) (i := 0) ch_cX0_nearestOpen_0 rfl)
theorem dX0_nearestOpen_1 : decode cX0_nearestOpen 1 = .ok (.istore_n 1, 1) := do_60 (rdb (p := 0) (i := 1) ch_cX0_nearestOpen_0 rfl)
theorem dX0_nearestOpen_2 : decode cX0_nearestOpen 2 = .ok (.iconst 0, 1) := do_3 (rdb (p := 0) (i := 2) ch_cX0_nearestOpen_0 rfl)
theorem dX0_nearestOpen_3 : decode cX0_nearestOpen 3 = .ok (.istore_n 2, 1) := do_61 (rdb (p := 0) (i := 3) ch_cX0_nearestOpen_0 rfl)
theorem dX0_nearestOpen_4 : decode cX0_nearestOpen 4 = .ok (.iload_n 2, 1) := do_28 (rdb (p := 0) (i := 4) ch_cX0_nearestOpen_0 rfl)
theorem dX0_nearestOpen_5 : decode cX0_nearestOpen 5 = .ok (.sipush 192, 3) := do_17 (rdb (p := 0) (i := 5) ch_cX0_nearestOpen_0 rfl) (rdb (p := 0) (i := 6) ch_cX0_nearestOpen_0 rfl) (rdb (p := 0) (i := 7) ch_cX0_nearestOpen_0 rfl) (by decide +kernel)
theorem dX0_nearestOpen_8 : decode cX0_nearestOpen 8 = .ok (.if_icmp .ge 50, 3) := do_162 (rdb (p := 0) (i := 8) ch_cX0_nearestOpen_0 rfl) (rdb (p := 0) (i := 9) ch_cX0_nearestOpen_0 rfl) (rdb (p := 0) (i := 10) ch_cX0_nearestOpen_0 rfl) (by decide +kernel)
theorem dX0_nearestOpen_11 : decode cX0_nearestOpen 11 = .ok (.aload_n 0, 1) := do_42 (rdb (p := 0) (i := 11) ch_cX0_nearestOpen_0 rfl)
theorem dX0_nearestOpen_12 : decode cX0_nearestOpen 12 = .ok (.getfield 15, 3) := do_180 (rdb (p := 0) (i := 12) ch_cX0_nearestOpen_0 rfl) (rdb (p := 0) (i := 13) ch_cX0_nearestOpen_0 rfl) (rdb (p := 0) (i := 14) ch_cX0_nearestOpen_0 rfl) rfl
theorem dX0_nearestOpen_15 : decode cX0_nearestOpen 15 = .ok (.iload_n 2, 1) := do_28 (rdb (p := 0) (i := 15) ch_cX0_nearestOpen_0 rfl)
theorem dX0_nearestOpen_16 : decode cX0_nearestOpen 16 = .ok (.baload, 1) := do_51 (rdb (p := 0) (i := 16) ch_cX0_nearestOpen_0 rfl)
theorem dX0_nearestOpen_17 : decode cX0_nearestOpen 17 = .ok (.ifCond .ne 35, 3) := do_154 (rdb (p := 0) (i := 17) ch_cX0_nearestOpen_0 rfl) (rdb (p := 0) (i := 18) ch_cX0_nearestOpen_0 rfl) (rdb (p := 0) (i := 19) ch_cX0_nearestOpen_0 rfl) (by decide +kernel)
theorem dX0_nearestOpen_20 : decode cX0_nearestOpen 20 = .ok (.aload_n 0, 1) := do_42 (rdb (p := 0) (i := 20) ch_cX0_nearestOpen_0 rfl)
theorem dX0_nearestOpen_21 : decode cX0_nearestOpen 21 = .ok (.getfield 9, 3) := do_180 (rdb (p := 0) (i := 21) ch_cX0_nearestOpen_0 rfl) (rdb (p := 0) (i := 22) ch_cX0_nearestOpen_0 rfl) (rdb (p := 0) (i := 23) ch_cX0_nearestOpen_0 rfl) rfl
theorem dX0_nearestOpen_24 : decode cX0_nearestOpen 24 = .ok (.iload_n 2, 1) := do_28 (rdb (p := 0) (i := 24) ch_cX0_nearestOpen_0 rfl)
theorem dX0_nearestOpen_25 : decode cX0_nearestOpen 25 = .ok (.iaload, 1) := do_46 (rdb (p := 0) (i := 25) ch_cX0_nearestOpen_0 rfl)
theorem dX0_nearestOpen_26 : decode cX0_nearestOpen 26 = .ok (.ldc 33, 2) := do_18 (rdb (p := 0) (i := 26) ch_cX0_nearestOpen_0 rfl) (rdb (p := 0) (i := 27) ch_cX0_nearestOpen_0 rfl)
theorem dX0_nearestOpen_28 : decode cX0_nearestOpen 28 = .ok (.if_icmp .ge 24, 3) := do_162 (rdb (p := 0) (i := 28) ch_cX0_nearestOpen_0 rfl) (rdb (p := 0) (i := 29) ch_cX0_nearestOpen_0 rfl) (rdb (p := 0) (i := 30) ch_cX0_nearestOpen_0 rfl) (by decide +kernel)
theorem dX0_nearestOpen_31 : decode cX0_nearestOpen 31 = .ok (.iload_n 1, 1) := do_27 (rdb (p := 0) (i := 31) ch_cX0_nearestOpen_0 rfl)
theorem ch_cX0_nearestOpen_32 : (cX0_nearestOpen.data.toList.drop 32).take 36 = [155, 0, 18, 42, 180, 0, 9, 28, 46, 42, 180, 0, 9, 27, 46, 162, 0, 5, 28, 60, 132, 2, 1, 167, 255, 205, 27, 172] := by decide +kernel
theorem dX0_nearestOpen_32 : decode cX0_nearestOpen 32 = .ok (.ifCond .lt 18, 3) := do_155 (rdb (p := 32) (i := 0) ch_cX0_nearestOpen_32 rfl) (rdb (p := 32) (i := 1) ch_cX0_nearestOpen_32 rfl) (rdb (p := 32) (i := 2) ch_cX0_nearestOpen_32 rfl) (by decide +kernel)
theorem dX0_nearestOpen_35 : decode cX0_nearestOpen 35 = .ok (.aload_n 0, 1) := do_42 (rdb (p := 32) (i := 3) ch_cX0_nearestOpen_32 rfl)
theorem dX0_nearestOpen_36 : decode cX0_nearestOpen 36 = .ok (.getfield 9, 3) := do_180 (rdb (p := 32) (i := 4) ch_cX0_nearestOpen_32 rfl) (rdb (p := 32) (i := 5) ch_cX0_nearestOpen_32 rfl) (rdb (p := 32) (i := 6) ch_cX0_nearestOpen_32 rfl) rfl
theorem dX0_nearestOpen_39 : decode cX0_nearestOpen 39 = .ok (.iload_n 2, 1) := do_28 (rdb (p := 32) (i := 7) ch_cX0_nearestOpen_32 rfl)
theorem dX0_nearestOpen_40 : decode cX0_nearestOpen 40 = .ok (.iaload, 1) := do_46 (rdb (p := 32) (i := 8) ch_cX0_nearestOpen_32 rfl)
theorem dX0_nearestOpen_41 : decode cX0_nearestOpen 41 = .ok (.aload_n 0, 1) := do_42 (rdb (p := 32) (i := 9) ch_cX0_nearestOpen_32 rfl)
theorem dX0_nearestOpen_42 : decode cX0_nearestOpen 42 = .ok (.getfield 9, 3) := do_180 (rdb (p := 32) (i := 10) ch_cX0_nearestOpen_32 rfl) (rdb (p := 32) (i := 11) ch_cX0_nearestOpen_32 rfl) (rdb (p := 32) (i := 12) ch_cX0_nearestOpen_32 rfl) rfl
theorem dX0_nearestOpen_45 : decode cX0_nearestOpen 45 = .ok (.iload_n 1, 1) := do_27 (rdb (p := 32) (i := 13) ch_cX0_nearestOpen_32 rfl)
theorem dX0_nearestOpen_46 : decode cX0_nearestOpen 46 = .ok (.iaload, 1) := do_46 (rdb (p := 32) (i := 14) ch_cX0_nearestOpen_32 rfl)
theorem dX0_nearestOpen_47 : decode cX0_nearestOpen 47 = .ok (.if_icmp .ge 5, 3) := do_162 (rdb (p := 32) (i := 15) ch_cX0_nearestOpen_32 rfl) (rdb (p := 32) (i := 16) ch_cX0_nearestOpen_32 rfl) (rdb (p := 32) (i := 17) ch_cX0_nearestOpen_32 rfl) (by decide +kernel)
theorem dX0_nearestOpen_50 : decode cX0_nearestOpen 50 = .ok (.iload_n 2, 1) := do_28 (rdb (p := 32) (i := 18) ch_cX0_nearestOpen_32 rfl)
theorem dX0_nearestOpen_51 : decode cX0_nearestOpen 51 = .ok (.istore_n 1, 1) := do_60 (rdb (p := 32) (i := 19) ch_cX0_nearestOpen_32 rfl)
theorem dX0_nearestOpen_52 : decode cX0_nearestOpen 52 = .ok (.iinc 2 1, 3) := do_132 (rdb (p := 32) (i := 20) ch_cX0_nearestOpen_32 rfl) (rdb (p := 32) (i := 21) ch_cX0_nearestOpen_32 rfl) (rdb (p := 32) (i := 22) ch_cX0_nearestOpen_32 rfl) (by decide +kernel)
theorem dX0_nearestOpen_55 : decode cX0_nearestOpen 55 = .ok (.goto (-51), 3) := do_167 (rdb (p := 32) (i := 23) ch_cX0_nearestOpen_32 rfl) (rdb (p := 32) (i := 24) ch_cX0_nearestOpen_32 rfl) (rdb (p := 32) (i := 25) ch_cX0_nearestOpen_32 rfl) (by decide +kernel)
theorem dX0_nearestOpen_58 : decode cX0_nearestOpen 58 = .ok (.iload_n 1, 1) := do_27 (rdb (p := 32) (i := 26) ch_cX0_nearestOpen_32 rfl)
theorem dX0_nearestOpen_59 : decode cX0_nearestOpen 59 = .ok (.ireturn, 1) := do_172 (rdb (p := 32) (i := 27) ch_cX0_nearestOpen_32 rfl)
theorem ch_cX0_noteLearned_0 : (cX0_noteLearned.data.toList.drop 0).take 36 = [29, 155, 0, 17, 29, 16, 8, 162, 0, 11, 43, 28, 182, 0, 94, 154, 0, 4, 177, 3, 54, 5, 21, 5, 6, 162, 0, 21, 42, 180, 0, 19, 6, 29, 104, 21] := by decide +kernel
theorem dX0_noteLearned_0 : decode cX0_noteLearned 0 = .ok (.iload_n 3, 1) := do_29 (rdb (p := 0) (i := 0) ch_cX0_noteLearned_0 rfl)
theorem dX0_noteLearned_1 : decode cX0_noteLearned 1 = .ok (.ifCond .lt 17, 3) := do_155 (rdb (p := 0) (i := 1) ch_cX0_noteLearned_0 rfl) (rdb (p := 0) (i := 2) ch_cX0_noteLearned_0 rfl) (rdb (p := 0) (i := 3) ch_cX0_noteLearned_0 rfl) (by decide +kernel)
theorem dX0_noteLearned_4 : decode cX0_noteLearned 4 = .ok (.iload_n 3, 1) := do_29 (rdb (p := 0) (i := 4) ch_cX0_noteLearned_0 rfl)
theorem dX0_noteLearned_5 : decode cX0_noteLearned 5 = .ok (.bipush 8, 2) := do_16 (rdb (p := 0) (i := 5) ch_cX0_noteLearned_0 rfl) (rdb (p := 0) (i := 6) ch_cX0_noteLearned_0 rfl) (by decide +kernel)
theorem dX0_noteLearned_7 : decode cX0_noteLearned 7 = .ok (.if_icmp .ge 11, 3) := do_162 (rdb (p := 0) (i := 7) ch_cX0_noteLearned_0 rfl) (rdb (p := 0) (i := 8) ch_cX0_noteLearned_0 rfl) (rdb (p := 0) (i := 9) ch_cX0_noteLearned_0 rfl) (by decide +kernel)
theorem dX0_noteLearned_10 : decode cX0_noteLearned 10 = .ok (.aload_n 1, 1) := do_43 (rdb (p := 0) (i := 10) ch_cX0_noteLearned_0 rfl)
theorem dX0_noteLearned_11 : decode cX0_noteLearned 11 = .ok (.iload_n 2, 1) := do_28 (rdb (p := 0) (i := 11) ch_cX0_noteLearned_0 rfl)
theorem dX0_noteLearned_12 : decode cX0_noteLearned 12 = .ok (.invokevirtual 94, 3) := do_182 (rdb (p := 0) (i := 12) ch_cX0_noteLearned_0 rfl) (rdb (p := 0) (i := 13) ch_cX0_noteLearned_0 rfl) (rdb (p := 0) (i := 14) ch_cX0_noteLearned_0 rfl) rfl
theorem dX0_noteLearned_15 : decode cX0_noteLearned 15 = .ok (.ifCond .ne 4, 3) := do_154 (rdb (p := 0) (i := 15) ch_cX0_noteLearned_0 rfl) (rdb (p := 0) (i := 16) ch_cX0_noteLearned_0 rfl) (rdb (p := 0) (i := 17) ch_cX0_noteLearned_0 rfl) (by decide +kernel)
theorem dX0_noteLearned_18 : decode cX0_noteLearned 18 = .ok (.return_, 1) := do_177 (rdb (p := 0) (i := 18) ch_cX0_noteLearned_0 rfl)
theorem dX0_noteLearned_19 : decode cX0_noteLearned 19 = .ok (.iconst 0, 1) := do_3 (rdb (p := 0) (i := 19) ch_cX0_noteLearned_0 rfl)
theorem dX0_noteLearned_20 : decode cX0_noteLearned 20 = .ok (.istore 5, 2) := do_54 (rdb (p := 0) (i := 20) ch_cX0_noteLearned_0 rfl) (rdb (p := 0) (i := 21) ch_cX0_noteLearned_0 rfl)
theorem dX0_noteLearned_22 : decode cX0_noteLearned 22 = .ok (.iload 5, 2) := do_21 (rdb (p := 0) (i := 22) ch_cX0_noteLearned_0 rfl) (rdb (p := 0) (i := 23) ch_cX0_noteLearned_0 rfl)
theorem dX0_noteLearned_24 : decode cX0_noteLearned 24 = .ok (.iconst 3, 1) := do_6 (rdb (p := 0) (i := 24) ch_cX0_noteLearned_0 rfl)
theorem dX0_noteLearned_25 : decode cX0_noteLearned 25 = .ok (.if_icmp .ge 21, 3) := do_162 (rdb (p := 0) (i := 25) ch_cX0_noteLearned_0 rfl) (rdb (p := 0) (i := 26) ch_cX0_noteLearned_0 rfl) (rdb (p := 0) (i := 27) ch_cX0_noteLearned_0 rfl) (by decide +kernel)
theorem dX0_noteLearned_28 : decode cX0_noteLearned 28 = .ok (.aload_n 0, 1) := do_42 (rdb (p := 0) (i := 28) ch_cX0_noteLearned_0 rfl)
theorem dX0_noteLearned_29 : decode cX0_noteLearned 29 = .ok (.getfield 19, 3) := do_180 (rdb (p := 0) (i := 29) ch_cX0_noteLearned_0 rfl) (rdb (p := 0) (i := 30) ch_cX0_noteLearned_0 rfl) (rdb (p := 0) (i := 31) ch_cX0_noteLearned_0 rfl) rfl
theorem ch_cX0_noteLearned_32 : (cX0_noteLearned.data.toList.drop 32).take 36 = [6, 29, 104, 21, 5, 96, 9, 80, 132, 5, 1, 167, 255, 235, 43, 180, 0, 97, 28, 50, 58, 5, 3, 54, 6, 21, 6, 16, 8, 162, 0, 81, 43, 28, 21, 4] := by decide +kernel
theorem dX0_noteLearned_32 : decode cX0_noteLearned 32 = .ok (.iconst 3, 1) := do_6 (rdb (p := 32) (i := 0) ch_cX0_noteLearned_32 rfl)
theorem dX0_noteLearned_33 : decode cX0_noteLearned 33 = .ok (.iload_n 3, 1) := do_29 (rdb (p := 32) (i := 1) ch_cX0_noteLearned_32 rfl)
theorem dX0_noteLearned_34 : decode cX0_noteLearned 34 = .ok (.imul, 1) := do_104 (rdb (p := 32) (i := 2) ch_cX0_noteLearned_32 rfl)
theorem dX0_noteLearned_35 : decode cX0_noteLearned 35 = .ok (.iload 5, 2) := do_21 (rdb (p := 32) (i := 3) ch_cX0_noteLearned_32 rfl) (rdb (p := 32) (i := 4) ch_cX0_noteLearned_32 rfl)
theorem dX0_noteLearned_37 : decode cX0_noteLearned 37 = .ok (.iadd, 1) := do_96 (rdb (p := 32) (i := 5) ch_cX0_noteLearned_32 rfl)
theorem dX0_noteLearned_38 : decode cX0_noteLearned 38 = .ok (.lconst 0, 1) := do_9 (rdb (p := 32) (i := 6) ch_cX0_noteLearned_32 rfl)
theorem dX0_noteLearned_39 : decode cX0_noteLearned 39 = .ok (.lastore, 1) := do_80 (rdb (p := 32) (i := 7) ch_cX0_noteLearned_32 rfl)
theorem dX0_noteLearned_40 : decode cX0_noteLearned 40 = .ok (.iinc 5 1, 3) := do_132 (rdb (p := 32) (i := 8) ch_cX0_noteLearned_32 rfl) (rdb (p := 32) (i := 9) ch_cX0_noteLearned_32 rfl) (rdb (p := 32) (i := 10) ch_cX0_noteLearned_32 rfl) (by decide +kernel)
theorem dX0_noteLearned_43 : decode cX0_noteLearned 43 = .ok (.goto (-21), 3) := do_167 (rdb (p := 32) (i := 11) ch_cX0_noteLearned_32 rfl) (rdb (p := 32) (i := 12) ch_cX0_noteLearned_32 rfl) (rdb (p := 32) (i := 13) ch_cX0_noteLearned_32 rfl) (by decide +kernel)
theorem dX0_noteLearned_46 : decode cX0_noteLearned 46 = .ok (.aload_n 1, 1) := do_43 (rdb (p := 32) (i := 14) ch_cX0_noteLearned_32 rfl)
theorem dX0_noteLearned_47 : decode cX0_noteLearned 47 = .ok (.getfield 97, 3) := do_180 (rdb (p := 32) (i := 15) ch_cX0_noteLearned_32 rfl) (rdb (p := 32) (i := 16) ch_cX0_noteLearned_32 rfl) (rdb (p := 32) (i := 17) ch_cX0_noteLearned_32 rfl) rfl
theorem dX0_noteLearned_50 : decode cX0_noteLearned 50 = .ok (.iload_n 2, 1) := do_28 (rdb (p := 32) (i := 18) ch_cX0_noteLearned_32 rfl)
theorem dX0_noteLearned_51 : decode cX0_noteLearned 51 = .ok (.aaload, 1) := do_50 (rdb (p := 32) (i := 19) ch_cX0_noteLearned_32 rfl)
theorem dX0_noteLearned_52 : decode cX0_noteLearned 52 = .ok (.astore 5, 2) := do_58 (rdb (p := 32) (i := 20) ch_cX0_noteLearned_32 rfl) (rdb (p := 32) (i := 21) ch_cX0_noteLearned_32 rfl)
theorem dX0_noteLearned_54 : decode cX0_noteLearned 54 = .ok (.iconst 0, 1) := do_3 (rdb (p := 32) (i := 22) ch_cX0_noteLearned_32 rfl)
theorem dX0_noteLearned_55 : decode cX0_noteLearned 55 = .ok (.istore 6, 2) := do_54 (rdb (p := 32) (i := 23) ch_cX0_noteLearned_32 rfl) (rdb (p := 32) (i := 24) ch_cX0_noteLearned_32 rfl)
theorem dX0_noteLearned_57 : decode cX0_noteLearned 57 = .ok (.iload 6, 2) := do_21 (rdb (p := 32) (i := 25) ch_cX0_noteLearned_32 rfl) (rdb (p := 32) (i := 26) ch_cX0_noteLearned_32 rfl)
theorem dX0_noteLearned_59 : decode cX0_noteLearned 59 = .ok (.bipush 8, 2) := do_16 (rdb (p := 32) (i := 27) ch_cX0_noteLearned_32 rfl) (rdb (p := 32) (i := 28) ch_cX0_noteLearned_32 rfl) (by decide +kernel)
theorem dX0_noteLearned_61 : decode cX0_noteLearned 61 = .ok (.if_icmp .ge 81, 3) := do_162 (rdb (p := 32) (i := 29) ch_cX0_noteLearned_32 rfl) (rdb (p := 32) (i := 30) ch_cX0_noteLearned_32 rfl) (rdb (p := 32) (i := 31) ch_cX0_noteLearned_32 rfl) (by decide +kernel)
theorem ch_cX0_noteLearned_64 : (cX0_noteLearned.data.toList.drop 64).take 36 = [43, 28, 21, 4, 21, 6, 182, 0, 101, 54, 7, 4, 54, 8, 21, 8, 21, 7, 163, 0, 54, 21, 4, 21, 6, 21, 8, 184, 0, 46, 54, 9, 25, 5, 21, 9] := by decide +kernel
theorem dX0_noteLearned_64 : decode cX0_noteLearned 64 = .ok (.aload_n 1, 1) := do_43 (rdb (p := 64) (i := 0) ch_cX0_noteLearned_64 rfl)
theorem dX0_noteLearned_65 : decode cX0_noteLearned 65 = .ok (.iload_n 2, 1) := do_28 (rdb (p := 64) (i := 1) ch_cX0_noteLearned_64 rfl)
theorem dX0_noteLearned_66 : decode cX0_noteLearned 66 = .ok (.iload 4, 2) := do_21 (rdb (p := 64) (i := 2) ch_cX0_noteLearned_64 rfl) (rdb (p := 64) (i := 3) ch_cX0_noteLearned_64 rfl)
theorem dX0_noteLearned_68 : decode cX0_noteLearned 68 = .ok (.iload 6, 2) := do_21 (rdb (p := 64) (i := 4) ch_cX0_noteLearned_64 rfl) (rdb (p := 64) (i := 5) ch_cX0_noteLearned_64 rfl)
theorem dX0_noteLearned_70 : decode cX0_noteLearned 70 = .ok (.invokevirtual 101, 3) := do_182 (rdb (p := 64) (i := 6) ch_cX0_noteLearned_64 rfl) (rdb (p := 64) (i := 7) ch_cX0_noteLearned_64 rfl) (rdb (p := 64) (i := 8) ch_cX0_noteLearned_64 rfl) rfl
theorem dX0_noteLearned_73 : decode cX0_noteLearned 73 = .ok (.istore 7, 2) := do_54 (rdb (p := 64) (i := 9) ch_cX0_noteLearned_64 rfl) (rdb (p := 64) (i := 10) ch_cX0_noteLearned_64 rfl)
theorem dX0_noteLearned_75 : decode cX0_noteLearned 75 = .ok (.iconst 1, 1) := do_4 (rdb (p := 64) (i := 11) ch_cX0_noteLearned_64 rfl)
theorem dX0_noteLearned_76 : decode cX0_noteLearned 76 = .ok (.istore 8, 2) := do_54 (rdb (p := 64) (i := 12) ch_cX0_noteLearned_64 rfl) (rdb (p := 64) (i := 13) ch_cX0_noteLearned_64 rfl)
theorem dX0_noteLearned_78 : decode cX0_noteLearned 78 = .ok (.iload 8, 2) := do_21 (rdb (p := 64) (i := 14) ch_cX0_noteLearned_64 rfl) (rdb (p := 64) (i := 15) ch_cX0_noteLearned_64 rfl)
theorem dX0_noteLearned_80 : decode cX0_noteLearned 80 = .ok (.iload 7, 2) := do_21 (rdb (p := 64) (i := 16) ch_cX0_noteLearned_64 rfl) (rdb (p := 64) (i := 17) ch_cX0_noteLearned_64 rfl)
theorem dX0_noteLearned_82 : decode cX0_noteLearned 82 = .ok (.if_icmp .gt 54, 3) := do_163 (rdb (p := 64) (i := 18) ch_cX0_noteLearned_64 rfl) (rdb (p := 64) (i := 19) ch_cX0_noteLearned_64 rfl) (rdb (p := 64) (i := 20) ch_cX0_noteLearned_64 rfl) (by decide +kernel)
theorem dX0_noteLearned_85 : decode cX0_noteLearned 85 = .ok (.iload 4, 2) := do_21 (rdb (p := 64) (i := 21) ch_cX0_noteLearned_64 rfl) (rdb (p := 64) (i := 22) ch_cX0_noteLearned_64 rfl)
theorem dX0_noteLearned_87 : decode cX0_noteLearned 87 = .ok (.iload 6, 2) := do_21 (rdb (p := 64) (i := 23) ch_cX0_noteLearned_64 rfl) (rdb (p := 64) (i := 24) ch_cX0_noteLearned_64 rfl)
theorem dX0_noteLearned_89 : decode cX0_noteLearned 89 = .ok (.iload 8, 2) := do_21 (rdb (p := 64) (i := 25) ch_cX0_noteLearned_64 rfl) (rdb (p := 64) (i := 26) ch_cX0_noteLearned_64 rfl)
theorem dX0_noteLearned_91 : decode cX0_noteLearned 91 = .ok (.invokestatic 46, 3) := do_184 (rdb (p := 64) (i := 27) ch_cX0_noteLearned_64 rfl) (rdb (p := 64) (i := 28) ch_cX0_noteLearned_64 rfl) (rdb (p := 64) (i := 29) ch_cX0_noteLearned_64 rfl) rfl
theorem dX0_noteLearned_94 : decode cX0_noteLearned 94 = .ok (.istore 9, 2) := do_54 (rdb (p := 64) (i := 30) ch_cX0_noteLearned_64 rfl) (rdb (p := 64) (i := 31) ch_cX0_noteLearned_64 rfl)
theorem ch_cX0_noteLearned_96 : (cX0_noteLearned.data.toList.drop 96).take 36 = [25, 5, 21, 9, 182, 0, 104, 153, 0, 27, 42, 180, 0, 19, 6, 29, 104, 21, 9, 16, 64, 108, 96, 92, 47, 10, 21, 9, 16, 64, 112, 121, 129, 80, 132, 8] := by decide +kernel
theorem dX0_noteLearned_96 : decode cX0_noteLearned 96 = .ok (.aload 5, 2) := do_25 (rdb (p := 96) (i := 0) ch_cX0_noteLearned_96 rfl) (rdb (p := 96) (i := 1) ch_cX0_noteLearned_96 rfl)
theorem dX0_noteLearned_98 : decode cX0_noteLearned 98 = .ok (.iload 9, 2) := do_21 (rdb (p := 96) (i := 2) ch_cX0_noteLearned_96 rfl) (rdb (p := 96) (i := 3) ch_cX0_noteLearned_96 rfl)
theorem dX0_noteLearned_100 : decode cX0_noteLearned 100 = .ok (.invokevirtual 104, 3) := do_182 (rdb (p := 96) (i := 4) ch_cX0_noteLearned_96 rfl) (rdb (p := 96) (i := 5) ch_cX0_noteLearned_96 rfl) (rdb (p := 96) (i := 6) ch_cX0_noteLearned_96 rfl) rfl
theorem dX0_noteLearned_103 : decode cX0_noteLearned 103 = .ok (.ifCond .eq 27, 3) := do_153 (rdb (p := 96) (i := 7) ch_cX0_noteLearned_96 rfl) (rdb (p := 96) (i := 8) ch_cX0_noteLearned_96 rfl) (rdb (p := 96) (i := 9) ch_cX0_noteLearned_96 rfl) (by decide +kernel)
theorem dX0_noteLearned_106 : decode cX0_noteLearned 106 = .ok (.aload_n 0, 1) := do_42 (rdb (p := 96) (i := 10) ch_cX0_noteLearned_96 rfl)
theorem dX0_noteLearned_107 : decode cX0_noteLearned 107 = .ok (.getfield 19, 3) := do_180 (rdb (p := 96) (i := 11) ch_cX0_noteLearned_96 rfl) (rdb (p := 96) (i := 12) ch_cX0_noteLearned_96 rfl) (rdb (p := 96) (i := 13) ch_cX0_noteLearned_96 rfl) rfl
theorem dX0_noteLearned_110 : decode cX0_noteLearned 110 = .ok (.iconst 3, 1) := do_6 (rdb (p := 96) (i := 14) ch_cX0_noteLearned_96 rfl)
theorem dX0_noteLearned_111 : decode cX0_noteLearned 111 = .ok (.iload_n 3, 1) := do_29 (rdb (p := 96) (i := 15) ch_cX0_noteLearned_96 rfl)
theorem dX0_noteLearned_112 : decode cX0_noteLearned 112 = .ok (.imul, 1) := do_104 (rdb (p := 96) (i := 16) ch_cX0_noteLearned_96 rfl)
theorem dX0_noteLearned_113 : decode cX0_noteLearned 113 = .ok (.iload 9, 2) := do_21 (rdb (p := 96) (i := 17) ch_cX0_noteLearned_96 rfl) (rdb (p := 96) (i := 18) ch_cX0_noteLearned_96 rfl)
theorem dX0_noteLearned_115 : decode cX0_noteLearned 115 = .ok (.bipush 64, 2) := do_16 (rdb (p := 96) (i := 19) ch_cX0_noteLearned_96 rfl) (rdb (p := 96) (i := 20) ch_cX0_noteLearned_96 rfl) (by decide +kernel)
theorem dX0_noteLearned_117 : decode cX0_noteLearned 117 = .ok (.idiv, 1) := do_108 (rdb (p := 96) (i := 21) ch_cX0_noteLearned_96 rfl)
theorem dX0_noteLearned_118 : decode cX0_noteLearned 118 = .ok (.iadd, 1) := do_96 (rdb (p := 96) (i := 22) ch_cX0_noteLearned_96 rfl)
theorem dX0_noteLearned_119 : decode cX0_noteLearned 119 = .ok (.dup2, 1) := do_92 (rdb (p := 96) (i := 23) ch_cX0_noteLearned_96 rfl)
theorem dX0_noteLearned_120 : decode cX0_noteLearned 120 = .ok (.laload, 1) := do_47 (rdb (p := 96) (i := 24) ch_cX0_noteLearned_96 rfl)
theorem dX0_noteLearned_121 : decode cX0_noteLearned 121 = .ok (.lconst 1, 1) := do_10 (rdb (p := 96) (i := 25) ch_cX0_noteLearned_96 rfl)
theorem dX0_noteLearned_122 : decode cX0_noteLearned 122 = .ok (.iload 9, 2) := do_21 (rdb (p := 96) (i := 26) ch_cX0_noteLearned_96 rfl) (rdb (p := 96) (i := 27) ch_cX0_noteLearned_96 rfl)
theorem dX0_noteLearned_124 : decode cX0_noteLearned 124 = .ok (.bipush 64, 2) := do_16 (rdb (p := 96) (i := 28) ch_cX0_noteLearned_96 rfl) (rdb (p := 96) (i := 29) ch_cX0_noteLearned_96 rfl) (by decide +kernel)
theorem dX0_noteLearned_126 : decode cX0_noteLearned 126 = .ok (.irem, 1) := do_112 (rdb (p := 96) (i := 30) ch_cX0_noteLearned_96 rfl)
theorem dX0_noteLearned_127 : decode cX0_noteLearned 127 = .ok (.lshl, 1) := do_121 (rdb (p := 96) (i := 31) ch_cX0_noteLearned_96 rfl)
theorem ch_cX0_noteLearned_128 : (cX0_noteLearned.data.toList.drop 128).take 36 = [129, 80, 132, 8, 1, 167, 255, 201, 132, 6, 1, 167, 255, 174, 177] := by decide +kernel
theorem dX0_noteLearned_128 : decode cX0_noteLearned 128 = .ok (.lor, 1) := do_129 (rdb (p := 128) (i := 0) ch_cX0_noteLearned_128 rfl)
theorem dX0_noteLearned_129 : decode cX0_noteLearned 129 = .ok (.lastore, 1) := do_80 (rdb (p := 128) (i := 1) ch_cX0_noteLearned_128 rfl)
theorem dX0_noteLearned_130 : decode cX0_noteLearned 130 = .ok (.iinc 8 1, 3) := do_132 (rdb (p := 128) (i := 2) ch_cX0_noteLearned_128 rfl) (rdb (p := 128) (i := 3) ch_cX0_noteLearned_128 rfl) (rdb (p := 128) (i := 4) ch_cX0_noteLearned_128 rfl) (by decide +kernel)
theorem dX0_noteLearned_133 : decode cX0_noteLearned 133 = .ok (.goto (-55), 3) := do_167 (rdb (p := 128) (i := 5) ch_cX0_noteLearned_128 rfl) (rdb (p := 128) (i := 6) ch_cX0_noteLearned_128 rfl) (rdb (p := 128) (i := 7) ch_cX0_noteLearned_128 rfl) (by decide +kernel)
theorem dX0_noteLearned_136 : decode cX0_noteLearned 136 = .ok (.iinc 6 1, 3) := do_132 (rdb (p := 128) (i := 8) ch_cX0_noteLearned_128 rfl) (rdb (p := 128) (i := 9) ch_cX0_noteLearned_128 rfl) (rdb (p := 128) (i := 10) ch_cX0_noteLearned_128 rfl) (by decide +kernel)
theorem dX0_noteLearned_139 : decode cX0_noteLearned 139 = .ok (.goto (-82), 3) := do_167 (rdb (p := 128) (i := 11) ch_cX0_noteLearned_128 rfl) (rdb (p := 128) (i := 12) ch_cX0_noteLearned_128 rfl) (rdb (p := 128) (i := 13) ch_cX0_noteLearned_128 rfl) (by decide +kernel)
theorem dX0_noteLearned_142 : decode cX0_noteLearned 142 = .ok (.return_, 1) := do_177 (rdb (p := 128) (i := 14) ch_cX0_noteLearned_128 rfl)
theorem dX0_servesAll_0 : decode cX0_servesAll 0 = .ok (.iconst 0, 1) := by decide +kernel
theorem dX0_servesAll_1 : decode cX0_servesAll 1 = .ok (.istore_n 3, 1) := by decide +kernel
theorem dX0_servesAll_2 : decode cX0_servesAll 2 = .ok (.iload_n 3, 1) := by decide +kernel
theorem dX0_servesAll_3 : decode cX0_servesAll 3 = .ok (.iload_n 2, 1) := by decide +kernel
theorem dX0_servesAll_4 : decode cX0_servesAll 4 = .ok (.if_icmp .ge 28, 3) := by decide +kernel
theorem dX0_servesAll_7 : decode cX0_servesAll 7 = .ok (.iload_n 3, 1) := by decide +kernel
theorem dX0_servesAll_8 : decode cX0_servesAll 8 = .ok (.bipush 8, 2) := by decide +kernel
theorem dX0_servesAll_10 : decode cX0_servesAll 10 = .ok (.if_icmp .ge 22, 3) := by decide +kernel
theorem dX0_servesAll_13 : decode cX0_servesAll 13 = .ok (.iload_n 1, 1) := by decide +kernel
theorem dX0_servesAll_14 : decode cX0_servesAll 14 = .ok (.aload_n 0, 1) := by decide +kernel
theorem dX0_servesAll_15 : decode cX0_servesAll 15 = .ok (.getfield 23, 3) := by decide +kernel
theorem dX0_servesAll_18 : decode cX0_servesAll 18 = .ok (.iload_n 3, 1) := by decide +kernel
theorem dX0_servesAll_19 : decode cX0_servesAll 19 = .ok (.iaload, 1) := by decide +kernel
theorem dX0_servesAll_20 : decode cX0_servesAll 20 = .ok (.iand, 1) := by decide +kernel
theorem dX0_servesAll_21 : decode cX0_servesAll 21 = .ok (.ifCond .ne 5, 3) := by decide +kernel
theorem dX0_servesAll_24 : decode cX0_servesAll 24 = .ok (.iconst 0, 1) := by decide +kernel
theorem dX0_servesAll_25 : decode cX0_servesAll 25 = .ok (.ireturn, 1) := by decide +kernel
theorem dX0_servesAll_26 : decode cX0_servesAll 26 = .ok (.iinc 3 1, 3) := by decide +kernel
theorem dX0_servesAll_29 : decode cX0_servesAll 29 = .ok (.goto (-27), 3) := by decide +kernel
theorem dX0_servesAll_32 : decode cX0_servesAll 32 = .ok (.iconst 1, 1) := by decide +kernel
theorem dX0_servesAll_33 : decode cX0_servesAll 33 = .ok (.ireturn, 1) := by decide +kernel
theorem ch_cX0_wouldHear_0 : (cX0_wouldHear.data.toList.drop 0).take 36 = [42, 27, 182, 0, 94, 154, 0, 5, 3, 172, 42, 180, 0, 97, 27, 50, 58, 4, 3, 54, 5, 21, 5, 16, 8, 162, 0, 80, 4, 54, 6, 21, 6, 25, 4, 182] := by decide +kernel
theorem dX0_wouldHear_0 : decode cX0_wouldHear 0 = .ok (.aload_n 0, 1) := do_42 (rdb (p := 0) (i := 0) ch_cX0_wouldHear_0 rfl)
theorem dX0_wouldHear_1 : decode cX0_wouldHear 1 = .ok (.iload_n 1, 1) := do_27 (rdb (p := 0) (i := 1) ch_cX0_wouldHear_0 rfl)
theorem dX0_wouldHear_2 : decode cX0_wouldHear 2 = .ok (.invokevirtual 94, 3) := do_182 (rdb (p := 0) (i := 2) ch_cX0_wouldHear_0 rfl) (rdb (p := 0) (i := 3) ch_cX0_wouldHear_0 rfl) (rdb (p := 0) (i := 4) ch_cX0_wouldHear_0 rfl) rfl
theorem dX0_wouldHear_5 : decode cX0_wouldHear 5 = .ok (.ifCond .ne 5, 3) := do_154 (rdb (p := 0) (i := 5) ch_cX0_wouldHear_0 rfl) (rdb (p := 0) (i := 6) ch_cX0_wouldHear_0 rfl) (rdb (p := 0) (i := 7) ch_cX0_wouldHear_0 rfl) (by decide +kernel)
theorem dX0_wouldHear_8 : decode cX0_wouldHear 8 = .ok (.iconst 0, 1) := do_3 (rdb (p := 0) (i := 8) ch_cX0_wouldHear_0 rfl)
theorem dX0_wouldHear_9 : decode cX0_wouldHear 9 = .ok (.ireturn, 1) := do_172 (rdb (p := 0) (i := 9) ch_cX0_wouldHear_0 rfl)
theorem dX0_wouldHear_10 : decode cX0_wouldHear 10 = .ok (.aload_n 0, 1) := do_42 (rdb (p := 0) (i := 10) ch_cX0_wouldHear_0 rfl)
theorem dX0_wouldHear_11 : decode cX0_wouldHear 11 = .ok (.getfield 97, 3) := do_180 (rdb (p := 0) (i := 11) ch_cX0_wouldHear_0 rfl) (rdb (p := 0) (i := 12) ch_cX0_wouldHear_0 rfl) (rdb (p := 0) (i := 13) ch_cX0_wouldHear_0 rfl) rfl
theorem dX0_wouldHear_14 : decode cX0_wouldHear 14 = .ok (.iload_n 1, 1) := do_27 (rdb (p := 0) (i := 14) ch_cX0_wouldHear_0 rfl)
theorem dX0_wouldHear_15 : decode cX0_wouldHear 15 = .ok (.aaload, 1) := do_50 (rdb (p := 0) (i := 15) ch_cX0_wouldHear_0 rfl)
theorem dX0_wouldHear_16 : decode cX0_wouldHear 16 = .ok (.astore 4, 2) := do_58 (rdb (p := 0) (i := 16) ch_cX0_wouldHear_0 rfl) (rdb (p := 0) (i := 17) ch_cX0_wouldHear_0 rfl)
theorem dX0_wouldHear_18 : decode cX0_wouldHear 18 = .ok (.iconst 0, 1) := do_3 (rdb (p := 0) (i := 18) ch_cX0_wouldHear_0 rfl)
theorem dX0_wouldHear_19 : decode cX0_wouldHear 19 = .ok (.istore 5, 2) := do_54 (rdb (p := 0) (i := 19) ch_cX0_wouldHear_0 rfl) (rdb (p := 0) (i := 20) ch_cX0_wouldHear_0 rfl)
theorem dX0_wouldHear_21 : decode cX0_wouldHear 21 = .ok (.iload 5, 2) := do_21 (rdb (p := 0) (i := 21) ch_cX0_wouldHear_0 rfl) (rdb (p := 0) (i := 22) ch_cX0_wouldHear_0 rfl)
theorem dX0_wouldHear_23 : decode cX0_wouldHear 23 = .ok (.bipush 8, 2) := do_16 (rdb (p := 0) (i := 23) ch_cX0_wouldHear_0 rfl) (rdb (p := 0) (i := 24) ch_cX0_wouldHear_0 rfl) (by decide +kernel)
theorem dX0_wouldHear_25 : decode cX0_wouldHear 25 = .ok (.if_icmp .ge 80, 3) := do_162 (rdb (p := 0) (i := 25) ch_cX0_wouldHear_0 rfl) (rdb (p := 0) (i := 26) ch_cX0_wouldHear_0 rfl) (rdb (p := 0) (i := 27) ch_cX0_wouldHear_0 rfl) (by decide +kernel)
theorem dX0_wouldHear_28 : decode cX0_wouldHear 28 = .ok (.iconst 1, 1) := do_4 (rdb (p := 0) (i := 28) ch_cX0_wouldHear_0 rfl)
theorem dX0_wouldHear_29 : decode cX0_wouldHear 29 = .ok (.istore 6, 2) := do_54 (rdb (p := 0) (i := 29) ch_cX0_wouldHear_0 rfl) (rdb (p := 0) (i := 30) ch_cX0_wouldHear_0 rfl)
theorem dX0_wouldHear_31 : decode cX0_wouldHear 31 = .ok (.iload 6, 2) := do_21 (rdb (p := 0) (i := 31) ch_cX0_wouldHear_0 rfl) (rdb (p := 0) (i := 32) ch_cX0_wouldHear_0 rfl)
theorem ch_cX0_wouldHear_32 : (cX0_wouldHear.data.toList.drop 32).take 36 = [6, 25, 4, 182, 0, 120, 163, 0, 61, 28, 21, 5, 21, 6, 184, 0, 46, 54, 7, 42, 27, 21, 7, 182, 0, 123, 154, 0, 6, 167, 0, 38, 21, 7, 29, 160] := by decide +kernel
theorem dX0_wouldHear_33 : decode cX0_wouldHear 33 = .ok (.aload 4, 2) := do_25 (rdb (p := 32) (i := 1) ch_cX0_wouldHear_32 rfl) (rdb (p := 32) (i := 2) ch_cX0_wouldHear_32 rfl)
theorem dX0_wouldHear_35 : decode cX0_wouldHear 35 = .ok (.invokevirtual 120, 3) := do_182 (rdb (p := 32) (i := 3) ch_cX0_wouldHear_32 rfl) (rdb (p := 32) (i := 4) ch_cX0_wouldHear_32 rfl) (rdb (p := 32) (i := 5) ch_cX0_wouldHear_32 rfl) rfl
theorem dX0_wouldHear_38 : decode cX0_wouldHear 38 = .ok (.if_icmp .gt 61, 3) := do_163 (rdb (p := 32) (i := 6) ch_cX0_wouldHear_32 rfl) (rdb (p := 32) (i := 7) ch_cX0_wouldHear_32 rfl) (rdb (p := 32) (i := 8) ch_cX0_wouldHear_32 rfl) (by decide +kernel)
theorem dX0_wouldHear_41 : decode cX0_wouldHear 41 = .ok (.iload_n 2, 1) := do_28 (rdb (p := 32) (i := 9) ch_cX0_wouldHear_32 rfl)
theorem dX0_wouldHear_42 : decode cX0_wouldHear 42 = .ok (.iload 5, 2) := do_21 (rdb (p := 32) (i := 10) ch_cX0_wouldHear_32 rfl) (rdb (p := 32) (i := 11) ch_cX0_wouldHear_32 rfl)
theorem dX0_wouldHear_44 : decode cX0_wouldHear 44 = .ok (.iload 6, 2) := do_21 (rdb (p := 32) (i := 12) ch_cX0_wouldHear_32 rfl) (rdb (p := 32) (i := 13) ch_cX0_wouldHear_32 rfl)
theorem dX0_wouldHear_46 : decode cX0_wouldHear 46 = .ok (.invokestatic 46, 3) := do_184 (rdb (p := 32) (i := 14) ch_cX0_wouldHear_32 rfl) (rdb (p := 32) (i := 15) ch_cX0_wouldHear_32 rfl) (rdb (p := 32) (i := 16) ch_cX0_wouldHear_32 rfl) rfl
theorem dX0_wouldHear_49 : decode cX0_wouldHear 49 = .ok (.istore 7, 2) := do_54 (rdb (p := 32) (i := 17) ch_cX0_wouldHear_32 rfl) (rdb (p := 32) (i := 18) ch_cX0_wouldHear_32 rfl)
theorem dX0_wouldHear_51 : decode cX0_wouldHear 51 = .ok (.aload_n 0, 1) := do_42 (rdb (p := 32) (i := 19) ch_cX0_wouldHear_32 rfl)
theorem dX0_wouldHear_52 : decode cX0_wouldHear 52 = .ok (.iload_n 1, 1) := do_27 (rdb (p := 32) (i := 20) ch_cX0_wouldHear_32 rfl)
theorem dX0_wouldHear_53 : decode cX0_wouldHear 53 = .ok (.iload 7, 2) := do_21 (rdb (p := 32) (i := 21) ch_cX0_wouldHear_32 rfl) (rdb (p := 32) (i := 22) ch_cX0_wouldHear_32 rfl)
theorem dX0_wouldHear_55 : decode cX0_wouldHear 55 = .ok (.invokevirtual 123, 3) := do_182 (rdb (p := 32) (i := 23) ch_cX0_wouldHear_32 rfl) (rdb (p := 32) (i := 24) ch_cX0_wouldHear_32 rfl) (rdb (p := 32) (i := 25) ch_cX0_wouldHear_32 rfl) rfl
theorem dX0_wouldHear_58 : decode cX0_wouldHear 58 = .ok (.ifCond .ne 6, 3) := do_154 (rdb (p := 32) (i := 26) ch_cX0_wouldHear_32 rfl) (rdb (p := 32) (i := 27) ch_cX0_wouldHear_32 rfl) (rdb (p := 32) (i := 28) ch_cX0_wouldHear_32 rfl) (by decide +kernel)
theorem dX0_wouldHear_61 : decode cX0_wouldHear 61 = .ok (.goto 38, 3) := do_167 (rdb (p := 32) (i := 29) ch_cX0_wouldHear_32 rfl) (rdb (p := 32) (i := 30) ch_cX0_wouldHear_32 rfl) (rdb (p := 32) (i := 31) ch_cX0_wouldHear_32 rfl) (by decide +kernel)
theorem ch_cX0_wouldHear_64 : (cX0_wouldHear.data.toList.drop 64).take 36 = [21, 7, 29, 160, 0, 26, 42, 180, 0, 126, 25, 4, 182, 0, 130, 4, 25, 4, 182, 0, 133, 21, 6, 21, 5, 182, 0, 136, 172, 132, 6, 1, 167, 255, 191, 132] := by decide +kernel
theorem dX0_wouldHear_64 : decode cX0_wouldHear 64 = .ok (.iload 7, 2) := do_21 (rdb (p := 64) (i := 0) ch_cX0_wouldHear_64 rfl) (rdb (p := 64) (i := 1) ch_cX0_wouldHear_64 rfl)
theorem dX0_wouldHear_66 : decode cX0_wouldHear 66 = .ok (.iload_n 3, 1) := do_29 (rdb (p := 64) (i := 2) ch_cX0_wouldHear_64 rfl)
theorem dX0_wouldHear_67 : decode cX0_wouldHear 67 = .ok (.if_icmp .ne 26, 3) := do_160 (rdb (p := 64) (i := 3) ch_cX0_wouldHear_64 rfl) (rdb (p := 64) (i := 4) ch_cX0_wouldHear_64 rfl) (rdb (p := 64) (i := 5) ch_cX0_wouldHear_64 rfl) (by decide +kernel)
theorem dX0_wouldHear_70 : decode cX0_wouldHear 70 = .ok (.aload_n 0, 1) := do_42 (rdb (p := 64) (i := 6) ch_cX0_wouldHear_64 rfl)
theorem dX0_wouldHear_71 : decode cX0_wouldHear 71 = .ok (.getfield 126, 3) := do_180 (rdb (p := 64) (i := 7) ch_cX0_wouldHear_64 rfl) (rdb (p := 64) (i := 8) ch_cX0_wouldHear_64 rfl) (rdb (p := 64) (i := 9) ch_cX0_wouldHear_64 rfl) rfl
theorem dX0_wouldHear_74 : decode cX0_wouldHear 74 = .ok (.aload 4, 2) := do_25 (rdb (p := 64) (i := 10) ch_cX0_wouldHear_64 rfl) (rdb (p := 64) (i := 11) ch_cX0_wouldHear_64 rfl)
theorem dX0_wouldHear_76 : decode cX0_wouldHear 76 = .ok (.invokevirtual 130, 3) := do_182 (rdb (p := 64) (i := 12) ch_cX0_wouldHear_64 rfl) (rdb (p := 64) (i := 13) ch_cX0_wouldHear_64 rfl) (rdb (p := 64) (i := 14) ch_cX0_wouldHear_64 rfl) rfl
theorem dX0_wouldHear_79 : decode cX0_wouldHear 79 = .ok (.iconst 1, 1) := do_4 (rdb (p := 64) (i := 15) ch_cX0_wouldHear_64 rfl)
theorem dX0_wouldHear_80 : decode cX0_wouldHear 80 = .ok (.aload 4, 2) := do_25 (rdb (p := 64) (i := 16) ch_cX0_wouldHear_64 rfl) (rdb (p := 64) (i := 17) ch_cX0_wouldHear_64 rfl)
theorem dX0_wouldHear_82 : decode cX0_wouldHear 82 = .ok (.invokevirtual 133, 3) := do_182 (rdb (p := 64) (i := 18) ch_cX0_wouldHear_64 rfl) (rdb (p := 64) (i := 19) ch_cX0_wouldHear_64 rfl) (rdb (p := 64) (i := 20) ch_cX0_wouldHear_64 rfl) rfl
theorem dX0_wouldHear_85 : decode cX0_wouldHear 85 = .ok (.iload 6, 2) := do_21 (rdb (p := 64) (i := 21) ch_cX0_wouldHear_64 rfl) (rdb (p := 64) (i := 22) ch_cX0_wouldHear_64 rfl)
theorem dX0_wouldHear_87 : decode cX0_wouldHear 87 = .ok (.iload 5, 2) := do_21 (rdb (p := 64) (i := 23) ch_cX0_wouldHear_64 rfl) (rdb (p := 64) (i := 24) ch_cX0_wouldHear_64 rfl)
theorem dX0_wouldHear_89 : decode cX0_wouldHear 89 = .ok (.invokevirtual 136, 3) := do_182 (rdb (p := 64) (i := 25) ch_cX0_wouldHear_64 rfl) (rdb (p := 64) (i := 26) ch_cX0_wouldHear_64 rfl) (rdb (p := 64) (i := 27) ch_cX0_wouldHear_64 rfl) rfl
theorem dX0_wouldHear_92 : decode cX0_wouldHear 92 = .ok (.ireturn, 1) := do_172 (rdb (p := 64) (i := 28) ch_cX0_wouldHear_64 rfl)
theorem dX0_wouldHear_93 : decode cX0_wouldHear 93 = .ok (.iinc 6 1, 3) := do_132 (rdb (p := 64) (i := 29) ch_cX0_wouldHear_64 rfl) (rdb (p := 64) (i := 30) ch_cX0_wouldHear_64 rfl) (rdb (p := 64) (i := 31) ch_cX0_wouldHear_64 rfl) (by decide +kernel)
theorem ch_cX0_wouldHear_96 : (cX0_wouldHear.data.toList.drop 96).take 36 = [167, 255, 191, 132, 5, 1, 167, 255, 175, 3, 172] := by decide +kernel
theorem dX0_wouldHear_96 : decode cX0_wouldHear 96 = .ok (.goto (-65), 3) := do_167 (rdb (p := 96) (i := 0) ch_cX0_wouldHear_96 rfl) (rdb (p := 96) (i := 1) ch_cX0_wouldHear_96 rfl) (rdb (p := 96) (i := 2) ch_cX0_wouldHear_96 rfl) (by decide +kernel)
theorem dX0_wouldHear_99 : decode cX0_wouldHear 99 = .ok (.iinc 5 1, 3) := do_132 (rdb (p := 96) (i := 3) ch_cX0_wouldHear_96 rfl) (rdb (p := 96) (i := 4) ch_cX0_wouldHear_96 rfl) (rdb (p := 96) (i := 5) ch_cX0_wouldHear_96 rfl) (by decide +kernel)
theorem dX0_wouldHear_102 : decode cX0_wouldHear 102 = .ok (.goto (-81), 3) := do_167 (rdb (p := 96) (i := 6) ch_cX0_wouldHear_96 rfl) (rdb (p := 96) (i := 7) ch_cX0_wouldHear_96 rfl) (rdb (p := 96) (i := 8) ch_cX0_wouldHear_96 rfl) (by decide +kernel)
theorem dX0_wouldHear_105 : decode cX0_wouldHear 105 = .ok (.iconst 0, 1) := do_3 (rdb (p := 96) (i := 9) ch_cX0_wouldHear_96 rfl)
theorem dX0_wouldHear_106 : decode cX0_wouldHear 106 = .ok (.ireturn, 1) := do_172 (rdb (p := 96) (i := 10) ch_cX0_wouldHear_96 rfl)
end
section
def SP_X0_costInto (b : Nat) (w : Nat) (v : Int32) (Mz : mM) (r_ : Int32) : Prop := ∃ r1_ : Int32, (SP_X9_held b w v Mz r1_) ∧ (((¬ r1_.toInt = 1) ∧ (((¬ r1_.toInt = 2) ∧ r_ = 3) ∨ ((r1_.toInt = 2) ∧ r_ = 20))) ∨ ((r1_.toInt = 1) ∧ r_ = 1))
set_option maxHeartbeats 4000000 in
set_option maxRecDepth 100000 in
theorem c_X0_costInto (l : Launch) (G : va_G) (cy : Nat → ClassId) (ad : rf → Nat) (d : Nat) (b : Nat) (w : Nat) (v : Int32) (Mz : mM) (hIz : Inv Mz) (hb : b < 3) (hw : w < 8) : WP CC l G cy ad yX0_costInto cX0_costInto 3 (some .int) (d + 2) 0 [(0, vR (9, b, w)), (1, vI v)] [] Mz (fun r M' => Mz = M' ∧ (True) ∧ SP_X0_costInto b w v Mz r) := by
  refine w_aload_n dX0_costInto_0 rfl 0 rfl ?_
  refine w_iload_n dX0_costInto_1 rfl 1 rfl ?_
  refine w_callV (as := [vI v]) (rest := []) (c_X9_held l G cy ad d b w v Mz hIz hb hw) kV_X9_held pnn_3 (Nat.le_of_ble_eq_true rfl) m_1084 rfl rfl rfl (ic_9 hb hw) rfl rfl (by decide) (Nat.le_of_ble_eq_true rfl) dX0_costInto_2 (fun r1_ M2_ q3_ => ?_)
  obtain ⟨rfl, h4_, hs5_⟩ := q3_
  refine w_istore_n (ls' := [(2, vI r1_), (0, vR (9, b, w)), (1, vI v)]) dX0_costInto_5 rfl (by decide) rfl ?_
  refine w_iload_n dX0_costInto_6 rfl 0 rfl ?_
  refine w_iconst (v := 1) dX0_costInto_7 (by decide) ?_
  refine w_icmp_ne (tgt := 15) dX0_costInto_8 (by decide) (rfl : r1_.toInt = r1_.toInt) li_1 (fun h6_ => ?_) (fun h6_ => ?_)
  · refine w_iload_n dX0_costInto_15 rfl 0 rfl ?_
    refine w_iconst (v := 2) dX0_costInto_16 (by decide) ?_
    refine w_icmp_ne (tgt := 25) dX0_costInto_17 (by decide) (rfl : r1_.toInt = r1_.toInt) li_2 (fun h7_ => ?_) (fun h7_ => ?_)
    · refine w_iconst (v := 3) dX0_costInto_25 (by decide) ?_
      exact w_iret rfl dX0_costInto_26 ⟨rfl, trivial, ⟨r1_, hs5_, (Or.inl ⟨h6_, (Or.inl ⟨h7_, rfl⟩)⟩)⟩⟩
    · refine w_bipush (v := 20) dX0_costInto_20 (by decide) ?_
      refine w_goto (tgt := 26) dX0_costInto_22 (by decide) ?_
      exact w_iret rfl dX0_costInto_26 ⟨rfl, trivial, ⟨r1_, hs5_, (Or.inl ⟨h6_, (Or.inr ⟨h7_, rfl⟩)⟩)⟩⟩
  · refine w_iconst (v := 1) dX0_costInto_11 (by decide) ?_
    refine w_goto (tgt := 26) dX0_costInto_12 (by decide) ?_
    exact w_iret rfl dX0_costInto_26 ⟨rfl, trivial, ⟨r1_, hs5_, (Or.inr ⟨h6_, rfl⟩)⟩⟩
def SP_X0_costFrom (v : Int32) (Mz : mM) (r_ : Int32) : Prop := (((SP_X7_isCell v Mz (1 : Int32)) ∧ (0 ≤ v.toInt ∧ v.toInt ≤ 191) ∧ ∃ j9_ : Nat, ((j9_ : Int) = v.toInt) ∧ ∃ z7_ : Int32, (z7_ = Mz.1 (20, 0, 0) j9_) ∧ r_ = z7_) ∨ ((SP_X7_isCell v Mz (0 : Int32)) ∧ (¬ (0 ≤ v.toInt ∧ v.toInt ≤ 191)) ∧ r_ = 1000000))
set_option maxHeartbeats 4000000 in
set_option maxRecDepth 100000 in
theorem c_X0_costFrom (l : Launch) (G : va_G) (cy : Nat → ClassId) (ad : rf → Nat) (d : Nat) (v : Int32) (Mz : mM) (hIz : Inv Mz) : WP CC l G cy ad yX0_costFrom cX0_costFrom 2 (some .int) (d + 1) 0 [(0, vR (0, 0, 0)), (1, vI v)] [] Mz (fun r M' => Mz = M' ∧ (True) ∧ SP_X0_costFrom v Mz r) := by
  refine w_iload_n dX0_costFrom_0 rfl 1 rfl ?_
  refine w_callS (as := [vI v]) (rest := []) (c_X7_isCell l G cy ad d v Mz hIz) kS_X7_isCell pnn_1 (Nat.le_of_ble_eq_true rfl) m_1076 rfl rfl (by decide) (Nat.le_of_ble_eq_true rfl) dX0_costFrom_1 (fun r1_ M2_ q3_ => ?_)
  obtain ⟨rfl, h4_, hs5_⟩ := q3_
  rcases h4_ with ⟨rfl, h4_⟩ | ⟨rfl, h4_⟩
  · refine w_if_eq (tgt := 16) dX0_costFrom_4 (by decide) li_1 (fun h9 => (absurd h9 (by decide))) (fun h6_ => ?_)
    refine w_aload_n dX0_costFrom_7 rfl 0 rfl ?_
    refine w_getR (c' := (20, 0, 0)) fl_RX0_9 rfl rfl ic_0 dX0_costFrom_8 rfl ?_
    refine w_iload_n dX0_costFrom_11 rfl 1 rfl ?_
    refine w_iald rfl rfl ic_20 (rfl : v.toInt = v.toInt) (lf_c_X7_isFree_0 v h4_ ) dX0_costFrom_12 (fun j9_ h10_ z7_ e8_ => ?_)
    refine w_goto (tgt := 18) dX0_costFrom_13 (by decide) ?_
    exact w_iret rfl dX0_costFrom_18 ⟨rfl, trivial, (Or.inl ⟨hs5_, h4_, j9_, h10_, z7_, e8_, rfl⟩)⟩
  · refine w_if_eq (tgt := 16) dX0_costFrom_4 (by decide) li_0 (fun h11_ => ?_) (fun h9 => (absurd h9 (by decide)))
    refine w_ldc (v := 1000000) m_1075 dX0_costFrom_16 ?_
    exact w_iret rfl dX0_costFrom_18 ⟨rfl, trivial, (Or.inr ⟨hs5_, h4_, rfl⟩)⟩
def ST_X0_nearestOpen_4 (Mz : mM) (v2_4 : Int32) (v1_4 : Int32) (v2_4y : Int32) (v1_4y : Int32) : Prop := (0 ≤ v2_4.toInt) ∧ (v2_4.toInt ≤ 192) ∧ (-1 ≤ v1_4.toInt) ∧ (v1_4.toInt ≤ 191) ∧ (v2_4.toInt < 192) ∧ ∃ j5_ : Nat, ((j5_ : Int) = v2_4.toInt) ∧ ∃ z3_ : Int32, (z3_ = Mz.1 (21, 0, 0) j5_) ∧ (((¬ z3_.toInt = 0) ∧ ∃ z8_ : Int32, (z8_.toInt = v2_4.toInt + 1) ∧ v2_4y = z8_ ∧ v1_4y = v1_4) ∨ ((z3_.toInt = 0) ∧ ∃ j12_ : Nat, ((j12_ : Int) = v2_4.toInt) ∧ ∃ z10_ : Int32, (z10_ = Mz.1 (20, 0, 0) j12_) ∧ (((1000000 ≤ z10_.toInt) ∧ ∃ z15_ : Int32, (z15_.toInt = v2_4.toInt + 1) ∧ v2_4y = z15_ ∧ v1_4y = v1_4) ∨ ((z10_.toInt < 1000000) ∧ (((v1_4.toInt < 0) ∧ ∃ z18_ : Int32, (z18_.toInt = v2_4.toInt + 1) ∧ v2_4y = z18_ ∧ v1_4y = v2_4) ∨ ((0 ≤ v1_4.toInt) ∧ ∃ j22_ : Nat, ((j22_ : Int) = v2_4.toInt) ∧ ∃ z20_ : Int32, (z20_ = Mz.1 (20, 0, 0) j22_) ∧ ∃ j26_ : Nat, ((j26_ : Int) = v1_4.toInt) ∧ ∃ z24_ : Int32, (z24_ = Mz.1 (20, 0, 0) j26_) ∧ (((z24_.toInt ≤ z20_.toInt) ∧ ∃ z29_ : Int32, (z29_.toInt = v2_4.toInt + 1) ∧ v2_4y = z29_ ∧ v1_4y = v1_4) ∨ ((z20_.toInt < z24_.toInt) ∧ ∃ z31_ : Int32, (z31_.toInt = v2_4.toInt + 1) ∧ v2_4y = z31_ ∧ v1_4y = v2_4))))))))
def SP_X0_nearestOpen (Mz : mM) (r_ : Int32) : Prop := ∃ v2_4 : Int32, (0 ≤ v2_4.toInt) ∧ (v2_4.toInt ≤ 192) ∧ ∃ v1_4 : Int32, (-1 ≤ v1_4.toInt) ∧ (v1_4.toInt ≤ 191) ∧ (RCH (fun x_ y_ => ST_X0_nearestOpen_4 Mz x_.1 x_.2 y_.1 y_.2) ((0 : Int32), ((-1) : Int32)) (v2_4, v1_4)) ∧ (192 ≤ v2_4.toInt) ∧ r_ = v1_4
theorem lf_c_X0_nearestOpen_0 (v1_4 : Int32) (hv2_4 : -1 ≤ v1_4.toInt) (hv3_4 : v1_4.toInt ≤ 191) : -1 ≤ v1_4.toInt ∧ v1_4.toInt ≤ 191 := by omega
theorem lf_c_X0_nearestOpen_14 (v2_4 : Int32) (hv0_4 : 0 ≤ v2_4.toInt) : -1 ≤ v2_4.toInt := by omega
theorem lf_c_X0_nearestOpen_15 (v2_4 : Int32) (h2_ : v2_4.toInt < 192) : v2_4.toInt ≤ 191 := by omega
theorem lf_c_X0_nearestOpen_18 (v1_4 : Int32) (hv3_4 : v1_4.toInt ≤ 191) (h17_ : 0 ≤ v1_4.toInt) : 0 ≤ v1_4.toInt ∧ v1_4.toInt < ((192 : Nat) : Int) := by omega
theorem lf_c_X0_nearestOpen_29 : 0 ≤ (0 : Int32).toInt := by have q0 := li_m1; have q1 := li_0; omega
theorem lf_c_X0_nearestOpen_30 : (0 : Int32).toInt ≤ 192 := by have q0 := li_m1; have q1 := li_0; omega
theorem lf_c_X0_nearestOpen_31 : -1 ≤ ((-1) : Int32).toInt := by have q0 := li_m1; have q1 := li_0; omega
theorem lf_c_X0_nearestOpen_32 : ((-1) : Int32).toInt ≤ 191 := by have q0 := li_m1; have q1 := li_0; omega
set_option maxHeartbeats 4000000 in
set_option maxRecDepth 100000 in
theorem c_X0_nearestOpen (l : Launch) (G : va_G) (cy : Nat → ClassId) (ad : rf → Nat) (d : Nat) (Mz : mM) (hIz : Inv Mz) : WP CC l G cy ad yX0_nearestOpen cX0_nearestOpen 3 (some .int) d 0 [(0, vR (0, 0, 0))] [] Mz (fun r M' => Mz = M' ∧ (-1 ≤ r.toInt ∧ r.toInt ≤ 191) ∧ SP_X0_nearestOpen Mz r) := by
  refine w_iconst (v := (-1)) dX0_nearestOpen_0 (by decide) ?_
  refine w_istore_n (ls' := [(1, vI (-1)), (0, vR (0, 0, 0))]) dX0_nearestOpen_1 rfl (by decide) rfl ?_
  refine w_iconst (v := 0) dX0_nearestOpen_2 (by decide) ?_
  refine w_istore_n (ls' := [(2, vI 0), (1, vI (-1)), (0, vR (0, 0, 0))]) dX0_nearestOpen_3 rfl (by decide) rfl ?_
  have lp1_ : ∀ (nn_4 : Nat) (v2_4 : Int32) (v1_4 : Int32) (hv0_4 : 0 ≤ v2_4.toInt) (hv1_4 : v2_4.toInt ≤ 192) (hv2_4 : -1 ≤ v1_4.toInt) (hv3_4 : v1_4.toInt ≤ 191) (hL_4 : RCH (fun x_ y_ => ST_X0_nearestOpen_4 Mz x_.1 x_.2 y_.1 y_.2) ((0 : Int32), ((-1) : Int32)) (v2_4, v1_4)), (2147483648 - v2_4.toInt).toNat < nn_4 → WP CC l G cy ad yX0_nearestOpen cX0_nearestOpen 3 (some .int) d 4 [(2, vI v2_4), (1, vI v1_4), (0, vR (0, 0, 0))] [] Mz (fun r M' => Mz = M' ∧ (-1 ≤ r.toInt ∧ r.toInt ≤ 191) ∧ SP_X0_nearestOpen Mz r) := by
    intro nn_4
    induction nn_4 with
    | zero => intro v2_4 v1_4 hv0_4 hv1_4 hv2_4 hv3_4 hL_4 hm_4; exact absurd hm_4 (Nat.not_lt_zero _)
    | succ nn_4 ih_4 =>
      intro v2_4 v1_4 hv0_4 hv1_4 hv2_4 hv3_4 hL_4 hm_4
      refine w_iload_n dX0_nearestOpen_4 rfl 0 rfl ?_
      refine w_sipush (v := 192) dX0_nearestOpen_5 (by decide) ?_
      refine w_icmp_ge (tgt := 58) dX0_nearestOpen_8 (by decide) (rfl : v2_4.toInt = v2_4.toInt) li_192 (fun h2_ => ?_) (fun h2_ => ?_)
      · refine w_iload_n dX0_nearestOpen_58 rfl 1 rfl ?_
        exact w_iret rfl dX0_nearestOpen_59 ⟨rfl, (lf_c_X0_nearestOpen_0 v1_4 hv2_4 hv3_4 ), ⟨v2_4, hv0_4, hv1_4, v1_4, hv2_4, hv3_4, hL_4, h2_, rfl⟩⟩
      · refine w_aload_n dX0_nearestOpen_11 rfl 2 rfl ?_
        refine w_getR (c' := (21, 0, 0)) fl_RX0_15 rfl rfl ic_0 dX0_nearestOpen_12 rfl ?_
        refine w_iload_n dX0_nearestOpen_15 rfl 0 rfl ?_
        refine w_zald rfl rfl ic_21 (rfl : v2_4.toInt = v2_4.toInt) (lf_c_X9_begin_0 v2_4 hv0_4 h2_ ) dX0_nearestOpen_16 (fun j5_ h6_ z3_ e4_ => ?_)
        refine w_if_ne (tgt := 52) dX0_nearestOpen_17 (by decide) (rfl : z3_.toInt = z3_.toInt) (fun h7_ => ?_) (fun h7_ => ?_)
        · refine w_iincB (j := 0) (f := fun z8_ => [(2, vI z8_), (1, vI v1_4), (0, vR (0, 0, 0))]) dX0_nearestOpen_52 rfl (by decide) (fun _ => rfl) (rfl : v2_4.toInt = v2_4.toInt) li_1 (lf_c_X9_begin_2 v2_4 hv0_4 h2_ ) (fun z8_ h9_ => ?_)
          refine w_goto (tgt := 4) dX0_nearestOpen_55 (by decide) ?_
          refine w_loc (ls' := [(2, vI z8_), (1, vI v1_4), (0, vR (0, 0, 0))]) [0, 1, 2] rfl ?_
          exact ih_4 z8_ v1_4 (lf_c_X5_takeFrom_3 v2_4 z8_ hv0_4 h9_ ) (lf_c_X9_begin_4 v2_4 z8_ h2_ h9_ ) hv2_4 hv3_4 (RCH.tail hL_4 ⟨hv0_4, hv1_4, hv2_4, hv3_4, h2_, j5_, h6_, z3_, e4_, (Or.inl ⟨h7_, z8_, h9_, rfl, rfl⟩)⟩) (Nat.lt_of_lt_of_le (lf_c_X9_begin_5 v2_4 z8_ h2_ h9_ ) (Nat.le_of_lt_succ hm_4))
        · refine w_aload_n dX0_nearestOpen_20 rfl 2 rfl ?_
          refine w_getR (c' := (20, 0, 0)) fl_RX0_9 rfl rfl ic_0 dX0_nearestOpen_21 rfl ?_
          refine w_iload_n dX0_nearestOpen_24 rfl 0 rfl ?_
          refine w_iald rfl rfl ic_20 (rfl : v2_4.toInt = v2_4.toInt) (lf_c_X9_begin_0 v2_4 hv0_4 h2_ ) dX0_nearestOpen_25 (fun j12_ h13_ z10_ e11_ => ?_)
          refine w_ldc (v := 1000000) m_1075 dX0_nearestOpen_26 ?_
          refine w_icmp_ge (tgt := 52) dX0_nearestOpen_28 (by decide) (rfl : z10_.toInt = z10_.toInt) li_1000000 (fun h14_ => ?_) (fun h14_ => ?_)
          · refine w_iincB (j := 0) (f := fun z15_ => [(2, vI z15_), (1, vI v1_4), (0, vR (0, 0, 0))]) dX0_nearestOpen_52 rfl (by decide) (fun _ => rfl) (rfl : v2_4.toInt = v2_4.toInt) li_1 (lf_c_X9_begin_2 v2_4 hv0_4 h2_ ) (fun z15_ h16_ => ?_)
            refine w_goto (tgt := 4) dX0_nearestOpen_55 (by decide) ?_
            refine w_loc (ls' := [(2, vI z15_), (1, vI v1_4), (0, vR (0, 0, 0))]) [0, 1, 2] rfl ?_
            exact ih_4 z15_ v1_4 (lf_c_X5_takeFrom_3 v2_4 z15_ hv0_4 h16_ ) (lf_c_X9_begin_4 v2_4 z15_ h2_ h16_ ) hv2_4 hv3_4 (RCH.tail hL_4 ⟨hv0_4, hv1_4, hv2_4, hv3_4, h2_, j5_, h6_, z3_, e4_, (Or.inr ⟨h7_, j12_, h13_, z10_, e11_, (Or.inl ⟨h14_, z15_, h16_, rfl, rfl⟩)⟩)⟩) (Nat.lt_of_lt_of_le (lf_c_X9_begin_5 v2_4 z15_ h2_ h16_ ) (Nat.le_of_lt_succ hm_4))
          · refine w_iload_n dX0_nearestOpen_31 rfl 1 rfl ?_
            refine w_if_lt (tgt := 50) dX0_nearestOpen_32 (by decide) (rfl : v1_4.toInt = v1_4.toInt) (fun h17_ => ?_) (fun h17_ => ?_)
            · refine w_iload_n dX0_nearestOpen_50 rfl 0 rfl ?_
              refine w_istore_n (ls' := [(1, vI v2_4), (2, vI v2_4), (0, vR (0, 0, 0))]) dX0_nearestOpen_51 rfl (by decide) rfl ?_
              refine w_iincB (j := 1) (f := fun z18_ => [(2, vI z18_), (1, vI v2_4), (0, vR (0, 0, 0))]) dX0_nearestOpen_52 rfl (by decide) (fun _ => rfl) (rfl : v2_4.toInt = v2_4.toInt) li_1 (lf_c_X9_begin_2 v2_4 hv0_4 h2_ ) (fun z18_ h19_ => ?_)
              refine w_goto (tgt := 4) dX0_nearestOpen_55 (by decide) ?_
              refine w_loc (ls' := [(2, vI z18_), (1, vI v2_4), (0, vR (0, 0, 0))]) [0, 1, 2] rfl ?_
              exact ih_4 z18_ v2_4 (lf_c_X5_takeFrom_3 v2_4 z18_ hv0_4 h19_ ) (lf_c_X9_begin_4 v2_4 z18_ h2_ h19_ ) (lf_c_X0_nearestOpen_14 v2_4 hv0_4 ) (lf_c_X0_nearestOpen_15 v2_4 h2_ ) (RCH.tail hL_4 ⟨hv0_4, hv1_4, hv2_4, hv3_4, h2_, j5_, h6_, z3_, e4_, (Or.inr ⟨h7_, j12_, h13_, z10_, e11_, (Or.inr ⟨h14_, (Or.inl ⟨h17_, z18_, h19_, rfl, rfl⟩)⟩)⟩)⟩) (Nat.lt_of_lt_of_le (lf_c_X9_begin_5 v2_4 z18_ h2_ h19_ ) (Nat.le_of_lt_succ hm_4))
            · refine w_aload_n dX0_nearestOpen_35 rfl 2 rfl ?_
              refine w_getR (c' := (20, 0, 0)) fl_RX0_9 rfl rfl ic_0 dX0_nearestOpen_36 rfl ?_
              refine w_iload_n dX0_nearestOpen_39 rfl 0 rfl ?_
              refine w_iald rfl rfl ic_20 (rfl : v2_4.toInt = v2_4.toInt) (lf_c_X9_begin_0 v2_4 hv0_4 h2_ ) dX0_nearestOpen_40 (fun j22_ h23_ z20_ e21_ => ?_)
              refine w_aload_n dX0_nearestOpen_41 rfl 2 rfl ?_
              refine w_getR (c' := (20, 0, 0)) fl_RX0_9 rfl rfl ic_0 dX0_nearestOpen_42 rfl ?_
              refine w_iload_n dX0_nearestOpen_45 rfl 1 rfl ?_
              refine w_iald rfl rfl ic_20 (rfl : v1_4.toInt = v1_4.toInt) (lf_c_X0_nearestOpen_18 v1_4 hv3_4 h17_ ) dX0_nearestOpen_46 (fun j26_ h27_ z24_ e25_ => ?_)
              refine w_icmp_ge (tgt := 52) dX0_nearestOpen_47 (by decide) (rfl : z20_.toInt = z20_.toInt) (rfl : z24_.toInt = z24_.toInt) (fun h28_ => ?_) (fun h28_ => ?_)
              · refine w_iincB (j := 0) (f := fun z29_ => [(2, vI z29_), (1, vI v1_4), (0, vR (0, 0, 0))]) dX0_nearestOpen_52 rfl (by decide) (fun _ => rfl) (rfl : v2_4.toInt = v2_4.toInt) li_1 (lf_c_X9_begin_2 v2_4 hv0_4 h2_ ) (fun z29_ h30_ => ?_)
                refine w_goto (tgt := 4) dX0_nearestOpen_55 (by decide) ?_
                refine w_loc (ls' := [(2, vI z29_), (1, vI v1_4), (0, vR (0, 0, 0))]) [0, 1, 2] rfl ?_
                exact ih_4 z29_ v1_4 (lf_c_X5_takeFrom_3 v2_4 z29_ hv0_4 h30_ ) (lf_c_X9_begin_4 v2_4 z29_ h2_ h30_ ) hv2_4 hv3_4 (RCH.tail hL_4 ⟨hv0_4, hv1_4, hv2_4, hv3_4, h2_, j5_, h6_, z3_, e4_, (Or.inr ⟨h7_, j12_, h13_, z10_, e11_, (Or.inr ⟨h14_, (Or.inr ⟨h17_, j22_, h23_, z20_, e21_, j26_, h27_, z24_, e25_, (Or.inl ⟨h28_, z29_, h30_, rfl, rfl⟩)⟩)⟩)⟩)⟩) (Nat.lt_of_lt_of_le (lf_c_X9_begin_5 v2_4 z29_ h2_ h30_ ) (Nat.le_of_lt_succ hm_4))
              · refine w_iload_n dX0_nearestOpen_50 rfl 0 rfl ?_
                refine w_istore_n (ls' := [(1, vI v2_4), (2, vI v2_4), (0, vR (0, 0, 0))]) dX0_nearestOpen_51 rfl (by decide) rfl ?_
                refine w_iincB (j := 1) (f := fun z31_ => [(2, vI z31_), (1, vI v2_4), (0, vR (0, 0, 0))]) dX0_nearestOpen_52 rfl (by decide) (fun _ => rfl) (rfl : v2_4.toInt = v2_4.toInt) li_1 (lf_c_X9_begin_2 v2_4 hv0_4 h2_ ) (fun z31_ h32_ => ?_)
                refine w_goto (tgt := 4) dX0_nearestOpen_55 (by decide) ?_
                refine w_loc (ls' := [(2, vI z31_), (1, vI v2_4), (0, vR (0, 0, 0))]) [0, 1, 2] rfl ?_
                exact ih_4 z31_ v2_4 (lf_c_X5_takeFrom_3 v2_4 z31_ hv0_4 h32_ ) (lf_c_X9_begin_4 v2_4 z31_ h2_ h32_ ) (lf_c_X0_nearestOpen_14 v2_4 hv0_4 ) (lf_c_X0_nearestOpen_15 v2_4 h2_ ) (RCH.tail hL_4 ⟨hv0_4, hv1_4, hv2_4, hv3_4, h2_, j5_, h6_, z3_, e4_, (Or.inr ⟨h7_, j12_, h13_, z10_, e11_, (Or.inr ⟨h14_, (Or.inr ⟨h17_, j22_, h23_, z20_, e21_, j26_, h27_, z24_, e25_, (Or.inr ⟨h28_, z31_, h32_, rfl, rfl⟩)⟩)⟩)⟩)⟩) (Nat.lt_of_lt_of_le (lf_c_X9_begin_5 v2_4 z31_ h2_ h32_ ) (Nat.le_of_lt_succ hm_4))
  exact lp1_ _ 0 (-1) (lf_c_X0_nearestOpen_29 ) (lf_c_X0_nearestOpen_30 ) (lf_c_X0_nearestOpen_31 ) (lf_c_X0_nearestOpen_32 ) RCH.refl (Nat.lt_succ_self _)
def S_c_X0_measure (b : Nat) (w : Nat) : rf → Nat → Prop := fun c k => (c.1 = 20 ∧ c.2.1 = 0) ∨ (c.1 = 21 ∧ c.2.1 = 0) ∨ False
def ST_X0_measure_92 (b : Nat) (w : Nat) (Mz : mM) (r17_ : Int32) (z38_ : Int32) (v6_92 : Int32) (M_92 : mM) (v6_92y : Int32) (M_92y : mM) : Prop := (0 ≤ v6_92.toInt) ∧ (v6_92.toInt ≤ 9) ∧ (Inv M_92) ∧ (FR (S_c_X0_measure b w) Mz M_92) ∧ (v6_92.toInt < 8) ∧ ∃ r44_ : Int32, (SP_X7_cellFrom r17_ v6_92 1 M_92 r44_) ∧ (-1 ≤ r44_.toInt ∧ r44_.toInt ≤ 191) ∧ (((r44_.toInt < 0) ∧ ∃ z50_ : Int32, (z50_.toInt = v6_92.toInt + 2) ∧ v6_92y = z50_ ∧ M_92y = M_92) ∨ ((0 ≤ r44_.toInt) ∧ ∃ j54_ : Nat, ((j54_ : Int) = r44_.toInt) ∧ ∃ z52_ : Int32, (z52_ = M_92.1 (20, 0, 0) j54_) ∧ (((z52_.toInt ≤ z38_.toInt) ∧ ∃ z57_ : Int32, (z57_.toInt = v6_92.toInt + 2) ∧ v6_92y = z57_ ∧ M_92y = M_92) ∨ ((z38_.toInt < z52_.toInt) ∧ ∃ j61_ : Nat, ((j61_ : Int) = r44_.toInt) ∧ ∃ M59_ : mM, (M59_ = up M_92 (20, 0, 0) j61_ z38_) ∧ ∃ z65_ : Int32, (z65_.toInt = v6_92.toInt + 2) ∧ v6_92y = z65_ ∧ M_92y = M59_))))
def ST_X0_measure_46 (b : Nat) (w : Nat) (Mz : mM) (v3_46 : Int32) (M_46 : mM) (v3_46y : Int32) (M_46y : mM) : Prop := (0 ≤ v3_46.toInt) ∧ (v3_46.toInt ≤ 192) ∧ (Inv M_46) ∧ (FR (S_c_X0_measure b w) Mz M_46) ∧ (v3_46.toInt < 192) ∧ ∃ r17_ : Int32, (SP_X0_nearestOpen M_46 r17_) ∧ (-1 ≤ r17_.toInt ∧ r17_.toInt ≤ 191) ∧ (0 ≤ r17_.toInt) ∧ ∃ j25_ : Nat, ((j25_ : Int) = r17_.toInt) ∧ ∃ M23_ : mM, (M23_ = up M_46 (21, 0, 0) j25_ (vp_nar .boolean 1)) ∧ ∃ j31_ : Nat, ((j31_ : Int) = r17_.toInt) ∧ ∃ z29_ : Int32, (z29_ = M23_.1 (20, 0, 0) j31_) ∧ (Inv M23_) ∧ ∃ r33_ : Int32, (SP_X0_costInto b w r17_ M23_ r33_) ∧ ∃ z38_ : Int32, (z38_ = z29_ + r33_) ∧ ∃ v6_92 : Int32, (0 ≤ v6_92.toInt) ∧ (v6_92.toInt ≤ 9) ∧ ∃ M_92 : mM, (RCH (fun x_ y_ => ST_X0_measure_92 b w Mz r17_ z38_ x_.1 x_.2 y_.1 y_.2) ((0 : Int32), M23_) (v6_92, M_92)) ∧ (Inv M_92) ∧ (FR (S_c_X0_measure b w) Mz M_92) ∧ (8 ≤ v6_92.toInt) ∧ ∃ z42_ : Int32, (z42_.toInt = v3_46.toInt + 1) ∧ v3_46y = z42_ ∧ M_46y = M_92
def ST_X0_measure_92b (b : Nat) (w : Nat) (Mz : mM) (r70_ : Int32) (z91_ : Int32) (v6_92 : Int32) (M_92 : mM) (v6_92y : Int32) (M_92y : mM) : Prop := (0 ≤ v6_92.toInt) ∧ (v6_92.toInt ≤ 9) ∧ (Inv M_92) ∧ (FR (S_c_X0_measure b w) Mz M_92) ∧ (v6_92.toInt < 8) ∧ ∃ r97_ : Int32, (SP_X7_cellFrom r70_ v6_92 1 M_92 r97_) ∧ (-1 ≤ r97_.toInt ∧ r97_.toInt ≤ 191) ∧ (((r97_.toInt < 0) ∧ ∃ z103_ : Int32, (z103_.toInt = v6_92.toInt + 2) ∧ v6_92y = z103_ ∧ M_92y = M_92) ∨ ((0 ≤ r97_.toInt) ∧ ∃ j107_ : Nat, ((j107_ : Int) = r97_.toInt) ∧ ∃ z105_ : Int32, (z105_ = M_92.1 (20, 0, 0) j107_) ∧ (((z105_.toInt ≤ z91_.toInt) ∧ ∃ z110_ : Int32, (z110_.toInt = v6_92.toInt + 2) ∧ v6_92y = z110_ ∧ M_92y = M_92) ∨ ((z91_.toInt < z105_.toInt) ∧ ∃ j114_ : Nat, ((j114_ : Int) = r97_.toInt) ∧ ∃ M112_ : mM, (M112_ = up M_92 (20, 0, 0) j114_ z91_) ∧ ∃ z118_ : Int32, (z118_.toInt = v6_92.toInt + 2) ∧ v6_92y = z118_ ∧ M_92y = M112_))))
def ST_X0_measure_46b (b : Nat) (w : Nat) (Mz : mM) (v3_46 : Int32) (M_46 : mM) (v3_46y : Int32) (M_46y : mM) : Prop := (0 ≤ v3_46.toInt) ∧ (v3_46.toInt ≤ 192) ∧ (Inv M_46) ∧ (FR (S_c_X0_measure b w) Mz M_46) ∧ (v3_46.toInt < 192) ∧ ∃ r70_ : Int32, (SP_X0_nearestOpen M_46 r70_) ∧ (-1 ≤ r70_.toInt ∧ r70_.toInt ≤ 191) ∧ (0 ≤ r70_.toInt) ∧ ∃ j78_ : Nat, ((j78_ : Int) = r70_.toInt) ∧ ∃ M76_ : mM, (M76_ = up M_46 (21, 0, 0) j78_ (vp_nar .boolean 1)) ∧ ∃ j84_ : Nat, ((j84_ : Int) = r70_.toInt) ∧ ∃ z82_ : Int32, (z82_ = M76_.1 (20, 0, 0) j84_) ∧ (Inv M76_) ∧ ∃ r86_ : Int32, (SP_X0_costInto b w r70_ M76_ r86_) ∧ ∃ z91_ : Int32, (z91_ = z82_ + r86_) ∧ ∃ v6_92 : Int32, (0 ≤ v6_92.toInt) ∧ (v6_92.toInt ≤ 9) ∧ ∃ M_92 : mM, (RCH (fun x_ y_ => ST_X0_measure_92b b w Mz r70_ z91_ x_.1 x_.2 y_.1 y_.2) ((0 : Int32), M76_) (v6_92, M_92)) ∧ (Inv M_92) ∧ (FR (S_c_X0_measure b w) Mz M_92) ∧ (8 ≤ v6_92.toInt) ∧ ∃ z95_ : Int32, (z95_.toInt = v3_46.toInt + 1) ∧ v3_46y = z95_ ∧ M_46y = M_92
def ST_X0_measure_2 (b : Nat) (w : Nat) (Mz : mM) (v3_2 : Int32) (M_2 : mM) (v3_2y : Int32) (M_2y : mM) : Prop := (0 ≤ v3_2.toInt) ∧ (v3_2.toInt ≤ 192) ∧ (Inv M_2) ∧ (FR (S_c_X0_measure b w) Mz M_2) ∧ (v3_2.toInt < 192) ∧ ∃ j122_ : Nat, ((j122_ : Int) = v3_2.toInt) ∧ ∃ M120_ : mM, (M120_ = up M_2 (20, 0, 0) j122_ 1000000) ∧ ∃ j128_ : Nat, ((j128_ : Int) = v3_2.toInt) ∧ ∃ M126_ : mM, (M126_ = up M120_ (21, 0, 0) j128_ (vp_nar .boolean 0)) ∧ ∃ z132_ : Int32, (z132_.toInt = v3_2.toInt + 1) ∧ v3_2y = z132_ ∧ M_2y = M126_
def SP_X0_measure (b : Nat) (w : Nat) (v : Int32) (Mz : mM) (M_ : mM) : Prop := ∃ v3_2 : Int32, (0 ≤ v3_2.toInt) ∧ (v3_2.toInt ≤ 192) ∧ ∃ M_2 : mM, (RCH (fun x_ y_ => ST_X0_measure_2 b w Mz x_.1 x_.2 y_.1 y_.2) ((0 : Int32), Mz) (v3_2, M_2)) ∧ (Inv M_2) ∧ (FR (S_c_X0_measure b w) Mz M_2) ∧ (192 ≤ v3_2.toInt) ∧ (((SP_X7_isCell v M_2 (1 : Int32)) ∧ (0 ≤ v.toInt ∧ v.toInt ≤ 191) ∧ ∃ j11_ : Nat, ((j11_ : Int) = v.toInt) ∧ ∃ M9_ : mM, (M9_ = up M_2 (20, 0, 0) j11_ 0) ∧ ∃ v3_46 : Int32, (0 ≤ v3_46.toInt) ∧ (v3_46.toInt ≤ 192) ∧ ∃ M_46 : mM, (RCH (fun x_ y_ => ST_X0_measure_46 b w Mz x_.1 x_.2 y_.1 y_.2) ((0 : Int32), M9_) (v3_46, M_46)) ∧ (Inv M_46) ∧ (FR (S_c_X0_measure b w) Mz M_46) ∧ (((192 ≤ v3_46.toInt) ∧ M_ = M_46) ∨ ((v3_46.toInt < 192) ∧ ∃ r17_ : Int32, (SP_X0_nearestOpen M_46 r17_) ∧ (-1 ≤ r17_.toInt ∧ r17_.toInt ≤ 191) ∧ (r17_.toInt < 0) ∧ M_ = M_46))) ∨ ((SP_X7_isCell v M_2 (0 : Int32)) ∧ (¬ (0 ≤ v.toInt ∧ v.toInt ≤ 191)) ∧ ∃ v3_46 : Int32, (0 ≤ v3_46.toInt) ∧ (v3_46.toInt ≤ 192) ∧ ∃ M_46 : mM, (RCH (fun x_ y_ => ST_X0_measure_46b b w Mz x_.1 x_.2 y_.1 y_.2) ((0 : Int32), M_2) (v3_46, M_46)) ∧ (Inv M_46) ∧ (FR (S_c_X0_measure b w) Mz M_46) ∧ (((192 ≤ v3_46.toInt) ∧ M_ = M_46) ∨ ((v3_46.toInt < 192) ∧ ∃ r70_ : Int32, (SP_X0_nearestOpen M_46 r70_) ∧ (-1 ≤ r70_.toInt ∧ r70_.toInt ≤ 191) ∧ (r70_.toInt < 0) ∧ M_ = M_46))))
theorem lf_c_X0_measure_1 (r17_ : Int32) (h20_ : -1 ≤ r17_.toInt ∧ r17_.toInt ≤ 191) (h22_ : 0 ≤ r17_.toInt) : 0 ≤ r17_.toInt ∧ r17_.toInt < ((192 : Nat) : Int) := by omega
theorem lf_c_X0_measure_7 (v6_92 : Int32) (hv0_92 : 0 ≤ v6_92.toInt) (h41_ : v6_92.toInt < 8) : -2147483648 ≤ v6_92.toInt + 2 ∧ v6_92.toInt + 2 < 2147483648 := by omega
theorem lf_c_X0_measure_8 (v6_92 : Int32) (z50_ : Int32) (hv0_92 : 0 ≤ v6_92.toInt) (h51_ : z50_.toInt = v6_92.toInt + 2) : 0 ≤ z50_.toInt := by omega
theorem lf_c_X0_measure_9 (v6_92 : Int32) (z50_ : Int32) (h41_ : v6_92.toInt < 8) (h51_ : z50_.toInt = v6_92.toInt + 2) : z50_.toInt ≤ 9 := by omega
theorem lf_c_X0_measure_10 (v6_92 : Int32) (z50_ : Int32) (h41_ : v6_92.toInt < 8) (h51_ : z50_.toInt = v6_92.toInt + 2) : (2147483648 - z50_.toInt).toNat < (2147483648 - v6_92.toInt).toNat := by omega
theorem lf_c_X0_measure_22 : (0 : Int32).toInt ≤ 9 := by have q0 := li_0; omega
set_option maxHeartbeats 4000000 in
set_option maxRecDepth 100000 in
theorem c_X0_measure (l : Launch) (G : va_G) (cy : Nat → ClassId) (ad : rf → Nat) (d : Nat) (b : Nat) (w : Nat) (v : Int32) (Mz : mM) (hIz : Inv Mz) (hb : b < 3) (hw : w < 8) : WP CC l G cy ad yX0_measure cX0_measure 8 none (d + 3) 0 [(0, vR (0, 0, 0)), (1, vR (9, b, w)), (2, vI v)] [] Mz (fun r M' => Inv M' ∧ FR (S_c_X0_measure b w) Mz M' ∧ (True) ∧ SP_X0_measure b w v Mz M') := by
  have hFz : FR (S_c_X0_measure b w) Mz Mz := FR.self
  refine w_iconst (v := 0) dX0_measure_0 (by decide) ?_
  refine w_istore_n (ls' := [(3, vI 0), (0, vR (0, 0, 0)), (1, vR (9, b, w)), (2, vI v)]) dX0_measure_1 rfl (by decide) rfl ?_
  have lp1_ : ∀ (nn_2 : Nat) (M_2 : mM) (hI_2 : Inv M_2) (hF_2 : FR (S_c_X0_measure b w) Mz M_2) (v3_2 : Int32) (hv0_2 : 0 ≤ v3_2.toInt) (hv1_2 : v3_2.toInt ≤ 192) (hL_2 : RCH (fun x_ y_ => ST_X0_measure_2 b w Mz x_.1 x_.2 y_.1 y_.2) ((0 : Int32), Mz) (v3_2, M_2)), (2147483648 - v3_2.toInt).toNat < nn_2 → WP CC l G cy ad yX0_measure cX0_measure 8 none (d + 3) 2 [(3, vI v3_2), (0, vR (0, 0, 0)), (1, vR (9, b, w)), (2, vI v)] [] M_2 (fun r M' => Inv M' ∧ FR (S_c_X0_measure b w) Mz M' ∧ (True) ∧ SP_X0_measure b w v Mz M') := by
    intro nn_2
    induction nn_2 with
    | zero => intro M_2 hI_2 hF_2 v3_2 hv0_2 hv1_2 hL_2 hm_2; exact absurd hm_2 (Nat.not_lt_zero _)
    | succ nn_2 ih_2 =>
      intro M_2 hI_2 hF_2 v3_2 hv0_2 hv1_2 hL_2 hm_2
      refine w_iload_n dX0_measure_2 rfl 0 rfl ?_
      refine w_sipush (v := 192) dX0_measure_3 (by decide) ?_
      refine w_icmp_ge (tgt := 30) dX0_measure_6 (by decide) (rfl : v3_2.toInt = v3_2.toInt) li_192 (fun h2_ => ?_) (fun h2_ => ?_)
      · refine w_iload_n dX0_measure_30 rfl 3 rfl ?_
        refine w_callS (as := [vI v]) (rest := []) (c_X7_isCell l G cy ad (d + 2) v M_2 hI_2) kS_X7_isCell pnn_1 (Nat.le_of_ble_eq_true rfl) m_1076 rfl rfl (by decide) (Nat.le_of_ble_eq_true rfl) dX0_measure_31 (fun r3_ M4_ q5_ => ?_)
        obtain ⟨rfl, h6_, hs7_⟩ := q5_
        rcases h6_ with ⟨rfl, h6_⟩ | ⟨rfl, h6_⟩
        · refine w_if_eq (tgt := 44) dX0_measure_34 (by decide) li_1 (fun h9 => (absurd h9 (by decide))) (fun h8_ => ?_)
          refine w_aload_n dX0_measure_37 rfl 1 rfl ?_
          refine w_getR (c' := (20, 0, 0)) fl_RX0_9 rfl rfl ic_0 dX0_measure_38 rfl ?_
          refine w_iload_n dX0_measure_41 rfl 3 rfl ?_
          refine w_iconst (v := 0) dX0_measure_42 (by decide) ?_
          refine w_iast CC_nd rfl rfl ic_20 (rfl : v.toInt = v.toInt) (lf_c_X7_isFree_0 v h6_ ) dX0_measure_43 (fun j11_ h12_ M9_ hM10_ => ?_)
          have hI13_ := hI_2.put hM10_ trivial
          have hF14_ := hF_2.put hM10_ (Or.inl ⟨rfl, rfl⟩)
          refine w_iconst (v := 0) dX0_measure_44 (by decide) ?_
          refine w_istore_n (ls' := [(3, vI 0), (0, vR (0, 0, 0)), (1, vR (9, b, w)), (2, vI v)]) dX0_measure_45 rfl (by decide) rfl ?_
          have lp15_ : ∀ (nn_46 : Nat) (M_46 : mM) (hI_46 : Inv M_46) (hF_46 : FR (S_c_X0_measure b w) Mz M_46) (v3_46 : Int32) (hv0_46 : 0 ≤ v3_46.toInt) (hv1_46 : v3_46.toInt ≤ 192) (hL_46 : RCH (fun x_ y_ => ST_X0_measure_46 b w Mz x_.1 x_.2 y_.1 y_.2) ((0 : Int32), M9_) (v3_46, M_46)), (2147483648 - v3_46.toInt).toNat < nn_46 → WP CC l G cy ad yX0_measure cX0_measure 8 none (d + 3) 46 [(3, vI v3_46), (0, vR (0, 0, 0)), (1, vR (9, b, w)), (2, vI v)] [] M_46 (fun r M' => Inv M' ∧ FR (S_c_X0_measure b w) Mz M' ∧ (True) ∧ SP_X0_measure b w v Mz M') := by
            intro nn_46
            induction nn_46 with
            | zero => intro M_46 hI_46 hF_46 v3_46 hv0_46 hv1_46 hL_46 hm_46; exact absurd hm_46 (Nat.not_lt_zero _)
            | succ nn_46 ih_46 =>
              intro M_46 hI_46 hF_46 v3_46 hv0_46 hv1_46 hL_46 hm_46
              refine w_iload_n dX0_measure_46 rfl 0 rfl ?_
              refine w_sipush (v := 192) dX0_measure_47 (by decide) ?_
              refine w_icmp_ge (tgt := 147) dX0_measure_50 (by decide) (rfl : v3_46.toInt = v3_46.toInt) li_192 (fun h16_ => ?_) (fun h16_ => ?_)
              · exact w_vret rfl dX0_measure_147 ⟨hI_46, hF_46, trivial, ⟨v3_2, hv0_2, hv1_2, M_2, hL_2, hI_2, hF_2, h2_, (Or.inl ⟨hs7_, h6_, j11_, h12_, M9_, hM10_, v3_46, hv0_46, hv1_46, M_46, hL_46, hI_46, hF_46, (Or.inl ⟨h16_, rfl⟩)⟩)⟩⟩
              · refine w_aload_n dX0_measure_53 rfl 1 rfl ?_
                refine w_callV (as := []) (rest := []) (c_X0_nearestOpen l G cy ad (d + 2) M_46 hI_46) kV_X0_nearestOpen pnn_11 (Nat.le_of_ble_eq_true rfl) m_1077 rfl rfl rfl ic_0 rfl rfl (by decide) (Nat.le_of_ble_eq_true rfl) dX0_measure_54 (fun r17_ M18_ q19_ => ?_)
                obtain ⟨rfl, h20_, hs21_⟩ := q19_
                refine w_istore (ls' := [(4, vI r17_), (3, vI v3_46), (0, vR (0, 0, 0)), (1, vR (9, b, w)), (2, vI v)]) dX0_measure_57 (by decide) rfl ?_
                refine w_iload dX0_measure_59 0 rfl ?_
                refine w_if_ge (tgt := 65) dX0_measure_61 (by decide) (rfl : r17_.toInt = r17_.toInt) (fun h22_ => ?_) (fun h22_ => ?_)
                · refine w_aload_n dX0_measure_65 rfl 2 rfl ?_
                  refine w_getR (c' := (21, 0, 0)) fl_RX0_15 rfl rfl ic_0 dX0_measure_66 rfl ?_
                  refine w_iload dX0_measure_69 0 rfl ?_
                  refine w_iconst (v := 1) dX0_measure_71 (by decide) ?_
                  refine w_zast CC_nd rfl rfl ic_21 (rfl : r17_.toInt = r17_.toInt) (lf_c_X0_measure_1 r17_ h20_ h22_ ) dX0_measure_72 (fun j25_ h26_ M23_ hM24_ => ?_)
                  have hI27_ := hI_46.put hM24_ trivial
                  have hF28_ := hF_46.put hM24_ (Or.inr (Or.inl ⟨rfl, rfl⟩))
                  refine w_aload_n dX0_measure_73 rfl 2 rfl ?_
                  refine w_getR (c' := (20, 0, 0)) fl_RX0_9 rfl rfl ic_0 dX0_measure_74 rfl ?_
                  refine w_iload dX0_measure_77 0 rfl ?_
                  refine w_iald rfl rfl ic_20 (rfl : r17_.toInt = r17_.toInt) (lf_c_X0_measure_1 r17_ h20_ h22_ ) dX0_measure_79 (fun j31_ h32_ z29_ e30_ => ?_)
                  refine w_aload_n dX0_measure_80 rfl 3 rfl ?_
                  refine w_iload dX0_measure_81 0 rfl ?_
                  refine w_callS (as := [vR (9, b, w), vI r17_]) (rest := [vI z29_]) (c_X0_costInto l G cy ad d b w r17_ M23_ hI27_ hb hw) kS_X0_costInto pnn_11 (Nat.le_of_ble_eq_true rfl) m_1081 rfl rfl (by decide) (Nat.le_of_ble_eq_true rfl) dX0_measure_83 (fun r33_ M34_ q35_ => ?_)
                  obtain ⟨rfl, h36_, hs37_⟩ := q35_
                  refine w_iadd dX0_measure_86 (fun z38_ h39_ => ?_)
                  refine w_istore (ls' := [(5, vI z38_), (4, vI r17_), (3, vI v3_46), (0, vR (0, 0, 0)), (1, vR (9, b, w)), (2, vI v)]) dX0_measure_87 (by decide) rfl ?_
                  refine w_iconst (v := 0) dX0_measure_89 (by decide) ?_
                  refine w_istore (ls' := [(6, vI 0), (5, vI z38_), (4, vI r17_), (3, vI v3_46), (0, vR (0, 0, 0)), (1, vR (9, b, w)), (2, vI v)]) dX0_measure_90 (by decide) rfl ?_
                  have lp40_ : ∀ (nn_92 : Nat) (M_92 : mM) (hI_92 : Inv M_92) (hF_92 : FR (S_c_X0_measure b w) Mz M_92) (v6_92 : Int32) (hv0_92 : 0 ≤ v6_92.toInt) (hv1_92 : v6_92.toInt ≤ 9) (hL_92 : RCH (fun x_ y_ => ST_X0_measure_92 b w Mz r17_ z38_ x_.1 x_.2 y_.1 y_.2) ((0 : Int32), M23_) (v6_92, M_92)), (2147483648 - v6_92.toInt).toNat < nn_92 → WP CC l G cy ad yX0_measure cX0_measure 8 none (d + 3) 92 [(6, vI v6_92), (5, vI z38_), (4, vI r17_), (3, vI v3_46), (0, vR (0, 0, 0)), (1, vR (9, b, w)), (2, vI v)] [] M_92 (fun r M' => Inv M' ∧ FR (S_c_X0_measure b w) Mz M' ∧ (True) ∧ SP_X0_measure b w v Mz M') := by
                    intro nn_92
                    induction nn_92 with
                    | zero => intro M_92 hI_92 hF_92 v6_92 hv0_92 hv1_92 hL_92 hm_92; exact absurd hm_92 (Nat.not_lt_zero _)
                    | succ nn_92 ih_92 =>
                      intro M_92 hI_92 hF_92 v6_92 hv0_92 hv1_92 hL_92 hm_92
                      refine w_iload dX0_measure_92 0 rfl ?_
                      refine w_bipush (v := 8) dX0_measure_94 (by decide) ?_
                      refine w_icmp_ge (tgt := 141) dX0_measure_96 (by decide) (rfl : v6_92.toInt = v6_92.toInt) li_8 (fun h41_ => ?_) (fun h41_ => ?_)
                      · refine w_iincB (j := 3) (f := fun z42_ => [(3, vI z42_), (6, vI v6_92), (5, vI z38_), (4, vI r17_), (0, vR (0, 0, 0)), (1, vR (9, b, w)), (2, vI v)]) dX0_measure_141 rfl (by decide) (fun _ => rfl) (rfl : v3_46.toInt = v3_46.toInt) li_1 (lf_c_X9_begin_2 v3_46 hv0_46 h16_ ) (fun z42_ h43_ => ?_)
                        refine w_goto (tgt := 46) dX0_measure_144 (by decide) ?_
                        refine w_loc (ls' := [(3, vI z42_), (0, vR (0, 0, 0)), (1, vR (9, b, w)), (2, vI v)]) [0, 4, 5, 6] rfl ?_
                        exact ih_46 M_92 hI_92 hF_92 z42_ (lf_c_X5_takeFrom_3 v3_46 z42_ hv0_46 h43_ ) (lf_c_X9_begin_4 v3_46 z42_ h16_ h43_ ) (RCH.tail hL_46 ⟨hv0_46, hv1_46, hI_46, hF_46, h16_, r17_, hs21_, h20_, h22_, j25_, h26_, M23_, hM24_, j31_, h32_, z29_, e30_, hI27_, r33_, hs37_, z38_, h39_, v6_92, hv0_92, hv1_92, M_92, hL_92, hI_92, hF_92, h41_, z42_, h43_, rfl, rfl⟩) (Nat.lt_of_lt_of_le (lf_c_X9_begin_5 v3_46 z42_ h16_ h43_ ) (Nat.le_of_lt_succ hm_46))
                      · refine w_iload dX0_measure_99 2 rfl ?_
                        refine w_iload dX0_measure_101 0 rfl ?_
                        refine w_iconst (v := 1) dX0_measure_103 (by decide) ?_
                        refine w_callS (as := [vI r17_, vI v6_92, vI 1]) (rest := []) (c_X7_cellFrom l G cy ad (d + 1) r17_ v6_92 1 M_92 hI_92) kS_X7_cellFrom pnn_1 (Nat.le_of_ble_eq_true rfl) m_1000 rfl rfl (by decide) (Nat.le_of_ble_eq_true rfl) dX0_measure_104 (fun r44_ M45_ q46_ => ?_)
                        obtain ⟨rfl, h47_, hs48_⟩ := q46_
                        refine w_istore (ls' := [(7, vI r44_), (6, vI v6_92), (5, vI z38_), (4, vI r17_), (3, vI v3_46), (0, vR (0, 0, 0)), (1, vR (9, b, w)), (2, vI v)]) dX0_measure_107 (by decide) rfl ?_
                        refine w_iload dX0_measure_109 0 rfl ?_
                        refine w_if_lt (tgt := 135) dX0_measure_111 (by decide) (rfl : r44_.toInt = r44_.toInt) (fun h49_ => ?_) (fun h49_ => ?_)
                        · refine w_iincB (j := 1) (f := fun z50_ => [(6, vI z50_), (7, vI r44_), (5, vI z38_), (4, vI r17_), (3, vI v3_46), (0, vR (0, 0, 0)), (1, vR (9, b, w)), (2, vI v)]) dX0_measure_135 rfl (by decide) (fun _ => rfl) (rfl : v6_92.toInt = v6_92.toInt) li_2 (lf_c_X0_measure_7 v6_92 hv0_92 h41_ ) (fun z50_ h51_ => ?_)
                          refine w_goto (tgt := 92) dX0_measure_138 (by decide) ?_
                          refine w_loc (ls' := [(6, vI z50_), (5, vI z38_), (4, vI r17_), (3, vI v3_46), (0, vR (0, 0, 0)), (1, vR (9, b, w)), (2, vI v)]) [0, 2, 3, 4, 5, 6, 7] rfl ?_
                          exact ih_92 M_92 hI_92 hF_92 z50_ (lf_c_X0_measure_8 v6_92 z50_ hv0_92 h51_ ) (lf_c_X0_measure_9 v6_92 z50_ h41_ h51_ ) (RCH.tail hL_92 ⟨hv0_92, hv1_92, hI_92, hF_92, h41_, r44_, hs48_, h47_, (Or.inl ⟨h49_, z50_, h51_, rfl, rfl⟩)⟩) (Nat.lt_of_lt_of_le (lf_c_X0_measure_10 v6_92 z50_ h41_ h51_ ) (Nat.le_of_lt_succ hm_92))
                        · refine w_iload dX0_measure_114 2 rfl ?_
                          refine w_aload_n dX0_measure_116 rfl 5 rfl ?_
                          refine w_getR (c' := (20, 0, 0)) fl_RX0_9 rfl rfl ic_0 dX0_measure_117 rfl ?_
                          refine w_iload dX0_measure_120 0 rfl ?_
                          refine w_iald rfl rfl ic_20 (rfl : r44_.toInt = r44_.toInt) (lf_c_X0_measure_1 r44_ h47_ h49_ ) dX0_measure_122 (fun j54_ h55_ z52_ e53_ => ?_)
                          refine w_icmp_ge (tgt := 135) dX0_measure_123 (by decide) (rfl : z38_.toInt = z38_.toInt) (rfl : z52_.toInt = z52_.toInt) (fun h56_ => ?_) (fun h56_ => ?_)
                          · refine w_iincB (j := 1) (f := fun z57_ => [(6, vI z57_), (7, vI r44_), (5, vI z38_), (4, vI r17_), (3, vI v3_46), (0, vR (0, 0, 0)), (1, vR (9, b, w)), (2, vI v)]) dX0_measure_135 rfl (by decide) (fun _ => rfl) (rfl : v6_92.toInt = v6_92.toInt) li_2 (lf_c_X0_measure_7 v6_92 hv0_92 h41_ ) (fun z57_ h58_ => ?_)
                            refine w_goto (tgt := 92) dX0_measure_138 (by decide) ?_
                            refine w_loc (ls' := [(6, vI z57_), (5, vI z38_), (4, vI r17_), (3, vI v3_46), (0, vR (0, 0, 0)), (1, vR (9, b, w)), (2, vI v)]) [0, 2, 3, 4, 5, 6, 7] rfl ?_
                            exact ih_92 M_92 hI_92 hF_92 z57_ (lf_c_X0_measure_8 v6_92 z57_ hv0_92 h58_ ) (lf_c_X0_measure_9 v6_92 z57_ h41_ h58_ ) (RCH.tail hL_92 ⟨hv0_92, hv1_92, hI_92, hF_92, h41_, r44_, hs48_, h47_, (Or.inr ⟨h49_, j54_, h55_, z52_, e53_, (Or.inl ⟨h56_, z57_, h58_, rfl, rfl⟩)⟩)⟩) (Nat.lt_of_lt_of_le (lf_c_X0_measure_10 v6_92 z57_ h41_ h58_ ) (Nat.le_of_lt_succ hm_92))
                          · refine w_aload_n dX0_measure_126 rfl 5 rfl ?_
                            refine w_getR (c' := (20, 0, 0)) fl_RX0_9 rfl rfl ic_0 dX0_measure_127 rfl ?_
                            refine w_iload dX0_measure_130 0 rfl ?_
                            refine w_iload dX0_measure_132 2 rfl ?_
                            refine w_iast CC_nd rfl rfl ic_20 (rfl : r44_.toInt = r44_.toInt) (lf_c_X0_measure_1 r44_ h47_ h49_ ) dX0_measure_134 (fun j61_ h62_ M59_ hM60_ => ?_)
                            have hI63_ := hI_92.put hM60_ trivial
                            have hF64_ := hF_92.put hM60_ (Or.inl ⟨rfl, rfl⟩)
                            refine w_iincB (j := 1) (f := fun z65_ => [(6, vI z65_), (7, vI r44_), (5, vI z38_), (4, vI r17_), (3, vI v3_46), (0, vR (0, 0, 0)), (1, vR (9, b, w)), (2, vI v)]) dX0_measure_135 rfl (by decide) (fun _ => rfl) (rfl : v6_92.toInt = v6_92.toInt) li_2 (lf_c_X0_measure_7 v6_92 hv0_92 h41_ ) (fun z65_ h66_ => ?_)
                            refine w_goto (tgt := 92) dX0_measure_138 (by decide) ?_
                            refine w_loc (ls' := [(6, vI z65_), (5, vI z38_), (4, vI r17_), (3, vI v3_46), (0, vR (0, 0, 0)), (1, vR (9, b, w)), (2, vI v)]) [0, 2, 3, 4, 5, 6, 7] rfl ?_
                            exact ih_92 M59_ hI63_ hF64_ z65_ (lf_c_X0_measure_8 v6_92 z65_ hv0_92 h66_ ) (lf_c_X0_measure_9 v6_92 z65_ h41_ h66_ ) (RCH.tail hL_92 ⟨hv0_92, hv1_92, hI_92, hF_92, h41_, r44_, hs48_, h47_, (Or.inr ⟨h49_, j54_, h55_, z52_, e53_, (Or.inr ⟨h56_, j61_, h62_, M59_, hM60_, z65_, h66_, rfl, rfl⟩)⟩)⟩) (Nat.lt_of_lt_of_le (lf_c_X0_measure_10 v6_92 z65_ h41_ h66_ ) (Nat.le_of_lt_succ hm_92))
                  exact lp40_ _ M23_ hI27_ hF28_ 0 (lf_c_X5_takeFrom_5 ) (lf_c_X0_measure_22 ) RCH.refl (Nat.lt_succ_self _)
                · exact w_vret rfl dX0_measure_64 ⟨hI_46, hF_46, trivial, ⟨v3_2, hv0_2, hv1_2, M_2, hL_2, hI_2, hF_2, h2_, (Or.inl ⟨hs7_, h6_, j11_, h12_, M9_, hM10_, v3_46, hv0_46, hv1_46, M_46, hL_46, hI_46, hF_46, (Or.inr ⟨h16_, r17_, hs21_, h20_, h22_, rfl⟩)⟩)⟩⟩
          exact lp15_ _ M9_ hI13_ hF14_ 0 (lf_c_X5_takeFrom_5 ) (lf_c_X9_begin_7 ) RCH.refl (Nat.lt_succ_self _)
        · refine w_if_eq (tgt := 44) dX0_measure_34 (by decide) li_0 (fun h67_ => ?_) (fun h9 => (absurd h9 (by decide)))
          refine w_iconst (v := 0) dX0_measure_44 (by decide) ?_
          refine w_istore_n (ls' := [(3, vI 0), (0, vR (0, 0, 0)), (1, vR (9, b, w)), (2, vI v)]) dX0_measure_45 rfl (by decide) rfl ?_
          have lp68_ : ∀ (nn_46 : Nat) (M_46 : mM) (hI_46 : Inv M_46) (hF_46 : FR (S_c_X0_measure b w) Mz M_46) (v3_46 : Int32) (hv0_46 : 0 ≤ v3_46.toInt) (hv1_46 : v3_46.toInt ≤ 192) (hL_46 : RCH (fun x_ y_ => ST_X0_measure_46b b w Mz x_.1 x_.2 y_.1 y_.2) ((0 : Int32), M_2) (v3_46, M_46)), (2147483648 - v3_46.toInt).toNat < nn_46 → WP CC l G cy ad yX0_measure cX0_measure 8 none (d + 3) 46 [(3, vI v3_46), (0, vR (0, 0, 0)), (1, vR (9, b, w)), (2, vI v)] [] M_46 (fun r M' => Inv M' ∧ FR (S_c_X0_measure b w) Mz M' ∧ (True) ∧ SP_X0_measure b w v Mz M') := by
            intro nn_46
            induction nn_46 with
            | zero => intro M_46 hI_46 hF_46 v3_46 hv0_46 hv1_46 hL_46 hm_46; exact absurd hm_46 (Nat.not_lt_zero _)
            | succ nn_46 ih_46 =>
              intro M_46 hI_46 hF_46 v3_46 hv0_46 hv1_46 hL_46 hm_46
              refine w_iload_n dX0_measure_46 rfl 0 rfl ?_
              refine w_sipush (v := 192) dX0_measure_47 (by decide) ?_
              refine w_icmp_ge (tgt := 147) dX0_measure_50 (by decide) (rfl : v3_46.toInt = v3_46.toInt) li_192 (fun h69_ => ?_) (fun h69_ => ?_)
              · exact w_vret rfl dX0_measure_147 ⟨hI_46, hF_46, trivial, ⟨v3_2, hv0_2, hv1_2, M_2, hL_2, hI_2, hF_2, h2_, (Or.inr ⟨hs7_, h6_, v3_46, hv0_46, hv1_46, M_46, hL_46, hI_46, hF_46, (Or.inl ⟨h69_, rfl⟩)⟩)⟩⟩
              · refine w_aload_n dX0_measure_53 rfl 1 rfl ?_
                refine w_callV (as := []) (rest := []) (c_X0_nearestOpen l G cy ad (d + 2) M_46 hI_46) kV_X0_nearestOpen pnn_11 (Nat.le_of_ble_eq_true rfl) m_1077 rfl rfl rfl ic_0 rfl rfl (by decide) (Nat.le_of_ble_eq_true rfl) dX0_measure_54 (fun r70_ M71_ q72_ => ?_)
                obtain ⟨rfl, h73_, hs74_⟩ := q72_
                refine w_istore (ls' := [(4, vI r70_), (3, vI v3_46), (0, vR (0, 0, 0)), (1, vR (9, b, w)), (2, vI v)]) dX0_measure_57 (by decide) rfl ?_
                refine w_iload dX0_measure_59 0 rfl ?_
                refine w_if_ge (tgt := 65) dX0_measure_61 (by decide) (rfl : r70_.toInt = r70_.toInt) (fun h75_ => ?_) (fun h75_ => ?_)
                · refine w_aload_n dX0_measure_65 rfl 2 rfl ?_
                  refine w_getR (c' := (21, 0, 0)) fl_RX0_15 rfl rfl ic_0 dX0_measure_66 rfl ?_
                  refine w_iload dX0_measure_69 0 rfl ?_
                  refine w_iconst (v := 1) dX0_measure_71 (by decide) ?_
                  refine w_zast CC_nd rfl rfl ic_21 (rfl : r70_.toInt = r70_.toInt) (lf_c_X0_measure_1 r70_ h73_ h75_ ) dX0_measure_72 (fun j78_ h79_ M76_ hM77_ => ?_)
                  have hI80_ := hI_46.put hM77_ trivial
                  have hF81_ := hF_46.put hM77_ (Or.inr (Or.inl ⟨rfl, rfl⟩))
                  refine w_aload_n dX0_measure_73 rfl 2 rfl ?_
                  refine w_getR (c' := (20, 0, 0)) fl_RX0_9 rfl rfl ic_0 dX0_measure_74 rfl ?_
                  refine w_iload dX0_measure_77 0 rfl ?_
                  refine w_iald rfl rfl ic_20 (rfl : r70_.toInt = r70_.toInt) (lf_c_X0_measure_1 r70_ h73_ h75_ ) dX0_measure_79 (fun j84_ h85_ z82_ e83_ => ?_)
                  refine w_aload_n dX0_measure_80 rfl 3 rfl ?_
                  refine w_iload dX0_measure_81 0 rfl ?_
                  refine w_callS (as := [vR (9, b, w), vI r70_]) (rest := [vI z82_]) (c_X0_costInto l G cy ad d b w r70_ M76_ hI80_ hb hw) kS_X0_costInto pnn_11 (Nat.le_of_ble_eq_true rfl) m_1081 rfl rfl (by decide) (Nat.le_of_ble_eq_true rfl) dX0_measure_83 (fun r86_ M87_ q88_ => ?_)
                  obtain ⟨rfl, h89_, hs90_⟩ := q88_
                  refine w_iadd dX0_measure_86 (fun z91_ h92_ => ?_)
                  refine w_istore (ls' := [(5, vI z91_), (4, vI r70_), (3, vI v3_46), (0, vR (0, 0, 0)), (1, vR (9, b, w)), (2, vI v)]) dX0_measure_87 (by decide) rfl ?_
                  refine w_iconst (v := 0) dX0_measure_89 (by decide) ?_
                  refine w_istore (ls' := [(6, vI 0), (5, vI z91_), (4, vI r70_), (3, vI v3_46), (0, vR (0, 0, 0)), (1, vR (9, b, w)), (2, vI v)]) dX0_measure_90 (by decide) rfl ?_
                  have lp93_ : ∀ (nn_92 : Nat) (M_92 : mM) (hI_92 : Inv M_92) (hF_92 : FR (S_c_X0_measure b w) Mz M_92) (v6_92 : Int32) (hv0_92 : 0 ≤ v6_92.toInt) (hv1_92 : v6_92.toInt ≤ 9) (hL_92 : RCH (fun x_ y_ => ST_X0_measure_92b b w Mz r70_ z91_ x_.1 x_.2 y_.1 y_.2) ((0 : Int32), M76_) (v6_92, M_92)), (2147483648 - v6_92.toInt).toNat < nn_92 → WP CC l G cy ad yX0_measure cX0_measure 8 none (d + 3) 92 [(6, vI v6_92), (5, vI z91_), (4, vI r70_), (3, vI v3_46), (0, vR (0, 0, 0)), (1, vR (9, b, w)), (2, vI v)] [] M_92 (fun r M' => Inv M' ∧ FR (S_c_X0_measure b w) Mz M' ∧ (True) ∧ SP_X0_measure b w v Mz M') := by
                    intro nn_92
                    induction nn_92 with
                    | zero => intro M_92 hI_92 hF_92 v6_92 hv0_92 hv1_92 hL_92 hm_92; exact absurd hm_92 (Nat.not_lt_zero _)
                    | succ nn_92 ih_92 =>
                      intro M_92 hI_92 hF_92 v6_92 hv0_92 hv1_92 hL_92 hm_92
                      refine w_iload dX0_measure_92 0 rfl ?_
                      refine w_bipush (v := 8) dX0_measure_94 (by decide) ?_
                      refine w_icmp_ge (tgt := 141) dX0_measure_96 (by decide) (rfl : v6_92.toInt = v6_92.toInt) li_8 (fun h94_ => ?_) (fun h94_ => ?_)
                      · refine w_iincB (j := 3) (f := fun z95_ => [(3, vI z95_), (6, vI v6_92), (5, vI z91_), (4, vI r70_), (0, vR (0, 0, 0)), (1, vR (9, b, w)), (2, vI v)]) dX0_measure_141 rfl (by decide) (fun _ => rfl) (rfl : v3_46.toInt = v3_46.toInt) li_1 (lf_c_X9_begin_2 v3_46 hv0_46 h69_ ) (fun z95_ h96_ => ?_)
                        refine w_goto (tgt := 46) dX0_measure_144 (by decide) ?_
                        refine w_loc (ls' := [(3, vI z95_), (0, vR (0, 0, 0)), (1, vR (9, b, w)), (2, vI v)]) [0, 4, 5, 6] rfl ?_
                        exact ih_46 M_92 hI_92 hF_92 z95_ (lf_c_X5_takeFrom_3 v3_46 z95_ hv0_46 h96_ ) (lf_c_X9_begin_4 v3_46 z95_ h69_ h96_ ) (RCH.tail hL_46 ⟨hv0_46, hv1_46, hI_46, hF_46, h69_, r70_, hs74_, h73_, h75_, j78_, h79_, M76_, hM77_, j84_, h85_, z82_, e83_, hI80_, r86_, hs90_, z91_, h92_, v6_92, hv0_92, hv1_92, M_92, hL_92, hI_92, hF_92, h94_, z95_, h96_, rfl, rfl⟩) (Nat.lt_of_lt_of_le (lf_c_X9_begin_5 v3_46 z95_ h69_ h96_ ) (Nat.le_of_lt_succ hm_46))
                      · refine w_iload dX0_measure_99 2 rfl ?_
                        refine w_iload dX0_measure_101 0 rfl ?_
                        refine w_iconst (v := 1) dX0_measure_103 (by decide) ?_
                        refine w_callS (as := [vI r70_, vI v6_92, vI 1]) (rest := []) (c_X7_cellFrom l G cy ad (d + 1) r70_ v6_92 1 M_92 hI_92) kS_X7_cellFrom pnn_1 (Nat.le_of_ble_eq_true rfl) m_1000 rfl rfl (by decide) (Nat.le_of_ble_eq_true rfl) dX0_measure_104 (fun r97_ M98_ q99_ => ?_)
                        obtain ⟨rfl, h100_, hs101_⟩ := q99_
                        refine w_istore (ls' := [(7, vI r97_), (6, vI v6_92), (5, vI z91_), (4, vI r70_), (3, vI v3_46), (0, vR (0, 0, 0)), (1, vR (9, b, w)), (2, vI v)]) dX0_measure_107 (by decide) rfl ?_
                        refine w_iload dX0_measure_109 0 rfl ?_
                        refine w_if_lt (tgt := 135) dX0_measure_111 (by decide) (rfl : r97_.toInt = r97_.toInt) (fun h102_ => ?_) (fun h102_ => ?_)
                        · refine w_iincB (j := 1) (f := fun z103_ => [(6, vI z103_), (7, vI r97_), (5, vI z91_), (4, vI r70_), (3, vI v3_46), (0, vR (0, 0, 0)), (1, vR (9, b, w)), (2, vI v)]) dX0_measure_135 rfl (by decide) (fun _ => rfl) (rfl : v6_92.toInt = v6_92.toInt) li_2 (lf_c_X0_measure_7 v6_92 hv0_92 h94_ ) (fun z103_ h104_ => ?_)
                          refine w_goto (tgt := 92) dX0_measure_138 (by decide) ?_
                          refine w_loc (ls' := [(6, vI z103_), (5, vI z91_), (4, vI r70_), (3, vI v3_46), (0, vR (0, 0, 0)), (1, vR (9, b, w)), (2, vI v)]) [0, 2, 3, 4, 5, 6, 7] rfl ?_
                          exact ih_92 M_92 hI_92 hF_92 z103_ (lf_c_X0_measure_8 v6_92 z103_ hv0_92 h104_ ) (lf_c_X0_measure_9 v6_92 z103_ h94_ h104_ ) (RCH.tail hL_92 ⟨hv0_92, hv1_92, hI_92, hF_92, h94_, r97_, hs101_, h100_, (Or.inl ⟨h102_, z103_, h104_, rfl, rfl⟩)⟩) (Nat.lt_of_lt_of_le (lf_c_X0_measure_10 v6_92 z103_ h94_ h104_ ) (Nat.le_of_lt_succ hm_92))
                        · refine w_iload dX0_measure_114 2 rfl ?_
                          refine w_aload_n dX0_measure_116 rfl 5 rfl ?_
                          refine w_getR (c' := (20, 0, 0)) fl_RX0_9 rfl rfl ic_0 dX0_measure_117 rfl ?_
                          refine w_iload dX0_measure_120 0 rfl ?_
                          refine w_iald rfl rfl ic_20 (rfl : r97_.toInt = r97_.toInt) (lf_c_X0_measure_1 r97_ h100_ h102_ ) dX0_measure_122 (fun j107_ h108_ z105_ e106_ => ?_)
                          refine w_icmp_ge (tgt := 135) dX0_measure_123 (by decide) (rfl : z91_.toInt = z91_.toInt) (rfl : z105_.toInt = z105_.toInt) (fun h109_ => ?_) (fun h109_ => ?_)
                          · refine w_iincB (j := 1) (f := fun z110_ => [(6, vI z110_), (7, vI r97_), (5, vI z91_), (4, vI r70_), (3, vI v3_46), (0, vR (0, 0, 0)), (1, vR (9, b, w)), (2, vI v)]) dX0_measure_135 rfl (by decide) (fun _ => rfl) (rfl : v6_92.toInt = v6_92.toInt) li_2 (lf_c_X0_measure_7 v6_92 hv0_92 h94_ ) (fun z110_ h111_ => ?_)
                            refine w_goto (tgt := 92) dX0_measure_138 (by decide) ?_
                            refine w_loc (ls' := [(6, vI z110_), (5, vI z91_), (4, vI r70_), (3, vI v3_46), (0, vR (0, 0, 0)), (1, vR (9, b, w)), (2, vI v)]) [0, 2, 3, 4, 5, 6, 7] rfl ?_
                            exact ih_92 M_92 hI_92 hF_92 z110_ (lf_c_X0_measure_8 v6_92 z110_ hv0_92 h111_ ) (lf_c_X0_measure_9 v6_92 z110_ h94_ h111_ ) (RCH.tail hL_92 ⟨hv0_92, hv1_92, hI_92, hF_92, h94_, r97_, hs101_, h100_, (Or.inr ⟨h102_, j107_, h108_, z105_, e106_, (Or.inl ⟨h109_, z110_, h111_, rfl, rfl⟩)⟩)⟩) (Nat.lt_of_lt_of_le (lf_c_X0_measure_10 v6_92 z110_ h94_ h111_ ) (Nat.le_of_lt_succ hm_92))
                          · refine w_aload_n dX0_measure_126 rfl 5 rfl ?_
                            refine w_getR (c' := (20, 0, 0)) fl_RX0_9 rfl rfl ic_0 dX0_measure_127 rfl ?_
                            refine w_iload dX0_measure_130 0 rfl ?_
                            refine w_iload dX0_measure_132 2 rfl ?_
                            refine w_iast CC_nd rfl rfl ic_20 (rfl : r97_.toInt = r97_.toInt) (lf_c_X0_measure_1 r97_ h100_ h102_ ) dX0_measure_134 (fun j114_ h115_ M112_ hM113_ => ?_)
                            have hI116_ := hI_92.put hM113_ trivial
                            have hF117_ := hF_92.put hM113_ (Or.inl ⟨rfl, rfl⟩)
                            refine w_iincB (j := 1) (f := fun z118_ => [(6, vI z118_), (7, vI r97_), (5, vI z91_), (4, vI r70_), (3, vI v3_46), (0, vR (0, 0, 0)), (1, vR (9, b, w)), (2, vI v)]) dX0_measure_135 rfl (by decide) (fun _ => rfl) (rfl : v6_92.toInt = v6_92.toInt) li_2 (lf_c_X0_measure_7 v6_92 hv0_92 h94_ ) (fun z118_ h119_ => ?_)
                            refine w_goto (tgt := 92) dX0_measure_138 (by decide) ?_
                            refine w_loc (ls' := [(6, vI z118_), (5, vI z91_), (4, vI r70_), (3, vI v3_46), (0, vR (0, 0, 0)), (1, vR (9, b, w)), (2, vI v)]) [0, 2, 3, 4, 5, 6, 7] rfl ?_
                            exact ih_92 M112_ hI116_ hF117_ z118_ (lf_c_X0_measure_8 v6_92 z118_ hv0_92 h119_ ) (lf_c_X0_measure_9 v6_92 z118_ h94_ h119_ ) (RCH.tail hL_92 ⟨hv0_92, hv1_92, hI_92, hF_92, h94_, r97_, hs101_, h100_, (Or.inr ⟨h102_, j107_, h108_, z105_, e106_, (Or.inr ⟨h109_, j114_, h115_, M112_, hM113_, z118_, h119_, rfl, rfl⟩)⟩)⟩) (Nat.lt_of_lt_of_le (lf_c_X0_measure_10 v6_92 z118_ h94_ h119_ ) (Nat.le_of_lt_succ hm_92))
                  exact lp93_ _ M76_ hI80_ hF81_ 0 (lf_c_X5_takeFrom_5 ) (lf_c_X0_measure_22 ) RCH.refl (Nat.lt_succ_self _)
                · exact w_vret rfl dX0_measure_64 ⟨hI_46, hF_46, trivial, ⟨v3_2, hv0_2, hv1_2, M_2, hL_2, hI_2, hF_2, h2_, (Or.inr ⟨hs7_, h6_, v3_46, hv0_46, hv1_46, M_46, hL_46, hI_46, hF_46, (Or.inr ⟨h69_, r70_, hs74_, h73_, h75_, rfl⟩)⟩)⟩⟩
          exact lp68_ _ M_2 hI_2 hF_2 0 (lf_c_X5_takeFrom_5 ) (lf_c_X9_begin_7 ) RCH.refl (Nat.lt_succ_self _)
      · refine w_aload_n dX0_measure_9 rfl 1 rfl ?_
        refine w_getR (c' := (20, 0, 0)) fl_RX0_9 rfl rfl ic_0 dX0_measure_10 rfl ?_
        refine w_iload_n dX0_measure_13 rfl 0 rfl ?_
        refine w_ldc (v := 1000000) m_1075 dX0_measure_14 ?_
        refine w_iast CC_nd rfl rfl ic_20 (rfl : v3_2.toInt = v3_2.toInt) (lf_c_X9_begin_0 v3_2 hv0_2 h2_ ) dX0_measure_16 (fun j122_ h123_ M120_ hM121_ => ?_)
        have hI124_ := hI_2.put hM121_ trivial
        have hF125_ := hF_2.put hM121_ (Or.inl ⟨rfl, rfl⟩)
        refine w_aload_n dX0_measure_17 rfl 1 rfl ?_
        refine w_getR (c' := (21, 0, 0)) fl_RX0_15 rfl rfl ic_0 dX0_measure_18 rfl ?_
        refine w_iload_n dX0_measure_21 rfl 0 rfl ?_
        refine w_iconst (v := 0) dX0_measure_22 (by decide) ?_
        refine w_zast CC_nd rfl rfl ic_21 (rfl : v3_2.toInt = v3_2.toInt) (lf_c_X9_begin_0 v3_2 hv0_2 h2_ ) dX0_measure_23 (fun j128_ h129_ M126_ hM127_ => ?_)
        have hI130_ := hI124_.put hM127_ trivial
        have hF131_ := hF125_.put hM127_ (Or.inr (Or.inl ⟨rfl, rfl⟩))
        refine w_iincB (j := 0) (f := fun z132_ => [(3, vI z132_), (0, vR (0, 0, 0)), (1, vR (9, b, w)), (2, vI v)]) dX0_measure_24 rfl (by decide) (fun _ => rfl) (rfl : v3_2.toInt = v3_2.toInt) li_1 (lf_c_X9_begin_2 v3_2 hv0_2 h2_ ) (fun z132_ h133_ => ?_)
        refine w_goto (tgt := 2) dX0_measure_27 (by decide) ?_
        refine w_loc (ls' := [(3, vI z132_), (0, vR (0, 0, 0)), (1, vR (9, b, w)), (2, vI v)]) [0, 1, 2, 3] rfl ?_
        exact ih_2 M126_ hI130_ hF131_ z132_ (lf_c_X5_takeFrom_3 v3_2 z132_ hv0_2 h133_ ) (lf_c_X9_begin_4 v3_2 z132_ h2_ h133_ ) (RCH.tail hL_2 ⟨hv0_2, hv1_2, hI_2, hF_2, h2_, j122_, h123_, M120_, hM121_, j128_, h129_, M126_, hM127_, z132_, h133_, rfl, rfl⟩) (Nat.lt_of_lt_of_le (lf_c_X9_begin_5 v3_2 z132_ h2_ h133_ ) (Nat.le_of_lt_succ hm_2))
  exact lp1_ _ Mz hIz hFz 0 (lf_c_X5_takeFrom_5 ) (lf_c_X9_begin_7 ) RCH.refl (Nat.lt_succ_self _)
def ST_X0_firstStep_2 (b : Nat) (w : Nat) (v : Int32) (Mz : mM) (v3_2 : Int32) (v3_2y : Int32) : Prop := (0 ≤ v3_2.toInt) ∧ (v3_2.toInt ≤ 9) ∧ (v3_2.toInt < 8) ∧ ∃ r3_ : Int32, (SP_X7_cellFrom v v3_2 1 Mz r3_) ∧ (-1 ≤ r3_.toInt ∧ r3_.toInt ≤ 191) ∧ (((r3_.toInt < 0) ∧ ∃ z9_ : Int32, (z9_.toInt = v3_2.toInt + 2) ∧ v3_2y = z9_) ∨ ((0 ≤ r3_.toInt) ∧ ∃ r11_ : Int32, (SP_X0_costFrom r3_ Mz r11_) ∧ ∃ r16_ : Int32, (SP_X0_costInto b w r3_ Mz r16_) ∧ ∃ z21_ : Int32, (z21_ = r11_ + r16_) ∧ ∃ r23_ : Int32, (SP_X0_costFrom v Mz r23_) ∧ (¬ z21_.toInt = r23_.toInt) ∧ ∃ z29_ : Int32, (z29_.toInt = v3_2.toInt + 2) ∧ v3_2y = z29_))
def SP_X0_firstStep (b : Nat) (w : Nat) (v : Int32) (Mz : mM) (r_ : Int32) : Prop := ∃ v3_2 : Int32, (0 ≤ v3_2.toInt) ∧ (v3_2.toInt ≤ 9) ∧ (RCH (fun x_ y_ => ST_X0_firstStep_2 b w v Mz x_ y_) (0 : Int32) v3_2) ∧ (((8 ≤ v3_2.toInt) ∧ r_ = (-1)) ∨ ((v3_2.toInt < 8) ∧ ∃ r3_ : Int32, (SP_X7_cellFrom v v3_2 1 Mz r3_) ∧ (-1 ≤ r3_.toInt ∧ r3_.toInt ≤ 191) ∧ (0 ≤ r3_.toInt) ∧ ∃ r11_ : Int32, (SP_X0_costFrom r3_ Mz r11_) ∧ ∃ r16_ : Int32, (SP_X0_costInto b w r3_ Mz r16_) ∧ ∃ z21_ : Int32, (z21_ = r11_ + r16_) ∧ ∃ r23_ : Int32, (SP_X0_costFrom v Mz r23_) ∧ (z21_.toInt = r23_.toInt) ∧ r_ = r3_))
set_option maxHeartbeats 4000000 in
set_option maxRecDepth 100000 in
theorem c_X0_firstStep (l : Launch) (G : va_G) (cy : Nat → ClassId) (ad : rf → Nat) (d : Nat) (b : Nat) (w : Nat) (v : Int32) (Mz : mM) (hIz : Inv Mz) (hb : b < 3) (hw : w < 8) : WP CC l G cy ad yX0_firstStep cX0_firstStep 5 (some .int) (d + 3) 0 [(0, vR (0, 0, 0)), (1, vR (9, b, w)), (2, vI v)] [] Mz (fun r M' => Mz = M' ∧ (-1 ≤ r.toInt ∧ r.toInt ≤ 191) ∧ SP_X0_firstStep b w v Mz r) := by
  refine w_iconst (v := 0) dX0_firstStep_0 (by decide) ?_
  refine w_istore_n (ls' := [(3, vI 0), (0, vR (0, 0, 0)), (1, vR (9, b, w)), (2, vI v)]) dX0_firstStep_1 rfl (by decide) rfl ?_
  have lp1_ : ∀ (nn_2 : Nat) (v3_2 : Int32) (hv0_2 : 0 ≤ v3_2.toInt) (hv1_2 : v3_2.toInt ≤ 9) (hL_2 : RCH (fun x_ y_ => ST_X0_firstStep_2 b w v Mz x_ y_) (0 : Int32) v3_2), (2147483648 - v3_2.toInt).toNat < nn_2 → WP CC l G cy ad yX0_firstStep cX0_firstStep 5 (some .int) (d + 3) 2 [(3, vI v3_2), (0, vR (0, 0, 0)), (1, vR (9, b, w)), (2, vI v)] [] Mz (fun r M' => Mz = M' ∧ (-1 ≤ r.toInt ∧ r.toInt ≤ 191) ∧ SP_X0_firstStep b w v Mz r) := by
    intro nn_2
    induction nn_2 with
    | zero => intro v3_2 hv0_2 hv1_2 hL_2 hm_2; exact absurd hm_2 (Nat.not_lt_zero _)
    | succ nn_2 ih_2 =>
      intro v3_2 hv0_2 hv1_2 hL_2 hm_2
      refine w_iload_n dX0_firstStep_2 rfl 0 rfl ?_
      refine w_bipush (v := 8) dX0_firstStep_3 (by decide) ?_
      refine w_icmp_ge (tgt := 51) dX0_firstStep_5 (by decide) (rfl : v3_2.toInt = v3_2.toInt) li_8 (fun h2_ => ?_) (fun h2_ => ?_)
      · refine w_iconst (v := (-1)) dX0_firstStep_51 (by decide) ?_
        exact w_iret rfl dX0_firstStep_52 ⟨rfl, (lf_c_X7_cellFrom_0 ), ⟨v3_2, hv0_2, hv1_2, hL_2, (Or.inl ⟨h2_, rfl⟩)⟩⟩
      · refine w_iload_n dX0_firstStep_8 rfl 3 rfl ?_
        refine w_iload_n dX0_firstStep_9 rfl 0 rfl ?_
        refine w_iconst (v := 1) dX0_firstStep_10 (by decide) ?_
        refine w_callS (as := [vI v, vI v3_2, vI 1]) (rest := []) (c_X7_cellFrom l G cy ad (d + 1) v v3_2 1 Mz hIz) kS_X7_cellFrom pnn_1 (Nat.le_of_ble_eq_true rfl) m_1000 rfl rfl (by decide) (Nat.le_of_ble_eq_true rfl) dX0_firstStep_11 (fun r3_ M4_ q5_ => ?_)
        obtain ⟨rfl, h6_, hs7_⟩ := q5_
        refine w_istore (ls' := [(4, vI r3_), (3, vI v3_2), (0, vR (0, 0, 0)), (1, vR (9, b, w)), (2, vI v)]) dX0_firstStep_14 (by decide) rfl ?_
        refine w_iload dX0_firstStep_16 0 rfl ?_
        refine w_if_lt (tgt := 45) dX0_firstStep_18 (by decide) (rfl : r3_.toInt = r3_.toInt) (fun h8_ => ?_) (fun h8_ => ?_)
        · refine w_iincB (j := 1) (f := fun z9_ => [(3, vI z9_), (4, vI r3_), (0, vR (0, 0, 0)), (1, vR (9, b, w)), (2, vI v)]) dX0_firstStep_45 rfl (by decide) (fun _ => rfl) (rfl : v3_2.toInt = v3_2.toInt) li_2 (lf_c_X0_measure_7 v3_2 hv0_2 h2_ ) (fun z9_ h10_ => ?_)
          refine w_goto (tgt := 2) dX0_firstStep_48 (by decide) ?_
          refine w_loc (ls' := [(3, vI z9_), (0, vR (0, 0, 0)), (1, vR (9, b, w)), (2, vI v)]) [0, 2, 3, 4] rfl ?_
          exact ih_2 z9_ (lf_c_X0_measure_8 v3_2 z9_ hv0_2 h10_ ) (lf_c_X0_measure_9 v3_2 z9_ h2_ h10_ ) (RCH.tail hL_2 ⟨hv0_2, hv1_2, h2_, r3_, hs7_, h6_, (Or.inl ⟨h8_, z9_, h10_, rfl⟩)⟩) (Nat.lt_of_lt_of_le (lf_c_X0_measure_10 v3_2 z9_ h2_ h10_ ) (Nat.le_of_lt_succ hm_2))
        · refine w_aload_n dX0_firstStep_21 rfl 2 rfl ?_
          refine w_iload dX0_firstStep_22 0 rfl ?_
          refine w_callV (as := [vI r3_]) (rest := []) (c_X0_costFrom l G cy ad (d + 1) r3_ Mz hIz) kV_X0_costFrom pnn_11 (Nat.le_of_ble_eq_true rfl) m_1097 rfl rfl rfl ic_0 rfl rfl (by decide) (Nat.le_of_ble_eq_true rfl) dX0_firstStep_24 (fun r11_ M12_ q13_ => ?_)
          obtain ⟨rfl, h14_, hs15_⟩ := q13_
          refine w_aload_n dX0_firstStep_27 rfl 3 rfl ?_
          refine w_iload dX0_firstStep_28 0 rfl ?_
          refine w_callS (as := [vR (9, b, w), vI r3_]) (rest := [vI r11_]) (c_X0_costInto l G cy ad d b w r3_ Mz hIz hb hw) kS_X0_costInto pnn_11 (Nat.le_of_ble_eq_true rfl) m_1081 rfl rfl (by decide) (Nat.le_of_ble_eq_true rfl) dX0_firstStep_30 (fun r16_ M17_ q18_ => ?_)
          obtain ⟨rfl, h19_, hs20_⟩ := q18_
          refine w_iadd dX0_firstStep_33 (fun z21_ h22_ => ?_)
          refine w_aload_n dX0_firstStep_34 rfl 2 rfl ?_
          refine w_iload_n dX0_firstStep_35 rfl 4 rfl ?_
          refine w_callV (as := [vI v]) (rest := [vI z21_]) (c_X0_costFrom l G cy ad (d + 1) v Mz hIz) kV_X0_costFrom pnn_11 (Nat.le_of_ble_eq_true rfl) m_1097 rfl rfl rfl ic_0 rfl rfl (by decide) (Nat.le_of_ble_eq_true rfl) dX0_firstStep_36 (fun r23_ M24_ q25_ => ?_)
          obtain ⟨rfl, h26_, hs27_⟩ := q25_
          refine w_icmp_ne (tgt := 45) dX0_firstStep_39 (by decide) (rfl : z21_.toInt = z21_.toInt) (rfl : r23_.toInt = r23_.toInt) (fun h28_ => ?_) (fun h28_ => ?_)
          · refine w_iincB (j := 1) (f := fun z29_ => [(3, vI z29_), (4, vI r3_), (0, vR (0, 0, 0)), (1, vR (9, b, w)), (2, vI v)]) dX0_firstStep_45 rfl (by decide) (fun _ => rfl) (rfl : v3_2.toInt = v3_2.toInt) li_2 (lf_c_X0_measure_7 v3_2 hv0_2 h2_ ) (fun z29_ h30_ => ?_)
            refine w_goto (tgt := 2) dX0_firstStep_48 (by decide) ?_
            refine w_loc (ls' := [(3, vI z29_), (0, vR (0, 0, 0)), (1, vR (9, b, w)), (2, vI v)]) [0, 2, 3, 4] rfl ?_
            exact ih_2 z29_ (lf_c_X0_measure_8 v3_2 z29_ hv0_2 h30_ ) (lf_c_X0_measure_9 v3_2 z29_ h2_ h30_ ) (RCH.tail hL_2 ⟨hv0_2, hv1_2, h2_, r3_, hs7_, h6_, (Or.inr ⟨h8_, r11_, hs15_, r16_, hs20_, z21_, h22_, r23_, hs27_, h28_, z29_, h30_, rfl⟩)⟩) (Nat.lt_of_lt_of_le (lf_c_X0_measure_10 v3_2 z29_ h2_ h30_ ) (Nat.le_of_lt_succ hm_2))
          · refine w_iload dX0_firstStep_42 0 rfl ?_
            exact w_iret rfl dX0_firstStep_44 ⟨rfl, h6_, ⟨v3_2, hv0_2, hv1_2, hL_2, (Or.inr ⟨h2_, r3_, hs7_, h6_, h8_, r11_, hs15_, r16_, hs20_, z21_, h22_, r23_, hs27_, h28_, rfl⟩)⟩⟩
  exact lp1_ _ 0 (lf_c_X5_takeFrom_5 ) (lf_c_X0_measure_22 ) RCH.refl (Nat.lt_succ_self _)
def ST_X0_cellAfter_18 (b : Nat) (w : Nat) (v : Int32) (u : Int32) (Mz : mM) (v5_18 : Int32) (v4_18 : Int32) (v5_18y : Int32) (v4_18y : Int32) : Prop := (0 ≤ v5_18.toInt) ∧ (v5_18.toInt < u.toInt) ∧ (¬ v4_18.toInt = v.toInt) ∧ (0 ≤ v4_18.toInt) ∧ ∃ r8_ : Int32, (SP_X0_firstStep b w v4_18 Mz r8_) ∧ (-1 ≤ r8_.toInt ∧ r8_.toInt ≤ 191) ∧ ∃ z13_ : Int32, (z13_.toInt = v5_18.toInt + 1) ∧ v5_18y = z13_ ∧ v4_18y = r8_
def SP_X0_cellAfter (b : Nat) (w : Nat) (v : Int32) (u : Int32) (Mz : mM) (r_ : Int32) : Prop := ∃ z1_ : Int32, (z1_ = Mz.1 (9, b, w) 1) ∧ (((u.toInt < 192) ∧ ∃ v5_18 : Int32, (0 ≤ v5_18.toInt) ∧ ∃ v4_18 : Int32, (RCH (fun x_ y_ => ST_X0_cellAfter_18 b w v u Mz x_.1 x_.2 y_.1 y_.2) ((0 : Int32), z1_) (v5_18, v4_18)) ∧ (((u.toInt ≤ v5_18.toInt) ∧ r_ = v4_18) ∨ ((v5_18.toInt < u.toInt) ∧ (((v4_18.toInt = v.toInt) ∧ r_ = (-1)) ∨ ((¬ v4_18.toInt = v.toInt) ∧ (v4_18.toInt < 0) ∧ r_ = (-1)))))) ∨ ((192 ≤ u.toInt) ∧ r_ = (-1)))
theorem lf_c_X0_cellAfter_0 (u : Int32) (v5_18 : Int32) (h3_ : u.toInt < 192) (hv0_18 : 0 ≤ v5_18.toInt) (h5_ : v5_18.toInt < u.toInt) : -2147483648 ≤ v5_18.toInt + 1 ∧ v5_18.toInt + 1 < 2147483648 := by omega
theorem lf_c_X0_cellAfter_2 (u : Int32) (v5_18 : Int32) (z13_ : Int32) (h3_ : u.toInt < 192) (h5_ : v5_18.toInt < u.toInt) (h14_ : z13_.toInt = v5_18.toInt + 1) : (2147483648 - z13_.toInt).toNat < (2147483648 - v5_18.toInt).toNat := by omega
set_option maxHeartbeats 4000000 in
set_option maxRecDepth 100000 in
theorem c_X0_cellAfter (l : Launch) (G : va_G) (cy : Nat → ClassId) (ad : rf → Nat) (d : Nat) (b : Nat) (w : Nat) (v : Int32) (u : Int32) (Mz : mM) (hIz : Inv Mz) (hb : b < 3) (hw : w < 8) : WP CC l G cy ad yX0_cellAfter cX0_cellAfter 6 (some .int) (d + 4) 0 [(0, vR (0, 0, 0)), (1, vR (9, b, w)), (2, vI v), (3, vI u)] [] Mz (fun r M' => Mz = M' ∧ (True) ∧ SP_X0_cellAfter b w v u Mz r) := by
  refine w_aload_n dX0_cellAfter_0 rfl 1 rfl ?_
  refine w_getI fl_RX0_56 rfl rfl (ic_9 hb hw) dX0_cellAfter_1 (fun z1_ e2_ => ?_)
  refine w_istore (ls' := [(4, vI z1_), (0, vR (0, 0, 0)), (1, vR (9, b, w)), (2, vI v), (3, vI u)]) dX0_cellAfter_4 (by decide) rfl ?_
  refine w_iload_n dX0_cellAfter_6 rfl 4 rfl ?_
  refine w_sipush (v := 192) dX0_cellAfter_7 (by decide) ?_
  refine w_icmp_lt (tgt := 15) dX0_cellAfter_10 (by decide) (rfl : u.toInt = u.toInt) li_192 (fun h3_ => ?_) (fun h3_ => ?_)
  · refine w_iconst (v := 0) dX0_cellAfter_15 (by decide) ?_
    refine w_istore (ls' := [(5, vI 0), (4, vI z1_), (0, vR (0, 0, 0)), (1, vR (9, b, w)), (2, vI v), (3, vI u)]) dX0_cellAfter_16 (by decide) rfl ?_
    have lp4_ : ∀ (nn_18 : Nat) (v5_18 : Int32) (v4_18 : Int32) (hv0_18 : 0 ≤ v5_18.toInt) (hL_18 : RCH (fun x_ y_ => ST_X0_cellAfter_18 b w v u Mz x_.1 x_.2 y_.1 y_.2) ((0 : Int32), z1_) (v5_18, v4_18)), (2147483648 - v5_18.toInt).toNat < nn_18 → WP CC l G cy ad yX0_cellAfter cX0_cellAfter 6 (some .int) (d + 4) 18 [(5, vI v5_18), (4, vI v4_18), (0, vR (0, 0, 0)), (1, vR (9, b, w)), (2, vI v), (3, vI u)] [] Mz (fun r M' => Mz = M' ∧ (True) ∧ SP_X0_cellAfter b w v u Mz r) := by
      intro nn_18
      induction nn_18 with
      | zero => intro v5_18 v4_18 hv0_18 hL_18 hm_18; exact absurd hm_18 (Nat.not_lt_zero _)
      | succ nn_18 ih_18 =>
        intro v5_18 v4_18 hv0_18 hL_18 hm_18
        refine w_iload dX0_cellAfter_18 0 rfl ?_
        refine w_iload_n dX0_cellAfter_20 rfl 5 rfl ?_
        refine w_icmp_ge (tgt := 52) dX0_cellAfter_21 (by decide) (rfl : v5_18.toInt = v5_18.toInt) (rfl : u.toInt = u.toInt) (fun h5_ => ?_) (fun h5_ => ?_)
        · refine w_iload dX0_cellAfter_52 1 rfl ?_
          exact w_iret rfl dX0_cellAfter_54 ⟨rfl, trivial, ⟨z1_, e2_, (Or.inl ⟨h3_, v5_18, hv0_18, v4_18, hL_18, (Or.inl ⟨h5_, rfl⟩)⟩)⟩⟩
        · refine w_iload dX0_cellAfter_24 1 rfl ?_
          refine w_iload_n dX0_cellAfter_26 rfl 4 rfl ?_
          refine w_icmp_eq (tgt := 35) dX0_cellAfter_27 (by decide) (rfl : v4_18.toInt = v4_18.toInt) (rfl : v.toInt = v.toInt) (fun h6_ => ?_) (fun h6_ => ?_)
          · refine w_iconst (v := (-1)) dX0_cellAfter_35 (by decide) ?_
            exact w_iret rfl dX0_cellAfter_36 ⟨rfl, trivial, ⟨z1_, e2_, (Or.inl ⟨h3_, v5_18, hv0_18, v4_18, hL_18, (Or.inr ⟨h5_, (Or.inl ⟨h6_, rfl⟩)⟩)⟩)⟩⟩
          · refine w_iload dX0_cellAfter_30 1 rfl ?_
            refine w_if_ge (tgt := 37) dX0_cellAfter_32 (by decide) (rfl : v4_18.toInt = v4_18.toInt) (fun h7_ => ?_) (fun h7_ => ?_)
            · refine w_aload_n dX0_cellAfter_37 rfl 2 rfl ?_
              refine w_aload_n dX0_cellAfter_38 rfl 3 rfl ?_
              refine w_iload dX0_cellAfter_39 1 rfl ?_
              refine w_callV (as := [vR (9, b, w), vI v4_18]) (rest := []) (c_X0_firstStep l G cy ad d b w v4_18 Mz hIz hb hw) kV_X0_firstStep pnn_11 (Nat.le_of_ble_eq_true rfl) m_1093 rfl rfl rfl ic_0 rfl rfl (by decide) (Nat.le_of_ble_eq_true rfl) dX0_cellAfter_41 (fun r8_ M9_ q10_ => ?_)
              obtain ⟨rfl, h11_, hs12_⟩ := q10_
              refine w_istore (ls' := [(4, vI r8_), (5, vI v5_18), (0, vR (0, 0, 0)), (1, vR (9, b, w)), (2, vI v), (3, vI u)]) dX0_cellAfter_44 (by decide) rfl ?_
              refine w_iincB (j := 1) (f := fun z13_ => [(5, vI z13_), (4, vI r8_), (0, vR (0, 0, 0)), (1, vR (9, b, w)), (2, vI v), (3, vI u)]) dX0_cellAfter_46 rfl (by decide) (fun _ => rfl) (rfl : v5_18.toInt = v5_18.toInt) li_1 (lf_c_X0_cellAfter_0 u v5_18 h3_ hv0_18 h5_ ) (fun z13_ h14_ => ?_)
              refine w_goto (tgt := 18) dX0_cellAfter_49 (by decide) ?_
              refine w_loc (ls' := [(5, vI z13_), (4, vI r8_), (0, vR (0, 0, 0)), (1, vR (9, b, w)), (2, vI v), (3, vI u)]) [0, 1, 2, 3, 4, 5] rfl ?_
              exact ih_18 z13_ r8_ (lf_c_X5_takeFrom_3 v5_18 z13_ hv0_18 h14_ ) (RCH.tail hL_18 ⟨hv0_18, h5_, h6_, h7_, r8_, hs12_, h11_, z13_, h14_, rfl, rfl⟩) (Nat.lt_of_lt_of_le (lf_c_X0_cellAfter_2 u v5_18 z13_ h3_ h5_ h14_ ) (Nat.le_of_lt_succ hm_18))
            · refine w_iconst (v := (-1)) dX0_cellAfter_35 (by decide) ?_
              exact w_iret rfl dX0_cellAfter_36 ⟨rfl, trivial, ⟨z1_, e2_, (Or.inl ⟨h3_, v5_18, hv0_18, v4_18, hL_18, (Or.inr ⟨h5_, (Or.inr ⟨h6_, h7_, rfl⟩)⟩)⟩)⟩⟩
    exact lp4_ _ 0 z1_ (lf_c_X5_takeFrom_5 ) RCH.refl (Nat.lt_succ_self _)
  · refine w_iconst (v := (-1)) dX0_cellAfter_13 (by decide) ?_
    exact w_iret rfl dX0_cellAfter_14 ⟨rfl, trivial, ⟨z1_, e2_, (Or.inr ⟨h3_, rfl⟩)⟩⟩
def S_c_X0_noteLearned (b : Nat) : rf → Nat → Prop := fun c k => (c.1 = 29 ∧ c.2.1 = b ∧ k = 0) ∨ (c.1 = 29 ∧ c.2.1 = b ∧ k = 1) ∨ (c.1 = 29 ∧ c.2.1 = b ∧ k = 2) ∨ (c.1 = 29 ∧ c.2.1 = b ∧ k = 3) ∨ (c.1 = 25 ∧ c.2.1 = b ∧ c.2.2 = 0) ∨ (c.1 = 25 ∧ c.2.1 = b ∧ c.2.2 = 1) ∨ False
def ST_X0_noteLearned_78 (b : Nat) (u : Int32) (t : Int32) (Mz : mM) (j11_ : Nat) (v6_57 : Int32) (r16_ : Int32) (v8_78 : Int32) (M_78 : mM) (v8_78y : Int32) (M_78y : mM) : Prop := (1 ≤ v8_78.toInt) ∧ (Inv M_78) ∧ (FR (S_c_X0_noteLearned b) Mz M_78) ∧ (v8_78.toInt ≤ r16_.toInt) ∧ ∃ r28_ : Int32, (SP_X7_cellFrom t v6_57 v8_78 M_78 r28_) ∧ (-1 ≤ r28_.toInt ∧ r28_.toInt ≤ 191) ∧ (((SP_X9_canLearn b j11_ r28_ M_78 (1 : Int32)) ∧ (0 ≤ r28_.toInt ∧ r28_.toInt ≤ 191) ∧ ∃ z39_ : Int32, (z39_.toInt = 3 * u.toInt) ∧ ∃ z41_ : Int32, (z41_.toInt = r28_.toInt / 64) ∧ ∃ z43_ : Int32, (z43_.toInt = z39_.toInt + z41_.toInt) ∧ ∃ j46_ : Nat, ((j46_ : Int) = z43_.toInt) ∧ ∃ w45_ : Int64, (w45_ = M_78.2 j46_) ∧ ∃ z49_ : Int32, (z49_.toInt = r28_.toInt % 64) ∧ ∃ w51_ : Int64, (w51_ = (1 : Int64) <<< (z49_.toInt64 &&& 63)) ∧ ∃ w53_ : Int64, (w53_ = w45_ ||| w51_) ∧ ∃ j57_ : Nat, ((j57_ : Int) = z43_.toInt) ∧ ∃ M55_ : mM, (M55_ = upL M_78 j57_ w53_) ∧ ∃ z61_ : Int32, (z61_.toInt = v8_78.toInt + 1) ∧ v8_78y = z61_ ∧ M_78y = M55_) ∨ ((SP_X9_canLearn b j11_ r28_ M_78 (0 : Int32)) ∧ ∃ z64_ : Int32, (z64_.toInt = v8_78.toInt + 1) ∧ v8_78y = z64_ ∧ M_78y = M_78))
def ST_X0_noteLearned_57 (b : Nat) (v : Int32) (u : Int32) (t : Int32) (Mz : mM) (j11_ : Nat) (v6_57 : Int32) (M_57 : mM) (v6_57y : Int32) (M_57y : mM) : Prop := (0 ≤ v6_57.toInt) ∧ (v6_57.toInt ≤ 8) ∧ (Inv M_57) ∧ (FR (S_c_X0_noteLearned b) Mz M_57) ∧ (v6_57.toInt < 8) ∧ ∃ M17_ : mM, (Inv M17_) ∧ (FR (S_c_X10_heardYards b) M_57 M17_) ∧ ∃ r16_ : Int32, (SP_X10_heardYards b v t v6_57 M_57 r16_ M17_) ∧ (0 ≤ r16_.toInt ∧ r16_.toInt ≤ 12) ∧ ∃ v8_78 : Int32, (1 ≤ v8_78.toInt) ∧ ∃ M_78 : mM, (RCH (fun x_ y_ => ST_X0_noteLearned_78 b u t Mz j11_ v6_57 r16_ x_.1 x_.2 y_.1 y_.2) ((1 : Int32), M17_) (v8_78, M_78)) ∧ (Inv M_78) ∧ (FR (S_c_X0_noteLearned b) Mz M_78) ∧ (r16_.toInt < v8_78.toInt) ∧ ∃ z26_ : Int32, (z26_.toInt = v6_57.toInt + 1) ∧ v6_57y = z26_ ∧ M_57y = M_78
def ST_X0_noteLearned_22 (b : Nat) (u : Int32) (Mz : mM) (v5_22 : Int32) (M_22 : mM) (v5_22y : Int32) (M_22y : mM) : Prop := (0 ≤ v5_22.toInt) ∧ (v5_22.toInt ≤ 3) ∧ (Inv M_22) ∧ (FR (S_c_X0_noteLearned b) Mz M_22) ∧ (v5_22.toInt < 3) ∧ ∃ z66_ : Int32, (z66_.toInt = 3 * u.toInt) ∧ ∃ z68_ : Int32, (z68_.toInt = z66_.toInt + v5_22.toInt) ∧ ∃ j72_ : Nat, ((j72_ : Int) = z68_.toInt) ∧ ∃ M70_ : mM, (M70_ = upL M_22 j72_ 0) ∧ ∃ z76_ : Int32, (z76_.toInt = v5_22.toInt + 1) ∧ v5_22y = z76_ ∧ M_22y = M70_
def SP_X0_noteLearned (b : Nat) (v : Int32) (u : Int32) (t : Int32) (Mz : mM) (M_ : mM) : Prop := (((u.toInt < 0) ∧ M_ = Mz) ∨ ((0 ≤ u.toInt) ∧ (((8 ≤ u.toInt) ∧ M_ = Mz) ∨ ((u.toInt < 8) ∧ (((SP_X10_hasWalker b v Mz (1 : Int32)) ∧ (0 ≤ v.toInt ∧ v.toInt ≤ 7) ∧ ∃ v5_22 : Int32, (0 ≤ v5_22.toInt) ∧ (v5_22.toInt ≤ 3) ∧ ∃ M_22 : mM, (RCH (fun x_ y_ => ST_X0_noteLearned_22 b u Mz x_.1 x_.2 y_.1 y_.2) ((0 : Int32), Mz) (v5_22, M_22)) ∧ (Inv M_22) ∧ (FR (S_c_X0_noteLearned b) Mz M_22) ∧ (3 ≤ v5_22.toInt) ∧ ∃ j11_ : Nat, ((j11_ : Int) = v.toInt) ∧ (j11_ < 8) ∧ ∃ v6_57 : Int32, (0 ≤ v6_57.toInt) ∧ (v6_57.toInt ≤ 8) ∧ ∃ M_57 : mM, (RCH (fun x_ y_ => ST_X0_noteLearned_57 b v u t Mz j11_ x_.1 x_.2 y_.1 y_.2) ((0 : Int32), M_22) (v6_57, M_57)) ∧ (Inv M_57) ∧ (FR (S_c_X0_noteLearned b) Mz M_57) ∧ (8 ≤ v6_57.toInt) ∧ M_ = M_57) ∨ ((SP_X10_hasWalker b v Mz (0 : Int32)) ∧ M_ = Mz))))))
theorem lf_c_X0_noteLearned_5 (u : Int32) (h1_ : 0 ≤ u.toInt) (h2_ : u.toInt < 8) : -2147483648 ≤ 3 * u.toInt ∧ 3 * u.toInt < 2147483648 := by omega
theorem lf_c_X0_noteLearned_7 (u : Int32) (r28_ : Int32) (z39_ : Int32) (z41_ : Int32) (h1_ : 0 ≤ u.toInt) (h2_ : u.toInt < 8) (h31_ : -1 ≤ r28_.toInt ∧ r28_.toInt ≤ 191) (h36_ : 0 ≤ r28_.toInt ∧ r28_.toInt ≤ 191) (h40_ : z39_.toInt = 3 * u.toInt) (h42_ : z41_.toInt = r28_.toInt / 64) : -2147483648 ≤ z39_.toInt + z41_.toInt ∧ z39_.toInt + z41_.toInt < 2147483648 := by omega
theorem lf_c_X0_noteLearned_8 (u : Int32) (r28_ : Int32) (z39_ : Int32) (z41_ : Int32) (z43_ : Int32) (h1_ : 0 ≤ u.toInt) (h2_ : u.toInt < 8) (h31_ : -1 ≤ r28_.toInt ∧ r28_.toInt ≤ 191) (h36_ : 0 ≤ r28_.toInt ∧ r28_.toInt ≤ 191) (h40_ : z39_.toInt = 3 * u.toInt) (h42_ : z41_.toInt = r28_.toInt / 64) (h44_ : z43_.toInt = z39_.toInt + z41_.toInt) : 0 ≤ z43_.toInt ∧ z43_.toInt < ((24 : Nat) : Int) := by omega
theorem lf_c_X0_noteLearned_21 (u : Int32) (v5_22 : Int32) (z66_ : Int32) (h1_ : 0 ≤ u.toInt) (h2_ : u.toInt < 8) (hv0_22 : 0 ≤ v5_22.toInt) (h10_ : v5_22.toInt < 3) (h67_ : z66_.toInt = 3 * u.toInt) : -2147483648 ≤ z66_.toInt + v5_22.toInt ∧ z66_.toInt + v5_22.toInt < 2147483648 := by omega
theorem lf_c_X0_noteLearned_22 (u : Int32) (v5_22 : Int32) (z66_ : Int32) (z68_ : Int32) (h1_ : 0 ≤ u.toInt) (h2_ : u.toInt < 8) (hv0_22 : 0 ≤ v5_22.toInt) (h10_ : v5_22.toInt < 3) (h67_ : z66_.toInt = 3 * u.toInt) (h69_ : z68_.toInt = z66_.toInt + v5_22.toInt) : 0 ≤ z68_.toInt ∧ z68_.toInt < ((24 : Nat) : Int) := by omega
set_option maxHeartbeats 4000000 in
set_option maxRecDepth 100000 in
theorem c_X0_noteLearned (l : Launch) (G : va_G) (cy : Nat → ClassId) (ad : rf → Nat) (d : Nat) (b : Nat) (v : Int32) (u : Int32) (t : Int32) (Mz : mM) (hIz : Inv Mz) (hb : b < 3) : WP CC l G cy ad yX0_noteLearned cX0_noteLearned 10 none (d + 4) 0 [(0, vR (0, 0, 0)), (1, vR (10, b, 0)), (2, vI v), (3, vI u), (4, vI t)] [] Mz (fun r M' => Inv M' ∧ FR (S_c_X0_noteLearned b) Mz M' ∧ (True) ∧ SP_X0_noteLearned b v u t Mz M') := by
  have hFz : FR (S_c_X0_noteLearned b) Mz Mz := FR.self
  refine w_iload_n dX0_noteLearned_0 rfl 3 rfl ?_
  refine w_if_lt (tgt := 18) dX0_noteLearned_1 (by decide) (rfl : u.toInt = u.toInt) (fun h1_ => ?_) (fun h1_ => ?_)
  · exact w_vret rfl dX0_noteLearned_18 ⟨hIz, hFz, trivial, (Or.inl ⟨h1_, rfl⟩)⟩
  · refine w_iload_n dX0_noteLearned_4 rfl 3 rfl ?_
    refine w_bipush (v := 8) dX0_noteLearned_5 (by decide) ?_
    refine w_icmp_ge (tgt := 18) dX0_noteLearned_7 (by decide) (rfl : u.toInt = u.toInt) li_8 (fun h2_ => ?_) (fun h2_ => ?_)
    · exact w_vret rfl dX0_noteLearned_18 ⟨hIz, hFz, trivial, (Or.inr ⟨h1_, (Or.inl ⟨h2_, rfl⟩)⟩)⟩
    · refine w_aload_n dX0_noteLearned_10 rfl 1 rfl ?_
      refine w_iload_n dX0_noteLearned_11 rfl 2 rfl ?_
      refine w_callV (as := [vI v]) (rest := []) (c_X10_hasWalker l G cy ad (d + 3) b v Mz hIz hb) kV_X10_hasWalker pnn_7 (Nat.le_of_ble_eq_true rfl) m_998 rfl rfl rfl (ic_10 hb) rfl rfl (by decide) (Nat.le_of_ble_eq_true rfl) dX0_noteLearned_12 (fun r3_ M4_ q5_ => ?_)
      obtain ⟨rfl, h6_, hs7_⟩ := q5_
      rcases h6_ with ⟨rfl, h6_⟩ | rfl
      · refine w_if_ne (tgt := 19) dX0_noteLearned_15 (by decide) li_1 (fun h8_ => ?_) (fun h9 => (absurd h9 (by decide)))
        refine w_iconst (v := 0) dX0_noteLearned_19 (by decide) ?_
        refine w_istore (ls' := [(5, vI 0), (0, vR (0, 0, 0)), (1, vR (10, b, 0)), (2, vI v), (3, vI u), (4, vI t)]) dX0_noteLearned_20 (by decide) rfl ?_
        have lp9_ : ∀ (nn_22 : Nat) (M_22 : mM) (hI_22 : Inv M_22) (hF_22 : FR (S_c_X0_noteLearned b) Mz M_22) (v5_22 : Int32) (hv0_22 : 0 ≤ v5_22.toInt) (hv1_22 : v5_22.toInt ≤ 3) (hL_22 : RCH (fun x_ y_ => ST_X0_noteLearned_22 b u Mz x_.1 x_.2 y_.1 y_.2) ((0 : Int32), Mz) (v5_22, M_22)), (2147483648 - v5_22.toInt).toNat < nn_22 → WP CC l G cy ad yX0_noteLearned cX0_noteLearned 10 none (d + 4) 22 [(5, vI v5_22), (0, vR (0, 0, 0)), (1, vR (10, b, 0)), (2, vI v), (3, vI u), (4, vI t)] [] M_22 (fun r M' => Inv M' ∧ FR (S_c_X0_noteLearned b) Mz M' ∧ (True) ∧ SP_X0_noteLearned b v u t Mz M') := by
          intro nn_22
          induction nn_22 with
          | zero => intro M_22 hI_22 hF_22 v5_22 hv0_22 hv1_22 hL_22 hm_22; exact absurd hm_22 (Nat.not_lt_zero _)
          | succ nn_22 ih_22 =>
            intro M_22 hI_22 hF_22 v5_22 hv0_22 hv1_22 hL_22 hm_22
            refine w_iload dX0_noteLearned_22 0 rfl ?_
            refine w_iconst (v := 3) dX0_noteLearned_24 (by decide) ?_
            refine w_icmp_ge (tgt := 46) dX0_noteLearned_25 (by decide) (rfl : v5_22.toInt = v5_22.toInt) li_3 (fun h10_ => ?_) (fun h10_ => ?_)
            · refine w_aload_n dX0_noteLearned_46 rfl 2 rfl ?_
              refine w_getR (c' := (42, b, 0)) fl_RX0_97 rfl rfl (ic_10 hb) dX0_noteLearned_47 rfl ?_
              refine w_iload_n dX0_noteLearned_50 rfl 3 rfl ?_
              refine w_aald rfl rfl rfl (fun _ => rfl) (ic_42 hb) (rfl : v.toInt = v.toInt) (lf_c_X7_cellFrom_2 v h6_ ) dX0_noteLearned_51 (fun j11_ h12_ h13_ => ?_)
              refine w_astore (ls' := [(5, vR (9, b, j11_)), (0, vR (0, 0, 0)), (1, vR (10, b, 0)), (2, vI v), (3, vI u), (4, vI t)]) dX0_noteLearned_52 (by decide) rfl ?_
              refine w_iconst (v := 0) dX0_noteLearned_54 (by decide) ?_
              refine w_istore (ls' := [(6, vI 0), (5, vR (9, b, j11_)), (0, vR (0, 0, 0)), (1, vR (10, b, 0)), (2, vI v), (3, vI u), (4, vI t)]) dX0_noteLearned_55 (by decide) rfl ?_
              have lp14_ : ∀ (nn_57 : Nat) (M_57 : mM) (hI_57 : Inv M_57) (hF_57 : FR (S_c_X0_noteLearned b) Mz M_57) (v6_57 : Int32) (hv0_57 : 0 ≤ v6_57.toInt) (hv1_57 : v6_57.toInt ≤ 8) (hL_57 : RCH (fun x_ y_ => ST_X0_noteLearned_57 b v u t Mz j11_ x_.1 x_.2 y_.1 y_.2) ((0 : Int32), M_22) (v6_57, M_57)), (2147483648 - v6_57.toInt).toNat < nn_57 → WP CC l G cy ad yX0_noteLearned cX0_noteLearned 10 none (d + 4) 57 [(6, vI v6_57), (5, vR (9, b, j11_)), (0, vR (0, 0, 0)), (1, vR (10, b, 0)), (2, vI v), (3, vI u), (4, vI t)] [] M_57 (fun r M' => Inv M' ∧ FR (S_c_X0_noteLearned b) Mz M' ∧ (True) ∧ SP_X0_noteLearned b v u t Mz M') := by
                intro nn_57
                induction nn_57 with
                | zero => intro M_57 hI_57 hF_57 v6_57 hv0_57 hv1_57 hL_57 hm_57; exact absurd hm_57 (Nat.not_lt_zero _)
                | succ nn_57 ih_57 =>
                  intro M_57 hI_57 hF_57 v6_57 hv0_57 hv1_57 hL_57 hm_57
                  refine w_iload dX0_noteLearned_57 0 rfl ?_
                  refine w_bipush (v := 8) dX0_noteLearned_59 (by decide) ?_
                  refine w_icmp_ge (tgt := 142) dX0_noteLearned_61 (by decide) (rfl : v6_57.toInt = v6_57.toInt) li_8 (fun h15_ => ?_) (fun h15_ => ?_)
                  · exact w_vret rfl dX0_noteLearned_142 ⟨hI_57, hF_57, trivial, (Or.inr ⟨h1_, (Or.inr ⟨h2_, (Or.inl ⟨hs7_, h6_, v5_22, hv0_22, hv1_22, M_22, hL_22, hI_22, hF_22, h10_, j11_, h12_, h13_, v6_57, hv0_57, hv1_57, M_57, hL_57, hI_57, hF_57, h15_, rfl⟩)⟩)⟩)⟩
                  · refine w_aload_n dX0_noteLearned_64 rfl 3 rfl ?_
                    refine w_iload_n dX0_noteLearned_65 rfl 4 rfl ?_
                    refine w_iload dX0_noteLearned_66 6 rfl ?_
                    refine w_iload dX0_noteLearned_68 0 rfl ?_
                    refine w_callV (as := [vI v, vI t, vI v6_57]) (rest := []) (c_X10_heardYards l G cy ad d b v t v6_57 M_57 hI_57 hb) kV_X10_heardYards pnn_7 (Nat.le_of_ble_eq_true rfl) m_999 rfl rfl rfl (ic_10 hb) rfl rfl (by decide) (Nat.le_of_ble_eq_true rfl) dX0_noteLearned_70 (fun r16_ M17_ q18_ => ?_)
                    obtain ⟨hI20_, hF21_, h19_, hs23_⟩ := q18_
                    have hF22_ := hF_57.tr hF21_ (fun c k => (fun h => h.elim (fun h => (Or.inl ⟨h.1, h.2.1, h.2.2⟩)) (fun h => h.elim (fun h => (Or.inr (Or.inl ⟨h.1, h.2.1, h.2.2⟩))) (fun h => h.elim (fun h => (Or.inr (Or.inr (Or.inl ⟨h.1, h.2.1, h.2.2⟩)))) (fun h => h.elim (fun h => (Or.inr (Or.inr (Or.inr (Or.inl ⟨h.1, h.2.1, h.2.2⟩))))) (fun h => h.elim (fun h => (Or.inr (Or.inr (Or.inr (Or.inr (Or.inl ⟨h.1, h.2.1, h.2.2⟩)))))) (fun h => h.elim (fun h => (Or.inr (Or.inr (Or.inr (Or.inr (Or.inr (Or.inl ⟨h.1, h.2.1, h.2.2⟩))))))) (fun h => h.elim))))))))
                    refine w_istore (ls' := [(7, vI r16_), (6, vI v6_57), (5, vR (9, b, j11_)), (0, vR (0, 0, 0)), (1, vR (10, b, 0)), (2, vI v), (3, vI u), (4, vI t)]) dX0_noteLearned_73 (by decide) rfl ?_
                    refine w_iconst (v := 1) dX0_noteLearned_75 (by decide) ?_
                    refine w_istore (ls' := [(8, vI 1), (7, vI r16_), (6, vI v6_57), (5, vR (9, b, j11_)), (0, vR (0, 0, 0)), (1, vR (10, b, 0)), (2, vI v), (3, vI u), (4, vI t)]) dX0_noteLearned_76 (by decide) rfl ?_
                    have lp24_ : ∀ (nn_78 : Nat) (M_78 : mM) (hI_78 : Inv M_78) (hF_78 : FR (S_c_X0_noteLearned b) Mz M_78) (v8_78 : Int32) (hv0_78 : 1 ≤ v8_78.toInt) (hL_78 : RCH (fun x_ y_ => ST_X0_noteLearned_78 b u t Mz j11_ v6_57 r16_ x_.1 x_.2 y_.1 y_.2) ((1 : Int32), M17_) (v8_78, M_78)), (2147483648 - v8_78.toInt).toNat < nn_78 → WP CC l G cy ad yX0_noteLearned cX0_noteLearned 10 none (d + 4) 78 [(8, vI v8_78), (7, vI r16_), (6, vI v6_57), (5, vR (9, b, j11_)), (0, vR (0, 0, 0)), (1, vR (10, b, 0)), (2, vI v), (3, vI u), (4, vI t)] [] M_78 (fun r M' => Inv M' ∧ FR (S_c_X0_noteLearned b) Mz M' ∧ (True) ∧ SP_X0_noteLearned b v u t Mz M') := by
                      intro nn_78
                      induction nn_78 with
                      | zero => intro M_78 hI_78 hF_78 v8_78 hv0_78 hL_78 hm_78; exact absurd hm_78 (Nat.not_lt_zero _)
                      | succ nn_78 ih_78 =>
                        intro M_78 hI_78 hF_78 v8_78 hv0_78 hL_78 hm_78
                        refine w_iload dX0_noteLearned_78 0 rfl ?_
                        refine w_iload dX0_noteLearned_80 1 rfl ?_
                        refine w_icmp_gt (tgt := 136) dX0_noteLearned_82 (by decide) (rfl : v8_78.toInt = v8_78.toInt) (rfl : r16_.toInt = r16_.toInt) (fun h25_ => ?_) (fun h25_ => ?_)
                        · refine w_iincB (j := 2) (f := fun z26_ => [(6, vI z26_), (8, vI v8_78), (7, vI r16_), (5, vR (9, b, j11_)), (0, vR (0, 0, 0)), (1, vR (10, b, 0)), (2, vI v), (3, vI u), (4, vI t)]) dX0_noteLearned_136 rfl (by decide) (fun _ => rfl) (rfl : v6_57.toInt = v6_57.toInt) li_1 (lf_c_X9_isOf_0 v6_57 hv0_57 h15_ ) (fun z26_ h27_ => ?_)
                          refine w_goto (tgt := 57) dX0_noteLearned_139 (by decide) ?_
                          refine w_loc (ls' := [(6, vI z26_), (5, vR (9, b, j11_)), (0, vR (0, 0, 0)), (1, vR (10, b, 0)), (2, vI v), (3, vI u), (4, vI t)]) [0, 3, 4, 5, 6, 7, 8] rfl ?_
                          exact ih_57 M_78 hI_78 hF_78 z26_ (lf_c_X5_takeFrom_3 v6_57 z26_ hv0_57 h27_ ) (lf_c_X9_isOf_2 v6_57 z26_ h15_ h27_ ) (RCH.tail hL_57 ⟨hv0_57, hv1_57, hI_57, hF_57, h15_, M17_, hI20_, hF21_, r16_, hs23_, h19_, v8_78, hv0_78, M_78, hL_78, hI_78, hF_78, h25_, z26_, h27_, rfl, rfl⟩) (Nat.lt_of_lt_of_le (lf_c_X9_isOf_3 v6_57 z26_ h15_ h27_ ) (Nat.le_of_lt_succ hm_57))
                        · refine w_iload dX0_noteLearned_85 8 rfl ?_
                          refine w_iload dX0_noteLearned_87 2 rfl ?_
                          refine w_iload dX0_noteLearned_89 0 rfl ?_
                          refine w_callS (as := [vI t, vI v6_57, vI v8_78]) (rest := []) (c_X7_cellFrom l G cy ad (d + 2) t v6_57 v8_78 M_78 hI_78) kS_X7_cellFrom pnn_1 (Nat.le_of_ble_eq_true rfl) m_1000 rfl rfl (by decide) (Nat.le_of_ble_eq_true rfl) dX0_noteLearned_91 (fun r28_ M29_ q30_ => ?_)
                          obtain ⟨rfl, h31_, hs32_⟩ := q30_
                          refine w_istore (ls' := [(9, vI r28_), (8, vI v8_78), (7, vI r16_), (6, vI v6_57), (5, vR (9, b, j11_)), (0, vR (0, 0, 0)), (1, vR (10, b, 0)), (2, vI v), (3, vI u), (4, vI t)]) dX0_noteLearned_94 (by decide) rfl ?_
                          refine w_aload dX0_noteLearned_96 4 rfl ?_
                          refine w_iload dX0_noteLearned_98 0 rfl ?_
                          refine w_callV (as := [vI r28_]) (rest := []) (c_X9_canLearn l G cy ad (d + 2) b j11_ r28_ M_78 hI_78 hb h13_) kV_X9_canLearn pnn_3 (Nat.le_of_ble_eq_true rfl) m_1001 rfl rfl rfl (ic_9 hb h13_) rfl rfl (by decide) (Nat.le_of_ble_eq_true rfl) dX0_noteLearned_100 (fun r33_ M34_ q35_ => ?_)
                          obtain ⟨rfl, h36_, hs37_⟩ := q35_
                          rcases h36_ with ⟨rfl, h36_⟩ | rfl
                          · refine w_if_eq (tgt := 130) dX0_noteLearned_103 (by decide) li_1 (fun h9 => (absurd h9 (by decide))) (fun h38_ => ?_)
                            refine w_aload_n dX0_noteLearned_106 rfl 5 rfl ?_
                            refine w_getR (c' := (22, 0, 0)) fl_RX0_19 rfl rfl ic_0 dX0_noteLearned_107 rfl ?_
                            refine w_iconst (v := 3) dX0_noteLearned_110 (by decide) ?_
                            refine w_iload_n dX0_noteLearned_111 rfl 8 rfl ?_
                            refine w_imulB dX0_noteLearned_112 li_3 (rfl : u.toInt = u.toInt) (lf_c_X0_noteLearned_5 u h1_ h2_ ) (fun z39_ h40_ => ?_)
                            refine w_iload dX0_noteLearned_113 0 rfl ?_
                            refine w_bipush (v := 64) dX0_noteLearned_115 (by decide) ?_
                            refine w_idivB dX0_noteLearned_117 (by decide) (rfl : r28_.toInt = r28_.toInt) li_64 (lf_c_X7_cellFrom_1 r28_ h36_ ) (by decide) (fun z41_ h42_ => ?_)
                            refine w_iaddB dX0_noteLearned_118 (rfl : z39_.toInt = z39_.toInt) (rfl : z41_.toInt = z41_.toInt) (lf_c_X0_noteLearned_7 u r28_ z39_ z41_ h1_ h2_ h31_ h36_ h40_ h42_ ) (fun z43_ h44_ => ?_)
                            refine w_dup2 dX0_noteLearned_119 rfl rfl ?_
                            refine w_lald rfl rfl ic_22 (rfl : z43_.toInt = z43_.toInt) (lf_c_X0_noteLearned_8 u r28_ z39_ z41_ z43_ h1_ h2_ h31_ h36_ h40_ h42_ h44_ ) dX0_noteLearned_120 (fun j46_ h47_ w45_ h48_ => ?_)
                            refine w_lconst (v := 1) dX0_noteLearned_121 rfl ?_
                            refine w_iload dX0_noteLearned_122 0 rfl ?_
                            refine w_bipush (v := 64) dX0_noteLearned_124 (by decide) ?_
                            refine w_iremB dX0_noteLearned_126 (by decide) (rfl : r28_.toInt = r28_.toInt) li_64 (lf_c_X7_cellFrom_1 r28_ h36_ ) (by decide) (fun z49_ h50_ => ?_)
                            refine w_lshl dX0_noteLearned_127 (fun w51_ h52_ => ?_)
                            refine w_lor dX0_noteLearned_128 (fun w53_ h54_ => ?_)
                            refine w_last CC_nd CC_22 ic_22 (rfl : z43_.toInt = z43_.toInt) (lf_c_X0_noteLearned_8 u r28_ z39_ z41_ z43_ h1_ h2_ h31_ h36_ h40_ h42_ h44_ ) dX0_noteLearned_129 (fun j57_ h58_ M55_ hM56_ => ?_)
                            have hI59_ := hI_78.putL hM56_
                            have hF60_ := hF_78.putL hM56_
                            refine w_iincB (j := 1) (f := fun z61_ => [(8, vI z61_), (9, vI r28_), (7, vI r16_), (6, vI v6_57), (5, vR (9, b, j11_)), (0, vR (0, 0, 0)), (1, vR (10, b, 0)), (2, vI v), (3, vI u), (4, vI t)]) dX0_noteLearned_130 rfl (by decide) (fun _ => rfl) (rfl : v8_78.toInt = v8_78.toInt) li_1 (lf_c_X10_echoYards_2 r16_ v8_78 h19_ hv0_78 h25_ ) (fun z61_ h62_ => ?_)
                            refine w_goto (tgt := 78) dX0_noteLearned_133 (by decide) ?_
                            refine w_loc (ls' := [(8, vI z61_), (7, vI r16_), (6, vI v6_57), (5, vR (9, b, j11_)), (0, vR (0, 0, 0)), (1, vR (10, b, 0)), (2, vI v), (3, vI u), (4, vI t)]) [0, 2, 3, 4, 5, 6, 7, 8, 9] rfl ?_
                            exact ih_78 M55_ hI59_ hF60_ z61_ (lf_c_X9_yardsToFull_1 v8_78 z61_ hv0_78 h62_ ) (RCH.tail hL_78 ⟨hv0_78, hI_78, hF_78, h25_, r28_, hs32_, h31_, (Or.inl ⟨hs37_, h36_, z39_, h40_, z41_, h42_, z43_, h44_, j46_, h47_, w45_, h48_, z49_, h50_, w51_, h52_, w53_, h54_, j57_, h58_, M55_, hM56_, z61_, h62_, rfl, rfl⟩)⟩) (Nat.lt_of_lt_of_le (lf_c_X10_echoYards_4 r16_ v8_78 z61_ h19_ h25_ h62_ ) (Nat.le_of_lt_succ hm_78))
                          · refine w_if_eq (tgt := 130) dX0_noteLearned_103 (by decide) li_0 (fun h63_ => ?_) (fun h9 => (absurd h9 (by decide)))
                            refine w_iincB (j := 1) (f := fun z64_ => [(8, vI z64_), (9, vI r28_), (7, vI r16_), (6, vI v6_57), (5, vR (9, b, j11_)), (0, vR (0, 0, 0)), (1, vR (10, b, 0)), (2, vI v), (3, vI u), (4, vI t)]) dX0_noteLearned_130 rfl (by decide) (fun _ => rfl) (rfl : v8_78.toInt = v8_78.toInt) li_1 (lf_c_X10_echoYards_2 r16_ v8_78 h19_ hv0_78 h25_ ) (fun z64_ h65_ => ?_)
                            refine w_goto (tgt := 78) dX0_noteLearned_133 (by decide) ?_
                            refine w_loc (ls' := [(8, vI z64_), (7, vI r16_), (6, vI v6_57), (5, vR (9, b, j11_)), (0, vR (0, 0, 0)), (1, vR (10, b, 0)), (2, vI v), (3, vI u), (4, vI t)]) [0, 2, 3, 4, 5, 6, 7, 8, 9] rfl ?_
                            exact ih_78 M_78 hI_78 hF_78 z64_ (lf_c_X9_yardsToFull_1 v8_78 z64_ hv0_78 h65_ ) (RCH.tail hL_78 ⟨hv0_78, hI_78, hF_78, h25_, r28_, hs32_, h31_, (Or.inr ⟨hs37_, z64_, h65_, rfl, rfl⟩)⟩) (Nat.lt_of_lt_of_le (lf_c_X10_echoYards_4 r16_ v8_78 z64_ h19_ h25_ h65_ ) (Nat.le_of_lt_succ hm_78))
                    exact lp24_ _ M17_ hI20_ hF22_ 1 (lf_c_X9_yardsToFull_4 ) RCH.refl (Nat.lt_succ_self _)
              exact lp14_ _ M_22 hI_22 hF_22 0 (lf_c_X5_takeFrom_5 ) (lf_c_X9_isOf_5 ) RCH.refl (Nat.lt_succ_self _)
            · refine w_aload_n dX0_noteLearned_28 rfl 1 rfl ?_
              refine w_getR (c' := (22, 0, 0)) fl_RX0_19 rfl rfl ic_0 dX0_noteLearned_29 rfl ?_
              refine w_iconst (v := 3) dX0_noteLearned_32 (by decide) ?_
              refine w_iload_n dX0_noteLearned_33 rfl 4 rfl ?_
              refine w_imulB dX0_noteLearned_34 li_3 (rfl : u.toInt = u.toInt) (lf_c_X0_noteLearned_5 u h1_ h2_ ) (fun z66_ h67_ => ?_)
              refine w_iload dX0_noteLearned_35 0 rfl ?_
              refine w_iaddB dX0_noteLearned_37 (rfl : z66_.toInt = z66_.toInt) (rfl : v5_22.toInt = v5_22.toInt) (lf_c_X0_noteLearned_21 u v5_22 z66_ h1_ h2_ hv0_22 h10_ h67_ ) (fun z68_ h69_ => ?_)
              refine w_lconst (v := 0) dX0_noteLearned_38 rfl ?_
              refine w_last CC_nd CC_22 ic_22 (rfl : z68_.toInt = z68_.toInt) (lf_c_X0_noteLearned_22 u v5_22 z66_ z68_ h1_ h2_ hv0_22 h10_ h67_ h69_ ) dX0_noteLearned_39 (fun j72_ h73_ M70_ hM71_ => ?_)
              have hI74_ := hI_22.putL hM71_
              have hF75_ := hF_22.putL hM71_
              refine w_iincB (j := 0) (f := fun z76_ => [(5, vI z76_), (0, vR (0, 0, 0)), (1, vR (10, b, 0)), (2, vI v), (3, vI u), (4, vI t)]) dX0_noteLearned_40 rfl (by decide) (fun _ => rfl) (rfl : v5_22.toInt = v5_22.toInt) li_1 (lf_c_X2_takeFrom_2 v5_22 hv0_22 h10_ ) (fun z76_ h77_ => ?_)
              refine w_goto (tgt := 22) dX0_noteLearned_43 (by decide) ?_
              refine w_loc (ls' := [(5, vI z76_), (0, vR (0, 0, 0)), (1, vR (10, b, 0)), (2, vI v), (3, vI u), (4, vI t)]) [0, 1, 2, 3, 4, 5] rfl ?_
              exact ih_22 M70_ hI74_ hF75_ z76_ (lf_c_X5_takeFrom_3 v5_22 z76_ hv0_22 h77_ ) (lf_c_X2_takeFrom_4 v5_22 z76_ h10_ h77_ ) (RCH.tail hL_22 ⟨hv0_22, hv1_22, hI_22, hF_22, h10_, z66_, h67_, z68_, h69_, j72_, h73_, M70_, hM71_, z76_, h77_, rfl, rfl⟩) (Nat.lt_of_lt_of_le (lf_c_X2_takeFrom_5 v5_22 z76_ h10_ h77_ ) (Nat.le_of_lt_succ hm_22))
        exact lp9_ _ Mz hIz hFz 0 (lf_c_X5_takeFrom_5 ) (lf_c_X2_takeFrom_7 ) RCH.refl (Nat.lt_succ_self _)
      · refine w_if_ne (tgt := 19) dX0_noteLearned_15 (by decide) li_0 (fun h9 => (absurd h9 (by decide))) (fun h78_ => ?_)
        exact w_vret rfl dX0_noteLearned_18 ⟨hIz, hFz, trivial, (Or.inr ⟨h1_, (Or.inr ⟨h2_, (Or.inr ⟨hs7_, rfl⟩)⟩)⟩)⟩
def ST_X0_countLearned_15 (v : Int32) (Mz : mM) (v3_4 : Int32) (v6_15 : Int32) (v4_15 : Int64) (v6_15y : Int32) (v4_15y : Int64) : Prop := (0 ≤ v6_15.toInt) ∧ (v6_15.toInt ≤ 8) ∧ (v6_15.toInt < 8) ∧ ∃ z14_ : Int32, (z14_ = (1 : Int32) <<< (v6_15 &&& 31)) ∧ ∃ z16_ : Int32, (z16_ = v &&& z14_) ∧ (((z16_.toInt = 0) ∧ ∃ z19_ : Int32, (z19_.toInt = v6_15.toInt + 1) ∧ v6_15y = z19_ ∧ v4_15y = v4_15) ∨ ((¬ z16_.toInt = 0) ∧ ∃ z21_ : Int32, (z21_.toInt = 3 * v6_15.toInt) ∧ ∃ z23_ : Int32, (z23_.toInt = z21_.toInt + v3_4.toInt) ∧ ∃ j26_ : Nat, ((j26_ : Int) = z23_.toInt) ∧ ∃ w25_ : Int64, (w25_ = Mz.2 j26_) ∧ ∃ w29_ : Int64, (w29_ = v4_15 ||| w25_) ∧ ∃ z31_ : Int32, (z31_.toInt = v6_15.toInt + 1) ∧ v6_15y = z31_ ∧ v4_15y = w29_))
def ST_X0_countLearned_4 (v : Int32) (Mz : mM) (v3_4 : Int32) (v2_4 : Int32) (v3_4y : Int32) (v2_4y : Int32) : Prop := (0 ≤ v3_4.toInt) ∧ (v3_4.toInt ≤ 3) ∧ (v3_4.toInt < 3) ∧ ∃ v6_15 : Int32, (0 ≤ v6_15.toInt) ∧ (v6_15.toInt ≤ 8) ∧ ∃ v4_15 : Int64, (RCH (fun x_ y_ => ST_X0_countLearned_15 v Mz v3_4 x_.1 x_.2 y_.1 y_.2) ((0 : Int32), 0) (v6_15, v4_15)) ∧ (8 ≤ v6_15.toInt) ∧ ∃ r5_ : Int32, (SP_JL_bitCount v4_15 Mz r5_) ∧ ∃ z10_ : Int32, (z10_ = v2_4 + r5_) ∧ ∃ z12_ : Int32, (z12_.toInt = v3_4.toInt + 1) ∧ v3_4y = z12_ ∧ v2_4y = z10_
def SP_X0_countLearned (v : Int32) (Mz : mM) (r_ : Int32) : Prop := ∃ v3_4 : Int32, (0 ≤ v3_4.toInt) ∧ (v3_4.toInt ≤ 3) ∧ ∃ v2_4 : Int32, (RCH (fun x_ y_ => ST_X0_countLearned_4 v Mz x_.1 x_.2 y_.1 y_.2) ((0 : Int32), (0 : Int32)) (v3_4, v2_4)) ∧ (3 ≤ v3_4.toInt) ∧ r_ = v2_4
theorem lf_c_X0_countLearned_9 (v3_4 : Int32) (v6_15 : Int32) (z21_ : Int32) (hv0_4 : 0 ≤ v3_4.toInt) (h2_ : v3_4.toInt < 3) (hv0_15 : 0 ≤ v6_15.toInt) (h4_ : v6_15.toInt < 8) (h22_ : z21_.toInt = 3 * v6_15.toInt) : -2147483648 ≤ z21_.toInt + v3_4.toInt ∧ z21_.toInt + v3_4.toInt < 2147483648 := by omega
theorem lf_c_X0_countLearned_10 (v3_4 : Int32) (v6_15 : Int32) (z21_ : Int32) (z23_ : Int32) (hv0_4 : 0 ≤ v3_4.toInt) (h2_ : v3_4.toInt < 3) (hv0_15 : 0 ≤ v6_15.toInt) (h4_ : v6_15.toInt < 8) (h22_ : z21_.toInt = 3 * v6_15.toInt) (h24_ : z23_.toInt = z21_.toInt + v3_4.toInt) : 0 ≤ z23_.toInt ∧ z23_.toInt < ((24 : Nat) : Int) := by omega
set_option maxHeartbeats 4000000 in
set_option maxRecDepth 100000 in
theorem c_X0_countLearned (l : Launch) (G : va_G) (cy : Nat → ClassId) (ad : rf → Nat) (d : Nat) (v : Int32) (Mz : mM) (hIz : Inv Mz) : WP CC l G cy ad yX0_countLearned cX0_countLearned 7 (some .int) (d + 1) 0 [(0, vR (0, 0, 0)), (1, vI v)] [] Mz (fun r M' => Mz = M' ∧ (True) ∧ SP_X0_countLearned v Mz r) := by
  refine w_iconst (v := 0) dX0_countLearned_0 (by decide) ?_
  refine w_istore_n (ls' := [(2, vI 0), (0, vR (0, 0, 0)), (1, vI v)]) dX0_countLearned_1 rfl (by decide) rfl ?_
  refine w_iconst (v := 0) dX0_countLearned_2 (by decide) ?_
  refine w_istore_n (ls' := [(3, vI 0), (2, vI 0), (0, vR (0, 0, 0)), (1, vI v)]) dX0_countLearned_3 rfl (by decide) rfl ?_
  have lp1_ : ∀ (nn_4 : Nat) (v3_4 : Int32) (v2_4 : Int32) (hv0_4 : 0 ≤ v3_4.toInt) (hv1_4 : v3_4.toInt ≤ 3) (hL_4 : RCH (fun x_ y_ => ST_X0_countLearned_4 v Mz x_.1 x_.2 y_.1 y_.2) ((0 : Int32), (0 : Int32)) (v3_4, v2_4)), (2147483648 - v3_4.toInt).toNat < nn_4 → WP CC l G cy ad yX0_countLearned cX0_countLearned 7 (some .int) (d + 1) 4 [(3, vI v3_4), (2, vI v2_4), (0, vR (0, 0, 0)), (1, vI v)] [] Mz (fun r M' => Mz = M' ∧ (True) ∧ SP_X0_countLearned v Mz r) := by
    intro nn_4
    induction nn_4 with
    | zero => intro v3_4 v2_4 hv0_4 hv1_4 hL_4 hm_4; exact absurd hm_4 (Nat.not_lt_zero _)
    | succ nn_4 ih_4 =>
      intro v3_4 v2_4 hv0_4 hv1_4 hL_4 hm_4
      refine w_iload_n dX0_countLearned_4 rfl 0 rfl ?_
      refine w_iconst (v := 3) dX0_countLearned_5 (by decide) ?_
      refine w_icmp_ge (tgt := 67) dX0_countLearned_6 (by decide) (rfl : v3_4.toInt = v3_4.toInt) li_3 (fun h2_ => ?_) (fun h2_ => ?_)
      · refine w_iload_n dX0_countLearned_67 rfl 1 rfl ?_
        exact w_iret rfl dX0_countLearned_68 ⟨rfl, trivial, ⟨v3_4, hv0_4, hv1_4, v2_4, hL_4, h2_, rfl⟩⟩
      · refine w_lconst (v := 0) dX0_countLearned_9 rfl ?_
        refine w_lstore (ls' := [(4, vL 0), (3, vI v3_4), (2, vI v2_4), (0, vR (0, 0, 0)), (1, vI v)]) dX0_countLearned_10 (by decide) rfl ?_
        refine w_iconst (v := 0) dX0_countLearned_12 (by decide) ?_
        refine w_istore (ls' := [(6, vI 0), (4, vL 0), (3, vI v3_4), (2, vI v2_4), (0, vR (0, 0, 0)), (1, vI v)]) dX0_countLearned_13 (by decide) rfl ?_
        have lp3_ : ∀ (nn_15 : Nat) (v6_15 : Int32) (v4_15 : Int64) (hv0_15 : 0 ≤ v6_15.toInt) (hv1_15 : v6_15.toInt ≤ 8) (hL_15 : RCH (fun x_ y_ => ST_X0_countLearned_15 v Mz v3_4 x_.1 x_.2 y_.1 y_.2) ((0 : Int32), 0) (v6_15, v4_15)), (2147483648 - v6_15.toInt).toNat < nn_15 → WP CC l G cy ad yX0_countLearned cX0_countLearned 7 (some .int) (d + 1) 15 [(6, vI v6_15), (4, vL v4_15), (3, vI v3_4), (2, vI v2_4), (0, vR (0, 0, 0)), (1, vI v)] [] Mz (fun r M' => Mz = M' ∧ (True) ∧ SP_X0_countLearned v Mz r) := by
          intro nn_15
          induction nn_15 with
          | zero => intro v6_15 v4_15 hv0_15 hv1_15 hL_15 hm_15; exact absurd hm_15 (Nat.not_lt_zero _)
          | succ nn_15 ih_15 =>
            intro v6_15 v4_15 hv0_15 hv1_15 hL_15 hm_15
            refine w_iload dX0_countLearned_15 0 rfl ?_
            refine w_bipush (v := 8) dX0_countLearned_17 (by decide) ?_
            refine w_icmp_ge (tgt := 53) dX0_countLearned_19 (by decide) (rfl : v6_15.toInt = v6_15.toInt) li_8 (fun h4_ => ?_) (fun h4_ => ?_)
            · refine w_iload_n dX0_countLearned_53 rfl 3 rfl ?_
              refine w_lload dX0_countLearned_54 1 rfl ?_
              refine w_callS (as := [vL v4_15]) (rest := [vI v2_4]) (c_JL_bitCount l G cy ad d v4_15 Mz hIz) kS_JL_bitCount pnn_10 (Nat.le_of_ble_eq_true rfl) m_1015 rfl rfl (by decide) (Nat.le_of_ble_eq_true rfl) dX0_countLearned_56 (fun r5_ M6_ q7_ => ?_)
              obtain ⟨rfl, h8_, hs9_⟩ := q7_
              refine w_iadd dX0_countLearned_59 (fun z10_ h11_ => ?_)
              refine w_istore_n (ls' := [(2, vI z10_), (6, vI v6_15), (4, vL v4_15), (3, vI v3_4), (0, vR (0, 0, 0)), (1, vI v)]) dX0_countLearned_60 rfl (by decide) rfl ?_
              refine w_iincB (j := 3) (f := fun z12_ => [(3, vI z12_), (2, vI z10_), (6, vI v6_15), (4, vL v4_15), (0, vR (0, 0, 0)), (1, vI v)]) dX0_countLearned_61 rfl (by decide) (fun _ => rfl) (rfl : v3_4.toInt = v3_4.toInt) li_1 (lf_c_X2_takeFrom_2 v3_4 hv0_4 h2_ ) (fun z12_ h13_ => ?_)
              refine w_goto (tgt := 4) dX0_countLearned_64 (by decide) ?_
              refine w_loc (ls' := [(3, vI z12_), (2, vI z10_), (0, vR (0, 0, 0)), (1, vI v)]) [0, 1, 4, 5] rfl ?_
              exact ih_4 z12_ z10_ (lf_c_X5_takeFrom_3 v3_4 z12_ hv0_4 h13_ ) (lf_c_X2_takeFrom_4 v3_4 z12_ h2_ h13_ ) (RCH.tail hL_4 ⟨hv0_4, hv1_4, h2_, v6_15, hv0_15, hv1_15, v4_15, hL_15, h4_, r5_, hs9_, z10_, h11_, z12_, h13_, rfl, rfl⟩) (Nat.lt_of_lt_of_le (lf_c_X2_takeFrom_5 v3_4 z12_ h2_ h13_ ) (Nat.le_of_lt_succ hm_4))
            · refine w_iload_n dX0_countLearned_22 rfl 5 rfl ?_
              refine w_iconst (v := 1) dX0_countLearned_23 (by decide) ?_
              refine w_iload dX0_countLearned_24 0 rfl ?_
              refine w_ishl dX0_countLearned_26 (fun z14_ h15_ => ?_)
              refine w_iand dX0_countLearned_27 (fun z16_ h17_ => ?_)
              refine w_if_eq (tgt := 47) dX0_countLearned_28 (by decide) (rfl : z16_.toInt = z16_.toInt) (fun h18_ => ?_) (fun h18_ => ?_)
              · refine w_iincB (j := 0) (f := fun z19_ => [(6, vI z19_), (4, vL v4_15), (3, vI v3_4), (2, vI v2_4), (0, vR (0, 0, 0)), (1, vI v)]) dX0_countLearned_47 rfl (by decide) (fun _ => rfl) (rfl : v6_15.toInt = v6_15.toInt) li_1 (lf_c_X9_isOf_0 v6_15 hv0_15 h4_ ) (fun z19_ h20_ => ?_)
                refine w_goto (tgt := 15) dX0_countLearned_50 (by decide) ?_
                refine w_loc (ls' := [(6, vI z19_), (4, vL v4_15), (3, vI v3_4), (2, vI v2_4), (0, vR (0, 0, 0)), (1, vI v)]) [0, 1, 2, 3, 4, 5] rfl ?_
                exact ih_15 z19_ v4_15 (lf_c_X5_takeFrom_3 v6_15 z19_ hv0_15 h20_ ) (lf_c_X9_isOf_2 v6_15 z19_ h4_ h20_ ) (RCH.tail hL_15 ⟨hv0_15, hv1_15, h4_, z14_, h15_, z16_, h17_, (Or.inl ⟨h18_, z19_, h20_, rfl, rfl⟩)⟩) (Nat.lt_of_lt_of_le (lf_c_X9_isOf_3 v6_15 z19_ h4_ h20_ ) (Nat.le_of_lt_succ hm_15))
              · refine w_lload dX0_countLearned_31 1 rfl ?_
                refine w_aload_n dX0_countLearned_33 rfl 4 rfl ?_
                refine w_getR (c' := (22, 0, 0)) fl_RX0_19 rfl rfl ic_0 dX0_countLearned_34 rfl ?_
                refine w_iconst (v := 3) dX0_countLearned_37 (by decide) ?_
                refine w_iload dX0_countLearned_38 0 rfl ?_
                refine w_imulB dX0_countLearned_40 li_3 (rfl : v6_15.toInt = v6_15.toInt) (lf_c_X0_noteLearned_5 v6_15 hv0_15 h4_ ) (fun z21_ h22_ => ?_)
                refine w_iload_n dX0_countLearned_41 rfl 2 rfl ?_
                refine w_iaddB dX0_countLearned_42 (rfl : z21_.toInt = z21_.toInt) (rfl : v3_4.toInt = v3_4.toInt) (lf_c_X0_countLearned_9 v3_4 v6_15 z21_ hv0_4 h2_ hv0_15 h4_ h22_ ) (fun z23_ h24_ => ?_)
                refine w_lald rfl rfl ic_22 (rfl : z23_.toInt = z23_.toInt) (lf_c_X0_countLearned_10 v3_4 v6_15 z21_ z23_ hv0_4 h2_ hv0_15 h4_ h22_ h24_ ) dX0_countLearned_43 (fun j26_ h27_ w25_ h28_ => ?_)
                refine w_lor dX0_countLearned_44 (fun w29_ h30_ => ?_)
                refine w_lstore (ls' := [(4, vL w29_), (6, vI v6_15), (3, vI v3_4), (2, vI v2_4), (0, vR (0, 0, 0)), (1, vI v)]) dX0_countLearned_45 (by decide) rfl ?_
                refine w_iincB (j := 1) (f := fun z31_ => [(6, vI z31_), (4, vL w29_), (3, vI v3_4), (2, vI v2_4), (0, vR (0, 0, 0)), (1, vI v)]) dX0_countLearned_47 rfl (by decide) (fun _ => rfl) (rfl : v6_15.toInt = v6_15.toInt) li_1 (lf_c_X9_isOf_0 v6_15 hv0_15 h4_ ) (fun z31_ h32_ => ?_)
                refine w_goto (tgt := 15) dX0_countLearned_50 (by decide) ?_
                refine w_loc (ls' := [(6, vI z31_), (4, vL w29_), (3, vI v3_4), (2, vI v2_4), (0, vR (0, 0, 0)), (1, vI v)]) [0, 1, 2, 3, 4, 5] rfl ?_
                exact ih_15 z31_ w29_ (lf_c_X5_takeFrom_3 v6_15 z31_ hv0_15 h32_ ) (lf_c_X9_isOf_2 v6_15 z31_ h4_ h32_ ) (RCH.tail hL_15 ⟨hv0_15, hv1_15, h4_, z14_, h15_, z16_, h17_, (Or.inr ⟨h18_, z21_, h22_, z23_, h24_, j26_, h27_, w25_, h28_, w29_, h30_, z31_, h32_, rfl, rfl⟩)⟩) (Nat.lt_of_lt_of_le (lf_c_X9_isOf_3 v6_15 z31_ h4_ h32_ ) (Nat.le_of_lt_succ hm_15))
        exact lp3_ _ 0 0 (lf_c_X5_takeFrom_5 ) (lf_c_X9_isOf_5 ) RCH.refl (Nat.lt_succ_self _)
  exact lp1_ _ 0 0 (lf_c_X5_takeFrom_5 ) (lf_c_X2_takeFrom_7 ) RCH.refl (Nat.lt_succ_self _)
def S_c_X0_chooseSpots (b : Nat) (w : Nat) : rf → Nat → Prop := fun c k => (c.1 = 0 ∧ c.2.1 = 0 ∧ k = 4) ∨ (c.1 = 0 ∧ c.2.1 = 0 ∧ k = 5) ∨ (c.1 = 29 ∧ c.2.1 = b ∧ k = 0) ∨ (c.1 = 29 ∧ c.2.1 = b ∧ k = 1) ∨ (c.1 = 29 ∧ c.2.1 = b ∧ k = 2) ∨ (c.1 = 29 ∧ c.2.1 = b ∧ k = 3) ∨ (c.1 = 25 ∧ c.2.1 = b ∧ c.2.2 = 0) ∨ (c.1 = 25 ∧ c.2.1 = b ∧ c.2.2 = 1) ∨ False
def ST_X0_chooseSpots_80 (b : Nat) (w : Nat) (u : Int32) (Mz : mM) (v5_6 : Int32) (v6_80 : Int32) (M_80 : mM) (v6_80y : Int32) (M_80y : mM) : Prop := (1 ≤ v6_80.toInt) ∧ (v6_80.toInt ≤ 256) ∧ (Inv M_80) ∧ (FR (S_c_X0_chooseSpots b w) Mz M_80) ∧ (v6_80.toInt < 256) ∧ ∃ z19_ : Int32, (z19_ = v5_6 ^^^ ((-1) : Int32)) ∧ ∃ z21_ : Int32, (z21_ = v6_80 &&& z19_) ∧ (((¬ z21_.toInt = 0) ∧ ∃ z24_ : Int32, (z24_.toInt = v6_80.toInt + 1) ∧ v6_80y = z24_ ∧ M_80y = M_80) ∨ ((z21_.toInt = 0) ∧ ∃ r26_ : Int32, (SP_JI_bitCount v6_80 M_80 r26_) ∧ (((¬ r26_.toInt = u.toInt) ∧ ∃ z32_ : Int32, (z32_.toInt = v6_80.toInt + 1) ∧ v6_80y = z32_ ∧ M_80y = M_80) ∨ ((r26_.toInt = u.toInt) ∧ ∃ r34_ : Int32, (SP_X0_countLearned v6_80 M_80 r34_) ∧ ∃ z39_ : Int32, (z39_ = M_80.1 (0, 0, 0) 4) ∧ (((r34_.toInt ≤ z39_.toInt) ∧ ∃ z42_ : Int32, (z42_.toInt = v6_80.toInt + 1) ∧ v6_80y = z42_ ∧ M_80y = M_80) ∨ ((z39_.toInt < r34_.toInt) ∧ ∃ M44_ : mM, (M44_ = up M_80 (0, 0, 0) 4 r34_) ∧ ∃ M48_ : mM, (M48_ = up M44_ (0, 0, 0) 5 v6_80) ∧ ∃ z52_ : Int32, (z52_.toInt = v6_80.toInt + 1) ∧ v6_80y = z52_ ∧ M_80y = M48_))))))
def ST_X0_chooseSpots_80b (b : Nat) (w : Nat) (u : Int32) (Mz : mM) (v5_6 : Int32) (v6_80 : Int32) (M_80 : mM) (v6_80y : Int32) (M_80y : mM) : Prop := (1 ≤ v6_80.toInt) ∧ (v6_80.toInt ≤ 256) ∧ (Inv M_80) ∧ (FR (S_c_X0_chooseSpots b w) Mz M_80) ∧ (v6_80.toInt < 256) ∧ ∃ z68_ : Int32, (z68_ = v5_6 ^^^ ((-1) : Int32)) ∧ ∃ z70_ : Int32, (z70_ = v6_80 &&& z68_) ∧ (((¬ z70_.toInt = 0) ∧ ∃ z73_ : Int32, (z73_.toInt = v6_80.toInt + 1) ∧ v6_80y = z73_ ∧ M_80y = M_80) ∨ ((z70_.toInt = 0) ∧ ∃ r75_ : Int32, (SP_JI_bitCount v6_80 M_80 r75_) ∧ (((¬ r75_.toInt = u.toInt) ∧ ∃ z81_ : Int32, (z81_.toInt = v6_80.toInt + 1) ∧ v6_80y = z81_ ∧ M_80y = M_80) ∨ ((r75_.toInt = u.toInt) ∧ ∃ r83_ : Int32, (SP_X0_countLearned v6_80 M_80 r83_) ∧ ∃ z88_ : Int32, (z88_ = M_80.1 (0, 0, 0) 4) ∧ (((r83_.toInt ≤ z88_.toInt) ∧ ∃ z91_ : Int32, (z91_.toInt = v6_80.toInt + 1) ∧ v6_80y = z91_ ∧ M_80y = M_80) ∨ ((z88_.toInt < r83_.toInt) ∧ ∃ M93_ : mM, (M93_ = up M_80 (0, 0, 0) 4 r83_) ∧ ∃ M97_ : mM, (M97_ = up M93_ (0, 0, 0) 5 v6_80) ∧ ∃ z101_ : Int32, (z101_.toInt = v6_80.toInt + 1) ∧ v6_80y = z101_ ∧ M_80y = M97_))))))
def ST_X0_chooseSpots_6 (b : Nat) (w : Nat) (v : Int32) (Mz : mM) (v6_6 : Int32) (v5_6 : Int32) (M_6 : mM) (v6_6y : Int32) (v5_6y : Int32) (M_6y : mM) : Prop := (0 ≤ v6_6.toInt) ∧ (Inv M_6) ∧ (FR (S_c_X0_chooseSpots b w) Mz M_6) ∧ ∃ z2_ : Int32, (z2_ = M_6.1 (6, 0, w) 1) ∧ (0 ≤ z2_.toInt ∧ z2_.toInt ≤ 24) ∧ (v6_6.toInt < z2_.toInt) ∧ (v6_6.toInt < 8) ∧ ∃ r103_ : Int32, (SP_X6_numberAt w v6_6 M_6 r103_) ∧ (((SP_X7_isFree b r103_ M_6 (1 : Int32)) ∧ (0 ≤ r103_.toInt ∧ r103_.toInt ≤ 191) ∧ ∃ z114_ : Int32, (z114_ = (1 : Int32) <<< (v6_6 &&& 31)) ∧ ∃ z116_ : Int32, (z116_ = v5_6 ||| z114_) ∧ ∃ r118_ : Int32, (SP_X6_numberAt w v6_6 M_6 r118_) ∧ ∃ M123_ : mM, (Inv M123_) ∧ (FR (S_c_X0_noteLearned b) M_6 M123_) ∧ (SP_X0_noteLearned b v v6_6 r118_ M_6 M123_) ∧ ∃ z130_ : Int32, (z130_.toInt = v6_6.toInt + 1) ∧ v6_6y = z130_ ∧ v5_6y = z116_ ∧ M_6y = M123_) ∨ ((SP_X7_isFree b r103_ M_6 (0 : Int32)) ∧ ∃ z133_ : Int32, (z133_.toInt = v6_6.toInt + 1) ∧ v6_6y = z133_ ∧ v5_6y = v5_6 ∧ M_6y = M_6))
def SP_X0_chooseSpots (b : Nat) (w : Nat) (v : Int32) (u : Int32) (Mz : mM) (r_ : Int32) (M_ : mM) : Prop := ∃ v6_6 : Int32, (0 ≤ v6_6.toInt) ∧ ∃ v5_6 : Int32, ∃ M_6 : mM, (RCH (fun x_ y_ => ST_X0_chooseSpots_6 b w v Mz x_.1 x_.2.1 x_.2.2 y_.1 y_.2.1 y_.2.2) ((0 : Int32), (0 : Int32), Mz) (v6_6, v5_6, M_6)) ∧ (Inv M_6) ∧ (FR (S_c_X0_chooseSpots b w) Mz M_6) ∧ ∃ z2_ : Int32, (z2_ = M_6.1 (6, 0, w) 1) ∧ (0 ≤ z2_.toInt ∧ z2_.toInt ≤ 24) ∧ (((z2_.toInt ≤ v6_6.toInt) ∧ ∃ M6_ : mM, (M6_ = up M_6 (0, 0, 0) 4 (-1)) ∧ ∃ M10_ : mM, (M10_ = up M6_ (0, 0, 0) 5 0) ∧ ∃ v6_80 : Int32, (1 ≤ v6_80.toInt) ∧ (v6_80.toInt ≤ 256) ∧ ∃ M_80 : mM, (RCH (fun x_ y_ => ST_X0_chooseSpots_80 b w u Mz v5_6 x_.1 x_.2 y_.1 y_.2) ((1 : Int32), M10_) (v6_80, M_80)) ∧ (Inv M_80) ∧ (FR (S_c_X0_chooseSpots b w) Mz M_80) ∧ (256 ≤ v6_80.toInt) ∧ ∃ z16_ : Int32, (z16_ = M_80.1 (0, 0, 0) 4) ∧ (((z16_.toInt < 0) ∧ r_ = 0 ∧ M_ = M_80) ∨ ((0 ≤ z16_.toInt) ∧ r_ = 1 ∧ M_ = M_80))) ∨ ((v6_6.toInt < z2_.toInt) ∧ (8 ≤ v6_6.toInt) ∧ ∃ M55_ : mM, (M55_ = up M_6 (0, 0, 0) 4 (-1)) ∧ ∃ M59_ : mM, (M59_ = up M55_ (0, 0, 0) 5 0) ∧ ∃ v6_80 : Int32, (1 ≤ v6_80.toInt) ∧ (v6_80.toInt ≤ 256) ∧ ∃ M_80 : mM, (RCH (fun x_ y_ => ST_X0_chooseSpots_80b b w u Mz v5_6 x_.1 x_.2 y_.1 y_.2) ((1 : Int32), M59_) (v6_80, M_80)) ∧ (Inv M_80) ∧ (FR (S_c_X0_chooseSpots b w) Mz M_80) ∧ (256 ≤ v6_80.toInt) ∧ ∃ z65_ : Int32, (z65_ = M_80.1 (0, 0, 0) 4) ∧ (((z65_.toInt < 0) ∧ r_ = 0 ∧ M_ = M_80) ∨ ((0 ≤ z65_.toInt) ∧ r_ = 1 ∧ M_ = M_80))))
theorem lf_c_X0_chooseSpots_0 (v6_80 : Int32) (hv0_80 : 1 ≤ v6_80.toInt) (h15_ : v6_80.toInt < 256) : -2147483648 ≤ v6_80.toInt + 1 ∧ v6_80.toInt + 1 < 2147483648 := by omega
theorem lf_c_X0_chooseSpots_2 (v6_80 : Int32) (z24_ : Int32) (h15_ : v6_80.toInt < 256) (h25_ : z24_.toInt = v6_80.toInt + 1) : z24_.toInt ≤ 256 := by omega
theorem lf_c_X0_chooseSpots_3 (v6_80 : Int32) (z24_ : Int32) (h15_ : v6_80.toInt < 256) (h25_ : z24_.toInt = v6_80.toInt + 1) : (2147483648 - z24_.toInt).toNat < (2147483648 - v6_80.toInt).toNat := by omega
theorem lf_c_X0_chooseSpots_17 : (1 : Int32).toInt ≤ 256 := by have q0 := li_1; omega
set_option maxHeartbeats 4000000 in
set_option maxRecDepth 100000 in
theorem c_X0_chooseSpots (l : Launch) (G : va_G) (cy : Nat → ClassId) (ad : rf → Nat) (d : Nat) (b : Nat) (w : Nat) (v : Int32) (u : Int32) (Mz : mM) (hIz : Inv Mz) (hb : b < 3) (hw : w < 4) : WP CC l G cy ad yX0_chooseSpots cX0_chooseSpots 8 (some .boolean) (d + 5) 0 [(0, vR (0, 0, 0)), (1, vR (10, b, 0)), (2, vI v), (3, vR (6, 0, w)), (4, vI u)] [] Mz (fun r M' => Inv M' ∧ FR (S_c_X0_chooseSpots b w) Mz M' ∧ ((0 ≤ r.toInt ∧ r.toInt ≤ 1)) ∧ SP_X0_chooseSpots b w v u Mz r M') := by
  have hFz : FR (S_c_X0_chooseSpots b w) Mz Mz := FR.self
  refine w_iconst (v := 0) dX0_chooseSpots_0 (by decide) ?_
  refine w_istore (ls' := [(5, vI 0), (0, vR (0, 0, 0)), (1, vR (10, b, 0)), (2, vI v), (3, vR (6, 0, w)), (4, vI u)]) dX0_chooseSpots_1 (by decide) rfl ?_
  refine w_iconst (v := 0) dX0_chooseSpots_3 (by decide) ?_
  refine w_istore (ls' := [(6, vI 0), (5, vI 0), (0, vR (0, 0, 0)), (1, vR (10, b, 0)), (2, vI v), (3, vR (6, 0, w)), (4, vI u)]) dX0_chooseSpots_4 (by decide) rfl ?_
  have lp1_ : ∀ (nn_6 : Nat) (M_6 : mM) (hI_6 : Inv M_6) (hF_6 : FR (S_c_X0_chooseSpots b w) Mz M_6) (v6_6 : Int32) (v5_6 : Int32) (hv0_6 : 0 ≤ v6_6.toInt) (hL_6 : RCH (fun x_ y_ => ST_X0_chooseSpots_6 b w v Mz x_.1 x_.2.1 x_.2.2 y_.1 y_.2.1 y_.2.2) ((0 : Int32), (0 : Int32), Mz) (v6_6, v5_6, M_6)), (2147483648 - v6_6.toInt).toNat < nn_6 → WP CC l G cy ad yX0_chooseSpots cX0_chooseSpots 8 (some .boolean) (d + 5) 6 [(6, vI v6_6), (5, vI v5_6), (0, vR (0, 0, 0)), (1, vR (10, b, 0)), (2, vI v), (3, vR (6, 0, w)), (4, vI u)] [] M_6 (fun r M' => Inv M' ∧ FR (S_c_X0_chooseSpots b w) Mz M' ∧ ((0 ≤ r.toInt ∧ r.toInt ≤ 1)) ∧ SP_X0_chooseSpots b w v u Mz r M') := by
    intro nn_6
    induction nn_6 with
    | zero => intro M_6 hI_6 hF_6 v6_6 v5_6 hv0_6 hL_6 hm_6; exact absurd hm_6 (Nat.not_lt_zero _)
    | succ nn_6 ih_6 =>
      intro M_6 hI_6 hF_6 v6_6 v5_6 hv0_6 hL_6 hm_6
      refine w_iload dX0_chooseSpots_6 0 rfl ?_
      refine w_aload_n dX0_chooseSpots_8 rfl 5 rfl ?_
      refine w_getI fl_RX0_65 rfl rfl (ic_6 hw) dX0_chooseSpots_9 (fun z2_ e3_ => ?_)
      have h4_ : 0 ≤ z2_.toInt ∧ z2_.toInt ≤ 24 := ofEq (P := fun v => 0 ≤ v.toInt ∧ v.toInt ≤ 24) e3_ (hI_6 (6, 0, w) 1 rfl)
      refine w_icmp_ge (tgt := 67) dX0_chooseSpots_12 (by decide) (rfl : v6_6.toInt = v6_6.toInt) (rfl : z2_.toInt = z2_.toInt) (fun h5_ => ?_) (fun h5_ => ?_)
      · refine w_aload_n dX0_chooseSpots_67 rfl 2 rfl ?_
        refine w_iconst (v := (-1)) dX0_chooseSpots_68 (by decide) ?_
        refine w_putI CC_nd fl_RX0_26 rfl rfl ic_0 dX0_chooseSpots_69 (fun M6_ hM7_ => ?_)
        have hI8_ := hI_6.put hM7_ trivial
        have hF9_ := hF_6.put hM7_ (Or.inl ⟨rfl, rfl, rfl⟩)
        refine w_aload_n dX0_chooseSpots_72 rfl 2 rfl ?_
        refine w_iconst (v := 0) dX0_chooseSpots_73 (by decide) ?_
        refine w_putI CC_nd fl_RX0_30 rfl rfl ic_0 dX0_chooseSpots_74 (fun M10_ hM11_ => ?_)
        have hI12_ := hI8_.put hM11_ trivial
        have hF13_ := hF9_.put hM11_ (Or.inr (Or.inl ⟨rfl, rfl, rfl⟩))
        refine w_iconst (v := 1) dX0_chooseSpots_77 (by decide) ?_
        refine w_istore (ls' := [(6, vI 1), (5, vI v5_6), (0, vR (0, 0, 0)), (1, vR (10, b, 0)), (2, vI v), (3, vR (6, 0, w)), (4, vI u)]) dX0_chooseSpots_78 (by decide) rfl ?_
        have lp14_ : ∀ (nn_80 : Nat) (M_80 : mM) (hI_80 : Inv M_80) (hF_80 : FR (S_c_X0_chooseSpots b w) Mz M_80) (v6_80 : Int32) (hv0_80 : 1 ≤ v6_80.toInt) (hv1_80 : v6_80.toInt ≤ 256) (hL_80 : RCH (fun x_ y_ => ST_X0_chooseSpots_80 b w u Mz v5_6 x_.1 x_.2 y_.1 y_.2) ((1 : Int32), M10_) (v6_80, M_80)), (2147483648 - v6_80.toInt).toNat < nn_80 → WP CC l G cy ad yX0_chooseSpots cX0_chooseSpots 8 (some .boolean) (d + 5) 80 [(6, vI v6_80), (5, vI v5_6), (0, vR (0, 0, 0)), (1, vR (10, b, 0)), (2, vI v), (3, vR (6, 0, w)), (4, vI u)] [] M_80 (fun r M' => Inv M' ∧ FR (S_c_X0_chooseSpots b w) Mz M' ∧ ((0 ≤ r.toInt ∧ r.toInt ≤ 1)) ∧ SP_X0_chooseSpots b w v u Mz r M') := by
          intro nn_80
          induction nn_80 with
          | zero => intro M_80 hI_80 hF_80 v6_80 hv0_80 hv1_80 hL_80 hm_80; exact absurd hm_80 (Nat.not_lt_zero _)
          | succ nn_80 ih_80 =>
            intro M_80 hI_80 hF_80 v6_80 hv0_80 hv1_80 hL_80 hm_80
            refine w_iload dX0_chooseSpots_80 0 rfl ?_
            refine w_sipush (v := 256) dX0_chooseSpots_82 (by decide) ?_
            refine w_icmp_ge (tgt := 143) dX0_chooseSpots_85 (by decide) (rfl : v6_80.toInt = v6_80.toInt) li_256 (fun h15_ => ?_) (fun h15_ => ?_)
            · refine w_aload_n dX0_chooseSpots_143 rfl 2 rfl ?_
              refine w_getI fl_RX0_26 rfl rfl ic_0 dX0_chooseSpots_144 (fun z16_ e17_ => ?_)
              refine w_if_lt (tgt := 154) dX0_chooseSpots_147 (by decide) (rfl : z16_.toInt = z16_.toInt) (fun h18_ => ?_) (fun h18_ => ?_)
              · refine w_iconst (v := 0) dX0_chooseSpots_154 (by decide) ?_
                exact w_zret rfl dX0_chooseSpots_155 ⟨by decide, by decide⟩ ⟨hI_80, hF_80, ⟨by decide, by decide⟩, ⟨v6_6, hv0_6, v5_6, M_6, hL_6, hI_6, hF_6, z2_, e3_, h4_, (Or.inl ⟨h5_, M6_, hM7_, M10_, hM11_, v6_80, hv0_80, hv1_80, M_80, hL_80, hI_80, hF_80, h15_, z16_, e17_, (Or.inl ⟨h18_, rfl, rfl⟩)⟩)⟩⟩
              · refine w_iconst (v := 1) dX0_chooseSpots_150 (by decide) ?_
                refine w_goto (tgt := 155) dX0_chooseSpots_151 (by decide) ?_
                exact w_zret rfl dX0_chooseSpots_155 ⟨by decide, by decide⟩ ⟨hI_80, hF_80, ⟨by decide, by decide⟩, ⟨v6_6, hv0_6, v5_6, M_6, hL_6, hI_6, hF_6, z2_, e3_, h4_, (Or.inl ⟨h5_, M6_, hM7_, M10_, hM11_, v6_80, hv0_80, hv1_80, M_80, hL_80, hI_80, hF_80, h15_, z16_, e17_, (Or.inr ⟨h18_, rfl, rfl⟩)⟩)⟩⟩
            · refine w_iload dX0_chooseSpots_88 0 rfl ?_
              refine w_iload dX0_chooseSpots_90 1 rfl ?_
              refine w_iconst (v := (-1)) dX0_chooseSpots_92 (by decide) ?_
              refine w_ixor dX0_chooseSpots_93 (fun z19_ h20_ => ?_)
              refine w_iand dX0_chooseSpots_94 (fun z21_ h22_ => ?_)
              refine w_if_ne (tgt := 137) dX0_chooseSpots_95 (by decide) (rfl : z21_.toInt = z21_.toInt) (fun h23_ => ?_) (fun h23_ => ?_)
              · refine w_iincB (j := 0) (f := fun z24_ => [(6, vI z24_), (5, vI v5_6), (0, vR (0, 0, 0)), (1, vR (10, b, 0)), (2, vI v), (3, vR (6, 0, w)), (4, vI u)]) dX0_chooseSpots_137 rfl (by decide) (fun _ => rfl) (rfl : v6_80.toInt = v6_80.toInt) li_1 (lf_c_X0_chooseSpots_0 v6_80 hv0_80 h15_ ) (fun z24_ h25_ => ?_)
                refine w_goto (tgt := 80) dX0_chooseSpots_140 (by decide) ?_
                refine w_loc (ls' := [(6, vI z24_), (5, vI v5_6), (0, vR (0, 0, 0)), (1, vR (10, b, 0)), (2, vI v), (3, vR (6, 0, w)), (4, vI u)]) [0, 1, 2, 3, 4, 5, 6] rfl ?_
                exact ih_80 M_80 hI_80 hF_80 z24_ (lf_c_X9_yardsToFull_1 v6_80 z24_ hv0_80 h25_ ) (lf_c_X0_chooseSpots_2 v6_80 z24_ h15_ h25_ ) (RCH.tail hL_80 ⟨hv0_80, hv1_80, hI_80, hF_80, h15_, z19_, h20_, z21_, h22_, (Or.inl ⟨h23_, z24_, h25_, rfl, rfl⟩)⟩) (Nat.lt_of_lt_of_le (lf_c_X0_chooseSpots_3 v6_80 z24_ h15_ h25_ ) (Nat.le_of_lt_succ hm_80))
              · refine w_iload dX0_chooseSpots_98 0 rfl ?_
                refine w_callS (as := [vI v6_80]) (rest := []) (c_JI_bitCount l G cy ad (d + 4) v6_80 M_80 hI_80) kS_JI_bitCount pnn_9 (Nat.le_of_ble_eq_true rfl) m_1005 rfl rfl (by decide) (Nat.le_of_ble_eq_true rfl) dX0_chooseSpots_100 (fun r26_ M27_ q28_ => ?_)
                obtain ⟨rfl, h29_, hs30_⟩ := q28_
                refine w_iload dX0_chooseSpots_103 6 rfl ?_
                refine w_icmp_ne (tgt := 137) dX0_chooseSpots_105 (by decide) (rfl : r26_.toInt = r26_.toInt) (rfl : u.toInt = u.toInt) (fun h31_ => ?_) (fun h31_ => ?_)
                · refine w_iincB (j := 0) (f := fun z32_ => [(6, vI z32_), (5, vI v5_6), (0, vR (0, 0, 0)), (1, vR (10, b, 0)), (2, vI v), (3, vR (6, 0, w)), (4, vI u)]) dX0_chooseSpots_137 rfl (by decide) (fun _ => rfl) (rfl : v6_80.toInt = v6_80.toInt) li_1 (lf_c_X0_chooseSpots_0 v6_80 hv0_80 h15_ ) (fun z32_ h33_ => ?_)
                  refine w_goto (tgt := 80) dX0_chooseSpots_140 (by decide) ?_
                  refine w_loc (ls' := [(6, vI z32_), (5, vI v5_6), (0, vR (0, 0, 0)), (1, vR (10, b, 0)), (2, vI v), (3, vR (6, 0, w)), (4, vI u)]) [0, 1, 2, 3, 4, 5, 6] rfl ?_
                  exact ih_80 M_80 hI_80 hF_80 z32_ (lf_c_X9_yardsToFull_1 v6_80 z32_ hv0_80 h33_ ) (lf_c_X0_chooseSpots_2 v6_80 z32_ h15_ h33_ ) (RCH.tail hL_80 ⟨hv0_80, hv1_80, hI_80, hF_80, h15_, z19_, h20_, z21_, h22_, (Or.inr ⟨h23_, r26_, hs30_, (Or.inl ⟨h31_, z32_, h33_, rfl, rfl⟩)⟩)⟩) (Nat.lt_of_lt_of_le (lf_c_X0_chooseSpots_3 v6_80 z32_ h15_ h33_ ) (Nat.le_of_lt_succ hm_80))
                · refine w_aload_n dX0_chooseSpots_108 rfl 2 rfl ?_
                  refine w_iload dX0_chooseSpots_109 0 rfl ?_
                  refine w_callV (as := [vI v6_80]) (rest := []) (c_X0_countLearned l G cy ad (d + 3) v6_80 M_80 hI_80) kV_X0_countLearned pnn_11 (Nat.le_of_ble_eq_true rfl) m_1011 rfl rfl rfl ic_0 rfl rfl (by decide) (Nat.le_of_ble_eq_true rfl) dX0_chooseSpots_111 (fun r34_ M35_ q36_ => ?_)
                  obtain ⟨rfl, h37_, hs38_⟩ := q36_
                  refine w_istore (ls' := [(7, vI r34_), (6, vI v6_80), (5, vI v5_6), (0, vR (0, 0, 0)), (1, vR (10, b, 0)), (2, vI v), (3, vR (6, 0, w)), (4, vI u)]) dX0_chooseSpots_114 (by decide) rfl ?_
                  refine w_iload dX0_chooseSpots_116 0 rfl ?_
                  refine w_aload_n dX0_chooseSpots_118 rfl 3 rfl ?_
                  refine w_getI fl_RX0_26 rfl rfl ic_0 dX0_chooseSpots_119 (fun z39_ e40_ => ?_)
                  refine w_icmp_le (tgt := 137) dX0_chooseSpots_122 (by decide) (rfl : r34_.toInt = r34_.toInt) (rfl : z39_.toInt = z39_.toInt) (fun h41_ => ?_) (fun h41_ => ?_)
                  · refine w_iincB (j := 1) (f := fun z42_ => [(6, vI z42_), (7, vI r34_), (5, vI v5_6), (0, vR (0, 0, 0)), (1, vR (10, b, 0)), (2, vI v), (3, vR (6, 0, w)), (4, vI u)]) dX0_chooseSpots_137 rfl (by decide) (fun _ => rfl) (rfl : v6_80.toInt = v6_80.toInt) li_1 (lf_c_X0_chooseSpots_0 v6_80 hv0_80 h15_ ) (fun z42_ h43_ => ?_)
                    refine w_goto (tgt := 80) dX0_chooseSpots_140 (by decide) ?_
                    refine w_loc (ls' := [(6, vI z42_), (5, vI v5_6), (0, vR (0, 0, 0)), (1, vR (10, b, 0)), (2, vI v), (3, vR (6, 0, w)), (4, vI u)]) [0, 2, 3, 4, 5, 6, 7] rfl ?_
                    exact ih_80 M_80 hI_80 hF_80 z42_ (lf_c_X9_yardsToFull_1 v6_80 z42_ hv0_80 h43_ ) (lf_c_X0_chooseSpots_2 v6_80 z42_ h15_ h43_ ) (RCH.tail hL_80 ⟨hv0_80, hv1_80, hI_80, hF_80, h15_, z19_, h20_, z21_, h22_, (Or.inr ⟨h23_, r26_, hs30_, (Or.inr ⟨h31_, r34_, hs38_, z39_, e40_, (Or.inl ⟨h41_, z42_, h43_, rfl, rfl⟩)⟩)⟩)⟩) (Nat.lt_of_lt_of_le (lf_c_X0_chooseSpots_3 v6_80 z42_ h15_ h43_ ) (Nat.le_of_lt_succ hm_80))
                  · refine w_aload_n dX0_chooseSpots_125 rfl 3 rfl ?_
                    refine w_iload dX0_chooseSpots_126 0 rfl ?_
                    refine w_putI CC_nd fl_RX0_26 rfl rfl ic_0 dX0_chooseSpots_128 (fun M44_ hM45_ => ?_)
                    have hI46_ := hI_80.put hM45_ trivial
                    have hF47_ := hF_80.put hM45_ (Or.inl ⟨rfl, rfl, rfl⟩)
                    refine w_aload_n dX0_chooseSpots_131 rfl 3 rfl ?_
                    refine w_iload dX0_chooseSpots_132 1 rfl ?_
                    refine w_putI CC_nd fl_RX0_30 rfl rfl ic_0 dX0_chooseSpots_134 (fun M48_ hM49_ => ?_)
                    have hI50_ := hI46_.put hM49_ trivial
                    have hF51_ := hF47_.put hM49_ (Or.inr (Or.inl ⟨rfl, rfl, rfl⟩))
                    refine w_iincB (j := 1) (f := fun z52_ => [(6, vI z52_), (7, vI r34_), (5, vI v5_6), (0, vR (0, 0, 0)), (1, vR (10, b, 0)), (2, vI v), (3, vR (6, 0, w)), (4, vI u)]) dX0_chooseSpots_137 rfl (by decide) (fun _ => rfl) (rfl : v6_80.toInt = v6_80.toInt) li_1 (lf_c_X0_chooseSpots_0 v6_80 hv0_80 h15_ ) (fun z52_ h53_ => ?_)
                    refine w_goto (tgt := 80) dX0_chooseSpots_140 (by decide) ?_
                    refine w_loc (ls' := [(6, vI z52_), (5, vI v5_6), (0, vR (0, 0, 0)), (1, vR (10, b, 0)), (2, vI v), (3, vR (6, 0, w)), (4, vI u)]) [0, 2, 3, 4, 5, 6, 7] rfl ?_
                    exact ih_80 M48_ hI50_ hF51_ z52_ (lf_c_X9_yardsToFull_1 v6_80 z52_ hv0_80 h53_ ) (lf_c_X0_chooseSpots_2 v6_80 z52_ h15_ h53_ ) (RCH.tail hL_80 ⟨hv0_80, hv1_80, hI_80, hF_80, h15_, z19_, h20_, z21_, h22_, (Or.inr ⟨h23_, r26_, hs30_, (Or.inr ⟨h31_, r34_, hs38_, z39_, e40_, (Or.inr ⟨h41_, M44_, hM45_, M48_, hM49_, z52_, h53_, rfl, rfl⟩)⟩)⟩)⟩) (Nat.lt_of_lt_of_le (lf_c_X0_chooseSpots_3 v6_80 z52_ h15_ h53_ ) (Nat.le_of_lt_succ hm_80))
        exact lp14_ _ M10_ hI12_ hF13_ 1 (lf_c_X9_yardsToFull_4 ) (lf_c_X0_chooseSpots_17 ) RCH.refl (Nat.lt_succ_self _)
      · refine w_iload dX0_chooseSpots_15 0 rfl ?_
        refine w_bipush (v := 8) dX0_chooseSpots_17 (by decide) ?_
        refine w_icmp_ge (tgt := 67) dX0_chooseSpots_19 (by decide) (rfl : v6_6.toInt = v6_6.toInt) li_8 (fun h54_ => ?_) (fun h54_ => ?_)
        · refine w_aload_n dX0_chooseSpots_67 rfl 2 rfl ?_
          refine w_iconst (v := (-1)) dX0_chooseSpots_68 (by decide) ?_
          refine w_putI CC_nd fl_RX0_26 rfl rfl ic_0 dX0_chooseSpots_69 (fun M55_ hM56_ => ?_)
          have hI57_ := hI_6.put hM56_ trivial
          have hF58_ := hF_6.put hM56_ (Or.inl ⟨rfl, rfl, rfl⟩)
          refine w_aload_n dX0_chooseSpots_72 rfl 2 rfl ?_
          refine w_iconst (v := 0) dX0_chooseSpots_73 (by decide) ?_
          refine w_putI CC_nd fl_RX0_30 rfl rfl ic_0 dX0_chooseSpots_74 (fun M59_ hM60_ => ?_)
          have hI61_ := hI57_.put hM60_ trivial
          have hF62_ := hF58_.put hM60_ (Or.inr (Or.inl ⟨rfl, rfl, rfl⟩))
          refine w_iconst (v := 1) dX0_chooseSpots_77 (by decide) ?_
          refine w_istore (ls' := [(6, vI 1), (5, vI v5_6), (0, vR (0, 0, 0)), (1, vR (10, b, 0)), (2, vI v), (3, vR (6, 0, w)), (4, vI u)]) dX0_chooseSpots_78 (by decide) rfl ?_
          have lp63_ : ∀ (nn_80 : Nat) (M_80 : mM) (hI_80 : Inv M_80) (hF_80 : FR (S_c_X0_chooseSpots b w) Mz M_80) (v6_80 : Int32) (hv0_80 : 1 ≤ v6_80.toInt) (hv1_80 : v6_80.toInt ≤ 256) (hL_80 : RCH (fun x_ y_ => ST_X0_chooseSpots_80b b w u Mz v5_6 x_.1 x_.2 y_.1 y_.2) ((1 : Int32), M59_) (v6_80, M_80)), (2147483648 - v6_80.toInt).toNat < nn_80 → WP CC l G cy ad yX0_chooseSpots cX0_chooseSpots 8 (some .boolean) (d + 5) 80 [(6, vI v6_80), (5, vI v5_6), (0, vR (0, 0, 0)), (1, vR (10, b, 0)), (2, vI v), (3, vR (6, 0, w)), (4, vI u)] [] M_80 (fun r M' => Inv M' ∧ FR (S_c_X0_chooseSpots b w) Mz M' ∧ ((0 ≤ r.toInt ∧ r.toInt ≤ 1)) ∧ SP_X0_chooseSpots b w v u Mz r M') := by
            intro nn_80
            induction nn_80 with
            | zero => intro M_80 hI_80 hF_80 v6_80 hv0_80 hv1_80 hL_80 hm_80; exact absurd hm_80 (Nat.not_lt_zero _)
            | succ nn_80 ih_80 =>
              intro M_80 hI_80 hF_80 v6_80 hv0_80 hv1_80 hL_80 hm_80
              refine w_iload dX0_chooseSpots_80 0 rfl ?_
              refine w_sipush (v := 256) dX0_chooseSpots_82 (by decide) ?_
              refine w_icmp_ge (tgt := 143) dX0_chooseSpots_85 (by decide) (rfl : v6_80.toInt = v6_80.toInt) li_256 (fun h64_ => ?_) (fun h64_ => ?_)
              · refine w_aload_n dX0_chooseSpots_143 rfl 2 rfl ?_
                refine w_getI fl_RX0_26 rfl rfl ic_0 dX0_chooseSpots_144 (fun z65_ e66_ => ?_)
                refine w_if_lt (tgt := 154) dX0_chooseSpots_147 (by decide) (rfl : z65_.toInt = z65_.toInt) (fun h67_ => ?_) (fun h67_ => ?_)
                · refine w_iconst (v := 0) dX0_chooseSpots_154 (by decide) ?_
                  exact w_zret rfl dX0_chooseSpots_155 ⟨by decide, by decide⟩ ⟨hI_80, hF_80, ⟨by decide, by decide⟩, ⟨v6_6, hv0_6, v5_6, M_6, hL_6, hI_6, hF_6, z2_, e3_, h4_, (Or.inr ⟨h5_, h54_, M55_, hM56_, M59_, hM60_, v6_80, hv0_80, hv1_80, M_80, hL_80, hI_80, hF_80, h64_, z65_, e66_, (Or.inl ⟨h67_, rfl, rfl⟩)⟩)⟩⟩
                · refine w_iconst (v := 1) dX0_chooseSpots_150 (by decide) ?_
                  refine w_goto (tgt := 155) dX0_chooseSpots_151 (by decide) ?_
                  exact w_zret rfl dX0_chooseSpots_155 ⟨by decide, by decide⟩ ⟨hI_80, hF_80, ⟨by decide, by decide⟩, ⟨v6_6, hv0_6, v5_6, M_6, hL_6, hI_6, hF_6, z2_, e3_, h4_, (Or.inr ⟨h5_, h54_, M55_, hM56_, M59_, hM60_, v6_80, hv0_80, hv1_80, M_80, hL_80, hI_80, hF_80, h64_, z65_, e66_, (Or.inr ⟨h67_, rfl, rfl⟩)⟩)⟩⟩
              · refine w_iload dX0_chooseSpots_88 0 rfl ?_
                refine w_iload dX0_chooseSpots_90 1 rfl ?_
                refine w_iconst (v := (-1)) dX0_chooseSpots_92 (by decide) ?_
                refine w_ixor dX0_chooseSpots_93 (fun z68_ h69_ => ?_)
                refine w_iand dX0_chooseSpots_94 (fun z70_ h71_ => ?_)
                refine w_if_ne (tgt := 137) dX0_chooseSpots_95 (by decide) (rfl : z70_.toInt = z70_.toInt) (fun h72_ => ?_) (fun h72_ => ?_)
                · refine w_iincB (j := 0) (f := fun z73_ => [(6, vI z73_), (5, vI v5_6), (0, vR (0, 0, 0)), (1, vR (10, b, 0)), (2, vI v), (3, vR (6, 0, w)), (4, vI u)]) dX0_chooseSpots_137 rfl (by decide) (fun _ => rfl) (rfl : v6_80.toInt = v6_80.toInt) li_1 (lf_c_X0_chooseSpots_0 v6_80 hv0_80 h64_ ) (fun z73_ h74_ => ?_)
                  refine w_goto (tgt := 80) dX0_chooseSpots_140 (by decide) ?_
                  refine w_loc (ls' := [(6, vI z73_), (5, vI v5_6), (0, vR (0, 0, 0)), (1, vR (10, b, 0)), (2, vI v), (3, vR (6, 0, w)), (4, vI u)]) [0, 1, 2, 3, 4, 5, 6] rfl ?_
                  exact ih_80 M_80 hI_80 hF_80 z73_ (lf_c_X9_yardsToFull_1 v6_80 z73_ hv0_80 h74_ ) (lf_c_X0_chooseSpots_2 v6_80 z73_ h64_ h74_ ) (RCH.tail hL_80 ⟨hv0_80, hv1_80, hI_80, hF_80, h64_, z68_, h69_, z70_, h71_, (Or.inl ⟨h72_, z73_, h74_, rfl, rfl⟩)⟩) (Nat.lt_of_lt_of_le (lf_c_X0_chooseSpots_3 v6_80 z73_ h64_ h74_ ) (Nat.le_of_lt_succ hm_80))
                · refine w_iload dX0_chooseSpots_98 0 rfl ?_
                  refine w_callS (as := [vI v6_80]) (rest := []) (c_JI_bitCount l G cy ad (d + 4) v6_80 M_80 hI_80) kS_JI_bitCount pnn_9 (Nat.le_of_ble_eq_true rfl) m_1005 rfl rfl (by decide) (Nat.le_of_ble_eq_true rfl) dX0_chooseSpots_100 (fun r75_ M76_ q77_ => ?_)
                  obtain ⟨rfl, h78_, hs79_⟩ := q77_
                  refine w_iload dX0_chooseSpots_103 6 rfl ?_
                  refine w_icmp_ne (tgt := 137) dX0_chooseSpots_105 (by decide) (rfl : r75_.toInt = r75_.toInt) (rfl : u.toInt = u.toInt) (fun h80_ => ?_) (fun h80_ => ?_)
                  · refine w_iincB (j := 0) (f := fun z81_ => [(6, vI z81_), (5, vI v5_6), (0, vR (0, 0, 0)), (1, vR (10, b, 0)), (2, vI v), (3, vR (6, 0, w)), (4, vI u)]) dX0_chooseSpots_137 rfl (by decide) (fun _ => rfl) (rfl : v6_80.toInt = v6_80.toInt) li_1 (lf_c_X0_chooseSpots_0 v6_80 hv0_80 h64_ ) (fun z81_ h82_ => ?_)
                    refine w_goto (tgt := 80) dX0_chooseSpots_140 (by decide) ?_
                    refine w_loc (ls' := [(6, vI z81_), (5, vI v5_6), (0, vR (0, 0, 0)), (1, vR (10, b, 0)), (2, vI v), (3, vR (6, 0, w)), (4, vI u)]) [0, 1, 2, 3, 4, 5, 6] rfl ?_
                    exact ih_80 M_80 hI_80 hF_80 z81_ (lf_c_X9_yardsToFull_1 v6_80 z81_ hv0_80 h82_ ) (lf_c_X0_chooseSpots_2 v6_80 z81_ h64_ h82_ ) (RCH.tail hL_80 ⟨hv0_80, hv1_80, hI_80, hF_80, h64_, z68_, h69_, z70_, h71_, (Or.inr ⟨h72_, r75_, hs79_, (Or.inl ⟨h80_, z81_, h82_, rfl, rfl⟩)⟩)⟩) (Nat.lt_of_lt_of_le (lf_c_X0_chooseSpots_3 v6_80 z81_ h64_ h82_ ) (Nat.le_of_lt_succ hm_80))
                  · refine w_aload_n dX0_chooseSpots_108 rfl 2 rfl ?_
                    refine w_iload dX0_chooseSpots_109 0 rfl ?_
                    refine w_callV (as := [vI v6_80]) (rest := []) (c_X0_countLearned l G cy ad (d + 3) v6_80 M_80 hI_80) kV_X0_countLearned pnn_11 (Nat.le_of_ble_eq_true rfl) m_1011 rfl rfl rfl ic_0 rfl rfl (by decide) (Nat.le_of_ble_eq_true rfl) dX0_chooseSpots_111 (fun r83_ M84_ q85_ => ?_)
                    obtain ⟨rfl, h86_, hs87_⟩ := q85_
                    refine w_istore (ls' := [(7, vI r83_), (6, vI v6_80), (5, vI v5_6), (0, vR (0, 0, 0)), (1, vR (10, b, 0)), (2, vI v), (3, vR (6, 0, w)), (4, vI u)]) dX0_chooseSpots_114 (by decide) rfl ?_
                    refine w_iload dX0_chooseSpots_116 0 rfl ?_
                    refine w_aload_n dX0_chooseSpots_118 rfl 3 rfl ?_
                    refine w_getI fl_RX0_26 rfl rfl ic_0 dX0_chooseSpots_119 (fun z88_ e89_ => ?_)
                    refine w_icmp_le (tgt := 137) dX0_chooseSpots_122 (by decide) (rfl : r83_.toInt = r83_.toInt) (rfl : z88_.toInt = z88_.toInt) (fun h90_ => ?_) (fun h90_ => ?_)
                    · refine w_iincB (j := 1) (f := fun z91_ => [(6, vI z91_), (7, vI r83_), (5, vI v5_6), (0, vR (0, 0, 0)), (1, vR (10, b, 0)), (2, vI v), (3, vR (6, 0, w)), (4, vI u)]) dX0_chooseSpots_137 rfl (by decide) (fun _ => rfl) (rfl : v6_80.toInt = v6_80.toInt) li_1 (lf_c_X0_chooseSpots_0 v6_80 hv0_80 h64_ ) (fun z91_ h92_ => ?_)
                      refine w_goto (tgt := 80) dX0_chooseSpots_140 (by decide) ?_
                      refine w_loc (ls' := [(6, vI z91_), (5, vI v5_6), (0, vR (0, 0, 0)), (1, vR (10, b, 0)), (2, vI v), (3, vR (6, 0, w)), (4, vI u)]) [0, 2, 3, 4, 5, 6, 7] rfl ?_
                      exact ih_80 M_80 hI_80 hF_80 z91_ (lf_c_X9_yardsToFull_1 v6_80 z91_ hv0_80 h92_ ) (lf_c_X0_chooseSpots_2 v6_80 z91_ h64_ h92_ ) (RCH.tail hL_80 ⟨hv0_80, hv1_80, hI_80, hF_80, h64_, z68_, h69_, z70_, h71_, (Or.inr ⟨h72_, r75_, hs79_, (Or.inr ⟨h80_, r83_, hs87_, z88_, e89_, (Or.inl ⟨h90_, z91_, h92_, rfl, rfl⟩)⟩)⟩)⟩) (Nat.lt_of_lt_of_le (lf_c_X0_chooseSpots_3 v6_80 z91_ h64_ h92_ ) (Nat.le_of_lt_succ hm_80))
                    · refine w_aload_n dX0_chooseSpots_125 rfl 3 rfl ?_
                      refine w_iload dX0_chooseSpots_126 0 rfl ?_
                      refine w_putI CC_nd fl_RX0_26 rfl rfl ic_0 dX0_chooseSpots_128 (fun M93_ hM94_ => ?_)
                      have hI95_ := hI_80.put hM94_ trivial
                      have hF96_ := hF_80.put hM94_ (Or.inl ⟨rfl, rfl, rfl⟩)
                      refine w_aload_n dX0_chooseSpots_131 rfl 3 rfl ?_
                      refine w_iload dX0_chooseSpots_132 1 rfl ?_
                      refine w_putI CC_nd fl_RX0_30 rfl rfl ic_0 dX0_chooseSpots_134 (fun M97_ hM98_ => ?_)
                      have hI99_ := hI95_.put hM98_ trivial
                      have hF100_ := hF96_.put hM98_ (Or.inr (Or.inl ⟨rfl, rfl, rfl⟩))
                      refine w_iincB (j := 1) (f := fun z101_ => [(6, vI z101_), (7, vI r83_), (5, vI v5_6), (0, vR (0, 0, 0)), (1, vR (10, b, 0)), (2, vI v), (3, vR (6, 0, w)), (4, vI u)]) dX0_chooseSpots_137 rfl (by decide) (fun _ => rfl) (rfl : v6_80.toInt = v6_80.toInt) li_1 (lf_c_X0_chooseSpots_0 v6_80 hv0_80 h64_ ) (fun z101_ h102_ => ?_)
                      refine w_goto (tgt := 80) dX0_chooseSpots_140 (by decide) ?_
                      refine w_loc (ls' := [(6, vI z101_), (5, vI v5_6), (0, vR (0, 0, 0)), (1, vR (10, b, 0)), (2, vI v), (3, vR (6, 0, w)), (4, vI u)]) [0, 2, 3, 4, 5, 6, 7] rfl ?_
                      exact ih_80 M97_ hI99_ hF100_ z101_ (lf_c_X9_yardsToFull_1 v6_80 z101_ hv0_80 h102_ ) (lf_c_X0_chooseSpots_2 v6_80 z101_ h64_ h102_ ) (RCH.tail hL_80 ⟨hv0_80, hv1_80, hI_80, hF_80, h64_, z68_, h69_, z70_, h71_, (Or.inr ⟨h72_, r75_, hs79_, (Or.inr ⟨h80_, r83_, hs87_, z88_, e89_, (Or.inr ⟨h90_, M93_, hM94_, M97_, hM98_, z101_, h102_, rfl, rfl⟩)⟩)⟩)⟩) (Nat.lt_of_lt_of_le (lf_c_X0_chooseSpots_3 v6_80 z101_ h64_ h102_ ) (Nat.le_of_lt_succ hm_80))
          exact lp63_ _ M59_ hI61_ hF62_ 1 (lf_c_X9_yardsToFull_4 ) (lf_c_X0_chooseSpots_17 ) RCH.refl (Nat.lt_succ_self _)
        · refine w_aload_n dX0_chooseSpots_22 rfl 3 rfl ?_
          refine w_getR (c' := (7, b, 0)) fl_RX0_70 rfl rfl (ic_10 hb) dX0_chooseSpots_23 rfl ?_
          refine w_aload_n dX0_chooseSpots_26 rfl 5 rfl ?_
          refine w_iload dX0_chooseSpots_27 0 rfl ?_
          refine w_callV (as := [vI v6_6]) (rest := [vR (7, b, 0)]) (c_X6_numberAt l G cy ad (d + 3) w v6_6 M_6 hI_6 hw) kV_X6_numberAt pnn_4 (Nat.le_of_ble_eq_true rfl) m_992 rfl rfl rfl (ic_6 hw) rfl rfl (by decide) (Nat.le_of_ble_eq_true rfl) dX0_chooseSpots_29 (fun r103_ M104_ q105_ => ?_)
          obtain ⟨rfl, h106_, hs107_⟩ := q105_
          refine w_callV (as := [vI r103_]) (rest := []) (c_X7_isFree l G cy ad (d + 3) b r103_ M_6 hI_6 hb) kV_X7_isFree pnn_1 (Nat.le_of_ble_eq_true rfl) m_993 rfl rfl rfl (ic_7 hb) rfl rfl (by decide) (Nat.le_of_ble_eq_true rfl) dX0_chooseSpots_32 (fun r108_ M109_ q110_ => ?_)
          obtain ⟨rfl, h111_, hs112_⟩ := q110_
          rcases h111_ with ⟨rfl, h111_⟩ | rfl
          · refine w_if_eq (tgt := 61) dX0_chooseSpots_35 (by decide) li_1 (fun h9 => (absurd h9 (by decide))) (fun h113_ => ?_)
            refine w_iload dX0_chooseSpots_38 1 rfl ?_
            refine w_iconst (v := 1) dX0_chooseSpots_40 (by decide) ?_
            refine w_iload dX0_chooseSpots_41 0 rfl ?_
            refine w_ishl dX0_chooseSpots_43 (fun z114_ h115_ => ?_)
            refine w_ior dX0_chooseSpots_44 (fun z116_ h117_ => ?_)
            refine w_istore (ls' := [(5, vI z116_), (6, vI v6_6), (0, vR (0, 0, 0)), (1, vR (10, b, 0)), (2, vI v), (3, vR (6, 0, w)), (4, vI u)]) dX0_chooseSpots_45 (by decide) rfl ?_
            refine w_aload_n dX0_chooseSpots_47 rfl 2 rfl ?_
            refine w_aload_n dX0_chooseSpots_48 rfl 3 rfl ?_
            refine w_iload_n dX0_chooseSpots_49 rfl 4 rfl ?_
            refine w_iload dX0_chooseSpots_50 1 rfl ?_
            refine w_aload_n dX0_chooseSpots_52 rfl 5 rfl ?_
            refine w_iload dX0_chooseSpots_53 1 rfl ?_
            refine w_callV (as := [vI v6_6]) (rest := [vI v6_6, vI v, vR (10, b, 0), vR (0, 0, 0)]) (c_X6_numberAt l G cy ad (d + 3) w v6_6 M_6 hI_6 hw) kV_X6_numberAt pnn_4 (Nat.le_of_ble_eq_true rfl) m_992 rfl rfl rfl (ic_6 hw) rfl rfl (by decide) (Nat.le_of_ble_eq_true rfl) dX0_chooseSpots_55 (fun r118_ M119_ q120_ => ?_)
            obtain ⟨rfl, h121_, hs122_⟩ := q120_
            refine w_callVv (as := [vR (10, b, 0), vI v, vI v6_6, vI r118_]) (rest := []) (c_X0_noteLearned l G cy ad d b v v6_6 r118_ M_6 hI_6 hb) kV_X0_noteLearned pnn_11 (Nat.le_of_ble_eq_true rfl) m_994 rfl rfl rfl ic_0 rfl rfl (by decide) (Nat.le_of_ble_eq_true rfl) dX0_chooseSpots_58 (fun M123_ q124_ => ?_)
            obtain ⟨hI126_, hF127_, h125_, hs129_⟩ := q124_
            have hF128_ := hF_6.tr hF127_ (fun c k => (fun h => h.elim (fun h => (Or.inr (Or.inr (Or.inl ⟨h.1, h.2.1, h.2.2⟩)))) (fun h => h.elim (fun h => (Or.inr (Or.inr (Or.inr (Or.inl ⟨h.1, h.2.1, h.2.2⟩))))) (fun h => h.elim (fun h => (Or.inr (Or.inr (Or.inr (Or.inr (Or.inl ⟨h.1, h.2.1, h.2.2⟩)))))) (fun h => h.elim (fun h => (Or.inr (Or.inr (Or.inr (Or.inr (Or.inr (Or.inl ⟨h.1, h.2.1, h.2.2⟩))))))) (fun h => h.elim (fun h => (Or.inr (Or.inr (Or.inr (Or.inr (Or.inr (Or.inr (Or.inl ⟨h.1, h.2.1, h.2.2⟩)))))))) (fun h => h.elim (fun h => (Or.inr (Or.inr (Or.inr (Or.inr (Or.inr (Or.inr (Or.inr (Or.inl ⟨h.1, h.2.1, h.2.2⟩))))))))) (fun h => h.elim))))))))
            refine w_iincB (j := 1) (f := fun z130_ => [(6, vI z130_), (5, vI z116_), (0, vR (0, 0, 0)), (1, vR (10, b, 0)), (2, vI v), (3, vR (6, 0, w)), (4, vI u)]) dX0_chooseSpots_61 rfl (by decide) (fun _ => rfl) (rfl : v6_6.toInt = v6_6.toInt) li_1 (lf_c_X9_isOf_0 v6_6 hv0_6 h54_ ) (fun z130_ h131_ => ?_)
            refine w_goto (tgt := 6) dX0_chooseSpots_64 (by decide) ?_
            refine w_loc (ls' := [(6, vI z130_), (5, vI z116_), (0, vR (0, 0, 0)), (1, vR (10, b, 0)), (2, vI v), (3, vR (6, 0, w)), (4, vI u)]) [0, 1, 2, 3, 4, 5, 6] rfl ?_
            exact ih_6 M123_ hI126_ hF128_ z130_ z116_ (lf_c_X5_takeFrom_3 v6_6 z130_ hv0_6 h131_ ) (RCH.tail hL_6 ⟨hv0_6, hI_6, hF_6, z2_, e3_, h4_, h5_, h54_, r103_, hs107_, (Or.inl ⟨hs112_, h111_, z114_, h115_, z116_, h117_, r118_, hs122_, M123_, hI126_, hF127_, hs129_, z130_, h131_, rfl, rfl, rfl⟩)⟩) (Nat.lt_of_lt_of_le (lf_c_X9_isOf_3 v6_6 z130_ h54_ h131_ ) (Nat.le_of_lt_succ hm_6))
          · refine w_if_eq (tgt := 61) dX0_chooseSpots_35 (by decide) li_0 (fun h132_ => ?_) (fun h9 => (absurd h9 (by decide)))
            refine w_iincB (j := 0) (f := fun z133_ => [(6, vI z133_), (5, vI v5_6), (0, vR (0, 0, 0)), (1, vR (10, b, 0)), (2, vI v), (3, vR (6, 0, w)), (4, vI u)]) dX0_chooseSpots_61 rfl (by decide) (fun _ => rfl) (rfl : v6_6.toInt = v6_6.toInt) li_1 (lf_c_X9_isOf_0 v6_6 hv0_6 h54_ ) (fun z133_ h134_ => ?_)
            refine w_goto (tgt := 6) dX0_chooseSpots_64 (by decide) ?_
            refine w_loc (ls' := [(6, vI z133_), (5, vI v5_6), (0, vR (0, 0, 0)), (1, vR (10, b, 0)), (2, vI v), (3, vR (6, 0, w)), (4, vI u)]) [0, 1, 2, 3, 4, 5, 6] rfl ?_
            exact ih_6 M_6 hI_6 hF_6 z133_ v5_6 (lf_c_X5_takeFrom_3 v6_6 z133_ hv0_6 h134_ ) (RCH.tail hL_6 ⟨hv0_6, hI_6, hF_6, z2_, e3_, h4_, h5_, h54_, r103_, hs107_, (Or.inr ⟨hs112_, z133_, h134_, rfl, rfl, rfl⟩)⟩) (Nat.lt_of_lt_of_le (lf_c_X9_isOf_3 v6_6 z133_ h54_ h134_ ) (Nat.le_of_lt_succ hm_6))
  exact lp1_ _ Mz hIz hFz 0 0 (lf_c_X5_takeFrom_5 ) RCH.refl (Nat.lt_succ_self _)
def ST_X0_servesAll_2 (v : Int32) (u : Int32) (Mz : mM) (v3_2 : Int32) (v3_2y : Int32) : Prop := (0 ≤ v3_2.toInt) ∧ (v3_2.toInt < u.toInt) ∧ (v3_2.toInt < 8) ∧ ∃ j6_ : Nat, ((j6_ : Int) = v3_2.toInt) ∧ ∃ z4_ : Int32, (z4_ = Mz.1 (23, 0, 0) j6_) ∧ ∃ z8_ : Int32, (z8_ = v &&& z4_) ∧ (¬ z8_.toInt = 0) ∧ ∃ z11_ : Int32, (z11_.toInt = v3_2.toInt + 1) ∧ v3_2y = z11_
def SP_X0_servesAll (v : Int32) (u : Int32) (Mz : mM) (r_ : Int32) : Prop := ∃ v3_2 : Int32, (0 ≤ v3_2.toInt) ∧ (RCH (fun x_ y_ => ST_X0_servesAll_2 v u Mz x_ y_) (0 : Int32) v3_2) ∧ (((u.toInt ≤ v3_2.toInt) ∧ r_ = 1) ∨ ((v3_2.toInt < u.toInt) ∧ (((8 ≤ v3_2.toInt) ∧ r_ = 1) ∨ ((v3_2.toInt < 8) ∧ ∃ j6_ : Nat, ((j6_ : Int) = v3_2.toInt) ∧ ∃ z4_ : Int32, (z4_ = Mz.1 (23, 0, 0) j6_) ∧ ∃ z8_ : Int32, (z8_ = v &&& z4_) ∧ (z8_.toInt = 0) ∧ r_ = 0))))
set_option maxHeartbeats 4000000 in
set_option maxRecDepth 100000 in
theorem c_X0_servesAll (l : Launch) (G : va_G) (cy : Nat → ClassId) (ad : rf → Nat) (d : Nat) (v : Int32) (u : Int32) (Mz : mM) (hIz : Inv Mz) : WP CC l G cy ad yX0_servesAll cX0_servesAll 4 (some .boolean) d 0 [(0, vR (0, 0, 0)), (1, vI v), (2, vI u)] [] Mz (fun r M' => Mz = M' ∧ ((0 ≤ r.toInt ∧ r.toInt ≤ 1)) ∧ SP_X0_servesAll v u Mz r) := by
  refine w_iconst (v := 0) dX0_servesAll_0 (by decide) ?_
  refine w_istore_n (ls' := [(3, vI 0), (0, vR (0, 0, 0)), (1, vI v), (2, vI u)]) dX0_servesAll_1 rfl (by decide) rfl ?_
  have lp1_ : ∀ (nn_2 : Nat) (v3_2 : Int32) (hv0_2 : 0 ≤ v3_2.toInt) (hL_2 : RCH (fun x_ y_ => ST_X0_servesAll_2 v u Mz x_ y_) (0 : Int32) v3_2), (2147483648 - v3_2.toInt).toNat < nn_2 → WP CC l G cy ad yX0_servesAll cX0_servesAll 4 (some .boolean) d 2 [(3, vI v3_2), (0, vR (0, 0, 0)), (1, vI v), (2, vI u)] [] Mz (fun r M' => Mz = M' ∧ ((0 ≤ r.toInt ∧ r.toInt ≤ 1)) ∧ SP_X0_servesAll v u Mz r) := by
    intro nn_2
    induction nn_2 with
    | zero => intro v3_2 hv0_2 hL_2 hm_2; exact absurd hm_2 (Nat.not_lt_zero _)
    | succ nn_2 ih_2 =>
      intro v3_2 hv0_2 hL_2 hm_2
      refine w_iload_n dX0_servesAll_2 rfl 0 rfl ?_
      refine w_iload_n dX0_servesAll_3 rfl 3 rfl ?_
      refine w_icmp_ge (tgt := 32) dX0_servesAll_4 (by decide) (rfl : v3_2.toInt = v3_2.toInt) (rfl : u.toInt = u.toInt) (fun h2_ => ?_) (fun h2_ => ?_)
      · refine w_iconst (v := 1) dX0_servesAll_32 (by decide) ?_
        exact w_zret rfl dX0_servesAll_33 ⟨by decide, by decide⟩ ⟨rfl, ⟨by decide, by decide⟩, ⟨v3_2, hv0_2, hL_2, (Or.inl ⟨h2_, rfl⟩)⟩⟩
      · refine w_iload_n dX0_servesAll_7 rfl 0 rfl ?_
        refine w_bipush (v := 8) dX0_servesAll_8 (by decide) ?_
        refine w_icmp_ge (tgt := 32) dX0_servesAll_10 (by decide) (rfl : v3_2.toInt = v3_2.toInt) li_8 (fun h3_ => ?_) (fun h3_ => ?_)
        · refine w_iconst (v := 1) dX0_servesAll_32 (by decide) ?_
          exact w_zret rfl dX0_servesAll_33 ⟨by decide, by decide⟩ ⟨rfl, ⟨by decide, by decide⟩, ⟨v3_2, hv0_2, hL_2, (Or.inr ⟨h2_, (Or.inl ⟨h3_, rfl⟩)⟩)⟩⟩
        · refine w_iload_n dX0_servesAll_13 rfl 2 rfl ?_
          refine w_aload_n dX0_servesAll_14 rfl 1 rfl ?_
          refine w_getR (c' := (23, 0, 0)) fl_RX0_23 rfl rfl ic_0 dX0_servesAll_15 rfl ?_
          refine w_iload_n dX0_servesAll_18 rfl 0 rfl ?_
          refine w_iald rfl rfl ic_23 (rfl : v3_2.toInt = v3_2.toInt) (lf_c_X9_kindAbove_0 v3_2 hv0_2 h3_ ) dX0_servesAll_19 (fun j6_ h7_ z4_ e5_ => ?_)
          refine w_iand dX0_servesAll_20 (fun z8_ h9_ => ?_)
          refine w_if_ne (tgt := 26) dX0_servesAll_21 (by decide) (rfl : z8_.toInt = z8_.toInt) (fun h10_ => ?_) (fun h10_ => ?_)
          · refine w_iincB (j := 0) (f := fun z11_ => [(3, vI z11_), (0, vR (0, 0, 0)), (1, vI v), (2, vI u)]) dX0_servesAll_26 rfl (by decide) (fun _ => rfl) (rfl : v3_2.toInt = v3_2.toInt) li_1 (lf_c_X9_isOf_0 v3_2 hv0_2 h3_ ) (fun z11_ h12_ => ?_)
            refine w_goto (tgt := 2) dX0_servesAll_29 (by decide) ?_
            refine w_loc (ls' := [(3, vI z11_), (0, vR (0, 0, 0)), (1, vI v), (2, vI u)]) [0, 1, 2, 3] rfl ?_
            exact ih_2 z11_ (lf_c_X5_takeFrom_3 v3_2 z11_ hv0_2 h12_ ) (RCH.tail hL_2 ⟨hv0_2, h2_, h3_, j6_, h7_, z4_, e5_, z8_, h9_, h10_, z11_, h12_, rfl⟩) (Nat.lt_of_lt_of_le (lf_c_X9_isOf_3 v3_2 z11_ h3_ h12_ ) (Nat.le_of_lt_succ hm_2))
          · refine w_iconst (v := 0) dX0_servesAll_24 (by decide) ?_
            exact w_zret rfl dX0_servesAll_25 ⟨by decide, by decide⟩ ⟨rfl, ⟨by decide, by decide⟩, ⟨v3_2, hv0_2, hL_2, (Or.inr ⟨h2_, (Or.inr ⟨h3_, j6_, h7_, z4_, e5_, z8_, h9_, h10_, rfl⟩)⟩)⟩⟩
  exact lp1_ _ 0 (lf_c_X5_takeFrom_5 ) RCH.refl (Nat.lt_succ_self _)
def S_c_X0_wouldHear (b : Nat) : rf → Nat → Prop := fun c k => (c.1 = 29 ∧ c.2.1 = b ∧ k = 0) ∨ (c.1 = 29 ∧ c.2.1 = b ∧ k = 1) ∨ (c.1 = 29 ∧ c.2.1 = b ∧ k = 2) ∨ (c.1 = 29 ∧ c.2.1 = b ∧ k = 3) ∨ (c.1 = 25 ∧ c.2.1 = b ∧ c.2.2 = 0) ∨ (c.1 = 25 ∧ c.2.1 = b ∧ c.2.2 = 1) ∨ False
def ST_X0_wouldHear_31 (b : Nat) (v : Int32) (u : Int32) (t : Int32) (Mz : mM) (j7_ : Nat) (v5_21 : Int32) (v6_31 : Int32) (M_31 : mM) (v6_31y : Int32) (M_31y : mM) : Prop := (1 ≤ v6_31.toInt) ∧ (Inv M_31) ∧ (FR (S_c_X0_wouldHear b) Mz M_31) ∧ ∃ r13_ : Int32, (SP_X9_reach b j7_ M_31 r13_) ∧ (0 ≤ r13_.toInt ∧ r13_.toInt ≤ 12) ∧ (v6_31.toInt ≤ r13_.toInt) ∧ ∃ r21_ : Int32, (SP_X7_cellFrom u v5_21 v6_31 M_31 r21_) ∧ (-1 ≤ r21_.toInt ∧ r21_.toInt ≤ 191) ∧ ∃ r26_ : Int32, (SP_X10_isFreeBut b v r21_ M_31 r26_) ∧ ((0 ≤ r26_.toInt ∧ r26_.toInt ≤ 1)) ∧ (¬ r26_.toInt = 0) ∧ (¬ r21_.toInt = t.toInt) ∧ ∃ z33_ : Int32, (z33_.toInt = v6_31.toInt + 1) ∧ v6_31y = z33_ ∧ M_31y = M_31
def ST_X0_wouldHear_21 (b : Nat) (v : Int32) (u : Int32) (t : Int32) (Mz : mM) (j7_ : Nat) (v5_21 : Int32) (M_21 : mM) (v5_21y : Int32) (M_21y : mM) : Prop := (0 ≤ v5_21.toInt) ∧ (v5_21.toInt ≤ 8) ∧ (Inv M_21) ∧ (FR (S_c_X0_wouldHear b) Mz M_21) ∧ (v5_21.toInt < 8) ∧ ∃ v6_31 : Int32, (1 ≤ v6_31.toInt) ∧ ∃ M_31 : mM, (RCH (fun x_ y_ => ST_X0_wouldHear_31 b v u t Mz j7_ v5_21 x_.1 x_.2 y_.1 y_.2) ((1 : Int32), M_21) (v6_31, M_31)) ∧ (Inv M_31) ∧ (FR (S_c_X0_wouldHear b) Mz M_31) ∧ ∃ r13_ : Int32, (SP_X9_reach b j7_ M_31 r13_) ∧ (0 ≤ r13_.toInt ∧ r13_.toInt ≤ 12) ∧ (((r13_.toInt < v6_31.toInt) ∧ ∃ z19_ : Int32, (z19_.toInt = v5_21.toInt + 1) ∧ v5_21y = z19_ ∧ M_21y = M_31) ∨ ((v6_31.toInt ≤ r13_.toInt) ∧ ∃ r21_ : Int32, (SP_X7_cellFrom u v5_21 v6_31 M_31 r21_) ∧ (-1 ≤ r21_.toInt ∧ r21_.toInt ≤ 191) ∧ ∃ r26_ : Int32, (SP_X10_isFreeBut b v r21_ M_31 r26_) ∧ ((0 ≤ r26_.toInt ∧ r26_.toInt ≤ 1)) ∧ (r26_.toInt = 0) ∧ ∃ z53_ : Int32, (z53_.toInt = v5_21.toInt + 1) ∧ v5_21y = z53_ ∧ M_21y = M_31))
def SP_X0_wouldHear (b : Nat) (v : Int32) (u : Int32) (t : Int32) (Mz : mM) (r_ : Int32) (M_ : mM) : Prop := (((SP_X10_hasWalker b v Mz (1 : Int32)) ∧ (0 ≤ v.toInt ∧ v.toInt ≤ 7) ∧ ∃ j7_ : Nat, ((j7_ : Int) = v.toInt) ∧ (j7_ < 8) ∧ ∃ v5_21 : Int32, (0 ≤ v5_21.toInt) ∧ (v5_21.toInt ≤ 8) ∧ ∃ M_21 : mM, (RCH (fun x_ y_ => ST_X0_wouldHear_21 b v u t Mz j7_ x_.1 x_.2 y_.1 y_.2) ((0 : Int32), Mz) (v5_21, M_21)) ∧ (Inv M_21) ∧ (FR (S_c_X0_wouldHear b) Mz M_21) ∧ (((8 ≤ v5_21.toInt) ∧ r_ = 0 ∧ M_ = M_21) ∨ ((v5_21.toInt < 8) ∧ ∃ v6_31 : Int32, (1 ≤ v6_31.toInt) ∧ ∃ M_31 : mM, (RCH (fun x_ y_ => ST_X0_wouldHear_31 b v u t Mz j7_ v5_21 x_.1 x_.2 y_.1 y_.2) ((1 : Int32), M_21) (v6_31, M_31)) ∧ (Inv M_31) ∧ (FR (S_c_X0_wouldHear b) Mz M_31) ∧ ∃ r13_ : Int32, (SP_X9_reach b j7_ M_31 r13_) ∧ (0 ≤ r13_.toInt ∧ r13_.toInt ≤ 12) ∧ (v6_31.toInt ≤ r13_.toInt) ∧ ∃ r21_ : Int32, (SP_X7_cellFrom u v5_21 v6_31 M_31 r21_) ∧ (-1 ≤ r21_.toInt ∧ r21_.toInt ≤ 191) ∧ ∃ r26_ : Int32, (SP_X10_isFreeBut b v r21_ M_31 r26_) ∧ ((0 ≤ r26_.toInt ∧ r26_.toInt ≤ 1)) ∧ (¬ r26_.toInt = 0) ∧ (r21_.toInt = t.toInt) ∧ ∃ r35_ : Int32, (SP_X9_ears b j7_ M_31 r35_) ∧ (0 ≤ r35_.toInt ∧ r35_.toInt ≤ 9) ∧ ∃ r40_ : Int32, (SP_X9_ownClick b j7_ M_31 r40_) ∧ ∃ M46_ : mM, (Inv M46_) ∧ (FR (S_c_X2_hears b) M_31 M46_) ∧ ∃ r45_ : Int32, (SP_X2_hears b r35_ 1 r40_ v6_31 v5_21 M_31 r45_ M46_) ∧ ((0 ≤ r45_.toInt ∧ r45_.toInt ≤ 1)) ∧ r_ = r45_ ∧ M_ = M46_))) ∨ ((SP_X10_hasWalker b v Mz (0 : Int32)) ∧ r_ = 0 ∧ M_ = Mz))
theorem lf_c_X0_wouldHear_5 (v6_31 : Int32) (r13_ : Int32) (hv0_31 : 1 ≤ v6_31.toInt) (h16_ : 0 ≤ r13_.toInt ∧ r13_.toInt ≤ 12) (h18_ : v6_31.toInt ≤ r13_.toInt) : -2147483648 ≤ v6_31.toInt + 1 ∧ v6_31.toInt + 1 < 2147483648 := by omega
theorem lf_c_X0_wouldHear_7 (v6_31 : Int32) (r13_ : Int32) (z33_ : Int32) (h16_ : 0 ≤ r13_.toInt ∧ r13_.toInt ≤ 12) (h18_ : v6_31.toInt ≤ r13_.toInt) (h34_ : z33_.toInt = v6_31.toInt + 1) : (2147483648 - z33_.toInt).toNat < (2147483648 - v6_31.toInt).toNat := by omega
set_option maxHeartbeats 4000000 in
set_option maxRecDepth 100000 in
theorem c_X0_wouldHear (l : Launch) (G : va_G) (cy : Nat → ClassId) (ad : rf → Nat) (d : Nat) (b : Nat) (v : Int32) (u : Int32) (t : Int32) (Mz : mM) (hIz : Inv Mz) (hb : b < 3) : WP CC l G cy ad yX0_wouldHear cX0_wouldHear 8 (some .boolean) (d + 3) 0 [(0, vR (10, b, 0)), (1, vI v), (2, vI u), (3, vI t)] [] Mz (fun r M' => Inv M' ∧ FR (S_c_X0_wouldHear b) Mz M' ∧ ((0 ≤ r.toInt ∧ r.toInt ≤ 1)) ∧ SP_X0_wouldHear b v u t Mz r M') := by
  have hFz : FR (S_c_X0_wouldHear b) Mz Mz := FR.self
  refine w_aload_n dX0_wouldHear_0 rfl 0 rfl ?_
  refine w_iload_n dX0_wouldHear_1 rfl 1 rfl ?_
  refine w_callV (as := [vI v]) (rest := []) (c_X10_hasWalker l G cy ad (d + 2) b v Mz hIz hb) kV_X10_hasWalker pnn_7 (Nat.le_of_ble_eq_true rfl) m_998 rfl rfl rfl (ic_10 hb) rfl rfl (by decide) (Nat.le_of_ble_eq_true rfl) dX0_wouldHear_2 (fun r1_ M2_ q3_ => ?_)
  obtain ⟨rfl, h4_, hs5_⟩ := q3_
  rcases h4_ with ⟨rfl, h4_⟩ | rfl
  · refine w_if_ne (tgt := 10) dX0_wouldHear_5 (by decide) li_1 (fun h6_ => ?_) (fun h9 => (absurd h9 (by decide)))
    refine w_aload_n dX0_wouldHear_10 rfl 0 rfl ?_
    refine w_getR (c' := (42, b, 0)) fl_RX0_97 rfl rfl (ic_10 hb) dX0_wouldHear_11 rfl ?_
    refine w_iload_n dX0_wouldHear_14 rfl 1 rfl ?_
    refine w_aald rfl rfl rfl (fun _ => rfl) (ic_42 hb) (rfl : v.toInt = v.toInt) (lf_c_X7_cellFrom_2 v h4_ ) dX0_wouldHear_15 (fun j7_ h8_ h9_ => ?_)
    refine w_astore (ls' := [(4, vR (9, b, j7_)), (0, vR (10, b, 0)), (1, vI v), (2, vI u), (3, vI t)]) dX0_wouldHear_16 (by decide) rfl ?_
    refine w_iconst (v := 0) dX0_wouldHear_18 (by decide) ?_
    refine w_istore (ls' := [(5, vI 0), (4, vR (9, b, j7_)), (0, vR (10, b, 0)), (1, vI v), (2, vI u), (3, vI t)]) dX0_wouldHear_19 (by decide) rfl ?_
    have lp10_ : ∀ (nn_21 : Nat) (M_21 : mM) (hI_21 : Inv M_21) (hF_21 : FR (S_c_X0_wouldHear b) Mz M_21) (v5_21 : Int32) (hv0_21 : 0 ≤ v5_21.toInt) (hv1_21 : v5_21.toInt ≤ 8) (hL_21 : RCH (fun x_ y_ => ST_X0_wouldHear_21 b v u t Mz j7_ x_.1 x_.2 y_.1 y_.2) ((0 : Int32), Mz) (v5_21, M_21)), (2147483648 - v5_21.toInt).toNat < nn_21 → WP CC l G cy ad yX0_wouldHear cX0_wouldHear 8 (some .boolean) (d + 3) 21 [(5, vI v5_21), (4, vR (9, b, j7_)), (0, vR (10, b, 0)), (1, vI v), (2, vI u), (3, vI t)] [] M_21 (fun r M' => Inv M' ∧ FR (S_c_X0_wouldHear b) Mz M' ∧ ((0 ≤ r.toInt ∧ r.toInt ≤ 1)) ∧ SP_X0_wouldHear b v u t Mz r M') := by
      intro nn_21
      induction nn_21 with
      | zero => intro M_21 hI_21 hF_21 v5_21 hv0_21 hv1_21 hL_21 hm_21; exact absurd hm_21 (Nat.not_lt_zero _)
      | succ nn_21 ih_21 =>
        intro M_21 hI_21 hF_21 v5_21 hv0_21 hv1_21 hL_21 hm_21
        refine w_iload dX0_wouldHear_21 0 rfl ?_
        refine w_bipush (v := 8) dX0_wouldHear_23 (by decide) ?_
        refine w_icmp_ge (tgt := 105) dX0_wouldHear_25 (by decide) (rfl : v5_21.toInt = v5_21.toInt) li_8 (fun h11_ => ?_) (fun h11_ => ?_)
        · refine w_iconst (v := 0) dX0_wouldHear_105 (by decide) ?_
          exact w_zret rfl dX0_wouldHear_106 ⟨by decide, by decide⟩ ⟨hI_21, hF_21, ⟨by decide, by decide⟩, (Or.inl ⟨hs5_, h4_, j7_, h8_, h9_, v5_21, hv0_21, hv1_21, M_21, hL_21, hI_21, hF_21, (Or.inl ⟨h11_, rfl, rfl⟩)⟩)⟩
        · refine w_iconst (v := 1) dX0_wouldHear_28 (by decide) ?_
          refine w_istore (ls' := [(6, vI 1), (5, vI v5_21), (4, vR (9, b, j7_)), (0, vR (10, b, 0)), (1, vI v), (2, vI u), (3, vI t)]) dX0_wouldHear_29 (by decide) rfl ?_
          have lp12_ : ∀ (nn_31 : Nat) (M_31 : mM) (hI_31 : Inv M_31) (hF_31 : FR (S_c_X0_wouldHear b) Mz M_31) (v6_31 : Int32) (hv0_31 : 1 ≤ v6_31.toInt) (hL_31 : RCH (fun x_ y_ => ST_X0_wouldHear_31 b v u t Mz j7_ v5_21 x_.1 x_.2 y_.1 y_.2) ((1 : Int32), M_21) (v6_31, M_31)), (2147483648 - v6_31.toInt).toNat < nn_31 → WP CC l G cy ad yX0_wouldHear cX0_wouldHear 8 (some .boolean) (d + 3) 31 [(6, vI v6_31), (5, vI v5_21), (4, vR (9, b, j7_)), (0, vR (10, b, 0)), (1, vI v), (2, vI u), (3, vI t)] [] M_31 (fun r M' => Inv M' ∧ FR (S_c_X0_wouldHear b) Mz M' ∧ ((0 ≤ r.toInt ∧ r.toInt ≤ 1)) ∧ SP_X0_wouldHear b v u t Mz r M') := by
            intro nn_31
            induction nn_31 with
            | zero => intro M_31 hI_31 hF_31 v6_31 hv0_31 hL_31 hm_31; exact absurd hm_31 (Nat.not_lt_zero _)
            | succ nn_31 ih_31 =>
              intro M_31 hI_31 hF_31 v6_31 hv0_31 hL_31 hm_31
              refine w_iload dX0_wouldHear_31 0 rfl ?_
              refine w_aload dX0_wouldHear_33 2 rfl ?_
              refine w_callV (as := []) (rest := [vI v6_31]) (c_X9_reach l G cy ad (d + 2) b j7_ M_31 hI_31 hb h9_) kV_X9_reach pnn_3 (Nat.le_of_ble_eq_true rfl) m_1166 rfl rfl rfl (ic_9 hb h9_) rfl rfl (by decide) (Nat.le_of_ble_eq_true rfl) dX0_wouldHear_35 (fun r13_ M14_ q15_ => ?_)
              obtain ⟨rfl, h16_, hs17_⟩ := q15_
              refine w_icmp_gt (tgt := 99) dX0_wouldHear_38 (by decide) (rfl : v6_31.toInt = v6_31.toInt) (rfl : r13_.toInt = r13_.toInt) (fun h18_ => ?_) (fun h18_ => ?_)
              · refine w_iincB (j := 1) (f := fun z19_ => [(5, vI z19_), (6, vI v6_31), (4, vR (9, b, j7_)), (0, vR (10, b, 0)), (1, vI v), (2, vI u), (3, vI t)]) dX0_wouldHear_99 rfl (by decide) (fun _ => rfl) (rfl : v5_21.toInt = v5_21.toInt) li_1 (lf_c_X9_isOf_0 v5_21 hv0_21 h11_ ) (fun z19_ h20_ => ?_)
                refine w_goto (tgt := 21) dX0_wouldHear_102 (by decide) ?_
                refine w_loc (ls' := [(5, vI z19_), (4, vR (9, b, j7_)), (0, vR (10, b, 0)), (1, vI v), (2, vI u), (3, vI t)]) [0, 2, 3, 4, 5, 6] rfl ?_
                exact ih_21 M_31 hI_31 hF_31 z19_ (lf_c_X5_takeFrom_3 v5_21 z19_ hv0_21 h20_ ) (lf_c_X9_isOf_2 v5_21 z19_ h11_ h20_ ) (RCH.tail hL_21 ⟨hv0_21, hv1_21, hI_21, hF_21, h11_, v6_31, hv0_31, M_31, hL_31, hI_31, hF_31, r13_, hs17_, h16_, (Or.inl ⟨h18_, z19_, h20_, rfl, rfl⟩)⟩) (Nat.lt_of_lt_of_le (lf_c_X9_isOf_3 v5_21 z19_ h11_ h20_ ) (Nat.le_of_lt_succ hm_21))
              · refine w_iload_n dX0_wouldHear_41 rfl 5 rfl ?_
                refine w_iload dX0_wouldHear_42 1 rfl ?_
                refine w_iload dX0_wouldHear_44 0 rfl ?_
                refine w_callS (as := [vI u, vI v5_21, vI v6_31]) (rest := []) (c_X7_cellFrom l G cy ad (d + 1) u v5_21 v6_31 M_31 hI_31) kS_X7_cellFrom pnn_1 (Nat.le_of_ble_eq_true rfl) m_1000 rfl rfl (by decide) (Nat.le_of_ble_eq_true rfl) dX0_wouldHear_46 (fun r21_ M22_ q23_ => ?_)
                obtain ⟨rfl, h24_, hs25_⟩ := q23_
                refine w_istore (ls' := [(7, vI r21_), (6, vI v6_31), (5, vI v5_21), (4, vR (9, b, j7_)), (0, vR (10, b, 0)), (1, vI v), (2, vI u), (3, vI t)]) dX0_wouldHear_49 (by decide) rfl ?_
                refine w_aload_n dX0_wouldHear_51 rfl 4 rfl ?_
                refine w_iload_n dX0_wouldHear_52 rfl 5 rfl ?_
                refine w_iload dX0_wouldHear_53 0 rfl ?_
                refine w_callV (as := [vI v, vI r21_]) (rest := []) (c_X10_isFreeBut l G cy ad (d + 2) b v r21_ M_31 hI_31 hb) kV_X10_isFreeBut pnn_7 (Nat.le_of_ble_eq_true rfl) m_1167 rfl rfl rfl (ic_10 hb) rfl rfl (by decide) (Nat.le_of_ble_eq_true rfl) dX0_wouldHear_55 (fun r26_ M27_ q28_ => ?_)
                obtain ⟨rfl, h29_, hs30_⟩ := q28_
                refine w_if_ne (tgt := 64) dX0_wouldHear_58 (by decide) (rfl : r26_.toInt = r26_.toInt) (fun h31_ => ?_) (fun h31_ => ?_)
                · refine w_iload dX0_wouldHear_64 0 rfl ?_
                  refine w_iload_n dX0_wouldHear_66 rfl 7 rfl ?_
                  refine w_icmp_ne (tgt := 93) dX0_wouldHear_67 (by decide) (rfl : r21_.toInt = r21_.toInt) (rfl : t.toInt = t.toInt) (fun h32_ => ?_) (fun h32_ => ?_)
                  · refine w_iincB (j := 1) (f := fun z33_ => [(6, vI z33_), (7, vI r21_), (5, vI v5_21), (4, vR (9, b, j7_)), (0, vR (10, b, 0)), (1, vI v), (2, vI u), (3, vI t)]) dX0_wouldHear_93 rfl (by decide) (fun _ => rfl) (rfl : v6_31.toInt = v6_31.toInt) li_1 (lf_c_X0_wouldHear_5 v6_31 r13_ hv0_31 h16_ h18_ ) (fun z33_ h34_ => ?_)
                    refine w_goto (tgt := 31) dX0_wouldHear_96 (by decide) ?_
                    refine w_loc (ls' := [(6, vI z33_), (5, vI v5_21), (4, vR (9, b, j7_)), (0, vR (10, b, 0)), (1, vI v), (2, vI u), (3, vI t)]) [0, 2, 3, 4, 5, 6, 7] rfl ?_
                    exact ih_31 M_31 hI_31 hF_31 z33_ (lf_c_X9_yardsToFull_1 v6_31 z33_ hv0_31 h34_ ) (RCH.tail hL_31 ⟨hv0_31, hI_31, hF_31, r13_, hs17_, h16_, h18_, r21_, hs25_, h24_, r26_, hs30_, h29_, h31_, h32_, z33_, h34_, rfl, rfl⟩) (Nat.lt_of_lt_of_le (lf_c_X0_wouldHear_7 v6_31 r13_ z33_ h16_ h18_ h34_ ) (Nat.le_of_lt_succ hm_31))
                  · refine w_aload_n dX0_wouldHear_70 rfl 4 rfl ?_
                    refine w_getR (c' := (2, b, 0)) fl_RX0_126 rfl rfl (ic_10 hb) dX0_wouldHear_71 rfl ?_
                    refine w_aload dX0_wouldHear_74 3 rfl ?_
                    refine w_callV (as := []) (rest := [vR (2, b, 0)]) (c_X9_ears l G cy ad (d + 2) b j7_ M_31 hI_31 hb h9_) kV_X9_ears pnn_3 (Nat.le_of_ble_eq_true rfl) m_1168 rfl rfl rfl (ic_9 hb h9_) rfl rfl (by decide) (Nat.le_of_ble_eq_true rfl) dX0_wouldHear_76 (fun r35_ M36_ q37_ => ?_)
                    obtain ⟨rfl, h38_, hs39_⟩ := q37_
                    refine w_iconst (v := 1) dX0_wouldHear_79 (by decide) ?_
                    refine w_aload dX0_wouldHear_80 3 rfl ?_
                    refine w_callV (as := []) (rest := [vI 1, vI r35_, vR (2, b, 0)]) (c_X9_ownClick l G cy ad (d + 2) b j7_ M_31 hI_31 hb h9_) kV_X9_ownClick pnn_3 (Nat.le_of_ble_eq_true rfl) m_1169 rfl rfl rfl (ic_9 hb h9_) rfl rfl (by decide) (Nat.le_of_ble_eq_true rfl) dX0_wouldHear_82 (fun r40_ M41_ q42_ => ?_)
                    obtain ⟨rfl, h43_, hs44_⟩ := q42_
                    refine w_iload dX0_wouldHear_85 1 rfl ?_
                    refine w_iload dX0_wouldHear_87 2 rfl ?_
                    refine w_callV (as := [vI r35_, vI 1, vI r40_, vI v6_31, vI v5_21]) (rest := []) (c_X2_hears l G cy ad d b r35_ 1 r40_ v6_31 v5_21 M_31 hI_31 hb) kV_X2_hears pnn_5 (Nat.le_of_ble_eq_true rfl) m_1170 rfl rfl rfl (ic_2 hb) rfl rfl (by decide) (Nat.le_of_ble_eq_true rfl) dX0_wouldHear_89 (fun r45_ M46_ q47_ => ?_)
                    obtain ⟨hI49_, hF50_, h48_, hs52_⟩ := q47_
                    have hF51_ := hF_31.tr hF50_ (fun c k => (fun h => h.elim (fun h => (Or.inl ⟨h.1, h.2.1, h.2.2⟩)) (fun h => h.elim (fun h => (Or.inr (Or.inl ⟨h.1, h.2.1, h.2.2⟩))) (fun h => h.elim (fun h => (Or.inr (Or.inr (Or.inl ⟨h.1, h.2.1, h.2.2⟩)))) (fun h => h.elim (fun h => (Or.inr (Or.inr (Or.inr (Or.inl ⟨h.1, h.2.1, h.2.2⟩))))) (fun h => h.elim (fun h => (Or.inr (Or.inr (Or.inr (Or.inr (Or.inl ⟨h.1, h.2.1, h.2.2⟩)))))) (fun h => h.elim (fun h => (Or.inr (Or.inr (Or.inr (Or.inr (Or.inr (Or.inl ⟨h.1, h.2.1, h.2.2⟩))))))) (fun h => h.elim))))))))
                    exact w_zret rfl dX0_wouldHear_92 (lf_c_X2_hears_0 r45_ h48_ ) ⟨hI49_, hF51_, (lf_c_X2_hears_0 r45_ h48_ ), (Or.inl ⟨hs5_, h4_, j7_, h8_, h9_, v5_21, hv0_21, hv1_21, M_21, hL_21, hI_21, hF_21, (Or.inr ⟨h11_, v6_31, hv0_31, M_31, hL_31, hI_31, hF_31, r13_, hs17_, h16_, h18_, r21_, hs25_, h24_, r26_, hs30_, h29_, h31_, h32_, r35_, hs39_, h38_, r40_, hs44_, M46_, hI49_, hF50_, r45_, hs52_, h48_, rfl, rfl⟩)⟩)⟩
                · refine w_goto (tgt := 99) dX0_wouldHear_61 (by decide) ?_
                  refine w_iincB (j := 2) (f := fun z53_ => [(5, vI z53_), (7, vI r21_), (6, vI v6_31), (4, vR (9, b, j7_)), (0, vR (10, b, 0)), (1, vI v), (2, vI u), (3, vI t)]) dX0_wouldHear_99 rfl (by decide) (fun _ => rfl) (rfl : v5_21.toInt = v5_21.toInt) li_1 (lf_c_X9_isOf_0 v5_21 hv0_21 h11_ ) (fun z53_ h54_ => ?_)
                  refine w_goto (tgt := 21) dX0_wouldHear_102 (by decide) ?_
                  refine w_loc (ls' := [(5, vI z53_), (4, vR (9, b, j7_)), (0, vR (10, b, 0)), (1, vI v), (2, vI u), (3, vI t)]) [0, 3, 4, 5, 6, 7] rfl ?_
                  exact ih_21 M_31 hI_31 hF_31 z53_ (lf_c_X5_takeFrom_3 v5_21 z53_ hv0_21 h54_ ) (lf_c_X9_isOf_2 v5_21 z53_ h11_ h54_ ) (RCH.tail hL_21 ⟨hv0_21, hv1_21, hI_21, hF_21, h11_, v6_31, hv0_31, M_31, hL_31, hI_31, hF_31, r13_, hs17_, h16_, (Or.inr ⟨h18_, r21_, hs25_, h24_, r26_, hs30_, h29_, h31_, z53_, h54_, rfl, rfl⟩)⟩) (Nat.lt_of_lt_of_le (lf_c_X9_isOf_3 v5_21 z53_ h11_ h54_ ) (Nat.le_of_lt_succ hm_21))
          exact lp12_ _ M_21 hI_21 hF_21 1 (lf_c_X9_yardsToFull_4 ) RCH.refl (Nat.lt_succ_self _)
    exact lp10_ _ Mz hIz hFz 0 (lf_c_X5_takeFrom_5 ) (lf_c_X9_isOf_5 ) RCH.refl (Nat.lt_succ_self _)
  · refine w_if_ne (tgt := 10) dX0_wouldHear_5 (by decide) li_0 (fun h9 => (absurd h9 (by decide))) (fun h55_ => ?_)
    refine w_iconst (v := 0) dX0_wouldHear_8 (by decide) ?_
    exact w_zret rfl dX0_wouldHear_9 ⟨by decide, by decide⟩ ⟨hIz, hFz, ⟨by decide, by decide⟩, (Or.inr ⟨hs5_, rfl, rfl⟩)⟩
def S_c_X0_choosePosts (b : Nat) (w : Nat) (w2 : Nat) : rf → Nat → Prop := fun c k => (c.1 = 0 ∧ c.2.1 = 0 ∧ k = 5) ∨ (c.1 = 23 ∧ c.2.1 = 0) ∨ (c.1 = 29 ∧ c.2.1 = b ∧ k = 0) ∨ (c.1 = 29 ∧ c.2.1 = b ∧ k = 1) ∨ (c.1 = 29 ∧ c.2.1 = b ∧ k = 2) ∨ (c.1 = 29 ∧ c.2.1 = b ∧ k = 3) ∨ (c.1 = 25 ∧ c.2.1 = b ∧ c.2.2 = 0) ∨ (c.1 = 25 ∧ c.2.1 = b ∧ c.2.2 = 1) ∨ False
def ST_X0_choosePosts_102 (b : Nat) (w : Nat) (w2 : Nat) (Mz : mM) (v5_102 : Int32) (M_102 : mM) (v5_102y : Int32) (M_102y : mM) : Prop := (1 ≤ v5_102.toInt) ∧ (v5_102.toInt ≤ 256) ∧ (Inv M_102) ∧ (FR (S_c_X0_choosePosts b w w2) Mz M_102) ∧ (v5_102.toInt < 256) ∧ ∃ z15_ : Int32, (z15_ = M_102.1 (0, 0, 0) 5) ∧ (((z15_.toInt = 0) ∧ ∃ z19_ : Int32, (z19_ = M_102.1 (6, 0, w) 1) ∧ (0 ≤ z19_.toInt ∧ z19_.toInt ≤ 24) ∧ ∃ z22_ : Int32, (z22_ = (1 : Int32) <<< (z19_ &&& 31)) ∧ (((z22_.toInt ≤ v5_102.toInt) ∧ ∃ z25_ : Int32, (z25_.toInt = v5_102.toInt + 1) ∧ v5_102y = z25_ ∧ M_102y = M_102) ∨ ((v5_102.toInt < z22_.toInt) ∧ ∃ z27_ : Int32, (z27_ = M_102.1 (6, 0, w2) 1) ∧ (0 ≤ z27_.toInt ∧ z27_.toInt ≤ 24) ∧ ∃ r30_ : Int32, (SP_X0_servesAll v5_102 z27_ M_102 r30_) ∧ ((0 ≤ r30_.toInt ∧ r30_.toInt ≤ 1)) ∧ (((r30_.toInt = 0) ∧ ∃ z36_ : Int32, (z36_.toInt = v5_102.toInt + 1) ∧ v5_102y = z36_ ∧ M_102y = M_102) ∨ ((¬ r30_.toInt = 0) ∧ ∃ M38_ : mM, (M38_ = up M_102 (0, 0, 0) 5 v5_102) ∧ ∃ z42_ : Int32, (z42_.toInt = v5_102.toInt + 1) ∧ v5_102y = z42_ ∧ M_102y = M38_))))) ∨ ((¬ z15_.toInt = 0) ∧ ∃ r44_ : Int32, (SP_JI_bitCount v5_102 M_102 r44_) ∧ ∃ r51_ : Int32, (SP_JI_bitCount z15_ M_102 r51_) ∧ (((r51_.toInt ≤ r44_.toInt) ∧ ∃ z58_ : Int32, (z58_.toInt = v5_102.toInt + 1) ∧ v5_102y = z58_ ∧ M_102y = M_102) ∨ ((r44_.toInt < r51_.toInt) ∧ ∃ z61_ : Int32, (z61_ = M_102.1 (6, 0, w) 1) ∧ (0 ≤ z61_.toInt ∧ z61_.toInt ≤ 24) ∧ ∃ z64_ : Int32, (z64_ = (1 : Int32) <<< (z61_ &&& 31)) ∧ (((z64_.toInt ≤ v5_102.toInt) ∧ ∃ z67_ : Int32, (z67_.toInt = v5_102.toInt + 1) ∧ v5_102y = z67_ ∧ M_102y = M_102) ∨ ((v5_102.toInt < z64_.toInt) ∧ ∃ z69_ : Int32, (z69_ = M_102.1 (6, 0, w2) 1) ∧ (0 ≤ z69_.toInt ∧ z69_.toInt ≤ 24) ∧ ∃ r72_ : Int32, (SP_X0_servesAll v5_102 z69_ M_102 r72_) ∧ ((0 ≤ r72_.toInt ∧ r72_.toInt ≤ 1)) ∧ (((r72_.toInt = 0) ∧ ∃ z78_ : Int32, (z78_.toInt = v5_102.toInt + 1) ∧ v5_102y = z78_ ∧ M_102y = M_102) ∨ ((¬ r72_.toInt = 0) ∧ ∃ M80_ : mM, (M80_ = up M_102 (0, 0, 0) 5 v5_102) ∧ ∃ z84_ : Int32, (z84_.toInt = v5_102.toInt + 1) ∧ v5_102y = z84_ ∧ M_102y = M80_))))))))
def ST_X0_choosePosts_102b (b : Nat) (w : Nat) (w2 : Nat) (Mz : mM) (v5_102 : Int32) (M_102 : mM) (v5_102y : Int32) (M_102y : mM) : Prop := (1 ≤ v5_102.toInt) ∧ (v5_102.toInt ≤ 256) ∧ (Inv M_102) ∧ (FR (S_c_X0_choosePosts b w w2) Mz M_102) ∧ (v5_102.toInt < 256) ∧ ∃ z96_ : Int32, (z96_ = M_102.1 (0, 0, 0) 5) ∧ (((z96_.toInt = 0) ∧ ∃ z100_ : Int32, (z100_ = M_102.1 (6, 0, w) 1) ∧ (0 ≤ z100_.toInt ∧ z100_.toInt ≤ 24) ∧ ∃ z103_ : Int32, (z103_ = (1 : Int32) <<< (z100_ &&& 31)) ∧ (((z103_.toInt ≤ v5_102.toInt) ∧ ∃ z106_ : Int32, (z106_.toInt = v5_102.toInt + 1) ∧ v5_102y = z106_ ∧ M_102y = M_102) ∨ ((v5_102.toInt < z103_.toInt) ∧ ∃ z108_ : Int32, (z108_ = M_102.1 (6, 0, w2) 1) ∧ (0 ≤ z108_.toInt ∧ z108_.toInt ≤ 24) ∧ ∃ r111_ : Int32, (SP_X0_servesAll v5_102 z108_ M_102 r111_) ∧ ((0 ≤ r111_.toInt ∧ r111_.toInt ≤ 1)) ∧ (((r111_.toInt = 0) ∧ ∃ z117_ : Int32, (z117_.toInt = v5_102.toInt + 1) ∧ v5_102y = z117_ ∧ M_102y = M_102) ∨ ((¬ r111_.toInt = 0) ∧ ∃ M119_ : mM, (M119_ = up M_102 (0, 0, 0) 5 v5_102) ∧ ∃ z123_ : Int32, (z123_.toInt = v5_102.toInt + 1) ∧ v5_102y = z123_ ∧ M_102y = M119_))))) ∨ ((¬ z96_.toInt = 0) ∧ ∃ r125_ : Int32, (SP_JI_bitCount v5_102 M_102 r125_) ∧ ∃ r132_ : Int32, (SP_JI_bitCount z96_ M_102 r132_) ∧ (((r132_.toInt ≤ r125_.toInt) ∧ ∃ z139_ : Int32, (z139_.toInt = v5_102.toInt + 1) ∧ v5_102y = z139_ ∧ M_102y = M_102) ∨ ((r125_.toInt < r132_.toInt) ∧ ∃ z142_ : Int32, (z142_ = M_102.1 (6, 0, w) 1) ∧ (0 ≤ z142_.toInt ∧ z142_.toInt ≤ 24) ∧ ∃ z145_ : Int32, (z145_ = (1 : Int32) <<< (z142_ &&& 31)) ∧ (((z145_.toInt ≤ v5_102.toInt) ∧ ∃ z148_ : Int32, (z148_.toInt = v5_102.toInt + 1) ∧ v5_102y = z148_ ∧ M_102y = M_102) ∨ ((v5_102.toInt < z145_.toInt) ∧ ∃ z150_ : Int32, (z150_ = M_102.1 (6, 0, w2) 1) ∧ (0 ≤ z150_.toInt ∧ z150_.toInt ≤ 24) ∧ ∃ r153_ : Int32, (SP_X0_servesAll v5_102 z150_ M_102 r153_) ∧ ((0 ≤ r153_.toInt ∧ r153_.toInt ≤ 1)) ∧ (((r153_.toInt = 0) ∧ ∃ z159_ : Int32, (z159_.toInt = v5_102.toInt + 1) ∧ v5_102y = z159_ ∧ M_102y = M_102) ∨ ((¬ r153_.toInt = 0) ∧ ∃ M161_ : mM, (M161_ = up M_102 (0, 0, 0) 5 v5_102) ∧ ∃ z165_ : Int32, (z165_.toInt = v5_102.toInt + 1) ∧ v5_102y = z165_ ∧ M_102y = M161_))))))))
def ST_X0_choosePosts_31 (b : Nat) (w : Nat) (w2 : Nat) (v : Int32) (Mz : mM) (v5_3 : Int32) (v6_31 : Int32) (M_31 : mM) (v6_31y : Int32) (M_31y : mM) : Prop := (0 ≤ v6_31.toInt) ∧ (Inv M_31) ∧ (FR (S_c_X0_choosePosts b w w2) Mz M_31) ∧ ∃ z174_ : Int32, (z174_ = M_31.1 (6, 0, w) 1) ∧ (0 ≤ z174_.toInt ∧ z174_.toInt ≤ 24) ∧ (v6_31.toInt < z174_.toInt) ∧ (v6_31.toInt < 8) ∧ ∃ r183_ : Int32, (SP_X6_numberAt w2 v5_3 M_31 r183_) ∧ ∃ r188_ : Int32, (SP_X6_numberAt w v6_31 M_31 r188_) ∧ ∃ M194_ : mM, (Inv M194_) ∧ (FR (S_c_X0_wouldHear b) M_31 M194_) ∧ ∃ r193_ : Int32, (SP_X0_wouldHear b v r183_ r188_ M_31 r193_ M194_) ∧ ((0 ≤ r193_.toInt ∧ r193_.toInt ≤ 1)) ∧ (((r193_.toInt = 0) ∧ ∃ z202_ : Int32, (z202_.toInt = v6_31.toInt + 1) ∧ v6_31y = z202_ ∧ M_31y = M194_) ∨ ((¬ r193_.toInt = 0) ∧ ∃ j206_ : Nat, ((j206_ : Int) = v5_3.toInt) ∧ ∃ z204_ : Int32, (z204_ = M194_.1 (23, 0, 0) j206_) ∧ ∃ z208_ : Int32, (z208_ = (1 : Int32) <<< (v6_31 &&& 31)) ∧ ∃ z210_ : Int32, (z210_ = z204_ ||| z208_) ∧ ∃ j214_ : Nat, ((j214_ : Int) = v5_3.toInt) ∧ ∃ M212_ : mM, (M212_ = up M194_ (23, 0, 0) j214_ z210_) ∧ ∃ z218_ : Int32, (z218_.toInt = v6_31.toInt + 1) ∧ v6_31y = z218_ ∧ M_31y = M212_))
def ST_X0_choosePosts_3 (b : Nat) (w : Nat) (w2 : Nat) (v : Int32) (Mz : mM) (v5_3 : Int32) (M_3 : mM) (v5_3y : Int32) (M_3y : mM) : Prop := (0 ≤ v5_3.toInt) ∧ (Inv M_3) ∧ (FR (S_c_X0_choosePosts b w w2) Mz M_3) ∧ ∃ z2_ : Int32, (z2_ = M_3.1 (6, 0, w2) 1) ∧ (0 ≤ z2_.toInt ∧ z2_.toInt ≤ 24) ∧ (v5_3.toInt < z2_.toInt) ∧ (v5_3.toInt < 8) ∧ ∃ j169_ : Nat, ((j169_ : Int) = v5_3.toInt) ∧ ∃ M167_ : mM, (M167_ = up M_3 (23, 0, 0) j169_ 0) ∧ ∃ v6_31 : Int32, (0 ≤ v6_31.toInt) ∧ ∃ M_31 : mM, (RCH (fun x_ y_ => ST_X0_choosePosts_31 b w w2 v Mz v5_3 x_.1 x_.2 y_.1 y_.2) ((0 : Int32), M167_) (v6_31, M_31)) ∧ (Inv M_31) ∧ (FR (S_c_X0_choosePosts b w w2) Mz M_31) ∧ ∃ z174_ : Int32, (z174_ = M_31.1 (6, 0, w) 1) ∧ (0 ≤ z174_.toInt ∧ z174_.toInt ≤ 24) ∧ (((z174_.toInt ≤ v6_31.toInt) ∧ ∃ z178_ : Int32, (z178_.toInt = v5_3.toInt + 1) ∧ v5_3y = z178_ ∧ M_3y = M_31) ∨ ((v6_31.toInt < z174_.toInt) ∧ (8 ≤ v6_31.toInt) ∧ ∃ z181_ : Int32, (z181_.toInt = v5_3.toInt + 1) ∧ v5_3y = z181_ ∧ M_3y = M_31))
def SP_X0_choosePosts (b : Nat) (w : Nat) (w2 : Nat) (v : Int32) (Mz : mM) (r_ : Int32) (M_ : mM) : Prop := ∃ v5_3 : Int32, (0 ≤ v5_3.toInt) ∧ ∃ M_3 : mM, (RCH (fun x_ y_ => ST_X0_choosePosts_3 b w w2 v Mz x_.1 x_.2 y_.1 y_.2) ((0 : Int32), Mz) (v5_3, M_3)) ∧ (Inv M_3) ∧ (FR (S_c_X0_choosePosts b w w2) Mz M_3) ∧ ∃ z2_ : Int32, (z2_ = M_3.1 (6, 0, w2) 1) ∧ (0 ≤ z2_.toInt ∧ z2_.toInt ≤ 24) ∧ (((z2_.toInt ≤ v5_3.toInt) ∧ ∃ M6_ : mM, (M6_ = up M_3 (0, 0, 0) 5 0) ∧ ∃ v5_102 : Int32, (1 ≤ v5_102.toInt) ∧ (v5_102.toInt ≤ 256) ∧ ∃ M_102 : mM, (RCH (fun x_ y_ => ST_X0_choosePosts_102 b w w2 Mz x_.1 x_.2 y_.1 y_.2) ((1 : Int32), M6_) (v5_102, M_102)) ∧ (Inv M_102) ∧ (FR (S_c_X0_choosePosts b w w2) Mz M_102) ∧ (256 ≤ v5_102.toInt) ∧ ∃ z12_ : Int32, (z12_ = M_102.1 (0, 0, 0) 5) ∧ (((z12_.toInt = 0) ∧ r_ = 0 ∧ M_ = M_102) ∨ ((¬ z12_.toInt = 0) ∧ r_ = 1 ∧ M_ = M_102))) ∨ ((v5_3.toInt < z2_.toInt) ∧ (8 ≤ v5_3.toInt) ∧ ∃ M87_ : mM, (M87_ = up M_3 (0, 0, 0) 5 0) ∧ ∃ v5_102 : Int32, (1 ≤ v5_102.toInt) ∧ (v5_102.toInt ≤ 256) ∧ ∃ M_102 : mM, (RCH (fun x_ y_ => ST_X0_choosePosts_102b b w w2 Mz x_.1 x_.2 y_.1 y_.2) ((1 : Int32), M87_) (v5_102, M_102)) ∧ (Inv M_102) ∧ (FR (S_c_X0_choosePosts b w w2) Mz M_102) ∧ (256 ≤ v5_102.toInt) ∧ ∃ z93_ : Int32, (z93_ = M_102.1 (0, 0, 0) 5) ∧ (((z93_.toInt = 0) ∧ r_ = 0 ∧ M_ = M_102) ∨ ((¬ z93_.toInt = 0) ∧ r_ = 1 ∧ M_ = M_102))))
set_option maxHeartbeats 4000000 in
set_option maxRecDepth 100000 in
theorem c_X0_choosePosts (l : Launch) (G : va_G) (cy : Nat → ClassId) (ad : rf → Nat) (d : Nat) (b : Nat) (w : Nat) (w2 : Nat) (v : Int32) (Mz : mM) (hIz : Inv Mz) (hb : b < 3) (hw : w < 4) (hw2 : w2 < 4) : WP CC l G cy ad yX0_choosePosts cX0_choosePosts 7 (some .boolean) (d + 4) 0 [(0, vR (0, 0, 0)), (1, vR (10, b, 0)), (2, vI v), (3, vR (6, 0, w)), (4, vR (6, 0, w2))] [] Mz (fun r M' => Inv M' ∧ FR (S_c_X0_choosePosts b w w2) Mz M' ∧ ((0 ≤ r.toInt ∧ r.toInt ≤ 1)) ∧ SP_X0_choosePosts b w w2 v Mz r M') := by
  have hFz : FR (S_c_X0_choosePosts b w w2) Mz Mz := FR.self
  refine w_iconst (v := 0) dX0_choosePosts_0 (by decide) ?_
  refine w_istore (ls' := [(5, vI 0), (0, vR (0, 0, 0)), (1, vR (10, b, 0)), (2, vI v), (3, vR (6, 0, w)), (4, vR (6, 0, w2))]) dX0_choosePosts_1 (by decide) rfl ?_
  have lp1_ : ∀ (nn_3 : Nat) (M_3 : mM) (hI_3 : Inv M_3) (hF_3 : FR (S_c_X0_choosePosts b w w2) Mz M_3) (v5_3 : Int32) (hv0_3 : 0 ≤ v5_3.toInt) (hL_3 : RCH (fun x_ y_ => ST_X0_choosePosts_3 b w w2 v Mz x_.1 x_.2 y_.1 y_.2) ((0 : Int32), Mz) (v5_3, M_3)), (2147483648 - v5_3.toInt).toNat < nn_3 → WP CC l G cy ad yX0_choosePosts cX0_choosePosts 7 (some .boolean) (d + 4) 3 [(5, vI v5_3), (0, vR (0, 0, 0)), (1, vR (10, b, 0)), (2, vI v), (3, vR (6, 0, w)), (4, vR (6, 0, w2))] [] M_3 (fun r M' => Inv M' ∧ FR (S_c_X0_choosePosts b w w2) Mz M' ∧ ((0 ≤ r.toInt ∧ r.toInt ≤ 1)) ∧ SP_X0_choosePosts b w w2 v Mz r M') := by
    intro nn_3
    induction nn_3 with
    | zero => intro M_3 hI_3 hF_3 v5_3 hv0_3 hL_3 hm_3; exact absurd hm_3 (Nat.not_lt_zero _)
    | succ nn_3 ih_3 =>
      intro M_3 hI_3 hF_3 v5_3 hv0_3 hL_3 hm_3
      refine w_iload dX0_choosePosts_3 0 rfl ?_
      refine w_aload dX0_choosePosts_5 5 rfl ?_
      refine w_getI fl_RX0_65 rfl rfl (ic_6 hw2) dX0_choosePosts_7 (fun z2_ e3_ => ?_)
      have h4_ : 0 ≤ z2_.toInt ∧ z2_.toInt ≤ 24 := ofEq (P := fun v => 0 ≤ v.toInt ∧ v.toInt ≤ 24) e3_ (hI_3 (6, 0, w2) 1 rfl)
      refine w_icmp_ge (tgt := 94) dX0_choosePosts_10 (by decide) (rfl : v5_3.toInt = v5_3.toInt) (rfl : z2_.toInt = z2_.toInt) (fun h5_ => ?_) (fun h5_ => ?_)
      · refine w_aload_n dX0_choosePosts_94 rfl 1 rfl ?_
        refine w_iconst (v := 0) dX0_choosePosts_95 (by decide) ?_
        refine w_putI CC_nd fl_RX0_30 rfl rfl ic_0 dX0_choosePosts_96 (fun M6_ hM7_ => ?_)
        have hI8_ := hI_3.put hM7_ trivial
        have hF9_ := hF_3.put hM7_ (Or.inl ⟨rfl, rfl, rfl⟩)
        refine w_iconst (v := 1) dX0_choosePosts_99 (by decide) ?_
        refine w_istore (ls' := [(5, vI 1), (0, vR (0, 0, 0)), (1, vR (10, b, 0)), (2, vI v), (3, vR (6, 0, w)), (4, vR (6, 0, w2))]) dX0_choosePosts_100 (by decide) rfl ?_
        have lp10_ : ∀ (nn_102 : Nat) (M_102 : mM) (hI_102 : Inv M_102) (hF_102 : FR (S_c_X0_choosePosts b w w2) Mz M_102) (v5_102 : Int32) (hv0_102 : 1 ≤ v5_102.toInt) (hv1_102 : v5_102.toInt ≤ 256) (hL_102 : RCH (fun x_ y_ => ST_X0_choosePosts_102 b w w2 Mz x_.1 x_.2 y_.1 y_.2) ((1 : Int32), M6_) (v5_102, M_102)), (2147483648 - v5_102.toInt).toNat < nn_102 → WP CC l G cy ad yX0_choosePosts cX0_choosePosts 7 (some .boolean) (d + 4) 102 [(5, vI v5_102), (0, vR (0, 0, 0)), (1, vR (10, b, 0)), (2, vI v), (3, vR (6, 0, w)), (4, vR (6, 0, w2))] [] M_102 (fun r M' => Inv M' ∧ FR (S_c_X0_choosePosts b w w2) Mz M' ∧ ((0 ≤ r.toInt ∧ r.toInt ≤ 1)) ∧ SP_X0_choosePosts b w w2 v Mz r M') := by
          intro nn_102
          induction nn_102 with
          | zero => intro M_102 hI_102 hF_102 v5_102 hv0_102 hv1_102 hL_102 hm_102; exact absurd hm_102 (Nat.not_lt_zero _)
          | succ nn_102 ih_102 =>
            intro M_102 hI_102 hF_102 v5_102 hv0_102 hv1_102 hL_102 hm_102
            refine w_iload dX0_choosePosts_102 0 rfl ?_
            refine w_sipush (v := 256) dX0_choosePosts_104 (by decide) ?_
            refine w_icmp_ge (tgt := 181) dX0_choosePosts_107 (by decide) (rfl : v5_102.toInt = v5_102.toInt) li_256 (fun h11_ => ?_) (fun h11_ => ?_)
            · refine w_aload_n dX0_choosePosts_181 rfl 1 rfl ?_
              refine w_getI fl_RX0_30 rfl rfl ic_0 dX0_choosePosts_182 (fun z12_ e13_ => ?_)
              refine w_if_eq (tgt := 192) dX0_choosePosts_185 (by decide) (rfl : z12_.toInt = z12_.toInt) (fun h14_ => ?_) (fun h14_ => ?_)
              · refine w_iconst (v := 0) dX0_choosePosts_192 (by decide) ?_
                exact w_zret rfl dX0_choosePosts_193 ⟨by decide, by decide⟩ ⟨hI_102, hF_102, ⟨by decide, by decide⟩, ⟨v5_3, hv0_3, M_3, hL_3, hI_3, hF_3, z2_, e3_, h4_, (Or.inl ⟨h5_, M6_, hM7_, v5_102, hv0_102, hv1_102, M_102, hL_102, hI_102, hF_102, h11_, z12_, e13_, (Or.inl ⟨h14_, rfl, rfl⟩)⟩)⟩⟩
              · refine w_iconst (v := 1) dX0_choosePosts_188 (by decide) ?_
                refine w_goto (tgt := 193) dX0_choosePosts_189 (by decide) ?_
                exact w_zret rfl dX0_choosePosts_193 ⟨by decide, by decide⟩ ⟨hI_102, hF_102, ⟨by decide, by decide⟩, ⟨v5_3, hv0_3, M_3, hL_3, hI_3, hF_3, z2_, e3_, h4_, (Or.inl ⟨h5_, M6_, hM7_, v5_102, hv0_102, hv1_102, M_102, hL_102, hI_102, hF_102, h11_, z12_, e13_, (Or.inr ⟨h14_, rfl, rfl⟩)⟩)⟩⟩
            · refine w_aload_n dX0_choosePosts_110 rfl 1 rfl ?_
              refine w_getI fl_RX0_30 rfl rfl ic_0 dX0_choosePosts_111 (fun z15_ e16_ => ?_)
              refine w_if_eq (tgt := 132) dX0_choosePosts_114 (by decide) (rfl : z15_.toInt = z15_.toInt) (fun h17_ => ?_) (fun h17_ => ?_)
              · refine w_iconst (v := 1) dX0_choosePosts_132 (by decide) ?_
                refine w_goto (tgt := 137) dX0_choosePosts_133 (by decide) ?_
                refine w_istore (ls' := [(6, vI 1), (5, vI v5_102), (0, vR (0, 0, 0)), (1, vR (10, b, 0)), (2, vI v), (3, vR (6, 0, w)), (4, vR (6, 0, w2))]) dX0_choosePosts_137 (by decide) rfl ?_
                refine w_iload dX0_choosePosts_139 0 rfl ?_
                refine w_if_eq (tgt := 175) dX0_choosePosts_141 (by decide) li_1 (fun h9 => (absurd h9 (by decide))) (fun h18_ => ?_)
                refine w_iload dX0_choosePosts_144 1 rfl ?_
                refine w_iconst (v := 1) dX0_choosePosts_146 (by decide) ?_
                refine w_aload_n dX0_choosePosts_147 rfl 5 rfl ?_
                refine w_getI fl_RX0_65 rfl rfl (ic_6 hw) dX0_choosePosts_148 (fun z19_ e20_ => ?_)
                have h21_ : 0 ≤ z19_.toInt ∧ z19_.toInt ≤ 24 := ofEq (P := fun v => 0 ≤ v.toInt ∧ v.toInt ≤ 24) e20_ (hI_102 (6, 0, w) 1 rfl)
                refine w_ishl dX0_choosePosts_151 (fun z22_ h23_ => ?_)
                refine w_icmp_ge (tgt := 175) dX0_choosePosts_152 (by decide) (rfl : v5_102.toInt = v5_102.toInt) (rfl : z22_.toInt = z22_.toInt) (fun h24_ => ?_) (fun h24_ => ?_)
                · refine w_iincB (j := 1) (f := fun z25_ => [(5, vI z25_), (6, vI 1), (0, vR (0, 0, 0)), (1, vR (10, b, 0)), (2, vI v), (3, vR (6, 0, w)), (4, vR (6, 0, w2))]) dX0_choosePosts_175 rfl (by decide) (fun _ => rfl) (rfl : v5_102.toInt = v5_102.toInt) li_1 (lf_c_X0_chooseSpots_0 v5_102 hv0_102 h11_ ) (fun z25_ h26_ => ?_)
                  refine w_goto (tgt := 102) dX0_choosePosts_178 (by decide) ?_
                  refine w_loc (ls' := [(5, vI z25_), (0, vR (0, 0, 0)), (1, vR (10, b, 0)), (2, vI v), (3, vR (6, 0, w)), (4, vR (6, 0, w2))]) [0, 2, 3, 4, 5, 6] rfl ?_
                  exact ih_102 M_102 hI_102 hF_102 z25_ (lf_c_X9_yardsToFull_1 v5_102 z25_ hv0_102 h26_ ) (lf_c_X0_chooseSpots_2 v5_102 z25_ h11_ h26_ ) (RCH.tail hL_102 ⟨hv0_102, hv1_102, hI_102, hF_102, h11_, z15_, e16_, (Or.inl ⟨h17_, z19_, e20_, h21_, z22_, h23_, (Or.inl ⟨h24_, z25_, h26_, rfl, rfl⟩)⟩)⟩) (Nat.lt_of_lt_of_le (lf_c_X0_chooseSpots_3 v5_102 z25_ h11_ h26_ ) (Nat.le_of_lt_succ hm_102))
                · refine w_aload_n dX0_choosePosts_155 rfl 2 rfl ?_
                  refine w_iload dX0_choosePosts_156 1 rfl ?_
                  refine w_aload dX0_choosePosts_158 6 rfl ?_
                  refine w_getI fl_RX0_65 rfl rfl (ic_6 hw2) dX0_choosePosts_160 (fun z27_ e28_ => ?_)
                  have h29_ : 0 ≤ z27_.toInt ∧ z27_.toInt ≤ 24 := ofEq (P := fun v => 0 ≤ v.toInt ∧ v.toInt ≤ 24) e28_ (hI_102 (6, 0, w2) 1 rfl)
                  refine w_callV (as := [vI v5_102, vI z27_]) (rest := []) (c_X0_servesAll l G cy ad (d + 3) v5_102 z27_ M_102 hI_102) kV_X0_servesAll pnn_11 (Nat.le_of_ble_eq_true rfl) m_1171 rfl rfl rfl ic_0 rfl rfl (by decide) (Nat.le_of_ble_eq_true rfl) dX0_choosePosts_163 (fun r30_ M31_ q32_ => ?_)
                  obtain ⟨rfl, h33_, hs34_⟩ := q32_
                  refine w_if_eq (tgt := 175) dX0_choosePosts_166 (by decide) (rfl : r30_.toInt = r30_.toInt) (fun h35_ => ?_) (fun h35_ => ?_)
                  · refine w_iincB (j := 1) (f := fun z36_ => [(5, vI z36_), (6, vI 1), (0, vR (0, 0, 0)), (1, vR (10, b, 0)), (2, vI v), (3, vR (6, 0, w)), (4, vR (6, 0, w2))]) dX0_choosePosts_175 rfl (by decide) (fun _ => rfl) (rfl : v5_102.toInt = v5_102.toInt) li_1 (lf_c_X0_chooseSpots_0 v5_102 hv0_102 h11_ ) (fun z36_ h37_ => ?_)
                    refine w_goto (tgt := 102) dX0_choosePosts_178 (by decide) ?_
                    refine w_loc (ls' := [(5, vI z36_), (0, vR (0, 0, 0)), (1, vR (10, b, 0)), (2, vI v), (3, vR (6, 0, w)), (4, vR (6, 0, w2))]) [0, 2, 3, 4, 5, 6] rfl ?_
                    exact ih_102 M_102 hI_102 hF_102 z36_ (lf_c_X9_yardsToFull_1 v5_102 z36_ hv0_102 h37_ ) (lf_c_X0_chooseSpots_2 v5_102 z36_ h11_ h37_ ) (RCH.tail hL_102 ⟨hv0_102, hv1_102, hI_102, hF_102, h11_, z15_, e16_, (Or.inl ⟨h17_, z19_, e20_, h21_, z22_, h23_, (Or.inr ⟨h24_, z27_, e28_, h29_, r30_, hs34_, h33_, (Or.inl ⟨h35_, z36_, h37_, rfl, rfl⟩)⟩)⟩)⟩) (Nat.lt_of_lt_of_le (lf_c_X0_chooseSpots_3 v5_102 z36_ h11_ h37_ ) (Nat.le_of_lt_succ hm_102))
                  · refine w_aload_n dX0_choosePosts_169 rfl 2 rfl ?_
                    refine w_iload dX0_choosePosts_170 1 rfl ?_
                    refine w_putI CC_nd fl_RX0_30 rfl rfl ic_0 dX0_choosePosts_172 (fun M38_ hM39_ => ?_)
                    have hI40_ := hI_102.put hM39_ trivial
                    have hF41_ := hF_102.put hM39_ (Or.inl ⟨rfl, rfl, rfl⟩)
                    refine w_iincB (j := 1) (f := fun z42_ => [(5, vI z42_), (6, vI 1), (0, vR (0, 0, 0)), (1, vR (10, b, 0)), (2, vI v), (3, vR (6, 0, w)), (4, vR (6, 0, w2))]) dX0_choosePosts_175 rfl (by decide) (fun _ => rfl) (rfl : v5_102.toInt = v5_102.toInt) li_1 (lf_c_X0_chooseSpots_0 v5_102 hv0_102 h11_ ) (fun z42_ h43_ => ?_)
                    refine w_goto (tgt := 102) dX0_choosePosts_178 (by decide) ?_
                    refine w_loc (ls' := [(5, vI z42_), (0, vR (0, 0, 0)), (1, vR (10, b, 0)), (2, vI v), (3, vR (6, 0, w)), (4, vR (6, 0, w2))]) [0, 2, 3, 4, 5, 6] rfl ?_
                    exact ih_102 M38_ hI40_ hF41_ z42_ (lf_c_X9_yardsToFull_1 v5_102 z42_ hv0_102 h43_ ) (lf_c_X0_chooseSpots_2 v5_102 z42_ h11_ h43_ ) (RCH.tail hL_102 ⟨hv0_102, hv1_102, hI_102, hF_102, h11_, z15_, e16_, (Or.inl ⟨h17_, z19_, e20_, h21_, z22_, h23_, (Or.inr ⟨h24_, z27_, e28_, h29_, r30_, hs34_, h33_, (Or.inr ⟨h35_, M38_, hM39_, z42_, h43_, rfl, rfl⟩)⟩)⟩)⟩) (Nat.lt_of_lt_of_le (lf_c_X0_chooseSpots_3 v5_102 z42_ h11_ h43_ ) (Nat.le_of_lt_succ hm_102))
              · refine w_iload dX0_choosePosts_117 0 rfl ?_
                refine w_callS (as := [vI v5_102]) (rest := []) (c_JI_bitCount l G cy ad (d + 3) v5_102 M_102 hI_102) kS_JI_bitCount pnn_9 (Nat.le_of_ble_eq_true rfl) m_1005 rfl rfl (by decide) (Nat.le_of_ble_eq_true rfl) dX0_choosePosts_119 (fun r44_ M45_ q46_ => ?_)
                obtain ⟨rfl, h47_, hs48_⟩ := q46_
                refine w_aload_n dX0_choosePosts_122 rfl 1 rfl ?_
                refine w_getI fl_RX0_30 rfl rfl ic_0 dX0_choosePosts_123 (fun z49_ e50_ => ?_)
                obtain rfl : z15_ = z49_ := e16_.trans e50_.symm
                refine w_callS (as := [vI z15_]) (rest := [vI r44_]) (c_JI_bitCount l G cy ad (d + 3) z15_ M_102 hI_102) kS_JI_bitCount pnn_9 (Nat.le_of_ble_eq_true rfl) m_1005 rfl rfl (by decide) (Nat.le_of_ble_eq_true rfl) dX0_choosePosts_126 (fun r51_ M52_ q53_ => ?_)
                obtain ⟨rfl, h54_, hs55_⟩ := q53_
                refine w_icmp_ge (tgt := 136) dX0_choosePosts_129 (by decide) (rfl : r44_.toInt = r44_.toInt) (rfl : r51_.toInt = r51_.toInt) (fun h56_ => ?_) (fun h56_ => ?_)
                · refine w_iconst (v := 0) dX0_choosePosts_136 (by decide) ?_
                  refine w_istore (ls' := [(6, vI 0), (5, vI v5_102), (0, vR (0, 0, 0)), (1, vR (10, b, 0)), (2, vI v), (3, vR (6, 0, w)), (4, vR (6, 0, w2))]) dX0_choosePosts_137 (by decide) rfl ?_
                  refine w_iload dX0_choosePosts_139 0 rfl ?_
                  refine w_if_eq (tgt := 175) dX0_choosePosts_141 (by decide) li_0 (fun h57_ => ?_) (fun h9 => (absurd h9 (by decide)))
                  refine w_iincB (j := 1) (f := fun z58_ => [(5, vI z58_), (6, vI 0), (0, vR (0, 0, 0)), (1, vR (10, b, 0)), (2, vI v), (3, vR (6, 0, w)), (4, vR (6, 0, w2))]) dX0_choosePosts_175 rfl (by decide) (fun _ => rfl) (rfl : v5_102.toInt = v5_102.toInt) li_1 (lf_c_X0_chooseSpots_0 v5_102 hv0_102 h11_ ) (fun z58_ h59_ => ?_)
                  refine w_goto (tgt := 102) dX0_choosePosts_178 (by decide) ?_
                  refine w_loc (ls' := [(5, vI z58_), (0, vR (0, 0, 0)), (1, vR (10, b, 0)), (2, vI v), (3, vR (6, 0, w)), (4, vR (6, 0, w2))]) [0, 2, 3, 4, 5, 6] rfl ?_
                  exact ih_102 M_102 hI_102 hF_102 z58_ (lf_c_X9_yardsToFull_1 v5_102 z58_ hv0_102 h59_ ) (lf_c_X0_chooseSpots_2 v5_102 z58_ h11_ h59_ ) (RCH.tail hL_102 ⟨hv0_102, hv1_102, hI_102, hF_102, h11_, z15_, e16_, (Or.inr ⟨h17_, r44_, hs48_, r51_, hs55_, (Or.inl ⟨h56_, z58_, h59_, rfl, rfl⟩)⟩)⟩) (Nat.lt_of_lt_of_le (lf_c_X0_chooseSpots_3 v5_102 z58_ h11_ h59_ ) (Nat.le_of_lt_succ hm_102))
                · refine w_iconst (v := 1) dX0_choosePosts_132 (by decide) ?_
                  refine w_goto (tgt := 137) dX0_choosePosts_133 (by decide) ?_
                  refine w_istore (ls' := [(6, vI 1), (5, vI v5_102), (0, vR (0, 0, 0)), (1, vR (10, b, 0)), (2, vI v), (3, vR (6, 0, w)), (4, vR (6, 0, w2))]) dX0_choosePosts_137 (by decide) rfl ?_
                  refine w_iload dX0_choosePosts_139 0 rfl ?_
                  refine w_if_eq (tgt := 175) dX0_choosePosts_141 (by decide) li_1 (fun h9 => (absurd h9 (by decide))) (fun h60_ => ?_)
                  refine w_iload dX0_choosePosts_144 1 rfl ?_
                  refine w_iconst (v := 1) dX0_choosePosts_146 (by decide) ?_
                  refine w_aload_n dX0_choosePosts_147 rfl 5 rfl ?_
                  refine w_getI fl_RX0_65 rfl rfl (ic_6 hw) dX0_choosePosts_148 (fun z61_ e62_ => ?_)
                  have h63_ : 0 ≤ z61_.toInt ∧ z61_.toInt ≤ 24 := ofEq (P := fun v => 0 ≤ v.toInt ∧ v.toInt ≤ 24) e62_ (hI_102 (6, 0, w) 1 rfl)
                  refine w_ishl dX0_choosePosts_151 (fun z64_ h65_ => ?_)
                  refine w_icmp_ge (tgt := 175) dX0_choosePosts_152 (by decide) (rfl : v5_102.toInt = v5_102.toInt) (rfl : z64_.toInt = z64_.toInt) (fun h66_ => ?_) (fun h66_ => ?_)
                  · refine w_iincB (j := 1) (f := fun z67_ => [(5, vI z67_), (6, vI 1), (0, vR (0, 0, 0)), (1, vR (10, b, 0)), (2, vI v), (3, vR (6, 0, w)), (4, vR (6, 0, w2))]) dX0_choosePosts_175 rfl (by decide) (fun _ => rfl) (rfl : v5_102.toInt = v5_102.toInt) li_1 (lf_c_X0_chooseSpots_0 v5_102 hv0_102 h11_ ) (fun z67_ h68_ => ?_)
                    refine w_goto (tgt := 102) dX0_choosePosts_178 (by decide) ?_
                    refine w_loc (ls' := [(5, vI z67_), (0, vR (0, 0, 0)), (1, vR (10, b, 0)), (2, vI v), (3, vR (6, 0, w)), (4, vR (6, 0, w2))]) [0, 2, 3, 4, 5, 6] rfl ?_
                    exact ih_102 M_102 hI_102 hF_102 z67_ (lf_c_X9_yardsToFull_1 v5_102 z67_ hv0_102 h68_ ) (lf_c_X0_chooseSpots_2 v5_102 z67_ h11_ h68_ ) (RCH.tail hL_102 ⟨hv0_102, hv1_102, hI_102, hF_102, h11_, z15_, e16_, (Or.inr ⟨h17_, r44_, hs48_, r51_, hs55_, (Or.inr ⟨h56_, z61_, e62_, h63_, z64_, h65_, (Or.inl ⟨h66_, z67_, h68_, rfl, rfl⟩)⟩)⟩)⟩) (Nat.lt_of_lt_of_le (lf_c_X0_chooseSpots_3 v5_102 z67_ h11_ h68_ ) (Nat.le_of_lt_succ hm_102))
                  · refine w_aload_n dX0_choosePosts_155 rfl 2 rfl ?_
                    refine w_iload dX0_choosePosts_156 1 rfl ?_
                    refine w_aload dX0_choosePosts_158 6 rfl ?_
                    refine w_getI fl_RX0_65 rfl rfl (ic_6 hw2) dX0_choosePosts_160 (fun z69_ e70_ => ?_)
                    have h71_ : 0 ≤ z69_.toInt ∧ z69_.toInt ≤ 24 := ofEq (P := fun v => 0 ≤ v.toInt ∧ v.toInt ≤ 24) e70_ (hI_102 (6, 0, w2) 1 rfl)
                    refine w_callV (as := [vI v5_102, vI z69_]) (rest := []) (c_X0_servesAll l G cy ad (d + 3) v5_102 z69_ M_102 hI_102) kV_X0_servesAll pnn_11 (Nat.le_of_ble_eq_true rfl) m_1171 rfl rfl rfl ic_0 rfl rfl (by decide) (Nat.le_of_ble_eq_true rfl) dX0_choosePosts_163 (fun r72_ M73_ q74_ => ?_)
                    obtain ⟨rfl, h75_, hs76_⟩ := q74_
                    refine w_if_eq (tgt := 175) dX0_choosePosts_166 (by decide) (rfl : r72_.toInt = r72_.toInt) (fun h77_ => ?_) (fun h77_ => ?_)
                    · refine w_iincB (j := 1) (f := fun z78_ => [(5, vI z78_), (6, vI 1), (0, vR (0, 0, 0)), (1, vR (10, b, 0)), (2, vI v), (3, vR (6, 0, w)), (4, vR (6, 0, w2))]) dX0_choosePosts_175 rfl (by decide) (fun _ => rfl) (rfl : v5_102.toInt = v5_102.toInt) li_1 (lf_c_X0_chooseSpots_0 v5_102 hv0_102 h11_ ) (fun z78_ h79_ => ?_)
                      refine w_goto (tgt := 102) dX0_choosePosts_178 (by decide) ?_
                      refine w_loc (ls' := [(5, vI z78_), (0, vR (0, 0, 0)), (1, vR (10, b, 0)), (2, vI v), (3, vR (6, 0, w)), (4, vR (6, 0, w2))]) [0, 2, 3, 4, 5, 6] rfl ?_
                      exact ih_102 M_102 hI_102 hF_102 z78_ (lf_c_X9_yardsToFull_1 v5_102 z78_ hv0_102 h79_ ) (lf_c_X0_chooseSpots_2 v5_102 z78_ h11_ h79_ ) (RCH.tail hL_102 ⟨hv0_102, hv1_102, hI_102, hF_102, h11_, z15_, e16_, (Or.inr ⟨h17_, r44_, hs48_, r51_, hs55_, (Or.inr ⟨h56_, z61_, e62_, h63_, z64_, h65_, (Or.inr ⟨h66_, z69_, e70_, h71_, r72_, hs76_, h75_, (Or.inl ⟨h77_, z78_, h79_, rfl, rfl⟩)⟩)⟩)⟩)⟩) (Nat.lt_of_lt_of_le (lf_c_X0_chooseSpots_3 v5_102 z78_ h11_ h79_ ) (Nat.le_of_lt_succ hm_102))
                    · refine w_aload_n dX0_choosePosts_169 rfl 2 rfl ?_
                      refine w_iload dX0_choosePosts_170 1 rfl ?_
                      refine w_putI CC_nd fl_RX0_30 rfl rfl ic_0 dX0_choosePosts_172 (fun M80_ hM81_ => ?_)
                      have hI82_ := hI_102.put hM81_ trivial
                      have hF83_ := hF_102.put hM81_ (Or.inl ⟨rfl, rfl, rfl⟩)
                      refine w_iincB (j := 1) (f := fun z84_ => [(5, vI z84_), (6, vI 1), (0, vR (0, 0, 0)), (1, vR (10, b, 0)), (2, vI v), (3, vR (6, 0, w)), (4, vR (6, 0, w2))]) dX0_choosePosts_175 rfl (by decide) (fun _ => rfl) (rfl : v5_102.toInt = v5_102.toInt) li_1 (lf_c_X0_chooseSpots_0 v5_102 hv0_102 h11_ ) (fun z84_ h85_ => ?_)
                      refine w_goto (tgt := 102) dX0_choosePosts_178 (by decide) ?_
                      refine w_loc (ls' := [(5, vI z84_), (0, vR (0, 0, 0)), (1, vR (10, b, 0)), (2, vI v), (3, vR (6, 0, w)), (4, vR (6, 0, w2))]) [0, 2, 3, 4, 5, 6] rfl ?_
                      exact ih_102 M80_ hI82_ hF83_ z84_ (lf_c_X9_yardsToFull_1 v5_102 z84_ hv0_102 h85_ ) (lf_c_X0_chooseSpots_2 v5_102 z84_ h11_ h85_ ) (RCH.tail hL_102 ⟨hv0_102, hv1_102, hI_102, hF_102, h11_, z15_, e16_, (Or.inr ⟨h17_, r44_, hs48_, r51_, hs55_, (Or.inr ⟨h56_, z61_, e62_, h63_, z64_, h65_, (Or.inr ⟨h66_, z69_, e70_, h71_, r72_, hs76_, h75_, (Or.inr ⟨h77_, M80_, hM81_, z84_, h85_, rfl, rfl⟩)⟩)⟩)⟩)⟩) (Nat.lt_of_lt_of_le (lf_c_X0_chooseSpots_3 v5_102 z84_ h11_ h85_ ) (Nat.le_of_lt_succ hm_102))
        exact lp10_ _ M6_ hI8_ hF9_ 1 (lf_c_X9_yardsToFull_4 ) (lf_c_X0_chooseSpots_17 ) RCH.refl (Nat.lt_succ_self _)
      · refine w_iload dX0_choosePosts_13 0 rfl ?_
        refine w_bipush (v := 8) dX0_choosePosts_15 (by decide) ?_
        refine w_icmp_ge (tgt := 94) dX0_choosePosts_17 (by decide) (rfl : v5_3.toInt = v5_3.toInt) li_8 (fun h86_ => ?_) (fun h86_ => ?_)
        · refine w_aload_n dX0_choosePosts_94 rfl 1 rfl ?_
          refine w_iconst (v := 0) dX0_choosePosts_95 (by decide) ?_
          refine w_putI CC_nd fl_RX0_30 rfl rfl ic_0 dX0_choosePosts_96 (fun M87_ hM88_ => ?_)
          have hI89_ := hI_3.put hM88_ trivial
          have hF90_ := hF_3.put hM88_ (Or.inl ⟨rfl, rfl, rfl⟩)
          refine w_iconst (v := 1) dX0_choosePosts_99 (by decide) ?_
          refine w_istore (ls' := [(5, vI 1), (0, vR (0, 0, 0)), (1, vR (10, b, 0)), (2, vI v), (3, vR (6, 0, w)), (4, vR (6, 0, w2))]) dX0_choosePosts_100 (by decide) rfl ?_
          have lp91_ : ∀ (nn_102 : Nat) (M_102 : mM) (hI_102 : Inv M_102) (hF_102 : FR (S_c_X0_choosePosts b w w2) Mz M_102) (v5_102 : Int32) (hv0_102 : 1 ≤ v5_102.toInt) (hv1_102 : v5_102.toInt ≤ 256) (hL_102 : RCH (fun x_ y_ => ST_X0_choosePosts_102b b w w2 Mz x_.1 x_.2 y_.1 y_.2) ((1 : Int32), M87_) (v5_102, M_102)), (2147483648 - v5_102.toInt).toNat < nn_102 → WP CC l G cy ad yX0_choosePosts cX0_choosePosts 7 (some .boolean) (d + 4) 102 [(5, vI v5_102), (0, vR (0, 0, 0)), (1, vR (10, b, 0)), (2, vI v), (3, vR (6, 0, w)), (4, vR (6, 0, w2))] [] M_102 (fun r M' => Inv M' ∧ FR (S_c_X0_choosePosts b w w2) Mz M' ∧ ((0 ≤ r.toInt ∧ r.toInt ≤ 1)) ∧ SP_X0_choosePosts b w w2 v Mz r M') := by
            intro nn_102
            induction nn_102 with
            | zero => intro M_102 hI_102 hF_102 v5_102 hv0_102 hv1_102 hL_102 hm_102; exact absurd hm_102 (Nat.not_lt_zero _)
            | succ nn_102 ih_102 =>
              intro M_102 hI_102 hF_102 v5_102 hv0_102 hv1_102 hL_102 hm_102
              refine w_iload dX0_choosePosts_102 0 rfl ?_
              refine w_sipush (v := 256) dX0_choosePosts_104 (by decide) ?_
              refine w_icmp_ge (tgt := 181) dX0_choosePosts_107 (by decide) (rfl : v5_102.toInt = v5_102.toInt) li_256 (fun h92_ => ?_) (fun h92_ => ?_)
              · refine w_aload_n dX0_choosePosts_181 rfl 1 rfl ?_
                refine w_getI fl_RX0_30 rfl rfl ic_0 dX0_choosePosts_182 (fun z93_ e94_ => ?_)
                refine w_if_eq (tgt := 192) dX0_choosePosts_185 (by decide) (rfl : z93_.toInt = z93_.toInt) (fun h95_ => ?_) (fun h95_ => ?_)
                · refine w_iconst (v := 0) dX0_choosePosts_192 (by decide) ?_
                  exact w_zret rfl dX0_choosePosts_193 ⟨by decide, by decide⟩ ⟨hI_102, hF_102, ⟨by decide, by decide⟩, ⟨v5_3, hv0_3, M_3, hL_3, hI_3, hF_3, z2_, e3_, h4_, (Or.inr ⟨h5_, h86_, M87_, hM88_, v5_102, hv0_102, hv1_102, M_102, hL_102, hI_102, hF_102, h92_, z93_, e94_, (Or.inl ⟨h95_, rfl, rfl⟩)⟩)⟩⟩
                · refine w_iconst (v := 1) dX0_choosePosts_188 (by decide) ?_
                  refine w_goto (tgt := 193) dX0_choosePosts_189 (by decide) ?_
                  exact w_zret rfl dX0_choosePosts_193 ⟨by decide, by decide⟩ ⟨hI_102, hF_102, ⟨by decide, by decide⟩, ⟨v5_3, hv0_3, M_3, hL_3, hI_3, hF_3, z2_, e3_, h4_, (Or.inr ⟨h5_, h86_, M87_, hM88_, v5_102, hv0_102, hv1_102, M_102, hL_102, hI_102, hF_102, h92_, z93_, e94_, (Or.inr ⟨h95_, rfl, rfl⟩)⟩)⟩⟩
              · refine w_aload_n dX0_choosePosts_110 rfl 1 rfl ?_
                refine w_getI fl_RX0_30 rfl rfl ic_0 dX0_choosePosts_111 (fun z96_ e97_ => ?_)
                refine w_if_eq (tgt := 132) dX0_choosePosts_114 (by decide) (rfl : z96_.toInt = z96_.toInt) (fun h98_ => ?_) (fun h98_ => ?_)
                · refine w_iconst (v := 1) dX0_choosePosts_132 (by decide) ?_
                  refine w_goto (tgt := 137) dX0_choosePosts_133 (by decide) ?_
                  refine w_istore (ls' := [(6, vI 1), (5, vI v5_102), (0, vR (0, 0, 0)), (1, vR (10, b, 0)), (2, vI v), (3, vR (6, 0, w)), (4, vR (6, 0, w2))]) dX0_choosePosts_137 (by decide) rfl ?_
                  refine w_iload dX0_choosePosts_139 0 rfl ?_
                  refine w_if_eq (tgt := 175) dX0_choosePosts_141 (by decide) li_1 (fun h9 => (absurd h9 (by decide))) (fun h99_ => ?_)
                  refine w_iload dX0_choosePosts_144 1 rfl ?_
                  refine w_iconst (v := 1) dX0_choosePosts_146 (by decide) ?_
                  refine w_aload_n dX0_choosePosts_147 rfl 5 rfl ?_
                  refine w_getI fl_RX0_65 rfl rfl (ic_6 hw) dX0_choosePosts_148 (fun z100_ e101_ => ?_)
                  have h102_ : 0 ≤ z100_.toInt ∧ z100_.toInt ≤ 24 := ofEq (P := fun v => 0 ≤ v.toInt ∧ v.toInt ≤ 24) e101_ (hI_102 (6, 0, w) 1 rfl)
                  refine w_ishl dX0_choosePosts_151 (fun z103_ h104_ => ?_)
                  refine w_icmp_ge (tgt := 175) dX0_choosePosts_152 (by decide) (rfl : v5_102.toInt = v5_102.toInt) (rfl : z103_.toInt = z103_.toInt) (fun h105_ => ?_) (fun h105_ => ?_)
                  · refine w_iincB (j := 1) (f := fun z106_ => [(5, vI z106_), (6, vI 1), (0, vR (0, 0, 0)), (1, vR (10, b, 0)), (2, vI v), (3, vR (6, 0, w)), (4, vR (6, 0, w2))]) dX0_choosePosts_175 rfl (by decide) (fun _ => rfl) (rfl : v5_102.toInt = v5_102.toInt) li_1 (lf_c_X0_chooseSpots_0 v5_102 hv0_102 h92_ ) (fun z106_ h107_ => ?_)
                    refine w_goto (tgt := 102) dX0_choosePosts_178 (by decide) ?_
                    refine w_loc (ls' := [(5, vI z106_), (0, vR (0, 0, 0)), (1, vR (10, b, 0)), (2, vI v), (3, vR (6, 0, w)), (4, vR (6, 0, w2))]) [0, 2, 3, 4, 5, 6] rfl ?_
                    exact ih_102 M_102 hI_102 hF_102 z106_ (lf_c_X9_yardsToFull_1 v5_102 z106_ hv0_102 h107_ ) (lf_c_X0_chooseSpots_2 v5_102 z106_ h92_ h107_ ) (RCH.tail hL_102 ⟨hv0_102, hv1_102, hI_102, hF_102, h92_, z96_, e97_, (Or.inl ⟨h98_, z100_, e101_, h102_, z103_, h104_, (Or.inl ⟨h105_, z106_, h107_, rfl, rfl⟩)⟩)⟩) (Nat.lt_of_lt_of_le (lf_c_X0_chooseSpots_3 v5_102 z106_ h92_ h107_ ) (Nat.le_of_lt_succ hm_102))
                  · refine w_aload_n dX0_choosePosts_155 rfl 2 rfl ?_
                    refine w_iload dX0_choosePosts_156 1 rfl ?_
                    refine w_aload dX0_choosePosts_158 6 rfl ?_
                    refine w_getI fl_RX0_65 rfl rfl (ic_6 hw2) dX0_choosePosts_160 (fun z108_ e109_ => ?_)
                    have h110_ : 0 ≤ z108_.toInt ∧ z108_.toInt ≤ 24 := ofEq (P := fun v => 0 ≤ v.toInt ∧ v.toInt ≤ 24) e109_ (hI_102 (6, 0, w2) 1 rfl)
                    refine w_callV (as := [vI v5_102, vI z108_]) (rest := []) (c_X0_servesAll l G cy ad (d + 3) v5_102 z108_ M_102 hI_102) kV_X0_servesAll pnn_11 (Nat.le_of_ble_eq_true rfl) m_1171 rfl rfl rfl ic_0 rfl rfl (by decide) (Nat.le_of_ble_eq_true rfl) dX0_choosePosts_163 (fun r111_ M112_ q113_ => ?_)
                    obtain ⟨rfl, h114_, hs115_⟩ := q113_
                    refine w_if_eq (tgt := 175) dX0_choosePosts_166 (by decide) (rfl : r111_.toInt = r111_.toInt) (fun h116_ => ?_) (fun h116_ => ?_)
                    · refine w_iincB (j := 1) (f := fun z117_ => [(5, vI z117_), (6, vI 1), (0, vR (0, 0, 0)), (1, vR (10, b, 0)), (2, vI v), (3, vR (6, 0, w)), (4, vR (6, 0, w2))]) dX0_choosePosts_175 rfl (by decide) (fun _ => rfl) (rfl : v5_102.toInt = v5_102.toInt) li_1 (lf_c_X0_chooseSpots_0 v5_102 hv0_102 h92_ ) (fun z117_ h118_ => ?_)
                      refine w_goto (tgt := 102) dX0_choosePosts_178 (by decide) ?_
                      refine w_loc (ls' := [(5, vI z117_), (0, vR (0, 0, 0)), (1, vR (10, b, 0)), (2, vI v), (3, vR (6, 0, w)), (4, vR (6, 0, w2))]) [0, 2, 3, 4, 5, 6] rfl ?_
                      exact ih_102 M_102 hI_102 hF_102 z117_ (lf_c_X9_yardsToFull_1 v5_102 z117_ hv0_102 h118_ ) (lf_c_X0_chooseSpots_2 v5_102 z117_ h92_ h118_ ) (RCH.tail hL_102 ⟨hv0_102, hv1_102, hI_102, hF_102, h92_, z96_, e97_, (Or.inl ⟨h98_, z100_, e101_, h102_, z103_, h104_, (Or.inr ⟨h105_, z108_, e109_, h110_, r111_, hs115_, h114_, (Or.inl ⟨h116_, z117_, h118_, rfl, rfl⟩)⟩)⟩)⟩) (Nat.lt_of_lt_of_le (lf_c_X0_chooseSpots_3 v5_102 z117_ h92_ h118_ ) (Nat.le_of_lt_succ hm_102))
                    · refine w_aload_n dX0_choosePosts_169 rfl 2 rfl ?_
                      refine w_iload dX0_choosePosts_170 1 rfl ?_
                      refine w_putI CC_nd fl_RX0_30 rfl rfl ic_0 dX0_choosePosts_172 (fun M119_ hM120_ => ?_)
                      have hI121_ := hI_102.put hM120_ trivial
                      have hF122_ := hF_102.put hM120_ (Or.inl ⟨rfl, rfl, rfl⟩)
                      refine w_iincB (j := 1) (f := fun z123_ => [(5, vI z123_), (6, vI 1), (0, vR (0, 0, 0)), (1, vR (10, b, 0)), (2, vI v), (3, vR (6, 0, w)), (4, vR (6, 0, w2))]) dX0_choosePosts_175 rfl (by decide) (fun _ => rfl) (rfl : v5_102.toInt = v5_102.toInt) li_1 (lf_c_X0_chooseSpots_0 v5_102 hv0_102 h92_ ) (fun z123_ h124_ => ?_)
                      refine w_goto (tgt := 102) dX0_choosePosts_178 (by decide) ?_
                      refine w_loc (ls' := [(5, vI z123_), (0, vR (0, 0, 0)), (1, vR (10, b, 0)), (2, vI v), (3, vR (6, 0, w)), (4, vR (6, 0, w2))]) [0, 2, 3, 4, 5, 6] rfl ?_
                      exact ih_102 M119_ hI121_ hF122_ z123_ (lf_c_X9_yardsToFull_1 v5_102 z123_ hv0_102 h124_ ) (lf_c_X0_chooseSpots_2 v5_102 z123_ h92_ h124_ ) (RCH.tail hL_102 ⟨hv0_102, hv1_102, hI_102, hF_102, h92_, z96_, e97_, (Or.inl ⟨h98_, z100_, e101_, h102_, z103_, h104_, (Or.inr ⟨h105_, z108_, e109_, h110_, r111_, hs115_, h114_, (Or.inr ⟨h116_, M119_, hM120_, z123_, h124_, rfl, rfl⟩)⟩)⟩)⟩) (Nat.lt_of_lt_of_le (lf_c_X0_chooseSpots_3 v5_102 z123_ h92_ h124_ ) (Nat.le_of_lt_succ hm_102))
                · refine w_iload dX0_choosePosts_117 0 rfl ?_
                  refine w_callS (as := [vI v5_102]) (rest := []) (c_JI_bitCount l G cy ad (d + 3) v5_102 M_102 hI_102) kS_JI_bitCount pnn_9 (Nat.le_of_ble_eq_true rfl) m_1005 rfl rfl (by decide) (Nat.le_of_ble_eq_true rfl) dX0_choosePosts_119 (fun r125_ M126_ q127_ => ?_)
                  obtain ⟨rfl, h128_, hs129_⟩ := q127_
                  refine w_aload_n dX0_choosePosts_122 rfl 1 rfl ?_
                  refine w_getI fl_RX0_30 rfl rfl ic_0 dX0_choosePosts_123 (fun z130_ e131_ => ?_)
                  obtain rfl : z96_ = z130_ := e97_.trans e131_.symm
                  refine w_callS (as := [vI z96_]) (rest := [vI r125_]) (c_JI_bitCount l G cy ad (d + 3) z96_ M_102 hI_102) kS_JI_bitCount pnn_9 (Nat.le_of_ble_eq_true rfl) m_1005 rfl rfl (by decide) (Nat.le_of_ble_eq_true rfl) dX0_choosePosts_126 (fun r132_ M133_ q134_ => ?_)
                  obtain ⟨rfl, h135_, hs136_⟩ := q134_
                  refine w_icmp_ge (tgt := 136) dX0_choosePosts_129 (by decide) (rfl : r125_.toInt = r125_.toInt) (rfl : r132_.toInt = r132_.toInt) (fun h137_ => ?_) (fun h137_ => ?_)
                  · refine w_iconst (v := 0) dX0_choosePosts_136 (by decide) ?_
                    refine w_istore (ls' := [(6, vI 0), (5, vI v5_102), (0, vR (0, 0, 0)), (1, vR (10, b, 0)), (2, vI v), (3, vR (6, 0, w)), (4, vR (6, 0, w2))]) dX0_choosePosts_137 (by decide) rfl ?_
                    refine w_iload dX0_choosePosts_139 0 rfl ?_
                    refine w_if_eq (tgt := 175) dX0_choosePosts_141 (by decide) li_0 (fun h138_ => ?_) (fun h9 => (absurd h9 (by decide)))
                    refine w_iincB (j := 1) (f := fun z139_ => [(5, vI z139_), (6, vI 0), (0, vR (0, 0, 0)), (1, vR (10, b, 0)), (2, vI v), (3, vR (6, 0, w)), (4, vR (6, 0, w2))]) dX0_choosePosts_175 rfl (by decide) (fun _ => rfl) (rfl : v5_102.toInt = v5_102.toInt) li_1 (lf_c_X0_chooseSpots_0 v5_102 hv0_102 h92_ ) (fun z139_ h140_ => ?_)
                    refine w_goto (tgt := 102) dX0_choosePosts_178 (by decide) ?_
                    refine w_loc (ls' := [(5, vI z139_), (0, vR (0, 0, 0)), (1, vR (10, b, 0)), (2, vI v), (3, vR (6, 0, w)), (4, vR (6, 0, w2))]) [0, 2, 3, 4, 5, 6] rfl ?_
                    exact ih_102 M_102 hI_102 hF_102 z139_ (lf_c_X9_yardsToFull_1 v5_102 z139_ hv0_102 h140_ ) (lf_c_X0_chooseSpots_2 v5_102 z139_ h92_ h140_ ) (RCH.tail hL_102 ⟨hv0_102, hv1_102, hI_102, hF_102, h92_, z96_, e97_, (Or.inr ⟨h98_, r125_, hs129_, r132_, hs136_, (Or.inl ⟨h137_, z139_, h140_, rfl, rfl⟩)⟩)⟩) (Nat.lt_of_lt_of_le (lf_c_X0_chooseSpots_3 v5_102 z139_ h92_ h140_ ) (Nat.le_of_lt_succ hm_102))
                  · refine w_iconst (v := 1) dX0_choosePosts_132 (by decide) ?_
                    refine w_goto (tgt := 137) dX0_choosePosts_133 (by decide) ?_
                    refine w_istore (ls' := [(6, vI 1), (5, vI v5_102), (0, vR (0, 0, 0)), (1, vR (10, b, 0)), (2, vI v), (3, vR (6, 0, w)), (4, vR (6, 0, w2))]) dX0_choosePosts_137 (by decide) rfl ?_
                    refine w_iload dX0_choosePosts_139 0 rfl ?_
                    refine w_if_eq (tgt := 175) dX0_choosePosts_141 (by decide) li_1 (fun h9 => (absurd h9 (by decide))) (fun h141_ => ?_)
                    refine w_iload dX0_choosePosts_144 1 rfl ?_
                    refine w_iconst (v := 1) dX0_choosePosts_146 (by decide) ?_
                    refine w_aload_n dX0_choosePosts_147 rfl 5 rfl ?_
                    refine w_getI fl_RX0_65 rfl rfl (ic_6 hw) dX0_choosePosts_148 (fun z142_ e143_ => ?_)
                    have h144_ : 0 ≤ z142_.toInt ∧ z142_.toInt ≤ 24 := ofEq (P := fun v => 0 ≤ v.toInt ∧ v.toInt ≤ 24) e143_ (hI_102 (6, 0, w) 1 rfl)
                    refine w_ishl dX0_choosePosts_151 (fun z145_ h146_ => ?_)
                    refine w_icmp_ge (tgt := 175) dX0_choosePosts_152 (by decide) (rfl : v5_102.toInt = v5_102.toInt) (rfl : z145_.toInt = z145_.toInt) (fun h147_ => ?_) (fun h147_ => ?_)
                    · refine w_iincB (j := 1) (f := fun z148_ => [(5, vI z148_), (6, vI 1), (0, vR (0, 0, 0)), (1, vR (10, b, 0)), (2, vI v), (3, vR (6, 0, w)), (4, vR (6, 0, w2))]) dX0_choosePosts_175 rfl (by decide) (fun _ => rfl) (rfl : v5_102.toInt = v5_102.toInt) li_1 (lf_c_X0_chooseSpots_0 v5_102 hv0_102 h92_ ) (fun z148_ h149_ => ?_)
                      refine w_goto (tgt := 102) dX0_choosePosts_178 (by decide) ?_
                      refine w_loc (ls' := [(5, vI z148_), (0, vR (0, 0, 0)), (1, vR (10, b, 0)), (2, vI v), (3, vR (6, 0, w)), (4, vR (6, 0, w2))]) [0, 2, 3, 4, 5, 6] rfl ?_
                      exact ih_102 M_102 hI_102 hF_102 z148_ (lf_c_X9_yardsToFull_1 v5_102 z148_ hv0_102 h149_ ) (lf_c_X0_chooseSpots_2 v5_102 z148_ h92_ h149_ ) (RCH.tail hL_102 ⟨hv0_102, hv1_102, hI_102, hF_102, h92_, z96_, e97_, (Or.inr ⟨h98_, r125_, hs129_, r132_, hs136_, (Or.inr ⟨h137_, z142_, e143_, h144_, z145_, h146_, (Or.inl ⟨h147_, z148_, h149_, rfl, rfl⟩)⟩)⟩)⟩) (Nat.lt_of_lt_of_le (lf_c_X0_chooseSpots_3 v5_102 z148_ h92_ h149_ ) (Nat.le_of_lt_succ hm_102))
                    · refine w_aload_n dX0_choosePosts_155 rfl 2 rfl ?_
                      refine w_iload dX0_choosePosts_156 1 rfl ?_
                      refine w_aload dX0_choosePosts_158 6 rfl ?_
                      refine w_getI fl_RX0_65 rfl rfl (ic_6 hw2) dX0_choosePosts_160 (fun z150_ e151_ => ?_)
                      have h152_ : 0 ≤ z150_.toInt ∧ z150_.toInt ≤ 24 := ofEq (P := fun v => 0 ≤ v.toInt ∧ v.toInt ≤ 24) e151_ (hI_102 (6, 0, w2) 1 rfl)
                      refine w_callV (as := [vI v5_102, vI z150_]) (rest := []) (c_X0_servesAll l G cy ad (d + 3) v5_102 z150_ M_102 hI_102) kV_X0_servesAll pnn_11 (Nat.le_of_ble_eq_true rfl) m_1171 rfl rfl rfl ic_0 rfl rfl (by decide) (Nat.le_of_ble_eq_true rfl) dX0_choosePosts_163 (fun r153_ M154_ q155_ => ?_)
                      obtain ⟨rfl, h156_, hs157_⟩ := q155_
                      refine w_if_eq (tgt := 175) dX0_choosePosts_166 (by decide) (rfl : r153_.toInt = r153_.toInt) (fun h158_ => ?_) (fun h158_ => ?_)
                      · refine w_iincB (j := 1) (f := fun z159_ => [(5, vI z159_), (6, vI 1), (0, vR (0, 0, 0)), (1, vR (10, b, 0)), (2, vI v), (3, vR (6, 0, w)), (4, vR (6, 0, w2))]) dX0_choosePosts_175 rfl (by decide) (fun _ => rfl) (rfl : v5_102.toInt = v5_102.toInt) li_1 (lf_c_X0_chooseSpots_0 v5_102 hv0_102 h92_ ) (fun z159_ h160_ => ?_)
                        refine w_goto (tgt := 102) dX0_choosePosts_178 (by decide) ?_
                        refine w_loc (ls' := [(5, vI z159_), (0, vR (0, 0, 0)), (1, vR (10, b, 0)), (2, vI v), (3, vR (6, 0, w)), (4, vR (6, 0, w2))]) [0, 2, 3, 4, 5, 6] rfl ?_
                        exact ih_102 M_102 hI_102 hF_102 z159_ (lf_c_X9_yardsToFull_1 v5_102 z159_ hv0_102 h160_ ) (lf_c_X0_chooseSpots_2 v5_102 z159_ h92_ h160_ ) (RCH.tail hL_102 ⟨hv0_102, hv1_102, hI_102, hF_102, h92_, z96_, e97_, (Or.inr ⟨h98_, r125_, hs129_, r132_, hs136_, (Or.inr ⟨h137_, z142_, e143_, h144_, z145_, h146_, (Or.inr ⟨h147_, z150_, e151_, h152_, r153_, hs157_, h156_, (Or.inl ⟨h158_, z159_, h160_, rfl, rfl⟩)⟩)⟩)⟩)⟩) (Nat.lt_of_lt_of_le (lf_c_X0_chooseSpots_3 v5_102 z159_ h92_ h160_ ) (Nat.le_of_lt_succ hm_102))
                      · refine w_aload_n dX0_choosePosts_169 rfl 2 rfl ?_
                        refine w_iload dX0_choosePosts_170 1 rfl ?_
                        refine w_putI CC_nd fl_RX0_30 rfl rfl ic_0 dX0_choosePosts_172 (fun M161_ hM162_ => ?_)
                        have hI163_ := hI_102.put hM162_ trivial
                        have hF164_ := hF_102.put hM162_ (Or.inl ⟨rfl, rfl, rfl⟩)
                        refine w_iincB (j := 1) (f := fun z165_ => [(5, vI z165_), (6, vI 1), (0, vR (0, 0, 0)), (1, vR (10, b, 0)), (2, vI v), (3, vR (6, 0, w)), (4, vR (6, 0, w2))]) dX0_choosePosts_175 rfl (by decide) (fun _ => rfl) (rfl : v5_102.toInt = v5_102.toInt) li_1 (lf_c_X0_chooseSpots_0 v5_102 hv0_102 h92_ ) (fun z165_ h166_ => ?_)
                        refine w_goto (tgt := 102) dX0_choosePosts_178 (by decide) ?_
                        refine w_loc (ls' := [(5, vI z165_), (0, vR (0, 0, 0)), (1, vR (10, b, 0)), (2, vI v), (3, vR (6, 0, w)), (4, vR (6, 0, w2))]) [0, 2, 3, 4, 5, 6] rfl ?_
                        exact ih_102 M161_ hI163_ hF164_ z165_ (lf_c_X9_yardsToFull_1 v5_102 z165_ hv0_102 h166_ ) (lf_c_X0_chooseSpots_2 v5_102 z165_ h92_ h166_ ) (RCH.tail hL_102 ⟨hv0_102, hv1_102, hI_102, hF_102, h92_, z96_, e97_, (Or.inr ⟨h98_, r125_, hs129_, r132_, hs136_, (Or.inr ⟨h137_, z142_, e143_, h144_, z145_, h146_, (Or.inr ⟨h147_, z150_, e151_, h152_, r153_, hs157_, h156_, (Or.inr ⟨h158_, M161_, hM162_, z165_, h166_, rfl, rfl⟩)⟩)⟩)⟩)⟩) (Nat.lt_of_lt_of_le (lf_c_X0_chooseSpots_3 v5_102 z165_ h92_ h166_ ) (Nat.le_of_lt_succ hm_102))
          exact lp91_ _ M87_ hI89_ hF90_ 1 (lf_c_X9_yardsToFull_4 ) (lf_c_X0_chooseSpots_17 ) RCH.refl (Nat.lt_succ_self _)
        · refine w_aload_n dX0_choosePosts_20 rfl 1 rfl ?_
          refine w_getR (c' := (23, 0, 0)) fl_RX0_23 rfl rfl ic_0 dX0_choosePosts_21 rfl ?_
          refine w_iload dX0_choosePosts_24 0 rfl ?_
          refine w_iconst (v := 0) dX0_choosePosts_26 (by decide) ?_
          refine w_iast CC_nd rfl rfl ic_23 (rfl : v5_3.toInt = v5_3.toInt) (lf_c_X9_kindAbove_0 v5_3 hv0_3 h86_ ) dX0_choosePosts_27 (fun j169_ h170_ M167_ hM168_ => ?_)
          have hI171_ := hI_3.put hM168_ trivial
          have hF172_ := hF_3.put hM168_ (Or.inr (Or.inl ⟨rfl, rfl⟩))
          refine w_iconst (v := 0) dX0_choosePosts_28 (by decide) ?_
          refine w_istore (ls' := [(6, vI 0), (5, vI v5_3), (0, vR (0, 0, 0)), (1, vR (10, b, 0)), (2, vI v), (3, vR (6, 0, w)), (4, vR (6, 0, w2))]) dX0_choosePosts_29 (by decide) rfl ?_
          have lp173_ : ∀ (nn_31 : Nat) (M_31 : mM) (hI_31 : Inv M_31) (hF_31 : FR (S_c_X0_choosePosts b w w2) Mz M_31) (v6_31 : Int32) (hv0_31 : 0 ≤ v6_31.toInt) (hL_31 : RCH (fun x_ y_ => ST_X0_choosePosts_31 b w w2 v Mz v5_3 x_.1 x_.2 y_.1 y_.2) ((0 : Int32), M167_) (v6_31, M_31)), (2147483648 - v6_31.toInt).toNat < nn_31 → WP CC l G cy ad yX0_choosePosts cX0_choosePosts 7 (some .boolean) (d + 4) 31 [(6, vI v6_31), (5, vI v5_3), (0, vR (0, 0, 0)), (1, vR (10, b, 0)), (2, vI v), (3, vR (6, 0, w)), (4, vR (6, 0, w2))] [] M_31 (fun r M' => Inv M' ∧ FR (S_c_X0_choosePosts b w w2) Mz M' ∧ ((0 ≤ r.toInt ∧ r.toInt ≤ 1)) ∧ SP_X0_choosePosts b w w2 v Mz r M') := by
            intro nn_31
            induction nn_31 with
            | zero => intro M_31 hI_31 hF_31 v6_31 hv0_31 hL_31 hm_31; exact absurd hm_31 (Nat.not_lt_zero _)
            | succ nn_31 ih_31 =>
              intro M_31 hI_31 hF_31 v6_31 hv0_31 hL_31 hm_31
              refine w_iload dX0_choosePosts_31 0 rfl ?_
              refine w_aload_n dX0_choosePosts_33 rfl 5 rfl ?_
              refine w_getI fl_RX0_65 rfl rfl (ic_6 hw) dX0_choosePosts_34 (fun z174_ e175_ => ?_)
              have h176_ : 0 ≤ z174_.toInt ∧ z174_.toInt ≤ 24 := ofEq (P := fun v => 0 ≤ v.toInt ∧ v.toInt ≤ 24) e175_ (hI_31 (6, 0, w) 1 rfl)
              refine w_icmp_ge (tgt := 88) dX0_choosePosts_37 (by decide) (rfl : v6_31.toInt = v6_31.toInt) (rfl : z174_.toInt = z174_.toInt) (fun h177_ => ?_) (fun h177_ => ?_)
              · refine w_iincB (j := 1) (f := fun z178_ => [(5, vI z178_), (6, vI v6_31), (0, vR (0, 0, 0)), (1, vR (10, b, 0)), (2, vI v), (3, vR (6, 0, w)), (4, vR (6, 0, w2))]) dX0_choosePosts_88 rfl (by decide) (fun _ => rfl) (rfl : v5_3.toInt = v5_3.toInt) li_1 (lf_c_X9_isOf_0 v5_3 hv0_3 h86_ ) (fun z178_ h179_ => ?_)
                refine w_goto (tgt := 3) dX0_choosePosts_91 (by decide) ?_
                refine w_loc (ls' := [(5, vI z178_), (0, vR (0, 0, 0)), (1, vR (10, b, 0)), (2, vI v), (3, vR (6, 0, w)), (4, vR (6, 0, w2))]) [0, 2, 3, 4, 5, 6] rfl ?_
                exact ih_3 M_31 hI_31 hF_31 z178_ (lf_c_X5_takeFrom_3 v5_3 z178_ hv0_3 h179_ ) (RCH.tail hL_3 ⟨hv0_3, hI_3, hF_3, z2_, e3_, h4_, h5_, h86_, j169_, h170_, M167_, hM168_, v6_31, hv0_31, M_31, hL_31, hI_31, hF_31, z174_, e175_, h176_, (Or.inl ⟨h177_, z178_, h179_, rfl, rfl⟩)⟩) (Nat.lt_of_lt_of_le (lf_c_X9_isOf_3 v5_3 z178_ h86_ h179_ ) (Nat.le_of_lt_succ hm_3))
              · refine w_iload dX0_choosePosts_40 0 rfl ?_
                refine w_bipush (v := 8) dX0_choosePosts_42 (by decide) ?_
                refine w_icmp_ge (tgt := 88) dX0_choosePosts_44 (by decide) (rfl : v6_31.toInt = v6_31.toInt) li_8 (fun h180_ => ?_) (fun h180_ => ?_)
                · refine w_iincB (j := 1) (f := fun z181_ => [(5, vI z181_), (6, vI v6_31), (0, vR (0, 0, 0)), (1, vR (10, b, 0)), (2, vI v), (3, vR (6, 0, w)), (4, vR (6, 0, w2))]) dX0_choosePosts_88 rfl (by decide) (fun _ => rfl) (rfl : v5_3.toInt = v5_3.toInt) li_1 (lf_c_X9_isOf_0 v5_3 hv0_3 h86_ ) (fun z181_ h182_ => ?_)
                  refine w_goto (tgt := 3) dX0_choosePosts_91 (by decide) ?_
                  refine w_loc (ls' := [(5, vI z181_), (0, vR (0, 0, 0)), (1, vR (10, b, 0)), (2, vI v), (3, vR (6, 0, w)), (4, vR (6, 0, w2))]) [0, 2, 3, 4, 5, 6] rfl ?_
                  exact ih_3 M_31 hI_31 hF_31 z181_ (lf_c_X5_takeFrom_3 v5_3 z181_ hv0_3 h182_ ) (RCH.tail hL_3 ⟨hv0_3, hI_3, hF_3, z2_, e3_, h4_, h5_, h86_, j169_, h170_, M167_, hM168_, v6_31, hv0_31, M_31, hL_31, hI_31, hF_31, z174_, e175_, h176_, (Or.inr ⟨h177_, h180_, z181_, h182_, rfl, rfl⟩)⟩) (Nat.lt_of_lt_of_le (lf_c_X9_isOf_3 v5_3 z181_ h86_ h182_ ) (Nat.le_of_lt_succ hm_3))
                · refine w_aload_n dX0_choosePosts_47 rfl 3 rfl ?_
                  refine w_iload_n dX0_choosePosts_48 rfl 4 rfl ?_
                  refine w_aload dX0_choosePosts_49 6 rfl ?_
                  refine w_iload dX0_choosePosts_51 1 rfl ?_
                  refine w_callV (as := [vI v5_3]) (rest := [vI v, vR (10, b, 0)]) (c_X6_numberAt l G cy ad (d + 2) w2 v5_3 M_31 hI_31 hw2) kV_X6_numberAt pnn_4 (Nat.le_of_ble_eq_true rfl) m_992 rfl rfl rfl (ic_6 hw2) rfl rfl (by decide) (Nat.le_of_ble_eq_true rfl) dX0_choosePosts_53 (fun r183_ M184_ q185_ => ?_)
                  obtain ⟨rfl, h186_, hs187_⟩ := q185_
                  refine w_aload_n dX0_choosePosts_56 rfl 5 rfl ?_
                  refine w_iload dX0_choosePosts_57 0 rfl ?_
                  refine w_callV (as := [vI v6_31]) (rest := [vI r183_, vI v, vR (10, b, 0)]) (c_X6_numberAt l G cy ad (d + 2) w v6_31 M_31 hI_31 hw) kV_X6_numberAt pnn_4 (Nat.le_of_ble_eq_true rfl) m_992 rfl rfl rfl (ic_6 hw) rfl rfl (by decide) (Nat.le_of_ble_eq_true rfl) dX0_choosePosts_59 (fun r188_ M189_ q190_ => ?_)
                  obtain ⟨rfl, h191_, hs192_⟩ := q190_
                  refine w_callS (as := [vR (10, b, 0), vI v, vI r183_, vI r188_]) (rest := []) (c_X0_wouldHear l G cy ad d b v r183_ r188_ M_31 hI_31 hb) kS_X0_wouldHear pnn_11 (Nat.le_of_ble_eq_true rfl) m_1163 rfl rfl (by decide) (Nat.le_of_ble_eq_true rfl) dX0_choosePosts_62 (fun r193_ M194_ q195_ => ?_)
                  obtain ⟨hI197_, hF198_, h196_, hs200_⟩ := q195_
                  have hF199_ := hF_31.tr hF198_ (fun c k => (fun h => h.elim (fun h => (Or.inr (Or.inr (Or.inl ⟨h.1, h.2.1, h.2.2⟩)))) (fun h => h.elim (fun h => (Or.inr (Or.inr (Or.inr (Or.inl ⟨h.1, h.2.1, h.2.2⟩))))) (fun h => h.elim (fun h => (Or.inr (Or.inr (Or.inr (Or.inr (Or.inl ⟨h.1, h.2.1, h.2.2⟩)))))) (fun h => h.elim (fun h => (Or.inr (Or.inr (Or.inr (Or.inr (Or.inr (Or.inl ⟨h.1, h.2.1, h.2.2⟩))))))) (fun h => h.elim (fun h => (Or.inr (Or.inr (Or.inr (Or.inr (Or.inr (Or.inr (Or.inl ⟨h.1, h.2.1, h.2.2⟩)))))))) (fun h => h.elim (fun h => (Or.inr (Or.inr (Or.inr (Or.inr (Or.inr (Or.inr (Or.inr (Or.inl ⟨h.1, h.2.1, h.2.2⟩))))))))) (fun h => h.elim))))))))
                  refine w_if_eq (tgt := 82) dX0_choosePosts_65 (by decide) (rfl : r193_.toInt = r193_.toInt) (fun h201_ => ?_) (fun h201_ => ?_)
                  · refine w_iincB (j := 0) (f := fun z202_ => [(6, vI z202_), (5, vI v5_3), (0, vR (0, 0, 0)), (1, vR (10, b, 0)), (2, vI v), (3, vR (6, 0, w)), (4, vR (6, 0, w2))]) dX0_choosePosts_82 rfl (by decide) (fun _ => rfl) (rfl : v6_31.toInt = v6_31.toInt) li_1 (lf_c_X9_isOf_0 v6_31 hv0_31 h180_ ) (fun z202_ h203_ => ?_)
                    refine w_goto (tgt := 31) dX0_choosePosts_85 (by decide) ?_
                    refine w_loc (ls' := [(6, vI z202_), (5, vI v5_3), (0, vR (0, 0, 0)), (1, vR (10, b, 0)), (2, vI v), (3, vR (6, 0, w)), (4, vR (6, 0, w2))]) [0, 1, 2, 3, 4, 5, 6] rfl ?_
                    exact ih_31 M194_ hI197_ hF199_ z202_ (lf_c_X5_takeFrom_3 v6_31 z202_ hv0_31 h203_ ) (RCH.tail hL_31 ⟨hv0_31, hI_31, hF_31, z174_, e175_, h176_, h177_, h180_, r183_, hs187_, r188_, hs192_, M194_, hI197_, hF198_, r193_, hs200_, h196_, (Or.inl ⟨h201_, z202_, h203_, rfl, rfl⟩)⟩) (Nat.lt_of_lt_of_le (lf_c_X9_isOf_3 v6_31 z202_ h180_ h203_ ) (Nat.le_of_lt_succ hm_31))
                  · refine w_aload_n dX0_choosePosts_68 rfl 2 rfl ?_
                    refine w_getR (c' := (23, 0, 0)) fl_RX0_23 rfl rfl ic_0 dX0_choosePosts_69 rfl ?_
                    refine w_iload dX0_choosePosts_72 1 rfl ?_
                    refine w_dup2 dX0_choosePosts_74 rfl rfl ?_
                    refine w_iald rfl rfl ic_23 (rfl : v5_3.toInt = v5_3.toInt) (lf_c_X9_kindAbove_0 v5_3 hv0_3 h86_ ) dX0_choosePosts_75 (fun j206_ h207_ z204_ e205_ => ?_)
                    refine w_iconst (v := 1) dX0_choosePosts_76 (by decide) ?_
                    refine w_iload dX0_choosePosts_77 0 rfl ?_
                    refine w_ishl dX0_choosePosts_79 (fun z208_ h209_ => ?_)
                    refine w_ior dX0_choosePosts_80 (fun z210_ h211_ => ?_)
                    refine w_iast CC_nd rfl rfl ic_23 (rfl : v5_3.toInt = v5_3.toInt) (lf_c_X9_kindAbove_0 v5_3 hv0_3 h86_ ) dX0_choosePosts_81 (fun j214_ h215_ M212_ hM213_ => ?_)
                    have hI216_ := hI197_.put hM213_ trivial
                    have hF217_ := hF199_.put hM213_ (Or.inr (Or.inl ⟨rfl, rfl⟩))
                    refine w_iincB (j := 0) (f := fun z218_ => [(6, vI z218_), (5, vI v5_3), (0, vR (0, 0, 0)), (1, vR (10, b, 0)), (2, vI v), (3, vR (6, 0, w)), (4, vR (6, 0, w2))]) dX0_choosePosts_82 rfl (by decide) (fun _ => rfl) (rfl : v6_31.toInt = v6_31.toInt) li_1 (lf_c_X9_isOf_0 v6_31 hv0_31 h180_ ) (fun z218_ h219_ => ?_)
                    refine w_goto (tgt := 31) dX0_choosePosts_85 (by decide) ?_
                    refine w_loc (ls' := [(6, vI z218_), (5, vI v5_3), (0, vR (0, 0, 0)), (1, vR (10, b, 0)), (2, vI v), (3, vR (6, 0, w)), (4, vR (6, 0, w2))]) [0, 1, 2, 3, 4, 5, 6] rfl ?_
                    exact ih_31 M212_ hI216_ hF217_ z218_ (lf_c_X5_takeFrom_3 v6_31 z218_ hv0_31 h219_ ) (RCH.tail hL_31 ⟨hv0_31, hI_31, hF_31, z174_, e175_, h176_, h177_, h180_, r183_, hs187_, r188_, hs192_, M194_, hI197_, hF198_, r193_, hs200_, h196_, (Or.inr ⟨h201_, j206_, h207_, z204_, e205_, z208_, h209_, z210_, h211_, j214_, h215_, M212_, hM213_, z218_, h219_, rfl, rfl⟩)⟩) (Nat.lt_of_lt_of_le (lf_c_X9_isOf_3 v6_31 z218_ h180_ h219_ ) (Nat.le_of_lt_succ hm_31))
          exact lp173_ _ M167_ hI171_ hF172_ 0 (lf_c_X5_takeFrom_5 ) RCH.refl (Nat.lt_succ_self _)
  exact lp1_ _ Mz hIz hFz 0 (lf_c_X5_takeFrom_5 ) RCH.refl (Nat.lt_succ_self _)
end
section
/-! odds and ends -/
theorem sub3_ne {z : Int32} (h : ¬ z.toInt = 3) : ¬ z - 3 = 0 := by
  intro q
  have h1 := congrArg Int32.toInt q
  rw [Int32.toInt_sub, show (3 : Int32).toInt = 3 from rfl, show (0 : Int32).toInt = 0 from rfl, Int.bmod_def] at h1
  have h2 := rngI z
  split at h1 <;> omega
end
section
/-! words of the tables that are used, by their places; decode rows; fields -/
theorem li_m1000000 : ((-1000000) : Int32).toInt = -1000000 := by decide
theorem li_11 : (11 : Int32).toInt = 11 := by decide
theorem li_20 : (20 : Int32).toInt = 20 := by decide
theorem li_30 : (30 : Int32).toInt = 30 := by decide
theorem li_90 : (90 : Int32).toInt = 90 := by decide
theorem m_0 : Cond.selects yX11_error.cls yX11_error yX11_error ∈ BASE := bmem 0 (by decide +kernel) rfl
set_option maxRecDepth 20000 in
theorem m_419 : Cond.fieldLink RX8 12 "ClickStreet$Voices" "begun" "LClickStreet$Row;" ∈ BASE := bmT2 101 rfl rfl
set_option maxRecDepth 20000 in
theorem m_420 : Cond.fieldLink RX8 18 "ClickStreet$Voices" "trace" "LClickStreet$Row;" ∈ BASE := bmT2 102 rfl rfl
set_option maxRecDepth 20000 in
theorem m_423 : Cond.fieldLink RX8 25 "ClickStreet$Voices" "number" "I" ∈ BASE := bmT2 105 rfl rfl
set_option maxRecDepth 20000 in
theorem m_425 : Cond.fieldLink RX8 31 "ClickStreet$Voices" "isParted" "Z" ∈ BASE := bmT2 107 rfl rfl
set_option maxRecDepth 20000 in
theorem m_459 : Cond.fieldLink RX11 10 "ClickStreet" "live" "LClickStreet$World;" ∈ BASE := bmT2 141 rfl rfl
set_option maxRecDepth 20000 in
theorem m_462 : Cond.fieldLink RX11 24 "ClickStreet" "sheets" "[LClickStreet$Sheet;" ∈ BASE := bmT2 144 rfl rfl
set_option maxRecDepth 20000 in
theorem m_463 : Cond.fieldLink RX11 28 "ClickStreet" "errors" "[I" ∈ BASE := bmT2 145 rfl rfl
set_option maxRecDepth 20000 in
theorem m_491 : Cond.methodLink RX11 58 yX11_isThingKind ∈ BASE := bmT2 173 rfl rfl
set_option maxRecDepth 20000 in
theorem m_492 : Cond.static yX11_isThingKind ∈ BASE := bmT2 174 rfl rfl
set_option maxRecDepth 20000 in
theorem m_493 : Cond.code yX11_isThingKind cX11_isThingKind 1 (some .boolean) ∈ BASE := bmT2 175 rfl rfl
set_option maxRecDepth 20000 in
theorem m_497 : Cond.methodLink RX11 62 yX7_isCell ∈ BASE := bmT2 179 rfl rfl
set_option maxRecDepth 20000 in
theorem m_500 : Cond.methodLink RX11 67 yX11_error ∈ BASE := bmT2 182 rfl rfl
set_option maxRecDepth 20000 in
theorem m_502 : Cond.instanceMethod yX11_error ∈ BASE := bmT2 184 rfl rfl
set_option maxRecDepth 20000 in
theorem m_503 : Cond.code yX11_error cX11_error 2 (some .int) ∈ BASE := bmT2 185 rfl rfl
set_option maxRecDepth 20000 in
theorem m_504 : Cond.constant RX11 398 (-1000000) ∈ BASE := bmT2 186 rfl rfl
set_option maxRecDepth 20000 in
theorem m_505 : Cond.methodLink RX11 75 yX7_isFree ∈ BASE := bmT2 187 rfl rfl
set_option maxRecDepth 20000 in
theorem m_510 : Cond.methodLink RX11 78 yX7_hasRoom ∈ BASE := bmT2 192 rfl rfl
set_option maxRecDepth 20000 in
theorem m_511 : Cond.instanceMethod yX7_hasRoom ∈ BASE := bmT2 193 rfl rfl
set_option maxRecDepth 20000 in
theorem m_512 : Cond.selects yX7_hasRoom.cls yX7_hasRoom yX7_hasRoom ∈ BASE := bmT2 194 rfl rfl
set_option maxRecDepth 20000 in
theorem m_513 : Cond.code yX7_hasRoom cX7_hasRoom 1 (some .boolean) ∈ BASE := bmT2 195 rfl rfl
set_option maxRecDepth 20000 in
theorem m_514 : Cond.methodLink RX11 82 yX7_addThing ∈ BASE := bmT2 196 rfl rfl
set_option maxRecDepth 20000 in
theorem m_515 : Cond.instanceMethod yX7_addThing ∈ BASE := bmT2 197 rfl rfl
set_option maxRecDepth 20000 in
theorem m_516 : Cond.selects yX7_addThing.cls yX7_addThing yX7_addThing ∈ BASE := bmT2 198 rfl rfl
set_option maxRecDepth 20000 in
theorem m_517 : Cond.code yX7_addThing cX7_addThing 4 (some .int) ∈ BASE := bmT2 199 rfl rfl
set_option maxRecDepth 20000 in
theorem m_526 : Cond.methodLink RX11 86 yX7_hasThing ∈ BASE := bmT2 208 rfl rfl
set_option maxRecDepth 20000 in
theorem m_530 : Cond.methodLink RX11 93 yX7_factOf ∈ BASE := bmT2 212 rfl rfl
set_option maxRecDepth 20000 in
theorem m_531 : Cond.instanceMethod yX7_factOf ∈ BASE := bmT2 213 rfl rfl
set_option maxRecDepth 20000 in
theorem m_532 : Cond.selects yX7_factOf.cls yX7_factOf yX7_factOf ∈ BASE := bmT2 214 rfl rfl
set_option maxRecDepth 20000 in
theorem m_533 : Cond.code yX7_factOf cX7_factOf 3 (some .int) ∈ BASE := bmT2 215 rfl rfl
set_option maxRecDepth 20000 in
theorem m_539 : Cond.methodLink RX11 96 yX7_isSide ∈ BASE := bmT2 221 rfl rfl
set_option maxRecDepth 20000 in
theorem m_546 : Cond.methodLink RX11 111 yX7_takeAway ∈ BASE := bmT2 228 rfl rfl
set_option maxRecDepth 20000 in
theorem m_547 : Cond.instanceMethod yX7_takeAway ∈ BASE := bmT2 229 rfl rfl
set_option maxRecDepth 20000 in
theorem m_548 : Cond.selects yX7_takeAway.cls yX7_takeAway yX7_takeAway ∈ BASE := bmT2 230 rfl rfl
set_option maxRecDepth 20000 in
theorem m_549 : Cond.code yX7_takeAway cX7_takeAway 3 (some .int) ∈ BASE := bmT2 231 rfl rfl
set_option maxRecDepth 20000 in
theorem m_554 : Cond.methodLink RX11 118 yX2_changeKind ∈ BASE := bmT2 236 rfl rfl
set_option maxRecDepth 20000 in
theorem m_555 : Cond.instanceMethod yX2_changeKind ∈ BASE := bmT2 237 rfl rfl
set_option maxRecDepth 20000 in
theorem m_556 : Cond.selects yX2_changeKind.cls yX2_changeKind yX2_changeKind ∈ BASE := bmT2 238 rfl rfl
set_option maxRecDepth 20000 in
theorem m_557 : Cond.code yX2_changeKind cX2_changeKind 6 (some .int) ∈ BASE := bmT2 239 rfl rfl
set_option maxRecDepth 20000 in
theorem m_566 : Cond.methodLink RX11 127 yX11_isSheet ∈ BASE := bmT3 8 rfl rfl
set_option maxRecDepth 20000 in
theorem m_567 : Cond.static yX11_isSheet ∈ BASE := bmT3 9 rfl rfl
set_option maxRecDepth 20000 in
theorem m_568 : Cond.code yX11_isSheet cX11_isSheet 1 (some .boolean) ∈ BASE := bmT3 10 rfl rfl
set_option maxRecDepth 20000 in
theorem m_569 : Cond.methodLink RX11 130 yX6_isMissing ∈ BASE := bmT3 11 rfl rfl
set_option maxRecDepth 20000 in
theorem m_570 : Cond.instanceMethod yX6_isMissing ∈ BASE := bmT3 12 rfl rfl
set_option maxRecDepth 20000 in
theorem m_571 : Cond.selects yX6_isMissing.cls yX6_isMissing yX6_isMissing ∈ BASE := bmT3 13 rfl rfl
set_option maxRecDepth 20000 in
theorem m_572 : Cond.code yX6_isMissing cX6_isMissing 1 (some .boolean) ∈ BASE := bmT3 14 rfl rfl
set_option maxRecDepth 20000 in
theorem m_573 : Cond.methodLink RX11 139 yX6_numberAt ∈ BASE := bmT3 15 rfl rfl
set_option maxRecDepth 20000 in
theorem m_585 : Cond.methodLink RX11 142 yX2_changeAir ∈ BASE := bmT3 27 rfl rfl
set_option maxRecDepth 20000 in
theorem m_586 : Cond.instanceMethod yX2_changeAir ∈ BASE := bmT3 28 rfl rfl
set_option maxRecDepth 20000 in
theorem m_587 : Cond.selects yX2_changeAir.cls yX2_changeAir yX2_changeAir ∈ BASE := bmT3 29 rfl rfl
set_option maxRecDepth 20000 in
theorem m_588 : Cond.code yX2_changeAir cX2_changeAir 4 (some .int) ∈ BASE := bmT3 30 rfl rfl
set_option maxRecDepth 20000 in
theorem m_593 : Cond.methodLink RX11 145 yX11_isWalkerKind ∈ BASE := bmT3 35 rfl rfl
set_option maxRecDepth 20000 in
theorem m_594 : Cond.static yX11_isWalkerKind ∈ BASE := bmT3 36 rfl rfl
set_option maxRecDepth 20000 in
theorem m_595 : Cond.code yX11_isWalkerKind cX11_isWalkerKind 1 (some .boolean) ∈ BASE := bmT3 37 rfl rfl
set_option maxRecDepth 20000 in
theorem m_596 : Cond.methodLink RX11 151 yX10_addWalker ∈ BASE := bmT3 38 rfl rfl
set_option maxRecDepth 20000 in
theorem m_597 : Cond.instanceMethod yX10_addWalker ∈ BASE := bmT3 39 rfl rfl
set_option maxRecDepth 20000 in
theorem m_598 : Cond.selects yX10_addWalker.cls yX10_addWalker yX10_addWalker ∈ BASE := bmT3 40 rfl rfl
set_option maxRecDepth 20000 in
theorem m_599 : Cond.code yX10_addWalker cX10_addWalker 5 (some .int) ∈ BASE := bmT3 41 rfl rfl
set_option maxRecDepth 20000 in
theorem m_609 : Cond.methodLink RX11 154 yX10_hasWalker ∈ BASE := bmT3 51 rfl rfl
set_option maxRecDepth 20000 in
theorem m_613 : Cond.methodLink RX11 161 yX9_factOf ∈ BASE := bmT3 55 rfl rfl
set_option maxRecDepth 20000 in
theorem m_614 : Cond.instanceMethod yX9_factOf ∈ BASE := bmT3 56 rfl rfl
set_option maxRecDepth 20000 in
theorem m_615 : Cond.selects yX9_factOf.cls yX9_factOf yX9_factOf ∈ BASE := bmT3 57 rfl rfl
set_option maxRecDepth 20000 in
theorem m_616 : Cond.code yX9_factOf cX9_factOf 2 (some .int) ∈ BASE := bmT3 58 rfl rfl
set_option maxRecDepth 20000 in
theorem m_639 : Cond.methodLink RX11 165 yX9_isOf ∈ BASE := bmT3 81 rfl rfl
set_option maxRecDepth 20000 in
theorem m_648 : Cond.methodLink RX11 168 yX9_reach ∈ BASE := bmT3 90 rfl rfl
set_option maxRecDepth 20000 in
theorem m_653 : Cond.methodLink RX11 172 yX2_isClick ∈ BASE := bmT3 95 rfl rfl
set_option maxRecDepth 20000 in
theorem m_839 : Cond.methodLink RX11 227 yX2_isClick_ ∈ BASE := bmT4 41 rfl rfl
set_option maxRecDepth 20000 in
theorem m_840 : Cond.static yX2_isClick_ ∈ BASE := bmT4 42 rfl rfl
set_option maxRecDepth 20000 in
theorem m_841 : Cond.code yX2_isClick_ cX2_isClick_ 1 (some .boolean) ∈ BASE := bmT4 43 rfl rfl
set_option maxRecDepth 20000 in
theorem m_843 : Cond.methodLink RX11 232 yX10_echoYards ∈ BASE := bmT4 45 rfl rfl
set_option maxRecDepth 20000 in
theorem m_861 : Cond.methodLink RX11 235 yX10_echoFact ∈ BASE := bmT4 63 rfl rfl
set_option maxRecDepth 20000 in
theorem m_862 : Cond.instanceMethod yX10_echoFact ∈ BASE := bmT4 64 rfl rfl
set_option maxRecDepth 20000 in
theorem m_863 : Cond.selects yX10_echoFact.cls yX10_echoFact yX10_echoFact ∈ BASE := bmT4 65 rfl rfl
set_option maxRecDepth 20000 in
theorem m_864 : Cond.code yX10_echoFact cX10_echoFact 10 (some .int) ∈ BASE := bmT4 66 rfl rfl
set_option maxRecDepth 20000 in
theorem m_896 : Cond.methodLink RX11 239 yX10_makeClick ∈ BASE := bmT4 98 rfl rfl
set_option maxRecDepth 20000 in
theorem m_929 : Cond.methodLink RX11 248 yX9_held ∈ BASE := bmT4 131 rfl rfl
set_option maxRecDepth 20000 in
theorem m_937 : Cond.methodLink RX11 251 yX10_countWrong ∈ BASE := bmT4 139 rfl rfl
set_option maxRecDepth 20000 in
theorem m_938 : Cond.instanceMethod yX10_countWrong ∈ BASE := bmT4 140 rfl rfl
set_option maxRecDepth 20000 in
theorem m_939 : Cond.selects yX10_countWrong.cls yX10_countWrong yX10_countWrong ∈ BASE := bmT4 141 rfl rfl
set_option maxRecDepth 20000 in
theorem m_940 : Cond.code yX10_countWrong cX10_countWrong 6 (some .int) ∈ BASE := bmT4 142 rfl rfl
set_option maxRecDepth 20000 in
theorem m_942 : Cond.methodLink RX11 254 yX9_countHeld ∈ BASE := bmT4 144 rfl rfl
set_option maxRecDepth 20000 in
theorem m_943 : Cond.instanceMethod yX9_countHeld ∈ BASE := bmT4 145 rfl rfl
set_option maxRecDepth 20000 in
theorem m_944 : Cond.selects yX9_countHeld.cls yX9_countHeld yX9_countHeld ∈ BASE := bmT4 146 rfl rfl
set_option maxRecDepth 20000 in
theorem m_945 : Cond.code yX9_countHeld cX9_countHeld 4 (some .int) ∈ BASE := bmT4 147 rfl rfl
set_option maxRecDepth 20000 in
theorem m_951 : Cond.methodLink RX11 257 yX9_ears ∈ BASE := bmT4 153 rfl rfl
set_option maxRecDepth 20000 in
theorem m_952 : Cond.methodLink RX11 260 yX2_kindsAlike ∈ BASE := bmT4 154 rfl rfl
set_option maxRecDepth 20000 in
theorem m_953 : Cond.instanceMethod yX2_kindsAlike ∈ BASE := bmT4 155 rfl rfl
set_option maxRecDepth 20000 in
theorem m_954 : Cond.selects yX2_kindsAlike.cls yX2_kindsAlike yX2_kindsAlike ∈ BASE := bmT4 156 rfl rfl
set_option maxRecDepth 20000 in
theorem m_955 : Cond.code yX2_kindsAlike cX2_kindsAlike 8 (some .int) ∈ BASE := bmT4 157 rfl rfl
set_option maxRecDepth 20000 in
theorem m_961 : Cond.methodLink RX11 264 yX2_leastPitch ∈ BASE := bmT4 163 rfl rfl
set_option maxRecDepth 20000 in
theorem m_962 : Cond.instanceMethod yX2_leastPitch ∈ BASE := bmT4 164 rfl rfl
set_option maxRecDepth 20000 in
theorem m_963 : Cond.selects yX2_leastPitch.cls yX2_leastPitch yX2_leastPitch ∈ BASE := bmT4 165 rfl rfl
set_option maxRecDepth 20000 in
theorem m_964 : Cond.code yX2_leastPitch cX2_leastPitch 5 (some .int) ∈ BASE := bmT4 166 rfl rfl
set_option maxRecDepth 20000 in
theorem m_965 : Cond.methodLink RX11 267 yX2_leastLoudness ∈ BASE := bmT4 167 rfl rfl
set_option maxRecDepth 20000 in
theorem m_966 : Cond.instanceMethod yX2_leastLoudness ∈ BASE := bmT4 168 rfl rfl
set_option maxRecDepth 20000 in
theorem m_967 : Cond.selects yX2_leastLoudness.cls yX2_leastLoudness yX2_leastLoudness ∈ BASE := bmT4 169 rfl rfl
set_option maxRecDepth 20000 in
theorem m_968 : Cond.code yX2_leastLoudness cX2_leastLoudness 5 (some .int) ∈ BASE := bmT4 170 rfl rfl
set_option maxRecDepth 20000 in
theorem m_973 : Cond.methodLink RX11 270 yX2_hears ∈ BASE := bmT4 175 rfl rfl
set_option maxRecDepth 20000 in
theorem m_1209 : Cond.methodLink RX8 46 yX5_takeFrom ∈ BASE := bmT5 171 rfl rfl
theorem kS_X11_isSheet : KS yX11_isSheet cX11_isSheet 1 (some .boolean) 1 := ⟨m_567, m_79, m_568, nhM_0, nhV_0, pdn_1⟩
theorem kS_X11_isThingKind : KS yX11_isThingKind cX11_isThingKind 1 (some .boolean) 1 := ⟨m_492, m_79, m_493, nhM_0, nhV_0, pdn_1⟩
theorem kS_X11_isWalkerKind : KS yX11_isWalkerKind cX11_isWalkerKind 1 (some .boolean) 1 := ⟨m_594, m_79, m_595, nhM_0, nhV_0, pdn_1⟩
theorem kS_X2_isClick_ : KS yX2_isClick_ cX2_isClick_ 1 (some .boolean) 1 := ⟨m_840, m_82, m_841, nhM_5, nhV_5, pdn_1⟩
theorem kV_X10_addWalker : KV yX10_addWalker cX10_addWalker 5 (some .int) 3 := ⟨m_597, m_598, m_80, m_599, nhM_7, nhV_7, pdn_3⟩
theorem kV_X10_countWrong : KV yX10_countWrong cX10_countWrong 6 (some .int) 1 := ⟨m_938, m_939, m_80, m_940, nhM_7, nhV_7, pdn_2⟩
theorem kV_X10_echoFact : KV yX10_echoFact cX10_echoFact 10 (some .int) 4 := ⟨m_862, m_863, m_80, m_864, nhM_7, nhV_7, pdn_25⟩
theorem kV_X11_error : KV yX11_error cX11_error 2 (some .int) 1 := ⟨m_502, m_0, m_79, m_503, nhM_0, nhV_0, pdn_2⟩
theorem kV_X2_changeAir : KV yX2_changeAir cX2_changeAir 4 (some .int) 2 := ⟨m_586, m_587, m_82, m_588, nhM_5, nhV_5, pdn_8⟩
theorem kV_X2_changeKind : KV yX2_changeKind cX2_changeKind 6 (some .int) 3 := ⟨m_555, m_556, m_82, m_557, nhM_5, nhV_5, pdn_3⟩
theorem kV_X2_kindsAlike : KV yX2_kindsAlike cX2_kindsAlike 8 (some .int) 5 := ⟨m_953, m_954, m_82, m_955, nhM_5, nhV_5, pdn_14⟩
theorem kV_X2_leastLoudness : KV yX2_leastLoudness cX2_leastLoudness 5 (some .int) 3 := ⟨m_966, m_967, m_82, m_968, nhM_5, nhV_5, pdn_3⟩
theorem kV_X2_leastPitch : KV yX2_leastPitch cX2_leastPitch 5 (some .int) 3 := ⟨m_962, m_963, m_82, m_964, nhM_5, nhV_5, pdn_3⟩
theorem kV_X6_isMissing : KV yX6_isMissing cX6_isMissing 1 (some .boolean) 0 := ⟨m_570, m_571, m_91, m_572, nhM_4, nhV_4, pdn_9⟩
theorem kV_X7_addThing : KV yX7_addThing cX7_addThing 4 (some .int) 2 := ⟨m_515, m_516, m_81, m_517, nhM_1, nhV_1, pdn_8⟩
theorem kV_X7_factOf : KV yX7_factOf cX7_factOf 3 (some .int) 2 := ⟨m_531, m_532, m_81, m_533, nhM_1, nhV_1, pdn_8⟩
theorem kV_X7_hasRoom : KV yX7_hasRoom cX7_hasRoom 1 (some .boolean) 0 := ⟨m_511, m_512, m_81, m_513, nhM_1, nhV_1, pdn_9⟩
theorem kV_X7_takeAway : KV yX7_takeAway cX7_takeAway 3 (some .int) 1 := ⟨m_547, m_548, m_81, m_549, nhM_1, nhV_1, pdn_2⟩
theorem kV_X9_countHeld : KV yX9_countHeld cX9_countHeld 4 (some .int) 1 := ⟨m_943, m_944, m_87, m_945, nhM_3, nhV_3, pdn_2⟩
theorem kV_X9_factOf : KV yX9_factOf cX9_factOf 2 (some .int) 1 := ⟨m_614, m_615, m_87, m_616, nhM_3, nhV_3, pdn_2⟩
theorem inB8 : ∀ w ∈ u_ws RX8 TX8 6, w ∈ BASE := bmems (u_ws RX8 TX8 6) [427, 429, 431, 433, 435, 437] (by decide +kernel) (by decide +kernel)
theorem inB11 : ∀ w ∈ u_ws RX11 TX11 9, w ∈ BASE := bmems (u_ws RX11 TX11 9) [468, 470, 472, 474, 476, 478, 480, 482, 484] (by decide +kernel) (by decide +kernel)
theorem fl_RX11_10 : FLK RX11 10 11 0 (.object "ClickStreet$World") true := ⟨RX11, TX11, 9, tyX11, rfl, inB11, tyX11_ok, nmX11, by decide, rfl, rfl, Or.inl m_459⟩
theorem fl_RX11_102 : FLK RX11 102 7 2 (.array .int) true := ⟨RX7, TX7, 6, tyX7, rfl, inB7, tyX7_ok, nmX7, by decide, rfl, rfl, Or.inr ⟨"ClickStreet", List.mem_of_getElem? (l := NFs) (i := 3) rfl⟩⟩
theorem fl_RX11_105 : FLK RX11 105 7 3 (.array .int) true := ⟨RX7, TX7, 6, tyX7, rfl, inB7, tyX7_ok, nmX7, by decide, rfl, rfl, Or.inr ⟨"ClickStreet", List.mem_of_getElem? (l := NFs) (i := 4) rfl⟩⟩
theorem fl_RX11_108 : FLK RX11 108 7 4 (.array .int) true := ⟨RX7, TX7, 6, tyX7, rfl, inB7, tyX7_ok, nmX7, by decide, rfl, rfl, Or.inr ⟨"ClickStreet", List.mem_of_getElem? (l := NFs) (i := 5) rfl⟩⟩
theorem fl_RX11_114 : FLK RX11 114 10 1 (.object "ClickStreet$Laws") true := ⟨RX10, TX10, 8, tyX10, rfl, inB10, tyX10_ok, nmX10, by decide, rfl, rfl, Or.inr ⟨"ClickStreet", List.mem_of_getElem? (l := NFs) (i := 32) rfl⟩⟩
theorem fl_RX11_124 : FLK RX11 124 7 0 (.array .int) true := ⟨RX7, TX7, 6, tyX7, rfl, inB7, tyX7_ok, nmX7, by decide, rfl, rfl, Or.inr ⟨"ClickStreet", List.mem_of_getElem? (l := NFs) (i := 1) rfl⟩⟩
theorem fl_RX11_133 : FLK RX11 133 6 0 .int false := ⟨RX6, TX6, 3, tyX6, rfl, inB6, tyX6_ok, nmX6, by decide, rfl, rfl, Or.inr ⟨"ClickStreet", List.mem_of_getElem? (l := NFs) (i := 46) rfl⟩⟩
theorem fl_RX11_136 : FLK RX11 136 6 1 .int false := ⟨RX6, TX6, 3, tyX6, rfl, inB6, tyX6_ok, nmX6, by decide, rfl, rfl, Or.inr ⟨"ClickStreet", List.mem_of_getElem? (l := NFs) (i := 48) rfl⟩⟩
theorem fl_RX11_148 : FLK RX11 148 10 6 .int false := ⟨RX10, TX10, 8, tyX10, rfl, inB10, tyX10_ok, nmX10, by decide, rfl, rfl, Or.inr ⟨"ClickStreet", List.mem_of_getElem? (l := NFs) (i := 39) rfl⟩⟩
theorem fl_RX11_157 : FLK RX11 157 10 5 (.array (.object "ClickStreet$Walker")) true := ⟨RX10, TX10, 8, tyX10, rfl, inB10, tyX10_ok, nmX10, by decide, rfl, rfl, Or.inr ⟨"ClickStreet", List.mem_of_getElem? (l := NFs) (i := 38) rfl⟩⟩
theorem fl_RX11_176 : FLK RX11 176 9 3 .int false := ⟨RX9, TX9, 11, tyX9, rfl, inB9, tyX9_ok, nmX9, by decide, rfl, rfl, Or.inr ⟨"ClickStreet", List.mem_of_getElem? (l := NFs) (i := 20) rfl⟩⟩
theorem fl_RX11_179 : FLK RX11 179 9 4 .int false := ⟨RX9, TX9, 11, tyX9, rfl, inB9, tyX9_ok, nmX9, by decide, rfl, rfl, Or.inr ⟨"ClickStreet", List.mem_of_getElem? (l := NFs) (i := 21) rfl⟩⟩
theorem fl_RX11_182 : FLK RX11 182 9 5 .int false := ⟨RX9, TX9, 11, tyX9, rfl, inB9, tyX9_ok, nmX9, by decide, rfl, rfl, Or.inr ⟨"ClickStreet", List.mem_of_getElem? (l := NFs) (i := 22) rfl⟩⟩
theorem fl_RX11_185 : FLK RX11 185 9 2 .int false := ⟨RX9, TX9, 11, tyX9, rfl, inB9, tyX9_ok, nmX9, by decide, rfl, rfl, Or.inr ⟨"ClickStreet", List.mem_of_getElem? (l := NFs) (i := 18) rfl⟩⟩
theorem fl_RX11_188 : FLK RX11 188 9 6 .boolean false := ⟨RX9, TX9, 11, tyX9, rfl, inB9, tyX9_ok, nmX9, by decide, rfl, rfl, Or.inr ⟨"ClickStreet", List.mem_of_getElem? (l := NFs) (i := 25) rfl⟩⟩
theorem fl_RX11_229 : FLK RX11 229 9 1 .int false := ⟨RX9, TX9, 11, tyX9, rfl, inB9, tyX9_ok, nmX9, by decide, rfl, rfl, Or.inr ⟨"ClickStreet", List.mem_of_getElem? (l := NFs) (i := 16) rfl⟩⟩
theorem fl_RX11_24 : FLK RX11 24 11 3 (.array (.object "ClickStreet$Sheet")) true := ⟨RX11, TX11, 9, tyX11, rfl, inB11, tyX11_ok, nmX11, by decide, rfl, rfl, Or.inl m_462⟩
theorem fl_RX11_242 : FLK RX11 242 9 9 (.array .int) true := ⟨RX9, TX9, 11, tyX9, rfl, inB9, tyX9_ok, nmX9, by decide, rfl, rfl, Or.inr ⟨"ClickStreet", List.mem_of_getElem? (l := NFs) (i := 28) rfl⟩⟩
theorem fl_RX11_245 : FLK RX11 245 9 10 (.array .int) true := ⟨RX9, TX9, 11, tyX9, rfl, inB9, tyX9_ok, nmX9, by decide, rfl, rfl, Or.inr ⟨"ClickStreet", List.mem_of_getElem? (l := NFs) (i := 29) rfl⟩⟩
theorem fl_RX11_28 : FLK RX11 28 11 4 (.array .int) true := ⟨RX11, TX11, 9, tyX11, rfl, inB11, tyX11_ok, nmX11, by decide, rfl, rfl, Or.inl m_463⟩
theorem fl_RX11_71 : FLK RX11 71 10 0 (.object "ClickStreet$Street") true := ⟨RX10, TX10, 8, tyX10, rfl, inB10, tyX10_ok, nmX10, by decide, rfl, rfl, Or.inr ⟨"ClickStreet", List.mem_of_getElem? (l := NFs) (i := 30) rfl⟩⟩
theorem fl_RX11_99 : FLK RX11 99 7 1 (.array .int) true := ⟨RX7, TX7, 6, tyX7, rfl, inB7, tyX7_ok, nmX7, by decide, rfl, rfl, Or.inr ⟨"ClickStreet", List.mem_of_getElem? (l := NFs) (i := 2) rfl⟩⟩
theorem fl_RX8_12 : FLK RX8 12 8 0 (.object "ClickStreet$Row") true := ⟨RX8, TX8, 6, tyX8, rfl, inB8, tyX8_ok, nmX8, by decide, rfl, rfl, Or.inl m_419⟩
theorem fl_RX8_18 : FLK RX8 18 8 1 (.object "ClickStreet$Row") true := ⟨RX8, TX8, 6, tyX8, rfl, inB8, tyX8_ok, nmX8, by decide, rfl, rfl, Or.inl m_420⟩
theorem fl_RX8_25 : FLK RX8 25 8 3 .int false := ⟨RX8, TX8, 6, tyX8, rfl, inB8, tyX8_ok, nmX8, by decide, rfl, rfl, Or.inl m_423⟩
theorem fl_RX8_31 : FLK RX8 31 8 5 .boolean false := ⟨RX8, TX8, 6, tyX8, rfl, inB8, tyX8_ok, nmX8, by decide, rfl, rfl, Or.inl m_425⟩
theorem ch_cX11_air_0 : (cX11_air.data.toList.drop 0).take 36 = [27, 3, 5, 184, 0, 89, 153, 0, 31, 28, 3, 27, 154, 0, 8, 16, 99, 167, 0, 14, 27, 4, 160, 0, 8, 16, 90, 167, 0, 4, 4, 184, 0, 89, 154, 0] := by decide +kernel
theorem dX11_air_0 : decode cX11_air 0 = .ok (.iload_n 1, 1) := do_27 (rdb (p := 0) (i := 0) ch_cX11_air_0 rfl)
theorem dX11_air_1 : decode cX11_air 1 = .ok (.iconst 0, 1) := do_3 (rdb (p := 0) (i := 1) ch_cX11_air_0 rfl)
theorem dX11_air_2 : decode cX11_air 2 = .ok (.iconst 2, 1) := do_5 (rdb (p := 0) (i := 2) ch_cX11_air_0 rfl)
theorem dX11_air_3 : decode cX11_air 3 = .ok (.invokestatic 89, 3) := do_184 (rdb (p := 0) (i := 3) ch_cX11_air_0 rfl) (rdb (p := 0) (i := 4) ch_cX11_air_0 rfl) (rdb (p := 0) (i := 5) ch_cX11_air_0 rfl) rfl
theorem dX11_air_6 : decode cX11_air 6 = .ok (.ifCond .eq 31, 3) := do_153 (rdb (p := 0) (i := 6) ch_cX11_air_0 rfl) (rdb (p := 0) (i := 7) ch_cX11_air_0 rfl) (rdb (p := 0) (i := 8) ch_cX11_air_0 rfl) (by decide +kernel)
theorem dX11_air_9 : decode cX11_air 9 = .ok (.iload_n 2, 1) := do_28 (rdb (p := 0) (i := 9) ch_cX11_air_0 rfl)
theorem dX11_air_10 : decode cX11_air 10 = .ok (.iconst 0, 1) := do_3 (rdb (p := 0) (i := 10) ch_cX11_air_0 rfl)
theorem dX11_air_11 : decode cX11_air 11 = .ok (.iload_n 1, 1) := do_27 (rdb (p := 0) (i := 11) ch_cX11_air_0 rfl)
theorem dX11_air_12 : decode cX11_air 12 = .ok (.ifCond .ne 8, 3) := do_154 (rdb (p := 0) (i := 12) ch_cX11_air_0 rfl) (rdb (p := 0) (i := 13) ch_cX11_air_0 rfl) (rdb (p := 0) (i := 14) ch_cX11_air_0 rfl) (by decide +kernel)
theorem dX11_air_15 : decode cX11_air 15 = .ok (.bipush 99, 2) := do_16 (rdb (p := 0) (i := 15) ch_cX11_air_0 rfl) (rdb (p := 0) (i := 16) ch_cX11_air_0 rfl) (by decide +kernel)
theorem dX11_air_17 : decode cX11_air 17 = .ok (.goto 14, 3) := do_167 (rdb (p := 0) (i := 17) ch_cX11_air_0 rfl) (rdb (p := 0) (i := 18) ch_cX11_air_0 rfl) (rdb (p := 0) (i := 19) ch_cX11_air_0 rfl) (by decide +kernel)
theorem dX11_air_20 : decode cX11_air 20 = .ok (.iload_n 1, 1) := do_27 (rdb (p := 0) (i := 20) ch_cX11_air_0 rfl)
theorem dX11_air_21 : decode cX11_air 21 = .ok (.iconst 1, 1) := do_4 (rdb (p := 0) (i := 21) ch_cX11_air_0 rfl)
theorem dX11_air_22 : decode cX11_air 22 = .ok (.if_icmp .ne 8, 3) := do_160 (rdb (p := 0) (i := 22) ch_cX11_air_0 rfl) (rdb (p := 0) (i := 23) ch_cX11_air_0 rfl) (rdb (p := 0) (i := 24) ch_cX11_air_0 rfl) (by decide +kernel)
theorem dX11_air_25 : decode cX11_air 25 = .ok (.bipush 90, 2) := do_16 (rdb (p := 0) (i := 25) ch_cX11_air_0 rfl) (rdb (p := 0) (i := 26) ch_cX11_air_0 rfl) (by decide +kernel)
theorem dX11_air_27 : decode cX11_air 27 = .ok (.goto 4, 3) := do_167 (rdb (p := 0) (i := 27) ch_cX11_air_0 rfl) (rdb (p := 0) (i := 28) ch_cX11_air_0 rfl) (rdb (p := 0) (i := 29) ch_cX11_air_0 rfl) (by decide +kernel)
theorem dX11_air_30 : decode cX11_air 30 = .ok (.iconst 1, 1) := do_4 (rdb (p := 0) (i := 30) ch_cX11_air_0 rfl)
theorem dX11_air_31 : decode cX11_air 31 = .ok (.invokestatic 89, 3) := do_184 (rdb (p := 0) (i := 31) ch_cX11_air_0 rfl) (rdb (p := 0) (i := 32) ch_cX11_air_0 rfl) (rdb (p := 0) (i := 33) ch_cX11_air_0 rfl) rfl
theorem ch_cX11_air_32 : (cX11_air.data.toList.drop 32).take 36 = [0, 89, 154, 0, 9, 42, 4, 182, 0, 67, 172, 42, 180, 0, 10, 180, 0, 114, 27, 28, 182, 0, 142, 172] := by decide +kernel
theorem dX11_air_34 : decode cX11_air 34 = .ok (.ifCond .ne 9, 3) := do_154 (rdb (p := 32) (i := 2) ch_cX11_air_32 rfl) (rdb (p := 32) (i := 3) ch_cX11_air_32 rfl) (rdb (p := 32) (i := 4) ch_cX11_air_32 rfl) (by decide +kernel)
theorem dX11_air_37 : decode cX11_air 37 = .ok (.aload_n 0, 1) := do_42 (rdb (p := 32) (i := 5) ch_cX11_air_32 rfl)
theorem dX11_air_38 : decode cX11_air 38 = .ok (.iconst 1, 1) := do_4 (rdb (p := 32) (i := 6) ch_cX11_air_32 rfl)
theorem dX11_air_39 : decode cX11_air 39 = .ok (.invokevirtual 67, 3) := do_182 (rdb (p := 32) (i := 7) ch_cX11_air_32 rfl) (rdb (p := 32) (i := 8) ch_cX11_air_32 rfl) (rdb (p := 32) (i := 9) ch_cX11_air_32 rfl) rfl
theorem dX11_air_42 : decode cX11_air 42 = .ok (.ireturn, 1) := do_172 (rdb (p := 32) (i := 10) ch_cX11_air_32 rfl)
theorem dX11_air_43 : decode cX11_air 43 = .ok (.aload_n 0, 1) := do_42 (rdb (p := 32) (i := 11) ch_cX11_air_32 rfl)
theorem dX11_air_44 : decode cX11_air 44 = .ok (.getfield 10, 3) := do_180 (rdb (p := 32) (i := 12) ch_cX11_air_32 rfl) (rdb (p := 32) (i := 13) ch_cX11_air_32 rfl) (rdb (p := 32) (i := 14) ch_cX11_air_32 rfl) rfl
theorem dX11_air_47 : decode cX11_air 47 = .ok (.getfield 114, 3) := do_180 (rdb (p := 32) (i := 15) ch_cX11_air_32 rfl) (rdb (p := 32) (i := 16) ch_cX11_air_32 rfl) (rdb (p := 32) (i := 17) ch_cX11_air_32 rfl) rfl
theorem dX11_air_50 : decode cX11_air 50 = .ok (.iload_n 1, 1) := do_27 (rdb (p := 32) (i := 18) ch_cX11_air_32 rfl)
theorem dX11_air_51 : decode cX11_air 51 = .ok (.iload_n 2, 1) := do_28 (rdb (p := 32) (i := 19) ch_cX11_air_32 rfl)
theorem dX11_air_52 : decode cX11_air 52 = .ok (.invokevirtual 142, 3) := do_182 (rdb (p := 32) (i := 20) ch_cX11_air_32 rfl) (rdb (p := 32) (i := 21) ch_cX11_air_32 rfl) (rdb (p := 32) (i := 22) ch_cX11_air_32 rfl) rfl
theorem dX11_air_55 : decode cX11_air 55 = .ok (.ireturn, 1) := do_172 (rdb (p := 32) (i := 23) ch_cX11_air_32 rfl)
theorem ch_cX11_alike_0 : (cX11_alike.data.toList.drop 0).take 36 = [42, 180, 0, 10, 27, 182, 0, 154, 153, 0, 18, 28, 184, 0, 227, 153, 0, 11, 21, 4, 184, 0, 96, 154, 0, 9, 42, 4, 182, 0, 67, 172, 42, 180, 0, 10] := by decide +kernel
theorem dX11_alike_0 : decode cX11_alike 0 = .ok (.aload_n 0, 1) := do_42 (rdb (p := 0) (i := 0) ch_cX11_alike_0 rfl)
theorem dX11_alike_1 : decode cX11_alike 1 = .ok (.getfield 10, 3) := do_180 (rdb (p := 0) (i := 1) ch_cX11_alike_0 rfl) (rdb (p := 0) (i := 2) ch_cX11_alike_0 rfl) (rdb (p := 0) (i := 3) ch_cX11_alike_0 rfl) rfl
theorem dX11_alike_4 : decode cX11_alike 4 = .ok (.iload_n 1, 1) := do_27 (rdb (p := 0) (i := 4) ch_cX11_alike_0 rfl)
theorem dX11_alike_5 : decode cX11_alike 5 = .ok (.invokevirtual 154, 3) := do_182 (rdb (p := 0) (i := 5) ch_cX11_alike_0 rfl) (rdb (p := 0) (i := 6) ch_cX11_alike_0 rfl) (rdb (p := 0) (i := 7) ch_cX11_alike_0 rfl) rfl
theorem dX11_alike_8 : decode cX11_alike 8 = .ok (.ifCond .eq 18, 3) := do_153 (rdb (p := 0) (i := 8) ch_cX11_alike_0 rfl) (rdb (p := 0) (i := 9) ch_cX11_alike_0 rfl) (rdb (p := 0) (i := 10) ch_cX11_alike_0 rfl) (by decide +kernel)
theorem dX11_alike_11 : decode cX11_alike 11 = .ok (.iload_n 2, 1) := do_28 (rdb (p := 0) (i := 11) ch_cX11_alike_0 rfl)
theorem dX11_alike_12 : decode cX11_alike 12 = .ok (.invokestatic 227, 3) := do_184 (rdb (p := 0) (i := 12) ch_cX11_alike_0 rfl) (rdb (p := 0) (i := 13) ch_cX11_alike_0 rfl) (rdb (p := 0) (i := 14) ch_cX11_alike_0 rfl) rfl
theorem dX11_alike_15 : decode cX11_alike 15 = .ok (.ifCond .eq 11, 3) := do_153 (rdb (p := 0) (i := 15) ch_cX11_alike_0 rfl) (rdb (p := 0) (i := 16) ch_cX11_alike_0 rfl) (rdb (p := 0) (i := 17) ch_cX11_alike_0 rfl) (by decide +kernel)
theorem dX11_alike_18 : decode cX11_alike 18 = .ok (.iload 4, 2) := do_21 (rdb (p := 0) (i := 18) ch_cX11_alike_0 rfl) (rdb (p := 0) (i := 19) ch_cX11_alike_0 rfl)
theorem dX11_alike_20 : decode cX11_alike 20 = .ok (.invokestatic 96, 3) := do_184 (rdb (p := 0) (i := 20) ch_cX11_alike_0 rfl) (rdb (p := 0) (i := 21) ch_cX11_alike_0 rfl) (rdb (p := 0) (i := 22) ch_cX11_alike_0 rfl) rfl
theorem dX11_alike_23 : decode cX11_alike 23 = .ok (.ifCond .ne 9, 3) := do_154 (rdb (p := 0) (i := 23) ch_cX11_alike_0 rfl) (rdb (p := 0) (i := 24) ch_cX11_alike_0 rfl) (rdb (p := 0) (i := 25) ch_cX11_alike_0 rfl) (by decide +kernel)
theorem dX11_alike_26 : decode cX11_alike 26 = .ok (.aload_n 0, 1) := do_42 (rdb (p := 0) (i := 26) ch_cX11_alike_0 rfl)
theorem dX11_alike_27 : decode cX11_alike 27 = .ok (.iconst 1, 1) := do_4 (rdb (p := 0) (i := 27) ch_cX11_alike_0 rfl)
theorem dX11_alike_28 : decode cX11_alike 28 = .ok (.invokevirtual 67, 3) := do_182 (rdb (p := 0) (i := 28) ch_cX11_alike_0 rfl) (rdb (p := 0) (i := 29) ch_cX11_alike_0 rfl) (rdb (p := 0) (i := 30) ch_cX11_alike_0 rfl) rfl
theorem dX11_alike_31 : decode cX11_alike 31 = .ok (.ireturn, 1) := do_172 (rdb (p := 0) (i := 31) ch_cX11_alike_0 rfl)
theorem ch_cX11_alike_32 : (cX11_alike.data.toList.drop 32).take 36 = [42, 180, 0, 10, 180, 0, 157, 27, 50, 58, 6, 29, 4, 25, 6, 182, 0, 168, 184, 0, 89, 153, 0, 15, 21, 5, 3, 17, 3, 231, 184, 0, 89, 154, 0, 9] := by decide +kernel
theorem dX11_alike_32 : decode cX11_alike 32 = .ok (.aload_n 0, 1) := do_42 (rdb (p := 32) (i := 0) ch_cX11_alike_32 rfl)
theorem dX11_alike_33 : decode cX11_alike 33 = .ok (.getfield 10, 3) := do_180 (rdb (p := 32) (i := 1) ch_cX11_alike_32 rfl) (rdb (p := 32) (i := 2) ch_cX11_alike_32 rfl) (rdb (p := 32) (i := 3) ch_cX11_alike_32 rfl) rfl
theorem dX11_alike_36 : decode cX11_alike 36 = .ok (.getfield 157, 3) := do_180 (rdb (p := 32) (i := 4) ch_cX11_alike_32 rfl) (rdb (p := 32) (i := 5) ch_cX11_alike_32 rfl) (rdb (p := 32) (i := 6) ch_cX11_alike_32 rfl) rfl
theorem dX11_alike_39 : decode cX11_alike 39 = .ok (.iload_n 1, 1) := do_27 (rdb (p := 32) (i := 7) ch_cX11_alike_32 rfl)
theorem dX11_alike_40 : decode cX11_alike 40 = .ok (.aaload, 1) := do_50 (rdb (p := 32) (i := 8) ch_cX11_alike_32 rfl)
theorem dX11_alike_41 : decode cX11_alike 41 = .ok (.astore 6, 2) := do_58 (rdb (p := 32) (i := 9) ch_cX11_alike_32 rfl) (rdb (p := 32) (i := 10) ch_cX11_alike_32 rfl)
theorem dX11_alike_43 : decode cX11_alike 43 = .ok (.iload_n 3, 1) := do_29 (rdb (p := 32) (i := 11) ch_cX11_alike_32 rfl)
theorem dX11_alike_44 : decode cX11_alike 44 = .ok (.iconst 1, 1) := do_4 (rdb (p := 32) (i := 12) ch_cX11_alike_32 rfl)
theorem dX11_alike_45 : decode cX11_alike 45 = .ok (.aload 6, 2) := do_25 (rdb (p := 32) (i := 13) ch_cX11_alike_32 rfl) (rdb (p := 32) (i := 14) ch_cX11_alike_32 rfl)
theorem dX11_alike_47 : decode cX11_alike 47 = .ok (.invokevirtual 168, 3) := do_182 (rdb (p := 32) (i := 15) ch_cX11_alike_32 rfl) (rdb (p := 32) (i := 16) ch_cX11_alike_32 rfl) (rdb (p := 32) (i := 17) ch_cX11_alike_32 rfl) rfl
theorem dX11_alike_50 : decode cX11_alike 50 = .ok (.invokestatic 89, 3) := do_184 (rdb (p := 32) (i := 18) ch_cX11_alike_32 rfl) (rdb (p := 32) (i := 19) ch_cX11_alike_32 rfl) (rdb (p := 32) (i := 20) ch_cX11_alike_32 rfl) rfl
theorem dX11_alike_53 : decode cX11_alike 53 = .ok (.ifCond .eq 15, 3) := do_153 (rdb (p := 32) (i := 21) ch_cX11_alike_32 rfl) (rdb (p := 32) (i := 22) ch_cX11_alike_32 rfl) (rdb (p := 32) (i := 23) ch_cX11_alike_32 rfl) (by decide +kernel)
theorem dX11_alike_56 : decode cX11_alike 56 = .ok (.iload 5, 2) := do_21 (rdb (p := 32) (i := 24) ch_cX11_alike_32 rfl) (rdb (p := 32) (i := 25) ch_cX11_alike_32 rfl)
theorem dX11_alike_58 : decode cX11_alike 58 = .ok (.iconst 0, 1) := do_3 (rdb (p := 32) (i := 26) ch_cX11_alike_32 rfl)
theorem dX11_alike_59 : decode cX11_alike 59 = .ok (.sipush 999, 3) := do_17 (rdb (p := 32) (i := 27) ch_cX11_alike_32 rfl) (rdb (p := 32) (i := 28) ch_cX11_alike_32 rfl) (rdb (p := 32) (i := 29) ch_cX11_alike_32 rfl) (by decide +kernel)
theorem dX11_alike_62 : decode cX11_alike 62 = .ok (.invokestatic 89, 3) := do_184 (rdb (p := 32) (i := 30) ch_cX11_alike_32 rfl) (rdb (p := 32) (i := 31) ch_cX11_alike_32 rfl) (rdb (p := 32) (i := 32) ch_cX11_alike_32 rfl) rfl
theorem ch_cX11_alike_64 : (cX11_alike.data.toList.drop 64).take 36 = [89, 154, 0, 9, 42, 4, 182, 0, 67, 172, 42, 180, 0, 10, 180, 0, 114, 25, 6, 182, 1, 1, 28, 29, 21, 4, 21, 5, 182, 1, 4, 172] := by decide +kernel
theorem dX11_alike_65 : decode cX11_alike 65 = .ok (.ifCond .ne 9, 3) := do_154 (rdb (p := 64) (i := 1) ch_cX11_alike_64 rfl) (rdb (p := 64) (i := 2) ch_cX11_alike_64 rfl) (rdb (p := 64) (i := 3) ch_cX11_alike_64 rfl) (by decide +kernel)
theorem dX11_alike_68 : decode cX11_alike 68 = .ok (.aload_n 0, 1) := do_42 (rdb (p := 64) (i := 4) ch_cX11_alike_64 rfl)
theorem dX11_alike_69 : decode cX11_alike 69 = .ok (.iconst 1, 1) := do_4 (rdb (p := 64) (i := 5) ch_cX11_alike_64 rfl)
theorem dX11_alike_70 : decode cX11_alike 70 = .ok (.invokevirtual 67, 3) := do_182 (rdb (p := 64) (i := 6) ch_cX11_alike_64 rfl) (rdb (p := 64) (i := 7) ch_cX11_alike_64 rfl) (rdb (p := 64) (i := 8) ch_cX11_alike_64 rfl) rfl
theorem dX11_alike_73 : decode cX11_alike 73 = .ok (.ireturn, 1) := do_172 (rdb (p := 64) (i := 9) ch_cX11_alike_64 rfl)
theorem dX11_alike_74 : decode cX11_alike 74 = .ok (.aload_n 0, 1) := do_42 (rdb (p := 64) (i := 10) ch_cX11_alike_64 rfl)
theorem dX11_alike_75 : decode cX11_alike 75 = .ok (.getfield 10, 3) := do_180 (rdb (p := 64) (i := 11) ch_cX11_alike_64 rfl) (rdb (p := 64) (i := 12) ch_cX11_alike_64 rfl) (rdb (p := 64) (i := 13) ch_cX11_alike_64 rfl) rfl
theorem dX11_alike_78 : decode cX11_alike 78 = .ok (.getfield 114, 3) := do_180 (rdb (p := 64) (i := 14) ch_cX11_alike_64 rfl) (rdb (p := 64) (i := 15) ch_cX11_alike_64 rfl) (rdb (p := 64) (i := 16) ch_cX11_alike_64 rfl) rfl
theorem dX11_alike_81 : decode cX11_alike 81 = .ok (.aload 6, 2) := do_25 (rdb (p := 64) (i := 17) ch_cX11_alike_64 rfl) (rdb (p := 64) (i := 18) ch_cX11_alike_64 rfl)
theorem dX11_alike_83 : decode cX11_alike 83 = .ok (.invokevirtual 257, 3) := do_182 (rdb (p := 64) (i := 19) ch_cX11_alike_64 rfl) (rdb (p := 64) (i := 20) ch_cX11_alike_64 rfl) (rdb (p := 64) (i := 21) ch_cX11_alike_64 rfl) rfl
theorem dX11_alike_86 : decode cX11_alike 86 = .ok (.iload_n 2, 1) := do_28 (rdb (p := 64) (i := 22) ch_cX11_alike_64 rfl)
theorem dX11_alike_87 : decode cX11_alike 87 = .ok (.iload_n 3, 1) := do_29 (rdb (p := 64) (i := 23) ch_cX11_alike_64 rfl)
theorem dX11_alike_88 : decode cX11_alike 88 = .ok (.iload 4, 2) := do_21 (rdb (p := 64) (i := 24) ch_cX11_alike_64 rfl) (rdb (p := 64) (i := 25) ch_cX11_alike_64 rfl)
theorem dX11_alike_90 : decode cX11_alike 90 = .ok (.iload 5, 2) := do_21 (rdb (p := 64) (i := 26) ch_cX11_alike_64 rfl) (rdb (p := 64) (i := 27) ch_cX11_alike_64 rfl)
theorem dX11_alike_92 : decode cX11_alike 92 = .ok (.invokevirtual 260, 3) := do_182 (rdb (p := 64) (i := 28) ch_cX11_alike_64 rfl) (rdb (p := 64) (i := 29) ch_cX11_alike_64 rfl) (rdb (p := 64) (i := 30) ch_cX11_alike_64 rfl) rfl
theorem dX11_alike_95 : decode cX11_alike 95 = .ok (.ireturn, 1) := do_172 (rdb (p := 64) (i := 31) ch_cX11_alike_64 rfl)
theorem ch_cX11_as_0 : (cX11_as.data.toList.drop 0).take 36 = [42, 180, 0, 10, 27, 182, 0, 154, 153, 0, 10, 28, 184, 0, 145, 154, 0, 9, 42, 4, 182, 0, 67, 172, 42, 180, 0, 10, 180, 0, 157, 27, 50, 28, 182, 0] := by decide +kernel
theorem dX11_as_0 : decode cX11_as 0 = .ok (.aload_n 0, 1) := do_42 (rdb (p := 0) (i := 0) ch_cX11_as_0 rfl)
theorem dX11_as_1 : decode cX11_as 1 = .ok (.getfield 10, 3) := do_180 (rdb (p := 0) (i := 1) ch_cX11_as_0 rfl) (rdb (p := 0) (i := 2) ch_cX11_as_0 rfl) (rdb (p := 0) (i := 3) ch_cX11_as_0 rfl) rfl
theorem dX11_as_4 : decode cX11_as 4 = .ok (.iload_n 1, 1) := do_27 (rdb (p := 0) (i := 4) ch_cX11_as_0 rfl)
theorem dX11_as_5 : decode cX11_as 5 = .ok (.invokevirtual 154, 3) := do_182 (rdb (p := 0) (i := 5) ch_cX11_as_0 rfl) (rdb (p := 0) (i := 6) ch_cX11_as_0 rfl) (rdb (p := 0) (i := 7) ch_cX11_as_0 rfl) rfl
theorem dX11_as_8 : decode cX11_as 8 = .ok (.ifCond .eq 10, 3) := do_153 (rdb (p := 0) (i := 8) ch_cX11_as_0 rfl) (rdb (p := 0) (i := 9) ch_cX11_as_0 rfl) (rdb (p := 0) (i := 10) ch_cX11_as_0 rfl) (by decide +kernel)
theorem dX11_as_11 : decode cX11_as 11 = .ok (.iload_n 2, 1) := do_28 (rdb (p := 0) (i := 11) ch_cX11_as_0 rfl)
theorem dX11_as_12 : decode cX11_as 12 = .ok (.invokestatic 145, 3) := do_184 (rdb (p := 0) (i := 12) ch_cX11_as_0 rfl) (rdb (p := 0) (i := 13) ch_cX11_as_0 rfl) (rdb (p := 0) (i := 14) ch_cX11_as_0 rfl) rfl
theorem dX11_as_15 : decode cX11_as 15 = .ok (.ifCond .ne 9, 3) := do_154 (rdb (p := 0) (i := 15) ch_cX11_as_0 rfl) (rdb (p := 0) (i := 16) ch_cX11_as_0 rfl) (rdb (p := 0) (i := 17) ch_cX11_as_0 rfl) (by decide +kernel)
theorem dX11_as_18 : decode cX11_as 18 = .ok (.aload_n 0, 1) := do_42 (rdb (p := 0) (i := 18) ch_cX11_as_0 rfl)
theorem dX11_as_19 : decode cX11_as 19 = .ok (.iconst 1, 1) := do_4 (rdb (p := 0) (i := 19) ch_cX11_as_0 rfl)
theorem dX11_as_20 : decode cX11_as 20 = .ok (.invokevirtual 67, 3) := do_182 (rdb (p := 0) (i := 20) ch_cX11_as_0 rfl) (rdb (p := 0) (i := 21) ch_cX11_as_0 rfl) (rdb (p := 0) (i := 22) ch_cX11_as_0 rfl) rfl
theorem dX11_as_23 : decode cX11_as 23 = .ok (.ireturn, 1) := do_172 (rdb (p := 0) (i := 23) ch_cX11_as_0 rfl)
theorem dX11_as_24 : decode cX11_as 24 = .ok (.aload_n 0, 1) := do_42 (rdb (p := 0) (i := 24) ch_cX11_as_0 rfl)
theorem dX11_as_25 : decode cX11_as 25 = .ok (.getfield 10, 3) := do_180 (rdb (p := 0) (i := 25) ch_cX11_as_0 rfl) (rdb (p := 0) (i := 26) ch_cX11_as_0 rfl) (rdb (p := 0) (i := 27) ch_cX11_as_0 rfl) rfl
theorem dX11_as_28 : decode cX11_as 28 = .ok (.getfield 157, 3) := do_180 (rdb (p := 0) (i := 28) ch_cX11_as_0 rfl) (rdb (p := 0) (i := 29) ch_cX11_as_0 rfl) (rdb (p := 0) (i := 30) ch_cX11_as_0 rfl) rfl
theorem dX11_as_31 : decode cX11_as 31 = .ok (.iload_n 1, 1) := do_27 (rdb (p := 0) (i := 31) ch_cX11_as_0 rfl)
theorem ch_cX11_as_32 : (cX11_as.data.toList.drop 32).take 36 = [50, 28, 182, 0, 165, 154, 0, 9, 42, 8, 182, 0, 67, 172, 42, 180, 0, 10, 180, 0, 157, 27, 50, 182, 0, 168, 172] := by decide +kernel
theorem dX11_as_32 : decode cX11_as 32 = .ok (.aaload, 1) := do_50 (rdb (p := 32) (i := 0) ch_cX11_as_32 rfl)
theorem dX11_as_33 : decode cX11_as 33 = .ok (.iload_n 2, 1) := do_28 (rdb (p := 32) (i := 1) ch_cX11_as_32 rfl)
theorem dX11_as_34 : decode cX11_as 34 = .ok (.invokevirtual 165, 3) := do_182 (rdb (p := 32) (i := 2) ch_cX11_as_32 rfl) (rdb (p := 32) (i := 3) ch_cX11_as_32 rfl) (rdb (p := 32) (i := 4) ch_cX11_as_32 rfl) rfl
theorem dX11_as_37 : decode cX11_as 37 = .ok (.ifCond .ne 9, 3) := do_154 (rdb (p := 32) (i := 5) ch_cX11_as_32 rfl) (rdb (p := 32) (i := 6) ch_cX11_as_32 rfl) (rdb (p := 32) (i := 7) ch_cX11_as_32 rfl) (by decide +kernel)
theorem dX11_as_40 : decode cX11_as 40 = .ok (.aload_n 0, 1) := do_42 (rdb (p := 32) (i := 8) ch_cX11_as_32 rfl)
theorem dX11_as_41 : decode cX11_as 41 = .ok (.iconst 5, 1) := do_8 (rdb (p := 32) (i := 9) ch_cX11_as_32 rfl)
theorem dX11_as_42 : decode cX11_as 42 = .ok (.invokevirtual 67, 3) := do_182 (rdb (p := 32) (i := 10) ch_cX11_as_32 rfl) (rdb (p := 32) (i := 11) ch_cX11_as_32 rfl) (rdb (p := 32) (i := 12) ch_cX11_as_32 rfl) rfl
theorem dX11_as_45 : decode cX11_as 45 = .ok (.ireturn, 1) := do_172 (rdb (p := 32) (i := 13) ch_cX11_as_32 rfl)
theorem dX11_as_46 : decode cX11_as 46 = .ok (.aload_n 0, 1) := do_42 (rdb (p := 32) (i := 14) ch_cX11_as_32 rfl)
theorem dX11_as_47 : decode cX11_as 47 = .ok (.getfield 10, 3) := do_180 (rdb (p := 32) (i := 15) ch_cX11_as_32 rfl) (rdb (p := 32) (i := 16) ch_cX11_as_32 rfl) (rdb (p := 32) (i := 17) ch_cX11_as_32 rfl) rfl
theorem dX11_as_50 : decode cX11_as 50 = .ok (.getfield 157, 3) := do_180 (rdb (p := 32) (i := 18) ch_cX11_as_32 rfl) (rdb (p := 32) (i := 19) ch_cX11_as_32 rfl) (rdb (p := 32) (i := 20) ch_cX11_as_32 rfl) rfl
theorem dX11_as_53 : decode cX11_as 53 = .ok (.iload_n 1, 1) := do_27 (rdb (p := 32) (i := 21) ch_cX11_as_32 rfl)
theorem dX11_as_54 : decode cX11_as 54 = .ok (.aaload, 1) := do_50 (rdb (p := 32) (i := 22) ch_cX11_as_32 rfl)
theorem dX11_as_55 : decode cX11_as 55 = .ok (.invokevirtual 168, 3) := do_182 (rdb (p := 32) (i := 23) ch_cX11_as_32 rfl) (rdb (p := 32) (i := 24) ch_cX11_as_32 rfl) (rdb (p := 32) (i := 25) ch_cX11_as_32 rfl) rfl
theorem dX11_as_58 : decode cX11_as 58 = .ok (.ireturn, 1) := do_172 (rdb (p := 32) (i := 26) ch_cX11_as_32 rfl)
theorem dX11_at_0 : decode cX11_at 0 = .ok (.iload_n 1, 1) := by decide +kernel
theorem dX11_at_1 : decode cX11_at 1 = .ok (.invokestatic 62, 3) := by decide +kernel
theorem dX11_at_4 : decode cX11_at 4 = .ok (.ifCond .ne 9, 3) := by decide +kernel
theorem dX11_at_7 : decode cX11_at 7 = .ok (.aload_n 0, 1) := by decide +kernel
theorem dX11_at_8 : decode cX11_at 8 = .ok (.iconst 1, 1) := by decide +kernel
theorem dX11_at_9 : decode cX11_at 9 = .ok (.invokevirtual 67, 3) := by decide +kernel
theorem dX11_at_12 : decode cX11_at 12 = .ok (.ireturn, 1) := by decide +kernel
theorem dX11_at_13 : decode cX11_at 13 = .ok (.aload_n 0, 1) := by decide +kernel
theorem dX11_at_14 : decode cX11_at 14 = .ok (.getfield 10, 3) := by decide +kernel
theorem dX11_at_17 : decode cX11_at 17 = .ok (.getfield 71, 3) := by decide +kernel
theorem dX11_at_20 : decode cX11_at 20 = .ok (.getfield 124, 3) := by decide +kernel
theorem dX11_at_23 : decode cX11_at 23 = .ok (.iload_n 1, 1) := by decide +kernel
theorem dX11_at_24 : decode cX11_at 24 = .ok (.iaload, 1) := by decide +kernel
theorem dX11_at_25 : decode cX11_at 25 = .ok (.ireturn, 1) := by decide +kernel
theorem ch_cX11_away_0 : (cX11_away.data.toList.drop 0).take 36 = [42, 180, 0, 10, 180, 0, 71, 27, 182, 0, 86, 154, 0, 9, 42, 4, 182, 0, 67, 172, 42, 180, 0, 10, 180, 0, 71, 180, 0, 102, 27, 46, 156, 0, 9, 42] := by decide +kernel
theorem dX11_away_0 : decode cX11_away 0 = .ok (.aload_n 0, 1) := do_42 (rdb (p := 0) (i := 0) ch_cX11_away_0 rfl)
theorem dX11_away_1 : decode cX11_away 1 = .ok (.getfield 10, 3) := do_180 (rdb (p := 0) (i := 1) ch_cX11_away_0 rfl) (rdb (p := 0) (i := 2) ch_cX11_away_0 rfl) (rdb (p := 0) (i := 3) ch_cX11_away_0 rfl) rfl
theorem dX11_away_4 : decode cX11_away 4 = .ok (.getfield 71, 3) := do_180 (rdb (p := 0) (i := 4) ch_cX11_away_0 rfl) (rdb (p := 0) (i := 5) ch_cX11_away_0 rfl) (rdb (p := 0) (i := 6) ch_cX11_away_0 rfl) rfl
theorem dX11_away_7 : decode cX11_away 7 = .ok (.iload_n 1, 1) := do_27 (rdb (p := 0) (i := 7) ch_cX11_away_0 rfl)
theorem dX11_away_8 : decode cX11_away 8 = .ok (.invokevirtual 86, 3) := do_182 (rdb (p := 0) (i := 8) ch_cX11_away_0 rfl) (rdb (p := 0) (i := 9) ch_cX11_away_0 rfl) (rdb (p := 0) (i := 10) ch_cX11_away_0 rfl) rfl
theorem dX11_away_11 : decode cX11_away 11 = .ok (.ifCond .ne 9, 3) := do_154 (rdb (p := 0) (i := 11) ch_cX11_away_0 rfl) (rdb (p := 0) (i := 12) ch_cX11_away_0 rfl) (rdb (p := 0) (i := 13) ch_cX11_away_0 rfl) (by decide +kernel)
theorem dX11_away_14 : decode cX11_away 14 = .ok (.aload_n 0, 1) := do_42 (rdb (p := 0) (i := 14) ch_cX11_away_0 rfl)
theorem dX11_away_15 : decode cX11_away 15 = .ok (.iconst 1, 1) := do_4 (rdb (p := 0) (i := 15) ch_cX11_away_0 rfl)
theorem dX11_away_16 : decode cX11_away 16 = .ok (.invokevirtual 67, 3) := do_182 (rdb (p := 0) (i := 16) ch_cX11_away_0 rfl) (rdb (p := 0) (i := 17) ch_cX11_away_0 rfl) (rdb (p := 0) (i := 18) ch_cX11_away_0 rfl) rfl
theorem dX11_away_19 : decode cX11_away 19 = .ok (.ireturn, 1) := do_172 (rdb (p := 0) (i := 19) ch_cX11_away_0 rfl)
theorem dX11_away_20 : decode cX11_away 20 = .ok (.aload_n 0, 1) := do_42 (rdb (p := 0) (i := 20) ch_cX11_away_0 rfl)
theorem dX11_away_21 : decode cX11_away 21 = .ok (.getfield 10, 3) := do_180 (rdb (p := 0) (i := 21) ch_cX11_away_0 rfl) (rdb (p := 0) (i := 22) ch_cX11_away_0 rfl) (rdb (p := 0) (i := 23) ch_cX11_away_0 rfl) rfl
theorem dX11_away_24 : decode cX11_away 24 = .ok (.getfield 71, 3) := do_180 (rdb (p := 0) (i := 24) ch_cX11_away_0 rfl) (rdb (p := 0) (i := 25) ch_cX11_away_0 rfl) (rdb (p := 0) (i := 26) ch_cX11_away_0 rfl) rfl
theorem dX11_away_27 : decode cX11_away 27 = .ok (.getfield 102, 3) := do_180 (rdb (p := 0) (i := 27) ch_cX11_away_0 rfl) (rdb (p := 0) (i := 28) ch_cX11_away_0 rfl) (rdb (p := 0) (i := 29) ch_cX11_away_0 rfl) rfl
theorem dX11_away_30 : decode cX11_away 30 = .ok (.iload_n 1, 1) := do_27 (rdb (p := 0) (i := 30) ch_cX11_away_0 rfl)
theorem dX11_away_31 : decode cX11_away 31 = .ok (.iaload, 1) := do_46 (rdb (p := 0) (i := 31) ch_cX11_away_0 rfl)
theorem ch_cX11_away_32 : (cX11_away.data.toList.drop 32).take 36 = [156, 0, 9, 42, 6, 182, 0, 67, 172, 42, 180, 0, 10, 180, 0, 71, 27, 182, 0, 111, 172] := by decide +kernel
theorem dX11_away_32 : decode cX11_away 32 = .ok (.ifCond .ge 9, 3) := do_156 (rdb (p := 32) (i := 0) ch_cX11_away_32 rfl) (rdb (p := 32) (i := 1) ch_cX11_away_32 rfl) (rdb (p := 32) (i := 2) ch_cX11_away_32 rfl) (by decide +kernel)
theorem dX11_away_35 : decode cX11_away 35 = .ok (.aload_n 0, 1) := do_42 (rdb (p := 32) (i := 3) ch_cX11_away_32 rfl)
theorem dX11_away_36 : decode cX11_away 36 = .ok (.iconst 3, 1) := do_6 (rdb (p := 32) (i := 4) ch_cX11_away_32 rfl)
theorem dX11_away_37 : decode cX11_away 37 = .ok (.invokevirtual 67, 3) := do_182 (rdb (p := 32) (i := 5) ch_cX11_away_32 rfl) (rdb (p := 32) (i := 6) ch_cX11_away_32 rfl) (rdb (p := 32) (i := 7) ch_cX11_away_32 rfl) rfl
theorem dX11_away_40 : decode cX11_away 40 = .ok (.ireturn, 1) := do_172 (rdb (p := 32) (i := 8) ch_cX11_away_32 rfl)
theorem dX11_away_41 : decode cX11_away 41 = .ok (.aload_n 0, 1) := do_42 (rdb (p := 32) (i := 9) ch_cX11_away_32 rfl)
theorem dX11_away_42 : decode cX11_away 42 = .ok (.getfield 10, 3) := do_180 (rdb (p := 32) (i := 10) ch_cX11_away_32 rfl) (rdb (p := 32) (i := 11) ch_cX11_away_32 rfl) (rdb (p := 32) (i := 12) ch_cX11_away_32 rfl) rfl
theorem dX11_away_45 : decode cX11_away 45 = .ok (.getfield 71, 3) := do_180 (rdb (p := 32) (i := 13) ch_cX11_away_32 rfl) (rdb (p := 32) (i := 14) ch_cX11_away_32 rfl) (rdb (p := 32) (i := 15) ch_cX11_away_32 rfl) rfl
theorem dX11_away_48 : decode cX11_away 48 = .ok (.iload_n 1, 1) := do_27 (rdb (p := 32) (i := 16) ch_cX11_away_32 rfl)
theorem dX11_away_49 : decode cX11_away 49 = .ok (.invokevirtual 111, 3) := do_182 (rdb (p := 32) (i := 17) ch_cX11_away_32 rfl) (rdb (p := 32) (i := 18) ch_cX11_away_32 rfl) (rdb (p := 32) (i := 19) ch_cX11_away_32 rfl) rfl
theorem dX11_away_52 : decode cX11_away 52 = .ok (.ireturn, 1) := do_172 (rdb (p := 32) (i := 20) ch_cX11_away_32 rfl)
theorem ch_cX11_click_0 : (cX11_click.data.toList.drop 0).take 36 = [42, 180, 0, 10, 27, 182, 0, 154, 154, 0, 9, 42, 4, 182, 0, 67, 172, 42, 180, 0, 10, 180, 0, 157, 27, 50, 4, 182, 0, 165, 154, 0, 9, 42, 8, 182] := by decide +kernel
theorem dX11_click_0 : decode cX11_click 0 = .ok (.aload_n 0, 1) := do_42 (rdb (p := 0) (i := 0) ch_cX11_click_0 rfl)
theorem dX11_click_1 : decode cX11_click 1 = .ok (.getfield 10, 3) := do_180 (rdb (p := 0) (i := 1) ch_cX11_click_0 rfl) (rdb (p := 0) (i := 2) ch_cX11_click_0 rfl) (rdb (p := 0) (i := 3) ch_cX11_click_0 rfl) rfl
theorem dX11_click_4 : decode cX11_click 4 = .ok (.iload_n 1, 1) := do_27 (rdb (p := 0) (i := 4) ch_cX11_click_0 rfl)
theorem dX11_click_5 : decode cX11_click 5 = .ok (.invokevirtual 154, 3) := do_182 (rdb (p := 0) (i := 5) ch_cX11_click_0 rfl) (rdb (p := 0) (i := 6) ch_cX11_click_0 rfl) (rdb (p := 0) (i := 7) ch_cX11_click_0 rfl) rfl
theorem dX11_click_8 : decode cX11_click 8 = .ok (.ifCond .ne 9, 3) := do_154 (rdb (p := 0) (i := 8) ch_cX11_click_0 rfl) (rdb (p := 0) (i := 9) ch_cX11_click_0 rfl) (rdb (p := 0) (i := 10) ch_cX11_click_0 rfl) (by decide +kernel)
theorem dX11_click_11 : decode cX11_click 11 = .ok (.aload_n 0, 1) := do_42 (rdb (p := 0) (i := 11) ch_cX11_click_0 rfl)
theorem dX11_click_12 : decode cX11_click 12 = .ok (.iconst 1, 1) := do_4 (rdb (p := 0) (i := 12) ch_cX11_click_0 rfl)
theorem dX11_click_13 : decode cX11_click 13 = .ok (.invokevirtual 67, 3) := do_182 (rdb (p := 0) (i := 13) ch_cX11_click_0 rfl) (rdb (p := 0) (i := 14) ch_cX11_click_0 rfl) (rdb (p := 0) (i := 15) ch_cX11_click_0 rfl) rfl
theorem dX11_click_16 : decode cX11_click 16 = .ok (.ireturn, 1) := do_172 (rdb (p := 0) (i := 16) ch_cX11_click_0 rfl)
theorem dX11_click_17 : decode cX11_click 17 = .ok (.aload_n 0, 1) := do_42 (rdb (p := 0) (i := 17) ch_cX11_click_0 rfl)
theorem dX11_click_18 : decode cX11_click 18 = .ok (.getfield 10, 3) := do_180 (rdb (p := 0) (i := 18) ch_cX11_click_0 rfl) (rdb (p := 0) (i := 19) ch_cX11_click_0 rfl) (rdb (p := 0) (i := 20) ch_cX11_click_0 rfl) rfl
theorem dX11_click_21 : decode cX11_click 21 = .ok (.getfield 157, 3) := do_180 (rdb (p := 0) (i := 21) ch_cX11_click_0 rfl) (rdb (p := 0) (i := 22) ch_cX11_click_0 rfl) (rdb (p := 0) (i := 23) ch_cX11_click_0 rfl) rfl
theorem dX11_click_24 : decode cX11_click 24 = .ok (.iload_n 1, 1) := do_27 (rdb (p := 0) (i := 24) ch_cX11_click_0 rfl)
theorem dX11_click_25 : decode cX11_click 25 = .ok (.aaload, 1) := do_50 (rdb (p := 0) (i := 25) ch_cX11_click_0 rfl)
theorem dX11_click_26 : decode cX11_click 26 = .ok (.iconst 1, 1) := do_4 (rdb (p := 0) (i := 26) ch_cX11_click_0 rfl)
theorem dX11_click_27 : decode cX11_click 27 = .ok (.invokevirtual 165, 3) := do_182 (rdb (p := 0) (i := 27) ch_cX11_click_0 rfl) (rdb (p := 0) (i := 28) ch_cX11_click_0 rfl) (rdb (p := 0) (i := 29) ch_cX11_click_0 rfl) rfl
theorem dX11_click_30 : decode cX11_click 30 = .ok (.ifCond .ne 9, 3) := do_154 (rdb (p := 0) (i := 30) ch_cX11_click_0 rfl) (rdb (p := 0) (i := 31) ch_cX11_click_0 rfl) (rdb (p := 0) (i := 32) ch_cX11_click_0 rfl) (by decide +kernel)
theorem ch_cX11_click_32 : (cX11_click.data.toList.drop 32).take 36 = [9, 42, 8, 182, 0, 67, 172, 42, 180, 0, 10, 27, 182, 0, 239, 172] := by decide +kernel
theorem dX11_click_33 : decode cX11_click 33 = .ok (.aload_n 0, 1) := do_42 (rdb (p := 32) (i := 1) ch_cX11_click_32 rfl)
theorem dX11_click_34 : decode cX11_click 34 = .ok (.iconst 5, 1) := do_8 (rdb (p := 32) (i := 2) ch_cX11_click_32 rfl)
theorem dX11_click_35 : decode cX11_click 35 = .ok (.invokevirtual 67, 3) := do_182 (rdb (p := 32) (i := 3) ch_cX11_click_32 rfl) (rdb (p := 32) (i := 4) ch_cX11_click_32 rfl) (rdb (p := 32) (i := 5) ch_cX11_click_32 rfl) rfl
theorem dX11_click_38 : decode cX11_click 38 = .ok (.ireturn, 1) := do_172 (rdb (p := 32) (i := 6) ch_cX11_click_32 rfl)
theorem dX11_click_39 : decode cX11_click 39 = .ok (.aload_n 0, 1) := do_42 (rdb (p := 32) (i := 7) ch_cX11_click_32 rfl)
theorem dX11_click_40 : decode cX11_click 40 = .ok (.getfield 10, 3) := do_180 (rdb (p := 32) (i := 8) ch_cX11_click_32 rfl) (rdb (p := 32) (i := 9) ch_cX11_click_32 rfl) (rdb (p := 32) (i := 10) ch_cX11_click_32 rfl) rfl
theorem dX11_click_43 : decode cX11_click 43 = .ok (.iload_n 1, 1) := do_27 (rdb (p := 32) (i := 11) ch_cX11_click_32 rfl)
theorem dX11_click_44 : decode cX11_click 44 = .ok (.invokevirtual 239, 3) := do_182 (rdb (p := 32) (i := 12) ch_cX11_click_32 rfl) (rdb (p := 32) (i := 13) ch_cX11_click_32 rfl) (rdb (p := 32) (i := 14) ch_cX11_click_32 rfl) rfl
theorem dX11_click_47 : decode cX11_click 47 = .ok (.ireturn, 1) := do_172 (rdb (p := 32) (i := 15) ch_cX11_click_32 rfl)
theorem ch_cX11_echo_0 : (cX11_echo.data.toList.drop 0).take 36 = [42, 180, 0, 10, 27, 182, 0, 154, 153, 0, 27, 28, 184, 0, 227, 153, 0, 20, 29, 184, 0, 96, 153, 0, 13, 21, 4, 3, 8, 184, 0, 89, 154, 0, 9, 42] := by decide +kernel
theorem dX11_echo_0 : decode cX11_echo 0 = .ok (.aload_n 0, 1) := do_42 (rdb (p := 0) (i := 0) ch_cX11_echo_0 rfl)
theorem dX11_echo_1 : decode cX11_echo 1 = .ok (.getfield 10, 3) := do_180 (rdb (p := 0) (i := 1) ch_cX11_echo_0 rfl) (rdb (p := 0) (i := 2) ch_cX11_echo_0 rfl) (rdb (p := 0) (i := 3) ch_cX11_echo_0 rfl) rfl
theorem dX11_echo_4 : decode cX11_echo 4 = .ok (.iload_n 1, 1) := do_27 (rdb (p := 0) (i := 4) ch_cX11_echo_0 rfl)
theorem dX11_echo_5 : decode cX11_echo 5 = .ok (.invokevirtual 154, 3) := do_182 (rdb (p := 0) (i := 5) ch_cX11_echo_0 rfl) (rdb (p := 0) (i := 6) ch_cX11_echo_0 rfl) (rdb (p := 0) (i := 7) ch_cX11_echo_0 rfl) rfl
theorem dX11_echo_8 : decode cX11_echo 8 = .ok (.ifCond .eq 27, 3) := do_153 (rdb (p := 0) (i := 8) ch_cX11_echo_0 rfl) (rdb (p := 0) (i := 9) ch_cX11_echo_0 rfl) (rdb (p := 0) (i := 10) ch_cX11_echo_0 rfl) (by decide +kernel)
theorem dX11_echo_11 : decode cX11_echo 11 = .ok (.iload_n 2, 1) := do_28 (rdb (p := 0) (i := 11) ch_cX11_echo_0 rfl)
theorem dX11_echo_12 : decode cX11_echo 12 = .ok (.invokestatic 227, 3) := do_184 (rdb (p := 0) (i := 12) ch_cX11_echo_0 rfl) (rdb (p := 0) (i := 13) ch_cX11_echo_0 rfl) (rdb (p := 0) (i := 14) ch_cX11_echo_0 rfl) rfl
theorem dX11_echo_15 : decode cX11_echo 15 = .ok (.ifCond .eq 20, 3) := do_153 (rdb (p := 0) (i := 15) ch_cX11_echo_0 rfl) (rdb (p := 0) (i := 16) ch_cX11_echo_0 rfl) (rdb (p := 0) (i := 17) ch_cX11_echo_0 rfl) (by decide +kernel)
theorem dX11_echo_18 : decode cX11_echo 18 = .ok (.iload_n 3, 1) := do_29 (rdb (p := 0) (i := 18) ch_cX11_echo_0 rfl)
theorem dX11_echo_19 : decode cX11_echo 19 = .ok (.invokestatic 96, 3) := do_184 (rdb (p := 0) (i := 19) ch_cX11_echo_0 rfl) (rdb (p := 0) (i := 20) ch_cX11_echo_0 rfl) (rdb (p := 0) (i := 21) ch_cX11_echo_0 rfl) rfl
theorem dX11_echo_22 : decode cX11_echo 22 = .ok (.ifCond .eq 13, 3) := do_153 (rdb (p := 0) (i := 22) ch_cX11_echo_0 rfl) (rdb (p := 0) (i := 23) ch_cX11_echo_0 rfl) (rdb (p := 0) (i := 24) ch_cX11_echo_0 rfl) (by decide +kernel)
theorem dX11_echo_25 : decode cX11_echo 25 = .ok (.iload 4, 2) := do_21 (rdb (p := 0) (i := 25) ch_cX11_echo_0 rfl) (rdb (p := 0) (i := 26) ch_cX11_echo_0 rfl)
theorem dX11_echo_27 : decode cX11_echo 27 = .ok (.iconst 0, 1) := do_3 (rdb (p := 0) (i := 27) ch_cX11_echo_0 rfl)
theorem dX11_echo_28 : decode cX11_echo 28 = .ok (.iconst 5, 1) := do_8 (rdb (p := 0) (i := 28) ch_cX11_echo_0 rfl)
theorem dX11_echo_29 : decode cX11_echo 29 = .ok (.invokestatic 89, 3) := do_184 (rdb (p := 0) (i := 29) ch_cX11_echo_0 rfl) (rdb (p := 0) (i := 30) ch_cX11_echo_0 rfl) (rdb (p := 0) (i := 31) ch_cX11_echo_0 rfl) rfl
theorem ch_cX11_echo_32 : (cX11_echo.data.toList.drop 32).take 36 = [154, 0, 9, 42, 4, 182, 0, 67, 172, 42, 180, 0, 10, 27, 42, 180, 0, 10, 180, 0, 157, 27, 50, 180, 0, 229, 29, 182, 0, 232, 154, 0, 9, 42, 5, 182] := by decide +kernel
theorem dX11_echo_32 : decode cX11_echo 32 = .ok (.ifCond .ne 9, 3) := do_154 (rdb (p := 32) (i := 0) ch_cX11_echo_32 rfl) (rdb (p := 32) (i := 1) ch_cX11_echo_32 rfl) (rdb (p := 32) (i := 2) ch_cX11_echo_32 rfl) (by decide +kernel)
theorem dX11_echo_35 : decode cX11_echo 35 = .ok (.aload_n 0, 1) := do_42 (rdb (p := 32) (i := 3) ch_cX11_echo_32 rfl)
theorem dX11_echo_36 : decode cX11_echo 36 = .ok (.iconst 1, 1) := do_4 (rdb (p := 32) (i := 4) ch_cX11_echo_32 rfl)
theorem dX11_echo_37 : decode cX11_echo 37 = .ok (.invokevirtual 67, 3) := do_182 (rdb (p := 32) (i := 5) ch_cX11_echo_32 rfl) (rdb (p := 32) (i := 6) ch_cX11_echo_32 rfl) (rdb (p := 32) (i := 7) ch_cX11_echo_32 rfl) rfl
theorem dX11_echo_40 : decode cX11_echo 40 = .ok (.ireturn, 1) := do_172 (rdb (p := 32) (i := 8) ch_cX11_echo_32 rfl)
theorem dX11_echo_41 : decode cX11_echo 41 = .ok (.aload_n 0, 1) := do_42 (rdb (p := 32) (i := 9) ch_cX11_echo_32 rfl)
theorem dX11_echo_42 : decode cX11_echo 42 = .ok (.getfield 10, 3) := do_180 (rdb (p := 32) (i := 10) ch_cX11_echo_32 rfl) (rdb (p := 32) (i := 11) ch_cX11_echo_32 rfl) (rdb (p := 32) (i := 12) ch_cX11_echo_32 rfl) rfl
theorem dX11_echo_45 : decode cX11_echo 45 = .ok (.iload_n 1, 1) := do_27 (rdb (p := 32) (i := 13) ch_cX11_echo_32 rfl)
theorem dX11_echo_46 : decode cX11_echo 46 = .ok (.aload_n 0, 1) := do_42 (rdb (p := 32) (i := 14) ch_cX11_echo_32 rfl)
theorem dX11_echo_47 : decode cX11_echo 47 = .ok (.getfield 10, 3) := do_180 (rdb (p := 32) (i := 15) ch_cX11_echo_32 rfl) (rdb (p := 32) (i := 16) ch_cX11_echo_32 rfl) (rdb (p := 32) (i := 17) ch_cX11_echo_32 rfl) rfl
theorem dX11_echo_50 : decode cX11_echo 50 = .ok (.getfield 157, 3) := do_180 (rdb (p := 32) (i := 18) ch_cX11_echo_32 rfl) (rdb (p := 32) (i := 19) ch_cX11_echo_32 rfl) (rdb (p := 32) (i := 20) ch_cX11_echo_32 rfl) rfl
theorem dX11_echo_53 : decode cX11_echo 53 = .ok (.iload_n 1, 1) := do_27 (rdb (p := 32) (i := 21) ch_cX11_echo_32 rfl)
theorem dX11_echo_54 : decode cX11_echo 54 = .ok (.aaload, 1) := do_50 (rdb (p := 32) (i := 22) ch_cX11_echo_32 rfl)
theorem dX11_echo_55 : decode cX11_echo 55 = .ok (.getfield 229, 3) := do_180 (rdb (p := 32) (i := 23) ch_cX11_echo_32 rfl) (rdb (p := 32) (i := 24) ch_cX11_echo_32 rfl) (rdb (p := 32) (i := 25) ch_cX11_echo_32 rfl) rfl
theorem dX11_echo_58 : decode cX11_echo 58 = .ok (.iload_n 3, 1) := do_29 (rdb (p := 32) (i := 26) ch_cX11_echo_32 rfl)
theorem dX11_echo_59 : decode cX11_echo 59 = .ok (.invokevirtual 232, 3) := do_182 (rdb (p := 32) (i := 27) ch_cX11_echo_32 rfl) (rdb (p := 32) (i := 28) ch_cX11_echo_32 rfl) (rdb (p := 32) (i := 29) ch_cX11_echo_32 rfl) rfl
theorem dX11_echo_62 : decode cX11_echo 62 = .ok (.ifCond .ne 9, 3) := do_154 (rdb (p := 32) (i := 30) ch_cX11_echo_32 rfl) (rdb (p := 32) (i := 31) ch_cX11_echo_32 rfl) (rdb (p := 32) (i := 32) ch_cX11_echo_32 rfl) (by decide +kernel)
theorem ch_cX11_echo_64 : (cX11_echo.data.toList.drop 64).take 36 = [9, 42, 5, 182, 0, 67, 172, 42, 180, 0, 10, 27, 28, 29, 21, 4, 182, 0, 235, 172] := by decide +kernel
theorem dX11_echo_65 : decode cX11_echo 65 = .ok (.aload_n 0, 1) := do_42 (rdb (p := 64) (i := 1) ch_cX11_echo_64 rfl)
theorem dX11_echo_66 : decode cX11_echo 66 = .ok (.iconst 2, 1) := do_5 (rdb (p := 64) (i := 2) ch_cX11_echo_64 rfl)
theorem dX11_echo_67 : decode cX11_echo 67 = .ok (.invokevirtual 67, 3) := do_182 (rdb (p := 64) (i := 3) ch_cX11_echo_64 rfl) (rdb (p := 64) (i := 4) ch_cX11_echo_64 rfl) (rdb (p := 64) (i := 5) ch_cX11_echo_64 rfl) rfl
theorem dX11_echo_70 : decode cX11_echo 70 = .ok (.ireturn, 1) := do_172 (rdb (p := 64) (i := 6) ch_cX11_echo_64 rfl)
theorem dX11_echo_71 : decode cX11_echo 71 = .ok (.aload_n 0, 1) := do_42 (rdb (p := 64) (i := 7) ch_cX11_echo_64 rfl)
theorem dX11_echo_72 : decode cX11_echo 72 = .ok (.getfield 10, 3) := do_180 (rdb (p := 64) (i := 8) ch_cX11_echo_64 rfl) (rdb (p := 64) (i := 9) ch_cX11_echo_64 rfl) (rdb (p := 64) (i := 10) ch_cX11_echo_64 rfl) rfl
theorem dX11_echo_75 : decode cX11_echo 75 = .ok (.iload_n 1, 1) := do_27 (rdb (p := 64) (i := 11) ch_cX11_echo_64 rfl)
theorem dX11_echo_76 : decode cX11_echo 76 = .ok (.iload_n 2, 1) := do_28 (rdb (p := 64) (i := 12) ch_cX11_echo_64 rfl)
theorem dX11_echo_77 : decode cX11_echo 77 = .ok (.iload_n 3, 1) := do_29 (rdb (p := 64) (i := 13) ch_cX11_echo_64 rfl)
theorem dX11_echo_78 : decode cX11_echo 78 = .ok (.iload 4, 2) := do_21 (rdb (p := 64) (i := 14) ch_cX11_echo_64 rfl) (rdb (p := 64) (i := 15) ch_cX11_echo_64 rfl)
theorem dX11_echo_80 : decode cX11_echo 80 = .ok (.invokevirtual 235, 3) := do_182 (rdb (p := 64) (i := 16) ch_cX11_echo_64 rfl) (rdb (p := 64) (i := 17) ch_cX11_echo_64 rfl) (rdb (p := 64) (i := 18) ch_cX11_echo_64 rfl) rfl
theorem dX11_echo_83 : decode cX11_echo 83 = .ok (.ireturn, 1) := do_172 (rdb (p := 64) (i := 19) ch_cX11_echo_64 rfl)
theorem dX11_error_0 : decode cX11_error 0 = .ok (.iload_n 1, 1) := by decide +kernel
theorem dX11_error_1 : decode cX11_error 1 = .ok (.ifCond .lt 22, 3) := by decide +kernel
theorem dX11_error_4 : decode cX11_error 4 = .ok (.iload_n 1, 1) := by decide +kernel
theorem dX11_error_5 : decode cX11_error 5 = .ok (.aload_n 0, 1) := by decide +kernel
theorem dX11_error_6 : decode cX11_error 6 = .ok (.getfield 28, 3) := by decide +kernel
theorem dX11_error_9 : decode cX11_error 9 = .ok (.arraylength, 1) := by decide +kernel
theorem dX11_error_10 : decode cX11_error 10 = .ok (.if_icmp .ge 13, 3) := by decide +kernel
theorem dX11_error_13 : decode cX11_error 13 = .ok (.aload_n 0, 1) := by decide +kernel
theorem dX11_error_14 : decode cX11_error 14 = .ok (.getfield 28, 3) := by decide +kernel
theorem dX11_error_17 : decode cX11_error 17 = .ok (.iload_n 1, 1) := by decide +kernel
theorem dX11_error_18 : decode cX11_error 18 = .ok (.dup2, 1) := by decide +kernel
theorem dX11_error_19 : decode cX11_error 19 = .ok (.iaload, 1) := by decide +kernel
theorem dX11_error_20 : decode cX11_error 20 = .ok (.iconst 1, 1) := by decide +kernel
theorem dX11_error_21 : decode cX11_error 21 = .ok (.iadd, 1) := by decide +kernel
theorem dX11_error_22 : decode cX11_error 22 = .ok (.iastore, 1) := by decide +kernel
theorem dX11_error_23 : decode cX11_error 23 = .ok (.ldc_w 398, 3) := by decide +kernel
theorem dX11_error_26 : decode cX11_error 26 = .ok (.iload_n 1, 1) := by decide +kernel
theorem dX11_error_27 : decode cX11_error 27 = .ok (.isub, 1) := by decide +kernel
theorem dX11_error_28 : decode cX11_error 28 = .ok (.ireturn, 1) := by decide +kernel
theorem ch_cX11_face_0 : (cX11_face.data.toList.drop 0).take 36 = [42, 180, 0, 10, 27, 182, 0, 154, 153, 0, 10, 28, 184, 0, 96, 154, 0, 9, 42, 4, 182, 0, 67, 172, 42, 180, 0, 10, 180, 0, 157, 27, 50, 180, 0, 185] := by decide +kernel
theorem dX11_face_0 : decode cX11_face 0 = .ok (.aload_n 0, 1) := do_42 (rdb (p := 0) (i := 0) ch_cX11_face_0 rfl)
theorem dX11_face_1 : decode cX11_face 1 = .ok (.getfield 10, 3) := do_180 (rdb (p := 0) (i := 1) ch_cX11_face_0 rfl) (rdb (p := 0) (i := 2) ch_cX11_face_0 rfl) (rdb (p := 0) (i := 3) ch_cX11_face_0 rfl) rfl
theorem dX11_face_4 : decode cX11_face 4 = .ok (.iload_n 1, 1) := do_27 (rdb (p := 0) (i := 4) ch_cX11_face_0 rfl)
theorem dX11_face_5 : decode cX11_face 5 = .ok (.invokevirtual 154, 3) := do_182 (rdb (p := 0) (i := 5) ch_cX11_face_0 rfl) (rdb (p := 0) (i := 6) ch_cX11_face_0 rfl) (rdb (p := 0) (i := 7) ch_cX11_face_0 rfl) rfl
theorem dX11_face_8 : decode cX11_face 8 = .ok (.ifCond .eq 10, 3) := do_153 (rdb (p := 0) (i := 8) ch_cX11_face_0 rfl) (rdb (p := 0) (i := 9) ch_cX11_face_0 rfl) (rdb (p := 0) (i := 10) ch_cX11_face_0 rfl) (by decide +kernel)
theorem dX11_face_11 : decode cX11_face 11 = .ok (.iload_n 2, 1) := do_28 (rdb (p := 0) (i := 11) ch_cX11_face_0 rfl)
theorem dX11_face_12 : decode cX11_face 12 = .ok (.invokestatic 96, 3) := do_184 (rdb (p := 0) (i := 12) ch_cX11_face_0 rfl) (rdb (p := 0) (i := 13) ch_cX11_face_0 rfl) (rdb (p := 0) (i := 14) ch_cX11_face_0 rfl) rfl
theorem dX11_face_15 : decode cX11_face 15 = .ok (.ifCond .ne 9, 3) := do_154 (rdb (p := 0) (i := 15) ch_cX11_face_0 rfl) (rdb (p := 0) (i := 16) ch_cX11_face_0 rfl) (rdb (p := 0) (i := 17) ch_cX11_face_0 rfl) (by decide +kernel)
theorem dX11_face_18 : decode cX11_face 18 = .ok (.aload_n 0, 1) := do_42 (rdb (p := 0) (i := 18) ch_cX11_face_0 rfl)
theorem dX11_face_19 : decode cX11_face 19 = .ok (.iconst 1, 1) := do_4 (rdb (p := 0) (i := 19) ch_cX11_face_0 rfl)
theorem dX11_face_20 : decode cX11_face 20 = .ok (.invokevirtual 67, 3) := do_182 (rdb (p := 0) (i := 20) ch_cX11_face_0 rfl) (rdb (p := 0) (i := 21) ch_cX11_face_0 rfl) (rdb (p := 0) (i := 22) ch_cX11_face_0 rfl) rfl
theorem dX11_face_23 : decode cX11_face 23 = .ok (.ireturn, 1) := do_172 (rdb (p := 0) (i := 23) ch_cX11_face_0 rfl)
theorem dX11_face_24 : decode cX11_face 24 = .ok (.aload_n 0, 1) := do_42 (rdb (p := 0) (i := 24) ch_cX11_face_0 rfl)
theorem dX11_face_25 : decode cX11_face 25 = .ok (.getfield 10, 3) := do_180 (rdb (p := 0) (i := 25) ch_cX11_face_0 rfl) (rdb (p := 0) (i := 26) ch_cX11_face_0 rfl) (rdb (p := 0) (i := 27) ch_cX11_face_0 rfl) rfl
theorem dX11_face_28 : decode cX11_face 28 = .ok (.getfield 157, 3) := do_180 (rdb (p := 0) (i := 28) ch_cX11_face_0 rfl) (rdb (p := 0) (i := 29) ch_cX11_face_0 rfl) (rdb (p := 0) (i := 30) ch_cX11_face_0 rfl) rfl
theorem dX11_face_31 : decode cX11_face 31 = .ok (.iload_n 1, 1) := do_27 (rdb (p := 0) (i := 31) ch_cX11_face_0 rfl)
theorem ch_cX11_face_32 : (cX11_face.data.toList.drop 32).take 36 = [50, 180, 0, 185, 62, 42, 180, 0, 10, 180, 0, 157, 27, 50, 28, 181, 0, 185, 29, 172] := by decide +kernel
theorem dX11_face_32 : decode cX11_face 32 = .ok (.aaload, 1) := do_50 (rdb (p := 32) (i := 0) ch_cX11_face_32 rfl)
theorem dX11_face_33 : decode cX11_face 33 = .ok (.getfield 185, 3) := do_180 (rdb (p := 32) (i := 1) ch_cX11_face_32 rfl) (rdb (p := 32) (i := 2) ch_cX11_face_32 rfl) (rdb (p := 32) (i := 3) ch_cX11_face_32 rfl) rfl
theorem dX11_face_36 : decode cX11_face 36 = .ok (.istore_n 3, 1) := do_62 (rdb (p := 32) (i := 4) ch_cX11_face_32 rfl)
theorem dX11_face_37 : decode cX11_face 37 = .ok (.aload_n 0, 1) := do_42 (rdb (p := 32) (i := 5) ch_cX11_face_32 rfl)
theorem dX11_face_38 : decode cX11_face 38 = .ok (.getfield 10, 3) := do_180 (rdb (p := 32) (i := 6) ch_cX11_face_32 rfl) (rdb (p := 32) (i := 7) ch_cX11_face_32 rfl) (rdb (p := 32) (i := 8) ch_cX11_face_32 rfl) rfl
theorem dX11_face_41 : decode cX11_face 41 = .ok (.getfield 157, 3) := do_180 (rdb (p := 32) (i := 9) ch_cX11_face_32 rfl) (rdb (p := 32) (i := 10) ch_cX11_face_32 rfl) (rdb (p := 32) (i := 11) ch_cX11_face_32 rfl) rfl
theorem dX11_face_44 : decode cX11_face 44 = .ok (.iload_n 1, 1) := do_27 (rdb (p := 32) (i := 12) ch_cX11_face_32 rfl)
theorem dX11_face_45 : decode cX11_face 45 = .ok (.aaload, 1) := do_50 (rdb (p := 32) (i := 13) ch_cX11_face_32 rfl)
theorem dX11_face_46 : decode cX11_face 46 = .ok (.iload_n 2, 1) := do_28 (rdb (p := 32) (i := 14) ch_cX11_face_32 rfl)
theorem dX11_face_47 : decode cX11_face 47 = .ok (.putfield 185, 3) := do_181 (rdb (p := 32) (i := 15) ch_cX11_face_32 rfl) (rdb (p := 32) (i := 16) ch_cX11_face_32 rfl) (rdb (p := 32) (i := 17) ch_cX11_face_32 rfl) rfl
theorem dX11_face_50 : decode cX11_face 50 = .ok (.iload_n 3, 1) := do_29 (rdb (p := 32) (i := 18) ch_cX11_face_32 rfl)
theorem dX11_face_51 : decode cX11_face 51 = .ok (.ireturn, 1) := do_172 (rdb (p := 32) (i := 19) ch_cX11_face_32 rfl)
theorem ch_cX11_farthest_0 : (cX11_farthest.data.toList.drop 0).take 36 = [42, 180, 0, 10, 27, 182, 0, 154, 153, 0, 17, 28, 184, 0, 58, 153, 0, 10, 29, 184, 0, 227, 154, 0, 9, 42, 4, 182, 0, 67, 172, 42, 180, 0, 10, 180] := by decide +kernel
theorem dX11_farthest_0 : decode cX11_farthest 0 = .ok (.aload_n 0, 1) := do_42 (rdb (p := 0) (i := 0) ch_cX11_farthest_0 rfl)
theorem dX11_farthest_1 : decode cX11_farthest 1 = .ok (.getfield 10, 3) := do_180 (rdb (p := 0) (i := 1) ch_cX11_farthest_0 rfl) (rdb (p := 0) (i := 2) ch_cX11_farthest_0 rfl) (rdb (p := 0) (i := 3) ch_cX11_farthest_0 rfl) rfl
theorem dX11_farthest_4 : decode cX11_farthest 4 = .ok (.iload_n 1, 1) := do_27 (rdb (p := 0) (i := 4) ch_cX11_farthest_0 rfl)
theorem dX11_farthest_5 : decode cX11_farthest 5 = .ok (.invokevirtual 154, 3) := do_182 (rdb (p := 0) (i := 5) ch_cX11_farthest_0 rfl) (rdb (p := 0) (i := 6) ch_cX11_farthest_0 rfl) (rdb (p := 0) (i := 7) ch_cX11_farthest_0 rfl) rfl
theorem dX11_farthest_8 : decode cX11_farthest 8 = .ok (.ifCond .eq 17, 3) := do_153 (rdb (p := 0) (i := 8) ch_cX11_farthest_0 rfl) (rdb (p := 0) (i := 9) ch_cX11_farthest_0 rfl) (rdb (p := 0) (i := 10) ch_cX11_farthest_0 rfl) (by decide +kernel)
theorem dX11_farthest_11 : decode cX11_farthest 11 = .ok (.iload_n 2, 1) := do_28 (rdb (p := 0) (i := 11) ch_cX11_farthest_0 rfl)
theorem dX11_farthest_12 : decode cX11_farthest 12 = .ok (.invokestatic 58, 3) := do_184 (rdb (p := 0) (i := 12) ch_cX11_farthest_0 rfl) (rdb (p := 0) (i := 13) ch_cX11_farthest_0 rfl) (rdb (p := 0) (i := 14) ch_cX11_farthest_0 rfl) rfl
theorem dX11_farthest_15 : decode cX11_farthest 15 = .ok (.ifCond .eq 10, 3) := do_153 (rdb (p := 0) (i := 15) ch_cX11_farthest_0 rfl) (rdb (p := 0) (i := 16) ch_cX11_farthest_0 rfl) (rdb (p := 0) (i := 17) ch_cX11_farthest_0 rfl) (by decide +kernel)
theorem dX11_farthest_18 : decode cX11_farthest 18 = .ok (.iload_n 3, 1) := do_29 (rdb (p := 0) (i := 18) ch_cX11_farthest_0 rfl)
theorem dX11_farthest_19 : decode cX11_farthest 19 = .ok (.invokestatic 227, 3) := do_184 (rdb (p := 0) (i := 19) ch_cX11_farthest_0 rfl) (rdb (p := 0) (i := 20) ch_cX11_farthest_0 rfl) (rdb (p := 0) (i := 21) ch_cX11_farthest_0 rfl) rfl
theorem dX11_farthest_22 : decode cX11_farthest 22 = .ok (.ifCond .ne 9, 3) := do_154 (rdb (p := 0) (i := 22) ch_cX11_farthest_0 rfl) (rdb (p := 0) (i := 23) ch_cX11_farthest_0 rfl) (rdb (p := 0) (i := 24) ch_cX11_farthest_0 rfl) (by decide +kernel)
theorem dX11_farthest_25 : decode cX11_farthest 25 = .ok (.aload_n 0, 1) := do_42 (rdb (p := 0) (i := 25) ch_cX11_farthest_0 rfl)
theorem dX11_farthest_26 : decode cX11_farthest 26 = .ok (.iconst 1, 1) := do_4 (rdb (p := 0) (i := 26) ch_cX11_farthest_0 rfl)
theorem dX11_farthest_27 : decode cX11_farthest 27 = .ok (.invokevirtual 67, 3) := do_182 (rdb (p := 0) (i := 27) ch_cX11_farthest_0 rfl) (rdb (p := 0) (i := 28) ch_cX11_farthest_0 rfl) (rdb (p := 0) (i := 29) ch_cX11_farthest_0 rfl) rfl
theorem dX11_farthest_30 : decode cX11_farthest 30 = .ok (.ireturn, 1) := do_172 (rdb (p := 0) (i := 30) ch_cX11_farthest_0 rfl)
theorem dX11_farthest_31 : decode cX11_farthest 31 = .ok (.aload_n 0, 1) := do_42 (rdb (p := 0) (i := 31) ch_cX11_farthest_0 rfl)
theorem ch_cX11_farthest_32 : (cX11_farthest.data.toList.drop 32).take 36 = [180, 0, 10, 180, 0, 157, 27, 50, 58, 4, 25, 4, 182, 0, 168, 54, 5, 21, 5, 4, 161, 0, 35, 42, 180, 0, 10, 180, 0, 114, 25, 4, 182, 1, 1, 28] := by decide +kernel
theorem dX11_farthest_32 : decode cX11_farthest 32 = .ok (.getfield 10, 3) := do_180 (rdb (p := 32) (i := 0) ch_cX11_farthest_32 rfl) (rdb (p := 32) (i := 1) ch_cX11_farthest_32 rfl) (rdb (p := 32) (i := 2) ch_cX11_farthest_32 rfl) rfl
theorem dX11_farthest_35 : decode cX11_farthest 35 = .ok (.getfield 157, 3) := do_180 (rdb (p := 32) (i := 3) ch_cX11_farthest_32 rfl) (rdb (p := 32) (i := 4) ch_cX11_farthest_32 rfl) (rdb (p := 32) (i := 5) ch_cX11_farthest_32 rfl) rfl
theorem dX11_farthest_38 : decode cX11_farthest 38 = .ok (.iload_n 1, 1) := do_27 (rdb (p := 32) (i := 6) ch_cX11_farthest_32 rfl)
theorem dX11_farthest_39 : decode cX11_farthest 39 = .ok (.aaload, 1) := do_50 (rdb (p := 32) (i := 7) ch_cX11_farthest_32 rfl)
theorem dX11_farthest_40 : decode cX11_farthest 40 = .ok (.astore 4, 2) := do_58 (rdb (p := 32) (i := 8) ch_cX11_farthest_32 rfl) (rdb (p := 32) (i := 9) ch_cX11_farthest_32 rfl)
theorem dX11_farthest_42 : decode cX11_farthest 42 = .ok (.aload 4, 2) := do_25 (rdb (p := 32) (i := 10) ch_cX11_farthest_32 rfl) (rdb (p := 32) (i := 11) ch_cX11_farthest_32 rfl)
theorem dX11_farthest_44 : decode cX11_farthest 44 = .ok (.invokevirtual 168, 3) := do_182 (rdb (p := 32) (i := 12) ch_cX11_farthest_32 rfl) (rdb (p := 32) (i := 13) ch_cX11_farthest_32 rfl) (rdb (p := 32) (i := 14) ch_cX11_farthest_32 rfl) rfl
theorem dX11_farthest_47 : decode cX11_farthest 47 = .ok (.istore 5, 2) := do_54 (rdb (p := 32) (i := 15) ch_cX11_farthest_32 rfl) (rdb (p := 32) (i := 16) ch_cX11_farthest_32 rfl)
theorem dX11_farthest_49 : decode cX11_farthest 49 = .ok (.iload 5, 2) := do_21 (rdb (p := 32) (i := 17) ch_cX11_farthest_32 rfl) (rdb (p := 32) (i := 18) ch_cX11_farthest_32 rfl)
theorem dX11_farthest_51 : decode cX11_farthest 51 = .ok (.iconst 1, 1) := do_4 (rdb (p := 32) (i := 19) ch_cX11_farthest_32 rfl)
theorem dX11_farthest_52 : decode cX11_farthest 52 = .ok (.if_icmp .lt 35, 3) := do_161 (rdb (p := 32) (i := 20) ch_cX11_farthest_32 rfl) (rdb (p := 32) (i := 21) ch_cX11_farthest_32 rfl) (rdb (p := 32) (i := 22) ch_cX11_farthest_32 rfl) (by decide +kernel)
theorem dX11_farthest_55 : decode cX11_farthest 55 = .ok (.aload_n 0, 1) := do_42 (rdb (p := 32) (i := 23) ch_cX11_farthest_32 rfl)
theorem dX11_farthest_56 : decode cX11_farthest 56 = .ok (.getfield 10, 3) := do_180 (rdb (p := 32) (i := 24) ch_cX11_farthest_32 rfl) (rdb (p := 32) (i := 25) ch_cX11_farthest_32 rfl) (rdb (p := 32) (i := 26) ch_cX11_farthest_32 rfl) rfl
theorem dX11_farthest_59 : decode cX11_farthest 59 = .ok (.getfield 114, 3) := do_180 (rdb (p := 32) (i := 27) ch_cX11_farthest_32 rfl) (rdb (p := 32) (i := 28) ch_cX11_farthest_32 rfl) (rdb (p := 32) (i := 29) ch_cX11_farthest_32 rfl) rfl
theorem dX11_farthest_62 : decode cX11_farthest 62 = .ok (.aload 4, 2) := do_25 (rdb (p := 32) (i := 30) ch_cX11_farthest_32 rfl) (rdb (p := 32) (i := 31) ch_cX11_farthest_32 rfl)
theorem ch_cX11_farthest_64 : (cX11_farthest.data.toList.drop 64).take 36 = [182, 1, 1, 28, 29, 21, 5, 3, 182, 1, 14, 153, 0, 6, 21, 5, 172, 132, 5, 255, 167, 255, 221, 42, 5, 182, 0, 67, 172] := by decide +kernel
theorem dX11_farthest_64 : decode cX11_farthest 64 = .ok (.invokevirtual 257, 3) := do_182 (rdb (p := 64) (i := 0) ch_cX11_farthest_64 rfl) (rdb (p := 64) (i := 1) ch_cX11_farthest_64 rfl) (rdb (p := 64) (i := 2) ch_cX11_farthest_64 rfl) rfl
theorem dX11_farthest_67 : decode cX11_farthest 67 = .ok (.iload_n 2, 1) := do_28 (rdb (p := 64) (i := 3) ch_cX11_farthest_64 rfl)
theorem dX11_farthest_68 : decode cX11_farthest 68 = .ok (.iload_n 3, 1) := do_29 (rdb (p := 64) (i := 4) ch_cX11_farthest_64 rfl)
theorem dX11_farthest_69 : decode cX11_farthest 69 = .ok (.iload 5, 2) := do_21 (rdb (p := 64) (i := 5) ch_cX11_farthest_64 rfl) (rdb (p := 64) (i := 6) ch_cX11_farthest_64 rfl)
theorem dX11_farthest_71 : decode cX11_farthest 71 = .ok (.iconst 0, 1) := do_3 (rdb (p := 64) (i := 7) ch_cX11_farthest_64 rfl)
theorem dX11_farthest_72 : decode cX11_farthest 72 = .ok (.invokevirtual 270, 3) := do_182 (rdb (p := 64) (i := 8) ch_cX11_farthest_64 rfl) (rdb (p := 64) (i := 9) ch_cX11_farthest_64 rfl) (rdb (p := 64) (i := 10) ch_cX11_farthest_64 rfl) rfl
theorem dX11_farthest_75 : decode cX11_farthest 75 = .ok (.ifCond .eq 6, 3) := do_153 (rdb (p := 64) (i := 11) ch_cX11_farthest_64 rfl) (rdb (p := 64) (i := 12) ch_cX11_farthest_64 rfl) (rdb (p := 64) (i := 13) ch_cX11_farthest_64 rfl) (by decide +kernel)
theorem dX11_farthest_78 : decode cX11_farthest 78 = .ok (.iload 5, 2) := do_21 (rdb (p := 64) (i := 14) ch_cX11_farthest_64 rfl) (rdb (p := 64) (i := 15) ch_cX11_farthest_64 rfl)
theorem dX11_farthest_80 : decode cX11_farthest 80 = .ok (.ireturn, 1) := do_172 (rdb (p := 64) (i := 16) ch_cX11_farthest_64 rfl)
theorem dX11_farthest_81 : decode cX11_farthest 81 = .ok (.iinc 5 (-1), 3) := do_132 (rdb (p := 64) (i := 17) ch_cX11_farthest_64 rfl) (rdb (p := 64) (i := 18) ch_cX11_farthest_64 rfl) (rdb (p := 64) (i := 19) ch_cX11_farthest_64 rfl) (by decide +kernel)
theorem dX11_farthest_84 : decode cX11_farthest 84 = .ok (.goto (-35), 3) := do_167 (rdb (p := 64) (i := 20) ch_cX11_farthest_64 rfl) (rdb (p := 64) (i := 21) ch_cX11_farthest_64 rfl) (rdb (p := 64) (i := 22) ch_cX11_farthest_64 rfl) (by decide +kernel)
theorem dX11_farthest_87 : decode cX11_farthest 87 = .ok (.aload_n 0, 1) := do_42 (rdb (p := 64) (i := 23) ch_cX11_farthest_64 rfl)
theorem dX11_farthest_88 : decode cX11_farthest 88 = .ok (.iconst 2, 1) := do_5 (rdb (p := 64) (i := 24) ch_cX11_farthest_64 rfl)
theorem dX11_farthest_89 : decode cX11_farthest 89 = .ok (.invokevirtual 67, 3) := do_182 (rdb (p := 64) (i := 25) ch_cX11_farthest_64 rfl) (rdb (p := 64) (i := 26) ch_cX11_farthest_64 rfl) (rdb (p := 64) (i := 27) ch_cX11_farthest_64 rfl) rfl
theorem dX11_farthest_92 : decode cX11_farthest 92 = .ok (.ireturn, 1) := do_172 (rdb (p := 64) (i := 28) ch_cX11_farthest_64 rfl)
theorem ch_cX11_goes_0 : (cX11_goes.data.toList.drop 0).take 36 = [42, 180, 0, 10, 27, 182, 0, 154, 154, 0, 9, 42, 4, 182, 0, 67, 172, 42, 180, 0, 10, 180, 0, 157, 27, 50, 180, 0, 188, 62, 42, 180, 0, 10, 180, 0] := by decide +kernel
theorem dX11_goes_0 : decode cX11_goes 0 = .ok (.aload_n 0, 1) := do_42 (rdb (p := 0) (i := 0) ch_cX11_goes_0 rfl)
theorem dX11_goes_1 : decode cX11_goes 1 = .ok (.getfield 10, 3) := do_180 (rdb (p := 0) (i := 1) ch_cX11_goes_0 rfl) (rdb (p := 0) (i := 2) ch_cX11_goes_0 rfl) (rdb (p := 0) (i := 3) ch_cX11_goes_0 rfl) rfl
theorem dX11_goes_4 : decode cX11_goes 4 = .ok (.iload_n 1, 1) := do_27 (rdb (p := 0) (i := 4) ch_cX11_goes_0 rfl)
theorem dX11_goes_5 : decode cX11_goes 5 = .ok (.invokevirtual 154, 3) := do_182 (rdb (p := 0) (i := 5) ch_cX11_goes_0 rfl) (rdb (p := 0) (i := 6) ch_cX11_goes_0 rfl) (rdb (p := 0) (i := 7) ch_cX11_goes_0 rfl) rfl
theorem dX11_goes_8 : decode cX11_goes 8 = .ok (.ifCond .ne 9, 3) := do_154 (rdb (p := 0) (i := 8) ch_cX11_goes_0 rfl) (rdb (p := 0) (i := 9) ch_cX11_goes_0 rfl) (rdb (p := 0) (i := 10) ch_cX11_goes_0 rfl) (by decide +kernel)
theorem dX11_goes_11 : decode cX11_goes 11 = .ok (.aload_n 0, 1) := do_42 (rdb (p := 0) (i := 11) ch_cX11_goes_0 rfl)
theorem dX11_goes_12 : decode cX11_goes 12 = .ok (.iconst 1, 1) := do_4 (rdb (p := 0) (i := 12) ch_cX11_goes_0 rfl)
theorem dX11_goes_13 : decode cX11_goes 13 = .ok (.invokevirtual 67, 3) := do_182 (rdb (p := 0) (i := 13) ch_cX11_goes_0 rfl) (rdb (p := 0) (i := 14) ch_cX11_goes_0 rfl) (rdb (p := 0) (i := 15) ch_cX11_goes_0 rfl) rfl
theorem dX11_goes_16 : decode cX11_goes 16 = .ok (.ireturn, 1) := do_172 (rdb (p := 0) (i := 16) ch_cX11_goes_0 rfl)
theorem dX11_goes_17 : decode cX11_goes 17 = .ok (.aload_n 0, 1) := do_42 (rdb (p := 0) (i := 17) ch_cX11_goes_0 rfl)
theorem dX11_goes_18 : decode cX11_goes 18 = .ok (.getfield 10, 3) := do_180 (rdb (p := 0) (i := 18) ch_cX11_goes_0 rfl) (rdb (p := 0) (i := 19) ch_cX11_goes_0 rfl) (rdb (p := 0) (i := 20) ch_cX11_goes_0 rfl) rfl
theorem dX11_goes_21 : decode cX11_goes 21 = .ok (.getfield 157, 3) := do_180 (rdb (p := 0) (i := 21) ch_cX11_goes_0 rfl) (rdb (p := 0) (i := 22) ch_cX11_goes_0 rfl) (rdb (p := 0) (i := 23) ch_cX11_goes_0 rfl) rfl
theorem dX11_goes_24 : decode cX11_goes 24 = .ok (.iload_n 1, 1) := do_27 (rdb (p := 0) (i := 24) ch_cX11_goes_0 rfl)
theorem dX11_goes_25 : decode cX11_goes 25 = .ok (.aaload, 1) := do_50 (rdb (p := 0) (i := 25) ch_cX11_goes_0 rfl)
theorem dX11_goes_26 : decode cX11_goes 26 = .ok (.getfield 188, 3) := do_180 (rdb (p := 0) (i := 26) ch_cX11_goes_0 rfl) (rdb (p := 0) (i := 27) ch_cX11_goes_0 rfl) (rdb (p := 0) (i := 28) ch_cX11_goes_0 rfl) rfl
theorem dX11_goes_29 : decode cX11_goes 29 = .ok (.istore_n 3, 1) := do_62 (rdb (p := 0) (i := 29) ch_cX11_goes_0 rfl)
theorem dX11_goes_30 : decode cX11_goes 30 = .ok (.aload_n 0, 1) := do_42 (rdb (p := 0) (i := 30) ch_cX11_goes_0 rfl)
theorem dX11_goes_31 : decode cX11_goes 31 = .ok (.getfield 10, 3) := do_180 (rdb (p := 0) (i := 31) ch_cX11_goes_0 rfl) (rdb (p := 0) (i := 32) ch_cX11_goes_0 rfl) (rdb (p := 0) (i := 33) ch_cX11_goes_0 rfl) rfl
theorem ch_cX11_goes_32 : (cX11_goes.data.toList.drop 32).take 36 = [0, 10, 180, 0, 157, 27, 50, 28, 181, 0, 188, 29, 153, 0, 7, 4, 167, 0, 4, 3, 172] := by decide +kernel
theorem dX11_goes_34 : decode cX11_goes 34 = .ok (.getfield 157, 3) := do_180 (rdb (p := 32) (i := 2) ch_cX11_goes_32 rfl) (rdb (p := 32) (i := 3) ch_cX11_goes_32 rfl) (rdb (p := 32) (i := 4) ch_cX11_goes_32 rfl) rfl
theorem dX11_goes_37 : decode cX11_goes 37 = .ok (.iload_n 1, 1) := do_27 (rdb (p := 32) (i := 5) ch_cX11_goes_32 rfl)
theorem dX11_goes_38 : decode cX11_goes 38 = .ok (.aaload, 1) := do_50 (rdb (p := 32) (i := 6) ch_cX11_goes_32 rfl)
theorem dX11_goes_39 : decode cX11_goes 39 = .ok (.iload_n 2, 1) := do_28 (rdb (p := 32) (i := 7) ch_cX11_goes_32 rfl)
theorem dX11_goes_40 : decode cX11_goes 40 = .ok (.putfield 188, 3) := do_181 (rdb (p := 32) (i := 8) ch_cX11_goes_32 rfl) (rdb (p := 32) (i := 9) ch_cX11_goes_32 rfl) (rdb (p := 32) (i := 10) ch_cX11_goes_32 rfl) rfl
theorem dX11_goes_43 : decode cX11_goes 43 = .ok (.iload_n 3, 1) := do_29 (rdb (p := 32) (i := 11) ch_cX11_goes_32 rfl)
theorem dX11_goes_44 : decode cX11_goes 44 = .ok (.ifCond .eq 7, 3) := do_153 (rdb (p := 32) (i := 12) ch_cX11_goes_32 rfl) (rdb (p := 32) (i := 13) ch_cX11_goes_32 rfl) (rdb (p := 32) (i := 14) ch_cX11_goes_32 rfl) (by decide +kernel)
theorem dX11_goes_47 : decode cX11_goes 47 = .ok (.iconst 1, 1) := do_4 (rdb (p := 32) (i := 15) ch_cX11_goes_32 rfl)
theorem dX11_goes_48 : decode cX11_goes 48 = .ok (.goto 4, 3) := do_167 (rdb (p := 32) (i := 16) ch_cX11_goes_32 rfl) (rdb (p := 32) (i := 17) ch_cX11_goes_32 rfl) (rdb (p := 32) (i := 18) ch_cX11_goes_32 rfl) (by decide +kernel)
theorem dX11_goes_51 : decode cX11_goes 51 = .ok (.iconst 0, 1) := do_3 (rdb (p := 32) (i := 19) ch_cX11_goes_32 rfl)
theorem dX11_goes_52 : decode cX11_goes 52 = .ok (.ireturn, 1) := do_172 (rdb (p := 32) (i := 20) ch_cX11_goes_32 rfl)
theorem ch_cX11_habit_0 : (cX11_habit.data.toList.drop 0).take 36 = [42, 180, 0, 10, 27, 182, 0, 154, 153, 0, 22, 28, 29, 184, 0, 172, 153, 0, 14, 21, 4, 3, 16, 30, 184, 0, 89, 154, 0, 9, 42, 4, 182, 0, 67, 172] := by decide +kernel
theorem dX11_habit_0 : decode cX11_habit 0 = .ok (.aload_n 0, 1) := do_42 (rdb (p := 0) (i := 0) ch_cX11_habit_0 rfl)
theorem dX11_habit_1 : decode cX11_habit 1 = .ok (.getfield 10, 3) := do_180 (rdb (p := 0) (i := 1) ch_cX11_habit_0 rfl) (rdb (p := 0) (i := 2) ch_cX11_habit_0 rfl) (rdb (p := 0) (i := 3) ch_cX11_habit_0 rfl) rfl
theorem dX11_habit_4 : decode cX11_habit 4 = .ok (.iload_n 1, 1) := do_27 (rdb (p := 0) (i := 4) ch_cX11_habit_0 rfl)
theorem dX11_habit_5 : decode cX11_habit 5 = .ok (.invokevirtual 154, 3) := do_182 (rdb (p := 0) (i := 5) ch_cX11_habit_0 rfl) (rdb (p := 0) (i := 6) ch_cX11_habit_0 rfl) (rdb (p := 0) (i := 7) ch_cX11_habit_0 rfl) rfl
theorem dX11_habit_8 : decode cX11_habit 8 = .ok (.ifCond .eq 22, 3) := do_153 (rdb (p := 0) (i := 8) ch_cX11_habit_0 rfl) (rdb (p := 0) (i := 9) ch_cX11_habit_0 rfl) (rdb (p := 0) (i := 10) ch_cX11_habit_0 rfl) (by decide +kernel)
theorem dX11_habit_11 : decode cX11_habit 11 = .ok (.iload_n 2, 1) := do_28 (rdb (p := 0) (i := 11) ch_cX11_habit_0 rfl)
theorem dX11_habit_12 : decode cX11_habit 12 = .ok (.iload_n 3, 1) := do_29 (rdb (p := 0) (i := 12) ch_cX11_habit_0 rfl)
theorem dX11_habit_13 : decode cX11_habit 13 = .ok (.invokestatic 172, 3) := do_184 (rdb (p := 0) (i := 13) ch_cX11_habit_0 rfl) (rdb (p := 0) (i := 14) ch_cX11_habit_0 rfl) (rdb (p := 0) (i := 15) ch_cX11_habit_0 rfl) rfl
theorem dX11_habit_16 : decode cX11_habit 16 = .ok (.ifCond .eq 14, 3) := do_153 (rdb (p := 0) (i := 16) ch_cX11_habit_0 rfl) (rdb (p := 0) (i := 17) ch_cX11_habit_0 rfl) (rdb (p := 0) (i := 18) ch_cX11_habit_0 rfl) (by decide +kernel)
theorem dX11_habit_19 : decode cX11_habit 19 = .ok (.iload 4, 2) := do_21 (rdb (p := 0) (i := 19) ch_cX11_habit_0 rfl) (rdb (p := 0) (i := 20) ch_cX11_habit_0 rfl)
theorem dX11_habit_21 : decode cX11_habit 21 = .ok (.iconst 0, 1) := do_3 (rdb (p := 0) (i := 21) ch_cX11_habit_0 rfl)
theorem dX11_habit_22 : decode cX11_habit 22 = .ok (.bipush 30, 2) := do_16 (rdb (p := 0) (i := 22) ch_cX11_habit_0 rfl) (rdb (p := 0) (i := 23) ch_cX11_habit_0 rfl) (by decide +kernel)
theorem dX11_habit_24 : decode cX11_habit 24 = .ok (.invokestatic 89, 3) := do_184 (rdb (p := 0) (i := 24) ch_cX11_habit_0 rfl) (rdb (p := 0) (i := 25) ch_cX11_habit_0 rfl) (rdb (p := 0) (i := 26) ch_cX11_habit_0 rfl) rfl
theorem dX11_habit_27 : decode cX11_habit 27 = .ok (.ifCond .ne 9, 3) := do_154 (rdb (p := 0) (i := 27) ch_cX11_habit_0 rfl) (rdb (p := 0) (i := 28) ch_cX11_habit_0 rfl) (rdb (p := 0) (i := 29) ch_cX11_habit_0 rfl) (by decide +kernel)
theorem dX11_habit_30 : decode cX11_habit 30 = .ok (.aload_n 0, 1) := do_42 (rdb (p := 0) (i := 30) ch_cX11_habit_0 rfl)
theorem dX11_habit_31 : decode cX11_habit 31 = .ok (.iconst 1, 1) := do_4 (rdb (p := 0) (i := 31) ch_cX11_habit_0 rfl)
theorem ch_cX11_habit_32 : (cX11_habit.data.toList.drop 32).take 36 = [182, 0, 67, 172, 42, 180, 0, 10, 180, 0, 157, 27, 50, 58, 5, 25, 5, 28, 181, 0, 176, 25, 5, 29, 181, 0, 179, 25, 5, 21, 4, 181, 0, 182, 4, 172] := by decide +kernel
theorem dX11_habit_32 : decode cX11_habit 32 = .ok (.invokevirtual 67, 3) := do_182 (rdb (p := 32) (i := 0) ch_cX11_habit_32 rfl) (rdb (p := 32) (i := 1) ch_cX11_habit_32 rfl) (rdb (p := 32) (i := 2) ch_cX11_habit_32 rfl) rfl
theorem dX11_habit_35 : decode cX11_habit 35 = .ok (.ireturn, 1) := do_172 (rdb (p := 32) (i := 3) ch_cX11_habit_32 rfl)
theorem dX11_habit_36 : decode cX11_habit 36 = .ok (.aload_n 0, 1) := do_42 (rdb (p := 32) (i := 4) ch_cX11_habit_32 rfl)
theorem dX11_habit_37 : decode cX11_habit 37 = .ok (.getfield 10, 3) := do_180 (rdb (p := 32) (i := 5) ch_cX11_habit_32 rfl) (rdb (p := 32) (i := 6) ch_cX11_habit_32 rfl) (rdb (p := 32) (i := 7) ch_cX11_habit_32 rfl) rfl
theorem dX11_habit_40 : decode cX11_habit 40 = .ok (.getfield 157, 3) := do_180 (rdb (p := 32) (i := 8) ch_cX11_habit_32 rfl) (rdb (p := 32) (i := 9) ch_cX11_habit_32 rfl) (rdb (p := 32) (i := 10) ch_cX11_habit_32 rfl) rfl
theorem dX11_habit_43 : decode cX11_habit 43 = .ok (.iload_n 1, 1) := do_27 (rdb (p := 32) (i := 11) ch_cX11_habit_32 rfl)
theorem dX11_habit_44 : decode cX11_habit 44 = .ok (.aaload, 1) := do_50 (rdb (p := 32) (i := 12) ch_cX11_habit_32 rfl)
theorem dX11_habit_45 : decode cX11_habit 45 = .ok (.astore 5, 2) := do_58 (rdb (p := 32) (i := 13) ch_cX11_habit_32 rfl) (rdb (p := 32) (i := 14) ch_cX11_habit_32 rfl)
theorem dX11_habit_47 : decode cX11_habit 47 = .ok (.aload 5, 2) := do_25 (rdb (p := 32) (i := 15) ch_cX11_habit_32 rfl) (rdb (p := 32) (i := 16) ch_cX11_habit_32 rfl)
theorem dX11_habit_49 : decode cX11_habit 49 = .ok (.iload_n 2, 1) := do_28 (rdb (p := 32) (i := 17) ch_cX11_habit_32 rfl)
theorem dX11_habit_50 : decode cX11_habit 50 = .ok (.putfield 176, 3) := do_181 (rdb (p := 32) (i := 18) ch_cX11_habit_32 rfl) (rdb (p := 32) (i := 19) ch_cX11_habit_32 rfl) (rdb (p := 32) (i := 20) ch_cX11_habit_32 rfl) rfl
theorem dX11_habit_53 : decode cX11_habit 53 = .ok (.aload 5, 2) := do_25 (rdb (p := 32) (i := 21) ch_cX11_habit_32 rfl) (rdb (p := 32) (i := 22) ch_cX11_habit_32 rfl)
theorem dX11_habit_55 : decode cX11_habit 55 = .ok (.iload_n 3, 1) := do_29 (rdb (p := 32) (i := 23) ch_cX11_habit_32 rfl)
theorem dX11_habit_56 : decode cX11_habit 56 = .ok (.putfield 179, 3) := do_181 (rdb (p := 32) (i := 24) ch_cX11_habit_32 rfl) (rdb (p := 32) (i := 25) ch_cX11_habit_32 rfl) (rdb (p := 32) (i := 26) ch_cX11_habit_32 rfl) rfl
theorem dX11_habit_59 : decode cX11_habit 59 = .ok (.aload 5, 2) := do_25 (rdb (p := 32) (i := 27) ch_cX11_habit_32 rfl) (rdb (p := 32) (i := 28) ch_cX11_habit_32 rfl)
theorem dX11_habit_61 : decode cX11_habit 61 = .ok (.iload 4, 2) := do_21 (rdb (p := 32) (i := 29) ch_cX11_habit_32 rfl) (rdb (p := 32) (i := 30) ch_cX11_habit_32 rfl)
theorem dX11_habit_63 : decode cX11_habit 63 = .ok (.putfield 182, 3) := do_181 (rdb (p := 32) (i := 31) ch_cX11_habit_32 rfl) (rdb (p := 32) (i := 32) ch_cX11_habit_32 rfl) (rdb (p := 32) (i := 33) ch_cX11_habit_32 rfl) rfl
theorem ch_cX11_habit_64 : (cX11_habit.data.toList.drop 64).take 36 = [0, 182, 4, 172] := by decide +kernel
theorem dX11_habit_66 : decode cX11_habit 66 = .ok (.iconst 1, 1) := do_4 (rdb (p := 64) (i := 2) ch_cX11_habit_64 rfl)
theorem dX11_habit_67 : decode cX11_habit 67 = .ok (.ireturn, 1) := do_172 (rdb (p := 64) (i := 3) ch_cX11_habit_64 rfl)
theorem ch_cX11_head_0 : (cX11_head.data.toList.drop 0).take 36 = [42, 180, 0, 10, 27, 182, 0, 154, 153, 0, 19, 28, 184, 0, 62, 153, 0, 12, 29, 3, 5, 184, 0, 89, 154, 0, 9, 42, 4, 182, 0, 67, 172, 42, 180, 0] := by decide +kernel
theorem dX11_head_0 : decode cX11_head 0 = .ok (.aload_n 0, 1) := do_42 (rdb (p := 0) (i := 0) ch_cX11_head_0 rfl)
theorem dX11_head_1 : decode cX11_head 1 = .ok (.getfield 10, 3) := do_180 (rdb (p := 0) (i := 1) ch_cX11_head_0 rfl) (rdb (p := 0) (i := 2) ch_cX11_head_0 rfl) (rdb (p := 0) (i := 3) ch_cX11_head_0 rfl) rfl
theorem dX11_head_4 : decode cX11_head 4 = .ok (.iload_n 1, 1) := do_27 (rdb (p := 0) (i := 4) ch_cX11_head_0 rfl)
theorem dX11_head_5 : decode cX11_head 5 = .ok (.invokevirtual 154, 3) := do_182 (rdb (p := 0) (i := 5) ch_cX11_head_0 rfl) (rdb (p := 0) (i := 6) ch_cX11_head_0 rfl) (rdb (p := 0) (i := 7) ch_cX11_head_0 rfl) rfl
theorem dX11_head_8 : decode cX11_head 8 = .ok (.ifCond .eq 19, 3) := do_153 (rdb (p := 0) (i := 8) ch_cX11_head_0 rfl) (rdb (p := 0) (i := 9) ch_cX11_head_0 rfl) (rdb (p := 0) (i := 10) ch_cX11_head_0 rfl) (by decide +kernel)
theorem dX11_head_11 : decode cX11_head 11 = .ok (.iload_n 2, 1) := do_28 (rdb (p := 0) (i := 11) ch_cX11_head_0 rfl)
theorem dX11_head_12 : decode cX11_head 12 = .ok (.invokestatic 62, 3) := do_184 (rdb (p := 0) (i := 12) ch_cX11_head_0 rfl) (rdb (p := 0) (i := 13) ch_cX11_head_0 rfl) (rdb (p := 0) (i := 14) ch_cX11_head_0 rfl) rfl
theorem dX11_head_15 : decode cX11_head 15 = .ok (.ifCond .eq 12, 3) := do_153 (rdb (p := 0) (i := 15) ch_cX11_head_0 rfl) (rdb (p := 0) (i := 16) ch_cX11_head_0 rfl) (rdb (p := 0) (i := 17) ch_cX11_head_0 rfl) (by decide +kernel)
theorem dX11_head_18 : decode cX11_head 18 = .ok (.iload_n 3, 1) := do_29 (rdb (p := 0) (i := 18) ch_cX11_head_0 rfl)
theorem dX11_head_19 : decode cX11_head 19 = .ok (.iconst 0, 1) := do_3 (rdb (p := 0) (i := 19) ch_cX11_head_0 rfl)
theorem dX11_head_20 : decode cX11_head 20 = .ok (.iconst 2, 1) := do_5 (rdb (p := 0) (i := 20) ch_cX11_head_0 rfl)
theorem dX11_head_21 : decode cX11_head 21 = .ok (.invokestatic 89, 3) := do_184 (rdb (p := 0) (i := 21) ch_cX11_head_0 rfl) (rdb (p := 0) (i := 22) ch_cX11_head_0 rfl) (rdb (p := 0) (i := 23) ch_cX11_head_0 rfl) rfl
theorem dX11_head_24 : decode cX11_head 24 = .ok (.ifCond .ne 9, 3) := do_154 (rdb (p := 0) (i := 24) ch_cX11_head_0 rfl) (rdb (p := 0) (i := 25) ch_cX11_head_0 rfl) (rdb (p := 0) (i := 26) ch_cX11_head_0 rfl) (by decide +kernel)
theorem dX11_head_27 : decode cX11_head 27 = .ok (.aload_n 0, 1) := do_42 (rdb (p := 0) (i := 27) ch_cX11_head_0 rfl)
theorem dX11_head_28 : decode cX11_head 28 = .ok (.iconst 1, 1) := do_4 (rdb (p := 0) (i := 28) ch_cX11_head_0 rfl)
theorem dX11_head_29 : decode cX11_head 29 = .ok (.invokevirtual 67, 3) := do_182 (rdb (p := 0) (i := 29) ch_cX11_head_0 rfl) (rdb (p := 0) (i := 30) ch_cX11_head_0 rfl) (rdb (p := 0) (i := 31) ch_cX11_head_0 rfl) rfl
theorem ch_cX11_head_32 : (cX11_head.data.toList.drop 32).take 36 = [172, 42, 180, 0, 10, 180, 0, 157, 27, 50, 58, 4, 29, 154, 0, 13, 25, 4, 180, 0, 242, 28, 46, 167, 0, 24, 29, 4, 160, 0, 13, 25, 4, 180, 0, 245] := by decide +kernel
theorem dX11_head_32 : decode cX11_head 32 = .ok (.ireturn, 1) := do_172 (rdb (p := 32) (i := 0) ch_cX11_head_32 rfl)
theorem dX11_head_33 : decode cX11_head 33 = .ok (.aload_n 0, 1) := do_42 (rdb (p := 32) (i := 1) ch_cX11_head_32 rfl)
theorem dX11_head_34 : decode cX11_head 34 = .ok (.getfield 10, 3) := do_180 (rdb (p := 32) (i := 2) ch_cX11_head_32 rfl) (rdb (p := 32) (i := 3) ch_cX11_head_32 rfl) (rdb (p := 32) (i := 4) ch_cX11_head_32 rfl) rfl
theorem dX11_head_37 : decode cX11_head 37 = .ok (.getfield 157, 3) := do_180 (rdb (p := 32) (i := 5) ch_cX11_head_32 rfl) (rdb (p := 32) (i := 6) ch_cX11_head_32 rfl) (rdb (p := 32) (i := 7) ch_cX11_head_32 rfl) rfl
theorem dX11_head_40 : decode cX11_head 40 = .ok (.iload_n 1, 1) := do_27 (rdb (p := 32) (i := 8) ch_cX11_head_32 rfl)
theorem dX11_head_41 : decode cX11_head 41 = .ok (.aaload, 1) := do_50 (rdb (p := 32) (i := 9) ch_cX11_head_32 rfl)
theorem dX11_head_42 : decode cX11_head 42 = .ok (.astore 4, 2) := do_58 (rdb (p := 32) (i := 10) ch_cX11_head_32 rfl) (rdb (p := 32) (i := 11) ch_cX11_head_32 rfl)
theorem dX11_head_44 : decode cX11_head 44 = .ok (.iload_n 3, 1) := do_29 (rdb (p := 32) (i := 12) ch_cX11_head_32 rfl)
theorem dX11_head_45 : decode cX11_head 45 = .ok (.ifCond .ne 13, 3) := do_154 (rdb (p := 32) (i := 13) ch_cX11_head_32 rfl) (rdb (p := 32) (i := 14) ch_cX11_head_32 rfl) (rdb (p := 32) (i := 15) ch_cX11_head_32 rfl) (by decide +kernel)
theorem dX11_head_48 : decode cX11_head 48 = .ok (.aload 4, 2) := do_25 (rdb (p := 32) (i := 16) ch_cX11_head_32 rfl) (rdb (p := 32) (i := 17) ch_cX11_head_32 rfl)
theorem dX11_head_50 : decode cX11_head 50 = .ok (.getfield 242, 3) := do_180 (rdb (p := 32) (i := 18) ch_cX11_head_32 rfl) (rdb (p := 32) (i := 19) ch_cX11_head_32 rfl) (rdb (p := 32) (i := 20) ch_cX11_head_32 rfl) rfl
theorem dX11_head_53 : decode cX11_head 53 = .ok (.iload_n 2, 1) := do_28 (rdb (p := 32) (i := 21) ch_cX11_head_32 rfl)
theorem dX11_head_54 : decode cX11_head 54 = .ok (.iaload, 1) := do_46 (rdb (p := 32) (i := 22) ch_cX11_head_32 rfl)
theorem dX11_head_55 : decode cX11_head 55 = .ok (.goto 24, 3) := do_167 (rdb (p := 32) (i := 23) ch_cX11_head_32 rfl) (rdb (p := 32) (i := 24) ch_cX11_head_32 rfl) (rdb (p := 32) (i := 25) ch_cX11_head_32 rfl) (by decide +kernel)
theorem dX11_head_58 : decode cX11_head 58 = .ok (.iload_n 3, 1) := do_29 (rdb (p := 32) (i := 26) ch_cX11_head_32 rfl)
theorem dX11_head_59 : decode cX11_head 59 = .ok (.iconst 1, 1) := do_4 (rdb (p := 32) (i := 27) ch_cX11_head_32 rfl)
theorem dX11_head_60 : decode cX11_head 60 = .ok (.if_icmp .ne 13, 3) := do_160 (rdb (p := 32) (i := 28) ch_cX11_head_32 rfl) (rdb (p := 32) (i := 29) ch_cX11_head_32 rfl) (rdb (p := 32) (i := 30) ch_cX11_head_32 rfl) (by decide +kernel)
theorem dX11_head_63 : decode cX11_head 63 = .ok (.aload 4, 2) := do_25 (rdb (p := 32) (i := 31) ch_cX11_head_32 rfl) (rdb (p := 32) (i := 32) ch_cX11_head_32 rfl)
theorem ch_cX11_head_64 : (cX11_head.data.toList.drop 64).take 36 = [4, 180, 0, 245, 28, 46, 167, 0, 9, 25, 4, 28, 182, 0, 248, 172] := by decide +kernel
theorem dX11_head_65 : decode cX11_head 65 = .ok (.getfield 245, 3) := do_180 (rdb (p := 64) (i := 1) ch_cX11_head_64 rfl) (rdb (p := 64) (i := 2) ch_cX11_head_64 rfl) (rdb (p := 64) (i := 3) ch_cX11_head_64 rfl) rfl
theorem dX11_head_68 : decode cX11_head 68 = .ok (.iload_n 2, 1) := do_28 (rdb (p := 64) (i := 4) ch_cX11_head_64 rfl)
theorem dX11_head_69 : decode cX11_head 69 = .ok (.iaload, 1) := do_46 (rdb (p := 64) (i := 5) ch_cX11_head_64 rfl)
theorem dX11_head_70 : decode cX11_head 70 = .ok (.goto 9, 3) := do_167 (rdb (p := 64) (i := 6) ch_cX11_head_64 rfl) (rdb (p := 64) (i := 7) ch_cX11_head_64 rfl) (rdb (p := 64) (i := 8) ch_cX11_head_64 rfl) (by decide +kernel)
theorem dX11_head_73 : decode cX11_head 73 = .ok (.aload 4, 2) := do_25 (rdb (p := 64) (i := 9) ch_cX11_head_64 rfl) (rdb (p := 64) (i := 10) ch_cX11_head_64 rfl)
theorem dX11_head_75 : decode cX11_head 75 = .ok (.iload_n 2, 1) := do_28 (rdb (p := 64) (i := 11) ch_cX11_head_64 rfl)
theorem dX11_head_76 : decode cX11_head 76 = .ok (.invokevirtual 248, 3) := do_182 (rdb (p := 64) (i := 12) ch_cX11_head_64 rfl) (rdb (p := 64) (i := 13) ch_cX11_head_64 rfl) (rdb (p := 64) (i := 14) ch_cX11_head_64 rfl) rfl
theorem dX11_head_79 : decode cX11_head 79 = .ok (.ireturn, 1) := do_172 (rdb (p := 64) (i := 15) ch_cX11_head_64 rfl)
theorem ch_cX11_heads_0 : (cX11_heads.data.toList.drop 0).take 36 = [42, 180, 0, 10, 27, 182, 0, 154, 153, 0, 12, 28, 3, 6, 184, 0, 89, 154, 0, 9, 42, 4, 182, 0, 67, 172, 28, 6, 160, 0, 14, 42, 180, 0, 10, 27] := by decide +kernel
theorem dX11_heads_0 : decode cX11_heads 0 = .ok (.aload_n 0, 1) := do_42 (rdb (p := 0) (i := 0) ch_cX11_heads_0 rfl)
theorem dX11_heads_1 : decode cX11_heads 1 = .ok (.getfield 10, 3) := do_180 (rdb (p := 0) (i := 1) ch_cX11_heads_0 rfl) (rdb (p := 0) (i := 2) ch_cX11_heads_0 rfl) (rdb (p := 0) (i := 3) ch_cX11_heads_0 rfl) rfl
theorem dX11_heads_4 : decode cX11_heads 4 = .ok (.iload_n 1, 1) := do_27 (rdb (p := 0) (i := 4) ch_cX11_heads_0 rfl)
theorem dX11_heads_5 : decode cX11_heads 5 = .ok (.invokevirtual 154, 3) := do_182 (rdb (p := 0) (i := 5) ch_cX11_heads_0 rfl) (rdb (p := 0) (i := 6) ch_cX11_heads_0 rfl) (rdb (p := 0) (i := 7) ch_cX11_heads_0 rfl) rfl
theorem dX11_heads_8 : decode cX11_heads 8 = .ok (.ifCond .eq 12, 3) := do_153 (rdb (p := 0) (i := 8) ch_cX11_heads_0 rfl) (rdb (p := 0) (i := 9) ch_cX11_heads_0 rfl) (rdb (p := 0) (i := 10) ch_cX11_heads_0 rfl) (by decide +kernel)
theorem dX11_heads_11 : decode cX11_heads 11 = .ok (.iload_n 2, 1) := do_28 (rdb (p := 0) (i := 11) ch_cX11_heads_0 rfl)
theorem dX11_heads_12 : decode cX11_heads 12 = .ok (.iconst 0, 1) := do_3 (rdb (p := 0) (i := 12) ch_cX11_heads_0 rfl)
theorem dX11_heads_13 : decode cX11_heads 13 = .ok (.iconst 3, 1) := do_6 (rdb (p := 0) (i := 13) ch_cX11_heads_0 rfl)
theorem dX11_heads_14 : decode cX11_heads 14 = .ok (.invokestatic 89, 3) := do_184 (rdb (p := 0) (i := 14) ch_cX11_heads_0 rfl) (rdb (p := 0) (i := 15) ch_cX11_heads_0 rfl) (rdb (p := 0) (i := 16) ch_cX11_heads_0 rfl) rfl
theorem dX11_heads_17 : decode cX11_heads 17 = .ok (.ifCond .ne 9, 3) := do_154 (rdb (p := 0) (i := 17) ch_cX11_heads_0 rfl) (rdb (p := 0) (i := 18) ch_cX11_heads_0 rfl) (rdb (p := 0) (i := 19) ch_cX11_heads_0 rfl) (by decide +kernel)
theorem dX11_heads_20 : decode cX11_heads 20 = .ok (.aload_n 0, 1) := do_42 (rdb (p := 0) (i := 20) ch_cX11_heads_0 rfl)
theorem dX11_heads_21 : decode cX11_heads 21 = .ok (.iconst 1, 1) := do_4 (rdb (p := 0) (i := 21) ch_cX11_heads_0 rfl)
theorem dX11_heads_22 : decode cX11_heads 22 = .ok (.invokevirtual 67, 3) := do_182 (rdb (p := 0) (i := 22) ch_cX11_heads_0 rfl) (rdb (p := 0) (i := 23) ch_cX11_heads_0 rfl) (rdb (p := 0) (i := 24) ch_cX11_heads_0 rfl) rfl
theorem dX11_heads_25 : decode cX11_heads 25 = .ok (.ireturn, 1) := do_172 (rdb (p := 0) (i := 25) ch_cX11_heads_0 rfl)
theorem dX11_heads_26 : decode cX11_heads 26 = .ok (.iload_n 2, 1) := do_28 (rdb (p := 0) (i := 26) ch_cX11_heads_0 rfl)
theorem dX11_heads_27 : decode cX11_heads 27 = .ok (.iconst 3, 1) := do_6 (rdb (p := 0) (i := 27) ch_cX11_heads_0 rfl)
theorem dX11_heads_28 : decode cX11_heads 28 = .ok (.if_icmp .ne 14, 3) := do_160 (rdb (p := 0) (i := 28) ch_cX11_heads_0 rfl) (rdb (p := 0) (i := 29) ch_cX11_heads_0 rfl) (rdb (p := 0) (i := 30) ch_cX11_heads_0 rfl) (by decide +kernel)
theorem dX11_heads_31 : decode cX11_heads 31 = .ok (.aload_n 0, 1) := do_42 (rdb (p := 0) (i := 31) ch_cX11_heads_0 rfl)
theorem ch_cX11_heads_32 : (cX11_heads.data.toList.drop 32).take 36 = [180, 0, 10, 27, 182, 0, 251, 167, 0, 16, 42, 180, 0, 10, 180, 0, 157, 27, 50, 28, 182, 0, 254, 172] := by decide +kernel
theorem dX11_heads_32 : decode cX11_heads 32 = .ok (.getfield 10, 3) := do_180 (rdb (p := 32) (i := 0) ch_cX11_heads_32 rfl) (rdb (p := 32) (i := 1) ch_cX11_heads_32 rfl) (rdb (p := 32) (i := 2) ch_cX11_heads_32 rfl) rfl
theorem dX11_heads_35 : decode cX11_heads 35 = .ok (.iload_n 1, 1) := do_27 (rdb (p := 32) (i := 3) ch_cX11_heads_32 rfl)
theorem dX11_heads_36 : decode cX11_heads 36 = .ok (.invokevirtual 251, 3) := do_182 (rdb (p := 32) (i := 4) ch_cX11_heads_32 rfl) (rdb (p := 32) (i := 5) ch_cX11_heads_32 rfl) (rdb (p := 32) (i := 6) ch_cX11_heads_32 rfl) rfl
theorem dX11_heads_39 : decode cX11_heads 39 = .ok (.goto 16, 3) := do_167 (rdb (p := 32) (i := 7) ch_cX11_heads_32 rfl) (rdb (p := 32) (i := 8) ch_cX11_heads_32 rfl) (rdb (p := 32) (i := 9) ch_cX11_heads_32 rfl) (by decide +kernel)
theorem dX11_heads_42 : decode cX11_heads 42 = .ok (.aload_n 0, 1) := do_42 (rdb (p := 32) (i := 10) ch_cX11_heads_32 rfl)
theorem dX11_heads_43 : decode cX11_heads 43 = .ok (.getfield 10, 3) := do_180 (rdb (p := 32) (i := 11) ch_cX11_heads_32 rfl) (rdb (p := 32) (i := 12) ch_cX11_heads_32 rfl) (rdb (p := 32) (i := 13) ch_cX11_heads_32 rfl) rfl
theorem dX11_heads_46 : decode cX11_heads 46 = .ok (.getfield 157, 3) := do_180 (rdb (p := 32) (i := 14) ch_cX11_heads_32 rfl) (rdb (p := 32) (i := 15) ch_cX11_heads_32 rfl) (rdb (p := 32) (i := 16) ch_cX11_heads_32 rfl) rfl
theorem dX11_heads_49 : decode cX11_heads 49 = .ok (.iload_n 1, 1) := do_27 (rdb (p := 32) (i := 17) ch_cX11_heads_32 rfl)
theorem dX11_heads_50 : decode cX11_heads 50 = .ok (.aaload, 1) := do_50 (rdb (p := 32) (i := 18) ch_cX11_heads_32 rfl)
theorem dX11_heads_51 : decode cX11_heads 51 = .ok (.iload_n 2, 1) := do_28 (rdb (p := 32) (i := 19) ch_cX11_heads_32 rfl)
theorem dX11_heads_52 : decode cX11_heads 52 = .ok (.invokevirtual 254, 3) := do_182 (rdb (p := 32) (i := 20) ch_cX11_heads_32 rfl) (rdb (p := 32) (i := 21) ch_cX11_heads_32 rfl) (rdb (p := 32) (i := 22) ch_cX11_heads_32 rfl) rfl
theorem dX11_heads_55 : decode cX11_heads 55 = .ok (.ireturn, 1) := do_172 (rdb (p := 32) (i := 23) ch_cX11_heads_32 rfl)
theorem ch_cX11_kind_0 : (cX11_kind.data.toList.drop 0).take 36 = [27, 184, 0, 58, 153, 0, 31, 28, 3, 4, 184, 0, 89, 153, 0, 22, 29, 3, 28, 154, 0, 8, 16, 99, 167, 0, 5, 16, 9, 184, 0, 89, 154, 0, 9, 42] := by decide +kernel
theorem dX11_kind_0 : decode cX11_kind 0 = .ok (.iload_n 1, 1) := do_27 (rdb (p := 0) (i := 0) ch_cX11_kind_0 rfl)
theorem dX11_kind_1 : decode cX11_kind 1 = .ok (.invokestatic 58, 3) := do_184 (rdb (p := 0) (i := 1) ch_cX11_kind_0 rfl) (rdb (p := 0) (i := 2) ch_cX11_kind_0 rfl) (rdb (p := 0) (i := 3) ch_cX11_kind_0 rfl) rfl
theorem dX11_kind_4 : decode cX11_kind 4 = .ok (.ifCond .eq 31, 3) := do_153 (rdb (p := 0) (i := 4) ch_cX11_kind_0 rfl) (rdb (p := 0) (i := 5) ch_cX11_kind_0 rfl) (rdb (p := 0) (i := 6) ch_cX11_kind_0 rfl) (by decide +kernel)
theorem dX11_kind_7 : decode cX11_kind 7 = .ok (.iload_n 2, 1) := do_28 (rdb (p := 0) (i := 7) ch_cX11_kind_0 rfl)
theorem dX11_kind_8 : decode cX11_kind 8 = .ok (.iconst 0, 1) := do_3 (rdb (p := 0) (i := 8) ch_cX11_kind_0 rfl)
theorem dX11_kind_9 : decode cX11_kind 9 = .ok (.iconst 1, 1) := do_4 (rdb (p := 0) (i := 9) ch_cX11_kind_0 rfl)
theorem dX11_kind_10 : decode cX11_kind 10 = .ok (.invokestatic 89, 3) := do_184 (rdb (p := 0) (i := 10) ch_cX11_kind_0 rfl) (rdb (p := 0) (i := 11) ch_cX11_kind_0 rfl) (rdb (p := 0) (i := 12) ch_cX11_kind_0 rfl) rfl
theorem dX11_kind_13 : decode cX11_kind 13 = .ok (.ifCond .eq 22, 3) := do_153 (rdb (p := 0) (i := 13) ch_cX11_kind_0 rfl) (rdb (p := 0) (i := 14) ch_cX11_kind_0 rfl) (rdb (p := 0) (i := 15) ch_cX11_kind_0 rfl) (by decide +kernel)
theorem dX11_kind_16 : decode cX11_kind 16 = .ok (.iload_n 3, 1) := do_29 (rdb (p := 0) (i := 16) ch_cX11_kind_0 rfl)
theorem dX11_kind_17 : decode cX11_kind 17 = .ok (.iconst 0, 1) := do_3 (rdb (p := 0) (i := 17) ch_cX11_kind_0 rfl)
theorem dX11_kind_18 : decode cX11_kind 18 = .ok (.iload_n 2, 1) := do_28 (rdb (p := 0) (i := 18) ch_cX11_kind_0 rfl)
theorem dX11_kind_19 : decode cX11_kind 19 = .ok (.ifCond .ne 8, 3) := do_154 (rdb (p := 0) (i := 19) ch_cX11_kind_0 rfl) (rdb (p := 0) (i := 20) ch_cX11_kind_0 rfl) (rdb (p := 0) (i := 21) ch_cX11_kind_0 rfl) (by decide +kernel)
theorem dX11_kind_22 : decode cX11_kind 22 = .ok (.bipush 99, 2) := do_16 (rdb (p := 0) (i := 22) ch_cX11_kind_0 rfl) (rdb (p := 0) (i := 23) ch_cX11_kind_0 rfl) (by decide +kernel)
theorem dX11_kind_24 : decode cX11_kind 24 = .ok (.goto 5, 3) := do_167 (rdb (p := 0) (i := 24) ch_cX11_kind_0 rfl) (rdb (p := 0) (i := 25) ch_cX11_kind_0 rfl) (rdb (p := 0) (i := 26) ch_cX11_kind_0 rfl) (by decide +kernel)
theorem dX11_kind_27 : decode cX11_kind 27 = .ok (.bipush 9, 2) := do_16 (rdb (p := 0) (i := 27) ch_cX11_kind_0 rfl) (rdb (p := 0) (i := 28) ch_cX11_kind_0 rfl) (by decide +kernel)
theorem dX11_kind_29 : decode cX11_kind 29 = .ok (.invokestatic 89, 3) := do_184 (rdb (p := 0) (i := 29) ch_cX11_kind_0 rfl) (rdb (p := 0) (i := 30) ch_cX11_kind_0 rfl) (rdb (p := 0) (i := 31) ch_cX11_kind_0 rfl) rfl
theorem ch_cX11_kind_32 : (cX11_kind.data.toList.drop 32).take 36 = [154, 0, 9, 42, 4, 182, 0, 67, 172, 42, 180, 0, 10, 180, 0, 114, 27, 28, 29, 182, 0, 118, 172] := by decide +kernel
theorem dX11_kind_32 : decode cX11_kind 32 = .ok (.ifCond .ne 9, 3) := do_154 (rdb (p := 32) (i := 0) ch_cX11_kind_32 rfl) (rdb (p := 32) (i := 1) ch_cX11_kind_32 rfl) (rdb (p := 32) (i := 2) ch_cX11_kind_32 rfl) (by decide +kernel)
theorem dX11_kind_35 : decode cX11_kind 35 = .ok (.aload_n 0, 1) := do_42 (rdb (p := 32) (i := 3) ch_cX11_kind_32 rfl)
theorem dX11_kind_36 : decode cX11_kind 36 = .ok (.iconst 1, 1) := do_4 (rdb (p := 32) (i := 4) ch_cX11_kind_32 rfl)
theorem dX11_kind_37 : decode cX11_kind 37 = .ok (.invokevirtual 67, 3) := do_182 (rdb (p := 32) (i := 5) ch_cX11_kind_32 rfl) (rdb (p := 32) (i := 6) ch_cX11_kind_32 rfl) (rdb (p := 32) (i := 7) ch_cX11_kind_32 rfl) rfl
theorem dX11_kind_40 : decode cX11_kind 40 = .ok (.ireturn, 1) := do_172 (rdb (p := 32) (i := 8) ch_cX11_kind_32 rfl)
theorem dX11_kind_41 : decode cX11_kind 41 = .ok (.aload_n 0, 1) := do_42 (rdb (p := 32) (i := 9) ch_cX11_kind_32 rfl)
theorem dX11_kind_42 : decode cX11_kind 42 = .ok (.getfield 10, 3) := do_180 (rdb (p := 32) (i := 10) ch_cX11_kind_32 rfl) (rdb (p := 32) (i := 11) ch_cX11_kind_32 rfl) (rdb (p := 32) (i := 12) ch_cX11_kind_32 rfl) rfl
theorem dX11_kind_45 : decode cX11_kind 45 = .ok (.getfield 114, 3) := do_180 (rdb (p := 32) (i := 13) ch_cX11_kind_32 rfl) (rdb (p := 32) (i := 14) ch_cX11_kind_32 rfl) (rdb (p := 32) (i := 15) ch_cX11_kind_32 rfl) rfl
theorem dX11_kind_48 : decode cX11_kind 48 = .ok (.iload_n 1, 1) := do_27 (rdb (p := 32) (i := 16) ch_cX11_kind_32 rfl)
theorem dX11_kind_49 : decode cX11_kind 49 = .ok (.iload_n 2, 1) := do_28 (rdb (p := 32) (i := 17) ch_cX11_kind_32 rfl)
theorem dX11_kind_50 : decode cX11_kind 50 = .ok (.iload_n 3, 1) := do_29 (rdb (p := 32) (i := 18) ch_cX11_kind_32 rfl)
theorem dX11_kind_51 : decode cX11_kind 51 = .ok (.invokevirtual 118, 3) := do_182 (rdb (p := 32) (i := 19) ch_cX11_kind_32 rfl) (rdb (p := 32) (i := 20) ch_cX11_kind_32 rfl) (rdb (p := 32) (i := 21) ch_cX11_kind_32 rfl) rfl
theorem dX11_kind_54 : decode cX11_kind 54 = .ok (.ireturn, 1) := do_172 (rdb (p := 32) (i := 22) ch_cX11_kind_32 rfl)
theorem ch_cX11_lays_0 : (cX11_lays.data.toList.drop 0).take 36 = [27, 184, 0, 127, 153, 0, 13, 28, 3, 16, 11, 184, 0, 89, 154, 0, 9, 42, 4, 182, 0, 67, 172, 42, 180, 0, 24, 27, 50, 78, 45, 182, 0, 130, 153, 0] := by decide +kernel
theorem dX11_lays_0 : decode cX11_lays 0 = .ok (.iload_n 1, 1) := do_27 (rdb (p := 0) (i := 0) ch_cX11_lays_0 rfl)
theorem dX11_lays_1 : decode cX11_lays 1 = .ok (.invokestatic 127, 3) := do_184 (rdb (p := 0) (i := 1) ch_cX11_lays_0 rfl) (rdb (p := 0) (i := 2) ch_cX11_lays_0 rfl) (rdb (p := 0) (i := 3) ch_cX11_lays_0 rfl) rfl
theorem dX11_lays_4 : decode cX11_lays 4 = .ok (.ifCond .eq 13, 3) := do_153 (rdb (p := 0) (i := 4) ch_cX11_lays_0 rfl) (rdb (p := 0) (i := 5) ch_cX11_lays_0 rfl) (rdb (p := 0) (i := 6) ch_cX11_lays_0 rfl) (by decide +kernel)
theorem dX11_lays_7 : decode cX11_lays 7 = .ok (.iload_n 2, 1) := do_28 (rdb (p := 0) (i := 7) ch_cX11_lays_0 rfl)
theorem dX11_lays_8 : decode cX11_lays 8 = .ok (.iconst 0, 1) := do_3 (rdb (p := 0) (i := 8) ch_cX11_lays_0 rfl)
theorem dX11_lays_9 : decode cX11_lays 9 = .ok (.bipush 11, 2) := do_16 (rdb (p := 0) (i := 9) ch_cX11_lays_0 rfl) (rdb (p := 0) (i := 10) ch_cX11_lays_0 rfl) (by decide +kernel)
theorem dX11_lays_11 : decode cX11_lays 11 = .ok (.invokestatic 89, 3) := do_184 (rdb (p := 0) (i := 11) ch_cX11_lays_0 rfl) (rdb (p := 0) (i := 12) ch_cX11_lays_0 rfl) (rdb (p := 0) (i := 13) ch_cX11_lays_0 rfl) rfl
theorem dX11_lays_14 : decode cX11_lays 14 = .ok (.ifCond .ne 9, 3) := do_154 (rdb (p := 0) (i := 14) ch_cX11_lays_0 rfl) (rdb (p := 0) (i := 15) ch_cX11_lays_0 rfl) (rdb (p := 0) (i := 16) ch_cX11_lays_0 rfl) (by decide +kernel)
theorem dX11_lays_17 : decode cX11_lays 17 = .ok (.aload_n 0, 1) := do_42 (rdb (p := 0) (i := 17) ch_cX11_lays_0 rfl)
theorem dX11_lays_18 : decode cX11_lays 18 = .ok (.iconst 1, 1) := do_4 (rdb (p := 0) (i := 18) ch_cX11_lays_0 rfl)
theorem dX11_lays_19 : decode cX11_lays 19 = .ok (.invokevirtual 67, 3) := do_182 (rdb (p := 0) (i := 19) ch_cX11_lays_0 rfl) (rdb (p := 0) (i := 20) ch_cX11_lays_0 rfl) (rdb (p := 0) (i := 21) ch_cX11_lays_0 rfl) rfl
theorem dX11_lays_22 : decode cX11_lays 22 = .ok (.ireturn, 1) := do_172 (rdb (p := 0) (i := 22) ch_cX11_lays_0 rfl)
theorem dX11_lays_23 : decode cX11_lays 23 = .ok (.aload_n 0, 1) := do_42 (rdb (p := 0) (i := 23) ch_cX11_lays_0 rfl)
theorem dX11_lays_24 : decode cX11_lays 24 = .ok (.getfield 24, 3) := do_180 (rdb (p := 0) (i := 24) ch_cX11_lays_0 rfl) (rdb (p := 0) (i := 25) ch_cX11_lays_0 rfl) (rdb (p := 0) (i := 26) ch_cX11_lays_0 rfl) rfl
theorem dX11_lays_27 : decode cX11_lays 27 = .ok (.iload_n 1, 1) := do_27 (rdb (p := 0) (i := 27) ch_cX11_lays_0 rfl)
theorem dX11_lays_28 : decode cX11_lays 28 = .ok (.aaload, 1) := do_50 (rdb (p := 0) (i := 28) ch_cX11_lays_0 rfl)
theorem dX11_lays_29 : decode cX11_lays 29 = .ok (.astore_n 3, 1) := do_78 (rdb (p := 0) (i := 29) ch_cX11_lays_0 rfl)
theorem dX11_lays_30 : decode cX11_lays 30 = .ok (.aload_n 3, 1) := do_45 (rdb (p := 0) (i := 30) ch_cX11_lays_0 rfl)
theorem dX11_lays_31 : decode cX11_lays 31 = .ok (.invokevirtual 130, 3) := do_182 (rdb (p := 0) (i := 31) ch_cX11_lays_0 rfl) (rdb (p := 0) (i := 32) ch_cX11_lays_0 rfl) (rdb (p := 0) (i := 33) ch_cX11_lays_0 rfl) rfl
theorem ch_cX11_lays_32 : (cX11_lays.data.toList.drop 32).take 36 = [0, 130, 153, 0, 9, 42, 5, 182, 0, 67, 172, 45, 180, 0, 133, 16, 8, 159, 0, 9, 42, 8, 182, 0, 67, 172, 45, 180, 0, 136, 16, 16, 164, 0, 9, 42] := by decide +kernel
theorem dX11_lays_34 : decode cX11_lays 34 = .ok (.ifCond .eq 9, 3) := do_153 (rdb (p := 32) (i := 2) ch_cX11_lays_32 rfl) (rdb (p := 32) (i := 3) ch_cX11_lays_32 rfl) (rdb (p := 32) (i := 4) ch_cX11_lays_32 rfl) (by decide +kernel)
theorem dX11_lays_37 : decode cX11_lays 37 = .ok (.aload_n 0, 1) := do_42 (rdb (p := 32) (i := 5) ch_cX11_lays_32 rfl)
theorem dX11_lays_38 : decode cX11_lays 38 = .ok (.iconst 2, 1) := do_5 (rdb (p := 32) (i := 6) ch_cX11_lays_32 rfl)
theorem dX11_lays_39 : decode cX11_lays 39 = .ok (.invokevirtual 67, 3) := do_182 (rdb (p := 32) (i := 7) ch_cX11_lays_32 rfl) (rdb (p := 32) (i := 8) ch_cX11_lays_32 rfl) (rdb (p := 32) (i := 9) ch_cX11_lays_32 rfl) rfl
theorem dX11_lays_42 : decode cX11_lays 42 = .ok (.ireturn, 1) := do_172 (rdb (p := 32) (i := 10) ch_cX11_lays_32 rfl)
theorem dX11_lays_43 : decode cX11_lays 43 = .ok (.aload_n 3, 1) := do_45 (rdb (p := 32) (i := 11) ch_cX11_lays_32 rfl)
theorem dX11_lays_44 : decode cX11_lays 44 = .ok (.getfield 133, 3) := do_180 (rdb (p := 32) (i := 12) ch_cX11_lays_32 rfl) (rdb (p := 32) (i := 13) ch_cX11_lays_32 rfl) (rdb (p := 32) (i := 14) ch_cX11_lays_32 rfl) rfl
theorem dX11_lays_47 : decode cX11_lays 47 = .ok (.bipush 8, 2) := do_16 (rdb (p := 32) (i := 15) ch_cX11_lays_32 rfl) (rdb (p := 32) (i := 16) ch_cX11_lays_32 rfl) (by decide +kernel)
theorem dX11_lays_49 : decode cX11_lays 49 = .ok (.if_icmp .eq 9, 3) := do_159 (rdb (p := 32) (i := 17) ch_cX11_lays_32 rfl) (rdb (p := 32) (i := 18) ch_cX11_lays_32 rfl) (rdb (p := 32) (i := 19) ch_cX11_lays_32 rfl) (by decide +kernel)
theorem dX11_lays_52 : decode cX11_lays 52 = .ok (.aload_n 0, 1) := do_42 (rdb (p := 32) (i := 20) ch_cX11_lays_32 rfl)
theorem dX11_lays_53 : decode cX11_lays 53 = .ok (.iconst 5, 1) := do_8 (rdb (p := 32) (i := 21) ch_cX11_lays_32 rfl)
theorem dX11_lays_54 : decode cX11_lays 54 = .ok (.invokevirtual 67, 3) := do_182 (rdb (p := 32) (i := 22) ch_cX11_lays_32 rfl) (rdb (p := 32) (i := 23) ch_cX11_lays_32 rfl) (rdb (p := 32) (i := 24) ch_cX11_lays_32 rfl) rfl
theorem dX11_lays_57 : decode cX11_lays 57 = .ok (.ireturn, 1) := do_172 (rdb (p := 32) (i := 25) ch_cX11_lays_32 rfl)
theorem dX11_lays_58 : decode cX11_lays 58 = .ok (.aload_n 3, 1) := do_45 (rdb (p := 32) (i := 26) ch_cX11_lays_32 rfl)
theorem dX11_lays_59 : decode cX11_lays 59 = .ok (.getfield 136, 3) := do_180 (rdb (p := 32) (i := 27) ch_cX11_lays_32 rfl) (rdb (p := 32) (i := 28) ch_cX11_lays_32 rfl) (rdb (p := 32) (i := 29) ch_cX11_lays_32 rfl) rfl
theorem dX11_lays_62 : decode cX11_lays 62 = .ok (.bipush 16, 2) := do_16 (rdb (p := 32) (i := 30) ch_cX11_lays_32 rfl) (rdb (p := 32) (i := 31) ch_cX11_lays_32 rfl) (by decide +kernel)
theorem ch_cX11_lays_64 : (cX11_lays.data.toList.drop 64).take 36 = [164, 0, 9, 42, 6, 182, 0, 67, 172, 3, 54, 4, 3, 54, 5, 21, 5, 45, 180, 0, 136, 162, 0, 82, 45, 21, 5, 182, 0, 139, 4, 100, 54, 6, 16, 16] := by decide +kernel
theorem dX11_lays_64 : decode cX11_lays 64 = .ok (.if_icmp .le 9, 3) := do_164 (rdb (p := 64) (i := 0) ch_cX11_lays_64 rfl) (rdb (p := 64) (i := 1) ch_cX11_lays_64 rfl) (rdb (p := 64) (i := 2) ch_cX11_lays_64 rfl) (by decide +kernel)
theorem dX11_lays_67 : decode cX11_lays 67 = .ok (.aload_n 0, 1) := do_42 (rdb (p := 64) (i := 3) ch_cX11_lays_64 rfl)
theorem dX11_lays_68 : decode cX11_lays 68 = .ok (.iconst 3, 1) := do_6 (rdb (p := 64) (i := 4) ch_cX11_lays_64 rfl)
theorem dX11_lays_69 : decode cX11_lays 69 = .ok (.invokevirtual 67, 3) := do_182 (rdb (p := 64) (i := 5) ch_cX11_lays_64 rfl) (rdb (p := 64) (i := 6) ch_cX11_lays_64 rfl) (rdb (p := 64) (i := 7) ch_cX11_lays_64 rfl) rfl
theorem dX11_lays_72 : decode cX11_lays 72 = .ok (.ireturn, 1) := do_172 (rdb (p := 64) (i := 8) ch_cX11_lays_64 rfl)
theorem dX11_lays_73 : decode cX11_lays 73 = .ok (.iconst 0, 1) := do_3 (rdb (p := 64) (i := 9) ch_cX11_lays_64 rfl)
theorem dX11_lays_74 : decode cX11_lays 74 = .ok (.istore 4, 2) := do_54 (rdb (p := 64) (i := 10) ch_cX11_lays_64 rfl) (rdb (p := 64) (i := 11) ch_cX11_lays_64 rfl)
theorem dX11_lays_76 : decode cX11_lays 76 = .ok (.iconst 0, 1) := do_3 (rdb (p := 64) (i := 12) ch_cX11_lays_64 rfl)
theorem dX11_lays_77 : decode cX11_lays 77 = .ok (.istore 5, 2) := do_54 (rdb (p := 64) (i := 13) ch_cX11_lays_64 rfl) (rdb (p := 64) (i := 14) ch_cX11_lays_64 rfl)
theorem dX11_lays_79 : decode cX11_lays 79 = .ok (.iload 5, 2) := do_21 (rdb (p := 64) (i := 15) ch_cX11_lays_64 rfl) (rdb (p := 64) (i := 16) ch_cX11_lays_64 rfl)
theorem dX11_lays_81 : decode cX11_lays 81 = .ok (.aload_n 3, 1) := do_45 (rdb (p := 64) (i := 17) ch_cX11_lays_64 rfl)
theorem dX11_lays_82 : decode cX11_lays 82 = .ok (.getfield 136, 3) := do_180 (rdb (p := 64) (i := 18) ch_cX11_lays_64 rfl) (rdb (p := 64) (i := 19) ch_cX11_lays_64 rfl) (rdb (p := 64) (i := 20) ch_cX11_lays_64 rfl) rfl
theorem dX11_lays_85 : decode cX11_lays 85 = .ok (.if_icmp .ge 82, 3) := do_162 (rdb (p := 64) (i := 21) ch_cX11_lays_64 rfl) (rdb (p := 64) (i := 22) ch_cX11_lays_64 rfl) (rdb (p := 64) (i := 23) ch_cX11_lays_64 rfl) (by decide +kernel)
theorem dX11_lays_88 : decode cX11_lays 88 = .ok (.aload_n 3, 1) := do_45 (rdb (p := 64) (i := 24) ch_cX11_lays_64 rfl)
theorem dX11_lays_89 : decode cX11_lays 89 = .ok (.iload 5, 2) := do_21 (rdb (p := 64) (i := 25) ch_cX11_lays_64 rfl) (rdb (p := 64) (i := 26) ch_cX11_lays_64 rfl)
theorem dX11_lays_91 : decode cX11_lays 91 = .ok (.invokevirtual 139, 3) := do_182 (rdb (p := 64) (i := 27) ch_cX11_lays_64 rfl) (rdb (p := 64) (i := 28) ch_cX11_lays_64 rfl) (rdb (p := 64) (i := 29) ch_cX11_lays_64 rfl) rfl
theorem dX11_lays_94 : decode cX11_lays 94 = .ok (.iconst 1, 1) := do_4 (rdb (p := 64) (i := 30) ch_cX11_lays_64 rfl)
theorem dX11_lays_95 : decode cX11_lays 95 = .ok (.isub, 1) := do_100 (rdb (p := 64) (i := 31) ch_cX11_lays_64 rfl)
theorem ch_cX11_lays_96 : (cX11_lays.data.toList.drop 96).take 36 = [54, 6, 16, 16, 28, 104, 21, 5, 96, 54, 7, 21, 6, 184, 0, 58, 153, 0, 49, 42, 180, 0, 10, 180, 0, 71, 21, 7, 182, 0, 75, 153, 0, 34, 42, 180] := by decide +kernel
theorem dX11_lays_96 : decode cX11_lays 96 = .ok (.istore 6, 2) := do_54 (rdb (p := 96) (i := 0) ch_cX11_lays_96 rfl) (rdb (p := 96) (i := 1) ch_cX11_lays_96 rfl)
theorem dX11_lays_98 : decode cX11_lays 98 = .ok (.bipush 16, 2) := do_16 (rdb (p := 96) (i := 2) ch_cX11_lays_96 rfl) (rdb (p := 96) (i := 3) ch_cX11_lays_96 rfl) (by decide +kernel)
theorem dX11_lays_100 : decode cX11_lays 100 = .ok (.iload_n 2, 1) := do_28 (rdb (p := 96) (i := 4) ch_cX11_lays_96 rfl)
theorem dX11_lays_101 : decode cX11_lays 101 = .ok (.imul, 1) := do_104 (rdb (p := 96) (i := 5) ch_cX11_lays_96 rfl)
theorem dX11_lays_102 : decode cX11_lays 102 = .ok (.iload 5, 2) := do_21 (rdb (p := 96) (i := 6) ch_cX11_lays_96 rfl) (rdb (p := 96) (i := 7) ch_cX11_lays_96 rfl)
theorem dX11_lays_104 : decode cX11_lays 104 = .ok (.iadd, 1) := do_96 (rdb (p := 96) (i := 8) ch_cX11_lays_96 rfl)
theorem dX11_lays_105 : decode cX11_lays 105 = .ok (.istore 7, 2) := do_54 (rdb (p := 96) (i := 9) ch_cX11_lays_96 rfl) (rdb (p := 96) (i := 10) ch_cX11_lays_96 rfl)
theorem dX11_lays_107 : decode cX11_lays 107 = .ok (.iload 6, 2) := do_21 (rdb (p := 96) (i := 11) ch_cX11_lays_96 rfl) (rdb (p := 96) (i := 12) ch_cX11_lays_96 rfl)
theorem dX11_lays_109 : decode cX11_lays 109 = .ok (.invokestatic 58, 3) := do_184 (rdb (p := 96) (i := 13) ch_cX11_lays_96 rfl) (rdb (p := 96) (i := 14) ch_cX11_lays_96 rfl) (rdb (p := 96) (i := 15) ch_cX11_lays_96 rfl) rfl
theorem dX11_lays_112 : decode cX11_lays 112 = .ok (.ifCond .eq 49, 3) := do_153 (rdb (p := 96) (i := 16) ch_cX11_lays_96 rfl) (rdb (p := 96) (i := 17) ch_cX11_lays_96 rfl) (rdb (p := 96) (i := 18) ch_cX11_lays_96 rfl) (by decide +kernel)
theorem dX11_lays_115 : decode cX11_lays 115 = .ok (.aload_n 0, 1) := do_42 (rdb (p := 96) (i := 19) ch_cX11_lays_96 rfl)
theorem dX11_lays_116 : decode cX11_lays 116 = .ok (.getfield 10, 3) := do_180 (rdb (p := 96) (i := 20) ch_cX11_lays_96 rfl) (rdb (p := 96) (i := 21) ch_cX11_lays_96 rfl) (rdb (p := 96) (i := 22) ch_cX11_lays_96 rfl) rfl
theorem dX11_lays_119 : decode cX11_lays 119 = .ok (.getfield 71, 3) := do_180 (rdb (p := 96) (i := 23) ch_cX11_lays_96 rfl) (rdb (p := 96) (i := 24) ch_cX11_lays_96 rfl) (rdb (p := 96) (i := 25) ch_cX11_lays_96 rfl) rfl
theorem dX11_lays_122 : decode cX11_lays 122 = .ok (.iload 7, 2) := do_21 (rdb (p := 96) (i := 26) ch_cX11_lays_96 rfl) (rdb (p := 96) (i := 27) ch_cX11_lays_96 rfl)
theorem dX11_lays_124 : decode cX11_lays 124 = .ok (.invokevirtual 75, 3) := do_182 (rdb (p := 96) (i := 28) ch_cX11_lays_96 rfl) (rdb (p := 96) (i := 29) ch_cX11_lays_96 rfl) (rdb (p := 96) (i := 30) ch_cX11_lays_96 rfl) rfl
theorem dX11_lays_127 : decode cX11_lays 127 = .ok (.ifCond .eq 34, 3) := do_153 (rdb (p := 96) (i := 31) ch_cX11_lays_96 rfl) (rdb (p := 96) (i := 32) ch_cX11_lays_96 rfl) (rdb (p := 96) (i := 33) ch_cX11_lays_96 rfl) (by decide +kernel)
theorem ch_cX11_lays_128 : (cX11_lays.data.toList.drop 128).take 36 = [0, 34, 42, 180, 0, 10, 180, 0, 71, 182, 0, 78, 153, 0, 21, 42, 180, 0, 10, 180, 0, 71, 21, 6, 21, 7, 182, 0, 82, 87, 132, 4, 1, 132, 5, 1] := by decide +kernel
theorem dX11_lays_130 : decode cX11_lays 130 = .ok (.aload_n 0, 1) := do_42 (rdb (p := 128) (i := 2) ch_cX11_lays_128 rfl)
theorem dX11_lays_131 : decode cX11_lays 131 = .ok (.getfield 10, 3) := do_180 (rdb (p := 128) (i := 3) ch_cX11_lays_128 rfl) (rdb (p := 128) (i := 4) ch_cX11_lays_128 rfl) (rdb (p := 128) (i := 5) ch_cX11_lays_128 rfl) rfl
theorem dX11_lays_134 : decode cX11_lays 134 = .ok (.getfield 71, 3) := do_180 (rdb (p := 128) (i := 6) ch_cX11_lays_128 rfl) (rdb (p := 128) (i := 7) ch_cX11_lays_128 rfl) (rdb (p := 128) (i := 8) ch_cX11_lays_128 rfl) rfl
theorem dX11_lays_137 : decode cX11_lays 137 = .ok (.invokevirtual 78, 3) := do_182 (rdb (p := 128) (i := 9) ch_cX11_lays_128 rfl) (rdb (p := 128) (i := 10) ch_cX11_lays_128 rfl) (rdb (p := 128) (i := 11) ch_cX11_lays_128 rfl) rfl
theorem dX11_lays_140 : decode cX11_lays 140 = .ok (.ifCond .eq 21, 3) := do_153 (rdb (p := 128) (i := 12) ch_cX11_lays_128 rfl) (rdb (p := 128) (i := 13) ch_cX11_lays_128 rfl) (rdb (p := 128) (i := 14) ch_cX11_lays_128 rfl) (by decide +kernel)
theorem dX11_lays_143 : decode cX11_lays 143 = .ok (.aload_n 0, 1) := do_42 (rdb (p := 128) (i := 15) ch_cX11_lays_128 rfl)
theorem dX11_lays_144 : decode cX11_lays 144 = .ok (.getfield 10, 3) := do_180 (rdb (p := 128) (i := 16) ch_cX11_lays_128 rfl) (rdb (p := 128) (i := 17) ch_cX11_lays_128 rfl) (rdb (p := 128) (i := 18) ch_cX11_lays_128 rfl) rfl
theorem dX11_lays_147 : decode cX11_lays 147 = .ok (.getfield 71, 3) := do_180 (rdb (p := 128) (i := 19) ch_cX11_lays_128 rfl) (rdb (p := 128) (i := 20) ch_cX11_lays_128 rfl) (rdb (p := 128) (i := 21) ch_cX11_lays_128 rfl) rfl
theorem dX11_lays_150 : decode cX11_lays 150 = .ok (.iload 6, 2) := do_21 (rdb (p := 128) (i := 22) ch_cX11_lays_128 rfl) (rdb (p := 128) (i := 23) ch_cX11_lays_128 rfl)
theorem dX11_lays_152 : decode cX11_lays 152 = .ok (.iload 7, 2) := do_21 (rdb (p := 128) (i := 24) ch_cX11_lays_128 rfl) (rdb (p := 128) (i := 25) ch_cX11_lays_128 rfl)
theorem dX11_lays_154 : decode cX11_lays 154 = .ok (.invokevirtual 82, 3) := do_182 (rdb (p := 128) (i := 26) ch_cX11_lays_128 rfl) (rdb (p := 128) (i := 27) ch_cX11_lays_128 rfl) (rdb (p := 128) (i := 28) ch_cX11_lays_128 rfl) rfl
theorem dX11_lays_157 : decode cX11_lays 157 = .ok (.pop, 1) := do_87 (rdb (p := 128) (i := 29) ch_cX11_lays_128 rfl)
theorem dX11_lays_158 : decode cX11_lays 158 = .ok (.iinc 4 1, 3) := do_132 (rdb (p := 128) (i := 30) ch_cX11_lays_128 rfl) (rdb (p := 128) (i := 31) ch_cX11_lays_128 rfl) (rdb (p := 128) (i := 32) ch_cX11_lays_128 rfl) (by decide +kernel)
theorem ch_cX11_lays_160 : (cX11_lays.data.toList.drop 160).take 36 = [1, 132, 5, 1, 167, 255, 171, 21, 4, 172] := by decide +kernel
theorem dX11_lays_161 : decode cX11_lays 161 = .ok (.iinc 5 1, 3) := do_132 (rdb (p := 160) (i := 1) ch_cX11_lays_160 rfl) (rdb (p := 160) (i := 2) ch_cX11_lays_160 rfl) (rdb (p := 160) (i := 3) ch_cX11_lays_160 rfl) (by decide +kernel)
theorem dX11_lays_164 : decode cX11_lays 164 = .ok (.goto (-85), 3) := do_167 (rdb (p := 160) (i := 4) ch_cX11_lays_160 rfl) (rdb (p := 160) (i := 5) ch_cX11_lays_160 rfl) (rdb (p := 160) (i := 6) ch_cX11_lays_160 rfl) (by decide +kernel)
theorem dX11_lays_167 : decode cX11_lays 167 = .ok (.iload 4, 2) := do_21 (rdb (p := 160) (i := 7) ch_cX11_lays_160 rfl) (rdb (p := 160) (i := 8) ch_cX11_lays_160 rfl)
theorem dX11_lays_169 : decode cX11_lays 169 = .ok (.ireturn, 1) := do_172 (rdb (p := 160) (i := 9) ch_cX11_lays_160 rfl)
theorem ch_cX11_least_0 : (cX11_least.data.toList.drop 0).take 36 = [42, 180, 0, 10, 27, 182, 0, 154, 153, 0, 30, 28, 184, 0, 58, 153, 0, 23, 29, 4, 16, 15, 184, 0, 89, 153, 0, 13, 21, 4, 3, 4, 184, 0, 89, 154] := by decide +kernel
theorem dX11_least_0 : decode cX11_least 0 = .ok (.aload_n 0, 1) := do_42 (rdb (p := 0) (i := 0) ch_cX11_least_0 rfl)
theorem dX11_least_1 : decode cX11_least 1 = .ok (.getfield 10, 3) := do_180 (rdb (p := 0) (i := 1) ch_cX11_least_0 rfl) (rdb (p := 0) (i := 2) ch_cX11_least_0 rfl) (rdb (p := 0) (i := 3) ch_cX11_least_0 rfl) rfl
theorem dX11_least_4 : decode cX11_least 4 = .ok (.iload_n 1, 1) := do_27 (rdb (p := 0) (i := 4) ch_cX11_least_0 rfl)
theorem dX11_least_5 : decode cX11_least 5 = .ok (.invokevirtual 154, 3) := do_182 (rdb (p := 0) (i := 5) ch_cX11_least_0 rfl) (rdb (p := 0) (i := 6) ch_cX11_least_0 rfl) (rdb (p := 0) (i := 7) ch_cX11_least_0 rfl) rfl
theorem dX11_least_8 : decode cX11_least 8 = .ok (.ifCond .eq 30, 3) := do_153 (rdb (p := 0) (i := 8) ch_cX11_least_0 rfl) (rdb (p := 0) (i := 9) ch_cX11_least_0 rfl) (rdb (p := 0) (i := 10) ch_cX11_least_0 rfl) (by decide +kernel)
theorem dX11_least_11 : decode cX11_least 11 = .ok (.iload_n 2, 1) := do_28 (rdb (p := 0) (i := 11) ch_cX11_least_0 rfl)
theorem dX11_least_12 : decode cX11_least 12 = .ok (.invokestatic 58, 3) := do_184 (rdb (p := 0) (i := 12) ch_cX11_least_0 rfl) (rdb (p := 0) (i := 13) ch_cX11_least_0 rfl) (rdb (p := 0) (i := 14) ch_cX11_least_0 rfl) rfl
theorem dX11_least_15 : decode cX11_least 15 = .ok (.ifCond .eq 23, 3) := do_153 (rdb (p := 0) (i := 15) ch_cX11_least_0 rfl) (rdb (p := 0) (i := 16) ch_cX11_least_0 rfl) (rdb (p := 0) (i := 17) ch_cX11_least_0 rfl) (by decide +kernel)
theorem dX11_least_18 : decode cX11_least 18 = .ok (.iload_n 3, 1) := do_29 (rdb (p := 0) (i := 18) ch_cX11_least_0 rfl)
theorem dX11_least_19 : decode cX11_least 19 = .ok (.iconst 1, 1) := do_4 (rdb (p := 0) (i := 19) ch_cX11_least_0 rfl)
theorem dX11_least_20 : decode cX11_least 20 = .ok (.bipush 15, 2) := do_16 (rdb (p := 0) (i := 20) ch_cX11_least_0 rfl) (rdb (p := 0) (i := 21) ch_cX11_least_0 rfl) (by decide +kernel)
theorem dX11_least_22 : decode cX11_least 22 = .ok (.invokestatic 89, 3) := do_184 (rdb (p := 0) (i := 22) ch_cX11_least_0 rfl) (rdb (p := 0) (i := 23) ch_cX11_least_0 rfl) (rdb (p := 0) (i := 24) ch_cX11_least_0 rfl) rfl
theorem dX11_least_25 : decode cX11_least 25 = .ok (.ifCond .eq 13, 3) := do_153 (rdb (p := 0) (i := 25) ch_cX11_least_0 rfl) (rdb (p := 0) (i := 26) ch_cX11_least_0 rfl) (rdb (p := 0) (i := 27) ch_cX11_least_0 rfl) (by decide +kernel)
theorem dX11_least_28 : decode cX11_least 28 = .ok (.iload 4, 2) := do_21 (rdb (p := 0) (i := 28) ch_cX11_least_0 rfl) (rdb (p := 0) (i := 29) ch_cX11_least_0 rfl)
theorem dX11_least_30 : decode cX11_least 30 = .ok (.iconst 0, 1) := do_3 (rdb (p := 0) (i := 30) ch_cX11_least_0 rfl)
theorem dX11_least_31 : decode cX11_least 31 = .ok (.iconst 1, 1) := do_4 (rdb (p := 0) (i := 31) ch_cX11_least_0 rfl)
theorem ch_cX11_least_32 : (cX11_least.data.toList.drop 32).take 36 = [184, 0, 89, 154, 0, 9, 42, 4, 182, 0, 67, 172, 42, 180, 0, 10, 180, 0, 157, 27, 50, 58, 5, 29, 25, 5, 182, 0, 168, 164, 0, 9, 42, 5, 182, 0] := by decide +kernel
theorem dX11_least_32 : decode cX11_least 32 = .ok (.invokestatic 89, 3) := do_184 (rdb (p := 32) (i := 0) ch_cX11_least_32 rfl) (rdb (p := 32) (i := 1) ch_cX11_least_32 rfl) (rdb (p := 32) (i := 2) ch_cX11_least_32 rfl) rfl
theorem dX11_least_35 : decode cX11_least 35 = .ok (.ifCond .ne 9, 3) := do_154 (rdb (p := 32) (i := 3) ch_cX11_least_32 rfl) (rdb (p := 32) (i := 4) ch_cX11_least_32 rfl) (rdb (p := 32) (i := 5) ch_cX11_least_32 rfl) (by decide +kernel)
theorem dX11_least_38 : decode cX11_least 38 = .ok (.aload_n 0, 1) := do_42 (rdb (p := 32) (i := 6) ch_cX11_least_32 rfl)
theorem dX11_least_39 : decode cX11_least 39 = .ok (.iconst 1, 1) := do_4 (rdb (p := 32) (i := 7) ch_cX11_least_32 rfl)
theorem dX11_least_40 : decode cX11_least 40 = .ok (.invokevirtual 67, 3) := do_182 (rdb (p := 32) (i := 8) ch_cX11_least_32 rfl) (rdb (p := 32) (i := 9) ch_cX11_least_32 rfl) (rdb (p := 32) (i := 10) ch_cX11_least_32 rfl) rfl
theorem dX11_least_43 : decode cX11_least 43 = .ok (.ireturn, 1) := do_172 (rdb (p := 32) (i := 11) ch_cX11_least_32 rfl)
theorem dX11_least_44 : decode cX11_least 44 = .ok (.aload_n 0, 1) := do_42 (rdb (p := 32) (i := 12) ch_cX11_least_32 rfl)
theorem dX11_least_45 : decode cX11_least 45 = .ok (.getfield 10, 3) := do_180 (rdb (p := 32) (i := 13) ch_cX11_least_32 rfl) (rdb (p := 32) (i := 14) ch_cX11_least_32 rfl) (rdb (p := 32) (i := 15) ch_cX11_least_32 rfl) rfl
theorem dX11_least_48 : decode cX11_least 48 = .ok (.getfield 157, 3) := do_180 (rdb (p := 32) (i := 16) ch_cX11_least_32 rfl) (rdb (p := 32) (i := 17) ch_cX11_least_32 rfl) (rdb (p := 32) (i := 18) ch_cX11_least_32 rfl) rfl
theorem dX11_least_51 : decode cX11_least 51 = .ok (.iload_n 1, 1) := do_27 (rdb (p := 32) (i := 19) ch_cX11_least_32 rfl)
theorem dX11_least_52 : decode cX11_least 52 = .ok (.aaload, 1) := do_50 (rdb (p := 32) (i := 20) ch_cX11_least_32 rfl)
theorem dX11_least_53 : decode cX11_least 53 = .ok (.astore 5, 2) := do_58 (rdb (p := 32) (i := 21) ch_cX11_least_32 rfl) (rdb (p := 32) (i := 22) ch_cX11_least_32 rfl)
theorem dX11_least_55 : decode cX11_least 55 = .ok (.iload_n 3, 1) := do_29 (rdb (p := 32) (i := 23) ch_cX11_least_32 rfl)
theorem dX11_least_56 : decode cX11_least 56 = .ok (.aload 5, 2) := do_25 (rdb (p := 32) (i := 24) ch_cX11_least_32 rfl) (rdb (p := 32) (i := 25) ch_cX11_least_32 rfl)
theorem dX11_least_58 : decode cX11_least 58 = .ok (.invokevirtual 168, 3) := do_182 (rdb (p := 32) (i := 26) ch_cX11_least_32 rfl) (rdb (p := 32) (i := 27) ch_cX11_least_32 rfl) (rdb (p := 32) (i := 28) ch_cX11_least_32 rfl) rfl
theorem dX11_least_61 : decode cX11_least 61 = .ok (.if_icmp .le 9, 3) := do_164 (rdb (p := 32) (i := 29) ch_cX11_least_32 rfl) (rdb (p := 32) (i := 30) ch_cX11_least_32 rfl) (rdb (p := 32) (i := 31) ch_cX11_least_32 rfl) (by decide +kernel)
theorem ch_cX11_least_64 : (cX11_least.data.toList.drop 64).take 36 = [42, 5, 182, 0, 67, 172, 21, 4, 154, 0, 23, 42, 180, 0, 10, 180, 0, 114, 25, 5, 182, 1, 1, 28, 29, 182, 1, 8, 167, 0, 20, 42, 180, 0, 10, 180] := by decide +kernel
theorem dX11_least_64 : decode cX11_least 64 = .ok (.aload_n 0, 1) := do_42 (rdb (p := 64) (i := 0) ch_cX11_least_64 rfl)
theorem dX11_least_65 : decode cX11_least 65 = .ok (.iconst 2, 1) := do_5 (rdb (p := 64) (i := 1) ch_cX11_least_64 rfl)
theorem dX11_least_66 : decode cX11_least 66 = .ok (.invokevirtual 67, 3) := do_182 (rdb (p := 64) (i := 2) ch_cX11_least_64 rfl) (rdb (p := 64) (i := 3) ch_cX11_least_64 rfl) (rdb (p := 64) (i := 4) ch_cX11_least_64 rfl) rfl
theorem dX11_least_69 : decode cX11_least 69 = .ok (.ireturn, 1) := do_172 (rdb (p := 64) (i := 5) ch_cX11_least_64 rfl)
theorem dX11_least_70 : decode cX11_least 70 = .ok (.iload 4, 2) := do_21 (rdb (p := 64) (i := 6) ch_cX11_least_64 rfl) (rdb (p := 64) (i := 7) ch_cX11_least_64 rfl)
theorem dX11_least_72 : decode cX11_least 72 = .ok (.ifCond .ne 23, 3) := do_154 (rdb (p := 64) (i := 8) ch_cX11_least_64 rfl) (rdb (p := 64) (i := 9) ch_cX11_least_64 rfl) (rdb (p := 64) (i := 10) ch_cX11_least_64 rfl) (by decide +kernel)
theorem dX11_least_75 : decode cX11_least 75 = .ok (.aload_n 0, 1) := do_42 (rdb (p := 64) (i := 11) ch_cX11_least_64 rfl)
theorem dX11_least_76 : decode cX11_least 76 = .ok (.getfield 10, 3) := do_180 (rdb (p := 64) (i := 12) ch_cX11_least_64 rfl) (rdb (p := 64) (i := 13) ch_cX11_least_64 rfl) (rdb (p := 64) (i := 14) ch_cX11_least_64 rfl) rfl
theorem dX11_least_79 : decode cX11_least 79 = .ok (.getfield 114, 3) := do_180 (rdb (p := 64) (i := 15) ch_cX11_least_64 rfl) (rdb (p := 64) (i := 16) ch_cX11_least_64 rfl) (rdb (p := 64) (i := 17) ch_cX11_least_64 rfl) rfl
theorem dX11_least_82 : decode cX11_least 82 = .ok (.aload 5, 2) := do_25 (rdb (p := 64) (i := 18) ch_cX11_least_64 rfl) (rdb (p := 64) (i := 19) ch_cX11_least_64 rfl)
theorem dX11_least_84 : decode cX11_least 84 = .ok (.invokevirtual 257, 3) := do_182 (rdb (p := 64) (i := 20) ch_cX11_least_64 rfl) (rdb (p := 64) (i := 21) ch_cX11_least_64 rfl) (rdb (p := 64) (i := 22) ch_cX11_least_64 rfl) rfl
theorem dX11_least_87 : decode cX11_least 87 = .ok (.iload_n 2, 1) := do_28 (rdb (p := 64) (i := 23) ch_cX11_least_64 rfl)
theorem dX11_least_88 : decode cX11_least 88 = .ok (.iload_n 3, 1) := do_29 (rdb (p := 64) (i := 24) ch_cX11_least_64 rfl)
theorem dX11_least_89 : decode cX11_least 89 = .ok (.invokevirtual 264, 3) := do_182 (rdb (p := 64) (i := 25) ch_cX11_least_64 rfl) (rdb (p := 64) (i := 26) ch_cX11_least_64 rfl) (rdb (p := 64) (i := 27) ch_cX11_least_64 rfl) rfl
theorem dX11_least_92 : decode cX11_least 92 = .ok (.goto 20, 3) := do_167 (rdb (p := 64) (i := 28) ch_cX11_least_64 rfl) (rdb (p := 64) (i := 29) ch_cX11_least_64 rfl) (rdb (p := 64) (i := 30) ch_cX11_least_64 rfl) (by decide +kernel)
theorem dX11_least_95 : decode cX11_least 95 = .ok (.aload_n 0, 1) := do_42 (rdb (p := 64) (i := 31) ch_cX11_least_64 rfl)
theorem ch_cX11_least_96 : (cX11_least.data.toList.drop 96).take 36 = [180, 0, 10, 180, 0, 114, 25, 5, 182, 1, 1, 28, 29, 182, 1, 11, 54, 6, 21, 6, 154, 0, 11, 42, 5, 182, 0, 67, 167, 0, 5, 21, 6, 172] := by decide +kernel
theorem dX11_least_96 : decode cX11_least 96 = .ok (.getfield 10, 3) := do_180 (rdb (p := 96) (i := 0) ch_cX11_least_96 rfl) (rdb (p := 96) (i := 1) ch_cX11_least_96 rfl) (rdb (p := 96) (i := 2) ch_cX11_least_96 rfl) rfl
theorem dX11_least_99 : decode cX11_least 99 = .ok (.getfield 114, 3) := do_180 (rdb (p := 96) (i := 3) ch_cX11_least_96 rfl) (rdb (p := 96) (i := 4) ch_cX11_least_96 rfl) (rdb (p := 96) (i := 5) ch_cX11_least_96 rfl) rfl
theorem dX11_least_102 : decode cX11_least 102 = .ok (.aload 5, 2) := do_25 (rdb (p := 96) (i := 6) ch_cX11_least_96 rfl) (rdb (p := 96) (i := 7) ch_cX11_least_96 rfl)
theorem dX11_least_104 : decode cX11_least 104 = .ok (.invokevirtual 257, 3) := do_182 (rdb (p := 96) (i := 8) ch_cX11_least_96 rfl) (rdb (p := 96) (i := 9) ch_cX11_least_96 rfl) (rdb (p := 96) (i := 10) ch_cX11_least_96 rfl) rfl
theorem dX11_least_107 : decode cX11_least 107 = .ok (.iload_n 2, 1) := do_28 (rdb (p := 96) (i := 11) ch_cX11_least_96 rfl)
theorem dX11_least_108 : decode cX11_least 108 = .ok (.iload_n 3, 1) := do_29 (rdb (p := 96) (i := 12) ch_cX11_least_96 rfl)
theorem dX11_least_109 : decode cX11_least 109 = .ok (.invokevirtual 267, 3) := do_182 (rdb (p := 96) (i := 13) ch_cX11_least_96 rfl) (rdb (p := 96) (i := 14) ch_cX11_least_96 rfl) (rdb (p := 96) (i := 15) ch_cX11_least_96 rfl) rfl
theorem dX11_least_112 : decode cX11_least 112 = .ok (.istore 6, 2) := do_54 (rdb (p := 96) (i := 16) ch_cX11_least_96 rfl) (rdb (p := 96) (i := 17) ch_cX11_least_96 rfl)
theorem dX11_least_114 : decode cX11_least 114 = .ok (.iload 6, 2) := do_21 (rdb (p := 96) (i := 18) ch_cX11_least_96 rfl) (rdb (p := 96) (i := 19) ch_cX11_least_96 rfl)
theorem dX11_least_116 : decode cX11_least 116 = .ok (.ifCond .ne 11, 3) := do_154 (rdb (p := 96) (i := 20) ch_cX11_least_96 rfl) (rdb (p := 96) (i := 21) ch_cX11_least_96 rfl) (rdb (p := 96) (i := 22) ch_cX11_least_96 rfl) (by decide +kernel)
theorem dX11_least_119 : decode cX11_least 119 = .ok (.aload_n 0, 1) := do_42 (rdb (p := 96) (i := 23) ch_cX11_least_96 rfl)
theorem dX11_least_120 : decode cX11_least 120 = .ok (.iconst 2, 1) := do_5 (rdb (p := 96) (i := 24) ch_cX11_least_96 rfl)
theorem dX11_least_121 : decode cX11_least 121 = .ok (.invokevirtual 67, 3) := do_182 (rdb (p := 96) (i := 25) ch_cX11_least_96 rfl) (rdb (p := 96) (i := 26) ch_cX11_least_96 rfl) (rdb (p := 96) (i := 27) ch_cX11_least_96 rfl) rfl
theorem dX11_least_124 : decode cX11_least 124 = .ok (.goto 5, 3) := do_167 (rdb (p := 96) (i := 28) ch_cX11_least_96 rfl) (rdb (p := 96) (i := 29) ch_cX11_least_96 rfl) (rdb (p := 96) (i := 30) ch_cX11_least_96 rfl) (by decide +kernel)
theorem dX11_least_127 : decode cX11_least 127 = .ok (.iload 6, 2) := do_21 (rdb (p := 96) (i := 31) ch_cX11_least_96 rfl) (rdb (p := 96) (i := 32) ch_cX11_least_96 rfl)
theorem ch_cX11_least_128 : (cX11_least.data.toList.drop 128).take 36 = [6, 172] := by decide +kernel
theorem dX11_least_129 : decode cX11_least 129 = .ok (.ireturn, 1) := do_172 (rdb (p := 128) (i := 1) ch_cX11_least_128 rfl)
theorem ch_cX11_moves_0 : (cX11_moves.data.toList.drop 0).take 36 = [42, 180, 0, 10, 180, 0, 71, 58, 4, 25, 4, 27, 182, 0, 86, 153, 0, 20, 28, 184, 0, 96, 153, 0, 13, 29, 3, 16, 20, 184, 0, 89, 154, 0, 9, 42] := by decide +kernel
theorem dX11_moves_0 : decode cX11_moves 0 = .ok (.aload_n 0, 1) := do_42 (rdb (p := 0) (i := 0) ch_cX11_moves_0 rfl)
theorem dX11_moves_1 : decode cX11_moves 1 = .ok (.getfield 10, 3) := do_180 (rdb (p := 0) (i := 1) ch_cX11_moves_0 rfl) (rdb (p := 0) (i := 2) ch_cX11_moves_0 rfl) (rdb (p := 0) (i := 3) ch_cX11_moves_0 rfl) rfl
theorem dX11_moves_4 : decode cX11_moves 4 = .ok (.getfield 71, 3) := do_180 (rdb (p := 0) (i := 4) ch_cX11_moves_0 rfl) (rdb (p := 0) (i := 5) ch_cX11_moves_0 rfl) (rdb (p := 0) (i := 6) ch_cX11_moves_0 rfl) rfl
theorem dX11_moves_7 : decode cX11_moves 7 = .ok (.astore 4, 2) := do_58 (rdb (p := 0) (i := 7) ch_cX11_moves_0 rfl) (rdb (p := 0) (i := 8) ch_cX11_moves_0 rfl)
theorem dX11_moves_9 : decode cX11_moves 9 = .ok (.aload 4, 2) := do_25 (rdb (p := 0) (i := 9) ch_cX11_moves_0 rfl) (rdb (p := 0) (i := 10) ch_cX11_moves_0 rfl)
theorem dX11_moves_11 : decode cX11_moves 11 = .ok (.iload_n 1, 1) := do_27 (rdb (p := 0) (i := 11) ch_cX11_moves_0 rfl)
theorem dX11_moves_12 : decode cX11_moves 12 = .ok (.invokevirtual 86, 3) := do_182 (rdb (p := 0) (i := 12) ch_cX11_moves_0 rfl) (rdb (p := 0) (i := 13) ch_cX11_moves_0 rfl) (rdb (p := 0) (i := 14) ch_cX11_moves_0 rfl) rfl
theorem dX11_moves_15 : decode cX11_moves 15 = .ok (.ifCond .eq 20, 3) := do_153 (rdb (p := 0) (i := 15) ch_cX11_moves_0 rfl) (rdb (p := 0) (i := 16) ch_cX11_moves_0 rfl) (rdb (p := 0) (i := 17) ch_cX11_moves_0 rfl) (by decide +kernel)
theorem dX11_moves_18 : decode cX11_moves 18 = .ok (.iload_n 2, 1) := do_28 (rdb (p := 0) (i := 18) ch_cX11_moves_0 rfl)
theorem dX11_moves_19 : decode cX11_moves 19 = .ok (.invokestatic 96, 3) := do_184 (rdb (p := 0) (i := 19) ch_cX11_moves_0 rfl) (rdb (p := 0) (i := 20) ch_cX11_moves_0 rfl) (rdb (p := 0) (i := 21) ch_cX11_moves_0 rfl) rfl
theorem dX11_moves_22 : decode cX11_moves 22 = .ok (.ifCond .eq 13, 3) := do_153 (rdb (p := 0) (i := 22) ch_cX11_moves_0 rfl) (rdb (p := 0) (i := 23) ch_cX11_moves_0 rfl) (rdb (p := 0) (i := 24) ch_cX11_moves_0 rfl) (by decide +kernel)
theorem dX11_moves_25 : decode cX11_moves 25 = .ok (.iload_n 3, 1) := do_29 (rdb (p := 0) (i := 25) ch_cX11_moves_0 rfl)
theorem dX11_moves_26 : decode cX11_moves 26 = .ok (.iconst 0, 1) := do_3 (rdb (p := 0) (i := 26) ch_cX11_moves_0 rfl)
theorem dX11_moves_27 : decode cX11_moves 27 = .ok (.bipush 20, 2) := do_16 (rdb (p := 0) (i := 27) ch_cX11_moves_0 rfl) (rdb (p := 0) (i := 28) ch_cX11_moves_0 rfl) (by decide +kernel)
theorem dX11_moves_29 : decode cX11_moves 29 = .ok (.invokestatic 89, 3) := do_184 (rdb (p := 0) (i := 29) ch_cX11_moves_0 rfl) (rdb (p := 0) (i := 30) ch_cX11_moves_0 rfl) (rdb (p := 0) (i := 31) ch_cX11_moves_0 rfl) rfl
theorem ch_cX11_moves_32 : (cX11_moves.data.toList.drop 32).take 36 = [154, 0, 9, 42, 4, 182, 0, 67, 172, 25, 4, 180, 0, 99, 27, 46, 6, 162, 0, 9, 42, 8, 182, 0, 67, 172, 25, 4, 180, 0, 102, 27, 46, 156, 0, 9] := by decide +kernel
theorem dX11_moves_32 : decode cX11_moves 32 = .ok (.ifCond .ne 9, 3) := do_154 (rdb (p := 32) (i := 0) ch_cX11_moves_32 rfl) (rdb (p := 32) (i := 1) ch_cX11_moves_32 rfl) (rdb (p := 32) (i := 2) ch_cX11_moves_32 rfl) (by decide +kernel)
theorem dX11_moves_35 : decode cX11_moves 35 = .ok (.aload_n 0, 1) := do_42 (rdb (p := 32) (i := 3) ch_cX11_moves_32 rfl)
theorem dX11_moves_36 : decode cX11_moves 36 = .ok (.iconst 1, 1) := do_4 (rdb (p := 32) (i := 4) ch_cX11_moves_32 rfl)
theorem dX11_moves_37 : decode cX11_moves 37 = .ok (.invokevirtual 67, 3) := do_182 (rdb (p := 32) (i := 5) ch_cX11_moves_32 rfl) (rdb (p := 32) (i := 6) ch_cX11_moves_32 rfl) (rdb (p := 32) (i := 7) ch_cX11_moves_32 rfl) rfl
theorem dX11_moves_40 : decode cX11_moves 40 = .ok (.ireturn, 1) := do_172 (rdb (p := 32) (i := 8) ch_cX11_moves_32 rfl)
theorem dX11_moves_41 : decode cX11_moves 41 = .ok (.aload 4, 2) := do_25 (rdb (p := 32) (i := 9) ch_cX11_moves_32 rfl) (rdb (p := 32) (i := 10) ch_cX11_moves_32 rfl)
theorem dX11_moves_43 : decode cX11_moves 43 = .ok (.getfield 99, 3) := do_180 (rdb (p := 32) (i := 11) ch_cX11_moves_32 rfl) (rdb (p := 32) (i := 12) ch_cX11_moves_32 rfl) (rdb (p := 32) (i := 13) ch_cX11_moves_32 rfl) rfl
theorem dX11_moves_46 : decode cX11_moves 46 = .ok (.iload_n 1, 1) := do_27 (rdb (p := 32) (i := 14) ch_cX11_moves_32 rfl)
theorem dX11_moves_47 : decode cX11_moves 47 = .ok (.iaload, 1) := do_46 (rdb (p := 32) (i := 15) ch_cX11_moves_32 rfl)
theorem dX11_moves_48 : decode cX11_moves 48 = .ok (.iconst 3, 1) := do_6 (rdb (p := 32) (i := 16) ch_cX11_moves_32 rfl)
theorem dX11_moves_49 : decode cX11_moves 49 = .ok (.if_icmp .ge 9, 3) := do_162 (rdb (p := 32) (i := 17) ch_cX11_moves_32 rfl) (rdb (p := 32) (i := 18) ch_cX11_moves_32 rfl) (rdb (p := 32) (i := 19) ch_cX11_moves_32 rfl) (by decide +kernel)
theorem dX11_moves_52 : decode cX11_moves 52 = .ok (.aload_n 0, 1) := do_42 (rdb (p := 32) (i := 20) ch_cX11_moves_32 rfl)
theorem dX11_moves_53 : decode cX11_moves 53 = .ok (.iconst 5, 1) := do_8 (rdb (p := 32) (i := 21) ch_cX11_moves_32 rfl)
theorem dX11_moves_54 : decode cX11_moves 54 = .ok (.invokevirtual 67, 3) := do_182 (rdb (p := 32) (i := 22) ch_cX11_moves_32 rfl) (rdb (p := 32) (i := 23) ch_cX11_moves_32 rfl) (rdb (p := 32) (i := 24) ch_cX11_moves_32 rfl) rfl
theorem dX11_moves_57 : decode cX11_moves 57 = .ok (.ireturn, 1) := do_172 (rdb (p := 32) (i := 25) ch_cX11_moves_32 rfl)
theorem dX11_moves_58 : decode cX11_moves 58 = .ok (.aload 4, 2) := do_25 (rdb (p := 32) (i := 26) ch_cX11_moves_32 rfl) (rdb (p := 32) (i := 27) ch_cX11_moves_32 rfl)
theorem dX11_moves_60 : decode cX11_moves 60 = .ok (.getfield 102, 3) := do_180 (rdb (p := 32) (i := 28) ch_cX11_moves_32 rfl) (rdb (p := 32) (i := 29) ch_cX11_moves_32 rfl) (rdb (p := 32) (i := 30) ch_cX11_moves_32 rfl) rfl
theorem dX11_moves_63 : decode cX11_moves 63 = .ok (.iload_n 1, 1) := do_27 (rdb (p := 32) (i := 31) ch_cX11_moves_32 rfl)
theorem ch_cX11_moves_64 : (cX11_moves.data.toList.drop 64).take 36 = [46, 156, 0, 9, 42, 6, 182, 0, 67, 172, 25, 4, 180, 0, 105, 27, 28, 79, 25, 4, 180, 0, 108, 27, 29, 79, 4, 172] := by decide +kernel
theorem dX11_moves_64 : decode cX11_moves 64 = .ok (.iaload, 1) := do_46 (rdb (p := 64) (i := 0) ch_cX11_moves_64 rfl)
theorem dX11_moves_65 : decode cX11_moves 65 = .ok (.ifCond .ge 9, 3) := do_156 (rdb (p := 64) (i := 1) ch_cX11_moves_64 rfl) (rdb (p := 64) (i := 2) ch_cX11_moves_64 rfl) (rdb (p := 64) (i := 3) ch_cX11_moves_64 rfl) (by decide +kernel)
theorem dX11_moves_68 : decode cX11_moves 68 = .ok (.aload_n 0, 1) := do_42 (rdb (p := 64) (i := 4) ch_cX11_moves_64 rfl)
theorem dX11_moves_69 : decode cX11_moves 69 = .ok (.iconst 3, 1) := do_6 (rdb (p := 64) (i := 5) ch_cX11_moves_64 rfl)
theorem dX11_moves_70 : decode cX11_moves 70 = .ok (.invokevirtual 67, 3) := do_182 (rdb (p := 64) (i := 6) ch_cX11_moves_64 rfl) (rdb (p := 64) (i := 7) ch_cX11_moves_64 rfl) (rdb (p := 64) (i := 8) ch_cX11_moves_64 rfl) rfl
theorem dX11_moves_73 : decode cX11_moves 73 = .ok (.ireturn, 1) := do_172 (rdb (p := 64) (i := 9) ch_cX11_moves_64 rfl)
theorem dX11_moves_74 : decode cX11_moves 74 = .ok (.aload 4, 2) := do_25 (rdb (p := 64) (i := 10) ch_cX11_moves_64 rfl) (rdb (p := 64) (i := 11) ch_cX11_moves_64 rfl)
theorem dX11_moves_76 : decode cX11_moves 76 = .ok (.getfield 105, 3) := do_180 (rdb (p := 64) (i := 12) ch_cX11_moves_64 rfl) (rdb (p := 64) (i := 13) ch_cX11_moves_64 rfl) (rdb (p := 64) (i := 14) ch_cX11_moves_64 rfl) rfl
theorem dX11_moves_79 : decode cX11_moves 79 = .ok (.iload_n 1, 1) := do_27 (rdb (p := 64) (i := 15) ch_cX11_moves_64 rfl)
theorem dX11_moves_80 : decode cX11_moves 80 = .ok (.iload_n 2, 1) := do_28 (rdb (p := 64) (i := 16) ch_cX11_moves_64 rfl)
theorem dX11_moves_81 : decode cX11_moves 81 = .ok (.iastore, 1) := do_79 (rdb (p := 64) (i := 17) ch_cX11_moves_64 rfl)
theorem dX11_moves_82 : decode cX11_moves 82 = .ok (.aload 4, 2) := do_25 (rdb (p := 64) (i := 18) ch_cX11_moves_64 rfl) (rdb (p := 64) (i := 19) ch_cX11_moves_64 rfl)
theorem dX11_moves_84 : decode cX11_moves 84 = .ok (.getfield 108, 3) := do_180 (rdb (p := 64) (i := 20) ch_cX11_moves_64 rfl) (rdb (p := 64) (i := 21) ch_cX11_moves_64 rfl) (rdb (p := 64) (i := 22) ch_cX11_moves_64 rfl) rfl
theorem dX11_moves_87 : decode cX11_moves 87 = .ok (.iload_n 1, 1) := do_27 (rdb (p := 64) (i := 23) ch_cX11_moves_64 rfl)
theorem dX11_moves_88 : decode cX11_moves 88 = .ok (.iload_n 3, 1) := do_29 (rdb (p := 64) (i := 24) ch_cX11_moves_64 rfl)
theorem dX11_moves_89 : decode cX11_moves 89 = .ok (.iastore, 1) := do_79 (rdb (p := 64) (i := 25) ch_cX11_moves_64 rfl)
theorem dX11_moves_90 : decode cX11_moves 90 = .ok (.iconst 1, 1) := do_4 (rdb (p := 64) (i := 26) ch_cX11_moves_64 rfl)
theorem dX11_moves_91 : decode cX11_moves 91 = .ok (.ireturn, 1) := do_172 (rdb (p := 64) (i := 27) ch_cX11_moves_64 rfl)
theorem ch_cX11_thing_0 : (cX11_thing.data.toList.drop 0).take 36 = [27, 184, 0, 58, 153, 0, 10, 28, 184, 0, 62, 154, 0, 9, 42, 4, 182, 0, 67, 172, 42, 180, 0, 10, 180, 0, 71, 28, 182, 0, 75, 154, 0, 9, 42, 6] := by decide +kernel
theorem dX11_thing_0 : decode cX11_thing 0 = .ok (.iload_n 1, 1) := do_27 (rdb (p := 0) (i := 0) ch_cX11_thing_0 rfl)
theorem dX11_thing_1 : decode cX11_thing 1 = .ok (.invokestatic 58, 3) := do_184 (rdb (p := 0) (i := 1) ch_cX11_thing_0 rfl) (rdb (p := 0) (i := 2) ch_cX11_thing_0 rfl) (rdb (p := 0) (i := 3) ch_cX11_thing_0 rfl) rfl
theorem dX11_thing_4 : decode cX11_thing 4 = .ok (.ifCond .eq 10, 3) := do_153 (rdb (p := 0) (i := 4) ch_cX11_thing_0 rfl) (rdb (p := 0) (i := 5) ch_cX11_thing_0 rfl) (rdb (p := 0) (i := 6) ch_cX11_thing_0 rfl) (by decide +kernel)
theorem dX11_thing_7 : decode cX11_thing 7 = .ok (.iload_n 2, 1) := do_28 (rdb (p := 0) (i := 7) ch_cX11_thing_0 rfl)
theorem dX11_thing_8 : decode cX11_thing 8 = .ok (.invokestatic 62, 3) := do_184 (rdb (p := 0) (i := 8) ch_cX11_thing_0 rfl) (rdb (p := 0) (i := 9) ch_cX11_thing_0 rfl) (rdb (p := 0) (i := 10) ch_cX11_thing_0 rfl) rfl
theorem dX11_thing_11 : decode cX11_thing 11 = .ok (.ifCond .ne 9, 3) := do_154 (rdb (p := 0) (i := 11) ch_cX11_thing_0 rfl) (rdb (p := 0) (i := 12) ch_cX11_thing_0 rfl) (rdb (p := 0) (i := 13) ch_cX11_thing_0 rfl) (by decide +kernel)
theorem dX11_thing_14 : decode cX11_thing 14 = .ok (.aload_n 0, 1) := do_42 (rdb (p := 0) (i := 14) ch_cX11_thing_0 rfl)
theorem dX11_thing_15 : decode cX11_thing 15 = .ok (.iconst 1, 1) := do_4 (rdb (p := 0) (i := 15) ch_cX11_thing_0 rfl)
theorem dX11_thing_16 : decode cX11_thing 16 = .ok (.invokevirtual 67, 3) := do_182 (rdb (p := 0) (i := 16) ch_cX11_thing_0 rfl) (rdb (p := 0) (i := 17) ch_cX11_thing_0 rfl) (rdb (p := 0) (i := 18) ch_cX11_thing_0 rfl) rfl
theorem dX11_thing_19 : decode cX11_thing 19 = .ok (.ireturn, 1) := do_172 (rdb (p := 0) (i := 19) ch_cX11_thing_0 rfl)
theorem dX11_thing_20 : decode cX11_thing 20 = .ok (.aload_n 0, 1) := do_42 (rdb (p := 0) (i := 20) ch_cX11_thing_0 rfl)
theorem dX11_thing_21 : decode cX11_thing 21 = .ok (.getfield 10, 3) := do_180 (rdb (p := 0) (i := 21) ch_cX11_thing_0 rfl) (rdb (p := 0) (i := 22) ch_cX11_thing_0 rfl) (rdb (p := 0) (i := 23) ch_cX11_thing_0 rfl) rfl
theorem dX11_thing_24 : decode cX11_thing 24 = .ok (.getfield 71, 3) := do_180 (rdb (p := 0) (i := 24) ch_cX11_thing_0 rfl) (rdb (p := 0) (i := 25) ch_cX11_thing_0 rfl) (rdb (p := 0) (i := 26) ch_cX11_thing_0 rfl) rfl
theorem dX11_thing_27 : decode cX11_thing 27 = .ok (.iload_n 2, 1) := do_28 (rdb (p := 0) (i := 27) ch_cX11_thing_0 rfl)
theorem dX11_thing_28 : decode cX11_thing 28 = .ok (.invokevirtual 75, 3) := do_182 (rdb (p := 0) (i := 28) ch_cX11_thing_0 rfl) (rdb (p := 0) (i := 29) ch_cX11_thing_0 rfl) (rdb (p := 0) (i := 30) ch_cX11_thing_0 rfl) rfl
theorem dX11_thing_31 : decode cX11_thing 31 = .ok (.ifCond .ne 9, 3) := do_154 (rdb (p := 0) (i := 31) ch_cX11_thing_0 rfl) (rdb (p := 0) (i := 32) ch_cX11_thing_0 rfl) (rdb (p := 0) (i := 33) ch_cX11_thing_0 rfl) (by decide +kernel)
theorem ch_cX11_thing_32 : (cX11_thing.data.toList.drop 32).take 36 = [0, 9, 42, 6, 182, 0, 67, 172, 42, 180, 0, 10, 180, 0, 71, 182, 0, 78, 154, 0, 9, 42, 7, 182, 0, 67, 172, 42, 180, 0, 10, 180, 0, 71, 27, 28] := by decide +kernel
theorem dX11_thing_34 : decode cX11_thing 34 = .ok (.aload_n 0, 1) := do_42 (rdb (p := 32) (i := 2) ch_cX11_thing_32 rfl)
theorem dX11_thing_35 : decode cX11_thing 35 = .ok (.iconst 3, 1) := do_6 (rdb (p := 32) (i := 3) ch_cX11_thing_32 rfl)
theorem dX11_thing_36 : decode cX11_thing 36 = .ok (.invokevirtual 67, 3) := do_182 (rdb (p := 32) (i := 4) ch_cX11_thing_32 rfl) (rdb (p := 32) (i := 5) ch_cX11_thing_32 rfl) (rdb (p := 32) (i := 6) ch_cX11_thing_32 rfl) rfl
theorem dX11_thing_39 : decode cX11_thing 39 = .ok (.ireturn, 1) := do_172 (rdb (p := 32) (i := 7) ch_cX11_thing_32 rfl)
theorem dX11_thing_40 : decode cX11_thing 40 = .ok (.aload_n 0, 1) := do_42 (rdb (p := 32) (i := 8) ch_cX11_thing_32 rfl)
theorem dX11_thing_41 : decode cX11_thing 41 = .ok (.getfield 10, 3) := do_180 (rdb (p := 32) (i := 9) ch_cX11_thing_32 rfl) (rdb (p := 32) (i := 10) ch_cX11_thing_32 rfl) (rdb (p := 32) (i := 11) ch_cX11_thing_32 rfl) rfl
theorem dX11_thing_44 : decode cX11_thing 44 = .ok (.getfield 71, 3) := do_180 (rdb (p := 32) (i := 12) ch_cX11_thing_32 rfl) (rdb (p := 32) (i := 13) ch_cX11_thing_32 rfl) (rdb (p := 32) (i := 14) ch_cX11_thing_32 rfl) rfl
theorem dX11_thing_47 : decode cX11_thing 47 = .ok (.invokevirtual 78, 3) := do_182 (rdb (p := 32) (i := 15) ch_cX11_thing_32 rfl) (rdb (p := 32) (i := 16) ch_cX11_thing_32 rfl) (rdb (p := 32) (i := 17) ch_cX11_thing_32 rfl) rfl
theorem dX11_thing_50 : decode cX11_thing 50 = .ok (.ifCond .ne 9, 3) := do_154 (rdb (p := 32) (i := 18) ch_cX11_thing_32 rfl) (rdb (p := 32) (i := 19) ch_cX11_thing_32 rfl) (rdb (p := 32) (i := 20) ch_cX11_thing_32 rfl) (by decide +kernel)
theorem dX11_thing_53 : decode cX11_thing 53 = .ok (.aload_n 0, 1) := do_42 (rdb (p := 32) (i := 21) ch_cX11_thing_32 rfl)
theorem dX11_thing_54 : decode cX11_thing 54 = .ok (.iconst 4, 1) := do_7 (rdb (p := 32) (i := 22) ch_cX11_thing_32 rfl)
theorem dX11_thing_55 : decode cX11_thing 55 = .ok (.invokevirtual 67, 3) := do_182 (rdb (p := 32) (i := 23) ch_cX11_thing_32 rfl) (rdb (p := 32) (i := 24) ch_cX11_thing_32 rfl) (rdb (p := 32) (i := 25) ch_cX11_thing_32 rfl) rfl
theorem dX11_thing_58 : decode cX11_thing 58 = .ok (.ireturn, 1) := do_172 (rdb (p := 32) (i := 26) ch_cX11_thing_32 rfl)
theorem dX11_thing_59 : decode cX11_thing 59 = .ok (.aload_n 0, 1) := do_42 (rdb (p := 32) (i := 27) ch_cX11_thing_32 rfl)
theorem dX11_thing_60 : decode cX11_thing 60 = .ok (.getfield 10, 3) := do_180 (rdb (p := 32) (i := 28) ch_cX11_thing_32 rfl) (rdb (p := 32) (i := 29) ch_cX11_thing_32 rfl) (rdb (p := 32) (i := 30) ch_cX11_thing_32 rfl) rfl
theorem dX11_thing_63 : decode cX11_thing 63 = .ok (.getfield 71, 3) := do_180 (rdb (p := 32) (i := 31) ch_cX11_thing_32 rfl) (rdb (p := 32) (i := 32) ch_cX11_thing_32 rfl) (rdb (p := 32) (i := 33) ch_cX11_thing_32 rfl) rfl
theorem ch_cX11_thing_64 : (cX11_thing.data.toList.drop 64).take 36 = [0, 71, 27, 28, 182, 0, 82, 172] := by decide +kernel
theorem dX11_thing_66 : decode cX11_thing 66 = .ok (.iload_n 1, 1) := do_27 (rdb (p := 64) (i := 2) ch_cX11_thing_64 rfl)
theorem dX11_thing_67 : decode cX11_thing 67 = .ok (.iload_n 2, 1) := do_28 (rdb (p := 64) (i := 3) ch_cX11_thing_64 rfl)
theorem dX11_thing_68 : decode cX11_thing 68 = .ok (.invokevirtual 82, 3) := do_182 (rdb (p := 64) (i := 4) ch_cX11_thing_64 rfl) (rdb (p := 64) (i := 5) ch_cX11_thing_64 rfl) (rdb (p := 64) (i := 6) ch_cX11_thing_64 rfl) rfl
theorem dX11_thing_71 : decode cX11_thing 71 = .ok (.ireturn, 1) := do_172 (rdb (p := 64) (i := 7) ch_cX11_thing_64 rfl)
theorem ch_cX11_thingIs_0 : (cX11_thingIs.data.toList.drop 0).take 36 = [42, 180, 0, 10, 180, 0, 71, 27, 182, 0, 86, 153, 0, 12, 28, 3, 6, 184, 0, 89, 154, 0, 9, 42, 4, 182, 0, 67, 172, 42, 180, 0, 10, 180, 0, 71] := by decide +kernel
theorem dX11_thingIs_0 : decode cX11_thingIs 0 = .ok (.aload_n 0, 1) := do_42 (rdb (p := 0) (i := 0) ch_cX11_thingIs_0 rfl)
theorem dX11_thingIs_1 : decode cX11_thingIs 1 = .ok (.getfield 10, 3) := do_180 (rdb (p := 0) (i := 1) ch_cX11_thingIs_0 rfl) (rdb (p := 0) (i := 2) ch_cX11_thingIs_0 rfl) (rdb (p := 0) (i := 3) ch_cX11_thingIs_0 rfl) rfl
theorem dX11_thingIs_4 : decode cX11_thingIs 4 = .ok (.getfield 71, 3) := do_180 (rdb (p := 0) (i := 4) ch_cX11_thingIs_0 rfl) (rdb (p := 0) (i := 5) ch_cX11_thingIs_0 rfl) (rdb (p := 0) (i := 6) ch_cX11_thingIs_0 rfl) rfl
theorem dX11_thingIs_7 : decode cX11_thingIs 7 = .ok (.iload_n 1, 1) := do_27 (rdb (p := 0) (i := 7) ch_cX11_thingIs_0 rfl)
theorem dX11_thingIs_8 : decode cX11_thingIs 8 = .ok (.invokevirtual 86, 3) := do_182 (rdb (p := 0) (i := 8) ch_cX11_thingIs_0 rfl) (rdb (p := 0) (i := 9) ch_cX11_thingIs_0 rfl) (rdb (p := 0) (i := 10) ch_cX11_thingIs_0 rfl) rfl
theorem dX11_thingIs_11 : decode cX11_thingIs 11 = .ok (.ifCond .eq 12, 3) := do_153 (rdb (p := 0) (i := 11) ch_cX11_thingIs_0 rfl) (rdb (p := 0) (i := 12) ch_cX11_thingIs_0 rfl) (rdb (p := 0) (i := 13) ch_cX11_thingIs_0 rfl) (by decide +kernel)
theorem dX11_thingIs_14 : decode cX11_thingIs 14 = .ok (.iload_n 2, 1) := do_28 (rdb (p := 0) (i := 14) ch_cX11_thingIs_0 rfl)
theorem dX11_thingIs_15 : decode cX11_thingIs 15 = .ok (.iconst 0, 1) := do_3 (rdb (p := 0) (i := 15) ch_cX11_thingIs_0 rfl)
theorem dX11_thingIs_16 : decode cX11_thingIs 16 = .ok (.iconst 3, 1) := do_6 (rdb (p := 0) (i := 16) ch_cX11_thingIs_0 rfl)
theorem dX11_thingIs_17 : decode cX11_thingIs 17 = .ok (.invokestatic 89, 3) := do_184 (rdb (p := 0) (i := 17) ch_cX11_thingIs_0 rfl) (rdb (p := 0) (i := 18) ch_cX11_thingIs_0 rfl) (rdb (p := 0) (i := 19) ch_cX11_thingIs_0 rfl) rfl
theorem dX11_thingIs_20 : decode cX11_thingIs 20 = .ok (.ifCond .ne 9, 3) := do_154 (rdb (p := 0) (i := 20) ch_cX11_thingIs_0 rfl) (rdb (p := 0) (i := 21) ch_cX11_thingIs_0 rfl) (rdb (p := 0) (i := 22) ch_cX11_thingIs_0 rfl) (by decide +kernel)
theorem dX11_thingIs_23 : decode cX11_thingIs 23 = .ok (.aload_n 0, 1) := do_42 (rdb (p := 0) (i := 23) ch_cX11_thingIs_0 rfl)
theorem dX11_thingIs_24 : decode cX11_thingIs 24 = .ok (.iconst 1, 1) := do_4 (rdb (p := 0) (i := 24) ch_cX11_thingIs_0 rfl)
theorem dX11_thingIs_25 : decode cX11_thingIs 25 = .ok (.invokevirtual 67, 3) := do_182 (rdb (p := 0) (i := 25) ch_cX11_thingIs_0 rfl) (rdb (p := 0) (i := 26) ch_cX11_thingIs_0 rfl) (rdb (p := 0) (i := 27) ch_cX11_thingIs_0 rfl) rfl
theorem dX11_thingIs_28 : decode cX11_thingIs 28 = .ok (.ireturn, 1) := do_172 (rdb (p := 0) (i := 28) ch_cX11_thingIs_0 rfl)
theorem dX11_thingIs_29 : decode cX11_thingIs 29 = .ok (.aload_n 0, 1) := do_42 (rdb (p := 0) (i := 29) ch_cX11_thingIs_0 rfl)
theorem dX11_thingIs_30 : decode cX11_thingIs 30 = .ok (.getfield 10, 3) := do_180 (rdb (p := 0) (i := 30) ch_cX11_thingIs_0 rfl) (rdb (p := 0) (i := 31) ch_cX11_thingIs_0 rfl) (rdb (p := 0) (i := 32) ch_cX11_thingIs_0 rfl) rfl
theorem ch_cX11_thingIs_32 : (cX11_thingIs.data.toList.drop 32).take 36 = [10, 180, 0, 71, 27, 28, 182, 0, 93, 172] := by decide +kernel
theorem dX11_thingIs_33 : decode cX11_thingIs 33 = .ok (.getfield 71, 3) := do_180 (rdb (p := 32) (i := 1) ch_cX11_thingIs_32 rfl) (rdb (p := 32) (i := 2) ch_cX11_thingIs_32 rfl) (rdb (p := 32) (i := 3) ch_cX11_thingIs_32 rfl) rfl
theorem dX11_thingIs_36 : decode cX11_thingIs 36 = .ok (.iload_n 1, 1) := do_27 (rdb (p := 32) (i := 4) ch_cX11_thingIs_32 rfl)
theorem dX11_thingIs_37 : decode cX11_thingIs 37 = .ok (.iload_n 2, 1) := do_28 (rdb (p := 32) (i := 5) ch_cX11_thingIs_32 rfl)
theorem dX11_thingIs_38 : decode cX11_thingIs 38 = .ok (.invokevirtual 93, 3) := do_182 (rdb (p := 32) (i := 6) ch_cX11_thingIs_32 rfl) (rdb (p := 32) (i := 7) ch_cX11_thingIs_32 rfl) (rdb (p := 32) (i := 8) ch_cX11_thingIs_32 rfl) rfl
theorem dX11_thingIs_41 : decode cX11_thingIs 41 = .ok (.ireturn, 1) := do_172 (rdb (p := 32) (i := 9) ch_cX11_thingIs_32 rfl)
theorem ch_cX11_walker_0 : (cX11_walker.data.toList.drop 0).take 36 = [27, 184, 0, 145, 153, 0, 17, 28, 184, 0, 62, 153, 0, 10, 29, 184, 0, 96, 154, 0, 9, 42, 4, 182, 0, 67, 172, 42, 180, 0, 10, 180, 0, 71, 28, 182] := by decide +kernel
theorem dX11_walker_0 : decode cX11_walker 0 = .ok (.iload_n 1, 1) := do_27 (rdb (p := 0) (i := 0) ch_cX11_walker_0 rfl)
theorem dX11_walker_1 : decode cX11_walker 1 = .ok (.invokestatic 145, 3) := do_184 (rdb (p := 0) (i := 1) ch_cX11_walker_0 rfl) (rdb (p := 0) (i := 2) ch_cX11_walker_0 rfl) (rdb (p := 0) (i := 3) ch_cX11_walker_0 rfl) rfl
theorem dX11_walker_4 : decode cX11_walker 4 = .ok (.ifCond .eq 17, 3) := do_153 (rdb (p := 0) (i := 4) ch_cX11_walker_0 rfl) (rdb (p := 0) (i := 5) ch_cX11_walker_0 rfl) (rdb (p := 0) (i := 6) ch_cX11_walker_0 rfl) (by decide +kernel)
theorem dX11_walker_7 : decode cX11_walker 7 = .ok (.iload_n 2, 1) := do_28 (rdb (p := 0) (i := 7) ch_cX11_walker_0 rfl)
theorem dX11_walker_8 : decode cX11_walker 8 = .ok (.invokestatic 62, 3) := do_184 (rdb (p := 0) (i := 8) ch_cX11_walker_0 rfl) (rdb (p := 0) (i := 9) ch_cX11_walker_0 rfl) (rdb (p := 0) (i := 10) ch_cX11_walker_0 rfl) rfl
theorem dX11_walker_11 : decode cX11_walker 11 = .ok (.ifCond .eq 10, 3) := do_153 (rdb (p := 0) (i := 11) ch_cX11_walker_0 rfl) (rdb (p := 0) (i := 12) ch_cX11_walker_0 rfl) (rdb (p := 0) (i := 13) ch_cX11_walker_0 rfl) (by decide +kernel)
theorem dX11_walker_14 : decode cX11_walker 14 = .ok (.iload_n 3, 1) := do_29 (rdb (p := 0) (i := 14) ch_cX11_walker_0 rfl)
theorem dX11_walker_15 : decode cX11_walker 15 = .ok (.invokestatic 96, 3) := do_184 (rdb (p := 0) (i := 15) ch_cX11_walker_0 rfl) (rdb (p := 0) (i := 16) ch_cX11_walker_0 rfl) (rdb (p := 0) (i := 17) ch_cX11_walker_0 rfl) rfl
theorem dX11_walker_18 : decode cX11_walker 18 = .ok (.ifCond .ne 9, 3) := do_154 (rdb (p := 0) (i := 18) ch_cX11_walker_0 rfl) (rdb (p := 0) (i := 19) ch_cX11_walker_0 rfl) (rdb (p := 0) (i := 20) ch_cX11_walker_0 rfl) (by decide +kernel)
theorem dX11_walker_21 : decode cX11_walker 21 = .ok (.aload_n 0, 1) := do_42 (rdb (p := 0) (i := 21) ch_cX11_walker_0 rfl)
theorem dX11_walker_22 : decode cX11_walker 22 = .ok (.iconst 1, 1) := do_4 (rdb (p := 0) (i := 22) ch_cX11_walker_0 rfl)
theorem dX11_walker_23 : decode cX11_walker 23 = .ok (.invokevirtual 67, 3) := do_182 (rdb (p := 0) (i := 23) ch_cX11_walker_0 rfl) (rdb (p := 0) (i := 24) ch_cX11_walker_0 rfl) (rdb (p := 0) (i := 25) ch_cX11_walker_0 rfl) rfl
theorem dX11_walker_26 : decode cX11_walker 26 = .ok (.ireturn, 1) := do_172 (rdb (p := 0) (i := 26) ch_cX11_walker_0 rfl)
theorem dX11_walker_27 : decode cX11_walker 27 = .ok (.aload_n 0, 1) := do_42 (rdb (p := 0) (i := 27) ch_cX11_walker_0 rfl)
theorem dX11_walker_28 : decode cX11_walker 28 = .ok (.getfield 10, 3) := do_180 (rdb (p := 0) (i := 28) ch_cX11_walker_0 rfl) (rdb (p := 0) (i := 29) ch_cX11_walker_0 rfl) (rdb (p := 0) (i := 30) ch_cX11_walker_0 rfl) rfl
theorem dX11_walker_31 : decode cX11_walker 31 = .ok (.getfield 71, 3) := do_180 (rdb (p := 0) (i := 31) ch_cX11_walker_0 rfl) (rdb (p := 0) (i := 32) ch_cX11_walker_0 rfl) (rdb (p := 0) (i := 33) ch_cX11_walker_0 rfl) rfl
theorem ch_cX11_walker_32 : (cX11_walker.data.toList.drop 32).take 36 = [0, 71, 28, 182, 0, 75, 154, 0, 9, 42, 6, 182, 0, 67, 172, 42, 180, 0, 10, 180, 0, 148, 16, 8, 161, 0, 9, 42, 7, 182, 0, 67, 172, 42, 180, 0] := by decide +kernel
theorem dX11_walker_34 : decode cX11_walker 34 = .ok (.iload_n 2, 1) := do_28 (rdb (p := 32) (i := 2) ch_cX11_walker_32 rfl)
theorem dX11_walker_35 : decode cX11_walker 35 = .ok (.invokevirtual 75, 3) := do_182 (rdb (p := 32) (i := 3) ch_cX11_walker_32 rfl) (rdb (p := 32) (i := 4) ch_cX11_walker_32 rfl) (rdb (p := 32) (i := 5) ch_cX11_walker_32 rfl) rfl
theorem dX11_walker_38 : decode cX11_walker 38 = .ok (.ifCond .ne 9, 3) := do_154 (rdb (p := 32) (i := 6) ch_cX11_walker_32 rfl) (rdb (p := 32) (i := 7) ch_cX11_walker_32 rfl) (rdb (p := 32) (i := 8) ch_cX11_walker_32 rfl) (by decide +kernel)
theorem dX11_walker_41 : decode cX11_walker 41 = .ok (.aload_n 0, 1) := do_42 (rdb (p := 32) (i := 9) ch_cX11_walker_32 rfl)
theorem dX11_walker_42 : decode cX11_walker 42 = .ok (.iconst 3, 1) := do_6 (rdb (p := 32) (i := 10) ch_cX11_walker_32 rfl)
theorem dX11_walker_43 : decode cX11_walker 43 = .ok (.invokevirtual 67, 3) := do_182 (rdb (p := 32) (i := 11) ch_cX11_walker_32 rfl) (rdb (p := 32) (i := 12) ch_cX11_walker_32 rfl) (rdb (p := 32) (i := 13) ch_cX11_walker_32 rfl) rfl
theorem dX11_walker_46 : decode cX11_walker 46 = .ok (.ireturn, 1) := do_172 (rdb (p := 32) (i := 14) ch_cX11_walker_32 rfl)
theorem dX11_walker_47 : decode cX11_walker 47 = .ok (.aload_n 0, 1) := do_42 (rdb (p := 32) (i := 15) ch_cX11_walker_32 rfl)
theorem dX11_walker_48 : decode cX11_walker 48 = .ok (.getfield 10, 3) := do_180 (rdb (p := 32) (i := 16) ch_cX11_walker_32 rfl) (rdb (p := 32) (i := 17) ch_cX11_walker_32 rfl) (rdb (p := 32) (i := 18) ch_cX11_walker_32 rfl) rfl
theorem dX11_walker_51 : decode cX11_walker 51 = .ok (.getfield 148, 3) := do_180 (rdb (p := 32) (i := 19) ch_cX11_walker_32 rfl) (rdb (p := 32) (i := 20) ch_cX11_walker_32 rfl) (rdb (p := 32) (i := 21) ch_cX11_walker_32 rfl) rfl
theorem dX11_walker_54 : decode cX11_walker 54 = .ok (.bipush 8, 2) := do_16 (rdb (p := 32) (i := 22) ch_cX11_walker_32 rfl) (rdb (p := 32) (i := 23) ch_cX11_walker_32 rfl) (by decide +kernel)
theorem dX11_walker_56 : decode cX11_walker 56 = .ok (.if_icmp .lt 9, 3) := do_161 (rdb (p := 32) (i := 24) ch_cX11_walker_32 rfl) (rdb (p := 32) (i := 25) ch_cX11_walker_32 rfl) (rdb (p := 32) (i := 26) ch_cX11_walker_32 rfl) (by decide +kernel)
theorem dX11_walker_59 : decode cX11_walker 59 = .ok (.aload_n 0, 1) := do_42 (rdb (p := 32) (i := 27) ch_cX11_walker_32 rfl)
theorem dX11_walker_60 : decode cX11_walker 60 = .ok (.iconst 4, 1) := do_7 (rdb (p := 32) (i := 28) ch_cX11_walker_32 rfl)
theorem dX11_walker_61 : decode cX11_walker 61 = .ok (.invokevirtual 67, 3) := do_182 (rdb (p := 32) (i := 29) ch_cX11_walker_32 rfl) (rdb (p := 32) (i := 30) ch_cX11_walker_32 rfl) (rdb (p := 32) (i := 31) ch_cX11_walker_32 rfl) rfl
theorem ch_cX11_walker_64 : (cX11_walker.data.toList.drop 64).take 36 = [172, 42, 180, 0, 10, 27, 28, 29, 182, 0, 151, 172] := by decide +kernel
theorem dX11_walker_64 : decode cX11_walker 64 = .ok (.ireturn, 1) := do_172 (rdb (p := 64) (i := 0) ch_cX11_walker_64 rfl)
theorem dX11_walker_65 : decode cX11_walker 65 = .ok (.aload_n 0, 1) := do_42 (rdb (p := 64) (i := 1) ch_cX11_walker_64 rfl)
theorem dX11_walker_66 : decode cX11_walker 66 = .ok (.getfield 10, 3) := do_180 (rdb (p := 64) (i := 2) ch_cX11_walker_64 rfl) (rdb (p := 64) (i := 3) ch_cX11_walker_64 rfl) (rdb (p := 64) (i := 4) ch_cX11_walker_64 rfl) rfl
theorem dX11_walker_69 : decode cX11_walker 69 = .ok (.iload_n 1, 1) := do_27 (rdb (p := 64) (i := 5) ch_cX11_walker_64 rfl)
theorem dX11_walker_70 : decode cX11_walker 70 = .ok (.iload_n 2, 1) := do_28 (rdb (p := 64) (i := 6) ch_cX11_walker_64 rfl)
theorem dX11_walker_71 : decode cX11_walker 71 = .ok (.iload_n 3, 1) := do_29 (rdb (p := 64) (i := 7) ch_cX11_walker_64 rfl)
theorem dX11_walker_72 : decode cX11_walker 72 = .ok (.invokevirtual 151, 3) := do_182 (rdb (p := 64) (i := 8) ch_cX11_walker_64 rfl) (rdb (p := 64) (i := 9) ch_cX11_walker_64 rfl) (rdb (p := 64) (i := 10) ch_cX11_walker_64 rfl) rfl
theorem dX11_walker_75 : decode cX11_walker 75 = .ok (.ireturn, 1) := do_172 (rdb (p := 64) (i := 11) ch_cX11_walker_64 rfl)
theorem ch_cX11_walkerIs_0 : (cX11_walkerIs.data.toList.drop 0).take 36 = [42, 180, 0, 10, 27, 182, 0, 154, 153, 0, 13, 28, 3, 16, 11, 184, 0, 89, 154, 0, 9, 42, 4, 182, 0, 67, 172, 42, 180, 0, 10, 180, 0, 157, 27, 50] := by decide +kernel
theorem dX11_walkerIs_0 : decode cX11_walkerIs 0 = .ok (.aload_n 0, 1) := do_42 (rdb (p := 0) (i := 0) ch_cX11_walkerIs_0 rfl)
theorem dX11_walkerIs_1 : decode cX11_walkerIs 1 = .ok (.getfield 10, 3) := do_180 (rdb (p := 0) (i := 1) ch_cX11_walkerIs_0 rfl) (rdb (p := 0) (i := 2) ch_cX11_walkerIs_0 rfl) (rdb (p := 0) (i := 3) ch_cX11_walkerIs_0 rfl) rfl
theorem dX11_walkerIs_4 : decode cX11_walkerIs 4 = .ok (.iload_n 1, 1) := do_27 (rdb (p := 0) (i := 4) ch_cX11_walkerIs_0 rfl)
theorem dX11_walkerIs_5 : decode cX11_walkerIs 5 = .ok (.invokevirtual 154, 3) := do_182 (rdb (p := 0) (i := 5) ch_cX11_walkerIs_0 rfl) (rdb (p := 0) (i := 6) ch_cX11_walkerIs_0 rfl) (rdb (p := 0) (i := 7) ch_cX11_walkerIs_0 rfl) rfl
theorem dX11_walkerIs_8 : decode cX11_walkerIs 8 = .ok (.ifCond .eq 13, 3) := do_153 (rdb (p := 0) (i := 8) ch_cX11_walkerIs_0 rfl) (rdb (p := 0) (i := 9) ch_cX11_walkerIs_0 rfl) (rdb (p := 0) (i := 10) ch_cX11_walkerIs_0 rfl) (by decide +kernel)
theorem dX11_walkerIs_11 : decode cX11_walkerIs 11 = .ok (.iload_n 2, 1) := do_28 (rdb (p := 0) (i := 11) ch_cX11_walkerIs_0 rfl)
theorem dX11_walkerIs_12 : decode cX11_walkerIs 12 = .ok (.iconst 0, 1) := do_3 (rdb (p := 0) (i := 12) ch_cX11_walkerIs_0 rfl)
theorem dX11_walkerIs_13 : decode cX11_walkerIs 13 = .ok (.bipush 11, 2) := do_16 (rdb (p := 0) (i := 13) ch_cX11_walkerIs_0 rfl) (rdb (p := 0) (i := 14) ch_cX11_walkerIs_0 rfl) (by decide +kernel)
theorem dX11_walkerIs_15 : decode cX11_walkerIs 15 = .ok (.invokestatic 89, 3) := do_184 (rdb (p := 0) (i := 15) ch_cX11_walkerIs_0 rfl) (rdb (p := 0) (i := 16) ch_cX11_walkerIs_0 rfl) (rdb (p := 0) (i := 17) ch_cX11_walkerIs_0 rfl) rfl
theorem dX11_walkerIs_18 : decode cX11_walkerIs 18 = .ok (.ifCond .ne 9, 3) := do_154 (rdb (p := 0) (i := 18) ch_cX11_walkerIs_0 rfl) (rdb (p := 0) (i := 19) ch_cX11_walkerIs_0 rfl) (rdb (p := 0) (i := 20) ch_cX11_walkerIs_0 rfl) (by decide +kernel)
theorem dX11_walkerIs_21 : decode cX11_walkerIs 21 = .ok (.aload_n 0, 1) := do_42 (rdb (p := 0) (i := 21) ch_cX11_walkerIs_0 rfl)
theorem dX11_walkerIs_22 : decode cX11_walkerIs 22 = .ok (.iconst 1, 1) := do_4 (rdb (p := 0) (i := 22) ch_cX11_walkerIs_0 rfl)
theorem dX11_walkerIs_23 : decode cX11_walkerIs 23 = .ok (.invokevirtual 67, 3) := do_182 (rdb (p := 0) (i := 23) ch_cX11_walkerIs_0 rfl) (rdb (p := 0) (i := 24) ch_cX11_walkerIs_0 rfl) (rdb (p := 0) (i := 25) ch_cX11_walkerIs_0 rfl) rfl
theorem dX11_walkerIs_26 : decode cX11_walkerIs 26 = .ok (.ireturn, 1) := do_172 (rdb (p := 0) (i := 26) ch_cX11_walkerIs_0 rfl)
theorem dX11_walkerIs_27 : decode cX11_walkerIs 27 = .ok (.aload_n 0, 1) := do_42 (rdb (p := 0) (i := 27) ch_cX11_walkerIs_0 rfl)
theorem dX11_walkerIs_28 : decode cX11_walkerIs 28 = .ok (.getfield 10, 3) := do_180 (rdb (p := 0) (i := 28) ch_cX11_walkerIs_0 rfl) (rdb (p := 0) (i := 29) ch_cX11_walkerIs_0 rfl) (rdb (p := 0) (i := 30) ch_cX11_walkerIs_0 rfl) rfl
theorem dX11_walkerIs_31 : decode cX11_walkerIs 31 = .ok (.getfield 157, 3) := do_180 (rdb (p := 0) (i := 31) ch_cX11_walkerIs_0 rfl) (rdb (p := 0) (i := 32) ch_cX11_walkerIs_0 rfl) (rdb (p := 0) (i := 33) ch_cX11_walkerIs_0 rfl) rfl
theorem ch_cX11_walkerIs_32 : (cX11_walkerIs.data.toList.drop 32).take 36 = [0, 157, 27, 50, 28, 182, 0, 161, 172] := by decide +kernel
theorem dX11_walkerIs_34 : decode cX11_walkerIs 34 = .ok (.iload_n 1, 1) := do_27 (rdb (p := 32) (i := 2) ch_cX11_walkerIs_32 rfl)
theorem dX11_walkerIs_35 : decode cX11_walkerIs 35 = .ok (.aaload, 1) := do_50 (rdb (p := 32) (i := 3) ch_cX11_walkerIs_32 rfl)
theorem dX11_walkerIs_36 : decode cX11_walkerIs 36 = .ok (.iload_n 2, 1) := do_28 (rdb (p := 32) (i := 4) ch_cX11_walkerIs_32 rfl)
theorem dX11_walkerIs_37 : decode cX11_walkerIs 37 = .ok (.invokevirtual 161, 3) := do_182 (rdb (p := 32) (i := 5) ch_cX11_walkerIs_32 rfl) (rdb (p := 32) (i := 6) ch_cX11_walkerIs_32 rfl) (rdb (p := 32) (i := 7) ch_cX11_walkerIs_32 rfl) rfl
theorem dX11_walkerIs_40 : decode cX11_walkerIs 40 = .ok (.ireturn, 1) := do_172 (rdb (p := 32) (i := 8) ch_cX11_walkerIs_32 rfl)
theorem dX8_keepTrace_0 : decode cX8_keepTrace 0 = .ok (.aload_n 0, 1) := by decide +kernel
theorem dX8_keepTrace_1 : decode cX8_keepTrace 1 = .ok (.getfield 18, 3) := by decide +kernel
theorem dX8_keepTrace_4 : decode cX8_keepTrace 4 = .ok (.aload_n 0, 1) := by decide +kernel
theorem dX8_keepTrace_5 : decode cX8_keepTrace 5 = .ok (.getfield 12, 3) := by decide +kernel
theorem dX8_keepTrace_8 : decode cX8_keepTrace 8 = .ok (.invokevirtual 46, 3) := by decide +kernel
theorem dX8_keepTrace_11 : decode cX8_keepTrace 11 = .ok (.return_, 1) := by decide +kernel
theorem dX8_parted_0 : decode cX8_parted 0 = .ok (.aload_n 0, 1) := by decide +kernel
theorem dX8_parted_1 : decode cX8_parted 1 = .ok (.getfield 25, 3) := by decide +kernel
theorem dX8_parted_4 : decode cX8_parted 4 = .ok (.iconst 3, 1) := by decide +kernel
theorem dX8_parted_5 : decode cX8_parted 5 = .ok (.if_icmp .ne 10, 3) := by decide +kernel
theorem dX8_parted_8 : decode cX8_parted 8 = .ok (.aload_n 0, 1) := by decide +kernel
theorem dX8_parted_9 : decode cX8_parted 9 = .ok (.iconst 1, 1) := by decide +kernel
theorem dX8_parted_10 : decode cX8_parted 10 = .ok (.putfield 31, 3) := by decide +kernel
theorem dX8_parted_13 : decode cX8_parted 13 = .ok (.iconst 0, 1) := by decide +kernel
theorem dX8_parted_14 : decode cX8_parted 14 = .ok (.ireturn, 1) := by decide +kernel
theorem dX8_parted_15 : decode cX8_parted 15 = .ok (.iload_n 1, 1) := by decide +kernel
theorem dX8_parted_16 : decode cX8_parted 16 = .ok (.aload_n 0, 1) := by decide +kernel
theorem dX8_parted_17 : decode cX8_parted 17 = .ok (.getfield 25, 3) := by decide +kernel
theorem dX8_parted_20 : decode cX8_parted 20 = .ok (.iconst 3, 1) := by decide +kernel
theorem dX8_parted_21 : decode cX8_parted 21 = .ok (.isub, 1) := by decide +kernel
theorem dX8_parted_22 : decode cX8_parted 22 = .ok (.idiv, 1) := by decide +kernel
theorem dX8_parted_23 : decode cX8_parted 23 = .ok (.ireturn, 1) := by decide +kernel
end
