def S_c_X4_next : rf → Nat → Prop := fun c k => (c.1 = 4 ∧ c.2.1 = 0 ∧ k = 3) ∨ False
def ST_X4_next_0 (Mz : mM) (M_0 : mM) (M_0y : mM) : Prop := (Inv M_0) ∧ (FR (S_c_X4_next) Mz M_0) ∧ ∃ z2_ : Int32, (z2_ = M_0.1 (4, 0, 0) 3) ∧ ∃ z4_ : Int32, (z4_ = M_0.1 (5, 0, 0) 1) ∧ (z2_.toInt < z4_.toInt) ∧ ∃ r21_ : Int32, (SP_X5_get 0 0 z2_ M_0 r21_) ∧ (r21_.toInt = 32) ∧ ∃ z41_ : Int32, (z41_.toInt = z2_.toInt + 1) ∧ ∃ M43_ : mM, (M43_ = up M_0 (4, 0, 0) 3 z41_) ∧ M_0y = M43_
def SP_X4_next (Mz : mM) (r_ : Int32) (M_ : mM) : Prop := ∃ M_0 : mM, (RCH (fun x_ y_ => ST_X4_next_0 Mz x_ y_) Mz M_0) ∧ (Inv M_0) ∧ (FR (S_c_X4_next) Mz M_0) ∧ ∃ z2_ : Int32, (z2_ = M_0.1 (4, 0, 0) 3) ∧ ∃ z4_ : Int32, (z4_ = M_0.1 (5, 0, 0) 1) ∧ (((z4_.toInt ≤ z2_.toInt) ∧ (((z4_.toInt ≤ z2_.toInt) ∧ r_ = (-1) ∧ M_ = M_0) ∨ ((z2_.toInt < z4_.toInt) ∧ ∃ r14_ : Int32, (SP_X5_get 0 0 z2_ M_0 r14_) ∧ r_ = r14_ ∧ M_ = M_0))) ∨ ((z2_.toInt < z4_.toInt) ∧ ∃ r21_ : Int32, (SP_X5_get 0 0 z2_ M_0 r21_) ∧ (¬ r21_.toInt = 32) ∧ (((z4_.toInt ≤ z2_.toInt) ∧ r_ = (-1) ∧ M_ = M_0) ∨ ((z2_.toInt < z4_.toInt) ∧ ∃ r34_ : Int32, (SP_X5_get 0 0 z2_ M_0 r34_) ∧ r_ = r34_ ∧ M_ = M_0))))
theorem lf_c_X4_next_0 (M_0 : mM) (z2_ : Int32) (z4_ : Int32) (e3_ : z2_ = M_0.1 (4, 0, 0) 3) (e5_ : z4_ = M_0.1 (5, 0, 0) 1) (h6_ : z2_.toInt < z4_.toInt) : -2147483648 ≤ z2_.toInt + 1 ∧ z2_.toInt + 1 < 2147483648 := by have r_z2_ := rngI z2_; have r_z4_ := rngI z4_; subst e3_; subst e5_; omega
theorem lf_c_X4_next_1 (M43_ : mM) (M_0 : mM) (z2_ : Int32) (z4_ : Int32) (z41_ : Int32) (kv0_0 : M_0.1 (4, 0, 0) 1 = 1) (e3_ : z2_ = M_0.1 (4, 0, 0) 3) (e5_ : z4_ = M_0.1 (5, 0, 0) 1) (h6_ : z2_.toInt < z4_.toInt) (h42_ : z41_.toInt = z2_.toInt + 1) (hM44_ : M43_ = up M_0 (4, 0, 0) 3 z41_) (kf47_ : M43_.1 (4, 0, 0) 1 = 1) : ((M43_.1 (5, 0, 0) 1).toInt - (M43_.1 (4, 0, 0) 3).toInt).toNat < ((M_0.1 (5, 0, 0) 1).toInt - (M_0.1 (4, 0, 0) 3).toInt).toNat := by have r_z2_ := rngI z2_; have r_z4_ := rngI z4_; have r_z41_ := rngI z41_; subst e3_; subst e5_; subst hM44_; simp [up] at *; try omega
set_option maxHeartbeats 4000000 in
set_option maxRecDepth 100000 in
theorem c_X4_next (l : Launch) (G : va_G) (cy : Nat → ClassId) (ad : rf → Nat) (d : Nat) (Mz : mM) (hIz : Inv Mz) (hT : Mz.1 (4, 0, 0) 1 = 1) : WP CC l G cy ad yX4_next cX4_next 1 (some .int) (d + 1) 0 [(0, vR (4, 0, 0))] [] Mz (fun r M' => Inv M' ∧ FR (S_c_X4_next) Mz M' ∧ (True) ∧ SP_X4_next Mz r M') := by
  have hFz : FR (S_c_X4_next) Mz Mz := FR.self
  have lp1_ : ∀ (nn_0 : Nat) (M_0 : mM) (hI_0 : Inv M_0) (hF_0 : FR (S_c_X4_next) Mz M_0) (kv0_0 : M_0.1 (4, 0, 0) 1 = 1) (hL_0 : RCH (fun x_ y_ => ST_X4_next_0 Mz x_ y_) Mz M_0), ((M_0.1 (5, 0, 0) 1).toInt - (M_0.1 (4, 0, 0) 3).toInt).toNat < nn_0 → WP CC l G cy ad yX4_next cX4_next 1 (some .int) (d + 1) 0 [(0, vR (4, 0, 0))] [] M_0 (fun r M' => Inv M' ∧ FR (S_c_X4_next) Mz M' ∧ (True) ∧ SP_X4_next Mz r M') := by
    intro nn_0
    induction nn_0 with
    | zero => intro M_0 hI_0 hF_0 kv0_0 hL_0 hm_0; exact absurd hm_0 (Nat.not_lt_zero _)
    | succ nn_0 ih_0 =>
      intro M_0 hI_0 hF_0 kv0_0 hL_0 hm_0
      refine w_aload_n dX4_next_0 rfl 0 rfl ?_
      refine w_getI fl_RX4_31 rfl rfl ic_4 dX4_next_1 (fun z2_ e3_ => ?_)
      refine w_aload_n dX4_next_4 rfl 0 rfl ?_
      refine w_getR (c' := (5, 0, 0)) fl_RX4_21 rfl rfl ic_4 dX4_next_5 (by rw [kv0_0]; rfl) ?_
      refine w_getI fl_RX4_65 rfl rfl (ic_5 (by unfold vRw; omega)) dX4_next_8 (fun z4_ e5_ => ?_)
      refine w_icmp_ge (tgt := 43) dX4_next_11 (by decide) (rfl : z2_.toInt = z2_.toInt) (rfl : z4_.toInt = z4_.toInt) (fun h6_ => ?_) (fun h6_ => ?_)
      · refine w_aload_n dX4_next_43 rfl 0 rfl ?_
        refine w_getI fl_RX4_31 rfl rfl ic_4 dX4_next_44 (fun z7_ e8_ => ?_)
        obtain rfl : z2_ = z7_ := e3_.trans e8_.symm
        refine w_aload_n dX4_next_47 rfl 0 rfl ?_
        refine w_getR (c' := (5, 0, 0)) fl_RX4_21 rfl rfl ic_4 dX4_next_48 (by rw [kv0_0]; rfl) ?_
        refine w_getI fl_RX4_65 rfl rfl (ic_5 (by unfold vRw; omega)) dX4_next_51 (fun z9_ e10_ => ?_)
        obtain rfl : z4_ = z9_ := e5_.trans e10_.symm
        refine w_icmp_ge (tgt := 71) dX4_next_54 (by decide) (rfl : z2_.toInt = z2_.toInt) (rfl : z4_.toInt = z4_.toInt) (fun h11_ => ?_) (fun h11_ => ?_)
        · refine w_iconst (v := (-1)) dX4_next_71 (by decide) ?_
          exact w_iret rfl dX4_next_72 ⟨hI_0, hF_0, trivial, ⟨M_0, hL_0, hI_0, hF_0, z2_, e3_, z4_, e5_, (Or.inl ⟨h6_, (Or.inl ⟨h11_, rfl, rfl⟩)⟩)⟩⟩
        · refine w_aload_n dX4_next_57 rfl 0 rfl ?_
          refine w_getR (c' := (5, 0, 0)) fl_RX4_21 rfl rfl ic_4 dX4_next_58 (by rw [kv0_0]; rfl) ?_
          refine w_aload_n dX4_next_61 rfl 0 rfl ?_
          refine w_getI fl_RX4_31 rfl rfl ic_4 dX4_next_62 (fun z12_ e13_ => ?_)
          obtain rfl : z2_ = z12_ := e3_.trans e13_.symm
          refine w_callV (as := [vI z2_]) (rest := []) (c_X5_get l G cy ad d 0 0 z2_ M_0 hI_0 (by first | decide | (unfold vF; omega) | (unfold vRw; omega))) kV_X5_get (by decide +kernel) (Nat.le_of_ble_eq_true rfl) m_712 rfl rfl rfl (ic_5 (by unfold vRw; omega)) rfl rfl (by decide) (Nat.le_of_ble_eq_true rfl) dX4_next_65 (fun r14_ M15_ q16_ => ?_)
          obtain ⟨rfl, h17_, hs18_⟩ := q16_
          refine w_goto (tgt := 72) dX4_next_68 (by decide) ?_
          exact w_iret rfl dX4_next_72 ⟨hI_0, hF_0, trivial, ⟨M_0, hL_0, hI_0, hF_0, z2_, e3_, z4_, e5_, (Or.inl ⟨h6_, (Or.inr ⟨h11_, r14_, hs18_, rfl, rfl⟩)⟩)⟩⟩
      · refine w_aload_n dX4_next_14 rfl 0 rfl ?_
        refine w_getR (c' := (5, 0, 0)) fl_RX4_21 rfl rfl ic_4 dX4_next_15 (by rw [kv0_0]; rfl) ?_
        refine w_aload_n dX4_next_18 rfl 0 rfl ?_
        refine w_getI fl_RX4_31 rfl rfl ic_4 dX4_next_19 (fun z19_ e20_ => ?_)
        obtain rfl : z2_ = z19_ := e3_.trans e20_.symm
        refine w_callV (as := [vI z2_]) (rest := []) (c_X5_get l G cy ad d 0 0 z2_ M_0 hI_0 (by first | decide | (unfold vF; omega) | (unfold vRw; omega))) kV_X5_get (by decide +kernel) (Nat.le_of_ble_eq_true rfl) m_712 rfl rfl rfl (ic_5 (by unfold vRw; omega)) rfl rfl (by decide) (Nat.le_of_ble_eq_true rfl) dX4_next_22 (fun r21_ M22_ q23_ => ?_)
        obtain ⟨rfl, h24_, hs25_⟩ := q23_
        refine w_bipush (v := 32) dX4_next_25 (by decide) ?_
        refine w_icmp_ne (tgt := 43) dX4_next_27 (by decide) (rfl : r21_.toInt = r21_.toInt) li_32 (fun h26_ => ?_) (fun h26_ => ?_)
        · refine w_aload_n dX4_next_43 rfl 0 rfl ?_
          refine w_getI fl_RX4_31 rfl rfl ic_4 dX4_next_44 (fun z27_ e28_ => ?_)
          obtain rfl : z2_ = z27_ := e3_.trans e28_.symm
          refine w_aload_n dX4_next_47 rfl 0 rfl ?_
          refine w_getR (c' := (5, 0, 0)) fl_RX4_21 rfl rfl ic_4 dX4_next_48 (by rw [kv0_0]; rfl) ?_
          refine w_getI fl_RX4_65 rfl rfl (ic_5 (by unfold vRw; omega)) dX4_next_51 (fun z29_ e30_ => ?_)
          obtain rfl : z4_ = z29_ := e5_.trans e30_.symm
          refine w_icmp_ge (tgt := 71) dX4_next_54 (by decide) (rfl : z2_.toInt = z2_.toInt) (rfl : z4_.toInt = z4_.toInt) (fun h31_ => ?_) (fun h31_ => ?_)
          · refine w_iconst (v := (-1)) dX4_next_71 (by decide) ?_
            exact w_iret rfl dX4_next_72 ⟨hI_0, hF_0, trivial, ⟨M_0, hL_0, hI_0, hF_0, z2_, e3_, z4_, e5_, (Or.inr ⟨h6_, r21_, hs25_, h26_, (Or.inl ⟨h31_, rfl, rfl⟩)⟩)⟩⟩
          · refine w_aload_n dX4_next_57 rfl 0 rfl ?_
            refine w_getR (c' := (5, 0, 0)) fl_RX4_21 rfl rfl ic_4 dX4_next_58 (by rw [kv0_0]; rfl) ?_
            refine w_aload_n dX4_next_61 rfl 0 rfl ?_
            refine w_getI fl_RX4_31 rfl rfl ic_4 dX4_next_62 (fun z32_ e33_ => ?_)
            obtain rfl : z2_ = z32_ := e3_.trans e33_.symm
            refine w_callV (as := [vI z2_]) (rest := []) (c_X5_get l G cy ad d 0 0 z2_ M_0 hI_0 (by first | decide | (unfold vF; omega) | (unfold vRw; omega))) kV_X5_get (by decide +kernel) (Nat.le_of_ble_eq_true rfl) m_712 rfl rfl rfl (ic_5 (by unfold vRw; omega)) rfl rfl (by decide) (Nat.le_of_ble_eq_true rfl) dX4_next_65 (fun r34_ M35_ q36_ => ?_)
            obtain ⟨rfl, h37_, hs38_⟩ := q36_
            refine w_goto (tgt := 72) dX4_next_68 (by decide) ?_
            exact w_iret rfl dX4_next_72 ⟨hI_0, hF_0, trivial, ⟨M_0, hL_0, hI_0, hF_0, z2_, e3_, z4_, e5_, (Or.inr ⟨h6_, r21_, hs25_, h26_, (Or.inr ⟨h31_, r34_, hs38_, rfl, rfl⟩)⟩)⟩⟩
        · refine w_aload_n dX4_next_30 rfl 0 rfl ?_
          refine w_dup dX4_next_31 rfl ?_
          refine w_getI fl_RX4_31 rfl rfl ic_4 dX4_next_32 (fun z39_ e40_ => ?_)
          obtain rfl : z2_ = z39_ := e3_.trans e40_.symm
          refine w_iconst (v := 1) dX4_next_35 (by decide) ?_
          refine w_iaddB dX4_next_36 (rfl : z2_.toInt = z2_.toInt) li_1 (lf_c_X4_next_0 M_0 z2_ z4_ e3_ e5_ h6_) (fun z41_ h42_ => ?_)
          refine w_putI CC_nd fl_RX4_31 rfl rfl ic_4 dX4_next_37 (fun M43_ hM44_ => ?_)
          have hI45_ := hI_0.put hM44_ trivial
          have hF46_ := hF_0.put hM44_ (Or.inl ⟨rfl, rfl, rfl⟩)
          have kf47_ : M43_.1 (4, 0, 0) 1 = 1 := by rw [(show M43_.1 (4, 0, 0) 1 = M_0.1 (4, 0, 0) 1 by rw [hM44_, up_ne (by simp)])]; exact kv0_0
          refine w_goto (tgt := 0) dX4_next_40 (by decide) ?_
          refine w_loc (ls' := [(0, vR (4, 0, 0))]) [0] rfl ?_
          exact ih_0 M43_ hI45_ hF46_ kf47_ (RCH.tail hL_0 ⟨hI_0, hF_0, z2_, e3_, z4_, e5_, h6_, r21_, hs25_, h26_, z41_, h42_, M43_, hM44_, rfl⟩) (Nat.lt_of_lt_of_le (lf_c_X4_next_1 M43_ M_0 z2_ z4_ z41_ kv0_0 e3_ e5_ h6_ h42_ hM44_ kf47_) (Nat.le_of_lt_succ hm_0))
  exact lp1_ _ Mz hIz hFz hT RCH.refl (Nat.lt_succ_self _)
def S_c_X4_fail : rf → Nat → Prop := fun c k => (c.1 = 4 ∧ c.2.1 = 0 ∧ k = 4) ∨ False
def SP_X4_fail (Mz : mM) (M_ : mM) : Prop := ∃ z1_ : Int32, (z1_ = Mz.1 (4, 0, 0) 4) ∧ (((0 ≤ z1_.toInt) ∧ M_ = Mz) ∨ ((z1_.toInt < 0) ∧ ∃ z4_ : Int32, (z4_ = Mz.1 (4, 0, 0) 3) ∧ ∃ M6_ : mM, (M6_ = up Mz (4, 0, 0) 4 z4_) ∧ M_ = M6_))
set_option maxHeartbeats 4000000 in
set_option maxRecDepth 100000 in
theorem c_X4_fail (l : Launch) (G : va_G) (cy : Nat → ClassId) (ad : rf → Nat) (d : Nat) (Mz : mM) (hIz : Inv Mz) : WP CC l G cy ad yX4_fail cX4_fail 1 none d 0 [(0, vR (4, 0, 0))] [] Mz (fun r M' => Inv M' ∧ FR (S_c_X4_fail) Mz M' ∧ (True) ∧ SP_X4_fail Mz M') := by
  have hFz : FR (S_c_X4_fail) Mz Mz := FR.self
  refine w_aload_n dX4_fail_0 rfl 0 rfl ?_
  refine w_getI fl_RX4_35 rfl rfl ic_4 dX4_fail_1 (fun z1_ e2_ => ?_)
  refine w_if_ge (tgt := 15) dX4_fail_4 (by decide) (rfl : z1_.toInt = z1_.toInt) (fun h3_ => ?_) (fun h3_ => ?_)
  · exact w_vret rfl dX4_fail_15 ⟨hIz, hFz, trivial, ⟨z1_, e2_, (Or.inl ⟨h3_, rfl⟩)⟩⟩
  · refine w_aload_n dX4_fail_7 rfl 0 rfl ?_
    refine w_aload_n dX4_fail_8 rfl 0 rfl ?_
    refine w_getI fl_RX4_31 rfl rfl ic_4 dX4_fail_9 (fun z4_ e5_ => ?_)
    refine w_putI CC_nd fl_RX4_35 rfl rfl ic_4 dX4_fail_12 (fun M6_ hM7_ => ?_)
    have hI8_ := hIz.put hM7_ trivial
    have hF9_ := hFz.put hM7_ (Or.inl ⟨rfl, rfl, rfl⟩)
    exact w_vret rfl dX4_fail_15 ⟨hI8_, hF9_, trivial, ⟨z1_, e2_, (Or.inr ⟨h3_, z4_, e5_, M6_, hM7_, rfl⟩)⟩⟩
def S_c_X4_expect : rf → Nat → Prop := fun c k => (c.1 = 4 ∧ c.2.1 = 0 ∧ k = 3) ∨ (c.1 = 4 ∧ c.2.1 = 0 ∧ k = 4) ∨ False
def SP_X4_expect (v : Int32) (Mz : mM) (M_ : mM) : Prop := ∃ M2_ : mM, (Inv M2_) ∧ (FR (S_c_X4_next) Mz M2_) ∧ ∃ r1_ : Int32, (SP_X4_next Mz r1_ M2_) ∧ (((r1_.toInt = v.toInt) ∧ ∃ z11_ : Int32, (z11_ = M2_.1 (4, 0, 0) 3) ∧ ∃ z13_ : Int32, (z13_ = z11_ + (1 : Int32)) ∧ ∃ M15_ : mM, (M15_ = up M2_ (4, 0, 0) 3 z13_) ∧ M_ = M15_) ∨ ((¬ r1_.toInt = v.toInt) ∧ ∃ M20_ : mM, (Inv M20_) ∧ (FR (S_c_X4_fail) M2_ M20_) ∧ (SP_X4_fail M2_ M20_) ∧ M_ = M20_))
set_option maxHeartbeats 4000000 in
set_option maxRecDepth 100000 in
theorem c_X4_expect (l : Launch) (G : va_G) (cy : Nat → ClassId) (ad : rf → Nat) (d : Nat) (v : Int32) (Mz : mM) (hIz : Inv Mz) (hT : Mz.1 (4, 0, 0) 1 = 1) : WP CC l G cy ad yX4_expect cX4_expect 2 none (d + 2) 0 [(0, vR (4, 0, 0)), (1, vI v)] [] Mz (fun r M' => Inv M' ∧ FR (S_c_X4_expect) Mz M' ∧ (True) ∧ SP_X4_expect v Mz M') := by
  have hFz : FR (S_c_X4_expect) Mz Mz := FR.self
  refine w_aload_n dX4_expect_0 rfl 0 rfl ?_
  refine w_callV (as := []) (rest := []) (c_X4_next l G cy ad d Mz hIz hT) kV_X4_next (by decide +kernel) (Nat.le_of_ble_eq_true rfl) m_708 rfl rfl rfl ic_4 rfl rfl (by decide) (Nat.le_of_ble_eq_true rfl) dX4_expect_1 (fun r1_ M2_ q3_ => ?_)
  obtain ⟨hI5_, hF6_, h4_, hs8_⟩ := q3_
  have hF7_ := hFz.tr hF6_ (fun c k => (fun h => h.elim (fun h => (Or.inl ⟨h.1, h.2.1, h.2.2⟩)) (fun h => h.elim)))
  have kf9_ : M2_.1 (4, 0, 0) 1 = 1 := by rw [(hF6_ (4, 0, 0) 1 (by simp [S_c_X4_next]))]; exact hT
  refine w_iload_n dX4_expect_4 rfl 1 rfl ?_
  refine w_icmp_eq (tgt := 15) dX4_expect_5 (by decide) (rfl : r1_.toInt = r1_.toInt) (rfl : v.toInt = v.toInt) (fun h10_ => ?_) (fun h10_ => ?_)
  · refine w_aload_n dX4_expect_15 rfl 0 rfl ?_
    refine w_dup dX4_expect_16 rfl ?_
    refine w_getI fl_RX4_31 rfl rfl ic_4 dX4_expect_17 (fun z11_ e12_ => ?_)
    refine w_iconst (v := 1) dX4_expect_20 (by decide) ?_
    refine w_iadd dX4_expect_21 (fun z13_ h14_ => ?_)
    refine w_putI CC_nd fl_RX4_31 rfl rfl ic_4 dX4_expect_22 (fun M15_ hM16_ => ?_)
    have hI17_ := hI5_.put hM16_ trivial
    have hF18_ := hF7_.put hM16_ (Or.inl ⟨rfl, rfl, rfl⟩)
    have kf19_ : M15_.1 (4, 0, 0) 1 = 1 := by rw [(show M15_.1 (4, 0, 0) 1 = M2_.1 (4, 0, 0) 1 by rw [hM16_, up_ne (by simp)])]; exact kf9_
    exact w_vret rfl dX4_expect_25 ⟨hI17_, hF18_, trivial, ⟨M2_, hI5_, hF6_, r1_, hs8_, (Or.inl ⟨h10_, z11_, e12_, z13_, h14_, M15_, hM16_, rfl⟩)⟩⟩
  · refine w_aload_n dX4_expect_8 rfl 0 rfl ?_
    refine w_callVv (as := []) (rest := []) (c_X4_fail l G cy ad (d + 1) M2_ hI5_) kV_X4_fail (by decide +kernel) (Nat.le_of_ble_eq_true rfl) m_728 rfl rfl rfl ic_4 rfl rfl (by decide) (Nat.le_of_ble_eq_true rfl) dX4_expect_9 (fun M20_ q21_ => ?_)
    obtain ⟨hI23_, hF24_, h22_, hs26_⟩ := q21_
    have hF25_ := hF7_.tr hF24_ (fun c k => (fun h => h.elim (fun h => (Or.inr (Or.inl ⟨h.1, h.2.1, h.2.2⟩))) (fun h => h.elim)))
    have kf27_ : M20_.1 (4, 0, 0) 1 = 1 := by rw [(hF24_ (4, 0, 0) 1 (by simp [S_c_X4_fail]))]; exact kf9_
    refine w_goto (tgt := 25) dX4_expect_12 (by decide) ?_
    exact w_vret rfl dX4_expect_25 ⟨hI23_, hF25_, trivial, ⟨M2_, hI5_, hF6_, r1_, hs8_, (Or.inr ⟨h10_, M20_, hI23_, hF24_, hs26_, rfl⟩)⟩⟩
def S_c_X4_readNumber : rf → Nat → Prop := fun c k => (c.1 = 24 ∧ c.2.1 = 3 ∧ c.2.2 = 0) ∨ (c.1 = 1 ∧ c.2.1 = 3 ∧ c.2.2 = 0 ∧ k = 2) ∨ (c.1 = 4 ∧ c.2.1 = 0 ∧ k = 6) ∨ (c.1 = 4 ∧ c.2.1 = 0 ∧ k = 3) ∨ False
def ST_X4_readNumber_4 (Mz : mM) (v2_4 : Int32) (v1_4 : Int32) (M_4 : mM) (v2_4y : Int32) (v1_4y : Int32) (M_4y : mM) : Prop := (0 ≤ v2_4.toInt) ∧ (v2_4.toInt ≤ 3) ∧ (Inv M_4) ∧ (FR (S_c_X4_readNumber) Mz M_4) ∧ (v2_4.toInt < 3) ∧ ∃ z20_ : Int32, (z20_ = M_4.1 (4, 0, 0) 3) ∧ ∃ z22_ : Int32, (z22_ = M_4.1 (5, 0, 0) 1) ∧ (z20_.toInt < z22_.toInt) ∧ ∃ r45_ : Int32, (SP_X5_get 0 0 z20_ M_4 r45_) ∧ ∃ z50_ : Int32, (z50_ = r45_ - (48 : Int32)) ∧ (0 ≤ z50_.toInt) ∧ (z50_.toInt ≤ 9) ∧ ∃ z71_ : Int32, (z71_ = (10 : Int32) * v1_4) ∧ ∃ z73_ : Int32, (z73_ = z71_ + z50_) ∧ ∃ z77_ : Int32, (z77_.toInt = z20_.toInt + 1) ∧ ∃ M79_ : mM, (M79_ = up M_4 (4, 0, 0) 3 z77_) ∧ ∃ z84_ : Int32, (z84_.toInt = v2_4.toInt + 1) ∧ v2_4y = z84_ ∧ v1_4y = z73_ ∧ M_4y = M79_
def SP_X4_readNumber (Mz : mM) (M_ : mM) : Prop := ∃ v2_4 : Int32, (0 ≤ v2_4.toInt) ∧ (v2_4.toInt ≤ 3) ∧ ∃ v1_4 : Int32, ∃ M_4 : mM, (RCH (fun x_ y_ => ST_X4_readNumber_4 Mz x_.1 x_.2.1 x_.2.2 y_.1 y_.2.1 y_.2.2) ((0 : Int32), (0 : Int32), Mz) (v2_4, v1_4, M_4)) ∧ (Inv M_4) ∧ (FR (S_c_X4_readNumber) Mz M_4) ∧ (((3 ≤ v2_4.toInt) ∧ ∃ M3_ : mM, (Inv M3_) ∧ (FR (S_c_X1_add 3 0) M_4 M3_) ∧ (SP_X1_add 3 0 v1_4 M_4 M3_) ∧ ∃ z11_ : Int32, (z11_ = M3_.1 (4, 0, 0) 6) ∧ ∃ z13_ : Int32, (z13_ = z11_ + (1 : Int32)) ∧ ∃ M15_ : mM, (M15_ = up M3_ (4, 0, 0) 6 z13_) ∧ M_ = M15_) ∨ ((v2_4.toInt < 3) ∧ ∃ z20_ : Int32, (z20_ = M_4.1 (4, 0, 0) 3) ∧ ∃ z22_ : Int32, (z22_ = M_4.1 (5, 0, 0) 1) ∧ (((z22_.toInt ≤ z20_.toInt) ∧ ∃ M26_ : mM, (Inv M26_) ∧ (FR (S_c_X1_add 3 0) M_4 M26_) ∧ (SP_X1_add 3 0 v1_4 M_4 M26_) ∧ ∃ z34_ : Int32, (z34_ = M26_.1 (4, 0, 0) 6) ∧ ∃ z36_ : Int32, (z36_ = z34_ + (1 : Int32)) ∧ ∃ M38_ : mM, (M38_ = up M26_ (4, 0, 0) 6 z36_) ∧ M_ = M38_) ∨ ((z20_.toInt < z22_.toInt) ∧ ∃ r45_ : Int32, (SP_X5_get 0 0 z20_ M_4 r45_) ∧ ∃ z50_ : Int32, (z50_ = r45_ - (48 : Int32)) ∧ (((z50_.toInt < 0) ∧ ∃ M53_ : mM, (Inv M53_) ∧ (FR (S_c_X1_add 3 0) M_4 M53_) ∧ (SP_X1_add 3 0 v1_4 M_4 M53_) ∧ ∃ z61_ : Int32, (z61_ = M53_.1 (4, 0, 0) 6) ∧ ∃ z63_ : Int32, (z63_ = z61_ + (1 : Int32)) ∧ ∃ M65_ : mM, (M65_ = up M53_ (4, 0, 0) 6 z63_) ∧ M_ = M65_) ∨ ((0 ≤ z50_.toInt) ∧ (9 < z50_.toInt) ∧ ∃ M86_ : mM, (Inv M86_) ∧ (FR (S_c_X1_add 3 0) M_4 M86_) ∧ (SP_X1_add 3 0 v1_4 M_4 M86_) ∧ ∃ z94_ : Int32, (z94_ = M86_.1 (4, 0, 0) 6) ∧ ∃ z96_ : Int32, (z96_ = z94_ + (1 : Int32)) ∧ ∃ M98_ : mM, (M98_ = up M86_ (4, 0, 0) 6 z96_) ∧ M_ = M98_))))))
theorem lf_c_X4_readNumber_0 (M_4 : mM) (z20_ : Int32) (z22_ : Int32) (e21_ : z20_ = M_4.1 (4, 0, 0) 3) (e23_ : z22_ = M_4.1 (5, 0, 0) 1) (h24_ : z20_.toInt < z22_.toInt) : -2147483648 ≤ z20_.toInt + 1 ∧ z20_.toInt + 1 < 2147483648 := by have r_z20_ := rngI z20_; have r_z22_ := rngI z22_; subst e21_; subst e23_; omega
theorem lf_c_X4_readNumber_1  (v2_4 : Int32) (hv0_4 : 0 ≤ v2_4.toInt) (hv1_4 : v2_4.toInt ≤ 3) (h2_ : v2_4.toInt < 3) : -2147483648 ≤ v2_4.toInt + 1 ∧ v2_4.toInt + 1 < 2147483648 := by have r_v2_4 := rngI v2_4; omega
theorem lf_c_X4_readNumber_2  (v2_4 : Int32) (z84_ : Int32) (hv0_4 : 0 ≤ v2_4.toInt) (hv1_4 : v2_4.toInt ≤ 3) (h2_ : v2_4.toInt < 3) (h85_ : z84_.toInt = v2_4.toInt + 1) : 0 ≤ z84_.toInt := by have r_v2_4 := rngI v2_4; have r_z84_ := rngI z84_; omega
theorem lf_c_X4_readNumber_3  (v2_4 : Int32) (z84_ : Int32) (hv0_4 : 0 ≤ v2_4.toInt) (hv1_4 : v2_4.toInt ≤ 3) (h2_ : v2_4.toInt < 3) (h85_ : z84_.toInt = v2_4.toInt + 1) : z84_.toInt ≤ 3 := by have r_v2_4 := rngI v2_4; have r_z84_ := rngI z84_; omega
theorem lf_c_X4_readNumber_4  (v2_4 : Int32) (z84_ : Int32) (hv0_4 : 0 ≤ v2_4.toInt) (hv1_4 : v2_4.toInt ≤ 3) (h2_ : v2_4.toInt < 3) (h85_ : z84_.toInt = v2_4.toInt + 1) : (2147483648 - z84_.toInt).toNat < (2147483648 - v2_4.toInt).toNat := by have r_v2_4 := rngI v2_4; have r_z84_ := rngI z84_; omega
theorem lf_c_X4_readNumber_5    : 0 ≤ (0 : Int32).toInt := by have q0 := li_0; omega
theorem lf_c_X4_readNumber_6    : (0 : Int32).toInt ≤ 3 := by have q0 := li_0; omega
set_option maxHeartbeats 4000000 in
set_option maxRecDepth 100000 in
theorem c_X4_readNumber (l : Launch) (G : va_G) (cy : Nat → ClassId) (ad : rf → Nat) (d : Nat) (Mz : mM) (hIz : Inv Mz) (hT : Mz.1 (4, 0, 0) 1 = 1) : WP CC l G cy ad yX4_readNumber cX4_readNumber 4 none (d + 1) 0 [(0, vR (4, 0, 0))] [] Mz (fun r M' => Inv M' ∧ FR (S_c_X4_readNumber) Mz M' ∧ (True) ∧ SP_X4_readNumber Mz M') := by
  have hFz : FR (S_c_X4_readNumber) Mz Mz := FR.self
  refine w_iconst (v := 0) dX4_readNumber_0 (by decide) ?_
  refine w_istore_n (ls' := [(1, vI 0), (0, vR (4, 0, 0))]) dX4_readNumber_1 rfl (by decide) rfl ?_
  refine w_iconst (v := 0) dX4_readNumber_2 (by decide) ?_
  refine w_istore_n (ls' := [(2, vI 0), (1, vI 0), (0, vR (4, 0, 0))]) dX4_readNumber_3 rfl (by decide) rfl ?_
  have lp1_ : ∀ (nn_4 : Nat) (M_4 : mM) (hI_4 : Inv M_4) (hF_4 : FR (S_c_X4_readNumber) Mz M_4) (v2_4 : Int32) (v1_4 : Int32) (hv0_4 : 0 ≤ v2_4.toInt) (hv1_4 : v2_4.toInt ≤ 3) (kv0_4 : M_4.1 (4, 0, 0) 1 = 1) (hL_4 : RCH (fun x_ y_ => ST_X4_readNumber_4 Mz x_.1 x_.2.1 x_.2.2 y_.1 y_.2.1 y_.2.2) ((0 : Int32), (0 : Int32), Mz) (v2_4, v1_4, M_4)), (2147483648 - v2_4.toInt).toNat < nn_4 → WP CC l G cy ad yX4_readNumber cX4_readNumber 4 none (d + 1) 4 [(2, vI v2_4), (1, vI v1_4), (0, vR (4, 0, 0))] [] M_4 (fun r M' => Inv M' ∧ FR (S_c_X4_readNumber) Mz M' ∧ (True) ∧ SP_X4_readNumber Mz M') := by
    intro nn_4
    induction nn_4 with
    | zero => intro M_4 hI_4 hF_4 v2_4 v1_4 hv0_4 hv1_4 kv0_4 hL_4 hm_4; exact absurd hm_4 (Nat.not_lt_zero _)
    | succ nn_4 ih_4 =>
      intro M_4 hI_4 hF_4 v2_4 v1_4 hv0_4 hv1_4 kv0_4 hL_4 hm_4
      refine w_iload_n dX4_readNumber_4 rfl 0 rfl ?_
      refine w_iconst (v := 3) dX4_readNumber_5 (by decide) ?_
      refine w_icmp_ge (tgt := 78) dX4_readNumber_6 (by decide) (rfl : v2_4.toInt = v2_4.toInt) li_3 (fun h2_ => ?_) (fun h2_ => ?_)
      · refine w_aload_n dX4_readNumber_78 rfl 2 rfl ?_
        refine w_getR (c' := (1, 3, 0)) fl_RX4_10 rfl rfl ic_4 dX4_readNumber_79 rfl ?_
        refine w_iload_n dX4_readNumber_82 rfl 1 rfl ?_
        refine w_callVv (as := [vI v1_4]) (rest := []) (c_X1_add l G cy ad d 3 0 v1_4 M_4 hI_4 (by first | decide | (unfold vF; omega) | (unfold vRw; omega))) kV_X1_add (by decide +kernel) (Nat.le_of_ble_eq_true rfl) m_720 rfl rfl rfl (ic_1 (by unfold vF; omega)) rfl rfl (by decide) (Nat.le_of_ble_eq_true rfl) dX4_readNumber_83 (fun M3_ q4_ => ?_)
        obtain ⟨hI6_, hF7_, h5_, hs9_⟩ := q4_
        have hF8_ := hF_4.tr hF7_ (fun c k => (fun h => h.elim (fun h => (Or.inl ⟨h.1, h.2.1, h.2.2⟩)) (fun h => h.elim (fun h => (Or.inr (Or.inl ⟨h.1, h.2.1, h.2.2.1, h.2.2.2⟩))) (fun h => h.elim))))
        have kf10_ : M3_.1 (4, 0, 0) 1 = 1 := by rw [(hF7_ (4, 0, 0) 1 (by simp [S_c_X1_add]))]; exact kv0_4
        refine w_aload_n dX4_readNumber_86 rfl 2 rfl ?_
        refine w_dup dX4_readNumber_87 rfl ?_
        refine w_getI fl_RX4_41 rfl rfl ic_4 dX4_readNumber_88 (fun z11_ e12_ => ?_)
        refine w_iconst (v := 1) dX4_readNumber_91 (by decide) ?_
        refine w_iadd dX4_readNumber_92 (fun z13_ h14_ => ?_)
        refine w_putI CC_nd fl_RX4_41 rfl rfl ic_4 dX4_readNumber_93 (fun M15_ hM16_ => ?_)
        have hI17_ := hI6_.put hM16_ trivial
        have hF18_ := hF8_.put hM16_ (Or.inr (Or.inr (Or.inl ⟨rfl, rfl, rfl⟩)))
        have kf19_ : M15_.1 (4, 0, 0) 1 = 1 := by rw [(show M15_.1 (4, 0, 0) 1 = M3_.1 (4, 0, 0) 1 by rw [hM16_, up_ne (by simp)])]; exact kf10_
        exact w_vret rfl dX4_readNumber_96 ⟨hI17_, hF18_, trivial, ⟨v2_4, hv0_4, hv1_4, v1_4, M_4, hL_4, hI_4, hF_4, (Or.inl ⟨h2_, M3_, hI6_, hF7_, hs9_, z11_, e12_, z13_, h14_, M15_, hM16_, rfl⟩)⟩⟩
      · refine w_aload_n dX4_readNumber_9 rfl 2 rfl ?_
        refine w_getI fl_RX4_31 rfl rfl ic_4 dX4_readNumber_10 (fun z20_ e21_ => ?_)
        refine w_aload_n dX4_readNumber_13 rfl 2 rfl ?_
        refine w_getR (c' := (5, 0, 0)) fl_RX4_21 rfl rfl ic_4 dX4_readNumber_14 (by rw [kv0_4]; rfl) ?_
        refine w_getI fl_RX4_65 rfl rfl (ic_5 (by unfold vRw; omega)) dX4_readNumber_17 (fun z22_ e23_ => ?_)
        refine w_icmp_ge (tgt := 40) dX4_readNumber_20 (by decide) (rfl : z20_.toInt = z20_.toInt) (rfl : z22_.toInt = z22_.toInt) (fun h24_ => ?_) (fun h24_ => ?_)
        · refine w_iconst (v := (-1)) dX4_readNumber_40 (by decide) ?_
          refine w_istore_n (ls' := [(3, vI (-1)), (2, vI v2_4), (1, vI v1_4), (0, vR (4, 0, 0))]) dX4_readNumber_41 rfl (by decide) rfl ?_
          refine w_iload_n dX4_readNumber_42 rfl 0 rfl ?_
          refine w_if_lt (tgt := 78) dX4_readNumber_43 (by decide) li_m1 (fun h25_ => ?_) (fun h9 => (absurd h9 (by decide)))
          refine w_aload_n dX4_readNumber_78 rfl 3 rfl ?_
          refine w_getR (c' := (1, 3, 0)) fl_RX4_10 rfl rfl ic_4 dX4_readNumber_79 rfl ?_
          refine w_iload_n dX4_readNumber_82 rfl 2 rfl ?_
          refine w_callVv (as := [vI v1_4]) (rest := []) (c_X1_add l G cy ad d 3 0 v1_4 M_4 hI_4 (by first | decide | (unfold vF; omega) | (unfold vRw; omega))) kV_X1_add (by decide +kernel) (Nat.le_of_ble_eq_true rfl) m_720 rfl rfl rfl (ic_1 (by unfold vF; omega)) rfl rfl (by decide) (Nat.le_of_ble_eq_true rfl) dX4_readNumber_83 (fun M26_ q27_ => ?_)
          obtain ⟨hI29_, hF30_, h28_, hs32_⟩ := q27_
          have hF31_ := hF_4.tr hF30_ (fun c k => (fun h => h.elim (fun h => (Or.inl ⟨h.1, h.2.1, h.2.2⟩)) (fun h => h.elim (fun h => (Or.inr (Or.inl ⟨h.1, h.2.1, h.2.2.1, h.2.2.2⟩))) (fun h => h.elim))))
          have kf33_ : M26_.1 (4, 0, 0) 1 = 1 := by rw [(hF30_ (4, 0, 0) 1 (by simp [S_c_X1_add]))]; exact kv0_4
          refine w_aload_n dX4_readNumber_86 rfl 3 rfl ?_
          refine w_dup dX4_readNumber_87 rfl ?_
          refine w_getI fl_RX4_41 rfl rfl ic_4 dX4_readNumber_88 (fun z34_ e35_ => ?_)
          refine w_iconst (v := 1) dX4_readNumber_91 (by decide) ?_
          refine w_iadd dX4_readNumber_92 (fun z36_ h37_ => ?_)
          refine w_putI CC_nd fl_RX4_41 rfl rfl ic_4 dX4_readNumber_93 (fun M38_ hM39_ => ?_)
          have hI40_ := hI29_.put hM39_ trivial
          have hF41_ := hF31_.put hM39_ (Or.inr (Or.inr (Or.inl ⟨rfl, rfl, rfl⟩)))
          have kf42_ : M38_.1 (4, 0, 0) 1 = 1 := by rw [(show M38_.1 (4, 0, 0) 1 = M26_.1 (4, 0, 0) 1 by rw [hM39_, up_ne (by simp)])]; exact kf33_
          exact w_vret rfl dX4_readNumber_96 ⟨hI40_, hF41_, trivial, ⟨v2_4, hv0_4, hv1_4, v1_4, M_4, hL_4, hI_4, hF_4, (Or.inr ⟨h2_, z20_, e21_, z22_, e23_, (Or.inl ⟨h24_, M26_, hI29_, hF30_, hs32_, z34_, e35_, z36_, h37_, M38_, hM39_, rfl⟩)⟩)⟩⟩
        · refine w_aload_n dX4_readNumber_23 rfl 2 rfl ?_
          refine w_getR (c' := (5, 0, 0)) fl_RX4_21 rfl rfl ic_4 dX4_readNumber_24 (by rw [kv0_4]; rfl) ?_
          refine w_aload_n dX4_readNumber_27 rfl 2 rfl ?_
          refine w_getI fl_RX4_31 rfl rfl ic_4 dX4_readNumber_28 (fun z43_ e44_ => ?_)
          obtain rfl : z20_ = z43_ := e21_.trans e44_.symm
          refine w_callV (as := [vI z20_]) (rest := []) (c_X5_get l G cy ad d 0 0 z20_ M_4 hI_4 (by first | decide | (unfold vF; omega) | (unfold vRw; omega))) kV_X5_get (by decide +kernel) (Nat.le_of_ble_eq_true rfl) m_712 rfl rfl rfl (ic_5 (by unfold vRw; omega)) rfl rfl (by decide) (Nat.le_of_ble_eq_true rfl) dX4_readNumber_31 (fun r45_ M46_ q47_ => ?_)
          obtain ⟨rfl, h48_, hs49_⟩ := q47_
          refine w_bipush (v := 48) dX4_readNumber_34 (by decide) ?_
          refine w_isub dX4_readNumber_36 (fun z50_ h51_ => ?_)
          refine w_goto (tgt := 41) dX4_readNumber_37 (by decide) ?_
          refine w_istore_n (ls' := [(3, vI z50_), (2, vI v2_4), (1, vI v1_4), (0, vR (4, 0, 0))]) dX4_readNumber_41 rfl (by decide) rfl ?_
          refine w_iload_n dX4_readNumber_42 rfl 0 rfl ?_
          refine w_if_lt (tgt := 78) dX4_readNumber_43 (by decide) (rfl : z50_.toInt = z50_.toInt) (fun h52_ => ?_) (fun h52_ => ?_)
          · refine w_aload_n dX4_readNumber_78 rfl 3 rfl ?_
            refine w_getR (c' := (1, 3, 0)) fl_RX4_10 rfl rfl ic_4 dX4_readNumber_79 rfl ?_
            refine w_iload_n dX4_readNumber_82 rfl 2 rfl ?_
            refine w_callVv (as := [vI v1_4]) (rest := []) (c_X1_add l G cy ad d 3 0 v1_4 M_4 hI_4 (by first | decide | (unfold vF; omega) | (unfold vRw; omega))) kV_X1_add (by decide +kernel) (Nat.le_of_ble_eq_true rfl) m_720 rfl rfl rfl (ic_1 (by unfold vF; omega)) rfl rfl (by decide) (Nat.le_of_ble_eq_true rfl) dX4_readNumber_83 (fun M53_ q54_ => ?_)
            obtain ⟨hI56_, hF57_, h55_, hs59_⟩ := q54_
            have hF58_ := hF_4.tr hF57_ (fun c k => (fun h => h.elim (fun h => (Or.inl ⟨h.1, h.2.1, h.2.2⟩)) (fun h => h.elim (fun h => (Or.inr (Or.inl ⟨h.1, h.2.1, h.2.2.1, h.2.2.2⟩))) (fun h => h.elim))))
            have kf60_ : M53_.1 (4, 0, 0) 1 = 1 := by rw [(hF57_ (4, 0, 0) 1 (by simp [S_c_X1_add]))]; exact kv0_4
            refine w_aload_n dX4_readNumber_86 rfl 3 rfl ?_
            refine w_dup dX4_readNumber_87 rfl ?_
            refine w_getI fl_RX4_41 rfl rfl ic_4 dX4_readNumber_88 (fun z61_ e62_ => ?_)
            refine w_iconst (v := 1) dX4_readNumber_91 (by decide) ?_
            refine w_iadd dX4_readNumber_92 (fun z63_ h64_ => ?_)
            refine w_putI CC_nd fl_RX4_41 rfl rfl ic_4 dX4_readNumber_93 (fun M65_ hM66_ => ?_)
            have hI67_ := hI56_.put hM66_ trivial
            have hF68_ := hF58_.put hM66_ (Or.inr (Or.inr (Or.inl ⟨rfl, rfl, rfl⟩)))
            have kf69_ : M65_.1 (4, 0, 0) 1 = 1 := by rw [(show M65_.1 (4, 0, 0) 1 = M53_.1 (4, 0, 0) 1 by rw [hM66_, up_ne (by simp)])]; exact kf60_
            exact w_vret rfl dX4_readNumber_96 ⟨hI67_, hF68_, trivial, ⟨v2_4, hv0_4, hv1_4, v1_4, M_4, hL_4, hI_4, hF_4, (Or.inr ⟨h2_, z20_, e21_, z22_, e23_, (Or.inr ⟨h24_, r45_, hs49_, z50_, h51_, (Or.inl ⟨h52_, M53_, hI56_, hF57_, hs59_, z61_, e62_, z63_, h64_, M65_, hM66_, rfl⟩)⟩)⟩)⟩⟩
          · refine w_iload_n dX4_readNumber_46 rfl 0 rfl ?_
            refine w_bipush (v := 9) dX4_readNumber_47 (by decide) ?_
            refine w_icmp_le (tgt := 55) dX4_readNumber_49 (by decide) (rfl : z50_.toInt = z50_.toInt) li_9 (fun h70_ => ?_) (fun h70_ => ?_)
            · refine w_bipush (v := 10) dX4_readNumber_55 (by decide) ?_
              refine w_iload_n dX4_readNumber_57 rfl 2 rfl ?_
              refine w_imul dX4_readNumber_58 (fun z71_ h72_ => ?_)
              refine w_iload_n dX4_readNumber_59 rfl 0 rfl ?_
              refine w_iadd dX4_readNumber_60 (fun z73_ h74_ => ?_)
              refine w_istore_n (ls' := [(1, vI z73_), (3, vI z50_), (2, vI v2_4), (0, vR (4, 0, 0))]) dX4_readNumber_61 rfl (by decide) rfl ?_
              refine w_aload_n dX4_readNumber_62 rfl 3 rfl ?_
              refine w_dup dX4_readNumber_63 rfl ?_
              refine w_getI fl_RX4_31 rfl rfl ic_4 dX4_readNumber_64 (fun z75_ e76_ => ?_)
              obtain rfl : z20_ = z75_ := e21_.trans e76_.symm
              refine w_iconst (v := 1) dX4_readNumber_67 (by decide) ?_
              refine w_iaddB dX4_readNumber_68 (rfl : z20_.toInt = z20_.toInt) li_1 (lf_c_X4_readNumber_0 M_4 z20_ z22_ e21_ e23_ h24_) (fun z77_ h78_ => ?_)
              refine w_putI CC_nd fl_RX4_31 rfl rfl ic_4 dX4_readNumber_69 (fun M79_ hM80_ => ?_)
              have hI81_ := hI_4.put hM80_ trivial
              have hF82_ := hF_4.put hM80_ (Or.inr (Or.inr (Or.inr (Or.inl ⟨rfl, rfl, rfl⟩))))
              have kf83_ : M79_.1 (4, 0, 0) 1 = 1 := by rw [(show M79_.1 (4, 0, 0) 1 = M_4.1 (4, 0, 0) 1 by rw [hM80_, up_ne (by simp)])]; exact kv0_4
              refine w_iincB (j := 2) (f := fun z84_ => [(2, vI z84_), (1, vI z73_), (3, vI z50_), (0, vR (4, 0, 0))]) dX4_readNumber_72 rfl (by decide) (fun _ => rfl) (rfl : v2_4.toInt = v2_4.toInt) li_1 (lf_c_X4_readNumber_1 v2_4 hv0_4 hv1_4 h2_) (fun z84_ h85_ => ?_)
              refine w_goto (tgt := 4) dX4_readNumber_75 (by decide) ?_
              refine w_loc (ls' := [(2, vI z84_), (1, vI z73_), (0, vR (4, 0, 0))]) [0, 1, 3] rfl ?_
              exact ih_4 M79_ hI81_ hF82_ z84_ z73_ (lf_c_X4_readNumber_2 v2_4 z84_ hv0_4 hv1_4 h2_ h85_) (lf_c_X4_readNumber_3 v2_4 z84_ hv0_4 hv1_4 h2_ h85_) kf83_ (RCH.tail hL_4 ⟨hv0_4, hv1_4, hI_4, hF_4, h2_, z20_, e21_, z22_, e23_, h24_, r45_, hs49_, z50_, h51_, h52_, h70_, z71_, h72_, z73_, h74_, z77_, h78_, M79_, hM80_, z84_, h85_, rfl, rfl, rfl⟩) (Nat.lt_of_lt_of_le (lf_c_X4_readNumber_4 v2_4 z84_ hv0_4 hv1_4 h2_ h85_) (Nat.le_of_lt_succ hm_4))
            · refine w_goto (tgt := 78) dX4_readNumber_52 (by decide) ?_
              refine w_aload_n dX4_readNumber_78 rfl 3 rfl ?_
              refine w_getR (c' := (1, 3, 0)) fl_RX4_10 rfl rfl ic_4 dX4_readNumber_79 rfl ?_
              refine w_iload_n dX4_readNumber_82 rfl 2 rfl ?_
              refine w_callVv (as := [vI v1_4]) (rest := []) (c_X1_add l G cy ad d 3 0 v1_4 M_4 hI_4 (by first | decide | (unfold vF; omega) | (unfold vRw; omega))) kV_X1_add (by decide +kernel) (Nat.le_of_ble_eq_true rfl) m_720 rfl rfl rfl (ic_1 (by unfold vF; omega)) rfl rfl (by decide) (Nat.le_of_ble_eq_true rfl) dX4_readNumber_83 (fun M86_ q87_ => ?_)
              obtain ⟨hI89_, hF90_, h88_, hs92_⟩ := q87_
              have hF91_ := hF_4.tr hF90_ (fun c k => (fun h => h.elim (fun h => (Or.inl ⟨h.1, h.2.1, h.2.2⟩)) (fun h => h.elim (fun h => (Or.inr (Or.inl ⟨h.1, h.2.1, h.2.2.1, h.2.2.2⟩))) (fun h => h.elim))))
              have kf93_ : M86_.1 (4, 0, 0) 1 = 1 := by rw [(hF90_ (4, 0, 0) 1 (by simp [S_c_X1_add]))]; exact kv0_4
              refine w_aload_n dX4_readNumber_86 rfl 3 rfl ?_
              refine w_dup dX4_readNumber_87 rfl ?_
              refine w_getI fl_RX4_41 rfl rfl ic_4 dX4_readNumber_88 (fun z94_ e95_ => ?_)
              refine w_iconst (v := 1) dX4_readNumber_91 (by decide) ?_
              refine w_iadd dX4_readNumber_92 (fun z96_ h97_ => ?_)
              refine w_putI CC_nd fl_RX4_41 rfl rfl ic_4 dX4_readNumber_93 (fun M98_ hM99_ => ?_)
              have hI100_ := hI89_.put hM99_ trivial
              have hF101_ := hF91_.put hM99_ (Or.inr (Or.inr (Or.inl ⟨rfl, rfl, rfl⟩)))
              have kf102_ : M98_.1 (4, 0, 0) 1 = 1 := by rw [(show M98_.1 (4, 0, 0) 1 = M86_.1 (4, 0, 0) 1 by rw [hM99_, up_ne (by simp)])]; exact kf93_
              exact w_vret rfl dX4_readNumber_96 ⟨hI100_, hF101_, trivial, ⟨v2_4, hv0_4, hv1_4, v1_4, M_4, hL_4, hI_4, hF_4, (Or.inr ⟨h2_, z20_, e21_, z22_, e23_, (Or.inr ⟨h24_, r45_, hs49_, z50_, h51_, (Or.inr ⟨h52_, h70_, M86_, hI89_, hF90_, hs92_, z94_, e95_, z96_, h97_, M98_, hM99_, rfl⟩)⟩)⟩)⟩⟩
  exact lp1_ _ Mz hIz hFz 0 0 (lf_c_X4_readNumber_5 ) (lf_c_X4_readNumber_6 ) hT RCH.refl (Nat.lt_succ_self _)
def S_c_X4_readName : rf → Nat → Prop := fun c k => (c.1 = 4 ∧ c.2.1 = 0 ∧ k = 4) ∨ (c.1 = 4 ∧ c.2.1 = 0 ∧ k = 3) ∨ (c.1 = 24 ∧ c.2.1 = 3 ∧ c.2.2 = 0) ∨ (c.1 = 1 ∧ c.2.1 = 3 ∧ c.2.2 = 0 ∧ k = 2) ∨ (c.1 = 4 ∧ c.2.1 = 0 ∧ k = 6) ∨ False
def SP_X4_readName (v : Int32) (Mz : mM) (M_ : mM) : Prop := (((v.toInt < 0) ∧ ∃ M3_ : mM, (Inv M3_) ∧ (FR (S_c_X4_fail) Mz M3_) ∧ (SP_X4_fail Mz M3_) ∧ M_ = M3_) ∨ ((0 ≤ v.toInt) ∧ (((v.toInt ≤ 127) ∧ ((∃ z13_ : Int32, (z13_ = (v.toUInt32 % 65536).toInt32) ∧ ∃ z15_ : Int32, (IXO 1 z13_ z15_ Mz) ∧ (((0 ≤ z15_.toInt) ∧ ∃ z17_ : Int32, (z17_ = Mz.1 (4, 0, 0) 3) ∧ ∃ z19_ : Int32, (z19_ = z17_ + (1 : Int32)) ∧ ∃ M21_ : mM, (M21_ = up Mz (4, 0, 0) 3 z19_) ∧ ∃ z27_ : Int32, (z27_ = (1000 : Int32) + z15_) ∧ (Inv M21_) ∧ ∃ M29_ : mM, (Inv M29_) ∧ (FR (S_c_X1_add 3 0) M21_ M29_) ∧ (SP_X1_add 3 0 z27_ M21_ M29_) ∧ ∃ z38_ : Int32, (z38_ = M29_.1 (4, 0, 0) 6) ∧ ∃ z40_ : Int32, (z40_ = z38_ + (1 : Int32)) ∧ ∃ M42_ : mM, (M42_ = up M29_ (4, 0, 0) 6 z40_) ∧ M_ = M42_) ∨ ((z15_.toInt < 0) ∧ ∃ M48_ : mM, (Inv M48_) ∧ (FR (S_c_X4_fail) Mz M48_) ∧ (SP_X4_fail Mz M48_) ∧ M_ = M48_))) ∨ (∃ z57_ : Int32, (z57_ = (v.toUInt32 % 65536).toInt32) ∧ ∃ z59_ : Int32, (IXO 2 z57_ z59_ Mz) ∧ (((0 ≤ z59_.toInt) ∧ ∃ z61_ : Int32, (z61_ = Mz.1 (4, 0, 0) 3) ∧ ∃ z63_ : Int32, (z63_ = z61_ + (1 : Int32)) ∧ ∃ M65_ : mM, (M65_ = up Mz (4, 0, 0) 3 z63_) ∧ ∃ z71_ : Int32, (z71_ = (1000 : Int32) + z59_) ∧ (Inv M65_) ∧ ∃ M73_ : mM, (Inv M73_) ∧ (FR (S_c_X1_add 3 0) M65_ M73_) ∧ (SP_X1_add 3 0 z71_ M65_ M73_) ∧ ∃ z82_ : Int32, (z82_ = M73_.1 (4, 0, 0) 6) ∧ ∃ z84_ : Int32, (z84_ = z82_ + (1 : Int32)) ∧ ∃ M86_ : mM, (M86_ = up M73_ (4, 0, 0) 6 z84_) ∧ M_ = M86_) ∨ ((z59_.toInt < 0) ∧ ∃ M92_ : mM, (Inv M92_) ∧ (FR (S_c_X4_fail) Mz M92_) ∧ (SP_X4_fail Mz M92_) ∧ M_ = M92_))) ∨ (∃ z101_ : Int32, (z101_ = (v.toUInt32 % 65536).toInt32) ∧ ∃ z103_ : Int32, (IXO 3 z101_ z103_ Mz) ∧ (((0 ≤ z103_.toInt) ∧ ∃ z105_ : Int32, (z105_ = Mz.1 (4, 0, 0) 3) ∧ ∃ z107_ : Int32, (z107_ = z105_ + (1 : Int32)) ∧ ∃ M109_ : mM, (M109_ = up Mz (4, 0, 0) 3 z107_) ∧ ∃ z115_ : Int32, (z115_ = (1000 : Int32) + z103_) ∧ (Inv M109_) ∧ ∃ M117_ : mM, (Inv M117_) ∧ (FR (S_c_X1_add 3 0) M109_ M117_) ∧ (SP_X1_add 3 0 z115_ M109_ M117_) ∧ ∃ z126_ : Int32, (z126_ = M117_.1 (4, 0, 0) 6) ∧ ∃ z128_ : Int32, (z128_ = z126_ + (1 : Int32)) ∧ ∃ M130_ : mM, (M130_ = up M117_ (4, 0, 0) 6 z128_) ∧ M_ = M130_) ∨ ((z103_.toInt < 0) ∧ ∃ M136_ : mM, (Inv M136_) ∧ (FR (S_c_X4_fail) Mz M136_) ∧ (SP_X4_fail Mz M136_) ∧ M_ = M136_))))) ∨ ((127 < v.toInt) ∧ ∃ M146_ : mM, (Inv M146_) ∧ (FR (S_c_X4_fail) Mz M146_) ∧ (SP_X4_fail Mz M146_) ∧ M_ = M146_))))
set_option maxHeartbeats 4000000 in
set_option maxRecDepth 100000 in
theorem c_X4_readName (l : Launch) (G : va_G) (cy : Nat → ClassId) (ad : rf → Nat) (d : Nat) (v : Int32) (Mz : mM) (hIz : Inv Mz) (hT : Mz.1 (4, 0, 0) 1 = 1) (hN : Mz.1 (4, 0, 0) 2 = 1 ∨ Mz.1 (4, 0, 0) 2 = 2 ∨ Mz.1 (4, 0, 0) 2 = 3) : WP CC l G cy ad yX4_readName cX4_readName 3 none (d + 8) 0 [(0, vR (4, 0, 0)), (1, vI v)] [] Mz (fun r M' => Inv M' ∧ FR (S_c_X4_readName) Mz M' ∧ (True) ∧ SP_X4_readName v Mz M') := by
  have hFz : FR (S_c_X4_readName) Mz Mz := FR.self
  refine w_iload_n dX4_readName_0 rfl 1 rfl ?_
  refine w_if_lt (tgt := 10) dX4_readName_1 (by decide) (rfl : v.toInt = v.toInt) (fun h1_ => ?_) (fun h1_ => ?_)
  · refine w_iconst (v := (-1)) dX4_readName_10 (by decide) ?_
    refine w_goto (tgt := 23) dX4_readName_11 (by decide) ?_
    refine w_istore_n (ls' := [(2, vI (-1)), (0, vR (4, 0, 0)), (1, vI v)]) dX4_readName_23 rfl (by decide) rfl ?_
    refine w_iload_n dX4_readName_24 rfl 0 rfl ?_
    refine w_if_ge (tgt := 33) dX4_readName_25 (by decide) li_m1 (fun h9 => (absurd h9 (by decide))) (fun h2_ => ?_)
    refine w_aload_n dX4_readName_28 rfl 1 rfl ?_
    refine w_callVv (as := []) (rest := []) (c_X4_fail l G cy ad (d + 7) Mz hIz) kV_X4_fail (by decide +kernel) (Nat.le_of_ble_eq_true rfl) m_728 rfl rfl rfl ic_4 rfl rfl (by decide) (Nat.le_of_ble_eq_true rfl) dX4_readName_29 (fun M3_ q4_ => ?_)
    obtain ⟨hI6_, hF7_, h5_, hs9_⟩ := q4_
    have hF8_ := hFz.tr hF7_ (fun c k => (fun h => h.elim (fun h => (Or.inl ⟨h.1, h.2.1, h.2.2⟩)) (fun h => h.elim)))
    have kf10_ : M3_.1 (4, 0, 0) 1 = 1 := by rw [(hF7_ (4, 0, 0) 1 (by simp [S_c_X4_fail]))]; exact hT
    have kf11_ : M3_.1 (4, 0, 0) 2 = 1 ∨ M3_.1 (4, 0, 0) 2 = 2 ∨ M3_.1 (4, 0, 0) 2 = 3 := by rw [(hF7_ (4, 0, 0) 2 (by simp [S_c_X4_fail]))]; exact hN
    exact w_vret rfl dX4_readName_32 ⟨hI6_, hF8_, trivial, (Or.inl ⟨h1_, M3_, hI6_, hF7_, hs9_, rfl⟩)⟩
  · refine w_iload_n dX4_readName_4 rfl 1 rfl ?_
    refine w_bipush (v := 127) dX4_readName_5 (by decide) ?_
    refine w_icmp_le (tgt := 14) dX4_readName_7 (by decide) (rfl : v.toInt = v.toInt) li_127 (fun h12_ => ?_) (fun h12_ => ?_)
    · rcases hN with hN | hN | hN
      · refine w_aload_n dX4_readName_14 rfl 0 rfl ?_
        refine w_getR (c' := (91, 1, 0)) fl_RX4_27 rfl rfl ic_4 dX4_readName_15 (by rw [hN]; rfl) ?_
        refine w_iload_n dX4_readName_18 rfl 1 rfl ?_
        refine w_i2c dX4_readName_19 (fun z13_ h14_ => ?_)
        refine w_indexOf (k := 1) (by decide) m_740 (Nat.le_of_ble_eq_true rfl) (by omega) dX4_readName_20 (fun z15_ z15_h => ?_)
        refine w_istore_n (ls' := [(2, vI z15_), (0, vR (4, 0, 0)), (1, vI v)]) dX4_readName_23 rfl (by decide) rfl ?_
        refine w_iload_n dX4_readName_24 rfl 0 rfl ?_
        refine w_if_ge (tgt := 33) dX4_readName_25 (by decide) (rfl : z15_.toInt = z15_.toInt) (fun h16_ => ?_) (fun h16_ => ?_)
        · refine w_aload_n dX4_readName_33 rfl 1 rfl ?_
          refine w_dup dX4_readName_34 rfl ?_
          refine w_getI fl_RX4_31 rfl rfl ic_4 dX4_readName_35 (fun z17_ e18_ => ?_)
          refine w_iconst (v := 1) dX4_readName_38 (by decide) ?_
          refine w_iadd dX4_readName_39 (fun z19_ h20_ => ?_)
          refine w_putI CC_nd fl_RX4_31 rfl rfl ic_4 dX4_readName_40 (fun M21_ hM22_ => ?_)
          have hI23_ := hIz.put hM22_ trivial
          have hF24_ := hFz.put hM22_ (Or.inr (Or.inl ⟨rfl, rfl, rfl⟩))
          have kf25_ : M21_.1 (4, 0, 0) 1 = 1 := by rw [(show M21_.1 (4, 0, 0) 1 = Mz.1 (4, 0, 0) 1 by rw [hM22_, up_ne (by simp)])]; exact hT
          have kf26_ : M21_.1 (4, 0, 0) 2 = 1 := by rw [(show M21_.1 (4, 0, 0) 2 = Mz.1 (4, 0, 0) 2 by rw [hM22_, up_ne (by simp)])]; exact hN
          refine w_aload_n dX4_readName_43 rfl 1 rfl ?_
          refine w_getR (c' := (1, 3, 0)) fl_RX4_10 rfl rfl ic_4 dX4_readName_44 rfl ?_
          refine w_sipush (v := 1000) dX4_readName_47 (by decide) ?_
          refine w_iload_n dX4_readName_50 rfl 0 rfl ?_
          refine w_iadd dX4_readName_51 (fun z27_ h28_ => ?_)
          refine w_callVv (as := [vI z27_]) (rest := []) (c_X1_add l G cy ad (d + 7) 3 0 z27_ M21_ hI23_ (by first | decide | (unfold vF; omega) | (unfold vRw; omega))) kV_X1_add (by decide +kernel) (Nat.le_of_ble_eq_true rfl) m_720 rfl rfl rfl (ic_1 (by unfold vF; omega)) rfl rfl (by decide) (Nat.le_of_ble_eq_true rfl) dX4_readName_52 (fun M29_ q30_ => ?_)
          obtain ⟨hI32_, hF33_, h31_, hs35_⟩ := q30_
          have hF34_ := hF24_.tr hF33_ (fun c k => (fun h => h.elim (fun h => (Or.inr (Or.inr (Or.inl ⟨h.1, h.2.1, h.2.2⟩)))) (fun h => h.elim (fun h => (Or.inr (Or.inr (Or.inr (Or.inl ⟨h.1, h.2.1, h.2.2.1, h.2.2.2⟩))))) (fun h => h.elim))))
          have kf36_ : M29_.1 (4, 0, 0) 1 = 1 := by rw [(hF33_ (4, 0, 0) 1 (by simp [S_c_X1_add]))]; exact kf25_
          have kf37_ : M29_.1 (4, 0, 0) 2 = 1 := by rw [(hF33_ (4, 0, 0) 2 (by simp [S_c_X1_add]))]; exact kf26_
          refine w_aload_n dX4_readName_55 rfl 1 rfl ?_
          refine w_dup dX4_readName_56 rfl ?_
          refine w_getI fl_RX4_41 rfl rfl ic_4 dX4_readName_57 (fun z38_ e39_ => ?_)
          refine w_iconst (v := 1) dX4_readName_60 (by decide) ?_
          refine w_iadd dX4_readName_61 (fun z40_ h41_ => ?_)
          refine w_putI CC_nd fl_RX4_41 rfl rfl ic_4 dX4_readName_62 (fun M42_ hM43_ => ?_)
          have hI44_ := hI32_.put hM43_ trivial
          have hF45_ := hF34_.put hM43_ (Or.inr (Or.inr (Or.inr (Or.inr (Or.inl ⟨rfl, rfl, rfl⟩)))))
          have kf46_ : M42_.1 (4, 0, 0) 1 = 1 := by rw [(show M42_.1 (4, 0, 0) 1 = M29_.1 (4, 0, 0) 1 by rw [hM43_, up_ne (by simp)])]; exact kf36_
          have kf47_ : M42_.1 (4, 0, 0) 2 = 1 := by rw [(show M42_.1 (4, 0, 0) 2 = M29_.1 (4, 0, 0) 2 by rw [hM43_, up_ne (by simp)])]; exact kf37_
          exact w_vret rfl dX4_readName_65 ⟨hI44_, hF45_, trivial, (Or.inr ⟨h1_, (Or.inl ⟨h12_, (Or.inl ⟨z13_, h14_, z15_, z15_h, (Or.inl ⟨h16_, z17_, e18_, z19_, h20_, M21_, hM22_, z27_, h28_, hI23_, M29_, hI32_, hF33_, hs35_, z38_, e39_, z40_, h41_, M42_, hM43_, rfl⟩)⟩)⟩)⟩)⟩
        · refine w_aload_n dX4_readName_28 rfl 1 rfl ?_
          refine w_callVv (as := []) (rest := []) (c_X4_fail l G cy ad (d + 7) Mz hIz) kV_X4_fail (by decide +kernel) (Nat.le_of_ble_eq_true rfl) m_728 rfl rfl rfl ic_4 rfl rfl (by decide) (Nat.le_of_ble_eq_true rfl) dX4_readName_29 (fun M48_ q49_ => ?_)
          obtain ⟨hI51_, hF52_, h50_, hs54_⟩ := q49_
          have hF53_ := hFz.tr hF52_ (fun c k => (fun h => h.elim (fun h => (Or.inl ⟨h.1, h.2.1, h.2.2⟩)) (fun h => h.elim)))
          have kf55_ : M48_.1 (4, 0, 0) 1 = 1 := by rw [(hF52_ (4, 0, 0) 1 (by simp [S_c_X4_fail]))]; exact hT
          have kf56_ : M48_.1 (4, 0, 0) 2 = 1 := by rw [(hF52_ (4, 0, 0) 2 (by simp [S_c_X4_fail]))]; exact hN
          exact w_vret rfl dX4_readName_32 ⟨hI51_, hF53_, trivial, (Or.inr ⟨h1_, (Or.inl ⟨h12_, (Or.inl ⟨z13_, h14_, z15_, z15_h, (Or.inr ⟨h16_, M48_, hI51_, hF52_, hs54_, rfl⟩)⟩)⟩)⟩)⟩
      · refine w_aload_n dX4_readName_14 rfl 0 rfl ?_
        refine w_getR (c' := (91, 2, 0)) fl_RX4_27 rfl rfl ic_4 dX4_readName_15 (by rw [hN]; rfl) ?_
        refine w_iload_n dX4_readName_18 rfl 1 rfl ?_
        refine w_i2c dX4_readName_19 (fun z57_ h58_ => ?_)
        refine w_indexOf (k := 2) (by decide) m_740 (Nat.le_of_ble_eq_true rfl) (by omega) dX4_readName_20 (fun z59_ z59_h => ?_)
        refine w_istore_n (ls' := [(2, vI z59_), (0, vR (4, 0, 0)), (1, vI v)]) dX4_readName_23 rfl (by decide) rfl ?_
        refine w_iload_n dX4_readName_24 rfl 0 rfl ?_
        refine w_if_ge (tgt := 33) dX4_readName_25 (by decide) (rfl : z59_.toInt = z59_.toInt) (fun h60_ => ?_) (fun h60_ => ?_)
        · refine w_aload_n dX4_readName_33 rfl 1 rfl ?_
          refine w_dup dX4_readName_34 rfl ?_
          refine w_getI fl_RX4_31 rfl rfl ic_4 dX4_readName_35 (fun z61_ e62_ => ?_)
          refine w_iconst (v := 1) dX4_readName_38 (by decide) ?_
          refine w_iadd dX4_readName_39 (fun z63_ h64_ => ?_)
          refine w_putI CC_nd fl_RX4_31 rfl rfl ic_4 dX4_readName_40 (fun M65_ hM66_ => ?_)
          have hI67_ := hIz.put hM66_ trivial
          have hF68_ := hFz.put hM66_ (Or.inr (Or.inl ⟨rfl, rfl, rfl⟩))
          have kf69_ : M65_.1 (4, 0, 0) 1 = 1 := by rw [(show M65_.1 (4, 0, 0) 1 = Mz.1 (4, 0, 0) 1 by rw [hM66_, up_ne (by simp)])]; exact hT
          have kf70_ : M65_.1 (4, 0, 0) 2 = 2 := by rw [(show M65_.1 (4, 0, 0) 2 = Mz.1 (4, 0, 0) 2 by rw [hM66_, up_ne (by simp)])]; exact hN
          refine w_aload_n dX4_readName_43 rfl 1 rfl ?_
          refine w_getR (c' := (1, 3, 0)) fl_RX4_10 rfl rfl ic_4 dX4_readName_44 rfl ?_
          refine w_sipush (v := 1000) dX4_readName_47 (by decide) ?_
          refine w_iload_n dX4_readName_50 rfl 0 rfl ?_
          refine w_iadd dX4_readName_51 (fun z71_ h72_ => ?_)
          refine w_callVv (as := [vI z71_]) (rest := []) (c_X1_add l G cy ad (d + 7) 3 0 z71_ M65_ hI67_ (by first | decide | (unfold vF; omega) | (unfold vRw; omega))) kV_X1_add (by decide +kernel) (Nat.le_of_ble_eq_true rfl) m_720 rfl rfl rfl (ic_1 (by unfold vF; omega)) rfl rfl (by decide) (Nat.le_of_ble_eq_true rfl) dX4_readName_52 (fun M73_ q74_ => ?_)
          obtain ⟨hI76_, hF77_, h75_, hs79_⟩ := q74_
          have hF78_ := hF68_.tr hF77_ (fun c k => (fun h => h.elim (fun h => (Or.inr (Or.inr (Or.inl ⟨h.1, h.2.1, h.2.2⟩)))) (fun h => h.elim (fun h => (Or.inr (Or.inr (Or.inr (Or.inl ⟨h.1, h.2.1, h.2.2.1, h.2.2.2⟩))))) (fun h => h.elim))))
          have kf80_ : M73_.1 (4, 0, 0) 1 = 1 := by rw [(hF77_ (4, 0, 0) 1 (by simp [S_c_X1_add]))]; exact kf69_
          have kf81_ : M73_.1 (4, 0, 0) 2 = 2 := by rw [(hF77_ (4, 0, 0) 2 (by simp [S_c_X1_add]))]; exact kf70_
          refine w_aload_n dX4_readName_55 rfl 1 rfl ?_
          refine w_dup dX4_readName_56 rfl ?_
          refine w_getI fl_RX4_41 rfl rfl ic_4 dX4_readName_57 (fun z82_ e83_ => ?_)
          refine w_iconst (v := 1) dX4_readName_60 (by decide) ?_
          refine w_iadd dX4_readName_61 (fun z84_ h85_ => ?_)
          refine w_putI CC_nd fl_RX4_41 rfl rfl ic_4 dX4_readName_62 (fun M86_ hM87_ => ?_)
          have hI88_ := hI76_.put hM87_ trivial
          have hF89_ := hF78_.put hM87_ (Or.inr (Or.inr (Or.inr (Or.inr (Or.inl ⟨rfl, rfl, rfl⟩)))))
          have kf90_ : M86_.1 (4, 0, 0) 1 = 1 := by rw [(show M86_.1 (4, 0, 0) 1 = M73_.1 (4, 0, 0) 1 by rw [hM87_, up_ne (by simp)])]; exact kf80_
          have kf91_ : M86_.1 (4, 0, 0) 2 = 2 := by rw [(show M86_.1 (4, 0, 0) 2 = M73_.1 (4, 0, 0) 2 by rw [hM87_, up_ne (by simp)])]; exact kf81_
          exact w_vret rfl dX4_readName_65 ⟨hI88_, hF89_, trivial, (Or.inr ⟨h1_, (Or.inl ⟨h12_, (Or.inr (Or.inl ⟨z57_, h58_, z59_, z59_h, (Or.inl ⟨h60_, z61_, e62_, z63_, h64_, M65_, hM66_, z71_, h72_, hI67_, M73_, hI76_, hF77_, hs79_, z82_, e83_, z84_, h85_, M86_, hM87_, rfl⟩)⟩))⟩)⟩)⟩
        · refine w_aload_n dX4_readName_28 rfl 1 rfl ?_
          refine w_callVv (as := []) (rest := []) (c_X4_fail l G cy ad (d + 7) Mz hIz) kV_X4_fail (by decide +kernel) (Nat.le_of_ble_eq_true rfl) m_728 rfl rfl rfl ic_4 rfl rfl (by decide) (Nat.le_of_ble_eq_true rfl) dX4_readName_29 (fun M92_ q93_ => ?_)
          obtain ⟨hI95_, hF96_, h94_, hs98_⟩ := q93_
          have hF97_ := hFz.tr hF96_ (fun c k => (fun h => h.elim (fun h => (Or.inl ⟨h.1, h.2.1, h.2.2⟩)) (fun h => h.elim)))
          have kf99_ : M92_.1 (4, 0, 0) 1 = 1 := by rw [(hF96_ (4, 0, 0) 1 (by simp [S_c_X4_fail]))]; exact hT
          have kf100_ : M92_.1 (4, 0, 0) 2 = 2 := by rw [(hF96_ (4, 0, 0) 2 (by simp [S_c_X4_fail]))]; exact hN
          exact w_vret rfl dX4_readName_32 ⟨hI95_, hF97_, trivial, (Or.inr ⟨h1_, (Or.inl ⟨h12_, (Or.inr (Or.inl ⟨z57_, h58_, z59_, z59_h, (Or.inr ⟨h60_, M92_, hI95_, hF96_, hs98_, rfl⟩)⟩))⟩)⟩)⟩
      · refine w_aload_n dX4_readName_14 rfl 0 rfl ?_
        refine w_getR (c' := (91, 3, 0)) fl_RX4_27 rfl rfl ic_4 dX4_readName_15 (by rw [hN]; rfl) ?_
        refine w_iload_n dX4_readName_18 rfl 1 rfl ?_
        refine w_i2c dX4_readName_19 (fun z101_ h102_ => ?_)
        refine w_indexOf (k := 3) (by decide) m_740 (Nat.le_of_ble_eq_true rfl) (by omega) dX4_readName_20 (fun z103_ z103_h => ?_)
        refine w_istore_n (ls' := [(2, vI z103_), (0, vR (4, 0, 0)), (1, vI v)]) dX4_readName_23 rfl (by decide) rfl ?_
        refine w_iload_n dX4_readName_24 rfl 0 rfl ?_
        refine w_if_ge (tgt := 33) dX4_readName_25 (by decide) (rfl : z103_.toInt = z103_.toInt) (fun h104_ => ?_) (fun h104_ => ?_)
        · refine w_aload_n dX4_readName_33 rfl 1 rfl ?_
          refine w_dup dX4_readName_34 rfl ?_
          refine w_getI fl_RX4_31 rfl rfl ic_4 dX4_readName_35 (fun z105_ e106_ => ?_)
          refine w_iconst (v := 1) dX4_readName_38 (by decide) ?_
          refine w_iadd dX4_readName_39 (fun z107_ h108_ => ?_)
          refine w_putI CC_nd fl_RX4_31 rfl rfl ic_4 dX4_readName_40 (fun M109_ hM110_ => ?_)
          have hI111_ := hIz.put hM110_ trivial
          have hF112_ := hFz.put hM110_ (Or.inr (Or.inl ⟨rfl, rfl, rfl⟩))
          have kf113_ : M109_.1 (4, 0, 0) 1 = 1 := by rw [(show M109_.1 (4, 0, 0) 1 = Mz.1 (4, 0, 0) 1 by rw [hM110_, up_ne (by simp)])]; exact hT
          have kf114_ : M109_.1 (4, 0, 0) 2 = 3 := by rw [(show M109_.1 (4, 0, 0) 2 = Mz.1 (4, 0, 0) 2 by rw [hM110_, up_ne (by simp)])]; exact hN
          refine w_aload_n dX4_readName_43 rfl 1 rfl ?_
          refine w_getR (c' := (1, 3, 0)) fl_RX4_10 rfl rfl ic_4 dX4_readName_44 rfl ?_
          refine w_sipush (v := 1000) dX4_readName_47 (by decide) ?_
          refine w_iload_n dX4_readName_50 rfl 0 rfl ?_
          refine w_iadd dX4_readName_51 (fun z115_ h116_ => ?_)
          refine w_callVv (as := [vI z115_]) (rest := []) (c_X1_add l G cy ad (d + 7) 3 0 z115_ M109_ hI111_ (by first | decide | (unfold vF; omega) | (unfold vRw; omega))) kV_X1_add (by decide +kernel) (Nat.le_of_ble_eq_true rfl) m_720 rfl rfl rfl (ic_1 (by unfold vF; omega)) rfl rfl (by decide) (Nat.le_of_ble_eq_true rfl) dX4_readName_52 (fun M117_ q118_ => ?_)
          obtain ⟨hI120_, hF121_, h119_, hs123_⟩ := q118_
          have hF122_ := hF112_.tr hF121_ (fun c k => (fun h => h.elim (fun h => (Or.inr (Or.inr (Or.inl ⟨h.1, h.2.1, h.2.2⟩)))) (fun h => h.elim (fun h => (Or.inr (Or.inr (Or.inr (Or.inl ⟨h.1, h.2.1, h.2.2.1, h.2.2.2⟩))))) (fun h => h.elim))))
          have kf124_ : M117_.1 (4, 0, 0) 1 = 1 := by rw [(hF121_ (4, 0, 0) 1 (by simp [S_c_X1_add]))]; exact kf113_
          have kf125_ : M117_.1 (4, 0, 0) 2 = 3 := by rw [(hF121_ (4, 0, 0) 2 (by simp [S_c_X1_add]))]; exact kf114_
          refine w_aload_n dX4_readName_55 rfl 1 rfl ?_
          refine w_dup dX4_readName_56 rfl ?_
          refine w_getI fl_RX4_41 rfl rfl ic_4 dX4_readName_57 (fun z126_ e127_ => ?_)
          refine w_iconst (v := 1) dX4_readName_60 (by decide) ?_
          refine w_iadd dX4_readName_61 (fun z128_ h129_ => ?_)
          refine w_putI CC_nd fl_RX4_41 rfl rfl ic_4 dX4_readName_62 (fun M130_ hM131_ => ?_)
          have hI132_ := hI120_.put hM131_ trivial
          have hF133_ := hF122_.put hM131_ (Or.inr (Or.inr (Or.inr (Or.inr (Or.inl ⟨rfl, rfl, rfl⟩)))))
          have kf134_ : M130_.1 (4, 0, 0) 1 = 1 := by rw [(show M130_.1 (4, 0, 0) 1 = M117_.1 (4, 0, 0) 1 by rw [hM131_, up_ne (by simp)])]; exact kf124_
          have kf135_ : M130_.1 (4, 0, 0) 2 = 3 := by rw [(show M130_.1 (4, 0, 0) 2 = M117_.1 (4, 0, 0) 2 by rw [hM131_, up_ne (by simp)])]; exact kf125_
          exact w_vret rfl dX4_readName_65 ⟨hI132_, hF133_, trivial, (Or.inr ⟨h1_, (Or.inl ⟨h12_, (Or.inr (Or.inr ⟨z101_, h102_, z103_, z103_h, (Or.inl ⟨h104_, z105_, e106_, z107_, h108_, M109_, hM110_, z115_, h116_, hI111_, M117_, hI120_, hF121_, hs123_, z126_, e127_, z128_, h129_, M130_, hM131_, rfl⟩)⟩))⟩)⟩)⟩
        · refine w_aload_n dX4_readName_28 rfl 1 rfl ?_
          refine w_callVv (as := []) (rest := []) (c_X4_fail l G cy ad (d + 7) Mz hIz) kV_X4_fail (by decide +kernel) (Nat.le_of_ble_eq_true rfl) m_728 rfl rfl rfl ic_4 rfl rfl (by decide) (Nat.le_of_ble_eq_true rfl) dX4_readName_29 (fun M136_ q137_ => ?_)
          obtain ⟨hI139_, hF140_, h138_, hs142_⟩ := q137_
          have hF141_ := hFz.tr hF140_ (fun c k => (fun h => h.elim (fun h => (Or.inl ⟨h.1, h.2.1, h.2.2⟩)) (fun h => h.elim)))
          have kf143_ : M136_.1 (4, 0, 0) 1 = 1 := by rw [(hF140_ (4, 0, 0) 1 (by simp [S_c_X4_fail]))]; exact hT
          have kf144_ : M136_.1 (4, 0, 0) 2 = 3 := by rw [(hF140_ (4, 0, 0) 2 (by simp [S_c_X4_fail]))]; exact hN
          exact w_vret rfl dX4_readName_32 ⟨hI139_, hF141_, trivial, (Or.inr ⟨h1_, (Or.inl ⟨h12_, (Or.inr (Or.inr ⟨z101_, h102_, z103_, z103_h, (Or.inr ⟨h104_, M136_, hI139_, hF140_, hs142_, rfl⟩)⟩))⟩)⟩)⟩
    · refine w_iconst (v := (-1)) dX4_readName_10 (by decide) ?_
      refine w_goto (tgt := 23) dX4_readName_11 (by decide) ?_
      refine w_istore_n (ls' := [(2, vI (-1)), (0, vR (4, 0, 0)), (1, vI v)]) dX4_readName_23 rfl (by decide) rfl ?_
      refine w_iload_n dX4_readName_24 rfl 0 rfl ?_
      refine w_if_ge (tgt := 33) dX4_readName_25 (by decide) li_m1 (fun h9 => (absurd h9 (by decide))) (fun h145_ => ?_)
      refine w_aload_n dX4_readName_28 rfl 1 rfl ?_
      refine w_callVv (as := []) (rest := []) (c_X4_fail l G cy ad (d + 7) Mz hIz) kV_X4_fail (by decide +kernel) (Nat.le_of_ble_eq_true rfl) m_728 rfl rfl rfl ic_4 rfl rfl (by decide) (Nat.le_of_ble_eq_true rfl) dX4_readName_29 (fun M146_ q147_ => ?_)
      obtain ⟨hI149_, hF150_, h148_, hs152_⟩ := q147_
      have hF151_ := hFz.tr hF150_ (fun c k => (fun h => h.elim (fun h => (Or.inl ⟨h.1, h.2.1, h.2.2⟩)) (fun h => h.elim)))
      have kf153_ : M146_.1 (4, 0, 0) 1 = 1 := by rw [(hF150_ (4, 0, 0) 1 (by simp [S_c_X4_fail]))]; exact hT
      have kf154_ : M146_.1 (4, 0, 0) 2 = 1 ∨ M146_.1 (4, 0, 0) 2 = 2 ∨ M146_.1 (4, 0, 0) 2 = 3 := by rw [(hF150_ (4, 0, 0) 2 (by simp [S_c_X4_fail]))]; exact hN
      exact w_vret rfl dX4_readName_32 ⟨hI149_, hF151_, trivial, (Or.inr ⟨h1_, (Or.inr ⟨h12_, M146_, hI149_, hF150_, hs152_, rfl⟩)⟩)⟩
