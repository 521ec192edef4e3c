section
def S_c_X4_next : rf → Nat → Prop := fun c k => (c.1 = 4 ∧ c.2.1 = 0 ∧ k = 3) ∨ False
def ST_X4_next_0 (Mz : mM) (M_0 : mM) (M_0y : mM) : Prop := (Inv M_0) ∧ (FR (S_c_X4_next) Mz M_0) ∧ ∃ z2_ : Int32, (z2_ = M_0.1 (4, 0, 0) 3) ∧ ∃ z4_ : Int32, (z4_ = M_0.1 (5, 0, 0) 1) ∧ (z2_.toInt < z4_.toInt) ∧ ∃ r21_ : Int32, (SP_X5_get 0 0 z2_ M_0 r21_) ∧ (r21_.toInt = 32) ∧ ∃ z41_ : Int32, (z41_.toInt = z2_.toInt + 1) ∧ ∃ M43_ : mM, (M43_ = up M_0 (4, 0, 0) 3 z41_) ∧ M_0y = M43_
def SP_X4_next (Mz : mM) (r_ : Int32) (M_ : mM) : Prop := ∃ M_0 : mM, (RCH (fun x_ y_ => ST_X4_next_0 Mz x_ y_) Mz M_0) ∧ (Inv M_0) ∧ (FR (S_c_X4_next) Mz M_0) ∧ ∃ z2_ : Int32, (z2_ = M_0.1 (4, 0, 0) 3) ∧ ∃ z4_ : Int32, (z4_ = M_0.1 (5, 0, 0) 1) ∧ (((z4_.toInt ≤ z2_.toInt) ∧ (((z4_.toInt ≤ z2_.toInt) ∧ r_ = (-1) ∧ M_ = M_0) ∨ ((z2_.toInt < z4_.toInt) ∧ ∃ r14_ : Int32, (SP_X5_get 0 0 z2_ M_0 r14_) ∧ r_ = r14_ ∧ M_ = M_0))) ∨ ((z2_.toInt < z4_.toInt) ∧ ∃ r21_ : Int32, (SP_X5_get 0 0 z2_ M_0 r21_) ∧ (¬ r21_.toInt = 32) ∧ (((z4_.toInt ≤ z2_.toInt) ∧ r_ = (-1) ∧ M_ = M_0) ∨ ((z2_.toInt < z4_.toInt) ∧ ∃ r34_ : Int32, (SP_X5_get 0 0 z2_ M_0 r34_) ∧ r_ = r34_ ∧ M_ = M_0))))
theorem lf_c_X4_next_0 (z2_ : Int32) (z4_ : Int32) (h6_ : z2_.toInt < z4_.toInt) : -2147483648 ≤ z2_.toInt + 1 ∧ z2_.toInt + 1 < 2147483648 := by have r_z2_ := rngI z2_; have r_z4_ := rngI z4_; omega
theorem lf_c_X4_next_1 (M43_ : mM) (M_0 : mM) (z2_ : Int32) (z4_ : Int32) (z41_ : Int32) (kv0_0 : M_0.1 (4, 0, 0) 1 = 1) (e3_ : z2_ = M_0.1 (4, 0, 0) 3) (e5_ : z4_ = M_0.1 (5, 0, 0) 1) (h6_ : z2_.toInt < z4_.toInt) (h42_ : z41_.toInt = z2_.toInt + 1) (hM44_ : M43_ = up M_0 (4, 0, 0) 3 z41_) (kf47_ : M43_.1 (4, 0, 0) 1 = 1) : ((M43_.1 (5, 0, 0) 1).toInt - (M43_.1 (4, 0, 0) 3).toInt).toNat < ((M_0.1 (5, 0, 0) 1).toInt - (M_0.1 (4, 0, 0) 3).toInt).toNat := by have r_z2_ := rngI z2_; have r_z4_ := rngI z4_; have r_z41_ := rngI z41_; subst e3_; subst e5_; subst hM44_; simp [up] at *; try omega
set_option maxHeartbeats 4000000 in
set_option maxRecDepth 100000 in
theorem c_X4_next (l : Launch) (G : va_G) (cy : Nat → ClassId) (ad : rf → Nat) (d : Nat) (Mz : mM) (hIz : Inv Mz) (hT : Mz.1 (4, 0, 0) 1 = 1) : WP CC l G cy ad yX4_next cX4_next 1 (some .int) (d + 1) 0 [(0, vR (4, 0, 0))] [] Mz (fun r M' => Inv M' ∧ FR (S_c_X4_next) Mz M' ∧ (True) ∧ SP_X4_next Mz r M') := by
  have hFz : FR (S_c_X4_next) Mz Mz := FR.self
  have lp1_ : ∀ (nn_0 : Nat) (M_0 : mM) (hI_0 : Inv M_0) (hF_0 : FR (S_c_X4_next) Mz M_0) (kv0_0 : M_0.1 (4, 0, 0) 1 = 1) (hL_0 : RCH (fun x_ y_ => ST_X4_next_0 Mz x_ y_) Mz M_0), ((M_0.1 (5, 0, 0) 1).toInt - (M_0.1 (4, 0, 0) 3).toInt).toNat < nn_0 → WP CC l G cy ad yX4_next cX4_next 1 (some .int) (d + 1) 0 [(0, vR (4, 0, 0))] [] M_0 (fun r M' => Inv M' ∧ FR (S_c_X4_next) Mz M' ∧ (True) ∧ SP_X4_next Mz r M') := by
    intro nn_0
    induction nn_0 with
    | zero => intro M_0 hI_0 hF_0 kv0_0 hL_0 hm_0; exact absurd hm_0 (Nat.not_lt_zero _)
    | succ nn_0 ih_0 =>
      intro M_0 hI_0 hF_0 kv0_0 hL_0 hm_0
      refine w_aload_n dX4_next_0 rfl 0 rfl ?_
      refine w_getI fl_RX4_31 rfl rfl ic_4 dX4_next_1 (fun z2_ e3_ => ?_)
      refine w_aload_n dX4_next_4 rfl 0 rfl ?_
      refine w_getR (c' := (5, 0, 0)) fl_RX4_21 rfl rfl ic_4 dX4_next_5 (by rw [kv0_0]; rfl) ?_
      refine w_getI fl_RX4_65 rfl rfl (ic_5 (by unfold vRw; omega)) dX4_next_8 (fun z4_ e5_ => ?_)
      refine w_icmp_ge (tgt := 43) dX4_next_11 (by decide) (rfl : z2_.toInt = z2_.toInt) (rfl : z4_.toInt = z4_.toInt) (fun h6_ => ?_) (fun h6_ => ?_)
      · refine w_aload_n dX4_next_43 rfl 0 rfl ?_
        refine w_getI fl_RX4_31 rfl rfl ic_4 dX4_next_44 (fun z7_ e8_ => ?_)
        obtain rfl : z2_ = z7_ := e3_.trans e8_.symm
        refine w_aload_n dX4_next_47 rfl 0 rfl ?_
        refine w_getR (c' := (5, 0, 0)) fl_RX4_21 rfl rfl ic_4 dX4_next_48 (by rw [kv0_0]; rfl) ?_
        refine w_getI fl_RX4_65 rfl rfl (ic_5 (by unfold vRw; omega)) dX4_next_51 (fun z9_ e10_ => ?_)
        obtain rfl : z4_ = z9_ := e5_.trans e10_.symm
        refine w_icmp_ge (tgt := 71) dX4_next_54 (by decide) (rfl : z2_.toInt = z2_.toInt) (rfl : z4_.toInt = z4_.toInt) (fun h11_ => ?_) (fun h11_ => ?_)
        · refine w_iconst (v := (-1)) dX4_next_71 (by decide) ?_
          exact w_iret rfl dX4_next_72 ⟨hI_0, hF_0, trivial, ⟨M_0, hL_0, hI_0, hF_0, z2_, e3_, z4_, e5_, (Or.inl ⟨h6_, (Or.inl ⟨h11_, rfl, rfl⟩)⟩)⟩⟩
        · refine w_aload_n dX4_next_57 rfl 0 rfl ?_
          refine w_getR (c' := (5, 0, 0)) fl_RX4_21 rfl rfl ic_4 dX4_next_58 (by rw [kv0_0]; rfl) ?_
          refine w_aload_n dX4_next_61 rfl 0 rfl ?_
          refine w_getI fl_RX4_31 rfl rfl ic_4 dX4_next_62 (fun z12_ e13_ => ?_)
          obtain rfl : z2_ = z12_ := e3_.trans e13_.symm
          refine w_callV (as := [vI z2_]) (rest := []) (c_X5_get l G cy ad d 0 0 z2_ M_0 hI_0 (by first | decide | (unfold vF; omega) | (unfold vRw; omega))) kV_X5_get pnn_2 (Nat.le_of_ble_eq_true rfl) m_712 rfl rfl rfl (ic_5 (by unfold vRw; omega)) rfl rfl (by decide) (Nat.le_of_ble_eq_true rfl) dX4_next_65 (fun r14_ M15_ q16_ => ?_)
          obtain ⟨rfl, h17_, hs18_⟩ := q16_
          refine w_goto (tgt := 72) dX4_next_68 (by decide) ?_
          exact w_iret rfl dX4_next_72 ⟨hI_0, hF_0, trivial, ⟨M_0, hL_0, hI_0, hF_0, z2_, e3_, z4_, e5_, (Or.inl ⟨h6_, (Or.inr ⟨h11_, r14_, hs18_, rfl, rfl⟩)⟩)⟩⟩
      · refine w_aload_n dX4_next_14 rfl 0 rfl ?_
        refine w_getR (c' := (5, 0, 0)) fl_RX4_21 rfl rfl ic_4 dX4_next_15 (by rw [kv0_0]; rfl) ?_
        refine w_aload_n dX4_next_18 rfl 0 rfl ?_
        refine w_getI fl_RX4_31 rfl rfl ic_4 dX4_next_19 (fun z19_ e20_ => ?_)
        obtain rfl : z2_ = z19_ := e3_.trans e20_.symm
        refine w_callV (as := [vI z2_]) (rest := []) (c_X5_get l G cy ad d 0 0 z2_ M_0 hI_0 (by first | decide | (unfold vF; omega) | (unfold vRw; omega))) kV_X5_get pnn_2 (Nat.le_of_ble_eq_true rfl) m_712 rfl rfl rfl (ic_5 (by unfold vRw; omega)) rfl rfl (by decide) (Nat.le_of_ble_eq_true rfl) dX4_next_22 (fun r21_ M22_ q23_ => ?_)
        obtain ⟨rfl, h24_, hs25_⟩ := q23_
        refine w_bipush (v := 32) dX4_next_25 (by decide) ?_
        refine w_icmp_ne (tgt := 43) dX4_next_27 (by decide) (rfl : r21_.toInt = r21_.toInt) li_32 (fun h26_ => ?_) (fun h26_ => ?_)
        · refine w_aload_n dX4_next_43 rfl 0 rfl ?_
          refine w_getI fl_RX4_31 rfl rfl ic_4 dX4_next_44 (fun z27_ e28_ => ?_)
          obtain rfl : z2_ = z27_ := e3_.trans e28_.symm
          refine w_aload_n dX4_next_47 rfl 0 rfl ?_
          refine w_getR (c' := (5, 0, 0)) fl_RX4_21 rfl rfl ic_4 dX4_next_48 (by rw [kv0_0]; rfl) ?_
          refine w_getI fl_RX4_65 rfl rfl (ic_5 (by unfold vRw; omega)) dX4_next_51 (fun z29_ e30_ => ?_)
          obtain rfl : z4_ = z29_ := e5_.trans e30_.symm
          refine w_icmp_ge (tgt := 71) dX4_next_54 (by decide) (rfl : z2_.toInt = z2_.toInt) (rfl : z4_.toInt = z4_.toInt) (fun h31_ => ?_) (fun h31_ => ?_)
          · refine w_iconst (v := (-1)) dX4_next_71 (by decide) ?_
            exact w_iret rfl dX4_next_72 ⟨hI_0, hF_0, trivial, ⟨M_0, hL_0, hI_0, hF_0, z2_, e3_, z4_, e5_, (Or.inr ⟨h6_, r21_, hs25_, h26_, (Or.inl ⟨h31_, rfl, rfl⟩)⟩)⟩⟩
          · refine w_aload_n dX4_next_57 rfl 0 rfl ?_
            refine w_getR (c' := (5, 0, 0)) fl_RX4_21 rfl rfl ic_4 dX4_next_58 (by rw [kv0_0]; rfl) ?_
            refine w_aload_n dX4_next_61 rfl 0 rfl ?_
            refine w_getI fl_RX4_31 rfl rfl ic_4 dX4_next_62 (fun z32_ e33_ => ?_)
            obtain rfl : z2_ = z32_ := e3_.trans e33_.symm
            refine w_callV (as := [vI z2_]) (rest := []) (c_X5_get l G cy ad d 0 0 z2_ M_0 hI_0 (by first | decide | (unfold vF; omega) | (unfold vRw; omega))) kV_X5_get pnn_2 (Nat.le_of_ble_eq_true rfl) m_712 rfl rfl rfl (ic_5 (by unfold vRw; omega)) rfl rfl (by decide) (Nat.le_of_ble_eq_true rfl) dX4_next_65 (fun r34_ M35_ q36_ => ?_)
            obtain ⟨rfl, h37_, hs38_⟩ := q36_
            refine w_goto (tgt := 72) dX4_next_68 (by decide) ?_
            exact w_iret rfl dX4_next_72 ⟨hI_0, hF_0, trivial, ⟨M_0, hL_0, hI_0, hF_0, z2_, e3_, z4_, e5_, (Or.inr ⟨h6_, r21_, hs25_, h26_, (Or.inr ⟨h31_, r34_, hs38_, rfl, rfl⟩)⟩)⟩⟩
        · refine w_aload_n dX4_next_30 rfl 0 rfl ?_
          refine w_dup dX4_next_31 rfl ?_
          refine w_getI fl_RX4_31 rfl rfl ic_4 dX4_next_32 (fun z39_ e40_ => ?_)
          obtain rfl : z2_ = z39_ := e3_.trans e40_.symm
          refine w_iconst (v := 1) dX4_next_35 (by decide) ?_
          refine w_iaddB dX4_next_36 (rfl : z2_.toInt = z2_.toInt) li_1 (lf_c_X4_next_0 z2_ z4_ h6_ ) (fun z41_ h42_ => ?_)
          refine w_putI CC_nd fl_RX4_31 rfl rfl ic_4 dX4_next_37 (fun M43_ hM44_ => ?_)
          have hI45_ := hI_0.put hM44_ trivial
          have hF46_ := hF_0.put hM44_ (Or.inl ⟨rfl, rfl, rfl⟩)
          have kf47_ : M43_.1 (4, 0, 0) 1 = 1 := by rw [(show M43_.1 (4, 0, 0) 1 = M_0.1 (4, 0, 0) 1 by rw [hM44_, up_ne (by simp)])]; exact kv0_0
          refine w_goto (tgt := 0) dX4_next_40 (by decide) ?_
          refine w_loc (ls' := [(0, vR (4, 0, 0))]) [0] rfl ?_
          exact ih_0 M43_ hI45_ hF46_ kf47_ (RCH.tail hL_0 ⟨hI_0, hF_0, z2_, e3_, z4_, e5_, h6_, r21_, hs25_, h26_, z41_, h42_, M43_, hM44_, rfl⟩) (Nat.lt_of_lt_of_le (lf_c_X4_next_1 M43_ M_0 z2_ z4_ z41_ kv0_0 e3_ e5_ h6_ h42_ hM44_ kf47_ ) (Nat.le_of_lt_succ hm_0))
  exact lp1_ _ Mz hIz hFz hT RCH.refl (Nat.lt_succ_self _)
def S_c_X4_fail : rf → Nat → Prop := fun c k => (c.1 = 4 ∧ c.2.1 = 0 ∧ k = 4) ∨ False
def SP_X4_fail (Mz : mM) (M_ : mM) : Prop := ∃ z1_ : Int32, (z1_ = Mz.1 (4, 0, 0) 4) ∧ (((0 ≤ z1_.toInt) ∧ M_ = Mz) ∨ ((z1_.toInt < 0) ∧ ∃ z4_ : Int32, (z4_ = Mz.1 (4, 0, 0) 3) ∧ ∃ M6_ : mM, (M6_ = up Mz (4, 0, 0) 4 z4_) ∧ M_ = M6_))
set_option maxHeartbeats 4000000 in
set_option maxRecDepth 100000 in
theorem c_X4_fail (l : Launch) (G : va_G) (cy : Nat → ClassId) (ad : rf → Nat) (d : Nat) (Mz : mM) (hIz : Inv Mz) : WP CC l G cy ad yX4_fail cX4_fail 1 none d 0 [(0, vR (4, 0, 0))] [] Mz (fun r M' => Inv M' ∧ FR (S_c_X4_fail) Mz M' ∧ (True) ∧ SP_X4_fail Mz M') := by
  have hFz : FR (S_c_X4_fail) Mz Mz := FR.self
  refine w_aload_n dX4_fail_0 rfl 0 rfl ?_
  refine w_getI fl_RX4_35 rfl rfl ic_4 dX4_fail_1 (fun z1_ e2_ => ?_)
  refine w_if_ge (tgt := 15) dX4_fail_4 (by decide) (rfl : z1_.toInt = z1_.toInt) (fun h3_ => ?_) (fun h3_ => ?_)
  · exact w_vret rfl dX4_fail_15 ⟨hIz, hFz, trivial, ⟨z1_, e2_, (Or.inl ⟨h3_, rfl⟩)⟩⟩
  · refine w_aload_n dX4_fail_7 rfl 0 rfl ?_
    refine w_aload_n dX4_fail_8 rfl 0 rfl ?_
    refine w_getI fl_RX4_31 rfl rfl ic_4 dX4_fail_9 (fun z4_ e5_ => ?_)
    refine w_putI CC_nd fl_RX4_35 rfl rfl ic_4 dX4_fail_12 (fun M6_ hM7_ => ?_)
    have hI8_ := hIz.put hM7_ trivial
    have hF9_ := hFz.put hM7_ (Or.inl ⟨rfl, rfl, rfl⟩)
    exact w_vret rfl dX4_fail_15 ⟨hI8_, hF9_, trivial, ⟨z1_, e2_, (Or.inr ⟨h3_, z4_, e5_, M6_, hM7_, rfl⟩)⟩⟩
def S_c_X4_expect : rf → Nat → Prop := fun c k => (c.1 = 4 ∧ c.2.1 = 0 ∧ k = 3) ∨ (c.1 = 4 ∧ c.2.1 = 0 ∧ k = 4) ∨ False
def SP_X4_expect (v : Int32) (Mz : mM) (M_ : mM) : Prop := ∃ M2_ : mM, (Inv M2_) ∧ (FR (S_c_X4_next) Mz M2_) ∧ ∃ r1_ : Int32, (SP_X4_next Mz r1_ M2_) ∧ (((r1_.toInt = v.toInt) ∧ ∃ z11_ : Int32, (z11_ = M2_.1 (4, 0, 0) 3) ∧ ∃ z13_ : Int32, (z13_ = z11_ + (1 : Int32)) ∧ ∃ M15_ : mM, (M15_ = up M2_ (4, 0, 0) 3 z13_) ∧ M_ = M15_) ∨ ((¬ r1_.toInt = v.toInt) ∧ ∃ M20_ : mM, (Inv M20_) ∧ (FR (S_c_X4_fail) M2_ M20_) ∧ (SP_X4_fail M2_ M20_) ∧ M_ = M20_))
set_option maxHeartbeats 4000000 in
set_option maxRecDepth 100000 in
theorem c_X4_expect (l : Launch) (G : va_G) (cy : Nat → ClassId) (ad : rf → Nat) (d : Nat) (v : Int32) (Mz : mM) (hIz : Inv Mz) (hT : Mz.1 (4, 0, 0) 1 = 1) : WP CC l G cy ad yX4_expect cX4_expect 2 none (d + 2) 0 [(0, vR (4, 0, 0)), (1, vI v)] [] Mz (fun r M' => Inv M' ∧ FR (S_c_X4_expect) Mz M' ∧ (True) ∧ SP_X4_expect v Mz M') := by
  have hFz : FR (S_c_X4_expect) Mz Mz := FR.self
  refine w_aload_n dX4_expect_0 rfl 0 rfl ?_
  refine w_callV (as := []) (rest := []) (c_X4_next l G cy ad d Mz hIz hT) kV_X4_next pnn_16 (Nat.le_of_ble_eq_true rfl) m_708 rfl rfl rfl ic_4 rfl rfl (by decide) (Nat.le_of_ble_eq_true rfl) dX4_expect_1 (fun r1_ M2_ q3_ => ?_)
  obtain ⟨hI5_, hF6_, h4_, hs8_⟩ := q3_
  have hF7_ := hFz.tr hF6_ (fun c k => (fun h => h.elim (fun h => (Or.inl ⟨h.1, h.2.1, h.2.2⟩)) (fun h => h.elim)))
  have kf9_ : M2_.1 (4, 0, 0) 1 = 1 := by rw [(hF6_ (4, 0, 0) 1 (by simp [S_c_X4_next]))]; exact hT
  refine w_iload_n dX4_expect_4 rfl 1 rfl ?_
  refine w_icmp_eq (tgt := 15) dX4_expect_5 (by decide) (rfl : r1_.toInt = r1_.toInt) (rfl : v.toInt = v.toInt) (fun h10_ => ?_) (fun h10_ => ?_)
  · refine w_aload_n dX4_expect_15 rfl 0 rfl ?_
    refine w_dup dX4_expect_16 rfl ?_
    refine w_getI fl_RX4_31 rfl rfl ic_4 dX4_expect_17 (fun z11_ e12_ => ?_)
    refine w_iconst (v := 1) dX4_expect_20 (by decide) ?_
    refine w_iadd dX4_expect_21 (fun z13_ h14_ => ?_)
    refine w_putI CC_nd fl_RX4_31 rfl rfl ic_4 dX4_expect_22 (fun M15_ hM16_ => ?_)
    have hI17_ := hI5_.put hM16_ trivial
    have hF18_ := hF7_.put hM16_ (Or.inl ⟨rfl, rfl, rfl⟩)
    have kf19_ : M15_.1 (4, 0, 0) 1 = 1 := by rw [(show M15_.1 (4, 0, 0) 1 = M2_.1 (4, 0, 0) 1 by rw [hM16_, up_ne (by simp)])]; exact kf9_
    exact w_vret rfl dX4_expect_25 ⟨hI17_, hF18_, trivial, ⟨M2_, hI5_, hF6_, r1_, hs8_, (Or.inl ⟨h10_, z11_, e12_, z13_, h14_, M15_, hM16_, rfl⟩)⟩⟩
  · refine w_aload_n dX4_expect_8 rfl 0 rfl ?_
    refine w_callVv (as := []) (rest := []) (c_X4_fail l G cy ad (d + 1) M2_ hI5_) kV_X4_fail pnn_16 (Nat.le_of_ble_eq_true rfl) m_728 rfl rfl rfl ic_4 rfl rfl (by decide) (Nat.le_of_ble_eq_true rfl) dX4_expect_9 (fun M20_ q21_ => ?_)
    obtain ⟨hI23_, hF24_, h22_, hs26_⟩ := q21_
    have hF25_ := hF7_.tr hF24_ (fun c k => (fun h => h.elim (fun h => (Or.inr (Or.inl ⟨h.1, h.2.1, h.2.2⟩))) (fun h => h.elim)))
    have kf27_ : M20_.1 (4, 0, 0) 1 = 1 := by rw [(hF24_ (4, 0, 0) 1 (by simp [S_c_X4_fail]))]; exact kf9_
    refine w_goto (tgt := 25) dX4_expect_12 (by decide) ?_
    exact w_vret rfl dX4_expect_25 ⟨hI23_, hF25_, trivial, ⟨M2_, hI5_, hF6_, r1_, hs8_, (Or.inr ⟨h10_, M20_, hI23_, hF24_, hs26_, rfl⟩)⟩⟩
def S_c_X4_readNumber : rf → Nat → Prop := fun c k => (c.1 = 24 ∧ c.2.1 = 3 ∧ c.2.2 = 0) ∨ (c.1 = 1 ∧ c.2.1 = 3 ∧ c.2.2 = 0 ∧ k = 2) ∨ (c.1 = 4 ∧ c.2.1 = 0 ∧ k = 6) ∨ (c.1 = 4 ∧ c.2.1 = 0 ∧ k = 3) ∨ False
def ST_X4_readNumber_4 (Mz : mM) (v2_4 : Int32) (v1_4 : Int32) (M_4 : mM) (v2_4y : Int32) (v1_4y : Int32) (M_4y : mM) : Prop := (0 ≤ v2_4.toInt) ∧ (v2_4.toInt ≤ 3) ∧ (Inv M_4) ∧ (FR (S_c_X4_readNumber) Mz M_4) ∧ (v2_4.toInt < 3) ∧ ∃ z20_ : Int32, (z20_ = M_4.1 (4, 0, 0) 3) ∧ ∃ z22_ : Int32, (z22_ = M_4.1 (5, 0, 0) 1) ∧ (z20_.toInt < z22_.toInt) ∧ ∃ r45_ : Int32, (SP_X5_get 0 0 z20_ M_4 r45_) ∧ ∃ z50_ : Int32, (z50_ = r45_ - (48 : Int32)) ∧ (0 ≤ z50_.toInt) ∧ (z50_.toInt ≤ 9) ∧ ∃ z71_ : Int32, (z71_ = (10 : Int32) * v1_4) ∧ ∃ z73_ : Int32, (z73_ = z71_ + z50_) ∧ ∃ z77_ : Int32, (z77_.toInt = z20_.toInt + 1) ∧ ∃ M79_ : mM, (M79_ = up M_4 (4, 0, 0) 3 z77_) ∧ ∃ z84_ : Int32, (z84_.toInt = v2_4.toInt + 1) ∧ v2_4y = z84_ ∧ v1_4y = z73_ ∧ M_4y = M79_
def SP_X4_readNumber (Mz : mM) (M_ : mM) : Prop := ∃ v2_4 : Int32, (0 ≤ v2_4.toInt) ∧ (v2_4.toInt ≤ 3) ∧ ∃ v1_4 : Int32, ∃ M_4 : mM, (RCH (fun x_ y_ => ST_X4_readNumber_4 Mz x_.1 x_.2.1 x_.2.2 y_.1 y_.2.1 y_.2.2) ((0 : Int32), (0 : Int32), Mz) (v2_4, v1_4, M_4)) ∧ (Inv M_4) ∧ (FR (S_c_X4_readNumber) Mz M_4) ∧ (((3 ≤ v2_4.toInt) ∧ ∃ M3_ : mM, (Inv M3_) ∧ (FR (S_c_X1_add 3 0) M_4 M3_) ∧ (SP_X1_add 3 0 v1_4 M_4 M3_) ∧ ∃ z11_ : Int32, (z11_ = M3_.1 (4, 0, 0) 6) ∧ ∃ z13_ : Int32, (z13_ = z11_ + (1 : Int32)) ∧ ∃ M15_ : mM, (M15_ = up M3_ (4, 0, 0) 6 z13_) ∧ M_ = M15_) ∨ ((v2_4.toInt < 3) ∧ ∃ z20_ : Int32, (z20_ = M_4.1 (4, 0, 0) 3) ∧ ∃ z22_ : Int32, (z22_ = M_4.1 (5, 0, 0) 1) ∧ (((z22_.toInt ≤ z20_.toInt) ∧ ∃ M26_ : mM, (Inv M26_) ∧ (FR (S_c_X1_add 3 0) M_4 M26_) ∧ (SP_X1_add 3 0 v1_4 M_4 M26_) ∧ ∃ z34_ : Int32, (z34_ = M26_.1 (4, 0, 0) 6) ∧ ∃ z36_ : Int32, (z36_ = z34_ + (1 : Int32)) ∧ ∃ M38_ : mM, (M38_ = up M26_ (4, 0, 0) 6 z36_) ∧ M_ = M38_) ∨ ((z20_.toInt < z22_.toInt) ∧ ∃ r45_ : Int32, (SP_X5_get 0 0 z20_ M_4 r45_) ∧ ∃ z50_ : Int32, (z50_ = r45_ - (48 : Int32)) ∧ (((z50_.toInt < 0) ∧ ∃ M53_ : mM, (Inv M53_) ∧ (FR (S_c_X1_add 3 0) M_4 M53_) ∧ (SP_X1_add 3 0 v1_4 M_4 M53_) ∧ ∃ z61_ : Int32, (z61_ = M53_.1 (4, 0, 0) 6) ∧ ∃ z63_ : Int32, (z63_ = z61_ + (1 : Int32)) ∧ ∃ M65_ : mM, (M65_ = up M53_ (4, 0, 0) 6 z63_) ∧ M_ = M65_) ∨ ((0 ≤ z50_.toInt) ∧ (9 < z50_.toInt) ∧ ∃ M86_ : mM, (Inv M86_) ∧ (FR (S_c_X1_add 3 0) M_4 M86_) ∧ (SP_X1_add 3 0 v1_4 M_4 M86_) ∧ ∃ z94_ : Int32, (z94_ = M86_.1 (4, 0, 0) 6) ∧ ∃ z96_ : Int32, (z96_ = z94_ + (1 : Int32)) ∧ ∃ M98_ : mM, (M98_ = up M86_ (4, 0, 0) 6 z96_) ∧ M_ = M98_))))))
set_option maxHeartbeats 4000000 in
set_option maxRecDepth 100000 in
theorem c_X4_readNumber (l : Launch) (G : va_G) (cy : Nat → ClassId) (ad : rf → Nat) (d : Nat) (Mz : mM) (hIz : Inv Mz) (hT : Mz.1 (4, 0, 0) 1 = 1) : WP CC l G cy ad yX4_readNumber cX4_readNumber 4 none (d + 1) 0 [(0, vR (4, 0, 0))] [] Mz (fun r M' => Inv M' ∧ FR (S_c_X4_readNumber) Mz M' ∧ (True) ∧ SP_X4_readNumber Mz M') := by
  have hFz : FR (S_c_X4_readNumber) Mz Mz := FR.self
  refine w_iconst (v := 0) dX4_readNumber_0 (by decide) ?_
  refine w_istore_n (ls' := [(1, vI 0), (0, vR (4, 0, 0))]) dX4_readNumber_1 rfl (by decide) rfl ?_
  refine w_iconst (v := 0) dX4_readNumber_2 (by decide) ?_
  refine w_istore_n (ls' := [(2, vI 0), (1, vI 0), (0, vR (4, 0, 0))]) dX4_readNumber_3 rfl (by decide) rfl ?_
  have lp1_ : ∀ (nn_4 : Nat) (M_4 : mM) (hI_4 : Inv M_4) (hF_4 : FR (S_c_X4_readNumber) Mz M_4) (v2_4 : Int32) (v1_4 : Int32) (hv0_4 : 0 ≤ v2_4.toInt) (hv1_4 : v2_4.toInt ≤ 3) (kv0_4 : M_4.1 (4, 0, 0) 1 = 1) (hL_4 : RCH (fun x_ y_ => ST_X4_readNumber_4 Mz x_.1 x_.2.1 x_.2.2 y_.1 y_.2.1 y_.2.2) ((0 : Int32), (0 : Int32), Mz) (v2_4, v1_4, M_4)), (2147483648 - v2_4.toInt).toNat < nn_4 → WP CC l G cy ad yX4_readNumber cX4_readNumber 4 none (d + 1) 4 [(2, vI v2_4), (1, vI v1_4), (0, vR (4, 0, 0))] [] M_4 (fun r M' => Inv M' ∧ FR (S_c_X4_readNumber) Mz M' ∧ (True) ∧ SP_X4_readNumber Mz M') := by
    intro nn_4
    induction nn_4 with
    | zero => intro M_4 hI_4 hF_4 v2_4 v1_4 hv0_4 hv1_4 kv0_4 hL_4 hm_4; exact absurd hm_4 (Nat.not_lt_zero _)
    | succ nn_4 ih_4 =>
      intro M_4 hI_4 hF_4 v2_4 v1_4 hv0_4 hv1_4 kv0_4 hL_4 hm_4
      refine w_iload_n dX4_readNumber_4 rfl 0 rfl ?_
      refine w_iconst (v := 3) dX4_readNumber_5 (by decide) ?_
      refine w_icmp_ge (tgt := 78) dX4_readNumber_6 (by decide) (rfl : v2_4.toInt = v2_4.toInt) li_3 (fun h2_ => ?_) (fun h2_ => ?_)
      · refine w_aload_n dX4_readNumber_78 rfl 2 rfl ?_
        refine w_getR (c' := (1, 3, 0)) fl_RX4_10 rfl rfl ic_4 dX4_readNumber_79 rfl ?_
        refine w_iload_n dX4_readNumber_82 rfl 1 rfl ?_
        refine w_callVv (as := [vI v1_4]) (rest := []) (c_X1_add l G cy ad d 3 0 v1_4 M_4 hI_4 (by first | decide | (unfold vF; omega) | (unfold vRw; omega))) kV_X1_add pnn_6 (Nat.le_of_ble_eq_true rfl) m_720 rfl rfl rfl (ic_1 (by unfold vF; omega)) rfl rfl (by decide) (Nat.le_of_ble_eq_true rfl) dX4_readNumber_83 (fun M3_ q4_ => ?_)
        obtain ⟨hI6_, hF7_, h5_, hs9_⟩ := q4_
        have hF8_ := hF_4.tr hF7_ (fun c k => (fun h => h.elim (fun h => (Or.inl ⟨h.1, h.2.1, h.2.2⟩)) (fun h => h.elim (fun h => (Or.inr (Or.inl ⟨h.1, h.2.1, h.2.2.1, h.2.2.2⟩))) (fun h => h.elim))))
        have kf10_ : M3_.1 (4, 0, 0) 1 = 1 := by rw [(hF7_ (4, 0, 0) 1 (by simp [S_c_X1_add]))]; exact kv0_4
        refine w_aload_n dX4_readNumber_86 rfl 2 rfl ?_
        refine w_dup dX4_readNumber_87 rfl ?_
        refine w_getI fl_RX4_41 rfl rfl ic_4 dX4_readNumber_88 (fun z11_ e12_ => ?_)
        refine w_iconst (v := 1) dX4_readNumber_91 (by decide) ?_
        refine w_iadd dX4_readNumber_92 (fun z13_ h14_ => ?_)
        refine w_putI CC_nd fl_RX4_41 rfl rfl ic_4 dX4_readNumber_93 (fun M15_ hM16_ => ?_)
        have hI17_ := hI6_.put hM16_ trivial
        have hF18_ := hF8_.put hM16_ (Or.inr (Or.inr (Or.inl ⟨rfl, rfl, rfl⟩)))
        have kf19_ : M15_.1 (4, 0, 0) 1 = 1 := by rw [(show M15_.1 (4, 0, 0) 1 = M3_.1 (4, 0, 0) 1 by rw [hM16_, up_ne (by simp)])]; exact kf10_
        exact w_vret rfl dX4_readNumber_96 ⟨hI17_, hF18_, trivial, ⟨v2_4, hv0_4, hv1_4, v1_4, M_4, hL_4, hI_4, hF_4, (Or.inl ⟨h2_, M3_, hI6_, hF7_, hs9_, z11_, e12_, z13_, h14_, M15_, hM16_, rfl⟩)⟩⟩
      · refine w_aload_n dX4_readNumber_9 rfl 2 rfl ?_
        refine w_getI fl_RX4_31 rfl rfl ic_4 dX4_readNumber_10 (fun z20_ e21_ => ?_)
        refine w_aload_n dX4_readNumber_13 rfl 2 rfl ?_
        refine w_getR (c' := (5, 0, 0)) fl_RX4_21 rfl rfl ic_4 dX4_readNumber_14 (by rw [kv0_4]; rfl) ?_
        refine w_getI fl_RX4_65 rfl rfl (ic_5 (by unfold vRw; omega)) dX4_readNumber_17 (fun z22_ e23_ => ?_)
        refine w_icmp_ge (tgt := 40) dX4_readNumber_20 (by decide) (rfl : z20_.toInt = z20_.toInt) (rfl : z22_.toInt = z22_.toInt) (fun h24_ => ?_) (fun h24_ => ?_)
        · refine w_iconst (v := (-1)) dX4_readNumber_40 (by decide) ?_
          refine w_istore_n (ls' := [(3, vI (-1)), (2, vI v2_4), (1, vI v1_4), (0, vR (4, 0, 0))]) dX4_readNumber_41 rfl (by decide) rfl ?_
          refine w_iload_n dX4_readNumber_42 rfl 0 rfl ?_
          refine w_if_lt (tgt := 78) dX4_readNumber_43 (by decide) li_m1 (fun h25_ => ?_) (fun h9 => (absurd h9 (by decide)))
          refine w_aload_n dX4_readNumber_78 rfl 3 rfl ?_
          refine w_getR (c' := (1, 3, 0)) fl_RX4_10 rfl rfl ic_4 dX4_readNumber_79 rfl ?_
          refine w_iload_n dX4_readNumber_82 rfl 2 rfl ?_
          refine w_callVv (as := [vI v1_4]) (rest := []) (c_X1_add l G cy ad d 3 0 v1_4 M_4 hI_4 (by first | decide | (unfold vF; omega) | (unfold vRw; omega))) kV_X1_add pnn_6 (Nat.le_of_ble_eq_true rfl) m_720 rfl rfl rfl (ic_1 (by unfold vF; omega)) rfl rfl (by decide) (Nat.le_of_ble_eq_true rfl) dX4_readNumber_83 (fun M26_ q27_ => ?_)
          obtain ⟨hI29_, hF30_, h28_, hs32_⟩ := q27_
          have hF31_ := hF_4.tr hF30_ (fun c k => (fun h => h.elim (fun h => (Or.inl ⟨h.1, h.2.1, h.2.2⟩)) (fun h => h.elim (fun h => (Or.inr (Or.inl ⟨h.1, h.2.1, h.2.2.1, h.2.2.2⟩))) (fun h => h.elim))))
          have kf33_ : M26_.1 (4, 0, 0) 1 = 1 := by rw [(hF30_ (4, 0, 0) 1 (by simp [S_c_X1_add]))]; exact kv0_4
          refine w_aload_n dX4_readNumber_86 rfl 3 rfl ?_
          refine w_dup dX4_readNumber_87 rfl ?_
          refine w_getI fl_RX4_41 rfl rfl ic_4 dX4_readNumber_88 (fun z34_ e35_ => ?_)
          refine w_iconst (v := 1) dX4_readNumber_91 (by decide) ?_
          refine w_iadd dX4_readNumber_92 (fun z36_ h37_ => ?_)
          refine w_putI CC_nd fl_RX4_41 rfl rfl ic_4 dX4_readNumber_93 (fun M38_ hM39_ => ?_)
          have hI40_ := hI29_.put hM39_ trivial
          have hF41_ := hF31_.put hM39_ (Or.inr (Or.inr (Or.inl ⟨rfl, rfl, rfl⟩)))
          have kf42_ : M38_.1 (4, 0, 0) 1 = 1 := by rw [(show M38_.1 (4, 0, 0) 1 = M26_.1 (4, 0, 0) 1 by rw [hM39_, up_ne (by simp)])]; exact kf33_
          exact w_vret rfl dX4_readNumber_96 ⟨hI40_, hF41_, trivial, ⟨v2_4, hv0_4, hv1_4, v1_4, M_4, hL_4, hI_4, hF_4, (Or.inr ⟨h2_, z20_, e21_, z22_, e23_, (Or.inl ⟨h24_, M26_, hI29_, hF30_, hs32_, z34_, e35_, z36_, h37_, M38_, hM39_, rfl⟩)⟩)⟩⟩
        · refine w_aload_n dX4_readNumber_23 rfl 2 rfl ?_
          refine w_getR (c' := (5, 0, 0)) fl_RX4_21 rfl rfl ic_4 dX4_readNumber_24 (by rw [kv0_4]; rfl) ?_
          refine w_aload_n dX4_readNumber_27 rfl 2 rfl ?_
          refine w_getI fl_RX4_31 rfl rfl ic_4 dX4_readNumber_28 (fun z43_ e44_ => ?_)
          obtain rfl : z20_ = z43_ := e21_.trans e44_.symm
          refine w_callV (as := [vI z20_]) (rest := []) (c_X5_get l G cy ad d 0 0 z20_ M_4 hI_4 (by first | decide | (unfold vF; omega) | (unfold vRw; omega))) kV_X5_get pnn_2 (Nat.le_of_ble_eq_true rfl) m_712 rfl rfl rfl (ic_5 (by unfold vRw; omega)) rfl rfl (by decide) (Nat.le_of_ble_eq_true rfl) dX4_readNumber_31 (fun r45_ M46_ q47_ => ?_)
          obtain ⟨rfl, h48_, hs49_⟩ := q47_
          refine w_bipush (v := 48) dX4_readNumber_34 (by decide) ?_
          refine w_isub dX4_readNumber_36 (fun z50_ h51_ => ?_)
          refine w_goto (tgt := 41) dX4_readNumber_37 (by decide) ?_
          refine w_istore_n (ls' := [(3, vI z50_), (2, vI v2_4), (1, vI v1_4), (0, vR (4, 0, 0))]) dX4_readNumber_41 rfl (by decide) rfl ?_
          refine w_iload_n dX4_readNumber_42 rfl 0 rfl ?_
          refine w_if_lt (tgt := 78) dX4_readNumber_43 (by decide) (rfl : z50_.toInt = z50_.toInt) (fun h52_ => ?_) (fun h52_ => ?_)
          · refine w_aload_n dX4_readNumber_78 rfl 3 rfl ?_
            refine w_getR (c' := (1, 3, 0)) fl_RX4_10 rfl rfl ic_4 dX4_readNumber_79 rfl ?_
            refine w_iload_n dX4_readNumber_82 rfl 2 rfl ?_
            refine w_callVv (as := [vI v1_4]) (rest := []) (c_X1_add l G cy ad d 3 0 v1_4 M_4 hI_4 (by first | decide | (unfold vF; omega) | (unfold vRw; omega))) kV_X1_add pnn_6 (Nat.le_of_ble_eq_true rfl) m_720 rfl rfl rfl (ic_1 (by unfold vF; omega)) rfl rfl (by decide) (Nat.le_of_ble_eq_true rfl) dX4_readNumber_83 (fun M53_ q54_ => ?_)
            obtain ⟨hI56_, hF57_, h55_, hs59_⟩ := q54_
            have hF58_ := hF_4.tr hF57_ (fun c k => (fun h => h.elim (fun h => (Or.inl ⟨h.1, h.2.1, h.2.2⟩)) (fun h => h.elim (fun h => (Or.inr (Or.inl ⟨h.1, h.2.1, h.2.2.1, h.2.2.2⟩))) (fun h => h.elim))))
            have kf60_ : M53_.1 (4, 0, 0) 1 = 1 := by rw [(hF57_ (4, 0, 0) 1 (by simp [S_c_X1_add]))]; exact kv0_4
            refine w_aload_n dX4_readNumber_86 rfl 3 rfl ?_
            refine w_dup dX4_readNumber_87 rfl ?_
            refine w_getI fl_RX4_41 rfl rfl ic_4 dX4_readNumber_88 (fun z61_ e62_ => ?_)
            refine w_iconst (v := 1) dX4_readNumber_91 (by decide) ?_
            refine w_iadd dX4_readNumber_92 (fun z63_ h64_ => ?_)
            refine w_putI CC_nd fl_RX4_41 rfl rfl ic_4 dX4_readNumber_93 (fun M65_ hM66_ => ?_)
            have hI67_ := hI56_.put hM66_ trivial
            have hF68_ := hF58_.put hM66_ (Or.inr (Or.inr (Or.inl ⟨rfl, rfl, rfl⟩)))
            have kf69_ : M65_.1 (4, 0, 0) 1 = 1 := by rw [(show M65_.1 (4, 0, 0) 1 = M53_.1 (4, 0, 0) 1 by rw [hM66_, up_ne (by simp)])]; exact kf60_
            exact w_vret rfl dX4_readNumber_96 ⟨hI67_, hF68_, trivial, ⟨v2_4, hv0_4, hv1_4, v1_4, M_4, hL_4, hI_4, hF_4, (Or.inr ⟨h2_, z20_, e21_, z22_, e23_, (Or.inr ⟨h24_, r45_, hs49_, z50_, h51_, (Or.inl ⟨h52_, M53_, hI56_, hF57_, hs59_, z61_, e62_, z63_, h64_, M65_, hM66_, rfl⟩)⟩)⟩)⟩⟩
          · refine w_iload_n dX4_readNumber_46 rfl 0 rfl ?_
            refine w_bipush (v := 9) dX4_readNumber_47 (by decide) ?_
            refine w_icmp_le (tgt := 55) dX4_readNumber_49 (by decide) (rfl : z50_.toInt = z50_.toInt) li_9 (fun h70_ => ?_) (fun h70_ => ?_)
            · refine w_bipush (v := 10) dX4_readNumber_55 (by decide) ?_
              refine w_iload_n dX4_readNumber_57 rfl 2 rfl ?_
              refine w_imul dX4_readNumber_58 (fun z71_ h72_ => ?_)
              refine w_iload_n dX4_readNumber_59 rfl 0 rfl ?_
              refine w_iadd dX4_readNumber_60 (fun z73_ h74_ => ?_)
              refine w_istore_n (ls' := [(1, vI z73_), (3, vI z50_), (2, vI v2_4), (0, vR (4, 0, 0))]) dX4_readNumber_61 rfl (by decide) rfl ?_
              refine w_aload_n dX4_readNumber_62 rfl 3 rfl ?_
              refine w_dup dX4_readNumber_63 rfl ?_
              refine w_getI fl_RX4_31 rfl rfl ic_4 dX4_readNumber_64 (fun z75_ e76_ => ?_)
              obtain rfl : z20_ = z75_ := e21_.trans e76_.symm
              refine w_iconst (v := 1) dX4_readNumber_67 (by decide) ?_
              refine w_iaddB dX4_readNumber_68 (rfl : z20_.toInt = z20_.toInt) li_1 (lf_c_X4_next_0 z20_ z22_ h24_ ) (fun z77_ h78_ => ?_)
              refine w_putI CC_nd fl_RX4_31 rfl rfl ic_4 dX4_readNumber_69 (fun M79_ hM80_ => ?_)
              have hI81_ := hI_4.put hM80_ trivial
              have hF82_ := hF_4.put hM80_ (Or.inr (Or.inr (Or.inr (Or.inl ⟨rfl, rfl, rfl⟩))))
              have kf83_ : M79_.1 (4, 0, 0) 1 = 1 := by rw [(show M79_.1 (4, 0, 0) 1 = M_4.1 (4, 0, 0) 1 by rw [hM80_, up_ne (by simp)])]; exact kv0_4
              refine w_iincB (j := 2) (f := fun z84_ => [(2, vI z84_), (1, vI z73_), (3, vI z50_), (0, vR (4, 0, 0))]) dX4_readNumber_72 rfl (by decide) (fun _ => rfl) (rfl : v2_4.toInt = v2_4.toInt) li_1 (lf_c_X2_takeFrom_2 v2_4 hv0_4 h2_ ) (fun z84_ h85_ => ?_)
              refine w_goto (tgt := 4) dX4_readNumber_75 (by decide) ?_
              refine w_loc (ls' := [(2, vI z84_), (1, vI z73_), (0, vR (4, 0, 0))]) [0, 1, 3] rfl ?_
              exact ih_4 M79_ hI81_ hF82_ z84_ z73_ (lf_c_X5_takeFrom_3 v2_4 z84_ hv0_4 h85_ ) (lf_c_X2_takeFrom_4 v2_4 z84_ h2_ h85_ ) kf83_ (RCH.tail hL_4 ⟨hv0_4, hv1_4, hI_4, hF_4, h2_, z20_, e21_, z22_, e23_, h24_, r45_, hs49_, z50_, h51_, h52_, h70_, z71_, h72_, z73_, h74_, z77_, h78_, M79_, hM80_, z84_, h85_, rfl, rfl, rfl⟩) (Nat.lt_of_lt_of_le (lf_c_X2_takeFrom_5 v2_4 z84_ h2_ h85_ ) (Nat.le_of_lt_succ hm_4))
            · refine w_goto (tgt := 78) dX4_readNumber_52 (by decide) ?_
              refine w_aload_n dX4_readNumber_78 rfl 3 rfl ?_
              refine w_getR (c' := (1, 3, 0)) fl_RX4_10 rfl rfl ic_4 dX4_readNumber_79 rfl ?_
              refine w_iload_n dX4_readNumber_82 rfl 2 rfl ?_
              refine w_callVv (as := [vI v1_4]) (rest := []) (c_X1_add l G cy ad d 3 0 v1_4 M_4 hI_4 (by first | decide | (unfold vF; omega) | (unfold vRw; omega))) kV_X1_add pnn_6 (Nat.le_of_ble_eq_true rfl) m_720 rfl rfl rfl (ic_1 (by unfold vF; omega)) rfl rfl (by decide) (Nat.le_of_ble_eq_true rfl) dX4_readNumber_83 (fun M86_ q87_ => ?_)
              obtain ⟨hI89_, hF90_, h88_, hs92_⟩ := q87_
              have hF91_ := hF_4.tr hF90_ (fun c k => (fun h => h.elim (fun h => (Or.inl ⟨h.1, h.2.1, h.2.2⟩)) (fun h => h.elim (fun h => (Or.inr (Or.inl ⟨h.1, h.2.1, h.2.2.1, h.2.2.2⟩))) (fun h => h.elim))))
              have kf93_ : M86_.1 (4, 0, 0) 1 = 1 := by rw [(hF90_ (4, 0, 0) 1 (by simp [S_c_X1_add]))]; exact kv0_4
              refine w_aload_n dX4_readNumber_86 rfl 3 rfl ?_
              refine w_dup dX4_readNumber_87 rfl ?_
              refine w_getI fl_RX4_41 rfl rfl ic_4 dX4_readNumber_88 (fun z94_ e95_ => ?_)
              refine w_iconst (v := 1) dX4_readNumber_91 (by decide) ?_
              refine w_iadd dX4_readNumber_92 (fun z96_ h97_ => ?_)
              refine w_putI CC_nd fl_RX4_41 rfl rfl ic_4 dX4_readNumber_93 (fun M98_ hM99_ => ?_)
              have hI100_ := hI89_.put hM99_ trivial
              have hF101_ := hF91_.put hM99_ (Or.inr (Or.inr (Or.inl ⟨rfl, rfl, rfl⟩)))
              have kf102_ : M98_.1 (4, 0, 0) 1 = 1 := by rw [(show M98_.1 (4, 0, 0) 1 = M86_.1 (4, 0, 0) 1 by rw [hM99_, up_ne (by simp)])]; exact kf93_
              exact w_vret rfl dX4_readNumber_96 ⟨hI100_, hF101_, trivial, ⟨v2_4, hv0_4, hv1_4, v1_4, M_4, hL_4, hI_4, hF_4, (Or.inr ⟨h2_, z20_, e21_, z22_, e23_, (Or.inr ⟨h24_, r45_, hs49_, z50_, h51_, (Or.inr ⟨h52_, h70_, M86_, hI89_, hF90_, hs92_, z94_, e95_, z96_, h97_, M98_, hM99_, rfl⟩)⟩)⟩)⟩⟩
  exact lp1_ _ Mz hIz hFz 0 0 (lf_c_X5_takeFrom_5 ) (lf_c_X2_takeFrom_7 ) hT RCH.refl (Nat.lt_succ_self _)
def S_c_X4_readName : rf → Nat → Prop := fun c k => (c.1 = 4 ∧ c.2.1 = 0 ∧ k = 4) ∨ (c.1 = 4 ∧ c.2.1 = 0 ∧ k = 3) ∨ (c.1 = 24 ∧ c.2.1 = 3 ∧ c.2.2 = 0) ∨ (c.1 = 1 ∧ c.2.1 = 3 ∧ c.2.2 = 0 ∧ k = 2) ∨ (c.1 = 4 ∧ c.2.1 = 0 ∧ k = 6) ∨ False
def SP_X4_readName (v : Int32) (Mz : mM) (M_ : mM) : Prop := (((v.toInt < 0) ∧ ∃ M3_ : mM, (Inv M3_) ∧ (FR (S_c_X4_fail) Mz M3_) ∧ (SP_X4_fail Mz M3_) ∧ M_ = M3_) ∨ ((0 ≤ v.toInt) ∧ (((v.toInt ≤ 127) ∧ (((Mz.1 (4, 0, 0) 2 = 1) ∧ ∃ z14_ : Int32, (z14_ = (v.toUInt32 % 65536).toInt32) ∧ ∃ z16_ : Int32, (IXO 1 z14_ z16_ Mz) ∧ (((0 ≤ z16_.toInt) ∧ ∃ z18_ : Int32, (z18_ = Mz.1 (4, 0, 0) 3) ∧ ∃ z20_ : Int32, (z20_ = z18_ + (1 : Int32)) ∧ ∃ M22_ : mM, (M22_ = up Mz (4, 0, 0) 3 z20_) ∧ ∃ z28_ : Int32, (z28_ = (1000 : Int32) + z16_) ∧ (Inv M22_) ∧ ∃ M30_ : mM, (Inv M30_) ∧ (FR (S_c_X1_add 3 0) M22_ M30_) ∧ (SP_X1_add 3 0 z28_ M22_ M30_) ∧ ∃ z39_ : Int32, (z39_ = M30_.1 (4, 0, 0) 6) ∧ ∃ z41_ : Int32, (z41_ = z39_ + (1 : Int32)) ∧ ∃ M43_ : mM, (M43_ = up M30_ (4, 0, 0) 6 z41_) ∧ M_ = M43_) ∨ ((z16_.toInt < 0) ∧ ∃ M49_ : mM, (Inv M49_) ∧ (FR (S_c_X4_fail) Mz M49_) ∧ (SP_X4_fail Mz M49_) ∧ M_ = M49_))) ∨ ((Mz.1 (4, 0, 0) 2 = 2) ∧ ∃ z58_ : Int32, (z58_ = (v.toUInt32 % 65536).toInt32) ∧ ∃ z60_ : Int32, (IXO 2 z58_ z60_ Mz) ∧ (((0 ≤ z60_.toInt) ∧ ∃ z62_ : Int32, (z62_ = Mz.1 (4, 0, 0) 3) ∧ ∃ z64_ : Int32, (z64_ = z62_ + (1 : Int32)) ∧ ∃ M66_ : mM, (M66_ = up Mz (4, 0, 0) 3 z64_) ∧ ∃ z72_ : Int32, (z72_ = (1000 : Int32) + z60_) ∧ (Inv M66_) ∧ ∃ M74_ : mM, (Inv M74_) ∧ (FR (S_c_X1_add 3 0) M66_ M74_) ∧ (SP_X1_add 3 0 z72_ M66_ M74_) ∧ ∃ z83_ : Int32, (z83_ = M74_.1 (4, 0, 0) 6) ∧ ∃ z85_ : Int32, (z85_ = z83_ + (1 : Int32)) ∧ ∃ M87_ : mM, (M87_ = up M74_ (4, 0, 0) 6 z85_) ∧ M_ = M87_) ∨ ((z60_.toInt < 0) ∧ ∃ M93_ : mM, (Inv M93_) ∧ (FR (S_c_X4_fail) Mz M93_) ∧ (SP_X4_fail Mz M93_) ∧ M_ = M93_))) ∨ ((Mz.1 (4, 0, 0) 2 = 3) ∧ ∃ z102_ : Int32, (z102_ = (v.toUInt32 % 65536).toInt32) ∧ ∃ z104_ : Int32, (IXO 3 z102_ z104_ Mz) ∧ (((0 ≤ z104_.toInt) ∧ ∃ z106_ : Int32, (z106_ = Mz.1 (4, 0, 0) 3) ∧ ∃ z108_ : Int32, (z108_ = z106_ + (1 : Int32)) ∧ ∃ M110_ : mM, (M110_ = up Mz (4, 0, 0) 3 z108_) ∧ ∃ z116_ : Int32, (z116_ = (1000 : Int32) + z104_) ∧ (Inv M110_) ∧ ∃ M118_ : mM, (Inv M118_) ∧ (FR (S_c_X1_add 3 0) M110_ M118_) ∧ (SP_X1_add 3 0 z116_ M110_ M118_) ∧ ∃ z127_ : Int32, (z127_ = M118_.1 (4, 0, 0) 6) ∧ ∃ z129_ : Int32, (z129_ = z127_ + (1 : Int32)) ∧ ∃ M131_ : mM, (M131_ = up M118_ (4, 0, 0) 6 z129_) ∧ M_ = M131_) ∨ ((z104_.toInt < 0) ∧ ∃ M137_ : mM, (Inv M137_) ∧ (FR (S_c_X4_fail) Mz M137_) ∧ (SP_X4_fail Mz M137_) ∧ M_ = M137_))))) ∨ ((127 < v.toInt) ∧ ∃ M147_ : mM, (Inv M147_) ∧ (FR (S_c_X4_fail) Mz M147_) ∧ (SP_X4_fail Mz M147_) ∧ M_ = M147_))))
set_option maxHeartbeats 4000000 in
set_option maxRecDepth 100000 in
theorem c_X4_readName (l : Launch) (G : va_G) (cy : Nat → ClassId) (ad : rf → Nat) (d : Nat) (v : Int32) (Mz : mM) (hIz : Inv Mz) (hT : Mz.1 (4, 0, 0) 1 = 1) (hN : Mz.1 (4, 0, 0) 2 = 1 ∨ Mz.1 (4, 0, 0) 2 = 2 ∨ Mz.1 (4, 0, 0) 2 = 3) : WP CC l G cy ad yX4_readName cX4_readName 3 none (d + 8) 0 [(0, vR (4, 0, 0)), (1, vI v)] [] Mz (fun r M' => Inv M' ∧ FR (S_c_X4_readName) Mz M' ∧ (True) ∧ SP_X4_readName v Mz M') := by
  have hFz : FR (S_c_X4_readName) Mz Mz := FR.self
  refine w_iload_n dX4_readName_0 rfl 1 rfl ?_
  refine w_if_lt (tgt := 10) dX4_readName_1 (by decide) (rfl : v.toInt = v.toInt) (fun h1_ => ?_) (fun h1_ => ?_)
  · refine w_iconst (v := (-1)) dX4_readName_10 (by decide) ?_
    refine w_goto (tgt := 23) dX4_readName_11 (by decide) ?_
    refine w_istore_n (ls' := [(2, vI (-1)), (0, vR (4, 0, 0)), (1, vI v)]) dX4_readName_23 rfl (by decide) rfl ?_
    refine w_iload_n dX4_readName_24 rfl 0 rfl ?_
    refine w_if_ge (tgt := 33) dX4_readName_25 (by decide) li_m1 (fun h9 => (absurd h9 (by decide))) (fun h2_ => ?_)
    refine w_aload_n dX4_readName_28 rfl 1 rfl ?_
    refine w_callVv (as := []) (rest := []) (c_X4_fail l G cy ad (d + 7) Mz hIz) kV_X4_fail pnn_16 (Nat.le_of_ble_eq_true rfl) m_728 rfl rfl rfl ic_4 rfl rfl (by decide) (Nat.le_of_ble_eq_true rfl) dX4_readName_29 (fun M3_ q4_ => ?_)
    obtain ⟨hI6_, hF7_, h5_, hs9_⟩ := q4_
    have hF8_ := hFz.tr hF7_ (fun c k => (fun h => h.elim (fun h => (Or.inl ⟨h.1, h.2.1, h.2.2⟩)) (fun h => h.elim)))
    have kf10_ : M3_.1 (4, 0, 0) 1 = 1 := by rw [(hF7_ (4, 0, 0) 1 (by simp [S_c_X4_fail]))]; exact hT
    have kf11_ : M3_.1 (4, 0, 0) 2 = 1 ∨ M3_.1 (4, 0, 0) 2 = 2 ∨ M3_.1 (4, 0, 0) 2 = 3 := by rw [(hF7_ (4, 0, 0) 2 (by simp [S_c_X4_fail]))]; exact hN
    exact w_vret rfl dX4_readName_32 ⟨hI6_, hF8_, trivial, (Or.inl ⟨h1_, M3_, hI6_, hF7_, hs9_, rfl⟩)⟩
  · refine w_iload_n dX4_readName_4 rfl 1 rfl ?_
    refine w_bipush (v := 127) dX4_readName_5 (by decide) ?_
    refine w_icmp_le (tgt := 14) dX4_readName_7 (by decide) (rfl : v.toInt = v.toInt) li_127 (fun h12_ => ?_) (fun h12_ => ?_)
    · rcases hN with h13_ | h13_ | h13_
      · refine w_aload_n dX4_readName_14 rfl 0 rfl ?_
        refine w_getR (c' := (91, 1, 0)) fl_RX4_27 rfl rfl ic_4 dX4_readName_15 (by rw [h13_]; rfl) ?_
        refine w_iload_n dX4_readName_18 rfl 1 rfl ?_
        refine w_i2c dX4_readName_19 (fun z14_ h15_ => ?_)
        refine w_indexOf (k := 1) (by decide) m_740 (Nat.le_of_ble_eq_true rfl) (by omega) dX4_readName_20 (fun z16_ z16_h => ?_)
        refine w_istore_n (ls' := [(2, vI z16_), (0, vR (4, 0, 0)), (1, vI v)]) dX4_readName_23 rfl (by decide) rfl ?_
        refine w_iload_n dX4_readName_24 rfl 0 rfl ?_
        refine w_if_ge (tgt := 33) dX4_readName_25 (by decide) (rfl : z16_.toInt = z16_.toInt) (fun h17_ => ?_) (fun h17_ => ?_)
        · refine w_aload_n dX4_readName_33 rfl 1 rfl ?_
          refine w_dup dX4_readName_34 rfl ?_
          refine w_getI fl_RX4_31 rfl rfl ic_4 dX4_readName_35 (fun z18_ e19_ => ?_)
          refine w_iconst (v := 1) dX4_readName_38 (by decide) ?_
          refine w_iadd dX4_readName_39 (fun z20_ h21_ => ?_)
          refine w_putI CC_nd fl_RX4_31 rfl rfl ic_4 dX4_readName_40 (fun M22_ hM23_ => ?_)
          have hI24_ := hIz.put hM23_ trivial
          have hF25_ := hFz.put hM23_ (Or.inr (Or.inl ⟨rfl, rfl, rfl⟩))
          have kf26_ : M22_.1 (4, 0, 0) 1 = 1 := by rw [(show M22_.1 (4, 0, 0) 1 = Mz.1 (4, 0, 0) 1 by rw [hM23_, up_ne (by simp)])]; exact hT
          have kf27_ : M22_.1 (4, 0, 0) 2 = 1 := by rw [(show M22_.1 (4, 0, 0) 2 = Mz.1 (4, 0, 0) 2 by rw [hM23_, up_ne (by simp)])]; exact h13_
          refine w_aload_n dX4_readName_43 rfl 1 rfl ?_
          refine w_getR (c' := (1, 3, 0)) fl_RX4_10 rfl rfl ic_4 dX4_readName_44 rfl ?_
          refine w_sipush (v := 1000) dX4_readName_47 (by decide) ?_
          refine w_iload_n dX4_readName_50 rfl 0 rfl ?_
          refine w_iadd dX4_readName_51 (fun z28_ h29_ => ?_)
          refine w_callVv (as := [vI z28_]) (rest := []) (c_X1_add l G cy ad (d + 7) 3 0 z28_ M22_ hI24_ (by first | decide | (unfold vF; omega) | (unfold vRw; omega))) kV_X1_add pnn_6 (Nat.le_of_ble_eq_true rfl) m_720 rfl rfl rfl (ic_1 (by unfold vF; omega)) rfl rfl (by decide) (Nat.le_of_ble_eq_true rfl) dX4_readName_52 (fun M30_ q31_ => ?_)
          obtain ⟨hI33_, hF34_, h32_, hs36_⟩ := q31_
          have hF35_ := hF25_.tr hF34_ (fun c k => (fun h => h.elim (fun h => (Or.inr (Or.inr (Or.inl ⟨h.1, h.2.1, h.2.2⟩)))) (fun h => h.elim (fun h => (Or.inr (Or.inr (Or.inr (Or.inl ⟨h.1, h.2.1, h.2.2.1, h.2.2.2⟩))))) (fun h => h.elim))))
          have kf37_ : M30_.1 (4, 0, 0) 1 = 1 := by rw [(hF34_ (4, 0, 0) 1 (by simp [S_c_X1_add]))]; exact kf26_
          have kf38_ : M30_.1 (4, 0, 0) 2 = 1 := by rw [(hF34_ (4, 0, 0) 2 (by simp [S_c_X1_add]))]; exact kf27_
          refine w_aload_n dX4_readName_55 rfl 1 rfl ?_
          refine w_dup dX4_readName_56 rfl ?_
          refine w_getI fl_RX4_41 rfl rfl ic_4 dX4_readName_57 (fun z39_ e40_ => ?_)
          refine w_iconst (v := 1) dX4_readName_60 (by decide) ?_
          refine w_iadd dX4_readName_61 (fun z41_ h42_ => ?_)
          refine w_putI CC_nd fl_RX4_41 rfl rfl ic_4 dX4_readName_62 (fun M43_ hM44_ => ?_)
          have hI45_ := hI33_.put hM44_ trivial
          have hF46_ := hF35_.put hM44_ (Or.inr (Or.inr (Or.inr (Or.inr (Or.inl ⟨rfl, rfl, rfl⟩)))))
          have kf47_ : M43_.1 (4, 0, 0) 1 = 1 := by rw [(show M43_.1 (4, 0, 0) 1 = M30_.1 (4, 0, 0) 1 by rw [hM44_, up_ne (by simp)])]; exact kf37_
          have kf48_ : M43_.1 (4, 0, 0) 2 = 1 := by rw [(show M43_.1 (4, 0, 0) 2 = M30_.1 (4, 0, 0) 2 by rw [hM44_, up_ne (by simp)])]; exact kf38_
          exact w_vret rfl dX4_readName_65 ⟨hI45_, hF46_, trivial, (Or.inr ⟨h1_, (Or.inl ⟨h12_, (Or.inl ⟨h13_, z14_, h15_, z16_, z16_h, (Or.inl ⟨h17_, z18_, e19_, z20_, h21_, M22_, hM23_, z28_, h29_, hI24_, M30_, hI33_, hF34_, hs36_, z39_, e40_, z41_, h42_, M43_, hM44_, rfl⟩)⟩)⟩)⟩)⟩
        · refine w_aload_n dX4_readName_28 rfl 1 rfl ?_
          refine w_callVv (as := []) (rest := []) (c_X4_fail l G cy ad (d + 7) Mz hIz) kV_X4_fail pnn_16 (Nat.le_of_ble_eq_true rfl) m_728 rfl rfl rfl ic_4 rfl rfl (by decide) (Nat.le_of_ble_eq_true rfl) dX4_readName_29 (fun M49_ q50_ => ?_)
          obtain ⟨hI52_, hF53_, h51_, hs55_⟩ := q50_
          have hF54_ := hFz.tr hF53_ (fun c k => (fun h => h.elim (fun h => (Or.inl ⟨h.1, h.2.1, h.2.2⟩)) (fun h => h.elim)))
          have kf56_ : M49_.1 (4, 0, 0) 1 = 1 := by rw [(hF53_ (4, 0, 0) 1 (by simp [S_c_X4_fail]))]; exact hT
          have kf57_ : M49_.1 (4, 0, 0) 2 = 1 := by rw [(hF53_ (4, 0, 0) 2 (by simp [S_c_X4_fail]))]; exact h13_
          exact w_vret rfl dX4_readName_32 ⟨hI52_, hF54_, trivial, (Or.inr ⟨h1_, (Or.inl ⟨h12_, (Or.inl ⟨h13_, z14_, h15_, z16_, z16_h, (Or.inr ⟨h17_, M49_, hI52_, hF53_, hs55_, rfl⟩)⟩)⟩)⟩)⟩
      · refine w_aload_n dX4_readName_14 rfl 0 rfl ?_
        refine w_getR (c' := (91, 2, 0)) fl_RX4_27 rfl rfl ic_4 dX4_readName_15 (by rw [h13_]; rfl) ?_
        refine w_iload_n dX4_readName_18 rfl 1 rfl ?_
        refine w_i2c dX4_readName_19 (fun z58_ h59_ => ?_)
        refine w_indexOf (k := 2) (by decide) m_740 (Nat.le_of_ble_eq_true rfl) (by omega) dX4_readName_20 (fun z60_ z60_h => ?_)
        refine w_istore_n (ls' := [(2, vI z60_), (0, vR (4, 0, 0)), (1, vI v)]) dX4_readName_23 rfl (by decide) rfl ?_
        refine w_iload_n dX4_readName_24 rfl 0 rfl ?_
        refine w_if_ge (tgt := 33) dX4_readName_25 (by decide) (rfl : z60_.toInt = z60_.toInt) (fun h61_ => ?_) (fun h61_ => ?_)
        · refine w_aload_n dX4_readName_33 rfl 1 rfl ?_
          refine w_dup dX4_readName_34 rfl ?_
          refine w_getI fl_RX4_31 rfl rfl ic_4 dX4_readName_35 (fun z62_ e63_ => ?_)
          refine w_iconst (v := 1) dX4_readName_38 (by decide) ?_
          refine w_iadd dX4_readName_39 (fun z64_ h65_ => ?_)
          refine w_putI CC_nd fl_RX4_31 rfl rfl ic_4 dX4_readName_40 (fun M66_ hM67_ => ?_)
          have hI68_ := hIz.put hM67_ trivial
          have hF69_ := hFz.put hM67_ (Or.inr (Or.inl ⟨rfl, rfl, rfl⟩))
          have kf70_ : M66_.1 (4, 0, 0) 1 = 1 := by rw [(show M66_.1 (4, 0, 0) 1 = Mz.1 (4, 0, 0) 1 by rw [hM67_, up_ne (by simp)])]; exact hT
          have kf71_ : M66_.1 (4, 0, 0) 2 = 2 := by rw [(show M66_.1 (4, 0, 0) 2 = Mz.1 (4, 0, 0) 2 by rw [hM67_, up_ne (by simp)])]; exact h13_
          refine w_aload_n dX4_readName_43 rfl 1 rfl ?_
          refine w_getR (c' := (1, 3, 0)) fl_RX4_10 rfl rfl ic_4 dX4_readName_44 rfl ?_
          refine w_sipush (v := 1000) dX4_readName_47 (by decide) ?_
          refine w_iload_n dX4_readName_50 rfl 0 rfl ?_
          refine w_iadd dX4_readName_51 (fun z72_ h73_ => ?_)
          refine w_callVv (as := [vI z72_]) (rest := []) (c_X1_add l G cy ad (d + 7) 3 0 z72_ M66_ hI68_ (by first | decide | (unfold vF; omega) | (unfold vRw; omega))) kV_X1_add pnn_6 (Nat.le_of_ble_eq_true rfl) m_720 rfl rfl rfl (ic_1 (by unfold vF; omega)) rfl rfl (by decide) (Nat.le_of_ble_eq_true rfl) dX4_readName_52 (fun M74_ q75_ => ?_)
          obtain ⟨hI77_, hF78_, h76_, hs80_⟩ := q75_
          have hF79_ := hF69_.tr hF78_ (fun c k => (fun h => h.elim (fun h => (Or.inr (Or.inr (Or.inl ⟨h.1, h.2.1, h.2.2⟩)))) (fun h => h.elim (fun h => (Or.inr (Or.inr (Or.inr (Or.inl ⟨h.1, h.2.1, h.2.2.1, h.2.2.2⟩))))) (fun h => h.elim))))
          have kf81_ : M74_.1 (4, 0, 0) 1 = 1 := by rw [(hF78_ (4, 0, 0) 1 (by simp [S_c_X1_add]))]; exact kf70_
          have kf82_ : M74_.1 (4, 0, 0) 2 = 2 := by rw [(hF78_ (4, 0, 0) 2 (by simp [S_c_X1_add]))]; exact kf71_
          refine w_aload_n dX4_readName_55 rfl 1 rfl ?_
          refine w_dup dX4_readName_56 rfl ?_
          refine w_getI fl_RX4_41 rfl rfl ic_4 dX4_readName_57 (fun z83_ e84_ => ?_)
          refine w_iconst (v := 1) dX4_readName_60 (by decide) ?_
          refine w_iadd dX4_readName_61 (fun z85_ h86_ => ?_)
          refine w_putI CC_nd fl_RX4_41 rfl rfl ic_4 dX4_readName_62 (fun M87_ hM88_ => ?_)
          have hI89_ := hI77_.put hM88_ trivial
          have hF90_ := hF79_.put hM88_ (Or.inr (Or.inr (Or.inr (Or.inr (Or.inl ⟨rfl, rfl, rfl⟩)))))
          have kf91_ : M87_.1 (4, 0, 0) 1 = 1 := by rw [(show M87_.1 (4, 0, 0) 1 = M74_.1 (4, 0, 0) 1 by rw [hM88_, up_ne (by simp)])]; exact kf81_
          have kf92_ : M87_.1 (4, 0, 0) 2 = 2 := by rw [(show M87_.1 (4, 0, 0) 2 = M74_.1 (4, 0, 0) 2 by rw [hM88_, up_ne (by simp)])]; exact kf82_
          exact w_vret rfl dX4_readName_65 ⟨hI89_, hF90_, trivial, (Or.inr ⟨h1_, (Or.inl ⟨h12_, (Or.inr (Or.inl ⟨h13_, z58_, h59_, z60_, z60_h, (Or.inl ⟨h61_, z62_, e63_, z64_, h65_, M66_, hM67_, z72_, h73_, hI68_, M74_, hI77_, hF78_, hs80_, z83_, e84_, z85_, h86_, M87_, hM88_, rfl⟩)⟩))⟩)⟩)⟩
        · refine w_aload_n dX4_readName_28 rfl 1 rfl ?_
          refine w_callVv (as := []) (rest := []) (c_X4_fail l G cy ad (d + 7) Mz hIz) kV_X4_fail pnn_16 (Nat.le_of_ble_eq_true rfl) m_728 rfl rfl rfl ic_4 rfl rfl (by decide) (Nat.le_of_ble_eq_true rfl) dX4_readName_29 (fun M93_ q94_ => ?_)
          obtain ⟨hI96_, hF97_, h95_, hs99_⟩ := q94_
          have hF98_ := hFz.tr hF97_ (fun c k => (fun h => h.elim (fun h => (Or.inl ⟨h.1, h.2.1, h.2.2⟩)) (fun h => h.elim)))
          have kf100_ : M93_.1 (4, 0, 0) 1 = 1 := by rw [(hF97_ (4, 0, 0) 1 (by simp [S_c_X4_fail]))]; exact hT
          have kf101_ : M93_.1 (4, 0, 0) 2 = 2 := by rw [(hF97_ (4, 0, 0) 2 (by simp [S_c_X4_fail]))]; exact h13_
          exact w_vret rfl dX4_readName_32 ⟨hI96_, hF98_, trivial, (Or.inr ⟨h1_, (Or.inl ⟨h12_, (Or.inr (Or.inl ⟨h13_, z58_, h59_, z60_, z60_h, (Or.inr ⟨h61_, M93_, hI96_, hF97_, hs99_, rfl⟩)⟩))⟩)⟩)⟩
      · refine w_aload_n dX4_readName_14 rfl 0 rfl ?_
        refine w_getR (c' := (91, 3, 0)) fl_RX4_27 rfl rfl ic_4 dX4_readName_15 (by rw [h13_]; rfl) ?_
        refine w_iload_n dX4_readName_18 rfl 1 rfl ?_
        refine w_i2c dX4_readName_19 (fun z102_ h103_ => ?_)
        refine w_indexOf (k := 3) (by decide) m_740 (Nat.le_of_ble_eq_true rfl) (by omega) dX4_readName_20 (fun z104_ z104_h => ?_)
        refine w_istore_n (ls' := [(2, vI z104_), (0, vR (4, 0, 0)), (1, vI v)]) dX4_readName_23 rfl (by decide) rfl ?_
        refine w_iload_n dX4_readName_24 rfl 0 rfl ?_
        refine w_if_ge (tgt := 33) dX4_readName_25 (by decide) (rfl : z104_.toInt = z104_.toInt) (fun h105_ => ?_) (fun h105_ => ?_)
        · refine w_aload_n dX4_readName_33 rfl 1 rfl ?_
          refine w_dup dX4_readName_34 rfl ?_
          refine w_getI fl_RX4_31 rfl rfl ic_4 dX4_readName_35 (fun z106_ e107_ => ?_)
          refine w_iconst (v := 1) dX4_readName_38 (by decide) ?_
          refine w_iadd dX4_readName_39 (fun z108_ h109_ => ?_)
          refine w_putI CC_nd fl_RX4_31 rfl rfl ic_4 dX4_readName_40 (fun M110_ hM111_ => ?_)
          have hI112_ := hIz.put hM111_ trivial
          have hF113_ := hFz.put hM111_ (Or.inr (Or.inl ⟨rfl, rfl, rfl⟩))
          have kf114_ : M110_.1 (4, 0, 0) 1 = 1 := by rw [(show M110_.1 (4, 0, 0) 1 = Mz.1 (4, 0, 0) 1 by rw [hM111_, up_ne (by simp)])]; exact hT
          have kf115_ : M110_.1 (4, 0, 0) 2 = 3 := by rw [(show M110_.1 (4, 0, 0) 2 = Mz.1 (4, 0, 0) 2 by rw [hM111_, up_ne (by simp)])]; exact h13_
          refine w_aload_n dX4_readName_43 rfl 1 rfl ?_
          refine w_getR (c' := (1, 3, 0)) fl_RX4_10 rfl rfl ic_4 dX4_readName_44 rfl ?_
          refine w_sipush (v := 1000) dX4_readName_47 (by decide) ?_
          refine w_iload_n dX4_readName_50 rfl 0 rfl ?_
          refine w_iadd dX4_readName_51 (fun z116_ h117_ => ?_)
          refine w_callVv (as := [vI z116_]) (rest := []) (c_X1_add l G cy ad (d + 7) 3 0 z116_ M110_ hI112_ (by first | decide | (unfold vF; omega) | (unfold vRw; omega))) kV_X1_add pnn_6 (Nat.le_of_ble_eq_true rfl) m_720 rfl rfl rfl (ic_1 (by unfold vF; omega)) rfl rfl (by decide) (Nat.le_of_ble_eq_true rfl) dX4_readName_52 (fun M118_ q119_ => ?_)
          obtain ⟨hI121_, hF122_, h120_, hs124_⟩ := q119_
          have hF123_ := hF113_.tr hF122_ (fun c k => (fun h => h.elim (fun h => (Or.inr (Or.inr (Or.inl ⟨h.1, h.2.1, h.2.2⟩)))) (fun h => h.elim (fun h => (Or.inr (Or.inr (Or.inr (Or.inl ⟨h.1, h.2.1, h.2.2.1, h.2.2.2⟩))))) (fun h => h.elim))))
          have kf125_ : M118_.1 (4, 0, 0) 1 = 1 := by rw [(hF122_ (4, 0, 0) 1 (by simp [S_c_X1_add]))]; exact kf114_
          have kf126_ : M118_.1 (4, 0, 0) 2 = 3 := by rw [(hF122_ (4, 0, 0) 2 (by simp [S_c_X1_add]))]; exact kf115_
          refine w_aload_n dX4_readName_55 rfl 1 rfl ?_
          refine w_dup dX4_readName_56 rfl ?_
          refine w_getI fl_RX4_41 rfl rfl ic_4 dX4_readName_57 (fun z127_ e128_ => ?_)
          refine w_iconst (v := 1) dX4_readName_60 (by decide) ?_
          refine w_iadd dX4_readName_61 (fun z129_ h130_ => ?_)
          refine w_putI CC_nd fl_RX4_41 rfl rfl ic_4 dX4_readName_62 (fun M131_ hM132_ => ?_)
          have hI133_ := hI121_.put hM132_ trivial
          have hF134_ := hF123_.put hM132_ (Or.inr (Or.inr (Or.inr (Or.inr (Or.inl ⟨rfl, rfl, rfl⟩)))))
          have kf135_ : M131_.1 (4, 0, 0) 1 = 1 := by rw [(show M131_.1 (4, 0, 0) 1 = M118_.1 (4, 0, 0) 1 by rw [hM132_, up_ne (by simp)])]; exact kf125_
          have kf136_ : M131_.1 (4, 0, 0) 2 = 3 := by rw [(show M131_.1 (4, 0, 0) 2 = M118_.1 (4, 0, 0) 2 by rw [hM132_, up_ne (by simp)])]; exact kf126_
          exact w_vret rfl dX4_readName_65 ⟨hI133_, hF134_, trivial, (Or.inr ⟨h1_, (Or.inl ⟨h12_, (Or.inr (Or.inr ⟨h13_, z102_, h103_, z104_, z104_h, (Or.inl ⟨h105_, z106_, e107_, z108_, h109_, M110_, hM111_, z116_, h117_, hI112_, M118_, hI121_, hF122_, hs124_, z127_, e128_, z129_, h130_, M131_, hM132_, rfl⟩)⟩))⟩)⟩)⟩
        · refine w_aload_n dX4_readName_28 rfl 1 rfl ?_
          refine w_callVv (as := []) (rest := []) (c_X4_fail l G cy ad (d + 7) Mz hIz) kV_X4_fail pnn_16 (Nat.le_of_ble_eq_true rfl) m_728 rfl rfl rfl ic_4 rfl rfl (by decide) (Nat.le_of_ble_eq_true rfl) dX4_readName_29 (fun M137_ q138_ => ?_)
          obtain ⟨hI140_, hF141_, h139_, hs143_⟩ := q138_
          have hF142_ := hFz.tr hF141_ (fun c k => (fun h => h.elim (fun h => (Or.inl ⟨h.1, h.2.1, h.2.2⟩)) (fun h => h.elim)))
          have kf144_ : M137_.1 (4, 0, 0) 1 = 1 := by rw [(hF141_ (4, 0, 0) 1 (by simp [S_c_X4_fail]))]; exact hT
          have kf145_ : M137_.1 (4, 0, 0) 2 = 3 := by rw [(hF141_ (4, 0, 0) 2 (by simp [S_c_X4_fail]))]; exact h13_
          exact w_vret rfl dX4_readName_32 ⟨hI140_, hF142_, trivial, (Or.inr ⟨h1_, (Or.inl ⟨h12_, (Or.inr (Or.inr ⟨h13_, z102_, h103_, z104_, z104_h, (Or.inr ⟨h105_, M137_, hI140_, hF141_, hs143_, rfl⟩)⟩))⟩)⟩)⟩
    · refine w_iconst (v := (-1)) dX4_readName_10 (by decide) ?_
      refine w_goto (tgt := 23) dX4_readName_11 (by decide) ?_
      refine w_istore_n (ls' := [(2, vI (-1)), (0, vR (4, 0, 0)), (1, vI v)]) dX4_readName_23 rfl (by decide) rfl ?_
      refine w_iload_n dX4_readName_24 rfl 0 rfl ?_
      refine w_if_ge (tgt := 33) dX4_readName_25 (by decide) li_m1 (fun h9 => (absurd h9 (by decide))) (fun h146_ => ?_)
      refine w_aload_n dX4_readName_28 rfl 1 rfl ?_
      refine w_callVv (as := []) (rest := []) (c_X4_fail l G cy ad (d + 7) Mz hIz) kV_X4_fail pnn_16 (Nat.le_of_ble_eq_true rfl) m_728 rfl rfl rfl ic_4 rfl rfl (by decide) (Nat.le_of_ble_eq_true rfl) dX4_readName_29 (fun M147_ q148_ => ?_)
      obtain ⟨hI150_, hF151_, h149_, hs153_⟩ := q148_
      have hF152_ := hFz.tr hF151_ (fun c k => (fun h => h.elim (fun h => (Or.inl ⟨h.1, h.2.1, h.2.2⟩)) (fun h => h.elim)))
      have kf154_ : M147_.1 (4, 0, 0) 1 = 1 := by rw [(hF151_ (4, 0, 0) 1 (by simp [S_c_X4_fail]))]; exact hT
      have kf155_ : M147_.1 (4, 0, 0) 2 = 1 ∨ M147_.1 (4, 0, 0) 2 = 2 ∨ M147_.1 (4, 0, 0) 2 = 3 := by rw [(hF151_ (4, 0, 0) 2 (by simp [S_c_X4_fail]))]; exact hN
      exact w_vret rfl dX4_readName_32 ⟨hI150_, hF152_, trivial, (Or.inr ⟨h1_, (Or.inr ⟨h12_, M147_, hI150_, hF151_, hs153_, rfl⟩)⟩)⟩
end
section
/-! words of the tables that are used, by their places; decode rows; fields -/
theorem li_37 : (37 : Int32).toInt = 37 := by decide
theorem li_42 : (42 : Int32).toInt = 42 := by decide
theorem li_43 : (43 : Int32).toInt = 43 := by decide
theorem li_45 : (45 : Int32).toInt = 45 := by decide
theorem li_47 : (47 : Int32).toInt = 47 := by decide
theorem li_57 : (57 : Int32).toInt = 57 := by decide
theorem li_60 : (60 : Int32).toInt = 60 := by decide
theorem li_61 : (61 : Int32).toInt = 61 := by decide
theorem li_62 : (62 : Int32).toInt = 62 := by decide
theorem li_91 : (91 : Int32).toInt = 91 := by decide
theorem m_1 : Cond.selects yX4_readComparisons.cls yX4_readComparisons yX4_readComparisons ∈ BASE := bmem 1 (by decide +kernel) rfl
theorem m_2 : Cond.selects yX4_readSum.cls yX4_readSum yX4_readSum ∈ BASE := bmem 2 (by decide +kernel) rfl
theorem m_3 : Cond.selects yX4_readTerm.cls yX4_readTerm yX4_readTerm ∈ BASE := bmem 3 (by decide +kernel) rfl
theorem m_4 : Cond.selects yX4_readOne.cls yX4_readOne yX4_readOne ∈ BASE := bmem 4 (by decide +kernel) rfl
theorem m_6 : Cond.selects yX4_readNumber.cls yX4_readNumber yX4_readNumber ∈ BASE := bmem 6 (by decide +kernel) rfl
theorem m_7 : Cond.selects yX4_readOpened.cls yX4_readOpened yX4_readOpened ∈ BASE := bmem 7 (by decide +kernel) rfl
theorem m_9 : Cond.selects yX4_expect.cls yX4_expect yX4_expect ∈ BASE := bmem 9 (by decide +kernel) rfl
theorem m_10 : Cond.selects yX4_readName.cls yX4_readName yX4_readName ∈ BASE := bmem 10 (by decide +kernel) rfl
set_option maxRecDepth 20000 in
theorem m_364 : Cond.fieldLink RX4 38 "ClickStreet$Reader" "open" "I" ∈ BASE := bmT2 46 rfl rfl
set_option maxRecDepth 20000 in
theorem m_692 : Cond.methodLink RX4 55 yX4_readComparisons ∈ BASE := bmT3 134 rfl rfl
set_option maxRecDepth 20000 in
theorem m_694 : Cond.instanceMethod yX4_readComparisons ∈ BASE := bmT3 136 rfl rfl
set_option maxRecDepth 20000 in
theorem m_695 : Cond.code yX4_readComparisons cX4_readComparisons 3 none ∈ BASE := bmT3 137 rfl rfl
set_option maxRecDepth 20000 in
theorem m_696 : Cond.methodLink RX4 72 yX4_readSum ∈ BASE := bmT3 138 rfl rfl
set_option maxRecDepth 20000 in
theorem m_698 : Cond.instanceMethod yX4_readSum ∈ BASE := bmT3 140 rfl rfl
set_option maxRecDepth 20000 in
theorem m_699 : Cond.code yX4_readSum cX4_readSum 3 none ∈ BASE := bmT3 141 rfl rfl
set_option maxRecDepth 20000 in
theorem m_700 : Cond.methodLink RX4 78 yX4_readTerm ∈ BASE := bmT3 142 rfl rfl
set_option maxRecDepth 20000 in
theorem m_702 : Cond.instanceMethod yX4_readTerm ∈ BASE := bmT3 144 rfl rfl
set_option maxRecDepth 20000 in
theorem m_703 : Cond.code yX4_readTerm cX4_readTerm 3 none ∈ BASE := bmT3 145 rfl rfl
set_option maxRecDepth 20000 in
theorem m_704 : Cond.methodLink RX4 81 yX4_readOne ∈ BASE := bmT3 146 rfl rfl
set_option maxRecDepth 20000 in
theorem m_706 : Cond.instanceMethod yX4_readOne ∈ BASE := bmT3 148 rfl rfl
set_option maxRecDepth 20000 in
theorem m_707 : Cond.code yX4_readOne cX4_readOne 2 none ∈ BASE := bmT3 149 rfl rfl
set_option maxRecDepth 20000 in
theorem m_716 : Cond.methodLink RX4 84 yX4_readNumber ∈ BASE := bmT3 158 rfl rfl
set_option maxRecDepth 20000 in
theorem m_718 : Cond.instanceMethod yX4_readNumber ∈ BASE := bmT3 160 rfl rfl
set_option maxRecDepth 20000 in
theorem m_719 : Cond.code yX4_readNumber cX4_readNumber 4 none ∈ BASE := bmT3 161 rfl rfl
set_option maxRecDepth 20000 in
theorem m_724 : Cond.methodLink RX4 87 yX4_readOpened ∈ BASE := bmT3 166 rfl rfl
set_option maxRecDepth 20000 in
theorem m_726 : Cond.instanceMethod yX4_readOpened ∈ BASE := bmT3 168 rfl rfl
set_option maxRecDepth 20000 in
theorem m_727 : Cond.code yX4_readOpened cX4_readOpened 2 none ∈ BASE := bmT3 169 rfl rfl
set_option maxRecDepth 20000 in
theorem m_732 : Cond.methodLink RX4 98 yX4_expect ∈ BASE := bmT3 174 rfl rfl
set_option maxRecDepth 20000 in
theorem m_734 : Cond.instanceMethod yX4_expect ∈ BASE := bmT3 176 rfl rfl
set_option maxRecDepth 20000 in
theorem m_735 : Cond.code yX4_expect cX4_expect 2 none ∈ BASE := bmT3 177 rfl rfl
set_option maxRecDepth 20000 in
theorem m_736 : Cond.methodLink RX4 90 yX4_readName ∈ BASE := bmT3 178 rfl rfl
set_option maxRecDepth 20000 in
theorem m_738 : Cond.instanceMethod yX4_readName ∈ BASE := bmT3 180 rfl rfl
set_option maxRecDepth 20000 in
theorem m_739 : Cond.code yX4_readName cX4_readName 3 none ∈ BASE := bmT3 181 rfl rfl
theorem kV_X4_expect : KV yX4_expect cX4_expect 2 none 1 := ⟨m_734, m_9, m_88, m_735, nhM_16, nhV_16, pdn_4⟩
theorem kV_X4_readComparisons : KV yX4_readComparisons cX4_readComparisons 3 none 0 := ⟨m_694, m_1, m_88, m_695, nhM_16, nhV_16, pdn_30⟩
theorem kV_X4_readName : KV yX4_readName cX4_readName 3 none 1 := ⟨m_738, m_10, m_88, m_739, nhM_16, nhV_16, pdn_4⟩
theorem kV_X4_readNumber : KV yX4_readNumber cX4_readNumber 4 none 0 := ⟨m_718, m_6, m_88, m_719, nhM_16, nhV_16, pdn_30⟩
theorem kV_X4_readOne : KV yX4_readOne cX4_readOne 2 none 0 := ⟨m_706, m_4, m_88, m_707, nhM_16, nhV_16, pdn_30⟩
theorem kV_X4_readOpened : KV yX4_readOpened cX4_readOpened 2 none 1 := ⟨m_726, m_7, m_88, m_727, nhM_16, nhV_16, pdn_4⟩
theorem kV_X4_readSum : KV yX4_readSum cX4_readSum 3 none 0 := ⟨m_698, m_2, m_88, m_699, nhM_16, nhV_16, pdn_30⟩
theorem kV_X4_readTerm : KV yX4_readTerm cX4_readTerm 3 none 0 := ⟨m_702, m_3, m_88, m_703, nhM_16, nhV_16, pdn_30⟩
theorem fl_RX4_38 : FLK RX4 38 4 5 .int false := ⟨RX4, TX4, 7, tyX4, rfl, inB4, tyX4_ok, nmX4, by decide, rfl, rfl, Or.inl m_364⟩
theorem ch_cX4_readComparisons_0 : (cX4_readComparisons.data.toList.drop 0).take 36 = [42, 182, 0, 72, 3, 60, 27, 16, 48, 162, 0, 66, 42, 180, 0, 35, 156, 0, 59, 42, 182, 0, 58, 61, 28, 16, 60, 159, 0, 16, 28, 16, 61, 159, 0, 10] := by decide +kernel
theorem dX4_readComparisons_0 : decode cX4_readComparisons 0 = .ok (.aload_n 0, 1) := do_42 (rdb (p := 0) (i := 0) ch_cX4_readComparisons_0 rfl)
theorem dX4_readComparisons_1 : decode cX4_readComparisons 1 = .ok (.invokevirtual 72, 3) := do_182 (rdb (p := 0) (i := 1) ch_cX4_readComparisons_0 rfl) (rdb (p := 0) (i := 2) ch_cX4_readComparisons_0 rfl) (rdb (p := 0) (i := 3) ch_cX4_readComparisons_0 rfl) rfl
theorem dX4_readComparisons_4 : decode cX4_readComparisons 4 = .ok (.iconst 0, 1) := do_3 (rdb (p := 0) (i := 4) ch_cX4_readComparisons_0 rfl)
theorem dX4_readComparisons_5 : decode cX4_readComparisons 5 = .ok (.istore_n 1, 1) := do_60 (rdb (p := 0) (i := 5) ch_cX4_readComparisons_0 rfl)
theorem dX4_readComparisons_6 : decode cX4_readComparisons 6 = .ok (.iload_n 1, 1) := do_27 (rdb (p := 0) (i := 6) ch_cX4_readComparisons_0 rfl)
theorem dX4_readComparisons_7 : decode cX4_readComparisons 7 = .ok (.bipush 48, 2) := do_16 (rdb (p := 0) (i := 7) ch_cX4_readComparisons_0 rfl) (rdb (p := 0) (i := 8) ch_cX4_readComparisons_0 rfl) (by decide +kernel)
theorem dX4_readComparisons_9 : decode cX4_readComparisons 9 = .ok (.if_icmp .ge 66, 3) := do_162 (rdb (p := 0) (i := 9) ch_cX4_readComparisons_0 rfl) (rdb (p := 0) (i := 10) ch_cX4_readComparisons_0 rfl) (rdb (p := 0) (i := 11) ch_cX4_readComparisons_0 rfl) (by decide +kernel)
theorem dX4_readComparisons_12 : decode cX4_readComparisons 12 = .ok (.aload_n 0, 1) := do_42 (rdb (p := 0) (i := 12) ch_cX4_readComparisons_0 rfl)
theorem dX4_readComparisons_13 : decode cX4_readComparisons 13 = .ok (.getfield 35, 3) := do_180 (rdb (p := 0) (i := 13) ch_cX4_readComparisons_0 rfl) (rdb (p := 0) (i := 14) ch_cX4_readComparisons_0 rfl) (rdb (p := 0) (i := 15) ch_cX4_readComparisons_0 rfl) rfl
theorem dX4_readComparisons_16 : decode cX4_readComparisons 16 = .ok (.ifCond .ge 59, 3) := do_156 (rdb (p := 0) (i := 16) ch_cX4_readComparisons_0 rfl) (rdb (p := 0) (i := 17) ch_cX4_readComparisons_0 rfl) (rdb (p := 0) (i := 18) ch_cX4_readComparisons_0 rfl) (by decide +kernel)
theorem dX4_readComparisons_19 : decode cX4_readComparisons 19 = .ok (.aload_n 0, 1) := do_42 (rdb (p := 0) (i := 19) ch_cX4_readComparisons_0 rfl)
theorem dX4_readComparisons_20 : decode cX4_readComparisons 20 = .ok (.invokevirtual 58, 3) := do_182 (rdb (p := 0) (i := 20) ch_cX4_readComparisons_0 rfl) (rdb (p := 0) (i := 21) ch_cX4_readComparisons_0 rfl) (rdb (p := 0) (i := 22) ch_cX4_readComparisons_0 rfl) rfl
theorem dX4_readComparisons_23 : decode cX4_readComparisons 23 = .ok (.istore_n 2, 1) := do_61 (rdb (p := 0) (i := 23) ch_cX4_readComparisons_0 rfl)
theorem dX4_readComparisons_24 : decode cX4_readComparisons 24 = .ok (.iload_n 2, 1) := do_28 (rdb (p := 0) (i := 24) ch_cX4_readComparisons_0 rfl)
theorem dX4_readComparisons_25 : decode cX4_readComparisons 25 = .ok (.bipush 60, 2) := do_16 (rdb (p := 0) (i := 25) ch_cX4_readComparisons_0 rfl) (rdb (p := 0) (i := 26) ch_cX4_readComparisons_0 rfl) (by decide +kernel)
theorem dX4_readComparisons_27 : decode cX4_readComparisons 27 = .ok (.if_icmp .eq 16, 3) := do_159 (rdb (p := 0) (i := 27) ch_cX4_readComparisons_0 rfl) (rdb (p := 0) (i := 28) ch_cX4_readComparisons_0 rfl) (rdb (p := 0) (i := 29) ch_cX4_readComparisons_0 rfl) (by decide +kernel)
theorem dX4_readComparisons_30 : decode cX4_readComparisons 30 = .ok (.iload_n 2, 1) := do_28 (rdb (p := 0) (i := 30) ch_cX4_readComparisons_0 rfl)
theorem dX4_readComparisons_31 : decode cX4_readComparisons 31 = .ok (.bipush 61, 2) := do_16 (rdb (p := 0) (i := 31) ch_cX4_readComparisons_0 rfl) (rdb (p := 0) (i := 32) ch_cX4_readComparisons_0 rfl) (by decide +kernel)
theorem ch_cX4_readComparisons_32 : (cX4_readComparisons.data.toList.drop 32).take 36 = [61, 159, 0, 10, 28, 16, 62, 159, 0, 4, 177, 42, 89, 180, 0, 31, 4, 96, 181, 0, 31, 42, 182, 0, 72, 42, 180, 0, 10, 17, 7, 208, 28, 96, 182, 0] := by decide +kernel
theorem dX4_readComparisons_33 : decode cX4_readComparisons 33 = .ok (.if_icmp .eq 10, 3) := do_159 (rdb (p := 32) (i := 1) ch_cX4_readComparisons_32 rfl) (rdb (p := 32) (i := 2) ch_cX4_readComparisons_32 rfl) (rdb (p := 32) (i := 3) ch_cX4_readComparisons_32 rfl) (by decide +kernel)
theorem dX4_readComparisons_36 : decode cX4_readComparisons 36 = .ok (.iload_n 2, 1) := do_28 (rdb (p := 32) (i := 4) ch_cX4_readComparisons_32 rfl)
theorem dX4_readComparisons_37 : decode cX4_readComparisons 37 = .ok (.bipush 62, 2) := do_16 (rdb (p := 32) (i := 5) ch_cX4_readComparisons_32 rfl) (rdb (p := 32) (i := 6) ch_cX4_readComparisons_32 rfl) (by decide +kernel)
theorem dX4_readComparisons_39 : decode cX4_readComparisons 39 = .ok (.if_icmp .eq 4, 3) := do_159 (rdb (p := 32) (i := 7) ch_cX4_readComparisons_32 rfl) (rdb (p := 32) (i := 8) ch_cX4_readComparisons_32 rfl) (rdb (p := 32) (i := 9) ch_cX4_readComparisons_32 rfl) (by decide +kernel)
theorem dX4_readComparisons_42 : decode cX4_readComparisons 42 = .ok (.return_, 1) := do_177 (rdb (p := 32) (i := 10) ch_cX4_readComparisons_32 rfl)
theorem dX4_readComparisons_43 : decode cX4_readComparisons 43 = .ok (.aload_n 0, 1) := do_42 (rdb (p := 32) (i := 11) ch_cX4_readComparisons_32 rfl)
theorem dX4_readComparisons_44 : decode cX4_readComparisons 44 = .ok (.dup, 1) := do_89 (rdb (p := 32) (i := 12) ch_cX4_readComparisons_32 rfl)
theorem dX4_readComparisons_45 : decode cX4_readComparisons 45 = .ok (.getfield 31, 3) := do_180 (rdb (p := 32) (i := 13) ch_cX4_readComparisons_32 rfl) (rdb (p := 32) (i := 14) ch_cX4_readComparisons_32 rfl) (rdb (p := 32) (i := 15) ch_cX4_readComparisons_32 rfl) rfl
theorem dX4_readComparisons_48 : decode cX4_readComparisons 48 = .ok (.iconst 1, 1) := do_4 (rdb (p := 32) (i := 16) ch_cX4_readComparisons_32 rfl)
theorem dX4_readComparisons_49 : decode cX4_readComparisons 49 = .ok (.iadd, 1) := do_96 (rdb (p := 32) (i := 17) ch_cX4_readComparisons_32 rfl)
theorem dX4_readComparisons_50 : decode cX4_readComparisons 50 = .ok (.putfield 31, 3) := do_181 (rdb (p := 32) (i := 18) ch_cX4_readComparisons_32 rfl) (rdb (p := 32) (i := 19) ch_cX4_readComparisons_32 rfl) (rdb (p := 32) (i := 20) ch_cX4_readComparisons_32 rfl) rfl
theorem dX4_readComparisons_53 : decode cX4_readComparisons 53 = .ok (.aload_n 0, 1) := do_42 (rdb (p := 32) (i := 21) ch_cX4_readComparisons_32 rfl)
theorem dX4_readComparisons_54 : decode cX4_readComparisons 54 = .ok (.invokevirtual 72, 3) := do_182 (rdb (p := 32) (i := 22) ch_cX4_readComparisons_32 rfl) (rdb (p := 32) (i := 23) ch_cX4_readComparisons_32 rfl) (rdb (p := 32) (i := 24) ch_cX4_readComparisons_32 rfl) rfl
theorem dX4_readComparisons_57 : decode cX4_readComparisons 57 = .ok (.aload_n 0, 1) := do_42 (rdb (p := 32) (i := 25) ch_cX4_readComparisons_32 rfl)
theorem dX4_readComparisons_58 : decode cX4_readComparisons 58 = .ok (.getfield 10, 3) := do_180 (rdb (p := 32) (i := 26) ch_cX4_readComparisons_32 rfl) (rdb (p := 32) (i := 27) ch_cX4_readComparisons_32 rfl) (rdb (p := 32) (i := 28) ch_cX4_readComparisons_32 rfl) rfl
theorem dX4_readComparisons_61 : decode cX4_readComparisons 61 = .ok (.sipush 2000, 3) := do_17 (rdb (p := 32) (i := 29) ch_cX4_readComparisons_32 rfl) (rdb (p := 32) (i := 30) ch_cX4_readComparisons_32 rfl) (rdb (p := 32) (i := 31) ch_cX4_readComparisons_32 rfl) (by decide +kernel)
theorem ch_cX4_readComparisons_64 : (cX4_readComparisons.data.toList.drop 64).take 36 = [28, 96, 182, 0, 75, 132, 1, 1, 167, 255, 190, 177] := by decide +kernel
theorem dX4_readComparisons_64 : decode cX4_readComparisons 64 = .ok (.iload_n 2, 1) := do_28 (rdb (p := 64) (i := 0) ch_cX4_readComparisons_64 rfl)
theorem dX4_readComparisons_65 : decode cX4_readComparisons 65 = .ok (.iadd, 1) := do_96 (rdb (p := 64) (i := 1) ch_cX4_readComparisons_64 rfl)
theorem dX4_readComparisons_66 : decode cX4_readComparisons 66 = .ok (.invokevirtual 75, 3) := do_182 (rdb (p := 64) (i := 2) ch_cX4_readComparisons_64 rfl) (rdb (p := 64) (i := 3) ch_cX4_readComparisons_64 rfl) (rdb (p := 64) (i := 4) ch_cX4_readComparisons_64 rfl) rfl
theorem dX4_readComparisons_69 : decode cX4_readComparisons 69 = .ok (.iinc 1 1, 3) := do_132 (rdb (p := 64) (i := 5) ch_cX4_readComparisons_64 rfl) (rdb (p := 64) (i := 6) ch_cX4_readComparisons_64 rfl) (rdb (p := 64) (i := 7) ch_cX4_readComparisons_64 rfl) (by decide +kernel)
theorem dX4_readComparisons_72 : decode cX4_readComparisons 72 = .ok (.goto (-66), 3) := do_167 (rdb (p := 64) (i := 8) ch_cX4_readComparisons_64 rfl) (rdb (p := 64) (i := 9) ch_cX4_readComparisons_64 rfl) (rdb (p := 64) (i := 10) ch_cX4_readComparisons_64 rfl) (by decide +kernel)
theorem dX4_readComparisons_75 : decode cX4_readComparisons 75 = .ok (.return_, 1) := do_177 (rdb (p := 64) (i := 11) ch_cX4_readComparisons_64 rfl)
theorem ch_cX4_readOne_0 : (cX4_readOne.data.toList.drop 0).take 36 = [42, 180, 0, 35, 155, 0, 4, 177, 42, 182, 0, 58, 60, 27, 16, 48, 161, 0, 16, 27, 16, 57, 163, 0, 10, 42, 182, 0, 84, 167, 0, 34, 27, 16, 45, 159] := by decide +kernel
theorem dX4_readOne_0 : decode cX4_readOne 0 = .ok (.aload_n 0, 1) := do_42 (rdb (p := 0) (i := 0) ch_cX4_readOne_0 rfl)
theorem dX4_readOne_1 : decode cX4_readOne 1 = .ok (.getfield 35, 3) := do_180 (rdb (p := 0) (i := 1) ch_cX4_readOne_0 rfl) (rdb (p := 0) (i := 2) ch_cX4_readOne_0 rfl) (rdb (p := 0) (i := 3) ch_cX4_readOne_0 rfl) rfl
theorem dX4_readOne_4 : decode cX4_readOne 4 = .ok (.ifCond .lt 4, 3) := do_155 (rdb (p := 0) (i := 4) ch_cX4_readOne_0 rfl) (rdb (p := 0) (i := 5) ch_cX4_readOne_0 rfl) (rdb (p := 0) (i := 6) ch_cX4_readOne_0 rfl) (by decide +kernel)
theorem dX4_readOne_7 : decode cX4_readOne 7 = .ok (.return_, 1) := do_177 (rdb (p := 0) (i := 7) ch_cX4_readOne_0 rfl)
theorem dX4_readOne_8 : decode cX4_readOne 8 = .ok (.aload_n 0, 1) := do_42 (rdb (p := 0) (i := 8) ch_cX4_readOne_0 rfl)
theorem dX4_readOne_9 : decode cX4_readOne 9 = .ok (.invokevirtual 58, 3) := do_182 (rdb (p := 0) (i := 9) ch_cX4_readOne_0 rfl) (rdb (p := 0) (i := 10) ch_cX4_readOne_0 rfl) (rdb (p := 0) (i := 11) ch_cX4_readOne_0 rfl) rfl
theorem dX4_readOne_12 : decode cX4_readOne 12 = .ok (.istore_n 1, 1) := do_60 (rdb (p := 0) (i := 12) ch_cX4_readOne_0 rfl)
theorem dX4_readOne_13 : decode cX4_readOne 13 = .ok (.iload_n 1, 1) := do_27 (rdb (p := 0) (i := 13) ch_cX4_readOne_0 rfl)
theorem dX4_readOne_14 : decode cX4_readOne 14 = .ok (.bipush 48, 2) := do_16 (rdb (p := 0) (i := 14) ch_cX4_readOne_0 rfl) (rdb (p := 0) (i := 15) ch_cX4_readOne_0 rfl) (by decide +kernel)
theorem dX4_readOne_16 : decode cX4_readOne 16 = .ok (.if_icmp .lt 16, 3) := do_161 (rdb (p := 0) (i := 16) ch_cX4_readOne_0 rfl) (rdb (p := 0) (i := 17) ch_cX4_readOne_0 rfl) (rdb (p := 0) (i := 18) ch_cX4_readOne_0 rfl) (by decide +kernel)
theorem dX4_readOne_19 : decode cX4_readOne 19 = .ok (.iload_n 1, 1) := do_27 (rdb (p := 0) (i := 19) ch_cX4_readOne_0 rfl)
theorem dX4_readOne_20 : decode cX4_readOne 20 = .ok (.bipush 57, 2) := do_16 (rdb (p := 0) (i := 20) ch_cX4_readOne_0 rfl) (rdb (p := 0) (i := 21) ch_cX4_readOne_0 rfl) (by decide +kernel)
theorem dX4_readOne_22 : decode cX4_readOne 22 = .ok (.if_icmp .gt 10, 3) := do_163 (rdb (p := 0) (i := 22) ch_cX4_readOne_0 rfl) (rdb (p := 0) (i := 23) ch_cX4_readOne_0 rfl) (rdb (p := 0) (i := 24) ch_cX4_readOne_0 rfl) (by decide +kernel)
theorem dX4_readOne_25 : decode cX4_readOne 25 = .ok (.aload_n 0, 1) := do_42 (rdb (p := 0) (i := 25) ch_cX4_readOne_0 rfl)
theorem dX4_readOne_26 : decode cX4_readOne 26 = .ok (.invokevirtual 84, 3) := do_182 (rdb (p := 0) (i := 26) ch_cX4_readOne_0 rfl) (rdb (p := 0) (i := 27) ch_cX4_readOne_0 rfl) (rdb (p := 0) (i := 28) ch_cX4_readOne_0 rfl) rfl
theorem dX4_readOne_29 : decode cX4_readOne 29 = .ok (.goto 34, 3) := do_167 (rdb (p := 0) (i := 29) ch_cX4_readOne_0 rfl) (rdb (p := 0) (i := 30) ch_cX4_readOne_0 rfl) (rdb (p := 0) (i := 31) ch_cX4_readOne_0 rfl) (by decide +kernel)
theorem ch_cX4_readOne_32 : (cX4_readOne.data.toList.drop 32).take 36 = [27, 16, 45, 159, 0, 15, 27, 16, 40, 159, 0, 9, 27, 16, 91, 160, 0, 11, 42, 27, 182, 0, 87, 167, 0, 8, 42, 27, 182, 0, 90, 177] := by decide +kernel
theorem dX4_readOne_32 : decode cX4_readOne 32 = .ok (.iload_n 1, 1) := do_27 (rdb (p := 32) (i := 0) ch_cX4_readOne_32 rfl)
theorem dX4_readOne_33 : decode cX4_readOne 33 = .ok (.bipush 45, 2) := do_16 (rdb (p := 32) (i := 1) ch_cX4_readOne_32 rfl) (rdb (p := 32) (i := 2) ch_cX4_readOne_32 rfl) (by decide +kernel)
theorem dX4_readOne_35 : decode cX4_readOne 35 = .ok (.if_icmp .eq 15, 3) := do_159 (rdb (p := 32) (i := 3) ch_cX4_readOne_32 rfl) (rdb (p := 32) (i := 4) ch_cX4_readOne_32 rfl) (rdb (p := 32) (i := 5) ch_cX4_readOne_32 rfl) (by decide +kernel)
theorem dX4_readOne_38 : decode cX4_readOne 38 = .ok (.iload_n 1, 1) := do_27 (rdb (p := 32) (i := 6) ch_cX4_readOne_32 rfl)
theorem dX4_readOne_39 : decode cX4_readOne 39 = .ok (.bipush 40, 2) := do_16 (rdb (p := 32) (i := 7) ch_cX4_readOne_32 rfl) (rdb (p := 32) (i := 8) ch_cX4_readOne_32 rfl) (by decide +kernel)
theorem dX4_readOne_41 : decode cX4_readOne 41 = .ok (.if_icmp .eq 9, 3) := do_159 (rdb (p := 32) (i := 9) ch_cX4_readOne_32 rfl) (rdb (p := 32) (i := 10) ch_cX4_readOne_32 rfl) (rdb (p := 32) (i := 11) ch_cX4_readOne_32 rfl) (by decide +kernel)
theorem dX4_readOne_44 : decode cX4_readOne 44 = .ok (.iload_n 1, 1) := do_27 (rdb (p := 32) (i := 12) ch_cX4_readOne_32 rfl)
theorem dX4_readOne_45 : decode cX4_readOne 45 = .ok (.bipush 91, 2) := do_16 (rdb (p := 32) (i := 13) ch_cX4_readOne_32 rfl) (rdb (p := 32) (i := 14) ch_cX4_readOne_32 rfl) (by decide +kernel)
theorem dX4_readOne_47 : decode cX4_readOne 47 = .ok (.if_icmp .ne 11, 3) := do_160 (rdb (p := 32) (i := 15) ch_cX4_readOne_32 rfl) (rdb (p := 32) (i := 16) ch_cX4_readOne_32 rfl) (rdb (p := 32) (i := 17) ch_cX4_readOne_32 rfl) (by decide +kernel)
theorem dX4_readOne_50 : decode cX4_readOne 50 = .ok (.aload_n 0, 1) := do_42 (rdb (p := 32) (i := 18) ch_cX4_readOne_32 rfl)
theorem dX4_readOne_51 : decode cX4_readOne 51 = .ok (.iload_n 1, 1) := do_27 (rdb (p := 32) (i := 19) ch_cX4_readOne_32 rfl)
theorem dX4_readOne_52 : decode cX4_readOne 52 = .ok (.invokevirtual 87, 3) := do_182 (rdb (p := 32) (i := 20) ch_cX4_readOne_32 rfl) (rdb (p := 32) (i := 21) ch_cX4_readOne_32 rfl) (rdb (p := 32) (i := 22) ch_cX4_readOne_32 rfl) rfl
theorem dX4_readOne_55 : decode cX4_readOne 55 = .ok (.goto 8, 3) := do_167 (rdb (p := 32) (i := 23) ch_cX4_readOne_32 rfl) (rdb (p := 32) (i := 24) ch_cX4_readOne_32 rfl) (rdb (p := 32) (i := 25) ch_cX4_readOne_32 rfl) (by decide +kernel)
theorem dX4_readOne_58 : decode cX4_readOne 58 = .ok (.aload_n 0, 1) := do_42 (rdb (p := 32) (i := 26) ch_cX4_readOne_32 rfl)
theorem dX4_readOne_59 : decode cX4_readOne 59 = .ok (.iload_n 1, 1) := do_27 (rdb (p := 32) (i := 27) ch_cX4_readOne_32 rfl)
theorem dX4_readOne_60 : decode cX4_readOne 60 = .ok (.invokevirtual 90, 3) := do_182 (rdb (p := 32) (i := 28) ch_cX4_readOne_32 rfl) (rdb (p := 32) (i := 29) ch_cX4_readOne_32 rfl) (rdb (p := 32) (i := 30) ch_cX4_readOne_32 rfl) rfl
theorem dX4_readOne_63 : decode cX4_readOne 63 = .ok (.return_, 1) := do_177 (rdb (p := 32) (i := 31) ch_cX4_readOne_32 rfl)
theorem ch_cX4_readOpened_0 : (cX4_readOpened.data.toList.drop 0).take 36 = [42, 180, 0, 38, 8, 161, 0, 8, 42, 182, 0, 62, 177, 42, 89, 180, 0, 38, 4, 96, 181, 0, 38, 42, 89, 180, 0, 31, 4, 96, 181, 0, 31, 27, 16, 45] := by decide +kernel
theorem dX4_readOpened_0 : decode cX4_readOpened 0 = .ok (.aload_n 0, 1) := do_42 (rdb (p := 0) (i := 0) ch_cX4_readOpened_0 rfl)
theorem dX4_readOpened_1 : decode cX4_readOpened 1 = .ok (.getfield 38, 3) := do_180 (rdb (p := 0) (i := 1) ch_cX4_readOpened_0 rfl) (rdb (p := 0) (i := 2) ch_cX4_readOpened_0 rfl) (rdb (p := 0) (i := 3) ch_cX4_readOpened_0 rfl) rfl
theorem dX4_readOpened_4 : decode cX4_readOpened 4 = .ok (.iconst 5, 1) := do_8 (rdb (p := 0) (i := 4) ch_cX4_readOpened_0 rfl)
theorem dX4_readOpened_5 : decode cX4_readOpened 5 = .ok (.if_icmp .lt 8, 3) := do_161 (rdb (p := 0) (i := 5) ch_cX4_readOpened_0 rfl) (rdb (p := 0) (i := 6) ch_cX4_readOpened_0 rfl) (rdb (p := 0) (i := 7) ch_cX4_readOpened_0 rfl) (by decide +kernel)
theorem dX4_readOpened_8 : decode cX4_readOpened 8 = .ok (.aload_n 0, 1) := do_42 (rdb (p := 0) (i := 8) ch_cX4_readOpened_0 rfl)
theorem dX4_readOpened_9 : decode cX4_readOpened 9 = .ok (.invokevirtual 62, 3) := do_182 (rdb (p := 0) (i := 9) ch_cX4_readOpened_0 rfl) (rdb (p := 0) (i := 10) ch_cX4_readOpened_0 rfl) (rdb (p := 0) (i := 11) ch_cX4_readOpened_0 rfl) rfl
theorem dX4_readOpened_12 : decode cX4_readOpened 12 = .ok (.return_, 1) := do_177 (rdb (p := 0) (i := 12) ch_cX4_readOpened_0 rfl)
theorem dX4_readOpened_13 : decode cX4_readOpened 13 = .ok (.aload_n 0, 1) := do_42 (rdb (p := 0) (i := 13) ch_cX4_readOpened_0 rfl)
theorem dX4_readOpened_14 : decode cX4_readOpened 14 = .ok (.dup, 1) := do_89 (rdb (p := 0) (i := 14) ch_cX4_readOpened_0 rfl)
theorem dX4_readOpened_15 : decode cX4_readOpened 15 = .ok (.getfield 38, 3) := do_180 (rdb (p := 0) (i := 15) ch_cX4_readOpened_0 rfl) (rdb (p := 0) (i := 16) ch_cX4_readOpened_0 rfl) (rdb (p := 0) (i := 17) ch_cX4_readOpened_0 rfl) rfl
theorem dX4_readOpened_18 : decode cX4_readOpened 18 = .ok (.iconst 1, 1) := do_4 (rdb (p := 0) (i := 18) ch_cX4_readOpened_0 rfl)
theorem dX4_readOpened_19 : decode cX4_readOpened 19 = .ok (.iadd, 1) := do_96 (rdb (p := 0) (i := 19) ch_cX4_readOpened_0 rfl)
theorem dX4_readOpened_20 : decode cX4_readOpened 20 = .ok (.putfield 38, 3) := do_181 (rdb (p := 0) (i := 20) ch_cX4_readOpened_0 rfl) (rdb (p := 0) (i := 21) ch_cX4_readOpened_0 rfl) (rdb (p := 0) (i := 22) ch_cX4_readOpened_0 rfl) rfl
theorem dX4_readOpened_23 : decode cX4_readOpened 23 = .ok (.aload_n 0, 1) := do_42 (rdb (p := 0) (i := 23) ch_cX4_readOpened_0 rfl)
theorem dX4_readOpened_24 : decode cX4_readOpened 24 = .ok (.dup, 1) := do_89 (rdb (p := 0) (i := 24) ch_cX4_readOpened_0 rfl)
theorem dX4_readOpened_25 : decode cX4_readOpened 25 = .ok (.getfield 31, 3) := do_180 (rdb (p := 0) (i := 25) ch_cX4_readOpened_0 rfl) (rdb (p := 0) (i := 26) ch_cX4_readOpened_0 rfl) (rdb (p := 0) (i := 27) ch_cX4_readOpened_0 rfl) rfl
theorem dX4_readOpened_28 : decode cX4_readOpened 28 = .ok (.iconst 1, 1) := do_4 (rdb (p := 0) (i := 28) ch_cX4_readOpened_0 rfl)
theorem dX4_readOpened_29 : decode cX4_readOpened 29 = .ok (.iadd, 1) := do_96 (rdb (p := 0) (i := 29) ch_cX4_readOpened_0 rfl)
theorem dX4_readOpened_30 : decode cX4_readOpened 30 = .ok (.putfield 31, 3) := do_181 (rdb (p := 0) (i := 30) ch_cX4_readOpened_0 rfl) (rdb (p := 0) (i := 31) ch_cX4_readOpened_0 rfl) (rdb (p := 0) (i := 32) ch_cX4_readOpened_0 rfl) rfl
theorem ch_cX4_readOpened_32 : (cX4_readOpened.data.toList.drop 32).take 36 = [31, 27, 16, 45, 160, 0, 20, 42, 182, 0, 81, 42, 180, 0, 10, 17, 8, 78, 182, 0, 75, 167, 0, 62, 27, 16, 40, 160, 0, 16, 42, 182, 0, 55, 42, 16] := by decide +kernel
theorem dX4_readOpened_33 : decode cX4_readOpened 33 = .ok (.iload_n 1, 1) := do_27 (rdb (p := 32) (i := 1) ch_cX4_readOpened_32 rfl)
theorem dX4_readOpened_34 : decode cX4_readOpened 34 = .ok (.bipush 45, 2) := do_16 (rdb (p := 32) (i := 2) ch_cX4_readOpened_32 rfl) (rdb (p := 32) (i := 3) ch_cX4_readOpened_32 rfl) (by decide +kernel)
theorem dX4_readOpened_36 : decode cX4_readOpened 36 = .ok (.if_icmp .ne 20, 3) := do_160 (rdb (p := 32) (i := 4) ch_cX4_readOpened_32 rfl) (rdb (p := 32) (i := 5) ch_cX4_readOpened_32 rfl) (rdb (p := 32) (i := 6) ch_cX4_readOpened_32 rfl) (by decide +kernel)
theorem dX4_readOpened_39 : decode cX4_readOpened 39 = .ok (.aload_n 0, 1) := do_42 (rdb (p := 32) (i := 7) ch_cX4_readOpened_32 rfl)
theorem dX4_readOpened_40 : decode cX4_readOpened 40 = .ok (.invokevirtual 81, 3) := do_182 (rdb (p := 32) (i := 8) ch_cX4_readOpened_32 rfl) (rdb (p := 32) (i := 9) ch_cX4_readOpened_32 rfl) (rdb (p := 32) (i := 10) ch_cX4_readOpened_32 rfl) rfl
theorem dX4_readOpened_43 : decode cX4_readOpened 43 = .ok (.aload_n 0, 1) := do_42 (rdb (p := 32) (i := 11) ch_cX4_readOpened_32 rfl)
theorem dX4_readOpened_44 : decode cX4_readOpened 44 = .ok (.getfield 10, 3) := do_180 (rdb (p := 32) (i := 12) ch_cX4_readOpened_32 rfl) (rdb (p := 32) (i := 13) ch_cX4_readOpened_32 rfl) (rdb (p := 32) (i := 14) ch_cX4_readOpened_32 rfl) rfl
theorem dX4_readOpened_47 : decode cX4_readOpened 47 = .ok (.sipush 2126, 3) := do_17 (rdb (p := 32) (i := 15) ch_cX4_readOpened_32 rfl) (rdb (p := 32) (i := 16) ch_cX4_readOpened_32 rfl) (rdb (p := 32) (i := 17) ch_cX4_readOpened_32 rfl) (by decide +kernel)
theorem dX4_readOpened_50 : decode cX4_readOpened 50 = .ok (.invokevirtual 75, 3) := do_182 (rdb (p := 32) (i := 18) ch_cX4_readOpened_32 rfl) (rdb (p := 32) (i := 19) ch_cX4_readOpened_32 rfl) (rdb (p := 32) (i := 20) ch_cX4_readOpened_32 rfl) rfl
theorem dX4_readOpened_53 : decode cX4_readOpened 53 = .ok (.goto 62, 3) := do_167 (rdb (p := 32) (i := 21) ch_cX4_readOpened_32 rfl) (rdb (p := 32) (i := 22) ch_cX4_readOpened_32 rfl) (rdb (p := 32) (i := 23) ch_cX4_readOpened_32 rfl) (by decide +kernel)
theorem dX4_readOpened_56 : decode cX4_readOpened 56 = .ok (.iload_n 1, 1) := do_27 (rdb (p := 32) (i := 24) ch_cX4_readOpened_32 rfl)
theorem dX4_readOpened_57 : decode cX4_readOpened 57 = .ok (.bipush 40, 2) := do_16 (rdb (p := 32) (i := 25) ch_cX4_readOpened_32 rfl) (rdb (p := 32) (i := 26) ch_cX4_readOpened_32 rfl) (by decide +kernel)
theorem dX4_readOpened_59 : decode cX4_readOpened 59 = .ok (.if_icmp .ne 16, 3) := do_160 (rdb (p := 32) (i := 27) ch_cX4_readOpened_32 rfl) (rdb (p := 32) (i := 28) ch_cX4_readOpened_32 rfl) (rdb (p := 32) (i := 29) ch_cX4_readOpened_32 rfl) (by decide +kernel)
theorem dX4_readOpened_62 : decode cX4_readOpened 62 = .ok (.aload_n 0, 1) := do_42 (rdb (p := 32) (i := 30) ch_cX4_readOpened_32 rfl)
theorem dX4_readOpened_63 : decode cX4_readOpened 63 = .ok (.invokevirtual 55, 3) := do_182 (rdb (p := 32) (i := 31) ch_cX4_readOpened_32 rfl) (rdb (p := 32) (i := 32) ch_cX4_readOpened_32 rfl) (rdb (p := 32) (i := 33) ch_cX4_readOpened_32 rfl) rfl
theorem ch_cX4_readOpened_64 : (cX4_readOpened.data.toList.drop 64).take 36 = [0, 55, 42, 16, 41, 182, 0, 98, 167, 0, 43, 42, 182, 0, 55, 42, 16, 63, 182, 0, 98, 42, 182, 0, 55, 42, 16, 58, 182, 0, 98, 42, 182, 0, 55, 42] := by decide +kernel
theorem dX4_readOpened_66 : decode cX4_readOpened 66 = .ok (.aload_n 0, 1) := do_42 (rdb (p := 64) (i := 2) ch_cX4_readOpened_64 rfl)
theorem dX4_readOpened_67 : decode cX4_readOpened 67 = .ok (.bipush 41, 2) := do_16 (rdb (p := 64) (i := 3) ch_cX4_readOpened_64 rfl) (rdb (p := 64) (i := 4) ch_cX4_readOpened_64 rfl) (by decide +kernel)
theorem dX4_readOpened_69 : decode cX4_readOpened 69 = .ok (.invokevirtual 98, 3) := do_182 (rdb (p := 64) (i := 5) ch_cX4_readOpened_64 rfl) (rdb (p := 64) (i := 6) ch_cX4_readOpened_64 rfl) (rdb (p := 64) (i := 7) ch_cX4_readOpened_64 rfl) rfl
theorem dX4_readOpened_72 : decode cX4_readOpened 72 = .ok (.goto 43, 3) := do_167 (rdb (p := 64) (i := 8) ch_cX4_readOpened_64 rfl) (rdb (p := 64) (i := 9) ch_cX4_readOpened_64 rfl) (rdb (p := 64) (i := 10) ch_cX4_readOpened_64 rfl) (by decide +kernel)
theorem dX4_readOpened_75 : decode cX4_readOpened 75 = .ok (.aload_n 0, 1) := do_42 (rdb (p := 64) (i := 11) ch_cX4_readOpened_64 rfl)
theorem dX4_readOpened_76 : decode cX4_readOpened 76 = .ok (.invokevirtual 55, 3) := do_182 (rdb (p := 64) (i := 12) ch_cX4_readOpened_64 rfl) (rdb (p := 64) (i := 13) ch_cX4_readOpened_64 rfl) (rdb (p := 64) (i := 14) ch_cX4_readOpened_64 rfl) rfl
theorem dX4_readOpened_79 : decode cX4_readOpened 79 = .ok (.aload_n 0, 1) := do_42 (rdb (p := 64) (i := 15) ch_cX4_readOpened_64 rfl)
theorem dX4_readOpened_80 : decode cX4_readOpened 80 = .ok (.bipush 63, 2) := do_16 (rdb (p := 64) (i := 16) ch_cX4_readOpened_64 rfl) (rdb (p := 64) (i := 17) ch_cX4_readOpened_64 rfl) (by decide +kernel)
theorem dX4_readOpened_82 : decode cX4_readOpened 82 = .ok (.invokevirtual 98, 3) := do_182 (rdb (p := 64) (i := 18) ch_cX4_readOpened_64 rfl) (rdb (p := 64) (i := 19) ch_cX4_readOpened_64 rfl) (rdb (p := 64) (i := 20) ch_cX4_readOpened_64 rfl) rfl
theorem dX4_readOpened_85 : decode cX4_readOpened 85 = .ok (.aload_n 0, 1) := do_42 (rdb (p := 64) (i := 21) ch_cX4_readOpened_64 rfl)
theorem dX4_readOpened_86 : decode cX4_readOpened 86 = .ok (.invokevirtual 55, 3) := do_182 (rdb (p := 64) (i := 22) ch_cX4_readOpened_64 rfl) (rdb (p := 64) (i := 23) ch_cX4_readOpened_64 rfl) (rdb (p := 64) (i := 24) ch_cX4_readOpened_64 rfl) rfl
theorem dX4_readOpened_89 : decode cX4_readOpened 89 = .ok (.aload_n 0, 1) := do_42 (rdb (p := 64) (i := 25) ch_cX4_readOpened_64 rfl)
theorem dX4_readOpened_90 : decode cX4_readOpened 90 = .ok (.bipush 58, 2) := do_16 (rdb (p := 64) (i := 26) ch_cX4_readOpened_64 rfl) (rdb (p := 64) (i := 27) ch_cX4_readOpened_64 rfl) (by decide +kernel)
theorem dX4_readOpened_92 : decode cX4_readOpened 92 = .ok (.invokevirtual 98, 3) := do_182 (rdb (p := 64) (i := 28) ch_cX4_readOpened_64 rfl) (rdb (p := 64) (i := 29) ch_cX4_readOpened_64 rfl) (rdb (p := 64) (i := 30) ch_cX4_readOpened_64 rfl) rfl
theorem dX4_readOpened_95 : decode cX4_readOpened 95 = .ok (.aload_n 0, 1) := do_42 (rdb (p := 64) (i := 31) ch_cX4_readOpened_64 rfl)
theorem ch_cX4_readOpened_96 : (cX4_readOpened.data.toList.drop 96).take 36 = [182, 0, 55, 42, 16, 93, 182, 0, 98, 42, 180, 0, 10, 17, 8, 15, 182, 0, 75, 42, 89, 180, 0, 38, 4, 100, 181, 0, 38, 177] := by decide +kernel
theorem dX4_readOpened_96 : decode cX4_readOpened 96 = .ok (.invokevirtual 55, 3) := do_182 (rdb (p := 96) (i := 0) ch_cX4_readOpened_96 rfl) (rdb (p := 96) (i := 1) ch_cX4_readOpened_96 rfl) (rdb (p := 96) (i := 2) ch_cX4_readOpened_96 rfl) rfl
theorem dX4_readOpened_99 : decode cX4_readOpened 99 = .ok (.aload_n 0, 1) := do_42 (rdb (p := 96) (i := 3) ch_cX4_readOpened_96 rfl)
theorem dX4_readOpened_100 : decode cX4_readOpened 100 = .ok (.bipush 93, 2) := do_16 (rdb (p := 96) (i := 4) ch_cX4_readOpened_96 rfl) (rdb (p := 96) (i := 5) ch_cX4_readOpened_96 rfl) (by decide +kernel)
theorem dX4_readOpened_102 : decode cX4_readOpened 102 = .ok (.invokevirtual 98, 3) := do_182 (rdb (p := 96) (i := 6) ch_cX4_readOpened_96 rfl) (rdb (p := 96) (i := 7) ch_cX4_readOpened_96 rfl) (rdb (p := 96) (i := 8) ch_cX4_readOpened_96 rfl) rfl
theorem dX4_readOpened_105 : decode cX4_readOpened 105 = .ok (.aload_n 0, 1) := do_42 (rdb (p := 96) (i := 9) ch_cX4_readOpened_96 rfl)
theorem dX4_readOpened_106 : decode cX4_readOpened 106 = .ok (.getfield 10, 3) := do_180 (rdb (p := 96) (i := 10) ch_cX4_readOpened_96 rfl) (rdb (p := 96) (i := 11) ch_cX4_readOpened_96 rfl) (rdb (p := 96) (i := 12) ch_cX4_readOpened_96 rfl) rfl
theorem dX4_readOpened_109 : decode cX4_readOpened 109 = .ok (.sipush 2063, 3) := do_17 (rdb (p := 96) (i := 13) ch_cX4_readOpened_96 rfl) (rdb (p := 96) (i := 14) ch_cX4_readOpened_96 rfl) (rdb (p := 96) (i := 15) ch_cX4_readOpened_96 rfl) (by decide +kernel)
theorem dX4_readOpened_112 : decode cX4_readOpened 112 = .ok (.invokevirtual 75, 3) := do_182 (rdb (p := 96) (i := 16) ch_cX4_readOpened_96 rfl) (rdb (p := 96) (i := 17) ch_cX4_readOpened_96 rfl) (rdb (p := 96) (i := 18) ch_cX4_readOpened_96 rfl) rfl
theorem dX4_readOpened_115 : decode cX4_readOpened 115 = .ok (.aload_n 0, 1) := do_42 (rdb (p := 96) (i := 19) ch_cX4_readOpened_96 rfl)
theorem dX4_readOpened_116 : decode cX4_readOpened 116 = .ok (.dup, 1) := do_89 (rdb (p := 96) (i := 20) ch_cX4_readOpened_96 rfl)
theorem dX4_readOpened_117 : decode cX4_readOpened 117 = .ok (.getfield 38, 3) := do_180 (rdb (p := 96) (i := 21) ch_cX4_readOpened_96 rfl) (rdb (p := 96) (i := 22) ch_cX4_readOpened_96 rfl) (rdb (p := 96) (i := 23) ch_cX4_readOpened_96 rfl) rfl
theorem dX4_readOpened_120 : decode cX4_readOpened 120 = .ok (.iconst 1, 1) := do_4 (rdb (p := 96) (i := 24) ch_cX4_readOpened_96 rfl)
theorem dX4_readOpened_121 : decode cX4_readOpened 121 = .ok (.isub, 1) := do_100 (rdb (p := 96) (i := 25) ch_cX4_readOpened_96 rfl)
theorem dX4_readOpened_122 : decode cX4_readOpened 122 = .ok (.putfield 38, 3) := do_181 (rdb (p := 96) (i := 26) ch_cX4_readOpened_96 rfl) (rdb (p := 96) (i := 27) ch_cX4_readOpened_96 rfl) (rdb (p := 96) (i := 28) ch_cX4_readOpened_96 rfl) rfl
theorem dX4_readOpened_125 : decode cX4_readOpened 125 = .ok (.return_, 1) := do_177 (rdb (p := 96) (i := 29) ch_cX4_readOpened_96 rfl)
theorem ch_cX4_readSum_0 : (cX4_readSum.data.toList.drop 0).take 36 = [42, 182, 0, 78, 3, 60, 27, 16, 48, 162, 0, 60, 42, 180, 0, 35, 156, 0, 53, 42, 182, 0, 58, 61, 28, 16, 43, 159, 0, 10, 28, 16, 45, 159, 0, 4] := by decide +kernel
theorem dX4_readSum_0 : decode cX4_readSum 0 = .ok (.aload_n 0, 1) := do_42 (rdb (p := 0) (i := 0) ch_cX4_readSum_0 rfl)
theorem dX4_readSum_1 : decode cX4_readSum 1 = .ok (.invokevirtual 78, 3) := do_182 (rdb (p := 0) (i := 1) ch_cX4_readSum_0 rfl) (rdb (p := 0) (i := 2) ch_cX4_readSum_0 rfl) (rdb (p := 0) (i := 3) ch_cX4_readSum_0 rfl) rfl
theorem dX4_readSum_4 : decode cX4_readSum 4 = .ok (.iconst 0, 1) := do_3 (rdb (p := 0) (i := 4) ch_cX4_readSum_0 rfl)
theorem dX4_readSum_5 : decode cX4_readSum 5 = .ok (.istore_n 1, 1) := do_60 (rdb (p := 0) (i := 5) ch_cX4_readSum_0 rfl)
theorem dX4_readSum_6 : decode cX4_readSum 6 = .ok (.iload_n 1, 1) := do_27 (rdb (p := 0) (i := 6) ch_cX4_readSum_0 rfl)
theorem dX4_readSum_7 : decode cX4_readSum 7 = .ok (.bipush 48, 2) := do_16 (rdb (p := 0) (i := 7) ch_cX4_readSum_0 rfl) (rdb (p := 0) (i := 8) ch_cX4_readSum_0 rfl) (by decide +kernel)
theorem dX4_readSum_9 : decode cX4_readSum 9 = .ok (.if_icmp .ge 60, 3) := do_162 (rdb (p := 0) (i := 9) ch_cX4_readSum_0 rfl) (rdb (p := 0) (i := 10) ch_cX4_readSum_0 rfl) (rdb (p := 0) (i := 11) ch_cX4_readSum_0 rfl) (by decide +kernel)
theorem dX4_readSum_12 : decode cX4_readSum 12 = .ok (.aload_n 0, 1) := do_42 (rdb (p := 0) (i := 12) ch_cX4_readSum_0 rfl)
theorem dX4_readSum_13 : decode cX4_readSum 13 = .ok (.getfield 35, 3) := do_180 (rdb (p := 0) (i := 13) ch_cX4_readSum_0 rfl) (rdb (p := 0) (i := 14) ch_cX4_readSum_0 rfl) (rdb (p := 0) (i := 15) ch_cX4_readSum_0 rfl) rfl
theorem dX4_readSum_16 : decode cX4_readSum 16 = .ok (.ifCond .ge 53, 3) := do_156 (rdb (p := 0) (i := 16) ch_cX4_readSum_0 rfl) (rdb (p := 0) (i := 17) ch_cX4_readSum_0 rfl) (rdb (p := 0) (i := 18) ch_cX4_readSum_0 rfl) (by decide +kernel)
theorem dX4_readSum_19 : decode cX4_readSum 19 = .ok (.aload_n 0, 1) := do_42 (rdb (p := 0) (i := 19) ch_cX4_readSum_0 rfl)
theorem dX4_readSum_20 : decode cX4_readSum 20 = .ok (.invokevirtual 58, 3) := do_182 (rdb (p := 0) (i := 20) ch_cX4_readSum_0 rfl) (rdb (p := 0) (i := 21) ch_cX4_readSum_0 rfl) (rdb (p := 0) (i := 22) ch_cX4_readSum_0 rfl) rfl
theorem dX4_readSum_23 : decode cX4_readSum 23 = .ok (.istore_n 2, 1) := do_61 (rdb (p := 0) (i := 23) ch_cX4_readSum_0 rfl)
theorem dX4_readSum_24 : decode cX4_readSum 24 = .ok (.iload_n 2, 1) := do_28 (rdb (p := 0) (i := 24) ch_cX4_readSum_0 rfl)
theorem dX4_readSum_25 : decode cX4_readSum 25 = .ok (.bipush 43, 2) := do_16 (rdb (p := 0) (i := 25) ch_cX4_readSum_0 rfl) (rdb (p := 0) (i := 26) ch_cX4_readSum_0 rfl) (by decide +kernel)
theorem dX4_readSum_27 : decode cX4_readSum 27 = .ok (.if_icmp .eq 10, 3) := do_159 (rdb (p := 0) (i := 27) ch_cX4_readSum_0 rfl) (rdb (p := 0) (i := 28) ch_cX4_readSum_0 rfl) (rdb (p := 0) (i := 29) ch_cX4_readSum_0 rfl) (by decide +kernel)
theorem dX4_readSum_30 : decode cX4_readSum 30 = .ok (.iload_n 2, 1) := do_28 (rdb (p := 0) (i := 30) ch_cX4_readSum_0 rfl)
theorem dX4_readSum_31 : decode cX4_readSum 31 = .ok (.bipush 45, 2) := do_16 (rdb (p := 0) (i := 31) ch_cX4_readSum_0 rfl) (rdb (p := 0) (i := 32) ch_cX4_readSum_0 rfl) (by decide +kernel)
theorem ch_cX4_readSum_32 : (cX4_readSum.data.toList.drop 32).take 36 = [45, 159, 0, 4, 177, 42, 89, 180, 0, 31, 4, 96, 181, 0, 31, 42, 182, 0, 78, 42, 180, 0, 10, 17, 7, 208, 28, 96, 182, 0, 75, 132, 1, 1, 167, 255] := by decide +kernel
theorem dX4_readSum_33 : decode cX4_readSum 33 = .ok (.if_icmp .eq 4, 3) := do_159 (rdb (p := 32) (i := 1) ch_cX4_readSum_32 rfl) (rdb (p := 32) (i := 2) ch_cX4_readSum_32 rfl) (rdb (p := 32) (i := 3) ch_cX4_readSum_32 rfl) (by decide +kernel)
theorem dX4_readSum_36 : decode cX4_readSum 36 = .ok (.return_, 1) := do_177 (rdb (p := 32) (i := 4) ch_cX4_readSum_32 rfl)
theorem dX4_readSum_37 : decode cX4_readSum 37 = .ok (.aload_n 0, 1) := do_42 (rdb (p := 32) (i := 5) ch_cX4_readSum_32 rfl)
theorem dX4_readSum_38 : decode cX4_readSum 38 = .ok (.dup, 1) := do_89 (rdb (p := 32) (i := 6) ch_cX4_readSum_32 rfl)
theorem dX4_readSum_39 : decode cX4_readSum 39 = .ok (.getfield 31, 3) := do_180 (rdb (p := 32) (i := 7) ch_cX4_readSum_32 rfl) (rdb (p := 32) (i := 8) ch_cX4_readSum_32 rfl) (rdb (p := 32) (i := 9) ch_cX4_readSum_32 rfl) rfl
theorem dX4_readSum_42 : decode cX4_readSum 42 = .ok (.iconst 1, 1) := do_4 (rdb (p := 32) (i := 10) ch_cX4_readSum_32 rfl)
theorem dX4_readSum_43 : decode cX4_readSum 43 = .ok (.iadd, 1) := do_96 (rdb (p := 32) (i := 11) ch_cX4_readSum_32 rfl)
theorem dX4_readSum_44 : decode cX4_readSum 44 = .ok (.putfield 31, 3) := do_181 (rdb (p := 32) (i := 12) ch_cX4_readSum_32 rfl) (rdb (p := 32) (i := 13) ch_cX4_readSum_32 rfl) (rdb (p := 32) (i := 14) ch_cX4_readSum_32 rfl) rfl
theorem dX4_readSum_47 : decode cX4_readSum 47 = .ok (.aload_n 0, 1) := do_42 (rdb (p := 32) (i := 15) ch_cX4_readSum_32 rfl)
theorem dX4_readSum_48 : decode cX4_readSum 48 = .ok (.invokevirtual 78, 3) := do_182 (rdb (p := 32) (i := 16) ch_cX4_readSum_32 rfl) (rdb (p := 32) (i := 17) ch_cX4_readSum_32 rfl) (rdb (p := 32) (i := 18) ch_cX4_readSum_32 rfl) rfl
theorem dX4_readSum_51 : decode cX4_readSum 51 = .ok (.aload_n 0, 1) := do_42 (rdb (p := 32) (i := 19) ch_cX4_readSum_32 rfl)
theorem dX4_readSum_52 : decode cX4_readSum 52 = .ok (.getfield 10, 3) := do_180 (rdb (p := 32) (i := 20) ch_cX4_readSum_32 rfl) (rdb (p := 32) (i := 21) ch_cX4_readSum_32 rfl) (rdb (p := 32) (i := 22) ch_cX4_readSum_32 rfl) rfl
theorem dX4_readSum_55 : decode cX4_readSum 55 = .ok (.sipush 2000, 3) := do_17 (rdb (p := 32) (i := 23) ch_cX4_readSum_32 rfl) (rdb (p := 32) (i := 24) ch_cX4_readSum_32 rfl) (rdb (p := 32) (i := 25) ch_cX4_readSum_32 rfl) (by decide +kernel)
theorem dX4_readSum_58 : decode cX4_readSum 58 = .ok (.iload_n 2, 1) := do_28 (rdb (p := 32) (i := 26) ch_cX4_readSum_32 rfl)
theorem dX4_readSum_59 : decode cX4_readSum 59 = .ok (.iadd, 1) := do_96 (rdb (p := 32) (i := 27) ch_cX4_readSum_32 rfl)
theorem dX4_readSum_60 : decode cX4_readSum 60 = .ok (.invokevirtual 75, 3) := do_182 (rdb (p := 32) (i := 28) ch_cX4_readSum_32 rfl) (rdb (p := 32) (i := 29) ch_cX4_readSum_32 rfl) (rdb (p := 32) (i := 30) ch_cX4_readSum_32 rfl) rfl
theorem dX4_readSum_63 : decode cX4_readSum 63 = .ok (.iinc 1 1, 3) := do_132 (rdb (p := 32) (i := 31) ch_cX4_readSum_32 rfl) (rdb (p := 32) (i := 32) ch_cX4_readSum_32 rfl) (rdb (p := 32) (i := 33) ch_cX4_readSum_32 rfl) (by decide +kernel)
theorem ch_cX4_readSum_64 : (cX4_readSum.data.toList.drop 64).take 36 = [1, 1, 167, 255, 196, 177] := by decide +kernel
theorem dX4_readSum_66 : decode cX4_readSum 66 = .ok (.goto (-60), 3) := do_167 (rdb (p := 64) (i := 2) ch_cX4_readSum_64 rfl) (rdb (p := 64) (i := 3) ch_cX4_readSum_64 rfl) (rdb (p := 64) (i := 4) ch_cX4_readSum_64 rfl) (by decide +kernel)
theorem dX4_readSum_69 : decode cX4_readSum 69 = .ok (.return_, 1) := do_177 (rdb (p := 64) (i := 5) ch_cX4_readSum_64 rfl)
theorem ch_cX4_readTerm_0 : (cX4_readTerm.data.toList.drop 0).take 36 = [42, 182, 0, 81, 3, 60, 27, 16, 48, 162, 0, 66, 42, 180, 0, 35, 156, 0, 59, 42, 182, 0, 58, 61, 28, 16, 42, 159, 0, 16, 28, 16, 47, 159, 0, 10] := by decide +kernel
theorem dX4_readTerm_0 : decode cX4_readTerm 0 = .ok (.aload_n 0, 1) := do_42 (rdb (p := 0) (i := 0) ch_cX4_readTerm_0 rfl)
theorem dX4_readTerm_1 : decode cX4_readTerm 1 = .ok (.invokevirtual 81, 3) := do_182 (rdb (p := 0) (i := 1) ch_cX4_readTerm_0 rfl) (rdb (p := 0) (i := 2) ch_cX4_readTerm_0 rfl) (rdb (p := 0) (i := 3) ch_cX4_readTerm_0 rfl) rfl
theorem dX4_readTerm_4 : decode cX4_readTerm 4 = .ok (.iconst 0, 1) := do_3 (rdb (p := 0) (i := 4) ch_cX4_readTerm_0 rfl)
theorem dX4_readTerm_5 : decode cX4_readTerm 5 = .ok (.istore_n 1, 1) := do_60 (rdb (p := 0) (i := 5) ch_cX4_readTerm_0 rfl)
theorem dX4_readTerm_6 : decode cX4_readTerm 6 = .ok (.iload_n 1, 1) := do_27 (rdb (p := 0) (i := 6) ch_cX4_readTerm_0 rfl)
theorem dX4_readTerm_7 : decode cX4_readTerm 7 = .ok (.bipush 48, 2) := do_16 (rdb (p := 0) (i := 7) ch_cX4_readTerm_0 rfl) (rdb (p := 0) (i := 8) ch_cX4_readTerm_0 rfl) (by decide +kernel)
theorem dX4_readTerm_9 : decode cX4_readTerm 9 = .ok (.if_icmp .ge 66, 3) := do_162 (rdb (p := 0) (i := 9) ch_cX4_readTerm_0 rfl) (rdb (p := 0) (i := 10) ch_cX4_readTerm_0 rfl) (rdb (p := 0) (i := 11) ch_cX4_readTerm_0 rfl) (by decide +kernel)
theorem dX4_readTerm_12 : decode cX4_readTerm 12 = .ok (.aload_n 0, 1) := do_42 (rdb (p := 0) (i := 12) ch_cX4_readTerm_0 rfl)
theorem dX4_readTerm_13 : decode cX4_readTerm 13 = .ok (.getfield 35, 3) := do_180 (rdb (p := 0) (i := 13) ch_cX4_readTerm_0 rfl) (rdb (p := 0) (i := 14) ch_cX4_readTerm_0 rfl) (rdb (p := 0) (i := 15) ch_cX4_readTerm_0 rfl) rfl
theorem dX4_readTerm_16 : decode cX4_readTerm 16 = .ok (.ifCond .ge 59, 3) := do_156 (rdb (p := 0) (i := 16) ch_cX4_readTerm_0 rfl) (rdb (p := 0) (i := 17) ch_cX4_readTerm_0 rfl) (rdb (p := 0) (i := 18) ch_cX4_readTerm_0 rfl) (by decide +kernel)
theorem dX4_readTerm_19 : decode cX4_readTerm 19 = .ok (.aload_n 0, 1) := do_42 (rdb (p := 0) (i := 19) ch_cX4_readTerm_0 rfl)
theorem dX4_readTerm_20 : decode cX4_readTerm 20 = .ok (.invokevirtual 58, 3) := do_182 (rdb (p := 0) (i := 20) ch_cX4_readTerm_0 rfl) (rdb (p := 0) (i := 21) ch_cX4_readTerm_0 rfl) (rdb (p := 0) (i := 22) ch_cX4_readTerm_0 rfl) rfl
theorem dX4_readTerm_23 : decode cX4_readTerm 23 = .ok (.istore_n 2, 1) := do_61 (rdb (p := 0) (i := 23) ch_cX4_readTerm_0 rfl)
theorem dX4_readTerm_24 : decode cX4_readTerm 24 = .ok (.iload_n 2, 1) := do_28 (rdb (p := 0) (i := 24) ch_cX4_readTerm_0 rfl)
theorem dX4_readTerm_25 : decode cX4_readTerm 25 = .ok (.bipush 42, 2) := do_16 (rdb (p := 0) (i := 25) ch_cX4_readTerm_0 rfl) (rdb (p := 0) (i := 26) ch_cX4_readTerm_0 rfl) (by decide +kernel)
theorem dX4_readTerm_27 : decode cX4_readTerm 27 = .ok (.if_icmp .eq 16, 3) := do_159 (rdb (p := 0) (i := 27) ch_cX4_readTerm_0 rfl) (rdb (p := 0) (i := 28) ch_cX4_readTerm_0 rfl) (rdb (p := 0) (i := 29) ch_cX4_readTerm_0 rfl) (by decide +kernel)
theorem dX4_readTerm_30 : decode cX4_readTerm 30 = .ok (.iload_n 2, 1) := do_28 (rdb (p := 0) (i := 30) ch_cX4_readTerm_0 rfl)
theorem dX4_readTerm_31 : decode cX4_readTerm 31 = .ok (.bipush 47, 2) := do_16 (rdb (p := 0) (i := 31) ch_cX4_readTerm_0 rfl) (rdb (p := 0) (i := 32) ch_cX4_readTerm_0 rfl) (by decide +kernel)
theorem ch_cX4_readTerm_32 : (cX4_readTerm.data.toList.drop 32).take 36 = [47, 159, 0, 10, 28, 16, 37, 159, 0, 4, 177, 42, 89, 180, 0, 31, 4, 96, 181, 0, 31, 42, 182, 0, 81, 42, 180, 0, 10, 17, 7, 208, 28, 96, 182, 0] := by decide +kernel
theorem dX4_readTerm_33 : decode cX4_readTerm 33 = .ok (.if_icmp .eq 10, 3) := do_159 (rdb (p := 32) (i := 1) ch_cX4_readTerm_32 rfl) (rdb (p := 32) (i := 2) ch_cX4_readTerm_32 rfl) (rdb (p := 32) (i := 3) ch_cX4_readTerm_32 rfl) (by decide +kernel)
theorem dX4_readTerm_36 : decode cX4_readTerm 36 = .ok (.iload_n 2, 1) := do_28 (rdb (p := 32) (i := 4) ch_cX4_readTerm_32 rfl)
theorem dX4_readTerm_37 : decode cX4_readTerm 37 = .ok (.bipush 37, 2) := do_16 (rdb (p := 32) (i := 5) ch_cX4_readTerm_32 rfl) (rdb (p := 32) (i := 6) ch_cX4_readTerm_32 rfl) (by decide +kernel)
theorem dX4_readTerm_39 : decode cX4_readTerm 39 = .ok (.if_icmp .eq 4, 3) := do_159 (rdb (p := 32) (i := 7) ch_cX4_readTerm_32 rfl) (rdb (p := 32) (i := 8) ch_cX4_readTerm_32 rfl) (rdb (p := 32) (i := 9) ch_cX4_readTerm_32 rfl) (by decide +kernel)
theorem dX4_readTerm_42 : decode cX4_readTerm 42 = .ok (.return_, 1) := do_177 (rdb (p := 32) (i := 10) ch_cX4_readTerm_32 rfl)
theorem dX4_readTerm_43 : decode cX4_readTerm 43 = .ok (.aload_n 0, 1) := do_42 (rdb (p := 32) (i := 11) ch_cX4_readTerm_32 rfl)
theorem dX4_readTerm_44 : decode cX4_readTerm 44 = .ok (.dup, 1) := do_89 (rdb (p := 32) (i := 12) ch_cX4_readTerm_32 rfl)
theorem dX4_readTerm_45 : decode cX4_readTerm 45 = .ok (.getfield 31, 3) := do_180 (rdb (p := 32) (i := 13) ch_cX4_readTerm_32 rfl) (rdb (p := 32) (i := 14) ch_cX4_readTerm_32 rfl) (rdb (p := 32) (i := 15) ch_cX4_readTerm_32 rfl) rfl
theorem dX4_readTerm_48 : decode cX4_readTerm 48 = .ok (.iconst 1, 1) := do_4 (rdb (p := 32) (i := 16) ch_cX4_readTerm_32 rfl)
theorem dX4_readTerm_49 : decode cX4_readTerm 49 = .ok (.iadd, 1) := do_96 (rdb (p := 32) (i := 17) ch_cX4_readTerm_32 rfl)
theorem dX4_readTerm_50 : decode cX4_readTerm 50 = .ok (.putfield 31, 3) := do_181 (rdb (p := 32) (i := 18) ch_cX4_readTerm_32 rfl) (rdb (p := 32) (i := 19) ch_cX4_readTerm_32 rfl) (rdb (p := 32) (i := 20) ch_cX4_readTerm_32 rfl) rfl
theorem dX4_readTerm_53 : decode cX4_readTerm 53 = .ok (.aload_n 0, 1) := do_42 (rdb (p := 32) (i := 21) ch_cX4_readTerm_32 rfl)
theorem dX4_readTerm_54 : decode cX4_readTerm 54 = .ok (.invokevirtual 81, 3) := do_182 (rdb (p := 32) (i := 22) ch_cX4_readTerm_32 rfl) (rdb (p := 32) (i := 23) ch_cX4_readTerm_32 rfl) (rdb (p := 32) (i := 24) ch_cX4_readTerm_32 rfl) rfl
theorem dX4_readTerm_57 : decode cX4_readTerm 57 = .ok (.aload_n 0, 1) := do_42 (rdb (p := 32) (i := 25) ch_cX4_readTerm_32 rfl)
theorem dX4_readTerm_58 : decode cX4_readTerm 58 = .ok (.getfield 10, 3) := do_180 (rdb (p := 32) (i := 26) ch_cX4_readTerm_32 rfl) (rdb (p := 32) (i := 27) ch_cX4_readTerm_32 rfl) (rdb (p := 32) (i := 28) ch_cX4_readTerm_32 rfl) rfl
theorem dX4_readTerm_61 : decode cX4_readTerm 61 = .ok (.sipush 2000, 3) := do_17 (rdb (p := 32) (i := 29) ch_cX4_readTerm_32 rfl) (rdb (p := 32) (i := 30) ch_cX4_readTerm_32 rfl) (rdb (p := 32) (i := 31) ch_cX4_readTerm_32 rfl) (by decide +kernel)
theorem ch_cX4_readTerm_64 : (cX4_readTerm.data.toList.drop 64).take 36 = [28, 96, 182, 0, 75, 132, 1, 1, 167, 255, 190, 177] := by decide +kernel
theorem dX4_readTerm_64 : decode cX4_readTerm 64 = .ok (.iload_n 2, 1) := do_28 (rdb (p := 64) (i := 0) ch_cX4_readTerm_64 rfl)
theorem dX4_readTerm_65 : decode cX4_readTerm 65 = .ok (.iadd, 1) := do_96 (rdb (p := 64) (i := 1) ch_cX4_readTerm_64 rfl)
theorem dX4_readTerm_66 : decode cX4_readTerm 66 = .ok (.invokevirtual 75, 3) := do_182 (rdb (p := 64) (i := 2) ch_cX4_readTerm_64 rfl) (rdb (p := 64) (i := 3) ch_cX4_readTerm_64 rfl) (rdb (p := 64) (i := 4) ch_cX4_readTerm_64 rfl) rfl
theorem dX4_readTerm_69 : decode cX4_readTerm 69 = .ok (.iinc 1 1, 3) := do_132 (rdb (p := 64) (i := 5) ch_cX4_readTerm_64 rfl) (rdb (p := 64) (i := 6) ch_cX4_readTerm_64 rfl) (rdb (p := 64) (i := 7) ch_cX4_readTerm_64 rfl) (by decide +kernel)
theorem dX4_readTerm_72 : decode cX4_readTerm 72 = .ok (.goto (-66), 3) := do_167 (rdb (p := 64) (i := 8) ch_cX4_readTerm_64 rfl) (rdb (p := 64) (i := 9) ch_cX4_readTerm_64 rfl) (rdb (p := 64) (i := 10) ch_cX4_readTerm_64 rfl) (by decide +kernel)
theorem dX4_readTerm_75 : decode cX4_readTerm 75 = .ok (.return_, 1) := do_177 (rdb (p := 64) (i := 11) ch_cX4_readTerm_64 rfl)
end
section
def S_reader : rf → Nat → Prop := fun c k => (c.1 = 4 ∧ c.2.1 = 0 ∧ k = 3) ∨ (c.1 = 4 ∧ c.2.1 = 0 ∧ k = 4) ∨ (c.1 = 4 ∧ c.2.1 = 0 ∧ k = 5) ∨ (c.1 = 4 ∧ c.2.1 = 0 ∧ k = 6) ∨ (c.1 = 1 ∧ c.2.1 = 3 ∧ c.2.2 = 0 ∧ k = 2) ∨ (c.1 = 24 ∧ c.2.1 = 3 ∧ c.2.2 = 0) ∨ False
def ONEC (l : Launch) (G : va_G) (cy : Nat → ClassId) (ad : rf → Nat) (N m : Nat) (Q : mM → mM → Prop) : Prop := ∀ (d : Nat) (Mz : mM) (hIz : Inv Mz) (hT : Mz.1 (4, 0, 0) 1 = 1) (hN : Mz.1 (4, 0, 0) 2 = 1 ∨ Mz.1 (4, 0, 0) 2 = 2 ∨ Mz.1 (4, 0, 0) 2 = 3) (hk : (Mz.1 (4, 0, 0) 5).toInt + ((m : Nat) : Int) = 5) (hm : m ≤ 5), WP CC l G cy ad yX4_readOne cX4_readOne 2 none (N + d) 0 [(0, vR (4, 0, 0))] [] Mz (fun r M' => Inv M' ∧ FR (S_reader) Mz M' ∧ ((M'.1 (4, 0, 0) 5).toInt + ((m : Nat) : Int) = 5) ∧ Q Mz M')
def CMPC (l : Launch) (G : va_G) (cy : Nat → ClassId) (ad : rf → Nat) (N m : Nat) (Q : mM → mM → Prop) : Prop := ∀ (d : Nat) (Mz : mM) (hIz : Inv Mz) (hT : Mz.1 (4, 0, 0) 1 = 1) (hN : Mz.1 (4, 0, 0) 2 = 1 ∨ Mz.1 (4, 0, 0) 2 = 2 ∨ Mz.1 (4, 0, 0) 2 = 3) (hk : (Mz.1 (4, 0, 0) 5).toInt + ((m : Nat) : Int) = 5) (hm : m ≤ 5), WP CC l G cy ad yX4_readComparisons cX4_readComparisons 3 none (N + d) 0 [(0, vR (4, 0, 0))] [] Mz (fun r M' => Inv M' ∧ FR (S_reader) Mz M' ∧ ((M'.1 (4, 0, 0) 5).toInt + ((m : Nat) : Int) = 5) ∧ Q Mz M')
def SP_X4_readOpened (N : Nat) (m : Nat) (QA : mM → mM → Prop) (QB : mM → mM → Prop) (v : Int32) (Mz : mM) (M_ : mM) : Prop := ∃ z1_ : Int32, (z1_ = Mz.1 (4, 0, 0) 5) ∧ (z1_.toInt + ((m : Nat) : Int) = 5) ∧ (((z1_.toInt < 5) ∧ ∃ z7_ : Int32, (z7_.toInt = z1_.toInt + 1) ∧ ∃ M9_ : mM, (M9_ = up Mz (4, 0, 0) 5 z7_) ∧ ∃ z16_ : Int32, (z16_ = M9_.1 (4, 0, 0) 3) ∧ ∃ z18_ : Int32, (z18_ = z16_ + (1 : Int32)) ∧ ∃ M20_ : mM, (M20_ = up M9_ (4, 0, 0) 3 z18_) ∧ (((¬ v.toInt = 45) ∧ (((¬ v.toInt = 40) ∧ (Inv M20_) ∧ ∃ M29_ : mM, (Inv M29_) ∧ (FR (S_reader) M20_ M29_) ∧ (QB M20_ M29_) ∧ ((M29_.1 (4, 0, 0) 5).toInt + (((m - 1) : Nat) : Int) = 5) ∧ ∃ M38_ : mM, (Inv M38_) ∧ (FR (S_c_X4_expect) M29_ M38_) ∧ (SP_X4_expect 63 M29_ M38_) ∧ ∃ M48_ : mM, (Inv M48_) ∧ (FR (S_reader) M38_ M48_) ∧ (QB M38_ M48_) ∧ ((M48_.1 (4, 0, 0) 5).toInt + (((m - 1) : Nat) : Int) = 5) ∧ ∃ M57_ : mM, (Inv M57_) ∧ (FR (S_c_X4_expect) M48_ M57_) ∧ (SP_X4_expect 58 M48_ M57_) ∧ ∃ M67_ : mM, (Inv M67_) ∧ (FR (S_reader) M57_ M67_) ∧ (QB M57_ M67_) ∧ ((M67_.1 (4, 0, 0) 5).toInt + (((m - 1) : Nat) : Int) = 5) ∧ ∃ M76_ : mM, (Inv M76_) ∧ (FR (S_c_X4_expect) M67_ M76_) ∧ (SP_X4_expect 93 M67_ M76_) ∧ ∃ M86_ : mM, (Inv M86_) ∧ (FR (S_c_X1_add 3 0) M76_ M86_) ∧ (SP_X1_add 3 0 2063 M76_ M86_) ∧ ∃ z96_ : Int32, (z96_ = M86_.1 (4, 0, 0) 5) ∧ (z96_.toInt + (((m - 1) : Nat) : Int) = 5) ∧ ∃ z99_ : Int32, (z99_.toInt = z96_.toInt - 1) ∧ ∃ M101_ : mM, (M101_ = up M86_ (4, 0, 0) 5 z99_) ∧ M_ = M101_) ∨ ((v.toInt = 40) ∧ (Inv M20_) ∧ ∃ M108_ : mM, (Inv M108_) ∧ (FR (S_reader) M20_ M108_) ∧ (QB M20_ M108_) ∧ ((M108_.1 (4, 0, 0) 5).toInt + (((m - 1) : Nat) : Int) = 5) ∧ ∃ M117_ : mM, (Inv M117_) ∧ (FR (S_c_X4_expect) M108_ M117_) ∧ (SP_X4_expect 41 M108_ M117_) ∧ ∃ z127_ : Int32, (z127_ = M117_.1 (4, 0, 0) 5) ∧ (z127_.toInt + (((m - 1) : Nat) : Int) = 5) ∧ ∃ z130_ : Int32, (z130_.toInt = z127_.toInt - 1) ∧ ∃ M132_ : mM, (M132_ = up M117_ (4, 0, 0) 5 z130_) ∧ M_ = M132_))) ∨ ((v.toInt = 45) ∧ (Inv M20_) ∧ ∃ M139_ : mM, (Inv M139_) ∧ (FR (S_reader) M20_ M139_) ∧ (QA M20_ M139_) ∧ ((M139_.1 (4, 0, 0) 5).toInt + (((m - 1) : Nat) : Int) = 5) ∧ ∃ M148_ : mM, (Inv M148_) ∧ (FR (S_c_X1_add 3 0) M139_ M148_) ∧ (SP_X1_add 3 0 2126 M139_ M148_) ∧ ∃ z158_ : Int32, (z158_ = M148_.1 (4, 0, 0) 5) ∧ (z158_.toInt + (((m - 1) : Nat) : Int) = 5) ∧ ∃ z161_ : Int32, (z161_.toInt = z158_.toInt - 1) ∧ ∃ M163_ : mM, (M163_ = up M148_ (4, 0, 0) 5 z161_) ∧ M_ = M163_))) ∨ ((5 ≤ z1_.toInt) ∧ ∃ M170_ : mM, (Inv M170_) ∧ (FR (S_c_X4_fail) Mz M170_) ∧ (SP_X4_fail Mz M170_) ∧ M_ = M170_))
theorem lf_c_X4_readOpened_0 (m : Nat) (z1_ : Int32) (hm : m ≤ 5) (h3_ : z1_.toInt + ((m : Nat) : Int) = 5) (h4_ : z1_.toInt < 5) : -2147483648 ≤ z1_.toInt + 1 ∧ z1_.toInt + 1 < 2147483648 := by omega
theorem lf_c_X4_readOpened_1 (m : Nat) (z1_ : Int32) (z7_ : Int32) (h3_ : z1_.toInt + ((m : Nat) : Int) = 5) (h4_ : z1_.toInt < 5) (h8_ : z7_.toInt = z1_.toInt + 1) : z7_.toInt + (((m - 1) : Nat) : Int) = 5 := by omega
theorem lf_c_X4_readOpened_2 (m : Nat) (hm : m ≤ 5) : (m - 1) ≤ 5 := by omega
theorem lf_c_X4_readOpened_3 (m : Nat) (z1_ : Int32) (h3_ : z1_.toInt + ((m : Nat) : Int) = 5) (h4_ : z1_.toInt < 5) : m - 1 + 1 = m := by omega
theorem lf_c_X4_readOpened_8 (m : Nat) (z96_ : Int32) (hm : m ≤ 5) (h98_ : z96_.toInt + (((m - 1) : Nat) : Int) = 5) : -2147483648 ≤ z96_.toInt - 1 ∧ z96_.toInt - 1 < 2147483648 := by omega
theorem lf_c_X4_readOpened_9 (m : Nat) (z1_ : Int32) (z96_ : Int32) (z99_ : Int32) (h3_ : z1_.toInt + ((m : Nat) : Int) = 5) (h4_ : z1_.toInt < 5) (h98_ : z96_.toInt + (((m - 1) : Nat) : Int) = 5) (h100_ : z99_.toInt = z96_.toInt - 1) : z99_.toInt + ((m : Nat) : Int) = 5 := by omega
set_option maxHeartbeats 4000000 in
set_option maxRecDepth 100000 in
theorem c_X4_readOpened (l : Launch) (G : va_G) (cy : Nat → ClassId) (ad : rf → Nat) (d : Nat) (N : Nat) (m : Nat) (QA : mM → mM → Prop) (QB : mM → mM → Prop) (v : Int32) (Mz : mM) (hIz : Inv Mz) (hA : ∀ k : Nat, k + 1 = m → ONEC l G cy ad N k QA) (hB : ∀ k : Nat, k + 1 = m → CMPC l G cy ad N k QB) (hT : Mz.1 (4, 0, 0) 1 = 1) (hN : Mz.1 (4, 0, 0) 2 = 1 ∨ Mz.1 (4, 0, 0) 2 = 2 ∨ Mz.1 (4, 0, 0) 2 = 3) (hk : (Mz.1 (4, 0, 0) 5).toInt + ((m : Nat) : Int) = 5) (hm : m ≤ 5) : WP CC l G cy ad yX4_readOpened cX4_readOpened 2 none ((N + d) + 3) 0 [(0, vR (4, 0, 0)), (1, vI v)] [] Mz (fun r M' => Inv M' ∧ FR (S_reader) Mz M' ∧ ((M'.1 (4, 0, 0) 5).toInt + ((m : Nat) : Int) = 5) ∧ SP_X4_readOpened N m QA QB v Mz M') := by
  have hFz : FR (S_reader) Mz Mz := FR.self
  refine w_aload_n dX4_readOpened_0 rfl 0 rfl ?_
  refine w_getI fl_RX4_38 rfl rfl ic_4 dX4_readOpened_1 (fun z1_ e2_ => ?_)
  have h3_ : z1_.toInt + ((m : Nat) : Int) = 5 := by rw [e2_]; exact hk
  refine w_iconst (v := 5) dX4_readOpened_4 (by decide) ?_
  refine w_icmp_lt (tgt := 13) dX4_readOpened_5 (by decide) (rfl : z1_.toInt = z1_.toInt) li_5 (fun h4_ => ?_) (fun h4_ => ?_)
  · refine w_aload_n dX4_readOpened_13 rfl 0 rfl ?_
    refine w_dup dX4_readOpened_14 rfl ?_
    refine w_getI fl_RX4_38 rfl rfl ic_4 dX4_readOpened_15 (fun z5_ e6_ => ?_)
    obtain rfl : z1_ = z5_ := e2_.trans e6_.symm
    refine w_iconst (v := 1) dX4_readOpened_18 (by decide) ?_
    refine w_iaddB dX4_readOpened_19 (rfl : z1_.toInt = z1_.toInt) li_1 (lf_c_X4_readOpened_0 m z1_ hm h3_ h4_ ) (fun z7_ h8_ => ?_)
    refine w_putI CC_nd fl_RX4_38 rfl rfl ic_4 dX4_readOpened_20 (fun M9_ hM10_ => ?_)
    have hI11_ := hIz.put hM10_ trivial
    have hF12_ := hFz.put hM10_ (Or.inr (Or.inr (Or.inl ⟨rfl, rfl, rfl⟩)))
    have kf13_ : M9_.1 (4, 0, 0) 1 = 1 := by rw [(show M9_.1 (4, 0, 0) 1 = Mz.1 (4, 0, 0) 1 by rw [hM10_, up_ne (by simp)])]; exact hT
    have kf14_ : M9_.1 (4, 0, 0) 2 = 1 ∨ M9_.1 (4, 0, 0) 2 = 2 ∨ M9_.1 (4, 0, 0) 2 = 3 := by rw [(show M9_.1 (4, 0, 0) 2 = Mz.1 (4, 0, 0) 2 by rw [hM10_, up_ne (by simp)])]; exact hN
    have kf15_ : (M9_.1 (4, 0, 0) 5).toInt + (((m - 1) : Nat) : Int) = 5 := by rw [hM10_, up_same]; exact (lf_c_X4_readOpened_1 m z1_ z7_ h3_ h4_ h8_ )
    refine w_aload_n dX4_readOpened_23 rfl 0 rfl ?_
    refine w_dup dX4_readOpened_24 rfl ?_
    refine w_getI fl_RX4_31 rfl rfl ic_4 dX4_readOpened_25 (fun z16_ e17_ => ?_)
    refine w_iconst (v := 1) dX4_readOpened_28 (by decide) ?_
    refine w_iadd dX4_readOpened_29 (fun z18_ h19_ => ?_)
    refine w_putI CC_nd fl_RX4_31 rfl rfl ic_4 dX4_readOpened_30 (fun M20_ hM21_ => ?_)
    have hI22_ := hI11_.put hM21_ trivial
    have hF23_ := hF12_.put hM21_ (Or.inl ⟨rfl, rfl, rfl⟩)
    have kf24_ : M20_.1 (4, 0, 0) 1 = 1 := by rw [(show M20_.1 (4, 0, 0) 1 = M9_.1 (4, 0, 0) 1 by rw [hM21_, up_ne (by simp)])]; exact kf13_
    have kf25_ : M20_.1 (4, 0, 0) 2 = 1 ∨ M20_.1 (4, 0, 0) 2 = 2 ∨ M20_.1 (4, 0, 0) 2 = 3 := by rw [(show M20_.1 (4, 0, 0) 2 = M9_.1 (4, 0, 0) 2 by rw [hM21_, up_ne (by simp)])]; exact kf14_
    have kf26_ : (M20_.1 (4, 0, 0) 5).toInt + (((m - 1) : Nat) : Int) = 5 := by rw [(show M20_.1 (4, 0, 0) 5 = M9_.1 (4, 0, 0) 5 by rw [hM21_, up_ne (by simp)])]; exact kf15_
    refine w_iload_n dX4_readOpened_33 rfl 1 rfl ?_
    refine w_bipush (v := 45) dX4_readOpened_34 (by decide) ?_
    refine w_icmp_ne (tgt := 56) dX4_readOpened_36 (by decide) (rfl : v.toInt = v.toInt) li_45 (fun h27_ => ?_) (fun h27_ => ?_)
    · refine w_iload_n dX4_readOpened_56 rfl 1 rfl ?_
      refine w_bipush (v := 40) dX4_readOpened_57 (by decide) ?_
      refine w_icmp_ne (tgt := 75) dX4_readOpened_59 (by decide) (rfl : v.toInt = v.toInt) li_40 (fun h28_ => ?_) (fun h28_ => ?_)
      · refine w_aload_n dX4_readOpened_75 rfl 0 rfl ?_
        refine w_callVv (as := []) (rest := []) (hB (m - 1) (lf_c_X4_readOpened_3 m z1_ h3_ h4_ ) (d + 2) M20_ hI22_ kf24_ kf25_ kf26_ (lf_c_X4_readOpened_2 m hm )) kV_X4_readComparisons pnn_16 (Nat.le_of_ble_eq_true rfl) m_692 rfl rfl rfl ic_4 rfl rfl (by decide) (Nat.le_of_ble_eq_true rfl) dX4_readOpened_76 (fun M29_ q30_ => ?_)
        obtain ⟨hI32_, hF33_, h31_, hs35_⟩ := q30_
        have hF34_ := hF23_.tr hF33_ (fun c k => (fun h => h.elim (fun h => (Or.inl ⟨h.1, h.2.1, h.2.2⟩)) (fun h => h.elim (fun h => (Or.inr (Or.inl ⟨h.1, h.2.1, h.2.2⟩))) (fun h => h.elim (fun h => (Or.inr (Or.inr (Or.inl ⟨h.1, h.2.1, h.2.2⟩)))) (fun h => h.elim (fun h => (Or.inr (Or.inr (Or.inr (Or.inl ⟨h.1, h.2.1, h.2.2⟩))))) (fun h => h.elim (fun h => (Or.inr (Or.inr (Or.inr (Or.inr (Or.inl ⟨h.1, h.2.1, h.2.2.1, h.2.2.2⟩)))))) (fun h => h.elim (fun h => (Or.inr (Or.inr (Or.inr (Or.inr (Or.inr (Or.inl ⟨h.1, h.2.1, h.2.2⟩))))))) (fun h => h.elim))))))))
        have kf36_ : M29_.1 (4, 0, 0) 1 = 1 := by rw [(hF33_ (4, 0, 0) 1 (by simp [S_reader]))]; exact kf24_
        have kf37_ : M29_.1 (4, 0, 0) 2 = 1 ∨ M29_.1 (4, 0, 0) 2 = 2 ∨ M29_.1 (4, 0, 0) 2 = 3 := by rw [(hF33_ (4, 0, 0) 2 (by simp [S_reader]))]; exact kf25_
        refine w_aload_n dX4_readOpened_79 rfl 0 rfl ?_
        refine w_bipush (v := 63) dX4_readOpened_80 (by decide) ?_
        refine w_callVv (as := [vI 63]) (rest := []) (c_X4_expect l G cy ad (N + d) 63 M29_ hI32_ kf36_) kV_X4_expect pnn_16 (Nat.le_of_ble_eq_true rfl) m_732 rfl rfl rfl ic_4 rfl rfl (by decide) (Nat.le_of_ble_eq_true rfl) dX4_readOpened_82 (fun M38_ q39_ => ?_)
        obtain ⟨hI41_, hF42_, h40_, hs44_⟩ := q39_
        have hF43_ := hF34_.tr hF42_ (fun c k => (fun h => h.elim (fun h => (Or.inl ⟨h.1, h.2.1, h.2.2⟩)) (fun h => h.elim (fun h => (Or.inr (Or.inl ⟨h.1, h.2.1, h.2.2⟩))) (fun h => h.elim))))
        have kf45_ : M38_.1 (4, 0, 0) 1 = 1 := by rw [(hF42_ (4, 0, 0) 1 (by simp [S_c_X4_expect]))]; exact kf36_
        have kf46_ : M38_.1 (4, 0, 0) 2 = 1 ∨ M38_.1 (4, 0, 0) 2 = 2 ∨ M38_.1 (4, 0, 0) 2 = 3 := by rw [(hF42_ (4, 0, 0) 2 (by simp [S_c_X4_expect]))]; exact kf37_
        have kf47_ : (M38_.1 (4, 0, 0) 5).toInt + (((m - 1) : Nat) : Int) = 5 := by rw [(hF42_ (4, 0, 0) 5 (by simp [S_c_X4_expect]))]; exact h31_
        refine w_aload_n dX4_readOpened_85 rfl 0 rfl ?_
        refine w_callVv (as := []) (rest := []) (hB (m - 1) (lf_c_X4_readOpened_3 m z1_ h3_ h4_ ) (d + 2) M38_ hI41_ kf45_ kf46_ kf47_ (lf_c_X4_readOpened_2 m hm )) kV_X4_readComparisons pnn_16 (Nat.le_of_ble_eq_true rfl) m_692 rfl rfl rfl ic_4 rfl rfl (by decide) (Nat.le_of_ble_eq_true rfl) dX4_readOpened_86 (fun M48_ q49_ => ?_)
        obtain ⟨hI51_, hF52_, h50_, hs54_⟩ := q49_
        have hF53_ := hF43_.tr hF52_ (fun c k => (fun h => h.elim (fun h => (Or.inl ⟨h.1, h.2.1, h.2.2⟩)) (fun h => h.elim (fun h => (Or.inr (Or.inl ⟨h.1, h.2.1, h.2.2⟩))) (fun h => h.elim (fun h => (Or.inr (Or.inr (Or.inl ⟨h.1, h.2.1, h.2.2⟩)))) (fun h => h.elim (fun h => (Or.inr (Or.inr (Or.inr (Or.inl ⟨h.1, h.2.1, h.2.2⟩))))) (fun h => h.elim (fun h => (Or.inr (Or.inr (Or.inr (Or.inr (Or.inl ⟨h.1, h.2.1, h.2.2.1, h.2.2.2⟩)))))) (fun h => h.elim (fun h => (Or.inr (Or.inr (Or.inr (Or.inr (Or.inr (Or.inl ⟨h.1, h.2.1, h.2.2⟩))))))) (fun h => h.elim))))))))
        have kf55_ : M48_.1 (4, 0, 0) 1 = 1 := by rw [(hF52_ (4, 0, 0) 1 (by simp [S_reader]))]; exact kf45_
        have kf56_ : M48_.1 (4, 0, 0) 2 = 1 ∨ M48_.1 (4, 0, 0) 2 = 2 ∨ M48_.1 (4, 0, 0) 2 = 3 := by rw [(hF52_ (4, 0, 0) 2 (by simp [S_reader]))]; exact kf46_
        refine w_aload_n dX4_readOpened_89 rfl 0 rfl ?_
        refine w_bipush (v := 58) dX4_readOpened_90 (by decide) ?_
        refine w_callVv (as := [vI 58]) (rest := []) (c_X4_expect l G cy ad (N + d) 58 M48_ hI51_ kf55_) kV_X4_expect pnn_16 (Nat.le_of_ble_eq_true rfl) m_732 rfl rfl rfl ic_4 rfl rfl (by decide) (Nat.le_of_ble_eq_true rfl) dX4_readOpened_92 (fun M57_ q58_ => ?_)
        obtain ⟨hI60_, hF61_, h59_, hs63_⟩ := q58_
        have hF62_ := hF53_.tr hF61_ (fun c k => (fun h => h.elim (fun h => (Or.inl ⟨h.1, h.2.1, h.2.2⟩)) (fun h => h.elim (fun h => (Or.inr (Or.inl ⟨h.1, h.2.1, h.2.2⟩))) (fun h => h.elim))))
        have kf64_ : M57_.1 (4, 0, 0) 1 = 1 := by rw [(hF61_ (4, 0, 0) 1 (by simp [S_c_X4_expect]))]; exact kf55_
        have kf65_ : M57_.1 (4, 0, 0) 2 = 1 ∨ M57_.1 (4, 0, 0) 2 = 2 ∨ M57_.1 (4, 0, 0) 2 = 3 := by rw [(hF61_ (4, 0, 0) 2 (by simp [S_c_X4_expect]))]; exact kf56_
        have kf66_ : (M57_.1 (4, 0, 0) 5).toInt + (((m - 1) : Nat) : Int) = 5 := by rw [(hF61_ (4, 0, 0) 5 (by simp [S_c_X4_expect]))]; exact h50_
        refine w_aload_n dX4_readOpened_95 rfl 0 rfl ?_
        refine w_callVv (as := []) (rest := []) (hB (m - 1) (lf_c_X4_readOpened_3 m z1_ h3_ h4_ ) (d + 2) M57_ hI60_ kf64_ kf65_ kf66_ (lf_c_X4_readOpened_2 m hm )) kV_X4_readComparisons pnn_16 (Nat.le_of_ble_eq_true rfl) m_692 rfl rfl rfl ic_4 rfl rfl (by decide) (Nat.le_of_ble_eq_true rfl) dX4_readOpened_96 (fun M67_ q68_ => ?_)
        obtain ⟨hI70_, hF71_, h69_, hs73_⟩ := q68_
        have hF72_ := hF62_.tr hF71_ (fun c k => (fun h => h.elim (fun h => (Or.inl ⟨h.1, h.2.1, h.2.2⟩)) (fun h => h.elim (fun h => (Or.inr (Or.inl ⟨h.1, h.2.1, h.2.2⟩))) (fun h => h.elim (fun h => (Or.inr (Or.inr (Or.inl ⟨h.1, h.2.1, h.2.2⟩)))) (fun h => h.elim (fun h => (Or.inr (Or.inr (Or.inr (Or.inl ⟨h.1, h.2.1, h.2.2⟩))))) (fun h => h.elim (fun h => (Or.inr (Or.inr (Or.inr (Or.inr (Or.inl ⟨h.1, h.2.1, h.2.2.1, h.2.2.2⟩)))))) (fun h => h.elim (fun h => (Or.inr (Or.inr (Or.inr (Or.inr (Or.inr (Or.inl ⟨h.1, h.2.1, h.2.2⟩))))))) (fun h => h.elim))))))))
        have kf74_ : M67_.1 (4, 0, 0) 1 = 1 := by rw [(hF71_ (4, 0, 0) 1 (by simp [S_reader]))]; exact kf64_
        have kf75_ : M67_.1 (4, 0, 0) 2 = 1 ∨ M67_.1 (4, 0, 0) 2 = 2 ∨ M67_.1 (4, 0, 0) 2 = 3 := by rw [(hF71_ (4, 0, 0) 2 (by simp [S_reader]))]; exact kf65_
        refine w_aload_n dX4_readOpened_99 rfl 0 rfl ?_
        refine w_bipush (v := 93) dX4_readOpened_100 (by decide) ?_
        refine w_callVv (as := [vI 93]) (rest := []) (c_X4_expect l G cy ad (N + d) 93 M67_ hI70_ kf74_) kV_X4_expect pnn_16 (Nat.le_of_ble_eq_true rfl) m_732 rfl rfl rfl ic_4 rfl rfl (by decide) (Nat.le_of_ble_eq_true rfl) dX4_readOpened_102 (fun M76_ q77_ => ?_)
        obtain ⟨hI79_, hF80_, h78_, hs82_⟩ := q77_
        have hF81_ := hF72_.tr hF80_ (fun c k => (fun h => h.elim (fun h => (Or.inl ⟨h.1, h.2.1, h.2.2⟩)) (fun h => h.elim (fun h => (Or.inr (Or.inl ⟨h.1, h.2.1, h.2.2⟩))) (fun h => h.elim))))
        have kf83_ : M76_.1 (4, 0, 0) 1 = 1 := by rw [(hF80_ (4, 0, 0) 1 (by simp [S_c_X4_expect]))]; exact kf74_
        have kf84_ : M76_.1 (4, 0, 0) 2 = 1 ∨ M76_.1 (4, 0, 0) 2 = 2 ∨ M76_.1 (4, 0, 0) 2 = 3 := by rw [(hF80_ (4, 0, 0) 2 (by simp [S_c_X4_expect]))]; exact kf75_
        have kf85_ : (M76_.1 (4, 0, 0) 5).toInt + (((m - 1) : Nat) : Int) = 5 := by rw [(hF80_ (4, 0, 0) 5 (by simp [S_c_X4_expect]))]; exact h69_
        refine w_aload_n dX4_readOpened_105 rfl 0 rfl ?_
        refine w_getR (c' := (1, 3, 0)) fl_RX4_10 rfl rfl ic_4 dX4_readOpened_106 rfl ?_
        refine w_sipush (v := 2063) dX4_readOpened_109 (by decide) ?_
        refine w_callVv (as := [vI 2063]) (rest := []) (c_X1_add l G cy ad ((N + d) + 2) 3 0 2063 M76_ hI79_ (by first | decide | (unfold vF; omega) | (unfold vRw; omega))) kV_X1_add pnn_6 (Nat.le_of_ble_eq_true rfl) m_720 rfl rfl rfl (ic_1 (by unfold vF; omega)) rfl rfl (by decide) (Nat.le_of_ble_eq_true rfl) dX4_readOpened_112 (fun M86_ q87_ => ?_)
        obtain ⟨hI89_, hF90_, h88_, hs92_⟩ := q87_
        have hF91_ := hF81_.tr hF90_ (fun c k => (fun h => h.elim (fun h => (Or.inr (Or.inr (Or.inr (Or.inr (Or.inr (Or.inl ⟨h.1, h.2.1, h.2.2⟩))))))) (fun h => h.elim (fun h => (Or.inr (Or.inr (Or.inr (Or.inr (Or.inl ⟨h.1, h.2.1, h.2.2.1, h.2.2.2⟩)))))) (fun h => h.elim))))
        have kf93_ : M86_.1 (4, 0, 0) 1 = 1 := by rw [(hF90_ (4, 0, 0) 1 (by simp [S_c_X1_add]))]; exact kf83_
        have kf94_ : M86_.1 (4, 0, 0) 2 = 1 ∨ M86_.1 (4, 0, 0) 2 = 2 ∨ M86_.1 (4, 0, 0) 2 = 3 := by rw [(hF90_ (4, 0, 0) 2 (by simp [S_c_X1_add]))]; exact kf84_
        have kf95_ : (M86_.1 (4, 0, 0) 5).toInt + (((m - 1) : Nat) : Int) = 5 := by rw [(hF90_ (4, 0, 0) 5 (by simp [S_c_X1_add]))]; exact kf85_
        refine w_aload_n dX4_readOpened_115 rfl 0 rfl ?_
        refine w_dup dX4_readOpened_116 rfl ?_
        refine w_getI fl_RX4_38 rfl rfl ic_4 dX4_readOpened_117 (fun z96_ e97_ => ?_)
        have h98_ : z96_.toInt + (((m - 1) : Nat) : Int) = 5 := by rw [e97_]; exact kf95_
        refine w_iconst (v := 1) dX4_readOpened_120 (by decide) ?_
        refine w_isubB dX4_readOpened_121 (rfl : z96_.toInt = z96_.toInt) li_1 (lf_c_X4_readOpened_8 m z96_ hm h98_ ) (fun z99_ h100_ => ?_)
        refine w_putI CC_nd fl_RX4_38 rfl rfl ic_4 dX4_readOpened_122 (fun M101_ hM102_ => ?_)
        have hI103_ := hI89_.put hM102_ trivial
        have hF104_ := hF91_.put hM102_ (Or.inr (Or.inr (Or.inl ⟨rfl, rfl, rfl⟩)))
        have kf105_ : M101_.1 (4, 0, 0) 1 = 1 := by rw [(show M101_.1 (4, 0, 0) 1 = M86_.1 (4, 0, 0) 1 by rw [hM102_, up_ne (by simp)])]; exact kf93_
        have kf106_ : M101_.1 (4, 0, 0) 2 = 1 ∨ M101_.1 (4, 0, 0) 2 = 2 ∨ M101_.1 (4, 0, 0) 2 = 3 := by rw [(show M101_.1 (4, 0, 0) 2 = M86_.1 (4, 0, 0) 2 by rw [hM102_, up_ne (by simp)])]; exact kf94_
        have kf107_ : (M101_.1 (4, 0, 0) 5).toInt + ((m : Nat) : Int) = 5 := by rw [hM102_, up_same]; exact (lf_c_X4_readOpened_9 m z1_ z96_ z99_ h3_ h4_ h98_ h100_ )
        exact w_vret rfl dX4_readOpened_125 ⟨hI103_, hF104_, kf107_, ⟨z1_, e2_, h3_, (Or.inl ⟨h4_, z7_, h8_, M9_, hM10_, z16_, e17_, z18_, h19_, M20_, hM21_, (Or.inl ⟨h27_, (Or.inl ⟨h28_, hI22_, M29_, hI32_, hF33_, hs35_, h31_, M38_, hI41_, hF42_, hs44_, M48_, hI51_, hF52_, hs54_, h50_, M57_, hI60_, hF61_, hs63_, M67_, hI70_, hF71_, hs73_, h69_, M76_, hI79_, hF80_, hs82_, M86_, hI89_, hF90_, hs92_, z96_, e97_, h98_, z99_, h100_, M101_, hM102_, rfl⟩)⟩)⟩)⟩⟩
      · refine w_aload_n dX4_readOpened_62 rfl 0 rfl ?_
        refine w_callVv (as := []) (rest := []) (hB (m - 1) (lf_c_X4_readOpened_3 m z1_ h3_ h4_ ) (d + 2) M20_ hI22_ kf24_ kf25_ kf26_ (lf_c_X4_readOpened_2 m hm )) kV_X4_readComparisons pnn_16 (Nat.le_of_ble_eq_true rfl) m_692 rfl rfl rfl ic_4 rfl rfl (by decide) (Nat.le_of_ble_eq_true rfl) dX4_readOpened_63 (fun M108_ q109_ => ?_)
        obtain ⟨hI111_, hF112_, h110_, hs114_⟩ := q109_
        have hF113_ := hF23_.tr hF112_ (fun c k => (fun h => h.elim (fun h => (Or.inl ⟨h.1, h.2.1, h.2.2⟩)) (fun h => h.elim (fun h => (Or.inr (Or.inl ⟨h.1, h.2.1, h.2.2⟩))) (fun h => h.elim (fun h => (Or.inr (Or.inr (Or.inl ⟨h.1, h.2.1, h.2.2⟩)))) (fun h => h.elim (fun h => (Or.inr (Or.inr (Or.inr (Or.inl ⟨h.1, h.2.1, h.2.2⟩))))) (fun h => h.elim (fun h => (Or.inr (Or.inr (Or.inr (Or.inr (Or.inl ⟨h.1, h.2.1, h.2.2.1, h.2.2.2⟩)))))) (fun h => h.elim (fun h => (Or.inr (Or.inr (Or.inr (Or.inr (Or.inr (Or.inl ⟨h.1, h.2.1, h.2.2⟩))))))) (fun h => h.elim))))))))
        have kf115_ : M108_.1 (4, 0, 0) 1 = 1 := by rw [(hF112_ (4, 0, 0) 1 (by simp [S_reader]))]; exact kf24_
        have kf116_ : M108_.1 (4, 0, 0) 2 = 1 ∨ M108_.1 (4, 0, 0) 2 = 2 ∨ M108_.1 (4, 0, 0) 2 = 3 := by rw [(hF112_ (4, 0, 0) 2 (by simp [S_reader]))]; exact kf25_
        refine w_aload_n dX4_readOpened_66 rfl 0 rfl ?_
        refine w_bipush (v := 41) dX4_readOpened_67 (by decide) ?_
        refine w_callVv (as := [vI 41]) (rest := []) (c_X4_expect l G cy ad (N + d) 41 M108_ hI111_ kf115_) kV_X4_expect pnn_16 (Nat.le_of_ble_eq_true rfl) m_732 rfl rfl rfl ic_4 rfl rfl (by decide) (Nat.le_of_ble_eq_true rfl) dX4_readOpened_69 (fun M117_ q118_ => ?_)
        obtain ⟨hI120_, hF121_, h119_, hs123_⟩ := q118_
        have hF122_ := hF113_.tr hF121_ (fun c k => (fun h => h.elim (fun h => (Or.inl ⟨h.1, h.2.1, h.2.2⟩)) (fun h => h.elim (fun h => (Or.inr (Or.inl ⟨h.1, h.2.1, h.2.2⟩))) (fun h => h.elim))))
        have kf124_ : M117_.1 (4, 0, 0) 1 = 1 := by rw [(hF121_ (4, 0, 0) 1 (by simp [S_c_X4_expect]))]; exact kf115_
        have kf125_ : M117_.1 (4, 0, 0) 2 = 1 ∨ M117_.1 (4, 0, 0) 2 = 2 ∨ M117_.1 (4, 0, 0) 2 = 3 := by rw [(hF121_ (4, 0, 0) 2 (by simp [S_c_X4_expect]))]; exact kf116_
        have kf126_ : (M117_.1 (4, 0, 0) 5).toInt + (((m - 1) : Nat) : Int) = 5 := by rw [(hF121_ (4, 0, 0) 5 (by simp [S_c_X4_expect]))]; exact h110_
        refine w_goto (tgt := 115) dX4_readOpened_72 (by decide) ?_
        refine w_aload_n dX4_readOpened_115 rfl 0 rfl ?_
        refine w_dup dX4_readOpened_116 rfl ?_
        refine w_getI fl_RX4_38 rfl rfl ic_4 dX4_readOpened_117 (fun z127_ e128_ => ?_)
        have h129_ : z127_.toInt + (((m - 1) : Nat) : Int) = 5 := by rw [e128_]; exact kf126_
        refine w_iconst (v := 1) dX4_readOpened_120 (by decide) ?_
        refine w_isubB dX4_readOpened_121 (rfl : z127_.toInt = z127_.toInt) li_1 (lf_c_X4_readOpened_8 m z127_ hm h129_ ) (fun z130_ h131_ => ?_)
        refine w_putI CC_nd fl_RX4_38 rfl rfl ic_4 dX4_readOpened_122 (fun M132_ hM133_ => ?_)
        have hI134_ := hI120_.put hM133_ trivial
        have hF135_ := hF122_.put hM133_ (Or.inr (Or.inr (Or.inl ⟨rfl, rfl, rfl⟩)))
        have kf136_ : M132_.1 (4, 0, 0) 1 = 1 := by rw [(show M132_.1 (4, 0, 0) 1 = M117_.1 (4, 0, 0) 1 by rw [hM133_, up_ne (by simp)])]; exact kf124_
        have kf137_ : M132_.1 (4, 0, 0) 2 = 1 ∨ M132_.1 (4, 0, 0) 2 = 2 ∨ M132_.1 (4, 0, 0) 2 = 3 := by rw [(show M132_.1 (4, 0, 0) 2 = M117_.1 (4, 0, 0) 2 by rw [hM133_, up_ne (by simp)])]; exact kf125_
        have kf138_ : (M132_.1 (4, 0, 0) 5).toInt + ((m : Nat) : Int) = 5 := by rw [hM133_, up_same]; exact (lf_c_X4_readOpened_9 m z1_ z127_ z130_ h3_ h4_ h129_ h131_ )
        exact w_vret rfl dX4_readOpened_125 ⟨hI134_, hF135_, kf138_, ⟨z1_, e2_, h3_, (Or.inl ⟨h4_, z7_, h8_, M9_, hM10_, z16_, e17_, z18_, h19_, M20_, hM21_, (Or.inl ⟨h27_, (Or.inr ⟨h28_, hI22_, M108_, hI111_, hF112_, hs114_, h110_, M117_, hI120_, hF121_, hs123_, z127_, e128_, h129_, z130_, h131_, M132_, hM133_, rfl⟩)⟩)⟩)⟩⟩
    · refine w_aload_n dX4_readOpened_39 rfl 0 rfl ?_
      refine w_callVv (as := []) (rest := []) (hA (m - 1) (lf_c_X4_readOpened_3 m z1_ h3_ h4_ ) (d + 2) M20_ hI22_ kf24_ kf25_ kf26_ (lf_c_X4_readOpened_2 m hm )) kV_X4_readOne pnn_16 (Nat.le_of_ble_eq_true rfl) m_704 rfl rfl rfl ic_4 rfl rfl (by decide) (Nat.le_of_ble_eq_true rfl) dX4_readOpened_40 (fun M139_ q140_ => ?_)
      obtain ⟨hI142_, hF143_, h141_, hs145_⟩ := q140_
      have hF144_ := hF23_.tr hF143_ (fun c k => (fun h => h.elim (fun h => (Or.inl ⟨h.1, h.2.1, h.2.2⟩)) (fun h => h.elim (fun h => (Or.inr (Or.inl ⟨h.1, h.2.1, h.2.2⟩))) (fun h => h.elim (fun h => (Or.inr (Or.inr (Or.inl ⟨h.1, h.2.1, h.2.2⟩)))) (fun h => h.elim (fun h => (Or.inr (Or.inr (Or.inr (Or.inl ⟨h.1, h.2.1, h.2.2⟩))))) (fun h => h.elim (fun h => (Or.inr (Or.inr (Or.inr (Or.inr (Or.inl ⟨h.1, h.2.1, h.2.2.1, h.2.2.2⟩)))))) (fun h => h.elim (fun h => (Or.inr (Or.inr (Or.inr (Or.inr (Or.inr (Or.inl ⟨h.1, h.2.1, h.2.2⟩))))))) (fun h => h.elim))))))))
      have kf146_ : M139_.1 (4, 0, 0) 1 = 1 := by rw [(hF143_ (4, 0, 0) 1 (by simp [S_reader]))]; exact kf24_
      have kf147_ : M139_.1 (4, 0, 0) 2 = 1 ∨ M139_.1 (4, 0, 0) 2 = 2 ∨ M139_.1 (4, 0, 0) 2 = 3 := by rw [(hF143_ (4, 0, 0) 2 (by simp [S_reader]))]; exact kf25_
      refine w_aload_n dX4_readOpened_43 rfl 0 rfl ?_
      refine w_getR (c' := (1, 3, 0)) fl_RX4_10 rfl rfl ic_4 dX4_readOpened_44 rfl ?_
      refine w_sipush (v := 2126) dX4_readOpened_47 (by decide) ?_
      refine w_callVv (as := [vI 2126]) (rest := []) (c_X1_add l G cy ad ((N + d) + 2) 3 0 2126 M139_ hI142_ (by first | decide | (unfold vF; omega) | (unfold vRw; omega))) kV_X1_add pnn_6 (Nat.le_of_ble_eq_true rfl) m_720 rfl rfl rfl (ic_1 (by unfold vF; omega)) rfl rfl (by decide) (Nat.le_of_ble_eq_true rfl) dX4_readOpened_50 (fun M148_ q149_ => ?_)
      obtain ⟨hI151_, hF152_, h150_, hs154_⟩ := q149_
      have hF153_ := hF144_.tr hF152_ (fun c k => (fun h => h.elim (fun h => (Or.inr (Or.inr (Or.inr (Or.inr (Or.inr (Or.inl ⟨h.1, h.2.1, h.2.2⟩))))))) (fun h => h.elim (fun h => (Or.inr (Or.inr (Or.inr (Or.inr (Or.inl ⟨h.1, h.2.1, h.2.2.1, h.2.2.2⟩)))))) (fun h => h.elim))))
      have kf155_ : M148_.1 (4, 0, 0) 1 = 1 := by rw [(hF152_ (4, 0, 0) 1 (by simp [S_c_X1_add]))]; exact kf146_
      have kf156_ : M148_.1 (4, 0, 0) 2 = 1 ∨ M148_.1 (4, 0, 0) 2 = 2 ∨ M148_.1 (4, 0, 0) 2 = 3 := by rw [(hF152_ (4, 0, 0) 2 (by simp [S_c_X1_add]))]; exact kf147_
      have kf157_ : (M148_.1 (4, 0, 0) 5).toInt + (((m - 1) : Nat) : Int) = 5 := by rw [(hF152_ (4, 0, 0) 5 (by simp [S_c_X1_add]))]; exact h141_
      refine w_goto (tgt := 115) dX4_readOpened_53 (by decide) ?_
      refine w_aload_n dX4_readOpened_115 rfl 0 rfl ?_
      refine w_dup dX4_readOpened_116 rfl ?_
      refine w_getI fl_RX4_38 rfl rfl ic_4 dX4_readOpened_117 (fun z158_ e159_ => ?_)
      have h160_ : z158_.toInt + (((m - 1) : Nat) : Int) = 5 := by rw [e159_]; exact kf157_
      refine w_iconst (v := 1) dX4_readOpened_120 (by decide) ?_
      refine w_isubB dX4_readOpened_121 (rfl : z158_.toInt = z158_.toInt) li_1 (lf_c_X4_readOpened_8 m z158_ hm h160_ ) (fun z161_ h162_ => ?_)
      refine w_putI CC_nd fl_RX4_38 rfl rfl ic_4 dX4_readOpened_122 (fun M163_ hM164_ => ?_)
      have hI165_ := hI151_.put hM164_ trivial
      have hF166_ := hF153_.put hM164_ (Or.inr (Or.inr (Or.inl ⟨rfl, rfl, rfl⟩)))
      have kf167_ : M163_.1 (4, 0, 0) 1 = 1 := by rw [(show M163_.1 (4, 0, 0) 1 = M148_.1 (4, 0, 0) 1 by rw [hM164_, up_ne (by simp)])]; exact kf155_
      have kf168_ : M163_.1 (4, 0, 0) 2 = 1 ∨ M163_.1 (4, 0, 0) 2 = 2 ∨ M163_.1 (4, 0, 0) 2 = 3 := by rw [(show M163_.1 (4, 0, 0) 2 = M148_.1 (4, 0, 0) 2 by rw [hM164_, up_ne (by simp)])]; exact kf156_
      have kf169_ : (M163_.1 (4, 0, 0) 5).toInt + ((m : Nat) : Int) = 5 := by rw [hM164_, up_same]; exact (lf_c_X4_readOpened_9 m z1_ z158_ z161_ h3_ h4_ h160_ h162_ )
      exact w_vret rfl dX4_readOpened_125 ⟨hI165_, hF166_, kf169_, ⟨z1_, e2_, h3_, (Or.inl ⟨h4_, z7_, h8_, M9_, hM10_, z16_, e17_, z18_, h19_, M20_, hM21_, (Or.inr ⟨h27_, hI22_, M139_, hI142_, hF143_, hs145_, h141_, M148_, hI151_, hF152_, hs154_, z158_, e159_, h160_, z161_, h162_, M163_, hM164_, rfl⟩)⟩)⟩⟩
  · refine w_aload_n dX4_readOpened_8 rfl 0 rfl ?_
    refine w_callVv (as := []) (rest := []) (c_X4_fail l G cy ad ((N + d) + 2) Mz hIz) kV_X4_fail pnn_16 (Nat.le_of_ble_eq_true rfl) m_728 rfl rfl rfl ic_4 rfl rfl (by decide) (Nat.le_of_ble_eq_true rfl) dX4_readOpened_9 (fun M170_ q171_ => ?_)
    obtain ⟨hI173_, hF174_, h172_, hs176_⟩ := q171_
    have hF175_ := hFz.tr hF174_ (fun c k => (fun h => h.elim (fun h => (Or.inr (Or.inl ⟨h.1, h.2.1, h.2.2⟩))) (fun h => h.elim)))
    have kf177_ : M170_.1 (4, 0, 0) 1 = 1 := by rw [(hF174_ (4, 0, 0) 1 (by simp [S_c_X4_fail]))]; exact hT
    have kf178_ : M170_.1 (4, 0, 0) 2 = 1 ∨ M170_.1 (4, 0, 0) 2 = 2 ∨ M170_.1 (4, 0, 0) 2 = 3 := by rw [(hF174_ (4, 0, 0) 2 (by simp [S_c_X4_fail]))]; exact hN
    have kf179_ : (M170_.1 (4, 0, 0) 5).toInt + ((m : Nat) : Int) = 5 := by rw [(hF174_ (4, 0, 0) 5 (by simp [S_c_X4_fail]))]; exact hk
    exact w_vret rfl dX4_readOpened_12 ⟨hI173_, hF175_, kf179_, ⟨z1_, e2_, h3_, (Or.inr ⟨h4_, M170_, hI173_, hF174_, hs176_, rfl⟩)⟩⟩
def SP_X4_readOne (N : Nat) (m : Nat) (QA : mM → mM → Prop) (QB : mM → mM → Prop) (Mz : mM) (M_ : mM) : Prop := ∃ z1_ : Int32, (z1_ = Mz.1 (4, 0, 0) 4) ∧ (((z1_.toInt < 0) ∧ ∃ M5_ : mM, (Inv M5_) ∧ (FR (S_c_X4_next) Mz M5_) ∧ ∃ r4_ : Int32, (SP_X4_next Mz r4_ M5_) ∧ (((r4_.toInt < 48) ∧ (((r4_.toInt = 45) ∧ ∃ M17_ : mM, (Inv M17_) ∧ (FR (S_reader) M5_ M17_) ∧ (SP_X4_readOpened N m QA QB r4_ M5_ M17_) ∧ ((M17_.1 (4, 0, 0) 5).toInt + ((m : Nat) : Int) = 5) ∧ M_ = M17_) ∨ ((¬ r4_.toInt = 45) ∧ (((r4_.toInt = 40) ∧ ∃ M27_ : mM, (Inv M27_) ∧ (FR (S_reader) M5_ M27_) ∧ (SP_X4_readOpened N m QA QB r4_ M5_ M27_) ∧ ((M27_.1 (4, 0, 0) 5).toInt + ((m : Nat) : Int) = 5) ∧ M_ = M27_) ∨ ((¬ r4_.toInt = 40) ∧ (¬ r4_.toInt = 91) ∧ ∃ M37_ : mM, (Inv M37_) ∧ (FR (S_c_X4_readName) M5_ M37_) ∧ (SP_X4_readName r4_ M5_ M37_) ∧ M_ = M37_))))) ∨ ((48 ≤ r4_.toInt) ∧ (((57 < r4_.toInt) ∧ (¬ r4_.toInt = 45) ∧ (¬ r4_.toInt = 40) ∧ (((¬ r4_.toInt = 91) ∧ ∃ M51_ : mM, (Inv M51_) ∧ (FR (S_c_X4_readName) M5_ M51_) ∧ (SP_X4_readName r4_ M5_ M51_) ∧ M_ = M51_) ∨ ((r4_.toInt = 91) ∧ ∃ M61_ : mM, (Inv M61_) ∧ (FR (S_reader) M5_ M61_) ∧ (SP_X4_readOpened N m QA QB r4_ M5_ M61_) ∧ ((M61_.1 (4, 0, 0) 5).toInt + ((m : Nat) : Int) = 5) ∧ M_ = M61_))) ∨ ((r4_.toInt ≤ 57) ∧ ∃ M70_ : mM, (Inv M70_) ∧ (FR (S_c_X4_readNumber) M5_ M70_) ∧ (SP_X4_readNumber M5_ M70_) ∧ M_ = M70_))))) ∨ ((0 ≤ z1_.toInt) ∧ M_ = Mz))
theorem lf_c_X4_readOne_0 (r4_ : Int32) (h15_ : r4_.toInt < 48) (h9 : r4_.toInt = 91) : False := by omega
theorem lf_c_X4_readOne_1 (r4_ : Int32) (h47_ : 57 < r4_.toInt) (h9 : r4_.toInt = 45) : False := by omega
theorem lf_c_X4_readOne_2 (r4_ : Int32) (h47_ : 57 < r4_.toInt) (h9 : r4_.toInt = 40) : False := by omega
set_option maxHeartbeats 4000000 in
set_option maxRecDepth 100000 in
theorem c_X4_readOne (l : Launch) (G : va_G) (cy : Nat → ClassId) (ad : rf → Nat) (d : Nat) (N : Nat) (m : Nat) (QA : mM → mM → Prop) (QB : mM → mM → Prop) (Mz : mM) (hIz : Inv Mz) (hA : ∀ k : Nat, k + 1 = m → ONEC l G cy ad N k QA) (hB : ∀ k : Nat, k + 1 = m → CMPC l G cy ad N k QB) (hT : Mz.1 (4, 0, 0) 1 = 1) (hN : Mz.1 (4, 0, 0) 2 = 1 ∨ Mz.1 (4, 0, 0) 2 = 2 ∨ Mz.1 (4, 0, 0) 2 = 3) (hk : (Mz.1 (4, 0, 0) 5).toInt + ((m : Nat) : Int) = 5) (hm : m ≤ 5) : WP CC l G cy ad yX4_readOne cX4_readOne 2 none ((N + d) + 9) 0 [(0, vR (4, 0, 0))] [] Mz (fun r M' => Inv M' ∧ FR (S_reader) Mz M' ∧ ((M'.1 (4, 0, 0) 5).toInt + ((m : Nat) : Int) = 5) ∧ SP_X4_readOne N m QA QB Mz M') := by
  have hFz : FR (S_reader) Mz Mz := FR.self
  refine w_aload_n dX4_readOne_0 rfl 0 rfl ?_
  refine w_getI fl_RX4_35 rfl rfl ic_4 dX4_readOne_1 (fun z1_ e2_ => ?_)
  refine w_if_lt (tgt := 8) dX4_readOne_4 (by decide) (rfl : z1_.toInt = z1_.toInt) (fun h3_ => ?_) (fun h3_ => ?_)
  · refine w_aload_n dX4_readOne_8 rfl 0 rfl ?_
    refine w_callV (as := []) (rest := []) (c_X4_next l G cy ad ((N + d) + 7) Mz hIz hT) kV_X4_next pnn_16 (Nat.le_of_ble_eq_true rfl) m_708 rfl rfl rfl ic_4 rfl rfl (by decide) (Nat.le_of_ble_eq_true rfl) dX4_readOne_9 (fun r4_ M5_ q6_ => ?_)
    obtain ⟨hI8_, hF9_, h7_, hs11_⟩ := q6_
    have hF10_ := hFz.tr hF9_ (fun c k => (fun h => h.elim (fun h => (Or.inl ⟨h.1, h.2.1, h.2.2⟩)) (fun h => h.elim)))
    have kf12_ : M5_.1 (4, 0, 0) 1 = 1 := by rw [(hF9_ (4, 0, 0) 1 (by simp [S_c_X4_next]))]; exact hT
    have kf13_ : M5_.1 (4, 0, 0) 2 = 1 ∨ M5_.1 (4, 0, 0) 2 = 2 ∨ M5_.1 (4, 0, 0) 2 = 3 := by rw [(hF9_ (4, 0, 0) 2 (by simp [S_c_X4_next]))]; exact hN
    have kf14_ : (M5_.1 (4, 0, 0) 5).toInt + ((m : Nat) : Int) = 5 := by rw [(hF9_ (4, 0, 0) 5 (by simp [S_c_X4_next]))]; exact hk
    refine w_istore_n (ls' := [(1, vI r4_), (0, vR (4, 0, 0))]) dX4_readOne_12 rfl (by decide) rfl ?_
    refine w_iload_n dX4_readOne_13 rfl 0 rfl ?_
    refine w_bipush (v := 48) dX4_readOne_14 (by decide) ?_
    refine w_icmp_lt (tgt := 32) dX4_readOne_16 (by decide) (rfl : r4_.toInt = r4_.toInt) li_48 (fun h15_ => ?_) (fun h15_ => ?_)
    · refine w_iload_n dX4_readOne_32 rfl 0 rfl ?_
      refine w_bipush (v := 45) dX4_readOne_33 (by decide) ?_
      refine w_icmp_eq (tgt := 50) dX4_readOne_35 (by decide) (rfl : r4_.toInt = r4_.toInt) li_45 (fun h16_ => ?_) (fun h16_ => ?_)
      · refine w_aload_n dX4_readOne_50 rfl 1 rfl ?_
        refine w_iload_n dX4_readOne_51 rfl 0 rfl ?_
        refine w_callVv (as := [vI r4_]) (rest := []) (c_X4_readOpened l G cy ad (d + 5) N m QA QB r4_ M5_ hI8_ hA hB kf12_ kf13_ kf14_ hm) kV_X4_readOpened pnn_16 (Nat.le_of_ble_eq_true rfl) m_724 rfl rfl rfl ic_4 rfl rfl (by decide) (Nat.le_of_ble_eq_true rfl) dX4_readOne_52 (fun M17_ q18_ => ?_)
        obtain ⟨hI20_, hF21_, h19_, hs23_⟩ := q18_
        have hF22_ := hF10_.tr hF21_ (fun c k => (fun h => h.elim (fun h => (Or.inl ⟨h.1, h.2.1, h.2.2⟩)) (fun h => h.elim (fun h => (Or.inr (Or.inl ⟨h.1, h.2.1, h.2.2⟩))) (fun h => h.elim (fun h => (Or.inr (Or.inr (Or.inl ⟨h.1, h.2.1, h.2.2⟩)))) (fun h => h.elim (fun h => (Or.inr (Or.inr (Or.inr (Or.inl ⟨h.1, h.2.1, h.2.2⟩))))) (fun h => h.elim (fun h => (Or.inr (Or.inr (Or.inr (Or.inr (Or.inl ⟨h.1, h.2.1, h.2.2.1, h.2.2.2⟩)))))) (fun h => h.elim (fun h => (Or.inr (Or.inr (Or.inr (Or.inr (Or.inr (Or.inl ⟨h.1, h.2.1, h.2.2⟩))))))) (fun h => h.elim))))))))
        have kf24_ : M17_.1 (4, 0, 0) 1 = 1 := by rw [(hF21_ (4, 0, 0) 1 (by simp [S_reader]))]; exact kf12_
        have kf25_ : M17_.1 (4, 0, 0) 2 = 1 ∨ M17_.1 (4, 0, 0) 2 = 2 ∨ M17_.1 (4, 0, 0) 2 = 3 := by rw [(hF21_ (4, 0, 0) 2 (by simp [S_reader]))]; exact kf13_
        refine w_goto (tgt := 63) dX4_readOne_55 (by decide) ?_
        exact w_vret rfl dX4_readOne_63 ⟨hI20_, hF22_, h19_, ⟨z1_, e2_, (Or.inl ⟨h3_, M5_, hI8_, hF9_, r4_, hs11_, (Or.inl ⟨h15_, (Or.inl ⟨h16_, M17_, hI20_, hF21_, hs23_, h19_, rfl⟩)⟩)⟩)⟩⟩
      · refine w_iload_n dX4_readOne_38 rfl 0 rfl ?_
        refine w_bipush (v := 40) dX4_readOne_39 (by decide) ?_
        refine w_icmp_eq (tgt := 50) dX4_readOne_41 (by decide) (rfl : r4_.toInt = r4_.toInt) li_40 (fun h26_ => ?_) (fun h26_ => ?_)
        · refine w_aload_n dX4_readOne_50 rfl 1 rfl ?_
          refine w_iload_n dX4_readOne_51 rfl 0 rfl ?_
          refine w_callVv (as := [vI r4_]) (rest := []) (c_X4_readOpened l G cy ad (d + 5) N m QA QB r4_ M5_ hI8_ hA hB kf12_ kf13_ kf14_ hm) kV_X4_readOpened pnn_16 (Nat.le_of_ble_eq_true rfl) m_724 rfl rfl rfl ic_4 rfl rfl (by decide) (Nat.le_of_ble_eq_true rfl) dX4_readOne_52 (fun M27_ q28_ => ?_)
          obtain ⟨hI30_, hF31_, h29_, hs33_⟩ := q28_
          have hF32_ := hF10_.tr hF31_ (fun c k => (fun h => h.elim (fun h => (Or.inl ⟨h.1, h.2.1, h.2.2⟩)) (fun h => h.elim (fun h => (Or.inr (Or.inl ⟨h.1, h.2.1, h.2.2⟩))) (fun h => h.elim (fun h => (Or.inr (Or.inr (Or.inl ⟨h.1, h.2.1, h.2.2⟩)))) (fun h => h.elim (fun h => (Or.inr (Or.inr (Or.inr (Or.inl ⟨h.1, h.2.1, h.2.2⟩))))) (fun h => h.elim (fun h => (Or.inr (Or.inr (Or.inr (Or.inr (Or.inl ⟨h.1, h.2.1, h.2.2.1, h.2.2.2⟩)))))) (fun h => h.elim (fun h => (Or.inr (Or.inr (Or.inr (Or.inr (Or.inr (Or.inl ⟨h.1, h.2.1, h.2.2⟩))))))) (fun h => h.elim))))))))
          have kf34_ : M27_.1 (4, 0, 0) 1 = 1 := by rw [(hF31_ (4, 0, 0) 1 (by simp [S_reader]))]; exact kf12_
          have kf35_ : M27_.1 (4, 0, 0) 2 = 1 ∨ M27_.1 (4, 0, 0) 2 = 2 ∨ M27_.1 (4, 0, 0) 2 = 3 := by rw [(hF31_ (4, 0, 0) 2 (by simp [S_reader]))]; exact kf13_
          refine w_goto (tgt := 63) dX4_readOne_55 (by decide) ?_
          exact w_vret rfl dX4_readOne_63 ⟨hI30_, hF32_, h29_, ⟨z1_, e2_, (Or.inl ⟨h3_, M5_, hI8_, hF9_, r4_, hs11_, (Or.inl ⟨h15_, (Or.inr ⟨h16_, (Or.inl ⟨h26_, M27_, hI30_, hF31_, hs33_, h29_, rfl⟩)⟩)⟩)⟩)⟩⟩
        · refine w_iload_n dX4_readOne_44 rfl 0 rfl ?_
          refine w_bipush (v := 91) dX4_readOne_45 (by decide) ?_
          refine w_icmp_ne (tgt := 58) dX4_readOne_47 (by decide) (rfl : r4_.toInt = r4_.toInt) li_91 (fun h36_ => ?_) (fun h9 => (lf_c_X4_readOne_0 r4_ h15_ h9 ).elim)
          refine w_aload_n dX4_readOne_58 rfl 1 rfl ?_
          refine w_iload_n dX4_readOne_59 rfl 0 rfl ?_
          refine w_callVv (as := [vI r4_]) (rest := []) (c_X4_readName l G cy ad (N + d) r4_ M5_ hI8_ kf12_ kf13_) kV_X4_readName pnn_16 (Nat.le_of_ble_eq_true rfl) m_736 rfl rfl rfl ic_4 rfl rfl (by decide) (Nat.le_of_ble_eq_true rfl) dX4_readOne_60 (fun M37_ q38_ => ?_)
          obtain ⟨hI40_, hF41_, h39_, hs43_⟩ := q38_
          have hF42_ := hF10_.tr hF41_ (fun c k => (fun h => h.elim (fun h => (Or.inr (Or.inl ⟨h.1, h.2.1, h.2.2⟩))) (fun h => h.elim (fun h => (Or.inl ⟨h.1, h.2.1, h.2.2⟩)) (fun h => h.elim (fun h => (Or.inr (Or.inr (Or.inr (Or.inr (Or.inr (Or.inl ⟨h.1, h.2.1, h.2.2⟩))))))) (fun h => h.elim (fun h => (Or.inr (Or.inr (Or.inr (Or.inr (Or.inl ⟨h.1, h.2.1, h.2.2.1, h.2.2.2⟩)))))) (fun h => h.elim (fun h => (Or.inr (Or.inr (Or.inr (Or.inl ⟨h.1, h.2.1, h.2.2⟩))))) (fun h => h.elim)))))))
          have kf44_ : M37_.1 (4, 0, 0) 1 = 1 := by rw [(hF41_ (4, 0, 0) 1 (by simp [S_c_X4_readName]))]; exact kf12_
          have kf45_ : M37_.1 (4, 0, 0) 2 = 1 ∨ M37_.1 (4, 0, 0) 2 = 2 ∨ M37_.1 (4, 0, 0) 2 = 3 := by rw [(hF41_ (4, 0, 0) 2 (by simp [S_c_X4_readName]))]; exact kf13_
          have kf46_ : (M37_.1 (4, 0, 0) 5).toInt + ((m : Nat) : Int) = 5 := by rw [(hF41_ (4, 0, 0) 5 (by simp [S_c_X4_readName]))]; exact kf14_
          exact w_vret rfl dX4_readOne_63 ⟨hI40_, hF42_, kf46_, ⟨z1_, e2_, (Or.inl ⟨h3_, M5_, hI8_, hF9_, r4_, hs11_, (Or.inl ⟨h15_, (Or.inr ⟨h16_, (Or.inr ⟨h26_, h36_, M37_, hI40_, hF41_, hs43_, rfl⟩)⟩)⟩)⟩)⟩⟩
    · refine w_iload_n dX4_readOne_19 rfl 0 rfl ?_
      refine w_bipush (v := 57) dX4_readOne_20 (by decide) ?_
      refine w_icmp_gt (tgt := 32) dX4_readOne_22 (by decide) (rfl : r4_.toInt = r4_.toInt) li_57 (fun h47_ => ?_) (fun h47_ => ?_)
      · refine w_iload_n dX4_readOne_32 rfl 0 rfl ?_
        refine w_bipush (v := 45) dX4_readOne_33 (by decide) ?_
        refine w_icmp_eq (tgt := 50) dX4_readOne_35 (by decide) (rfl : r4_.toInt = r4_.toInt) li_45 (fun h9 => (lf_c_X4_readOne_1 r4_ h47_ h9 ).elim) (fun h48_ => ?_)
        refine w_iload_n dX4_readOne_38 rfl 0 rfl ?_
        refine w_bipush (v := 40) dX4_readOne_39 (by decide) ?_
        refine w_icmp_eq (tgt := 50) dX4_readOne_41 (by decide) (rfl : r4_.toInt = r4_.toInt) li_40 (fun h9 => (lf_c_X4_readOne_2 r4_ h47_ h9 ).elim) (fun h49_ => ?_)
        refine w_iload_n dX4_readOne_44 rfl 0 rfl ?_
        refine w_bipush (v := 91) dX4_readOne_45 (by decide) ?_
        refine w_icmp_ne (tgt := 58) dX4_readOne_47 (by decide) (rfl : r4_.toInt = r4_.toInt) li_91 (fun h50_ => ?_) (fun h50_ => ?_)
        · refine w_aload_n dX4_readOne_58 rfl 1 rfl ?_
          refine w_iload_n dX4_readOne_59 rfl 0 rfl ?_
          refine w_callVv (as := [vI r4_]) (rest := []) (c_X4_readName l G cy ad (N + d) r4_ M5_ hI8_ kf12_ kf13_) kV_X4_readName pnn_16 (Nat.le_of_ble_eq_true rfl) m_736 rfl rfl rfl ic_4 rfl rfl (by decide) (Nat.le_of_ble_eq_true rfl) dX4_readOne_60 (fun M51_ q52_ => ?_)
          obtain ⟨hI54_, hF55_, h53_, hs57_⟩ := q52_
          have hF56_ := hF10_.tr hF55_ (fun c k => (fun h => h.elim (fun h => (Or.inr (Or.inl ⟨h.1, h.2.1, h.2.2⟩))) (fun h => h.elim (fun h => (Or.inl ⟨h.1, h.2.1, h.2.2⟩)) (fun h => h.elim (fun h => (Or.inr (Or.inr (Or.inr (Or.inr (Or.inr (Or.inl ⟨h.1, h.2.1, h.2.2⟩))))))) (fun h => h.elim (fun h => (Or.inr (Or.inr (Or.inr (Or.inr (Or.inl ⟨h.1, h.2.1, h.2.2.1, h.2.2.2⟩)))))) (fun h => h.elim (fun h => (Or.inr (Or.inr (Or.inr (Or.inl ⟨h.1, h.2.1, h.2.2⟩))))) (fun h => h.elim)))))))
          have kf58_ : M51_.1 (4, 0, 0) 1 = 1 := by rw [(hF55_ (4, 0, 0) 1 (by simp [S_c_X4_readName]))]; exact kf12_
          have kf59_ : M51_.1 (4, 0, 0) 2 = 1 ∨ M51_.1 (4, 0, 0) 2 = 2 ∨ M51_.1 (4, 0, 0) 2 = 3 := by rw [(hF55_ (4, 0, 0) 2 (by simp [S_c_X4_readName]))]; exact kf13_
          have kf60_ : (M51_.1 (4, 0, 0) 5).toInt + ((m : Nat) : Int) = 5 := by rw [(hF55_ (4, 0, 0) 5 (by simp [S_c_X4_readName]))]; exact kf14_
          exact w_vret rfl dX4_readOne_63 ⟨hI54_, hF56_, kf60_, ⟨z1_, e2_, (Or.inl ⟨h3_, M5_, hI8_, hF9_, r4_, hs11_, (Or.inr ⟨h15_, (Or.inl ⟨h47_, h48_, h49_, (Or.inl ⟨h50_, M51_, hI54_, hF55_, hs57_, rfl⟩)⟩)⟩)⟩)⟩⟩
        · refine w_aload_n dX4_readOne_50 rfl 1 rfl ?_
          refine w_iload_n dX4_readOne_51 rfl 0 rfl ?_
          refine w_callVv (as := [vI r4_]) (rest := []) (c_X4_readOpened l G cy ad (d + 5) N m QA QB r4_ M5_ hI8_ hA hB kf12_ kf13_ kf14_ hm) kV_X4_readOpened pnn_16 (Nat.le_of_ble_eq_true rfl) m_724 rfl rfl rfl ic_4 rfl rfl (by decide) (Nat.le_of_ble_eq_true rfl) dX4_readOne_52 (fun M61_ q62_ => ?_)
          obtain ⟨hI64_, hF65_, h63_, hs67_⟩ := q62_
          have hF66_ := hF10_.tr hF65_ (fun c k => (fun h => h.elim (fun h => (Or.inl ⟨h.1, h.2.1, h.2.2⟩)) (fun h => h.elim (fun h => (Or.inr (Or.inl ⟨h.1, h.2.1, h.2.2⟩))) (fun h => h.elim (fun h => (Or.inr (Or.inr (Or.inl ⟨h.1, h.2.1, h.2.2⟩)))) (fun h => h.elim (fun h => (Or.inr (Or.inr (Or.inr (Or.inl ⟨h.1, h.2.1, h.2.2⟩))))) (fun h => h.elim (fun h => (Or.inr (Or.inr (Or.inr (Or.inr (Or.inl ⟨h.1, h.2.1, h.2.2.1, h.2.2.2⟩)))))) (fun h => h.elim (fun h => (Or.inr (Or.inr (Or.inr (Or.inr (Or.inr (Or.inl ⟨h.1, h.2.1, h.2.2⟩))))))) (fun h => h.elim))))))))
          have kf68_ : M61_.1 (4, 0, 0) 1 = 1 := by rw [(hF65_ (4, 0, 0) 1 (by simp [S_reader]))]; exact kf12_
          have kf69_ : M61_.1 (4, 0, 0) 2 = 1 ∨ M61_.1 (4, 0, 0) 2 = 2 ∨ M61_.1 (4, 0, 0) 2 = 3 := by rw [(hF65_ (4, 0, 0) 2 (by simp [S_reader]))]; exact kf13_
          refine w_goto (tgt := 63) dX4_readOne_55 (by decide) ?_
          exact w_vret rfl dX4_readOne_63 ⟨hI64_, hF66_, h63_, ⟨z1_, e2_, (Or.inl ⟨h3_, M5_, hI8_, hF9_, r4_, hs11_, (Or.inr ⟨h15_, (Or.inl ⟨h47_, h48_, h49_, (Or.inr ⟨h50_, M61_, hI64_, hF65_, hs67_, h63_, rfl⟩)⟩)⟩)⟩)⟩⟩
      · refine w_aload_n dX4_readOne_25 rfl 1 rfl ?_
        refine w_callVv (as := []) (rest := []) (c_X4_readNumber l G cy ad ((N + d) + 7) M5_ hI8_ kf12_) kV_X4_readNumber pnn_16 (Nat.le_of_ble_eq_true rfl) m_716 rfl rfl rfl ic_4 rfl rfl (by decide) (Nat.le_of_ble_eq_true rfl) dX4_readOne_26 (fun M70_ q71_ => ?_)
        obtain ⟨hI73_, hF74_, h72_, hs76_⟩ := q71_
        have hF75_ := hF10_.tr hF74_ (fun c k => (fun h => h.elim (fun h => (Or.inr (Or.inr (Or.inr (Or.inr (Or.inr (Or.inl ⟨h.1, h.2.1, h.2.2⟩))))))) (fun h => h.elim (fun h => (Or.inr (Or.inr (Or.inr (Or.inr (Or.inl ⟨h.1, h.2.1, h.2.2.1, h.2.2.2⟩)))))) (fun h => h.elim (fun h => (Or.inr (Or.inr (Or.inr (Or.inl ⟨h.1, h.2.1, h.2.2⟩))))) (fun h => h.elim (fun h => (Or.inl ⟨h.1, h.2.1, h.2.2⟩)) (fun h => h.elim))))))
        have kf77_ : M70_.1 (4, 0, 0) 1 = 1 := by rw [(hF74_ (4, 0, 0) 1 (by simp [S_c_X4_readNumber]))]; exact kf12_
        have kf78_ : M70_.1 (4, 0, 0) 2 = 1 ∨ M70_.1 (4, 0, 0) 2 = 2 ∨ M70_.1 (4, 0, 0) 2 = 3 := by rw [(hF74_ (4, 0, 0) 2 (by simp [S_c_X4_readNumber]))]; exact kf13_
        have kf79_ : (M70_.1 (4, 0, 0) 5).toInt + ((m : Nat) : Int) = 5 := by rw [(hF74_ (4, 0, 0) 5 (by simp [S_c_X4_readNumber]))]; exact kf14_
        refine w_goto (tgt := 63) dX4_readOne_29 (by decide) ?_
        exact w_vret rfl dX4_readOne_63 ⟨hI73_, hF75_, kf79_, ⟨z1_, e2_, (Or.inl ⟨h3_, M5_, hI8_, hF9_, r4_, hs11_, (Or.inr ⟨h15_, (Or.inr ⟨h47_, M70_, hI73_, hF74_, hs76_, rfl⟩)⟩)⟩)⟩⟩
  · exact w_vret rfl dX4_readOne_7 ⟨hIz, hFz, hk, ⟨z1_, e2_, (Or.inr ⟨h3_, rfl⟩)⟩⟩
def ST_X4_readTerm_6 (N : Nat) (m : Nat) (QA : mM → mM → Prop) (QB : mM → mM → Prop) (Mz : mM) (v1_6 : Int32) (M_6 : mM) (v1_6y : Int32) (M_6y : mM) : Prop := (0 ≤ v1_6.toInt) ∧ (v1_6.toInt ≤ 48) ∧ (Inv M_6) ∧ (FR (S_reader) Mz M_6) ∧ (v1_6.toInt < 48) ∧ ∃ z12_ : Int32, (z12_ = M_6.1 (4, 0, 0) 4) ∧ (z12_.toInt < 0) ∧ ∃ M16_ : mM, (Inv M16_) ∧ (FR (S_c_X4_next) M_6 M16_) ∧ ∃ r15_ : Int32, (SP_X4_next M_6 r15_ M16_) ∧ (((r15_.toInt = 42) ∧ ∃ z27_ : Int32, (z27_ = M16_.1 (4, 0, 0) 3) ∧ ∃ z29_ : Int32, (z29_ = z27_ + (1 : Int32)) ∧ ∃ M31_ : mM, (M31_ = up M16_ (4, 0, 0) 3 z29_) ∧ (Inv M31_) ∧ ∃ M38_ : mM, (Inv M38_) ∧ (FR (S_reader) M31_ M38_) ∧ (SP_X4_readOne N m QA QB M31_ M38_) ∧ ((M38_.1 (4, 0, 0) 5).toInt + ((m : Nat) : Int) = 5) ∧ ∃ z47_ : Int32, (z47_.toInt = 2000 + r15_.toInt) ∧ ∃ M49_ : mM, (Inv M49_) ∧ (FR (S_c_X1_add 3 0) M38_ M49_) ∧ (SP_X1_add 3 0 z47_ M38_ M49_) ∧ ∃ z59_ : Int32, (z59_.toInt = v1_6.toInt + 1) ∧ v1_6y = z59_ ∧ M_6y = M49_) ∨ ((¬ r15_.toInt = 42) ∧ (((r15_.toInt = 47) ∧ ∃ z62_ : Int32, (z62_ = M16_.1 (4, 0, 0) 3) ∧ ∃ z64_ : Int32, (z64_ = z62_ + (1 : Int32)) ∧ ∃ M66_ : mM, (M66_ = up M16_ (4, 0, 0) 3 z64_) ∧ (Inv M66_) ∧ ∃ M73_ : mM, (Inv M73_) ∧ (FR (S_reader) M66_ M73_) ∧ (SP_X4_readOne N m QA QB M66_ M73_) ∧ ((M73_.1 (4, 0, 0) 5).toInt + ((m : Nat) : Int) = 5) ∧ ∃ z82_ : Int32, (z82_.toInt = 2000 + r15_.toInt) ∧ ∃ M84_ : mM, (Inv M84_) ∧ (FR (S_c_X1_add 3 0) M73_ M84_) ∧ (SP_X1_add 3 0 z82_ M73_ M84_) ∧ ∃ z94_ : Int32, (z94_.toInt = v1_6.toInt + 1) ∧ v1_6y = z94_ ∧ M_6y = M84_) ∨ ((¬ r15_.toInt = 47) ∧ (r15_.toInt = 37) ∧ ∃ z97_ : Int32, (z97_ = M16_.1 (4, 0, 0) 3) ∧ ∃ z99_ : Int32, (z99_ = z97_ + (1 : Int32)) ∧ ∃ M101_ : mM, (M101_ = up M16_ (4, 0, 0) 3 z99_) ∧ (Inv M101_) ∧ ∃ M108_ : mM, (Inv M108_) ∧ (FR (S_reader) M101_ M108_) ∧ (SP_X4_readOne N m QA QB M101_ M108_) ∧ ((M108_.1 (4, 0, 0) 5).toInt + ((m : Nat) : Int) = 5) ∧ ∃ z117_ : Int32, (z117_.toInt = 2000 + r15_.toInt) ∧ ∃ M119_ : mM, (Inv M119_) ∧ (FR (S_c_X1_add 3 0) M108_ M119_) ∧ (SP_X1_add 3 0 z117_ M108_ M119_) ∧ ∃ z129_ : Int32, (z129_.toInt = v1_6.toInt + 1) ∧ v1_6y = z129_ ∧ M_6y = M119_))))
def SP_X4_readTerm (N : Nat) (m : Nat) (QA : mM → mM → Prop) (QB : mM → mM → Prop) (Mz : mM) (M_ : mM) : Prop := ∃ M1_ : mM, (Inv M1_) ∧ (FR (S_reader) Mz M1_) ∧ (SP_X4_readOne N m QA QB Mz M1_) ∧ ((M1_.1 (4, 0, 0) 5).toInt + ((m : Nat) : Int) = 5) ∧ ∃ v1_6 : Int32, (0 ≤ v1_6.toInt) ∧ (v1_6.toInt ≤ 48) ∧ ∃ M_6 : mM, (RCH (fun x_ y_ => ST_X4_readTerm_6 N m QA QB Mz x_.1 x_.2 y_.1 y_.2) ((0 : Int32), M1_) (v1_6, M_6)) ∧ (Inv M_6) ∧ (FR (S_reader) Mz M_6) ∧ (((48 ≤ v1_6.toInt) ∧ M_ = M_6) ∨ ((v1_6.toInt < 48) ∧ ∃ z12_ : Int32, (z12_ = M_6.1 (4, 0, 0) 4) ∧ (((0 ≤ z12_.toInt) ∧ M_ = M_6) ∨ ((z12_.toInt < 0) ∧ ∃ M16_ : mM, (Inv M16_) ∧ (FR (S_c_X4_next) M_6 M16_) ∧ ∃ r15_ : Int32, (SP_X4_next M_6 r15_ M16_) ∧ (¬ r15_.toInt = 42) ∧ (¬ r15_.toInt = 47) ∧ (¬ r15_.toInt = 37) ∧ M_ = M16_))))
theorem lf_c_X4_readTerm_0 (r15_ : Int32) (h26_ : r15_.toInt = 42) : -2147483648 ≤ 2000 + r15_.toInt ∧ 2000 + r15_.toInt < 2147483648 := by omega
theorem lf_c_X4_readTerm_5 (r15_ : Int32) (h61_ : r15_.toInt = 47) : -2147483648 ≤ 2000 + r15_.toInt ∧ 2000 + r15_.toInt < 2147483648 := by omega
theorem lf_c_X4_readTerm_10 (r15_ : Int32) (h96_ : r15_.toInt = 37) : -2147483648 ≤ 2000 + r15_.toInt ∧ 2000 + r15_.toInt < 2147483648 := by omega
set_option maxHeartbeats 4000000 in
set_option maxRecDepth 100000 in
theorem c_X4_readTerm (l : Launch) (G : va_G) (cy : Nat → ClassId) (ad : rf → Nat) (d : Nat) (N : Nat) (m : Nat) (QA : mM → mM → Prop) (QB : mM → mM → Prop) (Mz : mM) (hIz : Inv Mz) (hA : ∀ k : Nat, k + 1 = m → ONEC l G cy ad N k QA) (hB : ∀ k : Nat, k + 1 = m → CMPC l G cy ad N k QB) (hT : Mz.1 (4, 0, 0) 1 = 1) (hN : Mz.1 (4, 0, 0) 2 = 1 ∨ Mz.1 (4, 0, 0) 2 = 2 ∨ Mz.1 (4, 0, 0) 2 = 3) (hk : (Mz.1 (4, 0, 0) 5).toInt + ((m : Nat) : Int) = 5) (hm : m ≤ 5) : WP CC l G cy ad yX4_readTerm cX4_readTerm 3 none ((N + d) + 10) 0 [(0, vR (4, 0, 0))] [] Mz (fun r M' => Inv M' ∧ FR (S_reader) Mz M' ∧ ((M'.1 (4, 0, 0) 5).toInt + ((m : Nat) : Int) = 5) ∧ SP_X4_readTerm N m QA QB Mz M') := by
  have hFz : FR (S_reader) Mz Mz := FR.self
  refine w_aload_n dX4_readTerm_0 rfl 0 rfl ?_
  refine w_callVv (as := []) (rest := []) (c_X4_readOne l G cy ad d N m QA QB Mz hIz hA hB hT hN hk hm) kV_X4_readOne pnn_16 (Nat.le_of_ble_eq_true rfl) m_704 rfl rfl rfl ic_4 rfl rfl (by decide) (Nat.le_of_ble_eq_true rfl) dX4_readTerm_1 (fun M1_ q2_ => ?_)
  obtain ⟨hI4_, hF5_, h3_, hs7_⟩ := q2_
  have hF6_ := hFz.tr hF5_ (fun c k => (fun h => h.elim (fun h => (Or.inl ⟨h.1, h.2.1, h.2.2⟩)) (fun h => h.elim (fun h => (Or.inr (Or.inl ⟨h.1, h.2.1, h.2.2⟩))) (fun h => h.elim (fun h => (Or.inr (Or.inr (Or.inl ⟨h.1, h.2.1, h.2.2⟩)))) (fun h => h.elim (fun h => (Or.inr (Or.inr (Or.inr (Or.inl ⟨h.1, h.2.1, h.2.2⟩))))) (fun h => h.elim (fun h => (Or.inr (Or.inr (Or.inr (Or.inr (Or.inl ⟨h.1, h.2.1, h.2.2.1, h.2.2.2⟩)))))) (fun h => h.elim (fun h => (Or.inr (Or.inr (Or.inr (Or.inr (Or.inr (Or.inl ⟨h.1, h.2.1, h.2.2⟩))))))) (fun h => h.elim))))))))
  have kf8_ : M1_.1 (4, 0, 0) 1 = 1 := by rw [(hF5_ (4, 0, 0) 1 (by simp [S_reader]))]; exact hT
  have kf9_ : M1_.1 (4, 0, 0) 2 = 1 ∨ M1_.1 (4, 0, 0) 2 = 2 ∨ M1_.1 (4, 0, 0) 2 = 3 := by rw [(hF5_ (4, 0, 0) 2 (by simp [S_reader]))]; exact hN
  refine w_iconst (v := 0) dX4_readTerm_4 (by decide) ?_
  refine w_istore_n (ls' := [(1, vI 0), (0, vR (4, 0, 0))]) dX4_readTerm_5 rfl (by decide) rfl ?_
  have lp10_ : ∀ (nn_6 : Nat) (M_6 : mM) (hI_6 : Inv M_6) (hF_6 : FR (S_reader) Mz M_6) (v1_6 : Int32) (hv0_6 : 0 ≤ v1_6.toInt) (hv1_6 : v1_6.toInt ≤ 48) (kv0_6 : M_6.1 (4, 0, 0) 1 = 1) (kv1_6 : M_6.1 (4, 0, 0) 2 = 1 ∨ M_6.1 (4, 0, 0) 2 = 2 ∨ M_6.1 (4, 0, 0) 2 = 3) (kv2_6 : (M_6.1 (4, 0, 0) 5).toInt + ((m : Nat) : Int) = 5) (hL_6 : RCH (fun x_ y_ => ST_X4_readTerm_6 N m QA QB Mz x_.1 x_.2 y_.1 y_.2) ((0 : Int32), M1_) (v1_6, M_6)), (2147483648 - v1_6.toInt).toNat < nn_6 → WP CC l G cy ad yX4_readTerm cX4_readTerm 3 none ((N + d) + 10) 6 [(1, vI v1_6), (0, vR (4, 0, 0))] [] M_6 (fun r M' => Inv M' ∧ FR (S_reader) Mz M' ∧ ((M'.1 (4, 0, 0) 5).toInt + ((m : Nat) : Int) = 5) ∧ SP_X4_readTerm N m QA QB Mz M') := by
    intro nn_6
    induction nn_6 with
    | zero => intro M_6 hI_6 hF_6 v1_6 hv0_6 hv1_6 kv0_6 kv1_6 kv2_6 hL_6 hm_6; exact absurd hm_6 (Nat.not_lt_zero _)
    | succ nn_6 ih_6 =>
      intro M_6 hI_6 hF_6 v1_6 hv0_6 hv1_6 kv0_6 kv1_6 kv2_6 hL_6 hm_6
      refine w_iload_n dX4_readTerm_6 rfl 0 rfl ?_
      refine w_bipush (v := 48) dX4_readTerm_7 (by decide) ?_
      refine w_icmp_ge (tgt := 75) dX4_readTerm_9 (by decide) (rfl : v1_6.toInt = v1_6.toInt) li_48 (fun h11_ => ?_) (fun h11_ => ?_)
      · exact w_vret rfl dX4_readTerm_75 ⟨hI_6, hF_6, kv2_6, ⟨M1_, hI4_, hF5_, hs7_, h3_, v1_6, hv0_6, hv1_6, M_6, hL_6, hI_6, hF_6, (Or.inl ⟨h11_, rfl⟩)⟩⟩
      · refine w_aload_n dX4_readTerm_12 rfl 1 rfl ?_
        refine w_getI fl_RX4_35 rfl rfl ic_4 dX4_readTerm_13 (fun z12_ e13_ => ?_)
        refine w_if_ge (tgt := 75) dX4_readTerm_16 (by decide) (rfl : z12_.toInt = z12_.toInt) (fun h14_ => ?_) (fun h14_ => ?_)
        · exact w_vret rfl dX4_readTerm_75 ⟨hI_6, hF_6, kv2_6, ⟨M1_, hI4_, hF5_, hs7_, h3_, v1_6, hv0_6, hv1_6, M_6, hL_6, hI_6, hF_6, (Or.inr ⟨h11_, z12_, e13_, (Or.inl ⟨h14_, rfl⟩)⟩)⟩⟩
        · refine w_aload_n dX4_readTerm_19 rfl 1 rfl ?_
          refine w_callV (as := []) (rest := []) (c_X4_next l G cy ad ((N + d) + 8) M_6 hI_6 kv0_6) kV_X4_next pnn_16 (Nat.le_of_ble_eq_true rfl) m_708 rfl rfl rfl ic_4 rfl rfl (by decide) (Nat.le_of_ble_eq_true rfl) dX4_readTerm_20 (fun r15_ M16_ q17_ => ?_)
          obtain ⟨hI19_, hF20_, h18_, hs22_⟩ := q17_
          have hF21_ := hF_6.tr hF20_ (fun c k => (fun h => h.elim (fun h => (Or.inl ⟨h.1, h.2.1, h.2.2⟩)) (fun h => h.elim)))
          have kf23_ : M16_.1 (4, 0, 0) 1 = 1 := by rw [(hF20_ (4, 0, 0) 1 (by simp [S_c_X4_next]))]; exact kv0_6
          have kf24_ : M16_.1 (4, 0, 0) 2 = 1 ∨ M16_.1 (4, 0, 0) 2 = 2 ∨ M16_.1 (4, 0, 0) 2 = 3 := by rw [(hF20_ (4, 0, 0) 2 (by simp [S_c_X4_next]))]; exact kv1_6
          have kf25_ : (M16_.1 (4, 0, 0) 5).toInt + ((m : Nat) : Int) = 5 := by rw [(hF20_ (4, 0, 0) 5 (by simp [S_c_X4_next]))]; exact kv2_6
          refine w_istore_n (ls' := [(2, vI r15_), (1, vI v1_6), (0, vR (4, 0, 0))]) dX4_readTerm_23 rfl (by decide) rfl ?_
          refine w_iload_n dX4_readTerm_24 rfl 0 rfl ?_
          refine w_bipush (v := 42) dX4_readTerm_25 (by decide) ?_
          refine w_icmp_eq (tgt := 43) dX4_readTerm_27 (by decide) (rfl : r15_.toInt = r15_.toInt) li_42 (fun h26_ => ?_) (fun h26_ => ?_)
          · refine w_aload_n dX4_readTerm_43 rfl 2 rfl ?_
            refine w_dup dX4_readTerm_44 rfl ?_
            refine w_getI fl_RX4_31 rfl rfl ic_4 dX4_readTerm_45 (fun z27_ e28_ => ?_)
            refine w_iconst (v := 1) dX4_readTerm_48 (by decide) ?_
            refine w_iadd dX4_readTerm_49 (fun z29_ h30_ => ?_)
            refine w_putI CC_nd fl_RX4_31 rfl rfl ic_4 dX4_readTerm_50 (fun M31_ hM32_ => ?_)
            have hI33_ := hI19_.put hM32_ trivial
            have hF34_ := hF21_.put hM32_ (Or.inl ⟨rfl, rfl, rfl⟩)
            have kf35_ : M31_.1 (4, 0, 0) 1 = 1 := by rw [(show M31_.1 (4, 0, 0) 1 = M16_.1 (4, 0, 0) 1 by rw [hM32_, up_ne (by simp)])]; exact kf23_
            have kf36_ : M31_.1 (4, 0, 0) 2 = 1 ∨ M31_.1 (4, 0, 0) 2 = 2 ∨ M31_.1 (4, 0, 0) 2 = 3 := by rw [(show M31_.1 (4, 0, 0) 2 = M16_.1 (4, 0, 0) 2 by rw [hM32_, up_ne (by simp)])]; exact kf24_
            have kf37_ : (M31_.1 (4, 0, 0) 5).toInt + ((m : Nat) : Int) = 5 := by rw [(show M31_.1 (4, 0, 0) 5 = M16_.1 (4, 0, 0) 5 by rw [hM32_, up_ne (by simp)])]; exact kf25_
            refine w_aload_n dX4_readTerm_53 rfl 2 rfl ?_
            refine w_callVv (as := []) (rest := []) (c_X4_readOne l G cy ad d N m QA QB M31_ hI33_ hA hB kf35_ kf36_ kf37_ hm) kV_X4_readOne pnn_16 (Nat.le_of_ble_eq_true rfl) m_704 rfl rfl rfl ic_4 rfl rfl (by decide) (Nat.le_of_ble_eq_true rfl) dX4_readTerm_54 (fun M38_ q39_ => ?_)
            obtain ⟨hI41_, hF42_, h40_, hs44_⟩ := q39_
            have hF43_ := hF34_.tr hF42_ (fun c k => (fun h => h.elim (fun h => (Or.inl ⟨h.1, h.2.1, h.2.2⟩)) (fun h => h.elim (fun h => (Or.inr (Or.inl ⟨h.1, h.2.1, h.2.2⟩))) (fun h => h.elim (fun h => (Or.inr (Or.inr (Or.inl ⟨h.1, h.2.1, h.2.2⟩)))) (fun h => h.elim (fun h => (Or.inr (Or.inr (Or.inr (Or.inl ⟨h.1, h.2.1, h.2.2⟩))))) (fun h => h.elim (fun h => (Or.inr (Or.inr (Or.inr (Or.inr (Or.inl ⟨h.1, h.2.1, h.2.2.1, h.2.2.2⟩)))))) (fun h => h.elim (fun h => (Or.inr (Or.inr (Or.inr (Or.inr (Or.inr (Or.inl ⟨h.1, h.2.1, h.2.2⟩))))))) (fun h => h.elim))))))))
            have kf45_ : M38_.1 (4, 0, 0) 1 = 1 := by rw [(hF42_ (4, 0, 0) 1 (by simp [S_reader]))]; exact kf35_
            have kf46_ : M38_.1 (4, 0, 0) 2 = 1 ∨ M38_.1 (4, 0, 0) 2 = 2 ∨ M38_.1 (4, 0, 0) 2 = 3 := by rw [(hF42_ (4, 0, 0) 2 (by simp [S_reader]))]; exact kf36_
            refine w_aload_n dX4_readTerm_57 rfl 2 rfl ?_
            refine w_getR (c' := (1, 3, 0)) fl_RX4_10 rfl rfl ic_4 dX4_readTerm_58 rfl ?_
            refine w_sipush (v := 2000) dX4_readTerm_61 (by decide) ?_
            refine w_iload_n dX4_readTerm_64 rfl 0 rfl ?_
            refine w_iaddB dX4_readTerm_65 li_2000 (rfl : r15_.toInt = r15_.toInt) (lf_c_X4_readTerm_0 r15_ h26_ ) (fun z47_ h48_ => ?_)
            refine w_callVv (as := [vI z47_]) (rest := []) (c_X1_add l G cy ad ((N + d) + 9) 3 0 z47_ M38_ hI41_ (by first | decide | (unfold vF; omega) | (unfold vRw; omega))) kV_X1_add pnn_6 (Nat.le_of_ble_eq_true rfl) m_720 rfl rfl rfl (ic_1 (by unfold vF; omega)) rfl rfl (by decide) (Nat.le_of_ble_eq_true rfl) dX4_readTerm_66 (fun M49_ q50_ => ?_)
            obtain ⟨hI52_, hF53_, h51_, hs55_⟩ := q50_
            have hF54_ := hF43_.tr hF53_ (fun c k => (fun h => h.elim (fun h => (Or.inr (Or.inr (Or.inr (Or.inr (Or.inr (Or.inl ⟨h.1, h.2.1, h.2.2⟩))))))) (fun h => h.elim (fun h => (Or.inr (Or.inr (Or.inr (Or.inr (Or.inl ⟨h.1, h.2.1, h.2.2.1, h.2.2.2⟩)))))) (fun h => h.elim))))
            have kf56_ : M49_.1 (4, 0, 0) 1 = 1 := by rw [(hF53_ (4, 0, 0) 1 (by simp [S_c_X1_add]))]; exact kf45_
            have kf57_ : M49_.1 (4, 0, 0) 2 = 1 ∨ M49_.1 (4, 0, 0) 2 = 2 ∨ M49_.1 (4, 0, 0) 2 = 3 := by rw [(hF53_ (4, 0, 0) 2 (by simp [S_c_X1_add]))]; exact kf46_
            have kf58_ : (M49_.1 (4, 0, 0) 5).toInt + ((m : Nat) : Int) = 5 := by rw [(hF53_ (4, 0, 0) 5 (by simp [S_c_X1_add]))]; exact h40_
            refine w_iincB (j := 1) (f := fun z59_ => [(1, vI z59_), (2, vI r15_), (0, vR (4, 0, 0))]) dX4_readTerm_69 rfl (by decide) (fun _ => rfl) (rfl : v1_6.toInt = v1_6.toInt) li_1 (lf_c_X1_work_1 v1_6 hv0_6 h11_ ) (fun z59_ h60_ => ?_)
            refine w_goto (tgt := 6) dX4_readTerm_72 (by decide) ?_
            refine w_loc (ls' := [(1, vI z59_), (0, vR (4, 0, 0))]) [0, 2] rfl ?_
            exact ih_6 M49_ hI52_ hF54_ z59_ (lf_c_X5_takeFrom_3 v1_6 z59_ hv0_6 h60_ ) (lf_c_X1_work_686 v1_6 z59_ h11_ h60_ ) kf56_ kf57_ kf58_ (RCH.tail hL_6 ⟨hv0_6, hv1_6, hI_6, hF_6, h11_, z12_, e13_, h14_, M16_, hI19_, hF20_, r15_, hs22_, (Or.inl ⟨h26_, z27_, e28_, z29_, h30_, M31_, hM32_, hI33_, M38_, hI41_, hF42_, hs44_, h40_, z47_, h48_, M49_, hI52_, hF53_, hs55_, z59_, h60_, rfl, rfl⟩)⟩) (Nat.lt_of_lt_of_le (lf_c_X1_work_3 v1_6 z59_ h11_ h60_ ) (Nat.le_of_lt_succ hm_6))
          · refine w_iload_n dX4_readTerm_30 rfl 0 rfl ?_
            refine w_bipush (v := 47) dX4_readTerm_31 (by decide) ?_
            refine w_icmp_eq (tgt := 43) dX4_readTerm_33 (by decide) (rfl : r15_.toInt = r15_.toInt) li_47 (fun h61_ => ?_) (fun h61_ => ?_)
            · refine w_aload_n dX4_readTerm_43 rfl 2 rfl ?_
              refine w_dup dX4_readTerm_44 rfl ?_
              refine w_getI fl_RX4_31 rfl rfl ic_4 dX4_readTerm_45 (fun z62_ e63_ => ?_)
              refine w_iconst (v := 1) dX4_readTerm_48 (by decide) ?_
              refine w_iadd dX4_readTerm_49 (fun z64_ h65_ => ?_)
              refine w_putI CC_nd fl_RX4_31 rfl rfl ic_4 dX4_readTerm_50 (fun M66_ hM67_ => ?_)
              have hI68_ := hI19_.put hM67_ trivial
              have hF69_ := hF21_.put hM67_ (Or.inl ⟨rfl, rfl, rfl⟩)
              have kf70_ : M66_.1 (4, 0, 0) 1 = 1 := by rw [(show M66_.1 (4, 0, 0) 1 = M16_.1 (4, 0, 0) 1 by rw [hM67_, up_ne (by simp)])]; exact kf23_
              have kf71_ : M66_.1 (4, 0, 0) 2 = 1 ∨ M66_.1 (4, 0, 0) 2 = 2 ∨ M66_.1 (4, 0, 0) 2 = 3 := by rw [(show M66_.1 (4, 0, 0) 2 = M16_.1 (4, 0, 0) 2 by rw [hM67_, up_ne (by simp)])]; exact kf24_
              have kf72_ : (M66_.1 (4, 0, 0) 5).toInt + ((m : Nat) : Int) = 5 := by rw [(show M66_.1 (4, 0, 0) 5 = M16_.1 (4, 0, 0) 5 by rw [hM67_, up_ne (by simp)])]; exact kf25_
              refine w_aload_n dX4_readTerm_53 rfl 2 rfl ?_
              refine w_callVv (as := []) (rest := []) (c_X4_readOne l G cy ad d N m QA QB M66_ hI68_ hA hB kf70_ kf71_ kf72_ hm) kV_X4_readOne pnn_16 (Nat.le_of_ble_eq_true rfl) m_704 rfl rfl rfl ic_4 rfl rfl (by decide) (Nat.le_of_ble_eq_true rfl) dX4_readTerm_54 (fun M73_ q74_ => ?_)
              obtain ⟨hI76_, hF77_, h75_, hs79_⟩ := q74_
              have hF78_ := hF69_.tr hF77_ (fun c k => (fun h => h.elim (fun h => (Or.inl ⟨h.1, h.2.1, h.2.2⟩)) (fun h => h.elim (fun h => (Or.inr (Or.inl ⟨h.1, h.2.1, h.2.2⟩))) (fun h => h.elim (fun h => (Or.inr (Or.inr (Or.inl ⟨h.1, h.2.1, h.2.2⟩)))) (fun h => h.elim (fun h => (Or.inr (Or.inr (Or.inr (Or.inl ⟨h.1, h.2.1, h.2.2⟩))))) (fun h => h.elim (fun h => (Or.inr (Or.inr (Or.inr (Or.inr (Or.inl ⟨h.1, h.2.1, h.2.2.1, h.2.2.2⟩)))))) (fun h => h.elim (fun h => (Or.inr (Or.inr (Or.inr (Or.inr (Or.inr (Or.inl ⟨h.1, h.2.1, h.2.2⟩))))))) (fun h => h.elim))))))))
              have kf80_ : M73_.1 (4, 0, 0) 1 = 1 := by rw [(hF77_ (4, 0, 0) 1 (by simp [S_reader]))]; exact kf70_
              have kf81_ : M73_.1 (4, 0, 0) 2 = 1 ∨ M73_.1 (4, 0, 0) 2 = 2 ∨ M73_.1 (4, 0, 0) 2 = 3 := by rw [(hF77_ (4, 0, 0) 2 (by simp [S_reader]))]; exact kf71_
              refine w_aload_n dX4_readTerm_57 rfl 2 rfl ?_
              refine w_getR (c' := (1, 3, 0)) fl_RX4_10 rfl rfl ic_4 dX4_readTerm_58 rfl ?_
              refine w_sipush (v := 2000) dX4_readTerm_61 (by decide) ?_
              refine w_iload_n dX4_readTerm_64 rfl 0 rfl ?_
              refine w_iaddB dX4_readTerm_65 li_2000 (rfl : r15_.toInt = r15_.toInt) (lf_c_X4_readTerm_5 r15_ h61_ ) (fun z82_ h83_ => ?_)
              refine w_callVv (as := [vI z82_]) (rest := []) (c_X1_add l G cy ad ((N + d) + 9) 3 0 z82_ M73_ hI76_ (by first | decide | (unfold vF; omega) | (unfold vRw; omega))) kV_X1_add pnn_6 (Nat.le_of_ble_eq_true rfl) m_720 rfl rfl rfl (ic_1 (by unfold vF; omega)) rfl rfl (by decide) (Nat.le_of_ble_eq_true rfl) dX4_readTerm_66 (fun M84_ q85_ => ?_)
              obtain ⟨hI87_, hF88_, h86_, hs90_⟩ := q85_
              have hF89_ := hF78_.tr hF88_ (fun c k => (fun h => h.elim (fun h => (Or.inr (Or.inr (Or.inr (Or.inr (Or.inr (Or.inl ⟨h.1, h.2.1, h.2.2⟩))))))) (fun h => h.elim (fun h => (Or.inr (Or.inr (Or.inr (Or.inr (Or.inl ⟨h.1, h.2.1, h.2.2.1, h.2.2.2⟩)))))) (fun h => h.elim))))
              have kf91_ : M84_.1 (4, 0, 0) 1 = 1 := by rw [(hF88_ (4, 0, 0) 1 (by simp [S_c_X1_add]))]; exact kf80_
              have kf92_ : M84_.1 (4, 0, 0) 2 = 1 ∨ M84_.1 (4, 0, 0) 2 = 2 ∨ M84_.1 (4, 0, 0) 2 = 3 := by rw [(hF88_ (4, 0, 0) 2 (by simp [S_c_X1_add]))]; exact kf81_
              have kf93_ : (M84_.1 (4, 0, 0) 5).toInt + ((m : Nat) : Int) = 5 := by rw [(hF88_ (4, 0, 0) 5 (by simp [S_c_X1_add]))]; exact h75_
              refine w_iincB (j := 1) (f := fun z94_ => [(1, vI z94_), (2, vI r15_), (0, vR (4, 0, 0))]) dX4_readTerm_69 rfl (by decide) (fun _ => rfl) (rfl : v1_6.toInt = v1_6.toInt) li_1 (lf_c_X1_work_1 v1_6 hv0_6 h11_ ) (fun z94_ h95_ => ?_)
              refine w_goto (tgt := 6) dX4_readTerm_72 (by decide) ?_
              refine w_loc (ls' := [(1, vI z94_), (0, vR (4, 0, 0))]) [0, 2] rfl ?_
              exact ih_6 M84_ hI87_ hF89_ z94_ (lf_c_X5_takeFrom_3 v1_6 z94_ hv0_6 h95_ ) (lf_c_X1_work_686 v1_6 z94_ h11_ h95_ ) kf91_ kf92_ kf93_ (RCH.tail hL_6 ⟨hv0_6, hv1_6, hI_6, hF_6, h11_, z12_, e13_, h14_, M16_, hI19_, hF20_, r15_, hs22_, (Or.inr ⟨h26_, (Or.inl ⟨h61_, z62_, e63_, z64_, h65_, M66_, hM67_, hI68_, M73_, hI76_, hF77_, hs79_, h75_, z82_, h83_, M84_, hI87_, hF88_, hs90_, z94_, h95_, rfl, rfl⟩)⟩)⟩) (Nat.lt_of_lt_of_le (lf_c_X1_work_3 v1_6 z94_ h11_ h95_ ) (Nat.le_of_lt_succ hm_6))
            · refine w_iload_n dX4_readTerm_36 rfl 0 rfl ?_
              refine w_bipush (v := 37) dX4_readTerm_37 (by decide) ?_
              refine w_icmp_eq (tgt := 43) dX4_readTerm_39 (by decide) (rfl : r15_.toInt = r15_.toInt) li_37 (fun h96_ => ?_) (fun h96_ => ?_)
              · refine w_aload_n dX4_readTerm_43 rfl 2 rfl ?_
                refine w_dup dX4_readTerm_44 rfl ?_
                refine w_getI fl_RX4_31 rfl rfl ic_4 dX4_readTerm_45 (fun z97_ e98_ => ?_)
                refine w_iconst (v := 1) dX4_readTerm_48 (by decide) ?_
                refine w_iadd dX4_readTerm_49 (fun z99_ h100_ => ?_)
                refine w_putI CC_nd fl_RX4_31 rfl rfl ic_4 dX4_readTerm_50 (fun M101_ hM102_ => ?_)
                have hI103_ := hI19_.put hM102_ trivial
                have hF104_ := hF21_.put hM102_ (Or.inl ⟨rfl, rfl, rfl⟩)
                have kf105_ : M101_.1 (4, 0, 0) 1 = 1 := by rw [(show M101_.1 (4, 0, 0) 1 = M16_.1 (4, 0, 0) 1 by rw [hM102_, up_ne (by simp)])]; exact kf23_
                have kf106_ : M101_.1 (4, 0, 0) 2 = 1 ∨ M101_.1 (4, 0, 0) 2 = 2 ∨ M101_.1 (4, 0, 0) 2 = 3 := by rw [(show M101_.1 (4, 0, 0) 2 = M16_.1 (4, 0, 0) 2 by rw [hM102_, up_ne (by simp)])]; exact kf24_
                have kf107_ : (M101_.1 (4, 0, 0) 5).toInt + ((m : Nat) : Int) = 5 := by rw [(show M101_.1 (4, 0, 0) 5 = M16_.1 (4, 0, 0) 5 by rw [hM102_, up_ne (by simp)])]; exact kf25_
                refine w_aload_n dX4_readTerm_53 rfl 2 rfl ?_
                refine w_callVv (as := []) (rest := []) (c_X4_readOne l G cy ad d N m QA QB M101_ hI103_ hA hB kf105_ kf106_ kf107_ hm) kV_X4_readOne pnn_16 (Nat.le_of_ble_eq_true rfl) m_704 rfl rfl rfl ic_4 rfl rfl (by decide) (Nat.le_of_ble_eq_true rfl) dX4_readTerm_54 (fun M108_ q109_ => ?_)
                obtain ⟨hI111_, hF112_, h110_, hs114_⟩ := q109_
                have hF113_ := hF104_.tr hF112_ (fun c k => (fun h => h.elim (fun h => (Or.inl ⟨h.1, h.2.1, h.2.2⟩)) (fun h => h.elim (fun h => (Or.inr (Or.inl ⟨h.1, h.2.1, h.2.2⟩))) (fun h => h.elim (fun h => (Or.inr (Or.inr (Or.inl ⟨h.1, h.2.1, h.2.2⟩)))) (fun h => h.elim (fun h => (Or.inr (Or.inr (Or.inr (Or.inl ⟨h.1, h.2.1, h.2.2⟩))))) (fun h => h.elim (fun h => (Or.inr (Or.inr (Or.inr (Or.inr (Or.inl ⟨h.1, h.2.1, h.2.2.1, h.2.2.2⟩)))))) (fun h => h.elim (fun h => (Or.inr (Or.inr (Or.inr (Or.inr (Or.inr (Or.inl ⟨h.1, h.2.1, h.2.2⟩))))))) (fun h => h.elim))))))))
                have kf115_ : M108_.1 (4, 0, 0) 1 = 1 := by rw [(hF112_ (4, 0, 0) 1 (by simp [S_reader]))]; exact kf105_
                have kf116_ : M108_.1 (4, 0, 0) 2 = 1 ∨ M108_.1 (4, 0, 0) 2 = 2 ∨ M108_.1 (4, 0, 0) 2 = 3 := by rw [(hF112_ (4, 0, 0) 2 (by simp [S_reader]))]; exact kf106_
                refine w_aload_n dX4_readTerm_57 rfl 2 rfl ?_
                refine w_getR (c' := (1, 3, 0)) fl_RX4_10 rfl rfl ic_4 dX4_readTerm_58 rfl ?_
                refine w_sipush (v := 2000) dX4_readTerm_61 (by decide) ?_
                refine w_iload_n dX4_readTerm_64 rfl 0 rfl ?_
                refine w_iaddB dX4_readTerm_65 li_2000 (rfl : r15_.toInt = r15_.toInt) (lf_c_X4_readTerm_10 r15_ h96_ ) (fun z117_ h118_ => ?_)
                refine w_callVv (as := [vI z117_]) (rest := []) (c_X1_add l G cy ad ((N + d) + 9) 3 0 z117_ M108_ hI111_ (by first | decide | (unfold vF; omega) | (unfold vRw; omega))) kV_X1_add pnn_6 (Nat.le_of_ble_eq_true rfl) m_720 rfl rfl rfl (ic_1 (by unfold vF; omega)) rfl rfl (by decide) (Nat.le_of_ble_eq_true rfl) dX4_readTerm_66 (fun M119_ q120_ => ?_)
                obtain ⟨hI122_, hF123_, h121_, hs125_⟩ := q120_
                have hF124_ := hF113_.tr hF123_ (fun c k => (fun h => h.elim (fun h => (Or.inr (Or.inr (Or.inr (Or.inr (Or.inr (Or.inl ⟨h.1, h.2.1, h.2.2⟩))))))) (fun h => h.elim (fun h => (Or.inr (Or.inr (Or.inr (Or.inr (Or.inl ⟨h.1, h.2.1, h.2.2.1, h.2.2.2⟩)))))) (fun h => h.elim))))
                have kf126_ : M119_.1 (4, 0, 0) 1 = 1 := by rw [(hF123_ (4, 0, 0) 1 (by simp [S_c_X1_add]))]; exact kf115_
                have kf127_ : M119_.1 (4, 0, 0) 2 = 1 ∨ M119_.1 (4, 0, 0) 2 = 2 ∨ M119_.1 (4, 0, 0) 2 = 3 := by rw [(hF123_ (4, 0, 0) 2 (by simp [S_c_X1_add]))]; exact kf116_
                have kf128_ : (M119_.1 (4, 0, 0) 5).toInt + ((m : Nat) : Int) = 5 := by rw [(hF123_ (4, 0, 0) 5 (by simp [S_c_X1_add]))]; exact h110_
                refine w_iincB (j := 1) (f := fun z129_ => [(1, vI z129_), (2, vI r15_), (0, vR (4, 0, 0))]) dX4_readTerm_69 rfl (by decide) (fun _ => rfl) (rfl : v1_6.toInt = v1_6.toInt) li_1 (lf_c_X1_work_1 v1_6 hv0_6 h11_ ) (fun z129_ h130_ => ?_)
                refine w_goto (tgt := 6) dX4_readTerm_72 (by decide) ?_
                refine w_loc (ls' := [(1, vI z129_), (0, vR (4, 0, 0))]) [0, 2] rfl ?_
                exact ih_6 M119_ hI122_ hF124_ z129_ (lf_c_X5_takeFrom_3 v1_6 z129_ hv0_6 h130_ ) (lf_c_X1_work_686 v1_6 z129_ h11_ h130_ ) kf126_ kf127_ kf128_ (RCH.tail hL_6 ⟨hv0_6, hv1_6, hI_6, hF_6, h11_, z12_, e13_, h14_, M16_, hI19_, hF20_, r15_, hs22_, (Or.inr ⟨h26_, (Or.inr ⟨h61_, h96_, z97_, e98_, z99_, h100_, M101_, hM102_, hI103_, M108_, hI111_, hF112_, hs114_, h110_, z117_, h118_, M119_, hI122_, hF123_, hs125_, z129_, h130_, rfl, rfl⟩)⟩)⟩) (Nat.lt_of_lt_of_le (lf_c_X1_work_3 v1_6 z129_ h11_ h130_ ) (Nat.le_of_lt_succ hm_6))
              · exact w_vret rfl dX4_readTerm_42 ⟨hI19_, hF21_, kf25_, ⟨M1_, hI4_, hF5_, hs7_, h3_, v1_6, hv0_6, hv1_6, M_6, hL_6, hI_6, hF_6, (Or.inr ⟨h11_, z12_, e13_, (Or.inr ⟨h14_, M16_, hI19_, hF20_, r15_, hs22_, h26_, h61_, h96_, rfl⟩)⟩)⟩⟩
  exact lp10_ _ M1_ hI4_ hF6_ 0 (lf_c_X5_takeFrom_5 ) (lf_c_X1_work_705 ) kf8_ kf9_ h3_ RCH.refl (Nat.lt_succ_self _)
def ST_X4_readSum_6 (N : Nat) (m : Nat) (QA : mM → mM → Prop) (QB : mM → mM → Prop) (Mz : mM) (v1_6 : Int32) (M_6 : mM) (v1_6y : Int32) (M_6y : mM) : Prop := (0 ≤ v1_6.toInt) ∧ (v1_6.toInt ≤ 48) ∧ (Inv M_6) ∧ (FR (S_reader) Mz M_6) ∧ (v1_6.toInt < 48) ∧ ∃ z12_ : Int32, (z12_ = M_6.1 (4, 0, 0) 4) ∧ (z12_.toInt < 0) ∧ ∃ M16_ : mM, (Inv M16_) ∧ (FR (S_c_X4_next) M_6 M16_) ∧ ∃ r15_ : Int32, (SP_X4_next M_6 r15_ M16_) ∧ (((r15_.toInt = 43) ∧ ∃ z27_ : Int32, (z27_ = M16_.1 (4, 0, 0) 3) ∧ ∃ z29_ : Int32, (z29_ = z27_ + (1 : Int32)) ∧ ∃ M31_ : mM, (M31_ = up M16_ (4, 0, 0) 3 z29_) ∧ (Inv M31_) ∧ ∃ M38_ : mM, (Inv M38_) ∧ (FR (S_reader) M31_ M38_) ∧ (SP_X4_readTerm N m QA QB M31_ M38_) ∧ ((M38_.1 (4, 0, 0) 5).toInt + ((m : Nat) : Int) = 5) ∧ ∃ z47_ : Int32, (z47_.toInt = 2000 + r15_.toInt) ∧ ∃ M49_ : mM, (Inv M49_) ∧ (FR (S_c_X1_add 3 0) M38_ M49_) ∧ (SP_X1_add 3 0 z47_ M38_ M49_) ∧ ∃ z59_ : Int32, (z59_.toInt = v1_6.toInt + 1) ∧ v1_6y = z59_ ∧ M_6y = M49_) ∨ ((¬ r15_.toInt = 43) ∧ (r15_.toInt = 45) ∧ ∃ z62_ : Int32, (z62_ = M16_.1 (4, 0, 0) 3) ∧ ∃ z64_ : Int32, (z64_ = z62_ + (1 : Int32)) ∧ ∃ M66_ : mM, (M66_ = up M16_ (4, 0, 0) 3 z64_) ∧ (Inv M66_) ∧ ∃ M73_ : mM, (Inv M73_) ∧ (FR (S_reader) M66_ M73_) ∧ (SP_X4_readTerm N m QA QB M66_ M73_) ∧ ((M73_.1 (4, 0, 0) 5).toInt + ((m : Nat) : Int) = 5) ∧ ∃ z82_ : Int32, (z82_.toInt = 2000 + r15_.toInt) ∧ ∃ M84_ : mM, (Inv M84_) ∧ (FR (S_c_X1_add 3 0) M73_ M84_) ∧ (SP_X1_add 3 0 z82_ M73_ M84_) ∧ ∃ z94_ : Int32, (z94_.toInt = v1_6.toInt + 1) ∧ v1_6y = z94_ ∧ M_6y = M84_))
def SP_X4_readSum (N : Nat) (m : Nat) (QA : mM → mM → Prop) (QB : mM → mM → Prop) (Mz : mM) (M_ : mM) : Prop := ∃ M1_ : mM, (Inv M1_) ∧ (FR (S_reader) Mz M1_) ∧ (SP_X4_readTerm N m QA QB Mz M1_) ∧ ((M1_.1 (4, 0, 0) 5).toInt + ((m : Nat) : Int) = 5) ∧ ∃ v1_6 : Int32, (0 ≤ v1_6.toInt) ∧ (v1_6.toInt ≤ 48) ∧ ∃ M_6 : mM, (RCH (fun x_ y_ => ST_X4_readSum_6 N m QA QB Mz x_.1 x_.2 y_.1 y_.2) ((0 : Int32), M1_) (v1_6, M_6)) ∧ (Inv M_6) ∧ (FR (S_reader) Mz M_6) ∧ (((48 ≤ v1_6.toInt) ∧ M_ = M_6) ∨ ((v1_6.toInt < 48) ∧ ∃ z12_ : Int32, (z12_ = M_6.1 (4, 0, 0) 4) ∧ (((0 ≤ z12_.toInt) ∧ M_ = M_6) ∨ ((z12_.toInt < 0) ∧ ∃ M16_ : mM, (Inv M16_) ∧ (FR (S_c_X4_next) M_6 M16_) ∧ ∃ r15_ : Int32, (SP_X4_next M_6 r15_ M16_) ∧ (¬ r15_.toInt = 43) ∧ (¬ r15_.toInt = 45) ∧ M_ = M16_))))
theorem lf_c_X4_readSum_0 (r15_ : Int32) (h26_ : r15_.toInt = 43) : -2147483648 ≤ 2000 + r15_.toInt ∧ 2000 + r15_.toInt < 2147483648 := by omega
theorem lf_c_X4_readSum_5 (r15_ : Int32) (h61_ : r15_.toInt = 45) : -2147483648 ≤ 2000 + r15_.toInt ∧ 2000 + r15_.toInt < 2147483648 := by omega
set_option maxHeartbeats 4000000 in
set_option maxRecDepth 100000 in
theorem c_X4_readSum (l : Launch) (G : va_G) (cy : Nat → ClassId) (ad : rf → Nat) (d : Nat) (N : Nat) (m : Nat) (QA : mM → mM → Prop) (QB : mM → mM → Prop) (Mz : mM) (hIz : Inv Mz) (hA : ∀ k : Nat, k + 1 = m → ONEC l G cy ad N k QA) (hB : ∀ k : Nat, k + 1 = m → CMPC l G cy ad N k QB) (hT : Mz.1 (4, 0, 0) 1 = 1) (hN : Mz.1 (4, 0, 0) 2 = 1 ∨ Mz.1 (4, 0, 0) 2 = 2 ∨ Mz.1 (4, 0, 0) 2 = 3) (hk : (Mz.1 (4, 0, 0) 5).toInt + ((m : Nat) : Int) = 5) (hm : m ≤ 5) : WP CC l G cy ad yX4_readSum cX4_readSum 3 none ((N + d) + 11) 0 [(0, vR (4, 0, 0))] [] Mz (fun r M' => Inv M' ∧ FR (S_reader) Mz M' ∧ ((M'.1 (4, 0, 0) 5).toInt + ((m : Nat) : Int) = 5) ∧ SP_X4_readSum N m QA QB Mz M') := by
  have hFz : FR (S_reader) Mz Mz := FR.self
  refine w_aload_n dX4_readSum_0 rfl 0 rfl ?_
  refine w_callVv (as := []) (rest := []) (c_X4_readTerm l G cy ad d N m QA QB Mz hIz hA hB hT hN hk hm) kV_X4_readTerm pnn_16 (Nat.le_of_ble_eq_true rfl) m_700 rfl rfl rfl ic_4 rfl rfl (by decide) (Nat.le_of_ble_eq_true rfl) dX4_readSum_1 (fun M1_ q2_ => ?_)
  obtain ⟨hI4_, hF5_, h3_, hs7_⟩ := q2_
  have hF6_ := hFz.tr hF5_ (fun c k => (fun h => h.elim (fun h => (Or.inl ⟨h.1, h.2.1, h.2.2⟩)) (fun h => h.elim (fun h => (Or.inr (Or.inl ⟨h.1, h.2.1, h.2.2⟩))) (fun h => h.elim (fun h => (Or.inr (Or.inr (Or.inl ⟨h.1, h.2.1, h.2.2⟩)))) (fun h => h.elim (fun h => (Or.inr (Or.inr (Or.inr (Or.inl ⟨h.1, h.2.1, h.2.2⟩))))) (fun h => h.elim (fun h => (Or.inr (Or.inr (Or.inr (Or.inr (Or.inl ⟨h.1, h.2.1, h.2.2.1, h.2.2.2⟩)))))) (fun h => h.elim (fun h => (Or.inr (Or.inr (Or.inr (Or.inr (Or.inr (Or.inl ⟨h.1, h.2.1, h.2.2⟩))))))) (fun h => h.elim))))))))
  have kf8_ : M1_.1 (4, 0, 0) 1 = 1 := by rw [(hF5_ (4, 0, 0) 1 (by simp [S_reader]))]; exact hT
  have kf9_ : M1_.1 (4, 0, 0) 2 = 1 ∨ M1_.1 (4, 0, 0) 2 = 2 ∨ M1_.1 (4, 0, 0) 2 = 3 := by rw [(hF5_ (4, 0, 0) 2 (by simp [S_reader]))]; exact hN
  refine w_iconst (v := 0) dX4_readSum_4 (by decide) ?_
  refine w_istore_n (ls' := [(1, vI 0), (0, vR (4, 0, 0))]) dX4_readSum_5 rfl (by decide) rfl ?_
  have lp10_ : ∀ (nn_6 : Nat) (M_6 : mM) (hI_6 : Inv M_6) (hF_6 : FR (S_reader) Mz M_6) (v1_6 : Int32) (hv0_6 : 0 ≤ v1_6.toInt) (hv1_6 : v1_6.toInt ≤ 48) (kv0_6 : M_6.1 (4, 0, 0) 1 = 1) (kv1_6 : M_6.1 (4, 0, 0) 2 = 1 ∨ M_6.1 (4, 0, 0) 2 = 2 ∨ M_6.1 (4, 0, 0) 2 = 3) (kv2_6 : (M_6.1 (4, 0, 0) 5).toInt + ((m : Nat) : Int) = 5) (hL_6 : RCH (fun x_ y_ => ST_X4_readSum_6 N m QA QB Mz x_.1 x_.2 y_.1 y_.2) ((0 : Int32), M1_) (v1_6, M_6)), (2147483648 - v1_6.toInt).toNat < nn_6 → WP CC l G cy ad yX4_readSum cX4_readSum 3 none ((N + d) + 11) 6 [(1, vI v1_6), (0, vR (4, 0, 0))] [] M_6 (fun r M' => Inv M' ∧ FR (S_reader) Mz M' ∧ ((M'.1 (4, 0, 0) 5).toInt + ((m : Nat) : Int) = 5) ∧ SP_X4_readSum N m QA QB Mz M') := by
    intro nn_6
    induction nn_6 with
    | zero => intro M_6 hI_6 hF_6 v1_6 hv0_6 hv1_6 kv0_6 kv1_6 kv2_6 hL_6 hm_6; exact absurd hm_6 (Nat.not_lt_zero _)
    | succ nn_6 ih_6 =>
      intro M_6 hI_6 hF_6 v1_6 hv0_6 hv1_6 kv0_6 kv1_6 kv2_6 hL_6 hm_6
      refine w_iload_n dX4_readSum_6 rfl 0 rfl ?_
      refine w_bipush (v := 48) dX4_readSum_7 (by decide) ?_
      refine w_icmp_ge (tgt := 69) dX4_readSum_9 (by decide) (rfl : v1_6.toInt = v1_6.toInt) li_48 (fun h11_ => ?_) (fun h11_ => ?_)
      · exact w_vret rfl dX4_readSum_69 ⟨hI_6, hF_6, kv2_6, ⟨M1_, hI4_, hF5_, hs7_, h3_, v1_6, hv0_6, hv1_6, M_6, hL_6, hI_6, hF_6, (Or.inl ⟨h11_, rfl⟩)⟩⟩
      · refine w_aload_n dX4_readSum_12 rfl 1 rfl ?_
        refine w_getI fl_RX4_35 rfl rfl ic_4 dX4_readSum_13 (fun z12_ e13_ => ?_)
        refine w_if_ge (tgt := 69) dX4_readSum_16 (by decide) (rfl : z12_.toInt = z12_.toInt) (fun h14_ => ?_) (fun h14_ => ?_)
        · exact w_vret rfl dX4_readSum_69 ⟨hI_6, hF_6, kv2_6, ⟨M1_, hI4_, hF5_, hs7_, h3_, v1_6, hv0_6, hv1_6, M_6, hL_6, hI_6, hF_6, (Or.inr ⟨h11_, z12_, e13_, (Or.inl ⟨h14_, rfl⟩)⟩)⟩⟩
        · refine w_aload_n dX4_readSum_19 rfl 1 rfl ?_
          refine w_callV (as := []) (rest := []) (c_X4_next l G cy ad ((N + d) + 9) M_6 hI_6 kv0_6) kV_X4_next pnn_16 (Nat.le_of_ble_eq_true rfl) m_708 rfl rfl rfl ic_4 rfl rfl (by decide) (Nat.le_of_ble_eq_true rfl) dX4_readSum_20 (fun r15_ M16_ q17_ => ?_)
          obtain ⟨hI19_, hF20_, h18_, hs22_⟩ := q17_
          have hF21_ := hF_6.tr hF20_ (fun c k => (fun h => h.elim (fun h => (Or.inl ⟨h.1, h.2.1, h.2.2⟩)) (fun h => h.elim)))
          have kf23_ : M16_.1 (4, 0, 0) 1 = 1 := by rw [(hF20_ (4, 0, 0) 1 (by simp [S_c_X4_next]))]; exact kv0_6
          have kf24_ : M16_.1 (4, 0, 0) 2 = 1 ∨ M16_.1 (4, 0, 0) 2 = 2 ∨ M16_.1 (4, 0, 0) 2 = 3 := by rw [(hF20_ (4, 0, 0) 2 (by simp [S_c_X4_next]))]; exact kv1_6
          have kf25_ : (M16_.1 (4, 0, 0) 5).toInt + ((m : Nat) : Int) = 5 := by rw [(hF20_ (4, 0, 0) 5 (by simp [S_c_X4_next]))]; exact kv2_6
          refine w_istore_n (ls' := [(2, vI r15_), (1, vI v1_6), (0, vR (4, 0, 0))]) dX4_readSum_23 rfl (by decide) rfl ?_
          refine w_iload_n dX4_readSum_24 rfl 0 rfl ?_
          refine w_bipush (v := 43) dX4_readSum_25 (by decide) ?_
          refine w_icmp_eq (tgt := 37) dX4_readSum_27 (by decide) (rfl : r15_.toInt = r15_.toInt) li_43 (fun h26_ => ?_) (fun h26_ => ?_)
          · refine w_aload_n dX4_readSum_37 rfl 2 rfl ?_
            refine w_dup dX4_readSum_38 rfl ?_
            refine w_getI fl_RX4_31 rfl rfl ic_4 dX4_readSum_39 (fun z27_ e28_ => ?_)
            refine w_iconst (v := 1) dX4_readSum_42 (by decide) ?_
            refine w_iadd dX4_readSum_43 (fun z29_ h30_ => ?_)
            refine w_putI CC_nd fl_RX4_31 rfl rfl ic_4 dX4_readSum_44 (fun M31_ hM32_ => ?_)
            have hI33_ := hI19_.put hM32_ trivial
            have hF34_ := hF21_.put hM32_ (Or.inl ⟨rfl, rfl, rfl⟩)
            have kf35_ : M31_.1 (4, 0, 0) 1 = 1 := by rw [(show M31_.1 (4, 0, 0) 1 = M16_.1 (4, 0, 0) 1 by rw [hM32_, up_ne (by simp)])]; exact kf23_
            have kf36_ : M31_.1 (4, 0, 0) 2 = 1 ∨ M31_.1 (4, 0, 0) 2 = 2 ∨ M31_.1 (4, 0, 0) 2 = 3 := by rw [(show M31_.1 (4, 0, 0) 2 = M16_.1 (4, 0, 0) 2 by rw [hM32_, up_ne (by simp)])]; exact kf24_
            have kf37_ : (M31_.1 (4, 0, 0) 5).toInt + ((m : Nat) : Int) = 5 := by rw [(show M31_.1 (4, 0, 0) 5 = M16_.1 (4, 0, 0) 5 by rw [hM32_, up_ne (by simp)])]; exact kf25_
            refine w_aload_n dX4_readSum_47 rfl 2 rfl ?_
            refine w_callVv (as := []) (rest := []) (c_X4_readTerm l G cy ad d N m QA QB M31_ hI33_ hA hB kf35_ kf36_ kf37_ hm) kV_X4_readTerm pnn_16 (Nat.le_of_ble_eq_true rfl) m_700 rfl rfl rfl ic_4 rfl rfl (by decide) (Nat.le_of_ble_eq_true rfl) dX4_readSum_48 (fun M38_ q39_ => ?_)
            obtain ⟨hI41_, hF42_, h40_, hs44_⟩ := q39_
            have hF43_ := hF34_.tr hF42_ (fun c k => (fun h => h.elim (fun h => (Or.inl ⟨h.1, h.2.1, h.2.2⟩)) (fun h => h.elim (fun h => (Or.inr (Or.inl ⟨h.1, h.2.1, h.2.2⟩))) (fun h => h.elim (fun h => (Or.inr (Or.inr (Or.inl ⟨h.1, h.2.1, h.2.2⟩)))) (fun h => h.elim (fun h => (Or.inr (Or.inr (Or.inr (Or.inl ⟨h.1, h.2.1, h.2.2⟩))))) (fun h => h.elim (fun h => (Or.inr (Or.inr (Or.inr (Or.inr (Or.inl ⟨h.1, h.2.1, h.2.2.1, h.2.2.2⟩)))))) (fun h => h.elim (fun h => (Or.inr (Or.inr (Or.inr (Or.inr (Or.inr (Or.inl ⟨h.1, h.2.1, h.2.2⟩))))))) (fun h => h.elim))))))))
            have kf45_ : M38_.1 (4, 0, 0) 1 = 1 := by rw [(hF42_ (4, 0, 0) 1 (by simp [S_reader]))]; exact kf35_
            have kf46_ : M38_.1 (4, 0, 0) 2 = 1 ∨ M38_.1 (4, 0, 0) 2 = 2 ∨ M38_.1 (4, 0, 0) 2 = 3 := by rw [(hF42_ (4, 0, 0) 2 (by simp [S_reader]))]; exact kf36_
            refine w_aload_n dX4_readSum_51 rfl 2 rfl ?_
            refine w_getR (c' := (1, 3, 0)) fl_RX4_10 rfl rfl ic_4 dX4_readSum_52 rfl ?_
            refine w_sipush (v := 2000) dX4_readSum_55 (by decide) ?_
            refine w_iload_n dX4_readSum_58 rfl 0 rfl ?_
            refine w_iaddB dX4_readSum_59 li_2000 (rfl : r15_.toInt = r15_.toInt) (lf_c_X4_readSum_0 r15_ h26_ ) (fun z47_ h48_ => ?_)
            refine w_callVv (as := [vI z47_]) (rest := []) (c_X1_add l G cy ad ((N + d) + 10) 3 0 z47_ M38_ hI41_ (by first | decide | (unfold vF; omega) | (unfold vRw; omega))) kV_X1_add pnn_6 (Nat.le_of_ble_eq_true rfl) m_720 rfl rfl rfl (ic_1 (by unfold vF; omega)) rfl rfl (by decide) (Nat.le_of_ble_eq_true rfl) dX4_readSum_60 (fun M49_ q50_ => ?_)
            obtain ⟨hI52_, hF53_, h51_, hs55_⟩ := q50_
            have hF54_ := hF43_.tr hF53_ (fun c k => (fun h => h.elim (fun h => (Or.inr (Or.inr (Or.inr (Or.inr (Or.inr (Or.inl ⟨h.1, h.2.1, h.2.2⟩))))))) (fun h => h.elim (fun h => (Or.inr (Or.inr (Or.inr (Or.inr (Or.inl ⟨h.1, h.2.1, h.2.2.1, h.2.2.2⟩)))))) (fun h => h.elim))))
            have kf56_ : M49_.1 (4, 0, 0) 1 = 1 := by rw [(hF53_ (4, 0, 0) 1 (by simp [S_c_X1_add]))]; exact kf45_
            have kf57_ : M49_.1 (4, 0, 0) 2 = 1 ∨ M49_.1 (4, 0, 0) 2 = 2 ∨ M49_.1 (4, 0, 0) 2 = 3 := by rw [(hF53_ (4, 0, 0) 2 (by simp [S_c_X1_add]))]; exact kf46_
            have kf58_ : (M49_.1 (4, 0, 0) 5).toInt + ((m : Nat) : Int) = 5 := by rw [(hF53_ (4, 0, 0) 5 (by simp [S_c_X1_add]))]; exact h40_
            refine w_iincB (j := 1) (f := fun z59_ => [(1, vI z59_), (2, vI r15_), (0, vR (4, 0, 0))]) dX4_readSum_63 rfl (by decide) (fun _ => rfl) (rfl : v1_6.toInt = v1_6.toInt) li_1 (lf_c_X1_work_1 v1_6 hv0_6 h11_ ) (fun z59_ h60_ => ?_)
            refine w_goto (tgt := 6) dX4_readSum_66 (by decide) ?_
            refine w_loc (ls' := [(1, vI z59_), (0, vR (4, 0, 0))]) [0, 2] rfl ?_
            exact ih_6 M49_ hI52_ hF54_ z59_ (lf_c_X5_takeFrom_3 v1_6 z59_ hv0_6 h60_ ) (lf_c_X1_work_686 v1_6 z59_ h11_ h60_ ) kf56_ kf57_ kf58_ (RCH.tail hL_6 ⟨hv0_6, hv1_6, hI_6, hF_6, h11_, z12_, e13_, h14_, M16_, hI19_, hF20_, r15_, hs22_, (Or.inl ⟨h26_, z27_, e28_, z29_, h30_, M31_, hM32_, hI33_, M38_, hI41_, hF42_, hs44_, h40_, z47_, h48_, M49_, hI52_, hF53_, hs55_, z59_, h60_, rfl, rfl⟩)⟩) (Nat.lt_of_lt_of_le (lf_c_X1_work_3 v1_6 z59_ h11_ h60_ ) (Nat.le_of_lt_succ hm_6))
          · refine w_iload_n dX4_readSum_30 rfl 0 rfl ?_
            refine w_bipush (v := 45) dX4_readSum_31 (by decide) ?_
            refine w_icmp_eq (tgt := 37) dX4_readSum_33 (by decide) (rfl : r15_.toInt = r15_.toInt) li_45 (fun h61_ => ?_) (fun h61_ => ?_)
            · refine w_aload_n dX4_readSum_37 rfl 2 rfl ?_
              refine w_dup dX4_readSum_38 rfl ?_
              refine w_getI fl_RX4_31 rfl rfl ic_4 dX4_readSum_39 (fun z62_ e63_ => ?_)
              refine w_iconst (v := 1) dX4_readSum_42 (by decide) ?_
              refine w_iadd dX4_readSum_43 (fun z64_ h65_ => ?_)
              refine w_putI CC_nd fl_RX4_31 rfl rfl ic_4 dX4_readSum_44 (fun M66_ hM67_ => ?_)
              have hI68_ := hI19_.put hM67_ trivial
              have hF69_ := hF21_.put hM67_ (Or.inl ⟨rfl, rfl, rfl⟩)
              have kf70_ : M66_.1 (4, 0, 0) 1 = 1 := by rw [(show M66_.1 (4, 0, 0) 1 = M16_.1 (4, 0, 0) 1 by rw [hM67_, up_ne (by simp)])]; exact kf23_
              have kf71_ : M66_.1 (4, 0, 0) 2 = 1 ∨ M66_.1 (4, 0, 0) 2 = 2 ∨ M66_.1 (4, 0, 0) 2 = 3 := by rw [(show M66_.1 (4, 0, 0) 2 = M16_.1 (4, 0, 0) 2 by rw [hM67_, up_ne (by simp)])]; exact kf24_
              have kf72_ : (M66_.1 (4, 0, 0) 5).toInt + ((m : Nat) : Int) = 5 := by rw [(show M66_.1 (4, 0, 0) 5 = M16_.1 (4, 0, 0) 5 by rw [hM67_, up_ne (by simp)])]; exact kf25_
              refine w_aload_n dX4_readSum_47 rfl 2 rfl ?_
              refine w_callVv (as := []) (rest := []) (c_X4_readTerm l G cy ad d N m QA QB M66_ hI68_ hA hB kf70_ kf71_ kf72_ hm) kV_X4_readTerm pnn_16 (Nat.le_of_ble_eq_true rfl) m_700 rfl rfl rfl ic_4 rfl rfl (by decide) (Nat.le_of_ble_eq_true rfl) dX4_readSum_48 (fun M73_ q74_ => ?_)
              obtain ⟨hI76_, hF77_, h75_, hs79_⟩ := q74_
              have hF78_ := hF69_.tr hF77_ (fun c k => (fun h => h.elim (fun h => (Or.inl ⟨h.1, h.2.1, h.2.2⟩)) (fun h => h.elim (fun h => (Or.inr (Or.inl ⟨h.1, h.2.1, h.2.2⟩))) (fun h => h.elim (fun h => (Or.inr (Or.inr (Or.inl ⟨h.1, h.2.1, h.2.2⟩)))) (fun h => h.elim (fun h => (Or.inr (Or.inr (Or.inr (Or.inl ⟨h.1, h.2.1, h.2.2⟩))))) (fun h => h.elim (fun h => (Or.inr (Or.inr (Or.inr (Or.inr (Or.inl ⟨h.1, h.2.1, h.2.2.1, h.2.2.2⟩)))))) (fun h => h.elim (fun h => (Or.inr (Or.inr (Or.inr (Or.inr (Or.inr (Or.inl ⟨h.1, h.2.1, h.2.2⟩))))))) (fun h => h.elim))))))))
              have kf80_ : M73_.1 (4, 0, 0) 1 = 1 := by rw [(hF77_ (4, 0, 0) 1 (by simp [S_reader]))]; exact kf70_
              have kf81_ : M73_.1 (4, 0, 0) 2 = 1 ∨ M73_.1 (4, 0, 0) 2 = 2 ∨ M73_.1 (4, 0, 0) 2 = 3 := by rw [(hF77_ (4, 0, 0) 2 (by simp [S_reader]))]; exact kf71_
              refine w_aload_n dX4_readSum_51 rfl 2 rfl ?_
              refine w_getR (c' := (1, 3, 0)) fl_RX4_10 rfl rfl ic_4 dX4_readSum_52 rfl ?_
              refine w_sipush (v := 2000) dX4_readSum_55 (by decide) ?_
              refine w_iload_n dX4_readSum_58 rfl 0 rfl ?_
              refine w_iaddB dX4_readSum_59 li_2000 (rfl : r15_.toInt = r15_.toInt) (lf_c_X4_readSum_5 r15_ h61_ ) (fun z82_ h83_ => ?_)
              refine w_callVv (as := [vI z82_]) (rest := []) (c_X1_add l G cy ad ((N + d) + 10) 3 0 z82_ M73_ hI76_ (by first | decide | (unfold vF; omega) | (unfold vRw; omega))) kV_X1_add pnn_6 (Nat.le_of_ble_eq_true rfl) m_720 rfl rfl rfl (ic_1 (by unfold vF; omega)) rfl rfl (by decide) (Nat.le_of_ble_eq_true rfl) dX4_readSum_60 (fun M84_ q85_ => ?_)
              obtain ⟨hI87_, hF88_, h86_, hs90_⟩ := q85_
              have hF89_ := hF78_.tr hF88_ (fun c k => (fun h => h.elim (fun h => (Or.inr (Or.inr (Or.inr (Or.inr (Or.inr (Or.inl ⟨h.1, h.2.1, h.2.2⟩))))))) (fun h => h.elim (fun h => (Or.inr (Or.inr (Or.inr (Or.inr (Or.inl ⟨h.1, h.2.1, h.2.2.1, h.2.2.2⟩)))))) (fun h => h.elim))))
              have kf91_ : M84_.1 (4, 0, 0) 1 = 1 := by rw [(hF88_ (4, 0, 0) 1 (by simp [S_c_X1_add]))]; exact kf80_
              have kf92_ : M84_.1 (4, 0, 0) 2 = 1 ∨ M84_.1 (4, 0, 0) 2 = 2 ∨ M84_.1 (4, 0, 0) 2 = 3 := by rw [(hF88_ (4, 0, 0) 2 (by simp [S_c_X1_add]))]; exact kf81_
              have kf93_ : (M84_.1 (4, 0, 0) 5).toInt + ((m : Nat) : Int) = 5 := by rw [(hF88_ (4, 0, 0) 5 (by simp [S_c_X1_add]))]; exact h75_
              refine w_iincB (j := 1) (f := fun z94_ => [(1, vI z94_), (2, vI r15_), (0, vR (4, 0, 0))]) dX4_readSum_63 rfl (by decide) (fun _ => rfl) (rfl : v1_6.toInt = v1_6.toInt) li_1 (lf_c_X1_work_1 v1_6 hv0_6 h11_ ) (fun z94_ h95_ => ?_)
              refine w_goto (tgt := 6) dX4_readSum_66 (by decide) ?_
              refine w_loc (ls' := [(1, vI z94_), (0, vR (4, 0, 0))]) [0, 2] rfl ?_
              exact ih_6 M84_ hI87_ hF89_ z94_ (lf_c_X5_takeFrom_3 v1_6 z94_ hv0_6 h95_ ) (lf_c_X1_work_686 v1_6 z94_ h11_ h95_ ) kf91_ kf92_ kf93_ (RCH.tail hL_6 ⟨hv0_6, hv1_6, hI_6, hF_6, h11_, z12_, e13_, h14_, M16_, hI19_, hF20_, r15_, hs22_, (Or.inr ⟨h26_, h61_, z62_, e63_, z64_, h65_, M66_, hM67_, hI68_, M73_, hI76_, hF77_, hs79_, h75_, z82_, h83_, M84_, hI87_, hF88_, hs90_, z94_, h95_, rfl, rfl⟩)⟩) (Nat.lt_of_lt_of_le (lf_c_X1_work_3 v1_6 z94_ h11_ h95_ ) (Nat.le_of_lt_succ hm_6))
            · exact w_vret rfl dX4_readSum_36 ⟨hI19_, hF21_, kf25_, ⟨M1_, hI4_, hF5_, hs7_, h3_, v1_6, hv0_6, hv1_6, M_6, hL_6, hI_6, hF_6, (Or.inr ⟨h11_, z12_, e13_, (Or.inr ⟨h14_, M16_, hI19_, hF20_, r15_, hs22_, h26_, h61_, rfl⟩)⟩)⟩⟩
  exact lp10_ _ M1_ hI4_ hF6_ 0 (lf_c_X5_takeFrom_5 ) (lf_c_X1_work_705 ) kf8_ kf9_ h3_ RCH.refl (Nat.lt_succ_self _)
def ST_X4_readComparisons_6 (N : Nat) (m : Nat) (QA : mM → mM → Prop) (QB : mM → mM → Prop) (Mz : mM) (v1_6 : Int32) (M_6 : mM) (v1_6y : Int32) (M_6y : mM) : Prop := (0 ≤ v1_6.toInt) ∧ (v1_6.toInt ≤ 48) ∧ (Inv M_6) ∧ (FR (S_reader) Mz M_6) ∧ (v1_6.toInt < 48) ∧ ∃ z12_ : Int32, (z12_ = M_6.1 (4, 0, 0) 4) ∧ (z12_.toInt < 0) ∧ ∃ M16_ : mM, (Inv M16_) ∧ (FR (S_c_X4_next) M_6 M16_) ∧ ∃ r15_ : Int32, (SP_X4_next M_6 r15_ M16_) ∧ (((r15_.toInt = 60) ∧ ∃ z27_ : Int32, (z27_ = M16_.1 (4, 0, 0) 3) ∧ ∃ z29_ : Int32, (z29_ = z27_ + (1 : Int32)) ∧ ∃ M31_ : mM, (M31_ = up M16_ (4, 0, 0) 3 z29_) ∧ (Inv M31_) ∧ ∃ M38_ : mM, (Inv M38_) ∧ (FR (S_reader) M31_ M38_) ∧ (SP_X4_readSum N m QA QB M31_ M38_) ∧ ((M38_.1 (4, 0, 0) 5).toInt + ((m : Nat) : Int) = 5) ∧ ∃ z47_ : Int32, (z47_.toInt = 2000 + r15_.toInt) ∧ ∃ M49_ : mM, (Inv M49_) ∧ (FR (S_c_X1_add 3 0) M38_ M49_) ∧ (SP_X1_add 3 0 z47_ M38_ M49_) ∧ ∃ z59_ : Int32, (z59_.toInt = v1_6.toInt + 1) ∧ v1_6y = z59_ ∧ M_6y = M49_) ∨ ((¬ r15_.toInt = 60) ∧ (((r15_.toInt = 61) ∧ ∃ z62_ : Int32, (z62_ = M16_.1 (4, 0, 0) 3) ∧ ∃ z64_ : Int32, (z64_ = z62_ + (1 : Int32)) ∧ ∃ M66_ : mM, (M66_ = up M16_ (4, 0, 0) 3 z64_) ∧ (Inv M66_) ∧ ∃ M73_ : mM, (Inv M73_) ∧ (FR (S_reader) M66_ M73_) ∧ (SP_X4_readSum N m QA QB M66_ M73_) ∧ ((M73_.1 (4, 0, 0) 5).toInt + ((m : Nat) : Int) = 5) ∧ ∃ z82_ : Int32, (z82_.toInt = 2000 + r15_.toInt) ∧ ∃ M84_ : mM, (Inv M84_) ∧ (FR (S_c_X1_add 3 0) M73_ M84_) ∧ (SP_X1_add 3 0 z82_ M73_ M84_) ∧ ∃ z94_ : Int32, (z94_.toInt = v1_6.toInt + 1) ∧ v1_6y = z94_ ∧ M_6y = M84_) ∨ ((¬ r15_.toInt = 61) ∧ (r15_.toInt = 62) ∧ ∃ z97_ : Int32, (z97_ = M16_.1 (4, 0, 0) 3) ∧ ∃ z99_ : Int32, (z99_ = z97_ + (1 : Int32)) ∧ ∃ M101_ : mM, (M101_ = up M16_ (4, 0, 0) 3 z99_) ∧ (Inv M101_) ∧ ∃ M108_ : mM, (Inv M108_) ∧ (FR (S_reader) M101_ M108_) ∧ (SP_X4_readSum N m QA QB M101_ M108_) ∧ ((M108_.1 (4, 0, 0) 5).toInt + ((m : Nat) : Int) = 5) ∧ ∃ z117_ : Int32, (z117_.toInt = 2000 + r15_.toInt) ∧ ∃ M119_ : mM, (Inv M119_) ∧ (FR (S_c_X1_add 3 0) M108_ M119_) ∧ (SP_X1_add 3 0 z117_ M108_ M119_) ∧ ∃ z129_ : Int32, (z129_.toInt = v1_6.toInt + 1) ∧ v1_6y = z129_ ∧ M_6y = M119_))))
def SP_X4_readComparisons (N : Nat) (m : Nat) (QA : mM → mM → Prop) (QB : mM → mM → Prop) (Mz : mM) (M_ : mM) : Prop := ∃ M1_ : mM, (Inv M1_) ∧ (FR (S_reader) Mz M1_) ∧ (SP_X4_readSum N m QA QB Mz M1_) ∧ ((M1_.1 (4, 0, 0) 5).toInt + ((m : Nat) : Int) = 5) ∧ ∃ v1_6 : Int32, (0 ≤ v1_6.toInt) ∧ (v1_6.toInt ≤ 48) ∧ ∃ M_6 : mM, (RCH (fun x_ y_ => ST_X4_readComparisons_6 N m QA QB Mz x_.1 x_.2 y_.1 y_.2) ((0 : Int32), M1_) (v1_6, M_6)) ∧ (Inv M_6) ∧ (FR (S_reader) Mz M_6) ∧ (((48 ≤ v1_6.toInt) ∧ M_ = M_6) ∨ ((v1_6.toInt < 48) ∧ ∃ z12_ : Int32, (z12_ = M_6.1 (4, 0, 0) 4) ∧ (((0 ≤ z12_.toInt) ∧ M_ = M_6) ∨ ((z12_.toInt < 0) ∧ ∃ M16_ : mM, (Inv M16_) ∧ (FR (S_c_X4_next) M_6 M16_) ∧ ∃ r15_ : Int32, (SP_X4_next M_6 r15_ M16_) ∧ (¬ r15_.toInt = 60) ∧ (¬ r15_.toInt = 61) ∧ (¬ r15_.toInt = 62) ∧ M_ = M16_))))
theorem lf_c_X4_readComparisons_0 (r15_ : Int32) (h26_ : r15_.toInt = 60) : -2147483648 ≤ 2000 + r15_.toInt ∧ 2000 + r15_.toInt < 2147483648 := by omega
theorem lf_c_X4_readComparisons_5 (r15_ : Int32) (h61_ : r15_.toInt = 61) : -2147483648 ≤ 2000 + r15_.toInt ∧ 2000 + r15_.toInt < 2147483648 := by omega
theorem lf_c_X4_readComparisons_10 (r15_ : Int32) (h96_ : r15_.toInt = 62) : -2147483648 ≤ 2000 + r15_.toInt ∧ 2000 + r15_.toInt < 2147483648 := by omega
set_option maxHeartbeats 4000000 in
set_option maxRecDepth 100000 in
theorem c_X4_readComparisons (l : Launch) (G : va_G) (cy : Nat → ClassId) (ad : rf → Nat) (d : Nat) (N : Nat) (m : Nat) (QA : mM → mM → Prop) (QB : mM → mM → Prop) (Mz : mM) (hIz : Inv Mz) (hA : ∀ k : Nat, k + 1 = m → ONEC l G cy ad N k QA) (hB : ∀ k : Nat, k + 1 = m → CMPC l G cy ad N k QB) (hT : Mz.1 (4, 0, 0) 1 = 1) (hN : Mz.1 (4, 0, 0) 2 = 1 ∨ Mz.1 (4, 0, 0) 2 = 2 ∨ Mz.1 (4, 0, 0) 2 = 3) (hk : (Mz.1 (4, 0, 0) 5).toInt + ((m : Nat) : Int) = 5) (hm : m ≤ 5) : WP CC l G cy ad yX4_readComparisons cX4_readComparisons 3 none ((N + d) + 12) 0 [(0, vR (4, 0, 0))] [] Mz (fun r M' => Inv M' ∧ FR (S_reader) Mz M' ∧ ((M'.1 (4, 0, 0) 5).toInt + ((m : Nat) : Int) = 5) ∧ SP_X4_readComparisons N m QA QB Mz M') := by
  have hFz : FR (S_reader) Mz Mz := FR.self
  refine w_aload_n dX4_readComparisons_0 rfl 0 rfl ?_
  refine w_callVv (as := []) (rest := []) (c_X4_readSum l G cy ad d N m QA QB Mz hIz hA hB hT hN hk hm) kV_X4_readSum pnn_16 (Nat.le_of_ble_eq_true rfl) m_696 rfl rfl rfl ic_4 rfl rfl (by decide) (Nat.le_of_ble_eq_true rfl) dX4_readComparisons_1 (fun M1_ q2_ => ?_)
  obtain ⟨hI4_, hF5_, h3_, hs7_⟩ := q2_
  have hF6_ := hFz.tr hF5_ (fun c k => (fun h => h.elim (fun h => (Or.inl ⟨h.1, h.2.1, h.2.2⟩)) (fun h => h.elim (fun h => (Or.inr (Or.inl ⟨h.1, h.2.1, h.2.2⟩))) (fun h => h.elim (fun h => (Or.inr (Or.inr (Or.inl ⟨h.1, h.2.1, h.2.2⟩)))) (fun h => h.elim (fun h => (Or.inr (Or.inr (Or.inr (Or.inl ⟨h.1, h.2.1, h.2.2⟩))))) (fun h => h.elim (fun h => (Or.inr (Or.inr (Or.inr (Or.inr (Or.inl ⟨h.1, h.2.1, h.2.2.1, h.2.2.2⟩)))))) (fun h => h.elim (fun h => (Or.inr (Or.inr (Or.inr (Or.inr (Or.inr (Or.inl ⟨h.1, h.2.1, h.2.2⟩))))))) (fun h => h.elim))))))))
  have kf8_ : M1_.1 (4, 0, 0) 1 = 1 := by rw [(hF5_ (4, 0, 0) 1 (by simp [S_reader]))]; exact hT
  have kf9_ : M1_.1 (4, 0, 0) 2 = 1 ∨ M1_.1 (4, 0, 0) 2 = 2 ∨ M1_.1 (4, 0, 0) 2 = 3 := by rw [(hF5_ (4, 0, 0) 2 (by simp [S_reader]))]; exact hN
  refine w_iconst (v := 0) dX4_readComparisons_4 (by decide) ?_
  refine w_istore_n (ls' := [(1, vI 0), (0, vR (4, 0, 0))]) dX4_readComparisons_5 rfl (by decide) rfl ?_
  have lp10_ : ∀ (nn_6 : Nat) (M_6 : mM) (hI_6 : Inv M_6) (hF_6 : FR (S_reader) Mz M_6) (v1_6 : Int32) (hv0_6 : 0 ≤ v1_6.toInt) (hv1_6 : v1_6.toInt ≤ 48) (kv0_6 : M_6.1 (4, 0, 0) 1 = 1) (kv1_6 : M_6.1 (4, 0, 0) 2 = 1 ∨ M_6.1 (4, 0, 0) 2 = 2 ∨ M_6.1 (4, 0, 0) 2 = 3) (kv2_6 : (M_6.1 (4, 0, 0) 5).toInt + ((m : Nat) : Int) = 5) (hL_6 : RCH (fun x_ y_ => ST_X4_readComparisons_6 N m QA QB Mz x_.1 x_.2 y_.1 y_.2) ((0 : Int32), M1_) (v1_6, M_6)), (2147483648 - v1_6.toInt).toNat < nn_6 → WP CC l G cy ad yX4_readComparisons cX4_readComparisons 3 none ((N + d) + 12) 6 [(1, vI v1_6), (0, vR (4, 0, 0))] [] M_6 (fun r M' => Inv M' ∧ FR (S_reader) Mz M' ∧ ((M'.1 (4, 0, 0) 5).toInt + ((m : Nat) : Int) = 5) ∧ SP_X4_readComparisons N m QA QB Mz M') := by
    intro nn_6
    induction nn_6 with
    | zero => intro M_6 hI_6 hF_6 v1_6 hv0_6 hv1_6 kv0_6 kv1_6 kv2_6 hL_6 hm_6; exact absurd hm_6 (Nat.not_lt_zero _)
    | succ nn_6 ih_6 =>
      intro M_6 hI_6 hF_6 v1_6 hv0_6 hv1_6 kv0_6 kv1_6 kv2_6 hL_6 hm_6
      refine w_iload_n dX4_readComparisons_6 rfl 0 rfl ?_
      refine w_bipush (v := 48) dX4_readComparisons_7 (by decide) ?_
      refine w_icmp_ge (tgt := 75) dX4_readComparisons_9 (by decide) (rfl : v1_6.toInt = v1_6.toInt) li_48 (fun h11_ => ?_) (fun h11_ => ?_)
      · exact w_vret rfl dX4_readComparisons_75 ⟨hI_6, hF_6, kv2_6, ⟨M1_, hI4_, hF5_, hs7_, h3_, v1_6, hv0_6, hv1_6, M_6, hL_6, hI_6, hF_6, (Or.inl ⟨h11_, rfl⟩)⟩⟩
      · refine w_aload_n dX4_readComparisons_12 rfl 1 rfl ?_
        refine w_getI fl_RX4_35 rfl rfl ic_4 dX4_readComparisons_13 (fun z12_ e13_ => ?_)
        refine w_if_ge (tgt := 75) dX4_readComparisons_16 (by decide) (rfl : z12_.toInt = z12_.toInt) (fun h14_ => ?_) (fun h14_ => ?_)
        · exact w_vret rfl dX4_readComparisons_75 ⟨hI_6, hF_6, kv2_6, ⟨M1_, hI4_, hF5_, hs7_, h3_, v1_6, hv0_6, hv1_6, M_6, hL_6, hI_6, hF_6, (Or.inr ⟨h11_, z12_, e13_, (Or.inl ⟨h14_, rfl⟩)⟩)⟩⟩
        · refine w_aload_n dX4_readComparisons_19 rfl 1 rfl ?_
          refine w_callV (as := []) (rest := []) (c_X4_next l G cy ad ((N + d) + 10) M_6 hI_6 kv0_6) kV_X4_next pnn_16 (Nat.le_of_ble_eq_true rfl) m_708 rfl rfl rfl ic_4 rfl rfl (by decide) (Nat.le_of_ble_eq_true rfl) dX4_readComparisons_20 (fun r15_ M16_ q17_ => ?_)
          obtain ⟨hI19_, hF20_, h18_, hs22_⟩ := q17_
          have hF21_ := hF_6.tr hF20_ (fun c k => (fun h => h.elim (fun h => (Or.inl ⟨h.1, h.2.1, h.2.2⟩)) (fun h => h.elim)))
          have kf23_ : M16_.1 (4, 0, 0) 1 = 1 := by rw [(hF20_ (4, 0, 0) 1 (by simp [S_c_X4_next]))]; exact kv0_6
          have kf24_ : M16_.1 (4, 0, 0) 2 = 1 ∨ M16_.1 (4, 0, 0) 2 = 2 ∨ M16_.1 (4, 0, 0) 2 = 3 := by rw [(hF20_ (4, 0, 0) 2 (by simp [S_c_X4_next]))]; exact kv1_6
          have kf25_ : (M16_.1 (4, 0, 0) 5).toInt + ((m : Nat) : Int) = 5 := by rw [(hF20_ (4, 0, 0) 5 (by simp [S_c_X4_next]))]; exact kv2_6
          refine w_istore_n (ls' := [(2, vI r15_), (1, vI v1_6), (0, vR (4, 0, 0))]) dX4_readComparisons_23 rfl (by decide) rfl ?_
          refine w_iload_n dX4_readComparisons_24 rfl 0 rfl ?_
          refine w_bipush (v := 60) dX4_readComparisons_25 (by decide) ?_
          refine w_icmp_eq (tgt := 43) dX4_readComparisons_27 (by decide) (rfl : r15_.toInt = r15_.toInt) li_60 (fun h26_ => ?_) (fun h26_ => ?_)
          · refine w_aload_n dX4_readComparisons_43 rfl 2 rfl ?_
            refine w_dup dX4_readComparisons_44 rfl ?_
            refine w_getI fl_RX4_31 rfl rfl ic_4 dX4_readComparisons_45 (fun z27_ e28_ => ?_)
            refine w_iconst (v := 1) dX4_readComparisons_48 (by decide) ?_
            refine w_iadd dX4_readComparisons_49 (fun z29_ h30_ => ?_)
            refine w_putI CC_nd fl_RX4_31 rfl rfl ic_4 dX4_readComparisons_50 (fun M31_ hM32_ => ?_)
            have hI33_ := hI19_.put hM32_ trivial
            have hF34_ := hF21_.put hM32_ (Or.inl ⟨rfl, rfl, rfl⟩)
            have kf35_ : M31_.1 (4, 0, 0) 1 = 1 := by rw [(show M31_.1 (4, 0, 0) 1 = M16_.1 (4, 0, 0) 1 by rw [hM32_, up_ne (by simp)])]; exact kf23_
            have kf36_ : M31_.1 (4, 0, 0) 2 = 1 ∨ M31_.1 (4, 0, 0) 2 = 2 ∨ M31_.1 (4, 0, 0) 2 = 3 := by rw [(show M31_.1 (4, 0, 0) 2 = M16_.1 (4, 0, 0) 2 by rw [hM32_, up_ne (by simp)])]; exact kf24_
            have kf37_ : (M31_.1 (4, 0, 0) 5).toInt + ((m : Nat) : Int) = 5 := by rw [(show M31_.1 (4, 0, 0) 5 = M16_.1 (4, 0, 0) 5 by rw [hM32_, up_ne (by simp)])]; exact kf25_
            refine w_aload_n dX4_readComparisons_53 rfl 2 rfl ?_
            refine w_callVv (as := []) (rest := []) (c_X4_readSum l G cy ad d N m QA QB M31_ hI33_ hA hB kf35_ kf36_ kf37_ hm) kV_X4_readSum pnn_16 (Nat.le_of_ble_eq_true rfl) m_696 rfl rfl rfl ic_4 rfl rfl (by decide) (Nat.le_of_ble_eq_true rfl) dX4_readComparisons_54 (fun M38_ q39_ => ?_)
            obtain ⟨hI41_, hF42_, h40_, hs44_⟩ := q39_
            have hF43_ := hF34_.tr hF42_ (fun c k => (fun h => h.elim (fun h => (Or.inl ⟨h.1, h.2.1, h.2.2⟩)) (fun h => h.elim (fun h => (Or.inr (Or.inl ⟨h.1, h.2.1, h.2.2⟩))) (fun h => h.elim (fun h => (Or.inr (Or.inr (Or.inl ⟨h.1, h.2.1, h.2.2⟩)))) (fun h => h.elim (fun h => (Or.inr (Or.inr (Or.inr (Or.inl ⟨h.1, h.2.1, h.2.2⟩))))) (fun h => h.elim (fun h => (Or.inr (Or.inr (Or.inr (Or.inr (Or.inl ⟨h.1, h.2.1, h.2.2.1, h.2.2.2⟩)))))) (fun h => h.elim (fun h => (Or.inr (Or.inr (Or.inr (Or.inr (Or.inr (Or.inl ⟨h.1, h.2.1, h.2.2⟩))))))) (fun h => h.elim))))))))
            have kf45_ : M38_.1 (4, 0, 0) 1 = 1 := by rw [(hF42_ (4, 0, 0) 1 (by simp [S_reader]))]; exact kf35_
            have kf46_ : M38_.1 (4, 0, 0) 2 = 1 ∨ M38_.1 (4, 0, 0) 2 = 2 ∨ M38_.1 (4, 0, 0) 2 = 3 := by rw [(hF42_ (4, 0, 0) 2 (by simp [S_reader]))]; exact kf36_
            refine w_aload_n dX4_readComparisons_57 rfl 2 rfl ?_
            refine w_getR (c' := (1, 3, 0)) fl_RX4_10 rfl rfl ic_4 dX4_readComparisons_58 rfl ?_
            refine w_sipush (v := 2000) dX4_readComparisons_61 (by decide) ?_
            refine w_iload_n dX4_readComparisons_64 rfl 0 rfl ?_
            refine w_iaddB dX4_readComparisons_65 li_2000 (rfl : r15_.toInt = r15_.toInt) (lf_c_X4_readComparisons_0 r15_ h26_ ) (fun z47_ h48_ => ?_)
            refine w_callVv (as := [vI z47_]) (rest := []) (c_X1_add l G cy ad ((N + d) + 11) 3 0 z47_ M38_ hI41_ (by first | decide | (unfold vF; omega) | (unfold vRw; omega))) kV_X1_add pnn_6 (Nat.le_of_ble_eq_true rfl) m_720 rfl rfl rfl (ic_1 (by unfold vF; omega)) rfl rfl (by decide) (Nat.le_of_ble_eq_true rfl) dX4_readComparisons_66 (fun M49_ q50_ => ?_)
            obtain ⟨hI52_, hF53_, h51_, hs55_⟩ := q50_
            have hF54_ := hF43_.tr hF53_ (fun c k => (fun h => h.elim (fun h => (Or.inr (Or.inr (Or.inr (Or.inr (Or.inr (Or.inl ⟨h.1, h.2.1, h.2.2⟩))))))) (fun h => h.elim (fun h => (Or.inr (Or.inr (Or.inr (Or.inr (Or.inl ⟨h.1, h.2.1, h.2.2.1, h.2.2.2⟩)))))) (fun h => h.elim))))
            have kf56_ : M49_.1 (4, 0, 0) 1 = 1 := by rw [(hF53_ (4, 0, 0) 1 (by simp [S_c_X1_add]))]; exact kf45_
            have kf57_ : M49_.1 (4, 0, 0) 2 = 1 ∨ M49_.1 (4, 0, 0) 2 = 2 ∨ M49_.1 (4, 0, 0) 2 = 3 := by rw [(hF53_ (4, 0, 0) 2 (by simp [S_c_X1_add]))]; exact kf46_
            have kf58_ : (M49_.1 (4, 0, 0) 5).toInt + ((m : Nat) : Int) = 5 := by rw [(hF53_ (4, 0, 0) 5 (by simp [S_c_X1_add]))]; exact h40_
            refine w_iincB (j := 1) (f := fun z59_ => [(1, vI z59_), (2, vI r15_), (0, vR (4, 0, 0))]) dX4_readComparisons_69 rfl (by decide) (fun _ => rfl) (rfl : v1_6.toInt = v1_6.toInt) li_1 (lf_c_X1_work_1 v1_6 hv0_6 h11_ ) (fun z59_ h60_ => ?_)
            refine w_goto (tgt := 6) dX4_readComparisons_72 (by decide) ?_
            refine w_loc (ls' := [(1, vI z59_), (0, vR (4, 0, 0))]) [0, 2] rfl ?_
            exact ih_6 M49_ hI52_ hF54_ z59_ (lf_c_X5_takeFrom_3 v1_6 z59_ hv0_6 h60_ ) (lf_c_X1_work_686 v1_6 z59_ h11_ h60_ ) kf56_ kf57_ kf58_ (RCH.tail hL_6 ⟨hv0_6, hv1_6, hI_6, hF_6, h11_, z12_, e13_, h14_, M16_, hI19_, hF20_, r15_, hs22_, (Or.inl ⟨h26_, z27_, e28_, z29_, h30_, M31_, hM32_, hI33_, M38_, hI41_, hF42_, hs44_, h40_, z47_, h48_, M49_, hI52_, hF53_, hs55_, z59_, h60_, rfl, rfl⟩)⟩) (Nat.lt_of_lt_of_le (lf_c_X1_work_3 v1_6 z59_ h11_ h60_ ) (Nat.le_of_lt_succ hm_6))
          · refine w_iload_n dX4_readComparisons_30 rfl 0 rfl ?_
            refine w_bipush (v := 61) dX4_readComparisons_31 (by decide) ?_
            refine w_icmp_eq (tgt := 43) dX4_readComparisons_33 (by decide) (rfl : r15_.toInt = r15_.toInt) li_61 (fun h61_ => ?_) (fun h61_ => ?_)
            · refine w_aload_n dX4_readComparisons_43 rfl 2 rfl ?_
              refine w_dup dX4_readComparisons_44 rfl ?_
              refine w_getI fl_RX4_31 rfl rfl ic_4 dX4_readComparisons_45 (fun z62_ e63_ => ?_)
              refine w_iconst (v := 1) dX4_readComparisons_48 (by decide) ?_
              refine w_iadd dX4_readComparisons_49 (fun z64_ h65_ => ?_)
              refine w_putI CC_nd fl_RX4_31 rfl rfl ic_4 dX4_readComparisons_50 (fun M66_ hM67_ => ?_)
              have hI68_ := hI19_.put hM67_ trivial
              have hF69_ := hF21_.put hM67_ (Or.inl ⟨rfl, rfl, rfl⟩)
              have kf70_ : M66_.1 (4, 0, 0) 1 = 1 := by rw [(show M66_.1 (4, 0, 0) 1 = M16_.1 (4, 0, 0) 1 by rw [hM67_, up_ne (by simp)])]; exact kf23_
              have kf71_ : M66_.1 (4, 0, 0) 2 = 1 ∨ M66_.1 (4, 0, 0) 2 = 2 ∨ M66_.1 (4, 0, 0) 2 = 3 := by rw [(show M66_.1 (4, 0, 0) 2 = M16_.1 (4, 0, 0) 2 by rw [hM67_, up_ne (by simp)])]; exact kf24_
              have kf72_ : (M66_.1 (4, 0, 0) 5).toInt + ((m : Nat) : Int) = 5 := by rw [(show M66_.1 (4, 0, 0) 5 = M16_.1 (4, 0, 0) 5 by rw [hM67_, up_ne (by simp)])]; exact kf25_
              refine w_aload_n dX4_readComparisons_53 rfl 2 rfl ?_
              refine w_callVv (as := []) (rest := []) (c_X4_readSum l G cy ad d N m QA QB M66_ hI68_ hA hB kf70_ kf71_ kf72_ hm) kV_X4_readSum pnn_16 (Nat.le_of_ble_eq_true rfl) m_696 rfl rfl rfl ic_4 rfl rfl (by decide) (Nat.le_of_ble_eq_true rfl) dX4_readComparisons_54 (fun M73_ q74_ => ?_)
              obtain ⟨hI76_, hF77_, h75_, hs79_⟩ := q74_
              have hF78_ := hF69_.tr hF77_ (fun c k => (fun h => h.elim (fun h => (Or.inl ⟨h.1, h.2.1, h.2.2⟩)) (fun h => h.elim (fun h => (Or.inr (Or.inl ⟨h.1, h.2.1, h.2.2⟩))) (fun h => h.elim (fun h => (Or.inr (Or.inr (Or.inl ⟨h.1, h.2.1, h.2.2⟩)))) (fun h => h.elim (fun h => (Or.inr (Or.inr (Or.inr (Or.inl ⟨h.1, h.2.1, h.2.2⟩))))) (fun h => h.elim (fun h => (Or.inr (Or.inr (Or.inr (Or.inr (Or.inl ⟨h.1, h.2.1, h.2.2.1, h.2.2.2⟩)))))) (fun h => h.elim (fun h => (Or.inr (Or.inr (Or.inr (Or.inr (Or.inr (Or.inl ⟨h.1, h.2.1, h.2.2⟩))))))) (fun h => h.elim))))))))
              have kf80_ : M73_.1 (4, 0, 0) 1 = 1 := by rw [(hF77_ (4, 0, 0) 1 (by simp [S_reader]))]; exact kf70_
              have kf81_ : M73_.1 (4, 0, 0) 2 = 1 ∨ M73_.1 (4, 0, 0) 2 = 2 ∨ M73_.1 (4, 0, 0) 2 = 3 := by rw [(hF77_ (4, 0, 0) 2 (by simp [S_reader]))]; exact kf71_
              refine w_aload_n dX4_readComparisons_57 rfl 2 rfl ?_
              refine w_getR (c' := (1, 3, 0)) fl_RX4_10 rfl rfl ic_4 dX4_readComparisons_58 rfl ?_
              refine w_sipush (v := 2000) dX4_readComparisons_61 (by decide) ?_
              refine w_iload_n dX4_readComparisons_64 rfl 0 rfl ?_
              refine w_iaddB dX4_readComparisons_65 li_2000 (rfl : r15_.toInt = r15_.toInt) (lf_c_X4_readComparisons_5 r15_ h61_ ) (fun z82_ h83_ => ?_)
              refine w_callVv (as := [vI z82_]) (rest := []) (c_X1_add l G cy ad ((N + d) + 11) 3 0 z82_ M73_ hI76_ (by first | decide | (unfold vF; omega) | (unfold vRw; omega))) kV_X1_add pnn_6 (Nat.le_of_ble_eq_true rfl) m_720 rfl rfl rfl (ic_1 (by unfold vF; omega)) rfl rfl (by decide) (Nat.le_of_ble_eq_true rfl) dX4_readComparisons_66 (fun M84_ q85_ => ?_)
              obtain ⟨hI87_, hF88_, h86_, hs90_⟩ := q85_
              have hF89_ := hF78_.tr hF88_ (fun c k => (fun h => h.elim (fun h => (Or.inr (Or.inr (Or.inr (Or.inr (Or.inr (Or.inl ⟨h.1, h.2.1, h.2.2⟩))))))) (fun h => h.elim (fun h => (Or.inr (Or.inr (Or.inr (Or.inr (Or.inl ⟨h.1, h.2.1, h.2.2.1, h.2.2.2⟩)))))) (fun h => h.elim))))
              have kf91_ : M84_.1 (4, 0, 0) 1 = 1 := by rw [(hF88_ (4, 0, 0) 1 (by simp [S_c_X1_add]))]; exact kf80_
              have kf92_ : M84_.1 (4, 0, 0) 2 = 1 ∨ M84_.1 (4, 0, 0) 2 = 2 ∨ M84_.1 (4, 0, 0) 2 = 3 := by rw [(hF88_ (4, 0, 0) 2 (by simp [S_c_X1_add]))]; exact kf81_
              have kf93_ : (M84_.1 (4, 0, 0) 5).toInt + ((m : Nat) : Int) = 5 := by rw [(hF88_ (4, 0, 0) 5 (by simp [S_c_X1_add]))]; exact h75_
              refine w_iincB (j := 1) (f := fun z94_ => [(1, vI z94_), (2, vI r15_), (0, vR (4, 0, 0))]) dX4_readComparisons_69 rfl (by decide) (fun _ => rfl) (rfl : v1_6.toInt = v1_6.toInt) li_1 (lf_c_X1_work_1 v1_6 hv0_6 h11_ ) (fun z94_ h95_ => ?_)
              refine w_goto (tgt := 6) dX4_readComparisons_72 (by decide) ?_
              refine w_loc (ls' := [(1, vI z94_), (0, vR (4, 0, 0))]) [0, 2] rfl ?_
              exact ih_6 M84_ hI87_ hF89_ z94_ (lf_c_X5_takeFrom_3 v1_6 z94_ hv0_6 h95_ ) (lf_c_X1_work_686 v1_6 z94_ h11_ h95_ ) kf91_ kf92_ kf93_ (RCH.tail hL_6 ⟨hv0_6, hv1_6, hI_6, hF_6, h11_, z12_, e13_, h14_, M16_, hI19_, hF20_, r15_, hs22_, (Or.inr ⟨h26_, (Or.inl ⟨h61_, z62_, e63_, z64_, h65_, M66_, hM67_, hI68_, M73_, hI76_, hF77_, hs79_, h75_, z82_, h83_, M84_, hI87_, hF88_, hs90_, z94_, h95_, rfl, rfl⟩)⟩)⟩) (Nat.lt_of_lt_of_le (lf_c_X1_work_3 v1_6 z94_ h11_ h95_ ) (Nat.le_of_lt_succ hm_6))
            · refine w_iload_n dX4_readComparisons_36 rfl 0 rfl ?_
              refine w_bipush (v := 62) dX4_readComparisons_37 (by decide) ?_
              refine w_icmp_eq (tgt := 43) dX4_readComparisons_39 (by decide) (rfl : r15_.toInt = r15_.toInt) li_62 (fun h96_ => ?_) (fun h96_ => ?_)
              · refine w_aload_n dX4_readComparisons_43 rfl 2 rfl ?_
                refine w_dup dX4_readComparisons_44 rfl ?_
                refine w_getI fl_RX4_31 rfl rfl ic_4 dX4_readComparisons_45 (fun z97_ e98_ => ?_)
                refine w_iconst (v := 1) dX4_readComparisons_48 (by decide) ?_
                refine w_iadd dX4_readComparisons_49 (fun z99_ h100_ => ?_)
                refine w_putI CC_nd fl_RX4_31 rfl rfl ic_4 dX4_readComparisons_50 (fun M101_ hM102_ => ?_)
                have hI103_ := hI19_.put hM102_ trivial
                have hF104_ := hF21_.put hM102_ (Or.inl ⟨rfl, rfl, rfl⟩)
                have kf105_ : M101_.1 (4, 0, 0) 1 = 1 := by rw [(show M101_.1 (4, 0, 0) 1 = M16_.1 (4, 0, 0) 1 by rw [hM102_, up_ne (by simp)])]; exact kf23_
                have kf106_ : M101_.1 (4, 0, 0) 2 = 1 ∨ M101_.1 (4, 0, 0) 2 = 2 ∨ M101_.1 (4, 0, 0) 2 = 3 := by rw [(show M101_.1 (4, 0, 0) 2 = M16_.1 (4, 0, 0) 2 by rw [hM102_, up_ne (by simp)])]; exact kf24_
                have kf107_ : (M101_.1 (4, 0, 0) 5).toInt + ((m : Nat) : Int) = 5 := by rw [(show M101_.1 (4, 0, 0) 5 = M16_.1 (4, 0, 0) 5 by rw [hM102_, up_ne (by simp)])]; exact kf25_
                refine w_aload_n dX4_readComparisons_53 rfl 2 rfl ?_
                refine w_callVv (as := []) (rest := []) (c_X4_readSum l G cy ad d N m QA QB M101_ hI103_ hA hB kf105_ kf106_ kf107_ hm) kV_X4_readSum pnn_16 (Nat.le_of_ble_eq_true rfl) m_696 rfl rfl rfl ic_4 rfl rfl (by decide) (Nat.le_of_ble_eq_true rfl) dX4_readComparisons_54 (fun M108_ q109_ => ?_)
                obtain ⟨hI111_, hF112_, h110_, hs114_⟩ := q109_
                have hF113_ := hF104_.tr hF112_ (fun c k => (fun h => h.elim (fun h => (Or.inl ⟨h.1, h.2.1, h.2.2⟩)) (fun h => h.elim (fun h => (Or.inr (Or.inl ⟨h.1, h.2.1, h.2.2⟩))) (fun h => h.elim (fun h => (Or.inr (Or.inr (Or.inl ⟨h.1, h.2.1, h.2.2⟩)))) (fun h => h.elim (fun h => (Or.inr (Or.inr (Or.inr (Or.inl ⟨h.1, h.2.1, h.2.2⟩))))) (fun h => h.elim (fun h => (Or.inr (Or.inr (Or.inr (Or.inr (Or.inl ⟨h.1, h.2.1, h.2.2.1, h.2.2.2⟩)))))) (fun h => h.elim (fun h => (Or.inr (Or.inr (Or.inr (Or.inr (Or.inr (Or.inl ⟨h.1, h.2.1, h.2.2⟩))))))) (fun h => h.elim))))))))
                have kf115_ : M108_.1 (4, 0, 0) 1 = 1 := by rw [(hF112_ (4, 0, 0) 1 (by simp [S_reader]))]; exact kf105_
                have kf116_ : M108_.1 (4, 0, 0) 2 = 1 ∨ M108_.1 (4, 0, 0) 2 = 2 ∨ M108_.1 (4, 0, 0) 2 = 3 := by rw [(hF112_ (4, 0, 0) 2 (by simp [S_reader]))]; exact kf106_
                refine w_aload_n dX4_readComparisons_57 rfl 2 rfl ?_
                refine w_getR (c' := (1, 3, 0)) fl_RX4_10 rfl rfl ic_4 dX4_readComparisons_58 rfl ?_
                refine w_sipush (v := 2000) dX4_readComparisons_61 (by decide) ?_
                refine w_iload_n dX4_readComparisons_64 rfl 0 rfl ?_
                refine w_iaddB dX4_readComparisons_65 li_2000 (rfl : r15_.toInt = r15_.toInt) (lf_c_X4_readComparisons_10 r15_ h96_ ) (fun z117_ h118_ => ?_)
                refine w_callVv (as := [vI z117_]) (rest := []) (c_X1_add l G cy ad ((N + d) + 11) 3 0 z117_ M108_ hI111_ (by first | decide | (unfold vF; omega) | (unfold vRw; omega))) kV_X1_add pnn_6 (Nat.le_of_ble_eq_true rfl) m_720 rfl rfl rfl (ic_1 (by unfold vF; omega)) rfl rfl (by decide) (Nat.le_of_ble_eq_true rfl) dX4_readComparisons_66 (fun M119_ q120_ => ?_)
                obtain ⟨hI122_, hF123_, h121_, hs125_⟩ := q120_
                have hF124_ := hF113_.tr hF123_ (fun c k => (fun h => h.elim (fun h => (Or.inr (Or.inr (Or.inr (Or.inr (Or.inr (Or.inl ⟨h.1, h.2.1, h.2.2⟩))))))) (fun h => h.elim (fun h => (Or.inr (Or.inr (Or.inr (Or.inr (Or.inl ⟨h.1, h.2.1, h.2.2.1, h.2.2.2⟩)))))) (fun h => h.elim))))
                have kf126_ : M119_.1 (4, 0, 0) 1 = 1 := by rw [(hF123_ (4, 0, 0) 1 (by simp [S_c_X1_add]))]; exact kf115_
                have kf127_ : M119_.1 (4, 0, 0) 2 = 1 ∨ M119_.1 (4, 0, 0) 2 = 2 ∨ M119_.1 (4, 0, 0) 2 = 3 := by rw [(hF123_ (4, 0, 0) 2 (by simp [S_c_X1_add]))]; exact kf116_
                have kf128_ : (M119_.1 (4, 0, 0) 5).toInt + ((m : Nat) : Int) = 5 := by rw [(hF123_ (4, 0, 0) 5 (by simp [S_c_X1_add]))]; exact h110_
                refine w_iincB (j := 1) (f := fun z129_ => [(1, vI z129_), (2, vI r15_), (0, vR (4, 0, 0))]) dX4_readComparisons_69 rfl (by decide) (fun _ => rfl) (rfl : v1_6.toInt = v1_6.toInt) li_1 (lf_c_X1_work_1 v1_6 hv0_6 h11_ ) (fun z129_ h130_ => ?_)
                refine w_goto (tgt := 6) dX4_readComparisons_72 (by decide) ?_
                refine w_loc (ls' := [(1, vI z129_), (0, vR (4, 0, 0))]) [0, 2] rfl ?_
                exact ih_6 M119_ hI122_ hF124_ z129_ (lf_c_X5_takeFrom_3 v1_6 z129_ hv0_6 h130_ ) (lf_c_X1_work_686 v1_6 z129_ h11_ h130_ ) kf126_ kf127_ kf128_ (RCH.tail hL_6 ⟨hv0_6, hv1_6, hI_6, hF_6, h11_, z12_, e13_, h14_, M16_, hI19_, hF20_, r15_, hs22_, (Or.inr ⟨h26_, (Or.inr ⟨h61_, h96_, z97_, e98_, z99_, h100_, M101_, hM102_, hI103_, M108_, hI111_, hF112_, hs114_, h110_, z117_, h118_, M119_, hI122_, hF123_, hs125_, z129_, h130_, rfl, rfl⟩)⟩)⟩) (Nat.lt_of_lt_of_le (lf_c_X1_work_3 v1_6 z129_ h11_ h130_ ) (Nat.le_of_lt_succ hm_6))
              · exact w_vret rfl dX4_readComparisons_42 ⟨hI19_, hF21_, kf25_, ⟨M1_, hI4_, hF5_, hs7_, h3_, v1_6, hv0_6, hv1_6, M_6, hL_6, hI_6, hF_6, (Or.inr ⟨h11_, z12_, e13_, (Or.inr ⟨h14_, M16_, hI19_, hF20_, r15_, hs22_, h26_, h61_, h96_, rfl⟩)⟩)⟩⟩
  exact lp10_ _ M1_ hI4_ hF6_ 0 (lf_c_X5_takeFrom_5 ) (lf_c_X1_work_705 ) kf8_ kf9_ h3_ RCH.refl (Nat.lt_succ_self _)
def SPRp : Nat → (mM → mM → Prop) × (mM → mM → Prop)
  | 0 => (SP_X4_readOne 0 0 (fun _ _ => False) (fun _ _ => False), SP_X4_readComparisons 0 0 (fun _ _ => False) (fun _ _ => False))
  | m + 1 => (SP_X4_readOne (12 * m + 12) (m + 1) (SPRp m).1 (SPRp m).2, SP_X4_readComparisons (12 * m + 12) (m + 1) (SPRp m).1 (SPRp m).2)
theorem reader_rec (l : Launch) (G : va_G) (cy : Nat → ClassId) (ad : rf → Nat) : ∀ m, ONEC l G cy ad (12 * m + 12) m (SPRp m).1 ∧ CMPC l G cy ad (12 * m + 12) m (SPRp m).2 := by
  intro m
  induction m with
  | zero => exact ⟨fun d Mz hIz hT hN hk hm => w_dep (by omega) (c_X4_readOne l G cy ad (d + 3) 0 0 (fun _ _ => False) (fun _ _ => False) Mz hIz (fun k q => absurd q (by omega)) (fun k q => absurd q (by omega)) hT hN hk hm), fun d Mz hIz hT hN hk hm => w_dep (by omega) (c_X4_readComparisons l G cy ad d 0 0 (fun _ _ => False) (fun _ _ => False) Mz hIz (fun k q => absurd q (by omega)) (fun k q => absurd q (by omega)) hT hN hk hm)⟩
  | succ m ih =>
    have h1 : ∀ k : Nat, k + 1 = m + 1 → ONEC l G cy ad (12 * m + 12) k (SPRp m).1 := fun k q => by
      obtain rfl : k = m := by omega
      exact ih.1
    have h2 : ∀ k : Nat, k + 1 = m + 1 → CMPC l G cy ad (12 * m + 12) k (SPRp m).2 := fun k q => by
      obtain rfl : k = m := by omega
      exact ih.2
    exact ⟨fun d Mz hIz hT hN hk hm => w_dep (by omega) (c_X4_readOne l G cy ad (d + 3) (12 * m + 12) (m + 1) (SPRp m).1 (SPRp m).2 Mz hIz h1 h2 hT hN hk hm), fun d Mz hIz hT hN hk hm => w_dep (by omega) (c_X4_readComparisons l G cy ad d (12 * m + 12) (m + 1) (SPRp m).1 (SPRp m).2 Mz hIz h1 h2 hT hN hk hm)⟩
def SP_X4_cmp5 (Mz : mM) (M_ : mM) : Prop := (SPRp 5).2 Mz M_
theorem c_X4_cmp5 (l : Launch) (G : va_G) (cy : Nat → ClassId) (ad : rf → Nat) (d : Nat) (Mz : mM) (hIz : Inv Mz) (hT : Mz.1 (4, 0, 0) 1 = 1) (hN : Mz.1 (4, 0, 0) 2 = 1 ∨ Mz.1 (4, 0, 0) 2 = 2 ∨ Mz.1 (4, 0, 0) 2 = 3) (h0 : (Mz.1 (4, 0, 0) 5).toInt = 0) : WP CC l G cy ad yX4_readComparisons cX4_readComparisons 3 none (d + 72) 0 [(0, vR (4, 0, 0))] [] Mz (fun r M' => Inv M' ∧ FR (S_reader) Mz M' ∧ (True) ∧ SP_X4_cmp5 Mz M') := w_dep (by omega) (w_Q ((reader_rec l G cy ad 5).2 d Mz hIz hT hN (by omega) (by omega)) (fun _ _ h => ⟨h.1, h.2.1, trivial, h.2.2.2⟩))
end
section
/-! words of the tables that are used, by their places; decode rows; fields -/
set_option maxRecDepth 20000 in
theorem m_464 : Cond.fieldLink RX11 35 "ClickStreet" "reader" "LClickStreet$Reader;" ∈ BASE := bmT2 146 rfl rfl
set_option maxRecDepth 20000 in
theorem m_681 : Cond.methodLink RX11 206 yX4_read ∈ BASE := bmT3 123 rfl rfl
set_option maxRecDepth 20000 in
theorem m_682 : Cond.instanceMethod yX4_read ∈ BASE := bmT3 124 rfl rfl
set_option maxRecDepth 20000 in
theorem m_683 : Cond.selects yX4_read.cls yX4_read yX4_read ∈ BASE := bmT3 125 rfl rfl
set_option maxRecDepth 20000 in
theorem m_684 : Cond.code yX4_read cX4_read 3 (some .int) ∈ BASE := bmT3 126 rfl rfl
set_option maxRecDepth 20000 in
theorem m_688 : Cond.methodLink RX4 52 yX1_clear ∈ BASE := bmT3 130 rfl rfl
set_option maxRecDepth 20000 in
theorem m_689 : Cond.instanceMethod yX1_clear ∈ BASE := bmT3 131 rfl rfl
set_option maxRecDepth 20000 in
theorem m_690 : Cond.selects yX1_clear.cls yX1_clear yX1_clear ∈ BASE := bmT3 132 rfl rfl
set_option maxRecDepth 20000 in
theorem m_691 : Cond.code yX1_clear cX1_clear 1 none ∈ BASE := bmT3 133 rfl rfl
set_option maxRecDepth 20000 in
theorem m_824 : Cond.methodLink RX11 218 yX1_takeFrom ∈ BASE := bmT4 26 rfl rfl
theorem kV_X1_clear : KV yX1_clear cX1_clear 1 none 0 := ⟨m_689, m_690, m_83, m_691, nhM_6, nhV_6, pdn_30⟩
theorem kV_X4_read : KV yX4_read cX4_read 3 (some .int) 2 := ⟨m_682, m_683, m_88, m_684, nhM_16, nhV_16, pdn_37⟩
theorem fl_RX11_210 : FLK RX11 210 2 5 (.array (.object "ClickStreet$Formula")) true := ⟨RX2, TX2, 7, tyX2, rfl, inB2, tyX2_ok, nmX2, by decide, rfl, rfl, Or.inr ⟨"ClickStreet", List.mem_of_getElem? (l := NFs) (i := 6) rfl⟩⟩
theorem fl_RX11_214 : FLK RX11 214 4 0 (.object "ClickStreet$Formula") true := ⟨RX4, TX4, 7, tyX4, rfl, inB4, tyX4_ok, nmX4, by decide, rfl, rfl, Or.inr ⟨"ClickStreet", List.mem_of_getElem? (l := NFs) (i := 41) rfl⟩⟩
theorem fl_RX11_35 : FLK RX11 35 11 5 (.object "ClickStreet$Reader") true := ⟨RX11, TX11, 9, tyX11, rfl, inB11, tyX11_ok, nmX11, by decide, rfl, rfl, Or.inl m_464⟩
theorem ch_cX11_text_0 : (cX11_text.data.toList.drop 0).take 36 = [27, 3, 5, 184, 0, 89, 154, 0, 9, 42, 4, 182, 0, 67, 172, 42, 180, 0, 35, 42, 180, 0, 10, 180, 0, 192, 27, 182, 0, 206, 61, 28, 155, 0, 25, 42] := by decide +kernel
theorem dX11_text_0 : decode cX11_text 0 = .ok (.iload_n 1, 1) := do_27 (rdb (p := 0) (i := 0) ch_cX11_text_0 rfl)
theorem dX11_text_1 : decode cX11_text 1 = .ok (.iconst 0, 1) := do_3 (rdb (p := 0) (i := 1) ch_cX11_text_0 rfl)
theorem dX11_text_2 : decode cX11_text 2 = .ok (.iconst 2, 1) := do_5 (rdb (p := 0) (i := 2) ch_cX11_text_0 rfl)
theorem dX11_text_3 : decode cX11_text 3 = .ok (.invokestatic 89, 3) := do_184 (rdb (p := 0) (i := 3) ch_cX11_text_0 rfl) (rdb (p := 0) (i := 4) ch_cX11_text_0 rfl) (rdb (p := 0) (i := 5) ch_cX11_text_0 rfl) rfl
theorem dX11_text_6 : decode cX11_text 6 = .ok (.ifCond .ne 9, 3) := do_154 (rdb (p := 0) (i := 6) ch_cX11_text_0 rfl) (rdb (p := 0) (i := 7) ch_cX11_text_0 rfl) (rdb (p := 0) (i := 8) ch_cX11_text_0 rfl) (by decide +kernel)
theorem dX11_text_9 : decode cX11_text 9 = .ok (.aload_n 0, 1) := do_42 (rdb (p := 0) (i := 9) ch_cX11_text_0 rfl)
theorem dX11_text_10 : decode cX11_text 10 = .ok (.iconst 1, 1) := do_4 (rdb (p := 0) (i := 10) ch_cX11_text_0 rfl)
theorem dX11_text_11 : decode cX11_text 11 = .ok (.invokevirtual 67, 3) := do_182 (rdb (p := 0) (i := 11) ch_cX11_text_0 rfl) (rdb (p := 0) (i := 12) ch_cX11_text_0 rfl) (rdb (p := 0) (i := 13) ch_cX11_text_0 rfl) rfl
theorem dX11_text_14 : decode cX11_text 14 = .ok (.ireturn, 1) := do_172 (rdb (p := 0) (i := 14) ch_cX11_text_0 rfl)
theorem dX11_text_15 : decode cX11_text 15 = .ok (.aload_n 0, 1) := do_42 (rdb (p := 0) (i := 15) ch_cX11_text_0 rfl)
theorem dX11_text_16 : decode cX11_text 16 = .ok (.getfield 35, 3) := do_180 (rdb (p := 0) (i := 16) ch_cX11_text_0 rfl) (rdb (p := 0) (i := 17) ch_cX11_text_0 rfl) (rdb (p := 0) (i := 18) ch_cX11_text_0 rfl) rfl
theorem dX11_text_19 : decode cX11_text 19 = .ok (.aload_n 0, 1) := do_42 (rdb (p := 0) (i := 19) ch_cX11_text_0 rfl)
theorem dX11_text_20 : decode cX11_text 20 = .ok (.getfield 10, 3) := do_180 (rdb (p := 0) (i := 20) ch_cX11_text_0 rfl) (rdb (p := 0) (i := 21) ch_cX11_text_0 rfl) (rdb (p := 0) (i := 22) ch_cX11_text_0 rfl) rfl
theorem dX11_text_23 : decode cX11_text 23 = .ok (.getfield 192, 3) := do_180 (rdb (p := 0) (i := 23) ch_cX11_text_0 rfl) (rdb (p := 0) (i := 24) ch_cX11_text_0 rfl) (rdb (p := 0) (i := 25) ch_cX11_text_0 rfl) rfl
theorem dX11_text_26 : decode cX11_text 26 = .ok (.iload_n 1, 1) := do_27 (rdb (p := 0) (i := 26) ch_cX11_text_0 rfl)
theorem dX11_text_27 : decode cX11_text 27 = .ok (.invokevirtual 206, 3) := do_182 (rdb (p := 0) (i := 27) ch_cX11_text_0 rfl) (rdb (p := 0) (i := 28) ch_cX11_text_0 rfl) (rdb (p := 0) (i := 29) ch_cX11_text_0 rfl) rfl
theorem dX11_text_30 : decode cX11_text 30 = .ok (.istore_n 2, 1) := do_61 (rdb (p := 0) (i := 30) ch_cX11_text_0 rfl)
theorem dX11_text_31 : decode cX11_text 31 = .ok (.iload_n 2, 1) := do_28 (rdb (p := 0) (i := 31) ch_cX11_text_0 rfl)
theorem ch_cX11_text_32 : (cX11_text.data.toList.drop 32).take 36 = [155, 0, 25, 42, 180, 0, 10, 180, 0, 114, 180, 0, 210, 27, 50, 42, 180, 0, 35, 180, 0, 214, 182, 0, 218, 42, 180, 0, 10, 180, 0, 192, 182, 0, 224, 28] := by decide +kernel
theorem dX11_text_32 : decode cX11_text 32 = .ok (.ifCond .lt 25, 3) := do_155 (rdb (p := 32) (i := 0) ch_cX11_text_32 rfl) (rdb (p := 32) (i := 1) ch_cX11_text_32 rfl) (rdb (p := 32) (i := 2) ch_cX11_text_32 rfl) (by decide +kernel)
theorem dX11_text_35 : decode cX11_text 35 = .ok (.aload_n 0, 1) := do_42 (rdb (p := 32) (i := 3) ch_cX11_text_32 rfl)
theorem dX11_text_36 : decode cX11_text 36 = .ok (.getfield 10, 3) := do_180 (rdb (p := 32) (i := 4) ch_cX11_text_32 rfl) (rdb (p := 32) (i := 5) ch_cX11_text_32 rfl) (rdb (p := 32) (i := 6) ch_cX11_text_32 rfl) rfl
theorem dX11_text_39 : decode cX11_text 39 = .ok (.getfield 114, 3) := do_180 (rdb (p := 32) (i := 7) ch_cX11_text_32 rfl) (rdb (p := 32) (i := 8) ch_cX11_text_32 rfl) (rdb (p := 32) (i := 9) ch_cX11_text_32 rfl) rfl
theorem dX11_text_42 : decode cX11_text 42 = .ok (.getfield 210, 3) := do_180 (rdb (p := 32) (i := 10) ch_cX11_text_32 rfl) (rdb (p := 32) (i := 11) ch_cX11_text_32 rfl) (rdb (p := 32) (i := 12) ch_cX11_text_32 rfl) rfl
theorem dX11_text_45 : decode cX11_text 45 = .ok (.iload_n 1, 1) := do_27 (rdb (p := 32) (i := 13) ch_cX11_text_32 rfl)
theorem dX11_text_46 : decode cX11_text 46 = .ok (.aaload, 1) := do_50 (rdb (p := 32) (i := 14) ch_cX11_text_32 rfl)
theorem dX11_text_47 : decode cX11_text 47 = .ok (.aload_n 0, 1) := do_42 (rdb (p := 32) (i := 15) ch_cX11_text_32 rfl)
theorem dX11_text_48 : decode cX11_text 48 = .ok (.getfield 35, 3) := do_180 (rdb (p := 32) (i := 16) ch_cX11_text_32 rfl) (rdb (p := 32) (i := 17) ch_cX11_text_32 rfl) (rdb (p := 32) (i := 18) ch_cX11_text_32 rfl) rfl
theorem dX11_text_51 : decode cX11_text 51 = .ok (.getfield 214, 3) := do_180 (rdb (p := 32) (i := 19) ch_cX11_text_32 rfl) (rdb (p := 32) (i := 20) ch_cX11_text_32 rfl) (rdb (p := 32) (i := 21) ch_cX11_text_32 rfl) rfl
theorem dX11_text_54 : decode cX11_text 54 = .ok (.invokevirtual 218, 3) := do_182 (rdb (p := 32) (i := 22) ch_cX11_text_32 rfl) (rdb (p := 32) (i := 23) ch_cX11_text_32 rfl) (rdb (p := 32) (i := 24) ch_cX11_text_32 rfl) rfl
theorem dX11_text_57 : decode cX11_text 57 = .ok (.aload_n 0, 1) := do_42 (rdb (p := 32) (i := 25) ch_cX11_text_32 rfl)
theorem dX11_text_58 : decode cX11_text 58 = .ok (.getfield 10, 3) := do_180 (rdb (p := 32) (i := 26) ch_cX11_text_32 rfl) (rdb (p := 32) (i := 27) ch_cX11_text_32 rfl) (rdb (p := 32) (i := 28) ch_cX11_text_32 rfl) rfl
theorem dX11_text_61 : decode cX11_text 61 = .ok (.getfield 192, 3) := do_180 (rdb (p := 32) (i := 29) ch_cX11_text_32 rfl) (rdb (p := 32) (i := 30) ch_cX11_text_32 rfl) (rdb (p := 32) (i := 31) ch_cX11_text_32 rfl) rfl
theorem ch_cX11_text_64 : (cX11_text.data.toList.drop 64).take 36 = [182, 0, 224, 28, 172] := by decide +kernel
theorem dX11_text_64 : decode cX11_text 64 = .ok (.invokevirtual 224, 3) := do_182 (rdb (p := 64) (i := 0) ch_cX11_text_64 rfl) (rdb (p := 64) (i := 1) ch_cX11_text_64 rfl) (rdb (p := 64) (i := 2) ch_cX11_text_64 rfl) rfl
theorem dX11_text_67 : decode cX11_text 67 = .ok (.iload_n 2, 1) := do_28 (rdb (p := 64) (i := 3) ch_cX11_text_64 rfl)
theorem dX11_text_68 : decode cX11_text 68 = .ok (.ireturn, 1) := do_172 (rdb (p := 64) (i := 4) ch_cX11_text_64 rfl)
theorem ch_cX4_read_0 : (cX4_read.data.toList.drop 0).take 36 = [42, 43, 181, 0, 21, 42, 28, 154, 0, 8, 18, 44, 167, 0, 15, 28, 4, 160, 0, 8, 18, 48, 167, 0, 5, 18, 50, 181, 0, 27, 42, 3, 181, 0, 31, 42] := by decide +kernel
theorem dX4_read_0 : decode cX4_read 0 = .ok (.aload_n 0, 1) := do_42 (rdb (p := 0) (i := 0) ch_cX4_read_0 rfl)
theorem dX4_read_1 : decode cX4_read 1 = .ok (.aload_n 1, 1) := do_43 (rdb (p := 0) (i := 1) ch_cX4_read_0 rfl)
theorem dX4_read_2 : decode cX4_read 2 = .ok (.putfield 21, 3) := do_181 (rdb (p := 0) (i := 2) ch_cX4_read_0 rfl) (rdb (p := 0) (i := 3) ch_cX4_read_0 rfl) (rdb (p := 0) (i := 4) ch_cX4_read_0 rfl) rfl
theorem dX4_read_5 : decode cX4_read 5 = .ok (.aload_n 0, 1) := do_42 (rdb (p := 0) (i := 5) ch_cX4_read_0 rfl)
theorem dX4_read_6 : decode cX4_read 6 = .ok (.iload_n 2, 1) := do_28 (rdb (p := 0) (i := 6) ch_cX4_read_0 rfl)
theorem dX4_read_7 : decode cX4_read 7 = .ok (.ifCond .ne 8, 3) := do_154 (rdb (p := 0) (i := 7) ch_cX4_read_0 rfl) (rdb (p := 0) (i := 8) ch_cX4_read_0 rfl) (rdb (p := 0) (i := 9) ch_cX4_read_0 rfl) (by decide +kernel)
theorem dX4_read_10 : decode cX4_read 10 = .ok (.ldc 44, 2) := do_18 (rdb (p := 0) (i := 10) ch_cX4_read_0 rfl) (rdb (p := 0) (i := 11) ch_cX4_read_0 rfl)
theorem dX4_read_12 : decode cX4_read 12 = .ok (.goto 15, 3) := do_167 (rdb (p := 0) (i := 12) ch_cX4_read_0 rfl) (rdb (p := 0) (i := 13) ch_cX4_read_0 rfl) (rdb (p := 0) (i := 14) ch_cX4_read_0 rfl) (by decide +kernel)
theorem dX4_read_15 : decode cX4_read 15 = .ok (.iload_n 2, 1) := do_28 (rdb (p := 0) (i := 15) ch_cX4_read_0 rfl)
theorem dX4_read_16 : decode cX4_read 16 = .ok (.iconst 1, 1) := do_4 (rdb (p := 0) (i := 16) ch_cX4_read_0 rfl)
theorem dX4_read_17 : decode cX4_read 17 = .ok (.if_icmp .ne 8, 3) := do_160 (rdb (p := 0) (i := 17) ch_cX4_read_0 rfl) (rdb (p := 0) (i := 18) ch_cX4_read_0 rfl) (rdb (p := 0) (i := 19) ch_cX4_read_0 rfl) (by decide +kernel)
theorem dX4_read_20 : decode cX4_read 20 = .ok (.ldc 48, 2) := do_18 (rdb (p := 0) (i := 20) ch_cX4_read_0 rfl) (rdb (p := 0) (i := 21) ch_cX4_read_0 rfl)
theorem dX4_read_22 : decode cX4_read 22 = .ok (.goto 5, 3) := do_167 (rdb (p := 0) (i := 22) ch_cX4_read_0 rfl) (rdb (p := 0) (i := 23) ch_cX4_read_0 rfl) (rdb (p := 0) (i := 24) ch_cX4_read_0 rfl) (by decide +kernel)
theorem dX4_read_25 : decode cX4_read 25 = .ok (.ldc 50, 2) := do_18 (rdb (p := 0) (i := 25) ch_cX4_read_0 rfl) (rdb (p := 0) (i := 26) ch_cX4_read_0 rfl)
theorem dX4_read_27 : decode cX4_read 27 = .ok (.putfield 27, 3) := do_181 (rdb (p := 0) (i := 27) ch_cX4_read_0 rfl) (rdb (p := 0) (i := 28) ch_cX4_read_0 rfl) (rdb (p := 0) (i := 29) ch_cX4_read_0 rfl) rfl
theorem dX4_read_30 : decode cX4_read 30 = .ok (.aload_n 0, 1) := do_42 (rdb (p := 0) (i := 30) ch_cX4_read_0 rfl)
theorem dX4_read_31 : decode cX4_read 31 = .ok (.iconst 0, 1) := do_3 (rdb (p := 0) (i := 31) ch_cX4_read_0 rfl)
theorem ch_cX4_read_32 : (cX4_read.data.toList.drop 32).take 36 = [181, 0, 31, 42, 2, 181, 0, 35, 42, 3, 181, 0, 38, 42, 3, 181, 0, 41, 42, 180, 0, 10, 182, 0, 52, 42, 182, 0, 55, 42, 182, 0, 58, 155, 0, 7] := by decide +kernel
theorem dX4_read_32 : decode cX4_read 32 = .ok (.putfield 31, 3) := do_181 (rdb (p := 32) (i := 0) ch_cX4_read_32 rfl) (rdb (p := 32) (i := 1) ch_cX4_read_32 rfl) (rdb (p := 32) (i := 2) ch_cX4_read_32 rfl) rfl
theorem dX4_read_35 : decode cX4_read 35 = .ok (.aload_n 0, 1) := do_42 (rdb (p := 32) (i := 3) ch_cX4_read_32 rfl)
theorem dX4_read_36 : decode cX4_read 36 = .ok (.iconst (-1), 1) := do_2 (rdb (p := 32) (i := 4) ch_cX4_read_32 rfl)
theorem dX4_read_37 : decode cX4_read 37 = .ok (.putfield 35, 3) := do_181 (rdb (p := 32) (i := 5) ch_cX4_read_32 rfl) (rdb (p := 32) (i := 6) ch_cX4_read_32 rfl) (rdb (p := 32) (i := 7) ch_cX4_read_32 rfl) rfl
theorem dX4_read_40 : decode cX4_read 40 = .ok (.aload_n 0, 1) := do_42 (rdb (p := 32) (i := 8) ch_cX4_read_32 rfl)
theorem dX4_read_41 : decode cX4_read 41 = .ok (.iconst 0, 1) := do_3 (rdb (p := 32) (i := 9) ch_cX4_read_32 rfl)
theorem dX4_read_42 : decode cX4_read 42 = .ok (.putfield 38, 3) := do_181 (rdb (p := 32) (i := 10) ch_cX4_read_32 rfl) (rdb (p := 32) (i := 11) ch_cX4_read_32 rfl) (rdb (p := 32) (i := 12) ch_cX4_read_32 rfl) rfl
theorem dX4_read_45 : decode cX4_read 45 = .ok (.aload_n 0, 1) := do_42 (rdb (p := 32) (i := 13) ch_cX4_read_32 rfl)
theorem dX4_read_46 : decode cX4_read 46 = .ok (.iconst 0, 1) := do_3 (rdb (p := 32) (i := 14) ch_cX4_read_32 rfl)
theorem dX4_read_47 : decode cX4_read 47 = .ok (.putfield 41, 3) := do_181 (rdb (p := 32) (i := 15) ch_cX4_read_32 rfl) (rdb (p := 32) (i := 16) ch_cX4_read_32 rfl) (rdb (p := 32) (i := 17) ch_cX4_read_32 rfl) rfl
theorem dX4_read_50 : decode cX4_read 50 = .ok (.aload_n 0, 1) := do_42 (rdb (p := 32) (i := 18) ch_cX4_read_32 rfl)
theorem dX4_read_51 : decode cX4_read 51 = .ok (.getfield 10, 3) := do_180 (rdb (p := 32) (i := 19) ch_cX4_read_32 rfl) (rdb (p := 32) (i := 20) ch_cX4_read_32 rfl) (rdb (p := 32) (i := 21) ch_cX4_read_32 rfl) rfl
theorem dX4_read_54 : decode cX4_read 54 = .ok (.invokevirtual 52, 3) := do_182 (rdb (p := 32) (i := 22) ch_cX4_read_32 rfl) (rdb (p := 32) (i := 23) ch_cX4_read_32 rfl) (rdb (p := 32) (i := 24) ch_cX4_read_32 rfl) rfl
theorem dX4_read_57 : decode cX4_read 57 = .ok (.aload_n 0, 1) := do_42 (rdb (p := 32) (i := 25) ch_cX4_read_32 rfl)
theorem dX4_read_58 : decode cX4_read 58 = .ok (.invokevirtual 55, 3) := do_182 (rdb (p := 32) (i := 26) ch_cX4_read_32 rfl) (rdb (p := 32) (i := 27) ch_cX4_read_32 rfl) (rdb (p := 32) (i := 28) ch_cX4_read_32 rfl) rfl
theorem dX4_read_61 : decode cX4_read 61 = .ok (.aload_n 0, 1) := do_42 (rdb (p := 32) (i := 29) ch_cX4_read_32 rfl)
theorem dX4_read_62 : decode cX4_read 62 = .ok (.invokevirtual 58, 3) := do_182 (rdb (p := 32) (i := 30) ch_cX4_read_32 rfl) (rdb (p := 32) (i := 31) ch_cX4_read_32 rfl) (rdb (p := 32) (i := 32) ch_cX4_read_32 rfl) rfl
theorem ch_cX4_read_64 : (cX4_read.data.toList.drop 64).take 36 = [58, 155, 0, 7, 42, 182, 0, 62, 42, 180, 0, 35, 156, 0, 10, 42, 180, 0, 41, 167, 0, 10, 16, 246, 42, 180, 0, 35, 100, 172] := by decide +kernel
theorem dX4_read_65 : decode cX4_read 65 = .ok (.ifCond .lt 7, 3) := do_155 (rdb (p := 64) (i := 1) ch_cX4_read_64 rfl) (rdb (p := 64) (i := 2) ch_cX4_read_64 rfl) (rdb (p := 64) (i := 3) ch_cX4_read_64 rfl) (by decide +kernel)
theorem dX4_read_68 : decode cX4_read 68 = .ok (.aload_n 0, 1) := do_42 (rdb (p := 64) (i := 4) ch_cX4_read_64 rfl)
theorem dX4_read_69 : decode cX4_read 69 = .ok (.invokevirtual 62, 3) := do_182 (rdb (p := 64) (i := 5) ch_cX4_read_64 rfl) (rdb (p := 64) (i := 6) ch_cX4_read_64 rfl) (rdb (p := 64) (i := 7) ch_cX4_read_64 rfl) rfl
theorem dX4_read_72 : decode cX4_read 72 = .ok (.aload_n 0, 1) := do_42 (rdb (p := 64) (i := 8) ch_cX4_read_64 rfl)
theorem dX4_read_73 : decode cX4_read 73 = .ok (.getfield 35, 3) := do_180 (rdb (p := 64) (i := 9) ch_cX4_read_64 rfl) (rdb (p := 64) (i := 10) ch_cX4_read_64 rfl) (rdb (p := 64) (i := 11) ch_cX4_read_64 rfl) rfl
theorem dX4_read_76 : decode cX4_read 76 = .ok (.ifCond .ge 10, 3) := do_156 (rdb (p := 64) (i := 12) ch_cX4_read_64 rfl) (rdb (p := 64) (i := 13) ch_cX4_read_64 rfl) (rdb (p := 64) (i := 14) ch_cX4_read_64 rfl) (by decide +kernel)
theorem dX4_read_79 : decode cX4_read 79 = .ok (.aload_n 0, 1) := do_42 (rdb (p := 64) (i := 15) ch_cX4_read_64 rfl)
theorem dX4_read_80 : decode cX4_read 80 = .ok (.getfield 41, 3) := do_180 (rdb (p := 64) (i := 16) ch_cX4_read_64 rfl) (rdb (p := 64) (i := 17) ch_cX4_read_64 rfl) (rdb (p := 64) (i := 18) ch_cX4_read_64 rfl) rfl
theorem dX4_read_83 : decode cX4_read 83 = .ok (.goto 10, 3) := do_167 (rdb (p := 64) (i := 19) ch_cX4_read_64 rfl) (rdb (p := 64) (i := 20) ch_cX4_read_64 rfl) (rdb (p := 64) (i := 21) ch_cX4_read_64 rfl) (by decide +kernel)
theorem dX4_read_86 : decode cX4_read 86 = .ok (.bipush (-10), 2) := do_16 (rdb (p := 64) (i := 22) ch_cX4_read_64 rfl) (rdb (p := 64) (i := 23) ch_cX4_read_64 rfl) (by decide +kernel)
theorem dX4_read_88 : decode cX4_read 88 = .ok (.aload_n 0, 1) := do_42 (rdb (p := 64) (i := 24) ch_cX4_read_64 rfl)
theorem dX4_read_89 : decode cX4_read 89 = .ok (.getfield 35, 3) := do_180 (rdb (p := 64) (i := 25) ch_cX4_read_64 rfl) (rdb (p := 64) (i := 26) ch_cX4_read_64 rfl) (rdb (p := 64) (i := 27) ch_cX4_read_64 rfl) rfl
theorem dX4_read_92 : decode cX4_read 92 = .ok (.isub, 1) := do_100 (rdb (p := 64) (i := 28) ch_cX4_read_64 rfl)
theorem dX4_read_93 : decode cX4_read 93 = .ok (.ireturn, 1) := do_172 (rdb (p := 64) (i := 29) ch_cX4_read_64 rfl)
end
