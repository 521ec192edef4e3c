def S_c_X4_next : rf → Nat → Prop := fun c k => (c.1 = 4 ∧ c.2.1 = 0 ∧ k = 3) ∨ False
theorem lf_c_X4_next_0 (M_0 : mM) (z2_ : Int32) (z4_ : Int32) (e3_ : z2_ = M_0.1 (4, 0, 0) 3) (e5_ : z4_ = M_0.1 (5, 0, 0) 1) (h6_ : z2_.toInt < z4_.toInt) : -2147483648 ≤ z2_.toInt + 1 ∧ z2_.toInt + 1 < 2147483648 := by have r_z2_ := rngI z2_; have r_z4_ := rngI z4_; subst e3_; subst e5_; omega
theorem lf_c_X4_next_1 (M40_ : mM) (M_0 : mM) (z2_ : Int32) (z4_ : Int32) (z38_ : Int32) (kv0_0 : M_0.1 (4, 0, 0) 1 = 1) (e3_ : z2_ = M_0.1 (4, 0, 0) 3) (e5_ : z4_ = M_0.1 (5, 0, 0) 1) (h6_ : z2_.toInt < z4_.toInt) (h39_ : z38_.toInt = z2_.toInt + 1) (hM41_ : M40_ = up M_0 (4, 0, 0) 3 z38_) (kf44_ : M40_.1 (4, 0, 0) 1 = 1) : ((M40_.1 (5, 0, 0) 1).toInt - (M40_.1 (4, 0, 0) 3).toInt).toNat < ((M_0.1 (5, 0, 0) 1).toInt - (M_0.1 (4, 0, 0) 3).toInt).toNat := by have r_z2_ := rngI z2_; have r_z4_ := rngI z4_; have r_z38_ := rngI z38_; subst e3_; subst e5_; subst hM41_; simp [up] at *; try omega
set_option maxHeartbeats 4000000 in
set_option maxRecDepth 100000 in
theorem c_X4_next (l : Launch) (G : va_G) (cy : Nat → ClassId) (ad : rf → Nat) (d : Nat) (Mz : mM) (hIz : Inv Mz) (hT : Mz.1 (4, 0, 0) 1 = 1) : WP CC l G cy ad yX4_next cX4_next 1 (some .int) (d + 1) 0 [(0, vR (4, 0, 0))] [] Mz (fun r M' => Inv M' ∧ FR (S_c_X4_next) Mz M' ∧ True) := by
  have hFz : FR (S_c_X4_next) Mz Mz := FR.self
  have lp1_ : ∀ (nn_0 : Nat) (M_0 : mM) (hI_0 : Inv M_0) (hF_0 : FR (S_c_X4_next) Mz M_0) (kv0_0 : M_0.1 (4, 0, 0) 1 = 1), ((M_0.1 (5, 0, 0) 1).toInt - (M_0.1 (4, 0, 0) 3).toInt).toNat < nn_0 → WP CC l G cy ad yX4_next cX4_next 1 (some .int) (d + 1) 0 [(0, vR (4, 0, 0))] [] M_0 (fun r M' => Inv M' ∧ FR (S_c_X4_next) Mz M' ∧ True) := by
    intro nn_0
    induction nn_0 with
    | zero => intro M_0 hI_0 hF_0 kv0_0 hm_0; exact absurd hm_0 (Nat.not_lt_zero _)
    | succ nn_0 ih_0 =>
      intro M_0 hI_0 hF_0 kv0_0 hm_0
      refine w_aload_n dX4_next_0 rfl 0 rfl ?_
      refine w_getI fl_RX4_31 rfl rfl ic_4 dX4_next_1 (fun z2_ e3_ => ?_)
      refine w_aload_n dX4_next_4 rfl 0 rfl ?_
      refine w_getR (c' := (5, 0, 0)) fl_RX4_21 rfl rfl ic_4 dX4_next_5 (by rw [kv0_0]; rfl) ?_
      refine w_getI fl_RX4_65 rfl rfl (ic_5 (by unfold vRw; omega)) dX4_next_8 (fun z4_ e5_ => ?_)
      refine w_icmp_ge (tgt := 43) dX4_next_11 (by decide) (rfl : z2_.toInt = z2_.toInt) (rfl : z4_.toInt = z4_.toInt) (fun h6_ => ?_) (fun h6_ => ?_)
      · refine w_aload_n dX4_next_43 rfl 0 rfl ?_
        refine w_getI fl_RX4_31 rfl rfl ic_4 dX4_next_44 (fun z7_ e8_ => ?_)
        obtain rfl : z2_ = z7_ := e3_.trans e8_.symm
        refine w_aload_n dX4_next_47 rfl 0 rfl ?_
        refine w_getR (c' := (5, 0, 0)) fl_RX4_21 rfl rfl ic_4 dX4_next_48 (by rw [kv0_0]; rfl) ?_
        refine w_getI fl_RX4_65 rfl rfl (ic_5 (by unfold vRw; omega)) dX4_next_51 (fun z9_ e10_ => ?_)
        obtain rfl : z4_ = z9_ := e5_.trans e10_.symm
        refine w_icmp_ge (tgt := 71) dX4_next_54 (by decide) (rfl : z2_.toInt = z2_.toInt) (rfl : z4_.toInt = z4_.toInt) (fun h11_ => ?_) (fun h11_ => ?_)
        · refine w_iconst (v := (-1)) dX4_next_71 (by decide) ?_
          exact w_iret rfl dX4_next_72 ⟨hI_0, hF_0, trivial⟩
        · refine w_aload_n dX4_next_57 rfl 0 rfl ?_
          refine w_getR (c' := (5, 0, 0)) fl_RX4_21 rfl rfl ic_4 dX4_next_58 (by rw [kv0_0]; rfl) ?_
          refine w_aload_n dX4_next_61 rfl 0 rfl ?_
          refine w_getI fl_RX4_31 rfl rfl ic_4 dX4_next_62 (fun z12_ e13_ => ?_)
          obtain rfl : z2_ = z12_ := e3_.trans e13_.symm
          refine w_callV (as := [vI z2_]) (rest := []) (c_X5_get l G cy ad d 0 0 z2_ M_0 hI_0 (by first | decide | (unfold vF; omega) | (unfold vRw; omega))) kV_X5_get (by decide +kernel) (Nat.le_of_ble_eq_true rfl) m_712 rfl rfl rfl (ic_5 (by unfold vRw; omega)) rfl rfl (by decide) (Nat.le_of_ble_eq_true rfl) dX4_next_65 (fun r14_ M15_ q16_ => ?_)
          obtain ⟨rfl, h17_⟩ := q16_
          refine w_goto (tgt := 72) dX4_next_68 (by decide) ?_
          exact w_iret rfl dX4_next_72 ⟨hI_0, hF_0, trivial⟩
      · refine w_aload_n dX4_next_14 rfl 0 rfl ?_
        refine w_getR (c' := (5, 0, 0)) fl_RX4_21 rfl rfl ic_4 dX4_next_15 (by rw [kv0_0]; rfl) ?_
        refine w_aload_n dX4_next_18 rfl 0 rfl ?_
        refine w_getI fl_RX4_31 rfl rfl ic_4 dX4_next_19 (fun z18_ e19_ => ?_)
        obtain rfl : z2_ = z18_ := e3_.trans e19_.symm
        refine w_callV (as := [vI z2_]) (rest := []) (c_X5_get l G cy ad d 0 0 z2_ M_0 hI_0 (by first | decide | (unfold vF; omega) | (unfold vRw; omega))) kV_X5_get (by decide +kernel) (Nat.le_of_ble_eq_true rfl) m_712 rfl rfl rfl (ic_5 (by unfold vRw; omega)) rfl rfl (by decide) (Nat.le_of_ble_eq_true rfl) dX4_next_22 (fun r20_ M21_ q22_ => ?_)
        obtain ⟨rfl, h23_⟩ := q22_
        refine w_bipush (v := 32) dX4_next_25 (by decide) ?_
        refine w_icmp_ne (tgt := 43) dX4_next_27 (by decide) (rfl : r20_.toInt = r20_.toInt) li_32 (fun h24_ => ?_) (fun h24_ => ?_)
        · refine w_aload_n dX4_next_43 rfl 0 rfl ?_
          refine w_getI fl_RX4_31 rfl rfl ic_4 dX4_next_44 (fun z25_ e26_ => ?_)
          obtain rfl : z2_ = z25_ := e3_.trans e26_.symm
          refine w_aload_n dX4_next_47 rfl 0 rfl ?_
          refine w_getR (c' := (5, 0, 0)) fl_RX4_21 rfl rfl ic_4 dX4_next_48 (by rw [kv0_0]; rfl) ?_
          refine w_getI fl_RX4_65 rfl rfl (ic_5 (by unfold vRw; omega)) dX4_next_51 (fun z27_ e28_ => ?_)
          obtain rfl : z4_ = z27_ := e5_.trans e28_.symm
          refine w_icmp_ge (tgt := 71) dX4_next_54 (by decide) (rfl : z2_.toInt = z2_.toInt) (rfl : z4_.toInt = z4_.toInt) (fun h29_ => ?_) (fun h29_ => ?_)
          · refine w_iconst (v := (-1)) dX4_next_71 (by decide) ?_
            exact w_iret rfl dX4_next_72 ⟨hI_0, hF_0, trivial⟩
          · refine w_aload_n dX4_next_57 rfl 0 rfl ?_
            refine w_getR (c' := (5, 0, 0)) fl_RX4_21 rfl rfl ic_4 dX4_next_58 (by rw [kv0_0]; rfl) ?_
            refine w_aload_n dX4_next_61 rfl 0 rfl ?_
            refine w_getI fl_RX4_31 rfl rfl ic_4 dX4_next_62 (fun z30_ e31_ => ?_)
            obtain rfl : z2_ = z30_ := e3_.trans e31_.symm
            refine w_callV (as := [vI z2_]) (rest := []) (c_X5_get l G cy ad d 0 0 z2_ M_0 hI_0 (by first | decide | (unfold vF; omega) | (unfold vRw; omega))) kV_X5_get (by decide +kernel) (Nat.le_of_ble_eq_true rfl) m_712 rfl rfl rfl (ic_5 (by unfold vRw; omega)) rfl rfl (by decide) (Nat.le_of_ble_eq_true rfl) dX4_next_65 (fun r32_ M33_ q34_ => ?_)
            obtain ⟨rfl, h35_⟩ := q34_
            refine w_goto (tgt := 72) dX4_next_68 (by decide) ?_
            exact w_iret rfl dX4_next_72 ⟨hI_0, hF_0, trivial⟩
        · refine w_aload_n dX4_next_30 rfl 0 rfl ?_
          refine w_dup dX4_next_31 rfl ?_
          refine w_getI fl_RX4_31 rfl rfl ic_4 dX4_next_32 (fun z36_ e37_ => ?_)
          obtain rfl : z2_ = z36_ := e3_.trans e37_.symm
          refine w_iconst (v := 1) dX4_next_35 (by decide) ?_
          refine w_iaddB dX4_next_36 (rfl : z2_.toInt = z2_.toInt) li_1 (lf_c_X4_next_0 M_0 z2_ z4_ e3_ e5_ h6_) (fun z38_ h39_ => ?_)
          refine w_putI CC_nd fl_RX4_31 rfl rfl ic_4 dX4_next_37 (fun M40_ hM41_ => ?_)
          have hI42_ := hI_0.put hM41_ trivial
          have hF43_ := hF_0.put hM41_ (Or.inl ⟨rfl, rfl, rfl⟩)
          have kf44_ : M40_.1 (4, 0, 0) 1 = 1 := by rw [(show M40_.1 (4, 0, 0) 1 = M_0.1 (4, 0, 0) 1 by rw [hM41_, up_ne (by simp)])]; exact kv0_0
          refine w_goto (tgt := 0) dX4_next_40 (by decide) ?_
          refine w_loc (ls' := [(0, vR (4, 0, 0))]) [0] rfl ?_
          exact ih_0 M40_ hI42_ hF43_ kf44_ (Nat.lt_of_lt_of_le (lf_c_X4_next_1 M40_ M_0 z2_ z4_ z38_ kv0_0 e3_ e5_ h6_ h39_ hM41_ kf44_) (Nat.le_of_lt_succ hm_0))
  exact lp1_ _ Mz hIz hFz hT (Nat.lt_succ_self _)
def S_c_X4_fail : rf → Nat → Prop := fun c k => (c.1 = 4 ∧ c.2.1 = 0 ∧ k = 4) ∨ False
set_option maxHeartbeats 4000000 in
set_option maxRecDepth 100000 in
theorem c_X4_fail (l : Launch) (G : va_G) (cy : Nat → ClassId) (ad : rf → Nat) (d : Nat) (Mz : mM) (hIz : Inv Mz) : WP CC l G cy ad yX4_fail cX4_fail 1 none d 0 [(0, vR (4, 0, 0))] [] Mz (fun r M' => Inv M' ∧ FR (S_c_X4_fail) Mz M' ∧ True) := by
  have hFz : FR (S_c_X4_fail) Mz Mz := FR.self
  refine w_aload_n dX4_fail_0 rfl 0 rfl ?_
  refine w_getI fl_RX4_35 rfl rfl ic_4 dX4_fail_1 (fun z1_ e2_ => ?_)
  refine w_if_ge (tgt := 15) dX4_fail_4 (by decide) (rfl : z1_.toInt = z1_.toInt) (fun h3_ => ?_) (fun h3_ => ?_)
  · exact w_vret rfl dX4_fail_15 ⟨hIz, hFz, trivial⟩
  · refine w_aload_n dX4_fail_7 rfl 0 rfl ?_
    refine w_aload_n dX4_fail_8 rfl 0 rfl ?_
    refine w_getI fl_RX4_31 rfl rfl ic_4 dX4_fail_9 (fun z4_ e5_ => ?_)
    refine w_putI CC_nd fl_RX4_35 rfl rfl ic_4 dX4_fail_12 (fun M6_ hM7_ => ?_)
    have hI8_ := hIz.put hM7_ trivial
    have hF9_ := hFz.put hM7_ (Or.inl ⟨rfl, rfl, rfl⟩)
    exact w_vret rfl dX4_fail_15 ⟨hI8_, hF9_, trivial⟩
def S_c_X4_expect : rf → Nat → Prop := fun c k => (c.1 = 4 ∧ c.2.1 = 0 ∧ k = 3) ∨ (c.1 = 4 ∧ c.2.1 = 0 ∧ k = 4) ∨ False
set_option maxHeartbeats 4000000 in
set_option maxRecDepth 100000 in
theorem c_X4_expect (l : Launch) (G : va_G) (cy : Nat → ClassId) (ad : rf → Nat) (d : Nat) (v : Int32) (Mz : mM) (hIz : Inv Mz) (hT : Mz.1 (4, 0, 0) 1 = 1) : WP CC l G cy ad yX4_expect cX4_expect 2 none (d + 2) 0 [(0, vR (4, 0, 0)), (1, vI v)] [] Mz (fun r M' => Inv M' ∧ FR (S_c_X4_expect) Mz M' ∧ True) := by
  have hFz : FR (S_c_X4_expect) Mz Mz := FR.self
  refine w_aload_n dX4_expect_0 rfl 0 rfl ?_
  refine w_callV (as := []) (rest := []) (c_X4_next l G cy ad d Mz hIz hT) kV_X4_next (by decide +kernel) (Nat.le_of_ble_eq_true rfl) m_708 rfl rfl rfl ic_4 rfl rfl (by decide) (Nat.le_of_ble_eq_true rfl) dX4_expect_1 (fun r1_ M2_ q3_ => ?_)
  obtain ⟨hI5_, hF6_, h4_⟩ := q3_
  have hF7_ := hFz.tr hF6_ (fun c k => (fun h => h.elim (fun h => (Or.inl ⟨h.1, h.2.1, h.2.2⟩)) (fun h => h.elim)))
  have kf8_ : M2_.1 (4, 0, 0) 1 = 1 := by rw [(hF6_ (4, 0, 0) 1 (by simp [S_c_X4_next]))]; exact hT
  refine w_iload_n dX4_expect_4 rfl 1 rfl ?_
  refine w_icmp_eq (tgt := 15) dX4_expect_5 (by decide) (rfl : r1_.toInt = r1_.toInt) (rfl : v.toInt = v.toInt) (fun h9_ => ?_) (fun h9_ => ?_)
  · refine w_aload_n dX4_expect_15 rfl 0 rfl ?_
    refine w_dup dX4_expect_16 rfl ?_
    refine w_getI fl_RX4_31 rfl rfl ic_4 dX4_expect_17 (fun z10_ e11_ => ?_)
    refine w_iconst (v := 1) dX4_expect_20 (by decide) ?_
    refine w_iadd dX4_expect_21 (fun z12_ _ => ?_)
    refine w_putI CC_nd fl_RX4_31 rfl rfl ic_4 dX4_expect_22 (fun M13_ hM14_ => ?_)
    have hI15_ := hI5_.put hM14_ trivial
    have hF16_ := hF7_.put hM14_ (Or.inl ⟨rfl, rfl, rfl⟩)
    have kf17_ : M13_.1 (4, 0, 0) 1 = 1 := by rw [(show M13_.1 (4, 0, 0) 1 = M2_.1 (4, 0, 0) 1 by rw [hM14_, up_ne (by simp)])]; exact kf8_
    exact w_vret rfl dX4_expect_25 ⟨hI15_, hF16_, trivial⟩
  · refine w_aload_n dX4_expect_8 rfl 0 rfl ?_
    refine w_callVv (as := []) (rest := []) (c_X4_fail l G cy ad (d + 1) M2_ hI5_) kV_X4_fail (by decide +kernel) (Nat.le_of_ble_eq_true rfl) m_728 rfl rfl rfl ic_4 rfl rfl (by decide) (Nat.le_of_ble_eq_true rfl) dX4_expect_9 (fun M18_ q19_ => ?_)
    obtain ⟨hI21_, hF22_, h20_⟩ := q19_
    have hF23_ := hF7_.tr hF22_ (fun c k => (fun h => h.elim (fun h => (Or.inr (Or.inl ⟨h.1, h.2.1, h.2.2⟩))) (fun h => h.elim)))
    have kf24_ : M18_.1 (4, 0, 0) 1 = 1 := by rw [(hF22_ (4, 0, 0) 1 (by simp [S_c_X4_fail]))]; exact kf8_
    refine w_goto (tgt := 25) dX4_expect_12 (by decide) ?_
    exact w_vret rfl dX4_expect_25 ⟨hI21_, hF23_, trivial⟩
def S_c_X4_readNumber : rf → Nat → Prop := fun c k => (c.1 = 24 ∧ c.2.1 = 3 ∧ c.2.2 = 0) ∨ (c.1 = 1 ∧ c.2.1 = 3 ∧ c.2.2 = 0 ∧ k = 2) ∨ (c.1 = 4 ∧ c.2.1 = 0 ∧ k = 6) ∨ (c.1 = 4 ∧ c.2.1 = 0 ∧ k = 3) ∨ False
theorem lf_c_X4_readNumber_0 (M_4 : mM) (z18_ : Int32) (z20_ : Int32) (e19_ : z18_ = M_4.1 (4, 0, 0) 3) (e21_ : z20_ = M_4.1 (5, 0, 0) 1) (h22_ : z18_.toInt < z20_.toInt) : -2147483648 ≤ z18_.toInt + 1 ∧ z18_.toInt + 1 < 2147483648 := by have r_z18_ := rngI z18_; have r_z20_ := rngI z20_; subst e19_; subst e21_; omega
theorem lf_c_X4_readNumber_1  (v2_4 : Int32) (hv0_4 : 0 ≤ v2_4.toInt) (hv1_4 : v2_4.toInt ≤ 3) (h2_ : v2_4.toInt < 3) : -2147483648 ≤ v2_4.toInt + 1 ∧ v2_4.toInt + 1 < 2147483648 := by have r_v2_4 := rngI v2_4; omega
theorem lf_c_X4_readNumber_2  (v2_4 : Int32) (z74_ : Int32) (hv0_4 : 0 ≤ v2_4.toInt) (hv1_4 : v2_4.toInt ≤ 3) (h2_ : v2_4.toInt < 3) (h75_ : z74_.toInt = v2_4.toInt + 1) : 0 ≤ z74_.toInt := by have r_v2_4 := rngI v2_4; have r_z74_ := rngI z74_; omega
theorem lf_c_X4_readNumber_3  (v2_4 : Int32) (z74_ : Int32) (hv0_4 : 0 ≤ v2_4.toInt) (hv1_4 : v2_4.toInt ≤ 3) (h2_ : v2_4.toInt < 3) (h75_ : z74_.toInt = v2_4.toInt + 1) : z74_.toInt ≤ 3 := by have r_v2_4 := rngI v2_4; have r_z74_ := rngI z74_; omega
theorem lf_c_X4_readNumber_4  (v2_4 : Int32) (z74_ : Int32) (hv0_4 : 0 ≤ v2_4.toInt) (hv1_4 : v2_4.toInt ≤ 3) (h2_ : v2_4.toInt < 3) (h75_ : z74_.toInt = v2_4.toInt + 1) : (2147483648 - z74_.toInt).toNat < (2147483648 - v2_4.toInt).toNat := by have r_v2_4 := rngI v2_4; have r_z74_ := rngI z74_; omega
theorem lf_c_X4_readNumber_5    : 0 ≤ (0 : Int32).toInt := by have q0 := li_0; omega
theorem lf_c_X4_readNumber_6    : (0 : Int32).toInt ≤ 3 := by have q0 := li_0; omega
set_option maxHeartbeats 4000000 in
set_option maxRecDepth 100000 in
theorem c_X4_readNumber (l : Launch) (G : va_G) (cy : Nat → ClassId) (ad : rf → Nat) (d : Nat) (Mz : mM) (hIz : Inv Mz) (hT : Mz.1 (4, 0, 0) 1 = 1) : WP CC l G cy ad yX4_readNumber cX4_readNumber 4 none (d + 1) 0 [(0, vR (4, 0, 0))] [] Mz (fun r M' => Inv M' ∧ FR (S_c_X4_readNumber) Mz M' ∧ True) := by
  have hFz : FR (S_c_X4_readNumber) Mz Mz := FR.self
  refine w_iconst (v := 0) dX4_readNumber_0 (by decide) ?_
  refine w_istore_n (ls' := [(1, vI 0), (0, vR (4, 0, 0))]) dX4_readNumber_1 rfl (by decide) rfl ?_
  refine w_iconst (v := 0) dX4_readNumber_2 (by decide) ?_
  refine w_istore_n (ls' := [(2, vI 0), (1, vI 0), (0, vR (4, 0, 0))]) dX4_readNumber_3 rfl (by decide) rfl ?_
  have lp1_ : ∀ (nn_4 : Nat) (M_4 : mM) (hI_4 : Inv M_4) (hF_4 : FR (S_c_X4_readNumber) Mz M_4) (v2_4 : Int32) (v1_4 : Int32) (hv0_4 : 0 ≤ v2_4.toInt) (hv1_4 : v2_4.toInt ≤ 3) (kv0_4 : M_4.1 (4, 0, 0) 1 = 1), (2147483648 - v2_4.toInt).toNat < nn_4 → WP CC l G cy ad yX4_readNumber cX4_readNumber 4 none (d + 1) 4 [(2, vI v2_4), (1, vI v1_4), (0, vR (4, 0, 0))] [] M_4 (fun r M' => Inv M' ∧ FR (S_c_X4_readNumber) Mz M' ∧ True) := by
    intro nn_4
    induction nn_4 with
    | zero => intro M_4 hI_4 hF_4 v2_4 v1_4 hv0_4 hv1_4 kv0_4 hm_4; exact absurd hm_4 (Nat.not_lt_zero _)
    | succ nn_4 ih_4 =>
      intro M_4 hI_4 hF_4 v2_4 v1_4 hv0_4 hv1_4 kv0_4 hm_4
      refine w_iload_n dX4_readNumber_4 rfl 0 rfl ?_
      refine w_iconst (v := 3) dX4_readNumber_5 (by decide) ?_
      refine w_icmp_ge (tgt := 78) dX4_readNumber_6 (by decide) (rfl : v2_4.toInt = v2_4.toInt) li_3 (fun h2_ => ?_) (fun h2_ => ?_)
      · refine w_aload_n dX4_readNumber_78 rfl 2 rfl ?_
        refine w_getR (c' := (1, 3, 0)) fl_RX4_10 rfl rfl ic_4 dX4_readNumber_79 rfl ?_
        refine w_iload_n dX4_readNumber_82 rfl 1 rfl ?_
        refine w_callVv (as := [vI v1_4]) (rest := []) (c_X1_add l G cy ad d 3 0 v1_4 M_4 hI_4 (by first | decide | (unfold vF; omega) | (unfold vRw; omega))) kV_X1_add (by decide +kernel) (Nat.le_of_ble_eq_true rfl) m_720 rfl rfl rfl (ic_1 (by unfold vF; omega)) rfl rfl (by decide) (Nat.le_of_ble_eq_true rfl) dX4_readNumber_83 (fun M3_ q4_ => ?_)
        obtain ⟨hI6_, hF7_, h5_⟩ := q4_
        have hF8_ := hF_4.tr hF7_ (fun c k => (fun h => h.elim (fun h => (Or.inl ⟨h.1, h.2.1, h.2.2⟩)) (fun h => h.elim (fun h => (Or.inr (Or.inl ⟨h.1, h.2.1, h.2.2.1, h.2.2.2⟩))) (fun h => h.elim))))
        have kf9_ : M3_.1 (4, 0, 0) 1 = 1 := by rw [(hF7_ (4, 0, 0) 1 (by simp [S_c_X1_add]))]; exact kv0_4
        refine w_aload_n dX4_readNumber_86 rfl 2 rfl ?_
        refine w_dup dX4_readNumber_87 rfl ?_
        refine w_getI fl_RX4_41 rfl rfl ic_4 dX4_readNumber_88 (fun z10_ e11_ => ?_)
        refine w_iconst (v := 1) dX4_readNumber_91 (by decide) ?_
        refine w_iadd dX4_readNumber_92 (fun z12_ _ => ?_)
        refine w_putI CC_nd fl_RX4_41 rfl rfl ic_4 dX4_readNumber_93 (fun M13_ hM14_ => ?_)
        have hI15_ := hI6_.put hM14_ trivial
        have hF16_ := hF8_.put hM14_ (Or.inr (Or.inr (Or.inl ⟨rfl, rfl, rfl⟩)))
        have kf17_ : M13_.1 (4, 0, 0) 1 = 1 := by rw [(show M13_.1 (4, 0, 0) 1 = M3_.1 (4, 0, 0) 1 by rw [hM14_, up_ne (by simp)])]; exact kf9_
        exact w_vret rfl dX4_readNumber_96 ⟨hI15_, hF16_, trivial⟩
      · refine w_aload_n dX4_readNumber_9 rfl 2 rfl ?_
        refine w_getI fl_RX4_31 rfl rfl ic_4 dX4_readNumber_10 (fun z18_ e19_ => ?_)
        refine w_aload_n dX4_readNumber_13 rfl 2 rfl ?_
        refine w_getR (c' := (5, 0, 0)) fl_RX4_21 rfl rfl ic_4 dX4_readNumber_14 (by rw [kv0_4]; rfl) ?_
        refine w_getI fl_RX4_65 rfl rfl (ic_5 (by unfold vRw; omega)) dX4_readNumber_17 (fun z20_ e21_ => ?_)
        refine w_icmp_ge (tgt := 40) dX4_readNumber_20 (by decide) (rfl : z18_.toInt = z18_.toInt) (rfl : z20_.toInt = z20_.toInt) (fun h22_ => ?_) (fun h22_ => ?_)
        · refine w_iconst (v := (-1)) dX4_readNumber_40 (by decide) ?_
          refine w_istore_n (ls' := [(3, vI (-1)), (2, vI v2_4), (1, vI v1_4), (0, vR (4, 0, 0))]) dX4_readNumber_41 rfl (by decide) rfl ?_
          refine w_iload_n dX4_readNumber_42 rfl 0 rfl ?_
          refine w_if_lt (tgt := 78) dX4_readNumber_43 (by decide) li_m1 (fun h23_ => ?_) (fun h9 => (absurd h9 (by decide)))
          refine w_aload_n dX4_readNumber_78 rfl 3 rfl ?_
          refine w_getR (c' := (1, 3, 0)) fl_RX4_10 rfl rfl ic_4 dX4_readNumber_79 rfl ?_
          refine w_iload_n dX4_readNumber_82 rfl 2 rfl ?_
          refine w_callVv (as := [vI v1_4]) (rest := []) (c_X1_add l G cy ad d 3 0 v1_4 M_4 hI_4 (by first | decide | (unfold vF; omega) | (unfold vRw; omega))) kV_X1_add (by decide +kernel) (Nat.le_of_ble_eq_true rfl) m_720 rfl rfl rfl (ic_1 (by unfold vF; omega)) rfl rfl (by decide) (Nat.le_of_ble_eq_true rfl) dX4_readNumber_83 (fun M24_ q25_ => ?_)
          obtain ⟨hI27_, hF28_, h26_⟩ := q25_
          have hF29_ := hF_4.tr hF28_ (fun c k => (fun h => h.elim (fun h => (Or.inl ⟨h.1, h.2.1, h.2.2⟩)) (fun h => h.elim (fun h => (Or.inr (Or.inl ⟨h.1, h.2.1, h.2.2.1, h.2.2.2⟩))) (fun h => h.elim))))
          have kf30_ : M24_.1 (4, 0, 0) 1 = 1 := by rw [(hF28_ (4, 0, 0) 1 (by simp [S_c_X1_add]))]; exact kv0_4
          refine w_aload_n dX4_readNumber_86 rfl 3 rfl ?_
          refine w_dup dX4_readNumber_87 rfl ?_
          refine w_getI fl_RX4_41 rfl rfl ic_4 dX4_readNumber_88 (fun z31_ e32_ => ?_)
          refine w_iconst (v := 1) dX4_readNumber_91 (by decide) ?_
          refine w_iadd dX4_readNumber_92 (fun z33_ _ => ?_)
          refine w_putI CC_nd fl_RX4_41 rfl rfl ic_4 dX4_readNumber_93 (fun M34_ hM35_ => ?_)
          have hI36_ := hI27_.put hM35_ trivial
          have hF37_ := hF29_.put hM35_ (Or.inr (Or.inr (Or.inl ⟨rfl, rfl, rfl⟩)))
          have kf38_ : M34_.1 (4, 0, 0) 1 = 1 := by rw [(show M34_.1 (4, 0, 0) 1 = M24_.1 (4, 0, 0) 1 by rw [hM35_, up_ne (by simp)])]; exact kf30_
          exact w_vret rfl dX4_readNumber_96 ⟨hI36_, hF37_, trivial⟩
        · refine w_aload_n dX4_readNumber_23 rfl 2 rfl ?_
          refine w_getR (c' := (5, 0, 0)) fl_RX4_21 rfl rfl ic_4 dX4_readNumber_24 (by rw [kv0_4]; rfl) ?_
          refine w_aload_n dX4_readNumber_27 rfl 2 rfl ?_
          refine w_getI fl_RX4_31 rfl rfl ic_4 dX4_readNumber_28 (fun z39_ e40_ => ?_)
          obtain rfl : z18_ = z39_ := e19_.trans e40_.symm
          refine w_callV (as := [vI z18_]) (rest := []) (c_X5_get l G cy ad d 0 0 z18_ M_4 hI_4 (by first | decide | (unfold vF; omega) | (unfold vRw; omega))) kV_X5_get (by decide +kernel) (Nat.le_of_ble_eq_true rfl) m_712 rfl rfl rfl (ic_5 (by unfold vRw; omega)) rfl rfl (by decide) (Nat.le_of_ble_eq_true rfl) dX4_readNumber_31 (fun r41_ M42_ q43_ => ?_)
          obtain ⟨rfl, h44_⟩ := q43_
          refine w_bipush (v := 48) dX4_readNumber_34 (by decide) ?_
          refine w_isub dX4_readNumber_36 (fun z45_ _ => ?_)
          refine w_goto (tgt := 41) dX4_readNumber_37 (by decide) ?_
          refine w_istore_n (ls' := [(3, vI z45_), (2, vI v2_4), (1, vI v1_4), (0, vR (4, 0, 0))]) dX4_readNumber_41 rfl (by decide) rfl ?_
          refine w_iload_n dX4_readNumber_42 rfl 0 rfl ?_
          refine w_if_lt (tgt := 78) dX4_readNumber_43 (by decide) (rfl : z45_.toInt = z45_.toInt) (fun h46_ => ?_) (fun h46_ => ?_)
          · refine w_aload_n dX4_readNumber_78 rfl 3 rfl ?_
            refine w_getR (c' := (1, 3, 0)) fl_RX4_10 rfl rfl ic_4 dX4_readNumber_79 rfl ?_
            refine w_iload_n dX4_readNumber_82 rfl 2 rfl ?_
            refine w_callVv (as := [vI v1_4]) (rest := []) (c_X1_add l G cy ad d 3 0 v1_4 M_4 hI_4 (by first | decide | (unfold vF; omega) | (unfold vRw; omega))) kV_X1_add (by decide +kernel) (Nat.le_of_ble_eq_true rfl) m_720 rfl rfl rfl (ic_1 (by unfold vF; omega)) rfl rfl (by decide) (Nat.le_of_ble_eq_true rfl) dX4_readNumber_83 (fun M47_ q48_ => ?_)
            obtain ⟨hI50_, hF51_, h49_⟩ := q48_
            have hF52_ := hF_4.tr hF51_ (fun c k => (fun h => h.elim (fun h => (Or.inl ⟨h.1, h.2.1, h.2.2⟩)) (fun h => h.elim (fun h => (Or.inr (Or.inl ⟨h.1, h.2.1, h.2.2.1, h.2.2.2⟩))) (fun h => h.elim))))
            have kf53_ : M47_.1 (4, 0, 0) 1 = 1 := by rw [(hF51_ (4, 0, 0) 1 (by simp [S_c_X1_add]))]; exact kv0_4
            refine w_aload_n dX4_readNumber_86 rfl 3 rfl ?_
            refine w_dup dX4_readNumber_87 rfl ?_
            refine w_getI fl_RX4_41 rfl rfl ic_4 dX4_readNumber_88 (fun z54_ e55_ => ?_)
            refine w_iconst (v := 1) dX4_readNumber_91 (by decide) ?_
            refine w_iadd dX4_readNumber_92 (fun z56_ _ => ?_)
            refine w_putI CC_nd fl_RX4_41 rfl rfl ic_4 dX4_readNumber_93 (fun M57_ hM58_ => ?_)
            have hI59_ := hI50_.put hM58_ trivial
            have hF60_ := hF52_.put hM58_ (Or.inr (Or.inr (Or.inl ⟨rfl, rfl, rfl⟩)))
            have kf61_ : M57_.1 (4, 0, 0) 1 = 1 := by rw [(show M57_.1 (4, 0, 0) 1 = M47_.1 (4, 0, 0) 1 by rw [hM58_, up_ne (by simp)])]; exact kf53_
            exact w_vret rfl dX4_readNumber_96 ⟨hI59_, hF60_, trivial⟩
          · refine w_iload_n dX4_readNumber_46 rfl 0 rfl ?_
            refine w_bipush (v := 9) dX4_readNumber_47 (by decide) ?_
            refine w_icmp_le (tgt := 55) dX4_readNumber_49 (by decide) (rfl : z45_.toInt = z45_.toInt) li_9 (fun h62_ => ?_) (fun h62_ => ?_)
            · refine w_bipush (v := 10) dX4_readNumber_55 (by decide) ?_
              refine w_iload_n dX4_readNumber_57 rfl 2 rfl ?_
              refine w_imul dX4_readNumber_58 (fun z63_ _ => ?_)
              refine w_iload_n dX4_readNumber_59 rfl 0 rfl ?_
              refine w_iadd dX4_readNumber_60 (fun z64_ _ => ?_)
              refine w_istore_n (ls' := [(1, vI z64_), (3, vI z45_), (2, vI v2_4), (0, vR (4, 0, 0))]) dX4_readNumber_61 rfl (by decide) rfl ?_
              refine w_aload_n dX4_readNumber_62 rfl 3 rfl ?_
              refine w_dup dX4_readNumber_63 rfl ?_
              refine w_getI fl_RX4_31 rfl rfl ic_4 dX4_readNumber_64 (fun z65_ e66_ => ?_)
              obtain rfl : z18_ = z65_ := e19_.trans e66_.symm
              refine w_iconst (v := 1) dX4_readNumber_67 (by decide) ?_
              refine w_iaddB dX4_readNumber_68 (rfl : z18_.toInt = z18_.toInt) li_1 (lf_c_X4_readNumber_0 M_4 z18_ z20_ e19_ e21_ h22_) (fun z67_ h68_ => ?_)
              refine w_putI CC_nd fl_RX4_31 rfl rfl ic_4 dX4_readNumber_69 (fun M69_ hM70_ => ?_)
              have hI71_ := hI_4.put hM70_ trivial
              have hF72_ := hF_4.put hM70_ (Or.inr (Or.inr (Or.inr (Or.inl ⟨rfl, rfl, rfl⟩))))
              have kf73_ : M69_.1 (4, 0, 0) 1 = 1 := by rw [(show M69_.1 (4, 0, 0) 1 = M_4.1 (4, 0, 0) 1 by rw [hM70_, up_ne (by simp)])]; exact kv0_4
              refine w_iincB (j := 2) (f := fun z74_ => [(2, vI z74_), (1, vI z64_), (3, vI z45_), (0, vR (4, 0, 0))]) dX4_readNumber_72 rfl (by decide) (fun _ => rfl) (rfl : v2_4.toInt = v2_4.toInt) li_1 (lf_c_X4_readNumber_1 v2_4 hv0_4 hv1_4 h2_) (fun z74_ h75_ => ?_)
              refine w_goto (tgt := 4) dX4_readNumber_75 (by decide) ?_
              refine w_loc (ls' := [(2, vI z74_), (1, vI z64_), (0, vR (4, 0, 0))]) [0, 1, 3] rfl ?_
              exact ih_4 M69_ hI71_ hF72_ z74_ z64_ (lf_c_X4_readNumber_2 v2_4 z74_ hv0_4 hv1_4 h2_ h75_) (lf_c_X4_readNumber_3 v2_4 z74_ hv0_4 hv1_4 h2_ h75_) kf73_ (Nat.lt_of_lt_of_le (lf_c_X4_readNumber_4 v2_4 z74_ hv0_4 hv1_4 h2_ h75_) (Nat.le_of_lt_succ hm_4))
            · refine w_goto (tgt := 78) dX4_readNumber_52 (by decide) ?_
              refine w_aload_n dX4_readNumber_78 rfl 3 rfl ?_
              refine w_getR (c' := (1, 3, 0)) fl_RX4_10 rfl rfl ic_4 dX4_readNumber_79 rfl ?_
              refine w_iload_n dX4_readNumber_82 rfl 2 rfl ?_
              refine w_callVv (as := [vI v1_4]) (rest := []) (c_X1_add l G cy ad d 3 0 v1_4 M_4 hI_4 (by first | decide | (unfold vF; omega) | (unfold vRw; omega))) kV_X1_add (by decide +kernel) (Nat.le_of_ble_eq_true rfl) m_720 rfl rfl rfl (ic_1 (by unfold vF; omega)) rfl rfl (by decide) (Nat.le_of_ble_eq_true rfl) dX4_readNumber_83 (fun M76_ q77_ => ?_)
              obtain ⟨hI79_, hF80_, h78_⟩ := q77_
              have hF81_ := hF_4.tr hF80_ (fun c k => (fun h => h.elim (fun h => (Or.inl ⟨h.1, h.2.1, h.2.2⟩)) (fun h => h.elim (fun h => (Or.inr (Or.inl ⟨h.1, h.2.1, h.2.2.1, h.2.2.2⟩))) (fun h => h.elim))))
              have kf82_ : M76_.1 (4, 0, 0) 1 = 1 := by rw [(hF80_ (4, 0, 0) 1 (by simp [S_c_X1_add]))]; exact kv0_4
              refine w_aload_n dX4_readNumber_86 rfl 3 rfl ?_
              refine w_dup dX4_readNumber_87 rfl ?_
              refine w_getI fl_RX4_41 rfl rfl ic_4 dX4_readNumber_88 (fun z83_ e84_ => ?_)
              refine w_iconst (v := 1) dX4_readNumber_91 (by decide) ?_
              refine w_iadd dX4_readNumber_92 (fun z85_ _ => ?_)
              refine w_putI CC_nd fl_RX4_41 rfl rfl ic_4 dX4_readNumber_93 (fun M86_ hM87_ => ?_)
              have hI88_ := hI79_.put hM87_ trivial
              have hF89_ := hF81_.put hM87_ (Or.inr (Or.inr (Or.inl ⟨rfl, rfl, rfl⟩)))
              have kf90_ : M86_.1 (4, 0, 0) 1 = 1 := by rw [(show M86_.1 (4, 0, 0) 1 = M76_.1 (4, 0, 0) 1 by rw [hM87_, up_ne (by simp)])]; exact kf82_
              exact w_vret rfl dX4_readNumber_96 ⟨hI88_, hF89_, trivial⟩
  exact lp1_ _ Mz hIz hFz 0 0 (lf_c_X4_readNumber_5 ) (lf_c_X4_readNumber_6 ) hT (Nat.lt_succ_self _)
def S_c_X4_readName : rf → Nat → Prop := fun c k => (c.1 = 4 ∧ c.2.1 = 0 ∧ k = 4) ∨ (c.1 = 4 ∧ c.2.1 = 0 ∧ k = 3) ∨ (c.1 = 24 ∧ c.2.1 = 3 ∧ c.2.2 = 0) ∨ (c.1 = 1 ∧ c.2.1 = 3 ∧ c.2.2 = 0 ∧ k = 2) ∨ (c.1 = 4 ∧ c.2.1 = 0 ∧ k = 6) ∨ False
set_option maxHeartbeats 4000000 in
set_option maxRecDepth 100000 in
theorem c_X4_readName (l : Launch) (G : va_G) (cy : Nat → ClassId) (ad : rf → Nat) (d : Nat) (v : Int32) (Mz : mM) (hIz : Inv Mz) (hT : Mz.1 (4, 0, 0) 1 = 1) (hN : Mz.1 (4, 0, 0) 2 = 1 ∨ Mz.1 (4, 0, 0) 2 = 2 ∨ Mz.1 (4, 0, 0) 2 = 3) : WP CC l G cy ad yX4_readName cX4_readName 3 none (d + 8) 0 [(0, vR (4, 0, 0)), (1, vI v)] [] Mz (fun r M' => Inv M' ∧ FR (S_c_X4_readName) Mz M' ∧ True) := by
  have hFz : FR (S_c_X4_readName) Mz Mz := FR.self
  refine w_iload_n dX4_readName_0 rfl 1 rfl ?_
  refine w_if_lt (tgt := 10) dX4_readName_1 (by decide) (rfl : v.toInt = v.toInt) (fun h1_ => ?_) (fun h1_ => ?_)
  · refine w_iconst (v := (-1)) dX4_readName_10 (by decide) ?_
    refine w_goto (tgt := 23) dX4_readName_11 (by decide) ?_
    refine w_istore_n (ls' := [(2, vI (-1)), (0, vR (4, 0, 0)), (1, vI v)]) dX4_readName_23 rfl (by decide) rfl ?_
    refine w_iload_n dX4_readName_24 rfl 0 rfl ?_
    refine w_if_ge (tgt := 33) dX4_readName_25 (by decide) li_m1 (fun h9 => (absurd h9 (by decide))) (fun h2_ => ?_)
    refine w_aload_n dX4_readName_28 rfl 1 rfl ?_
    refine w_callVv (as := []) (rest := []) (c_X4_fail l G cy ad (d + 7) Mz hIz) kV_X4_fail (by decide +kernel) (Nat.le_of_ble_eq_true rfl) m_728 rfl rfl rfl ic_4 rfl rfl (by decide) (Nat.le_of_ble_eq_true rfl) dX4_readName_29 (fun M3_ q4_ => ?_)
    obtain ⟨hI6_, hF7_, h5_⟩ := q4_
    have hF8_ := hFz.tr hF7_ (fun c k => (fun h => h.elim (fun h => (Or.inl ⟨h.1, h.2.1, h.2.2⟩)) (fun h => h.elim)))
    have kf9_ : M3_.1 (4, 0, 0) 1 = 1 := by rw [(hF7_ (4, 0, 0) 1 (by simp [S_c_X4_fail]))]; exact hT
    have kf10_ : M3_.1 (4, 0, 0) 2 = 1 ∨ M3_.1 (4, 0, 0) 2 = 2 ∨ M3_.1 (4, 0, 0) 2 = 3 := by rw [(hF7_ (4, 0, 0) 2 (by simp [S_c_X4_fail]))]; exact hN
    exact w_vret rfl dX4_readName_32 ⟨hI6_, hF8_, trivial⟩
  · refine w_iload_n dX4_readName_4 rfl 1 rfl ?_
    refine w_bipush (v := 127) dX4_readName_5 (by decide) ?_
    refine w_icmp_le (tgt := 14) dX4_readName_7 (by decide) (rfl : v.toInt = v.toInt) li_127 (fun h11_ => ?_) (fun h11_ => ?_)
    · rcases hN with hN | hN | hN
      · refine w_aload_n dX4_readName_14 rfl 0 rfl ?_
        refine w_getR (c' := (91, 1, 0)) fl_RX4_27 rfl rfl ic_4 dX4_readName_15 (by rw [hN]; rfl) ?_
        refine w_iload_n dX4_readName_18 rfl 1 rfl ?_
        refine w_i2c dX4_readName_19 (fun z12_ h13_ => ?_)
        refine w_indexOf (k := 1) (by decide) m_740 (Nat.le_of_ble_eq_true rfl) (by omega) dX4_readName_20 (fun z14_ => ?_)
        refine w_istore_n (ls' := [(2, vI z14_), (0, vR (4, 0, 0)), (1, vI v)]) dX4_readName_23 rfl (by decide) rfl ?_
        refine w_iload_n dX4_readName_24 rfl 0 rfl ?_
        refine w_if_ge (tgt := 33) dX4_readName_25 (by decide) (rfl : z14_.toInt = z14_.toInt) (fun h15_ => ?_) (fun h15_ => ?_)
        · refine w_aload_n dX4_readName_33 rfl 1 rfl ?_
          refine w_dup dX4_readName_34 rfl ?_
          refine w_getI fl_RX4_31 rfl rfl ic_4 dX4_readName_35 (fun z16_ e17_ => ?_)
          refine w_iconst (v := 1) dX4_readName_38 (by decide) ?_
          refine w_iadd dX4_readName_39 (fun z18_ _ => ?_)
          refine w_putI CC_nd fl_RX4_31 rfl rfl ic_4 dX4_readName_40 (fun M19_ hM20_ => ?_)
          have hI21_ := hIz.put hM20_ trivial
          have hF22_ := hFz.put hM20_ (Or.inr (Or.inl ⟨rfl, rfl, rfl⟩))
          have kf23_ : M19_.1 (4, 0, 0) 1 = 1 := by rw [(show M19_.1 (4, 0, 0) 1 = Mz.1 (4, 0, 0) 1 by rw [hM20_, up_ne (by simp)])]; exact hT
          have kf24_ : M19_.1 (4, 0, 0) 2 = 1 := by rw [(show M19_.1 (4, 0, 0) 2 = Mz.1 (4, 0, 0) 2 by rw [hM20_, up_ne (by simp)])]; exact hN
          refine w_aload_n dX4_readName_43 rfl 1 rfl ?_
          refine w_getR (c' := (1, 3, 0)) fl_RX4_10 rfl rfl ic_4 dX4_readName_44 rfl ?_
          refine w_sipush (v := 1000) dX4_readName_47 (by decide) ?_
          refine w_iload_n dX4_readName_50 rfl 0 rfl ?_
          refine w_iadd dX4_readName_51 (fun z25_ _ => ?_)
          refine w_callVv (as := [vI z25_]) (rest := []) (c_X1_add l G cy ad (d + 7) 3 0 z25_ M19_ hI21_ (by first | decide | (unfold vF; omega) | (unfold vRw; omega))) kV_X1_add (by decide +kernel) (Nat.le_of_ble_eq_true rfl) m_720 rfl rfl rfl (ic_1 (by unfold vF; omega)) rfl rfl (by decide) (Nat.le_of_ble_eq_true rfl) dX4_readName_52 (fun M26_ q27_ => ?_)
          obtain ⟨hI29_, hF30_, h28_⟩ := q27_
          have hF31_ := hF22_.tr hF30_ (fun c k => (fun h => h.elim (fun h => (Or.inr (Or.inr (Or.inl ⟨h.1, h.2.1, h.2.2⟩)))) (fun h => h.elim (fun h => (Or.inr (Or.inr (Or.inr (Or.inl ⟨h.1, h.2.1, h.2.2.1, h.2.2.2⟩))))) (fun h => h.elim))))
          have kf32_ : M26_.1 (4, 0, 0) 1 = 1 := by rw [(hF30_ (4, 0, 0) 1 (by simp [S_c_X1_add]))]; exact kf23_
          have kf33_ : M26_.1 (4, 0, 0) 2 = 1 := by rw [(hF30_ (4, 0, 0) 2 (by simp [S_c_X1_add]))]; exact kf24_
          refine w_aload_n dX4_readName_55 rfl 1 rfl ?_
          refine w_dup dX4_readName_56 rfl ?_
          refine w_getI fl_RX4_41 rfl rfl ic_4 dX4_readName_57 (fun z34_ e35_ => ?_)
          refine w_iconst (v := 1) dX4_readName_60 (by decide) ?_
          refine w_iadd dX4_readName_61 (fun z36_ _ => ?_)
          refine w_putI CC_nd fl_RX4_41 rfl rfl ic_4 dX4_readName_62 (fun M37_ hM38_ => ?_)
          have hI39_ := hI29_.put hM38_ trivial
          have hF40_ := hF31_.put hM38_ (Or.inr (Or.inr (Or.inr (Or.inr (Or.inl ⟨rfl, rfl, rfl⟩)))))
          have kf41_ : M37_.1 (4, 0, 0) 1 = 1 := by rw [(show M37_.1 (4, 0, 0) 1 = M26_.1 (4, 0, 0) 1 by rw [hM38_, up_ne (by simp)])]; exact kf32_
          have kf42_ : M37_.1 (4, 0, 0) 2 = 1 := by rw [(show M37_.1 (4, 0, 0) 2 = M26_.1 (4, 0, 0) 2 by rw [hM38_, up_ne (by simp)])]; exact kf33_
          exact w_vret rfl dX4_readName_65 ⟨hI39_, hF40_, trivial⟩
        · refine w_aload_n dX4_readName_28 rfl 1 rfl ?_
          refine w_callVv (as := []) (rest := []) (c_X4_fail l G cy ad (d + 7) Mz hIz) kV_X4_fail (by decide +kernel) (Nat.le_of_ble_eq_true rfl) m_728 rfl rfl rfl ic_4 rfl rfl (by decide) (Nat.le_of_ble_eq_true rfl) dX4_readName_29 (fun M43_ q44_ => ?_)
          obtain ⟨hI46_, hF47_, h45_⟩ := q44_
          have hF48_ := hFz.tr hF47_ (fun c k => (fun h => h.elim (fun h => (Or.inl ⟨h.1, h.2.1, h.2.2⟩)) (fun h => h.elim)))
          have kf49_ : M43_.1 (4, 0, 0) 1 = 1 := by rw [(hF47_ (4, 0, 0) 1 (by simp [S_c_X4_fail]))]; exact hT
          have kf50_ : M43_.1 (4, 0, 0) 2 = 1 := by rw [(hF47_ (4, 0, 0) 2 (by simp [S_c_X4_fail]))]; exact hN
          exact w_vret rfl dX4_readName_32 ⟨hI46_, hF48_, trivial⟩
      · refine w_aload_n dX4_readName_14 rfl 0 rfl ?_
        refine w_getR (c' := (91, 2, 0)) fl_RX4_27 rfl rfl ic_4 dX4_readName_15 (by rw [hN]; rfl) ?_
        refine w_iload_n dX4_readName_18 rfl 1 rfl ?_
        refine w_i2c dX4_readName_19 (fun z51_ h52_ => ?_)
        refine w_indexOf (k := 2) (by decide) m_740 (Nat.le_of_ble_eq_true rfl) (by omega) dX4_readName_20 (fun z53_ => ?_)
        refine w_istore_n (ls' := [(2, vI z53_), (0, vR (4, 0, 0)), (1, vI v)]) dX4_readName_23 rfl (by decide) rfl ?_
        refine w_iload_n dX4_readName_24 rfl 0 rfl ?_
        refine w_if_ge (tgt := 33) dX4_readName_25 (by decide) (rfl : z53_.toInt = z53_.toInt) (fun h54_ => ?_) (fun h54_ => ?_)
        · refine w_aload_n dX4_readName_33 rfl 1 rfl ?_
          refine w_dup dX4_readName_34 rfl ?_
          refine w_getI fl_RX4_31 rfl rfl ic_4 dX4_readName_35 (fun z55_ e56_ => ?_)
          refine w_iconst (v := 1) dX4_readName_38 (by decide) ?_
          refine w_iadd dX4_readName_39 (fun z57_ _ => ?_)
          refine w_putI CC_nd fl_RX4_31 rfl rfl ic_4 dX4_readName_40 (fun M58_ hM59_ => ?_)
          have hI60_ := hIz.put hM59_ trivial
          have hF61_ := hFz.put hM59_ (Or.inr (Or.inl ⟨rfl, rfl, rfl⟩))
          have kf62_ : M58_.1 (4, 0, 0) 1 = 1 := by rw [(show M58_.1 (4, 0, 0) 1 = Mz.1 (4, 0, 0) 1 by rw [hM59_, up_ne (by simp)])]; exact hT
          have kf63_ : M58_.1 (4, 0, 0) 2 = 2 := by rw [(show M58_.1 (4, 0, 0) 2 = Mz.1 (4, 0, 0) 2 by rw [hM59_, up_ne (by simp)])]; exact hN
          refine w_aload_n dX4_readName_43 rfl 1 rfl ?_
          refine w_getR (c' := (1, 3, 0)) fl_RX4_10 rfl rfl ic_4 dX4_readName_44 rfl ?_
          refine w_sipush (v := 1000) dX4_readName_47 (by decide) ?_
          refine w_iload_n dX4_readName_50 rfl 0 rfl ?_
          refine w_iadd dX4_readName_51 (fun z64_ _ => ?_)
          refine w_callVv (as := [vI z64_]) (rest := []) (c_X1_add l G cy ad (d + 7) 3 0 z64_ M58_ hI60_ (by first | decide | (unfold vF; omega) | (unfold vRw; omega))) kV_X1_add (by decide +kernel) (Nat.le_of_ble_eq_true rfl) m_720 rfl rfl rfl (ic_1 (by unfold vF; omega)) rfl rfl (by decide) (Nat.le_of_ble_eq_true rfl) dX4_readName_52 (fun M65_ q66_ => ?_)
          obtain ⟨hI68_, hF69_, h67_⟩ := q66_
          have hF70_ := hF61_.tr hF69_ (fun c k => (fun h => h.elim (fun h => (Or.inr (Or.inr (Or.inl ⟨h.1, h.2.1, h.2.2⟩)))) (fun h => h.elim (fun h => (Or.inr (Or.inr (Or.inr (Or.inl ⟨h.1, h.2.1, h.2.2.1, h.2.2.2⟩))))) (fun h => h.elim))))
          have kf71_ : M65_.1 (4, 0, 0) 1 = 1 := by rw [(hF69_ (4, 0, 0) 1 (by simp [S_c_X1_add]))]; exact kf62_
          have kf72_ : M65_.1 (4, 0, 0) 2 = 2 := by rw [(hF69_ (4, 0, 0) 2 (by simp [S_c_X1_add]))]; exact kf63_
          refine w_aload_n dX4_readName_55 rfl 1 rfl ?_
          refine w_dup dX4_readName_56 rfl ?_
          refine w_getI fl_RX4_41 rfl rfl ic_4 dX4_readName_57 (fun z73_ e74_ => ?_)
          refine w_iconst (v := 1) dX4_readName_60 (by decide) ?_
          refine w_iadd dX4_readName_61 (fun z75_ _ => ?_)
          refine w_putI CC_nd fl_RX4_41 rfl rfl ic_4 dX4_readName_62 (fun M76_ hM77_ => ?_)
          have hI78_ := hI68_.put hM77_ trivial
          have hF79_ := hF70_.put hM77_ (Or.inr (Or.inr (Or.inr (Or.inr (Or.inl ⟨rfl, rfl, rfl⟩)))))
          have kf80_ : M76_.1 (4, 0, 0) 1 = 1 := by rw [(show M76_.1 (4, 0, 0) 1 = M65_.1 (4, 0, 0) 1 by rw [hM77_, up_ne (by simp)])]; exact kf71_
          have kf81_ : M76_.1 (4, 0, 0) 2 = 2 := by rw [(show M76_.1 (4, 0, 0) 2 = M65_.1 (4, 0, 0) 2 by rw [hM77_, up_ne (by simp)])]; exact kf72_
          exact w_vret rfl dX4_readName_65 ⟨hI78_, hF79_, trivial⟩
        · refine w_aload_n dX4_readName_28 rfl 1 rfl ?_
          refine w_callVv (as := []) (rest := []) (c_X4_fail l G cy ad (d + 7) Mz hIz) kV_X4_fail (by decide +kernel) (Nat.le_of_ble_eq_true rfl) m_728 rfl rfl rfl ic_4 rfl rfl (by decide) (Nat.le_of_ble_eq_true rfl) dX4_readName_29 (fun M82_ q83_ => ?_)
          obtain ⟨hI85_, hF86_, h84_⟩ := q83_
          have hF87_ := hFz.tr hF86_ (fun c k => (fun h => h.elim (fun h => (Or.inl ⟨h.1, h.2.1, h.2.2⟩)) (fun h => h.elim)))
          have kf88_ : M82_.1 (4, 0, 0) 1 = 1 := by rw [(hF86_ (4, 0, 0) 1 (by simp [S_c_X4_fail]))]; exact hT
          have kf89_ : M82_.1 (4, 0, 0) 2 = 2 := by rw [(hF86_ (4, 0, 0) 2 (by simp [S_c_X4_fail]))]; exact hN
          exact w_vret rfl dX4_readName_32 ⟨hI85_, hF87_, trivial⟩
      · refine w_aload_n dX4_readName_14 rfl 0 rfl ?_
        refine w_getR (c' := (91, 3, 0)) fl_RX4_27 rfl rfl ic_4 dX4_readName_15 (by rw [hN]; rfl) ?_
        refine w_iload_n dX4_readName_18 rfl 1 rfl ?_
        refine w_i2c dX4_readName_19 (fun z90_ h91_ => ?_)
        refine w_indexOf (k := 3) (by decide) m_740 (Nat.le_of_ble_eq_true rfl) (by omega) dX4_readName_20 (fun z92_ => ?_)
        refine w_istore_n (ls' := [(2, vI z92_), (0, vR (4, 0, 0)), (1, vI v)]) dX4_readName_23 rfl (by decide) rfl ?_
        refine w_iload_n dX4_readName_24 rfl 0 rfl ?_
        refine w_if_ge (tgt := 33) dX4_readName_25 (by decide) (rfl : z92_.toInt = z92_.toInt) (fun h93_ => ?_) (fun h93_ => ?_)
        · refine w_aload_n dX4_readName_33 rfl 1 rfl ?_
          refine w_dup dX4_readName_34 rfl ?_
          refine w_getI fl_RX4_31 rfl rfl ic_4 dX4_readName_35 (fun z94_ e95_ => ?_)
          refine w_iconst (v := 1) dX4_readName_38 (by decide) ?_
          refine w_iadd dX4_readName_39 (fun z96_ _ => ?_)
          refine w_putI CC_nd fl_RX4_31 rfl rfl ic_4 dX4_readName_40 (fun M97_ hM98_ => ?_)
          have hI99_ := hIz.put hM98_ trivial
          have hF100_ := hFz.put hM98_ (Or.inr (Or.inl ⟨rfl, rfl, rfl⟩))
          have kf101_ : M97_.1 (4, 0, 0) 1 = 1 := by rw [(show M97_.1 (4, 0, 0) 1 = Mz.1 (4, 0, 0) 1 by rw [hM98_, up_ne (by simp)])]; exact hT
          have kf102_ : M97_.1 (4, 0, 0) 2 = 3 := by rw [(show M97_.1 (4, 0, 0) 2 = Mz.1 (4, 0, 0) 2 by rw [hM98_, up_ne (by simp)])]; exact hN
          refine w_aload_n dX4_readName_43 rfl 1 rfl ?_
          refine w_getR (c' := (1, 3, 0)) fl_RX4_10 rfl rfl ic_4 dX4_readName_44 rfl ?_
          refine w_sipush (v := 1000) dX4_readName_47 (by decide) ?_
          refine w_iload_n dX4_readName_50 rfl 0 rfl ?_
          refine w_iadd dX4_readName_51 (fun z103_ _ => ?_)
          refine w_callVv (as := [vI z103_]) (rest := []) (c_X1_add l G cy ad (d + 7) 3 0 z103_ M97_ hI99_ (by first | decide | (unfold vF; omega) | (unfold vRw; omega))) kV_X1_add (by decide +kernel) (Nat.le_of_ble_eq_true rfl) m_720 rfl rfl rfl (ic_1 (by unfold vF; omega)) rfl rfl (by decide) (Nat.le_of_ble_eq_true rfl) dX4_readName_52 (fun M104_ q105_ => ?_)
          obtain ⟨hI107_, hF108_, h106_⟩ := q105_
          have hF109_ := hF100_.tr hF108_ (fun c k => (fun h => h.elim (fun h => (Or.inr (Or.inr (Or.inl ⟨h.1, h.2.1, h.2.2⟩)))) (fun h => h.elim (fun h => (Or.inr (Or.inr (Or.inr (Or.inl ⟨h.1, h.2.1, h.2.2.1, h.2.2.2⟩))))) (fun h => h.elim))))
          have kf110_ : M104_.1 (4, 0, 0) 1 = 1 := by rw [(hF108_ (4, 0, 0) 1 (by simp [S_c_X1_add]))]; exact kf101_
          have kf111_ : M104_.1 (4, 0, 0) 2 = 3 := by rw [(hF108_ (4, 0, 0) 2 (by simp [S_c_X1_add]))]; exact kf102_
          refine w_aload_n dX4_readName_55 rfl 1 rfl ?_
          refine w_dup dX4_readName_56 rfl ?_
          refine w_getI fl_RX4_41 rfl rfl ic_4 dX4_readName_57 (fun z112_ e113_ => ?_)
          refine w_iconst (v := 1) dX4_readName_60 (by decide) ?_
          refine w_iadd dX4_readName_61 (fun z114_ _ => ?_)
          refine w_putI CC_nd fl_RX4_41 rfl rfl ic_4 dX4_readName_62 (fun M115_ hM116_ => ?_)
          have hI117_ := hI107_.put hM116_ trivial
          have hF118_ := hF109_.put hM116_ (Or.inr (Or.inr (Or.inr (Or.inr (Or.inl ⟨rfl, rfl, rfl⟩)))))
          have kf119_ : M115_.1 (4, 0, 0) 1 = 1 := by rw [(show M115_.1 (4, 0, 0) 1 = M104_.1 (4, 0, 0) 1 by rw [hM116_, up_ne (by simp)])]; exact kf110_
          have kf120_ : M115_.1 (4, 0, 0) 2 = 3 := by rw [(show M115_.1 (4, 0, 0) 2 = M104_.1 (4, 0, 0) 2 by rw [hM116_, up_ne (by simp)])]; exact kf111_
          exact w_vret rfl dX4_readName_65 ⟨hI117_, hF118_, trivial⟩
        · refine w_aload_n dX4_readName_28 rfl 1 rfl ?_
          refine w_callVv (as := []) (rest := []) (c_X4_fail l G cy ad (d + 7) Mz hIz) kV_X4_fail (by decide +kernel) (Nat.le_of_ble_eq_true rfl) m_728 rfl rfl rfl ic_4 rfl rfl (by decide) (Nat.le_of_ble_eq_true rfl) dX4_readName_29 (fun M121_ q122_ => ?_)
          obtain ⟨hI124_, hF125_, h123_⟩ := q122_
          have hF126_ := hFz.tr hF125_ (fun c k => (fun h => h.elim (fun h => (Or.inl ⟨h.1, h.2.1, h.2.2⟩)) (fun h => h.elim)))
          have kf127_ : M121_.1 (4, 0, 0) 1 = 1 := by rw [(hF125_ (4, 0, 0) 1 (by simp [S_c_X4_fail]))]; exact hT
          have kf128_ : M121_.1 (4, 0, 0) 2 = 3 := by rw [(hF125_ (4, 0, 0) 2 (by simp [S_c_X4_fail]))]; exact hN
          exact w_vret rfl dX4_readName_32 ⟨hI124_, hF126_, trivial⟩
    · refine w_iconst (v := (-1)) dX4_readName_10 (by decide) ?_
      refine w_goto (tgt := 23) dX4_readName_11 (by decide) ?_
      refine w_istore_n (ls' := [(2, vI (-1)), (0, vR (4, 0, 0)), (1, vI v)]) dX4_readName_23 rfl (by decide) rfl ?_
      refine w_iload_n dX4_readName_24 rfl 0 rfl ?_
      refine w_if_ge (tgt := 33) dX4_readName_25 (by decide) li_m1 (fun h9 => (absurd h9 (by decide))) (fun h129_ => ?_)
      refine w_aload_n dX4_readName_28 rfl 1 rfl ?_
      refine w_callVv (as := []) (rest := []) (c_X4_fail l G cy ad (d + 7) Mz hIz) kV_X4_fail (by decide +kernel) (Nat.le_of_ble_eq_true rfl) m_728 rfl rfl rfl ic_4 rfl rfl (by decide) (Nat.le_of_ble_eq_true rfl) dX4_readName_29 (fun M130_ q131_ => ?_)
      obtain ⟨hI133_, hF134_, h132_⟩ := q131_
      have hF135_ := hFz.tr hF134_ (fun c k => (fun h => h.elim (fun h => (Or.inl ⟨h.1, h.2.1, h.2.2⟩)) (fun h => h.elim)))
      have kf136_ : M130_.1 (4, 0, 0) 1 = 1 := by rw [(hF134_ (4, 0, 0) 1 (by simp [S_c_X4_fail]))]; exact hT
      have kf137_ : M130_.1 (4, 0, 0) 2 = 1 ∨ M130_.1 (4, 0, 0) 2 = 2 ∨ M130_.1 (4, 0, 0) 2 = 3 := by rw [(hF134_ (4, 0, 0) 2 (by simp [S_c_X4_fail]))]; exact hN
      exact w_vret rfl dX4_readName_32 ⟨hI133_, hF135_, trivial⟩
