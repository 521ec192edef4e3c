theorem lf_c_X10_hasWalker_0 (Mz : mM) (b : Nat) (v : Int32) (z2_ : Int32) (hb : b < 3) (h1_ : 0 ≤ v.toInt) (e3_ : z2_ = Mz.1 (10, b, 0) 6) (h4_ : v.toInt < z2_.toInt) (h5_ : v.toInt < 8) : 0 ≤ v.toInt ∧ v.toInt ≤ 7 := by have r_v := rngI v; have r_z2_ := rngI z2_; subst e3_; omega
set_option maxHeartbeats 4000000 in
set_option maxRecDepth 100000 in
theorem c_X10_hasWalker (l : Launch) (G : va_G) (cy : Nat → ClassId) (ad : rf → Nat) (d : Nat) (b : Nat) (v : Int32) (Mz : mM) (hIz : Inv Mz) (hb : b < 3) : WP CC l G cy ad yX10_hasWalker cX10_hasWalker 2 (some .boolean) d 0 [(0, vR (10, b, 0)), (1, vI v)] [] Mz (fun r M' => Mz = M' ∧ ((r = 1 ∧ 0 ≤ v.toInt ∧ v.toInt ≤ 7) ∨ r = 0)) := by
  refine w_iload_n dX10_hasWalker_0 rfl 1 rfl ?_
  refine w_if_lt (tgt := 22) dX10_hasWalker_1 (by decide) (rfl : v.toInt = v.toInt) (fun h1_ => ?_) (fun h1_ => ?_)
  · refine w_iconst (v := 0) dX10_hasWalker_22 (by decide) ?_
    exact w_zret rfl dX10_hasWalker_23 ⟨by decide, by decide⟩ ⟨rfl, (Or.inr rfl)⟩
  · refine w_iload_n dX10_hasWalker_4 rfl 1 rfl ?_
    refine w_aload_n dX10_hasWalker_5 rfl 0 rfl ?_
    refine w_getI fl_RX10_50 rfl rfl (ic_10 hb) dX10_hasWalker_6 (fun z2_ e3_ => ?_)
    refine w_icmp_ge (tgt := 22) dX10_hasWalker_9 (by decide) (rfl : v.toInt = v.toInt) (rfl : z2_.toInt = z2_.toInt) (fun h4_ => ?_) (fun h4_ => ?_)
    · refine w_iconst (v := 0) dX10_hasWalker_22 (by decide) ?_
      exact w_zret rfl dX10_hasWalker_23 ⟨by decide, by decide⟩ ⟨rfl, (Or.inr rfl)⟩
    · refine w_iload_n dX10_hasWalker_12 rfl 1 rfl ?_
      refine w_bipush (v := 8) dX10_hasWalker_13 (by decide) ?_
      refine w_icmp_ge (tgt := 22) dX10_hasWalker_15 (by decide) (rfl : v.toInt = v.toInt) li_8 (fun h5_ => ?_) (fun h5_ => ?_)
      · refine w_iconst (v := 0) dX10_hasWalker_22 (by decide) ?_
        exact w_zret rfl dX10_hasWalker_23 ⟨by decide, by decide⟩ ⟨rfl, (Or.inr rfl)⟩
      · refine w_iconst (v := 1) dX10_hasWalker_18 (by decide) ?_
        refine w_goto (tgt := 23) dX10_hasWalker_19 (by decide) ?_
        exact w_zret rfl dX10_hasWalker_23 ⟨by decide, by decide⟩ ⟨rfl, (Or.inl ⟨rfl, (lf_c_X10_hasWalker_0 Mz b v z2_ hb h1_ e3_ h4_ h5_)⟩)⟩
def S_c_X10_addWalker (b : Nat) : rf → Nat → Prop := fun c k => (c.1 = 9 ∧ c.2.1 = b ∧ k = 0) ∨ (c.1 = 9 ∧ c.2.1 = b ∧ k = 1) ∨ (c.1 = 9 ∧ c.2.1 = b ∧ k = 2) ∨ (c.1 = 9 ∧ c.2.1 = b ∧ k = 3) ∨ (c.1 = 9 ∧ c.2.1 = b ∧ k = 4) ∨ (c.1 = 9 ∧ c.2.1 = b ∧ k = 5) ∨ (c.1 = 9 ∧ c.2.1 = b ∧ k = 6) ∨ (c.1 = 9 ∧ c.2.1 = b ∧ k = 7) ∨ (c.1 = 9 ∧ c.2.1 = b ∧ k = 8) ∨ (c.1 = 40 ∧ c.2.1 = b) ∨ (c.1 = 41 ∧ c.2.1 = b) ∨ (c.1 = 35 ∧ c.2.1 = b) ∨ (c.1 = 10 ∧ c.2.1 = b ∧ k = 6) ∨ False
theorem lf_c_X10_addWalker_0 (Mz : mM) (b : Nat) (z1_ : Int32) (hb : b < 3) (e2_ : z1_ = Mz.1 (10, b, 0) 6) (h3_ : 0 ≤ z1_.toInt) (h4_ : z1_.toInt < 8) : 0 ≤ z1_.toInt ∧ z1_.toInt < ((8 : Nat) : Int) := by have r_z1_ := rngI z1_; subst e2_; omega
theorem lf_c_X10_addWalker_1 (Mz : mM) (b : Nat) (z1_ : Int32) (j5_ : Nat) (hb : b < 3) (e2_ : z1_ = Mz.1 (10, b, 0) 6) (h3_ : 0 ≤ z1_.toInt) (h4_ : z1_.toInt < 8) (h6_ : (j5_ : Int) = z1_.toInt) (h7_ : j5_ < 8) : -2147483648 ≤ 100 + z1_.toInt ∧ 100 + z1_.toInt < 2147483648 := by have r_z1_ := rngI z1_; subst e2_; omega
set_option maxHeartbeats 4000000 in
set_option maxRecDepth 100000 in
theorem c_X10_addWalker (l : Launch) (G : va_G) (cy : Nat → ClassId) (ad : rf → Nat) (d : Nat) (b : Nat) (v : Int32) (u : Int32) (t : Int32) (Mz : mM) (hIz : Inv Mz) (hb : b < 3) : WP CC l G cy ad yX10_addWalker cX10_addWalker 5 (some .int) (d + 2) 0 [(0, vR (10, b, 0)), (1, vI v), (2, vI u), (3, vI t)] [] Mz (fun r M' => Inv M' ∧ FR (S_c_X10_addWalker b) Mz M' ∧ True) := by
  have hFz : FR (S_c_X10_addWalker b) Mz Mz := FR.self
  refine w_aload_n dX10_addWalker_0 rfl 0 rfl ?_
  refine w_getI fl_RX10_50 rfl rfl (ic_10 hb) dX10_addWalker_1 (fun z1_ e2_ => ?_)
  refine w_istore (ls' := [(4, vI z1_), (0, vR (10, b, 0)), (1, vI v), (2, vI u), (3, vI t)]) dX10_addWalker_4 (by decide) rfl ?_
  refine w_iload dX10_addWalker_6 0 rfl ?_
  refine w_if_lt (tgt := 18) dX10_addWalker_8 (by decide) (rfl : z1_.toInt = z1_.toInt) (fun h3_ => ?_) (fun h3_ => ?_)
  · refine w_iconst (v := (-1)) dX10_addWalker_18 (by decide) ?_
    exact w_iret rfl dX10_addWalker_19 ⟨hIz, hFz, trivial⟩
  · refine w_iload dX10_addWalker_11 0 rfl ?_
    refine w_bipush (v := 8) dX10_addWalker_13 (by decide) ?_
    refine w_icmp_lt (tgt := 20) dX10_addWalker_15 (by decide) (rfl : z1_.toInt = z1_.toInt) li_8 (fun h4_ => ?_) (fun h4_ => ?_)
    · refine w_aload_n dX10_addWalker_20 rfl 1 rfl ?_
      refine w_getR (c' := (42, b, 0)) fl_RX10_46 rfl rfl (ic_10 hb) dX10_addWalker_21 rfl ?_
      refine w_iload dX10_addWalker_24 0 rfl ?_
      refine w_aald rfl rfl rfl (fun _ => rfl) (ic_42 hb) (rfl : z1_.toInt = z1_.toInt) (lf_c_X10_addWalker_0 Mz b z1_ hb e2_ h3_ h4_) dX10_addWalker_26 (fun j5_ h6_ h7_ => ?_)
      refine w_iload_n dX10_addWalker_27 rfl 2 rfl ?_
      refine w_iload_n dX10_addWalker_28 rfl 3 rfl ?_
      refine w_iload_n dX10_addWalker_29 rfl 4 rfl ?_
      refine w_callVv (as := [vI v, vI u, vI t]) (rest := []) (c_X9_begin l G cy ad (d + 1) b j5_ v u t Mz hIz hb h7_) kV_X9_begin (by decide +kernel) (Nat.le_of_ble_eq_true rfl) m_600 rfl rfl rfl (ic_9 hb h7_) rfl rfl (by decide) (Nat.le_of_ble_eq_true rfl) dX10_addWalker_30 (fun M8_ q9_ => ?_)
      obtain ⟨hI11_, hF12_, h10_⟩ := q9_
      have hF13_ := hFz.tr hF12_ (fun c k => (fun h => h.elim (fun h => (Or.inl ⟨h.1, h.2.1, h.2.2.2⟩)) (fun h => h.elim (fun h => (Or.inr (Or.inl ⟨h.1, h.2.1, h.2.2.2⟩))) (fun h => h.elim (fun h => (Or.inr (Or.inr (Or.inl ⟨h.1, h.2.1, h.2.2.2⟩)))) (fun h => h.elim (fun h => (Or.inr (Or.inr (Or.inr (Or.inl ⟨h.1, h.2.1, h.2.2.2⟩))))) (fun h => h.elim (fun h => (Or.inr (Or.inr (Or.inr (Or.inr (Or.inl ⟨h.1, h.2.1, h.2.2.2⟩)))))) (fun h => h.elim (fun h => (Or.inr (Or.inr (Or.inr (Or.inr (Or.inr (Or.inl ⟨h.1, h.2.1, h.2.2.2⟩))))))) (fun h => h.elim (fun h => (Or.inr (Or.inr (Or.inr (Or.inr (Or.inr (Or.inr (Or.inl ⟨h.1, h.2.1, h.2.2.2⟩)))))))) (fun h => h.elim (fun h => (Or.inr (Or.inr (Or.inr (Or.inr (Or.inr (Or.inr (Or.inr (Or.inl ⟨h.1, h.2.1, h.2.2.2⟩))))))))) (fun h => h.elim (fun h => (Or.inr (Or.inr (Or.inr (Or.inr (Or.inr (Or.inr (Or.inr (Or.inr (Or.inl ⟨h.1, h.2.1, h.2.2.2⟩)))))))))) (fun h => h.elim (fun h => (Or.inr (Or.inr (Or.inr (Or.inr (Or.inr (Or.inr (Or.inr (Or.inr (Or.inr (Or.inl ⟨h.1, h.2.1⟩))))))))))) (fun h => h.elim (fun h => (Or.inr (Or.inr (Or.inr (Or.inr (Or.inr (Or.inr (Or.inr (Or.inr (Or.inr (Or.inr (Or.inl ⟨h.1, h.2.1⟩)))))))))))) (fun h => h.elim)))))))))))))
      refine w_aload_n dX10_addWalker_33 rfl 1 rfl ?_
      refine w_getR (c' := (7, b, 0)) fl_RX10_10 rfl rfl (ic_10 hb) dX10_addWalker_34 rfl ?_
      refine w_iload_n dX10_addWalker_37 rfl 3 rfl ?_
      refine w_bipush (v := 100) dX10_addWalker_38 (by decide) ?_
      refine w_iload dX10_addWalker_40 0 rfl ?_
      refine w_iaddB dX10_addWalker_42 li_100 (rfl : z1_.toInt = z1_.toInt) (lf_c_X10_addWalker_1 Mz b z1_ j5_ hb e2_ h3_ h4_ h6_ h7_) (fun z14_ h15_ => ?_)
      refine w_callVv (as := [vI u, vI z14_]) (rest := []) (c_X7_settle l G cy ad d b u z14_ M8_ hI11_ hb) kV_X7_settle (by decide +kernel) (Nat.le_of_ble_eq_true rfl) m_604 rfl rfl rfl (ic_7 hb) rfl rfl (by decide) (Nat.le_of_ble_eq_true rfl) dX10_addWalker_43 (fun M16_ q17_ => ?_)
      obtain ⟨hI19_, hF20_, h18_⟩ := q17_
      have hF21_ := hF13_.tr hF20_ (fun c k => (fun h => h.elim (fun h => (Or.inr (Or.inr (Or.inr (Or.inr (Or.inr (Or.inr (Or.inr (Or.inr (Or.inr (Or.inr (Or.inr (Or.inl ⟨h.1, h.2⟩))))))))))))) (fun h => h.elim)))
      refine w_aload_n dX10_addWalker_46 rfl 1 rfl ?_
      refine w_dup dX10_addWalker_47 rfl ?_
      refine w_getI fl_RX10_50 rfl rfl (ic_10 hb) dX10_addWalker_48 (fun z22_ e23_ => ?_)
      refine w_iconst (v := 1) dX10_addWalker_51 (by decide) ?_
      refine w_iadd dX10_addWalker_52 (fun z24_ _ => ?_)
      refine w_putI CC_nd fl_RX10_50 rfl rfl (ic_10 hb) dX10_addWalker_53 (fun M25_ hM26_ => ?_)
      have hI27_ := hI19_.put hM26_ trivial
      have hF28_ := hF21_.put hM26_ (Or.inr (Or.inr (Or.inr (Or.inr (Or.inr (Or.inr (Or.inr (Or.inr (Or.inr (Or.inr (Or.inr (Or.inr (Or.inl ⟨rfl, rfl, rfl⟩)))))))))))))
      refine w_iload dX10_addWalker_56 0 rfl ?_
      exact w_iret rfl dX10_addWalker_58 ⟨hI27_, hF28_, trivial⟩
    · refine w_iconst (v := (-1)) dX10_addWalker_18 (by decide) ?_
      exact w_iret rfl dX10_addWalker_19 ⟨hIz, hFz, trivial⟩
theorem lf_c_X10_countBumps_0 (Mz : mM) (b : Nat) (v2_4 : Int32) (z2_ : Int32) (hb : b < 3) (hv0_4 : 0 ≤ v2_4.toInt) (e3_ : z2_ = Mz.1 (10, b, 0) 6) (h4_ : v2_4.toInt < z2_.toInt) (h5_ : v2_4.toInt < 8) : 0 ≤ v2_4.toInt ∧ v2_4.toInt < ((8 : Nat) : Int) := by have r_v2_4 := rngI v2_4; have r_z2_ := rngI z2_; subst e3_; omega
theorem lf_c_X10_countBumps_1 (Mz : mM) (b : Nat) (v2_4 : Int32) (z2_ : Int32) (j6_ : Nat) (z9_ : Int32) (hb : b < 3) (hv0_4 : 0 ≤ v2_4.toInt) (e3_ : z2_ = Mz.1 (10, b, 0) 6) (h4_ : v2_4.toInt < z2_.toInt) (h5_ : v2_4.toInt < 8) (h7_ : (j6_ : Int) = v2_4.toInt) (h8_ : j6_ < 8) (e10_ : z9_ = Mz.1 (9, b, j6_) 7) : -2147483648 ≤ v2_4.toInt + 1 ∧ v2_4.toInt + 1 < 2147483648 := by have r_v2_4 := rngI v2_4; have r_z2_ := rngI z2_; have r_z9_ := rngI z9_; subst e3_; subst e10_; omega
theorem lf_c_X10_countBumps_2 (Mz : mM) (b : Nat) (v2_4 : Int32) (z2_ : Int32) (j6_ : Nat) (z9_ : Int32) (z12_ : Int32) (hb : b < 3) (hv0_4 : 0 ≤ v2_4.toInt) (e3_ : z2_ = Mz.1 (10, b, 0) 6) (h4_ : v2_4.toInt < z2_.toInt) (h5_ : v2_4.toInt < 8) (h7_ : (j6_ : Int) = v2_4.toInt) (h8_ : j6_ < 8) (e10_ : z9_ = Mz.1 (9, b, j6_) 7) (h13_ : z12_.toInt = v2_4.toInt + 1) : 0 ≤ z12_.toInt := by have r_v2_4 := rngI v2_4; have r_z2_ := rngI z2_; have r_z9_ := rngI z9_; have r_z12_ := rngI z12_; omega
theorem lf_c_X10_countBumps_3 (Mz : mM) (b : Nat) (v2_4 : Int32) (z2_ : Int32) (j6_ : Nat) (z9_ : Int32) (z12_ : Int32) (hb : b < 3) (hv0_4 : 0 ≤ v2_4.toInt) (e3_ : z2_ = Mz.1 (10, b, 0) 6) (h4_ : v2_4.toInt < z2_.toInt) (h5_ : v2_4.toInt < 8) (h7_ : (j6_ : Int) = v2_4.toInt) (h8_ : j6_ < 8) (e10_ : z9_ = Mz.1 (9, b, j6_) 7) (h13_ : z12_.toInt = v2_4.toInt + 1) : (2147483648 - z12_.toInt).toNat < (2147483648 - v2_4.toInt).toNat := by have r_v2_4 := rngI v2_4; have r_z2_ := rngI z2_; have r_z9_ := rngI z9_; have r_z12_ := rngI z12_; omega
theorem lf_c_X10_countBumps_4    : 0 ≤ (0 : Int32).toInt := by have q0 := li_0; omega
set_option maxHeartbeats 4000000 in
set_option maxRecDepth 100000 in
theorem c_X10_countBumps (l : Launch) (G : va_G) (cy : Nat → ClassId) (ad : rf → Nat) (d : Nat) (b : Nat) (Mz : mM) (hIz : Inv Mz) (hb : b < 3) : WP CC l G cy ad yX10_countBumps cX10_countBumps 3 (some .int) d 0 [(0, vR (10, b, 0))] [] Mz (fun r M' => Mz = M' ∧ True) := by
  refine w_iconst (v := 0) dX10_countBumps_0 (by decide) ?_
  refine w_istore_n (ls' := [(1, vI 0), (0, vR (10, b, 0))]) dX10_countBumps_1 rfl (by decide) rfl ?_
  refine w_iconst (v := 0) dX10_countBumps_2 (by decide) ?_
  refine w_istore_n (ls' := [(2, vI 0), (1, vI 0), (0, vR (10, b, 0))]) dX10_countBumps_3 rfl (by decide) rfl ?_
  have lp1_ : ∀ (nn_4 : Nat) (v2_4 : Int32) (v1_4 : Int32) (hv0_4 : 0 ≤ v2_4.toInt), (2147483648 - v2_4.toInt).toNat < nn_4 → WP CC l G cy ad yX10_countBumps cX10_countBumps 3 (some .int) d 4 [(2, vI v2_4), (1, vI v1_4), (0, vR (10, b, 0))] [] Mz (fun r M' => Mz = M' ∧ True) := by
    intro nn_4
    induction nn_4 with
    | zero => intro v2_4 v1_4 hv0_4 hm_4; exact absurd hm_4 (Nat.not_lt_zero _)
    | succ nn_4 ih_4 =>
      intro v2_4 v1_4 hv0_4 hm_4
      refine w_iload_n dX10_countBumps_4 rfl 0 rfl ?_
      refine w_aload_n dX10_countBumps_5 rfl 2 rfl ?_
      refine w_getI fl_RX10_50 rfl rfl (ic_10 hb) dX10_countBumps_6 (fun z2_ e3_ => ?_)
      refine w_icmp_ge (tgt := 36) dX10_countBumps_9 (by decide) (rfl : v2_4.toInt = v2_4.toInt) (rfl : z2_.toInt = z2_.toInt) (fun h4_ => ?_) (fun h4_ => ?_)
      · refine w_iload_n dX10_countBumps_36 rfl 1 rfl ?_
        exact w_iret rfl dX10_countBumps_37 ⟨rfl, trivial⟩
      · refine w_iload_n dX10_countBumps_12 rfl 0 rfl ?_
        refine w_bipush (v := 8) dX10_countBumps_13 (by decide) ?_
        refine w_icmp_ge (tgt := 36) dX10_countBumps_15 (by decide) (rfl : v2_4.toInt = v2_4.toInt) li_8 (fun h5_ => ?_) (fun h5_ => ?_)
        · refine w_iload_n dX10_countBumps_36 rfl 1 rfl ?_
          exact w_iret rfl dX10_countBumps_37 ⟨rfl, trivial⟩
        · refine w_iload_n dX10_countBumps_18 rfl 1 rfl ?_
          refine w_aload_n dX10_countBumps_19 rfl 2 rfl ?_
          refine w_getR (c' := (42, b, 0)) fl_RX10_46 rfl rfl (ic_10 hb) dX10_countBumps_20 rfl ?_
          refine w_iload_n dX10_countBumps_23 rfl 0 rfl ?_
          refine w_aald rfl rfl rfl (fun _ => rfl) (ic_42 hb) (rfl : v2_4.toInt = v2_4.toInt) (lf_c_X10_countBumps_0 Mz b v2_4 z2_ hb hv0_4 e3_ h4_ h5_) dX10_countBumps_24 (fun j6_ h7_ h8_ => ?_)
          refine w_getI fl_RX10_66 rfl rfl (ic_9 hb h8_) dX10_countBumps_25 (fun z9_ e10_ => ?_)
          refine w_iadd dX10_countBumps_28 (fun z11_ _ => ?_)
          refine w_istore_n (ls' := [(1, vI z11_), (2, vI v2_4), (0, vR (10, b, 0))]) dX10_countBumps_29 rfl (by decide) rfl ?_
          refine w_iincB (j := 1) (f := fun z12_ => [(2, vI z12_), (1, vI z11_), (0, vR (10, b, 0))]) dX10_countBumps_30 rfl (by decide) (fun _ => rfl) (rfl : v2_4.toInt = v2_4.toInt) li_1 (lf_c_X10_countBumps_1 Mz b v2_4 z2_ j6_ z9_ hb hv0_4 e3_ h4_ h5_ h7_ h8_ e10_) (fun z12_ h13_ => ?_)
          refine w_goto (tgt := 4) dX10_countBumps_33 (by decide) ?_
          refine w_loc (ls' := [(2, vI z12_), (1, vI z11_), (0, vR (10, b, 0))]) [0, 1, 2] rfl ?_
          exact ih_4 z12_ z11_ (lf_c_X10_countBumps_2 Mz b v2_4 z2_ j6_ z9_ z12_ hb hv0_4 e3_ h4_ h5_ h7_ h8_ e10_ h13_) (Nat.lt_of_lt_of_le (lf_c_X10_countBumps_3 Mz b v2_4 z2_ j6_ z9_ z12_ hb hv0_4 e3_ h4_ h5_ h7_ h8_ e10_ h13_) (Nat.le_of_lt_succ hm_4))
  exact lp1_ _ 0 0 (lf_c_X10_countBumps_4 ) (Nat.lt_succ_self _)
theorem lf_c_X10_countClicks_0 (Mz : mM) (b : Nat) (v2_4 : Int32) (z2_ : Int32) (hb : b < 3) (hv0_4 : 0 ≤ v2_4.toInt) (e3_ : z2_ = Mz.1 (10, b, 0) 6) (h4_ : v2_4.toInt < z2_.toInt) (h5_ : v2_4.toInt < 8) : 0 ≤ v2_4.toInt ∧ v2_4.toInt < ((8 : Nat) : Int) := by have r_v2_4 := rngI v2_4; have r_z2_ := rngI z2_; subst e3_; omega
theorem lf_c_X10_countClicks_1 (Mz : mM) (b : Nat) (v2_4 : Int32) (z2_ : Int32) (j6_ : Nat) (z9_ : Int32) (hb : b < 3) (hv0_4 : 0 ≤ v2_4.toInt) (e3_ : z2_ = Mz.1 (10, b, 0) 6) (h4_ : v2_4.toInt < z2_.toInt) (h5_ : v2_4.toInt < 8) (h7_ : (j6_ : Int) = v2_4.toInt) (h8_ : j6_ < 8) (e10_ : z9_ = Mz.1 (9, b, j6_) 8) : -2147483648 ≤ v2_4.toInt + 1 ∧ v2_4.toInt + 1 < 2147483648 := by have r_v2_4 := rngI v2_4; have r_z2_ := rngI z2_; have r_z9_ := rngI z9_; subst e3_; subst e10_; omega
theorem lf_c_X10_countClicks_2 (Mz : mM) (b : Nat) (v2_4 : Int32) (z2_ : Int32) (j6_ : Nat) (z9_ : Int32) (z12_ : Int32) (hb : b < 3) (hv0_4 : 0 ≤ v2_4.toInt) (e3_ : z2_ = Mz.1 (10, b, 0) 6) (h4_ : v2_4.toInt < z2_.toInt) (h5_ : v2_4.toInt < 8) (h7_ : (j6_ : Int) = v2_4.toInt) (h8_ : j6_ < 8) (e10_ : z9_ = Mz.1 (9, b, j6_) 8) (h13_ : z12_.toInt = v2_4.toInt + 1) : 0 ≤ z12_.toInt := by have r_v2_4 := rngI v2_4; have r_z2_ := rngI z2_; have r_z9_ := rngI z9_; have r_z12_ := rngI z12_; omega
theorem lf_c_X10_countClicks_3 (Mz : mM) (b : Nat) (v2_4 : Int32) (z2_ : Int32) (j6_ : Nat) (z9_ : Int32) (z12_ : Int32) (hb : b < 3) (hv0_4 : 0 ≤ v2_4.toInt) (e3_ : z2_ = Mz.1 (10, b, 0) 6) (h4_ : v2_4.toInt < z2_.toInt) (h5_ : v2_4.toInt < 8) (h7_ : (j6_ : Int) = v2_4.toInt) (h8_ : j6_ < 8) (e10_ : z9_ = Mz.1 (9, b, j6_) 8) (h13_ : z12_.toInt = v2_4.toInt + 1) : (2147483648 - z12_.toInt).toNat < (2147483648 - v2_4.toInt).toNat := by have r_v2_4 := rngI v2_4; have r_z2_ := rngI z2_; have r_z9_ := rngI z9_; have r_z12_ := rngI z12_; omega
theorem lf_c_X10_countClicks_4    : 0 ≤ (0 : Int32).toInt := by have q0 := li_0; omega
set_option maxHeartbeats 4000000 in
set_option maxRecDepth 100000 in
theorem c_X10_countClicks (l : Launch) (G : va_G) (cy : Nat → ClassId) (ad : rf → Nat) (d : Nat) (b : Nat) (Mz : mM) (hIz : Inv Mz) (hb : b < 3) : WP CC l G cy ad yX10_countClicks cX10_countClicks 3 (some .int) d 0 [(0, vR (10, b, 0))] [] Mz (fun r M' => Mz = M' ∧ True) := by
  refine w_iconst (v := 0) dX10_countClicks_0 (by decide) ?_
  refine w_istore_n (ls' := [(1, vI 0), (0, vR (10, b, 0))]) dX10_countClicks_1 rfl (by decide) rfl ?_
  refine w_iconst (v := 0) dX10_countClicks_2 (by decide) ?_
  refine w_istore_n (ls' := [(2, vI 0), (1, vI 0), (0, vR (10, b, 0))]) dX10_countClicks_3 rfl (by decide) rfl ?_
  have lp1_ : ∀ (nn_4 : Nat) (v2_4 : Int32) (v1_4 : Int32) (hv0_4 : 0 ≤ v2_4.toInt), (2147483648 - v2_4.toInt).toNat < nn_4 → WP CC l G cy ad yX10_countClicks cX10_countClicks 3 (some .int) d 4 [(2, vI v2_4), (1, vI v1_4), (0, vR (10, b, 0))] [] Mz (fun r M' => Mz = M' ∧ True) := by
    intro nn_4
    induction nn_4 with
    | zero => intro v2_4 v1_4 hv0_4 hm_4; exact absurd hm_4 (Nat.not_lt_zero _)
    | succ nn_4 ih_4 =>
      intro v2_4 v1_4 hv0_4 hm_4
      refine w_iload_n dX10_countClicks_4 rfl 0 rfl ?_
      refine w_aload_n dX10_countClicks_5 rfl 2 rfl ?_
      refine w_getI fl_RX10_50 rfl rfl (ic_10 hb) dX10_countClicks_6 (fun z2_ e3_ => ?_)
      refine w_icmp_ge (tgt := 36) dX10_countClicks_9 (by decide) (rfl : v2_4.toInt = v2_4.toInt) (rfl : z2_.toInt = z2_.toInt) (fun h4_ => ?_) (fun h4_ => ?_)
      · refine w_iload_n dX10_countClicks_36 rfl 1 rfl ?_
        exact w_iret rfl dX10_countClicks_37 ⟨rfl, trivial⟩
      · refine w_iload_n dX10_countClicks_12 rfl 0 rfl ?_
        refine w_bipush (v := 8) dX10_countClicks_13 (by decide) ?_
        refine w_icmp_ge (tgt := 36) dX10_countClicks_15 (by decide) (rfl : v2_4.toInt = v2_4.toInt) li_8 (fun h5_ => ?_) (fun h5_ => ?_)
        · refine w_iload_n dX10_countClicks_36 rfl 1 rfl ?_
          exact w_iret rfl dX10_countClicks_37 ⟨rfl, trivial⟩
        · refine w_iload_n dX10_countClicks_18 rfl 1 rfl ?_
          refine w_aload_n dX10_countClicks_19 rfl 2 rfl ?_
          refine w_getR (c' := (42, b, 0)) fl_RX10_46 rfl rfl (ic_10 hb) dX10_countClicks_20 rfl ?_
          refine w_iload_n dX10_countClicks_23 rfl 0 rfl ?_
          refine w_aald rfl rfl rfl (fun _ => rfl) (ic_42 hb) (rfl : v2_4.toInt = v2_4.toInt) (lf_c_X10_countClicks_0 Mz b v2_4 z2_ hb hv0_4 e3_ h4_ h5_) dX10_countClicks_24 (fun j6_ h7_ h8_ => ?_)
          refine w_getI fl_RX10_69 rfl rfl (ic_9 hb h8_) dX10_countClicks_25 (fun z9_ e10_ => ?_)
          refine w_iadd dX10_countClicks_28 (fun z11_ _ => ?_)
          refine w_istore_n (ls' := [(1, vI z11_), (2, vI v2_4), (0, vR (10, b, 0))]) dX10_countClicks_29 rfl (by decide) rfl ?_
          refine w_iincB (j := 1) (f := fun z12_ => [(2, vI z12_), (1, vI z11_), (0, vR (10, b, 0))]) dX10_countClicks_30 rfl (by decide) (fun _ => rfl) (rfl : v2_4.toInt = v2_4.toInt) li_1 (lf_c_X10_countClicks_1 Mz b v2_4 z2_ j6_ z9_ hb hv0_4 e3_ h4_ h5_ h7_ h8_ e10_) (fun z12_ h13_ => ?_)
          refine w_goto (tgt := 4) dX10_countClicks_33 (by decide) ?_
          refine w_loc (ls' := [(2, vI z12_), (1, vI z11_), (0, vR (10, b, 0))]) [0, 1, 2] rfl ?_
          exact ih_4 z12_ z11_ (lf_c_X10_countClicks_2 Mz b v2_4 z2_ j6_ z9_ z12_ hb hv0_4 e3_ h4_ h5_ h7_ h8_ e10_ h13_) (Nat.lt_of_lt_of_le (lf_c_X10_countClicks_3 Mz b v2_4 z2_ j6_ z9_ z12_ hb hv0_4 e3_ h4_ h5_ h7_ h8_ e10_ h13_) (Nat.le_of_lt_succ hm_4))
  exact lp1_ _ 0 0 (lf_c_X10_countClicks_4 ) (Nat.lt_succ_self _)
theorem lf_c_X10_isFreeBut_0  (u : Int32) (h1_ : 0 ≤ u.toInt) (h2_ : u.toInt < 192) : 0 ≤ u.toInt ∧ u.toInt < ((192 : Nat) : Int) := by have r_u := rngI u; omega
set_option maxHeartbeats 4000000 in
set_option maxRecDepth 100000 in
theorem c_X10_isFreeBut (l : Launch) (G : va_G) (cy : Nat → ClassId) (ad : rf → Nat) (d : Nat) (b : Nat) (v : Int32) (u : Int32) (Mz : mM) (hIz : Inv Mz) (hb : b < 3) : WP CC l G cy ad yX10_isFreeBut cX10_isFreeBut 4 (some .boolean) d 0 [(0, vR (10, b, 0)), (1, vI v), (2, vI u)] [] Mz (fun r M' => Mz = M' ∧ (0 ≤ r.toInt ∧ r.toInt ≤ 1)) := by
  refine w_iload_n dX10_isFreeBut_0 rfl 2 rfl ?_
  refine w_if_lt (tgt := 11) dX10_isFreeBut_1 (by decide) (rfl : u.toInt = u.toInt) (fun h1_ => ?_) (fun h1_ => ?_)
  · refine w_iconst (v := 0) dX10_isFreeBut_11 (by decide) ?_
    exact w_zret rfl dX10_isFreeBut_12 ⟨by decide, by decide⟩ ⟨rfl, ⟨by decide, by decide⟩⟩
  · refine w_iload_n dX10_isFreeBut_4 rfl 2 rfl ?_
    refine w_sipush (v := 192) dX10_isFreeBut_5 (by decide) ?_
    refine w_icmp_lt (tgt := 13) dX10_isFreeBut_8 (by decide) (rfl : u.toInt = u.toInt) li_192 (fun h2_ => ?_) (fun h2_ => ?_)
    · refine w_aload_n dX10_isFreeBut_13 rfl 0 rfl ?_
      refine w_getR (c' := (7, b, 0)) fl_RX10_10 rfl rfl (ic_10 hb) dX10_isFreeBut_14 rfl ?_
      refine w_getR (c' := (35, b, 0)) fl_RX10_72 rfl rfl (ic_7 hb) dX10_isFreeBut_17 rfl ?_
      refine w_iload_n dX10_isFreeBut_20 rfl 2 rfl ?_
      refine w_iald rfl rfl (ic_35 hb) (rfl : u.toInt = u.toInt) (lf_c_X10_isFreeBut_0 u h1_ h2_) dX10_isFreeBut_21 (fun j5_ h6_ z3_ e4_ => ?_)
      refine w_istore_n (ls' := [(3, vI z3_), (0, vR (10, b, 0)), (1, vI v), (2, vI u)]) dX10_isFreeBut_22 rfl (by decide) rfl ?_
      refine w_iload_n dX10_isFreeBut_23 rfl 0 rfl ?_
      refine w_iconst (v := (-1)) dX10_isFreeBut_24 (by decide) ?_
      refine w_icmp_eq (tgt := 36) dX10_isFreeBut_25 (by decide) (rfl : z3_.toInt = z3_.toInt) li_m1 (fun h7_ => ?_) (fun h7_ => ?_)
      · refine w_iconst (v := 1) dX10_isFreeBut_36 (by decide) ?_
        refine w_goto (tgt := 41) dX10_isFreeBut_37 (by decide) ?_
        exact w_zret rfl dX10_isFreeBut_41 ⟨by decide, by decide⟩ ⟨rfl, ⟨by decide, by decide⟩⟩
      · refine w_iload_n dX10_isFreeBut_28 rfl 0 rfl ?_
        refine w_bipush (v := 100) dX10_isFreeBut_29 (by decide) ?_
        refine w_iload_n dX10_isFreeBut_31 rfl 2 rfl ?_
        refine w_iadd dX10_isFreeBut_32 (fun z8_ _ => ?_)
        refine w_icmp_ne (tgt := 40) dX10_isFreeBut_33 (by decide) (rfl : z3_.toInt = z3_.toInt) (rfl : z8_.toInt = z8_.toInt) (fun h9_ => ?_) (fun h9_ => ?_)
        · refine w_iconst (v := 0) dX10_isFreeBut_40 (by decide) ?_
          exact w_zret rfl dX10_isFreeBut_41 ⟨by decide, by decide⟩ ⟨rfl, ⟨by decide, by decide⟩⟩
        · refine w_iconst (v := 1) dX10_isFreeBut_36 (by decide) ?_
          refine w_goto (tgt := 41) dX10_isFreeBut_37 (by decide) ?_
          exact w_zret rfl dX10_isFreeBut_41 ⟨by decide, by decide⟩ ⟨rfl, ⟨by decide, by decide⟩⟩
    · refine w_iconst (v := 0) dX10_isFreeBut_11 (by decide) ?_
      exact w_zret rfl dX10_isFreeBut_12 ⟨by decide, by decide⟩ ⟨rfl, ⟨by decide, by decide⟩⟩
theorem lf_c_X10_echoYards_0  (v : Int32) (h4_ : 0 ≤ v.toInt ∧ v.toInt ≤ 7) : 0 ≤ v.toInt ∧ v.toInt < ((8 : Nat) : Int) := by have r_v := rngI v; omega
theorem lf_c_X10_echoYards_1    : 0 ≤ (0 : Int32).toInt ∧ (0 : Int32).toInt ≤ 12 := by have r9 := li_0; omega
theorem lf_c_X10_echoYards_2  (r9_ : Int32) (v5_26 : Int32) (h12_ : 0 ≤ r9_.toInt ∧ r9_.toInt ≤ 12) (hv0_26 : 1 ≤ v5_26.toInt) (h14_ : v5_26.toInt ≤ r9_.toInt) : -2147483648 ≤ v5_26.toInt + 1 ∧ v5_26.toInt + 1 < 2147483648 := by have r_r9_ := rngI r9_; have r_v5_26 := rngI v5_26; omega
theorem lf_c_X10_echoYards_3  (r9_ : Int32) (v5_26 : Int32) (z25_ : Int32) (h12_ : 0 ≤ r9_.toInt ∧ r9_.toInt ≤ 12) (hv0_26 : 1 ≤ v5_26.toInt) (h14_ : v5_26.toInt ≤ r9_.toInt) (h26_ : z25_.toInt = v5_26.toInt + 1) : 1 ≤ z25_.toInt := by have r_r9_ := rngI r9_; have r_v5_26 := rngI v5_26; have r_z25_ := rngI z25_; omega
theorem lf_c_X10_echoYards_4  (r9_ : Int32) (v5_26 : Int32) (z25_ : Int32) (h12_ : 0 ≤ r9_.toInt ∧ r9_.toInt ≤ 12) (hv0_26 : 1 ≤ v5_26.toInt) (h14_ : v5_26.toInt ≤ r9_.toInt) (h26_ : z25_.toInt = v5_26.toInt + 1) : (2147483648 - z25_.toInt).toNat < (2147483648 - v5_26.toInt).toNat := by have r_r9_ := rngI r9_; have r_v5_26 := rngI v5_26; have r_z25_ := rngI z25_; omega
theorem lf_c_X10_echoYards_5  (r9_ : Int32) (v5_26 : Int32) (h12_ : 0 ≤ r9_.toInt ∧ r9_.toInt ≤ 12) (hv0_26 : 1 ≤ v5_26.toInt) (h14_ : v5_26.toInt ≤ r9_.toInt) : 0 ≤ v5_26.toInt ∧ v5_26.toInt ≤ 12 := by have r_r9_ := rngI r9_; have r_v5_26 := rngI v5_26; omega
theorem lf_c_X10_echoYards_6    : 0 ≤ (0 : Int32).toInt ∧ (0 : Int32).toInt ≤ 12 := by have r9 := li_0; omega
theorem lf_c_X10_echoYards_7    : 1 ≤ (1 : Int32).toInt := by have q0 := li_1; omega
theorem lf_c_X10_echoYards_8  (v5_26 : Int32) (hv0_26 : 1 ≤ v5_26.toInt) (h9 : v5_26.toInt ≤ 0) : False := by have r_v5_26 := rngI v5_26; omega
theorem lf_c_X10_echoYards_9    : 0 ≤ (0 : Int32).toInt ∧ (0 : Int32).toInt ≤ 12 := by have r9 := li_0; omega
theorem lf_c_X10_echoYards_10    : 1 ≤ (1 : Int32).toInt := by have q0 := li_1; omega
set_option maxHeartbeats 4000000 in
set_option maxRecDepth 100000 in
theorem c_X10_echoYards (l : Launch) (G : va_G) (cy : Nat → ClassId) (ad : rf → Nat) (d : Nat) (b : Nat) (v : Int32) (u : Int32) (t : Int32) (Mz : mM) (hIz : Inv Mz) (hb : b < 3) : WP CC l G cy ad yX10_echoYards cX10_echoYards 7 (some .int) (d + 2) 0 [(0, vR (10, b, 0)), (1, vI v), (2, vI u), (3, vI t)] [] Mz (fun r M' => Mz = M' ∧ 0 ≤ r.toInt ∧ r.toInt ≤ 12) := by
  refine w_aload_n dX10_echoYards_0 rfl 0 rfl ?_
  refine w_iload_n dX10_echoYards_1 rfl 1 rfl ?_
  refine w_callV (as := [vI v]) (rest := []) (c_X10_hasWalker l G cy ad (d + 1) b v Mz hIz hb) kV_X10_hasWalker (by decide +kernel) (Nat.le_of_ble_eq_true rfl) m_847 rfl rfl rfl (ic_10 hb) rfl rfl (by decide) (Nat.le_of_ble_eq_true rfl) dX10_echoYards_2 (fun r1_ M2_ q3_ => ?_)
  obtain ⟨rfl, h4_⟩ := q3_
  rcases h4_ with ⟨rfl, h4_⟩ | rfl
  · refine w_if_eq (tgt := 20) dX10_echoYards_5 (by decide) li_1 (fun h9 => (absurd h9 (by decide))) (fun h5_ => ?_)
    refine w_aload_n dX10_echoYards_8 rfl 0 rfl ?_
    refine w_getR (c' := (42, b, 0)) fl_RX10_46 rfl rfl (ic_10 hb) dX10_echoYards_9 rfl ?_
    refine w_iload_n dX10_echoYards_12 rfl 1 rfl ?_
    refine w_aald rfl rfl rfl (fun _ => rfl) (ic_42 hb) (rfl : v.toInt = v.toInt) (lf_c_X10_echoYards_0 v h4_) dX10_echoYards_13 (fun j6_ h7_ h8_ => ?_)
    refine w_callV (as := []) (rest := []) (c_X9_reach l G cy ad (d + 1) b j6_ Mz hIz hb h8_) kV_X9_reach (by decide +kernel) (Nat.le_of_ble_eq_true rfl) m_848 rfl rfl rfl (ic_9 hb h8_) rfl rfl (by decide) (Nat.le_of_ble_eq_true rfl) dX10_echoYards_14 (fun r9_ M10_ q11_ => ?_)
    obtain ⟨rfl, h12_⟩ := q11_
    refine w_goto (tgt := 21) dX10_echoYards_17 (by decide) ?_
    refine w_istore (ls' := [(4, vI r9_), (0, vR (10, b, 0)), (1, vI v), (2, vI u), (3, vI t)]) dX10_echoYards_21 (by decide) rfl ?_
    refine w_iconst (v := 1) dX10_echoYards_23 (by decide) ?_
    refine w_istore (ls' := [(5, vI 1), (4, vI r9_), (0, vR (10, b, 0)), (1, vI v), (2, vI u), (3, vI t)]) dX10_echoYards_24 (by decide) rfl ?_
    have lp13_ : ∀ (nn_26 : Nat) (v5_26 : Int32) (hv0_26 : 1 ≤ v5_26.toInt), (2147483648 - v5_26.toInt).toNat < nn_26 → WP CC l G cy ad yX10_echoYards cX10_echoYards 7 (some .int) (d + 2) 26 [(5, vI v5_26), (4, vI r9_), (0, vR (10, b, 0)), (1, vI v), (2, vI u), (3, vI t)] [] Mz (fun r M' => Mz = M' ∧ 0 ≤ r.toInt ∧ r.toInt ≤ 12) := by
      intro nn_26
      induction nn_26 with
      | zero => intro v5_26 hv0_26 hm_26; exact absurd hm_26 (Nat.not_lt_zero _)
      | succ nn_26 ih_26 =>
        intro v5_26 hv0_26 hm_26
        refine w_iload dX10_echoYards_26 0 rfl ?_
        refine w_iload dX10_echoYards_28 1 rfl ?_
        refine w_icmp_gt (tgt := 68) dX10_echoYards_30 (by decide) (rfl : v5_26.toInt = v5_26.toInt) (rfl : r9_.toInt = r9_.toInt) (fun h14_ => ?_) (fun h14_ => ?_)
        · refine w_iconst (v := 0) dX10_echoYards_68 (by decide) ?_
          exact w_iret rfl dX10_echoYards_69 ⟨rfl, (lf_c_X10_echoYards_1 )⟩
        · refine w_iload_n dX10_echoYards_33 rfl 4 rfl ?_
          refine w_iload_n dX10_echoYards_34 rfl 5 rfl ?_
          refine w_iload dX10_echoYards_35 0 rfl ?_
          refine w_callS (as := [vI u, vI t, vI v5_26]) (rest := []) (c_X7_cellFrom l G cy ad d u t v5_26 Mz hIz) kS_X7_cellFrom (by decide +kernel) (Nat.le_of_ble_eq_true rfl) m_849 rfl rfl (by decide) (Nat.le_of_ble_eq_true rfl) dX10_echoYards_37 (fun r15_ M16_ q17_ => ?_)
          obtain ⟨rfl, h18_⟩ := q17_
          refine w_istore (ls' := [(6, vI r15_), (5, vI v5_26), (4, vI r9_), (0, vR (10, b, 0)), (1, vI v), (2, vI u), (3, vI t)]) dX10_echoYards_40 (by decide) rfl ?_
          refine w_iload dX10_echoYards_42 0 rfl ?_
          refine w_if_ge (tgt := 49) dX10_echoYards_44 (by decide) (rfl : r15_.toInt = r15_.toInt) (fun h19_ => ?_) (fun h19_ => ?_)
          · refine w_aload_n dX10_echoYards_49 rfl 3 rfl ?_
            refine w_iload_n dX10_echoYards_50 rfl 4 rfl ?_
            refine w_iload dX10_echoYards_51 0 rfl ?_
            refine w_callV (as := [vI v, vI r15_]) (rest := []) (c_X10_isFreeBut l G cy ad (d + 1) b v r15_ Mz hIz hb) kV_X10_isFreeBut (by decide +kernel) (Nat.le_of_ble_eq_true rfl) m_857 rfl rfl rfl (ic_10 hb) rfl rfl (by decide) (Nat.le_of_ble_eq_true rfl) dX10_echoYards_53 (fun r20_ M21_ q22_ => ?_)
            obtain ⟨rfl, h23_⟩ := q22_
            refine w_if_ne (tgt := 62) dX10_echoYards_56 (by decide) (rfl : r20_.toInt = r20_.toInt) (fun h24_ => ?_) (fun h24_ => ?_)
            · refine w_iincB (j := 1) (f := fun z25_ => [(5, vI z25_), (6, vI r15_), (4, vI r9_), (0, vR (10, b, 0)), (1, vI v), (2, vI u), (3, vI t)]) dX10_echoYards_62 rfl (by decide) (fun _ => rfl) (rfl : v5_26.toInt = v5_26.toInt) li_1 (lf_c_X10_echoYards_2 r9_ v5_26 h12_ hv0_26 h14_) (fun z25_ h26_ => ?_)
              refine w_goto (tgt := 26) dX10_echoYards_65 (by decide) ?_
              refine w_loc (ls' := [(5, vI z25_), (4, vI r9_), (0, vR (10, b, 0)), (1, vI v), (2, vI u), (3, vI t)]) [0, 2, 3, 4, 5, 6] rfl ?_
              exact ih_26 z25_ (lf_c_X10_echoYards_3 r9_ v5_26 z25_ h12_ hv0_26 h14_ h26_) (Nat.lt_of_lt_of_le (lf_c_X10_echoYards_4 r9_ v5_26 z25_ h12_ hv0_26 h14_ h26_) (Nat.le_of_lt_succ hm_26))
            · refine w_iload dX10_echoYards_59 1 rfl ?_
              exact w_iret rfl dX10_echoYards_61 ⟨rfl, (lf_c_X10_echoYards_5 r9_ v5_26 h12_ hv0_26 h14_)⟩
          · refine w_iconst (v := 0) dX10_echoYards_47 (by decide) ?_
            exact w_iret rfl dX10_echoYards_48 ⟨rfl, (lf_c_X10_echoYards_6 )⟩
    exact lp13_ _ 1 (lf_c_X10_echoYards_7 ) (Nat.lt_succ_self _)
  · refine w_if_eq (tgt := 20) dX10_echoYards_5 (by decide) li_0 (fun h27_ => ?_) (fun h9 => (absurd h9 (by decide)))
    refine w_iconst (v := 0) dX10_echoYards_20 (by decide) ?_
    refine w_istore (ls' := [(4, vI 0), (0, vR (10, b, 0)), (1, vI v), (2, vI u), (3, vI t)]) dX10_echoYards_21 (by decide) rfl ?_
    refine w_iconst (v := 1) dX10_echoYards_23 (by decide) ?_
    refine w_istore (ls' := [(5, vI 1), (4, vI 0), (0, vR (10, b, 0)), (1, vI v), (2, vI u), (3, vI t)]) dX10_echoYards_24 (by decide) rfl ?_
    have lp28_ : ∀ (nn_26 : Nat) (v5_26 : Int32) (hv0_26 : 1 ≤ v5_26.toInt), (2147483648 - v5_26.toInt).toNat < nn_26 → WP CC l G cy ad yX10_echoYards cX10_echoYards 7 (some .int) (d + 2) 26 [(5, vI v5_26), (4, vI 0), (0, vR (10, b, 0)), (1, vI v), (2, vI u), (3, vI t)] [] Mz (fun r M' => Mz = M' ∧ 0 ≤ r.toInt ∧ r.toInt ≤ 12) := by
      intro nn_26
      induction nn_26 with
      | zero => intro v5_26 hv0_26 hm_26; exact absurd hm_26 (Nat.not_lt_zero _)
      | succ nn_26 ih_26 =>
        intro v5_26 hv0_26 hm_26
        refine w_iload dX10_echoYards_26 0 rfl ?_
        refine w_iload dX10_echoYards_28 1 rfl ?_
        refine w_icmp_gt (tgt := 68) dX10_echoYards_30 (by decide) (rfl : v5_26.toInt = v5_26.toInt) li_0 (fun h29_ => ?_) (fun h9 => (lf_c_X10_echoYards_8 v5_26 hv0_26 h9).elim)
        refine w_iconst (v := 0) dX10_echoYards_68 (by decide) ?_
        exact w_iret rfl dX10_echoYards_69 ⟨rfl, (lf_c_X10_echoYards_9 )⟩
    exact lp28_ _ 1 (lf_c_X10_echoYards_10 ) (Nat.lt_succ_self _)
def S_c_X10_heardYards (b : Nat) : rf → Nat → Prop := fun c k => (c.1 = 29 ∧ c.2.1 = b ∧ k = 0) ∨ (c.1 = 29 ∧ c.2.1 = b ∧ k = 1) ∨ (c.1 = 29 ∧ c.2.1 = b ∧ k = 2) ∨ (c.1 = 29 ∧ c.2.1 = b ∧ k = 3) ∨ (c.1 = 25 ∧ c.2.1 = b ∧ c.2.2 = 0) ∨ (c.1 = 25 ∧ c.2.1 = b ∧ c.2.2 = 1) ∨ False
theorem lf_c_X10_heardYards_0    : 0 ≤ (0 : Int32).toInt ∧ (0 : Int32).toInt ≤ 12 := by have r9 := li_0; omega
theorem lf_c_X10_heardYards_1  (v : Int32) (h9_ : 0 ≤ v.toInt ∧ v.toInt ≤ 7) : 0 ≤ v.toInt ∧ v.toInt < ((8 : Nat) : Int) := by have r_v := rngI v; omega
theorem lf_c_X10_heardYards_2    : 0 ≤ (0 : Int32).toInt ∧ (0 : Int32).toInt ≤ 12 := by have r9 := li_0; omega
theorem lf_c_X10_heardYards_3    : 0 ≤ (0 : Int32).toInt ∧ (0 : Int32).toInt ≤ 12 := by have r9 := li_0; omega
set_option maxHeartbeats 4000000 in
set_option maxRecDepth 100000 in
theorem c_X10_heardYards (l : Launch) (G : va_G) (cy : Nat → ClassId) (ad : rf → Nat) (d : Nat) (b : Nat) (v : Int32) (u : Int32) (t : Int32) (Mz : mM) (hIz : Inv Mz) (hb : b < 3) : WP CC l G cy ad yX10_heardYards cX10_heardYards 7 (some .int) (d + 3) 0 [(0, vR (10, b, 0)), (1, vI v), (2, vI u), (3, vI t)] [] Mz (fun r M' => Inv M' ∧ FR (S_c_X10_heardYards b) Mz M' ∧ 0 ≤ r.toInt ∧ r.toInt ≤ 12) := by
  have hFz : FR (S_c_X10_heardYards b) Mz Mz := FR.self
  refine w_aload_n dX10_heardYards_0 rfl 0 rfl ?_
  refine w_iload_n dX10_heardYards_1 rfl 1 rfl ?_
  refine w_iload_n dX10_heardYards_2 rfl 2 rfl ?_
  refine w_iload_n dX10_heardYards_3 rfl 3 rfl ?_
  refine w_callV (as := [vI v, vI u, vI t]) (rest := []) (c_X10_echoYards l G cy ad d b v u t Mz hIz hb) kV_X10_echoYards (by decide +kernel) (Nat.le_of_ble_eq_true rfl) m_865 rfl rfl rfl (ic_10 hb) rfl rfl (by decide) (Nat.le_of_ble_eq_true rfl) dX10_heardYards_4 (fun r1_ M2_ q3_ => ?_)
  obtain ⟨rfl, h4_⟩ := q3_
  refine w_istore (ls' := [(4, vI r1_), (0, vR (10, b, 0)), (1, vI v), (2, vI u), (3, vI t)]) dX10_heardYards_7 (by decide) rfl ?_
  refine w_iload dX10_heardYards_9 0 rfl ?_
  refine w_if_eq (tgt := 22) dX10_heardYards_11 (by decide) (rfl : r1_.toInt = r1_.toInt) (fun h5_ => ?_) (fun h5_ => ?_)
  · refine w_iconst (v := 0) dX10_heardYards_22 (by decide) ?_
    exact w_iret rfl dX10_heardYards_23 ⟨hIz, hFz, (lf_c_X10_heardYards_0 )⟩
  · refine w_aload_n dX10_heardYards_14 rfl 1 rfl ?_
    refine w_iload_n dX10_heardYards_15 rfl 2 rfl ?_
    refine w_callV (as := [vI v]) (rest := []) (c_X10_hasWalker l G cy ad (d + 2) b v Mz hIz hb) kV_X10_hasWalker (by decide +kernel) (Nat.le_of_ble_eq_true rfl) m_847 rfl rfl rfl (ic_10 hb) rfl rfl (by decide) (Nat.le_of_ble_eq_true rfl) dX10_heardYards_16 (fun r6_ M7_ q8_ => ?_)
    obtain ⟨rfl, h9_⟩ := q8_
    rcases h9_ with ⟨rfl, h9_⟩ | rfl
    · refine w_if_ne (tgt := 24) dX10_heardYards_19 (by decide) li_1 (fun h10_ => ?_) (fun h9 => (absurd h9 (by decide)))
      refine w_aload_n dX10_heardYards_24 rfl 1 rfl ?_
      refine w_getR (c' := (42, b, 0)) fl_RX10_46 rfl rfl (ic_10 hb) dX10_heardYards_25 rfl ?_
      refine w_iload_n dX10_heardYards_28 rfl 2 rfl ?_
      refine w_aald rfl rfl rfl (fun _ => rfl) (ic_42 hb) (rfl : v.toInt = v.toInt) (lf_c_X10_heardYards_1 v h9_) dX10_heardYards_29 (fun j11_ h12_ h13_ => ?_)
      refine w_astore (ls' := [(5, vR (9, b, j11_)), (4, vI r1_), (0, vR (10, b, 0)), (1, vI v), (2, vI u), (3, vI t)]) dX10_heardYards_30 (by decide) rfl ?_
      refine w_aload_n dX10_heardYards_32 rfl 2 rfl ?_
      refine w_getR (c' := (7, b, 0)) fl_RX10_10 rfl rfl (ic_10 hb) dX10_heardYards_33 rfl ?_
      refine w_iload_n dX10_heardYards_36 rfl 4 rfl ?_
      refine w_iload_n dX10_heardYards_37 rfl 5 rfl ?_
      refine w_iload dX10_heardYards_38 1 rfl ?_
      refine w_callS (as := [vI u, vI t, vI r1_]) (rest := [vR (7, b, 0)]) (c_X7_cellFrom l G cy ad (d + 1) u t r1_ Mz hIz) kS_X7_cellFrom (by decide +kernel) (Nat.le_of_ble_eq_true rfl) m_849 rfl rfl (by decide) (Nat.le_of_ble_eq_true rfl) dX10_heardYards_40 (fun r14_ M15_ q16_ => ?_)
      obtain ⟨rfl, h17_⟩ := q16_
      refine w_callV (as := [vI r14_]) (rest := []) (c_X7_kindIn l G cy ad (d + 1) b r14_ Mz hIz hb) kV_X7_kindIn (by decide +kernel) (Nat.le_of_ble_eq_true rfl) m_869 rfl rfl rfl (ic_7 hb) rfl rfl (by decide) (Nat.le_of_ble_eq_true rfl) dX10_heardYards_43 (fun r18_ M19_ q20_ => ?_)
      obtain ⟨rfl, h21_⟩ := q20_
      refine w_istore (ls' := [(6, vI r18_), (5, vR (9, b, j11_)), (4, vI r1_), (0, vR (10, b, 0)), (1, vI v), (2, vI u), (3, vI t)]) dX10_heardYards_46 (by decide) rfl ?_
      refine w_aload_n dX10_heardYards_48 rfl 3 rfl ?_
      refine w_getR (c' := (2, b, 0)) fl_RX10_19 rfl rfl (ic_10 hb) dX10_heardYards_49 rfl ?_
      refine w_aload dX10_heardYards_52 1 rfl ?_
      refine w_callV (as := []) (rest := [vR (2, b, 0)]) (c_X9_ears l G cy ad (d + 2) b j11_ Mz hIz hb h13_) kV_X9_ears (by decide +kernel) (Nat.le_of_ble_eq_true rfl) m_887 rfl rfl rfl (ic_9 hb h13_) rfl rfl (by decide) (Nat.le_of_ble_eq_true rfl) dX10_heardYards_54 (fun r22_ M23_ q24_ => ?_)
      obtain ⟨rfl, h25_⟩ := q24_
      refine w_iload dX10_heardYards_57 0 rfl ?_
      refine w_aload dX10_heardYards_59 1 rfl ?_
      refine w_callV (as := []) (rest := [vI r18_, vI r22_, vR (2, b, 0)]) (c_X9_ownClick l G cy ad (d + 2) b j11_ Mz hIz hb h13_) kV_X9_ownClick (by decide +kernel) (Nat.le_of_ble_eq_true rfl) m_904 rfl rfl rfl (ic_9 hb h13_) rfl rfl (by decide) (Nat.le_of_ble_eq_true rfl) dX10_heardYards_61 (fun r26_ M27_ q28_ => ?_)
      obtain ⟨rfl, h29_⟩ := q28_
      refine w_iload dX10_heardYards_64 2 rfl ?_
      refine w_iload_n dX10_heardYards_66 rfl 6 rfl ?_
      refine w_callV (as := [vI r22_, vI r18_, vI r26_, vI r1_, vI t]) (rest := []) (c_X2_hears l G cy ad d b r22_ r18_ r26_ r1_ t Mz hIz hb) kV_X2_hears (by decide +kernel) (Nat.le_of_ble_eq_true rfl) m_908 rfl rfl rfl (ic_2 hb) rfl rfl (by decide) (Nat.le_of_ble_eq_true rfl) dX10_heardYards_67 (fun r30_ M31_ q32_ => ?_)
      obtain ⟨hI34_, hF35_, h33_⟩ := q32_
      have hF36_ := hFz.tr hF35_ (fun c k => (fun h => h.elim (fun h => (Or.inl ⟨h.1, h.2.1, h.2.2⟩)) (fun h => h.elim (fun h => (Or.inr (Or.inl ⟨h.1, h.2.1, h.2.2⟩))) (fun h => h.elim (fun h => (Or.inr (Or.inr (Or.inl ⟨h.1, h.2.1, h.2.2⟩)))) (fun h => h.elim (fun h => (Or.inr (Or.inr (Or.inr (Or.inl ⟨h.1, h.2.1, h.2.2⟩))))) (fun h => h.elim (fun h => (Or.inr (Or.inr (Or.inr (Or.inr (Or.inl ⟨h.1, h.2.1, h.2.2⟩)))))) (fun h => h.elim (fun h => (Or.inr (Or.inr (Or.inr (Or.inr (Or.inr (Or.inl ⟨h.1, h.2.1, h.2.2⟩))))))) (fun h => h.elim))))))))
      refine w_if_eq (tgt := 78) dX10_heardYards_70 (by decide) (rfl : r30_.toInt = r30_.toInt) (fun h37_ => ?_) (fun h37_ => ?_)
      · refine w_iconst (v := 0) dX10_heardYards_78 (by decide) ?_
        exact w_iret rfl dX10_heardYards_79 ⟨hI34_, hF36_, (lf_c_X10_heardYards_2 )⟩
      · refine w_iload dX10_heardYards_73 2 rfl ?_
        refine w_goto (tgt := 79) dX10_heardYards_75 (by decide) ?_
        exact w_iret rfl dX10_heardYards_79 ⟨hI34_, hF36_, h4_⟩
    · refine w_if_ne (tgt := 24) dX10_heardYards_19 (by decide) li_0 (fun h9 => (absurd h9 (by decide))) (fun h38_ => ?_)
      refine w_iconst (v := 0) dX10_heardYards_22 (by decide) ?_
      exact w_iret rfl dX10_heardYards_23 ⟨hIz, hFz, (lf_c_X10_heardYards_3 )⟩
def S_c_X10_echoFact (b : Nat) : rf → Nat → Prop := fun c k => (c.1 = 29 ∧ c.2.1 = b ∧ k = 0) ∨ (c.1 = 29 ∧ c.2.1 = b ∧ k = 1) ∨ (c.1 = 29 ∧ c.2.1 = b ∧ k = 2) ∨ (c.1 = 29 ∧ c.2.1 = b ∧ k = 3) ∨ (c.1 = 25 ∧ c.2.1 = b ∧ c.2.2 = 0) ∨ (c.1 = 25 ∧ c.2.1 = b ∧ c.2.2 = 1) ∨ False
theorem lf_c_X10_echoFact_0  (v : Int32) (h4_ : 0 ≤ v.toInt ∧ v.toInt ≤ 7) : 0 ≤ v.toInt ∧ v.toInt < ((8 : Nat) : Int) := by have r_v := rngI v; omega
theorem lf_c_X10_echoFact_1  (s : Int32)  : s.toInt = 0 ∨ s.toInt = 1 ∨ s.toInt = 2 ∨ s.toInt = 3 ∨ s.toInt = 4 ∨ (¬ s.toInt = 0 ∧ ¬ s.toInt = 1 ∧ ¬ s.toInt = 2 ∧ ¬ s.toInt = 3 ∧ ¬ s.toInt = 4) := by have r_s := rngI s; omega
theorem lf_c_X10_echoFact_2  (s : Int32) (e41_ : (¬ s.toInt = 0 ∧ ¬ s.toInt = 1 ∧ ¬ s.toInt = 2 ∧ ¬ s.toInt = 3 ∧ ¬ s.toInt = 4)) : s.toInt < 0 ∨ 4 < s.toInt := by have r_s := rngI s; omega
set_option maxHeartbeats 4000000 in
set_option maxRecDepth 100000 in
theorem c_X10_echoFact (l : Launch) (G : va_G) (cy : Nat → ClassId) (ad : rf → Nat) (d : Nat) (b : Nat) (v : Int32) (u : Int32) (t : Int32) (s : Int32) (Mz : mM) (hIz : Inv Mz) (hb : b < 3) : WP CC l G cy ad yX10_echoFact cX10_echoFact 10 (some .int) (d + 3) 0 [(0, vR (10, b, 0)), (1, vI v), (2, vI u), (3, vI t), (4, vI s)] [] Mz (fun r M' => Inv M' ∧ FR (S_c_X10_echoFact b) Mz M' ∧ True) := by
  have hFz : FR (S_c_X10_echoFact b) Mz Mz := FR.self
  refine w_aload_n dX10_echoFact_0 rfl 0 rfl ?_
  refine w_iload_n dX10_echoFact_1 rfl 1 rfl ?_
  refine w_callV (as := [vI v]) (rest := []) (c_X10_hasWalker l G cy ad (d + 2) b v Mz hIz hb) kV_X10_hasWalker (by decide +kernel) (Nat.le_of_ble_eq_true rfl) m_847 rfl rfl rfl (ic_10 hb) rfl rfl (by decide) (Nat.le_of_ble_eq_true rfl) dX10_echoFact_2 (fun r1_ M2_ q3_ => ?_)
  obtain ⟨rfl, h4_⟩ := q3_
  rcases h4_ with ⟨rfl, h4_⟩ | rfl
  · refine w_if_ne (tgt := 10) dX10_echoFact_5 (by decide) li_1 (fun h5_ => ?_) (fun h9 => (absurd h9 (by decide)))
    refine w_aload_n dX10_echoFact_10 rfl 0 rfl ?_
    refine w_getR (c' := (42, b, 0)) fl_RX10_46 rfl rfl (ic_10 hb) dX10_echoFact_11 rfl ?_
    refine w_iload_n dX10_echoFact_14 rfl 1 rfl ?_
    refine w_aald rfl rfl rfl (fun _ => rfl) (ic_42 hb) (rfl : v.toInt = v.toInt) (lf_c_X10_echoFact_0 v h4_) dX10_echoFact_15 (fun j6_ h7_ h8_ => ?_)
    refine w_astore (ls' := [(5, vR (9, b, j6_)), (0, vR (10, b, 0)), (1, vI v), (2, vI u), (3, vI t), (4, vI s)]) dX10_echoFact_16 (by decide) rfl ?_
    refine w_aload_n dX10_echoFact_18 rfl 1 rfl ?_
    refine w_iload_n dX10_echoFact_19 rfl 2 rfl ?_
    refine w_aload dX10_echoFact_20 0 rfl ?_
    refine w_getI fl_RX10_109 rfl rfl (ic_9 hb h8_) dX10_echoFact_22 (fun z9_ e10_ => ?_)
    refine w_iload_n dX10_echoFact_25 rfl 4 rfl ?_
    refine w_callV (as := [vI v, vI z9_, vI t]) (rest := []) (c_X10_echoYards l G cy ad d b v z9_ t Mz hIz hb) kV_X10_echoYards (by decide +kernel) (Nat.le_of_ble_eq_true rfl) m_865 rfl rfl rfl (ic_10 hb) rfl rfl (by decide) (Nat.le_of_ble_eq_true rfl) dX10_echoFact_26 (fun r11_ M12_ q13_ => ?_)
    obtain ⟨rfl, h14_⟩ := q13_
    refine w_istore (ls' := [(6, vI r11_), (5, vR (9, b, j6_)), (0, vR (10, b, 0)), (1, vI v), (2, vI u), (3, vI t), (4, vI s)]) dX10_echoFact_29 (by decide) rfl ?_
    refine w_iload_n dX10_echoFact_31 rfl 5 rfl ?_
    refine w_iload dX10_echoFact_32 0 rfl ?_
    refine w_callS (as := [vI t, vI r11_]) (rest := []) (c_X2_late l G cy ad (d + 2) t r11_ Mz hIz) kS_X2_late (by decide +kernel) (Nat.le_of_ble_eq_true rfl) m_866 rfl rfl (by decide) (Nat.le_of_ble_eq_true rfl) dX10_echoFact_34 (fun r15_ M16_ q17_ => ?_)
    obtain ⟨rfl, h18_⟩ := q17_
    refine w_istore (ls' := [(7, vI r15_), (6, vI r11_), (5, vR (9, b, j6_)), (0, vR (10, b, 0)), (1, vI v), (2, vI u), (3, vI t), (4, vI s)]) dX10_echoFact_37 (by decide) rfl ?_
    refine w_aload_n dX10_echoFact_39 rfl 3 rfl ?_
    refine w_getR (c' := (2, b, 0)) fl_RX10_19 rfl rfl (ic_10 hb) dX10_echoFact_40 rfl ?_
    refine w_aload_n dX10_echoFact_43 rfl 3 rfl ?_
    refine w_getR (c' := (7, b, 0)) fl_RX10_10 rfl rfl (ic_10 hb) dX10_echoFact_44 rfl ?_
    refine w_aload dX10_echoFact_47 2 rfl ?_
    refine w_getI fl_RX10_109 rfl rfl (ic_9 hb h8_) dX10_echoFact_49 (fun z19_ e20_ => ?_)
    obtain rfl : z9_ = z19_ := e10_.trans e20_.symm
    refine w_iload_n dX10_echoFact_52 rfl 6 rfl ?_
    refine w_iload dX10_echoFact_53 1 rfl ?_
    refine w_callS (as := [vI z9_, vI t, vI r11_]) (rest := [vR (7, b, 0), vR (2, b, 0)]) (c_X7_cellFrom l G cy ad (d + 1) z9_ t r11_ Mz hIz) kS_X7_cellFrom (by decide +kernel) (Nat.le_of_ble_eq_true rfl) m_849 rfl rfl (by decide) (Nat.le_of_ble_eq_true rfl) dX10_echoFact_55 (fun r21_ M22_ q23_ => ?_)
    obtain ⟨rfl, h24_⟩ := q23_
    refine w_callV (as := [vI r21_]) (rest := [vR (2, b, 0)]) (c_X7_kindIn l G cy ad (d + 1) b r21_ Mz hIz hb) kV_X7_kindIn (by decide +kernel) (Nat.le_of_ble_eq_true rfl) m_869 rfl rfl rfl (ic_7 hb) rfl rfl (by decide) (Nat.le_of_ble_eq_true rfl) dX10_echoFact_58 (fun r25_ M26_ q27_ => ?_)
    obtain ⟨rfl, h28_⟩ := q27_
    refine w_iload_n dX10_echoFact_61 rfl 5 rfl ?_
    refine w_iload dX10_echoFact_62 1 rfl ?_
    refine w_callV (as := [vI r25_, vI u, vI r11_]) (rest := []) (c_X2_strength l G cy ad (d + 1) b r25_ u r11_ Mz hIz hb) kV_X2_strength (by decide +kernel) (Nat.le_of_ble_eq_true rfl) m_873 rfl rfl rfl (ic_2 hb) rfl rfl (by decide) (Nat.le_of_ble_eq_true rfl) dX10_echoFact_64 (fun r29_ M30_ q31_ => ?_)
    obtain ⟨hI33_, hF34_, h32_⟩ := q31_
    have hF35_ := hFz.tr hF34_ (fun c k => (fun h => h.elim (fun h => (Or.inl ⟨h.1, h.2.1, h.2.2⟩)) (fun h => h.elim (fun h => (Or.inr (Or.inl ⟨h.1, h.2.1, h.2.2⟩))) (fun h => h.elim (fun h => (Or.inr (Or.inr (Or.inl ⟨h.1, h.2.1, h.2.2⟩)))) (fun h => h.elim (fun h => (Or.inr (Or.inr (Or.inr (Or.inl ⟨h.1, h.2.1, h.2.2⟩))))) (fun h => h.elim (fun h => (Or.inr (Or.inr (Or.inr (Or.inr (Or.inl ⟨h.1, h.2.1, h.2.2⟩)))))) (fun h => h.elim)))))))
    refine w_istore (ls' := [(8, vI r29_), (7, vI r15_), (6, vI r11_), (5, vR (9, b, j6_)), (0, vR (10, b, 0)), (1, vI v), (2, vI u), (3, vI t), (4, vI s)]) dX10_echoFact_67 (by decide) rfl ?_
    refine w_iload_n dX10_echoFact_69 rfl 7 rfl ?_
    refine w_aload dX10_echoFact_70 3 rfl ?_
    refine w_getI fl_RX10_119 rfl rfl (ic_9 hb h8_) dX10_echoFact_72 (fun z36_ e37_ => ?_)
    refine w_isub dX10_echoFact_75 (fun z38_ _ => ?_)
    refine w_bipush (v := 7) dX10_echoFact_76 (by decide) ?_
    refine w_iandB 3 dX10_echoFact_78 (by decide) (by decide) (fun z39_ h40_ => ?_)
    refine w_istore (ls' := [(9, vI z39_), (8, vI r29_), (7, vI r15_), (6, vI r11_), (5, vR (9, b, j6_)), (0, vR (10, b, 0)), (1, vI v), (2, vI u), (3, vI t), (4, vI s)]) dX10_echoFact_79 (by decide) rfl ?_
    refine w_iload dX10_echoFact_81 9 rfl ?_
    rcases (lf_c_X10_echoFact_1 s) with e41_ | e41_ | e41_ | e41_ | e41_ | e41_
    · refine w_tsIn (tgt := 116) (off := 33) dX10_echoFact_83 e41_ (by decide) (by decide) rfl (by decide) ?_
      refine w_iload dX10_echoFact_116 3 rfl ?_
      exact w_iret rfl dX10_echoFact_118 ⟨hI33_, hF35_, trivial⟩
    · refine w_tsIn (tgt := 119) (off := 36) dX10_echoFact_83 e41_ (by decide) (by decide) rfl (by decide) ?_
      refine w_iload dX10_echoFact_119 2 rfl ?_
      exact w_iret rfl dX10_echoFact_121 ⟨hI33_, hF35_, trivial⟩
    · refine w_tsIn (tgt := 122) (off := 39) dX10_echoFact_83 e41_ (by decide) (by decide) rfl (by decide) ?_
      refine w_iload dX10_echoFact_122 1 rfl ?_
      exact w_iret rfl dX10_echoFact_124 ⟨hI33_, hF35_, trivial⟩
    · refine w_tsIn (tgt := 125) (off := 42) dX10_echoFact_83 e41_ (by decide) (by decide) rfl (by decide) ?_
      refine w_iload dX10_echoFact_125 0 rfl ?_
      refine w_iconst (v := 1) dX10_echoFact_127 (by decide) ?_
      refine w_icmp_lt (tgt := 144) dX10_echoFact_128 (by decide) (rfl : z39_.toInt = z39_.toInt) li_1 (fun h42_ => ?_) (fun h42_ => ?_)
      · refine w_iload dX10_echoFact_144 1 rfl ?_
        exact w_iret rfl dX10_echoFact_146 ⟨hI33_, hF35_, trivial⟩
      · refine w_iload dX10_echoFact_131 0 rfl ?_
        refine w_iconst (v := 3) dX10_echoFact_133 (by decide) ?_
        refine w_icmp_gt (tgt := 144) dX10_echoFact_134 (by decide) (rfl : z39_.toInt = z39_.toInt) li_3 (fun h43_ => ?_) (fun h43_ => ?_)
        · refine w_iload dX10_echoFact_144 1 rfl ?_
          exact w_iret rfl dX10_echoFact_146 ⟨hI33_, hF35_, trivial⟩
        · refine w_iload dX10_echoFact_137 1 rfl ?_
          refine w_iconst (v := 2) dX10_echoFact_139 (by decide) ?_
          refine w_idiv dX10_echoFact_140 (by decide) (fun z44_ _ => ?_)
          refine w_goto (tgt := 146) dX10_echoFact_141 (by decide) ?_
          exact w_iret rfl dX10_echoFact_146 ⟨hI33_, hF35_, trivial⟩
    · refine w_tsIn (tgt := 147) (off := 64) dX10_echoFact_83 e41_ (by decide) (by decide) rfl (by decide) ?_
      refine w_iload dX10_echoFact_147 0 rfl ?_
      refine w_iconst (v := 5) dX10_echoFact_149 (by decide) ?_
      refine w_icmp_lt (tgt := 160) dX10_echoFact_150 (by decide) (rfl : z39_.toInt = z39_.toInt) li_5 (fun h45_ => ?_) (fun h45_ => ?_)
      · refine w_iload dX10_echoFact_160 1 rfl ?_
        exact w_iret rfl dX10_echoFact_162 ⟨hI33_, hF35_, trivial⟩
      · refine w_iload dX10_echoFact_153 1 rfl ?_
        refine w_iconst (v := 2) dX10_echoFact_155 (by decide) ?_
        refine w_idiv dX10_echoFact_156 (by decide) (fun z46_ _ => ?_)
        refine w_goto (tgt := 162) dX10_echoFact_157 (by decide) ?_
        exact w_iret rfl dX10_echoFact_162 ⟨hI33_, hF35_, trivial⟩
    · refine w_tsOut (tgt := 163) dX10_echoFact_83 rfl (lf_c_X10_echoFact_2 s e41_) (by decide) ?_
      refine w_aload_n dX10_echoFact_163 rfl 5 rfl ?_
      refine w_getR (c' := (2, b, 0)) fl_RX10_19 rfl rfl (ic_10 hb) dX10_echoFact_164 rfl ?_
      refine w_aload dX10_echoFact_167 4 rfl ?_
      refine w_callV (as := []) (rest := [vR (2, b, 0)]) (c_X9_ears l G cy ad (d + 2) b j6_ M30_ hI33_ hb h8_) kV_X9_ears (by decide +kernel) (Nat.le_of_ble_eq_true rfl) m_887 rfl rfl rfl (ic_9 hb h8_) rfl rfl (by decide) (Nat.le_of_ble_eq_true rfl) dX10_echoFact_169 (fun r47_ M48_ q49_ => ?_)
      obtain ⟨rfl, h50_⟩ := q49_
      refine w_iload_n dX10_echoFact_172 rfl 7 rfl ?_
      refine w_iload dX10_echoFact_173 2 rfl ?_
      refine w_iload dX10_echoFact_175 1 rfl ?_
      refine w_callV (as := [vI r47_, vI u, vI r15_, vI r29_]) (rest := []) (c_X2_isHeard l G cy ad (d + 1) b r47_ u r15_ r29_ M30_ hI33_ hb) kV_X2_isHeard (by decide +kernel) (Nat.le_of_ble_eq_true rfl) m_888 rfl rfl rfl (ic_2 hb) rfl rfl (by decide) (Nat.le_of_ble_eq_true rfl) dX10_echoFact_177 (fun r51_ M52_ q53_ => ?_)
      obtain ⟨hI55_, hF56_, h54_⟩ := q53_
      have hF57_ := hF35_.tr hF56_ (fun c k => (fun h => h.elim (fun h => (Or.inl ⟨h.1, h.2.1, h.2.2⟩)) (fun h => h.elim (fun h => (Or.inr (Or.inl ⟨h.1, h.2.1, h.2.2⟩))) (fun h => h.elim (fun h => (Or.inr (Or.inr (Or.inl ⟨h.1, h.2.1, h.2.2⟩)))) (fun h => h.elim (fun h => (Or.inr (Or.inr (Or.inr (Or.inr (Or.inr (Or.inl ⟨h.1, h.2.1, h.2.2⟩))))))) (fun h => h.elim))))))
      refine w_if_eq (tgt := 187) dX10_echoFact_180 (by decide) (rfl : r51_.toInt = r51_.toInt) (fun h58_ => ?_) (fun h58_ => ?_)
      · refine w_iconst (v := 0) dX10_echoFact_187 (by decide) ?_
        exact w_iret rfl dX10_echoFact_188 ⟨hI55_, hF57_, trivial⟩
      · refine w_iconst (v := 1) dX10_echoFact_183 (by decide) ?_
        refine w_goto (tgt := 188) dX10_echoFact_184 (by decide) ?_
        exact w_iret rfl dX10_echoFact_188 ⟨hI55_, hF57_, trivial⟩
  · refine w_if_ne (tgt := 10) dX10_echoFact_5 (by decide) li_0 (fun h9 => (absurd h9 (by decide))) (fun h59_ => ?_)
    refine w_iconst (v := 0) dX10_echoFact_8 (by decide) ?_
    exact w_iret rfl dX10_echoFact_9 ⟨hIz, hFz, trivial⟩
def S_c_X10_makeClick (b : Nat) : rf → Nat → Prop := fun c k => (c.1 = 9 ∧ c.2.1 = b ∧ k = 8) ∨ (c.1 = 29 ∧ c.2.1 = b ∧ k = 0) ∨ (c.1 = 29 ∧ c.2.1 = b ∧ k = 1) ∨ (c.1 = 29 ∧ c.2.1 = b ∧ k = 2) ∨ (c.1 = 29 ∧ c.2.1 = b ∧ k = 3) ∨ (c.1 = 25 ∧ c.2.1 = b ∧ c.2.2 = 0) ∨ (c.1 = 25 ∧ c.2.1 = b ∧ c.2.2 = 1) ∨ (c.1 = 40 ∧ c.2.1 = b) ∨ (c.1 = 41 ∧ c.2.1 = b) ∨ False
theorem lf_c_X10_makeClick_0  (v : Int32) (h4_ : 0 ≤ v.toInt ∧ v.toInt ≤ 7) : 0 ≤ v.toInt ∧ v.toInt < ((8 : Nat) : Int) := by have r_v := rngI v; omega
theorem lf_c_X10_makeClick_1  (r20_ : Int32) (v6_79 : Int32) (h23_ : 0 ≤ r20_.toInt ∧ r20_.toInt ≤ 12) (h27_ : r20_.toInt ≤ 0) (hv0_79 : 1 ≤ v6_79.toInt) (h9 : v6_79.toInt < r20_.toInt) : False := by have r_r20_ := rngI r20_; have r_v6_79 := rngI v6_79; omega
theorem lf_c_X10_makeClick_2  (v4_32 : Int32) (hv0_32 : 0 ≤ v4_32.toInt) (hv1_32 : v4_32.toInt ≤ 8) (h17_ : v4_32.toInt < 8) : -2147483648 ≤ v4_32.toInt + 1 ∧ v4_32.toInt + 1 < 2147483648 := by have r_v4_32 := rngI v4_32; omega
theorem lf_c_X10_makeClick_3  (v4_32 : Int32) (z30_ : Int32) (hv0_32 : 0 ≤ v4_32.toInt) (hv1_32 : v4_32.toInt ≤ 8) (h17_ : v4_32.toInt < 8) (h31_ : z30_.toInt = v4_32.toInt + 1) : 0 ≤ z30_.toInt := by have r_v4_32 := rngI v4_32; have r_z30_ := rngI z30_; omega
theorem lf_c_X10_makeClick_4  (v4_32 : Int32) (z30_ : Int32) (hv0_32 : 0 ≤ v4_32.toInt) (hv1_32 : v4_32.toInt ≤ 8) (h17_ : v4_32.toInt < 8) (h31_ : z30_.toInt = v4_32.toInt + 1) : z30_.toInt ≤ 8 := by have r_v4_32 := rngI v4_32; have r_z30_ := rngI z30_; omega
theorem lf_c_X10_makeClick_5  (v4_32 : Int32) (z30_ : Int32) (hv0_32 : 0 ≤ v4_32.toInt) (hv1_32 : v4_32.toInt ≤ 8) (h17_ : v4_32.toInt < 8) (h31_ : z30_.toInt = v4_32.toInt + 1) : (2147483648 - z30_.toInt).toNat < (2147483648 - v4_32.toInt).toNat := by have r_v4_32 := rngI v4_32; have r_z30_ := rngI z30_; omega
theorem lf_c_X10_makeClick_6    : 1 ≤ (1 : Int32).toInt := by have q0 := li_1; omega
theorem lf_c_X10_makeClick_7  (v4_32 : Int32) (hv0_32 : 0 ≤ v4_32.toInt) (hv1_32 : v4_32.toInt ≤ 8) (h17_ : v4_32.toInt < 8) : -2147483648 ≤ v4_32.toInt + 1 ∧ v4_32.toInt + 1 < 2147483648 := by have r_v4_32 := rngI v4_32; omega
theorem lf_c_X10_makeClick_8  (v4_32 : Int32) (z47_ : Int32) (hv0_32 : 0 ≤ v4_32.toInt) (hv1_32 : v4_32.toInt ≤ 8) (h17_ : v4_32.toInt < 8) (h48_ : z47_.toInt = v4_32.toInt + 1) : 0 ≤ z47_.toInt := by have r_v4_32 := rngI v4_32; have r_z47_ := rngI z47_; omega
theorem lf_c_X10_makeClick_9  (v4_32 : Int32) (z47_ : Int32) (hv0_32 : 0 ≤ v4_32.toInt) (hv1_32 : v4_32.toInt ≤ 8) (h17_ : v4_32.toInt < 8) (h48_ : z47_.toInt = v4_32.toInt + 1) : z47_.toInt ≤ 8 := by have r_v4_32 := rngI v4_32; have r_z47_ := rngI z47_; omega
theorem lf_c_X10_makeClick_10  (v4_32 : Int32) (z47_ : Int32) (hv0_32 : 0 ≤ v4_32.toInt) (hv1_32 : v4_32.toInt ≤ 8) (h17_ : v4_32.toInt < 8) (h48_ : z47_.toInt = v4_32.toInt + 1) : (2147483648 - z47_.toInt).toNat < (2147483648 - v4_32.toInt).toNat := by have r_v4_32 := rngI v4_32; have r_z47_ := rngI z47_; omega
theorem lf_c_X10_makeClick_11  (r20_ : Int32) (v6_79 : Int32) (h23_ : 0 ≤ r20_.toInt ∧ r20_.toInt ≤ 12) (h27_ : 0 < r20_.toInt) (hv0_79 : 1 ≤ v6_79.toInt) (h46_ : v6_79.toInt < r20_.toInt) : -2147483648 ≤ v6_79.toInt + 1 ∧ v6_79.toInt + 1 < 2147483648 := by have r_r20_ := rngI r20_; have r_v6_79 := rngI v6_79; omega
theorem lf_c_X10_makeClick_12  (r20_ : Int32) (v6_79 : Int32) (z61_ : Int32) (h23_ : 0 ≤ r20_.toInt ∧ r20_.toInt ≤ 12) (h27_ : 0 < r20_.toInt) (hv0_79 : 1 ≤ v6_79.toInt) (h46_ : v6_79.toInt < r20_.toInt) (h62_ : z61_.toInt = v6_79.toInt + 1) : 1 ≤ z61_.toInt := by have r_r20_ := rngI r20_; have r_v6_79 := rngI v6_79; have r_z61_ := rngI z61_; omega
theorem lf_c_X10_makeClick_13  (r20_ : Int32) (v6_79 : Int32) (z61_ : Int32) (h23_ : 0 ≤ r20_.toInt ∧ r20_.toInt ≤ 12) (h27_ : 0 < r20_.toInt) (hv0_79 : 1 ≤ v6_79.toInt) (h46_ : v6_79.toInt < r20_.toInt) (h62_ : z61_.toInt = v6_79.toInt + 1) : (2147483648 - z61_.toInt).toNat < (2147483648 - v6_79.toInt).toNat := by have r_r20_ := rngI r20_; have r_v6_79 := rngI v6_79; have r_z61_ := rngI z61_; omega
theorem lf_c_X10_makeClick_14    : 1 ≤ (1 : Int32).toInt := by have q0 := li_1; omega
theorem lf_c_X10_makeClick_15    : 0 ≤ (0 : Int32).toInt := by have q0 := li_0; omega
theorem lf_c_X10_makeClick_16    : (0 : Int32).toInt ≤ 8 := by have q0 := li_0; omega
set_option maxHeartbeats 4000000 in
set_option maxRecDepth 100000 in
theorem c_X10_makeClick (l : Launch) (G : va_G) (cy : Nat → ClassId) (ad : rf → Nat) (d : Nat) (b : Nat) (v : Int32) (Mz : mM) (hIz : Inv Mz) (hb : b < 3) : WP CC l G cy ad yX10_makeClick cX10_makeClick 7 (some .int) (d + 4) 0 [(0, vR (10, b, 0)), (1, vI v)] [] Mz (fun r M' => Inv M' ∧ FR (S_c_X10_makeClick b) Mz M' ∧ True) := by
  have hFz : FR (S_c_X10_makeClick b) Mz Mz := FR.self
  refine w_aload_n dX10_makeClick_0 rfl 0 rfl ?_
  refine w_iload_n dX10_makeClick_1 rfl 1 rfl ?_
  refine w_callV (as := [vI v]) (rest := []) (c_X10_hasWalker l G cy ad (d + 3) b v Mz hIz hb) kV_X10_hasWalker (by decide +kernel) (Nat.le_of_ble_eq_true rfl) m_847 rfl rfl rfl (ic_10 hb) rfl rfl (by decide) (Nat.le_of_ble_eq_true rfl) dX10_makeClick_2 (fun r1_ M2_ q3_ => ?_)
  obtain ⟨rfl, h4_⟩ := q3_
  rcases h4_ with ⟨rfl, h4_⟩ | rfl
  · refine w_if_ne (tgt := 10) dX10_makeClick_5 (by decide) li_1 (fun h5_ => ?_) (fun h9 => (absurd h9 (by decide)))
    refine w_aload_n dX10_makeClick_10 rfl 0 rfl ?_
    refine w_getR (c' := (42, b, 0)) fl_RX10_46 rfl rfl (ic_10 hb) dX10_makeClick_11 rfl ?_
    refine w_iload_n dX10_makeClick_14 rfl 1 rfl ?_
    refine w_aald rfl rfl rfl (fun _ => rfl) (ic_42 hb) (rfl : v.toInt = v.toInt) (lf_c_X10_makeClick_0 v h4_) dX10_makeClick_15 (fun j6_ h7_ h8_ => ?_)
    refine w_astore_n (ls' := [(2, vR (9, b, j6_)), (0, vR (10, b, 0)), (1, vI v)]) dX10_makeClick_16 rfl (by decide) rfl ?_
    refine w_aload_n dX10_makeClick_17 rfl 0 rfl ?_
    refine w_dup dX10_makeClick_18 rfl ?_
    refine w_getI fl_RX10_69 rfl rfl (ic_9 hb h8_) dX10_makeClick_19 (fun z9_ e10_ => ?_)
    refine w_iconst (v := 1) dX10_makeClick_22 (by decide) ?_
    refine w_iadd dX10_makeClick_23 (fun z11_ _ => ?_)
    refine w_putI CC_nd fl_RX10_69 rfl rfl (ic_9 hb h8_) dX10_makeClick_24 (fun M12_ hM13_ => ?_)
    have hI14_ := hIz.put hM13_ (fun h => absurd h (by decide))
    have hF15_ := hFz.put hM13_ (Or.inl ⟨rfl, rfl, rfl⟩)
    refine w_iconst (v := 0) dX10_makeClick_27 (by decide) ?_
    refine w_istore_n (ls' := [(3, vI 0), (2, vR (9, b, j6_)), (0, vR (10, b, 0)), (1, vI v)]) dX10_makeClick_28 rfl (by decide) rfl ?_
    refine w_iconst (v := 0) dX10_makeClick_29 (by decide) ?_
    refine w_istore (ls' := [(4, vI 0), (3, vI 0), (2, vR (9, b, j6_)), (0, vR (10, b, 0)), (1, vI v)]) dX10_makeClick_30 (by decide) rfl ?_
    have lp16_ : ∀ (nn_32 : Nat) (M_32 : mM) (hI_32 : Inv M_32) (hF_32 : FR (S_c_X10_makeClick b) Mz M_32) (v4_32 : Int32) (v3_32 : Int32) (hv0_32 : 0 ≤ v4_32.toInt) (hv1_32 : v4_32.toInt ≤ 8), (2147483648 - v4_32.toInt).toNat < nn_32 → WP CC l G cy ad yX10_makeClick cX10_makeClick 7 (some .int) (d + 4) 32 [(4, vI v4_32), (3, vI v3_32), (2, vR (9, b, j6_)), (0, vR (10, b, 0)), (1, vI v)] [] M_32 (fun r M' => Inv M' ∧ FR (S_c_X10_makeClick b) Mz M' ∧ True) := by
      intro nn_32
      induction nn_32 with
      | zero => intro M_32 hI_32 hF_32 v4_32 v3_32 hv0_32 hv1_32 hm_32; exact absurd hm_32 (Nat.not_lt_zero _)
      | succ nn_32 ih_32 =>
        intro M_32 hI_32 hF_32 v4_32 v3_32 hv0_32 hv1_32 hm_32
        refine w_iload dX10_makeClick_32 0 rfl ?_
        refine w_bipush (v := 8) dX10_makeClick_34 (by decide) ?_
        refine w_icmp_ge (tgt := 113) dX10_makeClick_36 (by decide) (rfl : v4_32.toInt = v4_32.toInt) li_8 (fun h17_ => ?_) (fun h17_ => ?_)
        · refine w_iload_n dX10_makeClick_113 rfl 1 rfl ?_
          exact w_iret rfl dX10_makeClick_114 ⟨hI_32, hF_32, trivial⟩
        · refine w_aload_n dX10_makeClick_39 rfl 3 rfl ?_
          refine w_iload_n dX10_makeClick_40 rfl 4 rfl ?_
          refine w_aload_n dX10_makeClick_41 rfl 2 rfl ?_
          refine w_getI fl_RX10_109 rfl rfl (ic_9 hb h8_) dX10_makeClick_42 (fun z18_ e19_ => ?_)
          refine w_iload dX10_makeClick_45 0 rfl ?_
          refine w_callV (as := [vI v, vI z18_, vI v4_32]) (rest := []) (c_X10_heardYards l G cy ad d b v z18_ v4_32 M_32 hI_32 hb) kV_X10_heardYards (by decide +kernel) (Nat.le_of_ble_eq_true rfl) m_900 rfl rfl rfl (ic_10 hb) rfl rfl (by decide) (Nat.le_of_ble_eq_true rfl) dX10_makeClick_47 (fun r20_ M21_ q22_ => ?_)
          obtain ⟨hI24_, hF25_, h23_⟩ := q22_
          have hF26_ := hF_32.tr hF25_ (fun c k => (fun h => h.elim (fun h => (Or.inr (Or.inl ⟨h.1, h.2.1, h.2.2⟩))) (fun h => h.elim (fun h => (Or.inr (Or.inr (Or.inl ⟨h.1, h.2.1, h.2.2⟩)))) (fun h => h.elim (fun h => (Or.inr (Or.inr (Or.inr (Or.inl ⟨h.1, h.2.1, h.2.2⟩))))) (fun h => h.elim (fun h => (Or.inr (Or.inr (Or.inr (Or.inr (Or.inl ⟨h.1, h.2.1, h.2.2⟩)))))) (fun h => h.elim (fun h => (Or.inr (Or.inr (Or.inr (Or.inr (Or.inr (Or.inl ⟨h.1, h.2.1, h.2.2⟩))))))) (fun h => h.elim (fun h => (Or.inr (Or.inr (Or.inr (Or.inr (Or.inr (Or.inr (Or.inl ⟨h.1, h.2.1, h.2.2⟩)))))))) (fun h => h.elim))))))))
          refine w_istore (ls' := [(5, vI r20_), (4, vI v4_32), (3, vI v3_32), (2, vR (9, b, j6_)), (0, vR (10, b, 0)), (1, vI v)]) dX10_makeClick_50 (by decide) rfl ?_
          refine w_iload dX10_makeClick_52 0 rfl ?_
          refine w_if_le (tgt := 76) dX10_makeClick_54 (by decide) (rfl : r20_.toInt = r20_.toInt) (fun h27_ => ?_) (fun h27_ => ?_)
          · refine w_iconst (v := 1) dX10_makeClick_76 (by decide) ?_
            refine w_istore (ls' := [(6, vI 1), (5, vI r20_), (4, vI v4_32), (3, vI v3_32), (2, vR (9, b, j6_)), (0, vR (10, b, 0)), (1, vI v)]) dX10_makeClick_77 (by decide) rfl ?_
            have lp28_ : ∀ (nn_79 : Nat) (M_79 : mM) (hI_79 : Inv M_79) (hF_79 : FR (S_c_X10_makeClick b) Mz M_79) (v6_79 : Int32) (hv0_79 : 1 ≤ v6_79.toInt), (2147483648 - v6_79.toInt).toNat < nn_79 → WP CC l G cy ad yX10_makeClick cX10_makeClick 7 (some .int) (d + 4) 79 [(6, vI v6_79), (5, vI r20_), (4, vI v4_32), (3, vI v3_32), (2, vR (9, b, j6_)), (0, vR (10, b, 0)), (1, vI v)] [] M_79 (fun r M' => Inv M' ∧ FR (S_c_X10_makeClick b) Mz M' ∧ True) := by
              intro nn_79
              induction nn_79 with
              | zero => intro M_79 hI_79 hF_79 v6_79 hv0_79 hm_79; exact absurd hm_79 (Nat.not_lt_zero _)
              | succ nn_79 ih_79 =>
                intro M_79 hI_79 hF_79 v6_79 hv0_79 hm_79
                refine w_iload dX10_makeClick_79 0 rfl ?_
                refine w_iload dX10_makeClick_81 1 rfl ?_
                refine w_icmp_ge (tgt := 107) dX10_makeClick_83 (by decide) (rfl : v6_79.toInt = v6_79.toInt) (rfl : r20_.toInt = r20_.toInt) (fun h29_ => ?_) (fun h9 => (lf_c_X10_makeClick_1 r20_ v6_79 h23_ h27_ hv0_79 h9).elim)
                refine w_iincB (j := 2) (f := fun z30_ => [(4, vI z30_), (6, vI v6_79), (5, vI r20_), (3, vI v3_32), (2, vR (9, b, j6_)), (0, vR (10, b, 0)), (1, vI v)]) dX10_makeClick_107 rfl (by decide) (fun _ => rfl) (rfl : v4_32.toInt = v4_32.toInt) li_1 (lf_c_X10_makeClick_2 v4_32 hv0_32 hv1_32 h17_) (fun z30_ h31_ => ?_)
                refine w_goto (tgt := 32) dX10_makeClick_110 (by decide) ?_
                refine w_loc (ls' := [(4, vI z30_), (3, vI v3_32), (2, vR (9, b, j6_)), (0, vR (10, b, 0)), (1, vI v)]) [0, 3, 4, 5, 6] rfl ?_
                exact ih_32 M_79 hI_79 hF_79 z30_ v3_32 (lf_c_X10_makeClick_3 v4_32 z30_ hv0_32 hv1_32 h17_ h31_) (lf_c_X10_makeClick_4 v4_32 z30_ hv0_32 hv1_32 h17_ h31_) (Nat.lt_of_lt_of_le (lf_c_X10_makeClick_5 v4_32 z30_ hv0_32 hv1_32 h17_ h31_) (Nat.le_of_lt_succ hm_32))
            exact lp28_ _ M21_ hI24_ hF26_ 1 (lf_c_X10_makeClick_6 ) (Nat.lt_succ_self _)
          · refine w_iincU (j := 2) (f := fun z32_ => [(3, vI z32_), (5, vI r20_), (4, vI v4_32), (2, vR (9, b, j6_)), (0, vR (10, b, 0)), (1, vI v)]) dX10_makeClick_57 rfl (by decide) (fun _ => rfl) (fun z32_ => ?_)
            refine w_aload_n dX10_makeClick_60 rfl 3 rfl ?_
            refine w_aload_n dX10_makeClick_61 rfl 3 rfl ?_
            refine w_getI fl_RX10_109 rfl rfl (ic_9 hb h8_) dX10_makeClick_62 (fun z33_ e34_ => ?_)
            refine w_iload dX10_makeClick_65 2 rfl ?_
            refine w_iload dX10_makeClick_67 1 rfl ?_
            refine w_callS (as := [vI z33_, vI v4_32, vI r20_]) (rest := [vR (9, b, j6_)]) (c_X7_cellFrom l G cy ad (d + 2) z33_ v4_32 r20_ M21_ hI24_) kS_X7_cellFrom (by decide +kernel) (Nat.le_of_ble_eq_true rfl) m_849 rfl rfl (by decide) (Nat.le_of_ble_eq_true rfl) dX10_makeClick_69 (fun r35_ M36_ q37_ => ?_)
            obtain ⟨rfl, h38_⟩ := q37_
            refine w_iconst (v := 1) dX10_makeClick_72 (by decide) ?_
            refine w_callVv (as := [vI r35_, vI 1]) (rest := []) (c_X9_addYes l G cy ad (d + 2) b j6_ r35_ 1 M21_ hI24_ hb h8_) kV_X9_addYes (by decide +kernel) (Nat.le_of_ble_eq_true rfl) m_915 rfl rfl rfl (ic_9 hb h8_) rfl rfl (by decide) (Nat.le_of_ble_eq_true rfl) dX10_makeClick_73 (fun M39_ q40_ => ?_)
            obtain ⟨hI42_, hF43_, h41_⟩ := q40_
            have hF44_ := hF26_.tr hF43_ (fun c k => (fun h => h.elim (fun h => (Or.inr (Or.inr (Or.inr (Or.inr (Or.inr (Or.inr (Or.inr (Or.inl ⟨h.1, h.2.1⟩))))))))) (fun h => h.elim)))
            refine w_iconst (v := 1) dX10_makeClick_76 (by decide) ?_
            refine w_istore (ls' := [(6, vI 1), (3, vI z32_), (5, vI r20_), (4, vI v4_32), (2, vR (9, b, j6_)), (0, vR (10, b, 0)), (1, vI v)]) dX10_makeClick_77 (by decide) rfl ?_
            have lp45_ : ∀ (nn_79 : Nat) (M_79 : mM) (hI_79 : Inv M_79) (hF_79 : FR (S_c_X10_makeClick b) Mz M_79) (v6_79 : Int32) (hv0_79 : 1 ≤ v6_79.toInt), (2147483648 - v6_79.toInt).toNat < nn_79 → WP CC l G cy ad yX10_makeClick cX10_makeClick 7 (some .int) (d + 4) 79 [(6, vI v6_79), (3, vI z32_), (5, vI r20_), (4, vI v4_32), (2, vR (9, b, j6_)), (0, vR (10, b, 0)), (1, vI v)] [] M_79 (fun r M' => Inv M' ∧ FR (S_c_X10_makeClick b) Mz M' ∧ True) := by
              intro nn_79
              induction nn_79 with
              | zero => intro M_79 hI_79 hF_79 v6_79 hv0_79 hm_79; exact absurd hm_79 (Nat.not_lt_zero _)
              | succ nn_79 ih_79 =>
                intro M_79 hI_79 hF_79 v6_79 hv0_79 hm_79
                refine w_iload dX10_makeClick_79 0 rfl ?_
                refine w_iload dX10_makeClick_81 2 rfl ?_
                refine w_icmp_ge (tgt := 107) dX10_makeClick_83 (by decide) (rfl : v6_79.toInt = v6_79.toInt) (rfl : r20_.toInt = r20_.toInt) (fun h46_ => ?_) (fun h46_ => ?_)
                · refine w_iincB (j := 3) (f := fun z47_ => [(4, vI z47_), (6, vI v6_79), (3, vI z32_), (5, vI r20_), (2, vR (9, b, j6_)), (0, vR (10, b, 0)), (1, vI v)]) dX10_makeClick_107 rfl (by decide) (fun _ => rfl) (rfl : v4_32.toInt = v4_32.toInt) li_1 (lf_c_X10_makeClick_7 v4_32 hv0_32 hv1_32 h17_) (fun z47_ h48_ => ?_)
                  refine w_goto (tgt := 32) dX10_makeClick_110 (by decide) ?_
                  refine w_loc (ls' := [(4, vI z47_), (3, vI z32_), (2, vR (9, b, j6_)), (0, vR (10, b, 0)), (1, vI v)]) [0, 2, 4, 5, 6] rfl ?_
                  exact ih_32 M_79 hI_79 hF_79 z47_ z32_ (lf_c_X10_makeClick_8 v4_32 z47_ hv0_32 hv1_32 h17_ h48_) (lf_c_X10_makeClick_9 v4_32 z47_ hv0_32 hv1_32 h17_ h48_) (Nat.lt_of_lt_of_le (lf_c_X10_makeClick_10 v4_32 z47_ hv0_32 hv1_32 h17_ h48_) (Nat.le_of_lt_succ hm_32))
                · refine w_aload_n dX10_makeClick_86 rfl 4 rfl ?_
                  refine w_aload_n dX10_makeClick_87 rfl 4 rfl ?_
                  refine w_getI fl_RX10_109 rfl rfl (ic_9 hb h8_) dX10_makeClick_88 (fun z49_ e50_ => ?_)
                  refine w_iload dX10_makeClick_91 3 rfl ?_
                  refine w_iload dX10_makeClick_93 0 rfl ?_
                  refine w_callS (as := [vI z49_, vI v4_32, vI v6_79]) (rest := [vR (9, b, j6_)]) (c_X7_cellFrom l G cy ad (d + 2) z49_ v4_32 v6_79 M_79 hI_79) kS_X7_cellFrom (by decide +kernel) (Nat.le_of_ble_eq_true rfl) m_849 rfl rfl (by decide) (Nat.le_of_ble_eq_true rfl) dX10_makeClick_95 (fun r51_ M52_ q53_ => ?_)
                  obtain ⟨rfl, h54_⟩ := q53_
                  refine w_callVv (as := [vI r51_]) (rest := []) (c_X9_addNo l G cy ad (d + 2) b j6_ r51_ M_79 hI_79 hb h8_) kV_X9_addNo (by decide +kernel) (Nat.le_of_ble_eq_true rfl) m_921 rfl rfl rfl (ic_9 hb h8_) rfl rfl (by decide) (Nat.le_of_ble_eq_true rfl) dX10_makeClick_98 (fun M55_ q56_ => ?_)
                  obtain ⟨hI58_, hF59_, h57_⟩ := q56_
                  have hF60_ := hF_79.tr hF59_ (fun c k => (fun h => h.elim (fun h => (Or.inr (Or.inr (Or.inr (Or.inr (Or.inr (Or.inr (Or.inr (Or.inr (Or.inl ⟨h.1, h.2.1⟩)))))))))) (fun h => h.elim)))
                  refine w_iincB (j := 0) (f := fun z61_ => [(6, vI z61_), (3, vI z32_), (5, vI r20_), (4, vI v4_32), (2, vR (9, b, j6_)), (0, vR (10, b, 0)), (1, vI v)]) dX10_makeClick_101 rfl (by decide) (fun _ => rfl) (rfl : v6_79.toInt = v6_79.toInt) li_1 (lf_c_X10_makeClick_11 r20_ v6_79 h23_ h27_ hv0_79 h46_) (fun z61_ h62_ => ?_)
                  refine w_goto (tgt := 79) dX10_makeClick_104 (by decide) ?_
                  refine w_loc (ls' := [(6, vI z61_), (3, vI z32_), (5, vI r20_), (4, vI v4_32), (2, vR (9, b, j6_)), (0, vR (10, b, 0)), (1, vI v)]) [0, 1, 2, 3, 4, 5, 6] rfl ?_
                  exact ih_79 M55_ hI58_ hF60_ z61_ (lf_c_X10_makeClick_12 r20_ v6_79 z61_ h23_ h27_ hv0_79 h46_ h62_) (Nat.lt_of_lt_of_le (lf_c_X10_makeClick_13 r20_ v6_79 z61_ h23_ h27_ hv0_79 h46_ h62_) (Nat.le_of_lt_succ hm_79))
            exact lp45_ _ M39_ hI42_ hF44_ 1 (lf_c_X10_makeClick_14 ) (Nat.lt_succ_self _)
    exact lp16_ _ M12_ hI14_ hF15_ 0 0 (lf_c_X10_makeClick_15 ) (lf_c_X10_makeClick_16 ) (Nat.lt_succ_self _)
  · refine w_if_ne (tgt := 10) dX10_makeClick_5 (by decide) li_0 (fun h9 => (absurd h9 (by decide))) (fun h63_ => ?_)
    refine w_iconst (v := 0) dX10_makeClick_8 (by decide) ?_
    exact w_iret rfl dX10_makeClick_9 ⟨hIz, hFz, trivial⟩
theorem lf_c_X10_countWrong_0  (v : Int32) (h4_ : 0 ≤ v.toInt ∧ v.toInt ≤ 7) : 0 ≤ v.toInt ∧ v.toInt < ((8 : Nat) : Int) := by have r_v := rngI v; omega
theorem lf_c_X10_countWrong_1  (v3_14 : Int32) (hv0_14 : 0 ≤ v3_14.toInt) (hv1_14 : v3_14.toInt ≤ 192) (h7_ : v3_14.toInt < 192) : -2147483648 ≤ v3_14.toInt + 1 ∧ v3_14.toInt + 1 < 2147483648 := by have r_v3_14 := rngI v3_14; omega
theorem lf_c_X10_countWrong_2  (v3_14 : Int32) (z21_ : Int32) (hv0_14 : 0 ≤ v3_14.toInt) (hv1_14 : v3_14.toInt ≤ 192) (h7_ : v3_14.toInt < 192) (h22_ : z21_.toInt = v3_14.toInt + 1) : 0 ≤ z21_.toInt := by have r_v3_14 := rngI v3_14; have r_z21_ := rngI z21_; omega
theorem lf_c_X10_countWrong_3  (v3_14 : Int32) (z21_ : Int32) (hv0_14 : 0 ≤ v3_14.toInt) (hv1_14 : v3_14.toInt ≤ 192) (h7_ : v3_14.toInt < 192) (h22_ : z21_.toInt = v3_14.toInt + 1) : z21_.toInt ≤ 192 := by have r_v3_14 := rngI v3_14; have r_z21_ := rngI z21_; omega
theorem lf_c_X10_countWrong_4  (v3_14 : Int32) (z21_ : Int32) (hv0_14 : 0 ≤ v3_14.toInt) (hv1_14 : v3_14.toInt ≤ 192) (h7_ : v3_14.toInt < 192) (h22_ : z21_.toInt = v3_14.toInt + 1) : (2147483648 - z21_.toInt).toNat < (2147483648 - v3_14.toInt).toNat := by have r_v3_14 := rngI v3_14; have r_z21_ := rngI z21_; omega
theorem lf_c_X10_countWrong_5  (v3_14 : Int32) (hv0_14 : 0 ≤ v3_14.toInt) (hv1_14 : v3_14.toInt ≤ 192) (h7_ : v3_14.toInt < 192) : -2147483648 ≤ v3_14.toInt + 1 ∧ v3_14.toInt + 1 < 2147483648 := by have r_v3_14 := rngI v3_14; omega
theorem lf_c_X10_countWrong_6  (v3_14 : Int32) (z24_ : Int32) (hv0_14 : 0 ≤ v3_14.toInt) (hv1_14 : v3_14.toInt ≤ 192) (h7_ : v3_14.toInt < 192) (h25_ : z24_.toInt = v3_14.toInt + 1) : 0 ≤ z24_.toInt := by have r_v3_14 := rngI v3_14; have r_z24_ := rngI z24_; omega
theorem lf_c_X10_countWrong_7  (v3_14 : Int32) (z24_ : Int32) (hv0_14 : 0 ≤ v3_14.toInt) (hv1_14 : v3_14.toInt ≤ 192) (h7_ : v3_14.toInt < 192) (h25_ : z24_.toInt = v3_14.toInt + 1) : z24_.toInt ≤ 192 := by have r_v3_14 := rngI v3_14; have r_z24_ := rngI z24_; omega
theorem lf_c_X10_countWrong_8  (v3_14 : Int32) (z24_ : Int32) (hv0_14 : 0 ≤ v3_14.toInt) (hv1_14 : v3_14.toInt ≤ 192) (h7_ : v3_14.toInt < 192) (h25_ : z24_.toInt = v3_14.toInt + 1) : (2147483648 - z24_.toInt).toNat < (2147483648 - v3_14.toInt).toNat := by have r_v3_14 := rngI v3_14; have r_z24_ := rngI z24_; omega
theorem lf_c_X10_countWrong_9  (v3_14 : Int32) (hv0_14 : 0 ≤ v3_14.toInt) (hv1_14 : v3_14.toInt ≤ 192) (h7_ : v3_14.toInt < 192) : -2147483648 ≤ v3_14.toInt + 1 ∧ v3_14.toInt + 1 < 2147483648 := by have r_v3_14 := rngI v3_14; omega
theorem lf_c_X10_countWrong_10  (v3_14 : Int32) (z27_ : Int32) (hv0_14 : 0 ≤ v3_14.toInt) (hv1_14 : v3_14.toInt ≤ 192) (h7_ : v3_14.toInt < 192) (h28_ : z27_.toInt = v3_14.toInt + 1) : 0 ≤ z27_.toInt := by have r_v3_14 := rngI v3_14; have r_z27_ := rngI z27_; omega
theorem lf_c_X10_countWrong_11  (v3_14 : Int32) (z27_ : Int32) (hv0_14 : 0 ≤ v3_14.toInt) (hv1_14 : v3_14.toInt ≤ 192) (h7_ : v3_14.toInt < 192) (h28_ : z27_.toInt = v3_14.toInt + 1) : z27_.toInt ≤ 192 := by have r_v3_14 := rngI v3_14; have r_z27_ := rngI z27_; omega
theorem lf_c_X10_countWrong_12  (v3_14 : Int32) (z27_ : Int32) (hv0_14 : 0 ≤ v3_14.toInt) (hv1_14 : v3_14.toInt ≤ 192) (h7_ : v3_14.toInt < 192) (h28_ : z27_.toInt = v3_14.toInt + 1) : (2147483648 - z27_.toInt).toNat < (2147483648 - v3_14.toInt).toNat := by have r_v3_14 := rngI v3_14; have r_z27_ := rngI z27_; omega
theorem lf_c_X10_countWrong_13  (v3_14 : Int32) (hv0_14 : 0 ≤ v3_14.toInt) (hv1_14 : v3_14.toInt ≤ 192) (h7_ : v3_14.toInt < 192) : -2147483648 ≤ v3_14.toInt + 1 ∧ v3_14.toInt + 1 < 2147483648 := by have r_v3_14 := rngI v3_14; omega
theorem lf_c_X10_countWrong_14  (v3_14 : Int32) (z30_ : Int32) (hv0_14 : 0 ≤ v3_14.toInt) (hv1_14 : v3_14.toInt ≤ 192) (h7_ : v3_14.toInt < 192) (h31_ : z30_.toInt = v3_14.toInt + 1) : 0 ≤ z30_.toInt := by have r_v3_14 := rngI v3_14; have r_z30_ := rngI z30_; omega
theorem lf_c_X10_countWrong_15  (v3_14 : Int32) (z30_ : Int32) (hv0_14 : 0 ≤ v3_14.toInt) (hv1_14 : v3_14.toInt ≤ 192) (h7_ : v3_14.toInt < 192) (h31_ : z30_.toInt = v3_14.toInt + 1) : z30_.toInt ≤ 192 := by have r_v3_14 := rngI v3_14; have r_z30_ := rngI z30_; omega
theorem lf_c_X10_countWrong_16  (v3_14 : Int32) (z30_ : Int32) (hv0_14 : 0 ≤ v3_14.toInt) (hv1_14 : v3_14.toInt ≤ 192) (h7_ : v3_14.toInt < 192) (h31_ : z30_.toInt = v3_14.toInt + 1) : (2147483648 - z30_.toInt).toNat < (2147483648 - v3_14.toInt).toNat := by have r_v3_14 := rngI v3_14; have r_z30_ := rngI z30_; omega
theorem lf_c_X10_countWrong_17  (v3_14 : Int32) (hv0_14 : 0 ≤ v3_14.toInt) (hv1_14 : v3_14.toInt ≤ 192) (h7_ : v3_14.toInt < 192) : -2147483648 ≤ v3_14.toInt + 1 ∧ v3_14.toInt + 1 < 2147483648 := by have r_v3_14 := rngI v3_14; omega
theorem lf_c_X10_countWrong_18  (v3_14 : Int32) (z33_ : Int32) (hv0_14 : 0 ≤ v3_14.toInt) (hv1_14 : v3_14.toInt ≤ 192) (h7_ : v3_14.toInt < 192) (h34_ : z33_.toInt = v3_14.toInt + 1) : 0 ≤ z33_.toInt := by have r_v3_14 := rngI v3_14; have r_z33_ := rngI z33_; omega
theorem lf_c_X10_countWrong_19  (v3_14 : Int32) (z33_ : Int32) (hv0_14 : 0 ≤ v3_14.toInt) (hv1_14 : v3_14.toInt ≤ 192) (h7_ : v3_14.toInt < 192) (h34_ : z33_.toInt = v3_14.toInt + 1) : z33_.toInt ≤ 192 := by have r_v3_14 := rngI v3_14; have r_z33_ := rngI z33_; omega
theorem lf_c_X10_countWrong_20  (v3_14 : Int32) (z33_ : Int32) (hv0_14 : 0 ≤ v3_14.toInt) (hv1_14 : v3_14.toInt ≤ 192) (h7_ : v3_14.toInt < 192) (h34_ : z33_.toInt = v3_14.toInt + 1) : (2147483648 - z33_.toInt).toNat < (2147483648 - v3_14.toInt).toNat := by have r_v3_14 := rngI v3_14; have r_z33_ := rngI z33_; omega
theorem lf_c_X10_countWrong_21  (v3_14 : Int32) (hv0_14 : 0 ≤ v3_14.toInt) (hv1_14 : v3_14.toInt ≤ 192) (h7_ : v3_14.toInt < 192) : -2147483648 ≤ v3_14.toInt + 1 ∧ v3_14.toInt + 1 < 2147483648 := by have r_v3_14 := rngI v3_14; omega
theorem lf_c_X10_countWrong_22  (v3_14 : Int32) (z36_ : Int32) (hv0_14 : 0 ≤ v3_14.toInt) (hv1_14 : v3_14.toInt ≤ 192) (h7_ : v3_14.toInt < 192) (h37_ : z36_.toInt = v3_14.toInt + 1) : 0 ≤ z36_.toInt := by have r_v3_14 := rngI v3_14; have r_z36_ := rngI z36_; omega
theorem lf_c_X10_countWrong_23  (v3_14 : Int32) (z36_ : Int32) (hv0_14 : 0 ≤ v3_14.toInt) (hv1_14 : v3_14.toInt ≤ 192) (h7_ : v3_14.toInt < 192) (h37_ : z36_.toInt = v3_14.toInt + 1) : z36_.toInt ≤ 192 := by have r_v3_14 := rngI v3_14; have r_z36_ := rngI z36_; omega
theorem lf_c_X10_countWrong_24  (v3_14 : Int32) (z36_ : Int32) (hv0_14 : 0 ≤ v3_14.toInt) (hv1_14 : v3_14.toInt ≤ 192) (h7_ : v3_14.toInt < 192) (h37_ : z36_.toInt = v3_14.toInt + 1) : (2147483648 - z36_.toInt).toNat < (2147483648 - v3_14.toInt).toNat := by have r_v3_14 := rngI v3_14; have r_z36_ := rngI z36_; omega
theorem lf_c_X10_countWrong_25    : 0 ≤ (0 : Int32).toInt := by have q0 := li_0; omega
theorem lf_c_X10_countWrong_26    : (0 : Int32).toInt ≤ 192 := by have q0 := li_0; omega
set_option maxHeartbeats 4000000 in
set_option maxRecDepth 100000 in
theorem c_X10_countWrong (l : Launch) (G : va_G) (cy : Nat → ClassId) (ad : rf → Nat) (d : Nat) (b : Nat) (v : Int32) (Mz : mM) (hIz : Inv Mz) (hb : b < 3) : WP CC l G cy ad yX10_countWrong cX10_countWrong 6 (some .int) (d + 2) 0 [(0, vR (10, b, 0)), (1, vI v)] [] Mz (fun r M' => Mz = M' ∧ True) := by
  refine w_aload_n dX10_countWrong_0 rfl 0 rfl ?_
  refine w_iload_n dX10_countWrong_1 rfl 1 rfl ?_
  refine w_callV (as := [vI v]) (rest := []) (c_X10_hasWalker l G cy ad (d + 1) b v Mz hIz hb) kV_X10_hasWalker (by decide +kernel) (Nat.le_of_ble_eq_true rfl) m_847 rfl rfl rfl (ic_10 hb) rfl rfl (by decide) (Nat.le_of_ble_eq_true rfl) dX10_countWrong_2 (fun r1_ M2_ q3_ => ?_)
  obtain ⟨rfl, h4_⟩ := q3_
  rcases h4_ with ⟨rfl, h4_⟩ | rfl
  · refine w_if_ne (tgt := 10) dX10_countWrong_5 (by decide) li_1 (fun h5_ => ?_) (fun h9 => (absurd h9 (by decide)))
    refine w_iconst (v := 0) dX10_countWrong_10 (by decide) ?_
    refine w_istore_n (ls' := [(2, vI 0), (0, vR (10, b, 0)), (1, vI v)]) dX10_countWrong_11 rfl (by decide) rfl ?_
    refine w_iconst (v := 0) dX10_countWrong_12 (by decide) ?_
    refine w_istore_n (ls' := [(3, vI 0), (2, vI 0), (0, vR (10, b, 0)), (1, vI v)]) dX10_countWrong_13 rfl (by decide) rfl ?_
    have lp6_ : ∀ (nn_14 : Nat) (v3_14 : Int32) (v2_14 : Int32) (hv0_14 : 0 ≤ v3_14.toInt) (hv1_14 : v3_14.toInt ≤ 192), (2147483648 - v3_14.toInt).toNat < nn_14 → WP CC l G cy ad yX10_countWrong cX10_countWrong 6 (some .int) (d + 2) 14 [(3, vI v3_14), (2, vI v2_14), (0, vR (10, b, 0)), (1, vI v)] [] Mz (fun r M' => Mz = M' ∧ True) := by
      intro nn_14
      induction nn_14 with
      | zero => intro v3_14 v2_14 hv0_14 hv1_14 hm_14; exact absurd hm_14 (Nat.not_lt_zero _)
      | succ nn_14 ih_14 =>
        intro v3_14 v2_14 hv0_14 hv1_14 hm_14
        refine w_iload_n dX10_countWrong_14 rfl 0 rfl ?_
        refine w_sipush (v := 192) dX10_countWrong_15 (by decide) ?_
        refine w_icmp_ge (tgt := 70) dX10_countWrong_18 (by decide) (rfl : v3_14.toInt = v3_14.toInt) li_192 (fun h7_ => ?_) (fun h7_ => ?_)
        · refine w_iload_n dX10_countWrong_70 rfl 1 rfl ?_
          exact w_iret rfl dX10_countWrong_71 ⟨rfl, trivial⟩
        · refine w_aload_n dX10_countWrong_21 rfl 2 rfl ?_
          refine w_getR (c' := (42, b, 0)) fl_RX10_46 rfl rfl (ic_10 hb) dX10_countWrong_22 rfl ?_
          refine w_iload_n dX10_countWrong_25 rfl 3 rfl ?_
          refine w_aald rfl rfl rfl (fun _ => rfl) (ic_42 hb) (rfl : v.toInt = v.toInt) (lf_c_X10_countWrong_0 v h4_) dX10_countWrong_26 (fun j8_ h9_ h10_ => ?_)
          refine w_iload_n dX10_countWrong_27 rfl 0 rfl ?_
          refine w_callV (as := [vI v3_14]) (rest := []) (c_X9_held l G cy ad d b j8_ v3_14 Mz hIz hb h10_) kV_X9_held (by decide +kernel) (Nat.le_of_ble_eq_true rfl) m_941 rfl rfl rfl (ic_9 hb h10_) rfl rfl (by decide) (Nat.le_of_ble_eq_true rfl) dX10_countWrong_28 (fun r11_ M12_ q13_ => ?_)
          obtain ⟨rfl, h14_⟩ := q13_
          refine w_istore (ls' := [(4, vI r11_), (3, vI v3_14), (2, vI v2_14), (0, vR (10, b, 0)), (1, vI v)]) dX10_countWrong_31 (by decide) rfl ?_
          refine w_aload_n dX10_countWrong_33 rfl 3 rfl ?_
          refine w_iload_n dX10_countWrong_34 rfl 4 rfl ?_
          refine w_iload_n dX10_countWrong_35 rfl 1 rfl ?_
          refine w_callV (as := [vI v, vI v3_14]) (rest := []) (c_X10_isFreeBut l G cy ad (d + 1) b v v3_14 Mz hIz hb) kV_X10_isFreeBut (by decide +kernel) (Nat.le_of_ble_eq_true rfl) m_857 rfl rfl rfl (ic_10 hb) rfl rfl (by decide) (Nat.le_of_ble_eq_true rfl) dX10_countWrong_36 (fun r15_ M16_ q17_ => ?_)
          obtain ⟨rfl, h18_⟩ := q17_
          refine w_if_eq (tgt := 46) dX10_countWrong_39 (by decide) (rfl : r15_.toInt = r15_.toInt) (fun h19_ => ?_) (fun h19_ => ?_)
          · refine w_iconst (v := 2) dX10_countWrong_46 (by decide) ?_
            refine w_istore (ls' := [(5, vI 2), (4, vI r11_), (3, vI v3_14), (2, vI v2_14), (0, vR (10, b, 0)), (1, vI v)]) dX10_countWrong_47 (by decide) rfl ?_
            refine w_iload dX10_countWrong_49 1 rfl ?_
            refine w_if_eq (tgt := 64) dX10_countWrong_51 (by decide) (rfl : r11_.toInt = r11_.toInt) (fun h20_ => ?_) (fun h20_ => ?_)
            · refine w_iincB (j := 2) (f := fun z21_ => [(3, vI z21_), (5, vI 2), (4, vI r11_), (2, vI v2_14), (0, vR (10, b, 0)), (1, vI v)]) dX10_countWrong_64 rfl (by decide) (fun _ => rfl) (rfl : v3_14.toInt = v3_14.toInt) li_1 (lf_c_X10_countWrong_1 v3_14 hv0_14 hv1_14 h7_) (fun z21_ h22_ => ?_)
              refine w_goto (tgt := 14) dX10_countWrong_67 (by decide) ?_
              refine w_loc (ls' := [(3, vI z21_), (2, vI v2_14), (0, vR (10, b, 0)), (1, vI v)]) [0, 3, 4, 5] rfl ?_
              exact ih_14 z21_ v2_14 (lf_c_X10_countWrong_2 v3_14 z21_ hv0_14 hv1_14 h7_ h22_) (lf_c_X10_countWrong_3 v3_14 z21_ hv0_14 hv1_14 h7_ h22_) (Nat.lt_of_lt_of_le (lf_c_X10_countWrong_4 v3_14 z21_ hv0_14 hv1_14 h7_ h22_) (Nat.le_of_lt_succ hm_14))
            · refine w_iload dX10_countWrong_54 1 rfl ?_
              refine w_iload dX10_countWrong_56 0 rfl ?_
              refine w_icmp_eq (tgt := 64) dX10_countWrong_58 (by decide) (rfl : r11_.toInt = r11_.toInt) li_2 (fun h23_ => ?_) (fun h23_ => ?_)
              · refine w_iincB (j := 2) (f := fun z24_ => [(3, vI z24_), (5, vI 2), (4, vI r11_), (2, vI v2_14), (0, vR (10, b, 0)), (1, vI v)]) dX10_countWrong_64 rfl (by decide) (fun _ => rfl) (rfl : v3_14.toInt = v3_14.toInt) li_1 (lf_c_X10_countWrong_5 v3_14 hv0_14 hv1_14 h7_) (fun z24_ h25_ => ?_)
                refine w_goto (tgt := 14) dX10_countWrong_67 (by decide) ?_
                refine w_loc (ls' := [(3, vI z24_), (2, vI v2_14), (0, vR (10, b, 0)), (1, vI v)]) [0, 3, 4, 5] rfl ?_
                exact ih_14 z24_ v2_14 (lf_c_X10_countWrong_6 v3_14 z24_ hv0_14 hv1_14 h7_ h25_) (lf_c_X10_countWrong_7 v3_14 z24_ hv0_14 hv1_14 h7_ h25_) (Nat.lt_of_lt_of_le (lf_c_X10_countWrong_8 v3_14 z24_ hv0_14 hv1_14 h7_ h25_) (Nat.le_of_lt_succ hm_14))
              · refine w_iincU (j := 3) (f := fun z26_ => [(2, vI z26_), (5, vI 2), (4, vI r11_), (3, vI v3_14), (0, vR (10, b, 0)), (1, vI v)]) dX10_countWrong_61 rfl (by decide) (fun _ => rfl) (fun z26_ => ?_)
                refine w_iincB (j := 3) (f := fun z27_ => [(3, vI z27_), (2, vI z26_), (5, vI 2), (4, vI r11_), (0, vR (10, b, 0)), (1, vI v)]) dX10_countWrong_64 rfl (by decide) (fun _ => rfl) (rfl : v3_14.toInt = v3_14.toInt) li_1 (lf_c_X10_countWrong_9 v3_14 hv0_14 hv1_14 h7_) (fun z27_ h28_ => ?_)
                refine w_goto (tgt := 14) dX10_countWrong_67 (by decide) ?_
                refine w_loc (ls' := [(3, vI z27_), (2, vI z26_), (0, vR (10, b, 0)), (1, vI v)]) [0, 1, 4, 5] rfl ?_
                exact ih_14 z27_ z26_ (lf_c_X10_countWrong_10 v3_14 z27_ hv0_14 hv1_14 h7_ h28_) (lf_c_X10_countWrong_11 v3_14 z27_ hv0_14 hv1_14 h7_ h28_) (Nat.lt_of_lt_of_le (lf_c_X10_countWrong_12 v3_14 z27_ hv0_14 hv1_14 h7_ h28_) (Nat.le_of_lt_succ hm_14))
          · refine w_iconst (v := 1) dX10_countWrong_42 (by decide) ?_
            refine w_goto (tgt := 47) dX10_countWrong_43 (by decide) ?_
            refine w_istore (ls' := [(5, vI 1), (4, vI r11_), (3, vI v3_14), (2, vI v2_14), (0, vR (10, b, 0)), (1, vI v)]) dX10_countWrong_47 (by decide) rfl ?_
            refine w_iload dX10_countWrong_49 1 rfl ?_
            refine w_if_eq (tgt := 64) dX10_countWrong_51 (by decide) (rfl : r11_.toInt = r11_.toInt) (fun h29_ => ?_) (fun h29_ => ?_)
            · refine w_iincB (j := 2) (f := fun z30_ => [(3, vI z30_), (5, vI 1), (4, vI r11_), (2, vI v2_14), (0, vR (10, b, 0)), (1, vI v)]) dX10_countWrong_64 rfl (by decide) (fun _ => rfl) (rfl : v3_14.toInt = v3_14.toInt) li_1 (lf_c_X10_countWrong_13 v3_14 hv0_14 hv1_14 h7_) (fun z30_ h31_ => ?_)
              refine w_goto (tgt := 14) dX10_countWrong_67 (by decide) ?_
              refine w_loc (ls' := [(3, vI z30_), (2, vI v2_14), (0, vR (10, b, 0)), (1, vI v)]) [0, 3, 4, 5] rfl ?_
              exact ih_14 z30_ v2_14 (lf_c_X10_countWrong_14 v3_14 z30_ hv0_14 hv1_14 h7_ h31_) (lf_c_X10_countWrong_15 v3_14 z30_ hv0_14 hv1_14 h7_ h31_) (Nat.lt_of_lt_of_le (lf_c_X10_countWrong_16 v3_14 z30_ hv0_14 hv1_14 h7_ h31_) (Nat.le_of_lt_succ hm_14))
            · refine w_iload dX10_countWrong_54 1 rfl ?_
              refine w_iload dX10_countWrong_56 0 rfl ?_
              refine w_icmp_eq (tgt := 64) dX10_countWrong_58 (by decide) (rfl : r11_.toInt = r11_.toInt) li_1 (fun h32_ => ?_) (fun h32_ => ?_)
              · refine w_iincB (j := 2) (f := fun z33_ => [(3, vI z33_), (5, vI 1), (4, vI r11_), (2, vI v2_14), (0, vR (10, b, 0)), (1, vI v)]) dX10_countWrong_64 rfl (by decide) (fun _ => rfl) (rfl : v3_14.toInt = v3_14.toInt) li_1 (lf_c_X10_countWrong_17 v3_14 hv0_14 hv1_14 h7_) (fun z33_ h34_ => ?_)
                refine w_goto (tgt := 14) dX10_countWrong_67 (by decide) ?_
                refine w_loc (ls' := [(3, vI z33_), (2, vI v2_14), (0, vR (10, b, 0)), (1, vI v)]) [0, 3, 4, 5] rfl ?_
                exact ih_14 z33_ v2_14 (lf_c_X10_countWrong_18 v3_14 z33_ hv0_14 hv1_14 h7_ h34_) (lf_c_X10_countWrong_19 v3_14 z33_ hv0_14 hv1_14 h7_ h34_) (Nat.lt_of_lt_of_le (lf_c_X10_countWrong_20 v3_14 z33_ hv0_14 hv1_14 h7_ h34_) (Nat.le_of_lt_succ hm_14))
              · refine w_iincU (j := 3) (f := fun z35_ => [(2, vI z35_), (5, vI 1), (4, vI r11_), (3, vI v3_14), (0, vR (10, b, 0)), (1, vI v)]) dX10_countWrong_61 rfl (by decide) (fun _ => rfl) (fun z35_ => ?_)
                refine w_iincB (j := 3) (f := fun z36_ => [(3, vI z36_), (2, vI z35_), (5, vI 1), (4, vI r11_), (0, vR (10, b, 0)), (1, vI v)]) dX10_countWrong_64 rfl (by decide) (fun _ => rfl) (rfl : v3_14.toInt = v3_14.toInt) li_1 (lf_c_X10_countWrong_21 v3_14 hv0_14 hv1_14 h7_) (fun z36_ h37_ => ?_)
                refine w_goto (tgt := 14) dX10_countWrong_67 (by decide) ?_
                refine w_loc (ls' := [(3, vI z36_), (2, vI z35_), (0, vR (10, b, 0)), (1, vI v)]) [0, 1, 4, 5] rfl ?_
                exact ih_14 z36_ z35_ (lf_c_X10_countWrong_22 v3_14 z36_ hv0_14 hv1_14 h7_ h37_) (lf_c_X10_countWrong_23 v3_14 z36_ hv0_14 hv1_14 h7_ h37_) (Nat.lt_of_lt_of_le (lf_c_X10_countWrong_24 v3_14 z36_ hv0_14 hv1_14 h7_ h37_) (Nat.le_of_lt_succ hm_14))
    exact lp6_ _ 0 0 (lf_c_X10_countWrong_25 ) (lf_c_X10_countWrong_26 ) (Nat.lt_succ_self _)
  · refine w_if_ne (tgt := 10) dX10_countWrong_5 (by decide) li_0 (fun h9 => (absurd h9 (by decide))) (fun h38_ => ?_)
    refine w_iconst (v := 0) dX10_countWrong_8 (by decide) ?_
    exact w_iret rfl dX10_countWrong_9 ⟨rfl, trivial⟩
def S_c_X10_sureYards (b : Nat) : rf → Nat → Prop := fun c k => (c.1 = 29 ∧ c.2.1 = b ∧ k = 0) ∨ (c.1 = 29 ∧ c.2.1 = b ∧ k = 1) ∨ (c.1 = 29 ∧ c.2.1 = b ∧ k = 2) ∨ (c.1 = 29 ∧ c.2.1 = b ∧ k = 3) ∨ (c.1 = 25 ∧ c.2.1 = b ∧ c.2.2 = 0) ∨ (c.1 = 25 ∧ c.2.1 = b ∧ c.2.2 = 1) ∨ False
theorem lf_c_X10_sureYards_0  (v : Int32) (h4_ : 0 ≤ v.toInt ∧ v.toInt ≤ 7) : 0 ≤ v.toInt ∧ v.toInt < ((8 : Nat) : Int) := by have r_v := rngI v; omega
theorem lf_c_X10_sureYards_1  (r13_ : Int32) (h16_ : 0 ≤ r13_.toInt ∧ r13_.toInt ≤ 12) (h20_ : 0 < r13_.toInt) : -2147483648 ≤ r13_.toInt - 1 ∧ r13_.toInt - 1 < 2147483648 := by have r_r13_ := rngI r13_; omega
set_option maxHeartbeats 4000000 in
set_option maxRecDepth 100000 in
theorem c_X10_sureYards (l : Launch) (G : va_G) (cy : Nat → ClassId) (ad : rf → Nat) (d : Nat) (b : Nat) (v : Int32) (Mz : mM) (hIz : Inv Mz) (hb : b < 3) : WP CC l G cy ad yX10_sureYards cX10_sureYards 4 (some .int) (d + 4) 0 [(0, vR (10, b, 0)), (1, vI v)] [] Mz (fun r M' => Inv M' ∧ FR (S_c_X10_sureYards b) Mz M' ∧ True) := by
  have hFz : FR (S_c_X10_sureYards b) Mz Mz := FR.self
  refine w_aload_n dX10_sureYards_0 rfl 0 rfl ?_
  refine w_iload_n dX10_sureYards_1 rfl 1 rfl ?_
  refine w_callV (as := [vI v]) (rest := []) (c_X10_hasWalker l G cy ad (d + 3) b v Mz hIz hb) kV_X10_hasWalker (by decide +kernel) (Nat.le_of_ble_eq_true rfl) m_847 rfl rfl rfl (ic_10 hb) rfl rfl (by decide) (Nat.le_of_ble_eq_true rfl) dX10_sureYards_2 (fun r1_ M2_ q3_ => ?_)
  obtain ⟨rfl, h4_⟩ := q3_
  rcases h4_ with ⟨rfl, h4_⟩ | rfl
  · refine w_if_ne (tgt := 10) dX10_sureYards_5 (by decide) li_1 (fun h5_ => ?_) (fun h9 => (absurd h9 (by decide)))
    refine w_aload_n dX10_sureYards_10 rfl 0 rfl ?_
    refine w_getR (c' := (42, b, 0)) fl_RX10_46 rfl rfl (ic_10 hb) dX10_sureYards_11 rfl ?_
    refine w_iload_n dX10_sureYards_14 rfl 1 rfl ?_
    refine w_aald rfl rfl rfl (fun _ => rfl) (ic_42 hb) (rfl : v.toInt = v.toInt) (lf_c_X10_sureYards_0 v h4_) dX10_sureYards_15 (fun j6_ h7_ h8_ => ?_)
    refine w_astore_n (ls' := [(2, vR (9, b, j6_)), (0, vR (10, b, 0)), (1, vI v)]) dX10_sureYards_16 rfl (by decide) rfl ?_
    refine w_aload_n dX10_sureYards_17 rfl 1 rfl ?_
    refine w_iload_n dX10_sureYards_18 rfl 2 rfl ?_
    refine w_aload_n dX10_sureYards_19 rfl 0 rfl ?_
    refine w_getI fl_RX10_109 rfl rfl (ic_9 hb h8_) dX10_sureYards_20 (fun z9_ e10_ => ?_)
    refine w_aload_n dX10_sureYards_23 rfl 0 rfl ?_
    refine w_getI fl_RX10_119 rfl rfl (ic_9 hb h8_) dX10_sureYards_24 (fun z11_ e12_ => ?_)
    refine w_callV (as := [vI v, vI z9_, vI z11_]) (rest := []) (c_X10_heardYards l G cy ad d b v z9_ z11_ Mz hIz hb) kV_X10_heardYards (by decide +kernel) (Nat.le_of_ble_eq_true rfl) m_900 rfl rfl rfl (ic_10 hb) rfl rfl (by decide) (Nat.le_of_ble_eq_true rfl) dX10_sureYards_27 (fun r13_ M14_ q15_ => ?_)
    obtain ⟨hI17_, hF18_, h16_⟩ := q15_
    have hF19_ := hFz.tr hF18_ (fun c k => (fun h => h.elim (fun h => (Or.inl ⟨h.1, h.2.1, h.2.2⟩)) (fun h => h.elim (fun h => (Or.inr (Or.inl ⟨h.1, h.2.1, h.2.2⟩))) (fun h => h.elim (fun h => (Or.inr (Or.inr (Or.inl ⟨h.1, h.2.1, h.2.2⟩)))) (fun h => h.elim (fun h => (Or.inr (Or.inr (Or.inr (Or.inl ⟨h.1, h.2.1, h.2.2⟩))))) (fun h => h.elim (fun h => (Or.inr (Or.inr (Or.inr (Or.inr (Or.inl ⟨h.1, h.2.1, h.2.2⟩)))))) (fun h => h.elim (fun h => (Or.inr (Or.inr (Or.inr (Or.inr (Or.inr (Or.inl ⟨h.1, h.2.1, h.2.2⟩))))))) (fun h => h.elim))))))))
    refine w_istore_n (ls' := [(3, vI r13_), (2, vR (9, b, j6_)), (0, vR (10, b, 0)), (1, vI v)]) dX10_sureYards_30 rfl (by decide) rfl ?_
    refine w_iload_n dX10_sureYards_31 rfl 0 rfl ?_
    refine w_if_le (tgt := 41) dX10_sureYards_32 (by decide) (rfl : r13_.toInt = r13_.toInt) (fun h20_ => ?_) (fun h20_ => ?_)
    · refine w_aload_n dX10_sureYards_41 rfl 1 rfl ?_
      refine w_callV (as := []) (rest := []) (c_X9_yardsHeldFree l G cy ad (d + 1) b j6_ M14_ hI17_ hb h8_) kV_X9_yardsHeldFree (by decide +kernel) (Nat.le_of_ble_eq_true rfl) m_1106 rfl rfl rfl (ic_9 hb h8_) rfl rfl (by decide) (Nat.le_of_ble_eq_true rfl) dX10_sureYards_42 (fun r21_ M22_ q23_ => ?_)
      obtain ⟨rfl, h24_⟩ := q23_
      exact w_iret rfl dX10_sureYards_45 ⟨hI17_, hF19_, trivial⟩
    · refine w_iload_n dX10_sureYards_35 rfl 0 rfl ?_
      refine w_iconst (v := 1) dX10_sureYards_36 (by decide) ?_
      refine w_isubB dX10_sureYards_37 (rfl : r13_.toInt = r13_.toInt) li_1 (lf_c_X10_sureYards_1 r13_ h16_ h20_) (fun z25_ h26_ => ?_)
      refine w_goto (tgt := 45) dX10_sureYards_38 (by decide) ?_
      exact w_iret rfl dX10_sureYards_45 ⟨hI17_, hF19_, trivial⟩
  · refine w_if_ne (tgt := 10) dX10_sureYards_5 (by decide) li_0 (fun h9 => (absurd h9 (by decide))) (fun h27_ => ?_)
    refine w_iconst (v := 0) dX10_sureYards_8 (by decide) ?_
    exact w_iret rfl dX10_sureYards_9 ⟨hIz, hFz, trivial⟩
def S_c_X10_goOn (b : Nat) : rf → Nat → Prop := fun c k => (c.1 = 35 ∧ c.2.1 = b) ∨ (c.1 = 9 ∧ c.2.1 = b ∧ k = 1) ∨ (c.1 = 9 ∧ c.2.1 = b ∧ k = 7) ∨ (c.1 = 40 ∧ c.2.1 = b) ∨ False
theorem lf_c_X10_goOn_0  (v : Int32) (h4_ : 0 ≤ v.toInt ∧ v.toInt ≤ 7) : 0 ≤ v.toInt ∧ v.toInt < ((8 : Nat) : Int) := by have r_v := rngI v; omega
theorem lf_c_X10_goOn_1 (M_18 : mM) (b : Nat) (v : Int32) (j6_ : Nat) (z15_ : Int32) (z17_ : Int32) (hb : b < 3) (h4_ : 0 ≤ v.toInt ∧ v.toInt ≤ 7) (h7_ : (j6_ : Int) = v.toInt) (h8_ : j6_ < 8) (e16_ : z15_ = M_18.1 (9, b, j6_) 1) (e18_ : z17_ = M_18.1 (9, b, j6_) 2) : -2147483648 ≤ 100 + v.toInt ∧ 100 + v.toInt < 2147483648 := by have r_v := rngI v; have r_z15_ := rngI z15_; have r_z17_ := rngI z17_; subst e16_; subst e18_; omega
theorem lf_c_X10_goOn_2  (v3_18 : Int32) (r10_ : Int32) (hv0_18 : 0 ≤ v3_18.toInt) (h13_ : 0 ≤ r10_.toInt ∧ r10_.toInt ≤ 2) (h14_ : v3_18.toInt < r10_.toInt) : -2147483648 ≤ v3_18.toInt + 1 ∧ v3_18.toInt + 1 < 2147483648 := by have r_v3_18 := rngI v3_18; have r_r10_ := rngI r10_; omega
theorem lf_c_X10_goOn_3  (v3_18 : Int32) (r10_ : Int32) (z48_ : Int32) (hv0_18 : 0 ≤ v3_18.toInt) (h13_ : 0 ≤ r10_.toInt ∧ r10_.toInt ≤ 2) (h14_ : v3_18.toInt < r10_.toInt) (h49_ : z48_.toInt = v3_18.toInt + 1) : 0 ≤ z48_.toInt := by have r_v3_18 := rngI v3_18; have r_r10_ := rngI r10_; have r_z48_ := rngI z48_; omega
theorem lf_c_X10_goOn_4  (v3_18 : Int32) (r10_ : Int32) (z48_ : Int32) (hv0_18 : 0 ≤ v3_18.toInt) (h13_ : 0 ≤ r10_.toInt ∧ r10_.toInt ≤ 2) (h14_ : v3_18.toInt < r10_.toInt) (h49_ : z48_.toInt = v3_18.toInt + 1) : (2147483648 - z48_.toInt).toNat < (2147483648 - v3_18.toInt).toNat := by have r_v3_18 := rngI v3_18; have r_r10_ := rngI r10_; have r_z48_ := rngI z48_; omega
theorem lf_c_X10_goOn_5    : 0 ≤ (0 : Int32).toInt := by have q0 := li_0; omega
set_option maxHeartbeats 4000000 in
set_option maxRecDepth 100000 in
theorem c_X10_goOn (l : Launch) (G : va_G) (cy : Nat → ClassId) (ad : rf → Nat) (d : Nat) (b : Nat) (v : Int32) (Mz : mM) (hIz : Inv Mz) (hb : b < 3) : WP CC l G cy ad yX10_goOn cX10_goOn 5 none (d + 2) 0 [(0, vR (10, b, 0)), (1, vI v)] [] Mz (fun r M' => Inv M' ∧ FR (S_c_X10_goOn b) Mz M' ∧ True) := by
  have hFz : FR (S_c_X10_goOn b) Mz Mz := FR.self
  refine w_aload_n dX10_goOn_0 rfl 0 rfl ?_
  refine w_iload_n dX10_goOn_1 rfl 1 rfl ?_
  refine w_callV (as := [vI v]) (rest := []) (c_X10_hasWalker l G cy ad (d + 1) b v Mz hIz hb) kV_X10_hasWalker (by decide +kernel) (Nat.le_of_ble_eq_true rfl) m_847 rfl rfl rfl (ic_10 hb) rfl rfl (by decide) (Nat.le_of_ble_eq_true rfl) dX10_goOn_2 (fun r1_ M2_ q3_ => ?_)
  obtain ⟨rfl, h4_⟩ := q3_
  rcases h4_ with ⟨rfl, h4_⟩ | rfl
  · refine w_if_ne (tgt := 9) dX10_goOn_5 (by decide) li_1 (fun h5_ => ?_) (fun h9 => (absurd h9 (by decide)))
    refine w_aload_n dX10_goOn_9 rfl 0 rfl ?_
    refine w_getR (c' := (42, b, 0)) fl_RX10_46 rfl rfl (ic_10 hb) dX10_goOn_10 rfl ?_
    refine w_iload_n dX10_goOn_13 rfl 1 rfl ?_
    refine w_aald rfl rfl rfl (fun _ => rfl) (ic_42 hb) (rfl : v.toInt = v.toInt) (lf_c_X10_goOn_0 v h4_) dX10_goOn_14 (fun j6_ h7_ h8_ => ?_)
    refine w_astore_n (ls' := [(2, vR (9, b, j6_)), (0, vR (10, b, 0)), (1, vI v)]) dX10_goOn_15 rfl (by decide) rfl ?_
    refine w_iconst (v := 0) dX10_goOn_16 (by decide) ?_
    refine w_istore_n (ls' := [(3, vI 0), (2, vR (9, b, j6_)), (0, vR (10, b, 0)), (1, vI v)]) dX10_goOn_17 rfl (by decide) rfl ?_
    have lp9_ : ∀ (nn_18 : Nat) (M_18 : mM) (hI_18 : Inv M_18) (hF_18 : FR (S_c_X10_goOn b) Mz M_18) (v3_18 : Int32) (hv0_18 : 0 ≤ v3_18.toInt), (2147483648 - v3_18.toInt).toNat < nn_18 → WP CC l G cy ad yX10_goOn cX10_goOn 5 none (d + 2) 18 [(3, vI v3_18), (2, vR (9, b, j6_)), (0, vR (10, b, 0)), (1, vI v)] [] M_18 (fun r M' => Inv M' ∧ FR (S_c_X10_goOn b) Mz M' ∧ True) := by
      intro nn_18
      induction nn_18 with
      | zero => intro M_18 hI_18 hF_18 v3_18 hv0_18 hm_18; exact absurd hm_18 (Nat.not_lt_zero _)
      | succ nn_18 ih_18 =>
        intro M_18 hI_18 hF_18 v3_18 hv0_18 hm_18
        refine w_iload_n dX10_goOn_18 rfl 0 rfl ?_
        refine w_aload_n dX10_goOn_19 rfl 1 rfl ?_
        refine w_callV (as := []) (rest := [vI v3_18]) (c_X9_speed l G cy ad (d + 1) b j6_ M_18 hI_18 hb h8_) kV_X9_speed (by decide +kernel) (Nat.le_of_ble_eq_true rfl) m_1061 rfl rfl rfl (ic_9 hb h8_) rfl rfl (by decide) (Nat.le_of_ble_eq_true rfl) dX10_goOn_20 (fun r10_ M11_ q12_ => ?_)
        obtain ⟨rfl, h13_⟩ := q12_
        refine w_icmp_ge (tgt := 107) dX10_goOn_23 (by decide) (rfl : v3_18.toInt = v3_18.toInt) (rfl : r10_.toInt = r10_.toInt) (fun h14_ => ?_) (fun h14_ => ?_)
        · exact w_vret rfl dX10_goOn_107 ⟨hI_18, hF_18, trivial⟩
        · refine w_aload_n dX10_goOn_26 rfl 1 rfl ?_
          refine w_getI fl_RX10_109 rfl rfl (ic_9 hb h8_) dX10_goOn_27 (fun z15_ e16_ => ?_)
          refine w_aload_n dX10_goOn_30 rfl 1 rfl ?_
          refine w_getI fl_RX10_119 rfl rfl (ic_9 hb h8_) dX10_goOn_31 (fun z17_ e18_ => ?_)
          refine w_iconst (v := 1) dX10_goOn_34 (by decide) ?_
          refine w_callS (as := [vI z15_, vI z17_, vI 1]) (rest := []) (c_X7_cellFrom l G cy ad d z15_ z17_ 1 M_18 hI_18) kS_X7_cellFrom (by decide +kernel) (Nat.le_of_ble_eq_true rfl) m_849 rfl rfl (by decide) (Nat.le_of_ble_eq_true rfl) dX10_goOn_35 (fun r19_ M20_ q21_ => ?_)
          obtain ⟨rfl, h22_⟩ := q21_
          refine w_istore (ls' := [(4, vI r19_), (3, vI v3_18), (2, vR (9, b, j6_)), (0, vR (10, b, 0)), (1, vI v)]) dX10_goOn_38 (by decide) rfl ?_
          refine w_aload_n dX10_goOn_40 rfl 3 rfl ?_
          refine w_getR (c' := (7, b, 0)) fl_RX10_10 rfl rfl (ic_10 hb) dX10_goOn_41 rfl ?_
          refine w_iload dX10_goOn_44 0 rfl ?_
          refine w_callV (as := [vI r19_]) (rest := []) (c_X7_isFree l G cy ad d b r19_ M_18 hI_18 hb) kV_X7_isFree (by decide +kernel) (Nat.le_of_ble_eq_true rfl) m_1062 rfl rfl rfl (ic_7 hb) rfl rfl (by decide) (Nat.le_of_ble_eq_true rfl) dX10_goOn_46 (fun r23_ M24_ q25_ => ?_)
          obtain ⟨rfl, h26_⟩ := q25_
          rcases h26_ with ⟨rfl, h26_⟩ | rfl
          · refine w_if_ne (tgt := 70) dX10_goOn_49 (by decide) li_1 (fun h27_ => ?_) (fun h9 => (absurd h9 (by decide)))
            refine w_aload_n dX10_goOn_70 rfl 3 rfl ?_
            refine w_getR (c' := (7, b, 0)) fl_RX10_10 rfl rfl (ic_10 hb) dX10_goOn_71 rfl ?_
            refine w_aload_n dX10_goOn_74 rfl 2 rfl ?_
            refine w_getI fl_RX10_109 rfl rfl (ic_9 hb h8_) dX10_goOn_75 (fun z28_ e29_ => ?_)
            obtain rfl : z15_ = z28_ := e16_.trans e29_.symm
            refine w_iconst (v := (-1)) dX10_goOn_78 (by decide) ?_
            refine w_callVv (as := [vI z15_, vI (-1)]) (rest := []) (c_X7_settle l G cy ad d b z15_ (-1) M_18 hI_18 hb) kV_X7_settle (by decide +kernel) (Nat.le_of_ble_eq_true rfl) m_604 rfl rfl rfl (ic_7 hb) rfl rfl (by decide) (Nat.le_of_ble_eq_true rfl) dX10_goOn_79 (fun M30_ q31_ => ?_)
            obtain ⟨hI33_, hF34_, h32_⟩ := q31_
            have hF35_ := hF_18.tr hF34_ (fun c k => (fun h => h.elim (fun h => (Or.inl ⟨h.1, h.2⟩)) (fun h => h.elim)))
            refine w_aload_n dX10_goOn_82 rfl 3 rfl ?_
            refine w_getR (c' := (7, b, 0)) fl_RX10_10 rfl rfl (ic_10 hb) dX10_goOn_83 rfl ?_
            refine w_iload dX10_goOn_86 0 rfl ?_
            refine w_bipush (v := 100) dX10_goOn_88 (by decide) ?_
            refine w_iload_n dX10_goOn_90 rfl 4 rfl ?_
            refine w_iaddB dX10_goOn_91 li_100 (rfl : v.toInt = v.toInt) (lf_c_X10_goOn_1 M_18 b v j6_ z15_ z17_ hb h4_ h7_ h8_ e16_ e18_) (fun z36_ h37_ => ?_)
            refine w_callVv (as := [vI r19_, vI z36_]) (rest := []) (c_X7_settle l G cy ad d b r19_ z36_ M30_ hI33_ hb) kV_X7_settle (by decide +kernel) (Nat.le_of_ble_eq_true rfl) m_604 rfl rfl rfl (ic_7 hb) rfl rfl (by decide) (Nat.le_of_ble_eq_true rfl) dX10_goOn_92 (fun M38_ q39_ => ?_)
            obtain ⟨hI41_, hF42_, h40_⟩ := q39_
            have hF43_ := hF35_.tr hF42_ (fun c k => (fun h => h.elim (fun h => (Or.inl ⟨h.1, h.2⟩)) (fun h => h.elim)))
            refine w_aload_n dX10_goOn_95 rfl 2 rfl ?_
            refine w_iload dX10_goOn_96 0 rfl ?_
            refine w_putI CC_nd fl_RX10_109 rfl rfl (ic_9 hb h8_) dX10_goOn_98 (fun M44_ hM45_ => ?_)
            have hI46_ := hI41_.put hM45_ (fun h => absurd h (by decide))
            have hF47_ := hF43_.put hM45_ (Or.inr (Or.inl ⟨rfl, rfl, rfl⟩))
            refine w_iincB (j := 1) (f := fun z48_ => [(3, vI z48_), (4, vI r19_), (2, vR (9, b, j6_)), (0, vR (10, b, 0)), (1, vI v)]) dX10_goOn_101 rfl (by decide) (fun _ => rfl) (rfl : v3_18.toInt = v3_18.toInt) li_1 (lf_c_X10_goOn_2 v3_18 r10_ hv0_18 h13_ h14_) (fun z48_ h49_ => ?_)
            refine w_goto (tgt := 18) dX10_goOn_104 (by decide) ?_
            refine w_loc (ls' := [(3, vI z48_), (2, vR (9, b, j6_)), (0, vR (10, b, 0)), (1, vI v)]) [0, 2, 3, 4] rfl ?_
            exact ih_18 M44_ hI46_ hF47_ z48_ (lf_c_X10_goOn_3 v3_18 r10_ z48_ hv0_18 h13_ h14_ h49_) (Nat.lt_of_lt_of_le (lf_c_X10_goOn_4 v3_18 r10_ z48_ hv0_18 h13_ h14_ h49_) (Nat.le_of_lt_succ hm_18))
          · refine w_if_ne (tgt := 70) dX10_goOn_49 (by decide) li_0 (fun h9 => (absurd h9 (by decide))) (fun h50_ => ?_)
            refine w_aload_n dX10_goOn_52 rfl 2 rfl ?_
            refine w_dup dX10_goOn_53 rfl ?_
            refine w_getI fl_RX10_66 rfl rfl (ic_9 hb h8_) dX10_goOn_54 (fun z51_ e52_ => ?_)
            refine w_iconst (v := 1) dX10_goOn_57 (by decide) ?_
            refine w_iadd dX10_goOn_58 (fun z53_ _ => ?_)
            refine w_putI CC_nd fl_RX10_66 rfl rfl (ic_9 hb h8_) dX10_goOn_59 (fun M54_ hM55_ => ?_)
            have hI56_ := hI_18.put hM55_ (fun h => absurd h (by decide))
            have hF57_ := hF_18.put hM55_ (Or.inr (Or.inr (Or.inl ⟨rfl, rfl, rfl⟩)))
            refine w_aload_n dX10_goOn_62 rfl 2 rfl ?_
            refine w_iload dX10_goOn_63 0 rfl ?_
            refine w_iconst (v := 3) dX10_goOn_65 (by decide) ?_
            refine w_callVv (as := [vI r19_, vI 3]) (rest := []) (c_X9_addYes l G cy ad d b j6_ r19_ 3 M54_ hI56_ hb h8_) kV_X9_addYes (by decide +kernel) (Nat.le_of_ble_eq_true rfl) m_915 rfl rfl rfl (ic_9 hb h8_) rfl rfl (by decide) (Nat.le_of_ble_eq_true rfl) dX10_goOn_66 (fun M58_ q59_ => ?_)
            obtain ⟨hI61_, hF62_, h60_⟩ := q59_
            have hF63_ := hF57_.tr hF62_ (fun c k => (fun h => h.elim (fun h => (Or.inr (Or.inr (Or.inr (Or.inl ⟨h.1, h.2.1⟩))))) (fun h => h.elim)))
            exact w_vret rfl dX10_goOn_69 ⟨hI61_, hF63_, trivial⟩
    exact lp9_ _ Mz hIz hFz 0 (lf_c_X10_goOn_5 ) (Nat.lt_succ_self _)
  · refine w_if_ne (tgt := 9) dX10_goOn_5 (by decide) li_0 (fun h9 => (absurd h9 (by decide))) (fun h64_ => ?_)
    exact w_vret rfl dX10_goOn_8 ⟨hIz, hFz, trivial⟩
def S_c_X10_letWalkerGo (b : Nat) : rf → Nat → Prop := fun c k => (c.1 = 29 ∧ c.2.1 = b ∧ k = 0) ∨ (c.1 = 29 ∧ c.2.1 = b ∧ k = 1) ∨ (c.1 = 29 ∧ c.2.1 = b ∧ k = 2) ∨ (c.1 = 29 ∧ c.2.1 = b ∧ k = 3) ∨ (c.1 = 29 ∧ c.2.1 = b ∧ k = 4) ∨ (c.1 = 25 ∧ c.2.1 = b ∧ c.2.2 = 2) ∨ (c.1 = 9 ∧ c.2.1 = b ∧ k = 2) ∨ (c.1 = 35 ∧ c.2.1 = b) ∨ (c.1 = 9 ∧ c.2.1 = b ∧ k = 1) ∨ (c.1 = 9 ∧ c.2.1 = b ∧ k = 7) ∨ (c.1 = 40 ∧ c.2.1 = b) ∨ (c.1 = 9 ∧ c.2.1 = b ∧ k = 8) ∨ (c.1 = 25 ∧ c.2.1 = b ∧ c.2.2 = 0) ∨ (c.1 = 25 ∧ c.2.1 = b ∧ c.2.2 = 1) ∨ (c.1 = 41 ∧ c.2.1 = b) ∨ False
theorem lf_c_X10_letWalkerGo_0  (v : Int32) (h4_ : 0 ≤ v.toInt ∧ v.toInt ≤ 7) : 0 ≤ v.toInt ∧ v.toInt < ((8 : Nat) : Int) := by have r_v := rngI v; omega
theorem lf_c_X10_letWalkerGo_1 (Mz : mM) (b : Nat) (v : Int32) (j6_ : Nat) (z9_ : Int32) (z68_ : Int32) (hb : b < 3) (h4_ : 0 ≤ v.toInt ∧ v.toInt ≤ 7) (h7_ : (j6_ : Int) = v.toInt) (h8_ : j6_ < 8) (e10_ : z9_ = Mz.1 (9, b, j6_) 5) (h11_ : 0 < z9_.toInt) (e69_ : z68_ = Mz.1 (10, b, 0) 7) : ¬ z9_ = 0 := by have r_v := rngI v; have r_z9_ := rngI z9_; have r_z68_ := rngI z68_; intro h9; subst h9; simp at *; try omega
set_option maxHeartbeats 4000000 in
set_option maxRecDepth 100000 in
theorem c_X10_letWalkerGo (l : Launch) (G : va_G) (cy : Nat → ClassId) (ad : rf → Nat) (d : Nat) (b : Nat) (v : Int32) (Mz : mM) (hIz : Inv Mz) (hb : b < 3) : WP CC l G cy ad yX10_letWalkerGo cX10_letWalkerGo 8 none (d + 5) 0 [(0, vR (10, b, 0)), (1, vI v)] [] Mz (fun r M' => Inv M' ∧ FR (S_c_X10_letWalkerGo b) Mz M' ∧ True) := by
  have hFz : FR (S_c_X10_letWalkerGo b) Mz Mz := FR.self
  refine w_aload_n dX10_letWalkerGo_0 rfl 0 rfl ?_
  refine w_iload_n dX10_letWalkerGo_1 rfl 1 rfl ?_
  refine w_callV (as := [vI v]) (rest := []) (c_X10_hasWalker l G cy ad (d + 4) b v Mz hIz hb) kV_X10_hasWalker (by decide +kernel) (Nat.le_of_ble_eq_true rfl) m_847 rfl rfl rfl (ic_10 hb) rfl rfl (by decide) (Nat.le_of_ble_eq_true rfl) dX10_letWalkerGo_2 (fun r1_ M2_ q3_ => ?_)
  obtain ⟨rfl, h4_⟩ := q3_
  rcases h4_ with ⟨rfl, h4_⟩ | rfl
  · refine w_if_ne (tgt := 9) dX10_letWalkerGo_5 (by decide) li_1 (fun h5_ => ?_) (fun h9 => (absurd h9 (by decide)))
    refine w_aload_n dX10_letWalkerGo_9 rfl 0 rfl ?_
    refine w_getR (c' := (42, b, 0)) fl_RX10_46 rfl rfl (ic_10 hb) dX10_letWalkerGo_10 rfl ?_
    refine w_iload_n dX10_letWalkerGo_13 rfl 1 rfl ?_
    refine w_aald rfl rfl rfl (fun _ => rfl) (ic_42 hb) (rfl : v.toInt = v.toInt) (lf_c_X10_letWalkerGo_0 v h4_) dX10_letWalkerGo_14 (fun j6_ h7_ h8_ => ?_)
    refine w_astore_n (ls' := [(2, vR (9, b, j6_)), (0, vR (10, b, 0)), (1, vI v)]) dX10_letWalkerGo_15 rfl (by decide) rfl ?_
    refine w_aload_n dX10_letWalkerGo_16 rfl 0 rfl ?_
    refine w_getI fl_RX10_151 rfl rfl (ic_9 hb h8_) dX10_letWalkerGo_17 (fun z9_ e10_ => ?_)
    refine w_istore_n (ls' := [(3, vI z9_), (2, vR (9, b, j6_)), (0, vR (10, b, 0)), (1, vI v)]) dX10_letWalkerGo_20 rfl (by decide) rfl ?_
    refine w_iload_n dX10_letWalkerGo_21 rfl 0 rfl ?_
    refine w_if_le (tgt := 48) dX10_letWalkerGo_22 (by decide) (rfl : z9_.toInt = z9_.toInt) (fun h11_ => ?_) (fun h11_ => ?_)
    · refine w_aload_n dX10_letWalkerGo_48 rfl 1 rfl ?_
      refine w_aload_n dX10_letWalkerGo_49 rfl 1 rfl ?_
      refine w_getI fl_RX10_119 rfl rfl (ic_9 hb h8_) dX10_letWalkerGo_50 (fun z12_ e13_ => ?_)
      refine w_callV (as := [vI z12_]) (rest := []) (c_X9_yardsToFull l G cy ad (d + 2) b j6_ z12_ Mz hIz hb h8_) kV_X9_yardsToFull (by decide +kernel) (Nat.le_of_ble_eq_true rfl) m_1045 rfl rfl rfl (ic_9 hb h8_) rfl rfl (by decide) (Nat.le_of_ble_eq_true rfl) dX10_letWalkerGo_53 (fun r14_ M15_ q16_ => ?_)
      obtain ⟨rfl, h17_⟩ := q16_
      refine w_istore (ls' := [(4, vI r14_), (3, vI z9_), (2, vR (9, b, j6_)), (0, vR (10, b, 0)), (1, vI v)]) dX10_letWalkerGo_56 (by decide) rfl ?_
      refine w_aload_n dX10_letWalkerGo_58 rfl 2 rfl ?_
      refine w_aload_n dX10_letWalkerGo_59 rfl 2 rfl ?_
      refine w_getI fl_RX10_119 rfl rfl (ic_9 hb h8_) dX10_letWalkerGo_60 (fun z18_ e19_ => ?_)
      obtain rfl : z12_ = z18_ := e13_.trans e19_.symm
      refine w_bipush (v := 6) dX10_letWalkerGo_63 (by decide) ?_
      refine w_iadd dX10_letWalkerGo_65 (fun z20_ _ => ?_)
      refine w_bipush (v := 7) dX10_letWalkerGo_66 (by decide) ?_
      refine w_iandB 3 dX10_letWalkerGo_68 (by decide) (by decide) (fun z21_ h22_ => ?_)
      refine w_callV (as := [vI z21_]) (rest := []) (c_X9_yardsToFull l G cy ad (d + 2) b j6_ z21_ Mz hIz hb h8_) kV_X9_yardsToFull (by decide +kernel) (Nat.le_of_ble_eq_true rfl) m_1045 rfl rfl rfl (ic_9 hb h8_) rfl rfl (by decide) (Nat.le_of_ble_eq_true rfl) dX10_letWalkerGo_69 (fun r23_ M24_ q25_ => ?_)
      obtain ⟨rfl, h26_⟩ := q25_
      refine w_istore (ls' := [(5, vI r23_), (4, vI r14_), (3, vI z9_), (2, vR (9, b, j6_)), (0, vR (10, b, 0)), (1, vI v)]) dX10_letWalkerGo_72 (by decide) rfl ?_
      refine w_aload_n dX10_letWalkerGo_74 rfl 3 rfl ?_
      refine w_aload_n dX10_letWalkerGo_75 rfl 3 rfl ?_
      refine w_getI fl_RX10_119 rfl rfl (ic_9 hb h8_) dX10_letWalkerGo_76 (fun z27_ e28_ => ?_)
      obtain rfl : z12_ = z27_ := e13_.trans e28_.symm
      refine w_iconst (v := 2) dX10_letWalkerGo_79 (by decide) ?_
      refine w_iadd dX10_letWalkerGo_80 (fun z29_ _ => ?_)
      refine w_bipush (v := 7) dX10_letWalkerGo_81 (by decide) ?_
      refine w_iandB 3 dX10_letWalkerGo_83 (by decide) (by decide) (fun z30_ h31_ => ?_)
      refine w_callV (as := [vI z30_]) (rest := []) (c_X9_yardsToFull l G cy ad (d + 2) b j6_ z30_ Mz hIz hb h8_) kV_X9_yardsToFull (by decide +kernel) (Nat.le_of_ble_eq_true rfl) m_1045 rfl rfl rfl (ic_9 hb h8_) rfl rfl (by decide) (Nat.le_of_ble_eq_true rfl) dX10_letWalkerGo_84 (fun r32_ M33_ q34_ => ?_)
      obtain ⟨rfl, h35_⟩ := q34_
      refine w_istore (ls' := [(6, vI r32_), (5, vI r23_), (4, vI r14_), (3, vI z9_), (2, vR (9, b, j6_)), (0, vR (10, b, 0)), (1, vI v)]) dX10_letWalkerGo_87 (by decide) rfl ?_
      refine w_aload_n dX10_letWalkerGo_89 rfl 5 rfl ?_
      refine w_getR (c' := (2, b, 0)) fl_RX10_19 rfl rfl (ic_10 hb) dX10_letWalkerGo_90 rfl ?_
      refine w_iload dX10_letWalkerGo_93 2 rfl ?_
      refine w_iload dX10_letWalkerGo_95 1 rfl ?_
      refine w_iload dX10_letWalkerGo_97 0 rfl ?_
      refine w_aload_n dX10_letWalkerGo_99 rfl 4 rfl ?_
      refine w_getI fl_RX10_66 rfl rfl (ic_9 hb h8_) dX10_letWalkerGo_100 (fun z36_ e37_ => ?_)
      refine w_aload_n dX10_letWalkerGo_103 rfl 5 rfl ?_
      refine w_getI fl_RX10_54 rfl rfl (ic_10 hb) dX10_letWalkerGo_104 (fun z38_ e39_ => ?_)
      refine w_callV (as := [vI r14_, vI r23_, vI r32_, vI z36_, vI z38_]) (rest := []) (c_X2_habitValue l G cy ad (d + 3) b r14_ r23_ r32_ z36_ z38_ Mz hIz hb) kV_X2_habitValue (by decide +kernel) (Nat.le_of_ble_eq_true rfl) m_1050 rfl rfl rfl (ic_2 hb) rfl rfl (by decide) (Nat.le_of_ble_eq_true rfl) dX10_letWalkerGo_107 (fun r40_ M41_ q42_ => ?_)
      obtain ⟨hI44_, hF45_, h43_⟩ := q42_
      have hF46_ := hFz.tr hF45_ (fun c k => (fun h => h.elim (fun h => (Or.inl ⟨h.1, h.2.1, h.2.2⟩)) (fun h => h.elim (fun h => (Or.inr (Or.inl ⟨h.1, h.2.1, h.2.2⟩))) (fun h => h.elim (fun h => (Or.inr (Or.inr (Or.inl ⟨h.1, h.2.1, h.2.2⟩)))) (fun h => h.elim (fun h => (Or.inr (Or.inr (Or.inr (Or.inl ⟨h.1, h.2.1, h.2.2⟩))))) (fun h => h.elim (fun h => (Or.inr (Or.inr (Or.inr (Or.inr (Or.inl ⟨h.1, h.2.1, h.2.2⟩)))))) (fun h => h.elim (fun h => (Or.inr (Or.inr (Or.inr (Or.inr (Or.inr (Or.inl ⟨h.1, h.2.1, h.2.2⟩))))))) (fun h => h.elim))))))))
      refine w_iconst (v := 4) dX10_letWalkerGo_110 (by decide) ?_
      refine w_floorMod4 m_1054 m_1055 m_86 m_1056 (Nat.le_of_ble_eq_true rfl) (by omega) dX10_letWalkerGo_111 (fun z47_ => ?_)
      refine w_istore (ls' := [(7, vI z47_), (6, vI r32_), (5, vI r23_), (4, vI r14_), (3, vI z9_), (2, vR (9, b, j6_)), (0, vR (10, b, 0)), (1, vI v)]) dX10_letWalkerGo_114 (by decide) rfl ?_
      refine w_iload dX10_letWalkerGo_116 0 rfl ?_
      refine w_if_ne (tgt := 129) dX10_letWalkerGo_118 (by decide) (rfl : z47_.toInt = z47_.toInt) (fun h48_ => ?_) (fun h48_ => ?_)
      · refine w_aload_n dX10_letWalkerGo_129 rfl 5 rfl ?_
        refine w_iload dX10_letWalkerGo_130 0 rfl ?_
        refine w_iconst (v := 3) dX10_letWalkerGo_132 (by decide) ?_
        refine w_icmp_ne (tgt := 141) dX10_letWalkerGo_133 (by decide) (rfl : z47_.toInt = z47_.toInt) li_3 (fun h49_ => ?_) (fun h49_ => ?_)
        · refine w_iload dX10_letWalkerGo_141 0 rfl ?_
          refine w_callVv (as := [vI z47_]) (rest := []) (c_X9_turn l G cy ad (d + 4) b j6_ z47_ M41_ hI44_ hb h8_) kV_X9_turn (by decide +kernel) (Nat.le_of_ble_eq_true rfl) m_1063 rfl rfl rfl (ic_9 hb h8_) rfl rfl (by decide) (Nat.le_of_ble_eq_true rfl) dX10_letWalkerGo_143 (fun M50_ q51_ => ?_)
          obtain ⟨hI53_, hF54_, h52_⟩ := q51_
          have hF55_ := hF46_.tr hF54_ (fun c k => (fun h => h.elim (fun h => (Or.inr (Or.inr (Or.inr (Or.inr (Or.inr (Or.inr (Or.inl ⟨h.1, h.2.1, h.2.2.2⟩)))))))) (fun h => h.elim)))
          exact w_vret rfl dX10_letWalkerGo_146 ⟨hI53_, hF55_, trivial⟩
        · refine w_bipush (v := (-2)) dX10_letWalkerGo_136 (by decide) ?_
          refine w_goto (tgt := 143) dX10_letWalkerGo_138 (by decide) ?_
          refine w_callVv (as := [vI (-2)]) (rest := []) (c_X9_turn l G cy ad (d + 4) b j6_ (-2) M41_ hI44_ hb h8_) kV_X9_turn (by decide +kernel) (Nat.le_of_ble_eq_true rfl) m_1063 rfl rfl rfl (ic_9 hb h8_) rfl rfl (by decide) (Nat.le_of_ble_eq_true rfl) dX10_letWalkerGo_143 (fun M56_ q57_ => ?_)
          obtain ⟨hI59_, hF60_, h58_⟩ := q57_
          have hF61_ := hF46_.tr hF60_ (fun c k => (fun h => h.elim (fun h => (Or.inr (Or.inr (Or.inr (Or.inr (Or.inr (Or.inr (Or.inl ⟨h.1, h.2.1, h.2.2.2⟩)))))))) (fun h => h.elim)))
          exact w_vret rfl dX10_letWalkerGo_146 ⟨hI59_, hF61_, trivial⟩
      · refine w_aload_n dX10_letWalkerGo_121 rfl 6 rfl ?_
        refine w_iload_n dX10_letWalkerGo_122 rfl 7 rfl ?_
        refine w_callVv (as := [vI v]) (rest := []) (c_X10_goOn l G cy ad (d + 2) b v M41_ hI44_ hb) kV_X10_goOn (by decide +kernel) (Nat.le_of_ble_eq_true rfl) m_1057 rfl rfl rfl (ic_10 hb) rfl rfl (by decide) (Nat.le_of_ble_eq_true rfl) dX10_letWalkerGo_123 (fun M62_ q63_ => ?_)
        obtain ⟨hI65_, hF66_, h64_⟩ := q63_
        have hF67_ := hF46_.tr hF66_ (fun c k => (fun h => h.elim (fun h => (Or.inr (Or.inr (Or.inr (Or.inr (Or.inr (Or.inr (Or.inr (Or.inl ⟨h.1, h.2⟩))))))))) (fun h => h.elim (fun h => (Or.inr (Or.inr (Or.inr (Or.inr (Or.inr (Or.inr (Or.inr (Or.inr (Or.inl ⟨h.1, h.2.1, h.2.2⟩)))))))))) (fun h => h.elim (fun h => (Or.inr (Or.inr (Or.inr (Or.inr (Or.inr (Or.inr (Or.inr (Or.inr (Or.inr (Or.inl ⟨h.1, h.2.1, h.2.2⟩))))))))))) (fun h => h.elim (fun h => (Or.inr (Or.inr (Or.inr (Or.inr (Or.inr (Or.inr (Or.inr (Or.inr (Or.inr (Or.inr (Or.inl ⟨h.1, h.2⟩)))))))))))) (fun h => h.elim))))))
        refine w_goto (tgt := 146) dX10_letWalkerGo_126 (by decide) ?_
        exact w_vret rfl dX10_letWalkerGo_146 ⟨hI65_, hF67_, trivial⟩
    · refine w_aload_n dX10_letWalkerGo_25 rfl 2 rfl ?_
      refine w_getI fl_RX10_54 rfl rfl (ic_10 hb) dX10_letWalkerGo_26 (fun z68_ e69_ => ?_)
      refine w_iload_n dX10_letWalkerGo_29 rfl 0 rfl ?_
      refine w_irem dX10_letWalkerGo_30 (lf_c_X10_letWalkerGo_1 Mz b v j6_ z9_ z68_ hb h4_ h7_ h8_ e10_ h11_ e69_) (fun z70_ _ => ?_)
      refine w_if_ne (tgt := 48) dX10_letWalkerGo_31 (by decide) (rfl : z70_.toInt = z70_.toInt) (fun h71_ => ?_) (fun h71_ => ?_)
      · refine w_aload_n dX10_letWalkerGo_48 rfl 1 rfl ?_
        refine w_aload_n dX10_letWalkerGo_49 rfl 1 rfl ?_
        refine w_getI fl_RX10_119 rfl rfl (ic_9 hb h8_) dX10_letWalkerGo_50 (fun z72_ e73_ => ?_)
        refine w_callV (as := [vI z72_]) (rest := []) (c_X9_yardsToFull l G cy ad (d + 2) b j6_ z72_ Mz hIz hb h8_) kV_X9_yardsToFull (by decide +kernel) (Nat.le_of_ble_eq_true rfl) m_1045 rfl rfl rfl (ic_9 hb h8_) rfl rfl (by decide) (Nat.le_of_ble_eq_true rfl) dX10_letWalkerGo_53 (fun r74_ M75_ q76_ => ?_)
        obtain ⟨rfl, h77_⟩ := q76_
        refine w_istore (ls' := [(4, vI r74_), (3, vI z9_), (2, vR (9, b, j6_)), (0, vR (10, b, 0)), (1, vI v)]) dX10_letWalkerGo_56 (by decide) rfl ?_
        refine w_aload_n dX10_letWalkerGo_58 rfl 2 rfl ?_
        refine w_aload_n dX10_letWalkerGo_59 rfl 2 rfl ?_
        refine w_getI fl_RX10_119 rfl rfl (ic_9 hb h8_) dX10_letWalkerGo_60 (fun z78_ e79_ => ?_)
        obtain rfl : z72_ = z78_ := e73_.trans e79_.symm
        refine w_bipush (v := 6) dX10_letWalkerGo_63 (by decide) ?_
        refine w_iadd dX10_letWalkerGo_65 (fun z80_ _ => ?_)
        refine w_bipush (v := 7) dX10_letWalkerGo_66 (by decide) ?_
        refine w_iandB 3 dX10_letWalkerGo_68 (by decide) (by decide) (fun z81_ h82_ => ?_)
        refine w_callV (as := [vI z81_]) (rest := []) (c_X9_yardsToFull l G cy ad (d + 2) b j6_ z81_ Mz hIz hb h8_) kV_X9_yardsToFull (by decide +kernel) (Nat.le_of_ble_eq_true rfl) m_1045 rfl rfl rfl (ic_9 hb h8_) rfl rfl (by decide) (Nat.le_of_ble_eq_true rfl) dX10_letWalkerGo_69 (fun r83_ M84_ q85_ => ?_)
        obtain ⟨rfl, h86_⟩ := q85_
        refine w_istore (ls' := [(5, vI r83_), (4, vI r74_), (3, vI z9_), (2, vR (9, b, j6_)), (0, vR (10, b, 0)), (1, vI v)]) dX10_letWalkerGo_72 (by decide) rfl ?_
        refine w_aload_n dX10_letWalkerGo_74 rfl 3 rfl ?_
        refine w_aload_n dX10_letWalkerGo_75 rfl 3 rfl ?_
        refine w_getI fl_RX10_119 rfl rfl (ic_9 hb h8_) dX10_letWalkerGo_76 (fun z87_ e88_ => ?_)
        obtain rfl : z72_ = z87_ := e73_.trans e88_.symm
        refine w_iconst (v := 2) dX10_letWalkerGo_79 (by decide) ?_
        refine w_iadd dX10_letWalkerGo_80 (fun z89_ _ => ?_)
        refine w_bipush (v := 7) dX10_letWalkerGo_81 (by decide) ?_
        refine w_iandB 3 dX10_letWalkerGo_83 (by decide) (by decide) (fun z90_ h91_ => ?_)
        refine w_callV (as := [vI z90_]) (rest := []) (c_X9_yardsToFull l G cy ad (d + 2) b j6_ z90_ Mz hIz hb h8_) kV_X9_yardsToFull (by decide +kernel) (Nat.le_of_ble_eq_true rfl) m_1045 rfl rfl rfl (ic_9 hb h8_) rfl rfl (by decide) (Nat.le_of_ble_eq_true rfl) dX10_letWalkerGo_84 (fun r92_ M93_ q94_ => ?_)
        obtain ⟨rfl, h95_⟩ := q94_
        refine w_istore (ls' := [(6, vI r92_), (5, vI r83_), (4, vI r74_), (3, vI z9_), (2, vR (9, b, j6_)), (0, vR (10, b, 0)), (1, vI v)]) dX10_letWalkerGo_87 (by decide) rfl ?_
        refine w_aload_n dX10_letWalkerGo_89 rfl 5 rfl ?_
        refine w_getR (c' := (2, b, 0)) fl_RX10_19 rfl rfl (ic_10 hb) dX10_letWalkerGo_90 rfl ?_
        refine w_iload dX10_letWalkerGo_93 2 rfl ?_
        refine w_iload dX10_letWalkerGo_95 1 rfl ?_
        refine w_iload dX10_letWalkerGo_97 0 rfl ?_
        refine w_aload_n dX10_letWalkerGo_99 rfl 4 rfl ?_
        refine w_getI fl_RX10_66 rfl rfl (ic_9 hb h8_) dX10_letWalkerGo_100 (fun z96_ e97_ => ?_)
        refine w_aload_n dX10_letWalkerGo_103 rfl 5 rfl ?_
        refine w_getI fl_RX10_54 rfl rfl (ic_10 hb) dX10_letWalkerGo_104 (fun z98_ e99_ => ?_)
        obtain rfl : z68_ = z98_ := e69_.trans e99_.symm
        refine w_callV (as := [vI r74_, vI r83_, vI r92_, vI z96_, vI z68_]) (rest := []) (c_X2_habitValue l G cy ad (d + 3) b r74_ r83_ r92_ z96_ z68_ Mz hIz hb) kV_X2_habitValue (by decide +kernel) (Nat.le_of_ble_eq_true rfl) m_1050 rfl rfl rfl (ic_2 hb) rfl rfl (by decide) (Nat.le_of_ble_eq_true rfl) dX10_letWalkerGo_107 (fun r100_ M101_ q102_ => ?_)
        obtain ⟨hI104_, hF105_, h103_⟩ := q102_
        have hF106_ := hFz.tr hF105_ (fun c k => (fun h => h.elim (fun h => (Or.inl ⟨h.1, h.2.1, h.2.2⟩)) (fun h => h.elim (fun h => (Or.inr (Or.inl ⟨h.1, h.2.1, h.2.2⟩))) (fun h => h.elim (fun h => (Or.inr (Or.inr (Or.inl ⟨h.1, h.2.1, h.2.2⟩)))) (fun h => h.elim (fun h => (Or.inr (Or.inr (Or.inr (Or.inl ⟨h.1, h.2.1, h.2.2⟩))))) (fun h => h.elim (fun h => (Or.inr (Or.inr (Or.inr (Or.inr (Or.inl ⟨h.1, h.2.1, h.2.2⟩)))))) (fun h => h.elim (fun h => (Or.inr (Or.inr (Or.inr (Or.inr (Or.inr (Or.inl ⟨h.1, h.2.1, h.2.2⟩))))))) (fun h => h.elim))))))))
        refine w_iconst (v := 4) dX10_letWalkerGo_110 (by decide) ?_
        refine w_floorMod4 m_1054 m_1055 m_86 m_1056 (Nat.le_of_ble_eq_true rfl) (by omega) dX10_letWalkerGo_111 (fun z107_ => ?_)
        refine w_istore (ls' := [(7, vI z107_), (6, vI r92_), (5, vI r83_), (4, vI r74_), (3, vI z9_), (2, vR (9, b, j6_)), (0, vR (10, b, 0)), (1, vI v)]) dX10_letWalkerGo_114 (by decide) rfl ?_
        refine w_iload dX10_letWalkerGo_116 0 rfl ?_
        refine w_if_ne (tgt := 129) dX10_letWalkerGo_118 (by decide) (rfl : z107_.toInt = z107_.toInt) (fun h108_ => ?_) (fun h108_ => ?_)
        · refine w_aload_n dX10_letWalkerGo_129 rfl 5 rfl ?_
          refine w_iload dX10_letWalkerGo_130 0 rfl ?_
          refine w_iconst (v := 3) dX10_letWalkerGo_132 (by decide) ?_
          refine w_icmp_ne (tgt := 141) dX10_letWalkerGo_133 (by decide) (rfl : z107_.toInt = z107_.toInt) li_3 (fun h109_ => ?_) (fun h109_ => ?_)
          · refine w_iload dX10_letWalkerGo_141 0 rfl ?_
            refine w_callVv (as := [vI z107_]) (rest := []) (c_X9_turn l G cy ad (d + 4) b j6_ z107_ M101_ hI104_ hb h8_) kV_X9_turn (by decide +kernel) (Nat.le_of_ble_eq_true rfl) m_1063 rfl rfl rfl (ic_9 hb h8_) rfl rfl (by decide) (Nat.le_of_ble_eq_true rfl) dX10_letWalkerGo_143 (fun M110_ q111_ => ?_)
            obtain ⟨hI113_, hF114_, h112_⟩ := q111_
            have hF115_ := hF106_.tr hF114_ (fun c k => (fun h => h.elim (fun h => (Or.inr (Or.inr (Or.inr (Or.inr (Or.inr (Or.inr (Or.inl ⟨h.1, h.2.1, h.2.2.2⟩)))))))) (fun h => h.elim)))
            exact w_vret rfl dX10_letWalkerGo_146 ⟨hI113_, hF115_, trivial⟩
          · refine w_bipush (v := (-2)) dX10_letWalkerGo_136 (by decide) ?_
            refine w_goto (tgt := 143) dX10_letWalkerGo_138 (by decide) ?_
            refine w_callVv (as := [vI (-2)]) (rest := []) (c_X9_turn l G cy ad (d + 4) b j6_ (-2) M101_ hI104_ hb h8_) kV_X9_turn (by decide +kernel) (Nat.le_of_ble_eq_true rfl) m_1063 rfl rfl rfl (ic_9 hb h8_) rfl rfl (by decide) (Nat.le_of_ble_eq_true rfl) dX10_letWalkerGo_143 (fun M116_ q117_ => ?_)
            obtain ⟨hI119_, hF120_, h118_⟩ := q117_
            have hF121_ := hF106_.tr hF120_ (fun c k => (fun h => h.elim (fun h => (Or.inr (Or.inr (Or.inr (Or.inr (Or.inr (Or.inr (Or.inl ⟨h.1, h.2.1, h.2.2.2⟩)))))))) (fun h => h.elim)))
            exact w_vret rfl dX10_letWalkerGo_146 ⟨hI119_, hF121_, trivial⟩
        · refine w_aload_n dX10_letWalkerGo_121 rfl 6 rfl ?_
          refine w_iload_n dX10_letWalkerGo_122 rfl 7 rfl ?_
          refine w_callVv (as := [vI v]) (rest := []) (c_X10_goOn l G cy ad (d + 2) b v M101_ hI104_ hb) kV_X10_goOn (by decide +kernel) (Nat.le_of_ble_eq_true rfl) m_1057 rfl rfl rfl (ic_10 hb) rfl rfl (by decide) (Nat.le_of_ble_eq_true rfl) dX10_letWalkerGo_123 (fun M122_ q123_ => ?_)
          obtain ⟨hI125_, hF126_, h124_⟩ := q123_
          have hF127_ := hF106_.tr hF126_ (fun c k => (fun h => h.elim (fun h => (Or.inr (Or.inr (Or.inr (Or.inr (Or.inr (Or.inr (Or.inr (Or.inl ⟨h.1, h.2⟩))))))))) (fun h => h.elim (fun h => (Or.inr (Or.inr (Or.inr (Or.inr (Or.inr (Or.inr (Or.inr (Or.inr (Or.inl ⟨h.1, h.2.1, h.2.2⟩)))))))))) (fun h => h.elim (fun h => (Or.inr (Or.inr (Or.inr (Or.inr (Or.inr (Or.inr (Or.inr (Or.inr (Or.inr (Or.inl ⟨h.1, h.2.1, h.2.2⟩))))))))))) (fun h => h.elim (fun h => (Or.inr (Or.inr (Or.inr (Or.inr (Or.inr (Or.inr (Or.inr (Or.inr (Or.inr (Or.inr (Or.inl ⟨h.1, h.2⟩)))))))))))) (fun h => h.elim))))))
          refine w_goto (tgt := 146) dX10_letWalkerGo_126 (by decide) ?_
          exact w_vret rfl dX10_letWalkerGo_146 ⟨hI125_, hF127_, trivial⟩
      · refine w_aload_n dX10_letWalkerGo_34 rfl 1 rfl ?_
        refine w_iconst (v := 1) dX10_letWalkerGo_35 (by decide) ?_
        refine w_callV (as := [vI 1]) (rest := []) (c_X9_isOf l G cy ad (d + 3) b j6_ 1 Mz hIz hb h8_) kV_X9_isOf (by decide +kernel) (Nat.le_of_ble_eq_true rfl) m_1043 rfl rfl rfl (ic_9 hb h8_) rfl rfl (by decide) (Nat.le_of_ble_eq_true rfl) dX10_letWalkerGo_36 (fun r128_ M129_ q130_ => ?_)
        obtain ⟨rfl, h131_⟩ := q130_
        refine w_if_eq (tgt := 48) dX10_letWalkerGo_39 (by decide) (rfl : r128_.toInt = r128_.toInt) (fun h132_ => ?_) (fun h132_ => ?_)
        · refine w_aload_n dX10_letWalkerGo_48 rfl 1 rfl ?_
          refine w_aload_n dX10_letWalkerGo_49 rfl 1 rfl ?_
          refine w_getI fl_RX10_119 rfl rfl (ic_9 hb h8_) dX10_letWalkerGo_50 (fun z133_ e134_ => ?_)
          refine w_callV (as := [vI z133_]) (rest := []) (c_X9_yardsToFull l G cy ad (d + 2) b j6_ z133_ Mz hIz hb h8_) kV_X9_yardsToFull (by decide +kernel) (Nat.le_of_ble_eq_true rfl) m_1045 rfl rfl rfl (ic_9 hb h8_) rfl rfl (by decide) (Nat.le_of_ble_eq_true rfl) dX10_letWalkerGo_53 (fun r135_ M136_ q137_ => ?_)
          obtain ⟨rfl, h138_⟩ := q137_
          refine w_istore (ls' := [(4, vI r135_), (3, vI z9_), (2, vR (9, b, j6_)), (0, vR (10, b, 0)), (1, vI v)]) dX10_letWalkerGo_56 (by decide) rfl ?_
          refine w_aload_n dX10_letWalkerGo_58 rfl 2 rfl ?_
          refine w_aload_n dX10_letWalkerGo_59 rfl 2 rfl ?_
          refine w_getI fl_RX10_119 rfl rfl (ic_9 hb h8_) dX10_letWalkerGo_60 (fun z139_ e140_ => ?_)
          obtain rfl : z133_ = z139_ := e134_.trans e140_.symm
          refine w_bipush (v := 6) dX10_letWalkerGo_63 (by decide) ?_
          refine w_iadd dX10_letWalkerGo_65 (fun z141_ _ => ?_)
          refine w_bipush (v := 7) dX10_letWalkerGo_66 (by decide) ?_
          refine w_iandB 3 dX10_letWalkerGo_68 (by decide) (by decide) (fun z142_ h143_ => ?_)
          refine w_callV (as := [vI z142_]) (rest := []) (c_X9_yardsToFull l G cy ad (d + 2) b j6_ z142_ Mz hIz hb h8_) kV_X9_yardsToFull (by decide +kernel) (Nat.le_of_ble_eq_true rfl) m_1045 rfl rfl rfl (ic_9 hb h8_) rfl rfl (by decide) (Nat.le_of_ble_eq_true rfl) dX10_letWalkerGo_69 (fun r144_ M145_ q146_ => ?_)
          obtain ⟨rfl, h147_⟩ := q146_
          refine w_istore (ls' := [(5, vI r144_), (4, vI r135_), (3, vI z9_), (2, vR (9, b, j6_)), (0, vR (10, b, 0)), (1, vI v)]) dX10_letWalkerGo_72 (by decide) rfl ?_
          refine w_aload_n dX10_letWalkerGo_74 rfl 3 rfl ?_
          refine w_aload_n dX10_letWalkerGo_75 rfl 3 rfl ?_
          refine w_getI fl_RX10_119 rfl rfl (ic_9 hb h8_) dX10_letWalkerGo_76 (fun z148_ e149_ => ?_)
          obtain rfl : z133_ = z148_ := e134_.trans e149_.symm
          refine w_iconst (v := 2) dX10_letWalkerGo_79 (by decide) ?_
          refine w_iadd dX10_letWalkerGo_80 (fun z150_ _ => ?_)
          refine w_bipush (v := 7) dX10_letWalkerGo_81 (by decide) ?_
          refine w_iandB 3 dX10_letWalkerGo_83 (by decide) (by decide) (fun z151_ h152_ => ?_)
          refine w_callV (as := [vI z151_]) (rest := []) (c_X9_yardsToFull l G cy ad (d + 2) b j6_ z151_ Mz hIz hb h8_) kV_X9_yardsToFull (by decide +kernel) (Nat.le_of_ble_eq_true rfl) m_1045 rfl rfl rfl (ic_9 hb h8_) rfl rfl (by decide) (Nat.le_of_ble_eq_true rfl) dX10_letWalkerGo_84 (fun r153_ M154_ q155_ => ?_)
          obtain ⟨rfl, h156_⟩ := q155_
          refine w_istore (ls' := [(6, vI r153_), (5, vI r144_), (4, vI r135_), (3, vI z9_), (2, vR (9, b, j6_)), (0, vR (10, b, 0)), (1, vI v)]) dX10_letWalkerGo_87 (by decide) rfl ?_
          refine w_aload_n dX10_letWalkerGo_89 rfl 5 rfl ?_
          refine w_getR (c' := (2, b, 0)) fl_RX10_19 rfl rfl (ic_10 hb) dX10_letWalkerGo_90 rfl ?_
          refine w_iload dX10_letWalkerGo_93 2 rfl ?_
          refine w_iload dX10_letWalkerGo_95 1 rfl ?_
          refine w_iload dX10_letWalkerGo_97 0 rfl ?_
          refine w_aload_n dX10_letWalkerGo_99 rfl 4 rfl ?_
          refine w_getI fl_RX10_66 rfl rfl (ic_9 hb h8_) dX10_letWalkerGo_100 (fun z157_ e158_ => ?_)
          refine w_aload_n dX10_letWalkerGo_103 rfl 5 rfl ?_
          refine w_getI fl_RX10_54 rfl rfl (ic_10 hb) dX10_letWalkerGo_104 (fun z159_ e160_ => ?_)
          obtain rfl : z68_ = z159_ := e69_.trans e160_.symm
          refine w_callV (as := [vI r135_, vI r144_, vI r153_, vI z157_, vI z68_]) (rest := []) (c_X2_habitValue l G cy ad (d + 3) b r135_ r144_ r153_ z157_ z68_ Mz hIz hb) kV_X2_habitValue (by decide +kernel) (Nat.le_of_ble_eq_true rfl) m_1050 rfl rfl rfl (ic_2 hb) rfl rfl (by decide) (Nat.le_of_ble_eq_true rfl) dX10_letWalkerGo_107 (fun r161_ M162_ q163_ => ?_)
          obtain ⟨hI165_, hF166_, h164_⟩ := q163_
          have hF167_ := hFz.tr hF166_ (fun c k => (fun h => h.elim (fun h => (Or.inl ⟨h.1, h.2.1, h.2.2⟩)) (fun h => h.elim (fun h => (Or.inr (Or.inl ⟨h.1, h.2.1, h.2.2⟩))) (fun h => h.elim (fun h => (Or.inr (Or.inr (Or.inl ⟨h.1, h.2.1, h.2.2⟩)))) (fun h => h.elim (fun h => (Or.inr (Or.inr (Or.inr (Or.inl ⟨h.1, h.2.1, h.2.2⟩))))) (fun h => h.elim (fun h => (Or.inr (Or.inr (Or.inr (Or.inr (Or.inl ⟨h.1, h.2.1, h.2.2⟩)))))) (fun h => h.elim (fun h => (Or.inr (Or.inr (Or.inr (Or.inr (Or.inr (Or.inl ⟨h.1, h.2.1, h.2.2⟩))))))) (fun h => h.elim))))))))
          refine w_iconst (v := 4) dX10_letWalkerGo_110 (by decide) ?_
          refine w_floorMod4 m_1054 m_1055 m_86 m_1056 (Nat.le_of_ble_eq_true rfl) (by omega) dX10_letWalkerGo_111 (fun z168_ => ?_)
          refine w_istore (ls' := [(7, vI z168_), (6, vI r153_), (5, vI r144_), (4, vI r135_), (3, vI z9_), (2, vR (9, b, j6_)), (0, vR (10, b, 0)), (1, vI v)]) dX10_letWalkerGo_114 (by decide) rfl ?_
          refine w_iload dX10_letWalkerGo_116 0 rfl ?_
          refine w_if_ne (tgt := 129) dX10_letWalkerGo_118 (by decide) (rfl : z168_.toInt = z168_.toInt) (fun h169_ => ?_) (fun h169_ => ?_)
          · refine w_aload_n dX10_letWalkerGo_129 rfl 5 rfl ?_
            refine w_iload dX10_letWalkerGo_130 0 rfl ?_
            refine w_iconst (v := 3) dX10_letWalkerGo_132 (by decide) ?_
            refine w_icmp_ne (tgt := 141) dX10_letWalkerGo_133 (by decide) (rfl : z168_.toInt = z168_.toInt) li_3 (fun h170_ => ?_) (fun h170_ => ?_)
            · refine w_iload dX10_letWalkerGo_141 0 rfl ?_
              refine w_callVv (as := [vI z168_]) (rest := []) (c_X9_turn l G cy ad (d + 4) b j6_ z168_ M162_ hI165_ hb h8_) kV_X9_turn (by decide +kernel) (Nat.le_of_ble_eq_true rfl) m_1063 rfl rfl rfl (ic_9 hb h8_) rfl rfl (by decide) (Nat.le_of_ble_eq_true rfl) dX10_letWalkerGo_143 (fun M171_ q172_ => ?_)
              obtain ⟨hI174_, hF175_, h173_⟩ := q172_
              have hF176_ := hF167_.tr hF175_ (fun c k => (fun h => h.elim (fun h => (Or.inr (Or.inr (Or.inr (Or.inr (Or.inr (Or.inr (Or.inl ⟨h.1, h.2.1, h.2.2.2⟩)))))))) (fun h => h.elim)))
              exact w_vret rfl dX10_letWalkerGo_146 ⟨hI174_, hF176_, trivial⟩
            · refine w_bipush (v := (-2)) dX10_letWalkerGo_136 (by decide) ?_
              refine w_goto (tgt := 143) dX10_letWalkerGo_138 (by decide) ?_
              refine w_callVv (as := [vI (-2)]) (rest := []) (c_X9_turn l G cy ad (d + 4) b j6_ (-2) M162_ hI165_ hb h8_) kV_X9_turn (by decide +kernel) (Nat.le_of_ble_eq_true rfl) m_1063 rfl rfl rfl (ic_9 hb h8_) rfl rfl (by decide) (Nat.le_of_ble_eq_true rfl) dX10_letWalkerGo_143 (fun M177_ q178_ => ?_)
              obtain ⟨hI180_, hF181_, h179_⟩ := q178_
              have hF182_ := hF167_.tr hF181_ (fun c k => (fun h => h.elim (fun h => (Or.inr (Or.inr (Or.inr (Or.inr (Or.inr (Or.inr (Or.inl ⟨h.1, h.2.1, h.2.2.2⟩)))))))) (fun h => h.elim)))
              exact w_vret rfl dX10_letWalkerGo_146 ⟨hI180_, hF182_, trivial⟩
          · refine w_aload_n dX10_letWalkerGo_121 rfl 6 rfl ?_
            refine w_iload_n dX10_letWalkerGo_122 rfl 7 rfl ?_
            refine w_callVv (as := [vI v]) (rest := []) (c_X10_goOn l G cy ad (d + 2) b v M162_ hI165_ hb) kV_X10_goOn (by decide +kernel) (Nat.le_of_ble_eq_true rfl) m_1057 rfl rfl rfl (ic_10 hb) rfl rfl (by decide) (Nat.le_of_ble_eq_true rfl) dX10_letWalkerGo_123 (fun M183_ q184_ => ?_)
            obtain ⟨hI186_, hF187_, h185_⟩ := q184_
            have hF188_ := hF167_.tr hF187_ (fun c k => (fun h => h.elim (fun h => (Or.inr (Or.inr (Or.inr (Or.inr (Or.inr (Or.inr (Or.inr (Or.inl ⟨h.1, h.2⟩))))))))) (fun h => h.elim (fun h => (Or.inr (Or.inr (Or.inr (Or.inr (Or.inr (Or.inr (Or.inr (Or.inr (Or.inl ⟨h.1, h.2.1, h.2.2⟩)))))))))) (fun h => h.elim (fun h => (Or.inr (Or.inr (Or.inr (Or.inr (Or.inr (Or.inr (Or.inr (Or.inr (Or.inr (Or.inl ⟨h.1, h.2.1, h.2.2⟩))))))))))) (fun h => h.elim (fun h => (Or.inr (Or.inr (Or.inr (Or.inr (Or.inr (Or.inr (Or.inr (Or.inr (Or.inr (Or.inr (Or.inl ⟨h.1, h.2⟩)))))))))))) (fun h => h.elim))))))
            refine w_goto (tgt := 146) dX10_letWalkerGo_126 (by decide) ?_
            exact w_vret rfl dX10_letWalkerGo_146 ⟨hI186_, hF188_, trivial⟩
        · refine w_aload_n dX10_letWalkerGo_42 rfl 2 rfl ?_
          refine w_iload_n dX10_letWalkerGo_43 rfl 3 rfl ?_
          refine w_callV (as := [vI v]) (rest := []) (c_X10_makeClick l G cy ad d b v Mz hIz hb) kV_X10_makeClick (by decide +kernel) (Nat.le_of_ble_eq_true rfl) m_1044 rfl rfl rfl (ic_10 hb) rfl rfl (by decide) (Nat.le_of_ble_eq_true rfl) dX10_letWalkerGo_44 (fun r189_ M190_ q191_ => ?_)
          obtain ⟨hI193_, hF194_, h192_⟩ := q191_
          have hF195_ := hFz.tr hF194_ (fun c k => (fun h => h.elim (fun h => (Or.inr (Or.inr (Or.inr (Or.inr (Or.inr (Or.inr (Or.inr (Or.inr (Or.inr (Or.inr (Or.inr (Or.inl ⟨h.1, h.2.1, h.2.2⟩))))))))))))) (fun h => h.elim (fun h => (Or.inl ⟨h.1, h.2.1, h.2.2⟩)) (fun h => h.elim (fun h => (Or.inr (Or.inl ⟨h.1, h.2.1, h.2.2⟩))) (fun h => h.elim (fun h => (Or.inr (Or.inr (Or.inl ⟨h.1, h.2.1, h.2.2⟩)))) (fun h => h.elim (fun h => (Or.inr (Or.inr (Or.inr (Or.inl ⟨h.1, h.2.1, h.2.2⟩))))) (fun h => h.elim (fun h => (Or.inr (Or.inr (Or.inr (Or.inr (Or.inr (Or.inr (Or.inr (Or.inr (Or.inr (Or.inr (Or.inr (Or.inr (Or.inl ⟨h.1, h.2.1, h.2.2⟩)))))))))))))) (fun h => h.elim (fun h => (Or.inr (Or.inr (Or.inr (Or.inr (Or.inr (Or.inr (Or.inr (Or.inr (Or.inr (Or.inr (Or.inr (Or.inr (Or.inr (Or.inl ⟨h.1, h.2.1, h.2.2⟩))))))))))))))) (fun h => h.elim (fun h => (Or.inr (Or.inr (Or.inr (Or.inr (Or.inr (Or.inr (Or.inr (Or.inr (Or.inr (Or.inr (Or.inl ⟨h.1, h.2⟩)))))))))))) (fun h => h.elim (fun h => (Or.inr (Or.inr (Or.inr (Or.inr (Or.inr (Or.inr (Or.inr (Or.inr (Or.inr (Or.inr (Or.inr (Or.inr (Or.inr (Or.inr (Or.inl ⟨h.1, h.2⟩)))))))))))))))) (fun h => h.elim)))))))))))
          refine w_pop dX10_letWalkerGo_47 rfl ?_
          refine w_aload_n dX10_letWalkerGo_48 rfl 1 rfl ?_
          refine w_aload_n dX10_letWalkerGo_49 rfl 1 rfl ?_
          refine w_getI fl_RX10_119 rfl rfl (ic_9 hb h8_) dX10_letWalkerGo_50 (fun z196_ e197_ => ?_)
          refine w_callV (as := [vI z196_]) (rest := []) (c_X9_yardsToFull l G cy ad (d + 2) b j6_ z196_ M190_ hI193_ hb h8_) kV_X9_yardsToFull (by decide +kernel) (Nat.le_of_ble_eq_true rfl) m_1045 rfl rfl rfl (ic_9 hb h8_) rfl rfl (by decide) (Nat.le_of_ble_eq_true rfl) dX10_letWalkerGo_53 (fun r198_ M199_ q200_ => ?_)
          obtain ⟨rfl, h201_⟩ := q200_
          refine w_istore (ls' := [(4, vI r198_), (3, vI z9_), (2, vR (9, b, j6_)), (0, vR (10, b, 0)), (1, vI v)]) dX10_letWalkerGo_56 (by decide) rfl ?_
          refine w_aload_n dX10_letWalkerGo_58 rfl 2 rfl ?_
          refine w_aload_n dX10_letWalkerGo_59 rfl 2 rfl ?_
          refine w_getI fl_RX10_119 rfl rfl (ic_9 hb h8_) dX10_letWalkerGo_60 (fun z202_ e203_ => ?_)
          obtain rfl : z196_ = z202_ := e197_.trans e203_.symm
          refine w_bipush (v := 6) dX10_letWalkerGo_63 (by decide) ?_
          refine w_iadd dX10_letWalkerGo_65 (fun z204_ _ => ?_)
          refine w_bipush (v := 7) dX10_letWalkerGo_66 (by decide) ?_
          refine w_iandB 3 dX10_letWalkerGo_68 (by decide) (by decide) (fun z205_ h206_ => ?_)
          refine w_callV (as := [vI z205_]) (rest := []) (c_X9_yardsToFull l G cy ad (d + 2) b j6_ z205_ M190_ hI193_ hb h8_) kV_X9_yardsToFull (by decide +kernel) (Nat.le_of_ble_eq_true rfl) m_1045 rfl rfl rfl (ic_9 hb h8_) rfl rfl (by decide) (Nat.le_of_ble_eq_true rfl) dX10_letWalkerGo_69 (fun r207_ M208_ q209_ => ?_)
          obtain ⟨rfl, h210_⟩ := q209_
          refine w_istore (ls' := [(5, vI r207_), (4, vI r198_), (3, vI z9_), (2, vR (9, b, j6_)), (0, vR (10, b, 0)), (1, vI v)]) dX10_letWalkerGo_72 (by decide) rfl ?_
          refine w_aload_n dX10_letWalkerGo_74 rfl 3 rfl ?_
          refine w_aload_n dX10_letWalkerGo_75 rfl 3 rfl ?_
          refine w_getI fl_RX10_119 rfl rfl (ic_9 hb h8_) dX10_letWalkerGo_76 (fun z211_ e212_ => ?_)
          obtain rfl : z196_ = z211_ := e197_.trans e212_.symm
          refine w_iconst (v := 2) dX10_letWalkerGo_79 (by decide) ?_
          refine w_iadd dX10_letWalkerGo_80 (fun z213_ _ => ?_)
          refine w_bipush (v := 7) dX10_letWalkerGo_81 (by decide) ?_
          refine w_iandB 3 dX10_letWalkerGo_83 (by decide) (by decide) (fun z214_ h215_ => ?_)
          refine w_callV (as := [vI z214_]) (rest := []) (c_X9_yardsToFull l G cy ad (d + 2) b j6_ z214_ M190_ hI193_ hb h8_) kV_X9_yardsToFull (by decide +kernel) (Nat.le_of_ble_eq_true rfl) m_1045 rfl rfl rfl (ic_9 hb h8_) rfl rfl (by decide) (Nat.le_of_ble_eq_true rfl) dX10_letWalkerGo_84 (fun r216_ M217_ q218_ => ?_)
          obtain ⟨rfl, h219_⟩ := q218_
          refine w_istore (ls' := [(6, vI r216_), (5, vI r207_), (4, vI r198_), (3, vI z9_), (2, vR (9, b, j6_)), (0, vR (10, b, 0)), (1, vI v)]) dX10_letWalkerGo_87 (by decide) rfl ?_
          refine w_aload_n dX10_letWalkerGo_89 rfl 5 rfl ?_
          refine w_getR (c' := (2, b, 0)) fl_RX10_19 rfl rfl (ic_10 hb) dX10_letWalkerGo_90 rfl ?_
          refine w_iload dX10_letWalkerGo_93 2 rfl ?_
          refine w_iload dX10_letWalkerGo_95 1 rfl ?_
          refine w_iload dX10_letWalkerGo_97 0 rfl ?_
          refine w_aload_n dX10_letWalkerGo_99 rfl 4 rfl ?_
          refine w_getI fl_RX10_66 rfl rfl (ic_9 hb h8_) dX10_letWalkerGo_100 (fun z220_ e221_ => ?_)
          refine w_aload_n dX10_letWalkerGo_103 rfl 5 rfl ?_
          refine w_getI fl_RX10_54 rfl rfl (ic_10 hb) dX10_letWalkerGo_104 (fun z222_ e223_ => ?_)
          refine w_callV (as := [vI r198_, vI r207_, vI r216_, vI z220_, vI z222_]) (rest := []) (c_X2_habitValue l G cy ad (d + 3) b r198_ r207_ r216_ z220_ z222_ M190_ hI193_ hb) kV_X2_habitValue (by decide +kernel) (Nat.le_of_ble_eq_true rfl) m_1050 rfl rfl rfl (ic_2 hb) rfl rfl (by decide) (Nat.le_of_ble_eq_true rfl) dX10_letWalkerGo_107 (fun r224_ M225_ q226_ => ?_)
          obtain ⟨hI228_, hF229_, h227_⟩ := q226_
          have hF230_ := hF195_.tr hF229_ (fun c k => (fun h => h.elim (fun h => (Or.inl ⟨h.1, h.2.1, h.2.2⟩)) (fun h => h.elim (fun h => (Or.inr (Or.inl ⟨h.1, h.2.1, h.2.2⟩))) (fun h => h.elim (fun h => (Or.inr (Or.inr (Or.inl ⟨h.1, h.2.1, h.2.2⟩)))) (fun h => h.elim (fun h => (Or.inr (Or.inr (Or.inr (Or.inl ⟨h.1, h.2.1, h.2.2⟩))))) (fun h => h.elim (fun h => (Or.inr (Or.inr (Or.inr (Or.inr (Or.inl ⟨h.1, h.2.1, h.2.2⟩)))))) (fun h => h.elim (fun h => (Or.inr (Or.inr (Or.inr (Or.inr (Or.inr (Or.inl ⟨h.1, h.2.1, h.2.2⟩))))))) (fun h => h.elim))))))))
          refine w_iconst (v := 4) dX10_letWalkerGo_110 (by decide) ?_
          refine w_floorMod4 m_1054 m_1055 m_86 m_1056 (Nat.le_of_ble_eq_true rfl) (by omega) dX10_letWalkerGo_111 (fun z231_ => ?_)
          refine w_istore (ls' := [(7, vI z231_), (6, vI r216_), (5, vI r207_), (4, vI r198_), (3, vI z9_), (2, vR (9, b, j6_)), (0, vR (10, b, 0)), (1, vI v)]) dX10_letWalkerGo_114 (by decide) rfl ?_
          refine w_iload dX10_letWalkerGo_116 0 rfl ?_
          refine w_if_ne (tgt := 129) dX10_letWalkerGo_118 (by decide) (rfl : z231_.toInt = z231_.toInt) (fun h232_ => ?_) (fun h232_ => ?_)
          · refine w_aload_n dX10_letWalkerGo_129 rfl 5 rfl ?_
            refine w_iload dX10_letWalkerGo_130 0 rfl ?_
            refine w_iconst (v := 3) dX10_letWalkerGo_132 (by decide) ?_
            refine w_icmp_ne (tgt := 141) dX10_letWalkerGo_133 (by decide) (rfl : z231_.toInt = z231_.toInt) li_3 (fun h233_ => ?_) (fun h233_ => ?_)
            · refine w_iload dX10_letWalkerGo_141 0 rfl ?_
              refine w_callVv (as := [vI z231_]) (rest := []) (c_X9_turn l G cy ad (d + 4) b j6_ z231_ M225_ hI228_ hb h8_) kV_X9_turn (by decide +kernel) (Nat.le_of_ble_eq_true rfl) m_1063 rfl rfl rfl (ic_9 hb h8_) rfl rfl (by decide) (Nat.le_of_ble_eq_true rfl) dX10_letWalkerGo_143 (fun M234_ q235_ => ?_)
              obtain ⟨hI237_, hF238_, h236_⟩ := q235_
              have hF239_ := hF230_.tr hF238_ (fun c k => (fun h => h.elim (fun h => (Or.inr (Or.inr (Or.inr (Or.inr (Or.inr (Or.inr (Or.inl ⟨h.1, h.2.1, h.2.2.2⟩)))))))) (fun h => h.elim)))
              exact w_vret rfl dX10_letWalkerGo_146 ⟨hI237_, hF239_, trivial⟩
            · refine w_bipush (v := (-2)) dX10_letWalkerGo_136 (by decide) ?_
              refine w_goto (tgt := 143) dX10_letWalkerGo_138 (by decide) ?_
              refine w_callVv (as := [vI (-2)]) (rest := []) (c_X9_turn l G cy ad (d + 4) b j6_ (-2) M225_ hI228_ hb h8_) kV_X9_turn (by decide +kernel) (Nat.le_of_ble_eq_true rfl) m_1063 rfl rfl rfl (ic_9 hb h8_) rfl rfl (by decide) (Nat.le_of_ble_eq_true rfl) dX10_letWalkerGo_143 (fun M240_ q241_ => ?_)
              obtain ⟨hI243_, hF244_, h242_⟩ := q241_
              have hF245_ := hF230_.tr hF244_ (fun c k => (fun h => h.elim (fun h => (Or.inr (Or.inr (Or.inr (Or.inr (Or.inr (Or.inr (Or.inl ⟨h.1, h.2.1, h.2.2.2⟩)))))))) (fun h => h.elim)))
              exact w_vret rfl dX10_letWalkerGo_146 ⟨hI243_, hF245_, trivial⟩
          · refine w_aload_n dX10_letWalkerGo_121 rfl 6 rfl ?_
            refine w_iload_n dX10_letWalkerGo_122 rfl 7 rfl ?_
            refine w_callVv (as := [vI v]) (rest := []) (c_X10_goOn l G cy ad (d + 2) b v M225_ hI228_ hb) kV_X10_goOn (by decide +kernel) (Nat.le_of_ble_eq_true rfl) m_1057 rfl rfl rfl (ic_10 hb) rfl rfl (by decide) (Nat.le_of_ble_eq_true rfl) dX10_letWalkerGo_123 (fun M246_ q247_ => ?_)
            obtain ⟨hI249_, hF250_, h248_⟩ := q247_
            have hF251_ := hF230_.tr hF250_ (fun c k => (fun h => h.elim (fun h => (Or.inr (Or.inr (Or.inr (Or.inr (Or.inr (Or.inr (Or.inr (Or.inl ⟨h.1, h.2⟩))))))))) (fun h => h.elim (fun h => (Or.inr (Or.inr (Or.inr (Or.inr (Or.inr (Or.inr (Or.inr (Or.inr (Or.inl ⟨h.1, h.2.1, h.2.2⟩)))))))))) (fun h => h.elim (fun h => (Or.inr (Or.inr (Or.inr (Or.inr (Or.inr (Or.inr (Or.inr (Or.inr (Or.inr (Or.inl ⟨h.1, h.2.1, h.2.2⟩))))))))))) (fun h => h.elim (fun h => (Or.inr (Or.inr (Or.inr (Or.inr (Or.inr (Or.inr (Or.inr (Or.inr (Or.inr (Or.inr (Or.inl ⟨h.1, h.2⟩)))))))))))) (fun h => h.elim))))))
            refine w_goto (tgt := 146) dX10_letWalkerGo_126 (by decide) ?_
            exact w_vret rfl dX10_letWalkerGo_146 ⟨hI249_, hF251_, trivial⟩
  · refine w_if_ne (tgt := 9) dX10_letWalkerGo_5 (by decide) li_0 (fun h9 => (absurd h9 (by decide))) (fun h252_ => ?_)
    exact w_vret rfl dX10_letWalkerGo_8 ⟨hIz, hFz, trivial⟩
def S_c_X10_passTenth (b : Nat) : rf → Nat → Prop := fun c k => (c.1 = 10 ∧ c.2.1 = b ∧ k = 7) ∨ (c.1 = 35 ∧ c.2.1 = b) ∨ (c.1 = 37 ∧ c.2.1 = b) ∨ (c.1 = 38 ∧ c.2.1 = b) ∨ (c.1 = 29 ∧ c.2.1 = b ∧ k = 0) ∨ (c.1 = 29 ∧ c.2.1 = b ∧ k = 1) ∨ (c.1 = 29 ∧ c.2.1 = b ∧ k = 2) ∨ (c.1 = 29 ∧ c.2.1 = b ∧ k = 3) ∨ (c.1 = 29 ∧ c.2.1 = b ∧ k = 4) ∨ (c.1 = 25 ∧ c.2.1 = b ∧ c.2.2 = 2) ∨ (c.1 = 9 ∧ c.2.1 = b ∧ k = 2) ∨ (c.1 = 9 ∧ c.2.1 = b ∧ k = 1) ∨ (c.1 = 9 ∧ c.2.1 = b ∧ k = 7) ∨ (c.1 = 40 ∧ c.2.1 = b) ∨ (c.1 = 9 ∧ c.2.1 = b ∧ k = 8) ∨ (c.1 = 25 ∧ c.2.1 = b ∧ c.2.2 = 0) ∨ (c.1 = 25 ∧ c.2.1 = b ∧ c.2.2 = 1) ∨ (c.1 = 41 ∧ c.2.1 = b) ∨ False
theorem lf_c_X10_passTenth_0 (M4_ : mM) (M_23 : mM) (Mz : mM) (b : Nat) (z1_ : Int32) (z3_ : Int32) (z8_ : Int32) (v1_23 : Int32) (z17_ : Int32) (hb : b < 3) (e2_ : z1_ = Mz.1 (10, b, 0) 7) (hM5_ : M4_ = up Mz (10, b, 0) 7 z3_) (e9_ : z8_ = M4_.1 (10, b, 0) 7) (hv0_23 : 0 ≤ v1_23.toInt) (e18_ : z17_ = M_23.1 (10, b, 0) 6) (h19_ : v1_23.toInt < z17_.toInt) (h20_ : v1_23.toInt < 8) : 0 ≤ v1_23.toInt ∧ v1_23.toInt < ((8 : Nat) : Int) := by have r_z1_ := rngI z1_; have r_z3_ := rngI z3_; have r_z8_ := rngI z8_; have r_v1_23 := rngI v1_23; have r_z17_ := rngI z17_; subst e2_; subst e9_; subst e18_; omega
theorem lf_c_X10_passTenth_1 (M4_ : mM) (M_23 : mM) (Mz : mM) (b : Nat) (z1_ : Int32) (z3_ : Int32) (z8_ : Int32) (v1_23 : Int32) (z17_ : Int32) (j21_ : Nat) (z24_ : Int32) (hb : b < 3) (e2_ : z1_ = Mz.1 (10, b, 0) 7) (hM5_ : M4_ = up Mz (10, b, 0) 7 z3_) (e9_ : z8_ = M4_.1 (10, b, 0) 7) (hv0_23 : 0 ≤ v1_23.toInt) (e18_ : z17_ = M_23.1 (10, b, 0) 6) (h19_ : v1_23.toInt < z17_.toInt) (h20_ : v1_23.toInt < 8) (h22_ : (j21_ : Int) = v1_23.toInt) (h23_ : j21_ < 8) (e25_ : z24_ = M_23.1 (9, b, j21_) 6) (h26_ : 0 ≤ z24_.toInt ∧ z24_.toInt ≤ 1) (h27_ : z24_.toInt = 0) : -2147483648 ≤ v1_23.toInt + 1 ∧ v1_23.toInt + 1 < 2147483648 := by have r_z1_ := rngI z1_; have r_z3_ := rngI z3_; have r_z8_ := rngI z8_; have r_v1_23 := rngI v1_23; have r_z17_ := rngI z17_; have r_z24_ := rngI z24_; subst e2_; subst e9_; subst e18_; subst e25_; omega
theorem lf_c_X10_passTenth_2 (M4_ : mM) (M_23 : mM) (Mz : mM) (b : Nat) (z1_ : Int32) (z3_ : Int32) (z8_ : Int32) (v1_23 : Int32) (z17_ : Int32) (j21_ : Nat) (z24_ : Int32) (z28_ : Int32) (hb : b < 3) (e2_ : z1_ = Mz.1 (10, b, 0) 7) (hM5_ : M4_ = up Mz (10, b, 0) 7 z3_) (e9_ : z8_ = M4_.1 (10, b, 0) 7) (hv0_23 : 0 ≤ v1_23.toInt) (e18_ : z17_ = M_23.1 (10, b, 0) 6) (h19_ : v1_23.toInt < z17_.toInt) (h20_ : v1_23.toInt < 8) (h22_ : (j21_ : Int) = v1_23.toInt) (h23_ : j21_ < 8) (e25_ : z24_ = M_23.1 (9, b, j21_) 6) (h26_ : 0 ≤ z24_.toInt ∧ z24_.toInt ≤ 1) (h27_ : z24_.toInt = 0) (h29_ : z28_.toInt = v1_23.toInt + 1) : 0 ≤ z28_.toInt := by have r_z1_ := rngI z1_; have r_z3_ := rngI z3_; have r_z8_ := rngI z8_; have r_v1_23 := rngI v1_23; have r_z17_ := rngI z17_; have r_z24_ := rngI z24_; have r_z28_ := rngI z28_; omega
theorem lf_c_X10_passTenth_3 (M4_ : mM) (M_23 : mM) (Mz : mM) (b : Nat) (z1_ : Int32) (z3_ : Int32) (z8_ : Int32) (v1_23 : Int32) (z17_ : Int32) (j21_ : Nat) (z24_ : Int32) (z28_ : Int32) (hb : b < 3) (e2_ : z1_ = Mz.1 (10, b, 0) 7) (hM5_ : M4_ = up Mz (10, b, 0) 7 z3_) (e9_ : z8_ = M4_.1 (10, b, 0) 7) (hv0_23 : 0 ≤ v1_23.toInt) (e18_ : z17_ = M_23.1 (10, b, 0) 6) (h19_ : v1_23.toInt < z17_.toInt) (h20_ : v1_23.toInt < 8) (h22_ : (j21_ : Int) = v1_23.toInt) (h23_ : j21_ < 8) (e25_ : z24_ = M_23.1 (9, b, j21_) 6) (h26_ : 0 ≤ z24_.toInt ∧ z24_.toInt ≤ 1) (h27_ : z24_.toInt = 0) (h29_ : z28_.toInt = v1_23.toInt + 1) : (2147483648 - z28_.toInt).toNat < (2147483648 - v1_23.toInt).toNat := by have r_z1_ := rngI z1_; have r_z3_ := rngI z3_; have r_z8_ := rngI z8_; have r_v1_23 := rngI v1_23; have r_z17_ := rngI z17_; have r_z24_ := rngI z24_; have r_z28_ := rngI z28_; omega
theorem lf_c_X10_passTenth_4 (M4_ : mM) (M_23 : mM) (Mz : mM) (b : Nat) (z1_ : Int32) (z3_ : Int32) (z8_ : Int32) (v1_23 : Int32) (z17_ : Int32) (j21_ : Nat) (z24_ : Int32) (hb : b < 3) (e2_ : z1_ = Mz.1 (10, b, 0) 7) (hM5_ : M4_ = up Mz (10, b, 0) 7 z3_) (e9_ : z8_ = M4_.1 (10, b, 0) 7) (hv0_23 : 0 ≤ v1_23.toInt) (e18_ : z17_ = M_23.1 (10, b, 0) 6) (h19_ : v1_23.toInt < z17_.toInt) (h20_ : v1_23.toInt < 8) (h22_ : (j21_ : Int) = v1_23.toInt) (h23_ : j21_ < 8) (e25_ : z24_ = M_23.1 (9, b, j21_) 6) (h26_ : 0 ≤ z24_.toInt ∧ z24_.toInt ≤ 1) (h27_ : ¬ z24_.toInt = 0) : -2147483648 ≤ v1_23.toInt + 1 ∧ v1_23.toInt + 1 < 2147483648 := by have r_z1_ := rngI z1_; have r_z3_ := rngI z3_; have r_z8_ := rngI z8_; have r_v1_23 := rngI v1_23; have r_z17_ := rngI z17_; have r_z24_ := rngI z24_; subst e2_; subst e9_; subst e18_; subst e25_; omega
theorem lf_c_X10_passTenth_5 (M4_ : mM) (M_23 : mM) (Mz : mM) (b : Nat) (z1_ : Int32) (z3_ : Int32) (z8_ : Int32) (v1_23 : Int32) (z17_ : Int32) (j21_ : Nat) (z24_ : Int32) (z36_ : Int32) (hb : b < 3) (e2_ : z1_ = Mz.1 (10, b, 0) 7) (hM5_ : M4_ = up Mz (10, b, 0) 7 z3_) (e9_ : z8_ = M4_.1 (10, b, 0) 7) (hv0_23 : 0 ≤ v1_23.toInt) (e18_ : z17_ = M_23.1 (10, b, 0) 6) (h19_ : v1_23.toInt < z17_.toInt) (h20_ : v1_23.toInt < 8) (h22_ : (j21_ : Int) = v1_23.toInt) (h23_ : j21_ < 8) (e25_ : z24_ = M_23.1 (9, b, j21_) 6) (h26_ : 0 ≤ z24_.toInt ∧ z24_.toInt ≤ 1) (h27_ : ¬ z24_.toInt = 0) (h37_ : z36_.toInt = v1_23.toInt + 1) : 0 ≤ z36_.toInt := by have r_z1_ := rngI z1_; have r_z3_ := rngI z3_; have r_z8_ := rngI z8_; have r_v1_23 := rngI v1_23; have r_z17_ := rngI z17_; have r_z24_ := rngI z24_; have r_z36_ := rngI z36_; omega
theorem lf_c_X10_passTenth_6 (M4_ : mM) (M_23 : mM) (Mz : mM) (b : Nat) (z1_ : Int32) (z3_ : Int32) (z8_ : Int32) (v1_23 : Int32) (z17_ : Int32) (j21_ : Nat) (z24_ : Int32) (z36_ : Int32) (hb : b < 3) (e2_ : z1_ = Mz.1 (10, b, 0) 7) (hM5_ : M4_ = up Mz (10, b, 0) 7 z3_) (e9_ : z8_ = M4_.1 (10, b, 0) 7) (hv0_23 : 0 ≤ v1_23.toInt) (e18_ : z17_ = M_23.1 (10, b, 0) 6) (h19_ : v1_23.toInt < z17_.toInt) (h20_ : v1_23.toInt < 8) (h22_ : (j21_ : Int) = v1_23.toInt) (h23_ : j21_ < 8) (e25_ : z24_ = M_23.1 (9, b, j21_) 6) (h26_ : 0 ≤ z24_.toInt ∧ z24_.toInt ≤ 1) (h27_ : ¬ z24_.toInt = 0) (h37_ : z36_.toInt = v1_23.toInt + 1) : (2147483648 - z36_.toInt).toNat < (2147483648 - v1_23.toInt).toNat := by have r_z1_ := rngI z1_; have r_z3_ := rngI z3_; have r_z8_ := rngI z8_; have r_v1_23 := rngI v1_23; have r_z17_ := rngI z17_; have r_z24_ := rngI z24_; have r_z36_ := rngI z36_; omega
theorem lf_c_X10_passTenth_7    : 0 ≤ (0 : Int32).toInt := by have q0 := li_0; omega
set_option maxHeartbeats 4000000 in
set_option maxRecDepth 100000 in
theorem c_X10_passTenth (l : Launch) (G : va_G) (cy : Nat → ClassId) (ad : rf → Nat) (d : Nat) (b : Nat) (Mz : mM) (hIz : Inv Mz) (hb : b < 3) : WP CC l G cy ad yX10_passTenth cX10_passTenth 2 none (d + 6) 0 [(0, vR (10, b, 0))] [] Mz (fun r M' => Inv M' ∧ FR (S_c_X10_passTenth b) Mz M' ∧ True) := by
  have hFz : FR (S_c_X10_passTenth b) Mz Mz := FR.self
  refine w_aload_n dX10_passTenth_0 rfl 0 rfl ?_
  refine w_dup dX10_passTenth_1 rfl ?_
  refine w_getI fl_RX10_54 rfl rfl (ic_10 hb) dX10_passTenth_2 (fun z1_ e2_ => ?_)
  refine w_iconst (v := 1) dX10_passTenth_5 (by decide) ?_
  refine w_iadd dX10_passTenth_6 (fun z3_ _ => ?_)
  refine w_putI CC_nd fl_RX10_54 rfl rfl (ic_10 hb) dX10_passTenth_7 (fun M4_ hM5_ => ?_)
  have hI6_ := hIz.put hM5_ trivial
  have hF7_ := hFz.put hM5_ (Or.inl ⟨rfl, rfl, rfl⟩)
  refine w_aload_n dX10_passTenth_10 rfl 0 rfl ?_
  refine w_getR (c' := (7, b, 0)) fl_RX10_10 rfl rfl (ic_10 hb) dX10_passTenth_11 rfl ?_
  refine w_aload_n dX10_passTenth_14 rfl 0 rfl ?_
  refine w_getI fl_RX10_54 rfl rfl (ic_10 hb) dX10_passTenth_15 (fun z8_ e9_ => ?_)
  refine w_callVv (as := [vI z8_]) (rest := []) (c_X7_letThingsGo l G cy ad (d + 2) b z8_ M4_ hI6_ hb) kV_X7_letThingsGo (by decide +kernel) (Nat.le_of_ble_eq_true rfl) m_1029 rfl rfl rfl (ic_7 hb) rfl rfl (by decide) (Nat.le_of_ble_eq_true rfl) dX10_passTenth_18 (fun M10_ q11_ => ?_)
  obtain ⟨hI13_, hF14_, h12_⟩ := q11_
  have hF15_ := hF7_.tr hF14_ (fun c k => (fun h => h.elim (fun h => (Or.inr (Or.inl ⟨h.1, h.2⟩))) (fun h => h.elim (fun h => (Or.inr (Or.inr (Or.inl ⟨h.1, h.2⟩)))) (fun h => h.elim (fun h => (Or.inr (Or.inr (Or.inr (Or.inl ⟨h.1, h.2⟩))))) (fun h => h.elim)))))
  refine w_iconst (v := 0) dX10_passTenth_21 (by decide) ?_
  refine w_istore_n (ls' := [(1, vI 0), (0, vR (10, b, 0))]) dX10_passTenth_22 rfl (by decide) rfl ?_
  have lp16_ : ∀ (nn_23 : Nat) (M_23 : mM) (hI_23 : Inv M_23) (hF_23 : FR (S_c_X10_passTenth b) Mz M_23) (v1_23 : Int32) (hv0_23 : 0 ≤ v1_23.toInt), (2147483648 - v1_23.toInt).toNat < nn_23 → WP CC l G cy ad yX10_passTenth cX10_passTenth 2 none (d + 6) 23 [(1, vI v1_23), (0, vR (10, b, 0))] [] M_23 (fun r M' => Inv M' ∧ FR (S_c_X10_passTenth b) Mz M' ∧ True) := by
    intro nn_23
    induction nn_23 with
    | zero => intro M_23 hI_23 hF_23 v1_23 hv0_23 hm_23; exact absurd hm_23 (Nat.not_lt_zero _)
    | succ nn_23 ih_23 =>
      intro M_23 hI_23 hF_23 v1_23 hv0_23 hm_23
      refine w_iload_n dX10_passTenth_23 rfl 0 rfl ?_
      refine w_aload_n dX10_passTenth_24 rfl 1 rfl ?_
      refine w_getI fl_RX10_50 rfl rfl (ic_10 hb) dX10_passTenth_25 (fun z17_ e18_ => ?_)
      refine w_icmp_ge (tgt := 60) dX10_passTenth_28 (by decide) (rfl : v1_23.toInt = v1_23.toInt) (rfl : z17_.toInt = z17_.toInt) (fun h19_ => ?_) (fun h19_ => ?_)
      · exact w_vret rfl dX10_passTenth_60 ⟨hI_23, hF_23, trivial⟩
      · refine w_iload_n dX10_passTenth_31 rfl 0 rfl ?_
        refine w_bipush (v := 8) dX10_passTenth_32 (by decide) ?_
        refine w_icmp_ge (tgt := 60) dX10_passTenth_34 (by decide) (rfl : v1_23.toInt = v1_23.toInt) li_8 (fun h20_ => ?_) (fun h20_ => ?_)
        · exact w_vret rfl dX10_passTenth_60 ⟨hI_23, hF_23, trivial⟩
        · refine w_aload_n dX10_passTenth_37 rfl 1 rfl ?_
          refine w_getR (c' := (42, b, 0)) fl_RX10_46 rfl rfl (ic_10 hb) dX10_passTenth_38 rfl ?_
          refine w_iload_n dX10_passTenth_41 rfl 0 rfl ?_
          refine w_aald rfl rfl rfl (fun _ => rfl) (ic_42 hb) (rfl : v1_23.toInt = v1_23.toInt) (lf_c_X10_passTenth_0 M4_ M_23 Mz b z1_ z3_ z8_ v1_23 z17_ hb e2_ hM5_ e9_ hv0_23 e18_ h19_ h20_) dX10_passTenth_42 (fun j21_ h22_ h23_ => ?_)
          refine w_getI fl_RX10_144 rfl rfl (ic_9 hb h23_) dX10_passTenth_43 (fun z24_ e25_ => ?_)
          have h26_ : 0 ≤ z24_.toInt ∧ z24_.toInt ≤ 1 := ofEq (P := fun v => 0 ≤ v.toInt ∧ v.toInt ≤ 1) e25_ (hI_23 (9, b, j21_) 6 rfl)
          refine w_if_eq (tgt := 54) dX10_passTenth_46 (by decide) (rfl : z24_.toInt = z24_.toInt) (fun h27_ => ?_) (fun h27_ => ?_)
          · refine w_iincB (j := 0) (f := fun z28_ => [(1, vI z28_), (0, vR (10, b, 0))]) dX10_passTenth_54 rfl (by decide) (fun _ => rfl) (rfl : v1_23.toInt = v1_23.toInt) li_1 (lf_c_X10_passTenth_1 M4_ M_23 Mz b z1_ z3_ z8_ v1_23 z17_ j21_ z24_ hb e2_ hM5_ e9_ hv0_23 e18_ h19_ h20_ h22_ h23_ e25_ h26_ h27_) (fun z28_ h29_ => ?_)
            refine w_goto (tgt := 23) dX10_passTenth_57 (by decide) ?_
            refine w_loc (ls' := [(1, vI z28_), (0, vR (10, b, 0))]) [0, 1] rfl ?_
            exact ih_23 M_23 hI_23 hF_23 z28_ (lf_c_X10_passTenth_2 M4_ M_23 Mz b z1_ z3_ z8_ v1_23 z17_ j21_ z24_ z28_ hb e2_ hM5_ e9_ hv0_23 e18_ h19_ h20_ h22_ h23_ e25_ h26_ h27_ h29_) (Nat.lt_of_lt_of_le (lf_c_X10_passTenth_3 M4_ M_23 Mz b z1_ z3_ z8_ v1_23 z17_ j21_ z24_ z28_ hb e2_ hM5_ e9_ hv0_23 e18_ h19_ h20_ h22_ h23_ e25_ h26_ h27_ h29_) (Nat.le_of_lt_succ hm_23))
          · refine w_aload_n dX10_passTenth_49 rfl 1 rfl ?_
            refine w_iload_n dX10_passTenth_50 rfl 0 rfl ?_
            refine w_callVv (as := [vI v1_23]) (rest := []) (c_X10_letWalkerGo l G cy ad d b v1_23 M_23 hI_23 hb) kV_X10_letWalkerGo (by decide +kernel) (Nat.le_of_ble_eq_true rfl) m_1039 rfl rfl rfl (ic_10 hb) rfl rfl (by decide) (Nat.le_of_ble_eq_true rfl) dX10_passTenth_51 (fun M30_ q31_ => ?_)
            obtain ⟨hI33_, hF34_, h32_⟩ := q31_
            have hF35_ := hF_23.tr hF34_ (fun c k => (fun h => h.elim (fun h => (Or.inr (Or.inr (Or.inr (Or.inr (Or.inl ⟨h.1, h.2.1, h.2.2⟩)))))) (fun h => h.elim (fun h => (Or.inr (Or.inr (Or.inr (Or.inr (Or.inr (Or.inl ⟨h.1, h.2.1, h.2.2⟩))))))) (fun h => h.elim (fun h => (Or.inr (Or.inr (Or.inr (Or.inr (Or.inr (Or.inr (Or.inl ⟨h.1, h.2.1, h.2.2⟩)))))))) (fun h => h.elim (fun h => (Or.inr (Or.inr (Or.inr (Or.inr (Or.inr (Or.inr (Or.inr (Or.inl ⟨h.1, h.2.1, h.2.2⟩))))))))) (fun h => h.elim (fun h => (Or.inr (Or.inr (Or.inr (Or.inr (Or.inr (Or.inr (Or.inr (Or.inr (Or.inl ⟨h.1, h.2.1, h.2.2⟩)))))))))) (fun h => h.elim (fun h => (Or.inr (Or.inr (Or.inr (Or.inr (Or.inr (Or.inr (Or.inr (Or.inr (Or.inr (Or.inl ⟨h.1, h.2.1, h.2.2⟩))))))))))) (fun h => h.elim (fun h => (Or.inr (Or.inr (Or.inr (Or.inr (Or.inr (Or.inr (Or.inr (Or.inr (Or.inr (Or.inr (Or.inl ⟨h.1, h.2.1, h.2.2⟩)))))))))))) (fun h => h.elim (fun h => (Or.inr (Or.inl ⟨h.1, h.2⟩))) (fun h => h.elim (fun h => (Or.inr (Or.inr (Or.inr (Or.inr (Or.inr (Or.inr (Or.inr (Or.inr (Or.inr (Or.inr (Or.inr (Or.inl ⟨h.1, h.2.1, h.2.2⟩))))))))))))) (fun h => h.elim (fun h => (Or.inr (Or.inr (Or.inr (Or.inr (Or.inr (Or.inr (Or.inr (Or.inr (Or.inr (Or.inr (Or.inr (Or.inr (Or.inl ⟨h.1, h.2.1, h.2.2⟩)))))))))))))) (fun h => h.elim (fun h => (Or.inr (Or.inr (Or.inr (Or.inr (Or.inr (Or.inr (Or.inr (Or.inr (Or.inr (Or.inr (Or.inr (Or.inr (Or.inr (Or.inl ⟨h.1, h.2⟩))))))))))))))) (fun h => h.elim (fun h => (Or.inr (Or.inr (Or.inr (Or.inr (Or.inr (Or.inr (Or.inr (Or.inr (Or.inr (Or.inr (Or.inr (Or.inr (Or.inr (Or.inr (Or.inl ⟨h.1, h.2.1, h.2.2⟩)))))))))))))))) (fun h => h.elim (fun h => (Or.inr (Or.inr (Or.inr (Or.inr (Or.inr (Or.inr (Or.inr (Or.inr (Or.inr (Or.inr (Or.inr (Or.inr (Or.inr (Or.inr (Or.inr (Or.inl ⟨h.1, h.2.1, h.2.2⟩))))))))))))))))) (fun h => h.elim (fun h => (Or.inr (Or.inr (Or.inr (Or.inr (Or.inr (Or.inr (Or.inr (Or.inr (Or.inr (Or.inr (Or.inr (Or.inr (Or.inr (Or.inr (Or.inr (Or.inr (Or.inl ⟨h.1, h.2.1, h.2.2⟩)))))))))))))))))) (fun h => h.elim (fun h => (Or.inr (Or.inr (Or.inr (Or.inr (Or.inr (Or.inr (Or.inr (Or.inr (Or.inr (Or.inr (Or.inr (Or.inr (Or.inr (Or.inr (Or.inr (Or.inr (Or.inr (Or.inl ⟨h.1, h.2⟩))))))))))))))))))) (fun h => h.elim)))))))))))))))))
            refine w_iincB (j := 0) (f := fun z36_ => [(1, vI z36_), (0, vR (10, b, 0))]) dX10_passTenth_54 rfl (by decide) (fun _ => rfl) (rfl : v1_23.toInt = v1_23.toInt) li_1 (lf_c_X10_passTenth_4 M4_ M_23 Mz b z1_ z3_ z8_ v1_23 z17_ j21_ z24_ hb e2_ hM5_ e9_ hv0_23 e18_ h19_ h20_ h22_ h23_ e25_ h26_ h27_) (fun z36_ h37_ => ?_)
            refine w_goto (tgt := 23) dX10_passTenth_57 (by decide) ?_
            refine w_loc (ls' := [(1, vI z36_), (0, vR (10, b, 0))]) [0, 1] rfl ?_
            exact ih_23 M30_ hI33_ hF35_ z36_ (lf_c_X10_passTenth_5 M4_ M_23 Mz b z1_ z3_ z8_ v1_23 z17_ j21_ z24_ z36_ hb e2_ hM5_ e9_ hv0_23 e18_ h19_ h20_ h22_ h23_ e25_ h26_ h27_ h37_) (Nat.lt_of_lt_of_le (lf_c_X10_passTenth_6 M4_ M_23 Mz b z1_ z3_ z8_ v1_23 z17_ j21_ z24_ z36_ hb e2_ hM5_ e9_ hv0_23 e18_ h19_ h20_ h22_ h23_ e25_ h26_ h27_ h37_) (Nat.le_of_lt_succ hm_23))
  exact lp16_ _ M10_ hI13_ hF15_ 0 (lf_c_X10_passTenth_7 ) (Nat.lt_succ_self _)
def S_c_X10_takeFrom (b : Nat) (b2 : Nat) : rf → Nat → Prop := fun c k => (c.1 = 35 ∧ c.2.1 = b) ∨ (c.1 = 36 ∧ c.2.1 = b) ∨ (c.1 = 37 ∧ c.2.1 = b) ∨ (c.1 = 38 ∧ c.2.1 = b) ∨ (c.1 = 39 ∧ c.2.1 = b) ∨ (c.1 = 7 ∧ c.2.1 = b ∧ k = 5) ∨ (c.1 = 2 ∧ c.2.1 = b ∧ k = 0) ∨ (c.1 = 2 ∧ c.2.1 = b ∧ k = 1) ∨ (c.1 = 2 ∧ c.2.1 = b ∧ k = 2) ∨ (c.1 = 26 ∧ c.2.1 = b) ∨ (c.1 = 27 ∧ c.2.1 = b) ∨ (c.1 = 1 ∧ c.2.1 = b ∧ k = 2) ∨ (c.1 = 24 ∧ c.2.1 = b) ∨ (c.1 = 30 ∧ c.2.1 = b) ∨ (c.1 = 31 ∧ c.2.1 = b) ∨ (c.1 = 32 ∧ c.2.1 = b) ∨ (c.1 = 3 ∧ c.2.1 = b ∧ k = 3) ∨ (c.1 = 5 ∧ c.2.1 = b ∧ c.2.2 = 0 ∧ k = 1) ∨ (c.1 = 33 ∧ c.2.1 = b ∧ c.2.2 = 0) ∨ (c.1 = 5 ∧ c.2.1 = b ∧ c.2.2 = 1 ∧ k = 1) ∨ (c.1 = 33 ∧ c.2.1 = b ∧ c.2.2 = 1) ∨ (c.1 = 10 ∧ c.2.1 = b ∧ k = 6) ∨ (c.1 = 10 ∧ c.2.1 = b ∧ k = 7) ∨ (c.1 = 9 ∧ c.2.1 = b ∧ k = 0) ∨ (c.1 = 9 ∧ c.2.1 = b ∧ k = 1) ∨ (c.1 = 9 ∧ c.2.1 = b ∧ k = 2) ∨ (c.1 = 9 ∧ c.2.1 = b ∧ k = 3) ∨ (c.1 = 9 ∧ c.2.1 = b ∧ k = 4) ∨ (c.1 = 9 ∧ c.2.1 = b ∧ k = 5) ∨ (c.1 = 9 ∧ c.2.1 = b ∧ k = 6) ∨ (c.1 = 9 ∧ c.2.1 = b ∧ k = 7) ∨ (c.1 = 9 ∧ c.2.1 = b ∧ k = 8) ∨ (c.1 = 40 ∧ c.2.1 = b) ∨ (c.1 = 41 ∧ c.2.1 = b) ∨ False
theorem lf_c_X10_takeFrom_0  (b : Nat) (hb : b < 3) : vRw b 0 := by unfold vRw; omega
theorem lf_c_X10_takeFrom_1  (b2 : Nat) (hb2 : b2 < 3) : vRw b2 0 := by unfold vRw; omega
theorem lf_c_X10_takeFrom_2  (b : Nat) (hb : b < 3) : vRw b 0 := by unfold vRw; omega
theorem lf_c_X10_takeFrom_3  (b : Nat) (hb : b < 3) : vRw b 1 := by unfold vRw; omega
theorem lf_c_X10_takeFrom_4  (b2 : Nat) (hb2 : b2 < 3) : vRw b2 1 := by unfold vRw; omega
theorem lf_c_X10_takeFrom_5  (b : Nat) (hb : b < 3) : vRw b 1 := by unfold vRw; omega
theorem lf_c_X10_takeFrom_6 (M25_ : mM) (M33_ : mM) (M39_ : mM) (M_73 : mM) (b : Nat) (b2 : Nat) (z31_ : Int32) (z37_ : Int32) (v2_73 : Int32) (z44_ : Int32) (hb : b < 3) (hb2 : b2 < 3) (e32_ : z31_ = M25_.1 (10, b2, 0) 6) (hM34_ : M33_ = up M25_ (10, b, 0) 6 z31_) (e38_ : z37_ = M33_.1 (10, b2, 0) 7) (hM40_ : M39_ = up M33_ (10, b, 0) 7 z37_) (hv0_73 : 0 ≤ v2_73.toInt) (e45_ : z44_ = M_73.1 (10, b, 0) 6) (h46_ : v2_73.toInt < z44_.toInt) (h47_ : v2_73.toInt < 8) : 0 ≤ v2_73.toInt ∧ v2_73.toInt < ((8 : Nat) : Int) := by have r_z31_ := rngI z31_; have r_z37_ := rngI z37_; have r_v2_73 := rngI v2_73; have r_z44_ := rngI z44_; subst e32_; subst e38_; subst e45_; omega
theorem lf_c_X10_takeFrom_7 (M25_ : mM) (M33_ : mM) (M39_ : mM) (M_73 : mM) (b : Nat) (b2 : Nat) (z31_ : Int32) (z37_ : Int32) (v2_73 : Int32) (z44_ : Int32) (j48_ : Nat) (hb : b < 3) (hb2 : b2 < 3) (e32_ : z31_ = M25_.1 (10, b2, 0) 6) (hM34_ : M33_ = up M25_ (10, b, 0) 6 z31_) (e38_ : z37_ = M33_.1 (10, b2, 0) 7) (hM40_ : M39_ = up M33_ (10, b, 0) 7 z37_) (hv0_73 : 0 ≤ v2_73.toInt) (e45_ : z44_ = M_73.1 (10, b, 0) 6) (h46_ : v2_73.toInt < z44_.toInt) (h47_ : v2_73.toInt < 8) (h49_ : (j48_ : Int) = v2_73.toInt) (h50_ : j48_ < 8) : 0 ≤ v2_73.toInt ∧ v2_73.toInt < ((8 : Nat) : Int) := by have r_z31_ := rngI z31_; have r_z37_ := rngI z37_; have r_v2_73 := rngI v2_73; have r_z44_ := rngI z44_; subst e32_; subst e38_; subst e45_; omega
theorem lf_c_X10_takeFrom_8 (M25_ : mM) (M33_ : mM) (M39_ : mM) (M_73 : mM) (b : Nat) (b2 : Nat) (z31_ : Int32) (z37_ : Int32) (v2_73 : Int32) (z44_ : Int32) (j48_ : Nat) (j51_ : Nat) (hb : b < 3) (hb2 : b2 < 3) (e32_ : z31_ = M25_.1 (10, b2, 0) 6) (hM34_ : M33_ = up M25_ (10, b, 0) 6 z31_) (e38_ : z37_ = M33_.1 (10, b2, 0) 7) (hM40_ : M39_ = up M33_ (10, b, 0) 7 z37_) (hv0_73 : 0 ≤ v2_73.toInt) (e45_ : z44_ = M_73.1 (10, b, 0) 6) (h46_ : v2_73.toInt < z44_.toInt) (h47_ : v2_73.toInt < 8) (h49_ : (j48_ : Int) = v2_73.toInt) (h50_ : j48_ < 8) (h52_ : (j51_ : Int) = v2_73.toInt) (h53_ : j51_ < 8) : -2147483648 ≤ v2_73.toInt + 1 ∧ v2_73.toInt + 1 < 2147483648 := by have r_z31_ := rngI z31_; have r_z37_ := rngI z37_; have r_v2_73 := rngI v2_73; have r_z44_ := rngI z44_; subst e32_; subst e38_; subst e45_; omega
theorem lf_c_X10_takeFrom_9 (M25_ : mM) (M33_ : mM) (M39_ : mM) (M_73 : mM) (b : Nat) (b2 : Nat) (z31_ : Int32) (z37_ : Int32) (v2_73 : Int32) (z44_ : Int32) (j48_ : Nat) (j51_ : Nat) (z60_ : Int32) (hb : b < 3) (hb2 : b2 < 3) (e32_ : z31_ = M25_.1 (10, b2, 0) 6) (hM34_ : M33_ = up M25_ (10, b, 0) 6 z31_) (e38_ : z37_ = M33_.1 (10, b2, 0) 7) (hM40_ : M39_ = up M33_ (10, b, 0) 7 z37_) (hv0_73 : 0 ≤ v2_73.toInt) (e45_ : z44_ = M_73.1 (10, b, 0) 6) (h46_ : v2_73.toInt < z44_.toInt) (h47_ : v2_73.toInt < 8) (h49_ : (j48_ : Int) = v2_73.toInt) (h50_ : j48_ < 8) (h52_ : (j51_ : Int) = v2_73.toInt) (h53_ : j51_ < 8) (h61_ : z60_.toInt = v2_73.toInt + 1) : 0 ≤ z60_.toInt := by have r_z31_ := rngI z31_; have r_z37_ := rngI z37_; have r_v2_73 := rngI v2_73; have r_z44_ := rngI z44_; have r_z60_ := rngI z60_; omega
theorem lf_c_X10_takeFrom_10 (M25_ : mM) (M33_ : mM) (M39_ : mM) (M_73 : mM) (b : Nat) (b2 : Nat) (z31_ : Int32) (z37_ : Int32) (v2_73 : Int32) (z44_ : Int32) (j48_ : Nat) (j51_ : Nat) (z60_ : Int32) (hb : b < 3) (hb2 : b2 < 3) (e32_ : z31_ = M25_.1 (10, b2, 0) 6) (hM34_ : M33_ = up M25_ (10, b, 0) 6 z31_) (e38_ : z37_ = M33_.1 (10, b2, 0) 7) (hM40_ : M39_ = up M33_ (10, b, 0) 7 z37_) (hv0_73 : 0 ≤ v2_73.toInt) (e45_ : z44_ = M_73.1 (10, b, 0) 6) (h46_ : v2_73.toInt < z44_.toInt) (h47_ : v2_73.toInt < 8) (h49_ : (j48_ : Int) = v2_73.toInt) (h50_ : j48_ < 8) (h52_ : (j51_ : Int) = v2_73.toInt) (h53_ : j51_ < 8) (h61_ : z60_.toInt = v2_73.toInt + 1) : (2147483648 - z60_.toInt).toNat < (2147483648 - v2_73.toInt).toNat := by have r_z31_ := rngI z31_; have r_z37_ := rngI z37_; have r_v2_73 := rngI v2_73; have r_z44_ := rngI z44_; have r_z60_ := rngI z60_; omega
theorem lf_c_X10_takeFrom_11    : 0 ≤ (0 : Int32).toInt := by have q0 := li_0; omega
set_option maxHeartbeats 4000000 in
set_option maxRecDepth 100000 in
theorem c_X10_takeFrom (l : Launch) (G : va_G) (cy : Nat → ClassId) (ad : rf → Nat) (d : Nat) (b : Nat) (b2 : Nat) (Mz : mM) (hIz : Inv Mz) (hb : b < 3) (hb2 : b2 < 3) : WP CC l G cy ad yX10_takeFrom cX10_takeFrom 3 none (d + 3) 0 [(0, vR (10, b, 0)), (1, vR (10, b2, 0))] [] Mz (fun r M' => Inv M' ∧ FR (S_c_X10_takeFrom b b2) Mz M' ∧ True) := by
  have hFz : FR (S_c_X10_takeFrom b b2) Mz Mz := FR.self
  refine w_aload_n dX10_takeFrom_0 rfl 0 rfl ?_
  refine w_getR (c' := (7, b, 0)) fl_RX10_10 rfl rfl (ic_10 hb) dX10_takeFrom_1 rfl ?_
  refine w_aload_n dX10_takeFrom_4 rfl 1 rfl ?_
  refine w_getR (c' := (7, b2, 0)) fl_RX10_10 rfl rfl (ic_10 hb2) dX10_takeFrom_5 rfl ?_
  refine w_callVv (as := [vR (7, b2, 0)]) (rest := []) (c_X7_takeFrom l G cy ad (d + 1) b b2 Mz hIz hb hb2) kV_X7_takeFrom (by decide +kernel) (Nat.le_of_ble_eq_true rfl) m_1258 rfl rfl rfl (ic_7 hb) rfl rfl (by decide) (Nat.le_of_ble_eq_true rfl) dX10_takeFrom_8 (fun M1_ q2_ => ?_)
  obtain ⟨hI4_, hF5_, h3_⟩ := q2_
  have hF6_ := hFz.tr hF5_ (fun c k => (fun h => h.elim (fun h => (Or.inl ⟨h.1, h.2⟩)) (fun h => h.elim (fun h => (Or.inr (Or.inl ⟨h.1, h.2⟩))) (fun h => h.elim (fun h => (Or.inr (Or.inr (Or.inl ⟨h.1, h.2⟩)))) (fun h => h.elim (fun h => (Or.inr (Or.inr (Or.inr (Or.inl ⟨h.1, h.2⟩))))) (fun h => h.elim (fun h => (Or.inr (Or.inr (Or.inr (Or.inr (Or.inl ⟨h.1, h.2⟩)))))) (fun h => h.elim (fun h => (Or.inr (Or.inr (Or.inr (Or.inr (Or.inr (Or.inl ⟨h.1, h.2.1, h.2.2⟩))))))) (fun h => h.elim))))))))
  refine w_aload_n dX10_takeFrom_11 rfl 0 rfl ?_
  refine w_getR (c' := (2, b, 0)) fl_RX10_19 rfl rfl (ic_10 hb) dX10_takeFrom_12 rfl ?_
  refine w_aload_n dX10_takeFrom_15 rfl 1 rfl ?_
  refine w_getR (c' := (2, b2, 0)) fl_RX10_19 rfl rfl (ic_10 hb2) dX10_takeFrom_16 rfl ?_
  refine w_callVv (as := [vR (2, b2, 0)]) (rest := []) (c_X2_takeFrom l G cy ad d b b2 M1_ hI4_ hb hb2) kV_X2_takeFrom (by decide +kernel) (Nat.le_of_ble_eq_true rfl) m_1263 rfl rfl rfl (ic_2 hb) rfl rfl (by decide) (Nat.le_of_ble_eq_true rfl) dX10_takeFrom_19 (fun M7_ q8_ => ?_)
  obtain ⟨hI10_, hF11_, h9_⟩ := q8_
  have hF12_ := hF6_.tr hF11_ (fun c k => (fun h => h.elim (fun h => (Or.inr (Or.inr (Or.inr (Or.inr (Or.inr (Or.inr (Or.inl ⟨h.1, h.2.1, h.2.2⟩)))))))) (fun h => h.elim (fun h => (Or.inr (Or.inr (Or.inr (Or.inr (Or.inr (Or.inr (Or.inr (Or.inl ⟨h.1, h.2.1, h.2.2⟩))))))))) (fun h => h.elim (fun h => (Or.inr (Or.inr (Or.inr (Or.inr (Or.inr (Or.inr (Or.inr (Or.inr (Or.inl ⟨h.1, h.2.1, h.2.2⟩)))))))))) (fun h => h.elim (fun h => (Or.inr (Or.inr (Or.inr (Or.inr (Or.inr (Or.inr (Or.inr (Or.inr (Or.inr (Or.inl ⟨h.1, h.2⟩))))))))))) (fun h => h.elim (fun h => (Or.inr (Or.inr (Or.inr (Or.inr (Or.inr (Or.inr (Or.inr (Or.inr (Or.inr (Or.inr (Or.inl ⟨h.1, h.2⟩)))))))))))) (fun h => h.elim (fun h => (Or.inr (Or.inr (Or.inr (Or.inr (Or.inr (Or.inr (Or.inr (Or.inr (Or.inr (Or.inr (Or.inr (Or.inl ⟨h.1, h.2.1, h.2.2⟩))))))))))))) (fun h => h.elim (fun h => (Or.inr (Or.inr (Or.inr (Or.inr (Or.inr (Or.inr (Or.inr (Or.inr (Or.inr (Or.inr (Or.inr (Or.inr (Or.inl ⟨h.1, h.2⟩)))))))))))))) (fun h => h.elim)))))))))
  refine w_aload_n dX10_takeFrom_22 rfl 0 rfl ?_
  refine w_getR (c' := (3, b, 0)) fl_RX10_26 rfl rfl (ic_10 hb) dX10_takeFrom_23 rfl ?_
  refine w_aload_n dX10_takeFrom_26 rfl 1 rfl ?_
  refine w_getR (c' := (3, b2, 0)) fl_RX10_26 rfl rfl (ic_10 hb2) dX10_takeFrom_27 rfl ?_
  refine w_callVv (as := [vR (3, b2, 0)]) (rest := []) (c_X3_takeFrom l G cy ad (d + 1) b b2 M7_ hI10_ hb hb2) kV_X3_takeFrom (by decide +kernel) (Nat.le_of_ble_eq_true rfl) m_1269 rfl rfl rfl (ic_3 hb) rfl rfl (by decide) (Nat.le_of_ble_eq_true rfl) dX10_takeFrom_30 (fun M13_ q14_ => ?_)
  obtain ⟨hI16_, hF17_, h15_⟩ := q14_
  have hF18_ := hF12_.tr hF17_ (fun c k => (fun h => h.elim (fun h => (Or.inr (Or.inr (Or.inr (Or.inr (Or.inr (Or.inr (Or.inr (Or.inr (Or.inr (Or.inr (Or.inr (Or.inr (Or.inr (Or.inl ⟨h.1, h.2⟩))))))))))))))) (fun h => h.elim (fun h => (Or.inr (Or.inr (Or.inr (Or.inr (Or.inr (Or.inr (Or.inr (Or.inr (Or.inr (Or.inr (Or.inr (Or.inr (Or.inr (Or.inr (Or.inl ⟨h.1, h.2⟩)))))))))))))))) (fun h => h.elim (fun h => (Or.inr (Or.inr (Or.inr (Or.inr (Or.inr (Or.inr (Or.inr (Or.inr (Or.inr (Or.inr (Or.inr (Or.inr (Or.inr (Or.inr (Or.inr (Or.inl ⟨h.1, h.2⟩))))))))))))))))) (fun h => h.elim (fun h => (Or.inr (Or.inr (Or.inr (Or.inr (Or.inr (Or.inr (Or.inr (Or.inr (Or.inr (Or.inr (Or.inr (Or.inr (Or.inr (Or.inr (Or.inr (Or.inr (Or.inl ⟨h.1, h.2.1, h.2.2⟩)))))))))))))))))) (fun h => h.elim))))))
  refine w_aload_n dX10_takeFrom_33 rfl 0 rfl ?_
  refine w_getR (c' := (5, b, 0)) fl_RX10_37 rfl rfl (ic_10 hb) dX10_takeFrom_34 rfl ?_
  refine w_aload_n dX10_takeFrom_37 rfl 1 rfl ?_
  refine w_getR (c' := (5, b2, 0)) fl_RX10_37 rfl rfl (ic_10 hb2) dX10_takeFrom_38 rfl ?_
  refine w_callVv (as := [vR (5, b2, 0)]) (rest := []) (c_X5_takeFrom l G cy ad (d + 1) b 0 b2 0 M13_ hI16_ (lf_c_X10_takeFrom_0 b hb) (lf_c_X10_takeFrom_1 b2 hb2)) kV_X5_takeFrom (by decide +kernel) (Nat.le_of_ble_eq_true rfl) m_1274 rfl rfl rfl (ic_5 (lf_c_X10_takeFrom_2 b hb)) rfl rfl (by decide) (Nat.le_of_ble_eq_true rfl) dX10_takeFrom_41 (fun M19_ q20_ => ?_)
  obtain ⟨hI22_, hF23_, h21_⟩ := q20_
  have hF24_ := hF18_.tr hF23_ (fun c k => (fun h => h.elim (fun h => (Or.inr (Or.inr (Or.inr (Or.inr (Or.inr (Or.inr (Or.inr (Or.inr (Or.inr (Or.inr (Or.inr (Or.inr (Or.inr (Or.inr (Or.inr (Or.inr (Or.inr (Or.inl ⟨h.1, h.2.1, h.2.2.1, h.2.2.2⟩))))))))))))))))))) (fun h => h.elim (fun h => (Or.inr (Or.inr (Or.inr (Or.inr (Or.inr (Or.inr (Or.inr (Or.inr (Or.inr (Or.inr (Or.inr (Or.inr (Or.inr (Or.inr (Or.inr (Or.inr (Or.inr (Or.inr (Or.inl ⟨h.1, h.2.1, h.2.2⟩)))))))))))))))))))) (fun h => h.elim))))
  refine w_aload_n dX10_takeFrom_44 rfl 0 rfl ?_
  refine w_getR (c' := (5, b, 1)) fl_RX10_41 rfl rfl (ic_10 hb) dX10_takeFrom_45 rfl ?_
  refine w_aload_n dX10_takeFrom_48 rfl 1 rfl ?_
  refine w_getR (c' := (5, b2, 1)) fl_RX10_41 rfl rfl (ic_10 hb2) dX10_takeFrom_49 rfl ?_
  refine w_callVv (as := [vR (5, b2, 1)]) (rest := []) (c_X5_takeFrom l G cy ad (d + 1) b 1 b2 1 M19_ hI22_ (lf_c_X10_takeFrom_3 b hb) (lf_c_X10_takeFrom_4 b2 hb2)) kV_X5_takeFrom (by decide +kernel) (Nat.le_of_ble_eq_true rfl) m_1274 rfl rfl rfl (ic_5 (lf_c_X10_takeFrom_5 b hb)) rfl rfl (by decide) (Nat.le_of_ble_eq_true rfl) dX10_takeFrom_52 (fun M25_ q26_ => ?_)
  obtain ⟨hI28_, hF29_, h27_⟩ := q26_
  have hF30_ := hF24_.tr hF29_ (fun c k => (fun h => h.elim (fun h => (Or.inr (Or.inr (Or.inr (Or.inr (Or.inr (Or.inr (Or.inr (Or.inr (Or.inr (Or.inr (Or.inr (Or.inr (Or.inr (Or.inr (Or.inr (Or.inr (Or.inr (Or.inr (Or.inr (Or.inl ⟨h.1, h.2.1, h.2.2.1, h.2.2.2⟩))))))))))))))))))))) (fun h => h.elim (fun h => (Or.inr (Or.inr (Or.inr (Or.inr (Or.inr (Or.inr (Or.inr (Or.inr (Or.inr (Or.inr (Or.inr (Or.inr (Or.inr (Or.inr (Or.inr (Or.inr (Or.inr (Or.inr (Or.inr (Or.inr (Or.inl ⟨h.1, h.2.1, h.2.2⟩)))))))))))))))))))))) (fun h => h.elim))))
  refine w_aload_n dX10_takeFrom_55 rfl 0 rfl ?_
  refine w_aload_n dX10_takeFrom_56 rfl 1 rfl ?_
  refine w_getI fl_RX10_50 rfl rfl (ic_10 hb2) dX10_takeFrom_57 (fun z31_ e32_ => ?_)
  refine w_putI CC_nd fl_RX10_50 rfl rfl (ic_10 hb) dX10_takeFrom_60 (fun M33_ hM34_ => ?_)
  have hI35_ := hI28_.put hM34_ trivial
  have hF36_ := hF30_.put hM34_ (Or.inr (Or.inr (Or.inr (Or.inr (Or.inr (Or.inr (Or.inr (Or.inr (Or.inr (Or.inr (Or.inr (Or.inr (Or.inr (Or.inr (Or.inr (Or.inr (Or.inr (Or.inr (Or.inr (Or.inr (Or.inr (Or.inl ⟨rfl, rfl, rfl⟩))))))))))))))))))))))
  refine w_aload_n dX10_takeFrom_63 rfl 0 rfl ?_
  refine w_aload_n dX10_takeFrom_64 rfl 1 rfl ?_
  refine w_getI fl_RX10_54 rfl rfl (ic_10 hb2) dX10_takeFrom_65 (fun z37_ e38_ => ?_)
  refine w_putI CC_nd fl_RX10_54 rfl rfl (ic_10 hb) dX10_takeFrom_68 (fun M39_ hM40_ => ?_)
  have hI41_ := hI35_.put hM40_ trivial
  have hF42_ := hF36_.put hM40_ (Or.inr (Or.inr (Or.inr (Or.inr (Or.inr (Or.inr (Or.inr (Or.inr (Or.inr (Or.inr (Or.inr (Or.inr (Or.inr (Or.inr (Or.inr (Or.inr (Or.inr (Or.inr (Or.inr (Or.inr (Or.inr (Or.inr (Or.inl ⟨rfl, rfl, rfl⟩)))))))))))))))))))))))
  refine w_iconst (v := 0) dX10_takeFrom_71 (by decide) ?_
  refine w_istore_n (ls' := [(2, vI 0), (0, vR (10, b, 0)), (1, vR (10, b2, 0))]) dX10_takeFrom_72 rfl (by decide) rfl ?_
  have lp43_ : ∀ (nn_73 : Nat) (M_73 : mM) (hI_73 : Inv M_73) (hF_73 : FR (S_c_X10_takeFrom b b2) Mz M_73) (v2_73 : Int32) (hv0_73 : 0 ≤ v2_73.toInt), (2147483648 - v2_73.toInt).toNat < nn_73 → WP CC l G cy ad yX10_takeFrom cX10_takeFrom 3 none (d + 3) 73 [(2, vI v2_73), (0, vR (10, b, 0)), (1, vR (10, b2, 0))] [] M_73 (fun r M' => Inv M' ∧ FR (S_c_X10_takeFrom b b2) Mz M' ∧ True) := by
    intro nn_73
    induction nn_73 with
    | zero => intro M_73 hI_73 hF_73 v2_73 hv0_73 hm_73; exact absurd hm_73 (Nat.not_lt_zero _)
    | succ nn_73 ih_73 =>
      intro M_73 hI_73 hF_73 v2_73 hv0_73 hm_73
      refine w_iload_n dX10_takeFrom_73 rfl 0 rfl ?_
      refine w_aload_n dX10_takeFrom_74 rfl 1 rfl ?_
      refine w_getI fl_RX10_50 rfl rfl (ic_10 hb) dX10_takeFrom_75 (fun z44_ e45_ => ?_)
      refine w_icmp_ge (tgt := 108) dX10_takeFrom_78 (by decide) (rfl : v2_73.toInt = v2_73.toInt) (rfl : z44_.toInt = z44_.toInt) (fun h46_ => ?_) (fun h46_ => ?_)
      · exact w_vret rfl dX10_takeFrom_108 ⟨hI_73, hF_73, trivial⟩
      · refine w_iload_n dX10_takeFrom_81 rfl 0 rfl ?_
        refine w_bipush (v := 8) dX10_takeFrom_82 (by decide) ?_
        refine w_icmp_ge (tgt := 108) dX10_takeFrom_84 (by decide) (rfl : v2_73.toInt = v2_73.toInt) li_8 (fun h47_ => ?_) (fun h47_ => ?_)
        · exact w_vret rfl dX10_takeFrom_108 ⟨hI_73, hF_73, trivial⟩
        · refine w_aload_n dX10_takeFrom_87 rfl 1 rfl ?_
          refine w_getR (c' := (42, b, 0)) fl_RX10_46 rfl rfl (ic_10 hb) dX10_takeFrom_88 rfl ?_
          refine w_iload_n dX10_takeFrom_91 rfl 0 rfl ?_
          refine w_aald rfl rfl rfl (fun _ => rfl) (ic_42 hb) (rfl : v2_73.toInt = v2_73.toInt) (lf_c_X10_takeFrom_6 M25_ M33_ M39_ M_73 b b2 z31_ z37_ v2_73 z44_ hb hb2 e32_ hM34_ e38_ hM40_ hv0_73 e45_ h46_ h47_) dX10_takeFrom_92 (fun j48_ h49_ h50_ => ?_)
          refine w_aload_n dX10_takeFrom_93 rfl 2 rfl ?_
          refine w_getR (c' := (42, b2, 0)) fl_RX10_46 rfl rfl (ic_10 hb2) dX10_takeFrom_94 rfl ?_
          refine w_iload_n dX10_takeFrom_97 rfl 0 rfl ?_
          refine w_aald rfl rfl rfl (fun _ => rfl) (ic_42 hb2) (rfl : v2_73.toInt = v2_73.toInt) (lf_c_X10_takeFrom_7 M25_ M33_ M39_ M_73 b b2 z31_ z37_ v2_73 z44_ j48_ hb hb2 e32_ hM34_ e38_ hM40_ hv0_73 e45_ h46_ h47_ h49_ h50_) dX10_takeFrom_98 (fun j51_ h52_ h53_ => ?_)
          refine w_callVv (as := [vR (9, b2, j51_)]) (rest := []) (c_X9_takeFrom l G cy ad (d + 1) b j48_ b2 j51_ M_73 hI_73 hb h50_ hb2 h53_) kV_X9_takeFrom (by decide +kernel) (Nat.le_of_ble_eq_true rfl) m_1275 rfl rfl rfl (ic_9 hb h50_) rfl rfl (by decide) (Nat.le_of_ble_eq_true rfl) dX10_takeFrom_99 (fun M54_ q55_ => ?_)
          obtain ⟨hI57_, hF58_, h56_⟩ := q55_
          have hF59_ := hF_73.tr hF58_ (fun c k => (fun h => h.elim (fun h => (Or.inr (Or.inr (Or.inr (Or.inr (Or.inr (Or.inr (Or.inr (Or.inr (Or.inr (Or.inr (Or.inr (Or.inr (Or.inr (Or.inr (Or.inr (Or.inr (Or.inr (Or.inr (Or.inr (Or.inr (Or.inr (Or.inr (Or.inr (Or.inl ⟨h.1, h.2.1, h.2.2.2⟩))))))))))))))))))))))))) (fun h => h.elim (fun h => (Or.inr (Or.inr (Or.inr (Or.inr (Or.inr (Or.inr (Or.inr (Or.inr (Or.inr (Or.inr (Or.inr (Or.inr (Or.inr (Or.inr (Or.inr (Or.inr (Or.inr (Or.inr (Or.inr (Or.inr (Or.inr (Or.inr (Or.inr (Or.inr (Or.inl ⟨h.1, h.2.1, h.2.2.2⟩)))))))))))))))))))))))))) (fun h => h.elim (fun h => (Or.inr (Or.inr (Or.inr (Or.inr (Or.inr (Or.inr (Or.inr (Or.inr (Or.inr (Or.inr (Or.inr (Or.inr (Or.inr (Or.inr (Or.inr (Or.inr (Or.inr (Or.inr (Or.inr (Or.inr (Or.inr (Or.inr (Or.inr (Or.inr (Or.inr (Or.inl ⟨h.1, h.2.1, h.2.2.2⟩))))))))))))))))))))))))))) (fun h => h.elim (fun h => (Or.inr (Or.inr (Or.inr (Or.inr (Or.inr (Or.inr (Or.inr (Or.inr (Or.inr (Or.inr (Or.inr (Or.inr (Or.inr (Or.inr (Or.inr (Or.inr (Or.inr (Or.inr (Or.inr (Or.inr (Or.inr (Or.inr (Or.inr (Or.inr (Or.inr (Or.inr (Or.inl ⟨h.1, h.2.1, h.2.2.2⟩)))))))))))))))))))))))))))) (fun h => h.elim (fun h => (Or.inr (Or.inr (Or.inr (Or.inr (Or.inr (Or.inr (Or.inr (Or.inr (Or.inr (Or.inr (Or.inr (Or.inr (Or.inr (Or.inr (Or.inr (Or.inr (Or.inr (Or.inr (Or.inr (Or.inr (Or.inr (Or.inr (Or.inr (Or.inr (Or.inr (Or.inr (Or.inr (Or.inl ⟨h.1, h.2.1, h.2.2.2⟩))))))))))))))))))))))))))))) (fun h => h.elim (fun h => (Or.inr (Or.inr (Or.inr (Or.inr (Or.inr (Or.inr (Or.inr (Or.inr (Or.inr (Or.inr (Or.inr (Or.inr (Or.inr (Or.inr (Or.inr (Or.inr (Or.inr (Or.inr (Or.inr (Or.inr (Or.inr (Or.inr (Or.inr (Or.inr (Or.inr (Or.inr (Or.inr (Or.inr (Or.inl ⟨h.1, h.2.1, h.2.2.2⟩)))))))))))))))))))))))))))))) (fun h => h.elim (fun h => (Or.inr (Or.inr (Or.inr (Or.inr (Or.inr (Or.inr (Or.inr (Or.inr (Or.inr (Or.inr (Or.inr (Or.inr (Or.inr (Or.inr (Or.inr (Or.inr (Or.inr (Or.inr (Or.inr (Or.inr (Or.inr (Or.inr (Or.inr (Or.inr (Or.inr (Or.inr (Or.inr (Or.inr (Or.inr (Or.inl ⟨h.1, h.2.1, h.2.2.2⟩))))))))))))))))))))))))))))))) (fun h => h.elim (fun h => (Or.inr (Or.inr (Or.inr (Or.inr (Or.inr (Or.inr (Or.inr (Or.inr (Or.inr (Or.inr (Or.inr (Or.inr (Or.inr (Or.inr (Or.inr (Or.inr (Or.inr (Or.inr (Or.inr (Or.inr (Or.inr (Or.inr (Or.inr (Or.inr (Or.inr (Or.inr (Or.inr (Or.inr (Or.inr (Or.inr (Or.inl ⟨h.1, h.2.1, h.2.2.2⟩)))))))))))))))))))))))))))))))) (fun h => h.elim (fun h => (Or.inr (Or.inr (Or.inr (Or.inr (Or.inr (Or.inr (Or.inr (Or.inr (Or.inr (Or.inr (Or.inr (Or.inr (Or.inr (Or.inr (Or.inr (Or.inr (Or.inr (Or.inr (Or.inr (Or.inr (Or.inr (Or.inr (Or.inr (Or.inr (Or.inr (Or.inr (Or.inr (Or.inr (Or.inr (Or.inr (Or.inr (Or.inl ⟨h.1, h.2.1, h.2.2.2⟩))))))))))))))))))))))))))))))))) (fun h => h.elim (fun h => (Or.inr (Or.inr (Or.inr (Or.inr (Or.inr (Or.inr (Or.inr (Or.inr (Or.inr (Or.inr (Or.inr (Or.inr (Or.inr (Or.inr (Or.inr (Or.inr (Or.inr (Or.inr (Or.inr (Or.inr (Or.inr (Or.inr (Or.inr (Or.inr (Or.inr (Or.inr (Or.inr (Or.inr (Or.inr (Or.inr (Or.inr (Or.inr (Or.inl ⟨h.1, h.2.1⟩)))))))))))))))))))))))))))))))))) (fun h => h.elim (fun h => (Or.inr (Or.inr (Or.inr (Or.inr (Or.inr (Or.inr (Or.inr (Or.inr (Or.inr (Or.inr (Or.inr (Or.inr (Or.inr (Or.inr (Or.inr (Or.inr (Or.inr (Or.inr (Or.inr (Or.inr (Or.inr (Or.inr (Or.inr (Or.inr (Or.inr (Or.inr (Or.inr (Or.inr (Or.inr (Or.inr (Or.inr (Or.inr (Or.inr (Or.inl ⟨h.1, h.2.1⟩))))))))))))))))))))))))))))))))))) (fun h => h.elim)))))))))))))
          refine w_iincB (j := 0) (f := fun z60_ => [(2, vI z60_), (0, vR (10, b, 0)), (1, vR (10, b2, 0))]) dX10_takeFrom_102 rfl (by decide) (fun _ => rfl) (rfl : v2_73.toInt = v2_73.toInt) li_1 (lf_c_X10_takeFrom_8 M25_ M33_ M39_ M_73 b b2 z31_ z37_ v2_73 z44_ j48_ j51_ hb hb2 e32_ hM34_ e38_ hM40_ hv0_73 e45_ h46_ h47_ h49_ h50_ h52_ h53_) (fun z60_ h61_ => ?_)
          refine w_goto (tgt := 73) dX10_takeFrom_105 (by decide) ?_
          refine w_loc (ls' := [(2, vI z60_), (0, vR (10, b, 0)), (1, vR (10, b2, 0))]) [0, 1, 2] rfl ?_
          exact ih_73 M54_ hI57_ hF59_ z60_ (lf_c_X10_takeFrom_9 M25_ M33_ M39_ M_73 b b2 z31_ z37_ v2_73 z44_ j48_ j51_ z60_ hb hb2 e32_ hM34_ e38_ hM40_ hv0_73 e45_ h46_ h47_ h49_ h50_ h52_ h53_ h61_) (Nat.lt_of_lt_of_le (lf_c_X10_takeFrom_10 M25_ M33_ M39_ M_73 b b2 z31_ z37_ v2_73 z44_ j48_ j51_ z60_ hb hb2 e32_ hM34_ e38_ hM40_ hv0_73 e45_ h46_ h47_ h49_ h50_ h52_ h53_ h61_) (Nat.le_of_lt_succ hm_73))
  exact lp43_ _ M39_ hI41_ hF42_ 0 (lf_c_X10_takeFrom_11 ) (Nat.lt_succ_self _)
