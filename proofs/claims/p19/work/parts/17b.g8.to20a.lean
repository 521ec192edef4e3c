section
def S_c_X8_parted : rf → Nat → Prop := fun c k => (c.1 = 8 ∧ c.2.1 = 0 ∧ k = 5) ∨ False
def SP_X8_parted (v : Int32) (Mz : mM) (r_ : Int32) (M_ : mM) : Prop := ∃ z1_ : Int32, (z1_ = Mz.1 (8, 0, 0) 3) ∧ (((¬ z1_.toInt = 3) ∧ ∃ z6_ : Int32, (z6_ = z1_ - (3 : Int32)) ∧ (¬ z6_ = 0) ∧ ∃ z9_ : Int32, (z9_ = v / z6_) ∧ r_ = z9_ ∧ M_ = Mz) ∨ ((z1_.toInt = 3) ∧ ∃ M11_ : mM, (M11_ = up Mz (8, 0, 0) 5 1) ∧ r_ = 0 ∧ M_ = M11_))
set_option maxHeartbeats 4000000 in
set_option maxRecDepth 100000 in
theorem c_X8_parted (l : Launch) (G : va_G) (cy : Nat → ClassId) (ad : rf → Nat) (d : Nat) (v : Int32) (Mz : mM) (hIz : Inv Mz) : WP CC l G cy ad yX8_parted cX8_parted 2 (some .int) d 0 [(0, vR (8, 0, 0)), (1, vI v)] [] Mz (fun r M' => Inv M' ∧ FR (S_c_X8_parted) Mz M' ∧ (True) ∧ SP_X8_parted v Mz r M') := by
  have hFz : FR (S_c_X8_parted) Mz Mz := FR.self
  refine w_aload_n dX8_parted_0 rfl 0 rfl ?_
  refine w_getI fl_RX8_25 rfl rfl ic_8 dX8_parted_1 (fun z1_ e2_ => ?_)
  refine w_iconst (v := 3) dX8_parted_4 (by decide) ?_
  refine w_icmp_ne (tgt := 15) dX8_parted_5 (by decide) (rfl : z1_.toInt = z1_.toInt) li_3 (fun h3_ => ?_) (fun h3_ => ?_)
  · refine w_iload_n dX8_parted_15 rfl 1 rfl ?_
    refine w_aload_n dX8_parted_16 rfl 0 rfl ?_
    refine w_getI fl_RX8_25 rfl rfl ic_8 dX8_parted_17 (fun z4_ e5_ => ?_)
    obtain rfl : z1_ = z4_ := e2_.trans e5_.symm
    refine w_iconst (v := 3) dX8_parted_20 (by decide) ?_
    refine w_isub dX8_parted_21 (fun z6_ h7_ => ?_)
    have h8_ : ¬ z6_ = 0 := by rw [h7_]; exact sub3_ne h3_
    refine w_idiv dX8_parted_22 h8_ (fun z9_ h10_ => ?_)
    exact w_iret rfl dX8_parted_23 ⟨hIz, hFz, trivial, ⟨z1_, e2_, (Or.inl ⟨h3_, z6_, h7_, h8_, z9_, h10_, rfl, rfl⟩)⟩⟩
  · refine w_aload_n dX8_parted_8 rfl 0 rfl ?_
    refine w_iconst (v := 1) dX8_parted_9 (by decide) ?_
    refine w_putZ CC_nd fl_RX8_31 rfl rfl ic_8 ⟨by decide, by decide⟩ dX8_parted_10 (fun M11_ hM12_ => ?_)
    have hI13_ := hIz.put hM12_ (fun _ => ⟨by decide, by decide⟩)
    have hF14_ := hFz.put hM12_ (Or.inl ⟨rfl, rfl, rfl⟩)
    refine w_iconst (v := 0) dX8_parted_13 (by decide) ?_
    exact w_iret rfl dX8_parted_14 ⟨hI13_, hF14_, trivial, ⟨z1_, e2_, (Or.inr ⟨h3_, M11_, hM12_, rfl, rfl⟩)⟩⟩
def S_c_X8_keepTrace : rf → Nat → Prop := fun c k => (c.1 = 5 ∧ c.2.1 = 3 ∧ c.2.2 = 5 ∧ k = 1) ∨ (c.1 = 33 ∧ c.2.1 = 3 ∧ c.2.2 = 5) ∨ False
def SP_X8_keepTrace (Mz : mM) (M_ : mM) : Prop := ∃ M1_ : mM, (Inv M1_) ∧ (FR (S_c_X5_takeFrom 3 5 3 4) Mz M1_) ∧ (SP_X5_takeFrom 3 5 3 4 Mz M1_) ∧ M_ = M1_
set_option maxHeartbeats 4000000 in
set_option maxRecDepth 100000 in
theorem c_X8_keepTrace (l : Launch) (G : va_G) (cy : Nat → ClassId) (ad : rf → Nat) (d : Nat) (Mz : mM) (hIz : Inv Mz) : WP CC l G cy ad yX8_keepTrace cX8_keepTrace 1 none (d + 2) 0 [(0, vR (8, 0, 0))] [] Mz (fun r M' => Inv M' ∧ FR (S_c_X8_keepTrace) Mz M' ∧ (True) ∧ SP_X8_keepTrace Mz M') := by
  have hFz : FR (S_c_X8_keepTrace) Mz Mz := FR.self
  refine w_aload_n dX8_keepTrace_0 rfl 0 rfl ?_
  refine w_getR (c' := (5, 3, 5)) fl_RX8_18 rfl rfl ic_8 dX8_keepTrace_1 rfl ?_
  refine w_aload_n dX8_keepTrace_4 rfl 0 rfl ?_
  refine w_getR (c' := (5, 3, 4)) fl_RX8_12 rfl rfl ic_8 dX8_keepTrace_5 rfl ?_
  refine w_callVv (as := [vR (5, 3, 4)]) (rest := []) (c_X5_takeFrom l G cy ad d 3 5 3 4 Mz hIz (by first | decide | (unfold vF; omega) | (unfold vRw; omega)) (by first | decide | (unfold vF; omega) | (unfold vRw; omega))) kV_X5_takeFrom pnn_2 (Nat.le_of_ble_eq_true rfl) m_1209 rfl rfl rfl (ic_5 (by unfold vRw; omega)) rfl rfl (by decide) (Nat.le_of_ble_eq_true rfl) dX8_keepTrace_8 (fun M1_ q2_ => ?_)
  obtain ⟨hI4_, hF5_, h3_, hs7_⟩ := q2_
  have hF6_ := hFz.tr hF5_ (fun c k => (fun h => h.elim (fun h => (Or.inl ⟨h.1, h.2.1, h.2.2.1, h.2.2.2⟩)) (fun h => h.elim (fun h => (Or.inr (Or.inl ⟨h.1, h.2.1, h.2.2⟩))) (fun h => h.elim))))
  exact w_vret rfl dX8_keepTrace_11 ⟨hI4_, hF6_, trivial, ⟨M1_, hI4_, hF5_, hs7_, rfl⟩⟩
def S_c_X11_error : rf → Nat → Prop := fun c k => (c.1 = 44 ∧ c.2.1 = 0) ∨ False
def SP_X11_error (v : Int32) (Mz : mM) (r_ : Int32) (M_ : mM) : Prop := (((v.toInt < 0) ∧ ∃ z2_ : Int32, (z2_.toInt = -1000000 - v.toInt) ∧ r_ = z2_ ∧ M_ = Mz) ∨ ((0 ≤ v.toInt) ∧ (((7 ≤ v.toInt) ∧ ∃ z5_ : Int32, (z5_ = ((-1000000) : Int32) - v) ∧ r_ = z5_ ∧ M_ = Mz) ∨ ((v.toInt < 7) ∧ ∃ j9_ : Nat, ((j9_ : Int) = v.toInt) ∧ ∃ z7_ : Int32, (z7_ = Mz.1 (44, 0, 0) j9_) ∧ ∃ z11_ : Int32, (z11_ = z7_ + (1 : Int32)) ∧ ∃ j15_ : Nat, ((j15_ : Int) = v.toInt) ∧ ∃ M13_ : mM, (M13_ = up Mz (44, 0, 0) j15_ z11_) ∧ ∃ z19_ : Int32, (z19_.toInt = -1000000 - v.toInt) ∧ r_ = z19_ ∧ M_ = M13_))))
theorem lf_c_X11_error_0 (v : Int32) (h1_ : v.toInt < 0) : -2147483648 ≤ -1000000 - v.toInt ∧ -1000000 - v.toInt < 2147483648 := by have r_v := rngI v; omega
theorem lf_c_X11_error_3 (v : Int32) (h1_ : 0 ≤ v.toInt) (h4_ : v.toInt < 7) : -2147483648 ≤ -1000000 - v.toInt ∧ -1000000 - v.toInt < 2147483648 := by omega
set_option maxHeartbeats 4000000 in
set_option maxRecDepth 100000 in
theorem c_X11_error (l : Launch) (G : va_G) (cy : Nat → ClassId) (ad : rf → Nat) (d : Nat) (v : Int32) (Mz : mM) (hIz : Inv Mz) : WP CC l G cy ad yX11_error cX11_error 2 (some .int) d 0 [(0, vR (11, 0, 0)), (1, vI v)] [] Mz (fun r M' => Inv M' ∧ FR (S_c_X11_error) Mz M' ∧ (True) ∧ SP_X11_error v Mz r M') := by
  have hFz : FR (S_c_X11_error) Mz Mz := FR.self
  refine w_iload_n dX11_error_0 rfl 1 rfl ?_
  refine w_if_lt (tgt := 23) dX11_error_1 (by decide) (rfl : v.toInt = v.toInt) (fun h1_ => ?_) (fun h1_ => ?_)
  · refine w_ldc_w (v := (-1000000)) m_504 dX11_error_23 ?_
    refine w_iload_n dX11_error_26 rfl 1 rfl ?_
    refine w_isubB dX11_error_27 li_m1000000 (rfl : v.toInt = v.toInt) (lf_c_X11_error_0 v h1_ ) (fun z2_ h3_ => ?_)
    exact w_iret rfl dX11_error_28 ⟨hIz, hFz, trivial, (Or.inl ⟨h1_, z2_, h3_, rfl, rfl⟩)⟩
  · refine w_iload_n dX11_error_4 rfl 1 rfl ?_
    refine w_aload_n dX11_error_5 rfl 0 rfl ?_
    refine w_getR (c' := (44, 0, 0)) fl_RX11_28 rfl rfl ic_11 dX11_error_6 rfl ?_
    refine w_alen (v := 7) (by decide) rfl rfl ic_44 dX11_error_9 rfl ?_
    refine w_icmp_ge (tgt := 23) dX11_error_10 (by decide) (rfl : v.toInt = v.toInt) li_7 (fun h4_ => ?_) (fun h4_ => ?_)
    · refine w_ldc_w (v := (-1000000)) m_504 dX11_error_23 ?_
      refine w_iload_n dX11_error_26 rfl 1 rfl ?_
      refine w_isub dX11_error_27 (fun z5_ h6_ => ?_)
      exact w_iret rfl dX11_error_28 ⟨hIz, hFz, trivial, (Or.inr ⟨h1_, (Or.inl ⟨h4_, z5_, h6_, rfl, rfl⟩)⟩)⟩
    · refine w_aload_n dX11_error_13 rfl 0 rfl ?_
      refine w_getR (c' := (44, 0, 0)) fl_RX11_28 rfl rfl ic_11 dX11_error_14 rfl ?_
      refine w_iload_n dX11_error_17 rfl 1 rfl ?_
      refine w_dup2 dX11_error_18 rfl rfl ?_
      refine w_iald rfl rfl ic_44 (rfl : v.toInt = v.toInt) (lf_c_X3_add_0 v h1_ h4_ ) dX11_error_19 (fun j9_ h10_ z7_ e8_ => ?_)
      refine w_iconst (v := 1) dX11_error_20 (by decide) ?_
      refine w_iadd dX11_error_21 (fun z11_ h12_ => ?_)
      refine w_iast CC_nd rfl rfl ic_44 (rfl : v.toInt = v.toInt) (lf_c_X3_add_0 v h1_ h4_ ) dX11_error_22 (fun j15_ h16_ M13_ hM14_ => ?_)
      have hI17_ := hIz.put hM14_ trivial
      have hF18_ := hFz.put hM14_ (Or.inl ⟨rfl, rfl⟩)
      refine w_ldc_w (v := (-1000000)) m_504 dX11_error_23 ?_
      refine w_iload_n dX11_error_26 rfl 1 rfl ?_
      refine w_isubB dX11_error_27 li_m1000000 (rfl : v.toInt = v.toInt) (lf_c_X11_error_3 v h1_ h4_ ) (fun z19_ h20_ => ?_)
      exact w_iret rfl dX11_error_28 ⟨hI17_, hF18_, trivial, (Or.inr ⟨h1_, (Or.inr ⟨h4_, j9_, h10_, z7_, e8_, z11_, h12_, j15_, h16_, M13_, hM14_, z19_, h20_, rfl, rfl⟩)⟩)⟩
def S_c_X11_thing : rf → Nat → Prop := fun c k => (c.1 = 36 ∧ c.2.1 = 0) ∨ (c.1 = 37 ∧ c.2.1 = 0) ∨ (c.1 = 38 ∧ c.2.1 = 0) ∨ (c.1 = 39 ∧ c.2.1 = 0) ∨ (c.1 = 35 ∧ c.2.1 = 0) ∨ (c.1 = 7 ∧ c.2.1 = 0 ∧ k = 5) ∨ (c.1 = 44 ∧ c.2.1 = 0) ∨ False
def SP_X11_thing (v : Int32) (u : Int32) (Mz : mM) (r_ : Int32) (M_ : mM) : Prop := (((SP_X11_isThingKind v Mz (1 : Int32)) ∧ (0 ≤ v.toInt ∧ v.toInt ≤ 4) ∧ (((SP_X7_isCell u Mz (1 : Int32)) ∧ (0 ≤ u.toInt ∧ u.toInt ≤ 191) ∧ (((SP_X7_isFree 0 u Mz (1 : Int32)) ∧ (0 ≤ u.toInt ∧ u.toInt ≤ 191) ∧ ∃ r19_ : Int32, (SP_X7_hasRoom 0 Mz r19_) ∧ ((0 ≤ r19_.toInt ∧ r19_.toInt ≤ 1)) ∧ (((¬ r19_.toInt = 0) ∧ ∃ M26_ : mM, (Inv M26_) ∧ (FR (S_c_X7_addThing 0) Mz M26_) ∧ ∃ r25_ : Int32, (SP_X7_addThing 0 v u Mz r25_ M26_) ∧ r_ = r25_ ∧ M_ = M26_) ∨ ((r19_.toInt = 0) ∧ ∃ M34_ : mM, (Inv M34_) ∧ (FR (S_c_X11_error) Mz M34_) ∧ ∃ r33_ : Int32, (SP_X11_error 4 Mz r33_ M34_) ∧ r_ = r33_ ∧ M_ = M34_))) ∨ ((SP_X7_isFree 0 u Mz (0 : Int32)) ∧ ∃ M43_ : mM, (Inv M43_) ∧ (FR (S_c_X11_error) Mz M43_) ∧ ∃ r42_ : Int32, (SP_X11_error 3 Mz r42_ M43_) ∧ r_ = r42_ ∧ M_ = M43_))) ∨ ((SP_X7_isCell u Mz (0 : Int32)) ∧ (¬ (0 ≤ u.toInt ∧ u.toInt ≤ 191)) ∧ ∃ M52_ : mM, (Inv M52_) ∧ (FR (S_c_X11_error) Mz M52_) ∧ ∃ r51_ : Int32, (SP_X11_error 1 Mz r51_ M52_) ∧ r_ = r51_ ∧ M_ = M52_))) ∨ ((SP_X11_isThingKind v Mz (0 : Int32)) ∧ (¬ (0 ≤ v.toInt ∧ v.toInt ≤ 4)) ∧ ∃ M61_ : mM, (Inv M61_) ∧ (FR (S_c_X11_error) Mz M61_) ∧ ∃ r60_ : Int32, (SP_X11_error 1 Mz r60_ M61_) ∧ r_ = r60_ ∧ M_ = M61_))
set_option maxHeartbeats 4000000 in
set_option maxRecDepth 100000 in
theorem c_X11_thing (l : Launch) (G : va_G) (cy : Nat → ClassId) (ad : rf → Nat) (d : Nat) (v : Int32) (u : Int32) (Mz : mM) (hIz : Inv Mz) : WP CC l G cy ad yX11_thing cX11_thing 3 (some .int) (d + 3) 0 [(0, vR (11, 0, 0)), (1, vI v), (2, vI u)] [] Mz (fun r M' => Inv M' ∧ FR (S_c_X11_thing) Mz M' ∧ (True) ∧ SP_X11_thing v u Mz r M') := by
  have hFz : FR (S_c_X11_thing) Mz Mz := FR.self
  refine w_iload_n dX11_thing_0 rfl 1 rfl ?_
  refine w_callS (as := [vI v]) (rest := []) (c_X11_isThingKind l G cy ad (d + 1) v Mz hIz) kS_X11_isThingKind pnn_0 (Nat.le_of_ble_eq_true rfl) m_491 rfl rfl (by decide) (Nat.le_of_ble_eq_true rfl) dX11_thing_1 (fun r1_ M2_ q3_ => ?_)
  obtain ⟨rfl, h4_, hs5_⟩ := q3_
  rcases h4_ with ⟨rfl, h4_⟩ | ⟨rfl, h4_⟩
  · refine w_if_eq (tgt := 14) dX11_thing_4 (by decide) li_1 (fun h9 => (absurd h9 (by decide))) (fun h6_ => ?_)
    refine w_iload_n dX11_thing_7 rfl 2 rfl ?_
    refine w_callS (as := [vI u]) (rest := []) (c_X7_isCell l G cy ad (d + 2) u Mz hIz) kS_X7_isCell pnn_1 (Nat.le_of_ble_eq_true rfl) m_497 rfl rfl (by decide) (Nat.le_of_ble_eq_true rfl) dX11_thing_8 (fun r7_ M8_ q9_ => ?_)
    obtain ⟨rfl, h10_, hs11_⟩ := q9_
    rcases h10_ with ⟨rfl, h10_⟩ | ⟨rfl, h10_⟩
    · refine w_if_ne (tgt := 20) dX11_thing_11 (by decide) li_1 (fun h12_ => ?_) (fun h9 => (absurd h9 (by decide)))
      refine w_aload_n dX11_thing_20 rfl 0 rfl ?_
      refine w_getR (c' := (10, 0, 0)) fl_RX11_10 rfl rfl ic_11 dX11_thing_21 rfl ?_
      refine w_getR (c' := (7, 0, 0)) fl_RX11_71 rfl rfl (ic_10 (by decide)) dX11_thing_24 rfl ?_
      refine w_iload_n dX11_thing_27 rfl 2 rfl ?_
      refine w_callV (as := [vI u]) (rest := []) (c_X7_isFree l G cy ad (d + 1) 0 u Mz hIz (by first | decide | (unfold vF; omega) | (unfold vRw; omega))) kV_X7_isFree pnn_1 (Nat.le_of_ble_eq_true rfl) m_505 rfl rfl rfl (ic_7 (by decide)) rfl rfl (by decide) (Nat.le_of_ble_eq_true rfl) dX11_thing_28 (fun r13_ M14_ q15_ => ?_)
      obtain ⟨rfl, h16_, hs17_⟩ := q15_
      rcases h16_ with ⟨rfl, h16_⟩ | rfl
      · refine w_if_ne (tgt := 40) dX11_thing_31 (by decide) li_1 (fun h18_ => ?_) (fun h9 => (absurd h9 (by decide)))
        refine w_aload_n dX11_thing_40 rfl 0 rfl ?_
        refine w_getR (c' := (10, 0, 0)) fl_RX11_10 rfl rfl ic_11 dX11_thing_41 rfl ?_
        refine w_getR (c' := (7, 0, 0)) fl_RX11_71 rfl rfl (ic_10 (by decide)) dX11_thing_44 rfl ?_
        refine w_callV (as := []) (rest := []) (c_X7_hasRoom l G cy ad (d + 2) 0 Mz hIz (by first | decide | (unfold vF; omega) | (unfold vRw; omega))) kV_X7_hasRoom pnn_1 (Nat.le_of_ble_eq_true rfl) m_510 rfl rfl rfl (ic_7 (by decide)) rfl rfl (by decide) (Nat.le_of_ble_eq_true rfl) dX11_thing_47 (fun r19_ M20_ q21_ => ?_)
        obtain ⟨rfl, h22_, hs23_⟩ := q21_
        refine w_if_ne (tgt := 59) dX11_thing_50 (by decide) (rfl : r19_.toInt = r19_.toInt) (fun h24_ => ?_) (fun h24_ => ?_)
        · refine w_aload_n dX11_thing_59 rfl 0 rfl ?_
          refine w_getR (c' := (10, 0, 0)) fl_RX11_10 rfl rfl ic_11 dX11_thing_60 rfl ?_
          refine w_getR (c' := (7, 0, 0)) fl_RX11_71 rfl rfl (ic_10 (by decide)) dX11_thing_63 rfl ?_
          refine w_iload_n dX11_thing_66 rfl 1 rfl ?_
          refine w_iload_n dX11_thing_67 rfl 2 rfl ?_
          refine w_callV (as := [vI v, vI u]) (rest := []) (c_X7_addThing l G cy ad d 0 v u Mz hIz (by first | decide | (unfold vF; omega) | (unfold vRw; omega))) kV_X7_addThing pnn_1 (Nat.le_of_ble_eq_true rfl) m_514 rfl rfl rfl (ic_7 (by decide)) rfl rfl (by decide) (Nat.le_of_ble_eq_true rfl) dX11_thing_68 (fun r25_ M26_ q27_ => ?_)
          obtain ⟨hI29_, hF30_, h28_, hs32_⟩ := q27_
          have hF31_ := hFz.tr hF30_ (fun c k => (fun h => h.elim (fun h => (Or.inl ⟨h.1, h.2⟩)) (fun h => h.elim (fun h => (Or.inr (Or.inl ⟨h.1, h.2⟩))) (fun h => h.elim (fun h => (Or.inr (Or.inr (Or.inl ⟨h.1, h.2⟩)))) (fun h => h.elim (fun h => (Or.inr (Or.inr (Or.inr (Or.inl ⟨h.1, h.2⟩))))) (fun h => h.elim (fun h => (Or.inr (Or.inr (Or.inr (Or.inr (Or.inl ⟨h.1, h.2⟩)))))) (fun h => h.elim (fun h => (Or.inr (Or.inr (Or.inr (Or.inr (Or.inr (Or.inl ⟨h.1, h.2.1, h.2.2⟩))))))) (fun h => h.elim))))))))
          exact w_iret rfl dX11_thing_71 ⟨hI29_, hF31_, trivial, (Or.inl ⟨hs5_, h4_, (Or.inl ⟨hs11_, h10_, (Or.inl ⟨hs17_, h16_, r19_, hs23_, h22_, (Or.inl ⟨h24_, M26_, hI29_, hF30_, r25_, hs32_, rfl, rfl⟩)⟩)⟩)⟩)⟩
        · refine w_aload_n dX11_thing_53 rfl 0 rfl ?_
          refine w_iconst (v := 4) dX11_thing_54 (by decide) ?_
          refine w_callV (as := [vI 4]) (rest := []) (c_X11_error l G cy ad (d + 2) 4 Mz hIz) kV_X11_error pnn_0 (Nat.le_of_ble_eq_true rfl) m_500 rfl rfl rfl ic_11 rfl rfl (by decide) (Nat.le_of_ble_eq_true rfl) dX11_thing_55 (fun r33_ M34_ q35_ => ?_)
          obtain ⟨hI37_, hF38_, h36_, hs40_⟩ := q35_
          have hF39_ := hFz.tr hF38_ (fun c k => (fun h => h.elim (fun h => (Or.inr (Or.inr (Or.inr (Or.inr (Or.inr (Or.inr (Or.inl ⟨h.1, h.2⟩)))))))) (fun h => h.elim)))
          exact w_iret rfl dX11_thing_58 ⟨hI37_, hF39_, trivial, (Or.inl ⟨hs5_, h4_, (Or.inl ⟨hs11_, h10_, (Or.inl ⟨hs17_, h16_, r19_, hs23_, h22_, (Or.inr ⟨h24_, M34_, hI37_, hF38_, r33_, hs40_, rfl, rfl⟩)⟩)⟩)⟩)⟩
      · refine w_if_ne (tgt := 40) dX11_thing_31 (by decide) li_0 (fun h9 => (absurd h9 (by decide))) (fun h41_ => ?_)
        refine w_aload_n dX11_thing_34 rfl 0 rfl ?_
        refine w_iconst (v := 3) dX11_thing_35 (by decide) ?_
        refine w_callV (as := [vI 3]) (rest := []) (c_X11_error l G cy ad (d + 2) 3 Mz hIz) kV_X11_error pnn_0 (Nat.le_of_ble_eq_true rfl) m_500 rfl rfl rfl ic_11 rfl rfl (by decide) (Nat.le_of_ble_eq_true rfl) dX11_thing_36 (fun r42_ M43_ q44_ => ?_)
        obtain ⟨hI46_, hF47_, h45_, hs49_⟩ := q44_
        have hF48_ := hFz.tr hF47_ (fun c k => (fun h => h.elim (fun h => (Or.inr (Or.inr (Or.inr (Or.inr (Or.inr (Or.inr (Or.inl ⟨h.1, h.2⟩)))))))) (fun h => h.elim)))
        exact w_iret rfl dX11_thing_39 ⟨hI46_, hF48_, trivial, (Or.inl ⟨hs5_, h4_, (Or.inl ⟨hs11_, h10_, (Or.inr ⟨hs17_, M43_, hI46_, hF47_, r42_, hs49_, rfl, rfl⟩)⟩)⟩)⟩
    · refine w_if_ne (tgt := 20) dX11_thing_11 (by decide) li_0 (fun h9 => (absurd h9 (by decide))) (fun h50_ => ?_)
      refine w_aload_n dX11_thing_14 rfl 0 rfl ?_
      refine w_iconst (v := 1) dX11_thing_15 (by decide) ?_
      refine w_callV (as := [vI 1]) (rest := []) (c_X11_error l G cy ad (d + 2) 1 Mz hIz) kV_X11_error pnn_0 (Nat.le_of_ble_eq_true rfl) m_500 rfl rfl rfl ic_11 rfl rfl (by decide) (Nat.le_of_ble_eq_true rfl) dX11_thing_16 (fun r51_ M52_ q53_ => ?_)
      obtain ⟨hI55_, hF56_, h54_, hs58_⟩ := q53_
      have hF57_ := hFz.tr hF56_ (fun c k => (fun h => h.elim (fun h => (Or.inr (Or.inr (Or.inr (Or.inr (Or.inr (Or.inr (Or.inl ⟨h.1, h.2⟩)))))))) (fun h => h.elim)))
      exact w_iret rfl dX11_thing_19 ⟨hI55_, hF57_, trivial, (Or.inl ⟨hs5_, h4_, (Or.inr ⟨hs11_, h10_, M52_, hI55_, hF56_, r51_, hs58_, rfl, rfl⟩)⟩)⟩
  · refine w_if_eq (tgt := 14) dX11_thing_4 (by decide) li_0 (fun h59_ => ?_) (fun h9 => (absurd h9 (by decide)))
    refine w_aload_n dX11_thing_14 rfl 0 rfl ?_
    refine w_iconst (v := 1) dX11_thing_15 (by decide) ?_
    refine w_callV (as := [vI 1]) (rest := []) (c_X11_error l G cy ad (d + 2) 1 Mz hIz) kV_X11_error pnn_0 (Nat.le_of_ble_eq_true rfl) m_500 rfl rfl rfl ic_11 rfl rfl (by decide) (Nat.le_of_ble_eq_true rfl) dX11_thing_16 (fun r60_ M61_ q62_ => ?_)
    obtain ⟨hI64_, hF65_, h63_, hs67_⟩ := q62_
    have hF66_ := hFz.tr hF65_ (fun c k => (fun h => h.elim (fun h => (Or.inr (Or.inr (Or.inr (Or.inr (Or.inr (Or.inr (Or.inl ⟨h.1, h.2⟩)))))))) (fun h => h.elim)))
    exact w_iret rfl dX11_thing_19 ⟨hI64_, hF66_, trivial, (Or.inr ⟨hs5_, h4_, M61_, hI64_, hF65_, r60_, hs67_, rfl, rfl⟩)⟩
def S_c_X11_thingIs : rf → Nat → Prop := fun c k => (c.1 = 44 ∧ c.2.1 = 0) ∨ False
def SP_X11_thingIs (v : Int32) (u : Int32) (Mz : mM) (r_ : Int32) (M_ : mM) : Prop := (((SP_X7_hasThing 0 v Mz (1 : Int32)) ∧ (0 ≤ v.toInt ∧ v.toInt ≤ 39) ∧ (((SP_X11_within u 0 3 Mz (1 : Int32)) ∧ (0 ≤ u.toInt ∧ u.toInt ≤ 3) ∧ ∃ r13_ : Int32, (SP_X7_factOf 0 v u Mz r13_) ∧ r_ = r13_ ∧ M_ = Mz) ∨ ((SP_X11_within u 0 3 Mz (0 : Int32)) ∧ (¬ (0 ≤ u.toInt ∧ u.toInt ≤ 3)) ∧ ∃ M20_ : mM, (Inv M20_) ∧ (FR (S_c_X11_error) Mz M20_) ∧ ∃ r19_ : Int32, (SP_X11_error 1 Mz r19_ M20_) ∧ r_ = r19_ ∧ M_ = M20_))) ∨ ((SP_X7_hasThing 0 v Mz (0 : Int32)) ∧ ∃ M29_ : mM, (Inv M29_) ∧ (FR (S_c_X11_error) Mz M29_) ∧ ∃ r28_ : Int32, (SP_X11_error 1 Mz r28_ M29_) ∧ r_ = r28_ ∧ M_ = M29_))
set_option maxHeartbeats 4000000 in
set_option maxRecDepth 100000 in
theorem c_X11_thingIs (l : Launch) (G : va_G) (cy : Nat → ClassId) (ad : rf → Nat) (d : Nat) (v : Int32) (u : Int32) (Mz : mM) (hIz : Inv Mz) : WP CC l G cy ad yX11_thingIs cX11_thingIs 3 (some .int) (d + 2) 0 [(0, vR (11, 0, 0)), (1, vI v), (2, vI u)] [] Mz (fun r M' => Inv M' ∧ FR (S_c_X11_thingIs) Mz M' ∧ (True) ∧ SP_X11_thingIs v u Mz r M') := by
  have hFz : FR (S_c_X11_thingIs) Mz Mz := FR.self
  refine w_aload_n dX11_thingIs_0 rfl 0 rfl ?_
  refine w_getR (c' := (10, 0, 0)) fl_RX11_10 rfl rfl ic_11 dX11_thingIs_1 rfl ?_
  refine w_getR (c' := (7, 0, 0)) fl_RX11_71 rfl rfl (ic_10 (by decide)) dX11_thingIs_4 rfl ?_
  refine w_iload_n dX11_thingIs_7 rfl 1 rfl ?_
  refine w_callV (as := [vI v]) (rest := []) (c_X7_hasThing l G cy ad (d + 1) 0 v Mz hIz (by first | decide | (unfold vF; omega) | (unfold vRw; omega))) kV_X7_hasThing pnn_1 (Nat.le_of_ble_eq_true rfl) m_526 rfl rfl rfl (ic_7 (by decide)) rfl rfl (by decide) (Nat.le_of_ble_eq_true rfl) dX11_thingIs_8 (fun r1_ M2_ q3_ => ?_)
  obtain ⟨rfl, h4_, hs5_⟩ := q3_
  rcases h4_ with ⟨rfl, h4_⟩ | rfl
  · refine w_if_eq (tgt := 23) dX11_thingIs_11 (by decide) li_1 (fun h9 => (absurd h9 (by decide))) (fun h6_ => ?_)
    refine w_iload_n dX11_thingIs_14 rfl 2 rfl ?_
    refine w_iconst (v := 0) dX11_thingIs_15 (by decide) ?_
    refine w_iconst (v := 3) dX11_thingIs_16 (by decide) ?_
    refine w_callS (as := [vI u, vI 0, vI 3]) (rest := []) (c_X11_within l G cy ad (d + 1) u 0 3 Mz hIz) kS_X11_within pnn_0 (Nat.le_of_ble_eq_true rfl) m_494 rfl rfl (by decide) (Nat.le_of_ble_eq_true rfl) dX11_thingIs_17 (fun r7_ M8_ q9_ => ?_)
    obtain ⟨rfl, h10_, hs11_⟩ := q9_
    rcases h10_ with ⟨rfl, h10_⟩ | ⟨rfl, h10_⟩
    · simp only [li_0, li_3] at h10_
      refine w_if_ne (tgt := 29) dX11_thingIs_20 (by decide) li_1 (fun h12_ => ?_) (fun h9 => (absurd h9 (by decide)))
      refine w_aload_n dX11_thingIs_29 rfl 0 rfl ?_
      refine w_getR (c' := (10, 0, 0)) fl_RX11_10 rfl rfl ic_11 dX11_thingIs_30 rfl ?_
      refine w_getR (c' := (7, 0, 0)) fl_RX11_71 rfl rfl (ic_10 (by decide)) dX11_thingIs_33 rfl ?_
      refine w_iload_n dX11_thingIs_36 rfl 1 rfl ?_
      refine w_iload_n dX11_thingIs_37 rfl 2 rfl ?_
      refine w_callV (as := [vI v, vI u]) (rest := []) (c_X7_factOf l G cy ad d 0 v u Mz hIz (by first | decide | (unfold vF; omega) | (unfold vRw; omega))) kV_X7_factOf pnn_1 (Nat.le_of_ble_eq_true rfl) m_530 rfl rfl rfl (ic_7 (by decide)) rfl rfl (by decide) (Nat.le_of_ble_eq_true rfl) dX11_thingIs_38 (fun r13_ M14_ q15_ => ?_)
      obtain ⟨rfl, h16_, hs17_⟩ := q15_
      exact w_iret rfl dX11_thingIs_41 ⟨hIz, hFz, trivial, (Or.inl ⟨hs5_, h4_, (Or.inl ⟨hs11_, h10_, r13_, hs17_, rfl, rfl⟩)⟩)⟩
    · simp only [li_0, li_3] at h10_
      refine w_if_ne (tgt := 29) dX11_thingIs_20 (by decide) li_0 (fun h9 => (absurd h9 (by decide))) (fun h18_ => ?_)
      refine w_aload_n dX11_thingIs_23 rfl 0 rfl ?_
      refine w_iconst (v := 1) dX11_thingIs_24 (by decide) ?_
      refine w_callV (as := [vI 1]) (rest := []) (c_X11_error l G cy ad (d + 1) 1 Mz hIz) kV_X11_error pnn_0 (Nat.le_of_ble_eq_true rfl) m_500 rfl rfl rfl ic_11 rfl rfl (by decide) (Nat.le_of_ble_eq_true rfl) dX11_thingIs_25 (fun r19_ M20_ q21_ => ?_)
      obtain ⟨hI23_, hF24_, h22_, hs26_⟩ := q21_
      have hF25_ := hFz.tr hF24_ (fun c k => (fun h => h.elim (fun h => (Or.inl ⟨h.1, h.2⟩)) (fun h => h.elim)))
      exact w_iret rfl dX11_thingIs_28 ⟨hI23_, hF25_, trivial, (Or.inl ⟨hs5_, h4_, (Or.inr ⟨hs11_, h10_, M20_, hI23_, hF24_, r19_, hs26_, rfl, rfl⟩)⟩)⟩
  · refine w_if_eq (tgt := 23) dX11_thingIs_11 (by decide) li_0 (fun h27_ => ?_) (fun h9 => (absurd h9 (by decide)))
    refine w_aload_n dX11_thingIs_23 rfl 0 rfl ?_
    refine w_iconst (v := 1) dX11_thingIs_24 (by decide) ?_
    refine w_callV (as := [vI 1]) (rest := []) (c_X11_error l G cy ad (d + 1) 1 Mz hIz) kV_X11_error pnn_0 (Nat.le_of_ble_eq_true rfl) m_500 rfl rfl rfl ic_11 rfl rfl (by decide) (Nat.le_of_ble_eq_true rfl) dX11_thingIs_25 (fun r28_ M29_ q30_ => ?_)
    obtain ⟨hI32_, hF33_, h31_, hs35_⟩ := q30_
    have hF34_ := hFz.tr hF33_ (fun c k => (fun h => h.elim (fun h => (Or.inl ⟨h.1, h.2⟩)) (fun h => h.elim)))
    exact w_iret rfl dX11_thingIs_28 ⟨hI32_, hF34_, trivial, (Or.inr ⟨hs5_, M29_, hI32_, hF33_, r28_, hs35_, rfl, rfl⟩)⟩
def S_c_X11_moves : rf → Nat → Prop := fun c k => (c.1 = 38 ∧ c.2.1 = 0) ∨ (c.1 = 39 ∧ c.2.1 = 0) ∨ (c.1 = 44 ∧ c.2.1 = 0) ∨ False
def SP_X11_moves (v : Int32) (u : Int32) (t : Int32) (Mz : mM) (r_ : Int32) (M_ : mM) : Prop := (((SP_X7_hasThing 0 v Mz (1 : Int32)) ∧ (0 ≤ v.toInt ∧ v.toInt ≤ 39) ∧ (((SP_X7_isSide u Mz (1 : Int32)) ∧ (0 ≤ u.toInt ∧ u.toInt ≤ 7) ∧ (((SP_X11_within t 0 20 Mz (1 : Int32)) ∧ (0 ≤ t.toInt ∧ t.toInt ≤ 20) ∧ ∃ j21_ : Nat, ((j21_ : Int) = v.toInt) ∧ ∃ z19_ : Int32, (z19_ = Mz.1 (36, 0, 0) j21_) ∧ (((3 ≤ z19_.toInt) ∧ ∃ j26_ : Nat, ((j26_ : Int) = v.toInt) ∧ ∃ z24_ : Int32, (z24_ = Mz.1 (37, 0, 0) j26_) ∧ (((0 ≤ z24_.toInt) ∧ ∃ j31_ : Nat, ((j31_ : Int) = v.toInt) ∧ ∃ M29_ : mM, (M29_ = up Mz (38, 0, 0) j31_ u) ∧ ∃ j37_ : Nat, ((j37_ : Int) = v.toInt) ∧ ∃ M35_ : mM, (M35_ = up M29_ (39, 0, 0) j37_ t) ∧ r_ = 1 ∧ M_ = M35_) ∨ ((z24_.toInt < 0) ∧ ∃ M42_ : mM, (Inv M42_) ∧ (FR (S_c_X11_error) Mz M42_) ∧ ∃ r41_ : Int32, (SP_X11_error 3 Mz r41_ M42_) ∧ r_ = r41_ ∧ M_ = M42_))) ∨ ((z19_.toInt < 3) ∧ ∃ M50_ : mM, (Inv M50_) ∧ (FR (S_c_X11_error) Mz M50_) ∧ ∃ r49_ : Int32, (SP_X11_error 5 Mz r49_ M50_) ∧ r_ = r49_ ∧ M_ = M50_))) ∨ ((SP_X11_within t 0 20 Mz (0 : Int32)) ∧ (¬ (0 ≤ t.toInt ∧ t.toInt ≤ 20)) ∧ ∃ M59_ : mM, (Inv M59_) ∧ (FR (S_c_X11_error) Mz M59_) ∧ ∃ r58_ : Int32, (SP_X11_error 1 Mz r58_ M59_) ∧ r_ = r58_ ∧ M_ = M59_))) ∨ ((SP_X7_isSide u Mz (0 : Int32)) ∧ (¬ (0 ≤ u.toInt ∧ u.toInt ≤ 7)) ∧ ∃ M68_ : mM, (Inv M68_) ∧ (FR (S_c_X11_error) Mz M68_) ∧ ∃ r67_ : Int32, (SP_X11_error 1 Mz r67_ M68_) ∧ r_ = r67_ ∧ M_ = M68_))) ∨ ((SP_X7_hasThing 0 v Mz (0 : Int32)) ∧ ∃ M77_ : mM, (Inv M77_) ∧ (FR (S_c_X11_error) Mz M77_) ∧ ∃ r76_ : Int32, (SP_X11_error 1 Mz r76_ M77_) ∧ r_ = r76_ ∧ M_ = M77_))
set_option maxHeartbeats 4000000 in
set_option maxRecDepth 100000 in
theorem c_X11_moves (l : Launch) (G : va_G) (cy : Nat → ClassId) (ad : rf → Nat) (d : Nat) (v : Int32) (u : Int32) (t : Int32) (Mz : mM) (hIz : Inv Mz) : WP CC l G cy ad yX11_moves cX11_moves 5 (some .int) (d + 1) 0 [(0, vR (11, 0, 0)), (1, vI v), (2, vI u), (3, vI t)] [] Mz (fun r M' => Inv M' ∧ FR (S_c_X11_moves) Mz M' ∧ (True) ∧ SP_X11_moves v u t Mz r M') := by
  have hFz : FR (S_c_X11_moves) Mz Mz := FR.self
  refine w_aload_n dX11_moves_0 rfl 0 rfl ?_
  refine w_getR (c' := (10, 0, 0)) fl_RX11_10 rfl rfl ic_11 dX11_moves_1 rfl ?_
  refine w_getR (c' := (7, 0, 0)) fl_RX11_71 rfl rfl (ic_10 (by decide)) dX11_moves_4 rfl ?_
  refine w_astore (ls' := [(4, vR (7, 0, 0)), (0, vR (11, 0, 0)), (1, vI v), (2, vI u), (3, vI t)]) dX11_moves_7 (by decide) rfl ?_
  refine w_aload dX11_moves_9 0 rfl ?_
  refine w_iload_n dX11_moves_11 rfl 2 rfl ?_
  refine w_callV (as := [vI v]) (rest := []) (c_X7_hasThing l G cy ad d 0 v Mz hIz (by first | decide | (unfold vF; omega) | (unfold vRw; omega))) kV_X7_hasThing pnn_1 (Nat.le_of_ble_eq_true rfl) m_526 rfl rfl rfl (ic_7 (by decide)) rfl rfl (by decide) (Nat.le_of_ble_eq_true rfl) dX11_moves_12 (fun r1_ M2_ q3_ => ?_)
  obtain ⟨rfl, h4_, hs5_⟩ := q3_
  rcases h4_ with ⟨rfl, h4_⟩ | rfl
  · refine w_if_eq (tgt := 35) dX11_moves_15 (by decide) li_1 (fun h9 => (absurd h9 (by decide))) (fun h6_ => ?_)
    refine w_iload_n dX11_moves_18 rfl 3 rfl ?_
    refine w_callS (as := [vI u]) (rest := []) (c_X7_isSide l G cy ad d u Mz hIz) kS_X7_isSide pnn_1 (Nat.le_of_ble_eq_true rfl) m_539 rfl rfl (by decide) (Nat.le_of_ble_eq_true rfl) dX11_moves_19 (fun r7_ M8_ q9_ => ?_)
    obtain ⟨rfl, h10_, hs11_⟩ := q9_
    rcases h10_ with ⟨rfl, h10_⟩ | ⟨rfl, h10_⟩
    · refine w_if_eq (tgt := 35) dX11_moves_22 (by decide) li_1 (fun h9 => (absurd h9 (by decide))) (fun h12_ => ?_)
      refine w_iload_n dX11_moves_25 rfl 4 rfl ?_
      refine w_iconst (v := 0) dX11_moves_26 (by decide) ?_
      refine w_bipush (v := 20) dX11_moves_27 (by decide) ?_
      refine w_callS (as := [vI t, vI 0, vI 20]) (rest := []) (c_X11_within l G cy ad d t 0 20 Mz hIz) kS_X11_within pnn_0 (Nat.le_of_ble_eq_true rfl) m_494 rfl rfl (by decide) (Nat.le_of_ble_eq_true rfl) dX11_moves_29 (fun r13_ M14_ q15_ => ?_)
      obtain ⟨rfl, h16_, hs17_⟩ := q15_
      rcases h16_ with ⟨rfl, h16_⟩ | ⟨rfl, h16_⟩
      · simp only [li_0, li_20] at h16_
        refine w_if_ne (tgt := 41) dX11_moves_32 (by decide) li_1 (fun h18_ => ?_) (fun h9 => (absurd h9 (by decide)))
        refine w_aload dX11_moves_41 0 rfl ?_
        refine w_getR (c' := (36, 0, 0)) fl_RX11_99 rfl rfl (ic_7 (by decide)) dX11_moves_43 rfl ?_
        refine w_iload_n dX11_moves_46 rfl 2 rfl ?_
        refine w_iald rfl rfl (ic_36 (by decide)) (rfl : v.toInt = v.toInt) (lf_c_X7_factOf_1 v h4_ ) dX11_moves_47 (fun j21_ h22_ z19_ e20_ => ?_)
        refine w_iconst (v := 3) dX11_moves_48 (by decide) ?_
        refine w_icmp_ge (tgt := 58) dX11_moves_49 (by decide) (rfl : z19_.toInt = z19_.toInt) li_3 (fun h23_ => ?_) (fun h23_ => ?_)
        · refine w_aload dX11_moves_58 0 rfl ?_
          refine w_getR (c' := (37, 0, 0)) fl_RX11_102 rfl rfl (ic_7 (by decide)) dX11_moves_60 rfl ?_
          refine w_iload_n dX11_moves_63 rfl 2 rfl ?_
          refine w_iald rfl rfl (ic_37 (by decide)) (rfl : v.toInt = v.toInt) (lf_c_X7_factOf_1 v h4_ ) dX11_moves_64 (fun j26_ h27_ z24_ e25_ => ?_)
          refine w_if_ge (tgt := 74) dX11_moves_65 (by decide) (rfl : z24_.toInt = z24_.toInt) (fun h28_ => ?_) (fun h28_ => ?_)
          · refine w_aload dX11_moves_74 0 rfl ?_
            refine w_getR (c' := (38, 0, 0)) fl_RX11_105 rfl rfl (ic_7 (by decide)) dX11_moves_76 rfl ?_
            refine w_iload_n dX11_moves_79 rfl 2 rfl ?_
            refine w_iload_n dX11_moves_80 rfl 3 rfl ?_
            refine w_iast CC_nd rfl rfl (ic_38 (by decide)) (rfl : v.toInt = v.toInt) (lf_c_X7_factOf_1 v h4_ ) dX11_moves_81 (fun j31_ h32_ M29_ hM30_ => ?_)
            have hI33_ := hIz.put hM30_ trivial
            have hF34_ := hFz.put hM30_ (Or.inl ⟨rfl, rfl⟩)
            refine w_aload dX11_moves_82 0 rfl ?_
            refine w_getR (c' := (39, 0, 0)) fl_RX11_108 rfl rfl (ic_7 (by decide)) dX11_moves_84 rfl ?_
            refine w_iload_n dX11_moves_87 rfl 2 rfl ?_
            refine w_iload_n dX11_moves_88 rfl 4 rfl ?_
            refine w_iast CC_nd rfl rfl (ic_39 (by decide)) (rfl : v.toInt = v.toInt) (lf_c_X7_factOf_1 v h4_ ) dX11_moves_89 (fun j37_ h38_ M35_ hM36_ => ?_)
            have hI39_ := hI33_.put hM36_ trivial
            have hF40_ := hF34_.put hM36_ (Or.inr (Or.inl ⟨rfl, rfl⟩))
            refine w_iconst (v := 1) dX11_moves_90 (by decide) ?_
            exact w_iret rfl dX11_moves_91 ⟨hI39_, hF40_, trivial, (Or.inl ⟨hs5_, h4_, (Or.inl ⟨hs11_, h10_, (Or.inl ⟨hs17_, h16_, j21_, h22_, z19_, e20_, (Or.inl ⟨h23_, j26_, h27_, z24_, e25_, (Or.inl ⟨h28_, j31_, h32_, M29_, hM30_, j37_, h38_, M35_, hM36_, rfl, rfl⟩)⟩)⟩)⟩)⟩)⟩
          · refine w_aload_n dX11_moves_68 rfl 1 rfl ?_
            refine w_iconst (v := 3) dX11_moves_69 (by decide) ?_
            refine w_callV (as := [vI 3]) (rest := []) (c_X11_error l G cy ad d 3 Mz hIz) kV_X11_error pnn_0 (Nat.le_of_ble_eq_true rfl) m_500 rfl rfl rfl ic_11 rfl rfl (by decide) (Nat.le_of_ble_eq_true rfl) dX11_moves_70 (fun r41_ M42_ q43_ => ?_)
            obtain ⟨hI45_, hF46_, h44_, hs48_⟩ := q43_
            have hF47_ := hFz.tr hF46_ (fun c k => (fun h => h.elim (fun h => (Or.inr (Or.inr (Or.inl ⟨h.1, h.2⟩)))) (fun h => h.elim)))
            exact w_iret rfl dX11_moves_73 ⟨hI45_, hF47_, trivial, (Or.inl ⟨hs5_, h4_, (Or.inl ⟨hs11_, h10_, (Or.inl ⟨hs17_, h16_, j21_, h22_, z19_, e20_, (Or.inl ⟨h23_, j26_, h27_, z24_, e25_, (Or.inr ⟨h28_, M42_, hI45_, hF46_, r41_, hs48_, rfl, rfl⟩)⟩)⟩)⟩)⟩)⟩
        · refine w_aload_n dX11_moves_52 rfl 1 rfl ?_
          refine w_iconst (v := 5) dX11_moves_53 (by decide) ?_
          refine w_callV (as := [vI 5]) (rest := []) (c_X11_error l G cy ad d 5 Mz hIz) kV_X11_error pnn_0 (Nat.le_of_ble_eq_true rfl) m_500 rfl rfl rfl ic_11 rfl rfl (by decide) (Nat.le_of_ble_eq_true rfl) dX11_moves_54 (fun r49_ M50_ q51_ => ?_)
          obtain ⟨hI53_, hF54_, h52_, hs56_⟩ := q51_
          have hF55_ := hFz.tr hF54_ (fun c k => (fun h => h.elim (fun h => (Or.inr (Or.inr (Or.inl ⟨h.1, h.2⟩)))) (fun h => h.elim)))
          exact w_iret rfl dX11_moves_57 ⟨hI53_, hF55_, trivial, (Or.inl ⟨hs5_, h4_, (Or.inl ⟨hs11_, h10_, (Or.inl ⟨hs17_, h16_, j21_, h22_, z19_, e20_, (Or.inr ⟨h23_, M50_, hI53_, hF54_, r49_, hs56_, rfl, rfl⟩)⟩)⟩)⟩)⟩
      · simp only [li_0, li_20] at h16_
        refine w_if_ne (tgt := 41) dX11_moves_32 (by decide) li_0 (fun h9 => (absurd h9 (by decide))) (fun h57_ => ?_)
        refine w_aload_n dX11_moves_35 rfl 1 rfl ?_
        refine w_iconst (v := 1) dX11_moves_36 (by decide) ?_
        refine w_callV (as := [vI 1]) (rest := []) (c_X11_error l G cy ad d 1 Mz hIz) kV_X11_error pnn_0 (Nat.le_of_ble_eq_true rfl) m_500 rfl rfl rfl ic_11 rfl rfl (by decide) (Nat.le_of_ble_eq_true rfl) dX11_moves_37 (fun r58_ M59_ q60_ => ?_)
        obtain ⟨hI62_, hF63_, h61_, hs65_⟩ := q60_
        have hF64_ := hFz.tr hF63_ (fun c k => (fun h => h.elim (fun h => (Or.inr (Or.inr (Or.inl ⟨h.1, h.2⟩)))) (fun h => h.elim)))
        exact w_iret rfl dX11_moves_40 ⟨hI62_, hF64_, trivial, (Or.inl ⟨hs5_, h4_, (Or.inl ⟨hs11_, h10_, (Or.inr ⟨hs17_, h16_, M59_, hI62_, hF63_, r58_, hs65_, rfl, rfl⟩)⟩)⟩)⟩
    · refine w_if_eq (tgt := 35) dX11_moves_22 (by decide) li_0 (fun h66_ => ?_) (fun h9 => (absurd h9 (by decide)))
      refine w_aload_n dX11_moves_35 rfl 1 rfl ?_
      refine w_iconst (v := 1) dX11_moves_36 (by decide) ?_
      refine w_callV (as := [vI 1]) (rest := []) (c_X11_error l G cy ad d 1 Mz hIz) kV_X11_error pnn_0 (Nat.le_of_ble_eq_true rfl) m_500 rfl rfl rfl ic_11 rfl rfl (by decide) (Nat.le_of_ble_eq_true rfl) dX11_moves_37 (fun r67_ M68_ q69_ => ?_)
      obtain ⟨hI71_, hF72_, h70_, hs74_⟩ := q69_
      have hF73_ := hFz.tr hF72_ (fun c k => (fun h => h.elim (fun h => (Or.inr (Or.inr (Or.inl ⟨h.1, h.2⟩)))) (fun h => h.elim)))
      exact w_iret rfl dX11_moves_40 ⟨hI71_, hF73_, trivial, (Or.inl ⟨hs5_, h4_, (Or.inr ⟨hs11_, h10_, M68_, hI71_, hF72_, r67_, hs74_, rfl, rfl⟩)⟩)⟩
  · refine w_if_eq (tgt := 35) dX11_moves_15 (by decide) li_0 (fun h75_ => ?_) (fun h9 => (absurd h9 (by decide)))
    refine w_aload_n dX11_moves_35 rfl 1 rfl ?_
    refine w_iconst (v := 1) dX11_moves_36 (by decide) ?_
    refine w_callV (as := [vI 1]) (rest := []) (c_X11_error l G cy ad d 1 Mz hIz) kV_X11_error pnn_0 (Nat.le_of_ble_eq_true rfl) m_500 rfl rfl rfl ic_11 rfl rfl (by decide) (Nat.le_of_ble_eq_true rfl) dX11_moves_37 (fun r76_ M77_ q78_ => ?_)
    obtain ⟨hI80_, hF81_, h79_, hs83_⟩ := q78_
    have hF82_ := hFz.tr hF81_ (fun c k => (fun h => h.elim (fun h => (Or.inr (Or.inr (Or.inl ⟨h.1, h.2⟩)))) (fun h => h.elim)))
    exact w_iret rfl dX11_moves_40 ⟨hI80_, hF82_, trivial, (Or.inr ⟨hs5_, M77_, hI80_, hF81_, r76_, hs83_, rfl, rfl⟩)⟩
def S_c_X11_away : rf → Nat → Prop := fun c k => (c.1 = 35 ∧ c.2.1 = 0) ∨ (c.1 = 37 ∧ c.2.1 = 0) ∨ (c.1 = 44 ∧ c.2.1 = 0) ∨ False
def SP_X11_away (v : Int32) (Mz : mM) (r_ : Int32) (M_ : mM) : Prop := (((SP_X7_hasThing 0 v Mz (1 : Int32)) ∧ (0 ≤ v.toInt ∧ v.toInt ≤ 39) ∧ ∃ j9_ : Nat, ((j9_ : Int) = v.toInt) ∧ ∃ z7_ : Int32, (z7_ = Mz.1 (37, 0, 0) j9_) ∧ (((0 ≤ z7_.toInt) ∧ ∃ M13_ : mM, (Inv M13_) ∧ (FR (S_c_X7_takeAway 0) Mz M13_) ∧ ∃ r12_ : Int32, (SP_X7_takeAway 0 v Mz r12_ M13_) ∧ r_ = r12_ ∧ M_ = M13_) ∨ ((z7_.toInt < 0) ∧ ∃ M21_ : mM, (Inv M21_) ∧ (FR (S_c_X11_error) Mz M21_) ∧ ∃ r20_ : Int32, (SP_X11_error 3 Mz r20_ M21_) ∧ r_ = r20_ ∧ M_ = M21_))) ∨ ((SP_X7_hasThing 0 v Mz (0 : Int32)) ∧ ∃ M30_ : mM, (Inv M30_) ∧ (FR (S_c_X11_error) Mz M30_) ∧ ∃ r29_ : Int32, (SP_X11_error 1 Mz r29_ M30_) ∧ r_ = r29_ ∧ M_ = M30_))
set_option maxHeartbeats 4000000 in
set_option maxRecDepth 100000 in
theorem c_X11_away (l : Launch) (G : va_G) (cy : Nat → ClassId) (ad : rf → Nat) (d : Nat) (v : Int32) (Mz : mM) (hIz : Inv Mz) : WP CC l G cy ad yX11_away cX11_away 2 (some .int) (d + 3) 0 [(0, vR (11, 0, 0)), (1, vI v)] [] Mz (fun r M' => Inv M' ∧ FR (S_c_X11_away) Mz M' ∧ (True) ∧ SP_X11_away v Mz r M') := by
  have hFz : FR (S_c_X11_away) Mz Mz := FR.self
  refine w_aload_n dX11_away_0 rfl 0 rfl ?_
  refine w_getR (c' := (10, 0, 0)) fl_RX11_10 rfl rfl ic_11 dX11_away_1 rfl ?_
  refine w_getR (c' := (7, 0, 0)) fl_RX11_71 rfl rfl (ic_10 (by decide)) dX11_away_4 rfl ?_
  refine w_iload_n dX11_away_7 rfl 1 rfl ?_
  refine w_callV (as := [vI v]) (rest := []) (c_X7_hasThing l G cy ad (d + 2) 0 v Mz hIz (by first | decide | (unfold vF; omega) | (unfold vRw; omega))) kV_X7_hasThing pnn_1 (Nat.le_of_ble_eq_true rfl) m_526 rfl rfl rfl (ic_7 (by decide)) rfl rfl (by decide) (Nat.le_of_ble_eq_true rfl) dX11_away_8 (fun r1_ M2_ q3_ => ?_)
  obtain ⟨rfl, h4_, hs5_⟩ := q3_
  rcases h4_ with ⟨rfl, h4_⟩ | rfl
  · refine w_if_ne (tgt := 20) dX11_away_11 (by decide) li_1 (fun h6_ => ?_) (fun h9 => (absurd h9 (by decide)))
    refine w_aload_n dX11_away_20 rfl 0 rfl ?_
    refine w_getR (c' := (10, 0, 0)) fl_RX11_10 rfl rfl ic_11 dX11_away_21 rfl ?_
    refine w_getR (c' := (7, 0, 0)) fl_RX11_71 rfl rfl (ic_10 (by decide)) dX11_away_24 rfl ?_
    refine w_getR (c' := (37, 0, 0)) fl_RX11_102 rfl rfl (ic_7 (by decide)) dX11_away_27 rfl ?_
    refine w_iload_n dX11_away_30 rfl 1 rfl ?_
    refine w_iald rfl rfl (ic_37 (by decide)) (rfl : v.toInt = v.toInt) (lf_c_X7_factOf_1 v h4_ ) dX11_away_31 (fun j9_ h10_ z7_ e8_ => ?_)
    refine w_if_ge (tgt := 41) dX11_away_32 (by decide) (rfl : z7_.toInt = z7_.toInt) (fun h11_ => ?_) (fun h11_ => ?_)
    · refine w_aload_n dX11_away_41 rfl 0 rfl ?_
      refine w_getR (c' := (10, 0, 0)) fl_RX11_10 rfl rfl ic_11 dX11_away_42 rfl ?_
      refine w_getR (c' := (7, 0, 0)) fl_RX11_71 rfl rfl (ic_10 (by decide)) dX11_away_45 rfl ?_
      refine w_iload_n dX11_away_48 rfl 1 rfl ?_
      refine w_callV (as := [vI v]) (rest := []) (c_X7_takeAway l G cy ad d 0 v Mz hIz (by first | decide | (unfold vF; omega) | (unfold vRw; omega))) kV_X7_takeAway pnn_1 (Nat.le_of_ble_eq_true rfl) m_546 rfl rfl rfl (ic_7 (by decide)) rfl rfl (by decide) (Nat.le_of_ble_eq_true rfl) dX11_away_49 (fun r12_ M13_ q14_ => ?_)
      obtain ⟨hI16_, hF17_, h15_, hs19_⟩ := q14_
      have hF18_ := hFz.tr hF17_ (fun c k => (fun h => h.elim (fun h => (Or.inl ⟨h.1, h.2⟩)) (fun h => h.elim (fun h => (Or.inr (Or.inl ⟨h.1, h.2⟩))) (fun h => h.elim))))
      exact w_iret rfl dX11_away_52 ⟨hI16_, hF18_, trivial, (Or.inl ⟨hs5_, h4_, j9_, h10_, z7_, e8_, (Or.inl ⟨h11_, M13_, hI16_, hF17_, r12_, hs19_, rfl, rfl⟩)⟩)⟩
    · refine w_aload_n dX11_away_35 rfl 0 rfl ?_
      refine w_iconst (v := 3) dX11_away_36 (by decide) ?_
      refine w_callV (as := [vI 3]) (rest := []) (c_X11_error l G cy ad (d + 2) 3 Mz hIz) kV_X11_error pnn_0 (Nat.le_of_ble_eq_true rfl) m_500 rfl rfl rfl ic_11 rfl rfl (by decide) (Nat.le_of_ble_eq_true rfl) dX11_away_37 (fun r20_ M21_ q22_ => ?_)
      obtain ⟨hI24_, hF25_, h23_, hs27_⟩ := q22_
      have hF26_ := hFz.tr hF25_ (fun c k => (fun h => h.elim (fun h => (Or.inr (Or.inr (Or.inl ⟨h.1, h.2⟩)))) (fun h => h.elim)))
      exact w_iret rfl dX11_away_40 ⟨hI24_, hF26_, trivial, (Or.inl ⟨hs5_, h4_, j9_, h10_, z7_, e8_, (Or.inr ⟨h11_, M21_, hI24_, hF25_, r20_, hs27_, rfl, rfl⟩)⟩)⟩
  · refine w_if_ne (tgt := 20) dX11_away_11 (by decide) li_0 (fun h9 => (absurd h9 (by decide))) (fun h28_ => ?_)
    refine w_aload_n dX11_away_14 rfl 0 rfl ?_
    refine w_iconst (v := 1) dX11_away_15 (by decide) ?_
    refine w_callV (as := [vI 1]) (rest := []) (c_X11_error l G cy ad (d + 2) 1 Mz hIz) kV_X11_error pnn_0 (Nat.le_of_ble_eq_true rfl) m_500 rfl rfl rfl ic_11 rfl rfl (by decide) (Nat.le_of_ble_eq_true rfl) dX11_away_16 (fun r29_ M30_ q31_ => ?_)
    obtain ⟨hI33_, hF34_, h32_, hs36_⟩ := q31_
    have hF35_ := hFz.tr hF34_ (fun c k => (fun h => h.elim (fun h => (Or.inr (Or.inr (Or.inl ⟨h.1, h.2⟩)))) (fun h => h.elim)))
    exact w_iret rfl dX11_away_19 ⟨hI33_, hF35_, trivial, (Or.inr ⟨hs5_, M30_, hI33_, hF34_, r29_, hs36_, rfl, rfl⟩)⟩
def S_c_X11_kind : rf → Nat → Prop := fun c k => (c.1 = 27 ∧ c.2.1 = 0) ∨ (c.1 = 26 ∧ c.2.1 = 0) ∨ (c.1 = 44 ∧ c.2.1 = 0) ∨ False
def SP_X11_kind (v : Int32) (u : Int32) (t : Int32) (Mz : mM) (r_ : Int32) (M_ : mM) : Prop := (((SP_X11_isThingKind v Mz (1 : Int32)) ∧ (0 ≤ v.toInt ∧ v.toInt ≤ 4) ∧ (((SP_X11_within u 0 1 Mz (1 : Int32)) ∧ (0 ≤ u.toInt ∧ u.toInt ≤ 1) ∧ (((¬ u.toInt = 0) ∧ (((SP_X11_within t 0 9 Mz (1 : Int32)) ∧ (0 ≤ t.toInt ∧ t.toInt ≤ 9) ∧ ∃ M21_ : mM, (Inv M21_) ∧ (FR (S_c_X2_changeKind 0) Mz M21_) ∧ ∃ r20_ : Int32, (SP_X2_changeKind 0 v u t Mz r20_ M21_) ∧ r_ = r20_ ∧ M_ = M21_) ∨ ((SP_X11_within t 0 9 Mz (0 : Int32)) ∧ (¬ (0 ≤ t.toInt ∧ t.toInt ≤ 9)) ∧ ∃ M30_ : mM, (Inv M30_) ∧ (FR (S_c_X11_error) Mz M30_) ∧ ∃ r29_ : Int32, (SP_X11_error 1 Mz r29_ M30_) ∧ r_ = r29_ ∧ M_ = M30_))) ∨ ((u.toInt = 0) ∧ (((SP_X11_within t 0 99 Mz (1 : Int32)) ∧ (0 ≤ t.toInt ∧ t.toInt ≤ 99) ∧ ∃ M44_ : mM, (Inv M44_) ∧ (FR (S_c_X2_changeKind 0) Mz M44_) ∧ ∃ r43_ : Int32, (SP_X2_changeKind 0 v u t Mz r43_ M44_) ∧ r_ = r43_ ∧ M_ = M44_) ∨ ((SP_X11_within t 0 99 Mz (0 : Int32)) ∧ (¬ (0 ≤ t.toInt ∧ t.toInt ≤ 99)) ∧ ∃ M53_ : mM, (Inv M53_) ∧ (FR (S_c_X11_error) Mz M53_) ∧ ∃ r52_ : Int32, (SP_X11_error 1 Mz r52_ M53_) ∧ r_ = r52_ ∧ M_ = M53_))))) ∨ ((SP_X11_within u 0 1 Mz (0 : Int32)) ∧ (¬ (0 ≤ u.toInt ∧ u.toInt ≤ 1)) ∧ ∃ M62_ : mM, (Inv M62_) ∧ (FR (S_c_X11_error) Mz M62_) ∧ ∃ r61_ : Int32, (SP_X11_error 1 Mz r61_ M62_) ∧ r_ = r61_ ∧ M_ = M62_))) ∨ ((SP_X11_isThingKind v Mz (0 : Int32)) ∧ (¬ (0 ≤ v.toInt ∧ v.toInt ≤ 4)) ∧ ∃ M71_ : mM, (Inv M71_) ∧ (FR (S_c_X11_error) Mz M71_) ∧ ∃ r70_ : Int32, (SP_X11_error 1 Mz r70_ M71_) ∧ r_ = r70_ ∧ M_ = M71_))
set_option maxHeartbeats 4000000 in
set_option maxRecDepth 100000 in
theorem c_X11_kind (l : Launch) (G : va_G) (cy : Nat → ClassId) (ad : rf → Nat) (d : Nat) (v : Int32) (u : Int32) (t : Int32) (Mz : mM) (hIz : Inv Mz) : WP CC l G cy ad yX11_kind cX11_kind 4 (some .int) (d + 2) 0 [(0, vR (11, 0, 0)), (1, vI v), (2, vI u), (3, vI t)] [] Mz (fun r M' => Inv M' ∧ FR (S_c_X11_kind) Mz M' ∧ (True) ∧ SP_X11_kind v u t Mz r M') := by
  have hFz : FR (S_c_X11_kind) Mz Mz := FR.self
  refine w_iload_n dX11_kind_0 rfl 1 rfl ?_
  refine w_callS (as := [vI v]) (rest := []) (c_X11_isThingKind l G cy ad d v Mz hIz) kS_X11_isThingKind pnn_0 (Nat.le_of_ble_eq_true rfl) m_491 rfl rfl (by decide) (Nat.le_of_ble_eq_true rfl) dX11_kind_1 (fun r1_ M2_ q3_ => ?_)
  obtain ⟨rfl, h4_, hs5_⟩ := q3_
  rcases h4_ with ⟨rfl, h4_⟩ | ⟨rfl, h4_⟩
  · refine w_if_eq (tgt := 35) dX11_kind_4 (by decide) li_1 (fun h9 => (absurd h9 (by decide))) (fun h6_ => ?_)
    refine w_iload_n dX11_kind_7 rfl 2 rfl ?_
    refine w_iconst (v := 0) dX11_kind_8 (by decide) ?_
    refine w_iconst (v := 1) dX11_kind_9 (by decide) ?_
    refine w_callS (as := [vI u, vI 0, vI 1]) (rest := []) (c_X11_within l G cy ad (d + 1) u 0 1 Mz hIz) kS_X11_within pnn_0 (Nat.le_of_ble_eq_true rfl) m_494 rfl rfl (by decide) (Nat.le_of_ble_eq_true rfl) dX11_kind_10 (fun r7_ M8_ q9_ => ?_)
    obtain ⟨rfl, h10_, hs11_⟩ := q9_
    rcases h10_ with ⟨rfl, h10_⟩ | ⟨rfl, h10_⟩
    · simp only [li_0, li_1] at h10_
      refine w_if_eq (tgt := 35) dX11_kind_13 (by decide) li_1 (fun h9 => (absurd h9 (by decide))) (fun h12_ => ?_)
      refine w_iload_n dX11_kind_16 rfl 3 rfl ?_
      refine w_iconst (v := 0) dX11_kind_17 (by decide) ?_
      refine w_iload_n dX11_kind_18 rfl 2 rfl ?_
      refine w_if_ne (tgt := 27) dX11_kind_19 (by decide) (rfl : u.toInt = u.toInt) (fun h13_ => ?_) (fun h13_ => ?_)
      · refine w_bipush (v := 9) dX11_kind_27 (by decide) ?_
        refine w_callS (as := [vI t, vI 0, vI 9]) (rest := []) (c_X11_within l G cy ad (d + 1) t 0 9 Mz hIz) kS_X11_within pnn_0 (Nat.le_of_ble_eq_true rfl) m_494 rfl rfl (by decide) (Nat.le_of_ble_eq_true rfl) dX11_kind_29 (fun r14_ M15_ q16_ => ?_)
        obtain ⟨rfl, h17_, hs18_⟩ := q16_
        rcases h17_ with ⟨rfl, h17_⟩ | ⟨rfl, h17_⟩
        · simp only [li_0, li_9] at h17_
          refine w_if_ne (tgt := 41) dX11_kind_32 (by decide) li_1 (fun h19_ => ?_) (fun h9 => (absurd h9 (by decide)))
          refine w_aload_n dX11_kind_41 rfl 0 rfl ?_
          refine w_getR (c' := (10, 0, 0)) fl_RX11_10 rfl rfl ic_11 dX11_kind_42 rfl ?_
          refine w_getR (c' := (2, 0, 0)) fl_RX11_114 rfl rfl (ic_10 (by decide)) dX11_kind_45 rfl ?_
          refine w_iload_n dX11_kind_48 rfl 1 rfl ?_
          refine w_iload_n dX11_kind_49 rfl 2 rfl ?_
          refine w_iload_n dX11_kind_50 rfl 3 rfl ?_
          refine w_callV (as := [vI v, vI u, vI t]) (rest := []) (c_X2_changeKind l G cy ad (d + 1) 0 v u t Mz hIz (by first | decide | (unfold vF; omega) | (unfold vRw; omega))) kV_X2_changeKind pnn_5 (Nat.le_of_ble_eq_true rfl) m_554 rfl rfl rfl (ic_2 (by decide)) rfl rfl (by decide) (Nat.le_of_ble_eq_true rfl) dX11_kind_51 (fun r20_ M21_ q22_ => ?_)
          obtain ⟨hI24_, hF25_, h23_, hs27_⟩ := q22_
          have hF26_ := hFz.tr hF25_ (fun c k => (fun h => h.elim (fun h => (Or.inl ⟨h.1, h.2⟩)) (fun h => h.elim (fun h => (Or.inr (Or.inl ⟨h.1, h.2⟩))) (fun h => h.elim))))
          exact w_iret rfl dX11_kind_54 ⟨hI24_, hF26_, trivial, (Or.inl ⟨hs5_, h4_, (Or.inl ⟨hs11_, h10_, (Or.inl ⟨h13_, (Or.inl ⟨hs18_, h17_, M21_, hI24_, hF25_, r20_, hs27_, rfl, rfl⟩)⟩)⟩)⟩)⟩
        · simp only [li_0, li_9] at h17_
          refine w_if_ne (tgt := 41) dX11_kind_32 (by decide) li_0 (fun h9 => (absurd h9 (by decide))) (fun h28_ => ?_)
          refine w_aload_n dX11_kind_35 rfl 0 rfl ?_
          refine w_iconst (v := 1) dX11_kind_36 (by decide) ?_
          refine w_callV (as := [vI 1]) (rest := []) (c_X11_error l G cy ad (d + 1) 1 Mz hIz) kV_X11_error pnn_0 (Nat.le_of_ble_eq_true rfl) m_500 rfl rfl rfl ic_11 rfl rfl (by decide) (Nat.le_of_ble_eq_true rfl) dX11_kind_37 (fun r29_ M30_ q31_ => ?_)
          obtain ⟨hI33_, hF34_, h32_, hs36_⟩ := q31_
          have hF35_ := hFz.tr hF34_ (fun c k => (fun h => h.elim (fun h => (Or.inr (Or.inr (Or.inl ⟨h.1, h.2⟩)))) (fun h => h.elim)))
          exact w_iret rfl dX11_kind_40 ⟨hI33_, hF35_, trivial, (Or.inl ⟨hs5_, h4_, (Or.inl ⟨hs11_, h10_, (Or.inl ⟨h13_, (Or.inr ⟨hs18_, h17_, M30_, hI33_, hF34_, r29_, hs36_, rfl, rfl⟩)⟩)⟩)⟩)⟩
      · refine w_bipush (v := 99) dX11_kind_22 (by decide) ?_
        refine w_goto (tgt := 29) dX11_kind_24 (by decide) ?_
        refine w_callS (as := [vI t, vI 0, vI 99]) (rest := []) (c_X11_within l G cy ad (d + 1) t 0 99 Mz hIz) kS_X11_within pnn_0 (Nat.le_of_ble_eq_true rfl) m_494 rfl rfl (by decide) (Nat.le_of_ble_eq_true rfl) dX11_kind_29 (fun r37_ M38_ q39_ => ?_)
        obtain ⟨rfl, h40_, hs41_⟩ := q39_
        rcases h40_ with ⟨rfl, h40_⟩ | ⟨rfl, h40_⟩
        · simp only [li_0, li_99] at h40_
          refine w_if_ne (tgt := 41) dX11_kind_32 (by decide) li_1 (fun h42_ => ?_) (fun h9 => (absurd h9 (by decide)))
          refine w_aload_n dX11_kind_41 rfl 0 rfl ?_
          refine w_getR (c' := (10, 0, 0)) fl_RX11_10 rfl rfl ic_11 dX11_kind_42 rfl ?_
          refine w_getR (c' := (2, 0, 0)) fl_RX11_114 rfl rfl (ic_10 (by decide)) dX11_kind_45 rfl ?_
          refine w_iload_n dX11_kind_48 rfl 1 rfl ?_
          refine w_iload_n dX11_kind_49 rfl 2 rfl ?_
          refine w_iload_n dX11_kind_50 rfl 3 rfl ?_
          refine w_callV (as := [vI v, vI u, vI t]) (rest := []) (c_X2_changeKind l G cy ad (d + 1) 0 v u t Mz hIz (by first | decide | (unfold vF; omega) | (unfold vRw; omega))) kV_X2_changeKind pnn_5 (Nat.le_of_ble_eq_true rfl) m_554 rfl rfl rfl (ic_2 (by decide)) rfl rfl (by decide) (Nat.le_of_ble_eq_true rfl) dX11_kind_51 (fun r43_ M44_ q45_ => ?_)
          obtain ⟨hI47_, hF48_, h46_, hs50_⟩ := q45_
          have hF49_ := hFz.tr hF48_ (fun c k => (fun h => h.elim (fun h => (Or.inl ⟨h.1, h.2⟩)) (fun h => h.elim (fun h => (Or.inr (Or.inl ⟨h.1, h.2⟩))) (fun h => h.elim))))
          exact w_iret rfl dX11_kind_54 ⟨hI47_, hF49_, trivial, (Or.inl ⟨hs5_, h4_, (Or.inl ⟨hs11_, h10_, (Or.inr ⟨h13_, (Or.inl ⟨hs41_, h40_, M44_, hI47_, hF48_, r43_, hs50_, rfl, rfl⟩)⟩)⟩)⟩)⟩
        · simp only [li_0, li_99] at h40_
          refine w_if_ne (tgt := 41) dX11_kind_32 (by decide) li_0 (fun h9 => (absurd h9 (by decide))) (fun h51_ => ?_)
          refine w_aload_n dX11_kind_35 rfl 0 rfl ?_
          refine w_iconst (v := 1) dX11_kind_36 (by decide) ?_
          refine w_callV (as := [vI 1]) (rest := []) (c_X11_error l G cy ad (d + 1) 1 Mz hIz) kV_X11_error pnn_0 (Nat.le_of_ble_eq_true rfl) m_500 rfl rfl rfl ic_11 rfl rfl (by decide) (Nat.le_of_ble_eq_true rfl) dX11_kind_37 (fun r52_ M53_ q54_ => ?_)
          obtain ⟨hI56_, hF57_, h55_, hs59_⟩ := q54_
          have hF58_ := hFz.tr hF57_ (fun c k => (fun h => h.elim (fun h => (Or.inr (Or.inr (Or.inl ⟨h.1, h.2⟩)))) (fun h => h.elim)))
          exact w_iret rfl dX11_kind_40 ⟨hI56_, hF58_, trivial, (Or.inl ⟨hs5_, h4_, (Or.inl ⟨hs11_, h10_, (Or.inr ⟨h13_, (Or.inr ⟨hs41_, h40_, M53_, hI56_, hF57_, r52_, hs59_, rfl, rfl⟩)⟩)⟩)⟩)⟩
    · simp only [li_0, li_1] at h10_
      refine w_if_eq (tgt := 35) dX11_kind_13 (by decide) li_0 (fun h60_ => ?_) (fun h9 => (absurd h9 (by decide)))
      refine w_aload_n dX11_kind_35 rfl 0 rfl ?_
      refine w_iconst (v := 1) dX11_kind_36 (by decide) ?_
      refine w_callV (as := [vI 1]) (rest := []) (c_X11_error l G cy ad (d + 1) 1 Mz hIz) kV_X11_error pnn_0 (Nat.le_of_ble_eq_true rfl) m_500 rfl rfl rfl ic_11 rfl rfl (by decide) (Nat.le_of_ble_eq_true rfl) dX11_kind_37 (fun r61_ M62_ q63_ => ?_)
      obtain ⟨hI65_, hF66_, h64_, hs68_⟩ := q63_
      have hF67_ := hFz.tr hF66_ (fun c k => (fun h => h.elim (fun h => (Or.inr (Or.inr (Or.inl ⟨h.1, h.2⟩)))) (fun h => h.elim)))
      exact w_iret rfl dX11_kind_40 ⟨hI65_, hF67_, trivial, (Or.inl ⟨hs5_, h4_, (Or.inr ⟨hs11_, h10_, M62_, hI65_, hF66_, r61_, hs68_, rfl, rfl⟩)⟩)⟩
  · refine w_if_eq (tgt := 35) dX11_kind_4 (by decide) li_0 (fun h69_ => ?_) (fun h9 => (absurd h9 (by decide)))
    refine w_aload_n dX11_kind_35 rfl 0 rfl ?_
    refine w_iconst (v := 1) dX11_kind_36 (by decide) ?_
    refine w_callV (as := [vI 1]) (rest := []) (c_X11_error l G cy ad (d + 1) 1 Mz hIz) kV_X11_error pnn_0 (Nat.le_of_ble_eq_true rfl) m_500 rfl rfl rfl ic_11 rfl rfl (by decide) (Nat.le_of_ble_eq_true rfl) dX11_kind_37 (fun r70_ M71_ q72_ => ?_)
    obtain ⟨hI74_, hF75_, h73_, hs77_⟩ := q72_
    have hF76_ := hFz.tr hF75_ (fun c k => (fun h => h.elim (fun h => (Or.inr (Or.inr (Or.inl ⟨h.1, h.2⟩)))) (fun h => h.elim)))
    exact w_iret rfl dX11_kind_40 ⟨hI74_, hF76_, trivial, (Or.inr ⟨hs5_, h4_, M71_, hI74_, hF75_, r70_, hs77_, rfl, rfl⟩)⟩
def S_c_X11_at : rf → Nat → Prop := fun c k => (c.1 = 44 ∧ c.2.1 = 0) ∨ False
def SP_X11_at (v : Int32) (Mz : mM) (r_ : Int32) (M_ : mM) : Prop := (((SP_X7_isCell v Mz (1 : Int32)) ∧ (0 ≤ v.toInt ∧ v.toInt ≤ 191) ∧ ∃ j9_ : Nat, ((j9_ : Int) = v.toInt) ∧ ∃ z7_ : Int32, (z7_ = Mz.1 (35, 0, 0) j9_) ∧ r_ = z7_ ∧ M_ = Mz) ∨ ((SP_X7_isCell v Mz (0 : Int32)) ∧ (¬ (0 ≤ v.toInt ∧ v.toInt ≤ 191)) ∧ ∃ M13_ : mM, (Inv M13_) ∧ (FR (S_c_X11_error) Mz M13_) ∧ ∃ r12_ : Int32, (SP_X11_error 1 Mz r12_ M13_) ∧ r_ = r12_ ∧ M_ = M13_))
set_option maxHeartbeats 4000000 in
set_option maxRecDepth 100000 in
theorem c_X11_at (l : Launch) (G : va_G) (cy : Nat → ClassId) (ad : rf → Nat) (d : Nat) (v : Int32) (Mz : mM) (hIz : Inv Mz) : WP CC l G cy ad yX11_at cX11_at 2 (some .int) (d + 1) 0 [(0, vR (11, 0, 0)), (1, vI v)] [] Mz (fun r M' => Inv M' ∧ FR (S_c_X11_at) Mz M' ∧ (True) ∧ SP_X11_at v Mz r M') := by
  have hFz : FR (S_c_X11_at) Mz Mz := FR.self
  refine w_iload_n dX11_at_0 rfl 1 rfl ?_
  refine w_callS (as := [vI v]) (rest := []) (c_X7_isCell l G cy ad d v Mz hIz) kS_X7_isCell pnn_1 (Nat.le_of_ble_eq_true rfl) m_497 rfl rfl (by decide) (Nat.le_of_ble_eq_true rfl) dX11_at_1 (fun r1_ M2_ q3_ => ?_)
  obtain ⟨rfl, h4_, hs5_⟩ := q3_
  rcases h4_ with ⟨rfl, h4_⟩ | ⟨rfl, h4_⟩
  · refine w_if_ne (tgt := 13) dX11_at_4 (by decide) li_1 (fun h6_ => ?_) (fun h9 => (absurd h9 (by decide)))
    refine w_aload_n dX11_at_13 rfl 0 rfl ?_
    refine w_getR (c' := (10, 0, 0)) fl_RX11_10 rfl rfl ic_11 dX11_at_14 rfl ?_
    refine w_getR (c' := (7, 0, 0)) fl_RX11_71 rfl rfl (ic_10 (by decide)) dX11_at_17 rfl ?_
    refine w_getR (c' := (35, 0, 0)) fl_RX11_124 rfl rfl (ic_7 (by decide)) dX11_at_20 rfl ?_
    refine w_iload_n dX11_at_23 rfl 1 rfl ?_
    refine w_iald rfl rfl (ic_35 (by decide)) (rfl : v.toInt = v.toInt) (lf_c_X7_isFree_0 v h4_ ) dX11_at_24 (fun j9_ h10_ z7_ e8_ => ?_)
    exact w_iret rfl dX11_at_25 ⟨hIz, hFz, trivial, (Or.inl ⟨hs5_, h4_, j9_, h10_, z7_, e8_, rfl, rfl⟩)⟩
  · refine w_if_ne (tgt := 13) dX11_at_4 (by decide) li_0 (fun h9 => (absurd h9 (by decide))) (fun h11_ => ?_)
    refine w_aload_n dX11_at_7 rfl 0 rfl ?_
    refine w_iconst (v := 1) dX11_at_8 (by decide) ?_
    refine w_callV (as := [vI 1]) (rest := []) (c_X11_error l G cy ad d 1 Mz hIz) kV_X11_error pnn_0 (Nat.le_of_ble_eq_true rfl) m_500 rfl rfl rfl ic_11 rfl rfl (by decide) (Nat.le_of_ble_eq_true rfl) dX11_at_9 (fun r12_ M13_ q14_ => ?_)
    obtain ⟨hI16_, hF17_, h15_, hs19_⟩ := q14_
    have hF18_ := hFz.tr hF17_ (fun c k => (fun h => h.elim (fun h => (Or.inl ⟨h.1, h.2⟩)) (fun h => h.elim)))
    exact w_iret rfl dX11_at_12 ⟨hI16_, hF18_, trivial, (Or.inr ⟨hs5_, h4_, M13_, hI16_, hF17_, r12_, hs19_, rfl, rfl⟩)⟩
def S_c_X11_lays : rf → Nat → Prop := fun c k => (c.1 = 36 ∧ c.2.1 = 0) ∨ (c.1 = 37 ∧ c.2.1 = 0) ∨ (c.1 = 38 ∧ c.2.1 = 0) ∨ (c.1 = 39 ∧ c.2.1 = 0) ∨ (c.1 = 35 ∧ c.2.1 = 0) ∨ (c.1 = 7 ∧ c.2.1 = 0 ∧ k = 5) ∨ (c.1 = 44 ∧ c.2.1 = 0) ∨ False
def ST_X11_lays_79 (u : Int32) (Mz : mM) (j13_ : Nat) (v5_79 : Int32) (v4_79 : Int32) (M_79 : mM) (v5_79y : Int32) (v4_79y : Int32) (M_79y : mM) : Prop := (0 ≤ v5_79.toInt) ∧ (Inv M_79) ∧ (FR (S_c_X11_lays) Mz M_79) ∧ ∃ z30_ : Int32, (z30_ = M_79.1 (6, 0, j13_) 1) ∧ (0 ≤ z30_.toInt ∧ z30_.toInt ≤ 24) ∧ (v5_79.toInt < z30_.toInt) ∧ ∃ r34_ : Int32, (SP_X6_numberAt j13_ v5_79 M_79 r34_) ∧ ∃ z39_ : Int32, (z39_ = r34_ - (1 : Int32)) ∧ ∃ z41_ : Int32, (z41_.toInt = 16 * u.toInt) ∧ ∃ z43_ : Int32, (z43_.toInt = z41_.toInt + v5_79.toInt) ∧ (((SP_X11_isThingKind z39_ M_79 (1 : Int32)) ∧ (0 ≤ z39_.toInt ∧ z39_.toInt ≤ 4) ∧ (((SP_X7_isFree 0 z43_ M_79 (1 : Int32)) ∧ (0 ≤ z43_.toInt ∧ z43_.toInt ≤ 191) ∧ ∃ r57_ : Int32, (SP_X7_hasRoom 0 M_79 r57_) ∧ ((0 ≤ r57_.toInt ∧ r57_.toInt ≤ 1)) ∧ (((r57_.toInt = 0) ∧ ∃ z63_ : Int32, (z63_.toInt = v5_79.toInt + 1) ∧ v5_79y = z63_ ∧ v4_79y = v4_79 ∧ M_79y = M_79) ∨ ((¬ r57_.toInt = 0) ∧ ∃ M66_ : mM, (Inv M66_) ∧ (FR (S_c_X7_addThing 0) M_79 M66_) ∧ ∃ r65_ : Int32, (SP_X7_addThing 0 z39_ z43_ M_79 r65_ M66_) ∧ ∃ z73_ : Int32, (z73_ = v4_79 + Int32.ofInt 1) ∧ ∃ z75_ : Int32, (z75_.toInt = v5_79.toInt + 1) ∧ v5_79y = z75_ ∧ v4_79y = z73_ ∧ M_79y = M66_))) ∨ ((SP_X7_isFree 0 z43_ M_79 (0 : Int32)) ∧ ∃ z78_ : Int32, (z78_.toInt = v5_79.toInt + 1) ∧ v5_79y = z78_ ∧ v4_79y = v4_79 ∧ M_79y = M_79))) ∨ ((SP_X11_isThingKind z39_ M_79 (0 : Int32)) ∧ (¬ (0 ≤ z39_.toInt ∧ z39_.toInt ≤ 4)) ∧ ∃ z81_ : Int32, (z81_.toInt = v5_79.toInt + 1) ∧ v5_79y = z81_ ∧ v4_79y = v4_79 ∧ M_79y = M_79))
def SP_X11_lays (v : Int32) (u : Int32) (Mz : mM) (r_ : Int32) (M_ : mM) : Prop := (((SP_X11_isSheet v Mz (1 : Int32)) ∧ (0 ≤ v.toInt ∧ v.toInt ≤ 3) ∧ (((SP_X11_within u 0 11 Mz (1 : Int32)) ∧ (0 ≤ u.toInt ∧ u.toInt ≤ 11) ∧ ∃ j13_ : Nat, ((j13_ : Int) = v.toInt) ∧ (j13_ < 4) ∧ ∃ r16_ : Int32, (SP_X6_isMissing j13_ Mz r16_) ∧ ((0 ≤ r16_.toInt ∧ r16_.toInt ≤ 1)) ∧ (((r16_.toInt = 0) ∧ ∃ z22_ : Int32, (z22_ = Mz.1 (6, 0, j13_) 0) ∧ (((z22_.toInt = 8) ∧ ∃ z25_ : Int32, (z25_ = Mz.1 (6, 0, j13_) 1) ∧ (0 ≤ z25_.toInt ∧ z25_.toInt ≤ 24) ∧ (((z25_.toInt ≤ 16) ∧ ∃ v5_79 : Int32, (0 ≤ v5_79.toInt) ∧ ∃ v4_79 : Int32, ∃ M_79 : mM, (RCH (fun x_ y_ => ST_X11_lays_79 u Mz j13_ x_.1 x_.2.1 x_.2.2 y_.1 y_.2.1 y_.2.2) ((0 : Int32), (0 : Int32), Mz) (v5_79, v4_79, M_79)) ∧ (Inv M_79) ∧ (FR (S_c_X11_lays) Mz M_79) ∧ ∃ z30_ : Int32, (z30_ = M_79.1 (6, 0, j13_) 1) ∧ (0 ≤ z30_.toInt ∧ z30_.toInt ≤ 24) ∧ (z30_.toInt ≤ v5_79.toInt) ∧ r_ = v4_79 ∧ M_ = M_79) ∨ ((16 < z25_.toInt) ∧ ∃ M84_ : mM, (Inv M84_) ∧ (FR (S_c_X11_error) Mz M84_) ∧ ∃ r83_ : Int32, (SP_X11_error 3 Mz r83_ M84_) ∧ r_ = r83_ ∧ M_ = M84_))) ∨ ((¬ z22_.toInt = 8) ∧ ∃ M92_ : mM, (Inv M92_) ∧ (FR (S_c_X11_error) Mz M92_) ∧ ∃ r91_ : Int32, (SP_X11_error 5 Mz r91_ M92_) ∧ r_ = r91_ ∧ M_ = M92_))) ∨ ((¬ r16_.toInt = 0) ∧ ∃ M100_ : mM, (Inv M100_) ∧ (FR (S_c_X11_error) Mz M100_) ∧ ∃ r99_ : Int32, (SP_X11_error 2 Mz r99_ M100_) ∧ r_ = r99_ ∧ M_ = M100_))) ∨ ((SP_X11_within u 0 11 Mz (0 : Int32)) ∧ (¬ (0 ≤ u.toInt ∧ u.toInt ≤ 11)) ∧ ∃ M109_ : mM, (Inv M109_) ∧ (FR (S_c_X11_error) Mz M109_) ∧ ∃ r108_ : Int32, (SP_X11_error 1 Mz r108_ M109_) ∧ r_ = r108_ ∧ M_ = M109_))) ∨ ((SP_X11_isSheet v Mz (0 : Int32)) ∧ (¬ (0 ≤ v.toInt ∧ v.toInt ≤ 3)) ∧ ∃ M118_ : mM, (Inv M118_) ∧ (FR (S_c_X11_error) Mz M118_) ∧ ∃ r117_ : Int32, (SP_X11_error 1 Mz r117_ M118_) ∧ r_ = r117_ ∧ M_ = M118_))
theorem lf_c_X11_lays_0 (v : Int32) (h4_ : 0 ≤ v.toInt ∧ v.toInt ≤ 3) : 0 ≤ v.toInt ∧ v.toInt < ((4 : Nat) : Int) := by omega
theorem lf_c_X11_lays_1 (u : Int32) (h10_ : 0 ≤ u.toInt ∧ u.toInt ≤ 11) : -2147483648 ≤ 16 * u.toInt ∧ 16 * u.toInt < 2147483648 := by omega
theorem lf_c_X11_lays_2 (u : Int32) (v5_79 : Int32) (z30_ : Int32) (z41_ : Int32) (h10_ : 0 ≤ u.toInt ∧ u.toInt ≤ 11) (hv0_79 : 0 ≤ v5_79.toInt) (h32_ : 0 ≤ z30_.toInt ∧ z30_.toInt ≤ 24) (h33_ : v5_79.toInt < z30_.toInt) (h42_ : z41_.toInt = 16 * u.toInt) : -2147483648 ≤ z41_.toInt + v5_79.toInt ∧ z41_.toInt + v5_79.toInt < 2147483648 := by omega
theorem lf_c_X11_lays_3 (v5_79 : Int32) (z30_ : Int32) (hv0_79 : 0 ≤ v5_79.toInt) (h32_ : 0 ≤ z30_.toInt ∧ z30_.toInt ≤ 24) (h33_ : v5_79.toInt < z30_.toInt) : -2147483648 ≤ v5_79.toInt + 1 ∧ v5_79.toInt + 1 < 2147483648 := by omega
set_option maxHeartbeats 4000000 in
set_option maxRecDepth 100000 in
theorem c_X11_lays (l : Launch) (G : va_G) (cy : Nat → ClassId) (ad : rf → Nat) (d : Nat) (v : Int32) (u : Int32) (Mz : mM) (hIz : Inv Mz) : WP CC l G cy ad yX11_lays cX11_lays 8 (some .int) (d + 3) 0 [(0, vR (11, 0, 0)), (1, vI v), (2, vI u)] [] Mz (fun r M' => Inv M' ∧ FR (S_c_X11_lays) Mz M' ∧ (True) ∧ SP_X11_lays v u Mz r M') := by
  have hFz : FR (S_c_X11_lays) Mz Mz := FR.self
  refine w_iload_n dX11_lays_0 rfl 1 rfl ?_
  refine w_callS (as := [vI v]) (rest := []) (c_X11_isSheet l G cy ad (d + 1) v Mz hIz) kS_X11_isSheet pnn_0 (Nat.le_of_ble_eq_true rfl) m_566 rfl rfl (by decide) (Nat.le_of_ble_eq_true rfl) dX11_lays_1 (fun r1_ M2_ q3_ => ?_)
  obtain ⟨rfl, h4_, hs5_⟩ := q3_
  rcases h4_ with ⟨rfl, h4_⟩ | ⟨rfl, h4_⟩
  · refine w_if_eq (tgt := 17) dX11_lays_4 (by decide) li_1 (fun h9 => (absurd h9 (by decide))) (fun h6_ => ?_)
    refine w_iload_n dX11_lays_7 rfl 2 rfl ?_
    refine w_iconst (v := 0) dX11_lays_8 (by decide) ?_
    refine w_bipush (v := 11) dX11_lays_9 (by decide) ?_
    refine w_callS (as := [vI u, vI 0, vI 11]) (rest := []) (c_X11_within l G cy ad (d + 2) u 0 11 Mz hIz) kS_X11_within pnn_0 (Nat.le_of_ble_eq_true rfl) m_494 rfl rfl (by decide) (Nat.le_of_ble_eq_true rfl) dX11_lays_11 (fun r7_ M8_ q9_ => ?_)
    obtain ⟨rfl, h10_, hs11_⟩ := q9_
    rcases h10_ with ⟨rfl, h10_⟩ | ⟨rfl, h10_⟩
    · simp only [li_0, li_11] at h10_
      refine w_if_ne (tgt := 23) dX11_lays_14 (by decide) li_1 (fun h12_ => ?_) (fun h9 => (absurd h9 (by decide)))
      refine w_aload_n dX11_lays_23 rfl 0 rfl ?_
      refine w_getR (c' := (43, 0, 0)) fl_RX11_24 rfl rfl ic_11 dX11_lays_24 rfl ?_
      refine w_iload_n dX11_lays_27 rfl 1 rfl ?_
      refine w_aald rfl rfl rfl (fun _ => rfl) ic_43 (rfl : v.toInt = v.toInt) (lf_c_X11_lays_0 v h4_ ) dX11_lays_28 (fun j13_ h14_ h15_ => ?_)
      refine w_astore_n (ls' := [(3, vR (6, 0, j13_)), (0, vR (11, 0, 0)), (1, vI v), (2, vI u)]) dX11_lays_29 rfl (by decide) rfl ?_
      refine w_aload_n dX11_lays_30 rfl 0 rfl ?_
      refine w_callV (as := []) (rest := []) (c_X6_isMissing l G cy ad (d + 2) j13_ Mz hIz h15_) kV_X6_isMissing pnn_4 (Nat.le_of_ble_eq_true rfl) m_569 rfl rfl rfl (ic_6 h15_) rfl rfl (by decide) (Nat.le_of_ble_eq_true rfl) dX11_lays_31 (fun r16_ M17_ q18_ => ?_)
      obtain ⟨rfl, h19_, hs20_⟩ := q18_
      refine w_if_eq (tgt := 43) dX11_lays_34 (by decide) (rfl : r16_.toInt = r16_.toInt) (fun h21_ => ?_) (fun h21_ => ?_)
      · refine w_aload_n dX11_lays_43 rfl 0 rfl ?_
        refine w_getI fl_RX11_133 rfl rfl (ic_6 h15_) dX11_lays_44 (fun z22_ e23_ => ?_)
        refine w_bipush (v := 8) dX11_lays_47 (by decide) ?_
        refine w_icmp_eq (tgt := 58) dX11_lays_49 (by decide) (rfl : z22_.toInt = z22_.toInt) li_8 (fun h24_ => ?_) (fun h24_ => ?_)
        · refine w_aload_n dX11_lays_58 rfl 0 rfl ?_
          refine w_getI fl_RX11_136 rfl rfl (ic_6 h15_) dX11_lays_59 (fun z25_ e26_ => ?_)
          have h27_ : 0 ≤ z25_.toInt ∧ z25_.toInt ≤ 24 := ofEq (P := fun v => 0 ≤ v.toInt ∧ v.toInt ≤ 24) e26_ (hIz (6, 0, j13_) 1 rfl)
          refine w_bipush (v := 16) dX11_lays_62 (by decide) ?_
          refine w_icmp_le (tgt := 73) dX11_lays_64 (by decide) (rfl : z25_.toInt = z25_.toInt) li_16 (fun h28_ => ?_) (fun h28_ => ?_)
          · refine w_iconst (v := 0) dX11_lays_73 (by decide) ?_
            refine w_istore (ls' := [(4, vI 0), (3, vR (6, 0, j13_)), (0, vR (11, 0, 0)), (1, vI v), (2, vI u)]) dX11_lays_74 (by decide) rfl ?_
            refine w_iconst (v := 0) dX11_lays_76 (by decide) ?_
            refine w_istore (ls' := [(5, vI 0), (4, vI 0), (3, vR (6, 0, j13_)), (0, vR (11, 0, 0)), (1, vI v), (2, vI u)]) dX11_lays_77 (by decide) rfl ?_
            have lp29_ : ∀ (nn_79 : Nat) (M_79 : mM) (hI_79 : Inv M_79) (hF_79 : FR (S_c_X11_lays) Mz M_79) (v5_79 : Int32) (v4_79 : Int32) (hv0_79 : 0 ≤ v5_79.toInt) (hL_79 : RCH (fun x_ y_ => ST_X11_lays_79 u Mz j13_ x_.1 x_.2.1 x_.2.2 y_.1 y_.2.1 y_.2.2) ((0 : Int32), (0 : Int32), Mz) (v5_79, v4_79, M_79)), (2147483648 - v5_79.toInt).toNat < nn_79 → WP CC l G cy ad yX11_lays cX11_lays 8 (some .int) (d + 3) 79 [(5, vI v5_79), (4, vI v4_79), (3, vR (6, 0, j13_)), (0, vR (11, 0, 0)), (1, vI v), (2, vI u)] [] M_79 (fun r M' => Inv M' ∧ FR (S_c_X11_lays) Mz M' ∧ (True) ∧ SP_X11_lays v u Mz r M') := by
              intro nn_79
              induction nn_79 with
              | zero => intro M_79 hI_79 hF_79 v5_79 v4_79 hv0_79 hL_79 hm_79; exact absurd hm_79 (Nat.not_lt_zero _)
              | succ nn_79 ih_79 =>
                intro M_79 hI_79 hF_79 v5_79 v4_79 hv0_79 hL_79 hm_79
                refine w_iload dX11_lays_79 0 rfl ?_
                refine w_aload_n dX11_lays_81 rfl 2 rfl ?_
                refine w_getI fl_RX11_136 rfl rfl (ic_6 h15_) dX11_lays_82 (fun z30_ e31_ => ?_)
                have h32_ : 0 ≤ z30_.toInt ∧ z30_.toInt ≤ 24 := ofEq (P := fun v => 0 ≤ v.toInt ∧ v.toInt ≤ 24) e31_ (hI_79 (6, 0, j13_) 1 rfl)
                refine w_icmp_ge (tgt := 167) dX11_lays_85 (by decide) (rfl : v5_79.toInt = v5_79.toInt) (rfl : z30_.toInt = z30_.toInt) (fun h33_ => ?_) (fun h33_ => ?_)
                · refine w_iload dX11_lays_167 1 rfl ?_
                  exact w_iret rfl dX11_lays_169 ⟨hI_79, hF_79, trivial, (Or.inl ⟨hs5_, h4_, (Or.inl ⟨hs11_, h10_, j13_, h14_, h15_, r16_, hs20_, h19_, (Or.inl ⟨h21_, z22_, e23_, (Or.inl ⟨h24_, z25_, e26_, h27_, (Or.inl ⟨h28_, v5_79, hv0_79, v4_79, M_79, hL_79, hI_79, hF_79, z30_, e31_, h32_, h33_, rfl, rfl⟩)⟩)⟩)⟩)⟩)⟩
                · refine w_aload_n dX11_lays_88 rfl 2 rfl ?_
                  refine w_iload dX11_lays_89 0 rfl ?_
                  refine w_callV (as := [vI v5_79]) (rest := []) (c_X6_numberAt l G cy ad (d + 1) j13_ v5_79 M_79 hI_79 h15_) kV_X6_numberAt pnn_4 (Nat.le_of_ble_eq_true rfl) m_573 rfl rfl rfl (ic_6 h15_) rfl rfl (by decide) (Nat.le_of_ble_eq_true rfl) dX11_lays_91 (fun r34_ M35_ q36_ => ?_)
                  obtain ⟨rfl, h37_, hs38_⟩ := q36_
                  refine w_iconst (v := 1) dX11_lays_94 (by decide) ?_
                  refine w_isub dX11_lays_95 (fun z39_ h40_ => ?_)
                  refine w_istore (ls' := [(6, vI z39_), (5, vI v5_79), (4, vI v4_79), (3, vR (6, 0, j13_)), (0, vR (11, 0, 0)), (1, vI v), (2, vI u)]) dX11_lays_96 (by decide) rfl ?_
                  refine w_bipush (v := 16) dX11_lays_98 (by decide) ?_
                  refine w_iload_n dX11_lays_100 rfl 6 rfl ?_
                  refine w_imulB dX11_lays_101 li_16 (rfl : u.toInt = u.toInt) (lf_c_X11_lays_1 u h10_ ) (fun z41_ h42_ => ?_)
                  refine w_iload dX11_lays_102 1 rfl ?_
                  refine w_iaddB dX11_lays_104 (rfl : z41_.toInt = z41_.toInt) (rfl : v5_79.toInt = v5_79.toInt) (lf_c_X11_lays_2 u v5_79 z30_ z41_ h10_ hv0_79 h32_ h33_ h42_ ) (fun z43_ h44_ => ?_)
                  refine w_istore (ls' := [(7, vI z43_), (6, vI z39_), (5, vI v5_79), (4, vI v4_79), (3, vR (6, 0, j13_)), (0, vR (11, 0, 0)), (1, vI v), (2, vI u)]) dX11_lays_105 (by decide) rfl ?_
                  refine w_iload dX11_lays_107 1 rfl ?_
                  refine w_callS (as := [vI z39_]) (rest := []) (c_X11_isThingKind l G cy ad (d + 1) z39_ M_79 hI_79) kS_X11_isThingKind pnn_0 (Nat.le_of_ble_eq_true rfl) m_491 rfl rfl (by decide) (Nat.le_of_ble_eq_true rfl) dX11_lays_109 (fun r45_ M46_ q47_ => ?_)
                  obtain ⟨rfl, h48_, hs49_⟩ := q47_
                  rcases h48_ with ⟨rfl, h48_⟩ | ⟨rfl, h48_⟩
                  · refine w_if_eq (tgt := 161) dX11_lays_112 (by decide) li_1 (fun h9 => (absurd h9 (by decide))) (fun h50_ => ?_)
                    refine w_aload_n dX11_lays_115 rfl 5 rfl ?_
                    refine w_getR (c' := (10, 0, 0)) fl_RX11_10 rfl rfl ic_11 dX11_lays_116 rfl ?_
                    refine w_getR (c' := (7, 0, 0)) fl_RX11_71 rfl rfl (ic_10 (by decide)) dX11_lays_119 rfl ?_
                    refine w_iload dX11_lays_122 0 rfl ?_
                    refine w_callV (as := [vI z43_]) (rest := []) (c_X7_isFree l G cy ad (d + 1) 0 z43_ M_79 hI_79 (by first | decide | (unfold vF; omega) | (unfold vRw; omega))) kV_X7_isFree pnn_1 (Nat.le_of_ble_eq_true rfl) m_505 rfl rfl rfl (ic_7 (by decide)) rfl rfl (by decide) (Nat.le_of_ble_eq_true rfl) dX11_lays_124 (fun r51_ M52_ q53_ => ?_)
                    obtain ⟨rfl, h54_, hs55_⟩ := q53_
                    rcases h54_ with ⟨rfl, h54_⟩ | rfl
                    · refine w_if_eq (tgt := 161) dX11_lays_127 (by decide) li_1 (fun h9 => (absurd h9 (by decide))) (fun h56_ => ?_)
                      refine w_aload_n dX11_lays_130 rfl 5 rfl ?_
                      refine w_getR (c' := (10, 0, 0)) fl_RX11_10 rfl rfl ic_11 dX11_lays_131 rfl ?_
                      refine w_getR (c' := (7, 0, 0)) fl_RX11_71 rfl rfl (ic_10 (by decide)) dX11_lays_134 rfl ?_
                      refine w_callV (as := []) (rest := []) (c_X7_hasRoom l G cy ad (d + 2) 0 M_79 hI_79 (by first | decide | (unfold vF; omega) | (unfold vRw; omega))) kV_X7_hasRoom pnn_1 (Nat.le_of_ble_eq_true rfl) m_510 rfl rfl rfl (ic_7 (by decide)) rfl rfl (by decide) (Nat.le_of_ble_eq_true rfl) dX11_lays_137 (fun r57_ M58_ q59_ => ?_)
                      obtain ⟨rfl, h60_, hs61_⟩ := q59_
                      refine w_if_eq (tgt := 161) dX11_lays_140 (by decide) (rfl : r57_.toInt = r57_.toInt) (fun h62_ => ?_) (fun h62_ => ?_)
                      · refine w_iincB (j := 2) (f := fun z63_ => [(5, vI z63_), (7, vI z43_), (6, vI z39_), (4, vI v4_79), (3, vR (6, 0, j13_)), (0, vR (11, 0, 0)), (1, vI v), (2, vI u)]) dX11_lays_161 rfl (by decide) (fun _ => rfl) (rfl : v5_79.toInt = v5_79.toInt) li_1 (lf_c_X11_lays_3 v5_79 z30_ hv0_79 h32_ h33_ ) (fun z63_ h64_ => ?_)
                        refine w_goto (tgt := 79) dX11_lays_164 (by decide) ?_
                        refine w_loc (ls' := [(5, vI z63_), (4, vI v4_79), (3, vR (6, 0, j13_)), (0, vR (11, 0, 0)), (1, vI v), (2, vI u)]) [0, 3, 4, 5, 6, 7] rfl ?_
                        exact ih_79 M_79 hI_79 hF_79 z63_ v4_79 (lf_c_X5_takeFrom_3 v5_79 z63_ hv0_79 h64_ ) (RCH.tail hL_79 ⟨hv0_79, hI_79, hF_79, z30_, e31_, h32_, h33_, r34_, hs38_, z39_, h40_, z41_, h42_, z43_, h44_, (Or.inl ⟨hs49_, h48_, (Or.inl ⟨hs55_, h54_, r57_, hs61_, h60_, (Or.inl ⟨h62_, z63_, h64_, rfl, rfl, rfl⟩)⟩)⟩)⟩) (Nat.lt_of_lt_of_le (lf_c_X6_hasTwoAlike_2 v5_79 z30_ z63_ h32_ h33_ h64_ ) (Nat.le_of_lt_succ hm_79))
                      · refine w_aload_n dX11_lays_143 rfl 5 rfl ?_
                        refine w_getR (c' := (10, 0, 0)) fl_RX11_10 rfl rfl ic_11 dX11_lays_144 rfl ?_
                        refine w_getR (c' := (7, 0, 0)) fl_RX11_71 rfl rfl (ic_10 (by decide)) dX11_lays_147 rfl ?_
                        refine w_iload dX11_lays_150 1 rfl ?_
                        refine w_iload dX11_lays_152 0 rfl ?_
                        refine w_callV (as := [vI z39_, vI z43_]) (rest := []) (c_X7_addThing l G cy ad d 0 z39_ z43_ M_79 hI_79 (by first | decide | (unfold vF; omega) | (unfold vRw; omega))) kV_X7_addThing pnn_1 (Nat.le_of_ble_eq_true rfl) m_514 rfl rfl rfl (ic_7 (by decide)) rfl rfl (by decide) (Nat.le_of_ble_eq_true rfl) dX11_lays_154 (fun r65_ M66_ q67_ => ?_)
                        obtain ⟨hI69_, hF70_, h68_, hs72_⟩ := q67_
                        have hF71_ := hF_79.tr hF70_ (fun c k => (fun h => h.elim (fun h => (Or.inl ⟨h.1, h.2⟩)) (fun h => h.elim (fun h => (Or.inr (Or.inl ⟨h.1, h.2⟩))) (fun h => h.elim (fun h => (Or.inr (Or.inr (Or.inl ⟨h.1, h.2⟩)))) (fun h => h.elim (fun h => (Or.inr (Or.inr (Or.inr (Or.inl ⟨h.1, h.2⟩))))) (fun h => h.elim (fun h => (Or.inr (Or.inr (Or.inr (Or.inr (Or.inl ⟨h.1, h.2⟩)))))) (fun h => h.elim (fun h => (Or.inr (Or.inr (Or.inr (Or.inr (Or.inr (Or.inl ⟨h.1, h.2.1, h.2.2⟩))))))) (fun h => h.elim))))))))
                        refine w_pop dX11_lays_157 rfl ?_
                        refine w_iincX (j := 3) (f := fun z73_ => [(4, vI z73_), (7, vI z43_), (6, vI z39_), (5, vI v5_79), (3, vR (6, 0, j13_)), (0, vR (11, 0, 0)), (1, vI v), (2, vI u)]) dX11_lays_158 rfl (by decide) (fun _ => rfl) (fun z73_ h74_ => ?_)
                        refine w_iincB (j := 3) (f := fun z75_ => [(5, vI z75_), (4, vI z73_), (7, vI z43_), (6, vI z39_), (3, vR (6, 0, j13_)), (0, vR (11, 0, 0)), (1, vI v), (2, vI u)]) dX11_lays_161 rfl (by decide) (fun _ => rfl) (rfl : v5_79.toInt = v5_79.toInt) li_1 (lf_c_X11_lays_3 v5_79 z30_ hv0_79 h32_ h33_ ) (fun z75_ h76_ => ?_)
                        refine w_goto (tgt := 79) dX11_lays_164 (by decide) ?_
                        refine w_loc (ls' := [(5, vI z75_), (4, vI z73_), (3, vR (6, 0, j13_)), (0, vR (11, 0, 0)), (1, vI v), (2, vI u)]) [0, 1, 4, 5, 6, 7] rfl ?_
                        exact ih_79 M66_ hI69_ hF71_ z75_ z73_ (lf_c_X5_takeFrom_3 v5_79 z75_ hv0_79 h76_ ) (RCH.tail hL_79 ⟨hv0_79, hI_79, hF_79, z30_, e31_, h32_, h33_, r34_, hs38_, z39_, h40_, z41_, h42_, z43_, h44_, (Or.inl ⟨hs49_, h48_, (Or.inl ⟨hs55_, h54_, r57_, hs61_, h60_, (Or.inr ⟨h62_, M66_, hI69_, hF70_, r65_, hs72_, z73_, h74_, z75_, h76_, rfl, rfl, rfl⟩)⟩)⟩)⟩) (Nat.lt_of_lt_of_le (lf_c_X6_hasTwoAlike_2 v5_79 z30_ z75_ h32_ h33_ h76_ ) (Nat.le_of_lt_succ hm_79))
                    · refine w_if_eq (tgt := 161) dX11_lays_127 (by decide) li_0 (fun h77_ => ?_) (fun h9 => (absurd h9 (by decide)))
                      refine w_iincB (j := 2) (f := fun z78_ => [(5, vI z78_), (7, vI z43_), (6, vI z39_), (4, vI v4_79), (3, vR (6, 0, j13_)), (0, vR (11, 0, 0)), (1, vI v), (2, vI u)]) dX11_lays_161 rfl (by decide) (fun _ => rfl) (rfl : v5_79.toInt = v5_79.toInt) li_1 (lf_c_X11_lays_3 v5_79 z30_ hv0_79 h32_ h33_ ) (fun z78_ h79_ => ?_)
                      refine w_goto (tgt := 79) dX11_lays_164 (by decide) ?_
                      refine w_loc (ls' := [(5, vI z78_), (4, vI v4_79), (3, vR (6, 0, j13_)), (0, vR (11, 0, 0)), (1, vI v), (2, vI u)]) [0, 3, 4, 5, 6, 7] rfl ?_
                      exact ih_79 M_79 hI_79 hF_79 z78_ v4_79 (lf_c_X5_takeFrom_3 v5_79 z78_ hv0_79 h79_ ) (RCH.tail hL_79 ⟨hv0_79, hI_79, hF_79, z30_, e31_, h32_, h33_, r34_, hs38_, z39_, h40_, z41_, h42_, z43_, h44_, (Or.inl ⟨hs49_, h48_, (Or.inr ⟨hs55_, z78_, h79_, rfl, rfl, rfl⟩)⟩)⟩) (Nat.lt_of_lt_of_le (lf_c_X6_hasTwoAlike_2 v5_79 z30_ z78_ h32_ h33_ h79_ ) (Nat.le_of_lt_succ hm_79))
                  · refine w_if_eq (tgt := 161) dX11_lays_112 (by decide) li_0 (fun h80_ => ?_) (fun h9 => (absurd h9 (by decide)))
                    refine w_iincB (j := 2) (f := fun z81_ => [(5, vI z81_), (7, vI z43_), (6, vI z39_), (4, vI v4_79), (3, vR (6, 0, j13_)), (0, vR (11, 0, 0)), (1, vI v), (2, vI u)]) dX11_lays_161 rfl (by decide) (fun _ => rfl) (rfl : v5_79.toInt = v5_79.toInt) li_1 (lf_c_X11_lays_3 v5_79 z30_ hv0_79 h32_ h33_ ) (fun z81_ h82_ => ?_)
                    refine w_goto (tgt := 79) dX11_lays_164 (by decide) ?_
                    refine w_loc (ls' := [(5, vI z81_), (4, vI v4_79), (3, vR (6, 0, j13_)), (0, vR (11, 0, 0)), (1, vI v), (2, vI u)]) [0, 3, 4, 5, 6, 7] rfl ?_
                    exact ih_79 M_79 hI_79 hF_79 z81_ v4_79 (lf_c_X5_takeFrom_3 v5_79 z81_ hv0_79 h82_ ) (RCH.tail hL_79 ⟨hv0_79, hI_79, hF_79, z30_, e31_, h32_, h33_, r34_, hs38_, z39_, h40_, z41_, h42_, z43_, h44_, (Or.inr ⟨hs49_, h48_, z81_, h82_, rfl, rfl, rfl⟩)⟩) (Nat.lt_of_lt_of_le (lf_c_X6_hasTwoAlike_2 v5_79 z30_ z81_ h32_ h33_ h82_ ) (Nat.le_of_lt_succ hm_79))
            exact lp29_ _ Mz hIz hFz 0 0 (lf_c_X5_takeFrom_5 ) RCH.refl (Nat.lt_succ_self _)
          · refine w_aload_n dX11_lays_67 rfl 1 rfl ?_
            refine w_iconst (v := 3) dX11_lays_68 (by decide) ?_
            refine w_callV (as := [vI 3]) (rest := []) (c_X11_error l G cy ad (d + 2) 3 Mz hIz) kV_X11_error pnn_0 (Nat.le_of_ble_eq_true rfl) m_500 rfl rfl rfl ic_11 rfl rfl (by decide) (Nat.le_of_ble_eq_true rfl) dX11_lays_69 (fun r83_ M84_ q85_ => ?_)
            obtain ⟨hI87_, hF88_, h86_, hs90_⟩ := q85_
            have hF89_ := hFz.tr hF88_ (fun c k => (fun h => h.elim (fun h => (Or.inr (Or.inr (Or.inr (Or.inr (Or.inr (Or.inr (Or.inl ⟨h.1, h.2⟩)))))))) (fun h => h.elim)))
            exact w_iret rfl dX11_lays_72 ⟨hI87_, hF89_, trivial, (Or.inl ⟨hs5_, h4_, (Or.inl ⟨hs11_, h10_, j13_, h14_, h15_, r16_, hs20_, h19_, (Or.inl ⟨h21_, z22_, e23_, (Or.inl ⟨h24_, z25_, e26_, h27_, (Or.inr ⟨h28_, M84_, hI87_, hF88_, r83_, hs90_, rfl, rfl⟩)⟩)⟩)⟩)⟩)⟩
        · refine w_aload_n dX11_lays_52 rfl 1 rfl ?_
          refine w_iconst (v := 5) dX11_lays_53 (by decide) ?_
          refine w_callV (as := [vI 5]) (rest := []) (c_X11_error l G cy ad (d + 2) 5 Mz hIz) kV_X11_error pnn_0 (Nat.le_of_ble_eq_true rfl) m_500 rfl rfl rfl ic_11 rfl rfl (by decide) (Nat.le_of_ble_eq_true rfl) dX11_lays_54 (fun r91_ M92_ q93_ => ?_)
          obtain ⟨hI95_, hF96_, h94_, hs98_⟩ := q93_
          have hF97_ := hFz.tr hF96_ (fun c k => (fun h => h.elim (fun h => (Or.inr (Or.inr (Or.inr (Or.inr (Or.inr (Or.inr (Or.inl ⟨h.1, h.2⟩)))))))) (fun h => h.elim)))
          exact w_iret rfl dX11_lays_57 ⟨hI95_, hF97_, trivial, (Or.inl ⟨hs5_, h4_, (Or.inl ⟨hs11_, h10_, j13_, h14_, h15_, r16_, hs20_, h19_, (Or.inl ⟨h21_, z22_, e23_, (Or.inr ⟨h24_, M92_, hI95_, hF96_, r91_, hs98_, rfl, rfl⟩)⟩)⟩)⟩)⟩
      · refine w_aload_n dX11_lays_37 rfl 1 rfl ?_
        refine w_iconst (v := 2) dX11_lays_38 (by decide) ?_
        refine w_callV (as := [vI 2]) (rest := []) (c_X11_error l G cy ad (d + 2) 2 Mz hIz) kV_X11_error pnn_0 (Nat.le_of_ble_eq_true rfl) m_500 rfl rfl rfl ic_11 rfl rfl (by decide) (Nat.le_of_ble_eq_true rfl) dX11_lays_39 (fun r99_ M100_ q101_ => ?_)
        obtain ⟨hI103_, hF104_, h102_, hs106_⟩ := q101_
        have hF105_ := hFz.tr hF104_ (fun c k => (fun h => h.elim (fun h => (Or.inr (Or.inr (Or.inr (Or.inr (Or.inr (Or.inr (Or.inl ⟨h.1, h.2⟩)))))))) (fun h => h.elim)))
        exact w_iret rfl dX11_lays_42 ⟨hI103_, hF105_, trivial, (Or.inl ⟨hs5_, h4_, (Or.inl ⟨hs11_, h10_, j13_, h14_, h15_, r16_, hs20_, h19_, (Or.inr ⟨h21_, M100_, hI103_, hF104_, r99_, hs106_, rfl, rfl⟩)⟩)⟩)⟩
    · simp only [li_0, li_11] at h10_
      refine w_if_ne (tgt := 23) dX11_lays_14 (by decide) li_0 (fun h9 => (absurd h9 (by decide))) (fun h107_ => ?_)
      refine w_aload_n dX11_lays_17 rfl 0 rfl ?_
      refine w_iconst (v := 1) dX11_lays_18 (by decide) ?_
      refine w_callV (as := [vI 1]) (rest := []) (c_X11_error l G cy ad (d + 2) 1 Mz hIz) kV_X11_error pnn_0 (Nat.le_of_ble_eq_true rfl) m_500 rfl rfl rfl ic_11 rfl rfl (by decide) (Nat.le_of_ble_eq_true rfl) dX11_lays_19 (fun r108_ M109_ q110_ => ?_)
      obtain ⟨hI112_, hF113_, h111_, hs115_⟩ := q110_
      have hF114_ := hFz.tr hF113_ (fun c k => (fun h => h.elim (fun h => (Or.inr (Or.inr (Or.inr (Or.inr (Or.inr (Or.inr (Or.inl ⟨h.1, h.2⟩)))))))) (fun h => h.elim)))
      exact w_iret rfl dX11_lays_22 ⟨hI112_, hF114_, trivial, (Or.inl ⟨hs5_, h4_, (Or.inr ⟨hs11_, h10_, M109_, hI112_, hF113_, r108_, hs115_, rfl, rfl⟩)⟩)⟩
  · refine w_if_eq (tgt := 17) dX11_lays_4 (by decide) li_0 (fun h116_ => ?_) (fun h9 => (absurd h9 (by decide)))
    refine w_aload_n dX11_lays_17 rfl 0 rfl ?_
    refine w_iconst (v := 1) dX11_lays_18 (by decide) ?_
    refine w_callV (as := [vI 1]) (rest := []) (c_X11_error l G cy ad (d + 2) 1 Mz hIz) kV_X11_error pnn_0 (Nat.le_of_ble_eq_true rfl) m_500 rfl rfl rfl ic_11 rfl rfl (by decide) (Nat.le_of_ble_eq_true rfl) dX11_lays_19 (fun r117_ M118_ q119_ => ?_)
    obtain ⟨hI121_, hF122_, h120_, hs124_⟩ := q119_
    have hF123_ := hFz.tr hF122_ (fun c k => (fun h => h.elim (fun h => (Or.inr (Or.inr (Or.inr (Or.inr (Or.inr (Or.inr (Or.inl ⟨h.1, h.2⟩)))))))) (fun h => h.elim)))
    exact w_iret rfl dX11_lays_22 ⟨hI121_, hF123_, trivial, (Or.inr ⟨hs5_, h4_, M118_, hI121_, hF122_, r117_, hs124_, rfl, rfl⟩)⟩
def S_c_X11_air : rf → Nat → Prop := fun c k => (c.1 = 2 ∧ c.2.1 = 0 ∧ k = 2) ∨ (c.1 = 2 ∧ c.2.1 = 0 ∧ k = 1) ∨ (c.1 = 2 ∧ c.2.1 = 0 ∧ k = 0) ∨ (c.1 = 44 ∧ c.2.1 = 0) ∨ False
def SP_X11_air (v : Int32) (u : Int32) (Mz : mM) (r_ : Int32) (M_ : mM) : Prop := (((SP_X11_within v 0 2 Mz (1 : Int32)) ∧ (0 ≤ v.toInt ∧ v.toInt ≤ 2) ∧ (((¬ v.toInt = 0) ∧ (((¬ v.toInt = 1) ∧ (((SP_X11_within u 0 1 Mz (1 : Int32)) ∧ (0 ≤ u.toInt ∧ u.toInt ≤ 1) ∧ ∃ M16_ : mM, (Inv M16_) ∧ (FR (S_c_X2_changeAir 0) Mz M16_) ∧ ∃ r15_ : Int32, (SP_X2_changeAir 0 v u Mz r15_ M16_) ∧ r_ = r15_ ∧ M_ = M16_) ∨ ((SP_X11_within u 0 1 Mz (0 : Int32)) ∧ (¬ (0 ≤ u.toInt ∧ u.toInt ≤ 1)) ∧ ∃ M25_ : mM, (Inv M25_) ∧ (FR (S_c_X11_error) Mz M25_) ∧ ∃ r24_ : Int32, (SP_X11_error 1 Mz r24_ M25_) ∧ r_ = r24_ ∧ M_ = M25_))) ∨ ((v.toInt = 1) ∧ (((SP_X11_within u 0 90 Mz (1 : Int32)) ∧ (0 ≤ u.toInt ∧ u.toInt ≤ 90) ∧ ∃ M39_ : mM, (Inv M39_) ∧ (FR (S_c_X2_changeAir 0) Mz M39_) ∧ ∃ r38_ : Int32, (SP_X2_changeAir 0 v u Mz r38_ M39_) ∧ r_ = r38_ ∧ M_ = M39_) ∨ ((SP_X11_within u 0 90 Mz (0 : Int32)) ∧ (¬ (0 ≤ u.toInt ∧ u.toInt ≤ 90)) ∧ ∃ M48_ : mM, (Inv M48_) ∧ (FR (S_c_X11_error) Mz M48_) ∧ ∃ r47_ : Int32, (SP_X11_error 1 Mz r47_ M48_) ∧ r_ = r47_ ∧ M_ = M48_))))) ∨ ((v.toInt = 0) ∧ (((SP_X11_within u 0 99 Mz (1 : Int32)) ∧ (0 ≤ u.toInt ∧ u.toInt ≤ 99) ∧ ∃ M62_ : mM, (Inv M62_) ∧ (FR (S_c_X2_changeAir 0) Mz M62_) ∧ ∃ r61_ : Int32, (SP_X2_changeAir 0 v u Mz r61_ M62_) ∧ r_ = r61_ ∧ M_ = M62_) ∨ ((SP_X11_within u 0 99 Mz (0 : Int32)) ∧ (¬ (0 ≤ u.toInt ∧ u.toInt ≤ 99)) ∧ ∃ M71_ : mM, (Inv M71_) ∧ (FR (S_c_X11_error) Mz M71_) ∧ ∃ r70_ : Int32, (SP_X11_error 1 Mz r70_ M71_) ∧ r_ = r70_ ∧ M_ = M71_))))) ∨ ((SP_X11_within v 0 2 Mz (0 : Int32)) ∧ (¬ (0 ≤ v.toInt ∧ v.toInt ≤ 2)) ∧ ∃ M80_ : mM, (Inv M80_) ∧ (FR (S_c_X11_error) Mz M80_) ∧ ∃ r79_ : Int32, (SP_X11_error 1 Mz r79_ M80_) ∧ r_ = r79_ ∧ M_ = M80_))
set_option maxHeartbeats 4000000 in
set_option maxRecDepth 100000 in
theorem c_X11_air (l : Launch) (G : va_G) (cy : Nat → ClassId) (ad : rf → Nat) (d : Nat) (v : Int32) (u : Int32) (Mz : mM) (hIz : Inv Mz) : WP CC l G cy ad yX11_air cX11_air 3 (some .int) (d + 1) 0 [(0, vR (11, 0, 0)), (1, vI v), (2, vI u)] [] Mz (fun r M' => Inv M' ∧ FR (S_c_X11_air) Mz M' ∧ (True) ∧ SP_X11_air v u Mz r M') := by
  have hFz : FR (S_c_X11_air) Mz Mz := FR.self
  refine w_iload_n dX11_air_0 rfl 1 rfl ?_
  refine w_iconst (v := 0) dX11_air_1 (by decide) ?_
  refine w_iconst (v := 2) dX11_air_2 (by decide) ?_
  refine w_callS (as := [vI v, vI 0, vI 2]) (rest := []) (c_X11_within l G cy ad d v 0 2 Mz hIz) kS_X11_within pnn_0 (Nat.le_of_ble_eq_true rfl) m_494 rfl rfl (by decide) (Nat.le_of_ble_eq_true rfl) dX11_air_3 (fun r1_ M2_ q3_ => ?_)
  obtain ⟨rfl, h4_, hs5_⟩ := q3_
  rcases h4_ with ⟨rfl, h4_⟩ | ⟨rfl, h4_⟩
  · simp only [li_0, li_2] at h4_
    refine w_if_eq (tgt := 37) dX11_air_6 (by decide) li_1 (fun h9 => (absurd h9 (by decide))) (fun h6_ => ?_)
    refine w_iload_n dX11_air_9 rfl 2 rfl ?_
    refine w_iconst (v := 0) dX11_air_10 (by decide) ?_
    refine w_iload_n dX11_air_11 rfl 1 rfl ?_
    refine w_if_ne (tgt := 20) dX11_air_12 (by decide) (rfl : v.toInt = v.toInt) (fun h7_ => ?_) (fun h7_ => ?_)
    · refine w_iload_n dX11_air_20 rfl 1 rfl ?_
      refine w_iconst (v := 1) dX11_air_21 (by decide) ?_
      refine w_icmp_ne (tgt := 30) dX11_air_22 (by decide) (rfl : v.toInt = v.toInt) li_1 (fun h8_ => ?_) (fun h8_ => ?_)
      · refine w_iconst (v := 1) dX11_air_30 (by decide) ?_
        refine w_callS (as := [vI u, vI 0, vI 1]) (rest := []) (c_X11_within l G cy ad d u 0 1 Mz hIz) kS_X11_within pnn_0 (Nat.le_of_ble_eq_true rfl) m_494 rfl rfl (by decide) (Nat.le_of_ble_eq_true rfl) dX11_air_31 (fun r9_ M10_ q11_ => ?_)
        obtain ⟨rfl, h12_, hs13_⟩ := q11_
        rcases h12_ with ⟨rfl, h12_⟩ | ⟨rfl, h12_⟩
        · simp only [li_0, li_1] at h12_
          refine w_if_ne (tgt := 43) dX11_air_34 (by decide) li_1 (fun h14_ => ?_) (fun h9 => (absurd h9 (by decide)))
          refine w_aload_n dX11_air_43 rfl 0 rfl ?_
          refine w_getR (c' := (10, 0, 0)) fl_RX11_10 rfl rfl ic_11 dX11_air_44 rfl ?_
          refine w_getR (c' := (2, 0, 0)) fl_RX11_114 rfl rfl (ic_10 (by decide)) dX11_air_47 rfl ?_
          refine w_iload_n dX11_air_50 rfl 1 rfl ?_
          refine w_iload_n dX11_air_51 rfl 2 rfl ?_
          refine w_callV (as := [vI v, vI u]) (rest := []) (c_X2_changeAir l G cy ad d 0 v u Mz hIz (by first | decide | (unfold vF; omega) | (unfold vRw; omega))) kV_X2_changeAir pnn_5 (Nat.le_of_ble_eq_true rfl) m_585 rfl rfl rfl (ic_2 (by decide)) rfl rfl (by decide) (Nat.le_of_ble_eq_true rfl) dX11_air_52 (fun r15_ M16_ q17_ => ?_)
          obtain ⟨hI19_, hF20_, h18_, hs22_⟩ := q17_
          have hF21_ := hFz.tr hF20_ (fun c k => (fun h => h.elim (fun h => (Or.inl ⟨h.1, h.2.1, h.2.2⟩)) (fun h => h.elim (fun h => (Or.inr (Or.inl ⟨h.1, h.2.1, h.2.2⟩))) (fun h => h.elim (fun h => (Or.inr (Or.inr (Or.inl ⟨h.1, h.2.1, h.2.2⟩)))) (fun h => h.elim)))))
          exact w_iret rfl dX11_air_55 ⟨hI19_, hF21_, trivial, (Or.inl ⟨hs5_, h4_, (Or.inl ⟨h7_, (Or.inl ⟨h8_, (Or.inl ⟨hs13_, h12_, M16_, hI19_, hF20_, r15_, hs22_, rfl, rfl⟩)⟩)⟩)⟩)⟩
        · simp only [li_0, li_1] at h12_
          refine w_if_ne (tgt := 43) dX11_air_34 (by decide) li_0 (fun h9 => (absurd h9 (by decide))) (fun h23_ => ?_)
          refine w_aload_n dX11_air_37 rfl 0 rfl ?_
          refine w_iconst (v := 1) dX11_air_38 (by decide) ?_
          refine w_callV (as := [vI 1]) (rest := []) (c_X11_error l G cy ad d 1 Mz hIz) kV_X11_error pnn_0 (Nat.le_of_ble_eq_true rfl) m_500 rfl rfl rfl ic_11 rfl rfl (by decide) (Nat.le_of_ble_eq_true rfl) dX11_air_39 (fun r24_ M25_ q26_ => ?_)
          obtain ⟨hI28_, hF29_, h27_, hs31_⟩ := q26_
          have hF30_ := hFz.tr hF29_ (fun c k => (fun h => h.elim (fun h => (Or.inr (Or.inr (Or.inr (Or.inl ⟨h.1, h.2⟩))))) (fun h => h.elim)))
          exact w_iret rfl dX11_air_42 ⟨hI28_, hF30_, trivial, (Or.inl ⟨hs5_, h4_, (Or.inl ⟨h7_, (Or.inl ⟨h8_, (Or.inr ⟨hs13_, h12_, M25_, hI28_, hF29_, r24_, hs31_, rfl, rfl⟩)⟩)⟩)⟩)⟩
      · refine w_bipush (v := 90) dX11_air_25 (by decide) ?_
        refine w_goto (tgt := 31) dX11_air_27 (by decide) ?_
        refine w_callS (as := [vI u, vI 0, vI 90]) (rest := []) (c_X11_within l G cy ad d u 0 90 Mz hIz) kS_X11_within pnn_0 (Nat.le_of_ble_eq_true rfl) m_494 rfl rfl (by decide) (Nat.le_of_ble_eq_true rfl) dX11_air_31 (fun r32_ M33_ q34_ => ?_)
        obtain ⟨rfl, h35_, hs36_⟩ := q34_
        rcases h35_ with ⟨rfl, h35_⟩ | ⟨rfl, h35_⟩
        · simp only [li_0, li_90] at h35_
          refine w_if_ne (tgt := 43) dX11_air_34 (by decide) li_1 (fun h37_ => ?_) (fun h9 => (absurd h9 (by decide)))
          refine w_aload_n dX11_air_43 rfl 0 rfl ?_
          refine w_getR (c' := (10, 0, 0)) fl_RX11_10 rfl rfl ic_11 dX11_air_44 rfl ?_
          refine w_getR (c' := (2, 0, 0)) fl_RX11_114 rfl rfl (ic_10 (by decide)) dX11_air_47 rfl ?_
          refine w_iload_n dX11_air_50 rfl 1 rfl ?_
          refine w_iload_n dX11_air_51 rfl 2 rfl ?_
          refine w_callV (as := [vI v, vI u]) (rest := []) (c_X2_changeAir l G cy ad d 0 v u Mz hIz (by first | decide | (unfold vF; omega) | (unfold vRw; omega))) kV_X2_changeAir pnn_5 (Nat.le_of_ble_eq_true rfl) m_585 rfl rfl rfl (ic_2 (by decide)) rfl rfl (by decide) (Nat.le_of_ble_eq_true rfl) dX11_air_52 (fun r38_ M39_ q40_ => ?_)
          obtain ⟨hI42_, hF43_, h41_, hs45_⟩ := q40_
          have hF44_ := hFz.tr hF43_ (fun c k => (fun h => h.elim (fun h => (Or.inl ⟨h.1, h.2.1, h.2.2⟩)) (fun h => h.elim (fun h => (Or.inr (Or.inl ⟨h.1, h.2.1, h.2.2⟩))) (fun h => h.elim (fun h => (Or.inr (Or.inr (Or.inl ⟨h.1, h.2.1, h.2.2⟩)))) (fun h => h.elim)))))
          exact w_iret rfl dX11_air_55 ⟨hI42_, hF44_, trivial, (Or.inl ⟨hs5_, h4_, (Or.inl ⟨h7_, (Or.inr ⟨h8_, (Or.inl ⟨hs36_, h35_, M39_, hI42_, hF43_, r38_, hs45_, rfl, rfl⟩)⟩)⟩)⟩)⟩
        · simp only [li_0, li_90] at h35_
          refine w_if_ne (tgt := 43) dX11_air_34 (by decide) li_0 (fun h9 => (absurd h9 (by decide))) (fun h46_ => ?_)
          refine w_aload_n dX11_air_37 rfl 0 rfl ?_
          refine w_iconst (v := 1) dX11_air_38 (by decide) ?_
          refine w_callV (as := [vI 1]) (rest := []) (c_X11_error l G cy ad d 1 Mz hIz) kV_X11_error pnn_0 (Nat.le_of_ble_eq_true rfl) m_500 rfl rfl rfl ic_11 rfl rfl (by decide) (Nat.le_of_ble_eq_true rfl) dX11_air_39 (fun r47_ M48_ q49_ => ?_)
          obtain ⟨hI51_, hF52_, h50_, hs54_⟩ := q49_
          have hF53_ := hFz.tr hF52_ (fun c k => (fun h => h.elim (fun h => (Or.inr (Or.inr (Or.inr (Or.inl ⟨h.1, h.2⟩))))) (fun h => h.elim)))
          exact w_iret rfl dX11_air_42 ⟨hI51_, hF53_, trivial, (Or.inl ⟨hs5_, h4_, (Or.inl ⟨h7_, (Or.inr ⟨h8_, (Or.inr ⟨hs36_, h35_, M48_, hI51_, hF52_, r47_, hs54_, rfl, rfl⟩)⟩)⟩)⟩)⟩
    · refine w_bipush (v := 99) dX11_air_15 (by decide) ?_
      refine w_goto (tgt := 31) dX11_air_17 (by decide) ?_
      refine w_callS (as := [vI u, vI 0, vI 99]) (rest := []) (c_X11_within l G cy ad d u 0 99 Mz hIz) kS_X11_within pnn_0 (Nat.le_of_ble_eq_true rfl) m_494 rfl rfl (by decide) (Nat.le_of_ble_eq_true rfl) dX11_air_31 (fun r55_ M56_ q57_ => ?_)
      obtain ⟨rfl, h58_, hs59_⟩ := q57_
      rcases h58_ with ⟨rfl, h58_⟩ | ⟨rfl, h58_⟩
      · simp only [li_0, li_99] at h58_
        refine w_if_ne (tgt := 43) dX11_air_34 (by decide) li_1 (fun h60_ => ?_) (fun h9 => (absurd h9 (by decide)))
        refine w_aload_n dX11_air_43 rfl 0 rfl ?_
        refine w_getR (c' := (10, 0, 0)) fl_RX11_10 rfl rfl ic_11 dX11_air_44 rfl ?_
        refine w_getR (c' := (2, 0, 0)) fl_RX11_114 rfl rfl (ic_10 (by decide)) dX11_air_47 rfl ?_
        refine w_iload_n dX11_air_50 rfl 1 rfl ?_
        refine w_iload_n dX11_air_51 rfl 2 rfl ?_
        refine w_callV (as := [vI v, vI u]) (rest := []) (c_X2_changeAir l G cy ad d 0 v u Mz hIz (by first | decide | (unfold vF; omega) | (unfold vRw; omega))) kV_X2_changeAir pnn_5 (Nat.le_of_ble_eq_true rfl) m_585 rfl rfl rfl (ic_2 (by decide)) rfl rfl (by decide) (Nat.le_of_ble_eq_true rfl) dX11_air_52 (fun r61_ M62_ q63_ => ?_)
        obtain ⟨hI65_, hF66_, h64_, hs68_⟩ := q63_
        have hF67_ := hFz.tr hF66_ (fun c k => (fun h => h.elim (fun h => (Or.inl ⟨h.1, h.2.1, h.2.2⟩)) (fun h => h.elim (fun h => (Or.inr (Or.inl ⟨h.1, h.2.1, h.2.2⟩))) (fun h => h.elim (fun h => (Or.inr (Or.inr (Or.inl ⟨h.1, h.2.1, h.2.2⟩)))) (fun h => h.elim)))))
        exact w_iret rfl dX11_air_55 ⟨hI65_, hF67_, trivial, (Or.inl ⟨hs5_, h4_, (Or.inr ⟨h7_, (Or.inl ⟨hs59_, h58_, M62_, hI65_, hF66_, r61_, hs68_, rfl, rfl⟩)⟩)⟩)⟩
      · simp only [li_0, li_99] at h58_
        refine w_if_ne (tgt := 43) dX11_air_34 (by decide) li_0 (fun h9 => (absurd h9 (by decide))) (fun h69_ => ?_)
        refine w_aload_n dX11_air_37 rfl 0 rfl ?_
        refine w_iconst (v := 1) dX11_air_38 (by decide) ?_
        refine w_callV (as := [vI 1]) (rest := []) (c_X11_error l G cy ad d 1 Mz hIz) kV_X11_error pnn_0 (Nat.le_of_ble_eq_true rfl) m_500 rfl rfl rfl ic_11 rfl rfl (by decide) (Nat.le_of_ble_eq_true rfl) dX11_air_39 (fun r70_ M71_ q72_ => ?_)
        obtain ⟨hI74_, hF75_, h73_, hs77_⟩ := q72_
        have hF76_ := hFz.tr hF75_ (fun c k => (fun h => h.elim (fun h => (Or.inr (Or.inr (Or.inr (Or.inl ⟨h.1, h.2⟩))))) (fun h => h.elim)))
        exact w_iret rfl dX11_air_42 ⟨hI74_, hF76_, trivial, (Or.inl ⟨hs5_, h4_, (Or.inr ⟨h7_, (Or.inr ⟨hs59_, h58_, M71_, hI74_, hF75_, r70_, hs77_, rfl, rfl⟩)⟩)⟩)⟩
  · simp only [li_0, li_2] at h4_
    refine w_if_eq (tgt := 37) dX11_air_6 (by decide) li_0 (fun h78_ => ?_) (fun h9 => (absurd h9 (by decide)))
    refine w_aload_n dX11_air_37 rfl 0 rfl ?_
    refine w_iconst (v := 1) dX11_air_38 (by decide) ?_
    refine w_callV (as := [vI 1]) (rest := []) (c_X11_error l G cy ad d 1 Mz hIz) kV_X11_error pnn_0 (Nat.le_of_ble_eq_true rfl) m_500 rfl rfl rfl ic_11 rfl rfl (by decide) (Nat.le_of_ble_eq_true rfl) dX11_air_39 (fun r79_ M80_ q81_ => ?_)
    obtain ⟨hI83_, hF84_, h82_, hs86_⟩ := q81_
    have hF85_ := hFz.tr hF84_ (fun c k => (fun h => h.elim (fun h => (Or.inr (Or.inr (Or.inr (Or.inl ⟨h.1, h.2⟩))))) (fun h => h.elim)))
    exact w_iret rfl dX11_air_42 ⟨hI83_, hF85_, trivial, (Or.inr ⟨hs5_, h4_, M80_, hI83_, hF84_, r79_, hs86_, rfl, rfl⟩)⟩
def S_c_X11_walker : rf → Nat → Prop := fun c k => (c.1 = 9 ∧ c.2.1 = 0 ∧ k = 0) ∨ (c.1 = 9 ∧ c.2.1 = 0 ∧ k = 1) ∨ (c.1 = 9 ∧ c.2.1 = 0 ∧ k = 2) ∨ (c.1 = 9 ∧ c.2.1 = 0 ∧ k = 3) ∨ (c.1 = 9 ∧ c.2.1 = 0 ∧ k = 4) ∨ (c.1 = 9 ∧ c.2.1 = 0 ∧ k = 5) ∨ (c.1 = 9 ∧ c.2.1 = 0 ∧ k = 6) ∨ (c.1 = 9 ∧ c.2.1 = 0 ∧ k = 7) ∨ (c.1 = 9 ∧ c.2.1 = 0 ∧ k = 8) ∨ (c.1 = 40 ∧ c.2.1 = 0) ∨ (c.1 = 41 ∧ c.2.1 = 0) ∨ (c.1 = 35 ∧ c.2.1 = 0) ∨ (c.1 = 10 ∧ c.2.1 = 0 ∧ k = 6) ∨ (c.1 = 44 ∧ c.2.1 = 0) ∨ False
def SP_X11_walker (v : Int32) (u : Int32) (t : Int32) (Mz : mM) (r_ : Int32) (M_ : mM) : Prop := (((SP_X11_isWalkerKind v Mz (1 : Int32)) ∧ (0 ≤ v.toInt ∧ v.toInt ≤ 7) ∧ (((SP_X7_isCell u Mz (1 : Int32)) ∧ (0 ≤ u.toInt ∧ u.toInt ≤ 191) ∧ (((SP_X7_isSide t Mz (1 : Int32)) ∧ (0 ≤ t.toInt ∧ t.toInt ≤ 7) ∧ (((SP_X7_isFree 0 u Mz (1 : Int32)) ∧ (0 ≤ u.toInt ∧ u.toInt ≤ 191) ∧ ∃ z25_ : Int32, (z25_ = Mz.1 (10, 0, 0) 6) ∧ (((z25_.toInt < 8) ∧ ∃ M29_ : mM, (Inv M29_) ∧ (FR (S_c_X10_addWalker 0) Mz M29_) ∧ ∃ r28_ : Int32, (SP_X10_addWalker 0 v u t Mz r28_ M29_) ∧ r_ = r28_ ∧ M_ = M29_) ∨ ((8 ≤ z25_.toInt) ∧ ∃ M37_ : mM, (Inv M37_) ∧ (FR (S_c_X11_error) Mz M37_) ∧ ∃ r36_ : Int32, (SP_X11_error 4 Mz r36_ M37_) ∧ r_ = r36_ ∧ M_ = M37_))) ∨ ((SP_X7_isFree 0 u Mz (0 : Int32)) ∧ ∃ M46_ : mM, (Inv M46_) ∧ (FR (S_c_X11_error) Mz M46_) ∧ ∃ r45_ : Int32, (SP_X11_error 3 Mz r45_ M46_) ∧ r_ = r45_ ∧ M_ = M46_))) ∨ ((SP_X7_isSide t Mz (0 : Int32)) ∧ (¬ (0 ≤ t.toInt ∧ t.toInt ≤ 7)) ∧ ∃ M55_ : mM, (Inv M55_) ∧ (FR (S_c_X11_error) Mz M55_) ∧ ∃ r54_ : Int32, (SP_X11_error 1 Mz r54_ M55_) ∧ r_ = r54_ ∧ M_ = M55_))) ∨ ((SP_X7_isCell u Mz (0 : Int32)) ∧ (¬ (0 ≤ u.toInt ∧ u.toInt ≤ 191)) ∧ ∃ M64_ : mM, (Inv M64_) ∧ (FR (S_c_X11_error) Mz M64_) ∧ ∃ r63_ : Int32, (SP_X11_error 1 Mz r63_ M64_) ∧ r_ = r63_ ∧ M_ = M64_))) ∨ ((SP_X11_isWalkerKind v Mz (0 : Int32)) ∧ (¬ (0 ≤ v.toInt ∧ v.toInt ≤ 7)) ∧ ∃ M73_ : mM, (Inv M73_) ∧ (FR (S_c_X11_error) Mz M73_) ∧ ∃ r72_ : Int32, (SP_X11_error 1 Mz r72_ M73_) ∧ r_ = r72_ ∧ M_ = M73_))
set_option maxHeartbeats 4000000 in
set_option maxRecDepth 100000 in
theorem c_X11_walker (l : Launch) (G : va_G) (cy : Nat → ClassId) (ad : rf → Nat) (d : Nat) (v : Int32) (u : Int32) (t : Int32) (Mz : mM) (hIz : Inv Mz) : WP CC l G cy ad yX11_walker cX11_walker 4 (some .int) (d + 3) 0 [(0, vR (11, 0, 0)), (1, vI v), (2, vI u), (3, vI t)] [] Mz (fun r M' => Inv M' ∧ FR (S_c_X11_walker) Mz M' ∧ (True) ∧ SP_X11_walker v u t Mz r M') := by
  have hFz : FR (S_c_X11_walker) Mz Mz := FR.self
  refine w_iload_n dX11_walker_0 rfl 1 rfl ?_
  refine w_callS (as := [vI v]) (rest := []) (c_X11_isWalkerKind l G cy ad (d + 1) v Mz hIz) kS_X11_isWalkerKind pnn_0 (Nat.le_of_ble_eq_true rfl) m_593 rfl rfl (by decide) (Nat.le_of_ble_eq_true rfl) dX11_walker_1 (fun r1_ M2_ q3_ => ?_)
  obtain ⟨rfl, h4_, hs5_⟩ := q3_
  rcases h4_ with ⟨rfl, h4_⟩ | ⟨rfl, h4_⟩
  · refine w_if_eq (tgt := 21) dX11_walker_4 (by decide) li_1 (fun h9 => (absurd h9 (by decide))) (fun h6_ => ?_)
    refine w_iload_n dX11_walker_7 rfl 2 rfl ?_
    refine w_callS (as := [vI u]) (rest := []) (c_X7_isCell l G cy ad (d + 2) u Mz hIz) kS_X7_isCell pnn_1 (Nat.le_of_ble_eq_true rfl) m_497 rfl rfl (by decide) (Nat.le_of_ble_eq_true rfl) dX11_walker_8 (fun r7_ M8_ q9_ => ?_)
    obtain ⟨rfl, h10_, hs11_⟩ := q9_
    rcases h10_ with ⟨rfl, h10_⟩ | ⟨rfl, h10_⟩
    · refine w_if_eq (tgt := 21) dX11_walker_11 (by decide) li_1 (fun h9 => (absurd h9 (by decide))) (fun h12_ => ?_)
      refine w_iload_n dX11_walker_14 rfl 3 rfl ?_
      refine w_callS (as := [vI t]) (rest := []) (c_X7_isSide l G cy ad (d + 2) t Mz hIz) kS_X7_isSide pnn_1 (Nat.le_of_ble_eq_true rfl) m_539 rfl rfl (by decide) (Nat.le_of_ble_eq_true rfl) dX11_walker_15 (fun r13_ M14_ q15_ => ?_)
      obtain ⟨rfl, h16_, hs17_⟩ := q15_
      rcases h16_ with ⟨rfl, h16_⟩ | ⟨rfl, h16_⟩
      · refine w_if_ne (tgt := 27) dX11_walker_18 (by decide) li_1 (fun h18_ => ?_) (fun h9 => (absurd h9 (by decide)))
        refine w_aload_n dX11_walker_27 rfl 0 rfl ?_
        refine w_getR (c' := (10, 0, 0)) fl_RX11_10 rfl rfl ic_11 dX11_walker_28 rfl ?_
        refine w_getR (c' := (7, 0, 0)) fl_RX11_71 rfl rfl (ic_10 (by decide)) dX11_walker_31 rfl ?_
        refine w_iload_n dX11_walker_34 rfl 2 rfl ?_
        refine w_callV (as := [vI u]) (rest := []) (c_X7_isFree l G cy ad (d + 1) 0 u Mz hIz (by first | decide | (unfold vF; omega) | (unfold vRw; omega))) kV_X7_isFree pnn_1 (Nat.le_of_ble_eq_true rfl) m_505 rfl rfl rfl (ic_7 (by decide)) rfl rfl (by decide) (Nat.le_of_ble_eq_true rfl) dX11_walker_35 (fun r19_ M20_ q21_ => ?_)
        obtain ⟨rfl, h22_, hs23_⟩ := q21_
        rcases h22_ with ⟨rfl, h22_⟩ | rfl
        · refine w_if_ne (tgt := 47) dX11_walker_38 (by decide) li_1 (fun h24_ => ?_) (fun h9 => (absurd h9 (by decide)))
          refine w_aload_n dX11_walker_47 rfl 0 rfl ?_
          refine w_getR (c' := (10, 0, 0)) fl_RX11_10 rfl rfl ic_11 dX11_walker_48 rfl ?_
          refine w_getI fl_RX11_148 rfl rfl (ic_10 (by decide)) dX11_walker_51 (fun z25_ e26_ => ?_)
          refine w_bipush (v := 8) dX11_walker_54 (by decide) ?_
          refine w_icmp_lt (tgt := 65) dX11_walker_56 (by decide) (rfl : z25_.toInt = z25_.toInt) li_8 (fun h27_ => ?_) (fun h27_ => ?_)
          · refine w_aload_n dX11_walker_65 rfl 0 rfl ?_
            refine w_getR (c' := (10, 0, 0)) fl_RX11_10 rfl rfl ic_11 dX11_walker_66 rfl ?_
            refine w_iload_n dX11_walker_69 rfl 1 rfl ?_
            refine w_iload_n dX11_walker_70 rfl 2 rfl ?_
            refine w_iload_n dX11_walker_71 rfl 3 rfl ?_
            refine w_callV (as := [vI v, vI u, vI t]) (rest := []) (c_X10_addWalker l G cy ad d 0 v u t Mz hIz (by first | decide | (unfold vF; omega) | (unfold vRw; omega))) kV_X10_addWalker pnn_7 (Nat.le_of_ble_eq_true rfl) m_596 rfl rfl rfl (ic_10 (by decide)) rfl rfl (by decide) (Nat.le_of_ble_eq_true rfl) dX11_walker_72 (fun r28_ M29_ q30_ => ?_)
            obtain ⟨hI32_, hF33_, h31_, hs35_⟩ := q30_
            have hF34_ := hFz.tr hF33_ (fun c k => (fun h => h.elim (fun h => (Or.inl ⟨h.1, h.2.1, h.2.2⟩)) (fun h => h.elim (fun h => (Or.inr (Or.inl ⟨h.1, h.2.1, h.2.2⟩))) (fun h => h.elim (fun h => (Or.inr (Or.inr (Or.inl ⟨h.1, h.2.1, h.2.2⟩)))) (fun h => h.elim (fun h => (Or.inr (Or.inr (Or.inr (Or.inl ⟨h.1, h.2.1, h.2.2⟩))))) (fun h => h.elim (fun h => (Or.inr (Or.inr (Or.inr (Or.inr (Or.inl ⟨h.1, h.2.1, h.2.2⟩)))))) (fun h => h.elim (fun h => (Or.inr (Or.inr (Or.inr (Or.inr (Or.inr (Or.inl ⟨h.1, h.2.1, h.2.2⟩))))))) (fun h => h.elim (fun h => (Or.inr (Or.inr (Or.inr (Or.inr (Or.inr (Or.inr (Or.inl ⟨h.1, h.2.1, h.2.2⟩)))))))) (fun h => h.elim (fun h => (Or.inr (Or.inr (Or.inr (Or.inr (Or.inr (Or.inr (Or.inr (Or.inl ⟨h.1, h.2.1, h.2.2⟩))))))))) (fun h => h.elim (fun h => (Or.inr (Or.inr (Or.inr (Or.inr (Or.inr (Or.inr (Or.inr (Or.inr (Or.inl ⟨h.1, h.2.1, h.2.2⟩)))))))))) (fun h => h.elim (fun h => (Or.inr (Or.inr (Or.inr (Or.inr (Or.inr (Or.inr (Or.inr (Or.inr (Or.inr (Or.inl ⟨h.1, h.2⟩))))))))))) (fun h => h.elim (fun h => (Or.inr (Or.inr (Or.inr (Or.inr (Or.inr (Or.inr (Or.inr (Or.inr (Or.inr (Or.inr (Or.inl ⟨h.1, h.2⟩)))))))))))) (fun h => h.elim (fun h => (Or.inr (Or.inr (Or.inr (Or.inr (Or.inr (Or.inr (Or.inr (Or.inr (Or.inr (Or.inr (Or.inr (Or.inl ⟨h.1, h.2⟩))))))))))))) (fun h => h.elim (fun h => (Or.inr (Or.inr (Or.inr (Or.inr (Or.inr (Or.inr (Or.inr (Or.inr (Or.inr (Or.inr (Or.inr (Or.inr (Or.inl ⟨h.1, h.2.1, h.2.2⟩)))))))))))))) (fun h => h.elim)))))))))))))))
            exact w_iret rfl dX11_walker_75 ⟨hI32_, hF34_, trivial, (Or.inl ⟨hs5_, h4_, (Or.inl ⟨hs11_, h10_, (Or.inl ⟨hs17_, h16_, (Or.inl ⟨hs23_, h22_, z25_, e26_, (Or.inl ⟨h27_, M29_, hI32_, hF33_, r28_, hs35_, rfl, rfl⟩)⟩)⟩)⟩)⟩)⟩
          · refine w_aload_n dX11_walker_59 rfl 0 rfl ?_
            refine w_iconst (v := 4) dX11_walker_60 (by decide) ?_
            refine w_callV (as := [vI 4]) (rest := []) (c_X11_error l G cy ad (d + 2) 4 Mz hIz) kV_X11_error pnn_0 (Nat.le_of_ble_eq_true rfl) m_500 rfl rfl rfl ic_11 rfl rfl (by decide) (Nat.le_of_ble_eq_true rfl) dX11_walker_61 (fun r36_ M37_ q38_ => ?_)
            obtain ⟨hI40_, hF41_, h39_, hs43_⟩ := q38_
            have hF42_ := hFz.tr hF41_ (fun c k => (fun h => h.elim (fun h => (Or.inr (Or.inr (Or.inr (Or.inr (Or.inr (Or.inr (Or.inr (Or.inr (Or.inr (Or.inr (Or.inr (Or.inr (Or.inr (Or.inl ⟨h.1, h.2⟩))))))))))))))) (fun h => h.elim)))
            exact w_iret rfl dX11_walker_64 ⟨hI40_, hF42_, trivial, (Or.inl ⟨hs5_, h4_, (Or.inl ⟨hs11_, h10_, (Or.inl ⟨hs17_, h16_, (Or.inl ⟨hs23_, h22_, z25_, e26_, (Or.inr ⟨h27_, M37_, hI40_, hF41_, r36_, hs43_, rfl, rfl⟩)⟩)⟩)⟩)⟩)⟩
        · refine w_if_ne (tgt := 47) dX11_walker_38 (by decide) li_0 (fun h9 => (absurd h9 (by decide))) (fun h44_ => ?_)
          refine w_aload_n dX11_walker_41 rfl 0 rfl ?_
          refine w_iconst (v := 3) dX11_walker_42 (by decide) ?_
          refine w_callV (as := [vI 3]) (rest := []) (c_X11_error l G cy ad (d + 2) 3 Mz hIz) kV_X11_error pnn_0 (Nat.le_of_ble_eq_true rfl) m_500 rfl rfl rfl ic_11 rfl rfl (by decide) (Nat.le_of_ble_eq_true rfl) dX11_walker_43 (fun r45_ M46_ q47_ => ?_)
          obtain ⟨hI49_, hF50_, h48_, hs52_⟩ := q47_
          have hF51_ := hFz.tr hF50_ (fun c k => (fun h => h.elim (fun h => (Or.inr (Or.inr (Or.inr (Or.inr (Or.inr (Or.inr (Or.inr (Or.inr (Or.inr (Or.inr (Or.inr (Or.inr (Or.inr (Or.inl ⟨h.1, h.2⟩))))))))))))))) (fun h => h.elim)))
          exact w_iret rfl dX11_walker_46 ⟨hI49_, hF51_, trivial, (Or.inl ⟨hs5_, h4_, (Or.inl ⟨hs11_, h10_, (Or.inl ⟨hs17_, h16_, (Or.inr ⟨hs23_, M46_, hI49_, hF50_, r45_, hs52_, rfl, rfl⟩)⟩)⟩)⟩)⟩
      · refine w_if_ne (tgt := 27) dX11_walker_18 (by decide) li_0 (fun h9 => (absurd h9 (by decide))) (fun h53_ => ?_)
        refine w_aload_n dX11_walker_21 rfl 0 rfl ?_
        refine w_iconst (v := 1) dX11_walker_22 (by decide) ?_
        refine w_callV (as := [vI 1]) (rest := []) (c_X11_error l G cy ad (d + 2) 1 Mz hIz) kV_X11_error pnn_0 (Nat.le_of_ble_eq_true rfl) m_500 rfl rfl rfl ic_11 rfl rfl (by decide) (Nat.le_of_ble_eq_true rfl) dX11_walker_23 (fun r54_ M55_ q56_ => ?_)
        obtain ⟨hI58_, hF59_, h57_, hs61_⟩ := q56_
        have hF60_ := hFz.tr hF59_ (fun c k => (fun h => h.elim (fun h => (Or.inr (Or.inr (Or.inr (Or.inr (Or.inr (Or.inr (Or.inr (Or.inr (Or.inr (Or.inr (Or.inr (Or.inr (Or.inr (Or.inl ⟨h.1, h.2⟩))))))))))))))) (fun h => h.elim)))
        exact w_iret rfl dX11_walker_26 ⟨hI58_, hF60_, trivial, (Or.inl ⟨hs5_, h4_, (Or.inl ⟨hs11_, h10_, (Or.inr ⟨hs17_, h16_, M55_, hI58_, hF59_, r54_, hs61_, rfl, rfl⟩)⟩)⟩)⟩
    · refine w_if_eq (tgt := 21) dX11_walker_11 (by decide) li_0 (fun h62_ => ?_) (fun h9 => (absurd h9 (by decide)))
      refine w_aload_n dX11_walker_21 rfl 0 rfl ?_
      refine w_iconst (v := 1) dX11_walker_22 (by decide) ?_
      refine w_callV (as := [vI 1]) (rest := []) (c_X11_error l G cy ad (d + 2) 1 Mz hIz) kV_X11_error pnn_0 (Nat.le_of_ble_eq_true rfl) m_500 rfl rfl rfl ic_11 rfl rfl (by decide) (Nat.le_of_ble_eq_true rfl) dX11_walker_23 (fun r63_ M64_ q65_ => ?_)
      obtain ⟨hI67_, hF68_, h66_, hs70_⟩ := q65_
      have hF69_ := hFz.tr hF68_ (fun c k => (fun h => h.elim (fun h => (Or.inr (Or.inr (Or.inr (Or.inr (Or.inr (Or.inr (Or.inr (Or.inr (Or.inr (Or.inr (Or.inr (Or.inr (Or.inr (Or.inl ⟨h.1, h.2⟩))))))))))))))) (fun h => h.elim)))
      exact w_iret rfl dX11_walker_26 ⟨hI67_, hF69_, trivial, (Or.inl ⟨hs5_, h4_, (Or.inr ⟨hs11_, h10_, M64_, hI67_, hF68_, r63_, hs70_, rfl, rfl⟩)⟩)⟩
  · refine w_if_eq (tgt := 21) dX11_walker_4 (by decide) li_0 (fun h71_ => ?_) (fun h9 => (absurd h9 (by decide)))
    refine w_aload_n dX11_walker_21 rfl 0 rfl ?_
    refine w_iconst (v := 1) dX11_walker_22 (by decide) ?_
    refine w_callV (as := [vI 1]) (rest := []) (c_X11_error l G cy ad (d + 2) 1 Mz hIz) kV_X11_error pnn_0 (Nat.le_of_ble_eq_true rfl) m_500 rfl rfl rfl ic_11 rfl rfl (by decide) (Nat.le_of_ble_eq_true rfl) dX11_walker_23 (fun r72_ M73_ q74_ => ?_)
    obtain ⟨hI76_, hF77_, h75_, hs79_⟩ := q74_
    have hF78_ := hFz.tr hF77_ (fun c k => (fun h => h.elim (fun h => (Or.inr (Or.inr (Or.inr (Or.inr (Or.inr (Or.inr (Or.inr (Or.inr (Or.inr (Or.inr (Or.inr (Or.inr (Or.inr (Or.inl ⟨h.1, h.2⟩))))))))))))))) (fun h => h.elim)))
    exact w_iret rfl dX11_walker_26 ⟨hI76_, hF78_, trivial, (Or.inr ⟨hs5_, h4_, M73_, hI76_, hF77_, r72_, hs79_, rfl, rfl⟩)⟩
def S_c_X11_walkerIs : rf → Nat → Prop := fun c k => (c.1 = 44 ∧ c.2.1 = 0) ∨ False
def SP_X11_walkerIs (v : Int32) (u : Int32) (Mz : mM) (r_ : Int32) (M_ : mM) : Prop := (((SP_X10_hasWalker 0 v Mz (1 : Int32)) ∧ (0 ≤ v.toInt ∧ v.toInt ≤ 7) ∧ (((SP_X11_within u 0 11 Mz (1 : Int32)) ∧ (0 ≤ u.toInt ∧ u.toInt ≤ 11) ∧ ∃ j13_ : Nat, ((j13_ : Int) = v.toInt) ∧ (j13_ < 8) ∧ ∃ r16_ : Int32, (SP_X9_factOf 0 j13_ u Mz r16_) ∧ r_ = r16_ ∧ M_ = Mz) ∨ ((SP_X11_within u 0 11 Mz (0 : Int32)) ∧ (¬ (0 ≤ u.toInt ∧ u.toInt ≤ 11)) ∧ ∃ M23_ : mM, (Inv M23_) ∧ (FR (S_c_X11_error) Mz M23_) ∧ ∃ r22_ : Int32, (SP_X11_error 1 Mz r22_ M23_) ∧ r_ = r22_ ∧ M_ = M23_))) ∨ ((SP_X10_hasWalker 0 v Mz (0 : Int32)) ∧ ∃ M32_ : mM, (Inv M32_) ∧ (FR (S_c_X11_error) Mz M32_) ∧ ∃ r31_ : Int32, (SP_X11_error 1 Mz r31_ M32_) ∧ r_ = r31_ ∧ M_ = M32_))
set_option maxHeartbeats 4000000 in
set_option maxRecDepth 100000 in
theorem c_X11_walkerIs (l : Launch) (G : va_G) (cy : Nat → ClassId) (ad : rf → Nat) (d : Nat) (v : Int32) (u : Int32) (Mz : mM) (hIz : Inv Mz) : WP CC l G cy ad yX11_walkerIs cX11_walkerIs 3 (some .int) (d + 2) 0 [(0, vR (11, 0, 0)), (1, vI v), (2, vI u)] [] Mz (fun r M' => Inv M' ∧ FR (S_c_X11_walkerIs) Mz M' ∧ (True) ∧ SP_X11_walkerIs v u Mz r M') := by
  have hFz : FR (S_c_X11_walkerIs) Mz Mz := FR.self
  refine w_aload_n dX11_walkerIs_0 rfl 0 rfl ?_
  refine w_getR (c' := (10, 0, 0)) fl_RX11_10 rfl rfl ic_11 dX11_walkerIs_1 rfl ?_
  refine w_iload_n dX11_walkerIs_4 rfl 1 rfl ?_
  refine w_callV (as := [vI v]) (rest := []) (c_X10_hasWalker l G cy ad (d + 1) 0 v Mz hIz (by first | decide | (unfold vF; omega) | (unfold vRw; omega))) kV_X10_hasWalker pnn_7 (Nat.le_of_ble_eq_true rfl) m_609 rfl rfl rfl (ic_10 (by decide)) rfl rfl (by decide) (Nat.le_of_ble_eq_true rfl) dX11_walkerIs_5 (fun r1_ M2_ q3_ => ?_)
  obtain ⟨rfl, h4_, hs5_⟩ := q3_
  rcases h4_ with ⟨rfl, h4_⟩ | rfl
  · refine w_if_eq (tgt := 21) dX11_walkerIs_8 (by decide) li_1 (fun h9 => (absurd h9 (by decide))) (fun h6_ => ?_)
    refine w_iload_n dX11_walkerIs_11 rfl 2 rfl ?_
    refine w_iconst (v := 0) dX11_walkerIs_12 (by decide) ?_
    refine w_bipush (v := 11) dX11_walkerIs_13 (by decide) ?_
    refine w_callS (as := [vI u, vI 0, vI 11]) (rest := []) (c_X11_within l G cy ad (d + 1) u 0 11 Mz hIz) kS_X11_within pnn_0 (Nat.le_of_ble_eq_true rfl) m_494 rfl rfl (by decide) (Nat.le_of_ble_eq_true rfl) dX11_walkerIs_15 (fun r7_ M8_ q9_ => ?_)
    obtain ⟨rfl, h10_, hs11_⟩ := q9_
    rcases h10_ with ⟨rfl, h10_⟩ | ⟨rfl, h10_⟩
    · simp only [li_0, li_11] at h10_
      refine w_if_ne (tgt := 27) dX11_walkerIs_18 (by decide) li_1 (fun h12_ => ?_) (fun h9 => (absurd h9 (by decide)))
      refine w_aload_n dX11_walkerIs_27 rfl 0 rfl ?_
      refine w_getR (c' := (10, 0, 0)) fl_RX11_10 rfl rfl ic_11 dX11_walkerIs_28 rfl ?_
      refine w_getR (c' := (42, 0, 0)) fl_RX11_157 rfl rfl (ic_10 (by decide)) dX11_walkerIs_31 rfl ?_
      refine w_iload_n dX11_walkerIs_34 rfl 1 rfl ?_
      refine w_aald rfl rfl rfl (fun _ => rfl) (ic_42 (by decide)) (rfl : v.toInt = v.toInt) (lf_c_X7_cellFrom_2 v h4_ ) dX11_walkerIs_35 (fun j13_ h14_ h15_ => ?_)
      refine w_iload_n dX11_walkerIs_36 rfl 2 rfl ?_
      refine w_callV (as := [vI u]) (rest := []) (c_X9_factOf l G cy ad d 0 j13_ u Mz hIz (by first | decide | (unfold vF; omega) | (unfold vRw; omega)) h15_) kV_X9_factOf pnn_3 (Nat.le_of_ble_eq_true rfl) m_613 rfl rfl rfl (ic_9 (by decide) h15_) rfl rfl (by decide) (Nat.le_of_ble_eq_true rfl) dX11_walkerIs_37 (fun r16_ M17_ q18_ => ?_)
      obtain ⟨rfl, h19_, hs20_⟩ := q18_
      exact w_iret rfl dX11_walkerIs_40 ⟨hIz, hFz, trivial, (Or.inl ⟨hs5_, h4_, (Or.inl ⟨hs11_, h10_, j13_, h14_, h15_, r16_, hs20_, rfl, rfl⟩)⟩)⟩
    · simp only [li_0, li_11] at h10_
      refine w_if_ne (tgt := 27) dX11_walkerIs_18 (by decide) li_0 (fun h9 => (absurd h9 (by decide))) (fun h21_ => ?_)
      refine w_aload_n dX11_walkerIs_21 rfl 0 rfl ?_
      refine w_iconst (v := 1) dX11_walkerIs_22 (by decide) ?_
      refine w_callV (as := [vI 1]) (rest := []) (c_X11_error l G cy ad (d + 1) 1 Mz hIz) kV_X11_error pnn_0 (Nat.le_of_ble_eq_true rfl) m_500 rfl rfl rfl ic_11 rfl rfl (by decide) (Nat.le_of_ble_eq_true rfl) dX11_walkerIs_23 (fun r22_ M23_ q24_ => ?_)
      obtain ⟨hI26_, hF27_, h25_, hs29_⟩ := q24_
      have hF28_ := hFz.tr hF27_ (fun c k => (fun h => h.elim (fun h => (Or.inl ⟨h.1, h.2⟩)) (fun h => h.elim)))
      exact w_iret rfl dX11_walkerIs_26 ⟨hI26_, hF28_, trivial, (Or.inl ⟨hs5_, h4_, (Or.inr ⟨hs11_, h10_, M23_, hI26_, hF27_, r22_, hs29_, rfl, rfl⟩)⟩)⟩
  · refine w_if_eq (tgt := 21) dX11_walkerIs_8 (by decide) li_0 (fun h30_ => ?_) (fun h9 => (absurd h9 (by decide)))
    refine w_aload_n dX11_walkerIs_21 rfl 0 rfl ?_
    refine w_iconst (v := 1) dX11_walkerIs_22 (by decide) ?_
    refine w_callV (as := [vI 1]) (rest := []) (c_X11_error l G cy ad (d + 1) 1 Mz hIz) kV_X11_error pnn_0 (Nat.le_of_ble_eq_true rfl) m_500 rfl rfl rfl ic_11 rfl rfl (by decide) (Nat.le_of_ble_eq_true rfl) dX11_walkerIs_23 (fun r31_ M32_ q33_ => ?_)
    obtain ⟨hI35_, hF36_, h34_, hs38_⟩ := q33_
    have hF37_ := hFz.tr hF36_ (fun c k => (fun h => h.elim (fun h => (Or.inl ⟨h.1, h.2⟩)) (fun h => h.elim)))
    exact w_iret rfl dX11_walkerIs_26 ⟨hI35_, hF37_, trivial, (Or.inr ⟨hs5_, M32_, hI35_, hF36_, r31_, hs38_, rfl, rfl⟩)⟩
def S_c_X11_as : rf → Nat → Prop := fun c k => (c.1 = 44 ∧ c.2.1 = 0) ∨ False
def SP_X11_as (v : Int32) (u : Int32) (Mz : mM) (r_ : Int32) (M_ : mM) : Prop := (((SP_X10_hasWalker 0 v Mz (1 : Int32)) ∧ (0 ≤ v.toInt ∧ v.toInt ≤ 7) ∧ (((SP_X11_isWalkerKind u Mz (1 : Int32)) ∧ (0 ≤ u.toInt ∧ u.toInt ≤ 7) ∧ ∃ j13_ : Nat, ((j13_ : Int) = v.toInt) ∧ (j13_ < 8) ∧ ∃ r16_ : Int32, (SP_X9_isOf 0 j13_ u Mz r16_) ∧ ((0 ≤ r16_.toInt ∧ r16_.toInt ≤ 1)) ∧ (((¬ r16_.toInt = 0) ∧ ∃ j22_ : Nat, ((j22_ : Int) = v.toInt) ∧ (j22_ < 8) ∧ ∃ r25_ : Int32, (SP_X9_reach 0 j22_ Mz r25_) ∧ (0 ≤ r25_.toInt ∧ r25_.toInt ≤ 12) ∧ r_ = r25_ ∧ M_ = Mz) ∨ ((r16_.toInt = 0) ∧ ∃ M31_ : mM, (Inv M31_) ∧ (FR (S_c_X11_error) Mz M31_) ∧ ∃ r30_ : Int32, (SP_X11_error 5 Mz r30_ M31_) ∧ r_ = r30_ ∧ M_ = M31_))) ∨ ((SP_X11_isWalkerKind u Mz (0 : Int32)) ∧ (¬ (0 ≤ u.toInt ∧ u.toInt ≤ 7)) ∧ ∃ M40_ : mM, (Inv M40_) ∧ (FR (S_c_X11_error) Mz M40_) ∧ ∃ r39_ : Int32, (SP_X11_error 1 Mz r39_ M40_) ∧ r_ = r39_ ∧ M_ = M40_))) ∨ ((SP_X10_hasWalker 0 v Mz (0 : Int32)) ∧ ∃ M49_ : mM, (Inv M49_) ∧ (FR (S_c_X11_error) Mz M49_) ∧ ∃ r48_ : Int32, (SP_X11_error 1 Mz r48_ M49_) ∧ r_ = r48_ ∧ M_ = M49_))
set_option maxHeartbeats 4000000 in
set_option maxRecDepth 100000 in
theorem c_X11_as (l : Launch) (G : va_G) (cy : Nat → ClassId) (ad : rf → Nat) (d : Nat) (v : Int32) (u : Int32) (Mz : mM) (hIz : Inv Mz) : WP CC l G cy ad yX11_as cX11_as 3 (some .int) (d + 2) 0 [(0, vR (11, 0, 0)), (1, vI v), (2, vI u)] [] Mz (fun r M' => Inv M' ∧ FR (S_c_X11_as) Mz M' ∧ (True) ∧ SP_X11_as v u Mz r M') := by
  have hFz : FR (S_c_X11_as) Mz Mz := FR.self
  refine w_aload_n dX11_as_0 rfl 0 rfl ?_
  refine w_getR (c' := (10, 0, 0)) fl_RX11_10 rfl rfl ic_11 dX11_as_1 rfl ?_
  refine w_iload_n dX11_as_4 rfl 1 rfl ?_
  refine w_callV (as := [vI v]) (rest := []) (c_X10_hasWalker l G cy ad (d + 1) 0 v Mz hIz (by first | decide | (unfold vF; omega) | (unfold vRw; omega))) kV_X10_hasWalker pnn_7 (Nat.le_of_ble_eq_true rfl) m_609 rfl rfl rfl (ic_10 (by decide)) rfl rfl (by decide) (Nat.le_of_ble_eq_true rfl) dX11_as_5 (fun r1_ M2_ q3_ => ?_)
  obtain ⟨rfl, h4_, hs5_⟩ := q3_
  rcases h4_ with ⟨rfl, h4_⟩ | rfl
  · refine w_if_eq (tgt := 18) dX11_as_8 (by decide) li_1 (fun h9 => (absurd h9 (by decide))) (fun h6_ => ?_)
    refine w_iload_n dX11_as_11 rfl 2 rfl ?_
    refine w_callS (as := [vI u]) (rest := []) (c_X11_isWalkerKind l G cy ad d u Mz hIz) kS_X11_isWalkerKind pnn_0 (Nat.le_of_ble_eq_true rfl) m_593 rfl rfl (by decide) (Nat.le_of_ble_eq_true rfl) dX11_as_12 (fun r7_ M8_ q9_ => ?_)
    obtain ⟨rfl, h10_, hs11_⟩ := q9_
    rcases h10_ with ⟨rfl, h10_⟩ | ⟨rfl, h10_⟩
    · refine w_if_ne (tgt := 24) dX11_as_15 (by decide) li_1 (fun h12_ => ?_) (fun h9 => (absurd h9 (by decide)))
      refine w_aload_n dX11_as_24 rfl 0 rfl ?_
      refine w_getR (c' := (10, 0, 0)) fl_RX11_10 rfl rfl ic_11 dX11_as_25 rfl ?_
      refine w_getR (c' := (42, 0, 0)) fl_RX11_157 rfl rfl (ic_10 (by decide)) dX11_as_28 rfl ?_
      refine w_iload_n dX11_as_31 rfl 1 rfl ?_
      refine w_aald rfl rfl rfl (fun _ => rfl) (ic_42 (by decide)) (rfl : v.toInt = v.toInt) (lf_c_X7_cellFrom_2 v h4_ ) dX11_as_32 (fun j13_ h14_ h15_ => ?_)
      refine w_iload_n dX11_as_33 rfl 2 rfl ?_
      refine w_callV (as := [vI u]) (rest := []) (c_X9_isOf l G cy ad d 0 j13_ u Mz hIz (by first | decide | (unfold vF; omega) | (unfold vRw; omega)) h15_) kV_X9_isOf pnn_3 (Nat.le_of_ble_eq_true rfl) m_639 rfl rfl rfl (ic_9 (by decide) h15_) rfl rfl (by decide) (Nat.le_of_ble_eq_true rfl) dX11_as_34 (fun r16_ M17_ q18_ => ?_)
      obtain ⟨rfl, h19_, hs20_⟩ := q18_
      refine w_if_ne (tgt := 46) dX11_as_37 (by decide) (rfl : r16_.toInt = r16_.toInt) (fun h21_ => ?_) (fun h21_ => ?_)
      · refine w_aload_n dX11_as_46 rfl 0 rfl ?_
        refine w_getR (c' := (10, 0, 0)) fl_RX11_10 rfl rfl ic_11 dX11_as_47 rfl ?_
        refine w_getR (c' := (42, 0, 0)) fl_RX11_157 rfl rfl (ic_10 (by decide)) dX11_as_50 rfl ?_
        refine w_iload_n dX11_as_53 rfl 1 rfl ?_
        refine w_aald rfl rfl rfl (fun _ => rfl) (ic_42 (by decide)) (rfl : v.toInt = v.toInt) (lf_c_X7_cellFrom_2 v h4_ ) dX11_as_54 (fun j22_ h23_ h24_ => ?_)
        refine w_callV (as := []) (rest := []) (c_X9_reach l G cy ad (d + 1) 0 j22_ Mz hIz (by first | decide | (unfold vF; omega) | (unfold vRw; omega)) h24_) kV_X9_reach pnn_3 (Nat.le_of_ble_eq_true rfl) m_648 rfl rfl rfl (ic_9 (by decide) h24_) rfl rfl (by decide) (Nat.le_of_ble_eq_true rfl) dX11_as_55 (fun r25_ M26_ q27_ => ?_)
        obtain ⟨rfl, h28_, hs29_⟩ := q27_
        exact w_iret rfl dX11_as_58 ⟨hIz, hFz, trivial, (Or.inl ⟨hs5_, h4_, (Or.inl ⟨hs11_, h10_, j13_, h14_, h15_, r16_, hs20_, h19_, (Or.inl ⟨h21_, j22_, h23_, h24_, r25_, hs29_, h28_, rfl, rfl⟩)⟩)⟩)⟩
      · refine w_aload_n dX11_as_40 rfl 0 rfl ?_
        refine w_iconst (v := 5) dX11_as_41 (by decide) ?_
        refine w_callV (as := [vI 5]) (rest := []) (c_X11_error l G cy ad (d + 1) 5 Mz hIz) kV_X11_error pnn_0 (Nat.le_of_ble_eq_true rfl) m_500 rfl rfl rfl ic_11 rfl rfl (by decide) (Nat.le_of_ble_eq_true rfl) dX11_as_42 (fun r30_ M31_ q32_ => ?_)
        obtain ⟨hI34_, hF35_, h33_, hs37_⟩ := q32_
        have hF36_ := hFz.tr hF35_ (fun c k => (fun h => h.elim (fun h => (Or.inl ⟨h.1, h.2⟩)) (fun h => h.elim)))
        exact w_iret rfl dX11_as_45 ⟨hI34_, hF36_, trivial, (Or.inl ⟨hs5_, h4_, (Or.inl ⟨hs11_, h10_, j13_, h14_, h15_, r16_, hs20_, h19_, (Or.inr ⟨h21_, M31_, hI34_, hF35_, r30_, hs37_, rfl, rfl⟩)⟩)⟩)⟩
    · refine w_if_ne (tgt := 24) dX11_as_15 (by decide) li_0 (fun h9 => (absurd h9 (by decide))) (fun h38_ => ?_)
      refine w_aload_n dX11_as_18 rfl 0 rfl ?_
      refine w_iconst (v := 1) dX11_as_19 (by decide) ?_
      refine w_callV (as := [vI 1]) (rest := []) (c_X11_error l G cy ad (d + 1) 1 Mz hIz) kV_X11_error pnn_0 (Nat.le_of_ble_eq_true rfl) m_500 rfl rfl rfl ic_11 rfl rfl (by decide) (Nat.le_of_ble_eq_true rfl) dX11_as_20 (fun r39_ M40_ q41_ => ?_)
      obtain ⟨hI43_, hF44_, h42_, hs46_⟩ := q41_
      have hF45_ := hFz.tr hF44_ (fun c k => (fun h => h.elim (fun h => (Or.inl ⟨h.1, h.2⟩)) (fun h => h.elim)))
      exact w_iret rfl dX11_as_23 ⟨hI43_, hF45_, trivial, (Or.inl ⟨hs5_, h4_, (Or.inr ⟨hs11_, h10_, M40_, hI43_, hF44_, r39_, hs46_, rfl, rfl⟩)⟩)⟩
  · refine w_if_eq (tgt := 18) dX11_as_8 (by decide) li_0 (fun h47_ => ?_) (fun h9 => (absurd h9 (by decide)))
    refine w_aload_n dX11_as_18 rfl 0 rfl ?_
    refine w_iconst (v := 1) dX11_as_19 (by decide) ?_
    refine w_callV (as := [vI 1]) (rest := []) (c_X11_error l G cy ad (d + 1) 1 Mz hIz) kV_X11_error pnn_0 (Nat.le_of_ble_eq_true rfl) m_500 rfl rfl rfl ic_11 rfl rfl (by decide) (Nat.le_of_ble_eq_true rfl) dX11_as_20 (fun r48_ M49_ q50_ => ?_)
    obtain ⟨hI52_, hF53_, h51_, hs55_⟩ := q50_
    have hF54_ := hFz.tr hF53_ (fun c k => (fun h => h.elim (fun h => (Or.inl ⟨h.1, h.2⟩)) (fun h => h.elim)))
    exact w_iret rfl dX11_as_23 ⟨hI52_, hF54_, trivial, (Or.inr ⟨hs5_, M49_, hI52_, hF53_, r48_, hs55_, rfl, rfl⟩)⟩
def S_c_X11_habit : rf → Nat → Prop := fun c k => (c.1 = 44 ∧ c.2.1 = 0) ∨ (c.1 = 9 ∧ c.2.1 = 0 ∧ k = 3) ∨ (c.1 = 9 ∧ c.2.1 = 0 ∧ k = 4) ∨ (c.1 = 9 ∧ c.2.1 = 0 ∧ k = 5) ∨ False
def SP_X11_habit (v : Int32) (u : Int32) (t : Int32) (s : Int32) (Mz : mM) (r_ : Int32) (M_ : mM) : Prop := (((SP_X10_hasWalker 0 v Mz (1 : Int32)) ∧ (0 ≤ v.toInt ∧ v.toInt ≤ 7) ∧ ∃ r7_ : Int32, (SP_X2_isClick u t Mz r7_) ∧ ((0 ≤ r7_.toInt ∧ r7_.toInt ≤ 1)) ∧ (((r7_.toInt = 0) ∧ ∃ M14_ : mM, (Inv M14_) ∧ (FR (S_c_X11_error) Mz M14_) ∧ ∃ r13_ : Int32, (SP_X11_error 1 Mz r13_ M14_) ∧ r_ = r13_ ∧ M_ = M14_) ∨ ((¬ r7_.toInt = 0) ∧ (((SP_X11_within s 0 30 Mz (1 : Int32)) ∧ (0 ≤ s.toInt ∧ s.toInt ≤ 30) ∧ ∃ j27_ : Nat, ((j27_ : Int) = v.toInt) ∧ (j27_ < 8) ∧ ∃ M30_ : mM, (M30_ = up Mz (9, 0, j27_) 3 u) ∧ ∃ M34_ : mM, (M34_ = up M30_ (9, 0, j27_) 4 t) ∧ ∃ M38_ : mM, (M38_ = up M34_ (9, 0, j27_) 5 s) ∧ r_ = 1 ∧ M_ = M38_) ∨ ((SP_X11_within s 0 30 Mz (0 : Int32)) ∧ (¬ (0 ≤ s.toInt ∧ s.toInt ≤ 30)) ∧ ∃ M44_ : mM, (Inv M44_) ∧ (FR (S_c_X11_error) Mz M44_) ∧ ∃ r43_ : Int32, (SP_X11_error 1 Mz r43_ M44_) ∧ r_ = r43_ ∧ M_ = M44_))))) ∨ ((SP_X10_hasWalker 0 v Mz (0 : Int32)) ∧ ∃ M53_ : mM, (Inv M53_) ∧ (FR (S_c_X11_error) Mz M53_) ∧ ∃ r52_ : Int32, (SP_X11_error 1 Mz r52_ M53_) ∧ r_ = r52_ ∧ M_ = M53_))
set_option maxHeartbeats 4000000 in
set_option maxRecDepth 100000 in
theorem c_X11_habit (l : Launch) (G : va_G) (cy : Nat → ClassId) (ad : rf → Nat) (d : Nat) (v : Int32) (u : Int32) (t : Int32) (s : Int32) (Mz : mM) (hIz : Inv Mz) : WP CC l G cy ad yX11_habit cX11_habit 6 (some .int) (d + 2) 0 [(0, vR (11, 0, 0)), (1, vI v), (2, vI u), (3, vI t), (4, vI s)] [] Mz (fun r M' => Inv M' ∧ FR (S_c_X11_habit) Mz M' ∧ (True) ∧ SP_X11_habit v u t s Mz r M') := by
  have hFz : FR (S_c_X11_habit) Mz Mz := FR.self
  refine w_aload_n dX11_habit_0 rfl 0 rfl ?_
  refine w_getR (c' := (10, 0, 0)) fl_RX11_10 rfl rfl ic_11 dX11_habit_1 rfl ?_
  refine w_iload_n dX11_habit_4 rfl 1 rfl ?_
  refine w_callV (as := [vI v]) (rest := []) (c_X10_hasWalker l G cy ad (d + 1) 0 v Mz hIz (by first | decide | (unfold vF; omega) | (unfold vRw; omega))) kV_X10_hasWalker pnn_7 (Nat.le_of_ble_eq_true rfl) m_609 rfl rfl rfl (ic_10 (by decide)) rfl rfl (by decide) (Nat.le_of_ble_eq_true rfl) dX11_habit_5 (fun r1_ M2_ q3_ => ?_)
  obtain ⟨rfl, h4_, hs5_⟩ := q3_
  rcases h4_ with ⟨rfl, h4_⟩ | rfl
  · refine w_if_eq (tgt := 30) dX11_habit_8 (by decide) li_1 (fun h9 => (absurd h9 (by decide))) (fun h6_ => ?_)
    refine w_iload_n dX11_habit_11 rfl 2 rfl ?_
    refine w_iload_n dX11_habit_12 rfl 3 rfl ?_
    refine w_callS (as := [vI u, vI t]) (rest := []) (c_X2_isClick l G cy ad d u t Mz hIz) kS_X2_isClick pnn_5 (Nat.le_of_ble_eq_true rfl) m_653 rfl rfl (by decide) (Nat.le_of_ble_eq_true rfl) dX11_habit_13 (fun r7_ M8_ q9_ => ?_)
    obtain ⟨rfl, h10_, hs11_⟩ := q9_
    refine w_if_eq (tgt := 30) dX11_habit_16 (by decide) (rfl : r7_.toInt = r7_.toInt) (fun h12_ => ?_) (fun h12_ => ?_)
    · refine w_aload_n dX11_habit_30 rfl 0 rfl ?_
      refine w_iconst (v := 1) dX11_habit_31 (by decide) ?_
      refine w_callV (as := [vI 1]) (rest := []) (c_X11_error l G cy ad (d + 1) 1 Mz hIz) kV_X11_error pnn_0 (Nat.le_of_ble_eq_true rfl) m_500 rfl rfl rfl ic_11 rfl rfl (by decide) (Nat.le_of_ble_eq_true rfl) dX11_habit_32 (fun r13_ M14_ q15_ => ?_)
      obtain ⟨hI17_, hF18_, h16_, hs20_⟩ := q15_
      have hF19_ := hFz.tr hF18_ (fun c k => (fun h => h.elim (fun h => (Or.inl ⟨h.1, h.2⟩)) (fun h => h.elim)))
      exact w_iret rfl dX11_habit_35 ⟨hI17_, hF19_, trivial, (Or.inl ⟨hs5_, h4_, r7_, hs11_, h10_, (Or.inl ⟨h12_, M14_, hI17_, hF18_, r13_, hs20_, rfl, rfl⟩)⟩)⟩
    · refine w_iload dX11_habit_19 4 rfl ?_
      refine w_iconst (v := 0) dX11_habit_21 (by decide) ?_
      refine w_bipush (v := 30) dX11_habit_22 (by decide) ?_
      refine w_callS (as := [vI s, vI 0, vI 30]) (rest := []) (c_X11_within l G cy ad (d + 1) s 0 30 Mz hIz) kS_X11_within pnn_0 (Nat.le_of_ble_eq_true rfl) m_494 rfl rfl (by decide) (Nat.le_of_ble_eq_true rfl) dX11_habit_24 (fun r21_ M22_ q23_ => ?_)
      obtain ⟨rfl, h24_, hs25_⟩ := q23_
      rcases h24_ with ⟨rfl, h24_⟩ | ⟨rfl, h24_⟩
      · simp only [li_0, li_30] at h24_
        refine w_if_ne (tgt := 36) dX11_habit_27 (by decide) li_1 (fun h26_ => ?_) (fun h9 => (absurd h9 (by decide)))
        refine w_aload_n dX11_habit_36 rfl 0 rfl ?_
        refine w_getR (c' := (10, 0, 0)) fl_RX11_10 rfl rfl ic_11 dX11_habit_37 rfl ?_
        refine w_getR (c' := (42, 0, 0)) fl_RX11_157 rfl rfl (ic_10 (by decide)) dX11_habit_40 rfl ?_
        refine w_iload_n dX11_habit_43 rfl 1 rfl ?_
        refine w_aald rfl rfl rfl (fun _ => rfl) (ic_42 (by decide)) (rfl : v.toInt = v.toInt) (lf_c_X7_cellFrom_2 v h4_ ) dX11_habit_44 (fun j27_ h28_ h29_ => ?_)
        refine w_astore (ls' := [(5, vR (9, 0, j27_)), (0, vR (11, 0, 0)), (1, vI v), (2, vI u), (3, vI t), (4, vI s)]) dX11_habit_45 (by decide) rfl ?_
        refine w_aload dX11_habit_47 0 rfl ?_
        refine w_iload_n dX11_habit_49 rfl 3 rfl ?_
        refine w_putI CC_nd fl_RX11_176 rfl rfl (ic_9 (by decide) h29_) dX11_habit_50 (fun M30_ hM31_ => ?_)
        have hI32_ := hIz.put hM31_ (fun h => absurd h (by decide))
        have hF33_ := hFz.put hM31_ (Or.inr (Or.inl ⟨rfl, rfl, rfl⟩))
        refine w_aload dX11_habit_53 0 rfl ?_
        refine w_iload_n dX11_habit_55 rfl 4 rfl ?_
        refine w_putI CC_nd fl_RX11_179 rfl rfl (ic_9 (by decide) h29_) dX11_habit_56 (fun M34_ hM35_ => ?_)
        have hI36_ := hI32_.put hM35_ (fun h => absurd h (by decide))
        have hF37_ := hF33_.put hM35_ (Or.inr (Or.inr (Or.inl ⟨rfl, rfl, rfl⟩)))
        refine w_aload dX11_habit_59 0 rfl ?_
        refine w_iload dX11_habit_61 5 rfl ?_
        refine w_putI CC_nd fl_RX11_182 rfl rfl (ic_9 (by decide) h29_) dX11_habit_63 (fun M38_ hM39_ => ?_)
        have hI40_ := hI36_.put hM39_ (fun h => absurd h (by decide))
        have hF41_ := hF37_.put hM39_ (Or.inr (Or.inr (Or.inr (Or.inl ⟨rfl, rfl, rfl⟩))))
        refine w_iconst (v := 1) dX11_habit_66 (by decide) ?_
        exact w_iret rfl dX11_habit_67 ⟨hI40_, hF41_, trivial, (Or.inl ⟨hs5_, h4_, r7_, hs11_, h10_, (Or.inr ⟨h12_, (Or.inl ⟨hs25_, h24_, j27_, h28_, h29_, M30_, hM31_, M34_, hM35_, M38_, hM39_, rfl, rfl⟩)⟩)⟩)⟩
      · simp only [li_0, li_30] at h24_
        refine w_if_ne (tgt := 36) dX11_habit_27 (by decide) li_0 (fun h9 => (absurd h9 (by decide))) (fun h42_ => ?_)
        refine w_aload_n dX11_habit_30 rfl 0 rfl ?_
        refine w_iconst (v := 1) dX11_habit_31 (by decide) ?_
        refine w_callV (as := [vI 1]) (rest := []) (c_X11_error l G cy ad (d + 1) 1 Mz hIz) kV_X11_error pnn_0 (Nat.le_of_ble_eq_true rfl) m_500 rfl rfl rfl ic_11 rfl rfl (by decide) (Nat.le_of_ble_eq_true rfl) dX11_habit_32 (fun r43_ M44_ q45_ => ?_)
        obtain ⟨hI47_, hF48_, h46_, hs50_⟩ := q45_
        have hF49_ := hFz.tr hF48_ (fun c k => (fun h => h.elim (fun h => (Or.inl ⟨h.1, h.2⟩)) (fun h => h.elim)))
        exact w_iret rfl dX11_habit_35 ⟨hI47_, hF49_, trivial, (Or.inl ⟨hs5_, h4_, r7_, hs11_, h10_, (Or.inr ⟨h12_, (Or.inr ⟨hs25_, h24_, M44_, hI47_, hF48_, r43_, hs50_, rfl, rfl⟩)⟩)⟩)⟩
  · refine w_if_eq (tgt := 30) dX11_habit_8 (by decide) li_0 (fun h51_ => ?_) (fun h9 => (absurd h9 (by decide)))
    refine w_aload_n dX11_habit_30 rfl 0 rfl ?_
    refine w_iconst (v := 1) dX11_habit_31 (by decide) ?_
    refine w_callV (as := [vI 1]) (rest := []) (c_X11_error l G cy ad (d + 1) 1 Mz hIz) kV_X11_error pnn_0 (Nat.le_of_ble_eq_true rfl) m_500 rfl rfl rfl ic_11 rfl rfl (by decide) (Nat.le_of_ble_eq_true rfl) dX11_habit_32 (fun r52_ M53_ q54_ => ?_)
    obtain ⟨hI56_, hF57_, h55_, hs59_⟩ := q54_
    have hF58_ := hFz.tr hF57_ (fun c k => (fun h => h.elim (fun h => (Or.inl ⟨h.1, h.2⟩)) (fun h => h.elim)))
    exact w_iret rfl dX11_habit_35 ⟨hI56_, hF58_, trivial, (Or.inr ⟨hs5_, M53_, hI56_, hF57_, r52_, hs59_, rfl, rfl⟩)⟩
def S_c_X11_face : rf → Nat → Prop := fun c k => (c.1 = 9 ∧ c.2.1 = 0 ∧ k = 2) ∨ (c.1 = 44 ∧ c.2.1 = 0) ∨ False
def SP_X11_face (v : Int32) (u : Int32) (Mz : mM) (r_ : Int32) (M_ : mM) : Prop := (((SP_X10_hasWalker 0 v Mz (1 : Int32)) ∧ (0 ≤ v.toInt ∧ v.toInt ≤ 7) ∧ (((SP_X7_isSide u Mz (1 : Int32)) ∧ (0 ≤ u.toInt ∧ u.toInt ≤ 7) ∧ ∃ j13_ : Nat, ((j13_ : Int) = v.toInt) ∧ (j13_ < 8) ∧ ∃ z16_ : Int32, (z16_ = Mz.1 (9, 0, j13_) 2) ∧ ∃ j18_ : Nat, ((j18_ : Int) = v.toInt) ∧ (j18_ < 8) ∧ ∃ M21_ : mM, (M21_ = up Mz (9, 0, j18_) 2 u) ∧ r_ = z16_ ∧ M_ = M21_) ∨ ((SP_X7_isSide u Mz (0 : Int32)) ∧ (¬ (0 ≤ u.toInt ∧ u.toInt ≤ 7)) ∧ ∃ M27_ : mM, (Inv M27_) ∧ (FR (S_c_X11_error) Mz M27_) ∧ ∃ r26_ : Int32, (SP_X11_error 1 Mz r26_ M27_) ∧ r_ = r26_ ∧ M_ = M27_))) ∨ ((SP_X10_hasWalker 0 v Mz (0 : Int32)) ∧ ∃ M36_ : mM, (Inv M36_) ∧ (FR (S_c_X11_error) Mz M36_) ∧ ∃ r35_ : Int32, (SP_X11_error 1 Mz r35_ M36_) ∧ r_ = r35_ ∧ M_ = M36_))
set_option maxHeartbeats 4000000 in
set_option maxRecDepth 100000 in
theorem c_X11_face (l : Launch) (G : va_G) (cy : Nat → ClassId) (ad : rf → Nat) (d : Nat) (v : Int32) (u : Int32) (Mz : mM) (hIz : Inv Mz) : WP CC l G cy ad yX11_face cX11_face 4 (some .int) (d + 1) 0 [(0, vR (11, 0, 0)), (1, vI v), (2, vI u)] [] Mz (fun r M' => Inv M' ∧ FR (S_c_X11_face) Mz M' ∧ (True) ∧ SP_X11_face v u Mz r M') := by
  have hFz : FR (S_c_X11_face) Mz Mz := FR.self
  refine w_aload_n dX11_face_0 rfl 0 rfl ?_
  refine w_getR (c' := (10, 0, 0)) fl_RX11_10 rfl rfl ic_11 dX11_face_1 rfl ?_
  refine w_iload_n dX11_face_4 rfl 1 rfl ?_
  refine w_callV (as := [vI v]) (rest := []) (c_X10_hasWalker l G cy ad d 0 v Mz hIz (by first | decide | (unfold vF; omega) | (unfold vRw; omega))) kV_X10_hasWalker pnn_7 (Nat.le_of_ble_eq_true rfl) m_609 rfl rfl rfl (ic_10 (by decide)) rfl rfl (by decide) (Nat.le_of_ble_eq_true rfl) dX11_face_5 (fun r1_ M2_ q3_ => ?_)
  obtain ⟨rfl, h4_, hs5_⟩ := q3_
  rcases h4_ with ⟨rfl, h4_⟩ | rfl
  · refine w_if_eq (tgt := 18) dX11_face_8 (by decide) li_1 (fun h9 => (absurd h9 (by decide))) (fun h6_ => ?_)
    refine w_iload_n dX11_face_11 rfl 2 rfl ?_
    refine w_callS (as := [vI u]) (rest := []) (c_X7_isSide l G cy ad d u Mz hIz) kS_X7_isSide pnn_1 (Nat.le_of_ble_eq_true rfl) m_539 rfl rfl (by decide) (Nat.le_of_ble_eq_true rfl) dX11_face_12 (fun r7_ M8_ q9_ => ?_)
    obtain ⟨rfl, h10_, hs11_⟩ := q9_
    rcases h10_ with ⟨rfl, h10_⟩ | ⟨rfl, h10_⟩
    · refine w_if_ne (tgt := 24) dX11_face_15 (by decide) li_1 (fun h12_ => ?_) (fun h9 => (absurd h9 (by decide)))
      refine w_aload_n dX11_face_24 rfl 0 rfl ?_
      refine w_getR (c' := (10, 0, 0)) fl_RX11_10 rfl rfl ic_11 dX11_face_25 rfl ?_
      refine w_getR (c' := (42, 0, 0)) fl_RX11_157 rfl rfl (ic_10 (by decide)) dX11_face_28 rfl ?_
      refine w_iload_n dX11_face_31 rfl 1 rfl ?_
      refine w_aald rfl rfl rfl (fun _ => rfl) (ic_42 (by decide)) (rfl : v.toInt = v.toInt) (lf_c_X7_cellFrom_2 v h4_ ) dX11_face_32 (fun j13_ h14_ h15_ => ?_)
      refine w_getI fl_RX11_185 rfl rfl (ic_9 (by decide) h15_) dX11_face_33 (fun z16_ e17_ => ?_)
      refine w_istore_n (ls' := [(3, vI z16_), (0, vR (11, 0, 0)), (1, vI v), (2, vI u)]) dX11_face_36 rfl (by decide) rfl ?_
      refine w_aload_n dX11_face_37 rfl 1 rfl ?_
      refine w_getR (c' := (10, 0, 0)) fl_RX11_10 rfl rfl ic_11 dX11_face_38 rfl ?_
      refine w_getR (c' := (42, 0, 0)) fl_RX11_157 rfl rfl (ic_10 (by decide)) dX11_face_41 rfl ?_
      refine w_iload_n dX11_face_44 rfl 2 rfl ?_
      refine w_aald rfl rfl rfl (fun _ => rfl) (ic_42 (by decide)) (rfl : v.toInt = v.toInt) (lf_c_X7_cellFrom_2 v h4_ ) dX11_face_45 (fun j18_ h19_ h20_ => ?_)
      refine w_iload_n dX11_face_46 rfl 3 rfl ?_
      refine w_putI CC_nd fl_RX11_185 rfl rfl (ic_9 (by decide) h20_) dX11_face_47 (fun M21_ hM22_ => ?_)
      have hI23_ := hIz.put hM22_ (fun h => absurd h (by decide))
      have hF24_ := hFz.put hM22_ (Or.inl ⟨rfl, rfl, rfl⟩)
      refine w_iload_n dX11_face_50 rfl 0 rfl ?_
      exact w_iret rfl dX11_face_51 ⟨hI23_, hF24_, trivial, (Or.inl ⟨hs5_, h4_, (Or.inl ⟨hs11_, h10_, j13_, h14_, h15_, z16_, e17_, j18_, h19_, h20_, M21_, hM22_, rfl, rfl⟩)⟩)⟩
    · refine w_if_ne (tgt := 24) dX11_face_15 (by decide) li_0 (fun h9 => (absurd h9 (by decide))) (fun h25_ => ?_)
      refine w_aload_n dX11_face_18 rfl 0 rfl ?_
      refine w_iconst (v := 1) dX11_face_19 (by decide) ?_
      refine w_callV (as := [vI 1]) (rest := []) (c_X11_error l G cy ad d 1 Mz hIz) kV_X11_error pnn_0 (Nat.le_of_ble_eq_true rfl) m_500 rfl rfl rfl ic_11 rfl rfl (by decide) (Nat.le_of_ble_eq_true rfl) dX11_face_20 (fun r26_ M27_ q28_ => ?_)
      obtain ⟨hI30_, hF31_, h29_, hs33_⟩ := q28_
      have hF32_ := hFz.tr hF31_ (fun c k => (fun h => h.elim (fun h => (Or.inr (Or.inl ⟨h.1, h.2⟩))) (fun h => h.elim)))
      exact w_iret rfl dX11_face_23 ⟨hI30_, hF32_, trivial, (Or.inl ⟨hs5_, h4_, (Or.inr ⟨hs11_, h10_, M27_, hI30_, hF31_, r26_, hs33_, rfl, rfl⟩)⟩)⟩
  · refine w_if_eq (tgt := 18) dX11_face_8 (by decide) li_0 (fun h34_ => ?_) (fun h9 => (absurd h9 (by decide)))
    refine w_aload_n dX11_face_18 rfl 0 rfl ?_
    refine w_iconst (v := 1) dX11_face_19 (by decide) ?_
    refine w_callV (as := [vI 1]) (rest := []) (c_X11_error l G cy ad d 1 Mz hIz) kV_X11_error pnn_0 (Nat.le_of_ble_eq_true rfl) m_500 rfl rfl rfl ic_11 rfl rfl (by decide) (Nat.le_of_ble_eq_true rfl) dX11_face_20 (fun r35_ M36_ q37_ => ?_)
    obtain ⟨hI39_, hF40_, h38_, hs42_⟩ := q37_
    have hF41_ := hFz.tr hF40_ (fun c k => (fun h => h.elim (fun h => (Or.inr (Or.inl ⟨h.1, h.2⟩))) (fun h => h.elim)))
    exact w_iret rfl dX11_face_23 ⟨hI39_, hF41_, trivial, (Or.inr ⟨hs5_, M36_, hI39_, hF40_, r35_, hs42_, rfl, rfl⟩)⟩
def S_c_X11_click : rf → Nat → Prop := fun c k => (c.1 = 9 ∧ c.2.1 = 0 ∧ k = 8) ∨ (c.1 = 29 ∧ c.2.1 = 0 ∧ k = 0) ∨ (c.1 = 29 ∧ c.2.1 = 0 ∧ k = 1) ∨ (c.1 = 29 ∧ c.2.1 = 0 ∧ k = 2) ∨ (c.1 = 29 ∧ c.2.1 = 0 ∧ k = 3) ∨ (c.1 = 25 ∧ c.2.1 = 0 ∧ c.2.2 = 0) ∨ (c.1 = 25 ∧ c.2.1 = 0 ∧ c.2.2 = 1) ∨ (c.1 = 40 ∧ c.2.1 = 0) ∨ (c.1 = 41 ∧ c.2.1 = 0) ∨ (c.1 = 44 ∧ c.2.1 = 0) ∨ False
def SP_X11_click (v : Int32) (Mz : mM) (r_ : Int32) (M_ : mM) : Prop := (((SP_X10_hasWalker 0 v Mz (1 : Int32)) ∧ (0 ≤ v.toInt ∧ v.toInt ≤ 7) ∧ ∃ j7_ : Nat, ((j7_ : Int) = v.toInt) ∧ (j7_ < 8) ∧ ∃ r10_ : Int32, (SP_X9_isOf 0 j7_ 1 Mz r10_) ∧ ((0 ≤ r10_.toInt ∧ r10_.toInt ≤ 1)) ∧ (((¬ r10_.toInt = 0) ∧ ∃ M17_ : mM, (Inv M17_) ∧ (FR (S_c_X10_makeClick 0) Mz M17_) ∧ ∃ r16_ : Int32, (SP_X10_makeClick 0 v Mz r16_ M17_) ∧ r_ = r16_ ∧ M_ = M17_) ∨ ((r10_.toInt = 0) ∧ ∃ M25_ : mM, (Inv M25_) ∧ (FR (S_c_X11_error) Mz M25_) ∧ ∃ r24_ : Int32, (SP_X11_error 5 Mz r24_ M25_) ∧ r_ = r24_ ∧ M_ = M25_))) ∨ ((SP_X10_hasWalker 0 v Mz (0 : Int32)) ∧ ∃ M34_ : mM, (Inv M34_) ∧ (FR (S_c_X11_error) Mz M34_) ∧ ∃ r33_ : Int32, (SP_X11_error 1 Mz r33_ M34_) ∧ r_ = r33_ ∧ M_ = M34_))
set_option maxHeartbeats 4000000 in
set_option maxRecDepth 100000 in
theorem c_X11_click (l : Launch) (G : va_G) (cy : Nat → ClassId) (ad : rf → Nat) (d : Nat) (v : Int32) (Mz : mM) (hIz : Inv Mz) : WP CC l G cy ad yX11_click cX11_click 2 (some .int) (d + 5) 0 [(0, vR (11, 0, 0)), (1, vI v)] [] Mz (fun r M' => Inv M' ∧ FR (S_c_X11_click) Mz M' ∧ (True) ∧ SP_X11_click v Mz r M') := by
  have hFz : FR (S_c_X11_click) Mz Mz := FR.self
  refine w_aload_n dX11_click_0 rfl 0 rfl ?_
  refine w_getR (c' := (10, 0, 0)) fl_RX11_10 rfl rfl ic_11 dX11_click_1 rfl ?_
  refine w_iload_n dX11_click_4 rfl 1 rfl ?_
  refine w_callV (as := [vI v]) (rest := []) (c_X10_hasWalker l G cy ad (d + 4) 0 v Mz hIz (by first | decide | (unfold vF; omega) | (unfold vRw; omega))) kV_X10_hasWalker pnn_7 (Nat.le_of_ble_eq_true rfl) m_609 rfl rfl rfl (ic_10 (by decide)) rfl rfl (by decide) (Nat.le_of_ble_eq_true rfl) dX11_click_5 (fun r1_ M2_ q3_ => ?_)
  obtain ⟨rfl, h4_, hs5_⟩ := q3_
  rcases h4_ with ⟨rfl, h4_⟩ | rfl
  · refine w_if_ne (tgt := 17) dX11_click_8 (by decide) li_1 (fun h6_ => ?_) (fun h9 => (absurd h9 (by decide)))
    refine w_aload_n dX11_click_17 rfl 0 rfl ?_
    refine w_getR (c' := (10, 0, 0)) fl_RX11_10 rfl rfl ic_11 dX11_click_18 rfl ?_
    refine w_getR (c' := (42, 0, 0)) fl_RX11_157 rfl rfl (ic_10 (by decide)) dX11_click_21 rfl ?_
    refine w_iload_n dX11_click_24 rfl 1 rfl ?_
    refine w_aald rfl rfl rfl (fun _ => rfl) (ic_42 (by decide)) (rfl : v.toInt = v.toInt) (lf_c_X7_cellFrom_2 v h4_ ) dX11_click_25 (fun j7_ h8_ h9_ => ?_)
    refine w_iconst (v := 1) dX11_click_26 (by decide) ?_
    refine w_callV (as := [vI 1]) (rest := []) (c_X9_isOf l G cy ad (d + 3) 0 j7_ 1 Mz hIz (by first | decide | (unfold vF; omega) | (unfold vRw; omega)) h9_) kV_X9_isOf pnn_3 (Nat.le_of_ble_eq_true rfl) m_639 rfl rfl rfl (ic_9 (by decide) h9_) rfl rfl (by decide) (Nat.le_of_ble_eq_true rfl) dX11_click_27 (fun r10_ M11_ q12_ => ?_)
    obtain ⟨rfl, h13_, hs14_⟩ := q12_
    refine w_if_ne (tgt := 39) dX11_click_30 (by decide) (rfl : r10_.toInt = r10_.toInt) (fun h15_ => ?_) (fun h15_ => ?_)
    · refine w_aload_n dX11_click_39 rfl 0 rfl ?_
      refine w_getR (c' := (10, 0, 0)) fl_RX11_10 rfl rfl ic_11 dX11_click_40 rfl ?_
      refine w_iload_n dX11_click_43 rfl 1 rfl ?_
      refine w_callV (as := [vI v]) (rest := []) (c_X10_makeClick l G cy ad d 0 v Mz hIz (by first | decide | (unfold vF; omega) | (unfold vRw; omega))) kV_X10_makeClick pnn_7 (Nat.le_of_ble_eq_true rfl) m_896 rfl rfl rfl (ic_10 (by decide)) rfl rfl (by decide) (Nat.le_of_ble_eq_true rfl) dX11_click_44 (fun r16_ M17_ q18_ => ?_)
      obtain ⟨hI20_, hF21_, h19_, hs23_⟩ := q18_
      have hF22_ := hFz.tr hF21_ (fun c k => (fun h => h.elim (fun h => (Or.inl ⟨h.1, h.2.1, h.2.2⟩)) (fun h => h.elim (fun h => (Or.inr (Or.inl ⟨h.1, h.2.1, h.2.2⟩))) (fun h => h.elim (fun h => (Or.inr (Or.inr (Or.inl ⟨h.1, h.2.1, h.2.2⟩)))) (fun h => h.elim (fun h => (Or.inr (Or.inr (Or.inr (Or.inl ⟨h.1, h.2.1, h.2.2⟩))))) (fun h => h.elim (fun h => (Or.inr (Or.inr (Or.inr (Or.inr (Or.inl ⟨h.1, h.2.1, h.2.2⟩)))))) (fun h => h.elim (fun h => (Or.inr (Or.inr (Or.inr (Or.inr (Or.inr (Or.inl ⟨h.1, h.2.1, h.2.2⟩))))))) (fun h => h.elim (fun h => (Or.inr (Or.inr (Or.inr (Or.inr (Or.inr (Or.inr (Or.inl ⟨h.1, h.2.1, h.2.2⟩)))))))) (fun h => h.elim (fun h => (Or.inr (Or.inr (Or.inr (Or.inr (Or.inr (Or.inr (Or.inr (Or.inl ⟨h.1, h.2⟩))))))))) (fun h => h.elim (fun h => (Or.inr (Or.inr (Or.inr (Or.inr (Or.inr (Or.inr (Or.inr (Or.inr (Or.inl ⟨h.1, h.2⟩)))))))))) (fun h => h.elim)))))))))))
      exact w_iret rfl dX11_click_47 ⟨hI20_, hF22_, trivial, (Or.inl ⟨hs5_, h4_, j7_, h8_, h9_, r10_, hs14_, h13_, (Or.inl ⟨h15_, M17_, hI20_, hF21_, r16_, hs23_, rfl, rfl⟩)⟩)⟩
    · refine w_aload_n dX11_click_33 rfl 0 rfl ?_
      refine w_iconst (v := 5) dX11_click_34 (by decide) ?_
      refine w_callV (as := [vI 5]) (rest := []) (c_X11_error l G cy ad (d + 4) 5 Mz hIz) kV_X11_error pnn_0 (Nat.le_of_ble_eq_true rfl) m_500 rfl rfl rfl ic_11 rfl rfl (by decide) (Nat.le_of_ble_eq_true rfl) dX11_click_35 (fun r24_ M25_ q26_ => ?_)
      obtain ⟨hI28_, hF29_, h27_, hs31_⟩ := q26_
      have hF30_ := hFz.tr hF29_ (fun c k => (fun h => h.elim (fun h => (Or.inr (Or.inr (Or.inr (Or.inr (Or.inr (Or.inr (Or.inr (Or.inr (Or.inr (Or.inl ⟨h.1, h.2⟩))))))))))) (fun h => h.elim)))
      exact w_iret rfl dX11_click_38 ⟨hI28_, hF30_, trivial, (Or.inl ⟨hs5_, h4_, j7_, h8_, h9_, r10_, hs14_, h13_, (Or.inr ⟨h15_, M25_, hI28_, hF29_, r24_, hs31_, rfl, rfl⟩)⟩)⟩
  · refine w_if_ne (tgt := 17) dX11_click_8 (by decide) li_0 (fun h9 => (absurd h9 (by decide))) (fun h32_ => ?_)
    refine w_aload_n dX11_click_11 rfl 0 rfl ?_
    refine w_iconst (v := 1) dX11_click_12 (by decide) ?_
    refine w_callV (as := [vI 1]) (rest := []) (c_X11_error l G cy ad (d + 4) 1 Mz hIz) kV_X11_error pnn_0 (Nat.le_of_ble_eq_true rfl) m_500 rfl rfl rfl ic_11 rfl rfl (by decide) (Nat.le_of_ble_eq_true rfl) dX11_click_13 (fun r33_ M34_ q35_ => ?_)
    obtain ⟨hI37_, hF38_, h36_, hs40_⟩ := q35_
    have hF39_ := hFz.tr hF38_ (fun c k => (fun h => h.elim (fun h => (Or.inr (Or.inr (Or.inr (Or.inr (Or.inr (Or.inr (Or.inr (Or.inr (Or.inr (Or.inl ⟨h.1, h.2⟩))))))))))) (fun h => h.elim)))
    exact w_iret rfl dX11_click_16 ⟨hI37_, hF39_, trivial, (Or.inr ⟨hs5_, M34_, hI37_, hF38_, r33_, hs40_, rfl, rfl⟩)⟩
def S_c_X11_head : rf → Nat → Prop := fun c k => (c.1 = 44 ∧ c.2.1 = 0) ∨ False
def SP_X11_head (v : Int32) (u : Int32) (t : Int32) (Mz : mM) (r_ : Int32) (M_ : mM) : Prop := (((SP_X10_hasWalker 0 v Mz (1 : Int32)) ∧ (0 ≤ v.toInt ∧ v.toInt ≤ 7) ∧ (((SP_X7_isCell u Mz (1 : Int32)) ∧ (0 ≤ u.toInt ∧ u.toInt ≤ 191) ∧ (((SP_X11_within t 0 2 Mz (1 : Int32)) ∧ (0 ≤ t.toInt ∧ t.toInt ≤ 2) ∧ ∃ j19_ : Nat, ((j19_ : Int) = v.toInt) ∧ (j19_ < 8) ∧ (((¬ t.toInt = 0) ∧ (((¬ t.toInt = 1) ∧ ∃ r24_ : Int32, (SP_X9_held 0 j19_ u Mz r24_) ∧ r_ = r24_ ∧ M_ = Mz) ∨ ((t.toInt = 1) ∧ ∃ j31_ : Nat, ((j31_ : Int) = u.toInt) ∧ ∃ z29_ : Int32, (z29_ = Mz.1 (41, 0, j19_) j31_) ∧ r_ = z29_ ∧ M_ = Mz))) ∨ ((t.toInt = 0) ∧ ∃ j35_ : Nat, ((j35_ : Int) = u.toInt) ∧ ∃ z33_ : Int32, (z33_ = Mz.1 (40, 0, j19_) j35_) ∧ r_ = z33_ ∧ M_ = Mz))) ∨ ((SP_X11_within t 0 2 Mz (0 : Int32)) ∧ (¬ (0 ≤ t.toInt ∧ t.toInt ≤ 2)) ∧ ∃ M39_ : mM, (Inv M39_) ∧ (FR (S_c_X11_error) Mz M39_) ∧ ∃ r38_ : Int32, (SP_X11_error 1 Mz r38_ M39_) ∧ r_ = r38_ ∧ M_ = M39_))) ∨ ((SP_X7_isCell u Mz (0 : Int32)) ∧ (¬ (0 ≤ u.toInt ∧ u.toInt ≤ 191)) ∧ ∃ M48_ : mM, (Inv M48_) ∧ (FR (S_c_X11_error) Mz M48_) ∧ ∃ r47_ : Int32, (SP_X11_error 1 Mz r47_ M48_) ∧ r_ = r47_ ∧ M_ = M48_))) ∨ ((SP_X10_hasWalker 0 v Mz (0 : Int32)) ∧ ∃ M57_ : mM, (Inv M57_) ∧ (FR (S_c_X11_error) Mz M57_) ∧ ∃ r56_ : Int32, (SP_X11_error 1 Mz r56_ M57_) ∧ r_ = r56_ ∧ M_ = M57_))
set_option maxHeartbeats 4000000 in
set_option maxRecDepth 100000 in
theorem c_X11_head (l : Launch) (G : va_G) (cy : Nat → ClassId) (ad : rf → Nat) (d : Nat) (v : Int32) (u : Int32) (t : Int32) (Mz : mM) (hIz : Inv Mz) : WP CC l G cy ad yX11_head cX11_head 5 (some .int) (d + 2) 0 [(0, vR (11, 0, 0)), (1, vI v), (2, vI u), (3, vI t)] [] Mz (fun r M' => Inv M' ∧ FR (S_c_X11_head) Mz M' ∧ (True) ∧ SP_X11_head v u t Mz r M') := by
  have hFz : FR (S_c_X11_head) Mz Mz := FR.self
  refine w_aload_n dX11_head_0 rfl 0 rfl ?_
  refine w_getR (c' := (10, 0, 0)) fl_RX11_10 rfl rfl ic_11 dX11_head_1 rfl ?_
  refine w_iload_n dX11_head_4 rfl 1 rfl ?_
  refine w_callV (as := [vI v]) (rest := []) (c_X10_hasWalker l G cy ad (d + 1) 0 v Mz hIz (by first | decide | (unfold vF; omega) | (unfold vRw; omega))) kV_X10_hasWalker pnn_7 (Nat.le_of_ble_eq_true rfl) m_609 rfl rfl rfl (ic_10 (by decide)) rfl rfl (by decide) (Nat.le_of_ble_eq_true rfl) dX11_head_5 (fun r1_ M2_ q3_ => ?_)
  obtain ⟨rfl, h4_, hs5_⟩ := q3_
  rcases h4_ with ⟨rfl, h4_⟩ | rfl
  · refine w_if_eq (tgt := 27) dX11_head_8 (by decide) li_1 (fun h9 => (absurd h9 (by decide))) (fun h6_ => ?_)
    refine w_iload_n dX11_head_11 rfl 2 rfl ?_
    refine w_callS (as := [vI u]) (rest := []) (c_X7_isCell l G cy ad (d + 1) u Mz hIz) kS_X7_isCell pnn_1 (Nat.le_of_ble_eq_true rfl) m_497 rfl rfl (by decide) (Nat.le_of_ble_eq_true rfl) dX11_head_12 (fun r7_ M8_ q9_ => ?_)
    obtain ⟨rfl, h10_, hs11_⟩ := q9_
    rcases h10_ with ⟨rfl, h10_⟩ | ⟨rfl, h10_⟩
    · refine w_if_eq (tgt := 27) dX11_head_15 (by decide) li_1 (fun h9 => (absurd h9 (by decide))) (fun h12_ => ?_)
      refine w_iload_n dX11_head_18 rfl 3 rfl ?_
      refine w_iconst (v := 0) dX11_head_19 (by decide) ?_
      refine w_iconst (v := 2) dX11_head_20 (by decide) ?_
      refine w_callS (as := [vI t, vI 0, vI 2]) (rest := []) (c_X11_within l G cy ad (d + 1) t 0 2 Mz hIz) kS_X11_within pnn_0 (Nat.le_of_ble_eq_true rfl) m_494 rfl rfl (by decide) (Nat.le_of_ble_eq_true rfl) dX11_head_21 (fun r13_ M14_ q15_ => ?_)
      obtain ⟨rfl, h16_, hs17_⟩ := q15_
      rcases h16_ with ⟨rfl, h16_⟩ | ⟨rfl, h16_⟩
      · simp only [li_0, li_2] at h16_
        refine w_if_ne (tgt := 33) dX11_head_24 (by decide) li_1 (fun h18_ => ?_) (fun h9 => (absurd h9 (by decide)))
        refine w_aload_n dX11_head_33 rfl 0 rfl ?_
        refine w_getR (c' := (10, 0, 0)) fl_RX11_10 rfl rfl ic_11 dX11_head_34 rfl ?_
        refine w_getR (c' := (42, 0, 0)) fl_RX11_157 rfl rfl (ic_10 (by decide)) dX11_head_37 rfl ?_
        refine w_iload_n dX11_head_40 rfl 1 rfl ?_
        refine w_aald rfl rfl rfl (fun _ => rfl) (ic_42 (by decide)) (rfl : v.toInt = v.toInt) (lf_c_X7_cellFrom_2 v h4_ ) dX11_head_41 (fun j19_ h20_ h21_ => ?_)
        refine w_astore (ls' := [(4, vR (9, 0, j19_)), (0, vR (11, 0, 0)), (1, vI v), (2, vI u), (3, vI t)]) dX11_head_42 (by decide) rfl ?_
        refine w_iload_n dX11_head_44 rfl 4 rfl ?_
        refine w_if_ne (tgt := 58) dX11_head_45 (by decide) (rfl : t.toInt = t.toInt) (fun h22_ => ?_) (fun h22_ => ?_)
        · refine w_iload_n dX11_head_58 rfl 4 rfl ?_
          refine w_iconst (v := 1) dX11_head_59 (by decide) ?_
          refine w_icmp_ne (tgt := 73) dX11_head_60 (by decide) (rfl : t.toInt = t.toInt) li_1 (fun h23_ => ?_) (fun h23_ => ?_)
          · refine w_aload dX11_head_73 0 rfl ?_
            refine w_iload_n dX11_head_75 rfl 3 rfl ?_
            refine w_callV (as := [vI u]) (rest := []) (c_X9_held l G cy ad d 0 j19_ u Mz hIz (by first | decide | (unfold vF; omega) | (unfold vRw; omega)) h21_) kV_X9_held pnn_3 (Nat.le_of_ble_eq_true rfl) m_929 rfl rfl rfl (ic_9 (by decide) h21_) rfl rfl (by decide) (Nat.le_of_ble_eq_true rfl) dX11_head_76 (fun r24_ M25_ q26_ => ?_)
            obtain ⟨rfl, h27_, hs28_⟩ := q26_
            exact w_iret rfl dX11_head_79 ⟨hIz, hFz, trivial, (Or.inl ⟨hs5_, h4_, (Or.inl ⟨hs11_, h10_, (Or.inl ⟨hs17_, h16_, j19_, h20_, h21_, (Or.inl ⟨h22_, (Or.inl ⟨h23_, r24_, hs28_, rfl, rfl⟩)⟩)⟩)⟩)⟩)⟩
          · refine w_aload dX11_head_63 0 rfl ?_
            refine w_getR (c' := (41, 0, j19_)) fl_RX11_245 rfl rfl (ic_9 (by decide) h21_) dX11_head_65 rfl ?_
            refine w_iload_n dX11_head_68 rfl 3 rfl ?_
            refine w_iald rfl rfl (ic_41 (by decide) h21_) (rfl : u.toInt = u.toInt) (lf_c_X7_isFree_0 u h10_ ) dX11_head_69 (fun j31_ h32_ z29_ e30_ => ?_)
            refine w_goto (tgt := 79) dX11_head_70 (by decide) ?_
            exact w_iret rfl dX11_head_79 ⟨hIz, hFz, trivial, (Or.inl ⟨hs5_, h4_, (Or.inl ⟨hs11_, h10_, (Or.inl ⟨hs17_, h16_, j19_, h20_, h21_, (Or.inl ⟨h22_, (Or.inr ⟨h23_, j31_, h32_, z29_, e30_, rfl, rfl⟩)⟩)⟩)⟩)⟩)⟩
        · refine w_aload dX11_head_48 0 rfl ?_
          refine w_getR (c' := (40, 0, j19_)) fl_RX11_242 rfl rfl (ic_9 (by decide) h21_) dX11_head_50 rfl ?_
          refine w_iload_n dX11_head_53 rfl 3 rfl ?_
          refine w_iald rfl rfl (ic_40 (by decide) h21_) (rfl : u.toInt = u.toInt) (lf_c_X7_isFree_0 u h10_ ) dX11_head_54 (fun j35_ h36_ z33_ e34_ => ?_)
          refine w_goto (tgt := 79) dX11_head_55 (by decide) ?_
          exact w_iret rfl dX11_head_79 ⟨hIz, hFz, trivial, (Or.inl ⟨hs5_, h4_, (Or.inl ⟨hs11_, h10_, (Or.inl ⟨hs17_, h16_, j19_, h20_, h21_, (Or.inr ⟨h22_, j35_, h36_, z33_, e34_, rfl, rfl⟩)⟩)⟩)⟩)⟩
      · simp only [li_0, li_2] at h16_
        refine w_if_ne (tgt := 33) dX11_head_24 (by decide) li_0 (fun h9 => (absurd h9 (by decide))) (fun h37_ => ?_)
        refine w_aload_n dX11_head_27 rfl 0 rfl ?_
        refine w_iconst (v := 1) dX11_head_28 (by decide) ?_
        refine w_callV (as := [vI 1]) (rest := []) (c_X11_error l G cy ad (d + 1) 1 Mz hIz) kV_X11_error pnn_0 (Nat.le_of_ble_eq_true rfl) m_500 rfl rfl rfl ic_11 rfl rfl (by decide) (Nat.le_of_ble_eq_true rfl) dX11_head_29 (fun r38_ M39_ q40_ => ?_)
        obtain ⟨hI42_, hF43_, h41_, hs45_⟩ := q40_
        have hF44_ := hFz.tr hF43_ (fun c k => (fun h => h.elim (fun h => (Or.inl ⟨h.1, h.2⟩)) (fun h => h.elim)))
        exact w_iret rfl dX11_head_32 ⟨hI42_, hF44_, trivial, (Or.inl ⟨hs5_, h4_, (Or.inl ⟨hs11_, h10_, (Or.inr ⟨hs17_, h16_, M39_, hI42_, hF43_, r38_, hs45_, rfl, rfl⟩)⟩)⟩)⟩
    · refine w_if_eq (tgt := 27) dX11_head_15 (by decide) li_0 (fun h46_ => ?_) (fun h9 => (absurd h9 (by decide)))
      refine w_aload_n dX11_head_27 rfl 0 rfl ?_
      refine w_iconst (v := 1) dX11_head_28 (by decide) ?_
      refine w_callV (as := [vI 1]) (rest := []) (c_X11_error l G cy ad (d + 1) 1 Mz hIz) kV_X11_error pnn_0 (Nat.le_of_ble_eq_true rfl) m_500 rfl rfl rfl ic_11 rfl rfl (by decide) (Nat.le_of_ble_eq_true rfl) dX11_head_29 (fun r47_ M48_ q49_ => ?_)
      obtain ⟨hI51_, hF52_, h50_, hs54_⟩ := q49_
      have hF53_ := hFz.tr hF52_ (fun c k => (fun h => h.elim (fun h => (Or.inl ⟨h.1, h.2⟩)) (fun h => h.elim)))
      exact w_iret rfl dX11_head_32 ⟨hI51_, hF53_, trivial, (Or.inl ⟨hs5_, h4_, (Or.inr ⟨hs11_, h10_, M48_, hI51_, hF52_, r47_, hs54_, rfl, rfl⟩)⟩)⟩
  · refine w_if_eq (tgt := 27) dX11_head_8 (by decide) li_0 (fun h55_ => ?_) (fun h9 => (absurd h9 (by decide)))
    refine w_aload_n dX11_head_27 rfl 0 rfl ?_
    refine w_iconst (v := 1) dX11_head_28 (by decide) ?_
    refine w_callV (as := [vI 1]) (rest := []) (c_X11_error l G cy ad (d + 1) 1 Mz hIz) kV_X11_error pnn_0 (Nat.le_of_ble_eq_true rfl) m_500 rfl rfl rfl ic_11 rfl rfl (by decide) (Nat.le_of_ble_eq_true rfl) dX11_head_29 (fun r56_ M57_ q58_ => ?_)
    obtain ⟨hI60_, hF61_, h59_, hs63_⟩ := q58_
    have hF62_ := hFz.tr hF61_ (fun c k => (fun h => h.elim (fun h => (Or.inl ⟨h.1, h.2⟩)) (fun h => h.elim)))
    exact w_iret rfl dX11_head_32 ⟨hI60_, hF62_, trivial, (Or.inr ⟨hs5_, M57_, hI60_, hF61_, r56_, hs63_, rfl, rfl⟩)⟩
def S_c_X11_heads : rf → Nat → Prop := fun c k => (c.1 = 44 ∧ c.2.1 = 0) ∨ False
def SP_X11_heads (v : Int32) (u : Int32) (Mz : mM) (r_ : Int32) (M_ : mM) : Prop := (((SP_X10_hasWalker 0 v Mz (1 : Int32)) ∧ (0 ≤ v.toInt ∧ v.toInt ≤ 7) ∧ (((SP_X11_within u 0 3 Mz (1 : Int32)) ∧ (0 ≤ u.toInt ∧ u.toInt ≤ 3) ∧ (((¬ u.toInt = 3) ∧ ∃ j14_ : Nat, ((j14_ : Int) = v.toInt) ∧ (j14_ < 8) ∧ ∃ r17_ : Int32, (SP_X9_countHeld 0 j14_ u Mz r17_) ∧ r_ = r17_ ∧ M_ = Mz) ∨ ((u.toInt = 3) ∧ ∃ r22_ : Int32, (SP_X10_countWrong 0 v Mz r22_) ∧ r_ = r22_ ∧ M_ = Mz))) ∨ ((SP_X11_within u 0 3 Mz (0 : Int32)) ∧ (¬ (0 ≤ u.toInt ∧ u.toInt ≤ 3)) ∧ ∃ M29_ : mM, (Inv M29_) ∧ (FR (S_c_X11_error) Mz M29_) ∧ ∃ r28_ : Int32, (SP_X11_error 1 Mz r28_ M29_) ∧ r_ = r28_ ∧ M_ = M29_))) ∨ ((SP_X10_hasWalker 0 v Mz (0 : Int32)) ∧ ∃ M38_ : mM, (Inv M38_) ∧ (FR (S_c_X11_error) Mz M38_) ∧ ∃ r37_ : Int32, (SP_X11_error 1 Mz r37_ M38_) ∧ r_ = r37_ ∧ M_ = M38_))
set_option maxHeartbeats 4000000 in
set_option maxRecDepth 100000 in
theorem c_X11_heads (l : Launch) (G : va_G) (cy : Nat → ClassId) (ad : rf → Nat) (d : Nat) (v : Int32) (u : Int32) (Mz : mM) (hIz : Inv Mz) : WP CC l G cy ad yX11_heads cX11_heads 3 (some .int) (d + 3) 0 [(0, vR (11, 0, 0)), (1, vI v), (2, vI u)] [] Mz (fun r M' => Inv M' ∧ FR (S_c_X11_heads) Mz M' ∧ (True) ∧ SP_X11_heads v u Mz r M') := by
  have hFz : FR (S_c_X11_heads) Mz Mz := FR.self
  refine w_aload_n dX11_heads_0 rfl 0 rfl ?_
  refine w_getR (c' := (10, 0, 0)) fl_RX11_10 rfl rfl ic_11 dX11_heads_1 rfl ?_
  refine w_iload_n dX11_heads_4 rfl 1 rfl ?_
  refine w_callV (as := [vI v]) (rest := []) (c_X10_hasWalker l G cy ad (d + 2) 0 v Mz hIz (by first | decide | (unfold vF; omega) | (unfold vRw; omega))) kV_X10_hasWalker pnn_7 (Nat.le_of_ble_eq_true rfl) m_609 rfl rfl rfl (ic_10 (by decide)) rfl rfl (by decide) (Nat.le_of_ble_eq_true rfl) dX11_heads_5 (fun r1_ M2_ q3_ => ?_)
  obtain ⟨rfl, h4_, hs5_⟩ := q3_
  rcases h4_ with ⟨rfl, h4_⟩ | rfl
  · refine w_if_eq (tgt := 20) dX11_heads_8 (by decide) li_1 (fun h9 => (absurd h9 (by decide))) (fun h6_ => ?_)
    refine w_iload_n dX11_heads_11 rfl 2 rfl ?_
    refine w_iconst (v := 0) dX11_heads_12 (by decide) ?_
    refine w_iconst (v := 3) dX11_heads_13 (by decide) ?_
    refine w_callS (as := [vI u, vI 0, vI 3]) (rest := []) (c_X11_within l G cy ad (d + 2) u 0 3 Mz hIz) kS_X11_within pnn_0 (Nat.le_of_ble_eq_true rfl) m_494 rfl rfl (by decide) (Nat.le_of_ble_eq_true rfl) dX11_heads_14 (fun r7_ M8_ q9_ => ?_)
    obtain ⟨rfl, h10_, hs11_⟩ := q9_
    rcases h10_ with ⟨rfl, h10_⟩ | ⟨rfl, h10_⟩
    · simp only [li_0, li_3] at h10_
      refine w_if_ne (tgt := 26) dX11_heads_17 (by decide) li_1 (fun h12_ => ?_) (fun h9 => (absurd h9 (by decide)))
      refine w_iload_n dX11_heads_26 rfl 2 rfl ?_
      refine w_iconst (v := 3) dX11_heads_27 (by decide) ?_
      refine w_icmp_ne (tgt := 42) dX11_heads_28 (by decide) (rfl : u.toInt = u.toInt) li_3 (fun h13_ => ?_) (fun h13_ => ?_)
      · refine w_aload_n dX11_heads_42 rfl 0 rfl ?_
        refine w_getR (c' := (10, 0, 0)) fl_RX11_10 rfl rfl ic_11 dX11_heads_43 rfl ?_
        refine w_getR (c' := (42, 0, 0)) fl_RX11_157 rfl rfl (ic_10 (by decide)) dX11_heads_46 rfl ?_
        refine w_iload_n dX11_heads_49 rfl 1 rfl ?_
        refine w_aald rfl rfl rfl (fun _ => rfl) (ic_42 (by decide)) (rfl : v.toInt = v.toInt) (lf_c_X7_cellFrom_2 v h4_ ) dX11_heads_50 (fun j14_ h15_ h16_ => ?_)
        refine w_iload_n dX11_heads_51 rfl 2 rfl ?_
        refine w_callV (as := [vI u]) (rest := []) (c_X9_countHeld l G cy ad d 0 j14_ u Mz hIz (by first | decide | (unfold vF; omega) | (unfold vRw; omega)) h16_) kV_X9_countHeld pnn_3 (Nat.le_of_ble_eq_true rfl) m_942 rfl rfl rfl (ic_9 (by decide) h16_) rfl rfl (by decide) (Nat.le_of_ble_eq_true rfl) dX11_heads_52 (fun r17_ M18_ q19_ => ?_)
        obtain ⟨rfl, h20_, hs21_⟩ := q19_
        exact w_iret rfl dX11_heads_55 ⟨hIz, hFz, trivial, (Or.inl ⟨hs5_, h4_, (Or.inl ⟨hs11_, h10_, (Or.inl ⟨h13_, j14_, h15_, h16_, r17_, hs21_, rfl, rfl⟩)⟩)⟩)⟩
      · refine w_aload_n dX11_heads_31 rfl 0 rfl ?_
        refine w_getR (c' := (10, 0, 0)) fl_RX11_10 rfl rfl ic_11 dX11_heads_32 rfl ?_
        refine w_iload_n dX11_heads_35 rfl 1 rfl ?_
        refine w_callV (as := [vI v]) (rest := []) (c_X10_countWrong l G cy ad d 0 v Mz hIz (by first | decide | (unfold vF; omega) | (unfold vRw; omega))) kV_X10_countWrong pnn_7 (Nat.le_of_ble_eq_true rfl) m_937 rfl rfl rfl (ic_10 (by decide)) rfl rfl (by decide) (Nat.le_of_ble_eq_true rfl) dX11_heads_36 (fun r22_ M23_ q24_ => ?_)
        obtain ⟨rfl, h25_, hs26_⟩ := q24_
        refine w_goto (tgt := 55) dX11_heads_39 (by decide) ?_
        exact w_iret rfl dX11_heads_55 ⟨hIz, hFz, trivial, (Or.inl ⟨hs5_, h4_, (Or.inl ⟨hs11_, h10_, (Or.inr ⟨h13_, r22_, hs26_, rfl, rfl⟩)⟩)⟩)⟩
    · simp only [li_0, li_3] at h10_
      refine w_if_ne (tgt := 26) dX11_heads_17 (by decide) li_0 (fun h9 => (absurd h9 (by decide))) (fun h27_ => ?_)
      refine w_aload_n dX11_heads_20 rfl 0 rfl ?_
      refine w_iconst (v := 1) dX11_heads_21 (by decide) ?_
      refine w_callV (as := [vI 1]) (rest := []) (c_X11_error l G cy ad (d + 2) 1 Mz hIz) kV_X11_error pnn_0 (Nat.le_of_ble_eq_true rfl) m_500 rfl rfl rfl ic_11 rfl rfl (by decide) (Nat.le_of_ble_eq_true rfl) dX11_heads_22 (fun r28_ M29_ q30_ => ?_)
      obtain ⟨hI32_, hF33_, h31_, hs35_⟩ := q30_
      have hF34_ := hFz.tr hF33_ (fun c k => (fun h => h.elim (fun h => (Or.inl ⟨h.1, h.2⟩)) (fun h => h.elim)))
      exact w_iret rfl dX11_heads_25 ⟨hI32_, hF34_, trivial, (Or.inl ⟨hs5_, h4_, (Or.inr ⟨hs11_, h10_, M29_, hI32_, hF33_, r28_, hs35_, rfl, rfl⟩)⟩)⟩
  · refine w_if_eq (tgt := 20) dX11_heads_8 (by decide) li_0 (fun h36_ => ?_) (fun h9 => (absurd h9 (by decide)))
    refine w_aload_n dX11_heads_20 rfl 0 rfl ?_
    refine w_iconst (v := 1) dX11_heads_21 (by decide) ?_
    refine w_callV (as := [vI 1]) (rest := []) (c_X11_error l G cy ad (d + 2) 1 Mz hIz) kV_X11_error pnn_0 (Nat.le_of_ble_eq_true rfl) m_500 rfl rfl rfl ic_11 rfl rfl (by decide) (Nat.le_of_ble_eq_true rfl) dX11_heads_22 (fun r37_ M38_ q39_ => ?_)
    obtain ⟨hI41_, hF42_, h40_, hs44_⟩ := q39_
    have hF43_ := hFz.tr hF42_ (fun c k => (fun h => h.elim (fun h => (Or.inl ⟨h.1, h.2⟩)) (fun h => h.elim)))
    exact w_iret rfl dX11_heads_25 ⟨hI41_, hF43_, trivial, (Or.inr ⟨hs5_, M38_, hI41_, hF42_, r37_, hs44_, rfl, rfl⟩)⟩
def S_c_X11_alike : rf → Nat → Prop := fun c k => (c.1 = 44 ∧ c.2.1 = 0) ∨ (c.1 = 29 ∧ c.2.1 = 0 ∧ k = 0) ∨ (c.1 = 29 ∧ c.2.1 = 0 ∧ k = 1) ∨ (c.1 = 29 ∧ c.2.1 = 0 ∧ k = 2) ∨ (c.1 = 29 ∧ c.2.1 = 0 ∧ k = 3) ∨ (c.1 = 25 ∧ c.2.1 = 0 ∧ c.2.2 = 0) ∨ (c.1 = 25 ∧ c.2.1 = 0 ∧ c.2.2 = 1) ∨ False
def SP_X11_alike (v : Int32) (u : Int32) (t : Int32) (s : Int32) (q : Int32) (Mz : mM) (r_ : Int32) (M_ : mM) : Prop := (((SP_X10_hasWalker 0 v Mz (1 : Int32)) ∧ (0 ≤ v.toInt ∧ v.toInt ≤ 7) ∧ ∃ r7_ : Int32, (SP_X2_isClick_ u Mz r7_) ∧ ((0 ≤ r7_.toInt ∧ r7_.toInt ≤ 1)) ∧ (((r7_.toInt = 0) ∧ ∃ M14_ : mM, (Inv M14_) ∧ (FR (S_c_X11_error) Mz M14_) ∧ ∃ r13_ : Int32, (SP_X11_error 1 Mz r13_ M14_) ∧ r_ = r13_ ∧ M_ = M14_) ∨ ((¬ r7_.toInt = 0) ∧ (((SP_X7_isSide s Mz (1 : Int32)) ∧ (0 ≤ s.toInt ∧ s.toInt ≤ 7) ∧ ∃ j27_ : Nat, ((j27_ : Int) = v.toInt) ∧ (j27_ < 8) ∧ ∃ r30_ : Int32, (SP_X9_reach 0 j27_ Mz r30_) ∧ (0 ≤ r30_.toInt ∧ r30_.toInt ≤ 12) ∧ (((SP_X11_within t 1 r30_ Mz (1 : Int32)) ∧ (1 ≤ t.toInt ∧ t.toInt ≤ r30_.toInt) ∧ (((SP_X11_within q 0 999 Mz (1 : Int32)) ∧ (0 ≤ q.toInt ∧ q.toInt ≤ 999) ∧ ∃ r47_ : Int32, (SP_X9_ears 0 j27_ Mz r47_) ∧ (0 ≤ r47_.toInt ∧ r47_.toInt ≤ 9) ∧ ∃ M53_ : mM, (Inv M53_) ∧ (FR (S_c_X2_kindsAlike 0) Mz M53_) ∧ ∃ r52_ : Int32, (SP_X2_kindsAlike 0 r47_ u t s q Mz r52_ M53_) ∧ r_ = r52_ ∧ M_ = M53_) ∨ ((SP_X11_within q 0 999 Mz (0 : Int32)) ∧ (¬ (0 ≤ q.toInt ∧ q.toInt ≤ 999)) ∧ ∃ M62_ : mM, (Inv M62_) ∧ (FR (S_c_X11_error) Mz M62_) ∧ ∃ r61_ : Int32, (SP_X11_error 1 Mz r61_ M62_) ∧ r_ = r61_ ∧ M_ = M62_))) ∨ ((SP_X11_within t 1 r30_ Mz (0 : Int32)) ∧ (¬ (1 ≤ t.toInt ∧ t.toInt ≤ r30_.toInt)) ∧ ∃ M71_ : mM, (Inv M71_) ∧ (FR (S_c_X11_error) Mz M71_) ∧ ∃ r70_ : Int32, (SP_X11_error 1 Mz r70_ M71_) ∧ r_ = r70_ ∧ M_ = M71_))) ∨ ((SP_X7_isSide s Mz (0 : Int32)) ∧ (¬ (0 ≤ s.toInt ∧ s.toInt ≤ 7)) ∧ ∃ M80_ : mM, (Inv M80_) ∧ (FR (S_c_X11_error) Mz M80_) ∧ ∃ r79_ : Int32, (SP_X11_error 1 Mz r79_ M80_) ∧ r_ = r79_ ∧ M_ = M80_))))) ∨ ((SP_X10_hasWalker 0 v Mz (0 : Int32)) ∧ ∃ M89_ : mM, (Inv M89_) ∧ (FR (S_c_X11_error) Mz M89_) ∧ ∃ r88_ : Int32, (SP_X11_error 1 Mz r88_ M89_) ∧ r_ = r88_ ∧ M_ = M89_))
set_option maxHeartbeats 4000000 in
set_option maxRecDepth 100000 in
theorem c_X11_alike (l : Launch) (G : va_G) (cy : Nat → ClassId) (ad : rf → Nat) (d : Nat) (v : Int32) (u : Int32) (t : Int32) (s : Int32) (q : Int32) (Mz : mM) (hIz : Inv Mz) : WP CC l G cy ad yX11_alike cX11_alike 7 (some .int) (d + 4) 0 [(0, vR (11, 0, 0)), (1, vI v), (2, vI u), (3, vI t), (4, vI s), (5, vI q)] [] Mz (fun r M' => Inv M' ∧ FR (S_c_X11_alike) Mz M' ∧ (True) ∧ SP_X11_alike v u t s q Mz r M') := by
  have hFz : FR (S_c_X11_alike) Mz Mz := FR.self
  refine w_aload_n dX11_alike_0 rfl 0 rfl ?_
  refine w_getR (c' := (10, 0, 0)) fl_RX11_10 rfl rfl ic_11 dX11_alike_1 rfl ?_
  refine w_iload_n dX11_alike_4 rfl 1 rfl ?_
  refine w_callV (as := [vI v]) (rest := []) (c_X10_hasWalker l G cy ad (d + 3) 0 v Mz hIz (by first | decide | (unfold vF; omega) | (unfold vRw; omega))) kV_X10_hasWalker pnn_7 (Nat.le_of_ble_eq_true rfl) m_609 rfl rfl rfl (ic_10 (by decide)) rfl rfl (by decide) (Nat.le_of_ble_eq_true rfl) dX11_alike_5 (fun r1_ M2_ q3_ => ?_)
  obtain ⟨rfl, h4_, hs5_⟩ := q3_
  rcases h4_ with ⟨rfl, h4_⟩ | rfl
  · refine w_if_eq (tgt := 26) dX11_alike_8 (by decide) li_1 (fun h9 => (absurd h9 (by decide))) (fun h6_ => ?_)
    refine w_iload_n dX11_alike_11 rfl 2 rfl ?_
    refine w_callS (as := [vI u]) (rest := []) (c_X2_isClick_ l G cy ad (d + 1) u Mz hIz) kS_X2_isClick_ pnn_5 (Nat.le_of_ble_eq_true rfl) m_839 rfl rfl (by decide) (Nat.le_of_ble_eq_true rfl) dX11_alike_12 (fun r7_ M8_ q9_ => ?_)
    obtain ⟨rfl, h10_, hs11_⟩ := q9_
    refine w_if_eq (tgt := 26) dX11_alike_15 (by decide) (rfl : r7_.toInt = r7_.toInt) (fun h12_ => ?_) (fun h12_ => ?_)
    · refine w_aload_n dX11_alike_26 rfl 0 rfl ?_
      refine w_iconst (v := 1) dX11_alike_27 (by decide) ?_
      refine w_callV (as := [vI 1]) (rest := []) (c_X11_error l G cy ad (d + 3) 1 Mz hIz) kV_X11_error pnn_0 (Nat.le_of_ble_eq_true rfl) m_500 rfl rfl rfl ic_11 rfl rfl (by decide) (Nat.le_of_ble_eq_true rfl) dX11_alike_28 (fun r13_ M14_ q15_ => ?_)
      obtain ⟨hI17_, hF18_, h16_, hs20_⟩ := q15_
      have hF19_ := hFz.tr hF18_ (fun c k => (fun h => h.elim (fun h => (Or.inl ⟨h.1, h.2⟩)) (fun h => h.elim)))
      exact w_iret rfl dX11_alike_31 ⟨hI17_, hF19_, trivial, (Or.inl ⟨hs5_, h4_, r7_, hs11_, h10_, (Or.inl ⟨h12_, M14_, hI17_, hF18_, r13_, hs20_, rfl, rfl⟩)⟩)⟩
    · refine w_iload dX11_alike_18 4 rfl ?_
      refine w_callS (as := [vI s]) (rest := []) (c_X7_isSide l G cy ad (d + 3) s Mz hIz) kS_X7_isSide pnn_1 (Nat.le_of_ble_eq_true rfl) m_539 rfl rfl (by decide) (Nat.le_of_ble_eq_true rfl) dX11_alike_20 (fun r21_ M22_ q23_ => ?_)
      obtain ⟨rfl, h24_, hs25_⟩ := q23_
      rcases h24_ with ⟨rfl, h24_⟩ | ⟨rfl, h24_⟩
      · refine w_if_ne (tgt := 32) dX11_alike_23 (by decide) li_1 (fun h26_ => ?_) (fun h9 => (absurd h9 (by decide)))
        refine w_aload_n dX11_alike_32 rfl 0 rfl ?_
        refine w_getR (c' := (10, 0, 0)) fl_RX11_10 rfl rfl ic_11 dX11_alike_33 rfl ?_
        refine w_getR (c' := (42, 0, 0)) fl_RX11_157 rfl rfl (ic_10 (by decide)) dX11_alike_36 rfl ?_
        refine w_iload_n dX11_alike_39 rfl 1 rfl ?_
        refine w_aald rfl rfl rfl (fun _ => rfl) (ic_42 (by decide)) (rfl : v.toInt = v.toInt) (lf_c_X7_cellFrom_2 v h4_ ) dX11_alike_40 (fun j27_ h28_ h29_ => ?_)
        refine w_astore (ls' := [(6, vR (9, 0, j27_)), (0, vR (11, 0, 0)), (1, vI v), (2, vI u), (3, vI t), (4, vI s), (5, vI q)]) dX11_alike_41 (by decide) rfl ?_
        refine w_iload_n dX11_alike_43 rfl 4 rfl ?_
        refine w_iconst (v := 1) dX11_alike_44 (by decide) ?_
        refine w_aload dX11_alike_45 0 rfl ?_
        refine w_callV (as := []) (rest := [vI 1, vI t]) (c_X9_reach l G cy ad (d + 3) 0 j27_ Mz hIz (by first | decide | (unfold vF; omega) | (unfold vRw; omega)) h29_) kV_X9_reach pnn_3 (Nat.le_of_ble_eq_true rfl) m_648 rfl rfl rfl (ic_9 (by decide) h29_) rfl rfl (by decide) (Nat.le_of_ble_eq_true rfl) dX11_alike_47 (fun r30_ M31_ q32_ => ?_)
        obtain ⟨rfl, h33_, hs34_⟩ := q32_
        refine w_callS (as := [vI t, vI 1, vI r30_]) (rest := []) (c_X11_within l G cy ad (d + 3) t 1 r30_ Mz hIz) kS_X11_within pnn_0 (Nat.le_of_ble_eq_true rfl) m_494 rfl rfl (by decide) (Nat.le_of_ble_eq_true rfl) dX11_alike_50 (fun r35_ M36_ q37_ => ?_)
        obtain ⟨rfl, h38_, hs39_⟩ := q37_
        rcases h38_ with ⟨rfl, h38_⟩ | ⟨rfl, h38_⟩
        · simp only [li_1] at h38_
          refine w_if_eq (tgt := 68) dX11_alike_53 (by decide) li_1 (fun h9 => (absurd h9 (by decide))) (fun h40_ => ?_)
          refine w_iload dX11_alike_56 6 rfl ?_
          refine w_iconst (v := 0) dX11_alike_58 (by decide) ?_
          refine w_sipush (v := 999) dX11_alike_59 (by decide) ?_
          refine w_callS (as := [vI q, vI 0, vI 999]) (rest := []) (c_X11_within l G cy ad (d + 3) q 0 999 Mz hIz) kS_X11_within pnn_0 (Nat.le_of_ble_eq_true rfl) m_494 rfl rfl (by decide) (Nat.le_of_ble_eq_true rfl) dX11_alike_62 (fun r41_ M42_ q43_ => ?_)
          obtain ⟨rfl, h44_, hs45_⟩ := q43_
          rcases h44_ with ⟨rfl, h44_⟩ | ⟨rfl, h44_⟩
          · simp only [li_0, li_999] at h44_
            refine w_if_ne (tgt := 74) dX11_alike_65 (by decide) li_1 (fun h46_ => ?_) (fun h9 => (absurd h9 (by decide)))
            refine w_aload_n dX11_alike_74 rfl 1 rfl ?_
            refine w_getR (c' := (10, 0, 0)) fl_RX11_10 rfl rfl ic_11 dX11_alike_75 rfl ?_
            refine w_getR (c' := (2, 0, 0)) fl_RX11_114 rfl rfl (ic_10 (by decide)) dX11_alike_78 rfl ?_
            refine w_aload dX11_alike_81 0 rfl ?_
            refine w_callV (as := []) (rest := [vR (2, 0, 0)]) (c_X9_ears l G cy ad (d + 3) 0 j27_ Mz hIz (by first | decide | (unfold vF; omega) | (unfold vRw; omega)) h29_) kV_X9_ears pnn_3 (Nat.le_of_ble_eq_true rfl) m_951 rfl rfl rfl (ic_9 (by decide) h29_) rfl rfl (by decide) (Nat.le_of_ble_eq_true rfl) dX11_alike_83 (fun r47_ M48_ q49_ => ?_)
            obtain ⟨rfl, h50_, hs51_⟩ := q49_
            refine w_iload_n dX11_alike_86 rfl 3 rfl ?_
            refine w_iload_n dX11_alike_87 rfl 4 rfl ?_
            refine w_iload dX11_alike_88 5 rfl ?_
            refine w_iload dX11_alike_90 6 rfl ?_
            refine w_callV (as := [vI r47_, vI u, vI t, vI s, vI q]) (rest := []) (c_X2_kindsAlike l G cy ad d 0 r47_ u t s q Mz hIz (by first | decide | (unfold vF; omega) | (unfold vRw; omega))) kV_X2_kindsAlike pnn_5 (Nat.le_of_ble_eq_true rfl) m_952 rfl rfl rfl (ic_2 (by decide)) rfl rfl (by decide) (Nat.le_of_ble_eq_true rfl) dX11_alike_92 (fun r52_ M53_ q54_ => ?_)
            obtain ⟨hI56_, hF57_, h55_, hs59_⟩ := q54_
            have hF58_ := hFz.tr hF57_ (fun c k => (fun h => h.elim (fun h => (Or.inr (Or.inl ⟨h.1, h.2.1, h.2.2⟩))) (fun h => h.elim (fun h => (Or.inr (Or.inr (Or.inl ⟨h.1, h.2.1, h.2.2⟩)))) (fun h => h.elim (fun h => (Or.inr (Or.inr (Or.inr (Or.inl ⟨h.1, h.2.1, h.2.2⟩))))) (fun h => h.elim (fun h => (Or.inr (Or.inr (Or.inr (Or.inr (Or.inl ⟨h.1, h.2.1, h.2.2⟩)))))) (fun h => h.elim (fun h => (Or.inr (Or.inr (Or.inr (Or.inr (Or.inr (Or.inl ⟨h.1, h.2.1, h.2.2⟩))))))) (fun h => h.elim (fun h => (Or.inr (Or.inr (Or.inr (Or.inr (Or.inr (Or.inr (Or.inl ⟨h.1, h.2.1, h.2.2⟩)))))))) (fun h => h.elim))))))))
            exact w_iret rfl dX11_alike_95 ⟨hI56_, hF58_, trivial, (Or.inl ⟨hs5_, h4_, r7_, hs11_, h10_, (Or.inr ⟨h12_, (Or.inl ⟨hs25_, h24_, j27_, h28_, h29_, r30_, hs34_, h33_, (Or.inl ⟨hs39_, h38_, (Or.inl ⟨hs45_, h44_, r47_, hs51_, h50_, M53_, hI56_, hF57_, r52_, hs59_, rfl, rfl⟩)⟩)⟩)⟩)⟩)⟩
          · simp only [li_0, li_999] at h44_
            refine w_if_ne (tgt := 74) dX11_alike_65 (by decide) li_0 (fun h9 => (absurd h9 (by decide))) (fun h60_ => ?_)
            refine w_aload_n dX11_alike_68 rfl 1 rfl ?_
            refine w_iconst (v := 1) dX11_alike_69 (by decide) ?_
            refine w_callV (as := [vI 1]) (rest := []) (c_X11_error l G cy ad (d + 3) 1 Mz hIz) kV_X11_error pnn_0 (Nat.le_of_ble_eq_true rfl) m_500 rfl rfl rfl ic_11 rfl rfl (by decide) (Nat.le_of_ble_eq_true rfl) dX11_alike_70 (fun r61_ M62_ q63_ => ?_)
            obtain ⟨hI65_, hF66_, h64_, hs68_⟩ := q63_
            have hF67_ := hFz.tr hF66_ (fun c k => (fun h => h.elim (fun h => (Or.inl ⟨h.1, h.2⟩)) (fun h => h.elim)))
            exact w_iret rfl dX11_alike_73 ⟨hI65_, hF67_, trivial, (Or.inl ⟨hs5_, h4_, r7_, hs11_, h10_, (Or.inr ⟨h12_, (Or.inl ⟨hs25_, h24_, j27_, h28_, h29_, r30_, hs34_, h33_, (Or.inl ⟨hs39_, h38_, (Or.inr ⟨hs45_, h44_, M62_, hI65_, hF66_, r61_, hs68_, rfl, rfl⟩)⟩)⟩)⟩)⟩)⟩
        · simp only [li_1] at h38_
          refine w_if_eq (tgt := 68) dX11_alike_53 (by decide) li_0 (fun h69_ => ?_) (fun h9 => (absurd h9 (by decide)))
          refine w_aload_n dX11_alike_68 rfl 1 rfl ?_
          refine w_iconst (v := 1) dX11_alike_69 (by decide) ?_
          refine w_callV (as := [vI 1]) (rest := []) (c_X11_error l G cy ad (d + 3) 1 Mz hIz) kV_X11_error pnn_0 (Nat.le_of_ble_eq_true rfl) m_500 rfl rfl rfl ic_11 rfl rfl (by decide) (Nat.le_of_ble_eq_true rfl) dX11_alike_70 (fun r70_ M71_ q72_ => ?_)
          obtain ⟨hI74_, hF75_, h73_, hs77_⟩ := q72_
          have hF76_ := hFz.tr hF75_ (fun c k => (fun h => h.elim (fun h => (Or.inl ⟨h.1, h.2⟩)) (fun h => h.elim)))
          exact w_iret rfl dX11_alike_73 ⟨hI74_, hF76_, trivial, (Or.inl ⟨hs5_, h4_, r7_, hs11_, h10_, (Or.inr ⟨h12_, (Or.inl ⟨hs25_, h24_, j27_, h28_, h29_, r30_, hs34_, h33_, (Or.inr ⟨hs39_, h38_, M71_, hI74_, hF75_, r70_, hs77_, rfl, rfl⟩)⟩)⟩)⟩)⟩
      · refine w_if_ne (tgt := 32) dX11_alike_23 (by decide) li_0 (fun h9 => (absurd h9 (by decide))) (fun h78_ => ?_)
        refine w_aload_n dX11_alike_26 rfl 0 rfl ?_
        refine w_iconst (v := 1) dX11_alike_27 (by decide) ?_
        refine w_callV (as := [vI 1]) (rest := []) (c_X11_error l G cy ad (d + 3) 1 Mz hIz) kV_X11_error pnn_0 (Nat.le_of_ble_eq_true rfl) m_500 rfl rfl rfl ic_11 rfl rfl (by decide) (Nat.le_of_ble_eq_true rfl) dX11_alike_28 (fun r79_ M80_ q81_ => ?_)
        obtain ⟨hI83_, hF84_, h82_, hs86_⟩ := q81_
        have hF85_ := hFz.tr hF84_ (fun c k => (fun h => h.elim (fun h => (Or.inl ⟨h.1, h.2⟩)) (fun h => h.elim)))
        exact w_iret rfl dX11_alike_31 ⟨hI83_, hF85_, trivial, (Or.inl ⟨hs5_, h4_, r7_, hs11_, h10_, (Or.inr ⟨h12_, (Or.inr ⟨hs25_, h24_, M80_, hI83_, hF84_, r79_, hs86_, rfl, rfl⟩)⟩)⟩)⟩
  · refine w_if_eq (tgt := 26) dX11_alike_8 (by decide) li_0 (fun h87_ => ?_) (fun h9 => (absurd h9 (by decide)))
    refine w_aload_n dX11_alike_26 rfl 0 rfl ?_
    refine w_iconst (v := 1) dX11_alike_27 (by decide) ?_
    refine w_callV (as := [vI 1]) (rest := []) (c_X11_error l G cy ad (d + 3) 1 Mz hIz) kV_X11_error pnn_0 (Nat.le_of_ble_eq_true rfl) m_500 rfl rfl rfl ic_11 rfl rfl (by decide) (Nat.le_of_ble_eq_true rfl) dX11_alike_28 (fun r88_ M89_ q90_ => ?_)
    obtain ⟨hI92_, hF93_, h91_, hs95_⟩ := q90_
    have hF94_ := hFz.tr hF93_ (fun c k => (fun h => h.elim (fun h => (Or.inl ⟨h.1, h.2⟩)) (fun h => h.elim)))
    exact w_iret rfl dX11_alike_31 ⟨hI92_, hF94_, trivial, (Or.inr ⟨hs5_, M89_, hI92_, hF93_, r88_, hs95_, rfl, rfl⟩)⟩
def S_c_X11_least : rf → Nat → Prop := fun c k => (c.1 = 29 ∧ c.2.1 = 0 ∧ k = 0) ∨ (c.1 = 29 ∧ c.2.1 = 0 ∧ k = 1) ∨ (c.1 = 29 ∧ c.2.1 = 0 ∧ k = 2) ∨ (c.1 = 29 ∧ c.2.1 = 0 ∧ k = 3) ∨ (c.1 = 25 ∧ c.2.1 = 0 ∧ c.2.2 = 0) ∨ (c.1 = 25 ∧ c.2.1 = 0 ∧ c.2.2 = 1) ∨ (c.1 = 44 ∧ c.2.1 = 0) ∨ False
def SP_X11_least (v : Int32) (u : Int32) (t : Int32) (s : Int32) (Mz : mM) (r_ : Int32) (M_ : mM) : Prop := (((SP_X10_hasWalker 0 v Mz (1 : Int32)) ∧ (0 ≤ v.toInt ∧ v.toInt ≤ 7) ∧ (((SP_X11_isThingKind u Mz (1 : Int32)) ∧ (0 ≤ u.toInt ∧ u.toInt ≤ 4) ∧ (((SP_X11_within t 1 15 Mz (1 : Int32)) ∧ (1 ≤ t.toInt ∧ t.toInt ≤ 15) ∧ (((SP_X11_within s 0 1 Mz (1 : Int32)) ∧ (0 ≤ s.toInt ∧ s.toInt ≤ 1) ∧ ∃ j25_ : Nat, ((j25_ : Int) = v.toInt) ∧ (j25_ < 8) ∧ ∃ r28_ : Int32, (SP_X9_reach 0 j25_ Mz r28_) ∧ (0 ≤ r28_.toInt ∧ r28_.toInt ≤ 12) ∧ (((t.toInt ≤ r28_.toInt) ∧ (((¬ s.toInt = 0) ∧ ∃ r35_ : Int32, (SP_X9_ears 0 j25_ Mz r35_) ∧ (0 ≤ r35_.toInt ∧ r35_.toInt ≤ 9) ∧ ∃ M41_ : mM, (Inv M41_) ∧ (FR (S_c_X2_leastLoudness 0) Mz M41_) ∧ ∃ r40_ : Int32, (SP_X2_leastLoudness 0 r35_ u t Mz r40_ M41_) ∧ (((¬ r40_.toInt = 0) ∧ r_ = r40_ ∧ M_ = M41_) ∨ ((r40_.toInt = 0) ∧ ∃ M50_ : mM, (Inv M50_) ∧ (FR (S_c_X11_error) M41_ M50_) ∧ ∃ r49_ : Int32, (SP_X11_error 2 M41_ r49_ M50_) ∧ r_ = r49_ ∧ M_ = M50_))) ∨ ((s.toInt = 0) ∧ ∃ r57_ : Int32, (SP_X9_ears 0 j25_ Mz r57_) ∧ (0 ≤ r57_.toInt ∧ r57_.toInt ≤ 9) ∧ ∃ M63_ : mM, (Inv M63_) ∧ (FR (S_c_X2_leastPitch 0) Mz M63_) ∧ ∃ r62_ : Int32, (SP_X2_leastPitch 0 r57_ u t Mz r62_ M63_) ∧ (((¬ r62_.toInt = 0) ∧ r_ = r62_ ∧ M_ = M63_) ∨ ((r62_.toInt = 0) ∧ ∃ M72_ : mM, (Inv M72_) ∧ (FR (S_c_X11_error) M63_ M72_) ∧ ∃ r71_ : Int32, (SP_X11_error 2 M63_ r71_ M72_) ∧ r_ = r71_ ∧ M_ = M72_))))) ∨ ((r28_.toInt < t.toInt) ∧ ∃ M80_ : mM, (Inv M80_) ∧ (FR (S_c_X11_error) Mz M80_) ∧ ∃ r79_ : Int32, (SP_X11_error 2 Mz r79_ M80_) ∧ r_ = r79_ ∧ M_ = M80_))) ∨ ((SP_X11_within s 0 1 Mz (0 : Int32)) ∧ (¬ (0 ≤ s.toInt ∧ s.toInt ≤ 1)) ∧ ∃ M89_ : mM, (Inv M89_) ∧ (FR (S_c_X11_error) Mz M89_) ∧ ∃ r88_ : Int32, (SP_X11_error 1 Mz r88_ M89_) ∧ r_ = r88_ ∧ M_ = M89_))) ∨ ((SP_X11_within t 1 15 Mz (0 : Int32)) ∧ (¬ (1 ≤ t.toInt ∧ t.toInt ≤ 15)) ∧ ∃ M98_ : mM, (Inv M98_) ∧ (FR (S_c_X11_error) Mz M98_) ∧ ∃ r97_ : Int32, (SP_X11_error 1 Mz r97_ M98_) ∧ r_ = r97_ ∧ M_ = M98_))) ∨ ((SP_X11_isThingKind u Mz (0 : Int32)) ∧ (¬ (0 ≤ u.toInt ∧ u.toInt ≤ 4)) ∧ ∃ M107_ : mM, (Inv M107_) ∧ (FR (S_c_X11_error) Mz M107_) ∧ ∃ r106_ : Int32, (SP_X11_error 1 Mz r106_ M107_) ∧ r_ = r106_ ∧ M_ = M107_))) ∨ ((SP_X10_hasWalker 0 v Mz (0 : Int32)) ∧ ∃ M116_ : mM, (Inv M116_) ∧ (FR (S_c_X11_error) Mz M116_) ∧ ∃ r115_ : Int32, (SP_X11_error 1 Mz r115_ M116_) ∧ r_ = r115_ ∧ M_ = M116_))
set_option maxHeartbeats 4000000 in
set_option maxRecDepth 100000 in
theorem c_X11_least (l : Launch) (G : va_G) (cy : Nat → ClassId) (ad : rf → Nat) (d : Nat) (v : Int32) (u : Int32) (t : Int32) (s : Int32) (Mz : mM) (hIz : Inv Mz) : WP CC l G cy ad yX11_least cX11_least 7 (some .int) (d + 4) 0 [(0, vR (11, 0, 0)), (1, vI v), (2, vI u), (3, vI t), (4, vI s)] [] Mz (fun r M' => Inv M' ∧ FR (S_c_X11_least) Mz M' ∧ (True) ∧ SP_X11_least v u t s Mz r M') := by
  have hFz : FR (S_c_X11_least) Mz Mz := FR.self
  refine w_aload_n dX11_least_0 rfl 0 rfl ?_
  refine w_getR (c' := (10, 0, 0)) fl_RX11_10 rfl rfl ic_11 dX11_least_1 rfl ?_
  refine w_iload_n dX11_least_4 rfl 1 rfl ?_
  refine w_callV (as := [vI v]) (rest := []) (c_X10_hasWalker l G cy ad (d + 3) 0 v Mz hIz (by first | decide | (unfold vF; omega) | (unfold vRw; omega))) kV_X10_hasWalker pnn_7 (Nat.le_of_ble_eq_true rfl) m_609 rfl rfl rfl (ic_10 (by decide)) rfl rfl (by decide) (Nat.le_of_ble_eq_true rfl) dX11_least_5 (fun r1_ M2_ q3_ => ?_)
  obtain ⟨rfl, h4_, hs5_⟩ := q3_
  rcases h4_ with ⟨rfl, h4_⟩ | rfl
  · refine w_if_eq (tgt := 38) dX11_least_8 (by decide) li_1 (fun h9 => (absurd h9 (by decide))) (fun h6_ => ?_)
    refine w_iload_n dX11_least_11 rfl 2 rfl ?_
    refine w_callS (as := [vI u]) (rest := []) (c_X11_isThingKind l G cy ad (d + 2) u Mz hIz) kS_X11_isThingKind pnn_0 (Nat.le_of_ble_eq_true rfl) m_491 rfl rfl (by decide) (Nat.le_of_ble_eq_true rfl) dX11_least_12 (fun r7_ M8_ q9_ => ?_)
    obtain ⟨rfl, h10_, hs11_⟩ := q9_
    rcases h10_ with ⟨rfl, h10_⟩ | ⟨rfl, h10_⟩
    · refine w_if_eq (tgt := 38) dX11_least_15 (by decide) li_1 (fun h9 => (absurd h9 (by decide))) (fun h12_ => ?_)
      refine w_iload_n dX11_least_18 rfl 3 rfl ?_
      refine w_iconst (v := 1) dX11_least_19 (by decide) ?_
      refine w_bipush (v := 15) dX11_least_20 (by decide) ?_
      refine w_callS (as := [vI t, vI 1, vI 15]) (rest := []) (c_X11_within l G cy ad (d + 3) t 1 15 Mz hIz) kS_X11_within pnn_0 (Nat.le_of_ble_eq_true rfl) m_494 rfl rfl (by decide) (Nat.le_of_ble_eq_true rfl) dX11_least_22 (fun r13_ M14_ q15_ => ?_)
      obtain ⟨rfl, h16_, hs17_⟩ := q15_
      rcases h16_ with ⟨rfl, h16_⟩ | ⟨rfl, h16_⟩
      · simp only [li_1, li_15] at h16_
        refine w_if_eq (tgt := 38) dX11_least_25 (by decide) li_1 (fun h9 => (absurd h9 (by decide))) (fun h18_ => ?_)
        refine w_iload dX11_least_28 4 rfl ?_
        refine w_iconst (v := 0) dX11_least_30 (by decide) ?_
        refine w_iconst (v := 1) dX11_least_31 (by decide) ?_
        refine w_callS (as := [vI s, vI 0, vI 1]) (rest := []) (c_X11_within l G cy ad (d + 3) s 0 1 Mz hIz) kS_X11_within pnn_0 (Nat.le_of_ble_eq_true rfl) m_494 rfl rfl (by decide) (Nat.le_of_ble_eq_true rfl) dX11_least_32 (fun r19_ M20_ q21_ => ?_)
        obtain ⟨rfl, h22_, hs23_⟩ := q21_
        rcases h22_ with ⟨rfl, h22_⟩ | ⟨rfl, h22_⟩
        · simp only [li_0, li_1] at h22_
          refine w_if_ne (tgt := 44) dX11_least_35 (by decide) li_1 (fun h24_ => ?_) (fun h9 => (absurd h9 (by decide)))
          refine w_aload_n dX11_least_44 rfl 0 rfl ?_
          refine w_getR (c' := (10, 0, 0)) fl_RX11_10 rfl rfl ic_11 dX11_least_45 rfl ?_
          refine w_getR (c' := (42, 0, 0)) fl_RX11_157 rfl rfl (ic_10 (by decide)) dX11_least_48 rfl ?_
          refine w_iload_n dX11_least_51 rfl 1 rfl ?_
          refine w_aald rfl rfl rfl (fun _ => rfl) (ic_42 (by decide)) (rfl : v.toInt = v.toInt) (lf_c_X7_cellFrom_2 v h4_ ) dX11_least_52 (fun j25_ h26_ h27_ => ?_)
          refine w_astore (ls' := [(5, vR (9, 0, j25_)), (0, vR (11, 0, 0)), (1, vI v), (2, vI u), (3, vI t), (4, vI s)]) dX11_least_53 (by decide) rfl ?_
          refine w_iload_n dX11_least_55 rfl 4 rfl ?_
          refine w_aload dX11_least_56 0 rfl ?_
          refine w_callV (as := []) (rest := [vI t]) (c_X9_reach l G cy ad (d + 3) 0 j25_ Mz hIz (by first | decide | (unfold vF; omega) | (unfold vRw; omega)) h27_) kV_X9_reach pnn_3 (Nat.le_of_ble_eq_true rfl) m_648 rfl rfl rfl (ic_9 (by decide) h27_) rfl rfl (by decide) (Nat.le_of_ble_eq_true rfl) dX11_least_58 (fun r28_ M29_ q30_ => ?_)
          obtain ⟨rfl, h31_, hs32_⟩ := q30_
          refine w_icmp_le (tgt := 70) dX11_least_61 (by decide) (rfl : t.toInt = t.toInt) (rfl : r28_.toInt = r28_.toInt) (fun h33_ => ?_) (fun h33_ => ?_)
          · refine w_iload dX11_least_70 5 rfl ?_
            refine w_if_ne (tgt := 95) dX11_least_72 (by decide) (rfl : s.toInt = s.toInt) (fun h34_ => ?_) (fun h34_ => ?_)
            · refine w_aload_n dX11_least_95 rfl 1 rfl ?_
              refine w_getR (c' := (10, 0, 0)) fl_RX11_10 rfl rfl ic_11 dX11_least_96 rfl ?_
              refine w_getR (c' := (2, 0, 0)) fl_RX11_114 rfl rfl (ic_10 (by decide)) dX11_least_99 rfl ?_
              refine w_aload dX11_least_102 0 rfl ?_
              refine w_callV (as := []) (rest := [vR (2, 0, 0)]) (c_X9_ears l G cy ad (d + 3) 0 j25_ Mz hIz (by first | decide | (unfold vF; omega) | (unfold vRw; omega)) h27_) kV_X9_ears pnn_3 (Nat.le_of_ble_eq_true rfl) m_951 rfl rfl rfl (ic_9 (by decide) h27_) rfl rfl (by decide) (Nat.le_of_ble_eq_true rfl) dX11_least_104 (fun r35_ M36_ q37_ => ?_)
              obtain ⟨rfl, h38_, hs39_⟩ := q37_
              refine w_iload_n dX11_least_107 rfl 3 rfl ?_
              refine w_iload_n dX11_least_108 rfl 4 rfl ?_
              refine w_callV (as := [vI r35_, vI u, vI t]) (rest := []) (c_X2_leastLoudness l G cy ad d 0 r35_ u t Mz hIz (by first | decide | (unfold vF; omega) | (unfold vRw; omega))) kV_X2_leastLoudness pnn_5 (Nat.le_of_ble_eq_true rfl) m_965 rfl rfl rfl (ic_2 (by decide)) rfl rfl (by decide) (Nat.le_of_ble_eq_true rfl) dX11_least_109 (fun r40_ M41_ q42_ => ?_)
              obtain ⟨hI44_, hF45_, h43_, hs47_⟩ := q42_
              have hF46_ := hFz.tr hF45_ (fun c k => (fun h => h.elim (fun h => (Or.inl ⟨h.1, h.2.1, h.2.2⟩)) (fun h => h.elim (fun h => (Or.inr (Or.inl ⟨h.1, h.2.1, h.2.2⟩))) (fun h => h.elim (fun h => (Or.inr (Or.inr (Or.inl ⟨h.1, h.2.1, h.2.2⟩)))) (fun h => h.elim (fun h => (Or.inr (Or.inr (Or.inr (Or.inl ⟨h.1, h.2.1, h.2.2⟩))))) (fun h => h.elim (fun h => (Or.inr (Or.inr (Or.inr (Or.inr (Or.inl ⟨h.1, h.2.1, h.2.2⟩)))))) (fun h => h.elim (fun h => (Or.inr (Or.inr (Or.inr (Or.inr (Or.inr (Or.inl ⟨h.1, h.2.1, h.2.2⟩))))))) (fun h => h.elim))))))))
              refine w_istore (ls' := [(6, vI r40_), (5, vR (9, 0, j25_)), (0, vR (11, 0, 0)), (1, vI v), (2, vI u), (3, vI t), (4, vI s)]) dX11_least_112 (by decide) rfl ?_
              refine w_iload dX11_least_114 0 rfl ?_
              refine w_if_ne (tgt := 127) dX11_least_116 (by decide) (rfl : r40_.toInt = r40_.toInt) (fun h48_ => ?_) (fun h48_ => ?_)
              · refine w_iload dX11_least_127 0 rfl ?_
                exact w_iret rfl dX11_least_129 ⟨hI44_, hF46_, trivial, (Or.inl ⟨hs5_, h4_, (Or.inl ⟨hs11_, h10_, (Or.inl ⟨hs17_, h16_, (Or.inl ⟨hs23_, h22_, j25_, h26_, h27_, r28_, hs32_, h31_, (Or.inl ⟨h33_, (Or.inl ⟨h34_, r35_, hs39_, h38_, M41_, hI44_, hF45_, r40_, hs47_, (Or.inl ⟨h48_, rfl, rfl⟩)⟩)⟩)⟩)⟩)⟩)⟩)⟩
              · refine w_aload_n dX11_least_119 rfl 2 rfl ?_
                refine w_iconst (v := 2) dX11_least_120 (by decide) ?_
                refine w_callV (as := [vI 2]) (rest := []) (c_X11_error l G cy ad (d + 3) 2 M41_ hI44_) kV_X11_error pnn_0 (Nat.le_of_ble_eq_true rfl) m_500 rfl rfl rfl ic_11 rfl rfl (by decide) (Nat.le_of_ble_eq_true rfl) dX11_least_121 (fun r49_ M50_ q51_ => ?_)
                obtain ⟨hI53_, hF54_, h52_, hs56_⟩ := q51_
                have hF55_ := hF46_.tr hF54_ (fun c k => (fun h => h.elim (fun h => (Or.inr (Or.inr (Or.inr (Or.inr (Or.inr (Or.inr (Or.inl ⟨h.1, h.2⟩)))))))) (fun h => h.elim)))
                refine w_goto (tgt := 129) dX11_least_124 (by decide) ?_
                exact w_iret rfl dX11_least_129 ⟨hI53_, hF55_, trivial, (Or.inl ⟨hs5_, h4_, (Or.inl ⟨hs11_, h10_, (Or.inl ⟨hs17_, h16_, (Or.inl ⟨hs23_, h22_, j25_, h26_, h27_, r28_, hs32_, h31_, (Or.inl ⟨h33_, (Or.inl ⟨h34_, r35_, hs39_, h38_, M41_, hI44_, hF45_, r40_, hs47_, (Or.inr ⟨h48_, M50_, hI53_, hF54_, r49_, hs56_, rfl, rfl⟩)⟩)⟩)⟩)⟩)⟩)⟩)⟩
            · refine w_aload_n dX11_least_75 rfl 1 rfl ?_
              refine w_getR (c' := (10, 0, 0)) fl_RX11_10 rfl rfl ic_11 dX11_least_76 rfl ?_
              refine w_getR (c' := (2, 0, 0)) fl_RX11_114 rfl rfl (ic_10 (by decide)) dX11_least_79 rfl ?_
              refine w_aload dX11_least_82 0 rfl ?_
              refine w_callV (as := []) (rest := [vR (2, 0, 0)]) (c_X9_ears l G cy ad (d + 3) 0 j25_ Mz hIz (by first | decide | (unfold vF; omega) | (unfold vRw; omega)) h27_) kV_X9_ears pnn_3 (Nat.le_of_ble_eq_true rfl) m_951 rfl rfl rfl (ic_9 (by decide) h27_) rfl rfl (by decide) (Nat.le_of_ble_eq_true rfl) dX11_least_84 (fun r57_ M58_ q59_ => ?_)
              obtain ⟨rfl, h60_, hs61_⟩ := q59_
              refine w_iload_n dX11_least_87 rfl 3 rfl ?_
              refine w_iload_n dX11_least_88 rfl 4 rfl ?_
              refine w_callV (as := [vI r57_, vI u, vI t]) (rest := []) (c_X2_leastPitch l G cy ad d 0 r57_ u t Mz hIz (by first | decide | (unfold vF; omega) | (unfold vRw; omega))) kV_X2_leastPitch pnn_5 (Nat.le_of_ble_eq_true rfl) m_961 rfl rfl rfl (ic_2 (by decide)) rfl rfl (by decide) (Nat.le_of_ble_eq_true rfl) dX11_least_89 (fun r62_ M63_ q64_ => ?_)
              obtain ⟨hI66_, hF67_, h65_, hs69_⟩ := q64_
              have hF68_ := hFz.tr hF67_ (fun c k => (fun h => h.elim (fun h => (Or.inl ⟨h.1, h.2.1, h.2.2⟩)) (fun h => h.elim (fun h => (Or.inr (Or.inl ⟨h.1, h.2.1, h.2.2⟩))) (fun h => h.elim (fun h => (Or.inr (Or.inr (Or.inl ⟨h.1, h.2.1, h.2.2⟩)))) (fun h => h.elim (fun h => (Or.inr (Or.inr (Or.inr (Or.inl ⟨h.1, h.2.1, h.2.2⟩))))) (fun h => h.elim (fun h => (Or.inr (Or.inr (Or.inr (Or.inr (Or.inl ⟨h.1, h.2.1, h.2.2⟩)))))) (fun h => h.elim (fun h => (Or.inr (Or.inr (Or.inr (Or.inr (Or.inr (Or.inl ⟨h.1, h.2.1, h.2.2⟩))))))) (fun h => h.elim))))))))
              refine w_goto (tgt := 112) dX11_least_92 (by decide) ?_
              refine w_istore (ls' := [(6, vI r62_), (5, vR (9, 0, j25_)), (0, vR (11, 0, 0)), (1, vI v), (2, vI u), (3, vI t), (4, vI s)]) dX11_least_112 (by decide) rfl ?_
              refine w_iload dX11_least_114 0 rfl ?_
              refine w_if_ne (tgt := 127) dX11_least_116 (by decide) (rfl : r62_.toInt = r62_.toInt) (fun h70_ => ?_) (fun h70_ => ?_)
              · refine w_iload dX11_least_127 0 rfl ?_
                exact w_iret rfl dX11_least_129 ⟨hI66_, hF68_, trivial, (Or.inl ⟨hs5_, h4_, (Or.inl ⟨hs11_, h10_, (Or.inl ⟨hs17_, h16_, (Or.inl ⟨hs23_, h22_, j25_, h26_, h27_, r28_, hs32_, h31_, (Or.inl ⟨h33_, (Or.inr ⟨h34_, r57_, hs61_, h60_, M63_, hI66_, hF67_, r62_, hs69_, (Or.inl ⟨h70_, rfl, rfl⟩)⟩)⟩)⟩)⟩)⟩)⟩)⟩
              · refine w_aload_n dX11_least_119 rfl 2 rfl ?_
                refine w_iconst (v := 2) dX11_least_120 (by decide) ?_
                refine w_callV (as := [vI 2]) (rest := []) (c_X11_error l G cy ad (d + 3) 2 M63_ hI66_) kV_X11_error pnn_0 (Nat.le_of_ble_eq_true rfl) m_500 rfl rfl rfl ic_11 rfl rfl (by decide) (Nat.le_of_ble_eq_true rfl) dX11_least_121 (fun r71_ M72_ q73_ => ?_)
                obtain ⟨hI75_, hF76_, h74_, hs78_⟩ := q73_
                have hF77_ := hF68_.tr hF76_ (fun c k => (fun h => h.elim (fun h => (Or.inr (Or.inr (Or.inr (Or.inr (Or.inr (Or.inr (Or.inl ⟨h.1, h.2⟩)))))))) (fun h => h.elim)))
                refine w_goto (tgt := 129) dX11_least_124 (by decide) ?_
                exact w_iret rfl dX11_least_129 ⟨hI75_, hF77_, trivial, (Or.inl ⟨hs5_, h4_, (Or.inl ⟨hs11_, h10_, (Or.inl ⟨hs17_, h16_, (Or.inl ⟨hs23_, h22_, j25_, h26_, h27_, r28_, hs32_, h31_, (Or.inl ⟨h33_, (Or.inr ⟨h34_, r57_, hs61_, h60_, M63_, hI66_, hF67_, r62_, hs69_, (Or.inr ⟨h70_, M72_, hI75_, hF76_, r71_, hs78_, rfl, rfl⟩)⟩)⟩)⟩)⟩)⟩)⟩)⟩
          · refine w_aload_n dX11_least_64 rfl 1 rfl ?_
            refine w_iconst (v := 2) dX11_least_65 (by decide) ?_
            refine w_callV (as := [vI 2]) (rest := []) (c_X11_error l G cy ad (d + 3) 2 Mz hIz) kV_X11_error pnn_0 (Nat.le_of_ble_eq_true rfl) m_500 rfl rfl rfl ic_11 rfl rfl (by decide) (Nat.le_of_ble_eq_true rfl) dX11_least_66 (fun r79_ M80_ q81_ => ?_)
            obtain ⟨hI83_, hF84_, h82_, hs86_⟩ := q81_
            have hF85_ := hFz.tr hF84_ (fun c k => (fun h => h.elim (fun h => (Or.inr (Or.inr (Or.inr (Or.inr (Or.inr (Or.inr (Or.inl ⟨h.1, h.2⟩)))))))) (fun h => h.elim)))
            exact w_iret rfl dX11_least_69 ⟨hI83_, hF85_, trivial, (Or.inl ⟨hs5_, h4_, (Or.inl ⟨hs11_, h10_, (Or.inl ⟨hs17_, h16_, (Or.inl ⟨hs23_, h22_, j25_, h26_, h27_, r28_, hs32_, h31_, (Or.inr ⟨h33_, M80_, hI83_, hF84_, r79_, hs86_, rfl, rfl⟩)⟩)⟩)⟩)⟩)⟩
        · simp only [li_0, li_1] at h22_
          refine w_if_ne (tgt := 44) dX11_least_35 (by decide) li_0 (fun h9 => (absurd h9 (by decide))) (fun h87_ => ?_)
          refine w_aload_n dX11_least_38 rfl 0 rfl ?_
          refine w_iconst (v := 1) dX11_least_39 (by decide) ?_
          refine w_callV (as := [vI 1]) (rest := []) (c_X11_error l G cy ad (d + 3) 1 Mz hIz) kV_X11_error pnn_0 (Nat.le_of_ble_eq_true rfl) m_500 rfl rfl rfl ic_11 rfl rfl (by decide) (Nat.le_of_ble_eq_true rfl) dX11_least_40 (fun r88_ M89_ q90_ => ?_)
          obtain ⟨hI92_, hF93_, h91_, hs95_⟩ := q90_
          have hF94_ := hFz.tr hF93_ (fun c k => (fun h => h.elim (fun h => (Or.inr (Or.inr (Or.inr (Or.inr (Or.inr (Or.inr (Or.inl ⟨h.1, h.2⟩)))))))) (fun h => h.elim)))
          exact w_iret rfl dX11_least_43 ⟨hI92_, hF94_, trivial, (Or.inl ⟨hs5_, h4_, (Or.inl ⟨hs11_, h10_, (Or.inl ⟨hs17_, h16_, (Or.inr ⟨hs23_, h22_, M89_, hI92_, hF93_, r88_, hs95_, rfl, rfl⟩)⟩)⟩)⟩)⟩
      · simp only [li_1, li_15] at h16_
        refine w_if_eq (tgt := 38) dX11_least_25 (by decide) li_0 (fun h96_ => ?_) (fun h9 => (absurd h9 (by decide)))
        refine w_aload_n dX11_least_38 rfl 0 rfl ?_
        refine w_iconst (v := 1) dX11_least_39 (by decide) ?_
        refine w_callV (as := [vI 1]) (rest := []) (c_X11_error l G cy ad (d + 3) 1 Mz hIz) kV_X11_error pnn_0 (Nat.le_of_ble_eq_true rfl) m_500 rfl rfl rfl ic_11 rfl rfl (by decide) (Nat.le_of_ble_eq_true rfl) dX11_least_40 (fun r97_ M98_ q99_ => ?_)
        obtain ⟨hI101_, hF102_, h100_, hs104_⟩ := q99_
        have hF103_ := hFz.tr hF102_ (fun c k => (fun h => h.elim (fun h => (Or.inr (Or.inr (Or.inr (Or.inr (Or.inr (Or.inr (Or.inl ⟨h.1, h.2⟩)))))))) (fun h => h.elim)))
        exact w_iret rfl dX11_least_43 ⟨hI101_, hF103_, trivial, (Or.inl ⟨hs5_, h4_, (Or.inl ⟨hs11_, h10_, (Or.inr ⟨hs17_, h16_, M98_, hI101_, hF102_, r97_, hs104_, rfl, rfl⟩)⟩)⟩)⟩
    · refine w_if_eq (tgt := 38) dX11_least_15 (by decide) li_0 (fun h105_ => ?_) (fun h9 => (absurd h9 (by decide)))
      refine w_aload_n dX11_least_38 rfl 0 rfl ?_
      refine w_iconst (v := 1) dX11_least_39 (by decide) ?_
      refine w_callV (as := [vI 1]) (rest := []) (c_X11_error l G cy ad (d + 3) 1 Mz hIz) kV_X11_error pnn_0 (Nat.le_of_ble_eq_true rfl) m_500 rfl rfl rfl ic_11 rfl rfl (by decide) (Nat.le_of_ble_eq_true rfl) dX11_least_40 (fun r106_ M107_ q108_ => ?_)
      obtain ⟨hI110_, hF111_, h109_, hs113_⟩ := q108_
      have hF112_ := hFz.tr hF111_ (fun c k => (fun h => h.elim (fun h => (Or.inr (Or.inr (Or.inr (Or.inr (Or.inr (Or.inr (Or.inl ⟨h.1, h.2⟩)))))))) (fun h => h.elim)))
      exact w_iret rfl dX11_least_43 ⟨hI110_, hF112_, trivial, (Or.inl ⟨hs5_, h4_, (Or.inr ⟨hs11_, h10_, M107_, hI110_, hF111_, r106_, hs113_, rfl, rfl⟩)⟩)⟩
  · refine w_if_eq (tgt := 38) dX11_least_8 (by decide) li_0 (fun h114_ => ?_) (fun h9 => (absurd h9 (by decide)))
    refine w_aload_n dX11_least_38 rfl 0 rfl ?_
    refine w_iconst (v := 1) dX11_least_39 (by decide) ?_
    refine w_callV (as := [vI 1]) (rest := []) (c_X11_error l G cy ad (d + 3) 1 Mz hIz) kV_X11_error pnn_0 (Nat.le_of_ble_eq_true rfl) m_500 rfl rfl rfl ic_11 rfl rfl (by decide) (Nat.le_of_ble_eq_true rfl) dX11_least_40 (fun r115_ M116_ q117_ => ?_)
    obtain ⟨hI119_, hF120_, h118_, hs122_⟩ := q117_
    have hF121_ := hFz.tr hF120_ (fun c k => (fun h => h.elim (fun h => (Or.inr (Or.inr (Or.inr (Or.inr (Or.inr (Or.inr (Or.inl ⟨h.1, h.2⟩)))))))) (fun h => h.elim)))
    exact w_iret rfl dX11_least_43 ⟨hI119_, hF121_, trivial, (Or.inr ⟨hs5_, M116_, hI119_, hF120_, r115_, hs122_, rfl, rfl⟩)⟩
def S_c_X11_goes : rf → Nat → Prop := fun c k => (c.1 = 9 ∧ c.2.1 = 0 ∧ k = 6) ∨ (c.1 = 44 ∧ c.2.1 = 0) ∨ False
def SP_X11_goes (v : Int32) (u : Int32) (Mz : mM) (r_ : Int32) (M_ : mM) : Prop := (((SP_X10_hasWalker 0 v Mz (1 : Int32)) ∧ (0 ≤ v.toInt ∧ v.toInt ≤ 7) ∧ ∃ j7_ : Nat, ((j7_ : Int) = v.toInt) ∧ (j7_ < 8) ∧ ∃ z10_ : Int32, (z10_ = Mz.1 (9, 0, j7_) 6) ∧ (0 ≤ z10_.toInt ∧ z10_.toInt ≤ 1) ∧ ∃ j13_ : Nat, ((j13_ : Int) = v.toInt) ∧ (j13_ < 8) ∧ ∃ M16_ : mM, (M16_ = up Mz (9, 0, j13_) 6 u) ∧ (((z10_.toInt = 0) ∧ r_ = 0 ∧ M_ = M16_) ∨ ((¬ z10_.toInt = 0) ∧ r_ = 1 ∧ M_ = M16_))) ∨ ((SP_X10_hasWalker 0 v Mz (0 : Int32)) ∧ ∃ M23_ : mM, (Inv M23_) ∧ (FR (S_c_X11_error) Mz M23_) ∧ ∃ r22_ : Int32, (SP_X11_error 1 Mz r22_ M23_) ∧ r_ = r22_ ∧ M_ = M23_))
set_option maxHeartbeats 4000000 in
set_option maxRecDepth 100000 in
theorem c_X11_goes (l : Launch) (G : va_G) (cy : Nat → ClassId) (ad : rf → Nat) (d : Nat) (v : Int32) (u : Int32) (Mz : mM) (hIz : Inv Mz) (hu : 0 ≤ u.toInt ∧ u.toInt ≤ 1) : WP CC l G cy ad yX11_goes cX11_goes 4 (some .int) (d + 1) 0 [(0, vR (11, 0, 0)), (1, vI v), (2, vI u)] [] Mz (fun r M' => Inv M' ∧ FR (S_c_X11_goes) Mz M' ∧ (True) ∧ SP_X11_goes v u Mz r M') := by
  have hFz : FR (S_c_X11_goes) Mz Mz := FR.self
  refine w_aload_n dX11_goes_0 rfl 0 rfl ?_
  refine w_getR (c' := (10, 0, 0)) fl_RX11_10 rfl rfl ic_11 dX11_goes_1 rfl ?_
  refine w_iload_n dX11_goes_4 rfl 1 rfl ?_
  refine w_callV (as := [vI v]) (rest := []) (c_X10_hasWalker l G cy ad d 0 v Mz hIz (by first | decide | (unfold vF; omega) | (unfold vRw; omega))) kV_X10_hasWalker pnn_7 (Nat.le_of_ble_eq_true rfl) m_609 rfl rfl rfl (ic_10 (by decide)) rfl rfl (by decide) (Nat.le_of_ble_eq_true rfl) dX11_goes_5 (fun r1_ M2_ q3_ => ?_)
  obtain ⟨rfl, h4_, hs5_⟩ := q3_
  rcases h4_ with ⟨rfl, h4_⟩ | rfl
  · refine w_if_ne (tgt := 17) dX11_goes_8 (by decide) li_1 (fun h6_ => ?_) (fun h9 => (absurd h9 (by decide)))
    refine w_aload_n dX11_goes_17 rfl 0 rfl ?_
    refine w_getR (c' := (10, 0, 0)) fl_RX11_10 rfl rfl ic_11 dX11_goes_18 rfl ?_
    refine w_getR (c' := (42, 0, 0)) fl_RX11_157 rfl rfl (ic_10 (by decide)) dX11_goes_21 rfl ?_
    refine w_iload_n dX11_goes_24 rfl 1 rfl ?_
    refine w_aald rfl rfl rfl (fun _ => rfl) (ic_42 (by decide)) (rfl : v.toInt = v.toInt) (lf_c_X7_cellFrom_2 v h4_ ) dX11_goes_25 (fun j7_ h8_ h9_ => ?_)
    refine w_getI fl_RX11_188 rfl rfl (ic_9 (by decide) h9_) dX11_goes_26 (fun z10_ e11_ => ?_)
    have h12_ : 0 ≤ z10_.toInt ∧ z10_.toInt ≤ 1 := ofEq (P := fun v => 0 ≤ v.toInt ∧ v.toInt ≤ 1) e11_ (hIz (9, 0, j7_) 6 rfl)
    refine w_istore_n (ls' := [(3, vI z10_), (0, vR (11, 0, 0)), (1, vI v), (2, vI u)]) dX11_goes_29 rfl (by decide) rfl ?_
    refine w_aload_n dX11_goes_30 rfl 1 rfl ?_
    refine w_getR (c' := (10, 0, 0)) fl_RX11_10 rfl rfl ic_11 dX11_goes_31 rfl ?_
    refine w_getR (c' := (42, 0, 0)) fl_RX11_157 rfl rfl (ic_10 (by decide)) dX11_goes_34 rfl ?_
    refine w_iload_n dX11_goes_37 rfl 2 rfl ?_
    refine w_aald rfl rfl rfl (fun _ => rfl) (ic_42 (by decide)) (rfl : v.toInt = v.toInt) (lf_c_X7_cellFrom_2 v h4_ ) dX11_goes_38 (fun j13_ h14_ h15_ => ?_)
    refine w_iload_n dX11_goes_39 rfl 3 rfl ?_
    refine w_putZ CC_nd fl_RX11_188 rfl rfl (ic_9 (by decide) h15_) hu dX11_goes_40 (fun M16_ hM17_ => ?_)
    have hI18_ := hIz.put hM17_ (fun _ => hu)
    have hF19_ := hFz.put hM17_ (Or.inl ⟨rfl, rfl, rfl⟩)
    refine w_iload_n dX11_goes_43 rfl 0 rfl ?_
    refine w_if_eq (tgt := 51) dX11_goes_44 (by decide) (rfl : z10_.toInt = z10_.toInt) (fun h20_ => ?_) (fun h20_ => ?_)
    · refine w_iconst (v := 0) dX11_goes_51 (by decide) ?_
      exact w_iret rfl dX11_goes_52 ⟨hI18_, hF19_, trivial, (Or.inl ⟨hs5_, h4_, j7_, h8_, h9_, z10_, e11_, h12_, j13_, h14_, h15_, M16_, hM17_, (Or.inl ⟨h20_, rfl, rfl⟩)⟩)⟩
    · refine w_iconst (v := 1) dX11_goes_47 (by decide) ?_
      refine w_goto (tgt := 52) dX11_goes_48 (by decide) ?_
      exact w_iret rfl dX11_goes_52 ⟨hI18_, hF19_, trivial, (Or.inl ⟨hs5_, h4_, j7_, h8_, h9_, z10_, e11_, h12_, j13_, h14_, h15_, M16_, hM17_, (Or.inr ⟨h20_, rfl, rfl⟩)⟩)⟩
  · refine w_if_ne (tgt := 17) dX11_goes_8 (by decide) li_0 (fun h9 => (absurd h9 (by decide))) (fun h21_ => ?_)
    refine w_aload_n dX11_goes_11 rfl 0 rfl ?_
    refine w_iconst (v := 1) dX11_goes_12 (by decide) ?_
    refine w_callV (as := [vI 1]) (rest := []) (c_X11_error l G cy ad d 1 Mz hIz) kV_X11_error pnn_0 (Nat.le_of_ble_eq_true rfl) m_500 rfl rfl rfl ic_11 rfl rfl (by decide) (Nat.le_of_ble_eq_true rfl) dX11_goes_13 (fun r22_ M23_ q24_ => ?_)
    obtain ⟨hI26_, hF27_, h25_, hs29_⟩ := q24_
    have hF28_ := hFz.tr hF27_ (fun c k => (fun h => h.elim (fun h => (Or.inr (Or.inl ⟨h.1, h.2⟩))) (fun h => h.elim)))
    exact w_iret rfl dX11_goes_16 ⟨hI26_, hF28_, trivial, (Or.inr ⟨hs5_, M23_, hI26_, hF27_, r22_, hs29_, rfl, rfl⟩)⟩
def S_c_X11_echo : rf → Nat → Prop := fun c k => (c.1 = 44 ∧ c.2.1 = 0) ∨ (c.1 = 29 ∧ c.2.1 = 0 ∧ k = 0) ∨ (c.1 = 29 ∧ c.2.1 = 0 ∧ k = 1) ∨ (c.1 = 29 ∧ c.2.1 = 0 ∧ k = 2) ∨ (c.1 = 29 ∧ c.2.1 = 0 ∧ k = 3) ∨ (c.1 = 25 ∧ c.2.1 = 0 ∧ c.2.2 = 0) ∨ (c.1 = 25 ∧ c.2.1 = 0 ∧ c.2.2 = 1) ∨ False
def SP_X11_echo (v : Int32) (u : Int32) (t : Int32) (s : Int32) (Mz : mM) (r_ : Int32) (M_ : mM) : Prop := (((SP_X10_hasWalker 0 v Mz (1 : Int32)) ∧ (0 ≤ v.toInt ∧ v.toInt ≤ 7) ∧ ∃ r7_ : Int32, (SP_X2_isClick_ u Mz r7_) ∧ ((0 ≤ r7_.toInt ∧ r7_.toInt ≤ 1)) ∧ (((r7_.toInt = 0) ∧ ∃ M14_ : mM, (Inv M14_) ∧ (FR (S_c_X11_error) Mz M14_) ∧ ∃ r13_ : Int32, (SP_X11_error 1 Mz r13_ M14_) ∧ r_ = r13_ ∧ M_ = M14_) ∨ ((¬ r7_.toInt = 0) ∧ (((SP_X7_isSide t Mz (1 : Int32)) ∧ (0 ≤ t.toInt ∧ t.toInt ≤ 7) ∧ (((SP_X11_within s 0 5 Mz (1 : Int32)) ∧ (0 ≤ s.toInt ∧ s.toInt ≤ 5) ∧ ∃ j33_ : Nat, ((j33_ : Int) = v.toInt) ∧ (j33_ < 8) ∧ ∃ z36_ : Int32, (z36_ = Mz.1 (9, 0, j33_) 1) ∧ ∃ r38_ : Int32, (SP_X10_echoYards 0 v z36_ t Mz r38_) ∧ (0 ≤ r38_.toInt ∧ r38_.toInt ≤ 12) ∧ (((¬ r38_.toInt = 0) ∧ ∃ M45_ : mM, (Inv M45_) ∧ (FR (S_c_X10_echoFact 0) Mz M45_) ∧ ∃ r44_ : Int32, (SP_X10_echoFact 0 v u t s Mz r44_ M45_) ∧ r_ = r44_ ∧ M_ = M45_) ∨ ((r38_.toInt = 0) ∧ ∃ M53_ : mM, (Inv M53_) ∧ (FR (S_c_X11_error) Mz M53_) ∧ ∃ r52_ : Int32, (SP_X11_error 2 Mz r52_ M53_) ∧ r_ = r52_ ∧ M_ = M53_))) ∨ ((SP_X11_within s 0 5 Mz (0 : Int32)) ∧ (¬ (0 ≤ s.toInt ∧ s.toInt ≤ 5)) ∧ ∃ M62_ : mM, (Inv M62_) ∧ (FR (S_c_X11_error) Mz M62_) ∧ ∃ r61_ : Int32, (SP_X11_error 1 Mz r61_ M62_) ∧ r_ = r61_ ∧ M_ = M62_))) ∨ ((SP_X7_isSide t Mz (0 : Int32)) ∧ (¬ (0 ≤ t.toInt ∧ t.toInt ≤ 7)) ∧ ∃ M71_ : mM, (Inv M71_) ∧ (FR (S_c_X11_error) Mz M71_) ∧ ∃ r70_ : Int32, (SP_X11_error 1 Mz r70_ M71_) ∧ r_ = r70_ ∧ M_ = M71_))))) ∨ ((SP_X10_hasWalker 0 v Mz (0 : Int32)) ∧ ∃ M80_ : mM, (Inv M80_) ∧ (FR (S_c_X11_error) Mz M80_) ∧ ∃ r79_ : Int32, (SP_X11_error 1 Mz r79_ M80_) ∧ r_ = r79_ ∧ M_ = M80_))
set_option maxHeartbeats 4000000 in
set_option maxRecDepth 100000 in
theorem c_X11_echo (l : Launch) (G : va_G) (cy : Nat → ClassId) (ad : rf → Nat) (d : Nat) (v : Int32) (u : Int32) (t : Int32) (s : Int32) (Mz : mM) (hIz : Inv Mz) : WP CC l G cy ad yX11_echo cX11_echo 5 (some .int) (d + 4) 0 [(0, vR (11, 0, 0)), (1, vI v), (2, vI u), (3, vI t), (4, vI s)] [] Mz (fun r M' => Inv M' ∧ FR (S_c_X11_echo) Mz M' ∧ (True) ∧ SP_X11_echo v u t s Mz r M') := by
  have hFz : FR (S_c_X11_echo) Mz Mz := FR.self
  refine w_aload_n dX11_echo_0 rfl 0 rfl ?_
  refine w_getR (c' := (10, 0, 0)) fl_RX11_10 rfl rfl ic_11 dX11_echo_1 rfl ?_
  refine w_iload_n dX11_echo_4 rfl 1 rfl ?_
  refine w_callV (as := [vI v]) (rest := []) (c_X10_hasWalker l G cy ad (d + 3) 0 v Mz hIz (by first | decide | (unfold vF; omega) | (unfold vRw; omega))) kV_X10_hasWalker pnn_7 (Nat.le_of_ble_eq_true rfl) m_609 rfl rfl rfl (ic_10 (by decide)) rfl rfl (by decide) (Nat.le_of_ble_eq_true rfl) dX11_echo_5 (fun r1_ M2_ q3_ => ?_)
  obtain ⟨rfl, h4_, hs5_⟩ := q3_
  rcases h4_ with ⟨rfl, h4_⟩ | rfl
  · refine w_if_eq (tgt := 35) dX11_echo_8 (by decide) li_1 (fun h9 => (absurd h9 (by decide))) (fun h6_ => ?_)
    refine w_iload_n dX11_echo_11 rfl 2 rfl ?_
    refine w_callS (as := [vI u]) (rest := []) (c_X2_isClick_ l G cy ad (d + 1) u Mz hIz) kS_X2_isClick_ pnn_5 (Nat.le_of_ble_eq_true rfl) m_839 rfl rfl (by decide) (Nat.le_of_ble_eq_true rfl) dX11_echo_12 (fun r7_ M8_ q9_ => ?_)
    obtain ⟨rfl, h10_, hs11_⟩ := q9_
    refine w_if_eq (tgt := 35) dX11_echo_15 (by decide) (rfl : r7_.toInt = r7_.toInt) (fun h12_ => ?_) (fun h12_ => ?_)
    · refine w_aload_n dX11_echo_35 rfl 0 rfl ?_
      refine w_iconst (v := 1) dX11_echo_36 (by decide) ?_
      refine w_callV (as := [vI 1]) (rest := []) (c_X11_error l G cy ad (d + 3) 1 Mz hIz) kV_X11_error pnn_0 (Nat.le_of_ble_eq_true rfl) m_500 rfl rfl rfl ic_11 rfl rfl (by decide) (Nat.le_of_ble_eq_true rfl) dX11_echo_37 (fun r13_ M14_ q15_ => ?_)
      obtain ⟨hI17_, hF18_, h16_, hs20_⟩ := q15_
      have hF19_ := hFz.tr hF18_ (fun c k => (fun h => h.elim (fun h => (Or.inl ⟨h.1, h.2⟩)) (fun h => h.elim)))
      exact w_iret rfl dX11_echo_40 ⟨hI17_, hF19_, trivial, (Or.inl ⟨hs5_, h4_, r7_, hs11_, h10_, (Or.inl ⟨h12_, M14_, hI17_, hF18_, r13_, hs20_, rfl, rfl⟩)⟩)⟩
    · refine w_iload_n dX11_echo_18 rfl 3 rfl ?_
      refine w_callS (as := [vI t]) (rest := []) (c_X7_isSide l G cy ad (d + 3) t Mz hIz) kS_X7_isSide pnn_1 (Nat.le_of_ble_eq_true rfl) m_539 rfl rfl (by decide) (Nat.le_of_ble_eq_true rfl) dX11_echo_19 (fun r21_ M22_ q23_ => ?_)
      obtain ⟨rfl, h24_, hs25_⟩ := q23_
      rcases h24_ with ⟨rfl, h24_⟩ | ⟨rfl, h24_⟩
      · refine w_if_eq (tgt := 35) dX11_echo_22 (by decide) li_1 (fun h9 => (absurd h9 (by decide))) (fun h26_ => ?_)
        refine w_iload dX11_echo_25 4 rfl ?_
        refine w_iconst (v := 0) dX11_echo_27 (by decide) ?_
        refine w_iconst (v := 5) dX11_echo_28 (by decide) ?_
        refine w_callS (as := [vI s, vI 0, vI 5]) (rest := []) (c_X11_within l G cy ad (d + 3) s 0 5 Mz hIz) kS_X11_within pnn_0 (Nat.le_of_ble_eq_true rfl) m_494 rfl rfl (by decide) (Nat.le_of_ble_eq_true rfl) dX11_echo_29 (fun r27_ M28_ q29_ => ?_)
        obtain ⟨rfl, h30_, hs31_⟩ := q29_
        rcases h30_ with ⟨rfl, h30_⟩ | ⟨rfl, h30_⟩
        · simp only [li_0, li_5] at h30_
          refine w_if_ne (tgt := 41) dX11_echo_32 (by decide) li_1 (fun h32_ => ?_) (fun h9 => (absurd h9 (by decide)))
          refine w_aload_n dX11_echo_41 rfl 0 rfl ?_
          refine w_getR (c' := (10, 0, 0)) fl_RX11_10 rfl rfl ic_11 dX11_echo_42 rfl ?_
          refine w_iload_n dX11_echo_45 rfl 1 rfl ?_
          refine w_aload_n dX11_echo_46 rfl 0 rfl ?_
          refine w_getR (c' := (10, 0, 0)) fl_RX11_10 rfl rfl ic_11 dX11_echo_47 rfl ?_
          refine w_getR (c' := (42, 0, 0)) fl_RX11_157 rfl rfl (ic_10 (by decide)) dX11_echo_50 rfl ?_
          refine w_iload_n dX11_echo_53 rfl 1 rfl ?_
          refine w_aald rfl rfl rfl (fun _ => rfl) (ic_42 (by decide)) (rfl : v.toInt = v.toInt) (lf_c_X7_cellFrom_2 v h4_ ) dX11_echo_54 (fun j33_ h34_ h35_ => ?_)
          refine w_getI fl_RX11_229 rfl rfl (ic_9 (by decide) h35_) dX11_echo_55 (fun z36_ e37_ => ?_)
          refine w_iload_n dX11_echo_58 rfl 3 rfl ?_
          refine w_callV (as := [vI v, vI z36_, vI t]) (rest := []) (c_X10_echoYards l G cy ad (d + 1) 0 v z36_ t Mz hIz (by first | decide | (unfold vF; omega) | (unfold vRw; omega))) kV_X10_echoYards pnn_7 (Nat.le_of_ble_eq_true rfl) m_843 rfl rfl rfl (ic_10 (by decide)) rfl rfl (by decide) (Nat.le_of_ble_eq_true rfl) dX11_echo_59 (fun r38_ M39_ q40_ => ?_)
          obtain ⟨rfl, h41_, hs42_⟩ := q40_
          refine w_if_ne (tgt := 71) dX11_echo_62 (by decide) (rfl : r38_.toInt = r38_.toInt) (fun h43_ => ?_) (fun h43_ => ?_)
          · refine w_aload_n dX11_echo_71 rfl 0 rfl ?_
            refine w_getR (c' := (10, 0, 0)) fl_RX11_10 rfl rfl ic_11 dX11_echo_72 rfl ?_
            refine w_iload_n dX11_echo_75 rfl 1 rfl ?_
            refine w_iload_n dX11_echo_76 rfl 2 rfl ?_
            refine w_iload_n dX11_echo_77 rfl 3 rfl ?_
            refine w_iload dX11_echo_78 4 rfl ?_
            refine w_callV (as := [vI v, vI u, vI t, vI s]) (rest := []) (c_X10_echoFact l G cy ad d 0 v u t s Mz hIz (by first | decide | (unfold vF; omega) | (unfold vRw; omega))) kV_X10_echoFact pnn_7 (Nat.le_of_ble_eq_true rfl) m_861 rfl rfl rfl (ic_10 (by decide)) rfl rfl (by decide) (Nat.le_of_ble_eq_true rfl) dX11_echo_80 (fun r44_ M45_ q46_ => ?_)
            obtain ⟨hI48_, hF49_, h47_, hs51_⟩ := q46_
            have hF50_ := hFz.tr hF49_ (fun c k => (fun h => h.elim (fun h => (Or.inr (Or.inl ⟨h.1, h.2.1, h.2.2⟩))) (fun h => h.elim (fun h => (Or.inr (Or.inr (Or.inl ⟨h.1, h.2.1, h.2.2⟩)))) (fun h => h.elim (fun h => (Or.inr (Or.inr (Or.inr (Or.inl ⟨h.1, h.2.1, h.2.2⟩))))) (fun h => h.elim (fun h => (Or.inr (Or.inr (Or.inr (Or.inr (Or.inl ⟨h.1, h.2.1, h.2.2⟩)))))) (fun h => h.elim (fun h => (Or.inr (Or.inr (Or.inr (Or.inr (Or.inr (Or.inl ⟨h.1, h.2.1, h.2.2⟩))))))) (fun h => h.elim (fun h => (Or.inr (Or.inr (Or.inr (Or.inr (Or.inr (Or.inr (Or.inl ⟨h.1, h.2.1, h.2.2⟩)))))))) (fun h => h.elim))))))))
            exact w_iret rfl dX11_echo_83 ⟨hI48_, hF50_, trivial, (Or.inl ⟨hs5_, h4_, r7_, hs11_, h10_, (Or.inr ⟨h12_, (Or.inl ⟨hs25_, h24_, (Or.inl ⟨hs31_, h30_, j33_, h34_, h35_, z36_, e37_, r38_, hs42_, h41_, (Or.inl ⟨h43_, M45_, hI48_, hF49_, r44_, hs51_, rfl, rfl⟩)⟩)⟩)⟩)⟩)⟩
          · refine w_aload_n dX11_echo_65 rfl 0 rfl ?_
            refine w_iconst (v := 2) dX11_echo_66 (by decide) ?_
            refine w_callV (as := [vI 2]) (rest := []) (c_X11_error l G cy ad (d + 3) 2 Mz hIz) kV_X11_error pnn_0 (Nat.le_of_ble_eq_true rfl) m_500 rfl rfl rfl ic_11 rfl rfl (by decide) (Nat.le_of_ble_eq_true rfl) dX11_echo_67 (fun r52_ M53_ q54_ => ?_)
            obtain ⟨hI56_, hF57_, h55_, hs59_⟩ := q54_
            have hF58_ := hFz.tr hF57_ (fun c k => (fun h => h.elim (fun h => (Or.inl ⟨h.1, h.2⟩)) (fun h => h.elim)))
            exact w_iret rfl dX11_echo_70 ⟨hI56_, hF58_, trivial, (Or.inl ⟨hs5_, h4_, r7_, hs11_, h10_, (Or.inr ⟨h12_, (Or.inl ⟨hs25_, h24_, (Or.inl ⟨hs31_, h30_, j33_, h34_, h35_, z36_, e37_, r38_, hs42_, h41_, (Or.inr ⟨h43_, M53_, hI56_, hF57_, r52_, hs59_, rfl, rfl⟩)⟩)⟩)⟩)⟩)⟩
        · simp only [li_0, li_5] at h30_
          refine w_if_ne (tgt := 41) dX11_echo_32 (by decide) li_0 (fun h9 => (absurd h9 (by decide))) (fun h60_ => ?_)
          refine w_aload_n dX11_echo_35 rfl 0 rfl ?_
          refine w_iconst (v := 1) dX11_echo_36 (by decide) ?_
          refine w_callV (as := [vI 1]) (rest := []) (c_X11_error l G cy ad (d + 3) 1 Mz hIz) kV_X11_error pnn_0 (Nat.le_of_ble_eq_true rfl) m_500 rfl rfl rfl ic_11 rfl rfl (by decide) (Nat.le_of_ble_eq_true rfl) dX11_echo_37 (fun r61_ M62_ q63_ => ?_)
          obtain ⟨hI65_, hF66_, h64_, hs68_⟩ := q63_
          have hF67_ := hFz.tr hF66_ (fun c k => (fun h => h.elim (fun h => (Or.inl ⟨h.1, h.2⟩)) (fun h => h.elim)))
          exact w_iret rfl dX11_echo_40 ⟨hI65_, hF67_, trivial, (Or.inl ⟨hs5_, h4_, r7_, hs11_, h10_, (Or.inr ⟨h12_, (Or.inl ⟨hs25_, h24_, (Or.inr ⟨hs31_, h30_, M62_, hI65_, hF66_, r61_, hs68_, rfl, rfl⟩)⟩)⟩)⟩)⟩
      · refine w_if_eq (tgt := 35) dX11_echo_22 (by decide) li_0 (fun h69_ => ?_) (fun h9 => (absurd h9 (by decide)))
        refine w_aload_n dX11_echo_35 rfl 0 rfl ?_
        refine w_iconst (v := 1) dX11_echo_36 (by decide) ?_
        refine w_callV (as := [vI 1]) (rest := []) (c_X11_error l G cy ad (d + 3) 1 Mz hIz) kV_X11_error pnn_0 (Nat.le_of_ble_eq_true rfl) m_500 rfl rfl rfl ic_11 rfl rfl (by decide) (Nat.le_of_ble_eq_true rfl) dX11_echo_37 (fun r70_ M71_ q72_ => ?_)
        obtain ⟨hI74_, hF75_, h73_, hs77_⟩ := q72_
        have hF76_ := hFz.tr hF75_ (fun c k => (fun h => h.elim (fun h => (Or.inl ⟨h.1, h.2⟩)) (fun h => h.elim)))
        exact w_iret rfl dX11_echo_40 ⟨hI74_, hF76_, trivial, (Or.inl ⟨hs5_, h4_, r7_, hs11_, h10_, (Or.inr ⟨h12_, (Or.inr ⟨hs25_, h24_, M71_, hI74_, hF75_, r70_, hs77_, rfl, rfl⟩)⟩)⟩)⟩
  · refine w_if_eq (tgt := 35) dX11_echo_8 (by decide) li_0 (fun h78_ => ?_) (fun h9 => (absurd h9 (by decide)))
    refine w_aload_n dX11_echo_35 rfl 0 rfl ?_
    refine w_iconst (v := 1) dX11_echo_36 (by decide) ?_
    refine w_callV (as := [vI 1]) (rest := []) (c_X11_error l G cy ad (d + 3) 1 Mz hIz) kV_X11_error pnn_0 (Nat.le_of_ble_eq_true rfl) m_500 rfl rfl rfl ic_11 rfl rfl (by decide) (Nat.le_of_ble_eq_true rfl) dX11_echo_37 (fun r79_ M80_ q81_ => ?_)
    obtain ⟨hI83_, hF84_, h82_, hs86_⟩ := q81_
    have hF85_ := hFz.tr hF84_ (fun c k => (fun h => h.elim (fun h => (Or.inl ⟨h.1, h.2⟩)) (fun h => h.elim)))
    exact w_iret rfl dX11_echo_40 ⟨hI83_, hF85_, trivial, (Or.inr ⟨hs5_, M80_, hI83_, hF84_, r79_, hs86_, rfl, rfl⟩)⟩
def S_c_X11_farthest : rf → Nat → Prop := fun c k => (c.1 = 44 ∧ c.2.1 = 0) ∨ (c.1 = 29 ∧ c.2.1 = 0 ∧ k = 0) ∨ (c.1 = 29 ∧ c.2.1 = 0 ∧ k = 1) ∨ (c.1 = 29 ∧ c.2.1 = 0 ∧ k = 2) ∨ (c.1 = 29 ∧ c.2.1 = 0 ∧ k = 3) ∨ (c.1 = 25 ∧ c.2.1 = 0 ∧ c.2.2 = 0) ∨ (c.1 = 25 ∧ c.2.1 = 0 ∧ c.2.2 = 1) ∨ False
def ST_X11_farthest_49 (u : Int32) (t : Int32) (Mz : mM) (j19_ : Nat) (v5_49 : Int32) (M_49 : mM) (v5_49y : Int32) (M_49y : mM) : Prop := (Inv M_49) ∧ (FR (S_c_X11_farthest) Mz M_49) ∧ (1 ≤ v5_49.toInt) ∧ ∃ r37_ : Int32, (SP_X9_ears 0 j19_ M_49 r37_) ∧ (0 ≤ r37_.toInt ∧ r37_.toInt ≤ 9) ∧ ∃ M43_ : mM, (Inv M43_) ∧ (FR (S_c_X2_hears 0) M_49 M43_) ∧ ∃ r42_ : Int32, (SP_X2_hears 0 r37_ u t v5_49 0 M_49 r42_ M43_) ∧ ((0 ≤ r42_.toInt ∧ r42_.toInt ≤ 1)) ∧ (r42_.toInt = 0) ∧ ∃ z51_ : Int32, (z51_.toInt = v5_49.toInt + (-1)) ∧ v5_49y = z51_ ∧ M_49y = M43_
def SP_X11_farthest (v : Int32) (u : Int32) (t : Int32) (Mz : mM) (r_ : Int32) (M_ : mM) : Prop := (((SP_X10_hasWalker 0 v Mz (1 : Int32)) ∧ (0 ≤ v.toInt ∧ v.toInt ≤ 7) ∧ (((SP_X11_isThingKind u Mz (1 : Int32)) ∧ (0 ≤ u.toInt ∧ u.toInt ≤ 4) ∧ ∃ r13_ : Int32, (SP_X2_isClick_ t Mz r13_) ∧ ((0 ≤ r13_.toInt ∧ r13_.toInt ≤ 1)) ∧ (((¬ r13_.toInt = 0) ∧ ∃ j19_ : Nat, ((j19_ : Int) = v.toInt) ∧ (j19_ < 8) ∧ ∃ r22_ : Int32, (SP_X9_reach 0 j19_ Mz r22_) ∧ (0 ≤ r22_.toInt ∧ r22_.toInt ≤ 12) ∧ ∃ v5_49 : Int32, ∃ M_49 : mM, (RCH (fun x_ y_ => ST_X11_farthest_49 u t Mz j19_ x_.1 x_.2 y_.1 y_.2) (r22_, Mz) (v5_49, M_49)) ∧ (Inv M_49) ∧ (FR (S_c_X11_farthest) Mz M_49) ∧ (((v5_49.toInt < 1) ∧ ∃ M30_ : mM, (Inv M30_) ∧ (FR (S_c_X11_error) M_49 M30_) ∧ ∃ r29_ : Int32, (SP_X11_error 2 M_49 r29_ M30_) ∧ r_ = r29_ ∧ M_ = M30_) ∨ ((1 ≤ v5_49.toInt) ∧ ∃ r37_ : Int32, (SP_X9_ears 0 j19_ M_49 r37_) ∧ (0 ≤ r37_.toInt ∧ r37_.toInt ≤ 9) ∧ ∃ M43_ : mM, (Inv M43_) ∧ (FR (S_c_X2_hears 0) M_49 M43_) ∧ ∃ r42_ : Int32, (SP_X2_hears 0 r37_ u t v5_49 0 M_49 r42_ M43_) ∧ ((0 ≤ r42_.toInt ∧ r42_.toInt ≤ 1)) ∧ (¬ r42_.toInt = 0) ∧ r_ = v5_49 ∧ M_ = M43_))) ∨ ((r13_.toInt = 0) ∧ ∃ M54_ : mM, (Inv M54_) ∧ (FR (S_c_X11_error) Mz M54_) ∧ ∃ r53_ : Int32, (SP_X11_error 1 Mz r53_ M54_) ∧ r_ = r53_ ∧ M_ = M54_))) ∨ ((SP_X11_isThingKind u Mz (0 : Int32)) ∧ (¬ (0 ≤ u.toInt ∧ u.toInt ≤ 4)) ∧ ∃ M63_ : mM, (Inv M63_) ∧ (FR (S_c_X11_error) Mz M63_) ∧ ∃ r62_ : Int32, (SP_X11_error 1 Mz r62_ M63_) ∧ r_ = r62_ ∧ M_ = M63_))) ∨ ((SP_X10_hasWalker 0 v Mz (0 : Int32)) ∧ ∃ M72_ : mM, (Inv M72_) ∧ (FR (S_c_X11_error) Mz M72_) ∧ ∃ r71_ : Int32, (SP_X11_error 1 Mz r71_ M72_) ∧ r_ = r71_ ∧ M_ = M72_))
theorem lf_c_X11_farthest_1 (v5_49 : Int32) (h28_ : 1 ≤ v5_49.toInt) : -2147483648 ≤ v5_49.toInt + (-1) ∧ v5_49.toInt + (-1) < 2147483648 := by have r_v5_49 := rngI v5_49; omega
theorem lf_c_X11_farthest_2 (v5_49 : Int32) (z51_ : Int32) (h28_ : 1 ≤ v5_49.toInt) (h52_ : z51_.toInt = v5_49.toInt + (-1)) : (z51_.toInt).toNat < (v5_49.toInt).toNat := by omega
set_option maxHeartbeats 4000000 in
set_option maxRecDepth 100000 in
theorem c_X11_farthest (l : Launch) (G : va_G) (cy : Nat → ClassId) (ad : rf → Nat) (d : Nat) (v : Int32) (u : Int32) (t : Int32) (Mz : mM) (hIz : Inv Mz) : WP CC l G cy ad yX11_farthest cX11_farthest 6 (some .int) (d + 3) 0 [(0, vR (11, 0, 0)), (1, vI v), (2, vI u), (3, vI t)] [] Mz (fun r M' => Inv M' ∧ FR (S_c_X11_farthest) Mz M' ∧ (True) ∧ SP_X11_farthest v u t Mz r M') := by
  have hFz : FR (S_c_X11_farthest) Mz Mz := FR.self
  refine w_aload_n dX11_farthest_0 rfl 0 rfl ?_
  refine w_getR (c' := (10, 0, 0)) fl_RX11_10 rfl rfl ic_11 dX11_farthest_1 rfl ?_
  refine w_iload_n dX11_farthest_4 rfl 1 rfl ?_
  refine w_callV (as := [vI v]) (rest := []) (c_X10_hasWalker l G cy ad (d + 2) 0 v Mz hIz (by first | decide | (unfold vF; omega) | (unfold vRw; omega))) kV_X10_hasWalker pnn_7 (Nat.le_of_ble_eq_true rfl) m_609 rfl rfl rfl (ic_10 (by decide)) rfl rfl (by decide) (Nat.le_of_ble_eq_true rfl) dX11_farthest_5 (fun r1_ M2_ q3_ => ?_)
  obtain ⟨rfl, h4_, hs5_⟩ := q3_
  rcases h4_ with ⟨rfl, h4_⟩ | rfl
  · refine w_if_eq (tgt := 25) dX11_farthest_8 (by decide) li_1 (fun h9 => (absurd h9 (by decide))) (fun h6_ => ?_)
    refine w_iload_n dX11_farthest_11 rfl 2 rfl ?_
    refine w_callS (as := [vI u]) (rest := []) (c_X11_isThingKind l G cy ad (d + 1) u Mz hIz) kS_X11_isThingKind pnn_0 (Nat.le_of_ble_eq_true rfl) m_491 rfl rfl (by decide) (Nat.le_of_ble_eq_true rfl) dX11_farthest_12 (fun r7_ M8_ q9_ => ?_)
    obtain ⟨rfl, h10_, hs11_⟩ := q9_
    rcases h10_ with ⟨rfl, h10_⟩ | ⟨rfl, h10_⟩
    · refine w_if_eq (tgt := 25) dX11_farthest_15 (by decide) li_1 (fun h9 => (absurd h9 (by decide))) (fun h12_ => ?_)
      refine w_iload_n dX11_farthest_18 rfl 3 rfl ?_
      refine w_callS (as := [vI t]) (rest := []) (c_X2_isClick_ l G cy ad d t Mz hIz) kS_X2_isClick_ pnn_5 (Nat.le_of_ble_eq_true rfl) m_839 rfl rfl (by decide) (Nat.le_of_ble_eq_true rfl) dX11_farthest_19 (fun r13_ M14_ q15_ => ?_)
      obtain ⟨rfl, h16_, hs17_⟩ := q15_
      refine w_if_ne (tgt := 31) dX11_farthest_22 (by decide) (rfl : r13_.toInt = r13_.toInt) (fun h18_ => ?_) (fun h18_ => ?_)
      · refine w_aload_n dX11_farthest_31 rfl 0 rfl ?_
        refine w_getR (c' := (10, 0, 0)) fl_RX11_10 rfl rfl ic_11 dX11_farthest_32 rfl ?_
        refine w_getR (c' := (42, 0, 0)) fl_RX11_157 rfl rfl (ic_10 (by decide)) dX11_farthest_35 rfl ?_
        refine w_iload_n dX11_farthest_38 rfl 1 rfl ?_
        refine w_aald rfl rfl rfl (fun _ => rfl) (ic_42 (by decide)) (rfl : v.toInt = v.toInt) (lf_c_X7_cellFrom_2 v h4_ ) dX11_farthest_39 (fun j19_ h20_ h21_ => ?_)
        refine w_astore (ls' := [(4, vR (9, 0, j19_)), (0, vR (11, 0, 0)), (1, vI v), (2, vI u), (3, vI t)]) dX11_farthest_40 (by decide) rfl ?_
        refine w_aload dX11_farthest_42 0 rfl ?_
        refine w_callV (as := []) (rest := []) (c_X9_reach l G cy ad (d + 2) 0 j19_ Mz hIz (by first | decide | (unfold vF; omega) | (unfold vRw; omega)) h21_) kV_X9_reach pnn_3 (Nat.le_of_ble_eq_true rfl) m_648 rfl rfl rfl (ic_9 (by decide) h21_) rfl rfl (by decide) (Nat.le_of_ble_eq_true rfl) dX11_farthest_44 (fun r22_ M23_ q24_ => ?_)
        obtain ⟨rfl, h25_, hs26_⟩ := q24_
        refine w_istore (ls' := [(5, vI r22_), (4, vR (9, 0, j19_)), (0, vR (11, 0, 0)), (1, vI v), (2, vI u), (3, vI t)]) dX11_farthest_47 (by decide) rfl ?_
        have lp27_ : ∀ (nn_49 : Nat) (M_49 : mM) (hI_49 : Inv M_49) (hF_49 : FR (S_c_X11_farthest) Mz M_49) (v5_49 : Int32) (hL_49 : RCH (fun x_ y_ => ST_X11_farthest_49 u t Mz j19_ x_.1 x_.2 y_.1 y_.2) (r22_, Mz) (v5_49, M_49)), (v5_49.toInt).toNat < nn_49 → WP CC l G cy ad yX11_farthest cX11_farthest 6 (some .int) (d + 3) 49 [(5, vI v5_49), (4, vR (9, 0, j19_)), (0, vR (11, 0, 0)), (1, vI v), (2, vI u), (3, vI t)] [] M_49 (fun r M' => Inv M' ∧ FR (S_c_X11_farthest) Mz M' ∧ (True) ∧ SP_X11_farthest v u t Mz r M') := by
          intro nn_49
          induction nn_49 with
          | zero => intro M_49 hI_49 hF_49 v5_49 hL_49 hm_49; exact absurd hm_49 (Nat.not_lt_zero _)
          | succ nn_49 ih_49 =>
            intro M_49 hI_49 hF_49 v5_49 hL_49 hm_49
            refine w_iload dX11_farthest_49 0 rfl ?_
            refine w_iconst (v := 1) dX11_farthest_51 (by decide) ?_
            refine w_icmp_lt (tgt := 87) dX11_farthest_52 (by decide) (rfl : v5_49.toInt = v5_49.toInt) li_1 (fun h28_ => ?_) (fun h28_ => ?_)
            · refine w_aload_n dX11_farthest_87 rfl 2 rfl ?_
              refine w_iconst (v := 2) dX11_farthest_88 (by decide) ?_
              refine w_callV (as := [vI 2]) (rest := []) (c_X11_error l G cy ad (d + 2) 2 M_49 hI_49) kV_X11_error pnn_0 (Nat.le_of_ble_eq_true rfl) m_500 rfl rfl rfl ic_11 rfl rfl (by decide) (Nat.le_of_ble_eq_true rfl) dX11_farthest_89 (fun r29_ M30_ q31_ => ?_)
              obtain ⟨hI33_, hF34_, h32_, hs36_⟩ := q31_
              have hF35_ := hF_49.tr hF34_ (fun c k => (fun h => h.elim (fun h => (Or.inl ⟨h.1, h.2⟩)) (fun h => h.elim)))
              exact w_iret rfl dX11_farthest_92 ⟨hI33_, hF35_, trivial, (Or.inl ⟨hs5_, h4_, (Or.inl ⟨hs11_, h10_, r13_, hs17_, h16_, (Or.inl ⟨h18_, j19_, h20_, h21_, r22_, hs26_, h25_, v5_49, M_49, hL_49, hI_49, hF_49, (Or.inl ⟨h28_, M30_, hI33_, hF34_, r29_, hs36_, rfl, rfl⟩)⟩)⟩)⟩)⟩
            · refine w_aload_n dX11_farthest_55 rfl 2 rfl ?_
              refine w_getR (c' := (10, 0, 0)) fl_RX11_10 rfl rfl ic_11 dX11_farthest_56 rfl ?_
              refine w_getR (c' := (2, 0, 0)) fl_RX11_114 rfl rfl (ic_10 (by decide)) dX11_farthest_59 rfl ?_
              refine w_aload dX11_farthest_62 1 rfl ?_
              refine w_callV (as := []) (rest := [vR (2, 0, 0)]) (c_X9_ears l G cy ad (d + 2) 0 j19_ M_49 hI_49 (by first | decide | (unfold vF; omega) | (unfold vRw; omega)) h21_) kV_X9_ears pnn_3 (Nat.le_of_ble_eq_true rfl) m_951 rfl rfl rfl (ic_9 (by decide) h21_) rfl rfl (by decide) (Nat.le_of_ble_eq_true rfl) dX11_farthest_64 (fun r37_ M38_ q39_ => ?_)
              obtain ⟨rfl, h40_, hs41_⟩ := q39_
              refine w_iload_n dX11_farthest_67 rfl 4 rfl ?_
              refine w_iload_n dX11_farthest_68 rfl 5 rfl ?_
              refine w_iload dX11_farthest_69 0 rfl ?_
              refine w_iconst (v := 0) dX11_farthest_71 (by decide) ?_
              refine w_callV (as := [vI r37_, vI u, vI t, vI v5_49, vI 0]) (rest := []) (c_X2_hears l G cy ad d 0 r37_ u t v5_49 0 M_49 hI_49 (by first | decide | (unfold vF; omega) | (unfold vRw; omega))) kV_X2_hears pnn_5 (Nat.le_of_ble_eq_true rfl) m_973 rfl rfl rfl (ic_2 (by decide)) rfl rfl (by decide) (Nat.le_of_ble_eq_true rfl) dX11_farthest_72 (fun r42_ M43_ q44_ => ?_)
              obtain ⟨hI46_, hF47_, h45_, hs49_⟩ := q44_
              have hF48_ := hF_49.tr hF47_ (fun c k => (fun h => h.elim (fun h => (Or.inr (Or.inl ⟨h.1, h.2.1, h.2.2⟩))) (fun h => h.elim (fun h => (Or.inr (Or.inr (Or.inl ⟨h.1, h.2.1, h.2.2⟩)))) (fun h => h.elim (fun h => (Or.inr (Or.inr (Or.inr (Or.inl ⟨h.1, h.2.1, h.2.2⟩))))) (fun h => h.elim (fun h => (Or.inr (Or.inr (Or.inr (Or.inr (Or.inl ⟨h.1, h.2.1, h.2.2⟩)))))) (fun h => h.elim (fun h => (Or.inr (Or.inr (Or.inr (Or.inr (Or.inr (Or.inl ⟨h.1, h.2.1, h.2.2⟩))))))) (fun h => h.elim (fun h => (Or.inr (Or.inr (Or.inr (Or.inr (Or.inr (Or.inr (Or.inl ⟨h.1, h.2.1, h.2.2⟩)))))))) (fun h => h.elim))))))))
              refine w_if_eq (tgt := 81) dX11_farthest_75 (by decide) (rfl : r42_.toInt = r42_.toInt) (fun h50_ => ?_) (fun h50_ => ?_)
              · refine w_iincB (j := 0) (f := fun z51_ => [(5, vI z51_), (4, vR (9, 0, j19_)), (0, vR (11, 0, 0)), (1, vI v), (2, vI u), (3, vI t)]) dX11_farthest_81 rfl (by decide) (fun _ => rfl) (rfl : v5_49.toInt = v5_49.toInt) li_m1 (lf_c_X11_farthest_1 v5_49 h28_ ) (fun z51_ h52_ => ?_)
                refine w_goto (tgt := 49) dX11_farthest_84 (by decide) ?_
                refine w_loc (ls' := [(5, vI z51_), (4, vR (9, 0, j19_)), (0, vR (11, 0, 0)), (1, vI v), (2, vI u), (3, vI t)]) [0, 1, 2, 3, 4, 5] rfl ?_
                exact ih_49 M43_ hI46_ hF48_ z51_ (RCH.tail hL_49 ⟨hI_49, hF_49, h28_, r37_, hs41_, h40_, M43_, hI46_, hF47_, r42_, hs49_, h45_, h50_, z51_, h52_, rfl, rfl⟩) (Nat.lt_of_lt_of_le (lf_c_X11_farthest_2 v5_49 z51_ h28_ h52_ ) (Nat.le_of_lt_succ hm_49))
              · refine w_iload dX11_farthest_78 0 rfl ?_
                exact w_iret rfl dX11_farthest_80 ⟨hI46_, hF48_, trivial, (Or.inl ⟨hs5_, h4_, (Or.inl ⟨hs11_, h10_, r13_, hs17_, h16_, (Or.inl ⟨h18_, j19_, h20_, h21_, r22_, hs26_, h25_, v5_49, M_49, hL_49, hI_49, hF_49, (Or.inr ⟨h28_, r37_, hs41_, h40_, M43_, hI46_, hF47_, r42_, hs49_, h45_, h50_, rfl, rfl⟩)⟩)⟩)⟩)⟩
        exact lp27_ _ Mz hIz hFz r22_ RCH.refl (Nat.lt_succ_self _)
      · refine w_aload_n dX11_farthest_25 rfl 0 rfl ?_
        refine w_iconst (v := 1) dX11_farthest_26 (by decide) ?_
        refine w_callV (as := [vI 1]) (rest := []) (c_X11_error l G cy ad (d + 2) 1 Mz hIz) kV_X11_error pnn_0 (Nat.le_of_ble_eq_true rfl) m_500 rfl rfl rfl ic_11 rfl rfl (by decide) (Nat.le_of_ble_eq_true rfl) dX11_farthest_27 (fun r53_ M54_ q55_ => ?_)
        obtain ⟨hI57_, hF58_, h56_, hs60_⟩ := q55_
        have hF59_ := hFz.tr hF58_ (fun c k => (fun h => h.elim (fun h => (Or.inl ⟨h.1, h.2⟩)) (fun h => h.elim)))
        exact w_iret rfl dX11_farthest_30 ⟨hI57_, hF59_, trivial, (Or.inl ⟨hs5_, h4_, (Or.inl ⟨hs11_, h10_, r13_, hs17_, h16_, (Or.inr ⟨h18_, M54_, hI57_, hF58_, r53_, hs60_, rfl, rfl⟩)⟩)⟩)⟩
    · refine w_if_eq (tgt := 25) dX11_farthest_15 (by decide) li_0 (fun h61_ => ?_) (fun h9 => (absurd h9 (by decide)))
      refine w_aload_n dX11_farthest_25 rfl 0 rfl ?_
      refine w_iconst (v := 1) dX11_farthest_26 (by decide) ?_
      refine w_callV (as := [vI 1]) (rest := []) (c_X11_error l G cy ad (d + 2) 1 Mz hIz) kV_X11_error pnn_0 (Nat.le_of_ble_eq_true rfl) m_500 rfl rfl rfl ic_11 rfl rfl (by decide) (Nat.le_of_ble_eq_true rfl) dX11_farthest_27 (fun r62_ M63_ q64_ => ?_)
      obtain ⟨hI66_, hF67_, h65_, hs69_⟩ := q64_
      have hF68_ := hFz.tr hF67_ (fun c k => (fun h => h.elim (fun h => (Or.inl ⟨h.1, h.2⟩)) (fun h => h.elim)))
      exact w_iret rfl dX11_farthest_30 ⟨hI66_, hF68_, trivial, (Or.inl ⟨hs5_, h4_, (Or.inr ⟨hs11_, h10_, M63_, hI66_, hF67_, r62_, hs69_, rfl, rfl⟩)⟩)⟩
  · refine w_if_eq (tgt := 25) dX11_farthest_8 (by decide) li_0 (fun h70_ => ?_) (fun h9 => (absurd h9 (by decide)))
    refine w_aload_n dX11_farthest_25 rfl 0 rfl ?_
    refine w_iconst (v := 1) dX11_farthest_26 (by decide) ?_
    refine w_callV (as := [vI 1]) (rest := []) (c_X11_error l G cy ad (d + 2) 1 Mz hIz) kV_X11_error pnn_0 (Nat.le_of_ble_eq_true rfl) m_500 rfl rfl rfl ic_11 rfl rfl (by decide) (Nat.le_of_ble_eq_true rfl) dX11_farthest_27 (fun r71_ M72_ q73_ => ?_)
    obtain ⟨hI75_, hF76_, h74_, hs78_⟩ := q73_
    have hF77_ := hFz.tr hF76_ (fun c k => (fun h => h.elim (fun h => (Or.inl ⟨h.1, h.2⟩)) (fun h => h.elim)))
    exact w_iret rfl dX11_farthest_30 ⟨hI75_, hF77_, trivial, (Or.inr ⟨hs5_, M72_, hI75_, hF76_, r71_, hs78_, rfl, rfl⟩)⟩
end
section
/-! words of the tables that are used, by their places; decode rows; fields -/
theorem li_6 : (6 : Int32).toInt = 6 := by decide
theorem li_32 : (32 : Int32).toInt = 32 := by decide
theorem li_9999 : (9999 : Int32).toInt = 9999 := by decide
set_option maxRecDepth 20000 in
theorem m_460 : Cond.fieldLink RX11 16 "ClickStreet" "kept" "LClickStreet$World;" ∈ BASE := bmT2 142 rfl rfl
set_option maxRecDepth 20000 in
theorem m_461 : Cond.fieldLink RX11 19 "ClickStreet" "trial" "LClickStreet$World;" ∈ BASE := bmT2 143 rfl rfl
set_option maxRecDepth 20000 in
theorem m_465 : Cond.fieldLink RX11 42 "ClickStreet" "finder" "LClickStreet$Finder;" ∈ BASE := bmT2 147 rfl rfl
set_option maxRecDepth 20000 in
theorem m_466 : Cond.fieldLink RX11 49 "ClickStreet" "voices" "LClickStreet$Voices;" ∈ BASE := bmT2 148 rfl rfl
set_option maxRecDepth 20000 in
theorem m_467 : Cond.fieldLink RX11 53 "ClickStreet" "images" "I" ∈ BASE := bmT2 149 rfl rfl
set_option maxRecDepth 20000 in
theorem m_669 : Cond.methodLink RX11 196 yX5_room ∈ BASE := bmT3 111 rfl rfl
set_option maxRecDepth 20000 in
theorem m_670 : Cond.instanceMethod yX5_room ∈ BASE := bmT3 112 rfl rfl
set_option maxRecDepth 20000 in
theorem m_671 : Cond.selects yX5_room.cls yX5_room yX5_room ∈ BASE := bmT3 113 rfl rfl
set_option maxRecDepth 20000 in
theorem m_672 : Cond.code yX5_room cX5_room 1 (some .int) ∈ BASE := bmT3 114 rfl rfl
set_option maxRecDepth 20000 in
theorem m_673 : Cond.methodLink RX11 201 yX5_add ∈ BASE := bmT3 115 rfl rfl
set_option maxRecDepth 20000 in
theorem m_674 : Cond.instanceMethod yX5_add ∈ BASE := bmT3 116 rfl rfl
set_option maxRecDepth 20000 in
theorem m_675 : Cond.selects yX5_add.cls yX5_add yX5_add ∈ BASE := bmT3 117 rfl rfl
set_option maxRecDepth 20000 in
theorem m_676 : Cond.code yX5_add cX5_add 2 none ∈ BASE := bmT3 118 rfl rfl
set_option maxRecDepth 20000 in
theorem m_831 : Cond.methodLink RX11 224 yX5_clear ∈ BASE := bmT4 33 rfl rfl
set_option maxRecDepth 20000 in
theorem m_832 : Cond.instanceMethod yX5_clear ∈ BASE := bmT4 34 rfl rfl
set_option maxRecDepth 20000 in
theorem m_833 : Cond.selects yX5_clear.cls yX5_clear yX5_clear ∈ BASE := bmT4 35 rfl rfl
set_option maxRecDepth 20000 in
theorem m_834 : Cond.code yX5_clear cX5_clear 1 none ∈ BASE := bmT4 36 rfl rfl
set_option maxRecDepth 20000 in
theorem m_978 : Cond.methodLink RX11 274 yX6_holdsFewCells ∈ BASE := bmT4 180 rfl rfl
set_option maxRecDepth 20000 in
theorem m_979 : Cond.instanceMethod yX6_holdsFewCells ∈ BASE := bmT4 181 rfl rfl
set_option maxRecDepth 20000 in
theorem m_980 : Cond.selects yX6_holdsFewCells.cls yX6_holdsFewCells yX6_holdsFewCells ∈ BASE := bmT4 182 rfl rfl
set_option maxRecDepth 20000 in
theorem m_981 : Cond.code yX6_holdsFewCells cX6_holdsFewCells 2 (some .boolean) ∈ BASE := bmT4 183 rfl rfl
set_option maxRecDepth 20000 in
theorem m_984 : Cond.methodLink RX11 277 yX6_hasTwoAlike ∈ BASE := bmT4 186 rfl rfl
set_option maxRecDepth 20000 in
theorem m_985 : Cond.instanceMethod yX6_hasTwoAlike ∈ BASE := bmT4 187 rfl rfl
set_option maxRecDepth 20000 in
theorem m_986 : Cond.selects yX6_hasTwoAlike.cls yX6_hasTwoAlike yX6_hasTwoAlike ∈ BASE := bmT4 188 rfl rfl
set_option maxRecDepth 20000 in
theorem m_987 : Cond.code yX6_hasTwoAlike cX6_hasTwoAlike 3 (some .boolean) ∈ BASE := bmT4 189 rfl rfl
set_option maxRecDepth 20000 in
theorem m_988 : Cond.methodLink RX11 280 yX0_chooseSpots ∈ BASE := bmT4 190 rfl rfl
set_option maxRecDepth 20000 in
theorem m_989 : Cond.instanceMethod yX0_chooseSpots ∈ BASE := bmT4 191 rfl rfl
set_option maxRecDepth 20000 in
theorem m_990 : Cond.selects yX0_chooseSpots.cls yX0_chooseSpots yX0_chooseSpots ∈ BASE := bmT4 192 rfl rfl
set_option maxRecDepth 20000 in
theorem m_991 : Cond.code yX0_chooseSpots cX0_chooseSpots 8 (some .boolean) ∈ BASE := bmT4 193 rfl rfl
set_option maxRecDepth 20000 in
theorem m_1025 : Cond.methodLink RX11 293 yX10_passTenth ∈ BASE := bmT4 227 rfl rfl
set_option maxRecDepth 20000 in
theorem m_1026 : Cond.instanceMethod yX10_passTenth ∈ BASE := bmT4 228 rfl rfl
set_option maxRecDepth 20000 in
theorem m_1027 : Cond.selects yX10_passTenth.cls yX10_passTenth yX10_passTenth ∈ BASE := bmT4 229 rfl rfl
set_option maxRecDepth 20000 in
theorem m_1028 : Cond.code yX10_passTenth cX10_passTenth 2 none ∈ BASE := bmT4 230 rfl rfl
set_option maxRecDepth 20000 in
theorem m_1071 : Cond.methodLink RX11 296 yX0_measure ∈ BASE := bmT5 33 rfl rfl
set_option maxRecDepth 20000 in
theorem m_1072 : Cond.instanceMethod yX0_measure ∈ BASE := bmT5 34 rfl rfl
set_option maxRecDepth 20000 in
theorem m_1073 : Cond.selects yX0_measure.cls yX0_measure yX0_measure ∈ BASE := bmT5 35 rfl rfl
set_option maxRecDepth 20000 in
theorem m_1074 : Cond.code yX0_measure cX0_measure 8 none ∈ BASE := bmT5 36 rfl rfl
set_option maxRecDepth 20000 in
theorem m_1085 : Cond.methodLink RX11 300 yX0_costFrom ∈ BASE := bmT5 47 rfl rfl
set_option maxRecDepth 20000 in
theorem m_1089 : Cond.methodLink RX11 303 yX0_cellAfter ∈ BASE := bmT5 51 rfl rfl
set_option maxRecDepth 20000 in
theorem m_1090 : Cond.instanceMethod yX0_cellAfter ∈ BASE := bmT5 52 rfl rfl
set_option maxRecDepth 20000 in
theorem m_1091 : Cond.selects yX0_cellAfter.cls yX0_cellAfter yX0_cellAfter ∈ BASE := bmT5 53 rfl rfl
set_option maxRecDepth 20000 in
theorem m_1092 : Cond.code yX0_cellAfter cX0_cellAfter 6 (some .int) ∈ BASE := bmT5 54 rfl rfl
set_option maxRecDepth 20000 in
theorem m_1102 : Cond.methodLink RX11 307 yX10_sureYards ∈ BASE := bmT5 64 rfl rfl
set_option maxRecDepth 20000 in
theorem m_1103 : Cond.instanceMethod yX10_sureYards ∈ BASE := bmT5 65 rfl rfl
set_option maxRecDepth 20000 in
theorem m_1104 : Cond.selects yX10_sureYards.cls yX10_sureYards yX10_sureYards ∈ BASE := bmT5 66 rfl rfl
set_option maxRecDepth 20000 in
theorem m_1105 : Cond.code yX10_sureYards cX10_sureYards 4 (some .int) ∈ BASE := bmT5 67 rfl rfl
set_option maxRecDepth 20000 in
theorem m_1114 : Cond.methodLink RX11 310 yX11_isBits ∈ BASE := bmT5 76 rfl rfl
set_option maxRecDepth 20000 in
theorem m_1115 : Cond.static yX11_isBits ∈ BASE := bmT5 77 rfl rfl
set_option maxRecDepth 20000 in
theorem m_1116 : Cond.code yX11_isBits cX11_isBits 1 (some .boolean) ∈ BASE := bmT5 78 rfl rfl
set_option maxRecDepth 20000 in
theorem m_1117 : Cond.methodLink RX11 317 yX3_hasRoom ∈ BASE := bmT5 79 rfl rfl
set_option maxRecDepth 20000 in
theorem m_1118 : Cond.instanceMethod yX3_hasRoom ∈ BASE := bmT5 80 rfl rfl
set_option maxRecDepth 20000 in
theorem m_1119 : Cond.selects yX3_hasRoom.cls yX3_hasRoom yX3_hasRoom ∈ BASE := bmT5 81 rfl rfl
set_option maxRecDepth 20000 in
theorem m_1120 : Cond.code yX3_hasRoom cX3_hasRoom 1 (some .boolean) ∈ BASE := bmT5 82 rfl rfl
set_option maxRecDepth 20000 in
theorem m_1121 : Cond.methodLink RX11 320 yX3_add ∈ BASE := bmT5 83 rfl rfl
set_option maxRecDepth 20000 in
theorem m_1122 : Cond.instanceMethod yX3_add ∈ BASE := bmT5 84 rfl rfl
set_option maxRecDepth 20000 in
theorem m_1123 : Cond.selects yX3_add.cls yX3_add yX3_add ∈ BASE := bmT5 85 rfl rfl
set_option maxRecDepth 20000 in
theorem m_1124 : Cond.code yX3_add cX3_add 5 (some .int) ∈ BASE := bmT5 86 rfl rfl
set_option maxRecDepth 20000 in
theorem m_1154 : Cond.methodLink RX11 331 yX5_get ∈ BASE := bmT5 116 rfl rfl
set_option maxRecDepth 20000 in
theorem m_1159 : Cond.methodLink RX11 334 yX0_choosePosts ∈ BASE := bmT5 121 rfl rfl
set_option maxRecDepth 20000 in
theorem m_1160 : Cond.instanceMethod yX0_choosePosts ∈ BASE := bmT5 122 rfl rfl
set_option maxRecDepth 20000 in
theorem m_1161 : Cond.selects yX0_choosePosts.cls yX0_choosePosts yX0_choosePosts ∈ BASE := bmT5 123 rfl rfl
set_option maxRecDepth 20000 in
theorem m_1162 : Cond.code yX0_choosePosts cX0_choosePosts 7 (some .boolean) ∈ BASE := bmT5 124 rfl rfl
set_option maxRecDepth 20000 in
theorem m_1175 : Cond.methodLink RX11 338 yJI_bitCount ∈ BASE := bmT5 137 rfl rfl
set_option maxRecDepth 20000 in
theorem m_1214 : Cond.methodLink RX11 356 yX5_has ∈ BASE := bmT5 176 rfl rfl
set_option maxRecDepth 20000 in
theorem m_1215 : Cond.instanceMethod yX5_has ∈ BASE := bmT5 177 rfl rfl
set_option maxRecDepth 20000 in
theorem m_1216 : Cond.selects yX5_has.cls yX5_has yX5_has ∈ BASE := bmT5 178 rfl rfl
set_option maxRecDepth 20000 in
theorem m_1217 : Cond.code yX5_has cX5_has 2 (some .boolean) ∈ BASE := bmT5 179 rfl rfl
set_option maxRecDepth 20000 in
theorem m_1222 : Cond.methodLink RX11 359 yX6_drop ∈ BASE := bmT5 184 rfl rfl
set_option maxRecDepth 20000 in
theorem m_1223 : Cond.instanceMethod yX6_drop ∈ BASE := bmT5 185 rfl rfl
set_option maxRecDepth 20000 in
theorem m_1224 : Cond.selects yX6_drop.cls yX6_drop yX6_drop ∈ BASE := bmT5 186 rfl rfl
set_option maxRecDepth 20000 in
theorem m_1225 : Cond.code yX6_drop cX6_drop 1 none ∈ BASE := bmT5 187 rfl rfl
set_option maxRecDepth 20000 in
theorem m_1226 : Cond.methodLink RX11 362 yX6_begin ∈ BASE := bmT5 188 rfl rfl
set_option maxRecDepth 20000 in
theorem m_1227 : Cond.instanceMethod yX6_begin ∈ BASE := bmT5 189 rfl rfl
set_option maxRecDepth 20000 in
theorem m_1228 : Cond.selects yX6_begin.cls yX6_begin yX6_begin ∈ BASE := bmT5 190 rfl rfl
set_option maxRecDepth 20000 in
theorem m_1229 : Cond.code yX6_begin cX6_begin 4 none ∈ BASE := bmT5 191 rfl rfl
set_option maxRecDepth 20000 in
theorem m_1236 : Cond.methodLink RX11 366 yX6_has ∈ BASE := bmT5 198 rfl rfl
set_option maxRecDepth 20000 in
theorem m_1237 : Cond.methodLink RX11 367 yX6_store ∈ BASE := bmT5 199 rfl rfl
set_option maxRecDepth 20000 in
theorem m_1238 : Cond.instanceMethod yX6_store ∈ BASE := bmT5 200 rfl rfl
set_option maxRecDepth 20000 in
theorem m_1239 : Cond.selects yX6_store.cls yX6_store yX6_store ∈ BASE := bmT5 201 rfl rfl
set_option maxRecDepth 20000 in
theorem m_1240 : Cond.code yX6_store cX6_store 3 none ∈ BASE := bmT5 202 rfl rfl
set_option maxRecDepth 20000 in
theorem m_1245 : Cond.methodLink RX11 370 yX6_hasRun ∈ BASE := bmT5 207 rfl rfl
set_option maxRecDepth 20000 in
theorem m_1246 : Cond.instanceMethod yX6_hasRun ∈ BASE := bmT5 208 rfl rfl
set_option maxRecDepth 20000 in
theorem m_1247 : Cond.selects yX6_hasRun.cls yX6_hasRun yX6_hasRun ∈ BASE := bmT5 209 rfl rfl
set_option maxRecDepth 20000 in
theorem m_1248 : Cond.code yX6_hasRun cX6_hasRun 3 (some .boolean) ∈ BASE := bmT5 210 rfl rfl
set_option maxRecDepth 20000 in
theorem m_1249 : Cond.methodLink RX11 376 arraycopyName ∈ BASE := bmT5 211 rfl rfl
set_option maxRecDepth 20000 in
theorem m_1254 : Cond.methodLink RX11 382 yX10_takeFrom ∈ BASE := bmT5 216 rfl rfl
set_option maxRecDepth 20000 in
theorem m_1255 : Cond.instanceMethod yX10_takeFrom ∈ BASE := bmT5 217 rfl rfl
set_option maxRecDepth 20000 in
theorem m_1256 : Cond.selects yX10_takeFrom.cls yX10_takeFrom yX10_takeFrom ∈ BASE := bmT5 218 rfl rfl
set_option maxRecDepth 20000 in
theorem m_1257 : Cond.code yX10_takeFrom cX10_takeFrom 3 none ∈ BASE := bmT5 219 rfl rfl
set_option maxRecDepth 20000 in
theorem m_1296 : Cond.methodLink RX11 388 yX7_countThings ∈ BASE := bmT6 18 rfl rfl
set_option maxRecDepth 20000 in
theorem m_1297 : Cond.instanceMethod yX7_countThings ∈ BASE := bmT6 19 rfl rfl
set_option maxRecDepth 20000 in
theorem m_1298 : Cond.selects yX7_countThings.cls yX7_countThings yX7_countThings ∈ BASE := bmT6 20 rfl rfl
set_option maxRecDepth 20000 in
theorem m_1299 : Cond.code yX7_countThings cX7_countThings 3 (some .int) ∈ BASE := bmT6 21 rfl rfl
set_option maxRecDepth 20000 in
theorem m_1300 : Cond.methodLink RX11 392 yX10_countBumps ∈ BASE := bmT6 22 rfl rfl
set_option maxRecDepth 20000 in
theorem m_1301 : Cond.instanceMethod yX10_countBumps ∈ BASE := bmT6 23 rfl rfl
set_option maxRecDepth 20000 in
theorem m_1302 : Cond.selects yX10_countBumps.cls yX10_countBumps yX10_countBumps ∈ BASE := bmT6 24 rfl rfl
set_option maxRecDepth 20000 in
theorem m_1303 : Cond.code yX10_countBumps cX10_countBumps 3 (some .int) ∈ BASE := bmT6 25 rfl rfl
set_option maxRecDepth 20000 in
theorem m_1304 : Cond.methodLink RX11 395 yX10_countClicks ∈ BASE := bmT6 26 rfl rfl
set_option maxRecDepth 20000 in
theorem m_1305 : Cond.instanceMethod yX10_countClicks ∈ BASE := bmT6 27 rfl rfl
set_option maxRecDepth 20000 in
theorem m_1306 : Cond.selects yX10_countClicks.cls yX10_countClicks yX10_countClicks ∈ BASE := bmT6 28 rfl rfl
set_option maxRecDepth 20000 in
theorem m_1307 : Cond.code yX10_countClicks cX10_countClicks 3 (some .int) ∈ BASE := bmT6 29 rfl rfl
theorem kS_X11_isBits : KS yX11_isBits cX11_isBits 1 (some .boolean) 1 := ⟨m_1115, m_79, m_1116, nhM_0, nhV_0, pdn_1⟩
theorem kV_X0_cellAfter : KV yX0_cellAfter cX0_cellAfter 6 (some .int) 3 := ⟨m_1090, m_1091, m_89, m_1092, nhM_11, nhV_11, pdn_26⟩
theorem kV_X0_choosePosts : KV yX0_choosePosts cX0_choosePosts 7 (some .boolean) 4 := ⟨m_1160, m_1161, m_89, m_1162, nhM_11, nhV_11, pdn_27⟩
theorem kV_X0_chooseSpots : KV yX0_chooseSpots cX0_chooseSpots 8 (some .boolean) 4 := ⟨m_989, m_990, m_89, m_991, nhM_11, nhV_11, pdn_28⟩
theorem kV_X0_measure : KV yX0_measure cX0_measure 8 none 2 := ⟨m_1072, m_1073, m_89, m_1074, nhM_11, nhV_11, pdn_29⟩
theorem kV_X10_countBumps : KV yX10_countBumps cX10_countBumps 3 (some .int) 0 := ⟨m_1301, m_1302, m_80, m_1303, nhM_7, nhV_7, pdn_6⟩
theorem kV_X10_countClicks : KV yX10_countClicks cX10_countClicks 3 (some .int) 0 := ⟨m_1305, m_1306, m_80, m_1307, nhM_7, nhV_7, pdn_6⟩
theorem kV_X10_passTenth : KV yX10_passTenth cX10_passTenth 2 none 0 := ⟨m_1026, m_1027, m_80, m_1028, nhM_7, nhV_7, pdn_30⟩
theorem kV_X10_sureYards : KV yX10_sureYards cX10_sureYards 4 (some .int) 1 := ⟨m_1103, m_1104, m_80, m_1105, nhM_7, nhV_7, pdn_2⟩
theorem kV_X10_takeFrom : KV yX10_takeFrom cX10_takeFrom 3 none 1 := ⟨m_1255, m_1256, m_80, m_1257, nhM_7, nhV_7, pdn_31⟩
theorem kV_X3_add : KV yX3_add cX3_add 5 (some .int) 3 := ⟨m_1122, m_1123, m_84, m_1124, nhM_8, nhV_8, pdn_3⟩
theorem kV_X3_hasRoom : KV yX3_hasRoom cX3_hasRoom 1 (some .boolean) 0 := ⟨m_1118, m_1119, m_84, m_1120, nhM_8, nhV_8, pdn_9⟩
theorem kV_X5_add : KV yX5_add cX5_add 2 none 1 := ⟨m_674, m_675, m_85, m_676, nhM_2, nhV_2, pdn_4⟩
theorem kV_X5_clear : KV yX5_clear cX5_clear 1 none 0 := ⟨m_832, m_833, m_85, m_834, nhM_2, nhV_2, pdn_30⟩
theorem kV_X5_has : KV yX5_has cX5_has 2 (some .boolean) 1 := ⟨m_1215, m_1216, m_85, m_1217, nhM_2, nhV_2, pdn_1⟩
theorem kV_X5_room : KV yX5_room cX5_room 1 (some .int) 0 := ⟨m_670, m_671, m_85, m_672, nhM_2, nhV_2, pdn_6⟩
theorem kV_X6_begin : KV yX6_begin cX6_begin 4 none 2 := ⟨m_1227, m_1228, m_91, m_1229, nhM_4, nhV_4, pdn_5⟩
theorem kV_X6_drop : KV yX6_drop cX6_drop 1 none 0 := ⟨m_1223, m_1224, m_91, m_1225, nhM_4, nhV_4, pdn_30⟩
theorem kV_X6_hasRun : KV yX6_hasRun cX6_hasRun 3 (some .boolean) 2 := ⟨m_1246, m_1247, m_91, m_1248, nhM_4, nhV_4, pdn_7⟩
theorem kV_X6_hasTwoAlike : KV yX6_hasTwoAlike cX6_hasTwoAlike 3 (some .boolean) 0 := ⟨m_985, m_986, m_91, m_987, nhM_4, nhV_4, pdn_9⟩
theorem kV_X6_holdsFewCells : KV yX6_holdsFewCells cX6_holdsFewCells 2 (some .boolean) 0 := ⟨m_979, m_980, m_91, m_981, nhM_4, nhV_4, pdn_9⟩
theorem kV_X6_store : KV yX6_store cX6_store 3 none 2 := ⟨m_1238, m_1239, m_91, m_1240, nhM_4, nhV_4, pdn_5⟩
theorem kV_X7_countThings : KV yX7_countThings cX7_countThings 3 (some .int) 0 := ⟨m_1297, m_1298, m_81, m_1299, nhM_1, nhV_1, pdn_6⟩
theorem fl_RX11_16 : FLK RX11 16 11 1 (.object "ClickStreet$World") true := ⟨RX11, TX11, 9, tyX11, rfl, inB11, tyX11_ok, nmX11, by decide, rfl, rfl, Or.inl m_460⟩
theorem fl_RX11_19 : FLK RX11 19 11 2 (.object "ClickStreet$World") true := ⟨RX11, TX11, 9, tyX11, rfl, inB11, tyX11_ok, nmX11, by decide, rfl, rfl, Or.inl m_461⟩
theorem fl_RX11_192 : FLK RX11 192 10 3 (.object "ClickStreet$Row") true := ⟨RX10, TX10, 8, tyX10, rfl, inB10, tyX10_ok, nmX10, by decide, rfl, rfl, Or.inr ⟨"ClickStreet", List.mem_of_getElem? (l := NFs) (i := 35) rfl⟩⟩
theorem fl_RX11_205 : FLK RX11 205 5 1 .int false := ⟨RX5, TX5, 2, tyX5, rfl, inB5, tyX5_ok, nmX5, by decide, rfl, rfl, Or.inr ⟨"ClickStreet", List.mem_of_getElem? (l := NFs) (i := 9) rfl⟩⟩
theorem fl_RX11_284 : FLK RX11 284 0 4 .int false := ⟨RX0, TX0, 6, tyX0, rfl, inB0, tyX0_ok, nmX0, by decide, rfl, rfl, Or.inr ⟨"ClickStreet", List.mem_of_getElem? (l := NFs) (i := 42) rfl⟩⟩
theorem fl_RX11_287 : FLK RX11 287 0 5 .int false := ⟨RX0, TX0, 6, tyX0, rfl, inB0, tyX0_ok, nmX0, by decide, rfl, rfl, Or.inr ⟨"ClickStreet", List.mem_of_getElem? (l := NFs) (i := 43) rfl⟩⟩
theorem fl_RX11_290 : FLK RX11 290 10 7 .int false := ⟨RX10, TX10, 8, tyX10, rfl, inB10, tyX10_ok, nmX10, by decide, rfl, rfl, Or.inr ⟨"ClickStreet", List.mem_of_getElem? (l := NFs) (i := 40) rfl⟩⟩
theorem fl_RX11_313 : FLK RX11 313 10 2 (.object "ClickStreet$Lessons") true := ⟨RX10, TX10, 8, tyX10, rfl, inB10, tyX10_ok, nmX10, by decide, rfl, rfl, Or.inr ⟨"ClickStreet", List.mem_of_getElem? (l := NFs) (i := 34) rfl⟩⟩
theorem fl_RX11_353 : FLK RX11 353 8 1 (.object "ClickStreet$Row") true := ⟨RX8, TX8, 6, tyX8, rfl, inB8, tyX8_ok, nmX8, by decide, rfl, rfl, Or.inr ⟨"ClickStreet", List.mem_of_getElem? (l := NFs) (i := 44) rfl⟩⟩
theorem fl_RX11_373 : FLK RX11 373 6 2 (.array .int) true := ⟨RX6, TX6, 3, tyX6, rfl, inB6, tyX6_ok, nmX6, by decide, rfl, rfl, Or.inr ⟨"ClickStreet", List.mem_of_getElem? (l := NFs) (i := 49) rfl⟩⟩
theorem fl_RX11_385 : FLK RX11 385 10 4 (.object "ClickStreet$Row") true := ⟨RX10, TX10, 8, tyX10, rfl, inB10, tyX10_ok, nmX10, by decide, rfl, rfl, Or.inr ⟨"ClickStreet", List.mem_of_getElem? (l := NFs) (i := 36) rfl⟩⟩
theorem fl_RX11_391 : FLK RX11 391 3 3 .int false := ⟨RX3, TX3, 9, tyX3, rfl, inB3, tyX3_ok, nmX3, by decide, rfl, rfl, Or.inr ⟨"ClickStreet", List.mem_of_getElem? (l := NFs) (i := 10) rfl⟩⟩
theorem fl_RX11_42 : FLK RX11 42 11 6 (.object "ClickStreet$Finder") true := ⟨RX11, TX11, 9, tyX11, rfl, inB11, tyX11_ok, nmX11, by decide, rfl, rfl, Or.inl m_465⟩
theorem fl_RX11_49 : FLK RX11 49 11 7 (.object "ClickStreet$Voices") true := ⟨RX11, TX11, 9, tyX11, rfl, inB11, tyX11_ok, nmX11, by decide, rfl, rfl, Or.inl m_466⟩
theorem fl_RX11_53 : FLK RX11 53 11 8 .int false := ⟨RX11, TX11, 9, tyX11, rfl, inB11, tyX11_ok, nmX11, by decide, rfl, rfl, Or.inl m_467⟩
theorem ch_cX11_check_0 : (cX11_check.data.toList.drop 0).take 36 = [42, 180, 0, 10, 27, 182, 0, 154, 154, 0, 19, 42, 180, 0, 10, 180, 1, 129, 182, 0, 224, 42, 4, 182, 0, 67, 172, 42, 180, 0, 19, 42, 180, 0, 10, 182] := by decide +kernel
theorem dX11_check_0 : decode cX11_check 0 = .ok (.aload_n 0, 1) := do_42 (rdb (p := 0) (i := 0) ch_cX11_check_0 rfl)
theorem dX11_check_1 : decode cX11_check 1 = .ok (.getfield 10, 3) := do_180 (rdb (p := 0) (i := 1) ch_cX11_check_0 rfl) (rdb (p := 0) (i := 2) ch_cX11_check_0 rfl) (rdb (p := 0) (i := 3) ch_cX11_check_0 rfl) rfl
theorem dX11_check_4 : decode cX11_check 4 = .ok (.iload_n 1, 1) := do_27 (rdb (p := 0) (i := 4) ch_cX11_check_0 rfl)
theorem dX11_check_5 : decode cX11_check 5 = .ok (.invokevirtual 154, 3) := do_182 (rdb (p := 0) (i := 5) ch_cX11_check_0 rfl) (rdb (p := 0) (i := 6) ch_cX11_check_0 rfl) (rdb (p := 0) (i := 7) ch_cX11_check_0 rfl) rfl
theorem dX11_check_8 : decode cX11_check 8 = .ok (.ifCond .ne 19, 3) := do_154 (rdb (p := 0) (i := 8) ch_cX11_check_0 rfl) (rdb (p := 0) (i := 9) ch_cX11_check_0 rfl) (rdb (p := 0) (i := 10) ch_cX11_check_0 rfl) (by decide +kernel)
theorem dX11_check_11 : decode cX11_check 11 = .ok (.aload_n 0, 1) := do_42 (rdb (p := 0) (i := 11) ch_cX11_check_0 rfl)
theorem dX11_check_12 : decode cX11_check 12 = .ok (.getfield 10, 3) := do_180 (rdb (p := 0) (i := 12) ch_cX11_check_0 rfl) (rdb (p := 0) (i := 13) ch_cX11_check_0 rfl) (rdb (p := 0) (i := 14) ch_cX11_check_0 rfl) rfl
theorem dX11_check_15 : decode cX11_check 15 = .ok (.getfield 385, 3) := do_180 (rdb (p := 0) (i := 15) ch_cX11_check_0 rfl) (rdb (p := 0) (i := 16) ch_cX11_check_0 rfl) (rdb (p := 0) (i := 17) ch_cX11_check_0 rfl) rfl
theorem dX11_check_18 : decode cX11_check 18 = .ok (.invokevirtual 224, 3) := do_182 (rdb (p := 0) (i := 18) ch_cX11_check_0 rfl) (rdb (p := 0) (i := 19) ch_cX11_check_0 rfl) (rdb (p := 0) (i := 20) ch_cX11_check_0 rfl) rfl
theorem dX11_check_21 : decode cX11_check 21 = .ok (.aload_n 0, 1) := do_42 (rdb (p := 0) (i := 21) ch_cX11_check_0 rfl)
theorem dX11_check_22 : decode cX11_check 22 = .ok (.iconst 1, 1) := do_4 (rdb (p := 0) (i := 22) ch_cX11_check_0 rfl)
theorem dX11_check_23 : decode cX11_check 23 = .ok (.invokevirtual 67, 3) := do_182 (rdb (p := 0) (i := 23) ch_cX11_check_0 rfl) (rdb (p := 0) (i := 24) ch_cX11_check_0 rfl) (rdb (p := 0) (i := 25) ch_cX11_check_0 rfl) rfl
theorem dX11_check_26 : decode cX11_check 26 = .ok (.ireturn, 1) := do_172 (rdb (p := 0) (i := 26) ch_cX11_check_0 rfl)
theorem dX11_check_27 : decode cX11_check 27 = .ok (.aload_n 0, 1) := do_42 (rdb (p := 0) (i := 27) ch_cX11_check_0 rfl)
theorem dX11_check_28 : decode cX11_check 28 = .ok (.getfield 19, 3) := do_180 (rdb (p := 0) (i := 28) ch_cX11_check_0 rfl) (rdb (p := 0) (i := 29) ch_cX11_check_0 rfl) (rdb (p := 0) (i := 30) ch_cX11_check_0 rfl) rfl
theorem dX11_check_31 : decode cX11_check 31 = .ok (.aload_n 0, 1) := do_42 (rdb (p := 0) (i := 31) ch_cX11_check_0 rfl)
theorem ch_cX11_check_32 : (cX11_check.data.toList.drop 32).take 36 = [180, 0, 10, 182, 1, 126, 42, 180, 0, 10, 180, 1, 129, 182, 0, 224, 3, 61, 28, 42, 180, 0, 19, 180, 1, 129, 180, 0, 205, 162, 0, 46, 42, 180, 0, 19] := by decide +kernel
theorem dX11_check_32 : decode cX11_check 32 = .ok (.getfield 10, 3) := do_180 (rdb (p := 32) (i := 0) ch_cX11_check_32 rfl) (rdb (p := 32) (i := 1) ch_cX11_check_32 rfl) (rdb (p := 32) (i := 2) ch_cX11_check_32 rfl) rfl
theorem dX11_check_35 : decode cX11_check 35 = .ok (.invokevirtual 382, 3) := do_182 (rdb (p := 32) (i := 3) ch_cX11_check_32 rfl) (rdb (p := 32) (i := 4) ch_cX11_check_32 rfl) (rdb (p := 32) (i := 5) ch_cX11_check_32 rfl) rfl
theorem dX11_check_38 : decode cX11_check 38 = .ok (.aload_n 0, 1) := do_42 (rdb (p := 32) (i := 6) ch_cX11_check_32 rfl)
theorem dX11_check_39 : decode cX11_check 39 = .ok (.getfield 10, 3) := do_180 (rdb (p := 32) (i := 7) ch_cX11_check_32 rfl) (rdb (p := 32) (i := 8) ch_cX11_check_32 rfl) (rdb (p := 32) (i := 9) ch_cX11_check_32 rfl) rfl
theorem dX11_check_42 : decode cX11_check 42 = .ok (.getfield 385, 3) := do_180 (rdb (p := 32) (i := 10) ch_cX11_check_32 rfl) (rdb (p := 32) (i := 11) ch_cX11_check_32 rfl) (rdb (p := 32) (i := 12) ch_cX11_check_32 rfl) rfl
theorem dX11_check_45 : decode cX11_check 45 = .ok (.invokevirtual 224, 3) := do_182 (rdb (p := 32) (i := 13) ch_cX11_check_32 rfl) (rdb (p := 32) (i := 14) ch_cX11_check_32 rfl) (rdb (p := 32) (i := 15) ch_cX11_check_32 rfl) rfl
theorem dX11_check_48 : decode cX11_check 48 = .ok (.iconst 0, 1) := do_3 (rdb (p := 32) (i := 16) ch_cX11_check_32 rfl)
theorem dX11_check_49 : decode cX11_check 49 = .ok (.istore_n 2, 1) := do_61 (rdb (p := 32) (i := 17) ch_cX11_check_32 rfl)
theorem dX11_check_50 : decode cX11_check 50 = .ok (.iload_n 2, 1) := do_28 (rdb (p := 32) (i := 18) ch_cX11_check_32 rfl)
theorem dX11_check_51 : decode cX11_check 51 = .ok (.aload_n 0, 1) := do_42 (rdb (p := 32) (i := 19) ch_cX11_check_32 rfl)
theorem dX11_check_52 : decode cX11_check 52 = .ok (.getfield 19, 3) := do_180 (rdb (p := 32) (i := 20) ch_cX11_check_32 rfl) (rdb (p := 32) (i := 21) ch_cX11_check_32 rfl) (rdb (p := 32) (i := 22) ch_cX11_check_32 rfl) rfl
theorem dX11_check_55 : decode cX11_check 55 = .ok (.getfield 385, 3) := do_180 (rdb (p := 32) (i := 23) ch_cX11_check_32 rfl) (rdb (p := 32) (i := 24) ch_cX11_check_32 rfl) (rdb (p := 32) (i := 25) ch_cX11_check_32 rfl) rfl
theorem dX11_check_58 : decode cX11_check 58 = .ok (.getfield 205, 3) := do_180 (rdb (p := 32) (i := 26) ch_cX11_check_32 rfl) (rdb (p := 32) (i := 27) ch_cX11_check_32 rfl) (rdb (p := 32) (i := 28) ch_cX11_check_32 rfl) rfl
theorem dX11_check_61 : decode cX11_check 61 = .ok (.if_icmp .ge 46, 3) := do_162 (rdb (p := 32) (i := 29) ch_cX11_check_32 rfl) (rdb (p := 32) (i := 30) ch_cX11_check_32 rfl) (rdb (p := 32) (i := 31) ch_cX11_check_32 rfl) (by decide +kernel)
theorem ch_cX11_check_64 : (cX11_check.data.toList.drop 64).take 36 = [42, 180, 0, 19, 182, 1, 37, 42, 180, 0, 19, 180, 0, 157, 27, 50, 180, 0, 229, 42, 180, 0, 19, 180, 1, 129, 28, 182, 1, 75, 159, 0, 7, 4, 28, 96] := by decide +kernel
theorem dX11_check_64 : decode cX11_check 64 = .ok (.aload_n 0, 1) := do_42 (rdb (p := 64) (i := 0) ch_cX11_check_64 rfl)
theorem dX11_check_65 : decode cX11_check 65 = .ok (.getfield 19, 3) := do_180 (rdb (p := 64) (i := 1) ch_cX11_check_64 rfl) (rdb (p := 64) (i := 2) ch_cX11_check_64 rfl) (rdb (p := 64) (i := 3) ch_cX11_check_64 rfl) rfl
theorem dX11_check_68 : decode cX11_check 68 = .ok (.invokevirtual 293, 3) := do_182 (rdb (p := 64) (i := 4) ch_cX11_check_64 rfl) (rdb (p := 64) (i := 5) ch_cX11_check_64 rfl) (rdb (p := 64) (i := 6) ch_cX11_check_64 rfl) rfl
theorem dX11_check_71 : decode cX11_check 71 = .ok (.aload_n 0, 1) := do_42 (rdb (p := 64) (i := 7) ch_cX11_check_64 rfl)
theorem dX11_check_72 : decode cX11_check 72 = .ok (.getfield 19, 3) := do_180 (rdb (p := 64) (i := 8) ch_cX11_check_64 rfl) (rdb (p := 64) (i := 9) ch_cX11_check_64 rfl) (rdb (p := 64) (i := 10) ch_cX11_check_64 rfl) rfl
theorem dX11_check_75 : decode cX11_check 75 = .ok (.getfield 157, 3) := do_180 (rdb (p := 64) (i := 11) ch_cX11_check_64 rfl) (rdb (p := 64) (i := 12) ch_cX11_check_64 rfl) (rdb (p := 64) (i := 13) ch_cX11_check_64 rfl) rfl
theorem dX11_check_78 : decode cX11_check 78 = .ok (.iload_n 1, 1) := do_27 (rdb (p := 64) (i := 14) ch_cX11_check_64 rfl)
theorem dX11_check_79 : decode cX11_check 79 = .ok (.aaload, 1) := do_50 (rdb (p := 64) (i := 15) ch_cX11_check_64 rfl)
theorem dX11_check_80 : decode cX11_check 80 = .ok (.getfield 229, 3) := do_180 (rdb (p := 64) (i := 16) ch_cX11_check_64 rfl) (rdb (p := 64) (i := 17) ch_cX11_check_64 rfl) (rdb (p := 64) (i := 18) ch_cX11_check_64 rfl) rfl
theorem dX11_check_83 : decode cX11_check 83 = .ok (.aload_n 0, 1) := do_42 (rdb (p := 64) (i := 19) ch_cX11_check_64 rfl)
theorem dX11_check_84 : decode cX11_check 84 = .ok (.getfield 19, 3) := do_180 (rdb (p := 64) (i := 20) ch_cX11_check_64 rfl) (rdb (p := 64) (i := 21) ch_cX11_check_64 rfl) (rdb (p := 64) (i := 22) ch_cX11_check_64 rfl) rfl
theorem dX11_check_87 : decode cX11_check 87 = .ok (.getfield 385, 3) := do_180 (rdb (p := 64) (i := 23) ch_cX11_check_64 rfl) (rdb (p := 64) (i := 24) ch_cX11_check_64 rfl) (rdb (p := 64) (i := 25) ch_cX11_check_64 rfl) rfl
theorem dX11_check_90 : decode cX11_check 90 = .ok (.iload_n 2, 1) := do_28 (rdb (p := 64) (i := 26) ch_cX11_check_64 rfl)
theorem dX11_check_91 : decode cX11_check 91 = .ok (.invokevirtual 331, 3) := do_182 (rdb (p := 64) (i := 27) ch_cX11_check_64 rfl) (rdb (p := 64) (i := 28) ch_cX11_check_64 rfl) (rdb (p := 64) (i := 29) ch_cX11_check_64 rfl) rfl
theorem dX11_check_94 : decode cX11_check 94 = .ok (.if_icmp .eq 7, 3) := do_159 (rdb (p := 64) (i := 30) ch_cX11_check_64 rfl) (rdb (p := 64) (i := 31) ch_cX11_check_64 rfl) (rdb (p := 64) (i := 32) ch_cX11_check_64 rfl) (by decide +kernel)
theorem ch_cX11_check_96 : (cX11_check.data.toList.drop 96).take 36 = [7, 4, 28, 96, 172, 132, 2, 1, 167, 255, 202, 3, 172] := by decide +kernel
theorem dX11_check_97 : decode cX11_check 97 = .ok (.iconst 1, 1) := do_4 (rdb (p := 96) (i := 1) ch_cX11_check_96 rfl)
theorem dX11_check_98 : decode cX11_check 98 = .ok (.iload_n 2, 1) := do_28 (rdb (p := 96) (i := 2) ch_cX11_check_96 rfl)
theorem dX11_check_99 : decode cX11_check 99 = .ok (.iadd, 1) := do_96 (rdb (p := 96) (i := 3) ch_cX11_check_96 rfl)
theorem dX11_check_100 : decode cX11_check 100 = .ok (.ireturn, 1) := do_172 (rdb (p := 96) (i := 4) ch_cX11_check_96 rfl)
theorem dX11_check_101 : decode cX11_check 101 = .ok (.iinc 2 1, 3) := do_132 (rdb (p := 96) (i := 5) ch_cX11_check_96 rfl) (rdb (p := 96) (i := 6) ch_cX11_check_96 rfl) (rdb (p := 96) (i := 7) ch_cX11_check_96 rfl) (by decide +kernel)
theorem dX11_check_104 : decode cX11_check 104 = .ok (.goto (-54), 3) := do_167 (rdb (p := 96) (i := 8) ch_cX11_check_96 rfl) (rdb (p := 96) (i := 9) ch_cX11_check_96 rfl) (rdb (p := 96) (i := 10) ch_cX11_check_96 rfl) (by decide +kernel)
theorem dX11_check_107 : decode cX11_check 107 = .ok (.iconst 0, 1) := do_3 (rdb (p := 96) (i := 11) ch_cX11_check_96 rfl)
theorem dX11_check_108 : decode cX11_check 108 = .ok (.ireturn, 1) := do_172 (rdb (p := 96) (i := 12) ch_cX11_check_96 rfl)
theorem ch_cX11_count_0 : (cX11_count.data.toList.drop 0).take 36 = [27, 170, 0, 0, 0, 0, 0, 138, 0, 0, 0, 0, 0, 0, 0, 8, 0, 0, 0, 51, 0, 0, 0, 59, 0, 0, 0, 70, 0, 0, 0, 78, 0, 0, 0, 89] := by decide +kernel
theorem dX11_count_0 : decode cX11_count 0 = .ok (.iload_n 1, 1) := do_27 (rdb (p := 0) (i := 0) ch_cX11_count_0 rfl)
theorem dX11_count_1 : decode cX11_count 1 = .ok (.tableswitch 138 0 8 #[51, 59, 70, 78, 89, 100, 111, 122, 130], 51) := by decide +kernel
theorem ch_cX11_count_32 : (cX11_count.data.toList.drop 32).take 36 = [0, 0, 0, 89, 0, 0, 0, 100, 0, 0, 0, 111, 0, 0, 0, 122, 0, 0, 0, 130, 42, 180, 0, 10, 180, 1, 34, 172, 42, 180, 0, 10, 180, 0, 71, 182] := by decide +kernel
theorem dX11_count_52 : decode cX11_count 52 = .ok (.aload_n 0, 1) := do_42 (rdb (p := 32) (i := 20) ch_cX11_count_32 rfl)
theorem dX11_count_53 : decode cX11_count 53 = .ok (.getfield 10, 3) := do_180 (rdb (p := 32) (i := 21) ch_cX11_count_32 rfl) (rdb (p := 32) (i := 22) ch_cX11_count_32 rfl) (rdb (p := 32) (i := 23) ch_cX11_count_32 rfl) rfl
theorem dX11_count_56 : decode cX11_count 56 = .ok (.getfield 290, 3) := do_180 (rdb (p := 32) (i := 24) ch_cX11_count_32 rfl) (rdb (p := 32) (i := 25) ch_cX11_count_32 rfl) (rdb (p := 32) (i := 26) ch_cX11_count_32 rfl) rfl
theorem dX11_count_59 : decode cX11_count 59 = .ok (.ireturn, 1) := do_172 (rdb (p := 32) (i := 27) ch_cX11_count_32 rfl)
theorem dX11_count_60 : decode cX11_count 60 = .ok (.aload_n 0, 1) := do_42 (rdb (p := 32) (i := 28) ch_cX11_count_32 rfl)
theorem dX11_count_61 : decode cX11_count 61 = .ok (.getfield 10, 3) := do_180 (rdb (p := 32) (i := 29) ch_cX11_count_32 rfl) (rdb (p := 32) (i := 30) ch_cX11_count_32 rfl) (rdb (p := 32) (i := 31) ch_cX11_count_32 rfl) rfl
theorem ch_cX11_count_64 : (cX11_count.data.toList.drop 64).take 36 = [180, 0, 71, 182, 1, 132, 172, 42, 180, 0, 10, 180, 0, 148, 172, 42, 180, 0, 10, 180, 1, 57, 180, 1, 135, 172, 42, 180, 0, 10, 180, 0, 192, 180, 0, 205] := by decide +kernel
theorem dX11_count_64 : decode cX11_count 64 = .ok (.getfield 71, 3) := do_180 (rdb (p := 64) (i := 0) ch_cX11_count_64 rfl) (rdb (p := 64) (i := 1) ch_cX11_count_64 rfl) (rdb (p := 64) (i := 2) ch_cX11_count_64 rfl) rfl
theorem dX11_count_67 : decode cX11_count 67 = .ok (.invokevirtual 388, 3) := do_182 (rdb (p := 64) (i := 3) ch_cX11_count_64 rfl) (rdb (p := 64) (i := 4) ch_cX11_count_64 rfl) (rdb (p := 64) (i := 5) ch_cX11_count_64 rfl) rfl
theorem dX11_count_70 : decode cX11_count 70 = .ok (.ireturn, 1) := do_172 (rdb (p := 64) (i := 6) ch_cX11_count_64 rfl)
theorem dX11_count_71 : decode cX11_count 71 = .ok (.aload_n 0, 1) := do_42 (rdb (p := 64) (i := 7) ch_cX11_count_64 rfl)
theorem dX11_count_72 : decode cX11_count 72 = .ok (.getfield 10, 3) := do_180 (rdb (p := 64) (i := 8) ch_cX11_count_64 rfl) (rdb (p := 64) (i := 9) ch_cX11_count_64 rfl) (rdb (p := 64) (i := 10) ch_cX11_count_64 rfl) rfl
theorem dX11_count_75 : decode cX11_count 75 = .ok (.getfield 148, 3) := do_180 (rdb (p := 64) (i := 11) ch_cX11_count_64 rfl) (rdb (p := 64) (i := 12) ch_cX11_count_64 rfl) (rdb (p := 64) (i := 13) ch_cX11_count_64 rfl) rfl
theorem dX11_count_78 : decode cX11_count 78 = .ok (.ireturn, 1) := do_172 (rdb (p := 64) (i := 14) ch_cX11_count_64 rfl)
theorem dX11_count_79 : decode cX11_count 79 = .ok (.aload_n 0, 1) := do_42 (rdb (p := 64) (i := 15) ch_cX11_count_64 rfl)
theorem dX11_count_80 : decode cX11_count 80 = .ok (.getfield 10, 3) := do_180 (rdb (p := 64) (i := 16) ch_cX11_count_64 rfl) (rdb (p := 64) (i := 17) ch_cX11_count_64 rfl) (rdb (p := 64) (i := 18) ch_cX11_count_64 rfl) rfl
theorem dX11_count_83 : decode cX11_count 83 = .ok (.getfield 313, 3) := do_180 (rdb (p := 64) (i := 19) ch_cX11_count_64 rfl) (rdb (p := 64) (i := 20) ch_cX11_count_64 rfl) (rdb (p := 64) (i := 21) ch_cX11_count_64 rfl) rfl
theorem dX11_count_86 : decode cX11_count 86 = .ok (.getfield 391, 3) := do_180 (rdb (p := 64) (i := 22) ch_cX11_count_64 rfl) (rdb (p := 64) (i := 23) ch_cX11_count_64 rfl) (rdb (p := 64) (i := 24) ch_cX11_count_64 rfl) rfl
theorem dX11_count_89 : decode cX11_count 89 = .ok (.ireturn, 1) := do_172 (rdb (p := 64) (i := 25) ch_cX11_count_64 rfl)
theorem dX11_count_90 : decode cX11_count 90 = .ok (.aload_n 0, 1) := do_42 (rdb (p := 64) (i := 26) ch_cX11_count_64 rfl)
theorem dX11_count_91 : decode cX11_count 91 = .ok (.getfield 10, 3) := do_180 (rdb (p := 64) (i := 27) ch_cX11_count_64 rfl) (rdb (p := 64) (i := 28) ch_cX11_count_64 rfl) (rdb (p := 64) (i := 29) ch_cX11_count_64 rfl) rfl
theorem dX11_count_94 : decode cX11_count 94 = .ok (.getfield 192, 3) := do_180 (rdb (p := 64) (i := 30) ch_cX11_count_64 rfl) (rdb (p := 64) (i := 31) ch_cX11_count_64 rfl) (rdb (p := 64) (i := 32) ch_cX11_count_64 rfl) rfl
theorem ch_cX11_count_96 : (cX11_count.data.toList.drop 96).take 36 = [192, 180, 0, 205, 172, 42, 180, 0, 10, 180, 1, 129, 180, 0, 205, 172, 42, 180, 0, 49, 180, 1, 97, 180, 0, 205, 172, 42, 180, 0, 10, 182, 1, 136, 172, 42] := by decide +kernel
theorem dX11_count_97 : decode cX11_count 97 = .ok (.getfield 205, 3) := do_180 (rdb (p := 96) (i := 1) ch_cX11_count_96 rfl) (rdb (p := 96) (i := 2) ch_cX11_count_96 rfl) (rdb (p := 96) (i := 3) ch_cX11_count_96 rfl) rfl
theorem dX11_count_100 : decode cX11_count 100 = .ok (.ireturn, 1) := do_172 (rdb (p := 96) (i := 4) ch_cX11_count_96 rfl)
theorem dX11_count_101 : decode cX11_count 101 = .ok (.aload_n 0, 1) := do_42 (rdb (p := 96) (i := 5) ch_cX11_count_96 rfl)
theorem dX11_count_102 : decode cX11_count 102 = .ok (.getfield 10, 3) := do_180 (rdb (p := 96) (i := 6) ch_cX11_count_96 rfl) (rdb (p := 96) (i := 7) ch_cX11_count_96 rfl) (rdb (p := 96) (i := 8) ch_cX11_count_96 rfl) rfl
theorem dX11_count_105 : decode cX11_count 105 = .ok (.getfield 385, 3) := do_180 (rdb (p := 96) (i := 9) ch_cX11_count_96 rfl) (rdb (p := 96) (i := 10) ch_cX11_count_96 rfl) (rdb (p := 96) (i := 11) ch_cX11_count_96 rfl) rfl
theorem dX11_count_108 : decode cX11_count 108 = .ok (.getfield 205, 3) := do_180 (rdb (p := 96) (i := 12) ch_cX11_count_96 rfl) (rdb (p := 96) (i := 13) ch_cX11_count_96 rfl) (rdb (p := 96) (i := 14) ch_cX11_count_96 rfl) rfl
theorem dX11_count_111 : decode cX11_count 111 = .ok (.ireturn, 1) := do_172 (rdb (p := 96) (i := 15) ch_cX11_count_96 rfl)
theorem dX11_count_112 : decode cX11_count 112 = .ok (.aload_n 0, 1) := do_42 (rdb (p := 96) (i := 16) ch_cX11_count_96 rfl)
theorem dX11_count_113 : decode cX11_count 113 = .ok (.getfield 49, 3) := do_180 (rdb (p := 96) (i := 17) ch_cX11_count_96 rfl) (rdb (p := 96) (i := 18) ch_cX11_count_96 rfl) (rdb (p := 96) (i := 19) ch_cX11_count_96 rfl) rfl
theorem dX11_count_116 : decode cX11_count 116 = .ok (.getfield 353, 3) := do_180 (rdb (p := 96) (i := 20) ch_cX11_count_96 rfl) (rdb (p := 96) (i := 21) ch_cX11_count_96 rfl) (rdb (p := 96) (i := 22) ch_cX11_count_96 rfl) rfl
theorem dX11_count_119 : decode cX11_count 119 = .ok (.getfield 205, 3) := do_180 (rdb (p := 96) (i := 23) ch_cX11_count_96 rfl) (rdb (p := 96) (i := 24) ch_cX11_count_96 rfl) (rdb (p := 96) (i := 25) ch_cX11_count_96 rfl) rfl
theorem dX11_count_122 : decode cX11_count 122 = .ok (.ireturn, 1) := do_172 (rdb (p := 96) (i := 26) ch_cX11_count_96 rfl)
theorem dX11_count_123 : decode cX11_count 123 = .ok (.aload_n 0, 1) := do_42 (rdb (p := 96) (i := 27) ch_cX11_count_96 rfl)
theorem dX11_count_124 : decode cX11_count 124 = .ok (.getfield 10, 3) := do_180 (rdb (p := 96) (i := 28) ch_cX11_count_96 rfl) (rdb (p := 96) (i := 29) ch_cX11_count_96 rfl) (rdb (p := 96) (i := 30) ch_cX11_count_96 rfl) rfl
theorem dX11_count_127 : decode cX11_count 127 = .ok (.invokevirtual 392, 3) := do_182 (rdb (p := 96) (i := 31) ch_cX11_count_96 rfl) (rdb (p := 96) (i := 32) ch_cX11_count_96 rfl) (rdb (p := 96) (i := 33) ch_cX11_count_96 rfl) rfl
theorem ch_cX11_count_128 : (cX11_count.data.toList.drop 128).take 36 = [1, 136, 172, 42, 180, 0, 10, 182, 1, 139, 172, 42, 4, 182, 0, 67, 172] := by decide +kernel
theorem dX11_count_130 : decode cX11_count 130 = .ok (.ireturn, 1) := do_172 (rdb (p := 128) (i := 2) ch_cX11_count_128 rfl)
theorem dX11_count_131 : decode cX11_count 131 = .ok (.aload_n 0, 1) := do_42 (rdb (p := 128) (i := 3) ch_cX11_count_128 rfl)
theorem dX11_count_132 : decode cX11_count 132 = .ok (.getfield 10, 3) := do_180 (rdb (p := 128) (i := 4) ch_cX11_count_128 rfl) (rdb (p := 128) (i := 5) ch_cX11_count_128 rfl) (rdb (p := 128) (i := 6) ch_cX11_count_128 rfl) rfl
theorem dX11_count_135 : decode cX11_count 135 = .ok (.invokevirtual 395, 3) := do_182 (rdb (p := 128) (i := 7) ch_cX11_count_128 rfl) (rdb (p := 128) (i := 8) ch_cX11_count_128 rfl) (rdb (p := 128) (i := 9) ch_cX11_count_128 rfl) rfl
theorem dX11_count_138 : decode cX11_count 138 = .ok (.ireturn, 1) := do_172 (rdb (p := 128) (i := 10) ch_cX11_count_128 rfl)
theorem dX11_count_139 : decode cX11_count 139 = .ok (.aload_n 0, 1) := do_42 (rdb (p := 128) (i := 11) ch_cX11_count_128 rfl)
theorem dX11_count_140 : decode cX11_count 140 = .ok (.iconst 1, 1) := do_4 (rdb (p := 128) (i := 12) ch_cX11_count_128 rfl)
theorem dX11_count_141 : decode cX11_count 141 = .ok (.invokevirtual 67, 3) := do_182 (rdb (p := 128) (i := 13) ch_cX11_count_128 rfl) (rdb (p := 128) (i := 14) ch_cX11_count_128 rfl) (rdb (p := 128) (i := 15) ch_cX11_count_128 rfl) rfl
theorem dX11_count_144 : decode cX11_count 144 = .ok (.ireturn, 1) := do_172 (rdb (p := 128) (i := 16) ch_cX11_count_128 rfl)
theorem ch_cX11_feed_0 : (cX11_feed.data.toList.drop 0).take 36 = [29, 4, 16, 8, 184, 0, 89, 154, 0, 9, 42, 4, 182, 0, 67, 172, 42, 180, 0, 10, 180, 0, 192, 182, 0, 196, 29, 162, 0, 9, 42, 7, 182, 0, 67, 172] := by decide +kernel
theorem dX11_feed_0 : decode cX11_feed 0 = .ok (.iload_n 3, 1) := do_29 (rdb (p := 0) (i := 0) ch_cX11_feed_0 rfl)
theorem dX11_feed_1 : decode cX11_feed 1 = .ok (.iconst 1, 1) := do_4 (rdb (p := 0) (i := 1) ch_cX11_feed_0 rfl)
theorem dX11_feed_2 : decode cX11_feed 2 = .ok (.bipush 8, 2) := do_16 (rdb (p := 0) (i := 2) ch_cX11_feed_0 rfl) (rdb (p := 0) (i := 3) ch_cX11_feed_0 rfl) (by decide +kernel)
theorem dX11_feed_4 : decode cX11_feed 4 = .ok (.invokestatic 89, 3) := do_184 (rdb (p := 0) (i := 4) ch_cX11_feed_0 rfl) (rdb (p := 0) (i := 5) ch_cX11_feed_0 rfl) (rdb (p := 0) (i := 6) ch_cX11_feed_0 rfl) rfl
theorem dX11_feed_7 : decode cX11_feed 7 = .ok (.ifCond .ne 9, 3) := do_154 (rdb (p := 0) (i := 7) ch_cX11_feed_0 rfl) (rdb (p := 0) (i := 8) ch_cX11_feed_0 rfl) (rdb (p := 0) (i := 9) ch_cX11_feed_0 rfl) (by decide +kernel)
theorem dX11_feed_10 : decode cX11_feed 10 = .ok (.aload_n 0, 1) := do_42 (rdb (p := 0) (i := 10) ch_cX11_feed_0 rfl)
theorem dX11_feed_11 : decode cX11_feed 11 = .ok (.iconst 1, 1) := do_4 (rdb (p := 0) (i := 11) ch_cX11_feed_0 rfl)
theorem dX11_feed_12 : decode cX11_feed 12 = .ok (.invokevirtual 67, 3) := do_182 (rdb (p := 0) (i := 12) ch_cX11_feed_0 rfl) (rdb (p := 0) (i := 13) ch_cX11_feed_0 rfl) (rdb (p := 0) (i := 14) ch_cX11_feed_0 rfl) rfl
theorem dX11_feed_15 : decode cX11_feed 15 = .ok (.ireturn, 1) := do_172 (rdb (p := 0) (i := 15) ch_cX11_feed_0 rfl)
theorem dX11_feed_16 : decode cX11_feed 16 = .ok (.aload_n 0, 1) := do_42 (rdb (p := 0) (i := 16) ch_cX11_feed_0 rfl)
theorem dX11_feed_17 : decode cX11_feed 17 = .ok (.getfield 10, 3) := do_180 (rdb (p := 0) (i := 17) ch_cX11_feed_0 rfl) (rdb (p := 0) (i := 18) ch_cX11_feed_0 rfl) (rdb (p := 0) (i := 19) ch_cX11_feed_0 rfl) rfl
theorem dX11_feed_20 : decode cX11_feed 20 = .ok (.getfield 192, 3) := do_180 (rdb (p := 0) (i := 20) ch_cX11_feed_0 rfl) (rdb (p := 0) (i := 21) ch_cX11_feed_0 rfl) (rdb (p := 0) (i := 22) ch_cX11_feed_0 rfl) rfl
theorem dX11_feed_23 : decode cX11_feed 23 = .ok (.invokevirtual 196, 3) := do_182 (rdb (p := 0) (i := 23) ch_cX11_feed_0 rfl) (rdb (p := 0) (i := 24) ch_cX11_feed_0 rfl) (rdb (p := 0) (i := 25) ch_cX11_feed_0 rfl) rfl
theorem dX11_feed_26 : decode cX11_feed 26 = .ok (.iload_n 3, 1) := do_29 (rdb (p := 0) (i := 26) ch_cX11_feed_0 rfl)
theorem dX11_feed_27 : decode cX11_feed 27 = .ok (.if_icmp .ge 9, 3) := do_162 (rdb (p := 0) (i := 27) ch_cX11_feed_0 rfl) (rdb (p := 0) (i := 28) ch_cX11_feed_0 rfl) (rdb (p := 0) (i := 29) ch_cX11_feed_0 rfl) (by decide +kernel)
theorem dX11_feed_30 : decode cX11_feed 30 = .ok (.aload_n 0, 1) := do_42 (rdb (p := 0) (i := 30) ch_cX11_feed_0 rfl)
theorem dX11_feed_31 : decode cX11_feed 31 = .ok (.iconst 4, 1) := do_7 (rdb (p := 0) (i := 31) ch_cX11_feed_0 rfl)
theorem ch_cX11_feed_32 : (cX11_feed.data.toList.drop 32).take 36 = [182, 0, 67, 172, 3, 54, 4, 21, 4, 29, 162, 0, 31, 42, 180, 0, 10, 180, 0, 192, 31, 16, 8, 21, 4, 104, 125, 136, 17, 0, 255, 126, 182, 0, 201, 132] := by decide +kernel
theorem dX11_feed_32 : decode cX11_feed 32 = .ok (.invokevirtual 67, 3) := do_182 (rdb (p := 32) (i := 0) ch_cX11_feed_32 rfl) (rdb (p := 32) (i := 1) ch_cX11_feed_32 rfl) (rdb (p := 32) (i := 2) ch_cX11_feed_32 rfl) rfl
theorem dX11_feed_35 : decode cX11_feed 35 = .ok (.ireturn, 1) := do_172 (rdb (p := 32) (i := 3) ch_cX11_feed_32 rfl)
theorem dX11_feed_36 : decode cX11_feed 36 = .ok (.iconst 0, 1) := do_3 (rdb (p := 32) (i := 4) ch_cX11_feed_32 rfl)
theorem dX11_feed_37 : decode cX11_feed 37 = .ok (.istore 4, 2) := do_54 (rdb (p := 32) (i := 5) ch_cX11_feed_32 rfl) (rdb (p := 32) (i := 6) ch_cX11_feed_32 rfl)
theorem dX11_feed_39 : decode cX11_feed 39 = .ok (.iload 4, 2) := do_21 (rdb (p := 32) (i := 7) ch_cX11_feed_32 rfl) (rdb (p := 32) (i := 8) ch_cX11_feed_32 rfl)
theorem dX11_feed_41 : decode cX11_feed 41 = .ok (.iload_n 3, 1) := do_29 (rdb (p := 32) (i := 9) ch_cX11_feed_32 rfl)
theorem dX11_feed_42 : decode cX11_feed 42 = .ok (.if_icmp .ge 31, 3) := do_162 (rdb (p := 32) (i := 10) ch_cX11_feed_32 rfl) (rdb (p := 32) (i := 11) ch_cX11_feed_32 rfl) (rdb (p := 32) (i := 12) ch_cX11_feed_32 rfl) (by decide +kernel)
theorem dX11_feed_45 : decode cX11_feed 45 = .ok (.aload_n 0, 1) := do_42 (rdb (p := 32) (i := 13) ch_cX11_feed_32 rfl)
theorem dX11_feed_46 : decode cX11_feed 46 = .ok (.getfield 10, 3) := do_180 (rdb (p := 32) (i := 14) ch_cX11_feed_32 rfl) (rdb (p := 32) (i := 15) ch_cX11_feed_32 rfl) (rdb (p := 32) (i := 16) ch_cX11_feed_32 rfl) rfl
theorem dX11_feed_49 : decode cX11_feed 49 = .ok (.getfield 192, 3) := do_180 (rdb (p := 32) (i := 17) ch_cX11_feed_32 rfl) (rdb (p := 32) (i := 18) ch_cX11_feed_32 rfl) (rdb (p := 32) (i := 19) ch_cX11_feed_32 rfl) rfl
theorem dX11_feed_52 : decode cX11_feed 52 = .ok (.lload_n 1, 1) := do_31 (rdb (p := 32) (i := 20) ch_cX11_feed_32 rfl)
theorem dX11_feed_53 : decode cX11_feed 53 = .ok (.bipush 8, 2) := do_16 (rdb (p := 32) (i := 21) ch_cX11_feed_32 rfl) (rdb (p := 32) (i := 22) ch_cX11_feed_32 rfl) (by decide +kernel)
theorem dX11_feed_55 : decode cX11_feed 55 = .ok (.iload 4, 2) := do_21 (rdb (p := 32) (i := 23) ch_cX11_feed_32 rfl) (rdb (p := 32) (i := 24) ch_cX11_feed_32 rfl)
theorem dX11_feed_57 : decode cX11_feed 57 = .ok (.imul, 1) := do_104 (rdb (p := 32) (i := 25) ch_cX11_feed_32 rfl)
theorem dX11_feed_58 : decode cX11_feed 58 = .ok (.lushr, 1) := do_125 (rdb (p := 32) (i := 26) ch_cX11_feed_32 rfl)
theorem dX11_feed_59 : decode cX11_feed 59 = .ok (.l2i, 1) := do_136 (rdb (p := 32) (i := 27) ch_cX11_feed_32 rfl)
theorem dX11_feed_60 : decode cX11_feed 60 = .ok (.sipush 255, 3) := do_17 (rdb (p := 32) (i := 28) ch_cX11_feed_32 rfl) (rdb (p := 32) (i := 29) ch_cX11_feed_32 rfl) (rdb (p := 32) (i := 30) ch_cX11_feed_32 rfl) (by decide +kernel)
theorem dX11_feed_63 : decode cX11_feed 63 = .ok (.iand, 1) := do_126 (rdb (p := 32) (i := 31) ch_cX11_feed_32 rfl)
theorem ch_cX11_feed_64 : (cX11_feed.data.toList.drop 64).take 36 = [182, 0, 201, 132, 4, 1, 167, 255, 225, 42, 180, 0, 10, 180, 0, 192, 180, 0, 205, 172] := by decide +kernel
theorem dX11_feed_64 : decode cX11_feed 64 = .ok (.invokevirtual 201, 3) := do_182 (rdb (p := 64) (i := 0) ch_cX11_feed_64 rfl) (rdb (p := 64) (i := 1) ch_cX11_feed_64 rfl) (rdb (p := 64) (i := 2) ch_cX11_feed_64 rfl) rfl
theorem dX11_feed_67 : decode cX11_feed 67 = .ok (.iinc 4 1, 3) := do_132 (rdb (p := 64) (i := 3) ch_cX11_feed_64 rfl) (rdb (p := 64) (i := 4) ch_cX11_feed_64 rfl) (rdb (p := 64) (i := 5) ch_cX11_feed_64 rfl) (by decide +kernel)
theorem dX11_feed_70 : decode cX11_feed 70 = .ok (.goto (-31), 3) := do_167 (rdb (p := 64) (i := 6) ch_cX11_feed_64 rfl) (rdb (p := 64) (i := 7) ch_cX11_feed_64 rfl) (rdb (p := 64) (i := 8) ch_cX11_feed_64 rfl) (by decide +kernel)
theorem dX11_feed_73 : decode cX11_feed 73 = .ok (.aload_n 0, 1) := do_42 (rdb (p := 64) (i := 9) ch_cX11_feed_64 rfl)
theorem dX11_feed_74 : decode cX11_feed 74 = .ok (.getfield 10, 3) := do_180 (rdb (p := 64) (i := 10) ch_cX11_feed_64 rfl) (rdb (p := 64) (i := 11) ch_cX11_feed_64 rfl) (rdb (p := 64) (i := 12) ch_cX11_feed_64 rfl) rfl
theorem dX11_feed_77 : decode cX11_feed 77 = .ok (.getfield 192, 3) := do_180 (rdb (p := 64) (i := 13) ch_cX11_feed_64 rfl) (rdb (p := 64) (i := 14) ch_cX11_feed_64 rfl) (rdb (p := 64) (i := 15) ch_cX11_feed_64 rfl) rfl
theorem dX11_feed_80 : decode cX11_feed 80 = .ok (.getfield 205, 3) := do_180 (rdb (p := 64) (i := 16) ch_cX11_feed_64 rfl) (rdb (p := 64) (i := 17) ch_cX11_feed_64 rfl) (rdb (p := 64) (i := 18) ch_cX11_feed_64 rfl) rfl
theorem dX11_feed_83 : decode cX11_feed 83 = .ok (.ireturn, 1) := do_172 (rdb (p := 64) (i := 19) ch_cX11_feed_64 rfl)
theorem dX11_image_0 : decode cX11_image 0 = .ok (.aload_n 0, 1) := by decide +kernel
theorem dX11_image_1 : decode cX11_image 1 = .ok (.getfield 16, 3) := by decide +kernel
theorem dX11_image_4 : decode cX11_image 4 = .ok (.aload_n 0, 1) := by decide +kernel
theorem dX11_image_5 : decode cX11_image 5 = .ok (.getfield 10, 3) := by decide +kernel
theorem dX11_image_8 : decode cX11_image 8 = .ok (.invokevirtual 382, 3) := by decide +kernel
theorem dX11_image_11 : decode cX11_image 11 = .ok (.aload_n 0, 1) := by decide +kernel
theorem dX11_image_12 : decode cX11_image 12 = .ok (.dup, 1) := by decide +kernel
theorem dX11_image_13 : decode cX11_image 13 = .ok (.getfield 53, 3) := by decide +kernel
theorem dX11_image_16 : decode cX11_image 16 = .ok (.iconst 1, 1) := by decide +kernel
theorem dX11_image_17 : decode cX11_image 17 = .ok (.iadd, 1) := by decide +kernel
theorem dX11_image_18 : decode cX11_image 18 = .ok (.putfield 53, 3) := by decide +kernel
theorem dX11_image_21 : decode cX11_image 21 = .ok (.aload_n 0, 1) := by decide +kernel
theorem dX11_image_22 : decode cX11_image 22 = .ok (.getfield 53, 3) := by decide +kernel
theorem dX11_image_25 : decode cX11_image 25 = .ok (.ireturn, 1) := by decide +kernel
theorem ch_cX11_lesson_0 : (cX11_lesson.data.toList.drop 0).take 36 = [27, 184, 1, 54, 153, 0, 20, 28, 184, 1, 54, 153, 0, 13, 29, 4, 16, 99, 184, 0, 89, 154, 0, 9, 42, 4, 182, 0, 67, 172, 42, 180, 0, 10, 180, 1] := by decide +kernel
theorem dX11_lesson_0 : decode cX11_lesson 0 = .ok (.iload_n 1, 1) := do_27 (rdb (p := 0) (i := 0) ch_cX11_lesson_0 rfl)
theorem dX11_lesson_1 : decode cX11_lesson 1 = .ok (.invokestatic 310, 3) := do_184 (rdb (p := 0) (i := 1) ch_cX11_lesson_0 rfl) (rdb (p := 0) (i := 2) ch_cX11_lesson_0 rfl) (rdb (p := 0) (i := 3) ch_cX11_lesson_0 rfl) rfl
theorem dX11_lesson_4 : decode cX11_lesson 4 = .ok (.ifCond .eq 20, 3) := do_153 (rdb (p := 0) (i := 4) ch_cX11_lesson_0 rfl) (rdb (p := 0) (i := 5) ch_cX11_lesson_0 rfl) (rdb (p := 0) (i := 6) ch_cX11_lesson_0 rfl) (by decide +kernel)
theorem dX11_lesson_7 : decode cX11_lesson 7 = .ok (.iload_n 2, 1) := do_28 (rdb (p := 0) (i := 7) ch_cX11_lesson_0 rfl)
theorem dX11_lesson_8 : decode cX11_lesson 8 = .ok (.invokestatic 310, 3) := do_184 (rdb (p := 0) (i := 8) ch_cX11_lesson_0 rfl) (rdb (p := 0) (i := 9) ch_cX11_lesson_0 rfl) (rdb (p := 0) (i := 10) ch_cX11_lesson_0 rfl) rfl
theorem dX11_lesson_11 : decode cX11_lesson 11 = .ok (.ifCond .eq 13, 3) := do_153 (rdb (p := 0) (i := 11) ch_cX11_lesson_0 rfl) (rdb (p := 0) (i := 12) ch_cX11_lesson_0 rfl) (rdb (p := 0) (i := 13) ch_cX11_lesson_0 rfl) (by decide +kernel)
theorem dX11_lesson_14 : decode cX11_lesson 14 = .ok (.iload_n 3, 1) := do_29 (rdb (p := 0) (i := 14) ch_cX11_lesson_0 rfl)
theorem dX11_lesson_15 : decode cX11_lesson 15 = .ok (.iconst 1, 1) := do_4 (rdb (p := 0) (i := 15) ch_cX11_lesson_0 rfl)
theorem dX11_lesson_16 : decode cX11_lesson 16 = .ok (.bipush 99, 2) := do_16 (rdb (p := 0) (i := 16) ch_cX11_lesson_0 rfl) (rdb (p := 0) (i := 17) ch_cX11_lesson_0 rfl) (by decide +kernel)
theorem dX11_lesson_18 : decode cX11_lesson 18 = .ok (.invokestatic 89, 3) := do_184 (rdb (p := 0) (i := 18) ch_cX11_lesson_0 rfl) (rdb (p := 0) (i := 19) ch_cX11_lesson_0 rfl) (rdb (p := 0) (i := 20) ch_cX11_lesson_0 rfl) rfl
theorem dX11_lesson_21 : decode cX11_lesson 21 = .ok (.ifCond .ne 9, 3) := do_154 (rdb (p := 0) (i := 21) ch_cX11_lesson_0 rfl) (rdb (p := 0) (i := 22) ch_cX11_lesson_0 rfl) (rdb (p := 0) (i := 23) ch_cX11_lesson_0 rfl) (by decide +kernel)
theorem dX11_lesson_24 : decode cX11_lesson 24 = .ok (.aload_n 0, 1) := do_42 (rdb (p := 0) (i := 24) ch_cX11_lesson_0 rfl)
theorem dX11_lesson_25 : decode cX11_lesson 25 = .ok (.iconst 1, 1) := do_4 (rdb (p := 0) (i := 25) ch_cX11_lesson_0 rfl)
theorem dX11_lesson_26 : decode cX11_lesson 26 = .ok (.invokevirtual 67, 3) := do_182 (rdb (p := 0) (i := 26) ch_cX11_lesson_0 rfl) (rdb (p := 0) (i := 27) ch_cX11_lesson_0 rfl) (rdb (p := 0) (i := 28) ch_cX11_lesson_0 rfl) rfl
theorem dX11_lesson_29 : decode cX11_lesson 29 = .ok (.ireturn, 1) := do_172 (rdb (p := 0) (i := 29) ch_cX11_lesson_0 rfl)
theorem dX11_lesson_30 : decode cX11_lesson 30 = .ok (.aload_n 0, 1) := do_42 (rdb (p := 0) (i := 30) ch_cX11_lesson_0 rfl)
theorem dX11_lesson_31 : decode cX11_lesson 31 = .ok (.getfield 10, 3) := do_180 (rdb (p := 0) (i := 31) ch_cX11_lesson_0 rfl) (rdb (p := 0) (i := 32) ch_cX11_lesson_0 rfl) (rdb (p := 0) (i := 33) ch_cX11_lesson_0 rfl) rfl
theorem ch_cX11_lesson_32 : (cX11_lesson.data.toList.drop 32).take 36 = [0, 10, 180, 1, 57, 182, 1, 61, 154, 0, 9, 42, 7, 182, 0, 67, 172, 42, 180, 0, 10, 180, 1, 57, 27, 28, 29, 182, 1, 64, 172] := by decide +kernel
theorem dX11_lesson_34 : decode cX11_lesson 34 = .ok (.getfield 313, 3) := do_180 (rdb (p := 32) (i := 2) ch_cX11_lesson_32 rfl) (rdb (p := 32) (i := 3) ch_cX11_lesson_32 rfl) (rdb (p := 32) (i := 4) ch_cX11_lesson_32 rfl) rfl
theorem dX11_lesson_37 : decode cX11_lesson 37 = .ok (.invokevirtual 317, 3) := do_182 (rdb (p := 32) (i := 5) ch_cX11_lesson_32 rfl) (rdb (p := 32) (i := 6) ch_cX11_lesson_32 rfl) (rdb (p := 32) (i := 7) ch_cX11_lesson_32 rfl) rfl
theorem dX11_lesson_40 : decode cX11_lesson 40 = .ok (.ifCond .ne 9, 3) := do_154 (rdb (p := 32) (i := 8) ch_cX11_lesson_32 rfl) (rdb (p := 32) (i := 9) ch_cX11_lesson_32 rfl) (rdb (p := 32) (i := 10) ch_cX11_lesson_32 rfl) (by decide +kernel)
theorem dX11_lesson_43 : decode cX11_lesson 43 = .ok (.aload_n 0, 1) := do_42 (rdb (p := 32) (i := 11) ch_cX11_lesson_32 rfl)
theorem dX11_lesson_44 : decode cX11_lesson 44 = .ok (.iconst 4, 1) := do_7 (rdb (p := 32) (i := 12) ch_cX11_lesson_32 rfl)
theorem dX11_lesson_45 : decode cX11_lesson 45 = .ok (.invokevirtual 67, 3) := do_182 (rdb (p := 32) (i := 13) ch_cX11_lesson_32 rfl) (rdb (p := 32) (i := 14) ch_cX11_lesson_32 rfl) (rdb (p := 32) (i := 15) ch_cX11_lesson_32 rfl) rfl
theorem dX11_lesson_48 : decode cX11_lesson 48 = .ok (.ireturn, 1) := do_172 (rdb (p := 32) (i := 16) ch_cX11_lesson_32 rfl)
theorem dX11_lesson_49 : decode cX11_lesson 49 = .ok (.aload_n 0, 1) := do_42 (rdb (p := 32) (i := 17) ch_cX11_lesson_32 rfl)
theorem dX11_lesson_50 : decode cX11_lesson 50 = .ok (.getfield 10, 3) := do_180 (rdb (p := 32) (i := 18) ch_cX11_lesson_32 rfl) (rdb (p := 32) (i := 19) ch_cX11_lesson_32 rfl) (rdb (p := 32) (i := 20) ch_cX11_lesson_32 rfl) rfl
theorem dX11_lesson_53 : decode cX11_lesson 53 = .ok (.getfield 313, 3) := do_180 (rdb (p := 32) (i := 21) ch_cX11_lesson_32 rfl) (rdb (p := 32) (i := 22) ch_cX11_lesson_32 rfl) (rdb (p := 32) (i := 23) ch_cX11_lesson_32 rfl) rfl
theorem dX11_lesson_56 : decode cX11_lesson 56 = .ok (.iload_n 1, 1) := do_27 (rdb (p := 32) (i := 24) ch_cX11_lesson_32 rfl)
theorem dX11_lesson_57 : decode cX11_lesson 57 = .ok (.iload_n 2, 1) := do_28 (rdb (p := 32) (i := 25) ch_cX11_lesson_32 rfl)
theorem dX11_lesson_58 : decode cX11_lesson 58 = .ok (.iload_n 3, 1) := do_29 (rdb (p := 32) (i := 26) ch_cX11_lesson_32 rfl)
theorem dX11_lesson_59 : decode cX11_lesson 59 = .ok (.invokevirtual 320, 3) := do_182 (rdb (p := 32) (i := 27) ch_cX11_lesson_32 rfl) (rdb (p := 32) (i := 28) ch_cX11_lesson_32 rfl) (rdb (p := 32) (i := 29) ch_cX11_lesson_32 rfl) rfl
theorem dX11_lesson_62 : decode cX11_lesson 62 = .ok (.ireturn, 1) := do_172 (rdb (p := 32) (i := 30) ch_cX11_lesson_32 rfl)
theorem ch_cX11_move_0 : (cX11_move.data.toList.drop 0).take 36 = [27, 184, 0, 127, 153, 0, 10, 29, 184, 0, 127, 154, 0, 9, 42, 4, 182, 0, 67, 172, 42, 180, 0, 24, 27, 50, 58, 6, 42, 180, 0, 24, 29, 50, 58, 7] := by decide +kernel
theorem dX11_move_0 : decode cX11_move 0 = .ok (.iload_n 1, 1) := do_27 (rdb (p := 0) (i := 0) ch_cX11_move_0 rfl)
theorem dX11_move_1 : decode cX11_move 1 = .ok (.invokestatic 127, 3) := do_184 (rdb (p := 0) (i := 1) ch_cX11_move_0 rfl) (rdb (p := 0) (i := 2) ch_cX11_move_0 rfl) (rdb (p := 0) (i := 3) ch_cX11_move_0 rfl) rfl
theorem dX11_move_4 : decode cX11_move 4 = .ok (.ifCond .eq 10, 3) := do_153 (rdb (p := 0) (i := 4) ch_cX11_move_0 rfl) (rdb (p := 0) (i := 5) ch_cX11_move_0 rfl) (rdb (p := 0) (i := 6) ch_cX11_move_0 rfl) (by decide +kernel)
theorem dX11_move_7 : decode cX11_move 7 = .ok (.iload_n 3, 1) := do_29 (rdb (p := 0) (i := 7) ch_cX11_move_0 rfl)
theorem dX11_move_8 : decode cX11_move 8 = .ok (.invokestatic 127, 3) := do_184 (rdb (p := 0) (i := 8) ch_cX11_move_0 rfl) (rdb (p := 0) (i := 9) ch_cX11_move_0 rfl) (rdb (p := 0) (i := 10) ch_cX11_move_0 rfl) rfl
theorem dX11_move_11 : decode cX11_move 11 = .ok (.ifCond .ne 9, 3) := do_154 (rdb (p := 0) (i := 11) ch_cX11_move_0 rfl) (rdb (p := 0) (i := 12) ch_cX11_move_0 rfl) (rdb (p := 0) (i := 13) ch_cX11_move_0 rfl) (by decide +kernel)
theorem dX11_move_14 : decode cX11_move 14 = .ok (.aload_n 0, 1) := do_42 (rdb (p := 0) (i := 14) ch_cX11_move_0 rfl)
theorem dX11_move_15 : decode cX11_move 15 = .ok (.iconst 1, 1) := do_4 (rdb (p := 0) (i := 15) ch_cX11_move_0 rfl)
theorem dX11_move_16 : decode cX11_move 16 = .ok (.invokevirtual 67, 3) := do_182 (rdb (p := 0) (i := 16) ch_cX11_move_0 rfl) (rdb (p := 0) (i := 17) ch_cX11_move_0 rfl) (rdb (p := 0) (i := 18) ch_cX11_move_0 rfl) rfl
theorem dX11_move_19 : decode cX11_move 19 = .ok (.ireturn, 1) := do_172 (rdb (p := 0) (i := 19) ch_cX11_move_0 rfl)
theorem dX11_move_20 : decode cX11_move 20 = .ok (.aload_n 0, 1) := do_42 (rdb (p := 0) (i := 20) ch_cX11_move_0 rfl)
theorem dX11_move_21 : decode cX11_move 21 = .ok (.getfield 24, 3) := do_180 (rdb (p := 0) (i := 21) ch_cX11_move_0 rfl) (rdb (p := 0) (i := 22) ch_cX11_move_0 rfl) (rdb (p := 0) (i := 23) ch_cX11_move_0 rfl) rfl
theorem dX11_move_24 : decode cX11_move 24 = .ok (.iload_n 1, 1) := do_27 (rdb (p := 0) (i := 24) ch_cX11_move_0 rfl)
theorem dX11_move_25 : decode cX11_move 25 = .ok (.aaload, 1) := do_50 (rdb (p := 0) (i := 25) ch_cX11_move_0 rfl)
theorem dX11_move_26 : decode cX11_move 26 = .ok (.astore 6, 2) := do_58 (rdb (p := 0) (i := 26) ch_cX11_move_0 rfl) (rdb (p := 0) (i := 27) ch_cX11_move_0 rfl)
theorem dX11_move_28 : decode cX11_move 28 = .ok (.aload_n 0, 1) := do_42 (rdb (p := 0) (i := 28) ch_cX11_move_0 rfl)
theorem dX11_move_29 : decode cX11_move 29 = .ok (.getfield 24, 3) := do_180 (rdb (p := 0) (i := 29) ch_cX11_move_0 rfl) (rdb (p := 0) (i := 30) ch_cX11_move_0 rfl) (rdb (p := 0) (i := 31) ch_cX11_move_0 rfl) rfl
theorem ch_cX11_move_32 : (cX11_move.data.toList.drop 32).take 36 = [29, 50, 58, 7, 25, 6, 182, 0, 130, 154, 0, 11, 25, 7, 182, 0, 130, 153, 0, 9, 42, 5, 182, 0, 67, 172, 25, 6, 180, 0, 133, 25, 7, 180, 0, 133] := by decide +kernel
theorem dX11_move_32 : decode cX11_move 32 = .ok (.iload_n 3, 1) := do_29 (rdb (p := 32) (i := 0) ch_cX11_move_32 rfl)
theorem dX11_move_33 : decode cX11_move 33 = .ok (.aaload, 1) := do_50 (rdb (p := 32) (i := 1) ch_cX11_move_32 rfl)
theorem dX11_move_34 : decode cX11_move 34 = .ok (.astore 7, 2) := do_58 (rdb (p := 32) (i := 2) ch_cX11_move_32 rfl) (rdb (p := 32) (i := 3) ch_cX11_move_32 rfl)
theorem dX11_move_36 : decode cX11_move 36 = .ok (.aload 6, 2) := do_25 (rdb (p := 32) (i := 4) ch_cX11_move_32 rfl) (rdb (p := 32) (i := 5) ch_cX11_move_32 rfl)
theorem dX11_move_38 : decode cX11_move 38 = .ok (.invokevirtual 130, 3) := do_182 (rdb (p := 32) (i := 6) ch_cX11_move_32 rfl) (rdb (p := 32) (i := 7) ch_cX11_move_32 rfl) (rdb (p := 32) (i := 8) ch_cX11_move_32 rfl) rfl
theorem dX11_move_41 : decode cX11_move 41 = .ok (.ifCond .ne 11, 3) := do_154 (rdb (p := 32) (i := 9) ch_cX11_move_32 rfl) (rdb (p := 32) (i := 10) ch_cX11_move_32 rfl) (rdb (p := 32) (i := 11) ch_cX11_move_32 rfl) (by decide +kernel)
theorem dX11_move_44 : decode cX11_move 44 = .ok (.aload 7, 2) := do_25 (rdb (p := 32) (i := 12) ch_cX11_move_32 rfl) (rdb (p := 32) (i := 13) ch_cX11_move_32 rfl)
theorem dX11_move_46 : decode cX11_move 46 = .ok (.invokevirtual 130, 3) := do_182 (rdb (p := 32) (i := 14) ch_cX11_move_32 rfl) (rdb (p := 32) (i := 15) ch_cX11_move_32 rfl) (rdb (p := 32) (i := 16) ch_cX11_move_32 rfl) rfl
theorem dX11_move_49 : decode cX11_move 49 = .ok (.ifCond .eq 9, 3) := do_153 (rdb (p := 32) (i := 17) ch_cX11_move_32 rfl) (rdb (p := 32) (i := 18) ch_cX11_move_32 rfl) (rdb (p := 32) (i := 19) ch_cX11_move_32 rfl) (by decide +kernel)
theorem dX11_move_52 : decode cX11_move 52 = .ok (.aload_n 0, 1) := do_42 (rdb (p := 32) (i := 20) ch_cX11_move_32 rfl)
theorem dX11_move_53 : decode cX11_move 53 = .ok (.iconst 2, 1) := do_5 (rdb (p := 32) (i := 21) ch_cX11_move_32 rfl)
theorem dX11_move_54 : decode cX11_move 54 = .ok (.invokevirtual 67, 3) := do_182 (rdb (p := 32) (i := 22) ch_cX11_move_32 rfl) (rdb (p := 32) (i := 23) ch_cX11_move_32 rfl) (rdb (p := 32) (i := 24) ch_cX11_move_32 rfl) rfl
theorem dX11_move_57 : decode cX11_move 57 = .ok (.ireturn, 1) := do_172 (rdb (p := 32) (i := 25) ch_cX11_move_32 rfl)
theorem dX11_move_58 : decode cX11_move 58 = .ok (.aload 6, 2) := do_25 (rdb (p := 32) (i := 26) ch_cX11_move_32 rfl) (rdb (p := 32) (i := 27) ch_cX11_move_32 rfl)
theorem dX11_move_60 : decode cX11_move 60 = .ok (.getfield 133, 3) := do_180 (rdb (p := 32) (i := 28) ch_cX11_move_32 rfl) (rdb (p := 32) (i := 29) ch_cX11_move_32 rfl) (rdb (p := 32) (i := 30) ch_cX11_move_32 rfl) rfl
theorem dX11_move_63 : decode cX11_move 63 = .ok (.aload 7, 2) := do_25 (rdb (p := 32) (i := 31) ch_cX11_move_32 rfl) (rdb (p := 32) (i := 32) ch_cX11_move_32 rfl)
theorem ch_cX11_move_64 : (cX11_move.data.toList.drop 64).take 36 = [7, 180, 0, 133, 159, 0, 9, 42, 8, 182, 0, 67, 172, 25, 6, 28, 21, 5, 182, 1, 114, 153, 0, 15, 25, 7, 21, 4, 21, 5, 182, 1, 114, 154, 0, 9] := by decide +kernel
theorem dX11_move_65 : decode cX11_move 65 = .ok (.getfield 133, 3) := do_180 (rdb (p := 64) (i := 1) ch_cX11_move_64 rfl) (rdb (p := 64) (i := 2) ch_cX11_move_64 rfl) (rdb (p := 64) (i := 3) ch_cX11_move_64 rfl) rfl
theorem dX11_move_68 : decode cX11_move 68 = .ok (.if_icmp .eq 9, 3) := do_159 (rdb (p := 64) (i := 4) ch_cX11_move_64 rfl) (rdb (p := 64) (i := 5) ch_cX11_move_64 rfl) (rdb (p := 64) (i := 6) ch_cX11_move_64 rfl) (by decide +kernel)
theorem dX11_move_71 : decode cX11_move 71 = .ok (.aload_n 0, 1) := do_42 (rdb (p := 64) (i := 7) ch_cX11_move_64 rfl)
theorem dX11_move_72 : decode cX11_move 72 = .ok (.iconst 5, 1) := do_8 (rdb (p := 64) (i := 8) ch_cX11_move_64 rfl)
theorem dX11_move_73 : decode cX11_move 73 = .ok (.invokevirtual 67, 3) := do_182 (rdb (p := 64) (i := 9) ch_cX11_move_64 rfl) (rdb (p := 64) (i := 10) ch_cX11_move_64 rfl) (rdb (p := 64) (i := 11) ch_cX11_move_64 rfl) rfl
theorem dX11_move_76 : decode cX11_move 76 = .ok (.ireturn, 1) := do_172 (rdb (p := 64) (i := 12) ch_cX11_move_64 rfl)
theorem dX11_move_77 : decode cX11_move 77 = .ok (.aload 6, 2) := do_25 (rdb (p := 64) (i := 13) ch_cX11_move_64 rfl) (rdb (p := 64) (i := 14) ch_cX11_move_64 rfl)
theorem dX11_move_79 : decode cX11_move 79 = .ok (.iload_n 2, 1) := do_28 (rdb (p := 64) (i := 15) ch_cX11_move_64 rfl)
theorem dX11_move_80 : decode cX11_move 80 = .ok (.iload 5, 2) := do_21 (rdb (p := 64) (i := 16) ch_cX11_move_64 rfl) (rdb (p := 64) (i := 17) ch_cX11_move_64 rfl)
theorem dX11_move_82 : decode cX11_move 82 = .ok (.invokevirtual 370, 3) := do_182 (rdb (p := 64) (i := 18) ch_cX11_move_64 rfl) (rdb (p := 64) (i := 19) ch_cX11_move_64 rfl) (rdb (p := 64) (i := 20) ch_cX11_move_64 rfl) rfl
theorem dX11_move_85 : decode cX11_move 85 = .ok (.ifCond .eq 15, 3) := do_153 (rdb (p := 64) (i := 21) ch_cX11_move_64 rfl) (rdb (p := 64) (i := 22) ch_cX11_move_64 rfl) (rdb (p := 64) (i := 23) ch_cX11_move_64 rfl) (by decide +kernel)
theorem dX11_move_88 : decode cX11_move 88 = .ok (.aload 7, 2) := do_25 (rdb (p := 64) (i := 24) ch_cX11_move_64 rfl) (rdb (p := 64) (i := 25) ch_cX11_move_64 rfl)
theorem dX11_move_90 : decode cX11_move 90 = .ok (.iload 4, 2) := do_21 (rdb (p := 64) (i := 26) ch_cX11_move_64 rfl) (rdb (p := 64) (i := 27) ch_cX11_move_64 rfl)
theorem dX11_move_92 : decode cX11_move 92 = .ok (.iload 5, 2) := do_21 (rdb (p := 64) (i := 28) ch_cX11_move_64 rfl) (rdb (p := 64) (i := 29) ch_cX11_move_64 rfl)
theorem dX11_move_94 : decode cX11_move 94 = .ok (.invokevirtual 370, 3) := do_182 (rdb (p := 64) (i := 30) ch_cX11_move_64 rfl) (rdb (p := 64) (i := 31) ch_cX11_move_64 rfl) (rdb (p := 64) (i := 32) ch_cX11_move_64 rfl) rfl
theorem ch_cX11_move_96 : (cX11_move.data.toList.drop 96).take 36 = [114, 154, 0, 9, 42, 4, 182, 0, 67, 172, 25, 6, 180, 1, 117, 28, 25, 7, 180, 1, 117, 21, 4, 21, 5, 184, 1, 120, 21, 5, 172] := by decide +kernel
theorem dX11_move_97 : decode cX11_move 97 = .ok (.ifCond .ne 9, 3) := do_154 (rdb (p := 96) (i := 1) ch_cX11_move_96 rfl) (rdb (p := 96) (i := 2) ch_cX11_move_96 rfl) (rdb (p := 96) (i := 3) ch_cX11_move_96 rfl) (by decide +kernel)
theorem dX11_move_100 : decode cX11_move 100 = .ok (.aload_n 0, 1) := do_42 (rdb (p := 96) (i := 4) ch_cX11_move_96 rfl)
theorem dX11_move_101 : decode cX11_move 101 = .ok (.iconst 1, 1) := do_4 (rdb (p := 96) (i := 5) ch_cX11_move_96 rfl)
theorem dX11_move_102 : decode cX11_move 102 = .ok (.invokevirtual 67, 3) := do_182 (rdb (p := 96) (i := 6) ch_cX11_move_96 rfl) (rdb (p := 96) (i := 7) ch_cX11_move_96 rfl) (rdb (p := 96) (i := 8) ch_cX11_move_96 rfl) rfl
theorem dX11_move_105 : decode cX11_move 105 = .ok (.ireturn, 1) := do_172 (rdb (p := 96) (i := 9) ch_cX11_move_96 rfl)
theorem dX11_move_106 : decode cX11_move 106 = .ok (.aload 6, 2) := do_25 (rdb (p := 96) (i := 10) ch_cX11_move_96 rfl) (rdb (p := 96) (i := 11) ch_cX11_move_96 rfl)
theorem dX11_move_108 : decode cX11_move 108 = .ok (.getfield 373, 3) := do_180 (rdb (p := 96) (i := 12) ch_cX11_move_96 rfl) (rdb (p := 96) (i := 13) ch_cX11_move_96 rfl) (rdb (p := 96) (i := 14) ch_cX11_move_96 rfl) rfl
theorem dX11_move_111 : decode cX11_move 111 = .ok (.iload_n 2, 1) := do_28 (rdb (p := 96) (i := 15) ch_cX11_move_96 rfl)
theorem dX11_move_112 : decode cX11_move 112 = .ok (.aload 7, 2) := do_25 (rdb (p := 96) (i := 16) ch_cX11_move_96 rfl) (rdb (p := 96) (i := 17) ch_cX11_move_96 rfl)
theorem dX11_move_114 : decode cX11_move 114 = .ok (.getfield 373, 3) := do_180 (rdb (p := 96) (i := 18) ch_cX11_move_96 rfl) (rdb (p := 96) (i := 19) ch_cX11_move_96 rfl) (rdb (p := 96) (i := 20) ch_cX11_move_96 rfl) rfl
theorem dX11_move_117 : decode cX11_move 117 = .ok (.iload 4, 2) := do_21 (rdb (p := 96) (i := 21) ch_cX11_move_96 rfl) (rdb (p := 96) (i := 22) ch_cX11_move_96 rfl)
theorem dX11_move_119 : decode cX11_move 119 = .ok (.iload 5, 2) := do_21 (rdb (p := 96) (i := 23) ch_cX11_move_96 rfl) (rdb (p := 96) (i := 24) ch_cX11_move_96 rfl)
theorem dX11_move_121 : decode cX11_move 121 = .ok (.invokestatic 376, 3) := do_184 (rdb (p := 96) (i := 25) ch_cX11_move_96 rfl) (rdb (p := 96) (i := 26) ch_cX11_move_96 rfl) (rdb (p := 96) (i := 27) ch_cX11_move_96 rfl) rfl
theorem dX11_move_124 : decode cX11_move 124 = .ok (.iload 5, 2) := do_21 (rdb (p := 96) (i := 28) ch_cX11_move_96 rfl) (rdb (p := 96) (i := 29) ch_cX11_move_96 rfl)
theorem dX11_move_126 : decode cX11_move 126 = .ok (.ireturn, 1) := do_172 (rdb (p := 96) (i := 30) ch_cX11_move_96 rfl)
theorem ch_cX11_posts_0 : (cX11_posts.data.toList.drop 0).take 36 = [42, 180, 0, 10, 27, 182, 0, 154, 153, 0, 27, 28, 184, 0, 127, 153, 0, 20, 29, 184, 0, 127, 153, 0, 13, 21, 4, 3, 4, 184, 0, 89, 154, 0, 9, 42] := by decide +kernel
theorem dX11_posts_0 : decode cX11_posts 0 = .ok (.aload_n 0, 1) := do_42 (rdb (p := 0) (i := 0) ch_cX11_posts_0 rfl)
theorem dX11_posts_1 : decode cX11_posts 1 = .ok (.getfield 10, 3) := do_180 (rdb (p := 0) (i := 1) ch_cX11_posts_0 rfl) (rdb (p := 0) (i := 2) ch_cX11_posts_0 rfl) (rdb (p := 0) (i := 3) ch_cX11_posts_0 rfl) rfl
theorem dX11_posts_4 : decode cX11_posts 4 = .ok (.iload_n 1, 1) := do_27 (rdb (p := 0) (i := 4) ch_cX11_posts_0 rfl)
theorem dX11_posts_5 : decode cX11_posts 5 = .ok (.invokevirtual 154, 3) := do_182 (rdb (p := 0) (i := 5) ch_cX11_posts_0 rfl) (rdb (p := 0) (i := 6) ch_cX11_posts_0 rfl) (rdb (p := 0) (i := 7) ch_cX11_posts_0 rfl) rfl
theorem dX11_posts_8 : decode cX11_posts 8 = .ok (.ifCond .eq 27, 3) := do_153 (rdb (p := 0) (i := 8) ch_cX11_posts_0 rfl) (rdb (p := 0) (i := 9) ch_cX11_posts_0 rfl) (rdb (p := 0) (i := 10) ch_cX11_posts_0 rfl) (by decide +kernel)
theorem dX11_posts_11 : decode cX11_posts 11 = .ok (.iload_n 2, 1) := do_28 (rdb (p := 0) (i := 11) ch_cX11_posts_0 rfl)
theorem dX11_posts_12 : decode cX11_posts 12 = .ok (.invokestatic 127, 3) := do_184 (rdb (p := 0) (i := 12) ch_cX11_posts_0 rfl) (rdb (p := 0) (i := 13) ch_cX11_posts_0 rfl) (rdb (p := 0) (i := 14) ch_cX11_posts_0 rfl) rfl
theorem dX11_posts_15 : decode cX11_posts 15 = .ok (.ifCond .eq 20, 3) := do_153 (rdb (p := 0) (i := 15) ch_cX11_posts_0 rfl) (rdb (p := 0) (i := 16) ch_cX11_posts_0 rfl) (rdb (p := 0) (i := 17) ch_cX11_posts_0 rfl) (by decide +kernel)
theorem dX11_posts_18 : decode cX11_posts 18 = .ok (.iload_n 3, 1) := do_29 (rdb (p := 0) (i := 18) ch_cX11_posts_0 rfl)
theorem dX11_posts_19 : decode cX11_posts 19 = .ok (.invokestatic 127, 3) := do_184 (rdb (p := 0) (i := 19) ch_cX11_posts_0 rfl) (rdb (p := 0) (i := 20) ch_cX11_posts_0 rfl) (rdb (p := 0) (i := 21) ch_cX11_posts_0 rfl) rfl
theorem dX11_posts_22 : decode cX11_posts 22 = .ok (.ifCond .eq 13, 3) := do_153 (rdb (p := 0) (i := 22) ch_cX11_posts_0 rfl) (rdb (p := 0) (i := 23) ch_cX11_posts_0 rfl) (rdb (p := 0) (i := 24) ch_cX11_posts_0 rfl) (by decide +kernel)
theorem dX11_posts_25 : decode cX11_posts 25 = .ok (.iload 4, 2) := do_21 (rdb (p := 0) (i := 25) ch_cX11_posts_0 rfl) (rdb (p := 0) (i := 26) ch_cX11_posts_0 rfl)
theorem dX11_posts_27 : decode cX11_posts 27 = .ok (.iconst 0, 1) := do_3 (rdb (p := 0) (i := 27) ch_cX11_posts_0 rfl)
theorem dX11_posts_28 : decode cX11_posts 28 = .ok (.iconst 1, 1) := do_4 (rdb (p := 0) (i := 28) ch_cX11_posts_0 rfl)
theorem dX11_posts_29 : decode cX11_posts 29 = .ok (.invokestatic 89, 3) := do_184 (rdb (p := 0) (i := 29) ch_cX11_posts_0 rfl) (rdb (p := 0) (i := 30) ch_cX11_posts_0 rfl) (rdb (p := 0) (i := 31) ch_cX11_posts_0 rfl) rfl
theorem ch_cX11_posts_32 : (cX11_posts.data.toList.drop 32).take 36 = [154, 0, 9, 42, 4, 182, 0, 67, 172, 42, 180, 0, 24, 28, 50, 182, 0, 130, 154, 0, 15, 42, 180, 0, 24, 29, 50, 182, 0, 130, 153, 0, 9, 42, 5, 182] := by decide +kernel
theorem dX11_posts_32 : decode cX11_posts 32 = .ok (.ifCond .ne 9, 3) := do_154 (rdb (p := 32) (i := 0) ch_cX11_posts_32 rfl) (rdb (p := 32) (i := 1) ch_cX11_posts_32 rfl) (rdb (p := 32) (i := 2) ch_cX11_posts_32 rfl) (by decide +kernel)
theorem dX11_posts_35 : decode cX11_posts 35 = .ok (.aload_n 0, 1) := do_42 (rdb (p := 32) (i := 3) ch_cX11_posts_32 rfl)
theorem dX11_posts_36 : decode cX11_posts 36 = .ok (.iconst 1, 1) := do_4 (rdb (p := 32) (i := 4) ch_cX11_posts_32 rfl)
theorem dX11_posts_37 : decode cX11_posts 37 = .ok (.invokevirtual 67, 3) := do_182 (rdb (p := 32) (i := 5) ch_cX11_posts_32 rfl) (rdb (p := 32) (i := 6) ch_cX11_posts_32 rfl) (rdb (p := 32) (i := 7) ch_cX11_posts_32 rfl) rfl
theorem dX11_posts_40 : decode cX11_posts 40 = .ok (.ireturn, 1) := do_172 (rdb (p := 32) (i := 8) ch_cX11_posts_32 rfl)
theorem dX11_posts_41 : decode cX11_posts 41 = .ok (.aload_n 0, 1) := do_42 (rdb (p := 32) (i := 9) ch_cX11_posts_32 rfl)
theorem dX11_posts_42 : decode cX11_posts 42 = .ok (.getfield 24, 3) := do_180 (rdb (p := 32) (i := 10) ch_cX11_posts_32 rfl) (rdb (p := 32) (i := 11) ch_cX11_posts_32 rfl) (rdb (p := 32) (i := 12) ch_cX11_posts_32 rfl) rfl
theorem dX11_posts_45 : decode cX11_posts 45 = .ok (.iload_n 2, 1) := do_28 (rdb (p := 32) (i := 13) ch_cX11_posts_32 rfl)
theorem dX11_posts_46 : decode cX11_posts 46 = .ok (.aaload, 1) := do_50 (rdb (p := 32) (i := 14) ch_cX11_posts_32 rfl)
theorem dX11_posts_47 : decode cX11_posts 47 = .ok (.invokevirtual 130, 3) := do_182 (rdb (p := 32) (i := 15) ch_cX11_posts_32 rfl) (rdb (p := 32) (i := 16) ch_cX11_posts_32 rfl) (rdb (p := 32) (i := 17) ch_cX11_posts_32 rfl) rfl
theorem dX11_posts_50 : decode cX11_posts 50 = .ok (.ifCond .ne 15, 3) := do_154 (rdb (p := 32) (i := 18) ch_cX11_posts_32 rfl) (rdb (p := 32) (i := 19) ch_cX11_posts_32 rfl) (rdb (p := 32) (i := 20) ch_cX11_posts_32 rfl) (by decide +kernel)
theorem dX11_posts_53 : decode cX11_posts 53 = .ok (.aload_n 0, 1) := do_42 (rdb (p := 32) (i := 21) ch_cX11_posts_32 rfl)
theorem dX11_posts_54 : decode cX11_posts 54 = .ok (.getfield 24, 3) := do_180 (rdb (p := 32) (i := 22) ch_cX11_posts_32 rfl) (rdb (p := 32) (i := 23) ch_cX11_posts_32 rfl) (rdb (p := 32) (i := 24) ch_cX11_posts_32 rfl) rfl
theorem dX11_posts_57 : decode cX11_posts 57 = .ok (.iload_n 3, 1) := do_29 (rdb (p := 32) (i := 25) ch_cX11_posts_32 rfl)
theorem dX11_posts_58 : decode cX11_posts 58 = .ok (.aaload, 1) := do_50 (rdb (p := 32) (i := 26) ch_cX11_posts_32 rfl)
theorem dX11_posts_59 : decode cX11_posts 59 = .ok (.invokevirtual 130, 3) := do_182 (rdb (p := 32) (i := 27) ch_cX11_posts_32 rfl) (rdb (p := 32) (i := 28) ch_cX11_posts_32 rfl) (rdb (p := 32) (i := 29) ch_cX11_posts_32 rfl) rfl
theorem dX11_posts_62 : decode cX11_posts 62 = .ok (.ifCond .eq 9, 3) := do_153 (rdb (p := 32) (i := 30) ch_cX11_posts_32 rfl) (rdb (p := 32) (i := 31) ch_cX11_posts_32 rfl) (rdb (p := 32) (i := 32) ch_cX11_posts_32 rfl) (by decide +kernel)
theorem ch_cX11_posts_64 : (cX11_posts.data.toList.drop 64).take 36 = [9, 42, 5, 182, 0, 67, 172, 42, 180, 0, 24, 28, 50, 182, 1, 18, 153, 0, 15, 42, 180, 0, 24, 29, 50, 182, 1, 18, 154, 0, 9, 42, 8, 182, 0, 67] := by decide +kernel
theorem dX11_posts_65 : decode cX11_posts 65 = .ok (.aload_n 0, 1) := do_42 (rdb (p := 64) (i := 1) ch_cX11_posts_64 rfl)
theorem dX11_posts_66 : decode cX11_posts 66 = .ok (.iconst 2, 1) := do_5 (rdb (p := 64) (i := 2) ch_cX11_posts_64 rfl)
theorem dX11_posts_67 : decode cX11_posts 67 = .ok (.invokevirtual 67, 3) := do_182 (rdb (p := 64) (i := 3) ch_cX11_posts_64 rfl) (rdb (p := 64) (i := 4) ch_cX11_posts_64 rfl) (rdb (p := 64) (i := 5) ch_cX11_posts_64 rfl) rfl
theorem dX11_posts_70 : decode cX11_posts 70 = .ok (.ireturn, 1) := do_172 (rdb (p := 64) (i := 6) ch_cX11_posts_64 rfl)
theorem dX11_posts_71 : decode cX11_posts 71 = .ok (.aload_n 0, 1) := do_42 (rdb (p := 64) (i := 7) ch_cX11_posts_64 rfl)
theorem dX11_posts_72 : decode cX11_posts 72 = .ok (.getfield 24, 3) := do_180 (rdb (p := 64) (i := 8) ch_cX11_posts_64 rfl) (rdb (p := 64) (i := 9) ch_cX11_posts_64 rfl) (rdb (p := 64) (i := 10) ch_cX11_posts_64 rfl) rfl
theorem dX11_posts_75 : decode cX11_posts 75 = .ok (.iload_n 2, 1) := do_28 (rdb (p := 64) (i := 11) ch_cX11_posts_64 rfl)
theorem dX11_posts_76 : decode cX11_posts 76 = .ok (.aaload, 1) := do_50 (rdb (p := 64) (i := 12) ch_cX11_posts_64 rfl)
theorem dX11_posts_77 : decode cX11_posts 77 = .ok (.invokevirtual 274, 3) := do_182 (rdb (p := 64) (i := 13) ch_cX11_posts_64 rfl) (rdb (p := 64) (i := 14) ch_cX11_posts_64 rfl) (rdb (p := 64) (i := 15) ch_cX11_posts_64 rfl) rfl
theorem dX11_posts_80 : decode cX11_posts 80 = .ok (.ifCond .eq 15, 3) := do_153 (rdb (p := 64) (i := 16) ch_cX11_posts_64 rfl) (rdb (p := 64) (i := 17) ch_cX11_posts_64 rfl) (rdb (p := 64) (i := 18) ch_cX11_posts_64 rfl) (by decide +kernel)
theorem dX11_posts_83 : decode cX11_posts 83 = .ok (.aload_n 0, 1) := do_42 (rdb (p := 64) (i := 19) ch_cX11_posts_64 rfl)
theorem dX11_posts_84 : decode cX11_posts 84 = .ok (.getfield 24, 3) := do_180 (rdb (p := 64) (i := 20) ch_cX11_posts_64 rfl) (rdb (p := 64) (i := 21) ch_cX11_posts_64 rfl) (rdb (p := 64) (i := 22) ch_cX11_posts_64 rfl) rfl
theorem dX11_posts_87 : decode cX11_posts 87 = .ok (.iload_n 3, 1) := do_29 (rdb (p := 64) (i := 23) ch_cX11_posts_64 rfl)
theorem dX11_posts_88 : decode cX11_posts 88 = .ok (.aaload, 1) := do_50 (rdb (p := 64) (i := 24) ch_cX11_posts_64 rfl)
theorem dX11_posts_89 : decode cX11_posts 89 = .ok (.invokevirtual 274, 3) := do_182 (rdb (p := 64) (i := 25) ch_cX11_posts_64 rfl) (rdb (p := 64) (i := 26) ch_cX11_posts_64 rfl) (rdb (p := 64) (i := 27) ch_cX11_posts_64 rfl) rfl
theorem dX11_posts_92 : decode cX11_posts 92 = .ok (.ifCond .ne 9, 3) := do_154 (rdb (p := 64) (i := 28) ch_cX11_posts_64 rfl) (rdb (p := 64) (i := 29) ch_cX11_posts_64 rfl) (rdb (p := 64) (i := 30) ch_cX11_posts_64 rfl) (by decide +kernel)
theorem dX11_posts_95 : decode cX11_posts 95 = .ok (.aload_n 0, 1) := do_42 (rdb (p := 64) (i := 31) ch_cX11_posts_64 rfl)
theorem ch_cX11_posts_96 : (cX11_posts.data.toList.drop 96).take 36 = [8, 182, 0, 67, 172, 42, 180, 0, 42, 42, 180, 0, 10, 27, 42, 180, 0, 24, 28, 50, 42, 180, 0, 24, 29, 50, 182, 1, 78, 154, 0, 9, 42, 6, 182, 0] := by decide +kernel
theorem dX11_posts_96 : decode cX11_posts 96 = .ok (.iconst 5, 1) := do_8 (rdb (p := 96) (i := 0) ch_cX11_posts_96 rfl)
theorem dX11_posts_97 : decode cX11_posts 97 = .ok (.invokevirtual 67, 3) := do_182 (rdb (p := 96) (i := 1) ch_cX11_posts_96 rfl) (rdb (p := 96) (i := 2) ch_cX11_posts_96 rfl) (rdb (p := 96) (i := 3) ch_cX11_posts_96 rfl) rfl
theorem dX11_posts_100 : decode cX11_posts 100 = .ok (.ireturn, 1) := do_172 (rdb (p := 96) (i := 4) ch_cX11_posts_96 rfl)
theorem dX11_posts_101 : decode cX11_posts 101 = .ok (.aload_n 0, 1) := do_42 (rdb (p := 96) (i := 5) ch_cX11_posts_96 rfl)
theorem dX11_posts_102 : decode cX11_posts 102 = .ok (.getfield 42, 3) := do_180 (rdb (p := 96) (i := 6) ch_cX11_posts_96 rfl) (rdb (p := 96) (i := 7) ch_cX11_posts_96 rfl) (rdb (p := 96) (i := 8) ch_cX11_posts_96 rfl) rfl
theorem dX11_posts_105 : decode cX11_posts 105 = .ok (.aload_n 0, 1) := do_42 (rdb (p := 96) (i := 9) ch_cX11_posts_96 rfl)
theorem dX11_posts_106 : decode cX11_posts 106 = .ok (.getfield 10, 3) := do_180 (rdb (p := 96) (i := 10) ch_cX11_posts_96 rfl) (rdb (p := 96) (i := 11) ch_cX11_posts_96 rfl) (rdb (p := 96) (i := 12) ch_cX11_posts_96 rfl) rfl
theorem dX11_posts_109 : decode cX11_posts 109 = .ok (.iload_n 1, 1) := do_27 (rdb (p := 96) (i := 13) ch_cX11_posts_96 rfl)
theorem dX11_posts_110 : decode cX11_posts 110 = .ok (.aload_n 0, 1) := do_42 (rdb (p := 96) (i := 14) ch_cX11_posts_96 rfl)
theorem dX11_posts_111 : decode cX11_posts 111 = .ok (.getfield 24, 3) := do_180 (rdb (p := 96) (i := 15) ch_cX11_posts_96 rfl) (rdb (p := 96) (i := 16) ch_cX11_posts_96 rfl) (rdb (p := 96) (i := 17) ch_cX11_posts_96 rfl) rfl
theorem dX11_posts_114 : decode cX11_posts 114 = .ok (.iload_n 2, 1) := do_28 (rdb (p := 96) (i := 18) ch_cX11_posts_96 rfl)
theorem dX11_posts_115 : decode cX11_posts 115 = .ok (.aaload, 1) := do_50 (rdb (p := 96) (i := 19) ch_cX11_posts_96 rfl)
theorem dX11_posts_116 : decode cX11_posts 116 = .ok (.aload_n 0, 1) := do_42 (rdb (p := 96) (i := 20) ch_cX11_posts_96 rfl)
theorem dX11_posts_117 : decode cX11_posts 117 = .ok (.getfield 24, 3) := do_180 (rdb (p := 96) (i := 21) ch_cX11_posts_96 rfl) (rdb (p := 96) (i := 22) ch_cX11_posts_96 rfl) (rdb (p := 96) (i := 23) ch_cX11_posts_96 rfl) rfl
theorem dX11_posts_120 : decode cX11_posts 120 = .ok (.iload_n 3, 1) := do_29 (rdb (p := 96) (i := 24) ch_cX11_posts_96 rfl)
theorem dX11_posts_121 : decode cX11_posts 121 = .ok (.aaload, 1) := do_50 (rdb (p := 96) (i := 25) ch_cX11_posts_96 rfl)
theorem dX11_posts_122 : decode cX11_posts 122 = .ok (.invokevirtual 334, 3) := do_182 (rdb (p := 96) (i := 26) ch_cX11_posts_96 rfl) (rdb (p := 96) (i := 27) ch_cX11_posts_96 rfl) (rdb (p := 96) (i := 28) ch_cX11_posts_96 rfl) rfl
theorem dX11_posts_125 : decode cX11_posts 125 = .ok (.ifCond .ne 9, 3) := do_154 (rdb (p := 96) (i := 29) ch_cX11_posts_96 rfl) (rdb (p := 96) (i := 30) ch_cX11_posts_96 rfl) (rdb (p := 96) (i := 31) ch_cX11_posts_96 rfl) (by decide +kernel)
theorem ch_cX11_posts_128 : (cX11_posts.data.toList.drop 128).take 36 = [42, 6, 182, 0, 67, 172, 21, 4, 154, 0, 16, 42, 180, 0, 42, 180, 1, 31, 184, 1, 82, 167, 0, 10, 42, 180, 0, 42, 180, 1, 31, 172] := by decide +kernel
theorem dX11_posts_128 : decode cX11_posts 128 = .ok (.aload_n 0, 1) := do_42 (rdb (p := 128) (i := 0) ch_cX11_posts_128 rfl)
theorem dX11_posts_129 : decode cX11_posts 129 = .ok (.iconst 3, 1) := do_6 (rdb (p := 128) (i := 1) ch_cX11_posts_128 rfl)
theorem dX11_posts_130 : decode cX11_posts 130 = .ok (.invokevirtual 67, 3) := do_182 (rdb (p := 128) (i := 2) ch_cX11_posts_128 rfl) (rdb (p := 128) (i := 3) ch_cX11_posts_128 rfl) (rdb (p := 128) (i := 4) ch_cX11_posts_128 rfl) rfl
theorem dX11_posts_133 : decode cX11_posts 133 = .ok (.ireturn, 1) := do_172 (rdb (p := 128) (i := 5) ch_cX11_posts_128 rfl)
theorem dX11_posts_134 : decode cX11_posts 134 = .ok (.iload 4, 2) := do_21 (rdb (p := 128) (i := 6) ch_cX11_posts_128 rfl) (rdb (p := 128) (i := 7) ch_cX11_posts_128 rfl)
theorem dX11_posts_136 : decode cX11_posts 136 = .ok (.ifCond .ne 16, 3) := do_154 (rdb (p := 128) (i := 8) ch_cX11_posts_128 rfl) (rdb (p := 128) (i := 9) ch_cX11_posts_128 rfl) (rdb (p := 128) (i := 10) ch_cX11_posts_128 rfl) (by decide +kernel)
theorem dX11_posts_139 : decode cX11_posts 139 = .ok (.aload_n 0, 1) := do_42 (rdb (p := 128) (i := 11) ch_cX11_posts_128 rfl)
theorem dX11_posts_140 : decode cX11_posts 140 = .ok (.getfield 42, 3) := do_180 (rdb (p := 128) (i := 12) ch_cX11_posts_128 rfl) (rdb (p := 128) (i := 13) ch_cX11_posts_128 rfl) (rdb (p := 128) (i := 14) ch_cX11_posts_128 rfl) rfl
theorem dX11_posts_143 : decode cX11_posts 143 = .ok (.getfield 287, 3) := do_180 (rdb (p := 128) (i := 15) ch_cX11_posts_128 rfl) (rdb (p := 128) (i := 16) ch_cX11_posts_128 rfl) (rdb (p := 128) (i := 17) ch_cX11_posts_128 rfl) rfl
theorem dX11_posts_146 : decode cX11_posts 146 = .ok (.invokestatic 338, 3) := do_184 (rdb (p := 128) (i := 18) ch_cX11_posts_128 rfl) (rdb (p := 128) (i := 19) ch_cX11_posts_128 rfl) (rdb (p := 128) (i := 20) ch_cX11_posts_128 rfl) rfl
theorem dX11_posts_149 : decode cX11_posts 149 = .ok (.goto 10, 3) := do_167 (rdb (p := 128) (i := 21) ch_cX11_posts_128 rfl) (rdb (p := 128) (i := 22) ch_cX11_posts_128 rfl) (rdb (p := 128) (i := 23) ch_cX11_posts_128 rfl) (by decide +kernel)
theorem dX11_posts_152 : decode cX11_posts 152 = .ok (.aload_n 0, 1) := do_42 (rdb (p := 128) (i := 24) ch_cX11_posts_128 rfl)
theorem dX11_posts_153 : decode cX11_posts 153 = .ok (.getfield 42, 3) := do_180 (rdb (p := 128) (i := 25) ch_cX11_posts_128 rfl) (rdb (p := 128) (i := 26) ch_cX11_posts_128 rfl) (rdb (p := 128) (i := 27) ch_cX11_posts_128 rfl) rfl
theorem dX11_posts_156 : decode cX11_posts 156 = .ok (.getfield 287, 3) := do_180 (rdb (p := 128) (i := 28) ch_cX11_posts_128 rfl) (rdb (p := 128) (i := 29) ch_cX11_posts_128 rfl) (rdb (p := 128) (i := 30) ch_cX11_posts_128 rfl) rfl
theorem dX11_posts_159 : decode cX11_posts 159 = .ok (.ireturn, 1) := do_172 (rdb (p := 128) (i := 31) ch_cX11_posts_128 rfl)
theorem ch_cX11_put_0 : (cX11_put.data.toList.drop 0).take 36 = [27, 184, 0, 127, 154, 0, 9, 42, 4, 182, 0, 67, 172, 42, 180, 0, 24, 27, 50, 182, 0, 130, 153, 0, 9, 42, 5, 182, 0, 67, 172, 42, 180, 0, 24, 27] := by decide +kernel
theorem dX11_put_0 : decode cX11_put 0 = .ok (.iload_n 1, 1) := do_27 (rdb (p := 0) (i := 0) ch_cX11_put_0 rfl)
theorem dX11_put_1 : decode cX11_put 1 = .ok (.invokestatic 127, 3) := do_184 (rdb (p := 0) (i := 1) ch_cX11_put_0 rfl) (rdb (p := 0) (i := 2) ch_cX11_put_0 rfl) (rdb (p := 0) (i := 3) ch_cX11_put_0 rfl) rfl
theorem dX11_put_4 : decode cX11_put 4 = .ok (.ifCond .ne 9, 3) := do_154 (rdb (p := 0) (i := 4) ch_cX11_put_0 rfl) (rdb (p := 0) (i := 5) ch_cX11_put_0 rfl) (rdb (p := 0) (i := 6) ch_cX11_put_0 rfl) (by decide +kernel)
theorem dX11_put_7 : decode cX11_put 7 = .ok (.aload_n 0, 1) := do_42 (rdb (p := 0) (i := 7) ch_cX11_put_0 rfl)
theorem dX11_put_8 : decode cX11_put 8 = .ok (.iconst 1, 1) := do_4 (rdb (p := 0) (i := 8) ch_cX11_put_0 rfl)
theorem dX11_put_9 : decode cX11_put 9 = .ok (.invokevirtual 67, 3) := do_182 (rdb (p := 0) (i := 9) ch_cX11_put_0 rfl) (rdb (p := 0) (i := 10) ch_cX11_put_0 rfl) (rdb (p := 0) (i := 11) ch_cX11_put_0 rfl) rfl
theorem dX11_put_12 : decode cX11_put 12 = .ok (.ireturn, 1) := do_172 (rdb (p := 0) (i := 12) ch_cX11_put_0 rfl)
theorem dX11_put_13 : decode cX11_put 13 = .ok (.aload_n 0, 1) := do_42 (rdb (p := 0) (i := 13) ch_cX11_put_0 rfl)
theorem dX11_put_14 : decode cX11_put 14 = .ok (.getfield 24, 3) := do_180 (rdb (p := 0) (i := 14) ch_cX11_put_0 rfl) (rdb (p := 0) (i := 15) ch_cX11_put_0 rfl) (rdb (p := 0) (i := 16) ch_cX11_put_0 rfl) rfl
theorem dX11_put_17 : decode cX11_put 17 = .ok (.iload_n 1, 1) := do_27 (rdb (p := 0) (i := 17) ch_cX11_put_0 rfl)
theorem dX11_put_18 : decode cX11_put 18 = .ok (.aaload, 1) := do_50 (rdb (p := 0) (i := 18) ch_cX11_put_0 rfl)
theorem dX11_put_19 : decode cX11_put 19 = .ok (.invokevirtual 130, 3) := do_182 (rdb (p := 0) (i := 19) ch_cX11_put_0 rfl) (rdb (p := 0) (i := 20) ch_cX11_put_0 rfl) (rdb (p := 0) (i := 21) ch_cX11_put_0 rfl) rfl
theorem dX11_put_22 : decode cX11_put 22 = .ok (.ifCond .eq 9, 3) := do_153 (rdb (p := 0) (i := 22) ch_cX11_put_0 rfl) (rdb (p := 0) (i := 23) ch_cX11_put_0 rfl) (rdb (p := 0) (i := 24) ch_cX11_put_0 rfl) (by decide +kernel)
theorem dX11_put_25 : decode cX11_put 25 = .ok (.aload_n 0, 1) := do_42 (rdb (p := 0) (i := 25) ch_cX11_put_0 rfl)
theorem dX11_put_26 : decode cX11_put 26 = .ok (.iconst 2, 1) := do_5 (rdb (p := 0) (i := 26) ch_cX11_put_0 rfl)
theorem dX11_put_27 : decode cX11_put 27 = .ok (.invokevirtual 67, 3) := do_182 (rdb (p := 0) (i := 27) ch_cX11_put_0 rfl) (rdb (p := 0) (i := 28) ch_cX11_put_0 rfl) (rdb (p := 0) (i := 29) ch_cX11_put_0 rfl) rfl
theorem dX11_put_30 : decode cX11_put 30 = .ok (.ireturn, 1) := do_172 (rdb (p := 0) (i := 30) ch_cX11_put_0 rfl)
theorem dX11_put_31 : decode cX11_put 31 = .ok (.aload_n 0, 1) := do_42 (rdb (p := 0) (i := 31) ch_cX11_put_0 rfl)
theorem ch_cX11_put_32 : (cX11_put.data.toList.drop 32).take 36 = [180, 0, 24, 27, 50, 28, 182, 1, 110, 154, 0, 9, 42, 4, 182, 0, 67, 172, 42, 180, 0, 24, 27, 50, 28, 29, 182, 1, 111, 4, 172] := by decide +kernel
theorem dX11_put_32 : decode cX11_put 32 = .ok (.getfield 24, 3) := do_180 (rdb (p := 32) (i := 0) ch_cX11_put_32 rfl) (rdb (p := 32) (i := 1) ch_cX11_put_32 rfl) (rdb (p := 32) (i := 2) ch_cX11_put_32 rfl) rfl
theorem dX11_put_35 : decode cX11_put 35 = .ok (.iload_n 1, 1) := do_27 (rdb (p := 32) (i := 3) ch_cX11_put_32 rfl)
theorem dX11_put_36 : decode cX11_put 36 = .ok (.aaload, 1) := do_50 (rdb (p := 32) (i := 4) ch_cX11_put_32 rfl)
theorem dX11_put_37 : decode cX11_put 37 = .ok (.iload_n 2, 1) := do_28 (rdb (p := 32) (i := 5) ch_cX11_put_32 rfl)
theorem dX11_put_38 : decode cX11_put 38 = .ok (.invokevirtual 366, 3) := do_182 (rdb (p := 32) (i := 6) ch_cX11_put_32 rfl) (rdb (p := 32) (i := 7) ch_cX11_put_32 rfl) (rdb (p := 32) (i := 8) ch_cX11_put_32 rfl) rfl
theorem dX11_put_41 : decode cX11_put 41 = .ok (.ifCond .ne 9, 3) := do_154 (rdb (p := 32) (i := 9) ch_cX11_put_32 rfl) (rdb (p := 32) (i := 10) ch_cX11_put_32 rfl) (rdb (p := 32) (i := 11) ch_cX11_put_32 rfl) (by decide +kernel)
theorem dX11_put_44 : decode cX11_put 44 = .ok (.aload_n 0, 1) := do_42 (rdb (p := 32) (i := 12) ch_cX11_put_32 rfl)
theorem dX11_put_45 : decode cX11_put 45 = .ok (.iconst 1, 1) := do_4 (rdb (p := 32) (i := 13) ch_cX11_put_32 rfl)
theorem dX11_put_46 : decode cX11_put 46 = .ok (.invokevirtual 67, 3) := do_182 (rdb (p := 32) (i := 14) ch_cX11_put_32 rfl) (rdb (p := 32) (i := 15) ch_cX11_put_32 rfl) (rdb (p := 32) (i := 16) ch_cX11_put_32 rfl) rfl
theorem dX11_put_49 : decode cX11_put 49 = .ok (.ireturn, 1) := do_172 (rdb (p := 32) (i := 17) ch_cX11_put_32 rfl)
theorem dX11_put_50 : decode cX11_put 50 = .ok (.aload_n 0, 1) := do_42 (rdb (p := 32) (i := 18) ch_cX11_put_32 rfl)
theorem dX11_put_51 : decode cX11_put 51 = .ok (.getfield 24, 3) := do_180 (rdb (p := 32) (i := 19) ch_cX11_put_32 rfl) (rdb (p := 32) (i := 20) ch_cX11_put_32 rfl) (rdb (p := 32) (i := 21) ch_cX11_put_32 rfl) rfl
theorem dX11_put_54 : decode cX11_put 54 = .ok (.iload_n 1, 1) := do_27 (rdb (p := 32) (i := 22) ch_cX11_put_32 rfl)
theorem dX11_put_55 : decode cX11_put 55 = .ok (.aaload, 1) := do_50 (rdb (p := 32) (i := 23) ch_cX11_put_32 rfl)
theorem dX11_put_56 : decode cX11_put 56 = .ok (.iload_n 2, 1) := do_28 (rdb (p := 32) (i := 24) ch_cX11_put_32 rfl)
theorem dX11_put_57 : decode cX11_put 57 = .ok (.iload_n 3, 1) := do_29 (rdb (p := 32) (i := 25) ch_cX11_put_32 rfl)
theorem dX11_put_58 : decode cX11_put 58 = .ok (.invokevirtual 367, 3) := do_182 (rdb (p := 32) (i := 26) ch_cX11_put_32 rfl) (rdb (p := 32) (i := 27) ch_cX11_put_32 rfl) (rdb (p := 32) (i := 28) ch_cX11_put_32 rfl) rfl
theorem dX11_put_61 : decode cX11_put 61 = .ok (.iconst 1, 1) := do_4 (rdb (p := 32) (i := 29) ch_cX11_put_32 rfl)
theorem dX11_put_62 : decode cX11_put 62 = .ok (.ireturn, 1) := do_172 (rdb (p := 32) (i := 30) ch_cX11_put_32 rfl)
theorem dX11_restore_0 : decode cX11_restore 0 = .ok (.aload_n 0, 1) := by decide +kernel
theorem dX11_restore_1 : decode cX11_restore 1 = .ok (.getfield 53, 3) := by decide +kernel
theorem dX11_restore_4 : decode cX11_restore 4 = .ok (.ifCond .ne 9, 3) := by decide +kernel
theorem dX11_restore_7 : decode cX11_restore 7 = .ok (.aload_n 0, 1) := by decide +kernel
theorem dX11_restore_8 : decode cX11_restore 8 = .ok (.iconst 2, 1) := by decide +kernel
theorem dX11_restore_9 : decode cX11_restore 9 = .ok (.invokevirtual 67, 3) := by decide +kernel
theorem dX11_restore_12 : decode cX11_restore 12 = .ok (.ireturn, 1) := by decide +kernel
theorem dX11_restore_13 : decode cX11_restore 13 = .ok (.aload_n 0, 1) := by decide +kernel
theorem dX11_restore_14 : decode cX11_restore 14 = .ok (.getfield 10, 3) := by decide +kernel
theorem dX11_restore_17 : decode cX11_restore 17 = .ok (.aload_n 0, 1) := by decide +kernel
theorem dX11_restore_18 : decode cX11_restore 18 = .ok (.getfield 16, 3) := by decide +kernel
theorem dX11_restore_21 : decode cX11_restore 21 = .ok (.invokevirtual 382, 3) := by decide +kernel
theorem dX11_restore_24 : decode cX11_restore 24 = .ok (.aload_n 0, 1) := by decide +kernel
theorem dX11_restore_25 : decode cX11_restore 25 = .ok (.getfield 10, 3) := by decide +kernel
theorem dX11_restore_28 : decode cX11_restore 28 = .ok (.getfield 290, 3) := by decide +kernel
theorem dX11_restore_31 : decode cX11_restore 31 = .ok (.ireturn, 1) := by decide +kernel
theorem ch_cX11_safe_0 : (cX11_safe.data.toList.drop 0).take 36 = [42, 180, 0, 10, 27, 182, 0, 154, 154, 0, 9, 42, 4, 182, 0, 67, 172, 42, 180, 0, 10, 27, 182, 1, 51, 61, 3, 62, 29, 16, 9, 162, 0, 22, 29, 4] := by decide +kernel
theorem dX11_safe_0 : decode cX11_safe 0 = .ok (.aload_n 0, 1) := do_42 (rdb (p := 0) (i := 0) ch_cX11_safe_0 rfl)
theorem dX11_safe_1 : decode cX11_safe 1 = .ok (.getfield 10, 3) := do_180 (rdb (p := 0) (i := 1) ch_cX11_safe_0 rfl) (rdb (p := 0) (i := 2) ch_cX11_safe_0 rfl) (rdb (p := 0) (i := 3) ch_cX11_safe_0 rfl) rfl
theorem dX11_safe_4 : decode cX11_safe 4 = .ok (.iload_n 1, 1) := do_27 (rdb (p := 0) (i := 4) ch_cX11_safe_0 rfl)
theorem dX11_safe_5 : decode cX11_safe 5 = .ok (.invokevirtual 154, 3) := do_182 (rdb (p := 0) (i := 5) ch_cX11_safe_0 rfl) (rdb (p := 0) (i := 6) ch_cX11_safe_0 rfl) (rdb (p := 0) (i := 7) ch_cX11_safe_0 rfl) rfl
theorem dX11_safe_8 : decode cX11_safe 8 = .ok (.ifCond .ne 9, 3) := do_154 (rdb (p := 0) (i := 8) ch_cX11_safe_0 rfl) (rdb (p := 0) (i := 9) ch_cX11_safe_0 rfl) (rdb (p := 0) (i := 10) ch_cX11_safe_0 rfl) (by decide +kernel)
theorem dX11_safe_11 : decode cX11_safe 11 = .ok (.aload_n 0, 1) := do_42 (rdb (p := 0) (i := 11) ch_cX11_safe_0 rfl)
theorem dX11_safe_12 : decode cX11_safe 12 = .ok (.iconst 1, 1) := do_4 (rdb (p := 0) (i := 12) ch_cX11_safe_0 rfl)
theorem dX11_safe_13 : decode cX11_safe 13 = .ok (.invokevirtual 67, 3) := do_182 (rdb (p := 0) (i := 13) ch_cX11_safe_0 rfl) (rdb (p := 0) (i := 14) ch_cX11_safe_0 rfl) (rdb (p := 0) (i := 15) ch_cX11_safe_0 rfl) rfl
theorem dX11_safe_16 : decode cX11_safe 16 = .ok (.ireturn, 1) := do_172 (rdb (p := 0) (i := 16) ch_cX11_safe_0 rfl)
theorem dX11_safe_17 : decode cX11_safe 17 = .ok (.aload_n 0, 1) := do_42 (rdb (p := 0) (i := 17) ch_cX11_safe_0 rfl)
theorem dX11_safe_18 : decode cX11_safe 18 = .ok (.getfield 10, 3) := do_180 (rdb (p := 0) (i := 18) ch_cX11_safe_0 rfl) (rdb (p := 0) (i := 19) ch_cX11_safe_0 rfl) (rdb (p := 0) (i := 20) ch_cX11_safe_0 rfl) rfl
theorem dX11_safe_21 : decode cX11_safe 21 = .ok (.iload_n 1, 1) := do_27 (rdb (p := 0) (i := 21) ch_cX11_safe_0 rfl)
theorem dX11_safe_22 : decode cX11_safe 22 = .ok (.invokevirtual 307, 3) := do_182 (rdb (p := 0) (i := 22) ch_cX11_safe_0 rfl) (rdb (p := 0) (i := 23) ch_cX11_safe_0 rfl) (rdb (p := 0) (i := 24) ch_cX11_safe_0 rfl) rfl
theorem dX11_safe_25 : decode cX11_safe 25 = .ok (.istore_n 2, 1) := do_61 (rdb (p := 0) (i := 25) ch_cX11_safe_0 rfl)
theorem dX11_safe_26 : decode cX11_safe 26 = .ok (.iconst 0, 1) := do_3 (rdb (p := 0) (i := 26) ch_cX11_safe_0 rfl)
theorem dX11_safe_27 : decode cX11_safe 27 = .ok (.istore_n 3, 1) := do_62 (rdb (p := 0) (i := 27) ch_cX11_safe_0 rfl)
theorem dX11_safe_28 : decode cX11_safe 28 = .ok (.iload_n 3, 1) := do_29 (rdb (p := 0) (i := 28) ch_cX11_safe_0 rfl)
theorem dX11_safe_29 : decode cX11_safe 29 = .ok (.bipush 9, 2) := do_16 (rdb (p := 0) (i := 29) ch_cX11_safe_0 rfl) (rdb (p := 0) (i := 30) ch_cX11_safe_0 rfl) (by decide +kernel)
theorem dX11_safe_31 : decode cX11_safe 31 = .ok (.if_icmp .ge 22, 3) := do_162 (rdb (p := 0) (i := 31) ch_cX11_safe_0 rfl) (rdb (p := 0) (i := 32) ch_cX11_safe_0 rfl) (rdb (p := 0) (i := 33) ch_cX11_safe_0 rfl) (by decide +kernel)
theorem ch_cX11_safe_32 : (cX11_safe.data.toList.drop 32).take 36 = [0, 22, 29, 4, 96, 29, 5, 96, 104, 5, 108, 28, 163, 0, 9, 132, 3, 1, 167, 255, 234, 29, 172] := by decide +kernel
theorem dX11_safe_34 : decode cX11_safe 34 = .ok (.iload_n 3, 1) := do_29 (rdb (p := 32) (i := 2) ch_cX11_safe_32 rfl)
theorem dX11_safe_35 : decode cX11_safe 35 = .ok (.iconst 1, 1) := do_4 (rdb (p := 32) (i := 3) ch_cX11_safe_32 rfl)
theorem dX11_safe_36 : decode cX11_safe 36 = .ok (.iadd, 1) := do_96 (rdb (p := 32) (i := 4) ch_cX11_safe_32 rfl)
theorem dX11_safe_37 : decode cX11_safe 37 = .ok (.iload_n 3, 1) := do_29 (rdb (p := 32) (i := 5) ch_cX11_safe_32 rfl)
theorem dX11_safe_38 : decode cX11_safe 38 = .ok (.iconst 2, 1) := do_5 (rdb (p := 32) (i := 6) ch_cX11_safe_32 rfl)
theorem dX11_safe_39 : decode cX11_safe 39 = .ok (.iadd, 1) := do_96 (rdb (p := 32) (i := 7) ch_cX11_safe_32 rfl)
theorem dX11_safe_40 : decode cX11_safe 40 = .ok (.imul, 1) := do_104 (rdb (p := 32) (i := 8) ch_cX11_safe_32 rfl)
theorem dX11_safe_41 : decode cX11_safe 41 = .ok (.iconst 2, 1) := do_5 (rdb (p := 32) (i := 9) ch_cX11_safe_32 rfl)
theorem dX11_safe_42 : decode cX11_safe 42 = .ok (.idiv, 1) := do_108 (rdb (p := 32) (i := 10) ch_cX11_safe_32 rfl)
theorem dX11_safe_43 : decode cX11_safe 43 = .ok (.iload_n 2, 1) := do_28 (rdb (p := 32) (i := 11) ch_cX11_safe_32 rfl)
theorem dX11_safe_44 : decode cX11_safe 44 = .ok (.if_icmp .gt 9, 3) := do_163 (rdb (p := 32) (i := 12) ch_cX11_safe_32 rfl) (rdb (p := 32) (i := 13) ch_cX11_safe_32 rfl) (rdb (p := 32) (i := 14) ch_cX11_safe_32 rfl) (by decide +kernel)
theorem dX11_safe_47 : decode cX11_safe 47 = .ok (.iinc 3 1, 3) := do_132 (rdb (p := 32) (i := 15) ch_cX11_safe_32 rfl) (rdb (p := 32) (i := 16) ch_cX11_safe_32 rfl) (rdb (p := 32) (i := 17) ch_cX11_safe_32 rfl) (by decide +kernel)
theorem dX11_safe_50 : decode cX11_safe 50 = .ok (.goto (-22), 3) := do_167 (rdb (p := 32) (i := 18) ch_cX11_safe_32 rfl) (rdb (p := 32) (i := 19) ch_cX11_safe_32 rfl) (rdb (p := 32) (i := 20) ch_cX11_safe_32 rfl) (by decide +kernel)
theorem dX11_safe_53 : decode cX11_safe 53 = .ok (.iload_n 3, 1) := do_29 (rdb (p := 32) (i := 21) ch_cX11_safe_32 rfl)
theorem dX11_safe_54 : decode cX11_safe 54 = .ok (.ireturn, 1) := do_172 (rdb (p := 32) (i := 22) ch_cX11_safe_32 rfl)
theorem ch_cX11_sheet_0 : (cX11_sheet.data.toList.drop 0).take 36 = [27, 184, 0, 127, 153, 0, 25, 28, 153, 0, 27, 28, 16, 8, 159, 0, 21, 28, 16, 16, 159, 0, 15, 28, 16, 32, 159, 0, 9, 42, 4, 182, 0, 67, 172, 28] := by decide +kernel
theorem dX11_sheet_0 : decode cX11_sheet 0 = .ok (.iload_n 1, 1) := do_27 (rdb (p := 0) (i := 0) ch_cX11_sheet_0 rfl)
theorem dX11_sheet_1 : decode cX11_sheet 1 = .ok (.invokestatic 127, 3) := do_184 (rdb (p := 0) (i := 1) ch_cX11_sheet_0 rfl) (rdb (p := 0) (i := 2) ch_cX11_sheet_0 rfl) (rdb (p := 0) (i := 3) ch_cX11_sheet_0 rfl) rfl
theorem dX11_sheet_4 : decode cX11_sheet 4 = .ok (.ifCond .eq 25, 3) := do_153 (rdb (p := 0) (i := 4) ch_cX11_sheet_0 rfl) (rdb (p := 0) (i := 5) ch_cX11_sheet_0 rfl) (rdb (p := 0) (i := 6) ch_cX11_sheet_0 rfl) (by decide +kernel)
theorem dX11_sheet_7 : decode cX11_sheet 7 = .ok (.iload_n 2, 1) := do_28 (rdb (p := 0) (i := 7) ch_cX11_sheet_0 rfl)
theorem dX11_sheet_8 : decode cX11_sheet 8 = .ok (.ifCond .eq 27, 3) := do_153 (rdb (p := 0) (i := 8) ch_cX11_sheet_0 rfl) (rdb (p := 0) (i := 9) ch_cX11_sheet_0 rfl) (rdb (p := 0) (i := 10) ch_cX11_sheet_0 rfl) (by decide +kernel)
theorem dX11_sheet_11 : decode cX11_sheet 11 = .ok (.iload_n 2, 1) := do_28 (rdb (p := 0) (i := 11) ch_cX11_sheet_0 rfl)
theorem dX11_sheet_12 : decode cX11_sheet 12 = .ok (.bipush 8, 2) := do_16 (rdb (p := 0) (i := 12) ch_cX11_sheet_0 rfl) (rdb (p := 0) (i := 13) ch_cX11_sheet_0 rfl) (by decide +kernel)
theorem dX11_sheet_14 : decode cX11_sheet 14 = .ok (.if_icmp .eq 21, 3) := do_159 (rdb (p := 0) (i := 14) ch_cX11_sheet_0 rfl) (rdb (p := 0) (i := 15) ch_cX11_sheet_0 rfl) (rdb (p := 0) (i := 16) ch_cX11_sheet_0 rfl) (by decide +kernel)
theorem dX11_sheet_17 : decode cX11_sheet 17 = .ok (.iload_n 2, 1) := do_28 (rdb (p := 0) (i := 17) ch_cX11_sheet_0 rfl)
theorem dX11_sheet_18 : decode cX11_sheet 18 = .ok (.bipush 16, 2) := do_16 (rdb (p := 0) (i := 18) ch_cX11_sheet_0 rfl) (rdb (p := 0) (i := 19) ch_cX11_sheet_0 rfl) (by decide +kernel)
theorem dX11_sheet_20 : decode cX11_sheet 20 = .ok (.if_icmp .eq 15, 3) := do_159 (rdb (p := 0) (i := 20) ch_cX11_sheet_0 rfl) (rdb (p := 0) (i := 21) ch_cX11_sheet_0 rfl) (rdb (p := 0) (i := 22) ch_cX11_sheet_0 rfl) (by decide +kernel)
theorem dX11_sheet_23 : decode cX11_sheet 23 = .ok (.iload_n 2, 1) := do_28 (rdb (p := 0) (i := 23) ch_cX11_sheet_0 rfl)
theorem dX11_sheet_24 : decode cX11_sheet 24 = .ok (.bipush 32, 2) := do_16 (rdb (p := 0) (i := 24) ch_cX11_sheet_0 rfl) (rdb (p := 0) (i := 25) ch_cX11_sheet_0 rfl) (by decide +kernel)
theorem dX11_sheet_26 : decode cX11_sheet 26 = .ok (.if_icmp .eq 9, 3) := do_159 (rdb (p := 0) (i := 26) ch_cX11_sheet_0 rfl) (rdb (p := 0) (i := 27) ch_cX11_sheet_0 rfl) (rdb (p := 0) (i := 28) ch_cX11_sheet_0 rfl) (by decide +kernel)
theorem dX11_sheet_29 : decode cX11_sheet 29 = .ok (.aload_n 0, 1) := do_42 (rdb (p := 0) (i := 29) ch_cX11_sheet_0 rfl)
theorem dX11_sheet_30 : decode cX11_sheet 30 = .ok (.iconst 1, 1) := do_4 (rdb (p := 0) (i := 30) ch_cX11_sheet_0 rfl)
theorem dX11_sheet_31 : decode cX11_sheet 31 = .ok (.invokevirtual 67, 3) := do_182 (rdb (p := 0) (i := 31) ch_cX11_sheet_0 rfl) (rdb (p := 0) (i := 32) ch_cX11_sheet_0 rfl) (rdb (p := 0) (i := 33) ch_cX11_sheet_0 rfl) rfl
theorem ch_cX11_sheet_32 : (cX11_sheet.data.toList.drop 32).take 36 = [0, 67, 172, 28, 154, 0, 14, 42, 180, 0, 24, 27, 50, 182, 1, 103, 4, 172, 29, 156, 0, 9, 42, 6, 182, 0, 67, 172, 29, 16, 24, 164, 0, 9, 42, 4] := by decide +kernel
theorem dX11_sheet_34 : decode cX11_sheet 34 = .ok (.ireturn, 1) := do_172 (rdb (p := 32) (i := 2) ch_cX11_sheet_32 rfl)
theorem dX11_sheet_35 : decode cX11_sheet 35 = .ok (.iload_n 2, 1) := do_28 (rdb (p := 32) (i := 3) ch_cX11_sheet_32 rfl)
theorem dX11_sheet_36 : decode cX11_sheet 36 = .ok (.ifCond .ne 14, 3) := do_154 (rdb (p := 32) (i := 4) ch_cX11_sheet_32 rfl) (rdb (p := 32) (i := 5) ch_cX11_sheet_32 rfl) (rdb (p := 32) (i := 6) ch_cX11_sheet_32 rfl) (by decide +kernel)
theorem dX11_sheet_39 : decode cX11_sheet 39 = .ok (.aload_n 0, 1) := do_42 (rdb (p := 32) (i := 7) ch_cX11_sheet_32 rfl)
theorem dX11_sheet_40 : decode cX11_sheet 40 = .ok (.getfield 24, 3) := do_180 (rdb (p := 32) (i := 8) ch_cX11_sheet_32 rfl) (rdb (p := 32) (i := 9) ch_cX11_sheet_32 rfl) (rdb (p := 32) (i := 10) ch_cX11_sheet_32 rfl) rfl
theorem dX11_sheet_43 : decode cX11_sheet 43 = .ok (.iload_n 1, 1) := do_27 (rdb (p := 32) (i := 11) ch_cX11_sheet_32 rfl)
theorem dX11_sheet_44 : decode cX11_sheet 44 = .ok (.aaload, 1) := do_50 (rdb (p := 32) (i := 12) ch_cX11_sheet_32 rfl)
theorem dX11_sheet_45 : decode cX11_sheet 45 = .ok (.invokevirtual 359, 3) := do_182 (rdb (p := 32) (i := 13) ch_cX11_sheet_32 rfl) (rdb (p := 32) (i := 14) ch_cX11_sheet_32 rfl) (rdb (p := 32) (i := 15) ch_cX11_sheet_32 rfl) rfl
theorem dX11_sheet_48 : decode cX11_sheet 48 = .ok (.iconst 1, 1) := do_4 (rdb (p := 32) (i := 16) ch_cX11_sheet_32 rfl)
theorem dX11_sheet_49 : decode cX11_sheet 49 = .ok (.ireturn, 1) := do_172 (rdb (p := 32) (i := 17) ch_cX11_sheet_32 rfl)
theorem dX11_sheet_50 : decode cX11_sheet 50 = .ok (.iload_n 3, 1) := do_29 (rdb (p := 32) (i := 18) ch_cX11_sheet_32 rfl)
theorem dX11_sheet_51 : decode cX11_sheet 51 = .ok (.ifCond .ge 9, 3) := do_156 (rdb (p := 32) (i := 19) ch_cX11_sheet_32 rfl) (rdb (p := 32) (i := 20) ch_cX11_sheet_32 rfl) (rdb (p := 32) (i := 21) ch_cX11_sheet_32 rfl) (by decide +kernel)
theorem dX11_sheet_54 : decode cX11_sheet 54 = .ok (.aload_n 0, 1) := do_42 (rdb (p := 32) (i := 22) ch_cX11_sheet_32 rfl)
theorem dX11_sheet_55 : decode cX11_sheet 55 = .ok (.iconst 3, 1) := do_6 (rdb (p := 32) (i := 23) ch_cX11_sheet_32 rfl)
theorem dX11_sheet_56 : decode cX11_sheet 56 = .ok (.invokevirtual 67, 3) := do_182 (rdb (p := 32) (i := 24) ch_cX11_sheet_32 rfl) (rdb (p := 32) (i := 25) ch_cX11_sheet_32 rfl) (rdb (p := 32) (i := 26) ch_cX11_sheet_32 rfl) rfl
theorem dX11_sheet_59 : decode cX11_sheet 59 = .ok (.ireturn, 1) := do_172 (rdb (p := 32) (i := 27) ch_cX11_sheet_32 rfl)
theorem dX11_sheet_60 : decode cX11_sheet 60 = .ok (.iload_n 3, 1) := do_29 (rdb (p := 32) (i := 28) ch_cX11_sheet_32 rfl)
theorem dX11_sheet_61 : decode cX11_sheet 61 = .ok (.bipush 24, 2) := do_16 (rdb (p := 32) (i := 29) ch_cX11_sheet_32 rfl) (rdb (p := 32) (i := 30) ch_cX11_sheet_32 rfl) (by decide +kernel)
theorem dX11_sheet_63 : decode cX11_sheet 63 = .ok (.if_icmp .le 9, 3) := do_164 (rdb (p := 32) (i := 31) ch_cX11_sheet_32 rfl) (rdb (p := 32) (i := 32) ch_cX11_sheet_32 rfl) (rdb (p := 32) (i := 33) ch_cX11_sheet_32 rfl) (by decide +kernel)
theorem ch_cX11_sheet_64 : (cX11_sheet.data.toList.drop 64).take 36 = [0, 9, 42, 4, 182, 0, 67, 172, 42, 180, 0, 24, 27, 50, 28, 29, 182, 1, 106, 4, 172] := by decide +kernel
theorem dX11_sheet_66 : decode cX11_sheet 66 = .ok (.aload_n 0, 1) := do_42 (rdb (p := 64) (i := 2) ch_cX11_sheet_64 rfl)
theorem dX11_sheet_67 : decode cX11_sheet 67 = .ok (.iconst 1, 1) := do_4 (rdb (p := 64) (i := 3) ch_cX11_sheet_64 rfl)
theorem dX11_sheet_68 : decode cX11_sheet 68 = .ok (.invokevirtual 67, 3) := do_182 (rdb (p := 64) (i := 4) ch_cX11_sheet_64 rfl) (rdb (p := 64) (i := 5) ch_cX11_sheet_64 rfl) (rdb (p := 64) (i := 6) ch_cX11_sheet_64 rfl) rfl
theorem dX11_sheet_71 : decode cX11_sheet 71 = .ok (.ireturn, 1) := do_172 (rdb (p := 64) (i := 7) ch_cX11_sheet_64 rfl)
theorem dX11_sheet_72 : decode cX11_sheet 72 = .ok (.aload_n 0, 1) := do_42 (rdb (p := 64) (i := 8) ch_cX11_sheet_64 rfl)
theorem dX11_sheet_73 : decode cX11_sheet 73 = .ok (.getfield 24, 3) := do_180 (rdb (p := 64) (i := 9) ch_cX11_sheet_64 rfl) (rdb (p := 64) (i := 10) ch_cX11_sheet_64 rfl) (rdb (p := 64) (i := 11) ch_cX11_sheet_64 rfl) rfl
theorem dX11_sheet_76 : decode cX11_sheet 76 = .ok (.iload_n 1, 1) := do_27 (rdb (p := 64) (i := 12) ch_cX11_sheet_64 rfl)
theorem dX11_sheet_77 : decode cX11_sheet 77 = .ok (.aaload, 1) := do_50 (rdb (p := 64) (i := 13) ch_cX11_sheet_64 rfl)
theorem dX11_sheet_78 : decode cX11_sheet 78 = .ok (.iload_n 2, 1) := do_28 (rdb (p := 64) (i := 14) ch_cX11_sheet_64 rfl)
theorem dX11_sheet_79 : decode cX11_sheet 79 = .ok (.iload_n 3, 1) := do_29 (rdb (p := 64) (i := 15) ch_cX11_sheet_64 rfl)
theorem dX11_sheet_80 : decode cX11_sheet 80 = .ok (.invokevirtual 362, 3) := do_182 (rdb (p := 64) (i := 16) ch_cX11_sheet_64 rfl) (rdb (p := 64) (i := 17) ch_cX11_sheet_64 rfl) (rdb (p := 64) (i := 18) ch_cX11_sheet_64 rfl) rfl
theorem dX11_sheet_83 : decode cX11_sheet 83 = .ok (.iconst 1, 1) := do_4 (rdb (p := 64) (i := 19) ch_cX11_sheet_64 rfl)
theorem dX11_sheet_84 : decode cX11_sheet 84 = .ok (.ireturn, 1) := do_172 (rdb (p := 64) (i := 20) ch_cX11_sheet_64 rfl)
theorem ch_cX11_spots_0 : (cX11_spots.data.toList.drop 0).take 36 = [42, 180, 0, 10, 27, 182, 0, 154, 153, 0, 29, 28, 184, 0, 127, 153, 0, 22, 29, 4, 6, 184, 0, 89, 153, 0, 13, 21, 4, 3, 4, 184, 0, 89, 154, 0] := by decide +kernel
theorem dX11_spots_0 : decode cX11_spots 0 = .ok (.aload_n 0, 1) := do_42 (rdb (p := 0) (i := 0) ch_cX11_spots_0 rfl)
theorem dX11_spots_1 : decode cX11_spots 1 = .ok (.getfield 10, 3) := do_180 (rdb (p := 0) (i := 1) ch_cX11_spots_0 rfl) (rdb (p := 0) (i := 2) ch_cX11_spots_0 rfl) (rdb (p := 0) (i := 3) ch_cX11_spots_0 rfl) rfl
theorem dX11_spots_4 : decode cX11_spots 4 = .ok (.iload_n 1, 1) := do_27 (rdb (p := 0) (i := 4) ch_cX11_spots_0 rfl)
theorem dX11_spots_5 : decode cX11_spots 5 = .ok (.invokevirtual 154, 3) := do_182 (rdb (p := 0) (i := 5) ch_cX11_spots_0 rfl) (rdb (p := 0) (i := 6) ch_cX11_spots_0 rfl) (rdb (p := 0) (i := 7) ch_cX11_spots_0 rfl) rfl
theorem dX11_spots_8 : decode cX11_spots 8 = .ok (.ifCond .eq 29, 3) := do_153 (rdb (p := 0) (i := 8) ch_cX11_spots_0 rfl) (rdb (p := 0) (i := 9) ch_cX11_spots_0 rfl) (rdb (p := 0) (i := 10) ch_cX11_spots_0 rfl) (by decide +kernel)
theorem dX11_spots_11 : decode cX11_spots 11 = .ok (.iload_n 2, 1) := do_28 (rdb (p := 0) (i := 11) ch_cX11_spots_0 rfl)
theorem dX11_spots_12 : decode cX11_spots 12 = .ok (.invokestatic 127, 3) := do_184 (rdb (p := 0) (i := 12) ch_cX11_spots_0 rfl) (rdb (p := 0) (i := 13) ch_cX11_spots_0 rfl) (rdb (p := 0) (i := 14) ch_cX11_spots_0 rfl) rfl
theorem dX11_spots_15 : decode cX11_spots 15 = .ok (.ifCond .eq 22, 3) := do_153 (rdb (p := 0) (i := 15) ch_cX11_spots_0 rfl) (rdb (p := 0) (i := 16) ch_cX11_spots_0 rfl) (rdb (p := 0) (i := 17) ch_cX11_spots_0 rfl) (by decide +kernel)
theorem dX11_spots_18 : decode cX11_spots 18 = .ok (.iload_n 3, 1) := do_29 (rdb (p := 0) (i := 18) ch_cX11_spots_0 rfl)
theorem dX11_spots_19 : decode cX11_spots 19 = .ok (.iconst 1, 1) := do_4 (rdb (p := 0) (i := 19) ch_cX11_spots_0 rfl)
theorem dX11_spots_20 : decode cX11_spots 20 = .ok (.iconst 3, 1) := do_6 (rdb (p := 0) (i := 20) ch_cX11_spots_0 rfl)
theorem dX11_spots_21 : decode cX11_spots 21 = .ok (.invokestatic 89, 3) := do_184 (rdb (p := 0) (i := 21) ch_cX11_spots_0 rfl) (rdb (p := 0) (i := 22) ch_cX11_spots_0 rfl) (rdb (p := 0) (i := 23) ch_cX11_spots_0 rfl) rfl
theorem dX11_spots_24 : decode cX11_spots 24 = .ok (.ifCond .eq 13, 3) := do_153 (rdb (p := 0) (i := 24) ch_cX11_spots_0 rfl) (rdb (p := 0) (i := 25) ch_cX11_spots_0 rfl) (rdb (p := 0) (i := 26) ch_cX11_spots_0 rfl) (by decide +kernel)
theorem dX11_spots_27 : decode cX11_spots 27 = .ok (.iload 4, 2) := do_21 (rdb (p := 0) (i := 27) ch_cX11_spots_0 rfl) (rdb (p := 0) (i := 28) ch_cX11_spots_0 rfl)
theorem dX11_spots_29 : decode cX11_spots 29 = .ok (.iconst 0, 1) := do_3 (rdb (p := 0) (i := 29) ch_cX11_spots_0 rfl)
theorem dX11_spots_30 : decode cX11_spots 30 = .ok (.iconst 1, 1) := do_4 (rdb (p := 0) (i := 30) ch_cX11_spots_0 rfl)
theorem dX11_spots_31 : decode cX11_spots 31 = .ok (.invokestatic 89, 3) := do_184 (rdb (p := 0) (i := 31) ch_cX11_spots_0 rfl) (rdb (p := 0) (i := 32) ch_cX11_spots_0 rfl) (rdb (p := 0) (i := 33) ch_cX11_spots_0 rfl) rfl
theorem ch_cX11_spots_32 : (cX11_spots.data.toList.drop 32).take 36 = [0, 89, 154, 0, 9, 42, 4, 182, 0, 67, 172, 42, 180, 0, 24, 28, 50, 182, 0, 130, 153, 0, 9, 42, 5, 182, 0, 67, 172, 42, 180, 0, 24, 28, 50, 182] := by decide +kernel
theorem dX11_spots_34 : decode cX11_spots 34 = .ok (.ifCond .ne 9, 3) := do_154 (rdb (p := 32) (i := 2) ch_cX11_spots_32 rfl) (rdb (p := 32) (i := 3) ch_cX11_spots_32 rfl) (rdb (p := 32) (i := 4) ch_cX11_spots_32 rfl) (by decide +kernel)
theorem dX11_spots_37 : decode cX11_spots 37 = .ok (.aload_n 0, 1) := do_42 (rdb (p := 32) (i := 5) ch_cX11_spots_32 rfl)
theorem dX11_spots_38 : decode cX11_spots 38 = .ok (.iconst 1, 1) := do_4 (rdb (p := 32) (i := 6) ch_cX11_spots_32 rfl)
theorem dX11_spots_39 : decode cX11_spots 39 = .ok (.invokevirtual 67, 3) := do_182 (rdb (p := 32) (i := 7) ch_cX11_spots_32 rfl) (rdb (p := 32) (i := 8) ch_cX11_spots_32 rfl) (rdb (p := 32) (i := 9) ch_cX11_spots_32 rfl) rfl
theorem dX11_spots_42 : decode cX11_spots 42 = .ok (.ireturn, 1) := do_172 (rdb (p := 32) (i := 10) ch_cX11_spots_32 rfl)
theorem dX11_spots_43 : decode cX11_spots 43 = .ok (.aload_n 0, 1) := do_42 (rdb (p := 32) (i := 11) ch_cX11_spots_32 rfl)
theorem dX11_spots_44 : decode cX11_spots 44 = .ok (.getfield 24, 3) := do_180 (rdb (p := 32) (i := 12) ch_cX11_spots_32 rfl) (rdb (p := 32) (i := 13) ch_cX11_spots_32 rfl) (rdb (p := 32) (i := 14) ch_cX11_spots_32 rfl) rfl
theorem dX11_spots_47 : decode cX11_spots 47 = .ok (.iload_n 2, 1) := do_28 (rdb (p := 32) (i := 15) ch_cX11_spots_32 rfl)
theorem dX11_spots_48 : decode cX11_spots 48 = .ok (.aaload, 1) := do_50 (rdb (p := 32) (i := 16) ch_cX11_spots_32 rfl)
theorem dX11_spots_49 : decode cX11_spots 49 = .ok (.invokevirtual 130, 3) := do_182 (rdb (p := 32) (i := 17) ch_cX11_spots_32 rfl) (rdb (p := 32) (i := 18) ch_cX11_spots_32 rfl) (rdb (p := 32) (i := 19) ch_cX11_spots_32 rfl) rfl
theorem dX11_spots_52 : decode cX11_spots 52 = .ok (.ifCond .eq 9, 3) := do_153 (rdb (p := 32) (i := 20) ch_cX11_spots_32 rfl) (rdb (p := 32) (i := 21) ch_cX11_spots_32 rfl) (rdb (p := 32) (i := 22) ch_cX11_spots_32 rfl) (by decide +kernel)
theorem dX11_spots_55 : decode cX11_spots 55 = .ok (.aload_n 0, 1) := do_42 (rdb (p := 32) (i := 23) ch_cX11_spots_32 rfl)
theorem dX11_spots_56 : decode cX11_spots 56 = .ok (.iconst 2, 1) := do_5 (rdb (p := 32) (i := 24) ch_cX11_spots_32 rfl)
theorem dX11_spots_57 : decode cX11_spots 57 = .ok (.invokevirtual 67, 3) := do_182 (rdb (p := 32) (i := 25) ch_cX11_spots_32 rfl) (rdb (p := 32) (i := 26) ch_cX11_spots_32 rfl) (rdb (p := 32) (i := 27) ch_cX11_spots_32 rfl) rfl
theorem dX11_spots_60 : decode cX11_spots 60 = .ok (.ireturn, 1) := do_172 (rdb (p := 32) (i := 28) ch_cX11_spots_32 rfl)
theorem dX11_spots_61 : decode cX11_spots 61 = .ok (.aload_n 0, 1) := do_42 (rdb (p := 32) (i := 29) ch_cX11_spots_32 rfl)
theorem dX11_spots_62 : decode cX11_spots 62 = .ok (.getfield 24, 3) := do_180 (rdb (p := 32) (i := 30) ch_cX11_spots_32 rfl) (rdb (p := 32) (i := 31) ch_cX11_spots_32 rfl) (rdb (p := 32) (i := 32) ch_cX11_spots_32 rfl) rfl
theorem ch_cX11_spots_64 : (cX11_spots.data.toList.drop 64).take 36 = [24, 28, 50, 182, 1, 18, 153, 0, 15, 42, 180, 0, 24, 28, 50, 182, 1, 21, 153, 0, 9, 42, 8, 182, 0, 67, 172, 42, 180, 0, 42, 42, 180, 0, 10, 27] := by decide +kernel
theorem dX11_spots_65 : decode cX11_spots 65 = .ok (.iload_n 2, 1) := do_28 (rdb (p := 64) (i := 1) ch_cX11_spots_64 rfl)
theorem dX11_spots_66 : decode cX11_spots 66 = .ok (.aaload, 1) := do_50 (rdb (p := 64) (i := 2) ch_cX11_spots_64 rfl)
theorem dX11_spots_67 : decode cX11_spots 67 = .ok (.invokevirtual 274, 3) := do_182 (rdb (p := 64) (i := 3) ch_cX11_spots_64 rfl) (rdb (p := 64) (i := 4) ch_cX11_spots_64 rfl) (rdb (p := 64) (i := 5) ch_cX11_spots_64 rfl) rfl
theorem dX11_spots_70 : decode cX11_spots 70 = .ok (.ifCond .eq 15, 3) := do_153 (rdb (p := 64) (i := 6) ch_cX11_spots_64 rfl) (rdb (p := 64) (i := 7) ch_cX11_spots_64 rfl) (rdb (p := 64) (i := 8) ch_cX11_spots_64 rfl) (by decide +kernel)
theorem dX11_spots_73 : decode cX11_spots 73 = .ok (.aload_n 0, 1) := do_42 (rdb (p := 64) (i := 9) ch_cX11_spots_64 rfl)
theorem dX11_spots_74 : decode cX11_spots 74 = .ok (.getfield 24, 3) := do_180 (rdb (p := 64) (i := 10) ch_cX11_spots_64 rfl) (rdb (p := 64) (i := 11) ch_cX11_spots_64 rfl) (rdb (p := 64) (i := 12) ch_cX11_spots_64 rfl) rfl
theorem dX11_spots_77 : decode cX11_spots 77 = .ok (.iload_n 2, 1) := do_28 (rdb (p := 64) (i := 13) ch_cX11_spots_64 rfl)
theorem dX11_spots_78 : decode cX11_spots 78 = .ok (.aaload, 1) := do_50 (rdb (p := 64) (i := 14) ch_cX11_spots_64 rfl)
theorem dX11_spots_79 : decode cX11_spots 79 = .ok (.invokevirtual 277, 3) := do_182 (rdb (p := 64) (i := 15) ch_cX11_spots_64 rfl) (rdb (p := 64) (i := 16) ch_cX11_spots_64 rfl) (rdb (p := 64) (i := 17) ch_cX11_spots_64 rfl) rfl
theorem dX11_spots_82 : decode cX11_spots 82 = .ok (.ifCond .eq 9, 3) := do_153 (rdb (p := 64) (i := 18) ch_cX11_spots_64 rfl) (rdb (p := 64) (i := 19) ch_cX11_spots_64 rfl) (rdb (p := 64) (i := 20) ch_cX11_spots_64 rfl) (by decide +kernel)
theorem dX11_spots_85 : decode cX11_spots 85 = .ok (.aload_n 0, 1) := do_42 (rdb (p := 64) (i := 21) ch_cX11_spots_64 rfl)
theorem dX11_spots_86 : decode cX11_spots 86 = .ok (.iconst 5, 1) := do_8 (rdb (p := 64) (i := 22) ch_cX11_spots_64 rfl)
theorem dX11_spots_87 : decode cX11_spots 87 = .ok (.invokevirtual 67, 3) := do_182 (rdb (p := 64) (i := 23) ch_cX11_spots_64 rfl) (rdb (p := 64) (i := 24) ch_cX11_spots_64 rfl) (rdb (p := 64) (i := 25) ch_cX11_spots_64 rfl) rfl
theorem dX11_spots_90 : decode cX11_spots 90 = .ok (.ireturn, 1) := do_172 (rdb (p := 64) (i := 26) ch_cX11_spots_64 rfl)
theorem dX11_spots_91 : decode cX11_spots 91 = .ok (.aload_n 0, 1) := do_42 (rdb (p := 64) (i := 27) ch_cX11_spots_64 rfl)
theorem dX11_spots_92 : decode cX11_spots 92 = .ok (.getfield 42, 3) := do_180 (rdb (p := 64) (i := 28) ch_cX11_spots_64 rfl) (rdb (p := 64) (i := 29) ch_cX11_spots_64 rfl) (rdb (p := 64) (i := 30) ch_cX11_spots_64 rfl) rfl
theorem dX11_spots_95 : decode cX11_spots 95 = .ok (.aload_n 0, 1) := do_42 (rdb (p := 64) (i := 31) ch_cX11_spots_64 rfl)
theorem ch_cX11_spots_96 : (cX11_spots.data.toList.drop 96).take 36 = [180, 0, 10, 27, 42, 180, 0, 24, 28, 50, 29, 182, 1, 24, 154, 0, 9, 42, 6, 182, 0, 67, 172, 21, 4, 154, 0, 13, 42, 180, 0, 42, 180, 1, 28, 167] := by decide +kernel
theorem dX11_spots_96 : decode cX11_spots 96 = .ok (.getfield 10, 3) := do_180 (rdb (p := 96) (i := 0) ch_cX11_spots_96 rfl) (rdb (p := 96) (i := 1) ch_cX11_spots_96 rfl) (rdb (p := 96) (i := 2) ch_cX11_spots_96 rfl) rfl
theorem dX11_spots_99 : decode cX11_spots 99 = .ok (.iload_n 1, 1) := do_27 (rdb (p := 96) (i := 3) ch_cX11_spots_96 rfl)
theorem dX11_spots_100 : decode cX11_spots 100 = .ok (.aload_n 0, 1) := do_42 (rdb (p := 96) (i := 4) ch_cX11_spots_96 rfl)
theorem dX11_spots_101 : decode cX11_spots 101 = .ok (.getfield 24, 3) := do_180 (rdb (p := 96) (i := 5) ch_cX11_spots_96 rfl) (rdb (p := 96) (i := 6) ch_cX11_spots_96 rfl) (rdb (p := 96) (i := 7) ch_cX11_spots_96 rfl) rfl
theorem dX11_spots_104 : decode cX11_spots 104 = .ok (.iload_n 2, 1) := do_28 (rdb (p := 96) (i := 8) ch_cX11_spots_96 rfl)
theorem dX11_spots_105 : decode cX11_spots 105 = .ok (.aaload, 1) := do_50 (rdb (p := 96) (i := 9) ch_cX11_spots_96 rfl)
theorem dX11_spots_106 : decode cX11_spots 106 = .ok (.iload_n 3, 1) := do_29 (rdb (p := 96) (i := 10) ch_cX11_spots_96 rfl)
theorem dX11_spots_107 : decode cX11_spots 107 = .ok (.invokevirtual 280, 3) := do_182 (rdb (p := 96) (i := 11) ch_cX11_spots_96 rfl) (rdb (p := 96) (i := 12) ch_cX11_spots_96 rfl) (rdb (p := 96) (i := 13) ch_cX11_spots_96 rfl) rfl
theorem dX11_spots_110 : decode cX11_spots 110 = .ok (.ifCond .ne 9, 3) := do_154 (rdb (p := 96) (i := 14) ch_cX11_spots_96 rfl) (rdb (p := 96) (i := 15) ch_cX11_spots_96 rfl) (rdb (p := 96) (i := 16) ch_cX11_spots_96 rfl) (by decide +kernel)
theorem dX11_spots_113 : decode cX11_spots 113 = .ok (.aload_n 0, 1) := do_42 (rdb (p := 96) (i := 17) ch_cX11_spots_96 rfl)
theorem dX11_spots_114 : decode cX11_spots 114 = .ok (.iconst 3, 1) := do_6 (rdb (p := 96) (i := 18) ch_cX11_spots_96 rfl)
theorem dX11_spots_115 : decode cX11_spots 115 = .ok (.invokevirtual 67, 3) := do_182 (rdb (p := 96) (i := 19) ch_cX11_spots_96 rfl) (rdb (p := 96) (i := 20) ch_cX11_spots_96 rfl) (rdb (p := 96) (i := 21) ch_cX11_spots_96 rfl) rfl
theorem dX11_spots_118 : decode cX11_spots 118 = .ok (.ireturn, 1) := do_172 (rdb (p := 96) (i := 22) ch_cX11_spots_96 rfl)
theorem dX11_spots_119 : decode cX11_spots 119 = .ok (.iload 4, 2) := do_21 (rdb (p := 96) (i := 23) ch_cX11_spots_96 rfl) (rdb (p := 96) (i := 24) ch_cX11_spots_96 rfl)
theorem dX11_spots_121 : decode cX11_spots 121 = .ok (.ifCond .ne 13, 3) := do_154 (rdb (p := 96) (i := 25) ch_cX11_spots_96 rfl) (rdb (p := 96) (i := 26) ch_cX11_spots_96 rfl) (rdb (p := 96) (i := 27) ch_cX11_spots_96 rfl) (by decide +kernel)
theorem dX11_spots_124 : decode cX11_spots 124 = .ok (.aload_n 0, 1) := do_42 (rdb (p := 96) (i := 28) ch_cX11_spots_96 rfl)
theorem dX11_spots_125 : decode cX11_spots 125 = .ok (.getfield 42, 3) := do_180 (rdb (p := 96) (i := 29) ch_cX11_spots_96 rfl) (rdb (p := 96) (i := 30) ch_cX11_spots_96 rfl) (rdb (p := 96) (i := 31) ch_cX11_spots_96 rfl) rfl
theorem ch_cX11_spots_128 : (cX11_spots.data.toList.drop 128).take 36 = [180, 1, 28, 167, 0, 10, 42, 180, 0, 42, 180, 1, 31, 172] := by decide +kernel
theorem dX11_spots_128 : decode cX11_spots 128 = .ok (.getfield 284, 3) := do_180 (rdb (p := 128) (i := 0) ch_cX11_spots_128 rfl) (rdb (p := 128) (i := 1) ch_cX11_spots_128 rfl) (rdb (p := 128) (i := 2) ch_cX11_spots_128 rfl) rfl
theorem dX11_spots_131 : decode cX11_spots 131 = .ok (.goto 10, 3) := do_167 (rdb (p := 128) (i := 3) ch_cX11_spots_128 rfl) (rdb (p := 128) (i := 4) ch_cX11_spots_128 rfl) (rdb (p := 128) (i := 5) ch_cX11_spots_128 rfl) (by decide +kernel)
theorem dX11_spots_134 : decode cX11_spots 134 = .ok (.aload_n 0, 1) := do_42 (rdb (p := 128) (i := 6) ch_cX11_spots_128 rfl)
theorem dX11_spots_135 : decode cX11_spots 135 = .ok (.getfield 42, 3) := do_180 (rdb (p := 128) (i := 7) ch_cX11_spots_128 rfl) (rdb (p := 128) (i := 8) ch_cX11_spots_128 rfl) (rdb (p := 128) (i := 9) ch_cX11_spots_128 rfl) rfl
theorem dX11_spots_138 : decode cX11_spots 138 = .ok (.getfield 287, 3) := do_180 (rdb (p := 128) (i := 10) ch_cX11_spots_128 rfl) (rdb (p := 128) (i := 11) ch_cX11_spots_128 rfl) (rdb (p := 128) (i := 12) ch_cX11_spots_128 rfl) rfl
theorem dX11_spots_141 : decode cX11_spots 141 = .ok (.ireturn, 1) := do_172 (rdb (p := 128) (i := 13) ch_cX11_spots_128 rfl)
theorem ch_cX11_tell_0 : (cX11_tell.data.toList.drop 0).take 36 = [42, 180, 0, 10, 180, 1, 129, 182, 0, 196, 154, 0, 9, 42, 7, 182, 0, 67, 172, 42, 180, 0, 10, 180, 1, 129, 27, 182, 0, 201, 42, 180, 0, 10, 180, 1] := by decide +kernel
theorem dX11_tell_0 : decode cX11_tell 0 = .ok (.aload_n 0, 1) := do_42 (rdb (p := 0) (i := 0) ch_cX11_tell_0 rfl)
theorem dX11_tell_1 : decode cX11_tell 1 = .ok (.getfield 10, 3) := do_180 (rdb (p := 0) (i := 1) ch_cX11_tell_0 rfl) (rdb (p := 0) (i := 2) ch_cX11_tell_0 rfl) (rdb (p := 0) (i := 3) ch_cX11_tell_0 rfl) rfl
theorem dX11_tell_4 : decode cX11_tell 4 = .ok (.getfield 385, 3) := do_180 (rdb (p := 0) (i := 4) ch_cX11_tell_0 rfl) (rdb (p := 0) (i := 5) ch_cX11_tell_0 rfl) (rdb (p := 0) (i := 6) ch_cX11_tell_0 rfl) rfl
theorem dX11_tell_7 : decode cX11_tell 7 = .ok (.invokevirtual 196, 3) := do_182 (rdb (p := 0) (i := 7) ch_cX11_tell_0 rfl) (rdb (p := 0) (i := 8) ch_cX11_tell_0 rfl) (rdb (p := 0) (i := 9) ch_cX11_tell_0 rfl) rfl
theorem dX11_tell_10 : decode cX11_tell 10 = .ok (.ifCond .ne 9, 3) := do_154 (rdb (p := 0) (i := 10) ch_cX11_tell_0 rfl) (rdb (p := 0) (i := 11) ch_cX11_tell_0 rfl) (rdb (p := 0) (i := 12) ch_cX11_tell_0 rfl) (by decide +kernel)
theorem dX11_tell_13 : decode cX11_tell 13 = .ok (.aload_n 0, 1) := do_42 (rdb (p := 0) (i := 13) ch_cX11_tell_0 rfl)
theorem dX11_tell_14 : decode cX11_tell 14 = .ok (.iconst 4, 1) := do_7 (rdb (p := 0) (i := 14) ch_cX11_tell_0 rfl)
theorem dX11_tell_15 : decode cX11_tell 15 = .ok (.invokevirtual 67, 3) := do_182 (rdb (p := 0) (i := 15) ch_cX11_tell_0 rfl) (rdb (p := 0) (i := 16) ch_cX11_tell_0 rfl) (rdb (p := 0) (i := 17) ch_cX11_tell_0 rfl) rfl
theorem dX11_tell_18 : decode cX11_tell 18 = .ok (.ireturn, 1) := do_172 (rdb (p := 0) (i := 18) ch_cX11_tell_0 rfl)
theorem dX11_tell_19 : decode cX11_tell 19 = .ok (.aload_n 0, 1) := do_42 (rdb (p := 0) (i := 19) ch_cX11_tell_0 rfl)
theorem dX11_tell_20 : decode cX11_tell 20 = .ok (.getfield 10, 3) := do_180 (rdb (p := 0) (i := 20) ch_cX11_tell_0 rfl) (rdb (p := 0) (i := 21) ch_cX11_tell_0 rfl) (rdb (p := 0) (i := 22) ch_cX11_tell_0 rfl) rfl
theorem dX11_tell_23 : decode cX11_tell 23 = .ok (.getfield 385, 3) := do_180 (rdb (p := 0) (i := 23) ch_cX11_tell_0 rfl) (rdb (p := 0) (i := 24) ch_cX11_tell_0 rfl) (rdb (p := 0) (i := 25) ch_cX11_tell_0 rfl) rfl
theorem dX11_tell_26 : decode cX11_tell 26 = .ok (.iload_n 1, 1) := do_27 (rdb (p := 0) (i := 26) ch_cX11_tell_0 rfl)
theorem dX11_tell_27 : decode cX11_tell 27 = .ok (.invokevirtual 201, 3) := do_182 (rdb (p := 0) (i := 27) ch_cX11_tell_0 rfl) (rdb (p := 0) (i := 28) ch_cX11_tell_0 rfl) (rdb (p := 0) (i := 29) ch_cX11_tell_0 rfl) rfl
theorem dX11_tell_30 : decode cX11_tell 30 = .ok (.aload_n 0, 1) := do_42 (rdb (p := 0) (i := 30) ch_cX11_tell_0 rfl)
theorem dX11_tell_31 : decode cX11_tell 31 = .ok (.getfield 10, 3) := do_180 (rdb (p := 0) (i := 31) ch_cX11_tell_0 rfl) (rdb (p := 0) (i := 32) ch_cX11_tell_0 rfl) (rdb (p := 0) (i := 33) ch_cX11_tell_0 rfl) rfl
theorem ch_cX11_tell_32 : (cX11_tell.data.toList.drop 32).take 36 = [0, 10, 180, 1, 129, 180, 0, 205, 172] := by decide +kernel
theorem dX11_tell_34 : decode cX11_tell 34 = .ok (.getfield 385, 3) := do_180 (rdb (p := 32) (i := 2) ch_cX11_tell_32 rfl) (rdb (p := 32) (i := 3) ch_cX11_tell_32 rfl) (rdb (p := 32) (i := 4) ch_cX11_tell_32 rfl) rfl
theorem dX11_tell_37 : decode cX11_tell 37 = .ok (.getfield 205, 3) := do_180 (rdb (p := 32) (i := 5) ch_cX11_tell_32 rfl) (rdb (p := 32) (i := 6) ch_cX11_tell_32 rfl) (rdb (p := 32) (i := 7) ch_cX11_tell_32 rfl) rfl
theorem dX11_tell_40 : decode cX11_tell 40 = .ok (.ireturn, 1) := do_172 (rdb (p := 32) (i := 8) ch_cX11_tell_32 rfl)
theorem ch_cX11_tenths_0 : (cX11_tenths.data.toList.drop 0).take 36 = [27, 4, 16, 100, 184, 0, 89, 154, 0, 9, 42, 4, 182, 0, 67, 172, 42, 180, 0, 10, 180, 1, 34, 27, 96, 17, 39, 15, 164, 0, 9, 42, 6, 182, 0, 67] := by decide +kernel
theorem dX11_tenths_0 : decode cX11_tenths 0 = .ok (.iload_n 1, 1) := do_27 (rdb (p := 0) (i := 0) ch_cX11_tenths_0 rfl)
theorem dX11_tenths_1 : decode cX11_tenths 1 = .ok (.iconst 1, 1) := do_4 (rdb (p := 0) (i := 1) ch_cX11_tenths_0 rfl)
theorem dX11_tenths_2 : decode cX11_tenths 2 = .ok (.bipush 100, 2) := do_16 (rdb (p := 0) (i := 2) ch_cX11_tenths_0 rfl) (rdb (p := 0) (i := 3) ch_cX11_tenths_0 rfl) (by decide +kernel)
theorem dX11_tenths_4 : decode cX11_tenths 4 = .ok (.invokestatic 89, 3) := do_184 (rdb (p := 0) (i := 4) ch_cX11_tenths_0 rfl) (rdb (p := 0) (i := 5) ch_cX11_tenths_0 rfl) (rdb (p := 0) (i := 6) ch_cX11_tenths_0 rfl) rfl
theorem dX11_tenths_7 : decode cX11_tenths 7 = .ok (.ifCond .ne 9, 3) := do_154 (rdb (p := 0) (i := 7) ch_cX11_tenths_0 rfl) (rdb (p := 0) (i := 8) ch_cX11_tenths_0 rfl) (rdb (p := 0) (i := 9) ch_cX11_tenths_0 rfl) (by decide +kernel)
theorem dX11_tenths_10 : decode cX11_tenths 10 = .ok (.aload_n 0, 1) := do_42 (rdb (p := 0) (i := 10) ch_cX11_tenths_0 rfl)
theorem dX11_tenths_11 : decode cX11_tenths 11 = .ok (.iconst 1, 1) := do_4 (rdb (p := 0) (i := 11) ch_cX11_tenths_0 rfl)
theorem dX11_tenths_12 : decode cX11_tenths 12 = .ok (.invokevirtual 67, 3) := do_182 (rdb (p := 0) (i := 12) ch_cX11_tenths_0 rfl) (rdb (p := 0) (i := 13) ch_cX11_tenths_0 rfl) (rdb (p := 0) (i := 14) ch_cX11_tenths_0 rfl) rfl
theorem dX11_tenths_15 : decode cX11_tenths 15 = .ok (.ireturn, 1) := do_172 (rdb (p := 0) (i := 15) ch_cX11_tenths_0 rfl)
theorem dX11_tenths_16 : decode cX11_tenths 16 = .ok (.aload_n 0, 1) := do_42 (rdb (p := 0) (i := 16) ch_cX11_tenths_0 rfl)
theorem dX11_tenths_17 : decode cX11_tenths 17 = .ok (.getfield 10, 3) := do_180 (rdb (p := 0) (i := 17) ch_cX11_tenths_0 rfl) (rdb (p := 0) (i := 18) ch_cX11_tenths_0 rfl) (rdb (p := 0) (i := 19) ch_cX11_tenths_0 rfl) rfl
theorem dX11_tenths_20 : decode cX11_tenths 20 = .ok (.getfield 290, 3) := do_180 (rdb (p := 0) (i := 20) ch_cX11_tenths_0 rfl) (rdb (p := 0) (i := 21) ch_cX11_tenths_0 rfl) (rdb (p := 0) (i := 22) ch_cX11_tenths_0 rfl) rfl
theorem dX11_tenths_23 : decode cX11_tenths 23 = .ok (.iload_n 1, 1) := do_27 (rdb (p := 0) (i := 23) ch_cX11_tenths_0 rfl)
theorem dX11_tenths_24 : decode cX11_tenths 24 = .ok (.iadd, 1) := do_96 (rdb (p := 0) (i := 24) ch_cX11_tenths_0 rfl)
theorem dX11_tenths_25 : decode cX11_tenths 25 = .ok (.sipush 9999, 3) := do_17 (rdb (p := 0) (i := 25) ch_cX11_tenths_0 rfl) (rdb (p := 0) (i := 26) ch_cX11_tenths_0 rfl) (rdb (p := 0) (i := 27) ch_cX11_tenths_0 rfl) (by decide +kernel)
theorem dX11_tenths_28 : decode cX11_tenths 28 = .ok (.if_icmp .le 9, 3) := do_164 (rdb (p := 0) (i := 28) ch_cX11_tenths_0 rfl) (rdb (p := 0) (i := 29) ch_cX11_tenths_0 rfl) (rdb (p := 0) (i := 30) ch_cX11_tenths_0 rfl) (by decide +kernel)
theorem dX11_tenths_31 : decode cX11_tenths 31 = .ok (.aload_n 0, 1) := do_42 (rdb (p := 0) (i := 31) ch_cX11_tenths_0 rfl)
theorem ch_cX11_tenths_32 : (cX11_tenths.data.toList.drop 32).take 36 = [6, 182, 0, 67, 172, 3, 61, 28, 27, 162, 0, 16, 42, 180, 0, 10, 182, 1, 37, 132, 2, 1, 167, 255, 241, 42, 180, 0, 10, 180, 1, 34, 172] := by decide +kernel
theorem dX11_tenths_32 : decode cX11_tenths 32 = .ok (.iconst 3, 1) := do_6 (rdb (p := 32) (i := 0) ch_cX11_tenths_32 rfl)
theorem dX11_tenths_33 : decode cX11_tenths 33 = .ok (.invokevirtual 67, 3) := do_182 (rdb (p := 32) (i := 1) ch_cX11_tenths_32 rfl) (rdb (p := 32) (i := 2) ch_cX11_tenths_32 rfl) (rdb (p := 32) (i := 3) ch_cX11_tenths_32 rfl) rfl
theorem dX11_tenths_36 : decode cX11_tenths 36 = .ok (.ireturn, 1) := do_172 (rdb (p := 32) (i := 4) ch_cX11_tenths_32 rfl)
theorem dX11_tenths_37 : decode cX11_tenths 37 = .ok (.iconst 0, 1) := do_3 (rdb (p := 32) (i := 5) ch_cX11_tenths_32 rfl)
theorem dX11_tenths_38 : decode cX11_tenths 38 = .ok (.istore_n 2, 1) := do_61 (rdb (p := 32) (i := 6) ch_cX11_tenths_32 rfl)
theorem dX11_tenths_39 : decode cX11_tenths 39 = .ok (.iload_n 2, 1) := do_28 (rdb (p := 32) (i := 7) ch_cX11_tenths_32 rfl)
theorem dX11_tenths_40 : decode cX11_tenths 40 = .ok (.iload_n 1, 1) := do_27 (rdb (p := 32) (i := 8) ch_cX11_tenths_32 rfl)
theorem dX11_tenths_41 : decode cX11_tenths 41 = .ok (.if_icmp .ge 16, 3) := do_162 (rdb (p := 32) (i := 9) ch_cX11_tenths_32 rfl) (rdb (p := 32) (i := 10) ch_cX11_tenths_32 rfl) (rdb (p := 32) (i := 11) ch_cX11_tenths_32 rfl) (by decide +kernel)
theorem dX11_tenths_44 : decode cX11_tenths 44 = .ok (.aload_n 0, 1) := do_42 (rdb (p := 32) (i := 12) ch_cX11_tenths_32 rfl)
theorem dX11_tenths_45 : decode cX11_tenths 45 = .ok (.getfield 10, 3) := do_180 (rdb (p := 32) (i := 13) ch_cX11_tenths_32 rfl) (rdb (p := 32) (i := 14) ch_cX11_tenths_32 rfl) (rdb (p := 32) (i := 15) ch_cX11_tenths_32 rfl) rfl
theorem dX11_tenths_48 : decode cX11_tenths 48 = .ok (.invokevirtual 293, 3) := do_182 (rdb (p := 32) (i := 16) ch_cX11_tenths_32 rfl) (rdb (p := 32) (i := 17) ch_cX11_tenths_32 rfl) (rdb (p := 32) (i := 18) ch_cX11_tenths_32 rfl) rfl
theorem dX11_tenths_51 : decode cX11_tenths 51 = .ok (.iinc 2 1, 3) := do_132 (rdb (p := 32) (i := 19) ch_cX11_tenths_32 rfl) (rdb (p := 32) (i := 20) ch_cX11_tenths_32 rfl) (rdb (p := 32) (i := 21) ch_cX11_tenths_32 rfl) (by decide +kernel)
theorem dX11_tenths_54 : decode cX11_tenths 54 = .ok (.goto (-15), 3) := do_167 (rdb (p := 32) (i := 22) ch_cX11_tenths_32 rfl) (rdb (p := 32) (i := 23) ch_cX11_tenths_32 rfl) (rdb (p := 32) (i := 24) ch_cX11_tenths_32 rfl) (by decide +kernel)
theorem dX11_tenths_57 : decode cX11_tenths 57 = .ok (.aload_n 0, 1) := do_42 (rdb (p := 32) (i := 25) ch_cX11_tenths_32 rfl)
theorem dX11_tenths_58 : decode cX11_tenths 58 = .ok (.getfield 10, 3) := do_180 (rdb (p := 32) (i := 26) ch_cX11_tenths_32 rfl) (rdb (p := 32) (i := 27) ch_cX11_tenths_32 rfl) (rdb (p := 32) (i := 28) ch_cX11_tenths_32 rfl) rfl
theorem dX11_tenths_61 : decode cX11_tenths 61 = .ok (.getfield 290, 3) := do_180 (rdb (p := 32) (i := 29) ch_cX11_tenths_32 rfl) (rdb (p := 32) (i := 30) ch_cX11_tenths_32 rfl) (rdb (p := 32) (i := 31) ch_cX11_tenths_32 rfl) rfl
theorem ch_cX11_tenths_64 : (cX11_tenths.data.toList.drop 64).take 36 = [172] := by decide +kernel
theorem dX11_tenths_64 : decode cX11_tenths 64 = .ok (.ireturn, 1) := do_172 (rdb (p := 64) (i := 0) ch_cX11_tenths_64 rfl)
theorem dX11_told_0 : decode cX11_told 0 = .ok (.iload_n 1, 1) := by decide +kernel
theorem dX11_told_1 : decode cX11_told 1 = .ok (.iconst 1, 1) := by decide +kernel
theorem dX11_told_2 : decode cX11_told 2 = .ok (.bipush 6, 2) := by decide +kernel
theorem dX11_told_4 : decode cX11_told 4 = .ok (.invokestatic 89, 3) := by decide +kernel
theorem dX11_told_7 : decode cX11_told 7 = .ok (.ifCond .eq 12, 3) := by decide +kernel
theorem dX11_told_10 : decode cX11_told 10 = .ok (.aload_n 0, 1) := by decide +kernel
theorem dX11_told_11 : decode cX11_told 11 = .ok (.getfield 28, 3) := by decide +kernel
theorem dX11_told_14 : decode cX11_told 14 = .ok (.iload_n 1, 1) := by decide +kernel
theorem dX11_told_15 : decode cX11_told 15 = .ok (.iaload, 1) := by decide +kernel
theorem dX11_told_16 : decode cX11_told 16 = .ok (.goto 8, 3) := by decide +kernel
theorem dX11_told_19 : decode cX11_told 19 = .ok (.aload_n 0, 1) := by decide +kernel
theorem dX11_told_20 : decode cX11_told 20 = .ok (.iconst 1, 1) := by decide +kernel
theorem dX11_told_21 : decode cX11_told 21 = .ok (.invokevirtual 67, 3) := by decide +kernel
theorem dX11_told_24 : decode cX11_told 24 = .ok (.ireturn, 1) := by decide +kernel
theorem dX11_trace_0 : decode cX11_trace 0 = .ok (.aload_n 0, 1) := by decide +kernel
theorem dX11_trace_1 : decode cX11_trace 1 = .ok (.getfield 49, 3) := by decide +kernel
theorem dX11_trace_4 : decode cX11_trace 4 = .ok (.getfield 353, 3) := by decide +kernel
theorem dX11_trace_7 : decode cX11_trace 7 = .ok (.iload_n 1, 1) := by decide +kernel
theorem dX11_trace_8 : decode cX11_trace 8 = .ok (.invokevirtual 356, 3) := by decide +kernel
theorem dX11_trace_11 : decode cX11_trace 11 = .ok (.ifCond .ne 9, 3) := by decide +kernel
theorem dX11_trace_14 : decode cX11_trace 14 = .ok (.aload_n 0, 1) := by decide +kernel
theorem dX11_trace_15 : decode cX11_trace 15 = .ok (.iconst 2, 1) := by decide +kernel
theorem dX11_trace_16 : decode cX11_trace 16 = .ok (.invokevirtual 67, 3) := by decide +kernel
theorem dX11_trace_19 : decode cX11_trace 19 = .ok (.ireturn, 1) := by decide +kernel
theorem dX11_trace_20 : decode cX11_trace 20 = .ok (.aload_n 0, 1) := by decide +kernel
theorem dX11_trace_21 : decode cX11_trace 21 = .ok (.getfield 49, 3) := by decide +kernel
theorem dX11_trace_24 : decode cX11_trace 24 = .ok (.getfield 353, 3) := by decide +kernel
theorem dX11_trace_27 : decode cX11_trace 27 = .ok (.iload_n 1, 1) := by decide +kernel
theorem dX11_trace_28 : decode cX11_trace 28 = .ok (.invokevirtual 331, 3) := by decide +kernel
theorem dX11_trace_31 : decode cX11_trace 31 = .ok (.ireturn, 1) := by decide +kernel
theorem ch_cX11_way_0 : (cX11_way.data.toList.drop 0).take 36 = [42, 180, 0, 10, 27, 182, 0, 154, 153, 0, 15, 28, 184, 0, 62, 153, 0, 8, 29, 2, 162, 0, 9, 42, 4, 182, 0, 67, 172, 42, 180, 0, 10, 180, 0, 157] := by decide +kernel
theorem dX11_way_0 : decode cX11_way 0 = .ok (.aload_n 0, 1) := do_42 (rdb (p := 0) (i := 0) ch_cX11_way_0 rfl)
theorem dX11_way_1 : decode cX11_way 1 = .ok (.getfield 10, 3) := do_180 (rdb (p := 0) (i := 1) ch_cX11_way_0 rfl) (rdb (p := 0) (i := 2) ch_cX11_way_0 rfl) (rdb (p := 0) (i := 3) ch_cX11_way_0 rfl) rfl
theorem dX11_way_4 : decode cX11_way 4 = .ok (.iload_n 1, 1) := do_27 (rdb (p := 0) (i := 4) ch_cX11_way_0 rfl)
theorem dX11_way_5 : decode cX11_way 5 = .ok (.invokevirtual 154, 3) := do_182 (rdb (p := 0) (i := 5) ch_cX11_way_0 rfl) (rdb (p := 0) (i := 6) ch_cX11_way_0 rfl) (rdb (p := 0) (i := 7) ch_cX11_way_0 rfl) rfl
theorem dX11_way_8 : decode cX11_way 8 = .ok (.ifCond .eq 15, 3) := do_153 (rdb (p := 0) (i := 8) ch_cX11_way_0 rfl) (rdb (p := 0) (i := 9) ch_cX11_way_0 rfl) (rdb (p := 0) (i := 10) ch_cX11_way_0 rfl) (by decide +kernel)
theorem dX11_way_11 : decode cX11_way 11 = .ok (.iload_n 2, 1) := do_28 (rdb (p := 0) (i := 11) ch_cX11_way_0 rfl)
theorem dX11_way_12 : decode cX11_way 12 = .ok (.invokestatic 62, 3) := do_184 (rdb (p := 0) (i := 12) ch_cX11_way_0 rfl) (rdb (p := 0) (i := 13) ch_cX11_way_0 rfl) (rdb (p := 0) (i := 14) ch_cX11_way_0 rfl) rfl
theorem dX11_way_15 : decode cX11_way 15 = .ok (.ifCond .eq 8, 3) := do_153 (rdb (p := 0) (i := 15) ch_cX11_way_0 rfl) (rdb (p := 0) (i := 16) ch_cX11_way_0 rfl) (rdb (p := 0) (i := 17) ch_cX11_way_0 rfl) (by decide +kernel)
theorem dX11_way_18 : decode cX11_way 18 = .ok (.iload_n 3, 1) := do_29 (rdb (p := 0) (i := 18) ch_cX11_way_0 rfl)
theorem dX11_way_19 : decode cX11_way 19 = .ok (.iconst (-1), 1) := do_2 (rdb (p := 0) (i := 19) ch_cX11_way_0 rfl)
theorem dX11_way_20 : decode cX11_way 20 = .ok (.if_icmp .ge 9, 3) := do_162 (rdb (p := 0) (i := 20) ch_cX11_way_0 rfl) (rdb (p := 0) (i := 21) ch_cX11_way_0 rfl) (rdb (p := 0) (i := 22) ch_cX11_way_0 rfl) (by decide +kernel)
theorem dX11_way_23 : decode cX11_way 23 = .ok (.aload_n 0, 1) := do_42 (rdb (p := 0) (i := 23) ch_cX11_way_0 rfl)
theorem dX11_way_24 : decode cX11_way 24 = .ok (.iconst 1, 1) := do_4 (rdb (p := 0) (i := 24) ch_cX11_way_0 rfl)
theorem dX11_way_25 : decode cX11_way 25 = .ok (.invokevirtual 67, 3) := do_182 (rdb (p := 0) (i := 25) ch_cX11_way_0 rfl) (rdb (p := 0) (i := 26) ch_cX11_way_0 rfl) (rdb (p := 0) (i := 27) ch_cX11_way_0 rfl) rfl
theorem dX11_way_28 : decode cX11_way 28 = .ok (.ireturn, 1) := do_172 (rdb (p := 0) (i := 28) ch_cX11_way_0 rfl)
theorem dX11_way_29 : decode cX11_way 29 = .ok (.aload_n 0, 1) := do_42 (rdb (p := 0) (i := 29) ch_cX11_way_0 rfl)
theorem dX11_way_30 : decode cX11_way 30 = .ok (.getfield 10, 3) := do_180 (rdb (p := 0) (i := 30) ch_cX11_way_0 rfl) (rdb (p := 0) (i := 31) ch_cX11_way_0 rfl) (rdb (p := 0) (i := 32) ch_cX11_way_0 rfl) rfl
theorem ch_cX11_way_32 : (cX11_way.data.toList.drop 32).take 36 = [10, 180, 0, 157, 27, 50, 58, 4, 42, 180, 0, 42, 25, 4, 28, 182, 1, 40, 29, 2, 160, 0, 16, 42, 180, 0, 42, 25, 4, 180, 0, 229, 182, 1, 44, 172] := by decide +kernel
theorem dX11_way_33 : decode cX11_way 33 = .ok (.getfield 157, 3) := do_180 (rdb (p := 32) (i := 1) ch_cX11_way_32 rfl) (rdb (p := 32) (i := 2) ch_cX11_way_32 rfl) (rdb (p := 32) (i := 3) ch_cX11_way_32 rfl) rfl
theorem dX11_way_36 : decode cX11_way 36 = .ok (.iload_n 1, 1) := do_27 (rdb (p := 32) (i := 4) ch_cX11_way_32 rfl)
theorem dX11_way_37 : decode cX11_way 37 = .ok (.aaload, 1) := do_50 (rdb (p := 32) (i := 5) ch_cX11_way_32 rfl)
theorem dX11_way_38 : decode cX11_way 38 = .ok (.astore 4, 2) := do_58 (rdb (p := 32) (i := 6) ch_cX11_way_32 rfl) (rdb (p := 32) (i := 7) ch_cX11_way_32 rfl)
theorem dX11_way_40 : decode cX11_way 40 = .ok (.aload_n 0, 1) := do_42 (rdb (p := 32) (i := 8) ch_cX11_way_32 rfl)
theorem dX11_way_41 : decode cX11_way 41 = .ok (.getfield 42, 3) := do_180 (rdb (p := 32) (i := 9) ch_cX11_way_32 rfl) (rdb (p := 32) (i := 10) ch_cX11_way_32 rfl) (rdb (p := 32) (i := 11) ch_cX11_way_32 rfl) rfl
theorem dX11_way_44 : decode cX11_way 44 = .ok (.aload 4, 2) := do_25 (rdb (p := 32) (i := 12) ch_cX11_way_32 rfl) (rdb (p := 32) (i := 13) ch_cX11_way_32 rfl)
theorem dX11_way_46 : decode cX11_way 46 = .ok (.iload_n 2, 1) := do_28 (rdb (p := 32) (i := 14) ch_cX11_way_32 rfl)
theorem dX11_way_47 : decode cX11_way 47 = .ok (.invokevirtual 296, 3) := do_182 (rdb (p := 32) (i := 15) ch_cX11_way_32 rfl) (rdb (p := 32) (i := 16) ch_cX11_way_32 rfl) (rdb (p := 32) (i := 17) ch_cX11_way_32 rfl) rfl
theorem dX11_way_50 : decode cX11_way 50 = .ok (.iload_n 3, 1) := do_29 (rdb (p := 32) (i := 18) ch_cX11_way_32 rfl)
theorem dX11_way_51 : decode cX11_way 51 = .ok (.iconst (-1), 1) := do_2 (rdb (p := 32) (i := 19) ch_cX11_way_32 rfl)
theorem dX11_way_52 : decode cX11_way 52 = .ok (.if_icmp .ne 16, 3) := do_160 (rdb (p := 32) (i := 20) ch_cX11_way_32 rfl) (rdb (p := 32) (i := 21) ch_cX11_way_32 rfl) (rdb (p := 32) (i := 22) ch_cX11_way_32 rfl) (by decide +kernel)
theorem dX11_way_55 : decode cX11_way 55 = .ok (.aload_n 0, 1) := do_42 (rdb (p := 32) (i := 23) ch_cX11_way_32 rfl)
theorem dX11_way_56 : decode cX11_way 56 = .ok (.getfield 42, 3) := do_180 (rdb (p := 32) (i := 24) ch_cX11_way_32 rfl) (rdb (p := 32) (i := 25) ch_cX11_way_32 rfl) (rdb (p := 32) (i := 26) ch_cX11_way_32 rfl) rfl
theorem dX11_way_59 : decode cX11_way 59 = .ok (.aload 4, 2) := do_25 (rdb (p := 32) (i := 27) ch_cX11_way_32 rfl) (rdb (p := 32) (i := 28) ch_cX11_way_32 rfl)
theorem dX11_way_61 : decode cX11_way 61 = .ok (.getfield 229, 3) := do_180 (rdb (p := 32) (i := 29) ch_cX11_way_32 rfl) (rdb (p := 32) (i := 30) ch_cX11_way_32 rfl) (rdb (p := 32) (i := 31) ch_cX11_way_32 rfl) rfl
theorem ch_cX11_way_64 : (cX11_way.data.toList.drop 64).take 36 = [182, 1, 44, 172, 42, 180, 0, 42, 25, 4, 28, 29, 182, 1, 47, 54, 5, 21, 5, 156, 0, 11, 42, 5, 182, 0, 67, 167, 0, 5, 21, 5, 172] := by decide +kernel
theorem dX11_way_64 : decode cX11_way 64 = .ok (.invokevirtual 300, 3) := do_182 (rdb (p := 64) (i := 0) ch_cX11_way_64 rfl) (rdb (p := 64) (i := 1) ch_cX11_way_64 rfl) (rdb (p := 64) (i := 2) ch_cX11_way_64 rfl) rfl
theorem dX11_way_67 : decode cX11_way 67 = .ok (.ireturn, 1) := do_172 (rdb (p := 64) (i := 3) ch_cX11_way_64 rfl)
theorem dX11_way_68 : decode cX11_way 68 = .ok (.aload_n 0, 1) := do_42 (rdb (p := 64) (i := 4) ch_cX11_way_64 rfl)
theorem dX11_way_69 : decode cX11_way 69 = .ok (.getfield 42, 3) := do_180 (rdb (p := 64) (i := 5) ch_cX11_way_64 rfl) (rdb (p := 64) (i := 6) ch_cX11_way_64 rfl) (rdb (p := 64) (i := 7) ch_cX11_way_64 rfl) rfl
theorem dX11_way_72 : decode cX11_way 72 = .ok (.aload 4, 2) := do_25 (rdb (p := 64) (i := 8) ch_cX11_way_64 rfl) (rdb (p := 64) (i := 9) ch_cX11_way_64 rfl)
theorem dX11_way_74 : decode cX11_way 74 = .ok (.iload_n 2, 1) := do_28 (rdb (p := 64) (i := 10) ch_cX11_way_64 rfl)
theorem dX11_way_75 : decode cX11_way 75 = .ok (.iload_n 3, 1) := do_29 (rdb (p := 64) (i := 11) ch_cX11_way_64 rfl)
theorem dX11_way_76 : decode cX11_way 76 = .ok (.invokevirtual 303, 3) := do_182 (rdb (p := 64) (i := 12) ch_cX11_way_64 rfl) (rdb (p := 64) (i := 13) ch_cX11_way_64 rfl) (rdb (p := 64) (i := 14) ch_cX11_way_64 rfl) rfl
theorem dX11_way_79 : decode cX11_way 79 = .ok (.istore 5, 2) := do_54 (rdb (p := 64) (i := 15) ch_cX11_way_64 rfl) (rdb (p := 64) (i := 16) ch_cX11_way_64 rfl)
theorem dX11_way_81 : decode cX11_way 81 = .ok (.iload 5, 2) := do_21 (rdb (p := 64) (i := 17) ch_cX11_way_64 rfl) (rdb (p := 64) (i := 18) ch_cX11_way_64 rfl)
theorem dX11_way_83 : decode cX11_way 83 = .ok (.ifCond .ge 11, 3) := do_156 (rdb (p := 64) (i := 19) ch_cX11_way_64 rfl) (rdb (p := 64) (i := 20) ch_cX11_way_64 rfl) (rdb (p := 64) (i := 21) ch_cX11_way_64 rfl) (by decide +kernel)
theorem dX11_way_86 : decode cX11_way 86 = .ok (.aload_n 0, 1) := do_42 (rdb (p := 64) (i := 22) ch_cX11_way_64 rfl)
theorem dX11_way_87 : decode cX11_way 87 = .ok (.iconst 2, 1) := do_5 (rdb (p := 64) (i := 23) ch_cX11_way_64 rfl)
theorem dX11_way_88 : decode cX11_way 88 = .ok (.invokevirtual 67, 3) := do_182 (rdb (p := 64) (i := 24) ch_cX11_way_64 rfl) (rdb (p := 64) (i := 25) ch_cX11_way_64 rfl) (rdb (p := 64) (i := 26) ch_cX11_way_64 rfl) rfl
theorem dX11_way_91 : decode cX11_way 91 = .ok (.goto 5, 3) := do_167 (rdb (p := 64) (i := 27) ch_cX11_way_64 rfl) (rdb (p := 64) (i := 28) ch_cX11_way_64 rfl) (rdb (p := 64) (i := 29) ch_cX11_way_64 rfl) (by decide +kernel)
theorem dX11_way_94 : decode cX11_way 94 = .ok (.iload 5, 2) := do_21 (rdb (p := 64) (i := 30) ch_cX11_way_64 rfl) (rdb (p := 64) (i := 31) ch_cX11_way_64 rfl)
theorem ch_cX11_way_96 : (cX11_way.data.toList.drop 96).take 36 = [172] := by decide +kernel
theorem dX11_way_96 : decode cX11_way 96 = .ok (.ireturn, 1) := do_172 (rdb (p := 96) (i := 0) ch_cX11_way_96 rfl)
end
section
def S_c_X11_feed : rf → Nat → Prop := fun c k => (c.1 = 33 ∧ c.2.1 = 0 ∧ c.2.2 = 0) ∨ (c.1 = 5 ∧ c.2.1 = 0 ∧ c.2.2 = 0 ∧ k = 1) ∨ (c.1 = 44 ∧ c.2.1 = 0) ∨ False
def ST_X11_feed_39 (v : Int64) (u : Int32) (Mz : mM) (v4_39 : Int32) (M_39 : mM) (v4_39y : Int32) (M_39y : mM) : Prop := (0 ≤ v4_39.toInt) ∧ (Inv M_39) ∧ (FR (S_c_X11_feed) Mz M_39) ∧ (v4_39.toInt < u.toInt) ∧ ∃ z17_ : Int32, (z17_.toInt = 8 * v4_39.toInt) ∧ ∃ w19_ : Int64, (w19_ = (v.toUInt64 >>> (z17_.toInt64.toUInt64 &&& Int64.toUInt64 63)).toInt64) ∧ ∃ z21_ : Int32, (z21_ = w19_.toInt32) ∧ ∃ z23_ : Int32, (z23_ = z21_ &&& (255 : Int32)) ∧ (0 ≤ z23_.toInt ∧ z23_.toInt < ((2 ^ 8 : Nat) : Int)) ∧ ∃ M26_ : mM, (Inv M26_) ∧ (FR (S_c_X5_add 0 0) M_39 M26_) ∧ (SP_X5_add 0 0 z23_ M_39 M26_) ∧ ∃ z33_ : Int32, (z33_.toInt = v4_39.toInt + 1) ∧ v4_39y = z33_ ∧ M_39y = M26_
def SP_X11_feed (v : Int64) (u : Int32) (Mz : mM) (r_ : Int32) (M_ : mM) : Prop := (((SP_X11_within u 1 8 Mz (1 : Int32)) ∧ (1 ≤ u.toInt ∧ u.toInt ≤ 8) ∧ ∃ r7_ : Int32, (SP_X5_room 0 0 Mz r7_) ∧ (((u.toInt ≤ r7_.toInt) ∧ ∃ v4_39 : Int32, (0 ≤ v4_39.toInt) ∧ ∃ M_39 : mM, (RCH (fun x_ y_ => ST_X11_feed_39 v u Mz x_.1 x_.2 y_.1 y_.2) ((0 : Int32), Mz) (v4_39, M_39)) ∧ (Inv M_39) ∧ (FR (S_c_X11_feed) Mz M_39) ∧ (u.toInt ≤ v4_39.toInt) ∧ ∃ z15_ : Int32, (z15_ = M_39.1 (5, 0, 0) 1) ∧ r_ = z15_ ∧ M_ = M_39) ∨ ((r7_.toInt < u.toInt) ∧ ∃ M36_ : mM, (Inv M36_) ∧ (FR (S_c_X11_error) Mz M36_) ∧ ∃ r35_ : Int32, (SP_X11_error 4 Mz r35_ M36_) ∧ r_ = r35_ ∧ M_ = M36_))) ∨ ((SP_X11_within u 1 8 Mz (0 : Int32)) ∧ (¬ (1 ≤ u.toInt ∧ u.toInt ≤ 8)) ∧ ∃ M45_ : mM, (Inv M45_) ∧ (FR (S_c_X11_error) Mz M45_) ∧ ∃ r44_ : Int32, (SP_X11_error 1 Mz r44_ M45_) ∧ r_ = r44_ ∧ M_ = M45_))
theorem lf_c_X11_feed_0 (u : Int32) (v4_39 : Int32) (h4_ : 1 ≤ u.toInt ∧ u.toInt ≤ 8) (hv0_39 : 0 ≤ v4_39.toInt) (h14_ : v4_39.toInt < u.toInt) : -2147483648 ≤ 8 * v4_39.toInt ∧ 8 * v4_39.toInt < 2147483648 := by omega
theorem lf_c_X11_feed_1 (v4_39 : Int32) (z17_ : Int32) (h18_ : z17_.toInt = 8 * v4_39.toInt) : -2147483648 ≤ v4_39.toInt + 1 ∧ v4_39.toInt + 1 < 2147483648 := by have r_z17_ := rngI z17_; omega
theorem lf_c_X11_feed_3 (v4_39 : Int32) (z17_ : Int32) (z33_ : Int32) (h18_ : z17_.toInt = 8 * v4_39.toInt) (h34_ : z33_.toInt = v4_39.toInt + 1) : (2147483648 - z33_.toInt).toNat < (2147483648 - v4_39.toInt).toNat := by have r_z17_ := rngI z17_; omega
set_option maxHeartbeats 4000000 in
set_option maxRecDepth 100000 in
theorem c_X11_feed (l : Launch) (G : va_G) (cy : Nat → ClassId) (ad : rf → Nat) (d : Nat) (v : Int64) (u : Int32) (Mz : mM) (hIz : Inv Mz) : WP CC l G cy ad yX11_feed cX11_feed 5 (some .int) (d + 1) 0 [(0, vR (11, 0, 0)), (1, vL v), (3, vI u)] [] Mz (fun r M' => Inv M' ∧ FR (S_c_X11_feed) Mz M' ∧ (True) ∧ SP_X11_feed v u Mz r M') := by
  have hFz : FR (S_c_X11_feed) Mz Mz := FR.self
  refine w_iload_n dX11_feed_0 rfl 2 rfl ?_
  refine w_iconst (v := 1) dX11_feed_1 (by decide) ?_
  refine w_bipush (v := 8) dX11_feed_2 (by decide) ?_
  refine w_callS (as := [vI u, vI 1, vI 8]) (rest := []) (c_X11_within l G cy ad d u 1 8 Mz hIz) kS_X11_within pnn_0 (Nat.le_of_ble_eq_true rfl) m_494 rfl rfl (by decide) (Nat.le_of_ble_eq_true rfl) dX11_feed_4 (fun r1_ M2_ q3_ => ?_)
  obtain ⟨rfl, h4_, hs5_⟩ := q3_
  rcases h4_ with ⟨rfl, h4_⟩ | ⟨rfl, h4_⟩
  · simp only [li_1, li_8] at h4_
    refine w_if_ne (tgt := 16) dX11_feed_7 (by decide) li_1 (fun h6_ => ?_) (fun h9 => (absurd h9 (by decide)))
    refine w_aload_n dX11_feed_16 rfl 0 rfl ?_
    refine w_getR (c' := (10, 0, 0)) fl_RX11_10 rfl rfl ic_11 dX11_feed_17 rfl ?_
    refine w_getR (c' := (5, 0, 0)) fl_RX11_192 rfl rfl (ic_10 (by decide)) dX11_feed_20 rfl ?_
    refine w_callV (as := []) (rest := []) (c_X5_room l G cy ad d 0 0 Mz hIz (by first | decide | (unfold vF; omega) | (unfold vRw; omega))) kV_X5_room pnn_2 (Nat.le_of_ble_eq_true rfl) m_669 rfl rfl rfl (ic_5 (by unfold vRw; omega)) rfl rfl (by decide) (Nat.le_of_ble_eq_true rfl) dX11_feed_23 (fun r7_ M8_ q9_ => ?_)
    obtain ⟨rfl, h10_, hs11_⟩ := q9_
    refine w_iload_n dX11_feed_26 rfl 2 rfl ?_
    refine w_icmp_ge (tgt := 36) dX11_feed_27 (by decide) (rfl : r7_.toInt = r7_.toInt) (rfl : u.toInt = u.toInt) (fun h12_ => ?_) (fun h12_ => ?_)
    · refine w_iconst (v := 0) dX11_feed_36 (by decide) ?_
      refine w_istore (ls' := [(4, vI 0), (0, vR (11, 0, 0)), (1, vL v), (3, vI u)]) dX11_feed_37 (by decide) rfl ?_
      have lp13_ : ∀ (nn_39 : Nat) (M_39 : mM) (hI_39 : Inv M_39) (hF_39 : FR (S_c_X11_feed) Mz M_39) (v4_39 : Int32) (hv0_39 : 0 ≤ v4_39.toInt) (hL_39 : RCH (fun x_ y_ => ST_X11_feed_39 v u Mz x_.1 x_.2 y_.1 y_.2) ((0 : Int32), Mz) (v4_39, M_39)), (2147483648 - v4_39.toInt).toNat < nn_39 → WP CC l G cy ad yX11_feed cX11_feed 5 (some .int) (d + 1) 39 [(4, vI v4_39), (0, vR (11, 0, 0)), (1, vL v), (3, vI u)] [] M_39 (fun r M' => Inv M' ∧ FR (S_c_X11_feed) Mz M' ∧ (True) ∧ SP_X11_feed v u Mz r M') := by
        intro nn_39
        induction nn_39 with
        | zero => intro M_39 hI_39 hF_39 v4_39 hv0_39 hL_39 hm_39; exact absurd hm_39 (Nat.not_lt_zero _)
        | succ nn_39 ih_39 =>
          intro M_39 hI_39 hF_39 v4_39 hv0_39 hL_39 hm_39
          refine w_iload dX11_feed_39 0 rfl ?_
          refine w_iload_n dX11_feed_41 rfl 3 rfl ?_
          refine w_icmp_ge (tgt := 73) dX11_feed_42 (by decide) (rfl : v4_39.toInt = v4_39.toInt) (rfl : u.toInt = u.toInt) (fun h14_ => ?_) (fun h14_ => ?_)
          · refine w_aload_n dX11_feed_73 rfl 1 rfl ?_
            refine w_getR (c' := (10, 0, 0)) fl_RX11_10 rfl rfl ic_11 dX11_feed_74 rfl ?_
            refine w_getR (c' := (5, 0, 0)) fl_RX11_192 rfl rfl (ic_10 (by decide)) dX11_feed_77 rfl ?_
            refine w_getI fl_RX11_205 rfl rfl (ic_5 (by unfold vRw; omega)) dX11_feed_80 (fun z15_ e16_ => ?_)
            exact w_iret rfl dX11_feed_83 ⟨hI_39, hF_39, trivial, (Or.inl ⟨hs5_, h4_, r7_, hs11_, (Or.inl ⟨h12_, v4_39, hv0_39, M_39, hL_39, hI_39, hF_39, h14_, z15_, e16_, rfl, rfl⟩)⟩)⟩
          · refine w_aload_n dX11_feed_45 rfl 1 rfl ?_
            refine w_getR (c' := (10, 0, 0)) fl_RX11_10 rfl rfl ic_11 dX11_feed_46 rfl ?_
            refine w_getR (c' := (5, 0, 0)) fl_RX11_192 rfl rfl (ic_10 (by decide)) dX11_feed_49 rfl ?_
            refine w_lload_n dX11_feed_52 rfl 2 rfl ?_
            refine w_bipush (v := 8) dX11_feed_53 (by decide) ?_
            refine w_iload dX11_feed_55 0 rfl ?_
            refine w_imulB dX11_feed_57 li_8 (rfl : v4_39.toInt = v4_39.toInt) (lf_c_X11_feed_0 u v4_39 h4_ hv0_39 h14_ ) (fun z17_ h18_ => ?_)
            refine w_lushr dX11_feed_58 (fun w19_ h20_ => ?_)
            refine w_l2i dX11_feed_59 (fun z21_ h22_ => ?_)
            refine w_sipush (v := 255) dX11_feed_60 (by decide) ?_
            refine w_iand dX11_feed_63 (fun z23_ h25_ => ?_)
            have h24_ : 0 ≤ z23_.toInt ∧ z23_.toInt < ((2 ^ 8 : Nat) : Int) := by rw [h25_]; exact andI _ 8 (by decide) (by decide)
            refine w_callVv (as := [vI z23_]) (rest := []) (c_X5_add l G cy ad d 0 0 z23_ M_39 hI_39 (by first | decide | (unfold vF; omega) | (unfold vRw; omega))) kV_X5_add pnn_2 (Nat.le_of_ble_eq_true rfl) m_673 rfl rfl rfl (ic_5 (by unfold vRw; omega)) rfl rfl (by decide) (Nat.le_of_ble_eq_true rfl) dX11_feed_64 (fun M26_ q27_ => ?_)
            obtain ⟨hI29_, hF30_, h28_, hs32_⟩ := q27_
            have hF31_ := hF_39.tr hF30_ (fun c k => (fun h => h.elim (fun h => (Or.inl ⟨h.1, h.2.1, h.2.2⟩)) (fun h => h.elim (fun h => (Or.inr (Or.inl ⟨h.1, h.2.1, h.2.2.1, h.2.2.2⟩))) (fun h => h.elim))))
            refine w_iincB (j := 0) (f := fun z33_ => [(4, vI z33_), (0, vR (11, 0, 0)), (1, vL v), (3, vI u)]) dX11_feed_67 rfl (by decide) (fun _ => rfl) (rfl : v4_39.toInt = v4_39.toInt) li_1 (lf_c_X11_feed_1 v4_39 z17_ h18_ ) (fun z33_ h34_ => ?_)
            refine w_goto (tgt := 39) dX11_feed_70 (by decide) ?_
            refine w_loc (ls' := [(4, vI z33_), (0, vR (11, 0, 0)), (1, vL v), (3, vI u)]) [0, 1, 2, 3] rfl ?_
            exact ih_39 M26_ hI29_ hF31_ z33_ (lf_c_X5_takeFrom_3 v4_39 z33_ hv0_39 h34_ ) (RCH.tail hL_39 ⟨hv0_39, hI_39, hF_39, h14_, z17_, h18_, w19_, h20_, z21_, h22_, z23_, h25_, h24_, M26_, hI29_, hF30_, hs32_, z33_, h34_, rfl, rfl⟩) (Nat.lt_of_lt_of_le (lf_c_X11_feed_3 v4_39 z17_ z33_ h18_ h34_ ) (Nat.le_of_lt_succ hm_39))
      exact lp13_ _ Mz hIz hFz 0 (lf_c_X5_takeFrom_5 ) RCH.refl (Nat.lt_succ_self _)
    · refine w_aload_n dX11_feed_30 rfl 0 rfl ?_
      refine w_iconst (v := 4) dX11_feed_31 (by decide) ?_
      refine w_callV (as := [vI 4]) (rest := []) (c_X11_error l G cy ad d 4 Mz hIz) kV_X11_error pnn_0 (Nat.le_of_ble_eq_true rfl) m_500 rfl rfl rfl ic_11 rfl rfl (by decide) (Nat.le_of_ble_eq_true rfl) dX11_feed_32 (fun r35_ M36_ q37_ => ?_)
      obtain ⟨hI39_, hF40_, h38_, hs42_⟩ := q37_
      have hF41_ := hFz.tr hF40_ (fun c k => (fun h => h.elim (fun h => (Or.inr (Or.inr (Or.inl ⟨h.1, h.2⟩)))) (fun h => h.elim)))
      exact w_iret rfl dX11_feed_35 ⟨hI39_, hF41_, trivial, (Or.inl ⟨hs5_, h4_, r7_, hs11_, (Or.inr ⟨h12_, M36_, hI39_, hF40_, r35_, hs42_, rfl, rfl⟩)⟩)⟩
  · simp only [li_1, li_8] at h4_
    refine w_if_ne (tgt := 16) dX11_feed_7 (by decide) li_0 (fun h9 => (absurd h9 (by decide))) (fun h43_ => ?_)
    refine w_aload_n dX11_feed_10 rfl 0 rfl ?_
    refine w_iconst (v := 1) dX11_feed_11 (by decide) ?_
    refine w_callV (as := [vI 1]) (rest := []) (c_X11_error l G cy ad d 1 Mz hIz) kV_X11_error pnn_0 (Nat.le_of_ble_eq_true rfl) m_500 rfl rfl rfl ic_11 rfl rfl (by decide) (Nat.le_of_ble_eq_true rfl) dX11_feed_12 (fun r44_ M45_ q46_ => ?_)
    obtain ⟨hI48_, hF49_, h47_, hs51_⟩ := q46_
    have hF50_ := hFz.tr hF49_ (fun c k => (fun h => h.elim (fun h => (Or.inr (Or.inr (Or.inl ⟨h.1, h.2⟩)))) (fun h => h.elim)))
    exact w_iret rfl dX11_feed_15 ⟨hI48_, hF50_, trivial, (Or.inr ⟨hs5_, h4_, M45_, hI48_, hF49_, r44_, hs51_, rfl, rfl⟩)⟩
def S_c_X11_spots : rf → Nat → Prop := fun c k => (c.1 = 44 ∧ c.2.1 = 0) ∨ (c.1 = 0 ∧ c.2.1 = 0 ∧ k = 4) ∨ (c.1 = 0 ∧ c.2.1 = 0 ∧ k = 5) ∨ (c.1 = 29 ∧ c.2.1 = 0 ∧ k = 0) ∨ (c.1 = 29 ∧ c.2.1 = 0 ∧ k = 1) ∨ (c.1 = 29 ∧ c.2.1 = 0 ∧ k = 2) ∨ (c.1 = 29 ∧ c.2.1 = 0 ∧ k = 3) ∨ (c.1 = 25 ∧ c.2.1 = 0 ∧ c.2.2 = 0) ∨ (c.1 = 25 ∧ c.2.1 = 0 ∧ c.2.2 = 1) ∨ False
def SP_X11_spots (v : Int32) (u : Int32) (t : Int32) (s : Int32) (Mz : mM) (r_ : Int32) (M_ : mM) : Prop := (((SP_X10_hasWalker 0 v Mz (1 : Int32)) ∧ (0 ≤ v.toInt ∧ v.toInt ≤ 7) ∧ (((SP_X11_isSheet u Mz (1 : Int32)) ∧ (0 ≤ u.toInt ∧ u.toInt ≤ 3) ∧ (((SP_X11_within t 1 3 Mz (1 : Int32)) ∧ (1 ≤ t.toInt ∧ t.toInt ≤ 3) ∧ (((SP_X11_within s 0 1 Mz (1 : Int32)) ∧ (0 ≤ s.toInt ∧ s.toInt ≤ 1) ∧ ∃ j25_ : Nat, ((j25_ : Int) = u.toInt) ∧ (j25_ < 4) ∧ ∃ r28_ : Int32, (SP_X6_isMissing j25_ Mz r28_) ∧ ((0 ≤ r28_.toInt ∧ r28_.toInt ≤ 1)) ∧ (((r28_.toInt = 0) ∧ ∃ j34_ : Nat, ((j34_ : Int) = u.toInt) ∧ (j34_ < 4) ∧ ∃ r37_ : Int32, (SP_X6_holdsFewCells j34_ Mz r37_) ∧ ((0 ≤ r37_.toInt ∧ r37_.toInt ≤ 1)) ∧ (((r37_.toInt = 0) ∧ ∃ M44_ : mM, (Inv M44_) ∧ (FR (S_c_X11_error) Mz M44_) ∧ ∃ r43_ : Int32, (SP_X11_error 5 Mz r43_ M44_) ∧ r_ = r43_ ∧ M_ = M44_) ∨ ((¬ r37_.toInt = 0) ∧ ∃ j51_ : Nat, ((j51_ : Int) = u.toInt) ∧ (j51_ < 4) ∧ ∃ r54_ : Int32, (SP_X6_hasTwoAlike j51_ Mz r54_) ∧ ((0 ≤ r54_.toInt ∧ r54_.toInt ≤ 1)) ∧ (((r54_.toInt = 0) ∧ ∃ j60_ : Nat, ((j60_ : Int) = u.toInt) ∧ (j60_ < 4) ∧ ∃ M64_ : mM, (Inv M64_) ∧ (FR (S_c_X0_chooseSpots 0 j60_) Mz M64_) ∧ ∃ r63_ : Int32, (SP_X0_chooseSpots 0 j60_ v t Mz r63_ M64_) ∧ ((0 ≤ r63_.toInt ∧ r63_.toInt ≤ 1)) ∧ (((¬ r63_.toInt = 0) ∧ (((¬ s.toInt = 0) ∧ ∃ z73_ : Int32, (z73_ = M64_.1 (0, 0, 0) 5) ∧ r_ = z73_ ∧ M_ = M64_) ∨ ((s.toInt = 0) ∧ ∃ z75_ : Int32, (z75_ = M64_.1 (0, 0, 0) 4) ∧ r_ = z75_ ∧ M_ = M64_))) ∨ ((r63_.toInt = 0) ∧ ∃ M78_ : mM, (Inv M78_) ∧ (FR (S_c_X11_error) M64_ M78_) ∧ ∃ r77_ : Int32, (SP_X11_error 3 M64_ r77_ M78_) ∧ r_ = r77_ ∧ M_ = M78_))) ∨ ((¬ r54_.toInt = 0) ∧ ∃ M86_ : mM, (Inv M86_) ∧ (FR (S_c_X11_error) Mz M86_) ∧ ∃ r85_ : Int32, (SP_X11_error 5 Mz r85_ M86_) ∧ r_ = r85_ ∧ M_ = M86_))))) ∨ ((¬ r28_.toInt = 0) ∧ ∃ M94_ : mM, (Inv M94_) ∧ (FR (S_c_X11_error) Mz M94_) ∧ ∃ r93_ : Int32, (SP_X11_error 2 Mz r93_ M94_) ∧ r_ = r93_ ∧ M_ = M94_))) ∨ ((SP_X11_within s 0 1 Mz (0 : Int32)) ∧ (¬ (0 ≤ s.toInt ∧ s.toInt ≤ 1)) ∧ ∃ M103_ : mM, (Inv M103_) ∧ (FR (S_c_X11_error) Mz M103_) ∧ ∃ r102_ : Int32, (SP_X11_error 1 Mz r102_ M103_) ∧ r_ = r102_ ∧ M_ = M103_))) ∨ ((SP_X11_within t 1 3 Mz (0 : Int32)) ∧ (¬ (1 ≤ t.toInt ∧ t.toInt ≤ 3)) ∧ ∃ M112_ : mM, (Inv M112_) ∧ (FR (S_c_X11_error) Mz M112_) ∧ ∃ r111_ : Int32, (SP_X11_error 1 Mz r111_ M112_) ∧ r_ = r111_ ∧ M_ = M112_))) ∨ ((SP_X11_isSheet u Mz (0 : Int32)) ∧ (¬ (0 ≤ u.toInt ∧ u.toInt ≤ 3)) ∧ ∃ M121_ : mM, (Inv M121_) ∧ (FR (S_c_X11_error) Mz M121_) ∧ ∃ r120_ : Int32, (SP_X11_error 1 Mz r120_ M121_) ∧ r_ = r120_ ∧ M_ = M121_))) ∨ ((SP_X10_hasWalker 0 v Mz (0 : Int32)) ∧ ∃ M130_ : mM, (Inv M130_) ∧ (FR (S_c_X11_error) Mz M130_) ∧ ∃ r129_ : Int32, (SP_X11_error 1 Mz r129_ M130_) ∧ r_ = r129_ ∧ M_ = M130_))
set_option maxHeartbeats 4000000 in
set_option maxRecDepth 100000 in
theorem c_X11_spots (l : Launch) (G : va_G) (cy : Nat → ClassId) (ad : rf → Nat) (d : Nat) (v : Int32) (u : Int32) (t : Int32) (s : Int32) (Mz : mM) (hIz : Inv Mz) : WP CC l G cy ad yX11_spots cX11_spots 5 (some .int) (d + 6) 0 [(0, vR (11, 0, 0)), (1, vI v), (2, vI u), (3, vI t), (4, vI s)] [] Mz (fun r M' => Inv M' ∧ FR (S_c_X11_spots) Mz M' ∧ (True) ∧ SP_X11_spots v u t s Mz r M') := by
  have hFz : FR (S_c_X11_spots) Mz Mz := FR.self
  refine w_aload_n dX11_spots_0 rfl 0 rfl ?_
  refine w_getR (c' := (10, 0, 0)) fl_RX11_10 rfl rfl ic_11 dX11_spots_1 rfl ?_
  refine w_iload_n dX11_spots_4 rfl 1 rfl ?_
  refine w_callV (as := [vI v]) (rest := []) (c_X10_hasWalker l G cy ad (d + 5) 0 v Mz hIz (by first | decide | (unfold vF; omega) | (unfold vRw; omega))) kV_X10_hasWalker pnn_7 (Nat.le_of_ble_eq_true rfl) m_609 rfl rfl rfl (ic_10 (by decide)) rfl rfl (by decide) (Nat.le_of_ble_eq_true rfl) dX11_spots_5 (fun r1_ M2_ q3_ => ?_)
  obtain ⟨rfl, h4_, hs5_⟩ := q3_
  rcases h4_ with ⟨rfl, h4_⟩ | rfl
  · refine w_if_eq (tgt := 37) dX11_spots_8 (by decide) li_1 (fun h9 => (absurd h9 (by decide))) (fun h6_ => ?_)
    refine w_iload_n dX11_spots_11 rfl 2 rfl ?_
    refine w_callS (as := [vI u]) (rest := []) (c_X11_isSheet l G cy ad (d + 4) u Mz hIz) kS_X11_isSheet pnn_0 (Nat.le_of_ble_eq_true rfl) m_566 rfl rfl (by decide) (Nat.le_of_ble_eq_true rfl) dX11_spots_12 (fun r7_ M8_ q9_ => ?_)
    obtain ⟨rfl, h10_, hs11_⟩ := q9_
    rcases h10_ with ⟨rfl, h10_⟩ | ⟨rfl, h10_⟩
    · refine w_if_eq (tgt := 37) dX11_spots_15 (by decide) li_1 (fun h9 => (absurd h9 (by decide))) (fun h12_ => ?_)
      refine w_iload_n dX11_spots_18 rfl 3 rfl ?_
      refine w_iconst (v := 1) dX11_spots_19 (by decide) ?_
      refine w_iconst (v := 3) dX11_spots_20 (by decide) ?_
      refine w_callS (as := [vI t, vI 1, vI 3]) (rest := []) (c_X11_within l G cy ad (d + 5) t 1 3 Mz hIz) kS_X11_within pnn_0 (Nat.le_of_ble_eq_true rfl) m_494 rfl rfl (by decide) (Nat.le_of_ble_eq_true rfl) dX11_spots_21 (fun r13_ M14_ q15_ => ?_)
      obtain ⟨rfl, h16_, hs17_⟩ := q15_
      rcases h16_ with ⟨rfl, h16_⟩ | ⟨rfl, h16_⟩
      · simp only [li_1, li_3] at h16_
        refine w_if_eq (tgt := 37) dX11_spots_24 (by decide) li_1 (fun h9 => (absurd h9 (by decide))) (fun h18_ => ?_)
        refine w_iload dX11_spots_27 4 rfl ?_
        refine w_iconst (v := 0) dX11_spots_29 (by decide) ?_
        refine w_iconst (v := 1) dX11_spots_30 (by decide) ?_
        refine w_callS (as := [vI s, vI 0, vI 1]) (rest := []) (c_X11_within l G cy ad (d + 5) s 0 1 Mz hIz) kS_X11_within pnn_0 (Nat.le_of_ble_eq_true rfl) m_494 rfl rfl (by decide) (Nat.le_of_ble_eq_true rfl) dX11_spots_31 (fun r19_ M20_ q21_ => ?_)
        obtain ⟨rfl, h22_, hs23_⟩ := q21_
        rcases h22_ with ⟨rfl, h22_⟩ | ⟨rfl, h22_⟩
        · simp only [li_0, li_1] at h22_
          refine w_if_ne (tgt := 43) dX11_spots_34 (by decide) li_1 (fun h24_ => ?_) (fun h9 => (absurd h9 (by decide)))
          refine w_aload_n dX11_spots_43 rfl 0 rfl ?_
          refine w_getR (c' := (43, 0, 0)) fl_RX11_24 rfl rfl ic_11 dX11_spots_44 rfl ?_
          refine w_iload_n dX11_spots_47 rfl 2 rfl ?_
          refine w_aald rfl rfl rfl (fun _ => rfl) ic_43 (rfl : u.toInt = u.toInt) (lf_c_X11_lays_0 u h10_ ) dX11_spots_48 (fun j25_ h26_ h27_ => ?_)
          refine w_callV (as := []) (rest := []) (c_X6_isMissing l G cy ad (d + 5) j25_ Mz hIz h27_) kV_X6_isMissing pnn_4 (Nat.le_of_ble_eq_true rfl) m_569 rfl rfl rfl (ic_6 h27_) rfl rfl (by decide) (Nat.le_of_ble_eq_true rfl) dX11_spots_49 (fun r28_ M29_ q30_ => ?_)
          obtain ⟨rfl, h31_, hs32_⟩ := q30_
          refine w_if_eq (tgt := 61) dX11_spots_52 (by decide) (rfl : r28_.toInt = r28_.toInt) (fun h33_ => ?_) (fun h33_ => ?_)
          · refine w_aload_n dX11_spots_61 rfl 0 rfl ?_
            refine w_getR (c' := (43, 0, 0)) fl_RX11_24 rfl rfl ic_11 dX11_spots_62 rfl ?_
            refine w_iload_n dX11_spots_65 rfl 2 rfl ?_
            refine w_aald rfl rfl rfl (fun _ => rfl) ic_43 (rfl : u.toInt = u.toInt) (lf_c_X11_lays_0 u h10_ ) dX11_spots_66 (fun j34_ h35_ h36_ => ?_)
            refine w_callV (as := []) (rest := []) (c_X6_holdsFewCells l G cy ad (d + 3) j34_ Mz hIz h36_) kV_X6_holdsFewCells pnn_4 (Nat.le_of_ble_eq_true rfl) m_978 rfl rfl rfl (ic_6 h36_) rfl rfl (by decide) (Nat.le_of_ble_eq_true rfl) dX11_spots_67 (fun r37_ M38_ q39_ => ?_)
            obtain ⟨rfl, h40_, hs41_⟩ := q39_
            refine w_if_eq (tgt := 85) dX11_spots_70 (by decide) (rfl : r37_.toInt = r37_.toInt) (fun h42_ => ?_) (fun h42_ => ?_)
            · refine w_aload_n dX11_spots_85 rfl 0 rfl ?_
              refine w_iconst (v := 5) dX11_spots_86 (by decide) ?_
              refine w_callV (as := [vI 5]) (rest := []) (c_X11_error l G cy ad (d + 5) 5 Mz hIz) kV_X11_error pnn_0 (Nat.le_of_ble_eq_true rfl) m_500 rfl rfl rfl ic_11 rfl rfl (by decide) (Nat.le_of_ble_eq_true rfl) dX11_spots_87 (fun r43_ M44_ q45_ => ?_)
              obtain ⟨hI47_, hF48_, h46_, hs50_⟩ := q45_
              have hF49_ := hFz.tr hF48_ (fun c k => (fun h => h.elim (fun h => (Or.inl ⟨h.1, h.2⟩)) (fun h => h.elim)))
              exact w_iret rfl dX11_spots_90 ⟨hI47_, hF49_, trivial, (Or.inl ⟨hs5_, h4_, (Or.inl ⟨hs11_, h10_, (Or.inl ⟨hs17_, h16_, (Or.inl ⟨hs23_, h22_, j25_, h26_, h27_, r28_, hs32_, h31_, (Or.inl ⟨h33_, j34_, h35_, h36_, r37_, hs41_, h40_, (Or.inl ⟨h42_, M44_, hI47_, hF48_, r43_, hs50_, rfl, rfl⟩)⟩)⟩)⟩)⟩)⟩)⟩
            · refine w_aload_n dX11_spots_73 rfl 0 rfl ?_
              refine w_getR (c' := (43, 0, 0)) fl_RX11_24 rfl rfl ic_11 dX11_spots_74 rfl ?_
              refine w_iload_n dX11_spots_77 rfl 2 rfl ?_
              refine w_aald rfl rfl rfl (fun _ => rfl) ic_43 (rfl : u.toInt = u.toInt) (lf_c_X11_lays_0 u h10_ ) dX11_spots_78 (fun j51_ h52_ h53_ => ?_)
              refine w_callV (as := []) (rest := []) (c_X6_hasTwoAlike l G cy ad (d + 3) j51_ Mz hIz h53_) kV_X6_hasTwoAlike pnn_4 (Nat.le_of_ble_eq_true rfl) m_984 rfl rfl rfl (ic_6 h53_) rfl rfl (by decide) (Nat.le_of_ble_eq_true rfl) dX11_spots_79 (fun r54_ M55_ q56_ => ?_)
              obtain ⟨rfl, h57_, hs58_⟩ := q56_
              refine w_if_eq (tgt := 91) dX11_spots_82 (by decide) (rfl : r54_.toInt = r54_.toInt) (fun h59_ => ?_) (fun h59_ => ?_)
              · refine w_aload_n dX11_spots_91 rfl 0 rfl ?_
                refine w_getR (c' := (0, 0, 0)) fl_RX11_42 rfl rfl ic_11 dX11_spots_92 rfl ?_
                refine w_aload_n dX11_spots_95 rfl 0 rfl ?_
                refine w_getR (c' := (10, 0, 0)) fl_RX11_10 rfl rfl ic_11 dX11_spots_96 rfl ?_
                refine w_iload_n dX11_spots_99 rfl 1 rfl ?_
                refine w_aload_n dX11_spots_100 rfl 0 rfl ?_
                refine w_getR (c' := (43, 0, 0)) fl_RX11_24 rfl rfl ic_11 dX11_spots_101 rfl ?_
                refine w_iload_n dX11_spots_104 rfl 2 rfl ?_
                refine w_aald rfl rfl rfl (fun _ => rfl) ic_43 (rfl : u.toInt = u.toInt) (lf_c_X11_lays_0 u h10_ ) dX11_spots_105 (fun j60_ h61_ h62_ => ?_)
                refine w_iload_n dX11_spots_106 rfl 3 rfl ?_
                refine w_callV (as := [vR (10, 0, 0), vI v, vR (6, 0, j60_), vI t]) (rest := []) (c_X0_chooseSpots l G cy ad d 0 j60_ v t Mz hIz (by first | decide | (unfold vF; omega) | (unfold vRw; omega)) h62_) kV_X0_chooseSpots pnn_11 (Nat.le_of_ble_eq_true rfl) m_988 rfl rfl rfl ic_0 rfl rfl (by decide) (Nat.le_of_ble_eq_true rfl) dX11_spots_107 (fun r63_ M64_ q65_ => ?_)
                obtain ⟨hI67_, hF68_, h66_, hs70_⟩ := q65_
                have hF69_ := hFz.tr hF68_ (fun c k => (fun h => h.elim (fun h => (Or.inr (Or.inl ⟨h.1, h.2.1, h.2.2⟩))) (fun h => h.elim (fun h => (Or.inr (Or.inr (Or.inl ⟨h.1, h.2.1, h.2.2⟩)))) (fun h => h.elim (fun h => (Or.inr (Or.inr (Or.inr (Or.inl ⟨h.1, h.2.1, h.2.2⟩))))) (fun h => h.elim (fun h => (Or.inr (Or.inr (Or.inr (Or.inr (Or.inl ⟨h.1, h.2.1, h.2.2⟩)))))) (fun h => h.elim (fun h => (Or.inr (Or.inr (Or.inr (Or.inr (Or.inr (Or.inl ⟨h.1, h.2.1, h.2.2⟩))))))) (fun h => h.elim (fun h => (Or.inr (Or.inr (Or.inr (Or.inr (Or.inr (Or.inr (Or.inl ⟨h.1, h.2.1, h.2.2⟩)))))))) (fun h => h.elim (fun h => (Or.inr (Or.inr (Or.inr (Or.inr (Or.inr (Or.inr (Or.inr (Or.inl ⟨h.1, h.2.1, h.2.2⟩))))))))) (fun h => h.elim (fun h => (Or.inr (Or.inr (Or.inr (Or.inr (Or.inr (Or.inr (Or.inr (Or.inr (Or.inl ⟨h.1, h.2.1, h.2.2⟩)))))))))) (fun h => h.elim))))))))))
                refine w_if_ne (tgt := 119) dX11_spots_110 (by decide) (rfl : r63_.toInt = r63_.toInt) (fun h71_ => ?_) (fun h71_ => ?_)
                · refine w_iload dX11_spots_119 4 rfl ?_
                  refine w_if_ne (tgt := 134) dX11_spots_121 (by decide) (rfl : s.toInt = s.toInt) (fun h72_ => ?_) (fun h72_ => ?_)
                  · refine w_aload_n dX11_spots_134 rfl 0 rfl ?_
                    refine w_getR (c' := (0, 0, 0)) fl_RX11_42 rfl rfl ic_11 dX11_spots_135 rfl ?_
                    refine w_getI fl_RX11_287 rfl rfl ic_0 dX11_spots_138 (fun z73_ e74_ => ?_)
                    exact w_iret rfl dX11_spots_141 ⟨hI67_, hF69_, trivial, (Or.inl ⟨hs5_, h4_, (Or.inl ⟨hs11_, h10_, (Or.inl ⟨hs17_, h16_, (Or.inl ⟨hs23_, h22_, j25_, h26_, h27_, r28_, hs32_, h31_, (Or.inl ⟨h33_, j34_, h35_, h36_, r37_, hs41_, h40_, (Or.inr ⟨h42_, j51_, h52_, h53_, r54_, hs58_, h57_, (Or.inl ⟨h59_, j60_, h61_, h62_, M64_, hI67_, hF68_, r63_, hs70_, h66_, (Or.inl ⟨h71_, (Or.inl ⟨h72_, z73_, e74_, rfl, rfl⟩)⟩)⟩)⟩)⟩)⟩)⟩)⟩)⟩)⟩
                  · refine w_aload_n dX11_spots_124 rfl 0 rfl ?_
                    refine w_getR (c' := (0, 0, 0)) fl_RX11_42 rfl rfl ic_11 dX11_spots_125 rfl ?_
                    refine w_getI fl_RX11_284 rfl rfl ic_0 dX11_spots_128 (fun z75_ e76_ => ?_)
                    refine w_goto (tgt := 141) dX11_spots_131 (by decide) ?_
                    exact w_iret rfl dX11_spots_141 ⟨hI67_, hF69_, trivial, (Or.inl ⟨hs5_, h4_, (Or.inl ⟨hs11_, h10_, (Or.inl ⟨hs17_, h16_, (Or.inl ⟨hs23_, h22_, j25_, h26_, h27_, r28_, hs32_, h31_, (Or.inl ⟨h33_, j34_, h35_, h36_, r37_, hs41_, h40_, (Or.inr ⟨h42_, j51_, h52_, h53_, r54_, hs58_, h57_, (Or.inl ⟨h59_, j60_, h61_, h62_, M64_, hI67_, hF68_, r63_, hs70_, h66_, (Or.inl ⟨h71_, (Or.inr ⟨h72_, z75_, e76_, rfl, rfl⟩)⟩)⟩)⟩)⟩)⟩)⟩)⟩)⟩)⟩
                · refine w_aload_n dX11_spots_113 rfl 0 rfl ?_
                  refine w_iconst (v := 3) dX11_spots_114 (by decide) ?_
                  refine w_callV (as := [vI 3]) (rest := []) (c_X11_error l G cy ad (d + 5) 3 M64_ hI67_) kV_X11_error pnn_0 (Nat.le_of_ble_eq_true rfl) m_500 rfl rfl rfl ic_11 rfl rfl (by decide) (Nat.le_of_ble_eq_true rfl) dX11_spots_115 (fun r77_ M78_ q79_ => ?_)
                  obtain ⟨hI81_, hF82_, h80_, hs84_⟩ := q79_
                  have hF83_ := hF69_.tr hF82_ (fun c k => (fun h => h.elim (fun h => (Or.inl ⟨h.1, h.2⟩)) (fun h => h.elim)))
                  exact w_iret rfl dX11_spots_118 ⟨hI81_, hF83_, trivial, (Or.inl ⟨hs5_, h4_, (Or.inl ⟨hs11_, h10_, (Or.inl ⟨hs17_, h16_, (Or.inl ⟨hs23_, h22_, j25_, h26_, h27_, r28_, hs32_, h31_, (Or.inl ⟨h33_, j34_, h35_, h36_, r37_, hs41_, h40_, (Or.inr ⟨h42_, j51_, h52_, h53_, r54_, hs58_, h57_, (Or.inl ⟨h59_, j60_, h61_, h62_, M64_, hI67_, hF68_, r63_, hs70_, h66_, (Or.inr ⟨h71_, M78_, hI81_, hF82_, r77_, hs84_, rfl, rfl⟩)⟩)⟩)⟩)⟩)⟩)⟩)⟩)⟩
              · refine w_aload_n dX11_spots_85 rfl 0 rfl ?_
                refine w_iconst (v := 5) dX11_spots_86 (by decide) ?_
                refine w_callV (as := [vI 5]) (rest := []) (c_X11_error l G cy ad (d + 5) 5 Mz hIz) kV_X11_error pnn_0 (Nat.le_of_ble_eq_true rfl) m_500 rfl rfl rfl ic_11 rfl rfl (by decide) (Nat.le_of_ble_eq_true rfl) dX11_spots_87 (fun r85_ M86_ q87_ => ?_)
                obtain ⟨hI89_, hF90_, h88_, hs92_⟩ := q87_
                have hF91_ := hFz.tr hF90_ (fun c k => (fun h => h.elim (fun h => (Or.inl ⟨h.1, h.2⟩)) (fun h => h.elim)))
                exact w_iret rfl dX11_spots_90 ⟨hI89_, hF91_, trivial, (Or.inl ⟨hs5_, h4_, (Or.inl ⟨hs11_, h10_, (Or.inl ⟨hs17_, h16_, (Or.inl ⟨hs23_, h22_, j25_, h26_, h27_, r28_, hs32_, h31_, (Or.inl ⟨h33_, j34_, h35_, h36_, r37_, hs41_, h40_, (Or.inr ⟨h42_, j51_, h52_, h53_, r54_, hs58_, h57_, (Or.inr ⟨h59_, M86_, hI89_, hF90_, r85_, hs92_, rfl, rfl⟩)⟩)⟩)⟩)⟩)⟩)⟩)⟩
          · refine w_aload_n dX11_spots_55 rfl 0 rfl ?_
            refine w_iconst (v := 2) dX11_spots_56 (by decide) ?_
            refine w_callV (as := [vI 2]) (rest := []) (c_X11_error l G cy ad (d + 5) 2 Mz hIz) kV_X11_error pnn_0 (Nat.le_of_ble_eq_true rfl) m_500 rfl rfl rfl ic_11 rfl rfl (by decide) (Nat.le_of_ble_eq_true rfl) dX11_spots_57 (fun r93_ M94_ q95_ => ?_)
            obtain ⟨hI97_, hF98_, h96_, hs100_⟩ := q95_
            have hF99_ := hFz.tr hF98_ (fun c k => (fun h => h.elim (fun h => (Or.inl ⟨h.1, h.2⟩)) (fun h => h.elim)))
            exact w_iret rfl dX11_spots_60 ⟨hI97_, hF99_, trivial, (Or.inl ⟨hs5_, h4_, (Or.inl ⟨hs11_, h10_, (Or.inl ⟨hs17_, h16_, (Or.inl ⟨hs23_, h22_, j25_, h26_, h27_, r28_, hs32_, h31_, (Or.inr ⟨h33_, M94_, hI97_, hF98_, r93_, hs100_, rfl, rfl⟩)⟩)⟩)⟩)⟩)⟩
        · simp only [li_0, li_1] at h22_
          refine w_if_ne (tgt := 43) dX11_spots_34 (by decide) li_0 (fun h9 => (absurd h9 (by decide))) (fun h101_ => ?_)
          refine w_aload_n dX11_spots_37 rfl 0 rfl ?_
          refine w_iconst (v := 1) dX11_spots_38 (by decide) ?_
          refine w_callV (as := [vI 1]) (rest := []) (c_X11_error l G cy ad (d + 5) 1 Mz hIz) kV_X11_error pnn_0 (Nat.le_of_ble_eq_true rfl) m_500 rfl rfl rfl ic_11 rfl rfl (by decide) (Nat.le_of_ble_eq_true rfl) dX11_spots_39 (fun r102_ M103_ q104_ => ?_)
          obtain ⟨hI106_, hF107_, h105_, hs109_⟩ := q104_
          have hF108_ := hFz.tr hF107_ (fun c k => (fun h => h.elim (fun h => (Or.inl ⟨h.1, h.2⟩)) (fun h => h.elim)))
          exact w_iret rfl dX11_spots_42 ⟨hI106_, hF108_, trivial, (Or.inl ⟨hs5_, h4_, (Or.inl ⟨hs11_, h10_, (Or.inl ⟨hs17_, h16_, (Or.inr ⟨hs23_, h22_, M103_, hI106_, hF107_, r102_, hs109_, rfl, rfl⟩)⟩)⟩)⟩)⟩
      · simp only [li_1, li_3] at h16_
        refine w_if_eq (tgt := 37) dX11_spots_24 (by decide) li_0 (fun h110_ => ?_) (fun h9 => (absurd h9 (by decide)))
        refine w_aload_n dX11_spots_37 rfl 0 rfl ?_
        refine w_iconst (v := 1) dX11_spots_38 (by decide) ?_
        refine w_callV (as := [vI 1]) (rest := []) (c_X11_error l G cy ad (d + 5) 1 Mz hIz) kV_X11_error pnn_0 (Nat.le_of_ble_eq_true rfl) m_500 rfl rfl rfl ic_11 rfl rfl (by decide) (Nat.le_of_ble_eq_true rfl) dX11_spots_39 (fun r111_ M112_ q113_ => ?_)
        obtain ⟨hI115_, hF116_, h114_, hs118_⟩ := q113_
        have hF117_ := hFz.tr hF116_ (fun c k => (fun h => h.elim (fun h => (Or.inl ⟨h.1, h.2⟩)) (fun h => h.elim)))
        exact w_iret rfl dX11_spots_42 ⟨hI115_, hF117_, trivial, (Or.inl ⟨hs5_, h4_, (Or.inl ⟨hs11_, h10_, (Or.inr ⟨hs17_, h16_, M112_, hI115_, hF116_, r111_, hs118_, rfl, rfl⟩)⟩)⟩)⟩
    · refine w_if_eq (tgt := 37) dX11_spots_15 (by decide) li_0 (fun h119_ => ?_) (fun h9 => (absurd h9 (by decide)))
      refine w_aload_n dX11_spots_37 rfl 0 rfl ?_
      refine w_iconst (v := 1) dX11_spots_38 (by decide) ?_
      refine w_callV (as := [vI 1]) (rest := []) (c_X11_error l G cy ad (d + 5) 1 Mz hIz) kV_X11_error pnn_0 (Nat.le_of_ble_eq_true rfl) m_500 rfl rfl rfl ic_11 rfl rfl (by decide) (Nat.le_of_ble_eq_true rfl) dX11_spots_39 (fun r120_ M121_ q122_ => ?_)
      obtain ⟨hI124_, hF125_, h123_, hs127_⟩ := q122_
      have hF126_ := hFz.tr hF125_ (fun c k => (fun h => h.elim (fun h => (Or.inl ⟨h.1, h.2⟩)) (fun h => h.elim)))
      exact w_iret rfl dX11_spots_42 ⟨hI124_, hF126_, trivial, (Or.inl ⟨hs5_, h4_, (Or.inr ⟨hs11_, h10_, M121_, hI124_, hF125_, r120_, hs127_, rfl, rfl⟩)⟩)⟩
  · refine w_if_eq (tgt := 37) dX11_spots_8 (by decide) li_0 (fun h128_ => ?_) (fun h9 => (absurd h9 (by decide)))
    refine w_aload_n dX11_spots_37 rfl 0 rfl ?_
    refine w_iconst (v := 1) dX11_spots_38 (by decide) ?_
    refine w_callV (as := [vI 1]) (rest := []) (c_X11_error l G cy ad (d + 5) 1 Mz hIz) kV_X11_error pnn_0 (Nat.le_of_ble_eq_true rfl) m_500 rfl rfl rfl ic_11 rfl rfl (by decide) (Nat.le_of_ble_eq_true rfl) dX11_spots_39 (fun r129_ M130_ q131_ => ?_)
    obtain ⟨hI133_, hF134_, h132_, hs136_⟩ := q131_
    have hF135_ := hFz.tr hF134_ (fun c k => (fun h => h.elim (fun h => (Or.inl ⟨h.1, h.2⟩)) (fun h => h.elim)))
    exact w_iret rfl dX11_spots_42 ⟨hI133_, hF135_, trivial, (Or.inr ⟨hs5_, M130_, hI133_, hF134_, r129_, hs136_, rfl, rfl⟩)⟩
def S_c_X11_tenths : rf → Nat → Prop := fun c k => (c.1 = 10 ∧ c.2.1 = 0 ∧ k = 7) ∨ (c.1 = 35 ∧ c.2.1 = 0) ∨ (c.1 = 37 ∧ c.2.1 = 0) ∨ (c.1 = 38 ∧ c.2.1 = 0) ∨ (c.1 = 29 ∧ c.2.1 = 0 ∧ k = 0) ∨ (c.1 = 29 ∧ c.2.1 = 0 ∧ k = 1) ∨ (c.1 = 29 ∧ c.2.1 = 0 ∧ k = 2) ∨ (c.1 = 29 ∧ c.2.1 = 0 ∧ k = 3) ∨ (c.1 = 29 ∧ c.2.1 = 0 ∧ k = 4) ∨ (c.1 = 25 ∧ c.2.1 = 0 ∧ c.2.2 = 2) ∨ (c.1 = 9 ∧ c.2.1 = 0 ∧ k = 2) ∨ (c.1 = 9 ∧ c.2.1 = 0 ∧ k = 1) ∨ (c.1 = 9 ∧ c.2.1 = 0 ∧ k = 7) ∨ (c.1 = 40 ∧ c.2.1 = 0) ∨ (c.1 = 9 ∧ c.2.1 = 0 ∧ k = 8) ∨ (c.1 = 25 ∧ c.2.1 = 0 ∧ c.2.2 = 0) ∨ (c.1 = 25 ∧ c.2.1 = 0 ∧ c.2.2 = 1) ∨ (c.1 = 41 ∧ c.2.1 = 0) ∨ (c.1 = 44 ∧ c.2.1 = 0) ∨ False
def ST_X11_tenths_39 (v : Int32) (Mz : mM) (v2_39 : Int32) (M_39 : mM) (v2_39y : Int32) (M_39y : mM) : Prop := (0 ≤ v2_39.toInt) ∧ (Inv M_39) ∧ (FR (S_c_X11_tenths) Mz M_39) ∧ (v2_39.toInt < v.toInt) ∧ ∃ M16_ : mM, (Inv M16_) ∧ (FR (S_c_X10_passTenth 0) M_39 M16_) ∧ (SP_X10_passTenth 0 M_39 M16_) ∧ ∃ z23_ : Int32, (z23_.toInt = v2_39.toInt + 1) ∧ v2_39y = z23_ ∧ M_39y = M16_
def SP_X11_tenths (v : Int32) (Mz : mM) (r_ : Int32) (M_ : mM) : Prop := (((SP_X11_within v 1 100 Mz (1 : Int32)) ∧ (1 ≤ v.toInt ∧ v.toInt ≤ 100) ∧ ∃ z7_ : Int32, (z7_ = Mz.1 (10, 0, 0) 7) ∧ ∃ z9_ : Int32, (z9_ = z7_ + v) ∧ (((z9_.toInt ≤ 9999) ∧ ∃ v2_39 : Int32, (0 ≤ v2_39.toInt) ∧ ∃ M_39 : mM, (RCH (fun x_ y_ => ST_X11_tenths_39 v Mz x_.1 x_.2 y_.1 y_.2) ((0 : Int32), Mz) (v2_39, M_39)) ∧ (Inv M_39) ∧ (FR (S_c_X11_tenths) Mz M_39) ∧ (v.toInt ≤ v2_39.toInt) ∧ ∃ z14_ : Int32, (z14_ = M_39.1 (10, 0, 0) 7) ∧ r_ = z14_ ∧ M_ = M_39) ∨ ((9999 < z9_.toInt) ∧ ∃ M26_ : mM, (Inv M26_) ∧ (FR (S_c_X11_error) Mz M26_) ∧ ∃ r25_ : Int32, (SP_X11_error 3 Mz r25_ M26_) ∧ r_ = r25_ ∧ M_ = M26_))) ∨ ((SP_X11_within v 1 100 Mz (0 : Int32)) ∧ (¬ (1 ≤ v.toInt ∧ v.toInt ≤ 100)) ∧ ∃ M35_ : mM, (Inv M35_) ∧ (FR (S_c_X11_error) Mz M35_) ∧ ∃ r34_ : Int32, (SP_X11_error 1 Mz r34_ M35_) ∧ r_ = r34_ ∧ M_ = M35_))
theorem lf_c_X11_tenths_0 (v : Int32) (v2_39 : Int32) (h4_ : 1 ≤ v.toInt ∧ v.toInt ≤ 100) (hv0_39 : 0 ≤ v2_39.toInt) (h13_ : v2_39.toInt < v.toInt) : -2147483648 ≤ v2_39.toInt + 1 ∧ v2_39.toInt + 1 < 2147483648 := by omega
theorem lf_c_X11_tenths_2 (v : Int32) (v2_39 : Int32) (z23_ : Int32) (h4_ : 1 ≤ v.toInt ∧ v.toInt ≤ 100) (h13_ : v2_39.toInt < v.toInt) (h24_ : z23_.toInt = v2_39.toInt + 1) : (2147483648 - z23_.toInt).toNat < (2147483648 - v2_39.toInt).toNat := by omega
set_option maxHeartbeats 4000000 in
set_option maxRecDepth 100000 in
theorem c_X11_tenths (l : Launch) (G : va_G) (cy : Nat → ClassId) (ad : rf → Nat) (d : Nat) (v : Int32) (Mz : mM) (hIz : Inv Mz) : WP CC l G cy ad yX11_tenths cX11_tenths 3 (some .int) (d + 7) 0 [(0, vR (11, 0, 0)), (1, vI v)] [] Mz (fun r M' => Inv M' ∧ FR (S_c_X11_tenths) Mz M' ∧ (True) ∧ SP_X11_tenths v Mz r M') := by
  have hFz : FR (S_c_X11_tenths) Mz Mz := FR.self
  refine w_iload_n dX11_tenths_0 rfl 1 rfl ?_
  refine w_iconst (v := 1) dX11_tenths_1 (by decide) ?_
  refine w_bipush (v := 100) dX11_tenths_2 (by decide) ?_
  refine w_callS (as := [vI v, vI 1, vI 100]) (rest := []) (c_X11_within l G cy ad (d + 6) v 1 100 Mz hIz) kS_X11_within pnn_0 (Nat.le_of_ble_eq_true rfl) m_494 rfl rfl (by decide) (Nat.le_of_ble_eq_true rfl) dX11_tenths_4 (fun r1_ M2_ q3_ => ?_)
  obtain ⟨rfl, h4_, hs5_⟩ := q3_
  rcases h4_ with ⟨rfl, h4_⟩ | ⟨rfl, h4_⟩
  · simp only [li_1, li_100] at h4_
    refine w_if_ne (tgt := 16) dX11_tenths_7 (by decide) li_1 (fun h6_ => ?_) (fun h9 => (absurd h9 (by decide)))
    refine w_aload_n dX11_tenths_16 rfl 0 rfl ?_
    refine w_getR (c' := (10, 0, 0)) fl_RX11_10 rfl rfl ic_11 dX11_tenths_17 rfl ?_
    refine w_getI fl_RX11_290 rfl rfl (ic_10 (by decide)) dX11_tenths_20 (fun z7_ e8_ => ?_)
    refine w_iload_n dX11_tenths_23 rfl 1 rfl ?_
    refine w_iadd dX11_tenths_24 (fun z9_ h10_ => ?_)
    refine w_sipush (v := 9999) dX11_tenths_25 (by decide) ?_
    refine w_icmp_le (tgt := 37) dX11_tenths_28 (by decide) (rfl : z9_.toInt = z9_.toInt) li_9999 (fun h11_ => ?_) (fun h11_ => ?_)
    · refine w_iconst (v := 0) dX11_tenths_37 (by decide) ?_
      refine w_istore_n (ls' := [(2, vI 0), (0, vR (11, 0, 0)), (1, vI v)]) dX11_tenths_38 rfl (by decide) rfl ?_
      have lp12_ : ∀ (nn_39 : Nat) (M_39 : mM) (hI_39 : Inv M_39) (hF_39 : FR (S_c_X11_tenths) Mz M_39) (v2_39 : Int32) (hv0_39 : 0 ≤ v2_39.toInt) (hL_39 : RCH (fun x_ y_ => ST_X11_tenths_39 v Mz x_.1 x_.2 y_.1 y_.2) ((0 : Int32), Mz) (v2_39, M_39)), (2147483648 - v2_39.toInt).toNat < nn_39 → WP CC l G cy ad yX11_tenths cX11_tenths 3 (some .int) (d + 7) 39 [(2, vI v2_39), (0, vR (11, 0, 0)), (1, vI v)] [] M_39 (fun r M' => Inv M' ∧ FR (S_c_X11_tenths) Mz M' ∧ (True) ∧ SP_X11_tenths v Mz r M') := by
        intro nn_39
        induction nn_39 with
        | zero => intro M_39 hI_39 hF_39 v2_39 hv0_39 hL_39 hm_39; exact absurd hm_39 (Nat.not_lt_zero _)
        | succ nn_39 ih_39 =>
          intro M_39 hI_39 hF_39 v2_39 hv0_39 hL_39 hm_39
          refine w_iload_n dX11_tenths_39 rfl 0 rfl ?_
          refine w_iload_n dX11_tenths_40 rfl 2 rfl ?_
          refine w_icmp_ge (tgt := 57) dX11_tenths_41 (by decide) (rfl : v2_39.toInt = v2_39.toInt) (rfl : v.toInt = v.toInt) (fun h13_ => ?_) (fun h13_ => ?_)
          · refine w_aload_n dX11_tenths_57 rfl 1 rfl ?_
            refine w_getR (c' := (10, 0, 0)) fl_RX11_10 rfl rfl ic_11 dX11_tenths_58 rfl ?_
            refine w_getI fl_RX11_290 rfl rfl (ic_10 (by decide)) dX11_tenths_61 (fun z14_ e15_ => ?_)
            exact w_iret rfl dX11_tenths_64 ⟨hI_39, hF_39, trivial, (Or.inl ⟨hs5_, h4_, z7_, e8_, z9_, h10_, (Or.inl ⟨h11_, v2_39, hv0_39, M_39, hL_39, hI_39, hF_39, h13_, z14_, e15_, rfl, rfl⟩)⟩)⟩
          · refine w_aload_n dX11_tenths_44 rfl 1 rfl ?_
            refine w_getR (c' := (10, 0, 0)) fl_RX11_10 rfl rfl ic_11 dX11_tenths_45 rfl ?_
            refine w_callVv (as := []) (rest := []) (c_X10_passTenth l G cy ad d 0 M_39 hI_39 (by first | decide | (unfold vF; omega) | (unfold vRw; omega))) kV_X10_passTenth pnn_7 (Nat.le_of_ble_eq_true rfl) m_1025 rfl rfl rfl (ic_10 (by decide)) rfl rfl (by decide) (Nat.le_of_ble_eq_true rfl) dX11_tenths_48 (fun M16_ q17_ => ?_)
            obtain ⟨hI19_, hF20_, h18_, hs22_⟩ := q17_
            have hF21_ := hF_39.tr hF20_ (fun c k => (fun h => h.elim (fun h => (Or.inl ⟨h.1, h.2.1, h.2.2⟩)) (fun h => h.elim (fun h => (Or.inr (Or.inl ⟨h.1, h.2⟩))) (fun h => h.elim (fun h => (Or.inr (Or.inr (Or.inl ⟨h.1, h.2⟩)))) (fun h => h.elim (fun h => (Or.inr (Or.inr (Or.inr (Or.inl ⟨h.1, h.2⟩))))) (fun h => h.elim (fun h => (Or.inr (Or.inr (Or.inr (Or.inr (Or.inl ⟨h.1, h.2.1, h.2.2⟩)))))) (fun h => h.elim (fun h => (Or.inr (Or.inr (Or.inr (Or.inr (Or.inr (Or.inl ⟨h.1, h.2.1, h.2.2⟩))))))) (fun h => h.elim (fun h => (Or.inr (Or.inr (Or.inr (Or.inr (Or.inr (Or.inr (Or.inl ⟨h.1, h.2.1, h.2.2⟩)))))))) (fun h => h.elim (fun h => (Or.inr (Or.inr (Or.inr (Or.inr (Or.inr (Or.inr (Or.inr (Or.inl ⟨h.1, h.2.1, h.2.2⟩))))))))) (fun h => h.elim (fun h => (Or.inr (Or.inr (Or.inr (Or.inr (Or.inr (Or.inr (Or.inr (Or.inr (Or.inl ⟨h.1, h.2.1, h.2.2⟩)))))))))) (fun h => h.elim (fun h => (Or.inr (Or.inr (Or.inr (Or.inr (Or.inr (Or.inr (Or.inr (Or.inr (Or.inr (Or.inl ⟨h.1, h.2.1, h.2.2⟩))))))))))) (fun h => h.elim (fun h => (Or.inr (Or.inr (Or.inr (Or.inr (Or.inr (Or.inr (Or.inr (Or.inr (Or.inr (Or.inr (Or.inl ⟨h.1, h.2.1, h.2.2⟩)))))))))))) (fun h => h.elim (fun h => (Or.inr (Or.inr (Or.inr (Or.inr (Or.inr (Or.inr (Or.inr (Or.inr (Or.inr (Or.inr (Or.inr (Or.inl ⟨h.1, h.2.1, h.2.2⟩))))))))))))) (fun h => h.elim (fun h => (Or.inr (Or.inr (Or.inr (Or.inr (Or.inr (Or.inr (Or.inr (Or.inr (Or.inr (Or.inr (Or.inr (Or.inr (Or.inl ⟨h.1, h.2.1, h.2.2⟩)))))))))))))) (fun h => h.elim (fun h => (Or.inr (Or.inr (Or.inr (Or.inr (Or.inr (Or.inr (Or.inr (Or.inr (Or.inr (Or.inr (Or.inr (Or.inr (Or.inr (Or.inl ⟨h.1, h.2⟩))))))))))))))) (fun h => h.elim (fun h => (Or.inr (Or.inr (Or.inr (Or.inr (Or.inr (Or.inr (Or.inr (Or.inr (Or.inr (Or.inr (Or.inr (Or.inr (Or.inr (Or.inr (Or.inl ⟨h.1, h.2.1, h.2.2⟩)))))))))))))))) (fun h => h.elim (fun h => (Or.inr (Or.inr (Or.inr (Or.inr (Or.inr (Or.inr (Or.inr (Or.inr (Or.inr (Or.inr (Or.inr (Or.inr (Or.inr (Or.inr (Or.inr (Or.inl ⟨h.1, h.2.1, h.2.2⟩))))))))))))))))) (fun h => h.elim (fun h => (Or.inr (Or.inr (Or.inr (Or.inr (Or.inr (Or.inr (Or.inr (Or.inr (Or.inr (Or.inr (Or.inr (Or.inr (Or.inr (Or.inr (Or.inr (Or.inr (Or.inl ⟨h.1, h.2.1, h.2.2⟩)))))))))))))))))) (fun h => h.elim (fun h => (Or.inr (Or.inr (Or.inr (Or.inr (Or.inr (Or.inr (Or.inr (Or.inr (Or.inr (Or.inr (Or.inr (Or.inr (Or.inr (Or.inr (Or.inr (Or.inr (Or.inr (Or.inl ⟨h.1, h.2⟩))))))))))))))))))) (fun h => h.elim))))))))))))))))))))
            refine w_iincB (j := 0) (f := fun z23_ => [(2, vI z23_), (0, vR (11, 0, 0)), (1, vI v)]) dX11_tenths_51 rfl (by decide) (fun _ => rfl) (rfl : v2_39.toInt = v2_39.toInt) li_1 (lf_c_X11_tenths_0 v v2_39 h4_ hv0_39 h13_ ) (fun z23_ h24_ => ?_)
            refine w_goto (tgt := 39) dX11_tenths_54 (by decide) ?_
            refine w_loc (ls' := [(2, vI z23_), (0, vR (11, 0, 0)), (1, vI v)]) [0, 1, 2] rfl ?_
            exact ih_39 M16_ hI19_ hF21_ z23_ (lf_c_X5_takeFrom_3 v2_39 z23_ hv0_39 h24_ ) (RCH.tail hL_39 ⟨hv0_39, hI_39, hF_39, h13_, M16_, hI19_, hF20_, hs22_, z23_, h24_, rfl, rfl⟩) (Nat.lt_of_lt_of_le (lf_c_X11_tenths_2 v v2_39 z23_ h4_ h13_ h24_ ) (Nat.le_of_lt_succ hm_39))
      exact lp12_ _ Mz hIz hFz 0 (lf_c_X5_takeFrom_5 ) RCH.refl (Nat.lt_succ_self _)
    · refine w_aload_n dX11_tenths_31 rfl 0 rfl ?_
      refine w_iconst (v := 3) dX11_tenths_32 (by decide) ?_
      refine w_callV (as := [vI 3]) (rest := []) (c_X11_error l G cy ad (d + 6) 3 Mz hIz) kV_X11_error pnn_0 (Nat.le_of_ble_eq_true rfl) m_500 rfl rfl rfl ic_11 rfl rfl (by decide) (Nat.le_of_ble_eq_true rfl) dX11_tenths_33 (fun r25_ M26_ q27_ => ?_)
      obtain ⟨hI29_, hF30_, h28_, hs32_⟩ := q27_
      have hF31_ := hFz.tr hF30_ (fun c k => (fun h => h.elim (fun h => (Or.inr (Or.inr (Or.inr (Or.inr (Or.inr (Or.inr (Or.inr (Or.inr (Or.inr (Or.inr (Or.inr (Or.inr (Or.inr (Or.inr (Or.inr (Or.inr (Or.inr (Or.inr (Or.inl ⟨h.1, h.2⟩)))))))))))))))))))) (fun h => h.elim)))
      exact w_iret rfl dX11_tenths_36 ⟨hI29_, hF31_, trivial, (Or.inl ⟨hs5_, h4_, z7_, e8_, z9_, h10_, (Or.inr ⟨h11_, M26_, hI29_, hF30_, r25_, hs32_, rfl, rfl⟩)⟩)⟩
  · simp only [li_1, li_100] at h4_
    refine w_if_ne (tgt := 16) dX11_tenths_7 (by decide) li_0 (fun h9 => (absurd h9 (by decide))) (fun h33_ => ?_)
    refine w_aload_n dX11_tenths_10 rfl 0 rfl ?_
    refine w_iconst (v := 1) dX11_tenths_11 (by decide) ?_
    refine w_callV (as := [vI 1]) (rest := []) (c_X11_error l G cy ad (d + 6) 1 Mz hIz) kV_X11_error pnn_0 (Nat.le_of_ble_eq_true rfl) m_500 rfl rfl rfl ic_11 rfl rfl (by decide) (Nat.le_of_ble_eq_true rfl) dX11_tenths_12 (fun r34_ M35_ q36_ => ?_)
    obtain ⟨hI38_, hF39_, h37_, hs41_⟩ := q36_
    have hF40_ := hFz.tr hF39_ (fun c k => (fun h => h.elim (fun h => (Or.inr (Or.inr (Or.inr (Or.inr (Or.inr (Or.inr (Or.inr (Or.inr (Or.inr (Or.inr (Or.inr (Or.inr (Or.inr (Or.inr (Or.inr (Or.inr (Or.inr (Or.inr (Or.inl ⟨h.1, h.2⟩)))))))))))))))))))) (fun h => h.elim)))
    exact w_iret rfl dX11_tenths_15 ⟨hI38_, hF40_, trivial, (Or.inr ⟨hs5_, h4_, M35_, hI38_, hF39_, r34_, hs41_, rfl, rfl⟩)⟩
def S_c_X11_way : rf → Nat → Prop := fun c k => (c.1 = 20 ∧ c.2.1 = 0) ∨ (c.1 = 21 ∧ c.2.1 = 0) ∨ (c.1 = 44 ∧ c.2.1 = 0) ∨ False
def SP_X11_way (v : Int32) (u : Int32) (t : Int32) (Mz : mM) (r_ : Int32) (M_ : mM) : Prop := (((SP_X10_hasWalker 0 v Mz (1 : Int32)) ∧ (0 ≤ v.toInt ∧ v.toInt ≤ 7) ∧ (((SP_X7_isCell u Mz (1 : Int32)) ∧ (0 ≤ u.toInt ∧ u.toInt ≤ 191) ∧ (((-1 ≤ t.toInt) ∧ ∃ j14_ : Nat, ((j14_ : Int) = v.toInt) ∧ (j14_ < 8) ∧ ∃ M17_ : mM, (Inv M17_) ∧ (FR (S_c_X0_measure 0 j14_) Mz M17_) ∧ (SP_X0_measure 0 j14_ u Mz M17_) ∧ (((¬ t.toInt = -1) ∧ ∃ r25_ : Int32, (SP_X0_cellAfter 0 j14_ u t M17_ r25_) ∧ (((0 ≤ r25_.toInt) ∧ r_ = r25_ ∧ M_ = M17_) ∨ ((r25_.toInt < 0) ∧ ∃ M32_ : mM, (Inv M32_) ∧ (FR (S_c_X11_error) M17_ M32_) ∧ ∃ r31_ : Int32, (SP_X11_error 2 M17_ r31_ M32_) ∧ r_ = r31_ ∧ M_ = M32_))) ∨ ((t.toInt = -1) ∧ ∃ z39_ : Int32, (z39_ = M17_.1 (9, 0, j14_) 1) ∧ ∃ r41_ : Int32, (SP_X0_costFrom z39_ M17_ r41_) ∧ r_ = r41_ ∧ M_ = M17_))) ∨ ((t.toInt < -1) ∧ ∃ M47_ : mM, (Inv M47_) ∧ (FR (S_c_X11_error) Mz M47_) ∧ ∃ r46_ : Int32, (SP_X11_error 1 Mz r46_ M47_) ∧ r_ = r46_ ∧ M_ = M47_))) ∨ ((SP_X7_isCell u Mz (0 : Int32)) ∧ (¬ (0 ≤ u.toInt ∧ u.toInt ≤ 191)) ∧ ∃ M56_ : mM, (Inv M56_) ∧ (FR (S_c_X11_error) Mz M56_) ∧ ∃ r55_ : Int32, (SP_X11_error 1 Mz r55_ M56_) ∧ r_ = r55_ ∧ M_ = M56_))) ∨ ((SP_X10_hasWalker 0 v Mz (0 : Int32)) ∧ ∃ M65_ : mM, (Inv M65_) ∧ (FR (S_c_X11_error) Mz M65_) ∧ ∃ r64_ : Int32, (SP_X11_error 1 Mz r64_ M65_) ∧ r_ = r64_ ∧ M_ = M65_))
set_option maxHeartbeats 4000000 in
set_option maxRecDepth 100000 in
theorem c_X11_way (l : Launch) (G : va_G) (cy : Nat → ClassId) (ad : rf → Nat) (d : Nat) (v : Int32) (u : Int32) (t : Int32) (Mz : mM) (hIz : Inv Mz) : WP CC l G cy ad yX11_way cX11_way 6 (some .int) (d + 5) 0 [(0, vR (11, 0, 0)), (1, vI v), (2, vI u), (3, vI t)] [] Mz (fun r M' => Inv M' ∧ FR (S_c_X11_way) Mz M' ∧ (True) ∧ SP_X11_way v u t Mz r M') := by
  have hFz : FR (S_c_X11_way) Mz Mz := FR.self
  refine w_aload_n dX11_way_0 rfl 0 rfl ?_
  refine w_getR (c' := (10, 0, 0)) fl_RX11_10 rfl rfl ic_11 dX11_way_1 rfl ?_
  refine w_iload_n dX11_way_4 rfl 1 rfl ?_
  refine w_callV (as := [vI v]) (rest := []) (c_X10_hasWalker l G cy ad (d + 4) 0 v Mz hIz (by first | decide | (unfold vF; omega) | (unfold vRw; omega))) kV_X10_hasWalker pnn_7 (Nat.le_of_ble_eq_true rfl) m_609 rfl rfl rfl (ic_10 (by decide)) rfl rfl (by decide) (Nat.le_of_ble_eq_true rfl) dX11_way_5 (fun r1_ M2_ q3_ => ?_)
  obtain ⟨rfl, h4_, hs5_⟩ := q3_
  rcases h4_ with ⟨rfl, h4_⟩ | rfl
  · refine w_if_eq (tgt := 23) dX11_way_8 (by decide) li_1 (fun h9 => (absurd h9 (by decide))) (fun h6_ => ?_)
    refine w_iload_n dX11_way_11 rfl 2 rfl ?_
    refine w_callS (as := [vI u]) (rest := []) (c_X7_isCell l G cy ad (d + 4) u Mz hIz) kS_X7_isCell pnn_1 (Nat.le_of_ble_eq_true rfl) m_497 rfl rfl (by decide) (Nat.le_of_ble_eq_true rfl) dX11_way_12 (fun r7_ M8_ q9_ => ?_)
    obtain ⟨rfl, h10_, hs11_⟩ := q9_
    rcases h10_ with ⟨rfl, h10_⟩ | ⟨rfl, h10_⟩
    · refine w_if_eq (tgt := 23) dX11_way_15 (by decide) li_1 (fun h9 => (absurd h9 (by decide))) (fun h12_ => ?_)
      refine w_iload_n dX11_way_18 rfl 3 rfl ?_
      refine w_iconst (v := (-1)) dX11_way_19 (by decide) ?_
      refine w_icmp_ge (tgt := 29) dX11_way_20 (by decide) (rfl : t.toInt = t.toInt) li_m1 (fun h13_ => ?_) (fun h13_ => ?_)
      · refine w_aload_n dX11_way_29 rfl 0 rfl ?_
        refine w_getR (c' := (10, 0, 0)) fl_RX11_10 rfl rfl ic_11 dX11_way_30 rfl ?_
        refine w_getR (c' := (42, 0, 0)) fl_RX11_157 rfl rfl (ic_10 (by decide)) dX11_way_33 rfl ?_
        refine w_iload_n dX11_way_36 rfl 1 rfl ?_
        refine w_aald rfl rfl rfl (fun _ => rfl) (ic_42 (by decide)) (rfl : v.toInt = v.toInt) (lf_c_X7_cellFrom_2 v h4_ ) dX11_way_37 (fun j14_ h15_ h16_ => ?_)
        refine w_astore (ls' := [(4, vR (9, 0, j14_)), (0, vR (11, 0, 0)), (1, vI v), (2, vI u), (3, vI t)]) dX11_way_38 (by decide) rfl ?_
        refine w_aload_n dX11_way_40 rfl 1 rfl ?_
        refine w_getR (c' := (0, 0, 0)) fl_RX11_42 rfl rfl ic_11 dX11_way_41 rfl ?_
        refine w_aload dX11_way_44 0 rfl ?_
        refine w_iload_n dX11_way_46 rfl 3 rfl ?_
        refine w_callVv (as := [vR (9, 0, j14_), vI u]) (rest := []) (c_X0_measure l G cy ad (d + 1) 0 j14_ u Mz hIz (by first | decide | (unfold vF; omega) | (unfold vRw; omega)) h16_) kV_X0_measure pnn_11 (Nat.le_of_ble_eq_true rfl) m_1071 rfl rfl rfl ic_0 rfl rfl (by decide) (Nat.le_of_ble_eq_true rfl) dX11_way_47 (fun M17_ q18_ => ?_)
        obtain ⟨hI20_, hF21_, h19_, hs23_⟩ := q18_
        have hF22_ := hFz.tr hF21_ (fun c k => (fun h => h.elim (fun h => (Or.inl ⟨h.1, h.2⟩)) (fun h => h.elim (fun h => (Or.inr (Or.inl ⟨h.1, h.2⟩))) (fun h => h.elim))))
        refine w_iload_n dX11_way_50 rfl 4 rfl ?_
        refine w_iconst (v := (-1)) dX11_way_51 (by decide) ?_
        refine w_icmp_ne (tgt := 68) dX11_way_52 (by decide) (rfl : t.toInt = t.toInt) li_m1 (fun h24_ => ?_) (fun h24_ => ?_)
        · refine w_aload_n dX11_way_68 rfl 1 rfl ?_
          refine w_getR (c' := (0, 0, 0)) fl_RX11_42 rfl rfl ic_11 dX11_way_69 rfl ?_
          refine w_aload dX11_way_72 0 rfl ?_
          refine w_iload_n dX11_way_74 rfl 3 rfl ?_
          refine w_iload_n dX11_way_75 rfl 4 rfl ?_
          refine w_callV (as := [vR (9, 0, j14_), vI u, vI t]) (rest := []) (c_X0_cellAfter l G cy ad d 0 j14_ u t M17_ hI20_ (by first | decide | (unfold vF; omega) | (unfold vRw; omega)) h16_) kV_X0_cellAfter pnn_11 (Nat.le_of_ble_eq_true rfl) m_1089 rfl rfl rfl ic_0 rfl rfl (by decide) (Nat.le_of_ble_eq_true rfl) dX11_way_76 (fun r25_ M26_ q27_ => ?_)
          obtain ⟨rfl, h28_, hs29_⟩ := q27_
          refine w_istore (ls' := [(5, vI r25_), (4, vR (9, 0, j14_)), (0, vR (11, 0, 0)), (1, vI v), (2, vI u), (3, vI t)]) dX11_way_79 (by decide) rfl ?_
          refine w_iload dX11_way_81 0 rfl ?_
          refine w_if_ge (tgt := 94) dX11_way_83 (by decide) (rfl : r25_.toInt = r25_.toInt) (fun h30_ => ?_) (fun h30_ => ?_)
          · refine w_iload dX11_way_94 0 rfl ?_
            exact w_iret rfl dX11_way_96 ⟨hI20_, hF22_, trivial, (Or.inl ⟨hs5_, h4_, (Or.inl ⟨hs11_, h10_, (Or.inl ⟨h13_, j14_, h15_, h16_, M17_, hI20_, hF21_, hs23_, (Or.inl ⟨h24_, r25_, hs29_, (Or.inl ⟨h30_, rfl, rfl⟩)⟩)⟩)⟩)⟩)⟩
          · refine w_aload_n dX11_way_86 rfl 2 rfl ?_
            refine w_iconst (v := 2) dX11_way_87 (by decide) ?_
            refine w_callV (as := [vI 2]) (rest := []) (c_X11_error l G cy ad (d + 4) 2 M17_ hI20_) kV_X11_error pnn_0 (Nat.le_of_ble_eq_true rfl) m_500 rfl rfl rfl ic_11 rfl rfl (by decide) (Nat.le_of_ble_eq_true rfl) dX11_way_88 (fun r31_ M32_ q33_ => ?_)
            obtain ⟨hI35_, hF36_, h34_, hs38_⟩ := q33_
            have hF37_ := hF22_.tr hF36_ (fun c k => (fun h => h.elim (fun h => (Or.inr (Or.inr (Or.inl ⟨h.1, h.2⟩)))) (fun h => h.elim)))
            refine w_goto (tgt := 96) dX11_way_91 (by decide) ?_
            exact w_iret rfl dX11_way_96 ⟨hI35_, hF37_, trivial, (Or.inl ⟨hs5_, h4_, (Or.inl ⟨hs11_, h10_, (Or.inl ⟨h13_, j14_, h15_, h16_, M17_, hI20_, hF21_, hs23_, (Or.inl ⟨h24_, r25_, hs29_, (Or.inr ⟨h30_, M32_, hI35_, hF36_, r31_, hs38_, rfl, rfl⟩)⟩)⟩)⟩)⟩)⟩
        · refine w_aload_n dX11_way_55 rfl 1 rfl ?_
          refine w_getR (c' := (0, 0, 0)) fl_RX11_42 rfl rfl ic_11 dX11_way_56 rfl ?_
          refine w_aload dX11_way_59 0 rfl ?_
          refine w_getI fl_RX11_229 rfl rfl (ic_9 (by decide) h16_) dX11_way_61 (fun z39_ e40_ => ?_)
          refine w_callV (as := [vI z39_]) (rest := []) (c_X0_costFrom l G cy ad (d + 3) z39_ M17_ hI20_) kV_X0_costFrom pnn_11 (Nat.le_of_ble_eq_true rfl) m_1085 rfl rfl rfl ic_0 rfl rfl (by decide) (Nat.le_of_ble_eq_true rfl) dX11_way_64 (fun r41_ M42_ q43_ => ?_)
          obtain ⟨rfl, h44_, hs45_⟩ := q43_
          exact w_iret rfl dX11_way_67 ⟨hI20_, hF22_, trivial, (Or.inl ⟨hs5_, h4_, (Or.inl ⟨hs11_, h10_, (Or.inl ⟨h13_, j14_, h15_, h16_, M17_, hI20_, hF21_, hs23_, (Or.inr ⟨h24_, z39_, e40_, r41_, hs45_, rfl, rfl⟩)⟩)⟩)⟩)⟩
      · refine w_aload_n dX11_way_23 rfl 0 rfl ?_
        refine w_iconst (v := 1) dX11_way_24 (by decide) ?_
        refine w_callV (as := [vI 1]) (rest := []) (c_X11_error l G cy ad (d + 4) 1 Mz hIz) kV_X11_error pnn_0 (Nat.le_of_ble_eq_true rfl) m_500 rfl rfl rfl ic_11 rfl rfl (by decide) (Nat.le_of_ble_eq_true rfl) dX11_way_25 (fun r46_ M47_ q48_ => ?_)
        obtain ⟨hI50_, hF51_, h49_, hs53_⟩ := q48_
        have hF52_ := hFz.tr hF51_ (fun c k => (fun h => h.elim (fun h => (Or.inr (Or.inr (Or.inl ⟨h.1, h.2⟩)))) (fun h => h.elim)))
        exact w_iret rfl dX11_way_28 ⟨hI50_, hF52_, trivial, (Or.inl ⟨hs5_, h4_, (Or.inl ⟨hs11_, h10_, (Or.inr ⟨h13_, M47_, hI50_, hF51_, r46_, hs53_, rfl, rfl⟩)⟩)⟩)⟩
    · refine w_if_eq (tgt := 23) dX11_way_15 (by decide) li_0 (fun h54_ => ?_) (fun h9 => (absurd h9 (by decide)))
      refine w_aload_n dX11_way_23 rfl 0 rfl ?_
      refine w_iconst (v := 1) dX11_way_24 (by decide) ?_
      refine w_callV (as := [vI 1]) (rest := []) (c_X11_error l G cy ad (d + 4) 1 Mz hIz) kV_X11_error pnn_0 (Nat.le_of_ble_eq_true rfl) m_500 rfl rfl rfl ic_11 rfl rfl (by decide) (Nat.le_of_ble_eq_true rfl) dX11_way_25 (fun r55_ M56_ q57_ => ?_)
      obtain ⟨hI59_, hF60_, h58_, hs62_⟩ := q57_
      have hF61_ := hFz.tr hF60_ (fun c k => (fun h => h.elim (fun h => (Or.inr (Or.inr (Or.inl ⟨h.1, h.2⟩)))) (fun h => h.elim)))
      exact w_iret rfl dX11_way_28 ⟨hI59_, hF61_, trivial, (Or.inl ⟨hs5_, h4_, (Or.inr ⟨hs11_, h10_, M56_, hI59_, hF60_, r55_, hs62_, rfl, rfl⟩)⟩)⟩
  · refine w_if_eq (tgt := 23) dX11_way_8 (by decide) li_0 (fun h63_ => ?_) (fun h9 => (absurd h9 (by decide)))
    refine w_aload_n dX11_way_23 rfl 0 rfl ?_
    refine w_iconst (v := 1) dX11_way_24 (by decide) ?_
    refine w_callV (as := [vI 1]) (rest := []) (c_X11_error l G cy ad (d + 4) 1 Mz hIz) kV_X11_error pnn_0 (Nat.le_of_ble_eq_true rfl) m_500 rfl rfl rfl ic_11 rfl rfl (by decide) (Nat.le_of_ble_eq_true rfl) dX11_way_25 (fun r64_ M65_ q66_ => ?_)
    obtain ⟨hI68_, hF69_, h67_, hs71_⟩ := q66_
    have hF70_ := hFz.tr hF69_ (fun c k => (fun h => h.elim (fun h => (Or.inr (Or.inr (Or.inl ⟨h.1, h.2⟩)))) (fun h => h.elim)))
    exact w_iret rfl dX11_way_28 ⟨hI68_, hF70_, trivial, (Or.inr ⟨hs5_, M65_, hI68_, hF69_, r64_, hs71_, rfl, rfl⟩)⟩
def S_c_X11_safe : rf → Nat → Prop := fun c k => (c.1 = 29 ∧ c.2.1 = 0 ∧ k = 0) ∨ (c.1 = 29 ∧ c.2.1 = 0 ∧ k = 1) ∨ (c.1 = 29 ∧ c.2.1 = 0 ∧ k = 2) ∨ (c.1 = 29 ∧ c.2.1 = 0 ∧ k = 3) ∨ (c.1 = 25 ∧ c.2.1 = 0 ∧ c.2.2 = 0) ∨ (c.1 = 25 ∧ c.2.1 = 0 ∧ c.2.2 = 1) ∨ (c.1 = 44 ∧ c.2.1 = 0) ∨ False
def ST_X11_safe_28 (r7_ : Int32) (v3_28 : Int32) (v3_28y : Int32) : Prop := (0 ≤ v3_28.toInt) ∧ (v3_28.toInt ≤ 9) ∧ (v3_28.toInt < 9) ∧ ∃ z17_ : Int32, (z17_.toInt = v3_28.toInt + 1) ∧ ∃ z19_ : Int32, (z19_.toInt = v3_28.toInt + 2) ∧ ∃ z21_ : Int32, (z21_ = z17_ * z19_) ∧ ∃ z23_ : Int32, (z23_ = z21_ / (2 : Int32)) ∧ (z23_.toInt ≤ r7_.toInt) ∧ ∃ z26_ : Int32, (z26_.toInt = v3_28.toInt + 1) ∧ v3_28y = z26_
def SP_X11_safe (v : Int32) (Mz : mM) (r_ : Int32) (M_ : mM) : Prop := (((SP_X10_hasWalker 0 v Mz (1 : Int32)) ∧ (0 ≤ v.toInt ∧ v.toInt ≤ 7) ∧ ∃ M8_ : mM, (Inv M8_) ∧ (FR (S_c_X10_sureYards 0) Mz M8_) ∧ ∃ r7_ : Int32, (SP_X10_sureYards 0 v Mz r7_ M8_) ∧ ∃ v3_28 : Int32, (0 ≤ v3_28.toInt) ∧ (v3_28.toInt ≤ 9) ∧ (RCH (fun x_ y_ => ST_X11_safe_28 r7_ x_ y_) (0 : Int32) v3_28) ∧ (((9 ≤ v3_28.toInt) ∧ r_ = v3_28 ∧ M_ = M8_) ∨ ((v3_28.toInt < 9) ∧ ∃ z17_ : Int32, (z17_.toInt = v3_28.toInt + 1) ∧ ∃ z19_ : Int32, (z19_.toInt = v3_28.toInt + 2) ∧ ∃ z21_ : Int32, (z21_ = z17_ * z19_) ∧ ∃ z23_ : Int32, (z23_ = z21_ / (2 : Int32)) ∧ (r7_.toInt < z23_.toInt) ∧ r_ = v3_28 ∧ M_ = M8_))) ∨ ((SP_X10_hasWalker 0 v Mz (0 : Int32)) ∧ ∃ M30_ : mM, (Inv M30_) ∧ (FR (S_c_X11_error) Mz M30_) ∧ ∃ r29_ : Int32, (SP_X11_error 1 Mz r29_ M30_) ∧ r_ = r29_ ∧ M_ = M30_))
theorem lf_c_X11_safe_0 (v3_28 : Int32) (hv0_28 : 0 ≤ v3_28.toInt) (h16_ : v3_28.toInt < 9) : -2147483648 ≤ v3_28.toInt + 1 ∧ v3_28.toInt + 1 < 2147483648 := by omega
theorem lf_c_X11_safe_1 (v3_28 : Int32) (hv0_28 : 0 ≤ v3_28.toInt) (h16_ : v3_28.toInt < 9) : -2147483648 ≤ v3_28.toInt + 2 ∧ v3_28.toInt + 2 < 2147483648 := by omega
theorem lf_c_X11_safe_4 (v3_28 : Int32) (z26_ : Int32) (h16_ : v3_28.toInt < 9) (h27_ : z26_.toInt = v3_28.toInt + 1) : z26_.toInt ≤ 9 := by omega
theorem lf_c_X11_safe_5 (v3_28 : Int32) (z26_ : Int32) (h16_ : v3_28.toInt < 9) (h27_ : z26_.toInt = v3_28.toInt + 1) : (2147483648 - z26_.toInt).toNat < (2147483648 - v3_28.toInt).toNat := by omega
set_option maxHeartbeats 4000000 in
set_option maxRecDepth 100000 in
theorem c_X11_safe (l : Launch) (G : va_G) (cy : Nat → ClassId) (ad : rf → Nat) (d : Nat) (v : Int32) (Mz : mM) (hIz : Inv Mz) : WP CC l G cy ad yX11_safe cX11_safe 4 (some .int) (d + 5) 0 [(0, vR (11, 0, 0)), (1, vI v)] [] Mz (fun r M' => Inv M' ∧ FR (S_c_X11_safe) Mz M' ∧ (True) ∧ SP_X11_safe v Mz r M') := by
  have hFz : FR (S_c_X11_safe) Mz Mz := FR.self
  refine w_aload_n dX11_safe_0 rfl 0 rfl ?_
  refine w_getR (c' := (10, 0, 0)) fl_RX11_10 rfl rfl ic_11 dX11_safe_1 rfl ?_
  refine w_iload_n dX11_safe_4 rfl 1 rfl ?_
  refine w_callV (as := [vI v]) (rest := []) (c_X10_hasWalker l G cy ad (d + 4) 0 v Mz hIz (by first | decide | (unfold vF; omega) | (unfold vRw; omega))) kV_X10_hasWalker pnn_7 (Nat.le_of_ble_eq_true rfl) m_609 rfl rfl rfl (ic_10 (by decide)) rfl rfl (by decide) (Nat.le_of_ble_eq_true rfl) dX11_safe_5 (fun r1_ M2_ q3_ => ?_)
  obtain ⟨rfl, h4_, hs5_⟩ := q3_
  rcases h4_ with ⟨rfl, h4_⟩ | rfl
  · refine w_if_ne (tgt := 17) dX11_safe_8 (by decide) li_1 (fun h6_ => ?_) (fun h9 => (absurd h9 (by decide)))
    refine w_aload_n dX11_safe_17 rfl 0 rfl ?_
    refine w_getR (c' := (10, 0, 0)) fl_RX11_10 rfl rfl ic_11 dX11_safe_18 rfl ?_
    refine w_iload_n dX11_safe_21 rfl 1 rfl ?_
    refine w_callV (as := [vI v]) (rest := []) (c_X10_sureYards l G cy ad d 0 v Mz hIz (by first | decide | (unfold vF; omega) | (unfold vRw; omega))) kV_X10_sureYards pnn_7 (Nat.le_of_ble_eq_true rfl) m_1102 rfl rfl rfl (ic_10 (by decide)) rfl rfl (by decide) (Nat.le_of_ble_eq_true rfl) dX11_safe_22 (fun r7_ M8_ q9_ => ?_)
    obtain ⟨hI11_, hF12_, h10_, hs14_⟩ := q9_
    have hF13_ := hFz.tr hF12_ (fun c k => (fun h => h.elim (fun h => (Or.inl ⟨h.1, h.2.1, h.2.2⟩)) (fun h => h.elim (fun h => (Or.inr (Or.inl ⟨h.1, h.2.1, h.2.2⟩))) (fun h => h.elim (fun h => (Or.inr (Or.inr (Or.inl ⟨h.1, h.2.1, h.2.2⟩)))) (fun h => h.elim (fun h => (Or.inr (Or.inr (Or.inr (Or.inl ⟨h.1, h.2.1, h.2.2⟩))))) (fun h => h.elim (fun h => (Or.inr (Or.inr (Or.inr (Or.inr (Or.inl ⟨h.1, h.2.1, h.2.2⟩)))))) (fun h => h.elim (fun h => (Or.inr (Or.inr (Or.inr (Or.inr (Or.inr (Or.inl ⟨h.1, h.2.1, h.2.2⟩))))))) (fun h => h.elim))))))))
    refine w_istore_n (ls' := [(2, vI r7_), (0, vR (11, 0, 0)), (1, vI v)]) dX11_safe_25 rfl (by decide) rfl ?_
    refine w_iconst (v := 0) dX11_safe_26 (by decide) ?_
    refine w_istore_n (ls' := [(3, vI 0), (2, vI r7_), (0, vR (11, 0, 0)), (1, vI v)]) dX11_safe_27 rfl (by decide) rfl ?_
    have lp15_ : ∀ (nn_28 : Nat) (v3_28 : Int32) (hv0_28 : 0 ≤ v3_28.toInt) (hv1_28 : v3_28.toInt ≤ 9) (hL_28 : RCH (fun x_ y_ => ST_X11_safe_28 r7_ x_ y_) (0 : Int32) v3_28), (2147483648 - v3_28.toInt).toNat < nn_28 → WP CC l G cy ad yX11_safe cX11_safe 4 (some .int) (d + 5) 28 [(3, vI v3_28), (2, vI r7_), (0, vR (11, 0, 0)), (1, vI v)] [] M8_ (fun r M' => Inv M' ∧ FR (S_c_X11_safe) Mz M' ∧ (True) ∧ SP_X11_safe v Mz r M') := by
      intro nn_28
      induction nn_28 with
      | zero => intro v3_28 hv0_28 hv1_28 hL_28 hm_28; exact absurd hm_28 (Nat.not_lt_zero _)
      | succ nn_28 ih_28 =>
        intro v3_28 hv0_28 hv1_28 hL_28 hm_28
        refine w_iload_n dX11_safe_28 rfl 0 rfl ?_
        refine w_bipush (v := 9) dX11_safe_29 (by decide) ?_
        refine w_icmp_ge (tgt := 53) dX11_safe_31 (by decide) (rfl : v3_28.toInt = v3_28.toInt) li_9 (fun h16_ => ?_) (fun h16_ => ?_)
        · refine w_iload_n dX11_safe_53 rfl 0 rfl ?_
          exact w_iret rfl dX11_safe_54 ⟨hI11_, hF13_, trivial, (Or.inl ⟨hs5_, h4_, M8_, hI11_, hF12_, r7_, hs14_, v3_28, hv0_28, hv1_28, hL_28, (Or.inl ⟨h16_, rfl, rfl⟩)⟩)⟩
        · refine w_iload_n dX11_safe_34 rfl 0 rfl ?_
          refine w_iconst (v := 1) dX11_safe_35 (by decide) ?_
          refine w_iaddB dX11_safe_36 (rfl : v3_28.toInt = v3_28.toInt) li_1 (lf_c_X11_safe_0 v3_28 hv0_28 h16_ ) (fun z17_ h18_ => ?_)
          refine w_iload_n dX11_safe_37 rfl 0 rfl ?_
          refine w_iconst (v := 2) dX11_safe_38 (by decide) ?_
          refine w_iaddB dX11_safe_39 (rfl : v3_28.toInt = v3_28.toInt) li_2 (lf_c_X11_safe_1 v3_28 hv0_28 h16_ ) (fun z19_ h20_ => ?_)
          refine w_imul dX11_safe_40 (fun z21_ h22_ => ?_)
          refine w_iconst (v := 2) dX11_safe_41 (by decide) ?_
          refine w_idiv dX11_safe_42 (by decide) (fun z23_ h24_ => ?_)
          refine w_iload_n dX11_safe_43 rfl 1 rfl ?_
          refine w_icmp_gt (tgt := 53) dX11_safe_44 (by decide) (rfl : z23_.toInt = z23_.toInt) (rfl : r7_.toInt = r7_.toInt) (fun h25_ => ?_) (fun h25_ => ?_)
          · refine w_iload_n dX11_safe_53 rfl 0 rfl ?_
            exact w_iret rfl dX11_safe_54 ⟨hI11_, hF13_, trivial, (Or.inl ⟨hs5_, h4_, M8_, hI11_, hF12_, r7_, hs14_, v3_28, hv0_28, hv1_28, hL_28, (Or.inr ⟨h16_, z17_, h18_, z19_, h20_, z21_, h22_, z23_, h24_, h25_, rfl, rfl⟩)⟩)⟩
          · refine w_iincB (j := 0) (f := fun z26_ => [(3, vI z26_), (2, vI r7_), (0, vR (11, 0, 0)), (1, vI v)]) dX11_safe_47 rfl (by decide) (fun _ => rfl) (rfl : v3_28.toInt = v3_28.toInt) li_1 (lf_c_X11_safe_0 v3_28 hv0_28 h16_ ) (fun z26_ h27_ => ?_)
            refine w_goto (tgt := 28) dX11_safe_50 (by decide) ?_
            refine w_loc (ls' := [(3, vI z26_), (2, vI r7_), (0, vR (11, 0, 0)), (1, vI v)]) [0, 1, 2, 3] rfl ?_
            exact ih_28 z26_ (lf_c_X5_takeFrom_3 v3_28 z26_ hv0_28 h27_ ) (lf_c_X11_safe_4 v3_28 z26_ h16_ h27_ ) (RCH.tail hL_28 ⟨hv0_28, hv1_28, h16_, z17_, h18_, z19_, h20_, z21_, h22_, z23_, h24_, h25_, z26_, h27_, rfl⟩) (Nat.lt_of_lt_of_le (lf_c_X11_safe_5 v3_28 z26_ h16_ h27_ ) (Nat.le_of_lt_succ hm_28))
    exact lp15_ _ 0 (lf_c_X5_takeFrom_5 ) (lf_c_X0_measure_22 ) RCH.refl (Nat.lt_succ_self _)
  · refine w_if_ne (tgt := 17) dX11_safe_8 (by decide) li_0 (fun h9 => (absurd h9 (by decide))) (fun h28_ => ?_)
    refine w_aload_n dX11_safe_11 rfl 0 rfl ?_
    refine w_iconst (v := 1) dX11_safe_12 (by decide) ?_
    refine w_callV (as := [vI 1]) (rest := []) (c_X11_error l G cy ad (d + 4) 1 Mz hIz) kV_X11_error pnn_0 (Nat.le_of_ble_eq_true rfl) m_500 rfl rfl rfl ic_11 rfl rfl (by decide) (Nat.le_of_ble_eq_true rfl) dX11_safe_13 (fun r29_ M30_ q31_ => ?_)
    obtain ⟨hI33_, hF34_, h32_, hs36_⟩ := q31_
    have hF35_ := hFz.tr hF34_ (fun c k => (fun h => h.elim (fun h => (Or.inr (Or.inr (Or.inr (Or.inr (Or.inr (Or.inr (Or.inl ⟨h.1, h.2⟩)))))))) (fun h => h.elim)))
    exact w_iret rfl dX11_safe_16 ⟨hI33_, hF35_, trivial, (Or.inr ⟨hs5_, M30_, hI33_, hF34_, r29_, hs36_, rfl, rfl⟩)⟩
def S_c_X11_lesson : rf → Nat → Prop := fun c k => (c.1 = 30 ∧ c.2.1 = 0) ∨ (c.1 = 31 ∧ c.2.1 = 0) ∨ (c.1 = 32 ∧ c.2.1 = 0) ∨ (c.1 = 3 ∧ c.2.1 = 0 ∧ k = 3) ∨ (c.1 = 44 ∧ c.2.1 = 0) ∨ False
def SP_X11_lesson (v : Int32) (u : Int32) (t : Int32) (Mz : mM) (r_ : Int32) (M_ : mM) : Prop := (((SP_X11_isBits v Mz (1 : Int32)) ∧ (0 ≤ v.toInt ∧ v.toInt ≤ 31) ∧ (((SP_X11_isBits u Mz (1 : Int32)) ∧ (0 ≤ u.toInt ∧ u.toInt ≤ 31) ∧ (((SP_X11_within t 1 99 Mz (1 : Int32)) ∧ (1 ≤ t.toInt ∧ t.toInt ≤ 99) ∧ ∃ r19_ : Int32, (SP_X3_hasRoom 0 Mz r19_) ∧ ((0 ≤ r19_.toInt ∧ r19_.toInt ≤ 1)) ∧ (((¬ r19_.toInt = 0) ∧ ∃ M26_ : mM, (Inv M26_) ∧ (FR (S_c_X3_add 0) Mz M26_) ∧ ∃ r25_ : Int32, (SP_X3_add 0 v u t Mz r25_ M26_) ∧ r_ = r25_ ∧ M_ = M26_) ∨ ((r19_.toInt = 0) ∧ ∃ M34_ : mM, (Inv M34_) ∧ (FR (S_c_X11_error) Mz M34_) ∧ ∃ r33_ : Int32, (SP_X11_error 4 Mz r33_ M34_) ∧ r_ = r33_ ∧ M_ = M34_))) ∨ ((SP_X11_within t 1 99 Mz (0 : Int32)) ∧ (¬ (1 ≤ t.toInt ∧ t.toInt ≤ 99)) ∧ ∃ M43_ : mM, (Inv M43_) ∧ (FR (S_c_X11_error) Mz M43_) ∧ ∃ r42_ : Int32, (SP_X11_error 1 Mz r42_ M43_) ∧ r_ = r42_ ∧ M_ = M43_))) ∨ ((SP_X11_isBits u Mz (0 : Int32)) ∧ (¬ (0 ≤ u.toInt ∧ u.toInt ≤ 31)) ∧ ∃ M52_ : mM, (Inv M52_) ∧ (FR (S_c_X11_error) Mz M52_) ∧ ∃ r51_ : Int32, (SP_X11_error 1 Mz r51_ M52_) ∧ r_ = r51_ ∧ M_ = M52_))) ∨ ((SP_X11_isBits v Mz (0 : Int32)) ∧ (¬ (0 ≤ v.toInt ∧ v.toInt ≤ 31)) ∧ ∃ M61_ : mM, (Inv M61_) ∧ (FR (S_c_X11_error) Mz M61_) ∧ ∃ r60_ : Int32, (SP_X11_error 1 Mz r60_ M61_) ∧ r_ = r60_ ∧ M_ = M61_))
set_option maxHeartbeats 4000000 in
set_option maxRecDepth 100000 in
theorem c_X11_lesson (l : Launch) (G : va_G) (cy : Nat → ClassId) (ad : rf → Nat) (d : Nat) (v : Int32) (u : Int32) (t : Int32) (Mz : mM) (hIz : Inv Mz) : WP CC l G cy ad yX11_lesson cX11_lesson 4 (some .int) (d + 2) 0 [(0, vR (11, 0, 0)), (1, vI v), (2, vI u), (3, vI t)] [] Mz (fun r M' => Inv M' ∧ FR (S_c_X11_lesson) Mz M' ∧ (True) ∧ SP_X11_lesson v u t Mz r M') := by
  have hFz : FR (S_c_X11_lesson) Mz Mz := FR.self
  refine w_iload_n dX11_lesson_0 rfl 1 rfl ?_
  refine w_callS (as := [vI v]) (rest := []) (c_X11_isBits l G cy ad d v Mz hIz) kS_X11_isBits pnn_0 (Nat.le_of_ble_eq_true rfl) m_1114 rfl rfl (by decide) (Nat.le_of_ble_eq_true rfl) dX11_lesson_1 (fun r1_ M2_ q3_ => ?_)
  obtain ⟨rfl, h4_, hs5_⟩ := q3_
  rcases h4_ with ⟨rfl, h4_⟩ | ⟨rfl, h4_⟩
  · refine w_if_eq (tgt := 24) dX11_lesson_4 (by decide) li_1 (fun h9 => (absurd h9 (by decide))) (fun h6_ => ?_)
    refine w_iload_n dX11_lesson_7 rfl 2 rfl ?_
    refine w_callS (as := [vI u]) (rest := []) (c_X11_isBits l G cy ad d u Mz hIz) kS_X11_isBits pnn_0 (Nat.le_of_ble_eq_true rfl) m_1114 rfl rfl (by decide) (Nat.le_of_ble_eq_true rfl) dX11_lesson_8 (fun r7_ M8_ q9_ => ?_)
    obtain ⟨rfl, h10_, hs11_⟩ := q9_
    rcases h10_ with ⟨rfl, h10_⟩ | ⟨rfl, h10_⟩
    · refine w_if_eq (tgt := 24) dX11_lesson_11 (by decide) li_1 (fun h9 => (absurd h9 (by decide))) (fun h12_ => ?_)
      refine w_iload_n dX11_lesson_14 rfl 3 rfl ?_
      refine w_iconst (v := 1) dX11_lesson_15 (by decide) ?_
      refine w_bipush (v := 99) dX11_lesson_16 (by decide) ?_
      refine w_callS (as := [vI t, vI 1, vI 99]) (rest := []) (c_X11_within l G cy ad (d + 1) t 1 99 Mz hIz) kS_X11_within pnn_0 (Nat.le_of_ble_eq_true rfl) m_494 rfl rfl (by decide) (Nat.le_of_ble_eq_true rfl) dX11_lesson_18 (fun r13_ M14_ q15_ => ?_)
      obtain ⟨rfl, h16_, hs17_⟩ := q15_
      rcases h16_ with ⟨rfl, h16_⟩ | ⟨rfl, h16_⟩
      · simp only [li_1, li_99] at h16_
        refine w_if_ne (tgt := 30) dX11_lesson_21 (by decide) li_1 (fun h18_ => ?_) (fun h9 => (absurd h9 (by decide)))
        refine w_aload_n dX11_lesson_30 rfl 0 rfl ?_
        refine w_getR (c' := (10, 0, 0)) fl_RX11_10 rfl rfl ic_11 dX11_lesson_31 rfl ?_
        refine w_getR (c' := (3, 0, 0)) fl_RX11_313 rfl rfl (ic_10 (by decide)) dX11_lesson_34 rfl ?_
        refine w_callV (as := []) (rest := []) (c_X3_hasRoom l G cy ad (d + 1) 0 Mz hIz (by first | decide | (unfold vF; omega) | (unfold vRw; omega))) kV_X3_hasRoom pnn_8 (Nat.le_of_ble_eq_true rfl) m_1117 rfl rfl rfl (ic_3 (by decide)) rfl rfl (by decide) (Nat.le_of_ble_eq_true rfl) dX11_lesson_37 (fun r19_ M20_ q21_ => ?_)
        obtain ⟨rfl, h22_, hs23_⟩ := q21_
        refine w_if_ne (tgt := 49) dX11_lesson_40 (by decide) (rfl : r19_.toInt = r19_.toInt) (fun h24_ => ?_) (fun h24_ => ?_)
        · refine w_aload_n dX11_lesson_49 rfl 0 rfl ?_
          refine w_getR (c' := (10, 0, 0)) fl_RX11_10 rfl rfl ic_11 dX11_lesson_50 rfl ?_
          refine w_getR (c' := (3, 0, 0)) fl_RX11_313 rfl rfl (ic_10 (by decide)) dX11_lesson_53 rfl ?_
          refine w_iload_n dX11_lesson_56 rfl 1 rfl ?_
          refine w_iload_n dX11_lesson_57 rfl 2 rfl ?_
          refine w_iload_n dX11_lesson_58 rfl 3 rfl ?_
          refine w_callV (as := [vI v, vI u, vI t]) (rest := []) (c_X3_add l G cy ad (d + 1) 0 v u t Mz hIz (by first | decide | (unfold vF; omega) | (unfold vRw; omega))) kV_X3_add pnn_8 (Nat.le_of_ble_eq_true rfl) m_1121 rfl rfl rfl (ic_3 (by decide)) rfl rfl (by decide) (Nat.le_of_ble_eq_true rfl) dX11_lesson_59 (fun r25_ M26_ q27_ => ?_)
          obtain ⟨hI29_, hF30_, h28_, hs32_⟩ := q27_
          have hF31_ := hFz.tr hF30_ (fun c k => (fun h => h.elim (fun h => (Or.inl ⟨h.1, h.2⟩)) (fun h => h.elim (fun h => (Or.inr (Or.inl ⟨h.1, h.2⟩))) (fun h => h.elim (fun h => (Or.inr (Or.inr (Or.inl ⟨h.1, h.2⟩)))) (fun h => h.elim (fun h => (Or.inr (Or.inr (Or.inr (Or.inl ⟨h.1, h.2.1, h.2.2⟩))))) (fun h => h.elim))))))
          exact w_iret rfl dX11_lesson_62 ⟨hI29_, hF31_, trivial, (Or.inl ⟨hs5_, h4_, (Or.inl ⟨hs11_, h10_, (Or.inl ⟨hs17_, h16_, r19_, hs23_, h22_, (Or.inl ⟨h24_, M26_, hI29_, hF30_, r25_, hs32_, rfl, rfl⟩)⟩)⟩)⟩)⟩
        · refine w_aload_n dX11_lesson_43 rfl 0 rfl ?_
          refine w_iconst (v := 4) dX11_lesson_44 (by decide) ?_
          refine w_callV (as := [vI 4]) (rest := []) (c_X11_error l G cy ad (d + 1) 4 Mz hIz) kV_X11_error pnn_0 (Nat.le_of_ble_eq_true rfl) m_500 rfl rfl rfl ic_11 rfl rfl (by decide) (Nat.le_of_ble_eq_true rfl) dX11_lesson_45 (fun r33_ M34_ q35_ => ?_)
          obtain ⟨hI37_, hF38_, h36_, hs40_⟩ := q35_
          have hF39_ := hFz.tr hF38_ (fun c k => (fun h => h.elim (fun h => (Or.inr (Or.inr (Or.inr (Or.inr (Or.inl ⟨h.1, h.2⟩)))))) (fun h => h.elim)))
          exact w_iret rfl dX11_lesson_48 ⟨hI37_, hF39_, trivial, (Or.inl ⟨hs5_, h4_, (Or.inl ⟨hs11_, h10_, (Or.inl ⟨hs17_, h16_, r19_, hs23_, h22_, (Or.inr ⟨h24_, M34_, hI37_, hF38_, r33_, hs40_, rfl, rfl⟩)⟩)⟩)⟩)⟩
      · simp only [li_1, li_99] at h16_
        refine w_if_ne (tgt := 30) dX11_lesson_21 (by decide) li_0 (fun h9 => (absurd h9 (by decide))) (fun h41_ => ?_)
        refine w_aload_n dX11_lesson_24 rfl 0 rfl ?_
        refine w_iconst (v := 1) dX11_lesson_25 (by decide) ?_
        refine w_callV (as := [vI 1]) (rest := []) (c_X11_error l G cy ad (d + 1) 1 Mz hIz) kV_X11_error pnn_0 (Nat.le_of_ble_eq_true rfl) m_500 rfl rfl rfl ic_11 rfl rfl (by decide) (Nat.le_of_ble_eq_true rfl) dX11_lesson_26 (fun r42_ M43_ q44_ => ?_)
        obtain ⟨hI46_, hF47_, h45_, hs49_⟩ := q44_
        have hF48_ := hFz.tr hF47_ (fun c k => (fun h => h.elim (fun h => (Or.inr (Or.inr (Or.inr (Or.inr (Or.inl ⟨h.1, h.2⟩)))))) (fun h => h.elim)))
        exact w_iret rfl dX11_lesson_29 ⟨hI46_, hF48_, trivial, (Or.inl ⟨hs5_, h4_, (Or.inl ⟨hs11_, h10_, (Or.inr ⟨hs17_, h16_, M43_, hI46_, hF47_, r42_, hs49_, rfl, rfl⟩)⟩)⟩)⟩
    · refine w_if_eq (tgt := 24) dX11_lesson_11 (by decide) li_0 (fun h50_ => ?_) (fun h9 => (absurd h9 (by decide)))
      refine w_aload_n dX11_lesson_24 rfl 0 rfl ?_
      refine w_iconst (v := 1) dX11_lesson_25 (by decide) ?_
      refine w_callV (as := [vI 1]) (rest := []) (c_X11_error l G cy ad (d + 1) 1 Mz hIz) kV_X11_error pnn_0 (Nat.le_of_ble_eq_true rfl) m_500 rfl rfl rfl ic_11 rfl rfl (by decide) (Nat.le_of_ble_eq_true rfl) dX11_lesson_26 (fun r51_ M52_ q53_ => ?_)
      obtain ⟨hI55_, hF56_, h54_, hs58_⟩ := q53_
      have hF57_ := hFz.tr hF56_ (fun c k => (fun h => h.elim (fun h => (Or.inr (Or.inr (Or.inr (Or.inr (Or.inl ⟨h.1, h.2⟩)))))) (fun h => h.elim)))
      exact w_iret rfl dX11_lesson_29 ⟨hI55_, hF57_, trivial, (Or.inl ⟨hs5_, h4_, (Or.inr ⟨hs11_, h10_, M52_, hI55_, hF56_, r51_, hs58_, rfl, rfl⟩)⟩)⟩
  · refine w_if_eq (tgt := 24) dX11_lesson_4 (by decide) li_0 (fun h59_ => ?_) (fun h9 => (absurd h9 (by decide)))
    refine w_aload_n dX11_lesson_24 rfl 0 rfl ?_
    refine w_iconst (v := 1) dX11_lesson_25 (by decide) ?_
    refine w_callV (as := [vI 1]) (rest := []) (c_X11_error l G cy ad (d + 1) 1 Mz hIz) kV_X11_error pnn_0 (Nat.le_of_ble_eq_true rfl) m_500 rfl rfl rfl ic_11 rfl rfl (by decide) (Nat.le_of_ble_eq_true rfl) dX11_lesson_26 (fun r60_ M61_ q62_ => ?_)
    obtain ⟨hI64_, hF65_, h63_, hs67_⟩ := q62_
    have hF66_ := hFz.tr hF65_ (fun c k => (fun h => h.elim (fun h => (Or.inr (Or.inr (Or.inr (Or.inr (Or.inl ⟨h.1, h.2⟩)))))) (fun h => h.elim)))
    exact w_iret rfl dX11_lesson_29 ⟨hI64_, hF66_, trivial, (Or.inr ⟨hs5_, h4_, M61_, hI64_, hF65_, r60_, hs67_, rfl, rfl⟩)⟩
def S_c_X11_posts : rf → Nat → Prop := fun c k => (c.1 = 44 ∧ c.2.1 = 0) ∨ (c.1 = 0 ∧ c.2.1 = 0 ∧ k = 5) ∨ (c.1 = 23 ∧ c.2.1 = 0) ∨ (c.1 = 29 ∧ c.2.1 = 0 ∧ k = 0) ∨ (c.1 = 29 ∧ c.2.1 = 0 ∧ k = 1) ∨ (c.1 = 29 ∧ c.2.1 = 0 ∧ k = 2) ∨ (c.1 = 29 ∧ c.2.1 = 0 ∧ k = 3) ∨ (c.1 = 25 ∧ c.2.1 = 0 ∧ c.2.2 = 0) ∨ (c.1 = 25 ∧ c.2.1 = 0 ∧ c.2.2 = 1) ∨ False
def SP_X11_posts (v : Int32) (u : Int32) (t : Int32) (s : Int32) (Mz : mM) (r_ : Int32) (M_ : mM) : Prop := (((SP_X10_hasWalker 0 v Mz (1 : Int32)) ∧ (0 ≤ v.toInt ∧ v.toInt ≤ 7) ∧ (((SP_X11_isSheet u Mz (1 : Int32)) ∧ (0 ≤ u.toInt ∧ u.toInt ≤ 3) ∧ (((SP_X11_isSheet t Mz (1 : Int32)) ∧ (0 ≤ t.toInt ∧ t.toInt ≤ 3) ∧ (((SP_X11_within s 0 1 Mz (1 : Int32)) ∧ (0 ≤ s.toInt ∧ s.toInt ≤ 1) ∧ ∃ j25_ : Nat, ((j25_ : Int) = u.toInt) ∧ (j25_ < 4) ∧ ∃ r28_ : Int32, (SP_X6_isMissing j25_ Mz r28_) ∧ ((0 ≤ r28_.toInt ∧ r28_.toInt ≤ 1)) ∧ (((¬ r28_.toInt = 0) ∧ ∃ M35_ : mM, (Inv M35_) ∧ (FR (S_c_X11_error) Mz M35_) ∧ ∃ r34_ : Int32, (SP_X11_error 2 Mz r34_ M35_) ∧ r_ = r34_ ∧ M_ = M35_) ∨ ((r28_.toInt = 0) ∧ ∃ j42_ : Nat, ((j42_ : Int) = t.toInt) ∧ (j42_ < 4) ∧ ∃ r45_ : Int32, (SP_X6_isMissing j42_ Mz r45_) ∧ ((0 ≤ r45_.toInt ∧ r45_.toInt ≤ 1)) ∧ (((r45_.toInt = 0) ∧ ∃ j51_ : Nat, ((j51_ : Int) = u.toInt) ∧ (j51_ < 4) ∧ ∃ r54_ : Int32, (SP_X6_holdsFewCells j51_ Mz r54_) ∧ ((0 ≤ r54_.toInt ∧ r54_.toInt ≤ 1)) ∧ (((r54_.toInt = 0) ∧ ∃ M61_ : mM, (Inv M61_) ∧ (FR (S_c_X11_error) Mz M61_) ∧ ∃ r60_ : Int32, (SP_X11_error 5 Mz r60_ M61_) ∧ r_ = r60_ ∧ M_ = M61_) ∨ ((¬ r54_.toInt = 0) ∧ ∃ j68_ : Nat, ((j68_ : Int) = t.toInt) ∧ (j68_ < 4) ∧ ∃ r71_ : Int32, (SP_X6_holdsFewCells j68_ Mz r71_) ∧ ((0 ≤ r71_.toInt ∧ r71_.toInt ≤ 1)) ∧ (((¬ r71_.toInt = 0) ∧ ∃ j77_ : Nat, ((j77_ : Int) = u.toInt) ∧ (j77_ < 4) ∧ ∃ j80_ : Nat, ((j80_ : Int) = t.toInt) ∧ (j80_ < 4) ∧ ∃ M84_ : mM, (Inv M84_) ∧ (FR (S_c_X0_choosePosts 0 j77_ j80_) Mz M84_) ∧ ∃ r83_ : Int32, (SP_X0_choosePosts 0 j77_ j80_ v Mz r83_ M84_) ∧ ((0 ≤ r83_.toInt ∧ r83_.toInt ≤ 1)) ∧ (((¬ r83_.toInt = 0) ∧ (((¬ s.toInt = 0) ∧ ∃ z93_ : Int32, (z93_ = M84_.1 (0, 0, 0) 5) ∧ r_ = z93_ ∧ M_ = M84_) ∨ ((s.toInt = 0) ∧ ∃ z95_ : Int32, (z95_ = M84_.1 (0, 0, 0) 5) ∧ ∃ r97_ : Int32, (SP_JI_bitCount z95_ M84_ r97_) ∧ r_ = r97_ ∧ M_ = M84_))) ∨ ((r83_.toInt = 0) ∧ ∃ M103_ : mM, (Inv M103_) ∧ (FR (S_c_X11_error) M84_ M103_) ∧ ∃ r102_ : Int32, (SP_X11_error 3 M84_ r102_ M103_) ∧ r_ = r102_ ∧ M_ = M103_))) ∨ ((r71_.toInt = 0) ∧ ∃ M111_ : mM, (Inv M111_) ∧ (FR (S_c_X11_error) Mz M111_) ∧ ∃ r110_ : Int32, (SP_X11_error 5 Mz r110_ M111_) ∧ r_ = r110_ ∧ M_ = M111_))))) ∨ ((¬ r45_.toInt = 0) ∧ ∃ M119_ : mM, (Inv M119_) ∧ (FR (S_c_X11_error) Mz M119_) ∧ ∃ r118_ : Int32, (SP_X11_error 2 Mz r118_ M119_) ∧ r_ = r118_ ∧ M_ = M119_))))) ∨ ((SP_X11_within s 0 1 Mz (0 : Int32)) ∧ (¬ (0 ≤ s.toInt ∧ s.toInt ≤ 1)) ∧ ∃ M128_ : mM, (Inv M128_) ∧ (FR (S_c_X11_error) Mz M128_) ∧ ∃ r127_ : Int32, (SP_X11_error 1 Mz r127_ M128_) ∧ r_ = r127_ ∧ M_ = M128_))) ∨ ((SP_X11_isSheet t Mz (0 : Int32)) ∧ (¬ (0 ≤ t.toInt ∧ t.toInt ≤ 3)) ∧ ∃ M137_ : mM, (Inv M137_) ∧ (FR (S_c_X11_error) Mz M137_) ∧ ∃ r136_ : Int32, (SP_X11_error 1 Mz r136_ M137_) ∧ r_ = r136_ ∧ M_ = M137_))) ∨ ((SP_X11_isSheet u Mz (0 : Int32)) ∧ (¬ (0 ≤ u.toInt ∧ u.toInt ≤ 3)) ∧ ∃ M146_ : mM, (Inv M146_) ∧ (FR (S_c_X11_error) Mz M146_) ∧ ∃ r145_ : Int32, (SP_X11_error 1 Mz r145_ M146_) ∧ r_ = r145_ ∧ M_ = M146_))) ∨ ((SP_X10_hasWalker 0 v Mz (0 : Int32)) ∧ ∃ M155_ : mM, (Inv M155_) ∧ (FR (S_c_X11_error) Mz M155_) ∧ ∃ r154_ : Int32, (SP_X11_error 1 Mz r154_ M155_) ∧ r_ = r154_ ∧ M_ = M155_))
set_option maxHeartbeats 4000000 in
set_option maxRecDepth 100000 in
theorem c_X11_posts (l : Launch) (G : va_G) (cy : Nat → ClassId) (ad : rf → Nat) (d : Nat) (v : Int32) (u : Int32) (t : Int32) (s : Int32) (Mz : mM) (hIz : Inv Mz) : WP CC l G cy ad yX11_posts cX11_posts 5 (some .int) (d + 5) 0 [(0, vR (11, 0, 0)), (1, vI v), (2, vI u), (3, vI t), (4, vI s)] [] Mz (fun r M' => Inv M' ∧ FR (S_c_X11_posts) Mz M' ∧ (True) ∧ SP_X11_posts v u t s Mz r M') := by
  have hFz : FR (S_c_X11_posts) Mz Mz := FR.self
  refine w_aload_n dX11_posts_0 rfl 0 rfl ?_
  refine w_getR (c' := (10, 0, 0)) fl_RX11_10 rfl rfl ic_11 dX11_posts_1 rfl ?_
  refine w_iload_n dX11_posts_4 rfl 1 rfl ?_
  refine w_callV (as := [vI v]) (rest := []) (c_X10_hasWalker l G cy ad (d + 4) 0 v Mz hIz (by first | decide | (unfold vF; omega) | (unfold vRw; omega))) kV_X10_hasWalker pnn_7 (Nat.le_of_ble_eq_true rfl) m_609 rfl rfl rfl (ic_10 (by decide)) rfl rfl (by decide) (Nat.le_of_ble_eq_true rfl) dX11_posts_5 (fun r1_ M2_ q3_ => ?_)
  obtain ⟨rfl, h4_, hs5_⟩ := q3_
  rcases h4_ with ⟨rfl, h4_⟩ | rfl
  · refine w_if_eq (tgt := 35) dX11_posts_8 (by decide) li_1 (fun h9 => (absurd h9 (by decide))) (fun h6_ => ?_)
    refine w_iload_n dX11_posts_11 rfl 2 rfl ?_
    refine w_callS (as := [vI u]) (rest := []) (c_X11_isSheet l G cy ad (d + 3) u Mz hIz) kS_X11_isSheet pnn_0 (Nat.le_of_ble_eq_true rfl) m_566 rfl rfl (by decide) (Nat.le_of_ble_eq_true rfl) dX11_posts_12 (fun r7_ M8_ q9_ => ?_)
    obtain ⟨rfl, h10_, hs11_⟩ := q9_
    rcases h10_ with ⟨rfl, h10_⟩ | ⟨rfl, h10_⟩
    · refine w_if_eq (tgt := 35) dX11_posts_15 (by decide) li_1 (fun h9 => (absurd h9 (by decide))) (fun h12_ => ?_)
      refine w_iload_n dX11_posts_18 rfl 3 rfl ?_
      refine w_callS (as := [vI t]) (rest := []) (c_X11_isSheet l G cy ad (d + 3) t Mz hIz) kS_X11_isSheet pnn_0 (Nat.le_of_ble_eq_true rfl) m_566 rfl rfl (by decide) (Nat.le_of_ble_eq_true rfl) dX11_posts_19 (fun r13_ M14_ q15_ => ?_)
      obtain ⟨rfl, h16_, hs17_⟩ := q15_
      rcases h16_ with ⟨rfl, h16_⟩ | ⟨rfl, h16_⟩
      · refine w_if_eq (tgt := 35) dX11_posts_22 (by decide) li_1 (fun h9 => (absurd h9 (by decide))) (fun h18_ => ?_)
        refine w_iload dX11_posts_25 4 rfl ?_
        refine w_iconst (v := 0) dX11_posts_27 (by decide) ?_
        refine w_iconst (v := 1) dX11_posts_28 (by decide) ?_
        refine w_callS (as := [vI s, vI 0, vI 1]) (rest := []) (c_X11_within l G cy ad (d + 4) s 0 1 Mz hIz) kS_X11_within pnn_0 (Nat.le_of_ble_eq_true rfl) m_494 rfl rfl (by decide) (Nat.le_of_ble_eq_true rfl) dX11_posts_29 (fun r19_ M20_ q21_ => ?_)
        obtain ⟨rfl, h22_, hs23_⟩ := q21_
        rcases h22_ with ⟨rfl, h22_⟩ | ⟨rfl, h22_⟩
        · simp only [li_0, li_1] at h22_
          refine w_if_ne (tgt := 41) dX11_posts_32 (by decide) li_1 (fun h24_ => ?_) (fun h9 => (absurd h9 (by decide)))
          refine w_aload_n dX11_posts_41 rfl 0 rfl ?_
          refine w_getR (c' := (43, 0, 0)) fl_RX11_24 rfl rfl ic_11 dX11_posts_42 rfl ?_
          refine w_iload_n dX11_posts_45 rfl 2 rfl ?_
          refine w_aald rfl rfl rfl (fun _ => rfl) ic_43 (rfl : u.toInt = u.toInt) (lf_c_X11_lays_0 u h10_ ) dX11_posts_46 (fun j25_ h26_ h27_ => ?_)
          refine w_callV (as := []) (rest := []) (c_X6_isMissing l G cy ad (d + 4) j25_ Mz hIz h27_) kV_X6_isMissing pnn_4 (Nat.le_of_ble_eq_true rfl) m_569 rfl rfl rfl (ic_6 h27_) rfl rfl (by decide) (Nat.le_of_ble_eq_true rfl) dX11_posts_47 (fun r28_ M29_ q30_ => ?_)
          obtain ⟨rfl, h31_, hs32_⟩ := q30_
          refine w_if_ne (tgt := 65) dX11_posts_50 (by decide) (rfl : r28_.toInt = r28_.toInt) (fun h33_ => ?_) (fun h33_ => ?_)
          · refine w_aload_n dX11_posts_65 rfl 0 rfl ?_
            refine w_iconst (v := 2) dX11_posts_66 (by decide) ?_
            refine w_callV (as := [vI 2]) (rest := []) (c_X11_error l G cy ad (d + 4) 2 Mz hIz) kV_X11_error pnn_0 (Nat.le_of_ble_eq_true rfl) m_500 rfl rfl rfl ic_11 rfl rfl (by decide) (Nat.le_of_ble_eq_true rfl) dX11_posts_67 (fun r34_ M35_ q36_ => ?_)
            obtain ⟨hI38_, hF39_, h37_, hs41_⟩ := q36_
            have hF40_ := hFz.tr hF39_ (fun c k => (fun h => h.elim (fun h => (Or.inl ⟨h.1, h.2⟩)) (fun h => h.elim)))
            exact w_iret rfl dX11_posts_70 ⟨hI38_, hF40_, trivial, (Or.inl ⟨hs5_, h4_, (Or.inl ⟨hs11_, h10_, (Or.inl ⟨hs17_, h16_, (Or.inl ⟨hs23_, h22_, j25_, h26_, h27_, r28_, hs32_, h31_, (Or.inl ⟨h33_, M35_, hI38_, hF39_, r34_, hs41_, rfl, rfl⟩)⟩)⟩)⟩)⟩)⟩
          · refine w_aload_n dX11_posts_53 rfl 0 rfl ?_
            refine w_getR (c' := (43, 0, 0)) fl_RX11_24 rfl rfl ic_11 dX11_posts_54 rfl ?_
            refine w_iload_n dX11_posts_57 rfl 3 rfl ?_
            refine w_aald rfl rfl rfl (fun _ => rfl) ic_43 (rfl : t.toInt = t.toInt) (lf_c_X11_lays_0 t h16_ ) dX11_posts_58 (fun j42_ h43_ h44_ => ?_)
            refine w_callV (as := []) (rest := []) (c_X6_isMissing l G cy ad (d + 4) j42_ Mz hIz h44_) kV_X6_isMissing pnn_4 (Nat.le_of_ble_eq_true rfl) m_569 rfl rfl rfl (ic_6 h44_) rfl rfl (by decide) (Nat.le_of_ble_eq_true rfl) dX11_posts_59 (fun r45_ M46_ q47_ => ?_)
            obtain ⟨rfl, h48_, hs49_⟩ := q47_
            refine w_if_eq (tgt := 71) dX11_posts_62 (by decide) (rfl : r45_.toInt = r45_.toInt) (fun h50_ => ?_) (fun h50_ => ?_)
            · refine w_aload_n dX11_posts_71 rfl 0 rfl ?_
              refine w_getR (c' := (43, 0, 0)) fl_RX11_24 rfl rfl ic_11 dX11_posts_72 rfl ?_
              refine w_iload_n dX11_posts_75 rfl 2 rfl ?_
              refine w_aald rfl rfl rfl (fun _ => rfl) ic_43 (rfl : u.toInt = u.toInt) (lf_c_X11_lays_0 u h10_ ) dX11_posts_76 (fun j51_ h52_ h53_ => ?_)
              refine w_callV (as := []) (rest := []) (c_X6_holdsFewCells l G cy ad (d + 2) j51_ Mz hIz h53_) kV_X6_holdsFewCells pnn_4 (Nat.le_of_ble_eq_true rfl) m_978 rfl rfl rfl (ic_6 h53_) rfl rfl (by decide) (Nat.le_of_ble_eq_true rfl) dX11_posts_77 (fun r54_ M55_ q56_ => ?_)
              obtain ⟨rfl, h57_, hs58_⟩ := q56_
              refine w_if_eq (tgt := 95) dX11_posts_80 (by decide) (rfl : r54_.toInt = r54_.toInt) (fun h59_ => ?_) (fun h59_ => ?_)
              · refine w_aload_n dX11_posts_95 rfl 0 rfl ?_
                refine w_iconst (v := 5) dX11_posts_96 (by decide) ?_
                refine w_callV (as := [vI 5]) (rest := []) (c_X11_error l G cy ad (d + 4) 5 Mz hIz) kV_X11_error pnn_0 (Nat.le_of_ble_eq_true rfl) m_500 rfl rfl rfl ic_11 rfl rfl (by decide) (Nat.le_of_ble_eq_true rfl) dX11_posts_97 (fun r60_ M61_ q62_ => ?_)
                obtain ⟨hI64_, hF65_, h63_, hs67_⟩ := q62_
                have hF66_ := hFz.tr hF65_ (fun c k => (fun h => h.elim (fun h => (Or.inl ⟨h.1, h.2⟩)) (fun h => h.elim)))
                exact w_iret rfl dX11_posts_100 ⟨hI64_, hF66_, trivial, (Or.inl ⟨hs5_, h4_, (Or.inl ⟨hs11_, h10_, (Or.inl ⟨hs17_, h16_, (Or.inl ⟨hs23_, h22_, j25_, h26_, h27_, r28_, hs32_, h31_, (Or.inr ⟨h33_, j42_, h43_, h44_, r45_, hs49_, h48_, (Or.inl ⟨h50_, j51_, h52_, h53_, r54_, hs58_, h57_, (Or.inl ⟨h59_, M61_, hI64_, hF65_, r60_, hs67_, rfl, rfl⟩)⟩)⟩)⟩)⟩)⟩)⟩)⟩
              · refine w_aload_n dX11_posts_83 rfl 0 rfl ?_
                refine w_getR (c' := (43, 0, 0)) fl_RX11_24 rfl rfl ic_11 dX11_posts_84 rfl ?_
                refine w_iload_n dX11_posts_87 rfl 3 rfl ?_
                refine w_aald rfl rfl rfl (fun _ => rfl) ic_43 (rfl : t.toInt = t.toInt) (lf_c_X11_lays_0 t h16_ ) dX11_posts_88 (fun j68_ h69_ h70_ => ?_)
                refine w_callV (as := []) (rest := []) (c_X6_holdsFewCells l G cy ad (d + 2) j68_ Mz hIz h70_) kV_X6_holdsFewCells pnn_4 (Nat.le_of_ble_eq_true rfl) m_978 rfl rfl rfl (ic_6 h70_) rfl rfl (by decide) (Nat.le_of_ble_eq_true rfl) dX11_posts_89 (fun r71_ M72_ q73_ => ?_)
                obtain ⟨rfl, h74_, hs75_⟩ := q73_
                refine w_if_ne (tgt := 101) dX11_posts_92 (by decide) (rfl : r71_.toInt = r71_.toInt) (fun h76_ => ?_) (fun h76_ => ?_)
                · refine w_aload_n dX11_posts_101 rfl 0 rfl ?_
                  refine w_getR (c' := (0, 0, 0)) fl_RX11_42 rfl rfl ic_11 dX11_posts_102 rfl ?_
                  refine w_aload_n dX11_posts_105 rfl 0 rfl ?_
                  refine w_getR (c' := (10, 0, 0)) fl_RX11_10 rfl rfl ic_11 dX11_posts_106 rfl ?_
                  refine w_iload_n dX11_posts_109 rfl 1 rfl ?_
                  refine w_aload_n dX11_posts_110 rfl 0 rfl ?_
                  refine w_getR (c' := (43, 0, 0)) fl_RX11_24 rfl rfl ic_11 dX11_posts_111 rfl ?_
                  refine w_iload_n dX11_posts_114 rfl 2 rfl ?_
                  refine w_aald rfl rfl rfl (fun _ => rfl) ic_43 (rfl : u.toInt = u.toInt) (lf_c_X11_lays_0 u h10_ ) dX11_posts_115 (fun j77_ h78_ h79_ => ?_)
                  refine w_aload_n dX11_posts_116 rfl 0 rfl ?_
                  refine w_getR (c' := (43, 0, 0)) fl_RX11_24 rfl rfl ic_11 dX11_posts_117 rfl ?_
                  refine w_iload_n dX11_posts_120 rfl 3 rfl ?_
                  refine w_aald rfl rfl rfl (fun _ => rfl) ic_43 (rfl : t.toInt = t.toInt) (lf_c_X11_lays_0 t h16_ ) dX11_posts_121 (fun j80_ h81_ h82_ => ?_)
                  refine w_callV (as := [vR (10, 0, 0), vI v, vR (6, 0, j77_), vR (6, 0, j80_)]) (rest := []) (c_X0_choosePosts l G cy ad d 0 j77_ j80_ v Mz hIz (by first | decide | (unfold vF; omega) | (unfold vRw; omega)) h79_ h82_) kV_X0_choosePosts pnn_11 (Nat.le_of_ble_eq_true rfl) m_1159 rfl rfl rfl ic_0 rfl rfl (by decide) (Nat.le_of_ble_eq_true rfl) dX11_posts_122 (fun r83_ M84_ q85_ => ?_)
                  obtain ⟨hI87_, hF88_, h86_, hs90_⟩ := q85_
                  have hF89_ := hFz.tr hF88_ (fun c k => (fun h => h.elim (fun h => (Or.inr (Or.inl ⟨h.1, h.2.1, h.2.2⟩))) (fun h => h.elim (fun h => (Or.inr (Or.inr (Or.inl ⟨h.1, h.2⟩)))) (fun h => h.elim (fun h => (Or.inr (Or.inr (Or.inr (Or.inl ⟨h.1, h.2.1, h.2.2⟩))))) (fun h => h.elim (fun h => (Or.inr (Or.inr (Or.inr (Or.inr (Or.inl ⟨h.1, h.2.1, h.2.2⟩)))))) (fun h => h.elim (fun h => (Or.inr (Or.inr (Or.inr (Or.inr (Or.inr (Or.inl ⟨h.1, h.2.1, h.2.2⟩))))))) (fun h => h.elim (fun h => (Or.inr (Or.inr (Or.inr (Or.inr (Or.inr (Or.inr (Or.inl ⟨h.1, h.2.1, h.2.2⟩)))))))) (fun h => h.elim (fun h => (Or.inr (Or.inr (Or.inr (Or.inr (Or.inr (Or.inr (Or.inr (Or.inl ⟨h.1, h.2.1, h.2.2⟩))))))))) (fun h => h.elim (fun h => (Or.inr (Or.inr (Or.inr (Or.inr (Or.inr (Or.inr (Or.inr (Or.inr (Or.inl ⟨h.1, h.2.1, h.2.2⟩)))))))))) (fun h => h.elim))))))))))
                  refine w_if_ne (tgt := 134) dX11_posts_125 (by decide) (rfl : r83_.toInt = r83_.toInt) (fun h91_ => ?_) (fun h91_ => ?_)
                  · refine w_iload dX11_posts_134 4 rfl ?_
                    refine w_if_ne (tgt := 152) dX11_posts_136 (by decide) (rfl : s.toInt = s.toInt) (fun h92_ => ?_) (fun h92_ => ?_)
                    · refine w_aload_n dX11_posts_152 rfl 0 rfl ?_
                      refine w_getR (c' := (0, 0, 0)) fl_RX11_42 rfl rfl ic_11 dX11_posts_153 rfl ?_
                      refine w_getI fl_RX11_287 rfl rfl ic_0 dX11_posts_156 (fun z93_ e94_ => ?_)
                      exact w_iret rfl dX11_posts_159 ⟨hI87_, hF89_, trivial, (Or.inl ⟨hs5_, h4_, (Or.inl ⟨hs11_, h10_, (Or.inl ⟨hs17_, h16_, (Or.inl ⟨hs23_, h22_, j25_, h26_, h27_, r28_, hs32_, h31_, (Or.inr ⟨h33_, j42_, h43_, h44_, r45_, hs49_, h48_, (Or.inl ⟨h50_, j51_, h52_, h53_, r54_, hs58_, h57_, (Or.inr ⟨h59_, j68_, h69_, h70_, r71_, hs75_, h74_, (Or.inl ⟨h76_, j77_, h78_, h79_, j80_, h81_, h82_, M84_, hI87_, hF88_, r83_, hs90_, h86_, (Or.inl ⟨h91_, (Or.inl ⟨h92_, z93_, e94_, rfl, rfl⟩)⟩)⟩)⟩)⟩)⟩)⟩)⟩)⟩)⟩)⟩
                    · refine w_aload_n dX11_posts_139 rfl 0 rfl ?_
                      refine w_getR (c' := (0, 0, 0)) fl_RX11_42 rfl rfl ic_11 dX11_posts_140 rfl ?_
                      refine w_getI fl_RX11_287 rfl rfl ic_0 dX11_posts_143 (fun z95_ e96_ => ?_)
                      refine w_callS (as := [vI z95_]) (rest := []) (c_JI_bitCount l G cy ad (d + 4) z95_ M84_ hI87_) kS_JI_bitCount pnn_9 (Nat.le_of_ble_eq_true rfl) m_1175 rfl rfl (by decide) (Nat.le_of_ble_eq_true rfl) dX11_posts_146 (fun r97_ M98_ q99_ => ?_)
                      obtain ⟨rfl, h100_, hs101_⟩ := q99_
                      refine w_goto (tgt := 159) dX11_posts_149 (by decide) ?_
                      exact w_iret rfl dX11_posts_159 ⟨hI87_, hF89_, trivial, (Or.inl ⟨hs5_, h4_, (Or.inl ⟨hs11_, h10_, (Or.inl ⟨hs17_, h16_, (Or.inl ⟨hs23_, h22_, j25_, h26_, h27_, r28_, hs32_, h31_, (Or.inr ⟨h33_, j42_, h43_, h44_, r45_, hs49_, h48_, (Or.inl ⟨h50_, j51_, h52_, h53_, r54_, hs58_, h57_, (Or.inr ⟨h59_, j68_, h69_, h70_, r71_, hs75_, h74_, (Or.inl ⟨h76_, j77_, h78_, h79_, j80_, h81_, h82_, M84_, hI87_, hF88_, r83_, hs90_, h86_, (Or.inl ⟨h91_, (Or.inr ⟨h92_, z95_, e96_, r97_, hs101_, rfl, rfl⟩)⟩)⟩)⟩)⟩)⟩)⟩)⟩)⟩)⟩)⟩
                  · refine w_aload_n dX11_posts_128 rfl 0 rfl ?_
                    refine w_iconst (v := 3) dX11_posts_129 (by decide) ?_
                    refine w_callV (as := [vI 3]) (rest := []) (c_X11_error l G cy ad (d + 4) 3 M84_ hI87_) kV_X11_error pnn_0 (Nat.le_of_ble_eq_true rfl) m_500 rfl rfl rfl ic_11 rfl rfl (by decide) (Nat.le_of_ble_eq_true rfl) dX11_posts_130 (fun r102_ M103_ q104_ => ?_)
                    obtain ⟨hI106_, hF107_, h105_, hs109_⟩ := q104_
                    have hF108_ := hF89_.tr hF107_ (fun c k => (fun h => h.elim (fun h => (Or.inl ⟨h.1, h.2⟩)) (fun h => h.elim)))
                    exact w_iret rfl dX11_posts_133 ⟨hI106_, hF108_, trivial, (Or.inl ⟨hs5_, h4_, (Or.inl ⟨hs11_, h10_, (Or.inl ⟨hs17_, h16_, (Or.inl ⟨hs23_, h22_, j25_, h26_, h27_, r28_, hs32_, h31_, (Or.inr ⟨h33_, j42_, h43_, h44_, r45_, hs49_, h48_, (Or.inl ⟨h50_, j51_, h52_, h53_, r54_, hs58_, h57_, (Or.inr ⟨h59_, j68_, h69_, h70_, r71_, hs75_, h74_, (Or.inl ⟨h76_, j77_, h78_, h79_, j80_, h81_, h82_, M84_, hI87_, hF88_, r83_, hs90_, h86_, (Or.inr ⟨h91_, M103_, hI106_, hF107_, r102_, hs109_, rfl, rfl⟩)⟩)⟩)⟩)⟩)⟩)⟩)⟩)⟩)⟩
                · refine w_aload_n dX11_posts_95 rfl 0 rfl ?_
                  refine w_iconst (v := 5) dX11_posts_96 (by decide) ?_
                  refine w_callV (as := [vI 5]) (rest := []) (c_X11_error l G cy ad (d + 4) 5 Mz hIz) kV_X11_error pnn_0 (Nat.le_of_ble_eq_true rfl) m_500 rfl rfl rfl ic_11 rfl rfl (by decide) (Nat.le_of_ble_eq_true rfl) dX11_posts_97 (fun r110_ M111_ q112_ => ?_)
                  obtain ⟨hI114_, hF115_, h113_, hs117_⟩ := q112_
                  have hF116_ := hFz.tr hF115_ (fun c k => (fun h => h.elim (fun h => (Or.inl ⟨h.1, h.2⟩)) (fun h => h.elim)))
                  exact w_iret rfl dX11_posts_100 ⟨hI114_, hF116_, trivial, (Or.inl ⟨hs5_, h4_, (Or.inl ⟨hs11_, h10_, (Or.inl ⟨hs17_, h16_, (Or.inl ⟨hs23_, h22_, j25_, h26_, h27_, r28_, hs32_, h31_, (Or.inr ⟨h33_, j42_, h43_, h44_, r45_, hs49_, h48_, (Or.inl ⟨h50_, j51_, h52_, h53_, r54_, hs58_, h57_, (Or.inr ⟨h59_, j68_, h69_, h70_, r71_, hs75_, h74_, (Or.inr ⟨h76_, M111_, hI114_, hF115_, r110_, hs117_, rfl, rfl⟩)⟩)⟩)⟩)⟩)⟩)⟩)⟩)⟩
            · refine w_aload_n dX11_posts_65 rfl 0 rfl ?_
              refine w_iconst (v := 2) dX11_posts_66 (by decide) ?_
              refine w_callV (as := [vI 2]) (rest := []) (c_X11_error l G cy ad (d + 4) 2 Mz hIz) kV_X11_error pnn_0 (Nat.le_of_ble_eq_true rfl) m_500 rfl rfl rfl ic_11 rfl rfl (by decide) (Nat.le_of_ble_eq_true rfl) dX11_posts_67 (fun r118_ M119_ q120_ => ?_)
              obtain ⟨hI122_, hF123_, h121_, hs125_⟩ := q120_
              have hF124_ := hFz.tr hF123_ (fun c k => (fun h => h.elim (fun h => (Or.inl ⟨h.1, h.2⟩)) (fun h => h.elim)))
              exact w_iret rfl dX11_posts_70 ⟨hI122_, hF124_, trivial, (Or.inl ⟨hs5_, h4_, (Or.inl ⟨hs11_, h10_, (Or.inl ⟨hs17_, h16_, (Or.inl ⟨hs23_, h22_, j25_, h26_, h27_, r28_, hs32_, h31_, (Or.inr ⟨h33_, j42_, h43_, h44_, r45_, hs49_, h48_, (Or.inr ⟨h50_, M119_, hI122_, hF123_, r118_, hs125_, rfl, rfl⟩)⟩)⟩)⟩)⟩)⟩)⟩
        · simp only [li_0, li_1] at h22_
          refine w_if_ne (tgt := 41) dX11_posts_32 (by decide) li_0 (fun h9 => (absurd h9 (by decide))) (fun h126_ => ?_)
          refine w_aload_n dX11_posts_35 rfl 0 rfl ?_
          refine w_iconst (v := 1) dX11_posts_36 (by decide) ?_
          refine w_callV (as := [vI 1]) (rest := []) (c_X11_error l G cy ad (d + 4) 1 Mz hIz) kV_X11_error pnn_0 (Nat.le_of_ble_eq_true rfl) m_500 rfl rfl rfl ic_11 rfl rfl (by decide) (Nat.le_of_ble_eq_true rfl) dX11_posts_37 (fun r127_ M128_ q129_ => ?_)
          obtain ⟨hI131_, hF132_, h130_, hs134_⟩ := q129_
          have hF133_ := hFz.tr hF132_ (fun c k => (fun h => h.elim (fun h => (Or.inl ⟨h.1, h.2⟩)) (fun h => h.elim)))
          exact w_iret rfl dX11_posts_40 ⟨hI131_, hF133_, trivial, (Or.inl ⟨hs5_, h4_, (Or.inl ⟨hs11_, h10_, (Or.inl ⟨hs17_, h16_, (Or.inr ⟨hs23_, h22_, M128_, hI131_, hF132_, r127_, hs134_, rfl, rfl⟩)⟩)⟩)⟩)⟩
      · refine w_if_eq (tgt := 35) dX11_posts_22 (by decide) li_0 (fun h135_ => ?_) (fun h9 => (absurd h9 (by decide)))
        refine w_aload_n dX11_posts_35 rfl 0 rfl ?_
        refine w_iconst (v := 1) dX11_posts_36 (by decide) ?_
        refine w_callV (as := [vI 1]) (rest := []) (c_X11_error l G cy ad (d + 4) 1 Mz hIz) kV_X11_error pnn_0 (Nat.le_of_ble_eq_true rfl) m_500 rfl rfl rfl ic_11 rfl rfl (by decide) (Nat.le_of_ble_eq_true rfl) dX11_posts_37 (fun r136_ M137_ q138_ => ?_)
        obtain ⟨hI140_, hF141_, h139_, hs143_⟩ := q138_
        have hF142_ := hFz.tr hF141_ (fun c k => (fun h => h.elim (fun h => (Or.inl ⟨h.1, h.2⟩)) (fun h => h.elim)))
        exact w_iret rfl dX11_posts_40 ⟨hI140_, hF142_, trivial, (Or.inl ⟨hs5_, h4_, (Or.inl ⟨hs11_, h10_, (Or.inr ⟨hs17_, h16_, M137_, hI140_, hF141_, r136_, hs143_, rfl, rfl⟩)⟩)⟩)⟩
    · refine w_if_eq (tgt := 35) dX11_posts_15 (by decide) li_0 (fun h144_ => ?_) (fun h9 => (absurd h9 (by decide)))
      refine w_aload_n dX11_posts_35 rfl 0 rfl ?_
      refine w_iconst (v := 1) dX11_posts_36 (by decide) ?_
      refine w_callV (as := [vI 1]) (rest := []) (c_X11_error l G cy ad (d + 4) 1 Mz hIz) kV_X11_error pnn_0 (Nat.le_of_ble_eq_true rfl) m_500 rfl rfl rfl ic_11 rfl rfl (by decide) (Nat.le_of_ble_eq_true rfl) dX11_posts_37 (fun r145_ M146_ q147_ => ?_)
      obtain ⟨hI149_, hF150_, h148_, hs152_⟩ := q147_
      have hF151_ := hFz.tr hF150_ (fun c k => (fun h => h.elim (fun h => (Or.inl ⟨h.1, h.2⟩)) (fun h => h.elim)))
      exact w_iret rfl dX11_posts_40 ⟨hI149_, hF151_, trivial, (Or.inl ⟨hs5_, h4_, (Or.inr ⟨hs11_, h10_, M146_, hI149_, hF150_, r145_, hs152_, rfl, rfl⟩)⟩)⟩
  · refine w_if_eq (tgt := 35) dX11_posts_8 (by decide) li_0 (fun h153_ => ?_) (fun h9 => (absurd h9 (by decide)))
    refine w_aload_n dX11_posts_35 rfl 0 rfl ?_
    refine w_iconst (v := 1) dX11_posts_36 (by decide) ?_
    refine w_callV (as := [vI 1]) (rest := []) (c_X11_error l G cy ad (d + 4) 1 Mz hIz) kV_X11_error pnn_0 (Nat.le_of_ble_eq_true rfl) m_500 rfl rfl rfl ic_11 rfl rfl (by decide) (Nat.le_of_ble_eq_true rfl) dX11_posts_37 (fun r154_ M155_ q156_ => ?_)
    obtain ⟨hI158_, hF159_, h157_, hs161_⟩ := q156_
    have hF160_ := hFz.tr hF159_ (fun c k => (fun h => h.elim (fun h => (Or.inl ⟨h.1, h.2⟩)) (fun h => h.elim)))
    exact w_iret rfl dX11_posts_40 ⟨hI158_, hF160_, trivial, (Or.inr ⟨hs5_, M155_, hI158_, hF159_, r154_, hs161_, rfl, rfl⟩)⟩
def S_c_X11_trace : rf → Nat → Prop := fun c k => (c.1 = 44 ∧ c.2.1 = 0) ∨ False
def SP_X11_trace (v : Int32) (Mz : mM) (r_ : Int32) (M_ : mM) : Prop := ∃ r1_ : Int32, (SP_X5_has 3 5 v Mz r1_) ∧ ((0 ≤ r1_.toInt ∧ r1_.toInt ≤ 1)) ∧ (((¬ r1_.toInt = 0) ∧ ∃ r7_ : Int32, (SP_X5_get 3 5 v Mz r7_) ∧ r_ = r7_ ∧ M_ = Mz) ∨ ((r1_.toInt = 0) ∧ ∃ M13_ : mM, (Inv M13_) ∧ (FR (S_c_X11_error) Mz M13_) ∧ ∃ r12_ : Int32, (SP_X11_error 2 Mz r12_ M13_) ∧ r_ = r12_ ∧ M_ = M13_))
set_option maxHeartbeats 4000000 in
set_option maxRecDepth 100000 in
theorem c_X11_trace (l : Launch) (G : va_G) (cy : Nat → ClassId) (ad : rf → Nat) (d : Nat) (v : Int32) (Mz : mM) (hIz : Inv Mz) : WP CC l G cy ad yX11_trace cX11_trace 2 (some .int) (d + 1) 0 [(0, vR (11, 0, 0)), (1, vI v)] [] Mz (fun r M' => Inv M' ∧ FR (S_c_X11_trace) Mz M' ∧ (True) ∧ SP_X11_trace v Mz r M') := by
  have hFz : FR (S_c_X11_trace) Mz Mz := FR.self
  refine w_aload_n dX11_trace_0 rfl 0 rfl ?_
  refine w_getR (c' := (8, 0, 0)) fl_RX11_49 rfl rfl ic_11 dX11_trace_1 rfl ?_
  refine w_getR (c' := (5, 3, 5)) fl_RX11_353 rfl rfl ic_8 dX11_trace_4 rfl ?_
  refine w_iload_n dX11_trace_7 rfl 1 rfl ?_
  refine w_callV (as := [vI v]) (rest := []) (c_X5_has l G cy ad d 3 5 v Mz hIz (by first | decide | (unfold vF; omega) | (unfold vRw; omega))) kV_X5_has pnn_2 (Nat.le_of_ble_eq_true rfl) m_1214 rfl rfl rfl (ic_5 (by unfold vRw; omega)) rfl rfl (by decide) (Nat.le_of_ble_eq_true rfl) dX11_trace_8 (fun r1_ M2_ q3_ => ?_)
  obtain ⟨rfl, h4_, hs5_⟩ := q3_
  refine w_if_ne (tgt := 20) dX11_trace_11 (by decide) (rfl : r1_.toInt = r1_.toInt) (fun h6_ => ?_) (fun h6_ => ?_)
  · refine w_aload_n dX11_trace_20 rfl 0 rfl ?_
    refine w_getR (c' := (8, 0, 0)) fl_RX11_49 rfl rfl ic_11 dX11_trace_21 rfl ?_
    refine w_getR (c' := (5, 3, 5)) fl_RX11_353 rfl rfl ic_8 dX11_trace_24 rfl ?_
    refine w_iload_n dX11_trace_27 rfl 1 rfl ?_
    refine w_callV (as := [vI v]) (rest := []) (c_X5_get l G cy ad d 3 5 v Mz hIz (by first | decide | (unfold vF; omega) | (unfold vRw; omega))) kV_X5_get pnn_2 (Nat.le_of_ble_eq_true rfl) m_1154 rfl rfl rfl (ic_5 (by unfold vRw; omega)) rfl rfl (by decide) (Nat.le_of_ble_eq_true rfl) dX11_trace_28 (fun r7_ M8_ q9_ => ?_)
    obtain ⟨rfl, h10_, hs11_⟩ := q9_
    exact w_iret rfl dX11_trace_31 ⟨hIz, hFz, trivial, ⟨r1_, hs5_, h4_, (Or.inl ⟨h6_, r7_, hs11_, rfl, rfl⟩)⟩⟩
  · refine w_aload_n dX11_trace_14 rfl 0 rfl ?_
    refine w_iconst (v := 2) dX11_trace_15 (by decide) ?_
    refine w_callV (as := [vI 2]) (rest := []) (c_X11_error l G cy ad d 2 Mz hIz) kV_X11_error pnn_0 (Nat.le_of_ble_eq_true rfl) m_500 rfl rfl rfl ic_11 rfl rfl (by decide) (Nat.le_of_ble_eq_true rfl) dX11_trace_16 (fun r12_ M13_ q14_ => ?_)
    obtain ⟨hI16_, hF17_, h15_, hs19_⟩ := q14_
    have hF18_ := hFz.tr hF17_ (fun c k => (fun h => h.elim (fun h => (Or.inl ⟨h.1, h.2⟩)) (fun h => h.elim)))
    exact w_iret rfl dX11_trace_19 ⟨hI16_, hF18_, trivial, ⟨r1_, hs5_, h4_, (Or.inr ⟨h6_, M13_, hI16_, hF17_, r12_, hs19_, rfl, rfl⟩)⟩⟩
def S_c_X11_sheet : rf → Nat → Prop := fun c k => (c.1 = 6 ∧ c.2.1 = 0 ∧ k = 0) ∨ (c.1 = 6 ∧ c.2.1 = 0 ∧ k = 1) ∨ (c.1 = 34 ∧ c.2.1 = 0) ∨ (c.1 = 44 ∧ c.2.1 = 0) ∨ False
def SP_X11_sheet (v : Int32) (u : Int32) (t : Int32) (Mz : mM) (r_ : Int32) (M_ : mM) : Prop := (((SP_X11_isSheet v Mz (1 : Int32)) ∧ (0 ≤ v.toInt ∧ v.toInt ≤ 3) ∧ (((u.toInt = 0) ∧ (u.toInt = 0) ∧ ∃ j9_ : Nat, ((j9_ : Int) = v.toInt) ∧ (j9_ < 4) ∧ ∃ M12_ : mM, (Inv M12_) ∧ (FR (S_c_X6_drop j9_) Mz M12_) ∧ (SP_X6_drop j9_ Mz M12_) ∧ r_ = 1 ∧ M_ = M12_) ∨ ((¬ u.toInt = 0) ∧ (((u.toInt = 8) ∧ (¬ u.toInt = 0) ∧ (((0 ≤ t.toInt) ∧ (((t.toInt ≤ 24) ∧ ∃ j23_ : Nat, ((j23_ : Int) = v.toInt) ∧ (j23_ < 4) ∧ ∃ M26_ : mM, (Inv M26_) ∧ (FR (S_c_X6_begin j23_) Mz M26_) ∧ (SP_X6_begin j23_ u t Mz M26_) ∧ r_ = 1 ∧ M_ = M26_) ∨ ((24 < t.toInt) ∧ ∃ M34_ : mM, (Inv M34_) ∧ (FR (S_c_X11_error) Mz M34_) ∧ ∃ r33_ : Int32, (SP_X11_error 1 Mz r33_ M34_) ∧ r_ = r33_ ∧ M_ = M34_))) ∨ ((t.toInt < 0) ∧ ∃ M42_ : mM, (Inv M42_) ∧ (FR (S_c_X11_error) Mz M42_) ∧ ∃ r41_ : Int32, (SP_X11_error 3 Mz r41_ M42_) ∧ r_ = r41_ ∧ M_ = M42_))) ∨ ((¬ u.toInt = 8) ∧ (((u.toInt = 16) ∧ (¬ u.toInt = 0) ∧ (((0 ≤ t.toInt) ∧ (((t.toInt ≤ 24) ∧ ∃ j53_ : Nat, ((j53_ : Int) = v.toInt) ∧ (j53_ < 4) ∧ ∃ M56_ : mM, (Inv M56_) ∧ (FR (S_c_X6_begin j53_) Mz M56_) ∧ (SP_X6_begin j53_ u t Mz M56_) ∧ r_ = 1 ∧ M_ = M56_) ∨ ((24 < t.toInt) ∧ ∃ M64_ : mM, (Inv M64_) ∧ (FR (S_c_X11_error) Mz M64_) ∧ ∃ r63_ : Int32, (SP_X11_error 1 Mz r63_ M64_) ∧ r_ = r63_ ∧ M_ = M64_))) ∨ ((t.toInt < 0) ∧ ∃ M72_ : mM, (Inv M72_) ∧ (FR (S_c_X11_error) Mz M72_) ∧ ∃ r71_ : Int32, (SP_X11_error 3 Mz r71_ M72_) ∧ r_ = r71_ ∧ M_ = M72_))) ∨ ((¬ u.toInt = 16) ∧ (((u.toInt = 32) ∧ (¬ u.toInt = 0) ∧ (((0 ≤ t.toInt) ∧ (((t.toInt ≤ 24) ∧ ∃ j83_ : Nat, ((j83_ : Int) = v.toInt) ∧ (j83_ < 4) ∧ ∃ M86_ : mM, (Inv M86_) ∧ (FR (S_c_X6_begin j83_) Mz M86_) ∧ (SP_X6_begin j83_ u t Mz M86_) ∧ r_ = 1 ∧ M_ = M86_) ∨ ((24 < t.toInt) ∧ ∃ M94_ : mM, (Inv M94_) ∧ (FR (S_c_X11_error) Mz M94_) ∧ ∃ r93_ : Int32, (SP_X11_error 1 Mz r93_ M94_) ∧ r_ = r93_ ∧ M_ = M94_))) ∨ ((t.toInt < 0) ∧ ∃ M102_ : mM, (Inv M102_) ∧ (FR (S_c_X11_error) Mz M102_) ∧ ∃ r101_ : Int32, (SP_X11_error 3 Mz r101_ M102_) ∧ r_ = r101_ ∧ M_ = M102_))) ∨ ((¬ u.toInt = 32) ∧ ∃ M110_ : mM, (Inv M110_) ∧ (FR (S_c_X11_error) Mz M110_) ∧ ∃ r109_ : Int32, (SP_X11_error 1 Mz r109_ M110_) ∧ r_ = r109_ ∧ M_ = M110_))))))))) ∨ ((SP_X11_isSheet v Mz (0 : Int32)) ∧ (¬ (0 ≤ v.toInt ∧ v.toInt ≤ 3)) ∧ ∃ M119_ : mM, (Inv M119_) ∧ (FR (S_c_X11_error) Mz M119_) ∧ ∃ r118_ : Int32, (SP_X11_error 1 Mz r118_ M119_) ∧ r_ = r118_ ∧ M_ = M119_))
theorem lf_c_X11_sheet_2 (u : Int32) (h19_ : u.toInt = 8) (h9 : u.toInt = 0) : False := by omega
theorem lf_c_X11_sheet_4 (u : Int32) (h49_ : u.toInt = 16) (h9 : u.toInt = 0) : False := by omega
theorem lf_c_X11_sheet_6 (u : Int32) (h79_ : u.toInt = 32) (h9 : u.toInt = 0) : False := by omega
set_option maxHeartbeats 4000000 in
set_option maxRecDepth 100000 in
theorem c_X11_sheet (l : Launch) (G : va_G) (cy : Nat → ClassId) (ad : rf → Nat) (d : Nat) (v : Int32) (u : Int32) (t : Int32) (Mz : mM) (hIz : Inv Mz) : WP CC l G cy ad yX11_sheet cX11_sheet 4 (some .int) (d + 2) 0 [(0, vR (11, 0, 0)), (1, vI v), (2, vI u), (3, vI t)] [] Mz (fun r M' => Inv M' ∧ FR (S_c_X11_sheet) Mz M' ∧ (True) ∧ SP_X11_sheet v u t Mz r M') := by
  have hFz : FR (S_c_X11_sheet) Mz Mz := FR.self
  refine w_iload_n dX11_sheet_0 rfl 1 rfl ?_
  refine w_callS (as := [vI v]) (rest := []) (c_X11_isSheet l G cy ad d v Mz hIz) kS_X11_isSheet pnn_0 (Nat.le_of_ble_eq_true rfl) m_566 rfl rfl (by decide) (Nat.le_of_ble_eq_true rfl) dX11_sheet_1 (fun r1_ M2_ q3_ => ?_)
  obtain ⟨rfl, h4_, hs5_⟩ := q3_
  rcases h4_ with ⟨rfl, h4_⟩ | ⟨rfl, h4_⟩
  · refine w_if_eq (tgt := 29) dX11_sheet_4 (by decide) li_1 (fun h9 => (absurd h9 (by decide))) (fun h6_ => ?_)
    refine w_iload_n dX11_sheet_7 rfl 2 rfl ?_
    refine w_if_eq (tgt := 35) dX11_sheet_8 (by decide) (rfl : u.toInt = u.toInt) (fun h7_ => ?_) (fun h7_ => ?_)
    · refine w_iload_n dX11_sheet_35 rfl 2 rfl ?_
      refine w_if_ne (tgt := 50) dX11_sheet_36 (by decide) (rfl : u.toInt = u.toInt) (fun h9 => (lf_c_X2_changeAir_2 u h7_ h9 ).elim) (fun h8_ => ?_)
      refine w_aload_n dX11_sheet_39 rfl 0 rfl ?_
      refine w_getR (c' := (43, 0, 0)) fl_RX11_24 rfl rfl ic_11 dX11_sheet_40 rfl ?_
      refine w_iload_n dX11_sheet_43 rfl 1 rfl ?_
      refine w_aald rfl rfl rfl (fun _ => rfl) ic_43 (rfl : v.toInt = v.toInt) (lf_c_X11_lays_0 v h4_ ) dX11_sheet_44 (fun j9_ h10_ h11_ => ?_)
      refine w_callVv (as := []) (rest := []) (c_X6_drop l G cy ad (d + 1) j9_ Mz hIz h11_) kV_X6_drop pnn_4 (Nat.le_of_ble_eq_true rfl) m_1222 rfl rfl rfl (ic_6 h11_) rfl rfl (by decide) (Nat.le_of_ble_eq_true rfl) dX11_sheet_45 (fun M12_ q13_ => ?_)
      obtain ⟨hI15_, hF16_, h14_, hs18_⟩ := q13_
      have hF17_ := hFz.tr hF16_ (fun c k => (fun h => h.elim (fun h => (Or.inl ⟨h.1, h.2.1, h.2.2.2⟩)) (fun h => h.elim (fun h => (Or.inr (Or.inl ⟨h.1, h.2.1, h.2.2.2⟩))) (fun h => h.elim))))
      refine w_iconst (v := 1) dX11_sheet_48 (by decide) ?_
      exact w_iret rfl dX11_sheet_49 ⟨hI15_, hF17_, trivial, (Or.inl ⟨hs5_, h4_, (Or.inl ⟨h7_, h8_, j9_, h10_, h11_, M12_, hI15_, hF16_, hs18_, rfl, rfl⟩)⟩)⟩
    · refine w_iload_n dX11_sheet_11 rfl 2 rfl ?_
      refine w_bipush (v := 8) dX11_sheet_12 (by decide) ?_
      refine w_icmp_eq (tgt := 35) dX11_sheet_14 (by decide) (rfl : u.toInt = u.toInt) li_8 (fun h19_ => ?_) (fun h19_ => ?_)
      · refine w_iload_n dX11_sheet_35 rfl 2 rfl ?_
        refine w_if_ne (tgt := 50) dX11_sheet_36 (by decide) (rfl : u.toInt = u.toInt) (fun h20_ => ?_) (fun h9 => (lf_c_X11_sheet_2 u h19_ h9 ).elim)
        refine w_iload_n dX11_sheet_50 rfl 3 rfl ?_
        refine w_if_ge (tgt := 60) dX11_sheet_51 (by decide) (rfl : t.toInt = t.toInt) (fun h21_ => ?_) (fun h21_ => ?_)
        · refine w_iload_n dX11_sheet_60 rfl 3 rfl ?_
          refine w_bipush (v := 24) dX11_sheet_61 (by decide) ?_
          refine w_icmp_le (tgt := 72) dX11_sheet_63 (by decide) (rfl : t.toInt = t.toInt) li_24 (fun h22_ => ?_) (fun h22_ => ?_)
          · refine w_aload_n dX11_sheet_72 rfl 0 rfl ?_
            refine w_getR (c' := (43, 0, 0)) fl_RX11_24 rfl rfl ic_11 dX11_sheet_73 rfl ?_
            refine w_iload_n dX11_sheet_76 rfl 1 rfl ?_
            refine w_aald rfl rfl rfl (fun _ => rfl) ic_43 (rfl : v.toInt = v.toInt) (lf_c_X11_lays_0 v h4_ ) dX11_sheet_77 (fun j23_ h24_ h25_ => ?_)
            refine w_iload_n dX11_sheet_78 rfl 2 rfl ?_
            refine w_iload_n dX11_sheet_79 rfl 3 rfl ?_
            refine w_callVv (as := [vI u, vI t]) (rest := []) (c_X6_begin l G cy ad d j23_ u t Mz hIz h25_) kV_X6_begin pnn_4 (Nat.le_of_ble_eq_true rfl) m_1226 rfl rfl rfl (ic_6 h25_) rfl rfl (by decide) (Nat.le_of_ble_eq_true rfl) dX11_sheet_80 (fun M26_ q27_ => ?_)
            obtain ⟨hI29_, hF30_, h28_, hs32_⟩ := q27_
            have hF31_ := hFz.tr hF30_ (fun c k => (fun h => h.elim (fun h => (Or.inl ⟨h.1, h.2.1, h.2.2.2⟩)) (fun h => h.elim (fun h => (Or.inr (Or.inl ⟨h.1, h.2.1, h.2.2.2⟩))) (fun h => h.elim (fun h => (Or.inr (Or.inr (Or.inl ⟨h.1, h.2.1⟩)))) (fun h => h.elim)))))
            refine w_iconst (v := 1) dX11_sheet_83 (by decide) ?_
            exact w_iret rfl dX11_sheet_84 ⟨hI29_, hF31_, trivial, (Or.inl ⟨hs5_, h4_, (Or.inr ⟨h7_, (Or.inl ⟨h19_, h20_, (Or.inl ⟨h21_, (Or.inl ⟨h22_, j23_, h24_, h25_, M26_, hI29_, hF30_, hs32_, rfl, rfl⟩)⟩)⟩)⟩)⟩)⟩
          · refine w_aload_n dX11_sheet_66 rfl 0 rfl ?_
            refine w_iconst (v := 1) dX11_sheet_67 (by decide) ?_
            refine w_callV (as := [vI 1]) (rest := []) (c_X11_error l G cy ad (d + 1) 1 Mz hIz) kV_X11_error pnn_0 (Nat.le_of_ble_eq_true rfl) m_500 rfl rfl rfl ic_11 rfl rfl (by decide) (Nat.le_of_ble_eq_true rfl) dX11_sheet_68 (fun r33_ M34_ q35_ => ?_)
            obtain ⟨hI37_, hF38_, h36_, hs40_⟩ := q35_
            have hF39_ := hFz.tr hF38_ (fun c k => (fun h => h.elim (fun h => (Or.inr (Or.inr (Or.inr (Or.inl ⟨h.1, h.2⟩))))) (fun h => h.elim)))
            exact w_iret rfl dX11_sheet_71 ⟨hI37_, hF39_, trivial, (Or.inl ⟨hs5_, h4_, (Or.inr ⟨h7_, (Or.inl ⟨h19_, h20_, (Or.inl ⟨h21_, (Or.inr ⟨h22_, M34_, hI37_, hF38_, r33_, hs40_, rfl, rfl⟩)⟩)⟩)⟩)⟩)⟩
        · refine w_aload_n dX11_sheet_54 rfl 0 rfl ?_
          refine w_iconst (v := 3) dX11_sheet_55 (by decide) ?_
          refine w_callV (as := [vI 3]) (rest := []) (c_X11_error l G cy ad (d + 1) 3 Mz hIz) kV_X11_error pnn_0 (Nat.le_of_ble_eq_true rfl) m_500 rfl rfl rfl ic_11 rfl rfl (by decide) (Nat.le_of_ble_eq_true rfl) dX11_sheet_56 (fun r41_ M42_ q43_ => ?_)
          obtain ⟨hI45_, hF46_, h44_, hs48_⟩ := q43_
          have hF47_ := hFz.tr hF46_ (fun c k => (fun h => h.elim (fun h => (Or.inr (Or.inr (Or.inr (Or.inl ⟨h.1, h.2⟩))))) (fun h => h.elim)))
          exact w_iret rfl dX11_sheet_59 ⟨hI45_, hF47_, trivial, (Or.inl ⟨hs5_, h4_, (Or.inr ⟨h7_, (Or.inl ⟨h19_, h20_, (Or.inr ⟨h21_, M42_, hI45_, hF46_, r41_, hs48_, rfl, rfl⟩)⟩)⟩)⟩)⟩
      · refine w_iload_n dX11_sheet_17 rfl 2 rfl ?_
        refine w_bipush (v := 16) dX11_sheet_18 (by decide) ?_
        refine w_icmp_eq (tgt := 35) dX11_sheet_20 (by decide) (rfl : u.toInt = u.toInt) li_16 (fun h49_ => ?_) (fun h49_ => ?_)
        · refine w_iload_n dX11_sheet_35 rfl 2 rfl ?_
          refine w_if_ne (tgt := 50) dX11_sheet_36 (by decide) (rfl : u.toInt = u.toInt) (fun h50_ => ?_) (fun h9 => (lf_c_X11_sheet_4 u h49_ h9 ).elim)
          refine w_iload_n dX11_sheet_50 rfl 3 rfl ?_
          refine w_if_ge (tgt := 60) dX11_sheet_51 (by decide) (rfl : t.toInt = t.toInt) (fun h51_ => ?_) (fun h51_ => ?_)
          · refine w_iload_n dX11_sheet_60 rfl 3 rfl ?_
            refine w_bipush (v := 24) dX11_sheet_61 (by decide) ?_
            refine w_icmp_le (tgt := 72) dX11_sheet_63 (by decide) (rfl : t.toInt = t.toInt) li_24 (fun h52_ => ?_) (fun h52_ => ?_)
            · refine w_aload_n dX11_sheet_72 rfl 0 rfl ?_
              refine w_getR (c' := (43, 0, 0)) fl_RX11_24 rfl rfl ic_11 dX11_sheet_73 rfl ?_
              refine w_iload_n dX11_sheet_76 rfl 1 rfl ?_
              refine w_aald rfl rfl rfl (fun _ => rfl) ic_43 (rfl : v.toInt = v.toInt) (lf_c_X11_lays_0 v h4_ ) dX11_sheet_77 (fun j53_ h54_ h55_ => ?_)
              refine w_iload_n dX11_sheet_78 rfl 2 rfl ?_
              refine w_iload_n dX11_sheet_79 rfl 3 rfl ?_
              refine w_callVv (as := [vI u, vI t]) (rest := []) (c_X6_begin l G cy ad d j53_ u t Mz hIz h55_) kV_X6_begin pnn_4 (Nat.le_of_ble_eq_true rfl) m_1226 rfl rfl rfl (ic_6 h55_) rfl rfl (by decide) (Nat.le_of_ble_eq_true rfl) dX11_sheet_80 (fun M56_ q57_ => ?_)
              obtain ⟨hI59_, hF60_, h58_, hs62_⟩ := q57_
              have hF61_ := hFz.tr hF60_ (fun c k => (fun h => h.elim (fun h => (Or.inl ⟨h.1, h.2.1, h.2.2.2⟩)) (fun h => h.elim (fun h => (Or.inr (Or.inl ⟨h.1, h.2.1, h.2.2.2⟩))) (fun h => h.elim (fun h => (Or.inr (Or.inr (Or.inl ⟨h.1, h.2.1⟩)))) (fun h => h.elim)))))
              refine w_iconst (v := 1) dX11_sheet_83 (by decide) ?_
              exact w_iret rfl dX11_sheet_84 ⟨hI59_, hF61_, trivial, (Or.inl ⟨hs5_, h4_, (Or.inr ⟨h7_, (Or.inr ⟨h19_, (Or.inl ⟨h49_, h50_, (Or.inl ⟨h51_, (Or.inl ⟨h52_, j53_, h54_, h55_, M56_, hI59_, hF60_, hs62_, rfl, rfl⟩)⟩)⟩)⟩)⟩)⟩)⟩
            · refine w_aload_n dX11_sheet_66 rfl 0 rfl ?_
              refine w_iconst (v := 1) dX11_sheet_67 (by decide) ?_
              refine w_callV (as := [vI 1]) (rest := []) (c_X11_error l G cy ad (d + 1) 1 Mz hIz) kV_X11_error pnn_0 (Nat.le_of_ble_eq_true rfl) m_500 rfl rfl rfl ic_11 rfl rfl (by decide) (Nat.le_of_ble_eq_true rfl) dX11_sheet_68 (fun r63_ M64_ q65_ => ?_)
              obtain ⟨hI67_, hF68_, h66_, hs70_⟩ := q65_
              have hF69_ := hFz.tr hF68_ (fun c k => (fun h => h.elim (fun h => (Or.inr (Or.inr (Or.inr (Or.inl ⟨h.1, h.2⟩))))) (fun h => h.elim)))
              exact w_iret rfl dX11_sheet_71 ⟨hI67_, hF69_, trivial, (Or.inl ⟨hs5_, h4_, (Or.inr ⟨h7_, (Or.inr ⟨h19_, (Or.inl ⟨h49_, h50_, (Or.inl ⟨h51_, (Or.inr ⟨h52_, M64_, hI67_, hF68_, r63_, hs70_, rfl, rfl⟩)⟩)⟩)⟩)⟩)⟩)⟩
          · refine w_aload_n dX11_sheet_54 rfl 0 rfl ?_
            refine w_iconst (v := 3) dX11_sheet_55 (by decide) ?_
            refine w_callV (as := [vI 3]) (rest := []) (c_X11_error l G cy ad (d + 1) 3 Mz hIz) kV_X11_error pnn_0 (Nat.le_of_ble_eq_true rfl) m_500 rfl rfl rfl ic_11 rfl rfl (by decide) (Nat.le_of_ble_eq_true rfl) dX11_sheet_56 (fun r71_ M72_ q73_ => ?_)
            obtain ⟨hI75_, hF76_, h74_, hs78_⟩ := q73_
            have hF77_ := hFz.tr hF76_ (fun c k => (fun h => h.elim (fun h => (Or.inr (Or.inr (Or.inr (Or.inl ⟨h.1, h.2⟩))))) (fun h => h.elim)))
            exact w_iret rfl dX11_sheet_59 ⟨hI75_, hF77_, trivial, (Or.inl ⟨hs5_, h4_, (Or.inr ⟨h7_, (Or.inr ⟨h19_, (Or.inl ⟨h49_, h50_, (Or.inr ⟨h51_, M72_, hI75_, hF76_, r71_, hs78_, rfl, rfl⟩)⟩)⟩)⟩)⟩)⟩
        · refine w_iload_n dX11_sheet_23 rfl 2 rfl ?_
          refine w_bipush (v := 32) dX11_sheet_24 (by decide) ?_
          refine w_icmp_eq (tgt := 35) dX11_sheet_26 (by decide) (rfl : u.toInt = u.toInt) li_32 (fun h79_ => ?_) (fun h79_ => ?_)
          · refine w_iload_n dX11_sheet_35 rfl 2 rfl ?_
            refine w_if_ne (tgt := 50) dX11_sheet_36 (by decide) (rfl : u.toInt = u.toInt) (fun h80_ => ?_) (fun h9 => (lf_c_X11_sheet_6 u h79_ h9 ).elim)
            refine w_iload_n dX11_sheet_50 rfl 3 rfl ?_
            refine w_if_ge (tgt := 60) dX11_sheet_51 (by decide) (rfl : t.toInt = t.toInt) (fun h81_ => ?_) (fun h81_ => ?_)
            · refine w_iload_n dX11_sheet_60 rfl 3 rfl ?_
              refine w_bipush (v := 24) dX11_sheet_61 (by decide) ?_
              refine w_icmp_le (tgt := 72) dX11_sheet_63 (by decide) (rfl : t.toInt = t.toInt) li_24 (fun h82_ => ?_) (fun h82_ => ?_)
              · refine w_aload_n dX11_sheet_72 rfl 0 rfl ?_
                refine w_getR (c' := (43, 0, 0)) fl_RX11_24 rfl rfl ic_11 dX11_sheet_73 rfl ?_
                refine w_iload_n dX11_sheet_76 rfl 1 rfl ?_
                refine w_aald rfl rfl rfl (fun _ => rfl) ic_43 (rfl : v.toInt = v.toInt) (lf_c_X11_lays_0 v h4_ ) dX11_sheet_77 (fun j83_ h84_ h85_ => ?_)
                refine w_iload_n dX11_sheet_78 rfl 2 rfl ?_
                refine w_iload_n dX11_sheet_79 rfl 3 rfl ?_
                refine w_callVv (as := [vI u, vI t]) (rest := []) (c_X6_begin l G cy ad d j83_ u t Mz hIz h85_) kV_X6_begin pnn_4 (Nat.le_of_ble_eq_true rfl) m_1226 rfl rfl rfl (ic_6 h85_) rfl rfl (by decide) (Nat.le_of_ble_eq_true rfl) dX11_sheet_80 (fun M86_ q87_ => ?_)
                obtain ⟨hI89_, hF90_, h88_, hs92_⟩ := q87_
                have hF91_ := hFz.tr hF90_ (fun c k => (fun h => h.elim (fun h => (Or.inl ⟨h.1, h.2.1, h.2.2.2⟩)) (fun h => h.elim (fun h => (Or.inr (Or.inl ⟨h.1, h.2.1, h.2.2.2⟩))) (fun h => h.elim (fun h => (Or.inr (Or.inr (Or.inl ⟨h.1, h.2.1⟩)))) (fun h => h.elim)))))
                refine w_iconst (v := 1) dX11_sheet_83 (by decide) ?_
                exact w_iret rfl dX11_sheet_84 ⟨hI89_, hF91_, trivial, (Or.inl ⟨hs5_, h4_, (Or.inr ⟨h7_, (Or.inr ⟨h19_, (Or.inr ⟨h49_, (Or.inl ⟨h79_, h80_, (Or.inl ⟨h81_, (Or.inl ⟨h82_, j83_, h84_, h85_, M86_, hI89_, hF90_, hs92_, rfl, rfl⟩)⟩)⟩)⟩)⟩)⟩)⟩)⟩
              · refine w_aload_n dX11_sheet_66 rfl 0 rfl ?_
                refine w_iconst (v := 1) dX11_sheet_67 (by decide) ?_
                refine w_callV (as := [vI 1]) (rest := []) (c_X11_error l G cy ad (d + 1) 1 Mz hIz) kV_X11_error pnn_0 (Nat.le_of_ble_eq_true rfl) m_500 rfl rfl rfl ic_11 rfl rfl (by decide) (Nat.le_of_ble_eq_true rfl) dX11_sheet_68 (fun r93_ M94_ q95_ => ?_)
                obtain ⟨hI97_, hF98_, h96_, hs100_⟩ := q95_
                have hF99_ := hFz.tr hF98_ (fun c k => (fun h => h.elim (fun h => (Or.inr (Or.inr (Or.inr (Or.inl ⟨h.1, h.2⟩))))) (fun h => h.elim)))
                exact w_iret rfl dX11_sheet_71 ⟨hI97_, hF99_, trivial, (Or.inl ⟨hs5_, h4_, (Or.inr ⟨h7_, (Or.inr ⟨h19_, (Or.inr ⟨h49_, (Or.inl ⟨h79_, h80_, (Or.inl ⟨h81_, (Or.inr ⟨h82_, M94_, hI97_, hF98_, r93_, hs100_, rfl, rfl⟩)⟩)⟩)⟩)⟩)⟩)⟩)⟩
            · refine w_aload_n dX11_sheet_54 rfl 0 rfl ?_
              refine w_iconst (v := 3) dX11_sheet_55 (by decide) ?_
              refine w_callV (as := [vI 3]) (rest := []) (c_X11_error l G cy ad (d + 1) 3 Mz hIz) kV_X11_error pnn_0 (Nat.le_of_ble_eq_true rfl) m_500 rfl rfl rfl ic_11 rfl rfl (by decide) (Nat.le_of_ble_eq_true rfl) dX11_sheet_56 (fun r101_ M102_ q103_ => ?_)
              obtain ⟨hI105_, hF106_, h104_, hs108_⟩ := q103_
              have hF107_ := hFz.tr hF106_ (fun c k => (fun h => h.elim (fun h => (Or.inr (Or.inr (Or.inr (Or.inl ⟨h.1, h.2⟩))))) (fun h => h.elim)))
              exact w_iret rfl dX11_sheet_59 ⟨hI105_, hF107_, trivial, (Or.inl ⟨hs5_, h4_, (Or.inr ⟨h7_, (Or.inr ⟨h19_, (Or.inr ⟨h49_, (Or.inl ⟨h79_, h80_, (Or.inr ⟨h81_, M102_, hI105_, hF106_, r101_, hs108_, rfl, rfl⟩)⟩)⟩)⟩)⟩)⟩)⟩
          · refine w_aload_n dX11_sheet_29 rfl 0 rfl ?_
            refine w_iconst (v := 1) dX11_sheet_30 (by decide) ?_
            refine w_callV (as := [vI 1]) (rest := []) (c_X11_error l G cy ad (d + 1) 1 Mz hIz) kV_X11_error pnn_0 (Nat.le_of_ble_eq_true rfl) m_500 rfl rfl rfl ic_11 rfl rfl (by decide) (Nat.le_of_ble_eq_true rfl) dX11_sheet_31 (fun r109_ M110_ q111_ => ?_)
            obtain ⟨hI113_, hF114_, h112_, hs116_⟩ := q111_
            have hF115_ := hFz.tr hF114_ (fun c k => (fun h => h.elim (fun h => (Or.inr (Or.inr (Or.inr (Or.inl ⟨h.1, h.2⟩))))) (fun h => h.elim)))
            exact w_iret rfl dX11_sheet_34 ⟨hI113_, hF115_, trivial, (Or.inl ⟨hs5_, h4_, (Or.inr ⟨h7_, (Or.inr ⟨h19_, (Or.inr ⟨h49_, (Or.inr ⟨h79_, M110_, hI113_, hF114_, r109_, hs116_, rfl, rfl⟩)⟩)⟩)⟩)⟩)⟩
  · refine w_if_eq (tgt := 29) dX11_sheet_4 (by decide) li_0 (fun h117_ => ?_) (fun h9 => (absurd h9 (by decide)))
    refine w_aload_n dX11_sheet_29 rfl 0 rfl ?_
    refine w_iconst (v := 1) dX11_sheet_30 (by decide) ?_
    refine w_callV (as := [vI 1]) (rest := []) (c_X11_error l G cy ad (d + 1) 1 Mz hIz) kV_X11_error pnn_0 (Nat.le_of_ble_eq_true rfl) m_500 rfl rfl rfl ic_11 rfl rfl (by decide) (Nat.le_of_ble_eq_true rfl) dX11_sheet_31 (fun r118_ M119_ q120_ => ?_)
    obtain ⟨hI122_, hF123_, h121_, hs125_⟩ := q120_
    have hF124_ := hFz.tr hF123_ (fun c k => (fun h => h.elim (fun h => (Or.inr (Or.inr (Or.inr (Or.inl ⟨h.1, h.2⟩))))) (fun h => h.elim)))
    exact w_iret rfl dX11_sheet_34 ⟨hI122_, hF124_, trivial, (Or.inr ⟨hs5_, h4_, M119_, hI122_, hF123_, r118_, hs125_, rfl, rfl⟩)⟩
def S_c_X11_put : rf → Nat → Prop := fun c k => (c.1 = 34 ∧ c.2.1 = 0) ∨ (c.1 = 44 ∧ c.2.1 = 0) ∨ False
def SP_X11_put (v : Int32) (u : Int32) (t : Int32) (Mz : mM) (r_ : Int32) (M_ : mM) : Prop := (((SP_X11_isSheet v Mz (1 : Int32)) ∧ (0 ≤ v.toInt ∧ v.toInt ≤ 3) ∧ ∃ j7_ : Nat, ((j7_ : Int) = v.toInt) ∧ (j7_ < 4) ∧ ∃ r10_ : Int32, (SP_X6_isMissing j7_ Mz r10_) ∧ ((0 ≤ r10_.toInt ∧ r10_.toInt ≤ 1)) ∧ (((r10_.toInt = 0) ∧ ∃ j16_ : Nat, ((j16_ : Int) = v.toInt) ∧ (j16_ < 4) ∧ (((SP_X6_has j16_ u Mz (1 : Int32)) ∧ (0 ≤ u.toInt ∧ u.toInt ≤ 23) ∧ ∃ j25_ : Nat, ((j25_ : Int) = v.toInt) ∧ (j25_ < 4) ∧ ∃ M28_ : mM, (Inv M28_) ∧ (FR (S_c_X6_store j25_) Mz M28_) ∧ (SP_X6_store j25_ u t Mz M28_) ∧ r_ = 1 ∧ M_ = M28_) ∨ ((SP_X6_has j16_ u Mz (0 : Int32)) ∧ ∃ M37_ : mM, (Inv M37_) ∧ (FR (S_c_X11_error) Mz M37_) ∧ ∃ r36_ : Int32, (SP_X11_error 1 Mz r36_ M37_) ∧ r_ = r36_ ∧ M_ = M37_))) ∨ ((¬ r10_.toInt = 0) ∧ ∃ M45_ : mM, (Inv M45_) ∧ (FR (S_c_X11_error) Mz M45_) ∧ ∃ r44_ : Int32, (SP_X11_error 2 Mz r44_ M45_) ∧ r_ = r44_ ∧ M_ = M45_))) ∨ ((SP_X11_isSheet v Mz (0 : Int32)) ∧ (¬ (0 ≤ v.toInt ∧ v.toInt ≤ 3)) ∧ ∃ M54_ : mM, (Inv M54_) ∧ (FR (S_c_X11_error) Mz M54_) ∧ ∃ r53_ : Int32, (SP_X11_error 1 Mz r53_ M54_) ∧ r_ = r53_ ∧ M_ = M54_))
set_option maxHeartbeats 4000000 in
set_option maxRecDepth 100000 in
theorem c_X11_put (l : Launch) (G : va_G) (cy : Nat → ClassId) (ad : rf → Nat) (d : Nat) (v : Int32) (u : Int32) (t : Int32) (Mz : mM) (hIz : Inv Mz) : WP CC l G cy ad yX11_put cX11_put 4 (some .int) (d + 2) 0 [(0, vR (11, 0, 0)), (1, vI v), (2, vI u), (3, vI t)] [] Mz (fun r M' => Inv M' ∧ FR (S_c_X11_put) Mz M' ∧ (True) ∧ SP_X11_put v u t Mz r M') := by
  have hFz : FR (S_c_X11_put) Mz Mz := FR.self
  refine w_iload_n dX11_put_0 rfl 1 rfl ?_
  refine w_callS (as := [vI v]) (rest := []) (c_X11_isSheet l G cy ad d v Mz hIz) kS_X11_isSheet pnn_0 (Nat.le_of_ble_eq_true rfl) m_566 rfl rfl (by decide) (Nat.le_of_ble_eq_true rfl) dX11_put_1 (fun r1_ M2_ q3_ => ?_)
  obtain ⟨rfl, h4_, hs5_⟩ := q3_
  rcases h4_ with ⟨rfl, h4_⟩ | ⟨rfl, h4_⟩
  · refine w_if_ne (tgt := 13) dX11_put_4 (by decide) li_1 (fun h6_ => ?_) (fun h9 => (absurd h9 (by decide)))
    refine w_aload_n dX11_put_13 rfl 0 rfl ?_
    refine w_getR (c' := (43, 0, 0)) fl_RX11_24 rfl rfl ic_11 dX11_put_14 rfl ?_
    refine w_iload_n dX11_put_17 rfl 1 rfl ?_
    refine w_aald rfl rfl rfl (fun _ => rfl) ic_43 (rfl : v.toInt = v.toInt) (lf_c_X11_lays_0 v h4_ ) dX11_put_18 (fun j7_ h8_ h9_ => ?_)
    refine w_callV (as := []) (rest := []) (c_X6_isMissing l G cy ad (d + 1) j7_ Mz hIz h9_) kV_X6_isMissing pnn_4 (Nat.le_of_ble_eq_true rfl) m_569 rfl rfl rfl (ic_6 h9_) rfl rfl (by decide) (Nat.le_of_ble_eq_true rfl) dX11_put_19 (fun r10_ M11_ q12_ => ?_)
    obtain ⟨rfl, h13_, hs14_⟩ := q12_
    refine w_if_eq (tgt := 31) dX11_put_22 (by decide) (rfl : r10_.toInt = r10_.toInt) (fun h15_ => ?_) (fun h15_ => ?_)
    · refine w_aload_n dX11_put_31 rfl 0 rfl ?_
      refine w_getR (c' := (43, 0, 0)) fl_RX11_24 rfl rfl ic_11 dX11_put_32 rfl ?_
      refine w_iload_n dX11_put_35 rfl 1 rfl ?_
      refine w_aald rfl rfl rfl (fun _ => rfl) ic_43 (rfl : v.toInt = v.toInt) (lf_c_X11_lays_0 v h4_ ) dX11_put_36 (fun j16_ h17_ h18_ => ?_)
      refine w_iload_n dX11_put_37 rfl 2 rfl ?_
      refine w_callV (as := [vI u]) (rest := []) (c_X6_has l G cy ad (d + 1) j16_ u Mz hIz h18_) kV_X6_has pnn_4 (Nat.le_of_ble_eq_true rfl) m_1236 rfl rfl rfl (ic_6 h18_) rfl rfl (by decide) (Nat.le_of_ble_eq_true rfl) dX11_put_38 (fun r19_ M20_ q21_ => ?_)
      obtain ⟨rfl, h22_, hs23_⟩ := q21_
      rcases h22_ with ⟨rfl, h22_⟩ | rfl
      · refine w_if_ne (tgt := 50) dX11_put_41 (by decide) li_1 (fun h24_ => ?_) (fun h9 => (absurd h9 (by decide)))
        refine w_aload_n dX11_put_50 rfl 0 rfl ?_
        refine w_getR (c' := (43, 0, 0)) fl_RX11_24 rfl rfl ic_11 dX11_put_51 rfl ?_
        refine w_iload_n dX11_put_54 rfl 1 rfl ?_
        refine w_aald rfl rfl rfl (fun _ => rfl) ic_43 (rfl : v.toInt = v.toInt) (lf_c_X11_lays_0 v h4_ ) dX11_put_55 (fun j25_ h26_ h27_ => ?_)
        refine w_iload_n dX11_put_56 rfl 2 rfl ?_
        refine w_iload_n dX11_put_57 rfl 3 rfl ?_
        refine w_callVv (as := [vI u, vI t]) (rest := []) (c_X6_store l G cy ad d j25_ u t Mz hIz h27_) kV_X6_store pnn_4 (Nat.le_of_ble_eq_true rfl) m_1237 rfl rfl rfl (ic_6 h27_) rfl rfl (by decide) (Nat.le_of_ble_eq_true rfl) dX11_put_58 (fun M28_ q29_ => ?_)
        obtain ⟨hI31_, hF32_, h30_, hs34_⟩ := q29_
        have hF33_ := hFz.tr hF32_ (fun c k => (fun h => h.elim (fun h => (Or.inl ⟨h.1, h.2.1⟩)) (fun h => h.elim)))
        refine w_iconst (v := 1) dX11_put_61 (by decide) ?_
        exact w_iret rfl dX11_put_62 ⟨hI31_, hF33_, trivial, (Or.inl ⟨hs5_, h4_, j7_, h8_, h9_, r10_, hs14_, h13_, (Or.inl ⟨h15_, j16_, h17_, h18_, (Or.inl ⟨hs23_, h22_, j25_, h26_, h27_, M28_, hI31_, hF32_, hs34_, rfl, rfl⟩)⟩)⟩)⟩
      · refine w_if_ne (tgt := 50) dX11_put_41 (by decide) li_0 (fun h9 => (absurd h9 (by decide))) (fun h35_ => ?_)
        refine w_aload_n dX11_put_44 rfl 0 rfl ?_
        refine w_iconst (v := 1) dX11_put_45 (by decide) ?_
        refine w_callV (as := [vI 1]) (rest := []) (c_X11_error l G cy ad (d + 1) 1 Mz hIz) kV_X11_error pnn_0 (Nat.le_of_ble_eq_true rfl) m_500 rfl rfl rfl ic_11 rfl rfl (by decide) (Nat.le_of_ble_eq_true rfl) dX11_put_46 (fun r36_ M37_ q38_ => ?_)
        obtain ⟨hI40_, hF41_, h39_, hs43_⟩ := q38_
        have hF42_ := hFz.tr hF41_ (fun c k => (fun h => h.elim (fun h => (Or.inr (Or.inl ⟨h.1, h.2⟩))) (fun h => h.elim)))
        exact w_iret rfl dX11_put_49 ⟨hI40_, hF42_, trivial, (Or.inl ⟨hs5_, h4_, j7_, h8_, h9_, r10_, hs14_, h13_, (Or.inl ⟨h15_, j16_, h17_, h18_, (Or.inr ⟨hs23_, M37_, hI40_, hF41_, r36_, hs43_, rfl, rfl⟩)⟩)⟩)⟩
    · refine w_aload_n dX11_put_25 rfl 0 rfl ?_
      refine w_iconst (v := 2) dX11_put_26 (by decide) ?_
      refine w_callV (as := [vI 2]) (rest := []) (c_X11_error l G cy ad (d + 1) 2 Mz hIz) kV_X11_error pnn_0 (Nat.le_of_ble_eq_true rfl) m_500 rfl rfl rfl ic_11 rfl rfl (by decide) (Nat.le_of_ble_eq_true rfl) dX11_put_27 (fun r44_ M45_ q46_ => ?_)
      obtain ⟨hI48_, hF49_, h47_, hs51_⟩ := q46_
      have hF50_ := hFz.tr hF49_ (fun c k => (fun h => h.elim (fun h => (Or.inr (Or.inl ⟨h.1, h.2⟩))) (fun h => h.elim)))
      exact w_iret rfl dX11_put_30 ⟨hI48_, hF50_, trivial, (Or.inl ⟨hs5_, h4_, j7_, h8_, h9_, r10_, hs14_, h13_, (Or.inr ⟨h15_, M45_, hI48_, hF49_, r44_, hs51_, rfl, rfl⟩)⟩)⟩
  · refine w_if_ne (tgt := 13) dX11_put_4 (by decide) li_0 (fun h9 => (absurd h9 (by decide))) (fun h52_ => ?_)
    refine w_aload_n dX11_put_7 rfl 0 rfl ?_
    refine w_iconst (v := 1) dX11_put_8 (by decide) ?_
    refine w_callV (as := [vI 1]) (rest := []) (c_X11_error l G cy ad (d + 1) 1 Mz hIz) kV_X11_error pnn_0 (Nat.le_of_ble_eq_true rfl) m_500 rfl rfl rfl ic_11 rfl rfl (by decide) (Nat.le_of_ble_eq_true rfl) dX11_put_9 (fun r53_ M54_ q55_ => ?_)
    obtain ⟨hI57_, hF58_, h56_, hs60_⟩ := q55_
    have hF59_ := hFz.tr hF58_ (fun c k => (fun h => h.elim (fun h => (Or.inr (Or.inl ⟨h.1, h.2⟩))) (fun h => h.elim)))
    exact w_iret rfl dX11_put_12 ⟨hI57_, hF59_, trivial, (Or.inr ⟨hs5_, h4_, M54_, hI57_, hF58_, r53_, hs60_, rfl, rfl⟩)⟩
def S_c_X11_move : rf → Nat → Prop := fun c k => (c.1 = 44 ∧ c.2.1 = 0) ∨ (c.1 = 34 ∧ c.2.1 = 0) ∨ False
def SP_X11_move (v : Int32) (u : Int32) (t : Int32) (s : Int32) (q : Int32) (Mz : mM) (r_ : Int32) (M_ : mM) : Prop := (((SP_X11_isSheet v Mz (1 : Int32)) ∧ (0 ≤ v.toInt ∧ v.toInt ≤ 3) ∧ (((SP_X11_isSheet t Mz (1 : Int32)) ∧ (0 ≤ t.toInt ∧ t.toInt ≤ 3) ∧ ∃ j13_ : Nat, ((j13_ : Int) = v.toInt) ∧ (j13_ < 4) ∧ ∃ j16_ : Nat, ((j16_ : Int) = t.toInt) ∧ (j16_ < 4) ∧ ∃ r19_ : Int32, (SP_X6_isMissing j13_ Mz r19_) ∧ ((0 ≤ r19_.toInt ∧ r19_.toInt ≤ 1)) ∧ (((¬ r19_.toInt = 0) ∧ ∃ M26_ : mM, (Inv M26_) ∧ (FR (S_c_X11_error) Mz M26_) ∧ ∃ r25_ : Int32, (SP_X11_error 2 Mz r25_ M26_) ∧ r_ = r25_ ∧ M_ = M26_) ∨ ((r19_.toInt = 0) ∧ ∃ r33_ : Int32, (SP_X6_isMissing j16_ Mz r33_) ∧ ((0 ≤ r33_.toInt ∧ r33_.toInt ≤ 1)) ∧ (((r33_.toInt = 0) ∧ ∃ z39_ : Int32, (z39_ = Mz.1 (6, 0, j13_) 0) ∧ ∃ z41_ : Int32, (z41_ = Mz.1 (6, 0, j16_) 0) ∧ (((z39_.toInt = z41_.toInt) ∧ (((SP_X6_hasRun j13_ u q Mz (1 : Int32)) ∧ (0 ≤ u.toInt ∧ 0 ≤ q.toInt ∧ u.toInt + q.toInt ≤ 24) ∧ (((SP_X6_hasRun j16_ s q Mz (1 : Int32)) ∧ (0 ≤ s.toInt ∧ 0 ≤ q.toInt ∧ s.toInt + q.toInt ≤ 24) ∧ ∃ M56_ : mM, (M56_ = cp Mz (34, 0, j13_) (34, 0, j16_) (u : Int32).toNatClampNeg (s : Int32).toNatClampNeg (q : Int32).toNatClampNeg) ∧ r_ = q ∧ M_ = M56_) ∨ ((SP_X6_hasRun j16_ s q Mz (0 : Int32)) ∧ ∃ M62_ : mM, (Inv M62_) ∧ (FR (S_c_X11_error) Mz M62_) ∧ ∃ r61_ : Int32, (SP_X11_error 1 Mz r61_ M62_) ∧ r_ = r61_ ∧ M_ = M62_))) ∨ ((SP_X6_hasRun j13_ u q Mz (0 : Int32)) ∧ ∃ M71_ : mM, (Inv M71_) ∧ (FR (S_c_X11_error) Mz M71_) ∧ ∃ r70_ : Int32, (SP_X11_error 1 Mz r70_ M71_) ∧ r_ = r70_ ∧ M_ = M71_))) ∨ ((¬ z39_.toInt = z41_.toInt) ∧ ∃ M79_ : mM, (Inv M79_) ∧ (FR (S_c_X11_error) Mz M79_) ∧ ∃ r78_ : Int32, (SP_X11_error 5 Mz r78_ M79_) ∧ r_ = r78_ ∧ M_ = M79_))) ∨ ((¬ r33_.toInt = 0) ∧ ∃ M87_ : mM, (Inv M87_) ∧ (FR (S_c_X11_error) Mz M87_) ∧ ∃ r86_ : Int32, (SP_X11_error 2 Mz r86_ M87_) ∧ r_ = r86_ ∧ M_ = M87_))))) ∨ ((SP_X11_isSheet t Mz (0 : Int32)) ∧ (¬ (0 ≤ t.toInt ∧ t.toInt ≤ 3)) ∧ ∃ M96_ : mM, (Inv M96_) ∧ (FR (S_c_X11_error) Mz M96_) ∧ ∃ r95_ : Int32, (SP_X11_error 1 Mz r95_ M96_) ∧ r_ = r95_ ∧ M_ = M96_))) ∨ ((SP_X11_isSheet v Mz (0 : Int32)) ∧ (¬ (0 ≤ v.toInt ∧ v.toInt ≤ 3)) ∧ ∃ M105_ : mM, (Inv M105_) ∧ (FR (S_c_X11_error) Mz M105_) ∧ ∃ r104_ : Int32, (SP_X11_error 1 Mz r104_ M105_) ∧ r_ = r104_ ∧ M_ = M105_))
theorem lf_c_X11_move_2 (u : Int32) (s : Int32) (q : Int32) (h47_ : 0 ≤ u.toInt ∧ 0 ≤ q.toInt ∧ u.toInt + q.toInt ≤ 24) (h53_ : 0 ≤ s.toInt ∧ 0 ≤ q.toInt ∧ s.toInt + q.toInt ≤ 24) : 0 ≤ u.toInt ∧ 0 ≤ s.toInt ∧ 0 ≤ q.toInt ∧ u.toInt + q.toInt ≤ ((24 : Nat) : Int) ∧ s.toInt + q.toInt ≤ ((24 : Nat) : Int) := by omega
set_option maxHeartbeats 4000000 in
set_option maxRecDepth 100000 in
theorem c_X11_move (l : Launch) (G : va_G) (cy : Nat → ClassId) (ad : rf → Nat) (d : Nat) (v : Int32) (u : Int32) (t : Int32) (s : Int32) (q : Int32) (Mz : mM) (hIz : Inv Mz) : WP CC l G cy ad yX11_move cX11_move 8 (some .int) (d + 2) 0 [(0, vR (11, 0, 0)), (1, vI v), (2, vI u), (3, vI t), (4, vI s), (5, vI q)] [] Mz (fun r M' => Inv M' ∧ FR (S_c_X11_move) Mz M' ∧ (True) ∧ SP_X11_move v u t s q Mz r M') := by
  have hFz : FR (S_c_X11_move) Mz Mz := FR.self
  refine w_iload_n dX11_move_0 rfl 1 rfl ?_
  refine w_callS (as := [vI v]) (rest := []) (c_X11_isSheet l G cy ad d v Mz hIz) kS_X11_isSheet pnn_0 (Nat.le_of_ble_eq_true rfl) m_566 rfl rfl (by decide) (Nat.le_of_ble_eq_true rfl) dX11_move_1 (fun r1_ M2_ q3_ => ?_)
  obtain ⟨rfl, h4_, hs5_⟩ := q3_
  rcases h4_ with ⟨rfl, h4_⟩ | ⟨rfl, h4_⟩
  · refine w_if_eq (tgt := 14) dX11_move_4 (by decide) li_1 (fun h9 => (absurd h9 (by decide))) (fun h6_ => ?_)
    refine w_iload_n dX11_move_7 rfl 3 rfl ?_
    refine w_callS (as := [vI t]) (rest := []) (c_X11_isSheet l G cy ad d t Mz hIz) kS_X11_isSheet pnn_0 (Nat.le_of_ble_eq_true rfl) m_566 rfl rfl (by decide) (Nat.le_of_ble_eq_true rfl) dX11_move_8 (fun r7_ M8_ q9_ => ?_)
    obtain ⟨rfl, h10_, hs11_⟩ := q9_
    rcases h10_ with ⟨rfl, h10_⟩ | ⟨rfl, h10_⟩
    · refine w_if_ne (tgt := 20) dX11_move_11 (by decide) li_1 (fun h12_ => ?_) (fun h9 => (absurd h9 (by decide)))
      refine w_aload_n dX11_move_20 rfl 0 rfl ?_
      refine w_getR (c' := (43, 0, 0)) fl_RX11_24 rfl rfl ic_11 dX11_move_21 rfl ?_
      refine w_iload_n dX11_move_24 rfl 1 rfl ?_
      refine w_aald rfl rfl rfl (fun _ => rfl) ic_43 (rfl : v.toInt = v.toInt) (lf_c_X11_lays_0 v h4_ ) dX11_move_25 (fun j13_ h14_ h15_ => ?_)
      refine w_astore (ls' := [(6, vR (6, 0, j13_)), (0, vR (11, 0, 0)), (1, vI v), (2, vI u), (3, vI t), (4, vI s), (5, vI q)]) dX11_move_26 (by decide) rfl ?_
      refine w_aload_n dX11_move_28 rfl 1 rfl ?_
      refine w_getR (c' := (43, 0, 0)) fl_RX11_24 rfl rfl ic_11 dX11_move_29 rfl ?_
      refine w_iload_n dX11_move_32 rfl 4 rfl ?_
      refine w_aald rfl rfl rfl (fun _ => rfl) ic_43 (rfl : t.toInt = t.toInt) (lf_c_X11_lays_0 t h10_ ) dX11_move_33 (fun j16_ h17_ h18_ => ?_)
      refine w_astore (ls' := [(7, vR (6, 0, j16_)), (6, vR (6, 0, j13_)), (0, vR (11, 0, 0)), (1, vI v), (2, vI u), (3, vI t), (4, vI s), (5, vI q)]) dX11_move_34 (by decide) rfl ?_
      refine w_aload dX11_move_36 1 rfl ?_
      refine w_callV (as := []) (rest := []) (c_X6_isMissing l G cy ad (d + 1) j13_ Mz hIz h15_) kV_X6_isMissing pnn_4 (Nat.le_of_ble_eq_true rfl) m_569 rfl rfl rfl (ic_6 h15_) rfl rfl (by decide) (Nat.le_of_ble_eq_true rfl) dX11_move_38 (fun r19_ M20_ q21_ => ?_)
      obtain ⟨rfl, h22_, hs23_⟩ := q21_
      refine w_if_ne (tgt := 52) dX11_move_41 (by decide) (rfl : r19_.toInt = r19_.toInt) (fun h24_ => ?_) (fun h24_ => ?_)
      · refine w_aload_n dX11_move_52 rfl 2 rfl ?_
        refine w_iconst (v := 2) dX11_move_53 (by decide) ?_
        refine w_callV (as := [vI 2]) (rest := []) (c_X11_error l G cy ad (d + 1) 2 Mz hIz) kV_X11_error pnn_0 (Nat.le_of_ble_eq_true rfl) m_500 rfl rfl rfl ic_11 rfl rfl (by decide) (Nat.le_of_ble_eq_true rfl) dX11_move_54 (fun r25_ M26_ q27_ => ?_)
        obtain ⟨hI29_, hF30_, h28_, hs32_⟩ := q27_
        have hF31_ := hFz.tr hF30_ (fun c k => (fun h => h.elim (fun h => (Or.inl ⟨h.1, h.2⟩)) (fun h => h.elim)))
        exact w_iret rfl dX11_move_57 ⟨hI29_, hF31_, trivial, (Or.inl ⟨hs5_, h4_, (Or.inl ⟨hs11_, h10_, j13_, h14_, h15_, j16_, h17_, h18_, r19_, hs23_, h22_, (Or.inl ⟨h24_, M26_, hI29_, hF30_, r25_, hs32_, rfl, rfl⟩)⟩)⟩)⟩
      · refine w_aload dX11_move_44 0 rfl ?_
        refine w_callV (as := []) (rest := []) (c_X6_isMissing l G cy ad (d + 1) j16_ Mz hIz h18_) kV_X6_isMissing pnn_4 (Nat.le_of_ble_eq_true rfl) m_569 rfl rfl rfl (ic_6 h18_) rfl rfl (by decide) (Nat.le_of_ble_eq_true rfl) dX11_move_46 (fun r33_ M34_ q35_ => ?_)
        obtain ⟨rfl, h36_, hs37_⟩ := q35_
        refine w_if_eq (tgt := 58) dX11_move_49 (by decide) (rfl : r33_.toInt = r33_.toInt) (fun h38_ => ?_) (fun h38_ => ?_)
        · refine w_aload dX11_move_58 1 rfl ?_
          refine w_getI fl_RX11_133 rfl rfl (ic_6 h15_) dX11_move_60 (fun z39_ e40_ => ?_)
          refine w_aload dX11_move_63 0 rfl ?_
          refine w_getI fl_RX11_133 rfl rfl (ic_6 h18_) dX11_move_65 (fun z41_ e42_ => ?_)
          refine w_icmp_eq (tgt := 77) dX11_move_68 (by decide) (rfl : z39_.toInt = z39_.toInt) (rfl : z41_.toInt = z41_.toInt) (fun h43_ => ?_) (fun h43_ => ?_)
          · refine w_aload dX11_move_77 1 rfl ?_
            refine w_iload_n dX11_move_79 rfl 4 rfl ?_
            refine w_iload dX11_move_80 7 rfl ?_
            refine w_callV (as := [vI u, vI q]) (rest := []) (c_X6_hasRun l G cy ad (d + 1) j13_ u q Mz hIz h15_) kV_X6_hasRun pnn_4 (Nat.le_of_ble_eq_true rfl) m_1245 rfl rfl rfl (ic_6 h15_) rfl rfl (by decide) (Nat.le_of_ble_eq_true rfl) dX11_move_82 (fun r44_ M45_ q46_ => ?_)
            obtain ⟨rfl, h47_, hs48_⟩ := q46_
            rcases h47_ with ⟨rfl, h47_⟩ | rfl
            · refine w_if_eq (tgt := 100) dX11_move_85 (by decide) li_1 (fun h9 => (absurd h9 (by decide))) (fun h49_ => ?_)
              refine w_aload dX11_move_88 0 rfl ?_
              refine w_iload dX11_move_90 6 rfl ?_
              refine w_iload dX11_move_92 7 rfl ?_
              refine w_callV (as := [vI s, vI q]) (rest := []) (c_X6_hasRun l G cy ad (d + 1) j16_ s q Mz hIz h18_) kV_X6_hasRun pnn_4 (Nat.le_of_ble_eq_true rfl) m_1245 rfl rfl rfl (ic_6 h18_) rfl rfl (by decide) (Nat.le_of_ble_eq_true rfl) dX11_move_94 (fun r50_ M51_ q52_ => ?_)
              obtain ⟨rfl, h53_, hs54_⟩ := q52_
              rcases h53_ with ⟨rfl, h53_⟩ | rfl
              · refine w_if_ne (tgt := 106) dX11_move_97 (by decide) li_1 (fun h55_ => ?_) (fun h9 => (absurd h9 (by decide)))
                refine w_aload dX11_move_106 1 rfl ?_
                refine w_getR (c' := (34, 0, j13_)) fl_RX11_373 rfl rfl (ic_6 h15_) dX11_move_108 rfl ?_
                refine w_iload_n dX11_move_111 rfl 4 rfl ?_
                refine w_aload dX11_move_112 0 rfl ?_
                refine w_getR (c' := (34, 0, j16_)) fl_RX11_373 rfl rfl (ic_6 h18_) dX11_move_114 rfl ?_
                refine w_iload dX11_move_117 6 rfl ?_
                refine w_iload dX11_move_119 7 rfl ?_
                refine w_copy CC_nd rfl rfl (ic_34 h15_) rfl rfl (ic_34 h18_) m_1249 m_830 m_829 m_98 (rfl : u.toInt = u.toInt) (rfl : s.toInt = s.toInt) (rfl : q.toInt = q.toInt) (lf_c_X11_move_2 u s q h47_ h53_ ) rfl (by omega) dX11_move_121 (fun M56_ hM57_ => ?_)
                have hI58_ := hIz.cpy hM57_ (fun _ _ => trivial)
                have hF59_ := hFz.cpy hM57_ (fun _ => (Or.inr (Or.inl ⟨rfl, rfl⟩)))
                refine w_iload dX11_move_124 7 rfl ?_
                exact w_iret rfl dX11_move_126 ⟨hI58_, hF59_, trivial, (Or.inl ⟨hs5_, h4_, (Or.inl ⟨hs11_, h10_, j13_, h14_, h15_, j16_, h17_, h18_, r19_, hs23_, h22_, (Or.inr ⟨h24_, r33_, hs37_, h36_, (Or.inl ⟨h38_, z39_, e40_, z41_, e42_, (Or.inl ⟨h43_, (Or.inl ⟨hs48_, h47_, (Or.inl ⟨hs54_, h53_, M56_, hM57_, rfl, rfl⟩)⟩)⟩)⟩)⟩)⟩)⟩)⟩
              · refine w_if_ne (tgt := 106) dX11_move_97 (by decide) li_0 (fun h9 => (absurd h9 (by decide))) (fun h60_ => ?_)
                refine w_aload_n dX11_move_100 rfl 2 rfl ?_
                refine w_iconst (v := 1) dX11_move_101 (by decide) ?_
                refine w_callV (as := [vI 1]) (rest := []) (c_X11_error l G cy ad (d + 1) 1 Mz hIz) kV_X11_error pnn_0 (Nat.le_of_ble_eq_true rfl) m_500 rfl rfl rfl ic_11 rfl rfl (by decide) (Nat.le_of_ble_eq_true rfl) dX11_move_102 (fun r61_ M62_ q63_ => ?_)
                obtain ⟨hI65_, hF66_, h64_, hs68_⟩ := q63_
                have hF67_ := hFz.tr hF66_ (fun c k => (fun h => h.elim (fun h => (Or.inl ⟨h.1, h.2⟩)) (fun h => h.elim)))
                exact w_iret rfl dX11_move_105 ⟨hI65_, hF67_, trivial, (Or.inl ⟨hs5_, h4_, (Or.inl ⟨hs11_, h10_, j13_, h14_, h15_, j16_, h17_, h18_, r19_, hs23_, h22_, (Or.inr ⟨h24_, r33_, hs37_, h36_, (Or.inl ⟨h38_, z39_, e40_, z41_, e42_, (Or.inl ⟨h43_, (Or.inl ⟨hs48_, h47_, (Or.inr ⟨hs54_, M62_, hI65_, hF66_, r61_, hs68_, rfl, rfl⟩)⟩)⟩)⟩)⟩)⟩)⟩)⟩
            · refine w_if_eq (tgt := 100) dX11_move_85 (by decide) li_0 (fun h69_ => ?_) (fun h9 => (absurd h9 (by decide)))
              refine w_aload_n dX11_move_100 rfl 2 rfl ?_
              refine w_iconst (v := 1) dX11_move_101 (by decide) ?_
              refine w_callV (as := [vI 1]) (rest := []) (c_X11_error l G cy ad (d + 1) 1 Mz hIz) kV_X11_error pnn_0 (Nat.le_of_ble_eq_true rfl) m_500 rfl rfl rfl ic_11 rfl rfl (by decide) (Nat.le_of_ble_eq_true rfl) dX11_move_102 (fun r70_ M71_ q72_ => ?_)
              obtain ⟨hI74_, hF75_, h73_, hs77_⟩ := q72_
              have hF76_ := hFz.tr hF75_ (fun c k => (fun h => h.elim (fun h => (Or.inl ⟨h.1, h.2⟩)) (fun h => h.elim)))
              exact w_iret rfl dX11_move_105 ⟨hI74_, hF76_, trivial, (Or.inl ⟨hs5_, h4_, (Or.inl ⟨hs11_, h10_, j13_, h14_, h15_, j16_, h17_, h18_, r19_, hs23_, h22_, (Or.inr ⟨h24_, r33_, hs37_, h36_, (Or.inl ⟨h38_, z39_, e40_, z41_, e42_, (Or.inl ⟨h43_, (Or.inr ⟨hs48_, M71_, hI74_, hF75_, r70_, hs77_, rfl, rfl⟩)⟩)⟩)⟩)⟩)⟩)⟩
          · refine w_aload_n dX11_move_71 rfl 2 rfl ?_
            refine w_iconst (v := 5) dX11_move_72 (by decide) ?_
            refine w_callV (as := [vI 5]) (rest := []) (c_X11_error l G cy ad (d + 1) 5 Mz hIz) kV_X11_error pnn_0 (Nat.le_of_ble_eq_true rfl) m_500 rfl rfl rfl ic_11 rfl rfl (by decide) (Nat.le_of_ble_eq_true rfl) dX11_move_73 (fun r78_ M79_ q80_ => ?_)
            obtain ⟨hI82_, hF83_, h81_, hs85_⟩ := q80_
            have hF84_ := hFz.tr hF83_ (fun c k => (fun h => h.elim (fun h => (Or.inl ⟨h.1, h.2⟩)) (fun h => h.elim)))
            exact w_iret rfl dX11_move_76 ⟨hI82_, hF84_, trivial, (Or.inl ⟨hs5_, h4_, (Or.inl ⟨hs11_, h10_, j13_, h14_, h15_, j16_, h17_, h18_, r19_, hs23_, h22_, (Or.inr ⟨h24_, r33_, hs37_, h36_, (Or.inl ⟨h38_, z39_, e40_, z41_, e42_, (Or.inr ⟨h43_, M79_, hI82_, hF83_, r78_, hs85_, rfl, rfl⟩)⟩)⟩)⟩)⟩)⟩
        · refine w_aload_n dX11_move_52 rfl 2 rfl ?_
          refine w_iconst (v := 2) dX11_move_53 (by decide) ?_
          refine w_callV (as := [vI 2]) (rest := []) (c_X11_error l G cy ad (d + 1) 2 Mz hIz) kV_X11_error pnn_0 (Nat.le_of_ble_eq_true rfl) m_500 rfl rfl rfl ic_11 rfl rfl (by decide) (Nat.le_of_ble_eq_true rfl) dX11_move_54 (fun r86_ M87_ q88_ => ?_)
          obtain ⟨hI90_, hF91_, h89_, hs93_⟩ := q88_
          have hF92_ := hFz.tr hF91_ (fun c k => (fun h => h.elim (fun h => (Or.inl ⟨h.1, h.2⟩)) (fun h => h.elim)))
          exact w_iret rfl dX11_move_57 ⟨hI90_, hF92_, trivial, (Or.inl ⟨hs5_, h4_, (Or.inl ⟨hs11_, h10_, j13_, h14_, h15_, j16_, h17_, h18_, r19_, hs23_, h22_, (Or.inr ⟨h24_, r33_, hs37_, h36_, (Or.inr ⟨h38_, M87_, hI90_, hF91_, r86_, hs93_, rfl, rfl⟩)⟩)⟩)⟩)⟩
    · refine w_if_ne (tgt := 20) dX11_move_11 (by decide) li_0 (fun h9 => (absurd h9 (by decide))) (fun h94_ => ?_)
      refine w_aload_n dX11_move_14 rfl 0 rfl ?_
      refine w_iconst (v := 1) dX11_move_15 (by decide) ?_
      refine w_callV (as := [vI 1]) (rest := []) (c_X11_error l G cy ad (d + 1) 1 Mz hIz) kV_X11_error pnn_0 (Nat.le_of_ble_eq_true rfl) m_500 rfl rfl rfl ic_11 rfl rfl (by decide) (Nat.le_of_ble_eq_true rfl) dX11_move_16 (fun r95_ M96_ q97_ => ?_)
      obtain ⟨hI99_, hF100_, h98_, hs102_⟩ := q97_
      have hF101_ := hFz.tr hF100_ (fun c k => (fun h => h.elim (fun h => (Or.inl ⟨h.1, h.2⟩)) (fun h => h.elim)))
      exact w_iret rfl dX11_move_19 ⟨hI99_, hF101_, trivial, (Or.inl ⟨hs5_, h4_, (Or.inr ⟨hs11_, h10_, M96_, hI99_, hF100_, r95_, hs102_, rfl, rfl⟩)⟩)⟩
  · refine w_if_eq (tgt := 14) dX11_move_4 (by decide) li_0 (fun h103_ => ?_) (fun h9 => (absurd h9 (by decide)))
    refine w_aload_n dX11_move_14 rfl 0 rfl ?_
    refine w_iconst (v := 1) dX11_move_15 (by decide) ?_
    refine w_callV (as := [vI 1]) (rest := []) (c_X11_error l G cy ad (d + 1) 1 Mz hIz) kV_X11_error pnn_0 (Nat.le_of_ble_eq_true rfl) m_500 rfl rfl rfl ic_11 rfl rfl (by decide) (Nat.le_of_ble_eq_true rfl) dX11_move_16 (fun r104_ M105_ q106_ => ?_)
    obtain ⟨hI108_, hF109_, h107_, hs111_⟩ := q106_
    have hF110_ := hFz.tr hF109_ (fun c k => (fun h => h.elim (fun h => (Or.inl ⟨h.1, h.2⟩)) (fun h => h.elim)))
    exact w_iret rfl dX11_move_19 ⟨hI108_, hF110_, trivial, (Or.inr ⟨hs5_, h4_, M105_, hI108_, hF109_, r104_, hs111_, rfl, rfl⟩)⟩
def S_c_X11_image : rf → Nat → Prop := fun c k => (c.1 = 35 ∧ c.2.1 = 1) ∨ (c.1 = 36 ∧ c.2.1 = 1) ∨ (c.1 = 37 ∧ c.2.1 = 1) ∨ (c.1 = 38 ∧ c.2.1 = 1) ∨ (c.1 = 39 ∧ c.2.1 = 1) ∨ (c.1 = 7 ∧ c.2.1 = 1 ∧ k = 5) ∨ (c.1 = 2 ∧ c.2.1 = 1 ∧ k = 0) ∨ (c.1 = 2 ∧ c.2.1 = 1 ∧ k = 1) ∨ (c.1 = 2 ∧ c.2.1 = 1 ∧ k = 2) ∨ (c.1 = 26 ∧ c.2.1 = 1) ∨ (c.1 = 27 ∧ c.2.1 = 1) ∨ (c.1 = 1 ∧ c.2.1 = 1 ∧ k = 2) ∨ (c.1 = 24 ∧ c.2.1 = 1) ∨ (c.1 = 30 ∧ c.2.1 = 1) ∨ (c.1 = 31 ∧ c.2.1 = 1) ∨ (c.1 = 32 ∧ c.2.1 = 1) ∨ (c.1 = 3 ∧ c.2.1 = 1 ∧ k = 3) ∨ (c.1 = 5 ∧ c.2.1 = 1 ∧ c.2.2 = 0 ∧ k = 1) ∨ (c.1 = 33 ∧ c.2.1 = 1 ∧ c.2.2 = 0) ∨ (c.1 = 5 ∧ c.2.1 = 1 ∧ c.2.2 = 1 ∧ k = 1) ∨ (c.1 = 33 ∧ c.2.1 = 1 ∧ c.2.2 = 1) ∨ (c.1 = 10 ∧ c.2.1 = 1 ∧ k = 6) ∨ (c.1 = 10 ∧ c.2.1 = 1 ∧ k = 7) ∨ (c.1 = 9 ∧ c.2.1 = 1 ∧ k = 0) ∨ (c.1 = 9 ∧ c.2.1 = 1 ∧ k = 1) ∨ (c.1 = 9 ∧ c.2.1 = 1 ∧ k = 2) ∨ (c.1 = 9 ∧ c.2.1 = 1 ∧ k = 3) ∨ (c.1 = 9 ∧ c.2.1 = 1 ∧ k = 4) ∨ (c.1 = 9 ∧ c.2.1 = 1 ∧ k = 5) ∨ (c.1 = 9 ∧ c.2.1 = 1 ∧ k = 6) ∨ (c.1 = 9 ∧ c.2.1 = 1 ∧ k = 7) ∨ (c.1 = 9 ∧ c.2.1 = 1 ∧ k = 8) ∨ (c.1 = 40 ∧ c.2.1 = 1) ∨ (c.1 = 41 ∧ c.2.1 = 1) ∨ (c.1 = 11 ∧ c.2.1 = 0 ∧ k = 8) ∨ False
def SP_X11_image (Mz : mM) (r_ : Int32) (M_ : mM) : Prop := ∃ M1_ : mM, (Inv M1_) ∧ (FR (S_c_X10_takeFrom 1 0) Mz M1_) ∧ (SP_X10_takeFrom 1 0 Mz M1_) ∧ ∃ z8_ : Int32, (z8_ = M1_.1 (11, 0, 0) 8) ∧ ∃ z10_ : Int32, (z10_ = z8_ + (1 : Int32)) ∧ ∃ M12_ : mM, (M12_ = up M1_ (11, 0, 0) 8 z10_) ∧ ∃ z16_ : Int32, (z16_ = M12_.1 (11, 0, 0) 8) ∧ r_ = z16_ ∧ M_ = M12_
set_option maxHeartbeats 4000000 in
set_option maxRecDepth 100000 in
theorem c_X11_image (l : Launch) (G : va_G) (cy : Nat → ClassId) (ad : rf → Nat) (d : Nat) (Mz : mM) (hIz : Inv Mz) : WP CC l G cy ad yX11_image cX11_image 1 (some .int) (d + 4) 0 [(0, vR (11, 0, 0))] [] Mz (fun r M' => Inv M' ∧ FR (S_c_X11_image) Mz M' ∧ (True) ∧ SP_X11_image Mz r M') := by
  have hFz : FR (S_c_X11_image) Mz Mz := FR.self
  refine w_aload_n dX11_image_0 rfl 0 rfl ?_
  refine w_getR (c' := (10, 1, 0)) fl_RX11_16 rfl rfl ic_11 dX11_image_1 rfl ?_
  refine w_aload_n dX11_image_4 rfl 0 rfl ?_
  refine w_getR (c' := (10, 0, 0)) fl_RX11_10 rfl rfl ic_11 dX11_image_5 rfl ?_
  refine w_callVv (as := [vR (10, 0, 0)]) (rest := []) (c_X10_takeFrom l G cy ad d 1 0 Mz hIz (by first | decide | (unfold vF; omega) | (unfold vRw; omega)) (by first | decide | (unfold vF; omega) | (unfold vRw; omega))) kV_X10_takeFrom pnn_7 (Nat.le_of_ble_eq_true rfl) m_1254 rfl rfl rfl (ic_10 (by decide)) rfl rfl (by decide) (Nat.le_of_ble_eq_true rfl) dX11_image_8 (fun M1_ q2_ => ?_)
  obtain ⟨hI4_, hF5_, h3_, hs7_⟩ := q2_
  have hF6_ := hFz.tr hF5_ (fun c k => (fun h => h.elim (fun h => (Or.inl ⟨h.1, h.2⟩)) (fun h => h.elim (fun h => (Or.inr (Or.inl ⟨h.1, h.2⟩))) (fun h => h.elim (fun h => (Or.inr (Or.inr (Or.inl ⟨h.1, h.2⟩)))) (fun h => h.elim (fun h => (Or.inr (Or.inr (Or.inr (Or.inl ⟨h.1, h.2⟩))))) (fun h => h.elim (fun h => (Or.inr (Or.inr (Or.inr (Or.inr (Or.inl ⟨h.1, h.2⟩)))))) (fun h => h.elim (fun h => (Or.inr (Or.inr (Or.inr (Or.inr (Or.inr (Or.inl ⟨h.1, h.2.1, h.2.2⟩))))))) (fun h => h.elim (fun h => (Or.inr (Or.inr (Or.inr (Or.inr (Or.inr (Or.inr (Or.inl ⟨h.1, h.2.1, h.2.2⟩)))))))) (fun h => h.elim (fun h => (Or.inr (Or.inr (Or.inr (Or.inr (Or.inr (Or.inr (Or.inr (Or.inl ⟨h.1, h.2.1, h.2.2⟩))))))))) (fun h => h.elim (fun h => (Or.inr (Or.inr (Or.inr (Or.inr (Or.inr (Or.inr (Or.inr (Or.inr (Or.inl ⟨h.1, h.2.1, h.2.2⟩)))))))))) (fun h => h.elim (fun h => (Or.inr (Or.inr (Or.inr (Or.inr (Or.inr (Or.inr (Or.inr (Or.inr (Or.inr (Or.inl ⟨h.1, h.2⟩))))))))))) (fun h => h.elim (fun h => (Or.inr (Or.inr (Or.inr (Or.inr (Or.inr (Or.inr (Or.inr (Or.inr (Or.inr (Or.inr (Or.inl ⟨h.1, h.2⟩)))))))))))) (fun h => h.elim (fun h => (Or.inr (Or.inr (Or.inr (Or.inr (Or.inr (Or.inr (Or.inr (Or.inr (Or.inr (Or.inr (Or.inr (Or.inl ⟨h.1, h.2.1, h.2.2⟩))))))))))))) (fun h => h.elim (fun h => (Or.inr (Or.inr (Or.inr (Or.inr (Or.inr (Or.inr (Or.inr (Or.inr (Or.inr (Or.inr (Or.inr (Or.inr (Or.inl ⟨h.1, h.2⟩)))))))))))))) (fun h => h.elim (fun h => (Or.inr (Or.inr (Or.inr (Or.inr (Or.inr (Or.inr (Or.inr (Or.inr (Or.inr (Or.inr (Or.inr (Or.inr (Or.inr (Or.inl ⟨h.1, h.2⟩))))))))))))))) (fun h => h.elim (fun h => (Or.inr (Or.inr (Or.inr (Or.inr (Or.inr (Or.inr (Or.inr (Or.inr (Or.inr (Or.inr (Or.inr (Or.inr (Or.inr (Or.inr (Or.inl ⟨h.1, h.2⟩)))))))))))))))) (fun h => h.elim (fun h => (Or.inr (Or.inr (Or.inr (Or.inr (Or.inr (Or.inr (Or.inr (Or.inr (Or.inr (Or.inr (Or.inr (Or.inr (Or.inr (Or.inr (Or.inr (Or.inl ⟨h.1, h.2⟩))))))))))))))))) (fun h => h.elim (fun h => (Or.inr (Or.inr (Or.inr (Or.inr (Or.inr (Or.inr (Or.inr (Or.inr (Or.inr (Or.inr (Or.inr (Or.inr (Or.inr (Or.inr (Or.inr (Or.inr (Or.inl ⟨h.1, h.2.1, h.2.2⟩)))))))))))))))))) (fun h => h.elim (fun h => (Or.inr (Or.inr (Or.inr (Or.inr (Or.inr (Or.inr (Or.inr (Or.inr (Or.inr (Or.inr (Or.inr (Or.inr (Or.inr (Or.inr (Or.inr (Or.inr (Or.inr (Or.inl ⟨h.1, h.2.1, h.2.2.1, h.2.2.2⟩))))))))))))))))))) (fun h => h.elim (fun h => (Or.inr (Or.inr (Or.inr (Or.inr (Or.inr (Or.inr (Or.inr (Or.inr (Or.inr (Or.inr (Or.inr (Or.inr (Or.inr (Or.inr (Or.inr (Or.inr (Or.inr (Or.inr (Or.inl ⟨h.1, h.2.1, h.2.2⟩)))))))))))))))))))) (fun h => h.elim (fun h => (Or.inr (Or.inr (Or.inr (Or.inr (Or.inr (Or.inr (Or.inr (Or.inr (Or.inr (Or.inr (Or.inr (Or.inr (Or.inr (Or.inr (Or.inr (Or.inr (Or.inr (Or.inr (Or.inr (Or.inl ⟨h.1, h.2.1, h.2.2.1, h.2.2.2⟩))))))))))))))))))))) (fun h => h.elim (fun h => (Or.inr (Or.inr (Or.inr (Or.inr (Or.inr (Or.inr (Or.inr (Or.inr (Or.inr (Or.inr (Or.inr (Or.inr (Or.inr (Or.inr (Or.inr (Or.inr (Or.inr (Or.inr (Or.inr (Or.inr (Or.inl ⟨h.1, h.2.1, h.2.2⟩)))))))))))))))))))))) (fun h => h.elim (fun h => (Or.inr (Or.inr (Or.inr (Or.inr (Or.inr (Or.inr (Or.inr (Or.inr (Or.inr (Or.inr (Or.inr (Or.inr (Or.inr (Or.inr (Or.inr (Or.inr (Or.inr (Or.inr (Or.inr (Or.inr (Or.inr (Or.inl ⟨h.1, h.2.1, h.2.2⟩))))))))))))))))))))))) (fun h => h.elim (fun h => (Or.inr (Or.inr (Or.inr (Or.inr (Or.inr (Or.inr (Or.inr (Or.inr (Or.inr (Or.inr (Or.inr (Or.inr (Or.inr (Or.inr (Or.inr (Or.inr (Or.inr (Or.inr (Or.inr (Or.inr (Or.inr (Or.inr (Or.inl ⟨h.1, h.2.1, h.2.2⟩)))))))))))))))))))))))) (fun h => h.elim (fun h => (Or.inr (Or.inr (Or.inr (Or.inr (Or.inr (Or.inr (Or.inr (Or.inr (Or.inr (Or.inr (Or.inr (Or.inr (Or.inr (Or.inr (Or.inr (Or.inr (Or.inr (Or.inr (Or.inr (Or.inr (Or.inr (Or.inr (Or.inr (Or.inl ⟨h.1, h.2.1, h.2.2⟩))))))))))))))))))))))))) (fun h => h.elim (fun h => (Or.inr (Or.inr (Or.inr (Or.inr (Or.inr (Or.inr (Or.inr (Or.inr (Or.inr (Or.inr (Or.inr (Or.inr (Or.inr (Or.inr (Or.inr (Or.inr (Or.inr (Or.inr (Or.inr (Or.inr (Or.inr (Or.inr (Or.inr (Or.inr (Or.inl ⟨h.1, h.2.1, h.2.2⟩)))))))))))))))))))))))))) (fun h => h.elim (fun h => (Or.inr (Or.inr (Or.inr (Or.inr (Or.inr (Or.inr (Or.inr (Or.inr (Or.inr (Or.inr (Or.inr (Or.inr (Or.inr (Or.inr (Or.inr (Or.inr (Or.inr (Or.inr (Or.inr (Or.inr (Or.inr (Or.inr (Or.inr (Or.inr (Or.inr (Or.inl ⟨h.1, h.2.1, h.2.2⟩))))))))))))))))))))))))))) (fun h => h.elim (fun h => (Or.inr (Or.inr (Or.inr (Or.inr (Or.inr (Or.inr (Or.inr (Or.inr (Or.inr (Or.inr (Or.inr (Or.inr (Or.inr (Or.inr (Or.inr (Or.inr (Or.inr (Or.inr (Or.inr (Or.inr (Or.inr (Or.inr (Or.inr (Or.inr (Or.inr (Or.inr (Or.inl ⟨h.1, h.2.1, h.2.2⟩)))))))))))))))))))))))))))) (fun h => h.elim (fun h => (Or.inr (Or.inr (Or.inr (Or.inr (Or.inr (Or.inr (Or.inr (Or.inr (Or.inr (Or.inr (Or.inr (Or.inr (Or.inr (Or.inr (Or.inr (Or.inr (Or.inr (Or.inr (Or.inr (Or.inr (Or.inr (Or.inr (Or.inr (Or.inr (Or.inr (Or.inr (Or.inr (Or.inl ⟨h.1, h.2.1, h.2.2⟩))))))))))))))))))))))))))))) (fun h => h.elim (fun h => (Or.inr (Or.inr (Or.inr (Or.inr (Or.inr (Or.inr (Or.inr (Or.inr (Or.inr (Or.inr (Or.inr (Or.inr (Or.inr (Or.inr (Or.inr (Or.inr (Or.inr (Or.inr (Or.inr (Or.inr (Or.inr (Or.inr (Or.inr (Or.inr (Or.inr (Or.inr (Or.inr (Or.inr (Or.inl ⟨h.1, h.2.1, h.2.2⟩)))))))))))))))))))))))))))))) (fun h => h.elim (fun h => (Or.inr (Or.inr (Or.inr (Or.inr (Or.inr (Or.inr (Or.inr (Or.inr (Or.inr (Or.inr (Or.inr (Or.inr (Or.inr (Or.inr (Or.inr (Or.inr (Or.inr (Or.inr (Or.inr (Or.inr (Or.inr (Or.inr (Or.inr (Or.inr (Or.inr (Or.inr (Or.inr (Or.inr (Or.inr (Or.inl ⟨h.1, h.2.1, h.2.2⟩))))))))))))))))))))))))))))))) (fun h => h.elim (fun h => (Or.inr (Or.inr (Or.inr (Or.inr (Or.inr (Or.inr (Or.inr (Or.inr (Or.inr (Or.inr (Or.inr (Or.inr (Or.inr (Or.inr (Or.inr (Or.inr (Or.inr (Or.inr (Or.inr (Or.inr (Or.inr (Or.inr (Or.inr (Or.inr (Or.inr (Or.inr (Or.inr (Or.inr (Or.inr (Or.inr (Or.inl ⟨h.1, h.2.1, h.2.2⟩)))))))))))))))))))))))))))))))) (fun h => h.elim (fun h => (Or.inr (Or.inr (Or.inr (Or.inr (Or.inr (Or.inr (Or.inr (Or.inr (Or.inr (Or.inr (Or.inr (Or.inr (Or.inr (Or.inr (Or.inr (Or.inr (Or.inr (Or.inr (Or.inr (Or.inr (Or.inr (Or.inr (Or.inr (Or.inr (Or.inr (Or.inr (Or.inr (Or.inr (Or.inr (Or.inr (Or.inr (Or.inl ⟨h.1, h.2.1, h.2.2⟩))))))))))))))))))))))))))))))))) (fun h => h.elim (fun h => (Or.inr (Or.inr (Or.inr (Or.inr (Or.inr (Or.inr (Or.inr (Or.inr (Or.inr (Or.inr (Or.inr (Or.inr (Or.inr (Or.inr (Or.inr (Or.inr (Or.inr (Or.inr (Or.inr (Or.inr (Or.inr (Or.inr (Or.inr (Or.inr (Or.inr (Or.inr (Or.inr (Or.inr (Or.inr (Or.inr (Or.inr (Or.inr (Or.inl ⟨h.1, h.2⟩)))))))))))))))))))))))))))))))))) (fun h => h.elim (fun h => (Or.inr (Or.inr (Or.inr (Or.inr (Or.inr (Or.inr (Or.inr (Or.inr (Or.inr (Or.inr (Or.inr (Or.inr (Or.inr (Or.inr (Or.inr (Or.inr (Or.inr (Or.inr (Or.inr (Or.inr (Or.inr (Or.inr (Or.inr (Or.inr (Or.inr (Or.inr (Or.inr (Or.inr (Or.inr (Or.inr (Or.inr (Or.inr (Or.inr (Or.inl ⟨h.1, h.2⟩))))))))))))))))))))))))))))))))))) (fun h => h.elim))))))))))))))))))))))))))))))))))))
  refine w_aload_n dX11_image_11 rfl 0 rfl ?_
  refine w_dup dX11_image_12 rfl ?_
  refine w_getI fl_RX11_53 rfl rfl ic_11 dX11_image_13 (fun z8_ e9_ => ?_)
  refine w_iconst (v := 1) dX11_image_16 (by decide) ?_
  refine w_iadd dX11_image_17 (fun z10_ h11_ => ?_)
  refine w_putI CC_nd fl_RX11_53 rfl rfl ic_11 dX11_image_18 (fun M12_ hM13_ => ?_)
  have hI14_ := hI4_.put hM13_ trivial
  have hF15_ := hF6_.put hM13_ (Or.inr (Or.inr (Or.inr (Or.inr (Or.inr (Or.inr (Or.inr (Or.inr (Or.inr (Or.inr (Or.inr (Or.inr (Or.inr (Or.inr (Or.inr (Or.inr (Or.inr (Or.inr (Or.inr (Or.inr (Or.inr (Or.inr (Or.inr (Or.inr (Or.inr (Or.inr (Or.inr (Or.inr (Or.inr (Or.inr (Or.inr (Or.inr (Or.inr (Or.inr (Or.inl ⟨rfl, rfl, rfl⟩)))))))))))))))))))))))))))))))))))
  refine w_aload_n dX11_image_21 rfl 0 rfl ?_
  refine w_getI fl_RX11_53 rfl rfl ic_11 dX11_image_22 (fun z16_ e17_ => ?_)
  exact w_iret rfl dX11_image_25 ⟨hI14_, hF15_, trivial, ⟨M1_, hI4_, hF5_, hs7_, z8_, e9_, z10_, h11_, M12_, hM13_, z16_, e17_, rfl, rfl⟩⟩
def S_c_X11_restore : rf → Nat → Prop := fun c k => (c.1 = 35 ∧ c.2.1 = 0) ∨ (c.1 = 36 ∧ c.2.1 = 0) ∨ (c.1 = 37 ∧ c.2.1 = 0) ∨ (c.1 = 38 ∧ c.2.1 = 0) ∨ (c.1 = 39 ∧ c.2.1 = 0) ∨ (c.1 = 7 ∧ c.2.1 = 0 ∧ k = 5) ∨ (c.1 = 2 ∧ c.2.1 = 0 ∧ k = 0) ∨ (c.1 = 2 ∧ c.2.1 = 0 ∧ k = 1) ∨ (c.1 = 2 ∧ c.2.1 = 0 ∧ k = 2) ∨ (c.1 = 26 ∧ c.2.1 = 0) ∨ (c.1 = 27 ∧ c.2.1 = 0) ∨ (c.1 = 1 ∧ c.2.1 = 0 ∧ k = 2) ∨ (c.1 = 24 ∧ c.2.1 = 0) ∨ (c.1 = 30 ∧ c.2.1 = 0) ∨ (c.1 = 31 ∧ c.2.1 = 0) ∨ (c.1 = 32 ∧ c.2.1 = 0) ∨ (c.1 = 3 ∧ c.2.1 = 0 ∧ k = 3) ∨ (c.1 = 5 ∧ c.2.1 = 0 ∧ c.2.2 = 0 ∧ k = 1) ∨ (c.1 = 33 ∧ c.2.1 = 0 ∧ c.2.2 = 0) ∨ (c.1 = 5 ∧ c.2.1 = 0 ∧ c.2.2 = 1 ∧ k = 1) ∨ (c.1 = 33 ∧ c.2.1 = 0 ∧ c.2.2 = 1) ∨ (c.1 = 10 ∧ c.2.1 = 0 ∧ k = 6) ∨ (c.1 = 10 ∧ c.2.1 = 0 ∧ k = 7) ∨ (c.1 = 9 ∧ c.2.1 = 0 ∧ k = 0) ∨ (c.1 = 9 ∧ c.2.1 = 0 ∧ k = 1) ∨ (c.1 = 9 ∧ c.2.1 = 0 ∧ k = 2) ∨ (c.1 = 9 ∧ c.2.1 = 0 ∧ k = 3) ∨ (c.1 = 9 ∧ c.2.1 = 0 ∧ k = 4) ∨ (c.1 = 9 ∧ c.2.1 = 0 ∧ k = 5) ∨ (c.1 = 9 ∧ c.2.1 = 0 ∧ k = 6) ∨ (c.1 = 9 ∧ c.2.1 = 0 ∧ k = 7) ∨ (c.1 = 9 ∧ c.2.1 = 0 ∧ k = 8) ∨ (c.1 = 40 ∧ c.2.1 = 0) ∨ (c.1 = 41 ∧ c.2.1 = 0) ∨ (c.1 = 44 ∧ c.2.1 = 0) ∨ False
def SP_X11_restore (Mz : mM) (r_ : Int32) (M_ : mM) : Prop := ∃ z1_ : Int32, (z1_ = Mz.1 (11, 0, 0) 8) ∧ (((¬ z1_.toInt = 0) ∧ ∃ M4_ : mM, (Inv M4_) ∧ (FR (S_c_X10_takeFrom 0 1) Mz M4_) ∧ (SP_X10_takeFrom 0 1 Mz M4_) ∧ ∃ z11_ : Int32, (z11_ = M4_.1 (10, 0, 0) 7) ∧ r_ = z11_ ∧ M_ = M4_) ∨ ((z1_.toInt = 0) ∧ ∃ M14_ : mM, (Inv M14_) ∧ (FR (S_c_X11_error) Mz M14_) ∧ ∃ r13_ : Int32, (SP_X11_error 2 Mz r13_ M14_) ∧ r_ = r13_ ∧ M_ = M14_))
set_option maxHeartbeats 4000000 in
set_option maxRecDepth 100000 in
theorem c_X11_restore (l : Launch) (G : va_G) (cy : Nat → ClassId) (ad : rf → Nat) (d : Nat) (Mz : mM) (hIz : Inv Mz) : WP CC l G cy ad yX11_restore cX11_restore 1 (some .int) (d + 4) 0 [(0, vR (11, 0, 0))] [] Mz (fun r M' => Inv M' ∧ FR (S_c_X11_restore) Mz M' ∧ (True) ∧ SP_X11_restore Mz r M') := by
  have hFz : FR (S_c_X11_restore) Mz Mz := FR.self
  refine w_aload_n dX11_restore_0 rfl 0 rfl ?_
  refine w_getI fl_RX11_53 rfl rfl ic_11 dX11_restore_1 (fun z1_ e2_ => ?_)
  refine w_if_ne (tgt := 13) dX11_restore_4 (by decide) (rfl : z1_.toInt = z1_.toInt) (fun h3_ => ?_) (fun h3_ => ?_)
  · refine w_aload_n dX11_restore_13 rfl 0 rfl ?_
    refine w_getR (c' := (10, 0, 0)) fl_RX11_10 rfl rfl ic_11 dX11_restore_14 rfl ?_
    refine w_aload_n dX11_restore_17 rfl 0 rfl ?_
    refine w_getR (c' := (10, 1, 0)) fl_RX11_16 rfl rfl ic_11 dX11_restore_18 rfl ?_
    refine w_callVv (as := [vR (10, 1, 0)]) (rest := []) (c_X10_takeFrom l G cy ad d 0 1 Mz hIz (by first | decide | (unfold vF; omega) | (unfold vRw; omega)) (by first | decide | (unfold vF; omega) | (unfold vRw; omega))) kV_X10_takeFrom pnn_7 (Nat.le_of_ble_eq_true rfl) m_1254 rfl rfl rfl (ic_10 (by decide)) rfl rfl (by decide) (Nat.le_of_ble_eq_true rfl) dX11_restore_21 (fun M4_ q5_ => ?_)
    obtain ⟨hI7_, hF8_, h6_, hs10_⟩ := q5_
    have hF9_ := hFz.tr hF8_ (fun c k => (fun h => h.elim (fun h => (Or.inl ⟨h.1, h.2⟩)) (fun h => h.elim (fun h => (Or.inr (Or.inl ⟨h.1, h.2⟩))) (fun h => h.elim (fun h => (Or.inr (Or.inr (Or.inl ⟨h.1, h.2⟩)))) (fun h => h.elim (fun h => (Or.inr (Or.inr (Or.inr (Or.inl ⟨h.1, h.2⟩))))) (fun h => h.elim (fun h => (Or.inr (Or.inr (Or.inr (Or.inr (Or.inl ⟨h.1, h.2⟩)))))) (fun h => h.elim (fun h => (Or.inr (Or.inr (Or.inr (Or.inr (Or.inr (Or.inl ⟨h.1, h.2.1, h.2.2⟩))))))) (fun h => h.elim (fun h => (Or.inr (Or.inr (Or.inr (Or.inr (Or.inr (Or.inr (Or.inl ⟨h.1, h.2.1, h.2.2⟩)))))))) (fun h => h.elim (fun h => (Or.inr (Or.inr (Or.inr (Or.inr (Or.inr (Or.inr (Or.inr (Or.inl ⟨h.1, h.2.1, h.2.2⟩))))))))) (fun h => h.elim (fun h => (Or.inr (Or.inr (Or.inr (Or.inr (Or.inr (Or.inr (Or.inr (Or.inr (Or.inl ⟨h.1, h.2.1, h.2.2⟩)))))))))) (fun h => h.elim (fun h => (Or.inr (Or.inr (Or.inr (Or.inr (Or.inr (Or.inr (Or.inr (Or.inr (Or.inr (Or.inl ⟨h.1, h.2⟩))))))))))) (fun h => h.elim (fun h => (Or.inr (Or.inr (Or.inr (Or.inr (Or.inr (Or.inr (Or.inr (Or.inr (Or.inr (Or.inr (Or.inl ⟨h.1, h.2⟩)))))))))))) (fun h => h.elim (fun h => (Or.inr (Or.inr (Or.inr (Or.inr (Or.inr (Or.inr (Or.inr (Or.inr (Or.inr (Or.inr (Or.inr (Or.inl ⟨h.1, h.2.1, h.2.2⟩))))))))))))) (fun h => h.elim (fun h => (Or.inr (Or.inr (Or.inr (Or.inr (Or.inr (Or.inr (Or.inr (Or.inr (Or.inr (Or.inr (Or.inr (Or.inr (Or.inl ⟨h.1, h.2⟩)))))))))))))) (fun h => h.elim (fun h => (Or.inr (Or.inr (Or.inr (Or.inr (Or.inr (Or.inr (Or.inr (Or.inr (Or.inr (Or.inr (Or.inr (Or.inr (Or.inr (Or.inl ⟨h.1, h.2⟩))))))))))))))) (fun h => h.elim (fun h => (Or.inr (Or.inr (Or.inr (Or.inr (Or.inr (Or.inr (Or.inr (Or.inr (Or.inr (Or.inr (Or.inr (Or.inr (Or.inr (Or.inr (Or.inl ⟨h.1, h.2⟩)))))))))))))))) (fun h => h.elim (fun h => (Or.inr (Or.inr (Or.inr (Or.inr (Or.inr (Or.inr (Or.inr (Or.inr (Or.inr (Or.inr (Or.inr (Or.inr (Or.inr (Or.inr (Or.inr (Or.inl ⟨h.1, h.2⟩))))))))))))))))) (fun h => h.elim (fun h => (Or.inr (Or.inr (Or.inr (Or.inr (Or.inr (Or.inr (Or.inr (Or.inr (Or.inr (Or.inr (Or.inr (Or.inr (Or.inr (Or.inr (Or.inr (Or.inr (Or.inl ⟨h.1, h.2.1, h.2.2⟩)))))))))))))))))) (fun h => h.elim (fun h => (Or.inr (Or.inr (Or.inr (Or.inr (Or.inr (Or.inr (Or.inr (Or.inr (Or.inr (Or.inr (Or.inr (Or.inr (Or.inr (Or.inr (Or.inr (Or.inr (Or.inr (Or.inl ⟨h.1, h.2.1, h.2.2.1, h.2.2.2⟩))))))))))))))))))) (fun h => h.elim (fun h => (Or.inr (Or.inr (Or.inr (Or.inr (Or.inr (Or.inr (Or.inr (Or.inr (Or.inr (Or.inr (Or.inr (Or.inr (Or.inr (Or.inr (Or.inr (Or.inr (Or.inr (Or.inr (Or.inl ⟨h.1, h.2.1, h.2.2⟩)))))))))))))))))))) (fun h => h.elim (fun h => (Or.inr (Or.inr (Or.inr (Or.inr (Or.inr (Or.inr (Or.inr (Or.inr (Or.inr (Or.inr (Or.inr (Or.inr (Or.inr (Or.inr (Or.inr (Or.inr (Or.inr (Or.inr (Or.inr (Or.inl ⟨h.1, h.2.1, h.2.2.1, h.2.2.2⟩))))))))))))))))))))) (fun h => h.elim (fun h => (Or.inr (Or.inr (Or.inr (Or.inr (Or.inr (Or.inr (Or.inr (Or.inr (Or.inr (Or.inr (Or.inr (Or.inr (Or.inr (Or.inr (Or.inr (Or.inr (Or.inr (Or.inr (Or.inr (Or.inr (Or.inl ⟨h.1, h.2.1, h.2.2⟩)))))))))))))))))))))) (fun h => h.elim (fun h => (Or.inr (Or.inr (Or.inr (Or.inr (Or.inr (Or.inr (Or.inr (Or.inr (Or.inr (Or.inr (Or.inr (Or.inr (Or.inr (Or.inr (Or.inr (Or.inr (Or.inr (Or.inr (Or.inr (Or.inr (Or.inr (Or.inl ⟨h.1, h.2.1, h.2.2⟩))))))))))))))))))))))) (fun h => h.elim (fun h => (Or.inr (Or.inr (Or.inr (Or.inr (Or.inr (Or.inr (Or.inr (Or.inr (Or.inr (Or.inr (Or.inr (Or.inr (Or.inr (Or.inr (Or.inr (Or.inr (Or.inr (Or.inr (Or.inr (Or.inr (Or.inr (Or.inr (Or.inl ⟨h.1, h.2.1, h.2.2⟩)))))))))))))))))))))))) (fun h => h.elim (fun h => (Or.inr (Or.inr (Or.inr (Or.inr (Or.inr (Or.inr (Or.inr (Or.inr (Or.inr (Or.inr (Or.inr (Or.inr (Or.inr (Or.inr (Or.inr (Or.inr (Or.inr (Or.inr (Or.inr (Or.inr (Or.inr (Or.inr (Or.inr (Or.inl ⟨h.1, h.2.1, h.2.2⟩))))))))))))))))))))))))) (fun h => h.elim (fun h => (Or.inr (Or.inr (Or.inr (Or.inr (Or.inr (Or.inr (Or.inr (Or.inr (Or.inr (Or.inr (Or.inr (Or.inr (Or.inr (Or.inr (Or.inr (Or.inr (Or.inr (Or.inr (Or.inr (Or.inr (Or.inr (Or.inr (Or.inr (Or.inr (Or.inl ⟨h.1, h.2.1, h.2.2⟩)))))))))))))))))))))))))) (fun h => h.elim (fun h => (Or.inr (Or.inr (Or.inr (Or.inr (Or.inr (Or.inr (Or.inr (Or.inr (Or.inr (Or.inr (Or.inr (Or.inr (Or.inr (Or.inr (Or.inr (Or.inr (Or.inr (Or.inr (Or.inr (Or.inr (Or.inr (Or.inr (Or.inr (Or.inr (Or.inr (Or.inl ⟨h.1, h.2.1, h.2.2⟩))))))))))))))))))))))))))) (fun h => h.elim (fun h => (Or.inr (Or.inr (Or.inr (Or.inr (Or.inr (Or.inr (Or.inr (Or.inr (Or.inr (Or.inr (Or.inr (Or.inr (Or.inr (Or.inr (Or.inr (Or.inr (Or.inr (Or.inr (Or.inr (Or.inr (Or.inr (Or.inr (Or.inr (Or.inr (Or.inr (Or.inr (Or.inl ⟨h.1, h.2.1, h.2.2⟩)))))))))))))))))))))))))))) (fun h => h.elim (fun h => (Or.inr (Or.inr (Or.inr (Or.inr (Or.inr (Or.inr (Or.inr (Or.inr (Or.inr (Or.inr (Or.inr (Or.inr (Or.inr (Or.inr (Or.inr (Or.inr (Or.inr (Or.inr (Or.inr (Or.inr (Or.inr (Or.inr (Or.inr (Or.inr (Or.inr (Or.inr (Or.inr (Or.inl ⟨h.1, h.2.1, h.2.2⟩))))))))))))))))))))))))))))) (fun h => h.elim (fun h => (Or.inr (Or.inr (Or.inr (Or.inr (Or.inr (Or.inr (Or.inr (Or.inr (Or.inr (Or.inr (Or.inr (Or.inr (Or.inr (Or.inr (Or.inr (Or.inr (Or.inr (Or.inr (Or.inr (Or.inr (Or.inr (Or.inr (Or.inr (Or.inr (Or.inr (Or.inr (Or.inr (Or.inr (Or.inl ⟨h.1, h.2.1, h.2.2⟩)))))))))))))))))))))))))))))) (fun h => h.elim (fun h => (Or.inr (Or.inr (Or.inr (Or.inr (Or.inr (Or.inr (Or.inr (Or.inr (Or.inr (Or.inr (Or.inr (Or.inr (Or.inr (Or.inr (Or.inr (Or.inr (Or.inr (Or.inr (Or.inr (Or.inr (Or.inr (Or.inr (Or.inr (Or.inr (Or.inr (Or.inr (Or.inr (Or.inr (Or.inr (Or.inl ⟨h.1, h.2.1, h.2.2⟩))))))))))))))))))))))))))))))) (fun h => h.elim (fun h => (Or.inr (Or.inr (Or.inr (Or.inr (Or.inr (Or.inr (Or.inr (Or.inr (Or.inr (Or.inr (Or.inr (Or.inr (Or.inr (Or.inr (Or.inr (Or.inr (Or.inr (Or.inr (Or.inr (Or.inr (Or.inr (Or.inr (Or.inr (Or.inr (Or.inr (Or.inr (Or.inr (Or.inr (Or.inr (Or.inr (Or.inl ⟨h.1, h.2.1, h.2.2⟩)))))))))))))))))))))))))))))))) (fun h => h.elim (fun h => (Or.inr (Or.inr (Or.inr (Or.inr (Or.inr (Or.inr (Or.inr (Or.inr (Or.inr (Or.inr (Or.inr (Or.inr (Or.inr (Or.inr (Or.inr (Or.inr (Or.inr (Or.inr (Or.inr (Or.inr (Or.inr (Or.inr (Or.inr (Or.inr (Or.inr (Or.inr (Or.inr (Or.inr (Or.inr (Or.inr (Or.inr (Or.inl ⟨h.1, h.2.1, h.2.2⟩))))))))))))))))))))))))))))))))) (fun h => h.elim (fun h => (Or.inr (Or.inr (Or.inr (Or.inr (Or.inr (Or.inr (Or.inr (Or.inr (Or.inr (Or.inr (Or.inr (Or.inr (Or.inr (Or.inr (Or.inr (Or.inr (Or.inr (Or.inr (Or.inr (Or.inr (Or.inr (Or.inr (Or.inr (Or.inr (Or.inr (Or.inr (Or.inr (Or.inr (Or.inr (Or.inr (Or.inr (Or.inr (Or.inl ⟨h.1, h.2⟩)))))))))))))))))))))))))))))))))) (fun h => h.elim (fun h => (Or.inr (Or.inr (Or.inr (Or.inr (Or.inr (Or.inr (Or.inr (Or.inr (Or.inr (Or.inr (Or.inr (Or.inr (Or.inr (Or.inr (Or.inr (Or.inr (Or.inr (Or.inr (Or.inr (Or.inr (Or.inr (Or.inr (Or.inr (Or.inr (Or.inr (Or.inr (Or.inr (Or.inr (Or.inr (Or.inr (Or.inr (Or.inr (Or.inr (Or.inl ⟨h.1, h.2⟩))))))))))))))))))))))))))))))))))) (fun h => h.elim))))))))))))))))))))))))))))))))))))
    refine w_aload_n dX11_restore_24 rfl 0 rfl ?_
    refine w_getR (c' := (10, 0, 0)) fl_RX11_10 rfl rfl ic_11 dX11_restore_25 rfl ?_
    refine w_getI fl_RX11_290 rfl rfl (ic_10 (by decide)) dX11_restore_28 (fun z11_ e12_ => ?_)
    exact w_iret rfl dX11_restore_31 ⟨hI7_, hF9_, trivial, ⟨z1_, e2_, (Or.inl ⟨h3_, M4_, hI7_, hF8_, hs10_, z11_, e12_, rfl, rfl⟩)⟩⟩
  · refine w_aload_n dX11_restore_7 rfl 0 rfl ?_
    refine w_iconst (v := 2) dX11_restore_8 (by decide) ?_
    refine w_callV (as := [vI 2]) (rest := []) (c_X11_error l G cy ad (d + 3) 2 Mz hIz) kV_X11_error pnn_0 (Nat.le_of_ble_eq_true rfl) m_500 rfl rfl rfl ic_11 rfl rfl (by decide) (Nat.le_of_ble_eq_true rfl) dX11_restore_9 (fun r13_ M14_ q15_ => ?_)
    obtain ⟨hI17_, hF18_, h16_, hs20_⟩ := q15_
    have hF19_ := hFz.tr hF18_ (fun c k => (fun h => h.elim (fun h => (Or.inr (Or.inr (Or.inr (Or.inr (Or.inr (Or.inr (Or.inr (Or.inr (Or.inr (Or.inr (Or.inr (Or.inr (Or.inr (Or.inr (Or.inr (Or.inr (Or.inr (Or.inr (Or.inr (Or.inr (Or.inr (Or.inr (Or.inr (Or.inr (Or.inr (Or.inr (Or.inr (Or.inr (Or.inr (Or.inr (Or.inr (Or.inr (Or.inr (Or.inr (Or.inl ⟨h.1, h.2⟩)))))))))))))))))))))))))))))))))))) (fun h => h.elim)))
    exact w_iret rfl dX11_restore_12 ⟨hI17_, hF19_, trivial, ⟨z1_, e2_, (Or.inr ⟨h3_, M14_, hI17_, hF18_, r13_, hs20_, rfl, rfl⟩)⟩⟩
def S_c_X11_tell : rf → Nat → Prop := fun c k => (c.1 = 33 ∧ c.2.1 = 0 ∧ c.2.2 = 1) ∨ (c.1 = 5 ∧ c.2.1 = 0 ∧ c.2.2 = 1 ∧ k = 1) ∨ (c.1 = 44 ∧ c.2.1 = 0) ∨ False
def SP_X11_tell (v : Int32) (Mz : mM) (r_ : Int32) (M_ : mM) : Prop := ∃ r1_ : Int32, (SP_X5_room 0 1 Mz r1_) ∧ (((¬ r1_.toInt = 0) ∧ ∃ M7_ : mM, (Inv M7_) ∧ (FR (S_c_X5_add 0 1) Mz M7_) ∧ (SP_X5_add 0 1 v Mz M7_) ∧ ∃ z14_ : Int32, (z14_ = M7_.1 (5, 0, 1) 1) ∧ r_ = z14_ ∧ M_ = M7_) ∨ ((r1_.toInt = 0) ∧ ∃ M17_ : mM, (Inv M17_) ∧ (FR (S_c_X11_error) Mz M17_) ∧ ∃ r16_ : Int32, (SP_X11_error 4 Mz r16_ M17_) ∧ r_ = r16_ ∧ M_ = M17_))
set_option maxHeartbeats 4000000 in
set_option maxRecDepth 100000 in
theorem c_X11_tell (l : Launch) (G : va_G) (cy : Nat → ClassId) (ad : rf → Nat) (d : Nat) (v : Int32) (Mz : mM) (hIz : Inv Mz) : WP CC l G cy ad yX11_tell cX11_tell 2 (some .int) (d + 1) 0 [(0, vR (11, 0, 0)), (1, vI v)] [] Mz (fun r M' => Inv M' ∧ FR (S_c_X11_tell) Mz M' ∧ (True) ∧ SP_X11_tell v Mz r M') := by
  have hFz : FR (S_c_X11_tell) Mz Mz := FR.self
  refine w_aload_n dX11_tell_0 rfl 0 rfl ?_
  refine w_getR (c' := (10, 0, 0)) fl_RX11_10 rfl rfl ic_11 dX11_tell_1 rfl ?_
  refine w_getR (c' := (5, 0, 1)) fl_RX11_385 rfl rfl (ic_10 (by decide)) dX11_tell_4 rfl ?_
  refine w_callV (as := []) (rest := []) (c_X5_room l G cy ad d 0 1 Mz hIz (by first | decide | (unfold vF; omega) | (unfold vRw; omega))) kV_X5_room pnn_2 (Nat.le_of_ble_eq_true rfl) m_669 rfl rfl rfl (ic_5 (by unfold vRw; omega)) rfl rfl (by decide) (Nat.le_of_ble_eq_true rfl) dX11_tell_7 (fun r1_ M2_ q3_ => ?_)
  obtain ⟨rfl, h4_, hs5_⟩ := q3_
  refine w_if_ne (tgt := 19) dX11_tell_10 (by decide) (rfl : r1_.toInt = r1_.toInt) (fun h6_ => ?_) (fun h6_ => ?_)
  · refine w_aload_n dX11_tell_19 rfl 0 rfl ?_
    refine w_getR (c' := (10, 0, 0)) fl_RX11_10 rfl rfl ic_11 dX11_tell_20 rfl ?_
    refine w_getR (c' := (5, 0, 1)) fl_RX11_385 rfl rfl (ic_10 (by decide)) dX11_tell_23 rfl ?_
    refine w_iload_n dX11_tell_26 rfl 1 rfl ?_
    refine w_callVv (as := [vI v]) (rest := []) (c_X5_add l G cy ad d 0 1 v Mz hIz (by first | decide | (unfold vF; omega) | (unfold vRw; omega))) kV_X5_add pnn_2 (Nat.le_of_ble_eq_true rfl) m_673 rfl rfl rfl (ic_5 (by unfold vRw; omega)) rfl rfl (by decide) (Nat.le_of_ble_eq_true rfl) dX11_tell_27 (fun M7_ q8_ => ?_)
    obtain ⟨hI10_, hF11_, h9_, hs13_⟩ := q8_
    have hF12_ := hFz.tr hF11_ (fun c k => (fun h => h.elim (fun h => (Or.inl ⟨h.1, h.2.1, h.2.2⟩)) (fun h => h.elim (fun h => (Or.inr (Or.inl ⟨h.1, h.2.1, h.2.2.1, h.2.2.2⟩))) (fun h => h.elim))))
    refine w_aload_n dX11_tell_30 rfl 0 rfl ?_
    refine w_getR (c' := (10, 0, 0)) fl_RX11_10 rfl rfl ic_11 dX11_tell_31 rfl ?_
    refine w_getR (c' := (5, 0, 1)) fl_RX11_385 rfl rfl (ic_10 (by decide)) dX11_tell_34 rfl ?_
    refine w_getI fl_RX11_205 rfl rfl (ic_5 (by unfold vRw; omega)) dX11_tell_37 (fun z14_ e15_ => ?_)
    exact w_iret rfl dX11_tell_40 ⟨hI10_, hF12_, trivial, ⟨r1_, hs5_, (Or.inl ⟨h6_, M7_, hI10_, hF11_, hs13_, z14_, e15_, rfl, rfl⟩)⟩⟩
  · refine w_aload_n dX11_tell_13 rfl 0 rfl ?_
    refine w_iconst (v := 4) dX11_tell_14 (by decide) ?_
    refine w_callV (as := [vI 4]) (rest := []) (c_X11_error l G cy ad d 4 Mz hIz) kV_X11_error pnn_0 (Nat.le_of_ble_eq_true rfl) m_500 rfl rfl rfl ic_11 rfl rfl (by decide) (Nat.le_of_ble_eq_true rfl) dX11_tell_15 (fun r16_ M17_ q18_ => ?_)
    obtain ⟨hI20_, hF21_, h19_, hs23_⟩ := q18_
    have hF22_ := hFz.tr hF21_ (fun c k => (fun h => h.elim (fun h => (Or.inr (Or.inr (Or.inl ⟨h.1, h.2⟩)))) (fun h => h.elim)))
    exact w_iret rfl dX11_tell_18 ⟨hI20_, hF22_, trivial, ⟨r1_, hs5_, (Or.inr ⟨h6_, M17_, hI20_, hF21_, r16_, hs23_, rfl, rfl⟩)⟩⟩
def S_c_X11_check : rf → Nat → Prop := fun c k => (c.1 = 35 ∧ c.2.1 = 2) ∨ (c.1 = 36 ∧ c.2.1 = 2) ∨ (c.1 = 37 ∧ c.2.1 = 2) ∨ (c.1 = 38 ∧ c.2.1 = 2) ∨ (c.1 = 39 ∧ c.2.1 = 2) ∨ (c.1 = 7 ∧ c.2.1 = 2 ∧ k = 5) ∨ (c.1 = 2 ∧ c.2.1 = 2 ∧ k = 0) ∨ (c.1 = 2 ∧ c.2.1 = 2 ∧ k = 1) ∨ (c.1 = 2 ∧ c.2.1 = 2 ∧ k = 2) ∨ (c.1 = 26 ∧ c.2.1 = 2) ∨ (c.1 = 27 ∧ c.2.1 = 2) ∨ (c.1 = 1 ∧ c.2.1 = 2 ∧ k = 2) ∨ (c.1 = 24 ∧ c.2.1 = 2) ∨ (c.1 = 30 ∧ c.2.1 = 2) ∨ (c.1 = 31 ∧ c.2.1 = 2) ∨ (c.1 = 32 ∧ c.2.1 = 2) ∨ (c.1 = 3 ∧ c.2.1 = 2 ∧ k = 3) ∨ (c.1 = 5 ∧ c.2.1 = 2 ∧ c.2.2 = 0 ∧ k = 1) ∨ (c.1 = 33 ∧ c.2.1 = 2 ∧ c.2.2 = 0) ∨ (c.1 = 5 ∧ c.2.1 = 2 ∧ c.2.2 = 1 ∧ k = 1) ∨ (c.1 = 33 ∧ c.2.1 = 2 ∧ c.2.2 = 1) ∨ (c.1 = 10 ∧ c.2.1 = 2 ∧ k = 6) ∨ (c.1 = 10 ∧ c.2.1 = 2 ∧ k = 7) ∨ (c.1 = 9 ∧ c.2.1 = 2 ∧ k = 0) ∨ (c.1 = 9 ∧ c.2.1 = 2 ∧ k = 1) ∨ (c.1 = 9 ∧ c.2.1 = 2 ∧ k = 2) ∨ (c.1 = 9 ∧ c.2.1 = 2 ∧ k = 3) ∨ (c.1 = 9 ∧ c.2.1 = 2 ∧ k = 4) ∨ (c.1 = 9 ∧ c.2.1 = 2 ∧ k = 5) ∨ (c.1 = 9 ∧ c.2.1 = 2 ∧ k = 6) ∨ (c.1 = 9 ∧ c.2.1 = 2 ∧ k = 7) ∨ (c.1 = 9 ∧ c.2.1 = 2 ∧ k = 8) ∨ (c.1 = 40 ∧ c.2.1 = 2) ∨ (c.1 = 41 ∧ c.2.1 = 2) ∨ (c.1 = 5 ∧ c.2.1 = 0 ∧ c.2.2 = 1 ∧ k = 1) ∨ (c.1 = 29 ∧ c.2.1 = 2 ∧ k = 0) ∨ (c.1 = 29 ∧ c.2.1 = 2 ∧ k = 1) ∨ (c.1 = 29 ∧ c.2.1 = 2 ∧ k = 2) ∨ (c.1 = 29 ∧ c.2.1 = 2 ∧ k = 3) ∨ (c.1 = 29 ∧ c.2.1 = 2 ∧ k = 4) ∨ (c.1 = 25 ∧ c.2.1 = 2 ∧ c.2.2 = 2) ∨ (c.1 = 25 ∧ c.2.1 = 2 ∧ c.2.2 = 0) ∨ (c.1 = 25 ∧ c.2.1 = 2 ∧ c.2.2 = 1) ∨ (c.1 = 44 ∧ c.2.1 = 0) ∨ False
def ST_X11_check_50 (v : Int32) (Mz : mM) (v2_50 : Int32) (M_50 : mM) (v2_50y : Int32) (M_50y : mM) : Prop := (0 ≤ v2_50.toInt) ∧ (Inv M_50) ∧ (FR (S_c_X11_check) Mz M_50) ∧ ∃ z22_ : Int32, (z22_ = M_50.1 (5, 2, 1) 1) ∧ (v2_50.toInt < z22_.toInt) ∧ ∃ M25_ : mM, (Inv M25_) ∧ (FR (S_c_X10_passTenth 2) M_50 M25_) ∧ (SP_X10_passTenth 2 M_50 M25_) ∧ ∃ j32_ : Nat, ((j32_ : Int) = v.toInt) ∧ (j32_ < 8) ∧ ∃ z35_ : Int32, (z35_ = M25_.1 (9, 2, j32_) 1) ∧ ∃ r37_ : Int32, (SP_X5_get 2 1 v2_50 M25_ r37_) ∧ (z35_.toInt = r37_.toInt) ∧ ∃ z43_ : Int32, (z43_.toInt = v2_50.toInt + 1) ∧ v2_50y = z43_ ∧ M_50y = M25_
def SP_X11_check (v : Int32) (Mz : mM) (r_ : Int32) (M_ : mM) : Prop := (((SP_X10_hasWalker 0 v Mz (1 : Int32)) ∧ (0 ≤ v.toInt ∧ v.toInt ≤ 7) ∧ ∃ M7_ : mM, (Inv M7_) ∧ (FR (S_c_X10_takeFrom 2 0) Mz M7_) ∧ (SP_X10_takeFrom 2 0 Mz M7_) ∧ ∃ M14_ : mM, (Inv M14_) ∧ (FR (S_c_X5_clear 0 1) M7_ M14_) ∧ (SP_X5_clear 0 1 M7_ M14_) ∧ ∃ v2_50 : Int32, (0 ≤ v2_50.toInt) ∧ ∃ M_50 : mM, (RCH (fun x_ y_ => ST_X11_check_50 v Mz x_.1 x_.2 y_.1 y_.2) ((0 : Int32), M14_) (v2_50, M_50)) ∧ (Inv M_50) ∧ (FR (S_c_X11_check) Mz M_50) ∧ ∃ z22_ : Int32, (z22_ = M_50.1 (5, 2, 1) 1) ∧ (((z22_.toInt ≤ v2_50.toInt) ∧ r_ = 0 ∧ M_ = M_50) ∨ ((v2_50.toInt < z22_.toInt) ∧ ∃ M25_ : mM, (Inv M25_) ∧ (FR (S_c_X10_passTenth 2) M_50 M25_) ∧ (SP_X10_passTenth 2 M_50 M25_) ∧ ∃ j32_ : Nat, ((j32_ : Int) = v.toInt) ∧ (j32_ < 8) ∧ ∃ z35_ : Int32, (z35_ = M25_.1 (9, 2, j32_) 1) ∧ ∃ r37_ : Int32, (SP_X5_get 2 1 v2_50 M25_ r37_) ∧ (¬ z35_.toInt = r37_.toInt) ∧ ∃ z45_ : Int32, (z45_.toInt = 1 + v2_50.toInt) ∧ r_ = z45_ ∧ M_ = M25_))) ∨ ((SP_X10_hasWalker 0 v Mz (0 : Int32)) ∧ ∃ M48_ : mM, (Inv M48_) ∧ (FR (S_c_X5_clear 0 1) Mz M48_) ∧ (SP_X5_clear 0 1 Mz M48_) ∧ ∃ M56_ : mM, (Inv M56_) ∧ (FR (S_c_X11_error) M48_ M56_) ∧ ∃ r55_ : Int32, (SP_X11_error 1 M48_ r55_ M56_) ∧ r_ = r55_ ∧ M_ = M56_))
theorem lf_c_X11_check_4 (v2_50 : Int32) (z22_ : Int32) (hv0_50 : 0 ≤ v2_50.toInt) (h24_ : v2_50.toInt < z22_.toInt) : -2147483648 ≤ 1 + v2_50.toInt ∧ 1 + v2_50.toInt < 2147483648 := by have r_z22_ := rngI z22_; omega
set_option maxHeartbeats 4000000 in
set_option maxRecDepth 100000 in
theorem c_X11_check (l : Launch) (G : va_G) (cy : Nat → ClassId) (ad : rf → Nat) (d : Nat) (v : Int32) (Mz : mM) (hIz : Inv Mz) : WP CC l G cy ad yX11_check cX11_check 3 (some .int) (d + 7) 0 [(0, vR (11, 0, 0)), (1, vI v)] [] Mz (fun r M' => Inv M' ∧ FR (S_c_X11_check) Mz M' ∧ (True) ∧ SP_X11_check v Mz r M') := by
  have hFz : FR (S_c_X11_check) Mz Mz := FR.self
  refine w_aload_n dX11_check_0 rfl 0 rfl ?_
  refine w_getR (c' := (10, 0, 0)) fl_RX11_10 rfl rfl ic_11 dX11_check_1 rfl ?_
  refine w_iload_n dX11_check_4 rfl 1 rfl ?_
  refine w_callV (as := [vI v]) (rest := []) (c_X10_hasWalker l G cy ad (d + 6) 0 v Mz hIz (by first | decide | (unfold vF; omega) | (unfold vRw; omega))) kV_X10_hasWalker pnn_7 (Nat.le_of_ble_eq_true rfl) m_609 rfl rfl rfl (ic_10 (by decide)) rfl rfl (by decide) (Nat.le_of_ble_eq_true rfl) dX11_check_5 (fun r1_ M2_ q3_ => ?_)
  obtain ⟨rfl, h4_, hs5_⟩ := q3_
  rcases h4_ with ⟨rfl, h4_⟩ | rfl
  · refine w_if_ne (tgt := 27) dX11_check_8 (by decide) li_1 (fun h6_ => ?_) (fun h9 => (absurd h9 (by decide)))
    refine w_aload_n dX11_check_27 rfl 0 rfl ?_
    refine w_getR (c' := (10, 2, 0)) fl_RX11_19 rfl rfl ic_11 dX11_check_28 rfl ?_
    refine w_aload_n dX11_check_31 rfl 0 rfl ?_
    refine w_getR (c' := (10, 0, 0)) fl_RX11_10 rfl rfl ic_11 dX11_check_32 rfl ?_
    refine w_callVv (as := [vR (10, 0, 0)]) (rest := []) (c_X10_takeFrom l G cy ad (d + 3) 2 0 Mz hIz (by first | decide | (unfold vF; omega) | (unfold vRw; omega)) (by first | decide | (unfold vF; omega) | (unfold vRw; omega))) kV_X10_takeFrom pnn_7 (Nat.le_of_ble_eq_true rfl) m_1254 rfl rfl rfl (ic_10 (by decide)) rfl rfl (by decide) (Nat.le_of_ble_eq_true rfl) dX11_check_35 (fun M7_ q8_ => ?_)
    obtain ⟨hI10_, hF11_, h9_, hs13_⟩ := q8_
    have hF12_ := hFz.tr hF11_ (fun c k => (fun h => h.elim (fun h => (Or.inl ⟨h.1, h.2⟩)) (fun h => h.elim (fun h => (Or.inr (Or.inl ⟨h.1, h.2⟩))) (fun h => h.elim (fun h => (Or.inr (Or.inr (Or.inl ⟨h.1, h.2⟩)))) (fun h => h.elim (fun h => (Or.inr (Or.inr (Or.inr (Or.inl ⟨h.1, h.2⟩))))) (fun h => h.elim (fun h => (Or.inr (Or.inr (Or.inr (Or.inr (Or.inl ⟨h.1, h.2⟩)))))) (fun h => h.elim (fun h => (Or.inr (Or.inr (Or.inr (Or.inr (Or.inr (Or.inl ⟨h.1, h.2.1, h.2.2⟩))))))) (fun h => h.elim (fun h => (Or.inr (Or.inr (Or.inr (Or.inr (Or.inr (Or.inr (Or.inl ⟨h.1, h.2.1, h.2.2⟩)))))))) (fun h => h.elim (fun h => (Or.inr (Or.inr (Or.inr (Or.inr (Or.inr (Or.inr (Or.inr (Or.inl ⟨h.1, h.2.1, h.2.2⟩))))))))) (fun h => h.elim (fun h => (Or.inr (Or.inr (Or.inr (Or.inr (Or.inr (Or.inr (Or.inr (Or.inr (Or.inl ⟨h.1, h.2.1, h.2.2⟩)))))))))) (fun h => h.elim (fun h => (Or.inr (Or.inr (Or.inr (Or.inr (Or.inr (Or.inr (Or.inr (Or.inr (Or.inr (Or.inl ⟨h.1, h.2⟩))))))))))) (fun h => h.elim (fun h => (Or.inr (Or.inr (Or.inr (Or.inr (Or.inr (Or.inr (Or.inr (Or.inr (Or.inr (Or.inr (Or.inl ⟨h.1, h.2⟩)))))))))))) (fun h => h.elim (fun h => (Or.inr (Or.inr (Or.inr (Or.inr (Or.inr (Or.inr (Or.inr (Or.inr (Or.inr (Or.inr (Or.inr (Or.inl ⟨h.1, h.2.1, h.2.2⟩))))))))))))) (fun h => h.elim (fun h => (Or.inr (Or.inr (Or.inr (Or.inr (Or.inr (Or.inr (Or.inr (Or.inr (Or.inr (Or.inr (Or.inr (Or.inr (Or.inl ⟨h.1, h.2⟩)))))))))))))) (fun h => h.elim (fun h => (Or.inr (Or.inr (Or.inr (Or.inr (Or.inr (Or.inr (Or.inr (Or.inr (Or.inr (Or.inr (Or.inr (Or.inr (Or.inr (Or.inl ⟨h.1, h.2⟩))))))))))))))) (fun h => h.elim (fun h => (Or.inr (Or.inr (Or.inr (Or.inr (Or.inr (Or.inr (Or.inr (Or.inr (Or.inr (Or.inr (Or.inr (Or.inr (Or.inr (Or.inr (Or.inl ⟨h.1, h.2⟩)))))))))))))))) (fun h => h.elim (fun h => (Or.inr (Or.inr (Or.inr (Or.inr (Or.inr (Or.inr (Or.inr (Or.inr (Or.inr (Or.inr (Or.inr (Or.inr (Or.inr (Or.inr (Or.inr (Or.inl ⟨h.1, h.2⟩))))))))))))))))) (fun h => h.elim (fun h => (Or.inr (Or.inr (Or.inr (Or.inr (Or.inr (Or.inr (Or.inr (Or.inr (Or.inr (Or.inr (Or.inr (Or.inr (Or.inr (Or.inr (Or.inr (Or.inr (Or.inl ⟨h.1, h.2.1, h.2.2⟩)))))))))))))))))) (fun h => h.elim (fun h => (Or.inr (Or.inr (Or.inr (Or.inr (Or.inr (Or.inr (Or.inr (Or.inr (Or.inr (Or.inr (Or.inr (Or.inr (Or.inr (Or.inr (Or.inr (Or.inr (Or.inr (Or.inl ⟨h.1, h.2.1, h.2.2.1, h.2.2.2⟩))))))))))))))))))) (fun h => h.elim (fun h => (Or.inr (Or.inr (Or.inr (Or.inr (Or.inr (Or.inr (Or.inr (Or.inr (Or.inr (Or.inr (Or.inr (Or.inr (Or.inr (Or.inr (Or.inr (Or.inr (Or.inr (Or.inr (Or.inl ⟨h.1, h.2.1, h.2.2⟩)))))))))))))))))))) (fun h => h.elim (fun h => (Or.inr (Or.inr (Or.inr (Or.inr (Or.inr (Or.inr (Or.inr (Or.inr (Or.inr (Or.inr (Or.inr (Or.inr (Or.inr (Or.inr (Or.inr (Or.inr (Or.inr (Or.inr (Or.inr (Or.inl ⟨h.1, h.2.1, h.2.2.1, h.2.2.2⟩))))))))))))))))))))) (fun h => h.elim (fun h => (Or.inr (Or.inr (Or.inr (Or.inr (Or.inr (Or.inr (Or.inr (Or.inr (Or.inr (Or.inr (Or.inr (Or.inr (Or.inr (Or.inr (Or.inr (Or.inr (Or.inr (Or.inr (Or.inr (Or.inr (Or.inl ⟨h.1, h.2.1, h.2.2⟩)))))))))))))))))))))) (fun h => h.elim (fun h => (Or.inr (Or.inr (Or.inr (Or.inr (Or.inr (Or.inr (Or.inr (Or.inr (Or.inr (Or.inr (Or.inr (Or.inr (Or.inr (Or.inr (Or.inr (Or.inr (Or.inr (Or.inr (Or.inr (Or.inr (Or.inr (Or.inl ⟨h.1, h.2.1, h.2.2⟩))))))))))))))))))))))) (fun h => h.elim (fun h => (Or.inr (Or.inr (Or.inr (Or.inr (Or.inr (Or.inr (Or.inr (Or.inr (Or.inr (Or.inr (Or.inr (Or.inr (Or.inr (Or.inr (Or.inr (Or.inr (Or.inr (Or.inr (Or.inr (Or.inr (Or.inr (Or.inr (Or.inl ⟨h.1, h.2.1, h.2.2⟩)))))))))))))))))))))))) (fun h => h.elim (fun h => (Or.inr (Or.inr (Or.inr (Or.inr (Or.inr (Or.inr (Or.inr (Or.inr (Or.inr (Or.inr (Or.inr (Or.inr (Or.inr (Or.inr (Or.inr (Or.inr (Or.inr (Or.inr (Or.inr (Or.inr (Or.inr (Or.inr (Or.inr (Or.inl ⟨h.1, h.2.1, h.2.2⟩))))))))))))))))))))))))) (fun h => h.elim (fun h => (Or.inr (Or.inr (Or.inr (Or.inr (Or.inr (Or.inr (Or.inr (Or.inr (Or.inr (Or.inr (Or.inr (Or.inr (Or.inr (Or.inr (Or.inr (Or.inr (Or.inr (Or.inr (Or.inr (Or.inr (Or.inr (Or.inr (Or.inr (Or.inr (Or.inl ⟨h.1, h.2.1, h.2.2⟩)))))))))))))))))))))))))) (fun h => h.elim (fun h => (Or.inr (Or.inr (Or.inr (Or.inr (Or.inr (Or.inr (Or.inr (Or.inr (Or.inr (Or.inr (Or.inr (Or.inr (Or.inr (Or.inr (Or.inr (Or.inr (Or.inr (Or.inr (Or.inr (Or.inr (Or.inr (Or.inr (Or.inr (Or.inr (Or.inr (Or.inl ⟨h.1, h.2.1, h.2.2⟩))))))))))))))))))))))))))) (fun h => h.elim (fun h => (Or.inr (Or.inr (Or.inr (Or.inr (Or.inr (Or.inr (Or.inr (Or.inr (Or.inr (Or.inr (Or.inr (Or.inr (Or.inr (Or.inr (Or.inr (Or.inr (Or.inr (Or.inr (Or.inr (Or.inr (Or.inr (Or.inr (Or.inr (Or.inr (Or.inr (Or.inr (Or.inl ⟨h.1, h.2.1, h.2.2⟩)))))))))))))))))))))))))))) (fun h => h.elim (fun h => (Or.inr (Or.inr (Or.inr (Or.inr (Or.inr (Or.inr (Or.inr (Or.inr (Or.inr (Or.inr (Or.inr (Or.inr (Or.inr (Or.inr (Or.inr (Or.inr (Or.inr (Or.inr (Or.inr (Or.inr (Or.inr (Or.inr (Or.inr (Or.inr (Or.inr (Or.inr (Or.inr (Or.inl ⟨h.1, h.2.1, h.2.2⟩))))))))))))))))))))))))))))) (fun h => h.elim (fun h => (Or.inr (Or.inr (Or.inr (Or.inr (Or.inr (Or.inr (Or.inr (Or.inr (Or.inr (Or.inr (Or.inr (Or.inr (Or.inr (Or.inr (Or.inr (Or.inr (Or.inr (Or.inr (Or.inr (Or.inr (Or.inr (Or.inr (Or.inr (Or.inr (Or.inr (Or.inr (Or.inr (Or.inr (Or.inl ⟨h.1, h.2.1, h.2.2⟩)))))))))))))))))))))))))))))) (fun h => h.elim (fun h => (Or.inr (Or.inr (Or.inr (Or.inr (Or.inr (Or.inr (Or.inr (Or.inr (Or.inr (Or.inr (Or.inr (Or.inr (Or.inr (Or.inr (Or.inr (Or.inr (Or.inr (Or.inr (Or.inr (Or.inr (Or.inr (Or.inr (Or.inr (Or.inr (Or.inr (Or.inr (Or.inr (Or.inr (Or.inr (Or.inl ⟨h.1, h.2.1, h.2.2⟩))))))))))))))))))))))))))))))) (fun h => h.elim (fun h => (Or.inr (Or.inr (Or.inr (Or.inr (Or.inr (Or.inr (Or.inr (Or.inr (Or.inr (Or.inr (Or.inr (Or.inr (Or.inr (Or.inr (Or.inr (Or.inr (Or.inr (Or.inr (Or.inr (Or.inr (Or.inr (Or.inr (Or.inr (Or.inr (Or.inr (Or.inr (Or.inr (Or.inr (Or.inr (Or.inr (Or.inl ⟨h.1, h.2.1, h.2.2⟩)))))))))))))))))))))))))))))))) (fun h => h.elim (fun h => (Or.inr (Or.inr (Or.inr (Or.inr (Or.inr (Or.inr (Or.inr (Or.inr (Or.inr (Or.inr (Or.inr (Or.inr (Or.inr (Or.inr (Or.inr (Or.inr (Or.inr (Or.inr (Or.inr (Or.inr (Or.inr (Or.inr (Or.inr (Or.inr (Or.inr (Or.inr (Or.inr (Or.inr (Or.inr (Or.inr (Or.inr (Or.inl ⟨h.1, h.2.1, h.2.2⟩))))))))))))))))))))))))))))))))) (fun h => h.elim (fun h => (Or.inr (Or.inr (Or.inr (Or.inr (Or.inr (Or.inr (Or.inr (Or.inr (Or.inr (Or.inr (Or.inr (Or.inr (Or.inr (Or.inr (Or.inr (Or.inr (Or.inr (Or.inr (Or.inr (Or.inr (Or.inr (Or.inr (Or.inr (Or.inr (Or.inr (Or.inr (Or.inr (Or.inr (Or.inr (Or.inr (Or.inr (Or.inr (Or.inl ⟨h.1, h.2⟩)))))))))))))))))))))))))))))))))) (fun h => h.elim (fun h => (Or.inr (Or.inr (Or.inr (Or.inr (Or.inr (Or.inr (Or.inr (Or.inr (Or.inr (Or.inr (Or.inr (Or.inr (Or.inr (Or.inr (Or.inr (Or.inr (Or.inr (Or.inr (Or.inr (Or.inr (Or.inr (Or.inr (Or.inr (Or.inr (Or.inr (Or.inr (Or.inr (Or.inr (Or.inr (Or.inr (Or.inr (Or.inr (Or.inr (Or.inl ⟨h.1, h.2⟩))))))))))))))))))))))))))))))))))) (fun h => h.elim))))))))))))))))))))))))))))))))))))
    refine w_aload_n dX11_check_38 rfl 0 rfl ?_
    refine w_getR (c' := (10, 0, 0)) fl_RX11_10 rfl rfl ic_11 dX11_check_39 rfl ?_
    refine w_getR (c' := (5, 0, 1)) fl_RX11_385 rfl rfl (ic_10 (by decide)) dX11_check_42 rfl ?_
    refine w_callVv (as := []) (rest := []) (c_X5_clear l G cy ad (d + 6) 0 1 M7_ hI10_ (by first | decide | (unfold vF; omega) | (unfold vRw; omega))) kV_X5_clear pnn_2 (Nat.le_of_ble_eq_true rfl) m_831 rfl rfl rfl (ic_5 (by unfold vRw; omega)) rfl rfl (by decide) (Nat.le_of_ble_eq_true rfl) dX11_check_45 (fun M14_ q15_ => ?_)
    obtain ⟨hI17_, hF18_, h16_, hs20_⟩ := q15_
    have hF19_ := hF12_.tr hF18_ (fun c k => (fun h => h.elim (fun h => (Or.inr (Or.inr (Or.inr (Or.inr (Or.inr (Or.inr (Or.inr (Or.inr (Or.inr (Or.inr (Or.inr (Or.inr (Or.inr (Or.inr (Or.inr (Or.inr (Or.inr (Or.inr (Or.inr (Or.inr (Or.inr (Or.inr (Or.inr (Or.inr (Or.inr (Or.inr (Or.inr (Or.inr (Or.inr (Or.inr (Or.inr (Or.inr (Or.inr (Or.inr (Or.inl ⟨h.1, h.2.1, h.2.2.1, h.2.2.2⟩)))))))))))))))))))))))))))))))))))) (fun h => h.elim)))
    refine w_iconst (v := 0) dX11_check_48 (by decide) ?_
    refine w_istore_n (ls' := [(2, vI 0), (0, vR (11, 0, 0)), (1, vI v)]) dX11_check_49 rfl (by decide) rfl ?_
    have lp21_ : ∀ (nn_50 : Nat) (M_50 : mM) (hI_50 : Inv M_50) (hF_50 : FR (S_c_X11_check) Mz M_50) (v2_50 : Int32) (hv0_50 : 0 ≤ v2_50.toInt) (hL_50 : RCH (fun x_ y_ => ST_X11_check_50 v Mz x_.1 x_.2 y_.1 y_.2) ((0 : Int32), M14_) (v2_50, M_50)), (2147483648 - v2_50.toInt).toNat < nn_50 → WP CC l G cy ad yX11_check cX11_check 3 (some .int) (d + 7) 50 [(2, vI v2_50), (0, vR (11, 0, 0)), (1, vI v)] [] M_50 (fun r M' => Inv M' ∧ FR (S_c_X11_check) Mz M' ∧ (True) ∧ SP_X11_check v Mz r M') := by
      intro nn_50
      induction nn_50 with
      | zero => intro M_50 hI_50 hF_50 v2_50 hv0_50 hL_50 hm_50; exact absurd hm_50 (Nat.not_lt_zero _)
      | succ nn_50 ih_50 =>
        intro M_50 hI_50 hF_50 v2_50 hv0_50 hL_50 hm_50
        refine w_iload_n dX11_check_50 rfl 0 rfl ?_
        refine w_aload_n dX11_check_51 rfl 1 rfl ?_
        refine w_getR (c' := (10, 2, 0)) fl_RX11_19 rfl rfl ic_11 dX11_check_52 rfl ?_
        refine w_getR (c' := (5, 2, 1)) fl_RX11_385 rfl rfl (ic_10 (by decide)) dX11_check_55 rfl ?_
        refine w_getI fl_RX11_205 rfl rfl (ic_5 (by unfold vRw; omega)) dX11_check_58 (fun z22_ e23_ => ?_)
        refine w_icmp_ge (tgt := 107) dX11_check_61 (by decide) (rfl : v2_50.toInt = v2_50.toInt) (rfl : z22_.toInt = z22_.toInt) (fun h24_ => ?_) (fun h24_ => ?_)
        · refine w_iconst (v := 0) dX11_check_107 (by decide) ?_
          exact w_iret rfl dX11_check_108 ⟨hI_50, hF_50, trivial, (Or.inl ⟨hs5_, h4_, M7_, hI10_, hF11_, hs13_, M14_, hI17_, hF18_, hs20_, v2_50, hv0_50, M_50, hL_50, hI_50, hF_50, z22_, e23_, (Or.inl ⟨h24_, rfl, rfl⟩)⟩)⟩
        · refine w_aload_n dX11_check_64 rfl 1 rfl ?_
          refine w_getR (c' := (10, 2, 0)) fl_RX11_19 rfl rfl ic_11 dX11_check_65 rfl ?_
          refine w_callVv (as := []) (rest := []) (c_X10_passTenth l G cy ad d 2 M_50 hI_50 (by first | decide | (unfold vF; omega) | (unfold vRw; omega))) kV_X10_passTenth pnn_7 (Nat.le_of_ble_eq_true rfl) m_1025 rfl rfl rfl (ic_10 (by decide)) rfl rfl (by decide) (Nat.le_of_ble_eq_true rfl) dX11_check_68 (fun M25_ q26_ => ?_)
          obtain ⟨hI28_, hF29_, h27_, hs31_⟩ := q26_
          have hF30_ := hF_50.tr hF29_ (fun c k => (fun h => h.elim (fun h => (Or.inr (Or.inr (Or.inr (Or.inr (Or.inr (Or.inr (Or.inr (Or.inr (Or.inr (Or.inr (Or.inr (Or.inr (Or.inr (Or.inr (Or.inr (Or.inr (Or.inr (Or.inr (Or.inr (Or.inr (Or.inr (Or.inr (Or.inl ⟨h.1, h.2.1, h.2.2⟩)))))))))))))))))))))))) (fun h => h.elim (fun h => (Or.inl ⟨h.1, h.2⟩)) (fun h => h.elim (fun h => (Or.inr (Or.inr (Or.inl ⟨h.1, h.2⟩)))) (fun h => h.elim (fun h => (Or.inr (Or.inr (Or.inr (Or.inl ⟨h.1, h.2⟩))))) (fun h => h.elim (fun h => (Or.inr (Or.inr (Or.inr (Or.inr (Or.inr (Or.inr (Or.inr (Or.inr (Or.inr (Or.inr (Or.inr (Or.inr (Or.inr (Or.inr (Or.inr (Or.inr (Or.inr (Or.inr (Or.inr (Or.inr (Or.inr (Or.inr (Or.inr (Or.inr (Or.inr (Or.inr (Or.inr (Or.inr (Or.inr (Or.inr (Or.inr (Or.inr (Or.inr (Or.inr (Or.inr (Or.inl ⟨h.1, h.2.1, h.2.2⟩))))))))))))))))))))))))))))))))))))) (fun h => h.elim (fun h => (Or.inr (Or.inr (Or.inr (Or.inr (Or.inr (Or.inr (Or.inr (Or.inr (Or.inr (Or.inr (Or.inr (Or.inr (Or.inr (Or.inr (Or.inr (Or.inr (Or.inr (Or.inr (Or.inr (Or.inr (Or.inr (Or.inr (Or.inr (Or.inr (Or.inr (Or.inr (Or.inr (Or.inr (Or.inr (Or.inr (Or.inr (Or.inr (Or.inr (Or.inr (Or.inr (Or.inr (Or.inl ⟨h.1, h.2.1, h.2.2⟩)))))))))))))))))))))))))))))))))))))) (fun h => h.elim (fun h => (Or.inr (Or.inr (Or.inr (Or.inr (Or.inr (Or.inr (Or.inr (Or.inr (Or.inr (Or.inr (Or.inr (Or.inr (Or.inr (Or.inr (Or.inr (Or.inr (Or.inr (Or.inr (Or.inr (Or.inr (Or.inr (Or.inr (Or.inr (Or.inr (Or.inr (Or.inr (Or.inr (Or.inr (Or.inr (Or.inr (Or.inr (Or.inr (Or.inr (Or.inr (Or.inr (Or.inr (Or.inr (Or.inl ⟨h.1, h.2.1, h.2.2⟩))))))))))))))))))))))))))))))))))))))) (fun h => h.elim (fun h => (Or.inr (Or.inr (Or.inr (Or.inr (Or.inr (Or.inr (Or.inr (Or.inr (Or.inr (Or.inr (Or.inr (Or.inr (Or.inr (Or.inr (Or.inr (Or.inr (Or.inr (Or.inr (Or.inr (Or.inr (Or.inr (Or.inr (Or.inr (Or.inr (Or.inr (Or.inr (Or.inr (Or.inr (Or.inr (Or.inr (Or.inr (Or.inr (Or.inr (Or.inr (Or.inr (Or.inr (Or.inr (Or.inr (Or.inl ⟨h.1, h.2.1, h.2.2⟩)))))))))))))))))))))))))))))))))))))))) (fun h => h.elim (fun h => (Or.inr (Or.inr (Or.inr (Or.inr (Or.inr (Or.inr (Or.inr (Or.inr (Or.inr (Or.inr (Or.inr (Or.inr (Or.inr (Or.inr (Or.inr (Or.inr (Or.inr (Or.inr (Or.inr (Or.inr (Or.inr (Or.inr (Or.inr (Or.inr (Or.inr (Or.inr (Or.inr (Or.inr (Or.inr (Or.inr (Or.inr (Or.inr (Or.inr (Or.inr (Or.inr (Or.inr (Or.inr (Or.inr (Or.inr (Or.inl ⟨h.1, h.2.1, h.2.2⟩))))))))))))))))))))))))))))))))))))))))) (fun h => h.elim (fun h => (Or.inr (Or.inr (Or.inr (Or.inr (Or.inr (Or.inr (Or.inr (Or.inr (Or.inr (Or.inr (Or.inr (Or.inr (Or.inr (Or.inr (Or.inr (Or.inr (Or.inr (Or.inr (Or.inr (Or.inr (Or.inr (Or.inr (Or.inr (Or.inr (Or.inr (Or.inr (Or.inr (Or.inr (Or.inr (Or.inr (Or.inr (Or.inr (Or.inr (Or.inr (Or.inr (Or.inr (Or.inr (Or.inr (Or.inr (Or.inr (Or.inl ⟨h.1, h.2.1, h.2.2⟩)))))))))))))))))))))))))))))))))))))))))) (fun h => h.elim (fun h => (Or.inr (Or.inr (Or.inr (Or.inr (Or.inr (Or.inr (Or.inr (Or.inr (Or.inr (Or.inr (Or.inr (Or.inr (Or.inr (Or.inr (Or.inr (Or.inr (Or.inr (Or.inr (Or.inr (Or.inr (Or.inr (Or.inr (Or.inr (Or.inr (Or.inr (Or.inl ⟨h.1, h.2.1, h.2.2⟩))))))))))))))))))))))))))) (fun h => h.elim (fun h => (Or.inr (Or.inr (Or.inr (Or.inr (Or.inr (Or.inr (Or.inr (Or.inr (Or.inr (Or.inr (Or.inr (Or.inr (Or.inr (Or.inr (Or.inr (Or.inr (Or.inr (Or.inr (Or.inr (Or.inr (Or.inr (Or.inr (Or.inr (Or.inr (Or.inl ⟨h.1, h.2.1, h.2.2⟩)))))))))))))))))))))))))) (fun h => h.elim (fun h => (Or.inr (Or.inr (Or.inr (Or.inr (Or.inr (Or.inr (Or.inr (Or.inr (Or.inr (Or.inr (Or.inr (Or.inr (Or.inr (Or.inr (Or.inr (Or.inr (Or.inr (Or.inr (Or.inr (Or.inr (Or.inr (Or.inr (Or.inr (Or.inr (Or.inr (Or.inr (Or.inr (Or.inr (Or.inr (Or.inr (Or.inl ⟨h.1, h.2.1, h.2.2⟩)))))))))))))))))))))))))))))))) (fun h => h.elim (fun h => (Or.inr (Or.inr (Or.inr (Or.inr (Or.inr (Or.inr (Or.inr (Or.inr (Or.inr (Or.inr (Or.inr (Or.inr (Or.inr (Or.inr (Or.inr (Or.inr (Or.inr (Or.inr (Or.inr (Or.inr (Or.inr (Or.inr (Or.inr (Or.inr (Or.inr (Or.inr (Or.inr (Or.inr (Or.inr (Or.inr (Or.inr (Or.inr (Or.inl ⟨h.1, h.2⟩)))))))))))))))))))))))))))))))))) (fun h => h.elim (fun h => (Or.inr (Or.inr (Or.inr (Or.inr (Or.inr (Or.inr (Or.inr (Or.inr (Or.inr (Or.inr (Or.inr (Or.inr (Or.inr (Or.inr (Or.inr (Or.inr (Or.inr (Or.inr (Or.inr (Or.inr (Or.inr (Or.inr (Or.inr (Or.inr (Or.inr (Or.inr (Or.inr (Or.inr (Or.inr (Or.inr (Or.inr (Or.inl ⟨h.1, h.2.1, h.2.2⟩))))))))))))))))))))))))))))))))) (fun h => h.elim (fun h => (Or.inr (Or.inr (Or.inr (Or.inr (Or.inr (Or.inr (Or.inr (Or.inr (Or.inr (Or.inr (Or.inr (Or.inr (Or.inr (Or.inr (Or.inr (Or.inr (Or.inr (Or.inr (Or.inr (Or.inr (Or.inr (Or.inr (Or.inr (Or.inr (Or.inr (Or.inr (Or.inr (Or.inr (Or.inr (Or.inr (Or.inr (Or.inr (Or.inr (Or.inr (Or.inr (Or.inr (Or.inr (Or.inr (Or.inr (Or.inr (Or.inr (Or.inl ⟨h.1, h.2.1, h.2.2⟩))))))))))))))))))))))))))))))))))))))))))) (fun h => h.elim (fun h => (Or.inr (Or.inr (Or.inr (Or.inr (Or.inr (Or.inr (Or.inr (Or.inr (Or.inr (Or.inr (Or.inr (Or.inr (Or.inr (Or.inr (Or.inr (Or.inr (Or.inr (Or.inr (Or.inr (Or.inr (Or.inr (Or.inr (Or.inr (Or.inr (Or.inr (Or.inr (Or.inr (Or.inr (Or.inr (Or.inr (Or.inr (Or.inr (Or.inr (Or.inr (Or.inr (Or.inr (Or.inr (Or.inr (Or.inr (Or.inr (Or.inr (Or.inr (Or.inl ⟨h.1, h.2.1, h.2.2⟩)))))))))))))))))))))))))))))))))))))))))))) (fun h => h.elim (fun h => (Or.inr (Or.inr (Or.inr (Or.inr (Or.inr (Or.inr (Or.inr (Or.inr (Or.inr (Or.inr (Or.inr (Or.inr (Or.inr (Or.inr (Or.inr (Or.inr (Or.inr (Or.inr (Or.inr (Or.inr (Or.inr (Or.inr (Or.inr (Or.inr (Or.inr (Or.inr (Or.inr (Or.inr (Or.inr (Or.inr (Or.inr (Or.inr (Or.inr (Or.inl ⟨h.1, h.2⟩))))))))))))))))))))))))))))))))))) (fun h => h.elim))))))))))))))))))))
          refine w_aload_n dX11_check_71 rfl 1 rfl ?_
          refine w_getR (c' := (10, 2, 0)) fl_RX11_19 rfl rfl ic_11 dX11_check_72 rfl ?_
          refine w_getR (c' := (42, 2, 0)) fl_RX11_157 rfl rfl (ic_10 (by decide)) dX11_check_75 rfl ?_
          refine w_iload_n dX11_check_78 rfl 2 rfl ?_
          refine w_aald rfl rfl rfl (fun _ => rfl) (ic_42 (by decide)) (rfl : v.toInt = v.toInt) (lf_c_X7_cellFrom_2 v h4_ ) dX11_check_79 (fun j32_ h33_ h34_ => ?_)
          refine w_getI fl_RX11_229 rfl rfl (ic_9 (by decide) h34_) dX11_check_80 (fun z35_ e36_ => ?_)
          refine w_aload_n dX11_check_83 rfl 1 rfl ?_
          refine w_getR (c' := (10, 2, 0)) fl_RX11_19 rfl rfl ic_11 dX11_check_84 rfl ?_
          refine w_getR (c' := (5, 2, 1)) fl_RX11_385 rfl rfl (ic_10 (by decide)) dX11_check_87 rfl ?_
          refine w_iload_n dX11_check_90 rfl 0 rfl ?_
          refine w_callV (as := [vI v2_50]) (rest := [vI z35_]) (c_X5_get l G cy ad (d + 6) 2 1 v2_50 M25_ hI28_ (by first | decide | (unfold vF; omega) | (unfold vRw; omega))) kV_X5_get pnn_2 (Nat.le_of_ble_eq_true rfl) m_1154 rfl rfl rfl (ic_5 (by unfold vRw; omega)) rfl rfl (by decide) (Nat.le_of_ble_eq_true rfl) dX11_check_91 (fun r37_ M38_ q39_ => ?_)
          obtain ⟨rfl, h40_, hs41_⟩ := q39_
          refine w_icmp_eq (tgt := 101) dX11_check_94 (by decide) (rfl : z35_.toInt = z35_.toInt) (rfl : r37_.toInt = r37_.toInt) (fun h42_ => ?_) (fun h42_ => ?_)
          · refine w_iincB (j := 0) (f := fun z43_ => [(2, vI z43_), (0, vR (11, 0, 0)), (1, vI v)]) dX11_check_101 rfl (by decide) (fun _ => rfl) (rfl : v2_50.toInt = v2_50.toInt) li_1 (lf_c_X5_takeFrom_2 v2_50 z22_ hv0_50 h24_ ) (fun z43_ h44_ => ?_)
            refine w_goto (tgt := 50) dX11_check_104 (by decide) ?_
            refine w_loc (ls' := [(2, vI z43_), (0, vR (11, 0, 0)), (1, vI v)]) [0, 1, 2] rfl ?_
            exact ih_50 M25_ hI28_ hF30_ z43_ (lf_c_X5_takeFrom_3 v2_50 z43_ hv0_50 h44_ ) (RCH.tail hL_50 ⟨hv0_50, hI_50, hF_50, z22_, e23_, h24_, M25_, hI28_, hF29_, hs31_, j32_, h33_, h34_, z35_, e36_, r37_, hs41_, h42_, z43_, h44_, rfl, rfl⟩) (Nat.lt_of_lt_of_le (lf_c_X5_takeFrom_4 v2_50 z43_ h44_ ) (Nat.le_of_lt_succ hm_50))
          · refine w_iconst (v := 1) dX11_check_97 (by decide) ?_
            refine w_iload_n dX11_check_98 rfl 0 rfl ?_
            refine w_iaddB dX11_check_99 li_1 (rfl : v2_50.toInt = v2_50.toInt) (lf_c_X11_check_4 v2_50 z22_ hv0_50 h24_ ) (fun z45_ h46_ => ?_)
            exact w_iret rfl dX11_check_100 ⟨hI28_, hF30_, trivial, (Or.inl ⟨hs5_, h4_, M7_, hI10_, hF11_, hs13_, M14_, hI17_, hF18_, hs20_, v2_50, hv0_50, M_50, hL_50, hI_50, hF_50, z22_, e23_, (Or.inr ⟨h24_, M25_, hI28_, hF29_, hs31_, j32_, h33_, h34_, z35_, e36_, r37_, hs41_, h42_, z45_, h46_, rfl, rfl⟩)⟩)⟩
    exact lp21_ _ M14_ hI17_ hF19_ 0 (lf_c_X5_takeFrom_5 ) RCH.refl (Nat.lt_succ_self _)
  · refine w_if_ne (tgt := 27) dX11_check_8 (by decide) li_0 (fun h9 => (absurd h9 (by decide))) (fun h47_ => ?_)
    refine w_aload_n dX11_check_11 rfl 0 rfl ?_
    refine w_getR (c' := (10, 0, 0)) fl_RX11_10 rfl rfl ic_11 dX11_check_12 rfl ?_
    refine w_getR (c' := (5, 0, 1)) fl_RX11_385 rfl rfl (ic_10 (by decide)) dX11_check_15 rfl ?_
    refine w_callVv (as := []) (rest := []) (c_X5_clear l G cy ad (d + 6) 0 1 Mz hIz (by first | decide | (unfold vF; omega) | (unfold vRw; omega))) kV_X5_clear pnn_2 (Nat.le_of_ble_eq_true rfl) m_831 rfl rfl rfl (ic_5 (by unfold vRw; omega)) rfl rfl (by decide) (Nat.le_of_ble_eq_true rfl) dX11_check_18 (fun M48_ q49_ => ?_)
    obtain ⟨hI51_, hF52_, h50_, hs54_⟩ := q49_
    have hF53_ := hFz.tr hF52_ (fun c k => (fun h => h.elim (fun h => (Or.inr (Or.inr (Or.inr (Or.inr (Or.inr (Or.inr (Or.inr (Or.inr (Or.inr (Or.inr (Or.inr (Or.inr (Or.inr (Or.inr (Or.inr (Or.inr (Or.inr (Or.inr (Or.inr (Or.inr (Or.inr (Or.inr (Or.inr (Or.inr (Or.inr (Or.inr (Or.inr (Or.inr (Or.inr (Or.inr (Or.inr (Or.inr (Or.inr (Or.inr (Or.inl ⟨h.1, h.2.1, h.2.2.1, h.2.2.2⟩)))))))))))))))))))))))))))))))))))) (fun h => h.elim)))
    refine w_aload_n dX11_check_21 rfl 0 rfl ?_
    refine w_iconst (v := 1) dX11_check_22 (by decide) ?_
    refine w_callV (as := [vI 1]) (rest := []) (c_X11_error l G cy ad (d + 6) 1 M48_ hI51_) kV_X11_error pnn_0 (Nat.le_of_ble_eq_true rfl) m_500 rfl rfl rfl ic_11 rfl rfl (by decide) (Nat.le_of_ble_eq_true rfl) dX11_check_23 (fun r55_ M56_ q57_ => ?_)
    obtain ⟨hI59_, hF60_, h58_, hs62_⟩ := q57_
    have hF61_ := hF53_.tr hF60_ (fun c k => (fun h => h.elim (fun h => (Or.inr (Or.inr (Or.inr (Or.inr (Or.inr (Or.inr (Or.inr (Or.inr (Or.inr (Or.inr (Or.inr (Or.inr (Or.inr (Or.inr (Or.inr (Or.inr (Or.inr (Or.inr (Or.inr (Or.inr (Or.inr (Or.inr (Or.inr (Or.inr (Or.inr (Or.inr (Or.inr (Or.inr (Or.inr (Or.inr (Or.inr (Or.inr (Or.inr (Or.inr (Or.inr (Or.inr (Or.inr (Or.inr (Or.inr (Or.inr (Or.inr (Or.inr (Or.inr (Or.inl ⟨h.1, h.2⟩))))))))))))))))))))))))))))))))))))))))))))) (fun h => h.elim)))
    exact w_iret rfl dX11_check_26 ⟨hI59_, hF61_, trivial, (Or.inr ⟨hs5_, M48_, hI51_, hF52_, hs54_, M56_, hI59_, hF60_, r55_, hs62_, rfl, rfl⟩)⟩
def S_c_X11_count : rf → Nat → Prop := fun c k => (c.1 = 44 ∧ c.2.1 = 0) ∨ False
def SP_X11_count (v : Int32) (Mz : mM) (r_ : Int32) (M_ : mM) : Prop := (((v.toInt = 0) ∧ ∃ z2_ : Int32, (z2_ = Mz.1 (10, 0, 0) 7) ∧ r_ = z2_ ∧ M_ = Mz) ∨ ((v.toInt = 1) ∧ ∃ r4_ : Int32, (SP_X7_countThings 0 Mz r4_) ∧ r_ = r4_ ∧ M_ = Mz) ∨ ((v.toInt = 2) ∧ ∃ z9_ : Int32, (z9_ = Mz.1 (10, 0, 0) 6) ∧ r_ = z9_ ∧ M_ = Mz) ∨ ((v.toInt = 3) ∧ ∃ z11_ : Int32, (z11_ = Mz.1 (3, 0, 0) 3) ∧ r_ = z11_ ∧ M_ = Mz) ∨ ((v.toInt = 4) ∧ ∃ z13_ : Int32, (z13_ = Mz.1 (5, 0, 0) 1) ∧ r_ = z13_ ∧ M_ = Mz) ∨ ((v.toInt = 5) ∧ ∃ z15_ : Int32, (z15_ = Mz.1 (5, 0, 1) 1) ∧ r_ = z15_ ∧ M_ = Mz) ∨ ((v.toInt = 6) ∧ ∃ z17_ : Int32, (z17_ = Mz.1 (5, 3, 5) 1) ∧ r_ = z17_ ∧ M_ = Mz) ∨ ((v.toInt = 7) ∧ ∃ r19_ : Int32, (SP_X10_countBumps 0 Mz r19_) ∧ r_ = r19_ ∧ M_ = Mz) ∨ ((v.toInt = 8) ∧ ∃ r24_ : Int32, (SP_X10_countClicks 0 Mz r24_) ∧ r_ = r24_ ∧ M_ = Mz) ∨ (((¬ v.toInt = 0 ∧ ¬ v.toInt = 1 ∧ ¬ v.toInt = 2 ∧ ¬ v.toInt = 3 ∧ ¬ v.toInt = 4 ∧ ¬ v.toInt = 5 ∧ ¬ v.toInt = 6 ∧ ¬ v.toInt = 7 ∧ ¬ v.toInt = 8)) ∧ ∃ M30_ : mM, (Inv M30_) ∧ (FR (S_c_X11_error) Mz M30_) ∧ ∃ r29_ : Int32, (SP_X11_error 1 Mz r29_ M30_) ∧ r_ = r29_ ∧ M_ = M30_))
theorem lf_c_X11_count_0 (v : Int32) : v.toInt = 0 ∨ v.toInt = 1 ∨ v.toInt = 2 ∨ v.toInt = 3 ∨ v.toInt = 4 ∨ v.toInt = 5 ∨ v.toInt = 6 ∨ v.toInt = 7 ∨ v.toInt = 8 ∨ (¬ v.toInt = 0 ∧ ¬ v.toInt = 1 ∧ ¬ v.toInt = 2 ∧ ¬ v.toInt = 3 ∧ ¬ v.toInt = 4 ∧ ¬ v.toInt = 5 ∧ ¬ v.toInt = 6 ∧ ¬ v.toInt = 7 ∧ ¬ v.toInt = 8) := by have r_v := rngI v; omega
theorem lf_c_X11_count_1 (v : Int32) (e1_ : (¬ v.toInt = 0 ∧ ¬ v.toInt = 1 ∧ ¬ v.toInt = 2 ∧ ¬ v.toInt = 3 ∧ ¬ v.toInt = 4 ∧ ¬ v.toInt = 5 ∧ ¬ v.toInt = 6 ∧ ¬ v.toInt = 7 ∧ ¬ v.toInt = 8)) : v.toInt < 0 ∨ 8 < v.toInt := by have r_v := rngI v; omega
set_option maxHeartbeats 4000000 in
set_option maxRecDepth 100000 in
theorem c_X11_count (l : Launch) (G : va_G) (cy : Nat → ClassId) (ad : rf → Nat) (d : Nat) (v : Int32) (Mz : mM) (hIz : Inv Mz) : WP CC l G cy ad yX11_count cX11_count 2 (some .int) (d + 1) 0 [(0, vR (11, 0, 0)), (1, vI v)] [] Mz (fun r M' => Inv M' ∧ FR (S_c_X11_count) Mz M' ∧ (True) ∧ SP_X11_count v Mz r M') := by
  have hFz : FR (S_c_X11_count) Mz Mz := FR.self
  refine w_iload_n dX11_count_0 rfl 1 rfl ?_
  rcases (lf_c_X11_count_0 v ) with e1_ | e1_ | e1_ | e1_ | e1_ | e1_ | e1_ | e1_ | e1_ | e1_
  · refine w_tsIn (tgt := 52) (off := 51) dX11_count_1 e1_ (by decide) (by decide) rfl (by decide) ?_
    refine w_aload_n dX11_count_52 rfl 0 rfl ?_
    refine w_getR (c' := (10, 0, 0)) fl_RX11_10 rfl rfl ic_11 dX11_count_53 rfl ?_
    refine w_getI fl_RX11_290 rfl rfl (ic_10 (by decide)) dX11_count_56 (fun z2_ e3_ => ?_)
    exact w_iret rfl dX11_count_59 ⟨hIz, hFz, trivial, (Or.inl ⟨e1_, z2_, e3_, rfl, rfl⟩)⟩
  · refine w_tsIn (tgt := 60) (off := 59) dX11_count_1 e1_ (by decide) (by decide) rfl (by decide) ?_
    refine w_aload_n dX11_count_60 rfl 0 rfl ?_
    refine w_getR (c' := (10, 0, 0)) fl_RX11_10 rfl rfl ic_11 dX11_count_61 rfl ?_
    refine w_getR (c' := (7, 0, 0)) fl_RX11_71 rfl rfl (ic_10 (by decide)) dX11_count_64 rfl ?_
    refine w_callV (as := []) (rest := []) (c_X7_countThings l G cy ad d 0 Mz hIz (by first | decide | (unfold vF; omega) | (unfold vRw; omega))) kV_X7_countThings pnn_1 (Nat.le_of_ble_eq_true rfl) m_1296 rfl rfl rfl (ic_7 (by decide)) rfl rfl (by decide) (Nat.le_of_ble_eq_true rfl) dX11_count_67 (fun r4_ M5_ q6_ => ?_)
    obtain ⟨rfl, h7_, hs8_⟩ := q6_
    exact w_iret rfl dX11_count_70 ⟨hIz, hFz, trivial, (Or.inr (Or.inl ⟨e1_, r4_, hs8_, rfl, rfl⟩))⟩
  · refine w_tsIn (tgt := 71) (off := 70) dX11_count_1 e1_ (by decide) (by decide) rfl (by decide) ?_
    refine w_aload_n dX11_count_71 rfl 0 rfl ?_
    refine w_getR (c' := (10, 0, 0)) fl_RX11_10 rfl rfl ic_11 dX11_count_72 rfl ?_
    refine w_getI fl_RX11_148 rfl rfl (ic_10 (by decide)) dX11_count_75 (fun z9_ e10_ => ?_)
    exact w_iret rfl dX11_count_78 ⟨hIz, hFz, trivial, (Or.inr (Or.inr (Or.inl ⟨e1_, z9_, e10_, rfl, rfl⟩)))⟩
  · refine w_tsIn (tgt := 79) (off := 78) dX11_count_1 e1_ (by decide) (by decide) rfl (by decide) ?_
    refine w_aload_n dX11_count_79 rfl 0 rfl ?_
    refine w_getR (c' := (10, 0, 0)) fl_RX11_10 rfl rfl ic_11 dX11_count_80 rfl ?_
    refine w_getR (c' := (3, 0, 0)) fl_RX11_313 rfl rfl (ic_10 (by decide)) dX11_count_83 rfl ?_
    refine w_getI fl_RX11_391 rfl rfl (ic_3 (by decide)) dX11_count_86 (fun z11_ e12_ => ?_)
    exact w_iret rfl dX11_count_89 ⟨hIz, hFz, trivial, (Or.inr (Or.inr (Or.inr (Or.inl ⟨e1_, z11_, e12_, rfl, rfl⟩))))⟩
  · refine w_tsIn (tgt := 90) (off := 89) dX11_count_1 e1_ (by decide) (by decide) rfl (by decide) ?_
    refine w_aload_n dX11_count_90 rfl 0 rfl ?_
    refine w_getR (c' := (10, 0, 0)) fl_RX11_10 rfl rfl ic_11 dX11_count_91 rfl ?_
    refine w_getR (c' := (5, 0, 0)) fl_RX11_192 rfl rfl (ic_10 (by decide)) dX11_count_94 rfl ?_
    refine w_getI fl_RX11_205 rfl rfl (ic_5 (by unfold vRw; omega)) dX11_count_97 (fun z13_ e14_ => ?_)
    exact w_iret rfl dX11_count_100 ⟨hIz, hFz, trivial, (Or.inr (Or.inr (Or.inr (Or.inr (Or.inl ⟨e1_, z13_, e14_, rfl, rfl⟩)))))⟩
  · refine w_tsIn (tgt := 101) (off := 100) dX11_count_1 e1_ (by decide) (by decide) rfl (by decide) ?_
    refine w_aload_n dX11_count_101 rfl 0 rfl ?_
    refine w_getR (c' := (10, 0, 0)) fl_RX11_10 rfl rfl ic_11 dX11_count_102 rfl ?_
    refine w_getR (c' := (5, 0, 1)) fl_RX11_385 rfl rfl (ic_10 (by decide)) dX11_count_105 rfl ?_
    refine w_getI fl_RX11_205 rfl rfl (ic_5 (by unfold vRw; omega)) dX11_count_108 (fun z15_ e16_ => ?_)
    exact w_iret rfl dX11_count_111 ⟨hIz, hFz, trivial, (Or.inr (Or.inr (Or.inr (Or.inr (Or.inr (Or.inl ⟨e1_, z15_, e16_, rfl, rfl⟩))))))⟩
  · refine w_tsIn (tgt := 112) (off := 111) dX11_count_1 e1_ (by decide) (by decide) rfl (by decide) ?_
    refine w_aload_n dX11_count_112 rfl 0 rfl ?_
    refine w_getR (c' := (8, 0, 0)) fl_RX11_49 rfl rfl ic_11 dX11_count_113 rfl ?_
    refine w_getR (c' := (5, 3, 5)) fl_RX11_353 rfl rfl ic_8 dX11_count_116 rfl ?_
    refine w_getI fl_RX11_205 rfl rfl (ic_5 (by unfold vRw; omega)) dX11_count_119 (fun z17_ e18_ => ?_)
    exact w_iret rfl dX11_count_122 ⟨hIz, hFz, trivial, (Or.inr (Or.inr (Or.inr (Or.inr (Or.inr (Or.inr (Or.inl ⟨e1_, z17_, e18_, rfl, rfl⟩)))))))⟩
  · refine w_tsIn (tgt := 123) (off := 122) dX11_count_1 e1_ (by decide) (by decide) rfl (by decide) ?_
    refine w_aload_n dX11_count_123 rfl 0 rfl ?_
    refine w_getR (c' := (10, 0, 0)) fl_RX11_10 rfl rfl ic_11 dX11_count_124 rfl ?_
    refine w_callV (as := []) (rest := []) (c_X10_countBumps l G cy ad d 0 Mz hIz (by first | decide | (unfold vF; omega) | (unfold vRw; omega))) kV_X10_countBumps pnn_7 (Nat.le_of_ble_eq_true rfl) m_1300 rfl rfl rfl (ic_10 (by decide)) rfl rfl (by decide) (Nat.le_of_ble_eq_true rfl) dX11_count_127 (fun r19_ M20_ q21_ => ?_)
    obtain ⟨rfl, h22_, hs23_⟩ := q21_
    exact w_iret rfl dX11_count_130 ⟨hIz, hFz, trivial, (Or.inr (Or.inr (Or.inr (Or.inr (Or.inr (Or.inr (Or.inr (Or.inl ⟨e1_, r19_, hs23_, rfl, rfl⟩))))))))⟩
  · refine w_tsIn (tgt := 131) (off := 130) dX11_count_1 e1_ (by decide) (by decide) rfl (by decide) ?_
    refine w_aload_n dX11_count_131 rfl 0 rfl ?_
    refine w_getR (c' := (10, 0, 0)) fl_RX11_10 rfl rfl ic_11 dX11_count_132 rfl ?_
    refine w_callV (as := []) (rest := []) (c_X10_countClicks l G cy ad d 0 Mz hIz (by first | decide | (unfold vF; omega) | (unfold vRw; omega))) kV_X10_countClicks pnn_7 (Nat.le_of_ble_eq_true rfl) m_1304 rfl rfl rfl (ic_10 (by decide)) rfl rfl (by decide) (Nat.le_of_ble_eq_true rfl) dX11_count_135 (fun r24_ M25_ q26_ => ?_)
    obtain ⟨rfl, h27_, hs28_⟩ := q26_
    exact w_iret rfl dX11_count_138 ⟨hIz, hFz, trivial, (Or.inr (Or.inr (Or.inr (Or.inr (Or.inr (Or.inr (Or.inr (Or.inr (Or.inl ⟨e1_, r24_, hs28_, rfl, rfl⟩)))))))))⟩
  · refine w_tsOut (tgt := 139) dX11_count_1 rfl (lf_c_X11_count_1 v e1_ ) (by decide) ?_
    refine w_aload_n dX11_count_139 rfl 0 rfl ?_
    refine w_iconst (v := 1) dX11_count_140 (by decide) ?_
    refine w_callV (as := [vI 1]) (rest := []) (c_X11_error l G cy ad d 1 Mz hIz) kV_X11_error pnn_0 (Nat.le_of_ble_eq_true rfl) m_500 rfl rfl rfl ic_11 rfl rfl (by decide) (Nat.le_of_ble_eq_true rfl) dX11_count_141 (fun r29_ M30_ q31_ => ?_)
    obtain ⟨hI33_, hF34_, h32_, hs36_⟩ := q31_
    have hF35_ := hFz.tr hF34_ (fun c k => (fun h => h.elim (fun h => (Or.inl ⟨h.1, h.2⟩)) (fun h => h.elim)))
    exact w_iret rfl dX11_count_144 ⟨hI33_, hF35_, trivial, (Or.inr (Or.inr (Or.inr (Or.inr (Or.inr (Or.inr (Or.inr (Or.inr (Or.inr ⟨e1_, M30_, hI33_, hF34_, r29_, hs36_, rfl, rfl⟩)))))))))⟩
def S_c_X11_told : rf → Nat → Prop := fun c k => (c.1 = 44 ∧ c.2.1 = 0) ∨ False
def SP_X11_told (v : Int32) (Mz : mM) (r_ : Int32) (M_ : mM) : Prop := (((SP_X11_within v 1 6 Mz (1 : Int32)) ∧ (1 ≤ v.toInt ∧ v.toInt ≤ 6) ∧ ∃ j9_ : Nat, ((j9_ : Int) = v.toInt) ∧ ∃ z7_ : Int32, (z7_ = Mz.1 (44, 0, 0) j9_) ∧ r_ = z7_ ∧ M_ = Mz) ∨ ((SP_X11_within v 1 6 Mz (0 : Int32)) ∧ (¬ (1 ≤ v.toInt ∧ v.toInt ≤ 6)) ∧ ∃ M13_ : mM, (Inv M13_) ∧ (FR (S_c_X11_error) Mz M13_) ∧ ∃ r12_ : Int32, (SP_X11_error 1 Mz r12_ M13_) ∧ r_ = r12_ ∧ M_ = M13_))
theorem lf_c_X11_told_0 (v : Int32) (h4_ : 1 ≤ v.toInt ∧ v.toInt ≤ 6) : 0 ≤ v.toInt ∧ v.toInt < ((7 : Nat) : Int) := by omega
set_option maxHeartbeats 4000000 in
set_option maxRecDepth 100000 in
theorem c_X11_told (l : Launch) (G : va_G) (cy : Nat → ClassId) (ad : rf → Nat) (d : Nat) (v : Int32) (Mz : mM) (hIz : Inv Mz) : WP CC l G cy ad yX11_told cX11_told 2 (some .int) (d + 1) 0 [(0, vR (11, 0, 0)), (1, vI v)] [] Mz (fun r M' => Inv M' ∧ FR (S_c_X11_told) Mz M' ∧ (True) ∧ SP_X11_told v Mz r M') := by
  have hFz : FR (S_c_X11_told) Mz Mz := FR.self
  refine w_iload_n dX11_told_0 rfl 1 rfl ?_
  refine w_iconst (v := 1) dX11_told_1 (by decide) ?_
  refine w_bipush (v := 6) dX11_told_2 (by decide) ?_
  refine w_callS (as := [vI v, vI 1, vI 6]) (rest := []) (c_X11_within l G cy ad d v 1 6 Mz hIz) kS_X11_within pnn_0 (Nat.le_of_ble_eq_true rfl) m_494 rfl rfl (by decide) (Nat.le_of_ble_eq_true rfl) dX11_told_4 (fun r1_ M2_ q3_ => ?_)
  obtain ⟨rfl, h4_, hs5_⟩ := q3_
  rcases h4_ with ⟨rfl, h4_⟩ | ⟨rfl, h4_⟩
  · simp only [li_1, li_6] at h4_
    refine w_if_eq (tgt := 19) dX11_told_7 (by decide) li_1 (fun h9 => (absurd h9 (by decide))) (fun h6_ => ?_)
    refine w_aload_n dX11_told_10 rfl 0 rfl ?_
    refine w_getR (c' := (44, 0, 0)) fl_RX11_28 rfl rfl ic_11 dX11_told_11 rfl ?_
    refine w_iload_n dX11_told_14 rfl 1 rfl ?_
    refine w_iald rfl rfl ic_44 (rfl : v.toInt = v.toInt) (lf_c_X11_told_0 v h4_ ) dX11_told_15 (fun j9_ h10_ z7_ e8_ => ?_)
    refine w_goto (tgt := 24) dX11_told_16 (by decide) ?_
    exact w_iret rfl dX11_told_24 ⟨hIz, hFz, trivial, (Or.inl ⟨hs5_, h4_, j9_, h10_, z7_, e8_, rfl, rfl⟩)⟩
  · simp only [li_1, li_6] at h4_
    refine w_if_eq (tgt := 19) dX11_told_7 (by decide) li_0 (fun h11_ => ?_) (fun h9 => (absurd h9 (by decide)))
    refine w_aload_n dX11_told_19 rfl 0 rfl ?_
    refine w_iconst (v := 1) dX11_told_20 (by decide) ?_
    refine w_callV (as := [vI 1]) (rest := []) (c_X11_error l G cy ad d 1 Mz hIz) kV_X11_error pnn_0 (Nat.le_of_ble_eq_true rfl) m_500 rfl rfl rfl ic_11 rfl rfl (by decide) (Nat.le_of_ble_eq_true rfl) dX11_told_21 (fun r12_ M13_ q14_ => ?_)
    obtain ⟨hI16_, hF17_, h15_, hs19_⟩ := q14_
    have hF18_ := hFz.tr hF17_ (fun c k => (fun h => h.elim (fun h => (Or.inl ⟨h.1, h.2⟩)) (fun h => h.elim)))
    exact w_iret rfl dX11_told_24 ⟨hI16_, hF18_, trivial, (Or.inr ⟨hs5_, h4_, M13_, hI16_, hF17_, r12_, hs19_, rfl, rfl⟩)⟩
end
section
/-! words of the tables that are used, by their places; decode rows; fields -/
theorem m_21 : Cond.selects yX8_say.cls yX8_say yX8_say ∈ BASE := bmem 21 (by decide +kernel) rfl
theorem m_22 : Cond.selects yX8_run.cls yX8_run yX8_run ∈ BASE := bmem 22 (by decide +kernel) rfl
theorem m_23 : Cond.selects yX8_own.cls yX8_own yX8_own ∈ BASE := bmem 23 (by decide +kernel) rfl
theorem m_24 : Cond.selects yX8_parted.cls yX8_parted yX8_parted ∈ BASE := bmem 24 (by decide +kernel) rfl
set_option maxRecDepth 20000 in
theorem m_90 : Cond.initialized RX8 ∈ BASE := bmT1 12 rfl rfl
set_option maxRecDepth 20000 in
theorem m_422 : Cond.fieldLink RX8 21 "ClickStreet$Voices" "kind" "I" ∈ BASE := bmT2 104 rfl rfl
set_option maxRecDepth 20000 in
theorem m_424 : Cond.fieldLink RX8 28 "ClickStreet$Voices" "pitch" "I" ∈ BASE := bmT2 106 rfl rfl
set_option maxRecDepth 20000 in
theorem m_1185 : Cond.methodLink RX8 42 yX8_say ∈ BASE := bmT5 147 rfl rfl
set_option maxRecDepth 20000 in
theorem m_1187 : Cond.instanceMethod yX8_say ∈ BASE := bmT5 149 rfl rfl
set_option maxRecDepth 20000 in
theorem m_1188 : Cond.code yX8_say cX8_say 9 (some .int) ∈ BASE := bmT5 150 rfl rfl
set_option maxRecDepth 20000 in
theorem m_1189 : Cond.fieldLink RX8 50 "ClickStreet$Voices" "BODIES" "[I" ∈ BASE := bmT5 151 rfl rfl
set_option maxRecDepth 20000 in
theorem m_1191 : Cond.methodLink RX8 54 yX8_run ∈ BASE := bmT5 153 rfl rfl
set_option maxRecDepth 20000 in
theorem m_1193 : Cond.instanceMethod yX8_run ∈ BASE := bmT5 155 rfl rfl
set_option maxRecDepth 20000 in
theorem m_1194 : Cond.code yX8_run cX8_run 5 (some .int) ∈ BASE := bmT5 156 rfl rfl
set_option maxRecDepth 20000 in
theorem m_1195 : Cond.methodLink RX8 62 yX5_add ∈ BASE := bmT5 157 rfl rfl
set_option maxRecDepth 20000 in
theorem m_1196 : Cond.methodLink RX8 58 yX9_kindAbove ∈ BASE := bmT5 158 rfl rfl
set_option maxRecDepth 20000 in
theorem m_1197 : Cond.methodLink RX8 65 yX8_own ∈ BASE := bmT5 159 rfl rfl
set_option maxRecDepth 20000 in
theorem m_1199 : Cond.instanceMethod yX8_own ∈ BASE := bmT5 161 rfl rfl
set_option maxRecDepth 20000 in
theorem m_1200 : Cond.code yX8_own cX8_own 4 (some .int) ∈ BASE := bmT5 162 rfl rfl
set_option maxRecDepth 20000 in
theorem m_1201 : Cond.methodLink RX8 68 yX8_parted ∈ BASE := bmT5 163 rfl rfl
set_option maxRecDepth 20000 in
theorem m_1203 : Cond.instanceMethod yX8_parted ∈ BASE := bmT5 165 rfl rfl
set_option maxRecDepth 20000 in
theorem m_1204 : Cond.code yX8_parted cX8_parted 2 (some .int) ∈ BASE := bmT5 166 rfl rfl
theorem kV_X8_own : KV yX8_own cX8_own 4 (some .int) 3 := ⟨m_1199, m_23, m_90, m_1200, nhM_12, nhV_12, pdn_3⟩
theorem kV_X8_parted : KV yX8_parted cX8_parted 2 (some .int) 1 := ⟨m_1203, m_24, m_90, m_1204, nhM_12, nhV_12, pdn_2⟩
theorem kV_X8_run : KV yX8_run cX8_run 5 (some .int) 3 := ⟨m_1193, m_22, m_90, m_1194, nhM_12, nhV_12, pdn_3⟩
theorem kV_X8_say : KV yX8_say cX8_say 9 (some .int) 4 := ⟨m_1187, m_21, m_90, m_1188, nhM_12, nhV_12, pdn_25⟩
theorem fl_RX8_21 : FLK RX8 21 8 2 .int false := ⟨RX8, TX8, 6, tyX8, rfl, inB8, tyX8_ok, nmX8, by decide, rfl, rfl, Or.inl m_422⟩
theorem fl_RX8_28 : FLK RX8 28 8 4 .int false := ⟨RX8, TX8, 6, tyX8, rfl, inB8, tyX8_ok, nmX8, by decide, rfl, rfl, Or.inl m_424⟩
theorem dX8_own_0 : decode cX8_own 0 = .ok (.aload_n 0, 1) := by decide +kernel
theorem dX8_own_1 : decode cX8_own 1 = .ok (.aload_n 0, 1) := by decide +kernel
theorem dX8_own_2 : decode cX8_own 2 = .ok (.getfield 21, 3) := by decide +kernel
theorem dX8_own_5 : decode cX8_own 5 = .ok (.iload_n 1, 1) := by decide +kernel
theorem dX8_own_6 : decode cX8_own 6 = .ok (.iload_n 2, 1) := by decide +kernel
theorem dX8_own_7 : decode cX8_own 7 = .ok (.iload_n 3, 1) := by decide +kernel
theorem dX8_own_8 : decode cX8_own 8 = .ok (.invokevirtual 42, 3) := by decide +kernel
theorem dX8_own_11 : decode cX8_own 11 = .ok (.ireturn, 1) := by decide +kernel
theorem ch_cX8_run_0 : (cX8_run.data.toList.drop 0).take 36 = [42, 180, 0, 12, 27, 182, 0, 62, 27, 16, 10, 108, 4, 100, 184, 0, 58, 54, 4, 27, 171, 0, 0, 0, 0, 0, 1, 45, 0, 0, 0, 14, 0, 0, 0, 10] := by decide +kernel
theorem dX8_run_0 : decode cX8_run 0 = .ok (.aload_n 0, 1) := do_42 (rdb (p := 0) (i := 0) ch_cX8_run_0 rfl)
theorem dX8_run_1 : decode cX8_run 1 = .ok (.getfield 12, 3) := do_180 (rdb (p := 0) (i := 1) ch_cX8_run_0 rfl) (rdb (p := 0) (i := 2) ch_cX8_run_0 rfl) (rdb (p := 0) (i := 3) ch_cX8_run_0 rfl) rfl
theorem dX8_run_4 : decode cX8_run 4 = .ok (.iload_n 1, 1) := do_27 (rdb (p := 0) (i := 4) ch_cX8_run_0 rfl)
theorem dX8_run_5 : decode cX8_run 5 = .ok (.invokevirtual 62, 3) := do_182 (rdb (p := 0) (i := 5) ch_cX8_run_0 rfl) (rdb (p := 0) (i := 6) ch_cX8_run_0 rfl) (rdb (p := 0) (i := 7) ch_cX8_run_0 rfl) rfl
theorem dX8_run_8 : decode cX8_run 8 = .ok (.iload_n 1, 1) := do_27 (rdb (p := 0) (i := 8) ch_cX8_run_0 rfl)
theorem dX8_run_9 : decode cX8_run 9 = .ok (.bipush 10, 2) := do_16 (rdb (p := 0) (i := 9) ch_cX8_run_0 rfl) (rdb (p := 0) (i := 10) ch_cX8_run_0 rfl) (by decide +kernel)
theorem dX8_run_11 : decode cX8_run 11 = .ok (.idiv, 1) := do_108 (rdb (p := 0) (i := 11) ch_cX8_run_0 rfl)
theorem dX8_run_12 : decode cX8_run 12 = .ok (.iconst 1, 1) := do_4 (rdb (p := 0) (i := 12) ch_cX8_run_0 rfl)
theorem dX8_run_13 : decode cX8_run 13 = .ok (.isub, 1) := do_100 (rdb (p := 0) (i := 13) ch_cX8_run_0 rfl)
theorem dX8_run_14 : decode cX8_run 14 = .ok (.invokestatic 58, 3) := do_184 (rdb (p := 0) (i := 14) ch_cX8_run_0 rfl) (rdb (p := 0) (i := 15) ch_cX8_run_0 rfl) (rdb (p := 0) (i := 16) ch_cX8_run_0 rfl) rfl
theorem dX8_run_17 : decode cX8_run 17 = .ok (.istore 4, 2) := do_54 (rdb (p := 0) (i := 17) ch_cX8_run_0 rfl) (rdb (p := 0) (i := 18) ch_cX8_run_0 rfl)
theorem dX8_run_19 : decode cX8_run 19 = .ok (.iload_n 1, 1) := do_27 (rdb (p := 0) (i := 19) ch_cX8_run_0 rfl)
theorem dX8_run_20 : decode cX8_run 20 = .ok (.lookupswitch 301 #[(10, 124), (11, 131), (12, 141), (13, 154), (20, 160), (21, 172), (30, 190), (40, 205), (41, 217), (50, 229), (60, 241), (70, 253), (71, 265), (80, 283)], 124) := by decide +kernel
theorem ch_cX8_run_128 : (cX8_run.data.toList.drop 128).take 36 = [0, 0, 0, 71, 0, 0, 1, 9, 0, 0, 0, 80, 0, 0, 1, 27, 28, 42, 180, 0, 28, 96, 172, 42, 3, 28, 29, 182, 0, 65, 5, 104, 172, 42, 4, 28] := by decide +kernel
theorem dX8_run_144 : decode cX8_run 144 = .ok (.iload_n 2, 1) := do_28 (rdb (p := 128) (i := 16) ch_cX8_run_128 rfl)
theorem dX8_run_145 : decode cX8_run 145 = .ok (.aload_n 0, 1) := do_42 (rdb (p := 128) (i := 17) ch_cX8_run_128 rfl)
theorem dX8_run_146 : decode cX8_run 146 = .ok (.getfield 28, 3) := do_180 (rdb (p := 128) (i := 18) ch_cX8_run_128 rfl) (rdb (p := 128) (i := 19) ch_cX8_run_128 rfl) (rdb (p := 128) (i := 20) ch_cX8_run_128 rfl) rfl
theorem dX8_run_149 : decode cX8_run 149 = .ok (.iadd, 1) := do_96 (rdb (p := 128) (i := 21) ch_cX8_run_128 rfl)
theorem dX8_run_150 : decode cX8_run 150 = .ok (.ireturn, 1) := do_172 (rdb (p := 128) (i := 22) ch_cX8_run_128 rfl)
theorem dX8_run_151 : decode cX8_run 151 = .ok (.aload_n 0, 1) := do_42 (rdb (p := 128) (i := 23) ch_cX8_run_128 rfl)
theorem dX8_run_152 : decode cX8_run 152 = .ok (.iconst 0, 1) := do_3 (rdb (p := 128) (i := 24) ch_cX8_run_128 rfl)
theorem dX8_run_153 : decode cX8_run 153 = .ok (.iload_n 2, 1) := do_28 (rdb (p := 128) (i := 25) ch_cX8_run_128 rfl)
theorem dX8_run_154 : decode cX8_run 154 = .ok (.iload_n 3, 1) := do_29 (rdb (p := 128) (i := 26) ch_cX8_run_128 rfl)
theorem dX8_run_155 : decode cX8_run 155 = .ok (.invokevirtual 65, 3) := do_182 (rdb (p := 128) (i := 27) ch_cX8_run_128 rfl) (rdb (p := 128) (i := 28) ch_cX8_run_128 rfl) (rdb (p := 128) (i := 29) ch_cX8_run_128 rfl) rfl
theorem dX8_run_158 : decode cX8_run 158 = .ok (.iconst 2, 1) := do_5 (rdb (p := 128) (i := 30) ch_cX8_run_128 rfl)
theorem dX8_run_159 : decode cX8_run 159 = .ok (.imul, 1) := do_104 (rdb (p := 128) (i := 31) ch_cX8_run_128 rfl)
theorem ch_cX8_run_160 : (cX8_run.data.toList.drop 160).take 36 = [172, 42, 4, 28, 29, 182, 0, 65, 42, 180, 0, 25, 100, 172, 42, 28, 182, 0, 68, 172, 42, 21, 4, 3, 28, 29, 182, 0, 42, 6, 104, 172, 42, 21, 4, 6] := by decide +kernel
theorem dX8_run_160 : decode cX8_run 160 = .ok (.ireturn, 1) := do_172 (rdb (p := 160) (i := 0) ch_cX8_run_160 rfl)
theorem dX8_run_161 : decode cX8_run 161 = .ok (.aload_n 0, 1) := do_42 (rdb (p := 160) (i := 1) ch_cX8_run_160 rfl)
theorem dX8_run_162 : decode cX8_run 162 = .ok (.iconst 1, 1) := do_4 (rdb (p := 160) (i := 2) ch_cX8_run_160 rfl)
theorem dX8_run_163 : decode cX8_run 163 = .ok (.iload_n 2, 1) := do_28 (rdb (p := 160) (i := 3) ch_cX8_run_160 rfl)
theorem dX8_run_164 : decode cX8_run 164 = .ok (.iload_n 3, 1) := do_29 (rdb (p := 160) (i := 4) ch_cX8_run_160 rfl)
theorem dX8_run_165 : decode cX8_run 165 = .ok (.invokevirtual 65, 3) := do_182 (rdb (p := 160) (i := 5) ch_cX8_run_160 rfl) (rdb (p := 160) (i := 6) ch_cX8_run_160 rfl) (rdb (p := 160) (i := 7) ch_cX8_run_160 rfl) rfl
theorem dX8_run_168 : decode cX8_run 168 = .ok (.aload_n 0, 1) := do_42 (rdb (p := 160) (i := 8) ch_cX8_run_160 rfl)
theorem dX8_run_169 : decode cX8_run 169 = .ok (.getfield 25, 3) := do_180 (rdb (p := 160) (i := 9) ch_cX8_run_160 rfl) (rdb (p := 160) (i := 10) ch_cX8_run_160 rfl) (rdb (p := 160) (i := 11) ch_cX8_run_160 rfl) rfl
theorem dX8_run_172 : decode cX8_run 172 = .ok (.isub, 1) := do_100 (rdb (p := 160) (i := 12) ch_cX8_run_160 rfl)
theorem dX8_run_173 : decode cX8_run 173 = .ok (.ireturn, 1) := do_172 (rdb (p := 160) (i := 13) ch_cX8_run_160 rfl)
theorem dX8_run_174 : decode cX8_run 174 = .ok (.aload_n 0, 1) := do_42 (rdb (p := 160) (i := 14) ch_cX8_run_160 rfl)
theorem dX8_run_175 : decode cX8_run 175 = .ok (.iload_n 2, 1) := do_28 (rdb (p := 160) (i := 15) ch_cX8_run_160 rfl)
theorem dX8_run_176 : decode cX8_run 176 = .ok (.invokevirtual 68, 3) := do_182 (rdb (p := 160) (i := 16) ch_cX8_run_160 rfl) (rdb (p := 160) (i := 17) ch_cX8_run_160 rfl) (rdb (p := 160) (i := 18) ch_cX8_run_160 rfl) rfl
theorem dX8_run_179 : decode cX8_run 179 = .ok (.ireturn, 1) := do_172 (rdb (p := 160) (i := 19) ch_cX8_run_160 rfl)
theorem dX8_run_180 : decode cX8_run 180 = .ok (.aload_n 0, 1) := do_42 (rdb (p := 160) (i := 20) ch_cX8_run_160 rfl)
theorem dX8_run_181 : decode cX8_run 181 = .ok (.iload 4, 2) := do_21 (rdb (p := 160) (i := 21) ch_cX8_run_160 rfl) (rdb (p := 160) (i := 22) ch_cX8_run_160 rfl)
theorem dX8_run_183 : decode cX8_run 183 = .ok (.iconst 0, 1) := do_3 (rdb (p := 160) (i := 23) ch_cX8_run_160 rfl)
theorem dX8_run_184 : decode cX8_run 184 = .ok (.iload_n 2, 1) := do_28 (rdb (p := 160) (i := 24) ch_cX8_run_160 rfl)
theorem dX8_run_185 : decode cX8_run 185 = .ok (.iload_n 3, 1) := do_29 (rdb (p := 160) (i := 25) ch_cX8_run_160 rfl)
theorem dX8_run_186 : decode cX8_run 186 = .ok (.invokevirtual 42, 3) := do_182 (rdb (p := 160) (i := 26) ch_cX8_run_160 rfl) (rdb (p := 160) (i := 27) ch_cX8_run_160 rfl) (rdb (p := 160) (i := 28) ch_cX8_run_160 rfl) rfl
theorem dX8_run_189 : decode cX8_run 189 = .ok (.iconst 3, 1) := do_6 (rdb (p := 160) (i := 29) ch_cX8_run_160 rfl)
theorem dX8_run_190 : decode cX8_run 190 = .ok (.imul, 1) := do_104 (rdb (p := 160) (i := 30) ch_cX8_run_160 rfl)
theorem dX8_run_191 : decode cX8_run 191 = .ok (.ireturn, 1) := do_172 (rdb (p := 160) (i := 31) ch_cX8_run_160 rfl)
theorem ch_cX8_run_192 : (cX8_run.data.toList.drop 192).take 36 = [42, 21, 4, 6, 28, 29, 182, 0, 42, 42, 5, 4, 29, 182, 0, 65, 96, 172, 42, 21, 4, 4, 28, 29, 182, 0, 42, 42, 180, 0, 28, 130, 172, 3, 42, 21] := by decide +kernel
theorem dX8_run_192 : decode cX8_run 192 = .ok (.aload_n 0, 1) := do_42 (rdb (p := 192) (i := 0) ch_cX8_run_192 rfl)
theorem dX8_run_193 : decode cX8_run 193 = .ok (.iload 4, 2) := do_21 (rdb (p := 192) (i := 1) ch_cX8_run_192 rfl) (rdb (p := 192) (i := 2) ch_cX8_run_192 rfl)
theorem dX8_run_195 : decode cX8_run 195 = .ok (.iconst 3, 1) := do_6 (rdb (p := 192) (i := 3) ch_cX8_run_192 rfl)
theorem dX8_run_196 : decode cX8_run 196 = .ok (.iload_n 2, 1) := do_28 (rdb (p := 192) (i := 4) ch_cX8_run_192 rfl)
theorem dX8_run_197 : decode cX8_run 197 = .ok (.iload_n 3, 1) := do_29 (rdb (p := 192) (i := 5) ch_cX8_run_192 rfl)
theorem dX8_run_198 : decode cX8_run 198 = .ok (.invokevirtual 42, 3) := do_182 (rdb (p := 192) (i := 6) ch_cX8_run_192 rfl) (rdb (p := 192) (i := 7) ch_cX8_run_192 rfl) (rdb (p := 192) (i := 8) ch_cX8_run_192 rfl) rfl
theorem dX8_run_201 : decode cX8_run 201 = .ok (.aload_n 0, 1) := do_42 (rdb (p := 192) (i := 9) ch_cX8_run_192 rfl)
theorem dX8_run_202 : decode cX8_run 202 = .ok (.iconst 2, 1) := do_5 (rdb (p := 192) (i := 10) ch_cX8_run_192 rfl)
theorem dX8_run_203 : decode cX8_run 203 = .ok (.iconst 1, 1) := do_4 (rdb (p := 192) (i := 11) ch_cX8_run_192 rfl)
theorem dX8_run_204 : decode cX8_run 204 = .ok (.iload_n 3, 1) := do_29 (rdb (p := 192) (i := 12) ch_cX8_run_192 rfl)
theorem dX8_run_205 : decode cX8_run 205 = .ok (.invokevirtual 65, 3) := do_182 (rdb (p := 192) (i := 13) ch_cX8_run_192 rfl) (rdb (p := 192) (i := 14) ch_cX8_run_192 rfl) (rdb (p := 192) (i := 15) ch_cX8_run_192 rfl) rfl
theorem dX8_run_208 : decode cX8_run 208 = .ok (.iadd, 1) := do_96 (rdb (p := 192) (i := 16) ch_cX8_run_192 rfl)
theorem dX8_run_209 : decode cX8_run 209 = .ok (.ireturn, 1) := do_172 (rdb (p := 192) (i := 17) ch_cX8_run_192 rfl)
theorem dX8_run_210 : decode cX8_run 210 = .ok (.aload_n 0, 1) := do_42 (rdb (p := 192) (i := 18) ch_cX8_run_192 rfl)
theorem dX8_run_211 : decode cX8_run 211 = .ok (.iload 4, 2) := do_21 (rdb (p := 192) (i := 19) ch_cX8_run_192 rfl) (rdb (p := 192) (i := 20) ch_cX8_run_192 rfl)
theorem dX8_run_213 : decode cX8_run 213 = .ok (.iconst 1, 1) := do_4 (rdb (p := 192) (i := 21) ch_cX8_run_192 rfl)
theorem dX8_run_214 : decode cX8_run 214 = .ok (.iload_n 2, 1) := do_28 (rdb (p := 192) (i := 22) ch_cX8_run_192 rfl)
theorem dX8_run_215 : decode cX8_run 215 = .ok (.iload_n 3, 1) := do_29 (rdb (p := 192) (i := 23) ch_cX8_run_192 rfl)
theorem dX8_run_216 : decode cX8_run 216 = .ok (.invokevirtual 42, 3) := do_182 (rdb (p := 192) (i := 24) ch_cX8_run_192 rfl) (rdb (p := 192) (i := 25) ch_cX8_run_192 rfl) (rdb (p := 192) (i := 26) ch_cX8_run_192 rfl) rfl
theorem dX8_run_219 : decode cX8_run 219 = .ok (.aload_n 0, 1) := do_42 (rdb (p := 192) (i := 27) ch_cX8_run_192 rfl)
theorem dX8_run_220 : decode cX8_run 220 = .ok (.getfield 28, 3) := do_180 (rdb (p := 192) (i := 28) ch_cX8_run_192 rfl) (rdb (p := 192) (i := 29) ch_cX8_run_192 rfl) (rdb (p := 192) (i := 30) ch_cX8_run_192 rfl) rfl
theorem dX8_run_223 : decode cX8_run 223 = .ok (.ixor, 1) := do_130 (rdb (p := 192) (i := 31) ch_cX8_run_192 rfl)
theorem ch_cX8_run_224 : (cX8_run.data.toList.drop 224).take 36 = [172, 3, 42, 21, 4, 3, 28, 29, 182, 0, 42, 100, 172, 42, 21, 4, 5, 28, 29, 182, 0, 42, 8, 96, 172, 42, 21, 4, 5, 28, 4, 100, 29, 182, 0, 42] := by decide +kernel
theorem dX8_run_224 : decode cX8_run 224 = .ok (.ireturn, 1) := do_172 (rdb (p := 224) (i := 0) ch_cX8_run_224 rfl)
theorem dX8_run_225 : decode cX8_run 225 = .ok (.iconst 0, 1) := do_3 (rdb (p := 224) (i := 1) ch_cX8_run_224 rfl)
theorem dX8_run_226 : decode cX8_run 226 = .ok (.aload_n 0, 1) := do_42 (rdb (p := 224) (i := 2) ch_cX8_run_224 rfl)
theorem dX8_run_227 : decode cX8_run 227 = .ok (.iload 4, 2) := do_21 (rdb (p := 224) (i := 3) ch_cX8_run_224 rfl) (rdb (p := 224) (i := 4) ch_cX8_run_224 rfl)
theorem dX8_run_229 : decode cX8_run 229 = .ok (.iconst 0, 1) := do_3 (rdb (p := 224) (i := 5) ch_cX8_run_224 rfl)
theorem dX8_run_230 : decode cX8_run 230 = .ok (.iload_n 2, 1) := do_28 (rdb (p := 224) (i := 6) ch_cX8_run_224 rfl)
theorem dX8_run_231 : decode cX8_run 231 = .ok (.iload_n 3, 1) := do_29 (rdb (p := 224) (i := 7) ch_cX8_run_224 rfl)
theorem dX8_run_232 : decode cX8_run 232 = .ok (.invokevirtual 42, 3) := do_182 (rdb (p := 224) (i := 8) ch_cX8_run_224 rfl) (rdb (p := 224) (i := 9) ch_cX8_run_224 rfl) (rdb (p := 224) (i := 10) ch_cX8_run_224 rfl) rfl
theorem dX8_run_235 : decode cX8_run 235 = .ok (.isub, 1) := do_100 (rdb (p := 224) (i := 11) ch_cX8_run_224 rfl)
theorem dX8_run_236 : decode cX8_run 236 = .ok (.ireturn, 1) := do_172 (rdb (p := 224) (i := 12) ch_cX8_run_224 rfl)
theorem dX8_run_237 : decode cX8_run 237 = .ok (.aload_n 0, 1) := do_42 (rdb (p := 224) (i := 13) ch_cX8_run_224 rfl)
theorem dX8_run_238 : decode cX8_run 238 = .ok (.iload 4, 2) := do_21 (rdb (p := 224) (i := 14) ch_cX8_run_224 rfl) (rdb (p := 224) (i := 15) ch_cX8_run_224 rfl)
theorem dX8_run_240 : decode cX8_run 240 = .ok (.iconst 2, 1) := do_5 (rdb (p := 224) (i := 16) ch_cX8_run_224 rfl)
theorem dX8_run_241 : decode cX8_run 241 = .ok (.iload_n 2, 1) := do_28 (rdb (p := 224) (i := 17) ch_cX8_run_224 rfl)
theorem dX8_run_242 : decode cX8_run 242 = .ok (.iload_n 3, 1) := do_29 (rdb (p := 224) (i := 18) ch_cX8_run_224 rfl)
theorem dX8_run_243 : decode cX8_run 243 = .ok (.invokevirtual 42, 3) := do_182 (rdb (p := 224) (i := 19) ch_cX8_run_224 rfl) (rdb (p := 224) (i := 20) ch_cX8_run_224 rfl) (rdb (p := 224) (i := 21) ch_cX8_run_224 rfl) rfl
theorem dX8_run_246 : decode cX8_run 246 = .ok (.iconst 5, 1) := do_8 (rdb (p := 224) (i := 22) ch_cX8_run_224 rfl)
theorem dX8_run_247 : decode cX8_run 247 = .ok (.iadd, 1) := do_96 (rdb (p := 224) (i := 23) ch_cX8_run_224 rfl)
theorem dX8_run_248 : decode cX8_run 248 = .ok (.ireturn, 1) := do_172 (rdb (p := 224) (i := 24) ch_cX8_run_224 rfl)
theorem dX8_run_249 : decode cX8_run 249 = .ok (.aload_n 0, 1) := do_42 (rdb (p := 224) (i := 25) ch_cX8_run_224 rfl)
theorem dX8_run_250 : decode cX8_run 250 = .ok (.iload 4, 2) := do_21 (rdb (p := 224) (i := 26) ch_cX8_run_224 rfl) (rdb (p := 224) (i := 27) ch_cX8_run_224 rfl)
theorem dX8_run_252 : decode cX8_run 252 = .ok (.iconst 2, 1) := do_5 (rdb (p := 224) (i := 28) ch_cX8_run_224 rfl)
theorem dX8_run_253 : decode cX8_run 253 = .ok (.iload_n 2, 1) := do_28 (rdb (p := 224) (i := 29) ch_cX8_run_224 rfl)
theorem dX8_run_254 : decode cX8_run 254 = .ok (.iconst 1, 1) := do_4 (rdb (p := 224) (i := 30) ch_cX8_run_224 rfl)
theorem dX8_run_255 : decode cX8_run 255 = .ok (.isub, 1) := do_100 (rdb (p := 224) (i := 31) ch_cX8_run_224 rfl)
theorem ch_cX8_run_256 : (cX8_run.data.toList.drop 256).take 36 = [29, 182, 0, 42, 172, 42, 21, 4, 4, 28, 5, 96, 29, 182, 0, 42, 172, 42, 21, 4, 4, 28, 29, 182, 0, 42, 5, 108, 172, 42, 21, 4, 5, 28, 29, 182] := by decide +kernel
theorem dX8_run_256 : decode cX8_run 256 = .ok (.iload_n 3, 1) := do_29 (rdb (p := 256) (i := 0) ch_cX8_run_256 rfl)
theorem dX8_run_257 : decode cX8_run 257 = .ok (.invokevirtual 42, 3) := do_182 (rdb (p := 256) (i := 1) ch_cX8_run_256 rfl) (rdb (p := 256) (i := 2) ch_cX8_run_256 rfl) (rdb (p := 256) (i := 3) ch_cX8_run_256 rfl) rfl
theorem dX8_run_260 : decode cX8_run 260 = .ok (.ireturn, 1) := do_172 (rdb (p := 256) (i := 4) ch_cX8_run_256 rfl)
theorem dX8_run_261 : decode cX8_run 261 = .ok (.aload_n 0, 1) := do_42 (rdb (p := 256) (i := 5) ch_cX8_run_256 rfl)
theorem dX8_run_262 : decode cX8_run 262 = .ok (.iload 4, 2) := do_21 (rdb (p := 256) (i := 6) ch_cX8_run_256 rfl) (rdb (p := 256) (i := 7) ch_cX8_run_256 rfl)
theorem dX8_run_264 : decode cX8_run 264 = .ok (.iconst 1, 1) := do_4 (rdb (p := 256) (i := 8) ch_cX8_run_256 rfl)
theorem dX8_run_265 : decode cX8_run 265 = .ok (.iload_n 2, 1) := do_28 (rdb (p := 256) (i := 9) ch_cX8_run_256 rfl)
theorem dX8_run_266 : decode cX8_run 266 = .ok (.iconst 2, 1) := do_5 (rdb (p := 256) (i := 10) ch_cX8_run_256 rfl)
theorem dX8_run_267 : decode cX8_run 267 = .ok (.iadd, 1) := do_96 (rdb (p := 256) (i := 11) ch_cX8_run_256 rfl)
theorem dX8_run_268 : decode cX8_run 268 = .ok (.iload_n 3, 1) := do_29 (rdb (p := 256) (i := 12) ch_cX8_run_256 rfl)
theorem dX8_run_269 : decode cX8_run 269 = .ok (.invokevirtual 42, 3) := do_182 (rdb (p := 256) (i := 13) ch_cX8_run_256 rfl) (rdb (p := 256) (i := 14) ch_cX8_run_256 rfl) (rdb (p := 256) (i := 15) ch_cX8_run_256 rfl) rfl
theorem dX8_run_272 : decode cX8_run 272 = .ok (.ireturn, 1) := do_172 (rdb (p := 256) (i := 16) ch_cX8_run_256 rfl)
theorem dX8_run_273 : decode cX8_run 273 = .ok (.aload_n 0, 1) := do_42 (rdb (p := 256) (i := 17) ch_cX8_run_256 rfl)
theorem dX8_run_274 : decode cX8_run 274 = .ok (.iload 4, 2) := do_21 (rdb (p := 256) (i := 18) ch_cX8_run_256 rfl) (rdb (p := 256) (i := 19) ch_cX8_run_256 rfl)
theorem dX8_run_276 : decode cX8_run 276 = .ok (.iconst 1, 1) := do_4 (rdb (p := 256) (i := 20) ch_cX8_run_256 rfl)
theorem dX8_run_277 : decode cX8_run 277 = .ok (.iload_n 2, 1) := do_28 (rdb (p := 256) (i := 21) ch_cX8_run_256 rfl)
theorem dX8_run_278 : decode cX8_run 278 = .ok (.iload_n 3, 1) := do_29 (rdb (p := 256) (i := 22) ch_cX8_run_256 rfl)
theorem dX8_run_279 : decode cX8_run 279 = .ok (.invokevirtual 42, 3) := do_182 (rdb (p := 256) (i := 23) ch_cX8_run_256 rfl) (rdb (p := 256) (i := 24) ch_cX8_run_256 rfl) (rdb (p := 256) (i := 25) ch_cX8_run_256 rfl) rfl
theorem dX8_run_282 : decode cX8_run 282 = .ok (.iconst 2, 1) := do_5 (rdb (p := 256) (i := 26) ch_cX8_run_256 rfl)
theorem dX8_run_283 : decode cX8_run 283 = .ok (.idiv, 1) := do_108 (rdb (p := 256) (i := 27) ch_cX8_run_256 rfl)
theorem dX8_run_284 : decode cX8_run 284 = .ok (.ireturn, 1) := do_172 (rdb (p := 256) (i := 28) ch_cX8_run_256 rfl)
theorem dX8_run_285 : decode cX8_run 285 = .ok (.aload_n 0, 1) := do_42 (rdb (p := 256) (i := 29) ch_cX8_run_256 rfl)
theorem dX8_run_286 : decode cX8_run 286 = .ok (.iload 4, 2) := do_21 (rdb (p := 256) (i := 30) ch_cX8_run_256 rfl) (rdb (p := 256) (i := 31) ch_cX8_run_256 rfl)
theorem ch_cX8_run_288 : (cX8_run.data.toList.drop 288).take 36 = [5, 28, 29, 182, 0, 42, 42, 3, 5, 29, 182, 0, 65, 100, 172, 42, 21, 4, 6, 28, 29, 182, 0, 42, 42, 4, 28, 29, 182, 0, 65, 100, 172, 3, 172] := by decide +kernel
theorem dX8_run_288 : decode cX8_run 288 = .ok (.iconst 2, 1) := do_5 (rdb (p := 288) (i := 0) ch_cX8_run_288 rfl)
theorem dX8_run_289 : decode cX8_run 289 = .ok (.iload_n 2, 1) := do_28 (rdb (p := 288) (i := 1) ch_cX8_run_288 rfl)
theorem dX8_run_290 : decode cX8_run 290 = .ok (.iload_n 3, 1) := do_29 (rdb (p := 288) (i := 2) ch_cX8_run_288 rfl)
theorem dX8_run_291 : decode cX8_run 291 = .ok (.invokevirtual 42, 3) := do_182 (rdb (p := 288) (i := 3) ch_cX8_run_288 rfl) (rdb (p := 288) (i := 4) ch_cX8_run_288 rfl) (rdb (p := 288) (i := 5) ch_cX8_run_288 rfl) rfl
theorem dX8_run_294 : decode cX8_run 294 = .ok (.aload_n 0, 1) := do_42 (rdb (p := 288) (i := 6) ch_cX8_run_288 rfl)
theorem dX8_run_295 : decode cX8_run 295 = .ok (.iconst 0, 1) := do_3 (rdb (p := 288) (i := 7) ch_cX8_run_288 rfl)
theorem dX8_run_296 : decode cX8_run 296 = .ok (.iconst 2, 1) := do_5 (rdb (p := 288) (i := 8) ch_cX8_run_288 rfl)
theorem dX8_run_297 : decode cX8_run 297 = .ok (.iload_n 3, 1) := do_29 (rdb (p := 288) (i := 9) ch_cX8_run_288 rfl)
theorem dX8_run_298 : decode cX8_run 298 = .ok (.invokevirtual 65, 3) := do_182 (rdb (p := 288) (i := 10) ch_cX8_run_288 rfl) (rdb (p := 288) (i := 11) ch_cX8_run_288 rfl) (rdb (p := 288) (i := 12) ch_cX8_run_288 rfl) rfl
theorem dX8_run_301 : decode cX8_run 301 = .ok (.isub, 1) := do_100 (rdb (p := 288) (i := 13) ch_cX8_run_288 rfl)
theorem dX8_run_302 : decode cX8_run 302 = .ok (.ireturn, 1) := do_172 (rdb (p := 288) (i := 14) ch_cX8_run_288 rfl)
theorem dX8_run_303 : decode cX8_run 303 = .ok (.aload_n 0, 1) := do_42 (rdb (p := 288) (i := 15) ch_cX8_run_288 rfl)
theorem dX8_run_304 : decode cX8_run 304 = .ok (.iload 4, 2) := do_21 (rdb (p := 288) (i := 16) ch_cX8_run_288 rfl) (rdb (p := 288) (i := 17) ch_cX8_run_288 rfl)
theorem dX8_run_306 : decode cX8_run 306 = .ok (.iconst 3, 1) := do_6 (rdb (p := 288) (i := 18) ch_cX8_run_288 rfl)
theorem dX8_run_307 : decode cX8_run 307 = .ok (.iload_n 2, 1) := do_28 (rdb (p := 288) (i := 19) ch_cX8_run_288 rfl)
theorem dX8_run_308 : decode cX8_run 308 = .ok (.iload_n 3, 1) := do_29 (rdb (p := 288) (i := 20) ch_cX8_run_288 rfl)
theorem dX8_run_309 : decode cX8_run 309 = .ok (.invokevirtual 42, 3) := do_182 (rdb (p := 288) (i := 21) ch_cX8_run_288 rfl) (rdb (p := 288) (i := 22) ch_cX8_run_288 rfl) (rdb (p := 288) (i := 23) ch_cX8_run_288 rfl) rfl
theorem dX8_run_312 : decode cX8_run 312 = .ok (.aload_n 0, 1) := do_42 (rdb (p := 288) (i := 24) ch_cX8_run_288 rfl)
theorem dX8_run_313 : decode cX8_run 313 = .ok (.iconst 1, 1) := do_4 (rdb (p := 288) (i := 25) ch_cX8_run_288 rfl)
theorem dX8_run_314 : decode cX8_run 314 = .ok (.iload_n 2, 1) := do_28 (rdb (p := 288) (i := 26) ch_cX8_run_288 rfl)
theorem dX8_run_315 : decode cX8_run 315 = .ok (.iload_n 3, 1) := do_29 (rdb (p := 288) (i := 27) ch_cX8_run_288 rfl)
theorem dX8_run_316 : decode cX8_run 316 = .ok (.invokevirtual 65, 3) := do_182 (rdb (p := 288) (i := 28) ch_cX8_run_288 rfl) (rdb (p := 288) (i := 29) ch_cX8_run_288 rfl) (rdb (p := 288) (i := 30) ch_cX8_run_288 rfl) rfl
theorem dX8_run_319 : decode cX8_run 319 = .ok (.isub, 1) := do_100 (rdb (p := 288) (i := 31) ch_cX8_run_288 rfl)
theorem ch_cX8_run_320 : (cX8_run.data.toList.drop 320).take 36 = [172, 3, 172] := by decide +kernel
theorem dX8_run_320 : decode cX8_run 320 = .ok (.ireturn, 1) := do_172 (rdb (p := 320) (i := 0) ch_cX8_run_320 rfl)
theorem ch_cX8_say_0 : (cX8_say.data.toList.drop 0).take 36 = [27, 54, 5, 3, 54, 6, 21, 6, 16, 8, 162, 0, 83, 21, 5, 155, 0, 78, 7, 21, 5, 104, 28, 96, 54, 7, 21, 7, 155, 0, 21, 21, 7, 178, 0, 50] := by decide +kernel
theorem dX8_say_0 : decode cX8_say 0 = .ok (.iload_n 1, 1) := do_27 (rdb (p := 0) (i := 0) ch_cX8_say_0 rfl)
theorem dX8_say_1 : decode cX8_say 1 = .ok (.istore 5, 2) := do_54 (rdb (p := 0) (i := 1) ch_cX8_say_0 rfl) (rdb (p := 0) (i := 2) ch_cX8_say_0 rfl)
theorem dX8_say_3 : decode cX8_say 3 = .ok (.iconst 0, 1) := do_3 (rdb (p := 0) (i := 3) ch_cX8_say_0 rfl)
theorem dX8_say_4 : decode cX8_say 4 = .ok (.istore 6, 2) := do_54 (rdb (p := 0) (i := 4) ch_cX8_say_0 rfl) (rdb (p := 0) (i := 5) ch_cX8_say_0 rfl)
theorem dX8_say_6 : decode cX8_say 6 = .ok (.iload 6, 2) := do_21 (rdb (p := 0) (i := 6) ch_cX8_say_0 rfl) (rdb (p := 0) (i := 7) ch_cX8_say_0 rfl)
theorem dX8_say_8 : decode cX8_say 8 = .ok (.bipush 8, 2) := do_16 (rdb (p := 0) (i := 8) ch_cX8_say_0 rfl) (rdb (p := 0) (i := 9) ch_cX8_say_0 rfl) (by decide +kernel)
theorem dX8_say_10 : decode cX8_say 10 = .ok (.if_icmp .ge 83, 3) := do_162 (rdb (p := 0) (i := 10) ch_cX8_say_0 rfl) (rdb (p := 0) (i := 11) ch_cX8_say_0 rfl) (rdb (p := 0) (i := 12) ch_cX8_say_0 rfl) (by decide +kernel)
theorem dX8_say_13 : decode cX8_say 13 = .ok (.iload 5, 2) := do_21 (rdb (p := 0) (i := 13) ch_cX8_say_0 rfl) (rdb (p := 0) (i := 14) ch_cX8_say_0 rfl)
theorem dX8_say_15 : decode cX8_say 15 = .ok (.ifCond .lt 78, 3) := do_155 (rdb (p := 0) (i := 15) ch_cX8_say_0 rfl) (rdb (p := 0) (i := 16) ch_cX8_say_0 rfl) (rdb (p := 0) (i := 17) ch_cX8_say_0 rfl) (by decide +kernel)
theorem dX8_say_18 : decode cX8_say 18 = .ok (.iconst 4, 1) := do_7 (rdb (p := 0) (i := 18) ch_cX8_say_0 rfl)
theorem dX8_say_19 : decode cX8_say 19 = .ok (.iload 5, 2) := do_21 (rdb (p := 0) (i := 19) ch_cX8_say_0 rfl) (rdb (p := 0) (i := 20) ch_cX8_say_0 rfl)
theorem dX8_say_21 : decode cX8_say 21 = .ok (.imul, 1) := do_104 (rdb (p := 0) (i := 21) ch_cX8_say_0 rfl)
theorem dX8_say_22 : decode cX8_say 22 = .ok (.iload_n 2, 1) := do_28 (rdb (p := 0) (i := 22) ch_cX8_say_0 rfl)
theorem dX8_say_23 : decode cX8_say 23 = .ok (.iadd, 1) := do_96 (rdb (p := 0) (i := 23) ch_cX8_say_0 rfl)
theorem dX8_say_24 : decode cX8_say 24 = .ok (.istore 7, 2) := do_54 (rdb (p := 0) (i := 24) ch_cX8_say_0 rfl) (rdb (p := 0) (i := 25) ch_cX8_say_0 rfl)
theorem dX8_say_26 : decode cX8_say 26 = .ok (.iload 7, 2) := do_21 (rdb (p := 0) (i := 26) ch_cX8_say_0 rfl) (rdb (p := 0) (i := 27) ch_cX8_say_0 rfl)
theorem dX8_say_28 : decode cX8_say 28 = .ok (.ifCond .lt 21, 3) := do_155 (rdb (p := 0) (i := 28) ch_cX8_say_0 rfl) (rdb (p := 0) (i := 29) ch_cX8_say_0 rfl) (rdb (p := 0) (i := 30) ch_cX8_say_0 rfl) (by decide +kernel)
theorem dX8_say_31 : decode cX8_say 31 = .ok (.iload 7, 2) := do_21 (rdb (p := 0) (i := 31) ch_cX8_say_0 rfl) (rdb (p := 0) (i := 32) ch_cX8_say_0 rfl)
theorem ch_cX8_say_32 : (cX8_say.data.toList.drop 32).take 36 = [7, 178, 0, 50, 190, 162, 0, 12, 178, 0, 50, 21, 7, 46, 167, 0, 4, 3, 54, 8, 21, 8, 153, 0, 26, 21, 4, 16, 30, 162, 0, 17, 42, 21, 8, 29] := by decide +kernel
theorem dX8_say_33 : decode cX8_say 33 = .ok (.getstatic 50, 3) := do_178 (rdb (p := 32) (i := 1) ch_cX8_say_32 rfl) (rdb (p := 32) (i := 2) ch_cX8_say_32 rfl) (rdb (p := 32) (i := 3) ch_cX8_say_32 rfl) rfl
theorem dX8_say_36 : decode cX8_say 36 = .ok (.arraylength, 1) := do_190 (rdb (p := 32) (i := 4) ch_cX8_say_32 rfl)
theorem dX8_say_37 : decode cX8_say 37 = .ok (.if_icmp .ge 12, 3) := do_162 (rdb (p := 32) (i := 5) ch_cX8_say_32 rfl) (rdb (p := 32) (i := 6) ch_cX8_say_32 rfl) (rdb (p := 32) (i := 7) ch_cX8_say_32 rfl) (by decide +kernel)
theorem dX8_say_40 : decode cX8_say 40 = .ok (.getstatic 50, 3) := do_178 (rdb (p := 32) (i := 8) ch_cX8_say_32 rfl) (rdb (p := 32) (i := 9) ch_cX8_say_32 rfl) (rdb (p := 32) (i := 10) ch_cX8_say_32 rfl) rfl
theorem dX8_say_43 : decode cX8_say 43 = .ok (.iload 7, 2) := do_21 (rdb (p := 32) (i := 11) ch_cX8_say_32 rfl) (rdb (p := 32) (i := 12) ch_cX8_say_32 rfl)
theorem dX8_say_45 : decode cX8_say 45 = .ok (.iaload, 1) := do_46 (rdb (p := 32) (i := 13) ch_cX8_say_32 rfl)
theorem dX8_say_46 : decode cX8_say 46 = .ok (.goto 4, 3) := do_167 (rdb (p := 32) (i := 14) ch_cX8_say_32 rfl) (rdb (p := 32) (i := 15) ch_cX8_say_32 rfl) (rdb (p := 32) (i := 16) ch_cX8_say_32 rfl) (by decide +kernel)
theorem dX8_say_49 : decode cX8_say 49 = .ok (.iconst 0, 1) := do_3 (rdb (p := 32) (i := 17) ch_cX8_say_32 rfl)
theorem dX8_say_50 : decode cX8_say 50 = .ok (.istore 8, 2) := do_54 (rdb (p := 32) (i := 18) ch_cX8_say_32 rfl) (rdb (p := 32) (i := 19) ch_cX8_say_32 rfl)
theorem dX8_say_52 : decode cX8_say 52 = .ok (.iload 8, 2) := do_21 (rdb (p := 32) (i := 20) ch_cX8_say_32 rfl) (rdb (p := 32) (i := 21) ch_cX8_say_32 rfl)
theorem dX8_say_54 : decode cX8_say 54 = .ok (.ifCond .eq 26, 3) := do_153 (rdb (p := 32) (i := 22) ch_cX8_say_32 rfl) (rdb (p := 32) (i := 23) ch_cX8_say_32 rfl) (rdb (p := 32) (i := 24) ch_cX8_say_32 rfl) (by decide +kernel)
theorem dX8_say_57 : decode cX8_say 57 = .ok (.iload 4, 2) := do_21 (rdb (p := 32) (i := 25) ch_cX8_say_32 rfl) (rdb (p := 32) (i := 26) ch_cX8_say_32 rfl)
theorem dX8_say_59 : decode cX8_say 59 = .ok (.bipush 30, 2) := do_16 (rdb (p := 32) (i := 27) ch_cX8_say_32 rfl) (rdb (p := 32) (i := 28) ch_cX8_say_32 rfl) (by decide +kernel)
theorem dX8_say_61 : decode cX8_say 61 = .ok (.if_icmp .ge 17, 3) := do_162 (rdb (p := 32) (i := 29) ch_cX8_say_32 rfl) (rdb (p := 32) (i := 30) ch_cX8_say_32 rfl) (rdb (p := 32) (i := 31) ch_cX8_say_32 rfl) (by decide +kernel)
theorem ch_cX8_say_64 : (cX8_say.data.toList.drop 64).take 36 = [42, 21, 8, 29, 21, 4, 4, 96, 182, 0, 54, 167, 0, 4, 3, 172, 21, 5, 184, 0, 58, 54, 5, 132, 6, 1, 167, 255, 172, 3, 172] := by decide +kernel
theorem dX8_say_64 : decode cX8_say 64 = .ok (.aload_n 0, 1) := do_42 (rdb (p := 64) (i := 0) ch_cX8_say_64 rfl)
theorem dX8_say_65 : decode cX8_say 65 = .ok (.iload 8, 2) := do_21 (rdb (p := 64) (i := 1) ch_cX8_say_64 rfl) (rdb (p := 64) (i := 2) ch_cX8_say_64 rfl)
theorem dX8_say_67 : decode cX8_say 67 = .ok (.iload_n 3, 1) := do_29 (rdb (p := 64) (i := 3) ch_cX8_say_64 rfl)
theorem dX8_say_68 : decode cX8_say 68 = .ok (.iload 4, 2) := do_21 (rdb (p := 64) (i := 4) ch_cX8_say_64 rfl) (rdb (p := 64) (i := 5) ch_cX8_say_64 rfl)
theorem dX8_say_70 : decode cX8_say 70 = .ok (.iconst 1, 1) := do_4 (rdb (p := 64) (i := 6) ch_cX8_say_64 rfl)
theorem dX8_say_71 : decode cX8_say 71 = .ok (.iadd, 1) := do_96 (rdb (p := 64) (i := 7) ch_cX8_say_64 rfl)
theorem dX8_say_72 : decode cX8_say 72 = .ok (.invokevirtual 54, 3) := do_182 (rdb (p := 64) (i := 8) ch_cX8_say_64 rfl) (rdb (p := 64) (i := 9) ch_cX8_say_64 rfl) (rdb (p := 64) (i := 10) ch_cX8_say_64 rfl) rfl
theorem dX8_say_75 : decode cX8_say 75 = .ok (.goto 4, 3) := do_167 (rdb (p := 64) (i := 11) ch_cX8_say_64 rfl) (rdb (p := 64) (i := 12) ch_cX8_say_64 rfl) (rdb (p := 64) (i := 13) ch_cX8_say_64 rfl) (by decide +kernel)
theorem dX8_say_78 : decode cX8_say 78 = .ok (.iconst 0, 1) := do_3 (rdb (p := 64) (i := 14) ch_cX8_say_64 rfl)
theorem dX8_say_79 : decode cX8_say 79 = .ok (.ireturn, 1) := do_172 (rdb (p := 64) (i := 15) ch_cX8_say_64 rfl)
theorem dX8_say_80 : decode cX8_say 80 = .ok (.iload 5, 2) := do_21 (rdb (p := 64) (i := 16) ch_cX8_say_64 rfl) (rdb (p := 64) (i := 17) ch_cX8_say_64 rfl)
theorem dX8_say_82 : decode cX8_say 82 = .ok (.invokestatic 58, 3) := do_184 (rdb (p := 64) (i := 18) ch_cX8_say_64 rfl) (rdb (p := 64) (i := 19) ch_cX8_say_64 rfl) (rdb (p := 64) (i := 20) ch_cX8_say_64 rfl) rfl
theorem dX8_say_85 : decode cX8_say 85 = .ok (.istore 5, 2) := do_54 (rdb (p := 64) (i := 21) ch_cX8_say_64 rfl) (rdb (p := 64) (i := 22) ch_cX8_say_64 rfl)
theorem dX8_say_87 : decode cX8_say 87 = .ok (.iinc 6 1, 3) := do_132 (rdb (p := 64) (i := 23) ch_cX8_say_64 rfl) (rdb (p := 64) (i := 24) ch_cX8_say_64 rfl) (rdb (p := 64) (i := 25) ch_cX8_say_64 rfl) (by decide +kernel)
theorem dX8_say_90 : decode cX8_say 90 = .ok (.goto (-84), 3) := do_167 (rdb (p := 64) (i := 26) ch_cX8_say_64 rfl) (rdb (p := 64) (i := 27) ch_cX8_say_64 rfl) (rdb (p := 64) (i := 28) ch_cX8_say_64 rfl) (by decide +kernel)
theorem dX8_say_93 : decode cX8_say 93 = .ok (.iconst 0, 1) := do_3 (rdb (p := 64) (i := 29) ch_cX8_say_64 rfl)
theorem dX8_say_94 : decode cX8_say 94 = .ok (.ireturn, 1) := do_172 (rdb (p := 64) (i := 30) ch_cX8_say_64 rfl)
end
section
section WPV
variable {cls : List rf} {l : Launch} {G : va_G} {cy : Nat → ClassId} {ad : rf → Nat} {y : MethodName} {b : ByteArray} {n : Nat} {r : Option FieldType} {d : Nat} {pc : Nat} {ls : List (Nat × mV)} {st : List mV} {M : mM} {Q : Int32 → mM → Prop}
theorem w_alenT {k : Nat} {q : String × String × List Int32} {v : Int32} (hk : STs[k]? = some q) (hd : decode b pc = .ok (.arraylength, 1)) (hv : Int32.ofNat q.2.2.length = v) (kk : WP cls l G cy ad y b n r d (pc + 1) ls (vI v :: st) M Q) : WP cls l G cy ad y b n r d pc ls (vR (90, k, 0) :: st) M Q := by
  intro p e s m args below meth c A X lsA H locs hl hP hS
  have kk := kk p e s m args below meth c A X lsA H locs hl hP hS
  obtain ⟨hx1, hb, hr, hml, hts, hown, hlk, hE, hT, hA⟩ := X
  exact va_tlen hx1 hb (hT.1 k _ hk).2 hS hv hd kk
theorem w_dep {d1 d2 : Nat} (h : d1 = d2) (kk : WP cls l G cy ad y b n r d1 pc ls st M Q) : WP cls l G cy ad y b n r d2 pc ls st M Q := h ▸ kk
end WPV
def S_voice : rf → Nat → Prop := fun c k => (c.1 = 5 ∧ c.2.1 = 3 ∧ c.2.2 = 4 ∧ k = 1) ∨ (c.1 = 33 ∧ c.2.1 = 3 ∧ c.2.2 = 4) ∨ (c.1 = 8 ∧ c.2.1 = 0 ∧ k = 5) ∨ False
theorem bodies_in : ∀ j, j < 32 → (let z := (([10, 11, 12, 13, 20, 0, 0, 21, 0, 30, 0, 0, 40, 0, 41, 0, 0, 0, 50, 0, 0, 60, 0, 0, 0, 70, 71, 0, 0, 0, 0, 80] : List Int32).getD j 0); z.toInt = 0 ∨ z.toInt = 10 ∨ z.toInt = 11 ∨ z.toInt = 12 ∨ z.toInt = 13 ∨ z.toInt = 20 ∨ z.toInt = 21 ∨ z.toInt = 30 ∨ z.toInt = 40 ∨ z.toInt = 41 ∨ z.toInt = 50 ∨ z.toInt = 60 ∨ z.toInt = 70 ∨ z.toInt = 71 ∨ z.toInt = 80) := by decide +kernel
def SAYC (l : Launch) (G : va_G) (cy : Nat → ClassId) (ad : rf → Nat) (N m : Nat) (Q : Int32 → Int32 → Int32 → Int32 → mM → Int32 → mM → Prop) : Prop := ∀ (d : Nat) (v u t s : Int32) (Mz : mM) (hIz : Inv Mz) (hdp : s.toInt + ((m : Nat) : Int) = 30) (hd0 : 0 ≤ s.toInt ∧ s.toInt ≤ 30), WP CC l G cy ad yX8_say cX8_say 9 (some .int) (N + d) 0 [(0, vR (8, 0, 0)), (1, vI v), (2, vI u), (3, vI t), (4, vI s)] [] Mz (fun r M' => Inv M' ∧ FR (S_voice) Mz M' ∧ (True) ∧ Q v u t s Mz r M')
def RUNC (l : Launch) (G : va_G) (cy : Nat → ClassId) (ad : rf → Nat) (N m : Nat) (Q : Int32 → Int32 → Int32 → mM → Int32 → mM → Prop) : Prop := ∀ (d : Nat) (v u t : Int32) (Mz : mM) (hIz : Inv Mz) (hdp : t.toInt + ((m : Nat) : Int) = 30) (hd0 : 0 ≤ t.toInt ∧ t.toInt ≤ 30) (hbo : v.toInt = 10 ∨ v.toInt = 11 ∨ v.toInt = 12 ∨ v.toInt = 13 ∨ v.toInt = 20 ∨ v.toInt = 21 ∨ v.toInt = 30 ∨ v.toInt = 40 ∨ v.toInt = 41 ∨ v.toInt = 50 ∨ v.toInt = 60 ∨ v.toInt = 70 ∨ v.toInt = 71 ∨ v.toInt = 80), WP CC l G cy ad yX8_run cX8_run 5 (some .int) (N + d) 0 [(0, vR (8, 0, 0)), (1, vI v), (2, vI u), (3, vI t)] [] Mz (fun r M' => Inv M' ∧ FR (S_voice) Mz M' ∧ (True) ∧ Q v u t Mz r M')
def ST_X8_say_6 (u : Int32) (Mz : mM) (v6_6 : Int32) (v5_6 : Int32) (M_6 : mM) (v6_6y : Int32) (v5_6y : Int32) (M_6y : mM) : Prop := (0 ≤ v6_6.toInt) ∧ (v6_6.toInt ≤ 8) ∧ (Inv M_6) ∧ (FR (S_voice) Mz M_6) ∧ (v6_6.toInt < 8) ∧ (0 ≤ v5_6.toInt) ∧ ∃ z4_ : Int32, (z4_ = (4 : Int32) * v5_6) ∧ ∃ z6_ : Int32, (z6_ = z4_ + u) ∧ (((z6_.toInt < 0) ∧ ∃ r10_ : Int32, (SP_X9_kindAbove v5_6 M_6 r10_) ∧ ∃ z15_ : Int32, (z15_.toInt = v6_6.toInt + 1) ∧ v6_6y = z15_ ∧ v5_6y = r10_ ∧ M_6y = M_6) ∨ ((0 ≤ z6_.toInt) ∧ (((32 ≤ z6_.toInt) ∧ ∃ r19_ : Int32, (SP_X9_kindAbove v5_6 M_6 r19_) ∧ ∃ z24_ : Int32, (z24_.toInt = v6_6.toInt + 1) ∧ v6_6y = z24_ ∧ v5_6y = r19_ ∧ M_6y = M_6) ∨ ((z6_.toInt < 32) ∧ ∃ j28_ : Nat, ((j28_ : Int) = z6_.toInt) ∧ ∃ z26_ : Int32, (z26_ = ([10, 11, 12, 13, 20, 0, 0, 21, 0, 30, 0, 0, 40, 0, 41, 0, 0, 0, 50, 0, 0, 60, 0, 0, 0, 70, 71, 0, 0, 0, 0, 80] : List Int32).getD j28_ 0) ∧ (z26_.toInt = 0 ∨ z26_.toInt = 10 ∨ z26_.toInt = 11 ∨ z26_.toInt = 12 ∨ z26_.toInt = 13 ∨ z26_.toInt = 20 ∨ z26_.toInt = 21 ∨ z26_.toInt = 30 ∨ z26_.toInt = 40 ∨ z26_.toInt = 41 ∨ z26_.toInt = 50 ∨ z26_.toInt = 60 ∨ z26_.toInt = 70 ∨ z26_.toInt = 71 ∨ z26_.toInt = 80) ∧ (z26_.toInt = 0) ∧ ∃ r32_ : Int32, (SP_X9_kindAbove v5_6 M_6 r32_) ∧ ∃ z37_ : Int32, (z37_.toInt = v6_6.toInt + 1) ∧ v6_6y = z37_ ∧ v5_6y = r32_ ∧ M_6y = M_6))))
def SP_X8_say (N : Nat) (m : Nat) (QR : Int32 → Int32 → Int32 → mM → Int32 → mM → Prop) (v : Int32) (u : Int32) (t : Int32) (s : Int32) (Mz : mM) (r_ : Int32) (M_ : mM) : Prop := ∃ v6_6 : Int32, (0 ≤ v6_6.toInt) ∧ (v6_6.toInt ≤ 8) ∧ ∃ v5_6 : Int32, ∃ M_6 : mM, (RCH (fun x_ y_ => ST_X8_say_6 u Mz x_.1 x_.2.1 x_.2.2 y_.1 y_.2.1 y_.2.2) ((0 : Int32), v, Mz) (v6_6, v5_6, M_6)) ∧ (Inv M_6) ∧ (FR (S_voice) Mz M_6) ∧ (((8 ≤ v6_6.toInt) ∧ r_ = 0 ∧ M_ = M_6) ∨ ((v6_6.toInt < 8) ∧ (((v5_6.toInt < 0) ∧ r_ = 0 ∧ M_ = M_6) ∨ ((0 ≤ v5_6.toInt) ∧ ∃ z4_ : Int32, (z4_ = (4 : Int32) * v5_6) ∧ ∃ z6_ : Int32, (z6_ = z4_ + u) ∧ (0 ≤ z6_.toInt) ∧ (z6_.toInt < 32) ∧ ∃ j28_ : Nat, ((j28_ : Int) = z6_.toInt) ∧ ∃ z26_ : Int32, (z26_ = ([10, 11, 12, 13, 20, 0, 0, 21, 0, 30, 0, 0, 40, 0, 41, 0, 0, 0, 50, 0, 0, 60, 0, 0, 0, 70, 71, 0, 0, 0, 0, 80] : List Int32).getD j28_ 0) ∧ (z26_.toInt = 0 ∨ z26_.toInt = 10 ∨ z26_.toInt = 11 ∨ z26_.toInt = 12 ∨ z26_.toInt = 13 ∨ z26_.toInt = 20 ∨ z26_.toInt = 21 ∨ z26_.toInt = 30 ∨ z26_.toInt = 40 ∨ z26_.toInt = 41 ∨ z26_.toInt = 50 ∨ z26_.toInt = 60 ∨ z26_.toInt = 70 ∨ z26_.toInt = 71 ∨ z26_.toInt = 80) ∧ (¬ z26_.toInt = 0) ∧ (((30 ≤ s.toInt) ∧ r_ = 0 ∧ M_ = M_6) ∨ ((s.toInt < 30) ∧ ∃ z40_ : Int32, (z40_.toInt = s.toInt + 1) ∧ ∃ M43_ : mM, (Inv M43_) ∧ (FR (S_voice) M_6 M43_) ∧ ∃ r42_ : Int32, (QR z26_ t z40_ M_6 r42_ M43_) ∧ r_ = r42_ ∧ M_ = M43_))))))
theorem lf_c_X8_say_8 (z6_ : Int32) (h8_ : 0 ≤ z6_.toInt) (h17_ : z6_.toInt < 32) : 0 ≤ z6_.toInt ∧ z6_.toInt < ((32 : Nat) : Int) := by omega
theorem lf_c_X8_say_9 (z6_ : Int32) (j28_ : Nat) (h17_ : z6_.toInt < 32) (h29_ : (j28_ : Int) = z6_.toInt) : j28_ < 32 := by omega
theorem lf_c_X8_say_14 (s : Int32) (hd0 : 0 ≤ s.toInt ∧ s.toInt ≤ 30) (h39_ : s.toInt < 30) : -2147483648 ≤ s.toInt + 1 ∧ s.toInt + 1 < 2147483648 := by omega
theorem lf_c_X8_say_15 (m : Nat) (s : Int32) (z40_ : Int32) (hdp : s.toInt + ((m : Nat) : Int) = 30) (h39_ : s.toInt < 30) (h41_ : z40_.toInt = s.toInt + 1) : z40_.toInt + (((m - 1) : Nat) : Int) = 30 := by omega
theorem lf_c_X8_say_16 (s : Int32) (z40_ : Int32) (hd0 : 0 ≤ s.toInt ∧ s.toInt ≤ 30) (h39_ : s.toInt < 30) (h41_ : z40_.toInt = s.toInt + 1) : 0 ≤ z40_.toInt ∧ z40_.toInt ≤ 30 := by omega
theorem lf_c_X8_say_17 (z26_ : Int32) (h30_ : z26_.toInt = 0 ∨ z26_.toInt = 10 ∨ z26_.toInt = 11 ∨ z26_.toInt = 12 ∨ z26_.toInt = 13 ∨ z26_.toInt = 20 ∨ z26_.toInt = 21 ∨ z26_.toInt = 30 ∨ z26_.toInt = 40 ∨ z26_.toInt = 41 ∨ z26_.toInt = 50 ∨ z26_.toInt = 60 ∨ z26_.toInt = 70 ∨ z26_.toInt = 71 ∨ z26_.toInt = 80) (h31_ : ¬ z26_.toInt = 0) : z26_.toInt = 10 ∨ z26_.toInt = 11 ∨ z26_.toInt = 12 ∨ z26_.toInt = 13 ∨ z26_.toInt = 20 ∨ z26_.toInt = 21 ∨ z26_.toInt = 30 ∨ z26_.toInt = 40 ∨ z26_.toInt = 41 ∨ z26_.toInt = 50 ∨ z26_.toInt = 60 ∨ z26_.toInt = 70 ∨ z26_.toInt = 71 ∨ z26_.toInt = 80 := by have r_z26_ := rngI z26_; omega
theorem lf_c_X8_say_18 (m : Nat) (s : Int32) (hdp : s.toInt + ((m : Nat) : Int) = 30) (h39_ : s.toInt < 30) : m - 1 + 1 = m := by omega
set_option maxHeartbeats 4000000 in
set_option maxRecDepth 100000 in
theorem c_X8_say (l : Launch) (G : va_G) (cy : Nat → ClassId) (ad : rf → Nat) (d : Nat) (N : Nat) (m : Nat) (QR : Int32 → Int32 → Int32 → mM → Int32 → mM → Prop) (v : Int32) (u : Int32) (t : Int32) (s : Int32) (Mz : mM) (hIz : Inv Mz) (hR : ∀ k : Nat, k + 1 = m → RUNC l G cy ad N k QR) (hdp : s.toInt + ((m : Nat) : Int) = 30) (hd0 : 0 ≤ s.toInt ∧ s.toInt ≤ 30) : WP CC l G cy ad yX8_say cX8_say 9 (some .int) ((N + d) + 1) 0 [(0, vR (8, 0, 0)), (1, vI v), (2, vI u), (3, vI t), (4, vI s)] [] Mz (fun r M' => Inv M' ∧ FR (S_voice) Mz M' ∧ (True) ∧ SP_X8_say N m QR v u t s Mz r M') := by
  have hFz : FR (S_voice) Mz Mz := FR.self
  refine w_iload_n dX8_say_0 rfl 1 rfl ?_
  refine w_istore (ls' := [(5, vI v), (0, vR (8, 0, 0)), (1, vI v), (2, vI u), (3, vI t), (4, vI s)]) dX8_say_1 (by decide) rfl ?_
  refine w_iconst (v := 0) dX8_say_3 (by decide) ?_
  refine w_istore (ls' := [(6, vI 0), (5, vI v), (0, vR (8, 0, 0)), (1, vI v), (2, vI u), (3, vI t), (4, vI s)]) dX8_say_4 (by decide) rfl ?_
  have lp1_ : ∀ (nn_6 : Nat) (M_6 : mM) (hI_6 : Inv M_6) (hF_6 : FR (S_voice) Mz M_6) (v6_6 : Int32) (v5_6 : Int32) (hv0_6 : 0 ≤ v6_6.toInt) (hv1_6 : v6_6.toInt ≤ 8) (hL_6 : RCH (fun x_ y_ => ST_X8_say_6 u Mz x_.1 x_.2.1 x_.2.2 y_.1 y_.2.1 y_.2.2) ((0 : Int32), v, Mz) (v6_6, v5_6, M_6)), (2147483648 - v6_6.toInt).toNat < nn_6 → WP CC l G cy ad yX8_say cX8_say 9 (some .int) ((N + d) + 1) 6 [(6, vI v6_6), (5, vI v5_6), (0, vR (8, 0, 0)), (1, vI v), (2, vI u), (3, vI t), (4, vI s)] [] M_6 (fun r M' => Inv M' ∧ FR (S_voice) Mz M' ∧ (True) ∧ SP_X8_say N m QR v u t s Mz r M') := by
    intro nn_6
    induction nn_6 with
    | zero => intro M_6 hI_6 hF_6 v6_6 v5_6 hv0_6 hv1_6 hL_6 hm_6; exact absurd hm_6 (Nat.not_lt_zero _)
    | succ nn_6 ih_6 =>
      intro M_6 hI_6 hF_6 v6_6 v5_6 hv0_6 hv1_6 hL_6 hm_6
      refine w_iload dX8_say_6 0 rfl ?_
      refine w_bipush (v := 8) dX8_say_8 (by decide) ?_
      refine w_icmp_ge (tgt := 93) dX8_say_10 (by decide) (rfl : v6_6.toInt = v6_6.toInt) li_8 (fun h2_ => ?_) (fun h2_ => ?_)
      · refine w_iconst (v := 0) dX8_say_93 (by decide) ?_
        exact w_iret rfl dX8_say_94 ⟨hI_6, hF_6, trivial, ⟨v6_6, hv0_6, hv1_6, v5_6, M_6, hL_6, hI_6, hF_6, (Or.inl ⟨h2_, rfl, rfl⟩)⟩⟩
      · refine w_iload dX8_say_13 1 rfl ?_
        refine w_if_lt (tgt := 93) dX8_say_15 (by decide) (rfl : v5_6.toInt = v5_6.toInt) (fun h3_ => ?_) (fun h3_ => ?_)
        · refine w_iconst (v := 0) dX8_say_93 (by decide) ?_
          exact w_iret rfl dX8_say_94 ⟨hI_6, hF_6, trivial, ⟨v6_6, hv0_6, hv1_6, v5_6, M_6, hL_6, hI_6, hF_6, (Or.inr ⟨h2_, (Or.inl ⟨h3_, rfl, rfl⟩)⟩)⟩⟩
        · refine w_iconst (v := 4) dX8_say_18 (by decide) ?_
          refine w_iload dX8_say_19 1 rfl ?_
          refine w_imul dX8_say_21 (fun z4_ h5_ => ?_)
          refine w_iload_n dX8_say_22 rfl 4 rfl ?_
          refine w_iadd dX8_say_23 (fun z6_ h7_ => ?_)
          refine w_istore (ls' := [(7, vI z6_), (6, vI v6_6), (5, vI v5_6), (0, vR (8, 0, 0)), (1, vI v), (2, vI u), (3, vI t), (4, vI s)]) dX8_say_24 (by decide) rfl ?_
          refine w_iload dX8_say_26 0 rfl ?_
          refine w_if_lt (tgt := 49) dX8_say_28 (by decide) (rfl : z6_.toInt = z6_.toInt) (fun h8_ => ?_) (fun h8_ => ?_)
          · refine w_iconst (v := 0) dX8_say_49 (by decide) ?_
            refine w_istore (ls' := [(8, vI 0), (7, vI z6_), (6, vI v6_6), (5, vI v5_6), (0, vR (8, 0, 0)), (1, vI v), (2, vI u), (3, vI t), (4, vI s)]) dX8_say_50 (by decide) rfl ?_
            refine w_iload dX8_say_52 0 rfl ?_
            refine w_if_eq (tgt := 80) dX8_say_54 (by decide) li_0 (fun h9_ => ?_) (fun h9 => (absurd h9 (by decide)))
            refine w_iload dX8_say_80 3 rfl ?_
            refine w_callS (as := [vI v5_6]) (rest := []) (c_X9_kindAbove l G cy ad (N + d) v5_6 M_6 hI_6) kS_X9_kindAbove pnn_3 (Nat.le_of_ble_eq_true rfl) m_1196 rfl rfl (by decide) (Nat.le_of_ble_eq_true rfl) dX8_say_82 (fun r10_ M11_ q12_ => ?_)
            obtain ⟨rfl, h13_, hs14_⟩ := q12_
            refine w_istore (ls' := [(5, vI r10_), (8, vI 0), (7, vI z6_), (6, vI v6_6), (0, vR (8, 0, 0)), (1, vI v), (2, vI u), (3, vI t), (4, vI s)]) dX8_say_85 (by decide) rfl ?_
            refine w_iincB (j := 3) (f := fun z15_ => [(6, vI z15_), (5, vI r10_), (8, vI 0), (7, vI z6_), (0, vR (8, 0, 0)), (1, vI v), (2, vI u), (3, vI t), (4, vI s)]) dX8_say_87 rfl (by decide) (fun _ => rfl) (rfl : v6_6.toInt = v6_6.toInt) li_1 (lf_c_X9_isOf_0 v6_6 hv0_6 h2_ ) (fun z15_ h16_ => ?_)
            refine w_goto (tgt := 6) dX8_say_90 (by decide) ?_
            refine w_loc (ls' := [(6, vI z15_), (5, vI r10_), (0, vR (8, 0, 0)), (1, vI v), (2, vI u), (3, vI t), (4, vI s)]) [0, 1, 4, 5, 6, 7, 8] rfl ?_
            exact ih_6 M_6 hI_6 hF_6 z15_ r10_ (lf_c_X5_takeFrom_3 v6_6 z15_ hv0_6 h16_ ) (lf_c_X9_isOf_2 v6_6 z15_ h2_ h16_ ) (RCH.tail hL_6 ⟨hv0_6, hv1_6, hI_6, hF_6, h2_, h3_, z4_, h5_, z6_, h7_, (Or.inl ⟨h8_, r10_, hs14_, z15_, h16_, rfl, rfl, rfl⟩)⟩) (Nat.lt_of_lt_of_le (lf_c_X9_isOf_3 v6_6 z15_ h2_ h16_ ) (Nat.le_of_lt_succ hm_6))
          · refine w_iload dX8_say_31 0 rfl ?_
            refine w_gets (k := 6) rfl m_1189 dX8_say_33 ?_
            refine w_alenT (k := 6) (v := 32) rfl dX8_say_36 rfl ?_
            refine w_icmp_ge (tgt := 49) dX8_say_37 (by decide) (rfl : z6_.toInt = z6_.toInt) li_32 (fun h17_ => ?_) (fun h17_ => ?_)
            · refine w_iconst (v := 0) dX8_say_49 (by decide) ?_
              refine w_istore (ls' := [(8, vI 0), (7, vI z6_), (6, vI v6_6), (5, vI v5_6), (0, vR (8, 0, 0)), (1, vI v), (2, vI u), (3, vI t), (4, vI s)]) dX8_say_50 (by decide) rfl ?_
              refine w_iload dX8_say_52 0 rfl ?_
              refine w_if_eq (tgt := 80) dX8_say_54 (by decide) li_0 (fun h18_ => ?_) (fun h9 => (absurd h9 (by decide)))
              refine w_iload dX8_say_80 3 rfl ?_
              refine w_callS (as := [vI v5_6]) (rest := []) (c_X9_kindAbove l G cy ad (N + d) v5_6 M_6 hI_6) kS_X9_kindAbove pnn_3 (Nat.le_of_ble_eq_true rfl) m_1196 rfl rfl (by decide) (Nat.le_of_ble_eq_true rfl) dX8_say_82 (fun r19_ M20_ q21_ => ?_)
              obtain ⟨rfl, h22_, hs23_⟩ := q21_
              refine w_istore (ls' := [(5, vI r19_), (8, vI 0), (7, vI z6_), (6, vI v6_6), (0, vR (8, 0, 0)), (1, vI v), (2, vI u), (3, vI t), (4, vI s)]) dX8_say_85 (by decide) rfl ?_
              refine w_iincB (j := 3) (f := fun z24_ => [(6, vI z24_), (5, vI r19_), (8, vI 0), (7, vI z6_), (0, vR (8, 0, 0)), (1, vI v), (2, vI u), (3, vI t), (4, vI s)]) dX8_say_87 rfl (by decide) (fun _ => rfl) (rfl : v6_6.toInt = v6_6.toInt) li_1 (lf_c_X9_isOf_0 v6_6 hv0_6 h2_ ) (fun z24_ h25_ => ?_)
              refine w_goto (tgt := 6) dX8_say_90 (by decide) ?_
              refine w_loc (ls' := [(6, vI z24_), (5, vI r19_), (0, vR (8, 0, 0)), (1, vI v), (2, vI u), (3, vI t), (4, vI s)]) [0, 1, 4, 5, 6, 7, 8] rfl ?_
              exact ih_6 M_6 hI_6 hF_6 z24_ r19_ (lf_c_X5_takeFrom_3 v6_6 z24_ hv0_6 h25_ ) (lf_c_X9_isOf_2 v6_6 z24_ h2_ h25_ ) (RCH.tail hL_6 ⟨hv0_6, hv1_6, hI_6, hF_6, h2_, h3_, z4_, h5_, z6_, h7_, (Or.inr ⟨h8_, (Or.inl ⟨h17_, r19_, hs23_, z24_, h25_, rfl, rfl, rfl⟩)⟩)⟩) (Nat.lt_of_lt_of_le (lf_c_X9_isOf_3 v6_6 z24_ h2_ h25_ ) (Nat.le_of_lt_succ hm_6))
            · refine w_gets (k := 6) rfl m_1189 dX8_say_40 ?_
              refine w_iload dX8_say_43 0 rfl ?_
              refine w_iaT (k := 6) rfl (rfl : z6_.toInt = z6_.toInt) (lf_c_X8_say_8 z6_ h8_ h17_ ) dX8_say_45 (fun j28_ h29_ z26_ e27_ => ?_)
              have h30_ : z26_.toInt = 0 ∨ z26_.toInt = 10 ∨ z26_.toInt = 11 ∨ z26_.toInt = 12 ∨ z26_.toInt = 13 ∨ z26_.toInt = 20 ∨ z26_.toInt = 21 ∨ z26_.toInt = 30 ∨ z26_.toInt = 40 ∨ z26_.toInt = 41 ∨ z26_.toInt = 50 ∨ z26_.toInt = 60 ∨ z26_.toInt = 70 ∨ z26_.toInt = 71 ∨ z26_.toInt = 80 := by rw [e27_]; exact bodies_in j28_ (lf_c_X8_say_9 z6_ j28_ h17_ h29_ )
              refine w_goto (tgt := 50) dX8_say_46 (by decide) ?_
              refine w_istore (ls' := [(8, vI z26_), (7, vI z6_), (6, vI v6_6), (5, vI v5_6), (0, vR (8, 0, 0)), (1, vI v), (2, vI u), (3, vI t), (4, vI s)]) dX8_say_50 (by decide) rfl ?_
              refine w_iload dX8_say_52 0 rfl ?_
              refine w_if_eq (tgt := 80) dX8_say_54 (by decide) (rfl : z26_.toInt = z26_.toInt) (fun h31_ => ?_) (fun h31_ => ?_)
              · refine w_iload dX8_say_80 3 rfl ?_
                refine w_callS (as := [vI v5_6]) (rest := []) (c_X9_kindAbove l G cy ad (N + d) v5_6 M_6 hI_6) kS_X9_kindAbove pnn_3 (Nat.le_of_ble_eq_true rfl) m_1196 rfl rfl (by decide) (Nat.le_of_ble_eq_true rfl) dX8_say_82 (fun r32_ M33_ q34_ => ?_)
                obtain ⟨rfl, h35_, hs36_⟩ := q34_
                refine w_istore (ls' := [(5, vI r32_), (8, vI z26_), (7, vI z6_), (6, vI v6_6), (0, vR (8, 0, 0)), (1, vI v), (2, vI u), (3, vI t), (4, vI s)]) dX8_say_85 (by decide) rfl ?_
                refine w_iincB (j := 3) (f := fun z37_ => [(6, vI z37_), (5, vI r32_), (8, vI z26_), (7, vI z6_), (0, vR (8, 0, 0)), (1, vI v), (2, vI u), (3, vI t), (4, vI s)]) dX8_say_87 rfl (by decide) (fun _ => rfl) (rfl : v6_6.toInt = v6_6.toInt) li_1 (lf_c_X9_isOf_0 v6_6 hv0_6 h2_ ) (fun z37_ h38_ => ?_)
                refine w_goto (tgt := 6) dX8_say_90 (by decide) ?_
                refine w_loc (ls' := [(6, vI z37_), (5, vI r32_), (0, vR (8, 0, 0)), (1, vI v), (2, vI u), (3, vI t), (4, vI s)]) [0, 1, 4, 5, 6, 7, 8] rfl ?_
                exact ih_6 M_6 hI_6 hF_6 z37_ r32_ (lf_c_X5_takeFrom_3 v6_6 z37_ hv0_6 h38_ ) (lf_c_X9_isOf_2 v6_6 z37_ h2_ h38_ ) (RCH.tail hL_6 ⟨hv0_6, hv1_6, hI_6, hF_6, h2_, h3_, z4_, h5_, z6_, h7_, (Or.inr ⟨h8_, (Or.inr ⟨h17_, j28_, h29_, z26_, e27_, h30_, h31_, r32_, hs36_, z37_, h38_, rfl, rfl, rfl⟩)⟩)⟩) (Nat.lt_of_lt_of_le (lf_c_X9_isOf_3 v6_6 z37_ h2_ h38_ ) (Nat.le_of_lt_succ hm_6))
              · refine w_iload dX8_say_57 8 rfl ?_
                refine w_bipush (v := 30) dX8_say_59 (by decide) ?_
                refine w_icmp_ge (tgt := 78) dX8_say_61 (by decide) (rfl : s.toInt = s.toInt) li_30 (fun h39_ => ?_) (fun h39_ => ?_)
                · refine w_iconst (v := 0) dX8_say_78 (by decide) ?_
                  exact w_iret rfl dX8_say_79 ⟨hI_6, hF_6, trivial, ⟨v6_6, hv0_6, hv1_6, v5_6, M_6, hL_6, hI_6, hF_6, (Or.inr ⟨h2_, (Or.inr ⟨h3_, z4_, h5_, z6_, h7_, h8_, h17_, j28_, h29_, z26_, e27_, h30_, h31_, (Or.inl ⟨h39_, rfl, rfl⟩)⟩)⟩)⟩⟩
                · refine w_aload_n dX8_say_64 rfl 4 rfl ?_
                  refine w_iload dX8_say_65 0 rfl ?_
                  refine w_iload_n dX8_say_67 rfl 7 rfl ?_
                  refine w_iload dX8_say_68 8 rfl ?_
                  refine w_iconst (v := 1) dX8_say_70 (by decide) ?_
                  refine w_iaddB dX8_say_71 (rfl : s.toInt = s.toInt) li_1 (lf_c_X8_say_14 s hd0 h39_ ) (fun z40_ h41_ => ?_)
                  refine w_callV (as := [vI z26_, vI t, vI z40_]) (rest := []) (hR (m - 1) (lf_c_X8_say_18 m s hdp h39_ ) d z26_ t z40_ M_6 hI_6 (lf_c_X8_say_15 m s z40_ hdp h39_ h41_ ) (lf_c_X8_say_16 s z40_ hd0 h39_ h41_ ) (lf_c_X8_say_17 z26_ h30_ h31_ )) kV_X8_run pnn_12 (Nat.le_of_ble_eq_true rfl) m_1191 rfl rfl rfl ic_8 rfl rfl (by decide) (Nat.le_of_ble_eq_true rfl) dX8_say_72 (fun r42_ M43_ q44_ => ?_)
                  obtain ⟨hI46_, hF47_, h45_, hs49_⟩ := q44_
                  have hF48_ := hF_6.tr hF47_ (fun c k => (fun h => h.elim (fun h => (Or.inl ⟨h.1, h.2.1, h.2.2.1, h.2.2.2⟩)) (fun h => h.elim (fun h => (Or.inr (Or.inl ⟨h.1, h.2.1, h.2.2⟩))) (fun h => h.elim (fun h => (Or.inr (Or.inr (Or.inl ⟨h.1, h.2.1, h.2.2⟩)))) (fun h => h.elim)))))
                  refine w_goto (tgt := 79) dX8_say_75 (by decide) ?_
                  exact w_iret rfl dX8_say_79 ⟨hI46_, hF48_, trivial, ⟨v6_6, hv0_6, hv1_6, v5_6, M_6, hL_6, hI_6, hF_6, (Or.inr ⟨h2_, (Or.inr ⟨h3_, z4_, h5_, z6_, h7_, h8_, h17_, j28_, h29_, z26_, e27_, h30_, h31_, (Or.inr ⟨h39_, z40_, h41_, M43_, hI46_, hF47_, r42_, hs49_, rfl, rfl⟩)⟩)⟩)⟩⟩
  exact lp1_ _ Mz hIz hFz 0 v (lf_c_X5_takeFrom_5 ) (lf_c_X9_isOf_5 ) RCH.refl (Nat.lt_succ_self _)
def SP_X8_own (N : Nat) (m : Nat) (QS : Int32 → Int32 → Int32 → Int32 → mM → Int32 → mM → Prop) (v : Int32) (u : Int32) (t : Int32) (Mz : mM) (r_ : Int32) (M_ : mM) : Prop := ∃ z1_ : Int32, (z1_ = Mz.1 (8, 0, 0) 2) ∧ ∃ M4_ : mM, (Inv M4_) ∧ (FR (S_voice) Mz M4_) ∧ ∃ r3_ : Int32, (QS z1_ v u t Mz r3_ M4_) ∧ r_ = r3_ ∧ M_ = M4_
set_option maxHeartbeats 4000000 in
set_option maxRecDepth 100000 in
theorem c_X8_own (l : Launch) (G : va_G) (cy : Nat → ClassId) (ad : rf → Nat) (d : Nat) (N : Nat) (m : Nat) (QS : Int32 → Int32 → Int32 → Int32 → mM → Int32 → mM → Prop) (v : Int32) (u : Int32) (t : Int32) (Mz : mM) (hIz : Inv Mz) (hS : SAYC l G cy ad N m QS) (hdp : t.toInt + ((m : Nat) : Int) = 30) (hd0 : 0 ≤ t.toInt ∧ t.toInt ≤ 30) : WP CC l G cy ad yX8_own cX8_own 4 (some .int) ((N + d) + 1) 0 [(0, vR (8, 0, 0)), (1, vI v), (2, vI u), (3, vI t)] [] Mz (fun r M' => Inv M' ∧ FR (S_voice) Mz M' ∧ (True) ∧ SP_X8_own N m QS v u t Mz r M') := by
  have hFz : FR (S_voice) Mz Mz := FR.self
  refine w_aload_n dX8_own_0 rfl 0 rfl ?_
  refine w_aload_n dX8_own_1 rfl 0 rfl ?_
  refine w_getI fl_RX8_21 rfl rfl ic_8 dX8_own_2 (fun z1_ e2_ => ?_)
  refine w_iload_n dX8_own_5 rfl 1 rfl ?_
  refine w_iload_n dX8_own_6 rfl 2 rfl ?_
  refine w_iload_n dX8_own_7 rfl 3 rfl ?_
  refine w_callV (as := [vI z1_, vI v, vI u, vI t]) (rest := []) (hS d z1_ v u t Mz hIz hdp hd0) kV_X8_say pnn_12 (Nat.le_of_ble_eq_true rfl) m_1185 rfl rfl rfl ic_8 rfl rfl (by decide) (Nat.le_of_ble_eq_true rfl) dX8_own_8 (fun r3_ M4_ q5_ => ?_)
  obtain ⟨hI7_, hF8_, h6_, hs10_⟩ := q5_
  have hF9_ := hFz.tr hF8_ (fun c k => (fun h => h.elim (fun h => (Or.inl ⟨h.1, h.2.1, h.2.2.1, h.2.2.2⟩)) (fun h => h.elim (fun h => (Or.inr (Or.inl ⟨h.1, h.2.1, h.2.2⟩))) (fun h => h.elim (fun h => (Or.inr (Or.inr (Or.inl ⟨h.1, h.2.1, h.2.2⟩)))) (fun h => h.elim)))))
  exact w_iret rfl dX8_own_11 ⟨hI7_, hF9_, trivial, ⟨z1_, e2_, M4_, hI7_, hF8_, r3_, hs10_, rfl, rfl⟩⟩
def SP_X8_run (N : Nat) (m : Nat) (QS : Int32 → Int32 → Int32 → Int32 → mM → Int32 → mM → Prop) (v : Int32) (u : Int32) (t : Int32) (Mz : mM) (r_ : Int32) (M_ : mM) : Prop := ∃ M1_ : mM, (Inv M1_) ∧ (FR (S_c_X5_add 3 4) Mz M1_) ∧ (SP_X5_add 3 4 v Mz M1_) ∧ ∃ z8_ : Int32, (z8_ = v / (10 : Int32)) ∧ ∃ z10_ : Int32, (z10_ = z8_ - (1 : Int32)) ∧ ∃ r12_ : Int32, (SP_X9_kindAbove z10_ M1_ r12_) ∧ (((v.toInt = 10) ∧ ∃ z18_ : Int32, (z18_ = M1_.1 (8, 0, 0) 4) ∧ ∃ z20_ : Int32, (z20_ = u + z18_) ∧ r_ = z20_ ∧ M_ = M1_) ∨ ((v.toInt = 11) ∧ ∃ M23_ : mM, (Inv M23_) ∧ (FR (S_voice) M1_ M23_) ∧ ∃ r22_ : Int32, (SP_X8_own N m QS 0 u t M1_ r22_ M23_) ∧ ∃ z30_ : Int32, (z30_ = r22_ * (2 : Int32)) ∧ r_ = z30_ ∧ M_ = M23_) ∨ ((v.toInt = 12) ∧ ∃ M33_ : mM, (Inv M33_) ∧ (FR (S_voice) M1_ M33_) ∧ ∃ r32_ : Int32, (SP_X8_own N m QS 1 u t M1_ r32_ M33_) ∧ ∃ z40_ : Int32, (z40_ = M33_.1 (8, 0, 0) 3) ∧ ∃ z42_ : Int32, (z42_ = r32_ - z40_) ∧ r_ = z42_ ∧ M_ = M33_) ∨ ((v.toInt = 13) ∧ ∃ M45_ : mM, (Inv M45_) ∧ (FR (S_c_X8_parted) M1_ M45_) ∧ ∃ r44_ : Int32, (SP_X8_parted u M1_ r44_ M45_) ∧ r_ = r44_ ∧ M_ = M45_) ∨ ((v.toInt = 20) ∧ ∃ M53_ : mM, (Inv M53_) ∧ (FR (S_voice) M1_ M53_) ∧ ∃ r52_ : Int32, (QS r12_ 0 u t M1_ r52_ M53_) ∧ ∃ z60_ : Int32, (z60_ = r52_ * (3 : Int32)) ∧ r_ = z60_ ∧ M_ = M53_) ∨ ((v.toInt = 21) ∧ ∃ M63_ : mM, (Inv M63_) ∧ (FR (S_voice) M1_ M63_) ∧ ∃ r62_ : Int32, (QS r12_ 3 u t M1_ r62_ M63_) ∧ ∃ M71_ : mM, (Inv M71_) ∧ (FR (S_voice) M63_ M71_) ∧ ∃ r70_ : Int32, (SP_X8_own N m QS 2 1 t M63_ r70_ M71_) ∧ ∃ z78_ : Int32, (z78_ = r62_ + r70_) ∧ r_ = z78_ ∧ M_ = M71_) ∨ ((v.toInt = 30) ∧ ∃ M81_ : mM, (Inv M81_) ∧ (FR (S_voice) M1_ M81_) ∧ ∃ r80_ : Int32, (QS r12_ 1 u t M1_ r80_ M81_) ∧ ∃ z88_ : Int32, (z88_ = M81_.1 (8, 0, 0) 4) ∧ ∃ z90_ : Int32, (z90_ = r80_ ^^^ z88_) ∧ r_ = z90_ ∧ M_ = M81_) ∨ ((v.toInt = 40) ∧ ∃ M93_ : mM, (Inv M93_) ∧ (FR (S_voice) M1_ M93_) ∧ ∃ r92_ : Int32, (QS r12_ 0 u t M1_ r92_ M93_) ∧ ∃ z100_ : Int32, (z100_ = (0 : Int32) - r92_) ∧ r_ = z100_ ∧ M_ = M93_) ∨ ((v.toInt = 41) ∧ ∃ M103_ : mM, (Inv M103_) ∧ (FR (S_voice) M1_ M103_) ∧ ∃ r102_ : Int32, (QS r12_ 2 u t M1_ r102_ M103_) ∧ ∃ z110_ : Int32, (z110_ = r102_ + (5 : Int32)) ∧ r_ = z110_ ∧ M_ = M103_) ∨ ((v.toInt = 50) ∧ ∃ z112_ : Int32, (z112_ = u - (1 : Int32)) ∧ ∃ M115_ : mM, (Inv M115_) ∧ (FR (S_voice) M1_ M115_) ∧ ∃ r114_ : Int32, (QS r12_ 2 z112_ t M1_ r114_ M115_) ∧ r_ = r114_ ∧ M_ = M115_) ∨ ((v.toInt = 60) ∧ ∃ z122_ : Int32, (z122_ = u + (2 : Int32)) ∧ ∃ M125_ : mM, (Inv M125_) ∧ (FR (S_voice) M1_ M125_) ∧ ∃ r124_ : Int32, (QS r12_ 1 z122_ t M1_ r124_ M125_) ∧ r_ = r124_ ∧ M_ = M125_) ∨ ((v.toInt = 70) ∧ ∃ M133_ : mM, (Inv M133_) ∧ (FR (S_voice) M1_ M133_) ∧ ∃ r132_ : Int32, (QS r12_ 1 u t M1_ r132_ M133_) ∧ ∃ z140_ : Int32, (z140_ = r132_ / (2 : Int32)) ∧ r_ = z140_ ∧ M_ = M133_) ∨ ((v.toInt = 71) ∧ ∃ M143_ : mM, (Inv M143_) ∧ (FR (S_voice) M1_ M143_) ∧ ∃ r142_ : Int32, (QS r12_ 2 u t M1_ r142_ M143_) ∧ ∃ M151_ : mM, (Inv M151_) ∧ (FR (S_voice) M143_ M151_) ∧ ∃ r150_ : Int32, (SP_X8_own N m QS 0 2 t M143_ r150_ M151_) ∧ ∃ z158_ : Int32, (z158_ = r142_ - r150_) ∧ r_ = z158_ ∧ M_ = M151_) ∨ ((v.toInt = 80) ∧ ∃ M161_ : mM, (Inv M161_) ∧ (FR (S_voice) M1_ M161_) ∧ ∃ r160_ : Int32, (QS r12_ 3 u t M1_ r160_ M161_) ∧ ∃ M169_ : mM, (Inv M169_) ∧ (FR (S_voice) M161_ M169_) ∧ ∃ r168_ : Int32, (SP_X8_own N m QS 1 u t M161_ r168_ M169_) ∧ ∃ z176_ : Int32, (z176_ = r160_ - r168_) ∧ r_ = z176_ ∧ M_ = M169_))
theorem lf_c_X8_run_0 (v : Int32) (hbo : v.toInt = 10 ∨ v.toInt = 11 ∨ v.toInt = 12 ∨ v.toInt = 13 ∨ v.toInt = 20 ∨ v.toInt = 21 ∨ v.toInt = 30 ∨ v.toInt = 40 ∨ v.toInt = 41 ∨ v.toInt = 50 ∨ v.toInt = 60 ∨ v.toInt = 70 ∨ v.toInt = 71 ∨ v.toInt = 80) : v.toInt = 10 ∨ v.toInt = 11 ∨ v.toInt = 12 ∨ v.toInt = 13 ∨ v.toInt = 20 ∨ v.toInt = 21 ∨ v.toInt = 30 ∨ v.toInt = 40 ∨ v.toInt = 41 ∨ v.toInt = 50 ∨ v.toInt = 60 ∨ v.toInt = 70 ∨ v.toInt = 71 ∨ v.toInt = 80 := by have r_v := rngI v; omega
set_option maxHeartbeats 4000000 in
set_option maxRecDepth 100000 in
theorem c_X8_run (l : Launch) (G : va_G) (cy : Nat → ClassId) (ad : rf → Nat) (d : Nat) (N : Nat) (m : Nat) (QS : Int32 → Int32 → Int32 → Int32 → mM → Int32 → mM → Prop) (v : Int32) (u : Int32) (t : Int32) (Mz : mM) (hIz : Inv Mz) (hS : SAYC l G cy ad N m QS) (hdp : t.toInt + ((m : Nat) : Int) = 30) (hd0 : 0 ≤ t.toInt ∧ t.toInt ≤ 30) (hbo : v.toInt = 10 ∨ v.toInt = 11 ∨ v.toInt = 12 ∨ v.toInt = 13 ∨ v.toInt = 20 ∨ v.toInt = 21 ∨ v.toInt = 30 ∨ v.toInt = 40 ∨ v.toInt = 41 ∨ v.toInt = 50 ∨ v.toInt = 60 ∨ v.toInt = 70 ∨ v.toInt = 71 ∨ v.toInt = 80) : WP CC l G cy ad yX8_run cX8_run 5 (some .int) ((N + d) + 2) 0 [(0, vR (8, 0, 0)), (1, vI v), (2, vI u), (3, vI t)] [] Mz (fun r M' => Inv M' ∧ FR (S_voice) Mz M' ∧ (True) ∧ SP_X8_run N m QS v u t Mz r M') := by
  have hFz : FR (S_voice) Mz Mz := FR.self
  refine w_aload_n dX8_run_0 rfl 0 rfl ?_
  refine w_getR (c' := (5, 3, 4)) fl_RX8_12 rfl rfl ic_8 dX8_run_1 rfl ?_
  refine w_iload_n dX8_run_4 rfl 1 rfl ?_
  refine w_callVv (as := [vI v]) (rest := []) (c_X5_add l G cy ad ((N + d) + 1) 3 4 v Mz hIz (by first | decide | (unfold vF; omega) | (unfold vRw; omega))) kV_X5_add pnn_2 (Nat.le_of_ble_eq_true rfl) m_1195 rfl rfl rfl (ic_5 (by unfold vRw; omega)) rfl rfl (by decide) (Nat.le_of_ble_eq_true rfl) dX8_run_5 (fun M1_ q2_ => ?_)
  obtain ⟨hI4_, hF5_, h3_, hs7_⟩ := q2_
  have hF6_ := hFz.tr hF5_ (fun c k => (fun h => h.elim (fun h => (Or.inr (Or.inl ⟨h.1, h.2.1, h.2.2⟩))) (fun h => h.elim (fun h => (Or.inl ⟨h.1, h.2.1, h.2.2.1, h.2.2.2⟩)) (fun h => h.elim))))
  refine w_iload_n dX8_run_8 rfl 1 rfl ?_
  refine w_bipush (v := 10) dX8_run_9 (by decide) ?_
  refine w_idiv dX8_run_11 (by decide) (fun z8_ h9_ => ?_)
  refine w_iconst (v := 1) dX8_run_12 (by decide) ?_
  refine w_isub dX8_run_13 (fun z10_ h11_ => ?_)
  refine w_callS (as := [vI z10_]) (rest := []) (c_X9_kindAbove l G cy ad ((N + d) + 1) z10_ M1_ hI4_) kS_X9_kindAbove pnn_3 (Nat.le_of_ble_eq_true rfl) m_1196 rfl rfl (by decide) (Nat.le_of_ble_eq_true rfl) dX8_run_14 (fun r12_ M13_ q14_ => ?_)
  obtain ⟨rfl, h15_, hs16_⟩ := q14_
  refine w_istore (ls' := [(4, vI r12_), (0, vR (8, 0, 0)), (1, vI v), (2, vI u), (3, vI t)]) dX8_run_17 (by decide) rfl ?_
  refine w_iload_n dX8_run_19 rfl 2 rfl ?_
  rcases (lf_c_X8_run_0 v hbo ) with e17_ | e17_ | e17_ | e17_ | e17_ | e17_ | e17_ | e17_ | e17_ | e17_ | e17_ | e17_ | e17_ | e17_
  · refine w_ls (tgt := 144) (off := 124) dX8_run_20 (by decide) e17_ rfl (by decide) ?_
    refine w_iload_n dX8_run_144 rfl 3 rfl ?_
    refine w_aload_n dX8_run_145 rfl 1 rfl ?_
    refine w_getI fl_RX8_28 rfl rfl ic_8 dX8_run_146 (fun z18_ e19_ => ?_)
    refine w_iadd dX8_run_149 (fun z20_ h21_ => ?_)
    exact w_iret rfl dX8_run_150 ⟨hI4_, hF6_, trivial, ⟨M1_, hI4_, hF5_, hs7_, z8_, h9_, z10_, h11_, r12_, hs16_, (Or.inl ⟨e17_, z18_, e19_, z20_, h21_, rfl, rfl⟩)⟩⟩
  · refine w_ls (tgt := 151) (off := 131) dX8_run_20 (by decide) e17_ rfl (by decide) ?_
    refine w_aload_n dX8_run_151 rfl 1 rfl ?_
    refine w_iconst (v := 0) dX8_run_152 (by decide) ?_
    refine w_iload_n dX8_run_153 rfl 3 rfl ?_
    refine w_iload_n dX8_run_154 rfl 4 rfl ?_
    refine w_callV (as := [vI 0, vI u, vI t]) (rest := []) (c_X8_own l G cy ad d N m QS 0 u t M1_ hI4_ hS hdp hd0) kV_X8_own pnn_12 (Nat.le_of_ble_eq_true rfl) m_1197 rfl rfl rfl ic_8 rfl rfl (by decide) (Nat.le_of_ble_eq_true rfl) dX8_run_155 (fun r22_ M23_ q24_ => ?_)
    obtain ⟨hI26_, hF27_, h25_, hs29_⟩ := q24_
    have hF28_ := hF6_.tr hF27_ (fun c k => (fun h => h.elim (fun h => (Or.inl ⟨h.1, h.2.1, h.2.2.1, h.2.2.2⟩)) (fun h => h.elim (fun h => (Or.inr (Or.inl ⟨h.1, h.2.1, h.2.2⟩))) (fun h => h.elim (fun h => (Or.inr (Or.inr (Or.inl ⟨h.1, h.2.1, h.2.2⟩)))) (fun h => h.elim)))))
    refine w_iconst (v := 2) dX8_run_158 (by decide) ?_
    refine w_imul dX8_run_159 (fun z30_ h31_ => ?_)
    exact w_iret rfl dX8_run_160 ⟨hI26_, hF28_, trivial, ⟨M1_, hI4_, hF5_, hs7_, z8_, h9_, z10_, h11_, r12_, hs16_, (Or.inr (Or.inl ⟨e17_, M23_, hI26_, hF27_, r22_, hs29_, z30_, h31_, rfl, rfl⟩))⟩⟩
  · refine w_ls (tgt := 161) (off := 141) dX8_run_20 (by decide) e17_ rfl (by decide) ?_
    refine w_aload_n dX8_run_161 rfl 1 rfl ?_
    refine w_iconst (v := 1) dX8_run_162 (by decide) ?_
    refine w_iload_n dX8_run_163 rfl 3 rfl ?_
    refine w_iload_n dX8_run_164 rfl 4 rfl ?_
    refine w_callV (as := [vI 1, vI u, vI t]) (rest := []) (c_X8_own l G cy ad d N m QS 1 u t M1_ hI4_ hS hdp hd0) kV_X8_own pnn_12 (Nat.le_of_ble_eq_true rfl) m_1197 rfl rfl rfl ic_8 rfl rfl (by decide) (Nat.le_of_ble_eq_true rfl) dX8_run_165 (fun r32_ M33_ q34_ => ?_)
    obtain ⟨hI36_, hF37_, h35_, hs39_⟩ := q34_
    have hF38_ := hF6_.tr hF37_ (fun c k => (fun h => h.elim (fun h => (Or.inl ⟨h.1, h.2.1, h.2.2.1, h.2.2.2⟩)) (fun h => h.elim (fun h => (Or.inr (Or.inl ⟨h.1, h.2.1, h.2.2⟩))) (fun h => h.elim (fun h => (Or.inr (Or.inr (Or.inl ⟨h.1, h.2.1, h.2.2⟩)))) (fun h => h.elim)))))
    refine w_aload_n dX8_run_168 rfl 1 rfl ?_
    refine w_getI fl_RX8_25 rfl rfl ic_8 dX8_run_169 (fun z40_ e41_ => ?_)
    refine w_isub dX8_run_172 (fun z42_ h43_ => ?_)
    exact w_iret rfl dX8_run_173 ⟨hI36_, hF38_, trivial, ⟨M1_, hI4_, hF5_, hs7_, z8_, h9_, z10_, h11_, r12_, hs16_, (Or.inr (Or.inr (Or.inl ⟨e17_, M33_, hI36_, hF37_, r32_, hs39_, z40_, e41_, z42_, h43_, rfl, rfl⟩)))⟩⟩
  · refine w_ls (tgt := 174) (off := 154) dX8_run_20 (by decide) e17_ rfl (by decide) ?_
    refine w_aload_n dX8_run_174 rfl 1 rfl ?_
    refine w_iload_n dX8_run_175 rfl 3 rfl ?_
    refine w_callV (as := [vI u]) (rest := []) (c_X8_parted l G cy ad ((N + d) + 1) u M1_ hI4_) kV_X8_parted pnn_12 (Nat.le_of_ble_eq_true rfl) m_1201 rfl rfl rfl ic_8 rfl rfl (by decide) (Nat.le_of_ble_eq_true rfl) dX8_run_176 (fun r44_ M45_ q46_ => ?_)
    obtain ⟨hI48_, hF49_, h47_, hs51_⟩ := q46_
    have hF50_ := hF6_.tr hF49_ (fun c k => (fun h => h.elim (fun h => (Or.inr (Or.inr (Or.inl ⟨h.1, h.2.1, h.2.2⟩)))) (fun h => h.elim)))
    exact w_iret rfl dX8_run_179 ⟨hI48_, hF50_, trivial, ⟨M1_, hI4_, hF5_, hs7_, z8_, h9_, z10_, h11_, r12_, hs16_, (Or.inr (Or.inr (Or.inr (Or.inl ⟨e17_, M45_, hI48_, hF49_, r44_, hs51_, rfl, rfl⟩))))⟩⟩
  · refine w_ls (tgt := 180) (off := 160) dX8_run_20 (by decide) e17_ rfl (by decide) ?_
    refine w_aload_n dX8_run_180 rfl 1 rfl ?_
    refine w_iload dX8_run_181 0 rfl ?_
    refine w_iconst (v := 0) dX8_run_183 (by decide) ?_
    refine w_iload_n dX8_run_184 rfl 3 rfl ?_
    refine w_iload_n dX8_run_185 rfl 4 rfl ?_
    refine w_callV (as := [vI r12_, vI 0, vI u, vI t]) (rest := []) (hS (d + 1) r12_ 0 u t M1_ hI4_ hdp hd0) kV_X8_say pnn_12 (Nat.le_of_ble_eq_true rfl) m_1185 rfl rfl rfl ic_8 rfl rfl (by decide) (Nat.le_of_ble_eq_true rfl) dX8_run_186 (fun r52_ M53_ q54_ => ?_)
    obtain ⟨hI56_, hF57_, h55_, hs59_⟩ := q54_
    have hF58_ := hF6_.tr hF57_ (fun c k => (fun h => h.elim (fun h => (Or.inl ⟨h.1, h.2.1, h.2.2.1, h.2.2.2⟩)) (fun h => h.elim (fun h => (Or.inr (Or.inl ⟨h.1, h.2.1, h.2.2⟩))) (fun h => h.elim (fun h => (Or.inr (Or.inr (Or.inl ⟨h.1, h.2.1, h.2.2⟩)))) (fun h => h.elim)))))
    refine w_iconst (v := 3) dX8_run_189 (by decide) ?_
    refine w_imul dX8_run_190 (fun z60_ h61_ => ?_)
    exact w_iret rfl dX8_run_191 ⟨hI56_, hF58_, trivial, ⟨M1_, hI4_, hF5_, hs7_, z8_, h9_, z10_, h11_, r12_, hs16_, (Or.inr (Or.inr (Or.inr (Or.inr (Or.inl ⟨e17_, M53_, hI56_, hF57_, r52_, hs59_, z60_, h61_, rfl, rfl⟩)))))⟩⟩
  · refine w_ls (tgt := 192) (off := 172) dX8_run_20 (by decide) e17_ rfl (by decide) ?_
    refine w_aload_n dX8_run_192 rfl 1 rfl ?_
    refine w_iload dX8_run_193 0 rfl ?_
    refine w_iconst (v := 3) dX8_run_195 (by decide) ?_
    refine w_iload_n dX8_run_196 rfl 3 rfl ?_
    refine w_iload_n dX8_run_197 rfl 4 rfl ?_
    refine w_callV (as := [vI r12_, vI 3, vI u, vI t]) (rest := []) (hS (d + 1) r12_ 3 u t M1_ hI4_ hdp hd0) kV_X8_say pnn_12 (Nat.le_of_ble_eq_true rfl) m_1185 rfl rfl rfl ic_8 rfl rfl (by decide) (Nat.le_of_ble_eq_true rfl) dX8_run_198 (fun r62_ M63_ q64_ => ?_)
    obtain ⟨hI66_, hF67_, h65_, hs69_⟩ := q64_
    have hF68_ := hF6_.tr hF67_ (fun c k => (fun h => h.elim (fun h => (Or.inl ⟨h.1, h.2.1, h.2.2.1, h.2.2.2⟩)) (fun h => h.elim (fun h => (Or.inr (Or.inl ⟨h.1, h.2.1, h.2.2⟩))) (fun h => h.elim (fun h => (Or.inr (Or.inr (Or.inl ⟨h.1, h.2.1, h.2.2⟩)))) (fun h => h.elim)))))
    refine w_aload_n dX8_run_201 rfl 1 rfl ?_
    refine w_iconst (v := 2) dX8_run_202 (by decide) ?_
    refine w_iconst (v := 1) dX8_run_203 (by decide) ?_
    refine w_iload_n dX8_run_204 rfl 4 rfl ?_
    refine w_callV (as := [vI 2, vI 1, vI t]) (rest := [vI r62_]) (c_X8_own l G cy ad d N m QS 2 1 t M63_ hI66_ hS hdp hd0) kV_X8_own pnn_12 (Nat.le_of_ble_eq_true rfl) m_1197 rfl rfl rfl ic_8 rfl rfl (by decide) (Nat.le_of_ble_eq_true rfl) dX8_run_205 (fun r70_ M71_ q72_ => ?_)
    obtain ⟨hI74_, hF75_, h73_, hs77_⟩ := q72_
    have hF76_ := hF68_.tr hF75_ (fun c k => (fun h => h.elim (fun h => (Or.inl ⟨h.1, h.2.1, h.2.2.1, h.2.2.2⟩)) (fun h => h.elim (fun h => (Or.inr (Or.inl ⟨h.1, h.2.1, h.2.2⟩))) (fun h => h.elim (fun h => (Or.inr (Or.inr (Or.inl ⟨h.1, h.2.1, h.2.2⟩)))) (fun h => h.elim)))))
    refine w_iadd dX8_run_208 (fun z78_ h79_ => ?_)
    exact w_iret rfl dX8_run_209 ⟨hI74_, hF76_, trivial, ⟨M1_, hI4_, hF5_, hs7_, z8_, h9_, z10_, h11_, r12_, hs16_, (Or.inr (Or.inr (Or.inr (Or.inr (Or.inr (Or.inl ⟨e17_, M63_, hI66_, hF67_, r62_, hs69_, M71_, hI74_, hF75_, r70_, hs77_, z78_, h79_, rfl, rfl⟩))))))⟩⟩
  · refine w_ls (tgt := 210) (off := 190) dX8_run_20 (by decide) e17_ rfl (by decide) ?_
    refine w_aload_n dX8_run_210 rfl 1 rfl ?_
    refine w_iload dX8_run_211 0 rfl ?_
    refine w_iconst (v := 1) dX8_run_213 (by decide) ?_
    refine w_iload_n dX8_run_214 rfl 3 rfl ?_
    refine w_iload_n dX8_run_215 rfl 4 rfl ?_
    refine w_callV (as := [vI r12_, vI 1, vI u, vI t]) (rest := []) (hS (d + 1) r12_ 1 u t M1_ hI4_ hdp hd0) kV_X8_say pnn_12 (Nat.le_of_ble_eq_true rfl) m_1185 rfl rfl rfl ic_8 rfl rfl (by decide) (Nat.le_of_ble_eq_true rfl) dX8_run_216 (fun r80_ M81_ q82_ => ?_)
    obtain ⟨hI84_, hF85_, h83_, hs87_⟩ := q82_
    have hF86_ := hF6_.tr hF85_ (fun c k => (fun h => h.elim (fun h => (Or.inl ⟨h.1, h.2.1, h.2.2.1, h.2.2.2⟩)) (fun h => h.elim (fun h => (Or.inr (Or.inl ⟨h.1, h.2.1, h.2.2⟩))) (fun h => h.elim (fun h => (Or.inr (Or.inr (Or.inl ⟨h.1, h.2.1, h.2.2⟩)))) (fun h => h.elim)))))
    refine w_aload_n dX8_run_219 rfl 1 rfl ?_
    refine w_getI fl_RX8_28 rfl rfl ic_8 dX8_run_220 (fun z88_ e89_ => ?_)
    refine w_ixor dX8_run_223 (fun z90_ h91_ => ?_)
    exact w_iret rfl dX8_run_224 ⟨hI84_, hF86_, trivial, ⟨M1_, hI4_, hF5_, hs7_, z8_, h9_, z10_, h11_, r12_, hs16_, (Or.inr (Or.inr (Or.inr (Or.inr (Or.inr (Or.inr (Or.inl ⟨e17_, M81_, hI84_, hF85_, r80_, hs87_, z88_, e89_, z90_, h91_, rfl, rfl⟩)))))))⟩⟩
  · refine w_ls (tgt := 225) (off := 205) dX8_run_20 (by decide) e17_ rfl (by decide) ?_
    refine w_iconst (v := 0) dX8_run_225 (by decide) ?_
    refine w_aload_n dX8_run_226 rfl 1 rfl ?_
    refine w_iload dX8_run_227 0 rfl ?_
    refine w_iconst (v := 0) dX8_run_229 (by decide) ?_
    refine w_iload_n dX8_run_230 rfl 3 rfl ?_
    refine w_iload_n dX8_run_231 rfl 4 rfl ?_
    refine w_callV (as := [vI r12_, vI 0, vI u, vI t]) (rest := [vI 0]) (hS (d + 1) r12_ 0 u t M1_ hI4_ hdp hd0) kV_X8_say pnn_12 (Nat.le_of_ble_eq_true rfl) m_1185 rfl rfl rfl ic_8 rfl rfl (by decide) (Nat.le_of_ble_eq_true rfl) dX8_run_232 (fun r92_ M93_ q94_ => ?_)
    obtain ⟨hI96_, hF97_, h95_, hs99_⟩ := q94_
    have hF98_ := hF6_.tr hF97_ (fun c k => (fun h => h.elim (fun h => (Or.inl ⟨h.1, h.2.1, h.2.2.1, h.2.2.2⟩)) (fun h => h.elim (fun h => (Or.inr (Or.inl ⟨h.1, h.2.1, h.2.2⟩))) (fun h => h.elim (fun h => (Or.inr (Or.inr (Or.inl ⟨h.1, h.2.1, h.2.2⟩)))) (fun h => h.elim)))))
    refine w_isub dX8_run_235 (fun z100_ h101_ => ?_)
    exact w_iret rfl dX8_run_236 ⟨hI96_, hF98_, trivial, ⟨M1_, hI4_, hF5_, hs7_, z8_, h9_, z10_, h11_, r12_, hs16_, (Or.inr (Or.inr (Or.inr (Or.inr (Or.inr (Or.inr (Or.inr (Or.inl ⟨e17_, M93_, hI96_, hF97_, r92_, hs99_, z100_, h101_, rfl, rfl⟩))))))))⟩⟩
  · refine w_ls (tgt := 237) (off := 217) dX8_run_20 (by decide) e17_ rfl (by decide) ?_
    refine w_aload_n dX8_run_237 rfl 1 rfl ?_
    refine w_iload dX8_run_238 0 rfl ?_
    refine w_iconst (v := 2) dX8_run_240 (by decide) ?_
    refine w_iload_n dX8_run_241 rfl 3 rfl ?_
    refine w_iload_n dX8_run_242 rfl 4 rfl ?_
    refine w_callV (as := [vI r12_, vI 2, vI u, vI t]) (rest := []) (hS (d + 1) r12_ 2 u t M1_ hI4_ hdp hd0) kV_X8_say pnn_12 (Nat.le_of_ble_eq_true rfl) m_1185 rfl rfl rfl ic_8 rfl rfl (by decide) (Nat.le_of_ble_eq_true rfl) dX8_run_243 (fun r102_ M103_ q104_ => ?_)
    obtain ⟨hI106_, hF107_, h105_, hs109_⟩ := q104_
    have hF108_ := hF6_.tr hF107_ (fun c k => (fun h => h.elim (fun h => (Or.inl ⟨h.1, h.2.1, h.2.2.1, h.2.2.2⟩)) (fun h => h.elim (fun h => (Or.inr (Or.inl ⟨h.1, h.2.1, h.2.2⟩))) (fun h => h.elim (fun h => (Or.inr (Or.inr (Or.inl ⟨h.1, h.2.1, h.2.2⟩)))) (fun h => h.elim)))))
    refine w_iconst (v := 5) dX8_run_246 (by decide) ?_
    refine w_iadd dX8_run_247 (fun z110_ h111_ => ?_)
    exact w_iret rfl dX8_run_248 ⟨hI106_, hF108_, trivial, ⟨M1_, hI4_, hF5_, hs7_, z8_, h9_, z10_, h11_, r12_, hs16_, (Or.inr (Or.inr (Or.inr (Or.inr (Or.inr (Or.inr (Or.inr (Or.inr (Or.inl ⟨e17_, M103_, hI106_, hF107_, r102_, hs109_, z110_, h111_, rfl, rfl⟩)))))))))⟩⟩
  · refine w_ls (tgt := 249) (off := 229) dX8_run_20 (by decide) e17_ rfl (by decide) ?_
    refine w_aload_n dX8_run_249 rfl 1 rfl ?_
    refine w_iload dX8_run_250 0 rfl ?_
    refine w_iconst (v := 2) dX8_run_252 (by decide) ?_
    refine w_iload_n dX8_run_253 rfl 3 rfl ?_
    refine w_iconst (v := 1) dX8_run_254 (by decide) ?_
    refine w_isub dX8_run_255 (fun z112_ h113_ => ?_)
    refine w_iload_n dX8_run_256 rfl 4 rfl ?_
    refine w_callV (as := [vI r12_, vI 2, vI z112_, vI t]) (rest := []) (hS (d + 1) r12_ 2 z112_ t M1_ hI4_ hdp hd0) kV_X8_say pnn_12 (Nat.le_of_ble_eq_true rfl) m_1185 rfl rfl rfl ic_8 rfl rfl (by decide) (Nat.le_of_ble_eq_true rfl) dX8_run_257 (fun r114_ M115_ q116_ => ?_)
    obtain ⟨hI118_, hF119_, h117_, hs121_⟩ := q116_
    have hF120_ := hF6_.tr hF119_ (fun c k => (fun h => h.elim (fun h => (Or.inl ⟨h.1, h.2.1, h.2.2.1, h.2.2.2⟩)) (fun h => h.elim (fun h => (Or.inr (Or.inl ⟨h.1, h.2.1, h.2.2⟩))) (fun h => h.elim (fun h => (Or.inr (Or.inr (Or.inl ⟨h.1, h.2.1, h.2.2⟩)))) (fun h => h.elim)))))
    exact w_iret rfl dX8_run_260 ⟨hI118_, hF120_, trivial, ⟨M1_, hI4_, hF5_, hs7_, z8_, h9_, z10_, h11_, r12_, hs16_, (Or.inr (Or.inr (Or.inr (Or.inr (Or.inr (Or.inr (Or.inr (Or.inr (Or.inr (Or.inl ⟨e17_, z112_, h113_, M115_, hI118_, hF119_, r114_, hs121_, rfl, rfl⟩))))))))))⟩⟩
  · refine w_ls (tgt := 261) (off := 241) dX8_run_20 (by decide) e17_ rfl (by decide) ?_
    refine w_aload_n dX8_run_261 rfl 1 rfl ?_
    refine w_iload dX8_run_262 0 rfl ?_
    refine w_iconst (v := 1) dX8_run_264 (by decide) ?_
    refine w_iload_n dX8_run_265 rfl 3 rfl ?_
    refine w_iconst (v := 2) dX8_run_266 (by decide) ?_
    refine w_iadd dX8_run_267 (fun z122_ h123_ => ?_)
    refine w_iload_n dX8_run_268 rfl 4 rfl ?_
    refine w_callV (as := [vI r12_, vI 1, vI z122_, vI t]) (rest := []) (hS (d + 1) r12_ 1 z122_ t M1_ hI4_ hdp hd0) kV_X8_say pnn_12 (Nat.le_of_ble_eq_true rfl) m_1185 rfl rfl rfl ic_8 rfl rfl (by decide) (Nat.le_of_ble_eq_true rfl) dX8_run_269 (fun r124_ M125_ q126_ => ?_)
    obtain ⟨hI128_, hF129_, h127_, hs131_⟩ := q126_
    have hF130_ := hF6_.tr hF129_ (fun c k => (fun h => h.elim (fun h => (Or.inl ⟨h.1, h.2.1, h.2.2.1, h.2.2.2⟩)) (fun h => h.elim (fun h => (Or.inr (Or.inl ⟨h.1, h.2.1, h.2.2⟩))) (fun h => h.elim (fun h => (Or.inr (Or.inr (Or.inl ⟨h.1, h.2.1, h.2.2⟩)))) (fun h => h.elim)))))
    exact w_iret rfl dX8_run_272 ⟨hI128_, hF130_, trivial, ⟨M1_, hI4_, hF5_, hs7_, z8_, h9_, z10_, h11_, r12_, hs16_, (Or.inr (Or.inr (Or.inr (Or.inr (Or.inr (Or.inr (Or.inr (Or.inr (Or.inr (Or.inr (Or.inl ⟨e17_, z122_, h123_, M125_, hI128_, hF129_, r124_, hs131_, rfl, rfl⟩)))))))))))⟩⟩
  · refine w_ls (tgt := 273) (off := 253) dX8_run_20 (by decide) e17_ rfl (by decide) ?_
    refine w_aload_n dX8_run_273 rfl 1 rfl ?_
    refine w_iload dX8_run_274 0 rfl ?_
    refine w_iconst (v := 1) dX8_run_276 (by decide) ?_
    refine w_iload_n dX8_run_277 rfl 3 rfl ?_
    refine w_iload_n dX8_run_278 rfl 4 rfl ?_
    refine w_callV (as := [vI r12_, vI 1, vI u, vI t]) (rest := []) (hS (d + 1) r12_ 1 u t M1_ hI4_ hdp hd0) kV_X8_say pnn_12 (Nat.le_of_ble_eq_true rfl) m_1185 rfl rfl rfl ic_8 rfl rfl (by decide) (Nat.le_of_ble_eq_true rfl) dX8_run_279 (fun r132_ M133_ q134_ => ?_)
    obtain ⟨hI136_, hF137_, h135_, hs139_⟩ := q134_
    have hF138_ := hF6_.tr hF137_ (fun c k => (fun h => h.elim (fun h => (Or.inl ⟨h.1, h.2.1, h.2.2.1, h.2.2.2⟩)) (fun h => h.elim (fun h => (Or.inr (Or.inl ⟨h.1, h.2.1, h.2.2⟩))) (fun h => h.elim (fun h => (Or.inr (Or.inr (Or.inl ⟨h.1, h.2.1, h.2.2⟩)))) (fun h => h.elim)))))
    refine w_iconst (v := 2) dX8_run_282 (by decide) ?_
    refine w_idiv dX8_run_283 (by decide) (fun z140_ h141_ => ?_)
    exact w_iret rfl dX8_run_284 ⟨hI136_, hF138_, trivial, ⟨M1_, hI4_, hF5_, hs7_, z8_, h9_, z10_, h11_, r12_, hs16_, (Or.inr (Or.inr (Or.inr (Or.inr (Or.inr (Or.inr (Or.inr (Or.inr (Or.inr (Or.inr (Or.inr (Or.inl ⟨e17_, M133_, hI136_, hF137_, r132_, hs139_, z140_, h141_, rfl, rfl⟩))))))))))))⟩⟩
  · refine w_ls (tgt := 285) (off := 265) dX8_run_20 (by decide) e17_ rfl (by decide) ?_
    refine w_aload_n dX8_run_285 rfl 1 rfl ?_
    refine w_iload dX8_run_286 0 rfl ?_
    refine w_iconst (v := 2) dX8_run_288 (by decide) ?_
    refine w_iload_n dX8_run_289 rfl 3 rfl ?_
    refine w_iload_n dX8_run_290 rfl 4 rfl ?_
    refine w_callV (as := [vI r12_, vI 2, vI u, vI t]) (rest := []) (hS (d + 1) r12_ 2 u t M1_ hI4_ hdp hd0) kV_X8_say pnn_12 (Nat.le_of_ble_eq_true rfl) m_1185 rfl rfl rfl ic_8 rfl rfl (by decide) (Nat.le_of_ble_eq_true rfl) dX8_run_291 (fun r142_ M143_ q144_ => ?_)
    obtain ⟨hI146_, hF147_, h145_, hs149_⟩ := q144_
    have hF148_ := hF6_.tr hF147_ (fun c k => (fun h => h.elim (fun h => (Or.inl ⟨h.1, h.2.1, h.2.2.1, h.2.2.2⟩)) (fun h => h.elim (fun h => (Or.inr (Or.inl ⟨h.1, h.2.1, h.2.2⟩))) (fun h => h.elim (fun h => (Or.inr (Or.inr (Or.inl ⟨h.1, h.2.1, h.2.2⟩)))) (fun h => h.elim)))))
    refine w_aload_n dX8_run_294 rfl 1 rfl ?_
    refine w_iconst (v := 0) dX8_run_295 (by decide) ?_
    refine w_iconst (v := 2) dX8_run_296 (by decide) ?_
    refine w_iload_n dX8_run_297 rfl 4 rfl ?_
    refine w_callV (as := [vI 0, vI 2, vI t]) (rest := [vI r142_]) (c_X8_own l G cy ad d N m QS 0 2 t M143_ hI146_ hS hdp hd0) kV_X8_own pnn_12 (Nat.le_of_ble_eq_true rfl) m_1197 rfl rfl rfl ic_8 rfl rfl (by decide) (Nat.le_of_ble_eq_true rfl) dX8_run_298 (fun r150_ M151_ q152_ => ?_)
    obtain ⟨hI154_, hF155_, h153_, hs157_⟩ := q152_
    have hF156_ := hF148_.tr hF155_ (fun c k => (fun h => h.elim (fun h => (Or.inl ⟨h.1, h.2.1, h.2.2.1, h.2.2.2⟩)) (fun h => h.elim (fun h => (Or.inr (Or.inl ⟨h.1, h.2.1, h.2.2⟩))) (fun h => h.elim (fun h => (Or.inr (Or.inr (Or.inl ⟨h.1, h.2.1, h.2.2⟩)))) (fun h => h.elim)))))
    refine w_isub dX8_run_301 (fun z158_ h159_ => ?_)
    exact w_iret rfl dX8_run_302 ⟨hI154_, hF156_, trivial, ⟨M1_, hI4_, hF5_, hs7_, z8_, h9_, z10_, h11_, r12_, hs16_, (Or.inr (Or.inr (Or.inr (Or.inr (Or.inr (Or.inr (Or.inr (Or.inr (Or.inr (Or.inr (Or.inr (Or.inr (Or.inl ⟨e17_, M143_, hI146_, hF147_, r142_, hs149_, M151_, hI154_, hF155_, r150_, hs157_, z158_, h159_, rfl, rfl⟩)))))))))))))⟩⟩
  · refine w_ls (tgt := 303) (off := 283) dX8_run_20 (by decide) e17_ rfl (by decide) ?_
    refine w_aload_n dX8_run_303 rfl 1 rfl ?_
    refine w_iload dX8_run_304 0 rfl ?_
    refine w_iconst (v := 3) dX8_run_306 (by decide) ?_
    refine w_iload_n dX8_run_307 rfl 3 rfl ?_
    refine w_iload_n dX8_run_308 rfl 4 rfl ?_
    refine w_callV (as := [vI r12_, vI 3, vI u, vI t]) (rest := []) (hS (d + 1) r12_ 3 u t M1_ hI4_ hdp hd0) kV_X8_say pnn_12 (Nat.le_of_ble_eq_true rfl) m_1185 rfl rfl rfl ic_8 rfl rfl (by decide) (Nat.le_of_ble_eq_true rfl) dX8_run_309 (fun r160_ M161_ q162_ => ?_)
    obtain ⟨hI164_, hF165_, h163_, hs167_⟩ := q162_
    have hF166_ := hF6_.tr hF165_ (fun c k => (fun h => h.elim (fun h => (Or.inl ⟨h.1, h.2.1, h.2.2.1, h.2.2.2⟩)) (fun h => h.elim (fun h => (Or.inr (Or.inl ⟨h.1, h.2.1, h.2.2⟩))) (fun h => h.elim (fun h => (Or.inr (Or.inr (Or.inl ⟨h.1, h.2.1, h.2.2⟩)))) (fun h => h.elim)))))
    refine w_aload_n dX8_run_312 rfl 1 rfl ?_
    refine w_iconst (v := 1) dX8_run_313 (by decide) ?_
    refine w_iload_n dX8_run_314 rfl 3 rfl ?_
    refine w_iload_n dX8_run_315 rfl 4 rfl ?_
    refine w_callV (as := [vI 1, vI u, vI t]) (rest := [vI r160_]) (c_X8_own l G cy ad d N m QS 1 u t M161_ hI164_ hS hdp hd0) kV_X8_own pnn_12 (Nat.le_of_ble_eq_true rfl) m_1197 rfl rfl rfl ic_8 rfl rfl (by decide) (Nat.le_of_ble_eq_true rfl) dX8_run_316 (fun r168_ M169_ q170_ => ?_)
    obtain ⟨hI172_, hF173_, h171_, hs175_⟩ := q170_
    have hF174_ := hF166_.tr hF173_ (fun c k => (fun h => h.elim (fun h => (Or.inl ⟨h.1, h.2.1, h.2.2.1, h.2.2.2⟩)) (fun h => h.elim (fun h => (Or.inr (Or.inl ⟨h.1, h.2.1, h.2.2⟩))) (fun h => h.elim (fun h => (Or.inr (Or.inr (Or.inl ⟨h.1, h.2.1, h.2.2⟩)))) (fun h => h.elim)))))
    refine w_isub dX8_run_319 (fun z176_ h177_ => ?_)
    exact w_iret rfl dX8_run_320 ⟨hI172_, hF174_, trivial, ⟨M1_, hI4_, hF5_, hs7_, z8_, h9_, z10_, h11_, r12_, hs16_, (Or.inr (Or.inr (Or.inr (Or.inr (Or.inr (Or.inr (Or.inr (Or.inr (Or.inr (Or.inr (Or.inr (Or.inr (Or.inr ⟨e17_, M161_, hI164_, hF165_, r160_, hs167_, M169_, hI172_, hF173_, r168_, hs175_, z176_, h177_, rfl, rfl⟩)))))))))))))⟩⟩
def SPVs : Nat → (Int32 → Int32 → Int32 → Int32 → mM → Int32 → mM → Prop)
  | 0 => SP_X8_say 0 0 (fun _ _ _ _ _ _ => False)
  | m + 1 => SP_X8_say (3 * m + 3) (m + 1) (SP_X8_run (3 * m + 1) m (SPVs m))
theorem voices_rec (l : Launch) (G : va_G) (cy : Nat → ClassId) (ad : rf → Nat) : ∀ m, SAYC l G cy ad (3 * m + 1) m (SPVs m) ∧ RUNC l G cy ad (3 * m + 3) m (SP_X8_run (3 * m + 1) m (SPVs m)) := by
  intro m
  induction m with
  | zero =>
    have hS : SAYC l G cy ad (3 * 0 + 1) 0 (SPVs 0) := fun d v u t s Mz hIz hdp hd0 => w_dep (by omega) (c_X8_say l G cy ad d 0 0 (fun _ _ _ _ _ _ => False) v u t s Mz hIz (fun k hk => absurd hk (by omega)) hdp hd0)
    exact ⟨hS, fun d v u t Mz hIz hdp hd0 hbo => w_dep (by omega) (c_X8_run l G cy ad d (3 * 0 + 1) 0 (SPVs 0) v u t Mz hIz hS hdp hd0 hbo)⟩
  | succ m ih =>
    have hS : SAYC l G cy ad (3 * (m + 1) + 1) (m + 1) (SPVs (m + 1)) := fun d v u t s Mz hIz hdp hd0 => w_dep (by omega) (c_X8_say l G cy ad d (3 * m + 3) (m + 1) (SP_X8_run (3 * m + 1) m (SPVs m)) v u t s Mz hIz (fun k hk => by
      obtain rfl : k = m := by omega
      exact ih.2) hdp hd0)
    exact ⟨hS, fun d v u t Mz hIz hdp hd0 hbo => w_dep (by omega) (c_X8_run l G cy ad d (3 * (m + 1) + 1) (m + 1) (SPVs (m + 1)) v u t Mz hIz hS hdp hd0 hbo)⟩
def SP_X8_say0 (v u t s : Int32) (Mz : mM) (r_ : Int32) (M_ : mM) : Prop := SPVs 30 v u t s Mz r_ M_
theorem c_X8_say0 (l : Launch) (G : va_G) (cy : Nat → ClassId) (ad : rf → Nat) (d : Nat) (v u t s : Int32) (Mz : mM) (hIz : Inv Mz) (h0 : s.toInt = 0) : WP CC l G cy ad yX8_say cX8_say 9 (some .int) (d + 91) 0 [(0, vR (8, 0, 0)), (1, vI v), (2, vI u), (3, vI t), (4, vI s)] [] Mz (fun r M' => Inv M' ∧ FR (S_voice) Mz M' ∧ (True) ∧ SP_X8_say0 v u t s Mz r M') := w_dep (by omega) ((voices_rec l G cy ad 30).1 d v u t s Mz hIz (by omega) (by omega))
end
section
/-! words of the tables that are used, by their places; decode rows; fields -/
set_option maxRecDepth 20000 in
theorem m_1180 : Cond.methodLink RX11 343 yX8_speak ∈ BASE := bmT5 142 rfl rfl
set_option maxRecDepth 20000 in
theorem m_1181 : Cond.instanceMethod yX8_speak ∈ BASE := bmT5 143 rfl rfl
set_option maxRecDepth 20000 in
theorem m_1182 : Cond.selects yX8_speak.cls yX8_speak yX8_speak ∈ BASE := bmT5 144 rfl rfl
set_option maxRecDepth 20000 in
theorem m_1183 : Cond.code yX8_speak cX8_speak 5 (some .int) ∈ BASE := bmT5 145 rfl rfl
set_option maxRecDepth 20000 in
theorem m_1184 : Cond.methodLink RX8 35 yX5_clear ∈ BASE := bmT5 146 rfl rfl
set_option maxRecDepth 20000 in
theorem m_1205 : Cond.methodLink RX11 350 yX8_keepTrace ∈ BASE := bmT5 167 rfl rfl
set_option maxRecDepth 20000 in
theorem m_1206 : Cond.instanceMethod yX8_keepTrace ∈ BASE := bmT5 168 rfl rfl
set_option maxRecDepth 20000 in
theorem m_1207 : Cond.selects yX8_keepTrace.cls yX8_keepTrace yX8_keepTrace ∈ BASE := bmT5 169 rfl rfl
set_option maxRecDepth 20000 in
theorem m_1208 : Cond.code yX8_keepTrace cX8_keepTrace 1 none ∈ BASE := bmT5 170 rfl rfl
theorem kV_X8_keepTrace : KV yX8_keepTrace cX8_keepTrace 1 none 0 := ⟨m_1206, m_1207, m_90, m_1208, nhM_12, nhV_12, pdn_30⟩
theorem kV_X8_speak : KV yX8_speak cX8_speak 5 (some .int) 4 := ⟨m_1181, m_1182, m_90, m_1183, nhM_12, nhV_12, pdn_32⟩
theorem fl_RX11_347 : FLK RX11 347 8 5 .boolean false := ⟨RX8, TX8, 6, tyX8, rfl, inB8, tyX8_ok, nmX8, by decide, rfl, rfl, Or.inr ⟨"ClickStreet", List.mem_of_getElem? (l := NFs) (i := 45) rfl⟩⟩
theorem fl_RX8_38 : FLK RX8 38 9 0 .int false := ⟨RX9, TX9, 11, tyX9, rfl, inB9, tyX9_ok, nmX9, by decide, rfl, rfl, Or.inr ⟨"ClickStreet", List.mem_of_getElem? (l := NFs) (i := 13) rfl⟩⟩
theorem fl_RX8_41 : FLK RX8 41 9 3 .int false := ⟨RX9, TX9, 11, tyX9, rfl, inB9, tyX9_ok, nmX9, by decide, rfl, rfl, Or.inr ⟨"ClickStreet", List.mem_of_getElem? (l := NFs) (i := 19) rfl⟩⟩
theorem ch_cX11_voice_0 : (cX11_voice.data.toList.drop 0).take 36 = [42, 180, 0, 10, 27, 182, 0, 154, 153, 0, 12, 28, 3, 6, 184, 0, 89, 154, 0, 9, 42, 4, 182, 0, 67, 172, 42, 180, 0, 49, 42, 180, 0, 10, 180, 0] := by decide +kernel
theorem dX11_voice_0 : decode cX11_voice 0 = .ok (.aload_n 0, 1) := do_42 (rdb (p := 0) (i := 0) ch_cX11_voice_0 rfl)
theorem dX11_voice_1 : decode cX11_voice 1 = .ok (.getfield 10, 3) := do_180 (rdb (p := 0) (i := 1) ch_cX11_voice_0 rfl) (rdb (p := 0) (i := 2) ch_cX11_voice_0 rfl) (rdb (p := 0) (i := 3) ch_cX11_voice_0 rfl) rfl
theorem dX11_voice_4 : decode cX11_voice 4 = .ok (.iload_n 1, 1) := do_27 (rdb (p := 0) (i := 4) ch_cX11_voice_0 rfl)
theorem dX11_voice_5 : decode cX11_voice 5 = .ok (.invokevirtual 154, 3) := do_182 (rdb (p := 0) (i := 5) ch_cX11_voice_0 rfl) (rdb (p := 0) (i := 6) ch_cX11_voice_0 rfl) (rdb (p := 0) (i := 7) ch_cX11_voice_0 rfl) rfl
theorem dX11_voice_8 : decode cX11_voice 8 = .ok (.ifCond .eq 12, 3) := do_153 (rdb (p := 0) (i := 8) ch_cX11_voice_0 rfl) (rdb (p := 0) (i := 9) ch_cX11_voice_0 rfl) (rdb (p := 0) (i := 10) ch_cX11_voice_0 rfl) (by decide +kernel)
theorem dX11_voice_11 : decode cX11_voice 11 = .ok (.iload_n 2, 1) := do_28 (rdb (p := 0) (i := 11) ch_cX11_voice_0 rfl)
theorem dX11_voice_12 : decode cX11_voice 12 = .ok (.iconst 0, 1) := do_3 (rdb (p := 0) (i := 12) ch_cX11_voice_0 rfl)
theorem dX11_voice_13 : decode cX11_voice 13 = .ok (.iconst 3, 1) := do_6 (rdb (p := 0) (i := 13) ch_cX11_voice_0 rfl)
theorem dX11_voice_14 : decode cX11_voice 14 = .ok (.invokestatic 89, 3) := do_184 (rdb (p := 0) (i := 14) ch_cX11_voice_0 rfl) (rdb (p := 0) (i := 15) ch_cX11_voice_0 rfl) (rdb (p := 0) (i := 16) ch_cX11_voice_0 rfl) rfl
theorem dX11_voice_17 : decode cX11_voice 17 = .ok (.ifCond .ne 9, 3) := do_154 (rdb (p := 0) (i := 17) ch_cX11_voice_0 rfl) (rdb (p := 0) (i := 18) ch_cX11_voice_0 rfl) (rdb (p := 0) (i := 19) ch_cX11_voice_0 rfl) (by decide +kernel)
theorem dX11_voice_20 : decode cX11_voice 20 = .ok (.aload_n 0, 1) := do_42 (rdb (p := 0) (i := 20) ch_cX11_voice_0 rfl)
theorem dX11_voice_21 : decode cX11_voice 21 = .ok (.iconst 1, 1) := do_4 (rdb (p := 0) (i := 21) ch_cX11_voice_0 rfl)
theorem dX11_voice_22 : decode cX11_voice 22 = .ok (.invokevirtual 67, 3) := do_182 (rdb (p := 0) (i := 22) ch_cX11_voice_0 rfl) (rdb (p := 0) (i := 23) ch_cX11_voice_0 rfl) (rdb (p := 0) (i := 24) ch_cX11_voice_0 rfl) rfl
theorem dX11_voice_25 : decode cX11_voice 25 = .ok (.ireturn, 1) := do_172 (rdb (p := 0) (i := 25) ch_cX11_voice_0 rfl)
theorem dX11_voice_26 : decode cX11_voice 26 = .ok (.aload_n 0, 1) := do_42 (rdb (p := 0) (i := 26) ch_cX11_voice_0 rfl)
theorem dX11_voice_27 : decode cX11_voice 27 = .ok (.getfield 49, 3) := do_180 (rdb (p := 0) (i := 27) ch_cX11_voice_0 rfl) (rdb (p := 0) (i := 28) ch_cX11_voice_0 rfl) (rdb (p := 0) (i := 29) ch_cX11_voice_0 rfl) rfl
theorem dX11_voice_30 : decode cX11_voice 30 = .ok (.aload_n 0, 1) := do_42 (rdb (p := 0) (i := 30) ch_cX11_voice_0 rfl)
theorem dX11_voice_31 : decode cX11_voice 31 = .ok (.getfield 10, 3) := do_180 (rdb (p := 0) (i := 31) ch_cX11_voice_0 rfl) (rdb (p := 0) (i := 32) ch_cX11_voice_0 rfl) (rdb (p := 0) (i := 33) ch_cX11_voice_0 rfl) rfl
theorem ch_cX11_voice_32 : (cX11_voice.data.toList.drop 32).take 36 = [0, 10, 180, 0, 157, 27, 50, 27, 28, 29, 182, 1, 87, 54, 4, 42, 180, 0, 49, 180, 1, 91, 153, 0, 10, 42, 16, 6, 182, 0, 67, 172, 42, 180, 0, 49] := by decide +kernel
theorem dX11_voice_34 : decode cX11_voice 34 = .ok (.getfield 157, 3) := do_180 (rdb (p := 32) (i := 2) ch_cX11_voice_32 rfl) (rdb (p := 32) (i := 3) ch_cX11_voice_32 rfl) (rdb (p := 32) (i := 4) ch_cX11_voice_32 rfl) rfl
theorem dX11_voice_37 : decode cX11_voice 37 = .ok (.iload_n 1, 1) := do_27 (rdb (p := 32) (i := 5) ch_cX11_voice_32 rfl)
theorem dX11_voice_38 : decode cX11_voice 38 = .ok (.aaload, 1) := do_50 (rdb (p := 32) (i := 6) ch_cX11_voice_32 rfl)
theorem dX11_voice_39 : decode cX11_voice 39 = .ok (.iload_n 1, 1) := do_27 (rdb (p := 32) (i := 7) ch_cX11_voice_32 rfl)
theorem dX11_voice_40 : decode cX11_voice 40 = .ok (.iload_n 2, 1) := do_28 (rdb (p := 32) (i := 8) ch_cX11_voice_32 rfl)
theorem dX11_voice_41 : decode cX11_voice 41 = .ok (.iload_n 3, 1) := do_29 (rdb (p := 32) (i := 9) ch_cX11_voice_32 rfl)
theorem dX11_voice_42 : decode cX11_voice 42 = .ok (.invokevirtual 343, 3) := do_182 (rdb (p := 32) (i := 10) ch_cX11_voice_32 rfl) (rdb (p := 32) (i := 11) ch_cX11_voice_32 rfl) (rdb (p := 32) (i := 12) ch_cX11_voice_32 rfl) rfl
theorem dX11_voice_45 : decode cX11_voice 45 = .ok (.istore 4, 2) := do_54 (rdb (p := 32) (i := 13) ch_cX11_voice_32 rfl) (rdb (p := 32) (i := 14) ch_cX11_voice_32 rfl)
theorem dX11_voice_47 : decode cX11_voice 47 = .ok (.aload_n 0, 1) := do_42 (rdb (p := 32) (i := 15) ch_cX11_voice_32 rfl)
theorem dX11_voice_48 : decode cX11_voice 48 = .ok (.getfield 49, 3) := do_180 (rdb (p := 32) (i := 16) ch_cX11_voice_32 rfl) (rdb (p := 32) (i := 17) ch_cX11_voice_32 rfl) (rdb (p := 32) (i := 18) ch_cX11_voice_32 rfl) rfl
theorem dX11_voice_51 : decode cX11_voice 51 = .ok (.getfield 347, 3) := do_180 (rdb (p := 32) (i := 19) ch_cX11_voice_32 rfl) (rdb (p := 32) (i := 20) ch_cX11_voice_32 rfl) (rdb (p := 32) (i := 21) ch_cX11_voice_32 rfl) rfl
theorem dX11_voice_54 : decode cX11_voice 54 = .ok (.ifCond .eq 10, 3) := do_153 (rdb (p := 32) (i := 22) ch_cX11_voice_32 rfl) (rdb (p := 32) (i := 23) ch_cX11_voice_32 rfl) (rdb (p := 32) (i := 24) ch_cX11_voice_32 rfl) (by decide +kernel)
theorem dX11_voice_57 : decode cX11_voice 57 = .ok (.aload_n 0, 1) := do_42 (rdb (p := 32) (i := 25) ch_cX11_voice_32 rfl)
theorem dX11_voice_58 : decode cX11_voice 58 = .ok (.bipush 6, 2) := do_16 (rdb (p := 32) (i := 26) ch_cX11_voice_32 rfl) (rdb (p := 32) (i := 27) ch_cX11_voice_32 rfl) (by decide +kernel)
theorem dX11_voice_60 : decode cX11_voice 60 = .ok (.invokevirtual 67, 3) := do_182 (rdb (p := 32) (i := 28) ch_cX11_voice_32 rfl) (rdb (p := 32) (i := 29) ch_cX11_voice_32 rfl) (rdb (p := 32) (i := 30) ch_cX11_voice_32 rfl) rfl
theorem dX11_voice_63 : decode cX11_voice 63 = .ok (.ireturn, 1) := do_172 (rdb (p := 32) (i := 31) ch_cX11_voice_32 rfl)
theorem ch_cX11_voice_64 : (cX11_voice.data.toList.drop 64).take 36 = [42, 180, 0, 49, 182, 1, 94, 21, 4, 172] := by decide +kernel
theorem dX11_voice_64 : decode cX11_voice 64 = .ok (.aload_n 0, 1) := do_42 (rdb (p := 64) (i := 0) ch_cX11_voice_64 rfl)
theorem dX11_voice_65 : decode cX11_voice 65 = .ok (.getfield 49, 3) := do_180 (rdb (p := 64) (i := 1) ch_cX11_voice_64 rfl) (rdb (p := 64) (i := 2) ch_cX11_voice_64 rfl) (rdb (p := 64) (i := 3) ch_cX11_voice_64 rfl) rfl
theorem dX11_voice_68 : decode cX11_voice 68 = .ok (.invokevirtual 350, 3) := do_182 (rdb (p := 64) (i := 4) ch_cX11_voice_64 rfl) (rdb (p := 64) (i := 5) ch_cX11_voice_64 rfl) (rdb (p := 64) (i := 6) ch_cX11_voice_64 rfl) rfl
theorem dX11_voice_71 : decode cX11_voice 71 = .ok (.iload 4, 2) := do_21 (rdb (p := 64) (i := 7) ch_cX11_voice_64 rfl) (rdb (p := 64) (i := 8) ch_cX11_voice_64 rfl)
theorem dX11_voice_73 : decode cX11_voice 73 = .ok (.ireturn, 1) := do_172 (rdb (p := 64) (i := 9) ch_cX11_voice_64 rfl)
theorem ch_cX8_speak_0 : (cX8_speak.data.toList.drop 0).take 36 = [42, 180, 0, 12, 182, 0, 35, 42, 43, 180, 0, 38, 181, 0, 21, 42, 28, 181, 0, 25, 42, 43, 180, 0, 41, 181, 0, 28, 42, 3, 181, 0, 31, 42, 42, 180] := by decide +kernel
theorem dX8_speak_0 : decode cX8_speak 0 = .ok (.aload_n 0, 1) := do_42 (rdb (p := 0) (i := 0) ch_cX8_speak_0 rfl)
theorem dX8_speak_1 : decode cX8_speak 1 = .ok (.getfield 12, 3) := do_180 (rdb (p := 0) (i := 1) ch_cX8_speak_0 rfl) (rdb (p := 0) (i := 2) ch_cX8_speak_0 rfl) (rdb (p := 0) (i := 3) ch_cX8_speak_0 rfl) rfl
theorem dX8_speak_4 : decode cX8_speak 4 = .ok (.invokevirtual 35, 3) := do_182 (rdb (p := 0) (i := 4) ch_cX8_speak_0 rfl) (rdb (p := 0) (i := 5) ch_cX8_speak_0 rfl) (rdb (p := 0) (i := 6) ch_cX8_speak_0 rfl) rfl
theorem dX8_speak_7 : decode cX8_speak 7 = .ok (.aload_n 0, 1) := do_42 (rdb (p := 0) (i := 7) ch_cX8_speak_0 rfl)
theorem dX8_speak_8 : decode cX8_speak 8 = .ok (.aload_n 1, 1) := do_43 (rdb (p := 0) (i := 8) ch_cX8_speak_0 rfl)
theorem dX8_speak_9 : decode cX8_speak 9 = .ok (.getfield 38, 3) := do_180 (rdb (p := 0) (i := 9) ch_cX8_speak_0 rfl) (rdb (p := 0) (i := 10) ch_cX8_speak_0 rfl) (rdb (p := 0) (i := 11) ch_cX8_speak_0 rfl) rfl
theorem dX8_speak_12 : decode cX8_speak 12 = .ok (.putfield 21, 3) := do_181 (rdb (p := 0) (i := 12) ch_cX8_speak_0 rfl) (rdb (p := 0) (i := 13) ch_cX8_speak_0 rfl) (rdb (p := 0) (i := 14) ch_cX8_speak_0 rfl) rfl
theorem dX8_speak_15 : decode cX8_speak 15 = .ok (.aload_n 0, 1) := do_42 (rdb (p := 0) (i := 15) ch_cX8_speak_0 rfl)
theorem dX8_speak_16 : decode cX8_speak 16 = .ok (.iload_n 2, 1) := do_28 (rdb (p := 0) (i := 16) ch_cX8_speak_0 rfl)
theorem dX8_speak_17 : decode cX8_speak 17 = .ok (.putfield 25, 3) := do_181 (rdb (p := 0) (i := 17) ch_cX8_speak_0 rfl) (rdb (p := 0) (i := 18) ch_cX8_speak_0 rfl) (rdb (p := 0) (i := 19) ch_cX8_speak_0 rfl) rfl
theorem dX8_speak_20 : decode cX8_speak 20 = .ok (.aload_n 0, 1) := do_42 (rdb (p := 0) (i := 20) ch_cX8_speak_0 rfl)
theorem dX8_speak_21 : decode cX8_speak 21 = .ok (.aload_n 1, 1) := do_43 (rdb (p := 0) (i := 21) ch_cX8_speak_0 rfl)
theorem dX8_speak_22 : decode cX8_speak 22 = .ok (.getfield 41, 3) := do_180 (rdb (p := 0) (i := 22) ch_cX8_speak_0 rfl) (rdb (p := 0) (i := 23) ch_cX8_speak_0 rfl) (rdb (p := 0) (i := 24) ch_cX8_speak_0 rfl) rfl
theorem dX8_speak_25 : decode cX8_speak 25 = .ok (.putfield 28, 3) := do_181 (rdb (p := 0) (i := 25) ch_cX8_speak_0 rfl) (rdb (p := 0) (i := 26) ch_cX8_speak_0 rfl) (rdb (p := 0) (i := 27) ch_cX8_speak_0 rfl) rfl
theorem dX8_speak_28 : decode cX8_speak 28 = .ok (.aload_n 0, 1) := do_42 (rdb (p := 0) (i := 28) ch_cX8_speak_0 rfl)
theorem dX8_speak_29 : decode cX8_speak 29 = .ok (.iconst 0, 1) := do_3 (rdb (p := 0) (i := 29) ch_cX8_speak_0 rfl)
theorem dX8_speak_30 : decode cX8_speak 30 = .ok (.putfield 31, 3) := do_181 (rdb (p := 0) (i := 30) ch_cX8_speak_0 rfl) (rdb (p := 0) (i := 31) ch_cX8_speak_0 rfl) (rdb (p := 0) (i := 32) ch_cX8_speak_0 rfl) rfl
theorem ch_cX8_speak_32 : (cX8_speak.data.toList.drop 32).take 36 = [31, 42, 42, 180, 0, 21, 29, 21, 4, 3, 182, 0, 42, 172] := by decide +kernel
theorem dX8_speak_33 : decode cX8_speak 33 = .ok (.aload_n 0, 1) := do_42 (rdb (p := 32) (i := 1) ch_cX8_speak_32 rfl)
theorem dX8_speak_34 : decode cX8_speak 34 = .ok (.aload_n 0, 1) := do_42 (rdb (p := 32) (i := 2) ch_cX8_speak_32 rfl)
theorem dX8_speak_35 : decode cX8_speak 35 = .ok (.getfield 21, 3) := do_180 (rdb (p := 32) (i := 3) ch_cX8_speak_32 rfl) (rdb (p := 32) (i := 4) ch_cX8_speak_32 rfl) (rdb (p := 32) (i := 5) ch_cX8_speak_32 rfl) rfl
theorem dX8_speak_38 : decode cX8_speak 38 = .ok (.iload_n 3, 1) := do_29 (rdb (p := 32) (i := 6) ch_cX8_speak_32 rfl)
theorem dX8_speak_39 : decode cX8_speak 39 = .ok (.iload 4, 2) := do_21 (rdb (p := 32) (i := 7) ch_cX8_speak_32 rfl) (rdb (p := 32) (i := 8) ch_cX8_speak_32 rfl)
theorem dX8_speak_41 : decode cX8_speak 41 = .ok (.iconst 0, 1) := do_3 (rdb (p := 32) (i := 9) ch_cX8_speak_32 rfl)
theorem dX8_speak_42 : decode cX8_speak 42 = .ok (.invokevirtual 42, 3) := do_182 (rdb (p := 32) (i := 10) ch_cX8_speak_32 rfl) (rdb (p := 32) (i := 11) ch_cX8_speak_32 rfl) (rdb (p := 32) (i := 12) ch_cX8_speak_32 rfl) rfl
theorem dX8_speak_45 : decode cX8_speak 45 = .ok (.ireturn, 1) := do_172 (rdb (p := 32) (i := 13) ch_cX8_speak_32 rfl)
end
