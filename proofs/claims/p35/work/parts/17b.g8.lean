def S_c_X8_parted : rf → Nat → Prop := fun c k => (c.1 = 8 ∧ c.2.1 = 0 ∧ k = 5) ∨ False
def SP_X8_parted (v : Int32) (Mz : mM) (r_ : Int32) (M_ : mM) : Prop := ∃ z1_ : Int32, (z1_ = Mz.1 (8, 0, 0) 3) ∧ (((¬ z1_.toInt = 3) ∧ ∃ z6_ : Int32, (¬ z6_ = 0) ∧ ∃ z9_ : Int32, (z9_ = v / z6_) ∧ r_ = z9_ ∧ M_ = Mz) ∨ ((z1_.toInt = 3) ∧ ∃ M11_ : mM, (M11_ = up Mz (8, 0, 0) 5 1) ∧ r_ = 0 ∧ M_ = M11_))
set_option maxHeartbeats 4000000 in
set_option maxRecDepth 100000 in
theorem c_X8_parted (l : Launch) (G : va_G) (cy : Nat → ClassId) (ad : rf → Nat) (d : Nat) (v : Int32) (Mz : mM) (hIz : Inv Mz) : WP CC l G cy ad yX8_parted cX8_parted 2 (some .int) d 0 [(0, vR (8, 0, 0)), (1, vI v)] [] Mz (fun r M' => Inv M' ∧ FR (S_c_X8_parted) Mz M' ∧ (True) ∧ SP_X8_parted v Mz r M') := by
  have hFz : FR (S_c_X8_parted) Mz Mz := FR.self
  refine w_aload_n dX8_parted_0 rfl 0 rfl ?_
  refine w_getI fl_RX8_25 rfl rfl ic_8 dX8_parted_1 (fun z1_ e2_ => ?_)
  refine w_iconst (v := 3) dX8_parted_4 (by decide) ?_
  refine w_icmp_ne (tgt := 15) dX8_parted_5 (by decide) (rfl : z1_.toInt = z1_.toInt) li_3 (fun h3_ => ?_) (fun h3_ => ?_)
  · refine w_iload_n dX8_parted_15 rfl 1 rfl ?_
    refine w_aload_n dX8_parted_16 rfl 0 rfl ?_
    refine w_getI fl_RX8_25 rfl rfl ic_8 dX8_parted_17 (fun z4_ e5_ => ?_)
    obtain rfl : z1_ = z4_ := e2_.trans e5_.symm
    refine w_iconst (v := 3) dX8_parted_20 (by decide) ?_
    refine w_isub dX8_parted_21 (fun z6_ h7_ => ?_)
    have h8_ : ¬ z6_ = 0 := by rw [h7_]; exact sub3_ne h3_
    refine w_idiv dX8_parted_22 h8_ (fun z9_ h10_ => ?_)
    exact w_iret rfl dX8_parted_23 ⟨hIz, hFz, trivial, ⟨z1_, e2_, (Or.inl ⟨h3_, z6_, h8_, z9_, h10_, rfl, rfl⟩)⟩⟩
  · refine w_aload_n dX8_parted_8 rfl 0 rfl ?_
    refine w_iconst (v := 1) dX8_parted_9 (by decide) ?_
    refine w_putZ CC_nd fl_RX8_31 rfl rfl ic_8 ⟨by decide, by decide⟩ dX8_parted_10 (fun M11_ hM12_ => ?_)
    have hI13_ := hIz.put hM12_ (fun _ => ⟨by decide, by decide⟩)
    have hF14_ := hFz.put hM12_ (Or.inl ⟨rfl, rfl, rfl⟩)
    refine w_iconst (v := 0) dX8_parted_13 (by decide) ?_
    exact w_iret rfl dX8_parted_14 ⟨hI13_, hF14_, trivial, ⟨z1_, e2_, (Or.inr ⟨h3_, M11_, hM12_, rfl, rfl⟩)⟩⟩
def S_c_X8_keepTrace : rf → Nat → Prop := fun c k => (c.1 = 5 ∧ c.2.1 = 3 ∧ c.2.2 = 5 ∧ k = 1) ∨ (c.1 = 33 ∧ c.2.1 = 3 ∧ c.2.2 = 5) ∨ False
def SP_X8_keepTrace (Mz : mM) (M_ : mM) : Prop := ∃ M1_ : mM, (Inv M1_) ∧ (FR (S_c_X5_takeFrom 3 5 3 4) Mz M1_) ∧ (SP_X5_takeFrom 3 5 3 4 Mz M1_) ∧ M_ = M1_
set_option maxHeartbeats 4000000 in
set_option maxRecDepth 100000 in
theorem c_X8_keepTrace (l : Launch) (G : va_G) (cy : Nat → ClassId) (ad : rf → Nat) (d : Nat) (Mz : mM) (hIz : Inv Mz) : WP CC l G cy ad yX8_keepTrace cX8_keepTrace 1 none (d + 2) 0 [(0, vR (8, 0, 0))] [] Mz (fun r M' => Inv M' ∧ FR (S_c_X8_keepTrace) Mz M' ∧ (True) ∧ SP_X8_keepTrace Mz M') := by
  have hFz : FR (S_c_X8_keepTrace) Mz Mz := FR.self
  refine w_aload_n dX8_keepTrace_0 rfl 0 rfl ?_
  refine w_getR (c' := (5, 3, 5)) fl_RX8_18 rfl rfl ic_8 dX8_keepTrace_1 rfl ?_
  refine w_aload_n dX8_keepTrace_4 rfl 0 rfl ?_
  refine w_getR (c' := (5, 3, 4)) fl_RX8_12 rfl rfl ic_8 dX8_keepTrace_5 rfl ?_
  refine w_callVv (as := [vR (5, 3, 4)]) (rest := []) (c_X5_takeFrom l G cy ad d 3 5 3 4 Mz hIz (by first | decide | (unfold vF; omega) | (unfold vRw; omega)) (by first | decide | (unfold vF; omega) | (unfold vRw; omega))) kV_X5_takeFrom (by decide +kernel) (Nat.le_of_ble_eq_true rfl) m_1209 rfl rfl rfl (ic_5 (by unfold vRw; omega)) rfl rfl (by decide) (Nat.le_of_ble_eq_true rfl) dX8_keepTrace_8 (fun M1_ q2_ => ?_)
  obtain ⟨hI4_, hF5_, h3_, hs7_⟩ := q2_
  have hF6_ := hFz.tr hF5_ (fun c k => (fun h => h.elim (fun h => (Or.inl ⟨h.1, h.2.1, h.2.2.1, h.2.2.2⟩)) (fun h => h.elim (fun h => (Or.inr (Or.inl ⟨h.1, h.2.1, h.2.2⟩))) (fun h => h.elim))))
  exact w_vret rfl dX8_keepTrace_11 ⟨hI4_, hF6_, trivial, ⟨M1_, hI4_, hF5_, hs7_, rfl⟩⟩
def S_c_X11_error : rf → Nat → Prop := fun c k => (c.1 = 44 ∧ c.2.1 = 0) ∨ False
def SP_X11_error (v : Int32) (Mz : mM) (r_ : Int32) (M_ : mM) : Prop := (((v.toInt < 0) ∧ ∃ z2_ : Int32, (z2_.toInt = -1000000 - v.toInt) ∧ r_ = z2_ ∧ M_ = Mz) ∨ ((0 ≤ v.toInt) ∧ (((7 ≤ v.toInt) ∧ ∃ z5_ : Int32, (z5_ = ((-1000000) : Int32) - v) ∧ r_ = z5_ ∧ M_ = Mz) ∨ ((v.toInt < 7) ∧ ∃ j9_ : Nat, ((j9_ : Int) = v.toInt) ∧ ∃ z7_ : Int32, (z7_ = Mz.1 (44, 0, 0) j9_) ∧ ∃ z11_ : Int32, (z11_ = z7_ + (1 : Int32)) ∧ ∃ j15_ : Nat, ((j15_ : Int) = v.toInt) ∧ ∃ M13_ : mM, (M13_ = up Mz (44, 0, 0) j15_ z11_) ∧ ∃ z19_ : Int32, (z19_.toInt = -1000000 - v.toInt) ∧ r_ = z19_ ∧ M_ = M13_))))
theorem lf_c_X11_error_0  (v : Int32) (h1_ : v.toInt < 0) : -2147483648 ≤ -1000000 - v.toInt ∧ -1000000 - v.toInt < 2147483648 := by have r_v := rngI v; omega
theorem lf_c_X11_error_1  (v : Int32) (h1_ : 0 ≤ v.toInt) (h4_ : v.toInt < 7) : 0 ≤ v.toInt ∧ v.toInt < ((7 : Nat) : Int) := by have r_v := rngI v; omega
theorem lf_c_X11_error_2 (Mz : mM) (v : Int32) (j9_ : Nat) (z7_ : Int32) (h1_ : 0 ≤ v.toInt) (h4_ : v.toInt < 7) (h10_ : (j9_ : Int) = v.toInt) (e8_ : z7_ = Mz.1 (44, 0, 0) j9_) : 0 ≤ v.toInt ∧ v.toInt < ((7 : Nat) : Int) := by have r_v := rngI v; have r_z7_ := rngI z7_; subst e8_; omega
theorem lf_c_X11_error_3 (M13_ : mM) (Mz : mM) (v : Int32) (j9_ : Nat) (z7_ : Int32) (z11_ : Int32) (j15_ : Nat) (h1_ : 0 ≤ v.toInt) (h4_ : v.toInt < 7) (h10_ : (j9_ : Int) = v.toInt) (e8_ : z7_ = Mz.1 (44, 0, 0) j9_) (h16_ : (j15_ : Int) = v.toInt) (hM14_ : M13_ = up Mz (44, 0, 0) j15_ z11_) : -2147483648 ≤ -1000000 - v.toInt ∧ -1000000 - v.toInt < 2147483648 := by have r_v := rngI v; have r_z7_ := rngI z7_; have r_z11_ := rngI z11_; subst e8_; omega
set_option maxHeartbeats 4000000 in
set_option maxRecDepth 100000 in
theorem c_X11_error (l : Launch) (G : va_G) (cy : Nat → ClassId) (ad : rf → Nat) (d : Nat) (v : Int32) (Mz : mM) (hIz : Inv Mz) : WP CC l G cy ad yX11_error cX11_error 2 (some .int) d 0 [(0, vR (11, 0, 0)), (1, vI v)] [] Mz (fun r M' => Inv M' ∧ FR (S_c_X11_error) Mz M' ∧ (True) ∧ SP_X11_error v Mz r M') := by
  have hFz : FR (S_c_X11_error) Mz Mz := FR.self
  refine w_iload_n dX11_error_0 rfl 1 rfl ?_
  refine w_if_lt (tgt := 23) dX11_error_1 (by decide) (rfl : v.toInt = v.toInt) (fun h1_ => ?_) (fun h1_ => ?_)
  · refine w_ldc_w (v := (-1000000)) m_504 dX11_error_23 ?_
    refine w_iload_n dX11_error_26 rfl 1 rfl ?_
    refine w_isubB dX11_error_27 li_m1000000 (rfl : v.toInt = v.toInt) (lf_c_X11_error_0 v h1_) (fun z2_ h3_ => ?_)
    exact w_iret rfl dX11_error_28 ⟨hIz, hFz, trivial, (Or.inl ⟨h1_, z2_, h3_, rfl, rfl⟩)⟩
  · refine w_iload_n dX11_error_4 rfl 1 rfl ?_
    refine w_aload_n dX11_error_5 rfl 0 rfl ?_
    refine w_getR (c' := (44, 0, 0)) fl_RX11_28 rfl rfl ic_11 dX11_error_6 rfl ?_
    refine w_alen (v := 7) (by decide) rfl rfl ic_44 dX11_error_9 rfl ?_
    refine w_icmp_ge (tgt := 23) dX11_error_10 (by decide) (rfl : v.toInt = v.toInt) li_7 (fun h4_ => ?_) (fun h4_ => ?_)
    · refine w_ldc_w (v := (-1000000)) m_504 dX11_error_23 ?_
      refine w_iload_n dX11_error_26 rfl 1 rfl ?_
      refine w_isub dX11_error_27 (fun z5_ h6_ => ?_)
      exact w_iret rfl dX11_error_28 ⟨hIz, hFz, trivial, (Or.inr ⟨h1_, (Or.inl ⟨h4_, z5_, h6_, rfl, rfl⟩)⟩)⟩
    · refine w_aload_n dX11_error_13 rfl 0 rfl ?_
      refine w_getR (c' := (44, 0, 0)) fl_RX11_28 rfl rfl ic_11 dX11_error_14 rfl ?_
      refine w_iload_n dX11_error_17 rfl 1 rfl ?_
      refine w_dup2 dX11_error_18 rfl rfl ?_
      refine w_iald rfl rfl ic_44 (rfl : v.toInt = v.toInt) (lf_c_X11_error_1 v h1_ h4_) dX11_error_19 (fun j9_ h10_ z7_ e8_ => ?_)
      refine w_iconst (v := 1) dX11_error_20 (by decide) ?_
      refine w_iadd dX11_error_21 (fun z11_ h12_ => ?_)
      refine w_iast CC_nd rfl rfl ic_44 (rfl : v.toInt = v.toInt) (lf_c_X11_error_2 Mz v j9_ z7_ h1_ h4_ h10_ e8_) dX11_error_22 (fun j15_ h16_ M13_ hM14_ => ?_)
      have hI17_ := hIz.put hM14_ trivial
      have hF18_ := hFz.put hM14_ (Or.inl ⟨rfl, rfl⟩)
      refine w_ldc_w (v := (-1000000)) m_504 dX11_error_23 ?_
      refine w_iload_n dX11_error_26 rfl 1 rfl ?_
      refine w_isubB dX11_error_27 li_m1000000 (rfl : v.toInt = v.toInt) (lf_c_X11_error_3 M13_ Mz v j9_ z7_ z11_ j15_ h1_ h4_ h10_ e8_ h16_ hM14_) (fun z19_ h20_ => ?_)
      exact w_iret rfl dX11_error_28 ⟨hI17_, hF18_, trivial, (Or.inr ⟨h1_, (Or.inr ⟨h4_, j9_, h10_, z7_, e8_, z11_, h12_, j15_, h16_, M13_, hM14_, z19_, h20_, rfl, rfl⟩)⟩)⟩
def S_c_X11_thing : rf → Nat → Prop := fun c k => (c.1 = 36 ∧ c.2.1 = 0) ∨ (c.1 = 37 ∧ c.2.1 = 0) ∨ (c.1 = 38 ∧ c.2.1 = 0) ∨ (c.1 = 39 ∧ c.2.1 = 0) ∨ (c.1 = 35 ∧ c.2.1 = 0) ∨ (c.1 = 7 ∧ c.2.1 = 0 ∧ k = 5) ∨ (c.1 = 44 ∧ c.2.1 = 0) ∨ False
def SP_X11_thing (v : Int32) (u : Int32) (Mz : mM) (r_ : Int32) (M_ : mM) : Prop := (((SP_X11_isThingKind v Mz (1 : Int32)) ∧ (0 ≤ v.toInt ∧ v.toInt ≤ 4) ∧ (((SP_X7_isCell u Mz (1 : Int32)) ∧ (0 ≤ u.toInt ∧ u.toInt ≤ 191) ∧ (((SP_X7_isFree 0 u Mz (1 : Int32)) ∧ (0 ≤ u.toInt ∧ u.toInt ≤ 191) ∧ ∃ r19_ : Int32, (SP_X7_hasRoom 0 Mz r19_) ∧ ((0 ≤ r19_.toInt ∧ r19_.toInt ≤ 1)) ∧ (((¬ r19_.toInt = 0) ∧ ∃ M26_ : mM, (Inv M26_) ∧ (FR (S_c_X7_addThing 0) Mz M26_) ∧ ∃ r25_ : Int32, (SP_X7_addThing 0 v u Mz r25_ M26_) ∧ r_ = r25_ ∧ M_ = M26_) ∨ ((r19_.toInt = 0) ∧ ∃ M34_ : mM, (Inv M34_) ∧ (FR (S_c_X11_error) Mz M34_) ∧ ∃ r33_ : Int32, (SP_X11_error 4 Mz r33_ M34_) ∧ r_ = r33_ ∧ M_ = M34_))) ∨ ((SP_X7_isFree 0 u Mz (0 : Int32)) ∧ ∃ M43_ : mM, (Inv M43_) ∧ (FR (S_c_X11_error) Mz M43_) ∧ ∃ r42_ : Int32, (SP_X11_error 3 Mz r42_ M43_) ∧ r_ = r42_ ∧ M_ = M43_))) ∨ ((SP_X7_isCell u Mz (0 : Int32)) ∧ (¬ (0 ≤ u.toInt ∧ u.toInt ≤ 191)) ∧ ∃ M52_ : mM, (Inv M52_) ∧ (FR (S_c_X11_error) Mz M52_) ∧ ∃ r51_ : Int32, (SP_X11_error 1 Mz r51_ M52_) ∧ r_ = r51_ ∧ M_ = M52_))) ∨ ((SP_X11_isThingKind v Mz (0 : Int32)) ∧ (¬ (0 ≤ v.toInt ∧ v.toInt ≤ 4)) ∧ ∃ M61_ : mM, (Inv M61_) ∧ (FR (S_c_X11_error) Mz M61_) ∧ ∃ r60_ : Int32, (SP_X11_error 1 Mz r60_ M61_) ∧ r_ = r60_ ∧ M_ = M61_))
set_option maxHeartbeats 4000000 in
set_option maxRecDepth 100000 in
theorem c_X11_thing (l : Launch) (G : va_G) (cy : Nat → ClassId) (ad : rf → Nat) (d : Nat) (v : Int32) (u : Int32) (Mz : mM) (hIz : Inv Mz) : WP CC l G cy ad yX11_thing cX11_thing 3 (some .int) (d + 3) 0 [(0, vR (11, 0, 0)), (1, vI v), (2, vI u)] [] Mz (fun r M' => Inv M' ∧ FR (S_c_X11_thing) Mz M' ∧ (True) ∧ SP_X11_thing v u Mz r M') := by
  have hFz : FR (S_c_X11_thing) Mz Mz := FR.self
  refine w_iload_n dX11_thing_0 rfl 1 rfl ?_
  refine w_callS (as := [vI v]) (rest := []) (c_X11_isThingKind l G cy ad (d + 1) v Mz hIz) kS_X11_isThingKind (by decide +kernel) (Nat.le_of_ble_eq_true rfl) m_491 rfl rfl (by decide) (Nat.le_of_ble_eq_true rfl) dX11_thing_1 (fun r1_ M2_ q3_ => ?_)
  obtain ⟨rfl, h4_, hs5_⟩ := q3_
  rcases h4_ with ⟨rfl, h4_⟩ | ⟨rfl, h4_⟩
  · refine w_if_eq (tgt := 14) dX11_thing_4 (by decide) li_1 (fun h9 => (absurd h9 (by decide))) (fun h6_ => ?_)
    refine w_iload_n dX11_thing_7 rfl 2 rfl ?_
    refine w_callS (as := [vI u]) (rest := []) (c_X7_isCell l G cy ad (d + 2) u Mz hIz) kS_X7_isCell (by decide +kernel) (Nat.le_of_ble_eq_true rfl) m_497 rfl rfl (by decide) (Nat.le_of_ble_eq_true rfl) dX11_thing_8 (fun r7_ M8_ q9_ => ?_)
    obtain ⟨rfl, h10_, hs11_⟩ := q9_
    rcases h10_ with ⟨rfl, h10_⟩ | ⟨rfl, h10_⟩
    · refine w_if_ne (tgt := 20) dX11_thing_11 (by decide) li_1 (fun h12_ => ?_) (fun h9 => (absurd h9 (by decide)))
      refine w_aload_n dX11_thing_20 rfl 0 rfl ?_
      refine w_getR (c' := (10, 0, 0)) fl_RX11_10 rfl rfl ic_11 dX11_thing_21 rfl ?_
      refine w_getR (c' := (7, 0, 0)) fl_RX11_71 rfl rfl (ic_10 (by decide)) dX11_thing_24 rfl ?_
      refine w_iload_n dX11_thing_27 rfl 2 rfl ?_
      refine w_callV (as := [vI u]) (rest := []) (c_X7_isFree l G cy ad (d + 1) 0 u Mz hIz (by first | decide | (unfold vF; omega) | (unfold vRw; omega))) kV_X7_isFree (by decide +kernel) (Nat.le_of_ble_eq_true rfl) m_505 rfl rfl rfl (ic_7 (by decide)) rfl rfl (by decide) (Nat.le_of_ble_eq_true rfl) dX11_thing_28 (fun r13_ M14_ q15_ => ?_)
      obtain ⟨rfl, h16_, hs17_⟩ := q15_
      rcases h16_ with ⟨rfl, h16_⟩ | rfl
      · refine w_if_ne (tgt := 40) dX11_thing_31 (by decide) li_1 (fun h18_ => ?_) (fun h9 => (absurd h9 (by decide)))
        refine w_aload_n dX11_thing_40 rfl 0 rfl ?_
        refine w_getR (c' := (10, 0, 0)) fl_RX11_10 rfl rfl ic_11 dX11_thing_41 rfl ?_
        refine w_getR (c' := (7, 0, 0)) fl_RX11_71 rfl rfl (ic_10 (by decide)) dX11_thing_44 rfl ?_
        refine w_callV (as := []) (rest := []) (c_X7_hasRoom l G cy ad (d + 2) 0 Mz hIz (by first | decide | (unfold vF; omega) | (unfold vRw; omega))) kV_X7_hasRoom (by decide +kernel) (Nat.le_of_ble_eq_true rfl) m_510 rfl rfl rfl (ic_7 (by decide)) rfl rfl (by decide) (Nat.le_of_ble_eq_true rfl) dX11_thing_47 (fun r19_ M20_ q21_ => ?_)
        obtain ⟨rfl, h22_, hs23_⟩ := q21_
        refine w_if_ne (tgt := 59) dX11_thing_50 (by decide) (rfl : r19_.toInt = r19_.toInt) (fun h24_ => ?_) (fun h24_ => ?_)
        · refine w_aload_n dX11_thing_59 rfl 0 rfl ?_
          refine w_getR (c' := (10, 0, 0)) fl_RX11_10 rfl rfl ic_11 dX11_thing_60 rfl ?_
          refine w_getR (c' := (7, 0, 0)) fl_RX11_71 rfl rfl (ic_10 (by decide)) dX11_thing_63 rfl ?_
          refine w_iload_n dX11_thing_66 rfl 1 rfl ?_
          refine w_iload_n dX11_thing_67 rfl 2 rfl ?_
          refine w_callV (as := [vI v, vI u]) (rest := []) (c_X7_addThing l G cy ad d 0 v u Mz hIz (by first | decide | (unfold vF; omega) | (unfold vRw; omega))) kV_X7_addThing (by decide +kernel) (Nat.le_of_ble_eq_true rfl) m_514 rfl rfl rfl (ic_7 (by decide)) rfl rfl (by decide) (Nat.le_of_ble_eq_true rfl) dX11_thing_68 (fun r25_ M26_ q27_ => ?_)
          obtain ⟨hI29_, hF30_, h28_, hs32_⟩ := q27_
          have hF31_ := hFz.tr hF30_ (fun c k => (fun h => h.elim (fun h => (Or.inl ⟨h.1, h.2⟩)) (fun h => h.elim (fun h => (Or.inr (Or.inl ⟨h.1, h.2⟩))) (fun h => h.elim (fun h => (Or.inr (Or.inr (Or.inl ⟨h.1, h.2⟩)))) (fun h => h.elim (fun h => (Or.inr (Or.inr (Or.inr (Or.inl ⟨h.1, h.2⟩))))) (fun h => h.elim (fun h => (Or.inr (Or.inr (Or.inr (Or.inr (Or.inl ⟨h.1, h.2⟩)))))) (fun h => h.elim (fun h => (Or.inr (Or.inr (Or.inr (Or.inr (Or.inr (Or.inl ⟨h.1, h.2.1, h.2.2⟩))))))) (fun h => h.elim))))))))
          exact w_iret rfl dX11_thing_71 ⟨hI29_, hF31_, trivial, (Or.inl ⟨hs5_, h4_, (Or.inl ⟨hs11_, h10_, (Or.inl ⟨hs17_, h16_, r19_, hs23_, h22_, (Or.inl ⟨h24_, M26_, hI29_, hF30_, r25_, hs32_, rfl, rfl⟩)⟩)⟩)⟩)⟩
        · refine w_aload_n dX11_thing_53 rfl 0 rfl ?_
          refine w_iconst (v := 4) dX11_thing_54 (by decide) ?_
          refine w_callV (as := [vI 4]) (rest := []) (c_X11_error l G cy ad (d + 2) 4 Mz hIz) kV_X11_error (by decide +kernel) (Nat.le_of_ble_eq_true rfl) m_500 rfl rfl rfl ic_11 rfl rfl (by decide) (Nat.le_of_ble_eq_true rfl) dX11_thing_55 (fun r33_ M34_ q35_ => ?_)
          obtain ⟨hI37_, hF38_, h36_, hs40_⟩ := q35_
          have hF39_ := hFz.tr hF38_ (fun c k => (fun h => h.elim (fun h => (Or.inr (Or.inr (Or.inr (Or.inr (Or.inr (Or.inr (Or.inl ⟨h.1, h.2⟩)))))))) (fun h => h.elim)))
          exact w_iret rfl dX11_thing_58 ⟨hI37_, hF39_, trivial, (Or.inl ⟨hs5_, h4_, (Or.inl ⟨hs11_, h10_, (Or.inl ⟨hs17_, h16_, r19_, hs23_, h22_, (Or.inr ⟨h24_, M34_, hI37_, hF38_, r33_, hs40_, rfl, rfl⟩)⟩)⟩)⟩)⟩
      · refine w_if_ne (tgt := 40) dX11_thing_31 (by decide) li_0 (fun h9 => (absurd h9 (by decide))) (fun h41_ => ?_)
        refine w_aload_n dX11_thing_34 rfl 0 rfl ?_
        refine w_iconst (v := 3) dX11_thing_35 (by decide) ?_
        refine w_callV (as := [vI 3]) (rest := []) (c_X11_error l G cy ad (d + 2) 3 Mz hIz) kV_X11_error (by decide +kernel) (Nat.le_of_ble_eq_true rfl) m_500 rfl rfl rfl ic_11 rfl rfl (by decide) (Nat.le_of_ble_eq_true rfl) dX11_thing_36 (fun r42_ M43_ q44_ => ?_)
        obtain ⟨hI46_, hF47_, h45_, hs49_⟩ := q44_
        have hF48_ := hFz.tr hF47_ (fun c k => (fun h => h.elim (fun h => (Or.inr (Or.inr (Or.inr (Or.inr (Or.inr (Or.inr (Or.inl ⟨h.1, h.2⟩)))))))) (fun h => h.elim)))
        exact w_iret rfl dX11_thing_39 ⟨hI46_, hF48_, trivial, (Or.inl ⟨hs5_, h4_, (Or.inl ⟨hs11_, h10_, (Or.inr ⟨hs17_, M43_, hI46_, hF47_, r42_, hs49_, rfl, rfl⟩)⟩)⟩)⟩
    · refine w_if_ne (tgt := 20) dX11_thing_11 (by decide) li_0 (fun h9 => (absurd h9 (by decide))) (fun h50_ => ?_)
      refine w_aload_n dX11_thing_14 rfl 0 rfl ?_
      refine w_iconst (v := 1) dX11_thing_15 (by decide) ?_
      refine w_callV (as := [vI 1]) (rest := []) (c_X11_error l G cy ad (d + 2) 1 Mz hIz) kV_X11_error (by decide +kernel) (Nat.le_of_ble_eq_true rfl) m_500 rfl rfl rfl ic_11 rfl rfl (by decide) (Nat.le_of_ble_eq_true rfl) dX11_thing_16 (fun r51_ M52_ q53_ => ?_)
      obtain ⟨hI55_, hF56_, h54_, hs58_⟩ := q53_
      have hF57_ := hFz.tr hF56_ (fun c k => (fun h => h.elim (fun h => (Or.inr (Or.inr (Or.inr (Or.inr (Or.inr (Or.inr (Or.inl ⟨h.1, h.2⟩)))))))) (fun h => h.elim)))
      exact w_iret rfl dX11_thing_19 ⟨hI55_, hF57_, trivial, (Or.inl ⟨hs5_, h4_, (Or.inr ⟨hs11_, h10_, M52_, hI55_, hF56_, r51_, hs58_, rfl, rfl⟩)⟩)⟩
  · refine w_if_eq (tgt := 14) dX11_thing_4 (by decide) li_0 (fun h59_ => ?_) (fun h9 => (absurd h9 (by decide)))
    refine w_aload_n dX11_thing_14 rfl 0 rfl ?_
    refine w_iconst (v := 1) dX11_thing_15 (by decide) ?_
    refine w_callV (as := [vI 1]) (rest := []) (c_X11_error l G cy ad (d + 2) 1 Mz hIz) kV_X11_error (by decide +kernel) (Nat.le_of_ble_eq_true rfl) m_500 rfl rfl rfl ic_11 rfl rfl (by decide) (Nat.le_of_ble_eq_true rfl) dX11_thing_16 (fun r60_ M61_ q62_ => ?_)
    obtain ⟨hI64_, hF65_, h63_, hs67_⟩ := q62_
    have hF66_ := hFz.tr hF65_ (fun c k => (fun h => h.elim (fun h => (Or.inr (Or.inr (Or.inr (Or.inr (Or.inr (Or.inr (Or.inl ⟨h.1, h.2⟩)))))))) (fun h => h.elim)))
    exact w_iret rfl dX11_thing_19 ⟨hI64_, hF66_, trivial, (Or.inr ⟨hs5_, h4_, M61_, hI64_, hF65_, r60_, hs67_, rfl, rfl⟩)⟩
def S_c_X11_thingIs : rf → Nat → Prop := fun c k => (c.1 = 44 ∧ c.2.1 = 0) ∨ False
def SP_X11_thingIs (v : Int32) (u : Int32) (Mz : mM) (r_ : Int32) (M_ : mM) : Prop := (((SP_X7_hasThing 0 v Mz (1 : Int32)) ∧ (0 ≤ v.toInt ∧ v.toInt ≤ 39) ∧ (((SP_X11_within u 0 3 Mz (1 : Int32)) ∧ (0 ≤ u.toInt ∧ u.toInt ≤ 3) ∧ ∃ r13_ : Int32, (SP_X7_factOf 0 v u Mz r13_) ∧ r_ = r13_ ∧ M_ = Mz) ∨ ((SP_X11_within u 0 3 Mz (0 : Int32)) ∧ (¬ (0 ≤ u.toInt ∧ u.toInt ≤ 3)) ∧ ∃ M20_ : mM, (Inv M20_) ∧ (FR (S_c_X11_error) Mz M20_) ∧ ∃ r19_ : Int32, (SP_X11_error 1 Mz r19_ M20_) ∧ r_ = r19_ ∧ M_ = M20_))) ∨ ((SP_X7_hasThing 0 v Mz (0 : Int32)) ∧ ∃ M29_ : mM, (Inv M29_) ∧ (FR (S_c_X11_error) Mz M29_) ∧ ∃ r28_ : Int32, (SP_X11_error 1 Mz r28_ M29_) ∧ r_ = r28_ ∧ M_ = M29_))
set_option maxHeartbeats 4000000 in
set_option maxRecDepth 100000 in
theorem c_X11_thingIs (l : Launch) (G : va_G) (cy : Nat → ClassId) (ad : rf → Nat) (d : Nat) (v : Int32) (u : Int32) (Mz : mM) (hIz : Inv Mz) : WP CC l G cy ad yX11_thingIs cX11_thingIs 3 (some .int) (d + 2) 0 [(0, vR (11, 0, 0)), (1, vI v), (2, vI u)] [] Mz (fun r M' => Inv M' ∧ FR (S_c_X11_thingIs) Mz M' ∧ (True) ∧ SP_X11_thingIs v u Mz r M') := by
  have hFz : FR (S_c_X11_thingIs) Mz Mz := FR.self
  refine w_aload_n dX11_thingIs_0 rfl 0 rfl ?_
  refine w_getR (c' := (10, 0, 0)) fl_RX11_10 rfl rfl ic_11 dX11_thingIs_1 rfl ?_
  refine w_getR (c' := (7, 0, 0)) fl_RX11_71 rfl rfl (ic_10 (by decide)) dX11_thingIs_4 rfl ?_
  refine w_iload_n dX11_thingIs_7 rfl 1 rfl ?_
  refine w_callV (as := [vI v]) (rest := []) (c_X7_hasThing l G cy ad (d + 1) 0 v Mz hIz (by first | decide | (unfold vF; omega) | (unfold vRw; omega))) kV_X7_hasThing (by decide +kernel) (Nat.le_of_ble_eq_true rfl) m_526 rfl rfl rfl (ic_7 (by decide)) rfl rfl (by decide) (Nat.le_of_ble_eq_true rfl) dX11_thingIs_8 (fun r1_ M2_ q3_ => ?_)
  obtain ⟨rfl, h4_, hs5_⟩ := q3_
  rcases h4_ with ⟨rfl, h4_⟩ | rfl
  · refine w_if_eq (tgt := 23) dX11_thingIs_11 (by decide) li_1 (fun h9 => (absurd h9 (by decide))) (fun h6_ => ?_)
    refine w_iload_n dX11_thingIs_14 rfl 2 rfl ?_
    refine w_iconst (v := 0) dX11_thingIs_15 (by decide) ?_
    refine w_iconst (v := 3) dX11_thingIs_16 (by decide) ?_
    refine w_callS (as := [vI u, vI 0, vI 3]) (rest := []) (c_X11_within l G cy ad (d + 1) u 0 3 Mz hIz) kS_X11_within (by decide +kernel) (Nat.le_of_ble_eq_true rfl) m_494 rfl rfl (by decide) (Nat.le_of_ble_eq_true rfl) dX11_thingIs_17 (fun r7_ M8_ q9_ => ?_)
    obtain ⟨rfl, h10_, hs11_⟩ := q9_
    rcases h10_ with ⟨rfl, h10_⟩ | ⟨rfl, h10_⟩
    · simp only [li_0, li_3] at h10_
      refine w_if_ne (tgt := 29) dX11_thingIs_20 (by decide) li_1 (fun h12_ => ?_) (fun h9 => (absurd h9 (by decide)))
      refine w_aload_n dX11_thingIs_29 rfl 0 rfl ?_
      refine w_getR (c' := (10, 0, 0)) fl_RX11_10 rfl rfl ic_11 dX11_thingIs_30 rfl ?_
      refine w_getR (c' := (7, 0, 0)) fl_RX11_71 rfl rfl (ic_10 (by decide)) dX11_thingIs_33 rfl ?_
      refine w_iload_n dX11_thingIs_36 rfl 1 rfl ?_
      refine w_iload_n dX11_thingIs_37 rfl 2 rfl ?_
      refine w_callV (as := [vI v, vI u]) (rest := []) (c_X7_factOf l G cy ad d 0 v u Mz hIz (by first | decide | (unfold vF; omega) | (unfold vRw; omega))) kV_X7_factOf (by decide +kernel) (Nat.le_of_ble_eq_true rfl) m_530 rfl rfl rfl (ic_7 (by decide)) rfl rfl (by decide) (Nat.le_of_ble_eq_true rfl) dX11_thingIs_38 (fun r13_ M14_ q15_ => ?_)
      obtain ⟨rfl, h16_, hs17_⟩ := q15_
      exact w_iret rfl dX11_thingIs_41 ⟨hIz, hFz, trivial, (Or.inl ⟨hs5_, h4_, (Or.inl ⟨hs11_, h10_, r13_, hs17_, rfl, rfl⟩)⟩)⟩
    · simp only [li_0, li_3] at h10_
      refine w_if_ne (tgt := 29) dX11_thingIs_20 (by decide) li_0 (fun h9 => (absurd h9 (by decide))) (fun h18_ => ?_)
      refine w_aload_n dX11_thingIs_23 rfl 0 rfl ?_
      refine w_iconst (v := 1) dX11_thingIs_24 (by decide) ?_
      refine w_callV (as := [vI 1]) (rest := []) (c_X11_error l G cy ad (d + 1) 1 Mz hIz) kV_X11_error (by decide +kernel) (Nat.le_of_ble_eq_true rfl) m_500 rfl rfl rfl ic_11 rfl rfl (by decide) (Nat.le_of_ble_eq_true rfl) dX11_thingIs_25 (fun r19_ M20_ q21_ => ?_)
      obtain ⟨hI23_, hF24_, h22_, hs26_⟩ := q21_
      have hF25_ := hFz.tr hF24_ (fun c k => (fun h => h.elim (fun h => (Or.inl ⟨h.1, h.2⟩)) (fun h => h.elim)))
      exact w_iret rfl dX11_thingIs_28 ⟨hI23_, hF25_, trivial, (Or.inl ⟨hs5_, h4_, (Or.inr ⟨hs11_, h10_, M20_, hI23_, hF24_, r19_, hs26_, rfl, rfl⟩)⟩)⟩
  · refine w_if_eq (tgt := 23) dX11_thingIs_11 (by decide) li_0 (fun h27_ => ?_) (fun h9 => (absurd h9 (by decide)))
    refine w_aload_n dX11_thingIs_23 rfl 0 rfl ?_
    refine w_iconst (v := 1) dX11_thingIs_24 (by decide) ?_
    refine w_callV (as := [vI 1]) (rest := []) (c_X11_error l G cy ad (d + 1) 1 Mz hIz) kV_X11_error (by decide +kernel) (Nat.le_of_ble_eq_true rfl) m_500 rfl rfl rfl ic_11 rfl rfl (by decide) (Nat.le_of_ble_eq_true rfl) dX11_thingIs_25 (fun r28_ M29_ q30_ => ?_)
    obtain ⟨hI32_, hF33_, h31_, hs35_⟩ := q30_
    have hF34_ := hFz.tr hF33_ (fun c k => (fun h => h.elim (fun h => (Or.inl ⟨h.1, h.2⟩)) (fun h => h.elim)))
    exact w_iret rfl dX11_thingIs_28 ⟨hI32_, hF34_, trivial, (Or.inr ⟨hs5_, M29_, hI32_, hF33_, r28_, hs35_, rfl, rfl⟩)⟩
def S_c_X11_moves : rf → Nat → Prop := fun c k => (c.1 = 38 ∧ c.2.1 = 0) ∨ (c.1 = 39 ∧ c.2.1 = 0) ∨ (c.1 = 44 ∧ c.2.1 = 0) ∨ False
def SP_X11_moves (v : Int32) (u : Int32) (t : Int32) (Mz : mM) (r_ : Int32) (M_ : mM) : Prop := (((SP_X7_hasThing 0 v Mz (1 : Int32)) ∧ (0 ≤ v.toInt ∧ v.toInt ≤ 39) ∧ (((SP_X7_isSide u Mz (1 : Int32)) ∧ (0 ≤ u.toInt ∧ u.toInt ≤ 7) ∧ (((SP_X11_within t 0 20 Mz (1 : Int32)) ∧ (0 ≤ t.toInt ∧ t.toInt ≤ 20) ∧ ∃ j21_ : Nat, ((j21_ : Int) = v.toInt) ∧ ∃ z19_ : Int32, (z19_ = Mz.1 (36, 0, 0) j21_) ∧ (((3 ≤ z19_.toInt) ∧ ∃ j26_ : Nat, ((j26_ : Int) = v.toInt) ∧ ∃ z24_ : Int32, (z24_ = Mz.1 (37, 0, 0) j26_) ∧ (((0 ≤ z24_.toInt) ∧ ∃ j31_ : Nat, ((j31_ : Int) = v.toInt) ∧ ∃ M29_ : mM, (M29_ = up Mz (38, 0, 0) j31_ u) ∧ ∃ j37_ : Nat, ((j37_ : Int) = v.toInt) ∧ ∃ M35_ : mM, (M35_ = up M29_ (39, 0, 0) j37_ t) ∧ r_ = 1 ∧ M_ = M35_) ∨ ((z24_.toInt < 0) ∧ ∃ M42_ : mM, (Inv M42_) ∧ (FR (S_c_X11_error) Mz M42_) ∧ ∃ r41_ : Int32, (SP_X11_error 3 Mz r41_ M42_) ∧ r_ = r41_ ∧ M_ = M42_))) ∨ ((z19_.toInt < 3) ∧ ∃ M50_ : mM, (Inv M50_) ∧ (FR (S_c_X11_error) Mz M50_) ∧ ∃ r49_ : Int32, (SP_X11_error 5 Mz r49_ M50_) ∧ r_ = r49_ ∧ M_ = M50_))) ∨ ((SP_X11_within t 0 20 Mz (0 : Int32)) ∧ (¬ (0 ≤ t.toInt ∧ t.toInt ≤ 20)) ∧ ∃ M59_ : mM, (Inv M59_) ∧ (FR (S_c_X11_error) Mz M59_) ∧ ∃ r58_ : Int32, (SP_X11_error 1 Mz r58_ M59_) ∧ r_ = r58_ ∧ M_ = M59_))) ∨ ((SP_X7_isSide u Mz (0 : Int32)) ∧ (¬ (0 ≤ u.toInt ∧ u.toInt ≤ 7)) ∧ ∃ M68_ : mM, (Inv M68_) ∧ (FR (S_c_X11_error) Mz M68_) ∧ ∃ r67_ : Int32, (SP_X11_error 1 Mz r67_ M68_) ∧ r_ = r67_ ∧ M_ = M68_))) ∨ ((SP_X7_hasThing 0 v Mz (0 : Int32)) ∧ ∃ M77_ : mM, (Inv M77_) ∧ (FR (S_c_X11_error) Mz M77_) ∧ ∃ r76_ : Int32, (SP_X11_error 1 Mz r76_ M77_) ∧ r_ = r76_ ∧ M_ = M77_))
theorem lf_c_X11_moves_0  (v : Int32) (h4_ : 0 ≤ v.toInt ∧ v.toInt ≤ 39) : 0 ≤ v.toInt ∧ v.toInt < ((40 : Nat) : Int) := by have r_v := rngI v; omega
theorem lf_c_X11_moves_1 (Mz : mM) (v : Int32) (j21_ : Nat) (z19_ : Int32) (h4_ : 0 ≤ v.toInt ∧ v.toInt ≤ 39) (h22_ : (j21_ : Int) = v.toInt) (e20_ : z19_ = Mz.1 (36, 0, 0) j21_) (h23_ : 3 ≤ z19_.toInt) : 0 ≤ v.toInt ∧ v.toInt < ((40 : Nat) : Int) := by have r_v := rngI v; have r_z19_ := rngI z19_; subst e20_; omega
theorem lf_c_X11_moves_2 (Mz : mM) (v : Int32) (j21_ : Nat) (z19_ : Int32) (j26_ : Nat) (z24_ : Int32) (h4_ : 0 ≤ v.toInt ∧ v.toInt ≤ 39) (h22_ : (j21_ : Int) = v.toInt) (e20_ : z19_ = Mz.1 (36, 0, 0) j21_) (h23_ : 3 ≤ z19_.toInt) (h27_ : (j26_ : Int) = v.toInt) (e25_ : z24_ = Mz.1 (37, 0, 0) j26_) (h28_ : 0 ≤ z24_.toInt) : 0 ≤ v.toInt ∧ v.toInt < ((40 : Nat) : Int) := by have r_v := rngI v; have r_z19_ := rngI z19_; have r_z24_ := rngI z24_; subst e20_; subst e25_; omega
theorem lf_c_X11_moves_3 (M29_ : mM) (Mz : mM) (v : Int32) (u : Int32) (j21_ : Nat) (z19_ : Int32) (j26_ : Nat) (z24_ : Int32) (j31_ : Nat) (h4_ : 0 ≤ v.toInt ∧ v.toInt ≤ 39) (h10_ : 0 ≤ u.toInt ∧ u.toInt ≤ 7) (h22_ : (j21_ : Int) = v.toInt) (e20_ : z19_ = Mz.1 (36, 0, 0) j21_) (h23_ : 3 ≤ z19_.toInt) (h27_ : (j26_ : Int) = v.toInt) (e25_ : z24_ = Mz.1 (37, 0, 0) j26_) (h28_ : 0 ≤ z24_.toInt) (h32_ : (j31_ : Int) = v.toInt) (hM30_ : M29_ = up Mz (38, 0, 0) j31_ u) : 0 ≤ v.toInt ∧ v.toInt < ((40 : Nat) : Int) := by have r_v := rngI v; have r_u := rngI u; have r_z19_ := rngI z19_; have r_z24_ := rngI z24_; subst e20_; subst e25_; omega
set_option maxHeartbeats 4000000 in
set_option maxRecDepth 100000 in
theorem c_X11_moves (l : Launch) (G : va_G) (cy : Nat → ClassId) (ad : rf → Nat) (d : Nat) (v : Int32) (u : Int32) (t : Int32) (Mz : mM) (hIz : Inv Mz) : WP CC l G cy ad yX11_moves cX11_moves 5 (some .int) (d + 1) 0 [(0, vR (11, 0, 0)), (1, vI v), (2, vI u), (3, vI t)] [] Mz (fun r M' => Inv M' ∧ FR (S_c_X11_moves) Mz M' ∧ (True) ∧ SP_X11_moves v u t Mz r M') := by
  have hFz : FR (S_c_X11_moves) Mz Mz := FR.self
  refine w_aload_n dX11_moves_0 rfl 0 rfl ?_
  refine w_getR (c' := (10, 0, 0)) fl_RX11_10 rfl rfl ic_11 dX11_moves_1 rfl ?_
  refine w_getR (c' := (7, 0, 0)) fl_RX11_71 rfl rfl (ic_10 (by decide)) dX11_moves_4 rfl ?_
  refine w_astore (ls' := [(4, vR (7, 0, 0)), (0, vR (11, 0, 0)), (1, vI v), (2, vI u), (3, vI t)]) dX11_moves_7 (by decide) rfl ?_
  refine w_aload dX11_moves_9 0 rfl ?_
  refine w_iload_n dX11_moves_11 rfl 2 rfl ?_
  refine w_callV (as := [vI v]) (rest := []) (c_X7_hasThing l G cy ad d 0 v Mz hIz (by first | decide | (unfold vF; omega) | (unfold vRw; omega))) kV_X7_hasThing (by decide +kernel) (Nat.le_of_ble_eq_true rfl) m_526 rfl rfl rfl (ic_7 (by decide)) rfl rfl (by decide) (Nat.le_of_ble_eq_true rfl) dX11_moves_12 (fun r1_ M2_ q3_ => ?_)
  obtain ⟨rfl, h4_, hs5_⟩ := q3_
  rcases h4_ with ⟨rfl, h4_⟩ | rfl
  · refine w_if_eq (tgt := 35) dX11_moves_15 (by decide) li_1 (fun h9 => (absurd h9 (by decide))) (fun h6_ => ?_)
    refine w_iload_n dX11_moves_18 rfl 3 rfl ?_
    refine w_callS (as := [vI u]) (rest := []) (c_X7_isSide l G cy ad d u Mz hIz) kS_X7_isSide (by decide +kernel) (Nat.le_of_ble_eq_true rfl) m_539 rfl rfl (by decide) (Nat.le_of_ble_eq_true rfl) dX11_moves_19 (fun r7_ M8_ q9_ => ?_)
    obtain ⟨rfl, h10_, hs11_⟩ := q9_
    rcases h10_ with ⟨rfl, h10_⟩ | ⟨rfl, h10_⟩
    · refine w_if_eq (tgt := 35) dX11_moves_22 (by decide) li_1 (fun h9 => (absurd h9 (by decide))) (fun h12_ => ?_)
      refine w_iload_n dX11_moves_25 rfl 4 rfl ?_
      refine w_iconst (v := 0) dX11_moves_26 (by decide) ?_
      refine w_bipush (v := 20) dX11_moves_27 (by decide) ?_
      refine w_callS (as := [vI t, vI 0, vI 20]) (rest := []) (c_X11_within l G cy ad d t 0 20 Mz hIz) kS_X11_within (by decide +kernel) (Nat.le_of_ble_eq_true rfl) m_494 rfl rfl (by decide) (Nat.le_of_ble_eq_true rfl) dX11_moves_29 (fun r13_ M14_ q15_ => ?_)
      obtain ⟨rfl, h16_, hs17_⟩ := q15_
      rcases h16_ with ⟨rfl, h16_⟩ | ⟨rfl, h16_⟩
      · simp only [li_0, li_20] at h16_
        refine w_if_ne (tgt := 41) dX11_moves_32 (by decide) li_1 (fun h18_ => ?_) (fun h9 => (absurd h9 (by decide)))
        refine w_aload dX11_moves_41 0 rfl ?_
        refine w_getR (c' := (36, 0, 0)) fl_RX11_99 rfl rfl (ic_7 (by decide)) dX11_moves_43 rfl ?_
        refine w_iload_n dX11_moves_46 rfl 2 rfl ?_
        refine w_iald rfl rfl (ic_36 (by decide)) (rfl : v.toInt = v.toInt) (lf_c_X11_moves_0 v h4_) dX11_moves_47 (fun j21_ h22_ z19_ e20_ => ?_)
        refine w_iconst (v := 3) dX11_moves_48 (by decide) ?_
        refine w_icmp_ge (tgt := 58) dX11_moves_49 (by decide) (rfl : z19_.toInt = z19_.toInt) li_3 (fun h23_ => ?_) (fun h23_ => ?_)
        · refine w_aload dX11_moves_58 0 rfl ?_
          refine w_getR (c' := (37, 0, 0)) fl_RX11_102 rfl rfl (ic_7 (by decide)) dX11_moves_60 rfl ?_
          refine w_iload_n dX11_moves_63 rfl 2 rfl ?_
          refine w_iald rfl rfl (ic_37 (by decide)) (rfl : v.toInt = v.toInt) (lf_c_X11_moves_1 Mz v j21_ z19_ h4_ h22_ e20_ h23_) dX11_moves_64 (fun j26_ h27_ z24_ e25_ => ?_)
          refine w_if_ge (tgt := 74) dX11_moves_65 (by decide) (rfl : z24_.toInt = z24_.toInt) (fun h28_ => ?_) (fun h28_ => ?_)
          · refine w_aload dX11_moves_74 0 rfl ?_
            refine w_getR (c' := (38, 0, 0)) fl_RX11_105 rfl rfl (ic_7 (by decide)) dX11_moves_76 rfl ?_
            refine w_iload_n dX11_moves_79 rfl 2 rfl ?_
            refine w_iload_n dX11_moves_80 rfl 3 rfl ?_
            refine w_iast CC_nd rfl rfl (ic_38 (by decide)) (rfl : v.toInt = v.toInt) (lf_c_X11_moves_2 Mz v j21_ z19_ j26_ z24_ h4_ h22_ e20_ h23_ h27_ e25_ h28_) dX11_moves_81 (fun j31_ h32_ M29_ hM30_ => ?_)
            have hI33_ := hIz.put hM30_ trivial
            have hF34_ := hFz.put hM30_ (Or.inl ⟨rfl, rfl⟩)
            refine w_aload dX11_moves_82 0 rfl ?_
            refine w_getR (c' := (39, 0, 0)) fl_RX11_108 rfl rfl (ic_7 (by decide)) dX11_moves_84 rfl ?_
            refine w_iload_n dX11_moves_87 rfl 2 rfl ?_
            refine w_iload_n dX11_moves_88 rfl 4 rfl ?_
            refine w_iast CC_nd rfl rfl (ic_39 (by decide)) (rfl : v.toInt = v.toInt) (lf_c_X11_moves_3 M29_ Mz v u j21_ z19_ j26_ z24_ j31_ h4_ h10_ h22_ e20_ h23_ h27_ e25_ h28_ h32_ hM30_) dX11_moves_89 (fun j37_ h38_ M35_ hM36_ => ?_)
            have hI39_ := hI33_.put hM36_ trivial
            have hF40_ := hF34_.put hM36_ (Or.inr (Or.inl ⟨rfl, rfl⟩))
            refine w_iconst (v := 1) dX11_moves_90 (by decide) ?_
            exact w_iret rfl dX11_moves_91 ⟨hI39_, hF40_, trivial, (Or.inl ⟨hs5_, h4_, (Or.inl ⟨hs11_, h10_, (Or.inl ⟨hs17_, h16_, j21_, h22_, z19_, e20_, (Or.inl ⟨h23_, j26_, h27_, z24_, e25_, (Or.inl ⟨h28_, j31_, h32_, M29_, hM30_, j37_, h38_, M35_, hM36_, rfl, rfl⟩)⟩)⟩)⟩)⟩)⟩
          · refine w_aload_n dX11_moves_68 rfl 1 rfl ?_
            refine w_iconst (v := 3) dX11_moves_69 (by decide) ?_
            refine w_callV (as := [vI 3]) (rest := []) (c_X11_error l G cy ad d 3 Mz hIz) kV_X11_error (by decide +kernel) (Nat.le_of_ble_eq_true rfl) m_500 rfl rfl rfl ic_11 rfl rfl (by decide) (Nat.le_of_ble_eq_true rfl) dX11_moves_70 (fun r41_ M42_ q43_ => ?_)
            obtain ⟨hI45_, hF46_, h44_, hs48_⟩ := q43_
            have hF47_ := hFz.tr hF46_ (fun c k => (fun h => h.elim (fun h => (Or.inr (Or.inr (Or.inl ⟨h.1, h.2⟩)))) (fun h => h.elim)))
            exact w_iret rfl dX11_moves_73 ⟨hI45_, hF47_, trivial, (Or.inl ⟨hs5_, h4_, (Or.inl ⟨hs11_, h10_, (Or.inl ⟨hs17_, h16_, j21_, h22_, z19_, e20_, (Or.inl ⟨h23_, j26_, h27_, z24_, e25_, (Or.inr ⟨h28_, M42_, hI45_, hF46_, r41_, hs48_, rfl, rfl⟩)⟩)⟩)⟩)⟩)⟩
        · refine w_aload_n dX11_moves_52 rfl 1 rfl ?_
          refine w_iconst (v := 5) dX11_moves_53 (by decide) ?_
          refine w_callV (as := [vI 5]) (rest := []) (c_X11_error l G cy ad d 5 Mz hIz) kV_X11_error (by decide +kernel) (Nat.le_of_ble_eq_true rfl) m_500 rfl rfl rfl ic_11 rfl rfl (by decide) (Nat.le_of_ble_eq_true rfl) dX11_moves_54 (fun r49_ M50_ q51_ => ?_)
          obtain ⟨hI53_, hF54_, h52_, hs56_⟩ := q51_
          have hF55_ := hFz.tr hF54_ (fun c k => (fun h => h.elim (fun h => (Or.inr (Or.inr (Or.inl ⟨h.1, h.2⟩)))) (fun h => h.elim)))
          exact w_iret rfl dX11_moves_57 ⟨hI53_, hF55_, trivial, (Or.inl ⟨hs5_, h4_, (Or.inl ⟨hs11_, h10_, (Or.inl ⟨hs17_, h16_, j21_, h22_, z19_, e20_, (Or.inr ⟨h23_, M50_, hI53_, hF54_, r49_, hs56_, rfl, rfl⟩)⟩)⟩)⟩)⟩
      · simp only [li_0, li_20] at h16_
        refine w_if_ne (tgt := 41) dX11_moves_32 (by decide) li_0 (fun h9 => (absurd h9 (by decide))) (fun h57_ => ?_)
        refine w_aload_n dX11_moves_35 rfl 1 rfl ?_
        refine w_iconst (v := 1) dX11_moves_36 (by decide) ?_
        refine w_callV (as := [vI 1]) (rest := []) (c_X11_error l G cy ad d 1 Mz hIz) kV_X11_error (by decide +kernel) (Nat.le_of_ble_eq_true rfl) m_500 rfl rfl rfl ic_11 rfl rfl (by decide) (Nat.le_of_ble_eq_true rfl) dX11_moves_37 (fun r58_ M59_ q60_ => ?_)
        obtain ⟨hI62_, hF63_, h61_, hs65_⟩ := q60_
        have hF64_ := hFz.tr hF63_ (fun c k => (fun h => h.elim (fun h => (Or.inr (Or.inr (Or.inl ⟨h.1, h.2⟩)))) (fun h => h.elim)))
        exact w_iret rfl dX11_moves_40 ⟨hI62_, hF64_, trivial, (Or.inl ⟨hs5_, h4_, (Or.inl ⟨hs11_, h10_, (Or.inr ⟨hs17_, h16_, M59_, hI62_, hF63_, r58_, hs65_, rfl, rfl⟩)⟩)⟩)⟩
    · refine w_if_eq (tgt := 35) dX11_moves_22 (by decide) li_0 (fun h66_ => ?_) (fun h9 => (absurd h9 (by decide)))
      refine w_aload_n dX11_moves_35 rfl 1 rfl ?_
      refine w_iconst (v := 1) dX11_moves_36 (by decide) ?_
      refine w_callV (as := [vI 1]) (rest := []) (c_X11_error l G cy ad d 1 Mz hIz) kV_X11_error (by decide +kernel) (Nat.le_of_ble_eq_true rfl) m_500 rfl rfl rfl ic_11 rfl rfl (by decide) (Nat.le_of_ble_eq_true rfl) dX11_moves_37 (fun r67_ M68_ q69_ => ?_)
      obtain ⟨hI71_, hF72_, h70_, hs74_⟩ := q69_
      have hF73_ := hFz.tr hF72_ (fun c k => (fun h => h.elim (fun h => (Or.inr (Or.inr (Or.inl ⟨h.1, h.2⟩)))) (fun h => h.elim)))
      exact w_iret rfl dX11_moves_40 ⟨hI71_, hF73_, trivial, (Or.inl ⟨hs5_, h4_, (Or.inr ⟨hs11_, h10_, M68_, hI71_, hF72_, r67_, hs74_, rfl, rfl⟩)⟩)⟩
  · refine w_if_eq (tgt := 35) dX11_moves_15 (by decide) li_0 (fun h75_ => ?_) (fun h9 => (absurd h9 (by decide)))
    refine w_aload_n dX11_moves_35 rfl 1 rfl ?_
    refine w_iconst (v := 1) dX11_moves_36 (by decide) ?_
    refine w_callV (as := [vI 1]) (rest := []) (c_X11_error l G cy ad d 1 Mz hIz) kV_X11_error (by decide +kernel) (Nat.le_of_ble_eq_true rfl) m_500 rfl rfl rfl ic_11 rfl rfl (by decide) (Nat.le_of_ble_eq_true rfl) dX11_moves_37 (fun r76_ M77_ q78_ => ?_)
    obtain ⟨hI80_, hF81_, h79_, hs83_⟩ := q78_
    have hF82_ := hFz.tr hF81_ (fun c k => (fun h => h.elim (fun h => (Or.inr (Or.inr (Or.inl ⟨h.1, h.2⟩)))) (fun h => h.elim)))
    exact w_iret rfl dX11_moves_40 ⟨hI80_, hF82_, trivial, (Or.inr ⟨hs5_, M77_, hI80_, hF81_, r76_, hs83_, rfl, rfl⟩)⟩
def S_c_X11_away : rf → Nat → Prop := fun c k => (c.1 = 35 ∧ c.2.1 = 0) ∨ (c.1 = 37 ∧ c.2.1 = 0) ∨ (c.1 = 44 ∧ c.2.1 = 0) ∨ False
def SP_X11_away (v : Int32) (Mz : mM) (r_ : Int32) (M_ : mM) : Prop := (((SP_X7_hasThing 0 v Mz (1 : Int32)) ∧ (0 ≤ v.toInt ∧ v.toInt ≤ 39) ∧ ∃ j9_ : Nat, ((j9_ : Int) = v.toInt) ∧ ∃ z7_ : Int32, (z7_ = Mz.1 (37, 0, 0) j9_) ∧ (((0 ≤ z7_.toInt) ∧ ∃ M13_ : mM, (Inv M13_) ∧ (FR (S_c_X7_takeAway 0) Mz M13_) ∧ ∃ r12_ : Int32, (SP_X7_takeAway 0 v Mz r12_ M13_) ∧ r_ = r12_ ∧ M_ = M13_) ∨ ((z7_.toInt < 0) ∧ ∃ M21_ : mM, (Inv M21_) ∧ (FR (S_c_X11_error) Mz M21_) ∧ ∃ r20_ : Int32, (SP_X11_error 3 Mz r20_ M21_) ∧ r_ = r20_ ∧ M_ = M21_))) ∨ ((SP_X7_hasThing 0 v Mz (0 : Int32)) ∧ ∃ M30_ : mM, (Inv M30_) ∧ (FR (S_c_X11_error) Mz M30_) ∧ ∃ r29_ : Int32, (SP_X11_error 1 Mz r29_ M30_) ∧ r_ = r29_ ∧ M_ = M30_))
theorem lf_c_X11_away_0  (v : Int32) (h4_ : 0 ≤ v.toInt ∧ v.toInt ≤ 39) : 0 ≤ v.toInt ∧ v.toInt < ((40 : Nat) : Int) := by have r_v := rngI v; omega
set_option maxHeartbeats 4000000 in
set_option maxRecDepth 100000 in
theorem c_X11_away (l : Launch) (G : va_G) (cy : Nat → ClassId) (ad : rf → Nat) (d : Nat) (v : Int32) (Mz : mM) (hIz : Inv Mz) : WP CC l G cy ad yX11_away cX11_away 2 (some .int) (d + 3) 0 [(0, vR (11, 0, 0)), (1, vI v)] [] Mz (fun r M' => Inv M' ∧ FR (S_c_X11_away) Mz M' ∧ (True) ∧ SP_X11_away v Mz r M') := by
  have hFz : FR (S_c_X11_away) Mz Mz := FR.self
  refine w_aload_n dX11_away_0 rfl 0 rfl ?_
  refine w_getR (c' := (10, 0, 0)) fl_RX11_10 rfl rfl ic_11 dX11_away_1 rfl ?_
  refine w_getR (c' := (7, 0, 0)) fl_RX11_71 rfl rfl (ic_10 (by decide)) dX11_away_4 rfl ?_
  refine w_iload_n dX11_away_7 rfl 1 rfl ?_
  refine w_callV (as := [vI v]) (rest := []) (c_X7_hasThing l G cy ad (d + 2) 0 v Mz hIz (by first | decide | (unfold vF; omega) | (unfold vRw; omega))) kV_X7_hasThing (by decide +kernel) (Nat.le_of_ble_eq_true rfl) m_526 rfl rfl rfl (ic_7 (by decide)) rfl rfl (by decide) (Nat.le_of_ble_eq_true rfl) dX11_away_8 (fun r1_ M2_ q3_ => ?_)
  obtain ⟨rfl, h4_, hs5_⟩ := q3_
  rcases h4_ with ⟨rfl, h4_⟩ | rfl
  · refine w_if_ne (tgt := 20) dX11_away_11 (by decide) li_1 (fun h6_ => ?_) (fun h9 => (absurd h9 (by decide)))
    refine w_aload_n dX11_away_20 rfl 0 rfl ?_
    refine w_getR (c' := (10, 0, 0)) fl_RX11_10 rfl rfl ic_11 dX11_away_21 rfl ?_
    refine w_getR (c' := (7, 0, 0)) fl_RX11_71 rfl rfl (ic_10 (by decide)) dX11_away_24 rfl ?_
    refine w_getR (c' := (37, 0, 0)) fl_RX11_102 rfl rfl (ic_7 (by decide)) dX11_away_27 rfl ?_
    refine w_iload_n dX11_away_30 rfl 1 rfl ?_
    refine w_iald rfl rfl (ic_37 (by decide)) (rfl : v.toInt = v.toInt) (lf_c_X11_away_0 v h4_) dX11_away_31 (fun j9_ h10_ z7_ e8_ => ?_)
    refine w_if_ge (tgt := 41) dX11_away_32 (by decide) (rfl : z7_.toInt = z7_.toInt) (fun h11_ => ?_) (fun h11_ => ?_)
    · refine w_aload_n dX11_away_41 rfl 0 rfl ?_
      refine w_getR (c' := (10, 0, 0)) fl_RX11_10 rfl rfl ic_11 dX11_away_42 rfl ?_
      refine w_getR (c' := (7, 0, 0)) fl_RX11_71 rfl rfl (ic_10 (by decide)) dX11_away_45 rfl ?_
      refine w_iload_n dX11_away_48 rfl 1 rfl ?_
      refine w_callV (as := [vI v]) (rest := []) (c_X7_takeAway l G cy ad d 0 v Mz hIz (by first | decide | (unfold vF; omega) | (unfold vRw; omega))) kV_X7_takeAway (by decide +kernel) (Nat.le_of_ble_eq_true rfl) m_546 rfl rfl rfl (ic_7 (by decide)) rfl rfl (by decide) (Nat.le_of_ble_eq_true rfl) dX11_away_49 (fun r12_ M13_ q14_ => ?_)
      obtain ⟨hI16_, hF17_, h15_, hs19_⟩ := q14_
      have hF18_ := hFz.tr hF17_ (fun c k => (fun h => h.elim (fun h => (Or.inl ⟨h.1, h.2⟩)) (fun h => h.elim (fun h => (Or.inr (Or.inl ⟨h.1, h.2⟩))) (fun h => h.elim))))
      exact w_iret rfl dX11_away_52 ⟨hI16_, hF18_, trivial, (Or.inl ⟨hs5_, h4_, j9_, h10_, z7_, e8_, (Or.inl ⟨h11_, M13_, hI16_, hF17_, r12_, hs19_, rfl, rfl⟩)⟩)⟩
    · refine w_aload_n dX11_away_35 rfl 0 rfl ?_
      refine w_iconst (v := 3) dX11_away_36 (by decide) ?_
      refine w_callV (as := [vI 3]) (rest := []) (c_X11_error l G cy ad (d + 2) 3 Mz hIz) kV_X11_error (by decide +kernel) (Nat.le_of_ble_eq_true rfl) m_500 rfl rfl rfl ic_11 rfl rfl (by decide) (Nat.le_of_ble_eq_true rfl) dX11_away_37 (fun r20_ M21_ q22_ => ?_)
      obtain ⟨hI24_, hF25_, h23_, hs27_⟩ := q22_
      have hF26_ := hFz.tr hF25_ (fun c k => (fun h => h.elim (fun h => (Or.inr (Or.inr (Or.inl ⟨h.1, h.2⟩)))) (fun h => h.elim)))
      exact w_iret rfl dX11_away_40 ⟨hI24_, hF26_, trivial, (Or.inl ⟨hs5_, h4_, j9_, h10_, z7_, e8_, (Or.inr ⟨h11_, M21_, hI24_, hF25_, r20_, hs27_, rfl, rfl⟩)⟩)⟩
  · refine w_if_ne (tgt := 20) dX11_away_11 (by decide) li_0 (fun h9 => (absurd h9 (by decide))) (fun h28_ => ?_)
    refine w_aload_n dX11_away_14 rfl 0 rfl ?_
    refine w_iconst (v := 1) dX11_away_15 (by decide) ?_
    refine w_callV (as := [vI 1]) (rest := []) (c_X11_error l G cy ad (d + 2) 1 Mz hIz) kV_X11_error (by decide +kernel) (Nat.le_of_ble_eq_true rfl) m_500 rfl rfl rfl ic_11 rfl rfl (by decide) (Nat.le_of_ble_eq_true rfl) dX11_away_16 (fun r29_ M30_ q31_ => ?_)
    obtain ⟨hI33_, hF34_, h32_, hs36_⟩ := q31_
    have hF35_ := hFz.tr hF34_ (fun c k => (fun h => h.elim (fun h => (Or.inr (Or.inr (Or.inl ⟨h.1, h.2⟩)))) (fun h => h.elim)))
    exact w_iret rfl dX11_away_19 ⟨hI33_, hF35_, trivial, (Or.inr ⟨hs5_, M30_, hI33_, hF34_, r29_, hs36_, rfl, rfl⟩)⟩
def S_c_X11_kind : rf → Nat → Prop := fun c k => (c.1 = 27 ∧ c.2.1 = 0) ∨ (c.1 = 26 ∧ c.2.1 = 0) ∨ (c.1 = 44 ∧ c.2.1 = 0) ∨ False
def SP_X11_kind (v : Int32) (u : Int32) (t : Int32) (Mz : mM) (r_ : Int32) (M_ : mM) : Prop := (((SP_X11_isThingKind v Mz (1 : Int32)) ∧ (0 ≤ v.toInt ∧ v.toInt ≤ 4) ∧ (((SP_X11_within u 0 1 Mz (1 : Int32)) ∧ (0 ≤ u.toInt ∧ u.toInt ≤ 1) ∧ (((¬ u.toInt = 0) ∧ (((SP_X11_within t 0 9 Mz (1 : Int32)) ∧ (0 ≤ t.toInt ∧ t.toInt ≤ 9) ∧ ∃ M21_ : mM, (Inv M21_) ∧ (FR (S_c_X2_changeKind 0) Mz M21_) ∧ ∃ r20_ : Int32, (SP_X2_changeKind 0 v u t Mz r20_ M21_) ∧ r_ = r20_ ∧ M_ = M21_) ∨ ((SP_X11_within t 0 9 Mz (0 : Int32)) ∧ (¬ (0 ≤ t.toInt ∧ t.toInt ≤ 9)) ∧ ∃ M30_ : mM, (Inv M30_) ∧ (FR (S_c_X11_error) Mz M30_) ∧ ∃ r29_ : Int32, (SP_X11_error 1 Mz r29_ M30_) ∧ r_ = r29_ ∧ M_ = M30_))) ∨ ((u.toInt = 0) ∧ (((SP_X11_within t 0 99 Mz (1 : Int32)) ∧ (0 ≤ t.toInt ∧ t.toInt ≤ 99) ∧ ∃ M44_ : mM, (Inv M44_) ∧ (FR (S_c_X2_changeKind 0) Mz M44_) ∧ ∃ r43_ : Int32, (SP_X2_changeKind 0 v u t Mz r43_ M44_) ∧ r_ = r43_ ∧ M_ = M44_) ∨ ((SP_X11_within t 0 99 Mz (0 : Int32)) ∧ (¬ (0 ≤ t.toInt ∧ t.toInt ≤ 99)) ∧ ∃ M53_ : mM, (Inv M53_) ∧ (FR (S_c_X11_error) Mz M53_) ∧ ∃ r52_ : Int32, (SP_X11_error 1 Mz r52_ M53_) ∧ r_ = r52_ ∧ M_ = M53_))))) ∨ ((SP_X11_within u 0 1 Mz (0 : Int32)) ∧ (¬ (0 ≤ u.toInt ∧ u.toInt ≤ 1)) ∧ ∃ M62_ : mM, (Inv M62_) ∧ (FR (S_c_X11_error) Mz M62_) ∧ ∃ r61_ : Int32, (SP_X11_error 1 Mz r61_ M62_) ∧ r_ = r61_ ∧ M_ = M62_))) ∨ ((SP_X11_isThingKind v Mz (0 : Int32)) ∧ (¬ (0 ≤ v.toInt ∧ v.toInt ≤ 4)) ∧ ∃ M71_ : mM, (Inv M71_) ∧ (FR (S_c_X11_error) Mz M71_) ∧ ∃ r70_ : Int32, (SP_X11_error 1 Mz r70_ M71_) ∧ r_ = r70_ ∧ M_ = M71_))
set_option maxHeartbeats 4000000 in
set_option maxRecDepth 100000 in
theorem c_X11_kind (l : Launch) (G : va_G) (cy : Nat → ClassId) (ad : rf → Nat) (d : Nat) (v : Int32) (u : Int32) (t : Int32) (Mz : mM) (hIz : Inv Mz) : WP CC l G cy ad yX11_kind cX11_kind 4 (some .int) (d + 2) 0 [(0, vR (11, 0, 0)), (1, vI v), (2, vI u), (3, vI t)] [] Mz (fun r M' => Inv M' ∧ FR (S_c_X11_kind) Mz M' ∧ (True) ∧ SP_X11_kind v u t Mz r M') := by
  have hFz : FR (S_c_X11_kind) Mz Mz := FR.self
  refine w_iload_n dX11_kind_0 rfl 1 rfl ?_
  refine w_callS (as := [vI v]) (rest := []) (c_X11_isThingKind l G cy ad d v Mz hIz) kS_X11_isThingKind (by decide +kernel) (Nat.le_of_ble_eq_true rfl) m_491 rfl rfl (by decide) (Nat.le_of_ble_eq_true rfl) dX11_kind_1 (fun r1_ M2_ q3_ => ?_)
  obtain ⟨rfl, h4_, hs5_⟩ := q3_
  rcases h4_ with ⟨rfl, h4_⟩ | ⟨rfl, h4_⟩
  · refine w_if_eq (tgt := 35) dX11_kind_4 (by decide) li_1 (fun h9 => (absurd h9 (by decide))) (fun h6_ => ?_)
    refine w_iload_n dX11_kind_7 rfl 2 rfl ?_
    refine w_iconst (v := 0) dX11_kind_8 (by decide) ?_
    refine w_iconst (v := 1) dX11_kind_9 (by decide) ?_
    refine w_callS (as := [vI u, vI 0, vI 1]) (rest := []) (c_X11_within l G cy ad (d + 1) u 0 1 Mz hIz) kS_X11_within (by decide +kernel) (Nat.le_of_ble_eq_true rfl) m_494 rfl rfl (by decide) (Nat.le_of_ble_eq_true rfl) dX11_kind_10 (fun r7_ M8_ q9_ => ?_)
    obtain ⟨rfl, h10_, hs11_⟩ := q9_
    rcases h10_ with ⟨rfl, h10_⟩ | ⟨rfl, h10_⟩
    · simp only [li_0, li_1] at h10_
      refine w_if_eq (tgt := 35) dX11_kind_13 (by decide) li_1 (fun h9 => (absurd h9 (by decide))) (fun h12_ => ?_)
      refine w_iload_n dX11_kind_16 rfl 3 rfl ?_
      refine w_iconst (v := 0) dX11_kind_17 (by decide) ?_
      refine w_iload_n dX11_kind_18 rfl 2 rfl ?_
      refine w_if_ne (tgt := 27) dX11_kind_19 (by decide) (rfl : u.toInt = u.toInt) (fun h13_ => ?_) (fun h13_ => ?_)
      · refine w_bipush (v := 9) dX11_kind_27 (by decide) ?_
        refine w_callS (as := [vI t, vI 0, vI 9]) (rest := []) (c_X11_within l G cy ad (d + 1) t 0 9 Mz hIz) kS_X11_within (by decide +kernel) (Nat.le_of_ble_eq_true rfl) m_494 rfl rfl (by decide) (Nat.le_of_ble_eq_true rfl) dX11_kind_29 (fun r14_ M15_ q16_ => ?_)
        obtain ⟨rfl, h17_, hs18_⟩ := q16_
        rcases h17_ with ⟨rfl, h17_⟩ | ⟨rfl, h17_⟩
        · simp only [li_0, li_9] at h17_
          refine w_if_ne (tgt := 41) dX11_kind_32 (by decide) li_1 (fun h19_ => ?_) (fun h9 => (absurd h9 (by decide)))
          refine w_aload_n dX11_kind_41 rfl 0 rfl ?_
          refine w_getR (c' := (10, 0, 0)) fl_RX11_10 rfl rfl ic_11 dX11_kind_42 rfl ?_
          refine w_getR (c' := (2, 0, 0)) fl_RX11_114 rfl rfl (ic_10 (by decide)) dX11_kind_45 rfl ?_
          refine w_iload_n dX11_kind_48 rfl 1 rfl ?_
          refine w_iload_n dX11_kind_49 rfl 2 rfl ?_
          refine w_iload_n dX11_kind_50 rfl 3 rfl ?_
          refine w_callV (as := [vI v, vI u, vI t]) (rest := []) (c_X2_changeKind l G cy ad (d + 1) 0 v u t Mz hIz (by first | decide | (unfold vF; omega) | (unfold vRw; omega))) kV_X2_changeKind (by decide +kernel) (Nat.le_of_ble_eq_true rfl) m_554 rfl rfl rfl (ic_2 (by decide)) rfl rfl (by decide) (Nat.le_of_ble_eq_true rfl) dX11_kind_51 (fun r20_ M21_ q22_ => ?_)
          obtain ⟨hI24_, hF25_, h23_, hs27_⟩ := q22_
          have hF26_ := hFz.tr hF25_ (fun c k => (fun h => h.elim (fun h => (Or.inl ⟨h.1, h.2⟩)) (fun h => h.elim (fun h => (Or.inr (Or.inl ⟨h.1, h.2⟩))) (fun h => h.elim))))
          exact w_iret rfl dX11_kind_54 ⟨hI24_, hF26_, trivial, (Or.inl ⟨hs5_, h4_, (Or.inl ⟨hs11_, h10_, (Or.inl ⟨h13_, (Or.inl ⟨hs18_, h17_, M21_, hI24_, hF25_, r20_, hs27_, rfl, rfl⟩)⟩)⟩)⟩)⟩
        · simp only [li_0, li_9] at h17_
          refine w_if_ne (tgt := 41) dX11_kind_32 (by decide) li_0 (fun h9 => (absurd h9 (by decide))) (fun h28_ => ?_)
          refine w_aload_n dX11_kind_35 rfl 0 rfl ?_
          refine w_iconst (v := 1) dX11_kind_36 (by decide) ?_
          refine w_callV (as := [vI 1]) (rest := []) (c_X11_error l G cy ad (d + 1) 1 Mz hIz) kV_X11_error (by decide +kernel) (Nat.le_of_ble_eq_true rfl) m_500 rfl rfl rfl ic_11 rfl rfl (by decide) (Nat.le_of_ble_eq_true rfl) dX11_kind_37 (fun r29_ M30_ q31_ => ?_)
          obtain ⟨hI33_, hF34_, h32_, hs36_⟩ := q31_
          have hF35_ := hFz.tr hF34_ (fun c k => (fun h => h.elim (fun h => (Or.inr (Or.inr (Or.inl ⟨h.1, h.2⟩)))) (fun h => h.elim)))
          exact w_iret rfl dX11_kind_40 ⟨hI33_, hF35_, trivial, (Or.inl ⟨hs5_, h4_, (Or.inl ⟨hs11_, h10_, (Or.inl ⟨h13_, (Or.inr ⟨hs18_, h17_, M30_, hI33_, hF34_, r29_, hs36_, rfl, rfl⟩)⟩)⟩)⟩)⟩
      · refine w_bipush (v := 99) dX11_kind_22 (by decide) ?_
        refine w_goto (tgt := 29) dX11_kind_24 (by decide) ?_
        refine w_callS (as := [vI t, vI 0, vI 99]) (rest := []) (c_X11_within l G cy ad (d + 1) t 0 99 Mz hIz) kS_X11_within (by decide +kernel) (Nat.le_of_ble_eq_true rfl) m_494 rfl rfl (by decide) (Nat.le_of_ble_eq_true rfl) dX11_kind_29 (fun r37_ M38_ q39_ => ?_)
        obtain ⟨rfl, h40_, hs41_⟩ := q39_
        rcases h40_ with ⟨rfl, h40_⟩ | ⟨rfl, h40_⟩
        · simp only [li_0, li_99] at h40_
          refine w_if_ne (tgt := 41) dX11_kind_32 (by decide) li_1 (fun h42_ => ?_) (fun h9 => (absurd h9 (by decide)))
          refine w_aload_n dX11_kind_41 rfl 0 rfl ?_
          refine w_getR (c' := (10, 0, 0)) fl_RX11_10 rfl rfl ic_11 dX11_kind_42 rfl ?_
          refine w_getR (c' := (2, 0, 0)) fl_RX11_114 rfl rfl (ic_10 (by decide)) dX11_kind_45 rfl ?_
          refine w_iload_n dX11_kind_48 rfl 1 rfl ?_
          refine w_iload_n dX11_kind_49 rfl 2 rfl ?_
          refine w_iload_n dX11_kind_50 rfl 3 rfl ?_
          refine w_callV (as := [vI v, vI u, vI t]) (rest := []) (c_X2_changeKind l G cy ad (d + 1) 0 v u t Mz hIz (by first | decide | (unfold vF; omega) | (unfold vRw; omega))) kV_X2_changeKind (by decide +kernel) (Nat.le_of_ble_eq_true rfl) m_554 rfl rfl rfl (ic_2 (by decide)) rfl rfl (by decide) (Nat.le_of_ble_eq_true rfl) dX11_kind_51 (fun r43_ M44_ q45_ => ?_)
          obtain ⟨hI47_, hF48_, h46_, hs50_⟩ := q45_
          have hF49_ := hFz.tr hF48_ (fun c k => (fun h => h.elim (fun h => (Or.inl ⟨h.1, h.2⟩)) (fun h => h.elim (fun h => (Or.inr (Or.inl ⟨h.1, h.2⟩))) (fun h => h.elim))))
          exact w_iret rfl dX11_kind_54 ⟨hI47_, hF49_, trivial, (Or.inl ⟨hs5_, h4_, (Or.inl ⟨hs11_, h10_, (Or.inr ⟨h13_, (Or.inl ⟨hs41_, h40_, M44_, hI47_, hF48_, r43_, hs50_, rfl, rfl⟩)⟩)⟩)⟩)⟩
        · simp only [li_0, li_99] at h40_
          refine w_if_ne (tgt := 41) dX11_kind_32 (by decide) li_0 (fun h9 => (absurd h9 (by decide))) (fun h51_ => ?_)
          refine w_aload_n dX11_kind_35 rfl 0 rfl ?_
          refine w_iconst (v := 1) dX11_kind_36 (by decide) ?_
          refine w_callV (as := [vI 1]) (rest := []) (c_X11_error l G cy ad (d + 1) 1 Mz hIz) kV_X11_error (by decide +kernel) (Nat.le_of_ble_eq_true rfl) m_500 rfl rfl rfl ic_11 rfl rfl (by decide) (Nat.le_of_ble_eq_true rfl) dX11_kind_37 (fun r52_ M53_ q54_ => ?_)
          obtain ⟨hI56_, hF57_, h55_, hs59_⟩ := q54_
          have hF58_ := hFz.tr hF57_ (fun c k => (fun h => h.elim (fun h => (Or.inr (Or.inr (Or.inl ⟨h.1, h.2⟩)))) (fun h => h.elim)))
          exact w_iret rfl dX11_kind_40 ⟨hI56_, hF58_, trivial, (Or.inl ⟨hs5_, h4_, (Or.inl ⟨hs11_, h10_, (Or.inr ⟨h13_, (Or.inr ⟨hs41_, h40_, M53_, hI56_, hF57_, r52_, hs59_, rfl, rfl⟩)⟩)⟩)⟩)⟩
    · simp only [li_0, li_1] at h10_
      refine w_if_eq (tgt := 35) dX11_kind_13 (by decide) li_0 (fun h60_ => ?_) (fun h9 => (absurd h9 (by decide)))
      refine w_aload_n dX11_kind_35 rfl 0 rfl ?_
      refine w_iconst (v := 1) dX11_kind_36 (by decide) ?_
      refine w_callV (as := [vI 1]) (rest := []) (c_X11_error l G cy ad (d + 1) 1 Mz hIz) kV_X11_error (by decide +kernel) (Nat.le_of_ble_eq_true rfl) m_500 rfl rfl rfl ic_11 rfl rfl (by decide) (Nat.le_of_ble_eq_true rfl) dX11_kind_37 (fun r61_ M62_ q63_ => ?_)
      obtain ⟨hI65_, hF66_, h64_, hs68_⟩ := q63_
      have hF67_ := hFz.tr hF66_ (fun c k => (fun h => h.elim (fun h => (Or.inr (Or.inr (Or.inl ⟨h.1, h.2⟩)))) (fun h => h.elim)))
      exact w_iret rfl dX11_kind_40 ⟨hI65_, hF67_, trivial, (Or.inl ⟨hs5_, h4_, (Or.inr ⟨hs11_, h10_, M62_, hI65_, hF66_, r61_, hs68_, rfl, rfl⟩)⟩)⟩
  · refine w_if_eq (tgt := 35) dX11_kind_4 (by decide) li_0 (fun h69_ => ?_) (fun h9 => (absurd h9 (by decide)))
    refine w_aload_n dX11_kind_35 rfl 0 rfl ?_
    refine w_iconst (v := 1) dX11_kind_36 (by decide) ?_
    refine w_callV (as := [vI 1]) (rest := []) (c_X11_error l G cy ad (d + 1) 1 Mz hIz) kV_X11_error (by decide +kernel) (Nat.le_of_ble_eq_true rfl) m_500 rfl rfl rfl ic_11 rfl rfl (by decide) (Nat.le_of_ble_eq_true rfl) dX11_kind_37 (fun r70_ M71_ q72_ => ?_)
    obtain ⟨hI74_, hF75_, h73_, hs77_⟩ := q72_
    have hF76_ := hFz.tr hF75_ (fun c k => (fun h => h.elim (fun h => (Or.inr (Or.inr (Or.inl ⟨h.1, h.2⟩)))) (fun h => h.elim)))
    exact w_iret rfl dX11_kind_40 ⟨hI74_, hF76_, trivial, (Or.inr ⟨hs5_, h4_, M71_, hI74_, hF75_, r70_, hs77_, rfl, rfl⟩)⟩
def S_c_X11_at : rf → Nat → Prop := fun c k => (c.1 = 44 ∧ c.2.1 = 0) ∨ False
def SP_X11_at (v : Int32) (Mz : mM) (r_ : Int32) (M_ : mM) : Prop := (((SP_X7_isCell v Mz (1 : Int32)) ∧ (0 ≤ v.toInt ∧ v.toInt ≤ 191) ∧ ∃ j9_ : Nat, ((j9_ : Int) = v.toInt) ∧ ∃ z7_ : Int32, (z7_ = Mz.1 (35, 0, 0) j9_) ∧ r_ = z7_ ∧ M_ = Mz) ∨ ((SP_X7_isCell v Mz (0 : Int32)) ∧ (¬ (0 ≤ v.toInt ∧ v.toInt ≤ 191)) ∧ ∃ M13_ : mM, (Inv M13_) ∧ (FR (S_c_X11_error) Mz M13_) ∧ ∃ r12_ : Int32, (SP_X11_error 1 Mz r12_ M13_) ∧ r_ = r12_ ∧ M_ = M13_))
theorem lf_c_X11_at_0  (v : Int32) (h4_ : 0 ≤ v.toInt ∧ v.toInt ≤ 191) : 0 ≤ v.toInt ∧ v.toInt < ((192 : Nat) : Int) := by have r_v := rngI v; omega
set_option maxHeartbeats 4000000 in
set_option maxRecDepth 100000 in
theorem c_X11_at (l : Launch) (G : va_G) (cy : Nat → ClassId) (ad : rf → Nat) (d : Nat) (v : Int32) (Mz : mM) (hIz : Inv Mz) : WP CC l G cy ad yX11_at cX11_at 2 (some .int) (d + 1) 0 [(0, vR (11, 0, 0)), (1, vI v)] [] Mz (fun r M' => Inv M' ∧ FR (S_c_X11_at) Mz M' ∧ (True) ∧ SP_X11_at v Mz r M') := by
  have hFz : FR (S_c_X11_at) Mz Mz := FR.self
  refine w_iload_n dX11_at_0 rfl 1 rfl ?_
  refine w_callS (as := [vI v]) (rest := []) (c_X7_isCell l G cy ad d v Mz hIz) kS_X7_isCell (by decide +kernel) (Nat.le_of_ble_eq_true rfl) m_497 rfl rfl (by decide) (Nat.le_of_ble_eq_true rfl) dX11_at_1 (fun r1_ M2_ q3_ => ?_)
  obtain ⟨rfl, h4_, hs5_⟩ := q3_
  rcases h4_ with ⟨rfl, h4_⟩ | ⟨rfl, h4_⟩
  · refine w_if_ne (tgt := 13) dX11_at_4 (by decide) li_1 (fun h6_ => ?_) (fun h9 => (absurd h9 (by decide)))
    refine w_aload_n dX11_at_13 rfl 0 rfl ?_
    refine w_getR (c' := (10, 0, 0)) fl_RX11_10 rfl rfl ic_11 dX11_at_14 rfl ?_
    refine w_getR (c' := (7, 0, 0)) fl_RX11_71 rfl rfl (ic_10 (by decide)) dX11_at_17 rfl ?_
    refine w_getR (c' := (35, 0, 0)) fl_RX11_124 rfl rfl (ic_7 (by decide)) dX11_at_20 rfl ?_
    refine w_iload_n dX11_at_23 rfl 1 rfl ?_
    refine w_iald rfl rfl (ic_35 (by decide)) (rfl : v.toInt = v.toInt) (lf_c_X11_at_0 v h4_) dX11_at_24 (fun j9_ h10_ z7_ e8_ => ?_)
    exact w_iret rfl dX11_at_25 ⟨hIz, hFz, trivial, (Or.inl ⟨hs5_, h4_, j9_, h10_, z7_, e8_, rfl, rfl⟩)⟩
  · refine w_if_ne (tgt := 13) dX11_at_4 (by decide) li_0 (fun h9 => (absurd h9 (by decide))) (fun h11_ => ?_)
    refine w_aload_n dX11_at_7 rfl 0 rfl ?_
    refine w_iconst (v := 1) dX11_at_8 (by decide) ?_
    refine w_callV (as := [vI 1]) (rest := []) (c_X11_error l G cy ad d 1 Mz hIz) kV_X11_error (by decide +kernel) (Nat.le_of_ble_eq_true rfl) m_500 rfl rfl rfl ic_11 rfl rfl (by decide) (Nat.le_of_ble_eq_true rfl) dX11_at_9 (fun r12_ M13_ q14_ => ?_)
    obtain ⟨hI16_, hF17_, h15_, hs19_⟩ := q14_
    have hF18_ := hFz.tr hF17_ (fun c k => (fun h => h.elim (fun h => (Or.inl ⟨h.1, h.2⟩)) (fun h => h.elim)))
    exact w_iret rfl dX11_at_12 ⟨hI16_, hF18_, trivial, (Or.inr ⟨hs5_, h4_, M13_, hI16_, hF17_, r12_, hs19_, rfl, rfl⟩)⟩
def S_c_X11_lays : rf → Nat → Prop := fun c k => (c.1 = 36 ∧ c.2.1 = 0) ∨ (c.1 = 37 ∧ c.2.1 = 0) ∨ (c.1 = 38 ∧ c.2.1 = 0) ∨ (c.1 = 39 ∧ c.2.1 = 0) ∨ (c.1 = 35 ∧ c.2.1 = 0) ∨ (c.1 = 7 ∧ c.2.1 = 0 ∧ k = 5) ∨ (c.1 = 44 ∧ c.2.1 = 0) ∨ False
def ST_X11_lays_79 (u : Int32) (Mz : mM) (j13_ : Nat) (v5_79 : Int32) (v4_79 : Int32) (M_79 : mM) (v5_79y : Int32) (v4_79y : Int32) (M_79y : mM) : Prop := (0 ≤ v5_79.toInt) ∧ (Inv M_79) ∧ (FR (S_c_X11_lays) Mz M_79) ∧ ∃ z30_ : Int32, (z30_ = M_79.1 (6, 0, j13_) 1) ∧ (0 ≤ z30_.toInt ∧ z30_.toInt ≤ 24) ∧ (v5_79.toInt < z30_.toInt) ∧ ∃ r34_ : Int32, (SP_X6_numberAt j13_ v5_79 M_79 r34_) ∧ ∃ z39_ : Int32, (z39_ = r34_ - (1 : Int32)) ∧ ∃ z41_ : Int32, (z41_.toInt = 16 * u.toInt) ∧ ∃ z43_ : Int32, (z43_.toInt = z41_.toInt + v5_79.toInt) ∧ (((SP_X11_isThingKind z39_ M_79 (1 : Int32)) ∧ (0 ≤ z39_.toInt ∧ z39_.toInt ≤ 4) ∧ (((SP_X7_isFree 0 z43_ M_79 (1 : Int32)) ∧ (0 ≤ z43_.toInt ∧ z43_.toInt ≤ 191) ∧ ∃ r57_ : Int32, (SP_X7_hasRoom 0 M_79 r57_) ∧ ((0 ≤ r57_.toInt ∧ r57_.toInt ≤ 1)) ∧ (((r57_.toInt = 0) ∧ ∃ z63_ : Int32, (z63_.toInt = v5_79.toInt + 1) ∧ v5_79y = z63_ ∧ v4_79y = v4_79 ∧ M_79y = M_79) ∨ ((¬ r57_.toInt = 0) ∧ ∃ M66_ : mM, (Inv M66_) ∧ (FR (S_c_X7_addThing 0) M_79 M66_) ∧ ∃ r65_ : Int32, (SP_X7_addThing 0 z39_ z43_ M_79 r65_ M66_) ∧ ∃ z73_ : Int32, (z73_ = v4_79 + Int32.ofInt 1) ∧ ∃ z75_ : Int32, (z75_.toInt = v5_79.toInt + 1) ∧ v5_79y = z75_ ∧ v4_79y = z73_ ∧ M_79y = M66_))) ∨ ((SP_X7_isFree 0 z43_ M_79 (0 : Int32)) ∧ ∃ z78_ : Int32, (z78_.toInt = v5_79.toInt + 1) ∧ v5_79y = z78_ ∧ v4_79y = v4_79 ∧ M_79y = M_79))) ∨ ((SP_X11_isThingKind z39_ M_79 (0 : Int32)) ∧ (¬ (0 ≤ z39_.toInt ∧ z39_.toInt ≤ 4)) ∧ ∃ z81_ : Int32, (z81_.toInt = v5_79.toInt + 1) ∧ v5_79y = z81_ ∧ v4_79y = v4_79 ∧ M_79y = M_79))
def SP_X11_lays (v : Int32) (u : Int32) (Mz : mM) (r_ : Int32) (M_ : mM) : Prop := (((SP_X11_isSheet v Mz (1 : Int32)) ∧ (0 ≤ v.toInt ∧ v.toInt ≤ 3) ∧ (((SP_X11_within u 0 11 Mz (1 : Int32)) ∧ (0 ≤ u.toInt ∧ u.toInt ≤ 11) ∧ ∃ j13_ : Nat, ((j13_ : Int) = v.toInt) ∧ (j13_ < 4) ∧ ∃ r16_ : Int32, (SP_X6_isMissing j13_ Mz r16_) ∧ ((0 ≤ r16_.toInt ∧ r16_.toInt ≤ 1)) ∧ (((r16_.toInt = 0) ∧ ∃ z22_ : Int32, (z22_ = Mz.1 (6, 0, j13_) 0) ∧ (((z22_.toInt = 8) ∧ ∃ z25_ : Int32, (z25_ = Mz.1 (6, 0, j13_) 1) ∧ (0 ≤ z25_.toInt ∧ z25_.toInt ≤ 24) ∧ (((z25_.toInt ≤ 16) ∧ ∃ v5_79 : Int32, (0 ≤ v5_79.toInt) ∧ ∃ v4_79 : Int32, ∃ M_79 : mM, (RCH (fun x_ y_ => ST_X11_lays_79 u Mz j13_ x_.1 x_.2.1 x_.2.2 y_.1 y_.2.1 y_.2.2) ((0 : Int32), (0 : Int32), Mz) (v5_79, v4_79, M_79)) ∧ (Inv M_79) ∧ (FR (S_c_X11_lays) Mz M_79) ∧ ∃ z30_ : Int32, (z30_ = M_79.1 (6, 0, j13_) 1) ∧ (0 ≤ z30_.toInt ∧ z30_.toInt ≤ 24) ∧ (z30_.toInt ≤ v5_79.toInt) ∧ r_ = v4_79 ∧ M_ = M_79) ∨ ((16 < z25_.toInt) ∧ ∃ M84_ : mM, (Inv M84_) ∧ (FR (S_c_X11_error) Mz M84_) ∧ ∃ r83_ : Int32, (SP_X11_error 3 Mz r83_ M84_) ∧ r_ = r83_ ∧ M_ = M84_))) ∨ ((¬ z22_.toInt = 8) ∧ ∃ M92_ : mM, (Inv M92_) ∧ (FR (S_c_X11_error) Mz M92_) ∧ ∃ r91_ : Int32, (SP_X11_error 5 Mz r91_ M92_) ∧ r_ = r91_ ∧ M_ = M92_))) ∨ ((¬ r16_.toInt = 0) ∧ ∃ M100_ : mM, (Inv M100_) ∧ (FR (S_c_X11_error) Mz M100_) ∧ ∃ r99_ : Int32, (SP_X11_error 2 Mz r99_ M100_) ∧ r_ = r99_ ∧ M_ = M100_))) ∨ ((SP_X11_within u 0 11 Mz (0 : Int32)) ∧ (¬ (0 ≤ u.toInt ∧ u.toInt ≤ 11)) ∧ ∃ M109_ : mM, (Inv M109_) ∧ (FR (S_c_X11_error) Mz M109_) ∧ ∃ r108_ : Int32, (SP_X11_error 1 Mz r108_ M109_) ∧ r_ = r108_ ∧ M_ = M109_))) ∨ ((SP_X11_isSheet v Mz (0 : Int32)) ∧ (¬ (0 ≤ v.toInt ∧ v.toInt ≤ 3)) ∧ ∃ M118_ : mM, (Inv M118_) ∧ (FR (S_c_X11_error) Mz M118_) ∧ ∃ r117_ : Int32, (SP_X11_error 1 Mz r117_ M118_) ∧ r_ = r117_ ∧ M_ = M118_))
theorem lf_c_X11_lays_0  (v : Int32) (h4_ : 0 ≤ v.toInt ∧ v.toInt ≤ 3) : 0 ≤ v.toInt ∧ v.toInt < ((4 : Nat) : Int) := by have r_v := rngI v; omega
theorem lf_c_X11_lays_1  (u : Int32) (h10_ : 0 ≤ u.toInt ∧ u.toInt ≤ 11) : -2147483648 ≤ 16 * u.toInt ∧ 16 * u.toInt < 2147483648 := by have r_u := rngI u; omega
theorem lf_c_X11_lays_2 (M_79 : mM) (Mz : mM) (v : Int32) (u : Int32) (j13_ : Nat) (z22_ : Int32) (z25_ : Int32) (v5_79 : Int32) (z30_ : Int32) (z41_ : Int32) (h4_ : 0 ≤ v.toInt ∧ v.toInt ≤ 3) (h10_ : 0 ≤ u.toInt ∧ u.toInt ≤ 11) (h14_ : (j13_ : Int) = v.toInt) (h15_ : j13_ < 4) (e23_ : z22_ = Mz.1 (6, 0, j13_) 0) (h24_ : z22_.toInt = 8) (e26_ : z25_ = Mz.1 (6, 0, j13_) 1) (h27_ : 0 ≤ z25_.toInt ∧ z25_.toInt ≤ 24) (h28_ : z25_.toInt ≤ 16) (hv0_79 : 0 ≤ v5_79.toInt) (e31_ : z30_ = M_79.1 (6, 0, j13_) 1) (h32_ : 0 ≤ z30_.toInt ∧ z30_.toInt ≤ 24) (h33_ : v5_79.toInt < z30_.toInt) (h42_ : z41_.toInt = 16 * u.toInt) : -2147483648 ≤ z41_.toInt + v5_79.toInt ∧ z41_.toInt + v5_79.toInt < 2147483648 := by have r_v := rngI v; have r_u := rngI u; have r_z22_ := rngI z22_; have r_z25_ := rngI z25_; have r_v5_79 := rngI v5_79; have r_z30_ := rngI z30_; have r_z41_ := rngI z41_; subst e23_; subst e26_; subst e31_; omega
theorem lf_c_X11_lays_3 (M_79 : mM) (Mz : mM) (v : Int32) (u : Int32) (j13_ : Nat) (z22_ : Int32) (z25_ : Int32) (v5_79 : Int32) (z30_ : Int32) (z41_ : Int32) (z43_ : Int32) (h4_ : 0 ≤ v.toInt ∧ v.toInt ≤ 3) (h10_ : 0 ≤ u.toInt ∧ u.toInt ≤ 11) (h14_ : (j13_ : Int) = v.toInt) (h15_ : j13_ < 4) (e23_ : z22_ = Mz.1 (6, 0, j13_) 0) (h24_ : z22_.toInt = 8) (e26_ : z25_ = Mz.1 (6, 0, j13_) 1) (h27_ : 0 ≤ z25_.toInt ∧ z25_.toInt ≤ 24) (h28_ : z25_.toInt ≤ 16) (hv0_79 : 0 ≤ v5_79.toInt) (e31_ : z30_ = M_79.1 (6, 0, j13_) 1) (h32_ : 0 ≤ z30_.toInt ∧ z30_.toInt ≤ 24) (h33_ : v5_79.toInt < z30_.toInt) (h42_ : z41_.toInt = 16 * u.toInt) (h44_ : z43_.toInt = z41_.toInt + v5_79.toInt) (h54_ : 0 ≤ z43_.toInt ∧ z43_.toInt ≤ 191) : -2147483648 ≤ v5_79.toInt + 1 ∧ v5_79.toInt + 1 < 2147483648 := by have r_v := rngI v; have r_u := rngI u; have r_z22_ := rngI z22_; have r_z25_ := rngI z25_; have r_v5_79 := rngI v5_79; have r_z30_ := rngI z30_; have r_z41_ := rngI z41_; have r_z43_ := rngI z43_; subst e23_; subst e26_; subst e31_; omega
theorem lf_c_X11_lays_4 (M_79 : mM) (Mz : mM) (v : Int32) (u : Int32) (j13_ : Nat) (z22_ : Int32) (z25_ : Int32) (v5_79 : Int32) (z30_ : Int32) (z41_ : Int32) (z43_ : Int32) (z63_ : Int32) (h4_ : 0 ≤ v.toInt ∧ v.toInt ≤ 3) (h10_ : 0 ≤ u.toInt ∧ u.toInt ≤ 11) (h14_ : (j13_ : Int) = v.toInt) (h15_ : j13_ < 4) (e23_ : z22_ = Mz.1 (6, 0, j13_) 0) (h24_ : z22_.toInt = 8) (e26_ : z25_ = Mz.1 (6, 0, j13_) 1) (h27_ : 0 ≤ z25_.toInt ∧ z25_.toInt ≤ 24) (h28_ : z25_.toInt ≤ 16) (hv0_79 : 0 ≤ v5_79.toInt) (e31_ : z30_ = M_79.1 (6, 0, j13_) 1) (h32_ : 0 ≤ z30_.toInt ∧ z30_.toInt ≤ 24) (h33_ : v5_79.toInt < z30_.toInt) (h42_ : z41_.toInt = 16 * u.toInt) (h44_ : z43_.toInt = z41_.toInt + v5_79.toInt) (h54_ : 0 ≤ z43_.toInt ∧ z43_.toInt ≤ 191) (h64_ : z63_.toInt = v5_79.toInt + 1) : 0 ≤ z63_.toInt := by have r_v := rngI v; have r_u := rngI u; have r_z22_ := rngI z22_; have r_z25_ := rngI z25_; have r_v5_79 := rngI v5_79; have r_z30_ := rngI z30_; have r_z41_ := rngI z41_; have r_z43_ := rngI z43_; have r_z63_ := rngI z63_; omega
theorem lf_c_X11_lays_5 (M_79 : mM) (Mz : mM) (v : Int32) (u : Int32) (j13_ : Nat) (z22_ : Int32) (z25_ : Int32) (v5_79 : Int32) (z30_ : Int32) (z41_ : Int32) (z43_ : Int32) (z63_ : Int32) (h4_ : 0 ≤ v.toInt ∧ v.toInt ≤ 3) (h10_ : 0 ≤ u.toInt ∧ u.toInt ≤ 11) (h14_ : (j13_ : Int) = v.toInt) (h15_ : j13_ < 4) (e23_ : z22_ = Mz.1 (6, 0, j13_) 0) (h24_ : z22_.toInt = 8) (e26_ : z25_ = Mz.1 (6, 0, j13_) 1) (h27_ : 0 ≤ z25_.toInt ∧ z25_.toInt ≤ 24) (h28_ : z25_.toInt ≤ 16) (hv0_79 : 0 ≤ v5_79.toInt) (e31_ : z30_ = M_79.1 (6, 0, j13_) 1) (h32_ : 0 ≤ z30_.toInt ∧ z30_.toInt ≤ 24) (h33_ : v5_79.toInt < z30_.toInt) (h42_ : z41_.toInt = 16 * u.toInt) (h44_ : z43_.toInt = z41_.toInt + v5_79.toInt) (h54_ : 0 ≤ z43_.toInt ∧ z43_.toInt ≤ 191) (h64_ : z63_.toInt = v5_79.toInt + 1) : (2147483648 - z63_.toInt).toNat < (2147483648 - v5_79.toInt).toNat := by have r_v := rngI v; have r_u := rngI u; have r_z22_ := rngI z22_; have r_z25_ := rngI z25_; have r_v5_79 := rngI v5_79; have r_z30_ := rngI z30_; have r_z41_ := rngI z41_; have r_z43_ := rngI z43_; have r_z63_ := rngI z63_; omega
theorem lf_c_X11_lays_6 (M_79 : mM) (Mz : mM) (v : Int32) (u : Int32) (j13_ : Nat) (z22_ : Int32) (z25_ : Int32) (v5_79 : Int32) (z30_ : Int32) (z41_ : Int32) (z43_ : Int32) (h4_ : 0 ≤ v.toInt ∧ v.toInt ≤ 3) (h10_ : 0 ≤ u.toInt ∧ u.toInt ≤ 11) (h14_ : (j13_ : Int) = v.toInt) (h15_ : j13_ < 4) (e23_ : z22_ = Mz.1 (6, 0, j13_) 0) (h24_ : z22_.toInt = 8) (e26_ : z25_ = Mz.1 (6, 0, j13_) 1) (h27_ : 0 ≤ z25_.toInt ∧ z25_.toInt ≤ 24) (h28_ : z25_.toInt ≤ 16) (hv0_79 : 0 ≤ v5_79.toInt) (e31_ : z30_ = M_79.1 (6, 0, j13_) 1) (h32_ : 0 ≤ z30_.toInt ∧ z30_.toInt ≤ 24) (h33_ : v5_79.toInt < z30_.toInt) (h42_ : z41_.toInt = 16 * u.toInt) (h44_ : z43_.toInt = z41_.toInt + v5_79.toInt) (h54_ : 0 ≤ z43_.toInt ∧ z43_.toInt ≤ 191) : -2147483648 ≤ v5_79.toInt + 1 ∧ v5_79.toInt + 1 < 2147483648 := by have r_v := rngI v; have r_u := rngI u; have r_z22_ := rngI z22_; have r_z25_ := rngI z25_; have r_v5_79 := rngI v5_79; have r_z30_ := rngI z30_; have r_z41_ := rngI z41_; have r_z43_ := rngI z43_; subst e23_; subst e26_; subst e31_; omega
theorem lf_c_X11_lays_7 (M_79 : mM) (Mz : mM) (v : Int32) (u : Int32) (j13_ : Nat) (z22_ : Int32) (z25_ : Int32) (v5_79 : Int32) (z30_ : Int32) (z41_ : Int32) (z43_ : Int32) (z75_ : Int32) (h4_ : 0 ≤ v.toInt ∧ v.toInt ≤ 3) (h10_ : 0 ≤ u.toInt ∧ u.toInt ≤ 11) (h14_ : (j13_ : Int) = v.toInt) (h15_ : j13_ < 4) (e23_ : z22_ = Mz.1 (6, 0, j13_) 0) (h24_ : z22_.toInt = 8) (e26_ : z25_ = Mz.1 (6, 0, j13_) 1) (h27_ : 0 ≤ z25_.toInt ∧ z25_.toInt ≤ 24) (h28_ : z25_.toInt ≤ 16) (hv0_79 : 0 ≤ v5_79.toInt) (e31_ : z30_ = M_79.1 (6, 0, j13_) 1) (h32_ : 0 ≤ z30_.toInt ∧ z30_.toInt ≤ 24) (h33_ : v5_79.toInt < z30_.toInt) (h42_ : z41_.toInt = 16 * u.toInt) (h44_ : z43_.toInt = z41_.toInt + v5_79.toInt) (h54_ : 0 ≤ z43_.toInt ∧ z43_.toInt ≤ 191) (h76_ : z75_.toInt = v5_79.toInt + 1) : 0 ≤ z75_.toInt := by have r_v := rngI v; have r_u := rngI u; have r_z22_ := rngI z22_; have r_z25_ := rngI z25_; have r_v5_79 := rngI v5_79; have r_z30_ := rngI z30_; have r_z41_ := rngI z41_; have r_z43_ := rngI z43_; have r_z75_ := rngI z75_; omega
theorem lf_c_X11_lays_8 (M_79 : mM) (Mz : mM) (v : Int32) (u : Int32) (j13_ : Nat) (z22_ : Int32) (z25_ : Int32) (v5_79 : Int32) (z30_ : Int32) (z41_ : Int32) (z43_ : Int32) (z75_ : Int32) (h4_ : 0 ≤ v.toInt ∧ v.toInt ≤ 3) (h10_ : 0 ≤ u.toInt ∧ u.toInt ≤ 11) (h14_ : (j13_ : Int) = v.toInt) (h15_ : j13_ < 4) (e23_ : z22_ = Mz.1 (6, 0, j13_) 0) (h24_ : z22_.toInt = 8) (e26_ : z25_ = Mz.1 (6, 0, j13_) 1) (h27_ : 0 ≤ z25_.toInt ∧ z25_.toInt ≤ 24) (h28_ : z25_.toInt ≤ 16) (hv0_79 : 0 ≤ v5_79.toInt) (e31_ : z30_ = M_79.1 (6, 0, j13_) 1) (h32_ : 0 ≤ z30_.toInt ∧ z30_.toInt ≤ 24) (h33_ : v5_79.toInt < z30_.toInt) (h42_ : z41_.toInt = 16 * u.toInt) (h44_ : z43_.toInt = z41_.toInt + v5_79.toInt) (h54_ : 0 ≤ z43_.toInt ∧ z43_.toInt ≤ 191) (h76_ : z75_.toInt = v5_79.toInt + 1) : (2147483648 - z75_.toInt).toNat < (2147483648 - v5_79.toInt).toNat := by have r_v := rngI v; have r_u := rngI u; have r_z22_ := rngI z22_; have r_z25_ := rngI z25_; have r_v5_79 := rngI v5_79; have r_z30_ := rngI z30_; have r_z41_ := rngI z41_; have r_z43_ := rngI z43_; have r_z75_ := rngI z75_; omega
theorem lf_c_X11_lays_9 (M_79 : mM) (Mz : mM) (v : Int32) (u : Int32) (j13_ : Nat) (z22_ : Int32) (z25_ : Int32) (v5_79 : Int32) (z30_ : Int32) (z41_ : Int32) (z43_ : Int32) (h4_ : 0 ≤ v.toInt ∧ v.toInt ≤ 3) (h10_ : 0 ≤ u.toInt ∧ u.toInt ≤ 11) (h14_ : (j13_ : Int) = v.toInt) (h15_ : j13_ < 4) (e23_ : z22_ = Mz.1 (6, 0, j13_) 0) (h24_ : z22_.toInt = 8) (e26_ : z25_ = Mz.1 (6, 0, j13_) 1) (h27_ : 0 ≤ z25_.toInt ∧ z25_.toInt ≤ 24) (h28_ : z25_.toInt ≤ 16) (hv0_79 : 0 ≤ v5_79.toInt) (e31_ : z30_ = M_79.1 (6, 0, j13_) 1) (h32_ : 0 ≤ z30_.toInt ∧ z30_.toInt ≤ 24) (h33_ : v5_79.toInt < z30_.toInt) (h42_ : z41_.toInt = 16 * u.toInt) (h44_ : z43_.toInt = z41_.toInt + v5_79.toInt) : -2147483648 ≤ v5_79.toInt + 1 ∧ v5_79.toInt + 1 < 2147483648 := by have r_v := rngI v; have r_u := rngI u; have r_z22_ := rngI z22_; have r_z25_ := rngI z25_; have r_v5_79 := rngI v5_79; have r_z30_ := rngI z30_; have r_z41_ := rngI z41_; have r_z43_ := rngI z43_; subst e23_; subst e26_; subst e31_; omega
theorem lf_c_X11_lays_10 (M_79 : mM) (Mz : mM) (v : Int32) (u : Int32) (j13_ : Nat) (z22_ : Int32) (z25_ : Int32) (v5_79 : Int32) (z30_ : Int32) (z41_ : Int32) (z43_ : Int32) (z78_ : Int32) (h4_ : 0 ≤ v.toInt ∧ v.toInt ≤ 3) (h10_ : 0 ≤ u.toInt ∧ u.toInt ≤ 11) (h14_ : (j13_ : Int) = v.toInt) (h15_ : j13_ < 4) (e23_ : z22_ = Mz.1 (6, 0, j13_) 0) (h24_ : z22_.toInt = 8) (e26_ : z25_ = Mz.1 (6, 0, j13_) 1) (h27_ : 0 ≤ z25_.toInt ∧ z25_.toInt ≤ 24) (h28_ : z25_.toInt ≤ 16) (hv0_79 : 0 ≤ v5_79.toInt) (e31_ : z30_ = M_79.1 (6, 0, j13_) 1) (h32_ : 0 ≤ z30_.toInt ∧ z30_.toInt ≤ 24) (h33_ : v5_79.toInt < z30_.toInt) (h42_ : z41_.toInt = 16 * u.toInt) (h44_ : z43_.toInt = z41_.toInt + v5_79.toInt) (h79_ : z78_.toInt = v5_79.toInt + 1) : 0 ≤ z78_.toInt := by have r_v := rngI v; have r_u := rngI u; have r_z22_ := rngI z22_; have r_z25_ := rngI z25_; have r_v5_79 := rngI v5_79; have r_z30_ := rngI z30_; have r_z41_ := rngI z41_; have r_z43_ := rngI z43_; have r_z78_ := rngI z78_; omega
theorem lf_c_X11_lays_11 (M_79 : mM) (Mz : mM) (v : Int32) (u : Int32) (j13_ : Nat) (z22_ : Int32) (z25_ : Int32) (v5_79 : Int32) (z30_ : Int32) (z41_ : Int32) (z43_ : Int32) (z78_ : Int32) (h4_ : 0 ≤ v.toInt ∧ v.toInt ≤ 3) (h10_ : 0 ≤ u.toInt ∧ u.toInt ≤ 11) (h14_ : (j13_ : Int) = v.toInt) (h15_ : j13_ < 4) (e23_ : z22_ = Mz.1 (6, 0, j13_) 0) (h24_ : z22_.toInt = 8) (e26_ : z25_ = Mz.1 (6, 0, j13_) 1) (h27_ : 0 ≤ z25_.toInt ∧ z25_.toInt ≤ 24) (h28_ : z25_.toInt ≤ 16) (hv0_79 : 0 ≤ v5_79.toInt) (e31_ : z30_ = M_79.1 (6, 0, j13_) 1) (h32_ : 0 ≤ z30_.toInt ∧ z30_.toInt ≤ 24) (h33_ : v5_79.toInt < z30_.toInt) (h42_ : z41_.toInt = 16 * u.toInt) (h44_ : z43_.toInt = z41_.toInt + v5_79.toInt) (h79_ : z78_.toInt = v5_79.toInt + 1) : (2147483648 - z78_.toInt).toNat < (2147483648 - v5_79.toInt).toNat := by have r_v := rngI v; have r_u := rngI u; have r_z22_ := rngI z22_; have r_z25_ := rngI z25_; have r_v5_79 := rngI v5_79; have r_z30_ := rngI z30_; have r_z41_ := rngI z41_; have r_z43_ := rngI z43_; have r_z78_ := rngI z78_; omega
theorem lf_c_X11_lays_12 (M_79 : mM) (Mz : mM) (v : Int32) (u : Int32) (j13_ : Nat) (z22_ : Int32) (z25_ : Int32) (v5_79 : Int32) (z30_ : Int32) (z41_ : Int32) (z43_ : Int32) (h4_ : 0 ≤ v.toInt ∧ v.toInt ≤ 3) (h10_ : 0 ≤ u.toInt ∧ u.toInt ≤ 11) (h14_ : (j13_ : Int) = v.toInt) (h15_ : j13_ < 4) (e23_ : z22_ = Mz.1 (6, 0, j13_) 0) (h24_ : z22_.toInt = 8) (e26_ : z25_ = Mz.1 (6, 0, j13_) 1) (h27_ : 0 ≤ z25_.toInt ∧ z25_.toInt ≤ 24) (h28_ : z25_.toInt ≤ 16) (hv0_79 : 0 ≤ v5_79.toInt) (e31_ : z30_ = M_79.1 (6, 0, j13_) 1) (h32_ : 0 ≤ z30_.toInt ∧ z30_.toInt ≤ 24) (h33_ : v5_79.toInt < z30_.toInt) (h42_ : z41_.toInt = 16 * u.toInt) (h44_ : z43_.toInt = z41_.toInt + v5_79.toInt) : -2147483648 ≤ v5_79.toInt + 1 ∧ v5_79.toInt + 1 < 2147483648 := by have r_v := rngI v; have r_u := rngI u; have r_z22_ := rngI z22_; have r_z25_ := rngI z25_; have r_v5_79 := rngI v5_79; have r_z30_ := rngI z30_; have r_z41_ := rngI z41_; have r_z43_ := rngI z43_; subst e23_; subst e26_; subst e31_; omega
theorem lf_c_X11_lays_13 (M_79 : mM) (Mz : mM) (v : Int32) (u : Int32) (j13_ : Nat) (z22_ : Int32) (z25_ : Int32) (v5_79 : Int32) (z30_ : Int32) (z41_ : Int32) (z43_ : Int32) (z81_ : Int32) (h4_ : 0 ≤ v.toInt ∧ v.toInt ≤ 3) (h10_ : 0 ≤ u.toInt ∧ u.toInt ≤ 11) (h14_ : (j13_ : Int) = v.toInt) (h15_ : j13_ < 4) (e23_ : z22_ = Mz.1 (6, 0, j13_) 0) (h24_ : z22_.toInt = 8) (e26_ : z25_ = Mz.1 (6, 0, j13_) 1) (h27_ : 0 ≤ z25_.toInt ∧ z25_.toInt ≤ 24) (h28_ : z25_.toInt ≤ 16) (hv0_79 : 0 ≤ v5_79.toInt) (e31_ : z30_ = M_79.1 (6, 0, j13_) 1) (h32_ : 0 ≤ z30_.toInt ∧ z30_.toInt ≤ 24) (h33_ : v5_79.toInt < z30_.toInt) (h42_ : z41_.toInt = 16 * u.toInt) (h44_ : z43_.toInt = z41_.toInt + v5_79.toInt) (h82_ : z81_.toInt = v5_79.toInt + 1) : 0 ≤ z81_.toInt := by have r_v := rngI v; have r_u := rngI u; have r_z22_ := rngI z22_; have r_z25_ := rngI z25_; have r_v5_79 := rngI v5_79; have r_z30_ := rngI z30_; have r_z41_ := rngI z41_; have r_z43_ := rngI z43_; have r_z81_ := rngI z81_; omega
theorem lf_c_X11_lays_14 (M_79 : mM) (Mz : mM) (v : Int32) (u : Int32) (j13_ : Nat) (z22_ : Int32) (z25_ : Int32) (v5_79 : Int32) (z30_ : Int32) (z41_ : Int32) (z43_ : Int32) (z81_ : Int32) (h4_ : 0 ≤ v.toInt ∧ v.toInt ≤ 3) (h10_ : 0 ≤ u.toInt ∧ u.toInt ≤ 11) (h14_ : (j13_ : Int) = v.toInt) (h15_ : j13_ < 4) (e23_ : z22_ = Mz.1 (6, 0, j13_) 0) (h24_ : z22_.toInt = 8) (e26_ : z25_ = Mz.1 (6, 0, j13_) 1) (h27_ : 0 ≤ z25_.toInt ∧ z25_.toInt ≤ 24) (h28_ : z25_.toInt ≤ 16) (hv0_79 : 0 ≤ v5_79.toInt) (e31_ : z30_ = M_79.1 (6, 0, j13_) 1) (h32_ : 0 ≤ z30_.toInt ∧ z30_.toInt ≤ 24) (h33_ : v5_79.toInt < z30_.toInt) (h42_ : z41_.toInt = 16 * u.toInt) (h44_ : z43_.toInt = z41_.toInt + v5_79.toInt) (h82_ : z81_.toInt = v5_79.toInt + 1) : (2147483648 - z81_.toInt).toNat < (2147483648 - v5_79.toInt).toNat := by have r_v := rngI v; have r_u := rngI u; have r_z22_ := rngI z22_; have r_z25_ := rngI z25_; have r_v5_79 := rngI v5_79; have r_z30_ := rngI z30_; have r_z41_ := rngI z41_; have r_z43_ := rngI z43_; have r_z81_ := rngI z81_; omega
theorem lf_c_X11_lays_15    : 0 ≤ (0 : Int32).toInt := by have q0 := li_0; omega
set_option maxHeartbeats 4000000 in
set_option maxRecDepth 100000 in
theorem c_X11_lays (l : Launch) (G : va_G) (cy : Nat → ClassId) (ad : rf → Nat) (d : Nat) (v : Int32) (u : Int32) (Mz : mM) (hIz : Inv Mz) : WP CC l G cy ad yX11_lays cX11_lays 8 (some .int) (d + 3) 0 [(0, vR (11, 0, 0)), (1, vI v), (2, vI u)] [] Mz (fun r M' => Inv M' ∧ FR (S_c_X11_lays) Mz M' ∧ (True) ∧ SP_X11_lays v u Mz r M') := by
  have hFz : FR (S_c_X11_lays) Mz Mz := FR.self
  refine w_iload_n dX11_lays_0 rfl 1 rfl ?_
  refine w_callS (as := [vI v]) (rest := []) (c_X11_isSheet l G cy ad (d + 1) v Mz hIz) kS_X11_isSheet (by decide +kernel) (Nat.le_of_ble_eq_true rfl) m_566 rfl rfl (by decide) (Nat.le_of_ble_eq_true rfl) dX11_lays_1 (fun r1_ M2_ q3_ => ?_)
  obtain ⟨rfl, h4_, hs5_⟩ := q3_
  rcases h4_ with ⟨rfl, h4_⟩ | ⟨rfl, h4_⟩
  · refine w_if_eq (tgt := 17) dX11_lays_4 (by decide) li_1 (fun h9 => (absurd h9 (by decide))) (fun h6_ => ?_)
    refine w_iload_n dX11_lays_7 rfl 2 rfl ?_
    refine w_iconst (v := 0) dX11_lays_8 (by decide) ?_
    refine w_bipush (v := 11) dX11_lays_9 (by decide) ?_
    refine w_callS (as := [vI u, vI 0, vI 11]) (rest := []) (c_X11_within l G cy ad (d + 2) u 0 11 Mz hIz) kS_X11_within (by decide +kernel) (Nat.le_of_ble_eq_true rfl) m_494 rfl rfl (by decide) (Nat.le_of_ble_eq_true rfl) dX11_lays_11 (fun r7_ M8_ q9_ => ?_)
    obtain ⟨rfl, h10_, hs11_⟩ := q9_
    rcases h10_ with ⟨rfl, h10_⟩ | ⟨rfl, h10_⟩
    · simp only [li_0, li_11] at h10_
      refine w_if_ne (tgt := 23) dX11_lays_14 (by decide) li_1 (fun h12_ => ?_) (fun h9 => (absurd h9 (by decide)))
      refine w_aload_n dX11_lays_23 rfl 0 rfl ?_
      refine w_getR (c' := (43, 0, 0)) fl_RX11_24 rfl rfl ic_11 dX11_lays_24 rfl ?_
      refine w_iload_n dX11_lays_27 rfl 1 rfl ?_
      refine w_aald rfl rfl rfl (fun _ => rfl) ic_43 (rfl : v.toInt = v.toInt) (lf_c_X11_lays_0 v h4_) dX11_lays_28 (fun j13_ h14_ h15_ => ?_)
      refine w_astore_n (ls' := [(3, vR (6, 0, j13_)), (0, vR (11, 0, 0)), (1, vI v), (2, vI u)]) dX11_lays_29 rfl (by decide) rfl ?_
      refine w_aload_n dX11_lays_30 rfl 0 rfl ?_
      refine w_callV (as := []) (rest := []) (c_X6_isMissing l G cy ad (d + 2) j13_ Mz hIz h15_) kV_X6_isMissing (by decide +kernel) (Nat.le_of_ble_eq_true rfl) m_569 rfl rfl rfl (ic_6 h15_) rfl rfl (by decide) (Nat.le_of_ble_eq_true rfl) dX11_lays_31 (fun r16_ M17_ q18_ => ?_)
      obtain ⟨rfl, h19_, hs20_⟩ := q18_
      refine w_if_eq (tgt := 43) dX11_lays_34 (by decide) (rfl : r16_.toInt = r16_.toInt) (fun h21_ => ?_) (fun h21_ => ?_)
      · refine w_aload_n dX11_lays_43 rfl 0 rfl ?_
        refine w_getI fl_RX11_133 rfl rfl (ic_6 h15_) dX11_lays_44 (fun z22_ e23_ => ?_)
        refine w_bipush (v := 8) dX11_lays_47 (by decide) ?_
        refine w_icmp_eq (tgt := 58) dX11_lays_49 (by decide) (rfl : z22_.toInt = z22_.toInt) li_8 (fun h24_ => ?_) (fun h24_ => ?_)
        · refine w_aload_n dX11_lays_58 rfl 0 rfl ?_
          refine w_getI fl_RX11_136 rfl rfl (ic_6 h15_) dX11_lays_59 (fun z25_ e26_ => ?_)
          have h27_ : 0 ≤ z25_.toInt ∧ z25_.toInt ≤ 24 := ofEq (P := fun v => 0 ≤ v.toInt ∧ v.toInt ≤ 24) e26_ (hIz (6, 0, j13_) 1 rfl)
          refine w_bipush (v := 16) dX11_lays_62 (by decide) ?_
          refine w_icmp_le (tgt := 73) dX11_lays_64 (by decide) (rfl : z25_.toInt = z25_.toInt) li_16 (fun h28_ => ?_) (fun h28_ => ?_)
          · refine w_iconst (v := 0) dX11_lays_73 (by decide) ?_
            refine w_istore (ls' := [(4, vI 0), (3, vR (6, 0, j13_)), (0, vR (11, 0, 0)), (1, vI v), (2, vI u)]) dX11_lays_74 (by decide) rfl ?_
            refine w_iconst (v := 0) dX11_lays_76 (by decide) ?_
            refine w_istore (ls' := [(5, vI 0), (4, vI 0), (3, vR (6, 0, j13_)), (0, vR (11, 0, 0)), (1, vI v), (2, vI u)]) dX11_lays_77 (by decide) rfl ?_
            have lp29_ : ∀ (nn_79 : Nat) (M_79 : mM) (hI_79 : Inv M_79) (hF_79 : FR (S_c_X11_lays) Mz M_79) (v5_79 : Int32) (v4_79 : Int32) (hv0_79 : 0 ≤ v5_79.toInt) (hL_79 : RCH (fun x_ y_ => ST_X11_lays_79 u Mz j13_ x_.1 x_.2.1 x_.2.2 y_.1 y_.2.1 y_.2.2) ((0 : Int32), (0 : Int32), Mz) (v5_79, v4_79, M_79)), (2147483648 - v5_79.toInt).toNat < nn_79 → WP CC l G cy ad yX11_lays cX11_lays 8 (some .int) (d + 3) 79 [(5, vI v5_79), (4, vI v4_79), (3, vR (6, 0, j13_)), (0, vR (11, 0, 0)), (1, vI v), (2, vI u)] [] M_79 (fun r M' => Inv M' ∧ FR (S_c_X11_lays) Mz M' ∧ (True) ∧ SP_X11_lays v u Mz r M') := by
              intro nn_79
              induction nn_79 with
              | zero => intro M_79 hI_79 hF_79 v5_79 v4_79 hv0_79 hL_79 hm_79; exact absurd hm_79 (Nat.not_lt_zero _)
              | succ nn_79 ih_79 =>
                intro M_79 hI_79 hF_79 v5_79 v4_79 hv0_79 hL_79 hm_79
                refine w_iload dX11_lays_79 0 rfl ?_
                refine w_aload_n dX11_lays_81 rfl 2 rfl ?_
                refine w_getI fl_RX11_136 rfl rfl (ic_6 h15_) dX11_lays_82 (fun z30_ e31_ => ?_)
                have h32_ : 0 ≤ z30_.toInt ∧ z30_.toInt ≤ 24 := ofEq (P := fun v => 0 ≤ v.toInt ∧ v.toInt ≤ 24) e31_ (hI_79 (6, 0, j13_) 1 rfl)
                refine w_icmp_ge (tgt := 167) dX11_lays_85 (by decide) (rfl : v5_79.toInt = v5_79.toInt) (rfl : z30_.toInt = z30_.toInt) (fun h33_ => ?_) (fun h33_ => ?_)
                · refine w_iload dX11_lays_167 1 rfl ?_
                  exact w_iret rfl dX11_lays_169 ⟨hI_79, hF_79, trivial, (Or.inl ⟨hs5_, h4_, (Or.inl ⟨hs11_, h10_, j13_, h14_, h15_, r16_, hs20_, h19_, (Or.inl ⟨h21_, z22_, e23_, (Or.inl ⟨h24_, z25_, e26_, h27_, (Or.inl ⟨h28_, v5_79, hv0_79, v4_79, M_79, hL_79, hI_79, hF_79, z30_, e31_, h32_, h33_, rfl, rfl⟩)⟩)⟩)⟩)⟩)⟩
                · refine w_aload_n dX11_lays_88 rfl 2 rfl ?_
                  refine w_iload dX11_lays_89 0 rfl ?_
                  refine w_callV (as := [vI v5_79]) (rest := []) (c_X6_numberAt l G cy ad (d + 1) j13_ v5_79 M_79 hI_79 h15_) kV_X6_numberAt (by decide +kernel) (Nat.le_of_ble_eq_true rfl) m_573 rfl rfl rfl (ic_6 h15_) rfl rfl (by decide) (Nat.le_of_ble_eq_true rfl) dX11_lays_91 (fun r34_ M35_ q36_ => ?_)
                  obtain ⟨rfl, h37_, hs38_⟩ := q36_
                  refine w_iconst (v := 1) dX11_lays_94 (by decide) ?_
                  refine w_isub dX11_lays_95 (fun z39_ h40_ => ?_)
                  refine w_istore (ls' := [(6, vI z39_), (5, vI v5_79), (4, vI v4_79), (3, vR (6, 0, j13_)), (0, vR (11, 0, 0)), (1, vI v), (2, vI u)]) dX11_lays_96 (by decide) rfl ?_
                  refine w_bipush (v := 16) dX11_lays_98 (by decide) ?_
                  refine w_iload_n dX11_lays_100 rfl 6 rfl ?_
                  refine w_imulB dX11_lays_101 li_16 (rfl : u.toInt = u.toInt) (lf_c_X11_lays_1 u h10_) (fun z41_ h42_ => ?_)
                  refine w_iload dX11_lays_102 1 rfl ?_
                  refine w_iaddB dX11_lays_104 (rfl : z41_.toInt = z41_.toInt) (rfl : v5_79.toInt = v5_79.toInt) (lf_c_X11_lays_2 M_79 Mz v u j13_ z22_ z25_ v5_79 z30_ z41_ h4_ h10_ h14_ h15_ e23_ h24_ e26_ h27_ h28_ hv0_79 e31_ h32_ h33_ h42_) (fun z43_ h44_ => ?_)
                  refine w_istore (ls' := [(7, vI z43_), (6, vI z39_), (5, vI v5_79), (4, vI v4_79), (3, vR (6, 0, j13_)), (0, vR (11, 0, 0)), (1, vI v), (2, vI u)]) dX11_lays_105 (by decide) rfl ?_
                  refine w_iload dX11_lays_107 1 rfl ?_
                  refine w_callS (as := [vI z39_]) (rest := []) (c_X11_isThingKind l G cy ad (d + 1) z39_ M_79 hI_79) kS_X11_isThingKind (by decide +kernel) (Nat.le_of_ble_eq_true rfl) m_491 rfl rfl (by decide) (Nat.le_of_ble_eq_true rfl) dX11_lays_109 (fun r45_ M46_ q47_ => ?_)
                  obtain ⟨rfl, h48_, hs49_⟩ := q47_
                  rcases h48_ with ⟨rfl, h48_⟩ | ⟨rfl, h48_⟩
                  · refine w_if_eq (tgt := 161) dX11_lays_112 (by decide) li_1 (fun h9 => (absurd h9 (by decide))) (fun h50_ => ?_)
                    refine w_aload_n dX11_lays_115 rfl 5 rfl ?_
                    refine w_getR (c' := (10, 0, 0)) fl_RX11_10 rfl rfl ic_11 dX11_lays_116 rfl ?_
                    refine w_getR (c' := (7, 0, 0)) fl_RX11_71 rfl rfl (ic_10 (by decide)) dX11_lays_119 rfl ?_
                    refine w_iload dX11_lays_122 0 rfl ?_
                    refine w_callV (as := [vI z43_]) (rest := []) (c_X7_isFree l G cy ad (d + 1) 0 z43_ M_79 hI_79 (by first | decide | (unfold vF; omega) | (unfold vRw; omega))) kV_X7_isFree (by decide +kernel) (Nat.le_of_ble_eq_true rfl) m_505 rfl rfl rfl (ic_7 (by decide)) rfl rfl (by decide) (Nat.le_of_ble_eq_true rfl) dX11_lays_124 (fun r51_ M52_ q53_ => ?_)
                    obtain ⟨rfl, h54_, hs55_⟩ := q53_
                    rcases h54_ with ⟨rfl, h54_⟩ | rfl
                    · refine w_if_eq (tgt := 161) dX11_lays_127 (by decide) li_1 (fun h9 => (absurd h9 (by decide))) (fun h56_ => ?_)
                      refine w_aload_n dX11_lays_130 rfl 5 rfl ?_
                      refine w_getR (c' := (10, 0, 0)) fl_RX11_10 rfl rfl ic_11 dX11_lays_131 rfl ?_
                      refine w_getR (c' := (7, 0, 0)) fl_RX11_71 rfl rfl (ic_10 (by decide)) dX11_lays_134 rfl ?_
                      refine w_callV (as := []) (rest := []) (c_X7_hasRoom l G cy ad (d + 2) 0 M_79 hI_79 (by first | decide | (unfold vF; omega) | (unfold vRw; omega))) kV_X7_hasRoom (by decide +kernel) (Nat.le_of_ble_eq_true rfl) m_510 rfl rfl rfl (ic_7 (by decide)) rfl rfl (by decide) (Nat.le_of_ble_eq_true rfl) dX11_lays_137 (fun r57_ M58_ q59_ => ?_)
                      obtain ⟨rfl, h60_, hs61_⟩ := q59_
                      refine w_if_eq (tgt := 161) dX11_lays_140 (by decide) (rfl : r57_.toInt = r57_.toInt) (fun h62_ => ?_) (fun h62_ => ?_)
                      · refine w_iincB (j := 2) (f := fun z63_ => [(5, vI z63_), (7, vI z43_), (6, vI z39_), (4, vI v4_79), (3, vR (6, 0, j13_)), (0, vR (11, 0, 0)), (1, vI v), (2, vI u)]) dX11_lays_161 rfl (by decide) (fun _ => rfl) (rfl : v5_79.toInt = v5_79.toInt) li_1 (lf_c_X11_lays_3 M_79 Mz v u j13_ z22_ z25_ v5_79 z30_ z41_ z43_ h4_ h10_ h14_ h15_ e23_ h24_ e26_ h27_ h28_ hv0_79 e31_ h32_ h33_ h42_ h44_ h54_) (fun z63_ h64_ => ?_)
                        refine w_goto (tgt := 79) dX11_lays_164 (by decide) ?_
                        refine w_loc (ls' := [(5, vI z63_), (4, vI v4_79), (3, vR (6, 0, j13_)), (0, vR (11, 0, 0)), (1, vI v), (2, vI u)]) [0, 3, 4, 5, 6, 7] rfl ?_
                        exact ih_79 M_79 hI_79 hF_79 z63_ v4_79 (lf_c_X11_lays_4 M_79 Mz v u j13_ z22_ z25_ v5_79 z30_ z41_ z43_ z63_ h4_ h10_ h14_ h15_ e23_ h24_ e26_ h27_ h28_ hv0_79 e31_ h32_ h33_ h42_ h44_ h54_ h64_) (RCH.tail hL_79 ⟨hv0_79, hI_79, hF_79, z30_, e31_, h32_, h33_, r34_, hs38_, z39_, h40_, z41_, h42_, z43_, h44_, (Or.inl ⟨hs49_, h48_, (Or.inl ⟨hs55_, h54_, r57_, hs61_, h60_, (Or.inl ⟨h62_, z63_, h64_, rfl, rfl, rfl⟩)⟩)⟩)⟩) (Nat.lt_of_lt_of_le (lf_c_X11_lays_5 M_79 Mz v u j13_ z22_ z25_ v5_79 z30_ z41_ z43_ z63_ h4_ h10_ h14_ h15_ e23_ h24_ e26_ h27_ h28_ hv0_79 e31_ h32_ h33_ h42_ h44_ h54_ h64_) (Nat.le_of_lt_succ hm_79))
                      · refine w_aload_n dX11_lays_143 rfl 5 rfl ?_
                        refine w_getR (c' := (10, 0, 0)) fl_RX11_10 rfl rfl ic_11 dX11_lays_144 rfl ?_
                        refine w_getR (c' := (7, 0, 0)) fl_RX11_71 rfl rfl (ic_10 (by decide)) dX11_lays_147 rfl ?_
                        refine w_iload dX11_lays_150 1 rfl ?_
                        refine w_iload dX11_lays_152 0 rfl ?_
                        refine w_callV (as := [vI z39_, vI z43_]) (rest := []) (c_X7_addThing l G cy ad d 0 z39_ z43_ M_79 hI_79 (by first | decide | (unfold vF; omega) | (unfold vRw; omega))) kV_X7_addThing (by decide +kernel) (Nat.le_of_ble_eq_true rfl) m_514 rfl rfl rfl (ic_7 (by decide)) rfl rfl (by decide) (Nat.le_of_ble_eq_true rfl) dX11_lays_154 (fun r65_ M66_ q67_ => ?_)
                        obtain ⟨hI69_, hF70_, h68_, hs72_⟩ := q67_
                        have hF71_ := hF_79.tr hF70_ (fun c k => (fun h => h.elim (fun h => (Or.inl ⟨h.1, h.2⟩)) (fun h => h.elim (fun h => (Or.inr (Or.inl ⟨h.1, h.2⟩))) (fun h => h.elim (fun h => (Or.inr (Or.inr (Or.inl ⟨h.1, h.2⟩)))) (fun h => h.elim (fun h => (Or.inr (Or.inr (Or.inr (Or.inl ⟨h.1, h.2⟩))))) (fun h => h.elim (fun h => (Or.inr (Or.inr (Or.inr (Or.inr (Or.inl ⟨h.1, h.2⟩)))))) (fun h => h.elim (fun h => (Or.inr (Or.inr (Or.inr (Or.inr (Or.inr (Or.inl ⟨h.1, h.2.1, h.2.2⟩))))))) (fun h => h.elim))))))))
                        refine w_pop dX11_lays_157 rfl ?_
                        refine w_iincX (j := 3) (f := fun z73_ => [(4, vI z73_), (7, vI z43_), (6, vI z39_), (5, vI v5_79), (3, vR (6, 0, j13_)), (0, vR (11, 0, 0)), (1, vI v), (2, vI u)]) dX11_lays_158 rfl (by decide) (fun _ => rfl) (fun z73_ h74_ => ?_)
                        refine w_iincB (j := 3) (f := fun z75_ => [(5, vI z75_), (4, vI z73_), (7, vI z43_), (6, vI z39_), (3, vR (6, 0, j13_)), (0, vR (11, 0, 0)), (1, vI v), (2, vI u)]) dX11_lays_161 rfl (by decide) (fun _ => rfl) (rfl : v5_79.toInt = v5_79.toInt) li_1 (lf_c_X11_lays_6 M_79 Mz v u j13_ z22_ z25_ v5_79 z30_ z41_ z43_ h4_ h10_ h14_ h15_ e23_ h24_ e26_ h27_ h28_ hv0_79 e31_ h32_ h33_ h42_ h44_ h54_) (fun z75_ h76_ => ?_)
                        refine w_goto (tgt := 79) dX11_lays_164 (by decide) ?_
                        refine w_loc (ls' := [(5, vI z75_), (4, vI z73_), (3, vR (6, 0, j13_)), (0, vR (11, 0, 0)), (1, vI v), (2, vI u)]) [0, 1, 4, 5, 6, 7] rfl ?_
                        exact ih_79 M66_ hI69_ hF71_ z75_ z73_ (lf_c_X11_lays_7 M_79 Mz v u j13_ z22_ z25_ v5_79 z30_ z41_ z43_ z75_ h4_ h10_ h14_ h15_ e23_ h24_ e26_ h27_ h28_ hv0_79 e31_ h32_ h33_ h42_ h44_ h54_ h76_) (RCH.tail hL_79 ⟨hv0_79, hI_79, hF_79, z30_, e31_, h32_, h33_, r34_, hs38_, z39_, h40_, z41_, h42_, z43_, h44_, (Or.inl ⟨hs49_, h48_, (Or.inl ⟨hs55_, h54_, r57_, hs61_, h60_, (Or.inr ⟨h62_, M66_, hI69_, hF70_, r65_, hs72_, z73_, h74_, z75_, h76_, rfl, rfl, rfl⟩)⟩)⟩)⟩) (Nat.lt_of_lt_of_le (lf_c_X11_lays_8 M_79 Mz v u j13_ z22_ z25_ v5_79 z30_ z41_ z43_ z75_ h4_ h10_ h14_ h15_ e23_ h24_ e26_ h27_ h28_ hv0_79 e31_ h32_ h33_ h42_ h44_ h54_ h76_) (Nat.le_of_lt_succ hm_79))
                    · refine w_if_eq (tgt := 161) dX11_lays_127 (by decide) li_0 (fun h77_ => ?_) (fun h9 => (absurd h9 (by decide)))
                      refine w_iincB (j := 2) (f := fun z78_ => [(5, vI z78_), (7, vI z43_), (6, vI z39_), (4, vI v4_79), (3, vR (6, 0, j13_)), (0, vR (11, 0, 0)), (1, vI v), (2, vI u)]) dX11_lays_161 rfl (by decide) (fun _ => rfl) (rfl : v5_79.toInt = v5_79.toInt) li_1 (lf_c_X11_lays_9 M_79 Mz v u j13_ z22_ z25_ v5_79 z30_ z41_ z43_ h4_ h10_ h14_ h15_ e23_ h24_ e26_ h27_ h28_ hv0_79 e31_ h32_ h33_ h42_ h44_) (fun z78_ h79_ => ?_)
                      refine w_goto (tgt := 79) dX11_lays_164 (by decide) ?_
                      refine w_loc (ls' := [(5, vI z78_), (4, vI v4_79), (3, vR (6, 0, j13_)), (0, vR (11, 0, 0)), (1, vI v), (2, vI u)]) [0, 3, 4, 5, 6, 7] rfl ?_
                      exact ih_79 M_79 hI_79 hF_79 z78_ v4_79 (lf_c_X11_lays_10 M_79 Mz v u j13_ z22_ z25_ v5_79 z30_ z41_ z43_ z78_ h4_ h10_ h14_ h15_ e23_ h24_ e26_ h27_ h28_ hv0_79 e31_ h32_ h33_ h42_ h44_ h79_) (RCH.tail hL_79 ⟨hv0_79, hI_79, hF_79, z30_, e31_, h32_, h33_, r34_, hs38_, z39_, h40_, z41_, h42_, z43_, h44_, (Or.inl ⟨hs49_, h48_, (Or.inr ⟨hs55_, z78_, h79_, rfl, rfl, rfl⟩)⟩)⟩) (Nat.lt_of_lt_of_le (lf_c_X11_lays_11 M_79 Mz v u j13_ z22_ z25_ v5_79 z30_ z41_ z43_ z78_ h4_ h10_ h14_ h15_ e23_ h24_ e26_ h27_ h28_ hv0_79 e31_ h32_ h33_ h42_ h44_ h79_) (Nat.le_of_lt_succ hm_79))
                  · refine w_if_eq (tgt := 161) dX11_lays_112 (by decide) li_0 (fun h80_ => ?_) (fun h9 => (absurd h9 (by decide)))
                    refine w_iincB (j := 2) (f := fun z81_ => [(5, vI z81_), (7, vI z43_), (6, vI z39_), (4, vI v4_79), (3, vR (6, 0, j13_)), (0, vR (11, 0, 0)), (1, vI v), (2, vI u)]) dX11_lays_161 rfl (by decide) (fun _ => rfl) (rfl : v5_79.toInt = v5_79.toInt) li_1 (lf_c_X11_lays_12 M_79 Mz v u j13_ z22_ z25_ v5_79 z30_ z41_ z43_ h4_ h10_ h14_ h15_ e23_ h24_ e26_ h27_ h28_ hv0_79 e31_ h32_ h33_ h42_ h44_) (fun z81_ h82_ => ?_)
                    refine w_goto (tgt := 79) dX11_lays_164 (by decide) ?_
                    refine w_loc (ls' := [(5, vI z81_), (4, vI v4_79), (3, vR (6, 0, j13_)), (0, vR (11, 0, 0)), (1, vI v), (2, vI u)]) [0, 3, 4, 5, 6, 7] rfl ?_
                    exact ih_79 M_79 hI_79 hF_79 z81_ v4_79 (lf_c_X11_lays_13 M_79 Mz v u j13_ z22_ z25_ v5_79 z30_ z41_ z43_ z81_ h4_ h10_ h14_ h15_ e23_ h24_ e26_ h27_ h28_ hv0_79 e31_ h32_ h33_ h42_ h44_ h82_) (RCH.tail hL_79 ⟨hv0_79, hI_79, hF_79, z30_, e31_, h32_, h33_, r34_, hs38_, z39_, h40_, z41_, h42_, z43_, h44_, (Or.inr ⟨hs49_, h48_, z81_, h82_, rfl, rfl, rfl⟩)⟩) (Nat.lt_of_lt_of_le (lf_c_X11_lays_14 M_79 Mz v u j13_ z22_ z25_ v5_79 z30_ z41_ z43_ z81_ h4_ h10_ h14_ h15_ e23_ h24_ e26_ h27_ h28_ hv0_79 e31_ h32_ h33_ h42_ h44_ h82_) (Nat.le_of_lt_succ hm_79))
            exact lp29_ _ Mz hIz hFz 0 0 (lf_c_X11_lays_15 ) RCH.refl (Nat.lt_succ_self _)
          · refine w_aload_n dX11_lays_67 rfl 1 rfl ?_
            refine w_iconst (v := 3) dX11_lays_68 (by decide) ?_
            refine w_callV (as := [vI 3]) (rest := []) (c_X11_error l G cy ad (d + 2) 3 Mz hIz) kV_X11_error (by decide +kernel) (Nat.le_of_ble_eq_true rfl) m_500 rfl rfl rfl ic_11 rfl rfl (by decide) (Nat.le_of_ble_eq_true rfl) dX11_lays_69 (fun r83_ M84_ q85_ => ?_)
            obtain ⟨hI87_, hF88_, h86_, hs90_⟩ := q85_
            have hF89_ := hFz.tr hF88_ (fun c k => (fun h => h.elim (fun h => (Or.inr (Or.inr (Or.inr (Or.inr (Or.inr (Or.inr (Or.inl ⟨h.1, h.2⟩)))))))) (fun h => h.elim)))
            exact w_iret rfl dX11_lays_72 ⟨hI87_, hF89_, trivial, (Or.inl ⟨hs5_, h4_, (Or.inl ⟨hs11_, h10_, j13_, h14_, h15_, r16_, hs20_, h19_, (Or.inl ⟨h21_, z22_, e23_, (Or.inl ⟨h24_, z25_, e26_, h27_, (Or.inr ⟨h28_, M84_, hI87_, hF88_, r83_, hs90_, rfl, rfl⟩)⟩)⟩)⟩)⟩)⟩
        · refine w_aload_n dX11_lays_52 rfl 1 rfl ?_
          refine w_iconst (v := 5) dX11_lays_53 (by decide) ?_
          refine w_callV (as := [vI 5]) (rest := []) (c_X11_error l G cy ad (d + 2) 5 Mz hIz) kV_X11_error (by decide +kernel) (Nat.le_of_ble_eq_true rfl) m_500 rfl rfl rfl ic_11 rfl rfl (by decide) (Nat.le_of_ble_eq_true rfl) dX11_lays_54 (fun r91_ M92_ q93_ => ?_)
          obtain ⟨hI95_, hF96_, h94_, hs98_⟩ := q93_
          have hF97_ := hFz.tr hF96_ (fun c k => (fun h => h.elim (fun h => (Or.inr (Or.inr (Or.inr (Or.inr (Or.inr (Or.inr (Or.inl ⟨h.1, h.2⟩)))))))) (fun h => h.elim)))
          exact w_iret rfl dX11_lays_57 ⟨hI95_, hF97_, trivial, (Or.inl ⟨hs5_, h4_, (Or.inl ⟨hs11_, h10_, j13_, h14_, h15_, r16_, hs20_, h19_, (Or.inl ⟨h21_, z22_, e23_, (Or.inr ⟨h24_, M92_, hI95_, hF96_, r91_, hs98_, rfl, rfl⟩)⟩)⟩)⟩)⟩
      · refine w_aload_n dX11_lays_37 rfl 1 rfl ?_
        refine w_iconst (v := 2) dX11_lays_38 (by decide) ?_
        refine w_callV (as := [vI 2]) (rest := []) (c_X11_error l G cy ad (d + 2) 2 Mz hIz) kV_X11_error (by decide +kernel) (Nat.le_of_ble_eq_true rfl) m_500 rfl rfl rfl ic_11 rfl rfl (by decide) (Nat.le_of_ble_eq_true rfl) dX11_lays_39 (fun r99_ M100_ q101_ => ?_)
        obtain ⟨hI103_, hF104_, h102_, hs106_⟩ := q101_
        have hF105_ := hFz.tr hF104_ (fun c k => (fun h => h.elim (fun h => (Or.inr (Or.inr (Or.inr (Or.inr (Or.inr (Or.inr (Or.inl ⟨h.1, h.2⟩)))))))) (fun h => h.elim)))
        exact w_iret rfl dX11_lays_42 ⟨hI103_, hF105_, trivial, (Or.inl ⟨hs5_, h4_, (Or.inl ⟨hs11_, h10_, j13_, h14_, h15_, r16_, hs20_, h19_, (Or.inr ⟨h21_, M100_, hI103_, hF104_, r99_, hs106_, rfl, rfl⟩)⟩)⟩)⟩
    · simp only [li_0, li_11] at h10_
      refine w_if_ne (tgt := 23) dX11_lays_14 (by decide) li_0 (fun h9 => (absurd h9 (by decide))) (fun h107_ => ?_)
      refine w_aload_n dX11_lays_17 rfl 0 rfl ?_
      refine w_iconst (v := 1) dX11_lays_18 (by decide) ?_
      refine w_callV (as := [vI 1]) (rest := []) (c_X11_error l G cy ad (d + 2) 1 Mz hIz) kV_X11_error (by decide +kernel) (Nat.le_of_ble_eq_true rfl) m_500 rfl rfl rfl ic_11 rfl rfl (by decide) (Nat.le_of_ble_eq_true rfl) dX11_lays_19 (fun r108_ M109_ q110_ => ?_)
      obtain ⟨hI112_, hF113_, h111_, hs115_⟩ := q110_
      have hF114_ := hFz.tr hF113_ (fun c k => (fun h => h.elim (fun h => (Or.inr (Or.inr (Or.inr (Or.inr (Or.inr (Or.inr (Or.inl ⟨h.1, h.2⟩)))))))) (fun h => h.elim)))
      exact w_iret rfl dX11_lays_22 ⟨hI112_, hF114_, trivial, (Or.inl ⟨hs5_, h4_, (Or.inr ⟨hs11_, h10_, M109_, hI112_, hF113_, r108_, hs115_, rfl, rfl⟩)⟩)⟩
  · refine w_if_eq (tgt := 17) dX11_lays_4 (by decide) li_0 (fun h116_ => ?_) (fun h9 => (absurd h9 (by decide)))
    refine w_aload_n dX11_lays_17 rfl 0 rfl ?_
    refine w_iconst (v := 1) dX11_lays_18 (by decide) ?_
    refine w_callV (as := [vI 1]) (rest := []) (c_X11_error l G cy ad (d + 2) 1 Mz hIz) kV_X11_error (by decide +kernel) (Nat.le_of_ble_eq_true rfl) m_500 rfl rfl rfl ic_11 rfl rfl (by decide) (Nat.le_of_ble_eq_true rfl) dX11_lays_19 (fun r117_ M118_ q119_ => ?_)
    obtain ⟨hI121_, hF122_, h120_, hs124_⟩ := q119_
    have hF123_ := hFz.tr hF122_ (fun c k => (fun h => h.elim (fun h => (Or.inr (Or.inr (Or.inr (Or.inr (Or.inr (Or.inr (Or.inl ⟨h.1, h.2⟩)))))))) (fun h => h.elim)))
    exact w_iret rfl dX11_lays_22 ⟨hI121_, hF123_, trivial, (Or.inr ⟨hs5_, h4_, M118_, hI121_, hF122_, r117_, hs124_, rfl, rfl⟩)⟩
def S_c_X11_air : rf → Nat → Prop := fun c k => (c.1 = 2 ∧ c.2.1 = 0 ∧ k = 2) ∨ (c.1 = 2 ∧ c.2.1 = 0 ∧ k = 1) ∨ (c.1 = 2 ∧ c.2.1 = 0 ∧ k = 0) ∨ (c.1 = 44 ∧ c.2.1 = 0) ∨ False
def SP_X11_air (v : Int32) (u : Int32) (Mz : mM) (r_ : Int32) (M_ : mM) : Prop := (((SP_X11_within v 0 2 Mz (1 : Int32)) ∧ (0 ≤ v.toInt ∧ v.toInt ≤ 2) ∧ (((¬ v.toInt = 0) ∧ (((¬ v.toInt = 1) ∧ (((SP_X11_within u 0 1 Mz (1 : Int32)) ∧ (0 ≤ u.toInt ∧ u.toInt ≤ 1) ∧ ∃ M16_ : mM, (Inv M16_) ∧ (FR (S_c_X2_changeAir 0) Mz M16_) ∧ ∃ r15_ : Int32, (SP_X2_changeAir 0 v u Mz r15_ M16_) ∧ r_ = r15_ ∧ M_ = M16_) ∨ ((SP_X11_within u 0 1 Mz (0 : Int32)) ∧ (¬ (0 ≤ u.toInt ∧ u.toInt ≤ 1)) ∧ ∃ M25_ : mM, (Inv M25_) ∧ (FR (S_c_X11_error) Mz M25_) ∧ ∃ r24_ : Int32, (SP_X11_error 1 Mz r24_ M25_) ∧ r_ = r24_ ∧ M_ = M25_))) ∨ ((v.toInt = 1) ∧ (((SP_X11_within u 0 90 Mz (1 : Int32)) ∧ (0 ≤ u.toInt ∧ u.toInt ≤ 90) ∧ ∃ M39_ : mM, (Inv M39_) ∧ (FR (S_c_X2_changeAir 0) Mz M39_) ∧ ∃ r38_ : Int32, (SP_X2_changeAir 0 v u Mz r38_ M39_) ∧ r_ = r38_ ∧ M_ = M39_) ∨ ((SP_X11_within u 0 90 Mz (0 : Int32)) ∧ (¬ (0 ≤ u.toInt ∧ u.toInt ≤ 90)) ∧ ∃ M48_ : mM, (Inv M48_) ∧ (FR (S_c_X11_error) Mz M48_) ∧ ∃ r47_ : Int32, (SP_X11_error 1 Mz r47_ M48_) ∧ r_ = r47_ ∧ M_ = M48_))))) ∨ ((v.toInt = 0) ∧ (((SP_X11_within u 0 99 Mz (1 : Int32)) ∧ (0 ≤ u.toInt ∧ u.toInt ≤ 99) ∧ ∃ M62_ : mM, (Inv M62_) ∧ (FR (S_c_X2_changeAir 0) Mz M62_) ∧ ∃ r61_ : Int32, (SP_X2_changeAir 0 v u Mz r61_ M62_) ∧ r_ = r61_ ∧ M_ = M62_) ∨ ((SP_X11_within u 0 99 Mz (0 : Int32)) ∧ (¬ (0 ≤ u.toInt ∧ u.toInt ≤ 99)) ∧ ∃ M71_ : mM, (Inv M71_) ∧ (FR (S_c_X11_error) Mz M71_) ∧ ∃ r70_ : Int32, (SP_X11_error 1 Mz r70_ M71_) ∧ r_ = r70_ ∧ M_ = M71_))))) ∨ ((SP_X11_within v 0 2 Mz (0 : Int32)) ∧ (¬ (0 ≤ v.toInt ∧ v.toInt ≤ 2)) ∧ ∃ M80_ : mM, (Inv M80_) ∧ (FR (S_c_X11_error) Mz M80_) ∧ ∃ r79_ : Int32, (SP_X11_error 1 Mz r79_ M80_) ∧ r_ = r79_ ∧ M_ = M80_))
set_option maxHeartbeats 4000000 in
set_option maxRecDepth 100000 in
theorem c_X11_air (l : Launch) (G : va_G) (cy : Nat → ClassId) (ad : rf → Nat) (d : Nat) (v : Int32) (u : Int32) (Mz : mM) (hIz : Inv Mz) : WP CC l G cy ad yX11_air cX11_air 3 (some .int) (d + 1) 0 [(0, vR (11, 0, 0)), (1, vI v), (2, vI u)] [] Mz (fun r M' => Inv M' ∧ FR (S_c_X11_air) Mz M' ∧ (True) ∧ SP_X11_air v u Mz r M') := by
  have hFz : FR (S_c_X11_air) Mz Mz := FR.self
  refine w_iload_n dX11_air_0 rfl 1 rfl ?_
  refine w_iconst (v := 0) dX11_air_1 (by decide) ?_
  refine w_iconst (v := 2) dX11_air_2 (by decide) ?_
  refine w_callS (as := [vI v, vI 0, vI 2]) (rest := []) (c_X11_within l G cy ad d v 0 2 Mz hIz) kS_X11_within (by decide +kernel) (Nat.le_of_ble_eq_true rfl) m_494 rfl rfl (by decide) (Nat.le_of_ble_eq_true rfl) dX11_air_3 (fun r1_ M2_ q3_ => ?_)
  obtain ⟨rfl, h4_, hs5_⟩ := q3_
  rcases h4_ with ⟨rfl, h4_⟩ | ⟨rfl, h4_⟩
  · simp only [li_0, li_2] at h4_
    refine w_if_eq (tgt := 37) dX11_air_6 (by decide) li_1 (fun h9 => (absurd h9 (by decide))) (fun h6_ => ?_)
    refine w_iload_n dX11_air_9 rfl 2 rfl ?_
    refine w_iconst (v := 0) dX11_air_10 (by decide) ?_
    refine w_iload_n dX11_air_11 rfl 1 rfl ?_
    refine w_if_ne (tgt := 20) dX11_air_12 (by decide) (rfl : v.toInt = v.toInt) (fun h7_ => ?_) (fun h7_ => ?_)
    · refine w_iload_n dX11_air_20 rfl 1 rfl ?_
      refine w_iconst (v := 1) dX11_air_21 (by decide) ?_
      refine w_icmp_ne (tgt := 30) dX11_air_22 (by decide) (rfl : v.toInt = v.toInt) li_1 (fun h8_ => ?_) (fun h8_ => ?_)
      · refine w_iconst (v := 1) dX11_air_30 (by decide) ?_
        refine w_callS (as := [vI u, vI 0, vI 1]) (rest := []) (c_X11_within l G cy ad d u 0 1 Mz hIz) kS_X11_within (by decide +kernel) (Nat.le_of_ble_eq_true rfl) m_494 rfl rfl (by decide) (Nat.le_of_ble_eq_true rfl) dX11_air_31 (fun r9_ M10_ q11_ => ?_)
        obtain ⟨rfl, h12_, hs13_⟩ := q11_
        rcases h12_ with ⟨rfl, h12_⟩ | ⟨rfl, h12_⟩
        · simp only [li_0, li_1] at h12_
          refine w_if_ne (tgt := 43) dX11_air_34 (by decide) li_1 (fun h14_ => ?_) (fun h9 => (absurd h9 (by decide)))
          refine w_aload_n dX11_air_43 rfl 0 rfl ?_
          refine w_getR (c' := (10, 0, 0)) fl_RX11_10 rfl rfl ic_11 dX11_air_44 rfl ?_
          refine w_getR (c' := (2, 0, 0)) fl_RX11_114 rfl rfl (ic_10 (by decide)) dX11_air_47 rfl ?_
          refine w_iload_n dX11_air_50 rfl 1 rfl ?_
          refine w_iload_n dX11_air_51 rfl 2 rfl ?_
          refine w_callV (as := [vI v, vI u]) (rest := []) (c_X2_changeAir l G cy ad d 0 v u Mz hIz (by first | decide | (unfold vF; omega) | (unfold vRw; omega))) kV_X2_changeAir (by decide +kernel) (Nat.le_of_ble_eq_true rfl) m_585 rfl rfl rfl (ic_2 (by decide)) rfl rfl (by decide) (Nat.le_of_ble_eq_true rfl) dX11_air_52 (fun r15_ M16_ q17_ => ?_)
          obtain ⟨hI19_, hF20_, h18_, hs22_⟩ := q17_
          have hF21_ := hFz.tr hF20_ (fun c k => (fun h => h.elim (fun h => (Or.inl ⟨h.1, h.2.1, h.2.2⟩)) (fun h => h.elim (fun h => (Or.inr (Or.inl ⟨h.1, h.2.1, h.2.2⟩))) (fun h => h.elim (fun h => (Or.inr (Or.inr (Or.inl ⟨h.1, h.2.1, h.2.2⟩)))) (fun h => h.elim)))))
          exact w_iret rfl dX11_air_55 ⟨hI19_, hF21_, trivial, (Or.inl ⟨hs5_, h4_, (Or.inl ⟨h7_, (Or.inl ⟨h8_, (Or.inl ⟨hs13_, h12_, M16_, hI19_, hF20_, r15_, hs22_, rfl, rfl⟩)⟩)⟩)⟩)⟩
        · simp only [li_0, li_1] at h12_
          refine w_if_ne (tgt := 43) dX11_air_34 (by decide) li_0 (fun h9 => (absurd h9 (by decide))) (fun h23_ => ?_)
          refine w_aload_n dX11_air_37 rfl 0 rfl ?_
          refine w_iconst (v := 1) dX11_air_38 (by decide) ?_
          refine w_callV (as := [vI 1]) (rest := []) (c_X11_error l G cy ad d 1 Mz hIz) kV_X11_error (by decide +kernel) (Nat.le_of_ble_eq_true rfl) m_500 rfl rfl rfl ic_11 rfl rfl (by decide) (Nat.le_of_ble_eq_true rfl) dX11_air_39 (fun r24_ M25_ q26_ => ?_)
          obtain ⟨hI28_, hF29_, h27_, hs31_⟩ := q26_
          have hF30_ := hFz.tr hF29_ (fun c k => (fun h => h.elim (fun h => (Or.inr (Or.inr (Or.inr (Or.inl ⟨h.1, h.2⟩))))) (fun h => h.elim)))
          exact w_iret rfl dX11_air_42 ⟨hI28_, hF30_, trivial, (Or.inl ⟨hs5_, h4_, (Or.inl ⟨h7_, (Or.inl ⟨h8_, (Or.inr ⟨hs13_, h12_, M25_, hI28_, hF29_, r24_, hs31_, rfl, rfl⟩)⟩)⟩)⟩)⟩
      · refine w_bipush (v := 90) dX11_air_25 (by decide) ?_
        refine w_goto (tgt := 31) dX11_air_27 (by decide) ?_
        refine w_callS (as := [vI u, vI 0, vI 90]) (rest := []) (c_X11_within l G cy ad d u 0 90 Mz hIz) kS_X11_within (by decide +kernel) (Nat.le_of_ble_eq_true rfl) m_494 rfl rfl (by decide) (Nat.le_of_ble_eq_true rfl) dX11_air_31 (fun r32_ M33_ q34_ => ?_)
        obtain ⟨rfl, h35_, hs36_⟩ := q34_
        rcases h35_ with ⟨rfl, h35_⟩ | ⟨rfl, h35_⟩
        · simp only [li_0, li_90] at h35_
          refine w_if_ne (tgt := 43) dX11_air_34 (by decide) li_1 (fun h37_ => ?_) (fun h9 => (absurd h9 (by decide)))
          refine w_aload_n dX11_air_43 rfl 0 rfl ?_
          refine w_getR (c' := (10, 0, 0)) fl_RX11_10 rfl rfl ic_11 dX11_air_44 rfl ?_
          refine w_getR (c' := (2, 0, 0)) fl_RX11_114 rfl rfl (ic_10 (by decide)) dX11_air_47 rfl ?_
          refine w_iload_n dX11_air_50 rfl 1 rfl ?_
          refine w_iload_n dX11_air_51 rfl 2 rfl ?_
          refine w_callV (as := [vI v, vI u]) (rest := []) (c_X2_changeAir l G cy ad d 0 v u Mz hIz (by first | decide | (unfold vF; omega) | (unfold vRw; omega))) kV_X2_changeAir (by decide +kernel) (Nat.le_of_ble_eq_true rfl) m_585 rfl rfl rfl (ic_2 (by decide)) rfl rfl (by decide) (Nat.le_of_ble_eq_true rfl) dX11_air_52 (fun r38_ M39_ q40_ => ?_)
          obtain ⟨hI42_, hF43_, h41_, hs45_⟩ := q40_
          have hF44_ := hFz.tr hF43_ (fun c k => (fun h => h.elim (fun h => (Or.inl ⟨h.1, h.2.1, h.2.2⟩)) (fun h => h.elim (fun h => (Or.inr (Or.inl ⟨h.1, h.2.1, h.2.2⟩))) (fun h => h.elim (fun h => (Or.inr (Or.inr (Or.inl ⟨h.1, h.2.1, h.2.2⟩)))) (fun h => h.elim)))))
          exact w_iret rfl dX11_air_55 ⟨hI42_, hF44_, trivial, (Or.inl ⟨hs5_, h4_, (Or.inl ⟨h7_, (Or.inr ⟨h8_, (Or.inl ⟨hs36_, h35_, M39_, hI42_, hF43_, r38_, hs45_, rfl, rfl⟩)⟩)⟩)⟩)⟩
        · simp only [li_0, li_90] at h35_
          refine w_if_ne (tgt := 43) dX11_air_34 (by decide) li_0 (fun h9 => (absurd h9 (by decide))) (fun h46_ => ?_)
          refine w_aload_n dX11_air_37 rfl 0 rfl ?_
          refine w_iconst (v := 1) dX11_air_38 (by decide) ?_
          refine w_callV (as := [vI 1]) (rest := []) (c_X11_error l G cy ad d 1 Mz hIz) kV_X11_error (by decide +kernel) (Nat.le_of_ble_eq_true rfl) m_500 rfl rfl rfl ic_11 rfl rfl (by decide) (Nat.le_of_ble_eq_true rfl) dX11_air_39 (fun r47_ M48_ q49_ => ?_)
          obtain ⟨hI51_, hF52_, h50_, hs54_⟩ := q49_
          have hF53_ := hFz.tr hF52_ (fun c k => (fun h => h.elim (fun h => (Or.inr (Or.inr (Or.inr (Or.inl ⟨h.1, h.2⟩))))) (fun h => h.elim)))
          exact w_iret rfl dX11_air_42 ⟨hI51_, hF53_, trivial, (Or.inl ⟨hs5_, h4_, (Or.inl ⟨h7_, (Or.inr ⟨h8_, (Or.inr ⟨hs36_, h35_, M48_, hI51_, hF52_, r47_, hs54_, rfl, rfl⟩)⟩)⟩)⟩)⟩
    · refine w_bipush (v := 99) dX11_air_15 (by decide) ?_
      refine w_goto (tgt := 31) dX11_air_17 (by decide) ?_
      refine w_callS (as := [vI u, vI 0, vI 99]) (rest := []) (c_X11_within l G cy ad d u 0 99 Mz hIz) kS_X11_within (by decide +kernel) (Nat.le_of_ble_eq_true rfl) m_494 rfl rfl (by decide) (Nat.le_of_ble_eq_true rfl) dX11_air_31 (fun r55_ M56_ q57_ => ?_)
      obtain ⟨rfl, h58_, hs59_⟩ := q57_
      rcases h58_ with ⟨rfl, h58_⟩ | ⟨rfl, h58_⟩
      · simp only [li_0, li_99] at h58_
        refine w_if_ne (tgt := 43) dX11_air_34 (by decide) li_1 (fun h60_ => ?_) (fun h9 => (absurd h9 (by decide)))
        refine w_aload_n dX11_air_43 rfl 0 rfl ?_
        refine w_getR (c' := (10, 0, 0)) fl_RX11_10 rfl rfl ic_11 dX11_air_44 rfl ?_
        refine w_getR (c' := (2, 0, 0)) fl_RX11_114 rfl rfl (ic_10 (by decide)) dX11_air_47 rfl ?_
        refine w_iload_n dX11_air_50 rfl 1 rfl ?_
        refine w_iload_n dX11_air_51 rfl 2 rfl ?_
        refine w_callV (as := [vI v, vI u]) (rest := []) (c_X2_changeAir l G cy ad d 0 v u Mz hIz (by first | decide | (unfold vF; omega) | (unfold vRw; omega))) kV_X2_changeAir (by decide +kernel) (Nat.le_of_ble_eq_true rfl) m_585 rfl rfl rfl (ic_2 (by decide)) rfl rfl (by decide) (Nat.le_of_ble_eq_true rfl) dX11_air_52 (fun r61_ M62_ q63_ => ?_)
        obtain ⟨hI65_, hF66_, h64_, hs68_⟩ := q63_
        have hF67_ := hFz.tr hF66_ (fun c k => (fun h => h.elim (fun h => (Or.inl ⟨h.1, h.2.1, h.2.2⟩)) (fun h => h.elim (fun h => (Or.inr (Or.inl ⟨h.1, h.2.1, h.2.2⟩))) (fun h => h.elim (fun h => (Or.inr (Or.inr (Or.inl ⟨h.1, h.2.1, h.2.2⟩)))) (fun h => h.elim)))))
        exact w_iret rfl dX11_air_55 ⟨hI65_, hF67_, trivial, (Or.inl ⟨hs5_, h4_, (Or.inr ⟨h7_, (Or.inl ⟨hs59_, h58_, M62_, hI65_, hF66_, r61_, hs68_, rfl, rfl⟩)⟩)⟩)⟩
      · simp only [li_0, li_99] at h58_
        refine w_if_ne (tgt := 43) dX11_air_34 (by decide) li_0 (fun h9 => (absurd h9 (by decide))) (fun h69_ => ?_)
        refine w_aload_n dX11_air_37 rfl 0 rfl ?_
        refine w_iconst (v := 1) dX11_air_38 (by decide) ?_
        refine w_callV (as := [vI 1]) (rest := []) (c_X11_error l G cy ad d 1 Mz hIz) kV_X11_error (by decide +kernel) (Nat.le_of_ble_eq_true rfl) m_500 rfl rfl rfl ic_11 rfl rfl (by decide) (Nat.le_of_ble_eq_true rfl) dX11_air_39 (fun r70_ M71_ q72_ => ?_)
        obtain ⟨hI74_, hF75_, h73_, hs77_⟩ := q72_
        have hF76_ := hFz.tr hF75_ (fun c k => (fun h => h.elim (fun h => (Or.inr (Or.inr (Or.inr (Or.inl ⟨h.1, h.2⟩))))) (fun h => h.elim)))
        exact w_iret rfl dX11_air_42 ⟨hI74_, hF76_, trivial, (Or.inl ⟨hs5_, h4_, (Or.inr ⟨h7_, (Or.inr ⟨hs59_, h58_, M71_, hI74_, hF75_, r70_, hs77_, rfl, rfl⟩)⟩)⟩)⟩
  · simp only [li_0, li_2] at h4_
    refine w_if_eq (tgt := 37) dX11_air_6 (by decide) li_0 (fun h78_ => ?_) (fun h9 => (absurd h9 (by decide)))
    refine w_aload_n dX11_air_37 rfl 0 rfl ?_
    refine w_iconst (v := 1) dX11_air_38 (by decide) ?_
    refine w_callV (as := [vI 1]) (rest := []) (c_X11_error l G cy ad d 1 Mz hIz) kV_X11_error (by decide +kernel) (Nat.le_of_ble_eq_true rfl) m_500 rfl rfl rfl ic_11 rfl rfl (by decide) (Nat.le_of_ble_eq_true rfl) dX11_air_39 (fun r79_ M80_ q81_ => ?_)
    obtain ⟨hI83_, hF84_, h82_, hs86_⟩ := q81_
    have hF85_ := hFz.tr hF84_ (fun c k => (fun h => h.elim (fun h => (Or.inr (Or.inr (Or.inr (Or.inl ⟨h.1, h.2⟩))))) (fun h => h.elim)))
    exact w_iret rfl dX11_air_42 ⟨hI83_, hF85_, trivial, (Or.inr ⟨hs5_, h4_, M80_, hI83_, hF84_, r79_, hs86_, rfl, rfl⟩)⟩
def S_c_X11_walker : rf → Nat → Prop := fun c k => (c.1 = 9 ∧ c.2.1 = 0 ∧ k = 0) ∨ (c.1 = 9 ∧ c.2.1 = 0 ∧ k = 1) ∨ (c.1 = 9 ∧ c.2.1 = 0 ∧ k = 2) ∨ (c.1 = 9 ∧ c.2.1 = 0 ∧ k = 3) ∨ (c.1 = 9 ∧ c.2.1 = 0 ∧ k = 4) ∨ (c.1 = 9 ∧ c.2.1 = 0 ∧ k = 5) ∨ (c.1 = 9 ∧ c.2.1 = 0 ∧ k = 6) ∨ (c.1 = 9 ∧ c.2.1 = 0 ∧ k = 7) ∨ (c.1 = 9 ∧ c.2.1 = 0 ∧ k = 8) ∨ (c.1 = 40 ∧ c.2.1 = 0) ∨ (c.1 = 41 ∧ c.2.1 = 0) ∨ (c.1 = 35 ∧ c.2.1 = 0) ∨ (c.1 = 10 ∧ c.2.1 = 0 ∧ k = 6) ∨ (c.1 = 44 ∧ c.2.1 = 0) ∨ False
def SP_X11_walker (v : Int32) (u : Int32) (t : Int32) (Mz : mM) (r_ : Int32) (M_ : mM) : Prop := (((SP_X11_isWalkerKind v Mz (1 : Int32)) ∧ (0 ≤ v.toInt ∧ v.toInt ≤ 7) ∧ (((SP_X7_isCell u Mz (1 : Int32)) ∧ (0 ≤ u.toInt ∧ u.toInt ≤ 191) ∧ (((SP_X7_isSide t Mz (1 : Int32)) ∧ (0 ≤ t.toInt ∧ t.toInt ≤ 7) ∧ (((SP_X7_isFree 0 u Mz (1 : Int32)) ∧ (0 ≤ u.toInt ∧ u.toInt ≤ 191) ∧ ∃ z25_ : Int32, (z25_ = Mz.1 (10, 0, 0) 6) ∧ (((z25_.toInt < 8) ∧ ∃ M29_ : mM, (Inv M29_) ∧ (FR (S_c_X10_addWalker 0) Mz M29_) ∧ ∃ r28_ : Int32, (SP_X10_addWalker 0 v u t Mz r28_ M29_) ∧ r_ = r28_ ∧ M_ = M29_) ∨ ((8 ≤ z25_.toInt) ∧ ∃ M37_ : mM, (Inv M37_) ∧ (FR (S_c_X11_error) Mz M37_) ∧ ∃ r36_ : Int32, (SP_X11_error 4 Mz r36_ M37_) ∧ r_ = r36_ ∧ M_ = M37_))) ∨ ((SP_X7_isFree 0 u Mz (0 : Int32)) ∧ ∃ M46_ : mM, (Inv M46_) ∧ (FR (S_c_X11_error) Mz M46_) ∧ ∃ r45_ : Int32, (SP_X11_error 3 Mz r45_ M46_) ∧ r_ = r45_ ∧ M_ = M46_))) ∨ ((SP_X7_isSide t Mz (0 : Int32)) ∧ (¬ (0 ≤ t.toInt ∧ t.toInt ≤ 7)) ∧ ∃ M55_ : mM, (Inv M55_) ∧ (FR (S_c_X11_error) Mz M55_) ∧ ∃ r54_ : Int32, (SP_X11_error 1 Mz r54_ M55_) ∧ r_ = r54_ ∧ M_ = M55_))) ∨ ((SP_X7_isCell u Mz (0 : Int32)) ∧ (¬ (0 ≤ u.toInt ∧ u.toInt ≤ 191)) ∧ ∃ M64_ : mM, (Inv M64_) ∧ (FR (S_c_X11_error) Mz M64_) ∧ ∃ r63_ : Int32, (SP_X11_error 1 Mz r63_ M64_) ∧ r_ = r63_ ∧ M_ = M64_))) ∨ ((SP_X11_isWalkerKind v Mz (0 : Int32)) ∧ (¬ (0 ≤ v.toInt ∧ v.toInt ≤ 7)) ∧ ∃ M73_ : mM, (Inv M73_) ∧ (FR (S_c_X11_error) Mz M73_) ∧ ∃ r72_ : Int32, (SP_X11_error 1 Mz r72_ M73_) ∧ r_ = r72_ ∧ M_ = M73_))
set_option maxHeartbeats 4000000 in
set_option maxRecDepth 100000 in
theorem c_X11_walker (l : Launch) (G : va_G) (cy : Nat → ClassId) (ad : rf → Nat) (d : Nat) (v : Int32) (u : Int32) (t : Int32) (Mz : mM) (hIz : Inv Mz) : WP CC l G cy ad yX11_walker cX11_walker 4 (some .int) (d + 3) 0 [(0, vR (11, 0, 0)), (1, vI v), (2, vI u), (3, vI t)] [] Mz (fun r M' => Inv M' ∧ FR (S_c_X11_walker) Mz M' ∧ (True) ∧ SP_X11_walker v u t Mz r M') := by
  have hFz : FR (S_c_X11_walker) Mz Mz := FR.self
  refine w_iload_n dX11_walker_0 rfl 1 rfl ?_
  refine w_callS (as := [vI v]) (rest := []) (c_X11_isWalkerKind l G cy ad (d + 1) v Mz hIz) kS_X11_isWalkerKind (by decide +kernel) (Nat.le_of_ble_eq_true rfl) m_593 rfl rfl (by decide) (Nat.le_of_ble_eq_true rfl) dX11_walker_1 (fun r1_ M2_ q3_ => ?_)
  obtain ⟨rfl, h4_, hs5_⟩ := q3_
  rcases h4_ with ⟨rfl, h4_⟩ | ⟨rfl, h4_⟩
  · refine w_if_eq (tgt := 21) dX11_walker_4 (by decide) li_1 (fun h9 => (absurd h9 (by decide))) (fun h6_ => ?_)
    refine w_iload_n dX11_walker_7 rfl 2 rfl ?_
    refine w_callS (as := [vI u]) (rest := []) (c_X7_isCell l G cy ad (d + 2) u Mz hIz) kS_X7_isCell (by decide +kernel) (Nat.le_of_ble_eq_true rfl) m_497 rfl rfl (by decide) (Nat.le_of_ble_eq_true rfl) dX11_walker_8 (fun r7_ M8_ q9_ => ?_)
    obtain ⟨rfl, h10_, hs11_⟩ := q9_
    rcases h10_ with ⟨rfl, h10_⟩ | ⟨rfl, h10_⟩
    · refine w_if_eq (tgt := 21) dX11_walker_11 (by decide) li_1 (fun h9 => (absurd h9 (by decide))) (fun h12_ => ?_)
      refine w_iload_n dX11_walker_14 rfl 3 rfl ?_
      refine w_callS (as := [vI t]) (rest := []) (c_X7_isSide l G cy ad (d + 2) t Mz hIz) kS_X7_isSide (by decide +kernel) (Nat.le_of_ble_eq_true rfl) m_539 rfl rfl (by decide) (Nat.le_of_ble_eq_true rfl) dX11_walker_15 (fun r13_ M14_ q15_ => ?_)
      obtain ⟨rfl, h16_, hs17_⟩ := q15_
      rcases h16_ with ⟨rfl, h16_⟩ | ⟨rfl, h16_⟩
      · refine w_if_ne (tgt := 27) dX11_walker_18 (by decide) li_1 (fun h18_ => ?_) (fun h9 => (absurd h9 (by decide)))
        refine w_aload_n dX11_walker_27 rfl 0 rfl ?_
        refine w_getR (c' := (10, 0, 0)) fl_RX11_10 rfl rfl ic_11 dX11_walker_28 rfl ?_
        refine w_getR (c' := (7, 0, 0)) fl_RX11_71 rfl rfl (ic_10 (by decide)) dX11_walker_31 rfl ?_
        refine w_iload_n dX11_walker_34 rfl 2 rfl ?_
        refine w_callV (as := [vI u]) (rest := []) (c_X7_isFree l G cy ad (d + 1) 0 u Mz hIz (by first | decide | (unfold vF; omega) | (unfold vRw; omega))) kV_X7_isFree (by decide +kernel) (Nat.le_of_ble_eq_true rfl) m_505 rfl rfl rfl (ic_7 (by decide)) rfl rfl (by decide) (Nat.le_of_ble_eq_true rfl) dX11_walker_35 (fun r19_ M20_ q21_ => ?_)
        obtain ⟨rfl, h22_, hs23_⟩ := q21_
        rcases h22_ with ⟨rfl, h22_⟩ | rfl
        · refine w_if_ne (tgt := 47) dX11_walker_38 (by decide) li_1 (fun h24_ => ?_) (fun h9 => (absurd h9 (by decide)))
          refine w_aload_n dX11_walker_47 rfl 0 rfl ?_
          refine w_getR (c' := (10, 0, 0)) fl_RX11_10 rfl rfl ic_11 dX11_walker_48 rfl ?_
          refine w_getI fl_RX11_148 rfl rfl (ic_10 (by decide)) dX11_walker_51 (fun z25_ e26_ => ?_)
          refine w_bipush (v := 8) dX11_walker_54 (by decide) ?_
          refine w_icmp_lt (tgt := 65) dX11_walker_56 (by decide) (rfl : z25_.toInt = z25_.toInt) li_8 (fun h27_ => ?_) (fun h27_ => ?_)
          · refine w_aload_n dX11_walker_65 rfl 0 rfl ?_
            refine w_getR (c' := (10, 0, 0)) fl_RX11_10 rfl rfl ic_11 dX11_walker_66 rfl ?_
            refine w_iload_n dX11_walker_69 rfl 1 rfl ?_
            refine w_iload_n dX11_walker_70 rfl 2 rfl ?_
            refine w_iload_n dX11_walker_71 rfl 3 rfl ?_
            refine w_callV (as := [vI v, vI u, vI t]) (rest := []) (c_X10_addWalker l G cy ad d 0 v u t Mz hIz (by first | decide | (unfold vF; omega) | (unfold vRw; omega))) kV_X10_addWalker (by decide +kernel) (Nat.le_of_ble_eq_true rfl) m_596 rfl rfl rfl (ic_10 (by decide)) rfl rfl (by decide) (Nat.le_of_ble_eq_true rfl) dX11_walker_72 (fun r28_ M29_ q30_ => ?_)
            obtain ⟨hI32_, hF33_, h31_, hs35_⟩ := q30_
            have hF34_ := hFz.tr hF33_ (fun c k => (fun h => h.elim (fun h => (Or.inl ⟨h.1, h.2.1, h.2.2⟩)) (fun h => h.elim (fun h => (Or.inr (Or.inl ⟨h.1, h.2.1, h.2.2⟩))) (fun h => h.elim (fun h => (Or.inr (Or.inr (Or.inl ⟨h.1, h.2.1, h.2.2⟩)))) (fun h => h.elim (fun h => (Or.inr (Or.inr (Or.inr (Or.inl ⟨h.1, h.2.1, h.2.2⟩))))) (fun h => h.elim (fun h => (Or.inr (Or.inr (Or.inr (Or.inr (Or.inl ⟨h.1, h.2.1, h.2.2⟩)))))) (fun h => h.elim (fun h => (Or.inr (Or.inr (Or.inr (Or.inr (Or.inr (Or.inl ⟨h.1, h.2.1, h.2.2⟩))))))) (fun h => h.elim (fun h => (Or.inr (Or.inr (Or.inr (Or.inr (Or.inr (Or.inr (Or.inl ⟨h.1, h.2.1, h.2.2⟩)))))))) (fun h => h.elim (fun h => (Or.inr (Or.inr (Or.inr (Or.inr (Or.inr (Or.inr (Or.inr (Or.inl ⟨h.1, h.2.1, h.2.2⟩))))))))) (fun h => h.elim (fun h => (Or.inr (Or.inr (Or.inr (Or.inr (Or.inr (Or.inr (Or.inr (Or.inr (Or.inl ⟨h.1, h.2.1, h.2.2⟩)))))))))) (fun h => h.elim (fun h => (Or.inr (Or.inr (Or.inr (Or.inr (Or.inr (Or.inr (Or.inr (Or.inr (Or.inr (Or.inl ⟨h.1, h.2⟩))))))))))) (fun h => h.elim (fun h => (Or.inr (Or.inr (Or.inr (Or.inr (Or.inr (Or.inr (Or.inr (Or.inr (Or.inr (Or.inr (Or.inl ⟨h.1, h.2⟩)))))))))))) (fun h => h.elim (fun h => (Or.inr (Or.inr (Or.inr (Or.inr (Or.inr (Or.inr (Or.inr (Or.inr (Or.inr (Or.inr (Or.inr (Or.inl ⟨h.1, h.2⟩))))))))))))) (fun h => h.elim (fun h => (Or.inr (Or.inr (Or.inr (Or.inr (Or.inr (Or.inr (Or.inr (Or.inr (Or.inr (Or.inr (Or.inr (Or.inr (Or.inl ⟨h.1, h.2.1, h.2.2⟩)))))))))))))) (fun h => h.elim)))))))))))))))
            exact w_iret rfl dX11_walker_75 ⟨hI32_, hF34_, trivial, (Or.inl ⟨hs5_, h4_, (Or.inl ⟨hs11_, h10_, (Or.inl ⟨hs17_, h16_, (Or.inl ⟨hs23_, h22_, z25_, e26_, (Or.inl ⟨h27_, M29_, hI32_, hF33_, r28_, hs35_, rfl, rfl⟩)⟩)⟩)⟩)⟩)⟩
          · refine w_aload_n dX11_walker_59 rfl 0 rfl ?_
            refine w_iconst (v := 4) dX11_walker_60 (by decide) ?_
            refine w_callV (as := [vI 4]) (rest := []) (c_X11_error l G cy ad (d + 2) 4 Mz hIz) kV_X11_error (by decide +kernel) (Nat.le_of_ble_eq_true rfl) m_500 rfl rfl rfl ic_11 rfl rfl (by decide) (Nat.le_of_ble_eq_true rfl) dX11_walker_61 (fun r36_ M37_ q38_ => ?_)
            obtain ⟨hI40_, hF41_, h39_, hs43_⟩ := q38_
            have hF42_ := hFz.tr hF41_ (fun c k => (fun h => h.elim (fun h => (Or.inr (Or.inr (Or.inr (Or.inr (Or.inr (Or.inr (Or.inr (Or.inr (Or.inr (Or.inr (Or.inr (Or.inr (Or.inr (Or.inl ⟨h.1, h.2⟩))))))))))))))) (fun h => h.elim)))
            exact w_iret rfl dX11_walker_64 ⟨hI40_, hF42_, trivial, (Or.inl ⟨hs5_, h4_, (Or.inl ⟨hs11_, h10_, (Or.inl ⟨hs17_, h16_, (Or.inl ⟨hs23_, h22_, z25_, e26_, (Or.inr ⟨h27_, M37_, hI40_, hF41_, r36_, hs43_, rfl, rfl⟩)⟩)⟩)⟩)⟩)⟩
        · refine w_if_ne (tgt := 47) dX11_walker_38 (by decide) li_0 (fun h9 => (absurd h9 (by decide))) (fun h44_ => ?_)
          refine w_aload_n dX11_walker_41 rfl 0 rfl ?_
          refine w_iconst (v := 3) dX11_walker_42 (by decide) ?_
          refine w_callV (as := [vI 3]) (rest := []) (c_X11_error l G cy ad (d + 2) 3 Mz hIz) kV_X11_error (by decide +kernel) (Nat.le_of_ble_eq_true rfl) m_500 rfl rfl rfl ic_11 rfl rfl (by decide) (Nat.le_of_ble_eq_true rfl) dX11_walker_43 (fun r45_ M46_ q47_ => ?_)
          obtain ⟨hI49_, hF50_, h48_, hs52_⟩ := q47_
          have hF51_ := hFz.tr hF50_ (fun c k => (fun h => h.elim (fun h => (Or.inr (Or.inr (Or.inr (Or.inr (Or.inr (Or.inr (Or.inr (Or.inr (Or.inr (Or.inr (Or.inr (Or.inr (Or.inr (Or.inl ⟨h.1, h.2⟩))))))))))))))) (fun h => h.elim)))
          exact w_iret rfl dX11_walker_46 ⟨hI49_, hF51_, trivial, (Or.inl ⟨hs5_, h4_, (Or.inl ⟨hs11_, h10_, (Or.inl ⟨hs17_, h16_, (Or.inr ⟨hs23_, M46_, hI49_, hF50_, r45_, hs52_, rfl, rfl⟩)⟩)⟩)⟩)⟩
      · refine w_if_ne (tgt := 27) dX11_walker_18 (by decide) li_0 (fun h9 => (absurd h9 (by decide))) (fun h53_ => ?_)
        refine w_aload_n dX11_walker_21 rfl 0 rfl ?_
        refine w_iconst (v := 1) dX11_walker_22 (by decide) ?_
        refine w_callV (as := [vI 1]) (rest := []) (c_X11_error l G cy ad (d + 2) 1 Mz hIz) kV_X11_error (by decide +kernel) (Nat.le_of_ble_eq_true rfl) m_500 rfl rfl rfl ic_11 rfl rfl (by decide) (Nat.le_of_ble_eq_true rfl) dX11_walker_23 (fun r54_ M55_ q56_ => ?_)
        obtain ⟨hI58_, hF59_, h57_, hs61_⟩ := q56_
        have hF60_ := hFz.tr hF59_ (fun c k => (fun h => h.elim (fun h => (Or.inr (Or.inr (Or.inr (Or.inr (Or.inr (Or.inr (Or.inr (Or.inr (Or.inr (Or.inr (Or.inr (Or.inr (Or.inr (Or.inl ⟨h.1, h.2⟩))))))))))))))) (fun h => h.elim)))
        exact w_iret rfl dX11_walker_26 ⟨hI58_, hF60_, trivial, (Or.inl ⟨hs5_, h4_, (Or.inl ⟨hs11_, h10_, (Or.inr ⟨hs17_, h16_, M55_, hI58_, hF59_, r54_, hs61_, rfl, rfl⟩)⟩)⟩)⟩
    · refine w_if_eq (tgt := 21) dX11_walker_11 (by decide) li_0 (fun h62_ => ?_) (fun h9 => (absurd h9 (by decide)))
      refine w_aload_n dX11_walker_21 rfl 0 rfl ?_
      refine w_iconst (v := 1) dX11_walker_22 (by decide) ?_
      refine w_callV (as := [vI 1]) (rest := []) (c_X11_error l G cy ad (d + 2) 1 Mz hIz) kV_X11_error (by decide +kernel) (Nat.le_of_ble_eq_true rfl) m_500 rfl rfl rfl ic_11 rfl rfl (by decide) (Nat.le_of_ble_eq_true rfl) dX11_walker_23 (fun r63_ M64_ q65_ => ?_)
      obtain ⟨hI67_, hF68_, h66_, hs70_⟩ := q65_
      have hF69_ := hFz.tr hF68_ (fun c k => (fun h => h.elim (fun h => (Or.inr (Or.inr (Or.inr (Or.inr (Or.inr (Or.inr (Or.inr (Or.inr (Or.inr (Or.inr (Or.inr (Or.inr (Or.inr (Or.inl ⟨h.1, h.2⟩))))))))))))))) (fun h => h.elim)))
      exact w_iret rfl dX11_walker_26 ⟨hI67_, hF69_, trivial, (Or.inl ⟨hs5_, h4_, (Or.inr ⟨hs11_, h10_, M64_, hI67_, hF68_, r63_, hs70_, rfl, rfl⟩)⟩)⟩
  · refine w_if_eq (tgt := 21) dX11_walker_4 (by decide) li_0 (fun h71_ => ?_) (fun h9 => (absurd h9 (by decide)))
    refine w_aload_n dX11_walker_21 rfl 0 rfl ?_
    refine w_iconst (v := 1) dX11_walker_22 (by decide) ?_
    refine w_callV (as := [vI 1]) (rest := []) (c_X11_error l G cy ad (d + 2) 1 Mz hIz) kV_X11_error (by decide +kernel) (Nat.le_of_ble_eq_true rfl) m_500 rfl rfl rfl ic_11 rfl rfl (by decide) (Nat.le_of_ble_eq_true rfl) dX11_walker_23 (fun r72_ M73_ q74_ => ?_)
    obtain ⟨hI76_, hF77_, h75_, hs79_⟩ := q74_
    have hF78_ := hFz.tr hF77_ (fun c k => (fun h => h.elim (fun h => (Or.inr (Or.inr (Or.inr (Or.inr (Or.inr (Or.inr (Or.inr (Or.inr (Or.inr (Or.inr (Or.inr (Or.inr (Or.inr (Or.inl ⟨h.1, h.2⟩))))))))))))))) (fun h => h.elim)))
    exact w_iret rfl dX11_walker_26 ⟨hI76_, hF78_, trivial, (Or.inr ⟨hs5_, h4_, M73_, hI76_, hF77_, r72_, hs79_, rfl, rfl⟩)⟩
def S_c_X11_walkerIs : rf → Nat → Prop := fun c k => (c.1 = 44 ∧ c.2.1 = 0) ∨ False
def SP_X11_walkerIs (v : Int32) (u : Int32) (Mz : mM) (r_ : Int32) (M_ : mM) : Prop := (((SP_X10_hasWalker 0 v Mz (1 : Int32)) ∧ (0 ≤ v.toInt ∧ v.toInt ≤ 7) ∧ (((SP_X11_within u 0 11 Mz (1 : Int32)) ∧ (0 ≤ u.toInt ∧ u.toInt ≤ 11) ∧ ∃ j13_ : Nat, ((j13_ : Int) = v.toInt) ∧ (j13_ < 8) ∧ ∃ r16_ : Int32, (SP_X9_factOf 0 j13_ u Mz r16_) ∧ r_ = r16_ ∧ M_ = Mz) ∨ ((SP_X11_within u 0 11 Mz (0 : Int32)) ∧ (¬ (0 ≤ u.toInt ∧ u.toInt ≤ 11)) ∧ ∃ M23_ : mM, (Inv M23_) ∧ (FR (S_c_X11_error) Mz M23_) ∧ ∃ r22_ : Int32, (SP_X11_error 1 Mz r22_ M23_) ∧ r_ = r22_ ∧ M_ = M23_))) ∨ ((SP_X10_hasWalker 0 v Mz (0 : Int32)) ∧ ∃ M32_ : mM, (Inv M32_) ∧ (FR (S_c_X11_error) Mz M32_) ∧ ∃ r31_ : Int32, (SP_X11_error 1 Mz r31_ M32_) ∧ r_ = r31_ ∧ M_ = M32_))
theorem lf_c_X11_walkerIs_0  (v : Int32) (h4_ : 0 ≤ v.toInt ∧ v.toInt ≤ 7) : 0 ≤ v.toInt ∧ v.toInt < ((8 : Nat) : Int) := by have r_v := rngI v; omega
set_option maxHeartbeats 4000000 in
set_option maxRecDepth 100000 in
theorem c_X11_walkerIs (l : Launch) (G : va_G) (cy : Nat → ClassId) (ad : rf → Nat) (d : Nat) (v : Int32) (u : Int32) (Mz : mM) (hIz : Inv Mz) : WP CC l G cy ad yX11_walkerIs cX11_walkerIs 3 (some .int) (d + 2) 0 [(0, vR (11, 0, 0)), (1, vI v), (2, vI u)] [] Mz (fun r M' => Inv M' ∧ FR (S_c_X11_walkerIs) Mz M' ∧ (True) ∧ SP_X11_walkerIs v u Mz r M') := by
  have hFz : FR (S_c_X11_walkerIs) Mz Mz := FR.self
  refine w_aload_n dX11_walkerIs_0 rfl 0 rfl ?_
  refine w_getR (c' := (10, 0, 0)) fl_RX11_10 rfl rfl ic_11 dX11_walkerIs_1 rfl ?_
  refine w_iload_n dX11_walkerIs_4 rfl 1 rfl ?_
  refine w_callV (as := [vI v]) (rest := []) (c_X10_hasWalker l G cy ad (d + 1) 0 v Mz hIz (by first | decide | (unfold vF; omega) | (unfold vRw; omega))) kV_X10_hasWalker (by decide +kernel) (Nat.le_of_ble_eq_true rfl) m_609 rfl rfl rfl (ic_10 (by decide)) rfl rfl (by decide) (Nat.le_of_ble_eq_true rfl) dX11_walkerIs_5 (fun r1_ M2_ q3_ => ?_)
  obtain ⟨rfl, h4_, hs5_⟩ := q3_
  rcases h4_ with ⟨rfl, h4_⟩ | rfl
  · refine w_if_eq (tgt := 21) dX11_walkerIs_8 (by decide) li_1 (fun h9 => (absurd h9 (by decide))) (fun h6_ => ?_)
    refine w_iload_n dX11_walkerIs_11 rfl 2 rfl ?_
    refine w_iconst (v := 0) dX11_walkerIs_12 (by decide) ?_
    refine w_bipush (v := 11) dX11_walkerIs_13 (by decide) ?_
    refine w_callS (as := [vI u, vI 0, vI 11]) (rest := []) (c_X11_within l G cy ad (d + 1) u 0 11 Mz hIz) kS_X11_within (by decide +kernel) (Nat.le_of_ble_eq_true rfl) m_494 rfl rfl (by decide) (Nat.le_of_ble_eq_true rfl) dX11_walkerIs_15 (fun r7_ M8_ q9_ => ?_)
    obtain ⟨rfl, h10_, hs11_⟩ := q9_
    rcases h10_ with ⟨rfl, h10_⟩ | ⟨rfl, h10_⟩
    · simp only [li_0, li_11] at h10_
      refine w_if_ne (tgt := 27) dX11_walkerIs_18 (by decide) li_1 (fun h12_ => ?_) (fun h9 => (absurd h9 (by decide)))
      refine w_aload_n dX11_walkerIs_27 rfl 0 rfl ?_
      refine w_getR (c' := (10, 0, 0)) fl_RX11_10 rfl rfl ic_11 dX11_walkerIs_28 rfl ?_
      refine w_getR (c' := (42, 0, 0)) fl_RX11_157 rfl rfl (ic_10 (by decide)) dX11_walkerIs_31 rfl ?_
      refine w_iload_n dX11_walkerIs_34 rfl 1 rfl ?_
      refine w_aald rfl rfl rfl (fun _ => rfl) (ic_42 (by decide)) (rfl : v.toInt = v.toInt) (lf_c_X11_walkerIs_0 v h4_) dX11_walkerIs_35 (fun j13_ h14_ h15_ => ?_)
      refine w_iload_n dX11_walkerIs_36 rfl 2 rfl ?_
      refine w_callV (as := [vI u]) (rest := []) (c_X9_factOf l G cy ad d 0 j13_ u Mz hIz (by first | decide | (unfold vF; omega) | (unfold vRw; omega)) h15_) kV_X9_factOf (by decide +kernel) (Nat.le_of_ble_eq_true rfl) m_613 rfl rfl rfl (ic_9 (by decide) h15_) rfl rfl (by decide) (Nat.le_of_ble_eq_true rfl) dX11_walkerIs_37 (fun r16_ M17_ q18_ => ?_)
      obtain ⟨rfl, h19_, hs20_⟩ := q18_
      exact w_iret rfl dX11_walkerIs_40 ⟨hIz, hFz, trivial, (Or.inl ⟨hs5_, h4_, (Or.inl ⟨hs11_, h10_, j13_, h14_, h15_, r16_, hs20_, rfl, rfl⟩)⟩)⟩
    · simp only [li_0, li_11] at h10_
      refine w_if_ne (tgt := 27) dX11_walkerIs_18 (by decide) li_0 (fun h9 => (absurd h9 (by decide))) (fun h21_ => ?_)
      refine w_aload_n dX11_walkerIs_21 rfl 0 rfl ?_
      refine w_iconst (v := 1) dX11_walkerIs_22 (by decide) ?_
      refine w_callV (as := [vI 1]) (rest := []) (c_X11_error l G cy ad (d + 1) 1 Mz hIz) kV_X11_error (by decide +kernel) (Nat.le_of_ble_eq_true rfl) m_500 rfl rfl rfl ic_11 rfl rfl (by decide) (Nat.le_of_ble_eq_true rfl) dX11_walkerIs_23 (fun r22_ M23_ q24_ => ?_)
      obtain ⟨hI26_, hF27_, h25_, hs29_⟩ := q24_
      have hF28_ := hFz.tr hF27_ (fun c k => (fun h => h.elim (fun h => (Or.inl ⟨h.1, h.2⟩)) (fun h => h.elim)))
      exact w_iret rfl dX11_walkerIs_26 ⟨hI26_, hF28_, trivial, (Or.inl ⟨hs5_, h4_, (Or.inr ⟨hs11_, h10_, M23_, hI26_, hF27_, r22_, hs29_, rfl, rfl⟩)⟩)⟩
  · refine w_if_eq (tgt := 21) dX11_walkerIs_8 (by decide) li_0 (fun h30_ => ?_) (fun h9 => (absurd h9 (by decide)))
    refine w_aload_n dX11_walkerIs_21 rfl 0 rfl ?_
    refine w_iconst (v := 1) dX11_walkerIs_22 (by decide) ?_
    refine w_callV (as := [vI 1]) (rest := []) (c_X11_error l G cy ad (d + 1) 1 Mz hIz) kV_X11_error (by decide +kernel) (Nat.le_of_ble_eq_true rfl) m_500 rfl rfl rfl ic_11 rfl rfl (by decide) (Nat.le_of_ble_eq_true rfl) dX11_walkerIs_23 (fun r31_ M32_ q33_ => ?_)
    obtain ⟨hI35_, hF36_, h34_, hs38_⟩ := q33_
    have hF37_ := hFz.tr hF36_ (fun c k => (fun h => h.elim (fun h => (Or.inl ⟨h.1, h.2⟩)) (fun h => h.elim)))
    exact w_iret rfl dX11_walkerIs_26 ⟨hI35_, hF37_, trivial, (Or.inr ⟨hs5_, M32_, hI35_, hF36_, r31_, hs38_, rfl, rfl⟩)⟩
def S_c_X11_as : rf → Nat → Prop := fun c k => (c.1 = 44 ∧ c.2.1 = 0) ∨ False
def SP_X11_as (v : Int32) (u : Int32) (Mz : mM) (r_ : Int32) (M_ : mM) : Prop := (((SP_X10_hasWalker 0 v Mz (1 : Int32)) ∧ (0 ≤ v.toInt ∧ v.toInt ≤ 7) ∧ (((SP_X11_isWalkerKind u Mz (1 : Int32)) ∧ (0 ≤ u.toInt ∧ u.toInt ≤ 7) ∧ ∃ j13_ : Nat, ((j13_ : Int) = v.toInt) ∧ (j13_ < 8) ∧ ∃ r16_ : Int32, (SP_X9_isOf 0 j13_ u Mz r16_) ∧ ((0 ≤ r16_.toInt ∧ r16_.toInt ≤ 1)) ∧ (((¬ r16_.toInt = 0) ∧ ∃ j22_ : Nat, ((j22_ : Int) = v.toInt) ∧ (j22_ < 8) ∧ ∃ r25_ : Int32, (SP_X9_reach 0 j22_ Mz r25_) ∧ (0 ≤ r25_.toInt ∧ r25_.toInt ≤ 12) ∧ r_ = r25_ ∧ M_ = Mz) ∨ ((r16_.toInt = 0) ∧ ∃ M31_ : mM, (Inv M31_) ∧ (FR (S_c_X11_error) Mz M31_) ∧ ∃ r30_ : Int32, (SP_X11_error 5 Mz r30_ M31_) ∧ r_ = r30_ ∧ M_ = M31_))) ∨ ((SP_X11_isWalkerKind u Mz (0 : Int32)) ∧ (¬ (0 ≤ u.toInt ∧ u.toInt ≤ 7)) ∧ ∃ M40_ : mM, (Inv M40_) ∧ (FR (S_c_X11_error) Mz M40_) ∧ ∃ r39_ : Int32, (SP_X11_error 1 Mz r39_ M40_) ∧ r_ = r39_ ∧ M_ = M40_))) ∨ ((SP_X10_hasWalker 0 v Mz (0 : Int32)) ∧ ∃ M49_ : mM, (Inv M49_) ∧ (FR (S_c_X11_error) Mz M49_) ∧ ∃ r48_ : Int32, (SP_X11_error 1 Mz r48_ M49_) ∧ r_ = r48_ ∧ M_ = M49_))
theorem lf_c_X11_as_0  (v : Int32) (h4_ : 0 ≤ v.toInt ∧ v.toInt ≤ 7) : 0 ≤ v.toInt ∧ v.toInt < ((8 : Nat) : Int) := by have r_v := rngI v; omega
theorem lf_c_X11_as_1  (v : Int32) (j13_ : Nat) (h4_ : 0 ≤ v.toInt ∧ v.toInt ≤ 7) (h14_ : (j13_ : Int) = v.toInt) (h15_ : j13_ < 8) : 0 ≤ v.toInt ∧ v.toInt < ((8 : Nat) : Int) := by have r_v := rngI v; omega
set_option maxHeartbeats 4000000 in
set_option maxRecDepth 100000 in
theorem c_X11_as (l : Launch) (G : va_G) (cy : Nat → ClassId) (ad : rf → Nat) (d : Nat) (v : Int32) (u : Int32) (Mz : mM) (hIz : Inv Mz) : WP CC l G cy ad yX11_as cX11_as 3 (some .int) (d + 2) 0 [(0, vR (11, 0, 0)), (1, vI v), (2, vI u)] [] Mz (fun r M' => Inv M' ∧ FR (S_c_X11_as) Mz M' ∧ (True) ∧ SP_X11_as v u Mz r M') := by
  have hFz : FR (S_c_X11_as) Mz Mz := FR.self
  refine w_aload_n dX11_as_0 rfl 0 rfl ?_
  refine w_getR (c' := (10, 0, 0)) fl_RX11_10 rfl rfl ic_11 dX11_as_1 rfl ?_
  refine w_iload_n dX11_as_4 rfl 1 rfl ?_
  refine w_callV (as := [vI v]) (rest := []) (c_X10_hasWalker l G cy ad (d + 1) 0 v Mz hIz (by first | decide | (unfold vF; omega) | (unfold vRw; omega))) kV_X10_hasWalker (by decide +kernel) (Nat.le_of_ble_eq_true rfl) m_609 rfl rfl rfl (ic_10 (by decide)) rfl rfl (by decide) (Nat.le_of_ble_eq_true rfl) dX11_as_5 (fun r1_ M2_ q3_ => ?_)
  obtain ⟨rfl, h4_, hs5_⟩ := q3_
  rcases h4_ with ⟨rfl, h4_⟩ | rfl
  · refine w_if_eq (tgt := 18) dX11_as_8 (by decide) li_1 (fun h9 => (absurd h9 (by decide))) (fun h6_ => ?_)
    refine w_iload_n dX11_as_11 rfl 2 rfl ?_
    refine w_callS (as := [vI u]) (rest := []) (c_X11_isWalkerKind l G cy ad d u Mz hIz) kS_X11_isWalkerKind (by decide +kernel) (Nat.le_of_ble_eq_true rfl) m_593 rfl rfl (by decide) (Nat.le_of_ble_eq_true rfl) dX11_as_12 (fun r7_ M8_ q9_ => ?_)
    obtain ⟨rfl, h10_, hs11_⟩ := q9_
    rcases h10_ with ⟨rfl, h10_⟩ | ⟨rfl, h10_⟩
    · refine w_if_ne (tgt := 24) dX11_as_15 (by decide) li_1 (fun h12_ => ?_) (fun h9 => (absurd h9 (by decide)))
      refine w_aload_n dX11_as_24 rfl 0 rfl ?_
      refine w_getR (c' := (10, 0, 0)) fl_RX11_10 rfl rfl ic_11 dX11_as_25 rfl ?_
      refine w_getR (c' := (42, 0, 0)) fl_RX11_157 rfl rfl (ic_10 (by decide)) dX11_as_28 rfl ?_
      refine w_iload_n dX11_as_31 rfl 1 rfl ?_
      refine w_aald rfl rfl rfl (fun _ => rfl) (ic_42 (by decide)) (rfl : v.toInt = v.toInt) (lf_c_X11_as_0 v h4_) dX11_as_32 (fun j13_ h14_ h15_ => ?_)
      refine w_iload_n dX11_as_33 rfl 2 rfl ?_
      refine w_callV (as := [vI u]) (rest := []) (c_X9_isOf l G cy ad d 0 j13_ u Mz hIz (by first | decide | (unfold vF; omega) | (unfold vRw; omega)) h15_) kV_X9_isOf (by decide +kernel) (Nat.le_of_ble_eq_true rfl) m_639 rfl rfl rfl (ic_9 (by decide) h15_) rfl rfl (by decide) (Nat.le_of_ble_eq_true rfl) dX11_as_34 (fun r16_ M17_ q18_ => ?_)
      obtain ⟨rfl, h19_, hs20_⟩ := q18_
      refine w_if_ne (tgt := 46) dX11_as_37 (by decide) (rfl : r16_.toInt = r16_.toInt) (fun h21_ => ?_) (fun h21_ => ?_)
      · refine w_aload_n dX11_as_46 rfl 0 rfl ?_
        refine w_getR (c' := (10, 0, 0)) fl_RX11_10 rfl rfl ic_11 dX11_as_47 rfl ?_
        refine w_getR (c' := (42, 0, 0)) fl_RX11_157 rfl rfl (ic_10 (by decide)) dX11_as_50 rfl ?_
        refine w_iload_n dX11_as_53 rfl 1 rfl ?_
        refine w_aald rfl rfl rfl (fun _ => rfl) (ic_42 (by decide)) (rfl : v.toInt = v.toInt) (lf_c_X11_as_1 v j13_ h4_ h14_ h15_) dX11_as_54 (fun j22_ h23_ h24_ => ?_)
        refine w_callV (as := []) (rest := []) (c_X9_reach l G cy ad (d + 1) 0 j22_ Mz hIz (by first | decide | (unfold vF; omega) | (unfold vRw; omega)) h24_) kV_X9_reach (by decide +kernel) (Nat.le_of_ble_eq_true rfl) m_648 rfl rfl rfl (ic_9 (by decide) h24_) rfl rfl (by decide) (Nat.le_of_ble_eq_true rfl) dX11_as_55 (fun r25_ M26_ q27_ => ?_)
        obtain ⟨rfl, h28_, hs29_⟩ := q27_
        exact w_iret rfl dX11_as_58 ⟨hIz, hFz, trivial, (Or.inl ⟨hs5_, h4_, (Or.inl ⟨hs11_, h10_, j13_, h14_, h15_, r16_, hs20_, h19_, (Or.inl ⟨h21_, j22_, h23_, h24_, r25_, hs29_, h28_, rfl, rfl⟩)⟩)⟩)⟩
      · refine w_aload_n dX11_as_40 rfl 0 rfl ?_
        refine w_iconst (v := 5) dX11_as_41 (by decide) ?_
        refine w_callV (as := [vI 5]) (rest := []) (c_X11_error l G cy ad (d + 1) 5 Mz hIz) kV_X11_error (by decide +kernel) (Nat.le_of_ble_eq_true rfl) m_500 rfl rfl rfl ic_11 rfl rfl (by decide) (Nat.le_of_ble_eq_true rfl) dX11_as_42 (fun r30_ M31_ q32_ => ?_)
        obtain ⟨hI34_, hF35_, h33_, hs37_⟩ := q32_
        have hF36_ := hFz.tr hF35_ (fun c k => (fun h => h.elim (fun h => (Or.inl ⟨h.1, h.2⟩)) (fun h => h.elim)))
        exact w_iret rfl dX11_as_45 ⟨hI34_, hF36_, trivial, (Or.inl ⟨hs5_, h4_, (Or.inl ⟨hs11_, h10_, j13_, h14_, h15_, r16_, hs20_, h19_, (Or.inr ⟨h21_, M31_, hI34_, hF35_, r30_, hs37_, rfl, rfl⟩)⟩)⟩)⟩
    · refine w_if_ne (tgt := 24) dX11_as_15 (by decide) li_0 (fun h9 => (absurd h9 (by decide))) (fun h38_ => ?_)
      refine w_aload_n dX11_as_18 rfl 0 rfl ?_
      refine w_iconst (v := 1) dX11_as_19 (by decide) ?_
      refine w_callV (as := [vI 1]) (rest := []) (c_X11_error l G cy ad (d + 1) 1 Mz hIz) kV_X11_error (by decide +kernel) (Nat.le_of_ble_eq_true rfl) m_500 rfl rfl rfl ic_11 rfl rfl (by decide) (Nat.le_of_ble_eq_true rfl) dX11_as_20 (fun r39_ M40_ q41_ => ?_)
      obtain ⟨hI43_, hF44_, h42_, hs46_⟩ := q41_
      have hF45_ := hFz.tr hF44_ (fun c k => (fun h => h.elim (fun h => (Or.inl ⟨h.1, h.2⟩)) (fun h => h.elim)))
      exact w_iret rfl dX11_as_23 ⟨hI43_, hF45_, trivial, (Or.inl ⟨hs5_, h4_, (Or.inr ⟨hs11_, h10_, M40_, hI43_, hF44_, r39_, hs46_, rfl, rfl⟩)⟩)⟩
  · refine w_if_eq (tgt := 18) dX11_as_8 (by decide) li_0 (fun h47_ => ?_) (fun h9 => (absurd h9 (by decide)))
    refine w_aload_n dX11_as_18 rfl 0 rfl ?_
    refine w_iconst (v := 1) dX11_as_19 (by decide) ?_
    refine w_callV (as := [vI 1]) (rest := []) (c_X11_error l G cy ad (d + 1) 1 Mz hIz) kV_X11_error (by decide +kernel) (Nat.le_of_ble_eq_true rfl) m_500 rfl rfl rfl ic_11 rfl rfl (by decide) (Nat.le_of_ble_eq_true rfl) dX11_as_20 (fun r48_ M49_ q50_ => ?_)
    obtain ⟨hI52_, hF53_, h51_, hs55_⟩ := q50_
    have hF54_ := hFz.tr hF53_ (fun c k => (fun h => h.elim (fun h => (Or.inl ⟨h.1, h.2⟩)) (fun h => h.elim)))
    exact w_iret rfl dX11_as_23 ⟨hI52_, hF54_, trivial, (Or.inr ⟨hs5_, M49_, hI52_, hF53_, r48_, hs55_, rfl, rfl⟩)⟩
def S_c_X11_habit : rf → Nat → Prop := fun c k => (c.1 = 44 ∧ c.2.1 = 0) ∨ (c.1 = 9 ∧ c.2.1 = 0 ∧ k = 3) ∨ (c.1 = 9 ∧ c.2.1 = 0 ∧ k = 4) ∨ (c.1 = 9 ∧ c.2.1 = 0 ∧ k = 5) ∨ False
def SP_X11_habit (v : Int32) (u : Int32) (t : Int32) (s : Int32) (Mz : mM) (r_ : Int32) (M_ : mM) : Prop := (((SP_X10_hasWalker 0 v Mz (1 : Int32)) ∧ (0 ≤ v.toInt ∧ v.toInt ≤ 7) ∧ ∃ r7_ : Int32, (SP_X2_isClick u t Mz r7_) ∧ ((0 ≤ r7_.toInt ∧ r7_.toInt ≤ 1)) ∧ (((r7_.toInt = 0) ∧ ∃ M14_ : mM, (Inv M14_) ∧ (FR (S_c_X11_error) Mz M14_) ∧ ∃ r13_ : Int32, (SP_X11_error 1 Mz r13_ M14_) ∧ r_ = r13_ ∧ M_ = M14_) ∨ ((¬ r7_.toInt = 0) ∧ (((SP_X11_within s 0 30 Mz (1 : Int32)) ∧ (0 ≤ s.toInt ∧ s.toInt ≤ 30) ∧ ∃ j27_ : Nat, ((j27_ : Int) = v.toInt) ∧ (j27_ < 8) ∧ ∃ M30_ : mM, (M30_ = up Mz (9, 0, j27_) 3 u) ∧ ∃ M34_ : mM, (M34_ = up M30_ (9, 0, j27_) 4 t) ∧ ∃ M38_ : mM, (M38_ = up M34_ (9, 0, j27_) 5 s) ∧ r_ = 1 ∧ M_ = M38_) ∨ ((SP_X11_within s 0 30 Mz (0 : Int32)) ∧ (¬ (0 ≤ s.toInt ∧ s.toInt ≤ 30)) ∧ ∃ M44_ : mM, (Inv M44_) ∧ (FR (S_c_X11_error) Mz M44_) ∧ ∃ r43_ : Int32, (SP_X11_error 1 Mz r43_ M44_) ∧ r_ = r43_ ∧ M_ = M44_))))) ∨ ((SP_X10_hasWalker 0 v Mz (0 : Int32)) ∧ ∃ M53_ : mM, (Inv M53_) ∧ (FR (S_c_X11_error) Mz M53_) ∧ ∃ r52_ : Int32, (SP_X11_error 1 Mz r52_ M53_) ∧ r_ = r52_ ∧ M_ = M53_))
theorem lf_c_X11_habit_0  (v : Int32) (h4_ : 0 ≤ v.toInt ∧ v.toInt ≤ 7) : 0 ≤ v.toInt ∧ v.toInt < ((8 : Nat) : Int) := by have r_v := rngI v; omega
set_option maxHeartbeats 4000000 in
set_option maxRecDepth 100000 in
theorem c_X11_habit (l : Launch) (G : va_G) (cy : Nat → ClassId) (ad : rf → Nat) (d : Nat) (v : Int32) (u : Int32) (t : Int32) (s : Int32) (Mz : mM) (hIz : Inv Mz) : WP CC l G cy ad yX11_habit cX11_habit 6 (some .int) (d + 2) 0 [(0, vR (11, 0, 0)), (1, vI v), (2, vI u), (3, vI t), (4, vI s)] [] Mz (fun r M' => Inv M' ∧ FR (S_c_X11_habit) Mz M' ∧ (True) ∧ SP_X11_habit v u t s Mz r M') := by
  have hFz : FR (S_c_X11_habit) Mz Mz := FR.self
  refine w_aload_n dX11_habit_0 rfl 0 rfl ?_
  refine w_getR (c' := (10, 0, 0)) fl_RX11_10 rfl rfl ic_11 dX11_habit_1 rfl ?_
  refine w_iload_n dX11_habit_4 rfl 1 rfl ?_
  refine w_callV (as := [vI v]) (rest := []) (c_X10_hasWalker l G cy ad (d + 1) 0 v Mz hIz (by first | decide | (unfold vF; omega) | (unfold vRw; omega))) kV_X10_hasWalker (by decide +kernel) (Nat.le_of_ble_eq_true rfl) m_609 rfl rfl rfl (ic_10 (by decide)) rfl rfl (by decide) (Nat.le_of_ble_eq_true rfl) dX11_habit_5 (fun r1_ M2_ q3_ => ?_)
  obtain ⟨rfl, h4_, hs5_⟩ := q3_
  rcases h4_ with ⟨rfl, h4_⟩ | rfl
  · refine w_if_eq (tgt := 30) dX11_habit_8 (by decide) li_1 (fun h9 => (absurd h9 (by decide))) (fun h6_ => ?_)
    refine w_iload_n dX11_habit_11 rfl 2 rfl ?_
    refine w_iload_n dX11_habit_12 rfl 3 rfl ?_
    refine w_callS (as := [vI u, vI t]) (rest := []) (c_X2_isClick l G cy ad d u t Mz hIz) kS_X2_isClick (by decide +kernel) (Nat.le_of_ble_eq_true rfl) m_653 rfl rfl (by decide) (Nat.le_of_ble_eq_true rfl) dX11_habit_13 (fun r7_ M8_ q9_ => ?_)
    obtain ⟨rfl, h10_, hs11_⟩ := q9_
    refine w_if_eq (tgt := 30) dX11_habit_16 (by decide) (rfl : r7_.toInt = r7_.toInt) (fun h12_ => ?_) (fun h12_ => ?_)
    · refine w_aload_n dX11_habit_30 rfl 0 rfl ?_
      refine w_iconst (v := 1) dX11_habit_31 (by decide) ?_
      refine w_callV (as := [vI 1]) (rest := []) (c_X11_error l G cy ad (d + 1) 1 Mz hIz) kV_X11_error (by decide +kernel) (Nat.le_of_ble_eq_true rfl) m_500 rfl rfl rfl ic_11 rfl rfl (by decide) (Nat.le_of_ble_eq_true rfl) dX11_habit_32 (fun r13_ M14_ q15_ => ?_)
      obtain ⟨hI17_, hF18_, h16_, hs20_⟩ := q15_
      have hF19_ := hFz.tr hF18_ (fun c k => (fun h => h.elim (fun h => (Or.inl ⟨h.1, h.2⟩)) (fun h => h.elim)))
      exact w_iret rfl dX11_habit_35 ⟨hI17_, hF19_, trivial, (Or.inl ⟨hs5_, h4_, r7_, hs11_, h10_, (Or.inl ⟨h12_, M14_, hI17_, hF18_, r13_, hs20_, rfl, rfl⟩)⟩)⟩
    · refine w_iload dX11_habit_19 4 rfl ?_
      refine w_iconst (v := 0) dX11_habit_21 (by decide) ?_
      refine w_bipush (v := 30) dX11_habit_22 (by decide) ?_
      refine w_callS (as := [vI s, vI 0, vI 30]) (rest := []) (c_X11_within l G cy ad (d + 1) s 0 30 Mz hIz) kS_X11_within (by decide +kernel) (Nat.le_of_ble_eq_true rfl) m_494 rfl rfl (by decide) (Nat.le_of_ble_eq_true rfl) dX11_habit_24 (fun r21_ M22_ q23_ => ?_)
      obtain ⟨rfl, h24_, hs25_⟩ := q23_
      rcases h24_ with ⟨rfl, h24_⟩ | ⟨rfl, h24_⟩
      · simp only [li_0, li_30] at h24_
        refine w_if_ne (tgt := 36) dX11_habit_27 (by decide) li_1 (fun h26_ => ?_) (fun h9 => (absurd h9 (by decide)))
        refine w_aload_n dX11_habit_36 rfl 0 rfl ?_
        refine w_getR (c' := (10, 0, 0)) fl_RX11_10 rfl rfl ic_11 dX11_habit_37 rfl ?_
        refine w_getR (c' := (42, 0, 0)) fl_RX11_157 rfl rfl (ic_10 (by decide)) dX11_habit_40 rfl ?_
        refine w_iload_n dX11_habit_43 rfl 1 rfl ?_
        refine w_aald rfl rfl rfl (fun _ => rfl) (ic_42 (by decide)) (rfl : v.toInt = v.toInt) (lf_c_X11_habit_0 v h4_) dX11_habit_44 (fun j27_ h28_ h29_ => ?_)
        refine w_astore (ls' := [(5, vR (9, 0, j27_)), (0, vR (11, 0, 0)), (1, vI v), (2, vI u), (3, vI t), (4, vI s)]) dX11_habit_45 (by decide) rfl ?_
        refine w_aload dX11_habit_47 0 rfl ?_
        refine w_iload_n dX11_habit_49 rfl 3 rfl ?_
        refine w_putI CC_nd fl_RX11_176 rfl rfl (ic_9 (by decide) h29_) dX11_habit_50 (fun M30_ hM31_ => ?_)
        have hI32_ := hIz.put hM31_ (fun h => absurd h (by decide))
        have hF33_ := hFz.put hM31_ (Or.inr (Or.inl ⟨rfl, rfl, rfl⟩))
        refine w_aload dX11_habit_53 0 rfl ?_
        refine w_iload_n dX11_habit_55 rfl 4 rfl ?_
        refine w_putI CC_nd fl_RX11_179 rfl rfl (ic_9 (by decide) h29_) dX11_habit_56 (fun M34_ hM35_ => ?_)
        have hI36_ := hI32_.put hM35_ (fun h => absurd h (by decide))
        have hF37_ := hF33_.put hM35_ (Or.inr (Or.inr (Or.inl ⟨rfl, rfl, rfl⟩)))
        refine w_aload dX11_habit_59 0 rfl ?_
        refine w_iload dX11_habit_61 5 rfl ?_
        refine w_putI CC_nd fl_RX11_182 rfl rfl (ic_9 (by decide) h29_) dX11_habit_63 (fun M38_ hM39_ => ?_)
        have hI40_ := hI36_.put hM39_ (fun h => absurd h (by decide))
        have hF41_ := hF37_.put hM39_ (Or.inr (Or.inr (Or.inr (Or.inl ⟨rfl, rfl, rfl⟩))))
        refine w_iconst (v := 1) dX11_habit_66 (by decide) ?_
        exact w_iret rfl dX11_habit_67 ⟨hI40_, hF41_, trivial, (Or.inl ⟨hs5_, h4_, r7_, hs11_, h10_, (Or.inr ⟨h12_, (Or.inl ⟨hs25_, h24_, j27_, h28_, h29_, M30_, hM31_, M34_, hM35_, M38_, hM39_, rfl, rfl⟩)⟩)⟩)⟩
      · simp only [li_0, li_30] at h24_
        refine w_if_ne (tgt := 36) dX11_habit_27 (by decide) li_0 (fun h9 => (absurd h9 (by decide))) (fun h42_ => ?_)
        refine w_aload_n dX11_habit_30 rfl 0 rfl ?_
        refine w_iconst (v := 1) dX11_habit_31 (by decide) ?_
        refine w_callV (as := [vI 1]) (rest := []) (c_X11_error l G cy ad (d + 1) 1 Mz hIz) kV_X11_error (by decide +kernel) (Nat.le_of_ble_eq_true rfl) m_500 rfl rfl rfl ic_11 rfl rfl (by decide) (Nat.le_of_ble_eq_true rfl) dX11_habit_32 (fun r43_ M44_ q45_ => ?_)
        obtain ⟨hI47_, hF48_, h46_, hs50_⟩ := q45_
        have hF49_ := hFz.tr hF48_ (fun c k => (fun h => h.elim (fun h => (Or.inl ⟨h.1, h.2⟩)) (fun h => h.elim)))
        exact w_iret rfl dX11_habit_35 ⟨hI47_, hF49_, trivial, (Or.inl ⟨hs5_, h4_, r7_, hs11_, h10_, (Or.inr ⟨h12_, (Or.inr ⟨hs25_, h24_, M44_, hI47_, hF48_, r43_, hs50_, rfl, rfl⟩)⟩)⟩)⟩
  · refine w_if_eq (tgt := 30) dX11_habit_8 (by decide) li_0 (fun h51_ => ?_) (fun h9 => (absurd h9 (by decide)))
    refine w_aload_n dX11_habit_30 rfl 0 rfl ?_
    refine w_iconst (v := 1) dX11_habit_31 (by decide) ?_
    refine w_callV (as := [vI 1]) (rest := []) (c_X11_error l G cy ad (d + 1) 1 Mz hIz) kV_X11_error (by decide +kernel) (Nat.le_of_ble_eq_true rfl) m_500 rfl rfl rfl ic_11 rfl rfl (by decide) (Nat.le_of_ble_eq_true rfl) dX11_habit_32 (fun r52_ M53_ q54_ => ?_)
    obtain ⟨hI56_, hF57_, h55_, hs59_⟩ := q54_
    have hF58_ := hFz.tr hF57_ (fun c k => (fun h => h.elim (fun h => (Or.inl ⟨h.1, h.2⟩)) (fun h => h.elim)))
    exact w_iret rfl dX11_habit_35 ⟨hI56_, hF58_, trivial, (Or.inr ⟨hs5_, M53_, hI56_, hF57_, r52_, hs59_, rfl, rfl⟩)⟩
def S_c_X11_face : rf → Nat → Prop := fun c k => (c.1 = 9 ∧ c.2.1 = 0 ∧ k = 2) ∨ (c.1 = 44 ∧ c.2.1 = 0) ∨ False
def SP_X11_face (v : Int32) (u : Int32) (Mz : mM) (r_ : Int32) (M_ : mM) : Prop := (((SP_X10_hasWalker 0 v Mz (1 : Int32)) ∧ (0 ≤ v.toInt ∧ v.toInt ≤ 7) ∧ (((SP_X7_isSide u Mz (1 : Int32)) ∧ (0 ≤ u.toInt ∧ u.toInt ≤ 7) ∧ ∃ j13_ : Nat, ((j13_ : Int) = v.toInt) ∧ (j13_ < 8) ∧ ∃ z16_ : Int32, (z16_ = Mz.1 (9, 0, j13_) 2) ∧ ∃ j18_ : Nat, ((j18_ : Int) = v.toInt) ∧ (j18_ < 8) ∧ ∃ M21_ : mM, (M21_ = up Mz (9, 0, j18_) 2 u) ∧ r_ = z16_ ∧ M_ = M21_) ∨ ((SP_X7_isSide u Mz (0 : Int32)) ∧ (¬ (0 ≤ u.toInt ∧ u.toInt ≤ 7)) ∧ ∃ M27_ : mM, (Inv M27_) ∧ (FR (S_c_X11_error) Mz M27_) ∧ ∃ r26_ : Int32, (SP_X11_error 1 Mz r26_ M27_) ∧ r_ = r26_ ∧ M_ = M27_))) ∨ ((SP_X10_hasWalker 0 v Mz (0 : Int32)) ∧ ∃ M36_ : mM, (Inv M36_) ∧ (FR (S_c_X11_error) Mz M36_) ∧ ∃ r35_ : Int32, (SP_X11_error 1 Mz r35_ M36_) ∧ r_ = r35_ ∧ M_ = M36_))
theorem lf_c_X11_face_0  (v : Int32) (h4_ : 0 ≤ v.toInt ∧ v.toInt ≤ 7) : 0 ≤ v.toInt ∧ v.toInt < ((8 : Nat) : Int) := by have r_v := rngI v; omega
theorem lf_c_X11_face_1 (Mz : mM) (v : Int32) (j13_ : Nat) (z16_ : Int32) (h4_ : 0 ≤ v.toInt ∧ v.toInt ≤ 7) (h14_ : (j13_ : Int) = v.toInt) (h15_ : j13_ < 8) (e17_ : z16_ = Mz.1 (9, 0, j13_) 2) : 0 ≤ v.toInt ∧ v.toInt < ((8 : Nat) : Int) := by have r_v := rngI v; have r_z16_ := rngI z16_; subst e17_; omega
set_option maxHeartbeats 4000000 in
set_option maxRecDepth 100000 in
theorem c_X11_face (l : Launch) (G : va_G) (cy : Nat → ClassId) (ad : rf → Nat) (d : Nat) (v : Int32) (u : Int32) (Mz : mM) (hIz : Inv Mz) : WP CC l G cy ad yX11_face cX11_face 4 (some .int) (d + 1) 0 [(0, vR (11, 0, 0)), (1, vI v), (2, vI u)] [] Mz (fun r M' => Inv M' ∧ FR (S_c_X11_face) Mz M' ∧ (True) ∧ SP_X11_face v u Mz r M') := by
  have hFz : FR (S_c_X11_face) Mz Mz := FR.self
  refine w_aload_n dX11_face_0 rfl 0 rfl ?_
  refine w_getR (c' := (10, 0, 0)) fl_RX11_10 rfl rfl ic_11 dX11_face_1 rfl ?_
  refine w_iload_n dX11_face_4 rfl 1 rfl ?_
  refine w_callV (as := [vI v]) (rest := []) (c_X10_hasWalker l G cy ad d 0 v Mz hIz (by first | decide | (unfold vF; omega) | (unfold vRw; omega))) kV_X10_hasWalker (by decide +kernel) (Nat.le_of_ble_eq_true rfl) m_609 rfl rfl rfl (ic_10 (by decide)) rfl rfl (by decide) (Nat.le_of_ble_eq_true rfl) dX11_face_5 (fun r1_ M2_ q3_ => ?_)
  obtain ⟨rfl, h4_, hs5_⟩ := q3_
  rcases h4_ with ⟨rfl, h4_⟩ | rfl
  · refine w_if_eq (tgt := 18) dX11_face_8 (by decide) li_1 (fun h9 => (absurd h9 (by decide))) (fun h6_ => ?_)
    refine w_iload_n dX11_face_11 rfl 2 rfl ?_
    refine w_callS (as := [vI u]) (rest := []) (c_X7_isSide l G cy ad d u Mz hIz) kS_X7_isSide (by decide +kernel) (Nat.le_of_ble_eq_true rfl) m_539 rfl rfl (by decide) (Nat.le_of_ble_eq_true rfl) dX11_face_12 (fun r7_ M8_ q9_ => ?_)
    obtain ⟨rfl, h10_, hs11_⟩ := q9_
    rcases h10_ with ⟨rfl, h10_⟩ | ⟨rfl, h10_⟩
    · refine w_if_ne (tgt := 24) dX11_face_15 (by decide) li_1 (fun h12_ => ?_) (fun h9 => (absurd h9 (by decide)))
      refine w_aload_n dX11_face_24 rfl 0 rfl ?_
      refine w_getR (c' := (10, 0, 0)) fl_RX11_10 rfl rfl ic_11 dX11_face_25 rfl ?_
      refine w_getR (c' := (42, 0, 0)) fl_RX11_157 rfl rfl (ic_10 (by decide)) dX11_face_28 rfl ?_
      refine w_iload_n dX11_face_31 rfl 1 rfl ?_
      refine w_aald rfl rfl rfl (fun _ => rfl) (ic_42 (by decide)) (rfl : v.toInt = v.toInt) (lf_c_X11_face_0 v h4_) dX11_face_32 (fun j13_ h14_ h15_ => ?_)
      refine w_getI fl_RX11_185 rfl rfl (ic_9 (by decide) h15_) dX11_face_33 (fun z16_ e17_ => ?_)
      refine w_istore_n (ls' := [(3, vI z16_), (0, vR (11, 0, 0)), (1, vI v), (2, vI u)]) dX11_face_36 rfl (by decide) rfl ?_
      refine w_aload_n dX11_face_37 rfl 1 rfl ?_
      refine w_getR (c' := (10, 0, 0)) fl_RX11_10 rfl rfl ic_11 dX11_face_38 rfl ?_
      refine w_getR (c' := (42, 0, 0)) fl_RX11_157 rfl rfl (ic_10 (by decide)) dX11_face_41 rfl ?_
      refine w_iload_n dX11_face_44 rfl 2 rfl ?_
      refine w_aald rfl rfl rfl (fun _ => rfl) (ic_42 (by decide)) (rfl : v.toInt = v.toInt) (lf_c_X11_face_1 Mz v j13_ z16_ h4_ h14_ h15_ e17_) dX11_face_45 (fun j18_ h19_ h20_ => ?_)
      refine w_iload_n dX11_face_46 rfl 3 rfl ?_
      refine w_putI CC_nd fl_RX11_185 rfl rfl (ic_9 (by decide) h20_) dX11_face_47 (fun M21_ hM22_ => ?_)
      have hI23_ := hIz.put hM22_ (fun h => absurd h (by decide))
      have hF24_ := hFz.put hM22_ (Or.inl ⟨rfl, rfl, rfl⟩)
      refine w_iload_n dX11_face_50 rfl 0 rfl ?_
      exact w_iret rfl dX11_face_51 ⟨hI23_, hF24_, trivial, (Or.inl ⟨hs5_, h4_, (Or.inl ⟨hs11_, h10_, j13_, h14_, h15_, z16_, e17_, j18_, h19_, h20_, M21_, hM22_, rfl, rfl⟩)⟩)⟩
    · refine w_if_ne (tgt := 24) dX11_face_15 (by decide) li_0 (fun h9 => (absurd h9 (by decide))) (fun h25_ => ?_)
      refine w_aload_n dX11_face_18 rfl 0 rfl ?_
      refine w_iconst (v := 1) dX11_face_19 (by decide) ?_
      refine w_callV (as := [vI 1]) (rest := []) (c_X11_error l G cy ad d 1 Mz hIz) kV_X11_error (by decide +kernel) (Nat.le_of_ble_eq_true rfl) m_500 rfl rfl rfl ic_11 rfl rfl (by decide) (Nat.le_of_ble_eq_true rfl) dX11_face_20 (fun r26_ M27_ q28_ => ?_)
      obtain ⟨hI30_, hF31_, h29_, hs33_⟩ := q28_
      have hF32_ := hFz.tr hF31_ (fun c k => (fun h => h.elim (fun h => (Or.inr (Or.inl ⟨h.1, h.2⟩))) (fun h => h.elim)))
      exact w_iret rfl dX11_face_23 ⟨hI30_, hF32_, trivial, (Or.inl ⟨hs5_, h4_, (Or.inr ⟨hs11_, h10_, M27_, hI30_, hF31_, r26_, hs33_, rfl, rfl⟩)⟩)⟩
  · refine w_if_eq (tgt := 18) dX11_face_8 (by decide) li_0 (fun h34_ => ?_) (fun h9 => (absurd h9 (by decide)))
    refine w_aload_n dX11_face_18 rfl 0 rfl ?_
    refine w_iconst (v := 1) dX11_face_19 (by decide) ?_
    refine w_callV (as := [vI 1]) (rest := []) (c_X11_error l G cy ad d 1 Mz hIz) kV_X11_error (by decide +kernel) (Nat.le_of_ble_eq_true rfl) m_500 rfl rfl rfl ic_11 rfl rfl (by decide) (Nat.le_of_ble_eq_true rfl) dX11_face_20 (fun r35_ M36_ q37_ => ?_)
    obtain ⟨hI39_, hF40_, h38_, hs42_⟩ := q37_
    have hF41_ := hFz.tr hF40_ (fun c k => (fun h => h.elim (fun h => (Or.inr (Or.inl ⟨h.1, h.2⟩))) (fun h => h.elim)))
    exact w_iret rfl dX11_face_23 ⟨hI39_, hF41_, trivial, (Or.inr ⟨hs5_, M36_, hI39_, hF40_, r35_, hs42_, rfl, rfl⟩)⟩
def S_c_X11_click : rf → Nat → Prop := fun c k => (c.1 = 9 ∧ c.2.1 = 0 ∧ k = 8) ∨ (c.1 = 29 ∧ c.2.1 = 0 ∧ k = 0) ∨ (c.1 = 29 ∧ c.2.1 = 0 ∧ k = 1) ∨ (c.1 = 29 ∧ c.2.1 = 0 ∧ k = 2) ∨ (c.1 = 29 ∧ c.2.1 = 0 ∧ k = 3) ∨ (c.1 = 25 ∧ c.2.1 = 0 ∧ c.2.2 = 0) ∨ (c.1 = 25 ∧ c.2.1 = 0 ∧ c.2.2 = 1) ∨ (c.1 = 40 ∧ c.2.1 = 0) ∨ (c.1 = 41 ∧ c.2.1 = 0) ∨ (c.1 = 44 ∧ c.2.1 = 0) ∨ False
def SP_X11_click (v : Int32) (Mz : mM) (r_ : Int32) (M_ : mM) : Prop := (((SP_X10_hasWalker 0 v Mz (1 : Int32)) ∧ (0 ≤ v.toInt ∧ v.toInt ≤ 7) ∧ ∃ j7_ : Nat, ((j7_ : Int) = v.toInt) ∧ (j7_ < 8) ∧ ∃ r10_ : Int32, (SP_X9_isOf 0 j7_ 1 Mz r10_) ∧ ((0 ≤ r10_.toInt ∧ r10_.toInt ≤ 1)) ∧ (((¬ r10_.toInt = 0) ∧ ∃ M17_ : mM, (Inv M17_) ∧ (FR (S_c_X10_makeClick 0) Mz M17_) ∧ ∃ r16_ : Int32, (SP_X10_makeClick 0 v Mz r16_ M17_) ∧ r_ = r16_ ∧ M_ = M17_) ∨ ((r10_.toInt = 0) ∧ ∃ M25_ : mM, (Inv M25_) ∧ (FR (S_c_X11_error) Mz M25_) ∧ ∃ r24_ : Int32, (SP_X11_error 5 Mz r24_ M25_) ∧ r_ = r24_ ∧ M_ = M25_))) ∨ ((SP_X10_hasWalker 0 v Mz (0 : Int32)) ∧ ∃ M34_ : mM, (Inv M34_) ∧ (FR (S_c_X11_error) Mz M34_) ∧ ∃ r33_ : Int32, (SP_X11_error 1 Mz r33_ M34_) ∧ r_ = r33_ ∧ M_ = M34_))
theorem lf_c_X11_click_0  (v : Int32) (h4_ : 0 ≤ v.toInt ∧ v.toInt ≤ 7) : 0 ≤ v.toInt ∧ v.toInt < ((8 : Nat) : Int) := by have r_v := rngI v; omega
set_option maxHeartbeats 4000000 in
set_option maxRecDepth 100000 in
theorem c_X11_click (l : Launch) (G : va_G) (cy : Nat → ClassId) (ad : rf → Nat) (d : Nat) (v : Int32) (Mz : mM) (hIz : Inv Mz) : WP CC l G cy ad yX11_click cX11_click 2 (some .int) (d + 5) 0 [(0, vR (11, 0, 0)), (1, vI v)] [] Mz (fun r M' => Inv M' ∧ FR (S_c_X11_click) Mz M' ∧ (True) ∧ SP_X11_click v Mz r M') := by
  have hFz : FR (S_c_X11_click) Mz Mz := FR.self
  refine w_aload_n dX11_click_0 rfl 0 rfl ?_
  refine w_getR (c' := (10, 0, 0)) fl_RX11_10 rfl rfl ic_11 dX11_click_1 rfl ?_
  refine w_iload_n dX11_click_4 rfl 1 rfl ?_
  refine w_callV (as := [vI v]) (rest := []) (c_X10_hasWalker l G cy ad (d + 4) 0 v Mz hIz (by first | decide | (unfold vF; omega) | (unfold vRw; omega))) kV_X10_hasWalker (by decide +kernel) (Nat.le_of_ble_eq_true rfl) m_609 rfl rfl rfl (ic_10 (by decide)) rfl rfl (by decide) (Nat.le_of_ble_eq_true rfl) dX11_click_5 (fun r1_ M2_ q3_ => ?_)
  obtain ⟨rfl, h4_, hs5_⟩ := q3_
  rcases h4_ with ⟨rfl, h4_⟩ | rfl
  · refine w_if_ne (tgt := 17) dX11_click_8 (by decide) li_1 (fun h6_ => ?_) (fun h9 => (absurd h9 (by decide)))
    refine w_aload_n dX11_click_17 rfl 0 rfl ?_
    refine w_getR (c' := (10, 0, 0)) fl_RX11_10 rfl rfl ic_11 dX11_click_18 rfl ?_
    refine w_getR (c' := (42, 0, 0)) fl_RX11_157 rfl rfl (ic_10 (by decide)) dX11_click_21 rfl ?_
    refine w_iload_n dX11_click_24 rfl 1 rfl ?_
    refine w_aald rfl rfl rfl (fun _ => rfl) (ic_42 (by decide)) (rfl : v.toInt = v.toInt) (lf_c_X11_click_0 v h4_) dX11_click_25 (fun j7_ h8_ h9_ => ?_)
    refine w_iconst (v := 1) dX11_click_26 (by decide) ?_
    refine w_callV (as := [vI 1]) (rest := []) (c_X9_isOf l G cy ad (d + 3) 0 j7_ 1 Mz hIz (by first | decide | (unfold vF; omega) | (unfold vRw; omega)) h9_) kV_X9_isOf (by decide +kernel) (Nat.le_of_ble_eq_true rfl) m_639 rfl rfl rfl (ic_9 (by decide) h9_) rfl rfl (by decide) (Nat.le_of_ble_eq_true rfl) dX11_click_27 (fun r10_ M11_ q12_ => ?_)
    obtain ⟨rfl, h13_, hs14_⟩ := q12_
    refine w_if_ne (tgt := 39) dX11_click_30 (by decide) (rfl : r10_.toInt = r10_.toInt) (fun h15_ => ?_) (fun h15_ => ?_)
    · refine w_aload_n dX11_click_39 rfl 0 rfl ?_
      refine w_getR (c' := (10, 0, 0)) fl_RX11_10 rfl rfl ic_11 dX11_click_40 rfl ?_
      refine w_iload_n dX11_click_43 rfl 1 rfl ?_
      refine w_callV (as := [vI v]) (rest := []) (c_X10_makeClick l G cy ad d 0 v Mz hIz (by first | decide | (unfold vF; omega) | (unfold vRw; omega))) kV_X10_makeClick (by decide +kernel) (Nat.le_of_ble_eq_true rfl) m_896 rfl rfl rfl (ic_10 (by decide)) rfl rfl (by decide) (Nat.le_of_ble_eq_true rfl) dX11_click_44 (fun r16_ M17_ q18_ => ?_)
      obtain ⟨hI20_, hF21_, h19_, hs23_⟩ := q18_
      have hF22_ := hFz.tr hF21_ (fun c k => (fun h => h.elim (fun h => (Or.inl ⟨h.1, h.2.1, h.2.2⟩)) (fun h => h.elim (fun h => (Or.inr (Or.inl ⟨h.1, h.2.1, h.2.2⟩))) (fun h => h.elim (fun h => (Or.inr (Or.inr (Or.inl ⟨h.1, h.2.1, h.2.2⟩)))) (fun h => h.elim (fun h => (Or.inr (Or.inr (Or.inr (Or.inl ⟨h.1, h.2.1, h.2.2⟩))))) (fun h => h.elim (fun h => (Or.inr (Or.inr (Or.inr (Or.inr (Or.inl ⟨h.1, h.2.1, h.2.2⟩)))))) (fun h => h.elim (fun h => (Or.inr (Or.inr (Or.inr (Or.inr (Or.inr (Or.inl ⟨h.1, h.2.1, h.2.2⟩))))))) (fun h => h.elim (fun h => (Or.inr (Or.inr (Or.inr (Or.inr (Or.inr (Or.inr (Or.inl ⟨h.1, h.2.1, h.2.2⟩)))))))) (fun h => h.elim (fun h => (Or.inr (Or.inr (Or.inr (Or.inr (Or.inr (Or.inr (Or.inr (Or.inl ⟨h.1, h.2⟩))))))))) (fun h => h.elim (fun h => (Or.inr (Or.inr (Or.inr (Or.inr (Or.inr (Or.inr (Or.inr (Or.inr (Or.inl ⟨h.1, h.2⟩)))))))))) (fun h => h.elim)))))))))))
      exact w_iret rfl dX11_click_47 ⟨hI20_, hF22_, trivial, (Or.inl ⟨hs5_, h4_, j7_, h8_, h9_, r10_, hs14_, h13_, (Or.inl ⟨h15_, M17_, hI20_, hF21_, r16_, hs23_, rfl, rfl⟩)⟩)⟩
    · refine w_aload_n dX11_click_33 rfl 0 rfl ?_
      refine w_iconst (v := 5) dX11_click_34 (by decide) ?_
      refine w_callV (as := [vI 5]) (rest := []) (c_X11_error l G cy ad (d + 4) 5 Mz hIz) kV_X11_error (by decide +kernel) (Nat.le_of_ble_eq_true rfl) m_500 rfl rfl rfl ic_11 rfl rfl (by decide) (Nat.le_of_ble_eq_true rfl) dX11_click_35 (fun r24_ M25_ q26_ => ?_)
      obtain ⟨hI28_, hF29_, h27_, hs31_⟩ := q26_
      have hF30_ := hFz.tr hF29_ (fun c k => (fun h => h.elim (fun h => (Or.inr (Or.inr (Or.inr (Or.inr (Or.inr (Or.inr (Or.inr (Or.inr (Or.inr (Or.inl ⟨h.1, h.2⟩))))))))))) (fun h => h.elim)))
      exact w_iret rfl dX11_click_38 ⟨hI28_, hF30_, trivial, (Or.inl ⟨hs5_, h4_, j7_, h8_, h9_, r10_, hs14_, h13_, (Or.inr ⟨h15_, M25_, hI28_, hF29_, r24_, hs31_, rfl, rfl⟩)⟩)⟩
  · refine w_if_ne (tgt := 17) dX11_click_8 (by decide) li_0 (fun h9 => (absurd h9 (by decide))) (fun h32_ => ?_)
    refine w_aload_n dX11_click_11 rfl 0 rfl ?_
    refine w_iconst (v := 1) dX11_click_12 (by decide) ?_
    refine w_callV (as := [vI 1]) (rest := []) (c_X11_error l G cy ad (d + 4) 1 Mz hIz) kV_X11_error (by decide +kernel) (Nat.le_of_ble_eq_true rfl) m_500 rfl rfl rfl ic_11 rfl rfl (by decide) (Nat.le_of_ble_eq_true rfl) dX11_click_13 (fun r33_ M34_ q35_ => ?_)
    obtain ⟨hI37_, hF38_, h36_, hs40_⟩ := q35_
    have hF39_ := hFz.tr hF38_ (fun c k => (fun h => h.elim (fun h => (Or.inr (Or.inr (Or.inr (Or.inr (Or.inr (Or.inr (Or.inr (Or.inr (Or.inr (Or.inl ⟨h.1, h.2⟩))))))))))) (fun h => h.elim)))
    exact w_iret rfl dX11_click_16 ⟨hI37_, hF39_, trivial, (Or.inr ⟨hs5_, M34_, hI37_, hF38_, r33_, hs40_, rfl, rfl⟩)⟩
def S_c_X11_head : rf → Nat → Prop := fun c k => (c.1 = 44 ∧ c.2.1 = 0) ∨ False
def SP_X11_head (v : Int32) (u : Int32) (t : Int32) (Mz : mM) (r_ : Int32) (M_ : mM) : Prop := (((SP_X10_hasWalker 0 v Mz (1 : Int32)) ∧ (0 ≤ v.toInt ∧ v.toInt ≤ 7) ∧ (((SP_X7_isCell u Mz (1 : Int32)) ∧ (0 ≤ u.toInt ∧ u.toInt ≤ 191) ∧ (((SP_X11_within t 0 2 Mz (1 : Int32)) ∧ (0 ≤ t.toInt ∧ t.toInt ≤ 2) ∧ ∃ j19_ : Nat, ((j19_ : Int) = v.toInt) ∧ (j19_ < 8) ∧ (((¬ t.toInt = 0) ∧ (((¬ t.toInt = 1) ∧ ∃ r24_ : Int32, (SP_X9_held 0 j19_ u Mz r24_) ∧ r_ = r24_ ∧ M_ = Mz) ∨ ((t.toInt = 1) ∧ ∃ j31_ : Nat, ((j31_ : Int) = u.toInt) ∧ ∃ z29_ : Int32, (z29_ = Mz.1 (41, 0, j19_) j31_) ∧ r_ = z29_ ∧ M_ = Mz))) ∨ ((t.toInt = 0) ∧ ∃ j35_ : Nat, ((j35_ : Int) = u.toInt) ∧ ∃ z33_ : Int32, (z33_ = Mz.1 (40, 0, j19_) j35_) ∧ r_ = z33_ ∧ M_ = Mz))) ∨ ((SP_X11_within t 0 2 Mz (0 : Int32)) ∧ (¬ (0 ≤ t.toInt ∧ t.toInt ≤ 2)) ∧ ∃ M39_ : mM, (Inv M39_) ∧ (FR (S_c_X11_error) Mz M39_) ∧ ∃ r38_ : Int32, (SP_X11_error 1 Mz r38_ M39_) ∧ r_ = r38_ ∧ M_ = M39_))) ∨ ((SP_X7_isCell u Mz (0 : Int32)) ∧ (¬ (0 ≤ u.toInt ∧ u.toInt ≤ 191)) ∧ ∃ M48_ : mM, (Inv M48_) ∧ (FR (S_c_X11_error) Mz M48_) ∧ ∃ r47_ : Int32, (SP_X11_error 1 Mz r47_ M48_) ∧ r_ = r47_ ∧ M_ = M48_))) ∨ ((SP_X10_hasWalker 0 v Mz (0 : Int32)) ∧ ∃ M57_ : mM, (Inv M57_) ∧ (FR (S_c_X11_error) Mz M57_) ∧ ∃ r56_ : Int32, (SP_X11_error 1 Mz r56_ M57_) ∧ r_ = r56_ ∧ M_ = M57_))
theorem lf_c_X11_head_0  (v : Int32) (h4_ : 0 ≤ v.toInt ∧ v.toInt ≤ 7) : 0 ≤ v.toInt ∧ v.toInt < ((8 : Nat) : Int) := by have r_v := rngI v; omega
theorem lf_c_X11_head_1  (u : Int32) (h10_ : 0 ≤ u.toInt ∧ u.toInt ≤ 191) : 0 ≤ u.toInt ∧ u.toInt < ((192 : Nat) : Int) := by have r_u := rngI u; omega
theorem lf_c_X11_head_2  (u : Int32) (h10_ : 0 ≤ u.toInt ∧ u.toInt ≤ 191) : 0 ≤ u.toInt ∧ u.toInt < ((192 : Nat) : Int) := by have r_u := rngI u; omega
set_option maxHeartbeats 4000000 in
set_option maxRecDepth 100000 in
theorem c_X11_head (l : Launch) (G : va_G) (cy : Nat → ClassId) (ad : rf → Nat) (d : Nat) (v : Int32) (u : Int32) (t : Int32) (Mz : mM) (hIz : Inv Mz) : WP CC l G cy ad yX11_head cX11_head 5 (some .int) (d + 2) 0 [(0, vR (11, 0, 0)), (1, vI v), (2, vI u), (3, vI t)] [] Mz (fun r M' => Inv M' ∧ FR (S_c_X11_head) Mz M' ∧ (True) ∧ SP_X11_head v u t Mz r M') := by
  have hFz : FR (S_c_X11_head) Mz Mz := FR.self
  refine w_aload_n dX11_head_0 rfl 0 rfl ?_
  refine w_getR (c' := (10, 0, 0)) fl_RX11_10 rfl rfl ic_11 dX11_head_1 rfl ?_
  refine w_iload_n dX11_head_4 rfl 1 rfl ?_
  refine w_callV (as := [vI v]) (rest := []) (c_X10_hasWalker l G cy ad (d + 1) 0 v Mz hIz (by first | decide | (unfold vF; omega) | (unfold vRw; omega))) kV_X10_hasWalker (by decide +kernel) (Nat.le_of_ble_eq_true rfl) m_609 rfl rfl rfl (ic_10 (by decide)) rfl rfl (by decide) (Nat.le_of_ble_eq_true rfl) dX11_head_5 (fun r1_ M2_ q3_ => ?_)
  obtain ⟨rfl, h4_, hs5_⟩ := q3_
  rcases h4_ with ⟨rfl, h4_⟩ | rfl
  · refine w_if_eq (tgt := 27) dX11_head_8 (by decide) li_1 (fun h9 => (absurd h9 (by decide))) (fun h6_ => ?_)
    refine w_iload_n dX11_head_11 rfl 2 rfl ?_
    refine w_callS (as := [vI u]) (rest := []) (c_X7_isCell l G cy ad (d + 1) u Mz hIz) kS_X7_isCell (by decide +kernel) (Nat.le_of_ble_eq_true rfl) m_497 rfl rfl (by decide) (Nat.le_of_ble_eq_true rfl) dX11_head_12 (fun r7_ M8_ q9_ => ?_)
    obtain ⟨rfl, h10_, hs11_⟩ := q9_
    rcases h10_ with ⟨rfl, h10_⟩ | ⟨rfl, h10_⟩
    · refine w_if_eq (tgt := 27) dX11_head_15 (by decide) li_1 (fun h9 => (absurd h9 (by decide))) (fun h12_ => ?_)
      refine w_iload_n dX11_head_18 rfl 3 rfl ?_
      refine w_iconst (v := 0) dX11_head_19 (by decide) ?_
      refine w_iconst (v := 2) dX11_head_20 (by decide) ?_
      refine w_callS (as := [vI t, vI 0, vI 2]) (rest := []) (c_X11_within l G cy ad (d + 1) t 0 2 Mz hIz) kS_X11_within (by decide +kernel) (Nat.le_of_ble_eq_true rfl) m_494 rfl rfl (by decide) (Nat.le_of_ble_eq_true rfl) dX11_head_21 (fun r13_ M14_ q15_ => ?_)
      obtain ⟨rfl, h16_, hs17_⟩ := q15_
      rcases h16_ with ⟨rfl, h16_⟩ | ⟨rfl, h16_⟩
      · simp only [li_0, li_2] at h16_
        refine w_if_ne (tgt := 33) dX11_head_24 (by decide) li_1 (fun h18_ => ?_) (fun h9 => (absurd h9 (by decide)))
        refine w_aload_n dX11_head_33 rfl 0 rfl ?_
        refine w_getR (c' := (10, 0, 0)) fl_RX11_10 rfl rfl ic_11 dX11_head_34 rfl ?_
        refine w_getR (c' := (42, 0, 0)) fl_RX11_157 rfl rfl (ic_10 (by decide)) dX11_head_37 rfl ?_
        refine w_iload_n dX11_head_40 rfl 1 rfl ?_
        refine w_aald rfl rfl rfl (fun _ => rfl) (ic_42 (by decide)) (rfl : v.toInt = v.toInt) (lf_c_X11_head_0 v h4_) dX11_head_41 (fun j19_ h20_ h21_ => ?_)
        refine w_astore (ls' := [(4, vR (9, 0, j19_)), (0, vR (11, 0, 0)), (1, vI v), (2, vI u), (3, vI t)]) dX11_head_42 (by decide) rfl ?_
        refine w_iload_n dX11_head_44 rfl 4 rfl ?_
        refine w_if_ne (tgt := 58) dX11_head_45 (by decide) (rfl : t.toInt = t.toInt) (fun h22_ => ?_) (fun h22_ => ?_)
        · refine w_iload_n dX11_head_58 rfl 4 rfl ?_
          refine w_iconst (v := 1) dX11_head_59 (by decide) ?_
          refine w_icmp_ne (tgt := 73) dX11_head_60 (by decide) (rfl : t.toInt = t.toInt) li_1 (fun h23_ => ?_) (fun h23_ => ?_)
          · refine w_aload dX11_head_73 0 rfl ?_
            refine w_iload_n dX11_head_75 rfl 3 rfl ?_
            refine w_callV (as := [vI u]) (rest := []) (c_X9_held l G cy ad d 0 j19_ u Mz hIz (by first | decide | (unfold vF; omega) | (unfold vRw; omega)) h21_) kV_X9_held (by decide +kernel) (Nat.le_of_ble_eq_true rfl) m_929 rfl rfl rfl (ic_9 (by decide) h21_) rfl rfl (by decide) (Nat.le_of_ble_eq_true rfl) dX11_head_76 (fun r24_ M25_ q26_ => ?_)
            obtain ⟨rfl, h27_, hs28_⟩ := q26_
            exact w_iret rfl dX11_head_79 ⟨hIz, hFz, trivial, (Or.inl ⟨hs5_, h4_, (Or.inl ⟨hs11_, h10_, (Or.inl ⟨hs17_, h16_, j19_, h20_, h21_, (Or.inl ⟨h22_, (Or.inl ⟨h23_, r24_, hs28_, rfl, rfl⟩)⟩)⟩)⟩)⟩)⟩
          · refine w_aload dX11_head_63 0 rfl ?_
            refine w_getR (c' := (41, 0, j19_)) fl_RX11_245 rfl rfl (ic_9 (by decide) h21_) dX11_head_65 rfl ?_
            refine w_iload_n dX11_head_68 rfl 3 rfl ?_
            refine w_iald rfl rfl (ic_41 (by decide) h21_) (rfl : u.toInt = u.toInt) (lf_c_X11_head_1 u h10_) dX11_head_69 (fun j31_ h32_ z29_ e30_ => ?_)
            refine w_goto (tgt := 79) dX11_head_70 (by decide) ?_
            exact w_iret rfl dX11_head_79 ⟨hIz, hFz, trivial, (Or.inl ⟨hs5_, h4_, (Or.inl ⟨hs11_, h10_, (Or.inl ⟨hs17_, h16_, j19_, h20_, h21_, (Or.inl ⟨h22_, (Or.inr ⟨h23_, j31_, h32_, z29_, e30_, rfl, rfl⟩)⟩)⟩)⟩)⟩)⟩
        · refine w_aload dX11_head_48 0 rfl ?_
          refine w_getR (c' := (40, 0, j19_)) fl_RX11_242 rfl rfl (ic_9 (by decide) h21_) dX11_head_50 rfl ?_
          refine w_iload_n dX11_head_53 rfl 3 rfl ?_
          refine w_iald rfl rfl (ic_40 (by decide) h21_) (rfl : u.toInt = u.toInt) (lf_c_X11_head_2 u h10_) dX11_head_54 (fun j35_ h36_ z33_ e34_ => ?_)
          refine w_goto (tgt := 79) dX11_head_55 (by decide) ?_
          exact w_iret rfl dX11_head_79 ⟨hIz, hFz, trivial, (Or.inl ⟨hs5_, h4_, (Or.inl ⟨hs11_, h10_, (Or.inl ⟨hs17_, h16_, j19_, h20_, h21_, (Or.inr ⟨h22_, j35_, h36_, z33_, e34_, rfl, rfl⟩)⟩)⟩)⟩)⟩
      · simp only [li_0, li_2] at h16_
        refine w_if_ne (tgt := 33) dX11_head_24 (by decide) li_0 (fun h9 => (absurd h9 (by decide))) (fun h37_ => ?_)
        refine w_aload_n dX11_head_27 rfl 0 rfl ?_
        refine w_iconst (v := 1) dX11_head_28 (by decide) ?_
        refine w_callV (as := [vI 1]) (rest := []) (c_X11_error l G cy ad (d + 1) 1 Mz hIz) kV_X11_error (by decide +kernel) (Nat.le_of_ble_eq_true rfl) m_500 rfl rfl rfl ic_11 rfl rfl (by decide) (Nat.le_of_ble_eq_true rfl) dX11_head_29 (fun r38_ M39_ q40_ => ?_)
        obtain ⟨hI42_, hF43_, h41_, hs45_⟩ := q40_
        have hF44_ := hFz.tr hF43_ (fun c k => (fun h => h.elim (fun h => (Or.inl ⟨h.1, h.2⟩)) (fun h => h.elim)))
        exact w_iret rfl dX11_head_32 ⟨hI42_, hF44_, trivial, (Or.inl ⟨hs5_, h4_, (Or.inl ⟨hs11_, h10_, (Or.inr ⟨hs17_, h16_, M39_, hI42_, hF43_, r38_, hs45_, rfl, rfl⟩)⟩)⟩)⟩
    · refine w_if_eq (tgt := 27) dX11_head_15 (by decide) li_0 (fun h46_ => ?_) (fun h9 => (absurd h9 (by decide)))
      refine w_aload_n dX11_head_27 rfl 0 rfl ?_
      refine w_iconst (v := 1) dX11_head_28 (by decide) ?_
      refine w_callV (as := [vI 1]) (rest := []) (c_X11_error l G cy ad (d + 1) 1 Mz hIz) kV_X11_error (by decide +kernel) (Nat.le_of_ble_eq_true rfl) m_500 rfl rfl rfl ic_11 rfl rfl (by decide) (Nat.le_of_ble_eq_true rfl) dX11_head_29 (fun r47_ M48_ q49_ => ?_)
      obtain ⟨hI51_, hF52_, h50_, hs54_⟩ := q49_
      have hF53_ := hFz.tr hF52_ (fun c k => (fun h => h.elim (fun h => (Or.inl ⟨h.1, h.2⟩)) (fun h => h.elim)))
      exact w_iret rfl dX11_head_32 ⟨hI51_, hF53_, trivial, (Or.inl ⟨hs5_, h4_, (Or.inr ⟨hs11_, h10_, M48_, hI51_, hF52_, r47_, hs54_, rfl, rfl⟩)⟩)⟩
  · refine w_if_eq (tgt := 27) dX11_head_8 (by decide) li_0 (fun h55_ => ?_) (fun h9 => (absurd h9 (by decide)))
    refine w_aload_n dX11_head_27 rfl 0 rfl ?_
    refine w_iconst (v := 1) dX11_head_28 (by decide) ?_
    refine w_callV (as := [vI 1]) (rest := []) (c_X11_error l G cy ad (d + 1) 1 Mz hIz) kV_X11_error (by decide +kernel) (Nat.le_of_ble_eq_true rfl) m_500 rfl rfl rfl ic_11 rfl rfl (by decide) (Nat.le_of_ble_eq_true rfl) dX11_head_29 (fun r56_ M57_ q58_ => ?_)
    obtain ⟨hI60_, hF61_, h59_, hs63_⟩ := q58_
    have hF62_ := hFz.tr hF61_ (fun c k => (fun h => h.elim (fun h => (Or.inl ⟨h.1, h.2⟩)) (fun h => h.elim)))
    exact w_iret rfl dX11_head_32 ⟨hI60_, hF62_, trivial, (Or.inr ⟨hs5_, M57_, hI60_, hF61_, r56_, hs63_, rfl, rfl⟩)⟩
def S_c_X11_heads : rf → Nat → Prop := fun c k => (c.1 = 44 ∧ c.2.1 = 0) ∨ False
def SP_X11_heads (v : Int32) (u : Int32) (Mz : mM) (r_ : Int32) (M_ : mM) : Prop := (((SP_X10_hasWalker 0 v Mz (1 : Int32)) ∧ (0 ≤ v.toInt ∧ v.toInt ≤ 7) ∧ (((SP_X11_within u 0 3 Mz (1 : Int32)) ∧ (0 ≤ u.toInt ∧ u.toInt ≤ 3) ∧ (((¬ u.toInt = 3) ∧ ∃ j14_ : Nat, ((j14_ : Int) = v.toInt) ∧ (j14_ < 8) ∧ ∃ r17_ : Int32, (SP_X9_countHeld 0 j14_ u Mz r17_) ∧ r_ = r17_ ∧ M_ = Mz) ∨ ((u.toInt = 3) ∧ ∃ r22_ : Int32, (SP_X10_countWrong 0 v Mz r22_) ∧ r_ = r22_ ∧ M_ = Mz))) ∨ ((SP_X11_within u 0 3 Mz (0 : Int32)) ∧ (¬ (0 ≤ u.toInt ∧ u.toInt ≤ 3)) ∧ ∃ M29_ : mM, (Inv M29_) ∧ (FR (S_c_X11_error) Mz M29_) ∧ ∃ r28_ : Int32, (SP_X11_error 1 Mz r28_ M29_) ∧ r_ = r28_ ∧ M_ = M29_))) ∨ ((SP_X10_hasWalker 0 v Mz (0 : Int32)) ∧ ∃ M38_ : mM, (Inv M38_) ∧ (FR (S_c_X11_error) Mz M38_) ∧ ∃ r37_ : Int32, (SP_X11_error 1 Mz r37_ M38_) ∧ r_ = r37_ ∧ M_ = M38_))
theorem lf_c_X11_heads_0  (v : Int32) (h4_ : 0 ≤ v.toInt ∧ v.toInt ≤ 7) : 0 ≤ v.toInt ∧ v.toInt < ((8 : Nat) : Int) := by have r_v := rngI v; omega
set_option maxHeartbeats 4000000 in
set_option maxRecDepth 100000 in
theorem c_X11_heads (l : Launch) (G : va_G) (cy : Nat → ClassId) (ad : rf → Nat) (d : Nat) (v : Int32) (u : Int32) (Mz : mM) (hIz : Inv Mz) : WP CC l G cy ad yX11_heads cX11_heads 3 (some .int) (d + 3) 0 [(0, vR (11, 0, 0)), (1, vI v), (2, vI u)] [] Mz (fun r M' => Inv M' ∧ FR (S_c_X11_heads) Mz M' ∧ (True) ∧ SP_X11_heads v u Mz r M') := by
  have hFz : FR (S_c_X11_heads) Mz Mz := FR.self
  refine w_aload_n dX11_heads_0 rfl 0 rfl ?_
  refine w_getR (c' := (10, 0, 0)) fl_RX11_10 rfl rfl ic_11 dX11_heads_1 rfl ?_
  refine w_iload_n dX11_heads_4 rfl 1 rfl ?_
  refine w_callV (as := [vI v]) (rest := []) (c_X10_hasWalker l G cy ad (d + 2) 0 v Mz hIz (by first | decide | (unfold vF; omega) | (unfold vRw; omega))) kV_X10_hasWalker (by decide +kernel) (Nat.le_of_ble_eq_true rfl) m_609 rfl rfl rfl (ic_10 (by decide)) rfl rfl (by decide) (Nat.le_of_ble_eq_true rfl) dX11_heads_5 (fun r1_ M2_ q3_ => ?_)
  obtain ⟨rfl, h4_, hs5_⟩ := q3_
  rcases h4_ with ⟨rfl, h4_⟩ | rfl
  · refine w_if_eq (tgt := 20) dX11_heads_8 (by decide) li_1 (fun h9 => (absurd h9 (by decide))) (fun h6_ => ?_)
    refine w_iload_n dX11_heads_11 rfl 2 rfl ?_
    refine w_iconst (v := 0) dX11_heads_12 (by decide) ?_
    refine w_iconst (v := 3) dX11_heads_13 (by decide) ?_
    refine w_callS (as := [vI u, vI 0, vI 3]) (rest := []) (c_X11_within l G cy ad (d + 2) u 0 3 Mz hIz) kS_X11_within (by decide +kernel) (Nat.le_of_ble_eq_true rfl) m_494 rfl rfl (by decide) (Nat.le_of_ble_eq_true rfl) dX11_heads_14 (fun r7_ M8_ q9_ => ?_)
    obtain ⟨rfl, h10_, hs11_⟩ := q9_
    rcases h10_ with ⟨rfl, h10_⟩ | ⟨rfl, h10_⟩
    · simp only [li_0, li_3] at h10_
      refine w_if_ne (tgt := 26) dX11_heads_17 (by decide) li_1 (fun h12_ => ?_) (fun h9 => (absurd h9 (by decide)))
      refine w_iload_n dX11_heads_26 rfl 2 rfl ?_
      refine w_iconst (v := 3) dX11_heads_27 (by decide) ?_
      refine w_icmp_ne (tgt := 42) dX11_heads_28 (by decide) (rfl : u.toInt = u.toInt) li_3 (fun h13_ => ?_) (fun h13_ => ?_)
      · refine w_aload_n dX11_heads_42 rfl 0 rfl ?_
        refine w_getR (c' := (10, 0, 0)) fl_RX11_10 rfl rfl ic_11 dX11_heads_43 rfl ?_
        refine w_getR (c' := (42, 0, 0)) fl_RX11_157 rfl rfl (ic_10 (by decide)) dX11_heads_46 rfl ?_
        refine w_iload_n dX11_heads_49 rfl 1 rfl ?_
        refine w_aald rfl rfl rfl (fun _ => rfl) (ic_42 (by decide)) (rfl : v.toInt = v.toInt) (lf_c_X11_heads_0 v h4_) dX11_heads_50 (fun j14_ h15_ h16_ => ?_)
        refine w_iload_n dX11_heads_51 rfl 2 rfl ?_
        refine w_callV (as := [vI u]) (rest := []) (c_X9_countHeld l G cy ad d 0 j14_ u Mz hIz (by first | decide | (unfold vF; omega) | (unfold vRw; omega)) h16_) kV_X9_countHeld (by decide +kernel) (Nat.le_of_ble_eq_true rfl) m_942 rfl rfl rfl (ic_9 (by decide) h16_) rfl rfl (by decide) (Nat.le_of_ble_eq_true rfl) dX11_heads_52 (fun r17_ M18_ q19_ => ?_)
        obtain ⟨rfl, h20_, hs21_⟩ := q19_
        exact w_iret rfl dX11_heads_55 ⟨hIz, hFz, trivial, (Or.inl ⟨hs5_, h4_, (Or.inl ⟨hs11_, h10_, (Or.inl ⟨h13_, j14_, h15_, h16_, r17_, hs21_, rfl, rfl⟩)⟩)⟩)⟩
      · refine w_aload_n dX11_heads_31 rfl 0 rfl ?_
        refine w_getR (c' := (10, 0, 0)) fl_RX11_10 rfl rfl ic_11 dX11_heads_32 rfl ?_
        refine w_iload_n dX11_heads_35 rfl 1 rfl ?_
        refine w_callV (as := [vI v]) (rest := []) (c_X10_countWrong l G cy ad d 0 v Mz hIz (by first | decide | (unfold vF; omega) | (unfold vRw; omega))) kV_X10_countWrong (by decide +kernel) (Nat.le_of_ble_eq_true rfl) m_937 rfl rfl rfl (ic_10 (by decide)) rfl rfl (by decide) (Nat.le_of_ble_eq_true rfl) dX11_heads_36 (fun r22_ M23_ q24_ => ?_)
        obtain ⟨rfl, h25_, hs26_⟩ := q24_
        refine w_goto (tgt := 55) dX11_heads_39 (by decide) ?_
        exact w_iret rfl dX11_heads_55 ⟨hIz, hFz, trivial, (Or.inl ⟨hs5_, h4_, (Or.inl ⟨hs11_, h10_, (Or.inr ⟨h13_, r22_, hs26_, rfl, rfl⟩)⟩)⟩)⟩
    · simp only [li_0, li_3] at h10_
      refine w_if_ne (tgt := 26) dX11_heads_17 (by decide) li_0 (fun h9 => (absurd h9 (by decide))) (fun h27_ => ?_)
      refine w_aload_n dX11_heads_20 rfl 0 rfl ?_
      refine w_iconst (v := 1) dX11_heads_21 (by decide) ?_
      refine w_callV (as := [vI 1]) (rest := []) (c_X11_error l G cy ad (d + 2) 1 Mz hIz) kV_X11_error (by decide +kernel) (Nat.le_of_ble_eq_true rfl) m_500 rfl rfl rfl ic_11 rfl rfl (by decide) (Nat.le_of_ble_eq_true rfl) dX11_heads_22 (fun r28_ M29_ q30_ => ?_)
      obtain ⟨hI32_, hF33_, h31_, hs35_⟩ := q30_
      have hF34_ := hFz.tr hF33_ (fun c k => (fun h => h.elim (fun h => (Or.inl ⟨h.1, h.2⟩)) (fun h => h.elim)))
      exact w_iret rfl dX11_heads_25 ⟨hI32_, hF34_, trivial, (Or.inl ⟨hs5_, h4_, (Or.inr ⟨hs11_, h10_, M29_, hI32_, hF33_, r28_, hs35_, rfl, rfl⟩)⟩)⟩
  · refine w_if_eq (tgt := 20) dX11_heads_8 (by decide) li_0 (fun h36_ => ?_) (fun h9 => (absurd h9 (by decide)))
    refine w_aload_n dX11_heads_20 rfl 0 rfl ?_
    refine w_iconst (v := 1) dX11_heads_21 (by decide) ?_
    refine w_callV (as := [vI 1]) (rest := []) (c_X11_error l G cy ad (d + 2) 1 Mz hIz) kV_X11_error (by decide +kernel) (Nat.le_of_ble_eq_true rfl) m_500 rfl rfl rfl ic_11 rfl rfl (by decide) (Nat.le_of_ble_eq_true rfl) dX11_heads_22 (fun r37_ M38_ q39_ => ?_)
    obtain ⟨hI41_, hF42_, h40_, hs44_⟩ := q39_
    have hF43_ := hFz.tr hF42_ (fun c k => (fun h => h.elim (fun h => (Or.inl ⟨h.1, h.2⟩)) (fun h => h.elim)))
    exact w_iret rfl dX11_heads_25 ⟨hI41_, hF43_, trivial, (Or.inr ⟨hs5_, M38_, hI41_, hF42_, r37_, hs44_, rfl, rfl⟩)⟩
def S_c_X11_alike : rf → Nat → Prop := fun c k => (c.1 = 44 ∧ c.2.1 = 0) ∨ (c.1 = 29 ∧ c.2.1 = 0 ∧ k = 0) ∨ (c.1 = 29 ∧ c.2.1 = 0 ∧ k = 1) ∨ (c.1 = 29 ∧ c.2.1 = 0 ∧ k = 2) ∨ (c.1 = 29 ∧ c.2.1 = 0 ∧ k = 3) ∨ (c.1 = 25 ∧ c.2.1 = 0 ∧ c.2.2 = 0) ∨ (c.1 = 25 ∧ c.2.1 = 0 ∧ c.2.2 = 1) ∨ False
def SP_X11_alike (v : Int32) (u : Int32) (t : Int32) (s : Int32) (q : Int32) (Mz : mM) (r_ : Int32) (M_ : mM) : Prop := (((SP_X10_hasWalker 0 v Mz (1 : Int32)) ∧ (0 ≤ v.toInt ∧ v.toInt ≤ 7) ∧ ∃ r7_ : Int32, (SP_X2_isClick_ u Mz r7_) ∧ ((0 ≤ r7_.toInt ∧ r7_.toInt ≤ 1)) ∧ (((r7_.toInt = 0) ∧ ∃ M14_ : mM, (Inv M14_) ∧ (FR (S_c_X11_error) Mz M14_) ∧ ∃ r13_ : Int32, (SP_X11_error 1 Mz r13_ M14_) ∧ r_ = r13_ ∧ M_ = M14_) ∨ ((¬ r7_.toInt = 0) ∧ (((SP_X7_isSide s Mz (1 : Int32)) ∧ (0 ≤ s.toInt ∧ s.toInt ≤ 7) ∧ ∃ j27_ : Nat, ((j27_ : Int) = v.toInt) ∧ (j27_ < 8) ∧ ∃ r30_ : Int32, (SP_X9_reach 0 j27_ Mz r30_) ∧ (0 ≤ r30_.toInt ∧ r30_.toInt ≤ 12) ∧ (((SP_X11_within t 1 r30_ Mz (1 : Int32)) ∧ (1 ≤ t.toInt ∧ t.toInt ≤ r30_.toInt) ∧ (((SP_X11_within q 0 999 Mz (1 : Int32)) ∧ (0 ≤ q.toInt ∧ q.toInt ≤ 999) ∧ ∃ r47_ : Int32, (SP_X9_ears 0 j27_ Mz r47_) ∧ (0 ≤ r47_.toInt ∧ r47_.toInt ≤ 9) ∧ ∃ M53_ : mM, (Inv M53_) ∧ (FR (S_c_X2_kindsAlike 0) Mz M53_) ∧ ∃ r52_ : Int32, (SP_X2_kindsAlike 0 r47_ u t s q Mz r52_ M53_) ∧ r_ = r52_ ∧ M_ = M53_) ∨ ((SP_X11_within q 0 999 Mz (0 : Int32)) ∧ (¬ (0 ≤ q.toInt ∧ q.toInt ≤ 999)) ∧ ∃ M62_ : mM, (Inv M62_) ∧ (FR (S_c_X11_error) Mz M62_) ∧ ∃ r61_ : Int32, (SP_X11_error 1 Mz r61_ M62_) ∧ r_ = r61_ ∧ M_ = M62_))) ∨ ((SP_X11_within t 1 r30_ Mz (0 : Int32)) ∧ (¬ (1 ≤ t.toInt ∧ t.toInt ≤ r30_.toInt)) ∧ ∃ M71_ : mM, (Inv M71_) ∧ (FR (S_c_X11_error) Mz M71_) ∧ ∃ r70_ : Int32, (SP_X11_error 1 Mz r70_ M71_) ∧ r_ = r70_ ∧ M_ = M71_))) ∨ ((SP_X7_isSide s Mz (0 : Int32)) ∧ (¬ (0 ≤ s.toInt ∧ s.toInt ≤ 7)) ∧ ∃ M80_ : mM, (Inv M80_) ∧ (FR (S_c_X11_error) Mz M80_) ∧ ∃ r79_ : Int32, (SP_X11_error 1 Mz r79_ M80_) ∧ r_ = r79_ ∧ M_ = M80_))))) ∨ ((SP_X10_hasWalker 0 v Mz (0 : Int32)) ∧ ∃ M89_ : mM, (Inv M89_) ∧ (FR (S_c_X11_error) Mz M89_) ∧ ∃ r88_ : Int32, (SP_X11_error 1 Mz r88_ M89_) ∧ r_ = r88_ ∧ M_ = M89_))
theorem lf_c_X11_alike_0  (v : Int32) (h4_ : 0 ≤ v.toInt ∧ v.toInt ≤ 7) : 0 ≤ v.toInt ∧ v.toInt < ((8 : Nat) : Int) := by have r_v := rngI v; omega
set_option maxHeartbeats 4000000 in
set_option maxRecDepth 100000 in
theorem c_X11_alike (l : Launch) (G : va_G) (cy : Nat → ClassId) (ad : rf → Nat) (d : Nat) (v : Int32) (u : Int32) (t : Int32) (s : Int32) (q : Int32) (Mz : mM) (hIz : Inv Mz) : WP CC l G cy ad yX11_alike cX11_alike 7 (some .int) (d + 4) 0 [(0, vR (11, 0, 0)), (1, vI v), (2, vI u), (3, vI t), (4, vI s), (5, vI q)] [] Mz (fun r M' => Inv M' ∧ FR (S_c_X11_alike) Mz M' ∧ (True) ∧ SP_X11_alike v u t s q Mz r M') := by
  have hFz : FR (S_c_X11_alike) Mz Mz := FR.self
  refine w_aload_n dX11_alike_0 rfl 0 rfl ?_
  refine w_getR (c' := (10, 0, 0)) fl_RX11_10 rfl rfl ic_11 dX11_alike_1 rfl ?_
  refine w_iload_n dX11_alike_4 rfl 1 rfl ?_
  refine w_callV (as := [vI v]) (rest := []) (c_X10_hasWalker l G cy ad (d + 3) 0 v Mz hIz (by first | decide | (unfold vF; omega) | (unfold vRw; omega))) kV_X10_hasWalker (by decide +kernel) (Nat.le_of_ble_eq_true rfl) m_609 rfl rfl rfl (ic_10 (by decide)) rfl rfl (by decide) (Nat.le_of_ble_eq_true rfl) dX11_alike_5 (fun r1_ M2_ q3_ => ?_)
  obtain ⟨rfl, h4_, hs5_⟩ := q3_
  rcases h4_ with ⟨rfl, h4_⟩ | rfl
  · refine w_if_eq (tgt := 26) dX11_alike_8 (by decide) li_1 (fun h9 => (absurd h9 (by decide))) (fun h6_ => ?_)
    refine w_iload_n dX11_alike_11 rfl 2 rfl ?_
    refine w_callS (as := [vI u]) (rest := []) (c_X2_isClick_ l G cy ad (d + 1) u Mz hIz) kS_X2_isClick_ (by decide +kernel) (Nat.le_of_ble_eq_true rfl) m_839 rfl rfl (by decide) (Nat.le_of_ble_eq_true rfl) dX11_alike_12 (fun r7_ M8_ q9_ => ?_)
    obtain ⟨rfl, h10_, hs11_⟩ := q9_
    refine w_if_eq (tgt := 26) dX11_alike_15 (by decide) (rfl : r7_.toInt = r7_.toInt) (fun h12_ => ?_) (fun h12_ => ?_)
    · refine w_aload_n dX11_alike_26 rfl 0 rfl ?_
      refine w_iconst (v := 1) dX11_alike_27 (by decide) ?_
      refine w_callV (as := [vI 1]) (rest := []) (c_X11_error l G cy ad (d + 3) 1 Mz hIz) kV_X11_error (by decide +kernel) (Nat.le_of_ble_eq_true rfl) m_500 rfl rfl rfl ic_11 rfl rfl (by decide) (Nat.le_of_ble_eq_true rfl) dX11_alike_28 (fun r13_ M14_ q15_ => ?_)
      obtain ⟨hI17_, hF18_, h16_, hs20_⟩ := q15_
      have hF19_ := hFz.tr hF18_ (fun c k => (fun h => h.elim (fun h => (Or.inl ⟨h.1, h.2⟩)) (fun h => h.elim)))
      exact w_iret rfl dX11_alike_31 ⟨hI17_, hF19_, trivial, (Or.inl ⟨hs5_, h4_, r7_, hs11_, h10_, (Or.inl ⟨h12_, M14_, hI17_, hF18_, r13_, hs20_, rfl, rfl⟩)⟩)⟩
    · refine w_iload dX11_alike_18 4 rfl ?_
      refine w_callS (as := [vI s]) (rest := []) (c_X7_isSide l G cy ad (d + 3) s Mz hIz) kS_X7_isSide (by decide +kernel) (Nat.le_of_ble_eq_true rfl) m_539 rfl rfl (by decide) (Nat.le_of_ble_eq_true rfl) dX11_alike_20 (fun r21_ M22_ q23_ => ?_)
      obtain ⟨rfl, h24_, hs25_⟩ := q23_
      rcases h24_ with ⟨rfl, h24_⟩ | ⟨rfl, h24_⟩
      · refine w_if_ne (tgt := 32) dX11_alike_23 (by decide) li_1 (fun h26_ => ?_) (fun h9 => (absurd h9 (by decide)))
        refine w_aload_n dX11_alike_32 rfl 0 rfl ?_
        refine w_getR (c' := (10, 0, 0)) fl_RX11_10 rfl rfl ic_11 dX11_alike_33 rfl ?_
        refine w_getR (c' := (42, 0, 0)) fl_RX11_157 rfl rfl (ic_10 (by decide)) dX11_alike_36 rfl ?_
        refine w_iload_n dX11_alike_39 rfl 1 rfl ?_
        refine w_aald rfl rfl rfl (fun _ => rfl) (ic_42 (by decide)) (rfl : v.toInt = v.toInt) (lf_c_X11_alike_0 v h4_) dX11_alike_40 (fun j27_ h28_ h29_ => ?_)
        refine w_astore (ls' := [(6, vR (9, 0, j27_)), (0, vR (11, 0, 0)), (1, vI v), (2, vI u), (3, vI t), (4, vI s), (5, vI q)]) dX11_alike_41 (by decide) rfl ?_
        refine w_iload_n dX11_alike_43 rfl 4 rfl ?_
        refine w_iconst (v := 1) dX11_alike_44 (by decide) ?_
        refine w_aload dX11_alike_45 0 rfl ?_
        refine w_callV (as := []) (rest := [vI 1, vI t]) (c_X9_reach l G cy ad (d + 3) 0 j27_ Mz hIz (by first | decide | (unfold vF; omega) | (unfold vRw; omega)) h29_) kV_X9_reach (by decide +kernel) (Nat.le_of_ble_eq_true rfl) m_648 rfl rfl rfl (ic_9 (by decide) h29_) rfl rfl (by decide) (Nat.le_of_ble_eq_true rfl) dX11_alike_47 (fun r30_ M31_ q32_ => ?_)
        obtain ⟨rfl, h33_, hs34_⟩ := q32_
        refine w_callS (as := [vI t, vI 1, vI r30_]) (rest := []) (c_X11_within l G cy ad (d + 3) t 1 r30_ Mz hIz) kS_X11_within (by decide +kernel) (Nat.le_of_ble_eq_true rfl) m_494 rfl rfl (by decide) (Nat.le_of_ble_eq_true rfl) dX11_alike_50 (fun r35_ M36_ q37_ => ?_)
        obtain ⟨rfl, h38_, hs39_⟩ := q37_
        rcases h38_ with ⟨rfl, h38_⟩ | ⟨rfl, h38_⟩
        · simp only [li_1] at h38_
          refine w_if_eq (tgt := 68) dX11_alike_53 (by decide) li_1 (fun h9 => (absurd h9 (by decide))) (fun h40_ => ?_)
          refine w_iload dX11_alike_56 6 rfl ?_
          refine w_iconst (v := 0) dX11_alike_58 (by decide) ?_
          refine w_sipush (v := 999) dX11_alike_59 (by decide) ?_
          refine w_callS (as := [vI q, vI 0, vI 999]) (rest := []) (c_X11_within l G cy ad (d + 3) q 0 999 Mz hIz) kS_X11_within (by decide +kernel) (Nat.le_of_ble_eq_true rfl) m_494 rfl rfl (by decide) (Nat.le_of_ble_eq_true rfl) dX11_alike_62 (fun r41_ M42_ q43_ => ?_)
          obtain ⟨rfl, h44_, hs45_⟩ := q43_
          rcases h44_ with ⟨rfl, h44_⟩ | ⟨rfl, h44_⟩
          · simp only [li_0, li_999] at h44_
            refine w_if_ne (tgt := 74) dX11_alike_65 (by decide) li_1 (fun h46_ => ?_) (fun h9 => (absurd h9 (by decide)))
            refine w_aload_n dX11_alike_74 rfl 1 rfl ?_
            refine w_getR (c' := (10, 0, 0)) fl_RX11_10 rfl rfl ic_11 dX11_alike_75 rfl ?_
            refine w_getR (c' := (2, 0, 0)) fl_RX11_114 rfl rfl (ic_10 (by decide)) dX11_alike_78 rfl ?_
            refine w_aload dX11_alike_81 0 rfl ?_
            refine w_callV (as := []) (rest := [vR (2, 0, 0)]) (c_X9_ears l G cy ad (d + 3) 0 j27_ Mz hIz (by first | decide | (unfold vF; omega) | (unfold vRw; omega)) h29_) kV_X9_ears (by decide +kernel) (Nat.le_of_ble_eq_true rfl) m_951 rfl rfl rfl (ic_9 (by decide) h29_) rfl rfl (by decide) (Nat.le_of_ble_eq_true rfl) dX11_alike_83 (fun r47_ M48_ q49_ => ?_)
            obtain ⟨rfl, h50_, hs51_⟩ := q49_
            refine w_iload_n dX11_alike_86 rfl 3 rfl ?_
            refine w_iload_n dX11_alike_87 rfl 4 rfl ?_
            refine w_iload dX11_alike_88 5 rfl ?_
            refine w_iload dX11_alike_90 6 rfl ?_
            refine w_callV (as := [vI r47_, vI u, vI t, vI s, vI q]) (rest := []) (c_X2_kindsAlike l G cy ad d 0 r47_ u t s q Mz hIz (by first | decide | (unfold vF; omega) | (unfold vRw; omega))) kV_X2_kindsAlike (by decide +kernel) (Nat.le_of_ble_eq_true rfl) m_952 rfl rfl rfl (ic_2 (by decide)) rfl rfl (by decide) (Nat.le_of_ble_eq_true rfl) dX11_alike_92 (fun r52_ M53_ q54_ => ?_)
            obtain ⟨hI56_, hF57_, h55_, hs59_⟩ := q54_
            have hF58_ := hFz.tr hF57_ (fun c k => (fun h => h.elim (fun h => (Or.inr (Or.inl ⟨h.1, h.2.1, h.2.2⟩))) (fun h => h.elim (fun h => (Or.inr (Or.inr (Or.inl ⟨h.1, h.2.1, h.2.2⟩)))) (fun h => h.elim (fun h => (Or.inr (Or.inr (Or.inr (Or.inl ⟨h.1, h.2.1, h.2.2⟩))))) (fun h => h.elim (fun h => (Or.inr (Or.inr (Or.inr (Or.inr (Or.inl ⟨h.1, h.2.1, h.2.2⟩)))))) (fun h => h.elim (fun h => (Or.inr (Or.inr (Or.inr (Or.inr (Or.inr (Or.inl ⟨h.1, h.2.1, h.2.2⟩))))))) (fun h => h.elim (fun h => (Or.inr (Or.inr (Or.inr (Or.inr (Or.inr (Or.inr (Or.inl ⟨h.1, h.2.1, h.2.2⟩)))))))) (fun h => h.elim))))))))
            exact w_iret rfl dX11_alike_95 ⟨hI56_, hF58_, trivial, (Or.inl ⟨hs5_, h4_, r7_, hs11_, h10_, (Or.inr ⟨h12_, (Or.inl ⟨hs25_, h24_, j27_, h28_, h29_, r30_, hs34_, h33_, (Or.inl ⟨hs39_, h38_, (Or.inl ⟨hs45_, h44_, r47_, hs51_, h50_, M53_, hI56_, hF57_, r52_, hs59_, rfl, rfl⟩)⟩)⟩)⟩)⟩)⟩
          · simp only [li_0, li_999] at h44_
            refine w_if_ne (tgt := 74) dX11_alike_65 (by decide) li_0 (fun h9 => (absurd h9 (by decide))) (fun h60_ => ?_)
            refine w_aload_n dX11_alike_68 rfl 1 rfl ?_
            refine w_iconst (v := 1) dX11_alike_69 (by decide) ?_
            refine w_callV (as := [vI 1]) (rest := []) (c_X11_error l G cy ad (d + 3) 1 Mz hIz) kV_X11_error (by decide +kernel) (Nat.le_of_ble_eq_true rfl) m_500 rfl rfl rfl ic_11 rfl rfl (by decide) (Nat.le_of_ble_eq_true rfl) dX11_alike_70 (fun r61_ M62_ q63_ => ?_)
            obtain ⟨hI65_, hF66_, h64_, hs68_⟩ := q63_
            have hF67_ := hFz.tr hF66_ (fun c k => (fun h => h.elim (fun h => (Or.inl ⟨h.1, h.2⟩)) (fun h => h.elim)))
            exact w_iret rfl dX11_alike_73 ⟨hI65_, hF67_, trivial, (Or.inl ⟨hs5_, h4_, r7_, hs11_, h10_, (Or.inr ⟨h12_, (Or.inl ⟨hs25_, h24_, j27_, h28_, h29_, r30_, hs34_, h33_, (Or.inl ⟨hs39_, h38_, (Or.inr ⟨hs45_, h44_, M62_, hI65_, hF66_, r61_, hs68_, rfl, rfl⟩)⟩)⟩)⟩)⟩)⟩
        · simp only [li_1] at h38_
          refine w_if_eq (tgt := 68) dX11_alike_53 (by decide) li_0 (fun h69_ => ?_) (fun h9 => (absurd h9 (by decide)))
          refine w_aload_n dX11_alike_68 rfl 1 rfl ?_
          refine w_iconst (v := 1) dX11_alike_69 (by decide) ?_
          refine w_callV (as := [vI 1]) (rest := []) (c_X11_error l G cy ad (d + 3) 1 Mz hIz) kV_X11_error (by decide +kernel) (Nat.le_of_ble_eq_true rfl) m_500 rfl rfl rfl ic_11 rfl rfl (by decide) (Nat.le_of_ble_eq_true rfl) dX11_alike_70 (fun r70_ M71_ q72_ => ?_)
          obtain ⟨hI74_, hF75_, h73_, hs77_⟩ := q72_
          have hF76_ := hFz.tr hF75_ (fun c k => (fun h => h.elim (fun h => (Or.inl ⟨h.1, h.2⟩)) (fun h => h.elim)))
          exact w_iret rfl dX11_alike_73 ⟨hI74_, hF76_, trivial, (Or.inl ⟨hs5_, h4_, r7_, hs11_, h10_, (Or.inr ⟨h12_, (Or.inl ⟨hs25_, h24_, j27_, h28_, h29_, r30_, hs34_, h33_, (Or.inr ⟨hs39_, h38_, M71_, hI74_, hF75_, r70_, hs77_, rfl, rfl⟩)⟩)⟩)⟩)⟩
      · refine w_if_ne (tgt := 32) dX11_alike_23 (by decide) li_0 (fun h9 => (absurd h9 (by decide))) (fun h78_ => ?_)
        refine w_aload_n dX11_alike_26 rfl 0 rfl ?_
        refine w_iconst (v := 1) dX11_alike_27 (by decide) ?_
        refine w_callV (as := [vI 1]) (rest := []) (c_X11_error l G cy ad (d + 3) 1 Mz hIz) kV_X11_error (by decide +kernel) (Nat.le_of_ble_eq_true rfl) m_500 rfl rfl rfl ic_11 rfl rfl (by decide) (Nat.le_of_ble_eq_true rfl) dX11_alike_28 (fun r79_ M80_ q81_ => ?_)
        obtain ⟨hI83_, hF84_, h82_, hs86_⟩ := q81_
        have hF85_ := hFz.tr hF84_ (fun c k => (fun h => h.elim (fun h => (Or.inl ⟨h.1, h.2⟩)) (fun h => h.elim)))
        exact w_iret rfl dX11_alike_31 ⟨hI83_, hF85_, trivial, (Or.inl ⟨hs5_, h4_, r7_, hs11_, h10_, (Or.inr ⟨h12_, (Or.inr ⟨hs25_, h24_, M80_, hI83_, hF84_, r79_, hs86_, rfl, rfl⟩)⟩)⟩)⟩
  · refine w_if_eq (tgt := 26) dX11_alike_8 (by decide) li_0 (fun h87_ => ?_) (fun h9 => (absurd h9 (by decide)))
    refine w_aload_n dX11_alike_26 rfl 0 rfl ?_
    refine w_iconst (v := 1) dX11_alike_27 (by decide) ?_
    refine w_callV (as := [vI 1]) (rest := []) (c_X11_error l G cy ad (d + 3) 1 Mz hIz) kV_X11_error (by decide +kernel) (Nat.le_of_ble_eq_true rfl) m_500 rfl rfl rfl ic_11 rfl rfl (by decide) (Nat.le_of_ble_eq_true rfl) dX11_alike_28 (fun r88_ M89_ q90_ => ?_)
    obtain ⟨hI92_, hF93_, h91_, hs95_⟩ := q90_
    have hF94_ := hFz.tr hF93_ (fun c k => (fun h => h.elim (fun h => (Or.inl ⟨h.1, h.2⟩)) (fun h => h.elim)))
    exact w_iret rfl dX11_alike_31 ⟨hI92_, hF94_, trivial, (Or.inr ⟨hs5_, M89_, hI92_, hF93_, r88_, hs95_, rfl, rfl⟩)⟩
def S_c_X11_least : rf → Nat → Prop := fun c k => (c.1 = 29 ∧ c.2.1 = 0 ∧ k = 0) ∨ (c.1 = 29 ∧ c.2.1 = 0 ∧ k = 1) ∨ (c.1 = 29 ∧ c.2.1 = 0 ∧ k = 2) ∨ (c.1 = 29 ∧ c.2.1 = 0 ∧ k = 3) ∨ (c.1 = 25 ∧ c.2.1 = 0 ∧ c.2.2 = 0) ∨ (c.1 = 25 ∧ c.2.1 = 0 ∧ c.2.2 = 1) ∨ (c.1 = 44 ∧ c.2.1 = 0) ∨ False
def SP_X11_least (v : Int32) (u : Int32) (t : Int32) (s : Int32) (Mz : mM) (r_ : Int32) (M_ : mM) : Prop := (((SP_X10_hasWalker 0 v Mz (1 : Int32)) ∧ (0 ≤ v.toInt ∧ v.toInt ≤ 7) ∧ (((SP_X11_isThingKind u Mz (1 : Int32)) ∧ (0 ≤ u.toInt ∧ u.toInt ≤ 4) ∧ (((SP_X11_within t 1 15 Mz (1 : Int32)) ∧ (1 ≤ t.toInt ∧ t.toInt ≤ 15) ∧ (((SP_X11_within s 0 1 Mz (1 : Int32)) ∧ (0 ≤ s.toInt ∧ s.toInt ≤ 1) ∧ ∃ j25_ : Nat, ((j25_ : Int) = v.toInt) ∧ (j25_ < 8) ∧ ∃ r28_ : Int32, (SP_X9_reach 0 j25_ Mz r28_) ∧ (0 ≤ r28_.toInt ∧ r28_.toInt ≤ 12) ∧ (((t.toInt ≤ r28_.toInt) ∧ (((¬ s.toInt = 0) ∧ ∃ r35_ : Int32, (SP_X9_ears 0 j25_ Mz r35_) ∧ (0 ≤ r35_.toInt ∧ r35_.toInt ≤ 9) ∧ ∃ M41_ : mM, (Inv M41_) ∧ (FR (S_c_X2_leastLoudness 0) Mz M41_) ∧ ∃ r40_ : Int32, (SP_X2_leastLoudness 0 r35_ u t Mz r40_ M41_) ∧ (((¬ r40_.toInt = 0) ∧ r_ = r40_ ∧ M_ = M41_) ∨ ((r40_.toInt = 0) ∧ ∃ M50_ : mM, (Inv M50_) ∧ (FR (S_c_X11_error) M41_ M50_) ∧ ∃ r49_ : Int32, (SP_X11_error 2 M41_ r49_ M50_) ∧ r_ = r49_ ∧ M_ = M50_))) ∨ ((s.toInt = 0) ∧ ∃ r57_ : Int32, (SP_X9_ears 0 j25_ Mz r57_) ∧ (0 ≤ r57_.toInt ∧ r57_.toInt ≤ 9) ∧ ∃ M63_ : mM, (Inv M63_) ∧ (FR (S_c_X2_leastPitch 0) Mz M63_) ∧ ∃ r62_ : Int32, (SP_X2_leastPitch 0 r57_ u t Mz r62_ M63_) ∧ (((¬ r62_.toInt = 0) ∧ r_ = r62_ ∧ M_ = M63_) ∨ ((r62_.toInt = 0) ∧ ∃ M72_ : mM, (Inv M72_) ∧ (FR (S_c_X11_error) M63_ M72_) ∧ ∃ r71_ : Int32, (SP_X11_error 2 M63_ r71_ M72_) ∧ r_ = r71_ ∧ M_ = M72_))))) ∨ ((r28_.toInt < t.toInt) ∧ ∃ M80_ : mM, (Inv M80_) ∧ (FR (S_c_X11_error) Mz M80_) ∧ ∃ r79_ : Int32, (SP_X11_error 2 Mz r79_ M80_) ∧ r_ = r79_ ∧ M_ = M80_))) ∨ ((SP_X11_within s 0 1 Mz (0 : Int32)) ∧ (¬ (0 ≤ s.toInt ∧ s.toInt ≤ 1)) ∧ ∃ M89_ : mM, (Inv M89_) ∧ (FR (S_c_X11_error) Mz M89_) ∧ ∃ r88_ : Int32, (SP_X11_error 1 Mz r88_ M89_) ∧ r_ = r88_ ∧ M_ = M89_))) ∨ ((SP_X11_within t 1 15 Mz (0 : Int32)) ∧ (¬ (1 ≤ t.toInt ∧ t.toInt ≤ 15)) ∧ ∃ M98_ : mM, (Inv M98_) ∧ (FR (S_c_X11_error) Mz M98_) ∧ ∃ r97_ : Int32, (SP_X11_error 1 Mz r97_ M98_) ∧ r_ = r97_ ∧ M_ = M98_))) ∨ ((SP_X11_isThingKind u Mz (0 : Int32)) ∧ (¬ (0 ≤ u.toInt ∧ u.toInt ≤ 4)) ∧ ∃ M107_ : mM, (Inv M107_) ∧ (FR (S_c_X11_error) Mz M107_) ∧ ∃ r106_ : Int32, (SP_X11_error 1 Mz r106_ M107_) ∧ r_ = r106_ ∧ M_ = M107_))) ∨ ((SP_X10_hasWalker 0 v Mz (0 : Int32)) ∧ ∃ M116_ : mM, (Inv M116_) ∧ (FR (S_c_X11_error) Mz M116_) ∧ ∃ r115_ : Int32, (SP_X11_error 1 Mz r115_ M116_) ∧ r_ = r115_ ∧ M_ = M116_))
theorem lf_c_X11_least_0  (v : Int32) (h4_ : 0 ≤ v.toInt ∧ v.toInt ≤ 7) : 0 ≤ v.toInt ∧ v.toInt < ((8 : Nat) : Int) := by have r_v := rngI v; omega
set_option maxHeartbeats 4000000 in
set_option maxRecDepth 100000 in
theorem c_X11_least (l : Launch) (G : va_G) (cy : Nat → ClassId) (ad : rf → Nat) (d : Nat) (v : Int32) (u : Int32) (t : Int32) (s : Int32) (Mz : mM) (hIz : Inv Mz) : WP CC l G cy ad yX11_least cX11_least 7 (some .int) (d + 4) 0 [(0, vR (11, 0, 0)), (1, vI v), (2, vI u), (3, vI t), (4, vI s)] [] Mz (fun r M' => Inv M' ∧ FR (S_c_X11_least) Mz M' ∧ (True) ∧ SP_X11_least v u t s Mz r M') := by
  have hFz : FR (S_c_X11_least) Mz Mz := FR.self
  refine w_aload_n dX11_least_0 rfl 0 rfl ?_
  refine w_getR (c' := (10, 0, 0)) fl_RX11_10 rfl rfl ic_11 dX11_least_1 rfl ?_
  refine w_iload_n dX11_least_4 rfl 1 rfl ?_
  refine w_callV (as := [vI v]) (rest := []) (c_X10_hasWalker l G cy ad (d + 3) 0 v Mz hIz (by first | decide | (unfold vF; omega) | (unfold vRw; omega))) kV_X10_hasWalker (by decide +kernel) (Nat.le_of_ble_eq_true rfl) m_609 rfl rfl rfl (ic_10 (by decide)) rfl rfl (by decide) (Nat.le_of_ble_eq_true rfl) dX11_least_5 (fun r1_ M2_ q3_ => ?_)
  obtain ⟨rfl, h4_, hs5_⟩ := q3_
  rcases h4_ with ⟨rfl, h4_⟩ | rfl
  · refine w_if_eq (tgt := 38) dX11_least_8 (by decide) li_1 (fun h9 => (absurd h9 (by decide))) (fun h6_ => ?_)
    refine w_iload_n dX11_least_11 rfl 2 rfl ?_
    refine w_callS (as := [vI u]) (rest := []) (c_X11_isThingKind l G cy ad (d + 2) u Mz hIz) kS_X11_isThingKind (by decide +kernel) (Nat.le_of_ble_eq_true rfl) m_491 rfl rfl (by decide) (Nat.le_of_ble_eq_true rfl) dX11_least_12 (fun r7_ M8_ q9_ => ?_)
    obtain ⟨rfl, h10_, hs11_⟩ := q9_
    rcases h10_ with ⟨rfl, h10_⟩ | ⟨rfl, h10_⟩
    · refine w_if_eq (tgt := 38) dX11_least_15 (by decide) li_1 (fun h9 => (absurd h9 (by decide))) (fun h12_ => ?_)
      refine w_iload_n dX11_least_18 rfl 3 rfl ?_
      refine w_iconst (v := 1) dX11_least_19 (by decide) ?_
      refine w_bipush (v := 15) dX11_least_20 (by decide) ?_
      refine w_callS (as := [vI t, vI 1, vI 15]) (rest := []) (c_X11_within l G cy ad (d + 3) t 1 15 Mz hIz) kS_X11_within (by decide +kernel) (Nat.le_of_ble_eq_true rfl) m_494 rfl rfl (by decide) (Nat.le_of_ble_eq_true rfl) dX11_least_22 (fun r13_ M14_ q15_ => ?_)
      obtain ⟨rfl, h16_, hs17_⟩ := q15_
      rcases h16_ with ⟨rfl, h16_⟩ | ⟨rfl, h16_⟩
      · simp only [li_1, li_15] at h16_
        refine w_if_eq (tgt := 38) dX11_least_25 (by decide) li_1 (fun h9 => (absurd h9 (by decide))) (fun h18_ => ?_)
        refine w_iload dX11_least_28 4 rfl ?_
        refine w_iconst (v := 0) dX11_least_30 (by decide) ?_
        refine w_iconst (v := 1) dX11_least_31 (by decide) ?_
        refine w_callS (as := [vI s, vI 0, vI 1]) (rest := []) (c_X11_within l G cy ad (d + 3) s 0 1 Mz hIz) kS_X11_within (by decide +kernel) (Nat.le_of_ble_eq_true rfl) m_494 rfl rfl (by decide) (Nat.le_of_ble_eq_true rfl) dX11_least_32 (fun r19_ M20_ q21_ => ?_)
        obtain ⟨rfl, h22_, hs23_⟩ := q21_
        rcases h22_ with ⟨rfl, h22_⟩ | ⟨rfl, h22_⟩
        · simp only [li_0, li_1] at h22_
          refine w_if_ne (tgt := 44) dX11_least_35 (by decide) li_1 (fun h24_ => ?_) (fun h9 => (absurd h9 (by decide)))
          refine w_aload_n dX11_least_44 rfl 0 rfl ?_
          refine w_getR (c' := (10, 0, 0)) fl_RX11_10 rfl rfl ic_11 dX11_least_45 rfl ?_
          refine w_getR (c' := (42, 0, 0)) fl_RX11_157 rfl rfl (ic_10 (by decide)) dX11_least_48 rfl ?_
          refine w_iload_n dX11_least_51 rfl 1 rfl ?_
          refine w_aald rfl rfl rfl (fun _ => rfl) (ic_42 (by decide)) (rfl : v.toInt = v.toInt) (lf_c_X11_least_0 v h4_) dX11_least_52 (fun j25_ h26_ h27_ => ?_)
          refine w_astore (ls' := [(5, vR (9, 0, j25_)), (0, vR (11, 0, 0)), (1, vI v), (2, vI u), (3, vI t), (4, vI s)]) dX11_least_53 (by decide) rfl ?_
          refine w_iload_n dX11_least_55 rfl 4 rfl ?_
          refine w_aload dX11_least_56 0 rfl ?_
          refine w_callV (as := []) (rest := [vI t]) (c_X9_reach l G cy ad (d + 3) 0 j25_ Mz hIz (by first | decide | (unfold vF; omega) | (unfold vRw; omega)) h27_) kV_X9_reach (by decide +kernel) (Nat.le_of_ble_eq_true rfl) m_648 rfl rfl rfl (ic_9 (by decide) h27_) rfl rfl (by decide) (Nat.le_of_ble_eq_true rfl) dX11_least_58 (fun r28_ M29_ q30_ => ?_)
          obtain ⟨rfl, h31_, hs32_⟩ := q30_
          refine w_icmp_le (tgt := 70) dX11_least_61 (by decide) (rfl : t.toInt = t.toInt) (rfl : r28_.toInt = r28_.toInt) (fun h33_ => ?_) (fun h33_ => ?_)
          · refine w_iload dX11_least_70 5 rfl ?_
            refine w_if_ne (tgt := 95) dX11_least_72 (by decide) (rfl : s.toInt = s.toInt) (fun h34_ => ?_) (fun h34_ => ?_)
            · refine w_aload_n dX11_least_95 rfl 1 rfl ?_
              refine w_getR (c' := (10, 0, 0)) fl_RX11_10 rfl rfl ic_11 dX11_least_96 rfl ?_
              refine w_getR (c' := (2, 0, 0)) fl_RX11_114 rfl rfl (ic_10 (by decide)) dX11_least_99 rfl ?_
              refine w_aload dX11_least_102 0 rfl ?_
              refine w_callV (as := []) (rest := [vR (2, 0, 0)]) (c_X9_ears l G cy ad (d + 3) 0 j25_ Mz hIz (by first | decide | (unfold vF; omega) | (unfold vRw; omega)) h27_) kV_X9_ears (by decide +kernel) (Nat.le_of_ble_eq_true rfl) m_951 rfl rfl rfl (ic_9 (by decide) h27_) rfl rfl (by decide) (Nat.le_of_ble_eq_true rfl) dX11_least_104 (fun r35_ M36_ q37_ => ?_)
              obtain ⟨rfl, h38_, hs39_⟩ := q37_
              refine w_iload_n dX11_least_107 rfl 3 rfl ?_
              refine w_iload_n dX11_least_108 rfl 4 rfl ?_
              refine w_callV (as := [vI r35_, vI u, vI t]) (rest := []) (c_X2_leastLoudness l G cy ad d 0 r35_ u t Mz hIz (by first | decide | (unfold vF; omega) | (unfold vRw; omega))) kV_X2_leastLoudness (by decide +kernel) (Nat.le_of_ble_eq_true rfl) m_965 rfl rfl rfl (ic_2 (by decide)) rfl rfl (by decide) (Nat.le_of_ble_eq_true rfl) dX11_least_109 (fun r40_ M41_ q42_ => ?_)
              obtain ⟨hI44_, hF45_, h43_, hs47_⟩ := q42_
              have hF46_ := hFz.tr hF45_ (fun c k => (fun h => h.elim (fun h => (Or.inl ⟨h.1, h.2.1, h.2.2⟩)) (fun h => h.elim (fun h => (Or.inr (Or.inl ⟨h.1, h.2.1, h.2.2⟩))) (fun h => h.elim (fun h => (Or.inr (Or.inr (Or.inl ⟨h.1, h.2.1, h.2.2⟩)))) (fun h => h.elim (fun h => (Or.inr (Or.inr (Or.inr (Or.inl ⟨h.1, h.2.1, h.2.2⟩))))) (fun h => h.elim (fun h => (Or.inr (Or.inr (Or.inr (Or.inr (Or.inl ⟨h.1, h.2.1, h.2.2⟩)))))) (fun h => h.elim (fun h => (Or.inr (Or.inr (Or.inr (Or.inr (Or.inr (Or.inl ⟨h.1, h.2.1, h.2.2⟩))))))) (fun h => h.elim))))))))
              refine w_istore (ls' := [(6, vI r40_), (5, vR (9, 0, j25_)), (0, vR (11, 0, 0)), (1, vI v), (2, vI u), (3, vI t), (4, vI s)]) dX11_least_112 (by decide) rfl ?_
              refine w_iload dX11_least_114 0 rfl ?_
              refine w_if_ne (tgt := 127) dX11_least_116 (by decide) (rfl : r40_.toInt = r40_.toInt) (fun h48_ => ?_) (fun h48_ => ?_)
              · refine w_iload dX11_least_127 0 rfl ?_
                exact w_iret rfl dX11_least_129 ⟨hI44_, hF46_, trivial, (Or.inl ⟨hs5_, h4_, (Or.inl ⟨hs11_, h10_, (Or.inl ⟨hs17_, h16_, (Or.inl ⟨hs23_, h22_, j25_, h26_, h27_, r28_, hs32_, h31_, (Or.inl ⟨h33_, (Or.inl ⟨h34_, r35_, hs39_, h38_, M41_, hI44_, hF45_, r40_, hs47_, (Or.inl ⟨h48_, rfl, rfl⟩)⟩)⟩)⟩)⟩)⟩)⟩)⟩
              · refine w_aload_n dX11_least_119 rfl 2 rfl ?_
                refine w_iconst (v := 2) dX11_least_120 (by decide) ?_
                refine w_callV (as := [vI 2]) (rest := []) (c_X11_error l G cy ad (d + 3) 2 M41_ hI44_) kV_X11_error (by decide +kernel) (Nat.le_of_ble_eq_true rfl) m_500 rfl rfl rfl ic_11 rfl rfl (by decide) (Nat.le_of_ble_eq_true rfl) dX11_least_121 (fun r49_ M50_ q51_ => ?_)
                obtain ⟨hI53_, hF54_, h52_, hs56_⟩ := q51_
                have hF55_ := hF46_.tr hF54_ (fun c k => (fun h => h.elim (fun h => (Or.inr (Or.inr (Or.inr (Or.inr (Or.inr (Or.inr (Or.inl ⟨h.1, h.2⟩)))))))) (fun h => h.elim)))
                refine w_goto (tgt := 129) dX11_least_124 (by decide) ?_
                exact w_iret rfl dX11_least_129 ⟨hI53_, hF55_, trivial, (Or.inl ⟨hs5_, h4_, (Or.inl ⟨hs11_, h10_, (Or.inl ⟨hs17_, h16_, (Or.inl ⟨hs23_, h22_, j25_, h26_, h27_, r28_, hs32_, h31_, (Or.inl ⟨h33_, (Or.inl ⟨h34_, r35_, hs39_, h38_, M41_, hI44_, hF45_, r40_, hs47_, (Or.inr ⟨h48_, M50_, hI53_, hF54_, r49_, hs56_, rfl, rfl⟩)⟩)⟩)⟩)⟩)⟩)⟩)⟩
            · refine w_aload_n dX11_least_75 rfl 1 rfl ?_
              refine w_getR (c' := (10, 0, 0)) fl_RX11_10 rfl rfl ic_11 dX11_least_76 rfl ?_
              refine w_getR (c' := (2, 0, 0)) fl_RX11_114 rfl rfl (ic_10 (by decide)) dX11_least_79 rfl ?_
              refine w_aload dX11_least_82 0 rfl ?_
              refine w_callV (as := []) (rest := [vR (2, 0, 0)]) (c_X9_ears l G cy ad (d + 3) 0 j25_ Mz hIz (by first | decide | (unfold vF; omega) | (unfold vRw; omega)) h27_) kV_X9_ears (by decide +kernel) (Nat.le_of_ble_eq_true rfl) m_951 rfl rfl rfl (ic_9 (by decide) h27_) rfl rfl (by decide) (Nat.le_of_ble_eq_true rfl) dX11_least_84 (fun r57_ M58_ q59_ => ?_)
              obtain ⟨rfl, h60_, hs61_⟩ := q59_
              refine w_iload_n dX11_least_87 rfl 3 rfl ?_
              refine w_iload_n dX11_least_88 rfl 4 rfl ?_
              refine w_callV (as := [vI r57_, vI u, vI t]) (rest := []) (c_X2_leastPitch l G cy ad d 0 r57_ u t Mz hIz (by first | decide | (unfold vF; omega) | (unfold vRw; omega))) kV_X2_leastPitch (by decide +kernel) (Nat.le_of_ble_eq_true rfl) m_961 rfl rfl rfl (ic_2 (by decide)) rfl rfl (by decide) (Nat.le_of_ble_eq_true rfl) dX11_least_89 (fun r62_ M63_ q64_ => ?_)
              obtain ⟨hI66_, hF67_, h65_, hs69_⟩ := q64_
              have hF68_ := hFz.tr hF67_ (fun c k => (fun h => h.elim (fun h => (Or.inl ⟨h.1, h.2.1, h.2.2⟩)) (fun h => h.elim (fun h => (Or.inr (Or.inl ⟨h.1, h.2.1, h.2.2⟩))) (fun h => h.elim (fun h => (Or.inr (Or.inr (Or.inl ⟨h.1, h.2.1, h.2.2⟩)))) (fun h => h.elim (fun h => (Or.inr (Or.inr (Or.inr (Or.inl ⟨h.1, h.2.1, h.2.2⟩))))) (fun h => h.elim (fun h => (Or.inr (Or.inr (Or.inr (Or.inr (Or.inl ⟨h.1, h.2.1, h.2.2⟩)))))) (fun h => h.elim (fun h => (Or.inr (Or.inr (Or.inr (Or.inr (Or.inr (Or.inl ⟨h.1, h.2.1, h.2.2⟩))))))) (fun h => h.elim))))))))
              refine w_goto (tgt := 112) dX11_least_92 (by decide) ?_
              refine w_istore (ls' := [(6, vI r62_), (5, vR (9, 0, j25_)), (0, vR (11, 0, 0)), (1, vI v), (2, vI u), (3, vI t), (4, vI s)]) dX11_least_112 (by decide) rfl ?_
              refine w_iload dX11_least_114 0 rfl ?_
              refine w_if_ne (tgt := 127) dX11_least_116 (by decide) (rfl : r62_.toInt = r62_.toInt) (fun h70_ => ?_) (fun h70_ => ?_)
              · refine w_iload dX11_least_127 0 rfl ?_
                exact w_iret rfl dX11_least_129 ⟨hI66_, hF68_, trivial, (Or.inl ⟨hs5_, h4_, (Or.inl ⟨hs11_, h10_, (Or.inl ⟨hs17_, h16_, (Or.inl ⟨hs23_, h22_, j25_, h26_, h27_, r28_, hs32_, h31_, (Or.inl ⟨h33_, (Or.inr ⟨h34_, r57_, hs61_, h60_, M63_, hI66_, hF67_, r62_, hs69_, (Or.inl ⟨h70_, rfl, rfl⟩)⟩)⟩)⟩)⟩)⟩)⟩)⟩
              · refine w_aload_n dX11_least_119 rfl 2 rfl ?_
                refine w_iconst (v := 2) dX11_least_120 (by decide) ?_
                refine w_callV (as := [vI 2]) (rest := []) (c_X11_error l G cy ad (d + 3) 2 M63_ hI66_) kV_X11_error (by decide +kernel) (Nat.le_of_ble_eq_true rfl) m_500 rfl rfl rfl ic_11 rfl rfl (by decide) (Nat.le_of_ble_eq_true rfl) dX11_least_121 (fun r71_ M72_ q73_ => ?_)
                obtain ⟨hI75_, hF76_, h74_, hs78_⟩ := q73_
                have hF77_ := hF68_.tr hF76_ (fun c k => (fun h => h.elim (fun h => (Or.inr (Or.inr (Or.inr (Or.inr (Or.inr (Or.inr (Or.inl ⟨h.1, h.2⟩)))))))) (fun h => h.elim)))
                refine w_goto (tgt := 129) dX11_least_124 (by decide) ?_
                exact w_iret rfl dX11_least_129 ⟨hI75_, hF77_, trivial, (Or.inl ⟨hs5_, h4_, (Or.inl ⟨hs11_, h10_, (Or.inl ⟨hs17_, h16_, (Or.inl ⟨hs23_, h22_, j25_, h26_, h27_, r28_, hs32_, h31_, (Or.inl ⟨h33_, (Or.inr ⟨h34_, r57_, hs61_, h60_, M63_, hI66_, hF67_, r62_, hs69_, (Or.inr ⟨h70_, M72_, hI75_, hF76_, r71_, hs78_, rfl, rfl⟩)⟩)⟩)⟩)⟩)⟩)⟩)⟩
          · refine w_aload_n dX11_least_64 rfl 1 rfl ?_
            refine w_iconst (v := 2) dX11_least_65 (by decide) ?_
            refine w_callV (as := [vI 2]) (rest := []) (c_X11_error l G cy ad (d + 3) 2 Mz hIz) kV_X11_error (by decide +kernel) (Nat.le_of_ble_eq_true rfl) m_500 rfl rfl rfl ic_11 rfl rfl (by decide) (Nat.le_of_ble_eq_true rfl) dX11_least_66 (fun r79_ M80_ q81_ => ?_)
            obtain ⟨hI83_, hF84_, h82_, hs86_⟩ := q81_
            have hF85_ := hFz.tr hF84_ (fun c k => (fun h => h.elim (fun h => (Or.inr (Or.inr (Or.inr (Or.inr (Or.inr (Or.inr (Or.inl ⟨h.1, h.2⟩)))))))) (fun h => h.elim)))
            exact w_iret rfl dX11_least_69 ⟨hI83_, hF85_, trivial, (Or.inl ⟨hs5_, h4_, (Or.inl ⟨hs11_, h10_, (Or.inl ⟨hs17_, h16_, (Or.inl ⟨hs23_, h22_, j25_, h26_, h27_, r28_, hs32_, h31_, (Or.inr ⟨h33_, M80_, hI83_, hF84_, r79_, hs86_, rfl, rfl⟩)⟩)⟩)⟩)⟩)⟩
        · simp only [li_0, li_1] at h22_
          refine w_if_ne (tgt := 44) dX11_least_35 (by decide) li_0 (fun h9 => (absurd h9 (by decide))) (fun h87_ => ?_)
          refine w_aload_n dX11_least_38 rfl 0 rfl ?_
          refine w_iconst (v := 1) dX11_least_39 (by decide) ?_
          refine w_callV (as := [vI 1]) (rest := []) (c_X11_error l G cy ad (d + 3) 1 Mz hIz) kV_X11_error (by decide +kernel) (Nat.le_of_ble_eq_true rfl) m_500 rfl rfl rfl ic_11 rfl rfl (by decide) (Nat.le_of_ble_eq_true rfl) dX11_least_40 (fun r88_ M89_ q90_ => ?_)
          obtain ⟨hI92_, hF93_, h91_, hs95_⟩ := q90_
          have hF94_ := hFz.tr hF93_ (fun c k => (fun h => h.elim (fun h => (Or.inr (Or.inr (Or.inr (Or.inr (Or.inr (Or.inr (Or.inl ⟨h.1, h.2⟩)))))))) (fun h => h.elim)))
          exact w_iret rfl dX11_least_43 ⟨hI92_, hF94_, trivial, (Or.inl ⟨hs5_, h4_, (Or.inl ⟨hs11_, h10_, (Or.inl ⟨hs17_, h16_, (Or.inr ⟨hs23_, h22_, M89_, hI92_, hF93_, r88_, hs95_, rfl, rfl⟩)⟩)⟩)⟩)⟩
      · simp only [li_1, li_15] at h16_
        refine w_if_eq (tgt := 38) dX11_least_25 (by decide) li_0 (fun h96_ => ?_) (fun h9 => (absurd h9 (by decide)))
        refine w_aload_n dX11_least_38 rfl 0 rfl ?_
        refine w_iconst (v := 1) dX11_least_39 (by decide) ?_
        refine w_callV (as := [vI 1]) (rest := []) (c_X11_error l G cy ad (d + 3) 1 Mz hIz) kV_X11_error (by decide +kernel) (Nat.le_of_ble_eq_true rfl) m_500 rfl rfl rfl ic_11 rfl rfl (by decide) (Nat.le_of_ble_eq_true rfl) dX11_least_40 (fun r97_ M98_ q99_ => ?_)
        obtain ⟨hI101_, hF102_, h100_, hs104_⟩ := q99_
        have hF103_ := hFz.tr hF102_ (fun c k => (fun h => h.elim (fun h => (Or.inr (Or.inr (Or.inr (Or.inr (Or.inr (Or.inr (Or.inl ⟨h.1, h.2⟩)))))))) (fun h => h.elim)))
        exact w_iret rfl dX11_least_43 ⟨hI101_, hF103_, trivial, (Or.inl ⟨hs5_, h4_, (Or.inl ⟨hs11_, h10_, (Or.inr ⟨hs17_, h16_, M98_, hI101_, hF102_, r97_, hs104_, rfl, rfl⟩)⟩)⟩)⟩
    · refine w_if_eq (tgt := 38) dX11_least_15 (by decide) li_0 (fun h105_ => ?_) (fun h9 => (absurd h9 (by decide)))
      refine w_aload_n dX11_least_38 rfl 0 rfl ?_
      refine w_iconst (v := 1) dX11_least_39 (by decide) ?_
      refine w_callV (as := [vI 1]) (rest := []) (c_X11_error l G cy ad (d + 3) 1 Mz hIz) kV_X11_error (by decide +kernel) (Nat.le_of_ble_eq_true rfl) m_500 rfl rfl rfl ic_11 rfl rfl (by decide) (Nat.le_of_ble_eq_true rfl) dX11_least_40 (fun r106_ M107_ q108_ => ?_)
      obtain ⟨hI110_, hF111_, h109_, hs113_⟩ := q108_
      have hF112_ := hFz.tr hF111_ (fun c k => (fun h => h.elim (fun h => (Or.inr (Or.inr (Or.inr (Or.inr (Or.inr (Or.inr (Or.inl ⟨h.1, h.2⟩)))))))) (fun h => h.elim)))
      exact w_iret rfl dX11_least_43 ⟨hI110_, hF112_, trivial, (Or.inl ⟨hs5_, h4_, (Or.inr ⟨hs11_, h10_, M107_, hI110_, hF111_, r106_, hs113_, rfl, rfl⟩)⟩)⟩
  · refine w_if_eq (tgt := 38) dX11_least_8 (by decide) li_0 (fun h114_ => ?_) (fun h9 => (absurd h9 (by decide)))
    refine w_aload_n dX11_least_38 rfl 0 rfl ?_
    refine w_iconst (v := 1) dX11_least_39 (by decide) ?_
    refine w_callV (as := [vI 1]) (rest := []) (c_X11_error l G cy ad (d + 3) 1 Mz hIz) kV_X11_error (by decide +kernel) (Nat.le_of_ble_eq_true rfl) m_500 rfl rfl rfl ic_11 rfl rfl (by decide) (Nat.le_of_ble_eq_true rfl) dX11_least_40 (fun r115_ M116_ q117_ => ?_)
    obtain ⟨hI119_, hF120_, h118_, hs122_⟩ := q117_
    have hF121_ := hFz.tr hF120_ (fun c k => (fun h => h.elim (fun h => (Or.inr (Or.inr (Or.inr (Or.inr (Or.inr (Or.inr (Or.inl ⟨h.1, h.2⟩)))))))) (fun h => h.elim)))
    exact w_iret rfl dX11_least_43 ⟨hI119_, hF121_, trivial, (Or.inr ⟨hs5_, M116_, hI119_, hF120_, r115_, hs122_, rfl, rfl⟩)⟩
def S_c_X11_goes : rf → Nat → Prop := fun c k => (c.1 = 9 ∧ c.2.1 = 0 ∧ k = 6) ∨ (c.1 = 44 ∧ c.2.1 = 0) ∨ False
def SP_X11_goes (v : Int32) (u : Int32) (Mz : mM) (r_ : Int32) (M_ : mM) : Prop := (((SP_X10_hasWalker 0 v Mz (1 : Int32)) ∧ (0 ≤ v.toInt ∧ v.toInt ≤ 7) ∧ ∃ j7_ : Nat, ((j7_ : Int) = v.toInt) ∧ (j7_ < 8) ∧ ∃ z10_ : Int32, (z10_ = Mz.1 (9, 0, j7_) 6) ∧ (0 ≤ z10_.toInt ∧ z10_.toInt ≤ 1) ∧ ∃ j13_ : Nat, ((j13_ : Int) = v.toInt) ∧ (j13_ < 8) ∧ ∃ M16_ : mM, (M16_ = up Mz (9, 0, j13_) 6 u) ∧ (((z10_.toInt = 0) ∧ r_ = 0 ∧ M_ = M16_) ∨ ((¬ z10_.toInt = 0) ∧ r_ = 1 ∧ M_ = M16_))) ∨ ((SP_X10_hasWalker 0 v Mz (0 : Int32)) ∧ ∃ M23_ : mM, (Inv M23_) ∧ (FR (S_c_X11_error) Mz M23_) ∧ ∃ r22_ : Int32, (SP_X11_error 1 Mz r22_ M23_) ∧ r_ = r22_ ∧ M_ = M23_))
theorem lf_c_X11_goes_0  (v : Int32) (h4_ : 0 ≤ v.toInt ∧ v.toInt ≤ 7) : 0 ≤ v.toInt ∧ v.toInt < ((8 : Nat) : Int) := by have r_v := rngI v; omega
theorem lf_c_X11_goes_1 (Mz : mM) (v : Int32) (j7_ : Nat) (z10_ : Int32) (h4_ : 0 ≤ v.toInt ∧ v.toInt ≤ 7) (h8_ : (j7_ : Int) = v.toInt) (h9_ : j7_ < 8) (e11_ : z10_ = Mz.1 (9, 0, j7_) 6) (h12_ : 0 ≤ z10_.toInt ∧ z10_.toInt ≤ 1) : 0 ≤ v.toInt ∧ v.toInt < ((8 : Nat) : Int) := by have r_v := rngI v; have r_z10_ := rngI z10_; subst e11_; omega
set_option maxHeartbeats 4000000 in
set_option maxRecDepth 100000 in
theorem c_X11_goes (l : Launch) (G : va_G) (cy : Nat → ClassId) (ad : rf → Nat) (d : Nat) (v : Int32) (u : Int32) (Mz : mM) (hIz : Inv Mz) (hu : 0 ≤ u.toInt ∧ u.toInt ≤ 1) : WP CC l G cy ad yX11_goes cX11_goes 4 (some .int) (d + 1) 0 [(0, vR (11, 0, 0)), (1, vI v), (2, vI u)] [] Mz (fun r M' => Inv M' ∧ FR (S_c_X11_goes) Mz M' ∧ (True) ∧ SP_X11_goes v u Mz r M') := by
  have hFz : FR (S_c_X11_goes) Mz Mz := FR.self
  refine w_aload_n dX11_goes_0 rfl 0 rfl ?_
  refine w_getR (c' := (10, 0, 0)) fl_RX11_10 rfl rfl ic_11 dX11_goes_1 rfl ?_
  refine w_iload_n dX11_goes_4 rfl 1 rfl ?_
  refine w_callV (as := [vI v]) (rest := []) (c_X10_hasWalker l G cy ad d 0 v Mz hIz (by first | decide | (unfold vF; omega) | (unfold vRw; omega))) kV_X10_hasWalker (by decide +kernel) (Nat.le_of_ble_eq_true rfl) m_609 rfl rfl rfl (ic_10 (by decide)) rfl rfl (by decide) (Nat.le_of_ble_eq_true rfl) dX11_goes_5 (fun r1_ M2_ q3_ => ?_)
  obtain ⟨rfl, h4_, hs5_⟩ := q3_
  rcases h4_ with ⟨rfl, h4_⟩ | rfl
  · refine w_if_ne (tgt := 17) dX11_goes_8 (by decide) li_1 (fun h6_ => ?_) (fun h9 => (absurd h9 (by decide)))
    refine w_aload_n dX11_goes_17 rfl 0 rfl ?_
    refine w_getR (c' := (10, 0, 0)) fl_RX11_10 rfl rfl ic_11 dX11_goes_18 rfl ?_
    refine w_getR (c' := (42, 0, 0)) fl_RX11_157 rfl rfl (ic_10 (by decide)) dX11_goes_21 rfl ?_
    refine w_iload_n dX11_goes_24 rfl 1 rfl ?_
    refine w_aald rfl rfl rfl (fun _ => rfl) (ic_42 (by decide)) (rfl : v.toInt = v.toInt) (lf_c_X11_goes_0 v h4_) dX11_goes_25 (fun j7_ h8_ h9_ => ?_)
    refine w_getI fl_RX11_188 rfl rfl (ic_9 (by decide) h9_) dX11_goes_26 (fun z10_ e11_ => ?_)
    have h12_ : 0 ≤ z10_.toInt ∧ z10_.toInt ≤ 1 := ofEq (P := fun v => 0 ≤ v.toInt ∧ v.toInt ≤ 1) e11_ (hIz (9, 0, j7_) 6 rfl)
    refine w_istore_n (ls' := [(3, vI z10_), (0, vR (11, 0, 0)), (1, vI v), (2, vI u)]) dX11_goes_29 rfl (by decide) rfl ?_
    refine w_aload_n dX11_goes_30 rfl 1 rfl ?_
    refine w_getR (c' := (10, 0, 0)) fl_RX11_10 rfl rfl ic_11 dX11_goes_31 rfl ?_
    refine w_getR (c' := (42, 0, 0)) fl_RX11_157 rfl rfl (ic_10 (by decide)) dX11_goes_34 rfl ?_
    refine w_iload_n dX11_goes_37 rfl 2 rfl ?_
    refine w_aald rfl rfl rfl (fun _ => rfl) (ic_42 (by decide)) (rfl : v.toInt = v.toInt) (lf_c_X11_goes_1 Mz v j7_ z10_ h4_ h8_ h9_ e11_ h12_) dX11_goes_38 (fun j13_ h14_ h15_ => ?_)
    refine w_iload_n dX11_goes_39 rfl 3 rfl ?_
    refine w_putZ CC_nd fl_RX11_188 rfl rfl (ic_9 (by decide) h15_) hu dX11_goes_40 (fun M16_ hM17_ => ?_)
    have hI18_ := hIz.put hM17_ (fun _ => hu)
    have hF19_ := hFz.put hM17_ (Or.inl ⟨rfl, rfl, rfl⟩)
    refine w_iload_n dX11_goes_43 rfl 0 rfl ?_
    refine w_if_eq (tgt := 51) dX11_goes_44 (by decide) (rfl : z10_.toInt = z10_.toInt) (fun h20_ => ?_) (fun h20_ => ?_)
    · refine w_iconst (v := 0) dX11_goes_51 (by decide) ?_
      exact w_iret rfl dX11_goes_52 ⟨hI18_, hF19_, trivial, (Or.inl ⟨hs5_, h4_, j7_, h8_, h9_, z10_, e11_, h12_, j13_, h14_, h15_, M16_, hM17_, (Or.inl ⟨h20_, rfl, rfl⟩)⟩)⟩
    · refine w_iconst (v := 1) dX11_goes_47 (by decide) ?_
      refine w_goto (tgt := 52) dX11_goes_48 (by decide) ?_
      exact w_iret rfl dX11_goes_52 ⟨hI18_, hF19_, trivial, (Or.inl ⟨hs5_, h4_, j7_, h8_, h9_, z10_, e11_, h12_, j13_, h14_, h15_, M16_, hM17_, (Or.inr ⟨h20_, rfl, rfl⟩)⟩)⟩
  · refine w_if_ne (tgt := 17) dX11_goes_8 (by decide) li_0 (fun h9 => (absurd h9 (by decide))) (fun h21_ => ?_)
    refine w_aload_n dX11_goes_11 rfl 0 rfl ?_
    refine w_iconst (v := 1) dX11_goes_12 (by decide) ?_
    refine w_callV (as := [vI 1]) (rest := []) (c_X11_error l G cy ad d 1 Mz hIz) kV_X11_error (by decide +kernel) (Nat.le_of_ble_eq_true rfl) m_500 rfl rfl rfl ic_11 rfl rfl (by decide) (Nat.le_of_ble_eq_true rfl) dX11_goes_13 (fun r22_ M23_ q24_ => ?_)
    obtain ⟨hI26_, hF27_, h25_, hs29_⟩ := q24_
    have hF28_ := hFz.tr hF27_ (fun c k => (fun h => h.elim (fun h => (Or.inr (Or.inl ⟨h.1, h.2⟩))) (fun h => h.elim)))
    exact w_iret rfl dX11_goes_16 ⟨hI26_, hF28_, trivial, (Or.inr ⟨hs5_, M23_, hI26_, hF27_, r22_, hs29_, rfl, rfl⟩)⟩
def S_c_X11_echo : rf → Nat → Prop := fun c k => (c.1 = 44 ∧ c.2.1 = 0) ∨ (c.1 = 29 ∧ c.2.1 = 0 ∧ k = 0) ∨ (c.1 = 29 ∧ c.2.1 = 0 ∧ k = 1) ∨ (c.1 = 29 ∧ c.2.1 = 0 ∧ k = 2) ∨ (c.1 = 29 ∧ c.2.1 = 0 ∧ k = 3) ∨ (c.1 = 25 ∧ c.2.1 = 0 ∧ c.2.2 = 0) ∨ (c.1 = 25 ∧ c.2.1 = 0 ∧ c.2.2 = 1) ∨ False
def SP_X11_echo (v : Int32) (u : Int32) (t : Int32) (s : Int32) (Mz : mM) (r_ : Int32) (M_ : mM) : Prop := (((SP_X10_hasWalker 0 v Mz (1 : Int32)) ∧ (0 ≤ v.toInt ∧ v.toInt ≤ 7) ∧ ∃ r7_ : Int32, (SP_X2_isClick_ u Mz r7_) ∧ ((0 ≤ r7_.toInt ∧ r7_.toInt ≤ 1)) ∧ (((r7_.toInt = 0) ∧ ∃ M14_ : mM, (Inv M14_) ∧ (FR (S_c_X11_error) Mz M14_) ∧ ∃ r13_ : Int32, (SP_X11_error 1 Mz r13_ M14_) ∧ r_ = r13_ ∧ M_ = M14_) ∨ ((¬ r7_.toInt = 0) ∧ (((SP_X7_isSide t Mz (1 : Int32)) ∧ (0 ≤ t.toInt ∧ t.toInt ≤ 7) ∧ (((SP_X11_within s 0 5 Mz (1 : Int32)) ∧ (0 ≤ s.toInt ∧ s.toInt ≤ 5) ∧ ∃ j33_ : Nat, ((j33_ : Int) = v.toInt) ∧ (j33_ < 8) ∧ ∃ z36_ : Int32, (z36_ = Mz.1 (9, 0, j33_) 1) ∧ ∃ r38_ : Int32, (SP_X10_echoYards 0 v z36_ t Mz r38_) ∧ (0 ≤ r38_.toInt ∧ r38_.toInt ≤ 12) ∧ (((¬ r38_.toInt = 0) ∧ ∃ M45_ : mM, (Inv M45_) ∧ (FR (S_c_X10_echoFact 0) Mz M45_) ∧ ∃ r44_ : Int32, (SP_X10_echoFact 0 v u t s Mz r44_ M45_) ∧ r_ = r44_ ∧ M_ = M45_) ∨ ((r38_.toInt = 0) ∧ ∃ M53_ : mM, (Inv M53_) ∧ (FR (S_c_X11_error) Mz M53_) ∧ ∃ r52_ : Int32, (SP_X11_error 2 Mz r52_ M53_) ∧ r_ = r52_ ∧ M_ = M53_))) ∨ ((SP_X11_within s 0 5 Mz (0 : Int32)) ∧ (¬ (0 ≤ s.toInt ∧ s.toInt ≤ 5)) ∧ ∃ M62_ : mM, (Inv M62_) ∧ (FR (S_c_X11_error) Mz M62_) ∧ ∃ r61_ : Int32, (SP_X11_error 1 Mz r61_ M62_) ∧ r_ = r61_ ∧ M_ = M62_))) ∨ ((SP_X7_isSide t Mz (0 : Int32)) ∧ (¬ (0 ≤ t.toInt ∧ t.toInt ≤ 7)) ∧ ∃ M71_ : mM, (Inv M71_) ∧ (FR (S_c_X11_error) Mz M71_) ∧ ∃ r70_ : Int32, (SP_X11_error 1 Mz r70_ M71_) ∧ r_ = r70_ ∧ M_ = M71_))))) ∨ ((SP_X10_hasWalker 0 v Mz (0 : Int32)) ∧ ∃ M80_ : mM, (Inv M80_) ∧ (FR (S_c_X11_error) Mz M80_) ∧ ∃ r79_ : Int32, (SP_X11_error 1 Mz r79_ M80_) ∧ r_ = r79_ ∧ M_ = M80_))
theorem lf_c_X11_echo_0  (v : Int32) (h4_ : 0 ≤ v.toInt ∧ v.toInt ≤ 7) : 0 ≤ v.toInt ∧ v.toInt < ((8 : Nat) : Int) := by have r_v := rngI v; omega
set_option maxHeartbeats 4000000 in
set_option maxRecDepth 100000 in
theorem c_X11_echo (l : Launch) (G : va_G) (cy : Nat → ClassId) (ad : rf → Nat) (d : Nat) (v : Int32) (u : Int32) (t : Int32) (s : Int32) (Mz : mM) (hIz : Inv Mz) : WP CC l G cy ad yX11_echo cX11_echo 5 (some .int) (d + 4) 0 [(0, vR (11, 0, 0)), (1, vI v), (2, vI u), (3, vI t), (4, vI s)] [] Mz (fun r M' => Inv M' ∧ FR (S_c_X11_echo) Mz M' ∧ (True) ∧ SP_X11_echo v u t s Mz r M') := by
  have hFz : FR (S_c_X11_echo) Mz Mz := FR.self
  refine w_aload_n dX11_echo_0 rfl 0 rfl ?_
  refine w_getR (c' := (10, 0, 0)) fl_RX11_10 rfl rfl ic_11 dX11_echo_1 rfl ?_
  refine w_iload_n dX11_echo_4 rfl 1 rfl ?_
  refine w_callV (as := [vI v]) (rest := []) (c_X10_hasWalker l G cy ad (d + 3) 0 v Mz hIz (by first | decide | (unfold vF; omega) | (unfold vRw; omega))) kV_X10_hasWalker (by decide +kernel) (Nat.le_of_ble_eq_true rfl) m_609 rfl rfl rfl (ic_10 (by decide)) rfl rfl (by decide) (Nat.le_of_ble_eq_true rfl) dX11_echo_5 (fun r1_ M2_ q3_ => ?_)
  obtain ⟨rfl, h4_, hs5_⟩ := q3_
  rcases h4_ with ⟨rfl, h4_⟩ | rfl
  · refine w_if_eq (tgt := 35) dX11_echo_8 (by decide) li_1 (fun h9 => (absurd h9 (by decide))) (fun h6_ => ?_)
    refine w_iload_n dX11_echo_11 rfl 2 rfl ?_
    refine w_callS (as := [vI u]) (rest := []) (c_X2_isClick_ l G cy ad (d + 1) u Mz hIz) kS_X2_isClick_ (by decide +kernel) (Nat.le_of_ble_eq_true rfl) m_839 rfl rfl (by decide) (Nat.le_of_ble_eq_true rfl) dX11_echo_12 (fun r7_ M8_ q9_ => ?_)
    obtain ⟨rfl, h10_, hs11_⟩ := q9_
    refine w_if_eq (tgt := 35) dX11_echo_15 (by decide) (rfl : r7_.toInt = r7_.toInt) (fun h12_ => ?_) (fun h12_ => ?_)
    · refine w_aload_n dX11_echo_35 rfl 0 rfl ?_
      refine w_iconst (v := 1) dX11_echo_36 (by decide) ?_
      refine w_callV (as := [vI 1]) (rest := []) (c_X11_error l G cy ad (d + 3) 1 Mz hIz) kV_X11_error (by decide +kernel) (Nat.le_of_ble_eq_true rfl) m_500 rfl rfl rfl ic_11 rfl rfl (by decide) (Nat.le_of_ble_eq_true rfl) dX11_echo_37 (fun r13_ M14_ q15_ => ?_)
      obtain ⟨hI17_, hF18_, h16_, hs20_⟩ := q15_
      have hF19_ := hFz.tr hF18_ (fun c k => (fun h => h.elim (fun h => (Or.inl ⟨h.1, h.2⟩)) (fun h => h.elim)))
      exact w_iret rfl dX11_echo_40 ⟨hI17_, hF19_, trivial, (Or.inl ⟨hs5_, h4_, r7_, hs11_, h10_, (Or.inl ⟨h12_, M14_, hI17_, hF18_, r13_, hs20_, rfl, rfl⟩)⟩)⟩
    · refine w_iload_n dX11_echo_18 rfl 3 rfl ?_
      refine w_callS (as := [vI t]) (rest := []) (c_X7_isSide l G cy ad (d + 3) t Mz hIz) kS_X7_isSide (by decide +kernel) (Nat.le_of_ble_eq_true rfl) m_539 rfl rfl (by decide) (Nat.le_of_ble_eq_true rfl) dX11_echo_19 (fun r21_ M22_ q23_ => ?_)
      obtain ⟨rfl, h24_, hs25_⟩ := q23_
      rcases h24_ with ⟨rfl, h24_⟩ | ⟨rfl, h24_⟩
      · refine w_if_eq (tgt := 35) dX11_echo_22 (by decide) li_1 (fun h9 => (absurd h9 (by decide))) (fun h26_ => ?_)
        refine w_iload dX11_echo_25 4 rfl ?_
        refine w_iconst (v := 0) dX11_echo_27 (by decide) ?_
        refine w_iconst (v := 5) dX11_echo_28 (by decide) ?_
        refine w_callS (as := [vI s, vI 0, vI 5]) (rest := []) (c_X11_within l G cy ad (d + 3) s 0 5 Mz hIz) kS_X11_within (by decide +kernel) (Nat.le_of_ble_eq_true rfl) m_494 rfl rfl (by decide) (Nat.le_of_ble_eq_true rfl) dX11_echo_29 (fun r27_ M28_ q29_ => ?_)
        obtain ⟨rfl, h30_, hs31_⟩ := q29_
        rcases h30_ with ⟨rfl, h30_⟩ | ⟨rfl, h30_⟩
        · simp only [li_0, li_5] at h30_
          refine w_if_ne (tgt := 41) dX11_echo_32 (by decide) li_1 (fun h32_ => ?_) (fun h9 => (absurd h9 (by decide)))
          refine w_aload_n dX11_echo_41 rfl 0 rfl ?_
          refine w_getR (c' := (10, 0, 0)) fl_RX11_10 rfl rfl ic_11 dX11_echo_42 rfl ?_
          refine w_iload_n dX11_echo_45 rfl 1 rfl ?_
          refine w_aload_n dX11_echo_46 rfl 0 rfl ?_
          refine w_getR (c' := (10, 0, 0)) fl_RX11_10 rfl rfl ic_11 dX11_echo_47 rfl ?_
          refine w_getR (c' := (42, 0, 0)) fl_RX11_157 rfl rfl (ic_10 (by decide)) dX11_echo_50 rfl ?_
          refine w_iload_n dX11_echo_53 rfl 1 rfl ?_
          refine w_aald rfl rfl rfl (fun _ => rfl) (ic_42 (by decide)) (rfl : v.toInt = v.toInt) (lf_c_X11_echo_0 v h4_) dX11_echo_54 (fun j33_ h34_ h35_ => ?_)
          refine w_getI fl_RX11_229 rfl rfl (ic_9 (by decide) h35_) dX11_echo_55 (fun z36_ e37_ => ?_)
          refine w_iload_n dX11_echo_58 rfl 3 rfl ?_
          refine w_callV (as := [vI v, vI z36_, vI t]) (rest := []) (c_X10_echoYards l G cy ad (d + 1) 0 v z36_ t Mz hIz (by first | decide | (unfold vF; omega) | (unfold vRw; omega))) kV_X10_echoYards (by decide +kernel) (Nat.le_of_ble_eq_true rfl) m_843 rfl rfl rfl (ic_10 (by decide)) rfl rfl (by decide) (Nat.le_of_ble_eq_true rfl) dX11_echo_59 (fun r38_ M39_ q40_ => ?_)
          obtain ⟨rfl, h41_, hs42_⟩ := q40_
          refine w_if_ne (tgt := 71) dX11_echo_62 (by decide) (rfl : r38_.toInt = r38_.toInt) (fun h43_ => ?_) (fun h43_ => ?_)
          · refine w_aload_n dX11_echo_71 rfl 0 rfl ?_
            refine w_getR (c' := (10, 0, 0)) fl_RX11_10 rfl rfl ic_11 dX11_echo_72 rfl ?_
            refine w_iload_n dX11_echo_75 rfl 1 rfl ?_
            refine w_iload_n dX11_echo_76 rfl 2 rfl ?_
            refine w_iload_n dX11_echo_77 rfl 3 rfl ?_
            refine w_iload dX11_echo_78 4 rfl ?_
            refine w_callV (as := [vI v, vI u, vI t, vI s]) (rest := []) (c_X10_echoFact l G cy ad d 0 v u t s Mz hIz (by first | decide | (unfold vF; omega) | (unfold vRw; omega))) kV_X10_echoFact (by decide +kernel) (Nat.le_of_ble_eq_true rfl) m_861 rfl rfl rfl (ic_10 (by decide)) rfl rfl (by decide) (Nat.le_of_ble_eq_true rfl) dX11_echo_80 (fun r44_ M45_ q46_ => ?_)
            obtain ⟨hI48_, hF49_, h47_, hs51_⟩ := q46_
            have hF50_ := hFz.tr hF49_ (fun c k => (fun h => h.elim (fun h => (Or.inr (Or.inl ⟨h.1, h.2.1, h.2.2⟩))) (fun h => h.elim (fun h => (Or.inr (Or.inr (Or.inl ⟨h.1, h.2.1, h.2.2⟩)))) (fun h => h.elim (fun h => (Or.inr (Or.inr (Or.inr (Or.inl ⟨h.1, h.2.1, h.2.2⟩))))) (fun h => h.elim (fun h => (Or.inr (Or.inr (Or.inr (Or.inr (Or.inl ⟨h.1, h.2.1, h.2.2⟩)))))) (fun h => h.elim (fun h => (Or.inr (Or.inr (Or.inr (Or.inr (Or.inr (Or.inl ⟨h.1, h.2.1, h.2.2⟩))))))) (fun h => h.elim (fun h => (Or.inr (Or.inr (Or.inr (Or.inr (Or.inr (Or.inr (Or.inl ⟨h.1, h.2.1, h.2.2⟩)))))))) (fun h => h.elim))))))))
            exact w_iret rfl dX11_echo_83 ⟨hI48_, hF50_, trivial, (Or.inl ⟨hs5_, h4_, r7_, hs11_, h10_, (Or.inr ⟨h12_, (Or.inl ⟨hs25_, h24_, (Or.inl ⟨hs31_, h30_, j33_, h34_, h35_, z36_, e37_, r38_, hs42_, h41_, (Or.inl ⟨h43_, M45_, hI48_, hF49_, r44_, hs51_, rfl, rfl⟩)⟩)⟩)⟩)⟩)⟩
          · refine w_aload_n dX11_echo_65 rfl 0 rfl ?_
            refine w_iconst (v := 2) dX11_echo_66 (by decide) ?_
            refine w_callV (as := [vI 2]) (rest := []) (c_X11_error l G cy ad (d + 3) 2 Mz hIz) kV_X11_error (by decide +kernel) (Nat.le_of_ble_eq_true rfl) m_500 rfl rfl rfl ic_11 rfl rfl (by decide) (Nat.le_of_ble_eq_true rfl) dX11_echo_67 (fun r52_ M53_ q54_ => ?_)
            obtain ⟨hI56_, hF57_, h55_, hs59_⟩ := q54_
            have hF58_ := hFz.tr hF57_ (fun c k => (fun h => h.elim (fun h => (Or.inl ⟨h.1, h.2⟩)) (fun h => h.elim)))
            exact w_iret rfl dX11_echo_70 ⟨hI56_, hF58_, trivial, (Or.inl ⟨hs5_, h4_, r7_, hs11_, h10_, (Or.inr ⟨h12_, (Or.inl ⟨hs25_, h24_, (Or.inl ⟨hs31_, h30_, j33_, h34_, h35_, z36_, e37_, r38_, hs42_, h41_, (Or.inr ⟨h43_, M53_, hI56_, hF57_, r52_, hs59_, rfl, rfl⟩)⟩)⟩)⟩)⟩)⟩
        · simp only [li_0, li_5] at h30_
          refine w_if_ne (tgt := 41) dX11_echo_32 (by decide) li_0 (fun h9 => (absurd h9 (by decide))) (fun h60_ => ?_)
          refine w_aload_n dX11_echo_35 rfl 0 rfl ?_
          refine w_iconst (v := 1) dX11_echo_36 (by decide) ?_
          refine w_callV (as := [vI 1]) (rest := []) (c_X11_error l G cy ad (d + 3) 1 Mz hIz) kV_X11_error (by decide +kernel) (Nat.le_of_ble_eq_true rfl) m_500 rfl rfl rfl ic_11 rfl rfl (by decide) (Nat.le_of_ble_eq_true rfl) dX11_echo_37 (fun r61_ M62_ q63_ => ?_)
          obtain ⟨hI65_, hF66_, h64_, hs68_⟩ := q63_
          have hF67_ := hFz.tr hF66_ (fun c k => (fun h => h.elim (fun h => (Or.inl ⟨h.1, h.2⟩)) (fun h => h.elim)))
          exact w_iret rfl dX11_echo_40 ⟨hI65_, hF67_, trivial, (Or.inl ⟨hs5_, h4_, r7_, hs11_, h10_, (Or.inr ⟨h12_, (Or.inl ⟨hs25_, h24_, (Or.inr ⟨hs31_, h30_, M62_, hI65_, hF66_, r61_, hs68_, rfl, rfl⟩)⟩)⟩)⟩)⟩
      · refine w_if_eq (tgt := 35) dX11_echo_22 (by decide) li_0 (fun h69_ => ?_) (fun h9 => (absurd h9 (by decide)))
        refine w_aload_n dX11_echo_35 rfl 0 rfl ?_
        refine w_iconst (v := 1) dX11_echo_36 (by decide) ?_
        refine w_callV (as := [vI 1]) (rest := []) (c_X11_error l G cy ad (d + 3) 1 Mz hIz) kV_X11_error (by decide +kernel) (Nat.le_of_ble_eq_true rfl) m_500 rfl rfl rfl ic_11 rfl rfl (by decide) (Nat.le_of_ble_eq_true rfl) dX11_echo_37 (fun r70_ M71_ q72_ => ?_)
        obtain ⟨hI74_, hF75_, h73_, hs77_⟩ := q72_
        have hF76_ := hFz.tr hF75_ (fun c k => (fun h => h.elim (fun h => (Or.inl ⟨h.1, h.2⟩)) (fun h => h.elim)))
        exact w_iret rfl dX11_echo_40 ⟨hI74_, hF76_, trivial, (Or.inl ⟨hs5_, h4_, r7_, hs11_, h10_, (Or.inr ⟨h12_, (Or.inr ⟨hs25_, h24_, M71_, hI74_, hF75_, r70_, hs77_, rfl, rfl⟩)⟩)⟩)⟩
  · refine w_if_eq (tgt := 35) dX11_echo_8 (by decide) li_0 (fun h78_ => ?_) (fun h9 => (absurd h9 (by decide)))
    refine w_aload_n dX11_echo_35 rfl 0 rfl ?_
    refine w_iconst (v := 1) dX11_echo_36 (by decide) ?_
    refine w_callV (as := [vI 1]) (rest := []) (c_X11_error l G cy ad (d + 3) 1 Mz hIz) kV_X11_error (by decide +kernel) (Nat.le_of_ble_eq_true rfl) m_500 rfl rfl rfl ic_11 rfl rfl (by decide) (Nat.le_of_ble_eq_true rfl) dX11_echo_37 (fun r79_ M80_ q81_ => ?_)
    obtain ⟨hI83_, hF84_, h82_, hs86_⟩ := q81_
    have hF85_ := hFz.tr hF84_ (fun c k => (fun h => h.elim (fun h => (Or.inl ⟨h.1, h.2⟩)) (fun h => h.elim)))
    exact w_iret rfl dX11_echo_40 ⟨hI83_, hF85_, trivial, (Or.inr ⟨hs5_, M80_, hI83_, hF84_, r79_, hs86_, rfl, rfl⟩)⟩
def S_c_X11_farthest : rf → Nat → Prop := fun c k => (c.1 = 44 ∧ c.2.1 = 0) ∨ (c.1 = 29 ∧ c.2.1 = 0 ∧ k = 0) ∨ (c.1 = 29 ∧ c.2.1 = 0 ∧ k = 1) ∨ (c.1 = 29 ∧ c.2.1 = 0 ∧ k = 2) ∨ (c.1 = 29 ∧ c.2.1 = 0 ∧ k = 3) ∨ (c.1 = 25 ∧ c.2.1 = 0 ∧ c.2.2 = 0) ∨ (c.1 = 25 ∧ c.2.1 = 0 ∧ c.2.2 = 1) ∨ False
def ST_X11_farthest_49 (u : Int32) (t : Int32) (Mz : mM) (j19_ : Nat) (v5_49 : Int32) (M_49 : mM) (v5_49y : Int32) (M_49y : mM) : Prop := (Inv M_49) ∧ (FR (S_c_X11_farthest) Mz M_49) ∧ (1 ≤ v5_49.toInt) ∧ ∃ r37_ : Int32, (SP_X9_ears 0 j19_ M_49 r37_) ∧ (0 ≤ r37_.toInt ∧ r37_.toInt ≤ 9) ∧ ∃ M43_ : mM, (Inv M43_) ∧ (FR (S_c_X2_hears 0) M_49 M43_) ∧ ∃ r42_ : Int32, (SP_X2_hears 0 r37_ u t v5_49 0 M_49 r42_ M43_) ∧ ((0 ≤ r42_.toInt ∧ r42_.toInt ≤ 1)) ∧ (r42_.toInt = 0) ∧ ∃ z51_ : Int32, (z51_.toInt = v5_49.toInt + (-1)) ∧ v5_49y = z51_ ∧ M_49y = M43_
def SP_X11_farthest (v : Int32) (u : Int32) (t : Int32) (Mz : mM) (r_ : Int32) (M_ : mM) : Prop := (((SP_X10_hasWalker 0 v Mz (1 : Int32)) ∧ (0 ≤ v.toInt ∧ v.toInt ≤ 7) ∧ (((SP_X11_isThingKind u Mz (1 : Int32)) ∧ (0 ≤ u.toInt ∧ u.toInt ≤ 4) ∧ ∃ r13_ : Int32, (SP_X2_isClick_ t Mz r13_) ∧ ((0 ≤ r13_.toInt ∧ r13_.toInt ≤ 1)) ∧ (((¬ r13_.toInt = 0) ∧ ∃ j19_ : Nat, ((j19_ : Int) = v.toInt) ∧ (j19_ < 8) ∧ ∃ r22_ : Int32, (SP_X9_reach 0 j19_ Mz r22_) ∧ (0 ≤ r22_.toInt ∧ r22_.toInt ≤ 12) ∧ ∃ v5_49 : Int32, ∃ M_49 : mM, (RCH (fun x_ y_ => ST_X11_farthest_49 u t Mz j19_ x_.1 x_.2 y_.1 y_.2) (r22_, Mz) (v5_49, M_49)) ∧ (Inv M_49) ∧ (FR (S_c_X11_farthest) Mz M_49) ∧ (((v5_49.toInt < 1) ∧ ∃ M30_ : mM, (Inv M30_) ∧ (FR (S_c_X11_error) M_49 M30_) ∧ ∃ r29_ : Int32, (SP_X11_error 2 M_49 r29_ M30_) ∧ r_ = r29_ ∧ M_ = M30_) ∨ ((1 ≤ v5_49.toInt) ∧ ∃ r37_ : Int32, (SP_X9_ears 0 j19_ M_49 r37_) ∧ (0 ≤ r37_.toInt ∧ r37_.toInt ≤ 9) ∧ ∃ M43_ : mM, (Inv M43_) ∧ (FR (S_c_X2_hears 0) M_49 M43_) ∧ ∃ r42_ : Int32, (SP_X2_hears 0 r37_ u t v5_49 0 M_49 r42_ M43_) ∧ ((0 ≤ r42_.toInt ∧ r42_.toInt ≤ 1)) ∧ (¬ r42_.toInt = 0) ∧ r_ = v5_49 ∧ M_ = M43_))) ∨ ((r13_.toInt = 0) ∧ ∃ M54_ : mM, (Inv M54_) ∧ (FR (S_c_X11_error) Mz M54_) ∧ ∃ r53_ : Int32, (SP_X11_error 1 Mz r53_ M54_) ∧ r_ = r53_ ∧ M_ = M54_))) ∨ ((SP_X11_isThingKind u Mz (0 : Int32)) ∧ (¬ (0 ≤ u.toInt ∧ u.toInt ≤ 4)) ∧ ∃ M63_ : mM, (Inv M63_) ∧ (FR (S_c_X11_error) Mz M63_) ∧ ∃ r62_ : Int32, (SP_X11_error 1 Mz r62_ M63_) ∧ r_ = r62_ ∧ M_ = M63_))) ∨ ((SP_X10_hasWalker 0 v Mz (0 : Int32)) ∧ ∃ M72_ : mM, (Inv M72_) ∧ (FR (S_c_X11_error) Mz M72_) ∧ ∃ r71_ : Int32, (SP_X11_error 1 Mz r71_ M72_) ∧ r_ = r71_ ∧ M_ = M72_))
theorem lf_c_X11_farthest_0  (v : Int32) (h4_ : 0 ≤ v.toInt ∧ v.toInt ≤ 7) : 0 ≤ v.toInt ∧ v.toInt < ((8 : Nat) : Int) := by have r_v := rngI v; omega
theorem lf_c_X11_farthest_1  (v5_49 : Int32) (h28_ : 1 ≤ v5_49.toInt) : -2147483648 ≤ v5_49.toInt + (-1) ∧ v5_49.toInt + (-1) < 2147483648 := by have r_v5_49 := rngI v5_49; omega
theorem lf_c_X11_farthest_2  (v5_49 : Int32) (z51_ : Int32) (h28_ : 1 ≤ v5_49.toInt) (h52_ : z51_.toInt = v5_49.toInt + (-1)) : (z51_.toInt).toNat < (v5_49.toInt).toNat := by have r_v5_49 := rngI v5_49; have r_z51_ := rngI z51_; omega
set_option maxHeartbeats 4000000 in
set_option maxRecDepth 100000 in
theorem c_X11_farthest (l : Launch) (G : va_G) (cy : Nat → ClassId) (ad : rf → Nat) (d : Nat) (v : Int32) (u : Int32) (t : Int32) (Mz : mM) (hIz : Inv Mz) : WP CC l G cy ad yX11_farthest cX11_farthest 6 (some .int) (d + 3) 0 [(0, vR (11, 0, 0)), (1, vI v), (2, vI u), (3, vI t)] [] Mz (fun r M' => Inv M' ∧ FR (S_c_X11_farthest) Mz M' ∧ (True) ∧ SP_X11_farthest v u t Mz r M') := by
  have hFz : FR (S_c_X11_farthest) Mz Mz := FR.self
  refine w_aload_n dX11_farthest_0 rfl 0 rfl ?_
  refine w_getR (c' := (10, 0, 0)) fl_RX11_10 rfl rfl ic_11 dX11_farthest_1 rfl ?_
  refine w_iload_n dX11_farthest_4 rfl 1 rfl ?_
  refine w_callV (as := [vI v]) (rest := []) (c_X10_hasWalker l G cy ad (d + 2) 0 v Mz hIz (by first | decide | (unfold vF; omega) | (unfold vRw; omega))) kV_X10_hasWalker (by decide +kernel) (Nat.le_of_ble_eq_true rfl) m_609 rfl rfl rfl (ic_10 (by decide)) rfl rfl (by decide) (Nat.le_of_ble_eq_true rfl) dX11_farthest_5 (fun r1_ M2_ q3_ => ?_)
  obtain ⟨rfl, h4_, hs5_⟩ := q3_
  rcases h4_ with ⟨rfl, h4_⟩ | rfl
  · refine w_if_eq (tgt := 25) dX11_farthest_8 (by decide) li_1 (fun h9 => (absurd h9 (by decide))) (fun h6_ => ?_)
    refine w_iload_n dX11_farthest_11 rfl 2 rfl ?_
    refine w_callS (as := [vI u]) (rest := []) (c_X11_isThingKind l G cy ad (d + 1) u Mz hIz) kS_X11_isThingKind (by decide +kernel) (Nat.le_of_ble_eq_true rfl) m_491 rfl rfl (by decide) (Nat.le_of_ble_eq_true rfl) dX11_farthest_12 (fun r7_ M8_ q9_ => ?_)
    obtain ⟨rfl, h10_, hs11_⟩ := q9_
    rcases h10_ with ⟨rfl, h10_⟩ | ⟨rfl, h10_⟩
    · refine w_if_eq (tgt := 25) dX11_farthest_15 (by decide) li_1 (fun h9 => (absurd h9 (by decide))) (fun h12_ => ?_)
      refine w_iload_n dX11_farthest_18 rfl 3 rfl ?_
      refine w_callS (as := [vI t]) (rest := []) (c_X2_isClick_ l G cy ad d t Mz hIz) kS_X2_isClick_ (by decide +kernel) (Nat.le_of_ble_eq_true rfl) m_839 rfl rfl (by decide) (Nat.le_of_ble_eq_true rfl) dX11_farthest_19 (fun r13_ M14_ q15_ => ?_)
      obtain ⟨rfl, h16_, hs17_⟩ := q15_
      refine w_if_ne (tgt := 31) dX11_farthest_22 (by decide) (rfl : r13_.toInt = r13_.toInt) (fun h18_ => ?_) (fun h18_ => ?_)
      · refine w_aload_n dX11_farthest_31 rfl 0 rfl ?_
        refine w_getR (c' := (10, 0, 0)) fl_RX11_10 rfl rfl ic_11 dX11_farthest_32 rfl ?_
        refine w_getR (c' := (42, 0, 0)) fl_RX11_157 rfl rfl (ic_10 (by decide)) dX11_farthest_35 rfl ?_
        refine w_iload_n dX11_farthest_38 rfl 1 rfl ?_
        refine w_aald rfl rfl rfl (fun _ => rfl) (ic_42 (by decide)) (rfl : v.toInt = v.toInt) (lf_c_X11_farthest_0 v h4_) dX11_farthest_39 (fun j19_ h20_ h21_ => ?_)
        refine w_astore (ls' := [(4, vR (9, 0, j19_)), (0, vR (11, 0, 0)), (1, vI v), (2, vI u), (3, vI t)]) dX11_farthest_40 (by decide) rfl ?_
        refine w_aload dX11_farthest_42 0 rfl ?_
        refine w_callV (as := []) (rest := []) (c_X9_reach l G cy ad (d + 2) 0 j19_ Mz hIz (by first | decide | (unfold vF; omega) | (unfold vRw; omega)) h21_) kV_X9_reach (by decide +kernel) (Nat.le_of_ble_eq_true rfl) m_648 rfl rfl rfl (ic_9 (by decide) h21_) rfl rfl (by decide) (Nat.le_of_ble_eq_true rfl) dX11_farthest_44 (fun r22_ M23_ q24_ => ?_)
        obtain ⟨rfl, h25_, hs26_⟩ := q24_
        refine w_istore (ls' := [(5, vI r22_), (4, vR (9, 0, j19_)), (0, vR (11, 0, 0)), (1, vI v), (2, vI u), (3, vI t)]) dX11_farthest_47 (by decide) rfl ?_
        have lp27_ : ∀ (nn_49 : Nat) (M_49 : mM) (hI_49 : Inv M_49) (hF_49 : FR (S_c_X11_farthest) Mz M_49) (v5_49 : Int32) (hL_49 : RCH (fun x_ y_ => ST_X11_farthest_49 u t Mz j19_ x_.1 x_.2 y_.1 y_.2) (r22_, Mz) (v5_49, M_49)), (v5_49.toInt).toNat < nn_49 → WP CC l G cy ad yX11_farthest cX11_farthest 6 (some .int) (d + 3) 49 [(5, vI v5_49), (4, vR (9, 0, j19_)), (0, vR (11, 0, 0)), (1, vI v), (2, vI u), (3, vI t)] [] M_49 (fun r M' => Inv M' ∧ FR (S_c_X11_farthest) Mz M' ∧ (True) ∧ SP_X11_farthest v u t Mz r M') := by
          intro nn_49
          induction nn_49 with
          | zero => intro M_49 hI_49 hF_49 v5_49 hL_49 hm_49; exact absurd hm_49 (Nat.not_lt_zero _)
          | succ nn_49 ih_49 =>
            intro M_49 hI_49 hF_49 v5_49 hL_49 hm_49
            refine w_iload dX11_farthest_49 0 rfl ?_
            refine w_iconst (v := 1) dX11_farthest_51 (by decide) ?_
            refine w_icmp_lt (tgt := 87) dX11_farthest_52 (by decide) (rfl : v5_49.toInt = v5_49.toInt) li_1 (fun h28_ => ?_) (fun h28_ => ?_)
            · refine w_aload_n dX11_farthest_87 rfl 2 rfl ?_
              refine w_iconst (v := 2) dX11_farthest_88 (by decide) ?_
              refine w_callV (as := [vI 2]) (rest := []) (c_X11_error l G cy ad (d + 2) 2 M_49 hI_49) kV_X11_error (by decide +kernel) (Nat.le_of_ble_eq_true rfl) m_500 rfl rfl rfl ic_11 rfl rfl (by decide) (Nat.le_of_ble_eq_true rfl) dX11_farthest_89 (fun r29_ M30_ q31_ => ?_)
              obtain ⟨hI33_, hF34_, h32_, hs36_⟩ := q31_
              have hF35_ := hF_49.tr hF34_ (fun c k => (fun h => h.elim (fun h => (Or.inl ⟨h.1, h.2⟩)) (fun h => h.elim)))
              exact w_iret rfl dX11_farthest_92 ⟨hI33_, hF35_, trivial, (Or.inl ⟨hs5_, h4_, (Or.inl ⟨hs11_, h10_, r13_, hs17_, h16_, (Or.inl ⟨h18_, j19_, h20_, h21_, r22_, hs26_, h25_, v5_49, M_49, hL_49, hI_49, hF_49, (Or.inl ⟨h28_, M30_, hI33_, hF34_, r29_, hs36_, rfl, rfl⟩)⟩)⟩)⟩)⟩
            · refine w_aload_n dX11_farthest_55 rfl 2 rfl ?_
              refine w_getR (c' := (10, 0, 0)) fl_RX11_10 rfl rfl ic_11 dX11_farthest_56 rfl ?_
              refine w_getR (c' := (2, 0, 0)) fl_RX11_114 rfl rfl (ic_10 (by decide)) dX11_farthest_59 rfl ?_
              refine w_aload dX11_farthest_62 1 rfl ?_
              refine w_callV (as := []) (rest := [vR (2, 0, 0)]) (c_X9_ears l G cy ad (d + 2) 0 j19_ M_49 hI_49 (by first | decide | (unfold vF; omega) | (unfold vRw; omega)) h21_) kV_X9_ears (by decide +kernel) (Nat.le_of_ble_eq_true rfl) m_951 rfl rfl rfl (ic_9 (by decide) h21_) rfl rfl (by decide) (Nat.le_of_ble_eq_true rfl) dX11_farthest_64 (fun r37_ M38_ q39_ => ?_)
              obtain ⟨rfl, h40_, hs41_⟩ := q39_
              refine w_iload_n dX11_farthest_67 rfl 4 rfl ?_
              refine w_iload_n dX11_farthest_68 rfl 5 rfl ?_
              refine w_iload dX11_farthest_69 0 rfl ?_
              refine w_iconst (v := 0) dX11_farthest_71 (by decide) ?_
              refine w_callV (as := [vI r37_, vI u, vI t, vI v5_49, vI 0]) (rest := []) (c_X2_hears l G cy ad d 0 r37_ u t v5_49 0 M_49 hI_49 (by first | decide | (unfold vF; omega) | (unfold vRw; omega))) kV_X2_hears (by decide +kernel) (Nat.le_of_ble_eq_true rfl) m_973 rfl rfl rfl (ic_2 (by decide)) rfl rfl (by decide) (Nat.le_of_ble_eq_true rfl) dX11_farthest_72 (fun r42_ M43_ q44_ => ?_)
              obtain ⟨hI46_, hF47_, h45_, hs49_⟩ := q44_
              have hF48_ := hF_49.tr hF47_ (fun c k => (fun h => h.elim (fun h => (Or.inr (Or.inl ⟨h.1, h.2.1, h.2.2⟩))) (fun h => h.elim (fun h => (Or.inr (Or.inr (Or.inl ⟨h.1, h.2.1, h.2.2⟩)))) (fun h => h.elim (fun h => (Or.inr (Or.inr (Or.inr (Or.inl ⟨h.1, h.2.1, h.2.2⟩))))) (fun h => h.elim (fun h => (Or.inr (Or.inr (Or.inr (Or.inr (Or.inl ⟨h.1, h.2.1, h.2.2⟩)))))) (fun h => h.elim (fun h => (Or.inr (Or.inr (Or.inr (Or.inr (Or.inr (Or.inl ⟨h.1, h.2.1, h.2.2⟩))))))) (fun h => h.elim (fun h => (Or.inr (Or.inr (Or.inr (Or.inr (Or.inr (Or.inr (Or.inl ⟨h.1, h.2.1, h.2.2⟩)))))))) (fun h => h.elim))))))))
              refine w_if_eq (tgt := 81) dX11_farthest_75 (by decide) (rfl : r42_.toInt = r42_.toInt) (fun h50_ => ?_) (fun h50_ => ?_)
              · refine w_iincB (j := 0) (f := fun z51_ => [(5, vI z51_), (4, vR (9, 0, j19_)), (0, vR (11, 0, 0)), (1, vI v), (2, vI u), (3, vI t)]) dX11_farthest_81 rfl (by decide) (fun _ => rfl) (rfl : v5_49.toInt = v5_49.toInt) li_m1 (lf_c_X11_farthest_1 v5_49 h28_) (fun z51_ h52_ => ?_)
                refine w_goto (tgt := 49) dX11_farthest_84 (by decide) ?_
                refine w_loc (ls' := [(5, vI z51_), (4, vR (9, 0, j19_)), (0, vR (11, 0, 0)), (1, vI v), (2, vI u), (3, vI t)]) [0, 1, 2, 3, 4, 5] rfl ?_
                exact ih_49 M43_ hI46_ hF48_ z51_ (RCH.tail hL_49 ⟨hI_49, hF_49, h28_, r37_, hs41_, h40_, M43_, hI46_, hF47_, r42_, hs49_, h45_, h50_, z51_, h52_, rfl, rfl⟩) (Nat.lt_of_lt_of_le (lf_c_X11_farthest_2 v5_49 z51_ h28_ h52_) (Nat.le_of_lt_succ hm_49))
              · refine w_iload dX11_farthest_78 0 rfl ?_
                exact w_iret rfl dX11_farthest_80 ⟨hI46_, hF48_, trivial, (Or.inl ⟨hs5_, h4_, (Or.inl ⟨hs11_, h10_, r13_, hs17_, h16_, (Or.inl ⟨h18_, j19_, h20_, h21_, r22_, hs26_, h25_, v5_49, M_49, hL_49, hI_49, hF_49, (Or.inr ⟨h28_, r37_, hs41_, h40_, M43_, hI46_, hF47_, r42_, hs49_, h45_, h50_, rfl, rfl⟩)⟩)⟩)⟩)⟩
        exact lp27_ _ Mz hIz hFz r22_ RCH.refl (Nat.lt_succ_self _)
      · refine w_aload_n dX11_farthest_25 rfl 0 rfl ?_
        refine w_iconst (v := 1) dX11_farthest_26 (by decide) ?_
        refine w_callV (as := [vI 1]) (rest := []) (c_X11_error l G cy ad (d + 2) 1 Mz hIz) kV_X11_error (by decide +kernel) (Nat.le_of_ble_eq_true rfl) m_500 rfl rfl rfl ic_11 rfl rfl (by decide) (Nat.le_of_ble_eq_true rfl) dX11_farthest_27 (fun r53_ M54_ q55_ => ?_)
        obtain ⟨hI57_, hF58_, h56_, hs60_⟩ := q55_
        have hF59_ := hFz.tr hF58_ (fun c k => (fun h => h.elim (fun h => (Or.inl ⟨h.1, h.2⟩)) (fun h => h.elim)))
        exact w_iret rfl dX11_farthest_30 ⟨hI57_, hF59_, trivial, (Or.inl ⟨hs5_, h4_, (Or.inl ⟨hs11_, h10_, r13_, hs17_, h16_, (Or.inr ⟨h18_, M54_, hI57_, hF58_, r53_, hs60_, rfl, rfl⟩)⟩)⟩)⟩
    · refine w_if_eq (tgt := 25) dX11_farthest_15 (by decide) li_0 (fun h61_ => ?_) (fun h9 => (absurd h9 (by decide)))
      refine w_aload_n dX11_farthest_25 rfl 0 rfl ?_
      refine w_iconst (v := 1) dX11_farthest_26 (by decide) ?_
      refine w_callV (as := [vI 1]) (rest := []) (c_X11_error l G cy ad (d + 2) 1 Mz hIz) kV_X11_error (by decide +kernel) (Nat.le_of_ble_eq_true rfl) m_500 rfl rfl rfl ic_11 rfl rfl (by decide) (Nat.le_of_ble_eq_true rfl) dX11_farthest_27 (fun r62_ M63_ q64_ => ?_)
      obtain ⟨hI66_, hF67_, h65_, hs69_⟩ := q64_
      have hF68_ := hFz.tr hF67_ (fun c k => (fun h => h.elim (fun h => (Or.inl ⟨h.1, h.2⟩)) (fun h => h.elim)))
      exact w_iret rfl dX11_farthest_30 ⟨hI66_, hF68_, trivial, (Or.inl ⟨hs5_, h4_, (Or.inr ⟨hs11_, h10_, M63_, hI66_, hF67_, r62_, hs69_, rfl, rfl⟩)⟩)⟩
  · refine w_if_eq (tgt := 25) dX11_farthest_8 (by decide) li_0 (fun h70_ => ?_) (fun h9 => (absurd h9 (by decide)))
    refine w_aload_n dX11_farthest_25 rfl 0 rfl ?_
    refine w_iconst (v := 1) dX11_farthest_26 (by decide) ?_
    refine w_callV (as := [vI 1]) (rest := []) (c_X11_error l G cy ad (d + 2) 1 Mz hIz) kV_X11_error (by decide +kernel) (Nat.le_of_ble_eq_true rfl) m_500 rfl rfl rfl ic_11 rfl rfl (by decide) (Nat.le_of_ble_eq_true rfl) dX11_farthest_27 (fun r71_ M72_ q73_ => ?_)
    obtain ⟨hI75_, hF76_, h74_, hs78_⟩ := q73_
    have hF77_ := hFz.tr hF76_ (fun c k => (fun h => h.elim (fun h => (Or.inl ⟨h.1, h.2⟩)) (fun h => h.elim)))
    exact w_iret rfl dX11_farthest_30 ⟨hI75_, hF77_, trivial, (Or.inr ⟨hs5_, M72_, hI75_, hF76_, r71_, hs78_, rfl, rfl⟩)⟩
