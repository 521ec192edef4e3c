def S_c_X8_parted : rf → Nat → Prop := fun c k => (c.1 = 8 ∧ c.2.1 = 0 ∧ k = 5) ∨ False
set_option maxHeartbeats 4000000 in
set_option maxRecDepth 100000 in
theorem c_X8_parted (l : Launch) (G : va_G) (cy : Nat → ClassId) (ad : rf → Nat) (d : Nat) (v : Int32) (Mz : mM) (hIz : Inv Mz) : WP CC l G cy ad yX8_parted cX8_parted 2 (some .int) d 0 [(0, vR (8, 0, 0)), (1, vI v)] [] Mz (fun r M' => Inv M' ∧ FR (S_c_X8_parted) Mz M' ∧ True) := by
  have hFz : FR (S_c_X8_parted) Mz Mz := FR.self
  refine w_aload_n dX8_parted_0 rfl 0 rfl ?_
  refine w_getI fl_RX8_25 rfl rfl ic_8 dX8_parted_1 (fun z1_ e2_ => ?_)
  refine w_iconst (v := 3) dX8_parted_4 (by decide) ?_
  refine w_icmp_ne (tgt := 15) dX8_parted_5 (by decide) (rfl : z1_.toInt = z1_.toInt) li_3 (fun h3_ => ?_) (fun h3_ => ?_)
  · refine w_iload_n dX8_parted_15 rfl 1 rfl ?_
    refine w_aload_n dX8_parted_16 rfl 0 rfl ?_
    refine w_getI fl_RX8_25 rfl rfl ic_8 dX8_parted_17 (fun z4_ e5_ => ?_)
    obtain rfl : z1_ = z4_ := e2_.trans e5_.symm
    refine w_iconst (v := 3) dX8_parted_20 (by decide) ?_
    refine w_isub dX8_parted_21 (fun z6_ h7_ => ?_)
    have h8_ : ¬ z6_ = 0 := by rw [h7_]; exact sub3_ne h3_
    refine w_idiv dX8_parted_22 h8_ (fun z9_ _ => ?_)
    exact w_iret rfl dX8_parted_23 ⟨hIz, hFz, trivial⟩
  · refine w_aload_n dX8_parted_8 rfl 0 rfl ?_
    refine w_iconst (v := 1) dX8_parted_9 (by decide) ?_
    refine w_putZ CC_nd fl_RX8_31 rfl rfl ic_8 ⟨by decide, by decide⟩ dX8_parted_10 (fun M10_ hM11_ => ?_)
    have hI12_ := hIz.put hM11_ (fun _ => ⟨by decide, by decide⟩)
    have hF13_ := hFz.put hM11_ (Or.inl ⟨rfl, rfl, rfl⟩)
    refine w_iconst (v := 0) dX8_parted_13 (by decide) ?_
    exact w_iret rfl dX8_parted_14 ⟨hI12_, hF13_, trivial⟩
def S_c_X8_keepTrace : rf → Nat → Prop := fun c k => (c.1 = 5 ∧ c.2.1 = 3 ∧ c.2.2 = 5 ∧ k = 1) ∨ (c.1 = 33 ∧ c.2.1 = 3 ∧ c.2.2 = 5) ∨ False
set_option maxHeartbeats 4000000 in
set_option maxRecDepth 100000 in
theorem c_X8_keepTrace (l : Launch) (G : va_G) (cy : Nat → ClassId) (ad : rf → Nat) (d : Nat) (Mz : mM) (hIz : Inv Mz) : WP CC l G cy ad yX8_keepTrace cX8_keepTrace 1 none (d + 2) 0 [(0, vR (8, 0, 0))] [] Mz (fun r M' => Inv M' ∧ FR (S_c_X8_keepTrace) Mz M' ∧ True) := by
  have hFz : FR (S_c_X8_keepTrace) Mz Mz := FR.self
  refine w_aload_n dX8_keepTrace_0 rfl 0 rfl ?_
  refine w_getR (c' := (5, 3, 5)) fl_RX8_18 rfl rfl ic_8 dX8_keepTrace_1 rfl ?_
  refine w_aload_n dX8_keepTrace_4 rfl 0 rfl ?_
  refine w_getR (c' := (5, 3, 4)) fl_RX8_12 rfl rfl ic_8 dX8_keepTrace_5 rfl ?_
  refine w_callVv (as := [vR (5, 3, 4)]) (rest := []) (c_X5_takeFrom l G cy ad d 3 5 3 4 Mz hIz (by first | decide | (unfold vF; omega) | (unfold vRw; omega)) (by first | decide | (unfold vF; omega) | (unfold vRw; omega))) kV_X5_takeFrom (by decide +kernel) (Nat.le_of_ble_eq_true rfl) m_1209 rfl rfl rfl (ic_5 (by unfold vRw; omega)) rfl rfl (by decide) (Nat.le_of_ble_eq_true rfl) dX8_keepTrace_8 (fun M1_ q2_ => ?_)
  obtain ⟨hI4_, hF5_, h3_⟩ := q2_
  have hF6_ := hFz.tr hF5_ (fun c k => (fun h => h.elim (fun h => (Or.inl ⟨h.1, h.2.1, h.2.2.1, h.2.2.2⟩)) (fun h => h.elim (fun h => (Or.inr (Or.inl ⟨h.1, h.2.1, h.2.2⟩))) (fun h => h.elim))))
  exact w_vret rfl dX8_keepTrace_11 ⟨hI4_, hF6_, trivial⟩
def S_c_X11_error : rf → Nat → Prop := fun c k => (c.1 = 44 ∧ c.2.1 = 0) ∨ False
theorem lf_c_X11_error_0  (v : Int32) (h1_ : v.toInt < 0) : -2147483648 ≤ -1000000 - v.toInt ∧ -1000000 - v.toInt < 2147483648 := by have r_v := rngI v; omega
theorem lf_c_X11_error_1  (v : Int32) (h1_ : 0 ≤ v.toInt) (h4_ : v.toInt < 7) : 0 ≤ v.toInt ∧ v.toInt < ((7 : Nat) : Int) := by have r_v := rngI v; omega
theorem lf_c_X11_error_2 (Mz : mM) (v : Int32) (j8_ : Nat) (z6_ : Int32) (h1_ : 0 ≤ v.toInt) (h4_ : v.toInt < 7) (h9_ : (j8_ : Int) = v.toInt) (e7_ : z6_ = Mz.1 (44, 0, 0) j8_) : 0 ≤ v.toInt ∧ v.toInt < ((7 : Nat) : Int) := by have r_v := rngI v; have r_z6_ := rngI z6_; subst e7_; omega
theorem lf_c_X11_error_3 (M11_ : mM) (Mz : mM) (v : Int32) (j8_ : Nat) (z6_ : Int32) (z10_ : Int32) (j13_ : Nat) (h1_ : 0 ≤ v.toInt) (h4_ : v.toInt < 7) (h9_ : (j8_ : Int) = v.toInt) (e7_ : z6_ = Mz.1 (44, 0, 0) j8_) (h14_ : (j13_ : Int) = v.toInt) (hM12_ : M11_ = up Mz (44, 0, 0) j13_ z10_) : -2147483648 ≤ -1000000 - v.toInt ∧ -1000000 - v.toInt < 2147483648 := by have r_v := rngI v; have r_z6_ := rngI z6_; have r_z10_ := rngI z10_; subst e7_; omega
set_option maxHeartbeats 4000000 in
set_option maxRecDepth 100000 in
theorem c_X11_error (l : Launch) (G : va_G) (cy : Nat → ClassId) (ad : rf → Nat) (d : Nat) (v : Int32) (Mz : mM) (hIz : Inv Mz) : WP CC l G cy ad yX11_error cX11_error 2 (some .int) d 0 [(0, vR (11, 0, 0)), (1, vI v)] [] Mz (fun r M' => Inv M' ∧ FR (S_c_X11_error) Mz M' ∧ True) := by
  have hFz : FR (S_c_X11_error) Mz Mz := FR.self
  refine w_iload_n dX11_error_0 rfl 1 rfl ?_
  refine w_if_lt (tgt := 23) dX11_error_1 (by decide) (rfl : v.toInt = v.toInt) (fun h1_ => ?_) (fun h1_ => ?_)
  · refine w_ldc_w (v := (-1000000)) m_504 dX11_error_23 ?_
    refine w_iload_n dX11_error_26 rfl 1 rfl ?_
    refine w_isubB dX11_error_27 li_m1000000 (rfl : v.toInt = v.toInt) (lf_c_X11_error_0 v h1_) (fun z2_ h3_ => ?_)
    exact w_iret rfl dX11_error_28 ⟨hIz, hFz, trivial⟩
  · refine w_iload_n dX11_error_4 rfl 1 rfl ?_
    refine w_aload_n dX11_error_5 rfl 0 rfl ?_
    refine w_getR (c' := (44, 0, 0)) fl_RX11_28 rfl rfl ic_11 dX11_error_6 rfl ?_
    refine w_alen (v := 7) (by decide) rfl rfl ic_44 dX11_error_9 rfl ?_
    refine w_icmp_ge (tgt := 23) dX11_error_10 (by decide) (rfl : v.toInt = v.toInt) li_7 (fun h4_ => ?_) (fun h4_ => ?_)
    · refine w_ldc_w (v := (-1000000)) m_504 dX11_error_23 ?_
      refine w_iload_n dX11_error_26 rfl 1 rfl ?_
      refine w_isub dX11_error_27 (fun z5_ _ => ?_)
      exact w_iret rfl dX11_error_28 ⟨hIz, hFz, trivial⟩
    · refine w_aload_n dX11_error_13 rfl 0 rfl ?_
      refine w_getR (c' := (44, 0, 0)) fl_RX11_28 rfl rfl ic_11 dX11_error_14 rfl ?_
      refine w_iload_n dX11_error_17 rfl 1 rfl ?_
      refine w_dup2 dX11_error_18 rfl rfl ?_
      refine w_iald rfl rfl ic_44 (rfl : v.toInt = v.toInt) (lf_c_X11_error_1 v h1_ h4_) dX11_error_19 (fun j8_ h9_ z6_ e7_ => ?_)
      refine w_iconst (v := 1) dX11_error_20 (by decide) ?_
      refine w_iadd dX11_error_21 (fun z10_ _ => ?_)
      refine w_iast CC_nd rfl rfl ic_44 (rfl : v.toInt = v.toInt) (lf_c_X11_error_2 Mz v j8_ z6_ h1_ h4_ h9_ e7_) dX11_error_22 (fun j13_ h14_ M11_ hM12_ => ?_)
      have hI15_ := hIz.put hM12_ trivial
      have hF16_ := hFz.put hM12_ (Or.inl ⟨rfl, rfl⟩)
      refine w_ldc_w (v := (-1000000)) m_504 dX11_error_23 ?_
      refine w_iload_n dX11_error_26 rfl 1 rfl ?_
      refine w_isubB dX11_error_27 li_m1000000 (rfl : v.toInt = v.toInt) (lf_c_X11_error_3 M11_ Mz v j8_ z6_ z10_ j13_ h1_ h4_ h9_ e7_ h14_ hM12_) (fun z17_ h18_ => ?_)
      exact w_iret rfl dX11_error_28 ⟨hI15_, hF16_, trivial⟩
def S_c_X11_thing : rf → Nat → Prop := fun c k => (c.1 = 36 ∧ c.2.1 = 0) ∨ (c.1 = 37 ∧ c.2.1 = 0) ∨ (c.1 = 38 ∧ c.2.1 = 0) ∨ (c.1 = 39 ∧ c.2.1 = 0) ∨ (c.1 = 35 ∧ c.2.1 = 0) ∨ (c.1 = 7 ∧ c.2.1 = 0 ∧ k = 5) ∨ (c.1 = 44 ∧ c.2.1 = 0) ∨ False
set_option maxHeartbeats 4000000 in
set_option maxRecDepth 100000 in
theorem c_X11_thing (l : Launch) (G : va_G) (cy : Nat → ClassId) (ad : rf → Nat) (d : Nat) (v : Int32) (u : Int32) (Mz : mM) (hIz : Inv Mz) : WP CC l G cy ad yX11_thing cX11_thing 3 (some .int) (d + 3) 0 [(0, vR (11, 0, 0)), (1, vI v), (2, vI u)] [] Mz (fun r M' => Inv M' ∧ FR (S_c_X11_thing) Mz M' ∧ True) := by
  have hFz : FR (S_c_X11_thing) Mz Mz := FR.self
  refine w_iload_n dX11_thing_0 rfl 1 rfl ?_
  refine w_callS (as := [vI v]) (rest := []) (c_X11_isThingKind l G cy ad (d + 1) v Mz hIz) kS_X11_isThingKind (by decide +kernel) (Nat.le_of_ble_eq_true rfl) m_491 rfl rfl (by decide) (Nat.le_of_ble_eq_true rfl) dX11_thing_1 (fun r1_ M2_ q3_ => ?_)
  obtain ⟨rfl, h4_⟩ := q3_
  rcases h4_ with ⟨rfl, h4_⟩ | ⟨rfl, h4_⟩
  · refine w_if_eq (tgt := 14) dX11_thing_4 (by decide) li_1 (fun h9 => (absurd h9 (by decide))) (fun h5_ => ?_)
    refine w_iload_n dX11_thing_7 rfl 2 rfl ?_
    refine w_callS (as := [vI u]) (rest := []) (c_X7_isCell l G cy ad (d + 2) u Mz hIz) kS_X7_isCell (by decide +kernel) (Nat.le_of_ble_eq_true rfl) m_497 rfl rfl (by decide) (Nat.le_of_ble_eq_true rfl) dX11_thing_8 (fun r6_ M7_ q8_ => ?_)
    obtain ⟨rfl, h9_⟩ := q8_
    rcases h9_ with ⟨rfl, h9_⟩ | ⟨rfl, h9_⟩
    · refine w_if_ne (tgt := 20) dX11_thing_11 (by decide) li_1 (fun h10_ => ?_) (fun h9 => (absurd h9 (by decide)))
      refine w_aload_n dX11_thing_20 rfl 0 rfl ?_
      refine w_getR (c' := (10, 0, 0)) fl_RX11_10 rfl rfl ic_11 dX11_thing_21 rfl ?_
      refine w_getR (c' := (7, 0, 0)) fl_RX11_71 rfl rfl (ic_10 (by decide)) dX11_thing_24 rfl ?_
      refine w_iload_n dX11_thing_27 rfl 2 rfl ?_
      refine w_callV (as := [vI u]) (rest := []) (c_X7_isFree l G cy ad (d + 1) 0 u Mz hIz (by first | decide | (unfold vF; omega) | (unfold vRw; omega))) kV_X7_isFree (by decide +kernel) (Nat.le_of_ble_eq_true rfl) m_505 rfl rfl rfl (ic_7 (by decide)) rfl rfl (by decide) (Nat.le_of_ble_eq_true rfl) dX11_thing_28 (fun r11_ M12_ q13_ => ?_)
      obtain ⟨rfl, h14_⟩ := q13_
      rcases h14_ with ⟨rfl, h14_⟩ | rfl
      · refine w_if_ne (tgt := 40) dX11_thing_31 (by decide) li_1 (fun h15_ => ?_) (fun h9 => (absurd h9 (by decide)))
        refine w_aload_n dX11_thing_40 rfl 0 rfl ?_
        refine w_getR (c' := (10, 0, 0)) fl_RX11_10 rfl rfl ic_11 dX11_thing_41 rfl ?_
        refine w_getR (c' := (7, 0, 0)) fl_RX11_71 rfl rfl (ic_10 (by decide)) dX11_thing_44 rfl ?_
        refine w_callV (as := []) (rest := []) (c_X7_hasRoom l G cy ad (d + 2) 0 Mz hIz (by first | decide | (unfold vF; omega) | (unfold vRw; omega))) kV_X7_hasRoom (by decide +kernel) (Nat.le_of_ble_eq_true rfl) m_510 rfl rfl rfl (ic_7 (by decide)) rfl rfl (by decide) (Nat.le_of_ble_eq_true rfl) dX11_thing_47 (fun r16_ M17_ q18_ => ?_)
        obtain ⟨rfl, h19_⟩ := q18_
        refine w_if_ne (tgt := 59) dX11_thing_50 (by decide) (rfl : r16_.toInt = r16_.toInt) (fun h20_ => ?_) (fun h20_ => ?_)
        · refine w_aload_n dX11_thing_59 rfl 0 rfl ?_
          refine w_getR (c' := (10, 0, 0)) fl_RX11_10 rfl rfl ic_11 dX11_thing_60 rfl ?_
          refine w_getR (c' := (7, 0, 0)) fl_RX11_71 rfl rfl (ic_10 (by decide)) dX11_thing_63 rfl ?_
          refine w_iload_n dX11_thing_66 rfl 1 rfl ?_
          refine w_iload_n dX11_thing_67 rfl 2 rfl ?_
          refine w_callV (as := [vI v, vI u]) (rest := []) (c_X7_addThing l G cy ad d 0 v u Mz hIz (by first | decide | (unfold vF; omega) | (unfold vRw; omega))) kV_X7_addThing (by decide +kernel) (Nat.le_of_ble_eq_true rfl) m_514 rfl rfl rfl (ic_7 (by decide)) rfl rfl (by decide) (Nat.le_of_ble_eq_true rfl) dX11_thing_68 (fun r21_ M22_ q23_ => ?_)
          obtain ⟨hI25_, hF26_, h24_⟩ := q23_
          have hF27_ := hFz.tr hF26_ (fun c k => (fun h => h.elim (fun h => (Or.inl ⟨h.1, h.2⟩)) (fun h => h.elim (fun h => (Or.inr (Or.inl ⟨h.1, h.2⟩))) (fun h => h.elim (fun h => (Or.inr (Or.inr (Or.inl ⟨h.1, h.2⟩)))) (fun h => h.elim (fun h => (Or.inr (Or.inr (Or.inr (Or.inl ⟨h.1, h.2⟩))))) (fun h => h.elim (fun h => (Or.inr (Or.inr (Or.inr (Or.inr (Or.inl ⟨h.1, h.2⟩)))))) (fun h => h.elim (fun h => (Or.inr (Or.inr (Or.inr (Or.inr (Or.inr (Or.inl ⟨h.1, h.2.1, h.2.2⟩))))))) (fun h => h.elim))))))))
          exact w_iret rfl dX11_thing_71 ⟨hI25_, hF27_, trivial⟩
        · refine w_aload_n dX11_thing_53 rfl 0 rfl ?_
          refine w_iconst (v := 4) dX11_thing_54 (by decide) ?_
          refine w_callV (as := [vI 4]) (rest := []) (c_X11_error l G cy ad (d + 2) 4 Mz hIz) kV_X11_error (by decide +kernel) (Nat.le_of_ble_eq_true rfl) m_500 rfl rfl rfl ic_11 rfl rfl (by decide) (Nat.le_of_ble_eq_true rfl) dX11_thing_55 (fun r28_ M29_ q30_ => ?_)
          obtain ⟨hI32_, hF33_, h31_⟩ := q30_
          have hF34_ := hFz.tr hF33_ (fun c k => (fun h => h.elim (fun h => (Or.inr (Or.inr (Or.inr (Or.inr (Or.inr (Or.inr (Or.inl ⟨h.1, h.2⟩)))))))) (fun h => h.elim)))
          exact w_iret rfl dX11_thing_58 ⟨hI32_, hF34_, trivial⟩
      · refine w_if_ne (tgt := 40) dX11_thing_31 (by decide) li_0 (fun h9 => (absurd h9 (by decide))) (fun h35_ => ?_)
        refine w_aload_n dX11_thing_34 rfl 0 rfl ?_
        refine w_iconst (v := 3) dX11_thing_35 (by decide) ?_
        refine w_callV (as := [vI 3]) (rest := []) (c_X11_error l G cy ad (d + 2) 3 Mz hIz) kV_X11_error (by decide +kernel) (Nat.le_of_ble_eq_true rfl) m_500 rfl rfl rfl ic_11 rfl rfl (by decide) (Nat.le_of_ble_eq_true rfl) dX11_thing_36 (fun r36_ M37_ q38_ => ?_)
        obtain ⟨hI40_, hF41_, h39_⟩ := q38_
        have hF42_ := hFz.tr hF41_ (fun c k => (fun h => h.elim (fun h => (Or.inr (Or.inr (Or.inr (Or.inr (Or.inr (Or.inr (Or.inl ⟨h.1, h.2⟩)))))))) (fun h => h.elim)))
        exact w_iret rfl dX11_thing_39 ⟨hI40_, hF42_, trivial⟩
    · refine w_if_ne (tgt := 20) dX11_thing_11 (by decide) li_0 (fun h9 => (absurd h9 (by decide))) (fun h43_ => ?_)
      refine w_aload_n dX11_thing_14 rfl 0 rfl ?_
      refine w_iconst (v := 1) dX11_thing_15 (by decide) ?_
      refine w_callV (as := [vI 1]) (rest := []) (c_X11_error l G cy ad (d + 2) 1 Mz hIz) kV_X11_error (by decide +kernel) (Nat.le_of_ble_eq_true rfl) m_500 rfl rfl rfl ic_11 rfl rfl (by decide) (Nat.le_of_ble_eq_true rfl) dX11_thing_16 (fun r44_ M45_ q46_ => ?_)
      obtain ⟨hI48_, hF49_, h47_⟩ := q46_
      have hF50_ := hFz.tr hF49_ (fun c k => (fun h => h.elim (fun h => (Or.inr (Or.inr (Or.inr (Or.inr (Or.inr (Or.inr (Or.inl ⟨h.1, h.2⟩)))))))) (fun h => h.elim)))
      exact w_iret rfl dX11_thing_19 ⟨hI48_, hF50_, trivial⟩
  · refine w_if_eq (tgt := 14) dX11_thing_4 (by decide) li_0 (fun h51_ => ?_) (fun h9 => (absurd h9 (by decide)))
    refine w_aload_n dX11_thing_14 rfl 0 rfl ?_
    refine w_iconst (v := 1) dX11_thing_15 (by decide) ?_
    refine w_callV (as := [vI 1]) (rest := []) (c_X11_error l G cy ad (d + 2) 1 Mz hIz) kV_X11_error (by decide +kernel) (Nat.le_of_ble_eq_true rfl) m_500 rfl rfl rfl ic_11 rfl rfl (by decide) (Nat.le_of_ble_eq_true rfl) dX11_thing_16 (fun r52_ M53_ q54_ => ?_)
    obtain ⟨hI56_, hF57_, h55_⟩ := q54_
    have hF58_ := hFz.tr hF57_ (fun c k => (fun h => h.elim (fun h => (Or.inr (Or.inr (Or.inr (Or.inr (Or.inr (Or.inr (Or.inl ⟨h.1, h.2⟩)))))))) (fun h => h.elim)))
    exact w_iret rfl dX11_thing_19 ⟨hI56_, hF58_, trivial⟩
def S_c_X11_thingIs : rf → Nat → Prop := fun c k => (c.1 = 44 ∧ c.2.1 = 0) ∨ False
set_option maxHeartbeats 4000000 in
set_option maxRecDepth 100000 in
theorem c_X11_thingIs (l : Launch) (G : va_G) (cy : Nat → ClassId) (ad : rf → Nat) (d : Nat) (v : Int32) (u : Int32) (Mz : mM) (hIz : Inv Mz) : WP CC l G cy ad yX11_thingIs cX11_thingIs 3 (some .int) (d + 2) 0 [(0, vR (11, 0, 0)), (1, vI v), (2, vI u)] [] Mz (fun r M' => Inv M' ∧ FR (S_c_X11_thingIs) Mz M' ∧ True) := by
  have hFz : FR (S_c_X11_thingIs) Mz Mz := FR.self
  refine w_aload_n dX11_thingIs_0 rfl 0 rfl ?_
  refine w_getR (c' := (10, 0, 0)) fl_RX11_10 rfl rfl ic_11 dX11_thingIs_1 rfl ?_
  refine w_getR (c' := (7, 0, 0)) fl_RX11_71 rfl rfl (ic_10 (by decide)) dX11_thingIs_4 rfl ?_
  refine w_iload_n dX11_thingIs_7 rfl 1 rfl ?_
  refine w_callV (as := [vI v]) (rest := []) (c_X7_hasThing l G cy ad (d + 1) 0 v Mz hIz (by first | decide | (unfold vF; omega) | (unfold vRw; omega))) kV_X7_hasThing (by decide +kernel) (Nat.le_of_ble_eq_true rfl) m_526 rfl rfl rfl (ic_7 (by decide)) rfl rfl (by decide) (Nat.le_of_ble_eq_true rfl) dX11_thingIs_8 (fun r1_ M2_ q3_ => ?_)
  obtain ⟨rfl, h4_⟩ := q3_
  rcases h4_ with ⟨rfl, h4_⟩ | rfl
  · refine w_if_eq (tgt := 23) dX11_thingIs_11 (by decide) li_1 (fun h9 => (absurd h9 (by decide))) (fun h5_ => ?_)
    refine w_iload_n dX11_thingIs_14 rfl 2 rfl ?_
    refine w_iconst (v := 0) dX11_thingIs_15 (by decide) ?_
    refine w_iconst (v := 3) dX11_thingIs_16 (by decide) ?_
    refine w_callS (as := [vI u, vI 0, vI 3]) (rest := []) (c_X11_within l G cy ad (d + 1) u 0 3 Mz hIz) kS_X11_within (by decide +kernel) (Nat.le_of_ble_eq_true rfl) m_494 rfl rfl (by decide) (Nat.le_of_ble_eq_true rfl) dX11_thingIs_17 (fun r6_ M7_ q8_ => ?_)
    obtain ⟨rfl, h9_⟩ := q8_
    rcases h9_ with ⟨rfl, h9_⟩ | ⟨rfl, h9_⟩
    · simp only [li_0, li_3] at h9_
      refine w_if_ne (tgt := 29) dX11_thingIs_20 (by decide) li_1 (fun h10_ => ?_) (fun h9 => (absurd h9 (by decide)))
      refine w_aload_n dX11_thingIs_29 rfl 0 rfl ?_
      refine w_getR (c' := (10, 0, 0)) fl_RX11_10 rfl rfl ic_11 dX11_thingIs_30 rfl ?_
      refine w_getR (c' := (7, 0, 0)) fl_RX11_71 rfl rfl (ic_10 (by decide)) dX11_thingIs_33 rfl ?_
      refine w_iload_n dX11_thingIs_36 rfl 1 rfl ?_
      refine w_iload_n dX11_thingIs_37 rfl 2 rfl ?_
      refine w_callV (as := [vI v, vI u]) (rest := []) (c_X7_factOf l G cy ad d 0 v u Mz hIz (by first | decide | (unfold vF; omega) | (unfold vRw; omega))) kV_X7_factOf (by decide +kernel) (Nat.le_of_ble_eq_true rfl) m_530 rfl rfl rfl (ic_7 (by decide)) rfl rfl (by decide) (Nat.le_of_ble_eq_true rfl) dX11_thingIs_38 (fun r11_ M12_ q13_ => ?_)
      obtain ⟨rfl, h14_⟩ := q13_
      exact w_iret rfl dX11_thingIs_41 ⟨hIz, hFz, trivial⟩
    · simp only [li_0, li_3] at h9_
      refine w_if_ne (tgt := 29) dX11_thingIs_20 (by decide) li_0 (fun h9 => (absurd h9 (by decide))) (fun h15_ => ?_)
      refine w_aload_n dX11_thingIs_23 rfl 0 rfl ?_
      refine w_iconst (v := 1) dX11_thingIs_24 (by decide) ?_
      refine w_callV (as := [vI 1]) (rest := []) (c_X11_error l G cy ad (d + 1) 1 Mz hIz) kV_X11_error (by decide +kernel) (Nat.le_of_ble_eq_true rfl) m_500 rfl rfl rfl ic_11 rfl rfl (by decide) (Nat.le_of_ble_eq_true rfl) dX11_thingIs_25 (fun r16_ M17_ q18_ => ?_)
      obtain ⟨hI20_, hF21_, h19_⟩ := q18_
      have hF22_ := hFz.tr hF21_ (fun c k => (fun h => h.elim (fun h => (Or.inl ⟨h.1, h.2⟩)) (fun h => h.elim)))
      exact w_iret rfl dX11_thingIs_28 ⟨hI20_, hF22_, trivial⟩
  · refine w_if_eq (tgt := 23) dX11_thingIs_11 (by decide) li_0 (fun h23_ => ?_) (fun h9 => (absurd h9 (by decide)))
    refine w_aload_n dX11_thingIs_23 rfl 0 rfl ?_
    refine w_iconst (v := 1) dX11_thingIs_24 (by decide) ?_
    refine w_callV (as := [vI 1]) (rest := []) (c_X11_error l G cy ad (d + 1) 1 Mz hIz) kV_X11_error (by decide +kernel) (Nat.le_of_ble_eq_true rfl) m_500 rfl rfl rfl ic_11 rfl rfl (by decide) (Nat.le_of_ble_eq_true rfl) dX11_thingIs_25 (fun r24_ M25_ q26_ => ?_)
    obtain ⟨hI28_, hF29_, h27_⟩ := q26_
    have hF30_ := hFz.tr hF29_ (fun c k => (fun h => h.elim (fun h => (Or.inl ⟨h.1, h.2⟩)) (fun h => h.elim)))
    exact w_iret rfl dX11_thingIs_28 ⟨hI28_, hF30_, trivial⟩
def S_c_X11_moves : rf → Nat → Prop := fun c k => (c.1 = 38 ∧ c.2.1 = 0) ∨ (c.1 = 39 ∧ c.2.1 = 0) ∨ (c.1 = 44 ∧ c.2.1 = 0) ∨ False
theorem lf_c_X11_moves_0  (v : Int32) (h4_ : 0 ≤ v.toInt ∧ v.toInt ≤ 39) : 0 ≤ v.toInt ∧ v.toInt < ((40 : Nat) : Int) := by have r_v := rngI v; omega
theorem lf_c_X11_moves_1 (Mz : mM) (v : Int32) (j18_ : Nat) (z16_ : Int32) (h4_ : 0 ≤ v.toInt ∧ v.toInt ≤ 39) (h19_ : (j18_ : Int) = v.toInt) (e17_ : z16_ = Mz.1 (36, 0, 0) j18_) (h20_ : 3 ≤ z16_.toInt) : 0 ≤ v.toInt ∧ v.toInt < ((40 : Nat) : Int) := by have r_v := rngI v; have r_z16_ := rngI z16_; subst e17_; omega
theorem lf_c_X11_moves_2 (Mz : mM) (v : Int32) (j18_ : Nat) (z16_ : Int32) (j23_ : Nat) (z21_ : Int32) (h4_ : 0 ≤ v.toInt ∧ v.toInt ≤ 39) (h19_ : (j18_ : Int) = v.toInt) (e17_ : z16_ = Mz.1 (36, 0, 0) j18_) (h20_ : 3 ≤ z16_.toInt) (h24_ : (j23_ : Int) = v.toInt) (e22_ : z21_ = Mz.1 (37, 0, 0) j23_) (h25_ : 0 ≤ z21_.toInt) : 0 ≤ v.toInt ∧ v.toInt < ((40 : Nat) : Int) := by have r_v := rngI v; have r_z16_ := rngI z16_; have r_z21_ := rngI z21_; subst e17_; subst e22_; omega
theorem lf_c_X11_moves_3 (M26_ : mM) (Mz : mM) (v : Int32) (u : Int32) (j18_ : Nat) (z16_ : Int32) (j23_ : Nat) (z21_ : Int32) (j28_ : Nat) (h4_ : 0 ≤ v.toInt ∧ v.toInt ≤ 39) (h9_ : 0 ≤ u.toInt ∧ u.toInt ≤ 7) (h19_ : (j18_ : Int) = v.toInt) (e17_ : z16_ = Mz.1 (36, 0, 0) j18_) (h20_ : 3 ≤ z16_.toInt) (h24_ : (j23_ : Int) = v.toInt) (e22_ : z21_ = Mz.1 (37, 0, 0) j23_) (h25_ : 0 ≤ z21_.toInt) (h29_ : (j28_ : Int) = v.toInt) (hM27_ : M26_ = up Mz (38, 0, 0) j28_ u) : 0 ≤ v.toInt ∧ v.toInt < ((40 : Nat) : Int) := by have r_v := rngI v; have r_u := rngI u; have r_z16_ := rngI z16_; have r_z21_ := rngI z21_; subst e17_; subst e22_; omega
set_option maxHeartbeats 4000000 in
set_option maxRecDepth 100000 in
theorem c_X11_moves (l : Launch) (G : va_G) (cy : Nat → ClassId) (ad : rf → Nat) (d : Nat) (v : Int32) (u : Int32) (t : Int32) (Mz : mM) (hIz : Inv Mz) : WP CC l G cy ad yX11_moves cX11_moves 5 (some .int) (d + 1) 0 [(0, vR (11, 0, 0)), (1, vI v), (2, vI u), (3, vI t)] [] Mz (fun r M' => Inv M' ∧ FR (S_c_X11_moves) Mz M' ∧ True) := by
  have hFz : FR (S_c_X11_moves) Mz Mz := FR.self
  refine w_aload_n dX11_moves_0 rfl 0 rfl ?_
  refine w_getR (c' := (10, 0, 0)) fl_RX11_10 rfl rfl ic_11 dX11_moves_1 rfl ?_
  refine w_getR (c' := (7, 0, 0)) fl_RX11_71 rfl rfl (ic_10 (by decide)) dX11_moves_4 rfl ?_
  refine w_astore (ls' := [(4, vR (7, 0, 0)), (0, vR (11, 0, 0)), (1, vI v), (2, vI u), (3, vI t)]) dX11_moves_7 (by decide) rfl ?_
  refine w_aload dX11_moves_9 0 rfl ?_
  refine w_iload_n dX11_moves_11 rfl 2 rfl ?_
  refine w_callV (as := [vI v]) (rest := []) (c_X7_hasThing l G cy ad d 0 v Mz hIz (by first | decide | (unfold vF; omega) | (unfold vRw; omega))) kV_X7_hasThing (by decide +kernel) (Nat.le_of_ble_eq_true rfl) m_526 rfl rfl rfl (ic_7 (by decide)) rfl rfl (by decide) (Nat.le_of_ble_eq_true rfl) dX11_moves_12 (fun r1_ M2_ q3_ => ?_)
  obtain ⟨rfl, h4_⟩ := q3_
  rcases h4_ with ⟨rfl, h4_⟩ | rfl
  · refine w_if_eq (tgt := 35) dX11_moves_15 (by decide) li_1 (fun h9 => (absurd h9 (by decide))) (fun h5_ => ?_)
    refine w_iload_n dX11_moves_18 rfl 3 rfl ?_
    refine w_callS (as := [vI u]) (rest := []) (c_X7_isSide l G cy ad d u Mz hIz) kS_X7_isSide (by decide +kernel) (Nat.le_of_ble_eq_true rfl) m_539 rfl rfl (by decide) (Nat.le_of_ble_eq_true rfl) dX11_moves_19 (fun r6_ M7_ q8_ => ?_)
    obtain ⟨rfl, h9_⟩ := q8_
    rcases h9_ with ⟨rfl, h9_⟩ | ⟨rfl, h9_⟩
    · refine w_if_eq (tgt := 35) dX11_moves_22 (by decide) li_1 (fun h9 => (absurd h9 (by decide))) (fun h10_ => ?_)
      refine w_iload_n dX11_moves_25 rfl 4 rfl ?_
      refine w_iconst (v := 0) dX11_moves_26 (by decide) ?_
      refine w_bipush (v := 20) dX11_moves_27 (by decide) ?_
      refine w_callS (as := [vI t, vI 0, vI 20]) (rest := []) (c_X11_within l G cy ad d t 0 20 Mz hIz) kS_X11_within (by decide +kernel) (Nat.le_of_ble_eq_true rfl) m_494 rfl rfl (by decide) (Nat.le_of_ble_eq_true rfl) dX11_moves_29 (fun r11_ M12_ q13_ => ?_)
      obtain ⟨rfl, h14_⟩ := q13_
      rcases h14_ with ⟨rfl, h14_⟩ | ⟨rfl, h14_⟩
      · simp only [li_0, li_20] at h14_
        refine w_if_ne (tgt := 41) dX11_moves_32 (by decide) li_1 (fun h15_ => ?_) (fun h9 => (absurd h9 (by decide)))
        refine w_aload dX11_moves_41 0 rfl ?_
        refine w_getR (c' := (36, 0, 0)) fl_RX11_99 rfl rfl (ic_7 (by decide)) dX11_moves_43 rfl ?_
        refine w_iload_n dX11_moves_46 rfl 2 rfl ?_
        refine w_iald rfl rfl (ic_36 (by decide)) (rfl : v.toInt = v.toInt) (lf_c_X11_moves_0 v h4_) dX11_moves_47 (fun j18_ h19_ z16_ e17_ => ?_)
        refine w_iconst (v := 3) dX11_moves_48 (by decide) ?_
        refine w_icmp_ge (tgt := 58) dX11_moves_49 (by decide) (rfl : z16_.toInt = z16_.toInt) li_3 (fun h20_ => ?_) (fun h20_ => ?_)
        · refine w_aload dX11_moves_58 0 rfl ?_
          refine w_getR (c' := (37, 0, 0)) fl_RX11_102 rfl rfl (ic_7 (by decide)) dX11_moves_60 rfl ?_
          refine w_iload_n dX11_moves_63 rfl 2 rfl ?_
          refine w_iald rfl rfl (ic_37 (by decide)) (rfl : v.toInt = v.toInt) (lf_c_X11_moves_1 Mz v j18_ z16_ h4_ h19_ e17_ h20_) dX11_moves_64 (fun j23_ h24_ z21_ e22_ => ?_)
          refine w_if_ge (tgt := 74) dX11_moves_65 (by decide) (rfl : z21_.toInt = z21_.toInt) (fun h25_ => ?_) (fun h25_ => ?_)
          · refine w_aload dX11_moves_74 0 rfl ?_
            refine w_getR (c' := (38, 0, 0)) fl_RX11_105 rfl rfl (ic_7 (by decide)) dX11_moves_76 rfl ?_
            refine w_iload_n dX11_moves_79 rfl 2 rfl ?_
            refine w_iload_n dX11_moves_80 rfl 3 rfl ?_
            refine w_iast CC_nd rfl rfl (ic_38 (by decide)) (rfl : v.toInt = v.toInt) (lf_c_X11_moves_2 Mz v j18_ z16_ j23_ z21_ h4_ h19_ e17_ h20_ h24_ e22_ h25_) dX11_moves_81 (fun j28_ h29_ M26_ hM27_ => ?_)
            have hI30_ := hIz.put hM27_ trivial
            have hF31_ := hFz.put hM27_ (Or.inl ⟨rfl, rfl⟩)
            refine w_aload dX11_moves_82 0 rfl ?_
            refine w_getR (c' := (39, 0, 0)) fl_RX11_108 rfl rfl (ic_7 (by decide)) dX11_moves_84 rfl ?_
            refine w_iload_n dX11_moves_87 rfl 2 rfl ?_
            refine w_iload_n dX11_moves_88 rfl 4 rfl ?_
            refine w_iast CC_nd rfl rfl (ic_39 (by decide)) (rfl : v.toInt = v.toInt) (lf_c_X11_moves_3 M26_ Mz v u j18_ z16_ j23_ z21_ j28_ h4_ h9_ h19_ e17_ h20_ h24_ e22_ h25_ h29_ hM27_) dX11_moves_89 (fun j34_ h35_ M32_ hM33_ => ?_)
            have hI36_ := hI30_.put hM33_ trivial
            have hF37_ := hF31_.put hM33_ (Or.inr (Or.inl ⟨rfl, rfl⟩))
            refine w_iconst (v := 1) dX11_moves_90 (by decide) ?_
            exact w_iret rfl dX11_moves_91 ⟨hI36_, hF37_, trivial⟩
          · refine w_aload_n dX11_moves_68 rfl 1 rfl ?_
            refine w_iconst (v := 3) dX11_moves_69 (by decide) ?_
            refine w_callV (as := [vI 3]) (rest := []) (c_X11_error l G cy ad d 3 Mz hIz) kV_X11_error (by decide +kernel) (Nat.le_of_ble_eq_true rfl) m_500 rfl rfl rfl ic_11 rfl rfl (by decide) (Nat.le_of_ble_eq_true rfl) dX11_moves_70 (fun r38_ M39_ q40_ => ?_)
            obtain ⟨hI42_, hF43_, h41_⟩ := q40_
            have hF44_ := hFz.tr hF43_ (fun c k => (fun h => h.elim (fun h => (Or.inr (Or.inr (Or.inl ⟨h.1, h.2⟩)))) (fun h => h.elim)))
            exact w_iret rfl dX11_moves_73 ⟨hI42_, hF44_, trivial⟩
        · refine w_aload_n dX11_moves_52 rfl 1 rfl ?_
          refine w_iconst (v := 5) dX11_moves_53 (by decide) ?_
          refine w_callV (as := [vI 5]) (rest := []) (c_X11_error l G cy ad d 5 Mz hIz) kV_X11_error (by decide +kernel) (Nat.le_of_ble_eq_true rfl) m_500 rfl rfl rfl ic_11 rfl rfl (by decide) (Nat.le_of_ble_eq_true rfl) dX11_moves_54 (fun r45_ M46_ q47_ => ?_)
          obtain ⟨hI49_, hF50_, h48_⟩ := q47_
          have hF51_ := hFz.tr hF50_ (fun c k => (fun h => h.elim (fun h => (Or.inr (Or.inr (Or.inl ⟨h.1, h.2⟩)))) (fun h => h.elim)))
          exact w_iret rfl dX11_moves_57 ⟨hI49_, hF51_, trivial⟩
      · simp only [li_0, li_20] at h14_
        refine w_if_ne (tgt := 41) dX11_moves_32 (by decide) li_0 (fun h9 => (absurd h9 (by decide))) (fun h52_ => ?_)
        refine w_aload_n dX11_moves_35 rfl 1 rfl ?_
        refine w_iconst (v := 1) dX11_moves_36 (by decide) ?_
        refine w_callV (as := [vI 1]) (rest := []) (c_X11_error l G cy ad d 1 Mz hIz) kV_X11_error (by decide +kernel) (Nat.le_of_ble_eq_true rfl) m_500 rfl rfl rfl ic_11 rfl rfl (by decide) (Nat.le_of_ble_eq_true rfl) dX11_moves_37 (fun r53_ M54_ q55_ => ?_)
        obtain ⟨hI57_, hF58_, h56_⟩ := q55_
        have hF59_ := hFz.tr hF58_ (fun c k => (fun h => h.elim (fun h => (Or.inr (Or.inr (Or.inl ⟨h.1, h.2⟩)))) (fun h => h.elim)))
        exact w_iret rfl dX11_moves_40 ⟨hI57_, hF59_, trivial⟩
    · refine w_if_eq (tgt := 35) dX11_moves_22 (by decide) li_0 (fun h60_ => ?_) (fun h9 => (absurd h9 (by decide)))
      refine w_aload_n dX11_moves_35 rfl 1 rfl ?_
      refine w_iconst (v := 1) dX11_moves_36 (by decide) ?_
      refine w_callV (as := [vI 1]) (rest := []) (c_X11_error l G cy ad d 1 Mz hIz) kV_X11_error (by decide +kernel) (Nat.le_of_ble_eq_true rfl) m_500 rfl rfl rfl ic_11 rfl rfl (by decide) (Nat.le_of_ble_eq_true rfl) dX11_moves_37 (fun r61_ M62_ q63_ => ?_)
      obtain ⟨hI65_, hF66_, h64_⟩ := q63_
      have hF67_ := hFz.tr hF66_ (fun c k => (fun h => h.elim (fun h => (Or.inr (Or.inr (Or.inl ⟨h.1, h.2⟩)))) (fun h => h.elim)))
      exact w_iret rfl dX11_moves_40 ⟨hI65_, hF67_, trivial⟩
  · refine w_if_eq (tgt := 35) dX11_moves_15 (by decide) li_0 (fun h68_ => ?_) (fun h9 => (absurd h9 (by decide)))
    refine w_aload_n dX11_moves_35 rfl 1 rfl ?_
    refine w_iconst (v := 1) dX11_moves_36 (by decide) ?_
    refine w_callV (as := [vI 1]) (rest := []) (c_X11_error l G cy ad d 1 Mz hIz) kV_X11_error (by decide +kernel) (Nat.le_of_ble_eq_true rfl) m_500 rfl rfl rfl ic_11 rfl rfl (by decide) (Nat.le_of_ble_eq_true rfl) dX11_moves_37 (fun r69_ M70_ q71_ => ?_)
    obtain ⟨hI73_, hF74_, h72_⟩ := q71_
    have hF75_ := hFz.tr hF74_ (fun c k => (fun h => h.elim (fun h => (Or.inr (Or.inr (Or.inl ⟨h.1, h.2⟩)))) (fun h => h.elim)))
    exact w_iret rfl dX11_moves_40 ⟨hI73_, hF75_, trivial⟩
def S_c_X11_away : rf → Nat → Prop := fun c k => (c.1 = 35 ∧ c.2.1 = 0) ∨ (c.1 = 37 ∧ c.2.1 = 0) ∨ (c.1 = 44 ∧ c.2.1 = 0) ∨ False
theorem lf_c_X11_away_0  (v : Int32) (h4_ : 0 ≤ v.toInt ∧ v.toInt ≤ 39) : 0 ≤ v.toInt ∧ v.toInt < ((40 : Nat) : Int) := by have r_v := rngI v; omega
set_option maxHeartbeats 4000000 in
set_option maxRecDepth 100000 in
theorem c_X11_away (l : Launch) (G : va_G) (cy : Nat → ClassId) (ad : rf → Nat) (d : Nat) (v : Int32) (Mz : mM) (hIz : Inv Mz) : WP CC l G cy ad yX11_away cX11_away 2 (some .int) (d + 3) 0 [(0, vR (11, 0, 0)), (1, vI v)] [] Mz (fun r M' => Inv M' ∧ FR (S_c_X11_away) Mz M' ∧ True) := by
  have hFz : FR (S_c_X11_away) Mz Mz := FR.self
  refine w_aload_n dX11_away_0 rfl 0 rfl ?_
  refine w_getR (c' := (10, 0, 0)) fl_RX11_10 rfl rfl ic_11 dX11_away_1 rfl ?_
  refine w_getR (c' := (7, 0, 0)) fl_RX11_71 rfl rfl (ic_10 (by decide)) dX11_away_4 rfl ?_
  refine w_iload_n dX11_away_7 rfl 1 rfl ?_
  refine w_callV (as := [vI v]) (rest := []) (c_X7_hasThing l G cy ad (d + 2) 0 v Mz hIz (by first | decide | (unfold vF; omega) | (unfold vRw; omega))) kV_X7_hasThing (by decide +kernel) (Nat.le_of_ble_eq_true rfl) m_526 rfl rfl rfl (ic_7 (by decide)) rfl rfl (by decide) (Nat.le_of_ble_eq_true rfl) dX11_away_8 (fun r1_ M2_ q3_ => ?_)
  obtain ⟨rfl, h4_⟩ := q3_
  rcases h4_ with ⟨rfl, h4_⟩ | rfl
  · refine w_if_ne (tgt := 20) dX11_away_11 (by decide) li_1 (fun h5_ => ?_) (fun h9 => (absurd h9 (by decide)))
    refine w_aload_n dX11_away_20 rfl 0 rfl ?_
    refine w_getR (c' := (10, 0, 0)) fl_RX11_10 rfl rfl ic_11 dX11_away_21 rfl ?_
    refine w_getR (c' := (7, 0, 0)) fl_RX11_71 rfl rfl (ic_10 (by decide)) dX11_away_24 rfl ?_
    refine w_getR (c' := (37, 0, 0)) fl_RX11_102 rfl rfl (ic_7 (by decide)) dX11_away_27 rfl ?_
    refine w_iload_n dX11_away_30 rfl 1 rfl ?_
    refine w_iald rfl rfl (ic_37 (by decide)) (rfl : v.toInt = v.toInt) (lf_c_X11_away_0 v h4_) dX11_away_31 (fun j8_ h9_ z6_ e7_ => ?_)
    refine w_if_ge (tgt := 41) dX11_away_32 (by decide) (rfl : z6_.toInt = z6_.toInt) (fun h10_ => ?_) (fun h10_ => ?_)
    · refine w_aload_n dX11_away_41 rfl 0 rfl ?_
      refine w_getR (c' := (10, 0, 0)) fl_RX11_10 rfl rfl ic_11 dX11_away_42 rfl ?_
      refine w_getR (c' := (7, 0, 0)) fl_RX11_71 rfl rfl (ic_10 (by decide)) dX11_away_45 rfl ?_
      refine w_iload_n dX11_away_48 rfl 1 rfl ?_
      refine w_callV (as := [vI v]) (rest := []) (c_X7_takeAway l G cy ad d 0 v Mz hIz (by first | decide | (unfold vF; omega) | (unfold vRw; omega))) kV_X7_takeAway (by decide +kernel) (Nat.le_of_ble_eq_true rfl) m_546 rfl rfl rfl (ic_7 (by decide)) rfl rfl (by decide) (Nat.le_of_ble_eq_true rfl) dX11_away_49 (fun r11_ M12_ q13_ => ?_)
      obtain ⟨hI15_, hF16_, h14_⟩ := q13_
      have hF17_ := hFz.tr hF16_ (fun c k => (fun h => h.elim (fun h => (Or.inl ⟨h.1, h.2⟩)) (fun h => h.elim (fun h => (Or.inr (Or.inl ⟨h.1, h.2⟩))) (fun h => h.elim))))
      exact w_iret rfl dX11_away_52 ⟨hI15_, hF17_, trivial⟩
    · refine w_aload_n dX11_away_35 rfl 0 rfl ?_
      refine w_iconst (v := 3) dX11_away_36 (by decide) ?_
      refine w_callV (as := [vI 3]) (rest := []) (c_X11_error l G cy ad (d + 2) 3 Mz hIz) kV_X11_error (by decide +kernel) (Nat.le_of_ble_eq_true rfl) m_500 rfl rfl rfl ic_11 rfl rfl (by decide) (Nat.le_of_ble_eq_true rfl) dX11_away_37 (fun r18_ M19_ q20_ => ?_)
      obtain ⟨hI22_, hF23_, h21_⟩ := q20_
      have hF24_ := hFz.tr hF23_ (fun c k => (fun h => h.elim (fun h => (Or.inr (Or.inr (Or.inl ⟨h.1, h.2⟩)))) (fun h => h.elim)))
      exact w_iret rfl dX11_away_40 ⟨hI22_, hF24_, trivial⟩
  · refine w_if_ne (tgt := 20) dX11_away_11 (by decide) li_0 (fun h9 => (absurd h9 (by decide))) (fun h25_ => ?_)
    refine w_aload_n dX11_away_14 rfl 0 rfl ?_
    refine w_iconst (v := 1) dX11_away_15 (by decide) ?_
    refine w_callV (as := [vI 1]) (rest := []) (c_X11_error l G cy ad (d + 2) 1 Mz hIz) kV_X11_error (by decide +kernel) (Nat.le_of_ble_eq_true rfl) m_500 rfl rfl rfl ic_11 rfl rfl (by decide) (Nat.le_of_ble_eq_true rfl) dX11_away_16 (fun r26_ M27_ q28_ => ?_)
    obtain ⟨hI30_, hF31_, h29_⟩ := q28_
    have hF32_ := hFz.tr hF31_ (fun c k => (fun h => h.elim (fun h => (Or.inr (Or.inr (Or.inl ⟨h.1, h.2⟩)))) (fun h => h.elim)))
    exact w_iret rfl dX11_away_19 ⟨hI30_, hF32_, trivial⟩
def S_c_X11_kind : rf → Nat → Prop := fun c k => (c.1 = 27 ∧ c.2.1 = 0) ∨ (c.1 = 26 ∧ c.2.1 = 0) ∨ (c.1 = 44 ∧ c.2.1 = 0) ∨ False
set_option maxHeartbeats 4000000 in
set_option maxRecDepth 100000 in
theorem c_X11_kind (l : Launch) (G : va_G) (cy : Nat → ClassId) (ad : rf → Nat) (d : Nat) (v : Int32) (u : Int32) (t : Int32) (Mz : mM) (hIz : Inv Mz) : WP CC l G cy ad yX11_kind cX11_kind 4 (some .int) (d + 2) 0 [(0, vR (11, 0, 0)), (1, vI v), (2, vI u), (3, vI t)] [] Mz (fun r M' => Inv M' ∧ FR (S_c_X11_kind) Mz M' ∧ True) := by
  have hFz : FR (S_c_X11_kind) Mz Mz := FR.self
  refine w_iload_n dX11_kind_0 rfl 1 rfl ?_
  refine w_callS (as := [vI v]) (rest := []) (c_X11_isThingKind l G cy ad d v Mz hIz) kS_X11_isThingKind (by decide +kernel) (Nat.le_of_ble_eq_true rfl) m_491 rfl rfl (by decide) (Nat.le_of_ble_eq_true rfl) dX11_kind_1 (fun r1_ M2_ q3_ => ?_)
  obtain ⟨rfl, h4_⟩ := q3_
  rcases h4_ with ⟨rfl, h4_⟩ | ⟨rfl, h4_⟩
  · refine w_if_eq (tgt := 35) dX11_kind_4 (by decide) li_1 (fun h9 => (absurd h9 (by decide))) (fun h5_ => ?_)
    refine w_iload_n dX11_kind_7 rfl 2 rfl ?_
    refine w_iconst (v := 0) dX11_kind_8 (by decide) ?_
    refine w_iconst (v := 1) dX11_kind_9 (by decide) ?_
    refine w_callS (as := [vI u, vI 0, vI 1]) (rest := []) (c_X11_within l G cy ad (d + 1) u 0 1 Mz hIz) kS_X11_within (by decide +kernel) (Nat.le_of_ble_eq_true rfl) m_494 rfl rfl (by decide) (Nat.le_of_ble_eq_true rfl) dX11_kind_10 (fun r6_ M7_ q8_ => ?_)
    obtain ⟨rfl, h9_⟩ := q8_
    rcases h9_ with ⟨rfl, h9_⟩ | ⟨rfl, h9_⟩
    · simp only [li_0, li_1] at h9_
      refine w_if_eq (tgt := 35) dX11_kind_13 (by decide) li_1 (fun h9 => (absurd h9 (by decide))) (fun h10_ => ?_)
      refine w_iload_n dX11_kind_16 rfl 3 rfl ?_
      refine w_iconst (v := 0) dX11_kind_17 (by decide) ?_
      refine w_iload_n dX11_kind_18 rfl 2 rfl ?_
      refine w_if_ne (tgt := 27) dX11_kind_19 (by decide) (rfl : u.toInt = u.toInt) (fun h11_ => ?_) (fun h11_ => ?_)
      · refine w_bipush (v := 9) dX11_kind_27 (by decide) ?_
        refine w_callS (as := [vI t, vI 0, vI 9]) (rest := []) (c_X11_within l G cy ad (d + 1) t 0 9 Mz hIz) kS_X11_within (by decide +kernel) (Nat.le_of_ble_eq_true rfl) m_494 rfl rfl (by decide) (Nat.le_of_ble_eq_true rfl) dX11_kind_29 (fun r12_ M13_ q14_ => ?_)
        obtain ⟨rfl, h15_⟩ := q14_
        rcases h15_ with ⟨rfl, h15_⟩ | ⟨rfl, h15_⟩
        · simp only [li_0, li_9] at h15_
          refine w_if_ne (tgt := 41) dX11_kind_32 (by decide) li_1 (fun h16_ => ?_) (fun h9 => (absurd h9 (by decide)))
          refine w_aload_n dX11_kind_41 rfl 0 rfl ?_
          refine w_getR (c' := (10, 0, 0)) fl_RX11_10 rfl rfl ic_11 dX11_kind_42 rfl ?_
          refine w_getR (c' := (2, 0, 0)) fl_RX11_114 rfl rfl (ic_10 (by decide)) dX11_kind_45 rfl ?_
          refine w_iload_n dX11_kind_48 rfl 1 rfl ?_
          refine w_iload_n dX11_kind_49 rfl 2 rfl ?_
          refine w_iload_n dX11_kind_50 rfl 3 rfl ?_
          refine w_callV (as := [vI v, vI u, vI t]) (rest := []) (c_X2_changeKind l G cy ad (d + 1) 0 v u t Mz hIz (by first | decide | (unfold vF; omega) | (unfold vRw; omega))) kV_X2_changeKind (by decide +kernel) (Nat.le_of_ble_eq_true rfl) m_554 rfl rfl rfl (ic_2 (by decide)) rfl rfl (by decide) (Nat.le_of_ble_eq_true rfl) dX11_kind_51 (fun r17_ M18_ q19_ => ?_)
          obtain ⟨hI21_, hF22_, h20_⟩ := q19_
          have hF23_ := hFz.tr hF22_ (fun c k => (fun h => h.elim (fun h => (Or.inl ⟨h.1, h.2⟩)) (fun h => h.elim (fun h => (Or.inr (Or.inl ⟨h.1, h.2⟩))) (fun h => h.elim))))
          exact w_iret rfl dX11_kind_54 ⟨hI21_, hF23_, trivial⟩
        · simp only [li_0, li_9] at h15_
          refine w_if_ne (tgt := 41) dX11_kind_32 (by decide) li_0 (fun h9 => (absurd h9 (by decide))) (fun h24_ => ?_)
          refine w_aload_n dX11_kind_35 rfl 0 rfl ?_
          refine w_iconst (v := 1) dX11_kind_36 (by decide) ?_
          refine w_callV (as := [vI 1]) (rest := []) (c_X11_error l G cy ad (d + 1) 1 Mz hIz) kV_X11_error (by decide +kernel) (Nat.le_of_ble_eq_true rfl) m_500 rfl rfl rfl ic_11 rfl rfl (by decide) (Nat.le_of_ble_eq_true rfl) dX11_kind_37 (fun r25_ M26_ q27_ => ?_)
          obtain ⟨hI29_, hF30_, h28_⟩ := q27_
          have hF31_ := hFz.tr hF30_ (fun c k => (fun h => h.elim (fun h => (Or.inr (Or.inr (Or.inl ⟨h.1, h.2⟩)))) (fun h => h.elim)))
          exact w_iret rfl dX11_kind_40 ⟨hI29_, hF31_, trivial⟩
      · refine w_bipush (v := 99) dX11_kind_22 (by decide) ?_
        refine w_goto (tgt := 29) dX11_kind_24 (by decide) ?_
        refine w_callS (as := [vI t, vI 0, vI 99]) (rest := []) (c_X11_within l G cy ad (d + 1) t 0 99 Mz hIz) kS_X11_within (by decide +kernel) (Nat.le_of_ble_eq_true rfl) m_494 rfl rfl (by decide) (Nat.le_of_ble_eq_true rfl) dX11_kind_29 (fun r32_ M33_ q34_ => ?_)
        obtain ⟨rfl, h35_⟩ := q34_
        rcases h35_ with ⟨rfl, h35_⟩ | ⟨rfl, h35_⟩
        · simp only [li_0, li_99] at h35_
          refine w_if_ne (tgt := 41) dX11_kind_32 (by decide) li_1 (fun h36_ => ?_) (fun h9 => (absurd h9 (by decide)))
          refine w_aload_n dX11_kind_41 rfl 0 rfl ?_
          refine w_getR (c' := (10, 0, 0)) fl_RX11_10 rfl rfl ic_11 dX11_kind_42 rfl ?_
          refine w_getR (c' := (2, 0, 0)) fl_RX11_114 rfl rfl (ic_10 (by decide)) dX11_kind_45 rfl ?_
          refine w_iload_n dX11_kind_48 rfl 1 rfl ?_
          refine w_iload_n dX11_kind_49 rfl 2 rfl ?_
          refine w_iload_n dX11_kind_50 rfl 3 rfl ?_
          refine w_callV (as := [vI v, vI u, vI t]) (rest := []) (c_X2_changeKind l G cy ad (d + 1) 0 v u t Mz hIz (by first | decide | (unfold vF; omega) | (unfold vRw; omega))) kV_X2_changeKind (by decide +kernel) (Nat.le_of_ble_eq_true rfl) m_554 rfl rfl rfl (ic_2 (by decide)) rfl rfl (by decide) (Nat.le_of_ble_eq_true rfl) dX11_kind_51 (fun r37_ M38_ q39_ => ?_)
          obtain ⟨hI41_, hF42_, h40_⟩ := q39_
          have hF43_ := hFz.tr hF42_ (fun c k => (fun h => h.elim (fun h => (Or.inl ⟨h.1, h.2⟩)) (fun h => h.elim (fun h => (Or.inr (Or.inl ⟨h.1, h.2⟩))) (fun h => h.elim))))
          exact w_iret rfl dX11_kind_54 ⟨hI41_, hF43_, trivial⟩
        · simp only [li_0, li_99] at h35_
          refine w_if_ne (tgt := 41) dX11_kind_32 (by decide) li_0 (fun h9 => (absurd h9 (by decide))) (fun h44_ => ?_)
          refine w_aload_n dX11_kind_35 rfl 0 rfl ?_
          refine w_iconst (v := 1) dX11_kind_36 (by decide) ?_
          refine w_callV (as := [vI 1]) (rest := []) (c_X11_error l G cy ad (d + 1) 1 Mz hIz) kV_X11_error (by decide +kernel) (Nat.le_of_ble_eq_true rfl) m_500 rfl rfl rfl ic_11 rfl rfl (by decide) (Nat.le_of_ble_eq_true rfl) dX11_kind_37 (fun r45_ M46_ q47_ => ?_)
          obtain ⟨hI49_, hF50_, h48_⟩ := q47_
          have hF51_ := hFz.tr hF50_ (fun c k => (fun h => h.elim (fun h => (Or.inr (Or.inr (Or.inl ⟨h.1, h.2⟩)))) (fun h => h.elim)))
          exact w_iret rfl dX11_kind_40 ⟨hI49_, hF51_, trivial⟩
    · simp only [li_0, li_1] at h9_
      refine w_if_eq (tgt := 35) dX11_kind_13 (by decide) li_0 (fun h52_ => ?_) (fun h9 => (absurd h9 (by decide)))
      refine w_aload_n dX11_kind_35 rfl 0 rfl ?_
      refine w_iconst (v := 1) dX11_kind_36 (by decide) ?_
      refine w_callV (as := [vI 1]) (rest := []) (c_X11_error l G cy ad (d + 1) 1 Mz hIz) kV_X11_error (by decide +kernel) (Nat.le_of_ble_eq_true rfl) m_500 rfl rfl rfl ic_11 rfl rfl (by decide) (Nat.le_of_ble_eq_true rfl) dX11_kind_37 (fun r53_ M54_ q55_ => ?_)
      obtain ⟨hI57_, hF58_, h56_⟩ := q55_
      have hF59_ := hFz.tr hF58_ (fun c k => (fun h => h.elim (fun h => (Or.inr (Or.inr (Or.inl ⟨h.1, h.2⟩)))) (fun h => h.elim)))
      exact w_iret rfl dX11_kind_40 ⟨hI57_, hF59_, trivial⟩
  · refine w_if_eq (tgt := 35) dX11_kind_4 (by decide) li_0 (fun h60_ => ?_) (fun h9 => (absurd h9 (by decide)))
    refine w_aload_n dX11_kind_35 rfl 0 rfl ?_
    refine w_iconst (v := 1) dX11_kind_36 (by decide) ?_
    refine w_callV (as := [vI 1]) (rest := []) (c_X11_error l G cy ad (d + 1) 1 Mz hIz) kV_X11_error (by decide +kernel) (Nat.le_of_ble_eq_true rfl) m_500 rfl rfl rfl ic_11 rfl rfl (by decide) (Nat.le_of_ble_eq_true rfl) dX11_kind_37 (fun r61_ M62_ q63_ => ?_)
    obtain ⟨hI65_, hF66_, h64_⟩ := q63_
    have hF67_ := hFz.tr hF66_ (fun c k => (fun h => h.elim (fun h => (Or.inr (Or.inr (Or.inl ⟨h.1, h.2⟩)))) (fun h => h.elim)))
    exact w_iret rfl dX11_kind_40 ⟨hI65_, hF67_, trivial⟩
def S_c_X11_at : rf → Nat → Prop := fun c k => (c.1 = 44 ∧ c.2.1 = 0) ∨ False
theorem lf_c_X11_at_0  (v : Int32) (h4_ : 0 ≤ v.toInt ∧ v.toInt ≤ 191) : 0 ≤ v.toInt ∧ v.toInt < ((192 : Nat) : Int) := by have r_v := rngI v; omega
set_option maxHeartbeats 4000000 in
set_option maxRecDepth 100000 in
theorem c_X11_at (l : Launch) (G : va_G) (cy : Nat → ClassId) (ad : rf → Nat) (d : Nat) (v : Int32) (Mz : mM) (hIz : Inv Mz) : WP CC l G cy ad yX11_at cX11_at 2 (some .int) (d + 1) 0 [(0, vR (11, 0, 0)), (1, vI v)] [] Mz (fun r M' => Inv M' ∧ FR (S_c_X11_at) Mz M' ∧ True) := by
  have hFz : FR (S_c_X11_at) Mz Mz := FR.self
  refine w_iload_n dX11_at_0 rfl 1 rfl ?_
  refine w_callS (as := [vI v]) (rest := []) (c_X7_isCell l G cy ad d v Mz hIz) kS_X7_isCell (by decide +kernel) (Nat.le_of_ble_eq_true rfl) m_497 rfl rfl (by decide) (Nat.le_of_ble_eq_true rfl) dX11_at_1 (fun r1_ M2_ q3_ => ?_)
  obtain ⟨rfl, h4_⟩ := q3_
  rcases h4_ with ⟨rfl, h4_⟩ | ⟨rfl, h4_⟩
  · refine w_if_ne (tgt := 13) dX11_at_4 (by decide) li_1 (fun h5_ => ?_) (fun h9 => (absurd h9 (by decide)))
    refine w_aload_n dX11_at_13 rfl 0 rfl ?_
    refine w_getR (c' := (10, 0, 0)) fl_RX11_10 rfl rfl ic_11 dX11_at_14 rfl ?_
    refine w_getR (c' := (7, 0, 0)) fl_RX11_71 rfl rfl (ic_10 (by decide)) dX11_at_17 rfl ?_
    refine w_getR (c' := (35, 0, 0)) fl_RX11_124 rfl rfl (ic_7 (by decide)) dX11_at_20 rfl ?_
    refine w_iload_n dX11_at_23 rfl 1 rfl ?_
    refine w_iald rfl rfl (ic_35 (by decide)) (rfl : v.toInt = v.toInt) (lf_c_X11_at_0 v h4_) dX11_at_24 (fun j8_ h9_ z6_ e7_ => ?_)
    exact w_iret rfl dX11_at_25 ⟨hIz, hFz, trivial⟩
  · refine w_if_ne (tgt := 13) dX11_at_4 (by decide) li_0 (fun h9 => (absurd h9 (by decide))) (fun h10_ => ?_)
    refine w_aload_n dX11_at_7 rfl 0 rfl ?_
    refine w_iconst (v := 1) dX11_at_8 (by decide) ?_
    refine w_callV (as := [vI 1]) (rest := []) (c_X11_error l G cy ad d 1 Mz hIz) kV_X11_error (by decide +kernel) (Nat.le_of_ble_eq_true rfl) m_500 rfl rfl rfl ic_11 rfl rfl (by decide) (Nat.le_of_ble_eq_true rfl) dX11_at_9 (fun r11_ M12_ q13_ => ?_)
    obtain ⟨hI15_, hF16_, h14_⟩ := q13_
    have hF17_ := hFz.tr hF16_ (fun c k => (fun h => h.elim (fun h => (Or.inl ⟨h.1, h.2⟩)) (fun h => h.elim)))
    exact w_iret rfl dX11_at_12 ⟨hI15_, hF17_, trivial⟩
def S_c_X11_lays : rf → Nat → Prop := fun c k => (c.1 = 36 ∧ c.2.1 = 0) ∨ (c.1 = 37 ∧ c.2.1 = 0) ∨ (c.1 = 38 ∧ c.2.1 = 0) ∨ (c.1 = 39 ∧ c.2.1 = 0) ∨ (c.1 = 35 ∧ c.2.1 = 0) ∨ (c.1 = 7 ∧ c.2.1 = 0 ∧ k = 5) ∨ (c.1 = 44 ∧ c.2.1 = 0) ∨ False
theorem lf_c_X11_lays_0  (v : Int32) (h4_ : 0 ≤ v.toInt ∧ v.toInt ≤ 3) : 0 ≤ v.toInt ∧ v.toInt < ((4 : Nat) : Int) := by have r_v := rngI v; omega
theorem lf_c_X11_lays_1  (u : Int32) (h9_ : 0 ≤ u.toInt ∧ u.toInt ≤ 11) : -2147483648 ≤ 16 * u.toInt ∧ 16 * u.toInt < 2147483648 := by have r_u := rngI u; omega
theorem lf_c_X11_lays_2 (M_79 : mM) (Mz : mM) (v : Int32) (u : Int32) (j11_ : Nat) (z19_ : Int32) (z22_ : Int32) (v5_79 : Int32) (z27_ : Int32) (z36_ : Int32) (h4_ : 0 ≤ v.toInt ∧ v.toInt ≤ 3) (h9_ : 0 ≤ u.toInt ∧ u.toInt ≤ 11) (h12_ : (j11_ : Int) = v.toInt) (h13_ : j11_ < 4) (e20_ : z19_ = Mz.1 (6, 0, j11_) 0) (h21_ : z19_.toInt = 8) (e23_ : z22_ = Mz.1 (6, 0, j11_) 1) (h24_ : 0 ≤ z22_.toInt ∧ z22_.toInt ≤ 24) (h25_ : z22_.toInt ≤ 16) (hv0_79 : 0 ≤ v5_79.toInt) (e28_ : z27_ = M_79.1 (6, 0, j11_) 1) (h29_ : 0 ≤ z27_.toInt ∧ z27_.toInt ≤ 24) (h30_ : v5_79.toInt < z27_.toInt) (h37_ : z36_.toInt = 16 * u.toInt) : -2147483648 ≤ z36_.toInt + v5_79.toInt ∧ z36_.toInt + v5_79.toInt < 2147483648 := by have r_v := rngI v; have r_u := rngI u; have r_z19_ := rngI z19_; have r_z22_ := rngI z22_; have r_v5_79 := rngI v5_79; have r_z27_ := rngI z27_; have r_z36_ := rngI z36_; subst e20_; subst e23_; subst e28_; omega
theorem lf_c_X11_lays_3 (M_79 : mM) (Mz : mM) (v : Int32) (u : Int32) (j11_ : Nat) (z19_ : Int32) (z22_ : Int32) (v5_79 : Int32) (z27_ : Int32) (z36_ : Int32) (z38_ : Int32) (h4_ : 0 ≤ v.toInt ∧ v.toInt ≤ 3) (h9_ : 0 ≤ u.toInt ∧ u.toInt ≤ 11) (h12_ : (j11_ : Int) = v.toInt) (h13_ : j11_ < 4) (e20_ : z19_ = Mz.1 (6, 0, j11_) 0) (h21_ : z19_.toInt = 8) (e23_ : z22_ = Mz.1 (6, 0, j11_) 1) (h24_ : 0 ≤ z22_.toInt ∧ z22_.toInt ≤ 24) (h25_ : z22_.toInt ≤ 16) (hv0_79 : 0 ≤ v5_79.toInt) (e28_ : z27_ = M_79.1 (6, 0, j11_) 1) (h29_ : 0 ≤ z27_.toInt ∧ z27_.toInt ≤ 24) (h30_ : v5_79.toInt < z27_.toInt) (h37_ : z36_.toInt = 16 * u.toInt) (h39_ : z38_.toInt = z36_.toInt + v5_79.toInt) (h48_ : 0 ≤ z38_.toInt ∧ z38_.toInt ≤ 191) : -2147483648 ≤ v5_79.toInt + 1 ∧ v5_79.toInt + 1 < 2147483648 := by have r_v := rngI v; have r_u := rngI u; have r_z19_ := rngI z19_; have r_z22_ := rngI z22_; have r_v5_79 := rngI v5_79; have r_z27_ := rngI z27_; have r_z36_ := rngI z36_; have r_z38_ := rngI z38_; subst e20_; subst e23_; subst e28_; omega
theorem lf_c_X11_lays_4 (M_79 : mM) (Mz : mM) (v : Int32) (u : Int32) (j11_ : Nat) (z19_ : Int32) (z22_ : Int32) (v5_79 : Int32) (z27_ : Int32) (z36_ : Int32) (z38_ : Int32) (z55_ : Int32) (h4_ : 0 ≤ v.toInt ∧ v.toInt ≤ 3) (h9_ : 0 ≤ u.toInt ∧ u.toInt ≤ 11) (h12_ : (j11_ : Int) = v.toInt) (h13_ : j11_ < 4) (e20_ : z19_ = Mz.1 (6, 0, j11_) 0) (h21_ : z19_.toInt = 8) (e23_ : z22_ = Mz.1 (6, 0, j11_) 1) (h24_ : 0 ≤ z22_.toInt ∧ z22_.toInt ≤ 24) (h25_ : z22_.toInt ≤ 16) (hv0_79 : 0 ≤ v5_79.toInt) (e28_ : z27_ = M_79.1 (6, 0, j11_) 1) (h29_ : 0 ≤ z27_.toInt ∧ z27_.toInt ≤ 24) (h30_ : v5_79.toInt < z27_.toInt) (h37_ : z36_.toInt = 16 * u.toInt) (h39_ : z38_.toInt = z36_.toInt + v5_79.toInt) (h48_ : 0 ≤ z38_.toInt ∧ z38_.toInt ≤ 191) (h56_ : z55_.toInt = v5_79.toInt + 1) : 0 ≤ z55_.toInt := by have r_v := rngI v; have r_u := rngI u; have r_z19_ := rngI z19_; have r_z22_ := rngI z22_; have r_v5_79 := rngI v5_79; have r_z27_ := rngI z27_; have r_z36_ := rngI z36_; have r_z38_ := rngI z38_; have r_z55_ := rngI z55_; omega
theorem lf_c_X11_lays_5 (M_79 : mM) (Mz : mM) (v : Int32) (u : Int32) (j11_ : Nat) (z19_ : Int32) (z22_ : Int32) (v5_79 : Int32) (z27_ : Int32) (z36_ : Int32) (z38_ : Int32) (z55_ : Int32) (h4_ : 0 ≤ v.toInt ∧ v.toInt ≤ 3) (h9_ : 0 ≤ u.toInt ∧ u.toInt ≤ 11) (h12_ : (j11_ : Int) = v.toInt) (h13_ : j11_ < 4) (e20_ : z19_ = Mz.1 (6, 0, j11_) 0) (h21_ : z19_.toInt = 8) (e23_ : z22_ = Mz.1 (6, 0, j11_) 1) (h24_ : 0 ≤ z22_.toInt ∧ z22_.toInt ≤ 24) (h25_ : z22_.toInt ≤ 16) (hv0_79 : 0 ≤ v5_79.toInt) (e28_ : z27_ = M_79.1 (6, 0, j11_) 1) (h29_ : 0 ≤ z27_.toInt ∧ z27_.toInt ≤ 24) (h30_ : v5_79.toInt < z27_.toInt) (h37_ : z36_.toInt = 16 * u.toInt) (h39_ : z38_.toInt = z36_.toInt + v5_79.toInt) (h48_ : 0 ≤ z38_.toInt ∧ z38_.toInt ≤ 191) (h56_ : z55_.toInt = v5_79.toInt + 1) : (2147483648 - z55_.toInt).toNat < (2147483648 - v5_79.toInt).toNat := by have r_v := rngI v; have r_u := rngI u; have r_z19_ := rngI z19_; have r_z22_ := rngI z22_; have r_v5_79 := rngI v5_79; have r_z27_ := rngI z27_; have r_z36_ := rngI z36_; have r_z38_ := rngI z38_; have r_z55_ := rngI z55_; omega
theorem lf_c_X11_lays_6 (M_79 : mM) (Mz : mM) (v : Int32) (u : Int32) (j11_ : Nat) (z19_ : Int32) (z22_ : Int32) (v5_79 : Int32) (z27_ : Int32) (z36_ : Int32) (z38_ : Int32) (h4_ : 0 ≤ v.toInt ∧ v.toInt ≤ 3) (h9_ : 0 ≤ u.toInt ∧ u.toInt ≤ 11) (h12_ : (j11_ : Int) = v.toInt) (h13_ : j11_ < 4) (e20_ : z19_ = Mz.1 (6, 0, j11_) 0) (h21_ : z19_.toInt = 8) (e23_ : z22_ = Mz.1 (6, 0, j11_) 1) (h24_ : 0 ≤ z22_.toInt ∧ z22_.toInt ≤ 24) (h25_ : z22_.toInt ≤ 16) (hv0_79 : 0 ≤ v5_79.toInt) (e28_ : z27_ = M_79.1 (6, 0, j11_) 1) (h29_ : 0 ≤ z27_.toInt ∧ z27_.toInt ≤ 24) (h30_ : v5_79.toInt < z27_.toInt) (h37_ : z36_.toInt = 16 * u.toInt) (h39_ : z38_.toInt = z36_.toInt + v5_79.toInt) (h48_ : 0 ≤ z38_.toInt ∧ z38_.toInt ≤ 191) : -2147483648 ≤ v5_79.toInt + 1 ∧ v5_79.toInt + 1 < 2147483648 := by have r_v := rngI v; have r_u := rngI u; have r_z19_ := rngI z19_; have r_z22_ := rngI z22_; have r_v5_79 := rngI v5_79; have r_z27_ := rngI z27_; have r_z36_ := rngI z36_; have r_z38_ := rngI z38_; subst e20_; subst e23_; subst e28_; omega
theorem lf_c_X11_lays_7 (M_79 : mM) (Mz : mM) (v : Int32) (u : Int32) (j11_ : Nat) (z19_ : Int32) (z22_ : Int32) (v5_79 : Int32) (z27_ : Int32) (z36_ : Int32) (z38_ : Int32) (z65_ : Int32) (h4_ : 0 ≤ v.toInt ∧ v.toInt ≤ 3) (h9_ : 0 ≤ u.toInt ∧ u.toInt ≤ 11) (h12_ : (j11_ : Int) = v.toInt) (h13_ : j11_ < 4) (e20_ : z19_ = Mz.1 (6, 0, j11_) 0) (h21_ : z19_.toInt = 8) (e23_ : z22_ = Mz.1 (6, 0, j11_) 1) (h24_ : 0 ≤ z22_.toInt ∧ z22_.toInt ≤ 24) (h25_ : z22_.toInt ≤ 16) (hv0_79 : 0 ≤ v5_79.toInt) (e28_ : z27_ = M_79.1 (6, 0, j11_) 1) (h29_ : 0 ≤ z27_.toInt ∧ z27_.toInt ≤ 24) (h30_ : v5_79.toInt < z27_.toInt) (h37_ : z36_.toInt = 16 * u.toInt) (h39_ : z38_.toInt = z36_.toInt + v5_79.toInt) (h48_ : 0 ≤ z38_.toInt ∧ z38_.toInt ≤ 191) (h66_ : z65_.toInt = v5_79.toInt + 1) : 0 ≤ z65_.toInt := by have r_v := rngI v; have r_u := rngI u; have r_z19_ := rngI z19_; have r_z22_ := rngI z22_; have r_v5_79 := rngI v5_79; have r_z27_ := rngI z27_; have r_z36_ := rngI z36_; have r_z38_ := rngI z38_; have r_z65_ := rngI z65_; omega
theorem lf_c_X11_lays_8 (M_79 : mM) (Mz : mM) (v : Int32) (u : Int32) (j11_ : Nat) (z19_ : Int32) (z22_ : Int32) (v5_79 : Int32) (z27_ : Int32) (z36_ : Int32) (z38_ : Int32) (z65_ : Int32) (h4_ : 0 ≤ v.toInt ∧ v.toInt ≤ 3) (h9_ : 0 ≤ u.toInt ∧ u.toInt ≤ 11) (h12_ : (j11_ : Int) = v.toInt) (h13_ : j11_ < 4) (e20_ : z19_ = Mz.1 (6, 0, j11_) 0) (h21_ : z19_.toInt = 8) (e23_ : z22_ = Mz.1 (6, 0, j11_) 1) (h24_ : 0 ≤ z22_.toInt ∧ z22_.toInt ≤ 24) (h25_ : z22_.toInt ≤ 16) (hv0_79 : 0 ≤ v5_79.toInt) (e28_ : z27_ = M_79.1 (6, 0, j11_) 1) (h29_ : 0 ≤ z27_.toInt ∧ z27_.toInt ≤ 24) (h30_ : v5_79.toInt < z27_.toInt) (h37_ : z36_.toInt = 16 * u.toInt) (h39_ : z38_.toInt = z36_.toInt + v5_79.toInt) (h48_ : 0 ≤ z38_.toInt ∧ z38_.toInt ≤ 191) (h66_ : z65_.toInt = v5_79.toInt + 1) : (2147483648 - z65_.toInt).toNat < (2147483648 - v5_79.toInt).toNat := by have r_v := rngI v; have r_u := rngI u; have r_z19_ := rngI z19_; have r_z22_ := rngI z22_; have r_v5_79 := rngI v5_79; have r_z27_ := rngI z27_; have r_z36_ := rngI z36_; have r_z38_ := rngI z38_; have r_z65_ := rngI z65_; omega
theorem lf_c_X11_lays_9 (M_79 : mM) (Mz : mM) (v : Int32) (u : Int32) (j11_ : Nat) (z19_ : Int32) (z22_ : Int32) (v5_79 : Int32) (z27_ : Int32) (z36_ : Int32) (z38_ : Int32) (h4_ : 0 ≤ v.toInt ∧ v.toInt ≤ 3) (h9_ : 0 ≤ u.toInt ∧ u.toInt ≤ 11) (h12_ : (j11_ : Int) = v.toInt) (h13_ : j11_ < 4) (e20_ : z19_ = Mz.1 (6, 0, j11_) 0) (h21_ : z19_.toInt = 8) (e23_ : z22_ = Mz.1 (6, 0, j11_) 1) (h24_ : 0 ≤ z22_.toInt ∧ z22_.toInt ≤ 24) (h25_ : z22_.toInt ≤ 16) (hv0_79 : 0 ≤ v5_79.toInt) (e28_ : z27_ = M_79.1 (6, 0, j11_) 1) (h29_ : 0 ≤ z27_.toInt ∧ z27_.toInt ≤ 24) (h30_ : v5_79.toInt < z27_.toInt) (h37_ : z36_.toInt = 16 * u.toInt) (h39_ : z38_.toInt = z36_.toInt + v5_79.toInt) : -2147483648 ≤ v5_79.toInt + 1 ∧ v5_79.toInt + 1 < 2147483648 := by have r_v := rngI v; have r_u := rngI u; have r_z19_ := rngI z19_; have r_z22_ := rngI z22_; have r_v5_79 := rngI v5_79; have r_z27_ := rngI z27_; have r_z36_ := rngI z36_; have r_z38_ := rngI z38_; subst e20_; subst e23_; subst e28_; omega
theorem lf_c_X11_lays_10 (M_79 : mM) (Mz : mM) (v : Int32) (u : Int32) (j11_ : Nat) (z19_ : Int32) (z22_ : Int32) (v5_79 : Int32) (z27_ : Int32) (z36_ : Int32) (z38_ : Int32) (z68_ : Int32) (h4_ : 0 ≤ v.toInt ∧ v.toInt ≤ 3) (h9_ : 0 ≤ u.toInt ∧ u.toInt ≤ 11) (h12_ : (j11_ : Int) = v.toInt) (h13_ : j11_ < 4) (e20_ : z19_ = Mz.1 (6, 0, j11_) 0) (h21_ : z19_.toInt = 8) (e23_ : z22_ = Mz.1 (6, 0, j11_) 1) (h24_ : 0 ≤ z22_.toInt ∧ z22_.toInt ≤ 24) (h25_ : z22_.toInt ≤ 16) (hv0_79 : 0 ≤ v5_79.toInt) (e28_ : z27_ = M_79.1 (6, 0, j11_) 1) (h29_ : 0 ≤ z27_.toInt ∧ z27_.toInt ≤ 24) (h30_ : v5_79.toInt < z27_.toInt) (h37_ : z36_.toInt = 16 * u.toInt) (h39_ : z38_.toInt = z36_.toInt + v5_79.toInt) (h69_ : z68_.toInt = v5_79.toInt + 1) : 0 ≤ z68_.toInt := by have r_v := rngI v; have r_u := rngI u; have r_z19_ := rngI z19_; have r_z22_ := rngI z22_; have r_v5_79 := rngI v5_79; have r_z27_ := rngI z27_; have r_z36_ := rngI z36_; have r_z38_ := rngI z38_; have r_z68_ := rngI z68_; omega
theorem lf_c_X11_lays_11 (M_79 : mM) (Mz : mM) (v : Int32) (u : Int32) (j11_ : Nat) (z19_ : Int32) (z22_ : Int32) (v5_79 : Int32) (z27_ : Int32) (z36_ : Int32) (z38_ : Int32) (z68_ : Int32) (h4_ : 0 ≤ v.toInt ∧ v.toInt ≤ 3) (h9_ : 0 ≤ u.toInt ∧ u.toInt ≤ 11) (h12_ : (j11_ : Int) = v.toInt) (h13_ : j11_ < 4) (e20_ : z19_ = Mz.1 (6, 0, j11_) 0) (h21_ : z19_.toInt = 8) (e23_ : z22_ = Mz.1 (6, 0, j11_) 1) (h24_ : 0 ≤ z22_.toInt ∧ z22_.toInt ≤ 24) (h25_ : z22_.toInt ≤ 16) (hv0_79 : 0 ≤ v5_79.toInt) (e28_ : z27_ = M_79.1 (6, 0, j11_) 1) (h29_ : 0 ≤ z27_.toInt ∧ z27_.toInt ≤ 24) (h30_ : v5_79.toInt < z27_.toInt) (h37_ : z36_.toInt = 16 * u.toInt) (h39_ : z38_.toInt = z36_.toInt + v5_79.toInt) (h69_ : z68_.toInt = v5_79.toInt + 1) : (2147483648 - z68_.toInt).toNat < (2147483648 - v5_79.toInt).toNat := by have r_v := rngI v; have r_u := rngI u; have r_z19_ := rngI z19_; have r_z22_ := rngI z22_; have r_v5_79 := rngI v5_79; have r_z27_ := rngI z27_; have r_z36_ := rngI z36_; have r_z38_ := rngI z38_; have r_z68_ := rngI z68_; omega
theorem lf_c_X11_lays_12 (M_79 : mM) (Mz : mM) (v : Int32) (u : Int32) (j11_ : Nat) (z19_ : Int32) (z22_ : Int32) (v5_79 : Int32) (z27_ : Int32) (z36_ : Int32) (z38_ : Int32) (h4_ : 0 ≤ v.toInt ∧ v.toInt ≤ 3) (h9_ : 0 ≤ u.toInt ∧ u.toInt ≤ 11) (h12_ : (j11_ : Int) = v.toInt) (h13_ : j11_ < 4) (e20_ : z19_ = Mz.1 (6, 0, j11_) 0) (h21_ : z19_.toInt = 8) (e23_ : z22_ = Mz.1 (6, 0, j11_) 1) (h24_ : 0 ≤ z22_.toInt ∧ z22_.toInt ≤ 24) (h25_ : z22_.toInt ≤ 16) (hv0_79 : 0 ≤ v5_79.toInt) (e28_ : z27_ = M_79.1 (6, 0, j11_) 1) (h29_ : 0 ≤ z27_.toInt ∧ z27_.toInt ≤ 24) (h30_ : v5_79.toInt < z27_.toInt) (h37_ : z36_.toInt = 16 * u.toInt) (h39_ : z38_.toInt = z36_.toInt + v5_79.toInt) : -2147483648 ≤ v5_79.toInt + 1 ∧ v5_79.toInt + 1 < 2147483648 := by have r_v := rngI v; have r_u := rngI u; have r_z19_ := rngI z19_; have r_z22_ := rngI z22_; have r_v5_79 := rngI v5_79; have r_z27_ := rngI z27_; have r_z36_ := rngI z36_; have r_z38_ := rngI z38_; subst e20_; subst e23_; subst e28_; omega
theorem lf_c_X11_lays_13 (M_79 : mM) (Mz : mM) (v : Int32) (u : Int32) (j11_ : Nat) (z19_ : Int32) (z22_ : Int32) (v5_79 : Int32) (z27_ : Int32) (z36_ : Int32) (z38_ : Int32) (z71_ : Int32) (h4_ : 0 ≤ v.toInt ∧ v.toInt ≤ 3) (h9_ : 0 ≤ u.toInt ∧ u.toInt ≤ 11) (h12_ : (j11_ : Int) = v.toInt) (h13_ : j11_ < 4) (e20_ : z19_ = Mz.1 (6, 0, j11_) 0) (h21_ : z19_.toInt = 8) (e23_ : z22_ = Mz.1 (6, 0, j11_) 1) (h24_ : 0 ≤ z22_.toInt ∧ z22_.toInt ≤ 24) (h25_ : z22_.toInt ≤ 16) (hv0_79 : 0 ≤ v5_79.toInt) (e28_ : z27_ = M_79.1 (6, 0, j11_) 1) (h29_ : 0 ≤ z27_.toInt ∧ z27_.toInt ≤ 24) (h30_ : v5_79.toInt < z27_.toInt) (h37_ : z36_.toInt = 16 * u.toInt) (h39_ : z38_.toInt = z36_.toInt + v5_79.toInt) (h72_ : z71_.toInt = v5_79.toInt + 1) : 0 ≤ z71_.toInt := by have r_v := rngI v; have r_u := rngI u; have r_z19_ := rngI z19_; have r_z22_ := rngI z22_; have r_v5_79 := rngI v5_79; have r_z27_ := rngI z27_; have r_z36_ := rngI z36_; have r_z38_ := rngI z38_; have r_z71_ := rngI z71_; omega
theorem lf_c_X11_lays_14 (M_79 : mM) (Mz : mM) (v : Int32) (u : Int32) (j11_ : Nat) (z19_ : Int32) (z22_ : Int32) (v5_79 : Int32) (z27_ : Int32) (z36_ : Int32) (z38_ : Int32) (z71_ : Int32) (h4_ : 0 ≤ v.toInt ∧ v.toInt ≤ 3) (h9_ : 0 ≤ u.toInt ∧ u.toInt ≤ 11) (h12_ : (j11_ : Int) = v.toInt) (h13_ : j11_ < 4) (e20_ : z19_ = Mz.1 (6, 0, j11_) 0) (h21_ : z19_.toInt = 8) (e23_ : z22_ = Mz.1 (6, 0, j11_) 1) (h24_ : 0 ≤ z22_.toInt ∧ z22_.toInt ≤ 24) (h25_ : z22_.toInt ≤ 16) (hv0_79 : 0 ≤ v5_79.toInt) (e28_ : z27_ = M_79.1 (6, 0, j11_) 1) (h29_ : 0 ≤ z27_.toInt ∧ z27_.toInt ≤ 24) (h30_ : v5_79.toInt < z27_.toInt) (h37_ : z36_.toInt = 16 * u.toInt) (h39_ : z38_.toInt = z36_.toInt + v5_79.toInt) (h72_ : z71_.toInt = v5_79.toInt + 1) : (2147483648 - z71_.toInt).toNat < (2147483648 - v5_79.toInt).toNat := by have r_v := rngI v; have r_u := rngI u; have r_z19_ := rngI z19_; have r_z22_ := rngI z22_; have r_v5_79 := rngI v5_79; have r_z27_ := rngI z27_; have r_z36_ := rngI z36_; have r_z38_ := rngI z38_; have r_z71_ := rngI z71_; omega
theorem lf_c_X11_lays_15    : 0 ≤ (0 : Int32).toInt := by have q0 := li_0; omega
set_option maxHeartbeats 4000000 in
set_option maxRecDepth 100000 in
theorem c_X11_lays (l : Launch) (G : va_G) (cy : Nat → ClassId) (ad : rf → Nat) (d : Nat) (v : Int32) (u : Int32) (Mz : mM) (hIz : Inv Mz) : WP CC l G cy ad yX11_lays cX11_lays 8 (some .int) (d + 3) 0 [(0, vR (11, 0, 0)), (1, vI v), (2, vI u)] [] Mz (fun r M' => Inv M' ∧ FR (S_c_X11_lays) Mz M' ∧ True) := by
  have hFz : FR (S_c_X11_lays) Mz Mz := FR.self
  refine w_iload_n dX11_lays_0 rfl 1 rfl ?_
  refine w_callS (as := [vI v]) (rest := []) (c_X11_isSheet l G cy ad (d + 1) v Mz hIz) kS_X11_isSheet (by decide +kernel) (Nat.le_of_ble_eq_true rfl) m_566 rfl rfl (by decide) (Nat.le_of_ble_eq_true rfl) dX11_lays_1 (fun r1_ M2_ q3_ => ?_)
  obtain ⟨rfl, h4_⟩ := q3_
  rcases h4_ with ⟨rfl, h4_⟩ | ⟨rfl, h4_⟩
  · refine w_if_eq (tgt := 17) dX11_lays_4 (by decide) li_1 (fun h9 => (absurd h9 (by decide))) (fun h5_ => ?_)
    refine w_iload_n dX11_lays_7 rfl 2 rfl ?_
    refine w_iconst (v := 0) dX11_lays_8 (by decide) ?_
    refine w_bipush (v := 11) dX11_lays_9 (by decide) ?_
    refine w_callS (as := [vI u, vI 0, vI 11]) (rest := []) (c_X11_within l G cy ad (d + 2) u 0 11 Mz hIz) kS_X11_within (by decide +kernel) (Nat.le_of_ble_eq_true rfl) m_494 rfl rfl (by decide) (Nat.le_of_ble_eq_true rfl) dX11_lays_11 (fun r6_ M7_ q8_ => ?_)
    obtain ⟨rfl, h9_⟩ := q8_
    rcases h9_ with ⟨rfl, h9_⟩ | ⟨rfl, h9_⟩
    · simp only [li_0, li_11] at h9_
      refine w_if_ne (tgt := 23) dX11_lays_14 (by decide) li_1 (fun h10_ => ?_) (fun h9 => (absurd h9 (by decide)))
      refine w_aload_n dX11_lays_23 rfl 0 rfl ?_
      refine w_getR (c' := (43, 0, 0)) fl_RX11_24 rfl rfl ic_11 dX11_lays_24 rfl ?_
      refine w_iload_n dX11_lays_27 rfl 1 rfl ?_
      refine w_aald rfl rfl rfl (fun _ => rfl) ic_43 (rfl : v.toInt = v.toInt) (lf_c_X11_lays_0 v h4_) dX11_lays_28 (fun j11_ h12_ h13_ => ?_)
      refine w_astore_n (ls' := [(3, vR (6, 0, j11_)), (0, vR (11, 0, 0)), (1, vI v), (2, vI u)]) dX11_lays_29 rfl (by decide) rfl ?_
      refine w_aload_n dX11_lays_30 rfl 0 rfl ?_
      refine w_callV (as := []) (rest := []) (c_X6_isMissing l G cy ad (d + 2) j11_ Mz hIz h13_) kV_X6_isMissing (by decide +kernel) (Nat.le_of_ble_eq_true rfl) m_569 rfl rfl rfl (ic_6 h13_) rfl rfl (by decide) (Nat.le_of_ble_eq_true rfl) dX11_lays_31 (fun r14_ M15_ q16_ => ?_)
      obtain ⟨rfl, h17_⟩ := q16_
      refine w_if_eq (tgt := 43) dX11_lays_34 (by decide) (rfl : r14_.toInt = r14_.toInt) (fun h18_ => ?_) (fun h18_ => ?_)
      · refine w_aload_n dX11_lays_43 rfl 0 rfl ?_
        refine w_getI fl_RX11_133 rfl rfl (ic_6 h13_) dX11_lays_44 (fun z19_ e20_ => ?_)
        refine w_bipush (v := 8) dX11_lays_47 (by decide) ?_
        refine w_icmp_eq (tgt := 58) dX11_lays_49 (by decide) (rfl : z19_.toInt = z19_.toInt) li_8 (fun h21_ => ?_) (fun h21_ => ?_)
        · refine w_aload_n dX11_lays_58 rfl 0 rfl ?_
          refine w_getI fl_RX11_136 rfl rfl (ic_6 h13_) dX11_lays_59 (fun z22_ e23_ => ?_)
          have h24_ : 0 ≤ z22_.toInt ∧ z22_.toInt ≤ 24 := ofEq (P := fun v => 0 ≤ v.toInt ∧ v.toInt ≤ 24) e23_ (hIz (6, 0, j11_) 1 rfl)
          refine w_bipush (v := 16) dX11_lays_62 (by decide) ?_
          refine w_icmp_le (tgt := 73) dX11_lays_64 (by decide) (rfl : z22_.toInt = z22_.toInt) li_16 (fun h25_ => ?_) (fun h25_ => ?_)
          · refine w_iconst (v := 0) dX11_lays_73 (by decide) ?_
            refine w_istore (ls' := [(4, vI 0), (3, vR (6, 0, j11_)), (0, vR (11, 0, 0)), (1, vI v), (2, vI u)]) dX11_lays_74 (by decide) rfl ?_
            refine w_iconst (v := 0) dX11_lays_76 (by decide) ?_
            refine w_istore (ls' := [(5, vI 0), (4, vI 0), (3, vR (6, 0, j11_)), (0, vR (11, 0, 0)), (1, vI v), (2, vI u)]) dX11_lays_77 (by decide) rfl ?_
            have lp26_ : ∀ (nn_79 : Nat) (M_79 : mM) (hI_79 : Inv M_79) (hF_79 : FR (S_c_X11_lays) Mz M_79) (v5_79 : Int32) (v4_79 : Int32) (hv0_79 : 0 ≤ v5_79.toInt), (2147483648 - v5_79.toInt).toNat < nn_79 → WP CC l G cy ad yX11_lays cX11_lays 8 (some .int) (d + 3) 79 [(5, vI v5_79), (4, vI v4_79), (3, vR (6, 0, j11_)), (0, vR (11, 0, 0)), (1, vI v), (2, vI u)] [] M_79 (fun r M' => Inv M' ∧ FR (S_c_X11_lays) Mz M' ∧ True) := by
              intro nn_79
              induction nn_79 with
              | zero => intro M_79 hI_79 hF_79 v5_79 v4_79 hv0_79 hm_79; exact absurd hm_79 (Nat.not_lt_zero _)
              | succ nn_79 ih_79 =>
                intro M_79 hI_79 hF_79 v5_79 v4_79 hv0_79 hm_79
                refine w_iload dX11_lays_79 0 rfl ?_
                refine w_aload_n dX11_lays_81 rfl 2 rfl ?_
                refine w_getI fl_RX11_136 rfl rfl (ic_6 h13_) dX11_lays_82 (fun z27_ e28_ => ?_)
                have h29_ : 0 ≤ z27_.toInt ∧ z27_.toInt ≤ 24 := ofEq (P := fun v => 0 ≤ v.toInt ∧ v.toInt ≤ 24) e28_ (hI_79 (6, 0, j11_) 1 rfl)
                refine w_icmp_ge (tgt := 167) dX11_lays_85 (by decide) (rfl : v5_79.toInt = v5_79.toInt) (rfl : z27_.toInt = z27_.toInt) (fun h30_ => ?_) (fun h30_ => ?_)
                · refine w_iload dX11_lays_167 1 rfl ?_
                  exact w_iret rfl dX11_lays_169 ⟨hI_79, hF_79, trivial⟩
                · refine w_aload_n dX11_lays_88 rfl 2 rfl ?_
                  refine w_iload dX11_lays_89 0 rfl ?_
                  refine w_callV (as := [vI v5_79]) (rest := []) (c_X6_numberAt l G cy ad (d + 1) j11_ v5_79 M_79 hI_79 h13_) kV_X6_numberAt (by decide +kernel) (Nat.le_of_ble_eq_true rfl) m_573 rfl rfl rfl (ic_6 h13_) rfl rfl (by decide) (Nat.le_of_ble_eq_true rfl) dX11_lays_91 (fun r31_ M32_ q33_ => ?_)
                  obtain ⟨rfl, h34_⟩ := q33_
                  refine w_iconst (v := 1) dX11_lays_94 (by decide) ?_
                  refine w_isub dX11_lays_95 (fun z35_ _ => ?_)
                  refine w_istore (ls' := [(6, vI z35_), (5, vI v5_79), (4, vI v4_79), (3, vR (6, 0, j11_)), (0, vR (11, 0, 0)), (1, vI v), (2, vI u)]) dX11_lays_96 (by decide) rfl ?_
                  refine w_bipush (v := 16) dX11_lays_98 (by decide) ?_
                  refine w_iload_n dX11_lays_100 rfl 6 rfl ?_
                  refine w_imulB dX11_lays_101 li_16 (rfl : u.toInt = u.toInt) (lf_c_X11_lays_1 u h9_) (fun z36_ h37_ => ?_)
                  refine w_iload dX11_lays_102 1 rfl ?_
                  refine w_iaddB dX11_lays_104 (rfl : z36_.toInt = z36_.toInt) (rfl : v5_79.toInt = v5_79.toInt) (lf_c_X11_lays_2 M_79 Mz v u j11_ z19_ z22_ v5_79 z27_ z36_ h4_ h9_ h12_ h13_ e20_ h21_ e23_ h24_ h25_ hv0_79 e28_ h29_ h30_ h37_) (fun z38_ h39_ => ?_)
                  refine w_istore (ls' := [(7, vI z38_), (6, vI z35_), (5, vI v5_79), (4, vI v4_79), (3, vR (6, 0, j11_)), (0, vR (11, 0, 0)), (1, vI v), (2, vI u)]) dX11_lays_105 (by decide) rfl ?_
                  refine w_iload dX11_lays_107 1 rfl ?_
                  refine w_callS (as := [vI z35_]) (rest := []) (c_X11_isThingKind l G cy ad (d + 1) z35_ M_79 hI_79) kS_X11_isThingKind (by decide +kernel) (Nat.le_of_ble_eq_true rfl) m_491 rfl rfl (by decide) (Nat.le_of_ble_eq_true rfl) dX11_lays_109 (fun r40_ M41_ q42_ => ?_)
                  obtain ⟨rfl, h43_⟩ := q42_
                  rcases h43_ with ⟨rfl, h43_⟩ | ⟨rfl, h43_⟩
                  · refine w_if_eq (tgt := 161) dX11_lays_112 (by decide) li_1 (fun h9 => (absurd h9 (by decide))) (fun h44_ => ?_)
                    refine w_aload_n dX11_lays_115 rfl 5 rfl ?_
                    refine w_getR (c' := (10, 0, 0)) fl_RX11_10 rfl rfl ic_11 dX11_lays_116 rfl ?_
                    refine w_getR (c' := (7, 0, 0)) fl_RX11_71 rfl rfl (ic_10 (by decide)) dX11_lays_119 rfl ?_
                    refine w_iload dX11_lays_122 0 rfl ?_
                    refine w_callV (as := [vI z38_]) (rest := []) (c_X7_isFree l G cy ad (d + 1) 0 z38_ M_79 hI_79 (by first | decide | (unfold vF; omega) | (unfold vRw; omega))) kV_X7_isFree (by decide +kernel) (Nat.le_of_ble_eq_true rfl) m_505 rfl rfl rfl (ic_7 (by decide)) rfl rfl (by decide) (Nat.le_of_ble_eq_true rfl) dX11_lays_124 (fun r45_ M46_ q47_ => ?_)
                    obtain ⟨rfl, h48_⟩ := q47_
                    rcases h48_ with ⟨rfl, h48_⟩ | rfl
                    · refine w_if_eq (tgt := 161) dX11_lays_127 (by decide) li_1 (fun h9 => (absurd h9 (by decide))) (fun h49_ => ?_)
                      refine w_aload_n dX11_lays_130 rfl 5 rfl ?_
                      refine w_getR (c' := (10, 0, 0)) fl_RX11_10 rfl rfl ic_11 dX11_lays_131 rfl ?_
                      refine w_getR (c' := (7, 0, 0)) fl_RX11_71 rfl rfl (ic_10 (by decide)) dX11_lays_134 rfl ?_
                      refine w_callV (as := []) (rest := []) (c_X7_hasRoom l G cy ad (d + 2) 0 M_79 hI_79 (by first | decide | (unfold vF; omega) | (unfold vRw; omega))) kV_X7_hasRoom (by decide +kernel) (Nat.le_of_ble_eq_true rfl) m_510 rfl rfl rfl (ic_7 (by decide)) rfl rfl (by decide) (Nat.le_of_ble_eq_true rfl) dX11_lays_137 (fun r50_ M51_ q52_ => ?_)
                      obtain ⟨rfl, h53_⟩ := q52_
                      refine w_if_eq (tgt := 161) dX11_lays_140 (by decide) (rfl : r50_.toInt = r50_.toInt) (fun h54_ => ?_) (fun h54_ => ?_)
                      · refine w_iincB (j := 2) (f := fun z55_ => [(5, vI z55_), (7, vI z38_), (6, vI z35_), (4, vI v4_79), (3, vR (6, 0, j11_)), (0, vR (11, 0, 0)), (1, vI v), (2, vI u)]) dX11_lays_161 rfl (by decide) (fun _ => rfl) (rfl : v5_79.toInt = v5_79.toInt) li_1 (lf_c_X11_lays_3 M_79 Mz v u j11_ z19_ z22_ v5_79 z27_ z36_ z38_ h4_ h9_ h12_ h13_ e20_ h21_ e23_ h24_ h25_ hv0_79 e28_ h29_ h30_ h37_ h39_ h48_) (fun z55_ h56_ => ?_)
                        refine w_goto (tgt := 79) dX11_lays_164 (by decide) ?_
                        refine w_loc (ls' := [(5, vI z55_), (4, vI v4_79), (3, vR (6, 0, j11_)), (0, vR (11, 0, 0)), (1, vI v), (2, vI u)]) [0, 3, 4, 5, 6, 7] rfl ?_
                        exact ih_79 M_79 hI_79 hF_79 z55_ v4_79 (lf_c_X11_lays_4 M_79 Mz v u j11_ z19_ z22_ v5_79 z27_ z36_ z38_ z55_ h4_ h9_ h12_ h13_ e20_ h21_ e23_ h24_ h25_ hv0_79 e28_ h29_ h30_ h37_ h39_ h48_ h56_) (Nat.lt_of_lt_of_le (lf_c_X11_lays_5 M_79 Mz v u j11_ z19_ z22_ v5_79 z27_ z36_ z38_ z55_ h4_ h9_ h12_ h13_ e20_ h21_ e23_ h24_ h25_ hv0_79 e28_ h29_ h30_ h37_ h39_ h48_ h56_) (Nat.le_of_lt_succ hm_79))
                      · refine w_aload_n dX11_lays_143 rfl 5 rfl ?_
                        refine w_getR (c' := (10, 0, 0)) fl_RX11_10 rfl rfl ic_11 dX11_lays_144 rfl ?_
                        refine w_getR (c' := (7, 0, 0)) fl_RX11_71 rfl rfl (ic_10 (by decide)) dX11_lays_147 rfl ?_
                        refine w_iload dX11_lays_150 1 rfl ?_
                        refine w_iload dX11_lays_152 0 rfl ?_
                        refine w_callV (as := [vI z35_, vI z38_]) (rest := []) (c_X7_addThing l G cy ad d 0 z35_ z38_ M_79 hI_79 (by first | decide | (unfold vF; omega) | (unfold vRw; omega))) kV_X7_addThing (by decide +kernel) (Nat.le_of_ble_eq_true rfl) m_514 rfl rfl rfl (ic_7 (by decide)) rfl rfl (by decide) (Nat.le_of_ble_eq_true rfl) dX11_lays_154 (fun r57_ M58_ q59_ => ?_)
                        obtain ⟨hI61_, hF62_, h60_⟩ := q59_
                        have hF63_ := hF_79.tr hF62_ (fun c k => (fun h => h.elim (fun h => (Or.inl ⟨h.1, h.2⟩)) (fun h => h.elim (fun h => (Or.inr (Or.inl ⟨h.1, h.2⟩))) (fun h => h.elim (fun h => (Or.inr (Or.inr (Or.inl ⟨h.1, h.2⟩)))) (fun h => h.elim (fun h => (Or.inr (Or.inr (Or.inr (Or.inl ⟨h.1, h.2⟩))))) (fun h => h.elim (fun h => (Or.inr (Or.inr (Or.inr (Or.inr (Or.inl ⟨h.1, h.2⟩)))))) (fun h => h.elim (fun h => (Or.inr (Or.inr (Or.inr (Or.inr (Or.inr (Or.inl ⟨h.1, h.2.1, h.2.2⟩))))))) (fun h => h.elim))))))))
                        refine w_pop dX11_lays_157 rfl ?_
                        refine w_iincU (j := 3) (f := fun z64_ => [(4, vI z64_), (7, vI z38_), (6, vI z35_), (5, vI v5_79), (3, vR (6, 0, j11_)), (0, vR (11, 0, 0)), (1, vI v), (2, vI u)]) dX11_lays_158 rfl (by decide) (fun _ => rfl) (fun z64_ => ?_)
                        refine w_iincB (j := 3) (f := fun z65_ => [(5, vI z65_), (4, vI z64_), (7, vI z38_), (6, vI z35_), (3, vR (6, 0, j11_)), (0, vR (11, 0, 0)), (1, vI v), (2, vI u)]) dX11_lays_161 rfl (by decide) (fun _ => rfl) (rfl : v5_79.toInt = v5_79.toInt) li_1 (lf_c_X11_lays_6 M_79 Mz v u j11_ z19_ z22_ v5_79 z27_ z36_ z38_ h4_ h9_ h12_ h13_ e20_ h21_ e23_ h24_ h25_ hv0_79 e28_ h29_ h30_ h37_ h39_ h48_) (fun z65_ h66_ => ?_)
                        refine w_goto (tgt := 79) dX11_lays_164 (by decide) ?_
                        refine w_loc (ls' := [(5, vI z65_), (4, vI z64_), (3, vR (6, 0, j11_)), (0, vR (11, 0, 0)), (1, vI v), (2, vI u)]) [0, 1, 4, 5, 6, 7] rfl ?_
                        exact ih_79 M58_ hI61_ hF63_ z65_ z64_ (lf_c_X11_lays_7 M_79 Mz v u j11_ z19_ z22_ v5_79 z27_ z36_ z38_ z65_ h4_ h9_ h12_ h13_ e20_ h21_ e23_ h24_ h25_ hv0_79 e28_ h29_ h30_ h37_ h39_ h48_ h66_) (Nat.lt_of_lt_of_le (lf_c_X11_lays_8 M_79 Mz v u j11_ z19_ z22_ v5_79 z27_ z36_ z38_ z65_ h4_ h9_ h12_ h13_ e20_ h21_ e23_ h24_ h25_ hv0_79 e28_ h29_ h30_ h37_ h39_ h48_ h66_) (Nat.le_of_lt_succ hm_79))
                    · refine w_if_eq (tgt := 161) dX11_lays_127 (by decide) li_0 (fun h67_ => ?_) (fun h9 => (absurd h9 (by decide)))
                      refine w_iincB (j := 2) (f := fun z68_ => [(5, vI z68_), (7, vI z38_), (6, vI z35_), (4, vI v4_79), (3, vR (6, 0, j11_)), (0, vR (11, 0, 0)), (1, vI v), (2, vI u)]) dX11_lays_161 rfl (by decide) (fun _ => rfl) (rfl : v5_79.toInt = v5_79.toInt) li_1 (lf_c_X11_lays_9 M_79 Mz v u j11_ z19_ z22_ v5_79 z27_ z36_ z38_ h4_ h9_ h12_ h13_ e20_ h21_ e23_ h24_ h25_ hv0_79 e28_ h29_ h30_ h37_ h39_) (fun z68_ h69_ => ?_)
                      refine w_goto (tgt := 79) dX11_lays_164 (by decide) ?_
                      refine w_loc (ls' := [(5, vI z68_), (4, vI v4_79), (3, vR (6, 0, j11_)), (0, vR (11, 0, 0)), (1, vI v), (2, vI u)]) [0, 3, 4, 5, 6, 7] rfl ?_
                      exact ih_79 M_79 hI_79 hF_79 z68_ v4_79 (lf_c_X11_lays_10 M_79 Mz v u j11_ z19_ z22_ v5_79 z27_ z36_ z38_ z68_ h4_ h9_ h12_ h13_ e20_ h21_ e23_ h24_ h25_ hv0_79 e28_ h29_ h30_ h37_ h39_ h69_) (Nat.lt_of_lt_of_le (lf_c_X11_lays_11 M_79 Mz v u j11_ z19_ z22_ v5_79 z27_ z36_ z38_ z68_ h4_ h9_ h12_ h13_ e20_ h21_ e23_ h24_ h25_ hv0_79 e28_ h29_ h30_ h37_ h39_ h69_) (Nat.le_of_lt_succ hm_79))
                  · refine w_if_eq (tgt := 161) dX11_lays_112 (by decide) li_0 (fun h70_ => ?_) (fun h9 => (absurd h9 (by decide)))
                    refine w_iincB (j := 2) (f := fun z71_ => [(5, vI z71_), (7, vI z38_), (6, vI z35_), (4, vI v4_79), (3, vR (6, 0, j11_)), (0, vR (11, 0, 0)), (1, vI v), (2, vI u)]) dX11_lays_161 rfl (by decide) (fun _ => rfl) (rfl : v5_79.toInt = v5_79.toInt) li_1 (lf_c_X11_lays_12 M_79 Mz v u j11_ z19_ z22_ v5_79 z27_ z36_ z38_ h4_ h9_ h12_ h13_ e20_ h21_ e23_ h24_ h25_ hv0_79 e28_ h29_ h30_ h37_ h39_) (fun z71_ h72_ => ?_)
                    refine w_goto (tgt := 79) dX11_lays_164 (by decide) ?_
                    refine w_loc (ls' := [(5, vI z71_), (4, vI v4_79), (3, vR (6, 0, j11_)), (0, vR (11, 0, 0)), (1, vI v), (2, vI u)]) [0, 3, 4, 5, 6, 7] rfl ?_
                    exact ih_79 M_79 hI_79 hF_79 z71_ v4_79 (lf_c_X11_lays_13 M_79 Mz v u j11_ z19_ z22_ v5_79 z27_ z36_ z38_ z71_ h4_ h9_ h12_ h13_ e20_ h21_ e23_ h24_ h25_ hv0_79 e28_ h29_ h30_ h37_ h39_ h72_) (Nat.lt_of_lt_of_le (lf_c_X11_lays_14 M_79 Mz v u j11_ z19_ z22_ v5_79 z27_ z36_ z38_ z71_ h4_ h9_ h12_ h13_ e20_ h21_ e23_ h24_ h25_ hv0_79 e28_ h29_ h30_ h37_ h39_ h72_) (Nat.le_of_lt_succ hm_79))
            exact lp26_ _ Mz hIz hFz 0 0 (lf_c_X11_lays_15 ) (Nat.lt_succ_self _)
          · refine w_aload_n dX11_lays_67 rfl 1 rfl ?_
            refine w_iconst (v := 3) dX11_lays_68 (by decide) ?_
            refine w_callV (as := [vI 3]) (rest := []) (c_X11_error l G cy ad (d + 2) 3 Mz hIz) kV_X11_error (by decide +kernel) (Nat.le_of_ble_eq_true rfl) m_500 rfl rfl rfl ic_11 rfl rfl (by decide) (Nat.le_of_ble_eq_true rfl) dX11_lays_69 (fun r73_ M74_ q75_ => ?_)
            obtain ⟨hI77_, hF78_, h76_⟩ := q75_
            have hF79_ := hFz.tr hF78_ (fun c k => (fun h => h.elim (fun h => (Or.inr (Or.inr (Or.inr (Or.inr (Or.inr (Or.inr (Or.inl ⟨h.1, h.2⟩)))))))) (fun h => h.elim)))
            exact w_iret rfl dX11_lays_72 ⟨hI77_, hF79_, trivial⟩
        · refine w_aload_n dX11_lays_52 rfl 1 rfl ?_
          refine w_iconst (v := 5) dX11_lays_53 (by decide) ?_
          refine w_callV (as := [vI 5]) (rest := []) (c_X11_error l G cy ad (d + 2) 5 Mz hIz) kV_X11_error (by decide +kernel) (Nat.le_of_ble_eq_true rfl) m_500 rfl rfl rfl ic_11 rfl rfl (by decide) (Nat.le_of_ble_eq_true rfl) dX11_lays_54 (fun r80_ M81_ q82_ => ?_)
          obtain ⟨hI84_, hF85_, h83_⟩ := q82_
          have hF86_ := hFz.tr hF85_ (fun c k => (fun h => h.elim (fun h => (Or.inr (Or.inr (Or.inr (Or.inr (Or.inr (Or.inr (Or.inl ⟨h.1, h.2⟩)))))))) (fun h => h.elim)))
          exact w_iret rfl dX11_lays_57 ⟨hI84_, hF86_, trivial⟩
      · refine w_aload_n dX11_lays_37 rfl 1 rfl ?_
        refine w_iconst (v := 2) dX11_lays_38 (by decide) ?_
        refine w_callV (as := [vI 2]) (rest := []) (c_X11_error l G cy ad (d + 2) 2 Mz hIz) kV_X11_error (by decide +kernel) (Nat.le_of_ble_eq_true rfl) m_500 rfl rfl rfl ic_11 rfl rfl (by decide) (Nat.le_of_ble_eq_true rfl) dX11_lays_39 (fun r87_ M88_ q89_ => ?_)
        obtain ⟨hI91_, hF92_, h90_⟩ := q89_
        have hF93_ := hFz.tr hF92_ (fun c k => (fun h => h.elim (fun h => (Or.inr (Or.inr (Or.inr (Or.inr (Or.inr (Or.inr (Or.inl ⟨h.1, h.2⟩)))))))) (fun h => h.elim)))
        exact w_iret rfl dX11_lays_42 ⟨hI91_, hF93_, trivial⟩
    · simp only [li_0, li_11] at h9_
      refine w_if_ne (tgt := 23) dX11_lays_14 (by decide) li_0 (fun h9 => (absurd h9 (by decide))) (fun h94_ => ?_)
      refine w_aload_n dX11_lays_17 rfl 0 rfl ?_
      refine w_iconst (v := 1) dX11_lays_18 (by decide) ?_
      refine w_callV (as := [vI 1]) (rest := []) (c_X11_error l G cy ad (d + 2) 1 Mz hIz) kV_X11_error (by decide +kernel) (Nat.le_of_ble_eq_true rfl) m_500 rfl rfl rfl ic_11 rfl rfl (by decide) (Nat.le_of_ble_eq_true rfl) dX11_lays_19 (fun r95_ M96_ q97_ => ?_)
      obtain ⟨hI99_, hF100_, h98_⟩ := q97_
      have hF101_ := hFz.tr hF100_ (fun c k => (fun h => h.elim (fun h => (Or.inr (Or.inr (Or.inr (Or.inr (Or.inr (Or.inr (Or.inl ⟨h.1, h.2⟩)))))))) (fun h => h.elim)))
      exact w_iret rfl dX11_lays_22 ⟨hI99_, hF101_, trivial⟩
  · refine w_if_eq (tgt := 17) dX11_lays_4 (by decide) li_0 (fun h102_ => ?_) (fun h9 => (absurd h9 (by decide)))
    refine w_aload_n dX11_lays_17 rfl 0 rfl ?_
    refine w_iconst (v := 1) dX11_lays_18 (by decide) ?_
    refine w_callV (as := [vI 1]) (rest := []) (c_X11_error l G cy ad (d + 2) 1 Mz hIz) kV_X11_error (by decide +kernel) (Nat.le_of_ble_eq_true rfl) m_500 rfl rfl rfl ic_11 rfl rfl (by decide) (Nat.le_of_ble_eq_true rfl) dX11_lays_19 (fun r103_ M104_ q105_ => ?_)
    obtain ⟨hI107_, hF108_, h106_⟩ := q105_
    have hF109_ := hFz.tr hF108_ (fun c k => (fun h => h.elim (fun h => (Or.inr (Or.inr (Or.inr (Or.inr (Or.inr (Or.inr (Or.inl ⟨h.1, h.2⟩)))))))) (fun h => h.elim)))
    exact w_iret rfl dX11_lays_22 ⟨hI107_, hF109_, trivial⟩
def S_c_X11_air : rf → Nat → Prop := fun c k => (c.1 = 2 ∧ c.2.1 = 0 ∧ k = 2) ∨ (c.1 = 2 ∧ c.2.1 = 0 ∧ k = 1) ∨ (c.1 = 2 ∧ c.2.1 = 0 ∧ k = 0) ∨ (c.1 = 44 ∧ c.2.1 = 0) ∨ False
set_option maxHeartbeats 4000000 in
set_option maxRecDepth 100000 in
theorem c_X11_air (l : Launch) (G : va_G) (cy : Nat → ClassId) (ad : rf → Nat) (d : Nat) (v : Int32) (u : Int32) (Mz : mM) (hIz : Inv Mz) : WP CC l G cy ad yX11_air cX11_air 3 (some .int) (d + 1) 0 [(0, vR (11, 0, 0)), (1, vI v), (2, vI u)] [] Mz (fun r M' => Inv M' ∧ FR (S_c_X11_air) Mz M' ∧ True) := by
  have hFz : FR (S_c_X11_air) Mz Mz := FR.self
  refine w_iload_n dX11_air_0 rfl 1 rfl ?_
  refine w_iconst (v := 0) dX11_air_1 (by decide) ?_
  refine w_iconst (v := 2) dX11_air_2 (by decide) ?_
  refine w_callS (as := [vI v, vI 0, vI 2]) (rest := []) (c_X11_within l G cy ad d v 0 2 Mz hIz) kS_X11_within (by decide +kernel) (Nat.le_of_ble_eq_true rfl) m_494 rfl rfl (by decide) (Nat.le_of_ble_eq_true rfl) dX11_air_3 (fun r1_ M2_ q3_ => ?_)
  obtain ⟨rfl, h4_⟩ := q3_
  rcases h4_ with ⟨rfl, h4_⟩ | ⟨rfl, h4_⟩
  · simp only [li_0, li_2] at h4_
    refine w_if_eq (tgt := 37) dX11_air_6 (by decide) li_1 (fun h9 => (absurd h9 (by decide))) (fun h5_ => ?_)
    refine w_iload_n dX11_air_9 rfl 2 rfl ?_
    refine w_iconst (v := 0) dX11_air_10 (by decide) ?_
    refine w_iload_n dX11_air_11 rfl 1 rfl ?_
    refine w_if_ne (tgt := 20) dX11_air_12 (by decide) (rfl : v.toInt = v.toInt) (fun h6_ => ?_) (fun h6_ => ?_)
    · refine w_iload_n dX11_air_20 rfl 1 rfl ?_
      refine w_iconst (v := 1) dX11_air_21 (by decide) ?_
      refine w_icmp_ne (tgt := 30) dX11_air_22 (by decide) (rfl : v.toInt = v.toInt) li_1 (fun h7_ => ?_) (fun h7_ => ?_)
      · refine w_iconst (v := 1) dX11_air_30 (by decide) ?_
        refine w_callS (as := [vI u, vI 0, vI 1]) (rest := []) (c_X11_within l G cy ad d u 0 1 Mz hIz) kS_X11_within (by decide +kernel) (Nat.le_of_ble_eq_true rfl) m_494 rfl rfl (by decide) (Nat.le_of_ble_eq_true rfl) dX11_air_31 (fun r8_ M9_ q10_ => ?_)
        obtain ⟨rfl, h11_⟩ := q10_
        rcases h11_ with ⟨rfl, h11_⟩ | ⟨rfl, h11_⟩
        · simp only [li_0, li_1] at h11_
          refine w_if_ne (tgt := 43) dX11_air_34 (by decide) li_1 (fun h12_ => ?_) (fun h9 => (absurd h9 (by decide)))
          refine w_aload_n dX11_air_43 rfl 0 rfl ?_
          refine w_getR (c' := (10, 0, 0)) fl_RX11_10 rfl rfl ic_11 dX11_air_44 rfl ?_
          refine w_getR (c' := (2, 0, 0)) fl_RX11_114 rfl rfl (ic_10 (by decide)) dX11_air_47 rfl ?_
          refine w_iload_n dX11_air_50 rfl 1 rfl ?_
          refine w_iload_n dX11_air_51 rfl 2 rfl ?_
          refine w_callV (as := [vI v, vI u]) (rest := []) (c_X2_changeAir l G cy ad d 0 v u Mz hIz (by first | decide | (unfold vF; omega) | (unfold vRw; omega))) kV_X2_changeAir (by decide +kernel) (Nat.le_of_ble_eq_true rfl) m_585 rfl rfl rfl (ic_2 (by decide)) rfl rfl (by decide) (Nat.le_of_ble_eq_true rfl) dX11_air_52 (fun r13_ M14_ q15_ => ?_)
          obtain ⟨hI17_, hF18_, h16_⟩ := q15_
          have hF19_ := hFz.tr hF18_ (fun c k => (fun h => h.elim (fun h => (Or.inl ⟨h.1, h.2.1, h.2.2⟩)) (fun h => h.elim (fun h => (Or.inr (Or.inl ⟨h.1, h.2.1, h.2.2⟩))) (fun h => h.elim (fun h => (Or.inr (Or.inr (Or.inl ⟨h.1, h.2.1, h.2.2⟩)))) (fun h => h.elim)))))
          exact w_iret rfl dX11_air_55 ⟨hI17_, hF19_, trivial⟩
        · simp only [li_0, li_1] at h11_
          refine w_if_ne (tgt := 43) dX11_air_34 (by decide) li_0 (fun h9 => (absurd h9 (by decide))) (fun h20_ => ?_)
          refine w_aload_n dX11_air_37 rfl 0 rfl ?_
          refine w_iconst (v := 1) dX11_air_38 (by decide) ?_
          refine w_callV (as := [vI 1]) (rest := []) (c_X11_error l G cy ad d 1 Mz hIz) kV_X11_error (by decide +kernel) (Nat.le_of_ble_eq_true rfl) m_500 rfl rfl rfl ic_11 rfl rfl (by decide) (Nat.le_of_ble_eq_true rfl) dX11_air_39 (fun r21_ M22_ q23_ => ?_)
          obtain ⟨hI25_, hF26_, h24_⟩ := q23_
          have hF27_ := hFz.tr hF26_ (fun c k => (fun h => h.elim (fun h => (Or.inr (Or.inr (Or.inr (Or.inl ⟨h.1, h.2⟩))))) (fun h => h.elim)))
          exact w_iret rfl dX11_air_42 ⟨hI25_, hF27_, trivial⟩
      · refine w_bipush (v := 90) dX11_air_25 (by decide) ?_
        refine w_goto (tgt := 31) dX11_air_27 (by decide) ?_
        refine w_callS (as := [vI u, vI 0, vI 90]) (rest := []) (c_X11_within l G cy ad d u 0 90 Mz hIz) kS_X11_within (by decide +kernel) (Nat.le_of_ble_eq_true rfl) m_494 rfl rfl (by decide) (Nat.le_of_ble_eq_true rfl) dX11_air_31 (fun r28_ M29_ q30_ => ?_)
        obtain ⟨rfl, h31_⟩ := q30_
        rcases h31_ with ⟨rfl, h31_⟩ | ⟨rfl, h31_⟩
        · simp only [li_0, li_90] at h31_
          refine w_if_ne (tgt := 43) dX11_air_34 (by decide) li_1 (fun h32_ => ?_) (fun h9 => (absurd h9 (by decide)))
          refine w_aload_n dX11_air_43 rfl 0 rfl ?_
          refine w_getR (c' := (10, 0, 0)) fl_RX11_10 rfl rfl ic_11 dX11_air_44 rfl ?_
          refine w_getR (c' := (2, 0, 0)) fl_RX11_114 rfl rfl (ic_10 (by decide)) dX11_air_47 rfl ?_
          refine w_iload_n dX11_air_50 rfl 1 rfl ?_
          refine w_iload_n dX11_air_51 rfl 2 rfl ?_
          refine w_callV (as := [vI v, vI u]) (rest := []) (c_X2_changeAir l G cy ad d 0 v u Mz hIz (by first | decide | (unfold vF; omega) | (unfold vRw; omega))) kV_X2_changeAir (by decide +kernel) (Nat.le_of_ble_eq_true rfl) m_585 rfl rfl rfl (ic_2 (by decide)) rfl rfl (by decide) (Nat.le_of_ble_eq_true rfl) dX11_air_52 (fun r33_ M34_ q35_ => ?_)
          obtain ⟨hI37_, hF38_, h36_⟩ := q35_
          have hF39_ := hFz.tr hF38_ (fun c k => (fun h => h.elim (fun h => (Or.inl ⟨h.1, h.2.1, h.2.2⟩)) (fun h => h.elim (fun h => (Or.inr (Or.inl ⟨h.1, h.2.1, h.2.2⟩))) (fun h => h.elim (fun h => (Or.inr (Or.inr (Or.inl ⟨h.1, h.2.1, h.2.2⟩)))) (fun h => h.elim)))))
          exact w_iret rfl dX11_air_55 ⟨hI37_, hF39_, trivial⟩
        · simp only [li_0, li_90] at h31_
          refine w_if_ne (tgt := 43) dX11_air_34 (by decide) li_0 (fun h9 => (absurd h9 (by decide))) (fun h40_ => ?_)
          refine w_aload_n dX11_air_37 rfl 0 rfl ?_
          refine w_iconst (v := 1) dX11_air_38 (by decide) ?_
          refine w_callV (as := [vI 1]) (rest := []) (c_X11_error l G cy ad d 1 Mz hIz) kV_X11_error (by decide +kernel) (Nat.le_of_ble_eq_true rfl) m_500 rfl rfl rfl ic_11 rfl rfl (by decide) (Nat.le_of_ble_eq_true rfl) dX11_air_39 (fun r41_ M42_ q43_ => ?_)
          obtain ⟨hI45_, hF46_, h44_⟩ := q43_
          have hF47_ := hFz.tr hF46_ (fun c k => (fun h => h.elim (fun h => (Or.inr (Or.inr (Or.inr (Or.inl ⟨h.1, h.2⟩))))) (fun h => h.elim)))
          exact w_iret rfl dX11_air_42 ⟨hI45_, hF47_, trivial⟩
    · refine w_bipush (v := 99) dX11_air_15 (by decide) ?_
      refine w_goto (tgt := 31) dX11_air_17 (by decide) ?_
      refine w_callS (as := [vI u, vI 0, vI 99]) (rest := []) (c_X11_within l G cy ad d u 0 99 Mz hIz) kS_X11_within (by decide +kernel) (Nat.le_of_ble_eq_true rfl) m_494 rfl rfl (by decide) (Nat.le_of_ble_eq_true rfl) dX11_air_31 (fun r48_ M49_ q50_ => ?_)
      obtain ⟨rfl, h51_⟩ := q50_
      rcases h51_ with ⟨rfl, h51_⟩ | ⟨rfl, h51_⟩
      · simp only [li_0, li_99] at h51_
        refine w_if_ne (tgt := 43) dX11_air_34 (by decide) li_1 (fun h52_ => ?_) (fun h9 => (absurd h9 (by decide)))
        refine w_aload_n dX11_air_43 rfl 0 rfl ?_
        refine w_getR (c' := (10, 0, 0)) fl_RX11_10 rfl rfl ic_11 dX11_air_44 rfl ?_
        refine w_getR (c' := (2, 0, 0)) fl_RX11_114 rfl rfl (ic_10 (by decide)) dX11_air_47 rfl ?_
        refine w_iload_n dX11_air_50 rfl 1 rfl ?_
        refine w_iload_n dX11_air_51 rfl 2 rfl ?_
        refine w_callV (as := [vI v, vI u]) (rest := []) (c_X2_changeAir l G cy ad d 0 v u Mz hIz (by first | decide | (unfold vF; omega) | (unfold vRw; omega))) kV_X2_changeAir (by decide +kernel) (Nat.le_of_ble_eq_true rfl) m_585 rfl rfl rfl (ic_2 (by decide)) rfl rfl (by decide) (Nat.le_of_ble_eq_true rfl) dX11_air_52 (fun r53_ M54_ q55_ => ?_)
        obtain ⟨hI57_, hF58_, h56_⟩ := q55_
        have hF59_ := hFz.tr hF58_ (fun c k => (fun h => h.elim (fun h => (Or.inl ⟨h.1, h.2.1, h.2.2⟩)) (fun h => h.elim (fun h => (Or.inr (Or.inl ⟨h.1, h.2.1, h.2.2⟩))) (fun h => h.elim (fun h => (Or.inr (Or.inr (Or.inl ⟨h.1, h.2.1, h.2.2⟩)))) (fun h => h.elim)))))
        exact w_iret rfl dX11_air_55 ⟨hI57_, hF59_, trivial⟩
      · simp only [li_0, li_99] at h51_
        refine w_if_ne (tgt := 43) dX11_air_34 (by decide) li_0 (fun h9 => (absurd h9 (by decide))) (fun h60_ => ?_)
        refine w_aload_n dX11_air_37 rfl 0 rfl ?_
        refine w_iconst (v := 1) dX11_air_38 (by decide) ?_
        refine w_callV (as := [vI 1]) (rest := []) (c_X11_error l G cy ad d 1 Mz hIz) kV_X11_error (by decide +kernel) (Nat.le_of_ble_eq_true rfl) m_500 rfl rfl rfl ic_11 rfl rfl (by decide) (Nat.le_of_ble_eq_true rfl) dX11_air_39 (fun r61_ M62_ q63_ => ?_)
        obtain ⟨hI65_, hF66_, h64_⟩ := q63_
        have hF67_ := hFz.tr hF66_ (fun c k => (fun h => h.elim (fun h => (Or.inr (Or.inr (Or.inr (Or.inl ⟨h.1, h.2⟩))))) (fun h => h.elim)))
        exact w_iret rfl dX11_air_42 ⟨hI65_, hF67_, trivial⟩
  · simp only [li_0, li_2] at h4_
    refine w_if_eq (tgt := 37) dX11_air_6 (by decide) li_0 (fun h68_ => ?_) (fun h9 => (absurd h9 (by decide)))
    refine w_aload_n dX11_air_37 rfl 0 rfl ?_
    refine w_iconst (v := 1) dX11_air_38 (by decide) ?_
    refine w_callV (as := [vI 1]) (rest := []) (c_X11_error l G cy ad d 1 Mz hIz) kV_X11_error (by decide +kernel) (Nat.le_of_ble_eq_true rfl) m_500 rfl rfl rfl ic_11 rfl rfl (by decide) (Nat.le_of_ble_eq_true rfl) dX11_air_39 (fun r69_ M70_ q71_ => ?_)
    obtain ⟨hI73_, hF74_, h72_⟩ := q71_
    have hF75_ := hFz.tr hF74_ (fun c k => (fun h => h.elim (fun h => (Or.inr (Or.inr (Or.inr (Or.inl ⟨h.1, h.2⟩))))) (fun h => h.elim)))
    exact w_iret rfl dX11_air_42 ⟨hI73_, hF75_, trivial⟩
def S_c_X11_walker : rf → Nat → Prop := fun c k => (c.1 = 9 ∧ c.2.1 = 0 ∧ k = 0) ∨ (c.1 = 9 ∧ c.2.1 = 0 ∧ k = 1) ∨ (c.1 = 9 ∧ c.2.1 = 0 ∧ k = 2) ∨ (c.1 = 9 ∧ c.2.1 = 0 ∧ k = 3) ∨ (c.1 = 9 ∧ c.2.1 = 0 ∧ k = 4) ∨ (c.1 = 9 ∧ c.2.1 = 0 ∧ k = 5) ∨ (c.1 = 9 ∧ c.2.1 = 0 ∧ k = 6) ∨ (c.1 = 9 ∧ c.2.1 = 0 ∧ k = 7) ∨ (c.1 = 9 ∧ c.2.1 = 0 ∧ k = 8) ∨ (c.1 = 40 ∧ c.2.1 = 0) ∨ (c.1 = 41 ∧ c.2.1 = 0) ∨ (c.1 = 35 ∧ c.2.1 = 0) ∨ (c.1 = 10 ∧ c.2.1 = 0 ∧ k = 6) ∨ (c.1 = 44 ∧ c.2.1 = 0) ∨ False
set_option maxHeartbeats 4000000 in
set_option maxRecDepth 100000 in
theorem c_X11_walker (l : Launch) (G : va_G) (cy : Nat → ClassId) (ad : rf → Nat) (d : Nat) (v : Int32) (u : Int32) (t : Int32) (Mz : mM) (hIz : Inv Mz) : WP CC l G cy ad yX11_walker cX11_walker 4 (some .int) (d + 3) 0 [(0, vR (11, 0, 0)), (1, vI v), (2, vI u), (3, vI t)] [] Mz (fun r M' => Inv M' ∧ FR (S_c_X11_walker) Mz M' ∧ True) := by
  have hFz : FR (S_c_X11_walker) Mz Mz := FR.self
  refine w_iload_n dX11_walker_0 rfl 1 rfl ?_
  refine w_callS (as := [vI v]) (rest := []) (c_X11_isWalkerKind l G cy ad (d + 1) v Mz hIz) kS_X11_isWalkerKind (by decide +kernel) (Nat.le_of_ble_eq_true rfl) m_593 rfl rfl (by decide) (Nat.le_of_ble_eq_true rfl) dX11_walker_1 (fun r1_ M2_ q3_ => ?_)
  obtain ⟨rfl, h4_⟩ := q3_
  rcases h4_ with ⟨rfl, h4_⟩ | ⟨rfl, h4_⟩
  · refine w_if_eq (tgt := 21) dX11_walker_4 (by decide) li_1 (fun h9 => (absurd h9 (by decide))) (fun h5_ => ?_)
    refine w_iload_n dX11_walker_7 rfl 2 rfl ?_
    refine w_callS (as := [vI u]) (rest := []) (c_X7_isCell l G cy ad (d + 2) u Mz hIz) kS_X7_isCell (by decide +kernel) (Nat.le_of_ble_eq_true rfl) m_497 rfl rfl (by decide) (Nat.le_of_ble_eq_true rfl) dX11_walker_8 (fun r6_ M7_ q8_ => ?_)
    obtain ⟨rfl, h9_⟩ := q8_
    rcases h9_ with ⟨rfl, h9_⟩ | ⟨rfl, h9_⟩
    · refine w_if_eq (tgt := 21) dX11_walker_11 (by decide) li_1 (fun h9 => (absurd h9 (by decide))) (fun h10_ => ?_)
      refine w_iload_n dX11_walker_14 rfl 3 rfl ?_
      refine w_callS (as := [vI t]) (rest := []) (c_X7_isSide l G cy ad (d + 2) t Mz hIz) kS_X7_isSide (by decide +kernel) (Nat.le_of_ble_eq_true rfl) m_539 rfl rfl (by decide) (Nat.le_of_ble_eq_true rfl) dX11_walker_15 (fun r11_ M12_ q13_ => ?_)
      obtain ⟨rfl, h14_⟩ := q13_
      rcases h14_ with ⟨rfl, h14_⟩ | ⟨rfl, h14_⟩
      · refine w_if_ne (tgt := 27) dX11_walker_18 (by decide) li_1 (fun h15_ => ?_) (fun h9 => (absurd h9 (by decide)))
        refine w_aload_n dX11_walker_27 rfl 0 rfl ?_
        refine w_getR (c' := (10, 0, 0)) fl_RX11_10 rfl rfl ic_11 dX11_walker_28 rfl ?_
        refine w_getR (c' := (7, 0, 0)) fl_RX11_71 rfl rfl (ic_10 (by decide)) dX11_walker_31 rfl ?_
        refine w_iload_n dX11_walker_34 rfl 2 rfl ?_
        refine w_callV (as := [vI u]) (rest := []) (c_X7_isFree l G cy ad (d + 1) 0 u Mz hIz (by first | decide | (unfold vF; omega) | (unfold vRw; omega))) kV_X7_isFree (by decide +kernel) (Nat.le_of_ble_eq_true rfl) m_505 rfl rfl rfl (ic_7 (by decide)) rfl rfl (by decide) (Nat.le_of_ble_eq_true rfl) dX11_walker_35 (fun r16_ M17_ q18_ => ?_)
        obtain ⟨rfl, h19_⟩ := q18_
        rcases h19_ with ⟨rfl, h19_⟩ | rfl
        · refine w_if_ne (tgt := 47) dX11_walker_38 (by decide) li_1 (fun h20_ => ?_) (fun h9 => (absurd h9 (by decide)))
          refine w_aload_n dX11_walker_47 rfl 0 rfl ?_
          refine w_getR (c' := (10, 0, 0)) fl_RX11_10 rfl rfl ic_11 dX11_walker_48 rfl ?_
          refine w_getI fl_RX11_148 rfl rfl (ic_10 (by decide)) dX11_walker_51 (fun z21_ e22_ => ?_)
          refine w_bipush (v := 8) dX11_walker_54 (by decide) ?_
          refine w_icmp_lt (tgt := 65) dX11_walker_56 (by decide) (rfl : z21_.toInt = z21_.toInt) li_8 (fun h23_ => ?_) (fun h23_ => ?_)
          · refine w_aload_n dX11_walker_65 rfl 0 rfl ?_
            refine w_getR (c' := (10, 0, 0)) fl_RX11_10 rfl rfl ic_11 dX11_walker_66 rfl ?_
            refine w_iload_n dX11_walker_69 rfl 1 rfl ?_
            refine w_iload_n dX11_walker_70 rfl 2 rfl ?_
            refine w_iload_n dX11_walker_71 rfl 3 rfl ?_
            refine w_callV (as := [vI v, vI u, vI t]) (rest := []) (c_X10_addWalker l G cy ad d 0 v u t Mz hIz (by first | decide | (unfold vF; omega) | (unfold vRw; omega))) kV_X10_addWalker (by decide +kernel) (Nat.le_of_ble_eq_true rfl) m_596 rfl rfl rfl (ic_10 (by decide)) rfl rfl (by decide) (Nat.le_of_ble_eq_true rfl) dX11_walker_72 (fun r24_ M25_ q26_ => ?_)
            obtain ⟨hI28_, hF29_, h27_⟩ := q26_
            have hF30_ := hFz.tr hF29_ (fun c k => (fun h => h.elim (fun h => (Or.inl ⟨h.1, h.2.1, h.2.2⟩)) (fun h => h.elim (fun h => (Or.inr (Or.inl ⟨h.1, h.2.1, h.2.2⟩))) (fun h => h.elim (fun h => (Or.inr (Or.inr (Or.inl ⟨h.1, h.2.1, h.2.2⟩)))) (fun h => h.elim (fun h => (Or.inr (Or.inr (Or.inr (Or.inl ⟨h.1, h.2.1, h.2.2⟩))))) (fun h => h.elim (fun h => (Or.inr (Or.inr (Or.inr (Or.inr (Or.inl ⟨h.1, h.2.1, h.2.2⟩)))))) (fun h => h.elim (fun h => (Or.inr (Or.inr (Or.inr (Or.inr (Or.inr (Or.inl ⟨h.1, h.2.1, h.2.2⟩))))))) (fun h => h.elim (fun h => (Or.inr (Or.inr (Or.inr (Or.inr (Or.inr (Or.inr (Or.inl ⟨h.1, h.2.1, h.2.2⟩)))))))) (fun h => h.elim (fun h => (Or.inr (Or.inr (Or.inr (Or.inr (Or.inr (Or.inr (Or.inr (Or.inl ⟨h.1, h.2.1, h.2.2⟩))))))))) (fun h => h.elim (fun h => (Or.inr (Or.inr (Or.inr (Or.inr (Or.inr (Or.inr (Or.inr (Or.inr (Or.inl ⟨h.1, h.2.1, h.2.2⟩)))))))))) (fun h => h.elim (fun h => (Or.inr (Or.inr (Or.inr (Or.inr (Or.inr (Or.inr (Or.inr (Or.inr (Or.inr (Or.inl ⟨h.1, h.2⟩))))))))))) (fun h => h.elim (fun h => (Or.inr (Or.inr (Or.inr (Or.inr (Or.inr (Or.inr (Or.inr (Or.inr (Or.inr (Or.inr (Or.inl ⟨h.1, h.2⟩)))))))))))) (fun h => h.elim (fun h => (Or.inr (Or.inr (Or.inr (Or.inr (Or.inr (Or.inr (Or.inr (Or.inr (Or.inr (Or.inr (Or.inr (Or.inl ⟨h.1, h.2⟩))))))))))))) (fun h => h.elim (fun h => (Or.inr (Or.inr (Or.inr (Or.inr (Or.inr (Or.inr (Or.inr (Or.inr (Or.inr (Or.inr (Or.inr (Or.inr (Or.inl ⟨h.1, h.2.1, h.2.2⟩)))))))))))))) (fun h => h.elim)))))))))))))))
            exact w_iret rfl dX11_walker_75 ⟨hI28_, hF30_, trivial⟩
          · refine w_aload_n dX11_walker_59 rfl 0 rfl ?_
            refine w_iconst (v := 4) dX11_walker_60 (by decide) ?_
            refine w_callV (as := [vI 4]) (rest := []) (c_X11_error l G cy ad (d + 2) 4 Mz hIz) kV_X11_error (by decide +kernel) (Nat.le_of_ble_eq_true rfl) m_500 rfl rfl rfl ic_11 rfl rfl (by decide) (Nat.le_of_ble_eq_true rfl) dX11_walker_61 (fun r31_ M32_ q33_ => ?_)
            obtain ⟨hI35_, hF36_, h34_⟩ := q33_
            have hF37_ := hFz.tr hF36_ (fun c k => (fun h => h.elim (fun h => (Or.inr (Or.inr (Or.inr (Or.inr (Or.inr (Or.inr (Or.inr (Or.inr (Or.inr (Or.inr (Or.inr (Or.inr (Or.inr (Or.inl ⟨h.1, h.2⟩))))))))))))))) (fun h => h.elim)))
            exact w_iret rfl dX11_walker_64 ⟨hI35_, hF37_, trivial⟩
        · refine w_if_ne (tgt := 47) dX11_walker_38 (by decide) li_0 (fun h9 => (absurd h9 (by decide))) (fun h38_ => ?_)
          refine w_aload_n dX11_walker_41 rfl 0 rfl ?_
          refine w_iconst (v := 3) dX11_walker_42 (by decide) ?_
          refine w_callV (as := [vI 3]) (rest := []) (c_X11_error l G cy ad (d + 2) 3 Mz hIz) kV_X11_error (by decide +kernel) (Nat.le_of_ble_eq_true rfl) m_500 rfl rfl rfl ic_11 rfl rfl (by decide) (Nat.le_of_ble_eq_true rfl) dX11_walker_43 (fun r39_ M40_ q41_ => ?_)
          obtain ⟨hI43_, hF44_, h42_⟩ := q41_
          have hF45_ := hFz.tr hF44_ (fun c k => (fun h => h.elim (fun h => (Or.inr (Or.inr (Or.inr (Or.inr (Or.inr (Or.inr (Or.inr (Or.inr (Or.inr (Or.inr (Or.inr (Or.inr (Or.inr (Or.inl ⟨h.1, h.2⟩))))))))))))))) (fun h => h.elim)))
          exact w_iret rfl dX11_walker_46 ⟨hI43_, hF45_, trivial⟩
      · refine w_if_ne (tgt := 27) dX11_walker_18 (by decide) li_0 (fun h9 => (absurd h9 (by decide))) (fun h46_ => ?_)
        refine w_aload_n dX11_walker_21 rfl 0 rfl ?_
        refine w_iconst (v := 1) dX11_walker_22 (by decide) ?_
        refine w_callV (as := [vI 1]) (rest := []) (c_X11_error l G cy ad (d + 2) 1 Mz hIz) kV_X11_error (by decide +kernel) (Nat.le_of_ble_eq_true rfl) m_500 rfl rfl rfl ic_11 rfl rfl (by decide) (Nat.le_of_ble_eq_true rfl) dX11_walker_23 (fun r47_ M48_ q49_ => ?_)
        obtain ⟨hI51_, hF52_, h50_⟩ := q49_
        have hF53_ := hFz.tr hF52_ (fun c k => (fun h => h.elim (fun h => (Or.inr (Or.inr (Or.inr (Or.inr (Or.inr (Or.inr (Or.inr (Or.inr (Or.inr (Or.inr (Or.inr (Or.inr (Or.inr (Or.inl ⟨h.1, h.2⟩))))))))))))))) (fun h => h.elim)))
        exact w_iret rfl dX11_walker_26 ⟨hI51_, hF53_, trivial⟩
    · refine w_if_eq (tgt := 21) dX11_walker_11 (by decide) li_0 (fun h54_ => ?_) (fun h9 => (absurd h9 (by decide)))
      refine w_aload_n dX11_walker_21 rfl 0 rfl ?_
      refine w_iconst (v := 1) dX11_walker_22 (by decide) ?_
      refine w_callV (as := [vI 1]) (rest := []) (c_X11_error l G cy ad (d + 2) 1 Mz hIz) kV_X11_error (by decide +kernel) (Nat.le_of_ble_eq_true rfl) m_500 rfl rfl rfl ic_11 rfl rfl (by decide) (Nat.le_of_ble_eq_true rfl) dX11_walker_23 (fun r55_ M56_ q57_ => ?_)
      obtain ⟨hI59_, hF60_, h58_⟩ := q57_
      have hF61_ := hFz.tr hF60_ (fun c k => (fun h => h.elim (fun h => (Or.inr (Or.inr (Or.inr (Or.inr (Or.inr (Or.inr (Or.inr (Or.inr (Or.inr (Or.inr (Or.inr (Or.inr (Or.inr (Or.inl ⟨h.1, h.2⟩))))))))))))))) (fun h => h.elim)))
      exact w_iret rfl dX11_walker_26 ⟨hI59_, hF61_, trivial⟩
  · refine w_if_eq (tgt := 21) dX11_walker_4 (by decide) li_0 (fun h62_ => ?_) (fun h9 => (absurd h9 (by decide)))
    refine w_aload_n dX11_walker_21 rfl 0 rfl ?_
    refine w_iconst (v := 1) dX11_walker_22 (by decide) ?_
    refine w_callV (as := [vI 1]) (rest := []) (c_X11_error l G cy ad (d + 2) 1 Mz hIz) kV_X11_error (by decide +kernel) (Nat.le_of_ble_eq_true rfl) m_500 rfl rfl rfl ic_11 rfl rfl (by decide) (Nat.le_of_ble_eq_true rfl) dX11_walker_23 (fun r63_ M64_ q65_ => ?_)
    obtain ⟨hI67_, hF68_, h66_⟩ := q65_
    have hF69_ := hFz.tr hF68_ (fun c k => (fun h => h.elim (fun h => (Or.inr (Or.inr (Or.inr (Or.inr (Or.inr (Or.inr (Or.inr (Or.inr (Or.inr (Or.inr (Or.inr (Or.inr (Or.inr (Or.inl ⟨h.1, h.2⟩))))))))))))))) (fun h => h.elim)))
    exact w_iret rfl dX11_walker_26 ⟨hI67_, hF69_, trivial⟩
def S_c_X11_walkerIs : rf → Nat → Prop := fun c k => (c.1 = 44 ∧ c.2.1 = 0) ∨ False
theorem lf_c_X11_walkerIs_0  (v : Int32) (h4_ : 0 ≤ v.toInt ∧ v.toInt ≤ 7) : 0 ≤ v.toInt ∧ v.toInt < ((8 : Nat) : Int) := by have r_v := rngI v; omega
set_option maxHeartbeats 4000000 in
set_option maxRecDepth 100000 in
theorem c_X11_walkerIs (l : Launch) (G : va_G) (cy : Nat → ClassId) (ad : rf → Nat) (d : Nat) (v : Int32) (u : Int32) (Mz : mM) (hIz : Inv Mz) : WP CC l G cy ad yX11_walkerIs cX11_walkerIs 3 (some .int) (d + 2) 0 [(0, vR (11, 0, 0)), (1, vI v), (2, vI u)] [] Mz (fun r M' => Inv M' ∧ FR (S_c_X11_walkerIs) Mz M' ∧ True) := by
  have hFz : FR (S_c_X11_walkerIs) Mz Mz := FR.self
  refine w_aload_n dX11_walkerIs_0 rfl 0 rfl ?_
  refine w_getR (c' := (10, 0, 0)) fl_RX11_10 rfl rfl ic_11 dX11_walkerIs_1 rfl ?_
  refine w_iload_n dX11_walkerIs_4 rfl 1 rfl ?_
  refine w_callV (as := [vI v]) (rest := []) (c_X10_hasWalker l G cy ad (d + 1) 0 v Mz hIz (by first | decide | (unfold vF; omega) | (unfold vRw; omega))) kV_X10_hasWalker (by decide +kernel) (Nat.le_of_ble_eq_true rfl) m_609 rfl rfl rfl (ic_10 (by decide)) rfl rfl (by decide) (Nat.le_of_ble_eq_true rfl) dX11_walkerIs_5 (fun r1_ M2_ q3_ => ?_)
  obtain ⟨rfl, h4_⟩ := q3_
  rcases h4_ with ⟨rfl, h4_⟩ | rfl
  · refine w_if_eq (tgt := 21) dX11_walkerIs_8 (by decide) li_1 (fun h9 => (absurd h9 (by decide))) (fun h5_ => ?_)
    refine w_iload_n dX11_walkerIs_11 rfl 2 rfl ?_
    refine w_iconst (v := 0) dX11_walkerIs_12 (by decide) ?_
    refine w_bipush (v := 11) dX11_walkerIs_13 (by decide) ?_
    refine w_callS (as := [vI u, vI 0, vI 11]) (rest := []) (c_X11_within l G cy ad (d + 1) u 0 11 Mz hIz) kS_X11_within (by decide +kernel) (Nat.le_of_ble_eq_true rfl) m_494 rfl rfl (by decide) (Nat.le_of_ble_eq_true rfl) dX11_walkerIs_15 (fun r6_ M7_ q8_ => ?_)
    obtain ⟨rfl, h9_⟩ := q8_
    rcases h9_ with ⟨rfl, h9_⟩ | ⟨rfl, h9_⟩
    · simp only [li_0, li_11] at h9_
      refine w_if_ne (tgt := 27) dX11_walkerIs_18 (by decide) li_1 (fun h10_ => ?_) (fun h9 => (absurd h9 (by decide)))
      refine w_aload_n dX11_walkerIs_27 rfl 0 rfl ?_
      refine w_getR (c' := (10, 0, 0)) fl_RX11_10 rfl rfl ic_11 dX11_walkerIs_28 rfl ?_
      refine w_getR (c' := (42, 0, 0)) fl_RX11_157 rfl rfl (ic_10 (by decide)) dX11_walkerIs_31 rfl ?_
      refine w_iload_n dX11_walkerIs_34 rfl 1 rfl ?_
      refine w_aald rfl rfl rfl (fun _ => rfl) (ic_42 (by decide)) (rfl : v.toInt = v.toInt) (lf_c_X11_walkerIs_0 v h4_) dX11_walkerIs_35 (fun j11_ h12_ h13_ => ?_)
      refine w_iload_n dX11_walkerIs_36 rfl 2 rfl ?_
      refine w_callV (as := [vI u]) (rest := []) (c_X9_factOf l G cy ad d 0 j11_ u Mz hIz (by first | decide | (unfold vF; omega) | (unfold vRw; omega)) h13_) kV_X9_factOf (by decide +kernel) (Nat.le_of_ble_eq_true rfl) m_613 rfl rfl rfl (ic_9 (by decide) h13_) rfl rfl (by decide) (Nat.le_of_ble_eq_true rfl) dX11_walkerIs_37 (fun r14_ M15_ q16_ => ?_)
      obtain ⟨rfl, h17_⟩ := q16_
      exact w_iret rfl dX11_walkerIs_40 ⟨hIz, hFz, trivial⟩
    · simp only [li_0, li_11] at h9_
      refine w_if_ne (tgt := 27) dX11_walkerIs_18 (by decide) li_0 (fun h9 => (absurd h9 (by decide))) (fun h18_ => ?_)
      refine w_aload_n dX11_walkerIs_21 rfl 0 rfl ?_
      refine w_iconst (v := 1) dX11_walkerIs_22 (by decide) ?_
      refine w_callV (as := [vI 1]) (rest := []) (c_X11_error l G cy ad (d + 1) 1 Mz hIz) kV_X11_error (by decide +kernel) (Nat.le_of_ble_eq_true rfl) m_500 rfl rfl rfl ic_11 rfl rfl (by decide) (Nat.le_of_ble_eq_true rfl) dX11_walkerIs_23 (fun r19_ M20_ q21_ => ?_)
      obtain ⟨hI23_, hF24_, h22_⟩ := q21_
      have hF25_ := hFz.tr hF24_ (fun c k => (fun h => h.elim (fun h => (Or.inl ⟨h.1, h.2⟩)) (fun h => h.elim)))
      exact w_iret rfl dX11_walkerIs_26 ⟨hI23_, hF25_, trivial⟩
  · refine w_if_eq (tgt := 21) dX11_walkerIs_8 (by decide) li_0 (fun h26_ => ?_) (fun h9 => (absurd h9 (by decide)))
    refine w_aload_n dX11_walkerIs_21 rfl 0 rfl ?_
    refine w_iconst (v := 1) dX11_walkerIs_22 (by decide) ?_
    refine w_callV (as := [vI 1]) (rest := []) (c_X11_error l G cy ad (d + 1) 1 Mz hIz) kV_X11_error (by decide +kernel) (Nat.le_of_ble_eq_true rfl) m_500 rfl rfl rfl ic_11 rfl rfl (by decide) (Nat.le_of_ble_eq_true rfl) dX11_walkerIs_23 (fun r27_ M28_ q29_ => ?_)
    obtain ⟨hI31_, hF32_, h30_⟩ := q29_
    have hF33_ := hFz.tr hF32_ (fun c k => (fun h => h.elim (fun h => (Or.inl ⟨h.1, h.2⟩)) (fun h => h.elim)))
    exact w_iret rfl dX11_walkerIs_26 ⟨hI31_, hF33_, trivial⟩
def S_c_X11_as : rf → Nat → Prop := fun c k => (c.1 = 44 ∧ c.2.1 = 0) ∨ False
theorem lf_c_X11_as_0  (v : Int32) (h4_ : 0 ≤ v.toInt ∧ v.toInt ≤ 7) : 0 ≤ v.toInt ∧ v.toInt < ((8 : Nat) : Int) := by have r_v := rngI v; omega
theorem lf_c_X11_as_1  (v : Int32) (j11_ : Nat) (h4_ : 0 ≤ v.toInt ∧ v.toInt ≤ 7) (h12_ : (j11_ : Int) = v.toInt) (h13_ : j11_ < 8) : 0 ≤ v.toInt ∧ v.toInt < ((8 : Nat) : Int) := by have r_v := rngI v; omega
set_option maxHeartbeats 4000000 in
set_option maxRecDepth 100000 in
theorem c_X11_as (l : Launch) (G : va_G) (cy : Nat → ClassId) (ad : rf → Nat) (d : Nat) (v : Int32) (u : Int32) (Mz : mM) (hIz : Inv Mz) : WP CC l G cy ad yX11_as cX11_as 3 (some .int) (d + 2) 0 [(0, vR (11, 0, 0)), (1, vI v), (2, vI u)] [] Mz (fun r M' => Inv M' ∧ FR (S_c_X11_as) Mz M' ∧ True) := by
  have hFz : FR (S_c_X11_as) Mz Mz := FR.self
  refine w_aload_n dX11_as_0 rfl 0 rfl ?_
  refine w_getR (c' := (10, 0, 0)) fl_RX11_10 rfl rfl ic_11 dX11_as_1 rfl ?_
  refine w_iload_n dX11_as_4 rfl 1 rfl ?_
  refine w_callV (as := [vI v]) (rest := []) (c_X10_hasWalker l G cy ad (d + 1) 0 v Mz hIz (by first | decide | (unfold vF; omega) | (unfold vRw; omega))) kV_X10_hasWalker (by decide +kernel) (Nat.le_of_ble_eq_true rfl) m_609 rfl rfl rfl (ic_10 (by decide)) rfl rfl (by decide) (Nat.le_of_ble_eq_true rfl) dX11_as_5 (fun r1_ M2_ q3_ => ?_)
  obtain ⟨rfl, h4_⟩ := q3_
  rcases h4_ with ⟨rfl, h4_⟩ | rfl
  · refine w_if_eq (tgt := 18) dX11_as_8 (by decide) li_1 (fun h9 => (absurd h9 (by decide))) (fun h5_ => ?_)
    refine w_iload_n dX11_as_11 rfl 2 rfl ?_
    refine w_callS (as := [vI u]) (rest := []) (c_X11_isWalkerKind l G cy ad d u Mz hIz) kS_X11_isWalkerKind (by decide +kernel) (Nat.le_of_ble_eq_true rfl) m_593 rfl rfl (by decide) (Nat.le_of_ble_eq_true rfl) dX11_as_12 (fun r6_ M7_ q8_ => ?_)
    obtain ⟨rfl, h9_⟩ := q8_
    rcases h9_ with ⟨rfl, h9_⟩ | ⟨rfl, h9_⟩
    · refine w_if_ne (tgt := 24) dX11_as_15 (by decide) li_1 (fun h10_ => ?_) (fun h9 => (absurd h9 (by decide)))
      refine w_aload_n dX11_as_24 rfl 0 rfl ?_
      refine w_getR (c' := (10, 0, 0)) fl_RX11_10 rfl rfl ic_11 dX11_as_25 rfl ?_
      refine w_getR (c' := (42, 0, 0)) fl_RX11_157 rfl rfl (ic_10 (by decide)) dX11_as_28 rfl ?_
      refine w_iload_n dX11_as_31 rfl 1 rfl ?_
      refine w_aald rfl rfl rfl (fun _ => rfl) (ic_42 (by decide)) (rfl : v.toInt = v.toInt) (lf_c_X11_as_0 v h4_) dX11_as_32 (fun j11_ h12_ h13_ => ?_)
      refine w_iload_n dX11_as_33 rfl 2 rfl ?_
      refine w_callV (as := [vI u]) (rest := []) (c_X9_isOf l G cy ad d 0 j11_ u Mz hIz (by first | decide | (unfold vF; omega) | (unfold vRw; omega)) h13_) kV_X9_isOf (by decide +kernel) (Nat.le_of_ble_eq_true rfl) m_639 rfl rfl rfl (ic_9 (by decide) h13_) rfl rfl (by decide) (Nat.le_of_ble_eq_true rfl) dX11_as_34 (fun r14_ M15_ q16_ => ?_)
      obtain ⟨rfl, h17_⟩ := q16_
      refine w_if_ne (tgt := 46) dX11_as_37 (by decide) (rfl : r14_.toInt = r14_.toInt) (fun h18_ => ?_) (fun h18_ => ?_)
      · refine w_aload_n dX11_as_46 rfl 0 rfl ?_
        refine w_getR (c' := (10, 0, 0)) fl_RX11_10 rfl rfl ic_11 dX11_as_47 rfl ?_
        refine w_getR (c' := (42, 0, 0)) fl_RX11_157 rfl rfl (ic_10 (by decide)) dX11_as_50 rfl ?_
        refine w_iload_n dX11_as_53 rfl 1 rfl ?_
        refine w_aald rfl rfl rfl (fun _ => rfl) (ic_42 (by decide)) (rfl : v.toInt = v.toInt) (lf_c_X11_as_1 v j11_ h4_ h12_ h13_) dX11_as_54 (fun j19_ h20_ h21_ => ?_)
        refine w_callV (as := []) (rest := []) (c_X9_reach l G cy ad (d + 1) 0 j19_ Mz hIz (by first | decide | (unfold vF; omega) | (unfold vRw; omega)) h21_) kV_X9_reach (by decide +kernel) (Nat.le_of_ble_eq_true rfl) m_648 rfl rfl rfl (ic_9 (by decide) h21_) rfl rfl (by decide) (Nat.le_of_ble_eq_true rfl) dX11_as_55 (fun r22_ M23_ q24_ => ?_)
        obtain ⟨rfl, h25_⟩ := q24_
        exact w_iret rfl dX11_as_58 ⟨hIz, hFz, trivial⟩
      · refine w_aload_n dX11_as_40 rfl 0 rfl ?_
        refine w_iconst (v := 5) dX11_as_41 (by decide) ?_
        refine w_callV (as := [vI 5]) (rest := []) (c_X11_error l G cy ad (d + 1) 5 Mz hIz) kV_X11_error (by decide +kernel) (Nat.le_of_ble_eq_true rfl) m_500 rfl rfl rfl ic_11 rfl rfl (by decide) (Nat.le_of_ble_eq_true rfl) dX11_as_42 (fun r26_ M27_ q28_ => ?_)
        obtain ⟨hI30_, hF31_, h29_⟩ := q28_
        have hF32_ := hFz.tr hF31_ (fun c k => (fun h => h.elim (fun h => (Or.inl ⟨h.1, h.2⟩)) (fun h => h.elim)))
        exact w_iret rfl dX11_as_45 ⟨hI30_, hF32_, trivial⟩
    · refine w_if_ne (tgt := 24) dX11_as_15 (by decide) li_0 (fun h9 => (absurd h9 (by decide))) (fun h33_ => ?_)
      refine w_aload_n dX11_as_18 rfl 0 rfl ?_
      refine w_iconst (v := 1) dX11_as_19 (by decide) ?_
      refine w_callV (as := [vI 1]) (rest := []) (c_X11_error l G cy ad (d + 1) 1 Mz hIz) kV_X11_error (by decide +kernel) (Nat.le_of_ble_eq_true rfl) m_500 rfl rfl rfl ic_11 rfl rfl (by decide) (Nat.le_of_ble_eq_true rfl) dX11_as_20 (fun r34_ M35_ q36_ => ?_)
      obtain ⟨hI38_, hF39_, h37_⟩ := q36_
      have hF40_ := hFz.tr hF39_ (fun c k => (fun h => h.elim (fun h => (Or.inl ⟨h.1, h.2⟩)) (fun h => h.elim)))
      exact w_iret rfl dX11_as_23 ⟨hI38_, hF40_, trivial⟩
  · refine w_if_eq (tgt := 18) dX11_as_8 (by decide) li_0 (fun h41_ => ?_) (fun h9 => (absurd h9 (by decide)))
    refine w_aload_n dX11_as_18 rfl 0 rfl ?_
    refine w_iconst (v := 1) dX11_as_19 (by decide) ?_
    refine w_callV (as := [vI 1]) (rest := []) (c_X11_error l G cy ad (d + 1) 1 Mz hIz) kV_X11_error (by decide +kernel) (Nat.le_of_ble_eq_true rfl) m_500 rfl rfl rfl ic_11 rfl rfl (by decide) (Nat.le_of_ble_eq_true rfl) dX11_as_20 (fun r42_ M43_ q44_ => ?_)
    obtain ⟨hI46_, hF47_, h45_⟩ := q44_
    have hF48_ := hFz.tr hF47_ (fun c k => (fun h => h.elim (fun h => (Or.inl ⟨h.1, h.2⟩)) (fun h => h.elim)))
    exact w_iret rfl dX11_as_23 ⟨hI46_, hF48_, trivial⟩
def S_c_X11_habit : rf → Nat → Prop := fun c k => (c.1 = 44 ∧ c.2.1 = 0) ∨ (c.1 = 9 ∧ c.2.1 = 0 ∧ k = 3) ∨ (c.1 = 9 ∧ c.2.1 = 0 ∧ k = 4) ∨ (c.1 = 9 ∧ c.2.1 = 0 ∧ k = 5) ∨ False
theorem lf_c_X11_habit_0  (v : Int32) (h4_ : 0 ≤ v.toInt ∧ v.toInt ≤ 7) : 0 ≤ v.toInt ∧ v.toInt < ((8 : Nat) : Int) := by have r_v := rngI v; omega
set_option maxHeartbeats 4000000 in
set_option maxRecDepth 100000 in
theorem c_X11_habit (l : Launch) (G : va_G) (cy : Nat → ClassId) (ad : rf → Nat) (d : Nat) (v : Int32) (u : Int32) (t : Int32) (s : Int32) (Mz : mM) (hIz : Inv Mz) : WP CC l G cy ad yX11_habit cX11_habit 6 (some .int) (d + 2) 0 [(0, vR (11, 0, 0)), (1, vI v), (2, vI u), (3, vI t), (4, vI s)] [] Mz (fun r M' => Inv M' ∧ FR (S_c_X11_habit) Mz M' ∧ True) := by
  have hFz : FR (S_c_X11_habit) Mz Mz := FR.self
  refine w_aload_n dX11_habit_0 rfl 0 rfl ?_
  refine w_getR (c' := (10, 0, 0)) fl_RX11_10 rfl rfl ic_11 dX11_habit_1 rfl ?_
  refine w_iload_n dX11_habit_4 rfl 1 rfl ?_
  refine w_callV (as := [vI v]) (rest := []) (c_X10_hasWalker l G cy ad (d + 1) 0 v Mz hIz (by first | decide | (unfold vF; omega) | (unfold vRw; omega))) kV_X10_hasWalker (by decide +kernel) (Nat.le_of_ble_eq_true rfl) m_609 rfl rfl rfl (ic_10 (by decide)) rfl rfl (by decide) (Nat.le_of_ble_eq_true rfl) dX11_habit_5 (fun r1_ M2_ q3_ => ?_)
  obtain ⟨rfl, h4_⟩ := q3_
  rcases h4_ with ⟨rfl, h4_⟩ | rfl
  · refine w_if_eq (tgt := 30) dX11_habit_8 (by decide) li_1 (fun h9 => (absurd h9 (by decide))) (fun h5_ => ?_)
    refine w_iload_n dX11_habit_11 rfl 2 rfl ?_
    refine w_iload_n dX11_habit_12 rfl 3 rfl ?_
    refine w_callS (as := [vI u, vI t]) (rest := []) (c_X2_isClick l G cy ad d u t Mz hIz) kS_X2_isClick (by decide +kernel) (Nat.le_of_ble_eq_true rfl) m_653 rfl rfl (by decide) (Nat.le_of_ble_eq_true rfl) dX11_habit_13 (fun r6_ M7_ q8_ => ?_)
    obtain ⟨rfl, h9_⟩ := q8_
    refine w_if_eq (tgt := 30) dX11_habit_16 (by decide) (rfl : r6_.toInt = r6_.toInt) (fun h10_ => ?_) (fun h10_ => ?_)
    · refine w_aload_n dX11_habit_30 rfl 0 rfl ?_
      refine w_iconst (v := 1) dX11_habit_31 (by decide) ?_
      refine w_callV (as := [vI 1]) (rest := []) (c_X11_error l G cy ad (d + 1) 1 Mz hIz) kV_X11_error (by decide +kernel) (Nat.le_of_ble_eq_true rfl) m_500 rfl rfl rfl ic_11 rfl rfl (by decide) (Nat.le_of_ble_eq_true rfl) dX11_habit_32 (fun r11_ M12_ q13_ => ?_)
      obtain ⟨hI15_, hF16_, h14_⟩ := q13_
      have hF17_ := hFz.tr hF16_ (fun c k => (fun h => h.elim (fun h => (Or.inl ⟨h.1, h.2⟩)) (fun h => h.elim)))
      exact w_iret rfl dX11_habit_35 ⟨hI15_, hF17_, trivial⟩
    · refine w_iload dX11_habit_19 4 rfl ?_
      refine w_iconst (v := 0) dX11_habit_21 (by decide) ?_
      refine w_bipush (v := 30) dX11_habit_22 (by decide) ?_
      refine w_callS (as := [vI s, vI 0, vI 30]) (rest := []) (c_X11_within l G cy ad (d + 1) s 0 30 Mz hIz) kS_X11_within (by decide +kernel) (Nat.le_of_ble_eq_true rfl) m_494 rfl rfl (by decide) (Nat.le_of_ble_eq_true rfl) dX11_habit_24 (fun r18_ M19_ q20_ => ?_)
      obtain ⟨rfl, h21_⟩ := q20_
      rcases h21_ with ⟨rfl, h21_⟩ | ⟨rfl, h21_⟩
      · simp only [li_0, li_30] at h21_
        refine w_if_ne (tgt := 36) dX11_habit_27 (by decide) li_1 (fun h22_ => ?_) (fun h9 => (absurd h9 (by decide)))
        refine w_aload_n dX11_habit_36 rfl 0 rfl ?_
        refine w_getR (c' := (10, 0, 0)) fl_RX11_10 rfl rfl ic_11 dX11_habit_37 rfl ?_
        refine w_getR (c' := (42, 0, 0)) fl_RX11_157 rfl rfl (ic_10 (by decide)) dX11_habit_40 rfl ?_
        refine w_iload_n dX11_habit_43 rfl 1 rfl ?_
        refine w_aald rfl rfl rfl (fun _ => rfl) (ic_42 (by decide)) (rfl : v.toInt = v.toInt) (lf_c_X11_habit_0 v h4_) dX11_habit_44 (fun j23_ h24_ h25_ => ?_)
        refine w_astore (ls' := [(5, vR (9, 0, j23_)), (0, vR (11, 0, 0)), (1, vI v), (2, vI u), (3, vI t), (4, vI s)]) dX11_habit_45 (by decide) rfl ?_
        refine w_aload dX11_habit_47 0 rfl ?_
        refine w_iload_n dX11_habit_49 rfl 3 rfl ?_
        refine w_putI CC_nd fl_RX11_176 rfl rfl (ic_9 (by decide) h25_) dX11_habit_50 (fun M26_ hM27_ => ?_)
        have hI28_ := hIz.put hM27_ (fun h => absurd h (by decide))
        have hF29_ := hFz.put hM27_ (Or.inr (Or.inl ⟨rfl, rfl, rfl⟩))
        refine w_aload dX11_habit_53 0 rfl ?_
        refine w_iload_n dX11_habit_55 rfl 4 rfl ?_
        refine w_putI CC_nd fl_RX11_179 rfl rfl (ic_9 (by decide) h25_) dX11_habit_56 (fun M30_ hM31_ => ?_)
        have hI32_ := hI28_.put hM31_ (fun h => absurd h (by decide))
        have hF33_ := hF29_.put hM31_ (Or.inr (Or.inr (Or.inl ⟨rfl, rfl, rfl⟩)))
        refine w_aload dX11_habit_59 0 rfl ?_
        refine w_iload dX11_habit_61 5 rfl ?_
        refine w_putI CC_nd fl_RX11_182 rfl rfl (ic_9 (by decide) h25_) dX11_habit_63 (fun M34_ hM35_ => ?_)
        have hI36_ := hI32_.put hM35_ (fun h => absurd h (by decide))
        have hF37_ := hF33_.put hM35_ (Or.inr (Or.inr (Or.inr (Or.inl ⟨rfl, rfl, rfl⟩))))
        refine w_iconst (v := 1) dX11_habit_66 (by decide) ?_
        exact w_iret rfl dX11_habit_67 ⟨hI36_, hF37_, trivial⟩
      · simp only [li_0, li_30] at h21_
        refine w_if_ne (tgt := 36) dX11_habit_27 (by decide) li_0 (fun h9 => (absurd h9 (by decide))) (fun h38_ => ?_)
        refine w_aload_n dX11_habit_30 rfl 0 rfl ?_
        refine w_iconst (v := 1) dX11_habit_31 (by decide) ?_
        refine w_callV (as := [vI 1]) (rest := []) (c_X11_error l G cy ad (d + 1) 1 Mz hIz) kV_X11_error (by decide +kernel) (Nat.le_of_ble_eq_true rfl) m_500 rfl rfl rfl ic_11 rfl rfl (by decide) (Nat.le_of_ble_eq_true rfl) dX11_habit_32 (fun r39_ M40_ q41_ => ?_)
        obtain ⟨hI43_, hF44_, h42_⟩ := q41_
        have hF45_ := hFz.tr hF44_ (fun c k => (fun h => h.elim (fun h => (Or.inl ⟨h.1, h.2⟩)) (fun h => h.elim)))
        exact w_iret rfl dX11_habit_35 ⟨hI43_, hF45_, trivial⟩
  · refine w_if_eq (tgt := 30) dX11_habit_8 (by decide) li_0 (fun h46_ => ?_) (fun h9 => (absurd h9 (by decide)))
    refine w_aload_n dX11_habit_30 rfl 0 rfl ?_
    refine w_iconst (v := 1) dX11_habit_31 (by decide) ?_
    refine w_callV (as := [vI 1]) (rest := []) (c_X11_error l G cy ad (d + 1) 1 Mz hIz) kV_X11_error (by decide +kernel) (Nat.le_of_ble_eq_true rfl) m_500 rfl rfl rfl ic_11 rfl rfl (by decide) (Nat.le_of_ble_eq_true rfl) dX11_habit_32 (fun r47_ M48_ q49_ => ?_)
    obtain ⟨hI51_, hF52_, h50_⟩ := q49_
    have hF53_ := hFz.tr hF52_ (fun c k => (fun h => h.elim (fun h => (Or.inl ⟨h.1, h.2⟩)) (fun h => h.elim)))
    exact w_iret rfl dX11_habit_35 ⟨hI51_, hF53_, trivial⟩
def S_c_X11_face : rf → Nat → Prop := fun c k => (c.1 = 9 ∧ c.2.1 = 0 ∧ k = 2) ∨ (c.1 = 44 ∧ c.2.1 = 0) ∨ False
theorem lf_c_X11_face_0  (v : Int32) (h4_ : 0 ≤ v.toInt ∧ v.toInt ≤ 7) : 0 ≤ v.toInt ∧ v.toInt < ((8 : Nat) : Int) := by have r_v := rngI v; omega
theorem lf_c_X11_face_1 (Mz : mM) (v : Int32) (j11_ : Nat) (z14_ : Int32) (h4_ : 0 ≤ v.toInt ∧ v.toInt ≤ 7) (h12_ : (j11_ : Int) = v.toInt) (h13_ : j11_ < 8) (e15_ : z14_ = Mz.1 (9, 0, j11_) 2) : 0 ≤ v.toInt ∧ v.toInt < ((8 : Nat) : Int) := by have r_v := rngI v; have r_z14_ := rngI z14_; subst e15_; omega
set_option maxHeartbeats 4000000 in
set_option maxRecDepth 100000 in
theorem c_X11_face (l : Launch) (G : va_G) (cy : Nat → ClassId) (ad : rf → Nat) (d : Nat) (v : Int32) (u : Int32) (Mz : mM) (hIz : Inv Mz) : WP CC l G cy ad yX11_face cX11_face 4 (some .int) (d + 1) 0 [(0, vR (11, 0, 0)), (1, vI v), (2, vI u)] [] Mz (fun r M' => Inv M' ∧ FR (S_c_X11_face) Mz M' ∧ True) := by
  have hFz : FR (S_c_X11_face) Mz Mz := FR.self
  refine w_aload_n dX11_face_0 rfl 0 rfl ?_
  refine w_getR (c' := (10, 0, 0)) fl_RX11_10 rfl rfl ic_11 dX11_face_1 rfl ?_
  refine w_iload_n dX11_face_4 rfl 1 rfl ?_
  refine w_callV (as := [vI v]) (rest := []) (c_X10_hasWalker l G cy ad d 0 v Mz hIz (by first | decide | (unfold vF; omega) | (unfold vRw; omega))) kV_X10_hasWalker (by decide +kernel) (Nat.le_of_ble_eq_true rfl) m_609 rfl rfl rfl (ic_10 (by decide)) rfl rfl (by decide) (Nat.le_of_ble_eq_true rfl) dX11_face_5 (fun r1_ M2_ q3_ => ?_)
  obtain ⟨rfl, h4_⟩ := q3_
  rcases h4_ with ⟨rfl, h4_⟩ | rfl
  · refine w_if_eq (tgt := 18) dX11_face_8 (by decide) li_1 (fun h9 => (absurd h9 (by decide))) (fun h5_ => ?_)
    refine w_iload_n dX11_face_11 rfl 2 rfl ?_
    refine w_callS (as := [vI u]) (rest := []) (c_X7_isSide l G cy ad d u Mz hIz) kS_X7_isSide (by decide +kernel) (Nat.le_of_ble_eq_true rfl) m_539 rfl rfl (by decide) (Nat.le_of_ble_eq_true rfl) dX11_face_12 (fun r6_ M7_ q8_ => ?_)
    obtain ⟨rfl, h9_⟩ := q8_
    rcases h9_ with ⟨rfl, h9_⟩ | ⟨rfl, h9_⟩
    · refine w_if_ne (tgt := 24) dX11_face_15 (by decide) li_1 (fun h10_ => ?_) (fun h9 => (absurd h9 (by decide)))
      refine w_aload_n dX11_face_24 rfl 0 rfl ?_
      refine w_getR (c' := (10, 0, 0)) fl_RX11_10 rfl rfl ic_11 dX11_face_25 rfl ?_
      refine w_getR (c' := (42, 0, 0)) fl_RX11_157 rfl rfl (ic_10 (by decide)) dX11_face_28 rfl ?_
      refine w_iload_n dX11_face_31 rfl 1 rfl ?_
      refine w_aald rfl rfl rfl (fun _ => rfl) (ic_42 (by decide)) (rfl : v.toInt = v.toInt) (lf_c_X11_face_0 v h4_) dX11_face_32 (fun j11_ h12_ h13_ => ?_)
      refine w_getI fl_RX11_185 rfl rfl (ic_9 (by decide) h13_) dX11_face_33 (fun z14_ e15_ => ?_)
      refine w_istore_n (ls' := [(3, vI z14_), (0, vR (11, 0, 0)), (1, vI v), (2, vI u)]) dX11_face_36 rfl (by decide) rfl ?_
      refine w_aload_n dX11_face_37 rfl 1 rfl ?_
      refine w_getR (c' := (10, 0, 0)) fl_RX11_10 rfl rfl ic_11 dX11_face_38 rfl ?_
      refine w_getR (c' := (42, 0, 0)) fl_RX11_157 rfl rfl (ic_10 (by decide)) dX11_face_41 rfl ?_
      refine w_iload_n dX11_face_44 rfl 2 rfl ?_
      refine w_aald rfl rfl rfl (fun _ => rfl) (ic_42 (by decide)) (rfl : v.toInt = v.toInt) (lf_c_X11_face_1 Mz v j11_ z14_ h4_ h12_ h13_ e15_) dX11_face_45 (fun j16_ h17_ h18_ => ?_)
      refine w_iload_n dX11_face_46 rfl 3 rfl ?_
      refine w_putI CC_nd fl_RX11_185 rfl rfl (ic_9 (by decide) h18_) dX11_face_47 (fun M19_ hM20_ => ?_)
      have hI21_ := hIz.put hM20_ (fun h => absurd h (by decide))
      have hF22_ := hFz.put hM20_ (Or.inl ⟨rfl, rfl, rfl⟩)
      refine w_iload_n dX11_face_50 rfl 0 rfl ?_
      exact w_iret rfl dX11_face_51 ⟨hI21_, hF22_, trivial⟩
    · refine w_if_ne (tgt := 24) dX11_face_15 (by decide) li_0 (fun h9 => (absurd h9 (by decide))) (fun h23_ => ?_)
      refine w_aload_n dX11_face_18 rfl 0 rfl ?_
      refine w_iconst (v := 1) dX11_face_19 (by decide) ?_
      refine w_callV (as := [vI 1]) (rest := []) (c_X11_error l G cy ad d 1 Mz hIz) kV_X11_error (by decide +kernel) (Nat.le_of_ble_eq_true rfl) m_500 rfl rfl rfl ic_11 rfl rfl (by decide) (Nat.le_of_ble_eq_true rfl) dX11_face_20 (fun r24_ M25_ q26_ => ?_)
      obtain ⟨hI28_, hF29_, h27_⟩ := q26_
      have hF30_ := hFz.tr hF29_ (fun c k => (fun h => h.elim (fun h => (Or.inr (Or.inl ⟨h.1, h.2⟩))) (fun h => h.elim)))
      exact w_iret rfl dX11_face_23 ⟨hI28_, hF30_, trivial⟩
  · refine w_if_eq (tgt := 18) dX11_face_8 (by decide) li_0 (fun h31_ => ?_) (fun h9 => (absurd h9 (by decide)))
    refine w_aload_n dX11_face_18 rfl 0 rfl ?_
    refine w_iconst (v := 1) dX11_face_19 (by decide) ?_
    refine w_callV (as := [vI 1]) (rest := []) (c_X11_error l G cy ad d 1 Mz hIz) kV_X11_error (by decide +kernel) (Nat.le_of_ble_eq_true rfl) m_500 rfl rfl rfl ic_11 rfl rfl (by decide) (Nat.le_of_ble_eq_true rfl) dX11_face_20 (fun r32_ M33_ q34_ => ?_)
    obtain ⟨hI36_, hF37_, h35_⟩ := q34_
    have hF38_ := hFz.tr hF37_ (fun c k => (fun h => h.elim (fun h => (Or.inr (Or.inl ⟨h.1, h.2⟩))) (fun h => h.elim)))
    exact w_iret rfl dX11_face_23 ⟨hI36_, hF38_, trivial⟩
def S_c_X11_click : rf → Nat → Prop := fun c k => (c.1 = 9 ∧ c.2.1 = 0 ∧ k = 8) ∨ (c.1 = 29 ∧ c.2.1 = 0 ∧ k = 0) ∨ (c.1 = 29 ∧ c.2.1 = 0 ∧ k = 1) ∨ (c.1 = 29 ∧ c.2.1 = 0 ∧ k = 2) ∨ (c.1 = 29 ∧ c.2.1 = 0 ∧ k = 3) ∨ (c.1 = 25 ∧ c.2.1 = 0 ∧ c.2.2 = 0) ∨ (c.1 = 25 ∧ c.2.1 = 0 ∧ c.2.2 = 1) ∨ (c.1 = 40 ∧ c.2.1 = 0) ∨ (c.1 = 41 ∧ c.2.1 = 0) ∨ (c.1 = 44 ∧ c.2.1 = 0) ∨ False
theorem lf_c_X11_click_0  (v : Int32) (h4_ : 0 ≤ v.toInt ∧ v.toInt ≤ 7) : 0 ≤ v.toInt ∧ v.toInt < ((8 : Nat) : Int) := by have r_v := rngI v; omega
set_option maxHeartbeats 4000000 in
set_option maxRecDepth 100000 in
theorem c_X11_click (l : Launch) (G : va_G) (cy : Nat → ClassId) (ad : rf → Nat) (d : Nat) (v : Int32) (Mz : mM) (hIz : Inv Mz) : WP CC l G cy ad yX11_click cX11_click 2 (some .int) (d + 5) 0 [(0, vR (11, 0, 0)), (1, vI v)] [] Mz (fun r M' => Inv M' ∧ FR (S_c_X11_click) Mz M' ∧ True) := by
  have hFz : FR (S_c_X11_click) Mz Mz := FR.self
  refine w_aload_n dX11_click_0 rfl 0 rfl ?_
  refine w_getR (c' := (10, 0, 0)) fl_RX11_10 rfl rfl ic_11 dX11_click_1 rfl ?_
  refine w_iload_n dX11_click_4 rfl 1 rfl ?_
  refine w_callV (as := [vI v]) (rest := []) (c_X10_hasWalker l G cy ad (d + 4) 0 v Mz hIz (by first | decide | (unfold vF; omega) | (unfold vRw; omega))) kV_X10_hasWalker (by decide +kernel) (Nat.le_of_ble_eq_true rfl) m_609 rfl rfl rfl (ic_10 (by decide)) rfl rfl (by decide) (Nat.le_of_ble_eq_true rfl) dX11_click_5 (fun r1_ M2_ q3_ => ?_)
  obtain ⟨rfl, h4_⟩ := q3_
  rcases h4_ with ⟨rfl, h4_⟩ | rfl
  · refine w_if_ne (tgt := 17) dX11_click_8 (by decide) li_1 (fun h5_ => ?_) (fun h9 => (absurd h9 (by decide)))
    refine w_aload_n dX11_click_17 rfl 0 rfl ?_
    refine w_getR (c' := (10, 0, 0)) fl_RX11_10 rfl rfl ic_11 dX11_click_18 rfl ?_
    refine w_getR (c' := (42, 0, 0)) fl_RX11_157 rfl rfl (ic_10 (by decide)) dX11_click_21 rfl ?_
    refine w_iload_n dX11_click_24 rfl 1 rfl ?_
    refine w_aald rfl rfl rfl (fun _ => rfl) (ic_42 (by decide)) (rfl : v.toInt = v.toInt) (lf_c_X11_click_0 v h4_) dX11_click_25 (fun j6_ h7_ h8_ => ?_)
    refine w_iconst (v := 1) dX11_click_26 (by decide) ?_
    refine w_callV (as := [vI 1]) (rest := []) (c_X9_isOf l G cy ad (d + 3) 0 j6_ 1 Mz hIz (by first | decide | (unfold vF; omega) | (unfold vRw; omega)) h8_) kV_X9_isOf (by decide +kernel) (Nat.le_of_ble_eq_true rfl) m_639 rfl rfl rfl (ic_9 (by decide) h8_) rfl rfl (by decide) (Nat.le_of_ble_eq_true rfl) dX11_click_27 (fun r9_ M10_ q11_ => ?_)
    obtain ⟨rfl, h12_⟩ := q11_
    refine w_if_ne (tgt := 39) dX11_click_30 (by decide) (rfl : r9_.toInt = r9_.toInt) (fun h13_ => ?_) (fun h13_ => ?_)
    · refine w_aload_n dX11_click_39 rfl 0 rfl ?_
      refine w_getR (c' := (10, 0, 0)) fl_RX11_10 rfl rfl ic_11 dX11_click_40 rfl ?_
      refine w_iload_n dX11_click_43 rfl 1 rfl ?_
      refine w_callV (as := [vI v]) (rest := []) (c_X10_makeClick l G cy ad d 0 v Mz hIz (by first | decide | (unfold vF; omega) | (unfold vRw; omega))) kV_X10_makeClick (by decide +kernel) (Nat.le_of_ble_eq_true rfl) m_896 rfl rfl rfl (ic_10 (by decide)) rfl rfl (by decide) (Nat.le_of_ble_eq_true rfl) dX11_click_44 (fun r14_ M15_ q16_ => ?_)
      obtain ⟨hI18_, hF19_, h17_⟩ := q16_
      have hF20_ := hFz.tr hF19_ (fun c k => (fun h => h.elim (fun h => (Or.inl ⟨h.1, h.2.1, h.2.2⟩)) (fun h => h.elim (fun h => (Or.inr (Or.inl ⟨h.1, h.2.1, h.2.2⟩))) (fun h => h.elim (fun h => (Or.inr (Or.inr (Or.inl ⟨h.1, h.2.1, h.2.2⟩)))) (fun h => h.elim (fun h => (Or.inr (Or.inr (Or.inr (Or.inl ⟨h.1, h.2.1, h.2.2⟩))))) (fun h => h.elim (fun h => (Or.inr (Or.inr (Or.inr (Or.inr (Or.inl ⟨h.1, h.2.1, h.2.2⟩)))))) (fun h => h.elim (fun h => (Or.inr (Or.inr (Or.inr (Or.inr (Or.inr (Or.inl ⟨h.1, h.2.1, h.2.2⟩))))))) (fun h => h.elim (fun h => (Or.inr (Or.inr (Or.inr (Or.inr (Or.inr (Or.inr (Or.inl ⟨h.1, h.2.1, h.2.2⟩)))))))) (fun h => h.elim (fun h => (Or.inr (Or.inr (Or.inr (Or.inr (Or.inr (Or.inr (Or.inr (Or.inl ⟨h.1, h.2⟩))))))))) (fun h => h.elim (fun h => (Or.inr (Or.inr (Or.inr (Or.inr (Or.inr (Or.inr (Or.inr (Or.inr (Or.inl ⟨h.1, h.2⟩)))))))))) (fun h => h.elim)))))))))))
      exact w_iret rfl dX11_click_47 ⟨hI18_, hF20_, trivial⟩
    · refine w_aload_n dX11_click_33 rfl 0 rfl ?_
      refine w_iconst (v := 5) dX11_click_34 (by decide) ?_
      refine w_callV (as := [vI 5]) (rest := []) (c_X11_error l G cy ad (d + 4) 5 Mz hIz) kV_X11_error (by decide +kernel) (Nat.le_of_ble_eq_true rfl) m_500 rfl rfl rfl ic_11 rfl rfl (by decide) (Nat.le_of_ble_eq_true rfl) dX11_click_35 (fun r21_ M22_ q23_ => ?_)
      obtain ⟨hI25_, hF26_, h24_⟩ := q23_
      have hF27_ := hFz.tr hF26_ (fun c k => (fun h => h.elim (fun h => (Or.inr (Or.inr (Or.inr (Or.inr (Or.inr (Or.inr (Or.inr (Or.inr (Or.inr (Or.inl ⟨h.1, h.2⟩))))))))))) (fun h => h.elim)))
      exact w_iret rfl dX11_click_38 ⟨hI25_, hF27_, trivial⟩
  · refine w_if_ne (tgt := 17) dX11_click_8 (by decide) li_0 (fun h9 => (absurd h9 (by decide))) (fun h28_ => ?_)
    refine w_aload_n dX11_click_11 rfl 0 rfl ?_
    refine w_iconst (v := 1) dX11_click_12 (by decide) ?_
    refine w_callV (as := [vI 1]) (rest := []) (c_X11_error l G cy ad (d + 4) 1 Mz hIz) kV_X11_error (by decide +kernel) (Nat.le_of_ble_eq_true rfl) m_500 rfl rfl rfl ic_11 rfl rfl (by decide) (Nat.le_of_ble_eq_true rfl) dX11_click_13 (fun r29_ M30_ q31_ => ?_)
    obtain ⟨hI33_, hF34_, h32_⟩ := q31_
    have hF35_ := hFz.tr hF34_ (fun c k => (fun h => h.elim (fun h => (Or.inr (Or.inr (Or.inr (Or.inr (Or.inr (Or.inr (Or.inr (Or.inr (Or.inr (Or.inl ⟨h.1, h.2⟩))))))))))) (fun h => h.elim)))
    exact w_iret rfl dX11_click_16 ⟨hI33_, hF35_, trivial⟩
def S_c_X11_head : rf → Nat → Prop := fun c k => (c.1 = 44 ∧ c.2.1 = 0) ∨ False
theorem lf_c_X11_head_0  (v : Int32) (h4_ : 0 ≤ v.toInt ∧ v.toInt ≤ 7) : 0 ≤ v.toInt ∧ v.toInt < ((8 : Nat) : Int) := by have r_v := rngI v; omega
theorem lf_c_X11_head_1  (u : Int32) (h9_ : 0 ≤ u.toInt ∧ u.toInt ≤ 191) : 0 ≤ u.toInt ∧ u.toInt < ((192 : Nat) : Int) := by have r_u := rngI u; omega
theorem lf_c_X11_head_2  (u : Int32) (h9_ : 0 ≤ u.toInt ∧ u.toInt ≤ 191) : 0 ≤ u.toInt ∧ u.toInt < ((192 : Nat) : Int) := by have r_u := rngI u; omega
set_option maxHeartbeats 4000000 in
set_option maxRecDepth 100000 in
theorem c_X11_head (l : Launch) (G : va_G) (cy : Nat → ClassId) (ad : rf → Nat) (d : Nat) (v : Int32) (u : Int32) (t : Int32) (Mz : mM) (hIz : Inv Mz) : WP CC l G cy ad yX11_head cX11_head 5 (some .int) (d + 2) 0 [(0, vR (11, 0, 0)), (1, vI v), (2, vI u), (3, vI t)] [] Mz (fun r M' => Inv M' ∧ FR (S_c_X11_head) Mz M' ∧ True) := by
  have hFz : FR (S_c_X11_head) Mz Mz := FR.self
  refine w_aload_n dX11_head_0 rfl 0 rfl ?_
  refine w_getR (c' := (10, 0, 0)) fl_RX11_10 rfl rfl ic_11 dX11_head_1 rfl ?_
  refine w_iload_n dX11_head_4 rfl 1 rfl ?_
  refine w_callV (as := [vI v]) (rest := []) (c_X10_hasWalker l G cy ad (d + 1) 0 v Mz hIz (by first | decide | (unfold vF; omega) | (unfold vRw; omega))) kV_X10_hasWalker (by decide +kernel) (Nat.le_of_ble_eq_true rfl) m_609 rfl rfl rfl (ic_10 (by decide)) rfl rfl (by decide) (Nat.le_of_ble_eq_true rfl) dX11_head_5 (fun r1_ M2_ q3_ => ?_)
  obtain ⟨rfl, h4_⟩ := q3_
  rcases h4_ with ⟨rfl, h4_⟩ | rfl
  · refine w_if_eq (tgt := 27) dX11_head_8 (by decide) li_1 (fun h9 => (absurd h9 (by decide))) (fun h5_ => ?_)
    refine w_iload_n dX11_head_11 rfl 2 rfl ?_
    refine w_callS (as := [vI u]) (rest := []) (c_X7_isCell l G cy ad (d + 1) u Mz hIz) kS_X7_isCell (by decide +kernel) (Nat.le_of_ble_eq_true rfl) m_497 rfl rfl (by decide) (Nat.le_of_ble_eq_true rfl) dX11_head_12 (fun r6_ M7_ q8_ => ?_)
    obtain ⟨rfl, h9_⟩ := q8_
    rcases h9_ with ⟨rfl, h9_⟩ | ⟨rfl, h9_⟩
    · refine w_if_eq (tgt := 27) dX11_head_15 (by decide) li_1 (fun h9 => (absurd h9 (by decide))) (fun h10_ => ?_)
      refine w_iload_n dX11_head_18 rfl 3 rfl ?_
      refine w_iconst (v := 0) dX11_head_19 (by decide) ?_
      refine w_iconst (v := 2) dX11_head_20 (by decide) ?_
      refine w_callS (as := [vI t, vI 0, vI 2]) (rest := []) (c_X11_within l G cy ad (d + 1) t 0 2 Mz hIz) kS_X11_within (by decide +kernel) (Nat.le_of_ble_eq_true rfl) m_494 rfl rfl (by decide) (Nat.le_of_ble_eq_true rfl) dX11_head_21 (fun r11_ M12_ q13_ => ?_)
      obtain ⟨rfl, h14_⟩ := q13_
      rcases h14_ with ⟨rfl, h14_⟩ | ⟨rfl, h14_⟩
      · simp only [li_0, li_2] at h14_
        refine w_if_ne (tgt := 33) dX11_head_24 (by decide) li_1 (fun h15_ => ?_) (fun h9 => (absurd h9 (by decide)))
        refine w_aload_n dX11_head_33 rfl 0 rfl ?_
        refine w_getR (c' := (10, 0, 0)) fl_RX11_10 rfl rfl ic_11 dX11_head_34 rfl ?_
        refine w_getR (c' := (42, 0, 0)) fl_RX11_157 rfl rfl (ic_10 (by decide)) dX11_head_37 rfl ?_
        refine w_iload_n dX11_head_40 rfl 1 rfl ?_
        refine w_aald rfl rfl rfl (fun _ => rfl) (ic_42 (by decide)) (rfl : v.toInt = v.toInt) (lf_c_X11_head_0 v h4_) dX11_head_41 (fun j16_ h17_ h18_ => ?_)
        refine w_astore (ls' := [(4, vR (9, 0, j16_)), (0, vR (11, 0, 0)), (1, vI v), (2, vI u), (3, vI t)]) dX11_head_42 (by decide) rfl ?_
        refine w_iload_n dX11_head_44 rfl 4 rfl ?_
        refine w_if_ne (tgt := 58) dX11_head_45 (by decide) (rfl : t.toInt = t.toInt) (fun h19_ => ?_) (fun h19_ => ?_)
        · refine w_iload_n dX11_head_58 rfl 4 rfl ?_
          refine w_iconst (v := 1) dX11_head_59 (by decide) ?_
          refine w_icmp_ne (tgt := 73) dX11_head_60 (by decide) (rfl : t.toInt = t.toInt) li_1 (fun h20_ => ?_) (fun h20_ => ?_)
          · refine w_aload dX11_head_73 0 rfl ?_
            refine w_iload_n dX11_head_75 rfl 3 rfl ?_
            refine w_callV (as := [vI u]) (rest := []) (c_X9_held l G cy ad d 0 j16_ u Mz hIz (by first | decide | (unfold vF; omega) | (unfold vRw; omega)) h18_) kV_X9_held (by decide +kernel) (Nat.le_of_ble_eq_true rfl) m_929 rfl rfl rfl (ic_9 (by decide) h18_) rfl rfl (by decide) (Nat.le_of_ble_eq_true rfl) dX11_head_76 (fun r21_ M22_ q23_ => ?_)
            obtain ⟨rfl, h24_⟩ := q23_
            exact w_iret rfl dX11_head_79 ⟨hIz, hFz, trivial⟩
          · refine w_aload dX11_head_63 0 rfl ?_
            refine w_getR (c' := (41, 0, j16_)) fl_RX11_245 rfl rfl (ic_9 (by decide) h18_) dX11_head_65 rfl ?_
            refine w_iload_n dX11_head_68 rfl 3 rfl ?_
            refine w_iald rfl rfl (ic_41 (by decide) h18_) (rfl : u.toInt = u.toInt) (lf_c_X11_head_1 u h9_) dX11_head_69 (fun j27_ h28_ z25_ e26_ => ?_)
            refine w_goto (tgt := 79) dX11_head_70 (by decide) ?_
            exact w_iret rfl dX11_head_79 ⟨hIz, hFz, trivial⟩
        · refine w_aload dX11_head_48 0 rfl ?_
          refine w_getR (c' := (40, 0, j16_)) fl_RX11_242 rfl rfl (ic_9 (by decide) h18_) dX11_head_50 rfl ?_
          refine w_iload_n dX11_head_53 rfl 3 rfl ?_
          refine w_iald rfl rfl (ic_40 (by decide) h18_) (rfl : u.toInt = u.toInt) (lf_c_X11_head_2 u h9_) dX11_head_54 (fun j31_ h32_ z29_ e30_ => ?_)
          refine w_goto (tgt := 79) dX11_head_55 (by decide) ?_
          exact w_iret rfl dX11_head_79 ⟨hIz, hFz, trivial⟩
      · simp only [li_0, li_2] at h14_
        refine w_if_ne (tgt := 33) dX11_head_24 (by decide) li_0 (fun h9 => (absurd h9 (by decide))) (fun h33_ => ?_)
        refine w_aload_n dX11_head_27 rfl 0 rfl ?_
        refine w_iconst (v := 1) dX11_head_28 (by decide) ?_
        refine w_callV (as := [vI 1]) (rest := []) (c_X11_error l G cy ad (d + 1) 1 Mz hIz) kV_X11_error (by decide +kernel) (Nat.le_of_ble_eq_true rfl) m_500 rfl rfl rfl ic_11 rfl rfl (by decide) (Nat.le_of_ble_eq_true rfl) dX11_head_29 (fun r34_ M35_ q36_ => ?_)
        obtain ⟨hI38_, hF39_, h37_⟩ := q36_
        have hF40_ := hFz.tr hF39_ (fun c k => (fun h => h.elim (fun h => (Or.inl ⟨h.1, h.2⟩)) (fun h => h.elim)))
        exact w_iret rfl dX11_head_32 ⟨hI38_, hF40_, trivial⟩
    · refine w_if_eq (tgt := 27) dX11_head_15 (by decide) li_0 (fun h41_ => ?_) (fun h9 => (absurd h9 (by decide)))
      refine w_aload_n dX11_head_27 rfl 0 rfl ?_
      refine w_iconst (v := 1) dX11_head_28 (by decide) ?_
      refine w_callV (as := [vI 1]) (rest := []) (c_X11_error l G cy ad (d + 1) 1 Mz hIz) kV_X11_error (by decide +kernel) (Nat.le_of_ble_eq_true rfl) m_500 rfl rfl rfl ic_11 rfl rfl (by decide) (Nat.le_of_ble_eq_true rfl) dX11_head_29 (fun r42_ M43_ q44_ => ?_)
      obtain ⟨hI46_, hF47_, h45_⟩ := q44_
      have hF48_ := hFz.tr hF47_ (fun c k => (fun h => h.elim (fun h => (Or.inl ⟨h.1, h.2⟩)) (fun h => h.elim)))
      exact w_iret rfl dX11_head_32 ⟨hI46_, hF48_, trivial⟩
  · refine w_if_eq (tgt := 27) dX11_head_8 (by decide) li_0 (fun h49_ => ?_) (fun h9 => (absurd h9 (by decide)))
    refine w_aload_n dX11_head_27 rfl 0 rfl ?_
    refine w_iconst (v := 1) dX11_head_28 (by decide) ?_
    refine w_callV (as := [vI 1]) (rest := []) (c_X11_error l G cy ad (d + 1) 1 Mz hIz) kV_X11_error (by decide +kernel) (Nat.le_of_ble_eq_true rfl) m_500 rfl rfl rfl ic_11 rfl rfl (by decide) (Nat.le_of_ble_eq_true rfl) dX11_head_29 (fun r50_ M51_ q52_ => ?_)
    obtain ⟨hI54_, hF55_, h53_⟩ := q52_
    have hF56_ := hFz.tr hF55_ (fun c k => (fun h => h.elim (fun h => (Or.inl ⟨h.1, h.2⟩)) (fun h => h.elim)))
    exact w_iret rfl dX11_head_32 ⟨hI54_, hF56_, trivial⟩
def S_c_X11_heads : rf → Nat → Prop := fun c k => (c.1 = 44 ∧ c.2.1 = 0) ∨ False
theorem lf_c_X11_heads_0  (v : Int32) (h4_ : 0 ≤ v.toInt ∧ v.toInt ≤ 7) : 0 ≤ v.toInt ∧ v.toInt < ((8 : Nat) : Int) := by have r_v := rngI v; omega
set_option maxHeartbeats 4000000 in
set_option maxRecDepth 100000 in
theorem c_X11_heads (l : Launch) (G : va_G) (cy : Nat → ClassId) (ad : rf → Nat) (d : Nat) (v : Int32) (u : Int32) (Mz : mM) (hIz : Inv Mz) : WP CC l G cy ad yX11_heads cX11_heads 3 (some .int) (d + 3) 0 [(0, vR (11, 0, 0)), (1, vI v), (2, vI u)] [] Mz (fun r M' => Inv M' ∧ FR (S_c_X11_heads) Mz M' ∧ True) := by
  have hFz : FR (S_c_X11_heads) Mz Mz := FR.self
  refine w_aload_n dX11_heads_0 rfl 0 rfl ?_
  refine w_getR (c' := (10, 0, 0)) fl_RX11_10 rfl rfl ic_11 dX11_heads_1 rfl ?_
  refine w_iload_n dX11_heads_4 rfl 1 rfl ?_
  refine w_callV (as := [vI v]) (rest := []) (c_X10_hasWalker l G cy ad (d + 2) 0 v Mz hIz (by first | decide | (unfold vF; omega) | (unfold vRw; omega))) kV_X10_hasWalker (by decide +kernel) (Nat.le_of_ble_eq_true rfl) m_609 rfl rfl rfl (ic_10 (by decide)) rfl rfl (by decide) (Nat.le_of_ble_eq_true rfl) dX11_heads_5 (fun r1_ M2_ q3_ => ?_)
  obtain ⟨rfl, h4_⟩ := q3_
  rcases h4_ with ⟨rfl, h4_⟩ | rfl
  · refine w_if_eq (tgt := 20) dX11_heads_8 (by decide) li_1 (fun h9 => (absurd h9 (by decide))) (fun h5_ => ?_)
    refine w_iload_n dX11_heads_11 rfl 2 rfl ?_
    refine w_iconst (v := 0) dX11_heads_12 (by decide) ?_
    refine w_iconst (v := 3) dX11_heads_13 (by decide) ?_
    refine w_callS (as := [vI u, vI 0, vI 3]) (rest := []) (c_X11_within l G cy ad (d + 2) u 0 3 Mz hIz) kS_X11_within (by decide +kernel) (Nat.le_of_ble_eq_true rfl) m_494 rfl rfl (by decide) (Nat.le_of_ble_eq_true rfl) dX11_heads_14 (fun r6_ M7_ q8_ => ?_)
    obtain ⟨rfl, h9_⟩ := q8_
    rcases h9_ with ⟨rfl, h9_⟩ | ⟨rfl, h9_⟩
    · simp only [li_0, li_3] at h9_
      refine w_if_ne (tgt := 26) dX11_heads_17 (by decide) li_1 (fun h10_ => ?_) (fun h9 => (absurd h9 (by decide)))
      refine w_iload_n dX11_heads_26 rfl 2 rfl ?_
      refine w_iconst (v := 3) dX11_heads_27 (by decide) ?_
      refine w_icmp_ne (tgt := 42) dX11_heads_28 (by decide) (rfl : u.toInt = u.toInt) li_3 (fun h11_ => ?_) (fun h11_ => ?_)
      · refine w_aload_n dX11_heads_42 rfl 0 rfl ?_
        refine w_getR (c' := (10, 0, 0)) fl_RX11_10 rfl rfl ic_11 dX11_heads_43 rfl ?_
        refine w_getR (c' := (42, 0, 0)) fl_RX11_157 rfl rfl (ic_10 (by decide)) dX11_heads_46 rfl ?_
        refine w_iload_n dX11_heads_49 rfl 1 rfl ?_
        refine w_aald rfl rfl rfl (fun _ => rfl) (ic_42 (by decide)) (rfl : v.toInt = v.toInt) (lf_c_X11_heads_0 v h4_) dX11_heads_50 (fun j12_ h13_ h14_ => ?_)
        refine w_iload_n dX11_heads_51 rfl 2 rfl ?_
        refine w_callV (as := [vI u]) (rest := []) (c_X9_countHeld l G cy ad d 0 j12_ u Mz hIz (by first | decide | (unfold vF; omega) | (unfold vRw; omega)) h14_) kV_X9_countHeld (by decide +kernel) (Nat.le_of_ble_eq_true rfl) m_942 rfl rfl rfl (ic_9 (by decide) h14_) rfl rfl (by decide) (Nat.le_of_ble_eq_true rfl) dX11_heads_52 (fun r15_ M16_ q17_ => ?_)
        obtain ⟨rfl, h18_⟩ := q17_
        exact w_iret rfl dX11_heads_55 ⟨hIz, hFz, trivial⟩
      · refine w_aload_n dX11_heads_31 rfl 0 rfl ?_
        refine w_getR (c' := (10, 0, 0)) fl_RX11_10 rfl rfl ic_11 dX11_heads_32 rfl ?_
        refine w_iload_n dX11_heads_35 rfl 1 rfl ?_
        refine w_callV (as := [vI v]) (rest := []) (c_X10_countWrong l G cy ad d 0 v Mz hIz (by first | decide | (unfold vF; omega) | (unfold vRw; omega))) kV_X10_countWrong (by decide +kernel) (Nat.le_of_ble_eq_true rfl) m_937 rfl rfl rfl (ic_10 (by decide)) rfl rfl (by decide) (Nat.le_of_ble_eq_true rfl) dX11_heads_36 (fun r19_ M20_ q21_ => ?_)
        obtain ⟨rfl, h22_⟩ := q21_
        refine w_goto (tgt := 55) dX11_heads_39 (by decide) ?_
        exact w_iret rfl dX11_heads_55 ⟨hIz, hFz, trivial⟩
    · simp only [li_0, li_3] at h9_
      refine w_if_ne (tgt := 26) dX11_heads_17 (by decide) li_0 (fun h9 => (absurd h9 (by decide))) (fun h23_ => ?_)
      refine w_aload_n dX11_heads_20 rfl 0 rfl ?_
      refine w_iconst (v := 1) dX11_heads_21 (by decide) ?_
      refine w_callV (as := [vI 1]) (rest := []) (c_X11_error l G cy ad (d + 2) 1 Mz hIz) kV_X11_error (by decide +kernel) (Nat.le_of_ble_eq_true rfl) m_500 rfl rfl rfl ic_11 rfl rfl (by decide) (Nat.le_of_ble_eq_true rfl) dX11_heads_22 (fun r24_ M25_ q26_ => ?_)
      obtain ⟨hI28_, hF29_, h27_⟩ := q26_
      have hF30_ := hFz.tr hF29_ (fun c k => (fun h => h.elim (fun h => (Or.inl ⟨h.1, h.2⟩)) (fun h => h.elim)))
      exact w_iret rfl dX11_heads_25 ⟨hI28_, hF30_, trivial⟩
  · refine w_if_eq (tgt := 20) dX11_heads_8 (by decide) li_0 (fun h31_ => ?_) (fun h9 => (absurd h9 (by decide)))
    refine w_aload_n dX11_heads_20 rfl 0 rfl ?_
    refine w_iconst (v := 1) dX11_heads_21 (by decide) ?_
    refine w_callV (as := [vI 1]) (rest := []) (c_X11_error l G cy ad (d + 2) 1 Mz hIz) kV_X11_error (by decide +kernel) (Nat.le_of_ble_eq_true rfl) m_500 rfl rfl rfl ic_11 rfl rfl (by decide) (Nat.le_of_ble_eq_true rfl) dX11_heads_22 (fun r32_ M33_ q34_ => ?_)
    obtain ⟨hI36_, hF37_, h35_⟩ := q34_
    have hF38_ := hFz.tr hF37_ (fun c k => (fun h => h.elim (fun h => (Or.inl ⟨h.1, h.2⟩)) (fun h => h.elim)))
    exact w_iret rfl dX11_heads_25 ⟨hI36_, hF38_, trivial⟩
def S_c_X11_alike : rf → Nat → Prop := fun c k => (c.1 = 44 ∧ c.2.1 = 0) ∨ (c.1 = 29 ∧ c.2.1 = 0 ∧ k = 0) ∨ (c.1 = 29 ∧ c.2.1 = 0 ∧ k = 1) ∨ (c.1 = 29 ∧ c.2.1 = 0 ∧ k = 2) ∨ (c.1 = 29 ∧ c.2.1 = 0 ∧ k = 3) ∨ (c.1 = 25 ∧ c.2.1 = 0 ∧ c.2.2 = 0) ∨ (c.1 = 25 ∧ c.2.1 = 0 ∧ c.2.2 = 1) ∨ False
theorem lf_c_X11_alike_0  (v : Int32) (h4_ : 0 ≤ v.toInt ∧ v.toInt ≤ 7) : 0 ≤ v.toInt ∧ v.toInt < ((8 : Nat) : Int) := by have r_v := rngI v; omega
set_option maxHeartbeats 4000000 in
set_option maxRecDepth 100000 in
theorem c_X11_alike (l : Launch) (G : va_G) (cy : Nat → ClassId) (ad : rf → Nat) (d : Nat) (v : Int32) (u : Int32) (t : Int32) (s : Int32) (q : Int32) (Mz : mM) (hIz : Inv Mz) : WP CC l G cy ad yX11_alike cX11_alike 7 (some .int) (d + 4) 0 [(0, vR (11, 0, 0)), (1, vI v), (2, vI u), (3, vI t), (4, vI s), (5, vI q)] [] Mz (fun r M' => Inv M' ∧ FR (S_c_X11_alike) Mz M' ∧ True) := by
  have hFz : FR (S_c_X11_alike) Mz Mz := FR.self
  refine w_aload_n dX11_alike_0 rfl 0 rfl ?_
  refine w_getR (c' := (10, 0, 0)) fl_RX11_10 rfl rfl ic_11 dX11_alike_1 rfl ?_
  refine w_iload_n dX11_alike_4 rfl 1 rfl ?_
  refine w_callV (as := [vI v]) (rest := []) (c_X10_hasWalker l G cy ad (d + 3) 0 v Mz hIz (by first | decide | (unfold vF; omega) | (unfold vRw; omega))) kV_X10_hasWalker (by decide +kernel) (Nat.le_of_ble_eq_true rfl) m_609 rfl rfl rfl (ic_10 (by decide)) rfl rfl (by decide) (Nat.le_of_ble_eq_true rfl) dX11_alike_5 (fun r1_ M2_ q3_ => ?_)
  obtain ⟨rfl, h4_⟩ := q3_
  rcases h4_ with ⟨rfl, h4_⟩ | rfl
  · refine w_if_eq (tgt := 26) dX11_alike_8 (by decide) li_1 (fun h9 => (absurd h9 (by decide))) (fun h5_ => ?_)
    refine w_iload_n dX11_alike_11 rfl 2 rfl ?_
    refine w_callS (as := [vI u]) (rest := []) (c_X2_isClick_ l G cy ad (d + 1) u Mz hIz) kS_X2_isClick_ (by decide +kernel) (Nat.le_of_ble_eq_true rfl) m_839 rfl rfl (by decide) (Nat.le_of_ble_eq_true rfl) dX11_alike_12 (fun r6_ M7_ q8_ => ?_)
    obtain ⟨rfl, h9_⟩ := q8_
    refine w_if_eq (tgt := 26) dX11_alike_15 (by decide) (rfl : r6_.toInt = r6_.toInt) (fun h10_ => ?_) (fun h10_ => ?_)
    · refine w_aload_n dX11_alike_26 rfl 0 rfl ?_
      refine w_iconst (v := 1) dX11_alike_27 (by decide) ?_
      refine w_callV (as := [vI 1]) (rest := []) (c_X11_error l G cy ad (d + 3) 1 Mz hIz) kV_X11_error (by decide +kernel) (Nat.le_of_ble_eq_true rfl) m_500 rfl rfl rfl ic_11 rfl rfl (by decide) (Nat.le_of_ble_eq_true rfl) dX11_alike_28 (fun r11_ M12_ q13_ => ?_)
      obtain ⟨hI15_, hF16_, h14_⟩ := q13_
      have hF17_ := hFz.tr hF16_ (fun c k => (fun h => h.elim (fun h => (Or.inl ⟨h.1, h.2⟩)) (fun h => h.elim)))
      exact w_iret rfl dX11_alike_31 ⟨hI15_, hF17_, trivial⟩
    · refine w_iload dX11_alike_18 4 rfl ?_
      refine w_callS (as := [vI s]) (rest := []) (c_X7_isSide l G cy ad (d + 3) s Mz hIz) kS_X7_isSide (by decide +kernel) (Nat.le_of_ble_eq_true rfl) m_539 rfl rfl (by decide) (Nat.le_of_ble_eq_true rfl) dX11_alike_20 (fun r18_ M19_ q20_ => ?_)
      obtain ⟨rfl, h21_⟩ := q20_
      rcases h21_ with ⟨rfl, h21_⟩ | ⟨rfl, h21_⟩
      · refine w_if_ne (tgt := 32) dX11_alike_23 (by decide) li_1 (fun h22_ => ?_) (fun h9 => (absurd h9 (by decide)))
        refine w_aload_n dX11_alike_32 rfl 0 rfl ?_
        refine w_getR (c' := (10, 0, 0)) fl_RX11_10 rfl rfl ic_11 dX11_alike_33 rfl ?_
        refine w_getR (c' := (42, 0, 0)) fl_RX11_157 rfl rfl (ic_10 (by decide)) dX11_alike_36 rfl ?_
        refine w_iload_n dX11_alike_39 rfl 1 rfl ?_
        refine w_aald rfl rfl rfl (fun _ => rfl) (ic_42 (by decide)) (rfl : v.toInt = v.toInt) (lf_c_X11_alike_0 v h4_) dX11_alike_40 (fun j23_ h24_ h25_ => ?_)
        refine w_astore (ls' := [(6, vR (9, 0, j23_)), (0, vR (11, 0, 0)), (1, vI v), (2, vI u), (3, vI t), (4, vI s), (5, vI q)]) dX11_alike_41 (by decide) rfl ?_
        refine w_iload_n dX11_alike_43 rfl 4 rfl ?_
        refine w_iconst (v := 1) dX11_alike_44 (by decide) ?_
        refine w_aload dX11_alike_45 0 rfl ?_
        refine w_callV (as := []) (rest := [vI 1, vI t]) (c_X9_reach l G cy ad (d + 3) 0 j23_ Mz hIz (by first | decide | (unfold vF; omega) | (unfold vRw; omega)) h25_) kV_X9_reach (by decide +kernel) (Nat.le_of_ble_eq_true rfl) m_648 rfl rfl rfl (ic_9 (by decide) h25_) rfl rfl (by decide) (Nat.le_of_ble_eq_true rfl) dX11_alike_47 (fun r26_ M27_ q28_ => ?_)
        obtain ⟨rfl, h29_⟩ := q28_
        refine w_callS (as := [vI t, vI 1, vI r26_]) (rest := []) (c_X11_within l G cy ad (d + 3) t 1 r26_ Mz hIz) kS_X11_within (by decide +kernel) (Nat.le_of_ble_eq_true rfl) m_494 rfl rfl (by decide) (Nat.le_of_ble_eq_true rfl) dX11_alike_50 (fun r30_ M31_ q32_ => ?_)
        obtain ⟨rfl, h33_⟩ := q32_
        rcases h33_ with ⟨rfl, h33_⟩ | ⟨rfl, h33_⟩
        · simp only [li_1] at h33_
          refine w_if_eq (tgt := 68) dX11_alike_53 (by decide) li_1 (fun h9 => (absurd h9 (by decide))) (fun h34_ => ?_)
          refine w_iload dX11_alike_56 6 rfl ?_
          refine w_iconst (v := 0) dX11_alike_58 (by decide) ?_
          refine w_sipush (v := 999) dX11_alike_59 (by decide) ?_
          refine w_callS (as := [vI q, vI 0, vI 999]) (rest := []) (c_X11_within l G cy ad (d + 3) q 0 999 Mz hIz) kS_X11_within (by decide +kernel) (Nat.le_of_ble_eq_true rfl) m_494 rfl rfl (by decide) (Nat.le_of_ble_eq_true rfl) dX11_alike_62 (fun r35_ M36_ q37_ => ?_)
          obtain ⟨rfl, h38_⟩ := q37_
          rcases h38_ with ⟨rfl, h38_⟩ | ⟨rfl, h38_⟩
          · simp only [li_0, li_999] at h38_
            refine w_if_ne (tgt := 74) dX11_alike_65 (by decide) li_1 (fun h39_ => ?_) (fun h9 => (absurd h9 (by decide)))
            refine w_aload_n dX11_alike_74 rfl 1 rfl ?_
            refine w_getR (c' := (10, 0, 0)) fl_RX11_10 rfl rfl ic_11 dX11_alike_75 rfl ?_
            refine w_getR (c' := (2, 0, 0)) fl_RX11_114 rfl rfl (ic_10 (by decide)) dX11_alike_78 rfl ?_
            refine w_aload dX11_alike_81 0 rfl ?_
            refine w_callV (as := []) (rest := [vR (2, 0, 0)]) (c_X9_ears l G cy ad (d + 3) 0 j23_ Mz hIz (by first | decide | (unfold vF; omega) | (unfold vRw; omega)) h25_) kV_X9_ears (by decide +kernel) (Nat.le_of_ble_eq_true rfl) m_951 rfl rfl rfl (ic_9 (by decide) h25_) rfl rfl (by decide) (Nat.le_of_ble_eq_true rfl) dX11_alike_83 (fun r40_ M41_ q42_ => ?_)
            obtain ⟨rfl, h43_⟩ := q42_
            refine w_iload_n dX11_alike_86 rfl 3 rfl ?_
            refine w_iload_n dX11_alike_87 rfl 4 rfl ?_
            refine w_iload dX11_alike_88 5 rfl ?_
            refine w_iload dX11_alike_90 6 rfl ?_
            refine w_callV (as := [vI r40_, vI u, vI t, vI s, vI q]) (rest := []) (c_X2_kindsAlike l G cy ad d 0 r40_ u t s q Mz hIz (by first | decide | (unfold vF; omega) | (unfold vRw; omega))) kV_X2_kindsAlike (by decide +kernel) (Nat.le_of_ble_eq_true rfl) m_952 rfl rfl rfl (ic_2 (by decide)) rfl rfl (by decide) (Nat.le_of_ble_eq_true rfl) dX11_alike_92 (fun r44_ M45_ q46_ => ?_)
            obtain ⟨hI48_, hF49_, h47_⟩ := q46_
            have hF50_ := hFz.tr hF49_ (fun c k => (fun h => h.elim (fun h => (Or.inr (Or.inl ⟨h.1, h.2.1, h.2.2⟩))) (fun h => h.elim (fun h => (Or.inr (Or.inr (Or.inl ⟨h.1, h.2.1, h.2.2⟩)))) (fun h => h.elim (fun h => (Or.inr (Or.inr (Or.inr (Or.inl ⟨h.1, h.2.1, h.2.2⟩))))) (fun h => h.elim (fun h => (Or.inr (Or.inr (Or.inr (Or.inr (Or.inl ⟨h.1, h.2.1, h.2.2⟩)))))) (fun h => h.elim (fun h => (Or.inr (Or.inr (Or.inr (Or.inr (Or.inr (Or.inl ⟨h.1, h.2.1, h.2.2⟩))))))) (fun h => h.elim (fun h => (Or.inr (Or.inr (Or.inr (Or.inr (Or.inr (Or.inr (Or.inl ⟨h.1, h.2.1, h.2.2⟩)))))))) (fun h => h.elim))))))))
            exact w_iret rfl dX11_alike_95 ⟨hI48_, hF50_, trivial⟩
          · simp only [li_0, li_999] at h38_
            refine w_if_ne (tgt := 74) dX11_alike_65 (by decide) li_0 (fun h9 => (absurd h9 (by decide))) (fun h51_ => ?_)
            refine w_aload_n dX11_alike_68 rfl 1 rfl ?_
            refine w_iconst (v := 1) dX11_alike_69 (by decide) ?_
            refine w_callV (as := [vI 1]) (rest := []) (c_X11_error l G cy ad (d + 3) 1 Mz hIz) kV_X11_error (by decide +kernel) (Nat.le_of_ble_eq_true rfl) m_500 rfl rfl rfl ic_11 rfl rfl (by decide) (Nat.le_of_ble_eq_true rfl) dX11_alike_70 (fun r52_ M53_ q54_ => ?_)
            obtain ⟨hI56_, hF57_, h55_⟩ := q54_
            have hF58_ := hFz.tr hF57_ (fun c k => (fun h => h.elim (fun h => (Or.inl ⟨h.1, h.2⟩)) (fun h => h.elim)))
            exact w_iret rfl dX11_alike_73 ⟨hI56_, hF58_, trivial⟩
        · simp only [li_1] at h33_
          refine w_if_eq (tgt := 68) dX11_alike_53 (by decide) li_0 (fun h59_ => ?_) (fun h9 => (absurd h9 (by decide)))
          refine w_aload_n dX11_alike_68 rfl 1 rfl ?_
          refine w_iconst (v := 1) dX11_alike_69 (by decide) ?_
          refine w_callV (as := [vI 1]) (rest := []) (c_X11_error l G cy ad (d + 3) 1 Mz hIz) kV_X11_error (by decide +kernel) (Nat.le_of_ble_eq_true rfl) m_500 rfl rfl rfl ic_11 rfl rfl (by decide) (Nat.le_of_ble_eq_true rfl) dX11_alike_70 (fun r60_ M61_ q62_ => ?_)
          obtain ⟨hI64_, hF65_, h63_⟩ := q62_
          have hF66_ := hFz.tr hF65_ (fun c k => (fun h => h.elim (fun h => (Or.inl ⟨h.1, h.2⟩)) (fun h => h.elim)))
          exact w_iret rfl dX11_alike_73 ⟨hI64_, hF66_, trivial⟩
      · refine w_if_ne (tgt := 32) dX11_alike_23 (by decide) li_0 (fun h9 => (absurd h9 (by decide))) (fun h67_ => ?_)
        refine w_aload_n dX11_alike_26 rfl 0 rfl ?_
        refine w_iconst (v := 1) dX11_alike_27 (by decide) ?_
        refine w_callV (as := [vI 1]) (rest := []) (c_X11_error l G cy ad (d + 3) 1 Mz hIz) kV_X11_error (by decide +kernel) (Nat.le_of_ble_eq_true rfl) m_500 rfl rfl rfl ic_11 rfl rfl (by decide) (Nat.le_of_ble_eq_true rfl) dX11_alike_28 (fun r68_ M69_ q70_ => ?_)
        obtain ⟨hI72_, hF73_, h71_⟩ := q70_
        have hF74_ := hFz.tr hF73_ (fun c k => (fun h => h.elim (fun h => (Or.inl ⟨h.1, h.2⟩)) (fun h => h.elim)))
        exact w_iret rfl dX11_alike_31 ⟨hI72_, hF74_, trivial⟩
  · refine w_if_eq (tgt := 26) dX11_alike_8 (by decide) li_0 (fun h75_ => ?_) (fun h9 => (absurd h9 (by decide)))
    refine w_aload_n dX11_alike_26 rfl 0 rfl ?_
    refine w_iconst (v := 1) dX11_alike_27 (by decide) ?_
    refine w_callV (as := [vI 1]) (rest := []) (c_X11_error l G cy ad (d + 3) 1 Mz hIz) kV_X11_error (by decide +kernel) (Nat.le_of_ble_eq_true rfl) m_500 rfl rfl rfl ic_11 rfl rfl (by decide) (Nat.le_of_ble_eq_true rfl) dX11_alike_28 (fun r76_ M77_ q78_ => ?_)
    obtain ⟨hI80_, hF81_, h79_⟩ := q78_
    have hF82_ := hFz.tr hF81_ (fun c k => (fun h => h.elim (fun h => (Or.inl ⟨h.1, h.2⟩)) (fun h => h.elim)))
    exact w_iret rfl dX11_alike_31 ⟨hI80_, hF82_, trivial⟩
def S_c_X11_least : rf → Nat → Prop := fun c k => (c.1 = 29 ∧ c.2.1 = 0 ∧ k = 0) ∨ (c.1 = 29 ∧ c.2.1 = 0 ∧ k = 1) ∨ (c.1 = 29 ∧ c.2.1 = 0 ∧ k = 2) ∨ (c.1 = 29 ∧ c.2.1 = 0 ∧ k = 3) ∨ (c.1 = 25 ∧ c.2.1 = 0 ∧ c.2.2 = 0) ∨ (c.1 = 25 ∧ c.2.1 = 0 ∧ c.2.2 = 1) ∨ (c.1 = 44 ∧ c.2.1 = 0) ∨ False
theorem lf_c_X11_least_0  (v : Int32) (h4_ : 0 ≤ v.toInt ∧ v.toInt ≤ 7) : 0 ≤ v.toInt ∧ v.toInt < ((8 : Nat) : Int) := by have r_v := rngI v; omega
set_option maxHeartbeats 4000000 in
set_option maxRecDepth 100000 in
theorem c_X11_least (l : Launch) (G : va_G) (cy : Nat → ClassId) (ad : rf → Nat) (d : Nat) (v : Int32) (u : Int32) (t : Int32) (s : Int32) (Mz : mM) (hIz : Inv Mz) : WP CC l G cy ad yX11_least cX11_least 7 (some .int) (d + 4) 0 [(0, vR (11, 0, 0)), (1, vI v), (2, vI u), (3, vI t), (4, vI s)] [] Mz (fun r M' => Inv M' ∧ FR (S_c_X11_least) Mz M' ∧ True) := by
  have hFz : FR (S_c_X11_least) Mz Mz := FR.self
  refine w_aload_n dX11_least_0 rfl 0 rfl ?_
  refine w_getR (c' := (10, 0, 0)) fl_RX11_10 rfl rfl ic_11 dX11_least_1 rfl ?_
  refine w_iload_n dX11_least_4 rfl 1 rfl ?_
  refine w_callV (as := [vI v]) (rest := []) (c_X10_hasWalker l G cy ad (d + 3) 0 v Mz hIz (by first | decide | (unfold vF; omega) | (unfold vRw; omega))) kV_X10_hasWalker (by decide +kernel) (Nat.le_of_ble_eq_true rfl) m_609 rfl rfl rfl (ic_10 (by decide)) rfl rfl (by decide) (Nat.le_of_ble_eq_true rfl) dX11_least_5 (fun r1_ M2_ q3_ => ?_)
  obtain ⟨rfl, h4_⟩ := q3_
  rcases h4_ with ⟨rfl, h4_⟩ | rfl
  · refine w_if_eq (tgt := 38) dX11_least_8 (by decide) li_1 (fun h9 => (absurd h9 (by decide))) (fun h5_ => ?_)
    refine w_iload_n dX11_least_11 rfl 2 rfl ?_
    refine w_callS (as := [vI u]) (rest := []) (c_X11_isThingKind l G cy ad (d + 2) u Mz hIz) kS_X11_isThingKind (by decide +kernel) (Nat.le_of_ble_eq_true rfl) m_491 rfl rfl (by decide) (Nat.le_of_ble_eq_true rfl) dX11_least_12 (fun r6_ M7_ q8_ => ?_)
    obtain ⟨rfl, h9_⟩ := q8_
    rcases h9_ with ⟨rfl, h9_⟩ | ⟨rfl, h9_⟩
    · refine w_if_eq (tgt := 38) dX11_least_15 (by decide) li_1 (fun h9 => (absurd h9 (by decide))) (fun h10_ => ?_)
      refine w_iload_n dX11_least_18 rfl 3 rfl ?_
      refine w_iconst (v := 1) dX11_least_19 (by decide) ?_
      refine w_bipush (v := 15) dX11_least_20 (by decide) ?_
      refine w_callS (as := [vI t, vI 1, vI 15]) (rest := []) (c_X11_within l G cy ad (d + 3) t 1 15 Mz hIz) kS_X11_within (by decide +kernel) (Nat.le_of_ble_eq_true rfl) m_494 rfl rfl (by decide) (Nat.le_of_ble_eq_true rfl) dX11_least_22 (fun r11_ M12_ q13_ => ?_)
      obtain ⟨rfl, h14_⟩ := q13_
      rcases h14_ with ⟨rfl, h14_⟩ | ⟨rfl, h14_⟩
      · simp only [li_1, li_15] at h14_
        refine w_if_eq (tgt := 38) dX11_least_25 (by decide) li_1 (fun h9 => (absurd h9 (by decide))) (fun h15_ => ?_)
        refine w_iload dX11_least_28 4 rfl ?_
        refine w_iconst (v := 0) dX11_least_30 (by decide) ?_
        refine w_iconst (v := 1) dX11_least_31 (by decide) ?_
        refine w_callS (as := [vI s, vI 0, vI 1]) (rest := []) (c_X11_within l G cy ad (d + 3) s 0 1 Mz hIz) kS_X11_within (by decide +kernel) (Nat.le_of_ble_eq_true rfl) m_494 rfl rfl (by decide) (Nat.le_of_ble_eq_true rfl) dX11_least_32 (fun r16_ M17_ q18_ => ?_)
        obtain ⟨rfl, h19_⟩ := q18_
        rcases h19_ with ⟨rfl, h19_⟩ | ⟨rfl, h19_⟩
        · simp only [li_0, li_1] at h19_
          refine w_if_ne (tgt := 44) dX11_least_35 (by decide) li_1 (fun h20_ => ?_) (fun h9 => (absurd h9 (by decide)))
          refine w_aload_n dX11_least_44 rfl 0 rfl ?_
          refine w_getR (c' := (10, 0, 0)) fl_RX11_10 rfl rfl ic_11 dX11_least_45 rfl ?_
          refine w_getR (c' := (42, 0, 0)) fl_RX11_157 rfl rfl (ic_10 (by decide)) dX11_least_48 rfl ?_
          refine w_iload_n dX11_least_51 rfl 1 rfl ?_
          refine w_aald rfl rfl rfl (fun _ => rfl) (ic_42 (by decide)) (rfl : v.toInt = v.toInt) (lf_c_X11_least_0 v h4_) dX11_least_52 (fun j21_ h22_ h23_ => ?_)
          refine w_astore (ls' := [(5, vR (9, 0, j21_)), (0, vR (11, 0, 0)), (1, vI v), (2, vI u), (3, vI t), (4, vI s)]) dX11_least_53 (by decide) rfl ?_
          refine w_iload_n dX11_least_55 rfl 4 rfl ?_
          refine w_aload dX11_least_56 0 rfl ?_
          refine w_callV (as := []) (rest := [vI t]) (c_X9_reach l G cy ad (d + 3) 0 j21_ Mz hIz (by first | decide | (unfold vF; omega) | (unfold vRw; omega)) h23_) kV_X9_reach (by decide +kernel) (Nat.le_of_ble_eq_true rfl) m_648 rfl rfl rfl (ic_9 (by decide) h23_) rfl rfl (by decide) (Nat.le_of_ble_eq_true rfl) dX11_least_58 (fun r24_ M25_ q26_ => ?_)
          obtain ⟨rfl, h27_⟩ := q26_
          refine w_icmp_le (tgt := 70) dX11_least_61 (by decide) (rfl : t.toInt = t.toInt) (rfl : r24_.toInt = r24_.toInt) (fun h28_ => ?_) (fun h28_ => ?_)
          · refine w_iload dX11_least_70 5 rfl ?_
            refine w_if_ne (tgt := 95) dX11_least_72 (by decide) (rfl : s.toInt = s.toInt) (fun h29_ => ?_) (fun h29_ => ?_)
            · refine w_aload_n dX11_least_95 rfl 1 rfl ?_
              refine w_getR (c' := (10, 0, 0)) fl_RX11_10 rfl rfl ic_11 dX11_least_96 rfl ?_
              refine w_getR (c' := (2, 0, 0)) fl_RX11_114 rfl rfl (ic_10 (by decide)) dX11_least_99 rfl ?_
              refine w_aload dX11_least_102 0 rfl ?_
              refine w_callV (as := []) (rest := [vR (2, 0, 0)]) (c_X9_ears l G cy ad (d + 3) 0 j21_ Mz hIz (by first | decide | (unfold vF; omega) | (unfold vRw; omega)) h23_) kV_X9_ears (by decide +kernel) (Nat.le_of_ble_eq_true rfl) m_951 rfl rfl rfl (ic_9 (by decide) h23_) rfl rfl (by decide) (Nat.le_of_ble_eq_true rfl) dX11_least_104 (fun r30_ M31_ q32_ => ?_)
              obtain ⟨rfl, h33_⟩ := q32_
              refine w_iload_n dX11_least_107 rfl 3 rfl ?_
              refine w_iload_n dX11_least_108 rfl 4 rfl ?_
              refine w_callV (as := [vI r30_, vI u, vI t]) (rest := []) (c_X2_leastLoudness l G cy ad d 0 r30_ u t Mz hIz (by first | decide | (unfold vF; omega) | (unfold vRw; omega))) kV_X2_leastLoudness (by decide +kernel) (Nat.le_of_ble_eq_true rfl) m_965 rfl rfl rfl (ic_2 (by decide)) rfl rfl (by decide) (Nat.le_of_ble_eq_true rfl) dX11_least_109 (fun r34_ M35_ q36_ => ?_)
              obtain ⟨hI38_, hF39_, h37_⟩ := q36_
              have hF40_ := hFz.tr hF39_ (fun c k => (fun h => h.elim (fun h => (Or.inl ⟨h.1, h.2.1, h.2.2⟩)) (fun h => h.elim (fun h => (Or.inr (Or.inl ⟨h.1, h.2.1, h.2.2⟩))) (fun h => h.elim (fun h => (Or.inr (Or.inr (Or.inl ⟨h.1, h.2.1, h.2.2⟩)))) (fun h => h.elim (fun h => (Or.inr (Or.inr (Or.inr (Or.inl ⟨h.1, h.2.1, h.2.2⟩))))) (fun h => h.elim (fun h => (Or.inr (Or.inr (Or.inr (Or.inr (Or.inl ⟨h.1, h.2.1, h.2.2⟩)))))) (fun h => h.elim (fun h => (Or.inr (Or.inr (Or.inr (Or.inr (Or.inr (Or.inl ⟨h.1, h.2.1, h.2.2⟩))))))) (fun h => h.elim))))))))
              refine w_istore (ls' := [(6, vI r34_), (5, vR (9, 0, j21_)), (0, vR (11, 0, 0)), (1, vI v), (2, vI u), (3, vI t), (4, vI s)]) dX11_least_112 (by decide) rfl ?_
              refine w_iload dX11_least_114 0 rfl ?_
              refine w_if_ne (tgt := 127) dX11_least_116 (by decide) (rfl : r34_.toInt = r34_.toInt) (fun h41_ => ?_) (fun h41_ => ?_)
              · refine w_iload dX11_least_127 0 rfl ?_
                exact w_iret rfl dX11_least_129 ⟨hI38_, hF40_, trivial⟩
              · refine w_aload_n dX11_least_119 rfl 2 rfl ?_
                refine w_iconst (v := 2) dX11_least_120 (by decide) ?_
                refine w_callV (as := [vI 2]) (rest := []) (c_X11_error l G cy ad (d + 3) 2 M35_ hI38_) kV_X11_error (by decide +kernel) (Nat.le_of_ble_eq_true rfl) m_500 rfl rfl rfl ic_11 rfl rfl (by decide) (Nat.le_of_ble_eq_true rfl) dX11_least_121 (fun r42_ M43_ q44_ => ?_)
                obtain ⟨hI46_, hF47_, h45_⟩ := q44_
                have hF48_ := hF40_.tr hF47_ (fun c k => (fun h => h.elim (fun h => (Or.inr (Or.inr (Or.inr (Or.inr (Or.inr (Or.inr (Or.inl ⟨h.1, h.2⟩)))))))) (fun h => h.elim)))
                refine w_goto (tgt := 129) dX11_least_124 (by decide) ?_
                exact w_iret rfl dX11_least_129 ⟨hI46_, hF48_, trivial⟩
            · refine w_aload_n dX11_least_75 rfl 1 rfl ?_
              refine w_getR (c' := (10, 0, 0)) fl_RX11_10 rfl rfl ic_11 dX11_least_76 rfl ?_
              refine w_getR (c' := (2, 0, 0)) fl_RX11_114 rfl rfl (ic_10 (by decide)) dX11_least_79 rfl ?_
              refine w_aload dX11_least_82 0 rfl ?_
              refine w_callV (as := []) (rest := [vR (2, 0, 0)]) (c_X9_ears l G cy ad (d + 3) 0 j21_ Mz hIz (by first | decide | (unfold vF; omega) | (unfold vRw; omega)) h23_) kV_X9_ears (by decide +kernel) (Nat.le_of_ble_eq_true rfl) m_951 rfl rfl rfl (ic_9 (by decide) h23_) rfl rfl (by decide) (Nat.le_of_ble_eq_true rfl) dX11_least_84 (fun r49_ M50_ q51_ => ?_)
              obtain ⟨rfl, h52_⟩ := q51_
              refine w_iload_n dX11_least_87 rfl 3 rfl ?_
              refine w_iload_n dX11_least_88 rfl 4 rfl ?_
              refine w_callV (as := [vI r49_, vI u, vI t]) (rest := []) (c_X2_leastPitch l G cy ad d 0 r49_ u t Mz hIz (by first | decide | (unfold vF; omega) | (unfold vRw; omega))) kV_X2_leastPitch (by decide +kernel) (Nat.le_of_ble_eq_true rfl) m_961 rfl rfl rfl (ic_2 (by decide)) rfl rfl (by decide) (Nat.le_of_ble_eq_true rfl) dX11_least_89 (fun r53_ M54_ q55_ => ?_)
              obtain ⟨hI57_, hF58_, h56_⟩ := q55_
              have hF59_ := hFz.tr hF58_ (fun c k => (fun h => h.elim (fun h => (Or.inl ⟨h.1, h.2.1, h.2.2⟩)) (fun h => h.elim (fun h => (Or.inr (Or.inl ⟨h.1, h.2.1, h.2.2⟩))) (fun h => h.elim (fun h => (Or.inr (Or.inr (Or.inl ⟨h.1, h.2.1, h.2.2⟩)))) (fun h => h.elim (fun h => (Or.inr (Or.inr (Or.inr (Or.inl ⟨h.1, h.2.1, h.2.2⟩))))) (fun h => h.elim (fun h => (Or.inr (Or.inr (Or.inr (Or.inr (Or.inl ⟨h.1, h.2.1, h.2.2⟩)))))) (fun h => h.elim (fun h => (Or.inr (Or.inr (Or.inr (Or.inr (Or.inr (Or.inl ⟨h.1, h.2.1, h.2.2⟩))))))) (fun h => h.elim))))))))
              refine w_goto (tgt := 112) dX11_least_92 (by decide) ?_
              refine w_istore (ls' := [(6, vI r53_), (5, vR (9, 0, j21_)), (0, vR (11, 0, 0)), (1, vI v), (2, vI u), (3, vI t), (4, vI s)]) dX11_least_112 (by decide) rfl ?_
              refine w_iload dX11_least_114 0 rfl ?_
              refine w_if_ne (tgt := 127) dX11_least_116 (by decide) (rfl : r53_.toInt = r53_.toInt) (fun h60_ => ?_) (fun h60_ => ?_)
              · refine w_iload dX11_least_127 0 rfl ?_
                exact w_iret rfl dX11_least_129 ⟨hI57_, hF59_, trivial⟩
              · refine w_aload_n dX11_least_119 rfl 2 rfl ?_
                refine w_iconst (v := 2) dX11_least_120 (by decide) ?_
                refine w_callV (as := [vI 2]) (rest := []) (c_X11_error l G cy ad (d + 3) 2 M54_ hI57_) kV_X11_error (by decide +kernel) (Nat.le_of_ble_eq_true rfl) m_500 rfl rfl rfl ic_11 rfl rfl (by decide) (Nat.le_of_ble_eq_true rfl) dX11_least_121 (fun r61_ M62_ q63_ => ?_)
                obtain ⟨hI65_, hF66_, h64_⟩ := q63_
                have hF67_ := hF59_.tr hF66_ (fun c k => (fun h => h.elim (fun h => (Or.inr (Or.inr (Or.inr (Or.inr (Or.inr (Or.inr (Or.inl ⟨h.1, h.2⟩)))))))) (fun h => h.elim)))
                refine w_goto (tgt := 129) dX11_least_124 (by decide) ?_
                exact w_iret rfl dX11_least_129 ⟨hI65_, hF67_, trivial⟩
          · refine w_aload_n dX11_least_64 rfl 1 rfl ?_
            refine w_iconst (v := 2) dX11_least_65 (by decide) ?_
            refine w_callV (as := [vI 2]) (rest := []) (c_X11_error l G cy ad (d + 3) 2 Mz hIz) kV_X11_error (by decide +kernel) (Nat.le_of_ble_eq_true rfl) m_500 rfl rfl rfl ic_11 rfl rfl (by decide) (Nat.le_of_ble_eq_true rfl) dX11_least_66 (fun r68_ M69_ q70_ => ?_)
            obtain ⟨hI72_, hF73_, h71_⟩ := q70_
            have hF74_ := hFz.tr hF73_ (fun c k => (fun h => h.elim (fun h => (Or.inr (Or.inr (Or.inr (Or.inr (Or.inr (Or.inr (Or.inl ⟨h.1, h.2⟩)))))))) (fun h => h.elim)))
            exact w_iret rfl dX11_least_69 ⟨hI72_, hF74_, trivial⟩
        · simp only [li_0, li_1] at h19_
          refine w_if_ne (tgt := 44) dX11_least_35 (by decide) li_0 (fun h9 => (absurd h9 (by decide))) (fun h75_ => ?_)
          refine w_aload_n dX11_least_38 rfl 0 rfl ?_
          refine w_iconst (v := 1) dX11_least_39 (by decide) ?_
          refine w_callV (as := [vI 1]) (rest := []) (c_X11_error l G cy ad (d + 3) 1 Mz hIz) kV_X11_error (by decide +kernel) (Nat.le_of_ble_eq_true rfl) m_500 rfl rfl rfl ic_11 rfl rfl (by decide) (Nat.le_of_ble_eq_true rfl) dX11_least_40 (fun r76_ M77_ q78_ => ?_)
          obtain ⟨hI80_, hF81_, h79_⟩ := q78_
          have hF82_ := hFz.tr hF81_ (fun c k => (fun h => h.elim (fun h => (Or.inr (Or.inr (Or.inr (Or.inr (Or.inr (Or.inr (Or.inl ⟨h.1, h.2⟩)))))))) (fun h => h.elim)))
          exact w_iret rfl dX11_least_43 ⟨hI80_, hF82_, trivial⟩
      · simp only [li_1, li_15] at h14_
        refine w_if_eq (tgt := 38) dX11_least_25 (by decide) li_0 (fun h83_ => ?_) (fun h9 => (absurd h9 (by decide)))
        refine w_aload_n dX11_least_38 rfl 0 rfl ?_
        refine w_iconst (v := 1) dX11_least_39 (by decide) ?_
        refine w_callV (as := [vI 1]) (rest := []) (c_X11_error l G cy ad (d + 3) 1 Mz hIz) kV_X11_error (by decide +kernel) (Nat.le_of_ble_eq_true rfl) m_500 rfl rfl rfl ic_11 rfl rfl (by decide) (Nat.le_of_ble_eq_true rfl) dX11_least_40 (fun r84_ M85_ q86_ => ?_)
        obtain ⟨hI88_, hF89_, h87_⟩ := q86_
        have hF90_ := hFz.tr hF89_ (fun c k => (fun h => h.elim (fun h => (Or.inr (Or.inr (Or.inr (Or.inr (Or.inr (Or.inr (Or.inl ⟨h.1, h.2⟩)))))))) (fun h => h.elim)))
        exact w_iret rfl dX11_least_43 ⟨hI88_, hF90_, trivial⟩
    · refine w_if_eq (tgt := 38) dX11_least_15 (by decide) li_0 (fun h91_ => ?_) (fun h9 => (absurd h9 (by decide)))
      refine w_aload_n dX11_least_38 rfl 0 rfl ?_
      refine w_iconst (v := 1) dX11_least_39 (by decide) ?_
      refine w_callV (as := [vI 1]) (rest := []) (c_X11_error l G cy ad (d + 3) 1 Mz hIz) kV_X11_error (by decide +kernel) (Nat.le_of_ble_eq_true rfl) m_500 rfl rfl rfl ic_11 rfl rfl (by decide) (Nat.le_of_ble_eq_true rfl) dX11_least_40 (fun r92_ M93_ q94_ => ?_)
      obtain ⟨hI96_, hF97_, h95_⟩ := q94_
      have hF98_ := hFz.tr hF97_ (fun c k => (fun h => h.elim (fun h => (Or.inr (Or.inr (Or.inr (Or.inr (Or.inr (Or.inr (Or.inl ⟨h.1, h.2⟩)))))))) (fun h => h.elim)))
      exact w_iret rfl dX11_least_43 ⟨hI96_, hF98_, trivial⟩
  · refine w_if_eq (tgt := 38) dX11_least_8 (by decide) li_0 (fun h99_ => ?_) (fun h9 => (absurd h9 (by decide)))
    refine w_aload_n dX11_least_38 rfl 0 rfl ?_
    refine w_iconst (v := 1) dX11_least_39 (by decide) ?_
    refine w_callV (as := [vI 1]) (rest := []) (c_X11_error l G cy ad (d + 3) 1 Mz hIz) kV_X11_error (by decide +kernel) (Nat.le_of_ble_eq_true rfl) m_500 rfl rfl rfl ic_11 rfl rfl (by decide) (Nat.le_of_ble_eq_true rfl) dX11_least_40 (fun r100_ M101_ q102_ => ?_)
    obtain ⟨hI104_, hF105_, h103_⟩ := q102_
    have hF106_ := hFz.tr hF105_ (fun c k => (fun h => h.elim (fun h => (Or.inr (Or.inr (Or.inr (Or.inr (Or.inr (Or.inr (Or.inl ⟨h.1, h.2⟩)))))))) (fun h => h.elim)))
    exact w_iret rfl dX11_least_43 ⟨hI104_, hF106_, trivial⟩
def S_c_X11_goes : rf → Nat → Prop := fun c k => (c.1 = 9 ∧ c.2.1 = 0 ∧ k = 6) ∨ (c.1 = 44 ∧ c.2.1 = 0) ∨ False
theorem lf_c_X11_goes_0  (v : Int32) (h4_ : 0 ≤ v.toInt ∧ v.toInt ≤ 7) : 0 ≤ v.toInt ∧ v.toInt < ((8 : Nat) : Int) := by have r_v := rngI v; omega
theorem lf_c_X11_goes_1 (Mz : mM) (v : Int32) (j6_ : Nat) (z9_ : Int32) (h4_ : 0 ≤ v.toInt ∧ v.toInt ≤ 7) (h7_ : (j6_ : Int) = v.toInt) (h8_ : j6_ < 8) (e10_ : z9_ = Mz.1 (9, 0, j6_) 6) (h11_ : 0 ≤ z9_.toInt ∧ z9_.toInt ≤ 1) : 0 ≤ v.toInt ∧ v.toInt < ((8 : Nat) : Int) := by have r_v := rngI v; have r_z9_ := rngI z9_; subst e10_; omega
set_option maxHeartbeats 4000000 in
set_option maxRecDepth 100000 in
theorem c_X11_goes (l : Launch) (G : va_G) (cy : Nat → ClassId) (ad : rf → Nat) (d : Nat) (v : Int32) (u : Int32) (Mz : mM) (hIz : Inv Mz) (hu : 0 ≤ u.toInt ∧ u.toInt ≤ 1) : WP CC l G cy ad yX11_goes cX11_goes 4 (some .int) (d + 1) 0 [(0, vR (11, 0, 0)), (1, vI v), (2, vI u)] [] Mz (fun r M' => Inv M' ∧ FR (S_c_X11_goes) Mz M' ∧ True) := by
  have hFz : FR (S_c_X11_goes) Mz Mz := FR.self
  refine w_aload_n dX11_goes_0 rfl 0 rfl ?_
  refine w_getR (c' := (10, 0, 0)) fl_RX11_10 rfl rfl ic_11 dX11_goes_1 rfl ?_
  refine w_iload_n dX11_goes_4 rfl 1 rfl ?_
  refine w_callV (as := [vI v]) (rest := []) (c_X10_hasWalker l G cy ad d 0 v Mz hIz (by first | decide | (unfold vF; omega) | (unfold vRw; omega))) kV_X10_hasWalker (by decide +kernel) (Nat.le_of_ble_eq_true rfl) m_609 rfl rfl rfl (ic_10 (by decide)) rfl rfl (by decide) (Nat.le_of_ble_eq_true rfl) dX11_goes_5 (fun r1_ M2_ q3_ => ?_)
  obtain ⟨rfl, h4_⟩ := q3_
  rcases h4_ with ⟨rfl, h4_⟩ | rfl
  · refine w_if_ne (tgt := 17) dX11_goes_8 (by decide) li_1 (fun h5_ => ?_) (fun h9 => (absurd h9 (by decide)))
    refine w_aload_n dX11_goes_17 rfl 0 rfl ?_
    refine w_getR (c' := (10, 0, 0)) fl_RX11_10 rfl rfl ic_11 dX11_goes_18 rfl ?_
    refine w_getR (c' := (42, 0, 0)) fl_RX11_157 rfl rfl (ic_10 (by decide)) dX11_goes_21 rfl ?_
    refine w_iload_n dX11_goes_24 rfl 1 rfl ?_
    refine w_aald rfl rfl rfl (fun _ => rfl) (ic_42 (by decide)) (rfl : v.toInt = v.toInt) (lf_c_X11_goes_0 v h4_) dX11_goes_25 (fun j6_ h7_ h8_ => ?_)
    refine w_getI fl_RX11_188 rfl rfl (ic_9 (by decide) h8_) dX11_goes_26 (fun z9_ e10_ => ?_)
    have h11_ : 0 ≤ z9_.toInt ∧ z9_.toInt ≤ 1 := ofEq (P := fun v => 0 ≤ v.toInt ∧ v.toInt ≤ 1) e10_ (hIz (9, 0, j6_) 6 rfl)
    refine w_istore_n (ls' := [(3, vI z9_), (0, vR (11, 0, 0)), (1, vI v), (2, vI u)]) dX11_goes_29 rfl (by decide) rfl ?_
    refine w_aload_n dX11_goes_30 rfl 1 rfl ?_
    refine w_getR (c' := (10, 0, 0)) fl_RX11_10 rfl rfl ic_11 dX11_goes_31 rfl ?_
    refine w_getR (c' := (42, 0, 0)) fl_RX11_157 rfl rfl (ic_10 (by decide)) dX11_goes_34 rfl ?_
    refine w_iload_n dX11_goes_37 rfl 2 rfl ?_
    refine w_aald rfl rfl rfl (fun _ => rfl) (ic_42 (by decide)) (rfl : v.toInt = v.toInt) (lf_c_X11_goes_1 Mz v j6_ z9_ h4_ h7_ h8_ e10_ h11_) dX11_goes_38 (fun j12_ h13_ h14_ => ?_)
    refine w_iload_n dX11_goes_39 rfl 3 rfl ?_
    refine w_putZ CC_nd fl_RX11_188 rfl rfl (ic_9 (by decide) h14_) hu dX11_goes_40 (fun M15_ hM16_ => ?_)
    have hI17_ := hIz.put hM16_ (fun _ => hu)
    have hF18_ := hFz.put hM16_ (Or.inl ⟨rfl, rfl, rfl⟩)
    refine w_iload_n dX11_goes_43 rfl 0 rfl ?_
    refine w_if_eq (tgt := 51) dX11_goes_44 (by decide) (rfl : z9_.toInt = z9_.toInt) (fun h19_ => ?_) (fun h19_ => ?_)
    · refine w_iconst (v := 0) dX11_goes_51 (by decide) ?_
      exact w_iret rfl dX11_goes_52 ⟨hI17_, hF18_, trivial⟩
    · refine w_iconst (v := 1) dX11_goes_47 (by decide) ?_
      refine w_goto (tgt := 52) dX11_goes_48 (by decide) ?_
      exact w_iret rfl dX11_goes_52 ⟨hI17_, hF18_, trivial⟩
  · refine w_if_ne (tgt := 17) dX11_goes_8 (by decide) li_0 (fun h9 => (absurd h9 (by decide))) (fun h20_ => ?_)
    refine w_aload_n dX11_goes_11 rfl 0 rfl ?_
    refine w_iconst (v := 1) dX11_goes_12 (by decide) ?_
    refine w_callV (as := [vI 1]) (rest := []) (c_X11_error l G cy ad d 1 Mz hIz) kV_X11_error (by decide +kernel) (Nat.le_of_ble_eq_true rfl) m_500 rfl rfl rfl ic_11 rfl rfl (by decide) (Nat.le_of_ble_eq_true rfl) dX11_goes_13 (fun r21_ M22_ q23_ => ?_)
    obtain ⟨hI25_, hF26_, h24_⟩ := q23_
    have hF27_ := hFz.tr hF26_ (fun c k => (fun h => h.elim (fun h => (Or.inr (Or.inl ⟨h.1, h.2⟩))) (fun h => h.elim)))
    exact w_iret rfl dX11_goes_16 ⟨hI25_, hF27_, trivial⟩
def S_c_X11_echo : rf → Nat → Prop := fun c k => (c.1 = 44 ∧ c.2.1 = 0) ∨ (c.1 = 29 ∧ c.2.1 = 0 ∧ k = 0) ∨ (c.1 = 29 ∧ c.2.1 = 0 ∧ k = 1) ∨ (c.1 = 29 ∧ c.2.1 = 0 ∧ k = 2) ∨ (c.1 = 29 ∧ c.2.1 = 0 ∧ k = 3) ∨ (c.1 = 25 ∧ c.2.1 = 0 ∧ c.2.2 = 0) ∨ (c.1 = 25 ∧ c.2.1 = 0 ∧ c.2.2 = 1) ∨ False
theorem lf_c_X11_echo_0  (v : Int32) (h4_ : 0 ≤ v.toInt ∧ v.toInt ≤ 7) : 0 ≤ v.toInt ∧ v.toInt < ((8 : Nat) : Int) := by have r_v := rngI v; omega
set_option maxHeartbeats 4000000 in
set_option maxRecDepth 100000 in
theorem c_X11_echo (l : Launch) (G : va_G) (cy : Nat → ClassId) (ad : rf → Nat) (d : Nat) (v : Int32) (u : Int32) (t : Int32) (s : Int32) (Mz : mM) (hIz : Inv Mz) : WP CC l G cy ad yX11_echo cX11_echo 5 (some .int) (d + 4) 0 [(0, vR (11, 0, 0)), (1, vI v), (2, vI u), (3, vI t), (4, vI s)] [] Mz (fun r M' => Inv M' ∧ FR (S_c_X11_echo) Mz M' ∧ True) := by
  have hFz : FR (S_c_X11_echo) Mz Mz := FR.self
  refine w_aload_n dX11_echo_0 rfl 0 rfl ?_
  refine w_getR (c' := (10, 0, 0)) fl_RX11_10 rfl rfl ic_11 dX11_echo_1 rfl ?_
  refine w_iload_n dX11_echo_4 rfl 1 rfl ?_
  refine w_callV (as := [vI v]) (rest := []) (c_X10_hasWalker l G cy ad (d + 3) 0 v Mz hIz (by first | decide | (unfold vF; omega) | (unfold vRw; omega))) kV_X10_hasWalker (by decide +kernel) (Nat.le_of_ble_eq_true rfl) m_609 rfl rfl rfl (ic_10 (by decide)) rfl rfl (by decide) (Nat.le_of_ble_eq_true rfl) dX11_echo_5 (fun r1_ M2_ q3_ => ?_)
  obtain ⟨rfl, h4_⟩ := q3_
  rcases h4_ with ⟨rfl, h4_⟩ | rfl
  · refine w_if_eq (tgt := 35) dX11_echo_8 (by decide) li_1 (fun h9 => (absurd h9 (by decide))) (fun h5_ => ?_)
    refine w_iload_n dX11_echo_11 rfl 2 rfl ?_
    refine w_callS (as := [vI u]) (rest := []) (c_X2_isClick_ l G cy ad (d + 1) u Mz hIz) kS_X2_isClick_ (by decide +kernel) (Nat.le_of_ble_eq_true rfl) m_839 rfl rfl (by decide) (Nat.le_of_ble_eq_true rfl) dX11_echo_12 (fun r6_ M7_ q8_ => ?_)
    obtain ⟨rfl, h9_⟩ := q8_
    refine w_if_eq (tgt := 35) dX11_echo_15 (by decide) (rfl : r6_.toInt = r6_.toInt) (fun h10_ => ?_) (fun h10_ => ?_)
    · refine w_aload_n dX11_echo_35 rfl 0 rfl ?_
      refine w_iconst (v := 1) dX11_echo_36 (by decide) ?_
      refine w_callV (as := [vI 1]) (rest := []) (c_X11_error l G cy ad (d + 3) 1 Mz hIz) kV_X11_error (by decide +kernel) (Nat.le_of_ble_eq_true rfl) m_500 rfl rfl rfl ic_11 rfl rfl (by decide) (Nat.le_of_ble_eq_true rfl) dX11_echo_37 (fun r11_ M12_ q13_ => ?_)
      obtain ⟨hI15_, hF16_, h14_⟩ := q13_
      have hF17_ := hFz.tr hF16_ (fun c k => (fun h => h.elim (fun h => (Or.inl ⟨h.1, h.2⟩)) (fun h => h.elim)))
      exact w_iret rfl dX11_echo_40 ⟨hI15_, hF17_, trivial⟩
    · refine w_iload_n dX11_echo_18 rfl 3 rfl ?_
      refine w_callS (as := [vI t]) (rest := []) (c_X7_isSide l G cy ad (d + 3) t Mz hIz) kS_X7_isSide (by decide +kernel) (Nat.le_of_ble_eq_true rfl) m_539 rfl rfl (by decide) (Nat.le_of_ble_eq_true rfl) dX11_echo_19 (fun r18_ M19_ q20_ => ?_)
      obtain ⟨rfl, h21_⟩ := q20_
      rcases h21_ with ⟨rfl, h21_⟩ | ⟨rfl, h21_⟩
      · refine w_if_eq (tgt := 35) dX11_echo_22 (by decide) li_1 (fun h9 => (absurd h9 (by decide))) (fun h22_ => ?_)
        refine w_iload dX11_echo_25 4 rfl ?_
        refine w_iconst (v := 0) dX11_echo_27 (by decide) ?_
        refine w_iconst (v := 5) dX11_echo_28 (by decide) ?_
        refine w_callS (as := [vI s, vI 0, vI 5]) (rest := []) (c_X11_within l G cy ad (d + 3) s 0 5 Mz hIz) kS_X11_within (by decide +kernel) (Nat.le_of_ble_eq_true rfl) m_494 rfl rfl (by decide) (Nat.le_of_ble_eq_true rfl) dX11_echo_29 (fun r23_ M24_ q25_ => ?_)
        obtain ⟨rfl, h26_⟩ := q25_
        rcases h26_ with ⟨rfl, h26_⟩ | ⟨rfl, h26_⟩
        · simp only [li_0, li_5] at h26_
          refine w_if_ne (tgt := 41) dX11_echo_32 (by decide) li_1 (fun h27_ => ?_) (fun h9 => (absurd h9 (by decide)))
          refine w_aload_n dX11_echo_41 rfl 0 rfl ?_
          refine w_getR (c' := (10, 0, 0)) fl_RX11_10 rfl rfl ic_11 dX11_echo_42 rfl ?_
          refine w_iload_n dX11_echo_45 rfl 1 rfl ?_
          refine w_aload_n dX11_echo_46 rfl 0 rfl ?_
          refine w_getR (c' := (10, 0, 0)) fl_RX11_10 rfl rfl ic_11 dX11_echo_47 rfl ?_
          refine w_getR (c' := (42, 0, 0)) fl_RX11_157 rfl rfl (ic_10 (by decide)) dX11_echo_50 rfl ?_
          refine w_iload_n dX11_echo_53 rfl 1 rfl ?_
          refine w_aald rfl rfl rfl (fun _ => rfl) (ic_42 (by decide)) (rfl : v.toInt = v.toInt) (lf_c_X11_echo_0 v h4_) dX11_echo_54 (fun j28_ h29_ h30_ => ?_)
          refine w_getI fl_RX11_229 rfl rfl (ic_9 (by decide) h30_) dX11_echo_55 (fun z31_ e32_ => ?_)
          refine w_iload_n dX11_echo_58 rfl 3 rfl ?_
          refine w_callV (as := [vI v, vI z31_, vI t]) (rest := []) (c_X10_echoYards l G cy ad (d + 1) 0 v z31_ t Mz hIz (by first | decide | (unfold vF; omega) | (unfold vRw; omega))) kV_X10_echoYards (by decide +kernel) (Nat.le_of_ble_eq_true rfl) m_843 rfl rfl rfl (ic_10 (by decide)) rfl rfl (by decide) (Nat.le_of_ble_eq_true rfl) dX11_echo_59 (fun r33_ M34_ q35_ => ?_)
          obtain ⟨rfl, h36_⟩ := q35_
          refine w_if_ne (tgt := 71) dX11_echo_62 (by decide) (rfl : r33_.toInt = r33_.toInt) (fun h37_ => ?_) (fun h37_ => ?_)
          · refine w_aload_n dX11_echo_71 rfl 0 rfl ?_
            refine w_getR (c' := (10, 0, 0)) fl_RX11_10 rfl rfl ic_11 dX11_echo_72 rfl ?_
            refine w_iload_n dX11_echo_75 rfl 1 rfl ?_
            refine w_iload_n dX11_echo_76 rfl 2 rfl ?_
            refine w_iload_n dX11_echo_77 rfl 3 rfl ?_
            refine w_iload dX11_echo_78 4 rfl ?_
            refine w_callV (as := [vI v, vI u, vI t, vI s]) (rest := []) (c_X10_echoFact l G cy ad d 0 v u t s Mz hIz (by first | decide | (unfold vF; omega) | (unfold vRw; omega))) kV_X10_echoFact (by decide +kernel) (Nat.le_of_ble_eq_true rfl) m_861 rfl rfl rfl (ic_10 (by decide)) rfl rfl (by decide) (Nat.le_of_ble_eq_true rfl) dX11_echo_80 (fun r38_ M39_ q40_ => ?_)
            obtain ⟨hI42_, hF43_, h41_⟩ := q40_
            have hF44_ := hFz.tr hF43_ (fun c k => (fun h => h.elim (fun h => (Or.inr (Or.inl ⟨h.1, h.2.1, h.2.2⟩))) (fun h => h.elim (fun h => (Or.inr (Or.inr (Or.inl ⟨h.1, h.2.1, h.2.2⟩)))) (fun h => h.elim (fun h => (Or.inr (Or.inr (Or.inr (Or.inl ⟨h.1, h.2.1, h.2.2⟩))))) (fun h => h.elim (fun h => (Or.inr (Or.inr (Or.inr (Or.inr (Or.inl ⟨h.1, h.2.1, h.2.2⟩)))))) (fun h => h.elim (fun h => (Or.inr (Or.inr (Or.inr (Or.inr (Or.inr (Or.inl ⟨h.1, h.2.1, h.2.2⟩))))))) (fun h => h.elim (fun h => (Or.inr (Or.inr (Or.inr (Or.inr (Or.inr (Or.inr (Or.inl ⟨h.1, h.2.1, h.2.2⟩)))))))) (fun h => h.elim))))))))
            exact w_iret rfl dX11_echo_83 ⟨hI42_, hF44_, trivial⟩
          · refine w_aload_n dX11_echo_65 rfl 0 rfl ?_
            refine w_iconst (v := 2) dX11_echo_66 (by decide) ?_
            refine w_callV (as := [vI 2]) (rest := []) (c_X11_error l G cy ad (d + 3) 2 Mz hIz) kV_X11_error (by decide +kernel) (Nat.le_of_ble_eq_true rfl) m_500 rfl rfl rfl ic_11 rfl rfl (by decide) (Nat.le_of_ble_eq_true rfl) dX11_echo_67 (fun r45_ M46_ q47_ => ?_)
            obtain ⟨hI49_, hF50_, h48_⟩ := q47_
            have hF51_ := hFz.tr hF50_ (fun c k => (fun h => h.elim (fun h => (Or.inl ⟨h.1, h.2⟩)) (fun h => h.elim)))
            exact w_iret rfl dX11_echo_70 ⟨hI49_, hF51_, trivial⟩
        · simp only [li_0, li_5] at h26_
          refine w_if_ne (tgt := 41) dX11_echo_32 (by decide) li_0 (fun h9 => (absurd h9 (by decide))) (fun h52_ => ?_)
          refine w_aload_n dX11_echo_35 rfl 0 rfl ?_
          refine w_iconst (v := 1) dX11_echo_36 (by decide) ?_
          refine w_callV (as := [vI 1]) (rest := []) (c_X11_error l G cy ad (d + 3) 1 Mz hIz) kV_X11_error (by decide +kernel) (Nat.le_of_ble_eq_true rfl) m_500 rfl rfl rfl ic_11 rfl rfl (by decide) (Nat.le_of_ble_eq_true rfl) dX11_echo_37 (fun r53_ M54_ q55_ => ?_)
          obtain ⟨hI57_, hF58_, h56_⟩ := q55_
          have hF59_ := hFz.tr hF58_ (fun c k => (fun h => h.elim (fun h => (Or.inl ⟨h.1, h.2⟩)) (fun h => h.elim)))
          exact w_iret rfl dX11_echo_40 ⟨hI57_, hF59_, trivial⟩
      · refine w_if_eq (tgt := 35) dX11_echo_22 (by decide) li_0 (fun h60_ => ?_) (fun h9 => (absurd h9 (by decide)))
        refine w_aload_n dX11_echo_35 rfl 0 rfl ?_
        refine w_iconst (v := 1) dX11_echo_36 (by decide) ?_
        refine w_callV (as := [vI 1]) (rest := []) (c_X11_error l G cy ad (d + 3) 1 Mz hIz) kV_X11_error (by decide +kernel) (Nat.le_of_ble_eq_true rfl) m_500 rfl rfl rfl ic_11 rfl rfl (by decide) (Nat.le_of_ble_eq_true rfl) dX11_echo_37 (fun r61_ M62_ q63_ => ?_)
        obtain ⟨hI65_, hF66_, h64_⟩ := q63_
        have hF67_ := hFz.tr hF66_ (fun c k => (fun h => h.elim (fun h => (Or.inl ⟨h.1, h.2⟩)) (fun h => h.elim)))
        exact w_iret rfl dX11_echo_40 ⟨hI65_, hF67_, trivial⟩
  · refine w_if_eq (tgt := 35) dX11_echo_8 (by decide) li_0 (fun h68_ => ?_) (fun h9 => (absurd h9 (by decide)))
    refine w_aload_n dX11_echo_35 rfl 0 rfl ?_
    refine w_iconst (v := 1) dX11_echo_36 (by decide) ?_
    refine w_callV (as := [vI 1]) (rest := []) (c_X11_error l G cy ad (d + 3) 1 Mz hIz) kV_X11_error (by decide +kernel) (Nat.le_of_ble_eq_true rfl) m_500 rfl rfl rfl ic_11 rfl rfl (by decide) (Nat.le_of_ble_eq_true rfl) dX11_echo_37 (fun r69_ M70_ q71_ => ?_)
    obtain ⟨hI73_, hF74_, h72_⟩ := q71_
    have hF75_ := hFz.tr hF74_ (fun c k => (fun h => h.elim (fun h => (Or.inl ⟨h.1, h.2⟩)) (fun h => h.elim)))
    exact w_iret rfl dX11_echo_40 ⟨hI73_, hF75_, trivial⟩
def S_c_X11_farthest : rf → Nat → Prop := fun c k => (c.1 = 44 ∧ c.2.1 = 0) ∨ (c.1 = 29 ∧ c.2.1 = 0 ∧ k = 0) ∨ (c.1 = 29 ∧ c.2.1 = 0 ∧ k = 1) ∨ (c.1 = 29 ∧ c.2.1 = 0 ∧ k = 2) ∨ (c.1 = 29 ∧ c.2.1 = 0 ∧ k = 3) ∨ (c.1 = 25 ∧ c.2.1 = 0 ∧ c.2.2 = 0) ∨ (c.1 = 25 ∧ c.2.1 = 0 ∧ c.2.2 = 1) ∨ False
theorem lf_c_X11_farthest_0  (v : Int32) (h4_ : 0 ≤ v.toInt ∧ v.toInt ≤ 7) : 0 ≤ v.toInt ∧ v.toInt < ((8 : Nat) : Int) := by have r_v := rngI v; omega
theorem lf_c_X11_farthest_1  (v5_49 : Int32) (h24_ : 1 ≤ v5_49.toInt) : -2147483648 ≤ v5_49.toInt + (-1) ∧ v5_49.toInt + (-1) < 2147483648 := by have r_v5_49 := rngI v5_49; omega
theorem lf_c_X11_farthest_2  (v5_49 : Int32) (z44_ : Int32) (h24_ : 1 ≤ v5_49.toInt) (h45_ : z44_.toInt = v5_49.toInt + (-1)) : (z44_.toInt).toNat < (v5_49.toInt).toNat := by have r_v5_49 := rngI v5_49; have r_z44_ := rngI z44_; omega
set_option maxHeartbeats 4000000 in
set_option maxRecDepth 100000 in
theorem c_X11_farthest (l : Launch) (G : va_G) (cy : Nat → ClassId) (ad : rf → Nat) (d : Nat) (v : Int32) (u : Int32) (t : Int32) (Mz : mM) (hIz : Inv Mz) : WP CC l G cy ad yX11_farthest cX11_farthest 6 (some .int) (d + 3) 0 [(0, vR (11, 0, 0)), (1, vI v), (2, vI u), (3, vI t)] [] Mz (fun r M' => Inv M' ∧ FR (S_c_X11_farthest) Mz M' ∧ True) := by
  have hFz : FR (S_c_X11_farthest) Mz Mz := FR.self
  refine w_aload_n dX11_farthest_0 rfl 0 rfl ?_
  refine w_getR (c' := (10, 0, 0)) fl_RX11_10 rfl rfl ic_11 dX11_farthest_1 rfl ?_
  refine w_iload_n dX11_farthest_4 rfl 1 rfl ?_
  refine w_callV (as := [vI v]) (rest := []) (c_X10_hasWalker l G cy ad (d + 2) 0 v Mz hIz (by first | decide | (unfold vF; omega) | (unfold vRw; omega))) kV_X10_hasWalker (by decide +kernel) (Nat.le_of_ble_eq_true rfl) m_609 rfl rfl rfl (ic_10 (by decide)) rfl rfl (by decide) (Nat.le_of_ble_eq_true rfl) dX11_farthest_5 (fun r1_ M2_ q3_ => ?_)
  obtain ⟨rfl, h4_⟩ := q3_
  rcases h4_ with ⟨rfl, h4_⟩ | rfl
  · refine w_if_eq (tgt := 25) dX11_farthest_8 (by decide) li_1 (fun h9 => (absurd h9 (by decide))) (fun h5_ => ?_)
    refine w_iload_n dX11_farthest_11 rfl 2 rfl ?_
    refine w_callS (as := [vI u]) (rest := []) (c_X11_isThingKind l G cy ad (d + 1) u Mz hIz) kS_X11_isThingKind (by decide +kernel) (Nat.le_of_ble_eq_true rfl) m_491 rfl rfl (by decide) (Nat.le_of_ble_eq_true rfl) dX11_farthest_12 (fun r6_ M7_ q8_ => ?_)
    obtain ⟨rfl, h9_⟩ := q8_
    rcases h9_ with ⟨rfl, h9_⟩ | ⟨rfl, h9_⟩
    · refine w_if_eq (tgt := 25) dX11_farthest_15 (by decide) li_1 (fun h9 => (absurd h9 (by decide))) (fun h10_ => ?_)
      refine w_iload_n dX11_farthest_18 rfl 3 rfl ?_
      refine w_callS (as := [vI t]) (rest := []) (c_X2_isClick_ l G cy ad d t Mz hIz) kS_X2_isClick_ (by decide +kernel) (Nat.le_of_ble_eq_true rfl) m_839 rfl rfl (by decide) (Nat.le_of_ble_eq_true rfl) dX11_farthest_19 (fun r11_ M12_ q13_ => ?_)
      obtain ⟨rfl, h14_⟩ := q13_
      refine w_if_ne (tgt := 31) dX11_farthest_22 (by decide) (rfl : r11_.toInt = r11_.toInt) (fun h15_ => ?_) (fun h15_ => ?_)
      · refine w_aload_n dX11_farthest_31 rfl 0 rfl ?_
        refine w_getR (c' := (10, 0, 0)) fl_RX11_10 rfl rfl ic_11 dX11_farthest_32 rfl ?_
        refine w_getR (c' := (42, 0, 0)) fl_RX11_157 rfl rfl (ic_10 (by decide)) dX11_farthest_35 rfl ?_
        refine w_iload_n dX11_farthest_38 rfl 1 rfl ?_
        refine w_aald rfl rfl rfl (fun _ => rfl) (ic_42 (by decide)) (rfl : v.toInt = v.toInt) (lf_c_X11_farthest_0 v h4_) dX11_farthest_39 (fun j16_ h17_ h18_ => ?_)
        refine w_astore (ls' := [(4, vR (9, 0, j16_)), (0, vR (11, 0, 0)), (1, vI v), (2, vI u), (3, vI t)]) dX11_farthest_40 (by decide) rfl ?_
        refine w_aload dX11_farthest_42 0 rfl ?_
        refine w_callV (as := []) (rest := []) (c_X9_reach l G cy ad (d + 2) 0 j16_ Mz hIz (by first | decide | (unfold vF; omega) | (unfold vRw; omega)) h18_) kV_X9_reach (by decide +kernel) (Nat.le_of_ble_eq_true rfl) m_648 rfl rfl rfl (ic_9 (by decide) h18_) rfl rfl (by decide) (Nat.le_of_ble_eq_true rfl) dX11_farthest_44 (fun r19_ M20_ q21_ => ?_)
        obtain ⟨rfl, h22_⟩ := q21_
        refine w_istore (ls' := [(5, vI r19_), (4, vR (9, 0, j16_)), (0, vR (11, 0, 0)), (1, vI v), (2, vI u), (3, vI t)]) dX11_farthest_47 (by decide) rfl ?_
        have lp23_ : ∀ (nn_49 : Nat) (M_49 : mM) (hI_49 : Inv M_49) (hF_49 : FR (S_c_X11_farthest) Mz M_49) (v5_49 : Int32), (v5_49.toInt).toNat < nn_49 → WP CC l G cy ad yX11_farthest cX11_farthest 6 (some .int) (d + 3) 49 [(5, vI v5_49), (4, vR (9, 0, j16_)), (0, vR (11, 0, 0)), (1, vI v), (2, vI u), (3, vI t)] [] M_49 (fun r M' => Inv M' ∧ FR (S_c_X11_farthest) Mz M' ∧ True) := by
          intro nn_49
          induction nn_49 with
          | zero => intro M_49 hI_49 hF_49 v5_49 hm_49; exact absurd hm_49 (Nat.not_lt_zero _)
          | succ nn_49 ih_49 =>
            intro M_49 hI_49 hF_49 v5_49 hm_49
            refine w_iload dX11_farthest_49 0 rfl ?_
            refine w_iconst (v := 1) dX11_farthest_51 (by decide) ?_
            refine w_icmp_lt (tgt := 87) dX11_farthest_52 (by decide) (rfl : v5_49.toInt = v5_49.toInt) li_1 (fun h24_ => ?_) (fun h24_ => ?_)
            · refine w_aload_n dX11_farthest_87 rfl 2 rfl ?_
              refine w_iconst (v := 2) dX11_farthest_88 (by decide) ?_
              refine w_callV (as := [vI 2]) (rest := []) (c_X11_error l G cy ad (d + 2) 2 M_49 hI_49) kV_X11_error (by decide +kernel) (Nat.le_of_ble_eq_true rfl) m_500 rfl rfl rfl ic_11 rfl rfl (by decide) (Nat.le_of_ble_eq_true rfl) dX11_farthest_89 (fun r25_ M26_ q27_ => ?_)
              obtain ⟨hI29_, hF30_, h28_⟩ := q27_
              have hF31_ := hF_49.tr hF30_ (fun c k => (fun h => h.elim (fun h => (Or.inl ⟨h.1, h.2⟩)) (fun h => h.elim)))
              exact w_iret rfl dX11_farthest_92 ⟨hI29_, hF31_, trivial⟩
            · refine w_aload_n dX11_farthest_55 rfl 2 rfl ?_
              refine w_getR (c' := (10, 0, 0)) fl_RX11_10 rfl rfl ic_11 dX11_farthest_56 rfl ?_
              refine w_getR (c' := (2, 0, 0)) fl_RX11_114 rfl rfl (ic_10 (by decide)) dX11_farthest_59 rfl ?_
              refine w_aload dX11_farthest_62 1 rfl ?_
              refine w_callV (as := []) (rest := [vR (2, 0, 0)]) (c_X9_ears l G cy ad (d + 2) 0 j16_ M_49 hI_49 (by first | decide | (unfold vF; omega) | (unfold vRw; omega)) h18_) kV_X9_ears (by decide +kernel) (Nat.le_of_ble_eq_true rfl) m_951 rfl rfl rfl (ic_9 (by decide) h18_) rfl rfl (by decide) (Nat.le_of_ble_eq_true rfl) dX11_farthest_64 (fun r32_ M33_ q34_ => ?_)
              obtain ⟨rfl, h35_⟩ := q34_
              refine w_iload_n dX11_farthest_67 rfl 4 rfl ?_
              refine w_iload_n dX11_farthest_68 rfl 5 rfl ?_
              refine w_iload dX11_farthest_69 0 rfl ?_
              refine w_iconst (v := 0) dX11_farthest_71 (by decide) ?_
              refine w_callV (as := [vI r32_, vI u, vI t, vI v5_49, vI 0]) (rest := []) (c_X2_hears l G cy ad d 0 r32_ u t v5_49 0 M_49 hI_49 (by first | decide | (unfold vF; omega) | (unfold vRw; omega))) kV_X2_hears (by decide +kernel) (Nat.le_of_ble_eq_true rfl) m_973 rfl rfl rfl (ic_2 (by decide)) rfl rfl (by decide) (Nat.le_of_ble_eq_true rfl) dX11_farthest_72 (fun r36_ M37_ q38_ => ?_)
              obtain ⟨hI40_, hF41_, h39_⟩ := q38_
              have hF42_ := hF_49.tr hF41_ (fun c k => (fun h => h.elim (fun h => (Or.inr (Or.inl ⟨h.1, h.2.1, h.2.2⟩))) (fun h => h.elim (fun h => (Or.inr (Or.inr (Or.inl ⟨h.1, h.2.1, h.2.2⟩)))) (fun h => h.elim (fun h => (Or.inr (Or.inr (Or.inr (Or.inl ⟨h.1, h.2.1, h.2.2⟩))))) (fun h => h.elim (fun h => (Or.inr (Or.inr (Or.inr (Or.inr (Or.inl ⟨h.1, h.2.1, h.2.2⟩)))))) (fun h => h.elim (fun h => (Or.inr (Or.inr (Or.inr (Or.inr (Or.inr (Or.inl ⟨h.1, h.2.1, h.2.2⟩))))))) (fun h => h.elim (fun h => (Or.inr (Or.inr (Or.inr (Or.inr (Or.inr (Or.inr (Or.inl ⟨h.1, h.2.1, h.2.2⟩)))))))) (fun h => h.elim))))))))
              refine w_if_eq (tgt := 81) dX11_farthest_75 (by decide) (rfl : r36_.toInt = r36_.toInt) (fun h43_ => ?_) (fun h43_ => ?_)
              · refine w_iincB (j := 0) (f := fun z44_ => [(5, vI z44_), (4, vR (9, 0, j16_)), (0, vR (11, 0, 0)), (1, vI v), (2, vI u), (3, vI t)]) dX11_farthest_81 rfl (by decide) (fun _ => rfl) (rfl : v5_49.toInt = v5_49.toInt) li_m1 (lf_c_X11_farthest_1 v5_49 h24_) (fun z44_ h45_ => ?_)
                refine w_goto (tgt := 49) dX11_farthest_84 (by decide) ?_
                refine w_loc (ls' := [(5, vI z44_), (4, vR (9, 0, j16_)), (0, vR (11, 0, 0)), (1, vI v), (2, vI u), (3, vI t)]) [0, 1, 2, 3, 4, 5] rfl ?_
                exact ih_49 M37_ hI40_ hF42_ z44_ (Nat.lt_of_lt_of_le (lf_c_X11_farthest_2 v5_49 z44_ h24_ h45_) (Nat.le_of_lt_succ hm_49))
              · refine w_iload dX11_farthest_78 0 rfl ?_
                exact w_iret rfl dX11_farthest_80 ⟨hI40_, hF42_, trivial⟩
        exact lp23_ _ Mz hIz hFz r19_ (Nat.lt_succ_self _)
      · refine w_aload_n dX11_farthest_25 rfl 0 rfl ?_
        refine w_iconst (v := 1) dX11_farthest_26 (by decide) ?_
        refine w_callV (as := [vI 1]) (rest := []) (c_X11_error l G cy ad (d + 2) 1 Mz hIz) kV_X11_error (by decide +kernel) (Nat.le_of_ble_eq_true rfl) m_500 rfl rfl rfl ic_11 rfl rfl (by decide) (Nat.le_of_ble_eq_true rfl) dX11_farthest_27 (fun r46_ M47_ q48_ => ?_)
        obtain ⟨hI50_, hF51_, h49_⟩ := q48_
        have hF52_ := hFz.tr hF51_ (fun c k => (fun h => h.elim (fun h => (Or.inl ⟨h.1, h.2⟩)) (fun h => h.elim)))
        exact w_iret rfl dX11_farthest_30 ⟨hI50_, hF52_, trivial⟩
    · refine w_if_eq (tgt := 25) dX11_farthest_15 (by decide) li_0 (fun h53_ => ?_) (fun h9 => (absurd h9 (by decide)))
      refine w_aload_n dX11_farthest_25 rfl 0 rfl ?_
      refine w_iconst (v := 1) dX11_farthest_26 (by decide) ?_
      refine w_callV (as := [vI 1]) (rest := []) (c_X11_error l G cy ad (d + 2) 1 Mz hIz) kV_X11_error (by decide +kernel) (Nat.le_of_ble_eq_true rfl) m_500 rfl rfl rfl ic_11 rfl rfl (by decide) (Nat.le_of_ble_eq_true rfl) dX11_farthest_27 (fun r54_ M55_ q56_ => ?_)
      obtain ⟨hI58_, hF59_, h57_⟩ := q56_
      have hF60_ := hFz.tr hF59_ (fun c k => (fun h => h.elim (fun h => (Or.inl ⟨h.1, h.2⟩)) (fun h => h.elim)))
      exact w_iret rfl dX11_farthest_30 ⟨hI58_, hF60_, trivial⟩
  · refine w_if_eq (tgt := 25) dX11_farthest_8 (by decide) li_0 (fun h61_ => ?_) (fun h9 => (absurd h9 (by decide)))
    refine w_aload_n dX11_farthest_25 rfl 0 rfl ?_
    refine w_iconst (v := 1) dX11_farthest_26 (by decide) ?_
    refine w_callV (as := [vI 1]) (rest := []) (c_X11_error l G cy ad (d + 2) 1 Mz hIz) kV_X11_error (by decide +kernel) (Nat.le_of_ble_eq_true rfl) m_500 rfl rfl rfl ic_11 rfl rfl (by decide) (Nat.le_of_ble_eq_true rfl) dX11_farthest_27 (fun r62_ M63_ q64_ => ?_)
    obtain ⟨hI66_, hF67_, h65_⟩ := q64_
    have hF68_ := hFz.tr hF67_ (fun c k => (fun h => h.elim (fun h => (Or.inl ⟨h.1, h.2⟩)) (fun h => h.elim)))
    exact w_iret rfl dX11_farthest_30 ⟨hI66_, hF68_, trivial⟩
