def S_c_X3_findRow (b : Nat) : rf → Nat → Prop := fun c k => (c.1 = 3 ∧ c.2.1 = b ∧ k = 6) ∨ (c.1 = 3 ∧ c.2.1 = b ∧ k = 8) ∨ (c.1 = 3 ∧ c.2.1 = b ∧ k = 7) ∨ (c.1 = 5 ∧ c.2.1 = b ∧ c.2.2 = 2 ∧ k = 1) ∨ (c.1 = 5 ∧ c.2.1 = b ∧ c.2.2 = 3 ∧ k = 1) ∨ (c.1 = 33 ∧ c.2.1 = b ∧ c.2.2 = 3) ∨ (c.1 = 33 ∧ c.2.1 = b ∧ c.2.2 = 2) ∨ False
theorem lf_c_X3_findRow_0 (M1_ : mM) (M5_ : mM) (M9_ : mM) (Mz : mM) (b : Nat) (u : Int32) (hb : b < 3) (hM2_ : M1_ = up Mz (3, b, 0) 6 u) (hM6_ : M5_ = up M1_ (3, b, 0) 8 0) (hM10_ : M9_ = up M5_ (3, b, 0) 7 0) : vRw b 2 := by have r_u := rngI u; unfold vRw; omega
theorem lf_c_X3_findRow_1 (M13_ : mM) (M1_ : mM) (M5_ : mM) (M9_ : mM) (Mz : mM) (b : Nat) (u : Int32) (hb : b < 3) (hM2_ : M1_ = up Mz (3, b, 0) 6 u) (hM6_ : M5_ = up M1_ (3, b, 0) 8 0) (hM10_ : M9_ = up M5_ (3, b, 0) 7 0) (h15_ : (M13_.1 (5, b, 2) 1).toInt = 0) : vRw b 3 := by have r_u := rngI u; unfold vRw; omega
theorem lf_c_X3_findRow_2 (M13_ : mM) (M1_ : mM) (M5_ : mM) (M9_ : mM) (Mz : mM) (b : Nat) (u : Int32) (hb : b < 3) (hM2_ : M1_ = up Mz (3, b, 0) 6 u) (hM6_ : M5_ = up M1_ (3, b, 0) 8 0) (hM10_ : M9_ = up M5_ (3, b, 0) 7 0) (h15_ : (M13_.1 (5, b, 2) 1).toInt = 0) : vRw b 3 := by have r_u := rngI u; unfold vRw; omega
set_option maxHeartbeats 4000000 in
set_option maxRecDepth 100000 in
theorem c_X3_findRow (l : Launch) (G : va_G) (cy : Nat → ClassId) (ad : rf → Nat) (d : Nat) (b : Nat) (v : Int32) (u : Int32) (Mz : mM) (hIz : Inv Mz) (hb : b < 3) : WP CC l G cy ad yX3_findRow cX3_findRow 3 (some .boolean) (d + 17) 0 [(0, vR (3, b, 0)), (1, vI v), (2, vI u)] [] Mz (fun r M' => Inv M' ∧ FR (S_c_X3_findRow b) Mz M' ∧ (0 ≤ r.toInt ∧ r.toInt ≤ 1)) := by
  have hFz : FR (S_c_X3_findRow b) Mz Mz := FR.self
  refine w_aload_n dX3_findRow_0 rfl 0 rfl ?_
  refine w_iload_n dX3_findRow_1 rfl 2 rfl ?_
  refine w_putI CC_nd fl_RX3_35 rfl rfl (ic_3 hb) dX3_findRow_2 (fun M1_ hM2_ => ?_)
  have hI3_ := hIz.put hM2_ (fun h => absurd h (by decide))
  have hF4_ := hFz.put hM2_ (Or.inl ⟨rfl, rfl, rfl⟩)
  refine w_aload_n dX3_findRow_5 rfl 0 rfl ?_
  refine w_iconst (v := 0) dX3_findRow_6 (by decide) ?_
  refine w_putZ CC_nd fl_RX3_41 rfl rfl (ic_3 hb) ⟨by decide, by decide⟩ dX3_findRow_7 (fun M5_ hM6_ => ?_)
  have hI7_ := hI3_.put hM6_ (fun _ => ⟨by decide, by decide⟩)
  have hF8_ := hF4_.put hM6_ (Or.inr (Or.inl ⟨rfl, rfl, rfl⟩))
  refine w_aload_n dX3_findRow_10 rfl 0 rfl ?_
  refine w_iconst (v := 0) dX3_findRow_11 (by decide) ?_
  refine w_putI CC_nd fl_RX3_38 rfl rfl (ic_3 hb) dX3_findRow_12 (fun M9_ hM10_ => ?_)
  have hI11_ := hI7_.put hM10_ (fun h => absurd h (by decide))
  have hF12_ := hF8_.put hM10_ (Or.inr (Or.inr (Or.inl ⟨rfl, rfl, rfl⟩)))
  refine w_aload_n dX3_findRow_15 rfl 0 rfl ?_
  refine w_getR (c' := (5, b, 2)) fl_RX3_28 rfl rfl (ic_3 hb) dX3_findRow_16 rfl ?_
  refine w_callVv (as := []) (rest := []) (c_X5_clear2 l G cy ad (d + 16) b M9_ hI11_ hb) kV_X5_clear (by decide +kernel) (Nat.le_of_ble_eq_true rfl) m_1133 rfl rfl rfl (ic_5 (lf_c_X3_findRow_0 M1_ M5_ M9_ Mz b u hb hM2_ hM6_ hM10_)) rfl rfl (by decide) (Nat.le_of_ble_eq_true rfl) dX3_findRow_19 (fun M13_ q14_ => ?_)
  obtain ⟨hI16_, hF17_, h15_⟩ := q14_
  have hF18_ := hF12_.tr hF17_ (fun c k => (fun h => h.elim (fun h => (Or.inr (Or.inr (Or.inr (Or.inl ⟨h.1, h.2.1, h.2.2.1, h.2.2.2⟩))))) (fun h => h.elim)))
  refine w_aload_n dX3_findRow_22 rfl 0 rfl ?_
  refine w_getR (c' := (5, b, 3)) fl_RX3_32 rfl rfl (ic_3 hb) dX3_findRow_23 rfl ?_
  refine w_callVv (as := []) (rest := []) (c_X5_clear l G cy ad (d + 16) b 3 M13_ hI16_ (lf_c_X3_findRow_1 M13_ M1_ M5_ M9_ Mz b u hb hM2_ hM6_ hM10_ h15_)) kV_X5_clear (by decide +kernel) (Nat.le_of_ble_eq_true rfl) m_1133 rfl rfl rfl (ic_5 (lf_c_X3_findRow_2 M13_ M1_ M5_ M9_ Mz b u hb hM2_ hM6_ hM10_ h15_)) rfl rfl (by decide) (Nat.le_of_ble_eq_true rfl) dX3_findRow_26 (fun M19_ q20_ => ?_)
  obtain ⟨hI22_, hF23_, h21_⟩ := q20_
  have hF24_ := hF18_.tr hF23_ (fun c k => (fun h => h.elim (fun h => (Or.inr (Or.inr (Or.inr (Or.inr (Or.inl ⟨h.1, h.2.1, h.2.2.1, h.2.2.2⟩)))))) (fun h => h.elim)))
  have kf25_ : (M19_.1 (5, b, 2) 1).toInt = 0 := by rw [(hF23_ (5, b, 2) 1 (by simp [S_c_X5_clear]))]; exact h15_
  refine w_aload_n dX3_findRow_29 rfl 0 rfl ?_
  refine w_iload_n dX3_findRow_30 rfl 1 rfl ?_
  refine w_iconst (v := 0) dX3_findRow_31 (by decide) ?_
  refine w_iconst (v := 0) dX3_findRow_32 (by decide) ?_
  refine w_callVv (as := [vI v, vI 0, vI 0]) (rest := []) (c_X3_try7 l G cy ad d b v 0 0 M19_ hI22_ hb kf25_) kV_X3_tryRows (by decide +kernel) (Nat.le_of_ble_eq_true rfl) m_1134 rfl rfl rfl (ic_3 hb) rfl rfl (by decide) (Nat.le_of_ble_eq_true rfl) dX3_findRow_33 (fun M26_ q27_ => ?_)
  obtain ⟨hI29_, hF30_, h28_⟩ := q27_
  have hF31_ := hF24_.tr hF30_ (fun c k => (fun h => h.elim (fun h => (Or.inr (Or.inr (Or.inl ⟨h.1, h.2.1, h.2.2⟩)))) (fun h => h.elim (fun h => (Or.inr (Or.inl ⟨h.1, h.2.1, h.2.2⟩))) (fun h => h.elim (fun h => (Or.inr (Or.inr (Or.inr (Or.inr (Or.inl ⟨h.1, h.2.1, h.2.2.1, h.2.2.2⟩)))))) (fun h => h.elim (fun h => (Or.inr (Or.inr (Or.inr (Or.inr (Or.inr (Or.inl ⟨h.1, h.2.1, h.2.2⟩))))))) (fun h => h.elim (fun h => (Or.inr (Or.inr (Or.inr (Or.inl ⟨h.1, h.2.1, h.2.2.1, h.2.2.2⟩))))) (fun h => h.elim (fun h => (Or.inr (Or.inr (Or.inr (Or.inr (Or.inr (Or.inr (Or.inl ⟨h.1, h.2.1, h.2.2⟩)))))))) (fun h => h.elim))))))))
  refine w_aload_n dX3_findRow_36 rfl 0 rfl ?_
  refine w_getI fl_RX3_41 rfl rfl (ic_3 hb) dX3_findRow_37 (fun z32_ e33_ => ?_)
  have h34_ : 0 ≤ z32_.toInt ∧ z32_.toInt ≤ 1 := ofEq (P := fun v => 0 ≤ v.toInt ∧ v.toInt ≤ 1) e33_ (hI29_ (3, b, 0) 8 rfl)
  exact w_zret rfl dX3_findRow_40 h34_ ⟨hI29_, hF31_, h34_⟩
def S_c_X11_learn : rf → Nat → Prop := fun c k => (c.1 = 3 ∧ c.2.1 = 0 ∧ k = 6) ∨ (c.1 = 3 ∧ c.2.1 = 0 ∧ k = 8) ∨ (c.1 = 3 ∧ c.2.1 = 0 ∧ k = 7) ∨ (c.1 = 5 ∧ c.2.1 = 0 ∧ c.2.2 = 2 ∧ k = 1) ∨ (c.1 = 5 ∧ c.2.1 = 0 ∧ c.2.2 = 3 ∧ k = 1) ∨ (c.1 = 33 ∧ c.2.1 = 0 ∧ c.2.2 = 3) ∨ (c.1 = 33 ∧ c.2.1 = 0 ∧ c.2.2 = 2) ∨ (c.1 = 44 ∧ c.2.1 = 0) ∨ False
set_option maxHeartbeats 4000000 in
set_option maxRecDepth 100000 in
theorem c_X11_learn (l : Launch) (G : va_G) (cy : Nat → ClassId) (ad : rf → Nat) (d : Nat) (v : Int32) (u : Int32) (t : Int32) (Mz : mM) (hIz : Inv Mz) : WP CC l G cy ad yX11_learn cX11_learn 5 (some .int) (d + 18) 0 [(0, vR (11, 0, 0)), (1, vI v), (2, vI u), (3, vI t)] [] Mz (fun r M' => Inv M' ∧ FR (S_c_X11_learn) Mz M' ∧ True) := by
  have hFz : FR (S_c_X11_learn) Mz Mz := FR.self
  refine w_iload_n dX11_learn_0 rfl 1 rfl ?_
  refine w_callS (as := [vI v]) (rest := []) (c_X11_isBits l G cy ad (d + 16) v Mz hIz) kS_X11_isBits (by decide +kernel) (Nat.le_of_ble_eq_true rfl) m_1114 rfl rfl (by decide) (Nat.le_of_ble_eq_true rfl) dX11_learn_1 (fun r1_ M2_ q3_ => ?_)
  obtain ⟨rfl, h4_⟩ := q3_
  rcases h4_ with ⟨rfl, h4_⟩ | ⟨rfl, h4_⟩
  · refine w_if_eq (tgt := 20) dX11_learn_4 (by decide) li_1 (fun h9 => (absurd h9 (by decide))) (fun h5_ => ?_)
    refine w_iload_n dX11_learn_7 rfl 2 rfl ?_
    refine w_callS (as := [vI u]) (rest := []) (c_X11_isBits l G cy ad (d + 16) u Mz hIz) kS_X11_isBits (by decide +kernel) (Nat.le_of_ble_eq_true rfl) m_1114 rfl rfl (by decide) (Nat.le_of_ble_eq_true rfl) dX11_learn_8 (fun r6_ M7_ q8_ => ?_)
    obtain ⟨rfl, h9_⟩ := q8_
    rcases h9_ with ⟨rfl, h9_⟩ | ⟨rfl, h9_⟩
    · refine w_if_eq (tgt := 20) dX11_learn_11 (by decide) li_1 (fun h9 => (absurd h9 (by decide))) (fun h10_ => ?_)
      refine w_iload_n dX11_learn_14 rfl 3 rfl ?_
      refine w_bipush (v := (-2)) dX11_learn_15 (by decide) ?_
      refine w_icmp_ge (tgt := 26) dX11_learn_17 (by decide) (rfl : t.toInt = t.toInt) li_m2 (fun h11_ => ?_) (fun h11_ => ?_)
      · refine w_aload_n dX11_learn_26 rfl 0 rfl ?_
        refine w_getR (c' := (10, 0, 0)) fl_RX11_10 rfl rfl ic_11 dX11_learn_27 rfl ?_
        refine w_getR (c' := (3, 0, 0)) fl_RX11_313 rfl rfl (ic_10 (by decide)) dX11_learn_30 rfl ?_
        refine w_astore (ls' := [(4, vR (3, 0, 0)), (0, vR (11, 0, 0)), (1, vI v), (2, vI u), (3, vI t)]) dX11_learn_33 (by decide) rfl ?_
        refine w_aload dX11_learn_35 0 rfl ?_
        refine w_iload_n dX11_learn_37 rfl 2 rfl ?_
        refine w_iload_n dX11_learn_38 rfl 3 rfl ?_
        refine w_callV (as := [vI v, vI u]) (rest := []) (c_X3_findRow l G cy ad d 0 v u Mz hIz (by first | decide | (unfold vF; omega) | (unfold vRw; omega))) kV_X3_findRow (by decide +kernel) (Nat.le_of_ble_eq_true rfl) m_1129 rfl rfl rfl (ic_3 (by decide)) rfl rfl (by decide) (Nat.le_of_ble_eq_true rfl) dX11_learn_39 (fun r12_ M13_ q14_ => ?_)
        obtain ⟨hI16_, hF17_, h15_⟩ := q14_
        have hF18_ := hFz.tr hF17_ (fun c k => (fun h => h.elim (fun h => (Or.inl ⟨h.1, h.2.1, h.2.2⟩)) (fun h => h.elim (fun h => (Or.inr (Or.inl ⟨h.1, h.2.1, h.2.2⟩))) (fun h => h.elim (fun h => (Or.inr (Or.inr (Or.inl ⟨h.1, h.2.1, h.2.2⟩)))) (fun h => h.elim (fun h => (Or.inr (Or.inr (Or.inr (Or.inl ⟨h.1, h.2.1, h.2.2.1, h.2.2.2⟩))))) (fun h => h.elim (fun h => (Or.inr (Or.inr (Or.inr (Or.inr (Or.inl ⟨h.1, h.2.1, h.2.2.1, h.2.2.2⟩)))))) (fun h => h.elim (fun h => (Or.inr (Or.inr (Or.inr (Or.inr (Or.inr (Or.inl ⟨h.1, h.2.1, h.2.2⟩))))))) (fun h => h.elim (fun h => (Or.inr (Or.inr (Or.inr (Or.inr (Or.inr (Or.inr (Or.inl ⟨h.1, h.2.1, h.2.2⟩)))))))) (fun h => h.elim)))))))))
        refine w_if_ne (tgt := 51) dX11_learn_42 (by decide) (rfl : r12_.toInt = r12_.toInt) (fun h19_ => ?_) (fun h19_ => ?_)
        · refine w_iload_n dX11_learn_51 rfl 4 rfl ?_
          refine w_iconst (v := (-1)) dX11_learn_52 (by decide) ?_
          refine w_icmp_ne (tgt := 62) dX11_learn_53 (by decide) (rfl : t.toInt = t.toInt) li_m1 (fun h20_ => ?_) (fun h20_ => ?_)
          · refine w_iload_n dX11_learn_62 rfl 4 rfl ?_
            refine w_bipush (v := (-2)) dX11_learn_63 (by decide) ?_
            refine w_icmp_ne (tgt := 77) dX11_learn_65 (by decide) (rfl : t.toInt = t.toInt) li_m2 (fun h21_ => ?_) (fun h21_ => ?_)
            · refine w_iload_n dX11_learn_77 rfl 4 rfl ?_
              refine w_aload dX11_learn_78 0 rfl ?_
              refine w_getR (c' := (5, 0, 3)) fl_RX11_328 rfl rfl (ic_3 (by decide)) dX11_learn_80 rfl ?_
              refine w_getI fl_RX11_205 rfl rfl (ic_5 (by unfold vRw; omega)) dX11_learn_83 (fun z22_ e23_ => ?_)
              refine w_icmp_ge (tgt := 101) dX11_learn_86 (by decide) (rfl : t.toInt = t.toInt) (rfl : z22_.toInt = z22_.toInt) (fun h24_ => ?_) (fun h24_ => ?_)
              · refine w_aload_n dX11_learn_101 rfl 1 rfl ?_
                refine w_iconst (v := 2) dX11_learn_102 (by decide) ?_
                refine w_callV (as := [vI 2]) (rest := []) (c_X11_error l G cy ad (d + 17) 2 M13_ hI16_) kV_X11_error (by decide +kernel) (Nat.le_of_ble_eq_true rfl) m_500 rfl rfl rfl ic_11 rfl rfl (by decide) (Nat.le_of_ble_eq_true rfl) dX11_learn_103 (fun r25_ M26_ q27_ => ?_)
                obtain ⟨hI29_, hF30_, h28_⟩ := q27_
                have hF31_ := hF18_.tr hF30_ (fun c k => (fun h => h.elim (fun h => (Or.inr (Or.inr (Or.inr (Or.inr (Or.inr (Or.inr (Or.inr (Or.inl ⟨h.1, h.2⟩))))))))) (fun h => h.elim)))
                exact w_iret rfl dX11_learn_106 ⟨hI29_, hF31_, trivial⟩
              · refine w_aload dX11_learn_89 0 rfl ?_
                refine w_getR (c' := (5, 0, 3)) fl_RX11_328 rfl rfl (ic_3 (by decide)) dX11_learn_91 rfl ?_
                refine w_iload_n dX11_learn_94 rfl 4 rfl ?_
                refine w_callV (as := [vI t]) (rest := []) (c_X5_get l G cy ad (d + 17) 0 3 t M13_ hI16_ (by first | decide | (unfold vF; omega) | (unfold vRw; omega))) kV_X5_get (by decide +kernel) (Nat.le_of_ble_eq_true rfl) m_1154 rfl rfl rfl (ic_5 (by unfold vRw; omega)) rfl rfl (by decide) (Nat.le_of_ble_eq_true rfl) dX11_learn_95 (fun r32_ M33_ q34_ => ?_)
                obtain ⟨rfl, h35_⟩ := q34_
                refine w_goto (tgt := 106) dX11_learn_98 (by decide) ?_
                exact w_iret rfl dX11_learn_106 ⟨hI16_, hF18_, trivial⟩
            · refine w_aload dX11_learn_68 0 rfl ?_
              refine w_getR (c' := (5, 0, 3)) fl_RX11_328 rfl rfl (ic_3 (by decide)) dX11_learn_70 rfl ?_
              refine w_getI fl_RX11_205 rfl rfl (ic_5 (by unfold vRw; omega)) dX11_learn_73 (fun z36_ e37_ => ?_)
              exact w_iret rfl dX11_learn_76 ⟨hI16_, hF18_, trivial⟩
          · refine w_aload dX11_learn_56 0 rfl ?_
            refine w_getI fl_RX11_325 rfl rfl (ic_3 (by decide)) dX11_learn_58 (fun z38_ e39_ => ?_)
            exact w_iret rfl dX11_learn_61 ⟨hI16_, hF18_, trivial⟩
        · refine w_aload_n dX11_learn_45 rfl 1 rfl ?_
          refine w_iconst (v := 2) dX11_learn_46 (by decide) ?_
          refine w_callV (as := [vI 2]) (rest := []) (c_X11_error l G cy ad (d + 17) 2 M13_ hI16_) kV_X11_error (by decide +kernel) (Nat.le_of_ble_eq_true rfl) m_500 rfl rfl rfl ic_11 rfl rfl (by decide) (Nat.le_of_ble_eq_true rfl) dX11_learn_47 (fun r40_ M41_ q42_ => ?_)
          obtain ⟨hI44_, hF45_, h43_⟩ := q42_
          have hF46_ := hF18_.tr hF45_ (fun c k => (fun h => h.elim (fun h => (Or.inr (Or.inr (Or.inr (Or.inr (Or.inr (Or.inr (Or.inr (Or.inl ⟨h.1, h.2⟩))))))))) (fun h => h.elim)))
          exact w_iret rfl dX11_learn_50 ⟨hI44_, hF46_, trivial⟩
      · refine w_aload_n dX11_learn_20 rfl 0 rfl ?_
        refine w_iconst (v := 1) dX11_learn_21 (by decide) ?_
        refine w_callV (as := [vI 1]) (rest := []) (c_X11_error l G cy ad (d + 17) 1 Mz hIz) kV_X11_error (by decide +kernel) (Nat.le_of_ble_eq_true rfl) m_500 rfl rfl rfl ic_11 rfl rfl (by decide) (Nat.le_of_ble_eq_true rfl) dX11_learn_22 (fun r47_ M48_ q49_ => ?_)
        obtain ⟨hI51_, hF52_, h50_⟩ := q49_
        have hF53_ := hFz.tr hF52_ (fun c k => (fun h => h.elim (fun h => (Or.inr (Or.inr (Or.inr (Or.inr (Or.inr (Or.inr (Or.inr (Or.inl ⟨h.1, h.2⟩))))))))) (fun h => h.elim)))
        exact w_iret rfl dX11_learn_25 ⟨hI51_, hF53_, trivial⟩
    · refine w_if_eq (tgt := 20) dX11_learn_11 (by decide) li_0 (fun h54_ => ?_) (fun h9 => (absurd h9 (by decide)))
      refine w_aload_n dX11_learn_20 rfl 0 rfl ?_
      refine w_iconst (v := 1) dX11_learn_21 (by decide) ?_
      refine w_callV (as := [vI 1]) (rest := []) (c_X11_error l G cy ad (d + 17) 1 Mz hIz) kV_X11_error (by decide +kernel) (Nat.le_of_ble_eq_true rfl) m_500 rfl rfl rfl ic_11 rfl rfl (by decide) (Nat.le_of_ble_eq_true rfl) dX11_learn_22 (fun r55_ M56_ q57_ => ?_)
      obtain ⟨hI59_, hF60_, h58_⟩ := q57_
      have hF61_ := hFz.tr hF60_ (fun c k => (fun h => h.elim (fun h => (Or.inr (Or.inr (Or.inr (Or.inr (Or.inr (Or.inr (Or.inr (Or.inl ⟨h.1, h.2⟩))))))))) (fun h => h.elim)))
      exact w_iret rfl dX11_learn_25 ⟨hI59_, hF61_, trivial⟩
  · refine w_if_eq (tgt := 20) dX11_learn_4 (by decide) li_0 (fun h62_ => ?_) (fun h9 => (absurd h9 (by decide)))
    refine w_aload_n dX11_learn_20 rfl 0 rfl ?_
    refine w_iconst (v := 1) dX11_learn_21 (by decide) ?_
    refine w_callV (as := [vI 1]) (rest := []) (c_X11_error l G cy ad (d + 17) 1 Mz hIz) kV_X11_error (by decide +kernel) (Nat.le_of_ble_eq_true rfl) m_500 rfl rfl rfl ic_11 rfl rfl (by decide) (Nat.le_of_ble_eq_true rfl) dX11_learn_22 (fun r63_ M64_ q65_ => ?_)
    obtain ⟨hI67_, hF68_, h66_⟩ := q65_
    have hF69_ := hFz.tr hF68_ (fun c k => (fun h => h.elim (fun h => (Or.inr (Or.inr (Or.inr (Or.inr (Or.inr (Or.inr (Or.inr (Or.inl ⟨h.1, h.2⟩))))))))) (fun h => h.elim)))
    exact w_iret rfl dX11_learn_25 ⟨hI67_, hF69_, trivial⟩
