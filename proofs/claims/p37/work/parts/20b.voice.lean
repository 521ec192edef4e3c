def S_c_X8_speak (b : Nat) (w : Nat) : rf → Nat → Prop := fun c k => (c.1 = 5 ∧ c.2.1 = 3 ∧ c.2.2 = 4 ∧ k = 1) ∨ (c.1 = 8 ∧ c.2.1 = 0 ∧ k = 2) ∨ (c.1 = 8 ∧ c.2.1 = 0 ∧ k = 3) ∨ (c.1 = 8 ∧ c.2.1 = 0 ∧ k = 4) ∨ (c.1 = 8 ∧ c.2.1 = 0 ∧ k = 5) ∨ (c.1 = 33 ∧ c.2.1 = 3 ∧ c.2.2 = 4) ∨ False
set_option maxHeartbeats 4000000 in
set_option maxRecDepth 100000 in
theorem c_X8_speak (l : Launch) (G : va_G) (cy : Nat → ClassId) (ad : rf → Nat) (d : Nat) (b : Nat) (w : Nat) (v : Int32) (u : Int32) (t : Int32) (Mz : mM) (hIz : Inv Mz) (hb : b < 3) (hw : w < 8) : WP CC l G cy ad yX8_speak cX8_speak 5 (some .int) (d + 92) 0 [(0, vR (8, 0, 0)), (1, vR (9, b, w)), (2, vI v), (3, vI u), (4, vI t)] [] Mz (fun r M' => Inv M' ∧ FR (S_c_X8_speak b w) Mz M' ∧ True) := by
  have hFz : FR (S_c_X8_speak b w) Mz Mz := FR.self
  refine w_aload_n dX8_speak_0 rfl 0 rfl ?_
  refine w_getR (c' := (5, 3, 4)) fl_RX8_12 rfl rfl ic_8 dX8_speak_1 rfl ?_
  refine w_callVv (as := []) (rest := []) (c_X5_clear l G cy ad (d + 91) 3 4 Mz hIz (by first | decide | (unfold vF; omega) | (unfold vRw; omega))) kV_X5_clear (by decide +kernel) (Nat.le_of_ble_eq_true rfl) m_1184 rfl rfl rfl (ic_5 (by unfold vRw; omega)) rfl rfl (by decide) (Nat.le_of_ble_eq_true rfl) dX8_speak_4 (fun M1_ q2_ => ?_)
  obtain ⟨hI4_, hF5_, h3_⟩ := q2_
  have hF6_ := hFz.tr hF5_ (fun c k => (fun h => h.elim (fun h => (Or.inl ⟨h.1, h.2.1, h.2.2.1, h.2.2.2⟩)) (fun h => h.elim)))
  refine w_aload_n dX8_speak_7 rfl 0 rfl ?_
  refine w_aload_n dX8_speak_8 rfl 1 rfl ?_
  refine w_getI fl_RX8_38 rfl rfl (ic_9 hb hw) dX8_speak_9 (fun z7_ e8_ => ?_)
  refine w_putI CC_nd fl_RX8_21 rfl rfl ic_8 dX8_speak_12 (fun M9_ hM10_ => ?_)
  have hI11_ := hI4_.put hM10_ (fun h => absurd h (by decide))
  have hF12_ := hF6_.put hM10_ (Or.inr (Or.inl ⟨rfl, rfl, rfl⟩))
  refine w_aload_n dX8_speak_15 rfl 0 rfl ?_
  refine w_iload_n dX8_speak_16 rfl 2 rfl ?_
  refine w_putI CC_nd fl_RX8_25 rfl rfl ic_8 dX8_speak_17 (fun M13_ hM14_ => ?_)
  have hI15_ := hI11_.put hM14_ (fun h => absurd h (by decide))
  have hF16_ := hF12_.put hM14_ (Or.inr (Or.inr (Or.inl ⟨rfl, rfl, rfl⟩)))
  refine w_aload_n dX8_speak_20 rfl 0 rfl ?_
  refine w_aload_n dX8_speak_21 rfl 1 rfl ?_
  refine w_getI fl_RX8_41 rfl rfl (ic_9 hb hw) dX8_speak_22 (fun z17_ e18_ => ?_)
  refine w_putI CC_nd fl_RX8_28 rfl rfl ic_8 dX8_speak_25 (fun M19_ hM20_ => ?_)
  have hI21_ := hI15_.put hM20_ (fun h => absurd h (by decide))
  have hF22_ := hF16_.put hM20_ (Or.inr (Or.inr (Or.inr (Or.inl ⟨rfl, rfl, rfl⟩))))
  refine w_aload_n dX8_speak_28 rfl 0 rfl ?_
  refine w_iconst (v := 0) dX8_speak_29 (by decide) ?_
  refine w_putZ CC_nd fl_RX8_31 rfl rfl ic_8 ⟨by decide, by decide⟩ dX8_speak_30 (fun M23_ hM24_ => ?_)
  have hI25_ := hI21_.put hM24_ (fun _ => ⟨by decide, by decide⟩)
  have hF26_ := hF22_.put hM24_ (Or.inr (Or.inr (Or.inr (Or.inr (Or.inl ⟨rfl, rfl, rfl⟩)))))
  refine w_aload_n dX8_speak_33 rfl 0 rfl ?_
  refine w_aload_n dX8_speak_34 rfl 0 rfl ?_
  refine w_getI fl_RX8_21 rfl rfl ic_8 dX8_speak_35 (fun z27_ e28_ => ?_)
  refine w_iload_n dX8_speak_38 rfl 3 rfl ?_
  refine w_iload dX8_speak_39 4 rfl ?_
  refine w_iconst (v := 0) dX8_speak_41 (by decide) ?_
  refine w_callV (as := [vI z27_, vI u, vI t, vI 0]) (rest := []) (c_X8_say0 l G cy ad d z27_ u t 0 M23_ hI25_ (by first | decide | (unfold vF; omega) | (unfold vRw; omega))) kV_X8_say (by decide +kernel) (Nat.le_of_ble_eq_true rfl) m_1185 rfl rfl rfl ic_8 rfl rfl (by decide) (Nat.le_of_ble_eq_true rfl) dX8_speak_42 (fun r29_ M30_ q31_ => ?_)
  obtain ⟨hI33_, hF34_, h32_⟩ := q31_
  have hF35_ := hF26_.tr hF34_ (fun c k => (fun h => h.elim (fun h => (Or.inl ⟨h.1, h.2.1, h.2.2.1, h.2.2.2⟩)) (fun h => h.elim (fun h => (Or.inr (Or.inr (Or.inr (Or.inr (Or.inr (Or.inl ⟨h.1, h.2.1, h.2.2⟩))))))) (fun h => h.elim (fun h => (Or.inr (Or.inr (Or.inr (Or.inr (Or.inl ⟨h.1, h.2.1, h.2.2⟩)))))) (fun h => h.elim)))))
  exact w_iret rfl dX8_speak_45 ⟨hI33_, hF35_, trivial⟩
def S_c_X11_voice : rf → Nat → Prop := fun c k => (c.1 = 5 ∧ c.2.1 = 3 ∧ c.2.2 = 4 ∧ k = 1) ∨ (c.1 = 8 ∧ c.2.1 = 0 ∧ k = 2) ∨ (c.1 = 8 ∧ c.2.1 = 0 ∧ k = 3) ∨ (c.1 = 8 ∧ c.2.1 = 0 ∧ k = 4) ∨ (c.1 = 8 ∧ c.2.1 = 0 ∧ k = 5) ∨ (c.1 = 33 ∧ c.2.1 = 3 ∧ c.2.2 = 4) ∨ (c.1 = 5 ∧ c.2.1 = 3 ∧ c.2.2 = 5 ∧ k = 1) ∨ (c.1 = 33 ∧ c.2.1 = 3 ∧ c.2.2 = 5) ∨ (c.1 = 44 ∧ c.2.1 = 0) ∨ False
theorem lf_c_X11_voice_0  (v : Int32) (h4_ : 0 ≤ v.toInt ∧ v.toInt ≤ 7) : 0 ≤ v.toInt ∧ v.toInt < ((8 : Nat) : Int) := by have r_v := rngI v; omega
set_option maxHeartbeats 4000000 in
set_option maxRecDepth 100000 in
theorem c_X11_voice (l : Launch) (G : va_G) (cy : Nat → ClassId) (ad : rf → Nat) (d : Nat) (v : Int32) (u : Int32) (t : Int32) (Mz : mM) (hIz : Inv Mz) : WP CC l G cy ad yX11_voice cX11_voice 5 (some .int) (d + 93) 0 [(0, vR (11, 0, 0)), (1, vI v), (2, vI u), (3, vI t)] [] Mz (fun r M' => Inv M' ∧ FR (S_c_X11_voice) Mz M' ∧ True) := by
  have hFz : FR (S_c_X11_voice) Mz Mz := FR.self
  refine w_aload_n dX11_voice_0 rfl 0 rfl ?_
  refine w_getR (c' := (10, 0, 0)) fl_RX11_10 rfl rfl ic_11 dX11_voice_1 rfl ?_
  refine w_iload_n dX11_voice_4 rfl 1 rfl ?_
  refine w_callV (as := [vI v]) (rest := []) (c_X10_hasWalker l G cy ad (d + 92) 0 v Mz hIz (by first | decide | (unfold vF; omega) | (unfold vRw; omega))) kV_X10_hasWalker (by decide +kernel) (Nat.le_of_ble_eq_true rfl) m_609 rfl rfl rfl (ic_10 (by decide)) rfl rfl (by decide) (Nat.le_of_ble_eq_true rfl) dX11_voice_5 (fun r1_ M2_ q3_ => ?_)
  obtain ⟨rfl, h4_⟩ := q3_
  rcases h4_ with ⟨rfl, h4_⟩ | rfl
  · refine w_if_eq (tgt := 20) dX11_voice_8 (by decide) li_1 (fun h9 => (absurd h9 (by decide))) (fun h5_ => ?_)
    refine w_iload_n dX11_voice_11 rfl 2 rfl ?_
    refine w_iconst (v := 0) dX11_voice_12 (by decide) ?_
    refine w_iconst (v := 3) dX11_voice_13 (by decide) ?_
    refine w_callS (as := [vI u, vI 0, vI 3]) (rest := []) (c_X11_within l G cy ad (d + 92) u 0 3 Mz hIz) kS_X11_within (by decide +kernel) (Nat.le_of_ble_eq_true rfl) m_494 rfl rfl (by decide) (Nat.le_of_ble_eq_true rfl) dX11_voice_14 (fun r6_ M7_ q8_ => ?_)
    obtain ⟨rfl, h9_⟩ := q8_
    rcases h9_ with ⟨rfl, h9_⟩ | ⟨rfl, h9_⟩
    · simp only [li_0, li_3] at h9_
      refine w_if_ne (tgt := 26) dX11_voice_17 (by decide) li_1 (fun h10_ => ?_) (fun h9 => (absurd h9 (by decide)))
      refine w_aload_n dX11_voice_26 rfl 0 rfl ?_
      refine w_getR (c' := (8, 0, 0)) fl_RX11_49 rfl rfl ic_11 dX11_voice_27 rfl ?_
      refine w_aload_n dX11_voice_30 rfl 0 rfl ?_
      refine w_getR (c' := (10, 0, 0)) fl_RX11_10 rfl rfl ic_11 dX11_voice_31 rfl ?_
      refine w_getR (c' := (42, 0, 0)) fl_RX11_157 rfl rfl (ic_10 (by decide)) dX11_voice_34 rfl ?_
      refine w_iload_n dX11_voice_37 rfl 1 rfl ?_
      refine w_aald rfl rfl rfl (fun _ => rfl) (ic_42 (by decide)) (rfl : v.toInt = v.toInt) (lf_c_X11_voice_0 v h4_) dX11_voice_38 (fun j11_ h12_ h13_ => ?_)
      refine w_iload_n dX11_voice_39 rfl 1 rfl ?_
      refine w_iload_n dX11_voice_40 rfl 2 rfl ?_
      refine w_iload_n dX11_voice_41 rfl 3 rfl ?_
      refine w_callV (as := [vR (9, 0, j11_), vI v, vI u, vI t]) (rest := []) (c_X8_speak l G cy ad d 0 j11_ v u t Mz hIz (by first | decide | (unfold vF; omega) | (unfold vRw; omega)) h13_) kV_X8_speak (by decide +kernel) (Nat.le_of_ble_eq_true rfl) m_1180 rfl rfl rfl ic_8 rfl rfl (by decide) (Nat.le_of_ble_eq_true rfl) dX11_voice_42 (fun r14_ M15_ q16_ => ?_)
      obtain ⟨hI18_, hF19_, h17_⟩ := q16_
      have hF20_ := hFz.tr hF19_ (fun c k => (fun h => h.elim (fun h => (Or.inl ⟨h.1, h.2.1, h.2.2.1, h.2.2.2⟩)) (fun h => h.elim (fun h => (Or.inr (Or.inl ⟨h.1, h.2.1, h.2.2⟩))) (fun h => h.elim (fun h => (Or.inr (Or.inr (Or.inl ⟨h.1, h.2.1, h.2.2⟩)))) (fun h => h.elim (fun h => (Or.inr (Or.inr (Or.inr (Or.inl ⟨h.1, h.2.1, h.2.2⟩))))) (fun h => h.elim (fun h => (Or.inr (Or.inr (Or.inr (Or.inr (Or.inl ⟨h.1, h.2.1, h.2.2⟩)))))) (fun h => h.elim (fun h => (Or.inr (Or.inr (Or.inr (Or.inr (Or.inr (Or.inl ⟨h.1, h.2.1, h.2.2⟩))))))) (fun h => h.elim))))))))
      refine w_istore (ls' := [(4, vI r14_), (0, vR (11, 0, 0)), (1, vI v), (2, vI u), (3, vI t)]) dX11_voice_45 (by decide) rfl ?_
      refine w_aload_n dX11_voice_47 rfl 1 rfl ?_
      refine w_getR (c' := (8, 0, 0)) fl_RX11_49 rfl rfl ic_11 dX11_voice_48 rfl ?_
      refine w_getI fl_RX11_347 rfl rfl ic_8 dX11_voice_51 (fun z21_ e22_ => ?_)
      have h23_ : 0 ≤ z21_.toInt ∧ z21_.toInt ≤ 1 := ofEq (P := fun v => 0 ≤ v.toInt ∧ v.toInt ≤ 1) e22_ (hI18_ (8, 0, 0) 5 rfl)
      refine w_if_eq (tgt := 64) dX11_voice_54 (by decide) (rfl : z21_.toInt = z21_.toInt) (fun h24_ => ?_) (fun h24_ => ?_)
      · refine w_aload_n dX11_voice_64 rfl 1 rfl ?_
        refine w_getR (c' := (8, 0, 0)) fl_RX11_49 rfl rfl ic_11 dX11_voice_65 rfl ?_
        refine w_callVv (as := []) (rest := []) (c_X8_keepTrace l G cy ad (d + 90) M15_ hI18_) kV_X8_keepTrace (by decide +kernel) (Nat.le_of_ble_eq_true rfl) m_1205 rfl rfl rfl ic_8 rfl rfl (by decide) (Nat.le_of_ble_eq_true rfl) dX11_voice_68 (fun M25_ q26_ => ?_)
        obtain ⟨hI28_, hF29_, h27_⟩ := q26_
        have hF30_ := hF20_.tr hF29_ (fun c k => (fun h => h.elim (fun h => (Or.inr (Or.inr (Or.inr (Or.inr (Or.inr (Or.inr (Or.inl ⟨h.1, h.2.1, h.2.2.1, h.2.2.2⟩)))))))) (fun h => h.elim (fun h => (Or.inr (Or.inr (Or.inr (Or.inr (Or.inr (Or.inr (Or.inr (Or.inl ⟨h.1, h.2.1, h.2.2⟩))))))))) (fun h => h.elim))))
        refine w_iload dX11_voice_71 0 rfl ?_
        exact w_iret rfl dX11_voice_73 ⟨hI28_, hF30_, trivial⟩
      · refine w_aload_n dX11_voice_57 rfl 1 rfl ?_
        refine w_bipush (v := 6) dX11_voice_58 (by decide) ?_
        refine w_callV (as := [vI 6]) (rest := []) (c_X11_error l G cy ad (d + 92) 6 M15_ hI18_) kV_X11_error (by decide +kernel) (Nat.le_of_ble_eq_true rfl) m_500 rfl rfl rfl ic_11 rfl rfl (by decide) (Nat.le_of_ble_eq_true rfl) dX11_voice_60 (fun r31_ M32_ q33_ => ?_)
        obtain ⟨hI35_, hF36_, h34_⟩ := q33_
        have hF37_ := hF20_.tr hF36_ (fun c k => (fun h => h.elim (fun h => (Or.inr (Or.inr (Or.inr (Or.inr (Or.inr (Or.inr (Or.inr (Or.inr (Or.inl ⟨h.1, h.2⟩)))))))))) (fun h => h.elim)))
        exact w_iret rfl dX11_voice_63 ⟨hI35_, hF37_, trivial⟩
    · simp only [li_0, li_3] at h9_
      refine w_if_ne (tgt := 26) dX11_voice_17 (by decide) li_0 (fun h9 => (absurd h9 (by decide))) (fun h38_ => ?_)
      refine w_aload_n dX11_voice_20 rfl 0 rfl ?_
      refine w_iconst (v := 1) dX11_voice_21 (by decide) ?_
      refine w_callV (as := [vI 1]) (rest := []) (c_X11_error l G cy ad (d + 92) 1 Mz hIz) kV_X11_error (by decide +kernel) (Nat.le_of_ble_eq_true rfl) m_500 rfl rfl rfl ic_11 rfl rfl (by decide) (Nat.le_of_ble_eq_true rfl) dX11_voice_22 (fun r39_ M40_ q41_ => ?_)
      obtain ⟨hI43_, hF44_, h42_⟩ := q41_
      have hF45_ := hFz.tr hF44_ (fun c k => (fun h => h.elim (fun h => (Or.inr (Or.inr (Or.inr (Or.inr (Or.inr (Or.inr (Or.inr (Or.inr (Or.inl ⟨h.1, h.2⟩)))))))))) (fun h => h.elim)))
      exact w_iret rfl dX11_voice_25 ⟨hI43_, hF45_, trivial⟩
  · refine w_if_eq (tgt := 20) dX11_voice_8 (by decide) li_0 (fun h46_ => ?_) (fun h9 => (absurd h9 (by decide)))
    refine w_aload_n dX11_voice_20 rfl 0 rfl ?_
    refine w_iconst (v := 1) dX11_voice_21 (by decide) ?_
    refine w_callV (as := [vI 1]) (rest := []) (c_X11_error l G cy ad (d + 92) 1 Mz hIz) kV_X11_error (by decide +kernel) (Nat.le_of_ble_eq_true rfl) m_500 rfl rfl rfl ic_11 rfl rfl (by decide) (Nat.le_of_ble_eq_true rfl) dX11_voice_22 (fun r47_ M48_ q49_ => ?_)
    obtain ⟨hI51_, hF52_, h50_⟩ := q49_
    have hF53_ := hFz.tr hF52_ (fun c k => (fun h => h.elim (fun h => (Or.inr (Or.inr (Or.inr (Or.inr (Or.inr (Or.inr (Or.inr (Or.inr (Or.inl ⟨h.1, h.2⟩)))))))))) (fun h => h.elim)))
    exact w_iret rfl dX11_voice_25 ⟨hI51_, hF53_, trivial⟩
