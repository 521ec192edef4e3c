def S_c_X8_speak (b : Nat) (w : Nat) : rf → Nat → Prop := fun c k => (c.1 = 5 ∧ c.2.1 = 3 ∧ c.2.2 = 4 ∧ k = 1) ∨ (c.1 = 8 ∧ c.2.1 = 0 ∧ k = 2) ∨ (c.1 = 8 ∧ c.2.1 = 0 ∧ k = 3) ∨ (c.1 = 8 ∧ c.2.1 = 0 ∧ k = 4) ∨ (c.1 = 8 ∧ c.2.1 = 0 ∧ k = 5) ∨ (c.1 = 33 ∧ c.2.1 = 3 ∧ c.2.2 = 4) ∨ False
def SP_X8_speak (b : Nat) (w : Nat) (v : Int32) (u : Int32) (t : Int32) (Mz : mM) (r_ : Int32) (M_ : mM) : Prop := ∃ M1_ : mM, (Inv M1_) ∧ (FR (S_c_X5_clear 3 4) Mz M1_) ∧ (SP_X5_clear 3 4 Mz M1_) ∧ ∃ z8_ : Int32, (z8_ = M1_.1 (9, b, w) 0) ∧ ∃ M10_ : mM, (M10_ = up M1_ (8, 0, 0) 2 z8_) ∧ ∃ M14_ : mM, (M14_ = up M10_ (8, 0, 0) 3 v) ∧ ∃ z18_ : Int32, (z18_ = M14_.1 (9, b, w) 3) ∧ ∃ M20_ : mM, (M20_ = up M14_ (8, 0, 0) 4 z18_) ∧ ∃ M24_ : mM, (M24_ = up M20_ (8, 0, 0) 5 0) ∧ ∃ z28_ : Int32, (z28_ = M24_.1 (8, 0, 0) 2) ∧ ∃ M31_ : mM, (Inv M31_) ∧ (FR (S_voice) M24_ M31_) ∧ ∃ r30_ : Int32, r_ = r30_ ∧ M_ = M31_
set_option maxHeartbeats 4000000 in
set_option maxRecDepth 100000 in
theorem c_X8_speak (l : Launch) (G : va_G) (cy : Nat → ClassId) (ad : rf → Nat) (d : Nat) (b : Nat) (w : Nat) (v : Int32) (u : Int32) (t : Int32) (Mz : mM) (hIz : Inv Mz) (hb : b < 3) (hw : w < 8) : WP CC l G cy ad yX8_speak cX8_speak 5 (some .int) (d + 92) 0 [(0, vR (8, 0, 0)), (1, vR (9, b, w)), (2, vI v), (3, vI u), (4, vI t)] [] Mz (fun r M' => Inv M' ∧ FR (S_c_X8_speak b w) Mz M' ∧ (True) ∧ SP_X8_speak b w v u t Mz r M') := by
  have hFz : FR (S_c_X8_speak b w) Mz Mz := FR.self
  refine w_aload_n dX8_speak_0 rfl 0 rfl ?_
  refine w_getR (c' := (5, 3, 4)) fl_RX8_12 rfl rfl ic_8 dX8_speak_1 rfl ?_
  refine w_callVv (as := []) (rest := []) (c_X5_clear l G cy ad (d + 91) 3 4 Mz hIz (by first | decide | (unfold vF; omega) | (unfold vRw; omega))) kV_X5_clear (by decide +kernel) (Nat.le_of_ble_eq_true rfl) m_1184 rfl rfl rfl (ic_5 (by unfold vRw; omega)) rfl rfl (by decide) (Nat.le_of_ble_eq_true rfl) dX8_speak_4 (fun M1_ q2_ => ?_)
  obtain ⟨hI4_, hF5_, h3_, hs7_⟩ := q2_
  have hF6_ := hFz.tr hF5_ (fun c k => (fun h => h.elim (fun h => (Or.inl ⟨h.1, h.2.1, h.2.2.1, h.2.2.2⟩)) (fun h => h.elim)))
  refine w_aload_n dX8_speak_7 rfl 0 rfl ?_
  refine w_aload_n dX8_speak_8 rfl 1 rfl ?_
  refine w_getI fl_RX8_38 rfl rfl (ic_9 hb hw) dX8_speak_9 (fun z8_ e9_ => ?_)
  refine w_putI CC_nd fl_RX8_21 rfl rfl ic_8 dX8_speak_12 (fun M10_ hM11_ => ?_)
  have hI12_ := hI4_.put hM11_ (fun h => absurd h (by decide))
  have hF13_ := hF6_.put hM11_ (Or.inr (Or.inl ⟨rfl, rfl, rfl⟩))
  refine w_aload_n dX8_speak_15 rfl 0 rfl ?_
  refine w_iload_n dX8_speak_16 rfl 2 rfl ?_
  refine w_putI CC_nd fl_RX8_25 rfl rfl ic_8 dX8_speak_17 (fun M14_ hM15_ => ?_)
  have hI16_ := hI12_.put hM15_ (fun h => absurd h (by decide))
  have hF17_ := hF13_.put hM15_ (Or.inr (Or.inr (Or.inl ⟨rfl, rfl, rfl⟩)))
  refine w_aload_n dX8_speak_20 rfl 0 rfl ?_
  refine w_aload_n dX8_speak_21 rfl 1 rfl ?_
  refine w_getI fl_RX8_41 rfl rfl (ic_9 hb hw) dX8_speak_22 (fun z18_ e19_ => ?_)
  refine w_putI CC_nd fl_RX8_28 rfl rfl ic_8 dX8_speak_25 (fun M20_ hM21_ => ?_)
  have hI22_ := hI16_.put hM21_ (fun h => absurd h (by decide))
  have hF23_ := hF17_.put hM21_ (Or.inr (Or.inr (Or.inr (Or.inl ⟨rfl, rfl, rfl⟩))))
  refine w_aload_n dX8_speak_28 rfl 0 rfl ?_
  refine w_iconst (v := 0) dX8_speak_29 (by decide) ?_
  refine w_putZ CC_nd fl_RX8_31 rfl rfl ic_8 ⟨by decide, by decide⟩ dX8_speak_30 (fun M24_ hM25_ => ?_)
  have hI26_ := hI22_.put hM25_ (fun _ => ⟨by decide, by decide⟩)
  have hF27_ := hF23_.put hM25_ (Or.inr (Or.inr (Or.inr (Or.inr (Or.inl ⟨rfl, rfl, rfl⟩)))))
  refine w_aload_n dX8_speak_33 rfl 0 rfl ?_
  refine w_aload_n dX8_speak_34 rfl 0 rfl ?_
  refine w_getI fl_RX8_21 rfl rfl ic_8 dX8_speak_35 (fun z28_ e29_ => ?_)
  refine w_iload_n dX8_speak_38 rfl 3 rfl ?_
  refine w_iload dX8_speak_39 4 rfl ?_
  refine w_iconst (v := 0) dX8_speak_41 (by decide) ?_
  refine w_callV (as := [vI z28_, vI u, vI t, vI 0]) (rest := []) (c_X8_say0 l G cy ad d z28_ u t 0 M24_ hI26_ (by first | decide | (unfold vF; omega) | (unfold vRw; omega))) kV_X8_say (by decide +kernel) (Nat.le_of_ble_eq_true rfl) m_1185 rfl rfl rfl ic_8 rfl rfl (by decide) (Nat.le_of_ble_eq_true rfl) dX8_speak_42 (fun r30_ M31_ q32_ => ?_)
  obtain ⟨hI34_, hF35_, h33_⟩ := q32_
  have hF36_ := hF27_.tr hF35_ (fun c k => (fun h => h.elim (fun h => (Or.inl ⟨h.1, h.2.1, h.2.2.1, h.2.2.2⟩)) (fun h => h.elim (fun h => (Or.inr (Or.inr (Or.inr (Or.inr (Or.inr (Or.inl ⟨h.1, h.2.1, h.2.2⟩))))))) (fun h => h.elim (fun h => (Or.inr (Or.inr (Or.inr (Or.inr (Or.inl ⟨h.1, h.2.1, h.2.2⟩)))))) (fun h => h.elim)))))
  exact w_iret rfl dX8_speak_45 ⟨hI34_, hF36_, trivial, ⟨M1_, hI4_, hF5_, hs7_, z8_, e9_, M10_, hM11_, M14_, hM15_, z18_, e19_, M20_, hM21_, M24_, hM25_, z28_, e29_, M31_, hI34_, hF35_, r30_, rfl, rfl⟩⟩
def S_c_X11_voice : rf → Nat → Prop := fun c k => (c.1 = 5 ∧ c.2.1 = 3 ∧ c.2.2 = 4 ∧ k = 1) ∨ (c.1 = 8 ∧ c.2.1 = 0 ∧ k = 2) ∨ (c.1 = 8 ∧ c.2.1 = 0 ∧ k = 3) ∨ (c.1 = 8 ∧ c.2.1 = 0 ∧ k = 4) ∨ (c.1 = 8 ∧ c.2.1 = 0 ∧ k = 5) ∨ (c.1 = 33 ∧ c.2.1 = 3 ∧ c.2.2 = 4) ∨ (c.1 = 5 ∧ c.2.1 = 3 ∧ c.2.2 = 5 ∧ k = 1) ∨ (c.1 = 33 ∧ c.2.1 = 3 ∧ c.2.2 = 5) ∨ (c.1 = 44 ∧ c.2.1 = 0) ∨ False
def SP_X11_voice (v : Int32) (u : Int32) (t : Int32) (Mz : mM) (r_ : Int32) (M_ : mM) : Prop := (((SP_X10_hasWalker 0 v Mz (1 : Int32)) ∧ (0 ≤ v.toInt ∧ v.toInt ≤ 7) ∧ (((SP_X11_within u 0 3 Mz (1 : Int32)) ∧ (0 ≤ u.toInt ∧ u.toInt ≤ 3) ∧ ∃ j13_ : Nat, ((j13_ : Int) = v.toInt) ∧ (j13_ < 8) ∧ ∃ M17_ : mM, (Inv M17_) ∧ (FR (S_c_X8_speak 0 j13_) Mz M17_) ∧ ∃ r16_ : Int32, (SP_X8_speak 0 j13_ v u t Mz r16_ M17_) ∧ ∃ z24_ : Int32, (z24_ = M17_.1 (8, 0, 0) 5) ∧ (0 ≤ z24_.toInt ∧ z24_.toInt ≤ 1) ∧ (((z24_.toInt = 0) ∧ ∃ M28_ : mM, (Inv M28_) ∧ (FR (S_c_X8_keepTrace) M17_ M28_) ∧ (SP_X8_keepTrace M17_ M28_) ∧ r_ = r16_ ∧ M_ = M28_) ∨ ((¬ z24_.toInt = 0) ∧ ∃ M36_ : mM, (Inv M36_) ∧ (FR (S_c_X11_error) M17_ M36_) ∧ ∃ r35_ : Int32, (SP_X11_error 6 M17_ r35_ M36_) ∧ r_ = r35_ ∧ M_ = M36_))) ∨ ((SP_X11_within u 0 3 Mz (0 : Int32)) ∧ (¬ (0 ≤ u.toInt ∧ u.toInt ≤ 3)) ∧ ∃ M45_ : mM, (Inv M45_) ∧ (FR (S_c_X11_error) Mz M45_) ∧ ∃ r44_ : Int32, (SP_X11_error 1 Mz r44_ M45_) ∧ r_ = r44_ ∧ M_ = M45_))) ∨ ((SP_X10_hasWalker 0 v Mz (0 : Int32)) ∧ ∃ M54_ : mM, (Inv M54_) ∧ (FR (S_c_X11_error) Mz M54_) ∧ ∃ r53_ : Int32, (SP_X11_error 1 Mz r53_ M54_) ∧ r_ = r53_ ∧ M_ = M54_))
theorem lf_c_X11_voice_0  (v : Int32) (h4_ : 0 ≤ v.toInt ∧ v.toInt ≤ 7) : 0 ≤ v.toInt ∧ v.toInt < ((8 : Nat) : Int) := by have r_v := rngI v; omega
set_option maxHeartbeats 4000000 in
set_option maxRecDepth 100000 in
theorem c_X11_voice (l : Launch) (G : va_G) (cy : Nat → ClassId) (ad : rf → Nat) (d : Nat) (v : Int32) (u : Int32) (t : Int32) (Mz : mM) (hIz : Inv Mz) : WP CC l G cy ad yX11_voice cX11_voice 5 (some .int) (d + 93) 0 [(0, vR (11, 0, 0)), (1, vI v), (2, vI u), (3, vI t)] [] Mz (fun r M' => Inv M' ∧ FR (S_c_X11_voice) Mz M' ∧ (True) ∧ SP_X11_voice v u t Mz r M') := by
  have hFz : FR (S_c_X11_voice) Mz Mz := FR.self
  refine w_aload_n dX11_voice_0 rfl 0 rfl ?_
  refine w_getR (c' := (10, 0, 0)) fl_RX11_10 rfl rfl ic_11 dX11_voice_1 rfl ?_
  refine w_iload_n dX11_voice_4 rfl 1 rfl ?_
  refine w_callV (as := [vI v]) (rest := []) (c_X10_hasWalker l G cy ad (d + 92) 0 v Mz hIz (by first | decide | (unfold vF; omega) | (unfold vRw; omega))) kV_X10_hasWalker (by decide +kernel) (Nat.le_of_ble_eq_true rfl) m_609 rfl rfl rfl (ic_10 (by decide)) rfl rfl (by decide) (Nat.le_of_ble_eq_true rfl) dX11_voice_5 (fun r1_ M2_ q3_ => ?_)
  obtain ⟨rfl, h4_, hs5_⟩ := q3_
  rcases h4_ with ⟨rfl, h4_⟩ | rfl
  · refine w_if_eq (tgt := 20) dX11_voice_8 (by decide) li_1 (fun h9 => (absurd h9 (by decide))) (fun h6_ => ?_)
    refine w_iload_n dX11_voice_11 rfl 2 rfl ?_
    refine w_iconst (v := 0) dX11_voice_12 (by decide) ?_
    refine w_iconst (v := 3) dX11_voice_13 (by decide) ?_
    refine w_callS (as := [vI u, vI 0, vI 3]) (rest := []) (c_X11_within l G cy ad (d + 92) u 0 3 Mz hIz) kS_X11_within (by decide +kernel) (Nat.le_of_ble_eq_true rfl) m_494 rfl rfl (by decide) (Nat.le_of_ble_eq_true rfl) dX11_voice_14 (fun r7_ M8_ q9_ => ?_)
    obtain ⟨rfl, h10_, hs11_⟩ := q9_
    rcases h10_ with ⟨rfl, h10_⟩ | ⟨rfl, h10_⟩
    · simp only [li_0, li_3] at h10_
      refine w_if_ne (tgt := 26) dX11_voice_17 (by decide) li_1 (fun h12_ => ?_) (fun h9 => (absurd h9 (by decide)))
      refine w_aload_n dX11_voice_26 rfl 0 rfl ?_
      refine w_getR (c' := (8, 0, 0)) fl_RX11_49 rfl rfl ic_11 dX11_voice_27 rfl ?_
      refine w_aload_n dX11_voice_30 rfl 0 rfl ?_
      refine w_getR (c' := (10, 0, 0)) fl_RX11_10 rfl rfl ic_11 dX11_voice_31 rfl ?_
      refine w_getR (c' := (42, 0, 0)) fl_RX11_157 rfl rfl (ic_10 (by decide)) dX11_voice_34 rfl ?_
      refine w_iload_n dX11_voice_37 rfl 1 rfl ?_
      refine w_aald rfl rfl rfl (fun _ => rfl) (ic_42 (by decide)) (rfl : v.toInt = v.toInt) (lf_c_X11_voice_0 v h4_) dX11_voice_38 (fun j13_ h14_ h15_ => ?_)
      refine w_iload_n dX11_voice_39 rfl 1 rfl ?_
      refine w_iload_n dX11_voice_40 rfl 2 rfl ?_
      refine w_iload_n dX11_voice_41 rfl 3 rfl ?_
      refine w_callV (as := [vR (9, 0, j13_), vI v, vI u, vI t]) (rest := []) (c_X8_speak l G cy ad d 0 j13_ v u t Mz hIz (by first | decide | (unfold vF; omega) | (unfold vRw; omega)) h15_) kV_X8_speak (by decide +kernel) (Nat.le_of_ble_eq_true rfl) m_1180 rfl rfl rfl ic_8 rfl rfl (by decide) (Nat.le_of_ble_eq_true rfl) dX11_voice_42 (fun r16_ M17_ q18_ => ?_)
      obtain ⟨hI20_, hF21_, h19_, hs23_⟩ := q18_
      have hF22_ := hFz.tr hF21_ (fun c k => (fun h => h.elim (fun h => (Or.inl ⟨h.1, h.2.1, h.2.2.1, h.2.2.2⟩)) (fun h => h.elim (fun h => (Or.inr (Or.inl ⟨h.1, h.2.1, h.2.2⟩))) (fun h => h.elim (fun h => (Or.inr (Or.inr (Or.inl ⟨h.1, h.2.1, h.2.2⟩)))) (fun h => h.elim (fun h => (Or.inr (Or.inr (Or.inr (Or.inl ⟨h.1, h.2.1, h.2.2⟩))))) (fun h => h.elim (fun h => (Or.inr (Or.inr (Or.inr (Or.inr (Or.inl ⟨h.1, h.2.1, h.2.2⟩)))))) (fun h => h.elim (fun h => (Or.inr (Or.inr (Or.inr (Or.inr (Or.inr (Or.inl ⟨h.1, h.2.1, h.2.2⟩))))))) (fun h => h.elim))))))))
      refine w_istore (ls' := [(4, vI r16_), (0, vR (11, 0, 0)), (1, vI v), (2, vI u), (3, vI t)]) dX11_voice_45 (by decide) rfl ?_
      refine w_aload_n dX11_voice_47 rfl 1 rfl ?_
      refine w_getR (c' := (8, 0, 0)) fl_RX11_49 rfl rfl ic_11 dX11_voice_48 rfl ?_
      refine w_getI fl_RX11_347 rfl rfl ic_8 dX11_voice_51 (fun z24_ e25_ => ?_)
      have h26_ : 0 ≤ z24_.toInt ∧ z24_.toInt ≤ 1 := ofEq (P := fun v => 0 ≤ v.toInt ∧ v.toInt ≤ 1) e25_ (hI20_ (8, 0, 0) 5 rfl)
      refine w_if_eq (tgt := 64) dX11_voice_54 (by decide) (rfl : z24_.toInt = z24_.toInt) (fun h27_ => ?_) (fun h27_ => ?_)
      · refine w_aload_n dX11_voice_64 rfl 1 rfl ?_
        refine w_getR (c' := (8, 0, 0)) fl_RX11_49 rfl rfl ic_11 dX11_voice_65 rfl ?_
        refine w_callVv (as := []) (rest := []) (c_X8_keepTrace l G cy ad (d + 90) M17_ hI20_) kV_X8_keepTrace (by decide +kernel) (Nat.le_of_ble_eq_true rfl) m_1205 rfl rfl rfl ic_8 rfl rfl (by decide) (Nat.le_of_ble_eq_true rfl) dX11_voice_68 (fun M28_ q29_ => ?_)
        obtain ⟨hI31_, hF32_, h30_, hs34_⟩ := q29_
        have hF33_ := hF22_.tr hF32_ (fun c k => (fun h => h.elim (fun h => (Or.inr (Or.inr (Or.inr (Or.inr (Or.inr (Or.inr (Or.inl ⟨h.1, h.2.1, h.2.2.1, h.2.2.2⟩)))))))) (fun h => h.elim (fun h => (Or.inr (Or.inr (Or.inr (Or.inr (Or.inr (Or.inr (Or.inr (Or.inl ⟨h.1, h.2.1, h.2.2⟩))))))))) (fun h => h.elim))))
        refine w_iload dX11_voice_71 0 rfl ?_
        exact w_iret rfl dX11_voice_73 ⟨hI31_, hF33_, trivial, (Or.inl ⟨hs5_, h4_, (Or.inl ⟨hs11_, h10_, j13_, h14_, h15_, M17_, hI20_, hF21_, r16_, hs23_, z24_, e25_, h26_, (Or.inl ⟨h27_, M28_, hI31_, hF32_, hs34_, rfl, rfl⟩)⟩)⟩)⟩
      · refine w_aload_n dX11_voice_57 rfl 1 rfl ?_
        refine w_bipush (v := 6) dX11_voice_58 (by decide) ?_
        refine w_callV (as := [vI 6]) (rest := []) (c_X11_error l G cy ad (d + 92) 6 M17_ hI20_) kV_X11_error (by decide +kernel) (Nat.le_of_ble_eq_true rfl) m_500 rfl rfl rfl ic_11 rfl rfl (by decide) (Nat.le_of_ble_eq_true rfl) dX11_voice_60 (fun r35_ M36_ q37_ => ?_)
        obtain ⟨hI39_, hF40_, h38_, hs42_⟩ := q37_
        have hF41_ := hF22_.tr hF40_ (fun c k => (fun h => h.elim (fun h => (Or.inr (Or.inr (Or.inr (Or.inr (Or.inr (Or.inr (Or.inr (Or.inr (Or.inl ⟨h.1, h.2⟩)))))))))) (fun h => h.elim)))
        exact w_iret rfl dX11_voice_63 ⟨hI39_, hF41_, trivial, (Or.inl ⟨hs5_, h4_, (Or.inl ⟨hs11_, h10_, j13_, h14_, h15_, M17_, hI20_, hF21_, r16_, hs23_, z24_, e25_, h26_, (Or.inr ⟨h27_, M36_, hI39_, hF40_, r35_, hs42_, rfl, rfl⟩)⟩)⟩)⟩
    · simp only [li_0, li_3] at h10_
      refine w_if_ne (tgt := 26) dX11_voice_17 (by decide) li_0 (fun h9 => (absurd h9 (by decide))) (fun h43_ => ?_)
      refine w_aload_n dX11_voice_20 rfl 0 rfl ?_
      refine w_iconst (v := 1) dX11_voice_21 (by decide) ?_
      refine w_callV (as := [vI 1]) (rest := []) (c_X11_error l G cy ad (d + 92) 1 Mz hIz) kV_X11_error (by decide +kernel) (Nat.le_of_ble_eq_true rfl) m_500 rfl rfl rfl ic_11 rfl rfl (by decide) (Nat.le_of_ble_eq_true rfl) dX11_voice_22 (fun r44_ M45_ q46_ => ?_)
      obtain ⟨hI48_, hF49_, h47_, hs51_⟩ := q46_
      have hF50_ := hFz.tr hF49_ (fun c k => (fun h => h.elim (fun h => (Or.inr (Or.inr (Or.inr (Or.inr (Or.inr (Or.inr (Or.inr (Or.inr (Or.inl ⟨h.1, h.2⟩)))))))))) (fun h => h.elim)))
      exact w_iret rfl dX11_voice_25 ⟨hI48_, hF50_, trivial, (Or.inl ⟨hs5_, h4_, (Or.inr ⟨hs11_, h10_, M45_, hI48_, hF49_, r44_, hs51_, rfl, rfl⟩)⟩)⟩
  · refine w_if_eq (tgt := 20) dX11_voice_8 (by decide) li_0 (fun h52_ => ?_) (fun h9 => (absurd h9 (by decide)))
    refine w_aload_n dX11_voice_20 rfl 0 rfl ?_
    refine w_iconst (v := 1) dX11_voice_21 (by decide) ?_
    refine w_callV (as := [vI 1]) (rest := []) (c_X11_error l G cy ad (d + 92) 1 Mz hIz) kV_X11_error (by decide +kernel) (Nat.le_of_ble_eq_true rfl) m_500 rfl rfl rfl ic_11 rfl rfl (by decide) (Nat.le_of_ble_eq_true rfl) dX11_voice_22 (fun r53_ M54_ q55_ => ?_)
    obtain ⟨hI57_, hF58_, h56_, hs60_⟩ := q55_
    have hF59_ := hFz.tr hF58_ (fun c k => (fun h => h.elim (fun h => (Or.inr (Or.inr (Or.inr (Or.inr (Or.inr (Or.inr (Or.inr (Or.inr (Or.inl ⟨h.1, h.2⟩)))))))))) (fun h => h.elim)))
    exact w_iret rfl dX11_voice_25 ⟨hI57_, hF59_, trivial, (Or.inr ⟨hs5_, M54_, hI57_, hF58_, r53_, hs60_, rfl, rfl⟩)⟩
