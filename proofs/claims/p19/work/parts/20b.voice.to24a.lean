section
def S_c_X8_speak (b : Nat) (w : Nat) : rf → Nat → Prop := fun c k => (c.1 = 5 ∧ c.2.1 = 3 ∧ c.2.2 = 4 ∧ k = 1) ∨ (c.1 = 8 ∧ c.2.1 = 0 ∧ k = 2) ∨ (c.1 = 8 ∧ c.2.1 = 0 ∧ k = 3) ∨ (c.1 = 8 ∧ c.2.1 = 0 ∧ k = 4) ∨ (c.1 = 8 ∧ c.2.1 = 0 ∧ k = 5) ∨ (c.1 = 33 ∧ c.2.1 = 3 ∧ c.2.2 = 4) ∨ False
def SP_X8_speak (b : Nat) (w : Nat) (v : Int32) (u : Int32) (t : Int32) (Mz : mM) (r_ : Int32) (M_ : mM) : Prop := ∃ M1_ : mM, (Inv M1_) ∧ (FR (S_c_X5_clear 3 4) Mz M1_) ∧ (SP_X5_clear 3 4 Mz M1_) ∧ ∃ z8_ : Int32, (z8_ = M1_.1 (9, b, w) 0) ∧ ∃ M10_ : mM, (M10_ = up M1_ (8, 0, 0) 2 z8_) ∧ ∃ M14_ : mM, (M14_ = up M10_ (8, 0, 0) 3 v) ∧ ∃ z18_ : Int32, (z18_ = M14_.1 (9, b, w) 3) ∧ ∃ M20_ : mM, (M20_ = up M14_ (8, 0, 0) 4 z18_) ∧ ∃ M24_ : mM, (M24_ = up M20_ (8, 0, 0) 5 0) ∧ ∃ z28_ : Int32, (z28_ = M24_.1 (8, 0, 0) 2) ∧ (Inv M24_) ∧ ∃ M31_ : mM, (Inv M31_) ∧ (FR (S_voice) M24_ M31_) ∧ ∃ r30_ : Int32, (SP_X8_say0 z28_ u t 0 M24_ r30_ M31_) ∧ r_ = r30_ ∧ M_ = M31_
set_option maxHeartbeats 4000000 in
set_option maxRecDepth 100000 in
theorem c_X8_speak (l : Launch) (G : va_G) (cy : Nat → ClassId) (ad : rf → Nat) (d : Nat) (b : Nat) (w : Nat) (v : Int32) (u : Int32) (t : Int32) (Mz : mM) (hIz : Inv Mz) (hb : b < 3) (hw : w < 8) : WP CC l G cy ad yX8_speak cX8_speak 5 (some .int) (d + 92) 0 [(0, vR (8, 0, 0)), (1, vR (9, b, w)), (2, vI v), (3, vI u), (4, vI t)] [] Mz (fun r M' => Inv M' ∧ FR (S_c_X8_speak b w) Mz M' ∧ (True) ∧ SP_X8_speak b w v u t Mz r M') := by
  have hFz : FR (S_c_X8_speak b w) Mz Mz := FR.self
  refine w_aload_n dX8_speak_0 rfl 0 rfl ?_
  refine w_getR (c' := (5, 3, 4)) fl_RX8_12 rfl rfl ic_8 dX8_speak_1 rfl ?_
  refine w_callVv (as := []) (rest := []) (c_X5_clear l G cy ad (d + 91) 3 4 Mz hIz (by first | decide | (unfold vF; omega) | (unfold vRw; omega))) kV_X5_clear pnn_2 (Nat.le_of_ble_eq_true rfl) m_1184 rfl rfl rfl (ic_5 (by unfold vRw; omega)) rfl rfl (by decide) (Nat.le_of_ble_eq_true rfl) dX8_speak_4 (fun M1_ q2_ => ?_)
  obtain ⟨hI4_, hF5_, h3_, hs7_⟩ := q2_
  have hF6_ := hFz.tr hF5_ (fun c k => (fun h => h.elim (fun h => (Or.inl ⟨h.1, h.2.1, h.2.2.1, h.2.2.2⟩)) (fun h => h.elim)))
  refine w_aload_n dX8_speak_7 rfl 0 rfl ?_
  refine w_aload_n dX8_speak_8 rfl 1 rfl ?_
  refine w_getI fl_RX8_38 rfl rfl (ic_9 hb hw) dX8_speak_9 (fun z8_ e9_ => ?_)
  refine w_putI CC_nd fl_RX8_21 rfl rfl ic_8 dX8_speak_12 (fun M10_ hM11_ => ?_)
  have hI12_ := hI4_.put hM11_ (fun h => absurd h (by decide))
  have hF13_ := hF6_.put hM11_ (Or.inr (Or.inl ⟨rfl, rfl, rfl⟩))
  refine w_aload_n dX8_speak_15 rfl 0 rfl ?_
  refine w_iload_n dX8_speak_16 rfl 2 rfl ?_
  refine w_putI CC_nd fl_RX8_25 rfl rfl ic_8 dX8_speak_17 (fun M14_ hM15_ => ?_)
  have hI16_ := hI12_.put hM15_ (fun h => absurd h (by decide))
  have hF17_ := hF13_.put hM15_ (Or.inr (Or.inr (Or.inl ⟨rfl, rfl, rfl⟩)))
  refine w_aload_n dX8_speak_20 rfl 0 rfl ?_
  refine w_aload_n dX8_speak_21 rfl 1 rfl ?_
  refine w_getI fl_RX8_41 rfl rfl (ic_9 hb hw) dX8_speak_22 (fun z18_ e19_ => ?_)
  refine w_putI CC_nd fl_RX8_28 rfl rfl ic_8 dX8_speak_25 (fun M20_ hM21_ => ?_)
  have hI22_ := hI16_.put hM21_ (fun h => absurd h (by decide))
  have hF23_ := hF17_.put hM21_ (Or.inr (Or.inr (Or.inr (Or.inl ⟨rfl, rfl, rfl⟩))))
  refine w_aload_n dX8_speak_28 rfl 0 rfl ?_
  refine w_iconst (v := 0) dX8_speak_29 (by decide) ?_
  refine w_putZ CC_nd fl_RX8_31 rfl rfl ic_8 ⟨by decide, by decide⟩ dX8_speak_30 (fun M24_ hM25_ => ?_)
  have hI26_ := hI22_.put hM25_ (fun _ => ⟨by decide, by decide⟩)
  have hF27_ := hF23_.put hM25_ (Or.inr (Or.inr (Or.inr (Or.inr (Or.inl ⟨rfl, rfl, rfl⟩)))))
  refine w_aload_n dX8_speak_33 rfl 0 rfl ?_
  refine w_aload_n dX8_speak_34 rfl 0 rfl ?_
  refine w_getI fl_RX8_21 rfl rfl ic_8 dX8_speak_35 (fun z28_ e29_ => ?_)
  refine w_iload_n dX8_speak_38 rfl 3 rfl ?_
  refine w_iload dX8_speak_39 4 rfl ?_
  refine w_iconst (v := 0) dX8_speak_41 (by decide) ?_
  refine w_callV (as := [vI z28_, vI u, vI t, vI 0]) (rest := []) (c_X8_say0 l G cy ad d z28_ u t 0 M24_ hI26_ (by first | decide | (unfold vF; omega) | (unfold vRw; omega))) kV_X8_say pnn_12 (Nat.le_of_ble_eq_true rfl) m_1185 rfl rfl rfl ic_8 rfl rfl (by decide) (Nat.le_of_ble_eq_true rfl) dX8_speak_42 (fun r30_ M31_ q32_ => ?_)
  obtain ⟨hI34_, hF35_, h33_, hs37_⟩ := q32_
  have hF36_ := hF27_.tr hF35_ (fun c k => (fun h => h.elim (fun h => (Or.inl ⟨h.1, h.2.1, h.2.2.1, h.2.2.2⟩)) (fun h => h.elim (fun h => (Or.inr (Or.inr (Or.inr (Or.inr (Or.inr (Or.inl ⟨h.1, h.2.1, h.2.2⟩))))))) (fun h => h.elim (fun h => (Or.inr (Or.inr (Or.inr (Or.inr (Or.inl ⟨h.1, h.2.1, h.2.2⟩)))))) (fun h => h.elim)))))
  exact w_iret rfl dX8_speak_45 ⟨hI34_, hF36_, trivial, ⟨M1_, hI4_, hF5_, hs7_, z8_, e9_, M10_, hM11_, M14_, hM15_, z18_, e19_, M20_, hM21_, M24_, hM25_, z28_, e29_, hI26_, M31_, hI34_, hF35_, r30_, hs37_, rfl, rfl⟩⟩
def S_c_X11_voice : rf → Nat → Prop := fun c k => (c.1 = 5 ∧ c.2.1 = 3 ∧ c.2.2 = 4 ∧ k = 1) ∨ (c.1 = 8 ∧ c.2.1 = 0 ∧ k = 2) ∨ (c.1 = 8 ∧ c.2.1 = 0 ∧ k = 3) ∨ (c.1 = 8 ∧ c.2.1 = 0 ∧ k = 4) ∨ (c.1 = 8 ∧ c.2.1 = 0 ∧ k = 5) ∨ (c.1 = 33 ∧ c.2.1 = 3 ∧ c.2.2 = 4) ∨ (c.1 = 5 ∧ c.2.1 = 3 ∧ c.2.2 = 5 ∧ k = 1) ∨ (c.1 = 33 ∧ c.2.1 = 3 ∧ c.2.2 = 5) ∨ (c.1 = 44 ∧ c.2.1 = 0) ∨ False
def SP_X11_voice (v : Int32) (u : Int32) (t : Int32) (Mz : mM) (r_ : Int32) (M_ : mM) : Prop := (((SP_X10_hasWalker 0 v Mz (1 : Int32)) ∧ (0 ≤ v.toInt ∧ v.toInt ≤ 7) ∧ (((SP_X11_within u 0 3 Mz (1 : Int32)) ∧ (0 ≤ u.toInt ∧ u.toInt ≤ 3) ∧ ∃ j13_ : Nat, ((j13_ : Int) = v.toInt) ∧ (j13_ < 8) ∧ ∃ M17_ : mM, (Inv M17_) ∧ (FR (S_c_X8_speak 0 j13_) Mz M17_) ∧ ∃ r16_ : Int32, (SP_X8_speak 0 j13_ v u t Mz r16_ M17_) ∧ ∃ z24_ : Int32, (z24_ = M17_.1 (8, 0, 0) 5) ∧ (0 ≤ z24_.toInt ∧ z24_.toInt ≤ 1) ∧ (((z24_.toInt = 0) ∧ ∃ M28_ : mM, (Inv M28_) ∧ (FR (S_c_X8_keepTrace) M17_ M28_) ∧ (SP_X8_keepTrace M17_ M28_) ∧ r_ = r16_ ∧ M_ = M28_) ∨ ((¬ z24_.toInt = 0) ∧ ∃ M36_ : mM, (Inv M36_) ∧ (FR (S_c_X11_error) M17_ M36_) ∧ ∃ r35_ : Int32, (SP_X11_error 6 M17_ r35_ M36_) ∧ r_ = r35_ ∧ M_ = M36_))) ∨ ((SP_X11_within u 0 3 Mz (0 : Int32)) ∧ (¬ (0 ≤ u.toInt ∧ u.toInt ≤ 3)) ∧ ∃ M45_ : mM, (Inv M45_) ∧ (FR (S_c_X11_error) Mz M45_) ∧ ∃ r44_ : Int32, (SP_X11_error 1 Mz r44_ M45_) ∧ r_ = r44_ ∧ M_ = M45_))) ∨ ((SP_X10_hasWalker 0 v Mz (0 : Int32)) ∧ ∃ M54_ : mM, (Inv M54_) ∧ (FR (S_c_X11_error) Mz M54_) ∧ ∃ r53_ : Int32, (SP_X11_error 1 Mz r53_ M54_) ∧ r_ = r53_ ∧ M_ = M54_))
set_option maxHeartbeats 4000000 in
set_option maxRecDepth 100000 in
theorem c_X11_voice (l : Launch) (G : va_G) (cy : Nat → ClassId) (ad : rf → Nat) (d : Nat) (v : Int32) (u : Int32) (t : Int32) (Mz : mM) (hIz : Inv Mz) : WP CC l G cy ad yX11_voice cX11_voice 5 (some .int) (d + 93) 0 [(0, vR (11, 0, 0)), (1, vI v), (2, vI u), (3, vI t)] [] Mz (fun r M' => Inv M' ∧ FR (S_c_X11_voice) Mz M' ∧ (True) ∧ SP_X11_voice v u t Mz r M') := by
  have hFz : FR (S_c_X11_voice) Mz Mz := FR.self
  refine w_aload_n dX11_voice_0 rfl 0 rfl ?_
  refine w_getR (c' := (10, 0, 0)) fl_RX11_10 rfl rfl ic_11 dX11_voice_1 rfl ?_
  refine w_iload_n dX11_voice_4 rfl 1 rfl ?_
  refine w_callV (as := [vI v]) (rest := []) (c_X10_hasWalker l G cy ad (d + 92) 0 v Mz hIz (by first | decide | (unfold vF; omega) | (unfold vRw; omega))) kV_X10_hasWalker pnn_7 (Nat.le_of_ble_eq_true rfl) m_609 rfl rfl rfl (ic_10 (by decide)) rfl rfl (by decide) (Nat.le_of_ble_eq_true rfl) dX11_voice_5 (fun r1_ M2_ q3_ => ?_)
  obtain ⟨rfl, h4_, hs5_⟩ := q3_
  rcases h4_ with ⟨rfl, h4_⟩ | rfl
  · refine w_if_eq (tgt := 20) dX11_voice_8 (by decide) li_1 (fun h9 => (absurd h9 (by decide))) (fun h6_ => ?_)
    refine w_iload_n dX11_voice_11 rfl 2 rfl ?_
    refine w_iconst (v := 0) dX11_voice_12 (by decide) ?_
    refine w_iconst (v := 3) dX11_voice_13 (by decide) ?_
    refine w_callS (as := [vI u, vI 0, vI 3]) (rest := []) (c_X11_within l G cy ad (d + 92) u 0 3 Mz hIz) kS_X11_within pnn_0 (Nat.le_of_ble_eq_true rfl) m_494 rfl rfl (by decide) (Nat.le_of_ble_eq_true rfl) dX11_voice_14 (fun r7_ M8_ q9_ => ?_)
    obtain ⟨rfl, h10_, hs11_⟩ := q9_
    rcases h10_ with ⟨rfl, h10_⟩ | ⟨rfl, h10_⟩
    · simp only [li_0, li_3] at h10_
      refine w_if_ne (tgt := 26) dX11_voice_17 (by decide) li_1 (fun h12_ => ?_) (fun h9 => (absurd h9 (by decide)))
      refine w_aload_n dX11_voice_26 rfl 0 rfl ?_
      refine w_getR (c' := (8, 0, 0)) fl_RX11_49 rfl rfl ic_11 dX11_voice_27 rfl ?_
      refine w_aload_n dX11_voice_30 rfl 0 rfl ?_
      refine w_getR (c' := (10, 0, 0)) fl_RX11_10 rfl rfl ic_11 dX11_voice_31 rfl ?_
      refine w_getR (c' := (42, 0, 0)) fl_RX11_157 rfl rfl (ic_10 (by decide)) dX11_voice_34 rfl ?_
      refine w_iload_n dX11_voice_37 rfl 1 rfl ?_
      refine w_aald rfl rfl rfl (fun _ => rfl) (ic_42 (by decide)) (rfl : v.toInt = v.toInt) (lf_c_X7_cellFrom_2 v h4_ ) dX11_voice_38 (fun j13_ h14_ h15_ => ?_)
      refine w_iload_n dX11_voice_39 rfl 1 rfl ?_
      refine w_iload_n dX11_voice_40 rfl 2 rfl ?_
      refine w_iload_n dX11_voice_41 rfl 3 rfl ?_
      refine w_callV (as := [vR (9, 0, j13_), vI v, vI u, vI t]) (rest := []) (c_X8_speak l G cy ad d 0 j13_ v u t Mz hIz (by first | decide | (unfold vF; omega) | (unfold vRw; omega)) h15_) kV_X8_speak pnn_12 (Nat.le_of_ble_eq_true rfl) m_1180 rfl rfl rfl ic_8 rfl rfl (by decide) (Nat.le_of_ble_eq_true rfl) dX11_voice_42 (fun r16_ M17_ q18_ => ?_)
      obtain ⟨hI20_, hF21_, h19_, hs23_⟩ := q18_
      have hF22_ := hFz.tr hF21_ (fun c k => (fun h => h.elim (fun h => (Or.inl ⟨h.1, h.2.1, h.2.2.1, h.2.2.2⟩)) (fun h => h.elim (fun h => (Or.inr (Or.inl ⟨h.1, h.2.1, h.2.2⟩))) (fun h => h.elim (fun h => (Or.inr (Or.inr (Or.inl ⟨h.1, h.2.1, h.2.2⟩)))) (fun h => h.elim (fun h => (Or.inr (Or.inr (Or.inr (Or.inl ⟨h.1, h.2.1, h.2.2⟩))))) (fun h => h.elim (fun h => (Or.inr (Or.inr (Or.inr (Or.inr (Or.inl ⟨h.1, h.2.1, h.2.2⟩)))))) (fun h => h.elim (fun h => (Or.inr (Or.inr (Or.inr (Or.inr (Or.inr (Or.inl ⟨h.1, h.2.1, h.2.2⟩))))))) (fun h => h.elim))))))))
      refine w_istore (ls' := [(4, vI r16_), (0, vR (11, 0, 0)), (1, vI v), (2, vI u), (3, vI t)]) dX11_voice_45 (by decide) rfl ?_
      refine w_aload_n dX11_voice_47 rfl 1 rfl ?_
      refine w_getR (c' := (8, 0, 0)) fl_RX11_49 rfl rfl ic_11 dX11_voice_48 rfl ?_
      refine w_getI fl_RX11_347 rfl rfl ic_8 dX11_voice_51 (fun z24_ e25_ => ?_)
      have h26_ : 0 ≤ z24_.toInt ∧ z24_.toInt ≤ 1 := ofEq (P := fun v => 0 ≤ v.toInt ∧ v.toInt ≤ 1) e25_ (hI20_ (8, 0, 0) 5 rfl)
      refine w_if_eq (tgt := 64) dX11_voice_54 (by decide) (rfl : z24_.toInt = z24_.toInt) (fun h27_ => ?_) (fun h27_ => ?_)
      · refine w_aload_n dX11_voice_64 rfl 1 rfl ?_
        refine w_getR (c' := (8, 0, 0)) fl_RX11_49 rfl rfl ic_11 dX11_voice_65 rfl ?_
        refine w_callVv (as := []) (rest := []) (c_X8_keepTrace l G cy ad (d + 90) M17_ hI20_) kV_X8_keepTrace pnn_12 (Nat.le_of_ble_eq_true rfl) m_1205 rfl rfl rfl ic_8 rfl rfl (by decide) (Nat.le_of_ble_eq_true rfl) dX11_voice_68 (fun M28_ q29_ => ?_)
        obtain ⟨hI31_, hF32_, h30_, hs34_⟩ := q29_
        have hF33_ := hF22_.tr hF32_ (fun c k => (fun h => h.elim (fun h => (Or.inr (Or.inr (Or.inr (Or.inr (Or.inr (Or.inr (Or.inl ⟨h.1, h.2.1, h.2.2.1, h.2.2.2⟩)))))))) (fun h => h.elim (fun h => (Or.inr (Or.inr (Or.inr (Or.inr (Or.inr (Or.inr (Or.inr (Or.inl ⟨h.1, h.2.1, h.2.2⟩))))))))) (fun h => h.elim))))
        refine w_iload dX11_voice_71 0 rfl ?_
        exact w_iret rfl dX11_voice_73 ⟨hI31_, hF33_, trivial, (Or.inl ⟨hs5_, h4_, (Or.inl ⟨hs11_, h10_, j13_, h14_, h15_, M17_, hI20_, hF21_, r16_, hs23_, z24_, e25_, h26_, (Or.inl ⟨h27_, M28_, hI31_, hF32_, hs34_, rfl, rfl⟩)⟩)⟩)⟩
      · refine w_aload_n dX11_voice_57 rfl 1 rfl ?_
        refine w_bipush (v := 6) dX11_voice_58 (by decide) ?_
        refine w_callV (as := [vI 6]) (rest := []) (c_X11_error l G cy ad (d + 92) 6 M17_ hI20_) kV_X11_error pnn_0 (Nat.le_of_ble_eq_true rfl) m_500 rfl rfl rfl ic_11 rfl rfl (by decide) (Nat.le_of_ble_eq_true rfl) dX11_voice_60 (fun r35_ M36_ q37_ => ?_)
        obtain ⟨hI39_, hF40_, h38_, hs42_⟩ := q37_
        have hF41_ := hF22_.tr hF40_ (fun c k => (fun h => h.elim (fun h => (Or.inr (Or.inr (Or.inr (Or.inr (Or.inr (Or.inr (Or.inr (Or.inr (Or.inl ⟨h.1, h.2⟩)))))))))) (fun h => h.elim)))
        exact w_iret rfl dX11_voice_63 ⟨hI39_, hF41_, trivial, (Or.inl ⟨hs5_, h4_, (Or.inl ⟨hs11_, h10_, j13_, h14_, h15_, M17_, hI20_, hF21_, r16_, hs23_, z24_, e25_, h26_, (Or.inr ⟨h27_, M36_, hI39_, hF40_, r35_, hs42_, rfl, rfl⟩)⟩)⟩)⟩
    · simp only [li_0, li_3] at h10_
      refine w_if_ne (tgt := 26) dX11_voice_17 (by decide) li_0 (fun h9 => (absurd h9 (by decide))) (fun h43_ => ?_)
      refine w_aload_n dX11_voice_20 rfl 0 rfl ?_
      refine w_iconst (v := 1) dX11_voice_21 (by decide) ?_
      refine w_callV (as := [vI 1]) (rest := []) (c_X11_error l G cy ad (d + 92) 1 Mz hIz) kV_X11_error pnn_0 (Nat.le_of_ble_eq_true rfl) m_500 rfl rfl rfl ic_11 rfl rfl (by decide) (Nat.le_of_ble_eq_true rfl) dX11_voice_22 (fun r44_ M45_ q46_ => ?_)
      obtain ⟨hI48_, hF49_, h47_, hs51_⟩ := q46_
      have hF50_ := hFz.tr hF49_ (fun c k => (fun h => h.elim (fun h => (Or.inr (Or.inr (Or.inr (Or.inr (Or.inr (Or.inr (Or.inr (Or.inr (Or.inl ⟨h.1, h.2⟩)))))))))) (fun h => h.elim)))
      exact w_iret rfl dX11_voice_25 ⟨hI48_, hF50_, trivial, (Or.inl ⟨hs5_, h4_, (Or.inr ⟨hs11_, h10_, M45_, hI48_, hF49_, r44_, hs51_, rfl, rfl⟩)⟩)⟩
  · refine w_if_eq (tgt := 20) dX11_voice_8 (by decide) li_0 (fun h52_ => ?_) (fun h9 => (absurd h9 (by decide)))
    refine w_aload_n dX11_voice_20 rfl 0 rfl ?_
    refine w_iconst (v := 1) dX11_voice_21 (by decide) ?_
    refine w_callV (as := [vI 1]) (rest := []) (c_X11_error l G cy ad (d + 92) 1 Mz hIz) kV_X11_error pnn_0 (Nat.le_of_ble_eq_true rfl) m_500 rfl rfl rfl ic_11 rfl rfl (by decide) (Nat.le_of_ble_eq_true rfl) dX11_voice_22 (fun r53_ M54_ q55_ => ?_)
    obtain ⟨hI57_, hF58_, h56_, hs60_⟩ := q55_
    have hF59_ := hFz.tr hF58_ (fun c k => (fun h => h.elim (fun h => (Or.inr (Or.inr (Or.inr (Or.inr (Or.inr (Or.inr (Or.inr (Or.inr (Or.inl ⟨h.1, h.2⟩)))))))))) (fun h => h.elim)))
    exact w_iret rfl dX11_voice_25 ⟨hI57_, hF59_, trivial, (Or.inr ⟨hs5_, M54_, hI57_, hF58_, r53_, hs60_, rfl, rfl⟩)⟩
end
section
/-! words of the tables that are used, by their places; decode rows; fields -/
end
section
def SP_X5_room2 (b : Nat) (k : Int) (Mz : mM) (r_ : Int32) : Prop := ∃ z1_ : Int32, (z1_ = Mz.1 (5, b, 2) 1) ∧ (z1_.toInt = k) ∧ ∃ z4_ : Int32, (z4_.toInt = 7 - z1_.toInt) ∧ r_ = z4_
theorem lf_c_X5_room2_0 (Mz : mM) (b : Nat) (k : Int) (hb : b < 3) (hk : (Mz.1 (5, b, 2) 1).toInt = k) (hk0 : 0 ≤ k ∧ k ≤ 7) : vRw b 2 := by unfold vRw; omega
theorem lf_c_X5_room2_3 (k : Int) (z1_ : Int32) (hk0 : 0 ≤ k ∧ k ≤ 7) (h3_ : z1_.toInt = k) : -2147483648 ≤ 7 - z1_.toInt ∧ 7 - z1_.toInt < 2147483648 := by omega
theorem lf_c_X5_room2_4 (k : Int) (z1_ : Int32) (z4_ : Int32) (h3_ : z1_.toInt = k) (h5_ : z4_.toInt = 7 - z1_.toInt) : z4_.toInt = 7 - k := by omega
set_option maxHeartbeats 4000000 in
set_option maxRecDepth 100000 in
theorem c_X5_room2 (l : Launch) (G : va_G) (cy : Nat → ClassId) (ad : rf → Nat) (d : Nat) (b : Nat) (k : Int) (Mz : mM) (hIz : Inv Mz) (hb : b < 3) (hk : (Mz.1 (5, b, 2) 1).toInt = k) (hk0 : 0 ≤ k ∧ k ≤ 7) : WP CC l G cy ad yX5_room cX5_room 1 (some .int) d 0 [(0, vR (5, b, 2))] [] Mz (fun r M' => Mz = M' ∧ (r.toInt = 7 - k) ∧ SP_X5_room2 b k Mz r) := by
  refine w_aload_n dX5_room_0 rfl 0 rfl ?_
  refine w_getR (c' := (33, b, 2)) fl_RX5_19 rfl rfl (ic_5 (lf_c_X5_room2_0 Mz b k hb hk hk0 )) dX5_room_1 rfl ?_
  refine w_alen (v := 7) (by decide) rfl rfl (ic_33 (lf_c_X5_room2_0 Mz b k hb hk hk0 )) dX5_room_4 rfl ?_
  refine w_aload_n dX5_room_5 rfl 0 rfl ?_
  refine w_getI fl_RX5_7 rfl rfl (ic_5 (lf_c_X5_room2_0 Mz b k hb hk hk0 )) dX5_room_6 (fun z1_ e2_ => ?_)
  have h3_ : z1_.toInt = k := by rw [e2_]; exact hk
  refine w_isubB dX5_room_9 li_7 (rfl : z1_.toInt = z1_.toInt) (lf_c_X5_room2_3 k z1_ hk0 h3_ ) (fun z4_ h5_ => ?_)
  exact w_iret rfl dX5_room_10 ⟨rfl, (lf_c_X5_room2_4 k z1_ z4_ h3_ h5_ ), ⟨z1_, e2_, h3_, z4_, h5_, rfl⟩⟩
def S_c_X5_add2 (b : Nat) : rf → Nat → Prop := fun c k => (c.1 = 33 ∧ c.2.1 = b ∧ c.2.2 = 2) ∨ (c.1 = 5 ∧ c.2.1 = b ∧ c.2.2 = 2 ∧ k = 1) ∨ False
def SP_X5_add2 (b : Nat) (k : Int) (v : Int32) (Mz : mM) (M_ : mM) : Prop := ∃ z1_ : Int32, (z1_ = Mz.1 (5, b, 2) 1) ∧ (z1_.toInt = k) ∧ (0 ≤ z1_.toInt) ∧ (z1_.toInt < 7) ∧ ∃ j12_ : Nat, ((j12_ : Int) = z1_.toInt) ∧ ∃ M10_ : mM, (M10_ = up Mz (33, b, 2) j12_ v) ∧ ∃ z17_ : Int32, (z17_ = M10_.1 (5, b, 2) 1) ∧ (z17_.toInt = k) ∧ ∃ z20_ : Int32, (z20_.toInt = z17_.toInt + 1) ∧ ∃ M22_ : mM, (M22_ = up M10_ (5, b, 2) 1 z20_) ∧ M_ = M22_
theorem lf_c_X5_add2_0 (Mz : mM) (b : Nat) (k : Int) (hb : b < 3) (hk : (Mz.1 (5, b, 2) 1).toInt = k) (hk0 : 0 ≤ k ∧ k ≤ 6) : vRw b 2 := by unfold vRw; omega
theorem lf_c_X5_add2_1 (k : Int) (z1_ : Int32) (hk0 : 0 ≤ k ∧ k ≤ 6) (h3_ : z1_.toInt = k) (h9 : z1_.toInt < 0) : False := by omega
theorem lf_c_X5_add2_2 (Mz : mM) (b : Nat) (k : Int) (z1_ : Int32) (hb : b < 3) (hk : (Mz.1 (5, b, 2) 1).toInt = k) (hk0 : 0 ≤ k ∧ k ≤ 6) (e2_ : z1_ = Mz.1 (5, b, 2) 1) (h3_ : z1_.toInt = k) (h4_ : 0 ≤ z1_.toInt) : vRw b 2 := by have r_z1_ := rngI z1_; unfold vRw; omega
theorem lf_c_X5_add2_5 (k : Int) (z1_ : Int32) (hk0 : 0 ≤ k ∧ k ≤ 6) (h3_ : z1_.toInt = k) (h9 : 7 ≤ z1_.toInt) : False := by omega
theorem lf_c_X5_add2_6 (Mz : mM) (b : Nat) (k : Int) (z1_ : Int32) (hb : b < 3) (hk : (Mz.1 (5, b, 2) 1).toInt = k) (hk0 : 0 ≤ k ∧ k ≤ 6) (e2_ : z1_ = Mz.1 (5, b, 2) 1) (h3_ : z1_.toInt = k) (h4_ : 0 ≤ z1_.toInt) (h7_ : z1_.toInt < 7) : vRw b 2 := by have r_z1_ := rngI z1_; unfold vRw; omega
theorem lf_c_X5_add2_10 (M10_ : mM) (Mz : mM) (b : Nat) (k : Int) (v : Int32) (z1_ : Int32) (j12_ : Nat) (hb : b < 3) (hk : (Mz.1 (5, b, 2) 1).toInt = k) (hk0 : 0 ≤ k ∧ k ≤ 6) (e2_ : z1_ = Mz.1 (5, b, 2) 1) (h3_ : z1_.toInt = k) (h4_ : 0 ≤ z1_.toInt) (h7_ : z1_.toInt < 7) (h13_ : (j12_ : Int) = z1_.toInt) (hM11_ : M10_ = up Mz (33, b, 2) j12_ v) (kf16_ : (M10_.1 (5, b, 2) 1).toInt = k) : vRw b 2 := by have r_v := rngI v; have r_z1_ := rngI z1_; unfold vRw; omega
theorem lf_c_X5_add2_11 (k : Int) (z17_ : Int32) (hk0 : 0 ≤ k ∧ k ≤ 6) (h19_ : z17_.toInt = k) : -2147483648 ≤ z17_.toInt + 1 ∧ z17_.toInt + 1 < 2147483648 := by omega
theorem lf_c_X5_add2_12 (M10_ : mM) (Mz : mM) (b : Nat) (k : Int) (v : Int32) (z1_ : Int32) (j12_ : Nat) (z17_ : Int32) (z20_ : Int32) (hb : b < 3) (hk : (Mz.1 (5, b, 2) 1).toInt = k) (hk0 : 0 ≤ k ∧ k ≤ 6) (e2_ : z1_ = Mz.1 (5, b, 2) 1) (h3_ : z1_.toInt = k) (h4_ : 0 ≤ z1_.toInt) (h7_ : z1_.toInt < 7) (h13_ : (j12_ : Int) = z1_.toInt) (hM11_ : M10_ = up Mz (33, b, 2) j12_ v) (kf16_ : (M10_.1 (5, b, 2) 1).toInt = k) (e18_ : z17_ = M10_.1 (5, b, 2) 1) (h19_ : z17_.toInt = k) (h21_ : z20_.toInt = z17_.toInt + 1) : vRw b 2 := by have r_v := rngI v; have r_z1_ := rngI z1_; have r_z17_ := rngI z17_; have r_z20_ := rngI z20_; unfold vRw; omega
theorem lf_c_X5_add2_13 (k : Int) (z17_ : Int32) (z20_ : Int32) (h19_ : z17_.toInt = k) (h21_ : z20_.toInt = z17_.toInt + 1) : z20_.toInt = k + 1 := by omega
set_option maxHeartbeats 4000000 in
set_option maxRecDepth 100000 in
theorem c_X5_add2 (l : Launch) (G : va_G) (cy : Nat → ClassId) (ad : rf → Nat) (d : Nat) (b : Nat) (k : Int) (v : Int32) (Mz : mM) (hIz : Inv Mz) (hb : b < 3) (hk : (Mz.1 (5, b, 2) 1).toInt = k) (hk0 : 0 ≤ k ∧ k ≤ 6) : WP CC l G cy ad yX5_add cX5_add 2 none d 0 [(0, vR (5, b, 2)), (1, vI v)] [] Mz (fun r M' => Inv M' ∧ FR (S_c_X5_add2 b) Mz M' ∧ ((M'.1 (5, b, 2) 1).toInt = k + 1) ∧ SP_X5_add2 b k v Mz M') := by
  have hFz : FR (S_c_X5_add2 b) Mz Mz := FR.self
  refine w_aload_n dX5_add_0 rfl 0 rfl ?_
  refine w_getI fl_RX5_7 rfl rfl (ic_5 (lf_c_X5_add2_0 Mz b k hb hk hk0 )) dX5_add_1 (fun z1_ e2_ => ?_)
  have h3_ : z1_.toInt = k := by rw [e2_]; exact hk
  refine w_if_lt (tgt := 39) dX5_add_4 (by decide) (rfl : z1_.toInt = z1_.toInt) (fun h9 => (lf_c_X5_add2_1 k z1_ hk0 h3_ h9 ).elim) (fun h4_ => ?_)
  refine w_aload_n dX5_add_7 rfl 0 rfl ?_
  refine w_getI fl_RX5_7 rfl rfl (ic_5 (lf_c_X5_add2_2 Mz b k z1_ hb hk hk0 e2_ h3_ h4_ )) dX5_add_8 (fun z5_ e6_ => ?_)
  obtain rfl : z1_ = z5_ := e2_.trans e6_.symm
  refine w_aload_n dX5_add_11 rfl 0 rfl ?_
  refine w_getR (c' := (33, b, 2)) fl_RX5_19 rfl rfl (ic_5 (lf_c_X5_add2_2 Mz b k z1_ hb hk hk0 e2_ h3_ h4_ )) dX5_add_12 rfl ?_
  refine w_alen (v := 7) (by decide) rfl rfl (ic_33 (lf_c_X5_add2_2 Mz b k z1_ hb hk hk0 e2_ h3_ h4_ )) dX5_add_15 rfl ?_
  refine w_icmp_ge (tgt := 39) dX5_add_16 (by decide) (rfl : z1_.toInt = z1_.toInt) li_7 (fun h9 => (lf_c_X5_add2_5 k z1_ hk0 h3_ h9 ).elim) (fun h7_ => ?_)
  refine w_aload_n dX5_add_19 rfl 0 rfl ?_
  refine w_getR (c' := (33, b, 2)) fl_RX5_19 rfl rfl (ic_5 (lf_c_X5_add2_6 Mz b k z1_ hb hk hk0 e2_ h3_ h4_ h7_ )) dX5_add_20 rfl ?_
  refine w_aload_n dX5_add_23 rfl 0 rfl ?_
  refine w_getI fl_RX5_7 rfl rfl (ic_5 (lf_c_X5_add2_6 Mz b k z1_ hb hk hk0 e2_ h3_ h4_ h7_ )) dX5_add_24 (fun z8_ e9_ => ?_)
  obtain rfl : z1_ = z8_ := e2_.trans e9_.symm
  refine w_iload_n dX5_add_27 rfl 1 rfl ?_
  refine w_iast CC_nd rfl rfl (ic_33 (lf_c_X5_add2_6 Mz b k z1_ hb hk hk0 e2_ h3_ h4_ h7_ )) (rfl : z1_.toInt = z1_.toInt) (lf_c_X3_add_0 z1_ h4_ h7_ ) dX5_add_28 (fun j12_ h13_ M10_ hM11_ => ?_)
  have hI14_ := hIz.put hM11_ trivial
  have hF15_ := hFz.put hM11_ (Or.inl ⟨rfl, rfl, rfl⟩)
  have kf16_ : (M10_.1 (5, b, 2) 1).toInt = k := by rw [(show M10_.1 (5, b, 2) 1 = Mz.1 (5, b, 2) 1 by rw [hM11_, up_ne (by simp)])]; exact hk
  refine w_aload_n dX5_add_29 rfl 0 rfl ?_
  refine w_dup dX5_add_30 rfl ?_
  refine w_getI fl_RX5_7 rfl rfl (ic_5 (lf_c_X5_add2_10 M10_ Mz b k v z1_ j12_ hb hk hk0 e2_ h3_ h4_ h7_ h13_ hM11_ kf16_ )) dX5_add_31 (fun z17_ e18_ => ?_)
  have h19_ : z17_.toInt = k := by rw [e18_]; exact kf16_
  refine w_iconst (v := 1) dX5_add_34 (by decide) ?_
  refine w_iaddB dX5_add_35 (rfl : z17_.toInt = z17_.toInt) li_1 (lf_c_X5_add2_11 k z17_ hk0 h19_ ) (fun z20_ h21_ => ?_)
  refine w_putI CC_nd fl_RX5_7 rfl rfl (ic_5 (lf_c_X5_add2_12 M10_ Mz b k v z1_ j12_ z17_ z20_ hb hk hk0 e2_ h3_ h4_ h7_ h13_ hM11_ kf16_ e18_ h19_ h21_ )) dX5_add_36 (fun M22_ hM23_ => ?_)
  have hI24_ := hI14_.put hM23_ trivial
  have hF25_ := hF15_.put hM23_ (Or.inr (Or.inl ⟨rfl, rfl, rfl, rfl⟩))
  have kf26_ : (M22_.1 (5, b, 2) 1).toInt = k + 1 := by rw [hM23_, up_same]; exact (lf_c_X5_add2_13 k z17_ z20_ h19_ h21_ )
  exact w_vret rfl dX5_add_39 ⟨hI24_, hF25_, kf26_, ⟨z1_, e2_, h3_, h4_, h7_, j12_, h13_, M10_, hM11_, z17_, e18_, h19_, z20_, h21_, M22_, hM23_, rfl⟩⟩
def S_c_X5_drop2 (b : Nat) : rf → Nat → Prop := fun c k => (c.1 = 5 ∧ c.2.1 = b ∧ c.2.2 = 2 ∧ k = 1) ∨ False
def SP_X5_drop2 (b : Nat) (k : Int) (Mz : mM) (M_ : mM) : Prop := ∃ z1_ : Int32, (z1_ = Mz.1 (5, b, 2) 1) ∧ (z1_.toInt = k) ∧ (0 < z1_.toInt) ∧ ∃ z7_ : Int32, (z7_.toInt = z1_.toInt - 1) ∧ ∃ M9_ : mM, (M9_ = up Mz (5, b, 2) 1 z7_) ∧ M_ = M9_
theorem lf_c_X5_drop2_0 (Mz : mM) (b : Nat) (k : Int) (hb : b < 3) (hk : (Mz.1 (5, b, 2) 1).toInt = k) (hk0 : 1 ≤ k ∧ k ≤ 7) : vRw b 2 := by unfold vRw; omega
theorem lf_c_X5_drop2_1 (k : Int) (z1_ : Int32) (hk0 : 1 ≤ k ∧ k ≤ 7) (h3_ : z1_.toInt = k) (h9 : z1_.toInt ≤ 0) : False := by omega
theorem lf_c_X5_drop2_2 (Mz : mM) (b : Nat) (k : Int) (z1_ : Int32) (hb : b < 3) (hk : (Mz.1 (5, b, 2) 1).toInt = k) (hk0 : 1 ≤ k ∧ k ≤ 7) (e2_ : z1_ = Mz.1 (5, b, 2) 1) (h3_ : z1_.toInt = k) (h4_ : 0 < z1_.toInt) : vRw b 2 := by have r_z1_ := rngI z1_; unfold vRw; omega
theorem lf_c_X5_drop2_3 (k : Int) (z1_ : Int32) (hk0 : 1 ≤ k ∧ k ≤ 7) (h3_ : z1_.toInt = k) (h4_ : 0 < z1_.toInt) : -2147483648 ≤ z1_.toInt - 1 ∧ z1_.toInt - 1 < 2147483648 := by omega
theorem lf_c_X5_drop2_4 (Mz : mM) (b : Nat) (k : Int) (z1_ : Int32) (z7_ : Int32) (hb : b < 3) (hk : (Mz.1 (5, b, 2) 1).toInt = k) (hk0 : 1 ≤ k ∧ k ≤ 7) (e2_ : z1_ = Mz.1 (5, b, 2) 1) (h3_ : z1_.toInt = k) (h4_ : 0 < z1_.toInt) (h8_ : z7_.toInt = z1_.toInt - 1) : vRw b 2 := by have r_z1_ := rngI z1_; have r_z7_ := rngI z7_; unfold vRw; omega
theorem lf_c_X5_drop2_5 (k : Int) (z1_ : Int32) (z7_ : Int32) (h3_ : z1_.toInt = k) (h8_ : z7_.toInt = z1_.toInt - 1) : z7_.toInt = k - 1 := by omega
set_option maxHeartbeats 4000000 in
set_option maxRecDepth 100000 in
theorem c_X5_drop2 (l : Launch) (G : va_G) (cy : Nat → ClassId) (ad : rf → Nat) (d : Nat) (b : Nat) (k : Int) (Mz : mM) (hIz : Inv Mz) (hb : b < 3) (hk : (Mz.1 (5, b, 2) 1).toInt = k) (hk0 : 1 ≤ k ∧ k ≤ 7) : WP CC l G cy ad yX5_dropLast cX5_dropLast 1 none d 0 [(0, vR (5, b, 2))] [] Mz (fun r M' => Inv M' ∧ FR (S_c_X5_drop2 b) Mz M' ∧ ((M'.1 (5, b, 2) 1).toInt = k - 1) ∧ SP_X5_drop2 b k Mz M') := by
  have hFz : FR (S_c_X5_drop2 b) Mz Mz := FR.self
  refine w_aload_n dX5_dropLast_0 rfl 0 rfl ?_
  refine w_getI fl_RX5_7 rfl rfl (ic_5 (lf_c_X5_drop2_0 Mz b k hb hk hk0 )) dX5_dropLast_1 (fun z1_ e2_ => ?_)
  have h3_ : z1_.toInt = k := by rw [e2_]; exact hk
  refine w_if_le (tgt := 17) dX5_dropLast_4 (by decide) (rfl : z1_.toInt = z1_.toInt) (fun h9 => (lf_c_X5_drop2_1 k z1_ hk0 h3_ h9 ).elim) (fun h4_ => ?_)
  refine w_aload_n dX5_dropLast_7 rfl 0 rfl ?_
  refine w_dup dX5_dropLast_8 rfl ?_
  refine w_getI fl_RX5_7 rfl rfl (ic_5 (lf_c_X5_drop2_2 Mz b k z1_ hb hk hk0 e2_ h3_ h4_ )) dX5_dropLast_9 (fun z5_ e6_ => ?_)
  obtain rfl : z1_ = z5_ := e2_.trans e6_.symm
  refine w_iconst (v := 1) dX5_dropLast_12 (by decide) ?_
  refine w_isubB dX5_dropLast_13 (rfl : z1_.toInt = z1_.toInt) li_1 (lf_c_X5_drop2_3 k z1_ hk0 h3_ h4_ ) (fun z7_ h8_ => ?_)
  refine w_putI CC_nd fl_RX5_7 rfl rfl (ic_5 (lf_c_X5_drop2_4 Mz b k z1_ z7_ hb hk hk0 e2_ h3_ h4_ h8_ )) dX5_dropLast_14 (fun M9_ hM10_ => ?_)
  have hI11_ := hIz.put hM10_ trivial
  have hF12_ := hFz.put hM10_ (Or.inl ⟨rfl, rfl, rfl, rfl⟩)
  have kf13_ : (M9_.1 (5, b, 2) 1).toInt = k - 1 := by rw [hM10_, up_same]; exact (lf_c_X5_drop2_5 k z1_ z7_ h3_ h8_ )
  exact w_vret rfl dX5_dropLast_17 ⟨hI11_, hF12_, kf13_, ⟨z1_, e2_, h3_, h4_, z7_, h8_, M9_, hM10_, rfl⟩⟩
def S_c_X5_clear2 (b : Nat) : rf → Nat → Prop := fun c k => (c.1 = 5 ∧ c.2.1 = b ∧ c.2.2 = 2 ∧ k = 1) ∨ False
def SP_X5_clear2 (b : Nat) (Mz : mM) (M_ : mM) : Prop := ∃ M1_ : mM, (M1_ = up Mz (5, b, 2) 1 0) ∧ M_ = M1_
theorem lf_c_X5_clear2_0 (b : Nat) (hb : b < 3) : vRw b 2 := by unfold vRw; omega
theorem lf_c_X5_clear2_1 : (0 : Int32).toInt = 0 := by have q0 := li_0; omega
set_option maxHeartbeats 4000000 in
set_option maxRecDepth 100000 in
theorem c_X5_clear2 (l : Launch) (G : va_G) (cy : Nat → ClassId) (ad : rf → Nat) (d : Nat) (b : Nat) (Mz : mM) (hIz : Inv Mz) (hb : b < 3) : WP CC l G cy ad yX5_clear cX5_clear 1 none d 0 [(0, vR (5, b, 2))] [] Mz (fun r M' => Inv M' ∧ FR (S_c_X5_clear2 b) Mz M' ∧ ((M'.1 (5, b, 2) 1).toInt = 0) ∧ SP_X5_clear2 b Mz M') := by
  have hFz : FR (S_c_X5_clear2 b) Mz Mz := FR.self
  refine w_aload_n dX5_clear_0 rfl 0 rfl ?_
  refine w_iconst (v := 0) dX5_clear_1 (by decide) ?_
  refine w_putI CC_nd fl_RX5_7 rfl rfl (ic_5 (lf_c_X5_clear2_0 b hb )) dX5_clear_2 (fun M1_ hM2_ => ?_)
  have hI3_ := hIz.put hM2_ trivial
  have hF4_ := hFz.put hM2_ (Or.inl ⟨rfl, rfl, rfl, rfl⟩)
  have kf5_ : (M1_.1 (5, b, 2) 1).toInt = 0 := by rw [hM2_, up_same]; exact (lf_c_X5_clear2_1 )
  exact w_vret rfl dX5_clear_5 ⟨hI3_, hF4_, kf5_, ⟨M1_, hM2_, rfl⟩⟩
end
section
/-! words of the tables that are used, by their places; decode rows; fields -/
theorem m_18 : Cond.selects yX3_tryRows.cls yX3_tryRows yX3_tryRows ∈ BASE := bmem 18 (by decide +kernel) rfl
theorem m_19 : Cond.selects yX3_isBetter.cls yX3_isBetter yX3_isBetter ∈ BASE := bmem 19 (by decide +kernel) rfl
set_option maxRecDepth 20000 in
theorem m_226 : Cond.fieldLink RX3 35 "ClickStreet$Lessons" "wantedBits" "I" ∈ BASE := bmT1 148 rfl rfl
set_option maxRecDepth 20000 in
theorem m_229 : Cond.fieldLink RX3 41 "ClickStreet$Lessons" "isFound" "Z" ∈ BASE := bmT1 151 rfl rfl
set_option maxRecDepth 20000 in
theorem m_1134 : Cond.methodLink RX3 48 yX3_tryRows ∈ BASE := bmT5 96 rfl rfl
set_option maxRecDepth 20000 in
theorem m_1136 : Cond.instanceMethod yX3_tryRows ∈ BASE := bmT5 98 rfl rfl
set_option maxRecDepth 20000 in
theorem m_1137 : Cond.code yX3_tryRows cX3_tryRows 5 none ∈ BASE := bmT5 99 rfl rfl
set_option maxRecDepth 20000 in
theorem m_1138 : Cond.methodLink RX3 52 yX3_isBetter ∈ BASE := bmT5 100 rfl rfl
set_option maxRecDepth 20000 in
theorem m_1140 : Cond.instanceMethod yX3_isBetter ∈ BASE := bmT5 102 rfl rfl
set_option maxRecDepth 20000 in
theorem m_1141 : Cond.code yX3_isBetter cX3_isBetter 2 (some .boolean) ∈ BASE := bmT5 103 rfl rfl
set_option maxRecDepth 20000 in
theorem m_1142 : Cond.methodLink RX3 56 yX5_takeFrom ∈ BASE := bmT5 104 rfl rfl
set_option maxRecDepth 20000 in
theorem m_1148 : Cond.methodLink RX3 60 yX5_room ∈ BASE := bmT5 110 rfl rfl
set_option maxRecDepth 20000 in
theorem m_1149 : Cond.methodLink RX3 64 yX5_add ∈ BASE := bmT5 111 rfl rfl
set_option maxRecDepth 20000 in
theorem m_1150 : Cond.methodLink RX3 67 yX5_dropLast ∈ BASE := bmT5 112 rfl rfl
set_option maxRecDepth 20000 in
theorem m_1151 : Cond.instanceMethod yX5_dropLast ∈ BASE := bmT5 113 rfl rfl
set_option maxRecDepth 20000 in
theorem m_1152 : Cond.selects yX5_dropLast.cls yX5_dropLast yX5_dropLast ∈ BASE := bmT5 114 rfl rfl
set_option maxRecDepth 20000 in
theorem m_1153 : Cond.code yX5_dropLast cX5_dropLast 1 none ∈ BASE := bmT5 115 rfl rfl
theorem kV_X3_isBetter : KV yX3_isBetter cX3_isBetter 2 (some .boolean) 1 := ⟨m_1140, m_19, m_84, m_1141, nhM_8, nhV_8, pdn_1⟩
theorem kV_X3_tryRows : KV yX3_tryRows cX3_tryRows 5 none 3 := ⟨m_1136, m_18, m_84, m_1137, nhM_8, nhV_8, pdn_19⟩
theorem kV_X5_dropLast : KV yX5_dropLast cX5_dropLast 1 none 0 := ⟨m_1151, m_1152, m_85, m_1153, nhM_2, nhV_2, pdn_30⟩
theorem fl_RX3_35 : FLK RX3 35 3 6 .int false := ⟨RX3, TX3, 9, tyX3, rfl, inB3, tyX3_ok, nmX3, by decide, rfl, rfl, Or.inl m_226⟩
theorem fl_RX3_41 : FLK RX3 41 3 8 .boolean false := ⟨RX3, TX3, 9, tyX3, rfl, inB3, tyX3_ok, nmX3, by decide, rfl, rfl, Or.inl m_229⟩
theorem ch_cX3_tryRows_0 : (cX3_tryRows.data.toList.drop 0).take 36 = [42, 180, 0, 35, 27, 2, 130, 126, 154, 0, 40, 42, 180, 0, 41, 153, 0, 11, 42, 29, 182, 0, 52, 153, 0, 24, 42, 4, 181, 0, 41, 42, 29, 181, 0, 38] := by decide +kernel
theorem dX3_tryRows_0 : decode cX3_tryRows 0 = .ok (.aload_n 0, 1) := do_42 (rdb (p := 0) (i := 0) ch_cX3_tryRows_0 rfl)
theorem dX3_tryRows_1 : decode cX3_tryRows 1 = .ok (.getfield 35, 3) := do_180 (rdb (p := 0) (i := 1) ch_cX3_tryRows_0 rfl) (rdb (p := 0) (i := 2) ch_cX3_tryRows_0 rfl) (rdb (p := 0) (i := 3) ch_cX3_tryRows_0 rfl) rfl
theorem dX3_tryRows_4 : decode cX3_tryRows 4 = .ok (.iload_n 1, 1) := do_27 (rdb (p := 0) (i := 4) ch_cX3_tryRows_0 rfl)
theorem dX3_tryRows_5 : decode cX3_tryRows 5 = .ok (.iconst (-1), 1) := do_2 (rdb (p := 0) (i := 5) ch_cX3_tryRows_0 rfl)
theorem dX3_tryRows_6 : decode cX3_tryRows 6 = .ok (.ixor, 1) := do_130 (rdb (p := 0) (i := 6) ch_cX3_tryRows_0 rfl)
theorem dX3_tryRows_7 : decode cX3_tryRows 7 = .ok (.iand, 1) := do_126 (rdb (p := 0) (i := 7) ch_cX3_tryRows_0 rfl)
theorem dX3_tryRows_8 : decode cX3_tryRows 8 = .ok (.ifCond .ne 40, 3) := do_154 (rdb (p := 0) (i := 8) ch_cX3_tryRows_0 rfl) (rdb (p := 0) (i := 9) ch_cX3_tryRows_0 rfl) (rdb (p := 0) (i := 10) ch_cX3_tryRows_0 rfl) (by decide +kernel)
theorem dX3_tryRows_11 : decode cX3_tryRows 11 = .ok (.aload_n 0, 1) := do_42 (rdb (p := 0) (i := 11) ch_cX3_tryRows_0 rfl)
theorem dX3_tryRows_12 : decode cX3_tryRows 12 = .ok (.getfield 41, 3) := do_180 (rdb (p := 0) (i := 12) ch_cX3_tryRows_0 rfl) (rdb (p := 0) (i := 13) ch_cX3_tryRows_0 rfl) (rdb (p := 0) (i := 14) ch_cX3_tryRows_0 rfl) rfl
theorem dX3_tryRows_15 : decode cX3_tryRows 15 = .ok (.ifCond .eq 11, 3) := do_153 (rdb (p := 0) (i := 15) ch_cX3_tryRows_0 rfl) (rdb (p := 0) (i := 16) ch_cX3_tryRows_0 rfl) (rdb (p := 0) (i := 17) ch_cX3_tryRows_0 rfl) (by decide +kernel)
theorem dX3_tryRows_18 : decode cX3_tryRows 18 = .ok (.aload_n 0, 1) := do_42 (rdb (p := 0) (i := 18) ch_cX3_tryRows_0 rfl)
theorem dX3_tryRows_19 : decode cX3_tryRows 19 = .ok (.iload_n 3, 1) := do_29 (rdb (p := 0) (i := 19) ch_cX3_tryRows_0 rfl)
theorem dX3_tryRows_20 : decode cX3_tryRows 20 = .ok (.invokevirtual 52, 3) := do_182 (rdb (p := 0) (i := 20) ch_cX3_tryRows_0 rfl) (rdb (p := 0) (i := 21) ch_cX3_tryRows_0 rfl) (rdb (p := 0) (i := 22) ch_cX3_tryRows_0 rfl) rfl
theorem dX3_tryRows_23 : decode cX3_tryRows 23 = .ok (.ifCond .eq 24, 3) := do_153 (rdb (p := 0) (i := 23) ch_cX3_tryRows_0 rfl) (rdb (p := 0) (i := 24) ch_cX3_tryRows_0 rfl) (rdb (p := 0) (i := 25) ch_cX3_tryRows_0 rfl) (by decide +kernel)
theorem dX3_tryRows_26 : decode cX3_tryRows 26 = .ok (.aload_n 0, 1) := do_42 (rdb (p := 0) (i := 26) ch_cX3_tryRows_0 rfl)
theorem dX3_tryRows_27 : decode cX3_tryRows 27 = .ok (.iconst 1, 1) := do_4 (rdb (p := 0) (i := 27) ch_cX3_tryRows_0 rfl)
theorem dX3_tryRows_28 : decode cX3_tryRows 28 = .ok (.putfield 41, 3) := do_181 (rdb (p := 0) (i := 28) ch_cX3_tryRows_0 rfl) (rdb (p := 0) (i := 29) ch_cX3_tryRows_0 rfl) (rdb (p := 0) (i := 30) ch_cX3_tryRows_0 rfl) rfl
theorem dX3_tryRows_31 : decode cX3_tryRows 31 = .ok (.aload_n 0, 1) := do_42 (rdb (p := 0) (i := 31) ch_cX3_tryRows_0 rfl)
theorem ch_cX3_tryRows_32 : (cX3_tryRows.data.toList.drop 32).take 36 = [29, 181, 0, 38, 42, 180, 0, 32, 42, 180, 0, 28, 182, 0, 56, 177, 42, 180, 0, 28, 182, 0, 60, 153, 0, 18, 42, 180, 0, 41, 153, 0, 12, 29, 42, 180] := by decide +kernel
theorem dX3_tryRows_32 : decode cX3_tryRows 32 = .ok (.iload_n 3, 1) := do_29 (rdb (p := 32) (i := 0) ch_cX3_tryRows_32 rfl)
theorem dX3_tryRows_33 : decode cX3_tryRows 33 = .ok (.putfield 38, 3) := do_181 (rdb (p := 32) (i := 1) ch_cX3_tryRows_32 rfl) (rdb (p := 32) (i := 2) ch_cX3_tryRows_32 rfl) (rdb (p := 32) (i := 3) ch_cX3_tryRows_32 rfl) rfl
theorem dX3_tryRows_36 : decode cX3_tryRows 36 = .ok (.aload_n 0, 1) := do_42 (rdb (p := 32) (i := 4) ch_cX3_tryRows_32 rfl)
theorem dX3_tryRows_37 : decode cX3_tryRows 37 = .ok (.getfield 32, 3) := do_180 (rdb (p := 32) (i := 5) ch_cX3_tryRows_32 rfl) (rdb (p := 32) (i := 6) ch_cX3_tryRows_32 rfl) (rdb (p := 32) (i := 7) ch_cX3_tryRows_32 rfl) rfl
theorem dX3_tryRows_40 : decode cX3_tryRows 40 = .ok (.aload_n 0, 1) := do_42 (rdb (p := 32) (i := 8) ch_cX3_tryRows_32 rfl)
theorem dX3_tryRows_41 : decode cX3_tryRows 41 = .ok (.getfield 28, 3) := do_180 (rdb (p := 32) (i := 9) ch_cX3_tryRows_32 rfl) (rdb (p := 32) (i := 10) ch_cX3_tryRows_32 rfl) (rdb (p := 32) (i := 11) ch_cX3_tryRows_32 rfl) rfl
theorem dX3_tryRows_44 : decode cX3_tryRows 44 = .ok (.invokevirtual 56, 3) := do_182 (rdb (p := 32) (i := 12) ch_cX3_tryRows_32 rfl) (rdb (p := 32) (i := 13) ch_cX3_tryRows_32 rfl) (rdb (p := 32) (i := 14) ch_cX3_tryRows_32 rfl) rfl
theorem dX3_tryRows_47 : decode cX3_tryRows 47 = .ok (.return_, 1) := do_177 (rdb (p := 32) (i := 15) ch_cX3_tryRows_32 rfl)
theorem dX3_tryRows_48 : decode cX3_tryRows 48 = .ok (.aload_n 0, 1) := do_42 (rdb (p := 32) (i := 16) ch_cX3_tryRows_32 rfl)
theorem dX3_tryRows_49 : decode cX3_tryRows 49 = .ok (.getfield 28, 3) := do_180 (rdb (p := 32) (i := 17) ch_cX3_tryRows_32 rfl) (rdb (p := 32) (i := 18) ch_cX3_tryRows_32 rfl) (rdb (p := 32) (i := 19) ch_cX3_tryRows_32 rfl) rfl
theorem dX3_tryRows_52 : decode cX3_tryRows 52 = .ok (.invokevirtual 60, 3) := do_182 (rdb (p := 32) (i := 20) ch_cX3_tryRows_32 rfl) (rdb (p := 32) (i := 21) ch_cX3_tryRows_32 rfl) (rdb (p := 32) (i := 22) ch_cX3_tryRows_32 rfl) rfl
theorem dX3_tryRows_55 : decode cX3_tryRows 55 = .ok (.ifCond .eq 18, 3) := do_153 (rdb (p := 32) (i := 23) ch_cX3_tryRows_32 rfl) (rdb (p := 32) (i := 24) ch_cX3_tryRows_32 rfl) (rdb (p := 32) (i := 25) ch_cX3_tryRows_32 rfl) (by decide +kernel)
theorem dX3_tryRows_58 : decode cX3_tryRows 58 = .ok (.aload_n 0, 1) := do_42 (rdb (p := 32) (i := 26) ch_cX3_tryRows_32 rfl)
theorem dX3_tryRows_59 : decode cX3_tryRows 59 = .ok (.getfield 41, 3) := do_180 (rdb (p := 32) (i := 27) ch_cX3_tryRows_32 rfl) (rdb (p := 32) (i := 28) ch_cX3_tryRows_32 rfl) (rdb (p := 32) (i := 29) ch_cX3_tryRows_32 rfl) rfl
theorem dX3_tryRows_62 : decode cX3_tryRows 62 = .ok (.ifCond .eq 12, 3) := do_153 (rdb (p := 32) (i := 30) ch_cX3_tryRows_32 rfl) (rdb (p := 32) (i := 31) ch_cX3_tryRows_32 rfl) (rdb (p := 32) (i := 32) ch_cX3_tryRows_32 rfl) (by decide +kernel)
theorem ch_cX3_tryRows_64 : (cX3_tryRows.data.toList.drop 64).take 36 = [12, 29, 42, 180, 0, 38, 164, 0, 4, 177, 3, 54, 4, 21, 4, 42, 180, 0, 19, 162, 0, 83, 21, 4, 16, 7, 162, 0, 76, 28, 4, 21, 4, 120, 126, 154] := by decide +kernel
theorem dX3_tryRows_65 : decode cX3_tryRows 65 = .ok (.iload_n 3, 1) := do_29 (rdb (p := 64) (i := 1) ch_cX3_tryRows_64 rfl)
theorem dX3_tryRows_66 : decode cX3_tryRows 66 = .ok (.aload_n 0, 1) := do_42 (rdb (p := 64) (i := 2) ch_cX3_tryRows_64 rfl)
theorem dX3_tryRows_67 : decode cX3_tryRows 67 = .ok (.getfield 38, 3) := do_180 (rdb (p := 64) (i := 3) ch_cX3_tryRows_64 rfl) (rdb (p := 64) (i := 4) ch_cX3_tryRows_64 rfl) (rdb (p := 64) (i := 5) ch_cX3_tryRows_64 rfl) rfl
theorem dX3_tryRows_70 : decode cX3_tryRows 70 = .ok (.if_icmp .le 4, 3) := do_164 (rdb (p := 64) (i := 6) ch_cX3_tryRows_64 rfl) (rdb (p := 64) (i := 7) ch_cX3_tryRows_64 rfl) (rdb (p := 64) (i := 8) ch_cX3_tryRows_64 rfl) (by decide +kernel)
theorem dX3_tryRows_73 : decode cX3_tryRows 73 = .ok (.return_, 1) := do_177 (rdb (p := 64) (i := 9) ch_cX3_tryRows_64 rfl)
theorem dX3_tryRows_74 : decode cX3_tryRows 74 = .ok (.iconst 0, 1) := do_3 (rdb (p := 64) (i := 10) ch_cX3_tryRows_64 rfl)
theorem dX3_tryRows_75 : decode cX3_tryRows 75 = .ok (.istore 4, 2) := do_54 (rdb (p := 64) (i := 11) ch_cX3_tryRows_64 rfl) (rdb (p := 64) (i := 12) ch_cX3_tryRows_64 rfl)
theorem dX3_tryRows_77 : decode cX3_tryRows 77 = .ok (.iload 4, 2) := do_21 (rdb (p := 64) (i := 13) ch_cX3_tryRows_64 rfl) (rdb (p := 64) (i := 14) ch_cX3_tryRows_64 rfl)
theorem dX3_tryRows_79 : decode cX3_tryRows 79 = .ok (.aload_n 0, 1) := do_42 (rdb (p := 64) (i := 15) ch_cX3_tryRows_64 rfl)
theorem dX3_tryRows_80 : decode cX3_tryRows 80 = .ok (.getfield 19, 3) := do_180 (rdb (p := 64) (i := 16) ch_cX3_tryRows_64 rfl) (rdb (p := 64) (i := 17) ch_cX3_tryRows_64 rfl) (rdb (p := 64) (i := 18) ch_cX3_tryRows_64 rfl) rfl
theorem dX3_tryRows_83 : decode cX3_tryRows 83 = .ok (.if_icmp .ge 83, 3) := do_162 (rdb (p := 64) (i := 19) ch_cX3_tryRows_64 rfl) (rdb (p := 64) (i := 20) ch_cX3_tryRows_64 rfl) (rdb (p := 64) (i := 21) ch_cX3_tryRows_64 rfl) (by decide +kernel)
theorem dX3_tryRows_86 : decode cX3_tryRows 86 = .ok (.iload 4, 2) := do_21 (rdb (p := 64) (i := 22) ch_cX3_tryRows_64 rfl) (rdb (p := 64) (i := 23) ch_cX3_tryRows_64 rfl)
theorem dX3_tryRows_88 : decode cX3_tryRows 88 = .ok (.bipush 7, 2) := do_16 (rdb (p := 64) (i := 24) ch_cX3_tryRows_64 rfl) (rdb (p := 64) (i := 25) ch_cX3_tryRows_64 rfl) (by decide +kernel)
theorem dX3_tryRows_90 : decode cX3_tryRows 90 = .ok (.if_icmp .ge 76, 3) := do_162 (rdb (p := 64) (i := 26) ch_cX3_tryRows_64 rfl) (rdb (p := 64) (i := 27) ch_cX3_tryRows_64 rfl) (rdb (p := 64) (i := 28) ch_cX3_tryRows_64 rfl) (by decide +kernel)
theorem dX3_tryRows_93 : decode cX3_tryRows 93 = .ok (.iload_n 2, 1) := do_28 (rdb (p := 64) (i := 29) ch_cX3_tryRows_64 rfl)
theorem dX3_tryRows_94 : decode cX3_tryRows 94 = .ok (.iconst 1, 1) := do_4 (rdb (p := 64) (i := 30) ch_cX3_tryRows_64 rfl)
theorem dX3_tryRows_95 : decode cX3_tryRows 95 = .ok (.iload 4, 2) := do_21 (rdb (p := 64) (i := 31) ch_cX3_tryRows_64 rfl) (rdb (p := 64) (i := 32) ch_cX3_tryRows_64 rfl)
theorem ch_cX3_tryRows_96 : (cX3_tryRows.data.toList.drop 96).take 36 = [4, 120, 126, 154, 0, 61, 42, 180, 0, 13, 21, 4, 46, 27, 2, 130, 126, 154, 0, 47, 42, 180, 0, 28, 21, 4, 182, 0, 64, 42, 27, 42, 180, 0, 9, 21] := by decide +kernel
theorem dX3_tryRows_97 : decode cX3_tryRows 97 = .ok (.ishl, 1) := do_120 (rdb (p := 96) (i := 1) ch_cX3_tryRows_96 rfl)
theorem dX3_tryRows_98 : decode cX3_tryRows 98 = .ok (.iand, 1) := do_126 (rdb (p := 96) (i := 2) ch_cX3_tryRows_96 rfl)
theorem dX3_tryRows_99 : decode cX3_tryRows 99 = .ok (.ifCond .ne 61, 3) := do_154 (rdb (p := 96) (i := 3) ch_cX3_tryRows_96 rfl) (rdb (p := 96) (i := 4) ch_cX3_tryRows_96 rfl) (rdb (p := 96) (i := 5) ch_cX3_tryRows_96 rfl) (by decide +kernel)
theorem dX3_tryRows_102 : decode cX3_tryRows 102 = .ok (.aload_n 0, 1) := do_42 (rdb (p := 96) (i := 6) ch_cX3_tryRows_96 rfl)
theorem dX3_tryRows_103 : decode cX3_tryRows 103 = .ok (.getfield 13, 3) := do_180 (rdb (p := 96) (i := 7) ch_cX3_tryRows_96 rfl) (rdb (p := 96) (i := 8) ch_cX3_tryRows_96 rfl) (rdb (p := 96) (i := 9) ch_cX3_tryRows_96 rfl) rfl
theorem dX3_tryRows_106 : decode cX3_tryRows 106 = .ok (.iload 4, 2) := do_21 (rdb (p := 96) (i := 10) ch_cX3_tryRows_96 rfl) (rdb (p := 96) (i := 11) ch_cX3_tryRows_96 rfl)
theorem dX3_tryRows_108 : decode cX3_tryRows 108 = .ok (.iaload, 1) := do_46 (rdb (p := 96) (i := 12) ch_cX3_tryRows_96 rfl)
theorem dX3_tryRows_109 : decode cX3_tryRows 109 = .ok (.iload_n 1, 1) := do_27 (rdb (p := 96) (i := 13) ch_cX3_tryRows_96 rfl)
theorem dX3_tryRows_110 : decode cX3_tryRows 110 = .ok (.iconst (-1), 1) := do_2 (rdb (p := 96) (i := 14) ch_cX3_tryRows_96 rfl)
theorem dX3_tryRows_111 : decode cX3_tryRows 111 = .ok (.ixor, 1) := do_130 (rdb (p := 96) (i := 15) ch_cX3_tryRows_96 rfl)
theorem dX3_tryRows_112 : decode cX3_tryRows 112 = .ok (.iand, 1) := do_126 (rdb (p := 96) (i := 16) ch_cX3_tryRows_96 rfl)
theorem dX3_tryRows_113 : decode cX3_tryRows 113 = .ok (.ifCond .ne 47, 3) := do_154 (rdb (p := 96) (i := 17) ch_cX3_tryRows_96 rfl) (rdb (p := 96) (i := 18) ch_cX3_tryRows_96 rfl) (rdb (p := 96) (i := 19) ch_cX3_tryRows_96 rfl) (by decide +kernel)
theorem dX3_tryRows_116 : decode cX3_tryRows 116 = .ok (.aload_n 0, 1) := do_42 (rdb (p := 96) (i := 20) ch_cX3_tryRows_96 rfl)
theorem dX3_tryRows_117 : decode cX3_tryRows 117 = .ok (.getfield 28, 3) := do_180 (rdb (p := 96) (i := 21) ch_cX3_tryRows_96 rfl) (rdb (p := 96) (i := 22) ch_cX3_tryRows_96 rfl) (rdb (p := 96) (i := 23) ch_cX3_tryRows_96 rfl) rfl
theorem dX3_tryRows_120 : decode cX3_tryRows 120 = .ok (.iload 4, 2) := do_21 (rdb (p := 96) (i := 24) ch_cX3_tryRows_96 rfl) (rdb (p := 96) (i := 25) ch_cX3_tryRows_96 rfl)
theorem dX3_tryRows_122 : decode cX3_tryRows 122 = .ok (.invokevirtual 64, 3) := do_182 (rdb (p := 96) (i := 26) ch_cX3_tryRows_96 rfl) (rdb (p := 96) (i := 27) ch_cX3_tryRows_96 rfl) (rdb (p := 96) (i := 28) ch_cX3_tryRows_96 rfl) rfl
theorem dX3_tryRows_125 : decode cX3_tryRows 125 = .ok (.aload_n 0, 1) := do_42 (rdb (p := 96) (i := 29) ch_cX3_tryRows_96 rfl)
theorem dX3_tryRows_126 : decode cX3_tryRows 126 = .ok (.iload_n 1, 1) := do_27 (rdb (p := 96) (i := 30) ch_cX3_tryRows_96 rfl)
theorem dX3_tryRows_127 : decode cX3_tryRows 127 = .ok (.aload_n 0, 1) := do_42 (rdb (p := 96) (i := 31) ch_cX3_tryRows_96 rfl)
theorem ch_cX3_tryRows_128 : (cX3_tryRows.data.toList.drop 128).take 36 = [180, 0, 9, 21, 4, 46, 128, 28, 4, 21, 4, 120, 128, 29, 42, 180, 0, 16, 21, 4, 46, 96, 182, 0, 48, 42, 180, 0, 28, 182, 0, 67, 132, 4, 1, 167] := by decide +kernel
theorem dX3_tryRows_128 : decode cX3_tryRows 128 = .ok (.getfield 9, 3) := do_180 (rdb (p := 128) (i := 0) ch_cX3_tryRows_128 rfl) (rdb (p := 128) (i := 1) ch_cX3_tryRows_128 rfl) (rdb (p := 128) (i := 2) ch_cX3_tryRows_128 rfl) rfl
theorem dX3_tryRows_131 : decode cX3_tryRows 131 = .ok (.iload 4, 2) := do_21 (rdb (p := 128) (i := 3) ch_cX3_tryRows_128 rfl) (rdb (p := 128) (i := 4) ch_cX3_tryRows_128 rfl)
theorem dX3_tryRows_133 : decode cX3_tryRows 133 = .ok (.iaload, 1) := do_46 (rdb (p := 128) (i := 5) ch_cX3_tryRows_128 rfl)
theorem dX3_tryRows_134 : decode cX3_tryRows 134 = .ok (.ior, 1) := do_128 (rdb (p := 128) (i := 6) ch_cX3_tryRows_128 rfl)
theorem dX3_tryRows_135 : decode cX3_tryRows 135 = .ok (.iload_n 2, 1) := do_28 (rdb (p := 128) (i := 7) ch_cX3_tryRows_128 rfl)
theorem dX3_tryRows_136 : decode cX3_tryRows 136 = .ok (.iconst 1, 1) := do_4 (rdb (p := 128) (i := 8) ch_cX3_tryRows_128 rfl)
theorem dX3_tryRows_137 : decode cX3_tryRows 137 = .ok (.iload 4, 2) := do_21 (rdb (p := 128) (i := 9) ch_cX3_tryRows_128 rfl) (rdb (p := 128) (i := 10) ch_cX3_tryRows_128 rfl)
theorem dX3_tryRows_139 : decode cX3_tryRows 139 = .ok (.ishl, 1) := do_120 (rdb (p := 128) (i := 11) ch_cX3_tryRows_128 rfl)
theorem dX3_tryRows_140 : decode cX3_tryRows 140 = .ok (.ior, 1) := do_128 (rdb (p := 128) (i := 12) ch_cX3_tryRows_128 rfl)
theorem dX3_tryRows_141 : decode cX3_tryRows 141 = .ok (.iload_n 3, 1) := do_29 (rdb (p := 128) (i := 13) ch_cX3_tryRows_128 rfl)
theorem dX3_tryRows_142 : decode cX3_tryRows 142 = .ok (.aload_n 0, 1) := do_42 (rdb (p := 128) (i := 14) ch_cX3_tryRows_128 rfl)
theorem dX3_tryRows_143 : decode cX3_tryRows 143 = .ok (.getfield 16, 3) := do_180 (rdb (p := 128) (i := 15) ch_cX3_tryRows_128 rfl) (rdb (p := 128) (i := 16) ch_cX3_tryRows_128 rfl) (rdb (p := 128) (i := 17) ch_cX3_tryRows_128 rfl) rfl
theorem dX3_tryRows_146 : decode cX3_tryRows 146 = .ok (.iload 4, 2) := do_21 (rdb (p := 128) (i := 18) ch_cX3_tryRows_128 rfl) (rdb (p := 128) (i := 19) ch_cX3_tryRows_128 rfl)
theorem dX3_tryRows_148 : decode cX3_tryRows 148 = .ok (.iaload, 1) := do_46 (rdb (p := 128) (i := 20) ch_cX3_tryRows_128 rfl)
theorem dX3_tryRows_149 : decode cX3_tryRows 149 = .ok (.iadd, 1) := do_96 (rdb (p := 128) (i := 21) ch_cX3_tryRows_128 rfl)
theorem dX3_tryRows_150 : decode cX3_tryRows 150 = .ok (.invokevirtual 48, 3) := do_182 (rdb (p := 128) (i := 22) ch_cX3_tryRows_128 rfl) (rdb (p := 128) (i := 23) ch_cX3_tryRows_128 rfl) (rdb (p := 128) (i := 24) ch_cX3_tryRows_128 rfl) rfl
theorem dX3_tryRows_153 : decode cX3_tryRows 153 = .ok (.aload_n 0, 1) := do_42 (rdb (p := 128) (i := 25) ch_cX3_tryRows_128 rfl)
theorem dX3_tryRows_154 : decode cX3_tryRows 154 = .ok (.getfield 28, 3) := do_180 (rdb (p := 128) (i := 26) ch_cX3_tryRows_128 rfl) (rdb (p := 128) (i := 27) ch_cX3_tryRows_128 rfl) (rdb (p := 128) (i := 28) ch_cX3_tryRows_128 rfl) rfl
theorem dX3_tryRows_157 : decode cX3_tryRows 157 = .ok (.invokevirtual 67, 3) := do_182 (rdb (p := 128) (i := 29) ch_cX3_tryRows_128 rfl) (rdb (p := 128) (i := 30) ch_cX3_tryRows_128 rfl) (rdb (p := 128) (i := 31) ch_cX3_tryRows_128 rfl) rfl
theorem ch_cX3_tryRows_160 : (cX3_tryRows.data.toList.drop 160).take 36 = [132, 4, 1, 167, 255, 170, 177] := by decide +kernel
theorem dX3_tryRows_160 : decode cX3_tryRows 160 = .ok (.iinc 4 1, 3) := do_132 (rdb (p := 160) (i := 0) ch_cX3_tryRows_160 rfl) (rdb (p := 160) (i := 1) ch_cX3_tryRows_160 rfl) (rdb (p := 160) (i := 2) ch_cX3_tryRows_160 rfl) (by decide +kernel)
theorem dX3_tryRows_163 : decode cX3_tryRows 163 = .ok (.goto (-86), 3) := do_167 (rdb (p := 160) (i := 3) ch_cX3_tryRows_160 rfl) (rdb (p := 160) (i := 4) ch_cX3_tryRows_160 rfl) (rdb (p := 160) (i := 5) ch_cX3_tryRows_160 rfl) (by decide +kernel)
theorem dX3_tryRows_166 : decode cX3_tryRows 166 = .ok (.return_, 1) := do_177 (rdb (p := 160) (i := 6) ch_cX3_tryRows_160 rfl)
end
section
def S_try (b : Nat) : rf → Nat → Prop := fun c k => (c.1 = 3 ∧ c.2.1 = b ∧ k = 7) ∨ (c.1 = 3 ∧ c.2.1 = b ∧ k = 8) ∨ (c.1 = 5 ∧ c.2.1 = b ∧ c.2.2 = 3 ∧ k = 1) ∨ (c.1 = 33 ∧ c.2.1 = b ∧ c.2.2 = 3) ∨ (c.1 = 5 ∧ c.2.1 = b ∧ c.2.2 = 2 ∧ k = 1) ∨ (c.1 = 33 ∧ c.2.1 = b ∧ c.2.2 = 2) ∨ False
def TRYC (l : Launch) (G : va_G) (cy : Nat → ClassId) (ad : rf → Nat) (N m : Nat) (Q : Nat → Int32 → Int32 → Int32 → mM → mM → Prop) : Prop := ∀ (d b : Nat) (v u t : Int32) (Mz : mM) (hIz : Inv Mz) (hb : b < 3) (hk : (Mz.1 (5, b, 2) 1).toInt + ((m : Nat) : Int) = 7) (hm : m ≤ 7), WP CC l G cy ad yX3_tryRows cX3_tryRows 5 none (N + d) 0 [(0, vR (3, b, 0)), (1, vI v), (2, vI u), (3, vI t)] [] Mz (fun r M' => Inv M' ∧ FR (S_try b) Mz M' ∧ ((M'.1 (5, b, 2) 1).toInt + ((m : Nat) : Int) = 7) ∧ Q b v u t Mz M')
def ST_X3_tryRows_77 (m : Nat) (QR : Nat → Int32 → Int32 → Int32 → mM → mM → Prop) (b : Nat) (v : Int32) (u : Int32) (t : Int32) (Mz : mM) (v4_77 : Int32) (M_77 : mM) (v4_77y : Int32) (M_77y : mM) : Prop := (0 ≤ v4_77.toInt) ∧ (Inv M_77) ∧ (FR (S_try b) Mz M_77) ∧ ∃ z19_ : Int32, (z19_ = M_77.1 (3, b, 0) 3) ∧ (v4_77.toInt < z19_.toInt) ∧ (v4_77.toInt < 7) ∧ ∃ z23_ : Int32, (z23_ = (1 : Int32) <<< (v4_77 &&& 31)) ∧ ∃ z25_ : Int32, (z25_ = u &&& z23_) ∧ (((¬ z25_.toInt = 0) ∧ ∃ z28_ : Int32, (z28_.toInt = v4_77.toInt + 1) ∧ v4_77y = z28_ ∧ M_77y = M_77) ∨ ((z25_.toInt = 0) ∧ ∃ j32_ : Nat, ((j32_ : Int) = v4_77.toInt) ∧ ∃ z30_ : Int32, (z30_ = M_77.1 (31, b, 0) j32_) ∧ ∃ z34_ : Int32, (z34_ = v ^^^ ((-1) : Int32)) ∧ ∃ z36_ : Int32, (z36_ = z30_ &&& z34_) ∧ (((¬ z36_.toInt = 0) ∧ ∃ z39_ : Int32, (z39_.toInt = v4_77.toInt + 1) ∧ v4_77y = z39_ ∧ M_77y = M_77) ∨ ((z36_.toInt = 0) ∧ ∃ M41_ : mM, (Inv M41_) ∧ (FR (S_c_X5_add2 b) M_77 M41_) ∧ (SP_X5_add2 b (7 - ((m : Nat) : Int)) v4_77 M_77 M41_) ∧ ((M41_.1 (5, b, 2) 1).toInt = (7 - ((m : Nat) : Int)) + 1) ∧ ∃ j50_ : Nat, ((j50_ : Int) = v4_77.toInt) ∧ ∃ z48_ : Int32, (z48_ = M41_.1 (30, b, 0) j50_) ∧ ∃ z52_ : Int32, (z52_ = v ||| z48_) ∧ ∃ z54_ : Int32, (z54_ = (1 : Int32) <<< (v4_77 &&& 31)) ∧ ∃ z56_ : Int32, (z56_ = u ||| z54_) ∧ ∃ j60_ : Nat, ((j60_ : Int) = v4_77.toInt) ∧ ∃ z58_ : Int32, (z58_ = M41_.1 (32, b, 0) j60_) ∧ ∃ z62_ : Int32, (z62_ = t + z58_) ∧ ∃ M64_ : mM, (Inv M64_) ∧ (FR (S_try b) M41_ M64_) ∧ (QR b z52_ z56_ z62_ M41_ M64_) ∧ ((M64_.1 (5, b, 2) 1).toInt + (((m - 1) : Nat) : Int) = 7) ∧ ∃ M71_ : mM, (Inv M71_) ∧ (FR (S_c_X5_drop2 b) M64_ M71_) ∧ (SP_X5_drop2 b (8 - ((m : Nat) : Int)) M64_ M71_) ∧ ∃ z79_ : Int32, (z79_.toInt = v4_77.toInt + 1) ∧ v4_77y = z79_ ∧ M_77y = M71_))))
def ST_X3_tryRows_77b (m : Nat) (QR : Nat → Int32 → Int32 → Int32 → mM → mM → Prop) (b : Nat) (v : Int32) (u : Int32) (t : Int32) (Mz : mM) (v4_77 : Int32) (M_77 : mM) (v4_77y : Int32) (M_77y : mM) : Prop := (0 ≤ v4_77.toInt) ∧ (Inv M_77) ∧ (FR (S_try b) Mz M_77) ∧ ∃ z85_ : Int32, (z85_ = M_77.1 (3, b, 0) 3) ∧ (v4_77.toInt < z85_.toInt) ∧ (v4_77.toInt < 7) ∧ ∃ z89_ : Int32, (z89_ = (1 : Int32) <<< (v4_77 &&& 31)) ∧ ∃ z91_ : Int32, (z91_ = u &&& z89_) ∧ (((¬ z91_.toInt = 0) ∧ ∃ z94_ : Int32, (z94_.toInt = v4_77.toInt + 1) ∧ v4_77y = z94_ ∧ M_77y = M_77) ∨ ((z91_.toInt = 0) ∧ ∃ j98_ : Nat, ((j98_ : Int) = v4_77.toInt) ∧ ∃ z96_ : Int32, (z96_ = M_77.1 (31, b, 0) j98_) ∧ ∃ z100_ : Int32, (z100_ = v ^^^ ((-1) : Int32)) ∧ ∃ z102_ : Int32, (z102_ = z96_ &&& z100_) ∧ (((¬ z102_.toInt = 0) ∧ ∃ z105_ : Int32, (z105_.toInt = v4_77.toInt + 1) ∧ v4_77y = z105_ ∧ M_77y = M_77) ∨ ((z102_.toInt = 0) ∧ ∃ M107_ : mM, (Inv M107_) ∧ (FR (S_c_X5_add2 b) M_77 M107_) ∧ (SP_X5_add2 b (7 - ((m : Nat) : Int)) v4_77 M_77 M107_) ∧ ((M107_.1 (5, b, 2) 1).toInt = (7 - ((m : Nat) : Int)) + 1) ∧ ∃ j116_ : Nat, ((j116_ : Int) = v4_77.toInt) ∧ ∃ z114_ : Int32, (z114_ = M107_.1 (30, b, 0) j116_) ∧ ∃ z118_ : Int32, (z118_ = v ||| z114_) ∧ ∃ z120_ : Int32, (z120_ = (1 : Int32) <<< (v4_77 &&& 31)) ∧ ∃ z122_ : Int32, (z122_ = u ||| z120_) ∧ ∃ j126_ : Nat, ((j126_ : Int) = v4_77.toInt) ∧ ∃ z124_ : Int32, (z124_ = M107_.1 (32, b, 0) j126_) ∧ ∃ z128_ : Int32, (z128_ = t + z124_) ∧ ∃ M130_ : mM, (Inv M130_) ∧ (FR (S_try b) M107_ M130_) ∧ (QR b z118_ z122_ z128_ M107_ M130_) ∧ ((M130_.1 (5, b, 2) 1).toInt + (((m - 1) : Nat) : Int) = 7) ∧ ∃ M137_ : mM, (Inv M137_) ∧ (FR (S_c_X5_drop2 b) M130_ M137_) ∧ (SP_X5_drop2 b (8 - ((m : Nat) : Int)) M130_ M137_) ∧ ∃ z145_ : Int32, (z145_.toInt = v4_77.toInt + 1) ∧ v4_77y = z145_ ∧ M_77y = M137_))))
def SP_X3_tryRows (N : Nat) (m : Nat) (QR : Nat → Int32 → Int32 → Int32 → mM → mM → Prop) (b : Nat) (v : Int32) (u : Int32) (t : Int32) (Mz : mM) (M_ : mM) : Prop := ∃ z1_ : Int32, (z1_ = Mz.1 (3, b, 0) 6) ∧ ∃ z3_ : Int32, (z3_ = v ^^^ ((-1) : Int32)) ∧ ∃ z5_ : Int32, (z5_ = z1_ &&& z3_) ∧ (((¬ z5_.toInt = 0) ∧ ∃ r8_ : Int32, (SP_X5_room2 b (7 - ((m : Nat) : Int)) Mz r8_) ∧ (r8_.toInt = 7 - (7 - ((m : Nat) : Int))) ∧ (((r8_.toInt = 0) ∧ M_ = Mz) ∨ ((¬ r8_.toInt = 0) ∧ ∃ z14_ : Int32, (z14_ = Mz.1 (3, b, 0) 8) ∧ (0 ≤ z14_.toInt ∧ z14_.toInt ≤ 1) ∧ (((z14_.toInt = 0) ∧ ∃ v4_77 : Int32, (0 ≤ v4_77.toInt) ∧ ∃ M_77 : mM, (RCH (fun x_ y_ => ST_X3_tryRows_77 m QR b v u t Mz x_.1 x_.2 y_.1 y_.2) ((0 : Int32), Mz) (v4_77, M_77)) ∧ (Inv M_77) ∧ (FR (S_try b) Mz M_77) ∧ ∃ z19_ : Int32, (z19_ = M_77.1 (3, b, 0) 3) ∧ (((z19_.toInt ≤ v4_77.toInt) ∧ M_ = M_77) ∨ ((v4_77.toInt < z19_.toInt) ∧ (7 ≤ v4_77.toInt) ∧ M_ = M_77))) ∨ ((¬ z14_.toInt = 0) ∧ ∃ z81_ : Int32, (z81_ = Mz.1 (3, b, 0) 7) ∧ (((t.toInt ≤ z81_.toInt) ∧ ∃ v4_77 : Int32, (0 ≤ v4_77.toInt) ∧ ∃ M_77 : mM, (RCH (fun x_ y_ => ST_X3_tryRows_77b m QR b v u t Mz x_.1 x_.2 y_.1 y_.2) ((0 : Int32), Mz) (v4_77, M_77)) ∧ (Inv M_77) ∧ (FR (S_try b) Mz M_77) ∧ ∃ z85_ : Int32, (z85_ = M_77.1 (3, b, 0) 3) ∧ (((z85_.toInt ≤ v4_77.toInt) ∧ M_ = M_77) ∨ ((v4_77.toInt < z85_.toInt) ∧ (7 ≤ v4_77.toInt) ∧ M_ = M_77))) ∨ ((z81_.toInt < t.toInt) ∧ M_ = Mz))))))) ∨ ((z5_.toInt = 0) ∧ ∃ z147_ : Int32, (z147_ = Mz.1 (3, b, 0) 8) ∧ (0 ≤ z147_.toInt ∧ z147_.toInt ≤ 1) ∧ (((z147_.toInt = 0) ∧ ∃ M151_ : mM, (M151_ = up Mz (3, b, 0) 8 1) ∧ ∃ M156_ : mM, (M156_ = up M151_ (3, b, 0) 7 t) ∧ (Inv M156_) ∧ ∃ M161_ : mM, (Inv M161_) ∧ (FR (S_c_X5_takeFrom b 3 b 2) M156_ M161_) ∧ (SP_X5_takeFrom b 3 b 2 M156_ M161_) ∧ M_ = M161_) ∨ ((¬ z147_.toInt = 0) ∧ ∃ r169_ : Int32, (SP_X3_isBetter b t Mz r169_) ∧ ((0 ≤ r169_.toInt ∧ r169_.toInt ≤ 1)) ∧ (((r169_.toInt = 0) ∧ M_ = Mz) ∨ ((¬ r169_.toInt = 0) ∧ ∃ M175_ : mM, (M175_ = up Mz (3, b, 0) 8 1) ∧ ∃ M180_ : mM, (M180_ = up M175_ (3, b, 0) 7 t) ∧ (Inv M180_) ∧ ∃ M185_ : mM, (Inv M185_) ∧ (FR (S_c_X5_takeFrom b 3 b 2) M180_ M185_) ∧ (SP_X5_takeFrom b 3 b 2 M180_ M185_) ∧ M_ = M185_))))))
theorem lf_c_X3_tryRows_0 (Mz : mM) (m : Nat) (b : Nat) (hk : (Mz.1 (5, b, 2) 1).toInt + ((m : Nat) : Int) = 7) : (Mz.1 (5, b, 2) 1).toInt = (7 - ((m : Nat) : Int)) := by omega
theorem lf_c_X3_tryRows_1 (m : Nat) (hm : m ≤ 7) : 0 ≤ (7 - ((m : Nat) : Int)) ∧ (7 - ((m : Nat) : Int)) ≤ 7 := by omega
theorem lf_c_X3_tryRows_2 (Mz : mM) (m : Nat) (b : Nat) (z1_ : Int32) (hb : b < 3) (hk : (Mz.1 (5, b, 2) 1).toInt + ((m : Nat) : Int) = 7) (hm : m ≤ 7) (e2_ : z1_ = Mz.1 (3, b, 0) 6) : vRw b 2 := by have r_z1_ := rngI z1_; unfold vRw; omega
theorem lf_c_X3_tryRows_3 (v4_77 : Int32) (hv0_77 : 0 ≤ v4_77.toInt) (h22_ : v4_77.toInt < 7) : -2147483648 ≤ v4_77.toInt + 1 ∧ v4_77.toInt + 1 < 2147483648 := by omega
theorem lf_c_X3_tryRows_5 (v4_77 : Int32) (z28_ : Int32) (h22_ : v4_77.toInt < 7) (h29_ : z28_.toInt = v4_77.toInt + 1) : (2147483648 - z28_.toInt).toNat < (2147483648 - v4_77.toInt).toNat := by omega
theorem lf_c_X3_tryRows_11 (m : Nat) (r8_ : Int32) (hm : m ≤ 7) (h11_ : r8_.toInt = 7 - (7 - ((m : Nat) : Int))) (h13_ : ¬ r8_.toInt = 0) : 0 ≤ (7 - ((m : Nat) : Int)) ∧ (7 - ((m : Nat) : Int)) ≤ 6 := by omega
theorem lf_c_X3_tryRows_12 (M_77 : mM) (Mz : mM) (m : Nat) (b : Nat) (z1_ : Int32) (r8_ : Int32) (z14_ : Int32) (v4_77 : Int32) (z19_ : Int32) (j32_ : Nat) (z30_ : Int32) (hb : b < 3) (hk : (Mz.1 (5, b, 2) 1).toInt + ((m : Nat) : Int) = 7) (hm : m ≤ 7) (e2_ : z1_ = Mz.1 (3, b, 0) 6) (h11_ : r8_.toInt = 7 - (7 - ((m : Nat) : Int))) (h13_ : ¬ r8_.toInt = 0) (e15_ : z14_ = Mz.1 (3, b, 0) 8) (h16_ : 0 ≤ z14_.toInt ∧ z14_.toInt ≤ 1) (h17_ : z14_.toInt = 0) (hv0_77 : 0 ≤ v4_77.toInt) (kv0_77 : (M_77.1 (5, b, 2) 1).toInt + ((m : Nat) : Int) = 7) (e20_ : z19_ = M_77.1 (3, b, 0) 3) (h21_ : v4_77.toInt < z19_.toInt) (h22_ : v4_77.toInt < 7) (h33_ : (j32_ : Int) = v4_77.toInt) (e31_ : z30_ = M_77.1 (31, b, 0) j32_) : vRw b 2 := by have r_z1_ := rngI z1_; have r_r8_ := rngI r8_; have r_z14_ := rngI z14_; have r_v4_77 := rngI v4_77; have r_z19_ := rngI z19_; have r_z30_ := rngI z30_; unfold vRw; omega
theorem lf_c_X3_tryRows_15 (M41_ : mM) (m : Nat) (b : Nat) (r8_ : Int32) (h11_ : r8_.toInt = 7 - (7 - ((m : Nat) : Int))) (h13_ : ¬ r8_.toInt = 0) (h43_ : (M41_.1 (5, b, 2) 1).toInt = (7 - ((m : Nat) : Int)) + 1) : (M41_.1 (5, b, 2) 1).toInt + (((m - 1) : Nat) : Int) = 7 := by omega
theorem lf_c_X3_tryRows_16 (m : Nat) (hm : m ≤ 7) : (m - 1) ≤ 7 := by omega
theorem lf_c_X3_tryRows_17 (m : Nat) (r8_ : Int32) (h11_ : r8_.toInt = 7 - (7 - ((m : Nat) : Int))) (h13_ : ¬ r8_.toInt = 0) : m - 1 + 1 = m := by omega
theorem lf_c_X3_tryRows_18 (M64_ : mM) (m : Nat) (b : Nat) (r8_ : Int32) (h11_ : r8_.toInt = 7 - (7 - ((m : Nat) : Int))) (h13_ : ¬ r8_.toInt = 0) (h66_ : (M64_.1 (5, b, 2) 1).toInt + (((m - 1) : Nat) : Int) = 7) : (M64_.1 (5, b, 2) 1).toInt = (8 - ((m : Nat) : Int)) := by omega
theorem lf_c_X3_tryRows_19 (m : Nat) (r8_ : Int32) (hm : m ≤ 7) (h11_ : r8_.toInt = 7 - (7 - ((m : Nat) : Int))) (h13_ : ¬ r8_.toInt = 0) : 1 ≤ (8 - ((m : Nat) : Int)) ∧ (8 - ((m : Nat) : Int)) ≤ 7 := by omega
theorem lf_c_X3_tryRows_20 (M41_ : mM) (M64_ : mM) (M_77 : mM) (Mz : mM) (m : Nat) (b : Nat) (z1_ : Int32) (r8_ : Int32) (z14_ : Int32) (v4_77 : Int32) (z19_ : Int32) (j32_ : Nat) (z30_ : Int32) (j50_ : Nat) (z48_ : Int32) (j60_ : Nat) (z58_ : Int32) (hb : b < 3) (hk : (Mz.1 (5, b, 2) 1).toInt + ((m : Nat) : Int) = 7) (hm : m ≤ 7) (e2_ : z1_ = Mz.1 (3, b, 0) 6) (h11_ : r8_.toInt = 7 - (7 - ((m : Nat) : Int))) (h13_ : ¬ r8_.toInt = 0) (e15_ : z14_ = Mz.1 (3, b, 0) 8) (h16_ : 0 ≤ z14_.toInt ∧ z14_.toInt ≤ 1) (h17_ : z14_.toInt = 0) (hv0_77 : 0 ≤ v4_77.toInt) (kv0_77 : (M_77.1 (5, b, 2) 1).toInt + ((m : Nat) : Int) = 7) (e20_ : z19_ = M_77.1 (3, b, 0) 3) (h21_ : v4_77.toInt < z19_.toInt) (h22_ : v4_77.toInt < 7) (h33_ : (j32_ : Int) = v4_77.toInt) (e31_ : z30_ = M_77.1 (31, b, 0) j32_) (h43_ : (M41_.1 (5, b, 2) 1).toInt = (7 - ((m : Nat) : Int)) + 1) (h51_ : (j50_ : Int) = v4_77.toInt) (e49_ : z48_ = M41_.1 (30, b, 0) j50_) (h61_ : (j60_ : Int) = v4_77.toInt) (e59_ : z58_ = M41_.1 (32, b, 0) j60_) (h66_ : (M64_.1 (5, b, 2) 1).toInt + (((m - 1) : Nat) : Int) = 7) : vRw b 2 := by have r_z1_ := rngI z1_; have r_r8_ := rngI r8_; have r_z14_ := rngI z14_; have r_v4_77 := rngI v4_77; have r_z19_ := rngI z19_; have r_z30_ := rngI z30_; have r_z48_ := rngI z48_; have r_z58_ := rngI z58_; unfold vRw; omega
theorem lf_c_X3_tryRows_21 (M71_ : mM) (m : Nat) (b : Nat) (h73_ : (M71_.1 (5, b, 2) 1).toInt = (8 - ((m : Nat) : Int)) - 1) : (M71_.1 (5, b, 2) 1).toInt + ((m : Nat) : Int) = 7 := by omega
theorem lf_c_X3_tryRows_35 (M_77 : mM) (Mz : mM) (m : Nat) (b : Nat) (t : Int32) (z1_ : Int32) (r8_ : Int32) (z14_ : Int32) (z81_ : Int32) (v4_77 : Int32) (z85_ : Int32) (j98_ : Nat) (z96_ : Int32) (hb : b < 3) (hk : (Mz.1 (5, b, 2) 1).toInt + ((m : Nat) : Int) = 7) (hm : m ≤ 7) (e2_ : z1_ = Mz.1 (3, b, 0) 6) (h11_ : r8_.toInt = 7 - (7 - ((m : Nat) : Int))) (h13_ : ¬ r8_.toInt = 0) (e15_ : z14_ = Mz.1 (3, b, 0) 8) (h16_ : 0 ≤ z14_.toInt ∧ z14_.toInt ≤ 1) (h17_ : ¬ z14_.toInt = 0) (e82_ : z81_ = Mz.1 (3, b, 0) 7) (h83_ : t.toInt ≤ z81_.toInt) (hv0_77 : 0 ≤ v4_77.toInt) (kv0_77 : (M_77.1 (5, b, 2) 1).toInt + ((m : Nat) : Int) = 7) (e86_ : z85_ = M_77.1 (3, b, 0) 3) (h87_ : v4_77.toInt < z85_.toInt) (h88_ : v4_77.toInt < 7) (h99_ : (j98_ : Int) = v4_77.toInt) (e97_ : z96_ = M_77.1 (31, b, 0) j98_) : vRw b 2 := by have r_t := rngI t; have r_z1_ := rngI z1_; have r_r8_ := rngI r8_; have r_z14_ := rngI z14_; have r_z81_ := rngI z81_; have r_v4_77 := rngI v4_77; have r_z85_ := rngI z85_; have r_z96_ := rngI z96_; unfold vRw; omega
theorem lf_c_X3_tryRows_43 (M107_ : mM) (M130_ : mM) (M_77 : mM) (Mz : mM) (m : Nat) (b : Nat) (t : Int32) (z1_ : Int32) (r8_ : Int32) (z14_ : Int32) (z81_ : Int32) (v4_77 : Int32) (z85_ : Int32) (j98_ : Nat) (z96_ : Int32) (j116_ : Nat) (z114_ : Int32) (j126_ : Nat) (z124_ : Int32) (hb : b < 3) (hk : (Mz.1 (5, b, 2) 1).toInt + ((m : Nat) : Int) = 7) (hm : m ≤ 7) (e2_ : z1_ = Mz.1 (3, b, 0) 6) (h11_ : r8_.toInt = 7 - (7 - ((m : Nat) : Int))) (h13_ : ¬ r8_.toInt = 0) (e15_ : z14_ = Mz.1 (3, b, 0) 8) (h16_ : 0 ≤ z14_.toInt ∧ z14_.toInt ≤ 1) (h17_ : ¬ z14_.toInt = 0) (e82_ : z81_ = Mz.1 (3, b, 0) 7) (h83_ : t.toInt ≤ z81_.toInt) (hv0_77 : 0 ≤ v4_77.toInt) (kv0_77 : (M_77.1 (5, b, 2) 1).toInt + ((m : Nat) : Int) = 7) (e86_ : z85_ = M_77.1 (3, b, 0) 3) (h87_ : v4_77.toInt < z85_.toInt) (h88_ : v4_77.toInt < 7) (h99_ : (j98_ : Int) = v4_77.toInt) (e97_ : z96_ = M_77.1 (31, b, 0) j98_) (h109_ : (M107_.1 (5, b, 2) 1).toInt = (7 - ((m : Nat) : Int)) + 1) (h117_ : (j116_ : Int) = v4_77.toInt) (e115_ : z114_ = M107_.1 (30, b, 0) j116_) (h127_ : (j126_ : Int) = v4_77.toInt) (e125_ : z124_ = M107_.1 (32, b, 0) j126_) (h132_ : (M130_.1 (5, b, 2) 1).toInt + (((m - 1) : Nat) : Int) = 7) : vRw b 2 := by have r_t := rngI t; have r_z1_ := rngI z1_; have r_r8_ := rngI r8_; have r_z14_ := rngI z14_; have r_z81_ := rngI z81_; have r_v4_77 := rngI v4_77; have r_z85_ := rngI z85_; have r_z96_ := rngI z96_; have r_z114_ := rngI z114_; have r_z124_ := rngI z124_; unfold vRw; omega
theorem lf_c_X3_tryRows_49 (M151_ : mM) (M156_ : mM) (Mz : mM) (m : Nat) (b : Nat) (t : Int32) (z1_ : Int32) (z147_ : Int32) (hb : b < 3) (hk : (Mz.1 (5, b, 2) 1).toInt + ((m : Nat) : Int) = 7) (hm : m ≤ 7) (e2_ : z1_ = Mz.1 (3, b, 0) 6) (e148_ : z147_ = Mz.1 (3, b, 0) 8) (h149_ : 0 ≤ z147_.toInt ∧ z147_.toInt ≤ 1) (h150_ : z147_.toInt = 0) (hM152_ : M151_ = up Mz (3, b, 0) 8 1) (kf155_ : (M151_.1 (5, b, 2) 1).toInt + ((m : Nat) : Int) = 7) (hM157_ : M156_ = up M151_ (3, b, 0) 7 t) (kf160_ : (M156_.1 (5, b, 2) 1).toInt + ((m : Nat) : Int) = 7) : vRw b 3 := by have r_t := rngI t; have r_z1_ := rngI z1_; have r_z147_ := rngI z147_; unfold vRw; omega
theorem lf_c_X3_tryRows_50 (M151_ : mM) (M156_ : mM) (Mz : mM) (m : Nat) (b : Nat) (t : Int32) (z1_ : Int32) (z147_ : Int32) (hb : b < 3) (hk : (Mz.1 (5, b, 2) 1).toInt + ((m : Nat) : Int) = 7) (hm : m ≤ 7) (e2_ : z1_ = Mz.1 (3, b, 0) 6) (e148_ : z147_ = Mz.1 (3, b, 0) 8) (h149_ : 0 ≤ z147_.toInt ∧ z147_.toInt ≤ 1) (h150_ : z147_.toInt = 0) (hM152_ : M151_ = up Mz (3, b, 0) 8 1) (kf155_ : (M151_.1 (5, b, 2) 1).toInt + ((m : Nat) : Int) = 7) (hM157_ : M156_ = up M151_ (3, b, 0) 7 t) (kf160_ : (M156_.1 (5, b, 2) 1).toInt + ((m : Nat) : Int) = 7) : vRw b 2 := by have r_t := rngI t; have r_z1_ := rngI z1_; have r_z147_ := rngI z147_; unfold vRw; omega
theorem lf_c_X3_tryRows_52 (M175_ : mM) (M180_ : mM) (Mz : mM) (m : Nat) (b : Nat) (t : Int32) (z1_ : Int32) (z147_ : Int32) (hb : b < 3) (hk : (Mz.1 (5, b, 2) 1).toInt + ((m : Nat) : Int) = 7) (hm : m ≤ 7) (e2_ : z1_ = Mz.1 (3, b, 0) 6) (e148_ : z147_ = Mz.1 (3, b, 0) 8) (h149_ : 0 ≤ z147_.toInt ∧ z147_.toInt ≤ 1) (h150_ : ¬ z147_.toInt = 0) (hM176_ : M175_ = up Mz (3, b, 0) 8 1) (kf179_ : (M175_.1 (5, b, 2) 1).toInt + ((m : Nat) : Int) = 7) (hM181_ : M180_ = up M175_ (3, b, 0) 7 t) (kf184_ : (M180_.1 (5, b, 2) 1).toInt + ((m : Nat) : Int) = 7) : vRw b 3 := by have r_t := rngI t; have r_z1_ := rngI z1_; have r_z147_ := rngI z147_; unfold vRw; omega
theorem lf_c_X3_tryRows_53 (M175_ : mM) (M180_ : mM) (Mz : mM) (m : Nat) (b : Nat) (t : Int32) (z1_ : Int32) (z147_ : Int32) (hb : b < 3) (hk : (Mz.1 (5, b, 2) 1).toInt + ((m : Nat) : Int) = 7) (hm : m ≤ 7) (e2_ : z1_ = Mz.1 (3, b, 0) 6) (e148_ : z147_ = Mz.1 (3, b, 0) 8) (h149_ : 0 ≤ z147_.toInt ∧ z147_.toInt ≤ 1) (h150_ : ¬ z147_.toInt = 0) (hM176_ : M175_ = up Mz (3, b, 0) 8 1) (kf179_ : (M175_.1 (5, b, 2) 1).toInt + ((m : Nat) : Int) = 7) (hM181_ : M180_ = up M175_ (3, b, 0) 7 t) (kf184_ : (M180_.1 (5, b, 2) 1).toInt + ((m : Nat) : Int) = 7) : vRw b 2 := by have r_t := rngI t; have r_z1_ := rngI z1_; have r_z147_ := rngI z147_; unfold vRw; omega
set_option maxHeartbeats 4000000 in
set_option maxRecDepth 100000 in
theorem c_X3_tryRows (l : Launch) (G : va_G) (cy : Nat → ClassId) (ad : rf → Nat) (d : Nat) (N : Nat) (m : Nat) (QR : Nat → Int32 → Int32 → Int32 → mM → mM → Prop) (b : Nat) (v : Int32) (u : Int32) (t : Int32) (Mz : mM) (hIz : Inv Mz) (hR : ∀ k : Nat, k + 1 = m → TRYC l G cy ad N k QR) (hb : b < 3) (hk : (Mz.1 (5, b, 2) 1).toInt + ((m : Nat) : Int) = 7) (hm : m ≤ 7) : WP CC l G cy ad yX3_tryRows cX3_tryRows 5 none ((N + d) + 2) 0 [(0, vR (3, b, 0)), (1, vI v), (2, vI u), (3, vI t)] [] Mz (fun r M' => Inv M' ∧ FR (S_try b) Mz M' ∧ ((M'.1 (5, b, 2) 1).toInt + ((m : Nat) : Int) = 7) ∧ SP_X3_tryRows N m QR b v u t Mz M') := by
  have hFz : FR (S_try b) Mz Mz := FR.self
  refine w_aload_n dX3_tryRows_0 rfl 0 rfl ?_
  refine w_getI fl_RX3_35 rfl rfl (ic_3 hb) dX3_tryRows_1 (fun z1_ e2_ => ?_)
  refine w_iload_n dX3_tryRows_4 rfl 1 rfl ?_
  refine w_iconst (v := (-1)) dX3_tryRows_5 (by decide) ?_
  refine w_ixor dX3_tryRows_6 (fun z3_ h4_ => ?_)
  refine w_iand dX3_tryRows_7 (fun z5_ h6_ => ?_)
  refine w_if_ne (tgt := 48) dX3_tryRows_8 (by decide) (rfl : z5_.toInt = z5_.toInt) (fun h7_ => ?_) (fun h7_ => ?_)
  · refine w_aload_n dX3_tryRows_48 rfl 0 rfl ?_
    refine w_getR (c' := (5, b, 2)) fl_RX3_28 rfl rfl (ic_3 hb) dX3_tryRows_49 rfl ?_
    refine w_callV (as := []) (rest := []) (c_X5_room2 l G cy ad ((N + d) + 1) b (7 - ((m : Nat) : Int)) Mz hIz hb (lf_c_X3_tryRows_0 Mz m b hk ) (lf_c_X3_tryRows_1 m hm )) kV_X5_room pnn_2 (Nat.le_of_ble_eq_true rfl) m_1148 rfl rfl rfl (ic_5 (lf_c_X3_tryRows_2 Mz m b z1_ hb hk hm e2_ )) rfl rfl (by decide) (Nat.le_of_ble_eq_true rfl) dX3_tryRows_52 (fun r8_ M9_ q10_ => ?_)
    obtain ⟨rfl, h11_, hs12_⟩ := q10_
    refine w_if_eq (tgt := 73) dX3_tryRows_55 (by decide) (rfl : r8_.toInt = r8_.toInt) (fun h13_ => ?_) (fun h13_ => ?_)
    · exact w_vret rfl dX3_tryRows_73 ⟨hIz, hFz, hk, ⟨z1_, e2_, z3_, h4_, z5_, h6_, (Or.inl ⟨h7_, r8_, hs12_, h11_, (Or.inl ⟨h13_, rfl⟩)⟩)⟩⟩
    · refine w_aload_n dX3_tryRows_58 rfl 0 rfl ?_
      refine w_getI fl_RX3_41 rfl rfl (ic_3 hb) dX3_tryRows_59 (fun z14_ e15_ => ?_)
      have h16_ : 0 ≤ z14_.toInt ∧ z14_.toInt ≤ 1 := ofEq (P := fun v => 0 ≤ v.toInt ∧ v.toInt ≤ 1) e15_ (hIz (3, b, 0) 8 rfl)
      refine w_if_eq (tgt := 74) dX3_tryRows_62 (by decide) (rfl : z14_.toInt = z14_.toInt) (fun h17_ => ?_) (fun h17_ => ?_)
      · refine w_iconst (v := 0) dX3_tryRows_74 (by decide) ?_
        refine w_istore (ls' := [(4, vI 0), (0, vR (3, b, 0)), (1, vI v), (2, vI u), (3, vI t)]) dX3_tryRows_75 (by decide) rfl ?_
        have lp18_ : ∀ (nn_77 : Nat) (M_77 : mM) (hI_77 : Inv M_77) (hF_77 : FR (S_try b) Mz M_77) (v4_77 : Int32) (hv0_77 : 0 ≤ v4_77.toInt) (kv0_77 : (M_77.1 (5, b, 2) 1).toInt + ((m : Nat) : Int) = 7) (hL_77 : RCH (fun x_ y_ => ST_X3_tryRows_77 m QR b v u t Mz x_.1 x_.2 y_.1 y_.2) ((0 : Int32), Mz) (v4_77, M_77)), (2147483648 - v4_77.toInt).toNat < nn_77 → WP CC l G cy ad yX3_tryRows cX3_tryRows 5 none ((N + d) + 2) 77 [(4, vI v4_77), (0, vR (3, b, 0)), (1, vI v), (2, vI u), (3, vI t)] [] M_77 (fun r M' => Inv M' ∧ FR (S_try b) Mz M' ∧ ((M'.1 (5, b, 2) 1).toInt + ((m : Nat) : Int) = 7) ∧ SP_X3_tryRows N m QR b v u t Mz M') := by
          intro nn_77
          induction nn_77 with
          | zero => intro M_77 hI_77 hF_77 v4_77 hv0_77 kv0_77 hL_77 hm_77; exact absurd hm_77 (Nat.not_lt_zero _)
          | succ nn_77 ih_77 =>
            intro M_77 hI_77 hF_77 v4_77 hv0_77 kv0_77 hL_77 hm_77
            refine w_iload dX3_tryRows_77 0 rfl ?_
            refine w_aload_n dX3_tryRows_79 rfl 1 rfl ?_
            refine w_getI fl_RX3_19 rfl rfl (ic_3 hb) dX3_tryRows_80 (fun z19_ e20_ => ?_)
            refine w_icmp_ge (tgt := 166) dX3_tryRows_83 (by decide) (rfl : v4_77.toInt = v4_77.toInt) (rfl : z19_.toInt = z19_.toInt) (fun h21_ => ?_) (fun h21_ => ?_)
            · exact w_vret rfl dX3_tryRows_166 ⟨hI_77, hF_77, kv0_77, ⟨z1_, e2_, z3_, h4_, z5_, h6_, (Or.inl ⟨h7_, r8_, hs12_, h11_, (Or.inr ⟨h13_, z14_, e15_, h16_, (Or.inl ⟨h17_, v4_77, hv0_77, M_77, hL_77, hI_77, hF_77, z19_, e20_, (Or.inl ⟨h21_, rfl⟩)⟩)⟩)⟩)⟩⟩
            · refine w_iload dX3_tryRows_86 0 rfl ?_
              refine w_bipush (v := 7) dX3_tryRows_88 (by decide) ?_
              refine w_icmp_ge (tgt := 166) dX3_tryRows_90 (by decide) (rfl : v4_77.toInt = v4_77.toInt) li_7 (fun h22_ => ?_) (fun h22_ => ?_)
              · exact w_vret rfl dX3_tryRows_166 ⟨hI_77, hF_77, kv0_77, ⟨z1_, e2_, z3_, h4_, z5_, h6_, (Or.inl ⟨h7_, r8_, hs12_, h11_, (Or.inr ⟨h13_, z14_, e15_, h16_, (Or.inl ⟨h17_, v4_77, hv0_77, M_77, hL_77, hI_77, hF_77, z19_, e20_, (Or.inr ⟨h21_, h22_, rfl⟩)⟩)⟩)⟩)⟩⟩
              · refine w_iload_n dX3_tryRows_93 rfl 3 rfl ?_
                refine w_iconst (v := 1) dX3_tryRows_94 (by decide) ?_
                refine w_iload dX3_tryRows_95 0 rfl ?_
                refine w_ishl dX3_tryRows_97 (fun z23_ h24_ => ?_)
                refine w_iand dX3_tryRows_98 (fun z25_ h26_ => ?_)
                refine w_if_ne (tgt := 160) dX3_tryRows_99 (by decide) (rfl : z25_.toInt = z25_.toInt) (fun h27_ => ?_) (fun h27_ => ?_)
                · refine w_iincB (j := 0) (f := fun z28_ => [(4, vI z28_), (0, vR (3, b, 0)), (1, vI v), (2, vI u), (3, vI t)]) dX3_tryRows_160 rfl (by decide) (fun _ => rfl) (rfl : v4_77.toInt = v4_77.toInt) li_1 (lf_c_X3_tryRows_3 v4_77 hv0_77 h22_ ) (fun z28_ h29_ => ?_)
                  refine w_goto (tgt := 77) dX3_tryRows_163 (by decide) ?_
                  refine w_loc (ls' := [(4, vI z28_), (0, vR (3, b, 0)), (1, vI v), (2, vI u), (3, vI t)]) [0, 1, 2, 3, 4] rfl ?_
                  exact ih_77 M_77 hI_77 hF_77 z28_ (lf_c_X5_takeFrom_3 v4_77 z28_ hv0_77 h29_ ) kv0_77 (RCH.tail hL_77 ⟨hv0_77, hI_77, hF_77, z19_, e20_, h21_, h22_, z23_, h24_, z25_, h26_, (Or.inl ⟨h27_, z28_, h29_, rfl, rfl⟩)⟩) (Nat.lt_of_lt_of_le (lf_c_X3_tryRows_5 v4_77 z28_ h22_ h29_ ) (Nat.le_of_lt_succ hm_77))
                · refine w_aload_n dX3_tryRows_102 rfl 1 rfl ?_
                  refine w_getR (c' := (31, b, 0)) fl_RX3_13 rfl rfl (ic_3 hb) dX3_tryRows_103 rfl ?_
                  refine w_iload dX3_tryRows_106 0 rfl ?_
                  refine w_iald rfl rfl (ic_31 hb) (rfl : v4_77.toInt = v4_77.toInt) (lf_c_X3_add_0 v4_77 hv0_77 h22_ ) dX3_tryRows_108 (fun j32_ h33_ z30_ e31_ => ?_)
                  refine w_iload_n dX3_tryRows_109 rfl 2 rfl ?_
                  refine w_iconst (v := (-1)) dX3_tryRows_110 (by decide) ?_
                  refine w_ixor dX3_tryRows_111 (fun z34_ h35_ => ?_)
                  refine w_iand dX3_tryRows_112 (fun z36_ h37_ => ?_)
                  refine w_if_ne (tgt := 160) dX3_tryRows_113 (by decide) (rfl : z36_.toInt = z36_.toInt) (fun h38_ => ?_) (fun h38_ => ?_)
                  · refine w_iincB (j := 0) (f := fun z39_ => [(4, vI z39_), (0, vR (3, b, 0)), (1, vI v), (2, vI u), (3, vI t)]) dX3_tryRows_160 rfl (by decide) (fun _ => rfl) (rfl : v4_77.toInt = v4_77.toInt) li_1 (lf_c_X3_tryRows_3 v4_77 hv0_77 h22_ ) (fun z39_ h40_ => ?_)
                    refine w_goto (tgt := 77) dX3_tryRows_163 (by decide) ?_
                    refine w_loc (ls' := [(4, vI z39_), (0, vR (3, b, 0)), (1, vI v), (2, vI u), (3, vI t)]) [0, 1, 2, 3, 4] rfl ?_
                    exact ih_77 M_77 hI_77 hF_77 z39_ (lf_c_X5_takeFrom_3 v4_77 z39_ hv0_77 h40_ ) kv0_77 (RCH.tail hL_77 ⟨hv0_77, hI_77, hF_77, z19_, e20_, h21_, h22_, z23_, h24_, z25_, h26_, (Or.inr ⟨h27_, j32_, h33_, z30_, e31_, z34_, h35_, z36_, h37_, (Or.inl ⟨h38_, z39_, h40_, rfl, rfl⟩)⟩)⟩) (Nat.lt_of_lt_of_le (lf_c_X3_tryRows_5 v4_77 z39_ h22_ h40_ ) (Nat.le_of_lt_succ hm_77))
                  · refine w_aload_n dX3_tryRows_116 rfl 1 rfl ?_
                    refine w_getR (c' := (5, b, 2)) fl_RX3_28 rfl rfl (ic_3 hb) dX3_tryRows_117 rfl ?_
                    refine w_iload dX3_tryRows_120 0 rfl ?_
                    refine w_callVv (as := [vI v4_77]) (rest := []) (c_X5_add2 l G cy ad ((N + d) + 1) b (7 - ((m : Nat) : Int)) v4_77 M_77 hI_77 hb (lf_c_X3_tryRows_0 M_77 m b kv0_77 ) (lf_c_X3_tryRows_11 m r8_ hm h11_ h13_ )) kV_X5_add pnn_2 (Nat.le_of_ble_eq_true rfl) m_1149 rfl rfl rfl (ic_5 (lf_c_X3_tryRows_12 M_77 Mz m b z1_ r8_ z14_ v4_77 z19_ j32_ z30_ hb hk hm e2_ h11_ h13_ e15_ h16_ h17_ hv0_77 kv0_77 e20_ h21_ h22_ h33_ e31_ )) rfl rfl (by decide) (Nat.le_of_ble_eq_true rfl) dX3_tryRows_122 (fun M41_ q42_ => ?_)
                    obtain ⟨hI44_, hF45_, h43_, hs47_⟩ := q42_
                    have hF46_ := hF_77.tr hF45_ (fun c k => (fun h => h.elim (fun h => (Or.inr (Or.inr (Or.inr (Or.inr (Or.inr (Or.inl ⟨h.1, h.2.1, h.2.2⟩))))))) (fun h => h.elim (fun h => (Or.inr (Or.inr (Or.inr (Or.inr (Or.inl ⟨h.1, h.2.1, h.2.2.1, h.2.2.2⟩)))))) (fun h => h.elim))))
                    refine w_aload_n dX3_tryRows_125 rfl 1 rfl ?_
                    refine w_iload_n dX3_tryRows_126 rfl 2 rfl ?_
                    refine w_aload_n dX3_tryRows_127 rfl 1 rfl ?_
                    refine w_getR (c' := (30, b, 0)) fl_RX3_9 rfl rfl (ic_3 hb) dX3_tryRows_128 rfl ?_
                    refine w_iload dX3_tryRows_131 0 rfl ?_
                    refine w_iald rfl rfl (ic_30 hb) (rfl : v4_77.toInt = v4_77.toInt) (lf_c_X3_add_0 v4_77 hv0_77 h22_ ) dX3_tryRows_133 (fun j50_ h51_ z48_ e49_ => ?_)
                    refine w_ior dX3_tryRows_134 (fun z52_ h53_ => ?_)
                    refine w_iload_n dX3_tryRows_135 rfl 3 rfl ?_
                    refine w_iconst (v := 1) dX3_tryRows_136 (by decide) ?_
                    refine w_iload dX3_tryRows_137 0 rfl ?_
                    refine w_ishl dX3_tryRows_139 (fun z54_ h55_ => ?_)
                    refine w_ior dX3_tryRows_140 (fun z56_ h57_ => ?_)
                    refine w_iload_n dX3_tryRows_141 rfl 4 rfl ?_
                    refine w_aload_n dX3_tryRows_142 rfl 1 rfl ?_
                    refine w_getR (c' := (32, b, 0)) fl_RX3_16 rfl rfl (ic_3 hb) dX3_tryRows_143 rfl ?_
                    refine w_iload dX3_tryRows_146 0 rfl ?_
                    refine w_iald rfl rfl (ic_32 hb) (rfl : v4_77.toInt = v4_77.toInt) (lf_c_X3_add_0 v4_77 hv0_77 h22_ ) dX3_tryRows_148 (fun j60_ h61_ z58_ e59_ => ?_)
                    refine w_iadd dX3_tryRows_149 (fun z62_ h63_ => ?_)
                    refine w_callVv (as := [vI z52_, vI z56_, vI z62_]) (rest := []) (hR (m - 1) (lf_c_X3_tryRows_17 m r8_ h11_ h13_ ) (d + 1) b z52_ z56_ z62_ M41_ hI44_ hb (lf_c_X3_tryRows_15 M41_ m b r8_ h11_ h13_ h43_ ) (lf_c_X3_tryRows_16 m hm )) kV_X3_tryRows pnn_8 (Nat.le_of_ble_eq_true rfl) m_1134 rfl rfl rfl (ic_3 hb) rfl rfl (by decide) (Nat.le_of_ble_eq_true rfl) dX3_tryRows_150 (fun M64_ q65_ => ?_)
                    obtain ⟨hI67_, hF68_, h66_, hs70_⟩ := q65_
                    have hF69_ := hF46_.tr hF68_ (fun c k => (fun h => h.elim (fun h => (Or.inl ⟨h.1, h.2.1, h.2.2⟩)) (fun h => h.elim (fun h => (Or.inr (Or.inl ⟨h.1, h.2.1, h.2.2⟩))) (fun h => h.elim (fun h => (Or.inr (Or.inr (Or.inl ⟨h.1, h.2.1, h.2.2.1, h.2.2.2⟩)))) (fun h => h.elim (fun h => (Or.inr (Or.inr (Or.inr (Or.inl ⟨h.1, h.2.1, h.2.2⟩))))) (fun h => h.elim (fun h => (Or.inr (Or.inr (Or.inr (Or.inr (Or.inl ⟨h.1, h.2.1, h.2.2.1, h.2.2.2⟩)))))) (fun h => h.elim (fun h => (Or.inr (Or.inr (Or.inr (Or.inr (Or.inr (Or.inl ⟨h.1, h.2.1, h.2.2⟩))))))) (fun h => h.elim))))))))
                    refine w_aload_n dX3_tryRows_153 rfl 1 rfl ?_
                    refine w_getR (c' := (5, b, 2)) fl_RX3_28 rfl rfl (ic_3 hb) dX3_tryRows_154 rfl ?_
                    refine w_callVv (as := []) (rest := []) (c_X5_drop2 l G cy ad ((N + d) + 1) b (8 - ((m : Nat) : Int)) M64_ hI67_ hb (lf_c_X3_tryRows_18 M64_ m b r8_ h11_ h13_ h66_ ) (lf_c_X3_tryRows_19 m r8_ hm h11_ h13_ )) kV_X5_dropLast pnn_2 (Nat.le_of_ble_eq_true rfl) m_1150 rfl rfl rfl (ic_5 (lf_c_X3_tryRows_20 M41_ M64_ M_77 Mz m b z1_ r8_ z14_ v4_77 z19_ j32_ z30_ j50_ z48_ j60_ z58_ hb hk hm e2_ h11_ h13_ e15_ h16_ h17_ hv0_77 kv0_77 e20_ h21_ h22_ h33_ e31_ h43_ h51_ e49_ h61_ e59_ h66_ )) rfl rfl (by decide) (Nat.le_of_ble_eq_true rfl) dX3_tryRows_157 (fun M71_ q72_ => ?_)
                    obtain ⟨hI74_, hF75_, h73_, hs77_⟩ := q72_
                    have hF76_ := hF69_.tr hF75_ (fun c k => (fun h => h.elim (fun h => (Or.inr (Or.inr (Or.inr (Or.inr (Or.inl ⟨h.1, h.2.1, h.2.2.1, h.2.2.2⟩)))))) (fun h => h.elim)))
                    have kf78_ : (M71_.1 (5, b, 2) 1).toInt + ((m : Nat) : Int) = 7 := (lf_c_X3_tryRows_21 M71_ m b h73_ )
                    refine w_iincB (j := 0) (f := fun z79_ => [(4, vI z79_), (0, vR (3, b, 0)), (1, vI v), (2, vI u), (3, vI t)]) dX3_tryRows_160 rfl (by decide) (fun _ => rfl) (rfl : v4_77.toInt = v4_77.toInt) li_1 (lf_c_X3_tryRows_3 v4_77 hv0_77 h22_ ) (fun z79_ h80_ => ?_)
                    refine w_goto (tgt := 77) dX3_tryRows_163 (by decide) ?_
                    refine w_loc (ls' := [(4, vI z79_), (0, vR (3, b, 0)), (1, vI v), (2, vI u), (3, vI t)]) [0, 1, 2, 3, 4] rfl ?_
                    exact ih_77 M71_ hI74_ hF76_ z79_ (lf_c_X5_takeFrom_3 v4_77 z79_ hv0_77 h80_ ) kf78_ (RCH.tail hL_77 ⟨hv0_77, hI_77, hF_77, z19_, e20_, h21_, h22_, z23_, h24_, z25_, h26_, (Or.inr ⟨h27_, j32_, h33_, z30_, e31_, z34_, h35_, z36_, h37_, (Or.inr ⟨h38_, M41_, hI44_, hF45_, hs47_, h43_, j50_, h51_, z48_, e49_, z52_, h53_, z54_, h55_, z56_, h57_, j60_, h61_, z58_, e59_, z62_, h63_, M64_, hI67_, hF68_, hs70_, h66_, M71_, hI74_, hF75_, hs77_, z79_, h80_, rfl, rfl⟩)⟩)⟩) (Nat.lt_of_lt_of_le (lf_c_X3_tryRows_5 v4_77 z79_ h22_ h80_ ) (Nat.le_of_lt_succ hm_77))
        exact lp18_ _ Mz hIz hFz 0 (lf_c_X5_takeFrom_5 ) hk RCH.refl (Nat.lt_succ_self _)
      · refine w_iload_n dX3_tryRows_65 rfl 3 rfl ?_
        refine w_aload_n dX3_tryRows_66 rfl 0 rfl ?_
        refine w_getI fl_RX3_38 rfl rfl (ic_3 hb) dX3_tryRows_67 (fun z81_ e82_ => ?_)
        refine w_icmp_le (tgt := 74) dX3_tryRows_70 (by decide) (rfl : t.toInt = t.toInt) (rfl : z81_.toInt = z81_.toInt) (fun h83_ => ?_) (fun h83_ => ?_)
        · refine w_iconst (v := 0) dX3_tryRows_74 (by decide) ?_
          refine w_istore (ls' := [(4, vI 0), (0, vR (3, b, 0)), (1, vI v), (2, vI u), (3, vI t)]) dX3_tryRows_75 (by decide) rfl ?_
          have lp84_ : ∀ (nn_77 : Nat) (M_77 : mM) (hI_77 : Inv M_77) (hF_77 : FR (S_try b) Mz M_77) (v4_77 : Int32) (hv0_77 : 0 ≤ v4_77.toInt) (kv0_77 : (M_77.1 (5, b, 2) 1).toInt + ((m : Nat) : Int) = 7) (hL_77 : RCH (fun x_ y_ => ST_X3_tryRows_77b m QR b v u t Mz x_.1 x_.2 y_.1 y_.2) ((0 : Int32), Mz) (v4_77, M_77)), (2147483648 - v4_77.toInt).toNat < nn_77 → WP CC l G cy ad yX3_tryRows cX3_tryRows 5 none ((N + d) + 2) 77 [(4, vI v4_77), (0, vR (3, b, 0)), (1, vI v), (2, vI u), (3, vI t)] [] M_77 (fun r M' => Inv M' ∧ FR (S_try b) Mz M' ∧ ((M'.1 (5, b, 2) 1).toInt + ((m : Nat) : Int) = 7) ∧ SP_X3_tryRows N m QR b v u t Mz M') := by
            intro nn_77
            induction nn_77 with
            | zero => intro M_77 hI_77 hF_77 v4_77 hv0_77 kv0_77 hL_77 hm_77; exact absurd hm_77 (Nat.not_lt_zero _)
            | succ nn_77 ih_77 =>
              intro M_77 hI_77 hF_77 v4_77 hv0_77 kv0_77 hL_77 hm_77
              refine w_iload dX3_tryRows_77 0 rfl ?_
              refine w_aload_n dX3_tryRows_79 rfl 1 rfl ?_
              refine w_getI fl_RX3_19 rfl rfl (ic_3 hb) dX3_tryRows_80 (fun z85_ e86_ => ?_)
              refine w_icmp_ge (tgt := 166) dX3_tryRows_83 (by decide) (rfl : v4_77.toInt = v4_77.toInt) (rfl : z85_.toInt = z85_.toInt) (fun h87_ => ?_) (fun h87_ => ?_)
              · exact w_vret rfl dX3_tryRows_166 ⟨hI_77, hF_77, kv0_77, ⟨z1_, e2_, z3_, h4_, z5_, h6_, (Or.inl ⟨h7_, r8_, hs12_, h11_, (Or.inr ⟨h13_, z14_, e15_, h16_, (Or.inr ⟨h17_, z81_, e82_, (Or.inl ⟨h83_, v4_77, hv0_77, M_77, hL_77, hI_77, hF_77, z85_, e86_, (Or.inl ⟨h87_, rfl⟩)⟩)⟩)⟩)⟩)⟩⟩
              · refine w_iload dX3_tryRows_86 0 rfl ?_
                refine w_bipush (v := 7) dX3_tryRows_88 (by decide) ?_
                refine w_icmp_ge (tgt := 166) dX3_tryRows_90 (by decide) (rfl : v4_77.toInt = v4_77.toInt) li_7 (fun h88_ => ?_) (fun h88_ => ?_)
                · exact w_vret rfl dX3_tryRows_166 ⟨hI_77, hF_77, kv0_77, ⟨z1_, e2_, z3_, h4_, z5_, h6_, (Or.inl ⟨h7_, r8_, hs12_, h11_, (Or.inr ⟨h13_, z14_, e15_, h16_, (Or.inr ⟨h17_, z81_, e82_, (Or.inl ⟨h83_, v4_77, hv0_77, M_77, hL_77, hI_77, hF_77, z85_, e86_, (Or.inr ⟨h87_, h88_, rfl⟩)⟩)⟩)⟩)⟩)⟩⟩
                · refine w_iload_n dX3_tryRows_93 rfl 3 rfl ?_
                  refine w_iconst (v := 1) dX3_tryRows_94 (by decide) ?_
                  refine w_iload dX3_tryRows_95 0 rfl ?_
                  refine w_ishl dX3_tryRows_97 (fun z89_ h90_ => ?_)
                  refine w_iand dX3_tryRows_98 (fun z91_ h92_ => ?_)
                  refine w_if_ne (tgt := 160) dX3_tryRows_99 (by decide) (rfl : z91_.toInt = z91_.toInt) (fun h93_ => ?_) (fun h93_ => ?_)
                  · refine w_iincB (j := 0) (f := fun z94_ => [(4, vI z94_), (0, vR (3, b, 0)), (1, vI v), (2, vI u), (3, vI t)]) dX3_tryRows_160 rfl (by decide) (fun _ => rfl) (rfl : v4_77.toInt = v4_77.toInt) li_1 (lf_c_X3_tryRows_3 v4_77 hv0_77 h88_ ) (fun z94_ h95_ => ?_)
                    refine w_goto (tgt := 77) dX3_tryRows_163 (by decide) ?_
                    refine w_loc (ls' := [(4, vI z94_), (0, vR (3, b, 0)), (1, vI v), (2, vI u), (3, vI t)]) [0, 1, 2, 3, 4] rfl ?_
                    exact ih_77 M_77 hI_77 hF_77 z94_ (lf_c_X5_takeFrom_3 v4_77 z94_ hv0_77 h95_ ) kv0_77 (RCH.tail hL_77 ⟨hv0_77, hI_77, hF_77, z85_, e86_, h87_, h88_, z89_, h90_, z91_, h92_, (Or.inl ⟨h93_, z94_, h95_, rfl, rfl⟩)⟩) (Nat.lt_of_lt_of_le (lf_c_X3_tryRows_5 v4_77 z94_ h88_ h95_ ) (Nat.le_of_lt_succ hm_77))
                  · refine w_aload_n dX3_tryRows_102 rfl 1 rfl ?_
                    refine w_getR (c' := (31, b, 0)) fl_RX3_13 rfl rfl (ic_3 hb) dX3_tryRows_103 rfl ?_
                    refine w_iload dX3_tryRows_106 0 rfl ?_
                    refine w_iald rfl rfl (ic_31 hb) (rfl : v4_77.toInt = v4_77.toInt) (lf_c_X3_add_0 v4_77 hv0_77 h88_ ) dX3_tryRows_108 (fun j98_ h99_ z96_ e97_ => ?_)
                    refine w_iload_n dX3_tryRows_109 rfl 2 rfl ?_
                    refine w_iconst (v := (-1)) dX3_tryRows_110 (by decide) ?_
                    refine w_ixor dX3_tryRows_111 (fun z100_ h101_ => ?_)
                    refine w_iand dX3_tryRows_112 (fun z102_ h103_ => ?_)
                    refine w_if_ne (tgt := 160) dX3_tryRows_113 (by decide) (rfl : z102_.toInt = z102_.toInt) (fun h104_ => ?_) (fun h104_ => ?_)
                    · refine w_iincB (j := 0) (f := fun z105_ => [(4, vI z105_), (0, vR (3, b, 0)), (1, vI v), (2, vI u), (3, vI t)]) dX3_tryRows_160 rfl (by decide) (fun _ => rfl) (rfl : v4_77.toInt = v4_77.toInt) li_1 (lf_c_X3_tryRows_3 v4_77 hv0_77 h88_ ) (fun z105_ h106_ => ?_)
                      refine w_goto (tgt := 77) dX3_tryRows_163 (by decide) ?_
                      refine w_loc (ls' := [(4, vI z105_), (0, vR (3, b, 0)), (1, vI v), (2, vI u), (3, vI t)]) [0, 1, 2, 3, 4] rfl ?_
                      exact ih_77 M_77 hI_77 hF_77 z105_ (lf_c_X5_takeFrom_3 v4_77 z105_ hv0_77 h106_ ) kv0_77 (RCH.tail hL_77 ⟨hv0_77, hI_77, hF_77, z85_, e86_, h87_, h88_, z89_, h90_, z91_, h92_, (Or.inr ⟨h93_, j98_, h99_, z96_, e97_, z100_, h101_, z102_, h103_, (Or.inl ⟨h104_, z105_, h106_, rfl, rfl⟩)⟩)⟩) (Nat.lt_of_lt_of_le (lf_c_X3_tryRows_5 v4_77 z105_ h88_ h106_ ) (Nat.le_of_lt_succ hm_77))
                    · refine w_aload_n dX3_tryRows_116 rfl 1 rfl ?_
                      refine w_getR (c' := (5, b, 2)) fl_RX3_28 rfl rfl (ic_3 hb) dX3_tryRows_117 rfl ?_
                      refine w_iload dX3_tryRows_120 0 rfl ?_
                      refine w_callVv (as := [vI v4_77]) (rest := []) (c_X5_add2 l G cy ad ((N + d) + 1) b (7 - ((m : Nat) : Int)) v4_77 M_77 hI_77 hb (lf_c_X3_tryRows_0 M_77 m b kv0_77 ) (lf_c_X3_tryRows_11 m r8_ hm h11_ h13_ )) kV_X5_add pnn_2 (Nat.le_of_ble_eq_true rfl) m_1149 rfl rfl rfl (ic_5 (lf_c_X3_tryRows_35 M_77 Mz m b t z1_ r8_ z14_ z81_ v4_77 z85_ j98_ z96_ hb hk hm e2_ h11_ h13_ e15_ h16_ h17_ e82_ h83_ hv0_77 kv0_77 e86_ h87_ h88_ h99_ e97_ )) rfl rfl (by decide) (Nat.le_of_ble_eq_true rfl) dX3_tryRows_122 (fun M107_ q108_ => ?_)
                      obtain ⟨hI110_, hF111_, h109_, hs113_⟩ := q108_
                      have hF112_ := hF_77.tr hF111_ (fun c k => (fun h => h.elim (fun h => (Or.inr (Or.inr (Or.inr (Or.inr (Or.inr (Or.inl ⟨h.1, h.2.1, h.2.2⟩))))))) (fun h => h.elim (fun h => (Or.inr (Or.inr (Or.inr (Or.inr (Or.inl ⟨h.1, h.2.1, h.2.2.1, h.2.2.2⟩)))))) (fun h => h.elim))))
                      refine w_aload_n dX3_tryRows_125 rfl 1 rfl ?_
                      refine w_iload_n dX3_tryRows_126 rfl 2 rfl ?_
                      refine w_aload_n dX3_tryRows_127 rfl 1 rfl ?_
                      refine w_getR (c' := (30, b, 0)) fl_RX3_9 rfl rfl (ic_3 hb) dX3_tryRows_128 rfl ?_
                      refine w_iload dX3_tryRows_131 0 rfl ?_
                      refine w_iald rfl rfl (ic_30 hb) (rfl : v4_77.toInt = v4_77.toInt) (lf_c_X3_add_0 v4_77 hv0_77 h88_ ) dX3_tryRows_133 (fun j116_ h117_ z114_ e115_ => ?_)
                      refine w_ior dX3_tryRows_134 (fun z118_ h119_ => ?_)
                      refine w_iload_n dX3_tryRows_135 rfl 3 rfl ?_
                      refine w_iconst (v := 1) dX3_tryRows_136 (by decide) ?_
                      refine w_iload dX3_tryRows_137 0 rfl ?_
                      refine w_ishl dX3_tryRows_139 (fun z120_ h121_ => ?_)
                      refine w_ior dX3_tryRows_140 (fun z122_ h123_ => ?_)
                      refine w_iload_n dX3_tryRows_141 rfl 4 rfl ?_
                      refine w_aload_n dX3_tryRows_142 rfl 1 rfl ?_
                      refine w_getR (c' := (32, b, 0)) fl_RX3_16 rfl rfl (ic_3 hb) dX3_tryRows_143 rfl ?_
                      refine w_iload dX3_tryRows_146 0 rfl ?_
                      refine w_iald rfl rfl (ic_32 hb) (rfl : v4_77.toInt = v4_77.toInt) (lf_c_X3_add_0 v4_77 hv0_77 h88_ ) dX3_tryRows_148 (fun j126_ h127_ z124_ e125_ => ?_)
                      refine w_iadd dX3_tryRows_149 (fun z128_ h129_ => ?_)
                      refine w_callVv (as := [vI z118_, vI z122_, vI z128_]) (rest := []) (hR (m - 1) (lf_c_X3_tryRows_17 m r8_ h11_ h13_ ) (d + 1) b z118_ z122_ z128_ M107_ hI110_ hb (lf_c_X3_tryRows_15 M107_ m b r8_ h11_ h13_ h109_ ) (lf_c_X3_tryRows_16 m hm )) kV_X3_tryRows pnn_8 (Nat.le_of_ble_eq_true rfl) m_1134 rfl rfl rfl (ic_3 hb) rfl rfl (by decide) (Nat.le_of_ble_eq_true rfl) dX3_tryRows_150 (fun M130_ q131_ => ?_)
                      obtain ⟨hI133_, hF134_, h132_, hs136_⟩ := q131_
                      have hF135_ := hF112_.tr hF134_ (fun c k => (fun h => h.elim (fun h => (Or.inl ⟨h.1, h.2.1, h.2.2⟩)) (fun h => h.elim (fun h => (Or.inr (Or.inl ⟨h.1, h.2.1, h.2.2⟩))) (fun h => h.elim (fun h => (Or.inr (Or.inr (Or.inl ⟨h.1, h.2.1, h.2.2.1, h.2.2.2⟩)))) (fun h => h.elim (fun h => (Or.inr (Or.inr (Or.inr (Or.inl ⟨h.1, h.2.1, h.2.2⟩))))) (fun h => h.elim (fun h => (Or.inr (Or.inr (Or.inr (Or.inr (Or.inl ⟨h.1, h.2.1, h.2.2.1, h.2.2.2⟩)))))) (fun h => h.elim (fun h => (Or.inr (Or.inr (Or.inr (Or.inr (Or.inr (Or.inl ⟨h.1, h.2.1, h.2.2⟩))))))) (fun h => h.elim))))))))
                      refine w_aload_n dX3_tryRows_153 rfl 1 rfl ?_
                      refine w_getR (c' := (5, b, 2)) fl_RX3_28 rfl rfl (ic_3 hb) dX3_tryRows_154 rfl ?_
                      refine w_callVv (as := []) (rest := []) (c_X5_drop2 l G cy ad ((N + d) + 1) b (8 - ((m : Nat) : Int)) M130_ hI133_ hb (lf_c_X3_tryRows_18 M130_ m b r8_ h11_ h13_ h132_ ) (lf_c_X3_tryRows_19 m r8_ hm h11_ h13_ )) kV_X5_dropLast pnn_2 (Nat.le_of_ble_eq_true rfl) m_1150 rfl rfl rfl (ic_5 (lf_c_X3_tryRows_43 M107_ M130_ M_77 Mz m b t z1_ r8_ z14_ z81_ v4_77 z85_ j98_ z96_ j116_ z114_ j126_ z124_ hb hk hm e2_ h11_ h13_ e15_ h16_ h17_ e82_ h83_ hv0_77 kv0_77 e86_ h87_ h88_ h99_ e97_ h109_ h117_ e115_ h127_ e125_ h132_ )) rfl rfl (by decide) (Nat.le_of_ble_eq_true rfl) dX3_tryRows_157 (fun M137_ q138_ => ?_)
                      obtain ⟨hI140_, hF141_, h139_, hs143_⟩ := q138_
                      have hF142_ := hF135_.tr hF141_ (fun c k => (fun h => h.elim (fun h => (Or.inr (Or.inr (Or.inr (Or.inr (Or.inl ⟨h.1, h.2.1, h.2.2.1, h.2.2.2⟩)))))) (fun h => h.elim)))
                      have kf144_ : (M137_.1 (5, b, 2) 1).toInt + ((m : Nat) : Int) = 7 := (lf_c_X3_tryRows_21 M137_ m b h139_ )
                      refine w_iincB (j := 0) (f := fun z145_ => [(4, vI z145_), (0, vR (3, b, 0)), (1, vI v), (2, vI u), (3, vI t)]) dX3_tryRows_160 rfl (by decide) (fun _ => rfl) (rfl : v4_77.toInt = v4_77.toInt) li_1 (lf_c_X3_tryRows_3 v4_77 hv0_77 h88_ ) (fun z145_ h146_ => ?_)
                      refine w_goto (tgt := 77) dX3_tryRows_163 (by decide) ?_
                      refine w_loc (ls' := [(4, vI z145_), (0, vR (3, b, 0)), (1, vI v), (2, vI u), (3, vI t)]) [0, 1, 2, 3, 4] rfl ?_
                      exact ih_77 M137_ hI140_ hF142_ z145_ (lf_c_X5_takeFrom_3 v4_77 z145_ hv0_77 h146_ ) kf144_ (RCH.tail hL_77 ⟨hv0_77, hI_77, hF_77, z85_, e86_, h87_, h88_, z89_, h90_, z91_, h92_, (Or.inr ⟨h93_, j98_, h99_, z96_, e97_, z100_, h101_, z102_, h103_, (Or.inr ⟨h104_, M107_, hI110_, hF111_, hs113_, h109_, j116_, h117_, z114_, e115_, z118_, h119_, z120_, h121_, z122_, h123_, j126_, h127_, z124_, e125_, z128_, h129_, M130_, hI133_, hF134_, hs136_, h132_, M137_, hI140_, hF141_, hs143_, z145_, h146_, rfl, rfl⟩)⟩)⟩) (Nat.lt_of_lt_of_le (lf_c_X3_tryRows_5 v4_77 z145_ h88_ h146_ ) (Nat.le_of_lt_succ hm_77))
          exact lp84_ _ Mz hIz hFz 0 (lf_c_X5_takeFrom_5 ) hk RCH.refl (Nat.lt_succ_self _)
        · exact w_vret rfl dX3_tryRows_73 ⟨hIz, hFz, hk, ⟨z1_, e2_, z3_, h4_, z5_, h6_, (Or.inl ⟨h7_, r8_, hs12_, h11_, (Or.inr ⟨h13_, z14_, e15_, h16_, (Or.inr ⟨h17_, z81_, e82_, (Or.inr ⟨h83_, rfl⟩)⟩)⟩)⟩)⟩⟩
  · refine w_aload_n dX3_tryRows_11 rfl 0 rfl ?_
    refine w_getI fl_RX3_41 rfl rfl (ic_3 hb) dX3_tryRows_12 (fun z147_ e148_ => ?_)
    have h149_ : 0 ≤ z147_.toInt ∧ z147_.toInt ≤ 1 := ofEq (P := fun v => 0 ≤ v.toInt ∧ v.toInt ≤ 1) e148_ (hIz (3, b, 0) 8 rfl)
    refine w_if_eq (tgt := 26) dX3_tryRows_15 (by decide) (rfl : z147_.toInt = z147_.toInt) (fun h150_ => ?_) (fun h150_ => ?_)
    · refine w_aload_n dX3_tryRows_26 rfl 0 rfl ?_
      refine w_iconst (v := 1) dX3_tryRows_27 (by decide) ?_
      refine w_putZ CC_nd fl_RX3_41 rfl rfl (ic_3 hb) ⟨by decide, by decide⟩ dX3_tryRows_28 (fun M151_ hM152_ => ?_)
      have hI153_ := hIz.put hM152_ (fun _ => ⟨by decide, by decide⟩)
      have hF154_ := hFz.put hM152_ (Or.inr (Or.inl ⟨rfl, rfl, rfl⟩))
      have kf155_ : (M151_.1 (5, b, 2) 1).toInt + ((m : Nat) : Int) = 7 := by rw [(show M151_.1 (5, b, 2) 1 = Mz.1 (5, b, 2) 1 by rw [hM152_, up_ne (by simp)])]; exact hk
      refine w_aload_n dX3_tryRows_31 rfl 0 rfl ?_
      refine w_iload_n dX3_tryRows_32 rfl 3 rfl ?_
      refine w_putI CC_nd fl_RX3_38 rfl rfl (ic_3 hb) dX3_tryRows_33 (fun M156_ hM157_ => ?_)
      have hI158_ := hI153_.put hM157_ (fun h => absurd h (by decide))
      have hF159_ := hF154_.put hM157_ (Or.inl ⟨rfl, rfl, rfl⟩)
      have kf160_ : (M156_.1 (5, b, 2) 1).toInt + ((m : Nat) : Int) = 7 := by rw [(show M156_.1 (5, b, 2) 1 = M151_.1 (5, b, 2) 1 by rw [hM157_, up_ne (by simp)])]; exact kf155_
      refine w_aload_n dX3_tryRows_36 rfl 0 rfl ?_
      refine w_getR (c' := (5, b, 3)) fl_RX3_32 rfl rfl (ic_3 hb) dX3_tryRows_37 rfl ?_
      refine w_aload_n dX3_tryRows_40 rfl 0 rfl ?_
      refine w_getR (c' := (5, b, 2)) fl_RX3_28 rfl rfl (ic_3 hb) dX3_tryRows_41 rfl ?_
      refine w_callVv (as := [vR (5, b, 2)]) (rest := []) (c_X5_takeFrom l G cy ad (N + d) b 3 b 2 M156_ hI158_ (lf_c_X3_tryRows_49 M151_ M156_ Mz m b t z1_ z147_ hb hk hm e2_ e148_ h149_ h150_ hM152_ kf155_ hM157_ kf160_ ) (lf_c_X3_tryRows_50 M151_ M156_ Mz m b t z1_ z147_ hb hk hm e2_ e148_ h149_ h150_ hM152_ kf155_ hM157_ kf160_ )) kV_X5_takeFrom pnn_2 (Nat.le_of_ble_eq_true rfl) m_1142 rfl rfl rfl (ic_5 (lf_c_X3_tryRows_49 M151_ M156_ Mz m b t z1_ z147_ hb hk hm e2_ e148_ h149_ h150_ hM152_ kf155_ hM157_ kf160_ )) rfl rfl (by decide) (Nat.le_of_ble_eq_true rfl) dX3_tryRows_44 (fun M161_ q162_ => ?_)
      obtain ⟨hI164_, hF165_, h163_, hs167_⟩ := q162_
      have hF166_ := hF159_.tr hF165_ (fun c k => (fun h => h.elim (fun h => (Or.inr (Or.inr (Or.inl ⟨h.1, h.2.1, h.2.2.1, h.2.2.2⟩)))) (fun h => h.elim (fun h => (Or.inr (Or.inr (Or.inr (Or.inl ⟨h.1, h.2.1, h.2.2⟩))))) (fun h => h.elim))))
      have kf168_ : (M161_.1 (5, b, 2) 1).toInt + ((m : Nat) : Int) = 7 := by rw [(hF165_ (5, b, 2) 1 (by simp [S_c_X5_takeFrom]))]; exact kf160_
      exact w_vret rfl dX3_tryRows_47 ⟨hI164_, hF166_, kf168_, ⟨z1_, e2_, z3_, h4_, z5_, h6_, (Or.inr ⟨h7_, z147_, e148_, h149_, (Or.inl ⟨h150_, M151_, hM152_, M156_, hM157_, hI158_, M161_, hI164_, hF165_, hs167_, rfl⟩)⟩)⟩⟩
    · refine w_aload_n dX3_tryRows_18 rfl 0 rfl ?_
      refine w_iload_n dX3_tryRows_19 rfl 3 rfl ?_
      refine w_callV (as := [vI t]) (rest := []) (c_X3_isBetter l G cy ad ((N + d) + 1) b t Mz hIz hb) kV_X3_isBetter pnn_8 (Nat.le_of_ble_eq_true rfl) m_1138 rfl rfl rfl (ic_3 hb) rfl rfl (by decide) (Nat.le_of_ble_eq_true rfl) dX3_tryRows_20 (fun r169_ M170_ q171_ => ?_)
      obtain ⟨rfl, h172_, hs173_⟩ := q171_
      refine w_if_eq (tgt := 47) dX3_tryRows_23 (by decide) (rfl : r169_.toInt = r169_.toInt) (fun h174_ => ?_) (fun h174_ => ?_)
      · exact w_vret rfl dX3_tryRows_47 ⟨hIz, hFz, hk, ⟨z1_, e2_, z3_, h4_, z5_, h6_, (Or.inr ⟨h7_, z147_, e148_, h149_, (Or.inr ⟨h150_, r169_, hs173_, h172_, (Or.inl ⟨h174_, rfl⟩)⟩)⟩)⟩⟩
      · refine w_aload_n dX3_tryRows_26 rfl 0 rfl ?_
        refine w_iconst (v := 1) dX3_tryRows_27 (by decide) ?_
        refine w_putZ CC_nd fl_RX3_41 rfl rfl (ic_3 hb) ⟨by decide, by decide⟩ dX3_tryRows_28 (fun M175_ hM176_ => ?_)
        have hI177_ := hIz.put hM176_ (fun _ => ⟨by decide, by decide⟩)
        have hF178_ := hFz.put hM176_ (Or.inr (Or.inl ⟨rfl, rfl, rfl⟩))
        have kf179_ : (M175_.1 (5, b, 2) 1).toInt + ((m : Nat) : Int) = 7 := by rw [(show M175_.1 (5, b, 2) 1 = Mz.1 (5, b, 2) 1 by rw [hM176_, up_ne (by simp)])]; exact hk
        refine w_aload_n dX3_tryRows_31 rfl 0 rfl ?_
        refine w_iload_n dX3_tryRows_32 rfl 3 rfl ?_
        refine w_putI CC_nd fl_RX3_38 rfl rfl (ic_3 hb) dX3_tryRows_33 (fun M180_ hM181_ => ?_)
        have hI182_ := hI177_.put hM181_ (fun h => absurd h (by decide))
        have hF183_ := hF178_.put hM181_ (Or.inl ⟨rfl, rfl, rfl⟩)
        have kf184_ : (M180_.1 (5, b, 2) 1).toInt + ((m : Nat) : Int) = 7 := by rw [(show M180_.1 (5, b, 2) 1 = M175_.1 (5, b, 2) 1 by rw [hM181_, up_ne (by simp)])]; exact kf179_
        refine w_aload_n dX3_tryRows_36 rfl 0 rfl ?_
        refine w_getR (c' := (5, b, 3)) fl_RX3_32 rfl rfl (ic_3 hb) dX3_tryRows_37 rfl ?_
        refine w_aload_n dX3_tryRows_40 rfl 0 rfl ?_
        refine w_getR (c' := (5, b, 2)) fl_RX3_28 rfl rfl (ic_3 hb) dX3_tryRows_41 rfl ?_
        refine w_callVv (as := [vR (5, b, 2)]) (rest := []) (c_X5_takeFrom l G cy ad (N + d) b 3 b 2 M180_ hI182_ (lf_c_X3_tryRows_52 M175_ M180_ Mz m b t z1_ z147_ hb hk hm e2_ e148_ h149_ h150_ hM176_ kf179_ hM181_ kf184_ ) (lf_c_X3_tryRows_53 M175_ M180_ Mz m b t z1_ z147_ hb hk hm e2_ e148_ h149_ h150_ hM176_ kf179_ hM181_ kf184_ )) kV_X5_takeFrom pnn_2 (Nat.le_of_ble_eq_true rfl) m_1142 rfl rfl rfl (ic_5 (lf_c_X3_tryRows_52 M175_ M180_ Mz m b t z1_ z147_ hb hk hm e2_ e148_ h149_ h150_ hM176_ kf179_ hM181_ kf184_ )) rfl rfl (by decide) (Nat.le_of_ble_eq_true rfl) dX3_tryRows_44 (fun M185_ q186_ => ?_)
        obtain ⟨hI188_, hF189_, h187_, hs191_⟩ := q186_
        have hF190_ := hF183_.tr hF189_ (fun c k => (fun h => h.elim (fun h => (Or.inr (Or.inr (Or.inl ⟨h.1, h.2.1, h.2.2.1, h.2.2.2⟩)))) (fun h => h.elim (fun h => (Or.inr (Or.inr (Or.inr (Or.inl ⟨h.1, h.2.1, h.2.2⟩))))) (fun h => h.elim))))
        have kf192_ : (M185_.1 (5, b, 2) 1).toInt + ((m : Nat) : Int) = 7 := by rw [(hF189_ (5, b, 2) 1 (by simp [S_c_X5_takeFrom]))]; exact kf184_
        exact w_vret rfl dX3_tryRows_47 ⟨hI188_, hF190_, kf192_, ⟨z1_, e2_, z3_, h4_, z5_, h6_, (Or.inr ⟨h7_, z147_, e148_, h149_, (Or.inr ⟨h150_, r169_, hs173_, h172_, (Or.inr ⟨h174_, M175_, hM176_, M180_, hM181_, hI182_, M185_, hI188_, hF189_, hs191_, rfl⟩)⟩)⟩)⟩⟩
def SPTc : Nat → (Nat → Int32 → Int32 → Int32 → mM → mM → Prop)
  | 0 => SP_X3_tryRows 0 0 (fun _ _ _ _ _ _ => False)
  | m + 1 => SP_X3_tryRows (2 * m + 2) (m + 1) (SPTc m)
theorem try_rec (l : Launch) (G : va_G) (cy : Nat → ClassId) (ad : rf → Nat) : ∀ m, TRYC l G cy ad (2 * m + 2) m (SPTc m) := by
  intro m
  induction m with
  | zero => exact fun d b v u t Mz hIz hb hk hm => w_dep (by omega) (c_X3_tryRows l G cy ad d 0 0 (fun _ _ _ _ _ _ => False) b v u t Mz hIz (fun k hk => absurd hk (by omega)) hb hk hm)
  | succ m ih => exact fun d b v u t Mz hIz hb hk hm => w_dep (by omega) (c_X3_tryRows l G cy ad d (2 * m + 2) (m + 1) (SPTc m) b v u t Mz hIz (fun k hk => by
      obtain rfl : k = m := by omega
      exact ih) hb hk hm)
def SP_X3_try7 (b : Nat) (v u t : Int32) (Mz : mM) (M_ : mM) : Prop := SPTc 7 b v u t Mz M_
theorem c_X3_try7 (l : Launch) (G : va_G) (cy : Nat → ClassId) (ad : rf → Nat) (d b : Nat) (v u t : Int32) (Mz : mM) (hIz : Inv Mz) (hb : b < 3) (h0 : (Mz.1 (5, b, 2) 1).toInt = 0) : WP CC l G cy ad yX3_tryRows cX3_tryRows 5 none (d + 16) 0 [(0, vR (3, b, 0)), (1, vI v), (2, vI u), (3, vI t)] [] Mz (fun r M' => Inv M' ∧ FR (S_try b) Mz M' ∧ (True) ∧ SP_X3_try7 b v u t Mz M') := w_dep (by omega) (w_Q (try_rec l G cy ad 7 d b v u t Mz hIz hb (by omega) (by omega)) (fun _ _ h => ⟨h.1, h.2.1, trivial, h.2.2.2⟩))
end
section
/-! words of the tables that are used, by their places; decode rows; fields -/
set_option maxRecDepth 20000 in
theorem m_1129 : Cond.methodLink RX11 322 yX3_findRow ∈ BASE := bmT5 91 rfl rfl
set_option maxRecDepth 20000 in
theorem m_1130 : Cond.instanceMethod yX3_findRow ∈ BASE := bmT5 92 rfl rfl
set_option maxRecDepth 20000 in
theorem m_1131 : Cond.selects yX3_findRow.cls yX3_findRow yX3_findRow ∈ BASE := bmT5 93 rfl rfl
set_option maxRecDepth 20000 in
theorem m_1132 : Cond.code yX3_findRow cX3_findRow 3 (some .boolean) ∈ BASE := bmT5 94 rfl rfl
set_option maxRecDepth 20000 in
theorem m_1133 : Cond.methodLink RX3 45 yX5_clear ∈ BASE := bmT5 95 rfl rfl
theorem kV_X3_findRow : KV yX3_findRow cX3_findRow 3 (some .boolean) 2 := ⟨m_1130, m_1131, m_84, m_1132, nhM_8, nhV_8, pdn_7⟩
theorem fl_RX11_325 : FLK RX11 325 3 7 .int false := ⟨RX3, TX3, 9, tyX3, rfl, inB3, tyX3_ok, nmX3, by decide, rfl, rfl, Or.inr ⟨"ClickStreet", List.mem_of_getElem? (l := NFs) (i := 12) rfl⟩⟩
theorem fl_RX11_328 : FLK RX11 328 3 5 (.object "ClickStreet$Row") true := ⟨RX3, TX3, 9, tyX3, rfl, inB3, tyX3_ok, nmX3, by decide, rfl, rfl, Or.inr ⟨"ClickStreet", List.mem_of_getElem? (l := NFs) (i := 11) rfl⟩⟩
theorem ch_cX11_learn_0 : (cX11_learn.data.toList.drop 0).take 36 = [27, 184, 1, 54, 153, 0, 16, 28, 184, 1, 54, 153, 0, 9, 29, 16, 254, 162, 0, 9, 42, 4, 182, 0, 67, 172, 42, 180, 0, 10, 180, 1, 57, 58, 4, 25] := by decide +kernel
theorem dX11_learn_0 : decode cX11_learn 0 = .ok (.iload_n 1, 1) := do_27 (rdb (p := 0) (i := 0) ch_cX11_learn_0 rfl)
theorem dX11_learn_1 : decode cX11_learn 1 = .ok (.invokestatic 310, 3) := do_184 (rdb (p := 0) (i := 1) ch_cX11_learn_0 rfl) (rdb (p := 0) (i := 2) ch_cX11_learn_0 rfl) (rdb (p := 0) (i := 3) ch_cX11_learn_0 rfl) rfl
theorem dX11_learn_4 : decode cX11_learn 4 = .ok (.ifCond .eq 16, 3) := do_153 (rdb (p := 0) (i := 4) ch_cX11_learn_0 rfl) (rdb (p := 0) (i := 5) ch_cX11_learn_0 rfl) (rdb (p := 0) (i := 6) ch_cX11_learn_0 rfl) (by decide +kernel)
theorem dX11_learn_7 : decode cX11_learn 7 = .ok (.iload_n 2, 1) := do_28 (rdb (p := 0) (i := 7) ch_cX11_learn_0 rfl)
theorem dX11_learn_8 : decode cX11_learn 8 = .ok (.invokestatic 310, 3) := do_184 (rdb (p := 0) (i := 8) ch_cX11_learn_0 rfl) (rdb (p := 0) (i := 9) ch_cX11_learn_0 rfl) (rdb (p := 0) (i := 10) ch_cX11_learn_0 rfl) rfl
theorem dX11_learn_11 : decode cX11_learn 11 = .ok (.ifCond .eq 9, 3) := do_153 (rdb (p := 0) (i := 11) ch_cX11_learn_0 rfl) (rdb (p := 0) (i := 12) ch_cX11_learn_0 rfl) (rdb (p := 0) (i := 13) ch_cX11_learn_0 rfl) (by decide +kernel)
theorem dX11_learn_14 : decode cX11_learn 14 = .ok (.iload_n 3, 1) := do_29 (rdb (p := 0) (i := 14) ch_cX11_learn_0 rfl)
theorem dX11_learn_15 : decode cX11_learn 15 = .ok (.bipush (-2), 2) := do_16 (rdb (p := 0) (i := 15) ch_cX11_learn_0 rfl) (rdb (p := 0) (i := 16) ch_cX11_learn_0 rfl) (by decide +kernel)
theorem dX11_learn_17 : decode cX11_learn 17 = .ok (.if_icmp .ge 9, 3) := do_162 (rdb (p := 0) (i := 17) ch_cX11_learn_0 rfl) (rdb (p := 0) (i := 18) ch_cX11_learn_0 rfl) (rdb (p := 0) (i := 19) ch_cX11_learn_0 rfl) (by decide +kernel)
theorem dX11_learn_20 : decode cX11_learn 20 = .ok (.aload_n 0, 1) := do_42 (rdb (p := 0) (i := 20) ch_cX11_learn_0 rfl)
theorem dX11_learn_21 : decode cX11_learn 21 = .ok (.iconst 1, 1) := do_4 (rdb (p := 0) (i := 21) ch_cX11_learn_0 rfl)
theorem dX11_learn_22 : decode cX11_learn 22 = .ok (.invokevirtual 67, 3) := do_182 (rdb (p := 0) (i := 22) ch_cX11_learn_0 rfl) (rdb (p := 0) (i := 23) ch_cX11_learn_0 rfl) (rdb (p := 0) (i := 24) ch_cX11_learn_0 rfl) rfl
theorem dX11_learn_25 : decode cX11_learn 25 = .ok (.ireturn, 1) := do_172 (rdb (p := 0) (i := 25) ch_cX11_learn_0 rfl)
theorem dX11_learn_26 : decode cX11_learn 26 = .ok (.aload_n 0, 1) := do_42 (rdb (p := 0) (i := 26) ch_cX11_learn_0 rfl)
theorem dX11_learn_27 : decode cX11_learn 27 = .ok (.getfield 10, 3) := do_180 (rdb (p := 0) (i := 27) ch_cX11_learn_0 rfl) (rdb (p := 0) (i := 28) ch_cX11_learn_0 rfl) (rdb (p := 0) (i := 29) ch_cX11_learn_0 rfl) rfl
theorem dX11_learn_30 : decode cX11_learn 30 = .ok (.getfield 313, 3) := do_180 (rdb (p := 0) (i := 30) ch_cX11_learn_0 rfl) (rdb (p := 0) (i := 31) ch_cX11_learn_0 rfl) (rdb (p := 0) (i := 32) ch_cX11_learn_0 rfl) rfl
theorem ch_cX11_learn_32 : (cX11_learn.data.toList.drop 32).take 36 = [57, 58, 4, 25, 4, 27, 28, 182, 1, 66, 154, 0, 9, 42, 5, 182, 0, 67, 172, 29, 2, 160, 0, 9, 25, 4, 180, 1, 69, 172, 29, 16, 254, 160, 0, 12] := by decide +kernel
theorem dX11_learn_33 : decode cX11_learn 33 = .ok (.astore 4, 2) := do_58 (rdb (p := 32) (i := 1) ch_cX11_learn_32 rfl) (rdb (p := 32) (i := 2) ch_cX11_learn_32 rfl)
theorem dX11_learn_35 : decode cX11_learn 35 = .ok (.aload 4, 2) := do_25 (rdb (p := 32) (i := 3) ch_cX11_learn_32 rfl) (rdb (p := 32) (i := 4) ch_cX11_learn_32 rfl)
theorem dX11_learn_37 : decode cX11_learn 37 = .ok (.iload_n 1, 1) := do_27 (rdb (p := 32) (i := 5) ch_cX11_learn_32 rfl)
theorem dX11_learn_38 : decode cX11_learn 38 = .ok (.iload_n 2, 1) := do_28 (rdb (p := 32) (i := 6) ch_cX11_learn_32 rfl)
theorem dX11_learn_39 : decode cX11_learn 39 = .ok (.invokevirtual 322, 3) := do_182 (rdb (p := 32) (i := 7) ch_cX11_learn_32 rfl) (rdb (p := 32) (i := 8) ch_cX11_learn_32 rfl) (rdb (p := 32) (i := 9) ch_cX11_learn_32 rfl) rfl
theorem dX11_learn_42 : decode cX11_learn 42 = .ok (.ifCond .ne 9, 3) := do_154 (rdb (p := 32) (i := 10) ch_cX11_learn_32 rfl) (rdb (p := 32) (i := 11) ch_cX11_learn_32 rfl) (rdb (p := 32) (i := 12) ch_cX11_learn_32 rfl) (by decide +kernel)
theorem dX11_learn_45 : decode cX11_learn 45 = .ok (.aload_n 0, 1) := do_42 (rdb (p := 32) (i := 13) ch_cX11_learn_32 rfl)
theorem dX11_learn_46 : decode cX11_learn 46 = .ok (.iconst 2, 1) := do_5 (rdb (p := 32) (i := 14) ch_cX11_learn_32 rfl)
theorem dX11_learn_47 : decode cX11_learn 47 = .ok (.invokevirtual 67, 3) := do_182 (rdb (p := 32) (i := 15) ch_cX11_learn_32 rfl) (rdb (p := 32) (i := 16) ch_cX11_learn_32 rfl) (rdb (p := 32) (i := 17) ch_cX11_learn_32 rfl) rfl
theorem dX11_learn_50 : decode cX11_learn 50 = .ok (.ireturn, 1) := do_172 (rdb (p := 32) (i := 18) ch_cX11_learn_32 rfl)
theorem dX11_learn_51 : decode cX11_learn 51 = .ok (.iload_n 3, 1) := do_29 (rdb (p := 32) (i := 19) ch_cX11_learn_32 rfl)
theorem dX11_learn_52 : decode cX11_learn 52 = .ok (.iconst (-1), 1) := do_2 (rdb (p := 32) (i := 20) ch_cX11_learn_32 rfl)
theorem dX11_learn_53 : decode cX11_learn 53 = .ok (.if_icmp .ne 9, 3) := do_160 (rdb (p := 32) (i := 21) ch_cX11_learn_32 rfl) (rdb (p := 32) (i := 22) ch_cX11_learn_32 rfl) (rdb (p := 32) (i := 23) ch_cX11_learn_32 rfl) (by decide +kernel)
theorem dX11_learn_56 : decode cX11_learn 56 = .ok (.aload 4, 2) := do_25 (rdb (p := 32) (i := 24) ch_cX11_learn_32 rfl) (rdb (p := 32) (i := 25) ch_cX11_learn_32 rfl)
theorem dX11_learn_58 : decode cX11_learn 58 = .ok (.getfield 325, 3) := do_180 (rdb (p := 32) (i := 26) ch_cX11_learn_32 rfl) (rdb (p := 32) (i := 27) ch_cX11_learn_32 rfl) (rdb (p := 32) (i := 28) ch_cX11_learn_32 rfl) rfl
theorem dX11_learn_61 : decode cX11_learn 61 = .ok (.ireturn, 1) := do_172 (rdb (p := 32) (i := 29) ch_cX11_learn_32 rfl)
theorem dX11_learn_62 : decode cX11_learn 62 = .ok (.iload_n 3, 1) := do_29 (rdb (p := 32) (i := 30) ch_cX11_learn_32 rfl)
theorem dX11_learn_63 : decode cX11_learn 63 = .ok (.bipush (-2), 2) := do_16 (rdb (p := 32) (i := 31) ch_cX11_learn_32 rfl) (rdb (p := 32) (i := 32) ch_cX11_learn_32 rfl) (by decide +kernel)
theorem ch_cX11_learn_64 : (cX11_learn.data.toList.drop 64).take 36 = [254, 160, 0, 12, 25, 4, 180, 1, 72, 180, 0, 205, 172, 29, 25, 4, 180, 1, 72, 180, 0, 205, 162, 0, 15, 25, 4, 180, 1, 72, 29, 182, 1, 75, 167, 0] := by decide +kernel
theorem dX11_learn_65 : decode cX11_learn 65 = .ok (.if_icmp .ne 12, 3) := do_160 (rdb (p := 64) (i := 1) ch_cX11_learn_64 rfl) (rdb (p := 64) (i := 2) ch_cX11_learn_64 rfl) (rdb (p := 64) (i := 3) ch_cX11_learn_64 rfl) (by decide +kernel)
theorem dX11_learn_68 : decode cX11_learn 68 = .ok (.aload 4, 2) := do_25 (rdb (p := 64) (i := 4) ch_cX11_learn_64 rfl) (rdb (p := 64) (i := 5) ch_cX11_learn_64 rfl)
theorem dX11_learn_70 : decode cX11_learn 70 = .ok (.getfield 328, 3) := do_180 (rdb (p := 64) (i := 6) ch_cX11_learn_64 rfl) (rdb (p := 64) (i := 7) ch_cX11_learn_64 rfl) (rdb (p := 64) (i := 8) ch_cX11_learn_64 rfl) rfl
theorem dX11_learn_73 : decode cX11_learn 73 = .ok (.getfield 205, 3) := do_180 (rdb (p := 64) (i := 9) ch_cX11_learn_64 rfl) (rdb (p := 64) (i := 10) ch_cX11_learn_64 rfl) (rdb (p := 64) (i := 11) ch_cX11_learn_64 rfl) rfl
theorem dX11_learn_76 : decode cX11_learn 76 = .ok (.ireturn, 1) := do_172 (rdb (p := 64) (i := 12) ch_cX11_learn_64 rfl)
theorem dX11_learn_77 : decode cX11_learn 77 = .ok (.iload_n 3, 1) := do_29 (rdb (p := 64) (i := 13) ch_cX11_learn_64 rfl)
theorem dX11_learn_78 : decode cX11_learn 78 = .ok (.aload 4, 2) := do_25 (rdb (p := 64) (i := 14) ch_cX11_learn_64 rfl) (rdb (p := 64) (i := 15) ch_cX11_learn_64 rfl)
theorem dX11_learn_80 : decode cX11_learn 80 = .ok (.getfield 328, 3) := do_180 (rdb (p := 64) (i := 16) ch_cX11_learn_64 rfl) (rdb (p := 64) (i := 17) ch_cX11_learn_64 rfl) (rdb (p := 64) (i := 18) ch_cX11_learn_64 rfl) rfl
theorem dX11_learn_83 : decode cX11_learn 83 = .ok (.getfield 205, 3) := do_180 (rdb (p := 64) (i := 19) ch_cX11_learn_64 rfl) (rdb (p := 64) (i := 20) ch_cX11_learn_64 rfl) (rdb (p := 64) (i := 21) ch_cX11_learn_64 rfl) rfl
theorem dX11_learn_86 : decode cX11_learn 86 = .ok (.if_icmp .ge 15, 3) := do_162 (rdb (p := 64) (i := 22) ch_cX11_learn_64 rfl) (rdb (p := 64) (i := 23) ch_cX11_learn_64 rfl) (rdb (p := 64) (i := 24) ch_cX11_learn_64 rfl) (by decide +kernel)
theorem dX11_learn_89 : decode cX11_learn 89 = .ok (.aload 4, 2) := do_25 (rdb (p := 64) (i := 25) ch_cX11_learn_64 rfl) (rdb (p := 64) (i := 26) ch_cX11_learn_64 rfl)
theorem dX11_learn_91 : decode cX11_learn 91 = .ok (.getfield 328, 3) := do_180 (rdb (p := 64) (i := 27) ch_cX11_learn_64 rfl) (rdb (p := 64) (i := 28) ch_cX11_learn_64 rfl) (rdb (p := 64) (i := 29) ch_cX11_learn_64 rfl) rfl
theorem dX11_learn_94 : decode cX11_learn 94 = .ok (.iload_n 3, 1) := do_29 (rdb (p := 64) (i := 30) ch_cX11_learn_64 rfl)
theorem dX11_learn_95 : decode cX11_learn 95 = .ok (.invokevirtual 331, 3) := do_182 (rdb (p := 64) (i := 31) ch_cX11_learn_64 rfl) (rdb (p := 64) (i := 32) ch_cX11_learn_64 rfl) (rdb (p := 64) (i := 33) ch_cX11_learn_64 rfl) rfl
theorem ch_cX11_learn_96 : (cX11_learn.data.toList.drop 96).take 36 = [1, 75, 167, 0, 8, 42, 5, 182, 0, 67, 172] := by decide +kernel
theorem dX11_learn_98 : decode cX11_learn 98 = .ok (.goto 8, 3) := do_167 (rdb (p := 96) (i := 2) ch_cX11_learn_96 rfl) (rdb (p := 96) (i := 3) ch_cX11_learn_96 rfl) (rdb (p := 96) (i := 4) ch_cX11_learn_96 rfl) (by decide +kernel)
theorem dX11_learn_101 : decode cX11_learn 101 = .ok (.aload_n 0, 1) := do_42 (rdb (p := 96) (i := 5) ch_cX11_learn_96 rfl)
theorem dX11_learn_102 : decode cX11_learn 102 = .ok (.iconst 2, 1) := do_5 (rdb (p := 96) (i := 6) ch_cX11_learn_96 rfl)
theorem dX11_learn_103 : decode cX11_learn 103 = .ok (.invokevirtual 67, 3) := do_182 (rdb (p := 96) (i := 7) ch_cX11_learn_96 rfl) (rdb (p := 96) (i := 8) ch_cX11_learn_96 rfl) (rdb (p := 96) (i := 9) ch_cX11_learn_96 rfl) rfl
theorem dX11_learn_106 : decode cX11_learn 106 = .ok (.ireturn, 1) := do_172 (rdb (p := 96) (i := 10) ch_cX11_learn_96 rfl)
theorem ch_cX3_findRow_0 : (cX3_findRow.data.toList.drop 0).take 36 = [42, 28, 181, 0, 35, 42, 3, 181, 0, 41, 42, 3, 181, 0, 38, 42, 180, 0, 28, 182, 0, 45, 42, 180, 0, 32, 182, 0, 45, 42, 27, 3, 3, 182, 0, 48] := by decide +kernel
theorem dX3_findRow_0 : decode cX3_findRow 0 = .ok (.aload_n 0, 1) := do_42 (rdb (p := 0) (i := 0) ch_cX3_findRow_0 rfl)
theorem dX3_findRow_1 : decode cX3_findRow 1 = .ok (.iload_n 2, 1) := do_28 (rdb (p := 0) (i := 1) ch_cX3_findRow_0 rfl)
theorem dX3_findRow_2 : decode cX3_findRow 2 = .ok (.putfield 35, 3) := do_181 (rdb (p := 0) (i := 2) ch_cX3_findRow_0 rfl) (rdb (p := 0) (i := 3) ch_cX3_findRow_0 rfl) (rdb (p := 0) (i := 4) ch_cX3_findRow_0 rfl) rfl
theorem dX3_findRow_5 : decode cX3_findRow 5 = .ok (.aload_n 0, 1) := do_42 (rdb (p := 0) (i := 5) ch_cX3_findRow_0 rfl)
theorem dX3_findRow_6 : decode cX3_findRow 6 = .ok (.iconst 0, 1) := do_3 (rdb (p := 0) (i := 6) ch_cX3_findRow_0 rfl)
theorem dX3_findRow_7 : decode cX3_findRow 7 = .ok (.putfield 41, 3) := do_181 (rdb (p := 0) (i := 7) ch_cX3_findRow_0 rfl) (rdb (p := 0) (i := 8) ch_cX3_findRow_0 rfl) (rdb (p := 0) (i := 9) ch_cX3_findRow_0 rfl) rfl
theorem dX3_findRow_10 : decode cX3_findRow 10 = .ok (.aload_n 0, 1) := do_42 (rdb (p := 0) (i := 10) ch_cX3_findRow_0 rfl)
theorem dX3_findRow_11 : decode cX3_findRow 11 = .ok (.iconst 0, 1) := do_3 (rdb (p := 0) (i := 11) ch_cX3_findRow_0 rfl)
theorem dX3_findRow_12 : decode cX3_findRow 12 = .ok (.putfield 38, 3) := do_181 (rdb (p := 0) (i := 12) ch_cX3_findRow_0 rfl) (rdb (p := 0) (i := 13) ch_cX3_findRow_0 rfl) (rdb (p := 0) (i := 14) ch_cX3_findRow_0 rfl) rfl
theorem dX3_findRow_15 : decode cX3_findRow 15 = .ok (.aload_n 0, 1) := do_42 (rdb (p := 0) (i := 15) ch_cX3_findRow_0 rfl)
theorem dX3_findRow_16 : decode cX3_findRow 16 = .ok (.getfield 28, 3) := do_180 (rdb (p := 0) (i := 16) ch_cX3_findRow_0 rfl) (rdb (p := 0) (i := 17) ch_cX3_findRow_0 rfl) (rdb (p := 0) (i := 18) ch_cX3_findRow_0 rfl) rfl
theorem dX3_findRow_19 : decode cX3_findRow 19 = .ok (.invokevirtual 45, 3) := do_182 (rdb (p := 0) (i := 19) ch_cX3_findRow_0 rfl) (rdb (p := 0) (i := 20) ch_cX3_findRow_0 rfl) (rdb (p := 0) (i := 21) ch_cX3_findRow_0 rfl) rfl
theorem dX3_findRow_22 : decode cX3_findRow 22 = .ok (.aload_n 0, 1) := do_42 (rdb (p := 0) (i := 22) ch_cX3_findRow_0 rfl)
theorem dX3_findRow_23 : decode cX3_findRow 23 = .ok (.getfield 32, 3) := do_180 (rdb (p := 0) (i := 23) ch_cX3_findRow_0 rfl) (rdb (p := 0) (i := 24) ch_cX3_findRow_0 rfl) (rdb (p := 0) (i := 25) ch_cX3_findRow_0 rfl) rfl
theorem dX3_findRow_26 : decode cX3_findRow 26 = .ok (.invokevirtual 45, 3) := do_182 (rdb (p := 0) (i := 26) ch_cX3_findRow_0 rfl) (rdb (p := 0) (i := 27) ch_cX3_findRow_0 rfl) (rdb (p := 0) (i := 28) ch_cX3_findRow_0 rfl) rfl
theorem dX3_findRow_29 : decode cX3_findRow 29 = .ok (.aload_n 0, 1) := do_42 (rdb (p := 0) (i := 29) ch_cX3_findRow_0 rfl)
theorem dX3_findRow_30 : decode cX3_findRow 30 = .ok (.iload_n 1, 1) := do_27 (rdb (p := 0) (i := 30) ch_cX3_findRow_0 rfl)
theorem dX3_findRow_31 : decode cX3_findRow 31 = .ok (.iconst 0, 1) := do_3 (rdb (p := 0) (i := 31) ch_cX3_findRow_0 rfl)
theorem ch_cX3_findRow_32 : (cX3_findRow.data.toList.drop 32).take 36 = [3, 182, 0, 48, 42, 180, 0, 41, 172] := by decide +kernel
theorem dX3_findRow_32 : decode cX3_findRow 32 = .ok (.iconst 0, 1) := do_3 (rdb (p := 32) (i := 0) ch_cX3_findRow_32 rfl)
theorem dX3_findRow_33 : decode cX3_findRow 33 = .ok (.invokevirtual 48, 3) := do_182 (rdb (p := 32) (i := 1) ch_cX3_findRow_32 rfl) (rdb (p := 32) (i := 2) ch_cX3_findRow_32 rfl) (rdb (p := 32) (i := 3) ch_cX3_findRow_32 rfl) rfl
theorem dX3_findRow_36 : decode cX3_findRow 36 = .ok (.aload_n 0, 1) := do_42 (rdb (p := 32) (i := 4) ch_cX3_findRow_32 rfl)
theorem dX3_findRow_37 : decode cX3_findRow 37 = .ok (.getfield 41, 3) := do_180 (rdb (p := 32) (i := 5) ch_cX3_findRow_32 rfl) (rdb (p := 32) (i := 6) ch_cX3_findRow_32 rfl) (rdb (p := 32) (i := 7) ch_cX3_findRow_32 rfl) rfl
theorem dX3_findRow_40 : decode cX3_findRow 40 = .ok (.ireturn, 1) := do_172 (rdb (p := 32) (i := 8) ch_cX3_findRow_32 rfl)
end
section
def S_c_X3_findRow (b : Nat) : rf → Nat → Prop := fun c k => (c.1 = 3 ∧ c.2.1 = b ∧ k = 6) ∨ (c.1 = 3 ∧ c.2.1 = b ∧ k = 8) ∨ (c.1 = 3 ∧ c.2.1 = b ∧ k = 7) ∨ (c.1 = 5 ∧ c.2.1 = b ∧ c.2.2 = 2 ∧ k = 1) ∨ (c.1 = 5 ∧ c.2.1 = b ∧ c.2.2 = 3 ∧ k = 1) ∨ (c.1 = 33 ∧ c.2.1 = b ∧ c.2.2 = 3) ∨ (c.1 = 33 ∧ c.2.1 = b ∧ c.2.2 = 2) ∨ False
def SP_X3_findRow (b : Nat) (v : Int32) (u : Int32) (Mz : mM) (r_ : Int32) (M_ : mM) : Prop := ∃ M1_ : mM, (M1_ = up Mz (3, b, 0) 6 u) ∧ ∃ M5_ : mM, (M5_ = up M1_ (3, b, 0) 8 0) ∧ ∃ M9_ : mM, (M9_ = up M5_ (3, b, 0) 7 0) ∧ (Inv M9_) ∧ ∃ M13_ : mM, (Inv M13_) ∧ (FR (S_c_X5_clear2 b) M9_ M13_) ∧ (SP_X5_clear2 b M9_ M13_) ∧ ((M13_.1 (5, b, 2) 1).toInt = 0) ∧ ∃ M20_ : mM, (Inv M20_) ∧ (FR (S_c_X5_clear b 3) M13_ M20_) ∧ (SP_X5_clear b 3 M13_ M20_) ∧ ∃ M28_ : mM, (Inv M28_) ∧ (FR (S_try b) M20_ M28_) ∧ (SP_X3_try7 b v 0 0 M20_ M28_) ∧ ∃ z35_ : Int32, (z35_ = M28_.1 (3, b, 0) 8) ∧ (0 ≤ z35_.toInt ∧ z35_.toInt ≤ 1) ∧ r_ = z35_ ∧ M_ = M28_
theorem lf_c_X3_findRow_0 (M1_ : mM) (M5_ : mM) (M9_ : mM) (Mz : mM) (b : Nat) (u : Int32) (hb : b < 3) (hM2_ : M1_ = up Mz (3, b, 0) 6 u) (hM6_ : M5_ = up M1_ (3, b, 0) 8 0) (hM10_ : M9_ = up M5_ (3, b, 0) 7 0) : vRw b 2 := by have r_u := rngI u; unfold vRw; omega
theorem lf_c_X3_findRow_1 (M13_ : mM) (M1_ : mM) (M5_ : mM) (M9_ : mM) (Mz : mM) (b : Nat) (u : Int32) (hb : b < 3) (hM2_ : M1_ = up Mz (3, b, 0) 6 u) (hM6_ : M5_ = up M1_ (3, b, 0) 8 0) (hM10_ : M9_ = up M5_ (3, b, 0) 7 0) (h15_ : (M13_.1 (5, b, 2) 1).toInt = 0) : vRw b 3 := by have r_u := rngI u; unfold vRw; omega
set_option maxHeartbeats 4000000 in
set_option maxRecDepth 100000 in
theorem c_X3_findRow (l : Launch) (G : va_G) (cy : Nat → ClassId) (ad : rf → Nat) (d : Nat) (b : Nat) (v : Int32) (u : Int32) (Mz : mM) (hIz : Inv Mz) (hb : b < 3) : WP CC l G cy ad yX3_findRow cX3_findRow 3 (some .boolean) (d + 17) 0 [(0, vR (3, b, 0)), (1, vI v), (2, vI u)] [] Mz (fun r M' => Inv M' ∧ FR (S_c_X3_findRow b) Mz M' ∧ ((0 ≤ r.toInt ∧ r.toInt ≤ 1)) ∧ SP_X3_findRow b v u Mz r M') := by
  have hFz : FR (S_c_X3_findRow b) Mz Mz := FR.self
  refine w_aload_n dX3_findRow_0 rfl 0 rfl ?_
  refine w_iload_n dX3_findRow_1 rfl 2 rfl ?_
  refine w_putI CC_nd fl_RX3_35 rfl rfl (ic_3 hb) dX3_findRow_2 (fun M1_ hM2_ => ?_)
  have hI3_ := hIz.put hM2_ (fun h => absurd h (by decide))
  have hF4_ := hFz.put hM2_ (Or.inl ⟨rfl, rfl, rfl⟩)
  refine w_aload_n dX3_findRow_5 rfl 0 rfl ?_
  refine w_iconst (v := 0) dX3_findRow_6 (by decide) ?_
  refine w_putZ CC_nd fl_RX3_41 rfl rfl (ic_3 hb) ⟨by decide, by decide⟩ dX3_findRow_7 (fun M5_ hM6_ => ?_)
  have hI7_ := hI3_.put hM6_ (fun _ => ⟨by decide, by decide⟩)
  have hF8_ := hF4_.put hM6_ (Or.inr (Or.inl ⟨rfl, rfl, rfl⟩))
  refine w_aload_n dX3_findRow_10 rfl 0 rfl ?_
  refine w_iconst (v := 0) dX3_findRow_11 (by decide) ?_
  refine w_putI CC_nd fl_RX3_38 rfl rfl (ic_3 hb) dX3_findRow_12 (fun M9_ hM10_ => ?_)
  have hI11_ := hI7_.put hM10_ (fun h => absurd h (by decide))
  have hF12_ := hF8_.put hM10_ (Or.inr (Or.inr (Or.inl ⟨rfl, rfl, rfl⟩)))
  refine w_aload_n dX3_findRow_15 rfl 0 rfl ?_
  refine w_getR (c' := (5, b, 2)) fl_RX3_28 rfl rfl (ic_3 hb) dX3_findRow_16 rfl ?_
  refine w_callVv (as := []) (rest := []) (c_X5_clear2 l G cy ad (d + 16) b M9_ hI11_ hb) kV_X5_clear pnn_2 (Nat.le_of_ble_eq_true rfl) m_1133 rfl rfl rfl (ic_5 (lf_c_X3_findRow_0 M1_ M5_ M9_ Mz b u hb hM2_ hM6_ hM10_ )) rfl rfl (by decide) (Nat.le_of_ble_eq_true rfl) dX3_findRow_19 (fun M13_ q14_ => ?_)
  obtain ⟨hI16_, hF17_, h15_, hs19_⟩ := q14_
  have hF18_ := hF12_.tr hF17_ (fun c k => (fun h => h.elim (fun h => (Or.inr (Or.inr (Or.inr (Or.inl ⟨h.1, h.2.1, h.2.2.1, h.2.2.2⟩))))) (fun h => h.elim)))
  refine w_aload_n dX3_findRow_22 rfl 0 rfl ?_
  refine w_getR (c' := (5, b, 3)) fl_RX3_32 rfl rfl (ic_3 hb) dX3_findRow_23 rfl ?_
  refine w_callVv (as := []) (rest := []) (c_X5_clear l G cy ad (d + 16) b 3 M13_ hI16_ (lf_c_X3_findRow_1 M13_ M1_ M5_ M9_ Mz b u hb hM2_ hM6_ hM10_ h15_ )) kV_X5_clear pnn_2 (Nat.le_of_ble_eq_true rfl) m_1133 rfl rfl rfl (ic_5 (lf_c_X3_findRow_1 M13_ M1_ M5_ M9_ Mz b u hb hM2_ hM6_ hM10_ h15_ )) rfl rfl (by decide) (Nat.le_of_ble_eq_true rfl) dX3_findRow_26 (fun M20_ q21_ => ?_)
  obtain ⟨hI23_, hF24_, h22_, hs26_⟩ := q21_
  have hF25_ := hF18_.tr hF24_ (fun c k => (fun h => h.elim (fun h => (Or.inr (Or.inr (Or.inr (Or.inr (Or.inl ⟨h.1, h.2.1, h.2.2.1, h.2.2.2⟩)))))) (fun h => h.elim)))
  have kf27_ : (M20_.1 (5, b, 2) 1).toInt = 0 := by rw [(hF24_ (5, b, 2) 1 (by simp [S_c_X5_clear]))]; exact h15_
  refine w_aload_n dX3_findRow_29 rfl 0 rfl ?_
  refine w_iload_n dX3_findRow_30 rfl 1 rfl ?_
  refine w_iconst (v := 0) dX3_findRow_31 (by decide) ?_
  refine w_iconst (v := 0) dX3_findRow_32 (by decide) ?_
  refine w_callVv (as := [vI v, vI 0, vI 0]) (rest := []) (c_X3_try7 l G cy ad d b v 0 0 M20_ hI23_ hb kf27_) kV_X3_tryRows pnn_8 (Nat.le_of_ble_eq_true rfl) m_1134 rfl rfl rfl (ic_3 hb) rfl rfl (by decide) (Nat.le_of_ble_eq_true rfl) dX3_findRow_33 (fun M28_ q29_ => ?_)
  obtain ⟨hI31_, hF32_, h30_, hs34_⟩ := q29_
  have hF33_ := hF25_.tr hF32_ (fun c k => (fun h => h.elim (fun h => (Or.inr (Or.inr (Or.inl ⟨h.1, h.2.1, h.2.2⟩)))) (fun h => h.elim (fun h => (Or.inr (Or.inl ⟨h.1, h.2.1, h.2.2⟩))) (fun h => h.elim (fun h => (Or.inr (Or.inr (Or.inr (Or.inr (Or.inl ⟨h.1, h.2.1, h.2.2.1, h.2.2.2⟩)))))) (fun h => h.elim (fun h => (Or.inr (Or.inr (Or.inr (Or.inr (Or.inr (Or.inl ⟨h.1, h.2.1, h.2.2⟩))))))) (fun h => h.elim (fun h => (Or.inr (Or.inr (Or.inr (Or.inl ⟨h.1, h.2.1, h.2.2.1, h.2.2.2⟩))))) (fun h => h.elim (fun h => (Or.inr (Or.inr (Or.inr (Or.inr (Or.inr (Or.inr (Or.inl ⟨h.1, h.2.1, h.2.2⟩)))))))) (fun h => h.elim))))))))
  refine w_aload_n dX3_findRow_36 rfl 0 rfl ?_
  refine w_getI fl_RX3_41 rfl rfl (ic_3 hb) dX3_findRow_37 (fun z35_ e36_ => ?_)
  have h37_ : 0 ≤ z35_.toInt ∧ z35_.toInt ≤ 1 := ofEq (P := fun v => 0 ≤ v.toInt ∧ v.toInt ≤ 1) e36_ (hI31_ (3, b, 0) 8 rfl)
  exact w_zret rfl dX3_findRow_40 h37_ ⟨hI31_, hF33_, h37_, ⟨M1_, hM2_, M5_, hM6_, M9_, hM10_, hI11_, M13_, hI16_, hF17_, hs19_, h15_, M20_, hI23_, hF24_, hs26_, M28_, hI31_, hF32_, hs34_, z35_, e36_, h37_, rfl, rfl⟩⟩
def S_c_X11_learn : rf → Nat → Prop := fun c k => (c.1 = 3 ∧ c.2.1 = 0 ∧ k = 6) ∨ (c.1 = 3 ∧ c.2.1 = 0 ∧ k = 8) ∨ (c.1 = 3 ∧ c.2.1 = 0 ∧ k = 7) ∨ (c.1 = 5 ∧ c.2.1 = 0 ∧ c.2.2 = 2 ∧ k = 1) ∨ (c.1 = 5 ∧ c.2.1 = 0 ∧ c.2.2 = 3 ∧ k = 1) ∨ (c.1 = 33 ∧ c.2.1 = 0 ∧ c.2.2 = 3) ∨ (c.1 = 33 ∧ c.2.1 = 0 ∧ c.2.2 = 2) ∨ (c.1 = 44 ∧ c.2.1 = 0) ∨ False
def SP_X11_learn (v : Int32) (u : Int32) (t : Int32) (Mz : mM) (r_ : Int32) (M_ : mM) : Prop := (((SP_X11_isBits v Mz (1 : Int32)) ∧ (0 ≤ v.toInt ∧ v.toInt ≤ 31) ∧ (((SP_X11_isBits u Mz (1 : Int32)) ∧ (0 ≤ u.toInt ∧ u.toInt ≤ 31) ∧ (((-2 ≤ t.toInt) ∧ ∃ M15_ : mM, (Inv M15_) ∧ (FR (S_c_X3_findRow 0) Mz M15_) ∧ ∃ r14_ : Int32, (SP_X3_findRow 0 v u Mz r14_ M15_) ∧ ((0 ≤ r14_.toInt ∧ r14_.toInt ≤ 1)) ∧ (((¬ r14_.toInt = 0) ∧ (((¬ t.toInt = -1) ∧ (((¬ t.toInt = -2) ∧ ∃ z25_ : Int32, (z25_ = M15_.1 (5, 0, 3) 1) ∧ (((z25_.toInt ≤ t.toInt) ∧ ∃ M29_ : mM, (Inv M29_) ∧ (FR (S_c_X11_error) M15_ M29_) ∧ ∃ r28_ : Int32, (SP_X11_error 2 M15_ r28_ M29_) ∧ r_ = r28_ ∧ M_ = M29_) ∨ ((t.toInt < z25_.toInt) ∧ ∃ r36_ : Int32, (SP_X5_get 0 3 t M15_ r36_) ∧ r_ = r36_ ∧ M_ = M15_))) ∨ ((t.toInt = -2) ∧ ∃ z41_ : Int32, (z41_ = M15_.1 (5, 0, 3) 1) ∧ r_ = z41_ ∧ M_ = M15_))) ∨ ((t.toInt = -1) ∧ ∃ z43_ : Int32, (z43_ = M15_.1 (3, 0, 0) 7) ∧ r_ = z43_ ∧ M_ = M15_))) ∨ ((r14_.toInt = 0) ∧ ∃ M46_ : mM, (Inv M46_) ∧ (FR (S_c_X11_error) M15_ M46_) ∧ ∃ r45_ : Int32, (SP_X11_error 2 M15_ r45_ M46_) ∧ r_ = r45_ ∧ M_ = M46_))) ∨ ((t.toInt < -2) ∧ ∃ M54_ : mM, (Inv M54_) ∧ (FR (S_c_X11_error) Mz M54_) ∧ ∃ r53_ : Int32, (SP_X11_error 1 Mz r53_ M54_) ∧ r_ = r53_ ∧ M_ = M54_))) ∨ ((SP_X11_isBits u Mz (0 : Int32)) ∧ (¬ (0 ≤ u.toInt ∧ u.toInt ≤ 31)) ∧ ∃ M63_ : mM, (Inv M63_) ∧ (FR (S_c_X11_error) Mz M63_) ∧ ∃ r62_ : Int32, (SP_X11_error 1 Mz r62_ M63_) ∧ r_ = r62_ ∧ M_ = M63_))) ∨ ((SP_X11_isBits v Mz (0 : Int32)) ∧ (¬ (0 ≤ v.toInt ∧ v.toInt ≤ 31)) ∧ ∃ M72_ : mM, (Inv M72_) ∧ (FR (S_c_X11_error) Mz M72_) ∧ ∃ r71_ : Int32, (SP_X11_error 1 Mz r71_ M72_) ∧ r_ = r71_ ∧ M_ = M72_))
set_option maxHeartbeats 4000000 in
set_option maxRecDepth 100000 in
theorem c_X11_learn (l : Launch) (G : va_G) (cy : Nat → ClassId) (ad : rf → Nat) (d : Nat) (v : Int32) (u : Int32) (t : Int32) (Mz : mM) (hIz : Inv Mz) : WP CC l G cy ad yX11_learn cX11_learn 5 (some .int) (d + 18) 0 [(0, vR (11, 0, 0)), (1, vI v), (2, vI u), (3, vI t)] [] Mz (fun r M' => Inv M' ∧ FR (S_c_X11_learn) Mz M' ∧ (True) ∧ SP_X11_learn v u t Mz r M') := by
  have hFz : FR (S_c_X11_learn) Mz Mz := FR.self
  refine w_iload_n dX11_learn_0 rfl 1 rfl ?_
  refine w_callS (as := [vI v]) (rest := []) (c_X11_isBits l G cy ad (d + 16) v Mz hIz) kS_X11_isBits pnn_0 (Nat.le_of_ble_eq_true rfl) m_1114 rfl rfl (by decide) (Nat.le_of_ble_eq_true rfl) dX11_learn_1 (fun r1_ M2_ q3_ => ?_)
  obtain ⟨rfl, h4_, hs5_⟩ := q3_
  rcases h4_ with ⟨rfl, h4_⟩ | ⟨rfl, h4_⟩
  · refine w_if_eq (tgt := 20) dX11_learn_4 (by decide) li_1 (fun h9 => (absurd h9 (by decide))) (fun h6_ => ?_)
    refine w_iload_n dX11_learn_7 rfl 2 rfl ?_
    refine w_callS (as := [vI u]) (rest := []) (c_X11_isBits l G cy ad (d + 16) u Mz hIz) kS_X11_isBits pnn_0 (Nat.le_of_ble_eq_true rfl) m_1114 rfl rfl (by decide) (Nat.le_of_ble_eq_true rfl) dX11_learn_8 (fun r7_ M8_ q9_ => ?_)
    obtain ⟨rfl, h10_, hs11_⟩ := q9_
    rcases h10_ with ⟨rfl, h10_⟩ | ⟨rfl, h10_⟩
    · refine w_if_eq (tgt := 20) dX11_learn_11 (by decide) li_1 (fun h9 => (absurd h9 (by decide))) (fun h12_ => ?_)
      refine w_iload_n dX11_learn_14 rfl 3 rfl ?_
      refine w_bipush (v := (-2)) dX11_learn_15 (by decide) ?_
      refine w_icmp_ge (tgt := 26) dX11_learn_17 (by decide) (rfl : t.toInt = t.toInt) li_m2 (fun h13_ => ?_) (fun h13_ => ?_)
      · refine w_aload_n dX11_learn_26 rfl 0 rfl ?_
        refine w_getR (c' := (10, 0, 0)) fl_RX11_10 rfl rfl ic_11 dX11_learn_27 rfl ?_
        refine w_getR (c' := (3, 0, 0)) fl_RX11_313 rfl rfl (ic_10 (by decide)) dX11_learn_30 rfl ?_
        refine w_astore (ls' := [(4, vR (3, 0, 0)), (0, vR (11, 0, 0)), (1, vI v), (2, vI u), (3, vI t)]) dX11_learn_33 (by decide) rfl ?_
        refine w_aload dX11_learn_35 0 rfl ?_
        refine w_iload_n dX11_learn_37 rfl 2 rfl ?_
        refine w_iload_n dX11_learn_38 rfl 3 rfl ?_
        refine w_callV (as := [vI v, vI u]) (rest := []) (c_X3_findRow l G cy ad d 0 v u Mz hIz (by first | decide | (unfold vF; omega) | (unfold vRw; omega))) kV_X3_findRow pnn_8 (Nat.le_of_ble_eq_true rfl) m_1129 rfl rfl rfl (ic_3 (by decide)) rfl rfl (by decide) (Nat.le_of_ble_eq_true rfl) dX11_learn_39 (fun r14_ M15_ q16_ => ?_)
        obtain ⟨hI18_, hF19_, h17_, hs21_⟩ := q16_
        have hF20_ := hFz.tr hF19_ (fun c k => (fun h => h.elim (fun h => (Or.inl ⟨h.1, h.2.1, h.2.2⟩)) (fun h => h.elim (fun h => (Or.inr (Or.inl ⟨h.1, h.2.1, h.2.2⟩))) (fun h => h.elim (fun h => (Or.inr (Or.inr (Or.inl ⟨h.1, h.2.1, h.2.2⟩)))) (fun h => h.elim (fun h => (Or.inr (Or.inr (Or.inr (Or.inl ⟨h.1, h.2.1, h.2.2.1, h.2.2.2⟩))))) (fun h => h.elim (fun h => (Or.inr (Or.inr (Or.inr (Or.inr (Or.inl ⟨h.1, h.2.1, h.2.2.1, h.2.2.2⟩)))))) (fun h => h.elim (fun h => (Or.inr (Or.inr (Or.inr (Or.inr (Or.inr (Or.inl ⟨h.1, h.2.1, h.2.2⟩))))))) (fun h => h.elim (fun h => (Or.inr (Or.inr (Or.inr (Or.inr (Or.inr (Or.inr (Or.inl ⟨h.1, h.2.1, h.2.2⟩)))))))) (fun h => h.elim)))))))))
        refine w_if_ne (tgt := 51) dX11_learn_42 (by decide) (rfl : r14_.toInt = r14_.toInt) (fun h22_ => ?_) (fun h22_ => ?_)
        · refine w_iload_n dX11_learn_51 rfl 4 rfl ?_
          refine w_iconst (v := (-1)) dX11_learn_52 (by decide) ?_
          refine w_icmp_ne (tgt := 62) dX11_learn_53 (by decide) (rfl : t.toInt = t.toInt) li_m1 (fun h23_ => ?_) (fun h23_ => ?_)
          · refine w_iload_n dX11_learn_62 rfl 4 rfl ?_
            refine w_bipush (v := (-2)) dX11_learn_63 (by decide) ?_
            refine w_icmp_ne (tgt := 77) dX11_learn_65 (by decide) (rfl : t.toInt = t.toInt) li_m2 (fun h24_ => ?_) (fun h24_ => ?_)
            · refine w_iload_n dX11_learn_77 rfl 4 rfl ?_
              refine w_aload dX11_learn_78 0 rfl ?_
              refine w_getR (c' := (5, 0, 3)) fl_RX11_328 rfl rfl (ic_3 (by decide)) dX11_learn_80 rfl ?_
              refine w_getI fl_RX11_205 rfl rfl (ic_5 (by unfold vRw; omega)) dX11_learn_83 (fun z25_ e26_ => ?_)
              refine w_icmp_ge (tgt := 101) dX11_learn_86 (by decide) (rfl : t.toInt = t.toInt) (rfl : z25_.toInt = z25_.toInt) (fun h27_ => ?_) (fun h27_ => ?_)
              · refine w_aload_n dX11_learn_101 rfl 1 rfl ?_
                refine w_iconst (v := 2) dX11_learn_102 (by decide) ?_
                refine w_callV (as := [vI 2]) (rest := []) (c_X11_error l G cy ad (d + 17) 2 M15_ hI18_) kV_X11_error pnn_0 (Nat.le_of_ble_eq_true rfl) m_500 rfl rfl rfl ic_11 rfl rfl (by decide) (Nat.le_of_ble_eq_true rfl) dX11_learn_103 (fun r28_ M29_ q30_ => ?_)
                obtain ⟨hI32_, hF33_, h31_, hs35_⟩ := q30_
                have hF34_ := hF20_.tr hF33_ (fun c k => (fun h => h.elim (fun h => (Or.inr (Or.inr (Or.inr (Or.inr (Or.inr (Or.inr (Or.inr (Or.inl ⟨h.1, h.2⟩))))))))) (fun h => h.elim)))
                exact w_iret rfl dX11_learn_106 ⟨hI32_, hF34_, trivial, (Or.inl ⟨hs5_, h4_, (Or.inl ⟨hs11_, h10_, (Or.inl ⟨h13_, M15_, hI18_, hF19_, r14_, hs21_, h17_, (Or.inl ⟨h22_, (Or.inl ⟨h23_, (Or.inl ⟨h24_, z25_, e26_, (Or.inl ⟨h27_, M29_, hI32_, hF33_, r28_, hs35_, rfl, rfl⟩)⟩)⟩)⟩)⟩)⟩)⟩)⟩
              · refine w_aload dX11_learn_89 0 rfl ?_
                refine w_getR (c' := (5, 0, 3)) fl_RX11_328 rfl rfl (ic_3 (by decide)) dX11_learn_91 rfl ?_
                refine w_iload_n dX11_learn_94 rfl 4 rfl ?_
                refine w_callV (as := [vI t]) (rest := []) (c_X5_get l G cy ad (d + 17) 0 3 t M15_ hI18_ (by first | decide | (unfold vF; omega) | (unfold vRw; omega))) kV_X5_get pnn_2 (Nat.le_of_ble_eq_true rfl) m_1154 rfl rfl rfl (ic_5 (by unfold vRw; omega)) rfl rfl (by decide) (Nat.le_of_ble_eq_true rfl) dX11_learn_95 (fun r36_ M37_ q38_ => ?_)
                obtain ⟨rfl, h39_, hs40_⟩ := q38_
                refine w_goto (tgt := 106) dX11_learn_98 (by decide) ?_
                exact w_iret rfl dX11_learn_106 ⟨hI18_, hF20_, trivial, (Or.inl ⟨hs5_, h4_, (Or.inl ⟨hs11_, h10_, (Or.inl ⟨h13_, M15_, hI18_, hF19_, r14_, hs21_, h17_, (Or.inl ⟨h22_, (Or.inl ⟨h23_, (Or.inl ⟨h24_, z25_, e26_, (Or.inr ⟨h27_, r36_, hs40_, rfl, rfl⟩)⟩)⟩)⟩)⟩)⟩)⟩)⟩
            · refine w_aload dX11_learn_68 0 rfl ?_
              refine w_getR (c' := (5, 0, 3)) fl_RX11_328 rfl rfl (ic_3 (by decide)) dX11_learn_70 rfl ?_
              refine w_getI fl_RX11_205 rfl rfl (ic_5 (by unfold vRw; omega)) dX11_learn_73 (fun z41_ e42_ => ?_)
              exact w_iret rfl dX11_learn_76 ⟨hI18_, hF20_, trivial, (Or.inl ⟨hs5_, h4_, (Or.inl ⟨hs11_, h10_, (Or.inl ⟨h13_, M15_, hI18_, hF19_, r14_, hs21_, h17_, (Or.inl ⟨h22_, (Or.inl ⟨h23_, (Or.inr ⟨h24_, z41_, e42_, rfl, rfl⟩)⟩)⟩)⟩)⟩)⟩)⟩
          · refine w_aload dX11_learn_56 0 rfl ?_
            refine w_getI fl_RX11_325 rfl rfl (ic_3 (by decide)) dX11_learn_58 (fun z43_ e44_ => ?_)
            exact w_iret rfl dX11_learn_61 ⟨hI18_, hF20_, trivial, (Or.inl ⟨hs5_, h4_, (Or.inl ⟨hs11_, h10_, (Or.inl ⟨h13_, M15_, hI18_, hF19_, r14_, hs21_, h17_, (Or.inl ⟨h22_, (Or.inr ⟨h23_, z43_, e44_, rfl, rfl⟩)⟩)⟩)⟩)⟩)⟩
        · refine w_aload_n dX11_learn_45 rfl 1 rfl ?_
          refine w_iconst (v := 2) dX11_learn_46 (by decide) ?_
          refine w_callV (as := [vI 2]) (rest := []) (c_X11_error l G cy ad (d + 17) 2 M15_ hI18_) kV_X11_error pnn_0 (Nat.le_of_ble_eq_true rfl) m_500 rfl rfl rfl ic_11 rfl rfl (by decide) (Nat.le_of_ble_eq_true rfl) dX11_learn_47 (fun r45_ M46_ q47_ => ?_)
          obtain ⟨hI49_, hF50_, h48_, hs52_⟩ := q47_
          have hF51_ := hF20_.tr hF50_ (fun c k => (fun h => h.elim (fun h => (Or.inr (Or.inr (Or.inr (Or.inr (Or.inr (Or.inr (Or.inr (Or.inl ⟨h.1, h.2⟩))))))))) (fun h => h.elim)))
          exact w_iret rfl dX11_learn_50 ⟨hI49_, hF51_, trivial, (Or.inl ⟨hs5_, h4_, (Or.inl ⟨hs11_, h10_, (Or.inl ⟨h13_, M15_, hI18_, hF19_, r14_, hs21_, h17_, (Or.inr ⟨h22_, M46_, hI49_, hF50_, r45_, hs52_, rfl, rfl⟩)⟩)⟩)⟩)⟩
      · refine w_aload_n dX11_learn_20 rfl 0 rfl ?_
        refine w_iconst (v := 1) dX11_learn_21 (by decide) ?_
        refine w_callV (as := [vI 1]) (rest := []) (c_X11_error l G cy ad (d + 17) 1 Mz hIz) kV_X11_error pnn_0 (Nat.le_of_ble_eq_true rfl) m_500 rfl rfl rfl ic_11 rfl rfl (by decide) (Nat.le_of_ble_eq_true rfl) dX11_learn_22 (fun r53_ M54_ q55_ => ?_)
        obtain ⟨hI57_, hF58_, h56_, hs60_⟩ := q55_
        have hF59_ := hFz.tr hF58_ (fun c k => (fun h => h.elim (fun h => (Or.inr (Or.inr (Or.inr (Or.inr (Or.inr (Or.inr (Or.inr (Or.inl ⟨h.1, h.2⟩))))))))) (fun h => h.elim)))
        exact w_iret rfl dX11_learn_25 ⟨hI57_, hF59_, trivial, (Or.inl ⟨hs5_, h4_, (Or.inl ⟨hs11_, h10_, (Or.inr ⟨h13_, M54_, hI57_, hF58_, r53_, hs60_, rfl, rfl⟩)⟩)⟩)⟩
    · refine w_if_eq (tgt := 20) dX11_learn_11 (by decide) li_0 (fun h61_ => ?_) (fun h9 => (absurd h9 (by decide)))
      refine w_aload_n dX11_learn_20 rfl 0 rfl ?_
      refine w_iconst (v := 1) dX11_learn_21 (by decide) ?_
      refine w_callV (as := [vI 1]) (rest := []) (c_X11_error l G cy ad (d + 17) 1 Mz hIz) kV_X11_error pnn_0 (Nat.le_of_ble_eq_true rfl) m_500 rfl rfl rfl ic_11 rfl rfl (by decide) (Nat.le_of_ble_eq_true rfl) dX11_learn_22 (fun r62_ M63_ q64_ => ?_)
      obtain ⟨hI66_, hF67_, h65_, hs69_⟩ := q64_
      have hF68_ := hFz.tr hF67_ (fun c k => (fun h => h.elim (fun h => (Or.inr (Or.inr (Or.inr (Or.inr (Or.inr (Or.inr (Or.inr (Or.inl ⟨h.1, h.2⟩))))))))) (fun h => h.elim)))
      exact w_iret rfl dX11_learn_25 ⟨hI66_, hF68_, trivial, (Or.inl ⟨hs5_, h4_, (Or.inr ⟨hs11_, h10_, M63_, hI66_, hF67_, r62_, hs69_, rfl, rfl⟩)⟩)⟩
  · refine w_if_eq (tgt := 20) dX11_learn_4 (by decide) li_0 (fun h70_ => ?_) (fun h9 => (absurd h9 (by decide)))
    refine w_aload_n dX11_learn_20 rfl 0 rfl ?_
    refine w_iconst (v := 1) dX11_learn_21 (by decide) ?_
    refine w_callV (as := [vI 1]) (rest := []) (c_X11_error l G cy ad (d + 17) 1 Mz hIz) kV_X11_error pnn_0 (Nat.le_of_ble_eq_true rfl) m_500 rfl rfl rfl ic_11 rfl rfl (by decide) (Nat.le_of_ble_eq_true rfl) dX11_learn_22 (fun r71_ M72_ q73_ => ?_)
    obtain ⟨hI75_, hF76_, h74_, hs78_⟩ := q73_
    have hF77_ := hFz.tr hF76_ (fun c k => (fun h => h.elim (fun h => (Or.inr (Or.inr (Or.inr (Or.inr (Or.inr (Or.inr (Or.inr (Or.inl ⟨h.1, h.2⟩))))))))) (fun h => h.elim)))
    exact w_iret rfl dX11_learn_25 ⟨hI75_, hF77_, trivial, (Or.inr ⟨hs5_, h4_, M72_, hI75_, hF76_, r71_, hs78_, rfl, rfl⟩)⟩
end
section
/-! members of String and StringLatin1 over constants: rows -/
def yS_indexOf : MethodName := ⟨"java/lang/String", "indexOf", "(I)I"⟩
def yS_indexOf2 : MethodName := ⟨"java/lang/String", "indexOf", "(II)I"⟩
def yS_length : MethodName := ⟨"java/lang/String", "length", "()I"⟩
def yS_coder : MethodName := ⟨"java/lang/String", "coder", "()B"⟩
def yS_isLatin1 : MethodName := ⟨"java/lang/String", "isLatin1", "()Z"⟩
def yS_charAt : MethodName := ⟨"java/lang/String", "charAt", "(I)C"⟩
def yS_checkIndex : MethodName := ⟨"java/lang/String", "checkIndex", "(II)V"⟩
def ySL_charAt : MethodName := ⟨"java/lang/StringLatin1", "charAt", "([BI)C"⟩
def ySL_indexOf : MethodName := ⟨"java/lang/StringLatin1", "indexOf", "([BIII)I"⟩
def ySL_indexOfChar : MethodName := ⟨"java/lang/StringLatin1", "indexOfChar", "([BIII)I"⟩
def ySL_canEncode : MethodName := ⟨"java/lang/StringLatin1", "canEncode", "(I)Z"⟩
def yP_checkIndex : MethodName := ⟨"jdk/internal/util/Preconditions", "checkIndex", "(IILjava/util/function/BiFunction;)I"⟩
abbrev cS_indexOf : ByteArray := prog_19_method_79_code
abbrev cS_indexOf2 : ByteArray := prog_19_method_80_code
abbrev cS_length : ByteArray := prog_19_method_54_code
abbrev cS_coder : ByteArray := prog_19_method_152_code
abbrev cS_isLatin1 : ByteArray := prog_19_method_154_code
abbrev cS_charAt : ByteArray := prog_19_method_56_code
abbrev cS_checkIndex : ByteArray := prog_19_method_155_code
abbrev cSL_charAt : ByteArray := prog_20_method_2_code
abbrev cSL_indexOf : ByteArray := prog_20_method_22_code
abbrev cSL_indexOfChar : ByteArray := prog_20_method_23_code
abbrev cSL_canEncode : ByteArray := prog_20_method_4_code
abbrev cP_checkIndex : ByteArray := prog_23_method_11_code
theorem nar_c (x : Int32) : narrow .char (.int ((x.toUInt32 % 65536).toInt32)) = .int ((x.toUInt32 % 65536).toInt32) := by
  simp [narrow, Lib.u32_mod_mod]
section WPSTR
variable {cls : List rf} {l : Launch} {G : va_G} {cy : Nat → ClassId} {ad : rf → Nat} {y : MethodName} {b : ByteArray} {n : Nat} {r : Option FieldType} {d : Nat} {pc : Nat} {ls : List (Nat × mV)} {st : List mV} {M : mM} {Q : Int32 → mM → Prop}
theorem w_getSv {k idx : Nat} {bs : List Int32} (hk : SBs[k]? = some bs) (hw : Cond.fieldLink y.cls idx "java/lang/String" "value" "[B" ∈ BASE) (hd : decode b pc = .ok (.getfield idx, 3)) (kk : WP cls l G cy ad y b n r d (pc + 3) ls (vR (90, 10 + k, 0) :: st) M Q) : WP cls l G cy ad y b n r d pc ls (vR (91, k, 0) :: st) M Q := by
  intro p e s m args below meth c A X lsA H locs hl hP hS
  have kk := kk p e s m args below meth c A X lsA H locs hl hP hS
  obtain ⟨hx1, hb, hr, hml, hts, hown, hlk, hE, hT, hA⟩ := X
  exact vk_getf hx1 hb (hT.2.2.1 k _ hk).2.2.1 hS hown (hts _ hw) (fun _ h9 => h9) hd kk
theorem w_getSc {k idx : Nat} {bs : List Int32} (hk : SBs[k]? = some bs) (hw : Cond.fieldLink y.cls idx "java/lang/String" "coder" "B" ∈ BASE) (hd : decode b pc = .ok (.getfield idx, 3)) (kk : WP cls l G cy ad y b n r d (pc + 3) ls (vI 0 :: st) M Q) : WP cls l G cy ad y b n r d pc ls (vR (91, k, 0) :: st) M Q := by
  intro p e s m args below meth c A X lsA H locs hl hP hS
  have kk := kk p e s m args below meth c A X lsA H locs hl hP hS
  obtain ⟨hx1, hb, hr, hml, hts, hown, hlk, hE, hT, hA⟩ := X
  exact vk_getf hx1 hb (hT.2.2.1 k _ hk).2.1 hS hown (hts _ hw) (fun _ h9 => h9) hd kk
theorem w_getsC {idx : Nat} (hw : Cond.fieldLink y.cls idx "java/lang/String" "COMPACT_STRINGS" "Z" ∈ BASE) (hd : decode b pc = .ok (.getstatic idx, 3)) (kk : WP cls l G cy ad y b n r d (pc + 3) ls (vI 1 :: st) M Q) : WP cls l G cy ad y b n r d pc ls st M Q := by
  intro p e s m args below meth c A X lsA H locs hl hP hS
  have kk := kk p e s m args below meth c A X lsA H locs hl hP hS
  obtain ⟨hx1, hb, hr, hml, hts, hown, hlk, hE, hT, hA⟩ := X
  exact va_gets hx1 hb hT.2.1 hS hown (hts _ hw) (fun _ h9 => h9) hd kk
theorem w_alenS {k : Nat} {bs : List Int32} {v : Int32} (hk : SBs[k]? = some bs) (hd : decode b pc = .ok (.arraylength, 1)) (hv : Int32.ofNat bs.length = v) (kk : WP cls l G cy ad y b n r d (pc + 1) ls (vI v :: st) M Q) : WP cls l G cy ad y b n r d pc ls (vR (90, 10 + k, 0) :: st) M Q := by
  intro p e s m args below meth c A X lsA H locs hl hP hS
  have kk := kk p e s m args below meth c A X lsA H locs hl hP hS
  obtain ⟨hx1, hb, hr, hml, hts, hown, hlk, hE, hT, hA⟩ := X
  exact va_tlen hx1 hb (hT.2.2.1 k _ hk).2.2.2 hS hv hd kk
theorem w_baldS {k : Nat} {bs : List Int32} {x : Int32} {a : Int} (hk : SBs[k]? = some bs) (hx : x.toInt = a) (h : 0 ≤ a ∧ a < (bs.length : Nat)) (hd : decode b pc = .ok (.baload, 1)) (kk : ∀ j : Nat, (j : Int) = a → ∀ z : Int32, z = bs.getD j 0 → WP cls l G cy ad y b n r d (pc + 1) ls (vI z :: st) M Q) : WP cls l G cy ad y b n r d pc ls (vI x :: vR (90, 10 + k, 0) :: st) M Q := by
  intro p e s m args below meth c A X lsA H locs hl hP hS
  have kk := kk _ (clI hx h.1) _ rfl p e s m args below meth c A X lsA H locs hl hP hS
  obtain ⟨hx1, hb, hr, hml, hts, hown, hlk, hE, hT, hA⟩ := X
  exact va_tb hx1 hb (hT.2.2.1 k _ hk).2.2.2 hS (vinI hx h) rfl hd kk
theorem w_bret {v : Int32} {ty : FieldType} (hr : r = some ty) (hd : decode b pc = .ok (.ireturn, 1)) (hn : narrow ty (.int v) = .int v) (hQ : Q v M) : WP cls l G cy ad y b n r d pc ls [vI v] M Q := by
  intro p e s m args below meth c A X lsA H locs hl hP hS
  obtain ⟨hx1, hb, hr1, hml, hts, hown, hlk, hE, hT, hA⟩ := X
  subst hr
  exact W.zret (v := v) hx1 hb hr1 hn (fun t ht hW => ⟨⟨v, M, rfl, hQ, by show WO cls G cy ad A M t.heap; rw [ht]; exact hP⟩, hS.F ht⟩) hS.2.2 hd
variable {y' : MethodName} {b' : ByteArray} {n' : Nat} {Q' : Int32 → mM → Prop} {as rest : List mV} {idx kn : Nat}
/-- a method of a constant String is called -/
theorem w_callStr {ty : FieldType} {k : Nat} {bs : List Int32} (hk : SBs[k]? = some bs) (hc : WP cls l G cy ad y' b' n' (some ty) d 0 (las 0 (vR (91, k, 0) :: as)) [] M Q') (hy : KV y' b' n' (some ty) kn) (hp : plainName y'.cls = true) (hq : "java/lang/String" = y'.cls) (hn : (lg_sl ((vR (91, k, 0) :: as).map (gv ad))).length ≤ n') (hl : Cond.methodLink y.cls idx y' ∈ BASE) (hkn : as.length = kn) (hst : st = as.reverse ++ ([vR (91, k, 0)] ++ rest)) (hb8 : n' ≤ 80) (hr4 : rest.length ≤ 4) (hd : decode b pc = .ok (.invokevirtual idx, 3))
    (kk : ∀ (v : Int32) (M' : mM), Q' v M' → WP cls l G cy ad y b n r (d + 1) (pc + 3) ls (vI v :: rest) M' Q) : WP cls l G cy ad y b n r (d + 1) pc ls st M Q := by
  intro p e s m args below meth c A X lsA H locs hl2 hP hS
  have hX := X
  obtain ⟨hx, hb, hr, hml, hts, hown, hlk, hE, hT, hA⟩ := X
  subst hst
  rw [args_st]
  have hM := toMet hc hp hn H.size
  have hF := WO_free hP hS hA
  have hrec : ∃ cell : Cell, H[ad (91, k, 0)]? = some cell ∧ cell.vm.isStatics = false ∧ s.vm.findClass y'.cls = some cell.cls := by
    obtain ⟨cell, h1, h2, h3, h4⟩ := (hT.2.2.1 k _ hk).1.kept hS.2.1
    exact ⟨cell, h1, h2, hq ▸ h3⟩
  have hcat := catsum ad rest
  refine va_calli (va_runV (rest := rest.map (gv ad)) ⟨hx, hb, hml, hown, hts⟩ hM (cwV kn hts (gV hy hl) rfl rfl rfl ⟨rfl, hy.2.2.2.2⟩ ⟨Nat.le_refl _, by show 8 + (n' + 11) + 100 * d ≤ 100 * (d + 1); omega⟩) ⟨PG_blind, hrec, PG_of hS hT hP.1 hP.2 hE⟩ rfl (by rw [List.length_map]; exact hkn) hl2.1 rfl (lv_room (by omega)) hd ⟨Nat.le_refl _, Nat.le_refl _⟩) hS (fun q _ h => hF q h) hF (fun v u t H1 locs1 ht hvm hpo hB hz hkp hS1 => ?_)
  subst ht
  exact kk v u hpo p e s m args below meth c A hX lsA _ locs1 hl2 (WO_up hB hF) hS1
/-- Preconditions.checkIndex within its bounds -/
theorem dP_0 : decode cP_checkIndex 0 = .ok (.iload_n 0, 1) := by decide +kernel
theorem dP_1 : decode cP_checkIndex 1 = .ok (.ifCond .lt 8, 3) := by decide +kernel
theorem dP_4 : decode cP_checkIndex 4 = .ok (.iload_n 0, 1) := by decide +kernel
theorem dP_5 : decode cP_checkIndex 5 = .ok (.iload_n 1, 1) := by decide +kernel
theorem dP_6 : decode cP_checkIndex 6 = .ok (.if_icmp .lt 10, 3) := by decide +kernel
theorem dP_16 : decode cP_checkIndex 16 = .ok (.iload_n 0, 1) := by decide +kernel
theorem dP_17 : decode cP_checkIndex 17 = .ok (.ireturn, 1) := by decide +kernel
theorem dCI_0 : decode cS_checkIndex 0 = .ok (.iload_n 0, 1) := by decide +kernel
theorem dCI_1 : decode cS_checkIndex 1 = .ok (.iload_n 1, 1) := by decide +kernel
theorem dCI_2 : decode cS_checkIndex 2 = .ok (.getstatic 1053, 3) := by decide +kernel
theorem dCI_5 : decode cS_checkIndex 5 = .ok (.invokestatic 1059, 3) := by decide +kernel
theorem dCI_8 : decode cS_checkIndex 8 = .ok (.pop, 1) := by decide +kernel
theorem dCI_9 : decode cS_checkIndex 9 = .ok (.return_, 1) := by decide +kernel
theorem met_P {x w : Int32} {v : Value} {a c0 : Int} (hx : x.toInt = a) (hw : w.toInt = c0) (h : 0 ≤ a ∧ a < c0) (hv : (lg_sl [.int x, .int w, v]).length ≤ 3) (hls : lv_args 0 [.int x, .int w, v] = [(0, .int x), (1, .int w), (2, v)]) (sz : Nat) :
    Met l yP_checkIndex (wsO yP_checkIndex cP_checkIndex 3 (some .int)) (rmd 0) (va_Pc [.int x, .int w, v] (PW cls G cy ad sz M)) (va_Qi (fun _ (M' : mM) => M = M') (fun M' t => WO cls G cy ad (va_A (WS cls cy ad M) sz) M' t.heap) (va_A (WS cls cy ad M) sz)) 0 0 (va_A (WS cls cy ad M) sz) := by
  refine Met.ofW (cc := cP_checkIndex) (maxL := 3) (ret := some .int) (ws' := BASE) (by decide +kernel) rfl ?_
  intro p e s m args below meth c s₁ B hml hv2
  obtain ⟨rfl, ⟨hsz, hP, hE, hD⟩, hT⟩ := hv2
  rw [lg_entry_eq]
  subst hsz
  have hl := lv_entry ([.int x, .int w, v]) hv
  rw [hls] at hl
  have hS : va_S (va_A (WS cls cy ad M) s.heap.size) s.heap s.heap [] := va_S.rf
  refine lv_iload_n B.exec B.bytes dP_0 rfl (lv_at hl 0 rfl) ?_
  refine lv_if_lt (tgt := 9) B.exec B.bytes dP_1 (by decide) (fun q => absurd (cvLt hx rfl q) (by have : (0 : Int32).toInt = 0 := rfl; omega)) (fun _ => ?_)
  refine lv_iload_n B.exec B.bytes dP_4 rfl (lv_at hl 0 rfl) ?_
  refine lv_iload_n B.exec B.bytes dP_5 rfl (lv_at hl 1 rfl) ?_
  refine lv_icmp_lt (tgt := 16) B.exec B.bytes dP_6 (by decide) (fun _ => ?_) (fun q => absurd (cvnLt hx hw q) (by omega))
  refine lv_iload_n B.exec B.bytes dP_16 rfl (lv_at hl 0 rfl) ?_
  exact W.iret (v := x) B.exec B.bytes B.returns (fun t ht hW => ⟨⟨x, M, rfl, rfl, by show WO cls G cy ad _ M t.heap; rw [ht]; exact ⟨hP, hD.self⟩⟩, hS.F ht⟩) hS.2.2 dP_17
theorem met_CI {x w : Int32} {a c0 : Int} (hx : x.toInt = a) (hw : w.toInt = c0) (h : 0 ≤ a ∧ a < c0) (k1 : Cond.fieldLink "java/lang/String" 1053 "jdk/internal/util/Preconditions" "SIOOBE_FORMATTER" "Ljava/util/function/BiFunction;" ∈ BASE) (k2 : Cond.methodLink "java/lang/String" 1059 yP_checkIndex ∈ BASE) (hy : KS yP_checkIndex cP_checkIndex 3 (some .int) 3) (sz : Nat) :
    Met l yS_checkIndex (wsO yS_checkIndex cS_checkIndex 2 none) (rmd 1) (va_Pc [.int x, .int w] (PW cls G cy ad sz M)) (va_Qv (fun (M' : mM) => M = M') (fun M' t => WO cls G cy ad (va_A (WS cls cy ad M) sz) M' t.heap) (va_A (WS cls cy ad M) sz)) 0 0 (va_A (WS cls cy ad M) sz) := by
  refine Met.ofW (cc := cS_checkIndex) (maxL := 2) (ret := none) (ws' := BASE) (by decide +kernel) rfl ?_
  intro p e s m args below meth c s₁ B hml hv2
  obtain ⟨rfl, ⟨hsz, hP, hE, hD⟩, hT0⟩ := hv2
  have hts0 := atoms_spec (ws := wsO yS_checkIndex cS_checkIndex 2 none) B.pre
  have hts : ∀ w9 ∈ BASE, w9.before #[Value.int x, Value.int w] s = true := fun w9 hw9 => hts0 w9 (List.mem_cons_of_mem _ hw9)
  have hown : s.vm.findClass "java/lang/String" = some m.cls := findClass_of_methodNamed B.named
  rw [lg_entry_eq]
  subst hsz
  have hT := hT0.up
  have hS : va_S (va_A (WS cls cy ad M) s.heap.size) s.heap s.heap [] := va_S.rf
  have hA : ∀ q : Nat, s.heap.size ≤ q → va_A (WS cls cy ad M) s.heap.size q := fun q h => Or.inr h
  have hW : WO cls G cy ad (va_A (WS cls cy ad M) s.heap.size) M s.heap := ⟨hP, hD.self⟩
  have hl : lv_has _ 2 [(0, .int x), (1, .int w)] := lv_entry ([.int x, .int w]) (n := 2) (Nat.le_of_ble_eq_true rfl)
  refine lv_iload_n B.exec B.bytes dCI_0 rfl (lv_at hl 0 rfl) ?_
  refine lv_iload_n B.exec B.bytes dCI_1 rfl (lv_at hl 1 rfl) ?_
  have go : ∀ v : Value, va_Z "jdk/internal/util/Preconditions" "SIOOBE_FORMATTER" "Ljava/util/function/BiFunction;" v (va_A (WS cls cy ad M) s.heap.size) s s.heap → (lg_sl [.int x, .int w, v]).length ≤ 3 → lv_args 0 [.int x, .int w, v] = [(0, .int x), (1, .int w), (2, v)] → ([Value.int x, Value.int w, v].map fun v9 => v9.category).sum ≤ 3 → W p l e (headSpec (wsO yS_checkIndex cS_checkIndex 2 none) (rmd 1)).room s m #[Value.int x, Value.int w] below meth c s.heap [] 0 0 (MQ below (va_Qv (fun (M' : mM) => M = M') (fun M' t => WO cls G cy ad (va_A (WS cls cy ad M) s.heap.size) M' t.heap) (va_A (WS cls cy ad M) s.heap.size)) #[Value.int x, Value.int w] s 0 0 (va_A (WS cls cy ad M) s.heap.size)) (F0 m 2 (lg_sl [.int x, .int w] ++ List.replicate (2 - (lg_sl [.int x, .int w]).length) Slot.unset).toArray [.int w, .int x]) := by
    intro v hZ hv hls hcat
    refine va_gets B.exec B.bytes hZ hS hown (hts _ k1) (fun _ h9 => h9) dCI_2 ?_
    have hF := WO_free (M := M) hW hS hA
    refine va_calli (va_runS (rest := []) ⟨B.exec, B.bytes, hml, hown, hts⟩ (met_P hx hw h hv hls s.heap.size) (va_cwS 3 hts (gS hy k2) rfl rfl rfl hy.2.2.2 ⟨Nat.le_refl _, by show 8 + (3 + 11) + 0 ≤ 100; omega⟩) ⟨PG_blind, PG_of hS hT hP hW.2 hE⟩ rfl rfl hl.1 rfl (lv_room (by show 0 ≤ _; omega)) dCI_5 ⟨Nat.le_refl _, Nat.le_refl _⟩) hS (fun q _ h => hF q h) hF (fun v u t H1 locs1 ht hvm hpo hB hz hkp hS1 => ?_)
    subst ht
    subst hpo
    refine lv_pop B.exec B.bytes dCI_8 rfl ?_
    exact W.vret B.exec B.bytes B.returns (fun t2 ht2 hW2 => ⟨⟨M, rfl, rfl, by show WO cls G cy ad _ M t2.heap; rw [ht2]; exact hB⟩, hS1.F ht2⟩) hS1.2.2 dCI_9
  rcases hT.2.2.2 with hZ | ⟨t, hZ⟩
  · exact go .null hZ (Nat.le_of_ble_eq_true rfl) rfl (Nat.le_of_ble_eq_true rfl)
  · exact go (.ref t) hZ (Nat.le_of_ble_eq_true rfl) rfl (Nat.le_of_ble_eq_true rfl)
end WPSTR
end
section
/-! words of the tables that are used, by their places; decode rows; fields -/
theorem li_255 : (255 : Int32).toInt = 255 := by decide
set_option maxRecDepth 20000 in
theorem m_93 : Cond.initialized "java/lang/String" ∈ BASE := bmT1 15 rfl rfl
set_option maxRecDepth 20000 in
theorem m_94 : Cond.initialized "java/lang/StringLatin1" ∈ BASE := bmT1 16 rfl rfl
set_option maxRecDepth 20000 in
theorem m_96 : Cond.initialized "jdk/internal/util/Preconditions" ∈ BASE := bmT1 18 rfl rfl
set_option maxRecDepth 20000 in
theorem m_741 : Cond.instanceMethod yS_indexOf ∈ BASE := bmT3 183 rfl rfl
set_option maxRecDepth 20000 in
theorem m_742 : Cond.selects yS_indexOf.cls yS_indexOf yS_indexOf ∈ BASE := bmT3 184 rfl rfl
set_option maxRecDepth 20000 in
theorem m_743 : Cond.code yS_indexOf cS_indexOf 2 (some .int) ∈ BASE := bmT3 185 rfl rfl
set_option maxRecDepth 20000 in
theorem m_744 : Cond.methodLink "java/lang/String" 633 yS_indexOf2 ∈ BASE := bmT3 186 rfl rfl
set_option maxRecDepth 20000 in
theorem m_745 : Cond.instanceMethod yS_indexOf2 ∈ BASE := bmT3 187 rfl rfl
set_option maxRecDepth 20000 in
theorem m_746 : Cond.selects yS_indexOf2.cls yS_indexOf2 yS_indexOf2 ∈ BASE := bmT3 188 rfl rfl
set_option maxRecDepth 20000 in
theorem m_747 : Cond.code yS_indexOf2 cS_indexOf2 3 (some .int) ∈ BASE := bmT3 189 rfl rfl
set_option maxRecDepth 20000 in
theorem m_748 : Cond.methodLink "java/lang/String" 492 yS_isLatin1 ∈ BASE := bmT3 190 rfl rfl
set_option maxRecDepth 20000 in
theorem m_749 : Cond.instanceMethod yS_isLatin1 ∈ BASE := bmT3 191 rfl rfl
set_option maxRecDepth 20000 in
theorem m_750 : Cond.selects yS_isLatin1.cls yS_isLatin1 yS_isLatin1 ∈ BASE := bmT3 192 rfl rfl
set_option maxRecDepth 20000 in
theorem m_751 : Cond.code yS_isLatin1 cS_isLatin1 1 (some .boolean) ∈ BASE := bmT3 193 rfl rfl
set_option maxRecDepth 20000 in
theorem m_752 : Cond.fieldLink "java/lang/String" 38 "java/lang/String" "COMPACT_STRINGS" "Z" ∈ BASE := bmT3 194 rfl rfl
set_option maxRecDepth 20000 in
theorem m_754 : Cond.methodLink "java/lang/String" 505 yS_length ∈ BASE := bmT3 196 rfl rfl
set_option maxRecDepth 20000 in
theorem m_755 : Cond.instanceMethod yS_length ∈ BASE := bmT3 197 rfl rfl
set_option maxRecDepth 20000 in
theorem m_756 : Cond.selects yS_length.cls yS_length yS_length ∈ BASE := bmT3 198 rfl rfl
set_option maxRecDepth 20000 in
theorem m_757 : Cond.code yS_length cS_length 1 (some .int) ∈ BASE := bmT3 199 rfl rfl
set_option maxRecDepth 20000 in
theorem m_758 : Cond.methodLink "java/lang/String" 335 yS_coder ∈ BASE := bmT3 200 rfl rfl
set_option maxRecDepth 20000 in
theorem m_759 : Cond.instanceMethod yS_coder ∈ BASE := bmT3 201 rfl rfl
set_option maxRecDepth 20000 in
theorem m_760 : Cond.selects yS_coder.cls yS_coder yS_coder ∈ BASE := bmT3 202 rfl rfl
set_option maxRecDepth 20000 in
theorem m_761 : Cond.code yS_coder cS_coder 1 (some .byte) ∈ BASE := bmT3 203 rfl rfl
set_option maxRecDepth 20000 in
theorem m_762 : Cond.methodLink "java/lang/String" 637 ySL_indexOf ∈ BASE := bmT3 204 rfl rfl
set_option maxRecDepth 20000 in
theorem m_763 : Cond.static ySL_indexOf ∈ BASE := bmT3 205 rfl rfl
set_option maxRecDepth 20000 in
theorem m_764 : Cond.code ySL_indexOf cSL_indexOf 4 (some .int) ∈ BASE := bmT3 206 rfl rfl
set_option maxRecDepth 20000 in
theorem m_765 : Cond.methodLink "java/lang/StringLatin1" 88 ySL_canEncode ∈ BASE := bmT3 207 rfl rfl
set_option maxRecDepth 20000 in
theorem m_766 : Cond.static ySL_canEncode ∈ BASE := bmT3 208 rfl rfl
set_option maxRecDepth 20000 in
theorem m_767 : Cond.code ySL_canEncode cSL_canEncode 1 (some .boolean) ∈ BASE := bmT3 209 rfl rfl
set_option maxRecDepth 20000 in
theorem m_768 : Cond.methodLink "java/lang/StringLatin1" 92 Lib.Math.max.name ∈ BASE := bmT3 210 rfl rfl
set_option maxRecDepth 20000 in
theorem m_769 : Cond.methodLink "java/lang/StringLatin1" 38 Lib.Math.min.name ∈ BASE := bmT3 211 rfl rfl
set_option maxRecDepth 20000 in
theorem m_772 : Cond.methodLink "java/lang/StringLatin1" 95 ySL_indexOfChar ∈ BASE := bmT3 214 rfl rfl
set_option maxRecDepth 20000 in
theorem m_773 : Cond.static ySL_indexOfChar ∈ BASE := bmT3 215 rfl rfl
set_option maxRecDepth 20000 in
theorem m_774 : Cond.code ySL_indexOfChar cSL_indexOfChar 6 (some .int) ∈ BASE := bmT3 216 rfl rfl
set_option maxRecDepth 20000 in
theorem m_793 : Cond.fieldLink "java/lang/String" 1053 "jdk/internal/util/Preconditions" "SIOOBE_FORMATTER" "Ljava/util/function/BiFunction;" ∈ BASE := bmT3 235 rfl rfl
set_option maxRecDepth 20000 in
theorem m_1604 : Cond.methodLink "java/lang/String" 495 ySL_charAt ∈ BASE := bmT7 86 rfl rfl
set_option maxRecDepth 20000 in
theorem m_1605 : Cond.static ySL_charAt ∈ BASE := bmT7 87 rfl rfl
set_option maxRecDepth 20000 in
theorem m_1606 : Cond.code ySL_charAt cSL_charAt 2 (some .char) ∈ BASE := bmT7 88 rfl rfl
set_option maxRecDepth 20000 in
theorem m_1607 : Cond.methodLink "java/lang/StringLatin1" 9 yS_checkIndex ∈ BASE := bmT7 89 rfl rfl
set_option maxRecDepth 20000 in
theorem m_1608 : Cond.static yS_checkIndex ∈ BASE := bmT7 90 rfl rfl
set_option maxRecDepth 20000 in
theorem m_1609 : Cond.code yS_checkIndex cS_checkIndex 2 none ∈ BASE := bmT7 91 rfl rfl
set_option maxRecDepth 20000 in
theorem m_1610 : Cond.methodLink "java/lang/String" 1059 yP_checkIndex ∈ BASE := bmT7 92 rfl rfl
set_option maxRecDepth 20000 in
theorem m_1611 : Cond.static yP_checkIndex ∈ BASE := bmT7 93 rfl rfl
set_option maxRecDepth 20000 in
theorem m_1612 : Cond.code yP_checkIndex cP_checkIndex 3 (some .int) ∈ BASE := bmT7 94 rfl rfl
set_option maxRecDepth 20000 in
theorem m_1871 : Cond.fieldLink "java/lang/String" 15 "java/lang/String" "coder" "B" ∈ BASE := bmT8 113 rfl rfl
set_option maxRecDepth 20000 in
theorem m_1872 : Cond.fieldLink "java/lang/String" 9 "java/lang/String" "value" "[B" ∈ BASE := bmT8 114 rfl rfl
theorem kS_P_checkIndex : KS yP_checkIndex cP_checkIndex 3 (some .int) 3 := ⟨m_1611, m_96, m_1612, nhM_13, nhV_13, pdn_33⟩
theorem kS_SL_canEncode : KS ySL_canEncode cSL_canEncode 1 (some .boolean) 1 := ⟨m_766, m_94, m_767, nhM_14, nhV_14, pdn_1⟩
theorem kS_SL_charAt : KS ySL_charAt cSL_charAt 2 (some .char) 2 := ⟨m_1605, m_94, m_1606, nhM_14, nhV_14, pdn_34⟩
theorem kS_SL_indexOf : KS ySL_indexOf cSL_indexOf 4 (some .int) 4 := ⟨m_763, m_94, m_764, nhM_14, nhV_14, pdn_35⟩
theorem kS_SL_indexOfChar : KS ySL_indexOfChar cSL_indexOfChar 6 (some .int) 4 := ⟨m_773, m_94, m_774, nhM_14, nhV_14, pdn_35⟩
theorem kS_S_checkIndex : KS yS_checkIndex cS_checkIndex 2 none 2 := ⟨m_1608, m_93, m_1609, nhM_15, nhV_15, pdn_5⟩
theorem kV_S_coder : KV yS_coder cS_coder 1 (some .byte) 0 := ⟨m_759, m_760, m_93, m_761, nhM_15, nhV_15, pdn_36⟩
theorem kV_S_indexOf : KV yS_indexOf cS_indexOf 2 (some .int) 1 := ⟨m_741, m_742, m_93, m_743, nhM_15, nhV_15, pdn_2⟩
theorem kV_S_indexOf2 : KV yS_indexOf2 cS_indexOf2 3 (some .int) 2 := ⟨m_745, m_746, m_93, m_747, nhM_15, nhV_15, pdn_8⟩
theorem kV_S_isLatin1 : KV yS_isLatin1 cS_isLatin1 1 (some .boolean) 0 := ⟨m_749, m_750, m_93, m_751, nhM_15, nhV_15, pdn_9⟩
theorem kV_S_length : KV yS_length cS_length 1 (some .int) 0 := ⟨m_755, m_756, m_93, m_757, nhM_15, nhV_15, pdn_6⟩
theorem dSL_canEncode_0 : decode cSL_canEncode 0 = .ok (.iload_n 0, 1) := by decide +kernel
theorem dSL_canEncode_1 : decode cSL_canEncode 1 = .ok (.ifCond .lt 14, 3) := by decide +kernel
theorem dSL_canEncode_4 : decode cSL_canEncode 4 = .ok (.iload_n 0, 1) := by decide +kernel
theorem dSL_canEncode_5 : decode cSL_canEncode 5 = .ok (.sipush 255, 3) := by decide +kernel
theorem dSL_canEncode_8 : decode cSL_canEncode 8 = .ok (.if_icmp .gt 7, 3) := by decide +kernel
theorem dSL_canEncode_11 : decode cSL_canEncode 11 = .ok (.iconst 1, 1) := by decide +kernel
theorem dSL_canEncode_12 : decode cSL_canEncode 12 = .ok (.goto 4, 3) := by decide +kernel
theorem dSL_canEncode_15 : decode cSL_canEncode 15 = .ok (.iconst 0, 1) := by decide +kernel
theorem dSL_canEncode_16 : decode cSL_canEncode 16 = .ok (.ireturn, 1) := by decide +kernel
theorem dSL_charAt_0 : decode cSL_charAt 0 = .ok (.iload_n 1, 1) := by decide +kernel
theorem dSL_charAt_1 : decode cSL_charAt 1 = .ok (.aload_n 0, 1) := by decide +kernel
theorem dSL_charAt_2 : decode cSL_charAt 2 = .ok (.arraylength, 1) := by decide +kernel
theorem dSL_charAt_3 : decode cSL_charAt 3 = .ok (.invokestatic 9, 3) := by decide +kernel
theorem dSL_charAt_6 : decode cSL_charAt 6 = .ok (.aload_n 0, 1) := by decide +kernel
theorem dSL_charAt_7 : decode cSL_charAt 7 = .ok (.iload_n 1, 1) := by decide +kernel
theorem dSL_charAt_8 : decode cSL_charAt 8 = .ok (.baload, 1) := by decide +kernel
theorem dSL_charAt_9 : decode cSL_charAt 9 = .ok (.sipush 255, 3) := by decide +kernel
theorem dSL_charAt_12 : decode cSL_charAt 12 = .ok (.iand, 1) := by decide +kernel
theorem dSL_charAt_13 : decode cSL_charAt 13 = .ok (.i2c, 1) := by decide +kernel
theorem dSL_charAt_14 : decode cSL_charAt 14 = .ok (.ireturn, 1) := by decide +kernel
theorem dSL_indexOf_0 : decode cSL_indexOf 0 = .ok (.iload_n 1, 1) := by decide +kernel
theorem dSL_indexOf_1 : decode cSL_indexOf 1 = .ok (.invokestatic 88, 3) := by decide +kernel
theorem dSL_indexOf_4 : decode cSL_indexOf 4 = .ok (.ifCond .ne 5, 3) := by decide +kernel
theorem dSL_indexOf_7 : decode cSL_indexOf 7 = .ok (.iconst (-1), 1) := by decide +kernel
theorem dSL_indexOf_8 : decode cSL_indexOf 8 = .ok (.ireturn, 1) := by decide +kernel
theorem dSL_indexOf_9 : decode cSL_indexOf 9 = .ok (.iload_n 2, 1) := by decide +kernel
theorem dSL_indexOf_10 : decode cSL_indexOf 10 = .ok (.iconst 0, 1) := by decide +kernel
theorem dSL_indexOf_11 : decode cSL_indexOf 11 = .ok (.invokestatic 92, 3) := by decide +kernel
theorem dSL_indexOf_14 : decode cSL_indexOf 14 = .ok (.istore_n 2, 1) := by decide +kernel
theorem dSL_indexOf_15 : decode cSL_indexOf 15 = .ok (.iload_n 3, 1) := by decide +kernel
theorem dSL_indexOf_16 : decode cSL_indexOf 16 = .ok (.aload_n 0, 1) := by decide +kernel
theorem dSL_indexOf_17 : decode cSL_indexOf 17 = .ok (.arraylength, 1) := by decide +kernel
theorem dSL_indexOf_18 : decode cSL_indexOf 18 = .ok (.invokestatic 38, 3) := by decide +kernel
theorem dSL_indexOf_21 : decode cSL_indexOf 21 = .ok (.istore_n 3, 1) := by decide +kernel
theorem dSL_indexOf_22 : decode cSL_indexOf 22 = .ok (.iload_n 2, 1) := by decide +kernel
theorem dSL_indexOf_23 : decode cSL_indexOf 23 = .ok (.iload_n 3, 1) := by decide +kernel
theorem dSL_indexOf_24 : decode cSL_indexOf 24 = .ok (.if_icmp .lt 5, 3) := by decide +kernel
theorem dSL_indexOf_27 : decode cSL_indexOf 27 = .ok (.iconst (-1), 1) := by decide +kernel
theorem dSL_indexOf_28 : decode cSL_indexOf 28 = .ok (.ireturn, 1) := by decide +kernel
theorem dSL_indexOf_29 : decode cSL_indexOf 29 = .ok (.aload_n 0, 1) := by decide +kernel
theorem dSL_indexOf_30 : decode cSL_indexOf 30 = .ok (.iload_n 1, 1) := by decide +kernel
theorem dSL_indexOf_31 : decode cSL_indexOf 31 = .ok (.iload_n 2, 1) := by decide +kernel
theorem dSL_indexOf_32 : decode cSL_indexOf 32 = .ok (.iload_n 3, 1) := by decide +kernel
theorem dSL_indexOf_33 : decode cSL_indexOf 33 = .ok (.invokestatic 95, 3) := by decide +kernel
theorem dSL_indexOf_36 : decode cSL_indexOf 36 = .ok (.ireturn, 1) := by decide +kernel
theorem dSL_indexOfChar_0 : decode cSL_indexOfChar 0 = .ok (.iload_n 1, 1) := by decide +kernel
theorem dSL_indexOfChar_1 : decode cSL_indexOfChar 1 = .ok (.i2b, 1) := by decide +kernel
theorem dSL_indexOfChar_2 : decode cSL_indexOfChar 2 = .ok (.istore 4, 2) := by decide +kernel
theorem dSL_indexOfChar_4 : decode cSL_indexOfChar 4 = .ok (.iload_n 2, 1) := by decide +kernel
theorem dSL_indexOfChar_5 : decode cSL_indexOfChar 5 = .ok (.istore 5, 2) := by decide +kernel
theorem dSL_indexOfChar_7 : decode cSL_indexOfChar 7 = .ok (.iload 5, 2) := by decide +kernel
theorem dSL_indexOfChar_9 : decode cSL_indexOfChar 9 = .ok (.iload_n 3, 1) := by decide +kernel
theorem dSL_indexOfChar_10 : decode cSL_indexOfChar 10 = .ok (.if_icmp .ge 21, 3) := by decide +kernel
theorem dSL_indexOfChar_13 : decode cSL_indexOfChar 13 = .ok (.aload_n 0, 1) := by decide +kernel
theorem dSL_indexOfChar_14 : decode cSL_indexOfChar 14 = .ok (.iload 5, 2) := by decide +kernel
theorem dSL_indexOfChar_16 : decode cSL_indexOfChar 16 = .ok (.baload, 1) := by decide +kernel
theorem dSL_indexOfChar_17 : decode cSL_indexOfChar 17 = .ok (.iload 4, 2) := by decide +kernel
theorem dSL_indexOfChar_19 : decode cSL_indexOfChar 19 = .ok (.if_icmp .ne 6, 3) := by decide +kernel
theorem dSL_indexOfChar_22 : decode cSL_indexOfChar 22 = .ok (.iload 5, 2) := by decide +kernel
theorem dSL_indexOfChar_24 : decode cSL_indexOfChar 24 = .ok (.ireturn, 1) := by decide +kernel
theorem dSL_indexOfChar_25 : decode cSL_indexOfChar 25 = .ok (.iinc 5 1, 3) := by decide +kernel
theorem dSL_indexOfChar_28 : decode cSL_indexOfChar 28 = .ok (.goto (-21), 3) := by decide +kernel
theorem dSL_indexOfChar_31 : decode cSL_indexOfChar 31 = .ok (.iconst (-1), 1) := by decide +kernel
theorem dSL_indexOfChar_32 : decode cSL_indexOfChar 32 = .ok (.ireturn, 1) := by decide +kernel
theorem dS_charAt_0 : decode cS_charAt 0 = .ok (.aload_n 0, 1) := by decide +kernel
theorem dS_charAt_1 : decode cS_charAt 1 = .ok (.invokevirtual 492, 3) := by decide +kernel
theorem dS_charAt_4 : decode cS_charAt 4 = .ok (.ifCond .eq 12, 3) := by decide +kernel
theorem dS_charAt_7 : decode cS_charAt 7 = .ok (.aload_n 0, 1) := by decide +kernel
theorem dS_charAt_8 : decode cS_charAt 8 = .ok (.getfield 9, 3) := by decide +kernel
theorem dS_charAt_11 : decode cS_charAt 11 = .ok (.iload_n 1, 1) := by decide +kernel
theorem dS_charAt_12 : decode cS_charAt 12 = .ok (.invokestatic 495, 3) := by decide +kernel
theorem dS_charAt_15 : decode cS_charAt 15 = .ok (.ireturn, 1) := by decide +kernel
theorem dS_coder_0 : decode cS_coder 0 = .ok (.getstatic 38, 3) := by decide +kernel
theorem dS_coder_3 : decode cS_coder 3 = .ok (.ifCond .eq 10, 3) := by decide +kernel
theorem dS_coder_6 : decode cS_coder 6 = .ok (.aload_n 0, 1) := by decide +kernel
theorem dS_coder_7 : decode cS_coder 7 = .ok (.getfield 15, 3) := by decide +kernel
theorem dS_coder_10 : decode cS_coder 10 = .ok (.goto 4, 3) := by decide +kernel
theorem dS_coder_14 : decode cS_coder 14 = .ok (.ireturn, 1) := by decide +kernel
theorem dS_indexOf_0 : decode cS_indexOf 0 = .ok (.aload_n 0, 1) := by decide +kernel
theorem dS_indexOf_1 : decode cS_indexOf 1 = .ok (.iload_n 1, 1) := by decide +kernel
theorem dS_indexOf_2 : decode cS_indexOf 2 = .ok (.iconst 0, 1) := by decide +kernel
theorem dS_indexOf_3 : decode cS_indexOf 3 = .ok (.invokevirtual 633, 3) := by decide +kernel
theorem dS_indexOf_6 : decode cS_indexOf 6 = .ok (.ireturn, 1) := by decide +kernel
theorem dS_indexOf2_0 : decode cS_indexOf2 0 = .ok (.aload_n 0, 1) := by decide +kernel
theorem dS_indexOf2_1 : decode cS_indexOf2 1 = .ok (.invokevirtual 492, 3) := by decide +kernel
theorem dS_indexOf2_4 : decode cS_indexOf2 4 = .ok (.ifCond .eq 19, 3) := by decide +kernel
theorem dS_indexOf2_7 : decode cS_indexOf2 7 = .ok (.aload_n 0, 1) := by decide +kernel
theorem dS_indexOf2_8 : decode cS_indexOf2 8 = .ok (.getfield 9, 3) := by decide +kernel
theorem dS_indexOf2_11 : decode cS_indexOf2 11 = .ok (.iload_n 1, 1) := by decide +kernel
theorem dS_indexOf2_12 : decode cS_indexOf2 12 = .ok (.iload_n 2, 1) := by decide +kernel
theorem dS_indexOf2_13 : decode cS_indexOf2 13 = .ok (.aload_n 0, 1) := by decide +kernel
theorem dS_indexOf2_14 : decode cS_indexOf2 14 = .ok (.invokevirtual 505, 3) := by decide +kernel
theorem dS_indexOf2_17 : decode cS_indexOf2 17 = .ok (.invokestatic 637, 3) := by decide +kernel
theorem dS_indexOf2_20 : decode cS_indexOf2 20 = .ok (.goto 16, 3) := by decide +kernel
theorem dS_indexOf2_36 : decode cS_indexOf2 36 = .ok (.ireturn, 1) := by decide +kernel
theorem dS_isLatin1_0 : decode cS_isLatin1 0 = .ok (.getstatic 38, 3) := by decide +kernel
theorem dS_isLatin1_3 : decode cS_isLatin1 3 = .ok (.ifCond .eq 14, 3) := by decide +kernel
theorem dS_isLatin1_6 : decode cS_isLatin1 6 = .ok (.aload_n 0, 1) := by decide +kernel
theorem dS_isLatin1_7 : decode cS_isLatin1 7 = .ok (.getfield 15, 3) := by decide +kernel
theorem dS_isLatin1_10 : decode cS_isLatin1 10 = .ok (.ifCond .ne 7, 3) := by decide +kernel
theorem dS_isLatin1_13 : decode cS_isLatin1 13 = .ok (.iconst 1, 1) := by decide +kernel
theorem dS_isLatin1_14 : decode cS_isLatin1 14 = .ok (.goto 4, 3) := by decide +kernel
theorem dS_isLatin1_18 : decode cS_isLatin1 18 = .ok (.ireturn, 1) := by decide +kernel
theorem dS_length_0 : decode cS_length 0 = .ok (.aload_n 0, 1) := by decide +kernel
theorem dS_length_1 : decode cS_length 1 = .ok (.getfield 9, 3) := by decide +kernel
theorem dS_length_4 : decode cS_length 4 = .ok (.arraylength, 1) := by decide +kernel
theorem dS_length_5 : decode cS_length 5 = .ok (.aload_n 0, 1) := by decide +kernel
theorem dS_length_6 : decode cS_length 6 = .ok (.invokevirtual 335, 3) := by decide +kernel
theorem dS_length_9 : decode cS_length 9 = .ok (.ishr, 1) := by decide +kernel
theorem dS_length_10 : decode cS_length 10 = .ok (.ireturn, 1) := by decide +kernel
end
section
section WPCI
variable {cls : List rf} {l : Launch} {G : va_G} {cy : Nat → ClassId} {ad : rf → Nat} {y : MethodName} {b : ByteArray} {n : Nat} {r : Option FieldType} {d : Nat} {pc : Nat} {ls : List (Nat × mV)} {st : List mV} {M : mM} {Q : Int32 → mM → Prop}
/-- String.checkIndex within its bounds -/
theorem w_checkIndex {x w : Int32} {c0 : Int} {idx : Nat} (hl : Cond.methodLink y.cls idx yS_checkIndex ∈ BASE) (h : 0 ≤ x.toInt ∧ x.toInt < c0) (hw : w.toInt = c0) (hs : st.length ≤ 4) (hd1 : 3 ≤ d) (hd : decode b pc = .ok (.invokestatic idx, 3)) (kk : WP cls l G cy ad y b n r d (pc + 3) ls st M Q) : WP cls l G cy ad y b n r d pc ls (vI w :: vI x :: st) M Q := by
  intro p e s m args below meth c A X lsA H locs hl2 hP hS
  have hX := X
  obtain ⟨hx, hb, hr, hml, hts, hown, hlk, hE, hT, hA⟩ := X
  have hF := WO_free hP hS hA
  have hcat := catsum ad st
  refine va_callv (va_runS (rest := st.map (gv ad)) ⟨hx, hb, hml, hown, hts⟩ (met_CI (M := M) rfl hw h m_793 m_1610 kS_P_checkIndex H.size) (va_cwS 2 hts (gS kS_S_checkIndex hl) rfl rfl rfl kS_S_checkIndex.2.2.2 ⟨by show 1 + 1 ≤ d; omega, by show 8 + (2 + 11) + 100 * 1 ≤ 100 * d; omega⟩) ⟨PG_blind, PG_of hS hT hP.1 hP.2 hE⟩ rfl rfl hl2.1 rfl (lv_room (by omega)) hd ⟨Nat.le_refl _, Nat.le_refl _⟩) hS (fun q _ h => hF q h) hF (fun u t H1 locs1 ht hvm hpo hB hz hkp hS1 => ?_)
  subst ht
  subst hpo
  exact kk p e s m args below meth c A hX lsA _ locs1 hl2 (WO_up hB hF) hS1
end WPCI
def SP_SL_canEncode_0 (v : Int32) (Mz : mM) (r_ : Int32) : Prop := (((v.toInt < 0) ∧ r_ = 0) ∨ ((0 ≤ v.toInt) ∧ (((255 < v.toInt) ∧ r_ = 0) ∨ ((v.toInt ≤ 255) ∧ r_ = 1))))
set_option maxHeartbeats 4000000 in
set_option maxRecDepth 100000 in
theorem c_SL_canEncode_0 {cls : List rf} (l : Launch) (G : va_G) (cy : Nat → ClassId) (ad : rf → Nat) (d : Nat) (v : Int32) (Mz : mM) : WP cls l G cy ad ySL_canEncode cSL_canEncode 1 (some .boolean) d 0 [(0, vI v)] [] Mz (fun r M' => Mz = M' ∧ ((0 ≤ r.toInt ∧ r.toInt ≤ 1)) ∧ SP_SL_canEncode_0 v Mz r) := by
  refine w_iload_n dSL_canEncode_0 rfl 0 rfl ?_
  refine w_if_lt (tgt := 15) dSL_canEncode_1 (by decide) (rfl : v.toInt = v.toInt) (fun h1_ => ?_) (fun h1_ => ?_)
  · refine w_iconst (v := 0) dSL_canEncode_15 (by decide) ?_
    exact w_zret rfl dSL_canEncode_16 ⟨by decide, by decide⟩ ⟨rfl, ⟨by decide, by decide⟩, (Or.inl ⟨h1_, rfl⟩)⟩
  · refine w_iload_n dSL_canEncode_4 rfl 0 rfl ?_
    refine w_sipush (v := 255) dSL_canEncode_5 (by decide) ?_
    refine w_icmp_gt (tgt := 15) dSL_canEncode_8 (by decide) (rfl : v.toInt = v.toInt) li_255 (fun h2_ => ?_) (fun h2_ => ?_)
    · refine w_iconst (v := 0) dSL_canEncode_15 (by decide) ?_
      exact w_zret rfl dSL_canEncode_16 ⟨by decide, by decide⟩ ⟨rfl, ⟨by decide, by decide⟩, (Or.inr ⟨h1_, (Or.inl ⟨h2_, rfl⟩)⟩)⟩
    · refine w_iconst (v := 1) dSL_canEncode_11 (by decide) ?_
      refine w_goto (tgt := 16) dSL_canEncode_12 (by decide) ?_
      exact w_zret rfl dSL_canEncode_16 ⟨by decide, by decide⟩ ⟨rfl, ⟨by decide, by decide⟩, (Or.inr ⟨h1_, (Or.inr ⟨h2_, rfl⟩)⟩)⟩
def SP_S_coder_0 (Mz : mM) (r_ : Int32) : Prop := r_ = 0
set_option maxHeartbeats 4000000 in
set_option maxRecDepth 100000 in
theorem c_S_coder_0 {cls : List rf} (l : Launch) (G : va_G) (cy : Nat → ClassId) (ad : rf → Nat) (d : Nat) (Mz : mM) : WP cls l G cy ad yS_coder cS_coder 1 (some .byte) d 0 [(0, vR (91, 0, 0))] [] Mz (fun r M' => Mz = M' ∧ (r = 0) ∧ SP_S_coder_0 Mz r) := by
  refine w_getsC m_752 dS_coder_0 ?_
  refine w_if_eq (tgt := 13) dS_coder_3 (by decide) li_1 (fun h9 => (absurd h9 (by decide))) (fun h1_ => ?_)
  refine w_aload_n dS_coder_6 rfl 0 rfl ?_
  refine w_getSc (k := 0) rfl m_1871 dS_coder_7 ?_
  refine w_goto (tgt := 14) dS_coder_10 (by decide) ?_
  exact w_bret (ty := .byte) rfl dS_coder_14 rfl ⟨rfl, rfl, rfl⟩
def SP_S_isLatin1_0 (Mz : mM) (r_ : Int32) : Prop := r_ = 1
set_option maxHeartbeats 4000000 in
set_option maxRecDepth 100000 in
theorem c_S_isLatin1_0 {cls : List rf} (l : Launch) (G : va_G) (cy : Nat → ClassId) (ad : rf → Nat) (d : Nat) (Mz : mM) : WP cls l G cy ad yS_isLatin1 cS_isLatin1 1 (some .boolean) d 0 [(0, vR (91, 0, 0))] [] Mz (fun r M' => Mz = M' ∧ (r = 1) ∧ SP_S_isLatin1_0 Mz r) := by
  refine w_getsC m_752 dS_isLatin1_0 ?_
  refine w_if_eq (tgt := 17) dS_isLatin1_3 (by decide) li_1 (fun h9 => (absurd h9 (by decide))) (fun h1_ => ?_)
  refine w_aload_n dS_isLatin1_6 rfl 0 rfl ?_
  refine w_getSc (k := 0) rfl m_1871 dS_isLatin1_7 ?_
  refine w_if_ne (tgt := 17) dS_isLatin1_10 (by decide) li_0 (fun h9 => (absurd h9 (by decide))) (fun h2_ => ?_)
  refine w_iconst (v := 1) dS_isLatin1_13 (by decide) ?_
  refine w_goto (tgt := 18) dS_isLatin1_14 (by decide) ?_
  exact w_zret rfl dS_isLatin1_18 ⟨by decide, by decide⟩ ⟨rfl, rfl, rfl⟩
def SP_S_length_0 (Mz : mM) (r_ : Int32) : Prop := (SP_S_coder_0 Mz (0 : Int32)) ∧ r_ = 0
set_option maxHeartbeats 4000000 in
set_option maxRecDepth 100000 in
theorem c_S_length_0 {cls : List rf} (l : Launch) (G : va_G) (cy : Nat → ClassId) (ad : rf → Nat) (d : Nat) (Mz : mM) : WP cls l G cy ad yS_length cS_length 1 (some .int) (d + 1) 0 [(0, vR (91, 0, 0))] [] Mz (fun r M' => Mz = M' ∧ (r = 0) ∧ SP_S_length_0 Mz r) := by
  refine w_aload_n dS_length_0 rfl 0 rfl ?_
  refine w_getSv (k := 0) rfl m_1872 dS_length_1 ?_
  refine w_alenS (k := 0) (v := 0) rfl dS_length_4 rfl ?_
  refine w_aload_n dS_length_5 rfl 0 rfl ?_
  refine w_callStr (k := 0) rfl (as := []) (rest := [vI 0]) (c_S_coder_0 l G cy ad d Mz) kV_S_coder pnn_15 rfl (Nat.le_of_ble_eq_true rfl) m_758 rfl rfl (by decide) (Nat.le_of_ble_eq_true rfl) dS_length_6 (fun r1_ M2_ q3_ => ?_)
  obtain ⟨rfl, h4_, hs5_⟩ := q3_
  subst h4_
  refine w_ishr dS_length_9 (fun z6_ h7_ => ?_)
  obtain rfl : z6_ = 0 := h7_.trans (by decide)
  exact w_iret rfl dS_length_10 ⟨rfl, rfl, ⟨hs5_, rfl⟩⟩
def SP_SL_charAt_0 (v : Int32) (Mz : mM) (r_ : Int32) : Prop := ∃ z1_j : Nat, ((z1_j : Int) = v.toInt) ∧ ∃ z1_ : Int32, (z1_ = ([] : List Int32).getD z1_j 0) ∧ ∃ z2_ : Int32, (z2_ = z1_ &&& (255 : Int32)) ∧ (0 ≤ z2_.toInt ∧ z2_.toInt < ((2 ^ 8 : Nat) : Int)) ∧ ∃ z5_ : Int32, (z5_ = (z2_.toUInt32 % 65536).toInt32) ∧ (narrow .char (.int z5_) = .int z5_) ∧ r_ = z5_
theorem lf_c_SL_charAt_0_0 (v : Int32) (hv : 0 ≤ v.toInt ∧ v.toInt < 0) : 0 ≤ v.toInt ∧ v.toInt < 0 := by omega
set_option maxHeartbeats 4000000 in
set_option maxRecDepth 100000 in
theorem c_SL_charAt_0 {cls : List rf} (l : Launch) (G : va_G) (cy : Nat → ClassId) (ad : rf → Nat) (d : Nat) (v : Int32) (Mz : mM) (hv : 0 ≤ v.toInt ∧ v.toInt < 0) : WP cls l G cy ad ySL_charAt cSL_charAt 2 (some .char) (d + 3) 0 [(0, vR (90, 10, 0)), (1, vI v)] [] Mz (fun r M' => Mz = M' ∧ (narrow .char (.int r) = .int r) ∧ SP_SL_charAt_0 v Mz r) := by
  refine w_iload_n dSL_charAt_0 rfl 1 rfl ?_
  refine w_aload_n dSL_charAt_1 rfl 0 rfl ?_
  refine w_alenS (k := 0) (v := 0) rfl dSL_charAt_2 rfl ?_
  refine w_checkIndex m_1607 (lf_c_SL_charAt_0_0 v hv ) li_0 (Nat.le_of_ble_eq_true rfl) (by omega) dSL_charAt_3 ?_
  refine w_aload_n dSL_charAt_6 rfl 0 rfl ?_
  refine w_iload_n dSL_charAt_7 rfl 1 rfl ?_
  refine w_baldS (k := 0) rfl (rfl : v.toInt = v.toInt) (lf_c_SL_charAt_0_0 v hv ) dSL_charAt_8 (fun z1_j z1_k z1_ z1_h => ?_)
  refine w_sipush (v := 255) dSL_charAt_9 (by decide) ?_
  refine w_iand dSL_charAt_12 (fun z2_ h4_ => ?_)
  have h3_ : 0 ≤ z2_.toInt ∧ z2_.toInt < ((2 ^ 8 : Nat) : Int) := by rw [h4_]; exact andI _ 8 (by decide) (by decide)
  refine w_i2c dSL_charAt_13 (fun z5_ h6_ => ?_)
  have h7_ : narrow .char (.int z5_) = .int z5_ := by rw [h6_]; exact nar_c _
  exact w_bret (ty := .char) rfl dSL_charAt_14 h7_ ⟨rfl, h7_, ⟨z1_j, z1_k, z1_, z1_h, z2_, h4_, h3_, z5_, h6_, h7_, rfl⟩⟩
def SP_S_charAt_0 (v : Int32) (Mz : mM) (r_ : Int32) : Prop := (SP_S_isLatin1_0 Mz (1 : Int32)) ∧ ∃ r7_ : Int32, (SP_SL_charAt_0 v Mz r7_) ∧ (narrow .char (.int r7_) = .int r7_) ∧ r_ = r7_
set_option maxHeartbeats 4000000 in
set_option maxRecDepth 100000 in
theorem c_S_charAt_0 {cls : List rf} (l : Launch) (G : va_G) (cy : Nat → ClassId) (ad : rf → Nat) (d : Nat) (v : Int32) (Mz : mM) (hv : 0 ≤ v.toInt ∧ v.toInt < 0) : WP cls l G cy ad yS_charAt cS_charAt 2 (some .char) (d + 4) 0 [(0, vR (91, 0, 0)), (1, vI v)] [] Mz (fun r M' => Mz = M' ∧ (narrow .char (.int r) = .int r) ∧ SP_S_charAt_0 v Mz r) := by
  refine w_aload_n dS_charAt_0 rfl 0 rfl ?_
  refine w_callStr (k := 0) rfl (as := []) (rest := []) (c_S_isLatin1_0 l G cy ad (d + 3) Mz) kV_S_isLatin1 pnn_15 rfl (Nat.le_of_ble_eq_true rfl) m_748 rfl rfl (by decide) (Nat.le_of_ble_eq_true rfl) dS_charAt_1 (fun r1_ M2_ q3_ => ?_)
  obtain ⟨rfl, h4_, hs5_⟩ := q3_
  subst h4_
  refine w_if_eq (tgt := 16) dS_charAt_4 (by decide) li_1 (fun h9 => (absurd h9 (by decide))) (fun h6_ => ?_)
  refine w_aload_n dS_charAt_7 rfl 0 rfl ?_
  refine w_getSv (k := 0) rfl m_1872 dS_charAt_8 ?_
  refine w_iload_n dS_charAt_11 rfl 1 rfl ?_
  refine w_callS (as := [vR (90, 10, 0), vI v]) (rest := []) (c_SL_charAt_0 l G cy ad d v Mz hv) kS_SL_charAt pnn_14 (Nat.le_of_ble_eq_true rfl) m_1604 rfl rfl (by decide) (Nat.le_of_ble_eq_true rfl) dS_charAt_12 (fun r7_ M8_ q9_ => ?_)
  obtain ⟨rfl, h10_, hs11_⟩ := q9_
  exact w_bret (ty := .char) rfl dS_charAt_15 h10_ ⟨rfl, h10_, ⟨hs5_, r7_, hs11_, h10_, rfl⟩⟩
def ST_SL_indexOfChar_0_7 (v5_7 : Int32) (v5_7y : Int32) : Prop := False
def SP_SL_indexOfChar_0 (v : Int32) (u : Int32) (t : Int32) (Mz : mM) (r_ : Int32) : Prop := ∃ z1_ : Int32, (z1_ = v.toInt8.toInt32) ∧ ∃ v5_7 : Int32, (0 ≤ v5_7.toInt) ∧ (RCH (fun x_ y_ => ST_SL_indexOfChar_0_7 x_ y_) u v5_7) ∧ (t.toInt ≤ v5_7.toInt) ∧ r_ = (-1)
theorem lf_c_SL_indexOfChar_0_0 (t : Int32) (v5_7 : Int32) (ht : t.toInt ≤ 0) (hv0_7 : 0 ≤ v5_7.toInt) (h9 : v5_7.toInt < t.toInt) : False := by omega
set_option maxHeartbeats 4000000 in
set_option maxRecDepth 100000 in
theorem c_SL_indexOfChar_0 {cls : List rf} (l : Launch) (G : va_G) (cy : Nat → ClassId) (ad : rf → Nat) (d : Nat) (v : Int32) (u : Int32) (t : Int32) (Mz : mM) (hu : 0 ≤ u.toInt) (ht : t.toInt ≤ 0) : WP cls l G cy ad ySL_indexOfChar cSL_indexOfChar 6 (some .int) d 0 [(0, vR (90, 10, 0)), (1, vI v), (2, vI u), (3, vI t)] [] Mz (fun r M' => Mz = M' ∧ (True) ∧ SP_SL_indexOfChar_0 v u t Mz r) := by
  refine w_iload_n dSL_indexOfChar_0 rfl 1 rfl ?_
  refine w_i2b dSL_indexOfChar_1 (fun z1_ h2_ => ?_)
  refine w_istore (ls' := [(4, vI z1_), (0, vR (90, 10, 0)), (1, vI v), (2, vI u), (3, vI t)]) dSL_indexOfChar_2 (by decide) rfl ?_
  refine w_iload_n dSL_indexOfChar_4 rfl 3 rfl ?_
  refine w_istore (ls' := [(5, vI u), (4, vI z1_), (0, vR (90, 10, 0)), (1, vI v), (2, vI u), (3, vI t)]) dSL_indexOfChar_5 (by decide) rfl ?_
  have lp3_ : ∀ (nn_7 : Nat) (v5_7 : Int32) (hv0_7 : 0 ≤ v5_7.toInt) (hL_7 : RCH (fun x_ y_ => ST_SL_indexOfChar_0_7 x_ y_) u v5_7), (t.toInt - v5_7.toInt).toNat < nn_7 → WP cls l G cy ad ySL_indexOfChar cSL_indexOfChar 6 (some .int) d 7 [(5, vI v5_7), (4, vI z1_), (0, vR (90, 10, 0)), (1, vI v), (2, vI u), (3, vI t)] [] Mz (fun r M' => Mz = M' ∧ (True) ∧ SP_SL_indexOfChar_0 v u t Mz r) := by
    intro nn_7
    induction nn_7 with
    | zero => intro v5_7 hv0_7 hL_7 hm_7; exact absurd hm_7 (Nat.not_lt_zero _)
    | succ nn_7 ih_7 =>
      intro v5_7 hv0_7 hL_7 hm_7
      refine w_iload dSL_indexOfChar_7 0 rfl ?_
      refine w_iload_n dSL_indexOfChar_9 rfl 5 rfl ?_
      refine w_icmp_ge (tgt := 31) dSL_indexOfChar_10 (by decide) (rfl : v5_7.toInt = v5_7.toInt) (rfl : t.toInt = t.toInt) (fun h4_ => ?_) (fun h9 => (lf_c_SL_indexOfChar_0_0 t v5_7 ht hv0_7 h9 ).elim)
      refine w_iconst (v := (-1)) dSL_indexOfChar_31 (by decide) ?_
      exact w_iret rfl dSL_indexOfChar_32 ⟨rfl, trivial, ⟨z1_, h2_, v5_7, hv0_7, hL_7, h4_, rfl⟩⟩
  exact lp3_ _ u hu RCH.refl (Nat.lt_succ_self _)
def SP_SL_indexOf_0 (v : Int32) (u : Int32) (t : Int32) (Mz : mM) (r_ : Int32) : Prop := ∃ r1_ : Int32, (SP_SL_canEncode_0 v Mz r1_) ∧ ((0 ≤ r1_.toInt ∧ r1_.toInt ≤ 1)) ∧ (((¬ r1_.toInt = 0) ∧ ∃ z7_ : Int32, ((z7_.toInt = u.toInt ∧ 0 ≤ u.toInt) ∨ (z7_.toInt = 0 ∧ u.toInt ≤ 0)) ∧ ∃ z9_ : Int32, ((z9_.toInt = t.toInt ∧ t.toInt ≤ 0) ∨ (z9_.toInt = 0 ∧ 0 ≤ t.toInt)) ∧ (z9_.toInt ≤ z7_.toInt) ∧ r_ = (-1)) ∨ ((r1_.toInt = 0) ∧ r_ = (-1)))
theorem lf_c_SL_indexOf_0_0 (u : Int32) (t : Int32) (z7_ : Int32) (z9_ : Int32) (h8_ : (z7_.toInt = u.toInt ∧ 0 ≤ u.toInt) ∨ (z7_.toInt = 0 ∧ u.toInt ≤ 0)) (h10_ : (z9_.toInt = t.toInt ∧ t.toInt ≤ 0) ∨ (z9_.toInt = 0 ∧ 0 ≤ t.toInt)) (h9 : z7_.toInt < z9_.toInt) : False := by omega
set_option maxHeartbeats 4000000 in
set_option maxRecDepth 100000 in
theorem c_SL_indexOf_0 {cls : List rf} (l : Launch) (G : va_G) (cy : Nat → ClassId) (ad : rf → Nat) (d : Nat) (v : Int32) (u : Int32) (t : Int32) (Mz : mM) : WP cls l G cy ad ySL_indexOf cSL_indexOf 4 (some .int) (d + 1) 0 [(0, vR (90, 10, 0)), (1, vI v), (2, vI u), (3, vI t)] [] Mz (fun r M' => Mz = M' ∧ (True) ∧ SP_SL_indexOf_0 v u t Mz r) := by
  refine w_iload_n dSL_indexOf_0 rfl 1 rfl ?_
  refine w_callS (as := [vI v]) (rest := []) (c_SL_canEncode_0 l G cy ad d v Mz) kS_SL_canEncode pnn_14 (Nat.le_of_ble_eq_true rfl) m_765 rfl rfl (by decide) (Nat.le_of_ble_eq_true rfl) dSL_indexOf_1 (fun r1_ M2_ q3_ => ?_)
  obtain ⟨rfl, h4_, hs5_⟩ := q3_
  refine w_if_ne (tgt := 9) dSL_indexOf_4 (by decide) (rfl : r1_.toInt = r1_.toInt) (fun h6_ => ?_) (fun h6_ => ?_)
  · refine w_iload_n dSL_indexOf_9 rfl 2 rfl ?_
    refine w_iconst (v := 0) dSL_indexOf_10 (by decide) ?_
    refine w_max m_768 m_206 m_86 m_207 (rfl : u.toInt = u.toInt) li_0 (Nat.le_of_ble_eq_true rfl) (by omega) dSL_indexOf_11 (fun z7_ h8_ => ?_)
    refine w_istore_n (ls' := [(2, vI z7_), (0, vR (90, 10, 0)), (1, vI v), (3, vI t)]) dSL_indexOf_14 rfl (by decide) rfl ?_
    refine w_iload_n dSL_indexOf_15 rfl 3 rfl ?_
    refine w_aload_n dSL_indexOf_16 rfl 1 rfl ?_
    refine w_alenS (k := 0) (v := 0) rfl dSL_indexOf_17 rfl ?_
    refine w_min m_769 m_770 m_86 m_771 (rfl : t.toInt = t.toInt) li_0 (Nat.le_of_ble_eq_true rfl) (by omega) dSL_indexOf_18 (fun z9_ h10_ => ?_)
    refine w_istore_n (ls' := [(3, vI z9_), (2, vI z7_), (0, vR (90, 10, 0)), (1, vI v)]) dSL_indexOf_21 rfl (by decide) rfl ?_
    refine w_iload_n dSL_indexOf_22 rfl 1 rfl ?_
    refine w_iload_n dSL_indexOf_23 rfl 0 rfl ?_
    refine w_icmp_lt (tgt := 29) dSL_indexOf_24 (by decide) (rfl : z7_.toInt = z7_.toInt) (rfl : z9_.toInt = z9_.toInt) (fun h9 => (lf_c_SL_indexOf_0_0 u t z7_ z9_ h8_ h10_ h9 ).elim) (fun h11_ => ?_)
    refine w_iconst (v := (-1)) dSL_indexOf_27 (by decide) ?_
    exact w_iret rfl dSL_indexOf_28 ⟨rfl, trivial, ⟨r1_, hs5_, h4_, (Or.inl ⟨h6_, z7_, h8_, z9_, h10_, h11_, rfl⟩)⟩⟩
  · refine w_iconst (v := (-1)) dSL_indexOf_7 (by decide) ?_
    exact w_iret rfl dSL_indexOf_8 ⟨rfl, trivial, ⟨r1_, hs5_, h4_, (Or.inr ⟨h6_, rfl⟩)⟩⟩
def SP_S_indexOf2_0 (v : Int32) (u : Int32) (Mz : mM) (r_ : Int32) : Prop := (SP_S_isLatin1_0 Mz (1 : Int32)) ∧ (SP_S_length_0 Mz (0 : Int32)) ∧ ∃ r12_ : Int32, (SP_SL_indexOf_0 v u 0 Mz r12_) ∧ r_ = r12_
set_option maxHeartbeats 4000000 in
set_option maxRecDepth 100000 in
theorem c_S_indexOf2_0 {cls : List rf} (l : Launch) (G : va_G) (cy : Nat → ClassId) (ad : rf → Nat) (d : Nat) (v : Int32) (u : Int32) (Mz : mM) : WP cls l G cy ad yS_indexOf2 cS_indexOf2 3 (some .int) (d + 2) 0 [(0, vR (91, 0, 0)), (1, vI v), (2, vI u)] [] Mz (fun r M' => Mz = M' ∧ (True) ∧ SP_S_indexOf2_0 v u Mz r) := by
  refine w_aload_n dS_indexOf2_0 rfl 0 rfl ?_
  refine w_callStr (k := 0) rfl (as := []) (rest := []) (c_S_isLatin1_0 l G cy ad (d + 1) Mz) kV_S_isLatin1 pnn_15 rfl (Nat.le_of_ble_eq_true rfl) m_748 rfl rfl (by decide) (Nat.le_of_ble_eq_true rfl) dS_indexOf2_1 (fun r1_ M2_ q3_ => ?_)
  obtain ⟨rfl, h4_, hs5_⟩ := q3_
  subst h4_
  refine w_if_eq (tgt := 23) dS_indexOf2_4 (by decide) li_1 (fun h9 => (absurd h9 (by decide))) (fun h6_ => ?_)
  refine w_aload_n dS_indexOf2_7 rfl 0 rfl ?_
  refine w_getSv (k := 0) rfl m_1872 dS_indexOf2_8 ?_
  refine w_iload_n dS_indexOf2_11 rfl 1 rfl ?_
  refine w_iload_n dS_indexOf2_12 rfl 2 rfl ?_
  refine w_aload_n dS_indexOf2_13 rfl 0 rfl ?_
  refine w_callStr (k := 0) rfl (as := []) (rest := [vI u, vI v, vR (90, 10, 0)]) (c_S_length_0 l G cy ad d Mz) kV_S_length pnn_15 rfl (Nat.le_of_ble_eq_true rfl) m_754 rfl rfl (by decide) (Nat.le_of_ble_eq_true rfl) dS_indexOf2_14 (fun r7_ M8_ q9_ => ?_)
  obtain ⟨rfl, h10_, hs11_⟩ := q9_
  subst h10_
  refine w_callS (as := [vR (90, 10, 0), vI v, vI u, vI 0]) (rest := []) (c_SL_indexOf_0 l G cy ad d v u 0 Mz) kS_SL_indexOf pnn_14 (Nat.le_of_ble_eq_true rfl) m_762 rfl rfl (by decide) (Nat.le_of_ble_eq_true rfl) dS_indexOf2_17 (fun r12_ M13_ q14_ => ?_)
  obtain ⟨rfl, h15_, hs16_⟩ := q14_
  refine w_goto (tgt := 36) dS_indexOf2_20 (by decide) ?_
  exact w_iret rfl dS_indexOf2_36 ⟨rfl, trivial, ⟨hs5_, hs11_, r12_, hs16_, rfl⟩⟩
def SP_S_indexOf_0 (v : Int32) (Mz : mM) (r_ : Int32) : Prop := ∃ r1_ : Int32, (SP_S_indexOf2_0 v 0 Mz r1_) ∧ r_ = r1_
set_option maxHeartbeats 4000000 in
set_option maxRecDepth 100000 in
theorem c_S_indexOf_0 {cls : List rf} (l : Launch) (G : va_G) (cy : Nat → ClassId) (ad : rf → Nat) (d : Nat) (v : Int32) (Mz : mM) : WP cls l G cy ad yS_indexOf cS_indexOf 2 (some .int) (d + 3) 0 [(0, vR (91, 0, 0)), (1, vI v)] [] Mz (fun r M' => Mz = M' ∧ (True) ∧ SP_S_indexOf_0 v Mz r) := by
  refine w_aload_n dS_indexOf_0 rfl 0 rfl ?_
  refine w_iload_n dS_indexOf_1 rfl 1 rfl ?_
  refine w_iconst (v := 0) dS_indexOf_2 (by decide) ?_
  refine w_callStr (k := 0) rfl (as := [vI v, vI 0]) (rest := []) (c_S_indexOf2_0 l G cy ad d v 0 Mz) kV_S_indexOf2 pnn_15 rfl (Nat.le_of_ble_eq_true rfl) m_744 rfl rfl (by decide) (Nat.le_of_ble_eq_true rfl) dS_indexOf_3 (fun r1_ M2_ q3_ => ?_)
  obtain ⟨rfl, h4_, hs5_⟩ := q3_
  exact w_iret rfl dS_indexOf_6 ⟨rfl, trivial, ⟨r1_, hs5_, rfl⟩⟩
def SP_S_coder_1 (Mz : mM) (r_ : Int32) : Prop := r_ = 0
set_option maxHeartbeats 4000000 in
set_option maxRecDepth 100000 in
theorem c_S_coder_1 {cls : List rf} (l : Launch) (G : va_G) (cy : Nat → ClassId) (ad : rf → Nat) (d : Nat) (Mz : mM) : WP cls l G cy ad yS_coder cS_coder 1 (some .byte) d 0 [(0, vR (91, 1, 0))] [] Mz (fun r M' => Mz = M' ∧ (r = 0) ∧ SP_S_coder_1 Mz r) := by
  refine w_getsC m_752 dS_coder_0 ?_
  refine w_if_eq (tgt := 13) dS_coder_3 (by decide) li_1 (fun h9 => (absurd h9 (by decide))) (fun h1_ => ?_)
  refine w_aload_n dS_coder_6 rfl 0 rfl ?_
  refine w_getSc (k := 1) rfl m_1871 dS_coder_7 ?_
  refine w_goto (tgt := 14) dS_coder_10 (by decide) ?_
  exact w_bret (ty := .byte) rfl dS_coder_14 rfl ⟨rfl, rfl, rfl⟩
def SP_S_isLatin1_1 (Mz : mM) (r_ : Int32) : Prop := r_ = 1
set_option maxHeartbeats 4000000 in
set_option maxRecDepth 100000 in
theorem c_S_isLatin1_1 {cls : List rf} (l : Launch) (G : va_G) (cy : Nat → ClassId) (ad : rf → Nat) (d : Nat) (Mz : mM) : WP cls l G cy ad yS_isLatin1 cS_isLatin1 1 (some .boolean) d 0 [(0, vR (91, 1, 0))] [] Mz (fun r M' => Mz = M' ∧ (r = 1) ∧ SP_S_isLatin1_1 Mz r) := by
  refine w_getsC m_752 dS_isLatin1_0 ?_
  refine w_if_eq (tgt := 17) dS_isLatin1_3 (by decide) li_1 (fun h9 => (absurd h9 (by decide))) (fun h1_ => ?_)
  refine w_aload_n dS_isLatin1_6 rfl 0 rfl ?_
  refine w_getSc (k := 1) rfl m_1871 dS_isLatin1_7 ?_
  refine w_if_ne (tgt := 17) dS_isLatin1_10 (by decide) li_0 (fun h9 => (absurd h9 (by decide))) (fun h2_ => ?_)
  refine w_iconst (v := 1) dS_isLatin1_13 (by decide) ?_
  refine w_goto (tgt := 18) dS_isLatin1_14 (by decide) ?_
  exact w_zret rfl dS_isLatin1_18 ⟨by decide, by decide⟩ ⟨rfl, rfl, rfl⟩
def SP_S_length_1 (Mz : mM) (r_ : Int32) : Prop := (SP_S_coder_1 Mz (0 : Int32)) ∧ r_ = 4
set_option maxHeartbeats 4000000 in
set_option maxRecDepth 100000 in
theorem c_S_length_1 {cls : List rf} (l : Launch) (G : va_G) (cy : Nat → ClassId) (ad : rf → Nat) (d : Nat) (Mz : mM) : WP cls l G cy ad yS_length cS_length 1 (some .int) (d + 1) 0 [(0, vR (91, 1, 0))] [] Mz (fun r M' => Mz = M' ∧ (r = 4) ∧ SP_S_length_1 Mz r) := by
  refine w_aload_n dS_length_0 rfl 0 rfl ?_
  refine w_getSv (k := 1) rfl m_1872 dS_length_1 ?_
  refine w_alenS (k := 1) (v := 4) rfl dS_length_4 rfl ?_
  refine w_aload_n dS_length_5 rfl 0 rfl ?_
  refine w_callStr (k := 1) rfl (as := []) (rest := [vI 4]) (c_S_coder_1 l G cy ad d Mz) kV_S_coder pnn_15 rfl (Nat.le_of_ble_eq_true rfl) m_758 rfl rfl (by decide) (Nat.le_of_ble_eq_true rfl) dS_length_6 (fun r1_ M2_ q3_ => ?_)
  obtain ⟨rfl, h4_, hs5_⟩ := q3_
  subst h4_
  refine w_ishr dS_length_9 (fun z6_ h7_ => ?_)
  obtain rfl : z6_ = 4 := h7_.trans (by decide)
  exact w_iret rfl dS_length_10 ⟨rfl, rfl, ⟨hs5_, rfl⟩⟩
def SP_SL_charAt_1 (v : Int32) (Mz : mM) (r_ : Int32) : Prop := ∃ z1_j : Nat, ((z1_j : Int) = v.toInt) ∧ ∃ z1_ : Int32, (z1_ = ([108, 111, 121, 112] : List Int32).getD z1_j 0) ∧ ∃ z2_ : Int32, (z2_ = z1_ &&& (255 : Int32)) ∧ (0 ≤ z2_.toInt ∧ z2_.toInt < ((2 ^ 8 : Nat) : Int)) ∧ ∃ z5_ : Int32, (z5_ = (z2_.toUInt32 % 65536).toInt32) ∧ (narrow .char (.int z5_) = .int z5_) ∧ r_ = z5_
theorem lf_c_SL_charAt_1_0 (v : Int32) (hv : 0 ≤ v.toInt ∧ v.toInt < 4) : 0 ≤ v.toInt ∧ v.toInt < 4 := by omega
set_option maxHeartbeats 4000000 in
set_option maxRecDepth 100000 in
theorem c_SL_charAt_1 {cls : List rf} (l : Launch) (G : va_G) (cy : Nat → ClassId) (ad : rf → Nat) (d : Nat) (v : Int32) (Mz : mM) (hv : 0 ≤ v.toInt ∧ v.toInt < 4) : WP cls l G cy ad ySL_charAt cSL_charAt 2 (some .char) (d + 3) 0 [(0, vR (90, 11, 0)), (1, vI v)] [] Mz (fun r M' => Mz = M' ∧ (narrow .char (.int r) = .int r) ∧ SP_SL_charAt_1 v Mz r) := by
  refine w_iload_n dSL_charAt_0 rfl 1 rfl ?_
  refine w_aload_n dSL_charAt_1 rfl 0 rfl ?_
  refine w_alenS (k := 1) (v := 4) rfl dSL_charAt_2 rfl ?_
  refine w_checkIndex m_1607 (lf_c_SL_charAt_1_0 v hv ) li_4 (Nat.le_of_ble_eq_true rfl) (by omega) dSL_charAt_3 ?_
  refine w_aload_n dSL_charAt_6 rfl 0 rfl ?_
  refine w_iload_n dSL_charAt_7 rfl 1 rfl ?_
  refine w_baldS (k := 1) rfl (rfl : v.toInt = v.toInt) (lf_c_SL_charAt_1_0 v hv ) dSL_charAt_8 (fun z1_j z1_k z1_ z1_h => ?_)
  refine w_sipush (v := 255) dSL_charAt_9 (by decide) ?_
  refine w_iand dSL_charAt_12 (fun z2_ h4_ => ?_)
  have h3_ : 0 ≤ z2_.toInt ∧ z2_.toInt < ((2 ^ 8 : Nat) : Int) := by rw [h4_]; exact andI _ 8 (by decide) (by decide)
  refine w_i2c dSL_charAt_13 (fun z5_ h6_ => ?_)
  have h7_ : narrow .char (.int z5_) = .int z5_ := by rw [h6_]; exact nar_c _
  exact w_bret (ty := .char) rfl dSL_charAt_14 h7_ ⟨rfl, h7_, ⟨z1_j, z1_k, z1_, z1_h, z2_, h4_, h3_, z5_, h6_, h7_, rfl⟩⟩
def SP_S_charAt_1 (v : Int32) (Mz : mM) (r_ : Int32) : Prop := (SP_S_isLatin1_1 Mz (1 : Int32)) ∧ ∃ r7_ : Int32, (SP_SL_charAt_1 v Mz r7_) ∧ (narrow .char (.int r7_) = .int r7_) ∧ r_ = r7_
set_option maxHeartbeats 4000000 in
set_option maxRecDepth 100000 in
theorem c_S_charAt_1 {cls : List rf} (l : Launch) (G : va_G) (cy : Nat → ClassId) (ad : rf → Nat) (d : Nat) (v : Int32) (Mz : mM) (hv : 0 ≤ v.toInt ∧ v.toInt < 4) : WP cls l G cy ad yS_charAt cS_charAt 2 (some .char) (d + 4) 0 [(0, vR (91, 1, 0)), (1, vI v)] [] Mz (fun r M' => Mz = M' ∧ (narrow .char (.int r) = .int r) ∧ SP_S_charAt_1 v Mz r) := by
  refine w_aload_n dS_charAt_0 rfl 0 rfl ?_
  refine w_callStr (k := 1) rfl (as := []) (rest := []) (c_S_isLatin1_1 l G cy ad (d + 3) Mz) kV_S_isLatin1 pnn_15 rfl (Nat.le_of_ble_eq_true rfl) m_748 rfl rfl (by decide) (Nat.le_of_ble_eq_true rfl) dS_charAt_1 (fun r1_ M2_ q3_ => ?_)
  obtain ⟨rfl, h4_, hs5_⟩ := q3_
  subst h4_
  refine w_if_eq (tgt := 16) dS_charAt_4 (by decide) li_1 (fun h9 => (absurd h9 (by decide))) (fun h6_ => ?_)
  refine w_aload_n dS_charAt_7 rfl 0 rfl ?_
  refine w_getSv (k := 1) rfl m_1872 dS_charAt_8 ?_
  refine w_iload_n dS_charAt_11 rfl 1 rfl ?_
  refine w_callS (as := [vR (90, 11, 0), vI v]) (rest := []) (c_SL_charAt_1 l G cy ad d v Mz hv) kS_SL_charAt pnn_14 (Nat.le_of_ble_eq_true rfl) m_1604 rfl rfl (by decide) (Nat.le_of_ble_eq_true rfl) dS_charAt_12 (fun r7_ M8_ q9_ => ?_)
  obtain ⟨rfl, h10_, hs11_⟩ := q9_
  exact w_bret (ty := .char) rfl dS_charAt_15 h10_ ⟨rfl, h10_, ⟨hs5_, r7_, hs11_, h10_, rfl⟩⟩
def ST_SL_indexOfChar_1_7 (t : Int32) (z1_ : Int32) (v5_7 : Int32) (v5_7y : Int32) : Prop := (0 ≤ v5_7.toInt) ∧ (v5_7.toInt < t.toInt) ∧ ∃ z5_j : Nat, ((z5_j : Int) = v5_7.toInt) ∧ ∃ z5_ : Int32, (z5_ = ([108, 111, 121, 112] : List Int32).getD z5_j 0) ∧ (¬ z5_.toInt = z1_.toInt) ∧ ∃ z7_ : Int32, (z7_.toInt = v5_7.toInt + 1) ∧ v5_7y = z7_
def SP_SL_indexOfChar_1 (v : Int32) (u : Int32) (t : Int32) (Mz : mM) (r_ : Int32) : Prop := ∃ z1_ : Int32, (z1_ = v.toInt8.toInt32) ∧ ∃ v5_7 : Int32, (0 ≤ v5_7.toInt) ∧ (RCH (fun x_ y_ => ST_SL_indexOfChar_1_7 t z1_ x_ y_) u v5_7) ∧ (((t.toInt ≤ v5_7.toInt) ∧ r_ = (-1)) ∨ ((v5_7.toInt < t.toInt) ∧ ∃ z5_j : Nat, ((z5_j : Int) = v5_7.toInt) ∧ ∃ z5_ : Int32, (z5_ = ([108, 111, 121, 112] : List Int32).getD z5_j 0) ∧ (z5_.toInt = z1_.toInt) ∧ r_ = v5_7))
theorem lf_c_SL_indexOfChar_1_0 (t : Int32) (v5_7 : Int32) (ht : t.toInt ≤ 4) (hv0_7 : 0 ≤ v5_7.toInt) (h4_ : v5_7.toInt < t.toInt) : 0 ≤ v5_7.toInt ∧ v5_7.toInt < 4 := by omega
theorem lf_c_SL_indexOfChar_1_1 (t : Int32) (v5_7 : Int32) (ht : t.toInt ≤ 4) (hv0_7 : 0 ≤ v5_7.toInt) (h4_ : v5_7.toInt < t.toInt) : -2147483648 ≤ v5_7.toInt + 1 ∧ v5_7.toInt + 1 < 2147483648 := by omega
theorem lf_c_SL_indexOfChar_1_3 (t : Int32) (v5_7 : Int32) (z7_ : Int32) (h4_ : v5_7.toInt < t.toInt) (h8_ : z7_.toInt = v5_7.toInt + 1) : (t.toInt - z7_.toInt).toNat < (t.toInt - v5_7.toInt).toNat := by omega
set_option maxHeartbeats 4000000 in
set_option maxRecDepth 100000 in
theorem c_SL_indexOfChar_1 {cls : List rf} (l : Launch) (G : va_G) (cy : Nat → ClassId) (ad : rf → Nat) (d : Nat) (v : Int32) (u : Int32) (t : Int32) (Mz : mM) (hu : 0 ≤ u.toInt) (ht : t.toInt ≤ 4) : WP cls l G cy ad ySL_indexOfChar cSL_indexOfChar 6 (some .int) d 0 [(0, vR (90, 11, 0)), (1, vI v), (2, vI u), (3, vI t)] [] Mz (fun r M' => Mz = M' ∧ (True) ∧ SP_SL_indexOfChar_1 v u t Mz r) := by
  refine w_iload_n dSL_indexOfChar_0 rfl 1 rfl ?_
  refine w_i2b dSL_indexOfChar_1 (fun z1_ h2_ => ?_)
  refine w_istore (ls' := [(4, vI z1_), (0, vR (90, 11, 0)), (1, vI v), (2, vI u), (3, vI t)]) dSL_indexOfChar_2 (by decide) rfl ?_
  refine w_iload_n dSL_indexOfChar_4 rfl 3 rfl ?_
  refine w_istore (ls' := [(5, vI u), (4, vI z1_), (0, vR (90, 11, 0)), (1, vI v), (2, vI u), (3, vI t)]) dSL_indexOfChar_5 (by decide) rfl ?_
  have lp3_ : ∀ (nn_7 : Nat) (v5_7 : Int32) (hv0_7 : 0 ≤ v5_7.toInt) (hL_7 : RCH (fun x_ y_ => ST_SL_indexOfChar_1_7 t z1_ x_ y_) u v5_7), (t.toInt - v5_7.toInt).toNat < nn_7 → WP cls l G cy ad ySL_indexOfChar cSL_indexOfChar 6 (some .int) d 7 [(5, vI v5_7), (4, vI z1_), (0, vR (90, 11, 0)), (1, vI v), (2, vI u), (3, vI t)] [] Mz (fun r M' => Mz = M' ∧ (True) ∧ SP_SL_indexOfChar_1 v u t Mz r) := by
    intro nn_7
    induction nn_7 with
    | zero => intro v5_7 hv0_7 hL_7 hm_7; exact absurd hm_7 (Nat.not_lt_zero _)
    | succ nn_7 ih_7 =>
      intro v5_7 hv0_7 hL_7 hm_7
      refine w_iload dSL_indexOfChar_7 0 rfl ?_
      refine w_iload_n dSL_indexOfChar_9 rfl 5 rfl ?_
      refine w_icmp_ge (tgt := 31) dSL_indexOfChar_10 (by decide) (rfl : v5_7.toInt = v5_7.toInt) (rfl : t.toInt = t.toInt) (fun h4_ => ?_) (fun h4_ => ?_)
      · refine w_iconst (v := (-1)) dSL_indexOfChar_31 (by decide) ?_
        exact w_iret rfl dSL_indexOfChar_32 ⟨rfl, trivial, ⟨z1_, h2_, v5_7, hv0_7, hL_7, (Or.inl ⟨h4_, rfl⟩)⟩⟩
      · refine w_aload_n dSL_indexOfChar_13 rfl 2 rfl ?_
        refine w_iload dSL_indexOfChar_14 0 rfl ?_
        refine w_baldS (k := 1) rfl (rfl : v5_7.toInt = v5_7.toInt) (lf_c_SL_indexOfChar_1_0 t v5_7 ht hv0_7 h4_ ) dSL_indexOfChar_16 (fun z5_j z5_k z5_ z5_h => ?_)
        refine w_iload dSL_indexOfChar_17 1 rfl ?_
        refine w_icmp_ne (tgt := 25) dSL_indexOfChar_19 (by decide) (rfl : z5_.toInt = z5_.toInt) (rfl : z1_.toInt = z1_.toInt) (fun h6_ => ?_) (fun h6_ => ?_)
        · refine w_iincB (j := 0) (f := fun z7_ => [(5, vI z7_), (4, vI z1_), (0, vR (90, 11, 0)), (1, vI v), (2, vI u), (3, vI t)]) dSL_indexOfChar_25 rfl (by decide) (fun _ => rfl) (rfl : v5_7.toInt = v5_7.toInt) li_1 (lf_c_SL_indexOfChar_1_1 t v5_7 ht hv0_7 h4_ ) (fun z7_ h8_ => ?_)
          refine w_goto (tgt := 7) dSL_indexOfChar_28 (by decide) ?_
          refine w_loc (ls' := [(5, vI z7_), (4, vI z1_), (0, vR (90, 11, 0)), (1, vI v), (2, vI u), (3, vI t)]) [0, 1, 2, 3, 4, 5] rfl ?_
          exact ih_7 z7_ (lf_c_X5_takeFrom_3 v5_7 z7_ hv0_7 h8_ ) (RCH.tail hL_7 ⟨hv0_7, h4_, z5_j, z5_k, z5_, z5_h, h6_, z7_, h8_, rfl⟩) (Nat.lt_of_lt_of_le (lf_c_SL_indexOfChar_1_3 t v5_7 z7_ h4_ h8_ ) (Nat.le_of_lt_succ hm_7))
        · refine w_iload dSL_indexOfChar_22 0 rfl ?_
          exact w_iret rfl dSL_indexOfChar_24 ⟨rfl, trivial, ⟨z1_, h2_, v5_7, hv0_7, hL_7, (Or.inr ⟨h4_, z5_j, z5_k, z5_, z5_h, h6_, rfl⟩)⟩⟩
  exact lp3_ _ u hu RCH.refl (Nat.lt_succ_self _)
def SP_SL_indexOf_1 (v : Int32) (u : Int32) (t : Int32) (Mz : mM) (r_ : Int32) : Prop := ∃ r1_ : Int32, (SP_SL_canEncode_0 v Mz r1_) ∧ ((0 ≤ r1_.toInt ∧ r1_.toInt ≤ 1)) ∧ (((¬ r1_.toInt = 0) ∧ ∃ z7_ : Int32, ((z7_.toInt = u.toInt ∧ 0 ≤ u.toInt) ∨ (z7_.toInt = 0 ∧ u.toInt ≤ 0)) ∧ ∃ z9_ : Int32, ((z9_.toInt = t.toInt ∧ t.toInt ≤ 4) ∨ (z9_.toInt = 4 ∧ 4 ≤ t.toInt)) ∧ (((z7_.toInt < z9_.toInt) ∧ ∃ r12_ : Int32, (SP_SL_indexOfChar_1 v z7_ z9_ Mz r12_) ∧ r_ = r12_) ∨ ((z9_.toInt ≤ z7_.toInt) ∧ r_ = (-1)))) ∨ ((r1_.toInt = 0) ∧ r_ = (-1)))
theorem lf_c_SL_indexOf_1_0 (u : Int32) (z7_ : Int32) (h8_ : (z7_.toInt = u.toInt ∧ 0 ≤ u.toInt) ∨ (z7_.toInt = 0 ∧ u.toInt ≤ 0)) : 0 ≤ z7_.toInt := by omega
theorem lf_c_SL_indexOf_1_1 (t : Int32) (z9_ : Int32) (h10_ : (z9_.toInt = t.toInt ∧ t.toInt ≤ 4) ∨ (z9_.toInt = 4 ∧ 4 ≤ t.toInt)) : z9_.toInt ≤ 4 := by omega
set_option maxHeartbeats 4000000 in
set_option maxRecDepth 100000 in
theorem c_SL_indexOf_1 {cls : List rf} (l : Launch) (G : va_G) (cy : Nat → ClassId) (ad : rf → Nat) (d : Nat) (v : Int32) (u : Int32) (t : Int32) (Mz : mM) : WP cls l G cy ad ySL_indexOf cSL_indexOf 4 (some .int) (d + 1) 0 [(0, vR (90, 11, 0)), (1, vI v), (2, vI u), (3, vI t)] [] Mz (fun r M' => Mz = M' ∧ (True) ∧ SP_SL_indexOf_1 v u t Mz r) := by
  refine w_iload_n dSL_indexOf_0 rfl 1 rfl ?_
  refine w_callS (as := [vI v]) (rest := []) (c_SL_canEncode_0 l G cy ad d v Mz) kS_SL_canEncode pnn_14 (Nat.le_of_ble_eq_true rfl) m_765 rfl rfl (by decide) (Nat.le_of_ble_eq_true rfl) dSL_indexOf_1 (fun r1_ M2_ q3_ => ?_)
  obtain ⟨rfl, h4_, hs5_⟩ := q3_
  refine w_if_ne (tgt := 9) dSL_indexOf_4 (by decide) (rfl : r1_.toInt = r1_.toInt) (fun h6_ => ?_) (fun h6_ => ?_)
  · refine w_iload_n dSL_indexOf_9 rfl 2 rfl ?_
    refine w_iconst (v := 0) dSL_indexOf_10 (by decide) ?_
    refine w_max m_768 m_206 m_86 m_207 (rfl : u.toInt = u.toInt) li_0 (Nat.le_of_ble_eq_true rfl) (by omega) dSL_indexOf_11 (fun z7_ h8_ => ?_)
    refine w_istore_n (ls' := [(2, vI z7_), (0, vR (90, 11, 0)), (1, vI v), (3, vI t)]) dSL_indexOf_14 rfl (by decide) rfl ?_
    refine w_iload_n dSL_indexOf_15 rfl 3 rfl ?_
    refine w_aload_n dSL_indexOf_16 rfl 1 rfl ?_
    refine w_alenS (k := 1) (v := 4) rfl dSL_indexOf_17 rfl ?_
    refine w_min m_769 m_770 m_86 m_771 (rfl : t.toInt = t.toInt) li_4 (Nat.le_of_ble_eq_true rfl) (by omega) dSL_indexOf_18 (fun z9_ h10_ => ?_)
    refine w_istore_n (ls' := [(3, vI z9_), (2, vI z7_), (0, vR (90, 11, 0)), (1, vI v)]) dSL_indexOf_21 rfl (by decide) rfl ?_
    refine w_iload_n dSL_indexOf_22 rfl 1 rfl ?_
    refine w_iload_n dSL_indexOf_23 rfl 0 rfl ?_
    refine w_icmp_lt (tgt := 29) dSL_indexOf_24 (by decide) (rfl : z7_.toInt = z7_.toInt) (rfl : z9_.toInt = z9_.toInt) (fun h11_ => ?_) (fun h11_ => ?_)
    · refine w_aload_n dSL_indexOf_29 rfl 2 rfl ?_
      refine w_iload_n dSL_indexOf_30 rfl 3 rfl ?_
      refine w_iload_n dSL_indexOf_31 rfl 1 rfl ?_
      refine w_iload_n dSL_indexOf_32 rfl 0 rfl ?_
      refine w_callS (as := [vR (90, 11, 0), vI v, vI z7_, vI z9_]) (rest := []) (c_SL_indexOfChar_1 l G cy ad d v z7_ z9_ Mz (lf_c_SL_indexOf_1_0 u z7_ h8_ ) (lf_c_SL_indexOf_1_1 t z9_ h10_ )) kS_SL_indexOfChar pnn_14 (Nat.le_of_ble_eq_true rfl) m_772 rfl rfl (by decide) (Nat.le_of_ble_eq_true rfl) dSL_indexOf_33 (fun r12_ M13_ q14_ => ?_)
      obtain ⟨rfl, h15_, hs16_⟩ := q14_
      exact w_iret rfl dSL_indexOf_36 ⟨rfl, trivial, ⟨r1_, hs5_, h4_, (Or.inl ⟨h6_, z7_, h8_, z9_, h10_, (Or.inl ⟨h11_, r12_, hs16_, rfl⟩)⟩)⟩⟩
    · refine w_iconst (v := (-1)) dSL_indexOf_27 (by decide) ?_
      exact w_iret rfl dSL_indexOf_28 ⟨rfl, trivial, ⟨r1_, hs5_, h4_, (Or.inl ⟨h6_, z7_, h8_, z9_, h10_, (Or.inr ⟨h11_, rfl⟩)⟩)⟩⟩
  · refine w_iconst (v := (-1)) dSL_indexOf_7 (by decide) ?_
    exact w_iret rfl dSL_indexOf_8 ⟨rfl, trivial, ⟨r1_, hs5_, h4_, (Or.inr ⟨h6_, rfl⟩)⟩⟩
def SP_S_indexOf2_1 (v : Int32) (u : Int32) (Mz : mM) (r_ : Int32) : Prop := (SP_S_isLatin1_1 Mz (1 : Int32)) ∧ (SP_S_length_1 Mz (4 : Int32)) ∧ ∃ r12_ : Int32, (SP_SL_indexOf_1 v u 4 Mz r12_) ∧ r_ = r12_
set_option maxHeartbeats 4000000 in
set_option maxRecDepth 100000 in
theorem c_S_indexOf2_1 {cls : List rf} (l : Launch) (G : va_G) (cy : Nat → ClassId) (ad : rf → Nat) (d : Nat) (v : Int32) (u : Int32) (Mz : mM) : WP cls l G cy ad yS_indexOf2 cS_indexOf2 3 (some .int) (d + 2) 0 [(0, vR (91, 1, 0)), (1, vI v), (2, vI u)] [] Mz (fun r M' => Mz = M' ∧ (True) ∧ SP_S_indexOf2_1 v u Mz r) := by
  refine w_aload_n dS_indexOf2_0 rfl 0 rfl ?_
  refine w_callStr (k := 1) rfl (as := []) (rest := []) (c_S_isLatin1_1 l G cy ad (d + 1) Mz) kV_S_isLatin1 pnn_15 rfl (Nat.le_of_ble_eq_true rfl) m_748 rfl rfl (by decide) (Nat.le_of_ble_eq_true rfl) dS_indexOf2_1 (fun r1_ M2_ q3_ => ?_)
  obtain ⟨rfl, h4_, hs5_⟩ := q3_
  subst h4_
  refine w_if_eq (tgt := 23) dS_indexOf2_4 (by decide) li_1 (fun h9 => (absurd h9 (by decide))) (fun h6_ => ?_)
  refine w_aload_n dS_indexOf2_7 rfl 0 rfl ?_
  refine w_getSv (k := 1) rfl m_1872 dS_indexOf2_8 ?_
  refine w_iload_n dS_indexOf2_11 rfl 1 rfl ?_
  refine w_iload_n dS_indexOf2_12 rfl 2 rfl ?_
  refine w_aload_n dS_indexOf2_13 rfl 0 rfl ?_
  refine w_callStr (k := 1) rfl (as := []) (rest := [vI u, vI v, vR (90, 11, 0)]) (c_S_length_1 l G cy ad d Mz) kV_S_length pnn_15 rfl (Nat.le_of_ble_eq_true rfl) m_754 rfl rfl (by decide) (Nat.le_of_ble_eq_true rfl) dS_indexOf2_14 (fun r7_ M8_ q9_ => ?_)
  obtain ⟨rfl, h10_, hs11_⟩ := q9_
  subst h10_
  refine w_callS (as := [vR (90, 11, 0), vI v, vI u, vI 4]) (rest := []) (c_SL_indexOf_1 l G cy ad d v u 4 Mz) kS_SL_indexOf pnn_14 (Nat.le_of_ble_eq_true rfl) m_762 rfl rfl (by decide) (Nat.le_of_ble_eq_true rfl) dS_indexOf2_17 (fun r12_ M13_ q14_ => ?_)
  obtain ⟨rfl, h15_, hs16_⟩ := q14_
  refine w_goto (tgt := 36) dS_indexOf2_20 (by decide) ?_
  exact w_iret rfl dS_indexOf2_36 ⟨rfl, trivial, ⟨hs5_, hs11_, r12_, hs16_, rfl⟩⟩
def SP_S_indexOf_1 (v : Int32) (Mz : mM) (r_ : Int32) : Prop := ∃ r1_ : Int32, (SP_S_indexOf2_1 v 0 Mz r1_) ∧ r_ = r1_
set_option maxHeartbeats 4000000 in
set_option maxRecDepth 100000 in
theorem c_S_indexOf_1 {cls : List rf} (l : Launch) (G : va_G) (cy : Nat → ClassId) (ad : rf → Nat) (d : Nat) (v : Int32) (Mz : mM) : WP cls l G cy ad yS_indexOf cS_indexOf 2 (some .int) (d + 3) 0 [(0, vR (91, 1, 0)), (1, vI v)] [] Mz (fun r M' => Mz = M' ∧ (True) ∧ SP_S_indexOf_1 v Mz r) := by
  refine w_aload_n dS_indexOf_0 rfl 0 rfl ?_
  refine w_iload_n dS_indexOf_1 rfl 1 rfl ?_
  refine w_iconst (v := 0) dS_indexOf_2 (by decide) ?_
  refine w_callStr (k := 1) rfl (as := [vI v, vI 0]) (rest := []) (c_S_indexOf2_1 l G cy ad d v 0 Mz) kV_S_indexOf2 pnn_15 rfl (Nat.le_of_ble_eq_true rfl) m_744 rfl rfl (by decide) (Nat.le_of_ble_eq_true rfl) dS_indexOf_3 (fun r1_ M2_ q3_ => ?_)
  obtain ⟨rfl, h4_, hs5_⟩ := q3_
  exact w_iret rfl dS_indexOf_6 ⟨rfl, trivial, ⟨r1_, hs5_, rfl⟩⟩
def SP_S_coder_2 (Mz : mM) (r_ : Int32) : Prop := r_ = 0
set_option maxHeartbeats 4000000 in
set_option maxRecDepth 100000 in
theorem c_S_coder_2 {cls : List rf} (l : Launch) (G : va_G) (cy : Nat → ClassId) (ad : rf → Nat) (d : Nat) (Mz : mM) : WP cls l G cy ad yS_coder cS_coder 1 (some .byte) d 0 [(0, vR (91, 2, 0))] [] Mz (fun r M' => Mz = M' ∧ (r = 0) ∧ SP_S_coder_2 Mz r) := by
  refine w_getsC m_752 dS_coder_0 ?_
  refine w_if_eq (tgt := 13) dS_coder_3 (by decide) li_1 (fun h9 => (absurd h9 (by decide))) (fun h1_ => ?_)
  refine w_aload_n dS_coder_6 rfl 0 rfl ?_
  refine w_getSc (k := 2) rfl m_1871 dS_coder_7 ?_
  refine w_goto (tgt := 14) dS_coder_10 (by decide) ?_
  exact w_bret (ty := .byte) rfl dS_coder_14 rfl ⟨rfl, rfl, rfl⟩
def SP_S_isLatin1_2 (Mz : mM) (r_ : Int32) : Prop := r_ = 1
set_option maxHeartbeats 4000000 in
set_option maxRecDepth 100000 in
theorem c_S_isLatin1_2 {cls : List rf} (l : Launch) (G : va_G) (cy : Nat → ClassId) (ad : rf → Nat) (d : Nat) (Mz : mM) : WP cls l G cy ad yS_isLatin1 cS_isLatin1 1 (some .boolean) d 0 [(0, vR (91, 2, 0))] [] Mz (fun r M' => Mz = M' ∧ (r = 1) ∧ SP_S_isLatin1_2 Mz r) := by
  refine w_getsC m_752 dS_isLatin1_0 ?_
  refine w_if_eq (tgt := 17) dS_isLatin1_3 (by decide) li_1 (fun h9 => (absurd h9 (by decide))) (fun h1_ => ?_)
  refine w_aload_n dS_isLatin1_6 rfl 0 rfl ?_
  refine w_getSc (k := 2) rfl m_1871 dS_isLatin1_7 ?_
  refine w_if_ne (tgt := 17) dS_isLatin1_10 (by decide) li_0 (fun h9 => (absurd h9 (by decide))) (fun h2_ => ?_)
  refine w_iconst (v := 1) dS_isLatin1_13 (by decide) ?_
  refine w_goto (tgt := 18) dS_isLatin1_14 (by decide) ?_
  exact w_zret rfl dS_isLatin1_18 ⟨by decide, by decide⟩ ⟨rfl, rfl, rfl⟩
def SP_S_length_2 (Mz : mM) (r_ : Int32) : Prop := (SP_S_coder_2 Mz (0 : Int32)) ∧ r_ = 3
set_option maxHeartbeats 4000000 in
set_option maxRecDepth 100000 in
theorem c_S_length_2 {cls : List rf} (l : Launch) (G : va_G) (cy : Nat → ClassId) (ad : rf → Nat) (d : Nat) (Mz : mM) : WP cls l G cy ad yS_length cS_length 1 (some .int) (d + 1) 0 [(0, vR (91, 2, 0))] [] Mz (fun r M' => Mz = M' ∧ (r = 3) ∧ SP_S_length_2 Mz r) := by
  refine w_aload_n dS_length_0 rfl 0 rfl ?_
  refine w_getSv (k := 2) rfl m_1872 dS_length_1 ?_
  refine w_alenS (k := 2) (v := 3) rfl dS_length_4 rfl ?_
  refine w_aload_n dS_length_5 rfl 0 rfl ?_
  refine w_callStr (k := 2) rfl (as := []) (rest := [vI 3]) (c_S_coder_2 l G cy ad d Mz) kV_S_coder pnn_15 rfl (Nat.le_of_ble_eq_true rfl) m_758 rfl rfl (by decide) (Nat.le_of_ble_eq_true rfl) dS_length_6 (fun r1_ M2_ q3_ => ?_)
  obtain ⟨rfl, h4_, hs5_⟩ := q3_
  subst h4_
  refine w_ishr dS_length_9 (fun z6_ h7_ => ?_)
  obtain rfl : z6_ = 3 := h7_.trans (by decide)
  exact w_iret rfl dS_length_10 ⟨rfl, rfl, ⟨hs5_, rfl⟩⟩
def SP_SL_charAt_2 (v : Int32) (Mz : mM) (r_ : Int32) : Prop := ∃ z1_j : Nat, ((z1_j : Int) = v.toInt) ∧ ∃ z1_ : Int32, (z1_ = ([115, 110, 116] : List Int32).getD z1_j 0) ∧ ∃ z2_ : Int32, (z2_ = z1_ &&& (255 : Int32)) ∧ (0 ≤ z2_.toInt ∧ z2_.toInt < ((2 ^ 8 : Nat) : Int)) ∧ ∃ z5_ : Int32, (z5_ = (z2_.toUInt32 % 65536).toInt32) ∧ (narrow .char (.int z5_) = .int z5_) ∧ r_ = z5_
theorem lf_c_SL_charAt_2_0 (v : Int32) (hv : 0 ≤ v.toInt ∧ v.toInt < 3) : 0 ≤ v.toInt ∧ v.toInt < 3 := by omega
set_option maxHeartbeats 4000000 in
set_option maxRecDepth 100000 in
theorem c_SL_charAt_2 {cls : List rf} (l : Launch) (G : va_G) (cy : Nat → ClassId) (ad : rf → Nat) (d : Nat) (v : Int32) (Mz : mM) (hv : 0 ≤ v.toInt ∧ v.toInt < 3) : WP cls l G cy ad ySL_charAt cSL_charAt 2 (some .char) (d + 3) 0 [(0, vR (90, 12, 0)), (1, vI v)] [] Mz (fun r M' => Mz = M' ∧ (narrow .char (.int r) = .int r) ∧ SP_SL_charAt_2 v Mz r) := by
  refine w_iload_n dSL_charAt_0 rfl 1 rfl ?_
  refine w_aload_n dSL_charAt_1 rfl 0 rfl ?_
  refine w_alenS (k := 2) (v := 3) rfl dSL_charAt_2 rfl ?_
  refine w_checkIndex m_1607 (lf_c_SL_charAt_2_0 v hv ) li_3 (Nat.le_of_ble_eq_true rfl) (by omega) dSL_charAt_3 ?_
  refine w_aload_n dSL_charAt_6 rfl 0 rfl ?_
  refine w_iload_n dSL_charAt_7 rfl 1 rfl ?_
  refine w_baldS (k := 2) rfl (rfl : v.toInt = v.toInt) (lf_c_SL_charAt_2_0 v hv ) dSL_charAt_8 (fun z1_j z1_k z1_ z1_h => ?_)
  refine w_sipush (v := 255) dSL_charAt_9 (by decide) ?_
  refine w_iand dSL_charAt_12 (fun z2_ h4_ => ?_)
  have h3_ : 0 ≤ z2_.toInt ∧ z2_.toInt < ((2 ^ 8 : Nat) : Int) := by rw [h4_]; exact andI _ 8 (by decide) (by decide)
  refine w_i2c dSL_charAt_13 (fun z5_ h6_ => ?_)
  have h7_ : narrow .char (.int z5_) = .int z5_ := by rw [h6_]; exact nar_c _
  exact w_bret (ty := .char) rfl dSL_charAt_14 h7_ ⟨rfl, h7_, ⟨z1_j, z1_k, z1_, z1_h, z2_, h4_, h3_, z5_, h6_, h7_, rfl⟩⟩
def SP_S_charAt_2 (v : Int32) (Mz : mM) (r_ : Int32) : Prop := (SP_S_isLatin1_2 Mz (1 : Int32)) ∧ ∃ r7_ : Int32, (SP_SL_charAt_2 v Mz r7_) ∧ (narrow .char (.int r7_) = .int r7_) ∧ r_ = r7_
set_option maxHeartbeats 4000000 in
set_option maxRecDepth 100000 in
theorem c_S_charAt_2 {cls : List rf} (l : Launch) (G : va_G) (cy : Nat → ClassId) (ad : rf → Nat) (d : Nat) (v : Int32) (Mz : mM) (hv : 0 ≤ v.toInt ∧ v.toInt < 3) : WP cls l G cy ad yS_charAt cS_charAt 2 (some .char) (d + 4) 0 [(0, vR (91, 2, 0)), (1, vI v)] [] Mz (fun r M' => Mz = M' ∧ (narrow .char (.int r) = .int r) ∧ SP_S_charAt_2 v Mz r) := by
  refine w_aload_n dS_charAt_0 rfl 0 rfl ?_
  refine w_callStr (k := 2) rfl (as := []) (rest := []) (c_S_isLatin1_2 l G cy ad (d + 3) Mz) kV_S_isLatin1 pnn_15 rfl (Nat.le_of_ble_eq_true rfl) m_748 rfl rfl (by decide) (Nat.le_of_ble_eq_true rfl) dS_charAt_1 (fun r1_ M2_ q3_ => ?_)
  obtain ⟨rfl, h4_, hs5_⟩ := q3_
  subst h4_
  refine w_if_eq (tgt := 16) dS_charAt_4 (by decide) li_1 (fun h9 => (absurd h9 (by decide))) (fun h6_ => ?_)
  refine w_aload_n dS_charAt_7 rfl 0 rfl ?_
  refine w_getSv (k := 2) rfl m_1872 dS_charAt_8 ?_
  refine w_iload_n dS_charAt_11 rfl 1 rfl ?_
  refine w_callS (as := [vR (90, 12, 0), vI v]) (rest := []) (c_SL_charAt_2 l G cy ad d v Mz hv) kS_SL_charAt pnn_14 (Nat.le_of_ble_eq_true rfl) m_1604 rfl rfl (by decide) (Nat.le_of_ble_eq_true rfl) dS_charAt_12 (fun r7_ M8_ q9_ => ?_)
  obtain ⟨rfl, h10_, hs11_⟩ := q9_
  exact w_bret (ty := .char) rfl dS_charAt_15 h10_ ⟨rfl, h10_, ⟨hs5_, r7_, hs11_, h10_, rfl⟩⟩
def ST_SL_indexOfChar_2_7 (t : Int32) (z1_ : Int32) (v5_7 : Int32) (v5_7y : Int32) : Prop := (0 ≤ v5_7.toInt) ∧ (v5_7.toInt < t.toInt) ∧ ∃ z5_j : Nat, ((z5_j : Int) = v5_7.toInt) ∧ ∃ z5_ : Int32, (z5_ = ([115, 110, 116] : List Int32).getD z5_j 0) ∧ (¬ z5_.toInt = z1_.toInt) ∧ ∃ z7_ : Int32, (z7_.toInt = v5_7.toInt + 1) ∧ v5_7y = z7_
def SP_SL_indexOfChar_2 (v : Int32) (u : Int32) (t : Int32) (Mz : mM) (r_ : Int32) : Prop := ∃ z1_ : Int32, (z1_ = v.toInt8.toInt32) ∧ ∃ v5_7 : Int32, (0 ≤ v5_7.toInt) ∧ (RCH (fun x_ y_ => ST_SL_indexOfChar_2_7 t z1_ x_ y_) u v5_7) ∧ (((t.toInt ≤ v5_7.toInt) ∧ r_ = (-1)) ∨ ((v5_7.toInt < t.toInt) ∧ ∃ z5_j : Nat, ((z5_j : Int) = v5_7.toInt) ∧ ∃ z5_ : Int32, (z5_ = ([115, 110, 116] : List Int32).getD z5_j 0) ∧ (z5_.toInt = z1_.toInt) ∧ r_ = v5_7))
theorem lf_c_SL_indexOfChar_2_0 (t : Int32) (v5_7 : Int32) (ht : t.toInt ≤ 3) (hv0_7 : 0 ≤ v5_7.toInt) (h4_ : v5_7.toInt < t.toInt) : 0 ≤ v5_7.toInt ∧ v5_7.toInt < 3 := by omega
theorem lf_c_SL_indexOfChar_2_1 (t : Int32) (v5_7 : Int32) (ht : t.toInt ≤ 3) (hv0_7 : 0 ≤ v5_7.toInt) (h4_ : v5_7.toInt < t.toInt) : -2147483648 ≤ v5_7.toInt + 1 ∧ v5_7.toInt + 1 < 2147483648 := by omega
set_option maxHeartbeats 4000000 in
set_option maxRecDepth 100000 in
theorem c_SL_indexOfChar_2 {cls : List rf} (l : Launch) (G : va_G) (cy : Nat → ClassId) (ad : rf → Nat) (d : Nat) (v : Int32) (u : Int32) (t : Int32) (Mz : mM) (hu : 0 ≤ u.toInt) (ht : t.toInt ≤ 3) : WP cls l G cy ad ySL_indexOfChar cSL_indexOfChar 6 (some .int) d 0 [(0, vR (90, 12, 0)), (1, vI v), (2, vI u), (3, vI t)] [] Mz (fun r M' => Mz = M' ∧ (True) ∧ SP_SL_indexOfChar_2 v u t Mz r) := by
  refine w_iload_n dSL_indexOfChar_0 rfl 1 rfl ?_
  refine w_i2b dSL_indexOfChar_1 (fun z1_ h2_ => ?_)
  refine w_istore (ls' := [(4, vI z1_), (0, vR (90, 12, 0)), (1, vI v), (2, vI u), (3, vI t)]) dSL_indexOfChar_2 (by decide) rfl ?_
  refine w_iload_n dSL_indexOfChar_4 rfl 3 rfl ?_
  refine w_istore (ls' := [(5, vI u), (4, vI z1_), (0, vR (90, 12, 0)), (1, vI v), (2, vI u), (3, vI t)]) dSL_indexOfChar_5 (by decide) rfl ?_
  have lp3_ : ∀ (nn_7 : Nat) (v5_7 : Int32) (hv0_7 : 0 ≤ v5_7.toInt) (hL_7 : RCH (fun x_ y_ => ST_SL_indexOfChar_2_7 t z1_ x_ y_) u v5_7), (t.toInt - v5_7.toInt).toNat < nn_7 → WP cls l G cy ad ySL_indexOfChar cSL_indexOfChar 6 (some .int) d 7 [(5, vI v5_7), (4, vI z1_), (0, vR (90, 12, 0)), (1, vI v), (2, vI u), (3, vI t)] [] Mz (fun r M' => Mz = M' ∧ (True) ∧ SP_SL_indexOfChar_2 v u t Mz r) := by
    intro nn_7
    induction nn_7 with
    | zero => intro v5_7 hv0_7 hL_7 hm_7; exact absurd hm_7 (Nat.not_lt_zero _)
    | succ nn_7 ih_7 =>
      intro v5_7 hv0_7 hL_7 hm_7
      refine w_iload dSL_indexOfChar_7 0 rfl ?_
      refine w_iload_n dSL_indexOfChar_9 rfl 5 rfl ?_
      refine w_icmp_ge (tgt := 31) dSL_indexOfChar_10 (by decide) (rfl : v5_7.toInt = v5_7.toInt) (rfl : t.toInt = t.toInt) (fun h4_ => ?_) (fun h4_ => ?_)
      · refine w_iconst (v := (-1)) dSL_indexOfChar_31 (by decide) ?_
        exact w_iret rfl dSL_indexOfChar_32 ⟨rfl, trivial, ⟨z1_, h2_, v5_7, hv0_7, hL_7, (Or.inl ⟨h4_, rfl⟩)⟩⟩
      · refine w_aload_n dSL_indexOfChar_13 rfl 2 rfl ?_
        refine w_iload dSL_indexOfChar_14 0 rfl ?_
        refine w_baldS (k := 2) rfl (rfl : v5_7.toInt = v5_7.toInt) (lf_c_SL_indexOfChar_2_0 t v5_7 ht hv0_7 h4_ ) dSL_indexOfChar_16 (fun z5_j z5_k z5_ z5_h => ?_)
        refine w_iload dSL_indexOfChar_17 1 rfl ?_
        refine w_icmp_ne (tgt := 25) dSL_indexOfChar_19 (by decide) (rfl : z5_.toInt = z5_.toInt) (rfl : z1_.toInt = z1_.toInt) (fun h6_ => ?_) (fun h6_ => ?_)
        · refine w_iincB (j := 0) (f := fun z7_ => [(5, vI z7_), (4, vI z1_), (0, vR (90, 12, 0)), (1, vI v), (2, vI u), (3, vI t)]) dSL_indexOfChar_25 rfl (by decide) (fun _ => rfl) (rfl : v5_7.toInt = v5_7.toInt) li_1 (lf_c_SL_indexOfChar_2_1 t v5_7 ht hv0_7 h4_ ) (fun z7_ h8_ => ?_)
          refine w_goto (tgt := 7) dSL_indexOfChar_28 (by decide) ?_
          refine w_loc (ls' := [(5, vI z7_), (4, vI z1_), (0, vR (90, 12, 0)), (1, vI v), (2, vI u), (3, vI t)]) [0, 1, 2, 3, 4, 5] rfl ?_
          exact ih_7 z7_ (lf_c_X5_takeFrom_3 v5_7 z7_ hv0_7 h8_ ) (RCH.tail hL_7 ⟨hv0_7, h4_, z5_j, z5_k, z5_, z5_h, h6_, z7_, h8_, rfl⟩) (Nat.lt_of_lt_of_le (lf_c_SL_indexOfChar_1_3 t v5_7 z7_ h4_ h8_ ) (Nat.le_of_lt_succ hm_7))
        · refine w_iload dSL_indexOfChar_22 0 rfl ?_
          exact w_iret rfl dSL_indexOfChar_24 ⟨rfl, trivial, ⟨z1_, h2_, v5_7, hv0_7, hL_7, (Or.inr ⟨h4_, z5_j, z5_k, z5_, z5_h, h6_, rfl⟩)⟩⟩
  exact lp3_ _ u hu RCH.refl (Nat.lt_succ_self _)
def SP_SL_indexOf_2 (v : Int32) (u : Int32) (t : Int32) (Mz : mM) (r_ : Int32) : Prop := ∃ r1_ : Int32, (SP_SL_canEncode_0 v Mz r1_) ∧ ((0 ≤ r1_.toInt ∧ r1_.toInt ≤ 1)) ∧ (((¬ r1_.toInt = 0) ∧ ∃ z7_ : Int32, ((z7_.toInt = u.toInt ∧ 0 ≤ u.toInt) ∨ (z7_.toInt = 0 ∧ u.toInt ≤ 0)) ∧ ∃ z9_ : Int32, ((z9_.toInt = t.toInt ∧ t.toInt ≤ 3) ∨ (z9_.toInt = 3 ∧ 3 ≤ t.toInt)) ∧ (((z7_.toInt < z9_.toInt) ∧ ∃ r12_ : Int32, (SP_SL_indexOfChar_2 v z7_ z9_ Mz r12_) ∧ r_ = r12_) ∨ ((z9_.toInt ≤ z7_.toInt) ∧ r_ = (-1)))) ∨ ((r1_.toInt = 0) ∧ r_ = (-1)))
theorem lf_c_SL_indexOf_2_1 (t : Int32) (z9_ : Int32) (h10_ : (z9_.toInt = t.toInt ∧ t.toInt ≤ 3) ∨ (z9_.toInt = 3 ∧ 3 ≤ t.toInt)) : z9_.toInt ≤ 3 := by omega
set_option maxHeartbeats 4000000 in
set_option maxRecDepth 100000 in
theorem c_SL_indexOf_2 {cls : List rf} (l : Launch) (G : va_G) (cy : Nat → ClassId) (ad : rf → Nat) (d : Nat) (v : Int32) (u : Int32) (t : Int32) (Mz : mM) : WP cls l G cy ad ySL_indexOf cSL_indexOf 4 (some .int) (d + 1) 0 [(0, vR (90, 12, 0)), (1, vI v), (2, vI u), (3, vI t)] [] Mz (fun r M' => Mz = M' ∧ (True) ∧ SP_SL_indexOf_2 v u t Mz r) := by
  refine w_iload_n dSL_indexOf_0 rfl 1 rfl ?_
  refine w_callS (as := [vI v]) (rest := []) (c_SL_canEncode_0 l G cy ad d v Mz) kS_SL_canEncode pnn_14 (Nat.le_of_ble_eq_true rfl) m_765 rfl rfl (by decide) (Nat.le_of_ble_eq_true rfl) dSL_indexOf_1 (fun r1_ M2_ q3_ => ?_)
  obtain ⟨rfl, h4_, hs5_⟩ := q3_
  refine w_if_ne (tgt := 9) dSL_indexOf_4 (by decide) (rfl : r1_.toInt = r1_.toInt) (fun h6_ => ?_) (fun h6_ => ?_)
  · refine w_iload_n dSL_indexOf_9 rfl 2 rfl ?_
    refine w_iconst (v := 0) dSL_indexOf_10 (by decide) ?_
    refine w_max m_768 m_206 m_86 m_207 (rfl : u.toInt = u.toInt) li_0 (Nat.le_of_ble_eq_true rfl) (by omega) dSL_indexOf_11 (fun z7_ h8_ => ?_)
    refine w_istore_n (ls' := [(2, vI z7_), (0, vR (90, 12, 0)), (1, vI v), (3, vI t)]) dSL_indexOf_14 rfl (by decide) rfl ?_
    refine w_iload_n dSL_indexOf_15 rfl 3 rfl ?_
    refine w_aload_n dSL_indexOf_16 rfl 1 rfl ?_
    refine w_alenS (k := 2) (v := 3) rfl dSL_indexOf_17 rfl ?_
    refine w_min m_769 m_770 m_86 m_771 (rfl : t.toInt = t.toInt) li_3 (Nat.le_of_ble_eq_true rfl) (by omega) dSL_indexOf_18 (fun z9_ h10_ => ?_)
    refine w_istore_n (ls' := [(3, vI z9_), (2, vI z7_), (0, vR (90, 12, 0)), (1, vI v)]) dSL_indexOf_21 rfl (by decide) rfl ?_
    refine w_iload_n dSL_indexOf_22 rfl 1 rfl ?_
    refine w_iload_n dSL_indexOf_23 rfl 0 rfl ?_
    refine w_icmp_lt (tgt := 29) dSL_indexOf_24 (by decide) (rfl : z7_.toInt = z7_.toInt) (rfl : z9_.toInt = z9_.toInt) (fun h11_ => ?_) (fun h11_ => ?_)
    · refine w_aload_n dSL_indexOf_29 rfl 2 rfl ?_
      refine w_iload_n dSL_indexOf_30 rfl 3 rfl ?_
      refine w_iload_n dSL_indexOf_31 rfl 1 rfl ?_
      refine w_iload_n dSL_indexOf_32 rfl 0 rfl ?_
      refine w_callS (as := [vR (90, 12, 0), vI v, vI z7_, vI z9_]) (rest := []) (c_SL_indexOfChar_2 l G cy ad d v z7_ z9_ Mz (lf_c_SL_indexOf_1_0 u z7_ h8_ ) (lf_c_SL_indexOf_2_1 t z9_ h10_ )) kS_SL_indexOfChar pnn_14 (Nat.le_of_ble_eq_true rfl) m_772 rfl rfl (by decide) (Nat.le_of_ble_eq_true rfl) dSL_indexOf_33 (fun r12_ M13_ q14_ => ?_)
      obtain ⟨rfl, h15_, hs16_⟩ := q14_
      exact w_iret rfl dSL_indexOf_36 ⟨rfl, trivial, ⟨r1_, hs5_, h4_, (Or.inl ⟨h6_, z7_, h8_, z9_, h10_, (Or.inl ⟨h11_, r12_, hs16_, rfl⟩)⟩)⟩⟩
    · refine w_iconst (v := (-1)) dSL_indexOf_27 (by decide) ?_
      exact w_iret rfl dSL_indexOf_28 ⟨rfl, trivial, ⟨r1_, hs5_, h4_, (Or.inl ⟨h6_, z7_, h8_, z9_, h10_, (Or.inr ⟨h11_, rfl⟩)⟩)⟩⟩
  · refine w_iconst (v := (-1)) dSL_indexOf_7 (by decide) ?_
    exact w_iret rfl dSL_indexOf_8 ⟨rfl, trivial, ⟨r1_, hs5_, h4_, (Or.inr ⟨h6_, rfl⟩)⟩⟩
def SP_S_indexOf2_2 (v : Int32) (u : Int32) (Mz : mM) (r_ : Int32) : Prop := (SP_S_isLatin1_2 Mz (1 : Int32)) ∧ (SP_S_length_2 Mz (3 : Int32)) ∧ ∃ r12_ : Int32, (SP_SL_indexOf_2 v u 3 Mz r12_) ∧ r_ = r12_
set_option maxHeartbeats 4000000 in
set_option maxRecDepth 100000 in
theorem c_S_indexOf2_2 {cls : List rf} (l : Launch) (G : va_G) (cy : Nat → ClassId) (ad : rf → Nat) (d : Nat) (v : Int32) (u : Int32) (Mz : mM) : WP cls l G cy ad yS_indexOf2 cS_indexOf2 3 (some .int) (d + 2) 0 [(0, vR (91, 2, 0)), (1, vI v), (2, vI u)] [] Mz (fun r M' => Mz = M' ∧ (True) ∧ SP_S_indexOf2_2 v u Mz r) := by
  refine w_aload_n dS_indexOf2_0 rfl 0 rfl ?_
  refine w_callStr (k := 2) rfl (as := []) (rest := []) (c_S_isLatin1_2 l G cy ad (d + 1) Mz) kV_S_isLatin1 pnn_15 rfl (Nat.le_of_ble_eq_true rfl) m_748 rfl rfl (by decide) (Nat.le_of_ble_eq_true rfl) dS_indexOf2_1 (fun r1_ M2_ q3_ => ?_)
  obtain ⟨rfl, h4_, hs5_⟩ := q3_
  subst h4_
  refine w_if_eq (tgt := 23) dS_indexOf2_4 (by decide) li_1 (fun h9 => (absurd h9 (by decide))) (fun h6_ => ?_)
  refine w_aload_n dS_indexOf2_7 rfl 0 rfl ?_
  refine w_getSv (k := 2) rfl m_1872 dS_indexOf2_8 ?_
  refine w_iload_n dS_indexOf2_11 rfl 1 rfl ?_
  refine w_iload_n dS_indexOf2_12 rfl 2 rfl ?_
  refine w_aload_n dS_indexOf2_13 rfl 0 rfl ?_
  refine w_callStr (k := 2) rfl (as := []) (rest := [vI u, vI v, vR (90, 12, 0)]) (c_S_length_2 l G cy ad d Mz) kV_S_length pnn_15 rfl (Nat.le_of_ble_eq_true rfl) m_754 rfl rfl (by decide) (Nat.le_of_ble_eq_true rfl) dS_indexOf2_14 (fun r7_ M8_ q9_ => ?_)
  obtain ⟨rfl, h10_, hs11_⟩ := q9_
  subst h10_
  refine w_callS (as := [vR (90, 12, 0), vI v, vI u, vI 3]) (rest := []) (c_SL_indexOf_2 l G cy ad d v u 3 Mz) kS_SL_indexOf pnn_14 (Nat.le_of_ble_eq_true rfl) m_762 rfl rfl (by decide) (Nat.le_of_ble_eq_true rfl) dS_indexOf2_17 (fun r12_ M13_ q14_ => ?_)
  obtain ⟨rfl, h15_, hs16_⟩ := q14_
  refine w_goto (tgt := 36) dS_indexOf2_20 (by decide) ?_
  exact w_iret rfl dS_indexOf2_36 ⟨rfl, trivial, ⟨hs5_, hs11_, r12_, hs16_, rfl⟩⟩
def SP_S_indexOf_2 (v : Int32) (Mz : mM) (r_ : Int32) : Prop := ∃ r1_ : Int32, (SP_S_indexOf2_2 v 0 Mz r1_) ∧ r_ = r1_
set_option maxHeartbeats 4000000 in
set_option maxRecDepth 100000 in
theorem c_S_indexOf_2 {cls : List rf} (l : Launch) (G : va_G) (cy : Nat → ClassId) (ad : rf → Nat) (d : Nat) (v : Int32) (Mz : mM) : WP cls l G cy ad yS_indexOf cS_indexOf 2 (some .int) (d + 3) 0 [(0, vR (91, 2, 0)), (1, vI v)] [] Mz (fun r M' => Mz = M' ∧ (True) ∧ SP_S_indexOf_2 v Mz r) := by
  refine w_aload_n dS_indexOf_0 rfl 0 rfl ?_
  refine w_iload_n dS_indexOf_1 rfl 1 rfl ?_
  refine w_iconst (v := 0) dS_indexOf_2 (by decide) ?_
  refine w_callStr (k := 2) rfl (as := [vI v, vI 0]) (rest := []) (c_S_indexOf2_2 l G cy ad d v 0 Mz) kV_S_indexOf2 pnn_15 rfl (Nat.le_of_ble_eq_true rfl) m_744 rfl rfl (by decide) (Nat.le_of_ble_eq_true rfl) dS_indexOf_3 (fun r1_ M2_ q3_ => ?_)
  obtain ⟨rfl, h4_, hs5_⟩ := q3_
  exact w_iret rfl dS_indexOf_6 ⟨rfl, trivial, ⟨r1_, hs5_, rfl⟩⟩
def SP_S_coder_3 (Mz : mM) (r_ : Int32) : Prop := r_ = 0
set_option maxHeartbeats 4000000 in
set_option maxRecDepth 100000 in
theorem c_S_coder_3 {cls : List rf} (l : Launch) (G : va_G) (cy : Nat → ClassId) (ad : rf → Nat) (d : Nat) (Mz : mM) : WP cls l G cy ad yS_coder cS_coder 1 (some .byte) d 0 [(0, vR (91, 3, 0))] [] Mz (fun r M' => Mz = M' ∧ (r = 0) ∧ SP_S_coder_3 Mz r) := by
  refine w_getsC m_752 dS_coder_0 ?_
  refine w_if_eq (tgt := 13) dS_coder_3 (by decide) li_1 (fun h9 => (absurd h9 (by decide))) (fun h1_ => ?_)
  refine w_aload_n dS_coder_6 rfl 0 rfl ?_
  refine w_getSc (k := 3) rfl m_1871 dS_coder_7 ?_
  refine w_goto (tgt := 14) dS_coder_10 (by decide) ?_
  exact w_bret (ty := .byte) rfl dS_coder_14 rfl ⟨rfl, rfl, rfl⟩
def SP_S_isLatin1_3 (Mz : mM) (r_ : Int32) : Prop := r_ = 1
set_option maxHeartbeats 4000000 in
set_option maxRecDepth 100000 in
theorem c_S_isLatin1_3 {cls : List rf} (l : Launch) (G : va_G) (cy : Nat → ClassId) (ad : rf → Nat) (d : Nat) (Mz : mM) : WP cls l G cy ad yS_isLatin1 cS_isLatin1 1 (some .boolean) d 0 [(0, vR (91, 3, 0))] [] Mz (fun r M' => Mz = M' ∧ (r = 1) ∧ SP_S_isLatin1_3 Mz r) := by
  refine w_getsC m_752 dS_isLatin1_0 ?_
  refine w_if_eq (tgt := 17) dS_isLatin1_3 (by decide) li_1 (fun h9 => (absurd h9 (by decide))) (fun h1_ => ?_)
  refine w_aload_n dS_isLatin1_6 rfl 0 rfl ?_
  refine w_getSc (k := 3) rfl m_1871 dS_isLatin1_7 ?_
  refine w_if_ne (tgt := 17) dS_isLatin1_10 (by decide) li_0 (fun h9 => (absurd h9 (by decide))) (fun h2_ => ?_)
  refine w_iconst (v := 1) dS_isLatin1_13 (by decide) ?_
  refine w_goto (tgt := 18) dS_isLatin1_14 (by decide) ?_
  exact w_zret rfl dS_isLatin1_18 ⟨by decide, by decide⟩ ⟨rfl, rfl, rfl⟩
def SP_S_length_3 (Mz : mM) (r_ : Int32) : Prop := (SP_S_coder_3 Mz (0 : Int32)) ∧ r_ = 5
set_option maxHeartbeats 4000000 in
set_option maxRecDepth 100000 in
theorem c_S_length_3 {cls : List rf} (l : Launch) (G : va_G) (cy : Nat → ClassId) (ad : rf → Nat) (d : Nat) (Mz : mM) : WP cls l G cy ad yS_length cS_length 1 (some .int) (d + 1) 0 [(0, vR (91, 3, 0))] [] Mz (fun r M' => Mz = M' ∧ (r = 5) ∧ SP_S_length_3 Mz r) := by
  refine w_aload_n dS_length_0 rfl 0 rfl ?_
  refine w_getSv (k := 3) rfl m_1872 dS_length_1 ?_
  refine w_alenS (k := 3) (v := 5) rfl dS_length_4 rfl ?_
  refine w_aload_n dS_length_5 rfl 0 rfl ?_
  refine w_callStr (k := 3) rfl (as := []) (rest := [vI 5]) (c_S_coder_3 l G cy ad d Mz) kV_S_coder pnn_15 rfl (Nat.le_of_ble_eq_true rfl) m_758 rfl rfl (by decide) (Nat.le_of_ble_eq_true rfl) dS_length_6 (fun r1_ M2_ q3_ => ?_)
  obtain ⟨rfl, h4_, hs5_⟩ := q3_
  subst h4_
  refine w_ishr dS_length_9 (fun z6_ h7_ => ?_)
  obtain rfl : z6_ = 5 := h7_.trans (by decide)
  exact w_iret rfl dS_length_10 ⟨rfl, rfl, ⟨hs5_, rfl⟩⟩
def SP_SL_charAt_3 (v : Int32) (Mz : mM) (r_ : Int32) : Prop := ∃ z1_j : Nat, ((z1_j : Int) = v.toInt) ∧ ∃ z1_ : Int32, (z1_ = ([102, 108, 114, 98, 116] : List Int32).getD z1_j 0) ∧ ∃ z2_ : Int32, (z2_ = z1_ &&& (255 : Int32)) ∧ (0 ≤ z2_.toInt ∧ z2_.toInt < ((2 ^ 8 : Nat) : Int)) ∧ ∃ z5_ : Int32, (z5_ = (z2_.toUInt32 % 65536).toInt32) ∧ (narrow .char (.int z5_) = .int z5_) ∧ r_ = z5_
theorem lf_c_SL_charAt_3_0 (v : Int32) (hv : 0 ≤ v.toInt ∧ v.toInt < 5) : 0 ≤ v.toInt ∧ v.toInt < 5 := by omega
set_option maxHeartbeats 4000000 in
set_option maxRecDepth 100000 in
theorem c_SL_charAt_3 {cls : List rf} (l : Launch) (G : va_G) (cy : Nat → ClassId) (ad : rf → Nat) (d : Nat) (v : Int32) (Mz : mM) (hv : 0 ≤ v.toInt ∧ v.toInt < 5) : WP cls l G cy ad ySL_charAt cSL_charAt 2 (some .char) (d + 3) 0 [(0, vR (90, 13, 0)), (1, vI v)] [] Mz (fun r M' => Mz = M' ∧ (narrow .char (.int r) = .int r) ∧ SP_SL_charAt_3 v Mz r) := by
  refine w_iload_n dSL_charAt_0 rfl 1 rfl ?_
  refine w_aload_n dSL_charAt_1 rfl 0 rfl ?_
  refine w_alenS (k := 3) (v := 5) rfl dSL_charAt_2 rfl ?_
  refine w_checkIndex m_1607 (lf_c_SL_charAt_3_0 v hv ) li_5 (Nat.le_of_ble_eq_true rfl) (by omega) dSL_charAt_3 ?_
  refine w_aload_n dSL_charAt_6 rfl 0 rfl ?_
  refine w_iload_n dSL_charAt_7 rfl 1 rfl ?_
  refine w_baldS (k := 3) rfl (rfl : v.toInt = v.toInt) (lf_c_SL_charAt_3_0 v hv ) dSL_charAt_8 (fun z1_j z1_k z1_ z1_h => ?_)
  refine w_sipush (v := 255) dSL_charAt_9 (by decide) ?_
  refine w_iand dSL_charAt_12 (fun z2_ h4_ => ?_)
  have h3_ : 0 ≤ z2_.toInt ∧ z2_.toInt < ((2 ^ 8 : Nat) : Int) := by rw [h4_]; exact andI _ 8 (by decide) (by decide)
  refine w_i2c dSL_charAt_13 (fun z5_ h6_ => ?_)
  have h7_ : narrow .char (.int z5_) = .int z5_ := by rw [h6_]; exact nar_c _
  exact w_bret (ty := .char) rfl dSL_charAt_14 h7_ ⟨rfl, h7_, ⟨z1_j, z1_k, z1_, z1_h, z2_, h4_, h3_, z5_, h6_, h7_, rfl⟩⟩
def SP_S_charAt_3 (v : Int32) (Mz : mM) (r_ : Int32) : Prop := (SP_S_isLatin1_3 Mz (1 : Int32)) ∧ ∃ r7_ : Int32, (SP_SL_charAt_3 v Mz r7_) ∧ (narrow .char (.int r7_) = .int r7_) ∧ r_ = r7_
set_option maxHeartbeats 4000000 in
set_option maxRecDepth 100000 in
theorem c_S_charAt_3 {cls : List rf} (l : Launch) (G : va_G) (cy : Nat → ClassId) (ad : rf → Nat) (d : Nat) (v : Int32) (Mz : mM) (hv : 0 ≤ v.toInt ∧ v.toInt < 5) : WP cls l G cy ad yS_charAt cS_charAt 2 (some .char) (d + 4) 0 [(0, vR (91, 3, 0)), (1, vI v)] [] Mz (fun r M' => Mz = M' ∧ (narrow .char (.int r) = .int r) ∧ SP_S_charAt_3 v Mz r) := by
  refine w_aload_n dS_charAt_0 rfl 0 rfl ?_
  refine w_callStr (k := 3) rfl (as := []) (rest := []) (c_S_isLatin1_3 l G cy ad (d + 3) Mz) kV_S_isLatin1 pnn_15 rfl (Nat.le_of_ble_eq_true rfl) m_748 rfl rfl (by decide) (Nat.le_of_ble_eq_true rfl) dS_charAt_1 (fun r1_ M2_ q3_ => ?_)
  obtain ⟨rfl, h4_, hs5_⟩ := q3_
  subst h4_
  refine w_if_eq (tgt := 16) dS_charAt_4 (by decide) li_1 (fun h9 => (absurd h9 (by decide))) (fun h6_ => ?_)
  refine w_aload_n dS_charAt_7 rfl 0 rfl ?_
  refine w_getSv (k := 3) rfl m_1872 dS_charAt_8 ?_
  refine w_iload_n dS_charAt_11 rfl 1 rfl ?_
  refine w_callS (as := [vR (90, 13, 0), vI v]) (rest := []) (c_SL_charAt_3 l G cy ad d v Mz hv) kS_SL_charAt pnn_14 (Nat.le_of_ble_eq_true rfl) m_1604 rfl rfl (by decide) (Nat.le_of_ble_eq_true rfl) dS_charAt_12 (fun r7_ M8_ q9_ => ?_)
  obtain ⟨rfl, h10_, hs11_⟩ := q9_
  exact w_bret (ty := .char) rfl dS_charAt_15 h10_ ⟨rfl, h10_, ⟨hs5_, r7_, hs11_, h10_, rfl⟩⟩
def ST_SL_indexOfChar_3_7 (t : Int32) (z1_ : Int32) (v5_7 : Int32) (v5_7y : Int32) : Prop := (0 ≤ v5_7.toInt) ∧ (v5_7.toInt < t.toInt) ∧ ∃ z5_j : Nat, ((z5_j : Int) = v5_7.toInt) ∧ ∃ z5_ : Int32, (z5_ = ([102, 108, 114, 98, 116] : List Int32).getD z5_j 0) ∧ (¬ z5_.toInt = z1_.toInt) ∧ ∃ z7_ : Int32, (z7_.toInt = v5_7.toInt + 1) ∧ v5_7y = z7_
def SP_SL_indexOfChar_3 (v : Int32) (u : Int32) (t : Int32) (Mz : mM) (r_ : Int32) : Prop := ∃ z1_ : Int32, (z1_ = v.toInt8.toInt32) ∧ ∃ v5_7 : Int32, (0 ≤ v5_7.toInt) ∧ (RCH (fun x_ y_ => ST_SL_indexOfChar_3_7 t z1_ x_ y_) u v5_7) ∧ (((t.toInt ≤ v5_7.toInt) ∧ r_ = (-1)) ∨ ((v5_7.toInt < t.toInt) ∧ ∃ z5_j : Nat, ((z5_j : Int) = v5_7.toInt) ∧ ∃ z5_ : Int32, (z5_ = ([102, 108, 114, 98, 116] : List Int32).getD z5_j 0) ∧ (z5_.toInt = z1_.toInt) ∧ r_ = v5_7))
theorem lf_c_SL_indexOfChar_3_0 (t : Int32) (v5_7 : Int32) (ht : t.toInt ≤ 5) (hv0_7 : 0 ≤ v5_7.toInt) (h4_ : v5_7.toInt < t.toInt) : 0 ≤ v5_7.toInt ∧ v5_7.toInt < 5 := by omega
theorem lf_c_SL_indexOfChar_3_1 (t : Int32) (v5_7 : Int32) (ht : t.toInt ≤ 5) (hv0_7 : 0 ≤ v5_7.toInt) (h4_ : v5_7.toInt < t.toInt) : -2147483648 ≤ v5_7.toInt + 1 ∧ v5_7.toInt + 1 < 2147483648 := by omega
set_option maxHeartbeats 4000000 in
set_option maxRecDepth 100000 in
theorem c_SL_indexOfChar_3 {cls : List rf} (l : Launch) (G : va_G) (cy : Nat → ClassId) (ad : rf → Nat) (d : Nat) (v : Int32) (u : Int32) (t : Int32) (Mz : mM) (hu : 0 ≤ u.toInt) (ht : t.toInt ≤ 5) : WP cls l G cy ad ySL_indexOfChar cSL_indexOfChar 6 (some .int) d 0 [(0, vR (90, 13, 0)), (1, vI v), (2, vI u), (3, vI t)] [] Mz (fun r M' => Mz = M' ∧ (True) ∧ SP_SL_indexOfChar_3 v u t Mz r) := by
  refine w_iload_n dSL_indexOfChar_0 rfl 1 rfl ?_
  refine w_i2b dSL_indexOfChar_1 (fun z1_ h2_ => ?_)
  refine w_istore (ls' := [(4, vI z1_), (0, vR (90, 13, 0)), (1, vI v), (2, vI u), (3, vI t)]) dSL_indexOfChar_2 (by decide) rfl ?_
  refine w_iload_n dSL_indexOfChar_4 rfl 3 rfl ?_
  refine w_istore (ls' := [(5, vI u), (4, vI z1_), (0, vR (90, 13, 0)), (1, vI v), (2, vI u), (3, vI t)]) dSL_indexOfChar_5 (by decide) rfl ?_
  have lp3_ : ∀ (nn_7 : Nat) (v5_7 : Int32) (hv0_7 : 0 ≤ v5_7.toInt) (hL_7 : RCH (fun x_ y_ => ST_SL_indexOfChar_3_7 t z1_ x_ y_) u v5_7), (t.toInt - v5_7.toInt).toNat < nn_7 → WP cls l G cy ad ySL_indexOfChar cSL_indexOfChar 6 (some .int) d 7 [(5, vI v5_7), (4, vI z1_), (0, vR (90, 13, 0)), (1, vI v), (2, vI u), (3, vI t)] [] Mz (fun r M' => Mz = M' ∧ (True) ∧ SP_SL_indexOfChar_3 v u t Mz r) := by
    intro nn_7
    induction nn_7 with
    | zero => intro v5_7 hv0_7 hL_7 hm_7; exact absurd hm_7 (Nat.not_lt_zero _)
    | succ nn_7 ih_7 =>
      intro v5_7 hv0_7 hL_7 hm_7
      refine w_iload dSL_indexOfChar_7 0 rfl ?_
      refine w_iload_n dSL_indexOfChar_9 rfl 5 rfl ?_
      refine w_icmp_ge (tgt := 31) dSL_indexOfChar_10 (by decide) (rfl : v5_7.toInt = v5_7.toInt) (rfl : t.toInt = t.toInt) (fun h4_ => ?_) (fun h4_ => ?_)
      · refine w_iconst (v := (-1)) dSL_indexOfChar_31 (by decide) ?_
        exact w_iret rfl dSL_indexOfChar_32 ⟨rfl, trivial, ⟨z1_, h2_, v5_7, hv0_7, hL_7, (Or.inl ⟨h4_, rfl⟩)⟩⟩
      · refine w_aload_n dSL_indexOfChar_13 rfl 2 rfl ?_
        refine w_iload dSL_indexOfChar_14 0 rfl ?_
        refine w_baldS (k := 3) rfl (rfl : v5_7.toInt = v5_7.toInt) (lf_c_SL_indexOfChar_3_0 t v5_7 ht hv0_7 h4_ ) dSL_indexOfChar_16 (fun z5_j z5_k z5_ z5_h => ?_)
        refine w_iload dSL_indexOfChar_17 1 rfl ?_
        refine w_icmp_ne (tgt := 25) dSL_indexOfChar_19 (by decide) (rfl : z5_.toInt = z5_.toInt) (rfl : z1_.toInt = z1_.toInt) (fun h6_ => ?_) (fun h6_ => ?_)
        · refine w_iincB (j := 0) (f := fun z7_ => [(5, vI z7_), (4, vI z1_), (0, vR (90, 13, 0)), (1, vI v), (2, vI u), (3, vI t)]) dSL_indexOfChar_25 rfl (by decide) (fun _ => rfl) (rfl : v5_7.toInt = v5_7.toInt) li_1 (lf_c_SL_indexOfChar_3_1 t v5_7 ht hv0_7 h4_ ) (fun z7_ h8_ => ?_)
          refine w_goto (tgt := 7) dSL_indexOfChar_28 (by decide) ?_
          refine w_loc (ls' := [(5, vI z7_), (4, vI z1_), (0, vR (90, 13, 0)), (1, vI v), (2, vI u), (3, vI t)]) [0, 1, 2, 3, 4, 5] rfl ?_
          exact ih_7 z7_ (lf_c_X5_takeFrom_3 v5_7 z7_ hv0_7 h8_ ) (RCH.tail hL_7 ⟨hv0_7, h4_, z5_j, z5_k, z5_, z5_h, h6_, z7_, h8_, rfl⟩) (Nat.lt_of_lt_of_le (lf_c_SL_indexOfChar_1_3 t v5_7 z7_ h4_ h8_ ) (Nat.le_of_lt_succ hm_7))
        · refine w_iload dSL_indexOfChar_22 0 rfl ?_
          exact w_iret rfl dSL_indexOfChar_24 ⟨rfl, trivial, ⟨z1_, h2_, v5_7, hv0_7, hL_7, (Or.inr ⟨h4_, z5_j, z5_k, z5_, z5_h, h6_, rfl⟩)⟩⟩
  exact lp3_ _ u hu RCH.refl (Nat.lt_succ_self _)
def SP_SL_indexOf_3 (v : Int32) (u : Int32) (t : Int32) (Mz : mM) (r_ : Int32) : Prop := ∃ r1_ : Int32, (SP_SL_canEncode_0 v Mz r1_) ∧ ((0 ≤ r1_.toInt ∧ r1_.toInt ≤ 1)) ∧ (((¬ r1_.toInt = 0) ∧ ∃ z7_ : Int32, ((z7_.toInt = u.toInt ∧ 0 ≤ u.toInt) ∨ (z7_.toInt = 0 ∧ u.toInt ≤ 0)) ∧ ∃ z9_ : Int32, ((z9_.toInt = t.toInt ∧ t.toInt ≤ 5) ∨ (z9_.toInt = 5 ∧ 5 ≤ t.toInt)) ∧ (((z7_.toInt < z9_.toInt) ∧ ∃ r12_ : Int32, (SP_SL_indexOfChar_3 v z7_ z9_ Mz r12_) ∧ r_ = r12_) ∨ ((z9_.toInt ≤ z7_.toInt) ∧ r_ = (-1)))) ∨ ((r1_.toInt = 0) ∧ r_ = (-1)))
theorem lf_c_SL_indexOf_3_1 (t : Int32) (z9_ : Int32) (h10_ : (z9_.toInt = t.toInt ∧ t.toInt ≤ 5) ∨ (z9_.toInt = 5 ∧ 5 ≤ t.toInt)) : z9_.toInt ≤ 5 := by omega
set_option maxHeartbeats 4000000 in
set_option maxRecDepth 100000 in
theorem c_SL_indexOf_3 {cls : List rf} (l : Launch) (G : va_G) (cy : Nat → ClassId) (ad : rf → Nat) (d : Nat) (v : Int32) (u : Int32) (t : Int32) (Mz : mM) : WP cls l G cy ad ySL_indexOf cSL_indexOf 4 (some .int) (d + 1) 0 [(0, vR (90, 13, 0)), (1, vI v), (2, vI u), (3, vI t)] [] Mz (fun r M' => Mz = M' ∧ (True) ∧ SP_SL_indexOf_3 v u t Mz r) := by
  refine w_iload_n dSL_indexOf_0 rfl 1 rfl ?_
  refine w_callS (as := [vI v]) (rest := []) (c_SL_canEncode_0 l G cy ad d v Mz) kS_SL_canEncode pnn_14 (Nat.le_of_ble_eq_true rfl) m_765 rfl rfl (by decide) (Nat.le_of_ble_eq_true rfl) dSL_indexOf_1 (fun r1_ M2_ q3_ => ?_)
  obtain ⟨rfl, h4_, hs5_⟩ := q3_
  refine w_if_ne (tgt := 9) dSL_indexOf_4 (by decide) (rfl : r1_.toInt = r1_.toInt) (fun h6_ => ?_) (fun h6_ => ?_)
  · refine w_iload_n dSL_indexOf_9 rfl 2 rfl ?_
    refine w_iconst (v := 0) dSL_indexOf_10 (by decide) ?_
    refine w_max m_768 m_206 m_86 m_207 (rfl : u.toInt = u.toInt) li_0 (Nat.le_of_ble_eq_true rfl) (by omega) dSL_indexOf_11 (fun z7_ h8_ => ?_)
    refine w_istore_n (ls' := [(2, vI z7_), (0, vR (90, 13, 0)), (1, vI v), (3, vI t)]) dSL_indexOf_14 rfl (by decide) rfl ?_
    refine w_iload_n dSL_indexOf_15 rfl 3 rfl ?_
    refine w_aload_n dSL_indexOf_16 rfl 1 rfl ?_
    refine w_alenS (k := 3) (v := 5) rfl dSL_indexOf_17 rfl ?_
    refine w_min m_769 m_770 m_86 m_771 (rfl : t.toInt = t.toInt) li_5 (Nat.le_of_ble_eq_true rfl) (by omega) dSL_indexOf_18 (fun z9_ h10_ => ?_)
    refine w_istore_n (ls' := [(3, vI z9_), (2, vI z7_), (0, vR (90, 13, 0)), (1, vI v)]) dSL_indexOf_21 rfl (by decide) rfl ?_
    refine w_iload_n dSL_indexOf_22 rfl 1 rfl ?_
    refine w_iload_n dSL_indexOf_23 rfl 0 rfl ?_
    refine w_icmp_lt (tgt := 29) dSL_indexOf_24 (by decide) (rfl : z7_.toInt = z7_.toInt) (rfl : z9_.toInt = z9_.toInt) (fun h11_ => ?_) (fun h11_ => ?_)
    · refine w_aload_n dSL_indexOf_29 rfl 2 rfl ?_
      refine w_iload_n dSL_indexOf_30 rfl 3 rfl ?_
      refine w_iload_n dSL_indexOf_31 rfl 1 rfl ?_
      refine w_iload_n dSL_indexOf_32 rfl 0 rfl ?_
      refine w_callS (as := [vR (90, 13, 0), vI v, vI z7_, vI z9_]) (rest := []) (c_SL_indexOfChar_3 l G cy ad d v z7_ z9_ Mz (lf_c_SL_indexOf_1_0 u z7_ h8_ ) (lf_c_SL_indexOf_3_1 t z9_ h10_ )) kS_SL_indexOfChar pnn_14 (Nat.le_of_ble_eq_true rfl) m_772 rfl rfl (by decide) (Nat.le_of_ble_eq_true rfl) dSL_indexOf_33 (fun r12_ M13_ q14_ => ?_)
      obtain ⟨rfl, h15_, hs16_⟩ := q14_
      exact w_iret rfl dSL_indexOf_36 ⟨rfl, trivial, ⟨r1_, hs5_, h4_, (Or.inl ⟨h6_, z7_, h8_, z9_, h10_, (Or.inl ⟨h11_, r12_, hs16_, rfl⟩)⟩)⟩⟩
    · refine w_iconst (v := (-1)) dSL_indexOf_27 (by decide) ?_
      exact w_iret rfl dSL_indexOf_28 ⟨rfl, trivial, ⟨r1_, hs5_, h4_, (Or.inl ⟨h6_, z7_, h8_, z9_, h10_, (Or.inr ⟨h11_, rfl⟩)⟩)⟩⟩
  · refine w_iconst (v := (-1)) dSL_indexOf_7 (by decide) ?_
    exact w_iret rfl dSL_indexOf_8 ⟨rfl, trivial, ⟨r1_, hs5_, h4_, (Or.inr ⟨h6_, rfl⟩)⟩⟩
def SP_S_indexOf2_3 (v : Int32) (u : Int32) (Mz : mM) (r_ : Int32) : Prop := (SP_S_isLatin1_3 Mz (1 : Int32)) ∧ (SP_S_length_3 Mz (5 : Int32)) ∧ ∃ r12_ : Int32, (SP_SL_indexOf_3 v u 5 Mz r12_) ∧ r_ = r12_
set_option maxHeartbeats 4000000 in
set_option maxRecDepth 100000 in
theorem c_S_indexOf2_3 {cls : List rf} (l : Launch) (G : va_G) (cy : Nat → ClassId) (ad : rf → Nat) (d : Nat) (v : Int32) (u : Int32) (Mz : mM) : WP cls l G cy ad yS_indexOf2 cS_indexOf2 3 (some .int) (d + 2) 0 [(0, vR (91, 3, 0)), (1, vI v), (2, vI u)] [] Mz (fun r M' => Mz = M' ∧ (True) ∧ SP_S_indexOf2_3 v u Mz r) := by
  refine w_aload_n dS_indexOf2_0 rfl 0 rfl ?_
  refine w_callStr (k := 3) rfl (as := []) (rest := []) (c_S_isLatin1_3 l G cy ad (d + 1) Mz) kV_S_isLatin1 pnn_15 rfl (Nat.le_of_ble_eq_true rfl) m_748 rfl rfl (by decide) (Nat.le_of_ble_eq_true rfl) dS_indexOf2_1 (fun r1_ M2_ q3_ => ?_)
  obtain ⟨rfl, h4_, hs5_⟩ := q3_
  subst h4_
  refine w_if_eq (tgt := 23) dS_indexOf2_4 (by decide) li_1 (fun h9 => (absurd h9 (by decide))) (fun h6_ => ?_)
  refine w_aload_n dS_indexOf2_7 rfl 0 rfl ?_
  refine w_getSv (k := 3) rfl m_1872 dS_indexOf2_8 ?_
  refine w_iload_n dS_indexOf2_11 rfl 1 rfl ?_
  refine w_iload_n dS_indexOf2_12 rfl 2 rfl ?_
  refine w_aload_n dS_indexOf2_13 rfl 0 rfl ?_
  refine w_callStr (k := 3) rfl (as := []) (rest := [vI u, vI v, vR (90, 13, 0)]) (c_S_length_3 l G cy ad d Mz) kV_S_length pnn_15 rfl (Nat.le_of_ble_eq_true rfl) m_754 rfl rfl (by decide) (Nat.le_of_ble_eq_true rfl) dS_indexOf2_14 (fun r7_ M8_ q9_ => ?_)
  obtain ⟨rfl, h10_, hs11_⟩ := q9_
  subst h10_
  refine w_callS (as := [vR (90, 13, 0), vI v, vI u, vI 5]) (rest := []) (c_SL_indexOf_3 l G cy ad d v u 5 Mz) kS_SL_indexOf pnn_14 (Nat.le_of_ble_eq_true rfl) m_762 rfl rfl (by decide) (Nat.le_of_ble_eq_true rfl) dS_indexOf2_17 (fun r12_ M13_ q14_ => ?_)
  obtain ⟨rfl, h15_, hs16_⟩ := q14_
  refine w_goto (tgt := 36) dS_indexOf2_20 (by decide) ?_
  exact w_iret rfl dS_indexOf2_36 ⟨rfl, trivial, ⟨hs5_, hs11_, r12_, hs16_, rfl⟩⟩
def SP_S_indexOf_3 (v : Int32) (Mz : mM) (r_ : Int32) : Prop := ∃ r1_ : Int32, (SP_S_indexOf2_3 v 0 Mz r1_) ∧ r_ = r1_
set_option maxHeartbeats 4000000 in
set_option maxRecDepth 100000 in
theorem c_S_indexOf_3 {cls : List rf} (l : Launch) (G : va_G) (cy : Nat → ClassId) (ad : rf → Nat) (d : Nat) (v : Int32) (Mz : mM) : WP cls l G cy ad yS_indexOf cS_indexOf 2 (some .int) (d + 3) 0 [(0, vR (91, 3, 0)), (1, vI v)] [] Mz (fun r M' => Mz = M' ∧ (True) ∧ SP_S_indexOf_3 v Mz r) := by
  refine w_aload_n dS_indexOf_0 rfl 0 rfl ?_
  refine w_iload_n dS_indexOf_1 rfl 1 rfl ?_
  refine w_iconst (v := 0) dS_indexOf_2 (by decide) ?_
  refine w_callStr (k := 3) rfl (as := [vI v, vI 0]) (rest := []) (c_S_indexOf2_3 l G cy ad d v 0 Mz) kV_S_indexOf2 pnn_15 rfl (Nat.le_of_ble_eq_true rfl) m_744 rfl rfl (by decide) (Nat.le_of_ble_eq_true rfl) dS_indexOf_3 (fun r1_ M2_ q3_ => ?_)
  obtain ⟨rfl, h4_, hs5_⟩ := q3_
  exact w_iret rfl dS_indexOf_6 ⟨rfl, trivial, ⟨r1_, hs5_, rfl⟩⟩
def SP_S_coder_4 (Mz : mM) (r_ : Int32) : Prop := r_ = 0
set_option maxHeartbeats 4000000 in
set_option maxRecDepth 100000 in
theorem c_S_coder_4 {cls : List rf} (l : Launch) (G : va_G) (cy : Nat → ClassId) (ad : rf → Nat) (d : Nat) (Mz : mM) : WP cls l G cy ad yS_coder cS_coder 1 (some .byte) d 0 [(0, vR (91, 4, 0))] [] Mz (fun r M' => Mz = M' ∧ (r = 0) ∧ SP_S_coder_4 Mz r) := by
  refine w_getsC m_752 dS_coder_0 ?_
  refine w_if_eq (tgt := 13) dS_coder_3 (by decide) li_1 (fun h9 => (absurd h9 (by decide))) (fun h1_ => ?_)
  refine w_aload_n dS_coder_6 rfl 0 rfl ?_
  refine w_getSc (k := 4) rfl m_1871 dS_coder_7 ?_
  refine w_goto (tgt := 14) dS_coder_10 (by decide) ?_
  exact w_bret (ty := .byte) rfl dS_coder_14 rfl ⟨rfl, rfl, rfl⟩
def SP_S_isLatin1_4 (Mz : mM) (r_ : Int32) : Prop := r_ = 1
set_option maxHeartbeats 4000000 in
set_option maxRecDepth 100000 in
theorem c_S_isLatin1_4 {cls : List rf} (l : Launch) (G : va_G) (cy : Nat → ClassId) (ad : rf → Nat) (d : Nat) (Mz : mM) : WP cls l G cy ad yS_isLatin1 cS_isLatin1 1 (some .boolean) d 0 [(0, vR (91, 4, 0))] [] Mz (fun r M' => Mz = M' ∧ (r = 1) ∧ SP_S_isLatin1_4 Mz r) := by
  refine w_getsC m_752 dS_isLatin1_0 ?_
  refine w_if_eq (tgt := 17) dS_isLatin1_3 (by decide) li_1 (fun h9 => (absurd h9 (by decide))) (fun h1_ => ?_)
  refine w_aload_n dS_isLatin1_6 rfl 0 rfl ?_
  refine w_getSc (k := 4) rfl m_1871 dS_isLatin1_7 ?_
  refine w_if_ne (tgt := 17) dS_isLatin1_10 (by decide) li_0 (fun h9 => (absurd h9 (by decide))) (fun h2_ => ?_)
  refine w_iconst (v := 1) dS_isLatin1_13 (by decide) ?_
  refine w_goto (tgt := 18) dS_isLatin1_14 (by decide) ?_
  exact w_zret rfl dS_isLatin1_18 ⟨by decide, by decide⟩ ⟨rfl, rfl, rfl⟩
def SP_S_length_4 (Mz : mM) (r_ : Int32) : Prop := (SP_S_coder_4 Mz (0 : Int32)) ∧ r_ = 4
set_option maxHeartbeats 4000000 in
set_option maxRecDepth 100000 in
theorem c_S_length_4 {cls : List rf} (l : Launch) (G : va_G) (cy : Nat → ClassId) (ad : rf → Nat) (d : Nat) (Mz : mM) : WP cls l G cy ad yS_length cS_length 1 (some .int) (d + 1) 0 [(0, vR (91, 4, 0))] [] Mz (fun r M' => Mz = M' ∧ (r = 4) ∧ SP_S_length_4 Mz r) := by
  refine w_aload_n dS_length_0 rfl 0 rfl ?_
  refine w_getSv (k := 4) rfl m_1872 dS_length_1 ?_
  refine w_alenS (k := 4) (v := 4) rfl dS_length_4 rfl ?_
  refine w_aload_n dS_length_5 rfl 0 rfl ?_
  refine w_callStr (k := 4) rfl (as := []) (rest := [vI 4]) (c_S_coder_4 l G cy ad d Mz) kV_S_coder pnn_15 rfl (Nat.le_of_ble_eq_true rfl) m_758 rfl rfl (by decide) (Nat.le_of_ble_eq_true rfl) dS_length_6 (fun r1_ M2_ q3_ => ?_)
  obtain ⟨rfl, h4_, hs5_⟩ := q3_
  subst h4_
  refine w_ishr dS_length_9 (fun z6_ h7_ => ?_)
  obtain rfl : z6_ = 4 := h7_.trans (by decide)
  exact w_iret rfl dS_length_10 ⟨rfl, rfl, ⟨hs5_, rfl⟩⟩
def SP_SL_charAt_4 (v : Int32) (Mz : mM) (r_ : Int32) : Prop := ∃ z1_j : Nat, ((z1_j : Int) = v.toInt) ∧ ∃ z1_ : Int32, (z1_ = ([108, 111, 121, 112] : List Int32).getD z1_j 0) ∧ ∃ z2_ : Int32, (z2_ = z1_ &&& (255 : Int32)) ∧ (0 ≤ z2_.toInt ∧ z2_.toInt < ((2 ^ 8 : Nat) : Int)) ∧ ∃ z5_ : Int32, (z5_ = (z2_.toUInt32 % 65536).toInt32) ∧ (narrow .char (.int z5_) = .int z5_) ∧ r_ = z5_
set_option maxHeartbeats 4000000 in
set_option maxRecDepth 100000 in
theorem c_SL_charAt_4 {cls : List rf} (l : Launch) (G : va_G) (cy : Nat → ClassId) (ad : rf → Nat) (d : Nat) (v : Int32) (Mz : mM) (hv : 0 ≤ v.toInt ∧ v.toInt < 4) : WP cls l G cy ad ySL_charAt cSL_charAt 2 (some .char) (d + 3) 0 [(0, vR (90, 14, 0)), (1, vI v)] [] Mz (fun r M' => Mz = M' ∧ (narrow .char (.int r) = .int r) ∧ SP_SL_charAt_4 v Mz r) := by
  refine w_iload_n dSL_charAt_0 rfl 1 rfl ?_
  refine w_aload_n dSL_charAt_1 rfl 0 rfl ?_
  refine w_alenS (k := 4) (v := 4) rfl dSL_charAt_2 rfl ?_
  refine w_checkIndex m_1607 (lf_c_SL_charAt_1_0 v hv ) li_4 (Nat.le_of_ble_eq_true rfl) (by omega) dSL_charAt_3 ?_
  refine w_aload_n dSL_charAt_6 rfl 0 rfl ?_
  refine w_iload_n dSL_charAt_7 rfl 1 rfl ?_
  refine w_baldS (k := 4) rfl (rfl : v.toInt = v.toInt) (lf_c_SL_charAt_1_0 v hv ) dSL_charAt_8 (fun z1_j z1_k z1_ z1_h => ?_)
  refine w_sipush (v := 255) dSL_charAt_9 (by decide) ?_
  refine w_iand dSL_charAt_12 (fun z2_ h4_ => ?_)
  have h3_ : 0 ≤ z2_.toInt ∧ z2_.toInt < ((2 ^ 8 : Nat) : Int) := by rw [h4_]; exact andI _ 8 (by decide) (by decide)
  refine w_i2c dSL_charAt_13 (fun z5_ h6_ => ?_)
  have h7_ : narrow .char (.int z5_) = .int z5_ := by rw [h6_]; exact nar_c _
  exact w_bret (ty := .char) rfl dSL_charAt_14 h7_ ⟨rfl, h7_, ⟨z1_j, z1_k, z1_, z1_h, z2_, h4_, h3_, z5_, h6_, h7_, rfl⟩⟩
def SP_S_charAt_4 (v : Int32) (Mz : mM) (r_ : Int32) : Prop := (SP_S_isLatin1_4 Mz (1 : Int32)) ∧ ∃ r7_ : Int32, (SP_SL_charAt_4 v Mz r7_) ∧ (narrow .char (.int r7_) = .int r7_) ∧ r_ = r7_
set_option maxHeartbeats 4000000 in
set_option maxRecDepth 100000 in
theorem c_S_charAt_4 {cls : List rf} (l : Launch) (G : va_G) (cy : Nat → ClassId) (ad : rf → Nat) (d : Nat) (v : Int32) (Mz : mM) (hv : 0 ≤ v.toInt ∧ v.toInt < 4) : WP cls l G cy ad yS_charAt cS_charAt 2 (some .char) (d + 4) 0 [(0, vR (91, 4, 0)), (1, vI v)] [] Mz (fun r M' => Mz = M' ∧ (narrow .char (.int r) = .int r) ∧ SP_S_charAt_4 v Mz r) := by
  refine w_aload_n dS_charAt_0 rfl 0 rfl ?_
  refine w_callStr (k := 4) rfl (as := []) (rest := []) (c_S_isLatin1_4 l G cy ad (d + 3) Mz) kV_S_isLatin1 pnn_15 rfl (Nat.le_of_ble_eq_true rfl) m_748 rfl rfl (by decide) (Nat.le_of_ble_eq_true rfl) dS_charAt_1 (fun r1_ M2_ q3_ => ?_)
  obtain ⟨rfl, h4_, hs5_⟩ := q3_
  subst h4_
  refine w_if_eq (tgt := 16) dS_charAt_4 (by decide) li_1 (fun h9 => (absurd h9 (by decide))) (fun h6_ => ?_)
  refine w_aload_n dS_charAt_7 rfl 0 rfl ?_
  refine w_getSv (k := 4) rfl m_1872 dS_charAt_8 ?_
  refine w_iload_n dS_charAt_11 rfl 1 rfl ?_
  refine w_callS (as := [vR (90, 14, 0), vI v]) (rest := []) (c_SL_charAt_4 l G cy ad d v Mz hv) kS_SL_charAt pnn_14 (Nat.le_of_ble_eq_true rfl) m_1604 rfl rfl (by decide) (Nat.le_of_ble_eq_true rfl) dS_charAt_12 (fun r7_ M8_ q9_ => ?_)
  obtain ⟨rfl, h10_, hs11_⟩ := q9_
  exact w_bret (ty := .char) rfl dS_charAt_15 h10_ ⟨rfl, h10_, ⟨hs5_, r7_, hs11_, h10_, rfl⟩⟩
def ST_SL_indexOfChar_4_7 (t : Int32) (z1_ : Int32) (v5_7 : Int32) (v5_7y : Int32) : Prop := (0 ≤ v5_7.toInt) ∧ (v5_7.toInt < t.toInt) ∧ ∃ z5_j : Nat, ((z5_j : Int) = v5_7.toInt) ∧ ∃ z5_ : Int32, (z5_ = ([108, 111, 121, 112] : List Int32).getD z5_j 0) ∧ (¬ z5_.toInt = z1_.toInt) ∧ ∃ z7_ : Int32, (z7_.toInt = v5_7.toInt + 1) ∧ v5_7y = z7_
def SP_SL_indexOfChar_4 (v : Int32) (u : Int32) (t : Int32) (Mz : mM) (r_ : Int32) : Prop := ∃ z1_ : Int32, (z1_ = v.toInt8.toInt32) ∧ ∃ v5_7 : Int32, (0 ≤ v5_7.toInt) ∧ (RCH (fun x_ y_ => ST_SL_indexOfChar_4_7 t z1_ x_ y_) u v5_7) ∧ (((t.toInt ≤ v5_7.toInt) ∧ r_ = (-1)) ∨ ((v5_7.toInt < t.toInt) ∧ ∃ z5_j : Nat, ((z5_j : Int) = v5_7.toInt) ∧ ∃ z5_ : Int32, (z5_ = ([108, 111, 121, 112] : List Int32).getD z5_j 0) ∧ (z5_.toInt = z1_.toInt) ∧ r_ = v5_7))
set_option maxHeartbeats 4000000 in
set_option maxRecDepth 100000 in
theorem c_SL_indexOfChar_4 {cls : List rf} (l : Launch) (G : va_G) (cy : Nat → ClassId) (ad : rf → Nat) (d : Nat) (v : Int32) (u : Int32) (t : Int32) (Mz : mM) (hu : 0 ≤ u.toInt) (ht : t.toInt ≤ 4) : WP cls l G cy ad ySL_indexOfChar cSL_indexOfChar 6 (some .int) d 0 [(0, vR (90, 14, 0)), (1, vI v), (2, vI u), (3, vI t)] [] Mz (fun r M' => Mz = M' ∧ (True) ∧ SP_SL_indexOfChar_4 v u t Mz r) := by
  refine w_iload_n dSL_indexOfChar_0 rfl 1 rfl ?_
  refine w_i2b dSL_indexOfChar_1 (fun z1_ h2_ => ?_)
  refine w_istore (ls' := [(4, vI z1_), (0, vR (90, 14, 0)), (1, vI v), (2, vI u), (3, vI t)]) dSL_indexOfChar_2 (by decide) rfl ?_
  refine w_iload_n dSL_indexOfChar_4 rfl 3 rfl ?_
  refine w_istore (ls' := [(5, vI u), (4, vI z1_), (0, vR (90, 14, 0)), (1, vI v), (2, vI u), (3, vI t)]) dSL_indexOfChar_5 (by decide) rfl ?_
  have lp3_ : ∀ (nn_7 : Nat) (v5_7 : Int32) (hv0_7 : 0 ≤ v5_7.toInt) (hL_7 : RCH (fun x_ y_ => ST_SL_indexOfChar_4_7 t z1_ x_ y_) u v5_7), (t.toInt - v5_7.toInt).toNat < nn_7 → WP cls l G cy ad ySL_indexOfChar cSL_indexOfChar 6 (some .int) d 7 [(5, vI v5_7), (4, vI z1_), (0, vR (90, 14, 0)), (1, vI v), (2, vI u), (3, vI t)] [] Mz (fun r M' => Mz = M' ∧ (True) ∧ SP_SL_indexOfChar_4 v u t Mz r) := by
    intro nn_7
    induction nn_7 with
    | zero => intro v5_7 hv0_7 hL_7 hm_7; exact absurd hm_7 (Nat.not_lt_zero _)
    | succ nn_7 ih_7 =>
      intro v5_7 hv0_7 hL_7 hm_7
      refine w_iload dSL_indexOfChar_7 0 rfl ?_
      refine w_iload_n dSL_indexOfChar_9 rfl 5 rfl ?_
      refine w_icmp_ge (tgt := 31) dSL_indexOfChar_10 (by decide) (rfl : v5_7.toInt = v5_7.toInt) (rfl : t.toInt = t.toInt) (fun h4_ => ?_) (fun h4_ => ?_)
      · refine w_iconst (v := (-1)) dSL_indexOfChar_31 (by decide) ?_
        exact w_iret rfl dSL_indexOfChar_32 ⟨rfl, trivial, ⟨z1_, h2_, v5_7, hv0_7, hL_7, (Or.inl ⟨h4_, rfl⟩)⟩⟩
      · refine w_aload_n dSL_indexOfChar_13 rfl 2 rfl ?_
        refine w_iload dSL_indexOfChar_14 0 rfl ?_
        refine w_baldS (k := 4) rfl (rfl : v5_7.toInt = v5_7.toInt) (lf_c_SL_indexOfChar_1_0 t v5_7 ht hv0_7 h4_ ) dSL_indexOfChar_16 (fun z5_j z5_k z5_ z5_h => ?_)
        refine w_iload dSL_indexOfChar_17 1 rfl ?_
        refine w_icmp_ne (tgt := 25) dSL_indexOfChar_19 (by decide) (rfl : z5_.toInt = z5_.toInt) (rfl : z1_.toInt = z1_.toInt) (fun h6_ => ?_) (fun h6_ => ?_)
        · refine w_iincB (j := 0) (f := fun z7_ => [(5, vI z7_), (4, vI z1_), (0, vR (90, 14, 0)), (1, vI v), (2, vI u), (3, vI t)]) dSL_indexOfChar_25 rfl (by decide) (fun _ => rfl) (rfl : v5_7.toInt = v5_7.toInt) li_1 (lf_c_SL_indexOfChar_1_1 t v5_7 ht hv0_7 h4_ ) (fun z7_ h8_ => ?_)
          refine w_goto (tgt := 7) dSL_indexOfChar_28 (by decide) ?_
          refine w_loc (ls' := [(5, vI z7_), (4, vI z1_), (0, vR (90, 14, 0)), (1, vI v), (2, vI u), (3, vI t)]) [0, 1, 2, 3, 4, 5] rfl ?_
          exact ih_7 z7_ (lf_c_X5_takeFrom_3 v5_7 z7_ hv0_7 h8_ ) (RCH.tail hL_7 ⟨hv0_7, h4_, z5_j, z5_k, z5_, z5_h, h6_, z7_, h8_, rfl⟩) (Nat.lt_of_lt_of_le (lf_c_SL_indexOfChar_1_3 t v5_7 z7_ h4_ h8_ ) (Nat.le_of_lt_succ hm_7))
        · refine w_iload dSL_indexOfChar_22 0 rfl ?_
          exact w_iret rfl dSL_indexOfChar_24 ⟨rfl, trivial, ⟨z1_, h2_, v5_7, hv0_7, hL_7, (Or.inr ⟨h4_, z5_j, z5_k, z5_, z5_h, h6_, rfl⟩)⟩⟩
  exact lp3_ _ u hu RCH.refl (Nat.lt_succ_self _)
def SP_SL_indexOf_4 (v : Int32) (u : Int32) (t : Int32) (Mz : mM) (r_ : Int32) : Prop := ∃ r1_ : Int32, (SP_SL_canEncode_0 v Mz r1_) ∧ ((0 ≤ r1_.toInt ∧ r1_.toInt ≤ 1)) ∧ (((¬ r1_.toInt = 0) ∧ ∃ z7_ : Int32, ((z7_.toInt = u.toInt ∧ 0 ≤ u.toInt) ∨ (z7_.toInt = 0 ∧ u.toInt ≤ 0)) ∧ ∃ z9_ : Int32, ((z9_.toInt = t.toInt ∧ t.toInt ≤ 4) ∨ (z9_.toInt = 4 ∧ 4 ≤ t.toInt)) ∧ (((z7_.toInt < z9_.toInt) ∧ ∃ r12_ : Int32, (SP_SL_indexOfChar_4 v z7_ z9_ Mz r12_) ∧ r_ = r12_) ∨ ((z9_.toInt ≤ z7_.toInt) ∧ r_ = (-1)))) ∨ ((r1_.toInt = 0) ∧ r_ = (-1)))
set_option maxHeartbeats 4000000 in
set_option maxRecDepth 100000 in
theorem c_SL_indexOf_4 {cls : List rf} (l : Launch) (G : va_G) (cy : Nat → ClassId) (ad : rf → Nat) (d : Nat) (v : Int32) (u : Int32) (t : Int32) (Mz : mM) : WP cls l G cy ad ySL_indexOf cSL_indexOf 4 (some .int) (d + 1) 0 [(0, vR (90, 14, 0)), (1, vI v), (2, vI u), (3, vI t)] [] Mz (fun r M' => Mz = M' ∧ (True) ∧ SP_SL_indexOf_4 v u t Mz r) := by
  refine w_iload_n dSL_indexOf_0 rfl 1 rfl ?_
  refine w_callS (as := [vI v]) (rest := []) (c_SL_canEncode_0 l G cy ad d v Mz) kS_SL_canEncode pnn_14 (Nat.le_of_ble_eq_true rfl) m_765 rfl rfl (by decide) (Nat.le_of_ble_eq_true rfl) dSL_indexOf_1 (fun r1_ M2_ q3_ => ?_)
  obtain ⟨rfl, h4_, hs5_⟩ := q3_
  refine w_if_ne (tgt := 9) dSL_indexOf_4 (by decide) (rfl : r1_.toInt = r1_.toInt) (fun h6_ => ?_) (fun h6_ => ?_)
  · refine w_iload_n dSL_indexOf_9 rfl 2 rfl ?_
    refine w_iconst (v := 0) dSL_indexOf_10 (by decide) ?_
    refine w_max m_768 m_206 m_86 m_207 (rfl : u.toInt = u.toInt) li_0 (Nat.le_of_ble_eq_true rfl) (by omega) dSL_indexOf_11 (fun z7_ h8_ => ?_)
    refine w_istore_n (ls' := [(2, vI z7_), (0, vR (90, 14, 0)), (1, vI v), (3, vI t)]) dSL_indexOf_14 rfl (by decide) rfl ?_
    refine w_iload_n dSL_indexOf_15 rfl 3 rfl ?_
    refine w_aload_n dSL_indexOf_16 rfl 1 rfl ?_
    refine w_alenS (k := 4) (v := 4) rfl dSL_indexOf_17 rfl ?_
    refine w_min m_769 m_770 m_86 m_771 (rfl : t.toInt = t.toInt) li_4 (Nat.le_of_ble_eq_true rfl) (by omega) dSL_indexOf_18 (fun z9_ h10_ => ?_)
    refine w_istore_n (ls' := [(3, vI z9_), (2, vI z7_), (0, vR (90, 14, 0)), (1, vI v)]) dSL_indexOf_21 rfl (by decide) rfl ?_
    refine w_iload_n dSL_indexOf_22 rfl 1 rfl ?_
    refine w_iload_n dSL_indexOf_23 rfl 0 rfl ?_
    refine w_icmp_lt (tgt := 29) dSL_indexOf_24 (by decide) (rfl : z7_.toInt = z7_.toInt) (rfl : z9_.toInt = z9_.toInt) (fun h11_ => ?_) (fun h11_ => ?_)
    · refine w_aload_n dSL_indexOf_29 rfl 2 rfl ?_
      refine w_iload_n dSL_indexOf_30 rfl 3 rfl ?_
      refine w_iload_n dSL_indexOf_31 rfl 1 rfl ?_
      refine w_iload_n dSL_indexOf_32 rfl 0 rfl ?_
      refine w_callS (as := [vR (90, 14, 0), vI v, vI z7_, vI z9_]) (rest := []) (c_SL_indexOfChar_4 l G cy ad d v z7_ z9_ Mz (lf_c_SL_indexOf_1_0 u z7_ h8_ ) (lf_c_SL_indexOf_1_1 t z9_ h10_ )) kS_SL_indexOfChar pnn_14 (Nat.le_of_ble_eq_true rfl) m_772 rfl rfl (by decide) (Nat.le_of_ble_eq_true rfl) dSL_indexOf_33 (fun r12_ M13_ q14_ => ?_)
      obtain ⟨rfl, h15_, hs16_⟩ := q14_
      exact w_iret rfl dSL_indexOf_36 ⟨rfl, trivial, ⟨r1_, hs5_, h4_, (Or.inl ⟨h6_, z7_, h8_, z9_, h10_, (Or.inl ⟨h11_, r12_, hs16_, rfl⟩)⟩)⟩⟩
    · refine w_iconst (v := (-1)) dSL_indexOf_27 (by decide) ?_
      exact w_iret rfl dSL_indexOf_28 ⟨rfl, trivial, ⟨r1_, hs5_, h4_, (Or.inl ⟨h6_, z7_, h8_, z9_, h10_, (Or.inr ⟨h11_, rfl⟩)⟩)⟩⟩
  · refine w_iconst (v := (-1)) dSL_indexOf_7 (by decide) ?_
    exact w_iret rfl dSL_indexOf_8 ⟨rfl, trivial, ⟨r1_, hs5_, h4_, (Or.inr ⟨h6_, rfl⟩)⟩⟩
def SP_S_indexOf2_4 (v : Int32) (u : Int32) (Mz : mM) (r_ : Int32) : Prop := (SP_S_isLatin1_4 Mz (1 : Int32)) ∧ (SP_S_length_4 Mz (4 : Int32)) ∧ ∃ r12_ : Int32, (SP_SL_indexOf_4 v u 4 Mz r12_) ∧ r_ = r12_
set_option maxHeartbeats 4000000 in
set_option maxRecDepth 100000 in
theorem c_S_indexOf2_4 {cls : List rf} (l : Launch) (G : va_G) (cy : Nat → ClassId) (ad : rf → Nat) (d : Nat) (v : Int32) (u : Int32) (Mz : mM) : WP cls l G cy ad yS_indexOf2 cS_indexOf2 3 (some .int) (d + 2) 0 [(0, vR (91, 4, 0)), (1, vI v), (2, vI u)] [] Mz (fun r M' => Mz = M' ∧ (True) ∧ SP_S_indexOf2_4 v u Mz r) := by
  refine w_aload_n dS_indexOf2_0 rfl 0 rfl ?_
  refine w_callStr (k := 4) rfl (as := []) (rest := []) (c_S_isLatin1_4 l G cy ad (d + 1) Mz) kV_S_isLatin1 pnn_15 rfl (Nat.le_of_ble_eq_true rfl) m_748 rfl rfl (by decide) (Nat.le_of_ble_eq_true rfl) dS_indexOf2_1 (fun r1_ M2_ q3_ => ?_)
  obtain ⟨rfl, h4_, hs5_⟩ := q3_
  subst h4_
  refine w_if_eq (tgt := 23) dS_indexOf2_4 (by decide) li_1 (fun h9 => (absurd h9 (by decide))) (fun h6_ => ?_)
  refine w_aload_n dS_indexOf2_7 rfl 0 rfl ?_
  refine w_getSv (k := 4) rfl m_1872 dS_indexOf2_8 ?_
  refine w_iload_n dS_indexOf2_11 rfl 1 rfl ?_
  refine w_iload_n dS_indexOf2_12 rfl 2 rfl ?_
  refine w_aload_n dS_indexOf2_13 rfl 0 rfl ?_
  refine w_callStr (k := 4) rfl (as := []) (rest := [vI u, vI v, vR (90, 14, 0)]) (c_S_length_4 l G cy ad d Mz) kV_S_length pnn_15 rfl (Nat.le_of_ble_eq_true rfl) m_754 rfl rfl (by decide) (Nat.le_of_ble_eq_true rfl) dS_indexOf2_14 (fun r7_ M8_ q9_ => ?_)
  obtain ⟨rfl, h10_, hs11_⟩ := q9_
  subst h10_
  refine w_callS (as := [vR (90, 14, 0), vI v, vI u, vI 4]) (rest := []) (c_SL_indexOf_4 l G cy ad d v u 4 Mz) kS_SL_indexOf pnn_14 (Nat.le_of_ble_eq_true rfl) m_762 rfl rfl (by decide) (Nat.le_of_ble_eq_true rfl) dS_indexOf2_17 (fun r12_ M13_ q14_ => ?_)
  obtain ⟨rfl, h15_, hs16_⟩ := q14_
  refine w_goto (tgt := 36) dS_indexOf2_20 (by decide) ?_
  exact w_iret rfl dS_indexOf2_36 ⟨rfl, trivial, ⟨hs5_, hs11_, r12_, hs16_, rfl⟩⟩
def SP_S_indexOf_4 (v : Int32) (Mz : mM) (r_ : Int32) : Prop := ∃ r1_ : Int32, (SP_S_indexOf2_4 v 0 Mz r1_) ∧ r_ = r1_
set_option maxHeartbeats 4000000 in
set_option maxRecDepth 100000 in
theorem c_S_indexOf_4 {cls : List rf} (l : Launch) (G : va_G) (cy : Nat → ClassId) (ad : rf → Nat) (d : Nat) (v : Int32) (Mz : mM) : WP cls l G cy ad yS_indexOf cS_indexOf 2 (some .int) (d + 3) 0 [(0, vR (91, 4, 0)), (1, vI v)] [] Mz (fun r M' => Mz = M' ∧ (True) ∧ SP_S_indexOf_4 v Mz r) := by
  refine w_aload_n dS_indexOf_0 rfl 0 rfl ?_
  refine w_iload_n dS_indexOf_1 rfl 1 rfl ?_
  refine w_iconst (v := 0) dS_indexOf_2 (by decide) ?_
  refine w_callStr (k := 4) rfl (as := [vI v, vI 0]) (rest := []) (c_S_indexOf2_4 l G cy ad d v 0 Mz) kV_S_indexOf2 pnn_15 rfl (Nat.le_of_ble_eq_true rfl) m_744 rfl rfl (by decide) (Nat.le_of_ble_eq_true rfl) dS_indexOf_3 (fun r1_ M2_ q3_ => ?_)
  obtain ⟨rfl, h4_, hs5_⟩ := q3_
  exact w_iret rfl dS_indexOf_6 ⟨rfl, trivial, ⟨r1_, hs5_, rfl⟩⟩
def SP_S_coder_5 (Mz : mM) (r_ : Int32) : Prop := r_ = 0
set_option maxHeartbeats 4000000 in
set_option maxRecDepth 100000 in
theorem c_S_coder_5 {cls : List rf} (l : Launch) (G : va_G) (cy : Nat → ClassId) (ad : rf → Nat) (d : Nat) (Mz : mM) : WP cls l G cy ad yS_coder cS_coder 1 (some .byte) d 0 [(0, vR (91, 5, 0))] [] Mz (fun r M' => Mz = M' ∧ (r = 0) ∧ SP_S_coder_5 Mz r) := by
  refine w_getsC m_752 dS_coder_0 ?_
  refine w_if_eq (tgt := 13) dS_coder_3 (by decide) li_1 (fun h9 => (absurd h9 (by decide))) (fun h1_ => ?_)
  refine w_aload_n dS_coder_6 rfl 0 rfl ?_
  refine w_getSc (k := 5) rfl m_1871 dS_coder_7 ?_
  refine w_goto (tgt := 14) dS_coder_10 (by decide) ?_
  exact w_bret (ty := .byte) rfl dS_coder_14 rfl ⟨rfl, rfl, rfl⟩
def SP_S_isLatin1_5 (Mz : mM) (r_ : Int32) : Prop := r_ = 1
set_option maxHeartbeats 4000000 in
set_option maxRecDepth 100000 in
theorem c_S_isLatin1_5 {cls : List rf} (l : Launch) (G : va_G) (cy : Nat → ClassId) (ad : rf → Nat) (d : Nat) (Mz : mM) : WP cls l G cy ad yS_isLatin1 cS_isLatin1 1 (some .boolean) d 0 [(0, vR (91, 5, 0))] [] Mz (fun r M' => Mz = M' ∧ (r = 1) ∧ SP_S_isLatin1_5 Mz r) := by
  refine w_getsC m_752 dS_isLatin1_0 ?_
  refine w_if_eq (tgt := 17) dS_isLatin1_3 (by decide) li_1 (fun h9 => (absurd h9 (by decide))) (fun h1_ => ?_)
  refine w_aload_n dS_isLatin1_6 rfl 0 rfl ?_
  refine w_getSc (k := 5) rfl m_1871 dS_isLatin1_7 ?_
  refine w_if_ne (tgt := 17) dS_isLatin1_10 (by decide) li_0 (fun h9 => (absurd h9 (by decide))) (fun h2_ => ?_)
  refine w_iconst (v := 1) dS_isLatin1_13 (by decide) ?_
  refine w_goto (tgt := 18) dS_isLatin1_14 (by decide) ?_
  exact w_zret rfl dS_isLatin1_18 ⟨by decide, by decide⟩ ⟨rfl, rfl, rfl⟩
def SP_S_length_5 (Mz : mM) (r_ : Int32) : Prop := (SP_S_coder_5 Mz (0 : Int32)) ∧ r_ = 3
set_option maxHeartbeats 4000000 in
set_option maxRecDepth 100000 in
theorem c_S_length_5 {cls : List rf} (l : Launch) (G : va_G) (cy : Nat → ClassId) (ad : rf → Nat) (d : Nat) (Mz : mM) : WP cls l G cy ad yS_length cS_length 1 (some .int) (d + 1) 0 [(0, vR (91, 5, 0))] [] Mz (fun r M' => Mz = M' ∧ (r = 3) ∧ SP_S_length_5 Mz r) := by
  refine w_aload_n dS_length_0 rfl 0 rfl ?_
  refine w_getSv (k := 5) rfl m_1872 dS_length_1 ?_
  refine w_alenS (k := 5) (v := 3) rfl dS_length_4 rfl ?_
  refine w_aload_n dS_length_5 rfl 0 rfl ?_
  refine w_callStr (k := 5) rfl (as := []) (rest := [vI 3]) (c_S_coder_5 l G cy ad d Mz) kV_S_coder pnn_15 rfl (Nat.le_of_ble_eq_true rfl) m_758 rfl rfl (by decide) (Nat.le_of_ble_eq_true rfl) dS_length_6 (fun r1_ M2_ q3_ => ?_)
  obtain ⟨rfl, h4_, hs5_⟩ := q3_
  subst h4_
  refine w_ishr dS_length_9 (fun z6_ h7_ => ?_)
  obtain rfl : z6_ = 3 := h7_.trans (by decide)
  exact w_iret rfl dS_length_10 ⟨rfl, rfl, ⟨hs5_, rfl⟩⟩
def SP_SL_charAt_5 (v : Int32) (Mz : mM) (r_ : Int32) : Prop := ∃ z1_j : Nat, ((z1_j : Int) = v.toInt) ∧ ∃ z1_ : Int32, (z1_ = ([115, 110, 116] : List Int32).getD z1_j 0) ∧ ∃ z2_ : Int32, (z2_ = z1_ &&& (255 : Int32)) ∧ (0 ≤ z2_.toInt ∧ z2_.toInt < ((2 ^ 8 : Nat) : Int)) ∧ ∃ z5_ : Int32, (z5_ = (z2_.toUInt32 % 65536).toInt32) ∧ (narrow .char (.int z5_) = .int z5_) ∧ r_ = z5_
set_option maxHeartbeats 4000000 in
set_option maxRecDepth 100000 in
theorem c_SL_charAt_5 {cls : List rf} (l : Launch) (G : va_G) (cy : Nat → ClassId) (ad : rf → Nat) (d : Nat) (v : Int32) (Mz : mM) (hv : 0 ≤ v.toInt ∧ v.toInt < 3) : WP cls l G cy ad ySL_charAt cSL_charAt 2 (some .char) (d + 3) 0 [(0, vR (90, 15, 0)), (1, vI v)] [] Mz (fun r M' => Mz = M' ∧ (narrow .char (.int r) = .int r) ∧ SP_SL_charAt_5 v Mz r) := by
  refine w_iload_n dSL_charAt_0 rfl 1 rfl ?_
  refine w_aload_n dSL_charAt_1 rfl 0 rfl ?_
  refine w_alenS (k := 5) (v := 3) rfl dSL_charAt_2 rfl ?_
  refine w_checkIndex m_1607 (lf_c_SL_charAt_2_0 v hv ) li_3 (Nat.le_of_ble_eq_true rfl) (by omega) dSL_charAt_3 ?_
  refine w_aload_n dSL_charAt_6 rfl 0 rfl ?_
  refine w_iload_n dSL_charAt_7 rfl 1 rfl ?_
  refine w_baldS (k := 5) rfl (rfl : v.toInt = v.toInt) (lf_c_SL_charAt_2_0 v hv ) dSL_charAt_8 (fun z1_j z1_k z1_ z1_h => ?_)
  refine w_sipush (v := 255) dSL_charAt_9 (by decide) ?_
  refine w_iand dSL_charAt_12 (fun z2_ h4_ => ?_)
  have h3_ : 0 ≤ z2_.toInt ∧ z2_.toInt < ((2 ^ 8 : Nat) : Int) := by rw [h4_]; exact andI _ 8 (by decide) (by decide)
  refine w_i2c dSL_charAt_13 (fun z5_ h6_ => ?_)
  have h7_ : narrow .char (.int z5_) = .int z5_ := by rw [h6_]; exact nar_c _
  exact w_bret (ty := .char) rfl dSL_charAt_14 h7_ ⟨rfl, h7_, ⟨z1_j, z1_k, z1_, z1_h, z2_, h4_, h3_, z5_, h6_, h7_, rfl⟩⟩
def SP_S_charAt_5 (v : Int32) (Mz : mM) (r_ : Int32) : Prop := (SP_S_isLatin1_5 Mz (1 : Int32)) ∧ ∃ r7_ : Int32, (SP_SL_charAt_5 v Mz r7_) ∧ (narrow .char (.int r7_) = .int r7_) ∧ r_ = r7_
set_option maxHeartbeats 4000000 in
set_option maxRecDepth 100000 in
theorem c_S_charAt_5 {cls : List rf} (l : Launch) (G : va_G) (cy : Nat → ClassId) (ad : rf → Nat) (d : Nat) (v : Int32) (Mz : mM) (hv : 0 ≤ v.toInt ∧ v.toInt < 3) : WP cls l G cy ad yS_charAt cS_charAt 2 (some .char) (d + 4) 0 [(0, vR (91, 5, 0)), (1, vI v)] [] Mz (fun r M' => Mz = M' ∧ (narrow .char (.int r) = .int r) ∧ SP_S_charAt_5 v Mz r) := by
  refine w_aload_n dS_charAt_0 rfl 0 rfl ?_
  refine w_callStr (k := 5) rfl (as := []) (rest := []) (c_S_isLatin1_5 l G cy ad (d + 3) Mz) kV_S_isLatin1 pnn_15 rfl (Nat.le_of_ble_eq_true rfl) m_748 rfl rfl (by decide) (Nat.le_of_ble_eq_true rfl) dS_charAt_1 (fun r1_ M2_ q3_ => ?_)
  obtain ⟨rfl, h4_, hs5_⟩ := q3_
  subst h4_
  refine w_if_eq (tgt := 16) dS_charAt_4 (by decide) li_1 (fun h9 => (absurd h9 (by decide))) (fun h6_ => ?_)
  refine w_aload_n dS_charAt_7 rfl 0 rfl ?_
  refine w_getSv (k := 5) rfl m_1872 dS_charAt_8 ?_
  refine w_iload_n dS_charAt_11 rfl 1 rfl ?_
  refine w_callS (as := [vR (90, 15, 0), vI v]) (rest := []) (c_SL_charAt_5 l G cy ad d v Mz hv) kS_SL_charAt pnn_14 (Nat.le_of_ble_eq_true rfl) m_1604 rfl rfl (by decide) (Nat.le_of_ble_eq_true rfl) dS_charAt_12 (fun r7_ M8_ q9_ => ?_)
  obtain ⟨rfl, h10_, hs11_⟩ := q9_
  exact w_bret (ty := .char) rfl dS_charAt_15 h10_ ⟨rfl, h10_, ⟨hs5_, r7_, hs11_, h10_, rfl⟩⟩
def ST_SL_indexOfChar_5_7 (t : Int32) (z1_ : Int32) (v5_7 : Int32) (v5_7y : Int32) : Prop := (0 ≤ v5_7.toInt) ∧ (v5_7.toInt < t.toInt) ∧ ∃ z5_j : Nat, ((z5_j : Int) = v5_7.toInt) ∧ ∃ z5_ : Int32, (z5_ = ([115, 110, 116] : List Int32).getD z5_j 0) ∧ (¬ z5_.toInt = z1_.toInt) ∧ ∃ z7_ : Int32, (z7_.toInt = v5_7.toInt + 1) ∧ v5_7y = z7_
def SP_SL_indexOfChar_5 (v : Int32) (u : Int32) (t : Int32) (Mz : mM) (r_ : Int32) : Prop := ∃ z1_ : Int32, (z1_ = v.toInt8.toInt32) ∧ ∃ v5_7 : Int32, (0 ≤ v5_7.toInt) ∧ (RCH (fun x_ y_ => ST_SL_indexOfChar_5_7 t z1_ x_ y_) u v5_7) ∧ (((t.toInt ≤ v5_7.toInt) ∧ r_ = (-1)) ∨ ((v5_7.toInt < t.toInt) ∧ ∃ z5_j : Nat, ((z5_j : Int) = v5_7.toInt) ∧ ∃ z5_ : Int32, (z5_ = ([115, 110, 116] : List Int32).getD z5_j 0) ∧ (z5_.toInt = z1_.toInt) ∧ r_ = v5_7))
set_option maxHeartbeats 4000000 in
set_option maxRecDepth 100000 in
theorem c_SL_indexOfChar_5 {cls : List rf} (l : Launch) (G : va_G) (cy : Nat → ClassId) (ad : rf → Nat) (d : Nat) (v : Int32) (u : Int32) (t : Int32) (Mz : mM) (hu : 0 ≤ u.toInt) (ht : t.toInt ≤ 3) : WP cls l G cy ad ySL_indexOfChar cSL_indexOfChar 6 (some .int) d 0 [(0, vR (90, 15, 0)), (1, vI v), (2, vI u), (3, vI t)] [] Mz (fun r M' => Mz = M' ∧ (True) ∧ SP_SL_indexOfChar_5 v u t Mz r) := by
  refine w_iload_n dSL_indexOfChar_0 rfl 1 rfl ?_
  refine w_i2b dSL_indexOfChar_1 (fun z1_ h2_ => ?_)
  refine w_istore (ls' := [(4, vI z1_), (0, vR (90, 15, 0)), (1, vI v), (2, vI u), (3, vI t)]) dSL_indexOfChar_2 (by decide) rfl ?_
  refine w_iload_n dSL_indexOfChar_4 rfl 3 rfl ?_
  refine w_istore (ls' := [(5, vI u), (4, vI z1_), (0, vR (90, 15, 0)), (1, vI v), (2, vI u), (3, vI t)]) dSL_indexOfChar_5 (by decide) rfl ?_
  have lp3_ : ∀ (nn_7 : Nat) (v5_7 : Int32) (hv0_7 : 0 ≤ v5_7.toInt) (hL_7 : RCH (fun x_ y_ => ST_SL_indexOfChar_5_7 t z1_ x_ y_) u v5_7), (t.toInt - v5_7.toInt).toNat < nn_7 → WP cls l G cy ad ySL_indexOfChar cSL_indexOfChar 6 (some .int) d 7 [(5, vI v5_7), (4, vI z1_), (0, vR (90, 15, 0)), (1, vI v), (2, vI u), (3, vI t)] [] Mz (fun r M' => Mz = M' ∧ (True) ∧ SP_SL_indexOfChar_5 v u t Mz r) := by
    intro nn_7
    induction nn_7 with
    | zero => intro v5_7 hv0_7 hL_7 hm_7; exact absurd hm_7 (Nat.not_lt_zero _)
    | succ nn_7 ih_7 =>
      intro v5_7 hv0_7 hL_7 hm_7
      refine w_iload dSL_indexOfChar_7 0 rfl ?_
      refine w_iload_n dSL_indexOfChar_9 rfl 5 rfl ?_
      refine w_icmp_ge (tgt := 31) dSL_indexOfChar_10 (by decide) (rfl : v5_7.toInt = v5_7.toInt) (rfl : t.toInt = t.toInt) (fun h4_ => ?_) (fun h4_ => ?_)
      · refine w_iconst (v := (-1)) dSL_indexOfChar_31 (by decide) ?_
        exact w_iret rfl dSL_indexOfChar_32 ⟨rfl, trivial, ⟨z1_, h2_, v5_7, hv0_7, hL_7, (Or.inl ⟨h4_, rfl⟩)⟩⟩
      · refine w_aload_n dSL_indexOfChar_13 rfl 2 rfl ?_
        refine w_iload dSL_indexOfChar_14 0 rfl ?_
        refine w_baldS (k := 5) rfl (rfl : v5_7.toInt = v5_7.toInt) (lf_c_SL_indexOfChar_2_0 t v5_7 ht hv0_7 h4_ ) dSL_indexOfChar_16 (fun z5_j z5_k z5_ z5_h => ?_)
        refine w_iload dSL_indexOfChar_17 1 rfl ?_
        refine w_icmp_ne (tgt := 25) dSL_indexOfChar_19 (by decide) (rfl : z5_.toInt = z5_.toInt) (rfl : z1_.toInt = z1_.toInt) (fun h6_ => ?_) (fun h6_ => ?_)
        · refine w_iincB (j := 0) (f := fun z7_ => [(5, vI z7_), (4, vI z1_), (0, vR (90, 15, 0)), (1, vI v), (2, vI u), (3, vI t)]) dSL_indexOfChar_25 rfl (by decide) (fun _ => rfl) (rfl : v5_7.toInt = v5_7.toInt) li_1 (lf_c_SL_indexOfChar_2_1 t v5_7 ht hv0_7 h4_ ) (fun z7_ h8_ => ?_)
          refine w_goto (tgt := 7) dSL_indexOfChar_28 (by decide) ?_
          refine w_loc (ls' := [(5, vI z7_), (4, vI z1_), (0, vR (90, 15, 0)), (1, vI v), (2, vI u), (3, vI t)]) [0, 1, 2, 3, 4, 5] rfl ?_
          exact ih_7 z7_ (lf_c_X5_takeFrom_3 v5_7 z7_ hv0_7 h8_ ) (RCH.tail hL_7 ⟨hv0_7, h4_, z5_j, z5_k, z5_, z5_h, h6_, z7_, h8_, rfl⟩) (Nat.lt_of_lt_of_le (lf_c_SL_indexOfChar_1_3 t v5_7 z7_ h4_ h8_ ) (Nat.le_of_lt_succ hm_7))
        · refine w_iload dSL_indexOfChar_22 0 rfl ?_
          exact w_iret rfl dSL_indexOfChar_24 ⟨rfl, trivial, ⟨z1_, h2_, v5_7, hv0_7, hL_7, (Or.inr ⟨h4_, z5_j, z5_k, z5_, z5_h, h6_, rfl⟩)⟩⟩
  exact lp3_ _ u hu RCH.refl (Nat.lt_succ_self _)
def SP_SL_indexOf_5 (v : Int32) (u : Int32) (t : Int32) (Mz : mM) (r_ : Int32) : Prop := ∃ r1_ : Int32, (SP_SL_canEncode_0 v Mz r1_) ∧ ((0 ≤ r1_.toInt ∧ r1_.toInt ≤ 1)) ∧ (((¬ r1_.toInt = 0) ∧ ∃ z7_ : Int32, ((z7_.toInt = u.toInt ∧ 0 ≤ u.toInt) ∨ (z7_.toInt = 0 ∧ u.toInt ≤ 0)) ∧ ∃ z9_ : Int32, ((z9_.toInt = t.toInt ∧ t.toInt ≤ 3) ∨ (z9_.toInt = 3 ∧ 3 ≤ t.toInt)) ∧ (((z7_.toInt < z9_.toInt) ∧ ∃ r12_ : Int32, (SP_SL_indexOfChar_5 v z7_ z9_ Mz r12_) ∧ r_ = r12_) ∨ ((z9_.toInt ≤ z7_.toInt) ∧ r_ = (-1)))) ∨ ((r1_.toInt = 0) ∧ r_ = (-1)))
set_option maxHeartbeats 4000000 in
set_option maxRecDepth 100000 in
theorem c_SL_indexOf_5 {cls : List rf} (l : Launch) (G : va_G) (cy : Nat → ClassId) (ad : rf → Nat) (d : Nat) (v : Int32) (u : Int32) (t : Int32) (Mz : mM) : WP cls l G cy ad ySL_indexOf cSL_indexOf 4 (some .int) (d + 1) 0 [(0, vR (90, 15, 0)), (1, vI v), (2, vI u), (3, vI t)] [] Mz (fun r M' => Mz = M' ∧ (True) ∧ SP_SL_indexOf_5 v u t Mz r) := by
  refine w_iload_n dSL_indexOf_0 rfl 1 rfl ?_
  refine w_callS (as := [vI v]) (rest := []) (c_SL_canEncode_0 l G cy ad d v Mz) kS_SL_canEncode pnn_14 (Nat.le_of_ble_eq_true rfl) m_765 rfl rfl (by decide) (Nat.le_of_ble_eq_true rfl) dSL_indexOf_1 (fun r1_ M2_ q3_ => ?_)
  obtain ⟨rfl, h4_, hs5_⟩ := q3_
  refine w_if_ne (tgt := 9) dSL_indexOf_4 (by decide) (rfl : r1_.toInt = r1_.toInt) (fun h6_ => ?_) (fun h6_ => ?_)
  · refine w_iload_n dSL_indexOf_9 rfl 2 rfl ?_
    refine w_iconst (v := 0) dSL_indexOf_10 (by decide) ?_
    refine w_max m_768 m_206 m_86 m_207 (rfl : u.toInt = u.toInt) li_0 (Nat.le_of_ble_eq_true rfl) (by omega) dSL_indexOf_11 (fun z7_ h8_ => ?_)
    refine w_istore_n (ls' := [(2, vI z7_), (0, vR (90, 15, 0)), (1, vI v), (3, vI t)]) dSL_indexOf_14 rfl (by decide) rfl ?_
    refine w_iload_n dSL_indexOf_15 rfl 3 rfl ?_
    refine w_aload_n dSL_indexOf_16 rfl 1 rfl ?_
    refine w_alenS (k := 5) (v := 3) rfl dSL_indexOf_17 rfl ?_
    refine w_min m_769 m_770 m_86 m_771 (rfl : t.toInt = t.toInt) li_3 (Nat.le_of_ble_eq_true rfl) (by omega) dSL_indexOf_18 (fun z9_ h10_ => ?_)
    refine w_istore_n (ls' := [(3, vI z9_), (2, vI z7_), (0, vR (90, 15, 0)), (1, vI v)]) dSL_indexOf_21 rfl (by decide) rfl ?_
    refine w_iload_n dSL_indexOf_22 rfl 1 rfl ?_
    refine w_iload_n dSL_indexOf_23 rfl 0 rfl ?_
    refine w_icmp_lt (tgt := 29) dSL_indexOf_24 (by decide) (rfl : z7_.toInt = z7_.toInt) (rfl : z9_.toInt = z9_.toInt) (fun h11_ => ?_) (fun h11_ => ?_)
    · refine w_aload_n dSL_indexOf_29 rfl 2 rfl ?_
      refine w_iload_n dSL_indexOf_30 rfl 3 rfl ?_
      refine w_iload_n dSL_indexOf_31 rfl 1 rfl ?_
      refine w_iload_n dSL_indexOf_32 rfl 0 rfl ?_
      refine w_callS (as := [vR (90, 15, 0), vI v, vI z7_, vI z9_]) (rest := []) (c_SL_indexOfChar_5 l G cy ad d v z7_ z9_ Mz (lf_c_SL_indexOf_1_0 u z7_ h8_ ) (lf_c_SL_indexOf_2_1 t z9_ h10_ )) kS_SL_indexOfChar pnn_14 (Nat.le_of_ble_eq_true rfl) m_772 rfl rfl (by decide) (Nat.le_of_ble_eq_true rfl) dSL_indexOf_33 (fun r12_ M13_ q14_ => ?_)
      obtain ⟨rfl, h15_, hs16_⟩ := q14_
      exact w_iret rfl dSL_indexOf_36 ⟨rfl, trivial, ⟨r1_, hs5_, h4_, (Or.inl ⟨h6_, z7_, h8_, z9_, h10_, (Or.inl ⟨h11_, r12_, hs16_, rfl⟩)⟩)⟩⟩
    · refine w_iconst (v := (-1)) dSL_indexOf_27 (by decide) ?_
      exact w_iret rfl dSL_indexOf_28 ⟨rfl, trivial, ⟨r1_, hs5_, h4_, (Or.inl ⟨h6_, z7_, h8_, z9_, h10_, (Or.inr ⟨h11_, rfl⟩)⟩)⟩⟩
  · refine w_iconst (v := (-1)) dSL_indexOf_7 (by decide) ?_
    exact w_iret rfl dSL_indexOf_8 ⟨rfl, trivial, ⟨r1_, hs5_, h4_, (Or.inr ⟨h6_, rfl⟩)⟩⟩
def SP_S_indexOf2_5 (v : Int32) (u : Int32) (Mz : mM) (r_ : Int32) : Prop := (SP_S_isLatin1_5 Mz (1 : Int32)) ∧ (SP_S_length_5 Mz (3 : Int32)) ∧ ∃ r12_ : Int32, (SP_SL_indexOf_5 v u 3 Mz r12_) ∧ r_ = r12_
set_option maxHeartbeats 4000000 in
set_option maxRecDepth 100000 in
theorem c_S_indexOf2_5 {cls : List rf} (l : Launch) (G : va_G) (cy : Nat → ClassId) (ad : rf → Nat) (d : Nat) (v : Int32) (u : Int32) (Mz : mM) : WP cls l G cy ad yS_indexOf2 cS_indexOf2 3 (some .int) (d + 2) 0 [(0, vR (91, 5, 0)), (1, vI v), (2, vI u)] [] Mz (fun r M' => Mz = M' ∧ (True) ∧ SP_S_indexOf2_5 v u Mz r) := by
  refine w_aload_n dS_indexOf2_0 rfl 0 rfl ?_
  refine w_callStr (k := 5) rfl (as := []) (rest := []) (c_S_isLatin1_5 l G cy ad (d + 1) Mz) kV_S_isLatin1 pnn_15 rfl (Nat.le_of_ble_eq_true rfl) m_748 rfl rfl (by decide) (Nat.le_of_ble_eq_true rfl) dS_indexOf2_1 (fun r1_ M2_ q3_ => ?_)
  obtain ⟨rfl, h4_, hs5_⟩ := q3_
  subst h4_
  refine w_if_eq (tgt := 23) dS_indexOf2_4 (by decide) li_1 (fun h9 => (absurd h9 (by decide))) (fun h6_ => ?_)
  refine w_aload_n dS_indexOf2_7 rfl 0 rfl ?_
  refine w_getSv (k := 5) rfl m_1872 dS_indexOf2_8 ?_
  refine w_iload_n dS_indexOf2_11 rfl 1 rfl ?_
  refine w_iload_n dS_indexOf2_12 rfl 2 rfl ?_
  refine w_aload_n dS_indexOf2_13 rfl 0 rfl ?_
  refine w_callStr (k := 5) rfl (as := []) (rest := [vI u, vI v, vR (90, 15, 0)]) (c_S_length_5 l G cy ad d Mz) kV_S_length pnn_15 rfl (Nat.le_of_ble_eq_true rfl) m_754 rfl rfl (by decide) (Nat.le_of_ble_eq_true rfl) dS_indexOf2_14 (fun r7_ M8_ q9_ => ?_)
  obtain ⟨rfl, h10_, hs11_⟩ := q9_
  subst h10_
  refine w_callS (as := [vR (90, 15, 0), vI v, vI u, vI 3]) (rest := []) (c_SL_indexOf_5 l G cy ad d v u 3 Mz) kS_SL_indexOf pnn_14 (Nat.le_of_ble_eq_true rfl) m_762 rfl rfl (by decide) (Nat.le_of_ble_eq_true rfl) dS_indexOf2_17 (fun r12_ M13_ q14_ => ?_)
  obtain ⟨rfl, h15_, hs16_⟩ := q14_
  refine w_goto (tgt := 36) dS_indexOf2_20 (by decide) ?_
  exact w_iret rfl dS_indexOf2_36 ⟨rfl, trivial, ⟨hs5_, hs11_, r12_, hs16_, rfl⟩⟩
def SP_S_indexOf_5 (v : Int32) (Mz : mM) (r_ : Int32) : Prop := ∃ r1_ : Int32, (SP_S_indexOf2_5 v 0 Mz r1_) ∧ r_ = r1_
set_option maxHeartbeats 4000000 in
set_option maxRecDepth 100000 in
theorem c_S_indexOf_5 {cls : List rf} (l : Launch) (G : va_G) (cy : Nat → ClassId) (ad : rf → Nat) (d : Nat) (v : Int32) (Mz : mM) : WP cls l G cy ad yS_indexOf cS_indexOf 2 (some .int) (d + 3) 0 [(0, vR (91, 5, 0)), (1, vI v)] [] Mz (fun r M' => Mz = M' ∧ (True) ∧ SP_S_indexOf_5 v Mz r) := by
  refine w_aload_n dS_indexOf_0 rfl 0 rfl ?_
  refine w_iload_n dS_indexOf_1 rfl 1 rfl ?_
  refine w_iconst (v := 0) dS_indexOf_2 (by decide) ?_
  refine w_callStr (k := 5) rfl (as := [vI v, vI 0]) (rest := []) (c_S_indexOf2_5 l G cy ad d v 0 Mz) kV_S_indexOf2 pnn_15 rfl (Nat.le_of_ble_eq_true rfl) m_744 rfl rfl (by decide) (Nat.le_of_ble_eq_true rfl) dS_indexOf_3 (fun r1_ M2_ q3_ => ?_)
  obtain ⟨rfl, h4_, hs5_⟩ := q3_
  exact w_iret rfl dS_indexOf_6 ⟨rfl, trivial, ⟨r1_, hs5_, rfl⟩⟩
def SP_S_coder_6 (Mz : mM) (r_ : Int32) : Prop := r_ = 0
set_option maxHeartbeats 4000000 in
set_option maxRecDepth 100000 in
theorem c_S_coder_6 {cls : List rf} (l : Launch) (G : va_G) (cy : Nat → ClassId) (ad : rf → Nat) (d : Nat) (Mz : mM) : WP cls l G cy ad yS_coder cS_coder 1 (some .byte) d 0 [(0, vR (91, 6, 0))] [] Mz (fun r M' => Mz = M' ∧ (r = 0) ∧ SP_S_coder_6 Mz r) := by
  refine w_getsC m_752 dS_coder_0 ?_
  refine w_if_eq (tgt := 13) dS_coder_3 (by decide) li_1 (fun h9 => (absurd h9 (by decide))) (fun h1_ => ?_)
  refine w_aload_n dS_coder_6 rfl 0 rfl ?_
  refine w_getSc (k := 6) rfl m_1871 dS_coder_7 ?_
  refine w_goto (tgt := 14) dS_coder_10 (by decide) ?_
  exact w_bret (ty := .byte) rfl dS_coder_14 rfl ⟨rfl, rfl, rfl⟩
def SP_S_isLatin1_6 (Mz : mM) (r_ : Int32) : Prop := r_ = 1
set_option maxHeartbeats 4000000 in
set_option maxRecDepth 100000 in
theorem c_S_isLatin1_6 {cls : List rf} (l : Launch) (G : va_G) (cy : Nat → ClassId) (ad : rf → Nat) (d : Nat) (Mz : mM) : WP cls l G cy ad yS_isLatin1 cS_isLatin1 1 (some .boolean) d 0 [(0, vR (91, 6, 0))] [] Mz (fun r M' => Mz = M' ∧ (r = 1) ∧ SP_S_isLatin1_6 Mz r) := by
  refine w_getsC m_752 dS_isLatin1_0 ?_
  refine w_if_eq (tgt := 17) dS_isLatin1_3 (by decide) li_1 (fun h9 => (absurd h9 (by decide))) (fun h1_ => ?_)
  refine w_aload_n dS_isLatin1_6 rfl 0 rfl ?_
  refine w_getSc (k := 6) rfl m_1871 dS_isLatin1_7 ?_
  refine w_if_ne (tgt := 17) dS_isLatin1_10 (by decide) li_0 (fun h9 => (absurd h9 (by decide))) (fun h2_ => ?_)
  refine w_iconst (v := 1) dS_isLatin1_13 (by decide) ?_
  refine w_goto (tgt := 18) dS_isLatin1_14 (by decide) ?_
  exact w_zret rfl dS_isLatin1_18 ⟨by decide, by decide⟩ ⟨rfl, rfl, rfl⟩
def SP_S_length_6 (Mz : mM) (r_ : Int32) : Prop := (SP_S_coder_6 Mz (0 : Int32)) ∧ r_ = 5
set_option maxHeartbeats 4000000 in
set_option maxRecDepth 100000 in
theorem c_S_length_6 {cls : List rf} (l : Launch) (G : va_G) (cy : Nat → ClassId) (ad : rf → Nat) (d : Nat) (Mz : mM) : WP cls l G cy ad yS_length cS_length 1 (some .int) (d + 1) 0 [(0, vR (91, 6, 0))] [] Mz (fun r M' => Mz = M' ∧ (r = 5) ∧ SP_S_length_6 Mz r) := by
  refine w_aload_n dS_length_0 rfl 0 rfl ?_
  refine w_getSv (k := 6) rfl m_1872 dS_length_1 ?_
  refine w_alenS (k := 6) (v := 5) rfl dS_length_4 rfl ?_
  refine w_aload_n dS_length_5 rfl 0 rfl ?_
  refine w_callStr (k := 6) rfl (as := []) (rest := [vI 5]) (c_S_coder_6 l G cy ad d Mz) kV_S_coder pnn_15 rfl (Nat.le_of_ble_eq_true rfl) m_758 rfl rfl (by decide) (Nat.le_of_ble_eq_true rfl) dS_length_6 (fun r1_ M2_ q3_ => ?_)
  obtain ⟨rfl, h4_, hs5_⟩ := q3_
  subst h4_
  refine w_ishr dS_length_9 (fun z6_ h7_ => ?_)
  obtain rfl : z6_ = 5 := h7_.trans (by decide)
  exact w_iret rfl dS_length_10 ⟨rfl, rfl, ⟨hs5_, rfl⟩⟩
def SP_SL_charAt_6 (v : Int32) (Mz : mM) (r_ : Int32) : Prop := ∃ z1_j : Nat, ((z1_j : Int) = v.toInt) ∧ ∃ z1_ : Int32, (z1_ = ([102, 108, 114, 98, 116] : List Int32).getD z1_j 0) ∧ ∃ z2_ : Int32, (z2_ = z1_ &&& (255 : Int32)) ∧ (0 ≤ z2_.toInt ∧ z2_.toInt < ((2 ^ 8 : Nat) : Int)) ∧ ∃ z5_ : Int32, (z5_ = (z2_.toUInt32 % 65536).toInt32) ∧ (narrow .char (.int z5_) = .int z5_) ∧ r_ = z5_
set_option maxHeartbeats 4000000 in
set_option maxRecDepth 100000 in
theorem c_SL_charAt_6 {cls : List rf} (l : Launch) (G : va_G) (cy : Nat → ClassId) (ad : rf → Nat) (d : Nat) (v : Int32) (Mz : mM) (hv : 0 ≤ v.toInt ∧ v.toInt < 5) : WP cls l G cy ad ySL_charAt cSL_charAt 2 (some .char) (d + 3) 0 [(0, vR (90, 16, 0)), (1, vI v)] [] Mz (fun r M' => Mz = M' ∧ (narrow .char (.int r) = .int r) ∧ SP_SL_charAt_6 v Mz r) := by
  refine w_iload_n dSL_charAt_0 rfl 1 rfl ?_
  refine w_aload_n dSL_charAt_1 rfl 0 rfl ?_
  refine w_alenS (k := 6) (v := 5) rfl dSL_charAt_2 rfl ?_
  refine w_checkIndex m_1607 (lf_c_SL_charAt_3_0 v hv ) li_5 (Nat.le_of_ble_eq_true rfl) (by omega) dSL_charAt_3 ?_
  refine w_aload_n dSL_charAt_6 rfl 0 rfl ?_
  refine w_iload_n dSL_charAt_7 rfl 1 rfl ?_
  refine w_baldS (k := 6) rfl (rfl : v.toInt = v.toInt) (lf_c_SL_charAt_3_0 v hv ) dSL_charAt_8 (fun z1_j z1_k z1_ z1_h => ?_)
  refine w_sipush (v := 255) dSL_charAt_9 (by decide) ?_
  refine w_iand dSL_charAt_12 (fun z2_ h4_ => ?_)
  have h3_ : 0 ≤ z2_.toInt ∧ z2_.toInt < ((2 ^ 8 : Nat) : Int) := by rw [h4_]; exact andI _ 8 (by decide) (by decide)
  refine w_i2c dSL_charAt_13 (fun z5_ h6_ => ?_)
  have h7_ : narrow .char (.int z5_) = .int z5_ := by rw [h6_]; exact nar_c _
  exact w_bret (ty := .char) rfl dSL_charAt_14 h7_ ⟨rfl, h7_, ⟨z1_j, z1_k, z1_, z1_h, z2_, h4_, h3_, z5_, h6_, h7_, rfl⟩⟩
def SP_S_charAt_6 (v : Int32) (Mz : mM) (r_ : Int32) : Prop := (SP_S_isLatin1_6 Mz (1 : Int32)) ∧ ∃ r7_ : Int32, (SP_SL_charAt_6 v Mz r7_) ∧ (narrow .char (.int r7_) = .int r7_) ∧ r_ = r7_
set_option maxHeartbeats 4000000 in
set_option maxRecDepth 100000 in
theorem c_S_charAt_6 {cls : List rf} (l : Launch) (G : va_G) (cy : Nat → ClassId) (ad : rf → Nat) (d : Nat) (v : Int32) (Mz : mM) (hv : 0 ≤ v.toInt ∧ v.toInt < 5) : WP cls l G cy ad yS_charAt cS_charAt 2 (some .char) (d + 4) 0 [(0, vR (91, 6, 0)), (1, vI v)] [] Mz (fun r M' => Mz = M' ∧ (narrow .char (.int r) = .int r) ∧ SP_S_charAt_6 v Mz r) := by
  refine w_aload_n dS_charAt_0 rfl 0 rfl ?_
  refine w_callStr (k := 6) rfl (as := []) (rest := []) (c_S_isLatin1_6 l G cy ad (d + 3) Mz) kV_S_isLatin1 pnn_15 rfl (Nat.le_of_ble_eq_true rfl) m_748 rfl rfl (by decide) (Nat.le_of_ble_eq_true rfl) dS_charAt_1 (fun r1_ M2_ q3_ => ?_)
  obtain ⟨rfl, h4_, hs5_⟩ := q3_
  subst h4_
  refine w_if_eq (tgt := 16) dS_charAt_4 (by decide) li_1 (fun h9 => (absurd h9 (by decide))) (fun h6_ => ?_)
  refine w_aload_n dS_charAt_7 rfl 0 rfl ?_
  refine w_getSv (k := 6) rfl m_1872 dS_charAt_8 ?_
  refine w_iload_n dS_charAt_11 rfl 1 rfl ?_
  refine w_callS (as := [vR (90, 16, 0), vI v]) (rest := []) (c_SL_charAt_6 l G cy ad d v Mz hv) kS_SL_charAt pnn_14 (Nat.le_of_ble_eq_true rfl) m_1604 rfl rfl (by decide) (Nat.le_of_ble_eq_true rfl) dS_charAt_12 (fun r7_ M8_ q9_ => ?_)
  obtain ⟨rfl, h10_, hs11_⟩ := q9_
  exact w_bret (ty := .char) rfl dS_charAt_15 h10_ ⟨rfl, h10_, ⟨hs5_, r7_, hs11_, h10_, rfl⟩⟩
def ST_SL_indexOfChar_6_7 (t : Int32) (z1_ : Int32) (v5_7 : Int32) (v5_7y : Int32) : Prop := (0 ≤ v5_7.toInt) ∧ (v5_7.toInt < t.toInt) ∧ ∃ z5_j : Nat, ((z5_j : Int) = v5_7.toInt) ∧ ∃ z5_ : Int32, (z5_ = ([102, 108, 114, 98, 116] : List Int32).getD z5_j 0) ∧ (¬ z5_.toInt = z1_.toInt) ∧ ∃ z7_ : Int32, (z7_.toInt = v5_7.toInt + 1) ∧ v5_7y = z7_
def SP_SL_indexOfChar_6 (v : Int32) (u : Int32) (t : Int32) (Mz : mM) (r_ : Int32) : Prop := ∃ z1_ : Int32, (z1_ = v.toInt8.toInt32) ∧ ∃ v5_7 : Int32, (0 ≤ v5_7.toInt) ∧ (RCH (fun x_ y_ => ST_SL_indexOfChar_6_7 t z1_ x_ y_) u v5_7) ∧ (((t.toInt ≤ v5_7.toInt) ∧ r_ = (-1)) ∨ ((v5_7.toInt < t.toInt) ∧ ∃ z5_j : Nat, ((z5_j : Int) = v5_7.toInt) ∧ ∃ z5_ : Int32, (z5_ = ([102, 108, 114, 98, 116] : List Int32).getD z5_j 0) ∧ (z5_.toInt = z1_.toInt) ∧ r_ = v5_7))
set_option maxHeartbeats 4000000 in
set_option maxRecDepth 100000 in
theorem c_SL_indexOfChar_6 {cls : List rf} (l : Launch) (G : va_G) (cy : Nat → ClassId) (ad : rf → Nat) (d : Nat) (v : Int32) (u : Int32) (t : Int32) (Mz : mM) (hu : 0 ≤ u.toInt) (ht : t.toInt ≤ 5) : WP cls l G cy ad ySL_indexOfChar cSL_indexOfChar 6 (some .int) d 0 [(0, vR (90, 16, 0)), (1, vI v), (2, vI u), (3, vI t)] [] Mz (fun r M' => Mz = M' ∧ (True) ∧ SP_SL_indexOfChar_6 v u t Mz r) := by
  refine w_iload_n dSL_indexOfChar_0 rfl 1 rfl ?_
  refine w_i2b dSL_indexOfChar_1 (fun z1_ h2_ => ?_)
  refine w_istore (ls' := [(4, vI z1_), (0, vR (90, 16, 0)), (1, vI v), (2, vI u), (3, vI t)]) dSL_indexOfChar_2 (by decide) rfl ?_
  refine w_iload_n dSL_indexOfChar_4 rfl 3 rfl ?_
  refine w_istore (ls' := [(5, vI u), (4, vI z1_), (0, vR (90, 16, 0)), (1, vI v), (2, vI u), (3, vI t)]) dSL_indexOfChar_5 (by decide) rfl ?_
  have lp3_ : ∀ (nn_7 : Nat) (v5_7 : Int32) (hv0_7 : 0 ≤ v5_7.toInt) (hL_7 : RCH (fun x_ y_ => ST_SL_indexOfChar_6_7 t z1_ x_ y_) u v5_7), (t.toInt - v5_7.toInt).toNat < nn_7 → WP cls l G cy ad ySL_indexOfChar cSL_indexOfChar 6 (some .int) d 7 [(5, vI v5_7), (4, vI z1_), (0, vR (90, 16, 0)), (1, vI v), (2, vI u), (3, vI t)] [] Mz (fun r M' => Mz = M' ∧ (True) ∧ SP_SL_indexOfChar_6 v u t Mz r) := by
    intro nn_7
    induction nn_7 with
    | zero => intro v5_7 hv0_7 hL_7 hm_7; exact absurd hm_7 (Nat.not_lt_zero _)
    | succ nn_7 ih_7 =>
      intro v5_7 hv0_7 hL_7 hm_7
      refine w_iload dSL_indexOfChar_7 0 rfl ?_
      refine w_iload_n dSL_indexOfChar_9 rfl 5 rfl ?_
      refine w_icmp_ge (tgt := 31) dSL_indexOfChar_10 (by decide) (rfl : v5_7.toInt = v5_7.toInt) (rfl : t.toInt = t.toInt) (fun h4_ => ?_) (fun h4_ => ?_)
      · refine w_iconst (v := (-1)) dSL_indexOfChar_31 (by decide) ?_
        exact w_iret rfl dSL_indexOfChar_32 ⟨rfl, trivial, ⟨z1_, h2_, v5_7, hv0_7, hL_7, (Or.inl ⟨h4_, rfl⟩)⟩⟩
      · refine w_aload_n dSL_indexOfChar_13 rfl 2 rfl ?_
        refine w_iload dSL_indexOfChar_14 0 rfl ?_
        refine w_baldS (k := 6) rfl (rfl : v5_7.toInt = v5_7.toInt) (lf_c_SL_indexOfChar_3_0 t v5_7 ht hv0_7 h4_ ) dSL_indexOfChar_16 (fun z5_j z5_k z5_ z5_h => ?_)
        refine w_iload dSL_indexOfChar_17 1 rfl ?_
        refine w_icmp_ne (tgt := 25) dSL_indexOfChar_19 (by decide) (rfl : z5_.toInt = z5_.toInt) (rfl : z1_.toInt = z1_.toInt) (fun h6_ => ?_) (fun h6_ => ?_)
        · refine w_iincB (j := 0) (f := fun z7_ => [(5, vI z7_), (4, vI z1_), (0, vR (90, 16, 0)), (1, vI v), (2, vI u), (3, vI t)]) dSL_indexOfChar_25 rfl (by decide) (fun _ => rfl) (rfl : v5_7.toInt = v5_7.toInt) li_1 (lf_c_SL_indexOfChar_3_1 t v5_7 ht hv0_7 h4_ ) (fun z7_ h8_ => ?_)
          refine w_goto (tgt := 7) dSL_indexOfChar_28 (by decide) ?_
          refine w_loc (ls' := [(5, vI z7_), (4, vI z1_), (0, vR (90, 16, 0)), (1, vI v), (2, vI u), (3, vI t)]) [0, 1, 2, 3, 4, 5] rfl ?_
          exact ih_7 z7_ (lf_c_X5_takeFrom_3 v5_7 z7_ hv0_7 h8_ ) (RCH.tail hL_7 ⟨hv0_7, h4_, z5_j, z5_k, z5_, z5_h, h6_, z7_, h8_, rfl⟩) (Nat.lt_of_lt_of_le (lf_c_SL_indexOfChar_1_3 t v5_7 z7_ h4_ h8_ ) (Nat.le_of_lt_succ hm_7))
        · refine w_iload dSL_indexOfChar_22 0 rfl ?_
          exact w_iret rfl dSL_indexOfChar_24 ⟨rfl, trivial, ⟨z1_, h2_, v5_7, hv0_7, hL_7, (Or.inr ⟨h4_, z5_j, z5_k, z5_, z5_h, h6_, rfl⟩)⟩⟩
  exact lp3_ _ u hu RCH.refl (Nat.lt_succ_self _)
def SP_SL_indexOf_6 (v : Int32) (u : Int32) (t : Int32) (Mz : mM) (r_ : Int32) : Prop := ∃ r1_ : Int32, (SP_SL_canEncode_0 v Mz r1_) ∧ ((0 ≤ r1_.toInt ∧ r1_.toInt ≤ 1)) ∧ (((¬ r1_.toInt = 0) ∧ ∃ z7_ : Int32, ((z7_.toInt = u.toInt ∧ 0 ≤ u.toInt) ∨ (z7_.toInt = 0 ∧ u.toInt ≤ 0)) ∧ ∃ z9_ : Int32, ((z9_.toInt = t.toInt ∧ t.toInt ≤ 5) ∨ (z9_.toInt = 5 ∧ 5 ≤ t.toInt)) ∧ (((z7_.toInt < z9_.toInt) ∧ ∃ r12_ : Int32, (SP_SL_indexOfChar_6 v z7_ z9_ Mz r12_) ∧ r_ = r12_) ∨ ((z9_.toInt ≤ z7_.toInt) ∧ r_ = (-1)))) ∨ ((r1_.toInt = 0) ∧ r_ = (-1)))
set_option maxHeartbeats 4000000 in
set_option maxRecDepth 100000 in
theorem c_SL_indexOf_6 {cls : List rf} (l : Launch) (G : va_G) (cy : Nat → ClassId) (ad : rf → Nat) (d : Nat) (v : Int32) (u : Int32) (t : Int32) (Mz : mM) : WP cls l G cy ad ySL_indexOf cSL_indexOf 4 (some .int) (d + 1) 0 [(0, vR (90, 16, 0)), (1, vI v), (2, vI u), (3, vI t)] [] Mz (fun r M' => Mz = M' ∧ (True) ∧ SP_SL_indexOf_6 v u t Mz r) := by
  refine w_iload_n dSL_indexOf_0 rfl 1 rfl ?_
  refine w_callS (as := [vI v]) (rest := []) (c_SL_canEncode_0 l G cy ad d v Mz) kS_SL_canEncode pnn_14 (Nat.le_of_ble_eq_true rfl) m_765 rfl rfl (by decide) (Nat.le_of_ble_eq_true rfl) dSL_indexOf_1 (fun r1_ M2_ q3_ => ?_)
  obtain ⟨rfl, h4_, hs5_⟩ := q3_
  refine w_if_ne (tgt := 9) dSL_indexOf_4 (by decide) (rfl : r1_.toInt = r1_.toInt) (fun h6_ => ?_) (fun h6_ => ?_)
  · refine w_iload_n dSL_indexOf_9 rfl 2 rfl ?_
    refine w_iconst (v := 0) dSL_indexOf_10 (by decide) ?_
    refine w_max m_768 m_206 m_86 m_207 (rfl : u.toInt = u.toInt) li_0 (Nat.le_of_ble_eq_true rfl) (by omega) dSL_indexOf_11 (fun z7_ h8_ => ?_)
    refine w_istore_n (ls' := [(2, vI z7_), (0, vR (90, 16, 0)), (1, vI v), (3, vI t)]) dSL_indexOf_14 rfl (by decide) rfl ?_
    refine w_iload_n dSL_indexOf_15 rfl 3 rfl ?_
    refine w_aload_n dSL_indexOf_16 rfl 1 rfl ?_
    refine w_alenS (k := 6) (v := 5) rfl dSL_indexOf_17 rfl ?_
    refine w_min m_769 m_770 m_86 m_771 (rfl : t.toInt = t.toInt) li_5 (Nat.le_of_ble_eq_true rfl) (by omega) dSL_indexOf_18 (fun z9_ h10_ => ?_)
    refine w_istore_n (ls' := [(3, vI z9_), (2, vI z7_), (0, vR (90, 16, 0)), (1, vI v)]) dSL_indexOf_21 rfl (by decide) rfl ?_
    refine w_iload_n dSL_indexOf_22 rfl 1 rfl ?_
    refine w_iload_n dSL_indexOf_23 rfl 0 rfl ?_
    refine w_icmp_lt (tgt := 29) dSL_indexOf_24 (by decide) (rfl : z7_.toInt = z7_.toInt) (rfl : z9_.toInt = z9_.toInt) (fun h11_ => ?_) (fun h11_ => ?_)
    · refine w_aload_n dSL_indexOf_29 rfl 2 rfl ?_
      refine w_iload_n dSL_indexOf_30 rfl 3 rfl ?_
      refine w_iload_n dSL_indexOf_31 rfl 1 rfl ?_
      refine w_iload_n dSL_indexOf_32 rfl 0 rfl ?_
      refine w_callS (as := [vR (90, 16, 0), vI v, vI z7_, vI z9_]) (rest := []) (c_SL_indexOfChar_6 l G cy ad d v z7_ z9_ Mz (lf_c_SL_indexOf_1_0 u z7_ h8_ ) (lf_c_SL_indexOf_3_1 t z9_ h10_ )) kS_SL_indexOfChar pnn_14 (Nat.le_of_ble_eq_true rfl) m_772 rfl rfl (by decide) (Nat.le_of_ble_eq_true rfl) dSL_indexOf_33 (fun r12_ M13_ q14_ => ?_)
      obtain ⟨rfl, h15_, hs16_⟩ := q14_
      exact w_iret rfl dSL_indexOf_36 ⟨rfl, trivial, ⟨r1_, hs5_, h4_, (Or.inl ⟨h6_, z7_, h8_, z9_, h10_, (Or.inl ⟨h11_, r12_, hs16_, rfl⟩)⟩)⟩⟩
    · refine w_iconst (v := (-1)) dSL_indexOf_27 (by decide) ?_
      exact w_iret rfl dSL_indexOf_28 ⟨rfl, trivial, ⟨r1_, hs5_, h4_, (Or.inl ⟨h6_, z7_, h8_, z9_, h10_, (Or.inr ⟨h11_, rfl⟩)⟩)⟩⟩
  · refine w_iconst (v := (-1)) dSL_indexOf_7 (by decide) ?_
    exact w_iret rfl dSL_indexOf_8 ⟨rfl, trivial, ⟨r1_, hs5_, h4_, (Or.inr ⟨h6_, rfl⟩)⟩⟩
def SP_S_indexOf2_6 (v : Int32) (u : Int32) (Mz : mM) (r_ : Int32) : Prop := (SP_S_isLatin1_6 Mz (1 : Int32)) ∧ (SP_S_length_6 Mz (5 : Int32)) ∧ ∃ r12_ : Int32, (SP_SL_indexOf_6 v u 5 Mz r12_) ∧ r_ = r12_
set_option maxHeartbeats 4000000 in
set_option maxRecDepth 100000 in
theorem c_S_indexOf2_6 {cls : List rf} (l : Launch) (G : va_G) (cy : Nat → ClassId) (ad : rf → Nat) (d : Nat) (v : Int32) (u : Int32) (Mz : mM) : WP cls l G cy ad yS_indexOf2 cS_indexOf2 3 (some .int) (d + 2) 0 [(0, vR (91, 6, 0)), (1, vI v), (2, vI u)] [] Mz (fun r M' => Mz = M' ∧ (True) ∧ SP_S_indexOf2_6 v u Mz r) := by
  refine w_aload_n dS_indexOf2_0 rfl 0 rfl ?_
  refine w_callStr (k := 6) rfl (as := []) (rest := []) (c_S_isLatin1_6 l G cy ad (d + 1) Mz) kV_S_isLatin1 pnn_15 rfl (Nat.le_of_ble_eq_true rfl) m_748 rfl rfl (by decide) (Nat.le_of_ble_eq_true rfl) dS_indexOf2_1 (fun r1_ M2_ q3_ => ?_)
  obtain ⟨rfl, h4_, hs5_⟩ := q3_
  subst h4_
  refine w_if_eq (tgt := 23) dS_indexOf2_4 (by decide) li_1 (fun h9 => (absurd h9 (by decide))) (fun h6_ => ?_)
  refine w_aload_n dS_indexOf2_7 rfl 0 rfl ?_
  refine w_getSv (k := 6) rfl m_1872 dS_indexOf2_8 ?_
  refine w_iload_n dS_indexOf2_11 rfl 1 rfl ?_
  refine w_iload_n dS_indexOf2_12 rfl 2 rfl ?_
  refine w_aload_n dS_indexOf2_13 rfl 0 rfl ?_
  refine w_callStr (k := 6) rfl (as := []) (rest := [vI u, vI v, vR (90, 16, 0)]) (c_S_length_6 l G cy ad d Mz) kV_S_length pnn_15 rfl (Nat.le_of_ble_eq_true rfl) m_754 rfl rfl (by decide) (Nat.le_of_ble_eq_true rfl) dS_indexOf2_14 (fun r7_ M8_ q9_ => ?_)
  obtain ⟨rfl, h10_, hs11_⟩ := q9_
  subst h10_
  refine w_callS (as := [vR (90, 16, 0), vI v, vI u, vI 5]) (rest := []) (c_SL_indexOf_6 l G cy ad d v u 5 Mz) kS_SL_indexOf pnn_14 (Nat.le_of_ble_eq_true rfl) m_762 rfl rfl (by decide) (Nat.le_of_ble_eq_true rfl) dS_indexOf2_17 (fun r12_ M13_ q14_ => ?_)
  obtain ⟨rfl, h15_, hs16_⟩ := q14_
  refine w_goto (tgt := 36) dS_indexOf2_20 (by decide) ?_
  exact w_iret rfl dS_indexOf2_36 ⟨rfl, trivial, ⟨hs5_, hs11_, r12_, hs16_, rfl⟩⟩
def SP_S_indexOf_6 (v : Int32) (Mz : mM) (r_ : Int32) : Prop := ∃ r1_ : Int32, (SP_S_indexOf2_6 v 0 Mz r1_) ∧ r_ = r1_
set_option maxHeartbeats 4000000 in
set_option maxRecDepth 100000 in
theorem c_S_indexOf_6 {cls : List rf} (l : Launch) (G : va_G) (cy : Nat → ClassId) (ad : rf → Nat) (d : Nat) (v : Int32) (Mz : mM) : WP cls l G cy ad yS_indexOf cS_indexOf 2 (some .int) (d + 3) 0 [(0, vR (91, 6, 0)), (1, vI v)] [] Mz (fun r M' => Mz = M' ∧ (True) ∧ SP_S_indexOf_6 v Mz r) := by
  refine w_aload_n dS_indexOf_0 rfl 0 rfl ?_
  refine w_iload_n dS_indexOf_1 rfl 1 rfl ?_
  refine w_iconst (v := 0) dS_indexOf_2 (by decide) ?_
  refine w_callStr (k := 6) rfl (as := [vI v, vI 0]) (rest := []) (c_S_indexOf2_6 l G cy ad d v 0 Mz) kV_S_indexOf2 pnn_15 rfl (Nat.le_of_ble_eq_true rfl) m_744 rfl rfl (by decide) (Nat.le_of_ble_eq_true rfl) dS_indexOf_3 (fun r1_ M2_ q3_ => ?_)
  obtain ⟨rfl, h4_, hs5_⟩ := q3_
  exact w_iret rfl dS_indexOf_6 ⟨rfl, trivial, ⟨r1_, hs5_, rfl⟩⟩
def IXO (k : Nat) (x z : Int32) (M : mM) : Prop := match k with
  | 0 => SP_S_indexOf_0 x M z
  | 1 => SP_S_indexOf_1 x M z
  | 2 => SP_S_indexOf_2 x M z
  | 3 => SP_S_indexOf_3 x M z
  | 4 => SP_S_indexOf_4 x M z
  | 5 => SP_S_indexOf_5 x M z
  | 6 => SP_S_indexOf_6 x M z
  | _ => False
section WPIX
variable {cls : List rf} {l : Launch} {G : va_G} {cy : Nat → ClassId} {ad : rf → Nat} {y : MethodName} {b : ByteArray} {n : Nat} {r : Option FieldType} {d : Nat} {pc : Nat} {ls : List (Nat × mV)} {st : List mV} {M : mM} {Q : Int32 → mM → Prop}
/-- String.indexOf(int) of a constant: some int -/
theorem w_indexOf {k : Nat} {x : Int32} {idx : Nat} (hk : k < 7) (hl1 : Cond.methodLink y.cls idx yS_indexOf ∈ BASE) (hs : st.length ≤ 4) (hd1 : 8 ≤ d) (hd : decode b pc = .ok (.invokevirtual idx, 3)) (kk : ∀ z : Int32, IXO k x z M → WP cls l G cy ad y b n r d (pc + 3) ls (vI z :: st) M Q) : WP cls l G cy ad y b n r d pc ls (vI x :: vR (91, k, 0) :: st) M Q := by
  obtain ⟨e, rfl⟩ : ∃ e : Nat, d = e + 3 + 1 := ⟨d - 4, by omega⟩
  match k, hk with
  | 0, _ => exact w_callStr (k := 0) rfl (as := [vI x]) (rest := st) (c_S_indexOf_0 l G cy ad e x M) kV_S_indexOf pnn_15 rfl (Nat.le_of_ble_eq_true rfl) hl1 rfl rfl (by decide) hs hd (fun v M9 q => by obtain ⟨rfl, -, hs_⟩ := q; exact kk v hs_)
  | 1, _ => exact w_callStr (k := 1) rfl (as := [vI x]) (rest := st) (c_S_indexOf_1 l G cy ad e x M) kV_S_indexOf pnn_15 rfl (Nat.le_of_ble_eq_true rfl) hl1 rfl rfl (by decide) hs hd (fun v M9 q => by obtain ⟨rfl, -, hs_⟩ := q; exact kk v hs_)
  | 2, _ => exact w_callStr (k := 2) rfl (as := [vI x]) (rest := st) (c_S_indexOf_2 l G cy ad e x M) kV_S_indexOf pnn_15 rfl (Nat.le_of_ble_eq_true rfl) hl1 rfl rfl (by decide) hs hd (fun v M9 q => by obtain ⟨rfl, -, hs_⟩ := q; exact kk v hs_)
  | 3, _ => exact w_callStr (k := 3) rfl (as := [vI x]) (rest := st) (c_S_indexOf_3 l G cy ad e x M) kV_S_indexOf pnn_15 rfl (Nat.le_of_ble_eq_true rfl) hl1 rfl rfl (by decide) hs hd (fun v M9 q => by obtain ⟨rfl, -, hs_⟩ := q; exact kk v hs_)
  | 4, _ => exact w_callStr (k := 4) rfl (as := [vI x]) (rest := st) (c_S_indexOf_4 l G cy ad e x M) kV_S_indexOf pnn_15 rfl (Nat.le_of_ble_eq_true rfl) hl1 rfl rfl (by decide) hs hd (fun v M9 q => by obtain ⟨rfl, -, hs_⟩ := q; exact kk v hs_)
  | 5, _ => exact w_callStr (k := 5) rfl (as := [vI x]) (rest := st) (c_S_indexOf_5 l G cy ad e x M) kV_S_indexOf pnn_15 rfl (Nat.le_of_ble_eq_true rfl) hl1 rfl rfl (by decide) hs hd (fun v M9 q => by obtain ⟨rfl, -, hs_⟩ := q; exact kk v hs_)
  | 6, _ => exact w_callStr (k := 6) rfl (as := [vI x]) (rest := st) (c_S_indexOf_6 l G cy ad e x M) kV_S_indexOf pnn_15 rfl (Nat.le_of_ble_eq_true rfl) hl1 rfl rfl (by decide) hs hd (fun v M9 q => by obtain ⟨rfl, -, hs_⟩ := q; exact kk v hs_)
end WPIX
end
section
/-! words of the tables that are used, by their places; decode rows; fields -/
theorem li_127 : (127 : Int32).toInt = 127 := by decide
theorem m_5 : Cond.selects yX4_next.cls yX4_next yX4_next ∈ BASE := bmem 5 (by decide +kernel) rfl
theorem m_8 : Cond.selects yX4_fail.cls yX4_fail yX4_fail ∈ BASE := bmem 8 (by decide +kernel) rfl
set_option maxRecDepth 20000 in
theorem m_88 : Cond.initialized RX4 ∈ BASE := bmT1 10 rfl rfl
set_option maxRecDepth 20000 in
theorem m_358 : Cond.fieldLink RX4 10 "ClickStreet$Reader" "draft" "LClickStreet$Formula;" ∈ BASE := bmT2 40 rfl rfl
set_option maxRecDepth 20000 in
theorem m_360 : Cond.fieldLink RX4 21 "ClickStreet$Reader" "tape" "LClickStreet$Row;" ∈ BASE := bmT2 42 rfl rfl
set_option maxRecDepth 20000 in
theorem m_361 : Cond.fieldLink RX4 27 "ClickStreet$Reader" "names" "Ljava/lang/String;" ∈ BASE := bmT2 43 rfl rfl
set_option maxRecDepth 20000 in
theorem m_362 : Cond.fieldLink RX4 31 "ClickStreet$Reader" "place" "I" ∈ BASE := bmT2 44 rfl rfl
set_option maxRecDepth 20000 in
theorem m_363 : Cond.fieldLink RX4 35 "ClickStreet$Reader" "fault" "I" ∈ BASE := bmT2 45 rfl rfl
set_option maxRecDepth 20000 in
theorem m_365 : Cond.fieldLink RX4 41 "ClickStreet$Reader" "parts" "I" ∈ BASE := bmT2 47 rfl rfl
set_option maxRecDepth 20000 in
theorem m_708 : Cond.methodLink RX4 58 yX4_next ∈ BASE := bmT3 150 rfl rfl
set_option maxRecDepth 20000 in
theorem m_710 : Cond.instanceMethod yX4_next ∈ BASE := bmT3 152 rfl rfl
set_option maxRecDepth 20000 in
theorem m_711 : Cond.code yX4_next cX4_next 1 (some .int) ∈ BASE := bmT3 153 rfl rfl
set_option maxRecDepth 20000 in
theorem m_712 : Cond.methodLink RX4 68 yX5_get ∈ BASE := bmT3 154 rfl rfl
set_option maxRecDepth 20000 in
theorem m_720 : Cond.methodLink RX4 75 yX1_add ∈ BASE := bmT3 162 rfl rfl
set_option maxRecDepth 20000 in
theorem m_721 : Cond.instanceMethod yX1_add ∈ BASE := bmT3 163 rfl rfl
set_option maxRecDepth 20000 in
theorem m_722 : Cond.selects yX1_add.cls yX1_add yX1_add ∈ BASE := bmT3 164 rfl rfl
set_option maxRecDepth 20000 in
theorem m_723 : Cond.code yX1_add cX1_add 2 none ∈ BASE := bmT3 165 rfl rfl
set_option maxRecDepth 20000 in
theorem m_728 : Cond.methodLink RX4 62 yX4_fail ∈ BASE := bmT3 170 rfl rfl
set_option maxRecDepth 20000 in
theorem m_730 : Cond.instanceMethod yX4_fail ∈ BASE := bmT3 172 rfl rfl
set_option maxRecDepth 20000 in
theorem m_731 : Cond.code yX4_fail cX4_fail 1 none ∈ BASE := bmT3 173 rfl rfl
set_option maxRecDepth 20000 in
theorem m_740 : Cond.methodLink RX4 93 yS_indexOf ∈ BASE := bmT3 182 rfl rfl
theorem kV_X1_add : KV yX1_add cX1_add 2 none 1 := ⟨m_721, m_722, m_83, m_723, nhM_6, nhV_6, pdn_4⟩
theorem kV_X4_fail : KV yX4_fail cX4_fail 1 none 0 := ⟨m_730, m_8, m_88, m_731, nhM_16, nhV_16, pdn_30⟩
theorem kV_X4_next : KV yX4_next cX4_next 1 (some .int) 0 := ⟨m_710, m_5, m_88, m_711, nhM_16, nhV_16, pdn_6⟩
theorem inB4 : ∀ w ∈ u_ws RX4 TX4 7, w ∈ BASE := bmems (u_ws RX4 TX4 7) [366, 368, 370, 372, 374, 376, 378] (by decide +kernel) (by decide +kernel)
theorem fl_RX4_10 : FLK RX4 10 4 0 (.object "ClickStreet$Formula") true := ⟨RX4, TX4, 7, tyX4, rfl, inB4, tyX4_ok, nmX4, by decide, rfl, rfl, Or.inl m_358⟩
theorem fl_RX4_21 : FLK RX4 21 4 1 (.object "ClickStreet$Row") false := ⟨RX4, TX4, 7, tyX4, rfl, inB4, tyX4_ok, nmX4, by decide, rfl, rfl, Or.inl m_360⟩
theorem fl_RX4_27 : FLK RX4 27 4 2 (.object "java/lang/String") false := ⟨RX4, TX4, 7, tyX4, rfl, inB4, tyX4_ok, nmX4, by decide, rfl, rfl, Or.inl m_361⟩
theorem fl_RX4_31 : FLK RX4 31 4 3 .int false := ⟨RX4, TX4, 7, tyX4, rfl, inB4, tyX4_ok, nmX4, by decide, rfl, rfl, Or.inl m_362⟩
theorem fl_RX4_35 : FLK RX4 35 4 4 .int false := ⟨RX4, TX4, 7, tyX4, rfl, inB4, tyX4_ok, nmX4, by decide, rfl, rfl, Or.inl m_363⟩
theorem fl_RX4_41 : FLK RX4 41 4 6 .int false := ⟨RX4, TX4, 7, tyX4, rfl, inB4, tyX4_ok, nmX4, by decide, rfl, rfl, Or.inl m_365⟩
theorem fl_RX4_65 : FLK RX4 65 5 1 .int false := ⟨RX5, TX5, 2, tyX5, rfl, inB5, tyX5_ok, nmX5, by decide, rfl, rfl, Or.inr ⟨"ClickStreet", List.mem_of_getElem? (l := NFs) (i := 7) rfl⟩⟩
theorem dX4_expect_0 : decode cX4_expect 0 = .ok (.aload_n 0, 1) := by decide +kernel
theorem dX4_expect_1 : decode cX4_expect 1 = .ok (.invokevirtual 58, 3) := by decide +kernel
theorem dX4_expect_4 : decode cX4_expect 4 = .ok (.iload_n 1, 1) := by decide +kernel
theorem dX4_expect_5 : decode cX4_expect 5 = .ok (.if_icmp .eq 10, 3) := by decide +kernel
theorem dX4_expect_8 : decode cX4_expect 8 = .ok (.aload_n 0, 1) := by decide +kernel
theorem dX4_expect_9 : decode cX4_expect 9 = .ok (.invokevirtual 62, 3) := by decide +kernel
theorem dX4_expect_12 : decode cX4_expect 12 = .ok (.goto 13, 3) := by decide +kernel
theorem dX4_expect_15 : decode cX4_expect 15 = .ok (.aload_n 0, 1) := by decide +kernel
theorem dX4_expect_16 : decode cX4_expect 16 = .ok (.dup, 1) := by decide +kernel
theorem dX4_expect_17 : decode cX4_expect 17 = .ok (.getfield 31, 3) := by decide +kernel
theorem dX4_expect_20 : decode cX4_expect 20 = .ok (.iconst 1, 1) := by decide +kernel
theorem dX4_expect_21 : decode cX4_expect 21 = .ok (.iadd, 1) := by decide +kernel
theorem dX4_expect_22 : decode cX4_expect 22 = .ok (.putfield 31, 3) := by decide +kernel
theorem dX4_expect_25 : decode cX4_expect 25 = .ok (.return_, 1) := by decide +kernel
theorem dX4_fail_0 : decode cX4_fail 0 = .ok (.aload_n 0, 1) := by decide +kernel
theorem dX4_fail_1 : decode cX4_fail 1 = .ok (.getfield 35, 3) := by decide +kernel
theorem dX4_fail_4 : decode cX4_fail 4 = .ok (.ifCond .ge 11, 3) := by decide +kernel
theorem dX4_fail_7 : decode cX4_fail 7 = .ok (.aload_n 0, 1) := by decide +kernel
theorem dX4_fail_8 : decode cX4_fail 8 = .ok (.aload_n 0, 1) := by decide +kernel
theorem dX4_fail_9 : decode cX4_fail 9 = .ok (.getfield 31, 3) := by decide +kernel
theorem dX4_fail_12 : decode cX4_fail 12 = .ok (.putfield 35, 3) := by decide +kernel
theorem dX4_fail_15 : decode cX4_fail 15 = .ok (.return_, 1) := by decide +kernel
theorem ch_cX4_next_0 : (cX4_next.data.toList.drop 0).take 36 = [42, 180, 0, 31, 42, 180, 0, 21, 180, 0, 65, 162, 0, 32, 42, 180, 0, 21, 42, 180, 0, 31, 182, 0, 68, 16, 32, 160, 0, 16, 42, 89, 180, 0, 31, 4] := by decide +kernel
theorem dX4_next_0 : decode cX4_next 0 = .ok (.aload_n 0, 1) := do_42 (rdb (p := 0) (i := 0) ch_cX4_next_0 rfl)
theorem dX4_next_1 : decode cX4_next 1 = .ok (.getfield 31, 3) := do_180 (rdb (p := 0) (i := 1) ch_cX4_next_0 rfl) (rdb (p := 0) (i := 2) ch_cX4_next_0 rfl) (rdb (p := 0) (i := 3) ch_cX4_next_0 rfl) rfl
theorem dX4_next_4 : decode cX4_next 4 = .ok (.aload_n 0, 1) := do_42 (rdb (p := 0) (i := 4) ch_cX4_next_0 rfl)
theorem dX4_next_5 : decode cX4_next 5 = .ok (.getfield 21, 3) := do_180 (rdb (p := 0) (i := 5) ch_cX4_next_0 rfl) (rdb (p := 0) (i := 6) ch_cX4_next_0 rfl) (rdb (p := 0) (i := 7) ch_cX4_next_0 rfl) rfl
theorem dX4_next_8 : decode cX4_next 8 = .ok (.getfield 65, 3) := do_180 (rdb (p := 0) (i := 8) ch_cX4_next_0 rfl) (rdb (p := 0) (i := 9) ch_cX4_next_0 rfl) (rdb (p := 0) (i := 10) ch_cX4_next_0 rfl) rfl
theorem dX4_next_11 : decode cX4_next 11 = .ok (.if_icmp .ge 32, 3) := do_162 (rdb (p := 0) (i := 11) ch_cX4_next_0 rfl) (rdb (p := 0) (i := 12) ch_cX4_next_0 rfl) (rdb (p := 0) (i := 13) ch_cX4_next_0 rfl) (by decide +kernel)
theorem dX4_next_14 : decode cX4_next 14 = .ok (.aload_n 0, 1) := do_42 (rdb (p := 0) (i := 14) ch_cX4_next_0 rfl)
theorem dX4_next_15 : decode cX4_next 15 = .ok (.getfield 21, 3) := do_180 (rdb (p := 0) (i := 15) ch_cX4_next_0 rfl) (rdb (p := 0) (i := 16) ch_cX4_next_0 rfl) (rdb (p := 0) (i := 17) ch_cX4_next_0 rfl) rfl
theorem dX4_next_18 : decode cX4_next 18 = .ok (.aload_n 0, 1) := do_42 (rdb (p := 0) (i := 18) ch_cX4_next_0 rfl)
theorem dX4_next_19 : decode cX4_next 19 = .ok (.getfield 31, 3) := do_180 (rdb (p := 0) (i := 19) ch_cX4_next_0 rfl) (rdb (p := 0) (i := 20) ch_cX4_next_0 rfl) (rdb (p := 0) (i := 21) ch_cX4_next_0 rfl) rfl
theorem dX4_next_22 : decode cX4_next 22 = .ok (.invokevirtual 68, 3) := do_182 (rdb (p := 0) (i := 22) ch_cX4_next_0 rfl) (rdb (p := 0) (i := 23) ch_cX4_next_0 rfl) (rdb (p := 0) (i := 24) ch_cX4_next_0 rfl) rfl
theorem dX4_next_25 : decode cX4_next 25 = .ok (.bipush 32, 2) := do_16 (rdb (p := 0) (i := 25) ch_cX4_next_0 rfl) (rdb (p := 0) (i := 26) ch_cX4_next_0 rfl) (by decide +kernel)
theorem dX4_next_27 : decode cX4_next 27 = .ok (.if_icmp .ne 16, 3) := do_160 (rdb (p := 0) (i := 27) ch_cX4_next_0 rfl) (rdb (p := 0) (i := 28) ch_cX4_next_0 rfl) (rdb (p := 0) (i := 29) ch_cX4_next_0 rfl) (by decide +kernel)
theorem dX4_next_30 : decode cX4_next 30 = .ok (.aload_n 0, 1) := do_42 (rdb (p := 0) (i := 30) ch_cX4_next_0 rfl)
theorem dX4_next_31 : decode cX4_next 31 = .ok (.dup, 1) := do_89 (rdb (p := 0) (i := 31) ch_cX4_next_0 rfl)
theorem ch_cX4_next_32 : (cX4_next.data.toList.drop 32).take 36 = [180, 0, 31, 4, 96, 181, 0, 31, 167, 255, 216, 42, 180, 0, 31, 42, 180, 0, 21, 180, 0, 65, 162, 0, 17, 42, 180, 0, 21, 42, 180, 0, 31, 182, 0, 68] := by decide +kernel
theorem dX4_next_32 : decode cX4_next 32 = .ok (.getfield 31, 3) := do_180 (rdb (p := 32) (i := 0) ch_cX4_next_32 rfl) (rdb (p := 32) (i := 1) ch_cX4_next_32 rfl) (rdb (p := 32) (i := 2) ch_cX4_next_32 rfl) rfl
theorem dX4_next_35 : decode cX4_next 35 = .ok (.iconst 1, 1) := do_4 (rdb (p := 32) (i := 3) ch_cX4_next_32 rfl)
theorem dX4_next_36 : decode cX4_next 36 = .ok (.iadd, 1) := do_96 (rdb (p := 32) (i := 4) ch_cX4_next_32 rfl)
theorem dX4_next_37 : decode cX4_next 37 = .ok (.putfield 31, 3) := do_181 (rdb (p := 32) (i := 5) ch_cX4_next_32 rfl) (rdb (p := 32) (i := 6) ch_cX4_next_32 rfl) (rdb (p := 32) (i := 7) ch_cX4_next_32 rfl) rfl
theorem dX4_next_40 : decode cX4_next 40 = .ok (.goto (-40), 3) := do_167 (rdb (p := 32) (i := 8) ch_cX4_next_32 rfl) (rdb (p := 32) (i := 9) ch_cX4_next_32 rfl) (rdb (p := 32) (i := 10) ch_cX4_next_32 rfl) (by decide +kernel)
theorem dX4_next_43 : decode cX4_next 43 = .ok (.aload_n 0, 1) := do_42 (rdb (p := 32) (i := 11) ch_cX4_next_32 rfl)
theorem dX4_next_44 : decode cX4_next 44 = .ok (.getfield 31, 3) := do_180 (rdb (p := 32) (i := 12) ch_cX4_next_32 rfl) (rdb (p := 32) (i := 13) ch_cX4_next_32 rfl) (rdb (p := 32) (i := 14) ch_cX4_next_32 rfl) rfl
theorem dX4_next_47 : decode cX4_next 47 = .ok (.aload_n 0, 1) := do_42 (rdb (p := 32) (i := 15) ch_cX4_next_32 rfl)
theorem dX4_next_48 : decode cX4_next 48 = .ok (.getfield 21, 3) := do_180 (rdb (p := 32) (i := 16) ch_cX4_next_32 rfl) (rdb (p := 32) (i := 17) ch_cX4_next_32 rfl) (rdb (p := 32) (i := 18) ch_cX4_next_32 rfl) rfl
theorem dX4_next_51 : decode cX4_next 51 = .ok (.getfield 65, 3) := do_180 (rdb (p := 32) (i := 19) ch_cX4_next_32 rfl) (rdb (p := 32) (i := 20) ch_cX4_next_32 rfl) (rdb (p := 32) (i := 21) ch_cX4_next_32 rfl) rfl
theorem dX4_next_54 : decode cX4_next 54 = .ok (.if_icmp .ge 17, 3) := do_162 (rdb (p := 32) (i := 22) ch_cX4_next_32 rfl) (rdb (p := 32) (i := 23) ch_cX4_next_32 rfl) (rdb (p := 32) (i := 24) ch_cX4_next_32 rfl) (by decide +kernel)
theorem dX4_next_57 : decode cX4_next 57 = .ok (.aload_n 0, 1) := do_42 (rdb (p := 32) (i := 25) ch_cX4_next_32 rfl)
theorem dX4_next_58 : decode cX4_next 58 = .ok (.getfield 21, 3) := do_180 (rdb (p := 32) (i := 26) ch_cX4_next_32 rfl) (rdb (p := 32) (i := 27) ch_cX4_next_32 rfl) (rdb (p := 32) (i := 28) ch_cX4_next_32 rfl) rfl
theorem dX4_next_61 : decode cX4_next 61 = .ok (.aload_n 0, 1) := do_42 (rdb (p := 32) (i := 29) ch_cX4_next_32 rfl)
theorem dX4_next_62 : decode cX4_next 62 = .ok (.getfield 31, 3) := do_180 (rdb (p := 32) (i := 30) ch_cX4_next_32 rfl) (rdb (p := 32) (i := 31) ch_cX4_next_32 rfl) (rdb (p := 32) (i := 32) ch_cX4_next_32 rfl) rfl
theorem ch_cX4_next_64 : (cX4_next.data.toList.drop 64).take 36 = [31, 182, 0, 68, 167, 0, 4, 2, 172] := by decide +kernel
theorem dX4_next_65 : decode cX4_next 65 = .ok (.invokevirtual 68, 3) := do_182 (rdb (p := 64) (i := 1) ch_cX4_next_64 rfl) (rdb (p := 64) (i := 2) ch_cX4_next_64 rfl) (rdb (p := 64) (i := 3) ch_cX4_next_64 rfl) rfl
theorem dX4_next_68 : decode cX4_next 68 = .ok (.goto 4, 3) := do_167 (rdb (p := 64) (i := 4) ch_cX4_next_64 rfl) (rdb (p := 64) (i := 5) ch_cX4_next_64 rfl) (rdb (p := 64) (i := 6) ch_cX4_next_64 rfl) (by decide +kernel)
theorem dX4_next_71 : decode cX4_next 71 = .ok (.iconst (-1), 1) := do_2 (rdb (p := 64) (i := 7) ch_cX4_next_64 rfl)
theorem dX4_next_72 : decode cX4_next 72 = .ok (.ireturn, 1) := do_172 (rdb (p := 64) (i := 8) ch_cX4_next_64 rfl)
theorem ch_cX4_readName_0 : (cX4_readName.data.toList.drop 0).take 36 = [27, 155, 0, 9, 27, 16, 127, 164, 0, 7, 2, 167, 0, 12, 42, 180, 0, 27, 27, 146, 182, 0, 93, 61, 28, 156, 0, 8, 42, 182, 0, 62, 177, 42, 89, 180] := by decide +kernel
theorem dX4_readName_0 : decode cX4_readName 0 = .ok (.iload_n 1, 1) := do_27 (rdb (p := 0) (i := 0) ch_cX4_readName_0 rfl)
theorem dX4_readName_1 : decode cX4_readName 1 = .ok (.ifCond .lt 9, 3) := do_155 (rdb (p := 0) (i := 1) ch_cX4_readName_0 rfl) (rdb (p := 0) (i := 2) ch_cX4_readName_0 rfl) (rdb (p := 0) (i := 3) ch_cX4_readName_0 rfl) (by decide +kernel)
theorem dX4_readName_4 : decode cX4_readName 4 = .ok (.iload_n 1, 1) := do_27 (rdb (p := 0) (i := 4) ch_cX4_readName_0 rfl)
theorem dX4_readName_5 : decode cX4_readName 5 = .ok (.bipush 127, 2) := do_16 (rdb (p := 0) (i := 5) ch_cX4_readName_0 rfl) (rdb (p := 0) (i := 6) ch_cX4_readName_0 rfl) (by decide +kernel)
theorem dX4_readName_7 : decode cX4_readName 7 = .ok (.if_icmp .le 7, 3) := do_164 (rdb (p := 0) (i := 7) ch_cX4_readName_0 rfl) (rdb (p := 0) (i := 8) ch_cX4_readName_0 rfl) (rdb (p := 0) (i := 9) ch_cX4_readName_0 rfl) (by decide +kernel)
theorem dX4_readName_10 : decode cX4_readName 10 = .ok (.iconst (-1), 1) := do_2 (rdb (p := 0) (i := 10) ch_cX4_readName_0 rfl)
theorem dX4_readName_11 : decode cX4_readName 11 = .ok (.goto 12, 3) := do_167 (rdb (p := 0) (i := 11) ch_cX4_readName_0 rfl) (rdb (p := 0) (i := 12) ch_cX4_readName_0 rfl) (rdb (p := 0) (i := 13) ch_cX4_readName_0 rfl) (by decide +kernel)
theorem dX4_readName_14 : decode cX4_readName 14 = .ok (.aload_n 0, 1) := do_42 (rdb (p := 0) (i := 14) ch_cX4_readName_0 rfl)
theorem dX4_readName_15 : decode cX4_readName 15 = .ok (.getfield 27, 3) := do_180 (rdb (p := 0) (i := 15) ch_cX4_readName_0 rfl) (rdb (p := 0) (i := 16) ch_cX4_readName_0 rfl) (rdb (p := 0) (i := 17) ch_cX4_readName_0 rfl) rfl
theorem dX4_readName_18 : decode cX4_readName 18 = .ok (.iload_n 1, 1) := do_27 (rdb (p := 0) (i := 18) ch_cX4_readName_0 rfl)
theorem dX4_readName_19 : decode cX4_readName 19 = .ok (.i2c, 1) := do_146 (rdb (p := 0) (i := 19) ch_cX4_readName_0 rfl)
theorem dX4_readName_20 : decode cX4_readName 20 = .ok (.invokevirtual 93, 3) := do_182 (rdb (p := 0) (i := 20) ch_cX4_readName_0 rfl) (rdb (p := 0) (i := 21) ch_cX4_readName_0 rfl) (rdb (p := 0) (i := 22) ch_cX4_readName_0 rfl) rfl
theorem dX4_readName_23 : decode cX4_readName 23 = .ok (.istore_n 2, 1) := do_61 (rdb (p := 0) (i := 23) ch_cX4_readName_0 rfl)
theorem dX4_readName_24 : decode cX4_readName 24 = .ok (.iload_n 2, 1) := do_28 (rdb (p := 0) (i := 24) ch_cX4_readName_0 rfl)
theorem dX4_readName_25 : decode cX4_readName 25 = .ok (.ifCond .ge 8, 3) := do_156 (rdb (p := 0) (i := 25) ch_cX4_readName_0 rfl) (rdb (p := 0) (i := 26) ch_cX4_readName_0 rfl) (rdb (p := 0) (i := 27) ch_cX4_readName_0 rfl) (by decide +kernel)
theorem dX4_readName_28 : decode cX4_readName 28 = .ok (.aload_n 0, 1) := do_42 (rdb (p := 0) (i := 28) ch_cX4_readName_0 rfl)
theorem dX4_readName_29 : decode cX4_readName 29 = .ok (.invokevirtual 62, 3) := do_182 (rdb (p := 0) (i := 29) ch_cX4_readName_0 rfl) (rdb (p := 0) (i := 30) ch_cX4_readName_0 rfl) (rdb (p := 0) (i := 31) ch_cX4_readName_0 rfl) rfl
theorem ch_cX4_readName_32 : (cX4_readName.data.toList.drop 32).take 36 = [177, 42, 89, 180, 0, 31, 4, 96, 181, 0, 31, 42, 180, 0, 10, 17, 3, 232, 28, 96, 182, 0, 75, 42, 89, 180, 0, 41, 4, 96, 181, 0, 41, 177] := by decide +kernel
theorem dX4_readName_32 : decode cX4_readName 32 = .ok (.return_, 1) := do_177 (rdb (p := 32) (i := 0) ch_cX4_readName_32 rfl)
theorem dX4_readName_33 : decode cX4_readName 33 = .ok (.aload_n 0, 1) := do_42 (rdb (p := 32) (i := 1) ch_cX4_readName_32 rfl)
theorem dX4_readName_34 : decode cX4_readName 34 = .ok (.dup, 1) := do_89 (rdb (p := 32) (i := 2) ch_cX4_readName_32 rfl)
theorem dX4_readName_35 : decode cX4_readName 35 = .ok (.getfield 31, 3) := do_180 (rdb (p := 32) (i := 3) ch_cX4_readName_32 rfl) (rdb (p := 32) (i := 4) ch_cX4_readName_32 rfl) (rdb (p := 32) (i := 5) ch_cX4_readName_32 rfl) rfl
theorem dX4_readName_38 : decode cX4_readName 38 = .ok (.iconst 1, 1) := do_4 (rdb (p := 32) (i := 6) ch_cX4_readName_32 rfl)
theorem dX4_readName_39 : decode cX4_readName 39 = .ok (.iadd, 1) := do_96 (rdb (p := 32) (i := 7) ch_cX4_readName_32 rfl)
theorem dX4_readName_40 : decode cX4_readName 40 = .ok (.putfield 31, 3) := do_181 (rdb (p := 32) (i := 8) ch_cX4_readName_32 rfl) (rdb (p := 32) (i := 9) ch_cX4_readName_32 rfl) (rdb (p := 32) (i := 10) ch_cX4_readName_32 rfl) rfl
theorem dX4_readName_43 : decode cX4_readName 43 = .ok (.aload_n 0, 1) := do_42 (rdb (p := 32) (i := 11) ch_cX4_readName_32 rfl)
theorem dX4_readName_44 : decode cX4_readName 44 = .ok (.getfield 10, 3) := do_180 (rdb (p := 32) (i := 12) ch_cX4_readName_32 rfl) (rdb (p := 32) (i := 13) ch_cX4_readName_32 rfl) (rdb (p := 32) (i := 14) ch_cX4_readName_32 rfl) rfl
theorem dX4_readName_47 : decode cX4_readName 47 = .ok (.sipush 1000, 3) := do_17 (rdb (p := 32) (i := 15) ch_cX4_readName_32 rfl) (rdb (p := 32) (i := 16) ch_cX4_readName_32 rfl) (rdb (p := 32) (i := 17) ch_cX4_readName_32 rfl) (by decide +kernel)
theorem dX4_readName_50 : decode cX4_readName 50 = .ok (.iload_n 2, 1) := do_28 (rdb (p := 32) (i := 18) ch_cX4_readName_32 rfl)
theorem dX4_readName_51 : decode cX4_readName 51 = .ok (.iadd, 1) := do_96 (rdb (p := 32) (i := 19) ch_cX4_readName_32 rfl)
theorem dX4_readName_52 : decode cX4_readName 52 = .ok (.invokevirtual 75, 3) := do_182 (rdb (p := 32) (i := 20) ch_cX4_readName_32 rfl) (rdb (p := 32) (i := 21) ch_cX4_readName_32 rfl) (rdb (p := 32) (i := 22) ch_cX4_readName_32 rfl) rfl
theorem dX4_readName_55 : decode cX4_readName 55 = .ok (.aload_n 0, 1) := do_42 (rdb (p := 32) (i := 23) ch_cX4_readName_32 rfl)
theorem dX4_readName_56 : decode cX4_readName 56 = .ok (.dup, 1) := do_89 (rdb (p := 32) (i := 24) ch_cX4_readName_32 rfl)
theorem dX4_readName_57 : decode cX4_readName 57 = .ok (.getfield 41, 3) := do_180 (rdb (p := 32) (i := 25) ch_cX4_readName_32 rfl) (rdb (p := 32) (i := 26) ch_cX4_readName_32 rfl) (rdb (p := 32) (i := 27) ch_cX4_readName_32 rfl) rfl
theorem dX4_readName_60 : decode cX4_readName 60 = .ok (.iconst 1, 1) := do_4 (rdb (p := 32) (i := 28) ch_cX4_readName_32 rfl)
theorem dX4_readName_61 : decode cX4_readName 61 = .ok (.iadd, 1) := do_96 (rdb (p := 32) (i := 29) ch_cX4_readName_32 rfl)
theorem dX4_readName_62 : decode cX4_readName 62 = .ok (.putfield 41, 3) := do_181 (rdb (p := 32) (i := 30) ch_cX4_readName_32 rfl) (rdb (p := 32) (i := 31) ch_cX4_readName_32 rfl) (rdb (p := 32) (i := 32) ch_cX4_readName_32 rfl) rfl
theorem ch_cX4_readName_64 : (cX4_readName.data.toList.drop 64).take 36 = [41, 177] := by decide +kernel
theorem dX4_readName_65 : decode cX4_readName 65 = .ok (.return_, 1) := do_177 (rdb (p := 64) (i := 1) ch_cX4_readName_64 rfl)
theorem ch_cX4_readNumber_0 : (cX4_readNumber.data.toList.drop 0).take 36 = [3, 60, 3, 61, 28, 6, 162, 0, 72, 42, 180, 0, 31, 42, 180, 0, 21, 180, 0, 65, 162, 0, 20, 42, 180, 0, 21, 42, 180, 0, 31, 182, 0, 68, 16, 48] := by decide +kernel
theorem dX4_readNumber_0 : decode cX4_readNumber 0 = .ok (.iconst 0, 1) := do_3 (rdb (p := 0) (i := 0) ch_cX4_readNumber_0 rfl)
theorem dX4_readNumber_1 : decode cX4_readNumber 1 = .ok (.istore_n 1, 1) := do_60 (rdb (p := 0) (i := 1) ch_cX4_readNumber_0 rfl)
theorem dX4_readNumber_2 : decode cX4_readNumber 2 = .ok (.iconst 0, 1) := do_3 (rdb (p := 0) (i := 2) ch_cX4_readNumber_0 rfl)
theorem dX4_readNumber_3 : decode cX4_readNumber 3 = .ok (.istore_n 2, 1) := do_61 (rdb (p := 0) (i := 3) ch_cX4_readNumber_0 rfl)
theorem dX4_readNumber_4 : decode cX4_readNumber 4 = .ok (.iload_n 2, 1) := do_28 (rdb (p := 0) (i := 4) ch_cX4_readNumber_0 rfl)
theorem dX4_readNumber_5 : decode cX4_readNumber 5 = .ok (.iconst 3, 1) := do_6 (rdb (p := 0) (i := 5) ch_cX4_readNumber_0 rfl)
theorem dX4_readNumber_6 : decode cX4_readNumber 6 = .ok (.if_icmp .ge 72, 3) := do_162 (rdb (p := 0) (i := 6) ch_cX4_readNumber_0 rfl) (rdb (p := 0) (i := 7) ch_cX4_readNumber_0 rfl) (rdb (p := 0) (i := 8) ch_cX4_readNumber_0 rfl) (by decide +kernel)
theorem dX4_readNumber_9 : decode cX4_readNumber 9 = .ok (.aload_n 0, 1) := do_42 (rdb (p := 0) (i := 9) ch_cX4_readNumber_0 rfl)
theorem dX4_readNumber_10 : decode cX4_readNumber 10 = .ok (.getfield 31, 3) := do_180 (rdb (p := 0) (i := 10) ch_cX4_readNumber_0 rfl) (rdb (p := 0) (i := 11) ch_cX4_readNumber_0 rfl) (rdb (p := 0) (i := 12) ch_cX4_readNumber_0 rfl) rfl
theorem dX4_readNumber_13 : decode cX4_readNumber 13 = .ok (.aload_n 0, 1) := do_42 (rdb (p := 0) (i := 13) ch_cX4_readNumber_0 rfl)
theorem dX4_readNumber_14 : decode cX4_readNumber 14 = .ok (.getfield 21, 3) := do_180 (rdb (p := 0) (i := 14) ch_cX4_readNumber_0 rfl) (rdb (p := 0) (i := 15) ch_cX4_readNumber_0 rfl) (rdb (p := 0) (i := 16) ch_cX4_readNumber_0 rfl) rfl
theorem dX4_readNumber_17 : decode cX4_readNumber 17 = .ok (.getfield 65, 3) := do_180 (rdb (p := 0) (i := 17) ch_cX4_readNumber_0 rfl) (rdb (p := 0) (i := 18) ch_cX4_readNumber_0 rfl) (rdb (p := 0) (i := 19) ch_cX4_readNumber_0 rfl) rfl
theorem dX4_readNumber_20 : decode cX4_readNumber 20 = .ok (.if_icmp .ge 20, 3) := do_162 (rdb (p := 0) (i := 20) ch_cX4_readNumber_0 rfl) (rdb (p := 0) (i := 21) ch_cX4_readNumber_0 rfl) (rdb (p := 0) (i := 22) ch_cX4_readNumber_0 rfl) (by decide +kernel)
theorem dX4_readNumber_23 : decode cX4_readNumber 23 = .ok (.aload_n 0, 1) := do_42 (rdb (p := 0) (i := 23) ch_cX4_readNumber_0 rfl)
theorem dX4_readNumber_24 : decode cX4_readNumber 24 = .ok (.getfield 21, 3) := do_180 (rdb (p := 0) (i := 24) ch_cX4_readNumber_0 rfl) (rdb (p := 0) (i := 25) ch_cX4_readNumber_0 rfl) (rdb (p := 0) (i := 26) ch_cX4_readNumber_0 rfl) rfl
theorem dX4_readNumber_27 : decode cX4_readNumber 27 = .ok (.aload_n 0, 1) := do_42 (rdb (p := 0) (i := 27) ch_cX4_readNumber_0 rfl)
theorem dX4_readNumber_28 : decode cX4_readNumber 28 = .ok (.getfield 31, 3) := do_180 (rdb (p := 0) (i := 28) ch_cX4_readNumber_0 rfl) (rdb (p := 0) (i := 29) ch_cX4_readNumber_0 rfl) (rdb (p := 0) (i := 30) ch_cX4_readNumber_0 rfl) rfl
theorem dX4_readNumber_31 : decode cX4_readNumber 31 = .ok (.invokevirtual 68, 3) := do_182 (rdb (p := 0) (i := 31) ch_cX4_readNumber_0 rfl) (rdb (p := 0) (i := 32) ch_cX4_readNumber_0 rfl) (rdb (p := 0) (i := 33) ch_cX4_readNumber_0 rfl) rfl
theorem ch_cX4_readNumber_32 : (cX4_readNumber.data.toList.drop 32).take 36 = [0, 68, 16, 48, 100, 167, 0, 4, 2, 62, 29, 155, 0, 35, 29, 16, 9, 164, 0, 6, 167, 0, 26, 16, 10, 27, 104, 29, 96, 60, 42, 89, 180, 0, 31, 4] := by decide +kernel
theorem dX4_readNumber_34 : decode cX4_readNumber 34 = .ok (.bipush 48, 2) := do_16 (rdb (p := 32) (i := 2) ch_cX4_readNumber_32 rfl) (rdb (p := 32) (i := 3) ch_cX4_readNumber_32 rfl) (by decide +kernel)
theorem dX4_readNumber_36 : decode cX4_readNumber 36 = .ok (.isub, 1) := do_100 (rdb (p := 32) (i := 4) ch_cX4_readNumber_32 rfl)
theorem dX4_readNumber_37 : decode cX4_readNumber 37 = .ok (.goto 4, 3) := do_167 (rdb (p := 32) (i := 5) ch_cX4_readNumber_32 rfl) (rdb (p := 32) (i := 6) ch_cX4_readNumber_32 rfl) (rdb (p := 32) (i := 7) ch_cX4_readNumber_32 rfl) (by decide +kernel)
theorem dX4_readNumber_40 : decode cX4_readNumber 40 = .ok (.iconst (-1), 1) := do_2 (rdb (p := 32) (i := 8) ch_cX4_readNumber_32 rfl)
theorem dX4_readNumber_41 : decode cX4_readNumber 41 = .ok (.istore_n 3, 1) := do_62 (rdb (p := 32) (i := 9) ch_cX4_readNumber_32 rfl)
theorem dX4_readNumber_42 : decode cX4_readNumber 42 = .ok (.iload_n 3, 1) := do_29 (rdb (p := 32) (i := 10) ch_cX4_readNumber_32 rfl)
theorem dX4_readNumber_43 : decode cX4_readNumber 43 = .ok (.ifCond .lt 35, 3) := do_155 (rdb (p := 32) (i := 11) ch_cX4_readNumber_32 rfl) (rdb (p := 32) (i := 12) ch_cX4_readNumber_32 rfl) (rdb (p := 32) (i := 13) ch_cX4_readNumber_32 rfl) (by decide +kernel)
theorem dX4_readNumber_46 : decode cX4_readNumber 46 = .ok (.iload_n 3, 1) := do_29 (rdb (p := 32) (i := 14) ch_cX4_readNumber_32 rfl)
theorem dX4_readNumber_47 : decode cX4_readNumber 47 = .ok (.bipush 9, 2) := do_16 (rdb (p := 32) (i := 15) ch_cX4_readNumber_32 rfl) (rdb (p := 32) (i := 16) ch_cX4_readNumber_32 rfl) (by decide +kernel)
theorem dX4_readNumber_49 : decode cX4_readNumber 49 = .ok (.if_icmp .le 6, 3) := do_164 (rdb (p := 32) (i := 17) ch_cX4_readNumber_32 rfl) (rdb (p := 32) (i := 18) ch_cX4_readNumber_32 rfl) (rdb (p := 32) (i := 19) ch_cX4_readNumber_32 rfl) (by decide +kernel)
theorem dX4_readNumber_52 : decode cX4_readNumber 52 = .ok (.goto 26, 3) := do_167 (rdb (p := 32) (i := 20) ch_cX4_readNumber_32 rfl) (rdb (p := 32) (i := 21) ch_cX4_readNumber_32 rfl) (rdb (p := 32) (i := 22) ch_cX4_readNumber_32 rfl) (by decide +kernel)
theorem dX4_readNumber_55 : decode cX4_readNumber 55 = .ok (.bipush 10, 2) := do_16 (rdb (p := 32) (i := 23) ch_cX4_readNumber_32 rfl) (rdb (p := 32) (i := 24) ch_cX4_readNumber_32 rfl) (by decide +kernel)
theorem dX4_readNumber_57 : decode cX4_readNumber 57 = .ok (.iload_n 1, 1) := do_27 (rdb (p := 32) (i := 25) ch_cX4_readNumber_32 rfl)
theorem dX4_readNumber_58 : decode cX4_readNumber 58 = .ok (.imul, 1) := do_104 (rdb (p := 32) (i := 26) ch_cX4_readNumber_32 rfl)
theorem dX4_readNumber_59 : decode cX4_readNumber 59 = .ok (.iload_n 3, 1) := do_29 (rdb (p := 32) (i := 27) ch_cX4_readNumber_32 rfl)
theorem dX4_readNumber_60 : decode cX4_readNumber 60 = .ok (.iadd, 1) := do_96 (rdb (p := 32) (i := 28) ch_cX4_readNumber_32 rfl)
theorem dX4_readNumber_61 : decode cX4_readNumber 61 = .ok (.istore_n 1, 1) := do_60 (rdb (p := 32) (i := 29) ch_cX4_readNumber_32 rfl)
theorem dX4_readNumber_62 : decode cX4_readNumber 62 = .ok (.aload_n 0, 1) := do_42 (rdb (p := 32) (i := 30) ch_cX4_readNumber_32 rfl)
theorem dX4_readNumber_63 : decode cX4_readNumber 63 = .ok (.dup, 1) := do_89 (rdb (p := 32) (i := 31) ch_cX4_readNumber_32 rfl)
theorem ch_cX4_readNumber_64 : (cX4_readNumber.data.toList.drop 64).take 36 = [180, 0, 31, 4, 96, 181, 0, 31, 132, 2, 1, 167, 255, 185, 42, 180, 0, 10, 27, 182, 0, 75, 42, 89, 180, 0, 41, 4, 96, 181, 0, 41, 177] := by decide +kernel
theorem dX4_readNumber_64 : decode cX4_readNumber 64 = .ok (.getfield 31, 3) := do_180 (rdb (p := 64) (i := 0) ch_cX4_readNumber_64 rfl) (rdb (p := 64) (i := 1) ch_cX4_readNumber_64 rfl) (rdb (p := 64) (i := 2) ch_cX4_readNumber_64 rfl) rfl
theorem dX4_readNumber_67 : decode cX4_readNumber 67 = .ok (.iconst 1, 1) := do_4 (rdb (p := 64) (i := 3) ch_cX4_readNumber_64 rfl)
theorem dX4_readNumber_68 : decode cX4_readNumber 68 = .ok (.iadd, 1) := do_96 (rdb (p := 64) (i := 4) ch_cX4_readNumber_64 rfl)
theorem dX4_readNumber_69 : decode cX4_readNumber 69 = .ok (.putfield 31, 3) := do_181 (rdb (p := 64) (i := 5) ch_cX4_readNumber_64 rfl) (rdb (p := 64) (i := 6) ch_cX4_readNumber_64 rfl) (rdb (p := 64) (i := 7) ch_cX4_readNumber_64 rfl) rfl
theorem dX4_readNumber_72 : decode cX4_readNumber 72 = .ok (.iinc 2 1, 3) := do_132 (rdb (p := 64) (i := 8) ch_cX4_readNumber_64 rfl) (rdb (p := 64) (i := 9) ch_cX4_readNumber_64 rfl) (rdb (p := 64) (i := 10) ch_cX4_readNumber_64 rfl) (by decide +kernel)
theorem dX4_readNumber_75 : decode cX4_readNumber 75 = .ok (.goto (-71), 3) := do_167 (rdb (p := 64) (i := 11) ch_cX4_readNumber_64 rfl) (rdb (p := 64) (i := 12) ch_cX4_readNumber_64 rfl) (rdb (p := 64) (i := 13) ch_cX4_readNumber_64 rfl) (by decide +kernel)
theorem dX4_readNumber_78 : decode cX4_readNumber 78 = .ok (.aload_n 0, 1) := do_42 (rdb (p := 64) (i := 14) ch_cX4_readNumber_64 rfl)
theorem dX4_readNumber_79 : decode cX4_readNumber 79 = .ok (.getfield 10, 3) := do_180 (rdb (p := 64) (i := 15) ch_cX4_readNumber_64 rfl) (rdb (p := 64) (i := 16) ch_cX4_readNumber_64 rfl) (rdb (p := 64) (i := 17) ch_cX4_readNumber_64 rfl) rfl
theorem dX4_readNumber_82 : decode cX4_readNumber 82 = .ok (.iload_n 1, 1) := do_27 (rdb (p := 64) (i := 18) ch_cX4_readNumber_64 rfl)
theorem dX4_readNumber_83 : decode cX4_readNumber 83 = .ok (.invokevirtual 75, 3) := do_182 (rdb (p := 64) (i := 19) ch_cX4_readNumber_64 rfl) (rdb (p := 64) (i := 20) ch_cX4_readNumber_64 rfl) (rdb (p := 64) (i := 21) ch_cX4_readNumber_64 rfl) rfl
theorem dX4_readNumber_86 : decode cX4_readNumber 86 = .ok (.aload_n 0, 1) := do_42 (rdb (p := 64) (i := 22) ch_cX4_readNumber_64 rfl)
theorem dX4_readNumber_87 : decode cX4_readNumber 87 = .ok (.dup, 1) := do_89 (rdb (p := 64) (i := 23) ch_cX4_readNumber_64 rfl)
theorem dX4_readNumber_88 : decode cX4_readNumber 88 = .ok (.getfield 41, 3) := do_180 (rdb (p := 64) (i := 24) ch_cX4_readNumber_64 rfl) (rdb (p := 64) (i := 25) ch_cX4_readNumber_64 rfl) (rdb (p := 64) (i := 26) ch_cX4_readNumber_64 rfl) rfl
theorem dX4_readNumber_91 : decode cX4_readNumber 91 = .ok (.iconst 1, 1) := do_4 (rdb (p := 64) (i := 27) ch_cX4_readNumber_64 rfl)
theorem dX4_readNumber_92 : decode cX4_readNumber 92 = .ok (.iadd, 1) := do_96 (rdb (p := 64) (i := 28) ch_cX4_readNumber_64 rfl)
theorem dX4_readNumber_93 : decode cX4_readNumber 93 = .ok (.putfield 41, 3) := do_181 (rdb (p := 64) (i := 29) ch_cX4_readNumber_64 rfl) (rdb (p := 64) (i := 30) ch_cX4_readNumber_64 rfl) (rdb (p := 64) (i := 31) ch_cX4_readNumber_64 rfl) rfl
theorem ch_cX4_readNumber_96 : (cX4_readNumber.data.toList.drop 96).take 36 = [177] := by decide +kernel
theorem dX4_readNumber_96 : decode cX4_readNumber 96 = .ok (.return_, 1) := do_177 (rdb (p := 96) (i := 0) ch_cX4_readNumber_96 rfl)
end
