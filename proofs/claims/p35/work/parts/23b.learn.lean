def S_c_X3_findRow (b : Nat) : rf → Nat → Prop := fun c k => (c.1 = 3 ∧ c.2.1 = b ∧ k = 6) ∨ (c.1 = 3 ∧ c.2.1 = b ∧ k = 8) ∨ (c.1 = 3 ∧ c.2.1 = b ∧ k = 7) ∨ (c.1 = 5 ∧ c.2.1 = b ∧ c.2.2 = 2 ∧ k = 1) ∨ (c.1 = 5 ∧ c.2.1 = b ∧ c.2.2 = 3 ∧ k = 1) ∨ (c.1 = 33 ∧ c.2.1 = b ∧ c.2.2 = 3) ∨ (c.1 = 33 ∧ c.2.1 = b ∧ c.2.2 = 2) ∨ False
def SP_X3_findRow (b : Nat) (v : Int32) (u : Int32) (Mz : mM) (r_ : Int32) (M_ : mM) : Prop := ∃ M1_ : mM, (M1_ = up Mz (3, b, 0) 6 u) ∧ ∃ M5_ : mM, (M5_ = up M1_ (3, b, 0) 8 0) ∧ ∃ M9_ : mM, (M9_ = up M5_ (3, b, 0) 7 0) ∧ (Inv M9_) ∧ ∃ M13_ : mM, (Inv M13_) ∧ (FR (S_c_X5_clear2 b) M9_ M13_) ∧ (SP_X5_clear2 b M9_ M13_) ∧ ((M13_.1 (5, b, 2) 1).toInt = 0) ∧ ∃ M20_ : mM, (Inv M20_) ∧ (FR (S_c_X5_clear b 3) M13_ M20_) ∧ (SP_X5_clear b 3 M13_ M20_) ∧ ∃ M28_ : mM, (Inv M28_) ∧ (FR (S_try b) M20_ M28_) ∧ ∃ z35_ : Int32, (z35_ = M28_.1 (3, b, 0) 8) ∧ (0 ≤ z35_.toInt ∧ z35_.toInt ≤ 1) ∧ r_ = z35_ ∧ M_ = M28_
theorem lf_c_X3_findRow_0 (M1_ : mM) (M5_ : mM) (M9_ : mM) (Mz : mM) (b : Nat) (u : Int32) (hb : b < 3) (hM2_ : M1_ = up Mz (3, b, 0) 6 u) (hM6_ : M5_ = up M1_ (3, b, 0) 8 0) (hM10_ : M9_ = up M5_ (3, b, 0) 7 0) : vRw b 2 := by have r_u := rngI u; unfold vRw; omega
theorem lf_c_X3_findRow_1 (M13_ : mM) (M1_ : mM) (M5_ : mM) (M9_ : mM) (Mz : mM) (b : Nat) (u : Int32) (hb : b < 3) (hM2_ : M1_ = up Mz (3, b, 0) 6 u) (hM6_ : M5_ = up M1_ (3, b, 0) 8 0) (hM10_ : M9_ = up M5_ (3, b, 0) 7 0) (h15_ : (M13_.1 (5, b, 2) 1).toInt = 0) : vRw b 3 := by have r_u := rngI u; unfold vRw; omega
theorem lf_c_X3_findRow_2 (M13_ : mM) (M1_ : mM) (M5_ : mM) (M9_ : mM) (Mz : mM) (b : Nat) (u : Int32) (hb : b < 3) (hM2_ : M1_ = up Mz (3, b, 0) 6 u) (hM6_ : M5_ = up M1_ (3, b, 0) 8 0) (hM10_ : M9_ = up M5_ (3, b, 0) 7 0) (h15_ : (M13_.1 (5, b, 2) 1).toInt = 0) : vRw b 3 := by have r_u := rngI u; unfold vRw; omega
set_option maxHeartbeats 4000000 in
set_option maxRecDepth 100000 in
theorem c_X3_findRow (l : Launch) (G : va_G) (cy : Nat → ClassId) (ad : rf → Nat) (d : Nat) (b : Nat) (v : Int32) (u : Int32) (Mz : mM) (hIz : Inv Mz) (hb : b < 3) : WP CC l G cy ad yX3_findRow cX3_findRow 3 (some .boolean) (d + 17) 0 [(0, vR (3, b, 0)), (1, vI v), (2, vI u)] [] Mz (fun r M' => Inv M' ∧ FR (S_c_X3_findRow b) Mz M' ∧ ((0 ≤ r.toInt ∧ r.toInt ≤ 1)) ∧ SP_X3_findRow b v u Mz r M') := by
  have hFz : FR (S_c_X3_findRow b) Mz Mz := FR.self
  refine w_aload_n dX3_findRow_0 rfl 0 rfl ?_
  refine w_iload_n dX3_findRow_1 rfl 2 rfl ?_
  refine w_putI CC_nd fl_RX3_35 rfl rfl (ic_3 hb) dX3_findRow_2 (fun M1_ hM2_ => ?_)
  have hI3_ := hIz.put hM2_ (fun h => absurd h (by decide))
  have hF4_ := hFz.put hM2_ (Or.inl ⟨rfl, rfl, rfl⟩)
  refine w_aload_n dX3_findRow_5 rfl 0 rfl ?_
  refine w_iconst (v := 0) dX3_findRow_6 (by decide) ?_
  refine w_putZ CC_nd fl_RX3_41 rfl rfl (ic_3 hb) ⟨by decide, by decide⟩ dX3_findRow_7 (fun M5_ hM6_ => ?_)
  have hI7_ := hI3_.put hM6_ (fun _ => ⟨by decide, by decide⟩)
  have hF8_ := hF4_.put hM6_ (Or.inr (Or.inl ⟨rfl, rfl, rfl⟩))
  refine w_aload_n dX3_findRow_10 rfl 0 rfl ?_
  refine w_iconst (v := 0) dX3_findRow_11 (by decide) ?_
  refine w_putI CC_nd fl_RX3_38 rfl rfl (ic_3 hb) dX3_findRow_12 (fun M9_ hM10_ => ?_)
  have hI11_ := hI7_.put hM10_ (fun h => absurd h (by decide))
  have hF12_ := hF8_.put hM10_ (Or.inr (Or.inr (Or.inl ⟨rfl, rfl, rfl⟩)))
  refine w_aload_n dX3_findRow_15 rfl 0 rfl ?_
  refine w_getR (c' := (5, b, 2)) fl_RX3_28 rfl rfl (ic_3 hb) dX3_findRow_16 rfl ?_
  refine w_callVv (as := []) (rest := []) (c_X5_clear2 l G cy ad (d + 16) b M9_ hI11_ hb) kV_X5_clear (by decide +kernel) (Nat.le_of_ble_eq_true rfl) m_1133 rfl rfl rfl (ic_5 (lf_c_X3_findRow_0 M1_ M5_ M9_ Mz b u hb hM2_ hM6_ hM10_)) rfl rfl (by decide) (Nat.le_of_ble_eq_true rfl) dX3_findRow_19 (fun M13_ q14_ => ?_)
  obtain ⟨hI16_, hF17_, h15_, hs19_⟩ := q14_
  have hF18_ := hF12_.tr hF17_ (fun c k => (fun h => h.elim (fun h => (Or.inr (Or.inr (Or.inr (Or.inl ⟨h.1, h.2.1, h.2.2.1, h.2.2.2⟩))))) (fun h => h.elim)))
  refine w_aload_n dX3_findRow_22 rfl 0 rfl ?_
  refine w_getR (c' := (5, b, 3)) fl_RX3_32 rfl rfl (ic_3 hb) dX3_findRow_23 rfl ?_
  refine w_callVv (as := []) (rest := []) (c_X5_clear l G cy ad (d + 16) b 3 M13_ hI16_ (lf_c_X3_findRow_1 M13_ M1_ M5_ M9_ Mz b u hb hM2_ hM6_ hM10_ h15_)) kV_X5_clear (by decide +kernel) (Nat.le_of_ble_eq_true rfl) m_1133 rfl rfl rfl (ic_5 (lf_c_X3_findRow_2 M13_ M1_ M5_ M9_ Mz b u hb hM2_ hM6_ hM10_ h15_)) rfl rfl (by decide) (Nat.le_of_ble_eq_true rfl) dX3_findRow_26 (fun M20_ q21_ => ?_)
  obtain ⟨hI23_, hF24_, h22_, hs26_⟩ := q21_
  have hF25_ := hF18_.tr hF24_ (fun c k => (fun h => h.elim (fun h => (Or.inr (Or.inr (Or.inr (Or.inr (Or.inl ⟨h.1, h.2.1, h.2.2.1, h.2.2.2⟩)))))) (fun h => h.elim)))
  have kf27_ : (M20_.1 (5, b, 2) 1).toInt = 0 := by rw [(hF24_ (5, b, 2) 1 (by simp [S_c_X5_clear]))]; exact h15_
  refine w_aload_n dX3_findRow_29 rfl 0 rfl ?_
  refine w_iload_n dX3_findRow_30 rfl 1 rfl ?_
  refine w_iconst (v := 0) dX3_findRow_31 (by decide) ?_
  refine w_iconst (v := 0) dX3_findRow_32 (by decide) ?_
  refine w_callVv (as := [vI v, vI 0, vI 0]) (rest := []) (c_X3_try7 l G cy ad d b v 0 0 M20_ hI23_ hb kf27_) kV_X3_tryRows (by decide +kernel) (Nat.le_of_ble_eq_true rfl) m_1134 rfl rfl rfl (ic_3 hb) rfl rfl (by decide) (Nat.le_of_ble_eq_true rfl) dX3_findRow_33 (fun M28_ q29_ => ?_)
  obtain ⟨hI31_, hF32_, h30_⟩ := q29_
  have hF33_ := hF25_.tr hF32_ (fun c k => (fun h => h.elim (fun h => (Or.inr (Or.inr (Or.inl ⟨h.1, h.2.1, h.2.2⟩)))) (fun h => h.elim (fun h => (Or.inr (Or.inl ⟨h.1, h.2.1, h.2.2⟩))) (fun h => h.elim (fun h => (Or.inr (Or.inr (Or.inr (Or.inr (Or.inl ⟨h.1, h.2.1, h.2.2.1, h.2.2.2⟩)))))) (fun h => h.elim (fun h => (Or.inr (Or.inr (Or.inr (Or.inr (Or.inr (Or.inl ⟨h.1, h.2.1, h.2.2⟩))))))) (fun h => h.elim (fun h => (Or.inr (Or.inr (Or.inr (Or.inl ⟨h.1, h.2.1, h.2.2.1, h.2.2.2⟩))))) (fun h => h.elim (fun h => (Or.inr (Or.inr (Or.inr (Or.inr (Or.inr (Or.inr (Or.inl ⟨h.1, h.2.1, h.2.2⟩)))))))) (fun h => h.elim))))))))
  refine w_aload_n dX3_findRow_36 rfl 0 rfl ?_
  refine w_getI fl_RX3_41 rfl rfl (ic_3 hb) dX3_findRow_37 (fun z35_ e36_ => ?_)
  have h37_ : 0 ≤ z35_.toInt ∧ z35_.toInt ≤ 1 := ofEq (P := fun v => 0 ≤ v.toInt ∧ v.toInt ≤ 1) e36_ (hI31_ (3, b, 0) 8 rfl)
  exact w_zret rfl dX3_findRow_40 h37_ ⟨hI31_, hF33_, h37_, ⟨M1_, hM2_, M5_, hM6_, M9_, hM10_, hI11_, M13_, hI16_, hF17_, hs19_, h15_, M20_, hI23_, hF24_, hs26_, M28_, hI31_, hF32_, z35_, e36_, h37_, rfl, rfl⟩⟩
def S_c_X11_learn : rf → Nat → Prop := fun c k => (c.1 = 3 ∧ c.2.1 = 0 ∧ k = 6) ∨ (c.1 = 3 ∧ c.2.1 = 0 ∧ k = 8) ∨ (c.1 = 3 ∧ c.2.1 = 0 ∧ k = 7) ∨ (c.1 = 5 ∧ c.2.1 = 0 ∧ c.2.2 = 2 ∧ k = 1) ∨ (c.1 = 5 ∧ c.2.1 = 0 ∧ c.2.2 = 3 ∧ k = 1) ∨ (c.1 = 33 ∧ c.2.1 = 0 ∧ c.2.2 = 3) ∨ (c.1 = 33 ∧ c.2.1 = 0 ∧ c.2.2 = 2) ∨ (c.1 = 44 ∧ c.2.1 = 0) ∨ False
def SP_X11_learn (v : Int32) (u : Int32) (t : Int32) (Mz : mM) (r_ : Int32) (M_ : mM) : Prop := (((SP_X11_isBits v Mz (1 : Int32)) ∧ (0 ≤ v.toInt ∧ v.toInt ≤ 31) ∧ (((SP_X11_isBits u Mz (1 : Int32)) ∧ (0 ≤ u.toInt ∧ u.toInt ≤ 31) ∧ (((-2 ≤ t.toInt) ∧ ∃ M15_ : mM, (Inv M15_) ∧ (FR (S_c_X3_findRow 0) Mz M15_) ∧ ∃ r14_ : Int32, (SP_X3_findRow 0 v u Mz r14_ M15_) ∧ ((0 ≤ r14_.toInt ∧ r14_.toInt ≤ 1)) ∧ (((¬ r14_.toInt = 0) ∧ (((¬ t.toInt = -1) ∧ (((¬ t.toInt = -2) ∧ ∃ z25_ : Int32, (z25_ = M15_.1 (5, 0, 3) 1) ∧ (((z25_.toInt ≤ t.toInt) ∧ ∃ M29_ : mM, (Inv M29_) ∧ (FR (S_c_X11_error) M15_ M29_) ∧ ∃ r28_ : Int32, (SP_X11_error 2 M15_ r28_ M29_) ∧ r_ = r28_ ∧ M_ = M29_) ∨ ((t.toInt < z25_.toInt) ∧ ∃ r36_ : Int32, (SP_X5_get 0 3 t M15_ r36_) ∧ r_ = r36_ ∧ M_ = M15_))) ∨ ((t.toInt = -2) ∧ ∃ z41_ : Int32, (z41_ = M15_.1 (5, 0, 3) 1) ∧ r_ = z41_ ∧ M_ = M15_))) ∨ ((t.toInt = -1) ∧ ∃ z43_ : Int32, (z43_ = M15_.1 (3, 0, 0) 7) ∧ r_ = z43_ ∧ M_ = M15_))) ∨ ((r14_.toInt = 0) ∧ ∃ M46_ : mM, (Inv M46_) ∧ (FR (S_c_X11_error) M15_ M46_) ∧ ∃ r45_ : Int32, (SP_X11_error 2 M15_ r45_ M46_) ∧ r_ = r45_ ∧ M_ = M46_))) ∨ ((t.toInt < -2) ∧ ∃ M54_ : mM, (Inv M54_) ∧ (FR (S_c_X11_error) Mz M54_) ∧ ∃ r53_ : Int32, (SP_X11_error 1 Mz r53_ M54_) ∧ r_ = r53_ ∧ M_ = M54_))) ∨ ((SP_X11_isBits u Mz (0 : Int32)) ∧ (¬ (0 ≤ u.toInt ∧ u.toInt ≤ 31)) ∧ ∃ M63_ : mM, (Inv M63_) ∧ (FR (S_c_X11_error) Mz M63_) ∧ ∃ r62_ : Int32, (SP_X11_error 1 Mz r62_ M63_) ∧ r_ = r62_ ∧ M_ = M63_))) ∨ ((SP_X11_isBits v Mz (0 : Int32)) ∧ (¬ (0 ≤ v.toInt ∧ v.toInt ≤ 31)) ∧ ∃ M72_ : mM, (Inv M72_) ∧ (FR (S_c_X11_error) Mz M72_) ∧ ∃ r71_ : Int32, (SP_X11_error 1 Mz r71_ M72_) ∧ r_ = r71_ ∧ M_ = M72_))
set_option maxHeartbeats 4000000 in
set_option maxRecDepth 100000 in
theorem c_X11_learn (l : Launch) (G : va_G) (cy : Nat → ClassId) (ad : rf → Nat) (d : Nat) (v : Int32) (u : Int32) (t : Int32) (Mz : mM) (hIz : Inv Mz) : WP CC l G cy ad yX11_learn cX11_learn 5 (some .int) (d + 18) 0 [(0, vR (11, 0, 0)), (1, vI v), (2, vI u), (3, vI t)] [] Mz (fun r M' => Inv M' ∧ FR (S_c_X11_learn) Mz M' ∧ (True) ∧ SP_X11_learn v u t Mz r M') := by
  have hFz : FR (S_c_X11_learn) Mz Mz := FR.self
  refine w_iload_n dX11_learn_0 rfl 1 rfl ?_
  refine w_callS (as := [vI v]) (rest := []) (c_X11_isBits l G cy ad (d + 16) v Mz hIz) kS_X11_isBits (by decide +kernel) (Nat.le_of_ble_eq_true rfl) m_1114 rfl rfl (by decide) (Nat.le_of_ble_eq_true rfl) dX11_learn_1 (fun r1_ M2_ q3_ => ?_)
  obtain ⟨rfl, h4_, hs5_⟩ := q3_
  rcases h4_ with ⟨rfl, h4_⟩ | ⟨rfl, h4_⟩
  · refine w_if_eq (tgt := 20) dX11_learn_4 (by decide) li_1 (fun h9 => (absurd h9 (by decide))) (fun h6_ => ?_)
    refine w_iload_n dX11_learn_7 rfl 2 rfl ?_
    refine w_callS (as := [vI u]) (rest := []) (c_X11_isBits l G cy ad (d + 16) u Mz hIz) kS_X11_isBits (by decide +kernel) (Nat.le_of_ble_eq_true rfl) m_1114 rfl rfl (by decide) (Nat.le_of_ble_eq_true rfl) dX11_learn_8 (fun r7_ M8_ q9_ => ?_)
    obtain ⟨rfl, h10_, hs11_⟩ := q9_
    rcases h10_ with ⟨rfl, h10_⟩ | ⟨rfl, h10_⟩
    · refine w_if_eq (tgt := 20) dX11_learn_11 (by decide) li_1 (fun h9 => (absurd h9 (by decide))) (fun h12_ => ?_)
      refine w_iload_n dX11_learn_14 rfl 3 rfl ?_
      refine w_bipush (v := (-2)) dX11_learn_15 (by decide) ?_
      refine w_icmp_ge (tgt := 26) dX11_learn_17 (by decide) (rfl : t.toInt = t.toInt) li_m2 (fun h13_ => ?_) (fun h13_ => ?_)
      · refine w_aload_n dX11_learn_26 rfl 0 rfl ?_
        refine w_getR (c' := (10, 0, 0)) fl_RX11_10 rfl rfl ic_11 dX11_learn_27 rfl ?_
        refine w_getR (c' := (3, 0, 0)) fl_RX11_313 rfl rfl (ic_10 (by decide)) dX11_learn_30 rfl ?_
        refine w_astore (ls' := [(4, vR (3, 0, 0)), (0, vR (11, 0, 0)), (1, vI v), (2, vI u), (3, vI t)]) dX11_learn_33 (by decide) rfl ?_
        refine w_aload dX11_learn_35 0 rfl ?_
        refine w_iload_n dX11_learn_37 rfl 2 rfl ?_
        refine w_iload_n dX11_learn_38 rfl 3 rfl ?_
        refine w_callV (as := [vI v, vI u]) (rest := []) (c_X3_findRow l G cy ad d 0 v u Mz hIz (by first | decide | (unfold vF; omega) | (unfold vRw; omega))) kV_X3_findRow (by decide +kernel) (Nat.le_of_ble_eq_true rfl) m_1129 rfl rfl rfl (ic_3 (by decide)) rfl rfl (by decide) (Nat.le_of_ble_eq_true rfl) dX11_learn_39 (fun r14_ M15_ q16_ => ?_)
        obtain ⟨hI18_, hF19_, h17_, hs21_⟩ := q16_
        have hF20_ := hFz.tr hF19_ (fun c k => (fun h => h.elim (fun h => (Or.inl ⟨h.1, h.2.1, h.2.2⟩)) (fun h => h.elim (fun h => (Or.inr (Or.inl ⟨h.1, h.2.1, h.2.2⟩))) (fun h => h.elim (fun h => (Or.inr (Or.inr (Or.inl ⟨h.1, h.2.1, h.2.2⟩)))) (fun h => h.elim (fun h => (Or.inr (Or.inr (Or.inr (Or.inl ⟨h.1, h.2.1, h.2.2.1, h.2.2.2⟩))))) (fun h => h.elim (fun h => (Or.inr (Or.inr (Or.inr (Or.inr (Or.inl ⟨h.1, h.2.1, h.2.2.1, h.2.2.2⟩)))))) (fun h => h.elim (fun h => (Or.inr (Or.inr (Or.inr (Or.inr (Or.inr (Or.inl ⟨h.1, h.2.1, h.2.2⟩))))))) (fun h => h.elim (fun h => (Or.inr (Or.inr (Or.inr (Or.inr (Or.inr (Or.inr (Or.inl ⟨h.1, h.2.1, h.2.2⟩)))))))) (fun h => h.elim)))))))))
        refine w_if_ne (tgt := 51) dX11_learn_42 (by decide) (rfl : r14_.toInt = r14_.toInt) (fun h22_ => ?_) (fun h22_ => ?_)
        · refine w_iload_n dX11_learn_51 rfl 4 rfl ?_
          refine w_iconst (v := (-1)) dX11_learn_52 (by decide) ?_
          refine w_icmp_ne (tgt := 62) dX11_learn_53 (by decide) (rfl : t.toInt = t.toInt) li_m1 (fun h23_ => ?_) (fun h23_ => ?_)
          · refine w_iload_n dX11_learn_62 rfl 4 rfl ?_
            refine w_bipush (v := (-2)) dX11_learn_63 (by decide) ?_
            refine w_icmp_ne (tgt := 77) dX11_learn_65 (by decide) (rfl : t.toInt = t.toInt) li_m2 (fun h24_ => ?_) (fun h24_ => ?_)
            · refine w_iload_n dX11_learn_77 rfl 4 rfl ?_
              refine w_aload dX11_learn_78 0 rfl ?_
              refine w_getR (c' := (5, 0, 3)) fl_RX11_328 rfl rfl (ic_3 (by decide)) dX11_learn_80 rfl ?_
              refine w_getI fl_RX11_205 rfl rfl (ic_5 (by unfold vRw; omega)) dX11_learn_83 (fun z25_ e26_ => ?_)
              refine w_icmp_ge (tgt := 101) dX11_learn_86 (by decide) (rfl : t.toInt = t.toInt) (rfl : z25_.toInt = z25_.toInt) (fun h27_ => ?_) (fun h27_ => ?_)
              · refine w_aload_n dX11_learn_101 rfl 1 rfl ?_
                refine w_iconst (v := 2) dX11_learn_102 (by decide) ?_
                refine w_callV (as := [vI 2]) (rest := []) (c_X11_error l G cy ad (d + 17) 2 M15_ hI18_) kV_X11_error (by decide +kernel) (Nat.le_of_ble_eq_true rfl) m_500 rfl rfl rfl ic_11 rfl rfl (by decide) (Nat.le_of_ble_eq_true rfl) dX11_learn_103 (fun r28_ M29_ q30_ => ?_)
                obtain ⟨hI32_, hF33_, h31_, hs35_⟩ := q30_
                have hF34_ := hF20_.tr hF33_ (fun c k => (fun h => h.elim (fun h => (Or.inr (Or.inr (Or.inr (Or.inr (Or.inr (Or.inr (Or.inr (Or.inl ⟨h.1, h.2⟩))))))))) (fun h => h.elim)))
                exact w_iret rfl dX11_learn_106 ⟨hI32_, hF34_, trivial, (Or.inl ⟨hs5_, h4_, (Or.inl ⟨hs11_, h10_, (Or.inl ⟨h13_, M15_, hI18_, hF19_, r14_, hs21_, h17_, (Or.inl ⟨h22_, (Or.inl ⟨h23_, (Or.inl ⟨h24_, z25_, e26_, (Or.inl ⟨h27_, M29_, hI32_, hF33_, r28_, hs35_, rfl, rfl⟩)⟩)⟩)⟩)⟩)⟩)⟩)⟩
              · refine w_aload dX11_learn_89 0 rfl ?_
                refine w_getR (c' := (5, 0, 3)) fl_RX11_328 rfl rfl (ic_3 (by decide)) dX11_learn_91 rfl ?_
                refine w_iload_n dX11_learn_94 rfl 4 rfl ?_
                refine w_callV (as := [vI t]) (rest := []) (c_X5_get l G cy ad (d + 17) 0 3 t M15_ hI18_ (by first | decide | (unfold vF; omega) | (unfold vRw; omega))) kV_X5_get (by decide +kernel) (Nat.le_of_ble_eq_true rfl) m_1154 rfl rfl rfl (ic_5 (by unfold vRw; omega)) rfl rfl (by decide) (Nat.le_of_ble_eq_true rfl) dX11_learn_95 (fun r36_ M37_ q38_ => ?_)
                obtain ⟨rfl, h39_, hs40_⟩ := q38_
                refine w_goto (tgt := 106) dX11_learn_98 (by decide) ?_
                exact w_iret rfl dX11_learn_106 ⟨hI18_, hF20_, trivial, (Or.inl ⟨hs5_, h4_, (Or.inl ⟨hs11_, h10_, (Or.inl ⟨h13_, M15_, hI18_, hF19_, r14_, hs21_, h17_, (Or.inl ⟨h22_, (Or.inl ⟨h23_, (Or.inl ⟨h24_, z25_, e26_, (Or.inr ⟨h27_, r36_, hs40_, rfl, rfl⟩)⟩)⟩)⟩)⟩)⟩)⟩)⟩
            · refine w_aload dX11_learn_68 0 rfl ?_
              refine w_getR (c' := (5, 0, 3)) fl_RX11_328 rfl rfl (ic_3 (by decide)) dX11_learn_70 rfl ?_
              refine w_getI fl_RX11_205 rfl rfl (ic_5 (by unfold vRw; omega)) dX11_learn_73 (fun z41_ e42_ => ?_)
              exact w_iret rfl dX11_learn_76 ⟨hI18_, hF20_, trivial, (Or.inl ⟨hs5_, h4_, (Or.inl ⟨hs11_, h10_, (Or.inl ⟨h13_, M15_, hI18_, hF19_, r14_, hs21_, h17_, (Or.inl ⟨h22_, (Or.inl ⟨h23_, (Or.inr ⟨h24_, z41_, e42_, rfl, rfl⟩)⟩)⟩)⟩)⟩)⟩)⟩
          · refine w_aload dX11_learn_56 0 rfl ?_
            refine w_getI fl_RX11_325 rfl rfl (ic_3 (by decide)) dX11_learn_58 (fun z43_ e44_ => ?_)
            exact w_iret rfl dX11_learn_61 ⟨hI18_, hF20_, trivial, (Or.inl ⟨hs5_, h4_, (Or.inl ⟨hs11_, h10_, (Or.inl ⟨h13_, M15_, hI18_, hF19_, r14_, hs21_, h17_, (Or.inl ⟨h22_, (Or.inr ⟨h23_, z43_, e44_, rfl, rfl⟩)⟩)⟩)⟩)⟩)⟩
        · refine w_aload_n dX11_learn_45 rfl 1 rfl ?_
          refine w_iconst (v := 2) dX11_learn_46 (by decide) ?_
          refine w_callV (as := [vI 2]) (rest := []) (c_X11_error l G cy ad (d + 17) 2 M15_ hI18_) kV_X11_error (by decide +kernel) (Nat.le_of_ble_eq_true rfl) m_500 rfl rfl rfl ic_11 rfl rfl (by decide) (Nat.le_of_ble_eq_true rfl) dX11_learn_47 (fun r45_ M46_ q47_ => ?_)
          obtain ⟨hI49_, hF50_, h48_, hs52_⟩ := q47_
          have hF51_ := hF20_.tr hF50_ (fun c k => (fun h => h.elim (fun h => (Or.inr (Or.inr (Or.inr (Or.inr (Or.inr (Or.inr (Or.inr (Or.inl ⟨h.1, h.2⟩))))))))) (fun h => h.elim)))
          exact w_iret rfl dX11_learn_50 ⟨hI49_, hF51_, trivial, (Or.inl ⟨hs5_, h4_, (Or.inl ⟨hs11_, h10_, (Or.inl ⟨h13_, M15_, hI18_, hF19_, r14_, hs21_, h17_, (Or.inr ⟨h22_, M46_, hI49_, hF50_, r45_, hs52_, rfl, rfl⟩)⟩)⟩)⟩)⟩
      · refine w_aload_n dX11_learn_20 rfl 0 rfl ?_
        refine w_iconst (v := 1) dX11_learn_21 (by decide) ?_
        refine w_callV (as := [vI 1]) (rest := []) (c_X11_error l G cy ad (d + 17) 1 Mz hIz) kV_X11_error (by decide +kernel) (Nat.le_of_ble_eq_true rfl) m_500 rfl rfl rfl ic_11 rfl rfl (by decide) (Nat.le_of_ble_eq_true rfl) dX11_learn_22 (fun r53_ M54_ q55_ => ?_)
        obtain ⟨hI57_, hF58_, h56_, hs60_⟩ := q55_
        have hF59_ := hFz.tr hF58_ (fun c k => (fun h => h.elim (fun h => (Or.inr (Or.inr (Or.inr (Or.inr (Or.inr (Or.inr (Or.inr (Or.inl ⟨h.1, h.2⟩))))))))) (fun h => h.elim)))
        exact w_iret rfl dX11_learn_25 ⟨hI57_, hF59_, trivial, (Or.inl ⟨hs5_, h4_, (Or.inl ⟨hs11_, h10_, (Or.inr ⟨h13_, M54_, hI57_, hF58_, r53_, hs60_, rfl, rfl⟩)⟩)⟩)⟩
    · refine w_if_eq (tgt := 20) dX11_learn_11 (by decide) li_0 (fun h61_ => ?_) (fun h9 => (absurd h9 (by decide)))
      refine w_aload_n dX11_learn_20 rfl 0 rfl ?_
      refine w_iconst (v := 1) dX11_learn_21 (by decide) ?_
      refine w_callV (as := [vI 1]) (rest := []) (c_X11_error l G cy ad (d + 17) 1 Mz hIz) kV_X11_error (by decide +kernel) (Nat.le_of_ble_eq_true rfl) m_500 rfl rfl rfl ic_11 rfl rfl (by decide) (Nat.le_of_ble_eq_true rfl) dX11_learn_22 (fun r62_ M63_ q64_ => ?_)
      obtain ⟨hI66_, hF67_, h65_, hs69_⟩ := q64_
      have hF68_ := hFz.tr hF67_ (fun c k => (fun h => h.elim (fun h => (Or.inr (Or.inr (Or.inr (Or.inr (Or.inr (Or.inr (Or.inr (Or.inl ⟨h.1, h.2⟩))))))))) (fun h => h.elim)))
      exact w_iret rfl dX11_learn_25 ⟨hI66_, hF68_, trivial, (Or.inl ⟨hs5_, h4_, (Or.inr ⟨hs11_, h10_, M63_, hI66_, hF67_, r62_, hs69_, rfl, rfl⟩)⟩)⟩
  · refine w_if_eq (tgt := 20) dX11_learn_4 (by decide) li_0 (fun h70_ => ?_) (fun h9 => (absurd h9 (by decide)))
    refine w_aload_n dX11_learn_20 rfl 0 rfl ?_
    refine w_iconst (v := 1) dX11_learn_21 (by decide) ?_
    refine w_callV (as := [vI 1]) (rest := []) (c_X11_error l G cy ad (d + 17) 1 Mz hIz) kV_X11_error (by decide +kernel) (Nat.le_of_ble_eq_true rfl) m_500 rfl rfl rfl ic_11 rfl rfl (by decide) (Nat.le_of_ble_eq_true rfl) dX11_learn_22 (fun r71_ M72_ q73_ => ?_)
    obtain ⟨hI75_, hF76_, h74_, hs78_⟩ := q73_
    have hF77_ := hFz.tr hF76_ (fun c k => (fun h => h.elim (fun h => (Or.inr (Or.inr (Or.inr (Or.inr (Or.inr (Or.inr (Or.inr (Or.inl ⟨h.1, h.2⟩))))))))) (fun h => h.elim)))
    exact w_iret rfl dX11_learn_25 ⟨hI75_, hF77_, trivial, (Or.inr ⟨hs5_, h4_, M72_, hI75_, hF76_, r71_, hs78_, rfl, rfl⟩)⟩
