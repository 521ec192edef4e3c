def S_c_X11_feed : rf → Nat → Prop := fun c k => (c.1 = 33 ∧ c.2.1 = 0 ∧ c.2.2 = 0) ∨ (c.1 = 5 ∧ c.2.1 = 0 ∧ c.2.2 = 0 ∧ k = 1) ∨ (c.1 = 44 ∧ c.2.1 = 0) ∨ False
theorem lf_c_X11_feed_0  (u : Int32) (r6_ : Int32) (v4_39 : Int32) (h4_ : 1 ≤ u.toInt ∧ u.toInt ≤ 8) (h10_ : u.toInt ≤ r6_.toInt) (hv0_39 : 0 ≤ v4_39.toInt) (h12_ : v4_39.toInt < u.toInt) : -2147483648 ≤ 8 * v4_39.toInt ∧ 8 * v4_39.toInt < 2147483648 := by have r_u := rngI u; have r_r6_ := rngI r6_; have r_v4_39 := rngI v4_39; omega
theorem lf_c_X11_feed_1  (u : Int32) (r6_ : Int32) (v4_39 : Int32) (z15_ : Int32) (h4_ : 1 ≤ u.toInt ∧ u.toInt ≤ 8) (h10_ : u.toInt ≤ r6_.toInt) (hv0_39 : 0 ≤ v4_39.toInt) (h12_ : v4_39.toInt < u.toInt) (h16_ : z15_.toInt = 8 * v4_39.toInt) : -2147483648 ≤ v4_39.toInt + 1 ∧ v4_39.toInt + 1 < 2147483648 := by have r_u := rngI u; have r_r6_ := rngI r6_; have r_v4_39 := rngI v4_39; have r_z15_ := rngI z15_; omega
theorem lf_c_X11_feed_2  (u : Int32) (r6_ : Int32) (v4_39 : Int32) (z15_ : Int32) (z28_ : Int32) (h4_ : 1 ≤ u.toInt ∧ u.toInt ≤ 8) (h10_ : u.toInt ≤ r6_.toInt) (hv0_39 : 0 ≤ v4_39.toInt) (h12_ : v4_39.toInt < u.toInt) (h16_ : z15_.toInt = 8 * v4_39.toInt) (h29_ : z28_.toInt = v4_39.toInt + 1) : 0 ≤ z28_.toInt := by have r_u := rngI u; have r_r6_ := rngI r6_; have r_v4_39 := rngI v4_39; have r_z15_ := rngI z15_; have r_z28_ := rngI z28_; omega
theorem lf_c_X11_feed_3  (u : Int32) (r6_ : Int32) (v4_39 : Int32) (z15_ : Int32) (z28_ : Int32) (h4_ : 1 ≤ u.toInt ∧ u.toInt ≤ 8) (h10_ : u.toInt ≤ r6_.toInt) (hv0_39 : 0 ≤ v4_39.toInt) (h12_ : v4_39.toInt < u.toInt) (h16_ : z15_.toInt = 8 * v4_39.toInt) (h29_ : z28_.toInt = v4_39.toInt + 1) : (2147483648 - z28_.toInt).toNat < (2147483648 - v4_39.toInt).toNat := by have r_u := rngI u; have r_r6_ := rngI r6_; have r_v4_39 := rngI v4_39; have r_z15_ := rngI z15_; have r_z28_ := rngI z28_; omega
theorem lf_c_X11_feed_4    : 0 ≤ (0 : Int32).toInt := by have q0 := li_0; omega
set_option maxHeartbeats 4000000 in
set_option maxRecDepth 100000 in
theorem c_X11_feed (l : Launch) (G : va_G) (cy : Nat → ClassId) (ad : rf → Nat) (d : Nat) (v : Int64) (u : Int32) (Mz : mM) (hIz : Inv Mz) : WP CC l G cy ad yX11_feed cX11_feed 5 (some .int) (d + 1) 0 [(0, vR (11, 0, 0)), (1, vL v), (3, vI u)] [] Mz (fun r M' => Inv M' ∧ FR (S_c_X11_feed) Mz M' ∧ True) := by
  have hFz : FR (S_c_X11_feed) Mz Mz := FR.self
  refine w_iload_n dX11_feed_0 rfl 2 rfl ?_
  refine w_iconst (v := 1) dX11_feed_1 (by decide) ?_
  refine w_bipush (v := 8) dX11_feed_2 (by decide) ?_
  refine w_callS (as := [vI u, vI 1, vI 8]) (rest := []) (c_X11_within l G cy ad d u 1 8 Mz hIz) kS_X11_within (by decide +kernel) (Nat.le_of_ble_eq_true rfl) m_494 rfl rfl (by decide) (Nat.le_of_ble_eq_true rfl) dX11_feed_4 (fun r1_ M2_ q3_ => ?_)
  obtain ⟨rfl, h4_⟩ := q3_
  rcases h4_ with ⟨rfl, h4_⟩ | ⟨rfl, h4_⟩
  · simp only [li_1, li_8] at h4_
    refine w_if_ne (tgt := 16) dX11_feed_7 (by decide) li_1 (fun h5_ => ?_) (fun h9 => (absurd h9 (by decide)))
    refine w_aload_n dX11_feed_16 rfl 0 rfl ?_
    refine w_getR (c' := (10, 0, 0)) fl_RX11_10 rfl rfl ic_11 dX11_feed_17 rfl ?_
    refine w_getR (c' := (5, 0, 0)) fl_RX11_192 rfl rfl (ic_10 (by decide)) dX11_feed_20 rfl ?_
    refine w_callV (as := []) (rest := []) (c_X5_room l G cy ad d 0 0 Mz hIz (by first | decide | (unfold vF; omega) | (unfold vRw; omega))) kV_X5_room (by decide +kernel) (Nat.le_of_ble_eq_true rfl) m_669 rfl rfl rfl (ic_5 (by unfold vRw; omega)) rfl rfl (by decide) (Nat.le_of_ble_eq_true rfl) dX11_feed_23 (fun r6_ M7_ q8_ => ?_)
    obtain ⟨rfl, h9_⟩ := q8_
    refine w_iload_n dX11_feed_26 rfl 2 rfl ?_
    refine w_icmp_ge (tgt := 36) dX11_feed_27 (by decide) (rfl : r6_.toInt = r6_.toInt) (rfl : u.toInt = u.toInt) (fun h10_ => ?_) (fun h10_ => ?_)
    · refine w_iconst (v := 0) dX11_feed_36 (by decide) ?_
      refine w_istore (ls' := [(4, vI 0), (0, vR (11, 0, 0)), (1, vL v), (3, vI u)]) dX11_feed_37 (by decide) rfl ?_
      have lp11_ : ∀ (nn_39 : Nat) (M_39 : mM) (hI_39 : Inv M_39) (hF_39 : FR (S_c_X11_feed) Mz M_39) (v4_39 : Int32) (hv0_39 : 0 ≤ v4_39.toInt), (2147483648 - v4_39.toInt).toNat < nn_39 → WP CC l G cy ad yX11_feed cX11_feed 5 (some .int) (d + 1) 39 [(4, vI v4_39), (0, vR (11, 0, 0)), (1, vL v), (3, vI u)] [] M_39 (fun r M' => Inv M' ∧ FR (S_c_X11_feed) Mz M' ∧ True) := by
        intro nn_39
        induction nn_39 with
        | zero => intro M_39 hI_39 hF_39 v4_39 hv0_39 hm_39; exact absurd hm_39 (Nat.not_lt_zero _)
        | succ nn_39 ih_39 =>
          intro M_39 hI_39 hF_39 v4_39 hv0_39 hm_39
          refine w_iload dX11_feed_39 0 rfl ?_
          refine w_iload_n dX11_feed_41 rfl 3 rfl ?_
          refine w_icmp_ge (tgt := 73) dX11_feed_42 (by decide) (rfl : v4_39.toInt = v4_39.toInt) (rfl : u.toInt = u.toInt) (fun h12_ => ?_) (fun h12_ => ?_)
          · refine w_aload_n dX11_feed_73 rfl 1 rfl ?_
            refine w_getR (c' := (10, 0, 0)) fl_RX11_10 rfl rfl ic_11 dX11_feed_74 rfl ?_
            refine w_getR (c' := (5, 0, 0)) fl_RX11_192 rfl rfl (ic_10 (by decide)) dX11_feed_77 rfl ?_
            refine w_getI fl_RX11_205 rfl rfl (ic_5 (by unfold vRw; omega)) dX11_feed_80 (fun z13_ e14_ => ?_)
            exact w_iret rfl dX11_feed_83 ⟨hI_39, hF_39, trivial⟩
          · refine w_aload_n dX11_feed_45 rfl 1 rfl ?_
            refine w_getR (c' := (10, 0, 0)) fl_RX11_10 rfl rfl ic_11 dX11_feed_46 rfl ?_
            refine w_getR (c' := (5, 0, 0)) fl_RX11_192 rfl rfl (ic_10 (by decide)) dX11_feed_49 rfl ?_
            refine w_lload_n dX11_feed_52 rfl 2 rfl ?_
            refine w_bipush (v := 8) dX11_feed_53 (by decide) ?_
            refine w_iload dX11_feed_55 0 rfl ?_
            refine w_imulB dX11_feed_57 li_8 (rfl : v4_39.toInt = v4_39.toInt) (lf_c_X11_feed_0 u r6_ v4_39 h4_ h10_ hv0_39 h12_) (fun z15_ h16_ => ?_)
            refine w_lushr dX11_feed_58 (fun w17_ _ => ?_)
            refine w_l2i dX11_feed_59 (fun z18_ h19_ => ?_)
            refine w_sipush (v := 255) dX11_feed_60 (by decide) ?_
            refine w_iandB 8 dX11_feed_63 (by decide) (by decide) (fun z20_ h21_ => ?_)
            refine w_callVv (as := [vI z20_]) (rest := []) (c_X5_add l G cy ad d 0 0 z20_ M_39 hI_39 (by first | decide | (unfold vF; omega) | (unfold vRw; omega))) kV_X5_add (by decide +kernel) (Nat.le_of_ble_eq_true rfl) m_673 rfl rfl rfl (ic_5 (by unfold vRw; omega)) rfl rfl (by decide) (Nat.le_of_ble_eq_true rfl) dX11_feed_64 (fun M22_ q23_ => ?_)
            obtain ⟨hI25_, hF26_, h24_⟩ := q23_
            have hF27_ := hF_39.tr hF26_ (fun c k => (fun h => h.elim (fun h => (Or.inl ⟨h.1, h.2.1, h.2.2⟩)) (fun h => h.elim (fun h => (Or.inr (Or.inl ⟨h.1, h.2.1, h.2.2.1, h.2.2.2⟩))) (fun h => h.elim))))
            refine w_iincB (j := 0) (f := fun z28_ => [(4, vI z28_), (0, vR (11, 0, 0)), (1, vL v), (3, vI u)]) dX11_feed_67 rfl (by decide) (fun _ => rfl) (rfl : v4_39.toInt = v4_39.toInt) li_1 (lf_c_X11_feed_1 u r6_ v4_39 z15_ h4_ h10_ hv0_39 h12_ h16_) (fun z28_ h29_ => ?_)
            refine w_goto (tgt := 39) dX11_feed_70 (by decide) ?_
            refine w_loc (ls' := [(4, vI z28_), (0, vR (11, 0, 0)), (1, vL v), (3, vI u)]) [0, 1, 2, 3] rfl ?_
            exact ih_39 M22_ hI25_ hF27_ z28_ (lf_c_X11_feed_2 u r6_ v4_39 z15_ z28_ h4_ h10_ hv0_39 h12_ h16_ h29_) (Nat.lt_of_lt_of_le (lf_c_X11_feed_3 u r6_ v4_39 z15_ z28_ h4_ h10_ hv0_39 h12_ h16_ h29_) (Nat.le_of_lt_succ hm_39))
      exact lp11_ _ Mz hIz hFz 0 (lf_c_X11_feed_4 ) (Nat.lt_succ_self _)
    · refine w_aload_n dX11_feed_30 rfl 0 rfl ?_
      refine w_iconst (v := 4) dX11_feed_31 (by decide) ?_
      refine w_callV (as := [vI 4]) (rest := []) (c_X11_error l G cy ad d 4 Mz hIz) kV_X11_error (by decide +kernel) (Nat.le_of_ble_eq_true rfl) m_500 rfl rfl rfl ic_11 rfl rfl (by decide) (Nat.le_of_ble_eq_true rfl) dX11_feed_32 (fun r30_ M31_ q32_ => ?_)
      obtain ⟨hI34_, hF35_, h33_⟩ := q32_
      have hF36_ := hFz.tr hF35_ (fun c k => (fun h => h.elim (fun h => (Or.inr (Or.inr (Or.inl ⟨h.1, h.2⟩)))) (fun h => h.elim)))
      exact w_iret rfl dX11_feed_35 ⟨hI34_, hF36_, trivial⟩
  · simp only [li_1, li_8] at h4_
    refine w_if_ne (tgt := 16) dX11_feed_7 (by decide) li_0 (fun h9 => (absurd h9 (by decide))) (fun h37_ => ?_)
    refine w_aload_n dX11_feed_10 rfl 0 rfl ?_
    refine w_iconst (v := 1) dX11_feed_11 (by decide) ?_
    refine w_callV (as := [vI 1]) (rest := []) (c_X11_error l G cy ad d 1 Mz hIz) kV_X11_error (by decide +kernel) (Nat.le_of_ble_eq_true rfl) m_500 rfl rfl rfl ic_11 rfl rfl (by decide) (Nat.le_of_ble_eq_true rfl) dX11_feed_12 (fun r38_ M39_ q40_ => ?_)
    obtain ⟨hI42_, hF43_, h41_⟩ := q40_
    have hF44_ := hFz.tr hF43_ (fun c k => (fun h => h.elim (fun h => (Or.inr (Or.inr (Or.inl ⟨h.1, h.2⟩)))) (fun h => h.elim)))
    exact w_iret rfl dX11_feed_15 ⟨hI42_, hF44_, trivial⟩
def S_c_X11_spots : rf → Nat → Prop := fun c k => (c.1 = 44 ∧ c.2.1 = 0) ∨ (c.1 = 0 ∧ c.2.1 = 0 ∧ k = 4) ∨ (c.1 = 0 ∧ c.2.1 = 0 ∧ k = 5) ∨ (c.1 = 29 ∧ c.2.1 = 0 ∧ k = 0) ∨ (c.1 = 29 ∧ c.2.1 = 0 ∧ k = 1) ∨ (c.1 = 29 ∧ c.2.1 = 0 ∧ k = 2) ∨ (c.1 = 29 ∧ c.2.1 = 0 ∧ k = 3) ∨ (c.1 = 25 ∧ c.2.1 = 0 ∧ c.2.2 = 0) ∨ (c.1 = 25 ∧ c.2.1 = 0 ∧ c.2.2 = 1) ∨ False
theorem lf_c_X11_spots_0  (u : Int32) (h9_ : 0 ≤ u.toInt ∧ u.toInt ≤ 3) : 0 ≤ u.toInt ∧ u.toInt < ((4 : Nat) : Int) := by have r_u := rngI u; omega
theorem lf_c_X11_spots_1  (u : Int32) (j21_ : Nat) (h9_ : 0 ≤ u.toInt ∧ u.toInt ≤ 3) (h22_ : (j21_ : Int) = u.toInt) (h23_ : j21_ < 4) : 0 ≤ u.toInt ∧ u.toInt < ((4 : Nat) : Int) := by have r_u := rngI u; omega
theorem lf_c_X11_spots_2  (u : Int32) (j21_ : Nat) (j29_ : Nat) (h9_ : 0 ≤ u.toInt ∧ u.toInt ≤ 3) (h22_ : (j21_ : Int) = u.toInt) (h23_ : j21_ < 4) (h30_ : (j29_ : Int) = u.toInt) (h31_ : j29_ < 4) : 0 ≤ u.toInt ∧ u.toInt < ((4 : Nat) : Int) := by have r_u := rngI u; omega
theorem lf_c_X11_spots_3  (u : Int32) (j21_ : Nat) (j29_ : Nat) (j44_ : Nat) (h9_ : 0 ≤ u.toInt ∧ u.toInt ≤ 3) (h22_ : (j21_ : Int) = u.toInt) (h23_ : j21_ < 4) (h30_ : (j29_ : Int) = u.toInt) (h31_ : j29_ < 4) (h45_ : (j44_ : Int) = u.toInt) (h46_ : j44_ < 4) : 0 ≤ u.toInt ∧ u.toInt < ((4 : Nat) : Int) := by have r_u := rngI u; omega
set_option maxHeartbeats 4000000 in
set_option maxRecDepth 100000 in
theorem c_X11_spots (l : Launch) (G : va_G) (cy : Nat → ClassId) (ad : rf → Nat) (d : Nat) (v : Int32) (u : Int32) (t : Int32) (s : Int32) (Mz : mM) (hIz : Inv Mz) : WP CC l G cy ad yX11_spots cX11_spots 5 (some .int) (d + 6) 0 [(0, vR (11, 0, 0)), (1, vI v), (2, vI u), (3, vI t), (4, vI s)] [] Mz (fun r M' => Inv M' ∧ FR (S_c_X11_spots) Mz M' ∧ True) := by
  have hFz : FR (S_c_X11_spots) Mz Mz := FR.self
  refine w_aload_n dX11_spots_0 rfl 0 rfl ?_
  refine w_getR (c' := (10, 0, 0)) fl_RX11_10 rfl rfl ic_11 dX11_spots_1 rfl ?_
  refine w_iload_n dX11_spots_4 rfl 1 rfl ?_
  refine w_callV (as := [vI v]) (rest := []) (c_X10_hasWalker l G cy ad (d + 5) 0 v Mz hIz (by first | decide | (unfold vF; omega) | (unfold vRw; omega))) kV_X10_hasWalker (by decide +kernel) (Nat.le_of_ble_eq_true rfl) m_609 rfl rfl rfl (ic_10 (by decide)) rfl rfl (by decide) (Nat.le_of_ble_eq_true rfl) dX11_spots_5 (fun r1_ M2_ q3_ => ?_)
  obtain ⟨rfl, h4_⟩ := q3_
  rcases h4_ with ⟨rfl, h4_⟩ | rfl
  · refine w_if_eq (tgt := 37) dX11_spots_8 (by decide) li_1 (fun h9 => (absurd h9 (by decide))) (fun h5_ => ?_)
    refine w_iload_n dX11_spots_11 rfl 2 rfl ?_
    refine w_callS (as := [vI u]) (rest := []) (c_X11_isSheet l G cy ad (d + 4) u Mz hIz) kS_X11_isSheet (by decide +kernel) (Nat.le_of_ble_eq_true rfl) m_566 rfl rfl (by decide) (Nat.le_of_ble_eq_true rfl) dX11_spots_12 (fun r6_ M7_ q8_ => ?_)
    obtain ⟨rfl, h9_⟩ := q8_
    rcases h9_ with ⟨rfl, h9_⟩ | ⟨rfl, h9_⟩
    · refine w_if_eq (tgt := 37) dX11_spots_15 (by decide) li_1 (fun h9 => (absurd h9 (by decide))) (fun h10_ => ?_)
      refine w_iload_n dX11_spots_18 rfl 3 rfl ?_
      refine w_iconst (v := 1) dX11_spots_19 (by decide) ?_
      refine w_iconst (v := 3) dX11_spots_20 (by decide) ?_
      refine w_callS (as := [vI t, vI 1, vI 3]) (rest := []) (c_X11_within l G cy ad (d + 5) t 1 3 Mz hIz) kS_X11_within (by decide +kernel) (Nat.le_of_ble_eq_true rfl) m_494 rfl rfl (by decide) (Nat.le_of_ble_eq_true rfl) dX11_spots_21 (fun r11_ M12_ q13_ => ?_)
      obtain ⟨rfl, h14_⟩ := q13_
      rcases h14_ with ⟨rfl, h14_⟩ | ⟨rfl, h14_⟩
      · simp only [li_1, li_3] at h14_
        refine w_if_eq (tgt := 37) dX11_spots_24 (by decide) li_1 (fun h9 => (absurd h9 (by decide))) (fun h15_ => ?_)
        refine w_iload dX11_spots_27 4 rfl ?_
        refine w_iconst (v := 0) dX11_spots_29 (by decide) ?_
        refine w_iconst (v := 1) dX11_spots_30 (by decide) ?_
        refine w_callS (as := [vI s, vI 0, vI 1]) (rest := []) (c_X11_within l G cy ad (d + 5) s 0 1 Mz hIz) kS_X11_within (by decide +kernel) (Nat.le_of_ble_eq_true rfl) m_494 rfl rfl (by decide) (Nat.le_of_ble_eq_true rfl) dX11_spots_31 (fun r16_ M17_ q18_ => ?_)
        obtain ⟨rfl, h19_⟩ := q18_
        rcases h19_ with ⟨rfl, h19_⟩ | ⟨rfl, h19_⟩
        · simp only [li_0, li_1] at h19_
          refine w_if_ne (tgt := 43) dX11_spots_34 (by decide) li_1 (fun h20_ => ?_) (fun h9 => (absurd h9 (by decide)))
          refine w_aload_n dX11_spots_43 rfl 0 rfl ?_
          refine w_getR (c' := (43, 0, 0)) fl_RX11_24 rfl rfl ic_11 dX11_spots_44 rfl ?_
          refine w_iload_n dX11_spots_47 rfl 2 rfl ?_
          refine w_aald rfl rfl rfl (fun _ => rfl) ic_43 (rfl : u.toInt = u.toInt) (lf_c_X11_spots_0 u h9_) dX11_spots_48 (fun j21_ h22_ h23_ => ?_)
          refine w_callV (as := []) (rest := []) (c_X6_isMissing l G cy ad (d + 5) j21_ Mz hIz h23_) kV_X6_isMissing (by decide +kernel) (Nat.le_of_ble_eq_true rfl) m_569 rfl rfl rfl (ic_6 h23_) rfl rfl (by decide) (Nat.le_of_ble_eq_true rfl) dX11_spots_49 (fun r24_ M25_ q26_ => ?_)
          obtain ⟨rfl, h27_⟩ := q26_
          refine w_if_eq (tgt := 61) dX11_spots_52 (by decide) (rfl : r24_.toInt = r24_.toInt) (fun h28_ => ?_) (fun h28_ => ?_)
          · refine w_aload_n dX11_spots_61 rfl 0 rfl ?_
            refine w_getR (c' := (43, 0, 0)) fl_RX11_24 rfl rfl ic_11 dX11_spots_62 rfl ?_
            refine w_iload_n dX11_spots_65 rfl 2 rfl ?_
            refine w_aald rfl rfl rfl (fun _ => rfl) ic_43 (rfl : u.toInt = u.toInt) (lf_c_X11_spots_1 u j21_ h9_ h22_ h23_) dX11_spots_66 (fun j29_ h30_ h31_ => ?_)
            refine w_callV (as := []) (rest := []) (c_X6_holdsFewCells l G cy ad (d + 3) j29_ Mz hIz h31_) kV_X6_holdsFewCells (by decide +kernel) (Nat.le_of_ble_eq_true rfl) m_978 rfl rfl rfl (ic_6 h31_) rfl rfl (by decide) (Nat.le_of_ble_eq_true rfl) dX11_spots_67 (fun r32_ M33_ q34_ => ?_)
            obtain ⟨rfl, h35_⟩ := q34_
            refine w_if_eq (tgt := 85) dX11_spots_70 (by decide) (rfl : r32_.toInt = r32_.toInt) (fun h36_ => ?_) (fun h36_ => ?_)
            · refine w_aload_n dX11_spots_85 rfl 0 rfl ?_
              refine w_iconst (v := 5) dX11_spots_86 (by decide) ?_
              refine w_callV (as := [vI 5]) (rest := []) (c_X11_error l G cy ad (d + 5) 5 Mz hIz) kV_X11_error (by decide +kernel) (Nat.le_of_ble_eq_true rfl) m_500 rfl rfl rfl ic_11 rfl rfl (by decide) (Nat.le_of_ble_eq_true rfl) dX11_spots_87 (fun r37_ M38_ q39_ => ?_)
              obtain ⟨hI41_, hF42_, h40_⟩ := q39_
              have hF43_ := hFz.tr hF42_ (fun c k => (fun h => h.elim (fun h => (Or.inl ⟨h.1, h.2⟩)) (fun h => h.elim)))
              exact w_iret rfl dX11_spots_90 ⟨hI41_, hF43_, trivial⟩
            · refine w_aload_n dX11_spots_73 rfl 0 rfl ?_
              refine w_getR (c' := (43, 0, 0)) fl_RX11_24 rfl rfl ic_11 dX11_spots_74 rfl ?_
              refine w_iload_n dX11_spots_77 rfl 2 rfl ?_
              refine w_aald rfl rfl rfl (fun _ => rfl) ic_43 (rfl : u.toInt = u.toInt) (lf_c_X11_spots_2 u j21_ j29_ h9_ h22_ h23_ h30_ h31_) dX11_spots_78 (fun j44_ h45_ h46_ => ?_)
              refine w_callV (as := []) (rest := []) (c_X6_hasTwoAlike l G cy ad (d + 3) j44_ Mz hIz h46_) kV_X6_hasTwoAlike (by decide +kernel) (Nat.le_of_ble_eq_true rfl) m_984 rfl rfl rfl (ic_6 h46_) rfl rfl (by decide) (Nat.le_of_ble_eq_true rfl) dX11_spots_79 (fun r47_ M48_ q49_ => ?_)
              obtain ⟨rfl, h50_⟩ := q49_
              refine w_if_eq (tgt := 91) dX11_spots_82 (by decide) (rfl : r47_.toInt = r47_.toInt) (fun h51_ => ?_) (fun h51_ => ?_)
              · refine w_aload_n dX11_spots_91 rfl 0 rfl ?_
                refine w_getR (c' := (0, 0, 0)) fl_RX11_42 rfl rfl ic_11 dX11_spots_92 rfl ?_
                refine w_aload_n dX11_spots_95 rfl 0 rfl ?_
                refine w_getR (c' := (10, 0, 0)) fl_RX11_10 rfl rfl ic_11 dX11_spots_96 rfl ?_
                refine w_iload_n dX11_spots_99 rfl 1 rfl ?_
                refine w_aload_n dX11_spots_100 rfl 0 rfl ?_
                refine w_getR (c' := (43, 0, 0)) fl_RX11_24 rfl rfl ic_11 dX11_spots_101 rfl ?_
                refine w_iload_n dX11_spots_104 rfl 2 rfl ?_
                refine w_aald rfl rfl rfl (fun _ => rfl) ic_43 (rfl : u.toInt = u.toInt) (lf_c_X11_spots_3 u j21_ j29_ j44_ h9_ h22_ h23_ h30_ h31_ h45_ h46_) dX11_spots_105 (fun j52_ h53_ h54_ => ?_)
                refine w_iload_n dX11_spots_106 rfl 3 rfl ?_
                refine w_callV (as := [vR (10, 0, 0), vI v, vR (6, 0, j52_), vI t]) (rest := []) (c_X0_chooseSpots l G cy ad d 0 j52_ v t Mz hIz (by first | decide | (unfold vF; omega) | (unfold vRw; omega)) h54_) kV_X0_chooseSpots (by decide +kernel) (Nat.le_of_ble_eq_true rfl) m_988 rfl rfl rfl ic_0 rfl rfl (by decide) (Nat.le_of_ble_eq_true rfl) dX11_spots_107 (fun r55_ M56_ q57_ => ?_)
                obtain ⟨hI59_, hF60_, h58_⟩ := q57_
                have hF61_ := hFz.tr hF60_ (fun c k => (fun h => h.elim (fun h => (Or.inr (Or.inl ⟨h.1, h.2.1, h.2.2⟩))) (fun h => h.elim (fun h => (Or.inr (Or.inr (Or.inl ⟨h.1, h.2.1, h.2.2⟩)))) (fun h => h.elim (fun h => (Or.inr (Or.inr (Or.inr (Or.inl ⟨h.1, h.2.1, h.2.2⟩))))) (fun h => h.elim (fun h => (Or.inr (Or.inr (Or.inr (Or.inr (Or.inl ⟨h.1, h.2.1, h.2.2⟩)))))) (fun h => h.elim (fun h => (Or.inr (Or.inr (Or.inr (Or.inr (Or.inr (Or.inl ⟨h.1, h.2.1, h.2.2⟩))))))) (fun h => h.elim (fun h => (Or.inr (Or.inr (Or.inr (Or.inr (Or.inr (Or.inr (Or.inl ⟨h.1, h.2.1, h.2.2⟩)))))))) (fun h => h.elim (fun h => (Or.inr (Or.inr (Or.inr (Or.inr (Or.inr (Or.inr (Or.inr (Or.inl ⟨h.1, h.2.1, h.2.2⟩))))))))) (fun h => h.elim (fun h => (Or.inr (Or.inr (Or.inr (Or.inr (Or.inr (Or.inr (Or.inr (Or.inr (Or.inl ⟨h.1, h.2.1, h.2.2⟩)))))))))) (fun h => h.elim))))))))))
                refine w_if_ne (tgt := 119) dX11_spots_110 (by decide) (rfl : r55_.toInt = r55_.toInt) (fun h62_ => ?_) (fun h62_ => ?_)
                · refine w_iload dX11_spots_119 4 rfl ?_
                  refine w_if_ne (tgt := 134) dX11_spots_121 (by decide) (rfl : s.toInt = s.toInt) (fun h63_ => ?_) (fun h63_ => ?_)
                  · refine w_aload_n dX11_spots_134 rfl 0 rfl ?_
                    refine w_getR (c' := (0, 0, 0)) fl_RX11_42 rfl rfl ic_11 dX11_spots_135 rfl ?_
                    refine w_getI fl_RX11_287 rfl rfl ic_0 dX11_spots_138 (fun z64_ e65_ => ?_)
                    exact w_iret rfl dX11_spots_141 ⟨hI59_, hF61_, trivial⟩
                  · refine w_aload_n dX11_spots_124 rfl 0 rfl ?_
                    refine w_getR (c' := (0, 0, 0)) fl_RX11_42 rfl rfl ic_11 dX11_spots_125 rfl ?_
                    refine w_getI fl_RX11_284 rfl rfl ic_0 dX11_spots_128 (fun z66_ e67_ => ?_)
                    refine w_goto (tgt := 141) dX11_spots_131 (by decide) ?_
                    exact w_iret rfl dX11_spots_141 ⟨hI59_, hF61_, trivial⟩
                · refine w_aload_n dX11_spots_113 rfl 0 rfl ?_
                  refine w_iconst (v := 3) dX11_spots_114 (by decide) ?_
                  refine w_callV (as := [vI 3]) (rest := []) (c_X11_error l G cy ad (d + 5) 3 M56_ hI59_) kV_X11_error (by decide +kernel) (Nat.le_of_ble_eq_true rfl) m_500 rfl rfl rfl ic_11 rfl rfl (by decide) (Nat.le_of_ble_eq_true rfl) dX11_spots_115 (fun r68_ M69_ q70_ => ?_)
                  obtain ⟨hI72_, hF73_, h71_⟩ := q70_
                  have hF74_ := hF61_.tr hF73_ (fun c k => (fun h => h.elim (fun h => (Or.inl ⟨h.1, h.2⟩)) (fun h => h.elim)))
                  exact w_iret rfl dX11_spots_118 ⟨hI72_, hF74_, trivial⟩
              · refine w_aload_n dX11_spots_85 rfl 0 rfl ?_
                refine w_iconst (v := 5) dX11_spots_86 (by decide) ?_
                refine w_callV (as := [vI 5]) (rest := []) (c_X11_error l G cy ad (d + 5) 5 Mz hIz) kV_X11_error (by decide +kernel) (Nat.le_of_ble_eq_true rfl) m_500 rfl rfl rfl ic_11 rfl rfl (by decide) (Nat.le_of_ble_eq_true rfl) dX11_spots_87 (fun r75_ M76_ q77_ => ?_)
                obtain ⟨hI79_, hF80_, h78_⟩ := q77_
                have hF81_ := hFz.tr hF80_ (fun c k => (fun h => h.elim (fun h => (Or.inl ⟨h.1, h.2⟩)) (fun h => h.elim)))
                exact w_iret rfl dX11_spots_90 ⟨hI79_, hF81_, trivial⟩
          · refine w_aload_n dX11_spots_55 rfl 0 rfl ?_
            refine w_iconst (v := 2) dX11_spots_56 (by decide) ?_
            refine w_callV (as := [vI 2]) (rest := []) (c_X11_error l G cy ad (d + 5) 2 Mz hIz) kV_X11_error (by decide +kernel) (Nat.le_of_ble_eq_true rfl) m_500 rfl rfl rfl ic_11 rfl rfl (by decide) (Nat.le_of_ble_eq_true rfl) dX11_spots_57 (fun r82_ M83_ q84_ => ?_)
            obtain ⟨hI86_, hF87_, h85_⟩ := q84_
            have hF88_ := hFz.tr hF87_ (fun c k => (fun h => h.elim (fun h => (Or.inl ⟨h.1, h.2⟩)) (fun h => h.elim)))
            exact w_iret rfl dX11_spots_60 ⟨hI86_, hF88_, trivial⟩
        · simp only [li_0, li_1] at h19_
          refine w_if_ne (tgt := 43) dX11_spots_34 (by decide) li_0 (fun h9 => (absurd h9 (by decide))) (fun h89_ => ?_)
          refine w_aload_n dX11_spots_37 rfl 0 rfl ?_
          refine w_iconst (v := 1) dX11_spots_38 (by decide) ?_
          refine w_callV (as := [vI 1]) (rest := []) (c_X11_error l G cy ad (d + 5) 1 Mz hIz) kV_X11_error (by decide +kernel) (Nat.le_of_ble_eq_true rfl) m_500 rfl rfl rfl ic_11 rfl rfl (by decide) (Nat.le_of_ble_eq_true rfl) dX11_spots_39 (fun r90_ M91_ q92_ => ?_)
          obtain ⟨hI94_, hF95_, h93_⟩ := q92_
          have hF96_ := hFz.tr hF95_ (fun c k => (fun h => h.elim (fun h => (Or.inl ⟨h.1, h.2⟩)) (fun h => h.elim)))
          exact w_iret rfl dX11_spots_42 ⟨hI94_, hF96_, trivial⟩
      · simp only [li_1, li_3] at h14_
        refine w_if_eq (tgt := 37) dX11_spots_24 (by decide) li_0 (fun h97_ => ?_) (fun h9 => (absurd h9 (by decide)))
        refine w_aload_n dX11_spots_37 rfl 0 rfl ?_
        refine w_iconst (v := 1) dX11_spots_38 (by decide) ?_
        refine w_callV (as := [vI 1]) (rest := []) (c_X11_error l G cy ad (d + 5) 1 Mz hIz) kV_X11_error (by decide +kernel) (Nat.le_of_ble_eq_true rfl) m_500 rfl rfl rfl ic_11 rfl rfl (by decide) (Nat.le_of_ble_eq_true rfl) dX11_spots_39 (fun r98_ M99_ q100_ => ?_)
        obtain ⟨hI102_, hF103_, h101_⟩ := q100_
        have hF104_ := hFz.tr hF103_ (fun c k => (fun h => h.elim (fun h => (Or.inl ⟨h.1, h.2⟩)) (fun h => h.elim)))
        exact w_iret rfl dX11_spots_42 ⟨hI102_, hF104_, trivial⟩
    · refine w_if_eq (tgt := 37) dX11_spots_15 (by decide) li_0 (fun h105_ => ?_) (fun h9 => (absurd h9 (by decide)))
      refine w_aload_n dX11_spots_37 rfl 0 rfl ?_
      refine w_iconst (v := 1) dX11_spots_38 (by decide) ?_
      refine w_callV (as := [vI 1]) (rest := []) (c_X11_error l G cy ad (d + 5) 1 Mz hIz) kV_X11_error (by decide +kernel) (Nat.le_of_ble_eq_true rfl) m_500 rfl rfl rfl ic_11 rfl rfl (by decide) (Nat.le_of_ble_eq_true rfl) dX11_spots_39 (fun r106_ M107_ q108_ => ?_)
      obtain ⟨hI110_, hF111_, h109_⟩ := q108_
      have hF112_ := hFz.tr hF111_ (fun c k => (fun h => h.elim (fun h => (Or.inl ⟨h.1, h.2⟩)) (fun h => h.elim)))
      exact w_iret rfl dX11_spots_42 ⟨hI110_, hF112_, trivial⟩
  · refine w_if_eq (tgt := 37) dX11_spots_8 (by decide) li_0 (fun h113_ => ?_) (fun h9 => (absurd h9 (by decide)))
    refine w_aload_n dX11_spots_37 rfl 0 rfl ?_
    refine w_iconst (v := 1) dX11_spots_38 (by decide) ?_
    refine w_callV (as := [vI 1]) (rest := []) (c_X11_error l G cy ad (d + 5) 1 Mz hIz) kV_X11_error (by decide +kernel) (Nat.le_of_ble_eq_true rfl) m_500 rfl rfl rfl ic_11 rfl rfl (by decide) (Nat.le_of_ble_eq_true rfl) dX11_spots_39 (fun r114_ M115_ q116_ => ?_)
    obtain ⟨hI118_, hF119_, h117_⟩ := q116_
    have hF120_ := hFz.tr hF119_ (fun c k => (fun h => h.elim (fun h => (Or.inl ⟨h.1, h.2⟩)) (fun h => h.elim)))
    exact w_iret rfl dX11_spots_42 ⟨hI118_, hF120_, trivial⟩
def S_c_X11_tenths : rf → Nat → Prop := fun c k => (c.1 = 10 ∧ c.2.1 = 0 ∧ k = 7) ∨ (c.1 = 35 ∧ c.2.1 = 0) ∨ (c.1 = 37 ∧ c.2.1 = 0) ∨ (c.1 = 38 ∧ c.2.1 = 0) ∨ (c.1 = 29 ∧ c.2.1 = 0 ∧ k = 0) ∨ (c.1 = 29 ∧ c.2.1 = 0 ∧ k = 1) ∨ (c.1 = 29 ∧ c.2.1 = 0 ∧ k = 2) ∨ (c.1 = 29 ∧ c.2.1 = 0 ∧ k = 3) ∨ (c.1 = 29 ∧ c.2.1 = 0 ∧ k = 4) ∨ (c.1 = 25 ∧ c.2.1 = 0 ∧ c.2.2 = 2) ∨ (c.1 = 9 ∧ c.2.1 = 0 ∧ k = 2) ∨ (c.1 = 9 ∧ c.2.1 = 0 ∧ k = 1) ∨ (c.1 = 9 ∧ c.2.1 = 0 ∧ k = 7) ∨ (c.1 = 40 ∧ c.2.1 = 0) ∨ (c.1 = 9 ∧ c.2.1 = 0 ∧ k = 8) ∨ (c.1 = 25 ∧ c.2.1 = 0 ∧ c.2.2 = 0) ∨ (c.1 = 25 ∧ c.2.1 = 0 ∧ c.2.2 = 1) ∨ (c.1 = 41 ∧ c.2.1 = 0) ∨ (c.1 = 44 ∧ c.2.1 = 0) ∨ False
theorem lf_c_X11_tenths_0  (v : Int32) (v2_39 : Int32) (h4_ : 1 ≤ v.toInt ∧ v.toInt ≤ 100) (hv0_39 : 0 ≤ v2_39.toInt) (h11_ : v2_39.toInt < v.toInt) : -2147483648 ≤ v2_39.toInt + 1 ∧ v2_39.toInt + 1 < 2147483648 := by have r_v := rngI v; have r_v2_39 := rngI v2_39; omega
theorem lf_c_X11_tenths_1  (v : Int32) (v2_39 : Int32) (z20_ : Int32) (h4_ : 1 ≤ v.toInt ∧ v.toInt ≤ 100) (hv0_39 : 0 ≤ v2_39.toInt) (h11_ : v2_39.toInt < v.toInt) (h21_ : z20_.toInt = v2_39.toInt + 1) : 0 ≤ z20_.toInt := by have r_v := rngI v; have r_v2_39 := rngI v2_39; have r_z20_ := rngI z20_; omega
theorem lf_c_X11_tenths_2  (v : Int32) (v2_39 : Int32) (z20_ : Int32) (h4_ : 1 ≤ v.toInt ∧ v.toInt ≤ 100) (hv0_39 : 0 ≤ v2_39.toInt) (h11_ : v2_39.toInt < v.toInt) (h21_ : z20_.toInt = v2_39.toInt + 1) : (2147483648 - z20_.toInt).toNat < (2147483648 - v2_39.toInt).toNat := by have r_v := rngI v; have r_v2_39 := rngI v2_39; have r_z20_ := rngI z20_; omega
theorem lf_c_X11_tenths_3    : 0 ≤ (0 : Int32).toInt := by have q0 := li_0; omega
set_option maxHeartbeats 4000000 in
set_option maxRecDepth 100000 in
theorem c_X11_tenths (l : Launch) (G : va_G) (cy : Nat → ClassId) (ad : rf → Nat) (d : Nat) (v : Int32) (Mz : mM) (hIz : Inv Mz) : WP CC l G cy ad yX11_tenths cX11_tenths 3 (some .int) (d + 7) 0 [(0, vR (11, 0, 0)), (1, vI v)] [] Mz (fun r M' => Inv M' ∧ FR (S_c_X11_tenths) Mz M' ∧ True) := by
  have hFz : FR (S_c_X11_tenths) Mz Mz := FR.self
  refine w_iload_n dX11_tenths_0 rfl 1 rfl ?_
  refine w_iconst (v := 1) dX11_tenths_1 (by decide) ?_
  refine w_bipush (v := 100) dX11_tenths_2 (by decide) ?_
  refine w_callS (as := [vI v, vI 1, vI 100]) (rest := []) (c_X11_within l G cy ad (d + 6) v 1 100 Mz hIz) kS_X11_within (by decide +kernel) (Nat.le_of_ble_eq_true rfl) m_494 rfl rfl (by decide) (Nat.le_of_ble_eq_true rfl) dX11_tenths_4 (fun r1_ M2_ q3_ => ?_)
  obtain ⟨rfl, h4_⟩ := q3_
  rcases h4_ with ⟨rfl, h4_⟩ | ⟨rfl, h4_⟩
  · simp only [li_1, li_100] at h4_
    refine w_if_ne (tgt := 16) dX11_tenths_7 (by decide) li_1 (fun h5_ => ?_) (fun h9 => (absurd h9 (by decide)))
    refine w_aload_n dX11_tenths_16 rfl 0 rfl ?_
    refine w_getR (c' := (10, 0, 0)) fl_RX11_10 rfl rfl ic_11 dX11_tenths_17 rfl ?_
    refine w_getI fl_RX11_290 rfl rfl (ic_10 (by decide)) dX11_tenths_20 (fun z6_ e7_ => ?_)
    refine w_iload_n dX11_tenths_23 rfl 1 rfl ?_
    refine w_iadd dX11_tenths_24 (fun z8_ _ => ?_)
    refine w_sipush (v := 9999) dX11_tenths_25 (by decide) ?_
    refine w_icmp_le (tgt := 37) dX11_tenths_28 (by decide) (rfl : z8_.toInt = z8_.toInt) li_9999 (fun h9_ => ?_) (fun h9_ => ?_)
    · refine w_iconst (v := 0) dX11_tenths_37 (by decide) ?_
      refine w_istore_n (ls' := [(2, vI 0), (0, vR (11, 0, 0)), (1, vI v)]) dX11_tenths_38 rfl (by decide) rfl ?_
      have lp10_ : ∀ (nn_39 : Nat) (M_39 : mM) (hI_39 : Inv M_39) (hF_39 : FR (S_c_X11_tenths) Mz M_39) (v2_39 : Int32) (hv0_39 : 0 ≤ v2_39.toInt), (2147483648 - v2_39.toInt).toNat < nn_39 → WP CC l G cy ad yX11_tenths cX11_tenths 3 (some .int) (d + 7) 39 [(2, vI v2_39), (0, vR (11, 0, 0)), (1, vI v)] [] M_39 (fun r M' => Inv M' ∧ FR (S_c_X11_tenths) Mz M' ∧ True) := by
        intro nn_39
        induction nn_39 with
        | zero => intro M_39 hI_39 hF_39 v2_39 hv0_39 hm_39; exact absurd hm_39 (Nat.not_lt_zero _)
        | succ nn_39 ih_39 =>
          intro M_39 hI_39 hF_39 v2_39 hv0_39 hm_39
          refine w_iload_n dX11_tenths_39 rfl 0 rfl ?_
          refine w_iload_n dX11_tenths_40 rfl 2 rfl ?_
          refine w_icmp_ge (tgt := 57) dX11_tenths_41 (by decide) (rfl : v2_39.toInt = v2_39.toInt) (rfl : v.toInt = v.toInt) (fun h11_ => ?_) (fun h11_ => ?_)
          · refine w_aload_n dX11_tenths_57 rfl 1 rfl ?_
            refine w_getR (c' := (10, 0, 0)) fl_RX11_10 rfl rfl ic_11 dX11_tenths_58 rfl ?_
            refine w_getI fl_RX11_290 rfl rfl (ic_10 (by decide)) dX11_tenths_61 (fun z12_ e13_ => ?_)
            exact w_iret rfl dX11_tenths_64 ⟨hI_39, hF_39, trivial⟩
          · refine w_aload_n dX11_tenths_44 rfl 1 rfl ?_
            refine w_getR (c' := (10, 0, 0)) fl_RX11_10 rfl rfl ic_11 dX11_tenths_45 rfl ?_
            refine w_callVv (as := []) (rest := []) (c_X10_passTenth l G cy ad d 0 M_39 hI_39 (by first | decide | (unfold vF; omega) | (unfold vRw; omega))) kV_X10_passTenth (by decide +kernel) (Nat.le_of_ble_eq_true rfl) m_1025 rfl rfl rfl (ic_10 (by decide)) rfl rfl (by decide) (Nat.le_of_ble_eq_true rfl) dX11_tenths_48 (fun M14_ q15_ => ?_)
            obtain ⟨hI17_, hF18_, h16_⟩ := q15_
            have hF19_ := hF_39.tr hF18_ (fun c k => (fun h => h.elim (fun h => (Or.inl ⟨h.1, h.2.1, h.2.2⟩)) (fun h => h.elim (fun h => (Or.inr (Or.inl ⟨h.1, h.2⟩))) (fun h => h.elim (fun h => (Or.inr (Or.inr (Or.inl ⟨h.1, h.2⟩)))) (fun h => h.elim (fun h => (Or.inr (Or.inr (Or.inr (Or.inl ⟨h.1, h.2⟩))))) (fun h => h.elim (fun h => (Or.inr (Or.inr (Or.inr (Or.inr (Or.inl ⟨h.1, h.2.1, h.2.2⟩)))))) (fun h => h.elim (fun h => (Or.inr (Or.inr (Or.inr (Or.inr (Or.inr (Or.inl ⟨h.1, h.2.1, h.2.2⟩))))))) (fun h => h.elim (fun h => (Or.inr (Or.inr (Or.inr (Or.inr (Or.inr (Or.inr (Or.inl ⟨h.1, h.2.1, h.2.2⟩)))))))) (fun h => h.elim (fun h => (Or.inr (Or.inr (Or.inr (Or.inr (Or.inr (Or.inr (Or.inr (Or.inl ⟨h.1, h.2.1, h.2.2⟩))))))))) (fun h => h.elim (fun h => (Or.inr (Or.inr (Or.inr (Or.inr (Or.inr (Or.inr (Or.inr (Or.inr (Or.inl ⟨h.1, h.2.1, h.2.2⟩)))))))))) (fun h => h.elim (fun h => (Or.inr (Or.inr (Or.inr (Or.inr (Or.inr (Or.inr (Or.inr (Or.inr (Or.inr (Or.inl ⟨h.1, h.2.1, h.2.2⟩))))))))))) (fun h => h.elim (fun h => (Or.inr (Or.inr (Or.inr (Or.inr (Or.inr (Or.inr (Or.inr (Or.inr (Or.inr (Or.inr (Or.inl ⟨h.1, h.2.1, h.2.2⟩)))))))))))) (fun h => h.elim (fun h => (Or.inr (Or.inr (Or.inr (Or.inr (Or.inr (Or.inr (Or.inr (Or.inr (Or.inr (Or.inr (Or.inr (Or.inl ⟨h.1, h.2.1, h.2.2⟩))))))))))))) (fun h => h.elim (fun h => (Or.inr (Or.inr (Or.inr (Or.inr (Or.inr (Or.inr (Or.inr (Or.inr (Or.inr (Or.inr (Or.inr (Or.inr (Or.inl ⟨h.1, h.2.1, h.2.2⟩)))))))))))))) (fun h => h.elim (fun h => (Or.inr (Or.inr (Or.inr (Or.inr (Or.inr (Or.inr (Or.inr (Or.inr (Or.inr (Or.inr (Or.inr (Or.inr (Or.inr (Or.inl ⟨h.1, h.2⟩))))))))))))))) (fun h => h.elim (fun h => (Or.inr (Or.inr (Or.inr (Or.inr (Or.inr (Or.inr (Or.inr (Or.inr (Or.inr (Or.inr (Or.inr (Or.inr (Or.inr (Or.inr (Or.inl ⟨h.1, h.2.1, h.2.2⟩)))))))))))))))) (fun h => h.elim (fun h => (Or.inr (Or.inr (Or.inr (Or.inr (Or.inr (Or.inr (Or.inr (Or.inr (Or.inr (Or.inr (Or.inr (Or.inr (Or.inr (Or.inr (Or.inr (Or.inl ⟨h.1, h.2.1, h.2.2⟩))))))))))))))))) (fun h => h.elim (fun h => (Or.inr (Or.inr (Or.inr (Or.inr (Or.inr (Or.inr (Or.inr (Or.inr (Or.inr (Or.inr (Or.inr (Or.inr (Or.inr (Or.inr (Or.inr (Or.inr (Or.inl ⟨h.1, h.2.1, h.2.2⟩)))))))))))))))))) (fun h => h.elim (fun h => (Or.inr (Or.inr (Or.inr (Or.inr (Or.inr (Or.inr (Or.inr (Or.inr (Or.inr (Or.inr (Or.inr (Or.inr (Or.inr (Or.inr (Or.inr (Or.inr (Or.inr (Or.inl ⟨h.1, h.2⟩))))))))))))))))))) (fun h => h.elim))))))))))))))))))))
            refine w_iincB (j := 0) (f := fun z20_ => [(2, vI z20_), (0, vR (11, 0, 0)), (1, vI v)]) dX11_tenths_51 rfl (by decide) (fun _ => rfl) (rfl : v2_39.toInt = v2_39.toInt) li_1 (lf_c_X11_tenths_0 v v2_39 h4_ hv0_39 h11_) (fun z20_ h21_ => ?_)
            refine w_goto (tgt := 39) dX11_tenths_54 (by decide) ?_
            refine w_loc (ls' := [(2, vI z20_), (0, vR (11, 0, 0)), (1, vI v)]) [0, 1, 2] rfl ?_
            exact ih_39 M14_ hI17_ hF19_ z20_ (lf_c_X11_tenths_1 v v2_39 z20_ h4_ hv0_39 h11_ h21_) (Nat.lt_of_lt_of_le (lf_c_X11_tenths_2 v v2_39 z20_ h4_ hv0_39 h11_ h21_) (Nat.le_of_lt_succ hm_39))
      exact lp10_ _ Mz hIz hFz 0 (lf_c_X11_tenths_3 ) (Nat.lt_succ_self _)
    · refine w_aload_n dX11_tenths_31 rfl 0 rfl ?_
      refine w_iconst (v := 3) dX11_tenths_32 (by decide) ?_
      refine w_callV (as := [vI 3]) (rest := []) (c_X11_error l G cy ad (d + 6) 3 Mz hIz) kV_X11_error (by decide +kernel) (Nat.le_of_ble_eq_true rfl) m_500 rfl rfl rfl ic_11 rfl rfl (by decide) (Nat.le_of_ble_eq_true rfl) dX11_tenths_33 (fun r22_ M23_ q24_ => ?_)
      obtain ⟨hI26_, hF27_, h25_⟩ := q24_
      have hF28_ := hFz.tr hF27_ (fun c k => (fun h => h.elim (fun h => (Or.inr (Or.inr (Or.inr (Or.inr (Or.inr (Or.inr (Or.inr (Or.inr (Or.inr (Or.inr (Or.inr (Or.inr (Or.inr (Or.inr (Or.inr (Or.inr (Or.inr (Or.inr (Or.inl ⟨h.1, h.2⟩)))))))))))))))))))) (fun h => h.elim)))
      exact w_iret rfl dX11_tenths_36 ⟨hI26_, hF28_, trivial⟩
  · simp only [li_1, li_100] at h4_
    refine w_if_ne (tgt := 16) dX11_tenths_7 (by decide) li_0 (fun h9 => (absurd h9 (by decide))) (fun h29_ => ?_)
    refine w_aload_n dX11_tenths_10 rfl 0 rfl ?_
    refine w_iconst (v := 1) dX11_tenths_11 (by decide) ?_
    refine w_callV (as := [vI 1]) (rest := []) (c_X11_error l G cy ad (d + 6) 1 Mz hIz) kV_X11_error (by decide +kernel) (Nat.le_of_ble_eq_true rfl) m_500 rfl rfl rfl ic_11 rfl rfl (by decide) (Nat.le_of_ble_eq_true rfl) dX11_tenths_12 (fun r30_ M31_ q32_ => ?_)
    obtain ⟨hI34_, hF35_, h33_⟩ := q32_
    have hF36_ := hFz.tr hF35_ (fun c k => (fun h => h.elim (fun h => (Or.inr (Or.inr (Or.inr (Or.inr (Or.inr (Or.inr (Or.inr (Or.inr (Or.inr (Or.inr (Or.inr (Or.inr (Or.inr (Or.inr (Or.inr (Or.inr (Or.inr (Or.inr (Or.inl ⟨h.1, h.2⟩)))))))))))))))))))) (fun h => h.elim)))
    exact w_iret rfl dX11_tenths_15 ⟨hI34_, hF36_, trivial⟩
def S_c_X11_way : rf → Nat → Prop := fun c k => (c.1 = 20 ∧ c.2.1 = 0) ∨ (c.1 = 21 ∧ c.2.1 = 0) ∨ (c.1 = 44 ∧ c.2.1 = 0) ∨ False
theorem lf_c_X11_way_0  (v : Int32) (h4_ : 0 ≤ v.toInt ∧ v.toInt ≤ 7) : 0 ≤ v.toInt ∧ v.toInt < ((8 : Nat) : Int) := by have r_v := rngI v; omega
set_option maxHeartbeats 4000000 in
set_option maxRecDepth 100000 in
theorem c_X11_way (l : Launch) (G : va_G) (cy : Nat → ClassId) (ad : rf → Nat) (d : Nat) (v : Int32) (u : Int32) (t : Int32) (Mz : mM) (hIz : Inv Mz) : WP CC l G cy ad yX11_way cX11_way 6 (some .int) (d + 5) 0 [(0, vR (11, 0, 0)), (1, vI v), (2, vI u), (3, vI t)] [] Mz (fun r M' => Inv M' ∧ FR (S_c_X11_way) Mz M' ∧ True) := by
  have hFz : FR (S_c_X11_way) Mz Mz := FR.self
  refine w_aload_n dX11_way_0 rfl 0 rfl ?_
  refine w_getR (c' := (10, 0, 0)) fl_RX11_10 rfl rfl ic_11 dX11_way_1 rfl ?_
  refine w_iload_n dX11_way_4 rfl 1 rfl ?_
  refine w_callV (as := [vI v]) (rest := []) (c_X10_hasWalker l G cy ad (d + 4) 0 v Mz hIz (by first | decide | (unfold vF; omega) | (unfold vRw; omega))) kV_X10_hasWalker (by decide +kernel) (Nat.le_of_ble_eq_true rfl) m_609 rfl rfl rfl (ic_10 (by decide)) rfl rfl (by decide) (Nat.le_of_ble_eq_true rfl) dX11_way_5 (fun r1_ M2_ q3_ => ?_)
  obtain ⟨rfl, h4_⟩ := q3_
  rcases h4_ with ⟨rfl, h4_⟩ | rfl
  · refine w_if_eq (tgt := 23) dX11_way_8 (by decide) li_1 (fun h9 => (absurd h9 (by decide))) (fun h5_ => ?_)
    refine w_iload_n dX11_way_11 rfl 2 rfl ?_
    refine w_callS (as := [vI u]) (rest := []) (c_X7_isCell l G cy ad (d + 4) u Mz hIz) kS_X7_isCell (by decide +kernel) (Nat.le_of_ble_eq_true rfl) m_497 rfl rfl (by decide) (Nat.le_of_ble_eq_true rfl) dX11_way_12 (fun r6_ M7_ q8_ => ?_)
    obtain ⟨rfl, h9_⟩ := q8_
    rcases h9_ with ⟨rfl, h9_⟩ | ⟨rfl, h9_⟩
    · refine w_if_eq (tgt := 23) dX11_way_15 (by decide) li_1 (fun h9 => (absurd h9 (by decide))) (fun h10_ => ?_)
      refine w_iload_n dX11_way_18 rfl 3 rfl ?_
      refine w_iconst (v := (-1)) dX11_way_19 (by decide) ?_
      refine w_icmp_ge (tgt := 29) dX11_way_20 (by decide) (rfl : t.toInt = t.toInt) li_m1 (fun h11_ => ?_) (fun h11_ => ?_)
      · refine w_aload_n dX11_way_29 rfl 0 rfl ?_
        refine w_getR (c' := (10, 0, 0)) fl_RX11_10 rfl rfl ic_11 dX11_way_30 rfl ?_
        refine w_getR (c' := (42, 0, 0)) fl_RX11_157 rfl rfl (ic_10 (by decide)) dX11_way_33 rfl ?_
        refine w_iload_n dX11_way_36 rfl 1 rfl ?_
        refine w_aald rfl rfl rfl (fun _ => rfl) (ic_42 (by decide)) (rfl : v.toInt = v.toInt) (lf_c_X11_way_0 v h4_) dX11_way_37 (fun j12_ h13_ h14_ => ?_)
        refine w_astore (ls' := [(4, vR (9, 0, j12_)), (0, vR (11, 0, 0)), (1, vI v), (2, vI u), (3, vI t)]) dX11_way_38 (by decide) rfl ?_
        refine w_aload_n dX11_way_40 rfl 1 rfl ?_
        refine w_getR (c' := (0, 0, 0)) fl_RX11_42 rfl rfl ic_11 dX11_way_41 rfl ?_
        refine w_aload dX11_way_44 0 rfl ?_
        refine w_iload_n dX11_way_46 rfl 3 rfl ?_
        refine w_callVv (as := [vR (9, 0, j12_), vI u]) (rest := []) (c_X0_measure l G cy ad (d + 1) 0 j12_ u Mz hIz (by first | decide | (unfold vF; omega) | (unfold vRw; omega)) h14_) kV_X0_measure (by decide +kernel) (Nat.le_of_ble_eq_true rfl) m_1071 rfl rfl rfl ic_0 rfl rfl (by decide) (Nat.le_of_ble_eq_true rfl) dX11_way_47 (fun M15_ q16_ => ?_)
        obtain ⟨hI18_, hF19_, h17_⟩ := q16_
        have hF20_ := hFz.tr hF19_ (fun c k => (fun h => h.elim (fun h => (Or.inl ⟨h.1, h.2⟩)) (fun h => h.elim (fun h => (Or.inr (Or.inl ⟨h.1, h.2⟩))) (fun h => h.elim))))
        refine w_iload_n dX11_way_50 rfl 4 rfl ?_
        refine w_iconst (v := (-1)) dX11_way_51 (by decide) ?_
        refine w_icmp_ne (tgt := 68) dX11_way_52 (by decide) (rfl : t.toInt = t.toInt) li_m1 (fun h21_ => ?_) (fun h21_ => ?_)
        · refine w_aload_n dX11_way_68 rfl 1 rfl ?_
          refine w_getR (c' := (0, 0, 0)) fl_RX11_42 rfl rfl ic_11 dX11_way_69 rfl ?_
          refine w_aload dX11_way_72 0 rfl ?_
          refine w_iload_n dX11_way_74 rfl 3 rfl ?_
          refine w_iload_n dX11_way_75 rfl 4 rfl ?_
          refine w_callV (as := [vR (9, 0, j12_), vI u, vI t]) (rest := []) (c_X0_cellAfter l G cy ad d 0 j12_ u t M15_ hI18_ (by first | decide | (unfold vF; omega) | (unfold vRw; omega)) h14_) kV_X0_cellAfter (by decide +kernel) (Nat.le_of_ble_eq_true rfl) m_1089 rfl rfl rfl ic_0 rfl rfl (by decide) (Nat.le_of_ble_eq_true rfl) dX11_way_76 (fun r22_ M23_ q24_ => ?_)
          obtain ⟨rfl, h25_⟩ := q24_
          refine w_istore (ls' := [(5, vI r22_), (4, vR (9, 0, j12_)), (0, vR (11, 0, 0)), (1, vI v), (2, vI u), (3, vI t)]) dX11_way_79 (by decide) rfl ?_
          refine w_iload dX11_way_81 0 rfl ?_
          refine w_if_ge (tgt := 94) dX11_way_83 (by decide) (rfl : r22_.toInt = r22_.toInt) (fun h26_ => ?_) (fun h26_ => ?_)
          · refine w_iload dX11_way_94 0 rfl ?_
            exact w_iret rfl dX11_way_96 ⟨hI18_, hF20_, trivial⟩
          · refine w_aload_n dX11_way_86 rfl 2 rfl ?_
            refine w_iconst (v := 2) dX11_way_87 (by decide) ?_
            refine w_callV (as := [vI 2]) (rest := []) (c_X11_error l G cy ad (d + 4) 2 M15_ hI18_) kV_X11_error (by decide +kernel) (Nat.le_of_ble_eq_true rfl) m_500 rfl rfl rfl ic_11 rfl rfl (by decide) (Nat.le_of_ble_eq_true rfl) dX11_way_88 (fun r27_ M28_ q29_ => ?_)
            obtain ⟨hI31_, hF32_, h30_⟩ := q29_
            have hF33_ := hF20_.tr hF32_ (fun c k => (fun h => h.elim (fun h => (Or.inr (Or.inr (Or.inl ⟨h.1, h.2⟩)))) (fun h => h.elim)))
            refine w_goto (tgt := 96) dX11_way_91 (by decide) ?_
            exact w_iret rfl dX11_way_96 ⟨hI31_, hF33_, trivial⟩
        · refine w_aload_n dX11_way_55 rfl 1 rfl ?_
          refine w_getR (c' := (0, 0, 0)) fl_RX11_42 rfl rfl ic_11 dX11_way_56 rfl ?_
          refine w_aload dX11_way_59 0 rfl ?_
          refine w_getI fl_RX11_229 rfl rfl (ic_9 (by decide) h14_) dX11_way_61 (fun z34_ e35_ => ?_)
          refine w_callV (as := [vI z34_]) (rest := []) (c_X0_costFrom l G cy ad (d + 3) z34_ M15_ hI18_) kV_X0_costFrom (by decide +kernel) (Nat.le_of_ble_eq_true rfl) m_1085 rfl rfl rfl ic_0 rfl rfl (by decide) (Nat.le_of_ble_eq_true rfl) dX11_way_64 (fun r36_ M37_ q38_ => ?_)
          obtain ⟨rfl, h39_⟩ := q38_
          exact w_iret rfl dX11_way_67 ⟨hI18_, hF20_, trivial⟩
      · refine w_aload_n dX11_way_23 rfl 0 rfl ?_
        refine w_iconst (v := 1) dX11_way_24 (by decide) ?_
        refine w_callV (as := [vI 1]) (rest := []) (c_X11_error l G cy ad (d + 4) 1 Mz hIz) kV_X11_error (by decide +kernel) (Nat.le_of_ble_eq_true rfl) m_500 rfl rfl rfl ic_11 rfl rfl (by decide) (Nat.le_of_ble_eq_true rfl) dX11_way_25 (fun r40_ M41_ q42_ => ?_)
        obtain ⟨hI44_, hF45_, h43_⟩ := q42_
        have hF46_ := hFz.tr hF45_ (fun c k => (fun h => h.elim (fun h => (Or.inr (Or.inr (Or.inl ⟨h.1, h.2⟩)))) (fun h => h.elim)))
        exact w_iret rfl dX11_way_28 ⟨hI44_, hF46_, trivial⟩
    · refine w_if_eq (tgt := 23) dX11_way_15 (by decide) li_0 (fun h47_ => ?_) (fun h9 => (absurd h9 (by decide)))
      refine w_aload_n dX11_way_23 rfl 0 rfl ?_
      refine w_iconst (v := 1) dX11_way_24 (by decide) ?_
      refine w_callV (as := [vI 1]) (rest := []) (c_X11_error l G cy ad (d + 4) 1 Mz hIz) kV_X11_error (by decide +kernel) (Nat.le_of_ble_eq_true rfl) m_500 rfl rfl rfl ic_11 rfl rfl (by decide) (Nat.le_of_ble_eq_true rfl) dX11_way_25 (fun r48_ M49_ q50_ => ?_)
      obtain ⟨hI52_, hF53_, h51_⟩ := q50_
      have hF54_ := hFz.tr hF53_ (fun c k => (fun h => h.elim (fun h => (Or.inr (Or.inr (Or.inl ⟨h.1, h.2⟩)))) (fun h => h.elim)))
      exact w_iret rfl dX11_way_28 ⟨hI52_, hF54_, trivial⟩
  · refine w_if_eq (tgt := 23) dX11_way_8 (by decide) li_0 (fun h55_ => ?_) (fun h9 => (absurd h9 (by decide)))
    refine w_aload_n dX11_way_23 rfl 0 rfl ?_
    refine w_iconst (v := 1) dX11_way_24 (by decide) ?_
    refine w_callV (as := [vI 1]) (rest := []) (c_X11_error l G cy ad (d + 4) 1 Mz hIz) kV_X11_error (by decide +kernel) (Nat.le_of_ble_eq_true rfl) m_500 rfl rfl rfl ic_11 rfl rfl (by decide) (Nat.le_of_ble_eq_true rfl) dX11_way_25 (fun r56_ M57_ q58_ => ?_)
    obtain ⟨hI60_, hF61_, h59_⟩ := q58_
    have hF62_ := hFz.tr hF61_ (fun c k => (fun h => h.elim (fun h => (Or.inr (Or.inr (Or.inl ⟨h.1, h.2⟩)))) (fun h => h.elim)))
    exact w_iret rfl dX11_way_28 ⟨hI60_, hF62_, trivial⟩
def S_c_X11_safe : rf → Nat → Prop := fun c k => (c.1 = 29 ∧ c.2.1 = 0 ∧ k = 0) ∨ (c.1 = 29 ∧ c.2.1 = 0 ∧ k = 1) ∨ (c.1 = 29 ∧ c.2.1 = 0 ∧ k = 2) ∨ (c.1 = 29 ∧ c.2.1 = 0 ∧ k = 3) ∨ (c.1 = 25 ∧ c.2.1 = 0 ∧ c.2.2 = 0) ∨ (c.1 = 25 ∧ c.2.1 = 0 ∧ c.2.2 = 1) ∨ (c.1 = 44 ∧ c.2.1 = 0) ∨ False
theorem lf_c_X11_safe_0  (v3_28 : Int32) (hv0_28 : 0 ≤ v3_28.toInt) (hv1_28 : v3_28.toInt ≤ 9) (h14_ : v3_28.toInt < 9) : -2147483648 ≤ v3_28.toInt + 1 ∧ v3_28.toInt + 1 < 2147483648 := by have r_v3_28 := rngI v3_28; omega
theorem lf_c_X11_safe_1  (v3_28 : Int32) (z15_ : Int32) (hv0_28 : 0 ≤ v3_28.toInt) (hv1_28 : v3_28.toInt ≤ 9) (h14_ : v3_28.toInt < 9) (h16_ : z15_.toInt = v3_28.toInt + 1) : -2147483648 ≤ v3_28.toInt + 2 ∧ v3_28.toInt + 2 < 2147483648 := by have r_v3_28 := rngI v3_28; have r_z15_ := rngI z15_; omega
theorem lf_c_X11_safe_2  (v3_28 : Int32) (z15_ : Int32) (z17_ : Int32) (hv0_28 : 0 ≤ v3_28.toInt) (hv1_28 : v3_28.toInt ≤ 9) (h14_ : v3_28.toInt < 9) (h16_ : z15_.toInt = v3_28.toInt + 1) (h18_ : z17_.toInt = v3_28.toInt + 2) : -2147483648 ≤ v3_28.toInt + 1 ∧ v3_28.toInt + 1 < 2147483648 := by have r_v3_28 := rngI v3_28; have r_z15_ := rngI z15_; have r_z17_ := rngI z17_; omega
theorem lf_c_X11_safe_3  (v3_28 : Int32) (z15_ : Int32) (z17_ : Int32) (z22_ : Int32) (hv0_28 : 0 ≤ v3_28.toInt) (hv1_28 : v3_28.toInt ≤ 9) (h14_ : v3_28.toInt < 9) (h16_ : z15_.toInt = v3_28.toInt + 1) (h18_ : z17_.toInt = v3_28.toInt + 2) (h23_ : z22_.toInt = v3_28.toInt + 1) : 0 ≤ z22_.toInt := by have r_v3_28 := rngI v3_28; have r_z15_ := rngI z15_; have r_z17_ := rngI z17_; have r_z22_ := rngI z22_; omega
theorem lf_c_X11_safe_4  (v3_28 : Int32) (z15_ : Int32) (z17_ : Int32) (z22_ : Int32) (hv0_28 : 0 ≤ v3_28.toInt) (hv1_28 : v3_28.toInt ≤ 9) (h14_ : v3_28.toInt < 9) (h16_ : z15_.toInt = v3_28.toInt + 1) (h18_ : z17_.toInt = v3_28.toInt + 2) (h23_ : z22_.toInt = v3_28.toInt + 1) : z22_.toInt ≤ 9 := by have r_v3_28 := rngI v3_28; have r_z15_ := rngI z15_; have r_z17_ := rngI z17_; have r_z22_ := rngI z22_; omega
theorem lf_c_X11_safe_5  (v3_28 : Int32) (z15_ : Int32) (z17_ : Int32) (z22_ : Int32) (hv0_28 : 0 ≤ v3_28.toInt) (hv1_28 : v3_28.toInt ≤ 9) (h14_ : v3_28.toInt < 9) (h16_ : z15_.toInt = v3_28.toInt + 1) (h18_ : z17_.toInt = v3_28.toInt + 2) (h23_ : z22_.toInt = v3_28.toInt + 1) : (2147483648 - z22_.toInt).toNat < (2147483648 - v3_28.toInt).toNat := by have r_v3_28 := rngI v3_28; have r_z15_ := rngI z15_; have r_z17_ := rngI z17_; have r_z22_ := rngI z22_; omega
theorem lf_c_X11_safe_6    : 0 ≤ (0 : Int32).toInt := by have q0 := li_0; omega
theorem lf_c_X11_safe_7    : (0 : Int32).toInt ≤ 9 := by have q0 := li_0; omega
set_option maxHeartbeats 4000000 in
set_option maxRecDepth 100000 in
theorem c_X11_safe (l : Launch) (G : va_G) (cy : Nat → ClassId) (ad : rf → Nat) (d : Nat) (v : Int32) (Mz : mM) (hIz : Inv Mz) : WP CC l G cy ad yX11_safe cX11_safe 4 (some .int) (d + 5) 0 [(0, vR (11, 0, 0)), (1, vI v)] [] Mz (fun r M' => Inv M' ∧ FR (S_c_X11_safe) Mz M' ∧ True) := by
  have hFz : FR (S_c_X11_safe) Mz Mz := FR.self
  refine w_aload_n dX11_safe_0 rfl 0 rfl ?_
  refine w_getR (c' := (10, 0, 0)) fl_RX11_10 rfl rfl ic_11 dX11_safe_1 rfl ?_
  refine w_iload_n dX11_safe_4 rfl 1 rfl ?_
  refine w_callV (as := [vI v]) (rest := []) (c_X10_hasWalker l G cy ad (d + 4) 0 v Mz hIz (by first | decide | (unfold vF; omega) | (unfold vRw; omega))) kV_X10_hasWalker (by decide +kernel) (Nat.le_of_ble_eq_true rfl) m_609 rfl rfl rfl (ic_10 (by decide)) rfl rfl (by decide) (Nat.le_of_ble_eq_true rfl) dX11_safe_5 (fun r1_ M2_ q3_ => ?_)
  obtain ⟨rfl, h4_⟩ := q3_
  rcases h4_ with ⟨rfl, h4_⟩ | rfl
  · refine w_if_ne (tgt := 17) dX11_safe_8 (by decide) li_1 (fun h5_ => ?_) (fun h9 => (absurd h9 (by decide)))
    refine w_aload_n dX11_safe_17 rfl 0 rfl ?_
    refine w_getR (c' := (10, 0, 0)) fl_RX11_10 rfl rfl ic_11 dX11_safe_18 rfl ?_
    refine w_iload_n dX11_safe_21 rfl 1 rfl ?_
    refine w_callV (as := [vI v]) (rest := []) (c_X10_sureYards l G cy ad d 0 v Mz hIz (by first | decide | (unfold vF; omega) | (unfold vRw; omega))) kV_X10_sureYards (by decide +kernel) (Nat.le_of_ble_eq_true rfl) m_1102 rfl rfl rfl (ic_10 (by decide)) rfl rfl (by decide) (Nat.le_of_ble_eq_true rfl) dX11_safe_22 (fun r6_ M7_ q8_ => ?_)
    obtain ⟨hI10_, hF11_, h9_⟩ := q8_
    have hF12_ := hFz.tr hF11_ (fun c k => (fun h => h.elim (fun h => (Or.inl ⟨h.1, h.2.1, h.2.2⟩)) (fun h => h.elim (fun h => (Or.inr (Or.inl ⟨h.1, h.2.1, h.2.2⟩))) (fun h => h.elim (fun h => (Or.inr (Or.inr (Or.inl ⟨h.1, h.2.1, h.2.2⟩)))) (fun h => h.elim (fun h => (Or.inr (Or.inr (Or.inr (Or.inl ⟨h.1, h.2.1, h.2.2⟩))))) (fun h => h.elim (fun h => (Or.inr (Or.inr (Or.inr (Or.inr (Or.inl ⟨h.1, h.2.1, h.2.2⟩)))))) (fun h => h.elim (fun h => (Or.inr (Or.inr (Or.inr (Or.inr (Or.inr (Or.inl ⟨h.1, h.2.1, h.2.2⟩))))))) (fun h => h.elim))))))))
    refine w_istore_n (ls' := [(2, vI r6_), (0, vR (11, 0, 0)), (1, vI v)]) dX11_safe_25 rfl (by decide) rfl ?_
    refine w_iconst (v := 0) dX11_safe_26 (by decide) ?_
    refine w_istore_n (ls' := [(3, vI 0), (2, vI r6_), (0, vR (11, 0, 0)), (1, vI v)]) dX11_safe_27 rfl (by decide) rfl ?_
    have lp13_ : ∀ (nn_28 : Nat) (v3_28 : Int32) (hv0_28 : 0 ≤ v3_28.toInt) (hv1_28 : v3_28.toInt ≤ 9), (2147483648 - v3_28.toInt).toNat < nn_28 → WP CC l G cy ad yX11_safe cX11_safe 4 (some .int) (d + 5) 28 [(3, vI v3_28), (2, vI r6_), (0, vR (11, 0, 0)), (1, vI v)] [] M7_ (fun r M' => Inv M' ∧ FR (S_c_X11_safe) Mz M' ∧ True) := by
      intro nn_28
      induction nn_28 with
      | zero => intro v3_28 hv0_28 hv1_28 hm_28; exact absurd hm_28 (Nat.not_lt_zero _)
      | succ nn_28 ih_28 =>
        intro v3_28 hv0_28 hv1_28 hm_28
        refine w_iload_n dX11_safe_28 rfl 0 rfl ?_
        refine w_bipush (v := 9) dX11_safe_29 (by decide) ?_
        refine w_icmp_ge (tgt := 53) dX11_safe_31 (by decide) (rfl : v3_28.toInt = v3_28.toInt) li_9 (fun h14_ => ?_) (fun h14_ => ?_)
        · refine w_iload_n dX11_safe_53 rfl 0 rfl ?_
          exact w_iret rfl dX11_safe_54 ⟨hI10_, hF12_, trivial⟩
        · refine w_iload_n dX11_safe_34 rfl 0 rfl ?_
          refine w_iconst (v := 1) dX11_safe_35 (by decide) ?_
          refine w_iaddB dX11_safe_36 (rfl : v3_28.toInt = v3_28.toInt) li_1 (lf_c_X11_safe_0 v3_28 hv0_28 hv1_28 h14_) (fun z15_ h16_ => ?_)
          refine w_iload_n dX11_safe_37 rfl 0 rfl ?_
          refine w_iconst (v := 2) dX11_safe_38 (by decide) ?_
          refine w_iaddB dX11_safe_39 (rfl : v3_28.toInt = v3_28.toInt) li_2 (lf_c_X11_safe_1 v3_28 z15_ hv0_28 hv1_28 h14_ h16_) (fun z17_ h18_ => ?_)
          refine w_imul dX11_safe_40 (fun z19_ _ => ?_)
          refine w_iconst (v := 2) dX11_safe_41 (by decide) ?_
          refine w_idiv dX11_safe_42 (by decide) (fun z20_ _ => ?_)
          refine w_iload_n dX11_safe_43 rfl 1 rfl ?_
          refine w_icmp_gt (tgt := 53) dX11_safe_44 (by decide) (rfl : z20_.toInt = z20_.toInt) (rfl : r6_.toInt = r6_.toInt) (fun h21_ => ?_) (fun h21_ => ?_)
          · refine w_iload_n dX11_safe_53 rfl 0 rfl ?_
            exact w_iret rfl dX11_safe_54 ⟨hI10_, hF12_, trivial⟩
          · refine w_iincB (j := 0) (f := fun z22_ => [(3, vI z22_), (2, vI r6_), (0, vR (11, 0, 0)), (1, vI v)]) dX11_safe_47 rfl (by decide) (fun _ => rfl) (rfl : v3_28.toInt = v3_28.toInt) li_1 (lf_c_X11_safe_2 v3_28 z15_ z17_ hv0_28 hv1_28 h14_ h16_ h18_) (fun z22_ h23_ => ?_)
            refine w_goto (tgt := 28) dX11_safe_50 (by decide) ?_
            refine w_loc (ls' := [(3, vI z22_), (2, vI r6_), (0, vR (11, 0, 0)), (1, vI v)]) [0, 1, 2, 3] rfl ?_
            exact ih_28 z22_ (lf_c_X11_safe_3 v3_28 z15_ z17_ z22_ hv0_28 hv1_28 h14_ h16_ h18_ h23_) (lf_c_X11_safe_4 v3_28 z15_ z17_ z22_ hv0_28 hv1_28 h14_ h16_ h18_ h23_) (Nat.lt_of_lt_of_le (lf_c_X11_safe_5 v3_28 z15_ z17_ z22_ hv0_28 hv1_28 h14_ h16_ h18_ h23_) (Nat.le_of_lt_succ hm_28))
    exact lp13_ _ 0 (lf_c_X11_safe_6 ) (lf_c_X11_safe_7 ) (Nat.lt_succ_self _)
  · refine w_if_ne (tgt := 17) dX11_safe_8 (by decide) li_0 (fun h9 => (absurd h9 (by decide))) (fun h24_ => ?_)
    refine w_aload_n dX11_safe_11 rfl 0 rfl ?_
    refine w_iconst (v := 1) dX11_safe_12 (by decide) ?_
    refine w_callV (as := [vI 1]) (rest := []) (c_X11_error l G cy ad (d + 4) 1 Mz hIz) kV_X11_error (by decide +kernel) (Nat.le_of_ble_eq_true rfl) m_500 rfl rfl rfl ic_11 rfl rfl (by decide) (Nat.le_of_ble_eq_true rfl) dX11_safe_13 (fun r25_ M26_ q27_ => ?_)
    obtain ⟨hI29_, hF30_, h28_⟩ := q27_
    have hF31_ := hFz.tr hF30_ (fun c k => (fun h => h.elim (fun h => (Or.inr (Or.inr (Or.inr (Or.inr (Or.inr (Or.inr (Or.inl ⟨h.1, h.2⟩)))))))) (fun h => h.elim)))
    exact w_iret rfl dX11_safe_16 ⟨hI29_, hF31_, trivial⟩
def S_c_X11_lesson : rf → Nat → Prop := fun c k => (c.1 = 30 ∧ c.2.1 = 0) ∨ (c.1 = 31 ∧ c.2.1 = 0) ∨ (c.1 = 32 ∧ c.2.1 = 0) ∨ (c.1 = 3 ∧ c.2.1 = 0 ∧ k = 3) ∨ (c.1 = 44 ∧ c.2.1 = 0) ∨ False
set_option maxHeartbeats 4000000 in
set_option maxRecDepth 100000 in
theorem c_X11_lesson (l : Launch) (G : va_G) (cy : Nat → ClassId) (ad : rf → Nat) (d : Nat) (v : Int32) (u : Int32) (t : Int32) (Mz : mM) (hIz : Inv Mz) : WP CC l G cy ad yX11_lesson cX11_lesson 4 (some .int) (d + 2) 0 [(0, vR (11, 0, 0)), (1, vI v), (2, vI u), (3, vI t)] [] Mz (fun r M' => Inv M' ∧ FR (S_c_X11_lesson) Mz M' ∧ True) := by
  have hFz : FR (S_c_X11_lesson) Mz Mz := FR.self
  refine w_iload_n dX11_lesson_0 rfl 1 rfl ?_
  refine w_callS (as := [vI v]) (rest := []) (c_X11_isBits l G cy ad d v Mz hIz) kS_X11_isBits (by decide +kernel) (Nat.le_of_ble_eq_true rfl) m_1114 rfl rfl (by decide) (Nat.le_of_ble_eq_true rfl) dX11_lesson_1 (fun r1_ M2_ q3_ => ?_)
  obtain ⟨rfl, h4_⟩ := q3_
  rcases h4_ with ⟨rfl, h4_⟩ | ⟨rfl, h4_⟩
  · refine w_if_eq (tgt := 24) dX11_lesson_4 (by decide) li_1 (fun h9 => (absurd h9 (by decide))) (fun h5_ => ?_)
    refine w_iload_n dX11_lesson_7 rfl 2 rfl ?_
    refine w_callS (as := [vI u]) (rest := []) (c_X11_isBits l G cy ad d u Mz hIz) kS_X11_isBits (by decide +kernel) (Nat.le_of_ble_eq_true rfl) m_1114 rfl rfl (by decide) (Nat.le_of_ble_eq_true rfl) dX11_lesson_8 (fun r6_ M7_ q8_ => ?_)
    obtain ⟨rfl, h9_⟩ := q8_
    rcases h9_ with ⟨rfl, h9_⟩ | ⟨rfl, h9_⟩
    · refine w_if_eq (tgt := 24) dX11_lesson_11 (by decide) li_1 (fun h9 => (absurd h9 (by decide))) (fun h10_ => ?_)
      refine w_iload_n dX11_lesson_14 rfl 3 rfl ?_
      refine w_iconst (v := 1) dX11_lesson_15 (by decide) ?_
      refine w_bipush (v := 99) dX11_lesson_16 (by decide) ?_
      refine w_callS (as := [vI t, vI 1, vI 99]) (rest := []) (c_X11_within l G cy ad (d + 1) t 1 99 Mz hIz) kS_X11_within (by decide +kernel) (Nat.le_of_ble_eq_true rfl) m_494 rfl rfl (by decide) (Nat.le_of_ble_eq_true rfl) dX11_lesson_18 (fun r11_ M12_ q13_ => ?_)
      obtain ⟨rfl, h14_⟩ := q13_
      rcases h14_ with ⟨rfl, h14_⟩ | ⟨rfl, h14_⟩
      · simp only [li_1, li_99] at h14_
        refine w_if_ne (tgt := 30) dX11_lesson_21 (by decide) li_1 (fun h15_ => ?_) (fun h9 => (absurd h9 (by decide)))
        refine w_aload_n dX11_lesson_30 rfl 0 rfl ?_
        refine w_getR (c' := (10, 0, 0)) fl_RX11_10 rfl rfl ic_11 dX11_lesson_31 rfl ?_
        refine w_getR (c' := (3, 0, 0)) fl_RX11_313 rfl rfl (ic_10 (by decide)) dX11_lesson_34 rfl ?_
        refine w_callV (as := []) (rest := []) (c_X3_hasRoom l G cy ad (d + 1) 0 Mz hIz (by first | decide | (unfold vF; omega) | (unfold vRw; omega))) kV_X3_hasRoom (by decide +kernel) (Nat.le_of_ble_eq_true rfl) m_1117 rfl rfl rfl (ic_3 (by decide)) rfl rfl (by decide) (Nat.le_of_ble_eq_true rfl) dX11_lesson_37 (fun r16_ M17_ q18_ => ?_)
        obtain ⟨rfl, h19_⟩ := q18_
        refine w_if_ne (tgt := 49) dX11_lesson_40 (by decide) (rfl : r16_.toInt = r16_.toInt) (fun h20_ => ?_) (fun h20_ => ?_)
        · refine w_aload_n dX11_lesson_49 rfl 0 rfl ?_
          refine w_getR (c' := (10, 0, 0)) fl_RX11_10 rfl rfl ic_11 dX11_lesson_50 rfl ?_
          refine w_getR (c' := (3, 0, 0)) fl_RX11_313 rfl rfl (ic_10 (by decide)) dX11_lesson_53 rfl ?_
          refine w_iload_n dX11_lesson_56 rfl 1 rfl ?_
          refine w_iload_n dX11_lesson_57 rfl 2 rfl ?_
          refine w_iload_n dX11_lesson_58 rfl 3 rfl ?_
          refine w_callV (as := [vI v, vI u, vI t]) (rest := []) (c_X3_add l G cy ad (d + 1) 0 v u t Mz hIz (by first | decide | (unfold vF; omega) | (unfold vRw; omega))) kV_X3_add (by decide +kernel) (Nat.le_of_ble_eq_true rfl) m_1121 rfl rfl rfl (ic_3 (by decide)) rfl rfl (by decide) (Nat.le_of_ble_eq_true rfl) dX11_lesson_59 (fun r21_ M22_ q23_ => ?_)
          obtain ⟨hI25_, hF26_, h24_⟩ := q23_
          have hF27_ := hFz.tr hF26_ (fun c k => (fun h => h.elim (fun h => (Or.inl ⟨h.1, h.2⟩)) (fun h => h.elim (fun h => (Or.inr (Or.inl ⟨h.1, h.2⟩))) (fun h => h.elim (fun h => (Or.inr (Or.inr (Or.inl ⟨h.1, h.2⟩)))) (fun h => h.elim (fun h => (Or.inr (Or.inr (Or.inr (Or.inl ⟨h.1, h.2.1, h.2.2⟩))))) (fun h => h.elim))))))
          exact w_iret rfl dX11_lesson_62 ⟨hI25_, hF27_, trivial⟩
        · refine w_aload_n dX11_lesson_43 rfl 0 rfl ?_
          refine w_iconst (v := 4) dX11_lesson_44 (by decide) ?_
          refine w_callV (as := [vI 4]) (rest := []) (c_X11_error l G cy ad (d + 1) 4 Mz hIz) kV_X11_error (by decide +kernel) (Nat.le_of_ble_eq_true rfl) m_500 rfl rfl rfl ic_11 rfl rfl (by decide) (Nat.le_of_ble_eq_true rfl) dX11_lesson_45 (fun r28_ M29_ q30_ => ?_)
          obtain ⟨hI32_, hF33_, h31_⟩ := q30_
          have hF34_ := hFz.tr hF33_ (fun c k => (fun h => h.elim (fun h => (Or.inr (Or.inr (Or.inr (Or.inr (Or.inl ⟨h.1, h.2⟩)))))) (fun h => h.elim)))
          exact w_iret rfl dX11_lesson_48 ⟨hI32_, hF34_, trivial⟩
      · simp only [li_1, li_99] at h14_
        refine w_if_ne (tgt := 30) dX11_lesson_21 (by decide) li_0 (fun h9 => (absurd h9 (by decide))) (fun h35_ => ?_)
        refine w_aload_n dX11_lesson_24 rfl 0 rfl ?_
        refine w_iconst (v := 1) dX11_lesson_25 (by decide) ?_
        refine w_callV (as := [vI 1]) (rest := []) (c_X11_error l G cy ad (d + 1) 1 Mz hIz) kV_X11_error (by decide +kernel) (Nat.le_of_ble_eq_true rfl) m_500 rfl rfl rfl ic_11 rfl rfl (by decide) (Nat.le_of_ble_eq_true rfl) dX11_lesson_26 (fun r36_ M37_ q38_ => ?_)
        obtain ⟨hI40_, hF41_, h39_⟩ := q38_
        have hF42_ := hFz.tr hF41_ (fun c k => (fun h => h.elim (fun h => (Or.inr (Or.inr (Or.inr (Or.inr (Or.inl ⟨h.1, h.2⟩)))))) (fun h => h.elim)))
        exact w_iret rfl dX11_lesson_29 ⟨hI40_, hF42_, trivial⟩
    · refine w_if_eq (tgt := 24) dX11_lesson_11 (by decide) li_0 (fun h43_ => ?_) (fun h9 => (absurd h9 (by decide)))
      refine w_aload_n dX11_lesson_24 rfl 0 rfl ?_
      refine w_iconst (v := 1) dX11_lesson_25 (by decide) ?_
      refine w_callV (as := [vI 1]) (rest := []) (c_X11_error l G cy ad (d + 1) 1 Mz hIz) kV_X11_error (by decide +kernel) (Nat.le_of_ble_eq_true rfl) m_500 rfl rfl rfl ic_11 rfl rfl (by decide) (Nat.le_of_ble_eq_true rfl) dX11_lesson_26 (fun r44_ M45_ q46_ => ?_)
      obtain ⟨hI48_, hF49_, h47_⟩ := q46_
      have hF50_ := hFz.tr hF49_ (fun c k => (fun h => h.elim (fun h => (Or.inr (Or.inr (Or.inr (Or.inr (Or.inl ⟨h.1, h.2⟩)))))) (fun h => h.elim)))
      exact w_iret rfl dX11_lesson_29 ⟨hI48_, hF50_, trivial⟩
  · refine w_if_eq (tgt := 24) dX11_lesson_4 (by decide) li_0 (fun h51_ => ?_) (fun h9 => (absurd h9 (by decide)))
    refine w_aload_n dX11_lesson_24 rfl 0 rfl ?_
    refine w_iconst (v := 1) dX11_lesson_25 (by decide) ?_
    refine w_callV (as := [vI 1]) (rest := []) (c_X11_error l G cy ad (d + 1) 1 Mz hIz) kV_X11_error (by decide +kernel) (Nat.le_of_ble_eq_true rfl) m_500 rfl rfl rfl ic_11 rfl rfl (by decide) (Nat.le_of_ble_eq_true rfl) dX11_lesson_26 (fun r52_ M53_ q54_ => ?_)
    obtain ⟨hI56_, hF57_, h55_⟩ := q54_
    have hF58_ := hFz.tr hF57_ (fun c k => (fun h => h.elim (fun h => (Or.inr (Or.inr (Or.inr (Or.inr (Or.inl ⟨h.1, h.2⟩)))))) (fun h => h.elim)))
    exact w_iret rfl dX11_lesson_29 ⟨hI56_, hF58_, trivial⟩
def S_c_X11_posts : rf → Nat → Prop := fun c k => (c.1 = 44 ∧ c.2.1 = 0) ∨ (c.1 = 0 ∧ c.2.1 = 0 ∧ k = 5) ∨ (c.1 = 23 ∧ c.2.1 = 0) ∨ (c.1 = 29 ∧ c.2.1 = 0 ∧ k = 0) ∨ (c.1 = 29 ∧ c.2.1 = 0 ∧ k = 1) ∨ (c.1 = 29 ∧ c.2.1 = 0 ∧ k = 2) ∨ (c.1 = 29 ∧ c.2.1 = 0 ∧ k = 3) ∨ (c.1 = 25 ∧ c.2.1 = 0 ∧ c.2.2 = 0) ∨ (c.1 = 25 ∧ c.2.1 = 0 ∧ c.2.2 = 1) ∨ False
theorem lf_c_X11_posts_0  (u : Int32) (h9_ : 0 ≤ u.toInt ∧ u.toInt ≤ 3) : 0 ≤ u.toInt ∧ u.toInt < ((4 : Nat) : Int) := by have r_u := rngI u; omega
theorem lf_c_X11_posts_1  (t : Int32) (h14_ : 0 ≤ t.toInt ∧ t.toInt ≤ 3) : 0 ≤ t.toInt ∧ t.toInt < ((4 : Nat) : Int) := by have r_t := rngI t; omega
theorem lf_c_X11_posts_2  (u : Int32) (j21_ : Nat) (h9_ : 0 ≤ u.toInt ∧ u.toInt ≤ 3) (h22_ : (j21_ : Int) = u.toInt) (h23_ : j21_ < 4) : 0 ≤ u.toInt ∧ u.toInt < ((4 : Nat) : Int) := by have r_u := rngI u; omega
theorem lf_c_X11_posts_3  (t : Int32) (j36_ : Nat) (h14_ : 0 ≤ t.toInt ∧ t.toInt ≤ 3) (h37_ : (j36_ : Int) = t.toInt) (h38_ : j36_ < 4) : 0 ≤ t.toInt ∧ t.toInt < ((4 : Nat) : Int) := by have r_t := rngI t; omega
theorem lf_c_X11_posts_4  (u : Int32) (j21_ : Nat) (j44_ : Nat) (h9_ : 0 ≤ u.toInt ∧ u.toInt ≤ 3) (h22_ : (j21_ : Int) = u.toInt) (h23_ : j21_ < 4) (h45_ : (j44_ : Int) = u.toInt) (h46_ : j44_ < 4) : 0 ≤ u.toInt ∧ u.toInt < ((4 : Nat) : Int) := by have r_u := rngI u; omega
theorem lf_c_X11_posts_5  (t : Int32) (j36_ : Nat) (j59_ : Nat) (h14_ : 0 ≤ t.toInt ∧ t.toInt ≤ 3) (h37_ : (j36_ : Int) = t.toInt) (h38_ : j36_ < 4) (h60_ : (j59_ : Int) = t.toInt) (h61_ : j59_ < 4) : 0 ≤ t.toInt ∧ t.toInt < ((4 : Nat) : Int) := by have r_t := rngI t; omega
set_option maxHeartbeats 4000000 in
set_option maxRecDepth 100000 in
theorem c_X11_posts (l : Launch) (G : va_G) (cy : Nat → ClassId) (ad : rf → Nat) (d : Nat) (v : Int32) (u : Int32) (t : Int32) (s : Int32) (Mz : mM) (hIz : Inv Mz) : WP CC l G cy ad yX11_posts cX11_posts 5 (some .int) (d + 5) 0 [(0, vR (11, 0, 0)), (1, vI v), (2, vI u), (3, vI t), (4, vI s)] [] Mz (fun r M' => Inv M' ∧ FR (S_c_X11_posts) Mz M' ∧ True) := by
  have hFz : FR (S_c_X11_posts) Mz Mz := FR.self
  refine w_aload_n dX11_posts_0 rfl 0 rfl ?_
  refine w_getR (c' := (10, 0, 0)) fl_RX11_10 rfl rfl ic_11 dX11_posts_1 rfl ?_
  refine w_iload_n dX11_posts_4 rfl 1 rfl ?_
  refine w_callV (as := [vI v]) (rest := []) (c_X10_hasWalker l G cy ad (d + 4) 0 v Mz hIz (by first | decide | (unfold vF; omega) | (unfold vRw; omega))) kV_X10_hasWalker (by decide +kernel) (Nat.le_of_ble_eq_true rfl) m_609 rfl rfl rfl (ic_10 (by decide)) rfl rfl (by decide) (Nat.le_of_ble_eq_true rfl) dX11_posts_5 (fun r1_ M2_ q3_ => ?_)
  obtain ⟨rfl, h4_⟩ := q3_
  rcases h4_ with ⟨rfl, h4_⟩ | rfl
  · refine w_if_eq (tgt := 35) dX11_posts_8 (by decide) li_1 (fun h9 => (absurd h9 (by decide))) (fun h5_ => ?_)
    refine w_iload_n dX11_posts_11 rfl 2 rfl ?_
    refine w_callS (as := [vI u]) (rest := []) (c_X11_isSheet l G cy ad (d + 3) u Mz hIz) kS_X11_isSheet (by decide +kernel) (Nat.le_of_ble_eq_true rfl) m_566 rfl rfl (by decide) (Nat.le_of_ble_eq_true rfl) dX11_posts_12 (fun r6_ M7_ q8_ => ?_)
    obtain ⟨rfl, h9_⟩ := q8_
    rcases h9_ with ⟨rfl, h9_⟩ | ⟨rfl, h9_⟩
    · refine w_if_eq (tgt := 35) dX11_posts_15 (by decide) li_1 (fun h9 => (absurd h9 (by decide))) (fun h10_ => ?_)
      refine w_iload_n dX11_posts_18 rfl 3 rfl ?_
      refine w_callS (as := [vI t]) (rest := []) (c_X11_isSheet l G cy ad (d + 3) t Mz hIz) kS_X11_isSheet (by decide +kernel) (Nat.le_of_ble_eq_true rfl) m_566 rfl rfl (by decide) (Nat.le_of_ble_eq_true rfl) dX11_posts_19 (fun r11_ M12_ q13_ => ?_)
      obtain ⟨rfl, h14_⟩ := q13_
      rcases h14_ with ⟨rfl, h14_⟩ | ⟨rfl, h14_⟩
      · refine w_if_eq (tgt := 35) dX11_posts_22 (by decide) li_1 (fun h9 => (absurd h9 (by decide))) (fun h15_ => ?_)
        refine w_iload dX11_posts_25 4 rfl ?_
        refine w_iconst (v := 0) dX11_posts_27 (by decide) ?_
        refine w_iconst (v := 1) dX11_posts_28 (by decide) ?_
        refine w_callS (as := [vI s, vI 0, vI 1]) (rest := []) (c_X11_within l G cy ad (d + 4) s 0 1 Mz hIz) kS_X11_within (by decide +kernel) (Nat.le_of_ble_eq_true rfl) m_494 rfl rfl (by decide) (Nat.le_of_ble_eq_true rfl) dX11_posts_29 (fun r16_ M17_ q18_ => ?_)
        obtain ⟨rfl, h19_⟩ := q18_
        rcases h19_ with ⟨rfl, h19_⟩ | ⟨rfl, h19_⟩
        · simp only [li_0, li_1] at h19_
          refine w_if_ne (tgt := 41) dX11_posts_32 (by decide) li_1 (fun h20_ => ?_) (fun h9 => (absurd h9 (by decide)))
          refine w_aload_n dX11_posts_41 rfl 0 rfl ?_
          refine w_getR (c' := (43, 0, 0)) fl_RX11_24 rfl rfl ic_11 dX11_posts_42 rfl ?_
          refine w_iload_n dX11_posts_45 rfl 2 rfl ?_
          refine w_aald rfl rfl rfl (fun _ => rfl) ic_43 (rfl : u.toInt = u.toInt) (lf_c_X11_posts_0 u h9_) dX11_posts_46 (fun j21_ h22_ h23_ => ?_)
          refine w_callV (as := []) (rest := []) (c_X6_isMissing l G cy ad (d + 4) j21_ Mz hIz h23_) kV_X6_isMissing (by decide +kernel) (Nat.le_of_ble_eq_true rfl) m_569 rfl rfl rfl (ic_6 h23_) rfl rfl (by decide) (Nat.le_of_ble_eq_true rfl) dX11_posts_47 (fun r24_ M25_ q26_ => ?_)
          obtain ⟨rfl, h27_⟩ := q26_
          refine w_if_ne (tgt := 65) dX11_posts_50 (by decide) (rfl : r24_.toInt = r24_.toInt) (fun h28_ => ?_) (fun h28_ => ?_)
          · refine w_aload_n dX11_posts_65 rfl 0 rfl ?_
            refine w_iconst (v := 2) dX11_posts_66 (by decide) ?_
            refine w_callV (as := [vI 2]) (rest := []) (c_X11_error l G cy ad (d + 4) 2 Mz hIz) kV_X11_error (by decide +kernel) (Nat.le_of_ble_eq_true rfl) m_500 rfl rfl rfl ic_11 rfl rfl (by decide) (Nat.le_of_ble_eq_true rfl) dX11_posts_67 (fun r29_ M30_ q31_ => ?_)
            obtain ⟨hI33_, hF34_, h32_⟩ := q31_
            have hF35_ := hFz.tr hF34_ (fun c k => (fun h => h.elim (fun h => (Or.inl ⟨h.1, h.2⟩)) (fun h => h.elim)))
            exact w_iret rfl dX11_posts_70 ⟨hI33_, hF35_, trivial⟩
          · refine w_aload_n dX11_posts_53 rfl 0 rfl ?_
            refine w_getR (c' := (43, 0, 0)) fl_RX11_24 rfl rfl ic_11 dX11_posts_54 rfl ?_
            refine w_iload_n dX11_posts_57 rfl 3 rfl ?_
            refine w_aald rfl rfl rfl (fun _ => rfl) ic_43 (rfl : t.toInt = t.toInt) (lf_c_X11_posts_1 t h14_) dX11_posts_58 (fun j36_ h37_ h38_ => ?_)
            refine w_callV (as := []) (rest := []) (c_X6_isMissing l G cy ad (d + 4) j36_ Mz hIz h38_) kV_X6_isMissing (by decide +kernel) (Nat.le_of_ble_eq_true rfl) m_569 rfl rfl rfl (ic_6 h38_) rfl rfl (by decide) (Nat.le_of_ble_eq_true rfl) dX11_posts_59 (fun r39_ M40_ q41_ => ?_)
            obtain ⟨rfl, h42_⟩ := q41_
            refine w_if_eq (tgt := 71) dX11_posts_62 (by decide) (rfl : r39_.toInt = r39_.toInt) (fun h43_ => ?_) (fun h43_ => ?_)
            · refine w_aload_n dX11_posts_71 rfl 0 rfl ?_
              refine w_getR (c' := (43, 0, 0)) fl_RX11_24 rfl rfl ic_11 dX11_posts_72 rfl ?_
              refine w_iload_n dX11_posts_75 rfl 2 rfl ?_
              refine w_aald rfl rfl rfl (fun _ => rfl) ic_43 (rfl : u.toInt = u.toInt) (lf_c_X11_posts_2 u j21_ h9_ h22_ h23_) dX11_posts_76 (fun j44_ h45_ h46_ => ?_)
              refine w_callV (as := []) (rest := []) (c_X6_holdsFewCells l G cy ad (d + 2) j44_ Mz hIz h46_) kV_X6_holdsFewCells (by decide +kernel) (Nat.le_of_ble_eq_true rfl) m_978 rfl rfl rfl (ic_6 h46_) rfl rfl (by decide) (Nat.le_of_ble_eq_true rfl) dX11_posts_77 (fun r47_ M48_ q49_ => ?_)
              obtain ⟨rfl, h50_⟩ := q49_
              refine w_if_eq (tgt := 95) dX11_posts_80 (by decide) (rfl : r47_.toInt = r47_.toInt) (fun h51_ => ?_) (fun h51_ => ?_)
              · refine w_aload_n dX11_posts_95 rfl 0 rfl ?_
                refine w_iconst (v := 5) dX11_posts_96 (by decide) ?_
                refine w_callV (as := [vI 5]) (rest := []) (c_X11_error l G cy ad (d + 4) 5 Mz hIz) kV_X11_error (by decide +kernel) (Nat.le_of_ble_eq_true rfl) m_500 rfl rfl rfl ic_11 rfl rfl (by decide) (Nat.le_of_ble_eq_true rfl) dX11_posts_97 (fun r52_ M53_ q54_ => ?_)
                obtain ⟨hI56_, hF57_, h55_⟩ := q54_
                have hF58_ := hFz.tr hF57_ (fun c k => (fun h => h.elim (fun h => (Or.inl ⟨h.1, h.2⟩)) (fun h => h.elim)))
                exact w_iret rfl dX11_posts_100 ⟨hI56_, hF58_, trivial⟩
              · refine w_aload_n dX11_posts_83 rfl 0 rfl ?_
                refine w_getR (c' := (43, 0, 0)) fl_RX11_24 rfl rfl ic_11 dX11_posts_84 rfl ?_
                refine w_iload_n dX11_posts_87 rfl 3 rfl ?_
                refine w_aald rfl rfl rfl (fun _ => rfl) ic_43 (rfl : t.toInt = t.toInt) (lf_c_X11_posts_3 t j36_ h14_ h37_ h38_) dX11_posts_88 (fun j59_ h60_ h61_ => ?_)
                refine w_callV (as := []) (rest := []) (c_X6_holdsFewCells l G cy ad (d + 2) j59_ Mz hIz h61_) kV_X6_holdsFewCells (by decide +kernel) (Nat.le_of_ble_eq_true rfl) m_978 rfl rfl rfl (ic_6 h61_) rfl rfl (by decide) (Nat.le_of_ble_eq_true rfl) dX11_posts_89 (fun r62_ M63_ q64_ => ?_)
                obtain ⟨rfl, h65_⟩ := q64_
                refine w_if_ne (tgt := 101) dX11_posts_92 (by decide) (rfl : r62_.toInt = r62_.toInt) (fun h66_ => ?_) (fun h66_ => ?_)
                · refine w_aload_n dX11_posts_101 rfl 0 rfl ?_
                  refine w_getR (c' := (0, 0, 0)) fl_RX11_42 rfl rfl ic_11 dX11_posts_102 rfl ?_
                  refine w_aload_n dX11_posts_105 rfl 0 rfl ?_
                  refine w_getR (c' := (10, 0, 0)) fl_RX11_10 rfl rfl ic_11 dX11_posts_106 rfl ?_
                  refine w_iload_n dX11_posts_109 rfl 1 rfl ?_
                  refine w_aload_n dX11_posts_110 rfl 0 rfl ?_
                  refine w_getR (c' := (43, 0, 0)) fl_RX11_24 rfl rfl ic_11 dX11_posts_111 rfl ?_
                  refine w_iload_n dX11_posts_114 rfl 2 rfl ?_
                  refine w_aald rfl rfl rfl (fun _ => rfl) ic_43 (rfl : u.toInt = u.toInt) (lf_c_X11_posts_4 u j21_ j44_ h9_ h22_ h23_ h45_ h46_) dX11_posts_115 (fun j67_ h68_ h69_ => ?_)
                  refine w_aload_n dX11_posts_116 rfl 0 rfl ?_
                  refine w_getR (c' := (43, 0, 0)) fl_RX11_24 rfl rfl ic_11 dX11_posts_117 rfl ?_
                  refine w_iload_n dX11_posts_120 rfl 3 rfl ?_
                  refine w_aald rfl rfl rfl (fun _ => rfl) ic_43 (rfl : t.toInt = t.toInt) (lf_c_X11_posts_5 t j36_ j59_ h14_ h37_ h38_ h60_ h61_) dX11_posts_121 (fun j70_ h71_ h72_ => ?_)
                  refine w_callV (as := [vR (10, 0, 0), vI v, vR (6, 0, j67_), vR (6, 0, j70_)]) (rest := []) (c_X0_choosePosts l G cy ad d 0 j67_ j70_ v Mz hIz (by first | decide | (unfold vF; omega) | (unfold vRw; omega)) h69_ h72_) kV_X0_choosePosts (by decide +kernel) (Nat.le_of_ble_eq_true rfl) m_1159 rfl rfl rfl ic_0 rfl rfl (by decide) (Nat.le_of_ble_eq_true rfl) dX11_posts_122 (fun r73_ M74_ q75_ => ?_)
                  obtain ⟨hI77_, hF78_, h76_⟩ := q75_
                  have hF79_ := hFz.tr hF78_ (fun c k => (fun h => h.elim (fun h => (Or.inr (Or.inl ⟨h.1, h.2.1, h.2.2⟩))) (fun h => h.elim (fun h => (Or.inr (Or.inr (Or.inl ⟨h.1, h.2⟩)))) (fun h => h.elim (fun h => (Or.inr (Or.inr (Or.inr (Or.inl ⟨h.1, h.2.1, h.2.2⟩))))) (fun h => h.elim (fun h => (Or.inr (Or.inr (Or.inr (Or.inr (Or.inl ⟨h.1, h.2.1, h.2.2⟩)))))) (fun h => h.elim (fun h => (Or.inr (Or.inr (Or.inr (Or.inr (Or.inr (Or.inl ⟨h.1, h.2.1, h.2.2⟩))))))) (fun h => h.elim (fun h => (Or.inr (Or.inr (Or.inr (Or.inr (Or.inr (Or.inr (Or.inl ⟨h.1, h.2.1, h.2.2⟩)))))))) (fun h => h.elim (fun h => (Or.inr (Or.inr (Or.inr (Or.inr (Or.inr (Or.inr (Or.inr (Or.inl ⟨h.1, h.2.1, h.2.2⟩))))))))) (fun h => h.elim (fun h => (Or.inr (Or.inr (Or.inr (Or.inr (Or.inr (Or.inr (Or.inr (Or.inr (Or.inl ⟨h.1, h.2.1, h.2.2⟩)))))))))) (fun h => h.elim))))))))))
                  refine w_if_ne (tgt := 134) dX11_posts_125 (by decide) (rfl : r73_.toInt = r73_.toInt) (fun h80_ => ?_) (fun h80_ => ?_)
                  · refine w_iload dX11_posts_134 4 rfl ?_
                    refine w_if_ne (tgt := 152) dX11_posts_136 (by decide) (rfl : s.toInt = s.toInt) (fun h81_ => ?_) (fun h81_ => ?_)
                    · refine w_aload_n dX11_posts_152 rfl 0 rfl ?_
                      refine w_getR (c' := (0, 0, 0)) fl_RX11_42 rfl rfl ic_11 dX11_posts_153 rfl ?_
                      refine w_getI fl_RX11_287 rfl rfl ic_0 dX11_posts_156 (fun z82_ e83_ => ?_)
                      exact w_iret rfl dX11_posts_159 ⟨hI77_, hF79_, trivial⟩
                    · refine w_aload_n dX11_posts_139 rfl 0 rfl ?_
                      refine w_getR (c' := (0, 0, 0)) fl_RX11_42 rfl rfl ic_11 dX11_posts_140 rfl ?_
                      refine w_getI fl_RX11_287 rfl rfl ic_0 dX11_posts_143 (fun z84_ e85_ => ?_)
                      refine w_callS (as := [vI z84_]) (rest := []) (c_JI_bitCount l G cy ad (d + 4) z84_ M74_ hI77_) kS_JI_bitCount (by decide +kernel) (Nat.le_of_ble_eq_true rfl) m_1175 rfl rfl (by decide) (Nat.le_of_ble_eq_true rfl) dX11_posts_146 (fun r86_ M87_ q88_ => ?_)
                      obtain ⟨rfl, h89_⟩ := q88_
                      refine w_goto (tgt := 159) dX11_posts_149 (by decide) ?_
                      exact w_iret rfl dX11_posts_159 ⟨hI77_, hF79_, trivial⟩
                  · refine w_aload_n dX11_posts_128 rfl 0 rfl ?_
                    refine w_iconst (v := 3) dX11_posts_129 (by decide) ?_
                    refine w_callV (as := [vI 3]) (rest := []) (c_X11_error l G cy ad (d + 4) 3 M74_ hI77_) kV_X11_error (by decide +kernel) (Nat.le_of_ble_eq_true rfl) m_500 rfl rfl rfl ic_11 rfl rfl (by decide) (Nat.le_of_ble_eq_true rfl) dX11_posts_130 (fun r90_ M91_ q92_ => ?_)
                    obtain ⟨hI94_, hF95_, h93_⟩ := q92_
                    have hF96_ := hF79_.tr hF95_ (fun c k => (fun h => h.elim (fun h => (Or.inl ⟨h.1, h.2⟩)) (fun h => h.elim)))
                    exact w_iret rfl dX11_posts_133 ⟨hI94_, hF96_, trivial⟩
                · refine w_aload_n dX11_posts_95 rfl 0 rfl ?_
                  refine w_iconst (v := 5) dX11_posts_96 (by decide) ?_
                  refine w_callV (as := [vI 5]) (rest := []) (c_X11_error l G cy ad (d + 4) 5 Mz hIz) kV_X11_error (by decide +kernel) (Nat.le_of_ble_eq_true rfl) m_500 rfl rfl rfl ic_11 rfl rfl (by decide) (Nat.le_of_ble_eq_true rfl) dX11_posts_97 (fun r97_ M98_ q99_ => ?_)
                  obtain ⟨hI101_, hF102_, h100_⟩ := q99_
                  have hF103_ := hFz.tr hF102_ (fun c k => (fun h => h.elim (fun h => (Or.inl ⟨h.1, h.2⟩)) (fun h => h.elim)))
                  exact w_iret rfl dX11_posts_100 ⟨hI101_, hF103_, trivial⟩
            · refine w_aload_n dX11_posts_65 rfl 0 rfl ?_
              refine w_iconst (v := 2) dX11_posts_66 (by decide) ?_
              refine w_callV (as := [vI 2]) (rest := []) (c_X11_error l G cy ad (d + 4) 2 Mz hIz) kV_X11_error (by decide +kernel) (Nat.le_of_ble_eq_true rfl) m_500 rfl rfl rfl ic_11 rfl rfl (by decide) (Nat.le_of_ble_eq_true rfl) dX11_posts_67 (fun r104_ M105_ q106_ => ?_)
              obtain ⟨hI108_, hF109_, h107_⟩ := q106_
              have hF110_ := hFz.tr hF109_ (fun c k => (fun h => h.elim (fun h => (Or.inl ⟨h.1, h.2⟩)) (fun h => h.elim)))
              exact w_iret rfl dX11_posts_70 ⟨hI108_, hF110_, trivial⟩
        · simp only [li_0, li_1] at h19_
          refine w_if_ne (tgt := 41) dX11_posts_32 (by decide) li_0 (fun h9 => (absurd h9 (by decide))) (fun h111_ => ?_)
          refine w_aload_n dX11_posts_35 rfl 0 rfl ?_
          refine w_iconst (v := 1) dX11_posts_36 (by decide) ?_
          refine w_callV (as := [vI 1]) (rest := []) (c_X11_error l G cy ad (d + 4) 1 Mz hIz) kV_X11_error (by decide +kernel) (Nat.le_of_ble_eq_true rfl) m_500 rfl rfl rfl ic_11 rfl rfl (by decide) (Nat.le_of_ble_eq_true rfl) dX11_posts_37 (fun r112_ M113_ q114_ => ?_)
          obtain ⟨hI116_, hF117_, h115_⟩ := q114_
          have hF118_ := hFz.tr hF117_ (fun c k => (fun h => h.elim (fun h => (Or.inl ⟨h.1, h.2⟩)) (fun h => h.elim)))
          exact w_iret rfl dX11_posts_40 ⟨hI116_, hF118_, trivial⟩
      · refine w_if_eq (tgt := 35) dX11_posts_22 (by decide) li_0 (fun h119_ => ?_) (fun h9 => (absurd h9 (by decide)))
        refine w_aload_n dX11_posts_35 rfl 0 rfl ?_
        refine w_iconst (v := 1) dX11_posts_36 (by decide) ?_
        refine w_callV (as := [vI 1]) (rest := []) (c_X11_error l G cy ad (d + 4) 1 Mz hIz) kV_X11_error (by decide +kernel) (Nat.le_of_ble_eq_true rfl) m_500 rfl rfl rfl ic_11 rfl rfl (by decide) (Nat.le_of_ble_eq_true rfl) dX11_posts_37 (fun r120_ M121_ q122_ => ?_)
        obtain ⟨hI124_, hF125_, h123_⟩ := q122_
        have hF126_ := hFz.tr hF125_ (fun c k => (fun h => h.elim (fun h => (Or.inl ⟨h.1, h.2⟩)) (fun h => h.elim)))
        exact w_iret rfl dX11_posts_40 ⟨hI124_, hF126_, trivial⟩
    · refine w_if_eq (tgt := 35) dX11_posts_15 (by decide) li_0 (fun h127_ => ?_) (fun h9 => (absurd h9 (by decide)))
      refine w_aload_n dX11_posts_35 rfl 0 rfl ?_
      refine w_iconst (v := 1) dX11_posts_36 (by decide) ?_
      refine w_callV (as := [vI 1]) (rest := []) (c_X11_error l G cy ad (d + 4) 1 Mz hIz) kV_X11_error (by decide +kernel) (Nat.le_of_ble_eq_true rfl) m_500 rfl rfl rfl ic_11 rfl rfl (by decide) (Nat.le_of_ble_eq_true rfl) dX11_posts_37 (fun r128_ M129_ q130_ => ?_)
      obtain ⟨hI132_, hF133_, h131_⟩ := q130_
      have hF134_ := hFz.tr hF133_ (fun c k => (fun h => h.elim (fun h => (Or.inl ⟨h.1, h.2⟩)) (fun h => h.elim)))
      exact w_iret rfl dX11_posts_40 ⟨hI132_, hF134_, trivial⟩
  · refine w_if_eq (tgt := 35) dX11_posts_8 (by decide) li_0 (fun h135_ => ?_) (fun h9 => (absurd h9 (by decide)))
    refine w_aload_n dX11_posts_35 rfl 0 rfl ?_
    refine w_iconst (v := 1) dX11_posts_36 (by decide) ?_
    refine w_callV (as := [vI 1]) (rest := []) (c_X11_error l G cy ad (d + 4) 1 Mz hIz) kV_X11_error (by decide +kernel) (Nat.le_of_ble_eq_true rfl) m_500 rfl rfl rfl ic_11 rfl rfl (by decide) (Nat.le_of_ble_eq_true rfl) dX11_posts_37 (fun r136_ M137_ q138_ => ?_)
    obtain ⟨hI140_, hF141_, h139_⟩ := q138_
    have hF142_ := hFz.tr hF141_ (fun c k => (fun h => h.elim (fun h => (Or.inl ⟨h.1, h.2⟩)) (fun h => h.elim)))
    exact w_iret rfl dX11_posts_40 ⟨hI140_, hF142_, trivial⟩
def S_c_X11_trace : rf → Nat → Prop := fun c k => (c.1 = 44 ∧ c.2.1 = 0) ∨ False
set_option maxHeartbeats 4000000 in
set_option maxRecDepth 100000 in
theorem c_X11_trace (l : Launch) (G : va_G) (cy : Nat → ClassId) (ad : rf → Nat) (d : Nat) (v : Int32) (Mz : mM) (hIz : Inv Mz) : WP CC l G cy ad yX11_trace cX11_trace 2 (some .int) (d + 1) 0 [(0, vR (11, 0, 0)), (1, vI v)] [] Mz (fun r M' => Inv M' ∧ FR (S_c_X11_trace) Mz M' ∧ True) := by
  have hFz : FR (S_c_X11_trace) Mz Mz := FR.self
  refine w_aload_n dX11_trace_0 rfl 0 rfl ?_
  refine w_getR (c' := (8, 0, 0)) fl_RX11_49 rfl rfl ic_11 dX11_trace_1 rfl ?_
  refine w_getR (c' := (5, 3, 5)) fl_RX11_353 rfl rfl ic_8 dX11_trace_4 rfl ?_
  refine w_iload_n dX11_trace_7 rfl 1 rfl ?_
  refine w_callV (as := [vI v]) (rest := []) (c_X5_has l G cy ad d 3 5 v Mz hIz (by first | decide | (unfold vF; omega) | (unfold vRw; omega))) kV_X5_has (by decide +kernel) (Nat.le_of_ble_eq_true rfl) m_1214 rfl rfl rfl (ic_5 (by unfold vRw; omega)) rfl rfl (by decide) (Nat.le_of_ble_eq_true rfl) dX11_trace_8 (fun r1_ M2_ q3_ => ?_)
  obtain ⟨rfl, h4_⟩ := q3_
  refine w_if_ne (tgt := 20) dX11_trace_11 (by decide) (rfl : r1_.toInt = r1_.toInt) (fun h5_ => ?_) (fun h5_ => ?_)
  · refine w_aload_n dX11_trace_20 rfl 0 rfl ?_
    refine w_getR (c' := (8, 0, 0)) fl_RX11_49 rfl rfl ic_11 dX11_trace_21 rfl ?_
    refine w_getR (c' := (5, 3, 5)) fl_RX11_353 rfl rfl ic_8 dX11_trace_24 rfl ?_
    refine w_iload_n dX11_trace_27 rfl 1 rfl ?_
    refine w_callV (as := [vI v]) (rest := []) (c_X5_get l G cy ad d 3 5 v Mz hIz (by first | decide | (unfold vF; omega) | (unfold vRw; omega))) kV_X5_get (by decide +kernel) (Nat.le_of_ble_eq_true rfl) m_1154 rfl rfl rfl (ic_5 (by unfold vRw; omega)) rfl rfl (by decide) (Nat.le_of_ble_eq_true rfl) dX11_trace_28 (fun r6_ M7_ q8_ => ?_)
    obtain ⟨rfl, h9_⟩ := q8_
    exact w_iret rfl dX11_trace_31 ⟨hIz, hFz, trivial⟩
  · refine w_aload_n dX11_trace_14 rfl 0 rfl ?_
    refine w_iconst (v := 2) dX11_trace_15 (by decide) ?_
    refine w_callV (as := [vI 2]) (rest := []) (c_X11_error l G cy ad d 2 Mz hIz) kV_X11_error (by decide +kernel) (Nat.le_of_ble_eq_true rfl) m_500 rfl rfl rfl ic_11 rfl rfl (by decide) (Nat.le_of_ble_eq_true rfl) dX11_trace_16 (fun r10_ M11_ q12_ => ?_)
    obtain ⟨hI14_, hF15_, h13_⟩ := q12_
    have hF16_ := hFz.tr hF15_ (fun c k => (fun h => h.elim (fun h => (Or.inl ⟨h.1, h.2⟩)) (fun h => h.elim)))
    exact w_iret rfl dX11_trace_19 ⟨hI14_, hF16_, trivial⟩
def S_c_X11_sheet : rf → Nat → Prop := fun c k => (c.1 = 6 ∧ c.2.1 = 0 ∧ k = 0) ∨ (c.1 = 6 ∧ c.2.1 = 0 ∧ k = 1) ∨ (c.1 = 34 ∧ c.2.1 = 0) ∨ (c.1 = 44 ∧ c.2.1 = 0) ∨ False
theorem lf_c_X11_sheet_0  (u : Int32) (h6_ : u.toInt = 0) (h9 : ¬ u.toInt = 0) : False := by have r_u := rngI u; omega
theorem lf_c_X11_sheet_1  (v : Int32) (h4_ : 0 ≤ v.toInt ∧ v.toInt ≤ 3) : 0 ≤ v.toInt ∧ v.toInt < ((4 : Nat) : Int) := by have r_v := rngI v; omega
theorem lf_c_X11_sheet_2  (u : Int32) (h6_ : ¬ u.toInt = 0) (h17_ : u.toInt = 8) (h9 : u.toInt = 0) : False := by have r_u := rngI u; omega
theorem lf_c_X11_sheet_3  (v : Int32) (h4_ : 0 ≤ v.toInt ∧ v.toInt ≤ 3) : 0 ≤ v.toInt ∧ v.toInt < ((4 : Nat) : Int) := by have r_v := rngI v; omega
theorem lf_c_X11_sheet_4  (u : Int32) (h6_ : ¬ u.toInt = 0) (h17_ : ¬ u.toInt = 8) (h44_ : u.toInt = 16) (h9 : u.toInt = 0) : False := by have r_u := rngI u; omega
theorem lf_c_X11_sheet_5  (v : Int32) (h4_ : 0 ≤ v.toInt ∧ v.toInt ≤ 3) : 0 ≤ v.toInt ∧ v.toInt < ((4 : Nat) : Int) := by have r_v := rngI v; omega
theorem lf_c_X11_sheet_6  (u : Int32) (h6_ : ¬ u.toInt = 0) (h17_ : ¬ u.toInt = 8) (h44_ : ¬ u.toInt = 16) (h71_ : u.toInt = 32) (h9 : u.toInt = 0) : False := by have r_u := rngI u; omega
theorem lf_c_X11_sheet_7  (v : Int32) (h4_ : 0 ≤ v.toInt ∧ v.toInt ≤ 3) : 0 ≤ v.toInt ∧ v.toInt < ((4 : Nat) : Int) := by have r_v := rngI v; omega
set_option maxHeartbeats 4000000 in
set_option maxRecDepth 100000 in
theorem c_X11_sheet (l : Launch) (G : va_G) (cy : Nat → ClassId) (ad : rf → Nat) (d : Nat) (v : Int32) (u : Int32) (t : Int32) (Mz : mM) (hIz : Inv Mz) : WP CC l G cy ad yX11_sheet cX11_sheet 4 (some .int) (d + 2) 0 [(0, vR (11, 0, 0)), (1, vI v), (2, vI u), (3, vI t)] [] Mz (fun r M' => Inv M' ∧ FR (S_c_X11_sheet) Mz M' ∧ True) := by
  have hFz : FR (S_c_X11_sheet) Mz Mz := FR.self
  refine w_iload_n dX11_sheet_0 rfl 1 rfl ?_
  refine w_callS (as := [vI v]) (rest := []) (c_X11_isSheet l G cy ad d v Mz hIz) kS_X11_isSheet (by decide +kernel) (Nat.le_of_ble_eq_true rfl) m_566 rfl rfl (by decide) (Nat.le_of_ble_eq_true rfl) dX11_sheet_1 (fun r1_ M2_ q3_ => ?_)
  obtain ⟨rfl, h4_⟩ := q3_
  rcases h4_ with ⟨rfl, h4_⟩ | ⟨rfl, h4_⟩
  · refine w_if_eq (tgt := 29) dX11_sheet_4 (by decide) li_1 (fun h9 => (absurd h9 (by decide))) (fun h5_ => ?_)
    refine w_iload_n dX11_sheet_7 rfl 2 rfl ?_
    refine w_if_eq (tgt := 35) dX11_sheet_8 (by decide) (rfl : u.toInt = u.toInt) (fun h6_ => ?_) (fun h6_ => ?_)
    · refine w_iload_n dX11_sheet_35 rfl 2 rfl ?_
      refine w_if_ne (tgt := 50) dX11_sheet_36 (by decide) (rfl : u.toInt = u.toInt) (fun h9 => (lf_c_X11_sheet_0 u h6_ h9).elim) (fun h7_ => ?_)
      refine w_aload_n dX11_sheet_39 rfl 0 rfl ?_
      refine w_getR (c' := (43, 0, 0)) fl_RX11_24 rfl rfl ic_11 dX11_sheet_40 rfl ?_
      refine w_iload_n dX11_sheet_43 rfl 1 rfl ?_
      refine w_aald rfl rfl rfl (fun _ => rfl) ic_43 (rfl : v.toInt = v.toInt) (lf_c_X11_sheet_1 v h4_) dX11_sheet_44 (fun j8_ h9_ h10_ => ?_)
      refine w_callVv (as := []) (rest := []) (c_X6_drop l G cy ad (d + 1) j8_ Mz hIz h10_) kV_X6_drop (by decide +kernel) (Nat.le_of_ble_eq_true rfl) m_1222 rfl rfl rfl (ic_6 h10_) rfl rfl (by decide) (Nat.le_of_ble_eq_true rfl) dX11_sheet_45 (fun M11_ q12_ => ?_)
      obtain ⟨hI14_, hF15_, h13_⟩ := q12_
      have hF16_ := hFz.tr hF15_ (fun c k => (fun h => h.elim (fun h => (Or.inl ⟨h.1, h.2.1, h.2.2.2⟩)) (fun h => h.elim (fun h => (Or.inr (Or.inl ⟨h.1, h.2.1, h.2.2.2⟩))) (fun h => h.elim))))
      refine w_iconst (v := 1) dX11_sheet_48 (by decide) ?_
      exact w_iret rfl dX11_sheet_49 ⟨hI14_, hF16_, trivial⟩
    · refine w_iload_n dX11_sheet_11 rfl 2 rfl ?_
      refine w_bipush (v := 8) dX11_sheet_12 (by decide) ?_
      refine w_icmp_eq (tgt := 35) dX11_sheet_14 (by decide) (rfl : u.toInt = u.toInt) li_8 (fun h17_ => ?_) (fun h17_ => ?_)
      · refine w_iload_n dX11_sheet_35 rfl 2 rfl ?_
        refine w_if_ne (tgt := 50) dX11_sheet_36 (by decide) (rfl : u.toInt = u.toInt) (fun h18_ => ?_) (fun h9 => (lf_c_X11_sheet_2 u h6_ h17_ h9).elim)
        refine w_iload_n dX11_sheet_50 rfl 3 rfl ?_
        refine w_if_ge (tgt := 60) dX11_sheet_51 (by decide) (rfl : t.toInt = t.toInt) (fun h19_ => ?_) (fun h19_ => ?_)
        · refine w_iload_n dX11_sheet_60 rfl 3 rfl ?_
          refine w_bipush (v := 24) dX11_sheet_61 (by decide) ?_
          refine w_icmp_le (tgt := 72) dX11_sheet_63 (by decide) (rfl : t.toInt = t.toInt) li_24 (fun h20_ => ?_) (fun h20_ => ?_)
          · refine w_aload_n dX11_sheet_72 rfl 0 rfl ?_
            refine w_getR (c' := (43, 0, 0)) fl_RX11_24 rfl rfl ic_11 dX11_sheet_73 rfl ?_
            refine w_iload_n dX11_sheet_76 rfl 1 rfl ?_
            refine w_aald rfl rfl rfl (fun _ => rfl) ic_43 (rfl : v.toInt = v.toInt) (lf_c_X11_sheet_3 v h4_) dX11_sheet_77 (fun j21_ h22_ h23_ => ?_)
            refine w_iload_n dX11_sheet_78 rfl 2 rfl ?_
            refine w_iload_n dX11_sheet_79 rfl 3 rfl ?_
            refine w_callVv (as := [vI u, vI t]) (rest := []) (c_X6_begin l G cy ad d j21_ u t Mz hIz h23_) kV_X6_begin (by decide +kernel) (Nat.le_of_ble_eq_true rfl) m_1226 rfl rfl rfl (ic_6 h23_) rfl rfl (by decide) (Nat.le_of_ble_eq_true rfl) dX11_sheet_80 (fun M24_ q25_ => ?_)
            obtain ⟨hI27_, hF28_, h26_⟩ := q25_
            have hF29_ := hFz.tr hF28_ (fun c k => (fun h => h.elim (fun h => (Or.inl ⟨h.1, h.2.1, h.2.2.2⟩)) (fun h => h.elim (fun h => (Or.inr (Or.inl ⟨h.1, h.2.1, h.2.2.2⟩))) (fun h => h.elim (fun h => (Or.inr (Or.inr (Or.inl ⟨h.1, h.2.1⟩)))) (fun h => h.elim)))))
            refine w_iconst (v := 1) dX11_sheet_83 (by decide) ?_
            exact w_iret rfl dX11_sheet_84 ⟨hI27_, hF29_, trivial⟩
          · refine w_aload_n dX11_sheet_66 rfl 0 rfl ?_
            refine w_iconst (v := 1) dX11_sheet_67 (by decide) ?_
            refine w_callV (as := [vI 1]) (rest := []) (c_X11_error l G cy ad (d + 1) 1 Mz hIz) kV_X11_error (by decide +kernel) (Nat.le_of_ble_eq_true rfl) m_500 rfl rfl rfl ic_11 rfl rfl (by decide) (Nat.le_of_ble_eq_true rfl) dX11_sheet_68 (fun r30_ M31_ q32_ => ?_)
            obtain ⟨hI34_, hF35_, h33_⟩ := q32_
            have hF36_ := hFz.tr hF35_ (fun c k => (fun h => h.elim (fun h => (Or.inr (Or.inr (Or.inr (Or.inl ⟨h.1, h.2⟩))))) (fun h => h.elim)))
            exact w_iret rfl dX11_sheet_71 ⟨hI34_, hF36_, trivial⟩
        · refine w_aload_n dX11_sheet_54 rfl 0 rfl ?_
          refine w_iconst (v := 3) dX11_sheet_55 (by decide) ?_
          refine w_callV (as := [vI 3]) (rest := []) (c_X11_error l G cy ad (d + 1) 3 Mz hIz) kV_X11_error (by decide +kernel) (Nat.le_of_ble_eq_true rfl) m_500 rfl rfl rfl ic_11 rfl rfl (by decide) (Nat.le_of_ble_eq_true rfl) dX11_sheet_56 (fun r37_ M38_ q39_ => ?_)
          obtain ⟨hI41_, hF42_, h40_⟩ := q39_
          have hF43_ := hFz.tr hF42_ (fun c k => (fun h => h.elim (fun h => (Or.inr (Or.inr (Or.inr (Or.inl ⟨h.1, h.2⟩))))) (fun h => h.elim)))
          exact w_iret rfl dX11_sheet_59 ⟨hI41_, hF43_, trivial⟩
      · refine w_iload_n dX11_sheet_17 rfl 2 rfl ?_
        refine w_bipush (v := 16) dX11_sheet_18 (by decide) ?_
        refine w_icmp_eq (tgt := 35) dX11_sheet_20 (by decide) (rfl : u.toInt = u.toInt) li_16 (fun h44_ => ?_) (fun h44_ => ?_)
        · refine w_iload_n dX11_sheet_35 rfl 2 rfl ?_
          refine w_if_ne (tgt := 50) dX11_sheet_36 (by decide) (rfl : u.toInt = u.toInt) (fun h45_ => ?_) (fun h9 => (lf_c_X11_sheet_4 u h6_ h17_ h44_ h9).elim)
          refine w_iload_n dX11_sheet_50 rfl 3 rfl ?_
          refine w_if_ge (tgt := 60) dX11_sheet_51 (by decide) (rfl : t.toInt = t.toInt) (fun h46_ => ?_) (fun h46_ => ?_)
          · refine w_iload_n dX11_sheet_60 rfl 3 rfl ?_
            refine w_bipush (v := 24) dX11_sheet_61 (by decide) ?_
            refine w_icmp_le (tgt := 72) dX11_sheet_63 (by decide) (rfl : t.toInt = t.toInt) li_24 (fun h47_ => ?_) (fun h47_ => ?_)
            · refine w_aload_n dX11_sheet_72 rfl 0 rfl ?_
              refine w_getR (c' := (43, 0, 0)) fl_RX11_24 rfl rfl ic_11 dX11_sheet_73 rfl ?_
              refine w_iload_n dX11_sheet_76 rfl 1 rfl ?_
              refine w_aald rfl rfl rfl (fun _ => rfl) ic_43 (rfl : v.toInt = v.toInt) (lf_c_X11_sheet_5 v h4_) dX11_sheet_77 (fun j48_ h49_ h50_ => ?_)
              refine w_iload_n dX11_sheet_78 rfl 2 rfl ?_
              refine w_iload_n dX11_sheet_79 rfl 3 rfl ?_
              refine w_callVv (as := [vI u, vI t]) (rest := []) (c_X6_begin l G cy ad d j48_ u t Mz hIz h50_) kV_X6_begin (by decide +kernel) (Nat.le_of_ble_eq_true rfl) m_1226 rfl rfl rfl (ic_6 h50_) rfl rfl (by decide) (Nat.le_of_ble_eq_true rfl) dX11_sheet_80 (fun M51_ q52_ => ?_)
              obtain ⟨hI54_, hF55_, h53_⟩ := q52_
              have hF56_ := hFz.tr hF55_ (fun c k => (fun h => h.elim (fun h => (Or.inl ⟨h.1, h.2.1, h.2.2.2⟩)) (fun h => h.elim (fun h => (Or.inr (Or.inl ⟨h.1, h.2.1, h.2.2.2⟩))) (fun h => h.elim (fun h => (Or.inr (Or.inr (Or.inl ⟨h.1, h.2.1⟩)))) (fun h => h.elim)))))
              refine w_iconst (v := 1) dX11_sheet_83 (by decide) ?_
              exact w_iret rfl dX11_sheet_84 ⟨hI54_, hF56_, trivial⟩
            · refine w_aload_n dX11_sheet_66 rfl 0 rfl ?_
              refine w_iconst (v := 1) dX11_sheet_67 (by decide) ?_
              refine w_callV (as := [vI 1]) (rest := []) (c_X11_error l G cy ad (d + 1) 1 Mz hIz) kV_X11_error (by decide +kernel) (Nat.le_of_ble_eq_true rfl) m_500 rfl rfl rfl ic_11 rfl rfl (by decide) (Nat.le_of_ble_eq_true rfl) dX11_sheet_68 (fun r57_ M58_ q59_ => ?_)
              obtain ⟨hI61_, hF62_, h60_⟩ := q59_
              have hF63_ := hFz.tr hF62_ (fun c k => (fun h => h.elim (fun h => (Or.inr (Or.inr (Or.inr (Or.inl ⟨h.1, h.2⟩))))) (fun h => h.elim)))
              exact w_iret rfl dX11_sheet_71 ⟨hI61_, hF63_, trivial⟩
          · refine w_aload_n dX11_sheet_54 rfl 0 rfl ?_
            refine w_iconst (v := 3) dX11_sheet_55 (by decide) ?_
            refine w_callV (as := [vI 3]) (rest := []) (c_X11_error l G cy ad (d + 1) 3 Mz hIz) kV_X11_error (by decide +kernel) (Nat.le_of_ble_eq_true rfl) m_500 rfl rfl rfl ic_11 rfl rfl (by decide) (Nat.le_of_ble_eq_true rfl) dX11_sheet_56 (fun r64_ M65_ q66_ => ?_)
            obtain ⟨hI68_, hF69_, h67_⟩ := q66_
            have hF70_ := hFz.tr hF69_ (fun c k => (fun h => h.elim (fun h => (Or.inr (Or.inr (Or.inr (Or.inl ⟨h.1, h.2⟩))))) (fun h => h.elim)))
            exact w_iret rfl dX11_sheet_59 ⟨hI68_, hF70_, trivial⟩
        · refine w_iload_n dX11_sheet_23 rfl 2 rfl ?_
          refine w_bipush (v := 32) dX11_sheet_24 (by decide) ?_
          refine w_icmp_eq (tgt := 35) dX11_sheet_26 (by decide) (rfl : u.toInt = u.toInt) li_32 (fun h71_ => ?_) (fun h71_ => ?_)
          · refine w_iload_n dX11_sheet_35 rfl 2 rfl ?_
            refine w_if_ne (tgt := 50) dX11_sheet_36 (by decide) (rfl : u.toInt = u.toInt) (fun h72_ => ?_) (fun h9 => (lf_c_X11_sheet_6 u h6_ h17_ h44_ h71_ h9).elim)
            refine w_iload_n dX11_sheet_50 rfl 3 rfl ?_
            refine w_if_ge (tgt := 60) dX11_sheet_51 (by decide) (rfl : t.toInt = t.toInt) (fun h73_ => ?_) (fun h73_ => ?_)
            · refine w_iload_n dX11_sheet_60 rfl 3 rfl ?_
              refine w_bipush (v := 24) dX11_sheet_61 (by decide) ?_
              refine w_icmp_le (tgt := 72) dX11_sheet_63 (by decide) (rfl : t.toInt = t.toInt) li_24 (fun h74_ => ?_) (fun h74_ => ?_)
              · refine w_aload_n dX11_sheet_72 rfl 0 rfl ?_
                refine w_getR (c' := (43, 0, 0)) fl_RX11_24 rfl rfl ic_11 dX11_sheet_73 rfl ?_
                refine w_iload_n dX11_sheet_76 rfl 1 rfl ?_
                refine w_aald rfl rfl rfl (fun _ => rfl) ic_43 (rfl : v.toInt = v.toInt) (lf_c_X11_sheet_7 v h4_) dX11_sheet_77 (fun j75_ h76_ h77_ => ?_)
                refine w_iload_n dX11_sheet_78 rfl 2 rfl ?_
                refine w_iload_n dX11_sheet_79 rfl 3 rfl ?_
                refine w_callVv (as := [vI u, vI t]) (rest := []) (c_X6_begin l G cy ad d j75_ u t Mz hIz h77_) kV_X6_begin (by decide +kernel) (Nat.le_of_ble_eq_true rfl) m_1226 rfl rfl rfl (ic_6 h77_) rfl rfl (by decide) (Nat.le_of_ble_eq_true rfl) dX11_sheet_80 (fun M78_ q79_ => ?_)
                obtain ⟨hI81_, hF82_, h80_⟩ := q79_
                have hF83_ := hFz.tr hF82_ (fun c k => (fun h => h.elim (fun h => (Or.inl ⟨h.1, h.2.1, h.2.2.2⟩)) (fun h => h.elim (fun h => (Or.inr (Or.inl ⟨h.1, h.2.1, h.2.2.2⟩))) (fun h => h.elim (fun h => (Or.inr (Or.inr (Or.inl ⟨h.1, h.2.1⟩)))) (fun h => h.elim)))))
                refine w_iconst (v := 1) dX11_sheet_83 (by decide) ?_
                exact w_iret rfl dX11_sheet_84 ⟨hI81_, hF83_, trivial⟩
              · refine w_aload_n dX11_sheet_66 rfl 0 rfl ?_
                refine w_iconst (v := 1) dX11_sheet_67 (by decide) ?_
                refine w_callV (as := [vI 1]) (rest := []) (c_X11_error l G cy ad (d + 1) 1 Mz hIz) kV_X11_error (by decide +kernel) (Nat.le_of_ble_eq_true rfl) m_500 rfl rfl rfl ic_11 rfl rfl (by decide) (Nat.le_of_ble_eq_true rfl) dX11_sheet_68 (fun r84_ M85_ q86_ => ?_)
                obtain ⟨hI88_, hF89_, h87_⟩ := q86_
                have hF90_ := hFz.tr hF89_ (fun c k => (fun h => h.elim (fun h => (Or.inr (Or.inr (Or.inr (Or.inl ⟨h.1, h.2⟩))))) (fun h => h.elim)))
                exact w_iret rfl dX11_sheet_71 ⟨hI88_, hF90_, trivial⟩
            · refine w_aload_n dX11_sheet_54 rfl 0 rfl ?_
              refine w_iconst (v := 3) dX11_sheet_55 (by decide) ?_
              refine w_callV (as := [vI 3]) (rest := []) (c_X11_error l G cy ad (d + 1) 3 Mz hIz) kV_X11_error (by decide +kernel) (Nat.le_of_ble_eq_true rfl) m_500 rfl rfl rfl ic_11 rfl rfl (by decide) (Nat.le_of_ble_eq_true rfl) dX11_sheet_56 (fun r91_ M92_ q93_ => ?_)
              obtain ⟨hI95_, hF96_, h94_⟩ := q93_
              have hF97_ := hFz.tr hF96_ (fun c k => (fun h => h.elim (fun h => (Or.inr (Or.inr (Or.inr (Or.inl ⟨h.1, h.2⟩))))) (fun h => h.elim)))
              exact w_iret rfl dX11_sheet_59 ⟨hI95_, hF97_, trivial⟩
          · refine w_aload_n dX11_sheet_29 rfl 0 rfl ?_
            refine w_iconst (v := 1) dX11_sheet_30 (by decide) ?_
            refine w_callV (as := [vI 1]) (rest := []) (c_X11_error l G cy ad (d + 1) 1 Mz hIz) kV_X11_error (by decide +kernel) (Nat.le_of_ble_eq_true rfl) m_500 rfl rfl rfl ic_11 rfl rfl (by decide) (Nat.le_of_ble_eq_true rfl) dX11_sheet_31 (fun r98_ M99_ q100_ => ?_)
            obtain ⟨hI102_, hF103_, h101_⟩ := q100_
            have hF104_ := hFz.tr hF103_ (fun c k => (fun h => h.elim (fun h => (Or.inr (Or.inr (Or.inr (Or.inl ⟨h.1, h.2⟩))))) (fun h => h.elim)))
            exact w_iret rfl dX11_sheet_34 ⟨hI102_, hF104_, trivial⟩
  · refine w_if_eq (tgt := 29) dX11_sheet_4 (by decide) li_0 (fun h105_ => ?_) (fun h9 => (absurd h9 (by decide)))
    refine w_aload_n dX11_sheet_29 rfl 0 rfl ?_
    refine w_iconst (v := 1) dX11_sheet_30 (by decide) ?_
    refine w_callV (as := [vI 1]) (rest := []) (c_X11_error l G cy ad (d + 1) 1 Mz hIz) kV_X11_error (by decide +kernel) (Nat.le_of_ble_eq_true rfl) m_500 rfl rfl rfl ic_11 rfl rfl (by decide) (Nat.le_of_ble_eq_true rfl) dX11_sheet_31 (fun r106_ M107_ q108_ => ?_)
    obtain ⟨hI110_, hF111_, h109_⟩ := q108_
    have hF112_ := hFz.tr hF111_ (fun c k => (fun h => h.elim (fun h => (Or.inr (Or.inr (Or.inr (Or.inl ⟨h.1, h.2⟩))))) (fun h => h.elim)))
    exact w_iret rfl dX11_sheet_34 ⟨hI110_, hF112_, trivial⟩
def S_c_X11_put : rf → Nat → Prop := fun c k => (c.1 = 34 ∧ c.2.1 = 0) ∨ (c.1 = 44 ∧ c.2.1 = 0) ∨ False
theorem lf_c_X11_put_0  (v : Int32) (h4_ : 0 ≤ v.toInt ∧ v.toInt ≤ 3) : 0 ≤ v.toInt ∧ v.toInt < ((4 : Nat) : Int) := by have r_v := rngI v; omega
theorem lf_c_X11_put_1  (v : Int32) (j6_ : Nat) (h4_ : 0 ≤ v.toInt ∧ v.toInt ≤ 3) (h7_ : (j6_ : Int) = v.toInt) (h8_ : j6_ < 4) : 0 ≤ v.toInt ∧ v.toInt < ((4 : Nat) : Int) := by have r_v := rngI v; omega
theorem lf_c_X11_put_2  (v : Int32) (j6_ : Nat) (j14_ : Nat) (h4_ : 0 ≤ v.toInt ∧ v.toInt ≤ 3) (h7_ : (j6_ : Int) = v.toInt) (h8_ : j6_ < 4) (h15_ : (j14_ : Int) = v.toInt) (h16_ : j14_ < 4) : 0 ≤ v.toInt ∧ v.toInt < ((4 : Nat) : Int) := by have r_v := rngI v; omega
set_option maxHeartbeats 4000000 in
set_option maxRecDepth 100000 in
theorem c_X11_put (l : Launch) (G : va_G) (cy : Nat → ClassId) (ad : rf → Nat) (d : Nat) (v : Int32) (u : Int32) (t : Int32) (Mz : mM) (hIz : Inv Mz) : WP CC l G cy ad yX11_put cX11_put 4 (some .int) (d + 2) 0 [(0, vR (11, 0, 0)), (1, vI v), (2, vI u), (3, vI t)] [] Mz (fun r M' => Inv M' ∧ FR (S_c_X11_put) Mz M' ∧ True) := by
  have hFz : FR (S_c_X11_put) Mz Mz := FR.self
  refine w_iload_n dX11_put_0 rfl 1 rfl ?_
  refine w_callS (as := [vI v]) (rest := []) (c_X11_isSheet l G cy ad d v Mz hIz) kS_X11_isSheet (by decide +kernel) (Nat.le_of_ble_eq_true rfl) m_566 rfl rfl (by decide) (Nat.le_of_ble_eq_true rfl) dX11_put_1 (fun r1_ M2_ q3_ => ?_)
  obtain ⟨rfl, h4_⟩ := q3_
  rcases h4_ with ⟨rfl, h4_⟩ | ⟨rfl, h4_⟩
  · refine w_if_ne (tgt := 13) dX11_put_4 (by decide) li_1 (fun h5_ => ?_) (fun h9 => (absurd h9 (by decide)))
    refine w_aload_n dX11_put_13 rfl 0 rfl ?_
    refine w_getR (c' := (43, 0, 0)) fl_RX11_24 rfl rfl ic_11 dX11_put_14 rfl ?_
    refine w_iload_n dX11_put_17 rfl 1 rfl ?_
    refine w_aald rfl rfl rfl (fun _ => rfl) ic_43 (rfl : v.toInt = v.toInt) (lf_c_X11_put_0 v h4_) dX11_put_18 (fun j6_ h7_ h8_ => ?_)
    refine w_callV (as := []) (rest := []) (c_X6_isMissing l G cy ad (d + 1) j6_ Mz hIz h8_) kV_X6_isMissing (by decide +kernel) (Nat.le_of_ble_eq_true rfl) m_569 rfl rfl rfl (ic_6 h8_) rfl rfl (by decide) (Nat.le_of_ble_eq_true rfl) dX11_put_19 (fun r9_ M10_ q11_ => ?_)
    obtain ⟨rfl, h12_⟩ := q11_
    refine w_if_eq (tgt := 31) dX11_put_22 (by decide) (rfl : r9_.toInt = r9_.toInt) (fun h13_ => ?_) (fun h13_ => ?_)
    · refine w_aload_n dX11_put_31 rfl 0 rfl ?_
      refine w_getR (c' := (43, 0, 0)) fl_RX11_24 rfl rfl ic_11 dX11_put_32 rfl ?_
      refine w_iload_n dX11_put_35 rfl 1 rfl ?_
      refine w_aald rfl rfl rfl (fun _ => rfl) ic_43 (rfl : v.toInt = v.toInt) (lf_c_X11_put_1 v j6_ h4_ h7_ h8_) dX11_put_36 (fun j14_ h15_ h16_ => ?_)
      refine w_iload_n dX11_put_37 rfl 2 rfl ?_
      refine w_callV (as := [vI u]) (rest := []) (c_X6_has l G cy ad (d + 1) j14_ u Mz hIz h16_) kV_X6_has (by decide +kernel) (Nat.le_of_ble_eq_true rfl) m_1236 rfl rfl rfl (ic_6 h16_) rfl rfl (by decide) (Nat.le_of_ble_eq_true rfl) dX11_put_38 (fun r17_ M18_ q19_ => ?_)
      obtain ⟨rfl, h20_⟩ := q19_
      rcases h20_ with ⟨rfl, h20_⟩ | rfl
      · refine w_if_ne (tgt := 50) dX11_put_41 (by decide) li_1 (fun h21_ => ?_) (fun h9 => (absurd h9 (by decide)))
        refine w_aload_n dX11_put_50 rfl 0 rfl ?_
        refine w_getR (c' := (43, 0, 0)) fl_RX11_24 rfl rfl ic_11 dX11_put_51 rfl ?_
        refine w_iload_n dX11_put_54 rfl 1 rfl ?_
        refine w_aald rfl rfl rfl (fun _ => rfl) ic_43 (rfl : v.toInt = v.toInt) (lf_c_X11_put_2 v j6_ j14_ h4_ h7_ h8_ h15_ h16_) dX11_put_55 (fun j22_ h23_ h24_ => ?_)
        refine w_iload_n dX11_put_56 rfl 2 rfl ?_
        refine w_iload_n dX11_put_57 rfl 3 rfl ?_
        refine w_callVv (as := [vI u, vI t]) (rest := []) (c_X6_store l G cy ad d j22_ u t Mz hIz h24_) kV_X6_store (by decide +kernel) (Nat.le_of_ble_eq_true rfl) m_1237 rfl rfl rfl (ic_6 h24_) rfl rfl (by decide) (Nat.le_of_ble_eq_true rfl) dX11_put_58 (fun M25_ q26_ => ?_)
        obtain ⟨hI28_, hF29_, h27_⟩ := q26_
        have hF30_ := hFz.tr hF29_ (fun c k => (fun h => h.elim (fun h => (Or.inl ⟨h.1, h.2.1⟩)) (fun h => h.elim)))
        refine w_iconst (v := 1) dX11_put_61 (by decide) ?_
        exact w_iret rfl dX11_put_62 ⟨hI28_, hF30_, trivial⟩
      · refine w_if_ne (tgt := 50) dX11_put_41 (by decide) li_0 (fun h9 => (absurd h9 (by decide))) (fun h31_ => ?_)
        refine w_aload_n dX11_put_44 rfl 0 rfl ?_
        refine w_iconst (v := 1) dX11_put_45 (by decide) ?_
        refine w_callV (as := [vI 1]) (rest := []) (c_X11_error l G cy ad (d + 1) 1 Mz hIz) kV_X11_error (by decide +kernel) (Nat.le_of_ble_eq_true rfl) m_500 rfl rfl rfl ic_11 rfl rfl (by decide) (Nat.le_of_ble_eq_true rfl) dX11_put_46 (fun r32_ M33_ q34_ => ?_)
        obtain ⟨hI36_, hF37_, h35_⟩ := q34_
        have hF38_ := hFz.tr hF37_ (fun c k => (fun h => h.elim (fun h => (Or.inr (Or.inl ⟨h.1, h.2⟩))) (fun h => h.elim)))
        exact w_iret rfl dX11_put_49 ⟨hI36_, hF38_, trivial⟩
    · refine w_aload_n dX11_put_25 rfl 0 rfl ?_
      refine w_iconst (v := 2) dX11_put_26 (by decide) ?_
      refine w_callV (as := [vI 2]) (rest := []) (c_X11_error l G cy ad (d + 1) 2 Mz hIz) kV_X11_error (by decide +kernel) (Nat.le_of_ble_eq_true rfl) m_500 rfl rfl rfl ic_11 rfl rfl (by decide) (Nat.le_of_ble_eq_true rfl) dX11_put_27 (fun r39_ M40_ q41_ => ?_)
      obtain ⟨hI43_, hF44_, h42_⟩ := q41_
      have hF45_ := hFz.tr hF44_ (fun c k => (fun h => h.elim (fun h => (Or.inr (Or.inl ⟨h.1, h.2⟩))) (fun h => h.elim)))
      exact w_iret rfl dX11_put_30 ⟨hI43_, hF45_, trivial⟩
  · refine w_if_ne (tgt := 13) dX11_put_4 (by decide) li_0 (fun h9 => (absurd h9 (by decide))) (fun h46_ => ?_)
    refine w_aload_n dX11_put_7 rfl 0 rfl ?_
    refine w_iconst (v := 1) dX11_put_8 (by decide) ?_
    refine w_callV (as := [vI 1]) (rest := []) (c_X11_error l G cy ad (d + 1) 1 Mz hIz) kV_X11_error (by decide +kernel) (Nat.le_of_ble_eq_true rfl) m_500 rfl rfl rfl ic_11 rfl rfl (by decide) (Nat.le_of_ble_eq_true rfl) dX11_put_9 (fun r47_ M48_ q49_ => ?_)
    obtain ⟨hI51_, hF52_, h50_⟩ := q49_
    have hF53_ := hFz.tr hF52_ (fun c k => (fun h => h.elim (fun h => (Or.inr (Or.inl ⟨h.1, h.2⟩))) (fun h => h.elim)))
    exact w_iret rfl dX11_put_12 ⟨hI51_, hF53_, trivial⟩
def S_c_X11_move : rf → Nat → Prop := fun c k => (c.1 = 44 ∧ c.2.1 = 0) ∨ (c.1 = 34 ∧ c.2.1 = 0) ∨ False
theorem lf_c_X11_move_0  (v : Int32) (h4_ : 0 ≤ v.toInt ∧ v.toInt ≤ 3) : 0 ≤ v.toInt ∧ v.toInt < ((4 : Nat) : Int) := by have r_v := rngI v; omega
theorem lf_c_X11_move_1  (t : Int32) (h9_ : 0 ≤ t.toInt ∧ t.toInt ≤ 3) : 0 ≤ t.toInt ∧ t.toInt < ((4 : Nat) : Int) := by have r_t := rngI t; omega
theorem lf_c_X11_move_2  (u : Int32) (s : Int32) (q : Int32) (h42_ : 0 ≤ u.toInt ∧ 0 ≤ q.toInt ∧ u.toInt + q.toInt ≤ 24) (h47_ : 0 ≤ s.toInt ∧ 0 ≤ q.toInt ∧ s.toInt + q.toInt ≤ 24) : 0 ≤ u.toInt ∧ 0 ≤ s.toInt ∧ 0 ≤ q.toInt ∧ u.toInt + q.toInt ≤ ((24 : Nat) : Int) ∧ s.toInt + q.toInt ≤ ((24 : Nat) : Int) := by have r_u := rngI u; have r_s := rngI s; have r_q := rngI q; omega
set_option maxHeartbeats 4000000 in
set_option maxRecDepth 100000 in
theorem c_X11_move (l : Launch) (G : va_G) (cy : Nat → ClassId) (ad : rf → Nat) (d : Nat) (v : Int32) (u : Int32) (t : Int32) (s : Int32) (q : Int32) (Mz : mM) (hIz : Inv Mz) : WP CC l G cy ad yX11_move cX11_move 8 (some .int) (d + 2) 0 [(0, vR (11, 0, 0)), (1, vI v), (2, vI u), (3, vI t), (4, vI s), (5, vI q)] [] Mz (fun r M' => Inv M' ∧ FR (S_c_X11_move) Mz M' ∧ True) := by
  have hFz : FR (S_c_X11_move) Mz Mz := FR.self
  refine w_iload_n dX11_move_0 rfl 1 rfl ?_
  refine w_callS (as := [vI v]) (rest := []) (c_X11_isSheet l G cy ad d v Mz hIz) kS_X11_isSheet (by decide +kernel) (Nat.le_of_ble_eq_true rfl) m_566 rfl rfl (by decide) (Nat.le_of_ble_eq_true rfl) dX11_move_1 (fun r1_ M2_ q3_ => ?_)
  obtain ⟨rfl, h4_⟩ := q3_
  rcases h4_ with ⟨rfl, h4_⟩ | ⟨rfl, h4_⟩
  · refine w_if_eq (tgt := 14) dX11_move_4 (by decide) li_1 (fun h9 => (absurd h9 (by decide))) (fun h5_ => ?_)
    refine w_iload_n dX11_move_7 rfl 3 rfl ?_
    refine w_callS (as := [vI t]) (rest := []) (c_X11_isSheet l G cy ad d t Mz hIz) kS_X11_isSheet (by decide +kernel) (Nat.le_of_ble_eq_true rfl) m_566 rfl rfl (by decide) (Nat.le_of_ble_eq_true rfl) dX11_move_8 (fun r6_ M7_ q8_ => ?_)
    obtain ⟨rfl, h9_⟩ := q8_
    rcases h9_ with ⟨rfl, h9_⟩ | ⟨rfl, h9_⟩
    · refine w_if_ne (tgt := 20) dX11_move_11 (by decide) li_1 (fun h10_ => ?_) (fun h9 => (absurd h9 (by decide)))
      refine w_aload_n dX11_move_20 rfl 0 rfl ?_
      refine w_getR (c' := (43, 0, 0)) fl_RX11_24 rfl rfl ic_11 dX11_move_21 rfl ?_
      refine w_iload_n dX11_move_24 rfl 1 rfl ?_
      refine w_aald rfl rfl rfl (fun _ => rfl) ic_43 (rfl : v.toInt = v.toInt) (lf_c_X11_move_0 v h4_) dX11_move_25 (fun j11_ h12_ h13_ => ?_)
      refine w_astore (ls' := [(6, vR (6, 0, j11_)), (0, vR (11, 0, 0)), (1, vI v), (2, vI u), (3, vI t), (4, vI s), (5, vI q)]) dX11_move_26 (by decide) rfl ?_
      refine w_aload_n dX11_move_28 rfl 1 rfl ?_
      refine w_getR (c' := (43, 0, 0)) fl_RX11_24 rfl rfl ic_11 dX11_move_29 rfl ?_
      refine w_iload_n dX11_move_32 rfl 4 rfl ?_
      refine w_aald rfl rfl rfl (fun _ => rfl) ic_43 (rfl : t.toInt = t.toInt) (lf_c_X11_move_1 t h9_) dX11_move_33 (fun j14_ h15_ h16_ => ?_)
      refine w_astore (ls' := [(7, vR (6, 0, j14_)), (6, vR (6, 0, j11_)), (0, vR (11, 0, 0)), (1, vI v), (2, vI u), (3, vI t), (4, vI s), (5, vI q)]) dX11_move_34 (by decide) rfl ?_
      refine w_aload dX11_move_36 1 rfl ?_
      refine w_callV (as := []) (rest := []) (c_X6_isMissing l G cy ad (d + 1) j11_ Mz hIz h13_) kV_X6_isMissing (by decide +kernel) (Nat.le_of_ble_eq_true rfl) m_569 rfl rfl rfl (ic_6 h13_) rfl rfl (by decide) (Nat.le_of_ble_eq_true rfl) dX11_move_38 (fun r17_ M18_ q19_ => ?_)
      obtain ⟨rfl, h20_⟩ := q19_
      refine w_if_ne (tgt := 52) dX11_move_41 (by decide) (rfl : r17_.toInt = r17_.toInt) (fun h21_ => ?_) (fun h21_ => ?_)
      · refine w_aload_n dX11_move_52 rfl 2 rfl ?_
        refine w_iconst (v := 2) dX11_move_53 (by decide) ?_
        refine w_callV (as := [vI 2]) (rest := []) (c_X11_error l G cy ad (d + 1) 2 Mz hIz) kV_X11_error (by decide +kernel) (Nat.le_of_ble_eq_true rfl) m_500 rfl rfl rfl ic_11 rfl rfl (by decide) (Nat.le_of_ble_eq_true rfl) dX11_move_54 (fun r22_ M23_ q24_ => ?_)
        obtain ⟨hI26_, hF27_, h25_⟩ := q24_
        have hF28_ := hFz.tr hF27_ (fun c k => (fun h => h.elim (fun h => (Or.inl ⟨h.1, h.2⟩)) (fun h => h.elim)))
        exact w_iret rfl dX11_move_57 ⟨hI26_, hF28_, trivial⟩
      · refine w_aload dX11_move_44 0 rfl ?_
        refine w_callV (as := []) (rest := []) (c_X6_isMissing l G cy ad (d + 1) j14_ Mz hIz h16_) kV_X6_isMissing (by decide +kernel) (Nat.le_of_ble_eq_true rfl) m_569 rfl rfl rfl (ic_6 h16_) rfl rfl (by decide) (Nat.le_of_ble_eq_true rfl) dX11_move_46 (fun r29_ M30_ q31_ => ?_)
        obtain ⟨rfl, h32_⟩ := q31_
        refine w_if_eq (tgt := 58) dX11_move_49 (by decide) (rfl : r29_.toInt = r29_.toInt) (fun h33_ => ?_) (fun h33_ => ?_)
        · refine w_aload dX11_move_58 1 rfl ?_
          refine w_getI fl_RX11_133 rfl rfl (ic_6 h13_) dX11_move_60 (fun z34_ e35_ => ?_)
          refine w_aload dX11_move_63 0 rfl ?_
          refine w_getI fl_RX11_133 rfl rfl (ic_6 h16_) dX11_move_65 (fun z36_ e37_ => ?_)
          refine w_icmp_eq (tgt := 77) dX11_move_68 (by decide) (rfl : z34_.toInt = z34_.toInt) (rfl : z36_.toInt = z36_.toInt) (fun h38_ => ?_) (fun h38_ => ?_)
          · refine w_aload dX11_move_77 1 rfl ?_
            refine w_iload_n dX11_move_79 rfl 4 rfl ?_
            refine w_iload dX11_move_80 7 rfl ?_
            refine w_callV (as := [vI u, vI q]) (rest := []) (c_X6_hasRun l G cy ad (d + 1) j11_ u q Mz hIz h13_) kV_X6_hasRun (by decide +kernel) (Nat.le_of_ble_eq_true rfl) m_1245 rfl rfl rfl (ic_6 h13_) rfl rfl (by decide) (Nat.le_of_ble_eq_true rfl) dX11_move_82 (fun r39_ M40_ q41_ => ?_)
            obtain ⟨rfl, h42_⟩ := q41_
            rcases h42_ with ⟨rfl, h42_⟩ | rfl
            · refine w_if_eq (tgt := 100) dX11_move_85 (by decide) li_1 (fun h9 => (absurd h9 (by decide))) (fun h43_ => ?_)
              refine w_aload dX11_move_88 0 rfl ?_
              refine w_iload dX11_move_90 6 rfl ?_
              refine w_iload dX11_move_92 7 rfl ?_
              refine w_callV (as := [vI s, vI q]) (rest := []) (c_X6_hasRun l G cy ad (d + 1) j14_ s q Mz hIz h16_) kV_X6_hasRun (by decide +kernel) (Nat.le_of_ble_eq_true rfl) m_1245 rfl rfl rfl (ic_6 h16_) rfl rfl (by decide) (Nat.le_of_ble_eq_true rfl) dX11_move_94 (fun r44_ M45_ q46_ => ?_)
              obtain ⟨rfl, h47_⟩ := q46_
              rcases h47_ with ⟨rfl, h47_⟩ | rfl
              · refine w_if_ne (tgt := 106) dX11_move_97 (by decide) li_1 (fun h48_ => ?_) (fun h9 => (absurd h9 (by decide)))
                refine w_aload dX11_move_106 1 rfl ?_
                refine w_getR (c' := (34, 0, j11_)) fl_RX11_373 rfl rfl (ic_6 h13_) dX11_move_108 rfl ?_
                refine w_iload_n dX11_move_111 rfl 4 rfl ?_
                refine w_aload dX11_move_112 0 rfl ?_
                refine w_getR (c' := (34, 0, j14_)) fl_RX11_373 rfl rfl (ic_6 h16_) dX11_move_114 rfl ?_
                refine w_iload dX11_move_117 6 rfl ?_
                refine w_iload dX11_move_119 7 rfl ?_
                refine w_copy CC_nd rfl rfl (ic_34 h13_) rfl rfl (ic_34 h16_) m_1249 m_830 m_829 m_98 (rfl : u.toInt = u.toInt) (rfl : s.toInt = s.toInt) (rfl : q.toInt = q.toInt) (lf_c_X11_move_2 u s q h42_ h47_) rfl (by omega) dX11_move_121 (fun M49_ hM50_ => ?_)
                have hI51_ := hIz.cpy hM50_ (fun _ _ => trivial)
                have hF52_ := hFz.cpy hM50_ (fun _ => (Or.inr (Or.inl ⟨rfl, rfl⟩)))
                refine w_iload dX11_move_124 7 rfl ?_
                exact w_iret rfl dX11_move_126 ⟨hI51_, hF52_, trivial⟩
              · refine w_if_ne (tgt := 106) dX11_move_97 (by decide) li_0 (fun h9 => (absurd h9 (by decide))) (fun h53_ => ?_)
                refine w_aload_n dX11_move_100 rfl 2 rfl ?_
                refine w_iconst (v := 1) dX11_move_101 (by decide) ?_
                refine w_callV (as := [vI 1]) (rest := []) (c_X11_error l G cy ad (d + 1) 1 Mz hIz) kV_X11_error (by decide +kernel) (Nat.le_of_ble_eq_true rfl) m_500 rfl rfl rfl ic_11 rfl rfl (by decide) (Nat.le_of_ble_eq_true rfl) dX11_move_102 (fun r54_ M55_ q56_ => ?_)
                obtain ⟨hI58_, hF59_, h57_⟩ := q56_
                have hF60_ := hFz.tr hF59_ (fun c k => (fun h => h.elim (fun h => (Or.inl ⟨h.1, h.2⟩)) (fun h => h.elim)))
                exact w_iret rfl dX11_move_105 ⟨hI58_, hF60_, trivial⟩
            · refine w_if_eq (tgt := 100) dX11_move_85 (by decide) li_0 (fun h61_ => ?_) (fun h9 => (absurd h9 (by decide)))
              refine w_aload_n dX11_move_100 rfl 2 rfl ?_
              refine w_iconst (v := 1) dX11_move_101 (by decide) ?_
              refine w_callV (as := [vI 1]) (rest := []) (c_X11_error l G cy ad (d + 1) 1 Mz hIz) kV_X11_error (by decide +kernel) (Nat.le_of_ble_eq_true rfl) m_500 rfl rfl rfl ic_11 rfl rfl (by decide) (Nat.le_of_ble_eq_true rfl) dX11_move_102 (fun r62_ M63_ q64_ => ?_)
              obtain ⟨hI66_, hF67_, h65_⟩ := q64_
              have hF68_ := hFz.tr hF67_ (fun c k => (fun h => h.elim (fun h => (Or.inl ⟨h.1, h.2⟩)) (fun h => h.elim)))
              exact w_iret rfl dX11_move_105 ⟨hI66_, hF68_, trivial⟩
          · refine w_aload_n dX11_move_71 rfl 2 rfl ?_
            refine w_iconst (v := 5) dX11_move_72 (by decide) ?_
            refine w_callV (as := [vI 5]) (rest := []) (c_X11_error l G cy ad (d + 1) 5 Mz hIz) kV_X11_error (by decide +kernel) (Nat.le_of_ble_eq_true rfl) m_500 rfl rfl rfl ic_11 rfl rfl (by decide) (Nat.le_of_ble_eq_true rfl) dX11_move_73 (fun r69_ M70_ q71_ => ?_)
            obtain ⟨hI73_, hF74_, h72_⟩ := q71_
            have hF75_ := hFz.tr hF74_ (fun c k => (fun h => h.elim (fun h => (Or.inl ⟨h.1, h.2⟩)) (fun h => h.elim)))
            exact w_iret rfl dX11_move_76 ⟨hI73_, hF75_, trivial⟩
        · refine w_aload_n dX11_move_52 rfl 2 rfl ?_
          refine w_iconst (v := 2) dX11_move_53 (by decide) ?_
          refine w_callV (as := [vI 2]) (rest := []) (c_X11_error l G cy ad (d + 1) 2 Mz hIz) kV_X11_error (by decide +kernel) (Nat.le_of_ble_eq_true rfl) m_500 rfl rfl rfl ic_11 rfl rfl (by decide) (Nat.le_of_ble_eq_true rfl) dX11_move_54 (fun r76_ M77_ q78_ => ?_)
          obtain ⟨hI80_, hF81_, h79_⟩ := q78_
          have hF82_ := hFz.tr hF81_ (fun c k => (fun h => h.elim (fun h => (Or.inl ⟨h.1, h.2⟩)) (fun h => h.elim)))
          exact w_iret rfl dX11_move_57 ⟨hI80_, hF82_, trivial⟩
    · refine w_if_ne (tgt := 20) dX11_move_11 (by decide) li_0 (fun h9 => (absurd h9 (by decide))) (fun h83_ => ?_)
      refine w_aload_n dX11_move_14 rfl 0 rfl ?_
      refine w_iconst (v := 1) dX11_move_15 (by decide) ?_
      refine w_callV (as := [vI 1]) (rest := []) (c_X11_error l G cy ad (d + 1) 1 Mz hIz) kV_X11_error (by decide +kernel) (Nat.le_of_ble_eq_true rfl) m_500 rfl rfl rfl ic_11 rfl rfl (by decide) (Nat.le_of_ble_eq_true rfl) dX11_move_16 (fun r84_ M85_ q86_ => ?_)
      obtain ⟨hI88_, hF89_, h87_⟩ := q86_
      have hF90_ := hFz.tr hF89_ (fun c k => (fun h => h.elim (fun h => (Or.inl ⟨h.1, h.2⟩)) (fun h => h.elim)))
      exact w_iret rfl dX11_move_19 ⟨hI88_, hF90_, trivial⟩
  · refine w_if_eq (tgt := 14) dX11_move_4 (by decide) li_0 (fun h91_ => ?_) (fun h9 => (absurd h9 (by decide)))
    refine w_aload_n dX11_move_14 rfl 0 rfl ?_
    refine w_iconst (v := 1) dX11_move_15 (by decide) ?_
    refine w_callV (as := [vI 1]) (rest := []) (c_X11_error l G cy ad (d + 1) 1 Mz hIz) kV_X11_error (by decide +kernel) (Nat.le_of_ble_eq_true rfl) m_500 rfl rfl rfl ic_11 rfl rfl (by decide) (Nat.le_of_ble_eq_true rfl) dX11_move_16 (fun r92_ M93_ q94_ => ?_)
    obtain ⟨hI96_, hF97_, h95_⟩ := q94_
    have hF98_ := hFz.tr hF97_ (fun c k => (fun h => h.elim (fun h => (Or.inl ⟨h.1, h.2⟩)) (fun h => h.elim)))
    exact w_iret rfl dX11_move_19 ⟨hI96_, hF98_, trivial⟩
def S_c_X11_image : rf → Nat → Prop := fun c k => (c.1 = 35 ∧ c.2.1 = 1) ∨ (c.1 = 36 ∧ c.2.1 = 1) ∨ (c.1 = 37 ∧ c.2.1 = 1) ∨ (c.1 = 38 ∧ c.2.1 = 1) ∨ (c.1 = 39 ∧ c.2.1 = 1) ∨ (c.1 = 7 ∧ c.2.1 = 1 ∧ k = 5) ∨ (c.1 = 2 ∧ c.2.1 = 1 ∧ k = 0) ∨ (c.1 = 2 ∧ c.2.1 = 1 ∧ k = 1) ∨ (c.1 = 2 ∧ c.2.1 = 1 ∧ k = 2) ∨ (c.1 = 26 ∧ c.2.1 = 1) ∨ (c.1 = 27 ∧ c.2.1 = 1) ∨ (c.1 = 1 ∧ c.2.1 = 1 ∧ k = 2) ∨ (c.1 = 24 ∧ c.2.1 = 1) ∨ (c.1 = 30 ∧ c.2.1 = 1) ∨ (c.1 = 31 ∧ c.2.1 = 1) ∨ (c.1 = 32 ∧ c.2.1 = 1) ∨ (c.1 = 3 ∧ c.2.1 = 1 ∧ k = 3) ∨ (c.1 = 5 ∧ c.2.1 = 1 ∧ c.2.2 = 0 ∧ k = 1) ∨ (c.1 = 33 ∧ c.2.1 = 1 ∧ c.2.2 = 0) ∨ (c.1 = 5 ∧ c.2.1 = 1 ∧ c.2.2 = 1 ∧ k = 1) ∨ (c.1 = 33 ∧ c.2.1 = 1 ∧ c.2.2 = 1) ∨ (c.1 = 10 ∧ c.2.1 = 1 ∧ k = 6) ∨ (c.1 = 10 ∧ c.2.1 = 1 ∧ k = 7) ∨ (c.1 = 9 ∧ c.2.1 = 1 ∧ k = 0) ∨ (c.1 = 9 ∧ c.2.1 = 1 ∧ k = 1) ∨ (c.1 = 9 ∧ c.2.1 = 1 ∧ k = 2) ∨ (c.1 = 9 ∧ c.2.1 = 1 ∧ k = 3) ∨ (c.1 = 9 ∧ c.2.1 = 1 ∧ k = 4) ∨ (c.1 = 9 ∧ c.2.1 = 1 ∧ k = 5) ∨ (c.1 = 9 ∧ c.2.1 = 1 ∧ k = 6) ∨ (c.1 = 9 ∧ c.2.1 = 1 ∧ k = 7) ∨ (c.1 = 9 ∧ c.2.1 = 1 ∧ k = 8) ∨ (c.1 = 40 ∧ c.2.1 = 1) ∨ (c.1 = 41 ∧ c.2.1 = 1) ∨ (c.1 = 11 ∧ c.2.1 = 0 ∧ k = 8) ∨ False
set_option maxHeartbeats 4000000 in
set_option maxRecDepth 100000 in
theorem c_X11_image (l : Launch) (G : va_G) (cy : Nat → ClassId) (ad : rf → Nat) (d : Nat) (Mz : mM) (hIz : Inv Mz) : WP CC l G cy ad yX11_image cX11_image 1 (some .int) (d + 4) 0 [(0, vR (11, 0, 0))] [] Mz (fun r M' => Inv M' ∧ FR (S_c_X11_image) Mz M' ∧ True) := by
  have hFz : FR (S_c_X11_image) Mz Mz := FR.self
  refine w_aload_n dX11_image_0 rfl 0 rfl ?_
  refine w_getR (c' := (10, 1, 0)) fl_RX11_16 rfl rfl ic_11 dX11_image_1 rfl ?_
  refine w_aload_n dX11_image_4 rfl 0 rfl ?_
  refine w_getR (c' := (10, 0, 0)) fl_RX11_10 rfl rfl ic_11 dX11_image_5 rfl ?_
  refine w_callVv (as := [vR (10, 0, 0)]) (rest := []) (c_X10_takeFrom l G cy ad d 1 0 Mz hIz (by first | decide | (unfold vF; omega) | (unfold vRw; omega)) (by first | decide | (unfold vF; omega) | (unfold vRw; omega))) kV_X10_takeFrom (by decide +kernel) (Nat.le_of_ble_eq_true rfl) m_1254 rfl rfl rfl (ic_10 (by decide)) rfl rfl (by decide) (Nat.le_of_ble_eq_true rfl) dX11_image_8 (fun M1_ q2_ => ?_)
  obtain ⟨hI4_, hF5_, h3_⟩ := q2_
  have hF6_ := hFz.tr hF5_ (fun c k => (fun h => h.elim (fun h => (Or.inl ⟨h.1, h.2⟩)) (fun h => h.elim (fun h => (Or.inr (Or.inl ⟨h.1, h.2⟩))) (fun h => h.elim (fun h => (Or.inr (Or.inr (Or.inl ⟨h.1, h.2⟩)))) (fun h => h.elim (fun h => (Or.inr (Or.inr (Or.inr (Or.inl ⟨h.1, h.2⟩))))) (fun h => h.elim (fun h => (Or.inr (Or.inr (Or.inr (Or.inr (Or.inl ⟨h.1, h.2⟩)))))) (fun h => h.elim (fun h => (Or.inr (Or.inr (Or.inr (Or.inr (Or.inr (Or.inl ⟨h.1, h.2.1, h.2.2⟩))))))) (fun h => h.elim (fun h => (Or.inr (Or.inr (Or.inr (Or.inr (Or.inr (Or.inr (Or.inl ⟨h.1, h.2.1, h.2.2⟩)))))))) (fun h => h.elim (fun h => (Or.inr (Or.inr (Or.inr (Or.inr (Or.inr (Or.inr (Or.inr (Or.inl ⟨h.1, h.2.1, h.2.2⟩))))))))) (fun h => h.elim (fun h => (Or.inr (Or.inr (Or.inr (Or.inr (Or.inr (Or.inr (Or.inr (Or.inr (Or.inl ⟨h.1, h.2.1, h.2.2⟩)))))))))) (fun h => h.elim (fun h => (Or.inr (Or.inr (Or.inr (Or.inr (Or.inr (Or.inr (Or.inr (Or.inr (Or.inr (Or.inl ⟨h.1, h.2⟩))))))))))) (fun h => h.elim (fun h => (Or.inr (Or.inr (Or.inr (Or.inr (Or.inr (Or.inr (Or.inr (Or.inr (Or.inr (Or.inr (Or.inl ⟨h.1, h.2⟩)))))))))))) (fun h => h.elim (fun h => (Or.inr (Or.inr (Or.inr (Or.inr (Or.inr (Or.inr (Or.inr (Or.inr (Or.inr (Or.inr (Or.inr (Or.inl ⟨h.1, h.2.1, h.2.2⟩))))))))))))) (fun h => h.elim (fun h => (Or.inr (Or.inr (Or.inr (Or.inr (Or.inr (Or.inr (Or.inr (Or.inr (Or.inr (Or.inr (Or.inr (Or.inr (Or.inl ⟨h.1, h.2⟩)))))))))))))) (fun h => h.elim (fun h => (Or.inr (Or.inr (Or.inr (Or.inr (Or.inr (Or.inr (Or.inr (Or.inr (Or.inr (Or.inr (Or.inr (Or.inr (Or.inr (Or.inl ⟨h.1, h.2⟩))))))))))))))) (fun h => h.elim (fun h => (Or.inr (Or.inr (Or.inr (Or.inr (Or.inr (Or.inr (Or.inr (Or.inr (Or.inr (Or.inr (Or.inr (Or.inr (Or.inr (Or.inr (Or.inl ⟨h.1, h.2⟩)))))))))))))))) (fun h => h.elim (fun h => (Or.inr (Or.inr (Or.inr (Or.inr (Or.inr (Or.inr (Or.inr (Or.inr (Or.inr (Or.inr (Or.inr (Or.inr (Or.inr (Or.inr (Or.inr (Or.inl ⟨h.1, h.2⟩))))))))))))))))) (fun h => h.elim (fun h => (Or.inr (Or.inr (Or.inr (Or.inr (Or.inr (Or.inr (Or.inr (Or.inr (Or.inr (Or.inr (Or.inr (Or.inr (Or.inr (Or.inr (Or.inr (Or.inr (Or.inl ⟨h.1, h.2.1, h.2.2⟩)))))))))))))))))) (fun h => h.elim (fun h => (Or.inr (Or.inr (Or.inr (Or.inr (Or.inr (Or.inr (Or.inr (Or.inr (Or.inr (Or.inr (Or.inr (Or.inr (Or.inr (Or.inr (Or.inr (Or.inr (Or.inr (Or.inl ⟨h.1, h.2.1, h.2.2.1, h.2.2.2⟩))))))))))))))))))) (fun h => h.elim (fun h => (Or.inr (Or.inr (Or.inr (Or.inr (Or.inr (Or.inr (Or.inr (Or.inr (Or.inr (Or.inr (Or.inr (Or.inr (Or.inr (Or.inr (Or.inr (Or.inr (Or.inr (Or.inr (Or.inl ⟨h.1, h.2.1, h.2.2⟩)))))))))))))))))))) (fun h => h.elim (fun h => (Or.inr (Or.inr (Or.inr (Or.inr (Or.inr (Or.inr (Or.inr (Or.inr (Or.inr (Or.inr (Or.inr (Or.inr (Or.inr (Or.inr (Or.inr (Or.inr (Or.inr (Or.inr (Or.inr (Or.inl ⟨h.1, h.2.1, h.2.2.1, h.2.2.2⟩))))))))))))))))))))) (fun h => h.elim (fun h => (Or.inr (Or.inr (Or.inr (Or.inr (Or.inr (Or.inr (Or.inr (Or.inr (Or.inr (Or.inr (Or.inr (Or.inr (Or.inr (Or.inr (Or.inr (Or.inr (Or.inr (Or.inr (Or.inr (Or.inr (Or.inl ⟨h.1, h.2.1, h.2.2⟩)))))))))))))))))))))) (fun h => h.elim (fun h => (Or.inr (Or.inr (Or.inr (Or.inr (Or.inr (Or.inr (Or.inr (Or.inr (Or.inr (Or.inr (Or.inr (Or.inr (Or.inr (Or.inr (Or.inr (Or.inr (Or.inr (Or.inr (Or.inr (Or.inr (Or.inr (Or.inl ⟨h.1, h.2.1, h.2.2⟩))))))))))))))))))))))) (fun h => h.elim (fun h => (Or.inr (Or.inr (Or.inr (Or.inr (Or.inr (Or.inr (Or.inr (Or.inr (Or.inr (Or.inr (Or.inr (Or.inr (Or.inr (Or.inr (Or.inr (Or.inr (Or.inr (Or.inr (Or.inr (Or.inr (Or.inr (Or.inr (Or.inl ⟨h.1, h.2.1, h.2.2⟩)))))))))))))))))))))))) (fun h => h.elim (fun h => (Or.inr (Or.inr (Or.inr (Or.inr (Or.inr (Or.inr (Or.inr (Or.inr (Or.inr (Or.inr (Or.inr (Or.inr (Or.inr (Or.inr (Or.inr (Or.inr (Or.inr (Or.inr (Or.inr (Or.inr (Or.inr (Or.inr (Or.inr (Or.inl ⟨h.1, h.2.1, h.2.2⟩))))))))))))))))))))))))) (fun h => h.elim (fun h => (Or.inr (Or.inr (Or.inr (Or.inr (Or.inr (Or.inr (Or.inr (Or.inr (Or.inr (Or.inr (Or.inr (Or.inr (Or.inr (Or.inr (Or.inr (Or.inr (Or.inr (Or.inr (Or.inr (Or.inr (Or.inr (Or.inr (Or.inr (Or.inr (Or.inl ⟨h.1, h.2.1, h.2.2⟩)))))))))))))))))))))))))) (fun h => h.elim (fun h => (Or.inr (Or.inr (Or.inr (Or.inr (Or.inr (Or.inr (Or.inr (Or.inr (Or.inr (Or.inr (Or.inr (Or.inr (Or.inr (Or.inr (Or.inr (Or.inr (Or.inr (Or.inr (Or.inr (Or.inr (Or.inr (Or.inr (Or.inr (Or.inr (Or.inr (Or.inl ⟨h.1, h.2.1, h.2.2⟩))))))))))))))))))))))))))) (fun h => h.elim (fun h => (Or.inr (Or.inr (Or.inr (Or.inr (Or.inr (Or.inr (Or.inr (Or.inr (Or.inr (Or.inr (Or.inr (Or.inr (Or.inr (Or.inr (Or.inr (Or.inr (Or.inr (Or.inr (Or.inr (Or.inr (Or.inr (Or.inr (Or.inr (Or.inr (Or.inr (Or.inr (Or.inl ⟨h.1, h.2.1, h.2.2⟩)))))))))))))))))))))))))))) (fun h => h.elim (fun h => (Or.inr (Or.inr (Or.inr (Or.inr (Or.inr (Or.inr (Or.inr (Or.inr (Or.inr (Or.inr (Or.inr (Or.inr (Or.inr (Or.inr (Or.inr (Or.inr (Or.inr (Or.inr (Or.inr (Or.inr (Or.inr (Or.inr (Or.inr (Or.inr (Or.inr (Or.inr (Or.inr (Or.inl ⟨h.1, h.2.1, h.2.2⟩))))))))))))))))))))))))))))) (fun h => h.elim (fun h => (Or.inr (Or.inr (Or.inr (Or.inr (Or.inr (Or.inr (Or.inr (Or.inr (Or.inr (Or.inr (Or.inr (Or.inr (Or.inr (Or.inr (Or.inr (Or.inr (Or.inr (Or.inr (Or.inr (Or.inr (Or.inr (Or.inr (Or.inr (Or.inr (Or.inr (Or.inr (Or.inr (Or.inr (Or.inl ⟨h.1, h.2.1, h.2.2⟩)))))))))))))))))))))))))))))) (fun h => h.elim (fun h => (Or.inr (Or.inr (Or.inr (Or.inr (Or.inr (Or.inr (Or.inr (Or.inr (Or.inr (Or.inr (Or.inr (Or.inr (Or.inr (Or.inr (Or.inr (Or.inr (Or.inr (Or.inr (Or.inr (Or.inr (Or.inr (Or.inr (Or.inr (Or.inr (Or.inr (Or.inr (Or.inr (Or.inr (Or.inr (Or.inl ⟨h.1, h.2.1, h.2.2⟩))))))))))))))))))))))))))))))) (fun h => h.elim (fun h => (Or.inr (Or.inr (Or.inr (Or.inr (Or.inr (Or.inr (Or.inr (Or.inr (Or.inr (Or.inr (Or.inr (Or.inr (Or.inr (Or.inr (Or.inr (Or.inr (Or.inr (Or.inr (Or.inr (Or.inr (Or.inr (Or.inr (Or.inr (Or.inr (Or.inr (Or.inr (Or.inr (Or.inr (Or.inr (Or.inr (Or.inl ⟨h.1, h.2.1, h.2.2⟩)))))))))))))))))))))))))))))))) (fun h => h.elim (fun h => (Or.inr (Or.inr (Or.inr (Or.inr (Or.inr (Or.inr (Or.inr (Or.inr (Or.inr (Or.inr (Or.inr (Or.inr (Or.inr (Or.inr (Or.inr (Or.inr (Or.inr (Or.inr (Or.inr (Or.inr (Or.inr (Or.inr (Or.inr (Or.inr (Or.inr (Or.inr (Or.inr (Or.inr (Or.inr (Or.inr (Or.inr (Or.inl ⟨h.1, h.2.1, h.2.2⟩))))))))))))))))))))))))))))))))) (fun h => h.elim (fun h => (Or.inr (Or.inr (Or.inr (Or.inr (Or.inr (Or.inr (Or.inr (Or.inr (Or.inr (Or.inr (Or.inr (Or.inr (Or.inr (Or.inr (Or.inr (Or.inr (Or.inr (Or.inr (Or.inr (Or.inr (Or.inr (Or.inr (Or.inr (Or.inr (Or.inr (Or.inr (Or.inr (Or.inr (Or.inr (Or.inr (Or.inr (Or.inr (Or.inl ⟨h.1, h.2⟩)))))))))))))))))))))))))))))))))) (fun h => h.elim (fun h => (Or.inr (Or.inr (Or.inr (Or.inr (Or.inr (Or.inr (Or.inr (Or.inr (Or.inr (Or.inr (Or.inr (Or.inr (Or.inr (Or.inr (Or.inr (Or.inr (Or.inr (Or.inr (Or.inr (Or.inr (Or.inr (Or.inr (Or.inr (Or.inr (Or.inr (Or.inr (Or.inr (Or.inr (Or.inr (Or.inr (Or.inr (Or.inr (Or.inr (Or.inl ⟨h.1, h.2⟩))))))))))))))))))))))))))))))))))) (fun h => h.elim))))))))))))))))))))))))))))))))))))
  refine w_aload_n dX11_image_11 rfl 0 rfl ?_
  refine w_dup dX11_image_12 rfl ?_
  refine w_getI fl_RX11_53 rfl rfl ic_11 dX11_image_13 (fun z7_ e8_ => ?_)
  refine w_iconst (v := 1) dX11_image_16 (by decide) ?_
  refine w_iadd dX11_image_17 (fun z9_ _ => ?_)
  refine w_putI CC_nd fl_RX11_53 rfl rfl ic_11 dX11_image_18 (fun M10_ hM11_ => ?_)
  have hI12_ := hI4_.put hM11_ trivial
  have hF13_ := hF6_.put hM11_ (Or.inr (Or.inr (Or.inr (Or.inr (Or.inr (Or.inr (Or.inr (Or.inr (Or.inr (Or.inr (Or.inr (Or.inr (Or.inr (Or.inr (Or.inr (Or.inr (Or.inr (Or.inr (Or.inr (Or.inr (Or.inr (Or.inr (Or.inr (Or.inr (Or.inr (Or.inr (Or.inr (Or.inr (Or.inr (Or.inr (Or.inr (Or.inr (Or.inr (Or.inr (Or.inl ⟨rfl, rfl, rfl⟩)))))))))))))))))))))))))))))))))))
  refine w_aload_n dX11_image_21 rfl 0 rfl ?_
  refine w_getI fl_RX11_53 rfl rfl ic_11 dX11_image_22 (fun z14_ e15_ => ?_)
  exact w_iret rfl dX11_image_25 ⟨hI12_, hF13_, trivial⟩
def S_c_X11_restore : rf → Nat → Prop := fun c k => (c.1 = 35 ∧ c.2.1 = 0) ∨ (c.1 = 36 ∧ c.2.1 = 0) ∨ (c.1 = 37 ∧ c.2.1 = 0) ∨ (c.1 = 38 ∧ c.2.1 = 0) ∨ (c.1 = 39 ∧ c.2.1 = 0) ∨ (c.1 = 7 ∧ c.2.1 = 0 ∧ k = 5) ∨ (c.1 = 2 ∧ c.2.1 = 0 ∧ k = 0) ∨ (c.1 = 2 ∧ c.2.1 = 0 ∧ k = 1) ∨ (c.1 = 2 ∧ c.2.1 = 0 ∧ k = 2) ∨ (c.1 = 26 ∧ c.2.1 = 0) ∨ (c.1 = 27 ∧ c.2.1 = 0) ∨ (c.1 = 1 ∧ c.2.1 = 0 ∧ k = 2) ∨ (c.1 = 24 ∧ c.2.1 = 0) ∨ (c.1 = 30 ∧ c.2.1 = 0) ∨ (c.1 = 31 ∧ c.2.1 = 0) ∨ (c.1 = 32 ∧ c.2.1 = 0) ∨ (c.1 = 3 ∧ c.2.1 = 0 ∧ k = 3) ∨ (c.1 = 5 ∧ c.2.1 = 0 ∧ c.2.2 = 0 ∧ k = 1) ∨ (c.1 = 33 ∧ c.2.1 = 0 ∧ c.2.2 = 0) ∨ (c.1 = 5 ∧ c.2.1 = 0 ∧ c.2.2 = 1 ∧ k = 1) ∨ (c.1 = 33 ∧ c.2.1 = 0 ∧ c.2.2 = 1) ∨ (c.1 = 10 ∧ c.2.1 = 0 ∧ k = 6) ∨ (c.1 = 10 ∧ c.2.1 = 0 ∧ k = 7) ∨ (c.1 = 9 ∧ c.2.1 = 0 ∧ k = 0) ∨ (c.1 = 9 ∧ c.2.1 = 0 ∧ k = 1) ∨ (c.1 = 9 ∧ c.2.1 = 0 ∧ k = 2) ∨ (c.1 = 9 ∧ c.2.1 = 0 ∧ k = 3) ∨ (c.1 = 9 ∧ c.2.1 = 0 ∧ k = 4) ∨ (c.1 = 9 ∧ c.2.1 = 0 ∧ k = 5) ∨ (c.1 = 9 ∧ c.2.1 = 0 ∧ k = 6) ∨ (c.1 = 9 ∧ c.2.1 = 0 ∧ k = 7) ∨ (c.1 = 9 ∧ c.2.1 = 0 ∧ k = 8) ∨ (c.1 = 40 ∧ c.2.1 = 0) ∨ (c.1 = 41 ∧ c.2.1 = 0) ∨ (c.1 = 44 ∧ c.2.1 = 0) ∨ False
set_option maxHeartbeats 4000000 in
set_option maxRecDepth 100000 in
theorem c_X11_restore (l : Launch) (G : va_G) (cy : Nat → ClassId) (ad : rf → Nat) (d : Nat) (Mz : mM) (hIz : Inv Mz) : WP CC l G cy ad yX11_restore cX11_restore 1 (some .int) (d + 4) 0 [(0, vR (11, 0, 0))] [] Mz (fun r M' => Inv M' ∧ FR (S_c_X11_restore) Mz M' ∧ True) := by
  have hFz : FR (S_c_X11_restore) Mz Mz := FR.self
  refine w_aload_n dX11_restore_0 rfl 0 rfl ?_
  refine w_getI fl_RX11_53 rfl rfl ic_11 dX11_restore_1 (fun z1_ e2_ => ?_)
  refine w_if_ne (tgt := 13) dX11_restore_4 (by decide) (rfl : z1_.toInt = z1_.toInt) (fun h3_ => ?_) (fun h3_ => ?_)
  · refine w_aload_n dX11_restore_13 rfl 0 rfl ?_
    refine w_getR (c' := (10, 0, 0)) fl_RX11_10 rfl rfl ic_11 dX11_restore_14 rfl ?_
    refine w_aload_n dX11_restore_17 rfl 0 rfl ?_
    refine w_getR (c' := (10, 1, 0)) fl_RX11_16 rfl rfl ic_11 dX11_restore_18 rfl ?_
    refine w_callVv (as := [vR (10, 1, 0)]) (rest := []) (c_X10_takeFrom l G cy ad d 0 1 Mz hIz (by first | decide | (unfold vF; omega) | (unfold vRw; omega)) (by first | decide | (unfold vF; omega) | (unfold vRw; omega))) kV_X10_takeFrom (by decide +kernel) (Nat.le_of_ble_eq_true rfl) m_1254 rfl rfl rfl (ic_10 (by decide)) rfl rfl (by decide) (Nat.le_of_ble_eq_true rfl) dX11_restore_21 (fun M4_ q5_ => ?_)
    obtain ⟨hI7_, hF8_, h6_⟩ := q5_
    have hF9_ := hFz.tr hF8_ (fun c k => (fun h => h.elim (fun h => (Or.inl ⟨h.1, h.2⟩)) (fun h => h.elim (fun h => (Or.inr (Or.inl ⟨h.1, h.2⟩))) (fun h => h.elim (fun h => (Or.inr (Or.inr (Or.inl ⟨h.1, h.2⟩)))) (fun h => h.elim (fun h => (Or.inr (Or.inr (Or.inr (Or.inl ⟨h.1, h.2⟩))))) (fun h => h.elim (fun h => (Or.inr (Or.inr (Or.inr (Or.inr (Or.inl ⟨h.1, h.2⟩)))))) (fun h => h.elim (fun h => (Or.inr (Or.inr (Or.inr (Or.inr (Or.inr (Or.inl ⟨h.1, h.2.1, h.2.2⟩))))))) (fun h => h.elim (fun h => (Or.inr (Or.inr (Or.inr (Or.inr (Or.inr (Or.inr (Or.inl ⟨h.1, h.2.1, h.2.2⟩)))))))) (fun h => h.elim (fun h => (Or.inr (Or.inr (Or.inr (Or.inr (Or.inr (Or.inr (Or.inr (Or.inl ⟨h.1, h.2.1, h.2.2⟩))))))))) (fun h => h.elim (fun h => (Or.inr (Or.inr (Or.inr (Or.inr (Or.inr (Or.inr (Or.inr (Or.inr (Or.inl ⟨h.1, h.2.1, h.2.2⟩)))))))))) (fun h => h.elim (fun h => (Or.inr (Or.inr (Or.inr (Or.inr (Or.inr (Or.inr (Or.inr (Or.inr (Or.inr (Or.inl ⟨h.1, h.2⟩))))))))))) (fun h => h.elim (fun h => (Or.inr (Or.inr (Or.inr (Or.inr (Or.inr (Or.inr (Or.inr (Or.inr (Or.inr (Or.inr (Or.inl ⟨h.1, h.2⟩)))))))))))) (fun h => h.elim (fun h => (Or.inr (Or.inr (Or.inr (Or.inr (Or.inr (Or.inr (Or.inr (Or.inr (Or.inr (Or.inr (Or.inr (Or.inl ⟨h.1, h.2.1, h.2.2⟩))))))))))))) (fun h => h.elim (fun h => (Or.inr (Or.inr (Or.inr (Or.inr (Or.inr (Or.inr (Or.inr (Or.inr (Or.inr (Or.inr (Or.inr (Or.inr (Or.inl ⟨h.1, h.2⟩)))))))))))))) (fun h => h.elim (fun h => (Or.inr (Or.inr (Or.inr (Or.inr (Or.inr (Or.inr (Or.inr (Or.inr (Or.inr (Or.inr (Or.inr (Or.inr (Or.inr (Or.inl ⟨h.1, h.2⟩))))))))))))))) (fun h => h.elim (fun h => (Or.inr (Or.inr (Or.inr (Or.inr (Or.inr (Or.inr (Or.inr (Or.inr (Or.inr (Or.inr (Or.inr (Or.inr (Or.inr (Or.inr (Or.inl ⟨h.1, h.2⟩)))))))))))))))) (fun h => h.elim (fun h => (Or.inr (Or.inr (Or.inr (Or.inr (Or.inr (Or.inr (Or.inr (Or.inr (Or.inr (Or.inr (Or.inr (Or.inr (Or.inr (Or.inr (Or.inr (Or.inl ⟨h.1, h.2⟩))))))))))))))))) (fun h => h.elim (fun h => (Or.inr (Or.inr (Or.inr (Or.inr (Or.inr (Or.inr (Or.inr (Or.inr (Or.inr (Or.inr (Or.inr (Or.inr (Or.inr (Or.inr (Or.inr (Or.inr (Or.inl ⟨h.1, h.2.1, h.2.2⟩)))))))))))))))))) (fun h => h.elim (fun h => (Or.inr (Or.inr (Or.inr (Or.inr (Or.inr (Or.inr (Or.inr (Or.inr (Or.inr (Or.inr (Or.inr (Or.inr (Or.inr (Or.inr (Or.inr (Or.inr (Or.inr (Or.inl ⟨h.1, h.2.1, h.2.2.1, h.2.2.2⟩))))))))))))))))))) (fun h => h.elim (fun h => (Or.inr (Or.inr (Or.inr (Or.inr (Or.inr (Or.inr (Or.inr (Or.inr (Or.inr (Or.inr (Or.inr (Or.inr (Or.inr (Or.inr (Or.inr (Or.inr (Or.inr (Or.inr (Or.inl ⟨h.1, h.2.1, h.2.2⟩)))))))))))))))))))) (fun h => h.elim (fun h => (Or.inr (Or.inr (Or.inr (Or.inr (Or.inr (Or.inr (Or.inr (Or.inr (Or.inr (Or.inr (Or.inr (Or.inr (Or.inr (Or.inr (Or.inr (Or.inr (Or.inr (Or.inr (Or.inr (Or.inl ⟨h.1, h.2.1, h.2.2.1, h.2.2.2⟩))))))))))))))))))))) (fun h => h.elim (fun h => (Or.inr (Or.inr (Or.inr (Or.inr (Or.inr (Or.inr (Or.inr (Or.inr (Or.inr (Or.inr (Or.inr (Or.inr (Or.inr (Or.inr (Or.inr (Or.inr (Or.inr (Or.inr (Or.inr (Or.inr (Or.inl ⟨h.1, h.2.1, h.2.2⟩)))))))))))))))))))))) (fun h => h.elim (fun h => (Or.inr (Or.inr (Or.inr (Or.inr (Or.inr (Or.inr (Or.inr (Or.inr (Or.inr (Or.inr (Or.inr (Or.inr (Or.inr (Or.inr (Or.inr (Or.inr (Or.inr (Or.inr (Or.inr (Or.inr (Or.inr (Or.inl ⟨h.1, h.2.1, h.2.2⟩))))))))))))))))))))))) (fun h => h.elim (fun h => (Or.inr (Or.inr (Or.inr (Or.inr (Or.inr (Or.inr (Or.inr (Or.inr (Or.inr (Or.inr (Or.inr (Or.inr (Or.inr (Or.inr (Or.inr (Or.inr (Or.inr (Or.inr (Or.inr (Or.inr (Or.inr (Or.inr (Or.inl ⟨h.1, h.2.1, h.2.2⟩)))))))))))))))))))))))) (fun h => h.elim (fun h => (Or.inr (Or.inr (Or.inr (Or.inr (Or.inr (Or.inr (Or.inr (Or.inr (Or.inr (Or.inr (Or.inr (Or.inr (Or.inr (Or.inr (Or.inr (Or.inr (Or.inr (Or.inr (Or.inr (Or.inr (Or.inr (Or.inr (Or.inr (Or.inl ⟨h.1, h.2.1, h.2.2⟩))))))))))))))))))))))))) (fun h => h.elim (fun h => (Or.inr (Or.inr (Or.inr (Or.inr (Or.inr (Or.inr (Or.inr (Or.inr (Or.inr (Or.inr (Or.inr (Or.inr (Or.inr (Or.inr (Or.inr (Or.inr (Or.inr (Or.inr (Or.inr (Or.inr (Or.inr (Or.inr (Or.inr (Or.inr (Or.inl ⟨h.1, h.2.1, h.2.2⟩)))))))))))))))))))))))))) (fun h => h.elim (fun h => (Or.inr (Or.inr (Or.inr (Or.inr (Or.inr (Or.inr (Or.inr (Or.inr (Or.inr (Or.inr (Or.inr (Or.inr (Or.inr (Or.inr (Or.inr (Or.inr (Or.inr (Or.inr (Or.inr (Or.inr (Or.inr (Or.inr (Or.inr (Or.inr (Or.inr (Or.inl ⟨h.1, h.2.1, h.2.2⟩))))))))))))))))))))))))))) (fun h => h.elim (fun h => (Or.inr (Or.inr (Or.inr (Or.inr (Or.inr (Or.inr (Or.inr (Or.inr (Or.inr (Or.inr (Or.inr (Or.inr (Or.inr (Or.inr (Or.inr (Or.inr (Or.inr (Or.inr (Or.inr (Or.inr (Or.inr (Or.inr (Or.inr (Or.inr (Or.inr (Or.inr (Or.inl ⟨h.1, h.2.1, h.2.2⟩)))))))))))))))))))))))))))) (fun h => h.elim (fun h => (Or.inr (Or.inr (Or.inr (Or.inr (Or.inr (Or.inr (Or.inr (Or.inr (Or.inr (Or.inr (Or.inr (Or.inr (Or.inr (Or.inr (Or.inr (Or.inr (Or.inr (Or.inr (Or.inr (Or.inr (Or.inr (Or.inr (Or.inr (Or.inr (Or.inr (Or.inr (Or.inr (Or.inl ⟨h.1, h.2.1, h.2.2⟩))))))))))))))))))))))))))))) (fun h => h.elim (fun h => (Or.inr (Or.inr (Or.inr (Or.inr (Or.inr (Or.inr (Or.inr (Or.inr (Or.inr (Or.inr (Or.inr (Or.inr (Or.inr (Or.inr (Or.inr (Or.inr (Or.inr (Or.inr (Or.inr (Or.inr (Or.inr (Or.inr (Or.inr (Or.inr (Or.inr (Or.inr (Or.inr (Or.inr (Or.inl ⟨h.1, h.2.1, h.2.2⟩)))))))))))))))))))))))))))))) (fun h => h.elim (fun h => (Or.inr (Or.inr (Or.inr (Or.inr (Or.inr (Or.inr (Or.inr (Or.inr (Or.inr (Or.inr (Or.inr (Or.inr (Or.inr (Or.inr (Or.inr (Or.inr (Or.inr (Or.inr (Or.inr (Or.inr (Or.inr (Or.inr (Or.inr (Or.inr (Or.inr (Or.inr (Or.inr (Or.inr (Or.inr (Or.inl ⟨h.1, h.2.1, h.2.2⟩))))))))))))))))))))))))))))))) (fun h => h.elim (fun h => (Or.inr (Or.inr (Or.inr (Or.inr (Or.inr (Or.inr (Or.inr (Or.inr (Or.inr (Or.inr (Or.inr (Or.inr (Or.inr (Or.inr (Or.inr (Or.inr (Or.inr (Or.inr (Or.inr (Or.inr (Or.inr (Or.inr (Or.inr (Or.inr (Or.inr (Or.inr (Or.inr (Or.inr (Or.inr (Or.inr (Or.inl ⟨h.1, h.2.1, h.2.2⟩)))))))))))))))))))))))))))))))) (fun h => h.elim (fun h => (Or.inr (Or.inr (Or.inr (Or.inr (Or.inr (Or.inr (Or.inr (Or.inr (Or.inr (Or.inr (Or.inr (Or.inr (Or.inr (Or.inr (Or.inr (Or.inr (Or.inr (Or.inr (Or.inr (Or.inr (Or.inr (Or.inr (Or.inr (Or.inr (Or.inr (Or.inr (Or.inr (Or.inr (Or.inr (Or.inr (Or.inr (Or.inl ⟨h.1, h.2.1, h.2.2⟩))))))))))))))))))))))))))))))))) (fun h => h.elim (fun h => (Or.inr (Or.inr (Or.inr (Or.inr (Or.inr (Or.inr (Or.inr (Or.inr (Or.inr (Or.inr (Or.inr (Or.inr (Or.inr (Or.inr (Or.inr (Or.inr (Or.inr (Or.inr (Or.inr (Or.inr (Or.inr (Or.inr (Or.inr (Or.inr (Or.inr (Or.inr (Or.inr (Or.inr (Or.inr (Or.inr (Or.inr (Or.inr (Or.inl ⟨h.1, h.2⟩)))))))))))))))))))))))))))))))))) (fun h => h.elim (fun h => (Or.inr (Or.inr (Or.inr (Or.inr (Or.inr (Or.inr (Or.inr (Or.inr (Or.inr (Or.inr (Or.inr (Or.inr (Or.inr (Or.inr (Or.inr (Or.inr (Or.inr (Or.inr (Or.inr (Or.inr (Or.inr (Or.inr (Or.inr (Or.inr (Or.inr (Or.inr (Or.inr (Or.inr (Or.inr (Or.inr (Or.inr (Or.inr (Or.inr (Or.inl ⟨h.1, h.2⟩))))))))))))))))))))))))))))))))))) (fun h => h.elim))))))))))))))))))))))))))))))))))))
    refine w_aload_n dX11_restore_24 rfl 0 rfl ?_
    refine w_getR (c' := (10, 0, 0)) fl_RX11_10 rfl rfl ic_11 dX11_restore_25 rfl ?_
    refine w_getI fl_RX11_290 rfl rfl (ic_10 (by decide)) dX11_restore_28 (fun z10_ e11_ => ?_)
    exact w_iret rfl dX11_restore_31 ⟨hI7_, hF9_, trivial⟩
  · refine w_aload_n dX11_restore_7 rfl 0 rfl ?_
    refine w_iconst (v := 2) dX11_restore_8 (by decide) ?_
    refine w_callV (as := [vI 2]) (rest := []) (c_X11_error l G cy ad (d + 3) 2 Mz hIz) kV_X11_error (by decide +kernel) (Nat.le_of_ble_eq_true rfl) m_500 rfl rfl rfl ic_11 rfl rfl (by decide) (Nat.le_of_ble_eq_true rfl) dX11_restore_9 (fun r12_ M13_ q14_ => ?_)
    obtain ⟨hI16_, hF17_, h15_⟩ := q14_
    have hF18_ := hFz.tr hF17_ (fun c k => (fun h => h.elim (fun h => (Or.inr (Or.inr (Or.inr (Or.inr (Or.inr (Or.inr (Or.inr (Or.inr (Or.inr (Or.inr (Or.inr (Or.inr (Or.inr (Or.inr (Or.inr (Or.inr (Or.inr (Or.inr (Or.inr (Or.inr (Or.inr (Or.inr (Or.inr (Or.inr (Or.inr (Or.inr (Or.inr (Or.inr (Or.inr (Or.inr (Or.inr (Or.inr (Or.inr (Or.inr (Or.inl ⟨h.1, h.2⟩)))))))))))))))))))))))))))))))))))) (fun h => h.elim)))
    exact w_iret rfl dX11_restore_12 ⟨hI16_, hF18_, trivial⟩
def S_c_X11_tell : rf → Nat → Prop := fun c k => (c.1 = 33 ∧ c.2.1 = 0 ∧ c.2.2 = 1) ∨ (c.1 = 5 ∧ c.2.1 = 0 ∧ c.2.2 = 1 ∧ k = 1) ∨ (c.1 = 44 ∧ c.2.1 = 0) ∨ False
set_option maxHeartbeats 4000000 in
set_option maxRecDepth 100000 in
theorem c_X11_tell (l : Launch) (G : va_G) (cy : Nat → ClassId) (ad : rf → Nat) (d : Nat) (v : Int32) (Mz : mM) (hIz : Inv Mz) : WP CC l G cy ad yX11_tell cX11_tell 2 (some .int) (d + 1) 0 [(0, vR (11, 0, 0)), (1, vI v)] [] Mz (fun r M' => Inv M' ∧ FR (S_c_X11_tell) Mz M' ∧ True) := by
  have hFz : FR (S_c_X11_tell) Mz Mz := FR.self
  refine w_aload_n dX11_tell_0 rfl 0 rfl ?_
  refine w_getR (c' := (10, 0, 0)) fl_RX11_10 rfl rfl ic_11 dX11_tell_1 rfl ?_
  refine w_getR (c' := (5, 0, 1)) fl_RX11_385 rfl rfl (ic_10 (by decide)) dX11_tell_4 rfl ?_
  refine w_callV (as := []) (rest := []) (c_X5_room l G cy ad d 0 1 Mz hIz (by first | decide | (unfold vF; omega) | (unfold vRw; omega))) kV_X5_room (by decide +kernel) (Nat.le_of_ble_eq_true rfl) m_669 rfl rfl rfl (ic_5 (by unfold vRw; omega)) rfl rfl (by decide) (Nat.le_of_ble_eq_true rfl) dX11_tell_7 (fun r1_ M2_ q3_ => ?_)
  obtain ⟨rfl, h4_⟩ := q3_
  refine w_if_ne (tgt := 19) dX11_tell_10 (by decide) (rfl : r1_.toInt = r1_.toInt) (fun h5_ => ?_) (fun h5_ => ?_)
  · refine w_aload_n dX11_tell_19 rfl 0 rfl ?_
    refine w_getR (c' := (10, 0, 0)) fl_RX11_10 rfl rfl ic_11 dX11_tell_20 rfl ?_
    refine w_getR (c' := (5, 0, 1)) fl_RX11_385 rfl rfl (ic_10 (by decide)) dX11_tell_23 rfl ?_
    refine w_iload_n dX11_tell_26 rfl 1 rfl ?_
    refine w_callVv (as := [vI v]) (rest := []) (c_X5_add l G cy ad d 0 1 v Mz hIz (by first | decide | (unfold vF; omega) | (unfold vRw; omega))) kV_X5_add (by decide +kernel) (Nat.le_of_ble_eq_true rfl) m_673 rfl rfl rfl (ic_5 (by unfold vRw; omega)) rfl rfl (by decide) (Nat.le_of_ble_eq_true rfl) dX11_tell_27 (fun M6_ q7_ => ?_)
    obtain ⟨hI9_, hF10_, h8_⟩ := q7_
    have hF11_ := hFz.tr hF10_ (fun c k => (fun h => h.elim (fun h => (Or.inl ⟨h.1, h.2.1, h.2.2⟩)) (fun h => h.elim (fun h => (Or.inr (Or.inl ⟨h.1, h.2.1, h.2.2.1, h.2.2.2⟩))) (fun h => h.elim))))
    refine w_aload_n dX11_tell_30 rfl 0 rfl ?_
    refine w_getR (c' := (10, 0, 0)) fl_RX11_10 rfl rfl ic_11 dX11_tell_31 rfl ?_
    refine w_getR (c' := (5, 0, 1)) fl_RX11_385 rfl rfl (ic_10 (by decide)) dX11_tell_34 rfl ?_
    refine w_getI fl_RX11_205 rfl rfl (ic_5 (by unfold vRw; omega)) dX11_tell_37 (fun z12_ e13_ => ?_)
    exact w_iret rfl dX11_tell_40 ⟨hI9_, hF11_, trivial⟩
  · refine w_aload_n dX11_tell_13 rfl 0 rfl ?_
    refine w_iconst (v := 4) dX11_tell_14 (by decide) ?_
    refine w_callV (as := [vI 4]) (rest := []) (c_X11_error l G cy ad d 4 Mz hIz) kV_X11_error (by decide +kernel) (Nat.le_of_ble_eq_true rfl) m_500 rfl rfl rfl ic_11 rfl rfl (by decide) (Nat.le_of_ble_eq_true rfl) dX11_tell_15 (fun r14_ M15_ q16_ => ?_)
    obtain ⟨hI18_, hF19_, h17_⟩ := q16_
    have hF20_ := hFz.tr hF19_ (fun c k => (fun h => h.elim (fun h => (Or.inr (Or.inr (Or.inl ⟨h.1, h.2⟩)))) (fun h => h.elim)))
    exact w_iret rfl dX11_tell_18 ⟨hI18_, hF20_, trivial⟩
def S_c_X11_check : rf → Nat → Prop := fun c k => (c.1 = 35 ∧ c.2.1 = 2) ∨ (c.1 = 36 ∧ c.2.1 = 2) ∨ (c.1 = 37 ∧ c.2.1 = 2) ∨ (c.1 = 38 ∧ c.2.1 = 2) ∨ (c.1 = 39 ∧ c.2.1 = 2) ∨ (c.1 = 7 ∧ c.2.1 = 2 ∧ k = 5) ∨ (c.1 = 2 ∧ c.2.1 = 2 ∧ k = 0) ∨ (c.1 = 2 ∧ c.2.1 = 2 ∧ k = 1) ∨ (c.1 = 2 ∧ c.2.1 = 2 ∧ k = 2) ∨ (c.1 = 26 ∧ c.2.1 = 2) ∨ (c.1 = 27 ∧ c.2.1 = 2) ∨ (c.1 = 1 ∧ c.2.1 = 2 ∧ k = 2) ∨ (c.1 = 24 ∧ c.2.1 = 2) ∨ (c.1 = 30 ∧ c.2.1 = 2) ∨ (c.1 = 31 ∧ c.2.1 = 2) ∨ (c.1 = 32 ∧ c.2.1 = 2) ∨ (c.1 = 3 ∧ c.2.1 = 2 ∧ k = 3) ∨ (c.1 = 5 ∧ c.2.1 = 2 ∧ c.2.2 = 0 ∧ k = 1) ∨ (c.1 = 33 ∧ c.2.1 = 2 ∧ c.2.2 = 0) ∨ (c.1 = 5 ∧ c.2.1 = 2 ∧ c.2.2 = 1 ∧ k = 1) ∨ (c.1 = 33 ∧ c.2.1 = 2 ∧ c.2.2 = 1) ∨ (c.1 = 10 ∧ c.2.1 = 2 ∧ k = 6) ∨ (c.1 = 10 ∧ c.2.1 = 2 ∧ k = 7) ∨ (c.1 = 9 ∧ c.2.1 = 2 ∧ k = 0) ∨ (c.1 = 9 ∧ c.2.1 = 2 ∧ k = 1) ∨ (c.1 = 9 ∧ c.2.1 = 2 ∧ k = 2) ∨ (c.1 = 9 ∧ c.2.1 = 2 ∧ k = 3) ∨ (c.1 = 9 ∧ c.2.1 = 2 ∧ k = 4) ∨ (c.1 = 9 ∧ c.2.1 = 2 ∧ k = 5) ∨ (c.1 = 9 ∧ c.2.1 = 2 ∧ k = 6) ∨ (c.1 = 9 ∧ c.2.1 = 2 ∧ k = 7) ∨ (c.1 = 9 ∧ c.2.1 = 2 ∧ k = 8) ∨ (c.1 = 40 ∧ c.2.1 = 2) ∨ (c.1 = 41 ∧ c.2.1 = 2) ∨ (c.1 = 5 ∧ c.2.1 = 0 ∧ c.2.2 = 1 ∧ k = 1) ∨ (c.1 = 29 ∧ c.2.1 = 2 ∧ k = 0) ∨ (c.1 = 29 ∧ c.2.1 = 2 ∧ k = 1) ∨ (c.1 = 29 ∧ c.2.1 = 2 ∧ k = 2) ∨ (c.1 = 29 ∧ c.2.1 = 2 ∧ k = 3) ∨ (c.1 = 29 ∧ c.2.1 = 2 ∧ k = 4) ∨ (c.1 = 25 ∧ c.2.1 = 2 ∧ c.2.2 = 2) ∨ (c.1 = 25 ∧ c.2.1 = 2 ∧ c.2.2 = 0) ∨ (c.1 = 25 ∧ c.2.1 = 2 ∧ c.2.2 = 1) ∨ (c.1 = 44 ∧ c.2.1 = 0) ∨ False
theorem lf_c_X11_check_0  (v : Int32) (h4_ : 0 ≤ v.toInt ∧ v.toInt ≤ 7) : 0 ≤ v.toInt ∧ v.toInt < ((8 : Nat) : Int) := by have r_v := rngI v; omega
theorem lf_c_X11_check_1 (M_50 : mM) (v2_50 : Int32) (z19_ : Int32) (hv0_50 : 0 ≤ v2_50.toInt) (e20_ : z19_ = M_50.1 (5, 2, 1) 1) (h21_ : v2_50.toInt < z19_.toInt) : -2147483648 ≤ v2_50.toInt + 1 ∧ v2_50.toInt + 1 < 2147483648 := by have r_v2_50 := rngI v2_50; have r_z19_ := rngI z19_; subst e20_; omega
theorem lf_c_X11_check_2 (M_50 : mM) (v2_50 : Int32) (z19_ : Int32) (z38_ : Int32) (hv0_50 : 0 ≤ v2_50.toInt) (e20_ : z19_ = M_50.1 (5, 2, 1) 1) (h21_ : v2_50.toInt < z19_.toInt) (h39_ : z38_.toInt = v2_50.toInt + 1) : 0 ≤ z38_.toInt := by have r_v2_50 := rngI v2_50; have r_z19_ := rngI z19_; have r_z38_ := rngI z38_; omega
theorem lf_c_X11_check_3 (M_50 : mM) (v2_50 : Int32) (z19_ : Int32) (z38_ : Int32) (hv0_50 : 0 ≤ v2_50.toInt) (e20_ : z19_ = M_50.1 (5, 2, 1) 1) (h21_ : v2_50.toInt < z19_.toInt) (h39_ : z38_.toInt = v2_50.toInt + 1) : (2147483648 - z38_.toInt).toNat < (2147483648 - v2_50.toInt).toNat := by have r_v2_50 := rngI v2_50; have r_z19_ := rngI z19_; have r_z38_ := rngI z38_; omega
theorem lf_c_X11_check_4 (M_50 : mM) (v2_50 : Int32) (z19_ : Int32) (hv0_50 : 0 ≤ v2_50.toInt) (e20_ : z19_ = M_50.1 (5, 2, 1) 1) (h21_ : v2_50.toInt < z19_.toInt) : -2147483648 ≤ 1 + v2_50.toInt ∧ 1 + v2_50.toInt < 2147483648 := by have r_v2_50 := rngI v2_50; have r_z19_ := rngI z19_; subst e20_; omega
theorem lf_c_X11_check_5    : 0 ≤ (0 : Int32).toInt := by have q0 := li_0; omega
set_option maxHeartbeats 4000000 in
set_option maxRecDepth 100000 in
theorem c_X11_check (l : Launch) (G : va_G) (cy : Nat → ClassId) (ad : rf → Nat) (d : Nat) (v : Int32) (Mz : mM) (hIz : Inv Mz) : WP CC l G cy ad yX11_check cX11_check 3 (some .int) (d + 7) 0 [(0, vR (11, 0, 0)), (1, vI v)] [] Mz (fun r M' => Inv M' ∧ FR (S_c_X11_check) Mz M' ∧ True) := by
  have hFz : FR (S_c_X11_check) Mz Mz := FR.self
  refine w_aload_n dX11_check_0 rfl 0 rfl ?_
  refine w_getR (c' := (10, 0, 0)) fl_RX11_10 rfl rfl ic_11 dX11_check_1 rfl ?_
  refine w_iload_n dX11_check_4 rfl 1 rfl ?_
  refine w_callV (as := [vI v]) (rest := []) (c_X10_hasWalker l G cy ad (d + 6) 0 v Mz hIz (by first | decide | (unfold vF; omega) | (unfold vRw; omega))) kV_X10_hasWalker (by decide +kernel) (Nat.le_of_ble_eq_true rfl) m_609 rfl rfl rfl (ic_10 (by decide)) rfl rfl (by decide) (Nat.le_of_ble_eq_true rfl) dX11_check_5 (fun r1_ M2_ q3_ => ?_)
  obtain ⟨rfl, h4_⟩ := q3_
  rcases h4_ with ⟨rfl, h4_⟩ | rfl
  · refine w_if_ne (tgt := 27) dX11_check_8 (by decide) li_1 (fun h5_ => ?_) (fun h9 => (absurd h9 (by decide)))
    refine w_aload_n dX11_check_27 rfl 0 rfl ?_
    refine w_getR (c' := (10, 2, 0)) fl_RX11_19 rfl rfl ic_11 dX11_check_28 rfl ?_
    refine w_aload_n dX11_check_31 rfl 0 rfl ?_
    refine w_getR (c' := (10, 0, 0)) fl_RX11_10 rfl rfl ic_11 dX11_check_32 rfl ?_
    refine w_callVv (as := [vR (10, 0, 0)]) (rest := []) (c_X10_takeFrom l G cy ad (d + 3) 2 0 Mz hIz (by first | decide | (unfold vF; omega) | (unfold vRw; omega)) (by first | decide | (unfold vF; omega) | (unfold vRw; omega))) kV_X10_takeFrom (by decide +kernel) (Nat.le_of_ble_eq_true rfl) m_1254 rfl rfl rfl (ic_10 (by decide)) rfl rfl (by decide) (Nat.le_of_ble_eq_true rfl) dX11_check_35 (fun M6_ q7_ => ?_)
    obtain ⟨hI9_, hF10_, h8_⟩ := q7_
    have hF11_ := hFz.tr hF10_ (fun c k => (fun h => h.elim (fun h => (Or.inl ⟨h.1, h.2⟩)) (fun h => h.elim (fun h => (Or.inr (Or.inl ⟨h.1, h.2⟩))) (fun h => h.elim (fun h => (Or.inr (Or.inr (Or.inl ⟨h.1, h.2⟩)))) (fun h => h.elim (fun h => (Or.inr (Or.inr (Or.inr (Or.inl ⟨h.1, h.2⟩))))) (fun h => h.elim (fun h => (Or.inr (Or.inr (Or.inr (Or.inr (Or.inl ⟨h.1, h.2⟩)))))) (fun h => h.elim (fun h => (Or.inr (Or.inr (Or.inr (Or.inr (Or.inr (Or.inl ⟨h.1, h.2.1, h.2.2⟩))))))) (fun h => h.elim (fun h => (Or.inr (Or.inr (Or.inr (Or.inr (Or.inr (Or.inr (Or.inl ⟨h.1, h.2.1, h.2.2⟩)))))))) (fun h => h.elim (fun h => (Or.inr (Or.inr (Or.inr (Or.inr (Or.inr (Or.inr (Or.inr (Or.inl ⟨h.1, h.2.1, h.2.2⟩))))))))) (fun h => h.elim (fun h => (Or.inr (Or.inr (Or.inr (Or.inr (Or.inr (Or.inr (Or.inr (Or.inr (Or.inl ⟨h.1, h.2.1, h.2.2⟩)))))))))) (fun h => h.elim (fun h => (Or.inr (Or.inr (Or.inr (Or.inr (Or.inr (Or.inr (Or.inr (Or.inr (Or.inr (Or.inl ⟨h.1, h.2⟩))))))))))) (fun h => h.elim (fun h => (Or.inr (Or.inr (Or.inr (Or.inr (Or.inr (Or.inr (Or.inr (Or.inr (Or.inr (Or.inr (Or.inl ⟨h.1, h.2⟩)))))))))))) (fun h => h.elim (fun h => (Or.inr (Or.inr (Or.inr (Or.inr (Or.inr (Or.inr (Or.inr (Or.inr (Or.inr (Or.inr (Or.inr (Or.inl ⟨h.1, h.2.1, h.2.2⟩))))))))))))) (fun h => h.elim (fun h => (Or.inr (Or.inr (Or.inr (Or.inr (Or.inr (Or.inr (Or.inr (Or.inr (Or.inr (Or.inr (Or.inr (Or.inr (Or.inl ⟨h.1, h.2⟩)))))))))))))) (fun h => h.elim (fun h => (Or.inr (Or.inr (Or.inr (Or.inr (Or.inr (Or.inr (Or.inr (Or.inr (Or.inr (Or.inr (Or.inr (Or.inr (Or.inr (Or.inl ⟨h.1, h.2⟩))))))))))))))) (fun h => h.elim (fun h => (Or.inr (Or.inr (Or.inr (Or.inr (Or.inr (Or.inr (Or.inr (Or.inr (Or.inr (Or.inr (Or.inr (Or.inr (Or.inr (Or.inr (Or.inl ⟨h.1, h.2⟩)))))))))))))))) (fun h => h.elim (fun h => (Or.inr (Or.inr (Or.inr (Or.inr (Or.inr (Or.inr (Or.inr (Or.inr (Or.inr (Or.inr (Or.inr (Or.inr (Or.inr (Or.inr (Or.inr (Or.inl ⟨h.1, h.2⟩))))))))))))))))) (fun h => h.elim (fun h => (Or.inr (Or.inr (Or.inr (Or.inr (Or.inr (Or.inr (Or.inr (Or.inr (Or.inr (Or.inr (Or.inr (Or.inr (Or.inr (Or.inr (Or.inr (Or.inr (Or.inl ⟨h.1, h.2.1, h.2.2⟩)))))))))))))))))) (fun h => h.elim (fun h => (Or.inr (Or.inr (Or.inr (Or.inr (Or.inr (Or.inr (Or.inr (Or.inr (Or.inr (Or.inr (Or.inr (Or.inr (Or.inr (Or.inr (Or.inr (Or.inr (Or.inr (Or.inl ⟨h.1, h.2.1, h.2.2.1, h.2.2.2⟩))))))))))))))))))) (fun h => h.elim (fun h => (Or.inr (Or.inr (Or.inr (Or.inr (Or.inr (Or.inr (Or.inr (Or.inr (Or.inr (Or.inr (Or.inr (Or.inr (Or.inr (Or.inr (Or.inr (Or.inr (Or.inr (Or.inr (Or.inl ⟨h.1, h.2.1, h.2.2⟩)))))))))))))))))))) (fun h => h.elim (fun h => (Or.inr (Or.inr (Or.inr (Or.inr (Or.inr (Or.inr (Or.inr (Or.inr (Or.inr (Or.inr (Or.inr (Or.inr (Or.inr (Or.inr (Or.inr (Or.inr (Or.inr (Or.inr (Or.inr (Or.inl ⟨h.1, h.2.1, h.2.2.1, h.2.2.2⟩))))))))))))))))))))) (fun h => h.elim (fun h => (Or.inr (Or.inr (Or.inr (Or.inr (Or.inr (Or.inr (Or.inr (Or.inr (Or.inr (Or.inr (Or.inr (Or.inr (Or.inr (Or.inr (Or.inr (Or.inr (Or.inr (Or.inr (Or.inr (Or.inr (Or.inl ⟨h.1, h.2.1, h.2.2⟩)))))))))))))))))))))) (fun h => h.elim (fun h => (Or.inr (Or.inr (Or.inr (Or.inr (Or.inr (Or.inr (Or.inr (Or.inr (Or.inr (Or.inr (Or.inr (Or.inr (Or.inr (Or.inr (Or.inr (Or.inr (Or.inr (Or.inr (Or.inr (Or.inr (Or.inr (Or.inl ⟨h.1, h.2.1, h.2.2⟩))))))))))))))))))))))) (fun h => h.elim (fun h => (Or.inr (Or.inr (Or.inr (Or.inr (Or.inr (Or.inr (Or.inr (Or.inr (Or.inr (Or.inr (Or.inr (Or.inr (Or.inr (Or.inr (Or.inr (Or.inr (Or.inr (Or.inr (Or.inr (Or.inr (Or.inr (Or.inr (Or.inl ⟨h.1, h.2.1, h.2.2⟩)))))))))))))))))))))))) (fun h => h.elim (fun h => (Or.inr (Or.inr (Or.inr (Or.inr (Or.inr (Or.inr (Or.inr (Or.inr (Or.inr (Or.inr (Or.inr (Or.inr (Or.inr (Or.inr (Or.inr (Or.inr (Or.inr (Or.inr (Or.inr (Or.inr (Or.inr (Or.inr (Or.inr (Or.inl ⟨h.1, h.2.1, h.2.2⟩))))))))))))))))))))))))) (fun h => h.elim (fun h => (Or.inr (Or.inr (Or.inr (Or.inr (Or.inr (Or.inr (Or.inr (Or.inr (Or.inr (Or.inr (Or.inr (Or.inr (Or.inr (Or.inr (Or.inr (Or.inr (Or.inr (Or.inr (Or.inr (Or.inr (Or.inr (Or.inr (Or.inr (Or.inr (Or.inl ⟨h.1, h.2.1, h.2.2⟩)))))))))))))))))))))))))) (fun h => h.elim (fun h => (Or.inr (Or.inr (Or.inr (Or.inr (Or.inr (Or.inr (Or.inr (Or.inr (Or.inr (Or.inr (Or.inr (Or.inr (Or.inr (Or.inr (Or.inr (Or.inr (Or.inr (Or.inr (Or.inr (Or.inr (Or.inr (Or.inr (Or.inr (Or.inr (Or.inr (Or.inl ⟨h.1, h.2.1, h.2.2⟩))))))))))))))))))))))))))) (fun h => h.elim (fun h => (Or.inr (Or.inr (Or.inr (Or.inr (Or.inr (Or.inr (Or.inr (Or.inr (Or.inr (Or.inr (Or.inr (Or.inr (Or.inr (Or.inr (Or.inr (Or.inr (Or.inr (Or.inr (Or.inr (Or.inr (Or.inr (Or.inr (Or.inr (Or.inr (Or.inr (Or.inr (Or.inl ⟨h.1, h.2.1, h.2.2⟩)))))))))))))))))))))))))))) (fun h => h.elim (fun h => (Or.inr (Or.inr (Or.inr (Or.inr (Or.inr (Or.inr (Or.inr (Or.inr (Or.inr (Or.inr (Or.inr (Or.inr (Or.inr (Or.inr (Or.inr (Or.inr (Or.inr (Or.inr (Or.inr (Or.inr (Or.inr (Or.inr (Or.inr (Or.inr (Or.inr (Or.inr (Or.inr (Or.inl ⟨h.1, h.2.1, h.2.2⟩))))))))))))))))))))))))))))) (fun h => h.elim (fun h => (Or.inr (Or.inr (Or.inr (Or.inr (Or.inr (Or.inr (Or.inr (Or.inr (Or.inr (Or.inr (Or.inr (Or.inr (Or.inr (Or.inr (Or.inr (Or.inr (Or.inr (Or.inr (Or.inr (Or.inr (Or.inr (Or.inr (Or.inr (Or.inr (Or.inr (Or.inr (Or.inr (Or.inr (Or.inl ⟨h.1, h.2.1, h.2.2⟩)))))))))))))))))))))))))))))) (fun h => h.elim (fun h => (Or.inr (Or.inr (Or.inr (Or.inr (Or.inr (Or.inr (Or.inr (Or.inr (Or.inr (Or.inr (Or.inr (Or.inr (Or.inr (Or.inr (Or.inr (Or.inr (Or.inr (Or.inr (Or.inr (Or.inr (Or.inr (Or.inr (Or.inr (Or.inr (Or.inr (Or.inr (Or.inr (Or.inr (Or.inr (Or.inl ⟨h.1, h.2.1, h.2.2⟩))))))))))))))))))))))))))))))) (fun h => h.elim (fun h => (Or.inr (Or.inr (Or.inr (Or.inr (Or.inr (Or.inr (Or.inr (Or.inr (Or.inr (Or.inr (Or.inr (Or.inr (Or.inr (Or.inr (Or.inr (Or.inr (Or.inr (Or.inr (Or.inr (Or.inr (Or.inr (Or.inr (Or.inr (Or.inr (Or.inr (Or.inr (Or.inr (Or.inr (Or.inr (Or.inr (Or.inl ⟨h.1, h.2.1, h.2.2⟩)))))))))))))))))))))))))))))))) (fun h => h.elim (fun h => (Or.inr (Or.inr (Or.inr (Or.inr (Or.inr (Or.inr (Or.inr (Or.inr (Or.inr (Or.inr (Or.inr (Or.inr (Or.inr (Or.inr (Or.inr (Or.inr (Or.inr (Or.inr (Or.inr (Or.inr (Or.inr (Or.inr (Or.inr (Or.inr (Or.inr (Or.inr (Or.inr (Or.inr (Or.inr (Or.inr (Or.inr (Or.inl ⟨h.1, h.2.1, h.2.2⟩))))))))))))))))))))))))))))))))) (fun h => h.elim (fun h => (Or.inr (Or.inr (Or.inr (Or.inr (Or.inr (Or.inr (Or.inr (Or.inr (Or.inr (Or.inr (Or.inr (Or.inr (Or.inr (Or.inr (Or.inr (Or.inr (Or.inr (Or.inr (Or.inr (Or.inr (Or.inr (Or.inr (Or.inr (Or.inr (Or.inr (Or.inr (Or.inr (Or.inr (Or.inr (Or.inr (Or.inr (Or.inr (Or.inl ⟨h.1, h.2⟩)))))))))))))))))))))))))))))))))) (fun h => h.elim (fun h => (Or.inr (Or.inr (Or.inr (Or.inr (Or.inr (Or.inr (Or.inr (Or.inr (Or.inr (Or.inr (Or.inr (Or.inr (Or.inr (Or.inr (Or.inr (Or.inr (Or.inr (Or.inr (Or.inr (Or.inr (Or.inr (Or.inr (Or.inr (Or.inr (Or.inr (Or.inr (Or.inr (Or.inr (Or.inr (Or.inr (Or.inr (Or.inr (Or.inr (Or.inl ⟨h.1, h.2⟩))))))))))))))))))))))))))))))))))) (fun h => h.elim))))))))))))))))))))))))))))))))))))
    refine w_aload_n dX11_check_38 rfl 0 rfl ?_
    refine w_getR (c' := (10, 0, 0)) fl_RX11_10 rfl rfl ic_11 dX11_check_39 rfl ?_
    refine w_getR (c' := (5, 0, 1)) fl_RX11_385 rfl rfl (ic_10 (by decide)) dX11_check_42 rfl ?_
    refine w_callVv (as := []) (rest := []) (c_X5_clear l G cy ad (d + 6) 0 1 M6_ hI9_ (by first | decide | (unfold vF; omega) | (unfold vRw; omega))) kV_X5_clear (by decide +kernel) (Nat.le_of_ble_eq_true rfl) m_831 rfl rfl rfl (ic_5 (by unfold vRw; omega)) rfl rfl (by decide) (Nat.le_of_ble_eq_true rfl) dX11_check_45 (fun M12_ q13_ => ?_)
    obtain ⟨hI15_, hF16_, h14_⟩ := q13_
    have hF17_ := hF11_.tr hF16_ (fun c k => (fun h => h.elim (fun h => (Or.inr (Or.inr (Or.inr (Or.inr (Or.inr (Or.inr (Or.inr (Or.inr (Or.inr (Or.inr (Or.inr (Or.inr (Or.inr (Or.inr (Or.inr (Or.inr (Or.inr (Or.inr (Or.inr (Or.inr (Or.inr (Or.inr (Or.inr (Or.inr (Or.inr (Or.inr (Or.inr (Or.inr (Or.inr (Or.inr (Or.inr (Or.inr (Or.inr (Or.inr (Or.inl ⟨h.1, h.2.1, h.2.2.1, h.2.2.2⟩)))))))))))))))))))))))))))))))))))) (fun h => h.elim)))
    refine w_iconst (v := 0) dX11_check_48 (by decide) ?_
    refine w_istore_n (ls' := [(2, vI 0), (0, vR (11, 0, 0)), (1, vI v)]) dX11_check_49 rfl (by decide) rfl ?_
    have lp18_ : ∀ (nn_50 : Nat) (M_50 : mM) (hI_50 : Inv M_50) (hF_50 : FR (S_c_X11_check) Mz M_50) (v2_50 : Int32) (hv0_50 : 0 ≤ v2_50.toInt), (2147483648 - v2_50.toInt).toNat < nn_50 → WP CC l G cy ad yX11_check cX11_check 3 (some .int) (d + 7) 50 [(2, vI v2_50), (0, vR (11, 0, 0)), (1, vI v)] [] M_50 (fun r M' => Inv M' ∧ FR (S_c_X11_check) Mz M' ∧ True) := by
      intro nn_50
      induction nn_50 with
      | zero => intro M_50 hI_50 hF_50 v2_50 hv0_50 hm_50; exact absurd hm_50 (Nat.not_lt_zero _)
      | succ nn_50 ih_50 =>
        intro M_50 hI_50 hF_50 v2_50 hv0_50 hm_50
        refine w_iload_n dX11_check_50 rfl 0 rfl ?_
        refine w_aload_n dX11_check_51 rfl 1 rfl ?_
        refine w_getR (c' := (10, 2, 0)) fl_RX11_19 rfl rfl ic_11 dX11_check_52 rfl ?_
        refine w_getR (c' := (5, 2, 1)) fl_RX11_385 rfl rfl (ic_10 (by decide)) dX11_check_55 rfl ?_
        refine w_getI fl_RX11_205 rfl rfl (ic_5 (by unfold vRw; omega)) dX11_check_58 (fun z19_ e20_ => ?_)
        refine w_icmp_ge (tgt := 107) dX11_check_61 (by decide) (rfl : v2_50.toInt = v2_50.toInt) (rfl : z19_.toInt = z19_.toInt) (fun h21_ => ?_) (fun h21_ => ?_)
        · refine w_iconst (v := 0) dX11_check_107 (by decide) ?_
          exact w_iret rfl dX11_check_108 ⟨hI_50, hF_50, trivial⟩
        · refine w_aload_n dX11_check_64 rfl 1 rfl ?_
          refine w_getR (c' := (10, 2, 0)) fl_RX11_19 rfl rfl ic_11 dX11_check_65 rfl ?_
          refine w_callVv (as := []) (rest := []) (c_X10_passTenth l G cy ad d 2 M_50 hI_50 (by first | decide | (unfold vF; omega) | (unfold vRw; omega))) kV_X10_passTenth (by decide +kernel) (Nat.le_of_ble_eq_true rfl) m_1025 rfl rfl rfl (ic_10 (by decide)) rfl rfl (by decide) (Nat.le_of_ble_eq_true rfl) dX11_check_68 (fun M22_ q23_ => ?_)
          obtain ⟨hI25_, hF26_, h24_⟩ := q23_
          have hF27_ := hF_50.tr hF26_ (fun c k => (fun h => h.elim (fun h => (Or.inr (Or.inr (Or.inr (Or.inr (Or.inr (Or.inr (Or.inr (Or.inr (Or.inr (Or.inr (Or.inr (Or.inr (Or.inr (Or.inr (Or.inr (Or.inr (Or.inr (Or.inr (Or.inr (Or.inr (Or.inr (Or.inr (Or.inl ⟨h.1, h.2.1, h.2.2⟩)))))))))))))))))))))))) (fun h => h.elim (fun h => (Or.inl ⟨h.1, h.2⟩)) (fun h => h.elim (fun h => (Or.inr (Or.inr (Or.inl ⟨h.1, h.2⟩)))) (fun h => h.elim (fun h => (Or.inr (Or.inr (Or.inr (Or.inl ⟨h.1, h.2⟩))))) (fun h => h.elim (fun h => (Or.inr (Or.inr (Or.inr (Or.inr (Or.inr (Or.inr (Or.inr (Or.inr (Or.inr (Or.inr (Or.inr (Or.inr (Or.inr (Or.inr (Or.inr (Or.inr (Or.inr (Or.inr (Or.inr (Or.inr (Or.inr (Or.inr (Or.inr (Or.inr (Or.inr (Or.inr (Or.inr (Or.inr (Or.inr (Or.inr (Or.inr (Or.inr (Or.inr (Or.inr (Or.inr (Or.inl ⟨h.1, h.2.1, h.2.2⟩))))))))))))))))))))))))))))))))))))) (fun h => h.elim (fun h => (Or.inr (Or.inr (Or.inr (Or.inr (Or.inr (Or.inr (Or.inr (Or.inr (Or.inr (Or.inr (Or.inr (Or.inr (Or.inr (Or.inr (Or.inr (Or.inr (Or.inr (Or.inr (Or.inr (Or.inr (Or.inr (Or.inr (Or.inr (Or.inr (Or.inr (Or.inr (Or.inr (Or.inr (Or.inr (Or.inr (Or.inr (Or.inr (Or.inr (Or.inr (Or.inr (Or.inr (Or.inl ⟨h.1, h.2.1, h.2.2⟩)))))))))))))))))))))))))))))))))))))) (fun h => h.elim (fun h => (Or.inr (Or.inr (Or.inr (Or.inr (Or.inr (Or.inr (Or.inr (Or.inr (Or.inr (Or.inr (Or.inr (Or.inr (Or.inr (Or.inr (Or.inr (Or.inr (Or.inr (Or.inr (Or.inr (Or.inr (Or.inr (Or.inr (Or.inr (Or.inr (Or.inr (Or.inr (Or.inr (Or.inr (Or.inr (Or.inr (Or.inr (Or.inr (Or.inr (Or.inr (Or.inr (Or.inr (Or.inr (Or.inl ⟨h.1, h.2.1, h.2.2⟩))))))))))))))))))))))))))))))))))))))) (fun h => h.elim (fun h => (Or.inr (Or.inr (Or.inr (Or.inr (Or.inr (Or.inr (Or.inr (Or.inr (Or.inr (Or.inr (Or.inr (Or.inr (Or.inr (Or.inr (Or.inr (Or.inr (Or.inr (Or.inr (Or.inr (Or.inr (Or.inr (Or.inr (Or.inr (Or.inr (Or.inr (Or.inr (Or.inr (Or.inr (Or.inr (Or.inr (Or.inr (Or.inr (Or.inr (Or.inr (Or.inr (Or.inr (Or.inr (Or.inr (Or.inl ⟨h.1, h.2.1, h.2.2⟩)))))))))))))))))))))))))))))))))))))))) (fun h => h.elim (fun h => (Or.inr (Or.inr (Or.inr (Or.inr (Or.inr (Or.inr (Or.inr (Or.inr (Or.inr (Or.inr (Or.inr (Or.inr (Or.inr (Or.inr (Or.inr (Or.inr (Or.inr (Or.inr (Or.inr (Or.inr (Or.inr (Or.inr (Or.inr (Or.inr (Or.inr (Or.inr (Or.inr (Or.inr (Or.inr (Or.inr (Or.inr (Or.inr (Or.inr (Or.inr (Or.inr (Or.inr (Or.inr (Or.inr (Or.inr (Or.inl ⟨h.1, h.2.1, h.2.2⟩))))))))))))))))))))))))))))))))))))))))) (fun h => h.elim (fun h => (Or.inr (Or.inr (Or.inr (Or.inr (Or.inr (Or.inr (Or.inr (Or.inr (Or.inr (Or.inr (Or.inr (Or.inr (Or.inr (Or.inr (Or.inr (Or.inr (Or.inr (Or.inr (Or.inr (Or.inr (Or.inr (Or.inr (Or.inr (Or.inr (Or.inr (Or.inr (Or.inr (Or.inr (Or.inr (Or.inr (Or.inr (Or.inr (Or.inr (Or.inr (Or.inr (Or.inr (Or.inr (Or.inr (Or.inr (Or.inr (Or.inl ⟨h.1, h.2.1, h.2.2⟩)))))))))))))))))))))))))))))))))))))))))) (fun h => h.elim (fun h => (Or.inr (Or.inr (Or.inr (Or.inr (Or.inr (Or.inr (Or.inr (Or.inr (Or.inr (Or.inr (Or.inr (Or.inr (Or.inr (Or.inr (Or.inr (Or.inr (Or.inr (Or.inr (Or.inr (Or.inr (Or.inr (Or.inr (Or.inr (Or.inr (Or.inr (Or.inl ⟨h.1, h.2.1, h.2.2⟩))))))))))))))))))))))))))) (fun h => h.elim (fun h => (Or.inr (Or.inr (Or.inr (Or.inr (Or.inr (Or.inr (Or.inr (Or.inr (Or.inr (Or.inr (Or.inr (Or.inr (Or.inr (Or.inr (Or.inr (Or.inr (Or.inr (Or.inr (Or.inr (Or.inr (Or.inr (Or.inr (Or.inr (Or.inr (Or.inl ⟨h.1, h.2.1, h.2.2⟩)))))))))))))))))))))))))) (fun h => h.elim (fun h => (Or.inr (Or.inr (Or.inr (Or.inr (Or.inr (Or.inr (Or.inr (Or.inr (Or.inr (Or.inr (Or.inr (Or.inr (Or.inr (Or.inr (Or.inr (Or.inr (Or.inr (Or.inr (Or.inr (Or.inr (Or.inr (Or.inr (Or.inr (Or.inr (Or.inr (Or.inr (Or.inr (Or.inr (Or.inr (Or.inr (Or.inl ⟨h.1, h.2.1, h.2.2⟩)))))))))))))))))))))))))))))))) (fun h => h.elim (fun h => (Or.inr (Or.inr (Or.inr (Or.inr (Or.inr (Or.inr (Or.inr (Or.inr (Or.inr (Or.inr (Or.inr (Or.inr (Or.inr (Or.inr (Or.inr (Or.inr (Or.inr (Or.inr (Or.inr (Or.inr (Or.inr (Or.inr (Or.inr (Or.inr (Or.inr (Or.inr (Or.inr (Or.inr (Or.inr (Or.inr (Or.inr (Or.inr (Or.inl ⟨h.1, h.2⟩)))))))))))))))))))))))))))))))))) (fun h => h.elim (fun h => (Or.inr (Or.inr (Or.inr (Or.inr (Or.inr (Or.inr (Or.inr (Or.inr (Or.inr (Or.inr (Or.inr (Or.inr (Or.inr (Or.inr (Or.inr (Or.inr (Or.inr (Or.inr (Or.inr (Or.inr (Or.inr (Or.inr (Or.inr (Or.inr (Or.inr (Or.inr (Or.inr (Or.inr (Or.inr (Or.inr (Or.inr (Or.inl ⟨h.1, h.2.1, h.2.2⟩))))))))))))))))))))))))))))))))) (fun h => h.elim (fun h => (Or.inr (Or.inr (Or.inr (Or.inr (Or.inr (Or.inr (Or.inr (Or.inr (Or.inr (Or.inr (Or.inr (Or.inr (Or.inr (Or.inr (Or.inr (Or.inr (Or.inr (Or.inr (Or.inr (Or.inr (Or.inr (Or.inr (Or.inr (Or.inr (Or.inr (Or.inr (Or.inr (Or.inr (Or.inr (Or.inr (Or.inr (Or.inr (Or.inr (Or.inr (Or.inr (Or.inr (Or.inr (Or.inr (Or.inr (Or.inr (Or.inr (Or.inl ⟨h.1, h.2.1, h.2.2⟩))))))))))))))))))))))))))))))))))))))))))) (fun h => h.elim (fun h => (Or.inr (Or.inr (Or.inr (Or.inr (Or.inr (Or.inr (Or.inr (Or.inr (Or.inr (Or.inr (Or.inr (Or.inr (Or.inr (Or.inr (Or.inr (Or.inr (Or.inr (Or.inr (Or.inr (Or.inr (Or.inr (Or.inr (Or.inr (Or.inr (Or.inr (Or.inr (Or.inr (Or.inr (Or.inr (Or.inr (Or.inr (Or.inr (Or.inr (Or.inr (Or.inr (Or.inr (Or.inr (Or.inr (Or.inr (Or.inr (Or.inr (Or.inr (Or.inl ⟨h.1, h.2.1, h.2.2⟩)))))))))))))))))))))))))))))))))))))))))))) (fun h => h.elim (fun h => (Or.inr (Or.inr (Or.inr (Or.inr (Or.inr (Or.inr (Or.inr (Or.inr (Or.inr (Or.inr (Or.inr (Or.inr (Or.inr (Or.inr (Or.inr (Or.inr (Or.inr (Or.inr (Or.inr (Or.inr (Or.inr (Or.inr (Or.inr (Or.inr (Or.inr (Or.inr (Or.inr (Or.inr (Or.inr (Or.inr (Or.inr (Or.inr (Or.inr (Or.inl ⟨h.1, h.2⟩))))))))))))))))))))))))))))))))))) (fun h => h.elim))))))))))))))))))))
          refine w_aload_n dX11_check_71 rfl 1 rfl ?_
          refine w_getR (c' := (10, 2, 0)) fl_RX11_19 rfl rfl ic_11 dX11_check_72 rfl ?_
          refine w_getR (c' := (42, 2, 0)) fl_RX11_157 rfl rfl (ic_10 (by decide)) dX11_check_75 rfl ?_
          refine w_iload_n dX11_check_78 rfl 2 rfl ?_
          refine w_aald rfl rfl rfl (fun _ => rfl) (ic_42 (by decide)) (rfl : v.toInt = v.toInt) (lf_c_X11_check_0 v h4_) dX11_check_79 (fun j28_ h29_ h30_ => ?_)
          refine w_getI fl_RX11_229 rfl rfl (ic_9 (by decide) h30_) dX11_check_80 (fun z31_ e32_ => ?_)
          refine w_aload_n dX11_check_83 rfl 1 rfl ?_
          refine w_getR (c' := (10, 2, 0)) fl_RX11_19 rfl rfl ic_11 dX11_check_84 rfl ?_
          refine w_getR (c' := (5, 2, 1)) fl_RX11_385 rfl rfl (ic_10 (by decide)) dX11_check_87 rfl ?_
          refine w_iload_n dX11_check_90 rfl 0 rfl ?_
          refine w_callV (as := [vI v2_50]) (rest := [vI z31_]) (c_X5_get l G cy ad (d + 6) 2 1 v2_50 M22_ hI25_ (by first | decide | (unfold vF; omega) | (unfold vRw; omega))) kV_X5_get (by decide +kernel) (Nat.le_of_ble_eq_true rfl) m_1154 rfl rfl rfl (ic_5 (by unfold vRw; omega)) rfl rfl (by decide) (Nat.le_of_ble_eq_true rfl) dX11_check_91 (fun r33_ M34_ q35_ => ?_)
          obtain ⟨rfl, h36_⟩ := q35_
          refine w_icmp_eq (tgt := 101) dX11_check_94 (by decide) (rfl : z31_.toInt = z31_.toInt) (rfl : r33_.toInt = r33_.toInt) (fun h37_ => ?_) (fun h37_ => ?_)
          · refine w_iincB (j := 0) (f := fun z38_ => [(2, vI z38_), (0, vR (11, 0, 0)), (1, vI v)]) dX11_check_101 rfl (by decide) (fun _ => rfl) (rfl : v2_50.toInt = v2_50.toInt) li_1 (lf_c_X11_check_1 M_50 v2_50 z19_ hv0_50 e20_ h21_) (fun z38_ h39_ => ?_)
            refine w_goto (tgt := 50) dX11_check_104 (by decide) ?_
            refine w_loc (ls' := [(2, vI z38_), (0, vR (11, 0, 0)), (1, vI v)]) [0, 1, 2] rfl ?_
            exact ih_50 M22_ hI25_ hF27_ z38_ (lf_c_X11_check_2 M_50 v2_50 z19_ z38_ hv0_50 e20_ h21_ h39_) (Nat.lt_of_lt_of_le (lf_c_X11_check_3 M_50 v2_50 z19_ z38_ hv0_50 e20_ h21_ h39_) (Nat.le_of_lt_succ hm_50))
          · refine w_iconst (v := 1) dX11_check_97 (by decide) ?_
            refine w_iload_n dX11_check_98 rfl 0 rfl ?_
            refine w_iaddB dX11_check_99 li_1 (rfl : v2_50.toInt = v2_50.toInt) (lf_c_X11_check_4 M_50 v2_50 z19_ hv0_50 e20_ h21_) (fun z40_ h41_ => ?_)
            exact w_iret rfl dX11_check_100 ⟨hI25_, hF27_, trivial⟩
    exact lp18_ _ M12_ hI15_ hF17_ 0 (lf_c_X11_check_5 ) (Nat.lt_succ_self _)
  · refine w_if_ne (tgt := 27) dX11_check_8 (by decide) li_0 (fun h9 => (absurd h9 (by decide))) (fun h42_ => ?_)
    refine w_aload_n dX11_check_11 rfl 0 rfl ?_
    refine w_getR (c' := (10, 0, 0)) fl_RX11_10 rfl rfl ic_11 dX11_check_12 rfl ?_
    refine w_getR (c' := (5, 0, 1)) fl_RX11_385 rfl rfl (ic_10 (by decide)) dX11_check_15 rfl ?_
    refine w_callVv (as := []) (rest := []) (c_X5_clear l G cy ad (d + 6) 0 1 Mz hIz (by first | decide | (unfold vF; omega) | (unfold vRw; omega))) kV_X5_clear (by decide +kernel) (Nat.le_of_ble_eq_true rfl) m_831 rfl rfl rfl (ic_5 (by unfold vRw; omega)) rfl rfl (by decide) (Nat.le_of_ble_eq_true rfl) dX11_check_18 (fun M43_ q44_ => ?_)
    obtain ⟨hI46_, hF47_, h45_⟩ := q44_
    have hF48_ := hFz.tr hF47_ (fun c k => (fun h => h.elim (fun h => (Or.inr (Or.inr (Or.inr (Or.inr (Or.inr (Or.inr (Or.inr (Or.inr (Or.inr (Or.inr (Or.inr (Or.inr (Or.inr (Or.inr (Or.inr (Or.inr (Or.inr (Or.inr (Or.inr (Or.inr (Or.inr (Or.inr (Or.inr (Or.inr (Or.inr (Or.inr (Or.inr (Or.inr (Or.inr (Or.inr (Or.inr (Or.inr (Or.inr (Or.inr (Or.inl ⟨h.1, h.2.1, h.2.2.1, h.2.2.2⟩)))))))))))))))))))))))))))))))))))) (fun h => h.elim)))
    refine w_aload_n dX11_check_21 rfl 0 rfl ?_
    refine w_iconst (v := 1) dX11_check_22 (by decide) ?_
    refine w_callV (as := [vI 1]) (rest := []) (c_X11_error l G cy ad (d + 6) 1 M43_ hI46_) kV_X11_error (by decide +kernel) (Nat.le_of_ble_eq_true rfl) m_500 rfl rfl rfl ic_11 rfl rfl (by decide) (Nat.le_of_ble_eq_true rfl) dX11_check_23 (fun r49_ M50_ q51_ => ?_)
    obtain ⟨hI53_, hF54_, h52_⟩ := q51_
    have hF55_ := hF48_.tr hF54_ (fun c k => (fun h => h.elim (fun h => (Or.inr (Or.inr (Or.inr (Or.inr (Or.inr (Or.inr (Or.inr (Or.inr (Or.inr (Or.inr (Or.inr (Or.inr (Or.inr (Or.inr (Or.inr (Or.inr (Or.inr (Or.inr (Or.inr (Or.inr (Or.inr (Or.inr (Or.inr (Or.inr (Or.inr (Or.inr (Or.inr (Or.inr (Or.inr (Or.inr (Or.inr (Or.inr (Or.inr (Or.inr (Or.inr (Or.inr (Or.inr (Or.inr (Or.inr (Or.inr (Or.inr (Or.inr (Or.inr (Or.inl ⟨h.1, h.2⟩))))))))))))))))))))))))))))))))))))))))))))) (fun h => h.elim)))
    exact w_iret rfl dX11_check_26 ⟨hI53_, hF55_, trivial⟩
def S_c_X11_count : rf → Nat → Prop := fun c k => (c.1 = 44 ∧ c.2.1 = 0) ∨ False
theorem lf_c_X11_count_0  (v : Int32)  : v.toInt = 0 ∨ v.toInt = 1 ∨ v.toInt = 2 ∨ v.toInt = 3 ∨ v.toInt = 4 ∨ v.toInt = 5 ∨ v.toInt = 6 ∨ v.toInt = 7 ∨ v.toInt = 8 ∨ (¬ v.toInt = 0 ∧ ¬ v.toInt = 1 ∧ ¬ v.toInt = 2 ∧ ¬ v.toInt = 3 ∧ ¬ v.toInt = 4 ∧ ¬ v.toInt = 5 ∧ ¬ v.toInt = 6 ∧ ¬ v.toInt = 7 ∧ ¬ v.toInt = 8) := by have r_v := rngI v; omega
theorem lf_c_X11_count_1  (v : Int32) (e1_ : (¬ v.toInt = 0 ∧ ¬ v.toInt = 1 ∧ ¬ v.toInt = 2 ∧ ¬ v.toInt = 3 ∧ ¬ v.toInt = 4 ∧ ¬ v.toInt = 5 ∧ ¬ v.toInt = 6 ∧ ¬ v.toInt = 7 ∧ ¬ v.toInt = 8)) : v.toInt < 0 ∨ 8 < v.toInt := by have r_v := rngI v; omega
set_option maxHeartbeats 4000000 in
set_option maxRecDepth 100000 in
theorem c_X11_count (l : Launch) (G : va_G) (cy : Nat → ClassId) (ad : rf → Nat) (d : Nat) (v : Int32) (Mz : mM) (hIz : Inv Mz) : WP CC l G cy ad yX11_count cX11_count 2 (some .int) (d + 1) 0 [(0, vR (11, 0, 0)), (1, vI v)] [] Mz (fun r M' => Inv M' ∧ FR (S_c_X11_count) Mz M' ∧ True) := by
  have hFz : FR (S_c_X11_count) Mz Mz := FR.self
  refine w_iload_n dX11_count_0 rfl 1 rfl ?_
  rcases (lf_c_X11_count_0 v) with e1_ | e1_ | e1_ | e1_ | e1_ | e1_ | e1_ | e1_ | e1_ | e1_
  · refine w_tsIn (tgt := 52) (off := 51) dX11_count_1 e1_ (by decide) (by decide) rfl (by decide) ?_
    refine w_aload_n dX11_count_52 rfl 0 rfl ?_
    refine w_getR (c' := (10, 0, 0)) fl_RX11_10 rfl rfl ic_11 dX11_count_53 rfl ?_
    refine w_getI fl_RX11_290 rfl rfl (ic_10 (by decide)) dX11_count_56 (fun z2_ e3_ => ?_)
    exact w_iret rfl dX11_count_59 ⟨hIz, hFz, trivial⟩
  · refine w_tsIn (tgt := 60) (off := 59) dX11_count_1 e1_ (by decide) (by decide) rfl (by decide) ?_
    refine w_aload_n dX11_count_60 rfl 0 rfl ?_
    refine w_getR (c' := (10, 0, 0)) fl_RX11_10 rfl rfl ic_11 dX11_count_61 rfl ?_
    refine w_getR (c' := (7, 0, 0)) fl_RX11_71 rfl rfl (ic_10 (by decide)) dX11_count_64 rfl ?_
    refine w_callV (as := []) (rest := []) (c_X7_countThings l G cy ad d 0 Mz hIz (by first | decide | (unfold vF; omega) | (unfold vRw; omega))) kV_X7_countThings (by decide +kernel) (Nat.le_of_ble_eq_true rfl) m_1296 rfl rfl rfl (ic_7 (by decide)) rfl rfl (by decide) (Nat.le_of_ble_eq_true rfl) dX11_count_67 (fun r4_ M5_ q6_ => ?_)
    obtain ⟨rfl, h7_⟩ := q6_
    exact w_iret rfl dX11_count_70 ⟨hIz, hFz, trivial⟩
  · refine w_tsIn (tgt := 71) (off := 70) dX11_count_1 e1_ (by decide) (by decide) rfl (by decide) ?_
    refine w_aload_n dX11_count_71 rfl 0 rfl ?_
    refine w_getR (c' := (10, 0, 0)) fl_RX11_10 rfl rfl ic_11 dX11_count_72 rfl ?_
    refine w_getI fl_RX11_148 rfl rfl (ic_10 (by decide)) dX11_count_75 (fun z8_ e9_ => ?_)
    exact w_iret rfl dX11_count_78 ⟨hIz, hFz, trivial⟩
  · refine w_tsIn (tgt := 79) (off := 78) dX11_count_1 e1_ (by decide) (by decide) rfl (by decide) ?_
    refine w_aload_n dX11_count_79 rfl 0 rfl ?_
    refine w_getR (c' := (10, 0, 0)) fl_RX11_10 rfl rfl ic_11 dX11_count_80 rfl ?_
    refine w_getR (c' := (3, 0, 0)) fl_RX11_313 rfl rfl (ic_10 (by decide)) dX11_count_83 rfl ?_
    refine w_getI fl_RX11_391 rfl rfl (ic_3 (by decide)) dX11_count_86 (fun z10_ e11_ => ?_)
    exact w_iret rfl dX11_count_89 ⟨hIz, hFz, trivial⟩
  · refine w_tsIn (tgt := 90) (off := 89) dX11_count_1 e1_ (by decide) (by decide) rfl (by decide) ?_
    refine w_aload_n dX11_count_90 rfl 0 rfl ?_
    refine w_getR (c' := (10, 0, 0)) fl_RX11_10 rfl rfl ic_11 dX11_count_91 rfl ?_
    refine w_getR (c' := (5, 0, 0)) fl_RX11_192 rfl rfl (ic_10 (by decide)) dX11_count_94 rfl ?_
    refine w_getI fl_RX11_205 rfl rfl (ic_5 (by unfold vRw; omega)) dX11_count_97 (fun z12_ e13_ => ?_)
    exact w_iret rfl dX11_count_100 ⟨hIz, hFz, trivial⟩
  · refine w_tsIn (tgt := 101) (off := 100) dX11_count_1 e1_ (by decide) (by decide) rfl (by decide) ?_
    refine w_aload_n dX11_count_101 rfl 0 rfl ?_
    refine w_getR (c' := (10, 0, 0)) fl_RX11_10 rfl rfl ic_11 dX11_count_102 rfl ?_
    refine w_getR (c' := (5, 0, 1)) fl_RX11_385 rfl rfl (ic_10 (by decide)) dX11_count_105 rfl ?_
    refine w_getI fl_RX11_205 rfl rfl (ic_5 (by unfold vRw; omega)) dX11_count_108 (fun z14_ e15_ => ?_)
    exact w_iret rfl dX11_count_111 ⟨hIz, hFz, trivial⟩
  · refine w_tsIn (tgt := 112) (off := 111) dX11_count_1 e1_ (by decide) (by decide) rfl (by decide) ?_
    refine w_aload_n dX11_count_112 rfl 0 rfl ?_
    refine w_getR (c' := (8, 0, 0)) fl_RX11_49 rfl rfl ic_11 dX11_count_113 rfl ?_
    refine w_getR (c' := (5, 3, 5)) fl_RX11_353 rfl rfl ic_8 dX11_count_116 rfl ?_
    refine w_getI fl_RX11_205 rfl rfl (ic_5 (by unfold vRw; omega)) dX11_count_119 (fun z16_ e17_ => ?_)
    exact w_iret rfl dX11_count_122 ⟨hIz, hFz, trivial⟩
  · refine w_tsIn (tgt := 123) (off := 122) dX11_count_1 e1_ (by decide) (by decide) rfl (by decide) ?_
    refine w_aload_n dX11_count_123 rfl 0 rfl ?_
    refine w_getR (c' := (10, 0, 0)) fl_RX11_10 rfl rfl ic_11 dX11_count_124 rfl ?_
    refine w_callV (as := []) (rest := []) (c_X10_countBumps l G cy ad d 0 Mz hIz (by first | decide | (unfold vF; omega) | (unfold vRw; omega))) kV_X10_countBumps (by decide +kernel) (Nat.le_of_ble_eq_true rfl) m_1300 rfl rfl rfl (ic_10 (by decide)) rfl rfl (by decide) (Nat.le_of_ble_eq_true rfl) dX11_count_127 (fun r18_ M19_ q20_ => ?_)
    obtain ⟨rfl, h21_⟩ := q20_
    exact w_iret rfl dX11_count_130 ⟨hIz, hFz, trivial⟩
  · refine w_tsIn (tgt := 131) (off := 130) dX11_count_1 e1_ (by decide) (by decide) rfl (by decide) ?_
    refine w_aload_n dX11_count_131 rfl 0 rfl ?_
    refine w_getR (c' := (10, 0, 0)) fl_RX11_10 rfl rfl ic_11 dX11_count_132 rfl ?_
    refine w_callV (as := []) (rest := []) (c_X10_countClicks l G cy ad d 0 Mz hIz (by first | decide | (unfold vF; omega) | (unfold vRw; omega))) kV_X10_countClicks (by decide +kernel) (Nat.le_of_ble_eq_true rfl) m_1304 rfl rfl rfl (ic_10 (by decide)) rfl rfl (by decide) (Nat.le_of_ble_eq_true rfl) dX11_count_135 (fun r22_ M23_ q24_ => ?_)
    obtain ⟨rfl, h25_⟩ := q24_
    exact w_iret rfl dX11_count_138 ⟨hIz, hFz, trivial⟩
  · refine w_tsOut (tgt := 139) dX11_count_1 rfl (lf_c_X11_count_1 v e1_) (by decide) ?_
    refine w_aload_n dX11_count_139 rfl 0 rfl ?_
    refine w_iconst (v := 1) dX11_count_140 (by decide) ?_
    refine w_callV (as := [vI 1]) (rest := []) (c_X11_error l G cy ad d 1 Mz hIz) kV_X11_error (by decide +kernel) (Nat.le_of_ble_eq_true rfl) m_500 rfl rfl rfl ic_11 rfl rfl (by decide) (Nat.le_of_ble_eq_true rfl) dX11_count_141 (fun r26_ M27_ q28_ => ?_)
    obtain ⟨hI30_, hF31_, h29_⟩ := q28_
    have hF32_ := hFz.tr hF31_ (fun c k => (fun h => h.elim (fun h => (Or.inl ⟨h.1, h.2⟩)) (fun h => h.elim)))
    exact w_iret rfl dX11_count_144 ⟨hI30_, hF32_, trivial⟩
def S_c_X11_told : rf → Nat → Prop := fun c k => (c.1 = 44 ∧ c.2.1 = 0) ∨ False
theorem lf_c_X11_told_0  (v : Int32) (h4_ : 1 ≤ v.toInt ∧ v.toInt ≤ 6) : 0 ≤ v.toInt ∧ v.toInt < ((7 : Nat) : Int) := by have r_v := rngI v; omega
set_option maxHeartbeats 4000000 in
set_option maxRecDepth 100000 in
theorem c_X11_told (l : Launch) (G : va_G) (cy : Nat → ClassId) (ad : rf → Nat) (d : Nat) (v : Int32) (Mz : mM) (hIz : Inv Mz) : WP CC l G cy ad yX11_told cX11_told 2 (some .int) (d + 1) 0 [(0, vR (11, 0, 0)), (1, vI v)] [] Mz (fun r M' => Inv M' ∧ FR (S_c_X11_told) Mz M' ∧ True) := by
  have hFz : FR (S_c_X11_told) Mz Mz := FR.self
  refine w_iload_n dX11_told_0 rfl 1 rfl ?_
  refine w_iconst (v := 1) dX11_told_1 (by decide) ?_
  refine w_bipush (v := 6) dX11_told_2 (by decide) ?_
  refine w_callS (as := [vI v, vI 1, vI 6]) (rest := []) (c_X11_within l G cy ad d v 1 6 Mz hIz) kS_X11_within (by decide +kernel) (Nat.le_of_ble_eq_true rfl) m_494 rfl rfl (by decide) (Nat.le_of_ble_eq_true rfl) dX11_told_4 (fun r1_ M2_ q3_ => ?_)
  obtain ⟨rfl, h4_⟩ := q3_
  rcases h4_ with ⟨rfl, h4_⟩ | ⟨rfl, h4_⟩
  · simp only [li_1, li_6] at h4_
    refine w_if_eq (tgt := 19) dX11_told_7 (by decide) li_1 (fun h9 => (absurd h9 (by decide))) (fun h5_ => ?_)
    refine w_aload_n dX11_told_10 rfl 0 rfl ?_
    refine w_getR (c' := (44, 0, 0)) fl_RX11_28 rfl rfl ic_11 dX11_told_11 rfl ?_
    refine w_iload_n dX11_told_14 rfl 1 rfl ?_
    refine w_iald rfl rfl ic_44 (rfl : v.toInt = v.toInt) (lf_c_X11_told_0 v h4_) dX11_told_15 (fun j8_ h9_ z6_ e7_ => ?_)
    refine w_goto (tgt := 24) dX11_told_16 (by decide) ?_
    exact w_iret rfl dX11_told_24 ⟨hIz, hFz, trivial⟩
  · simp only [li_1, li_6] at h4_
    refine w_if_eq (tgt := 19) dX11_told_7 (by decide) li_0 (fun h10_ => ?_) (fun h9 => (absurd h9 (by decide)))
    refine w_aload_n dX11_told_19 rfl 0 rfl ?_
    refine w_iconst (v := 1) dX11_told_20 (by decide) ?_
    refine w_callV (as := [vI 1]) (rest := []) (c_X11_error l G cy ad d 1 Mz hIz) kV_X11_error (by decide +kernel) (Nat.le_of_ble_eq_true rfl) m_500 rfl rfl rfl ic_11 rfl rfl (by decide) (Nat.le_of_ble_eq_true rfl) dX11_told_21 (fun r11_ M12_ q13_ => ?_)
    obtain ⟨hI15_, hF16_, h14_⟩ := q13_
    have hF17_ := hFz.tr hF16_ (fun c k => (fun h => h.elim (fun h => (Or.inl ⟨h.1, h.2⟩)) (fun h => h.elim)))
    exact w_iret rfl dX11_told_24 ⟨hI15_, hF17_, trivial⟩
