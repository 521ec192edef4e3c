def S_c_X11_feed : rf → Nat → Prop := fun c k => (c.1 = 33 ∧ c.2.1 = 0 ∧ c.2.2 = 0) ∨ (c.1 = 5 ∧ c.2.1 = 0 ∧ c.2.2 = 0 ∧ k = 1) ∨ (c.1 = 44 ∧ c.2.1 = 0) ∨ False
def ST_X11_feed_39 (v : Int64) (u : Int32) (Mz : mM) (v4_39 : Int32) (M_39 : mM) (v4_39y : Int32) (M_39y : mM) : Prop := (0 ≤ v4_39.toInt) ∧ (Inv M_39) ∧ (FR (S_c_X11_feed) Mz M_39) ∧ (v4_39.toInt < u.toInt) ∧ ∃ z17_ : Int32, (z17_.toInt = 8 * v4_39.toInt) ∧ ∃ w19_ : Int64, (w19_ = (v.toUInt64 >>> (z17_.toInt64.toUInt64 &&& Int64.toUInt64 63)).toInt64) ∧ ∃ z21_ : Int32, (z21_ = w19_.toInt32) ∧ ∃ z23_ : Int32, (z23_ = z21_ &&& (255 : Int32)) ∧ (0 ≤ z23_.toInt ∧ z23_.toInt < ((2 ^ 8 : Nat) : Int)) ∧ ∃ M26_ : mM, (Inv M26_) ∧ (FR (S_c_X5_add 0 0) M_39 M26_) ∧ (SP_X5_add 0 0 z23_ M_39 M26_) ∧ ∃ z33_ : Int32, (z33_.toInt = v4_39.toInt + 1) ∧ v4_39y = z33_ ∧ M_39y = M26_
def SP_X11_feed (v : Int64) (u : Int32) (Mz : mM) (r_ : Int32) (M_ : mM) : Prop := (((SP_X11_within u 1 8 Mz (1 : Int32)) ∧ (1 ≤ u.toInt ∧ u.toInt ≤ 8) ∧ ∃ r7_ : Int32, (SP_X5_room 0 0 Mz r7_) ∧ (((u.toInt ≤ r7_.toInt) ∧ ∃ v4_39 : Int32, (0 ≤ v4_39.toInt) ∧ ∃ M_39 : mM, (RCH (fun x_ y_ => ST_X11_feed_39 v u Mz x_.1 x_.2 y_.1 y_.2) ((0 : Int32), Mz) (v4_39, M_39)) ∧ (Inv M_39) ∧ (FR (S_c_X11_feed) Mz M_39) ∧ (u.toInt ≤ v4_39.toInt) ∧ ∃ z15_ : Int32, (z15_ = M_39.1 (5, 0, 0) 1) ∧ r_ = z15_ ∧ M_ = M_39) ∨ ((r7_.toInt < u.toInt) ∧ ∃ M36_ : mM, (Inv M36_) ∧ (FR (S_c_X11_error) Mz M36_) ∧ ∃ r35_ : Int32, (SP_X11_error 4 Mz r35_ M36_) ∧ r_ = r35_ ∧ M_ = M36_))) ∨ ((SP_X11_within u 1 8 Mz (0 : Int32)) ∧ (¬ (1 ≤ u.toInt ∧ u.toInt ≤ 8)) ∧ ∃ M45_ : mM, (Inv M45_) ∧ (FR (S_c_X11_error) Mz M45_) ∧ ∃ r44_ : Int32, (SP_X11_error 1 Mz r44_ M45_) ∧ r_ = r44_ ∧ M_ = M45_))
theorem lf_c_X11_feed_0  (u : Int32) (r7_ : Int32) (v4_39 : Int32) (h4_ : 1 ≤ u.toInt ∧ u.toInt ≤ 8) (h12_ : u.toInt ≤ r7_.toInt) (hv0_39 : 0 ≤ v4_39.toInt) (h14_ : v4_39.toInt < u.toInt) : -2147483648 ≤ 8 * v4_39.toInt ∧ 8 * v4_39.toInt < 2147483648 := by have r_u := rngI u; have r_r7_ := rngI r7_; have r_v4_39 := rngI v4_39; omega
theorem lf_c_X11_feed_1  (u : Int32) (r7_ : Int32) (v4_39 : Int32) (z17_ : Int32) (h4_ : 1 ≤ u.toInt ∧ u.toInt ≤ 8) (h12_ : u.toInt ≤ r7_.toInt) (hv0_39 : 0 ≤ v4_39.toInt) (h14_ : v4_39.toInt < u.toInt) (h18_ : z17_.toInt = 8 * v4_39.toInt) : -2147483648 ≤ v4_39.toInt + 1 ∧ v4_39.toInt + 1 < 2147483648 := by have r_u := rngI u; have r_r7_ := rngI r7_; have r_v4_39 := rngI v4_39; have r_z17_ := rngI z17_; omega
theorem lf_c_X11_feed_2  (u : Int32) (r7_ : Int32) (v4_39 : Int32) (z17_ : Int32) (z33_ : Int32) (h4_ : 1 ≤ u.toInt ∧ u.toInt ≤ 8) (h12_ : u.toInt ≤ r7_.toInt) (hv0_39 : 0 ≤ v4_39.toInt) (h14_ : v4_39.toInt < u.toInt) (h18_ : z17_.toInt = 8 * v4_39.toInt) (h34_ : z33_.toInt = v4_39.toInt + 1) : 0 ≤ z33_.toInt := by have r_u := rngI u; have r_r7_ := rngI r7_; have r_v4_39 := rngI v4_39; have r_z17_ := rngI z17_; have r_z33_ := rngI z33_; omega
theorem lf_c_X11_feed_3  (u : Int32) (r7_ : Int32) (v4_39 : Int32) (z17_ : Int32) (z33_ : Int32) (h4_ : 1 ≤ u.toInt ∧ u.toInt ≤ 8) (h12_ : u.toInt ≤ r7_.toInt) (hv0_39 : 0 ≤ v4_39.toInt) (h14_ : v4_39.toInt < u.toInt) (h18_ : z17_.toInt = 8 * v4_39.toInt) (h34_ : z33_.toInt = v4_39.toInt + 1) : (2147483648 - z33_.toInt).toNat < (2147483648 - v4_39.toInt).toNat := by have r_u := rngI u; have r_r7_ := rngI r7_; have r_v4_39 := rngI v4_39; have r_z17_ := rngI z17_; have r_z33_ := rngI z33_; omega
theorem lf_c_X11_feed_4    : 0 ≤ (0 : Int32).toInt := by have q0 := li_0; omega
set_option maxHeartbeats 4000000 in
set_option maxRecDepth 100000 in
theorem c_X11_feed (l : Launch) (G : va_G) (cy : Nat → ClassId) (ad : rf → Nat) (d : Nat) (v : Int64) (u : Int32) (Mz : mM) (hIz : Inv Mz) : WP CC l G cy ad yX11_feed cX11_feed 5 (some .int) (d + 1) 0 [(0, vR (11, 0, 0)), (1, vL v), (3, vI u)] [] Mz (fun r M' => Inv M' ∧ FR (S_c_X11_feed) Mz M' ∧ (True) ∧ SP_X11_feed v u Mz r M') := by
  have hFz : FR (S_c_X11_feed) Mz Mz := FR.self
  refine w_iload_n dX11_feed_0 rfl 2 rfl ?_
  refine w_iconst (v := 1) dX11_feed_1 (by decide) ?_
  refine w_bipush (v := 8) dX11_feed_2 (by decide) ?_
  refine w_callS (as := [vI u, vI 1, vI 8]) (rest := []) (c_X11_within l G cy ad d u 1 8 Mz hIz) kS_X11_within (by decide +kernel) (Nat.le_of_ble_eq_true rfl) m_494 rfl rfl (by decide) (Nat.le_of_ble_eq_true rfl) dX11_feed_4 (fun r1_ M2_ q3_ => ?_)
  obtain ⟨rfl, h4_, hs5_⟩ := q3_
  rcases h4_ with ⟨rfl, h4_⟩ | ⟨rfl, h4_⟩
  · simp only [li_1, li_8] at h4_
    refine w_if_ne (tgt := 16) dX11_feed_7 (by decide) li_1 (fun h6_ => ?_) (fun h9 => (absurd h9 (by decide)))
    refine w_aload_n dX11_feed_16 rfl 0 rfl ?_
    refine w_getR (c' := (10, 0, 0)) fl_RX11_10 rfl rfl ic_11 dX11_feed_17 rfl ?_
    refine w_getR (c' := (5, 0, 0)) fl_RX11_192 rfl rfl (ic_10 (by decide)) dX11_feed_20 rfl ?_
    refine w_callV (as := []) (rest := []) (c_X5_room l G cy ad d 0 0 Mz hIz (by first | decide | (unfold vF; omega) | (unfold vRw; omega))) kV_X5_room (by decide +kernel) (Nat.le_of_ble_eq_true rfl) m_669 rfl rfl rfl (ic_5 (by unfold vRw; omega)) rfl rfl (by decide) (Nat.le_of_ble_eq_true rfl) dX11_feed_23 (fun r7_ M8_ q9_ => ?_)
    obtain ⟨rfl, h10_, hs11_⟩ := q9_
    refine w_iload_n dX11_feed_26 rfl 2 rfl ?_
    refine w_icmp_ge (tgt := 36) dX11_feed_27 (by decide) (rfl : r7_.toInt = r7_.toInt) (rfl : u.toInt = u.toInt) (fun h12_ => ?_) (fun h12_ => ?_)
    · refine w_iconst (v := 0) dX11_feed_36 (by decide) ?_
      refine w_istore (ls' := [(4, vI 0), (0, vR (11, 0, 0)), (1, vL v), (3, vI u)]) dX11_feed_37 (by decide) rfl ?_
      have lp13_ : ∀ (nn_39 : Nat) (M_39 : mM) (hI_39 : Inv M_39) (hF_39 : FR (S_c_X11_feed) Mz M_39) (v4_39 : Int32) (hv0_39 : 0 ≤ v4_39.toInt) (hL_39 : RCH (fun x_ y_ => ST_X11_feed_39 v u Mz x_.1 x_.2 y_.1 y_.2) ((0 : Int32), Mz) (v4_39, M_39)), (2147483648 - v4_39.toInt).toNat < nn_39 → WP CC l G cy ad yX11_feed cX11_feed 5 (some .int) (d + 1) 39 [(4, vI v4_39), (0, vR (11, 0, 0)), (1, vL v), (3, vI u)] [] M_39 (fun r M' => Inv M' ∧ FR (S_c_X11_feed) Mz M' ∧ (True) ∧ SP_X11_feed v u Mz r M') := by
        intro nn_39
        induction nn_39 with
        | zero => intro M_39 hI_39 hF_39 v4_39 hv0_39 hL_39 hm_39; exact absurd hm_39 (Nat.not_lt_zero _)
        | succ nn_39 ih_39 =>
          intro M_39 hI_39 hF_39 v4_39 hv0_39 hL_39 hm_39
          refine w_iload dX11_feed_39 0 rfl ?_
          refine w_iload_n dX11_feed_41 rfl 3 rfl ?_
          refine w_icmp_ge (tgt := 73) dX11_feed_42 (by decide) (rfl : v4_39.toInt = v4_39.toInt) (rfl : u.toInt = u.toInt) (fun h14_ => ?_) (fun h14_ => ?_)
          · refine w_aload_n dX11_feed_73 rfl 1 rfl ?_
            refine w_getR (c' := (10, 0, 0)) fl_RX11_10 rfl rfl ic_11 dX11_feed_74 rfl ?_
            refine w_getR (c' := (5, 0, 0)) fl_RX11_192 rfl rfl (ic_10 (by decide)) dX11_feed_77 rfl ?_
            refine w_getI fl_RX11_205 rfl rfl (ic_5 (by unfold vRw; omega)) dX11_feed_80 (fun z15_ e16_ => ?_)
            exact w_iret rfl dX11_feed_83 ⟨hI_39, hF_39, trivial, (Or.inl ⟨hs5_, h4_, r7_, hs11_, (Or.inl ⟨h12_, v4_39, hv0_39, M_39, hL_39, hI_39, hF_39, h14_, z15_, e16_, rfl, rfl⟩)⟩)⟩
          · refine w_aload_n dX11_feed_45 rfl 1 rfl ?_
            refine w_getR (c' := (10, 0, 0)) fl_RX11_10 rfl rfl ic_11 dX11_feed_46 rfl ?_
            refine w_getR (c' := (5, 0, 0)) fl_RX11_192 rfl rfl (ic_10 (by decide)) dX11_feed_49 rfl ?_
            refine w_lload_n dX11_feed_52 rfl 2 rfl ?_
            refine w_bipush (v := 8) dX11_feed_53 (by decide) ?_
            refine w_iload dX11_feed_55 0 rfl ?_
            refine w_imulB dX11_feed_57 li_8 (rfl : v4_39.toInt = v4_39.toInt) (lf_c_X11_feed_0 u r7_ v4_39 h4_ h12_ hv0_39 h14_) (fun z17_ h18_ => ?_)
            refine w_lushr dX11_feed_58 (fun w19_ h20_ => ?_)
            refine w_l2i dX11_feed_59 (fun z21_ h22_ => ?_)
            refine w_sipush (v := 255) dX11_feed_60 (by decide) ?_
            refine w_iand dX11_feed_63 (fun z23_ h25_ => ?_)
            have h24_ : 0 ≤ z23_.toInt ∧ z23_.toInt < ((2 ^ 8 : Nat) : Int) := by rw [h25_]; exact andI _ 8 (by decide) (by decide)
            refine w_callVv (as := [vI z23_]) (rest := []) (c_X5_add l G cy ad d 0 0 z23_ M_39 hI_39 (by first | decide | (unfold vF; omega) | (unfold vRw; omega))) kV_X5_add (by decide +kernel) (Nat.le_of_ble_eq_true rfl) m_673 rfl rfl rfl (ic_5 (by unfold vRw; omega)) rfl rfl (by decide) (Nat.le_of_ble_eq_true rfl) dX11_feed_64 (fun M26_ q27_ => ?_)
            obtain ⟨hI29_, hF30_, h28_, hs32_⟩ := q27_
            have hF31_ := hF_39.tr hF30_ (fun c k => (fun h => h.elim (fun h => (Or.inl ⟨h.1, h.2.1, h.2.2⟩)) (fun h => h.elim (fun h => (Or.inr (Or.inl ⟨h.1, h.2.1, h.2.2.1, h.2.2.2⟩))) (fun h => h.elim))))
            refine w_iincB (j := 0) (f := fun z33_ => [(4, vI z33_), (0, vR (11, 0, 0)), (1, vL v), (3, vI u)]) dX11_feed_67 rfl (by decide) (fun _ => rfl) (rfl : v4_39.toInt = v4_39.toInt) li_1 (lf_c_X11_feed_1 u r7_ v4_39 z17_ h4_ h12_ hv0_39 h14_ h18_) (fun z33_ h34_ => ?_)
            refine w_goto (tgt := 39) dX11_feed_70 (by decide) ?_
            refine w_loc (ls' := [(4, vI z33_), (0, vR (11, 0, 0)), (1, vL v), (3, vI u)]) [0, 1, 2, 3] rfl ?_
            exact ih_39 M26_ hI29_ hF31_ z33_ (lf_c_X11_feed_2 u r7_ v4_39 z17_ z33_ h4_ h12_ hv0_39 h14_ h18_ h34_) (RCH.tail hL_39 ⟨hv0_39, hI_39, hF_39, h14_, z17_, h18_, w19_, h20_, z21_, h22_, z23_, h25_, h24_, M26_, hI29_, hF30_, hs32_, z33_, h34_, rfl, rfl⟩) (Nat.lt_of_lt_of_le (lf_c_X11_feed_3 u r7_ v4_39 z17_ z33_ h4_ h12_ hv0_39 h14_ h18_ h34_) (Nat.le_of_lt_succ hm_39))
      exact lp13_ _ Mz hIz hFz 0 (lf_c_X11_feed_4 ) RCH.refl (Nat.lt_succ_self _)
    · refine w_aload_n dX11_feed_30 rfl 0 rfl ?_
      refine w_iconst (v := 4) dX11_feed_31 (by decide) ?_
      refine w_callV (as := [vI 4]) (rest := []) (c_X11_error l G cy ad d 4 Mz hIz) kV_X11_error (by decide +kernel) (Nat.le_of_ble_eq_true rfl) m_500 rfl rfl rfl ic_11 rfl rfl (by decide) (Nat.le_of_ble_eq_true rfl) dX11_feed_32 (fun r35_ M36_ q37_ => ?_)
      obtain ⟨hI39_, hF40_, h38_, hs42_⟩ := q37_
      have hF41_ := hFz.tr hF40_ (fun c k => (fun h => h.elim (fun h => (Or.inr (Or.inr (Or.inl ⟨h.1, h.2⟩)))) (fun h => h.elim)))
      exact w_iret rfl dX11_feed_35 ⟨hI39_, hF41_, trivial, (Or.inl ⟨hs5_, h4_, r7_, hs11_, (Or.inr ⟨h12_, M36_, hI39_, hF40_, r35_, hs42_, rfl, rfl⟩)⟩)⟩
  · simp only [li_1, li_8] at h4_
    refine w_if_ne (tgt := 16) dX11_feed_7 (by decide) li_0 (fun h9 => (absurd h9 (by decide))) (fun h43_ => ?_)
    refine w_aload_n dX11_feed_10 rfl 0 rfl ?_
    refine w_iconst (v := 1) dX11_feed_11 (by decide) ?_
    refine w_callV (as := [vI 1]) (rest := []) (c_X11_error l G cy ad d 1 Mz hIz) kV_X11_error (by decide +kernel) (Nat.le_of_ble_eq_true rfl) m_500 rfl rfl rfl ic_11 rfl rfl (by decide) (Nat.le_of_ble_eq_true rfl) dX11_feed_12 (fun r44_ M45_ q46_ => ?_)
    obtain ⟨hI48_, hF49_, h47_, hs51_⟩ := q46_
    have hF50_ := hFz.tr hF49_ (fun c k => (fun h => h.elim (fun h => (Or.inr (Or.inr (Or.inl ⟨h.1, h.2⟩)))) (fun h => h.elim)))
    exact w_iret rfl dX11_feed_15 ⟨hI48_, hF50_, trivial, (Or.inr ⟨hs5_, h4_, M45_, hI48_, hF49_, r44_, hs51_, rfl, rfl⟩)⟩
def S_c_X11_spots : rf → Nat → Prop := fun c k => (c.1 = 44 ∧ c.2.1 = 0) ∨ (c.1 = 0 ∧ c.2.1 = 0 ∧ k = 4) ∨ (c.1 = 0 ∧ c.2.1 = 0 ∧ k = 5) ∨ (c.1 = 29 ∧ c.2.1 = 0 ∧ k = 0) ∨ (c.1 = 29 ∧ c.2.1 = 0 ∧ k = 1) ∨ (c.1 = 29 ∧ c.2.1 = 0 ∧ k = 2) ∨ (c.1 = 29 ∧ c.2.1 = 0 ∧ k = 3) ∨ (c.1 = 25 ∧ c.2.1 = 0 ∧ c.2.2 = 0) ∨ (c.1 = 25 ∧ c.2.1 = 0 ∧ c.2.2 = 1) ∨ False
def SP_X11_spots (v : Int32) (u : Int32) (t : Int32) (s : Int32) (Mz : mM) (r_ : Int32) (M_ : mM) : Prop := (((SP_X10_hasWalker 0 v Mz (1 : Int32)) ∧ (0 ≤ v.toInt ∧ v.toInt ≤ 7) ∧ (((SP_X11_isSheet u Mz (1 : Int32)) ∧ (0 ≤ u.toInt ∧ u.toInt ≤ 3) ∧ (((SP_X11_within t 1 3 Mz (1 : Int32)) ∧ (1 ≤ t.toInt ∧ t.toInt ≤ 3) ∧ (((SP_X11_within s 0 1 Mz (1 : Int32)) ∧ (0 ≤ s.toInt ∧ s.toInt ≤ 1) ∧ ∃ j25_ : Nat, ((j25_ : Int) = u.toInt) ∧ (j25_ < 4) ∧ ∃ r28_ : Int32, (SP_X6_isMissing j25_ Mz r28_) ∧ ((0 ≤ r28_.toInt ∧ r28_.toInt ≤ 1)) ∧ (((r28_.toInt = 0) ∧ ∃ j34_ : Nat, ((j34_ : Int) = u.toInt) ∧ (j34_ < 4) ∧ ∃ r37_ : Int32, (SP_X6_holdsFewCells j34_ Mz r37_) ∧ ((0 ≤ r37_.toInt ∧ r37_.toInt ≤ 1)) ∧ (((r37_.toInt = 0) ∧ ∃ M44_ : mM, (Inv M44_) ∧ (FR (S_c_X11_error) Mz M44_) ∧ ∃ r43_ : Int32, (SP_X11_error 5 Mz r43_ M44_) ∧ r_ = r43_ ∧ M_ = M44_) ∨ ((¬ r37_.toInt = 0) ∧ ∃ j51_ : Nat, ((j51_ : Int) = u.toInt) ∧ (j51_ < 4) ∧ ∃ r54_ : Int32, (SP_X6_hasTwoAlike j51_ Mz r54_) ∧ ((0 ≤ r54_.toInt ∧ r54_.toInt ≤ 1)) ∧ (((r54_.toInt = 0) ∧ ∃ j60_ : Nat, ((j60_ : Int) = u.toInt) ∧ (j60_ < 4) ∧ ∃ M64_ : mM, (Inv M64_) ∧ (FR (S_c_X0_chooseSpots 0 j60_) Mz M64_) ∧ ∃ r63_ : Int32, (SP_X0_chooseSpots 0 j60_ v t Mz r63_ M64_) ∧ ((0 ≤ r63_.toInt ∧ r63_.toInt ≤ 1)) ∧ (((¬ r63_.toInt = 0) ∧ (((¬ s.toInt = 0) ∧ ∃ z73_ : Int32, (z73_ = M64_.1 (0, 0, 0) 5) ∧ r_ = z73_ ∧ M_ = M64_) ∨ ((s.toInt = 0) ∧ ∃ z75_ : Int32, (z75_ = M64_.1 (0, 0, 0) 4) ∧ r_ = z75_ ∧ M_ = M64_))) ∨ ((r63_.toInt = 0) ∧ ∃ M78_ : mM, (Inv M78_) ∧ (FR (S_c_X11_error) M64_ M78_) ∧ ∃ r77_ : Int32, (SP_X11_error 3 M64_ r77_ M78_) ∧ r_ = r77_ ∧ M_ = M78_))) ∨ ((¬ r54_.toInt = 0) ∧ ∃ M86_ : mM, (Inv M86_) ∧ (FR (S_c_X11_error) Mz M86_) ∧ ∃ r85_ : Int32, (SP_X11_error 5 Mz r85_ M86_) ∧ r_ = r85_ ∧ M_ = M86_))))) ∨ ((¬ r28_.toInt = 0) ∧ ∃ M94_ : mM, (Inv M94_) ∧ (FR (S_c_X11_error) Mz M94_) ∧ ∃ r93_ : Int32, (SP_X11_error 2 Mz r93_ M94_) ∧ r_ = r93_ ∧ M_ = M94_))) ∨ ((SP_X11_within s 0 1 Mz (0 : Int32)) ∧ (¬ (0 ≤ s.toInt ∧ s.toInt ≤ 1)) ∧ ∃ M103_ : mM, (Inv M103_) ∧ (FR (S_c_X11_error) Mz M103_) ∧ ∃ r102_ : Int32, (SP_X11_error 1 Mz r102_ M103_) ∧ r_ = r102_ ∧ M_ = M103_))) ∨ ((SP_X11_within t 1 3 Mz (0 : Int32)) ∧ (¬ (1 ≤ t.toInt ∧ t.toInt ≤ 3)) ∧ ∃ M112_ : mM, (Inv M112_) ∧ (FR (S_c_X11_error) Mz M112_) ∧ ∃ r111_ : Int32, (SP_X11_error 1 Mz r111_ M112_) ∧ r_ = r111_ ∧ M_ = M112_))) ∨ ((SP_X11_isSheet u Mz (0 : Int32)) ∧ (¬ (0 ≤ u.toInt ∧ u.toInt ≤ 3)) ∧ ∃ M121_ : mM, (Inv M121_) ∧ (FR (S_c_X11_error) Mz M121_) ∧ ∃ r120_ : Int32, (SP_X11_error 1 Mz r120_ M121_) ∧ r_ = r120_ ∧ M_ = M121_))) ∨ ((SP_X10_hasWalker 0 v Mz (0 : Int32)) ∧ ∃ M130_ : mM, (Inv M130_) ∧ (FR (S_c_X11_error) Mz M130_) ∧ ∃ r129_ : Int32, (SP_X11_error 1 Mz r129_ M130_) ∧ r_ = r129_ ∧ M_ = M130_))
theorem lf_c_X11_spots_0  (u : Int32) (h10_ : 0 ≤ u.toInt ∧ u.toInt ≤ 3) : 0 ≤ u.toInt ∧ u.toInt < ((4 : Nat) : Int) := by have r_u := rngI u; omega
theorem lf_c_X11_spots_1  (u : Int32) (j25_ : Nat) (h10_ : 0 ≤ u.toInt ∧ u.toInt ≤ 3) (h26_ : (j25_ : Int) = u.toInt) (h27_ : j25_ < 4) : 0 ≤ u.toInt ∧ u.toInt < ((4 : Nat) : Int) := by have r_u := rngI u; omega
theorem lf_c_X11_spots_2  (u : Int32) (j25_ : Nat) (j34_ : Nat) (h10_ : 0 ≤ u.toInt ∧ u.toInt ≤ 3) (h26_ : (j25_ : Int) = u.toInt) (h27_ : j25_ < 4) (h35_ : (j34_ : Int) = u.toInt) (h36_ : j34_ < 4) : 0 ≤ u.toInt ∧ u.toInt < ((4 : Nat) : Int) := by have r_u := rngI u; omega
theorem lf_c_X11_spots_3  (u : Int32) (j25_ : Nat) (j34_ : Nat) (j51_ : Nat) (h10_ : 0 ≤ u.toInt ∧ u.toInt ≤ 3) (h26_ : (j25_ : Int) = u.toInt) (h27_ : j25_ < 4) (h35_ : (j34_ : Int) = u.toInt) (h36_ : j34_ < 4) (h52_ : (j51_ : Int) = u.toInt) (h53_ : j51_ < 4) : 0 ≤ u.toInt ∧ u.toInt < ((4 : Nat) : Int) := by have r_u := rngI u; omega
set_option maxHeartbeats 4000000 in
set_option maxRecDepth 100000 in
theorem c_X11_spots (l : Launch) (G : va_G) (cy : Nat → ClassId) (ad : rf → Nat) (d : Nat) (v : Int32) (u : Int32) (t : Int32) (s : Int32) (Mz : mM) (hIz : Inv Mz) : WP CC l G cy ad yX11_spots cX11_spots 5 (some .int) (d + 6) 0 [(0, vR (11, 0, 0)), (1, vI v), (2, vI u), (3, vI t), (4, vI s)] [] Mz (fun r M' => Inv M' ∧ FR (S_c_X11_spots) Mz M' ∧ (True) ∧ SP_X11_spots v u t s Mz r M') := by
  have hFz : FR (S_c_X11_spots) Mz Mz := FR.self
  refine w_aload_n dX11_spots_0 rfl 0 rfl ?_
  refine w_getR (c' := (10, 0, 0)) fl_RX11_10 rfl rfl ic_11 dX11_spots_1 rfl ?_
  refine w_iload_n dX11_spots_4 rfl 1 rfl ?_
  refine w_callV (as := [vI v]) (rest := []) (c_X10_hasWalker l G cy ad (d + 5) 0 v Mz hIz (by first | decide | (unfold vF; omega) | (unfold vRw; omega))) kV_X10_hasWalker (by decide +kernel) (Nat.le_of_ble_eq_true rfl) m_609 rfl rfl rfl (ic_10 (by decide)) rfl rfl (by decide) (Nat.le_of_ble_eq_true rfl) dX11_spots_5 (fun r1_ M2_ q3_ => ?_)
  obtain ⟨rfl, h4_, hs5_⟩ := q3_
  rcases h4_ with ⟨rfl, h4_⟩ | rfl
  · refine w_if_eq (tgt := 37) dX11_spots_8 (by decide) li_1 (fun h9 => (absurd h9 (by decide))) (fun h6_ => ?_)
    refine w_iload_n dX11_spots_11 rfl 2 rfl ?_
    refine w_callS (as := [vI u]) (rest := []) (c_X11_isSheet l G cy ad (d + 4) u Mz hIz) kS_X11_isSheet (by decide +kernel) (Nat.le_of_ble_eq_true rfl) m_566 rfl rfl (by decide) (Nat.le_of_ble_eq_true rfl) dX11_spots_12 (fun r7_ M8_ q9_ => ?_)
    obtain ⟨rfl, h10_, hs11_⟩ := q9_
    rcases h10_ with ⟨rfl, h10_⟩ | ⟨rfl, h10_⟩
    · refine w_if_eq (tgt := 37) dX11_spots_15 (by decide) li_1 (fun h9 => (absurd h9 (by decide))) (fun h12_ => ?_)
      refine w_iload_n dX11_spots_18 rfl 3 rfl ?_
      refine w_iconst (v := 1) dX11_spots_19 (by decide) ?_
      refine w_iconst (v := 3) dX11_spots_20 (by decide) ?_
      refine w_callS (as := [vI t, vI 1, vI 3]) (rest := []) (c_X11_within l G cy ad (d + 5) t 1 3 Mz hIz) kS_X11_within (by decide +kernel) (Nat.le_of_ble_eq_true rfl) m_494 rfl rfl (by decide) (Nat.le_of_ble_eq_true rfl) dX11_spots_21 (fun r13_ M14_ q15_ => ?_)
      obtain ⟨rfl, h16_, hs17_⟩ := q15_
      rcases h16_ with ⟨rfl, h16_⟩ | ⟨rfl, h16_⟩
      · simp only [li_1, li_3] at h16_
        refine w_if_eq (tgt := 37) dX11_spots_24 (by decide) li_1 (fun h9 => (absurd h9 (by decide))) (fun h18_ => ?_)
        refine w_iload dX11_spots_27 4 rfl ?_
        refine w_iconst (v := 0) dX11_spots_29 (by decide) ?_
        refine w_iconst (v := 1) dX11_spots_30 (by decide) ?_
        refine w_callS (as := [vI s, vI 0, vI 1]) (rest := []) (c_X11_within l G cy ad (d + 5) s 0 1 Mz hIz) kS_X11_within (by decide +kernel) (Nat.le_of_ble_eq_true rfl) m_494 rfl rfl (by decide) (Nat.le_of_ble_eq_true rfl) dX11_spots_31 (fun r19_ M20_ q21_ => ?_)
        obtain ⟨rfl, h22_, hs23_⟩ := q21_
        rcases h22_ with ⟨rfl, h22_⟩ | ⟨rfl, h22_⟩
        · simp only [li_0, li_1] at h22_
          refine w_if_ne (tgt := 43) dX11_spots_34 (by decide) li_1 (fun h24_ => ?_) (fun h9 => (absurd h9 (by decide)))
          refine w_aload_n dX11_spots_43 rfl 0 rfl ?_
          refine w_getR (c' := (43, 0, 0)) fl_RX11_24 rfl rfl ic_11 dX11_spots_44 rfl ?_
          refine w_iload_n dX11_spots_47 rfl 2 rfl ?_
          refine w_aald rfl rfl rfl (fun _ => rfl) ic_43 (rfl : u.toInt = u.toInt) (lf_c_X11_spots_0 u h10_) dX11_spots_48 (fun j25_ h26_ h27_ => ?_)
          refine w_callV (as := []) (rest := []) (c_X6_isMissing l G cy ad (d + 5) j25_ Mz hIz h27_) kV_X6_isMissing (by decide +kernel) (Nat.le_of_ble_eq_true rfl) m_569 rfl rfl rfl (ic_6 h27_) rfl rfl (by decide) (Nat.le_of_ble_eq_true rfl) dX11_spots_49 (fun r28_ M29_ q30_ => ?_)
          obtain ⟨rfl, h31_, hs32_⟩ := q30_
          refine w_if_eq (tgt := 61) dX11_spots_52 (by decide) (rfl : r28_.toInt = r28_.toInt) (fun h33_ => ?_) (fun h33_ => ?_)
          · refine w_aload_n dX11_spots_61 rfl 0 rfl ?_
            refine w_getR (c' := (43, 0, 0)) fl_RX11_24 rfl rfl ic_11 dX11_spots_62 rfl ?_
            refine w_iload_n dX11_spots_65 rfl 2 rfl ?_
            refine w_aald rfl rfl rfl (fun _ => rfl) ic_43 (rfl : u.toInt = u.toInt) (lf_c_X11_spots_1 u j25_ h10_ h26_ h27_) dX11_spots_66 (fun j34_ h35_ h36_ => ?_)
            refine w_callV (as := []) (rest := []) (c_X6_holdsFewCells l G cy ad (d + 3) j34_ Mz hIz h36_) kV_X6_holdsFewCells (by decide +kernel) (Nat.le_of_ble_eq_true rfl) m_978 rfl rfl rfl (ic_6 h36_) rfl rfl (by decide) (Nat.le_of_ble_eq_true rfl) dX11_spots_67 (fun r37_ M38_ q39_ => ?_)
            obtain ⟨rfl, h40_, hs41_⟩ := q39_
            refine w_if_eq (tgt := 85) dX11_spots_70 (by decide) (rfl : r37_.toInt = r37_.toInt) (fun h42_ => ?_) (fun h42_ => ?_)
            · refine w_aload_n dX11_spots_85 rfl 0 rfl ?_
              refine w_iconst (v := 5) dX11_spots_86 (by decide) ?_
              refine w_callV (as := [vI 5]) (rest := []) (c_X11_error l G cy ad (d + 5) 5 Mz hIz) kV_X11_error (by decide +kernel) (Nat.le_of_ble_eq_true rfl) m_500 rfl rfl rfl ic_11 rfl rfl (by decide) (Nat.le_of_ble_eq_true rfl) dX11_spots_87 (fun r43_ M44_ q45_ => ?_)
              obtain ⟨hI47_, hF48_, h46_, hs50_⟩ := q45_
              have hF49_ := hFz.tr hF48_ (fun c k => (fun h => h.elim (fun h => (Or.inl ⟨h.1, h.2⟩)) (fun h => h.elim)))
              exact w_iret rfl dX11_spots_90 ⟨hI47_, hF49_, trivial, (Or.inl ⟨hs5_, h4_, (Or.inl ⟨hs11_, h10_, (Or.inl ⟨hs17_, h16_, (Or.inl ⟨hs23_, h22_, j25_, h26_, h27_, r28_, hs32_, h31_, (Or.inl ⟨h33_, j34_, h35_, h36_, r37_, hs41_, h40_, (Or.inl ⟨h42_, M44_, hI47_, hF48_, r43_, hs50_, rfl, rfl⟩)⟩)⟩)⟩)⟩)⟩)⟩
            · refine w_aload_n dX11_spots_73 rfl 0 rfl ?_
              refine w_getR (c' := (43, 0, 0)) fl_RX11_24 rfl rfl ic_11 dX11_spots_74 rfl ?_
              refine w_iload_n dX11_spots_77 rfl 2 rfl ?_
              refine w_aald rfl rfl rfl (fun _ => rfl) ic_43 (rfl : u.toInt = u.toInt) (lf_c_X11_spots_2 u j25_ j34_ h10_ h26_ h27_ h35_ h36_) dX11_spots_78 (fun j51_ h52_ h53_ => ?_)
              refine w_callV (as := []) (rest := []) (c_X6_hasTwoAlike l G cy ad (d + 3) j51_ Mz hIz h53_) kV_X6_hasTwoAlike (by decide +kernel) (Nat.le_of_ble_eq_true rfl) m_984 rfl rfl rfl (ic_6 h53_) rfl rfl (by decide) (Nat.le_of_ble_eq_true rfl) dX11_spots_79 (fun r54_ M55_ q56_ => ?_)
              obtain ⟨rfl, h57_, hs58_⟩ := q56_
              refine w_if_eq (tgt := 91) dX11_spots_82 (by decide) (rfl : r54_.toInt = r54_.toInt) (fun h59_ => ?_) (fun h59_ => ?_)
              · refine w_aload_n dX11_spots_91 rfl 0 rfl ?_
                refine w_getR (c' := (0, 0, 0)) fl_RX11_42 rfl rfl ic_11 dX11_spots_92 rfl ?_
                refine w_aload_n dX11_spots_95 rfl 0 rfl ?_
                refine w_getR (c' := (10, 0, 0)) fl_RX11_10 rfl rfl ic_11 dX11_spots_96 rfl ?_
                refine w_iload_n dX11_spots_99 rfl 1 rfl ?_
                refine w_aload_n dX11_spots_100 rfl 0 rfl ?_
                refine w_getR (c' := (43, 0, 0)) fl_RX11_24 rfl rfl ic_11 dX11_spots_101 rfl ?_
                refine w_iload_n dX11_spots_104 rfl 2 rfl ?_
                refine w_aald rfl rfl rfl (fun _ => rfl) ic_43 (rfl : u.toInt = u.toInt) (lf_c_X11_spots_3 u j25_ j34_ j51_ h10_ h26_ h27_ h35_ h36_ h52_ h53_) dX11_spots_105 (fun j60_ h61_ h62_ => ?_)
                refine w_iload_n dX11_spots_106 rfl 3 rfl ?_
                refine w_callV (as := [vR (10, 0, 0), vI v, vR (6, 0, j60_), vI t]) (rest := []) (c_X0_chooseSpots l G cy ad d 0 j60_ v t Mz hIz (by first | decide | (unfold vF; omega) | (unfold vRw; omega)) h62_) kV_X0_chooseSpots (by decide +kernel) (Nat.le_of_ble_eq_true rfl) m_988 rfl rfl rfl ic_0 rfl rfl (by decide) (Nat.le_of_ble_eq_true rfl) dX11_spots_107 (fun r63_ M64_ q65_ => ?_)
                obtain ⟨hI67_, hF68_, h66_, hs70_⟩ := q65_
                have hF69_ := hFz.tr hF68_ (fun c k => (fun h => h.elim (fun h => (Or.inr (Or.inl ⟨h.1, h.2.1, h.2.2⟩))) (fun h => h.elim (fun h => (Or.inr (Or.inr (Or.inl ⟨h.1, h.2.1, h.2.2⟩)))) (fun h => h.elim (fun h => (Or.inr (Or.inr (Or.inr (Or.inl ⟨h.1, h.2.1, h.2.2⟩))))) (fun h => h.elim (fun h => (Or.inr (Or.inr (Or.inr (Or.inr (Or.inl ⟨h.1, h.2.1, h.2.2⟩)))))) (fun h => h.elim (fun h => (Or.inr (Or.inr (Or.inr (Or.inr (Or.inr (Or.inl ⟨h.1, h.2.1, h.2.2⟩))))))) (fun h => h.elim (fun h => (Or.inr (Or.inr (Or.inr (Or.inr (Or.inr (Or.inr (Or.inl ⟨h.1, h.2.1, h.2.2⟩)))))))) (fun h => h.elim (fun h => (Or.inr (Or.inr (Or.inr (Or.inr (Or.inr (Or.inr (Or.inr (Or.inl ⟨h.1, h.2.1, h.2.2⟩))))))))) (fun h => h.elim (fun h => (Or.inr (Or.inr (Or.inr (Or.inr (Or.inr (Or.inr (Or.inr (Or.inr (Or.inl ⟨h.1, h.2.1, h.2.2⟩)))))))))) (fun h => h.elim))))))))))
                refine w_if_ne (tgt := 119) dX11_spots_110 (by decide) (rfl : r63_.toInt = r63_.toInt) (fun h71_ => ?_) (fun h71_ => ?_)
                · refine w_iload dX11_spots_119 4 rfl ?_
                  refine w_if_ne (tgt := 134) dX11_spots_121 (by decide) (rfl : s.toInt = s.toInt) (fun h72_ => ?_) (fun h72_ => ?_)
                  · refine w_aload_n dX11_spots_134 rfl 0 rfl ?_
                    refine w_getR (c' := (0, 0, 0)) fl_RX11_42 rfl rfl ic_11 dX11_spots_135 rfl ?_
                    refine w_getI fl_RX11_287 rfl rfl ic_0 dX11_spots_138 (fun z73_ e74_ => ?_)
                    exact w_iret rfl dX11_spots_141 ⟨hI67_, hF69_, trivial, (Or.inl ⟨hs5_, h4_, (Or.inl ⟨hs11_, h10_, (Or.inl ⟨hs17_, h16_, (Or.inl ⟨hs23_, h22_, j25_, h26_, h27_, r28_, hs32_, h31_, (Or.inl ⟨h33_, j34_, h35_, h36_, r37_, hs41_, h40_, (Or.inr ⟨h42_, j51_, h52_, h53_, r54_, hs58_, h57_, (Or.inl ⟨h59_, j60_, h61_, h62_, M64_, hI67_, hF68_, r63_, hs70_, h66_, (Or.inl ⟨h71_, (Or.inl ⟨h72_, z73_, e74_, rfl, rfl⟩)⟩)⟩)⟩)⟩)⟩)⟩)⟩)⟩)⟩
                  · refine w_aload_n dX11_spots_124 rfl 0 rfl ?_
                    refine w_getR (c' := (0, 0, 0)) fl_RX11_42 rfl rfl ic_11 dX11_spots_125 rfl ?_
                    refine w_getI fl_RX11_284 rfl rfl ic_0 dX11_spots_128 (fun z75_ e76_ => ?_)
                    refine w_goto (tgt := 141) dX11_spots_131 (by decide) ?_
                    exact w_iret rfl dX11_spots_141 ⟨hI67_, hF69_, trivial, (Or.inl ⟨hs5_, h4_, (Or.inl ⟨hs11_, h10_, (Or.inl ⟨hs17_, h16_, (Or.inl ⟨hs23_, h22_, j25_, h26_, h27_, r28_, hs32_, h31_, (Or.inl ⟨h33_, j34_, h35_, h36_, r37_, hs41_, h40_, (Or.inr ⟨h42_, j51_, h52_, h53_, r54_, hs58_, h57_, (Or.inl ⟨h59_, j60_, h61_, h62_, M64_, hI67_, hF68_, r63_, hs70_, h66_, (Or.inl ⟨h71_, (Or.inr ⟨h72_, z75_, e76_, rfl, rfl⟩)⟩)⟩)⟩)⟩)⟩)⟩)⟩)⟩)⟩
                · refine w_aload_n dX11_spots_113 rfl 0 rfl ?_
                  refine w_iconst (v := 3) dX11_spots_114 (by decide) ?_
                  refine w_callV (as := [vI 3]) (rest := []) (c_X11_error l G cy ad (d + 5) 3 M64_ hI67_) kV_X11_error (by decide +kernel) (Nat.le_of_ble_eq_true rfl) m_500 rfl rfl rfl ic_11 rfl rfl (by decide) (Nat.le_of_ble_eq_true rfl) dX11_spots_115 (fun r77_ M78_ q79_ => ?_)
                  obtain ⟨hI81_, hF82_, h80_, hs84_⟩ := q79_
                  have hF83_ := hF69_.tr hF82_ (fun c k => (fun h => h.elim (fun h => (Or.inl ⟨h.1, h.2⟩)) (fun h => h.elim)))
                  exact w_iret rfl dX11_spots_118 ⟨hI81_, hF83_, trivial, (Or.inl ⟨hs5_, h4_, (Or.inl ⟨hs11_, h10_, (Or.inl ⟨hs17_, h16_, (Or.inl ⟨hs23_, h22_, j25_, h26_, h27_, r28_, hs32_, h31_, (Or.inl ⟨h33_, j34_, h35_, h36_, r37_, hs41_, h40_, (Or.inr ⟨h42_, j51_, h52_, h53_, r54_, hs58_, h57_, (Or.inl ⟨h59_, j60_, h61_, h62_, M64_, hI67_, hF68_, r63_, hs70_, h66_, (Or.inr ⟨h71_, M78_, hI81_, hF82_, r77_, hs84_, rfl, rfl⟩)⟩)⟩)⟩)⟩)⟩)⟩)⟩)⟩
              · refine w_aload_n dX11_spots_85 rfl 0 rfl ?_
                refine w_iconst (v := 5) dX11_spots_86 (by decide) ?_
                refine w_callV (as := [vI 5]) (rest := []) (c_X11_error l G cy ad (d + 5) 5 Mz hIz) kV_X11_error (by decide +kernel) (Nat.le_of_ble_eq_true rfl) m_500 rfl rfl rfl ic_11 rfl rfl (by decide) (Nat.le_of_ble_eq_true rfl) dX11_spots_87 (fun r85_ M86_ q87_ => ?_)
                obtain ⟨hI89_, hF90_, h88_, hs92_⟩ := q87_
                have hF91_ := hFz.tr hF90_ (fun c k => (fun h => h.elim (fun h => (Or.inl ⟨h.1, h.2⟩)) (fun h => h.elim)))
                exact w_iret rfl dX11_spots_90 ⟨hI89_, hF91_, trivial, (Or.inl ⟨hs5_, h4_, (Or.inl ⟨hs11_, h10_, (Or.inl ⟨hs17_, h16_, (Or.inl ⟨hs23_, h22_, j25_, h26_, h27_, r28_, hs32_, h31_, (Or.inl ⟨h33_, j34_, h35_, h36_, r37_, hs41_, h40_, (Or.inr ⟨h42_, j51_, h52_, h53_, r54_, hs58_, h57_, (Or.inr ⟨h59_, M86_, hI89_, hF90_, r85_, hs92_, rfl, rfl⟩)⟩)⟩)⟩)⟩)⟩)⟩)⟩
          · refine w_aload_n dX11_spots_55 rfl 0 rfl ?_
            refine w_iconst (v := 2) dX11_spots_56 (by decide) ?_
            refine w_callV (as := [vI 2]) (rest := []) (c_X11_error l G cy ad (d + 5) 2 Mz hIz) kV_X11_error (by decide +kernel) (Nat.le_of_ble_eq_true rfl) m_500 rfl rfl rfl ic_11 rfl rfl (by decide) (Nat.le_of_ble_eq_true rfl) dX11_spots_57 (fun r93_ M94_ q95_ => ?_)
            obtain ⟨hI97_, hF98_, h96_, hs100_⟩ := q95_
            have hF99_ := hFz.tr hF98_ (fun c k => (fun h => h.elim (fun h => (Or.inl ⟨h.1, h.2⟩)) (fun h => h.elim)))
            exact w_iret rfl dX11_spots_60 ⟨hI97_, hF99_, trivial, (Or.inl ⟨hs5_, h4_, (Or.inl ⟨hs11_, h10_, (Or.inl ⟨hs17_, h16_, (Or.inl ⟨hs23_, h22_, j25_, h26_, h27_, r28_, hs32_, h31_, (Or.inr ⟨h33_, M94_, hI97_, hF98_, r93_, hs100_, rfl, rfl⟩)⟩)⟩)⟩)⟩)⟩
        · simp only [li_0, li_1] at h22_
          refine w_if_ne (tgt := 43) dX11_spots_34 (by decide) li_0 (fun h9 => (absurd h9 (by decide))) (fun h101_ => ?_)
          refine w_aload_n dX11_spots_37 rfl 0 rfl ?_
          refine w_iconst (v := 1) dX11_spots_38 (by decide) ?_
          refine w_callV (as := [vI 1]) (rest := []) (c_X11_error l G cy ad (d + 5) 1 Mz hIz) kV_X11_error (by decide +kernel) (Nat.le_of_ble_eq_true rfl) m_500 rfl rfl rfl ic_11 rfl rfl (by decide) (Nat.le_of_ble_eq_true rfl) dX11_spots_39 (fun r102_ M103_ q104_ => ?_)
          obtain ⟨hI106_, hF107_, h105_, hs109_⟩ := q104_
          have hF108_ := hFz.tr hF107_ (fun c k => (fun h => h.elim (fun h => (Or.inl ⟨h.1, h.2⟩)) (fun h => h.elim)))
          exact w_iret rfl dX11_spots_42 ⟨hI106_, hF108_, trivial, (Or.inl ⟨hs5_, h4_, (Or.inl ⟨hs11_, h10_, (Or.inl ⟨hs17_, h16_, (Or.inr ⟨hs23_, h22_, M103_, hI106_, hF107_, r102_, hs109_, rfl, rfl⟩)⟩)⟩)⟩)⟩
      · simp only [li_1, li_3] at h16_
        refine w_if_eq (tgt := 37) dX11_spots_24 (by decide) li_0 (fun h110_ => ?_) (fun h9 => (absurd h9 (by decide)))
        refine w_aload_n dX11_spots_37 rfl 0 rfl ?_
        refine w_iconst (v := 1) dX11_spots_38 (by decide) ?_
        refine w_callV (as := [vI 1]) (rest := []) (c_X11_error l G cy ad (d + 5) 1 Mz hIz) kV_X11_error (by decide +kernel) (Nat.le_of_ble_eq_true rfl) m_500 rfl rfl rfl ic_11 rfl rfl (by decide) (Nat.le_of_ble_eq_true rfl) dX11_spots_39 (fun r111_ M112_ q113_ => ?_)
        obtain ⟨hI115_, hF116_, h114_, hs118_⟩ := q113_
        have hF117_ := hFz.tr hF116_ (fun c k => (fun h => h.elim (fun h => (Or.inl ⟨h.1, h.2⟩)) (fun h => h.elim)))
        exact w_iret rfl dX11_spots_42 ⟨hI115_, hF117_, trivial, (Or.inl ⟨hs5_, h4_, (Or.inl ⟨hs11_, h10_, (Or.inr ⟨hs17_, h16_, M112_, hI115_, hF116_, r111_, hs118_, rfl, rfl⟩)⟩)⟩)⟩
    · refine w_if_eq (tgt := 37) dX11_spots_15 (by decide) li_0 (fun h119_ => ?_) (fun h9 => (absurd h9 (by decide)))
      refine w_aload_n dX11_spots_37 rfl 0 rfl ?_
      refine w_iconst (v := 1) dX11_spots_38 (by decide) ?_
      refine w_callV (as := [vI 1]) (rest := []) (c_X11_error l G cy ad (d + 5) 1 Mz hIz) kV_X11_error (by decide +kernel) (Nat.le_of_ble_eq_true rfl) m_500 rfl rfl rfl ic_11 rfl rfl (by decide) (Nat.le_of_ble_eq_true rfl) dX11_spots_39 (fun r120_ M121_ q122_ => ?_)
      obtain ⟨hI124_, hF125_, h123_, hs127_⟩ := q122_
      have hF126_ := hFz.tr hF125_ (fun c k => (fun h => h.elim (fun h => (Or.inl ⟨h.1, h.2⟩)) (fun h => h.elim)))
      exact w_iret rfl dX11_spots_42 ⟨hI124_, hF126_, trivial, (Or.inl ⟨hs5_, h4_, (Or.inr ⟨hs11_, h10_, M121_, hI124_, hF125_, r120_, hs127_, rfl, rfl⟩)⟩)⟩
  · refine w_if_eq (tgt := 37) dX11_spots_8 (by decide) li_0 (fun h128_ => ?_) (fun h9 => (absurd h9 (by decide)))
    refine w_aload_n dX11_spots_37 rfl 0 rfl ?_
    refine w_iconst (v := 1) dX11_spots_38 (by decide) ?_
    refine w_callV (as := [vI 1]) (rest := []) (c_X11_error l G cy ad (d + 5) 1 Mz hIz) kV_X11_error (by decide +kernel) (Nat.le_of_ble_eq_true rfl) m_500 rfl rfl rfl ic_11 rfl rfl (by decide) (Nat.le_of_ble_eq_true rfl) dX11_spots_39 (fun r129_ M130_ q131_ => ?_)
    obtain ⟨hI133_, hF134_, h132_, hs136_⟩ := q131_
    have hF135_ := hFz.tr hF134_ (fun c k => (fun h => h.elim (fun h => (Or.inl ⟨h.1, h.2⟩)) (fun h => h.elim)))
    exact w_iret rfl dX11_spots_42 ⟨hI133_, hF135_, trivial, (Or.inr ⟨hs5_, M130_, hI133_, hF134_, r129_, hs136_, rfl, rfl⟩)⟩
def S_c_X11_tenths : rf → Nat → Prop := fun c k => (c.1 = 10 ∧ c.2.1 = 0 ∧ k = 7) ∨ (c.1 = 35 ∧ c.2.1 = 0) ∨ (c.1 = 37 ∧ c.2.1 = 0) ∨ (c.1 = 38 ∧ c.2.1 = 0) ∨ (c.1 = 29 ∧ c.2.1 = 0 ∧ k = 0) ∨ (c.1 = 29 ∧ c.2.1 = 0 ∧ k = 1) ∨ (c.1 = 29 ∧ c.2.1 = 0 ∧ k = 2) ∨ (c.1 = 29 ∧ c.2.1 = 0 ∧ k = 3) ∨ (c.1 = 29 ∧ c.2.1 = 0 ∧ k = 4) ∨ (c.1 = 25 ∧ c.2.1 = 0 ∧ c.2.2 = 2) ∨ (c.1 = 9 ∧ c.2.1 = 0 ∧ k = 2) ∨ (c.1 = 9 ∧ c.2.1 = 0 ∧ k = 1) ∨ (c.1 = 9 ∧ c.2.1 = 0 ∧ k = 7) ∨ (c.1 = 40 ∧ c.2.1 = 0) ∨ (c.1 = 9 ∧ c.2.1 = 0 ∧ k = 8) ∨ (c.1 = 25 ∧ c.2.1 = 0 ∧ c.2.2 = 0) ∨ (c.1 = 25 ∧ c.2.1 = 0 ∧ c.2.2 = 1) ∨ (c.1 = 41 ∧ c.2.1 = 0) ∨ (c.1 = 44 ∧ c.2.1 = 0) ∨ False
def ST_X11_tenths_39 (v : Int32) (Mz : mM) (v2_39 : Int32) (M_39 : mM) (v2_39y : Int32) (M_39y : mM) : Prop := (0 ≤ v2_39.toInt) ∧ (Inv M_39) ∧ (FR (S_c_X11_tenths) Mz M_39) ∧ (v2_39.toInt < v.toInt) ∧ ∃ M16_ : mM, (Inv M16_) ∧ (FR (S_c_X10_passTenth 0) M_39 M16_) ∧ (SP_X10_passTenth 0 M_39 M16_) ∧ ∃ z23_ : Int32, (z23_.toInt = v2_39.toInt + 1) ∧ v2_39y = z23_ ∧ M_39y = M16_
def SP_X11_tenths (v : Int32) (Mz : mM) (r_ : Int32) (M_ : mM) : Prop := (((SP_X11_within v 1 100 Mz (1 : Int32)) ∧ (1 ≤ v.toInt ∧ v.toInt ≤ 100) ∧ ∃ z7_ : Int32, (z7_ = Mz.1 (10, 0, 0) 7) ∧ ∃ z9_ : Int32, (z9_ = z7_ + v) ∧ (((z9_.toInt ≤ 9999) ∧ ∃ v2_39 : Int32, (0 ≤ v2_39.toInt) ∧ ∃ M_39 : mM, (RCH (fun x_ y_ => ST_X11_tenths_39 v Mz x_.1 x_.2 y_.1 y_.2) ((0 : Int32), Mz) (v2_39, M_39)) ∧ (Inv M_39) ∧ (FR (S_c_X11_tenths) Mz M_39) ∧ (v.toInt ≤ v2_39.toInt) ∧ ∃ z14_ : Int32, (z14_ = M_39.1 (10, 0, 0) 7) ∧ r_ = z14_ ∧ M_ = M_39) ∨ ((9999 < z9_.toInt) ∧ ∃ M26_ : mM, (Inv M26_) ∧ (FR (S_c_X11_error) Mz M26_) ∧ ∃ r25_ : Int32, (SP_X11_error 3 Mz r25_ M26_) ∧ r_ = r25_ ∧ M_ = M26_))) ∨ ((SP_X11_within v 1 100 Mz (0 : Int32)) ∧ (¬ (1 ≤ v.toInt ∧ v.toInt ≤ 100)) ∧ ∃ M35_ : mM, (Inv M35_) ∧ (FR (S_c_X11_error) Mz M35_) ∧ ∃ r34_ : Int32, (SP_X11_error 1 Mz r34_ M35_) ∧ r_ = r34_ ∧ M_ = M35_))
theorem lf_c_X11_tenths_0  (v : Int32) (v2_39 : Int32) (h4_ : 1 ≤ v.toInt ∧ v.toInt ≤ 100) (hv0_39 : 0 ≤ v2_39.toInt) (h13_ : v2_39.toInt < v.toInt) : -2147483648 ≤ v2_39.toInt + 1 ∧ v2_39.toInt + 1 < 2147483648 := by have r_v := rngI v; have r_v2_39 := rngI v2_39; omega
theorem lf_c_X11_tenths_1  (v : Int32) (v2_39 : Int32) (z23_ : Int32) (h4_ : 1 ≤ v.toInt ∧ v.toInt ≤ 100) (hv0_39 : 0 ≤ v2_39.toInt) (h13_ : v2_39.toInt < v.toInt) (h24_ : z23_.toInt = v2_39.toInt + 1) : 0 ≤ z23_.toInt := by have r_v := rngI v; have r_v2_39 := rngI v2_39; have r_z23_ := rngI z23_; omega
theorem lf_c_X11_tenths_2  (v : Int32) (v2_39 : Int32) (z23_ : Int32) (h4_ : 1 ≤ v.toInt ∧ v.toInt ≤ 100) (hv0_39 : 0 ≤ v2_39.toInt) (h13_ : v2_39.toInt < v.toInt) (h24_ : z23_.toInt = v2_39.toInt + 1) : (2147483648 - z23_.toInt).toNat < (2147483648 - v2_39.toInt).toNat := by have r_v := rngI v; have r_v2_39 := rngI v2_39; have r_z23_ := rngI z23_; omega
theorem lf_c_X11_tenths_3    : 0 ≤ (0 : Int32).toInt := by have q0 := li_0; omega
set_option maxHeartbeats 4000000 in
set_option maxRecDepth 100000 in
theorem c_X11_tenths (l : Launch) (G : va_G) (cy : Nat → ClassId) (ad : rf → Nat) (d : Nat) (v : Int32) (Mz : mM) (hIz : Inv Mz) : WP CC l G cy ad yX11_tenths cX11_tenths 3 (some .int) (d + 7) 0 [(0, vR (11, 0, 0)), (1, vI v)] [] Mz (fun r M' => Inv M' ∧ FR (S_c_X11_tenths) Mz M' ∧ (True) ∧ SP_X11_tenths v Mz r M') := by
  have hFz : FR (S_c_X11_tenths) Mz Mz := FR.self
  refine w_iload_n dX11_tenths_0 rfl 1 rfl ?_
  refine w_iconst (v := 1) dX11_tenths_1 (by decide) ?_
  refine w_bipush (v := 100) dX11_tenths_2 (by decide) ?_
  refine w_callS (as := [vI v, vI 1, vI 100]) (rest := []) (c_X11_within l G cy ad (d + 6) v 1 100 Mz hIz) kS_X11_within (by decide +kernel) (Nat.le_of_ble_eq_true rfl) m_494 rfl rfl (by decide) (Nat.le_of_ble_eq_true rfl) dX11_tenths_4 (fun r1_ M2_ q3_ => ?_)
  obtain ⟨rfl, h4_, hs5_⟩ := q3_
  rcases h4_ with ⟨rfl, h4_⟩ | ⟨rfl, h4_⟩
  · simp only [li_1, li_100] at h4_
    refine w_if_ne (tgt := 16) dX11_tenths_7 (by decide) li_1 (fun h6_ => ?_) (fun h9 => (absurd h9 (by decide)))
    refine w_aload_n dX11_tenths_16 rfl 0 rfl ?_
    refine w_getR (c' := (10, 0, 0)) fl_RX11_10 rfl rfl ic_11 dX11_tenths_17 rfl ?_
    refine w_getI fl_RX11_290 rfl rfl (ic_10 (by decide)) dX11_tenths_20 (fun z7_ e8_ => ?_)
    refine w_iload_n dX11_tenths_23 rfl 1 rfl ?_
    refine w_iadd dX11_tenths_24 (fun z9_ h10_ => ?_)
    refine w_sipush (v := 9999) dX11_tenths_25 (by decide) ?_
    refine w_icmp_le (tgt := 37) dX11_tenths_28 (by decide) (rfl : z9_.toInt = z9_.toInt) li_9999 (fun h11_ => ?_) (fun h11_ => ?_)
    · refine w_iconst (v := 0) dX11_tenths_37 (by decide) ?_
      refine w_istore_n (ls' := [(2, vI 0), (0, vR (11, 0, 0)), (1, vI v)]) dX11_tenths_38 rfl (by decide) rfl ?_
      have lp12_ : ∀ (nn_39 : Nat) (M_39 : mM) (hI_39 : Inv M_39) (hF_39 : FR (S_c_X11_tenths) Mz M_39) (v2_39 : Int32) (hv0_39 : 0 ≤ v2_39.toInt) (hL_39 : RCH (fun x_ y_ => ST_X11_tenths_39 v Mz x_.1 x_.2 y_.1 y_.2) ((0 : Int32), Mz) (v2_39, M_39)), (2147483648 - v2_39.toInt).toNat < nn_39 → WP CC l G cy ad yX11_tenths cX11_tenths 3 (some .int) (d + 7) 39 [(2, vI v2_39), (0, vR (11, 0, 0)), (1, vI v)] [] M_39 (fun r M' => Inv M' ∧ FR (S_c_X11_tenths) Mz M' ∧ (True) ∧ SP_X11_tenths v Mz r M') := by
        intro nn_39
        induction nn_39 with
        | zero => intro M_39 hI_39 hF_39 v2_39 hv0_39 hL_39 hm_39; exact absurd hm_39 (Nat.not_lt_zero _)
        | succ nn_39 ih_39 =>
          intro M_39 hI_39 hF_39 v2_39 hv0_39 hL_39 hm_39
          refine w_iload_n dX11_tenths_39 rfl 0 rfl ?_
          refine w_iload_n dX11_tenths_40 rfl 2 rfl ?_
          refine w_icmp_ge (tgt := 57) dX11_tenths_41 (by decide) (rfl : v2_39.toInt = v2_39.toInt) (rfl : v.toInt = v.toInt) (fun h13_ => ?_) (fun h13_ => ?_)
          · refine w_aload_n dX11_tenths_57 rfl 1 rfl ?_
            refine w_getR (c' := (10, 0, 0)) fl_RX11_10 rfl rfl ic_11 dX11_tenths_58 rfl ?_
            refine w_getI fl_RX11_290 rfl rfl (ic_10 (by decide)) dX11_tenths_61 (fun z14_ e15_ => ?_)
            exact w_iret rfl dX11_tenths_64 ⟨hI_39, hF_39, trivial, (Or.inl ⟨hs5_, h4_, z7_, e8_, z9_, h10_, (Or.inl ⟨h11_, v2_39, hv0_39, M_39, hL_39, hI_39, hF_39, h13_, z14_, e15_, rfl, rfl⟩)⟩)⟩
          · refine w_aload_n dX11_tenths_44 rfl 1 rfl ?_
            refine w_getR (c' := (10, 0, 0)) fl_RX11_10 rfl rfl ic_11 dX11_tenths_45 rfl ?_
            refine w_callVv (as := []) (rest := []) (c_X10_passTenth l G cy ad d 0 M_39 hI_39 (by first | decide | (unfold vF; omega) | (unfold vRw; omega))) kV_X10_passTenth (by decide +kernel) (Nat.le_of_ble_eq_true rfl) m_1025 rfl rfl rfl (ic_10 (by decide)) rfl rfl (by decide) (Nat.le_of_ble_eq_true rfl) dX11_tenths_48 (fun M16_ q17_ => ?_)
            obtain ⟨hI19_, hF20_, h18_, hs22_⟩ := q17_
            have hF21_ := hF_39.tr hF20_ (fun c k => (fun h => h.elim (fun h => (Or.inl ⟨h.1, h.2.1, h.2.2⟩)) (fun h => h.elim (fun h => (Or.inr (Or.inl ⟨h.1, h.2⟩))) (fun h => h.elim (fun h => (Or.inr (Or.inr (Or.inl ⟨h.1, h.2⟩)))) (fun h => h.elim (fun h => (Or.inr (Or.inr (Or.inr (Or.inl ⟨h.1, h.2⟩))))) (fun h => h.elim (fun h => (Or.inr (Or.inr (Or.inr (Or.inr (Or.inl ⟨h.1, h.2.1, h.2.2⟩)))))) (fun h => h.elim (fun h => (Or.inr (Or.inr (Or.inr (Or.inr (Or.inr (Or.inl ⟨h.1, h.2.1, h.2.2⟩))))))) (fun h => h.elim (fun h => (Or.inr (Or.inr (Or.inr (Or.inr (Or.inr (Or.inr (Or.inl ⟨h.1, h.2.1, h.2.2⟩)))))))) (fun h => h.elim (fun h => (Or.inr (Or.inr (Or.inr (Or.inr (Or.inr (Or.inr (Or.inr (Or.inl ⟨h.1, h.2.1, h.2.2⟩))))))))) (fun h => h.elim (fun h => (Or.inr (Or.inr (Or.inr (Or.inr (Or.inr (Or.inr (Or.inr (Or.inr (Or.inl ⟨h.1, h.2.1, h.2.2⟩)))))))))) (fun h => h.elim (fun h => (Or.inr (Or.inr (Or.inr (Or.inr (Or.inr (Or.inr (Or.inr (Or.inr (Or.inr (Or.inl ⟨h.1, h.2.1, h.2.2⟩))))))))))) (fun h => h.elim (fun h => (Or.inr (Or.inr (Or.inr (Or.inr (Or.inr (Or.inr (Or.inr (Or.inr (Or.inr (Or.inr (Or.inl ⟨h.1, h.2.1, h.2.2⟩)))))))))))) (fun h => h.elim (fun h => (Or.inr (Or.inr (Or.inr (Or.inr (Or.inr (Or.inr (Or.inr (Or.inr (Or.inr (Or.inr (Or.inr (Or.inl ⟨h.1, h.2.1, h.2.2⟩))))))))))))) (fun h => h.elim (fun h => (Or.inr (Or.inr (Or.inr (Or.inr (Or.inr (Or.inr (Or.inr (Or.inr (Or.inr (Or.inr (Or.inr (Or.inr (Or.inl ⟨h.1, h.2.1, h.2.2⟩)))))))))))))) (fun h => h.elim (fun h => (Or.inr (Or.inr (Or.inr (Or.inr (Or.inr (Or.inr (Or.inr (Or.inr (Or.inr (Or.inr (Or.inr (Or.inr (Or.inr (Or.inl ⟨h.1, h.2⟩))))))))))))))) (fun h => h.elim (fun h => (Or.inr (Or.inr (Or.inr (Or.inr (Or.inr (Or.inr (Or.inr (Or.inr (Or.inr (Or.inr (Or.inr (Or.inr (Or.inr (Or.inr (Or.inl ⟨h.1, h.2.1, h.2.2⟩)))))))))))))))) (fun h => h.elim (fun h => (Or.inr (Or.inr (Or.inr (Or.inr (Or.inr (Or.inr (Or.inr (Or.inr (Or.inr (Or.inr (Or.inr (Or.inr (Or.inr (Or.inr (Or.inr (Or.inl ⟨h.1, h.2.1, h.2.2⟩))))))))))))))))) (fun h => h.elim (fun h => (Or.inr (Or.inr (Or.inr (Or.inr (Or.inr (Or.inr (Or.inr (Or.inr (Or.inr (Or.inr (Or.inr (Or.inr (Or.inr (Or.inr (Or.inr (Or.inr (Or.inl ⟨h.1, h.2.1, h.2.2⟩)))))))))))))))))) (fun h => h.elim (fun h => (Or.inr (Or.inr (Or.inr (Or.inr (Or.inr (Or.inr (Or.inr (Or.inr (Or.inr (Or.inr (Or.inr (Or.inr (Or.inr (Or.inr (Or.inr (Or.inr (Or.inr (Or.inl ⟨h.1, h.2⟩))))))))))))))))))) (fun h => h.elim))))))))))))))))))))
            refine w_iincB (j := 0) (f := fun z23_ => [(2, vI z23_), (0, vR (11, 0, 0)), (1, vI v)]) dX11_tenths_51 rfl (by decide) (fun _ => rfl) (rfl : v2_39.toInt = v2_39.toInt) li_1 (lf_c_X11_tenths_0 v v2_39 h4_ hv0_39 h13_) (fun z23_ h24_ => ?_)
            refine w_goto (tgt := 39) dX11_tenths_54 (by decide) ?_
            refine w_loc (ls' := [(2, vI z23_), (0, vR (11, 0, 0)), (1, vI v)]) [0, 1, 2] rfl ?_
            exact ih_39 M16_ hI19_ hF21_ z23_ (lf_c_X11_tenths_1 v v2_39 z23_ h4_ hv0_39 h13_ h24_) (RCH.tail hL_39 ⟨hv0_39, hI_39, hF_39, h13_, M16_, hI19_, hF20_, hs22_, z23_, h24_, rfl, rfl⟩) (Nat.lt_of_lt_of_le (lf_c_X11_tenths_2 v v2_39 z23_ h4_ hv0_39 h13_ h24_) (Nat.le_of_lt_succ hm_39))
      exact lp12_ _ Mz hIz hFz 0 (lf_c_X11_tenths_3 ) RCH.refl (Nat.lt_succ_self _)
    · refine w_aload_n dX11_tenths_31 rfl 0 rfl ?_
      refine w_iconst (v := 3) dX11_tenths_32 (by decide) ?_
      refine w_callV (as := [vI 3]) (rest := []) (c_X11_error l G cy ad (d + 6) 3 Mz hIz) kV_X11_error (by decide +kernel) (Nat.le_of_ble_eq_true rfl) m_500 rfl rfl rfl ic_11 rfl rfl (by decide) (Nat.le_of_ble_eq_true rfl) dX11_tenths_33 (fun r25_ M26_ q27_ => ?_)
      obtain ⟨hI29_, hF30_, h28_, hs32_⟩ := q27_
      have hF31_ := hFz.tr hF30_ (fun c k => (fun h => h.elim (fun h => (Or.inr (Or.inr (Or.inr (Or.inr (Or.inr (Or.inr (Or.inr (Or.inr (Or.inr (Or.inr (Or.inr (Or.inr (Or.inr (Or.inr (Or.inr (Or.inr (Or.inr (Or.inr (Or.inl ⟨h.1, h.2⟩)))))))))))))))))))) (fun h => h.elim)))
      exact w_iret rfl dX11_tenths_36 ⟨hI29_, hF31_, trivial, (Or.inl ⟨hs5_, h4_, z7_, e8_, z9_, h10_, (Or.inr ⟨h11_, M26_, hI29_, hF30_, r25_, hs32_, rfl, rfl⟩)⟩)⟩
  · simp only [li_1, li_100] at h4_
    refine w_if_ne (tgt := 16) dX11_tenths_7 (by decide) li_0 (fun h9 => (absurd h9 (by decide))) (fun h33_ => ?_)
    refine w_aload_n dX11_tenths_10 rfl 0 rfl ?_
    refine w_iconst (v := 1) dX11_tenths_11 (by decide) ?_
    refine w_callV (as := [vI 1]) (rest := []) (c_X11_error l G cy ad (d + 6) 1 Mz hIz) kV_X11_error (by decide +kernel) (Nat.le_of_ble_eq_true rfl) m_500 rfl rfl rfl ic_11 rfl rfl (by decide) (Nat.le_of_ble_eq_true rfl) dX11_tenths_12 (fun r34_ M35_ q36_ => ?_)
    obtain ⟨hI38_, hF39_, h37_, hs41_⟩ := q36_
    have hF40_ := hFz.tr hF39_ (fun c k => (fun h => h.elim (fun h => (Or.inr (Or.inr (Or.inr (Or.inr (Or.inr (Or.inr (Or.inr (Or.inr (Or.inr (Or.inr (Or.inr (Or.inr (Or.inr (Or.inr (Or.inr (Or.inr (Or.inr (Or.inr (Or.inl ⟨h.1, h.2⟩)))))))))))))))))))) (fun h => h.elim)))
    exact w_iret rfl dX11_tenths_15 ⟨hI38_, hF40_, trivial, (Or.inr ⟨hs5_, h4_, M35_, hI38_, hF39_, r34_, hs41_, rfl, rfl⟩)⟩
def S_c_X11_way : rf → Nat → Prop := fun c k => (c.1 = 20 ∧ c.2.1 = 0) ∨ (c.1 = 21 ∧ c.2.1 = 0) ∨ (c.1 = 44 ∧ c.2.1 = 0) ∨ False
def SP_X11_way (v : Int32) (u : Int32) (t : Int32) (Mz : mM) (r_ : Int32) (M_ : mM) : Prop := (((SP_X10_hasWalker 0 v Mz (1 : Int32)) ∧ (0 ≤ v.toInt ∧ v.toInt ≤ 7) ∧ (((SP_X7_isCell u Mz (1 : Int32)) ∧ (0 ≤ u.toInt ∧ u.toInt ≤ 191) ∧ (((-1 ≤ t.toInt) ∧ ∃ j14_ : Nat, ((j14_ : Int) = v.toInt) ∧ (j14_ < 8) ∧ ∃ M17_ : mM, (Inv M17_) ∧ (FR (S_c_X0_measure 0 j14_) Mz M17_) ∧ (SP_X0_measure 0 j14_ u Mz M17_) ∧ (((¬ t.toInt = -1) ∧ ∃ r25_ : Int32, (SP_X0_cellAfter 0 j14_ u t M17_ r25_) ∧ (((0 ≤ r25_.toInt) ∧ r_ = r25_ ∧ M_ = M17_) ∨ ((r25_.toInt < 0) ∧ ∃ M32_ : mM, (Inv M32_) ∧ (FR (S_c_X11_error) M17_ M32_) ∧ ∃ r31_ : Int32, (SP_X11_error 2 M17_ r31_ M32_) ∧ r_ = r31_ ∧ M_ = M32_))) ∨ ((t.toInt = -1) ∧ ∃ z39_ : Int32, (z39_ = M17_.1 (9, 0, j14_) 1) ∧ ∃ r41_ : Int32, (SP_X0_costFrom z39_ M17_ r41_) ∧ r_ = r41_ ∧ M_ = M17_))) ∨ ((t.toInt < -1) ∧ ∃ M47_ : mM, (Inv M47_) ∧ (FR (S_c_X11_error) Mz M47_) ∧ ∃ r46_ : Int32, (SP_X11_error 1 Mz r46_ M47_) ∧ r_ = r46_ ∧ M_ = M47_))) ∨ ((SP_X7_isCell u Mz (0 : Int32)) ∧ (¬ (0 ≤ u.toInt ∧ u.toInt ≤ 191)) ∧ ∃ M56_ : mM, (Inv M56_) ∧ (FR (S_c_X11_error) Mz M56_) ∧ ∃ r55_ : Int32, (SP_X11_error 1 Mz r55_ M56_) ∧ r_ = r55_ ∧ M_ = M56_))) ∨ ((SP_X10_hasWalker 0 v Mz (0 : Int32)) ∧ ∃ M65_ : mM, (Inv M65_) ∧ (FR (S_c_X11_error) Mz M65_) ∧ ∃ r64_ : Int32, (SP_X11_error 1 Mz r64_ M65_) ∧ r_ = r64_ ∧ M_ = M65_))
theorem lf_c_X11_way_0  (v : Int32) (h4_ : 0 ≤ v.toInt ∧ v.toInt ≤ 7) : 0 ≤ v.toInt ∧ v.toInt < ((8 : Nat) : Int) := by have r_v := rngI v; omega
set_option maxHeartbeats 4000000 in
set_option maxRecDepth 100000 in
theorem c_X11_way (l : Launch) (G : va_G) (cy : Nat → ClassId) (ad : rf → Nat) (d : Nat) (v : Int32) (u : Int32) (t : Int32) (Mz : mM) (hIz : Inv Mz) : WP CC l G cy ad yX11_way cX11_way 6 (some .int) (d + 5) 0 [(0, vR (11, 0, 0)), (1, vI v), (2, vI u), (3, vI t)] [] Mz (fun r M' => Inv M' ∧ FR (S_c_X11_way) Mz M' ∧ (True) ∧ SP_X11_way v u t Mz r M') := by
  have hFz : FR (S_c_X11_way) Mz Mz := FR.self
  refine w_aload_n dX11_way_0 rfl 0 rfl ?_
  refine w_getR (c' := (10, 0, 0)) fl_RX11_10 rfl rfl ic_11 dX11_way_1 rfl ?_
  refine w_iload_n dX11_way_4 rfl 1 rfl ?_
  refine w_callV (as := [vI v]) (rest := []) (c_X10_hasWalker l G cy ad (d + 4) 0 v Mz hIz (by first | decide | (unfold vF; omega) | (unfold vRw; omega))) kV_X10_hasWalker (by decide +kernel) (Nat.le_of_ble_eq_true rfl) m_609 rfl rfl rfl (ic_10 (by decide)) rfl rfl (by decide) (Nat.le_of_ble_eq_true rfl) dX11_way_5 (fun r1_ M2_ q3_ => ?_)
  obtain ⟨rfl, h4_, hs5_⟩ := q3_
  rcases h4_ with ⟨rfl, h4_⟩ | rfl
  · refine w_if_eq (tgt := 23) dX11_way_8 (by decide) li_1 (fun h9 => (absurd h9 (by decide))) (fun h6_ => ?_)
    refine w_iload_n dX11_way_11 rfl 2 rfl ?_
    refine w_callS (as := [vI u]) (rest := []) (c_X7_isCell l G cy ad (d + 4) u Mz hIz) kS_X7_isCell (by decide +kernel) (Nat.le_of_ble_eq_true rfl) m_497 rfl rfl (by decide) (Nat.le_of_ble_eq_true rfl) dX11_way_12 (fun r7_ M8_ q9_ => ?_)
    obtain ⟨rfl, h10_, hs11_⟩ := q9_
    rcases h10_ with ⟨rfl, h10_⟩ | ⟨rfl, h10_⟩
    · refine w_if_eq (tgt := 23) dX11_way_15 (by decide) li_1 (fun h9 => (absurd h9 (by decide))) (fun h12_ => ?_)
      refine w_iload_n dX11_way_18 rfl 3 rfl ?_
      refine w_iconst (v := (-1)) dX11_way_19 (by decide) ?_
      refine w_icmp_ge (tgt := 29) dX11_way_20 (by decide) (rfl : t.toInt = t.toInt) li_m1 (fun h13_ => ?_) (fun h13_ => ?_)
      · refine w_aload_n dX11_way_29 rfl 0 rfl ?_
        refine w_getR (c' := (10, 0, 0)) fl_RX11_10 rfl rfl ic_11 dX11_way_30 rfl ?_
        refine w_getR (c' := (42, 0, 0)) fl_RX11_157 rfl rfl (ic_10 (by decide)) dX11_way_33 rfl ?_
        refine w_iload_n dX11_way_36 rfl 1 rfl ?_
        refine w_aald rfl rfl rfl (fun _ => rfl) (ic_42 (by decide)) (rfl : v.toInt = v.toInt) (lf_c_X11_way_0 v h4_) dX11_way_37 (fun j14_ h15_ h16_ => ?_)
        refine w_astore (ls' := [(4, vR (9, 0, j14_)), (0, vR (11, 0, 0)), (1, vI v), (2, vI u), (3, vI t)]) dX11_way_38 (by decide) rfl ?_
        refine w_aload_n dX11_way_40 rfl 1 rfl ?_
        refine w_getR (c' := (0, 0, 0)) fl_RX11_42 rfl rfl ic_11 dX11_way_41 rfl ?_
        refine w_aload dX11_way_44 0 rfl ?_
        refine w_iload_n dX11_way_46 rfl 3 rfl ?_
        refine w_callVv (as := [vR (9, 0, j14_), vI u]) (rest := []) (c_X0_measure l G cy ad (d + 1) 0 j14_ u Mz hIz (by first | decide | (unfold vF; omega) | (unfold vRw; omega)) h16_) kV_X0_measure (by decide +kernel) (Nat.le_of_ble_eq_true rfl) m_1071 rfl rfl rfl ic_0 rfl rfl (by decide) (Nat.le_of_ble_eq_true rfl) dX11_way_47 (fun M17_ q18_ => ?_)
        obtain ⟨hI20_, hF21_, h19_, hs23_⟩ := q18_
        have hF22_ := hFz.tr hF21_ (fun c k => (fun h => h.elim (fun h => (Or.inl ⟨h.1, h.2⟩)) (fun h => h.elim (fun h => (Or.inr (Or.inl ⟨h.1, h.2⟩))) (fun h => h.elim))))
        refine w_iload_n dX11_way_50 rfl 4 rfl ?_
        refine w_iconst (v := (-1)) dX11_way_51 (by decide) ?_
        refine w_icmp_ne (tgt := 68) dX11_way_52 (by decide) (rfl : t.toInt = t.toInt) li_m1 (fun h24_ => ?_) (fun h24_ => ?_)
        · refine w_aload_n dX11_way_68 rfl 1 rfl ?_
          refine w_getR (c' := (0, 0, 0)) fl_RX11_42 rfl rfl ic_11 dX11_way_69 rfl ?_
          refine w_aload dX11_way_72 0 rfl ?_
          refine w_iload_n dX11_way_74 rfl 3 rfl ?_
          refine w_iload_n dX11_way_75 rfl 4 rfl ?_
          refine w_callV (as := [vR (9, 0, j14_), vI u, vI t]) (rest := []) (c_X0_cellAfter l G cy ad d 0 j14_ u t M17_ hI20_ (by first | decide | (unfold vF; omega) | (unfold vRw; omega)) h16_) kV_X0_cellAfter (by decide +kernel) (Nat.le_of_ble_eq_true rfl) m_1089 rfl rfl rfl ic_0 rfl rfl (by decide) (Nat.le_of_ble_eq_true rfl) dX11_way_76 (fun r25_ M26_ q27_ => ?_)
          obtain ⟨rfl, h28_, hs29_⟩ := q27_
          refine w_istore (ls' := [(5, vI r25_), (4, vR (9, 0, j14_)), (0, vR (11, 0, 0)), (1, vI v), (2, vI u), (3, vI t)]) dX11_way_79 (by decide) rfl ?_
          refine w_iload dX11_way_81 0 rfl ?_
          refine w_if_ge (tgt := 94) dX11_way_83 (by decide) (rfl : r25_.toInt = r25_.toInt) (fun h30_ => ?_) (fun h30_ => ?_)
          · refine w_iload dX11_way_94 0 rfl ?_
            exact w_iret rfl dX11_way_96 ⟨hI20_, hF22_, trivial, (Or.inl ⟨hs5_, h4_, (Or.inl ⟨hs11_, h10_, (Or.inl ⟨h13_, j14_, h15_, h16_, M17_, hI20_, hF21_, hs23_, (Or.inl ⟨h24_, r25_, hs29_, (Or.inl ⟨h30_, rfl, rfl⟩)⟩)⟩)⟩)⟩)⟩
          · refine w_aload_n dX11_way_86 rfl 2 rfl ?_
            refine w_iconst (v := 2) dX11_way_87 (by decide) ?_
            refine w_callV (as := [vI 2]) (rest := []) (c_X11_error l G cy ad (d + 4) 2 M17_ hI20_) kV_X11_error (by decide +kernel) (Nat.le_of_ble_eq_true rfl) m_500 rfl rfl rfl ic_11 rfl rfl (by decide) (Nat.le_of_ble_eq_true rfl) dX11_way_88 (fun r31_ M32_ q33_ => ?_)
            obtain ⟨hI35_, hF36_, h34_, hs38_⟩ := q33_
            have hF37_ := hF22_.tr hF36_ (fun c k => (fun h => h.elim (fun h => (Or.inr (Or.inr (Or.inl ⟨h.1, h.2⟩)))) (fun h => h.elim)))
            refine w_goto (tgt := 96) dX11_way_91 (by decide) ?_
            exact w_iret rfl dX11_way_96 ⟨hI35_, hF37_, trivial, (Or.inl ⟨hs5_, h4_, (Or.inl ⟨hs11_, h10_, (Or.inl ⟨h13_, j14_, h15_, h16_, M17_, hI20_, hF21_, hs23_, (Or.inl ⟨h24_, r25_, hs29_, (Or.inr ⟨h30_, M32_, hI35_, hF36_, r31_, hs38_, rfl, rfl⟩)⟩)⟩)⟩)⟩)⟩
        · refine w_aload_n dX11_way_55 rfl 1 rfl ?_
          refine w_getR (c' := (0, 0, 0)) fl_RX11_42 rfl rfl ic_11 dX11_way_56 rfl ?_
          refine w_aload dX11_way_59 0 rfl ?_
          refine w_getI fl_RX11_229 rfl rfl (ic_9 (by decide) h16_) dX11_way_61 (fun z39_ e40_ => ?_)
          refine w_callV (as := [vI z39_]) (rest := []) (c_X0_costFrom l G cy ad (d + 3) z39_ M17_ hI20_) kV_X0_costFrom (by decide +kernel) (Nat.le_of_ble_eq_true rfl) m_1085 rfl rfl rfl ic_0 rfl rfl (by decide) (Nat.le_of_ble_eq_true rfl) dX11_way_64 (fun r41_ M42_ q43_ => ?_)
          obtain ⟨rfl, h44_, hs45_⟩ := q43_
          exact w_iret rfl dX11_way_67 ⟨hI20_, hF22_, trivial, (Or.inl ⟨hs5_, h4_, (Or.inl ⟨hs11_, h10_, (Or.inl ⟨h13_, j14_, h15_, h16_, M17_, hI20_, hF21_, hs23_, (Or.inr ⟨h24_, z39_, e40_, r41_, hs45_, rfl, rfl⟩)⟩)⟩)⟩)⟩
      · refine w_aload_n dX11_way_23 rfl 0 rfl ?_
        refine w_iconst (v := 1) dX11_way_24 (by decide) ?_
        refine w_callV (as := [vI 1]) (rest := []) (c_X11_error l G cy ad (d + 4) 1 Mz hIz) kV_X11_error (by decide +kernel) (Nat.le_of_ble_eq_true rfl) m_500 rfl rfl rfl ic_11 rfl rfl (by decide) (Nat.le_of_ble_eq_true rfl) dX11_way_25 (fun r46_ M47_ q48_ => ?_)
        obtain ⟨hI50_, hF51_, h49_, hs53_⟩ := q48_
        have hF52_ := hFz.tr hF51_ (fun c k => (fun h => h.elim (fun h => (Or.inr (Or.inr (Or.inl ⟨h.1, h.2⟩)))) (fun h => h.elim)))
        exact w_iret rfl dX11_way_28 ⟨hI50_, hF52_, trivial, (Or.inl ⟨hs5_, h4_, (Or.inl ⟨hs11_, h10_, (Or.inr ⟨h13_, M47_, hI50_, hF51_, r46_, hs53_, rfl, rfl⟩)⟩)⟩)⟩
    · refine w_if_eq (tgt := 23) dX11_way_15 (by decide) li_0 (fun h54_ => ?_) (fun h9 => (absurd h9 (by decide)))
      refine w_aload_n dX11_way_23 rfl 0 rfl ?_
      refine w_iconst (v := 1) dX11_way_24 (by decide) ?_
      refine w_callV (as := [vI 1]) (rest := []) (c_X11_error l G cy ad (d + 4) 1 Mz hIz) kV_X11_error (by decide +kernel) (Nat.le_of_ble_eq_true rfl) m_500 rfl rfl rfl ic_11 rfl rfl (by decide) (Nat.le_of_ble_eq_true rfl) dX11_way_25 (fun r55_ M56_ q57_ => ?_)
      obtain ⟨hI59_, hF60_, h58_, hs62_⟩ := q57_
      have hF61_ := hFz.tr hF60_ (fun c k => (fun h => h.elim (fun h => (Or.inr (Or.inr (Or.inl ⟨h.1, h.2⟩)))) (fun h => h.elim)))
      exact w_iret rfl dX11_way_28 ⟨hI59_, hF61_, trivial, (Or.inl ⟨hs5_, h4_, (Or.inr ⟨hs11_, h10_, M56_, hI59_, hF60_, r55_, hs62_, rfl, rfl⟩)⟩)⟩
  · refine w_if_eq (tgt := 23) dX11_way_8 (by decide) li_0 (fun h63_ => ?_) (fun h9 => (absurd h9 (by decide)))
    refine w_aload_n dX11_way_23 rfl 0 rfl ?_
    refine w_iconst (v := 1) dX11_way_24 (by decide) ?_
    refine w_callV (as := [vI 1]) (rest := []) (c_X11_error l G cy ad (d + 4) 1 Mz hIz) kV_X11_error (by decide +kernel) (Nat.le_of_ble_eq_true rfl) m_500 rfl rfl rfl ic_11 rfl rfl (by decide) (Nat.le_of_ble_eq_true rfl) dX11_way_25 (fun r64_ M65_ q66_ => ?_)
    obtain ⟨hI68_, hF69_, h67_, hs71_⟩ := q66_
    have hF70_ := hFz.tr hF69_ (fun c k => (fun h => h.elim (fun h => (Or.inr (Or.inr (Or.inl ⟨h.1, h.2⟩)))) (fun h => h.elim)))
    exact w_iret rfl dX11_way_28 ⟨hI68_, hF70_, trivial, (Or.inr ⟨hs5_, M65_, hI68_, hF69_, r64_, hs71_, rfl, rfl⟩)⟩
def S_c_X11_safe : rf → Nat → Prop := fun c k => (c.1 = 29 ∧ c.2.1 = 0 ∧ k = 0) ∨ (c.1 = 29 ∧ c.2.1 = 0 ∧ k = 1) ∨ (c.1 = 29 ∧ c.2.1 = 0 ∧ k = 2) ∨ (c.1 = 29 ∧ c.2.1 = 0 ∧ k = 3) ∨ (c.1 = 25 ∧ c.2.1 = 0 ∧ c.2.2 = 0) ∨ (c.1 = 25 ∧ c.2.1 = 0 ∧ c.2.2 = 1) ∨ (c.1 = 44 ∧ c.2.1 = 0) ∨ False
def ST_X11_safe_28 (r7_ : Int32) (v3_28 : Int32) (v3_28y : Int32) : Prop := (0 ≤ v3_28.toInt) ∧ (v3_28.toInt ≤ 9) ∧ (v3_28.toInt < 9) ∧ ∃ z17_ : Int32, (z17_.toInt = v3_28.toInt + 1) ∧ ∃ z19_ : Int32, (z19_.toInt = v3_28.toInt + 2) ∧ ∃ z21_ : Int32, (z21_ = z17_ * z19_) ∧ ∃ z23_ : Int32, (z23_ = z21_ / (2 : Int32)) ∧ (z23_.toInt ≤ r7_.toInt) ∧ ∃ z26_ : Int32, (z26_.toInt = v3_28.toInt + 1) ∧ v3_28y = z26_
def SP_X11_safe (v : Int32) (Mz : mM) (r_ : Int32) (M_ : mM) : Prop := (((SP_X10_hasWalker 0 v Mz (1 : Int32)) ∧ (0 ≤ v.toInt ∧ v.toInt ≤ 7) ∧ ∃ M8_ : mM, (Inv M8_) ∧ (FR (S_c_X10_sureYards 0) Mz M8_) ∧ ∃ r7_ : Int32, (SP_X10_sureYards 0 v Mz r7_ M8_) ∧ ∃ v3_28 : Int32, (0 ≤ v3_28.toInt) ∧ (v3_28.toInt ≤ 9) ∧ (RCH (fun x_ y_ => ST_X11_safe_28 r7_ x_ y_) (0 : Int32) v3_28) ∧ (((9 ≤ v3_28.toInt) ∧ r_ = v3_28 ∧ M_ = M8_) ∨ ((v3_28.toInt < 9) ∧ ∃ z17_ : Int32, (z17_.toInt = v3_28.toInt + 1) ∧ ∃ z19_ : Int32, (z19_.toInt = v3_28.toInt + 2) ∧ ∃ z21_ : Int32, (z21_ = z17_ * z19_) ∧ ∃ z23_ : Int32, (z23_ = z21_ / (2 : Int32)) ∧ (r7_.toInt < z23_.toInt) ∧ r_ = v3_28 ∧ M_ = M8_))) ∨ ((SP_X10_hasWalker 0 v Mz (0 : Int32)) ∧ ∃ M30_ : mM, (Inv M30_) ∧ (FR (S_c_X11_error) Mz M30_) ∧ ∃ r29_ : Int32, (SP_X11_error 1 Mz r29_ M30_) ∧ r_ = r29_ ∧ M_ = M30_))
theorem lf_c_X11_safe_0  (v3_28 : Int32) (hv0_28 : 0 ≤ v3_28.toInt) (hv1_28 : v3_28.toInt ≤ 9) (h16_ : v3_28.toInt < 9) : -2147483648 ≤ v3_28.toInt + 1 ∧ v3_28.toInt + 1 < 2147483648 := by have r_v3_28 := rngI v3_28; omega
theorem lf_c_X11_safe_1  (v3_28 : Int32) (z17_ : Int32) (hv0_28 : 0 ≤ v3_28.toInt) (hv1_28 : v3_28.toInt ≤ 9) (h16_ : v3_28.toInt < 9) (h18_ : z17_.toInt = v3_28.toInt + 1) : -2147483648 ≤ v3_28.toInt + 2 ∧ v3_28.toInt + 2 < 2147483648 := by have r_v3_28 := rngI v3_28; have r_z17_ := rngI z17_; omega
theorem lf_c_X11_safe_2  (v3_28 : Int32) (z17_ : Int32) (z19_ : Int32) (hv0_28 : 0 ≤ v3_28.toInt) (hv1_28 : v3_28.toInt ≤ 9) (h16_ : v3_28.toInt < 9) (h18_ : z17_.toInt = v3_28.toInt + 1) (h20_ : z19_.toInt = v3_28.toInt + 2) : -2147483648 ≤ v3_28.toInt + 1 ∧ v3_28.toInt + 1 < 2147483648 := by have r_v3_28 := rngI v3_28; have r_z17_ := rngI z17_; have r_z19_ := rngI z19_; omega
theorem lf_c_X11_safe_3  (v3_28 : Int32) (z17_ : Int32) (z19_ : Int32) (z26_ : Int32) (hv0_28 : 0 ≤ v3_28.toInt) (hv1_28 : v3_28.toInt ≤ 9) (h16_ : v3_28.toInt < 9) (h18_ : z17_.toInt = v3_28.toInt + 1) (h20_ : z19_.toInt = v3_28.toInt + 2) (h27_ : z26_.toInt = v3_28.toInt + 1) : 0 ≤ z26_.toInt := by have r_v3_28 := rngI v3_28; have r_z17_ := rngI z17_; have r_z19_ := rngI z19_; have r_z26_ := rngI z26_; omega
theorem lf_c_X11_safe_4  (v3_28 : Int32) (z17_ : Int32) (z19_ : Int32) (z26_ : Int32) (hv0_28 : 0 ≤ v3_28.toInt) (hv1_28 : v3_28.toInt ≤ 9) (h16_ : v3_28.toInt < 9) (h18_ : z17_.toInt = v3_28.toInt + 1) (h20_ : z19_.toInt = v3_28.toInt + 2) (h27_ : z26_.toInt = v3_28.toInt + 1) : z26_.toInt ≤ 9 := by have r_v3_28 := rngI v3_28; have r_z17_ := rngI z17_; have r_z19_ := rngI z19_; have r_z26_ := rngI z26_; omega
theorem lf_c_X11_safe_5  (v3_28 : Int32) (z17_ : Int32) (z19_ : Int32) (z26_ : Int32) (hv0_28 : 0 ≤ v3_28.toInt) (hv1_28 : v3_28.toInt ≤ 9) (h16_ : v3_28.toInt < 9) (h18_ : z17_.toInt = v3_28.toInt + 1) (h20_ : z19_.toInt = v3_28.toInt + 2) (h27_ : z26_.toInt = v3_28.toInt + 1) : (2147483648 - z26_.toInt).toNat < (2147483648 - v3_28.toInt).toNat := by have r_v3_28 := rngI v3_28; have r_z17_ := rngI z17_; have r_z19_ := rngI z19_; have r_z26_ := rngI z26_; omega
theorem lf_c_X11_safe_6    : 0 ≤ (0 : Int32).toInt := by have q0 := li_0; omega
theorem lf_c_X11_safe_7    : (0 : Int32).toInt ≤ 9 := by have q0 := li_0; omega
set_option maxHeartbeats 4000000 in
set_option maxRecDepth 100000 in
theorem c_X11_safe (l : Launch) (G : va_G) (cy : Nat → ClassId) (ad : rf → Nat) (d : Nat) (v : Int32) (Mz : mM) (hIz : Inv Mz) : WP CC l G cy ad yX11_safe cX11_safe 4 (some .int) (d + 5) 0 [(0, vR (11, 0, 0)), (1, vI v)] [] Mz (fun r M' => Inv M' ∧ FR (S_c_X11_safe) Mz M' ∧ (True) ∧ SP_X11_safe v Mz r M') := by
  have hFz : FR (S_c_X11_safe) Mz Mz := FR.self
  refine w_aload_n dX11_safe_0 rfl 0 rfl ?_
  refine w_getR (c' := (10, 0, 0)) fl_RX11_10 rfl rfl ic_11 dX11_safe_1 rfl ?_
  refine w_iload_n dX11_safe_4 rfl 1 rfl ?_
  refine w_callV (as := [vI v]) (rest := []) (c_X10_hasWalker l G cy ad (d + 4) 0 v Mz hIz (by first | decide | (unfold vF; omega) | (unfold vRw; omega))) kV_X10_hasWalker (by decide +kernel) (Nat.le_of_ble_eq_true rfl) m_609 rfl rfl rfl (ic_10 (by decide)) rfl rfl (by decide) (Nat.le_of_ble_eq_true rfl) dX11_safe_5 (fun r1_ M2_ q3_ => ?_)
  obtain ⟨rfl, h4_, hs5_⟩ := q3_
  rcases h4_ with ⟨rfl, h4_⟩ | rfl
  · refine w_if_ne (tgt := 17) dX11_safe_8 (by decide) li_1 (fun h6_ => ?_) (fun h9 => (absurd h9 (by decide)))
    refine w_aload_n dX11_safe_17 rfl 0 rfl ?_
    refine w_getR (c' := (10, 0, 0)) fl_RX11_10 rfl rfl ic_11 dX11_safe_18 rfl ?_
    refine w_iload_n dX11_safe_21 rfl 1 rfl ?_
    refine w_callV (as := [vI v]) (rest := []) (c_X10_sureYards l G cy ad d 0 v Mz hIz (by first | decide | (unfold vF; omega) | (unfold vRw; omega))) kV_X10_sureYards (by decide +kernel) (Nat.le_of_ble_eq_true rfl) m_1102 rfl rfl rfl (ic_10 (by decide)) rfl rfl (by decide) (Nat.le_of_ble_eq_true rfl) dX11_safe_22 (fun r7_ M8_ q9_ => ?_)
    obtain ⟨hI11_, hF12_, h10_, hs14_⟩ := q9_
    have hF13_ := hFz.tr hF12_ (fun c k => (fun h => h.elim (fun h => (Or.inl ⟨h.1, h.2.1, h.2.2⟩)) (fun h => h.elim (fun h => (Or.inr (Or.inl ⟨h.1, h.2.1, h.2.2⟩))) (fun h => h.elim (fun h => (Or.inr (Or.inr (Or.inl ⟨h.1, h.2.1, h.2.2⟩)))) (fun h => h.elim (fun h => (Or.inr (Or.inr (Or.inr (Or.inl ⟨h.1, h.2.1, h.2.2⟩))))) (fun h => h.elim (fun h => (Or.inr (Or.inr (Or.inr (Or.inr (Or.inl ⟨h.1, h.2.1, h.2.2⟩)))))) (fun h => h.elim (fun h => (Or.inr (Or.inr (Or.inr (Or.inr (Or.inr (Or.inl ⟨h.1, h.2.1, h.2.2⟩))))))) (fun h => h.elim))))))))
    refine w_istore_n (ls' := [(2, vI r7_), (0, vR (11, 0, 0)), (1, vI v)]) dX11_safe_25 rfl (by decide) rfl ?_
    refine w_iconst (v := 0) dX11_safe_26 (by decide) ?_
    refine w_istore_n (ls' := [(3, vI 0), (2, vI r7_), (0, vR (11, 0, 0)), (1, vI v)]) dX11_safe_27 rfl (by decide) rfl ?_
    have lp15_ : ∀ (nn_28 : Nat) (v3_28 : Int32) (hv0_28 : 0 ≤ v3_28.toInt) (hv1_28 : v3_28.toInt ≤ 9) (hL_28 : RCH (fun x_ y_ => ST_X11_safe_28 r7_ x_ y_) (0 : Int32) v3_28), (2147483648 - v3_28.toInt).toNat < nn_28 → WP CC l G cy ad yX11_safe cX11_safe 4 (some .int) (d + 5) 28 [(3, vI v3_28), (2, vI r7_), (0, vR (11, 0, 0)), (1, vI v)] [] M8_ (fun r M' => Inv M' ∧ FR (S_c_X11_safe) Mz M' ∧ (True) ∧ SP_X11_safe v Mz r M') := by
      intro nn_28
      induction nn_28 with
      | zero => intro v3_28 hv0_28 hv1_28 hL_28 hm_28; exact absurd hm_28 (Nat.not_lt_zero _)
      | succ nn_28 ih_28 =>
        intro v3_28 hv0_28 hv1_28 hL_28 hm_28
        refine w_iload_n dX11_safe_28 rfl 0 rfl ?_
        refine w_bipush (v := 9) dX11_safe_29 (by decide) ?_
        refine w_icmp_ge (tgt := 53) dX11_safe_31 (by decide) (rfl : v3_28.toInt = v3_28.toInt) li_9 (fun h16_ => ?_) (fun h16_ => ?_)
        · refine w_iload_n dX11_safe_53 rfl 0 rfl ?_
          exact w_iret rfl dX11_safe_54 ⟨hI11_, hF13_, trivial, (Or.inl ⟨hs5_, h4_, M8_, hI11_, hF12_, r7_, hs14_, v3_28, hv0_28, hv1_28, hL_28, (Or.inl ⟨h16_, rfl, rfl⟩)⟩)⟩
        · refine w_iload_n dX11_safe_34 rfl 0 rfl ?_
          refine w_iconst (v := 1) dX11_safe_35 (by decide) ?_
          refine w_iaddB dX11_safe_36 (rfl : v3_28.toInt = v3_28.toInt) li_1 (lf_c_X11_safe_0 v3_28 hv0_28 hv1_28 h16_) (fun z17_ h18_ => ?_)
          refine w_iload_n dX11_safe_37 rfl 0 rfl ?_
          refine w_iconst (v := 2) dX11_safe_38 (by decide) ?_
          refine w_iaddB dX11_safe_39 (rfl : v3_28.toInt = v3_28.toInt) li_2 (lf_c_X11_safe_1 v3_28 z17_ hv0_28 hv1_28 h16_ h18_) (fun z19_ h20_ => ?_)
          refine w_imul dX11_safe_40 (fun z21_ h22_ => ?_)
          refine w_iconst (v := 2) dX11_safe_41 (by decide) ?_
          refine w_idiv dX11_safe_42 (by decide) (fun z23_ h24_ => ?_)
          refine w_iload_n dX11_safe_43 rfl 1 rfl ?_
          refine w_icmp_gt (tgt := 53) dX11_safe_44 (by decide) (rfl : z23_.toInt = z23_.toInt) (rfl : r7_.toInt = r7_.toInt) (fun h25_ => ?_) (fun h25_ => ?_)
          · refine w_iload_n dX11_safe_53 rfl 0 rfl ?_
            exact w_iret rfl dX11_safe_54 ⟨hI11_, hF13_, trivial, (Or.inl ⟨hs5_, h4_, M8_, hI11_, hF12_, r7_, hs14_, v3_28, hv0_28, hv1_28, hL_28, (Or.inr ⟨h16_, z17_, h18_, z19_, h20_, z21_, h22_, z23_, h24_, h25_, rfl, rfl⟩)⟩)⟩
          · refine w_iincB (j := 0) (f := fun z26_ => [(3, vI z26_), (2, vI r7_), (0, vR (11, 0, 0)), (1, vI v)]) dX11_safe_47 rfl (by decide) (fun _ => rfl) (rfl : v3_28.toInt = v3_28.toInt) li_1 (lf_c_X11_safe_2 v3_28 z17_ z19_ hv0_28 hv1_28 h16_ h18_ h20_) (fun z26_ h27_ => ?_)
            refine w_goto (tgt := 28) dX11_safe_50 (by decide) ?_
            refine w_loc (ls' := [(3, vI z26_), (2, vI r7_), (0, vR (11, 0, 0)), (1, vI v)]) [0, 1, 2, 3] rfl ?_
            exact ih_28 z26_ (lf_c_X11_safe_3 v3_28 z17_ z19_ z26_ hv0_28 hv1_28 h16_ h18_ h20_ h27_) (lf_c_X11_safe_4 v3_28 z17_ z19_ z26_ hv0_28 hv1_28 h16_ h18_ h20_ h27_) (RCH.tail hL_28 ⟨hv0_28, hv1_28, h16_, z17_, h18_, z19_, h20_, z21_, h22_, z23_, h24_, h25_, z26_, h27_, rfl⟩) (Nat.lt_of_lt_of_le (lf_c_X11_safe_5 v3_28 z17_ z19_ z26_ hv0_28 hv1_28 h16_ h18_ h20_ h27_) (Nat.le_of_lt_succ hm_28))
    exact lp15_ _ 0 (lf_c_X11_safe_6 ) (lf_c_X11_safe_7 ) RCH.refl (Nat.lt_succ_self _)
  · refine w_if_ne (tgt := 17) dX11_safe_8 (by decide) li_0 (fun h9 => (absurd h9 (by decide))) (fun h28_ => ?_)
    refine w_aload_n dX11_safe_11 rfl 0 rfl ?_
    refine w_iconst (v := 1) dX11_safe_12 (by decide) ?_
    refine w_callV (as := [vI 1]) (rest := []) (c_X11_error l G cy ad (d + 4) 1 Mz hIz) kV_X11_error (by decide +kernel) (Nat.le_of_ble_eq_true rfl) m_500 rfl rfl rfl ic_11 rfl rfl (by decide) (Nat.le_of_ble_eq_true rfl) dX11_safe_13 (fun r29_ M30_ q31_ => ?_)
    obtain ⟨hI33_, hF34_, h32_, hs36_⟩ := q31_
    have hF35_ := hFz.tr hF34_ (fun c k => (fun h => h.elim (fun h => (Or.inr (Or.inr (Or.inr (Or.inr (Or.inr (Or.inr (Or.inl ⟨h.1, h.2⟩)))))))) (fun h => h.elim)))
    exact w_iret rfl dX11_safe_16 ⟨hI33_, hF35_, trivial, (Or.inr ⟨hs5_, M30_, hI33_, hF34_, r29_, hs36_, rfl, rfl⟩)⟩
def S_c_X11_lesson : rf → Nat → Prop := fun c k => (c.1 = 30 ∧ c.2.1 = 0) ∨ (c.1 = 31 ∧ c.2.1 = 0) ∨ (c.1 = 32 ∧ c.2.1 = 0) ∨ (c.1 = 3 ∧ c.2.1 = 0 ∧ k = 3) ∨ (c.1 = 44 ∧ c.2.1 = 0) ∨ False
def SP_X11_lesson (v : Int32) (u : Int32) (t : Int32) (Mz : mM) (r_ : Int32) (M_ : mM) : Prop := (((SP_X11_isBits v Mz (1 : Int32)) ∧ (0 ≤ v.toInt ∧ v.toInt ≤ 31) ∧ (((SP_X11_isBits u Mz (1 : Int32)) ∧ (0 ≤ u.toInt ∧ u.toInt ≤ 31) ∧ (((SP_X11_within t 1 99 Mz (1 : Int32)) ∧ (1 ≤ t.toInt ∧ t.toInt ≤ 99) ∧ ∃ r19_ : Int32, (SP_X3_hasRoom 0 Mz r19_) ∧ ((0 ≤ r19_.toInt ∧ r19_.toInt ≤ 1)) ∧ (((¬ r19_.toInt = 0) ∧ ∃ M26_ : mM, (Inv M26_) ∧ (FR (S_c_X3_add 0) Mz M26_) ∧ ∃ r25_ : Int32, (SP_X3_add 0 v u t Mz r25_ M26_) ∧ r_ = r25_ ∧ M_ = M26_) ∨ ((r19_.toInt = 0) ∧ ∃ M34_ : mM, (Inv M34_) ∧ (FR (S_c_X11_error) Mz M34_) ∧ ∃ r33_ : Int32, (SP_X11_error 4 Mz r33_ M34_) ∧ r_ = r33_ ∧ M_ = M34_))) ∨ ((SP_X11_within t 1 99 Mz (0 : Int32)) ∧ (¬ (1 ≤ t.toInt ∧ t.toInt ≤ 99)) ∧ ∃ M43_ : mM, (Inv M43_) ∧ (FR (S_c_X11_error) Mz M43_) ∧ ∃ r42_ : Int32, (SP_X11_error 1 Mz r42_ M43_) ∧ r_ = r42_ ∧ M_ = M43_))) ∨ ((SP_X11_isBits u Mz (0 : Int32)) ∧ (¬ (0 ≤ u.toInt ∧ u.toInt ≤ 31)) ∧ ∃ M52_ : mM, (Inv M52_) ∧ (FR (S_c_X11_error) Mz M52_) ∧ ∃ r51_ : Int32, (SP_X11_error 1 Mz r51_ M52_) ∧ r_ = r51_ ∧ M_ = M52_))) ∨ ((SP_X11_isBits v Mz (0 : Int32)) ∧ (¬ (0 ≤ v.toInt ∧ v.toInt ≤ 31)) ∧ ∃ M61_ : mM, (Inv M61_) ∧ (FR (S_c_X11_error) Mz M61_) ∧ ∃ r60_ : Int32, (SP_X11_error 1 Mz r60_ M61_) ∧ r_ = r60_ ∧ M_ = M61_))
set_option maxHeartbeats 4000000 in
set_option maxRecDepth 100000 in
theorem c_X11_lesson (l : Launch) (G : va_G) (cy : Nat → ClassId) (ad : rf → Nat) (d : Nat) (v : Int32) (u : Int32) (t : Int32) (Mz : mM) (hIz : Inv Mz) : WP CC l G cy ad yX11_lesson cX11_lesson 4 (some .int) (d + 2) 0 [(0, vR (11, 0, 0)), (1, vI v), (2, vI u), (3, vI t)] [] Mz (fun r M' => Inv M' ∧ FR (S_c_X11_lesson) Mz M' ∧ (True) ∧ SP_X11_lesson v u t Mz r M') := by
  have hFz : FR (S_c_X11_lesson) Mz Mz := FR.self
  refine w_iload_n dX11_lesson_0 rfl 1 rfl ?_
  refine w_callS (as := [vI v]) (rest := []) (c_X11_isBits l G cy ad d v Mz hIz) kS_X11_isBits (by decide +kernel) (Nat.le_of_ble_eq_true rfl) m_1114 rfl rfl (by decide) (Nat.le_of_ble_eq_true rfl) dX11_lesson_1 (fun r1_ M2_ q3_ => ?_)
  obtain ⟨rfl, h4_, hs5_⟩ := q3_
  rcases h4_ with ⟨rfl, h4_⟩ | ⟨rfl, h4_⟩
  · refine w_if_eq (tgt := 24) dX11_lesson_4 (by decide) li_1 (fun h9 => (absurd h9 (by decide))) (fun h6_ => ?_)
    refine w_iload_n dX11_lesson_7 rfl 2 rfl ?_
    refine w_callS (as := [vI u]) (rest := []) (c_X11_isBits l G cy ad d u Mz hIz) kS_X11_isBits (by decide +kernel) (Nat.le_of_ble_eq_true rfl) m_1114 rfl rfl (by decide) (Nat.le_of_ble_eq_true rfl) dX11_lesson_8 (fun r7_ M8_ q9_ => ?_)
    obtain ⟨rfl, h10_, hs11_⟩ := q9_
    rcases h10_ with ⟨rfl, h10_⟩ | ⟨rfl, h10_⟩
    · refine w_if_eq (tgt := 24) dX11_lesson_11 (by decide) li_1 (fun h9 => (absurd h9 (by decide))) (fun h12_ => ?_)
      refine w_iload_n dX11_lesson_14 rfl 3 rfl ?_
      refine w_iconst (v := 1) dX11_lesson_15 (by decide) ?_
      refine w_bipush (v := 99) dX11_lesson_16 (by decide) ?_
      refine w_callS (as := [vI t, vI 1, vI 99]) (rest := []) (c_X11_within l G cy ad (d + 1) t 1 99 Mz hIz) kS_X11_within (by decide +kernel) (Nat.le_of_ble_eq_true rfl) m_494 rfl rfl (by decide) (Nat.le_of_ble_eq_true rfl) dX11_lesson_18 (fun r13_ M14_ q15_ => ?_)
      obtain ⟨rfl, h16_, hs17_⟩ := q15_
      rcases h16_ with ⟨rfl, h16_⟩ | ⟨rfl, h16_⟩
      · simp only [li_1, li_99] at h16_
        refine w_if_ne (tgt := 30) dX11_lesson_21 (by decide) li_1 (fun h18_ => ?_) (fun h9 => (absurd h9 (by decide)))
        refine w_aload_n dX11_lesson_30 rfl 0 rfl ?_
        refine w_getR (c' := (10, 0, 0)) fl_RX11_10 rfl rfl ic_11 dX11_lesson_31 rfl ?_
        refine w_getR (c' := (3, 0, 0)) fl_RX11_313 rfl rfl (ic_10 (by decide)) dX11_lesson_34 rfl ?_
        refine w_callV (as := []) (rest := []) (c_X3_hasRoom l G cy ad (d + 1) 0 Mz hIz (by first | decide | (unfold vF; omega) | (unfold vRw; omega))) kV_X3_hasRoom (by decide +kernel) (Nat.le_of_ble_eq_true rfl) m_1117 rfl rfl rfl (ic_3 (by decide)) rfl rfl (by decide) (Nat.le_of_ble_eq_true rfl) dX11_lesson_37 (fun r19_ M20_ q21_ => ?_)
        obtain ⟨rfl, h22_, hs23_⟩ := q21_
        refine w_if_ne (tgt := 49) dX11_lesson_40 (by decide) (rfl : r19_.toInt = r19_.toInt) (fun h24_ => ?_) (fun h24_ => ?_)
        · refine w_aload_n dX11_lesson_49 rfl 0 rfl ?_
          refine w_getR (c' := (10, 0, 0)) fl_RX11_10 rfl rfl ic_11 dX11_lesson_50 rfl ?_
          refine w_getR (c' := (3, 0, 0)) fl_RX11_313 rfl rfl (ic_10 (by decide)) dX11_lesson_53 rfl ?_
          refine w_iload_n dX11_lesson_56 rfl 1 rfl ?_
          refine w_iload_n dX11_lesson_57 rfl 2 rfl ?_
          refine w_iload_n dX11_lesson_58 rfl 3 rfl ?_
          refine w_callV (as := [vI v, vI u, vI t]) (rest := []) (c_X3_add l G cy ad (d + 1) 0 v u t Mz hIz (by first | decide | (unfold vF; omega) | (unfold vRw; omega))) kV_X3_add (by decide +kernel) (Nat.le_of_ble_eq_true rfl) m_1121 rfl rfl rfl (ic_3 (by decide)) rfl rfl (by decide) (Nat.le_of_ble_eq_true rfl) dX11_lesson_59 (fun r25_ M26_ q27_ => ?_)
          obtain ⟨hI29_, hF30_, h28_, hs32_⟩ := q27_
          have hF31_ := hFz.tr hF30_ (fun c k => (fun h => h.elim (fun h => (Or.inl ⟨h.1, h.2⟩)) (fun h => h.elim (fun h => (Or.inr (Or.inl ⟨h.1, h.2⟩))) (fun h => h.elim (fun h => (Or.inr (Or.inr (Or.inl ⟨h.1, h.2⟩)))) (fun h => h.elim (fun h => (Or.inr (Or.inr (Or.inr (Or.inl ⟨h.1, h.2.1, h.2.2⟩))))) (fun h => h.elim))))))
          exact w_iret rfl dX11_lesson_62 ⟨hI29_, hF31_, trivial, (Or.inl ⟨hs5_, h4_, (Or.inl ⟨hs11_, h10_, (Or.inl ⟨hs17_, h16_, r19_, hs23_, h22_, (Or.inl ⟨h24_, M26_, hI29_, hF30_, r25_, hs32_, rfl, rfl⟩)⟩)⟩)⟩)⟩
        · refine w_aload_n dX11_lesson_43 rfl 0 rfl ?_
          refine w_iconst (v := 4) dX11_lesson_44 (by decide) ?_
          refine w_callV (as := [vI 4]) (rest := []) (c_X11_error l G cy ad (d + 1) 4 Mz hIz) kV_X11_error (by decide +kernel) (Nat.le_of_ble_eq_true rfl) m_500 rfl rfl rfl ic_11 rfl rfl (by decide) (Nat.le_of_ble_eq_true rfl) dX11_lesson_45 (fun r33_ M34_ q35_ => ?_)
          obtain ⟨hI37_, hF38_, h36_, hs40_⟩ := q35_
          have hF39_ := hFz.tr hF38_ (fun c k => (fun h => h.elim (fun h => (Or.inr (Or.inr (Or.inr (Or.inr (Or.inl ⟨h.1, h.2⟩)))))) (fun h => h.elim)))
          exact w_iret rfl dX11_lesson_48 ⟨hI37_, hF39_, trivial, (Or.inl ⟨hs5_, h4_, (Or.inl ⟨hs11_, h10_, (Or.inl ⟨hs17_, h16_, r19_, hs23_, h22_, (Or.inr ⟨h24_, M34_, hI37_, hF38_, r33_, hs40_, rfl, rfl⟩)⟩)⟩)⟩)⟩
      · simp only [li_1, li_99] at h16_
        refine w_if_ne (tgt := 30) dX11_lesson_21 (by decide) li_0 (fun h9 => (absurd h9 (by decide))) (fun h41_ => ?_)
        refine w_aload_n dX11_lesson_24 rfl 0 rfl ?_
        refine w_iconst (v := 1) dX11_lesson_25 (by decide) ?_
        refine w_callV (as := [vI 1]) (rest := []) (c_X11_error l G cy ad (d + 1) 1 Mz hIz) kV_X11_error (by decide +kernel) (Nat.le_of_ble_eq_true rfl) m_500 rfl rfl rfl ic_11 rfl rfl (by decide) (Nat.le_of_ble_eq_true rfl) dX11_lesson_26 (fun r42_ M43_ q44_ => ?_)
        obtain ⟨hI46_, hF47_, h45_, hs49_⟩ := q44_
        have hF48_ := hFz.tr hF47_ (fun c k => (fun h => h.elim (fun h => (Or.inr (Or.inr (Or.inr (Or.inr (Or.inl ⟨h.1, h.2⟩)))))) (fun h => h.elim)))
        exact w_iret rfl dX11_lesson_29 ⟨hI46_, hF48_, trivial, (Or.inl ⟨hs5_, h4_, (Or.inl ⟨hs11_, h10_, (Or.inr ⟨hs17_, h16_, M43_, hI46_, hF47_, r42_, hs49_, rfl, rfl⟩)⟩)⟩)⟩
    · refine w_if_eq (tgt := 24) dX11_lesson_11 (by decide) li_0 (fun h50_ => ?_) (fun h9 => (absurd h9 (by decide)))
      refine w_aload_n dX11_lesson_24 rfl 0 rfl ?_
      refine w_iconst (v := 1) dX11_lesson_25 (by decide) ?_
      refine w_callV (as := [vI 1]) (rest := []) (c_X11_error l G cy ad (d + 1) 1 Mz hIz) kV_X11_error (by decide +kernel) (Nat.le_of_ble_eq_true rfl) m_500 rfl rfl rfl ic_11 rfl rfl (by decide) (Nat.le_of_ble_eq_true rfl) dX11_lesson_26 (fun r51_ M52_ q53_ => ?_)
      obtain ⟨hI55_, hF56_, h54_, hs58_⟩ := q53_
      have hF57_ := hFz.tr hF56_ (fun c k => (fun h => h.elim (fun h => (Or.inr (Or.inr (Or.inr (Or.inr (Or.inl ⟨h.1, h.2⟩)))))) (fun h => h.elim)))
      exact w_iret rfl dX11_lesson_29 ⟨hI55_, hF57_, trivial, (Or.inl ⟨hs5_, h4_, (Or.inr ⟨hs11_, h10_, M52_, hI55_, hF56_, r51_, hs58_, rfl, rfl⟩)⟩)⟩
  · refine w_if_eq (tgt := 24) dX11_lesson_4 (by decide) li_0 (fun h59_ => ?_) (fun h9 => (absurd h9 (by decide)))
    refine w_aload_n dX11_lesson_24 rfl 0 rfl ?_
    refine w_iconst (v := 1) dX11_lesson_25 (by decide) ?_
    refine w_callV (as := [vI 1]) (rest := []) (c_X11_error l G cy ad (d + 1) 1 Mz hIz) kV_X11_error (by decide +kernel) (Nat.le_of_ble_eq_true rfl) m_500 rfl rfl rfl ic_11 rfl rfl (by decide) (Nat.le_of_ble_eq_true rfl) dX11_lesson_26 (fun r60_ M61_ q62_ => ?_)
    obtain ⟨hI64_, hF65_, h63_, hs67_⟩ := q62_
    have hF66_ := hFz.tr hF65_ (fun c k => (fun h => h.elim (fun h => (Or.inr (Or.inr (Or.inr (Or.inr (Or.inl ⟨h.1, h.2⟩)))))) (fun h => h.elim)))
    exact w_iret rfl dX11_lesson_29 ⟨hI64_, hF66_, trivial, (Or.inr ⟨hs5_, h4_, M61_, hI64_, hF65_, r60_, hs67_, rfl, rfl⟩)⟩
def S_c_X11_posts : rf → Nat → Prop := fun c k => (c.1 = 44 ∧ c.2.1 = 0) ∨ (c.1 = 0 ∧ c.2.1 = 0 ∧ k = 5) ∨ (c.1 = 23 ∧ c.2.1 = 0) ∨ (c.1 = 29 ∧ c.2.1 = 0 ∧ k = 0) ∨ (c.1 = 29 ∧ c.2.1 = 0 ∧ k = 1) ∨ (c.1 = 29 ∧ c.2.1 = 0 ∧ k = 2) ∨ (c.1 = 29 ∧ c.2.1 = 0 ∧ k = 3) ∨ (c.1 = 25 ∧ c.2.1 = 0 ∧ c.2.2 = 0) ∨ (c.1 = 25 ∧ c.2.1 = 0 ∧ c.2.2 = 1) ∨ False
def SP_X11_posts (v : Int32) (u : Int32) (t : Int32) (s : Int32) (Mz : mM) (r_ : Int32) (M_ : mM) : Prop := (((SP_X10_hasWalker 0 v Mz (1 : Int32)) ∧ (0 ≤ v.toInt ∧ v.toInt ≤ 7) ∧ (((SP_X11_isSheet u Mz (1 : Int32)) ∧ (0 ≤ u.toInt ∧ u.toInt ≤ 3) ∧ (((SP_X11_isSheet t Mz (1 : Int32)) ∧ (0 ≤ t.toInt ∧ t.toInt ≤ 3) ∧ (((SP_X11_within s 0 1 Mz (1 : Int32)) ∧ (0 ≤ s.toInt ∧ s.toInt ≤ 1) ∧ ∃ j25_ : Nat, ((j25_ : Int) = u.toInt) ∧ (j25_ < 4) ∧ ∃ r28_ : Int32, (SP_X6_isMissing j25_ Mz r28_) ∧ ((0 ≤ r28_.toInt ∧ r28_.toInt ≤ 1)) ∧ (((¬ r28_.toInt = 0) ∧ ∃ M35_ : mM, (Inv M35_) ∧ (FR (S_c_X11_error) Mz M35_) ∧ ∃ r34_ : Int32, (SP_X11_error 2 Mz r34_ M35_) ∧ r_ = r34_ ∧ M_ = M35_) ∨ ((r28_.toInt = 0) ∧ ∃ j42_ : Nat, ((j42_ : Int) = t.toInt) ∧ (j42_ < 4) ∧ ∃ r45_ : Int32, (SP_X6_isMissing j42_ Mz r45_) ∧ ((0 ≤ r45_.toInt ∧ r45_.toInt ≤ 1)) ∧ (((r45_.toInt = 0) ∧ ∃ j51_ : Nat, ((j51_ : Int) = u.toInt) ∧ (j51_ < 4) ∧ ∃ r54_ : Int32, (SP_X6_holdsFewCells j51_ Mz r54_) ∧ ((0 ≤ r54_.toInt ∧ r54_.toInt ≤ 1)) ∧ (((r54_.toInt = 0) ∧ ∃ M61_ : mM, (Inv M61_) ∧ (FR (S_c_X11_error) Mz M61_) ∧ ∃ r60_ : Int32, (SP_X11_error 5 Mz r60_ M61_) ∧ r_ = r60_ ∧ M_ = M61_) ∨ ((¬ r54_.toInt = 0) ∧ ∃ j68_ : Nat, ((j68_ : Int) = t.toInt) ∧ (j68_ < 4) ∧ ∃ r71_ : Int32, (SP_X6_holdsFewCells j68_ Mz r71_) ∧ ((0 ≤ r71_.toInt ∧ r71_.toInt ≤ 1)) ∧ (((¬ r71_.toInt = 0) ∧ ∃ j77_ : Nat, ((j77_ : Int) = u.toInt) ∧ (j77_ < 4) ∧ ∃ j80_ : Nat, ((j80_ : Int) = t.toInt) ∧ (j80_ < 4) ∧ ∃ M84_ : mM, (Inv M84_) ∧ (FR (S_c_X0_choosePosts 0 j77_ j80_) Mz M84_) ∧ ∃ r83_ : Int32, (SP_X0_choosePosts 0 j77_ j80_ v Mz r83_ M84_) ∧ ((0 ≤ r83_.toInt ∧ r83_.toInt ≤ 1)) ∧ (((¬ r83_.toInt = 0) ∧ (((¬ s.toInt = 0) ∧ ∃ z93_ : Int32, (z93_ = M84_.1 (0, 0, 0) 5) ∧ r_ = z93_ ∧ M_ = M84_) ∨ ((s.toInt = 0) ∧ ∃ z95_ : Int32, (z95_ = M84_.1 (0, 0, 0) 5) ∧ ∃ r97_ : Int32, (SP_JI_bitCount z95_ M84_ r97_) ∧ r_ = r97_ ∧ M_ = M84_))) ∨ ((r83_.toInt = 0) ∧ ∃ M103_ : mM, (Inv M103_) ∧ (FR (S_c_X11_error) M84_ M103_) ∧ ∃ r102_ : Int32, (SP_X11_error 3 M84_ r102_ M103_) ∧ r_ = r102_ ∧ M_ = M103_))) ∨ ((r71_.toInt = 0) ∧ ∃ M111_ : mM, (Inv M111_) ∧ (FR (S_c_X11_error) Mz M111_) ∧ ∃ r110_ : Int32, (SP_X11_error 5 Mz r110_ M111_) ∧ r_ = r110_ ∧ M_ = M111_))))) ∨ ((¬ r45_.toInt = 0) ∧ ∃ M119_ : mM, (Inv M119_) ∧ (FR (S_c_X11_error) Mz M119_) ∧ ∃ r118_ : Int32, (SP_X11_error 2 Mz r118_ M119_) ∧ r_ = r118_ ∧ M_ = M119_))))) ∨ ((SP_X11_within s 0 1 Mz (0 : Int32)) ∧ (¬ (0 ≤ s.toInt ∧ s.toInt ≤ 1)) ∧ ∃ M128_ : mM, (Inv M128_) ∧ (FR (S_c_X11_error) Mz M128_) ∧ ∃ r127_ : Int32, (SP_X11_error 1 Mz r127_ M128_) ∧ r_ = r127_ ∧ M_ = M128_))) ∨ ((SP_X11_isSheet t Mz (0 : Int32)) ∧ (¬ (0 ≤ t.toInt ∧ t.toInt ≤ 3)) ∧ ∃ M137_ : mM, (Inv M137_) ∧ (FR (S_c_X11_error) Mz M137_) ∧ ∃ r136_ : Int32, (SP_X11_error 1 Mz r136_ M137_) ∧ r_ = r136_ ∧ M_ = M137_))) ∨ ((SP_X11_isSheet u Mz (0 : Int32)) ∧ (¬ (0 ≤ u.toInt ∧ u.toInt ≤ 3)) ∧ ∃ M146_ : mM, (Inv M146_) ∧ (FR (S_c_X11_error) Mz M146_) ∧ ∃ r145_ : Int32, (SP_X11_error 1 Mz r145_ M146_) ∧ r_ = r145_ ∧ M_ = M146_))) ∨ ((SP_X10_hasWalker 0 v Mz (0 : Int32)) ∧ ∃ M155_ : mM, (Inv M155_) ∧ (FR (S_c_X11_error) Mz M155_) ∧ ∃ r154_ : Int32, (SP_X11_error 1 Mz r154_ M155_) ∧ r_ = r154_ ∧ M_ = M155_))
theorem lf_c_X11_posts_0  (u : Int32) (h10_ : 0 ≤ u.toInt ∧ u.toInt ≤ 3) : 0 ≤ u.toInt ∧ u.toInt < ((4 : Nat) : Int) := by have r_u := rngI u; omega
theorem lf_c_X11_posts_1  (t : Int32) (h16_ : 0 ≤ t.toInt ∧ t.toInt ≤ 3) : 0 ≤ t.toInt ∧ t.toInt < ((4 : Nat) : Int) := by have r_t := rngI t; omega
theorem lf_c_X11_posts_2  (u : Int32) (j25_ : Nat) (h10_ : 0 ≤ u.toInt ∧ u.toInt ≤ 3) (h26_ : (j25_ : Int) = u.toInt) (h27_ : j25_ < 4) : 0 ≤ u.toInt ∧ u.toInt < ((4 : Nat) : Int) := by have r_u := rngI u; omega
theorem lf_c_X11_posts_3  (t : Int32) (j42_ : Nat) (h16_ : 0 ≤ t.toInt ∧ t.toInt ≤ 3) (h43_ : (j42_ : Int) = t.toInt) (h44_ : j42_ < 4) : 0 ≤ t.toInt ∧ t.toInt < ((4 : Nat) : Int) := by have r_t := rngI t; omega
theorem lf_c_X11_posts_4  (u : Int32) (j25_ : Nat) (j51_ : Nat) (h10_ : 0 ≤ u.toInt ∧ u.toInt ≤ 3) (h26_ : (j25_ : Int) = u.toInt) (h27_ : j25_ < 4) (h52_ : (j51_ : Int) = u.toInt) (h53_ : j51_ < 4) : 0 ≤ u.toInt ∧ u.toInt < ((4 : Nat) : Int) := by have r_u := rngI u; omega
theorem lf_c_X11_posts_5  (t : Int32) (j42_ : Nat) (j68_ : Nat) (h16_ : 0 ≤ t.toInt ∧ t.toInt ≤ 3) (h43_ : (j42_ : Int) = t.toInt) (h44_ : j42_ < 4) (h69_ : (j68_ : Int) = t.toInt) (h70_ : j68_ < 4) : 0 ≤ t.toInt ∧ t.toInt < ((4 : Nat) : Int) := by have r_t := rngI t; omega
set_option maxHeartbeats 4000000 in
set_option maxRecDepth 100000 in
theorem c_X11_posts (l : Launch) (G : va_G) (cy : Nat → ClassId) (ad : rf → Nat) (d : Nat) (v : Int32) (u : Int32) (t : Int32) (s : Int32) (Mz : mM) (hIz : Inv Mz) : WP CC l G cy ad yX11_posts cX11_posts 5 (some .int) (d + 5) 0 [(0, vR (11, 0, 0)), (1, vI v), (2, vI u), (3, vI t), (4, vI s)] [] Mz (fun r M' => Inv M' ∧ FR (S_c_X11_posts) Mz M' ∧ (True) ∧ SP_X11_posts v u t s Mz r M') := by
  have hFz : FR (S_c_X11_posts) Mz Mz := FR.self
  refine w_aload_n dX11_posts_0 rfl 0 rfl ?_
  refine w_getR (c' := (10, 0, 0)) fl_RX11_10 rfl rfl ic_11 dX11_posts_1 rfl ?_
  refine w_iload_n dX11_posts_4 rfl 1 rfl ?_
  refine w_callV (as := [vI v]) (rest := []) (c_X10_hasWalker l G cy ad (d + 4) 0 v Mz hIz (by first | decide | (unfold vF; omega) | (unfold vRw; omega))) kV_X10_hasWalker (by decide +kernel) (Nat.le_of_ble_eq_true rfl) m_609 rfl rfl rfl (ic_10 (by decide)) rfl rfl (by decide) (Nat.le_of_ble_eq_true rfl) dX11_posts_5 (fun r1_ M2_ q3_ => ?_)
  obtain ⟨rfl, h4_, hs5_⟩ := q3_
  rcases h4_ with ⟨rfl, h4_⟩ | rfl
  · refine w_if_eq (tgt := 35) dX11_posts_8 (by decide) li_1 (fun h9 => (absurd h9 (by decide))) (fun h6_ => ?_)
    refine w_iload_n dX11_posts_11 rfl 2 rfl ?_
    refine w_callS (as := [vI u]) (rest := []) (c_X11_isSheet l G cy ad (d + 3) u Mz hIz) kS_X11_isSheet (by decide +kernel) (Nat.le_of_ble_eq_true rfl) m_566 rfl rfl (by decide) (Nat.le_of_ble_eq_true rfl) dX11_posts_12 (fun r7_ M8_ q9_ => ?_)
    obtain ⟨rfl, h10_, hs11_⟩ := q9_
    rcases h10_ with ⟨rfl, h10_⟩ | ⟨rfl, h10_⟩
    · refine w_if_eq (tgt := 35) dX11_posts_15 (by decide) li_1 (fun h9 => (absurd h9 (by decide))) (fun h12_ => ?_)
      refine w_iload_n dX11_posts_18 rfl 3 rfl ?_
      refine w_callS (as := [vI t]) (rest := []) (c_X11_isSheet l G cy ad (d + 3) t Mz hIz) kS_X11_isSheet (by decide +kernel) (Nat.le_of_ble_eq_true rfl) m_566 rfl rfl (by decide) (Nat.le_of_ble_eq_true rfl) dX11_posts_19 (fun r13_ M14_ q15_ => ?_)
      obtain ⟨rfl, h16_, hs17_⟩ := q15_
      rcases h16_ with ⟨rfl, h16_⟩ | ⟨rfl, h16_⟩
      · refine w_if_eq (tgt := 35) dX11_posts_22 (by decide) li_1 (fun h9 => (absurd h9 (by decide))) (fun h18_ => ?_)
        refine w_iload dX11_posts_25 4 rfl ?_
        refine w_iconst (v := 0) dX11_posts_27 (by decide) ?_
        refine w_iconst (v := 1) dX11_posts_28 (by decide) ?_
        refine w_callS (as := [vI s, vI 0, vI 1]) (rest := []) (c_X11_within l G cy ad (d + 4) s 0 1 Mz hIz) kS_X11_within (by decide +kernel) (Nat.le_of_ble_eq_true rfl) m_494 rfl rfl (by decide) (Nat.le_of_ble_eq_true rfl) dX11_posts_29 (fun r19_ M20_ q21_ => ?_)
        obtain ⟨rfl, h22_, hs23_⟩ := q21_
        rcases h22_ with ⟨rfl, h22_⟩ | ⟨rfl, h22_⟩
        · simp only [li_0, li_1] at h22_
          refine w_if_ne (tgt := 41) dX11_posts_32 (by decide) li_1 (fun h24_ => ?_) (fun h9 => (absurd h9 (by decide)))
          refine w_aload_n dX11_posts_41 rfl 0 rfl ?_
          refine w_getR (c' := (43, 0, 0)) fl_RX11_24 rfl rfl ic_11 dX11_posts_42 rfl ?_
          refine w_iload_n dX11_posts_45 rfl 2 rfl ?_
          refine w_aald rfl rfl rfl (fun _ => rfl) ic_43 (rfl : u.toInt = u.toInt) (lf_c_X11_posts_0 u h10_) dX11_posts_46 (fun j25_ h26_ h27_ => ?_)
          refine w_callV (as := []) (rest := []) (c_X6_isMissing l G cy ad (d + 4) j25_ Mz hIz h27_) kV_X6_isMissing (by decide +kernel) (Nat.le_of_ble_eq_true rfl) m_569 rfl rfl rfl (ic_6 h27_) rfl rfl (by decide) (Nat.le_of_ble_eq_true rfl) dX11_posts_47 (fun r28_ M29_ q30_ => ?_)
          obtain ⟨rfl, h31_, hs32_⟩ := q30_
          refine w_if_ne (tgt := 65) dX11_posts_50 (by decide) (rfl : r28_.toInt = r28_.toInt) (fun h33_ => ?_) (fun h33_ => ?_)
          · refine w_aload_n dX11_posts_65 rfl 0 rfl ?_
            refine w_iconst (v := 2) dX11_posts_66 (by decide) ?_
            refine w_callV (as := [vI 2]) (rest := []) (c_X11_error l G cy ad (d + 4) 2 Mz hIz) kV_X11_error (by decide +kernel) (Nat.le_of_ble_eq_true rfl) m_500 rfl rfl rfl ic_11 rfl rfl (by decide) (Nat.le_of_ble_eq_true rfl) dX11_posts_67 (fun r34_ M35_ q36_ => ?_)
            obtain ⟨hI38_, hF39_, h37_, hs41_⟩ := q36_
            have hF40_ := hFz.tr hF39_ (fun c k => (fun h => h.elim (fun h => (Or.inl ⟨h.1, h.2⟩)) (fun h => h.elim)))
            exact w_iret rfl dX11_posts_70 ⟨hI38_, hF40_, trivial, (Or.inl ⟨hs5_, h4_, (Or.inl ⟨hs11_, h10_, (Or.inl ⟨hs17_, h16_, (Or.inl ⟨hs23_, h22_, j25_, h26_, h27_, r28_, hs32_, h31_, (Or.inl ⟨h33_, M35_, hI38_, hF39_, r34_, hs41_, rfl, rfl⟩)⟩)⟩)⟩)⟩)⟩
          · refine w_aload_n dX11_posts_53 rfl 0 rfl ?_
            refine w_getR (c' := (43, 0, 0)) fl_RX11_24 rfl rfl ic_11 dX11_posts_54 rfl ?_
            refine w_iload_n dX11_posts_57 rfl 3 rfl ?_
            refine w_aald rfl rfl rfl (fun _ => rfl) ic_43 (rfl : t.toInt = t.toInt) (lf_c_X11_posts_1 t h16_) dX11_posts_58 (fun j42_ h43_ h44_ => ?_)
            refine w_callV (as := []) (rest := []) (c_X6_isMissing l G cy ad (d + 4) j42_ Mz hIz h44_) kV_X6_isMissing (by decide +kernel) (Nat.le_of_ble_eq_true rfl) m_569 rfl rfl rfl (ic_6 h44_) rfl rfl (by decide) (Nat.le_of_ble_eq_true rfl) dX11_posts_59 (fun r45_ M46_ q47_ => ?_)
            obtain ⟨rfl, h48_, hs49_⟩ := q47_
            refine w_if_eq (tgt := 71) dX11_posts_62 (by decide) (rfl : r45_.toInt = r45_.toInt) (fun h50_ => ?_) (fun h50_ => ?_)
            · refine w_aload_n dX11_posts_71 rfl 0 rfl ?_
              refine w_getR (c' := (43, 0, 0)) fl_RX11_24 rfl rfl ic_11 dX11_posts_72 rfl ?_
              refine w_iload_n dX11_posts_75 rfl 2 rfl ?_
              refine w_aald rfl rfl rfl (fun _ => rfl) ic_43 (rfl : u.toInt = u.toInt) (lf_c_X11_posts_2 u j25_ h10_ h26_ h27_) dX11_posts_76 (fun j51_ h52_ h53_ => ?_)
              refine w_callV (as := []) (rest := []) (c_X6_holdsFewCells l G cy ad (d + 2) j51_ Mz hIz h53_) kV_X6_holdsFewCells (by decide +kernel) (Nat.le_of_ble_eq_true rfl) m_978 rfl rfl rfl (ic_6 h53_) rfl rfl (by decide) (Nat.le_of_ble_eq_true rfl) dX11_posts_77 (fun r54_ M55_ q56_ => ?_)
              obtain ⟨rfl, h57_, hs58_⟩ := q56_
              refine w_if_eq (tgt := 95) dX11_posts_80 (by decide) (rfl : r54_.toInt = r54_.toInt) (fun h59_ => ?_) (fun h59_ => ?_)
              · refine w_aload_n dX11_posts_95 rfl 0 rfl ?_
                refine w_iconst (v := 5) dX11_posts_96 (by decide) ?_
                refine w_callV (as := [vI 5]) (rest := []) (c_X11_error l G cy ad (d + 4) 5 Mz hIz) kV_X11_error (by decide +kernel) (Nat.le_of_ble_eq_true rfl) m_500 rfl rfl rfl ic_11 rfl rfl (by decide) (Nat.le_of_ble_eq_true rfl) dX11_posts_97 (fun r60_ M61_ q62_ => ?_)
                obtain ⟨hI64_, hF65_, h63_, hs67_⟩ := q62_
                have hF66_ := hFz.tr hF65_ (fun c k => (fun h => h.elim (fun h => (Or.inl ⟨h.1, h.2⟩)) (fun h => h.elim)))
                exact w_iret rfl dX11_posts_100 ⟨hI64_, hF66_, trivial, (Or.inl ⟨hs5_, h4_, (Or.inl ⟨hs11_, h10_, (Or.inl ⟨hs17_, h16_, (Or.inl ⟨hs23_, h22_, j25_, h26_, h27_, r28_, hs32_, h31_, (Or.inr ⟨h33_, j42_, h43_, h44_, r45_, hs49_, h48_, (Or.inl ⟨h50_, j51_, h52_, h53_, r54_, hs58_, h57_, (Or.inl ⟨h59_, M61_, hI64_, hF65_, r60_, hs67_, rfl, rfl⟩)⟩)⟩)⟩)⟩)⟩)⟩)⟩
              · refine w_aload_n dX11_posts_83 rfl 0 rfl ?_
                refine w_getR (c' := (43, 0, 0)) fl_RX11_24 rfl rfl ic_11 dX11_posts_84 rfl ?_
                refine w_iload_n dX11_posts_87 rfl 3 rfl ?_
                refine w_aald rfl rfl rfl (fun _ => rfl) ic_43 (rfl : t.toInt = t.toInt) (lf_c_X11_posts_3 t j42_ h16_ h43_ h44_) dX11_posts_88 (fun j68_ h69_ h70_ => ?_)
                refine w_callV (as := []) (rest := []) (c_X6_holdsFewCells l G cy ad (d + 2) j68_ Mz hIz h70_) kV_X6_holdsFewCells (by decide +kernel) (Nat.le_of_ble_eq_true rfl) m_978 rfl rfl rfl (ic_6 h70_) rfl rfl (by decide) (Nat.le_of_ble_eq_true rfl) dX11_posts_89 (fun r71_ M72_ q73_ => ?_)
                obtain ⟨rfl, h74_, hs75_⟩ := q73_
                refine w_if_ne (tgt := 101) dX11_posts_92 (by decide) (rfl : r71_.toInt = r71_.toInt) (fun h76_ => ?_) (fun h76_ => ?_)
                · refine w_aload_n dX11_posts_101 rfl 0 rfl ?_
                  refine w_getR (c' := (0, 0, 0)) fl_RX11_42 rfl rfl ic_11 dX11_posts_102 rfl ?_
                  refine w_aload_n dX11_posts_105 rfl 0 rfl ?_
                  refine w_getR (c' := (10, 0, 0)) fl_RX11_10 rfl rfl ic_11 dX11_posts_106 rfl ?_
                  refine w_iload_n dX11_posts_109 rfl 1 rfl ?_
                  refine w_aload_n dX11_posts_110 rfl 0 rfl ?_
                  refine w_getR (c' := (43, 0, 0)) fl_RX11_24 rfl rfl ic_11 dX11_posts_111 rfl ?_
                  refine w_iload_n dX11_posts_114 rfl 2 rfl ?_
                  refine w_aald rfl rfl rfl (fun _ => rfl) ic_43 (rfl : u.toInt = u.toInt) (lf_c_X11_posts_4 u j25_ j51_ h10_ h26_ h27_ h52_ h53_) dX11_posts_115 (fun j77_ h78_ h79_ => ?_)
                  refine w_aload_n dX11_posts_116 rfl 0 rfl ?_
                  refine w_getR (c' := (43, 0, 0)) fl_RX11_24 rfl rfl ic_11 dX11_posts_117 rfl ?_
                  refine w_iload_n dX11_posts_120 rfl 3 rfl ?_
                  refine w_aald rfl rfl rfl (fun _ => rfl) ic_43 (rfl : t.toInt = t.toInt) (lf_c_X11_posts_5 t j42_ j68_ h16_ h43_ h44_ h69_ h70_) dX11_posts_121 (fun j80_ h81_ h82_ => ?_)
                  refine w_callV (as := [vR (10, 0, 0), vI v, vR (6, 0, j77_), vR (6, 0, j80_)]) (rest := []) (c_X0_choosePosts l G cy ad d 0 j77_ j80_ v Mz hIz (by first | decide | (unfold vF; omega) | (unfold vRw; omega)) h79_ h82_) kV_X0_choosePosts (by decide +kernel) (Nat.le_of_ble_eq_true rfl) m_1159 rfl rfl rfl ic_0 rfl rfl (by decide) (Nat.le_of_ble_eq_true rfl) dX11_posts_122 (fun r83_ M84_ q85_ => ?_)
                  obtain ⟨hI87_, hF88_, h86_, hs90_⟩ := q85_
                  have hF89_ := hFz.tr hF88_ (fun c k => (fun h => h.elim (fun h => (Or.inr (Or.inl ⟨h.1, h.2.1, h.2.2⟩))) (fun h => h.elim (fun h => (Or.inr (Or.inr (Or.inl ⟨h.1, h.2⟩)))) (fun h => h.elim (fun h => (Or.inr (Or.inr (Or.inr (Or.inl ⟨h.1, h.2.1, h.2.2⟩))))) (fun h => h.elim (fun h => (Or.inr (Or.inr (Or.inr (Or.inr (Or.inl ⟨h.1, h.2.1, h.2.2⟩)))))) (fun h => h.elim (fun h => (Or.inr (Or.inr (Or.inr (Or.inr (Or.inr (Or.inl ⟨h.1, h.2.1, h.2.2⟩))))))) (fun h => h.elim (fun h => (Or.inr (Or.inr (Or.inr (Or.inr (Or.inr (Or.inr (Or.inl ⟨h.1, h.2.1, h.2.2⟩)))))))) (fun h => h.elim (fun h => (Or.inr (Or.inr (Or.inr (Or.inr (Or.inr (Or.inr (Or.inr (Or.inl ⟨h.1, h.2.1, h.2.2⟩))))))))) (fun h => h.elim (fun h => (Or.inr (Or.inr (Or.inr (Or.inr (Or.inr (Or.inr (Or.inr (Or.inr (Or.inl ⟨h.1, h.2.1, h.2.2⟩)))))))))) (fun h => h.elim))))))))))
                  refine w_if_ne (tgt := 134) dX11_posts_125 (by decide) (rfl : r83_.toInt = r83_.toInt) (fun h91_ => ?_) (fun h91_ => ?_)
                  · refine w_iload dX11_posts_134 4 rfl ?_
                    refine w_if_ne (tgt := 152) dX11_posts_136 (by decide) (rfl : s.toInt = s.toInt) (fun h92_ => ?_) (fun h92_ => ?_)
                    · refine w_aload_n dX11_posts_152 rfl 0 rfl ?_
                      refine w_getR (c' := (0, 0, 0)) fl_RX11_42 rfl rfl ic_11 dX11_posts_153 rfl ?_
                      refine w_getI fl_RX11_287 rfl rfl ic_0 dX11_posts_156 (fun z93_ e94_ => ?_)
                      exact w_iret rfl dX11_posts_159 ⟨hI87_, hF89_, trivial, (Or.inl ⟨hs5_, h4_, (Or.inl ⟨hs11_, h10_, (Or.inl ⟨hs17_, h16_, (Or.inl ⟨hs23_, h22_, j25_, h26_, h27_, r28_, hs32_, h31_, (Or.inr ⟨h33_, j42_, h43_, h44_, r45_, hs49_, h48_, (Or.inl ⟨h50_, j51_, h52_, h53_, r54_, hs58_, h57_, (Or.inr ⟨h59_, j68_, h69_, h70_, r71_, hs75_, h74_, (Or.inl ⟨h76_, j77_, h78_, h79_, j80_, h81_, h82_, M84_, hI87_, hF88_, r83_, hs90_, h86_, (Or.inl ⟨h91_, (Or.inl ⟨h92_, z93_, e94_, rfl, rfl⟩)⟩)⟩)⟩)⟩)⟩)⟩)⟩)⟩)⟩)⟩
                    · refine w_aload_n dX11_posts_139 rfl 0 rfl ?_
                      refine w_getR (c' := (0, 0, 0)) fl_RX11_42 rfl rfl ic_11 dX11_posts_140 rfl ?_
                      refine w_getI fl_RX11_287 rfl rfl ic_0 dX11_posts_143 (fun z95_ e96_ => ?_)
                      refine w_callS (as := [vI z95_]) (rest := []) (c_JI_bitCount l G cy ad (d + 4) z95_ M84_ hI87_) kS_JI_bitCount (by decide +kernel) (Nat.le_of_ble_eq_true rfl) m_1175 rfl rfl (by decide) (Nat.le_of_ble_eq_true rfl) dX11_posts_146 (fun r97_ M98_ q99_ => ?_)
                      obtain ⟨rfl, h100_, hs101_⟩ := q99_
                      refine w_goto (tgt := 159) dX11_posts_149 (by decide) ?_
                      exact w_iret rfl dX11_posts_159 ⟨hI87_, hF89_, trivial, (Or.inl ⟨hs5_, h4_, (Or.inl ⟨hs11_, h10_, (Or.inl ⟨hs17_, h16_, (Or.inl ⟨hs23_, h22_, j25_, h26_, h27_, r28_, hs32_, h31_, (Or.inr ⟨h33_, j42_, h43_, h44_, r45_, hs49_, h48_, (Or.inl ⟨h50_, j51_, h52_, h53_, r54_, hs58_, h57_, (Or.inr ⟨h59_, j68_, h69_, h70_, r71_, hs75_, h74_, (Or.inl ⟨h76_, j77_, h78_, h79_, j80_, h81_, h82_, M84_, hI87_, hF88_, r83_, hs90_, h86_, (Or.inl ⟨h91_, (Or.inr ⟨h92_, z95_, e96_, r97_, hs101_, rfl, rfl⟩)⟩)⟩)⟩)⟩)⟩)⟩)⟩)⟩)⟩)⟩
                  · refine w_aload_n dX11_posts_128 rfl 0 rfl ?_
                    refine w_iconst (v := 3) dX11_posts_129 (by decide) ?_
                    refine w_callV (as := [vI 3]) (rest := []) (c_X11_error l G cy ad (d + 4) 3 M84_ hI87_) kV_X11_error (by decide +kernel) (Nat.le_of_ble_eq_true rfl) m_500 rfl rfl rfl ic_11 rfl rfl (by decide) (Nat.le_of_ble_eq_true rfl) dX11_posts_130 (fun r102_ M103_ q104_ => ?_)
                    obtain ⟨hI106_, hF107_, h105_, hs109_⟩ := q104_
                    have hF108_ := hF89_.tr hF107_ (fun c k => (fun h => h.elim (fun h => (Or.inl ⟨h.1, h.2⟩)) (fun h => h.elim)))
                    exact w_iret rfl dX11_posts_133 ⟨hI106_, hF108_, trivial, (Or.inl ⟨hs5_, h4_, (Or.inl ⟨hs11_, h10_, (Or.inl ⟨hs17_, h16_, (Or.inl ⟨hs23_, h22_, j25_, h26_, h27_, r28_, hs32_, h31_, (Or.inr ⟨h33_, j42_, h43_, h44_, r45_, hs49_, h48_, (Or.inl ⟨h50_, j51_, h52_, h53_, r54_, hs58_, h57_, (Or.inr ⟨h59_, j68_, h69_, h70_, r71_, hs75_, h74_, (Or.inl ⟨h76_, j77_, h78_, h79_, j80_, h81_, h82_, M84_, hI87_, hF88_, r83_, hs90_, h86_, (Or.inr ⟨h91_, M103_, hI106_, hF107_, r102_, hs109_, rfl, rfl⟩)⟩)⟩)⟩)⟩)⟩)⟩)⟩)⟩)⟩
                · refine w_aload_n dX11_posts_95 rfl 0 rfl ?_
                  refine w_iconst (v := 5) dX11_posts_96 (by decide) ?_
                  refine w_callV (as := [vI 5]) (rest := []) (c_X11_error l G cy ad (d + 4) 5 Mz hIz) kV_X11_error (by decide +kernel) (Nat.le_of_ble_eq_true rfl) m_500 rfl rfl rfl ic_11 rfl rfl (by decide) (Nat.le_of_ble_eq_true rfl) dX11_posts_97 (fun r110_ M111_ q112_ => ?_)
                  obtain ⟨hI114_, hF115_, h113_, hs117_⟩ := q112_
                  have hF116_ := hFz.tr hF115_ (fun c k => (fun h => h.elim (fun h => (Or.inl ⟨h.1, h.2⟩)) (fun h => h.elim)))
                  exact w_iret rfl dX11_posts_100 ⟨hI114_, hF116_, trivial, (Or.inl ⟨hs5_, h4_, (Or.inl ⟨hs11_, h10_, (Or.inl ⟨hs17_, h16_, (Or.inl ⟨hs23_, h22_, j25_, h26_, h27_, r28_, hs32_, h31_, (Or.inr ⟨h33_, j42_, h43_, h44_, r45_, hs49_, h48_, (Or.inl ⟨h50_, j51_, h52_, h53_, r54_, hs58_, h57_, (Or.inr ⟨h59_, j68_, h69_, h70_, r71_, hs75_, h74_, (Or.inr ⟨h76_, M111_, hI114_, hF115_, r110_, hs117_, rfl, rfl⟩)⟩)⟩)⟩)⟩)⟩)⟩)⟩)⟩
            · refine w_aload_n dX11_posts_65 rfl 0 rfl ?_
              refine w_iconst (v := 2) dX11_posts_66 (by decide) ?_
              refine w_callV (as := [vI 2]) (rest := []) (c_X11_error l G cy ad (d + 4) 2 Mz hIz) kV_X11_error (by decide +kernel) (Nat.le_of_ble_eq_true rfl) m_500 rfl rfl rfl ic_11 rfl rfl (by decide) (Nat.le_of_ble_eq_true rfl) dX11_posts_67 (fun r118_ M119_ q120_ => ?_)
              obtain ⟨hI122_, hF123_, h121_, hs125_⟩ := q120_
              have hF124_ := hFz.tr hF123_ (fun c k => (fun h => h.elim (fun h => (Or.inl ⟨h.1, h.2⟩)) (fun h => h.elim)))
              exact w_iret rfl dX11_posts_70 ⟨hI122_, hF124_, trivial, (Or.inl ⟨hs5_, h4_, (Or.inl ⟨hs11_, h10_, (Or.inl ⟨hs17_, h16_, (Or.inl ⟨hs23_, h22_, j25_, h26_, h27_, r28_, hs32_, h31_, (Or.inr ⟨h33_, j42_, h43_, h44_, r45_, hs49_, h48_, (Or.inr ⟨h50_, M119_, hI122_, hF123_, r118_, hs125_, rfl, rfl⟩)⟩)⟩)⟩)⟩)⟩)⟩
        · simp only [li_0, li_1] at h22_
          refine w_if_ne (tgt := 41) dX11_posts_32 (by decide) li_0 (fun h9 => (absurd h9 (by decide))) (fun h126_ => ?_)
          refine w_aload_n dX11_posts_35 rfl 0 rfl ?_
          refine w_iconst (v := 1) dX11_posts_36 (by decide) ?_
          refine w_callV (as := [vI 1]) (rest := []) (c_X11_error l G cy ad (d + 4) 1 Mz hIz) kV_X11_error (by decide +kernel) (Nat.le_of_ble_eq_true rfl) m_500 rfl rfl rfl ic_11 rfl rfl (by decide) (Nat.le_of_ble_eq_true rfl) dX11_posts_37 (fun r127_ M128_ q129_ => ?_)
          obtain ⟨hI131_, hF132_, h130_, hs134_⟩ := q129_
          have hF133_ := hFz.tr hF132_ (fun c k => (fun h => h.elim (fun h => (Or.inl ⟨h.1, h.2⟩)) (fun h => h.elim)))
          exact w_iret rfl dX11_posts_40 ⟨hI131_, hF133_, trivial, (Or.inl ⟨hs5_, h4_, (Or.inl ⟨hs11_, h10_, (Or.inl ⟨hs17_, h16_, (Or.inr ⟨hs23_, h22_, M128_, hI131_, hF132_, r127_, hs134_, rfl, rfl⟩)⟩)⟩)⟩)⟩
      · refine w_if_eq (tgt := 35) dX11_posts_22 (by decide) li_0 (fun h135_ => ?_) (fun h9 => (absurd h9 (by decide)))
        refine w_aload_n dX11_posts_35 rfl 0 rfl ?_
        refine w_iconst (v := 1) dX11_posts_36 (by decide) ?_
        refine w_callV (as := [vI 1]) (rest := []) (c_X11_error l G cy ad (d + 4) 1 Mz hIz) kV_X11_error (by decide +kernel) (Nat.le_of_ble_eq_true rfl) m_500 rfl rfl rfl ic_11 rfl rfl (by decide) (Nat.le_of_ble_eq_true rfl) dX11_posts_37 (fun r136_ M137_ q138_ => ?_)
        obtain ⟨hI140_, hF141_, h139_, hs143_⟩ := q138_
        have hF142_ := hFz.tr hF141_ (fun c k => (fun h => h.elim (fun h => (Or.inl ⟨h.1, h.2⟩)) (fun h => h.elim)))
        exact w_iret rfl dX11_posts_40 ⟨hI140_, hF142_, trivial, (Or.inl ⟨hs5_, h4_, (Or.inl ⟨hs11_, h10_, (Or.inr ⟨hs17_, h16_, M137_, hI140_, hF141_, r136_, hs143_, rfl, rfl⟩)⟩)⟩)⟩
    · refine w_if_eq (tgt := 35) dX11_posts_15 (by decide) li_0 (fun h144_ => ?_) (fun h9 => (absurd h9 (by decide)))
      refine w_aload_n dX11_posts_35 rfl 0 rfl ?_
      refine w_iconst (v := 1) dX11_posts_36 (by decide) ?_
      refine w_callV (as := [vI 1]) (rest := []) (c_X11_error l G cy ad (d + 4) 1 Mz hIz) kV_X11_error (by decide +kernel) (Nat.le_of_ble_eq_true rfl) m_500 rfl rfl rfl ic_11 rfl rfl (by decide) (Nat.le_of_ble_eq_true rfl) dX11_posts_37 (fun r145_ M146_ q147_ => ?_)
      obtain ⟨hI149_, hF150_, h148_, hs152_⟩ := q147_
      have hF151_ := hFz.tr hF150_ (fun c k => (fun h => h.elim (fun h => (Or.inl ⟨h.1, h.2⟩)) (fun h => h.elim)))
      exact w_iret rfl dX11_posts_40 ⟨hI149_, hF151_, trivial, (Or.inl ⟨hs5_, h4_, (Or.inr ⟨hs11_, h10_, M146_, hI149_, hF150_, r145_, hs152_, rfl, rfl⟩)⟩)⟩
  · refine w_if_eq (tgt := 35) dX11_posts_8 (by decide) li_0 (fun h153_ => ?_) (fun h9 => (absurd h9 (by decide)))
    refine w_aload_n dX11_posts_35 rfl 0 rfl ?_
    refine w_iconst (v := 1) dX11_posts_36 (by decide) ?_
    refine w_callV (as := [vI 1]) (rest := []) (c_X11_error l G cy ad (d + 4) 1 Mz hIz) kV_X11_error (by decide +kernel) (Nat.le_of_ble_eq_true rfl) m_500 rfl rfl rfl ic_11 rfl rfl (by decide) (Nat.le_of_ble_eq_true rfl) dX11_posts_37 (fun r154_ M155_ q156_ => ?_)
    obtain ⟨hI158_, hF159_, h157_, hs161_⟩ := q156_
    have hF160_ := hFz.tr hF159_ (fun c k => (fun h => h.elim (fun h => (Or.inl ⟨h.1, h.2⟩)) (fun h => h.elim)))
    exact w_iret rfl dX11_posts_40 ⟨hI158_, hF160_, trivial, (Or.inr ⟨hs5_, M155_, hI158_, hF159_, r154_, hs161_, rfl, rfl⟩)⟩
def S_c_X11_trace : rf → Nat → Prop := fun c k => (c.1 = 44 ∧ c.2.1 = 0) ∨ False
def SP_X11_trace (v : Int32) (Mz : mM) (r_ : Int32) (M_ : mM) : Prop := ∃ r1_ : Int32, (SP_X5_has 3 5 v Mz r1_) ∧ ((0 ≤ r1_.toInt ∧ r1_.toInt ≤ 1)) ∧ (((¬ r1_.toInt = 0) ∧ ∃ r7_ : Int32, (SP_X5_get 3 5 v Mz r7_) ∧ r_ = r7_ ∧ M_ = Mz) ∨ ((r1_.toInt = 0) ∧ ∃ M13_ : mM, (Inv M13_) ∧ (FR (S_c_X11_error) Mz M13_) ∧ ∃ r12_ : Int32, (SP_X11_error 2 Mz r12_ M13_) ∧ r_ = r12_ ∧ M_ = M13_))
set_option maxHeartbeats 4000000 in
set_option maxRecDepth 100000 in
theorem c_X11_trace (l : Launch) (G : va_G) (cy : Nat → ClassId) (ad : rf → Nat) (d : Nat) (v : Int32) (Mz : mM) (hIz : Inv Mz) : WP CC l G cy ad yX11_trace cX11_trace 2 (some .int) (d + 1) 0 [(0, vR (11, 0, 0)), (1, vI v)] [] Mz (fun r M' => Inv M' ∧ FR (S_c_X11_trace) Mz M' ∧ (True) ∧ SP_X11_trace v Mz r M') := by
  have hFz : FR (S_c_X11_trace) Mz Mz := FR.self
  refine w_aload_n dX11_trace_0 rfl 0 rfl ?_
  refine w_getR (c' := (8, 0, 0)) fl_RX11_49 rfl rfl ic_11 dX11_trace_1 rfl ?_
  refine w_getR (c' := (5, 3, 5)) fl_RX11_353 rfl rfl ic_8 dX11_trace_4 rfl ?_
  refine w_iload_n dX11_trace_7 rfl 1 rfl ?_
  refine w_callV (as := [vI v]) (rest := []) (c_X5_has l G cy ad d 3 5 v Mz hIz (by first | decide | (unfold vF; omega) | (unfold vRw; omega))) kV_X5_has (by decide +kernel) (Nat.le_of_ble_eq_true rfl) m_1214 rfl rfl rfl (ic_5 (by unfold vRw; omega)) rfl rfl (by decide) (Nat.le_of_ble_eq_true rfl) dX11_trace_8 (fun r1_ M2_ q3_ => ?_)
  obtain ⟨rfl, h4_, hs5_⟩ := q3_
  refine w_if_ne (tgt := 20) dX11_trace_11 (by decide) (rfl : r1_.toInt = r1_.toInt) (fun h6_ => ?_) (fun h6_ => ?_)
  · refine w_aload_n dX11_trace_20 rfl 0 rfl ?_
    refine w_getR (c' := (8, 0, 0)) fl_RX11_49 rfl rfl ic_11 dX11_trace_21 rfl ?_
    refine w_getR (c' := (5, 3, 5)) fl_RX11_353 rfl rfl ic_8 dX11_trace_24 rfl ?_
    refine w_iload_n dX11_trace_27 rfl 1 rfl ?_
    refine w_callV (as := [vI v]) (rest := []) (c_X5_get l G cy ad d 3 5 v Mz hIz (by first | decide | (unfold vF; omega) | (unfold vRw; omega))) kV_X5_get (by decide +kernel) (Nat.le_of_ble_eq_true rfl) m_1154 rfl rfl rfl (ic_5 (by unfold vRw; omega)) rfl rfl (by decide) (Nat.le_of_ble_eq_true rfl) dX11_trace_28 (fun r7_ M8_ q9_ => ?_)
    obtain ⟨rfl, h10_, hs11_⟩ := q9_
    exact w_iret rfl dX11_trace_31 ⟨hIz, hFz, trivial, ⟨r1_, hs5_, h4_, (Or.inl ⟨h6_, r7_, hs11_, rfl, rfl⟩)⟩⟩
  · refine w_aload_n dX11_trace_14 rfl 0 rfl ?_
    refine w_iconst (v := 2) dX11_trace_15 (by decide) ?_
    refine w_callV (as := [vI 2]) (rest := []) (c_X11_error l G cy ad d 2 Mz hIz) kV_X11_error (by decide +kernel) (Nat.le_of_ble_eq_true rfl) m_500 rfl rfl rfl ic_11 rfl rfl (by decide) (Nat.le_of_ble_eq_true rfl) dX11_trace_16 (fun r12_ M13_ q14_ => ?_)
    obtain ⟨hI16_, hF17_, h15_, hs19_⟩ := q14_
    have hF18_ := hFz.tr hF17_ (fun c k => (fun h => h.elim (fun h => (Or.inl ⟨h.1, h.2⟩)) (fun h => h.elim)))
    exact w_iret rfl dX11_trace_19 ⟨hI16_, hF18_, trivial, ⟨r1_, hs5_, h4_, (Or.inr ⟨h6_, M13_, hI16_, hF17_, r12_, hs19_, rfl, rfl⟩)⟩⟩
def S_c_X11_sheet : rf → Nat → Prop := fun c k => (c.1 = 6 ∧ c.2.1 = 0 ∧ k = 0) ∨ (c.1 = 6 ∧ c.2.1 = 0 ∧ k = 1) ∨ (c.1 = 34 ∧ c.2.1 = 0) ∨ (c.1 = 44 ∧ c.2.1 = 0) ∨ False
def SP_X11_sheet (v : Int32) (u : Int32) (t : Int32) (Mz : mM) (r_ : Int32) (M_ : mM) : Prop := (((SP_X11_isSheet v Mz (1 : Int32)) ∧ (0 ≤ v.toInt ∧ v.toInt ≤ 3) ∧ (((u.toInt = 0) ∧ (u.toInt = 0) ∧ ∃ j9_ : Nat, ((j9_ : Int) = v.toInt) ∧ (j9_ < 4) ∧ ∃ M12_ : mM, (Inv M12_) ∧ (FR (S_c_X6_drop j9_) Mz M12_) ∧ (SP_X6_drop j9_ Mz M12_) ∧ r_ = 1 ∧ M_ = M12_) ∨ ((¬ u.toInt = 0) ∧ (((u.toInt = 8) ∧ (¬ u.toInt = 0) ∧ (((0 ≤ t.toInt) ∧ (((t.toInt ≤ 24) ∧ ∃ j23_ : Nat, ((j23_ : Int) = v.toInt) ∧ (j23_ < 4) ∧ ∃ M26_ : mM, (Inv M26_) ∧ (FR (S_c_X6_begin j23_) Mz M26_) ∧ (SP_X6_begin j23_ u t Mz M26_) ∧ r_ = 1 ∧ M_ = M26_) ∨ ((24 < t.toInt) ∧ ∃ M34_ : mM, (Inv M34_) ∧ (FR (S_c_X11_error) Mz M34_) ∧ ∃ r33_ : Int32, (SP_X11_error 1 Mz r33_ M34_) ∧ r_ = r33_ ∧ M_ = M34_))) ∨ ((t.toInt < 0) ∧ ∃ M42_ : mM, (Inv M42_) ∧ (FR (S_c_X11_error) Mz M42_) ∧ ∃ r41_ : Int32, (SP_X11_error 3 Mz r41_ M42_) ∧ r_ = r41_ ∧ M_ = M42_))) ∨ ((¬ u.toInt = 8) ∧ (((u.toInt = 16) ∧ (¬ u.toInt = 0) ∧ (((0 ≤ t.toInt) ∧ (((t.toInt ≤ 24) ∧ ∃ j53_ : Nat, ((j53_ : Int) = v.toInt) ∧ (j53_ < 4) ∧ ∃ M56_ : mM, (Inv M56_) ∧ (FR (S_c_X6_begin j53_) Mz M56_) ∧ (SP_X6_begin j53_ u t Mz M56_) ∧ r_ = 1 ∧ M_ = M56_) ∨ ((24 < t.toInt) ∧ ∃ M64_ : mM, (Inv M64_) ∧ (FR (S_c_X11_error) Mz M64_) ∧ ∃ r63_ : Int32, (SP_X11_error 1 Mz r63_ M64_) ∧ r_ = r63_ ∧ M_ = M64_))) ∨ ((t.toInt < 0) ∧ ∃ M72_ : mM, (Inv M72_) ∧ (FR (S_c_X11_error) Mz M72_) ∧ ∃ r71_ : Int32, (SP_X11_error 3 Mz r71_ M72_) ∧ r_ = r71_ ∧ M_ = M72_))) ∨ ((¬ u.toInt = 16) ∧ (((u.toInt = 32) ∧ (¬ u.toInt = 0) ∧ (((0 ≤ t.toInt) ∧ (((t.toInt ≤ 24) ∧ ∃ j83_ : Nat, ((j83_ : Int) = v.toInt) ∧ (j83_ < 4) ∧ ∃ M86_ : mM, (Inv M86_) ∧ (FR (S_c_X6_begin j83_) Mz M86_) ∧ (SP_X6_begin j83_ u t Mz M86_) ∧ r_ = 1 ∧ M_ = M86_) ∨ ((24 < t.toInt) ∧ ∃ M94_ : mM, (Inv M94_) ∧ (FR (S_c_X11_error) Mz M94_) ∧ ∃ r93_ : Int32, (SP_X11_error 1 Mz r93_ M94_) ∧ r_ = r93_ ∧ M_ = M94_))) ∨ ((t.toInt < 0) ∧ ∃ M102_ : mM, (Inv M102_) ∧ (FR (S_c_X11_error) Mz M102_) ∧ ∃ r101_ : Int32, (SP_X11_error 3 Mz r101_ M102_) ∧ r_ = r101_ ∧ M_ = M102_))) ∨ ((¬ u.toInt = 32) ∧ ∃ M110_ : mM, (Inv M110_) ∧ (FR (S_c_X11_error) Mz M110_) ∧ ∃ r109_ : Int32, (SP_X11_error 1 Mz r109_ M110_) ∧ r_ = r109_ ∧ M_ = M110_))))))))) ∨ ((SP_X11_isSheet v Mz (0 : Int32)) ∧ (¬ (0 ≤ v.toInt ∧ v.toInt ≤ 3)) ∧ ∃ M119_ : mM, (Inv M119_) ∧ (FR (S_c_X11_error) Mz M119_) ∧ ∃ r118_ : Int32, (SP_X11_error 1 Mz r118_ M119_) ∧ r_ = r118_ ∧ M_ = M119_))
theorem lf_c_X11_sheet_0  (u : Int32) (h7_ : u.toInt = 0) (h9 : ¬ u.toInt = 0) : False := by have r_u := rngI u; omega
theorem lf_c_X11_sheet_1  (v : Int32) (h4_ : 0 ≤ v.toInt ∧ v.toInt ≤ 3) : 0 ≤ v.toInt ∧ v.toInt < ((4 : Nat) : Int) := by have r_v := rngI v; omega
theorem lf_c_X11_sheet_2  (u : Int32) (h7_ : ¬ u.toInt = 0) (h19_ : u.toInt = 8) (h9 : u.toInt = 0) : False := by have r_u := rngI u; omega
theorem lf_c_X11_sheet_3  (v : Int32) (h4_ : 0 ≤ v.toInt ∧ v.toInt ≤ 3) : 0 ≤ v.toInt ∧ v.toInt < ((4 : Nat) : Int) := by have r_v := rngI v; omega
theorem lf_c_X11_sheet_4  (u : Int32) (h7_ : ¬ u.toInt = 0) (h19_ : ¬ u.toInt = 8) (h49_ : u.toInt = 16) (h9 : u.toInt = 0) : False := by have r_u := rngI u; omega
theorem lf_c_X11_sheet_5  (v : Int32) (h4_ : 0 ≤ v.toInt ∧ v.toInt ≤ 3) : 0 ≤ v.toInt ∧ v.toInt < ((4 : Nat) : Int) := by have r_v := rngI v; omega
theorem lf_c_X11_sheet_6  (u : Int32) (h7_ : ¬ u.toInt = 0) (h19_ : ¬ u.toInt = 8) (h49_ : ¬ u.toInt = 16) (h79_ : u.toInt = 32) (h9 : u.toInt = 0) : False := by have r_u := rngI u; omega
theorem lf_c_X11_sheet_7  (v : Int32) (h4_ : 0 ≤ v.toInt ∧ v.toInt ≤ 3) : 0 ≤ v.toInt ∧ v.toInt < ((4 : Nat) : Int) := by have r_v := rngI v; omega
set_option maxHeartbeats 4000000 in
set_option maxRecDepth 100000 in
theorem c_X11_sheet (l : Launch) (G : va_G) (cy : Nat → ClassId) (ad : rf → Nat) (d : Nat) (v : Int32) (u : Int32) (t : Int32) (Mz : mM) (hIz : Inv Mz) : WP CC l G cy ad yX11_sheet cX11_sheet 4 (some .int) (d + 2) 0 [(0, vR (11, 0, 0)), (1, vI v), (2, vI u), (3, vI t)] [] Mz (fun r M' => Inv M' ∧ FR (S_c_X11_sheet) Mz M' ∧ (True) ∧ SP_X11_sheet v u t Mz r M') := by
  have hFz : FR (S_c_X11_sheet) Mz Mz := FR.self
  refine w_iload_n dX11_sheet_0 rfl 1 rfl ?_
  refine w_callS (as := [vI v]) (rest := []) (c_X11_isSheet l G cy ad d v Mz hIz) kS_X11_isSheet (by decide +kernel) (Nat.le_of_ble_eq_true rfl) m_566 rfl rfl (by decide) (Nat.le_of_ble_eq_true rfl) dX11_sheet_1 (fun r1_ M2_ q3_ => ?_)
  obtain ⟨rfl, h4_, hs5_⟩ := q3_
  rcases h4_ with ⟨rfl, h4_⟩ | ⟨rfl, h4_⟩
  · refine w_if_eq (tgt := 29) dX11_sheet_4 (by decide) li_1 (fun h9 => (absurd h9 (by decide))) (fun h6_ => ?_)
    refine w_iload_n dX11_sheet_7 rfl 2 rfl ?_
    refine w_if_eq (tgt := 35) dX11_sheet_8 (by decide) (rfl : u.toInt = u.toInt) (fun h7_ => ?_) (fun h7_ => ?_)
    · refine w_iload_n dX11_sheet_35 rfl 2 rfl ?_
      refine w_if_ne (tgt := 50) dX11_sheet_36 (by decide) (rfl : u.toInt = u.toInt) (fun h9 => (lf_c_X11_sheet_0 u h7_ h9).elim) (fun h8_ => ?_)
      refine w_aload_n dX11_sheet_39 rfl 0 rfl ?_
      refine w_getR (c' := (43, 0, 0)) fl_RX11_24 rfl rfl ic_11 dX11_sheet_40 rfl ?_
      refine w_iload_n dX11_sheet_43 rfl 1 rfl ?_
      refine w_aald rfl rfl rfl (fun _ => rfl) ic_43 (rfl : v.toInt = v.toInt) (lf_c_X11_sheet_1 v h4_) dX11_sheet_44 (fun j9_ h10_ h11_ => ?_)
      refine w_callVv (as := []) (rest := []) (c_X6_drop l G cy ad (d + 1) j9_ Mz hIz h11_) kV_X6_drop (by decide +kernel) (Nat.le_of_ble_eq_true rfl) m_1222 rfl rfl rfl (ic_6 h11_) rfl rfl (by decide) (Nat.le_of_ble_eq_true rfl) dX11_sheet_45 (fun M12_ q13_ => ?_)
      obtain ⟨hI15_, hF16_, h14_, hs18_⟩ := q13_
      have hF17_ := hFz.tr hF16_ (fun c k => (fun h => h.elim (fun h => (Or.inl ⟨h.1, h.2.1, h.2.2.2⟩)) (fun h => h.elim (fun h => (Or.inr (Or.inl ⟨h.1, h.2.1, h.2.2.2⟩))) (fun h => h.elim))))
      refine w_iconst (v := 1) dX11_sheet_48 (by decide) ?_
      exact w_iret rfl dX11_sheet_49 ⟨hI15_, hF17_, trivial, (Or.inl ⟨hs5_, h4_, (Or.inl ⟨h7_, h8_, j9_, h10_, h11_, M12_, hI15_, hF16_, hs18_, rfl, rfl⟩)⟩)⟩
    · refine w_iload_n dX11_sheet_11 rfl 2 rfl ?_
      refine w_bipush (v := 8) dX11_sheet_12 (by decide) ?_
      refine w_icmp_eq (tgt := 35) dX11_sheet_14 (by decide) (rfl : u.toInt = u.toInt) li_8 (fun h19_ => ?_) (fun h19_ => ?_)
      · refine w_iload_n dX11_sheet_35 rfl 2 rfl ?_
        refine w_if_ne (tgt := 50) dX11_sheet_36 (by decide) (rfl : u.toInt = u.toInt) (fun h20_ => ?_) (fun h9 => (lf_c_X11_sheet_2 u h7_ h19_ h9).elim)
        refine w_iload_n dX11_sheet_50 rfl 3 rfl ?_
        refine w_if_ge (tgt := 60) dX11_sheet_51 (by decide) (rfl : t.toInt = t.toInt) (fun h21_ => ?_) (fun h21_ => ?_)
        · refine w_iload_n dX11_sheet_60 rfl 3 rfl ?_
          refine w_bipush (v := 24) dX11_sheet_61 (by decide) ?_
          refine w_icmp_le (tgt := 72) dX11_sheet_63 (by decide) (rfl : t.toInt = t.toInt) li_24 (fun h22_ => ?_) (fun h22_ => ?_)
          · refine w_aload_n dX11_sheet_72 rfl 0 rfl ?_
            refine w_getR (c' := (43, 0, 0)) fl_RX11_24 rfl rfl ic_11 dX11_sheet_73 rfl ?_
            refine w_iload_n dX11_sheet_76 rfl 1 rfl ?_
            refine w_aald rfl rfl rfl (fun _ => rfl) ic_43 (rfl : v.toInt = v.toInt) (lf_c_X11_sheet_3 v h4_) dX11_sheet_77 (fun j23_ h24_ h25_ => ?_)
            refine w_iload_n dX11_sheet_78 rfl 2 rfl ?_
            refine w_iload_n dX11_sheet_79 rfl 3 rfl ?_
            refine w_callVv (as := [vI u, vI t]) (rest := []) (c_X6_begin l G cy ad d j23_ u t Mz hIz h25_) kV_X6_begin (by decide +kernel) (Nat.le_of_ble_eq_true rfl) m_1226 rfl rfl rfl (ic_6 h25_) rfl rfl (by decide) (Nat.le_of_ble_eq_true rfl) dX11_sheet_80 (fun M26_ q27_ => ?_)
            obtain ⟨hI29_, hF30_, h28_, hs32_⟩ := q27_
            have hF31_ := hFz.tr hF30_ (fun c k => (fun h => h.elim (fun h => (Or.inl ⟨h.1, h.2.1, h.2.2.2⟩)) (fun h => h.elim (fun h => (Or.inr (Or.inl ⟨h.1, h.2.1, h.2.2.2⟩))) (fun h => h.elim (fun h => (Or.inr (Or.inr (Or.inl ⟨h.1, h.2.1⟩)))) (fun h => h.elim)))))
            refine w_iconst (v := 1) dX11_sheet_83 (by decide) ?_
            exact w_iret rfl dX11_sheet_84 ⟨hI29_, hF31_, trivial, (Or.inl ⟨hs5_, h4_, (Or.inr ⟨h7_, (Or.inl ⟨h19_, h20_, (Or.inl ⟨h21_, (Or.inl ⟨h22_, j23_, h24_, h25_, M26_, hI29_, hF30_, hs32_, rfl, rfl⟩)⟩)⟩)⟩)⟩)⟩
          · refine w_aload_n dX11_sheet_66 rfl 0 rfl ?_
            refine w_iconst (v := 1) dX11_sheet_67 (by decide) ?_
            refine w_callV (as := [vI 1]) (rest := []) (c_X11_error l G cy ad (d + 1) 1 Mz hIz) kV_X11_error (by decide +kernel) (Nat.le_of_ble_eq_true rfl) m_500 rfl rfl rfl ic_11 rfl rfl (by decide) (Nat.le_of_ble_eq_true rfl) dX11_sheet_68 (fun r33_ M34_ q35_ => ?_)
            obtain ⟨hI37_, hF38_, h36_, hs40_⟩ := q35_
            have hF39_ := hFz.tr hF38_ (fun c k => (fun h => h.elim (fun h => (Or.inr (Or.inr (Or.inr (Or.inl ⟨h.1, h.2⟩))))) (fun h => h.elim)))
            exact w_iret rfl dX11_sheet_71 ⟨hI37_, hF39_, trivial, (Or.inl ⟨hs5_, h4_, (Or.inr ⟨h7_, (Or.inl ⟨h19_, h20_, (Or.inl ⟨h21_, (Or.inr ⟨h22_, M34_, hI37_, hF38_, r33_, hs40_, rfl, rfl⟩)⟩)⟩)⟩)⟩)⟩
        · refine w_aload_n dX11_sheet_54 rfl 0 rfl ?_
          refine w_iconst (v := 3) dX11_sheet_55 (by decide) ?_
          refine w_callV (as := [vI 3]) (rest := []) (c_X11_error l G cy ad (d + 1) 3 Mz hIz) kV_X11_error (by decide +kernel) (Nat.le_of_ble_eq_true rfl) m_500 rfl rfl rfl ic_11 rfl rfl (by decide) (Nat.le_of_ble_eq_true rfl) dX11_sheet_56 (fun r41_ M42_ q43_ => ?_)
          obtain ⟨hI45_, hF46_, h44_, hs48_⟩ := q43_
          have hF47_ := hFz.tr hF46_ (fun c k => (fun h => h.elim (fun h => (Or.inr (Or.inr (Or.inr (Or.inl ⟨h.1, h.2⟩))))) (fun h => h.elim)))
          exact w_iret rfl dX11_sheet_59 ⟨hI45_, hF47_, trivial, (Or.inl ⟨hs5_, h4_, (Or.inr ⟨h7_, (Or.inl ⟨h19_, h20_, (Or.inr ⟨h21_, M42_, hI45_, hF46_, r41_, hs48_, rfl, rfl⟩)⟩)⟩)⟩)⟩
      · refine w_iload_n dX11_sheet_17 rfl 2 rfl ?_
        refine w_bipush (v := 16) dX11_sheet_18 (by decide) ?_
        refine w_icmp_eq (tgt := 35) dX11_sheet_20 (by decide) (rfl : u.toInt = u.toInt) li_16 (fun h49_ => ?_) (fun h49_ => ?_)
        · refine w_iload_n dX11_sheet_35 rfl 2 rfl ?_
          refine w_if_ne (tgt := 50) dX11_sheet_36 (by decide) (rfl : u.toInt = u.toInt) (fun h50_ => ?_) (fun h9 => (lf_c_X11_sheet_4 u h7_ h19_ h49_ h9).elim)
          refine w_iload_n dX11_sheet_50 rfl 3 rfl ?_
          refine w_if_ge (tgt := 60) dX11_sheet_51 (by decide) (rfl : t.toInt = t.toInt) (fun h51_ => ?_) (fun h51_ => ?_)
          · refine w_iload_n dX11_sheet_60 rfl 3 rfl ?_
            refine w_bipush (v := 24) dX11_sheet_61 (by decide) ?_
            refine w_icmp_le (tgt := 72) dX11_sheet_63 (by decide) (rfl : t.toInt = t.toInt) li_24 (fun h52_ => ?_) (fun h52_ => ?_)
            · refine w_aload_n dX11_sheet_72 rfl 0 rfl ?_
              refine w_getR (c' := (43, 0, 0)) fl_RX11_24 rfl rfl ic_11 dX11_sheet_73 rfl ?_
              refine w_iload_n dX11_sheet_76 rfl 1 rfl ?_
              refine w_aald rfl rfl rfl (fun _ => rfl) ic_43 (rfl : v.toInt = v.toInt) (lf_c_X11_sheet_5 v h4_) dX11_sheet_77 (fun j53_ h54_ h55_ => ?_)
              refine w_iload_n dX11_sheet_78 rfl 2 rfl ?_
              refine w_iload_n dX11_sheet_79 rfl 3 rfl ?_
              refine w_callVv (as := [vI u, vI t]) (rest := []) (c_X6_begin l G cy ad d j53_ u t Mz hIz h55_) kV_X6_begin (by decide +kernel) (Nat.le_of_ble_eq_true rfl) m_1226 rfl rfl rfl (ic_6 h55_) rfl rfl (by decide) (Nat.le_of_ble_eq_true rfl) dX11_sheet_80 (fun M56_ q57_ => ?_)
              obtain ⟨hI59_, hF60_, h58_, hs62_⟩ := q57_
              have hF61_ := hFz.tr hF60_ (fun c k => (fun h => h.elim (fun h => (Or.inl ⟨h.1, h.2.1, h.2.2.2⟩)) (fun h => h.elim (fun h => (Or.inr (Or.inl ⟨h.1, h.2.1, h.2.2.2⟩))) (fun h => h.elim (fun h => (Or.inr (Or.inr (Or.inl ⟨h.1, h.2.1⟩)))) (fun h => h.elim)))))
              refine w_iconst (v := 1) dX11_sheet_83 (by decide) ?_
              exact w_iret rfl dX11_sheet_84 ⟨hI59_, hF61_, trivial, (Or.inl ⟨hs5_, h4_, (Or.inr ⟨h7_, (Or.inr ⟨h19_, (Or.inl ⟨h49_, h50_, (Or.inl ⟨h51_, (Or.inl ⟨h52_, j53_, h54_, h55_, M56_, hI59_, hF60_, hs62_, rfl, rfl⟩)⟩)⟩)⟩)⟩)⟩)⟩
            · refine w_aload_n dX11_sheet_66 rfl 0 rfl ?_
              refine w_iconst (v := 1) dX11_sheet_67 (by decide) ?_
              refine w_callV (as := [vI 1]) (rest := []) (c_X11_error l G cy ad (d + 1) 1 Mz hIz) kV_X11_error (by decide +kernel) (Nat.le_of_ble_eq_true rfl) m_500 rfl rfl rfl ic_11 rfl rfl (by decide) (Nat.le_of_ble_eq_true rfl) dX11_sheet_68 (fun r63_ M64_ q65_ => ?_)
              obtain ⟨hI67_, hF68_, h66_, hs70_⟩ := q65_
              have hF69_ := hFz.tr hF68_ (fun c k => (fun h => h.elim (fun h => (Or.inr (Or.inr (Or.inr (Or.inl ⟨h.1, h.2⟩))))) (fun h => h.elim)))
              exact w_iret rfl dX11_sheet_71 ⟨hI67_, hF69_, trivial, (Or.inl ⟨hs5_, h4_, (Or.inr ⟨h7_, (Or.inr ⟨h19_, (Or.inl ⟨h49_, h50_, (Or.inl ⟨h51_, (Or.inr ⟨h52_, M64_, hI67_, hF68_, r63_, hs70_, rfl, rfl⟩)⟩)⟩)⟩)⟩)⟩)⟩
          · refine w_aload_n dX11_sheet_54 rfl 0 rfl ?_
            refine w_iconst (v := 3) dX11_sheet_55 (by decide) ?_
            refine w_callV (as := [vI 3]) (rest := []) (c_X11_error l G cy ad (d + 1) 3 Mz hIz) kV_X11_error (by decide +kernel) (Nat.le_of_ble_eq_true rfl) m_500 rfl rfl rfl ic_11 rfl rfl (by decide) (Nat.le_of_ble_eq_true rfl) dX11_sheet_56 (fun r71_ M72_ q73_ => ?_)
            obtain ⟨hI75_, hF76_, h74_, hs78_⟩ := q73_
            have hF77_ := hFz.tr hF76_ (fun c k => (fun h => h.elim (fun h => (Or.inr (Or.inr (Or.inr (Or.inl ⟨h.1, h.2⟩))))) (fun h => h.elim)))
            exact w_iret rfl dX11_sheet_59 ⟨hI75_, hF77_, trivial, (Or.inl ⟨hs5_, h4_, (Or.inr ⟨h7_, (Or.inr ⟨h19_, (Or.inl ⟨h49_, h50_, (Or.inr ⟨h51_, M72_, hI75_, hF76_, r71_, hs78_, rfl, rfl⟩)⟩)⟩)⟩)⟩)⟩
        · refine w_iload_n dX11_sheet_23 rfl 2 rfl ?_
          refine w_bipush (v := 32) dX11_sheet_24 (by decide) ?_
          refine w_icmp_eq (tgt := 35) dX11_sheet_26 (by decide) (rfl : u.toInt = u.toInt) li_32 (fun h79_ => ?_) (fun h79_ => ?_)
          · refine w_iload_n dX11_sheet_35 rfl 2 rfl ?_
            refine w_if_ne (tgt := 50) dX11_sheet_36 (by decide) (rfl : u.toInt = u.toInt) (fun h80_ => ?_) (fun h9 => (lf_c_X11_sheet_6 u h7_ h19_ h49_ h79_ h9).elim)
            refine w_iload_n dX11_sheet_50 rfl 3 rfl ?_
            refine w_if_ge (tgt := 60) dX11_sheet_51 (by decide) (rfl : t.toInt = t.toInt) (fun h81_ => ?_) (fun h81_ => ?_)
            · refine w_iload_n dX11_sheet_60 rfl 3 rfl ?_
              refine w_bipush (v := 24) dX11_sheet_61 (by decide) ?_
              refine w_icmp_le (tgt := 72) dX11_sheet_63 (by decide) (rfl : t.toInt = t.toInt) li_24 (fun h82_ => ?_) (fun h82_ => ?_)
              · refine w_aload_n dX11_sheet_72 rfl 0 rfl ?_
                refine w_getR (c' := (43, 0, 0)) fl_RX11_24 rfl rfl ic_11 dX11_sheet_73 rfl ?_
                refine w_iload_n dX11_sheet_76 rfl 1 rfl ?_
                refine w_aald rfl rfl rfl (fun _ => rfl) ic_43 (rfl : v.toInt = v.toInt) (lf_c_X11_sheet_7 v h4_) dX11_sheet_77 (fun j83_ h84_ h85_ => ?_)
                refine w_iload_n dX11_sheet_78 rfl 2 rfl ?_
                refine w_iload_n dX11_sheet_79 rfl 3 rfl ?_
                refine w_callVv (as := [vI u, vI t]) (rest := []) (c_X6_begin l G cy ad d j83_ u t Mz hIz h85_) kV_X6_begin (by decide +kernel) (Nat.le_of_ble_eq_true rfl) m_1226 rfl rfl rfl (ic_6 h85_) rfl rfl (by decide) (Nat.le_of_ble_eq_true rfl) dX11_sheet_80 (fun M86_ q87_ => ?_)
                obtain ⟨hI89_, hF90_, h88_, hs92_⟩ := q87_
                have hF91_ := hFz.tr hF90_ (fun c k => (fun h => h.elim (fun h => (Or.inl ⟨h.1, h.2.1, h.2.2.2⟩)) (fun h => h.elim (fun h => (Or.inr (Or.inl ⟨h.1, h.2.1, h.2.2.2⟩))) (fun h => h.elim (fun h => (Or.inr (Or.inr (Or.inl ⟨h.1, h.2.1⟩)))) (fun h => h.elim)))))
                refine w_iconst (v := 1) dX11_sheet_83 (by decide) ?_
                exact w_iret rfl dX11_sheet_84 ⟨hI89_, hF91_, trivial, (Or.inl ⟨hs5_, h4_, (Or.inr ⟨h7_, (Or.inr ⟨h19_, (Or.inr ⟨h49_, (Or.inl ⟨h79_, h80_, (Or.inl ⟨h81_, (Or.inl ⟨h82_, j83_, h84_, h85_, M86_, hI89_, hF90_, hs92_, rfl, rfl⟩)⟩)⟩)⟩)⟩)⟩)⟩)⟩
              · refine w_aload_n dX11_sheet_66 rfl 0 rfl ?_
                refine w_iconst (v := 1) dX11_sheet_67 (by decide) ?_
                refine w_callV (as := [vI 1]) (rest := []) (c_X11_error l G cy ad (d + 1) 1 Mz hIz) kV_X11_error (by decide +kernel) (Nat.le_of_ble_eq_true rfl) m_500 rfl rfl rfl ic_11 rfl rfl (by decide) (Nat.le_of_ble_eq_true rfl) dX11_sheet_68 (fun r93_ M94_ q95_ => ?_)
                obtain ⟨hI97_, hF98_, h96_, hs100_⟩ := q95_
                have hF99_ := hFz.tr hF98_ (fun c k => (fun h => h.elim (fun h => (Or.inr (Or.inr (Or.inr (Or.inl ⟨h.1, h.2⟩))))) (fun h => h.elim)))
                exact w_iret rfl dX11_sheet_71 ⟨hI97_, hF99_, trivial, (Or.inl ⟨hs5_, h4_, (Or.inr ⟨h7_, (Or.inr ⟨h19_, (Or.inr ⟨h49_, (Or.inl ⟨h79_, h80_, (Or.inl ⟨h81_, (Or.inr ⟨h82_, M94_, hI97_, hF98_, r93_, hs100_, rfl, rfl⟩)⟩)⟩)⟩)⟩)⟩)⟩)⟩
            · refine w_aload_n dX11_sheet_54 rfl 0 rfl ?_
              refine w_iconst (v := 3) dX11_sheet_55 (by decide) ?_
              refine w_callV (as := [vI 3]) (rest := []) (c_X11_error l G cy ad (d + 1) 3 Mz hIz) kV_X11_error (by decide +kernel) (Nat.le_of_ble_eq_true rfl) m_500 rfl rfl rfl ic_11 rfl rfl (by decide) (Nat.le_of_ble_eq_true rfl) dX11_sheet_56 (fun r101_ M102_ q103_ => ?_)
              obtain ⟨hI105_, hF106_, h104_, hs108_⟩ := q103_
              have hF107_ := hFz.tr hF106_ (fun c k => (fun h => h.elim (fun h => (Or.inr (Or.inr (Or.inr (Or.inl ⟨h.1, h.2⟩))))) (fun h => h.elim)))
              exact w_iret rfl dX11_sheet_59 ⟨hI105_, hF107_, trivial, (Or.inl ⟨hs5_, h4_, (Or.inr ⟨h7_, (Or.inr ⟨h19_, (Or.inr ⟨h49_, (Or.inl ⟨h79_, h80_, (Or.inr ⟨h81_, M102_, hI105_, hF106_, r101_, hs108_, rfl, rfl⟩)⟩)⟩)⟩)⟩)⟩)⟩
          · refine w_aload_n dX11_sheet_29 rfl 0 rfl ?_
            refine w_iconst (v := 1) dX11_sheet_30 (by decide) ?_
            refine w_callV (as := [vI 1]) (rest := []) (c_X11_error l G cy ad (d + 1) 1 Mz hIz) kV_X11_error (by decide +kernel) (Nat.le_of_ble_eq_true rfl) m_500 rfl rfl rfl ic_11 rfl rfl (by decide) (Nat.le_of_ble_eq_true rfl) dX11_sheet_31 (fun r109_ M110_ q111_ => ?_)
            obtain ⟨hI113_, hF114_, h112_, hs116_⟩ := q111_
            have hF115_ := hFz.tr hF114_ (fun c k => (fun h => h.elim (fun h => (Or.inr (Or.inr (Or.inr (Or.inl ⟨h.1, h.2⟩))))) (fun h => h.elim)))
            exact w_iret rfl dX11_sheet_34 ⟨hI113_, hF115_, trivial, (Or.inl ⟨hs5_, h4_, (Or.inr ⟨h7_, (Or.inr ⟨h19_, (Or.inr ⟨h49_, (Or.inr ⟨h79_, M110_, hI113_, hF114_, r109_, hs116_, rfl, rfl⟩)⟩)⟩)⟩)⟩)⟩
  · refine w_if_eq (tgt := 29) dX11_sheet_4 (by decide) li_0 (fun h117_ => ?_) (fun h9 => (absurd h9 (by decide)))
    refine w_aload_n dX11_sheet_29 rfl 0 rfl ?_
    refine w_iconst (v := 1) dX11_sheet_30 (by decide) ?_
    refine w_callV (as := [vI 1]) (rest := []) (c_X11_error l G cy ad (d + 1) 1 Mz hIz) kV_X11_error (by decide +kernel) (Nat.le_of_ble_eq_true rfl) m_500 rfl rfl rfl ic_11 rfl rfl (by decide) (Nat.le_of_ble_eq_true rfl) dX11_sheet_31 (fun r118_ M119_ q120_ => ?_)
    obtain ⟨hI122_, hF123_, h121_, hs125_⟩ := q120_
    have hF124_ := hFz.tr hF123_ (fun c k => (fun h => h.elim (fun h => (Or.inr (Or.inr (Or.inr (Or.inl ⟨h.1, h.2⟩))))) (fun h => h.elim)))
    exact w_iret rfl dX11_sheet_34 ⟨hI122_, hF124_, trivial, (Or.inr ⟨hs5_, h4_, M119_, hI122_, hF123_, r118_, hs125_, rfl, rfl⟩)⟩
def S_c_X11_put : rf → Nat → Prop := fun c k => (c.1 = 34 ∧ c.2.1 = 0) ∨ (c.1 = 44 ∧ c.2.1 = 0) ∨ False
def SP_X11_put (v : Int32) (u : Int32) (t : Int32) (Mz : mM) (r_ : Int32) (M_ : mM) : Prop := (((SP_X11_isSheet v Mz (1 : Int32)) ∧ (0 ≤ v.toInt ∧ v.toInt ≤ 3) ∧ ∃ j7_ : Nat, ((j7_ : Int) = v.toInt) ∧ (j7_ < 4) ∧ ∃ r10_ : Int32, (SP_X6_isMissing j7_ Mz r10_) ∧ ((0 ≤ r10_.toInt ∧ r10_.toInt ≤ 1)) ∧ (((r10_.toInt = 0) ∧ ∃ j16_ : Nat, ((j16_ : Int) = v.toInt) ∧ (j16_ < 4) ∧ (((SP_X6_has j16_ u Mz (1 : Int32)) ∧ (0 ≤ u.toInt ∧ u.toInt ≤ 23) ∧ ∃ j25_ : Nat, ((j25_ : Int) = v.toInt) ∧ (j25_ < 4) ∧ ∃ M28_ : mM, (Inv M28_) ∧ (FR (S_c_X6_store j25_) Mz M28_) ∧ (SP_X6_store j25_ u t Mz M28_) ∧ r_ = 1 ∧ M_ = M28_) ∨ ((SP_X6_has j16_ u Mz (0 : Int32)) ∧ ∃ M37_ : mM, (Inv M37_) ∧ (FR (S_c_X11_error) Mz M37_) ∧ ∃ r36_ : Int32, (SP_X11_error 1 Mz r36_ M37_) ∧ r_ = r36_ ∧ M_ = M37_))) ∨ ((¬ r10_.toInt = 0) ∧ ∃ M45_ : mM, (Inv M45_) ∧ (FR (S_c_X11_error) Mz M45_) ∧ ∃ r44_ : Int32, (SP_X11_error 2 Mz r44_ M45_) ∧ r_ = r44_ ∧ M_ = M45_))) ∨ ((SP_X11_isSheet v Mz (0 : Int32)) ∧ (¬ (0 ≤ v.toInt ∧ v.toInt ≤ 3)) ∧ ∃ M54_ : mM, (Inv M54_) ∧ (FR (S_c_X11_error) Mz M54_) ∧ ∃ r53_ : Int32, (SP_X11_error 1 Mz r53_ M54_) ∧ r_ = r53_ ∧ M_ = M54_))
theorem lf_c_X11_put_0  (v : Int32) (h4_ : 0 ≤ v.toInt ∧ v.toInt ≤ 3) : 0 ≤ v.toInt ∧ v.toInt < ((4 : Nat) : Int) := by have r_v := rngI v; omega
theorem lf_c_X11_put_1  (v : Int32) (j7_ : Nat) (h4_ : 0 ≤ v.toInt ∧ v.toInt ≤ 3) (h8_ : (j7_ : Int) = v.toInt) (h9_ : j7_ < 4) : 0 ≤ v.toInt ∧ v.toInt < ((4 : Nat) : Int) := by have r_v := rngI v; omega
theorem lf_c_X11_put_2  (v : Int32) (j7_ : Nat) (j16_ : Nat) (h4_ : 0 ≤ v.toInt ∧ v.toInt ≤ 3) (h8_ : (j7_ : Int) = v.toInt) (h9_ : j7_ < 4) (h17_ : (j16_ : Int) = v.toInt) (h18_ : j16_ < 4) : 0 ≤ v.toInt ∧ v.toInt < ((4 : Nat) : Int) := by have r_v := rngI v; omega
set_option maxHeartbeats 4000000 in
set_option maxRecDepth 100000 in
theorem c_X11_put (l : Launch) (G : va_G) (cy : Nat → ClassId) (ad : rf → Nat) (d : Nat) (v : Int32) (u : Int32) (t : Int32) (Mz : mM) (hIz : Inv Mz) : WP CC l G cy ad yX11_put cX11_put 4 (some .int) (d + 2) 0 [(0, vR (11, 0, 0)), (1, vI v), (2, vI u), (3, vI t)] [] Mz (fun r M' => Inv M' ∧ FR (S_c_X11_put) Mz M' ∧ (True) ∧ SP_X11_put v u t Mz r M') := by
  have hFz : FR (S_c_X11_put) Mz Mz := FR.self
  refine w_iload_n dX11_put_0 rfl 1 rfl ?_
  refine w_callS (as := [vI v]) (rest := []) (c_X11_isSheet l G cy ad d v Mz hIz) kS_X11_isSheet (by decide +kernel) (Nat.le_of_ble_eq_true rfl) m_566 rfl rfl (by decide) (Nat.le_of_ble_eq_true rfl) dX11_put_1 (fun r1_ M2_ q3_ => ?_)
  obtain ⟨rfl, h4_, hs5_⟩ := q3_
  rcases h4_ with ⟨rfl, h4_⟩ | ⟨rfl, h4_⟩
  · refine w_if_ne (tgt := 13) dX11_put_4 (by decide) li_1 (fun h6_ => ?_) (fun h9 => (absurd h9 (by decide)))
    refine w_aload_n dX11_put_13 rfl 0 rfl ?_
    refine w_getR (c' := (43, 0, 0)) fl_RX11_24 rfl rfl ic_11 dX11_put_14 rfl ?_
    refine w_iload_n dX11_put_17 rfl 1 rfl ?_
    refine w_aald rfl rfl rfl (fun _ => rfl) ic_43 (rfl : v.toInt = v.toInt) (lf_c_X11_put_0 v h4_) dX11_put_18 (fun j7_ h8_ h9_ => ?_)
    refine w_callV (as := []) (rest := []) (c_X6_isMissing l G cy ad (d + 1) j7_ Mz hIz h9_) kV_X6_isMissing (by decide +kernel) (Nat.le_of_ble_eq_true rfl) m_569 rfl rfl rfl (ic_6 h9_) rfl rfl (by decide) (Nat.le_of_ble_eq_true rfl) dX11_put_19 (fun r10_ M11_ q12_ => ?_)
    obtain ⟨rfl, h13_, hs14_⟩ := q12_
    refine w_if_eq (tgt := 31) dX11_put_22 (by decide) (rfl : r10_.toInt = r10_.toInt) (fun h15_ => ?_) (fun h15_ => ?_)
    · refine w_aload_n dX11_put_31 rfl 0 rfl ?_
      refine w_getR (c' := (43, 0, 0)) fl_RX11_24 rfl rfl ic_11 dX11_put_32 rfl ?_
      refine w_iload_n dX11_put_35 rfl 1 rfl ?_
      refine w_aald rfl rfl rfl (fun _ => rfl) ic_43 (rfl : v.toInt = v.toInt) (lf_c_X11_put_1 v j7_ h4_ h8_ h9_) dX11_put_36 (fun j16_ h17_ h18_ => ?_)
      refine w_iload_n dX11_put_37 rfl 2 rfl ?_
      refine w_callV (as := [vI u]) (rest := []) (c_X6_has l G cy ad (d + 1) j16_ u Mz hIz h18_) kV_X6_has (by decide +kernel) (Nat.le_of_ble_eq_true rfl) m_1236 rfl rfl rfl (ic_6 h18_) rfl rfl (by decide) (Nat.le_of_ble_eq_true rfl) dX11_put_38 (fun r19_ M20_ q21_ => ?_)
      obtain ⟨rfl, h22_, hs23_⟩ := q21_
      rcases h22_ with ⟨rfl, h22_⟩ | rfl
      · refine w_if_ne (tgt := 50) dX11_put_41 (by decide) li_1 (fun h24_ => ?_) (fun h9 => (absurd h9 (by decide)))
        refine w_aload_n dX11_put_50 rfl 0 rfl ?_
        refine w_getR (c' := (43, 0, 0)) fl_RX11_24 rfl rfl ic_11 dX11_put_51 rfl ?_
        refine w_iload_n dX11_put_54 rfl 1 rfl ?_
        refine w_aald rfl rfl rfl (fun _ => rfl) ic_43 (rfl : v.toInt = v.toInt) (lf_c_X11_put_2 v j7_ j16_ h4_ h8_ h9_ h17_ h18_) dX11_put_55 (fun j25_ h26_ h27_ => ?_)
        refine w_iload_n dX11_put_56 rfl 2 rfl ?_
        refine w_iload_n dX11_put_57 rfl 3 rfl ?_
        refine w_callVv (as := [vI u, vI t]) (rest := []) (c_X6_store l G cy ad d j25_ u t Mz hIz h27_) kV_X6_store (by decide +kernel) (Nat.le_of_ble_eq_true rfl) m_1237 rfl rfl rfl (ic_6 h27_) rfl rfl (by decide) (Nat.le_of_ble_eq_true rfl) dX11_put_58 (fun M28_ q29_ => ?_)
        obtain ⟨hI31_, hF32_, h30_, hs34_⟩ := q29_
        have hF33_ := hFz.tr hF32_ (fun c k => (fun h => h.elim (fun h => (Or.inl ⟨h.1, h.2.1⟩)) (fun h => h.elim)))
        refine w_iconst (v := 1) dX11_put_61 (by decide) ?_
        exact w_iret rfl dX11_put_62 ⟨hI31_, hF33_, trivial, (Or.inl ⟨hs5_, h4_, j7_, h8_, h9_, r10_, hs14_, h13_, (Or.inl ⟨h15_, j16_, h17_, h18_, (Or.inl ⟨hs23_, h22_, j25_, h26_, h27_, M28_, hI31_, hF32_, hs34_, rfl, rfl⟩)⟩)⟩)⟩
      · refine w_if_ne (tgt := 50) dX11_put_41 (by decide) li_0 (fun h9 => (absurd h9 (by decide))) (fun h35_ => ?_)
        refine w_aload_n dX11_put_44 rfl 0 rfl ?_
        refine w_iconst (v := 1) dX11_put_45 (by decide) ?_
        refine w_callV (as := [vI 1]) (rest := []) (c_X11_error l G cy ad (d + 1) 1 Mz hIz) kV_X11_error (by decide +kernel) (Nat.le_of_ble_eq_true rfl) m_500 rfl rfl rfl ic_11 rfl rfl (by decide) (Nat.le_of_ble_eq_true rfl) dX11_put_46 (fun r36_ M37_ q38_ => ?_)
        obtain ⟨hI40_, hF41_, h39_, hs43_⟩ := q38_
        have hF42_ := hFz.tr hF41_ (fun c k => (fun h => h.elim (fun h => (Or.inr (Or.inl ⟨h.1, h.2⟩))) (fun h => h.elim)))
        exact w_iret rfl dX11_put_49 ⟨hI40_, hF42_, trivial, (Or.inl ⟨hs5_, h4_, j7_, h8_, h9_, r10_, hs14_, h13_, (Or.inl ⟨h15_, j16_, h17_, h18_, (Or.inr ⟨hs23_, M37_, hI40_, hF41_, r36_, hs43_, rfl, rfl⟩)⟩)⟩)⟩
    · refine w_aload_n dX11_put_25 rfl 0 rfl ?_
      refine w_iconst (v := 2) dX11_put_26 (by decide) ?_
      refine w_callV (as := [vI 2]) (rest := []) (c_X11_error l G cy ad (d + 1) 2 Mz hIz) kV_X11_error (by decide +kernel) (Nat.le_of_ble_eq_true rfl) m_500 rfl rfl rfl ic_11 rfl rfl (by decide) (Nat.le_of_ble_eq_true rfl) dX11_put_27 (fun r44_ M45_ q46_ => ?_)
      obtain ⟨hI48_, hF49_, h47_, hs51_⟩ := q46_
      have hF50_ := hFz.tr hF49_ (fun c k => (fun h => h.elim (fun h => (Or.inr (Or.inl ⟨h.1, h.2⟩))) (fun h => h.elim)))
      exact w_iret rfl dX11_put_30 ⟨hI48_, hF50_, trivial, (Or.inl ⟨hs5_, h4_, j7_, h8_, h9_, r10_, hs14_, h13_, (Or.inr ⟨h15_, M45_, hI48_, hF49_, r44_, hs51_, rfl, rfl⟩)⟩)⟩
  · refine w_if_ne (tgt := 13) dX11_put_4 (by decide) li_0 (fun h9 => (absurd h9 (by decide))) (fun h52_ => ?_)
    refine w_aload_n dX11_put_7 rfl 0 rfl ?_
    refine w_iconst (v := 1) dX11_put_8 (by decide) ?_
    refine w_callV (as := [vI 1]) (rest := []) (c_X11_error l G cy ad (d + 1) 1 Mz hIz) kV_X11_error (by decide +kernel) (Nat.le_of_ble_eq_true rfl) m_500 rfl rfl rfl ic_11 rfl rfl (by decide) (Nat.le_of_ble_eq_true rfl) dX11_put_9 (fun r53_ M54_ q55_ => ?_)
    obtain ⟨hI57_, hF58_, h56_, hs60_⟩ := q55_
    have hF59_ := hFz.tr hF58_ (fun c k => (fun h => h.elim (fun h => (Or.inr (Or.inl ⟨h.1, h.2⟩))) (fun h => h.elim)))
    exact w_iret rfl dX11_put_12 ⟨hI57_, hF59_, trivial, (Or.inr ⟨hs5_, h4_, M54_, hI57_, hF58_, r53_, hs60_, rfl, rfl⟩)⟩
def S_c_X11_move : rf → Nat → Prop := fun c k => (c.1 = 44 ∧ c.2.1 = 0) ∨ (c.1 = 34 ∧ c.2.1 = 0) ∨ False
def SP_X11_move (v : Int32) (u : Int32) (t : Int32) (s : Int32) (q : Int32) (Mz : mM) (r_ : Int32) (M_ : mM) : Prop := (((SP_X11_isSheet v Mz (1 : Int32)) ∧ (0 ≤ v.toInt ∧ v.toInt ≤ 3) ∧ (((SP_X11_isSheet t Mz (1 : Int32)) ∧ (0 ≤ t.toInt ∧ t.toInt ≤ 3) ∧ ∃ j13_ : Nat, ((j13_ : Int) = v.toInt) ∧ (j13_ < 4) ∧ ∃ j16_ : Nat, ((j16_ : Int) = t.toInt) ∧ (j16_ < 4) ∧ ∃ r19_ : Int32, (SP_X6_isMissing j13_ Mz r19_) ∧ ((0 ≤ r19_.toInt ∧ r19_.toInt ≤ 1)) ∧ (((¬ r19_.toInt = 0) ∧ ∃ M26_ : mM, (Inv M26_) ∧ (FR (S_c_X11_error) Mz M26_) ∧ ∃ r25_ : Int32, (SP_X11_error 2 Mz r25_ M26_) ∧ r_ = r25_ ∧ M_ = M26_) ∨ ((r19_.toInt = 0) ∧ ∃ r33_ : Int32, (SP_X6_isMissing j16_ Mz r33_) ∧ ((0 ≤ r33_.toInt ∧ r33_.toInt ≤ 1)) ∧ (((r33_.toInt = 0) ∧ ∃ z39_ : Int32, (z39_ = Mz.1 (6, 0, j13_) 0) ∧ ∃ z41_ : Int32, (z41_ = Mz.1 (6, 0, j16_) 0) ∧ (((z39_.toInt = z41_.toInt) ∧ (((SP_X6_hasRun j13_ u q Mz (1 : Int32)) ∧ (0 ≤ u.toInt ∧ 0 ≤ q.toInt ∧ u.toInt + q.toInt ≤ 24) ∧ (((SP_X6_hasRun j16_ s q Mz (1 : Int32)) ∧ (0 ≤ s.toInt ∧ 0 ≤ q.toInt ∧ s.toInt + q.toInt ≤ 24) ∧ ∃ M56_ : mM, (M56_ = cp Mz (34, 0, j13_) (34, 0, j16_) (u : Int32).toNatClampNeg (s : Int32).toNatClampNeg (q : Int32).toNatClampNeg) ∧ r_ = q ∧ M_ = M56_) ∨ ((SP_X6_hasRun j16_ s q Mz (0 : Int32)) ∧ ∃ M62_ : mM, (Inv M62_) ∧ (FR (S_c_X11_error) Mz M62_) ∧ ∃ r61_ : Int32, (SP_X11_error 1 Mz r61_ M62_) ∧ r_ = r61_ ∧ M_ = M62_))) ∨ ((SP_X6_hasRun j13_ u q Mz (0 : Int32)) ∧ ∃ M71_ : mM, (Inv M71_) ∧ (FR (S_c_X11_error) Mz M71_) ∧ ∃ r70_ : Int32, (SP_X11_error 1 Mz r70_ M71_) ∧ r_ = r70_ ∧ M_ = M71_))) ∨ ((¬ z39_.toInt = z41_.toInt) ∧ ∃ M79_ : mM, (Inv M79_) ∧ (FR (S_c_X11_error) Mz M79_) ∧ ∃ r78_ : Int32, (SP_X11_error 5 Mz r78_ M79_) ∧ r_ = r78_ ∧ M_ = M79_))) ∨ ((¬ r33_.toInt = 0) ∧ ∃ M87_ : mM, (Inv M87_) ∧ (FR (S_c_X11_error) Mz M87_) ∧ ∃ r86_ : Int32, (SP_X11_error 2 Mz r86_ M87_) ∧ r_ = r86_ ∧ M_ = M87_))))) ∨ ((SP_X11_isSheet t Mz (0 : Int32)) ∧ (¬ (0 ≤ t.toInt ∧ t.toInt ≤ 3)) ∧ ∃ M96_ : mM, (Inv M96_) ∧ (FR (S_c_X11_error) Mz M96_) ∧ ∃ r95_ : Int32, (SP_X11_error 1 Mz r95_ M96_) ∧ r_ = r95_ ∧ M_ = M96_))) ∨ ((SP_X11_isSheet v Mz (0 : Int32)) ∧ (¬ (0 ≤ v.toInt ∧ v.toInt ≤ 3)) ∧ ∃ M105_ : mM, (Inv M105_) ∧ (FR (S_c_X11_error) Mz M105_) ∧ ∃ r104_ : Int32, (SP_X11_error 1 Mz r104_ M105_) ∧ r_ = r104_ ∧ M_ = M105_))
theorem lf_c_X11_move_0  (v : Int32) (h4_ : 0 ≤ v.toInt ∧ v.toInt ≤ 3) : 0 ≤ v.toInt ∧ v.toInt < ((4 : Nat) : Int) := by have r_v := rngI v; omega
theorem lf_c_X11_move_1  (t : Int32) (h10_ : 0 ≤ t.toInt ∧ t.toInt ≤ 3) : 0 ≤ t.toInt ∧ t.toInt < ((4 : Nat) : Int) := by have r_t := rngI t; omega
theorem lf_c_X11_move_2  (u : Int32) (s : Int32) (q : Int32) (h47_ : 0 ≤ u.toInt ∧ 0 ≤ q.toInt ∧ u.toInt + q.toInt ≤ 24) (h53_ : 0 ≤ s.toInt ∧ 0 ≤ q.toInt ∧ s.toInt + q.toInt ≤ 24) : 0 ≤ u.toInt ∧ 0 ≤ s.toInt ∧ 0 ≤ q.toInt ∧ u.toInt + q.toInt ≤ ((24 : Nat) : Int) ∧ s.toInt + q.toInt ≤ ((24 : Nat) : Int) := by have r_u := rngI u; have r_s := rngI s; have r_q := rngI q; omega
set_option maxHeartbeats 4000000 in
set_option maxRecDepth 100000 in
theorem c_X11_move (l : Launch) (G : va_G) (cy : Nat → ClassId) (ad : rf → Nat) (d : Nat) (v : Int32) (u : Int32) (t : Int32) (s : Int32) (q : Int32) (Mz : mM) (hIz : Inv Mz) : WP CC l G cy ad yX11_move cX11_move 8 (some .int) (d + 2) 0 [(0, vR (11, 0, 0)), (1, vI v), (2, vI u), (3, vI t), (4, vI s), (5, vI q)] [] Mz (fun r M' => Inv M' ∧ FR (S_c_X11_move) Mz M' ∧ (True) ∧ SP_X11_move v u t s q Mz r M') := by
  have hFz : FR (S_c_X11_move) Mz Mz := FR.self
  refine w_iload_n dX11_move_0 rfl 1 rfl ?_
  refine w_callS (as := [vI v]) (rest := []) (c_X11_isSheet l G cy ad d v Mz hIz) kS_X11_isSheet (by decide +kernel) (Nat.le_of_ble_eq_true rfl) m_566 rfl rfl (by decide) (Nat.le_of_ble_eq_true rfl) dX11_move_1 (fun r1_ M2_ q3_ => ?_)
  obtain ⟨rfl, h4_, hs5_⟩ := q3_
  rcases h4_ with ⟨rfl, h4_⟩ | ⟨rfl, h4_⟩
  · refine w_if_eq (tgt := 14) dX11_move_4 (by decide) li_1 (fun h9 => (absurd h9 (by decide))) (fun h6_ => ?_)
    refine w_iload_n dX11_move_7 rfl 3 rfl ?_
    refine w_callS (as := [vI t]) (rest := []) (c_X11_isSheet l G cy ad d t Mz hIz) kS_X11_isSheet (by decide +kernel) (Nat.le_of_ble_eq_true rfl) m_566 rfl rfl (by decide) (Nat.le_of_ble_eq_true rfl) dX11_move_8 (fun r7_ M8_ q9_ => ?_)
    obtain ⟨rfl, h10_, hs11_⟩ := q9_
    rcases h10_ with ⟨rfl, h10_⟩ | ⟨rfl, h10_⟩
    · refine w_if_ne (tgt := 20) dX11_move_11 (by decide) li_1 (fun h12_ => ?_) (fun h9 => (absurd h9 (by decide)))
      refine w_aload_n dX11_move_20 rfl 0 rfl ?_
      refine w_getR (c' := (43, 0, 0)) fl_RX11_24 rfl rfl ic_11 dX11_move_21 rfl ?_
      refine w_iload_n dX11_move_24 rfl 1 rfl ?_
      refine w_aald rfl rfl rfl (fun _ => rfl) ic_43 (rfl : v.toInt = v.toInt) (lf_c_X11_move_0 v h4_) dX11_move_25 (fun j13_ h14_ h15_ => ?_)
      refine w_astore (ls' := [(6, vR (6, 0, j13_)), (0, vR (11, 0, 0)), (1, vI v), (2, vI u), (3, vI t), (4, vI s), (5, vI q)]) dX11_move_26 (by decide) rfl ?_
      refine w_aload_n dX11_move_28 rfl 1 rfl ?_
      refine w_getR (c' := (43, 0, 0)) fl_RX11_24 rfl rfl ic_11 dX11_move_29 rfl ?_
      refine w_iload_n dX11_move_32 rfl 4 rfl ?_
      refine w_aald rfl rfl rfl (fun _ => rfl) ic_43 (rfl : t.toInt = t.toInt) (lf_c_X11_move_1 t h10_) dX11_move_33 (fun j16_ h17_ h18_ => ?_)
      refine w_astore (ls' := [(7, vR (6, 0, j16_)), (6, vR (6, 0, j13_)), (0, vR (11, 0, 0)), (1, vI v), (2, vI u), (3, vI t), (4, vI s), (5, vI q)]) dX11_move_34 (by decide) rfl ?_
      refine w_aload dX11_move_36 1 rfl ?_
      refine w_callV (as := []) (rest := []) (c_X6_isMissing l G cy ad (d + 1) j13_ Mz hIz h15_) kV_X6_isMissing (by decide +kernel) (Nat.le_of_ble_eq_true rfl) m_569 rfl rfl rfl (ic_6 h15_) rfl rfl (by decide) (Nat.le_of_ble_eq_true rfl) dX11_move_38 (fun r19_ M20_ q21_ => ?_)
      obtain ⟨rfl, h22_, hs23_⟩ := q21_
      refine w_if_ne (tgt := 52) dX11_move_41 (by decide) (rfl : r19_.toInt = r19_.toInt) (fun h24_ => ?_) (fun h24_ => ?_)
      · refine w_aload_n dX11_move_52 rfl 2 rfl ?_
        refine w_iconst (v := 2) dX11_move_53 (by decide) ?_
        refine w_callV (as := [vI 2]) (rest := []) (c_X11_error l G cy ad (d + 1) 2 Mz hIz) kV_X11_error (by decide +kernel) (Nat.le_of_ble_eq_true rfl) m_500 rfl rfl rfl ic_11 rfl rfl (by decide) (Nat.le_of_ble_eq_true rfl) dX11_move_54 (fun r25_ M26_ q27_ => ?_)
        obtain ⟨hI29_, hF30_, h28_, hs32_⟩ := q27_
        have hF31_ := hFz.tr hF30_ (fun c k => (fun h => h.elim (fun h => (Or.inl ⟨h.1, h.2⟩)) (fun h => h.elim)))
        exact w_iret rfl dX11_move_57 ⟨hI29_, hF31_, trivial, (Or.inl ⟨hs5_, h4_, (Or.inl ⟨hs11_, h10_, j13_, h14_, h15_, j16_, h17_, h18_, r19_, hs23_, h22_, (Or.inl ⟨h24_, M26_, hI29_, hF30_, r25_, hs32_, rfl, rfl⟩)⟩)⟩)⟩
      · refine w_aload dX11_move_44 0 rfl ?_
        refine w_callV (as := []) (rest := []) (c_X6_isMissing l G cy ad (d + 1) j16_ Mz hIz h18_) kV_X6_isMissing (by decide +kernel) (Nat.le_of_ble_eq_true rfl) m_569 rfl rfl rfl (ic_6 h18_) rfl rfl (by decide) (Nat.le_of_ble_eq_true rfl) dX11_move_46 (fun r33_ M34_ q35_ => ?_)
        obtain ⟨rfl, h36_, hs37_⟩ := q35_
        refine w_if_eq (tgt := 58) dX11_move_49 (by decide) (rfl : r33_.toInt = r33_.toInt) (fun h38_ => ?_) (fun h38_ => ?_)
        · refine w_aload dX11_move_58 1 rfl ?_
          refine w_getI fl_RX11_133 rfl rfl (ic_6 h15_) dX11_move_60 (fun z39_ e40_ => ?_)
          refine w_aload dX11_move_63 0 rfl ?_
          refine w_getI fl_RX11_133 rfl rfl (ic_6 h18_) dX11_move_65 (fun z41_ e42_ => ?_)
          refine w_icmp_eq (tgt := 77) dX11_move_68 (by decide) (rfl : z39_.toInt = z39_.toInt) (rfl : z41_.toInt = z41_.toInt) (fun h43_ => ?_) (fun h43_ => ?_)
          · refine w_aload dX11_move_77 1 rfl ?_
            refine w_iload_n dX11_move_79 rfl 4 rfl ?_
            refine w_iload dX11_move_80 7 rfl ?_
            refine w_callV (as := [vI u, vI q]) (rest := []) (c_X6_hasRun l G cy ad (d + 1) j13_ u q Mz hIz h15_) kV_X6_hasRun (by decide +kernel) (Nat.le_of_ble_eq_true rfl) m_1245 rfl rfl rfl (ic_6 h15_) rfl rfl (by decide) (Nat.le_of_ble_eq_true rfl) dX11_move_82 (fun r44_ M45_ q46_ => ?_)
            obtain ⟨rfl, h47_, hs48_⟩ := q46_
            rcases h47_ with ⟨rfl, h47_⟩ | rfl
            · refine w_if_eq (tgt := 100) dX11_move_85 (by decide) li_1 (fun h9 => (absurd h9 (by decide))) (fun h49_ => ?_)
              refine w_aload dX11_move_88 0 rfl ?_
              refine w_iload dX11_move_90 6 rfl ?_
              refine w_iload dX11_move_92 7 rfl ?_
              refine w_callV (as := [vI s, vI q]) (rest := []) (c_X6_hasRun l G cy ad (d + 1) j16_ s q Mz hIz h18_) kV_X6_hasRun (by decide +kernel) (Nat.le_of_ble_eq_true rfl) m_1245 rfl rfl rfl (ic_6 h18_) rfl rfl (by decide) (Nat.le_of_ble_eq_true rfl) dX11_move_94 (fun r50_ M51_ q52_ => ?_)
              obtain ⟨rfl, h53_, hs54_⟩ := q52_
              rcases h53_ with ⟨rfl, h53_⟩ | rfl
              · refine w_if_ne (tgt := 106) dX11_move_97 (by decide) li_1 (fun h55_ => ?_) (fun h9 => (absurd h9 (by decide)))
                refine w_aload dX11_move_106 1 rfl ?_
                refine w_getR (c' := (34, 0, j13_)) fl_RX11_373 rfl rfl (ic_6 h15_) dX11_move_108 rfl ?_
                refine w_iload_n dX11_move_111 rfl 4 rfl ?_
                refine w_aload dX11_move_112 0 rfl ?_
                refine w_getR (c' := (34, 0, j16_)) fl_RX11_373 rfl rfl (ic_6 h18_) dX11_move_114 rfl ?_
                refine w_iload dX11_move_117 6 rfl ?_
                refine w_iload dX11_move_119 7 rfl ?_
                refine w_copy CC_nd rfl rfl (ic_34 h15_) rfl rfl (ic_34 h18_) m_1249 m_830 m_829 m_98 (rfl : u.toInt = u.toInt) (rfl : s.toInt = s.toInt) (rfl : q.toInt = q.toInt) (lf_c_X11_move_2 u s q h47_ h53_) rfl (by omega) dX11_move_121 (fun M56_ hM57_ => ?_)
                have hI58_ := hIz.cpy hM57_ (fun _ _ => trivial)
                have hF59_ := hFz.cpy hM57_ (fun _ => (Or.inr (Or.inl ⟨rfl, rfl⟩)))
                refine w_iload dX11_move_124 7 rfl ?_
                exact w_iret rfl dX11_move_126 ⟨hI58_, hF59_, trivial, (Or.inl ⟨hs5_, h4_, (Or.inl ⟨hs11_, h10_, j13_, h14_, h15_, j16_, h17_, h18_, r19_, hs23_, h22_, (Or.inr ⟨h24_, r33_, hs37_, h36_, (Or.inl ⟨h38_, z39_, e40_, z41_, e42_, (Or.inl ⟨h43_, (Or.inl ⟨hs48_, h47_, (Or.inl ⟨hs54_, h53_, M56_, hM57_, rfl, rfl⟩)⟩)⟩)⟩)⟩)⟩)⟩)⟩
              · refine w_if_ne (tgt := 106) dX11_move_97 (by decide) li_0 (fun h9 => (absurd h9 (by decide))) (fun h60_ => ?_)
                refine w_aload_n dX11_move_100 rfl 2 rfl ?_
                refine w_iconst (v := 1) dX11_move_101 (by decide) ?_
                refine w_callV (as := [vI 1]) (rest := []) (c_X11_error l G cy ad (d + 1) 1 Mz hIz) kV_X11_error (by decide +kernel) (Nat.le_of_ble_eq_true rfl) m_500 rfl rfl rfl ic_11 rfl rfl (by decide) (Nat.le_of_ble_eq_true rfl) dX11_move_102 (fun r61_ M62_ q63_ => ?_)
                obtain ⟨hI65_, hF66_, h64_, hs68_⟩ := q63_
                have hF67_ := hFz.tr hF66_ (fun c k => (fun h => h.elim (fun h => (Or.inl ⟨h.1, h.2⟩)) (fun h => h.elim)))
                exact w_iret rfl dX11_move_105 ⟨hI65_, hF67_, trivial, (Or.inl ⟨hs5_, h4_, (Or.inl ⟨hs11_, h10_, j13_, h14_, h15_, j16_, h17_, h18_, r19_, hs23_, h22_, (Or.inr ⟨h24_, r33_, hs37_, h36_, (Or.inl ⟨h38_, z39_, e40_, z41_, e42_, (Or.inl ⟨h43_, (Or.inl ⟨hs48_, h47_, (Or.inr ⟨hs54_, M62_, hI65_, hF66_, r61_, hs68_, rfl, rfl⟩)⟩)⟩)⟩)⟩)⟩)⟩)⟩
            · refine w_if_eq (tgt := 100) dX11_move_85 (by decide) li_0 (fun h69_ => ?_) (fun h9 => (absurd h9 (by decide)))
              refine w_aload_n dX11_move_100 rfl 2 rfl ?_
              refine w_iconst (v := 1) dX11_move_101 (by decide) ?_
              refine w_callV (as := [vI 1]) (rest := []) (c_X11_error l G cy ad (d + 1) 1 Mz hIz) kV_X11_error (by decide +kernel) (Nat.le_of_ble_eq_true rfl) m_500 rfl rfl rfl ic_11 rfl rfl (by decide) (Nat.le_of_ble_eq_true rfl) dX11_move_102 (fun r70_ M71_ q72_ => ?_)
              obtain ⟨hI74_, hF75_, h73_, hs77_⟩ := q72_
              have hF76_ := hFz.tr hF75_ (fun c k => (fun h => h.elim (fun h => (Or.inl ⟨h.1, h.2⟩)) (fun h => h.elim)))
              exact w_iret rfl dX11_move_105 ⟨hI74_, hF76_, trivial, (Or.inl ⟨hs5_, h4_, (Or.inl ⟨hs11_, h10_, j13_, h14_, h15_, j16_, h17_, h18_, r19_, hs23_, h22_, (Or.inr ⟨h24_, r33_, hs37_, h36_, (Or.inl ⟨h38_, z39_, e40_, z41_, e42_, (Or.inl ⟨h43_, (Or.inr ⟨hs48_, M71_, hI74_, hF75_, r70_, hs77_, rfl, rfl⟩)⟩)⟩)⟩)⟩)⟩)⟩
          · refine w_aload_n dX11_move_71 rfl 2 rfl ?_
            refine w_iconst (v := 5) dX11_move_72 (by decide) ?_
            refine w_callV (as := [vI 5]) (rest := []) (c_X11_error l G cy ad (d + 1) 5 Mz hIz) kV_X11_error (by decide +kernel) (Nat.le_of_ble_eq_true rfl) m_500 rfl rfl rfl ic_11 rfl rfl (by decide) (Nat.le_of_ble_eq_true rfl) dX11_move_73 (fun r78_ M79_ q80_ => ?_)
            obtain ⟨hI82_, hF83_, h81_, hs85_⟩ := q80_
            have hF84_ := hFz.tr hF83_ (fun c k => (fun h => h.elim (fun h => (Or.inl ⟨h.1, h.2⟩)) (fun h => h.elim)))
            exact w_iret rfl dX11_move_76 ⟨hI82_, hF84_, trivial, (Or.inl ⟨hs5_, h4_, (Or.inl ⟨hs11_, h10_, j13_, h14_, h15_, j16_, h17_, h18_, r19_, hs23_, h22_, (Or.inr ⟨h24_, r33_, hs37_, h36_, (Or.inl ⟨h38_, z39_, e40_, z41_, e42_, (Or.inr ⟨h43_, M79_, hI82_, hF83_, r78_, hs85_, rfl, rfl⟩)⟩)⟩)⟩)⟩)⟩
        · refine w_aload_n dX11_move_52 rfl 2 rfl ?_
          refine w_iconst (v := 2) dX11_move_53 (by decide) ?_
          refine w_callV (as := [vI 2]) (rest := []) (c_X11_error l G cy ad (d + 1) 2 Mz hIz) kV_X11_error (by decide +kernel) (Nat.le_of_ble_eq_true rfl) m_500 rfl rfl rfl ic_11 rfl rfl (by decide) (Nat.le_of_ble_eq_true rfl) dX11_move_54 (fun r86_ M87_ q88_ => ?_)
          obtain ⟨hI90_, hF91_, h89_, hs93_⟩ := q88_
          have hF92_ := hFz.tr hF91_ (fun c k => (fun h => h.elim (fun h => (Or.inl ⟨h.1, h.2⟩)) (fun h => h.elim)))
          exact w_iret rfl dX11_move_57 ⟨hI90_, hF92_, trivial, (Or.inl ⟨hs5_, h4_, (Or.inl ⟨hs11_, h10_, j13_, h14_, h15_, j16_, h17_, h18_, r19_, hs23_, h22_, (Or.inr ⟨h24_, r33_, hs37_, h36_, (Or.inr ⟨h38_, M87_, hI90_, hF91_, r86_, hs93_, rfl, rfl⟩)⟩)⟩)⟩)⟩
    · refine w_if_ne (tgt := 20) dX11_move_11 (by decide) li_0 (fun h9 => (absurd h9 (by decide))) (fun h94_ => ?_)
      refine w_aload_n dX11_move_14 rfl 0 rfl ?_
      refine w_iconst (v := 1) dX11_move_15 (by decide) ?_
      refine w_callV (as := [vI 1]) (rest := []) (c_X11_error l G cy ad (d + 1) 1 Mz hIz) kV_X11_error (by decide +kernel) (Nat.le_of_ble_eq_true rfl) m_500 rfl rfl rfl ic_11 rfl rfl (by decide) (Nat.le_of_ble_eq_true rfl) dX11_move_16 (fun r95_ M96_ q97_ => ?_)
      obtain ⟨hI99_, hF100_, h98_, hs102_⟩ := q97_
      have hF101_ := hFz.tr hF100_ (fun c k => (fun h => h.elim (fun h => (Or.inl ⟨h.1, h.2⟩)) (fun h => h.elim)))
      exact w_iret rfl dX11_move_19 ⟨hI99_, hF101_, trivial, (Or.inl ⟨hs5_, h4_, (Or.inr ⟨hs11_, h10_, M96_, hI99_, hF100_, r95_, hs102_, rfl, rfl⟩)⟩)⟩
  · refine w_if_eq (tgt := 14) dX11_move_4 (by decide) li_0 (fun h103_ => ?_) (fun h9 => (absurd h9 (by decide)))
    refine w_aload_n dX11_move_14 rfl 0 rfl ?_
    refine w_iconst (v := 1) dX11_move_15 (by decide) ?_
    refine w_callV (as := [vI 1]) (rest := []) (c_X11_error l G cy ad (d + 1) 1 Mz hIz) kV_X11_error (by decide +kernel) (Nat.le_of_ble_eq_true rfl) m_500 rfl rfl rfl ic_11 rfl rfl (by decide) (Nat.le_of_ble_eq_true rfl) dX11_move_16 (fun r104_ M105_ q106_ => ?_)
    obtain ⟨hI108_, hF109_, h107_, hs111_⟩ := q106_
    have hF110_ := hFz.tr hF109_ (fun c k => (fun h => h.elim (fun h => (Or.inl ⟨h.1, h.2⟩)) (fun h => h.elim)))
    exact w_iret rfl dX11_move_19 ⟨hI108_, hF110_, trivial, (Or.inr ⟨hs5_, h4_, M105_, hI108_, hF109_, r104_, hs111_, rfl, rfl⟩)⟩
def S_c_X11_image : rf → Nat → Prop := fun c k => (c.1 = 35 ∧ c.2.1 = 1) ∨ (c.1 = 36 ∧ c.2.1 = 1) ∨ (c.1 = 37 ∧ c.2.1 = 1) ∨ (c.1 = 38 ∧ c.2.1 = 1) ∨ (c.1 = 39 ∧ c.2.1 = 1) ∨ (c.1 = 7 ∧ c.2.1 = 1 ∧ k = 5) ∨ (c.1 = 2 ∧ c.2.1 = 1 ∧ k = 0) ∨ (c.1 = 2 ∧ c.2.1 = 1 ∧ k = 1) ∨ (c.1 = 2 ∧ c.2.1 = 1 ∧ k = 2) ∨ (c.1 = 26 ∧ c.2.1 = 1) ∨ (c.1 = 27 ∧ c.2.1 = 1) ∨ (c.1 = 1 ∧ c.2.1 = 1 ∧ k = 2) ∨ (c.1 = 24 ∧ c.2.1 = 1) ∨ (c.1 = 30 ∧ c.2.1 = 1) ∨ (c.1 = 31 ∧ c.2.1 = 1) ∨ (c.1 = 32 ∧ c.2.1 = 1) ∨ (c.1 = 3 ∧ c.2.1 = 1 ∧ k = 3) ∨ (c.1 = 5 ∧ c.2.1 = 1 ∧ c.2.2 = 0 ∧ k = 1) ∨ (c.1 = 33 ∧ c.2.1 = 1 ∧ c.2.2 = 0) ∨ (c.1 = 5 ∧ c.2.1 = 1 ∧ c.2.2 = 1 ∧ k = 1) ∨ (c.1 = 33 ∧ c.2.1 = 1 ∧ c.2.2 = 1) ∨ (c.1 = 10 ∧ c.2.1 = 1 ∧ k = 6) ∨ (c.1 = 10 ∧ c.2.1 = 1 ∧ k = 7) ∨ (c.1 = 9 ∧ c.2.1 = 1 ∧ k = 0) ∨ (c.1 = 9 ∧ c.2.1 = 1 ∧ k = 1) ∨ (c.1 = 9 ∧ c.2.1 = 1 ∧ k = 2) ∨ (c.1 = 9 ∧ c.2.1 = 1 ∧ k = 3) ∨ (c.1 = 9 ∧ c.2.1 = 1 ∧ k = 4) ∨ (c.1 = 9 ∧ c.2.1 = 1 ∧ k = 5) ∨ (c.1 = 9 ∧ c.2.1 = 1 ∧ k = 6) ∨ (c.1 = 9 ∧ c.2.1 = 1 ∧ k = 7) ∨ (c.1 = 9 ∧ c.2.1 = 1 ∧ k = 8) ∨ (c.1 = 40 ∧ c.2.1 = 1) ∨ (c.1 = 41 ∧ c.2.1 = 1) ∨ (c.1 = 11 ∧ c.2.1 = 0 ∧ k = 8) ∨ False
def SP_X11_image (Mz : mM) (r_ : Int32) (M_ : mM) : Prop := ∃ M1_ : mM, (Inv M1_) ∧ (FR (S_c_X10_takeFrom 1 0) Mz M1_) ∧ (SP_X10_takeFrom 1 0 Mz M1_) ∧ ∃ z8_ : Int32, (z8_ = M1_.1 (11, 0, 0) 8) ∧ ∃ z10_ : Int32, (z10_ = z8_ + (1 : Int32)) ∧ ∃ M12_ : mM, (M12_ = up M1_ (11, 0, 0) 8 z10_) ∧ ∃ z16_ : Int32, (z16_ = M12_.1 (11, 0, 0) 8) ∧ r_ = z16_ ∧ M_ = M12_
set_option maxHeartbeats 4000000 in
set_option maxRecDepth 100000 in
theorem c_X11_image (l : Launch) (G : va_G) (cy : Nat → ClassId) (ad : rf → Nat) (d : Nat) (Mz : mM) (hIz : Inv Mz) : WP CC l G cy ad yX11_image cX11_image 1 (some .int) (d + 4) 0 [(0, vR (11, 0, 0))] [] Mz (fun r M' => Inv M' ∧ FR (S_c_X11_image) Mz M' ∧ (True) ∧ SP_X11_image Mz r M') := by
  have hFz : FR (S_c_X11_image) Mz Mz := FR.self
  refine w_aload_n dX11_image_0 rfl 0 rfl ?_
  refine w_getR (c' := (10, 1, 0)) fl_RX11_16 rfl rfl ic_11 dX11_image_1 rfl ?_
  refine w_aload_n dX11_image_4 rfl 0 rfl ?_
  refine w_getR (c' := (10, 0, 0)) fl_RX11_10 rfl rfl ic_11 dX11_image_5 rfl ?_
  refine w_callVv (as := [vR (10, 0, 0)]) (rest := []) (c_X10_takeFrom l G cy ad d 1 0 Mz hIz (by first | decide | (unfold vF; omega) | (unfold vRw; omega)) (by first | decide | (unfold vF; omega) | (unfold vRw; omega))) kV_X10_takeFrom (by decide +kernel) (Nat.le_of_ble_eq_true rfl) m_1254 rfl rfl rfl (ic_10 (by decide)) rfl rfl (by decide) (Nat.le_of_ble_eq_true rfl) dX11_image_8 (fun M1_ q2_ => ?_)
  obtain ⟨hI4_, hF5_, h3_, hs7_⟩ := q2_
  have hF6_ := hFz.tr hF5_ (fun c k => (fun h => h.elim (fun h => (Or.inl ⟨h.1, h.2⟩)) (fun h => h.elim (fun h => (Or.inr (Or.inl ⟨h.1, h.2⟩))) (fun h => h.elim (fun h => (Or.inr (Or.inr (Or.inl ⟨h.1, h.2⟩)))) (fun h => h.elim (fun h => (Or.inr (Or.inr (Or.inr (Or.inl ⟨h.1, h.2⟩))))) (fun h => h.elim (fun h => (Or.inr (Or.inr (Or.inr (Or.inr (Or.inl ⟨h.1, h.2⟩)))))) (fun h => h.elim (fun h => (Or.inr (Or.inr (Or.inr (Or.inr (Or.inr (Or.inl ⟨h.1, h.2.1, h.2.2⟩))))))) (fun h => h.elim (fun h => (Or.inr (Or.inr (Or.inr (Or.inr (Or.inr (Or.inr (Or.inl ⟨h.1, h.2.1, h.2.2⟩)))))))) (fun h => h.elim (fun h => (Or.inr (Or.inr (Or.inr (Or.inr (Or.inr (Or.inr (Or.inr (Or.inl ⟨h.1, h.2.1, h.2.2⟩))))))))) (fun h => h.elim (fun h => (Or.inr (Or.inr (Or.inr (Or.inr (Or.inr (Or.inr (Or.inr (Or.inr (Or.inl ⟨h.1, h.2.1, h.2.2⟩)))))))))) (fun h => h.elim (fun h => (Or.inr (Or.inr (Or.inr (Or.inr (Or.inr (Or.inr (Or.inr (Or.inr (Or.inr (Or.inl ⟨h.1, h.2⟩))))))))))) (fun h => h.elim (fun h => (Or.inr (Or.inr (Or.inr (Or.inr (Or.inr (Or.inr (Or.inr (Or.inr (Or.inr (Or.inr (Or.inl ⟨h.1, h.2⟩)))))))))))) (fun h => h.elim (fun h => (Or.inr (Or.inr (Or.inr (Or.inr (Or.inr (Or.inr (Or.inr (Or.inr (Or.inr (Or.inr (Or.inr (Or.inl ⟨h.1, h.2.1, h.2.2⟩))))))))))))) (fun h => h.elim (fun h => (Or.inr (Or.inr (Or.inr (Or.inr (Or.inr (Or.inr (Or.inr (Or.inr (Or.inr (Or.inr (Or.inr (Or.inr (Or.inl ⟨h.1, h.2⟩)))))))))))))) (fun h => h.elim (fun h => (Or.inr (Or.inr (Or.inr (Or.inr (Or.inr (Or.inr (Or.inr (Or.inr (Or.inr (Or.inr (Or.inr (Or.inr (Or.inr (Or.inl ⟨h.1, h.2⟩))))))))))))))) (fun h => h.elim (fun h => (Or.inr (Or.inr (Or.inr (Or.inr (Or.inr (Or.inr (Or.inr (Or.inr (Or.inr (Or.inr (Or.inr (Or.inr (Or.inr (Or.inr (Or.inl ⟨h.1, h.2⟩)))))))))))))))) (fun h => h.elim (fun h => (Or.inr (Or.inr (Or.inr (Or.inr (Or.inr (Or.inr (Or.inr (Or.inr (Or.inr (Or.inr (Or.inr (Or.inr (Or.inr (Or.inr (Or.inr (Or.inl ⟨h.1, h.2⟩))))))))))))))))) (fun h => h.elim (fun h => (Or.inr (Or.inr (Or.inr (Or.inr (Or.inr (Or.inr (Or.inr (Or.inr (Or.inr (Or.inr (Or.inr (Or.inr (Or.inr (Or.inr (Or.inr (Or.inr (Or.inl ⟨h.1, h.2.1, h.2.2⟩)))))))))))))))))) (fun h => h.elim (fun h => (Or.inr (Or.inr (Or.inr (Or.inr (Or.inr (Or.inr (Or.inr (Or.inr (Or.inr (Or.inr (Or.inr (Or.inr (Or.inr (Or.inr (Or.inr (Or.inr (Or.inr (Or.inl ⟨h.1, h.2.1, h.2.2.1, h.2.2.2⟩))))))))))))))))))) (fun h => h.elim (fun h => (Or.inr (Or.inr (Or.inr (Or.inr (Or.inr (Or.inr (Or.inr (Or.inr (Or.inr (Or.inr (Or.inr (Or.inr (Or.inr (Or.inr (Or.inr (Or.inr (Or.inr (Or.inr (Or.inl ⟨h.1, h.2.1, h.2.2⟩)))))))))))))))))))) (fun h => h.elim (fun h => (Or.inr (Or.inr (Or.inr (Or.inr (Or.inr (Or.inr (Or.inr (Or.inr (Or.inr (Or.inr (Or.inr (Or.inr (Or.inr (Or.inr (Or.inr (Or.inr (Or.inr (Or.inr (Or.inr (Or.inl ⟨h.1, h.2.1, h.2.2.1, h.2.2.2⟩))))))))))))))))))))) (fun h => h.elim (fun h => (Or.inr (Or.inr (Or.inr (Or.inr (Or.inr (Or.inr (Or.inr (Or.inr (Or.inr (Or.inr (Or.inr (Or.inr (Or.inr (Or.inr (Or.inr (Or.inr (Or.inr (Or.inr (Or.inr (Or.inr (Or.inl ⟨h.1, h.2.1, h.2.2⟩)))))))))))))))))))))) (fun h => h.elim (fun h => (Or.inr (Or.inr (Or.inr (Or.inr (Or.inr (Or.inr (Or.inr (Or.inr (Or.inr (Or.inr (Or.inr (Or.inr (Or.inr (Or.inr (Or.inr (Or.inr (Or.inr (Or.inr (Or.inr (Or.inr (Or.inr (Or.inl ⟨h.1, h.2.1, h.2.2⟩))))))))))))))))))))))) (fun h => h.elim (fun h => (Or.inr (Or.inr (Or.inr (Or.inr (Or.inr (Or.inr (Or.inr (Or.inr (Or.inr (Or.inr (Or.inr (Or.inr (Or.inr (Or.inr (Or.inr (Or.inr (Or.inr (Or.inr (Or.inr (Or.inr (Or.inr (Or.inr (Or.inl ⟨h.1, h.2.1, h.2.2⟩)))))))))))))))))))))))) (fun h => h.elim (fun h => (Or.inr (Or.inr (Or.inr (Or.inr (Or.inr (Or.inr (Or.inr (Or.inr (Or.inr (Or.inr (Or.inr (Or.inr (Or.inr (Or.inr (Or.inr (Or.inr (Or.inr (Or.inr (Or.inr (Or.inr (Or.inr (Or.inr (Or.inr (Or.inl ⟨h.1, h.2.1, h.2.2⟩))))))))))))))))))))))))) (fun h => h.elim (fun h => (Or.inr (Or.inr (Or.inr (Or.inr (Or.inr (Or.inr (Or.inr (Or.inr (Or.inr (Or.inr (Or.inr (Or.inr (Or.inr (Or.inr (Or.inr (Or.inr (Or.inr (Or.inr (Or.inr (Or.inr (Or.inr (Or.inr (Or.inr (Or.inr (Or.inl ⟨h.1, h.2.1, h.2.2⟩)))))))))))))))))))))))))) (fun h => h.elim (fun h => (Or.inr (Or.inr (Or.inr (Or.inr (Or.inr (Or.inr (Or.inr (Or.inr (Or.inr (Or.inr (Or.inr (Or.inr (Or.inr (Or.inr (Or.inr (Or.inr (Or.inr (Or.inr (Or.inr (Or.inr (Or.inr (Or.inr (Or.inr (Or.inr (Or.inr (Or.inl ⟨h.1, h.2.1, h.2.2⟩))))))))))))))))))))))))))) (fun h => h.elim (fun h => (Or.inr (Or.inr (Or.inr (Or.inr (Or.inr (Or.inr (Or.inr (Or.inr (Or.inr (Or.inr (Or.inr (Or.inr (Or.inr (Or.inr (Or.inr (Or.inr (Or.inr (Or.inr (Or.inr (Or.inr (Or.inr (Or.inr (Or.inr (Or.inr (Or.inr (Or.inr (Or.inl ⟨h.1, h.2.1, h.2.2⟩)))))))))))))))))))))))))))) (fun h => h.elim (fun h => (Or.inr (Or.inr (Or.inr (Or.inr (Or.inr (Or.inr (Or.inr (Or.inr (Or.inr (Or.inr (Or.inr (Or.inr (Or.inr (Or.inr (Or.inr (Or.inr (Or.inr (Or.inr (Or.inr (Or.inr (Or.inr (Or.inr (Or.inr (Or.inr (Or.inr (Or.inr (Or.inr (Or.inl ⟨h.1, h.2.1, h.2.2⟩))))))))))))))))))))))))))))) (fun h => h.elim (fun h => (Or.inr (Or.inr (Or.inr (Or.inr (Or.inr (Or.inr (Or.inr (Or.inr (Or.inr (Or.inr (Or.inr (Or.inr (Or.inr (Or.inr (Or.inr (Or.inr (Or.inr (Or.inr (Or.inr (Or.inr (Or.inr (Or.inr (Or.inr (Or.inr (Or.inr (Or.inr (Or.inr (Or.inr (Or.inl ⟨h.1, h.2.1, h.2.2⟩)))))))))))))))))))))))))))))) (fun h => h.elim (fun h => (Or.inr (Or.inr (Or.inr (Or.inr (Or.inr (Or.inr (Or.inr (Or.inr (Or.inr (Or.inr (Or.inr (Or.inr (Or.inr (Or.inr (Or.inr (Or.inr (Or.inr (Or.inr (Or.inr (Or.inr (Or.inr (Or.inr (Or.inr (Or.inr (Or.inr (Or.inr (Or.inr (Or.inr (Or.inr (Or.inl ⟨h.1, h.2.1, h.2.2⟩))))))))))))))))))))))))))))))) (fun h => h.elim (fun h => (Or.inr (Or.inr (Or.inr (Or.inr (Or.inr (Or.inr (Or.inr (Or.inr (Or.inr (Or.inr (Or.inr (Or.inr (Or.inr (Or.inr (Or.inr (Or.inr (Or.inr (Or.inr (Or.inr (Or.inr (Or.inr (Or.inr (Or.inr (Or.inr (Or.inr (Or.inr (Or.inr (Or.inr (Or.inr (Or.inr (Or.inl ⟨h.1, h.2.1, h.2.2⟩)))))))))))))))))))))))))))))))) (fun h => h.elim (fun h => (Or.inr (Or.inr (Or.inr (Or.inr (Or.inr (Or.inr (Or.inr (Or.inr (Or.inr (Or.inr (Or.inr (Or.inr (Or.inr (Or.inr (Or.inr (Or.inr (Or.inr (Or.inr (Or.inr (Or.inr (Or.inr (Or.inr (Or.inr (Or.inr (Or.inr (Or.inr (Or.inr (Or.inr (Or.inr (Or.inr (Or.inr (Or.inl ⟨h.1, h.2.1, h.2.2⟩))))))))))))))))))))))))))))))))) (fun h => h.elim (fun h => (Or.inr (Or.inr (Or.inr (Or.inr (Or.inr (Or.inr (Or.inr (Or.inr (Or.inr (Or.inr (Or.inr (Or.inr (Or.inr (Or.inr (Or.inr (Or.inr (Or.inr (Or.inr (Or.inr (Or.inr (Or.inr (Or.inr (Or.inr (Or.inr (Or.inr (Or.inr (Or.inr (Or.inr (Or.inr (Or.inr (Or.inr (Or.inr (Or.inl ⟨h.1, h.2⟩)))))))))))))))))))))))))))))))))) (fun h => h.elim (fun h => (Or.inr (Or.inr (Or.inr (Or.inr (Or.inr (Or.inr (Or.inr (Or.inr (Or.inr (Or.inr (Or.inr (Or.inr (Or.inr (Or.inr (Or.inr (Or.inr (Or.inr (Or.inr (Or.inr (Or.inr (Or.inr (Or.inr (Or.inr (Or.inr (Or.inr (Or.inr (Or.inr (Or.inr (Or.inr (Or.inr (Or.inr (Or.inr (Or.inr (Or.inl ⟨h.1, h.2⟩))))))))))))))))))))))))))))))))))) (fun h => h.elim))))))))))))))))))))))))))))))))))))
  refine w_aload_n dX11_image_11 rfl 0 rfl ?_
  refine w_dup dX11_image_12 rfl ?_
  refine w_getI fl_RX11_53 rfl rfl ic_11 dX11_image_13 (fun z8_ e9_ => ?_)
  refine w_iconst (v := 1) dX11_image_16 (by decide) ?_
  refine w_iadd dX11_image_17 (fun z10_ h11_ => ?_)
  refine w_putI CC_nd fl_RX11_53 rfl rfl ic_11 dX11_image_18 (fun M12_ hM13_ => ?_)
  have hI14_ := hI4_.put hM13_ trivial
  have hF15_ := hF6_.put hM13_ (Or.inr (Or.inr (Or.inr (Or.inr (Or.inr (Or.inr (Or.inr (Or.inr (Or.inr (Or.inr (Or.inr (Or.inr (Or.inr (Or.inr (Or.inr (Or.inr (Or.inr (Or.inr (Or.inr (Or.inr (Or.inr (Or.inr (Or.inr (Or.inr (Or.inr (Or.inr (Or.inr (Or.inr (Or.inr (Or.inr (Or.inr (Or.inr (Or.inr (Or.inr (Or.inl ⟨rfl, rfl, rfl⟩)))))))))))))))))))))))))))))))))))
  refine w_aload_n dX11_image_21 rfl 0 rfl ?_
  refine w_getI fl_RX11_53 rfl rfl ic_11 dX11_image_22 (fun z16_ e17_ => ?_)
  exact w_iret rfl dX11_image_25 ⟨hI14_, hF15_, trivial, ⟨M1_, hI4_, hF5_, hs7_, z8_, e9_, z10_, h11_, M12_, hM13_, z16_, e17_, rfl, rfl⟩⟩
def S_c_X11_restore : rf → Nat → Prop := fun c k => (c.1 = 35 ∧ c.2.1 = 0) ∨ (c.1 = 36 ∧ c.2.1 = 0) ∨ (c.1 = 37 ∧ c.2.1 = 0) ∨ (c.1 = 38 ∧ c.2.1 = 0) ∨ (c.1 = 39 ∧ c.2.1 = 0) ∨ (c.1 = 7 ∧ c.2.1 = 0 ∧ k = 5) ∨ (c.1 = 2 ∧ c.2.1 = 0 ∧ k = 0) ∨ (c.1 = 2 ∧ c.2.1 = 0 ∧ k = 1) ∨ (c.1 = 2 ∧ c.2.1 = 0 ∧ k = 2) ∨ (c.1 = 26 ∧ c.2.1 = 0) ∨ (c.1 = 27 ∧ c.2.1 = 0) ∨ (c.1 = 1 ∧ c.2.1 = 0 ∧ k = 2) ∨ (c.1 = 24 ∧ c.2.1 = 0) ∨ (c.1 = 30 ∧ c.2.1 = 0) ∨ (c.1 = 31 ∧ c.2.1 = 0) ∨ (c.1 = 32 ∧ c.2.1 = 0) ∨ (c.1 = 3 ∧ c.2.1 = 0 ∧ k = 3) ∨ (c.1 = 5 ∧ c.2.1 = 0 ∧ c.2.2 = 0 ∧ k = 1) ∨ (c.1 = 33 ∧ c.2.1 = 0 ∧ c.2.2 = 0) ∨ (c.1 = 5 ∧ c.2.1 = 0 ∧ c.2.2 = 1 ∧ k = 1) ∨ (c.1 = 33 ∧ c.2.1 = 0 ∧ c.2.2 = 1) ∨ (c.1 = 10 ∧ c.2.1 = 0 ∧ k = 6) ∨ (c.1 = 10 ∧ c.2.1 = 0 ∧ k = 7) ∨ (c.1 = 9 ∧ c.2.1 = 0 ∧ k = 0) ∨ (c.1 = 9 ∧ c.2.1 = 0 ∧ k = 1) ∨ (c.1 = 9 ∧ c.2.1 = 0 ∧ k = 2) ∨ (c.1 = 9 ∧ c.2.1 = 0 ∧ k = 3) ∨ (c.1 = 9 ∧ c.2.1 = 0 ∧ k = 4) ∨ (c.1 = 9 ∧ c.2.1 = 0 ∧ k = 5) ∨ (c.1 = 9 ∧ c.2.1 = 0 ∧ k = 6) ∨ (c.1 = 9 ∧ c.2.1 = 0 ∧ k = 7) ∨ (c.1 = 9 ∧ c.2.1 = 0 ∧ k = 8) ∨ (c.1 = 40 ∧ c.2.1 = 0) ∨ (c.1 = 41 ∧ c.2.1 = 0) ∨ (c.1 = 44 ∧ c.2.1 = 0) ∨ False
def SP_X11_restore (Mz : mM) (r_ : Int32) (M_ : mM) : Prop := ∃ z1_ : Int32, (z1_ = Mz.1 (11, 0, 0) 8) ∧ (((¬ z1_.toInt = 0) ∧ ∃ M4_ : mM, (Inv M4_) ∧ (FR (S_c_X10_takeFrom 0 1) Mz M4_) ∧ (SP_X10_takeFrom 0 1 Mz M4_) ∧ ∃ z11_ : Int32, (z11_ = M4_.1 (10, 0, 0) 7) ∧ r_ = z11_ ∧ M_ = M4_) ∨ ((z1_.toInt = 0) ∧ ∃ M14_ : mM, (Inv M14_) ∧ (FR (S_c_X11_error) Mz M14_) ∧ ∃ r13_ : Int32, (SP_X11_error 2 Mz r13_ M14_) ∧ r_ = r13_ ∧ M_ = M14_))
set_option maxHeartbeats 4000000 in
set_option maxRecDepth 100000 in
theorem c_X11_restore (l : Launch) (G : va_G) (cy : Nat → ClassId) (ad : rf → Nat) (d : Nat) (Mz : mM) (hIz : Inv Mz) : WP CC l G cy ad yX11_restore cX11_restore 1 (some .int) (d + 4) 0 [(0, vR (11, 0, 0))] [] Mz (fun r M' => Inv M' ∧ FR (S_c_X11_restore) Mz M' ∧ (True) ∧ SP_X11_restore Mz r M') := by
  have hFz : FR (S_c_X11_restore) Mz Mz := FR.self
  refine w_aload_n dX11_restore_0 rfl 0 rfl ?_
  refine w_getI fl_RX11_53 rfl rfl ic_11 dX11_restore_1 (fun z1_ e2_ => ?_)
  refine w_if_ne (tgt := 13) dX11_restore_4 (by decide) (rfl : z1_.toInt = z1_.toInt) (fun h3_ => ?_) (fun h3_ => ?_)
  · refine w_aload_n dX11_restore_13 rfl 0 rfl ?_
    refine w_getR (c' := (10, 0, 0)) fl_RX11_10 rfl rfl ic_11 dX11_restore_14 rfl ?_
    refine w_aload_n dX11_restore_17 rfl 0 rfl ?_
    refine w_getR (c' := (10, 1, 0)) fl_RX11_16 rfl rfl ic_11 dX11_restore_18 rfl ?_
    refine w_callVv (as := [vR (10, 1, 0)]) (rest := []) (c_X10_takeFrom l G cy ad d 0 1 Mz hIz (by first | decide | (unfold vF; omega) | (unfold vRw; omega)) (by first | decide | (unfold vF; omega) | (unfold vRw; omega))) kV_X10_takeFrom (by decide +kernel) (Nat.le_of_ble_eq_true rfl) m_1254 rfl rfl rfl (ic_10 (by decide)) rfl rfl (by decide) (Nat.le_of_ble_eq_true rfl) dX11_restore_21 (fun M4_ q5_ => ?_)
    obtain ⟨hI7_, hF8_, h6_, hs10_⟩ := q5_
    have hF9_ := hFz.tr hF8_ (fun c k => (fun h => h.elim (fun h => (Or.inl ⟨h.1, h.2⟩)) (fun h => h.elim (fun h => (Or.inr (Or.inl ⟨h.1, h.2⟩))) (fun h => h.elim (fun h => (Or.inr (Or.inr (Or.inl ⟨h.1, h.2⟩)))) (fun h => h.elim (fun h => (Or.inr (Or.inr (Or.inr (Or.inl ⟨h.1, h.2⟩))))) (fun h => h.elim (fun h => (Or.inr (Or.inr (Or.inr (Or.inr (Or.inl ⟨h.1, h.2⟩)))))) (fun h => h.elim (fun h => (Or.inr (Or.inr (Or.inr (Or.inr (Or.inr (Or.inl ⟨h.1, h.2.1, h.2.2⟩))))))) (fun h => h.elim (fun h => (Or.inr (Or.inr (Or.inr (Or.inr (Or.inr (Or.inr (Or.inl ⟨h.1, h.2.1, h.2.2⟩)))))))) (fun h => h.elim (fun h => (Or.inr (Or.inr (Or.inr (Or.inr (Or.inr (Or.inr (Or.inr (Or.inl ⟨h.1, h.2.1, h.2.2⟩))))))))) (fun h => h.elim (fun h => (Or.inr (Or.inr (Or.inr (Or.inr (Or.inr (Or.inr (Or.inr (Or.inr (Or.inl ⟨h.1, h.2.1, h.2.2⟩)))))))))) (fun h => h.elim (fun h => (Or.inr (Or.inr (Or.inr (Or.inr (Or.inr (Or.inr (Or.inr (Or.inr (Or.inr (Or.inl ⟨h.1, h.2⟩))))))))))) (fun h => h.elim (fun h => (Or.inr (Or.inr (Or.inr (Or.inr (Or.inr (Or.inr (Or.inr (Or.inr (Or.inr (Or.inr (Or.inl ⟨h.1, h.2⟩)))))))))))) (fun h => h.elim (fun h => (Or.inr (Or.inr (Or.inr (Or.inr (Or.inr (Or.inr (Or.inr (Or.inr (Or.inr (Or.inr (Or.inr (Or.inl ⟨h.1, h.2.1, h.2.2⟩))))))))))))) (fun h => h.elim (fun h => (Or.inr (Or.inr (Or.inr (Or.inr (Or.inr (Or.inr (Or.inr (Or.inr (Or.inr (Or.inr (Or.inr (Or.inr (Or.inl ⟨h.1, h.2⟩)))))))))))))) (fun h => h.elim (fun h => (Or.inr (Or.inr (Or.inr (Or.inr (Or.inr (Or.inr (Or.inr (Or.inr (Or.inr (Or.inr (Or.inr (Or.inr (Or.inr (Or.inl ⟨h.1, h.2⟩))))))))))))))) (fun h => h.elim (fun h => (Or.inr (Or.inr (Or.inr (Or.inr (Or.inr (Or.inr (Or.inr (Or.inr (Or.inr (Or.inr (Or.inr (Or.inr (Or.inr (Or.inr (Or.inl ⟨h.1, h.2⟩)))))))))))))))) (fun h => h.elim (fun h => (Or.inr (Or.inr (Or.inr (Or.inr (Or.inr (Or.inr (Or.inr (Or.inr (Or.inr (Or.inr (Or.inr (Or.inr (Or.inr (Or.inr (Or.inr (Or.inl ⟨h.1, h.2⟩))))))))))))))))) (fun h => h.elim (fun h => (Or.inr (Or.inr (Or.inr (Or.inr (Or.inr (Or.inr (Or.inr (Or.inr (Or.inr (Or.inr (Or.inr (Or.inr (Or.inr (Or.inr (Or.inr (Or.inr (Or.inl ⟨h.1, h.2.1, h.2.2⟩)))))))))))))))))) (fun h => h.elim (fun h => (Or.inr (Or.inr (Or.inr (Or.inr (Or.inr (Or.inr (Or.inr (Or.inr (Or.inr (Or.inr (Or.inr (Or.inr (Or.inr (Or.inr (Or.inr (Or.inr (Or.inr (Or.inl ⟨h.1, h.2.1, h.2.2.1, h.2.2.2⟩))))))))))))))))))) (fun h => h.elim (fun h => (Or.inr (Or.inr (Or.inr (Or.inr (Or.inr (Or.inr (Or.inr (Or.inr (Or.inr (Or.inr (Or.inr (Or.inr (Or.inr (Or.inr (Or.inr (Or.inr (Or.inr (Or.inr (Or.inl ⟨h.1, h.2.1, h.2.2⟩)))))))))))))))))))) (fun h => h.elim (fun h => (Or.inr (Or.inr (Or.inr (Or.inr (Or.inr (Or.inr (Or.inr (Or.inr (Or.inr (Or.inr (Or.inr (Or.inr (Or.inr (Or.inr (Or.inr (Or.inr (Or.inr (Or.inr (Or.inr (Or.inl ⟨h.1, h.2.1, h.2.2.1, h.2.2.2⟩))))))))))))))))))))) (fun h => h.elim (fun h => (Or.inr (Or.inr (Or.inr (Or.inr (Or.inr (Or.inr (Or.inr (Or.inr (Or.inr (Or.inr (Or.inr (Or.inr (Or.inr (Or.inr (Or.inr (Or.inr (Or.inr (Or.inr (Or.inr (Or.inr (Or.inl ⟨h.1, h.2.1, h.2.2⟩)))))))))))))))))))))) (fun h => h.elim (fun h => (Or.inr (Or.inr (Or.inr (Or.inr (Or.inr (Or.inr (Or.inr (Or.inr (Or.inr (Or.inr (Or.inr (Or.inr (Or.inr (Or.inr (Or.inr (Or.inr (Or.inr (Or.inr (Or.inr (Or.inr (Or.inr (Or.inl ⟨h.1, h.2.1, h.2.2⟩))))))))))))))))))))))) (fun h => h.elim (fun h => (Or.inr (Or.inr (Or.inr (Or.inr (Or.inr (Or.inr (Or.inr (Or.inr (Or.inr (Or.inr (Or.inr (Or.inr (Or.inr (Or.inr (Or.inr (Or.inr (Or.inr (Or.inr (Or.inr (Or.inr (Or.inr (Or.inr (Or.inl ⟨h.1, h.2.1, h.2.2⟩)))))))))))))))))))))))) (fun h => h.elim (fun h => (Or.inr (Or.inr (Or.inr (Or.inr (Or.inr (Or.inr (Or.inr (Or.inr (Or.inr (Or.inr (Or.inr (Or.inr (Or.inr (Or.inr (Or.inr (Or.inr (Or.inr (Or.inr (Or.inr (Or.inr (Or.inr (Or.inr (Or.inr (Or.inl ⟨h.1, h.2.1, h.2.2⟩))))))))))))))))))))))))) (fun h => h.elim (fun h => (Or.inr (Or.inr (Or.inr (Or.inr (Or.inr (Or.inr (Or.inr (Or.inr (Or.inr (Or.inr (Or.inr (Or.inr (Or.inr (Or.inr (Or.inr (Or.inr (Or.inr (Or.inr (Or.inr (Or.inr (Or.inr (Or.inr (Or.inr (Or.inr (Or.inl ⟨h.1, h.2.1, h.2.2⟩)))))))))))))))))))))))))) (fun h => h.elim (fun h => (Or.inr (Or.inr (Or.inr (Or.inr (Or.inr (Or.inr (Or.inr (Or.inr (Or.inr (Or.inr (Or.inr (Or.inr (Or.inr (Or.inr (Or.inr (Or.inr (Or.inr (Or.inr (Or.inr (Or.inr (Or.inr (Or.inr (Or.inr (Or.inr (Or.inr (Or.inl ⟨h.1, h.2.1, h.2.2⟩))))))))))))))))))))))))))) (fun h => h.elim (fun h => (Or.inr (Or.inr (Or.inr (Or.inr (Or.inr (Or.inr (Or.inr (Or.inr (Or.inr (Or.inr (Or.inr (Or.inr (Or.inr (Or.inr (Or.inr (Or.inr (Or.inr (Or.inr (Or.inr (Or.inr (Or.inr (Or.inr (Or.inr (Or.inr (Or.inr (Or.inr (Or.inl ⟨h.1, h.2.1, h.2.2⟩)))))))))))))))))))))))))))) (fun h => h.elim (fun h => (Or.inr (Or.inr (Or.inr (Or.inr (Or.inr (Or.inr (Or.inr (Or.inr (Or.inr (Or.inr (Or.inr (Or.inr (Or.inr (Or.inr (Or.inr (Or.inr (Or.inr (Or.inr (Or.inr (Or.inr (Or.inr (Or.inr (Or.inr (Or.inr (Or.inr (Or.inr (Or.inr (Or.inl ⟨h.1, h.2.1, h.2.2⟩))))))))))))))))))))))))))))) (fun h => h.elim (fun h => (Or.inr (Or.inr (Or.inr (Or.inr (Or.inr (Or.inr (Or.inr (Or.inr (Or.inr (Or.inr (Or.inr (Or.inr (Or.inr (Or.inr (Or.inr (Or.inr (Or.inr (Or.inr (Or.inr (Or.inr (Or.inr (Or.inr (Or.inr (Or.inr (Or.inr (Or.inr (Or.inr (Or.inr (Or.inl ⟨h.1, h.2.1, h.2.2⟩)))))))))))))))))))))))))))))) (fun h => h.elim (fun h => (Or.inr (Or.inr (Or.inr (Or.inr (Or.inr (Or.inr (Or.inr (Or.inr (Or.inr (Or.inr (Or.inr (Or.inr (Or.inr (Or.inr (Or.inr (Or.inr (Or.inr (Or.inr (Or.inr (Or.inr (Or.inr (Or.inr (Or.inr (Or.inr (Or.inr (Or.inr (Or.inr (Or.inr (Or.inr (Or.inl ⟨h.1, h.2.1, h.2.2⟩))))))))))))))))))))))))))))))) (fun h => h.elim (fun h => (Or.inr (Or.inr (Or.inr (Or.inr (Or.inr (Or.inr (Or.inr (Or.inr (Or.inr (Or.inr (Or.inr (Or.inr (Or.inr (Or.inr (Or.inr (Or.inr (Or.inr (Or.inr (Or.inr (Or.inr (Or.inr (Or.inr (Or.inr (Or.inr (Or.inr (Or.inr (Or.inr (Or.inr (Or.inr (Or.inr (Or.inl ⟨h.1, h.2.1, h.2.2⟩)))))))))))))))))))))))))))))))) (fun h => h.elim (fun h => (Or.inr (Or.inr (Or.inr (Or.inr (Or.inr (Or.inr (Or.inr (Or.inr (Or.inr (Or.inr (Or.inr (Or.inr (Or.inr (Or.inr (Or.inr (Or.inr (Or.inr (Or.inr (Or.inr (Or.inr (Or.inr (Or.inr (Or.inr (Or.inr (Or.inr (Or.inr (Or.inr (Or.inr (Or.inr (Or.inr (Or.inr (Or.inl ⟨h.1, h.2.1, h.2.2⟩))))))))))))))))))))))))))))))))) (fun h => h.elim (fun h => (Or.inr (Or.inr (Or.inr (Or.inr (Or.inr (Or.inr (Or.inr (Or.inr (Or.inr (Or.inr (Or.inr (Or.inr (Or.inr (Or.inr (Or.inr (Or.inr (Or.inr (Or.inr (Or.inr (Or.inr (Or.inr (Or.inr (Or.inr (Or.inr (Or.inr (Or.inr (Or.inr (Or.inr (Or.inr (Or.inr (Or.inr (Or.inr (Or.inl ⟨h.1, h.2⟩)))))))))))))))))))))))))))))))))) (fun h => h.elim (fun h => (Or.inr (Or.inr (Or.inr (Or.inr (Or.inr (Or.inr (Or.inr (Or.inr (Or.inr (Or.inr (Or.inr (Or.inr (Or.inr (Or.inr (Or.inr (Or.inr (Or.inr (Or.inr (Or.inr (Or.inr (Or.inr (Or.inr (Or.inr (Or.inr (Or.inr (Or.inr (Or.inr (Or.inr (Or.inr (Or.inr (Or.inr (Or.inr (Or.inr (Or.inl ⟨h.1, h.2⟩))))))))))))))))))))))))))))))))))) (fun h => h.elim))))))))))))))))))))))))))))))))))))
    refine w_aload_n dX11_restore_24 rfl 0 rfl ?_
    refine w_getR (c' := (10, 0, 0)) fl_RX11_10 rfl rfl ic_11 dX11_restore_25 rfl ?_
    refine w_getI fl_RX11_290 rfl rfl (ic_10 (by decide)) dX11_restore_28 (fun z11_ e12_ => ?_)
    exact w_iret rfl dX11_restore_31 ⟨hI7_, hF9_, trivial, ⟨z1_, e2_, (Or.inl ⟨h3_, M4_, hI7_, hF8_, hs10_, z11_, e12_, rfl, rfl⟩)⟩⟩
  · refine w_aload_n dX11_restore_7 rfl 0 rfl ?_
    refine w_iconst (v := 2) dX11_restore_8 (by decide) ?_
    refine w_callV (as := [vI 2]) (rest := []) (c_X11_error l G cy ad (d + 3) 2 Mz hIz) kV_X11_error (by decide +kernel) (Nat.le_of_ble_eq_true rfl) m_500 rfl rfl rfl ic_11 rfl rfl (by decide) (Nat.le_of_ble_eq_true rfl) dX11_restore_9 (fun r13_ M14_ q15_ => ?_)
    obtain ⟨hI17_, hF18_, h16_, hs20_⟩ := q15_
    have hF19_ := hFz.tr hF18_ (fun c k => (fun h => h.elim (fun h => (Or.inr (Or.inr (Or.inr (Or.inr (Or.inr (Or.inr (Or.inr (Or.inr (Or.inr (Or.inr (Or.inr (Or.inr (Or.inr (Or.inr (Or.inr (Or.inr (Or.inr (Or.inr (Or.inr (Or.inr (Or.inr (Or.inr (Or.inr (Or.inr (Or.inr (Or.inr (Or.inr (Or.inr (Or.inr (Or.inr (Or.inr (Or.inr (Or.inr (Or.inr (Or.inl ⟨h.1, h.2⟩)))))))))))))))))))))))))))))))))))) (fun h => h.elim)))
    exact w_iret rfl dX11_restore_12 ⟨hI17_, hF19_, trivial, ⟨z1_, e2_, (Or.inr ⟨h3_, M14_, hI17_, hF18_, r13_, hs20_, rfl, rfl⟩)⟩⟩
def S_c_X11_tell : rf → Nat → Prop := fun c k => (c.1 = 33 ∧ c.2.1 = 0 ∧ c.2.2 = 1) ∨ (c.1 = 5 ∧ c.2.1 = 0 ∧ c.2.2 = 1 ∧ k = 1) ∨ (c.1 = 44 ∧ c.2.1 = 0) ∨ False
def SP_X11_tell (v : Int32) (Mz : mM) (r_ : Int32) (M_ : mM) : Prop := ∃ r1_ : Int32, (SP_X5_room 0 1 Mz r1_) ∧ (((¬ r1_.toInt = 0) ∧ ∃ M7_ : mM, (Inv M7_) ∧ (FR (S_c_X5_add 0 1) Mz M7_) ∧ (SP_X5_add 0 1 v Mz M7_) ∧ ∃ z14_ : Int32, (z14_ = M7_.1 (5, 0, 1) 1) ∧ r_ = z14_ ∧ M_ = M7_) ∨ ((r1_.toInt = 0) ∧ ∃ M17_ : mM, (Inv M17_) ∧ (FR (S_c_X11_error) Mz M17_) ∧ ∃ r16_ : Int32, (SP_X11_error 4 Mz r16_ M17_) ∧ r_ = r16_ ∧ M_ = M17_))
set_option maxHeartbeats 4000000 in
set_option maxRecDepth 100000 in
theorem c_X11_tell (l : Launch) (G : va_G) (cy : Nat → ClassId) (ad : rf → Nat) (d : Nat) (v : Int32) (Mz : mM) (hIz : Inv Mz) : WP CC l G cy ad yX11_tell cX11_tell 2 (some .int) (d + 1) 0 [(0, vR (11, 0, 0)), (1, vI v)] [] Mz (fun r M' => Inv M' ∧ FR (S_c_X11_tell) Mz M' ∧ (True) ∧ SP_X11_tell v Mz r M') := by
  have hFz : FR (S_c_X11_tell) Mz Mz := FR.self
  refine w_aload_n dX11_tell_0 rfl 0 rfl ?_
  refine w_getR (c' := (10, 0, 0)) fl_RX11_10 rfl rfl ic_11 dX11_tell_1 rfl ?_
  refine w_getR (c' := (5, 0, 1)) fl_RX11_385 rfl rfl (ic_10 (by decide)) dX11_tell_4 rfl ?_
  refine w_callV (as := []) (rest := []) (c_X5_room l G cy ad d 0 1 Mz hIz (by first | decide | (unfold vF; omega) | (unfold vRw; omega))) kV_X5_room (by decide +kernel) (Nat.le_of_ble_eq_true rfl) m_669 rfl rfl rfl (ic_5 (by unfold vRw; omega)) rfl rfl (by decide) (Nat.le_of_ble_eq_true rfl) dX11_tell_7 (fun r1_ M2_ q3_ => ?_)
  obtain ⟨rfl, h4_, hs5_⟩ := q3_
  refine w_if_ne (tgt := 19) dX11_tell_10 (by decide) (rfl : r1_.toInt = r1_.toInt) (fun h6_ => ?_) (fun h6_ => ?_)
  · refine w_aload_n dX11_tell_19 rfl 0 rfl ?_
    refine w_getR (c' := (10, 0, 0)) fl_RX11_10 rfl rfl ic_11 dX11_tell_20 rfl ?_
    refine w_getR (c' := (5, 0, 1)) fl_RX11_385 rfl rfl (ic_10 (by decide)) dX11_tell_23 rfl ?_
    refine w_iload_n dX11_tell_26 rfl 1 rfl ?_
    refine w_callVv (as := [vI v]) (rest := []) (c_X5_add l G cy ad d 0 1 v Mz hIz (by first | decide | (unfold vF; omega) | (unfold vRw; omega))) kV_X5_add (by decide +kernel) (Nat.le_of_ble_eq_true rfl) m_673 rfl rfl rfl (ic_5 (by unfold vRw; omega)) rfl rfl (by decide) (Nat.le_of_ble_eq_true rfl) dX11_tell_27 (fun M7_ q8_ => ?_)
    obtain ⟨hI10_, hF11_, h9_, hs13_⟩ := q8_
    have hF12_ := hFz.tr hF11_ (fun c k => (fun h => h.elim (fun h => (Or.inl ⟨h.1, h.2.1, h.2.2⟩)) (fun h => h.elim (fun h => (Or.inr (Or.inl ⟨h.1, h.2.1, h.2.2.1, h.2.2.2⟩))) (fun h => h.elim))))
    refine w_aload_n dX11_tell_30 rfl 0 rfl ?_
    refine w_getR (c' := (10, 0, 0)) fl_RX11_10 rfl rfl ic_11 dX11_tell_31 rfl ?_
    refine w_getR (c' := (5, 0, 1)) fl_RX11_385 rfl rfl (ic_10 (by decide)) dX11_tell_34 rfl ?_
    refine w_getI fl_RX11_205 rfl rfl (ic_5 (by unfold vRw; omega)) dX11_tell_37 (fun z14_ e15_ => ?_)
    exact w_iret rfl dX11_tell_40 ⟨hI10_, hF12_, trivial, ⟨r1_, hs5_, (Or.inl ⟨h6_, M7_, hI10_, hF11_, hs13_, z14_, e15_, rfl, rfl⟩)⟩⟩
  · refine w_aload_n dX11_tell_13 rfl 0 rfl ?_
    refine w_iconst (v := 4) dX11_tell_14 (by decide) ?_
    refine w_callV (as := [vI 4]) (rest := []) (c_X11_error l G cy ad d 4 Mz hIz) kV_X11_error (by decide +kernel) (Nat.le_of_ble_eq_true rfl) m_500 rfl rfl rfl ic_11 rfl rfl (by decide) (Nat.le_of_ble_eq_true rfl) dX11_tell_15 (fun r16_ M17_ q18_ => ?_)
    obtain ⟨hI20_, hF21_, h19_, hs23_⟩ := q18_
    have hF22_ := hFz.tr hF21_ (fun c k => (fun h => h.elim (fun h => (Or.inr (Or.inr (Or.inl ⟨h.1, h.2⟩)))) (fun h => h.elim)))
    exact w_iret rfl dX11_tell_18 ⟨hI20_, hF22_, trivial, ⟨r1_, hs5_, (Or.inr ⟨h6_, M17_, hI20_, hF21_, r16_, hs23_, rfl, rfl⟩)⟩⟩
def S_c_X11_check : rf → Nat → Prop := fun c k => (c.1 = 35 ∧ c.2.1 = 2) ∨ (c.1 = 36 ∧ c.2.1 = 2) ∨ (c.1 = 37 ∧ c.2.1 = 2) ∨ (c.1 = 38 ∧ c.2.1 = 2) ∨ (c.1 = 39 ∧ c.2.1 = 2) ∨ (c.1 = 7 ∧ c.2.1 = 2 ∧ k = 5) ∨ (c.1 = 2 ∧ c.2.1 = 2 ∧ k = 0) ∨ (c.1 = 2 ∧ c.2.1 = 2 ∧ k = 1) ∨ (c.1 = 2 ∧ c.2.1 = 2 ∧ k = 2) ∨ (c.1 = 26 ∧ c.2.1 = 2) ∨ (c.1 = 27 ∧ c.2.1 = 2) ∨ (c.1 = 1 ∧ c.2.1 = 2 ∧ k = 2) ∨ (c.1 = 24 ∧ c.2.1 = 2) ∨ (c.1 = 30 ∧ c.2.1 = 2) ∨ (c.1 = 31 ∧ c.2.1 = 2) ∨ (c.1 = 32 ∧ c.2.1 = 2) ∨ (c.1 = 3 ∧ c.2.1 = 2 ∧ k = 3) ∨ (c.1 = 5 ∧ c.2.1 = 2 ∧ c.2.2 = 0 ∧ k = 1) ∨ (c.1 = 33 ∧ c.2.1 = 2 ∧ c.2.2 = 0) ∨ (c.1 = 5 ∧ c.2.1 = 2 ∧ c.2.2 = 1 ∧ k = 1) ∨ (c.1 = 33 ∧ c.2.1 = 2 ∧ c.2.2 = 1) ∨ (c.1 = 10 ∧ c.2.1 = 2 ∧ k = 6) ∨ (c.1 = 10 ∧ c.2.1 = 2 ∧ k = 7) ∨ (c.1 = 9 ∧ c.2.1 = 2 ∧ k = 0) ∨ (c.1 = 9 ∧ c.2.1 = 2 ∧ k = 1) ∨ (c.1 = 9 ∧ c.2.1 = 2 ∧ k = 2) ∨ (c.1 = 9 ∧ c.2.1 = 2 ∧ k = 3) ∨ (c.1 = 9 ∧ c.2.1 = 2 ∧ k = 4) ∨ (c.1 = 9 ∧ c.2.1 = 2 ∧ k = 5) ∨ (c.1 = 9 ∧ c.2.1 = 2 ∧ k = 6) ∨ (c.1 = 9 ∧ c.2.1 = 2 ∧ k = 7) ∨ (c.1 = 9 ∧ c.2.1 = 2 ∧ k = 8) ∨ (c.1 = 40 ∧ c.2.1 = 2) ∨ (c.1 = 41 ∧ c.2.1 = 2) ∨ (c.1 = 5 ∧ c.2.1 = 0 ∧ c.2.2 = 1 ∧ k = 1) ∨ (c.1 = 29 ∧ c.2.1 = 2 ∧ k = 0) ∨ (c.1 = 29 ∧ c.2.1 = 2 ∧ k = 1) ∨ (c.1 = 29 ∧ c.2.1 = 2 ∧ k = 2) ∨ (c.1 = 29 ∧ c.2.1 = 2 ∧ k = 3) ∨ (c.1 = 29 ∧ c.2.1 = 2 ∧ k = 4) ∨ (c.1 = 25 ∧ c.2.1 = 2 ∧ c.2.2 = 2) ∨ (c.1 = 25 ∧ c.2.1 = 2 ∧ c.2.2 = 0) ∨ (c.1 = 25 ∧ c.2.1 = 2 ∧ c.2.2 = 1) ∨ (c.1 = 44 ∧ c.2.1 = 0) ∨ False
def ST_X11_check_50 (v : Int32) (Mz : mM) (v2_50 : Int32) (M_50 : mM) (v2_50y : Int32) (M_50y : mM) : Prop := (0 ≤ v2_50.toInt) ∧ (Inv M_50) ∧ (FR (S_c_X11_check) Mz M_50) ∧ ∃ z22_ : Int32, (z22_ = M_50.1 (5, 2, 1) 1) ∧ (v2_50.toInt < z22_.toInt) ∧ ∃ M25_ : mM, (Inv M25_) ∧ (FR (S_c_X10_passTenth 2) M_50 M25_) ∧ (SP_X10_passTenth 2 M_50 M25_) ∧ ∃ j32_ : Nat, ((j32_ : Int) = v.toInt) ∧ (j32_ < 8) ∧ ∃ z35_ : Int32, (z35_ = M25_.1 (9, 2, j32_) 1) ∧ ∃ r37_ : Int32, (SP_X5_get 2 1 v2_50 M25_ r37_) ∧ (z35_.toInt = r37_.toInt) ∧ ∃ z43_ : Int32, (z43_.toInt = v2_50.toInt + 1) ∧ v2_50y = z43_ ∧ M_50y = M25_
def SP_X11_check (v : Int32) (Mz : mM) (r_ : Int32) (M_ : mM) : Prop := (((SP_X10_hasWalker 0 v Mz (1 : Int32)) ∧ (0 ≤ v.toInt ∧ v.toInt ≤ 7) ∧ ∃ M7_ : mM, (Inv M7_) ∧ (FR (S_c_X10_takeFrom 2 0) Mz M7_) ∧ (SP_X10_takeFrom 2 0 Mz M7_) ∧ ∃ M14_ : mM, (Inv M14_) ∧ (FR (S_c_X5_clear 0 1) M7_ M14_) ∧ (SP_X5_clear 0 1 M7_ M14_) ∧ ∃ v2_50 : Int32, (0 ≤ v2_50.toInt) ∧ ∃ M_50 : mM, (RCH (fun x_ y_ => ST_X11_check_50 v Mz x_.1 x_.2 y_.1 y_.2) ((0 : Int32), M14_) (v2_50, M_50)) ∧ (Inv M_50) ∧ (FR (S_c_X11_check) Mz M_50) ∧ ∃ z22_ : Int32, (z22_ = M_50.1 (5, 2, 1) 1) ∧ (((z22_.toInt ≤ v2_50.toInt) ∧ r_ = 0 ∧ M_ = M_50) ∨ ((v2_50.toInt < z22_.toInt) ∧ ∃ M25_ : mM, (Inv M25_) ∧ (FR (S_c_X10_passTenth 2) M_50 M25_) ∧ (SP_X10_passTenth 2 M_50 M25_) ∧ ∃ j32_ : Nat, ((j32_ : Int) = v.toInt) ∧ (j32_ < 8) ∧ ∃ z35_ : Int32, (z35_ = M25_.1 (9, 2, j32_) 1) ∧ ∃ r37_ : Int32, (SP_X5_get 2 1 v2_50 M25_ r37_) ∧ (¬ z35_.toInt = r37_.toInt) ∧ ∃ z45_ : Int32, (z45_.toInt = 1 + v2_50.toInt) ∧ r_ = z45_ ∧ M_ = M25_))) ∨ ((SP_X10_hasWalker 0 v Mz (0 : Int32)) ∧ ∃ M48_ : mM, (Inv M48_) ∧ (FR (S_c_X5_clear 0 1) Mz M48_) ∧ (SP_X5_clear 0 1 Mz M48_) ∧ ∃ M56_ : mM, (Inv M56_) ∧ (FR (S_c_X11_error) M48_ M56_) ∧ ∃ r55_ : Int32, (SP_X11_error 1 M48_ r55_ M56_) ∧ r_ = r55_ ∧ M_ = M56_))
theorem lf_c_X11_check_0  (v : Int32) (h4_ : 0 ≤ v.toInt ∧ v.toInt ≤ 7) : 0 ≤ v.toInt ∧ v.toInt < ((8 : Nat) : Int) := by have r_v := rngI v; omega
theorem lf_c_X11_check_1 (M_50 : mM) (v2_50 : Int32) (z22_ : Int32) (hv0_50 : 0 ≤ v2_50.toInt) (e23_ : z22_ = M_50.1 (5, 2, 1) 1) (h24_ : v2_50.toInt < z22_.toInt) : -2147483648 ≤ v2_50.toInt + 1 ∧ v2_50.toInt + 1 < 2147483648 := by have r_v2_50 := rngI v2_50; have r_z22_ := rngI z22_; subst e23_; omega
theorem lf_c_X11_check_2 (M_50 : mM) (v2_50 : Int32) (z22_ : Int32) (z43_ : Int32) (hv0_50 : 0 ≤ v2_50.toInt) (e23_ : z22_ = M_50.1 (5, 2, 1) 1) (h24_ : v2_50.toInt < z22_.toInt) (h44_ : z43_.toInt = v2_50.toInt + 1) : 0 ≤ z43_.toInt := by have r_v2_50 := rngI v2_50; have r_z22_ := rngI z22_; have r_z43_ := rngI z43_; omega
theorem lf_c_X11_check_3 (M_50 : mM) (v2_50 : Int32) (z22_ : Int32) (z43_ : Int32) (hv0_50 : 0 ≤ v2_50.toInt) (e23_ : z22_ = M_50.1 (5, 2, 1) 1) (h24_ : v2_50.toInt < z22_.toInt) (h44_ : z43_.toInt = v2_50.toInt + 1) : (2147483648 - z43_.toInt).toNat < (2147483648 - v2_50.toInt).toNat := by have r_v2_50 := rngI v2_50; have r_z22_ := rngI z22_; have r_z43_ := rngI z43_; omega
theorem lf_c_X11_check_4 (M_50 : mM) (v2_50 : Int32) (z22_ : Int32) (hv0_50 : 0 ≤ v2_50.toInt) (e23_ : z22_ = M_50.1 (5, 2, 1) 1) (h24_ : v2_50.toInt < z22_.toInt) : -2147483648 ≤ 1 + v2_50.toInt ∧ 1 + v2_50.toInt < 2147483648 := by have r_v2_50 := rngI v2_50; have r_z22_ := rngI z22_; subst e23_; omega
theorem lf_c_X11_check_5    : 0 ≤ (0 : Int32).toInt := by have q0 := li_0; omega
set_option maxHeartbeats 4000000 in
set_option maxRecDepth 100000 in
theorem c_X11_check (l : Launch) (G : va_G) (cy : Nat → ClassId) (ad : rf → Nat) (d : Nat) (v : Int32) (Mz : mM) (hIz : Inv Mz) : WP CC l G cy ad yX11_check cX11_check 3 (some .int) (d + 7) 0 [(0, vR (11, 0, 0)), (1, vI v)] [] Mz (fun r M' => Inv M' ∧ FR (S_c_X11_check) Mz M' ∧ (True) ∧ SP_X11_check v Mz r M') := by
  have hFz : FR (S_c_X11_check) Mz Mz := FR.self
  refine w_aload_n dX11_check_0 rfl 0 rfl ?_
  refine w_getR (c' := (10, 0, 0)) fl_RX11_10 rfl rfl ic_11 dX11_check_1 rfl ?_
  refine w_iload_n dX11_check_4 rfl 1 rfl ?_
  refine w_callV (as := [vI v]) (rest := []) (c_X10_hasWalker l G cy ad (d + 6) 0 v Mz hIz (by first | decide | (unfold vF; omega) | (unfold vRw; omega))) kV_X10_hasWalker (by decide +kernel) (Nat.le_of_ble_eq_true rfl) m_609 rfl rfl rfl (ic_10 (by decide)) rfl rfl (by decide) (Nat.le_of_ble_eq_true rfl) dX11_check_5 (fun r1_ M2_ q3_ => ?_)
  obtain ⟨rfl, h4_, hs5_⟩ := q3_
  rcases h4_ with ⟨rfl, h4_⟩ | rfl
  · refine w_if_ne (tgt := 27) dX11_check_8 (by decide) li_1 (fun h6_ => ?_) (fun h9 => (absurd h9 (by decide)))
    refine w_aload_n dX11_check_27 rfl 0 rfl ?_
    refine w_getR (c' := (10, 2, 0)) fl_RX11_19 rfl rfl ic_11 dX11_check_28 rfl ?_
    refine w_aload_n dX11_check_31 rfl 0 rfl ?_
    refine w_getR (c' := (10, 0, 0)) fl_RX11_10 rfl rfl ic_11 dX11_check_32 rfl ?_
    refine w_callVv (as := [vR (10, 0, 0)]) (rest := []) (c_X10_takeFrom l G cy ad (d + 3) 2 0 Mz hIz (by first | decide | (unfold vF; omega) | (unfold vRw; omega)) (by first | decide | (unfold vF; omega) | (unfold vRw; omega))) kV_X10_takeFrom (by decide +kernel) (Nat.le_of_ble_eq_true rfl) m_1254 rfl rfl rfl (ic_10 (by decide)) rfl rfl (by decide) (Nat.le_of_ble_eq_true rfl) dX11_check_35 (fun M7_ q8_ => ?_)
    obtain ⟨hI10_, hF11_, h9_, hs13_⟩ := q8_
    have hF12_ := hFz.tr hF11_ (fun c k => (fun h => h.elim (fun h => (Or.inl ⟨h.1, h.2⟩)) (fun h => h.elim (fun h => (Or.inr (Or.inl ⟨h.1, h.2⟩))) (fun h => h.elim (fun h => (Or.inr (Or.inr (Or.inl ⟨h.1, h.2⟩)))) (fun h => h.elim (fun h => (Or.inr (Or.inr (Or.inr (Or.inl ⟨h.1, h.2⟩))))) (fun h => h.elim (fun h => (Or.inr (Or.inr (Or.inr (Or.inr (Or.inl ⟨h.1, h.2⟩)))))) (fun h => h.elim (fun h => (Or.inr (Or.inr (Or.inr (Or.inr (Or.inr (Or.inl ⟨h.1, h.2.1, h.2.2⟩))))))) (fun h => h.elim (fun h => (Or.inr (Or.inr (Or.inr (Or.inr (Or.inr (Or.inr (Or.inl ⟨h.1, h.2.1, h.2.2⟩)))))))) (fun h => h.elim (fun h => (Or.inr (Or.inr (Or.inr (Or.inr (Or.inr (Or.inr (Or.inr (Or.inl ⟨h.1, h.2.1, h.2.2⟩))))))))) (fun h => h.elim (fun h => (Or.inr (Or.inr (Or.inr (Or.inr (Or.inr (Or.inr (Or.inr (Or.inr (Or.inl ⟨h.1, h.2.1, h.2.2⟩)))))))))) (fun h => h.elim (fun h => (Or.inr (Or.inr (Or.inr (Or.inr (Or.inr (Or.inr (Or.inr (Or.inr (Or.inr (Or.inl ⟨h.1, h.2⟩))))))))))) (fun h => h.elim (fun h => (Or.inr (Or.inr (Or.inr (Or.inr (Or.inr (Or.inr (Or.inr (Or.inr (Or.inr (Or.inr (Or.inl ⟨h.1, h.2⟩)))))))))))) (fun h => h.elim (fun h => (Or.inr (Or.inr (Or.inr (Or.inr (Or.inr (Or.inr (Or.inr (Or.inr (Or.inr (Or.inr (Or.inr (Or.inl ⟨h.1, h.2.1, h.2.2⟩))))))))))))) (fun h => h.elim (fun h => (Or.inr (Or.inr (Or.inr (Or.inr (Or.inr (Or.inr (Or.inr (Or.inr (Or.inr (Or.inr (Or.inr (Or.inr (Or.inl ⟨h.1, h.2⟩)))))))))))))) (fun h => h.elim (fun h => (Or.inr (Or.inr (Or.inr (Or.inr (Or.inr (Or.inr (Or.inr (Or.inr (Or.inr (Or.inr (Or.inr (Or.inr (Or.inr (Or.inl ⟨h.1, h.2⟩))))))))))))))) (fun h => h.elim (fun h => (Or.inr (Or.inr (Or.inr (Or.inr (Or.inr (Or.inr (Or.inr (Or.inr (Or.inr (Or.inr (Or.inr (Or.inr (Or.inr (Or.inr (Or.inl ⟨h.1, h.2⟩)))))))))))))))) (fun h => h.elim (fun h => (Or.inr (Or.inr (Or.inr (Or.inr (Or.inr (Or.inr (Or.inr (Or.inr (Or.inr (Or.inr (Or.inr (Or.inr (Or.inr (Or.inr (Or.inr (Or.inl ⟨h.1, h.2⟩))))))))))))))))) (fun h => h.elim (fun h => (Or.inr (Or.inr (Or.inr (Or.inr (Or.inr (Or.inr (Or.inr (Or.inr (Or.inr (Or.inr (Or.inr (Or.inr (Or.inr (Or.inr (Or.inr (Or.inr (Or.inl ⟨h.1, h.2.1, h.2.2⟩)))))))))))))))))) (fun h => h.elim (fun h => (Or.inr (Or.inr (Or.inr (Or.inr (Or.inr (Or.inr (Or.inr (Or.inr (Or.inr (Or.inr (Or.inr (Or.inr (Or.inr (Or.inr (Or.inr (Or.inr (Or.inr (Or.inl ⟨h.1, h.2.1, h.2.2.1, h.2.2.2⟩))))))))))))))))))) (fun h => h.elim (fun h => (Or.inr (Or.inr (Or.inr (Or.inr (Or.inr (Or.inr (Or.inr (Or.inr (Or.inr (Or.inr (Or.inr (Or.inr (Or.inr (Or.inr (Or.inr (Or.inr (Or.inr (Or.inr (Or.inl ⟨h.1, h.2.1, h.2.2⟩)))))))))))))))))))) (fun h => h.elim (fun h => (Or.inr (Or.inr (Or.inr (Or.inr (Or.inr (Or.inr (Or.inr (Or.inr (Or.inr (Or.inr (Or.inr (Or.inr (Or.inr (Or.inr (Or.inr (Or.inr (Or.inr (Or.inr (Or.inr (Or.inl ⟨h.1, h.2.1, h.2.2.1, h.2.2.2⟩))))))))))))))))))))) (fun h => h.elim (fun h => (Or.inr (Or.inr (Or.inr (Or.inr (Or.inr (Or.inr (Or.inr (Or.inr (Or.inr (Or.inr (Or.inr (Or.inr (Or.inr (Or.inr (Or.inr (Or.inr (Or.inr (Or.inr (Or.inr (Or.inr (Or.inl ⟨h.1, h.2.1, h.2.2⟩)))))))))))))))))))))) (fun h => h.elim (fun h => (Or.inr (Or.inr (Or.inr (Or.inr (Or.inr (Or.inr (Or.inr (Or.inr (Or.inr (Or.inr (Or.inr (Or.inr (Or.inr (Or.inr (Or.inr (Or.inr (Or.inr (Or.inr (Or.inr (Or.inr (Or.inr (Or.inl ⟨h.1, h.2.1, h.2.2⟩))))))))))))))))))))))) (fun h => h.elim (fun h => (Or.inr (Or.inr (Or.inr (Or.inr (Or.inr (Or.inr (Or.inr (Or.inr (Or.inr (Or.inr (Or.inr (Or.inr (Or.inr (Or.inr (Or.inr (Or.inr (Or.inr (Or.inr (Or.inr (Or.inr (Or.inr (Or.inr (Or.inl ⟨h.1, h.2.1, h.2.2⟩)))))))))))))))))))))))) (fun h => h.elim (fun h => (Or.inr (Or.inr (Or.inr (Or.inr (Or.inr (Or.inr (Or.inr (Or.inr (Or.inr (Or.inr (Or.inr (Or.inr (Or.inr (Or.inr (Or.inr (Or.inr (Or.inr (Or.inr (Or.inr (Or.inr (Or.inr (Or.inr (Or.inr (Or.inl ⟨h.1, h.2.1, h.2.2⟩))))))))))))))))))))))))) (fun h => h.elim (fun h => (Or.inr (Or.inr (Or.inr (Or.inr (Or.inr (Or.inr (Or.inr (Or.inr (Or.inr (Or.inr (Or.inr (Or.inr (Or.inr (Or.inr (Or.inr (Or.inr (Or.inr (Or.inr (Or.inr (Or.inr (Or.inr (Or.inr (Or.inr (Or.inr (Or.inl ⟨h.1, h.2.1, h.2.2⟩)))))))))))))))))))))))))) (fun h => h.elim (fun h => (Or.inr (Or.inr (Or.inr (Or.inr (Or.inr (Or.inr (Or.inr (Or.inr (Or.inr (Or.inr (Or.inr (Or.inr (Or.inr (Or.inr (Or.inr (Or.inr (Or.inr (Or.inr (Or.inr (Or.inr (Or.inr (Or.inr (Or.inr (Or.inr (Or.inr (Or.inl ⟨h.1, h.2.1, h.2.2⟩))))))))))))))))))))))))))) (fun h => h.elim (fun h => (Or.inr (Or.inr (Or.inr (Or.inr (Or.inr (Or.inr (Or.inr (Or.inr (Or.inr (Or.inr (Or.inr (Or.inr (Or.inr (Or.inr (Or.inr (Or.inr (Or.inr (Or.inr (Or.inr (Or.inr (Or.inr (Or.inr (Or.inr (Or.inr (Or.inr (Or.inr (Or.inl ⟨h.1, h.2.1, h.2.2⟩)))))))))))))))))))))))))))) (fun h => h.elim (fun h => (Or.inr (Or.inr (Or.inr (Or.inr (Or.inr (Or.inr (Or.inr (Or.inr (Or.inr (Or.inr (Or.inr (Or.inr (Or.inr (Or.inr (Or.inr (Or.inr (Or.inr (Or.inr (Or.inr (Or.inr (Or.inr (Or.inr (Or.inr (Or.inr (Or.inr (Or.inr (Or.inr (Or.inl ⟨h.1, h.2.1, h.2.2⟩))))))))))))))))))))))))))))) (fun h => h.elim (fun h => (Or.inr (Or.inr (Or.inr (Or.inr (Or.inr (Or.inr (Or.inr (Or.inr (Or.inr (Or.inr (Or.inr (Or.inr (Or.inr (Or.inr (Or.inr (Or.inr (Or.inr (Or.inr (Or.inr (Or.inr (Or.inr (Or.inr (Or.inr (Or.inr (Or.inr (Or.inr (Or.inr (Or.inr (Or.inl ⟨h.1, h.2.1, h.2.2⟩)))))))))))))))))))))))))))))) (fun h => h.elim (fun h => (Or.inr (Or.inr (Or.inr (Or.inr (Or.inr (Or.inr (Or.inr (Or.inr (Or.inr (Or.inr (Or.inr (Or.inr (Or.inr (Or.inr (Or.inr (Or.inr (Or.inr (Or.inr (Or.inr (Or.inr (Or.inr (Or.inr (Or.inr (Or.inr (Or.inr (Or.inr (Or.inr (Or.inr (Or.inr (Or.inl ⟨h.1, h.2.1, h.2.2⟩))))))))))))))))))))))))))))))) (fun h => h.elim (fun h => (Or.inr (Or.inr (Or.inr (Or.inr (Or.inr (Or.inr (Or.inr (Or.inr (Or.inr (Or.inr (Or.inr (Or.inr (Or.inr (Or.inr (Or.inr (Or.inr (Or.inr (Or.inr (Or.inr (Or.inr (Or.inr (Or.inr (Or.inr (Or.inr (Or.inr (Or.inr (Or.inr (Or.inr (Or.inr (Or.inr (Or.inl ⟨h.1, h.2.1, h.2.2⟩)))))))))))))))))))))))))))))))) (fun h => h.elim (fun h => (Or.inr (Or.inr (Or.inr (Or.inr (Or.inr (Or.inr (Or.inr (Or.inr (Or.inr (Or.inr (Or.inr (Or.inr (Or.inr (Or.inr (Or.inr (Or.inr (Or.inr (Or.inr (Or.inr (Or.inr (Or.inr (Or.inr (Or.inr (Or.inr (Or.inr (Or.inr (Or.inr (Or.inr (Or.inr (Or.inr (Or.inr (Or.inl ⟨h.1, h.2.1, h.2.2⟩))))))))))))))))))))))))))))))))) (fun h => h.elim (fun h => (Or.inr (Or.inr (Or.inr (Or.inr (Or.inr (Or.inr (Or.inr (Or.inr (Or.inr (Or.inr (Or.inr (Or.inr (Or.inr (Or.inr (Or.inr (Or.inr (Or.inr (Or.inr (Or.inr (Or.inr (Or.inr (Or.inr (Or.inr (Or.inr (Or.inr (Or.inr (Or.inr (Or.inr (Or.inr (Or.inr (Or.inr (Or.inr (Or.inl ⟨h.1, h.2⟩)))))))))))))))))))))))))))))))))) (fun h => h.elim (fun h => (Or.inr (Or.inr (Or.inr (Or.inr (Or.inr (Or.inr (Or.inr (Or.inr (Or.inr (Or.inr (Or.inr (Or.inr (Or.inr (Or.inr (Or.inr (Or.inr (Or.inr (Or.inr (Or.inr (Or.inr (Or.inr (Or.inr (Or.inr (Or.inr (Or.inr (Or.inr (Or.inr (Or.inr (Or.inr (Or.inr (Or.inr (Or.inr (Or.inr (Or.inl ⟨h.1, h.2⟩))))))))))))))))))))))))))))))))))) (fun h => h.elim))))))))))))))))))))))))))))))))))))
    refine w_aload_n dX11_check_38 rfl 0 rfl ?_
    refine w_getR (c' := (10, 0, 0)) fl_RX11_10 rfl rfl ic_11 dX11_check_39 rfl ?_
    refine w_getR (c' := (5, 0, 1)) fl_RX11_385 rfl rfl (ic_10 (by decide)) dX11_check_42 rfl ?_
    refine w_callVv (as := []) (rest := []) (c_X5_clear l G cy ad (d + 6) 0 1 M7_ hI10_ (by first | decide | (unfold vF; omega) | (unfold vRw; omega))) kV_X5_clear (by decide +kernel) (Nat.le_of_ble_eq_true rfl) m_831 rfl rfl rfl (ic_5 (by unfold vRw; omega)) rfl rfl (by decide) (Nat.le_of_ble_eq_true rfl) dX11_check_45 (fun M14_ q15_ => ?_)
    obtain ⟨hI17_, hF18_, h16_, hs20_⟩ := q15_
    have hF19_ := hF12_.tr hF18_ (fun c k => (fun h => h.elim (fun h => (Or.inr (Or.inr (Or.inr (Or.inr (Or.inr (Or.inr (Or.inr (Or.inr (Or.inr (Or.inr (Or.inr (Or.inr (Or.inr (Or.inr (Or.inr (Or.inr (Or.inr (Or.inr (Or.inr (Or.inr (Or.inr (Or.inr (Or.inr (Or.inr (Or.inr (Or.inr (Or.inr (Or.inr (Or.inr (Or.inr (Or.inr (Or.inr (Or.inr (Or.inr (Or.inl ⟨h.1, h.2.1, h.2.2.1, h.2.2.2⟩)))))))))))))))))))))))))))))))))))) (fun h => h.elim)))
    refine w_iconst (v := 0) dX11_check_48 (by decide) ?_
    refine w_istore_n (ls' := [(2, vI 0), (0, vR (11, 0, 0)), (1, vI v)]) dX11_check_49 rfl (by decide) rfl ?_
    have lp21_ : ∀ (nn_50 : Nat) (M_50 : mM) (hI_50 : Inv M_50) (hF_50 : FR (S_c_X11_check) Mz M_50) (v2_50 : Int32) (hv0_50 : 0 ≤ v2_50.toInt) (hL_50 : RCH (fun x_ y_ => ST_X11_check_50 v Mz x_.1 x_.2 y_.1 y_.2) ((0 : Int32), M14_) (v2_50, M_50)), (2147483648 - v2_50.toInt).toNat < nn_50 → WP CC l G cy ad yX11_check cX11_check 3 (some .int) (d + 7) 50 [(2, vI v2_50), (0, vR (11, 0, 0)), (1, vI v)] [] M_50 (fun r M' => Inv M' ∧ FR (S_c_X11_check) Mz M' ∧ (True) ∧ SP_X11_check v Mz r M') := by
      intro nn_50
      induction nn_50 with
      | zero => intro M_50 hI_50 hF_50 v2_50 hv0_50 hL_50 hm_50; exact absurd hm_50 (Nat.not_lt_zero _)
      | succ nn_50 ih_50 =>
        intro M_50 hI_50 hF_50 v2_50 hv0_50 hL_50 hm_50
        refine w_iload_n dX11_check_50 rfl 0 rfl ?_
        refine w_aload_n dX11_check_51 rfl 1 rfl ?_
        refine w_getR (c' := (10, 2, 0)) fl_RX11_19 rfl rfl ic_11 dX11_check_52 rfl ?_
        refine w_getR (c' := (5, 2, 1)) fl_RX11_385 rfl rfl (ic_10 (by decide)) dX11_check_55 rfl ?_
        refine w_getI fl_RX11_205 rfl rfl (ic_5 (by unfold vRw; omega)) dX11_check_58 (fun z22_ e23_ => ?_)
        refine w_icmp_ge (tgt := 107) dX11_check_61 (by decide) (rfl : v2_50.toInt = v2_50.toInt) (rfl : z22_.toInt = z22_.toInt) (fun h24_ => ?_) (fun h24_ => ?_)
        · refine w_iconst (v := 0) dX11_check_107 (by decide) ?_
          exact w_iret rfl dX11_check_108 ⟨hI_50, hF_50, trivial, (Or.inl ⟨hs5_, h4_, M7_, hI10_, hF11_, hs13_, M14_, hI17_, hF18_, hs20_, v2_50, hv0_50, M_50, hL_50, hI_50, hF_50, z22_, e23_, (Or.inl ⟨h24_, rfl, rfl⟩)⟩)⟩
        · refine w_aload_n dX11_check_64 rfl 1 rfl ?_
          refine w_getR (c' := (10, 2, 0)) fl_RX11_19 rfl rfl ic_11 dX11_check_65 rfl ?_
          refine w_callVv (as := []) (rest := []) (c_X10_passTenth l G cy ad d 2 M_50 hI_50 (by first | decide | (unfold vF; omega) | (unfold vRw; omega))) kV_X10_passTenth (by decide +kernel) (Nat.le_of_ble_eq_true rfl) m_1025 rfl rfl rfl (ic_10 (by decide)) rfl rfl (by decide) (Nat.le_of_ble_eq_true rfl) dX11_check_68 (fun M25_ q26_ => ?_)
          obtain ⟨hI28_, hF29_, h27_, hs31_⟩ := q26_
          have hF30_ := hF_50.tr hF29_ (fun c k => (fun h => h.elim (fun h => (Or.inr (Or.inr (Or.inr (Or.inr (Or.inr (Or.inr (Or.inr (Or.inr (Or.inr (Or.inr (Or.inr (Or.inr (Or.inr (Or.inr (Or.inr (Or.inr (Or.inr (Or.inr (Or.inr (Or.inr (Or.inr (Or.inr (Or.inl ⟨h.1, h.2.1, h.2.2⟩)))))))))))))))))))))))) (fun h => h.elim (fun h => (Or.inl ⟨h.1, h.2⟩)) (fun h => h.elim (fun h => (Or.inr (Or.inr (Or.inl ⟨h.1, h.2⟩)))) (fun h => h.elim (fun h => (Or.inr (Or.inr (Or.inr (Or.inl ⟨h.1, h.2⟩))))) (fun h => h.elim (fun h => (Or.inr (Or.inr (Or.inr (Or.inr (Or.inr (Or.inr (Or.inr (Or.inr (Or.inr (Or.inr (Or.inr (Or.inr (Or.inr (Or.inr (Or.inr (Or.inr (Or.inr (Or.inr (Or.inr (Or.inr (Or.inr (Or.inr (Or.inr (Or.inr (Or.inr (Or.inr (Or.inr (Or.inr (Or.inr (Or.inr (Or.inr (Or.inr (Or.inr (Or.inr (Or.inr (Or.inl ⟨h.1, h.2.1, h.2.2⟩))))))))))))))))))))))))))))))))))))) (fun h => h.elim (fun h => (Or.inr (Or.inr (Or.inr (Or.inr (Or.inr (Or.inr (Or.inr (Or.inr (Or.inr (Or.inr (Or.inr (Or.inr (Or.inr (Or.inr (Or.inr (Or.inr (Or.inr (Or.inr (Or.inr (Or.inr (Or.inr (Or.inr (Or.inr (Or.inr (Or.inr (Or.inr (Or.inr (Or.inr (Or.inr (Or.inr (Or.inr (Or.inr (Or.inr (Or.inr (Or.inr (Or.inr (Or.inl ⟨h.1, h.2.1, h.2.2⟩)))))))))))))))))))))))))))))))))))))) (fun h => h.elim (fun h => (Or.inr (Or.inr (Or.inr (Or.inr (Or.inr (Or.inr (Or.inr (Or.inr (Or.inr (Or.inr (Or.inr (Or.inr (Or.inr (Or.inr (Or.inr (Or.inr (Or.inr (Or.inr (Or.inr (Or.inr (Or.inr (Or.inr (Or.inr (Or.inr (Or.inr (Or.inr (Or.inr (Or.inr (Or.inr (Or.inr (Or.inr (Or.inr (Or.inr (Or.inr (Or.inr (Or.inr (Or.inr (Or.inl ⟨h.1, h.2.1, h.2.2⟩))))))))))))))))))))))))))))))))))))))) (fun h => h.elim (fun h => (Or.inr (Or.inr (Or.inr (Or.inr (Or.inr (Or.inr (Or.inr (Or.inr (Or.inr (Or.inr (Or.inr (Or.inr (Or.inr (Or.inr (Or.inr (Or.inr (Or.inr (Or.inr (Or.inr (Or.inr (Or.inr (Or.inr (Or.inr (Or.inr (Or.inr (Or.inr (Or.inr (Or.inr (Or.inr (Or.inr (Or.inr (Or.inr (Or.inr (Or.inr (Or.inr (Or.inr (Or.inr (Or.inr (Or.inl ⟨h.1, h.2.1, h.2.2⟩)))))))))))))))))))))))))))))))))))))))) (fun h => h.elim (fun h => (Or.inr (Or.inr (Or.inr (Or.inr (Or.inr (Or.inr (Or.inr (Or.inr (Or.inr (Or.inr (Or.inr (Or.inr (Or.inr (Or.inr (Or.inr (Or.inr (Or.inr (Or.inr (Or.inr (Or.inr (Or.inr (Or.inr (Or.inr (Or.inr (Or.inr (Or.inr (Or.inr (Or.inr (Or.inr (Or.inr (Or.inr (Or.inr (Or.inr (Or.inr (Or.inr (Or.inr (Or.inr (Or.inr (Or.inr (Or.inl ⟨h.1, h.2.1, h.2.2⟩))))))))))))))))))))))))))))))))))))))))) (fun h => h.elim (fun h => (Or.inr (Or.inr (Or.inr (Or.inr (Or.inr (Or.inr (Or.inr (Or.inr (Or.inr (Or.inr (Or.inr (Or.inr (Or.inr (Or.inr (Or.inr (Or.inr (Or.inr (Or.inr (Or.inr (Or.inr (Or.inr (Or.inr (Or.inr (Or.inr (Or.inr (Or.inr (Or.inr (Or.inr (Or.inr (Or.inr (Or.inr (Or.inr (Or.inr (Or.inr (Or.inr (Or.inr (Or.inr (Or.inr (Or.inr (Or.inr (Or.inl ⟨h.1, h.2.1, h.2.2⟩)))))))))))))))))))))))))))))))))))))))))) (fun h => h.elim (fun h => (Or.inr (Or.inr (Or.inr (Or.inr (Or.inr (Or.inr (Or.inr (Or.inr (Or.inr (Or.inr (Or.inr (Or.inr (Or.inr (Or.inr (Or.inr (Or.inr (Or.inr (Or.inr (Or.inr (Or.inr (Or.inr (Or.inr (Or.inr (Or.inr (Or.inr (Or.inl ⟨h.1, h.2.1, h.2.2⟩))))))))))))))))))))))))))) (fun h => h.elim (fun h => (Or.inr (Or.inr (Or.inr (Or.inr (Or.inr (Or.inr (Or.inr (Or.inr (Or.inr (Or.inr (Or.inr (Or.inr (Or.inr (Or.inr (Or.inr (Or.inr (Or.inr (Or.inr (Or.inr (Or.inr (Or.inr (Or.inr (Or.inr (Or.inr (Or.inl ⟨h.1, h.2.1, h.2.2⟩)))))))))))))))))))))))))) (fun h => h.elim (fun h => (Or.inr (Or.inr (Or.inr (Or.inr (Or.inr (Or.inr (Or.inr (Or.inr (Or.inr (Or.inr (Or.inr (Or.inr (Or.inr (Or.inr (Or.inr (Or.inr (Or.inr (Or.inr (Or.inr (Or.inr (Or.inr (Or.inr (Or.inr (Or.inr (Or.inr (Or.inr (Or.inr (Or.inr (Or.inr (Or.inr (Or.inl ⟨h.1, h.2.1, h.2.2⟩)))))))))))))))))))))))))))))))) (fun h => h.elim (fun h => (Or.inr (Or.inr (Or.inr (Or.inr (Or.inr (Or.inr (Or.inr (Or.inr (Or.inr (Or.inr (Or.inr (Or.inr (Or.inr (Or.inr (Or.inr (Or.inr (Or.inr (Or.inr (Or.inr (Or.inr (Or.inr (Or.inr (Or.inr (Or.inr (Or.inr (Or.inr (Or.inr (Or.inr (Or.inr (Or.inr (Or.inr (Or.inr (Or.inl ⟨h.1, h.2⟩)))))))))))))))))))))))))))))))))) (fun h => h.elim (fun h => (Or.inr (Or.inr (Or.inr (Or.inr (Or.inr (Or.inr (Or.inr (Or.inr (Or.inr (Or.inr (Or.inr (Or.inr (Or.inr (Or.inr (Or.inr (Or.inr (Or.inr (Or.inr (Or.inr (Or.inr (Or.inr (Or.inr (Or.inr (Or.inr (Or.inr (Or.inr (Or.inr (Or.inr (Or.inr (Or.inr (Or.inr (Or.inl ⟨h.1, h.2.1, h.2.2⟩))))))))))))))))))))))))))))))))) (fun h => h.elim (fun h => (Or.inr (Or.inr (Or.inr (Or.inr (Or.inr (Or.inr (Or.inr (Or.inr (Or.inr (Or.inr (Or.inr (Or.inr (Or.inr (Or.inr (Or.inr (Or.inr (Or.inr (Or.inr (Or.inr (Or.inr (Or.inr (Or.inr (Or.inr (Or.inr (Or.inr (Or.inr (Or.inr (Or.inr (Or.inr (Or.inr (Or.inr (Or.inr (Or.inr (Or.inr (Or.inr (Or.inr (Or.inr (Or.inr (Or.inr (Or.inr (Or.inr (Or.inl ⟨h.1, h.2.1, h.2.2⟩))))))))))))))))))))))))))))))))))))))))))) (fun h => h.elim (fun h => (Or.inr (Or.inr (Or.inr (Or.inr (Or.inr (Or.inr (Or.inr (Or.inr (Or.inr (Or.inr (Or.inr (Or.inr (Or.inr (Or.inr (Or.inr (Or.inr (Or.inr (Or.inr (Or.inr (Or.inr (Or.inr (Or.inr (Or.inr (Or.inr (Or.inr (Or.inr (Or.inr (Or.inr (Or.inr (Or.inr (Or.inr (Or.inr (Or.inr (Or.inr (Or.inr (Or.inr (Or.inr (Or.inr (Or.inr (Or.inr (Or.inr (Or.inr (Or.inl ⟨h.1, h.2.1, h.2.2⟩)))))))))))))))))))))))))))))))))))))))))))) (fun h => h.elim (fun h => (Or.inr (Or.inr (Or.inr (Or.inr (Or.inr (Or.inr (Or.inr (Or.inr (Or.inr (Or.inr (Or.inr (Or.inr (Or.inr (Or.inr (Or.inr (Or.inr (Or.inr (Or.inr (Or.inr (Or.inr (Or.inr (Or.inr (Or.inr (Or.inr (Or.inr (Or.inr (Or.inr (Or.inr (Or.inr (Or.inr (Or.inr (Or.inr (Or.inr (Or.inl ⟨h.1, h.2⟩))))))))))))))))))))))))))))))))))) (fun h => h.elim))))))))))))))))))))
          refine w_aload_n dX11_check_71 rfl 1 rfl ?_
          refine w_getR (c' := (10, 2, 0)) fl_RX11_19 rfl rfl ic_11 dX11_check_72 rfl ?_
          refine w_getR (c' := (42, 2, 0)) fl_RX11_157 rfl rfl (ic_10 (by decide)) dX11_check_75 rfl ?_
          refine w_iload_n dX11_check_78 rfl 2 rfl ?_
          refine w_aald rfl rfl rfl (fun _ => rfl) (ic_42 (by decide)) (rfl : v.toInt = v.toInt) (lf_c_X11_check_0 v h4_) dX11_check_79 (fun j32_ h33_ h34_ => ?_)
          refine w_getI fl_RX11_229 rfl rfl (ic_9 (by decide) h34_) dX11_check_80 (fun z35_ e36_ => ?_)
          refine w_aload_n dX11_check_83 rfl 1 rfl ?_
          refine w_getR (c' := (10, 2, 0)) fl_RX11_19 rfl rfl ic_11 dX11_check_84 rfl ?_
          refine w_getR (c' := (5, 2, 1)) fl_RX11_385 rfl rfl (ic_10 (by decide)) dX11_check_87 rfl ?_
          refine w_iload_n dX11_check_90 rfl 0 rfl ?_
          refine w_callV (as := [vI v2_50]) (rest := [vI z35_]) (c_X5_get l G cy ad (d + 6) 2 1 v2_50 M25_ hI28_ (by first | decide | (unfold vF; omega) | (unfold vRw; omega))) kV_X5_get (by decide +kernel) (Nat.le_of_ble_eq_true rfl) m_1154 rfl rfl rfl (ic_5 (by unfold vRw; omega)) rfl rfl (by decide) (Nat.le_of_ble_eq_true rfl) dX11_check_91 (fun r37_ M38_ q39_ => ?_)
          obtain ⟨rfl, h40_, hs41_⟩ := q39_
          refine w_icmp_eq (tgt := 101) dX11_check_94 (by decide) (rfl : z35_.toInt = z35_.toInt) (rfl : r37_.toInt = r37_.toInt) (fun h42_ => ?_) (fun h42_ => ?_)
          · refine w_iincB (j := 0) (f := fun z43_ => [(2, vI z43_), (0, vR (11, 0, 0)), (1, vI v)]) dX11_check_101 rfl (by decide) (fun _ => rfl) (rfl : v2_50.toInt = v2_50.toInt) li_1 (lf_c_X11_check_1 M_50 v2_50 z22_ hv0_50 e23_ h24_) (fun z43_ h44_ => ?_)
            refine w_goto (tgt := 50) dX11_check_104 (by decide) ?_
            refine w_loc (ls' := [(2, vI z43_), (0, vR (11, 0, 0)), (1, vI v)]) [0, 1, 2] rfl ?_
            exact ih_50 M25_ hI28_ hF30_ z43_ (lf_c_X11_check_2 M_50 v2_50 z22_ z43_ hv0_50 e23_ h24_ h44_) (RCH.tail hL_50 ⟨hv0_50, hI_50, hF_50, z22_, e23_, h24_, M25_, hI28_, hF29_, hs31_, j32_, h33_, h34_, z35_, e36_, r37_, hs41_, h42_, z43_, h44_, rfl, rfl⟩) (Nat.lt_of_lt_of_le (lf_c_X11_check_3 M_50 v2_50 z22_ z43_ hv0_50 e23_ h24_ h44_) (Nat.le_of_lt_succ hm_50))
          · refine w_iconst (v := 1) dX11_check_97 (by decide) ?_
            refine w_iload_n dX11_check_98 rfl 0 rfl ?_
            refine w_iaddB dX11_check_99 li_1 (rfl : v2_50.toInt = v2_50.toInt) (lf_c_X11_check_4 M_50 v2_50 z22_ hv0_50 e23_ h24_) (fun z45_ h46_ => ?_)
            exact w_iret rfl dX11_check_100 ⟨hI28_, hF30_, trivial, (Or.inl ⟨hs5_, h4_, M7_, hI10_, hF11_, hs13_, M14_, hI17_, hF18_, hs20_, v2_50, hv0_50, M_50, hL_50, hI_50, hF_50, z22_, e23_, (Or.inr ⟨h24_, M25_, hI28_, hF29_, hs31_, j32_, h33_, h34_, z35_, e36_, r37_, hs41_, h42_, z45_, h46_, rfl, rfl⟩)⟩)⟩
    exact lp21_ _ M14_ hI17_ hF19_ 0 (lf_c_X11_check_5 ) RCH.refl (Nat.lt_succ_self _)
  · refine w_if_ne (tgt := 27) dX11_check_8 (by decide) li_0 (fun h9 => (absurd h9 (by decide))) (fun h47_ => ?_)
    refine w_aload_n dX11_check_11 rfl 0 rfl ?_
    refine w_getR (c' := (10, 0, 0)) fl_RX11_10 rfl rfl ic_11 dX11_check_12 rfl ?_
    refine w_getR (c' := (5, 0, 1)) fl_RX11_385 rfl rfl (ic_10 (by decide)) dX11_check_15 rfl ?_
    refine w_callVv (as := []) (rest := []) (c_X5_clear l G cy ad (d + 6) 0 1 Mz hIz (by first | decide | (unfold vF; omega) | (unfold vRw; omega))) kV_X5_clear (by decide +kernel) (Nat.le_of_ble_eq_true rfl) m_831 rfl rfl rfl (ic_5 (by unfold vRw; omega)) rfl rfl (by decide) (Nat.le_of_ble_eq_true rfl) dX11_check_18 (fun M48_ q49_ => ?_)
    obtain ⟨hI51_, hF52_, h50_, hs54_⟩ := q49_
    have hF53_ := hFz.tr hF52_ (fun c k => (fun h => h.elim (fun h => (Or.inr (Or.inr (Or.inr (Or.inr (Or.inr (Or.inr (Or.inr (Or.inr (Or.inr (Or.inr (Or.inr (Or.inr (Or.inr (Or.inr (Or.inr (Or.inr (Or.inr (Or.inr (Or.inr (Or.inr (Or.inr (Or.inr (Or.inr (Or.inr (Or.inr (Or.inr (Or.inr (Or.inr (Or.inr (Or.inr (Or.inr (Or.inr (Or.inr (Or.inr (Or.inl ⟨h.1, h.2.1, h.2.2.1, h.2.2.2⟩)))))))))))))))))))))))))))))))))))) (fun h => h.elim)))
    refine w_aload_n dX11_check_21 rfl 0 rfl ?_
    refine w_iconst (v := 1) dX11_check_22 (by decide) ?_
    refine w_callV (as := [vI 1]) (rest := []) (c_X11_error l G cy ad (d + 6) 1 M48_ hI51_) kV_X11_error (by decide +kernel) (Nat.le_of_ble_eq_true rfl) m_500 rfl rfl rfl ic_11 rfl rfl (by decide) (Nat.le_of_ble_eq_true rfl) dX11_check_23 (fun r55_ M56_ q57_ => ?_)
    obtain ⟨hI59_, hF60_, h58_, hs62_⟩ := q57_
    have hF61_ := hF53_.tr hF60_ (fun c k => (fun h => h.elim (fun h => (Or.inr (Or.inr (Or.inr (Or.inr (Or.inr (Or.inr (Or.inr (Or.inr (Or.inr (Or.inr (Or.inr (Or.inr (Or.inr (Or.inr (Or.inr (Or.inr (Or.inr (Or.inr (Or.inr (Or.inr (Or.inr (Or.inr (Or.inr (Or.inr (Or.inr (Or.inr (Or.inr (Or.inr (Or.inr (Or.inr (Or.inr (Or.inr (Or.inr (Or.inr (Or.inr (Or.inr (Or.inr (Or.inr (Or.inr (Or.inr (Or.inr (Or.inr (Or.inr (Or.inl ⟨h.1, h.2⟩))))))))))))))))))))))))))))))))))))))))))))) (fun h => h.elim)))
    exact w_iret rfl dX11_check_26 ⟨hI59_, hF61_, trivial, (Or.inr ⟨hs5_, M48_, hI51_, hF52_, hs54_, M56_, hI59_, hF60_, r55_, hs62_, rfl, rfl⟩)⟩
def S_c_X11_count : rf → Nat → Prop := fun c k => (c.1 = 44 ∧ c.2.1 = 0) ∨ False
def SP_X11_count (v : Int32) (Mz : mM) (r_ : Int32) (M_ : mM) : Prop := (((v.toInt = 0) ∧ ∃ z2_ : Int32, (z2_ = Mz.1 (10, 0, 0) 7) ∧ r_ = z2_ ∧ M_ = Mz) ∨ ((v.toInt = 1) ∧ ∃ r4_ : Int32, (SP_X7_countThings 0 Mz r4_) ∧ r_ = r4_ ∧ M_ = Mz) ∨ ((v.toInt = 2) ∧ ∃ z9_ : Int32, (z9_ = Mz.1 (10, 0, 0) 6) ∧ r_ = z9_ ∧ M_ = Mz) ∨ ((v.toInt = 3) ∧ ∃ z11_ : Int32, (z11_ = Mz.1 (3, 0, 0) 3) ∧ r_ = z11_ ∧ M_ = Mz) ∨ ((v.toInt = 4) ∧ ∃ z13_ : Int32, (z13_ = Mz.1 (5, 0, 0) 1) ∧ r_ = z13_ ∧ M_ = Mz) ∨ ((v.toInt = 5) ∧ ∃ z15_ : Int32, (z15_ = Mz.1 (5, 0, 1) 1) ∧ r_ = z15_ ∧ M_ = Mz) ∨ ((v.toInt = 6) ∧ ∃ z17_ : Int32, (z17_ = Mz.1 (5, 3, 5) 1) ∧ r_ = z17_ ∧ M_ = Mz) ∨ ((v.toInt = 7) ∧ ∃ r19_ : Int32, (SP_X10_countBumps 0 Mz r19_) ∧ r_ = r19_ ∧ M_ = Mz) ∨ ((v.toInt = 8) ∧ ∃ r24_ : Int32, (SP_X10_countClicks 0 Mz r24_) ∧ r_ = r24_ ∧ M_ = Mz) ∨ (((¬ v.toInt = 0 ∧ ¬ v.toInt = 1 ∧ ¬ v.toInt = 2 ∧ ¬ v.toInt = 3 ∧ ¬ v.toInt = 4 ∧ ¬ v.toInt = 5 ∧ ¬ v.toInt = 6 ∧ ¬ v.toInt = 7 ∧ ¬ v.toInt = 8)) ∧ ∃ M30_ : mM, (Inv M30_) ∧ (FR (S_c_X11_error) Mz M30_) ∧ ∃ r29_ : Int32, (SP_X11_error 1 Mz r29_ M30_) ∧ r_ = r29_ ∧ M_ = M30_))
theorem lf_c_X11_count_0  (v : Int32)  : v.toInt = 0 ∨ v.toInt = 1 ∨ v.toInt = 2 ∨ v.toInt = 3 ∨ v.toInt = 4 ∨ v.toInt = 5 ∨ v.toInt = 6 ∨ v.toInt = 7 ∨ v.toInt = 8 ∨ (¬ v.toInt = 0 ∧ ¬ v.toInt = 1 ∧ ¬ v.toInt = 2 ∧ ¬ v.toInt = 3 ∧ ¬ v.toInt = 4 ∧ ¬ v.toInt = 5 ∧ ¬ v.toInt = 6 ∧ ¬ v.toInt = 7 ∧ ¬ v.toInt = 8) := by have r_v := rngI v; omega
theorem lf_c_X11_count_1  (v : Int32) (e1_ : (¬ v.toInt = 0 ∧ ¬ v.toInt = 1 ∧ ¬ v.toInt = 2 ∧ ¬ v.toInt = 3 ∧ ¬ v.toInt = 4 ∧ ¬ v.toInt = 5 ∧ ¬ v.toInt = 6 ∧ ¬ v.toInt = 7 ∧ ¬ v.toInt = 8)) : v.toInt < 0 ∨ 8 < v.toInt := by have r_v := rngI v; omega
set_option maxHeartbeats 4000000 in
set_option maxRecDepth 100000 in
theorem c_X11_count (l : Launch) (G : va_G) (cy : Nat → ClassId) (ad : rf → Nat) (d : Nat) (v : Int32) (Mz : mM) (hIz : Inv Mz) : WP CC l G cy ad yX11_count cX11_count 2 (some .int) (d + 1) 0 [(0, vR (11, 0, 0)), (1, vI v)] [] Mz (fun r M' => Inv M' ∧ FR (S_c_X11_count) Mz M' ∧ (True) ∧ SP_X11_count v Mz r M') := by
  have hFz : FR (S_c_X11_count) Mz Mz := FR.self
  refine w_iload_n dX11_count_0 rfl 1 rfl ?_
  rcases (lf_c_X11_count_0 v) with e1_ | e1_ | e1_ | e1_ | e1_ | e1_ | e1_ | e1_ | e1_ | e1_
  · refine w_tsIn (tgt := 52) (off := 51) dX11_count_1 e1_ (by decide) (by decide) rfl (by decide) ?_
    refine w_aload_n dX11_count_52 rfl 0 rfl ?_
    refine w_getR (c' := (10, 0, 0)) fl_RX11_10 rfl rfl ic_11 dX11_count_53 rfl ?_
    refine w_getI fl_RX11_290 rfl rfl (ic_10 (by decide)) dX11_count_56 (fun z2_ e3_ => ?_)
    exact w_iret rfl dX11_count_59 ⟨hIz, hFz, trivial, (Or.inl ⟨e1_, z2_, e3_, rfl, rfl⟩)⟩
  · refine w_tsIn (tgt := 60) (off := 59) dX11_count_1 e1_ (by decide) (by decide) rfl (by decide) ?_
    refine w_aload_n dX11_count_60 rfl 0 rfl ?_
    refine w_getR (c' := (10, 0, 0)) fl_RX11_10 rfl rfl ic_11 dX11_count_61 rfl ?_
    refine w_getR (c' := (7, 0, 0)) fl_RX11_71 rfl rfl (ic_10 (by decide)) dX11_count_64 rfl ?_
    refine w_callV (as := []) (rest := []) (c_X7_countThings l G cy ad d 0 Mz hIz (by first | decide | (unfold vF; omega) | (unfold vRw; omega))) kV_X7_countThings (by decide +kernel) (Nat.le_of_ble_eq_true rfl) m_1296 rfl rfl rfl (ic_7 (by decide)) rfl rfl (by decide) (Nat.le_of_ble_eq_true rfl) dX11_count_67 (fun r4_ M5_ q6_ => ?_)
    obtain ⟨rfl, h7_, hs8_⟩ := q6_
    exact w_iret rfl dX11_count_70 ⟨hIz, hFz, trivial, (Or.inr (Or.inl ⟨e1_, r4_, hs8_, rfl, rfl⟩))⟩
  · refine w_tsIn (tgt := 71) (off := 70) dX11_count_1 e1_ (by decide) (by decide) rfl (by decide) ?_
    refine w_aload_n dX11_count_71 rfl 0 rfl ?_
    refine w_getR (c' := (10, 0, 0)) fl_RX11_10 rfl rfl ic_11 dX11_count_72 rfl ?_
    refine w_getI fl_RX11_148 rfl rfl (ic_10 (by decide)) dX11_count_75 (fun z9_ e10_ => ?_)
    exact w_iret rfl dX11_count_78 ⟨hIz, hFz, trivial, (Or.inr (Or.inr (Or.inl ⟨e1_, z9_, e10_, rfl, rfl⟩)))⟩
  · refine w_tsIn (tgt := 79) (off := 78) dX11_count_1 e1_ (by decide) (by decide) rfl (by decide) ?_
    refine w_aload_n dX11_count_79 rfl 0 rfl ?_
    refine w_getR (c' := (10, 0, 0)) fl_RX11_10 rfl rfl ic_11 dX11_count_80 rfl ?_
    refine w_getR (c' := (3, 0, 0)) fl_RX11_313 rfl rfl (ic_10 (by decide)) dX11_count_83 rfl ?_
    refine w_getI fl_RX11_391 rfl rfl (ic_3 (by decide)) dX11_count_86 (fun z11_ e12_ => ?_)
    exact w_iret rfl dX11_count_89 ⟨hIz, hFz, trivial, (Or.inr (Or.inr (Or.inr (Or.inl ⟨e1_, z11_, e12_, rfl, rfl⟩))))⟩
  · refine w_tsIn (tgt := 90) (off := 89) dX11_count_1 e1_ (by decide) (by decide) rfl (by decide) ?_
    refine w_aload_n dX11_count_90 rfl 0 rfl ?_
    refine w_getR (c' := (10, 0, 0)) fl_RX11_10 rfl rfl ic_11 dX11_count_91 rfl ?_
    refine w_getR (c' := (5, 0, 0)) fl_RX11_192 rfl rfl (ic_10 (by decide)) dX11_count_94 rfl ?_
    refine w_getI fl_RX11_205 rfl rfl (ic_5 (by unfold vRw; omega)) dX11_count_97 (fun z13_ e14_ => ?_)
    exact w_iret rfl dX11_count_100 ⟨hIz, hFz, trivial, (Or.inr (Or.inr (Or.inr (Or.inr (Or.inl ⟨e1_, z13_, e14_, rfl, rfl⟩)))))⟩
  · refine w_tsIn (tgt := 101) (off := 100) dX11_count_1 e1_ (by decide) (by decide) rfl (by decide) ?_
    refine w_aload_n dX11_count_101 rfl 0 rfl ?_
    refine w_getR (c' := (10, 0, 0)) fl_RX11_10 rfl rfl ic_11 dX11_count_102 rfl ?_
    refine w_getR (c' := (5, 0, 1)) fl_RX11_385 rfl rfl (ic_10 (by decide)) dX11_count_105 rfl ?_
    refine w_getI fl_RX11_205 rfl rfl (ic_5 (by unfold vRw; omega)) dX11_count_108 (fun z15_ e16_ => ?_)
    exact w_iret rfl dX11_count_111 ⟨hIz, hFz, trivial, (Or.inr (Or.inr (Or.inr (Or.inr (Or.inr (Or.inl ⟨e1_, z15_, e16_, rfl, rfl⟩))))))⟩
  · refine w_tsIn (tgt := 112) (off := 111) dX11_count_1 e1_ (by decide) (by decide) rfl (by decide) ?_
    refine w_aload_n dX11_count_112 rfl 0 rfl ?_
    refine w_getR (c' := (8, 0, 0)) fl_RX11_49 rfl rfl ic_11 dX11_count_113 rfl ?_
    refine w_getR (c' := (5, 3, 5)) fl_RX11_353 rfl rfl ic_8 dX11_count_116 rfl ?_
    refine w_getI fl_RX11_205 rfl rfl (ic_5 (by unfold vRw; omega)) dX11_count_119 (fun z17_ e18_ => ?_)
    exact w_iret rfl dX11_count_122 ⟨hIz, hFz, trivial, (Or.inr (Or.inr (Or.inr (Or.inr (Or.inr (Or.inr (Or.inl ⟨e1_, z17_, e18_, rfl, rfl⟩)))))))⟩
  · refine w_tsIn (tgt := 123) (off := 122) dX11_count_1 e1_ (by decide) (by decide) rfl (by decide) ?_
    refine w_aload_n dX11_count_123 rfl 0 rfl ?_
    refine w_getR (c' := (10, 0, 0)) fl_RX11_10 rfl rfl ic_11 dX11_count_124 rfl ?_
    refine w_callV (as := []) (rest := []) (c_X10_countBumps l G cy ad d 0 Mz hIz (by first | decide | (unfold vF; omega) | (unfold vRw; omega))) kV_X10_countBumps (by decide +kernel) (Nat.le_of_ble_eq_true rfl) m_1300 rfl rfl rfl (ic_10 (by decide)) rfl rfl (by decide) (Nat.le_of_ble_eq_true rfl) dX11_count_127 (fun r19_ M20_ q21_ => ?_)
    obtain ⟨rfl, h22_, hs23_⟩ := q21_
    exact w_iret rfl dX11_count_130 ⟨hIz, hFz, trivial, (Or.inr (Or.inr (Or.inr (Or.inr (Or.inr (Or.inr (Or.inr (Or.inl ⟨e1_, r19_, hs23_, rfl, rfl⟩))))))))⟩
  · refine w_tsIn (tgt := 131) (off := 130) dX11_count_1 e1_ (by decide) (by decide) rfl (by decide) ?_
    refine w_aload_n dX11_count_131 rfl 0 rfl ?_
    refine w_getR (c' := (10, 0, 0)) fl_RX11_10 rfl rfl ic_11 dX11_count_132 rfl ?_
    refine w_callV (as := []) (rest := []) (c_X10_countClicks l G cy ad d 0 Mz hIz (by first | decide | (unfold vF; omega) | (unfold vRw; omega))) kV_X10_countClicks (by decide +kernel) (Nat.le_of_ble_eq_true rfl) m_1304 rfl rfl rfl (ic_10 (by decide)) rfl rfl (by decide) (Nat.le_of_ble_eq_true rfl) dX11_count_135 (fun r24_ M25_ q26_ => ?_)
    obtain ⟨rfl, h27_, hs28_⟩ := q26_
    exact w_iret rfl dX11_count_138 ⟨hIz, hFz, trivial, (Or.inr (Or.inr (Or.inr (Or.inr (Or.inr (Or.inr (Or.inr (Or.inr (Or.inl ⟨e1_, r24_, hs28_, rfl, rfl⟩)))))))))⟩
  · refine w_tsOut (tgt := 139) dX11_count_1 rfl (lf_c_X11_count_1 v e1_) (by decide) ?_
    refine w_aload_n dX11_count_139 rfl 0 rfl ?_
    refine w_iconst (v := 1) dX11_count_140 (by decide) ?_
    refine w_callV (as := [vI 1]) (rest := []) (c_X11_error l G cy ad d 1 Mz hIz) kV_X11_error (by decide +kernel) (Nat.le_of_ble_eq_true rfl) m_500 rfl rfl rfl ic_11 rfl rfl (by decide) (Nat.le_of_ble_eq_true rfl) dX11_count_141 (fun r29_ M30_ q31_ => ?_)
    obtain ⟨hI33_, hF34_, h32_, hs36_⟩ := q31_
    have hF35_ := hFz.tr hF34_ (fun c k => (fun h => h.elim (fun h => (Or.inl ⟨h.1, h.2⟩)) (fun h => h.elim)))
    exact w_iret rfl dX11_count_144 ⟨hI33_, hF35_, trivial, (Or.inr (Or.inr (Or.inr (Or.inr (Or.inr (Or.inr (Or.inr (Or.inr (Or.inr ⟨e1_, M30_, hI33_, hF34_, r29_, hs36_, rfl, rfl⟩)))))))))⟩
def S_c_X11_told : rf → Nat → Prop := fun c k => (c.1 = 44 ∧ c.2.1 = 0) ∨ False
def SP_X11_told (v : Int32) (Mz : mM) (r_ : Int32) (M_ : mM) : Prop := (((SP_X11_within v 1 6 Mz (1 : Int32)) ∧ (1 ≤ v.toInt ∧ v.toInt ≤ 6) ∧ ∃ j9_ : Nat, ((j9_ : Int) = v.toInt) ∧ ∃ z7_ : Int32, (z7_ = Mz.1 (44, 0, 0) j9_) ∧ r_ = z7_ ∧ M_ = Mz) ∨ ((SP_X11_within v 1 6 Mz (0 : Int32)) ∧ (¬ (1 ≤ v.toInt ∧ v.toInt ≤ 6)) ∧ ∃ M13_ : mM, (Inv M13_) ∧ (FR (S_c_X11_error) Mz M13_) ∧ ∃ r12_ : Int32, (SP_X11_error 1 Mz r12_ M13_) ∧ r_ = r12_ ∧ M_ = M13_))
theorem lf_c_X11_told_0  (v : Int32) (h4_ : 1 ≤ v.toInt ∧ v.toInt ≤ 6) : 0 ≤ v.toInt ∧ v.toInt < ((7 : Nat) : Int) := by have r_v := rngI v; omega
set_option maxHeartbeats 4000000 in
set_option maxRecDepth 100000 in
theorem c_X11_told (l : Launch) (G : va_G) (cy : Nat → ClassId) (ad : rf → Nat) (d : Nat) (v : Int32) (Mz : mM) (hIz : Inv Mz) : WP CC l G cy ad yX11_told cX11_told 2 (some .int) (d + 1) 0 [(0, vR (11, 0, 0)), (1, vI v)] [] Mz (fun r M' => Inv M' ∧ FR (S_c_X11_told) Mz M' ∧ (True) ∧ SP_X11_told v Mz r M') := by
  have hFz : FR (S_c_X11_told) Mz Mz := FR.self
  refine w_iload_n dX11_told_0 rfl 1 rfl ?_
  refine w_iconst (v := 1) dX11_told_1 (by decide) ?_
  refine w_bipush (v := 6) dX11_told_2 (by decide) ?_
  refine w_callS (as := [vI v, vI 1, vI 6]) (rest := []) (c_X11_within l G cy ad d v 1 6 Mz hIz) kS_X11_within (by decide +kernel) (Nat.le_of_ble_eq_true rfl) m_494 rfl rfl (by decide) (Nat.le_of_ble_eq_true rfl) dX11_told_4 (fun r1_ M2_ q3_ => ?_)
  obtain ⟨rfl, h4_, hs5_⟩ := q3_
  rcases h4_ with ⟨rfl, h4_⟩ | ⟨rfl, h4_⟩
  · simp only [li_1, li_6] at h4_
    refine w_if_eq (tgt := 19) dX11_told_7 (by decide) li_1 (fun h9 => (absurd h9 (by decide))) (fun h6_ => ?_)
    refine w_aload_n dX11_told_10 rfl 0 rfl ?_
    refine w_getR (c' := (44, 0, 0)) fl_RX11_28 rfl rfl ic_11 dX11_told_11 rfl ?_
    refine w_iload_n dX11_told_14 rfl 1 rfl ?_
    refine w_iald rfl rfl ic_44 (rfl : v.toInt = v.toInt) (lf_c_X11_told_0 v h4_) dX11_told_15 (fun j9_ h10_ z7_ e8_ => ?_)
    refine w_goto (tgt := 24) dX11_told_16 (by decide) ?_
    exact w_iret rfl dX11_told_24 ⟨hIz, hFz, trivial, (Or.inl ⟨hs5_, h4_, j9_, h10_, z7_, e8_, rfl, rfl⟩)⟩
  · simp only [li_1, li_6] at h4_
    refine w_if_eq (tgt := 19) dX11_told_7 (by decide) li_0 (fun h11_ => ?_) (fun h9 => (absurd h9 (by decide)))
    refine w_aload_n dX11_told_19 rfl 0 rfl ?_
    refine w_iconst (v := 1) dX11_told_20 (by decide) ?_
    refine w_callV (as := [vI 1]) (rest := []) (c_X11_error l G cy ad d 1 Mz hIz) kV_X11_error (by decide +kernel) (Nat.le_of_ble_eq_true rfl) m_500 rfl rfl rfl ic_11 rfl rfl (by decide) (Nat.le_of_ble_eq_true rfl) dX11_told_21 (fun r12_ M13_ q14_ => ?_)
    obtain ⟨hI16_, hF17_, h15_, hs19_⟩ := q14_
    have hF18_ := hFz.tr hF17_ (fun c k => (fun h => h.elim (fun h => (Or.inl ⟨h.1, h.2⟩)) (fun h => h.elim)))
    exact w_iret rfl dX11_told_24 ⟨hI16_, hF18_, trivial, (Or.inr ⟨hs5_, h4_, M13_, hI16_, hF17_, r12_, hs19_, rfl, rfl⟩)⟩
