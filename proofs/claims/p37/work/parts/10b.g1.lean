theorem lf_c_X11_within_0  (v : Int32) (lo : Int32) (hi : Int32) (h1_ : v.toInt < lo.toInt) : ¬ (lo.toInt ≤ v.toInt ∧ v.toInt ≤ hi.toInt) := by have r_v := rngI v; have r_lo := rngI lo; have r_hi := rngI hi; omega
theorem lf_c_X11_within_1  (v : Int32) (lo : Int32) (hi : Int32) (h1_ : lo.toInt ≤ v.toInt) (h2_ : hi.toInt < v.toInt) : ¬ (lo.toInt ≤ v.toInt ∧ v.toInt ≤ hi.toInt) := by have r_v := rngI v; have r_lo := rngI lo; have r_hi := rngI hi; omega
theorem lf_c_X11_within_2  (v : Int32) (lo : Int32) (hi : Int32) (h1_ : lo.toInt ≤ v.toInt) (h2_ : v.toInt ≤ hi.toInt) : lo.toInt ≤ v.toInt ∧ v.toInt ≤ hi.toInt := by have r_v := rngI v; have r_lo := rngI lo; have r_hi := rngI hi; omega
set_option maxHeartbeats 4000000 in
set_option maxRecDepth 100000 in
theorem c_X11_within (l : Launch) (G : va_G) (cy : Nat → ClassId) (ad : rf → Nat) (d : Nat) (v : Int32) (lo : Int32) (hi : Int32) (Mz : mM) (hIz : Inv Mz) : WP CC l G cy ad yX11_within cX11_within 3 (some .boolean) d 0 [(0, vI v), (1, vI lo), (2, vI hi)] [] Mz (fun r M' => Mz = M' ∧ ((r = 1 ∧ lo.toInt ≤ v.toInt ∧ v.toInt ≤ hi.toInt) ∨ (r = 0 ∧ ¬ (lo.toInt ≤ v.toInt ∧ v.toInt ≤ hi.toInt)))) := by
  refine w_iload_n dX11_within_0 rfl 0 rfl ?_
  refine w_iload_n dX11_within_1 rfl 1 rfl ?_
  refine w_icmp_lt (tgt := 14) dX11_within_2 (by decide) (rfl : v.toInt = v.toInt) (rfl : lo.toInt = lo.toInt) (fun h1_ => ?_) (fun h1_ => ?_)
  · refine w_iconst (v := 0) dX11_within_14 (by decide) ?_
    exact w_zret rfl dX11_within_15 ⟨by decide, by decide⟩ ⟨rfl, (Or.inr ⟨rfl, (lf_c_X11_within_0 v lo hi h1_)⟩)⟩
  · refine w_iload_n dX11_within_5 rfl 0 rfl ?_
    refine w_iload_n dX11_within_6 rfl 2 rfl ?_
    refine w_icmp_gt (tgt := 14) dX11_within_7 (by decide) (rfl : v.toInt = v.toInt) (rfl : hi.toInt = hi.toInt) (fun h2_ => ?_) (fun h2_ => ?_)
    · refine w_iconst (v := 0) dX11_within_14 (by decide) ?_
      exact w_zret rfl dX11_within_15 ⟨by decide, by decide⟩ ⟨rfl, (Or.inr ⟨rfl, (lf_c_X11_within_1 v lo hi h1_ h2_)⟩)⟩
    · refine w_iconst (v := 1) dX11_within_10 (by decide) ?_
      refine w_goto (tgt := 15) dX11_within_11 (by decide) ?_
      exact w_zret rfl dX11_within_15 ⟨by decide, by decide⟩ ⟨rfl, (Or.inl ⟨rfl, (lf_c_X11_within_2 v lo hi h1_ h2_)⟩)⟩
set_option maxHeartbeats 4000000 in
set_option maxRecDepth 100000 in
theorem c_X11_isThingKind (l : Launch) (G : va_G) (cy : Nat → ClassId) (ad : rf → Nat) (d : Nat) (v : Int32) (Mz : mM) (hIz : Inv Mz) : WP CC l G cy ad yX11_isThingKind cX11_isThingKind 1 (some .boolean) (d + 1) 0 [(0, vI v)] [] Mz (fun r M' => Mz = M' ∧ ((r = 1 ∧ 0 ≤ v.toInt ∧ v.toInt ≤ 4) ∨ (r = 0 ∧ ¬ (0 ≤ v.toInt ∧ v.toInt ≤ 4)))) := by
  refine w_iload_n dX11_isThingKind_0 rfl 0 rfl ?_
  refine w_iconst (v := 0) dX11_isThingKind_1 (by decide) ?_
  refine w_iconst (v := 4) dX11_isThingKind_2 (by decide) ?_
  refine w_callS (as := [vI v, vI 0, vI 4]) (rest := []) (c_X11_within l G cy ad d v 0 4 Mz hIz) kS_X11_within (by decide +kernel) (Nat.le_of_ble_eq_true rfl) m_494 rfl rfl (by decide) (Nat.le_of_ble_eq_true rfl) dX11_isThingKind_3 (fun r1_ M2_ q3_ => ?_)
  obtain ⟨rfl, h4_⟩ := q3_
  rcases h4_ with ⟨rfl, h4_⟩ | ⟨rfl, h4_⟩
  · simp only [li_0, li_4] at h4_
    exact w_zret rfl dX11_isThingKind_6 ⟨by decide, by decide⟩ ⟨rfl, (Or.inl ⟨rfl, h4_⟩)⟩
  · simp only [li_0, li_4] at h4_
    exact w_zret rfl dX11_isThingKind_6 ⟨by decide, by decide⟩ ⟨rfl, (Or.inr ⟨rfl, h4_⟩)⟩
set_option maxHeartbeats 4000000 in
set_option maxRecDepth 100000 in
theorem c_X11_isWalkerKind (l : Launch) (G : va_G) (cy : Nat → ClassId) (ad : rf → Nat) (d : Nat) (v : Int32) (Mz : mM) (hIz : Inv Mz) : WP CC l G cy ad yX11_isWalkerKind cX11_isWalkerKind 1 (some .boolean) (d + 1) 0 [(0, vI v)] [] Mz (fun r M' => Mz = M' ∧ ((r = 1 ∧ 0 ≤ v.toInt ∧ v.toInt ≤ 7) ∨ (r = 0 ∧ ¬ (0 ≤ v.toInt ∧ v.toInt ≤ 7)))) := by
  refine w_iload_n dX11_isWalkerKind_0 rfl 0 rfl ?_
  refine w_iconst (v := 0) dX11_isWalkerKind_1 (by decide) ?_
  refine w_bipush (v := 7) dX11_isWalkerKind_2 (by decide) ?_
  refine w_callS (as := [vI v, vI 0, vI 7]) (rest := []) (c_X11_within l G cy ad d v 0 7 Mz hIz) kS_X11_within (by decide +kernel) (Nat.le_of_ble_eq_true rfl) m_494 rfl rfl (by decide) (Nat.le_of_ble_eq_true rfl) dX11_isWalkerKind_4 (fun r1_ M2_ q3_ => ?_)
  obtain ⟨rfl, h4_⟩ := q3_
  rcases h4_ with ⟨rfl, h4_⟩ | ⟨rfl, h4_⟩
  · simp only [li_0, li_7] at h4_
    exact w_zret rfl dX11_isWalkerKind_7 ⟨by decide, by decide⟩ ⟨rfl, (Or.inl ⟨rfl, h4_⟩)⟩
  · simp only [li_0, li_7] at h4_
    exact w_zret rfl dX11_isWalkerKind_7 ⟨by decide, by decide⟩ ⟨rfl, (Or.inr ⟨rfl, h4_⟩)⟩
set_option maxHeartbeats 4000000 in
set_option maxRecDepth 100000 in
theorem c_X11_isSheet (l : Launch) (G : va_G) (cy : Nat → ClassId) (ad : rf → Nat) (d : Nat) (v : Int32) (Mz : mM) (hIz : Inv Mz) : WP CC l G cy ad yX11_isSheet cX11_isSheet 1 (some .boolean) (d + 1) 0 [(0, vI v)] [] Mz (fun r M' => Mz = M' ∧ ((r = 1 ∧ 0 ≤ v.toInt ∧ v.toInt ≤ 3) ∨ (r = 0 ∧ ¬ (0 ≤ v.toInt ∧ v.toInt ≤ 3)))) := by
  refine w_iload_n dX11_isSheet_0 rfl 0 rfl ?_
  refine w_iconst (v := 0) dX11_isSheet_1 (by decide) ?_
  refine w_iconst (v := 3) dX11_isSheet_2 (by decide) ?_
  refine w_callS (as := [vI v, vI 0, vI 3]) (rest := []) (c_X11_within l G cy ad d v 0 3 Mz hIz) kS_X11_within (by decide +kernel) (Nat.le_of_ble_eq_true rfl) m_494 rfl rfl (by decide) (Nat.le_of_ble_eq_true rfl) dX11_isSheet_3 (fun r1_ M2_ q3_ => ?_)
  obtain ⟨rfl, h4_⟩ := q3_
  rcases h4_ with ⟨rfl, h4_⟩ | ⟨rfl, h4_⟩
  · simp only [li_0, li_3] at h4_
    exact w_zret rfl dX11_isSheet_6 ⟨by decide, by decide⟩ ⟨rfl, (Or.inl ⟨rfl, h4_⟩)⟩
  · simp only [li_0, li_3] at h4_
    exact w_zret rfl dX11_isSheet_6 ⟨by decide, by decide⟩ ⟨rfl, (Or.inr ⟨rfl, h4_⟩)⟩
set_option maxHeartbeats 4000000 in
set_option maxRecDepth 100000 in
theorem c_X11_isBits (l : Launch) (G : va_G) (cy : Nat → ClassId) (ad : rf → Nat) (d : Nat) (v : Int32) (Mz : mM) (hIz : Inv Mz) : WP CC l G cy ad yX11_isBits cX11_isBits 1 (some .boolean) (d + 1) 0 [(0, vI v)] [] Mz (fun r M' => Mz = M' ∧ ((r = 1 ∧ 0 ≤ v.toInt ∧ v.toInt ≤ 31) ∨ (r = 0 ∧ ¬ (0 ≤ v.toInt ∧ v.toInt ≤ 31)))) := by
  refine w_iload_n dX11_isBits_0 rfl 0 rfl ?_
  refine w_iconst (v := 0) dX11_isBits_1 (by decide) ?_
  refine w_bipush (v := 31) dX11_isBits_2 (by decide) ?_
  refine w_callS (as := [vI v, vI 0, vI 31]) (rest := []) (c_X11_within l G cy ad d v 0 31 Mz hIz) kS_X11_within (by decide +kernel) (Nat.le_of_ble_eq_true rfl) m_494 rfl rfl (by decide) (Nat.le_of_ble_eq_true rfl) dX11_isBits_4 (fun r1_ M2_ q3_ => ?_)
  obtain ⟨rfl, h4_⟩ := q3_
  rcases h4_ with ⟨rfl, h4_⟩ | ⟨rfl, h4_⟩
  · simp only [li_0, li_31] at h4_
    exact w_zret rfl dX11_isBits_7 ⟨by decide, by decide⟩ ⟨rfl, (Or.inl ⟨rfl, h4_⟩)⟩
  · simp only [li_0, li_31] at h4_
    exact w_zret rfl dX11_isBits_7 ⟨by decide, by decide⟩ ⟨rfl, (Or.inr ⟨rfl, h4_⟩)⟩
theorem lf_c_X7_isCell_0  (v : Int32) (h1_ : v.toInt < 0) : ¬ (0 ≤ v.toInt ∧ v.toInt ≤ 191) := by have r_v := rngI v; omega
theorem lf_c_X7_isCell_1  (v : Int32) (h1_ : 0 ≤ v.toInt) (h2_ : 192 ≤ v.toInt) : ¬ (0 ≤ v.toInt ∧ v.toInt ≤ 191) := by have r_v := rngI v; omega
theorem lf_c_X7_isCell_2  (v : Int32) (h1_ : 0 ≤ v.toInt) (h2_ : v.toInt < 192) : 0 ≤ v.toInt ∧ v.toInt ≤ 191 := by have r_v := rngI v; omega
set_option maxHeartbeats 4000000 in
set_option maxRecDepth 100000 in
theorem c_X7_isCell (l : Launch) (G : va_G) (cy : Nat → ClassId) (ad : rf → Nat) (d : Nat) (v : Int32) (Mz : mM) (hIz : Inv Mz) : WP CC l G cy ad yX7_isCell cX7_isCell 1 (some .boolean) d 0 [(0, vI v)] [] Mz (fun r M' => Mz = M' ∧ ((r = 1 ∧ 0 ≤ v.toInt ∧ v.toInt ≤ 191) ∨ (r = 0 ∧ ¬ (0 ≤ v.toInt ∧ v.toInt ≤ 191)))) := by
  refine w_iload_n dX7_isCell_0 rfl 0 rfl ?_
  refine w_if_lt (tgt := 15) dX7_isCell_1 (by decide) (rfl : v.toInt = v.toInt) (fun h1_ => ?_) (fun h1_ => ?_)
  · refine w_iconst (v := 0) dX7_isCell_15 (by decide) ?_
    exact w_zret rfl dX7_isCell_16 ⟨by decide, by decide⟩ ⟨rfl, (Or.inr ⟨rfl, (lf_c_X7_isCell_0 v h1_)⟩)⟩
  · refine w_iload_n dX7_isCell_4 rfl 0 rfl ?_
    refine w_sipush (v := 192) dX7_isCell_5 (by decide) ?_
    refine w_icmp_ge (tgt := 15) dX7_isCell_8 (by decide) (rfl : v.toInt = v.toInt) li_192 (fun h2_ => ?_) (fun h2_ => ?_)
    · refine w_iconst (v := 0) dX7_isCell_15 (by decide) ?_
      exact w_zret rfl dX7_isCell_16 ⟨by decide, by decide⟩ ⟨rfl, (Or.inr ⟨rfl, (lf_c_X7_isCell_1 v h1_ h2_)⟩)⟩
    · refine w_iconst (v := 1) dX7_isCell_11 (by decide) ?_
      refine w_goto (tgt := 16) dX7_isCell_12 (by decide) ?_
      exact w_zret rfl dX7_isCell_16 ⟨by decide, by decide⟩ ⟨rfl, (Or.inl ⟨rfl, (lf_c_X7_isCell_2 v h1_ h2_)⟩)⟩
theorem lf_c_X7_isSide_0  (v : Int32) (h1_ : v.toInt < 0) : ¬ (0 ≤ v.toInt ∧ v.toInt ≤ 7) := by have r_v := rngI v; omega
theorem lf_c_X7_isSide_1  (v : Int32) (h1_ : 0 ≤ v.toInt) (h2_ : 8 ≤ v.toInt) : ¬ (0 ≤ v.toInt ∧ v.toInt ≤ 7) := by have r_v := rngI v; omega
theorem lf_c_X7_isSide_2  (v : Int32) (h1_ : 0 ≤ v.toInt) (h2_ : v.toInt < 8) : 0 ≤ v.toInt ∧ v.toInt ≤ 7 := by have r_v := rngI v; omega
set_option maxHeartbeats 4000000 in
set_option maxRecDepth 100000 in
theorem c_X7_isSide (l : Launch) (G : va_G) (cy : Nat → ClassId) (ad : rf → Nat) (d : Nat) (v : Int32) (Mz : mM) (hIz : Inv Mz) : WP CC l G cy ad yX7_isSide cX7_isSide 1 (some .boolean) d 0 [(0, vI v)] [] Mz (fun r M' => Mz = M' ∧ ((r = 1 ∧ 0 ≤ v.toInt ∧ v.toInt ≤ 7) ∨ (r = 0 ∧ ¬ (0 ≤ v.toInt ∧ v.toInt ≤ 7)))) := by
  refine w_iload_n dX7_isSide_0 rfl 0 rfl ?_
  refine w_if_lt (tgt := 14) dX7_isSide_1 (by decide) (rfl : v.toInt = v.toInt) (fun h1_ => ?_) (fun h1_ => ?_)
  · refine w_iconst (v := 0) dX7_isSide_14 (by decide) ?_
    exact w_zret rfl dX7_isSide_15 ⟨by decide, by decide⟩ ⟨rfl, (Or.inr ⟨rfl, (lf_c_X7_isSide_0 v h1_)⟩)⟩
  · refine w_iload_n dX7_isSide_4 rfl 0 rfl ?_
    refine w_bipush (v := 8) dX7_isSide_5 (by decide) ?_
    refine w_icmp_ge (tgt := 14) dX7_isSide_7 (by decide) (rfl : v.toInt = v.toInt) li_8 (fun h2_ => ?_) (fun h2_ => ?_)
    · refine w_iconst (v := 0) dX7_isSide_14 (by decide) ?_
      exact w_zret rfl dX7_isSide_15 ⟨by decide, by decide⟩ ⟨rfl, (Or.inr ⟨rfl, (lf_c_X7_isSide_1 v h1_ h2_)⟩)⟩
    · refine w_iconst (v := 1) dX7_isSide_10 (by decide) ?_
      refine w_goto (tgt := 15) dX7_isSide_11 (by decide) ?_
      exact w_zret rfl dX7_isSide_15 ⟨by decide, by decide⟩ ⟨rfl, (Or.inl ⟨rfl, (lf_c_X7_isSide_2 v h1_ h2_)⟩)⟩
theorem lf_c_X7_cellFrom_0    : -1 ≤ ((-1) : Int32).toInt ∧ ((-1) : Int32).toInt ≤ 191 := by have r9 := li_m1; omega
theorem lf_c_X7_cellFrom_1  (v : Int32) (h4_ : 0 ≤ v.toInt ∧ v.toInt ≤ 191) : 0 ≤ v.toInt := by have r_v := rngI v; omega
theorem lf_c_X7_cellFrom_2  (sd : Int32) (h9_ : 0 ≤ sd.toInt ∧ sd.toInt ≤ 7) : 0 ≤ sd.toInt ∧ sd.toInt < ((8 : Nat) : Int) := by have r_sd := rngI sd; omega
theorem lf_c_X7_cellFrom_3  (v : Int32) (z13_ : Int32) (h4_ : 0 ≤ v.toInt ∧ v.toInt ≤ 191) (h14_ : z13_.toInt = v.toInt % 16) : 0 ≤ v.toInt := by have r_v := rngI v; have r_z13_ := rngI z13_; omega
theorem lf_c_X7_cellFrom_4  (sd : Int32) (j17_ : Nat) (h9_ : 0 ≤ sd.toInt ∧ sd.toInt ≤ 7) (h18_ : (j17_ : Int) = sd.toInt) : 0 ≤ sd.toInt ∧ sd.toInt < ((8 : Nat) : Int) := by have r_sd := rngI sd; omega
theorem lf_c_X7_cellFrom_5    : -1 ≤ ((-1) : Int32).toInt ∧ ((-1) : Int32).toInt ≤ 191 := by have r9 := li_m1; omega
theorem lf_c_X7_cellFrom_6    : -1 ≤ ((-1) : Int32).toInt ∧ ((-1) : Int32).toInt ≤ 191 := by have r9 := li_m1; omega
theorem lf_c_X7_cellFrom_7    : -1 ≤ ((-1) : Int32).toInt ∧ ((-1) : Int32).toInt ≤ 191 := by have r9 := li_m1; omega
theorem lf_c_X7_cellFrom_8  (z28_ : Int32) (h31_ : 0 ≤ z28_.toInt) (h32_ : z28_.toInt < 12) : -2147483648 ≤ 16 * z28_.toInt ∧ 16 * z28_.toInt < 2147483648 := by have r_z28_ := rngI z28_; omega
theorem lf_c_X7_cellFrom_9  (z20_ : Int32) (z28_ : Int32) (z33_ : Int32) (h29_ : 0 ≤ z20_.toInt) (h30_ : z20_.toInt < 16) (h31_ : 0 ≤ z28_.toInt) (h32_ : z28_.toInt < 12) (h34_ : z33_.toInt = 16 * z28_.toInt) : -2147483648 ≤ z33_.toInt + z20_.toInt ∧ z33_.toInt + z20_.toInt < 2147483648 := by have r_z20_ := rngI z20_; have r_z28_ := rngI z28_; have r_z33_ := rngI z33_; omega
theorem lf_c_X7_cellFrom_10  (z20_ : Int32) (z28_ : Int32) (z33_ : Int32) (z35_ : Int32) (h29_ : 0 ≤ z20_.toInt) (h30_ : z20_.toInt < 16) (h31_ : 0 ≤ z28_.toInt) (h32_ : z28_.toInt < 12) (h34_ : z33_.toInt = 16 * z28_.toInt) (h36_ : z35_.toInt = z33_.toInt + z20_.toInt) : -1 ≤ z35_.toInt ∧ z35_.toInt ≤ 191 := by have r_z20_ := rngI z20_; have r_z28_ := rngI z28_; have r_z33_ := rngI z33_; have r_z35_ := rngI z35_; omega
theorem lf_c_X7_cellFrom_11    : -1 ≤ ((-1) : Int32).toInt ∧ ((-1) : Int32).toInt ≤ 191 := by have r9 := li_m1; omega
theorem lf_c_X7_cellFrom_12    : -1 ≤ ((-1) : Int32).toInt ∧ ((-1) : Int32).toInt ≤ 191 := by have r9 := li_m1; omega
theorem lf_c_X7_cellFrom_13    : -1 ≤ ((-1) : Int32).toInt ∧ ((-1) : Int32).toInt ≤ 191 := by have r9 := li_m1; omega
theorem lf_c_X7_cellFrom_14    : -1 ≤ ((-1) : Int32).toInt ∧ ((-1) : Int32).toInt ≤ 191 := by have r9 := li_m1; omega
set_option maxHeartbeats 4000000 in
set_option maxRecDepth 100000 in
theorem c_X7_cellFrom (l : Launch) (G : va_G) (cy : Nat → ClassId) (ad : rf → Nat) (d : Nat) (v : Int32) (sd : Int32) (yd : Int32) (Mz : mM) (hIz : Inv Mz) : WP CC l G cy ad yX7_cellFrom cX7_cellFrom 5 (some .int) (d + 1) 0 [(0, vI v), (1, vI sd), (2, vI yd)] [] Mz (fun r M' => Mz = M' ∧ -1 ≤ r.toInt ∧ r.toInt ≤ 191) := by
  refine w_iload_n dX7_cellFrom_0 rfl 0 rfl ?_
  refine w_callS (as := [vI v]) (rest := []) (c_X7_isCell l G cy ad d v Mz hIz) kS_X7_isCell (by decide +kernel) (Nat.le_of_ble_eq_true rfl) m_509 rfl rfl (by decide) (Nat.le_of_ble_eq_true rfl) dX7_cellFrom_1 (fun r1_ M2_ q3_ => ?_)
  obtain ⟨rfl, h4_⟩ := q3_
  rcases h4_ with ⟨rfl, h4_⟩ | ⟨rfl, h4_⟩
  · refine w_if_eq (tgt := 24) dX7_cellFrom_4 (by decide) li_1 (fun h9 => (absurd h9 (by decide))) (fun h5_ => ?_)
    refine w_iload_n dX7_cellFrom_7 rfl 1 rfl ?_
    refine w_callS (as := [vI sd]) (rest := []) (c_X7_isSide l G cy ad d sd Mz hIz) kS_X7_isSide (by decide +kernel) (Nat.le_of_ble_eq_true rfl) m_852 rfl rfl (by decide) (Nat.le_of_ble_eq_true rfl) dX7_cellFrom_8 (fun r6_ M7_ q8_ => ?_)
    obtain ⟨rfl, h9_⟩ := q8_
    rcases h9_ with ⟨rfl, h9_⟩ | ⟨rfl, h9_⟩
    · refine w_if_eq (tgt := 24) dX7_cellFrom_11 (by decide) li_1 (fun h9 => (absurd h9 (by decide))) (fun h10_ => ?_)
      refine w_iload_n dX7_cellFrom_14 rfl 2 rfl ?_
      refine w_if_lt (tgt := 24) dX7_cellFrom_15 (by decide) (rfl : yd.toInt = yd.toInt) (fun h11_ => ?_) (fun h11_ => ?_)
      · refine w_iconst (v := (-1)) dX7_cellFrom_24 (by decide) ?_
        exact w_iret rfl dX7_cellFrom_25 ⟨rfl, (lf_c_X7_cellFrom_0 )⟩
      · refine w_iload_n dX7_cellFrom_18 rfl 2 rfl ?_
        refine w_bipush (v := 16) dX7_cellFrom_19 (by decide) ?_
        refine w_icmp_le (tgt := 26) dX7_cellFrom_21 (by decide) (rfl : yd.toInt = yd.toInt) li_16 (fun h12_ => ?_) (fun h12_ => ?_)
        · refine w_iload_n dX7_cellFrom_26 rfl 0 rfl ?_
          refine w_bipush (v := 16) dX7_cellFrom_27 (by decide) ?_
          refine w_iremB dX7_cellFrom_29 (by decide) (rfl : v.toInt = v.toInt) li_16 (lf_c_X7_cellFrom_1 v h4_) (by decide) (fun z13_ h14_ => ?_)
          refine w_iload_n dX7_cellFrom_30 rfl 2 rfl ?_
          refine w_gets (k := 4) rfl m_853 dX7_cellFrom_31 ?_
          refine w_iload_n dX7_cellFrom_34 rfl 1 rfl ?_
          refine w_iaT (k := 4) rfl (rfl : sd.toInt = sd.toInt) (lf_c_X7_cellFrom_2 sd h9_) dX7_cellFrom_35 (fun j17_ h18_ z15_ e16_ => ?_)
          refine w_imul dX7_cellFrom_36 (fun z19_ _ => ?_)
          refine w_iadd dX7_cellFrom_37 (fun z20_ _ => ?_)
          refine w_istore_n (ls' := [(3, vI z20_), (0, vI v), (1, vI sd), (2, vI yd)]) dX7_cellFrom_38 rfl (by decide) rfl ?_
          refine w_iload_n dX7_cellFrom_39 rfl 1 rfl ?_
          refine w_bipush (v := 16) dX7_cellFrom_40 (by decide) ?_
          refine w_idivB dX7_cellFrom_42 (by decide) (rfl : v.toInt = v.toInt) li_16 (lf_c_X7_cellFrom_3 v z13_ h4_ h14_) (by decide) (fun z21_ h22_ => ?_)
          refine w_iload_n dX7_cellFrom_43 rfl 3 rfl ?_
          refine w_gets (k := 5) rfl m_855 dX7_cellFrom_44 ?_
          refine w_iload_n dX7_cellFrom_47 rfl 2 rfl ?_
          refine w_iaT (k := 5) rfl (rfl : sd.toInt = sd.toInt) (lf_c_X7_cellFrom_4 sd j17_ h9_ h18_) dX7_cellFrom_48 (fun j25_ h26_ z23_ e24_ => ?_)
          refine w_imul dX7_cellFrom_49 (fun z27_ _ => ?_)
          refine w_iadd dX7_cellFrom_50 (fun z28_ _ => ?_)
          refine w_istore (ls' := [(4, vI z28_), (3, vI z20_), (0, vI v), (1, vI sd), (2, vI yd)]) dX7_cellFrom_51 (by decide) rfl ?_
          refine w_iload_n dX7_cellFrom_53 rfl 1 rfl ?_
          refine w_if_lt (tgt := 75) dX7_cellFrom_54 (by decide) (rfl : z20_.toInt = z20_.toInt) (fun h29_ => ?_) (fun h29_ => ?_)
          · refine w_iconst (v := (-1)) dX7_cellFrom_75 (by decide) ?_
            refine w_goto (tgt := 86) dX7_cellFrom_76 (by decide) ?_
            exact w_iret rfl dX7_cellFrom_86 ⟨rfl, (lf_c_X7_cellFrom_5 )⟩
          · refine w_iload_n dX7_cellFrom_57 rfl 1 rfl ?_
            refine w_bipush (v := 16) dX7_cellFrom_58 (by decide) ?_
            refine w_icmp_ge (tgt := 75) dX7_cellFrom_60 (by decide) (rfl : z20_.toInt = z20_.toInt) li_16 (fun h30_ => ?_) (fun h30_ => ?_)
            · refine w_iconst (v := (-1)) dX7_cellFrom_75 (by decide) ?_
              refine w_goto (tgt := 86) dX7_cellFrom_76 (by decide) ?_
              exact w_iret rfl dX7_cellFrom_86 ⟨rfl, (lf_c_X7_cellFrom_6 )⟩
            · refine w_iload dX7_cellFrom_63 0 rfl ?_
              refine w_if_lt (tgt := 75) dX7_cellFrom_65 (by decide) (rfl : z28_.toInt = z28_.toInt) (fun h31_ => ?_) (fun h31_ => ?_)
              · refine w_iconst (v := (-1)) dX7_cellFrom_75 (by decide) ?_
                refine w_goto (tgt := 86) dX7_cellFrom_76 (by decide) ?_
                exact w_iret rfl dX7_cellFrom_86 ⟨rfl, (lf_c_X7_cellFrom_7 )⟩
              · refine w_iload dX7_cellFrom_68 0 rfl ?_
                refine w_bipush (v := 12) dX7_cellFrom_70 (by decide) ?_
                refine w_icmp_lt (tgt := 79) dX7_cellFrom_72 (by decide) (rfl : z28_.toInt = z28_.toInt) li_12 (fun h32_ => ?_) (fun h32_ => ?_)
                · refine w_bipush (v := 16) dX7_cellFrom_79 (by decide) ?_
                  refine w_iload dX7_cellFrom_81 0 rfl ?_
                  refine w_imulB dX7_cellFrom_83 li_16 (rfl : z28_.toInt = z28_.toInt) (lf_c_X7_cellFrom_8 z28_ h31_ h32_) (fun z33_ h34_ => ?_)
                  refine w_iload_n dX7_cellFrom_84 rfl 1 rfl ?_
                  refine w_iaddB dX7_cellFrom_85 (rfl : z33_.toInt = z33_.toInt) (rfl : z20_.toInt = z20_.toInt) (lf_c_X7_cellFrom_9 z20_ z28_ z33_ h29_ h30_ h31_ h32_ h34_) (fun z35_ h36_ => ?_)
                  exact w_iret rfl dX7_cellFrom_86 ⟨rfl, (lf_c_X7_cellFrom_10 z20_ z28_ z33_ z35_ h29_ h30_ h31_ h32_ h34_ h36_)⟩
                · refine w_iconst (v := (-1)) dX7_cellFrom_75 (by decide) ?_
                  refine w_goto (tgt := 86) dX7_cellFrom_76 (by decide) ?_
                  exact w_iret rfl dX7_cellFrom_86 ⟨rfl, (lf_c_X7_cellFrom_11 )⟩
        · refine w_iconst (v := (-1)) dX7_cellFrom_24 (by decide) ?_
          exact w_iret rfl dX7_cellFrom_25 ⟨rfl, (lf_c_X7_cellFrom_12 )⟩
    · refine w_if_eq (tgt := 24) dX7_cellFrom_11 (by decide) li_0 (fun h37_ => ?_) (fun h9 => (absurd h9 (by decide)))
      refine w_iconst (v := (-1)) dX7_cellFrom_24 (by decide) ?_
      exact w_iret rfl dX7_cellFrom_25 ⟨rfl, (lf_c_X7_cellFrom_13 )⟩
  · refine w_if_eq (tgt := 24) dX7_cellFrom_4 (by decide) li_0 (fun h38_ => ?_) (fun h9 => (absurd h9 (by decide)))
    refine w_iconst (v := (-1)) dX7_cellFrom_24 (by decide) ?_
    exact w_iret rfl dX7_cellFrom_25 ⟨rfl, (lf_c_X7_cellFrom_14 )⟩
theorem lf_c_X9_kindAbove_0  (v : Int32) (h1_ : 0 ≤ v.toInt) (h2_ : v.toInt < 8) : 0 ≤ v.toInt ∧ v.toInt < ((8 : Nat) : Int) := by have r_v := rngI v; omega
set_option maxHeartbeats 4000000 in
set_option maxRecDepth 100000 in
theorem c_X9_kindAbove (l : Launch) (G : va_G) (cy : Nat → ClassId) (ad : rf → Nat) (d : Nat) (v : Int32) (Mz : mM) (hIz : Inv Mz) : WP CC l G cy ad yX9_kindAbove cX9_kindAbove 1 (some .int) d 0 [(0, vI v)] [] Mz (fun r M' => Mz = M' ∧ True) := by
  refine w_iload_n dX9_kindAbove_0 rfl 0 rfl ?_
  refine w_if_lt (tgt := 18) dX9_kindAbove_1 (by decide) (rfl : v.toInt = v.toInt) (fun h1_ => ?_) (fun h1_ => ?_)
  · refine w_iconst (v := (-1)) dX9_kindAbove_18 (by decide) ?_
    exact w_iret rfl dX9_kindAbove_19 ⟨rfl, trivial⟩
  · refine w_iload_n dX9_kindAbove_4 rfl 0 rfl ?_
    refine w_bipush (v := 8) dX9_kindAbove_5 (by decide) ?_
    refine w_icmp_ge (tgt := 18) dX9_kindAbove_7 (by decide) (rfl : v.toInt = v.toInt) li_8 (fun h2_ => ?_) (fun h2_ => ?_)
    · refine w_iconst (v := (-1)) dX9_kindAbove_18 (by decide) ?_
      exact w_iret rfl dX9_kindAbove_19 ⟨rfl, trivial⟩
    · refine w_gets (k := 3) rfl m_646 dX9_kindAbove_10 ?_
      refine w_iload_n dX9_kindAbove_13 rfl 0 rfl ?_
      refine w_iaT (k := 3) rfl (rfl : v.toInt = v.toInt) (lf_c_X9_kindAbove_0 v h1_ h2_) dX9_kindAbove_14 (fun j5_ h6_ z3_ e4_ => ?_)
      refine w_goto (tgt := 19) dX9_kindAbove_15 (by decide) ?_
      exact w_iret rfl dX9_kindAbove_19 ⟨rfl, trivial⟩
