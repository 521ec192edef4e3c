def SP_X11_within (v : Int32) (lo : Int32) (hi : Int32) (Mz : mM) (r_ : Int32) : Prop := (((v.toInt < lo.toInt) ∧ r_ = 0) ∨ ((lo.toInt ≤ v.toInt) ∧ (((hi.toInt < v.toInt) ∧ r_ = 0) ∨ ((v.toInt ≤ hi.toInt) ∧ r_ = 1))))
theorem lf_c_X11_within_0  (v : Int32) (lo : Int32) (hi : Int32) (h1_ : v.toInt < lo.toInt) : ¬ (lo.toInt ≤ v.toInt ∧ v.toInt ≤ hi.toInt) := by have r_v := rngI v; have r_lo := rngI lo; have r_hi := rngI hi; omega
theorem lf_c_X11_within_1  (v : Int32) (lo : Int32) (hi : Int32) (h1_ : lo.toInt ≤ v.toInt) (h2_ : hi.toInt < v.toInt) : ¬ (lo.toInt ≤ v.toInt ∧ v.toInt ≤ hi.toInt) := by have r_v := rngI v; have r_lo := rngI lo; have r_hi := rngI hi; omega
theorem lf_c_X11_within_2  (v : Int32) (lo : Int32) (hi : Int32) (h1_ : lo.toInt ≤ v.toInt) (h2_ : v.toInt ≤ hi.toInt) : lo.toInt ≤ v.toInt ∧ v.toInt ≤ hi.toInt := by have r_v := rngI v; have r_lo := rngI lo; have r_hi := rngI hi; omega
set_option maxHeartbeats 4000000 in
set_option maxRecDepth 100000 in
theorem c_X11_within (l : Launch) (G : va_G) (cy : Nat → ClassId) (ad : rf → Nat) (d : Nat) (v : Int32) (lo : Int32) (hi : Int32) (Mz : mM) (hIz : Inv Mz) : WP CC l G cy ad yX11_within cX11_within 3 (some .boolean) d 0 [(0, vI v), (1, vI lo), (2, vI hi)] [] Mz (fun r M' => Mz = M' ∧ (((r = 1 ∧ lo.toInt ≤ v.toInt ∧ v.toInt ≤ hi.toInt) ∨ (r = 0 ∧ ¬ (lo.toInt ≤ v.toInt ∧ v.toInt ≤ hi.toInt)))) ∧ SP_X11_within v lo hi Mz r) := by
  refine w_iload_n dX11_within_0 rfl 0 rfl ?_
  refine w_iload_n dX11_within_1 rfl 1 rfl ?_
  refine w_icmp_lt (tgt := 14) dX11_within_2 (by decide) (rfl : v.toInt = v.toInt) (rfl : lo.toInt = lo.toInt) (fun h1_ => ?_) (fun h1_ => ?_)
  · refine w_iconst (v := 0) dX11_within_14 (by decide) ?_
    exact w_zret rfl dX11_within_15 ⟨by decide, by decide⟩ ⟨rfl, (Or.inr ⟨rfl, (lf_c_X11_within_0 v lo hi h1_)⟩), (Or.inl ⟨h1_, rfl⟩)⟩
  · refine w_iload_n dX11_within_5 rfl 0 rfl ?_
    refine w_iload_n dX11_within_6 rfl 2 rfl ?_
    refine w_icmp_gt (tgt := 14) dX11_within_7 (by decide) (rfl : v.toInt = v.toInt) (rfl : hi.toInt = hi.toInt) (fun h2_ => ?_) (fun h2_ => ?_)
    · refine w_iconst (v := 0) dX11_within_14 (by decide) ?_
      exact w_zret rfl dX11_within_15 ⟨by decide, by decide⟩ ⟨rfl, (Or.inr ⟨rfl, (lf_c_X11_within_1 v lo hi h1_ h2_)⟩), (Or.inr ⟨h1_, (Or.inl ⟨h2_, rfl⟩)⟩)⟩
    · refine w_iconst (v := 1) dX11_within_10 (by decide) ?_
      refine w_goto (tgt := 15) dX11_within_11 (by decide) ?_
      exact w_zret rfl dX11_within_15 ⟨by decide, by decide⟩ ⟨rfl, (Or.inl ⟨rfl, (lf_c_X11_within_2 v lo hi h1_ h2_)⟩), (Or.inr ⟨h1_, (Or.inr ⟨h2_, rfl⟩)⟩)⟩
def SP_X11_isThingKind (v : Int32) (Mz : mM) (r_ : Int32) : Prop := (((SP_X11_within v 0 4 Mz (1 : Int32)) ∧ (0 ≤ v.toInt ∧ v.toInt ≤ 4) ∧ r_ = 1) ∨ ((SP_X11_within v 0 4 Mz (0 : Int32)) ∧ (¬ (0 ≤ v.toInt ∧ v.toInt ≤ 4)) ∧ r_ = 0))
set_option maxHeartbeats 4000000 in
set_option maxRecDepth 100000 in
theorem c_X11_isThingKind (l : Launch) (G : va_G) (cy : Nat → ClassId) (ad : rf → Nat) (d : Nat) (v : Int32) (Mz : mM) (hIz : Inv Mz) : WP CC l G cy ad yX11_isThingKind cX11_isThingKind 1 (some .boolean) (d + 1) 0 [(0, vI v)] [] Mz (fun r M' => Mz = M' ∧ (((r = 1 ∧ 0 ≤ v.toInt ∧ v.toInt ≤ 4) ∨ (r = 0 ∧ ¬ (0 ≤ v.toInt ∧ v.toInt ≤ 4)))) ∧ SP_X11_isThingKind v Mz r) := by
  refine w_iload_n dX11_isThingKind_0 rfl 0 rfl ?_
  refine w_iconst (v := 0) dX11_isThingKind_1 (by decide) ?_
  refine w_iconst (v := 4) dX11_isThingKind_2 (by decide) ?_
  refine w_callS (as := [vI v, vI 0, vI 4]) (rest := []) (c_X11_within l G cy ad d v 0 4 Mz hIz) kS_X11_within pnn_0 (Nat.le_of_ble_eq_true rfl) m_494 rfl rfl (by decide) (Nat.le_of_ble_eq_true rfl) dX11_isThingKind_3 (fun r1_ M2_ q3_ => ?_)
  obtain ⟨rfl, h4_, hs5_⟩ := q3_
  rcases h4_ with ⟨rfl, h4_⟩ | ⟨rfl, h4_⟩
  · simp only [li_0, li_4] at h4_
    exact w_zret rfl dX11_isThingKind_6 ⟨by decide, by decide⟩ ⟨rfl, (Or.inl ⟨rfl, h4_⟩), (Or.inl ⟨hs5_, h4_, rfl⟩)⟩
  · simp only [li_0, li_4] at h4_
    exact w_zret rfl dX11_isThingKind_6 ⟨by decide, by decide⟩ ⟨rfl, (Or.inr ⟨rfl, h4_⟩), (Or.inr ⟨hs5_, h4_, rfl⟩)⟩
def SP_X11_isWalkerKind (v : Int32) (Mz : mM) (r_ : Int32) : Prop := (((SP_X11_within v 0 7 Mz (1 : Int32)) ∧ (0 ≤ v.toInt ∧ v.toInt ≤ 7) ∧ r_ = 1) ∨ ((SP_X11_within v 0 7 Mz (0 : Int32)) ∧ (¬ (0 ≤ v.toInt ∧ v.toInt ≤ 7)) ∧ r_ = 0))
set_option maxHeartbeats 4000000 in
set_option maxRecDepth 100000 in
theorem c_X11_isWalkerKind (l : Launch) (G : va_G) (cy : Nat → ClassId) (ad : rf → Nat) (d : Nat) (v : Int32) (Mz : mM) (hIz : Inv Mz) : WP CC l G cy ad yX11_isWalkerKind cX11_isWalkerKind 1 (some .boolean) (d + 1) 0 [(0, vI v)] [] Mz (fun r M' => Mz = M' ∧ (((r = 1 ∧ 0 ≤ v.toInt ∧ v.toInt ≤ 7) ∨ (r = 0 ∧ ¬ (0 ≤ v.toInt ∧ v.toInt ≤ 7)))) ∧ SP_X11_isWalkerKind v Mz r) := by
  refine w_iload_n dX11_isWalkerKind_0 rfl 0 rfl ?_
  refine w_iconst (v := 0) dX11_isWalkerKind_1 (by decide) ?_
  refine w_bipush (v := 7) dX11_isWalkerKind_2 (by decide) ?_
  refine w_callS (as := [vI v, vI 0, vI 7]) (rest := []) (c_X11_within l G cy ad d v 0 7 Mz hIz) kS_X11_within pnn_0 (Nat.le_of_ble_eq_true rfl) m_494 rfl rfl (by decide) (Nat.le_of_ble_eq_true rfl) dX11_isWalkerKind_4 (fun r1_ M2_ q3_ => ?_)
  obtain ⟨rfl, h4_, hs5_⟩ := q3_
  rcases h4_ with ⟨rfl, h4_⟩ | ⟨rfl, h4_⟩
  · simp only [li_0, li_7] at h4_
    exact w_zret rfl dX11_isWalkerKind_7 ⟨by decide, by decide⟩ ⟨rfl, (Or.inl ⟨rfl, h4_⟩), (Or.inl ⟨hs5_, h4_, rfl⟩)⟩
  · simp only [li_0, li_7] at h4_
    exact w_zret rfl dX11_isWalkerKind_7 ⟨by decide, by decide⟩ ⟨rfl, (Or.inr ⟨rfl, h4_⟩), (Or.inr ⟨hs5_, h4_, rfl⟩)⟩
def SP_X11_isSheet (v : Int32) (Mz : mM) (r_ : Int32) : Prop := (((SP_X11_within v 0 3 Mz (1 : Int32)) ∧ (0 ≤ v.toInt ∧ v.toInt ≤ 3) ∧ r_ = 1) ∨ ((SP_X11_within v 0 3 Mz (0 : Int32)) ∧ (¬ (0 ≤ v.toInt ∧ v.toInt ≤ 3)) ∧ r_ = 0))
set_option maxHeartbeats 4000000 in
set_option maxRecDepth 100000 in
theorem c_X11_isSheet (l : Launch) (G : va_G) (cy : Nat → ClassId) (ad : rf → Nat) (d : Nat) (v : Int32) (Mz : mM) (hIz : Inv Mz) : WP CC l G cy ad yX11_isSheet cX11_isSheet 1 (some .boolean) (d + 1) 0 [(0, vI v)] [] Mz (fun r M' => Mz = M' ∧ (((r = 1 ∧ 0 ≤ v.toInt ∧ v.toInt ≤ 3) ∨ (r = 0 ∧ ¬ (0 ≤ v.toInt ∧ v.toInt ≤ 3)))) ∧ SP_X11_isSheet v Mz r) := by
  refine w_iload_n dX11_isSheet_0 rfl 0 rfl ?_
  refine w_iconst (v := 0) dX11_isSheet_1 (by decide) ?_
  refine w_iconst (v := 3) dX11_isSheet_2 (by decide) ?_
  refine w_callS (as := [vI v, vI 0, vI 3]) (rest := []) (c_X11_within l G cy ad d v 0 3 Mz hIz) kS_X11_within pnn_0 (Nat.le_of_ble_eq_true rfl) m_494 rfl rfl (by decide) (Nat.le_of_ble_eq_true rfl) dX11_isSheet_3 (fun r1_ M2_ q3_ => ?_)
  obtain ⟨rfl, h4_, hs5_⟩ := q3_
  rcases h4_ with ⟨rfl, h4_⟩ | ⟨rfl, h4_⟩
  · simp only [li_0, li_3] at h4_
    exact w_zret rfl dX11_isSheet_6 ⟨by decide, by decide⟩ ⟨rfl, (Or.inl ⟨rfl, h4_⟩), (Or.inl ⟨hs5_, h4_, rfl⟩)⟩
  · simp only [li_0, li_3] at h4_
    exact w_zret rfl dX11_isSheet_6 ⟨by decide, by decide⟩ ⟨rfl, (Or.inr ⟨rfl, h4_⟩), (Or.inr ⟨hs5_, h4_, rfl⟩)⟩
def SP_X11_isBits (v : Int32) (Mz : mM) (r_ : Int32) : Prop := (((SP_X11_within v 0 31 Mz (1 : Int32)) ∧ (0 ≤ v.toInt ∧ v.toInt ≤ 31) ∧ r_ = 1) ∨ ((SP_X11_within v 0 31 Mz (0 : Int32)) ∧ (¬ (0 ≤ v.toInt ∧ v.toInt ≤ 31)) ∧ r_ = 0))
set_option maxHeartbeats 4000000 in
set_option maxRecDepth 100000 in
theorem c_X11_isBits (l : Launch) (G : va_G) (cy : Nat → ClassId) (ad : rf → Nat) (d : Nat) (v : Int32) (Mz : mM) (hIz : Inv Mz) : WP CC l G cy ad yX11_isBits cX11_isBits 1 (some .boolean) (d + 1) 0 [(0, vI v)] [] Mz (fun r M' => Mz = M' ∧ (((r = 1 ∧ 0 ≤ v.toInt ∧ v.toInt ≤ 31) ∨ (r = 0 ∧ ¬ (0 ≤ v.toInt ∧ v.toInt ≤ 31)))) ∧ SP_X11_isBits v Mz r) := by
  refine w_iload_n dX11_isBits_0 rfl 0 rfl ?_
  refine w_iconst (v := 0) dX11_isBits_1 (by decide) ?_
  refine w_bipush (v := 31) dX11_isBits_2 (by decide) ?_
  refine w_callS (as := [vI v, vI 0, vI 31]) (rest := []) (c_X11_within l G cy ad d v 0 31 Mz hIz) kS_X11_within pnn_0 (Nat.le_of_ble_eq_true rfl) m_494 rfl rfl (by decide) (Nat.le_of_ble_eq_true rfl) dX11_isBits_4 (fun r1_ M2_ q3_ => ?_)
  obtain ⟨rfl, h4_, hs5_⟩ := q3_
  rcases h4_ with ⟨rfl, h4_⟩ | ⟨rfl, h4_⟩
  · simp only [li_0, li_31] at h4_
    exact w_zret rfl dX11_isBits_7 ⟨by decide, by decide⟩ ⟨rfl, (Or.inl ⟨rfl, h4_⟩), (Or.inl ⟨hs5_, h4_, rfl⟩)⟩
  · simp only [li_0, li_31] at h4_
    exact w_zret rfl dX11_isBits_7 ⟨by decide, by decide⟩ ⟨rfl, (Or.inr ⟨rfl, h4_⟩), (Or.inr ⟨hs5_, h4_, rfl⟩)⟩
def SP_X7_isCell (v : Int32) (Mz : mM) (r_ : Int32) : Prop := (((v.toInt < 0) ∧ r_ = 0) ∨ ((0 ≤ v.toInt) ∧ (((192 ≤ v.toInt) ∧ r_ = 0) ∨ ((v.toInt < 192) ∧ r_ = 1))))
theorem lf_c_X7_isCell_0  (v : Int32) (h1_ : v.toInt < 0) : ¬ (0 ≤ v.toInt ∧ v.toInt ≤ 191) := by have r_v := rngI v; omega
theorem lf_c_X7_isCell_1  (v : Int32) (h1_ : 0 ≤ v.toInt) (h2_ : 192 ≤ v.toInt) : ¬ (0 ≤ v.toInt ∧ v.toInt ≤ 191) := by have r_v := rngI v; omega
theorem lf_c_X7_isCell_2  (v : Int32) (h1_ : 0 ≤ v.toInt) (h2_ : v.toInt < 192) : 0 ≤ v.toInt ∧ v.toInt ≤ 191 := by have r_v := rngI v; omega
set_option maxHeartbeats 4000000 in
set_option maxRecDepth 100000 in
theorem c_X7_isCell (l : Launch) (G : va_G) (cy : Nat → ClassId) (ad : rf → Nat) (d : Nat) (v : Int32) (Mz : mM) (hIz : Inv Mz) : WP CC l G cy ad yX7_isCell cX7_isCell 1 (some .boolean) d 0 [(0, vI v)] [] Mz (fun r M' => Mz = M' ∧ (((r = 1 ∧ 0 ≤ v.toInt ∧ v.toInt ≤ 191) ∨ (r = 0 ∧ ¬ (0 ≤ v.toInt ∧ v.toInt ≤ 191)))) ∧ SP_X7_isCell v Mz r) := by
  refine w_iload_n dX7_isCell_0 rfl 0 rfl ?_
  refine w_if_lt (tgt := 15) dX7_isCell_1 (by decide) (rfl : v.toInt = v.toInt) (fun h1_ => ?_) (fun h1_ => ?_)
  · refine w_iconst (v := 0) dX7_isCell_15 (by decide) ?_
    exact w_zret rfl dX7_isCell_16 ⟨by decide, by decide⟩ ⟨rfl, (Or.inr ⟨rfl, (lf_c_X7_isCell_0 v h1_)⟩), (Or.inl ⟨h1_, rfl⟩)⟩
  · refine w_iload_n dX7_isCell_4 rfl 0 rfl ?_
    refine w_sipush (v := 192) dX7_isCell_5 (by decide) ?_
    refine w_icmp_ge (tgt := 15) dX7_isCell_8 (by decide) (rfl : v.toInt = v.toInt) li_192 (fun h2_ => ?_) (fun h2_ => ?_)
    · refine w_iconst (v := 0) dX7_isCell_15 (by decide) ?_
      exact w_zret rfl dX7_isCell_16 ⟨by decide, by decide⟩ ⟨rfl, (Or.inr ⟨rfl, (lf_c_X7_isCell_1 v h1_ h2_)⟩), (Or.inr ⟨h1_, (Or.inl ⟨h2_, rfl⟩)⟩)⟩
    · refine w_iconst (v := 1) dX7_isCell_11 (by decide) ?_
      refine w_goto (tgt := 16) dX7_isCell_12 (by decide) ?_
      exact w_zret rfl dX7_isCell_16 ⟨by decide, by decide⟩ ⟨rfl, (Or.inl ⟨rfl, (lf_c_X7_isCell_2 v h1_ h2_)⟩), (Or.inr ⟨h1_, (Or.inr ⟨h2_, rfl⟩)⟩)⟩
def SP_X7_isSide (v : Int32) (Mz : mM) (r_ : Int32) : Prop := (((v.toInt < 0) ∧ r_ = 0) ∨ ((0 ≤ v.toInt) ∧ (((8 ≤ v.toInt) ∧ r_ = 0) ∨ ((v.toInt < 8) ∧ r_ = 1))))
theorem lf_c_X7_isSide_0  (v : Int32) (h1_ : v.toInt < 0) : ¬ (0 ≤ v.toInt ∧ v.toInt ≤ 7) := by have r_v := rngI v; omega
theorem lf_c_X7_isSide_1  (v : Int32) (h1_ : 0 ≤ v.toInt) (h2_ : 8 ≤ v.toInt) : ¬ (0 ≤ v.toInt ∧ v.toInt ≤ 7) := by have r_v := rngI v; omega
theorem lf_c_X7_isSide_2  (v : Int32) (h1_ : 0 ≤ v.toInt) (h2_ : v.toInt < 8) : 0 ≤ v.toInt ∧ v.toInt ≤ 7 := by have r_v := rngI v; omega
set_option maxHeartbeats 4000000 in
set_option maxRecDepth 100000 in
theorem c_X7_isSide (l : Launch) (G : va_G) (cy : Nat → ClassId) (ad : rf → Nat) (d : Nat) (v : Int32) (Mz : mM) (hIz : Inv Mz) : WP CC l G cy ad yX7_isSide cX7_isSide 1 (some .boolean) d 0 [(0, vI v)] [] Mz (fun r M' => Mz = M' ∧ (((r = 1 ∧ 0 ≤ v.toInt ∧ v.toInt ≤ 7) ∨ (r = 0 ∧ ¬ (0 ≤ v.toInt ∧ v.toInt ≤ 7)))) ∧ SP_X7_isSide v Mz r) := by
  refine w_iload_n dX7_isSide_0 rfl 0 rfl ?_
  refine w_if_lt (tgt := 14) dX7_isSide_1 (by decide) (rfl : v.toInt = v.toInt) (fun h1_ => ?_) (fun h1_ => ?_)
  · refine w_iconst (v := 0) dX7_isSide_14 (by decide) ?_
    exact w_zret rfl dX7_isSide_15 ⟨by decide, by decide⟩ ⟨rfl, (Or.inr ⟨rfl, (lf_c_X7_isSide_0 v h1_)⟩), (Or.inl ⟨h1_, rfl⟩)⟩
  · refine w_iload_n dX7_isSide_4 rfl 0 rfl ?_
    refine w_bipush (v := 8) dX7_isSide_5 (by decide) ?_
    refine w_icmp_ge (tgt := 14) dX7_isSide_7 (by decide) (rfl : v.toInt = v.toInt) li_8 (fun h2_ => ?_) (fun h2_ => ?_)
    · refine w_iconst (v := 0) dX7_isSide_14 (by decide) ?_
      exact w_zret rfl dX7_isSide_15 ⟨by decide, by decide⟩ ⟨rfl, (Or.inr ⟨rfl, (lf_c_X7_isSide_1 v h1_ h2_)⟩), (Or.inr ⟨h1_, (Or.inl ⟨h2_, rfl⟩)⟩)⟩
    · refine w_iconst (v := 1) dX7_isSide_10 (by decide) ?_
      refine w_goto (tgt := 15) dX7_isSide_11 (by decide) ?_
      exact w_zret rfl dX7_isSide_15 ⟨by decide, by decide⟩ ⟨rfl, (Or.inl ⟨rfl, (lf_c_X7_isSide_2 v h1_ h2_)⟩), (Or.inr ⟨h1_, (Or.inr ⟨h2_, rfl⟩)⟩)⟩
def SP_X7_cellFrom (v : Int32) (sd : Int32) (yd : Int32) (Mz : mM) (r_ : Int32) : Prop := (((SP_X7_isCell v Mz (1 : Int32)) ∧ (0 ≤ v.toInt ∧ v.toInt ≤ 191) ∧ (((SP_X7_isSide sd Mz (1 : Int32)) ∧ (0 ≤ sd.toInt ∧ sd.toInt ≤ 7) ∧ (((yd.toInt < 0) ∧ r_ = (-1)) ∨ ((0 ≤ yd.toInt) ∧ (((yd.toInt ≤ 16) ∧ ∃ z15_ : Int32, (z15_.toInt = v.toInt % 16) ∧ ∃ j19_ : Nat, ((j19_ : Int) = sd.toInt) ∧ ∃ z17_ : Int32, (z17_ = ([0, 1, 1, 1, 0, -1, -1, -1] : List Int32).getD j19_ 0) ∧ ∃ z21_ : Int32, (z21_ = yd * z17_) ∧ ∃ z23_ : Int32, (z23_ = z15_ + z21_) ∧ ∃ z25_ : Int32, (z25_.toInt = v.toInt / 16) ∧ ∃ j29_ : Nat, ((j29_ : Int) = sd.toInt) ∧ ∃ z27_ : Int32, (z27_ = ([-1, -1, 0, 1, 1, 1, 0, -1] : List Int32).getD j29_ 0) ∧ ∃ z31_ : Int32, (z31_ = yd * z27_) ∧ ∃ z33_ : Int32, (z33_ = z25_ + z31_) ∧ (((z23_.toInt < 0) ∧ r_ = (-1)) ∨ ((0 ≤ z23_.toInt) ∧ (((16 ≤ z23_.toInt) ∧ r_ = (-1)) ∨ ((z23_.toInt < 16) ∧ (((z33_.toInt < 0) ∧ r_ = (-1)) ∨ ((0 ≤ z33_.toInt) ∧ (((z33_.toInt < 12) ∧ ∃ z39_ : Int32, (z39_.toInt = 16 * z33_.toInt) ∧ ∃ z41_ : Int32, (z41_.toInt = z39_.toInt + z23_.toInt) ∧ r_ = z41_) ∨ ((12 ≤ z33_.toInt) ∧ r_ = (-1)))))))))) ∨ ((16 < yd.toInt) ∧ r_ = (-1)))))) ∨ ((SP_X7_isSide sd Mz (0 : Int32)) ∧ (¬ (0 ≤ sd.toInt ∧ sd.toInt ≤ 7)) ∧ r_ = (-1)))) ∨ ((SP_X7_isCell v Mz (0 : Int32)) ∧ (¬ (0 ≤ v.toInt ∧ v.toInt ≤ 191)) ∧ r_ = (-1)))
theorem lf_c_X7_cellFrom_0    : -1 ≤ ((-1) : Int32).toInt ∧ ((-1) : Int32).toInt ≤ 191 := by have r9 := li_m1; omega
theorem lf_c_X7_cellFrom_1  (v : Int32) (h4_ : 0 ≤ v.toInt ∧ v.toInt ≤ 191) : 0 ≤ v.toInt := by have r_v := rngI v; omega
theorem lf_c_X7_cellFrom_2  (sd : Int32) (h10_ : 0 ≤ sd.toInt ∧ sd.toInt ≤ 7) : 0 ≤ sd.toInt ∧ sd.toInt < ((8 : Nat) : Int) := by have r_sd := rngI sd; omega
theorem lf_c_X7_cellFrom_3  (v : Int32) (z15_ : Int32) (h4_ : 0 ≤ v.toInt ∧ v.toInt ≤ 191) (h16_ : z15_.toInt = v.toInt % 16) : 0 ≤ v.toInt := by have r_v := rngI v; have r_z15_ := rngI z15_; omega
theorem lf_c_X7_cellFrom_4  (sd : Int32) (j19_ : Nat) (h10_ : 0 ≤ sd.toInt ∧ sd.toInt ≤ 7) (h20_ : (j19_ : Int) = sd.toInt) : 0 ≤ sd.toInt ∧ sd.toInt < ((8 : Nat) : Int) := by have r_sd := rngI sd; omega
theorem lf_c_X7_cellFrom_5    : -1 ≤ ((-1) : Int32).toInt ∧ ((-1) : Int32).toInt ≤ 191 := by have r9 := li_m1; omega
theorem lf_c_X7_cellFrom_6    : -1 ≤ ((-1) : Int32).toInt ∧ ((-1) : Int32).toInt ≤ 191 := by have r9 := li_m1; omega
theorem lf_c_X7_cellFrom_7    : -1 ≤ ((-1) : Int32).toInt ∧ ((-1) : Int32).toInt ≤ 191 := by have r9 := li_m1; omega
theorem lf_c_X7_cellFrom_8  (z33_ : Int32) (h37_ : 0 ≤ z33_.toInt) (h38_ : z33_.toInt < 12) : -2147483648 ≤ 16 * z33_.toInt ∧ 16 * z33_.toInt < 2147483648 := by have r_z33_ := rngI z33_; omega
theorem lf_c_X7_cellFrom_9  (z23_ : Int32) (z33_ : Int32) (z39_ : Int32) (h35_ : 0 ≤ z23_.toInt) (h36_ : z23_.toInt < 16) (h37_ : 0 ≤ z33_.toInt) (h38_ : z33_.toInt < 12) (h40_ : z39_.toInt = 16 * z33_.toInt) : -2147483648 ≤ z39_.toInt + z23_.toInt ∧ z39_.toInt + z23_.toInt < 2147483648 := by have r_z23_ := rngI z23_; have r_z33_ := rngI z33_; have r_z39_ := rngI z39_; omega
theorem lf_c_X7_cellFrom_10  (z23_ : Int32) (z33_ : Int32) (z39_ : Int32) (z41_ : Int32) (h35_ : 0 ≤ z23_.toInt) (h36_ : z23_.toInt < 16) (h37_ : 0 ≤ z33_.toInt) (h38_ : z33_.toInt < 12) (h40_ : z39_.toInt = 16 * z33_.toInt) (h42_ : z41_.toInt = z39_.toInt + z23_.toInt) : -1 ≤ z41_.toInt ∧ z41_.toInt ≤ 191 := by have r_z23_ := rngI z23_; have r_z33_ := rngI z33_; have r_z39_ := rngI z39_; have r_z41_ := rngI z41_; omega
theorem lf_c_X7_cellFrom_11    : -1 ≤ ((-1) : Int32).toInt ∧ ((-1) : Int32).toInt ≤ 191 := by have r9 := li_m1; omega
theorem lf_c_X7_cellFrom_12    : -1 ≤ ((-1) : Int32).toInt ∧ ((-1) : Int32).toInt ≤ 191 := by have r9 := li_m1; omega
theorem lf_c_X7_cellFrom_13    : -1 ≤ ((-1) : Int32).toInt ∧ ((-1) : Int32).toInt ≤ 191 := by have r9 := li_m1; omega
theorem lf_c_X7_cellFrom_14    : -1 ≤ ((-1) : Int32).toInt ∧ ((-1) : Int32).toInt ≤ 191 := by have r9 := li_m1; omega
set_option maxHeartbeats 4000000 in
set_option maxRecDepth 100000 in
theorem c_X7_cellFrom (l : Launch) (G : va_G) (cy : Nat → ClassId) (ad : rf → Nat) (d : Nat) (v : Int32) (sd : Int32) (yd : Int32) (Mz : mM) (hIz : Inv Mz) : WP CC l G cy ad yX7_cellFrom cX7_cellFrom 5 (some .int) (d + 1) 0 [(0, vI v), (1, vI sd), (2, vI yd)] [] Mz (fun r M' => Mz = M' ∧ (-1 ≤ r.toInt ∧ r.toInt ≤ 191) ∧ SP_X7_cellFrom v sd yd Mz r) := by
  refine w_iload_n dX7_cellFrom_0 rfl 0 rfl ?_
  refine w_callS (as := [vI v]) (rest := []) (c_X7_isCell l G cy ad d v Mz hIz) kS_X7_isCell pnn_1 (Nat.le_of_ble_eq_true rfl) m_509 rfl rfl (by decide) (Nat.le_of_ble_eq_true rfl) dX7_cellFrom_1 (fun r1_ M2_ q3_ => ?_)
  obtain ⟨rfl, h4_, hs5_⟩ := q3_
  rcases h4_ with ⟨rfl, h4_⟩ | ⟨rfl, h4_⟩
  · refine w_if_eq (tgt := 24) dX7_cellFrom_4 (by decide) li_1 (fun h9 => (absurd h9 (by decide))) (fun h6_ => ?_)
    refine w_iload_n dX7_cellFrom_7 rfl 1 rfl ?_
    refine w_callS (as := [vI sd]) (rest := []) (c_X7_isSide l G cy ad d sd Mz hIz) kS_X7_isSide pnn_1 (Nat.le_of_ble_eq_true rfl) m_852 rfl rfl (by decide) (Nat.le_of_ble_eq_true rfl) dX7_cellFrom_8 (fun r7_ M8_ q9_ => ?_)
    obtain ⟨rfl, h10_, hs11_⟩ := q9_
    rcases h10_ with ⟨rfl, h10_⟩ | ⟨rfl, h10_⟩
    · refine w_if_eq (tgt := 24) dX7_cellFrom_11 (by decide) li_1 (fun h9 => (absurd h9 (by decide))) (fun h12_ => ?_)
      refine w_iload_n dX7_cellFrom_14 rfl 2 rfl ?_
      refine w_if_lt (tgt := 24) dX7_cellFrom_15 (by decide) (rfl : yd.toInt = yd.toInt) (fun h13_ => ?_) (fun h13_ => ?_)
      · refine w_iconst (v := (-1)) dX7_cellFrom_24 (by decide) ?_
        exact w_iret rfl dX7_cellFrom_25 ⟨rfl, (lf_c_X7_cellFrom_0 ), (Or.inl ⟨hs5_, h4_, (Or.inl ⟨hs11_, h10_, (Or.inl ⟨h13_, rfl⟩)⟩)⟩)⟩
      · refine w_iload_n dX7_cellFrom_18 rfl 2 rfl ?_
        refine w_bipush (v := 16) dX7_cellFrom_19 (by decide) ?_
        refine w_icmp_le (tgt := 26) dX7_cellFrom_21 (by decide) (rfl : yd.toInt = yd.toInt) li_16 (fun h14_ => ?_) (fun h14_ => ?_)
        · refine w_iload_n dX7_cellFrom_26 rfl 0 rfl ?_
          refine w_bipush (v := 16) dX7_cellFrom_27 (by decide) ?_
          refine w_iremB dX7_cellFrom_29 (by decide) (rfl : v.toInt = v.toInt) li_16 (lf_c_X7_cellFrom_1 v h4_) (by decide) (fun z15_ h16_ => ?_)
          refine w_iload_n dX7_cellFrom_30 rfl 2 rfl ?_
          refine w_gets (k := 4) rfl m_853 dX7_cellFrom_31 ?_
          refine w_iload_n dX7_cellFrom_34 rfl 1 rfl ?_
          refine w_iaT (k := 4) rfl (rfl : sd.toInt = sd.toInt) (lf_c_X7_cellFrom_2 sd h10_) dX7_cellFrom_35 (fun j19_ h20_ z17_ e18_ => ?_)
          refine w_imul dX7_cellFrom_36 (fun z21_ h22_ => ?_)
          refine w_iadd dX7_cellFrom_37 (fun z23_ h24_ => ?_)
          refine w_istore_n (ls' := [(3, vI z23_), (0, vI v), (1, vI sd), (2, vI yd)]) dX7_cellFrom_38 rfl (by decide) rfl ?_
          refine w_iload_n dX7_cellFrom_39 rfl 1 rfl ?_
          refine w_bipush (v := 16) dX7_cellFrom_40 (by decide) ?_
          refine w_idivB dX7_cellFrom_42 (by decide) (rfl : v.toInt = v.toInt) li_16 (lf_c_X7_cellFrom_3 v z15_ h4_ h16_) (by decide) (fun z25_ h26_ => ?_)
          refine w_iload_n dX7_cellFrom_43 rfl 3 rfl ?_
          refine w_gets (k := 5) rfl m_855 dX7_cellFrom_44 ?_
          refine w_iload_n dX7_cellFrom_47 rfl 2 rfl ?_
          refine w_iaT (k := 5) rfl (rfl : sd.toInt = sd.toInt) (lf_c_X7_cellFrom_4 sd j19_ h10_ h20_) dX7_cellFrom_48 (fun j29_ h30_ z27_ e28_ => ?_)
          refine w_imul dX7_cellFrom_49 (fun z31_ h32_ => ?_)
          refine w_iadd dX7_cellFrom_50 (fun z33_ h34_ => ?_)
          refine w_istore (ls' := [(4, vI z33_), (3, vI z23_), (0, vI v), (1, vI sd), (2, vI yd)]) dX7_cellFrom_51 (by decide) rfl ?_
          refine w_iload_n dX7_cellFrom_53 rfl 1 rfl ?_
          refine w_if_lt (tgt := 75) dX7_cellFrom_54 (by decide) (rfl : z23_.toInt = z23_.toInt) (fun h35_ => ?_) (fun h35_ => ?_)
          · refine w_iconst (v := (-1)) dX7_cellFrom_75 (by decide) ?_
            refine w_goto (tgt := 86) dX7_cellFrom_76 (by decide) ?_
            exact w_iret rfl dX7_cellFrom_86 ⟨rfl, (lf_c_X7_cellFrom_5 ), (Or.inl ⟨hs5_, h4_, (Or.inl ⟨hs11_, h10_, (Or.inr ⟨h13_, (Or.inl ⟨h14_, z15_, h16_, j19_, h20_, z17_, e18_, z21_, h22_, z23_, h24_, z25_, h26_, j29_, h30_, z27_, e28_, z31_, h32_, z33_, h34_, (Or.inl ⟨h35_, rfl⟩)⟩)⟩)⟩)⟩)⟩
          · refine w_iload_n dX7_cellFrom_57 rfl 1 rfl ?_
            refine w_bipush (v := 16) dX7_cellFrom_58 (by decide) ?_
            refine w_icmp_ge (tgt := 75) dX7_cellFrom_60 (by decide) (rfl : z23_.toInt = z23_.toInt) li_16 (fun h36_ => ?_) (fun h36_ => ?_)
            · refine w_iconst (v := (-1)) dX7_cellFrom_75 (by decide) ?_
              refine w_goto (tgt := 86) dX7_cellFrom_76 (by decide) ?_
              exact w_iret rfl dX7_cellFrom_86 ⟨rfl, (lf_c_X7_cellFrom_6 ), (Or.inl ⟨hs5_, h4_, (Or.inl ⟨hs11_, h10_, (Or.inr ⟨h13_, (Or.inl ⟨h14_, z15_, h16_, j19_, h20_, z17_, e18_, z21_, h22_, z23_, h24_, z25_, h26_, j29_, h30_, z27_, e28_, z31_, h32_, z33_, h34_, (Or.inr ⟨h35_, (Or.inl ⟨h36_, rfl⟩)⟩)⟩)⟩)⟩)⟩)⟩
            · refine w_iload dX7_cellFrom_63 0 rfl ?_
              refine w_if_lt (tgt := 75) dX7_cellFrom_65 (by decide) (rfl : z33_.toInt = z33_.toInt) (fun h37_ => ?_) (fun h37_ => ?_)
              · refine w_iconst (v := (-1)) dX7_cellFrom_75 (by decide) ?_
                refine w_goto (tgt := 86) dX7_cellFrom_76 (by decide) ?_
                exact w_iret rfl dX7_cellFrom_86 ⟨rfl, (lf_c_X7_cellFrom_7 ), (Or.inl ⟨hs5_, h4_, (Or.inl ⟨hs11_, h10_, (Or.inr ⟨h13_, (Or.inl ⟨h14_, z15_, h16_, j19_, h20_, z17_, e18_, z21_, h22_, z23_, h24_, z25_, h26_, j29_, h30_, z27_, e28_, z31_, h32_, z33_, h34_, (Or.inr ⟨h35_, (Or.inr ⟨h36_, (Or.inl ⟨h37_, rfl⟩)⟩)⟩)⟩)⟩)⟩)⟩)⟩
              · refine w_iload dX7_cellFrom_68 0 rfl ?_
                refine w_bipush (v := 12) dX7_cellFrom_70 (by decide) ?_
                refine w_icmp_lt (tgt := 79) dX7_cellFrom_72 (by decide) (rfl : z33_.toInt = z33_.toInt) li_12 (fun h38_ => ?_) (fun h38_ => ?_)
                · refine w_bipush (v := 16) dX7_cellFrom_79 (by decide) ?_
                  refine w_iload dX7_cellFrom_81 0 rfl ?_
                  refine w_imulB dX7_cellFrom_83 li_16 (rfl : z33_.toInt = z33_.toInt) (lf_c_X7_cellFrom_8 z33_ h37_ h38_) (fun z39_ h40_ => ?_)
                  refine w_iload_n dX7_cellFrom_84 rfl 1 rfl ?_
                  refine w_iaddB dX7_cellFrom_85 (rfl : z39_.toInt = z39_.toInt) (rfl : z23_.toInt = z23_.toInt) (lf_c_X7_cellFrom_9 z23_ z33_ z39_ h35_ h36_ h37_ h38_ h40_) (fun z41_ h42_ => ?_)
                  exact w_iret rfl dX7_cellFrom_86 ⟨rfl, (lf_c_X7_cellFrom_10 z23_ z33_ z39_ z41_ h35_ h36_ h37_ h38_ h40_ h42_), (Or.inl ⟨hs5_, h4_, (Or.inl ⟨hs11_, h10_, (Or.inr ⟨h13_, (Or.inl ⟨h14_, z15_, h16_, j19_, h20_, z17_, e18_, z21_, h22_, z23_, h24_, z25_, h26_, j29_, h30_, z27_, e28_, z31_, h32_, z33_, h34_, (Or.inr ⟨h35_, (Or.inr ⟨h36_, (Or.inr ⟨h37_, (Or.inl ⟨h38_, z39_, h40_, z41_, h42_, rfl⟩)⟩)⟩)⟩)⟩)⟩)⟩)⟩)⟩
                · refine w_iconst (v := (-1)) dX7_cellFrom_75 (by decide) ?_
                  refine w_goto (tgt := 86) dX7_cellFrom_76 (by decide) ?_
                  exact w_iret rfl dX7_cellFrom_86 ⟨rfl, (lf_c_X7_cellFrom_11 ), (Or.inl ⟨hs5_, h4_, (Or.inl ⟨hs11_, h10_, (Or.inr ⟨h13_, (Or.inl ⟨h14_, z15_, h16_, j19_, h20_, z17_, e18_, z21_, h22_, z23_, h24_, z25_, h26_, j29_, h30_, z27_, e28_, z31_, h32_, z33_, h34_, (Or.inr ⟨h35_, (Or.inr ⟨h36_, (Or.inr ⟨h37_, (Or.inr ⟨h38_, rfl⟩)⟩)⟩)⟩)⟩)⟩)⟩)⟩)⟩
        · refine w_iconst (v := (-1)) dX7_cellFrom_24 (by decide) ?_
          exact w_iret rfl dX7_cellFrom_25 ⟨rfl, (lf_c_X7_cellFrom_12 ), (Or.inl ⟨hs5_, h4_, (Or.inl ⟨hs11_, h10_, (Or.inr ⟨h13_, (Or.inr ⟨h14_, rfl⟩)⟩)⟩)⟩)⟩
    · refine w_if_eq (tgt := 24) dX7_cellFrom_11 (by decide) li_0 (fun h43_ => ?_) (fun h9 => (absurd h9 (by decide)))
      refine w_iconst (v := (-1)) dX7_cellFrom_24 (by decide) ?_
      exact w_iret rfl dX7_cellFrom_25 ⟨rfl, (lf_c_X7_cellFrom_13 ), (Or.inl ⟨hs5_, h4_, (Or.inr ⟨hs11_, h10_, rfl⟩)⟩)⟩
  · refine w_if_eq (tgt := 24) dX7_cellFrom_4 (by decide) li_0 (fun h44_ => ?_) (fun h9 => (absurd h9 (by decide)))
    refine w_iconst (v := (-1)) dX7_cellFrom_24 (by decide) ?_
    exact w_iret rfl dX7_cellFrom_25 ⟨rfl, (lf_c_X7_cellFrom_14 ), (Or.inr ⟨hs5_, h4_, rfl⟩)⟩
def SP_X9_kindAbove (v : Int32) (Mz : mM) (r_ : Int32) : Prop := (((v.toInt < 0) ∧ r_ = (-1)) ∨ ((0 ≤ v.toInt) ∧ (((8 ≤ v.toInt) ∧ r_ = (-1)) ∨ ((v.toInt < 8) ∧ ∃ j5_ : Nat, ((j5_ : Int) = v.toInt) ∧ ∃ z3_ : Int32, (z3_ = ([-1, 0, 0, 0, 0, 1, 3, 1] : List Int32).getD j5_ 0) ∧ r_ = z3_))))
theorem lf_c_X9_kindAbove_0  (v : Int32) (h1_ : 0 ≤ v.toInt) (h2_ : v.toInt < 8) : 0 ≤ v.toInt ∧ v.toInt < ((8 : Nat) : Int) := by have r_v := rngI v; omega
set_option maxHeartbeats 4000000 in
set_option maxRecDepth 100000 in
theorem c_X9_kindAbove (l : Launch) (G : va_G) (cy : Nat → ClassId) (ad : rf → Nat) (d : Nat) (v : Int32) (Mz : mM) (hIz : Inv Mz) : WP CC l G cy ad yX9_kindAbove cX9_kindAbove 1 (some .int) d 0 [(0, vI v)] [] Mz (fun r M' => Mz = M' ∧ (True) ∧ SP_X9_kindAbove v Mz r) := by
  refine w_iload_n dX9_kindAbove_0 rfl 0 rfl ?_
  refine w_if_lt (tgt := 18) dX9_kindAbove_1 (by decide) (rfl : v.toInt = v.toInt) (fun h1_ => ?_) (fun h1_ => ?_)
  · refine w_iconst (v := (-1)) dX9_kindAbove_18 (by decide) ?_
    exact w_iret rfl dX9_kindAbove_19 ⟨rfl, trivial, (Or.inl ⟨h1_, rfl⟩)⟩
  · refine w_iload_n dX9_kindAbove_4 rfl 0 rfl ?_
    refine w_bipush (v := 8) dX9_kindAbove_5 (by decide) ?_
    refine w_icmp_ge (tgt := 18) dX9_kindAbove_7 (by decide) (rfl : v.toInt = v.toInt) li_8 (fun h2_ => ?_) (fun h2_ => ?_)
    · refine w_iconst (v := (-1)) dX9_kindAbove_18 (by decide) ?_
      exact w_iret rfl dX9_kindAbove_19 ⟨rfl, trivial, (Or.inr ⟨h1_, (Or.inl ⟨h2_, rfl⟩)⟩)⟩
    · refine w_gets (k := 3) rfl m_646 dX9_kindAbove_10 ?_
      refine w_iload_n dX9_kindAbove_13 rfl 0 rfl ?_
      refine w_iaT (k := 3) rfl (rfl : v.toInt = v.toInt) (lf_c_X9_kindAbove_0 v h1_ h2_) dX9_kindAbove_14 (fun j5_ h6_ z3_ e4_ => ?_)
      refine w_goto (tgt := 19) dX9_kindAbove_15 (by decide) ?_
      exact w_iret rfl dX9_kindAbove_19 ⟨rfl, trivial, (Or.inr ⟨h1_, (Or.inr ⟨h2_, j5_, h6_, z3_, e4_, rfl⟩)⟩)⟩
