section
def SP_X11_within (v : Int32) (lo : Int32) (hi : Int32) (Mz : mM) (r_ : Int32) : Prop := (((v.toInt < lo.toInt) ∧ r_ = 0) ∨ ((lo.toInt ≤ v.toInt) ∧ (((hi.toInt < v.toInt) ∧ r_ = 0) ∨ ((v.toInt ≤ hi.toInt) ∧ r_ = 1))))
theorem lf_c_X11_within_0 (v : Int32) (lo : Int32) (hi : Int32) (h1_ : v.toInt < lo.toInt) : ¬ (lo.toInt ≤ v.toInt ∧ v.toInt ≤ hi.toInt) := by omega
theorem lf_c_X11_within_1 (v : Int32) (lo : Int32) (hi : Int32) (h2_ : hi.toInt < v.toInt) : ¬ (lo.toInt ≤ v.toInt ∧ v.toInt ≤ hi.toInt) := by omega
theorem lf_c_X11_within_2 (v : Int32) (lo : Int32) (hi : Int32) (h1_ : lo.toInt ≤ v.toInt) (h2_ : v.toInt ≤ hi.toInt) : lo.toInt ≤ v.toInt ∧ v.toInt ≤ hi.toInt := by omega
set_option maxHeartbeats 4000000 in
set_option maxRecDepth 100000 in
theorem c_X11_within (l : Launch) (G : va_G) (cy : Nat → ClassId) (ad : rf → Nat) (d : Nat) (v : Int32) (lo : Int32) (hi : Int32) (Mz : mM) (hIz : Inv Mz) : WP CC l G cy ad yX11_within cX11_within 3 (some .boolean) d 0 [(0, vI v), (1, vI lo), (2, vI hi)] [] Mz (fun r M' => Mz = M' ∧ (((r = 1 ∧ lo.toInt ≤ v.toInt ∧ v.toInt ≤ hi.toInt) ∨ (r = 0 ∧ ¬ (lo.toInt ≤ v.toInt ∧ v.toInt ≤ hi.toInt)))) ∧ SP_X11_within v lo hi Mz r) := by
  refine w_iload_n dX11_within_0 rfl 0 rfl ?_
  refine w_iload_n dX11_within_1 rfl 1 rfl ?_
  refine w_icmp_lt (tgt := 14) dX11_within_2 (by decide) (rfl : v.toInt = v.toInt) (rfl : lo.toInt = lo.toInt) (fun h1_ => ?_) (fun h1_ => ?_)
  · refine w_iconst (v := 0) dX11_within_14 (by decide) ?_
    exact w_zret rfl dX11_within_15 ⟨by decide, by decide⟩ ⟨rfl, (Or.inr ⟨rfl, (lf_c_X11_within_0 v lo hi h1_ )⟩), (Or.inl ⟨h1_, rfl⟩)⟩
  · refine w_iload_n dX11_within_5 rfl 0 rfl ?_
    refine w_iload_n dX11_within_6 rfl 2 rfl ?_
    refine w_icmp_gt (tgt := 14) dX11_within_7 (by decide) (rfl : v.toInt = v.toInt) (rfl : hi.toInt = hi.toInt) (fun h2_ => ?_) (fun h2_ => ?_)
    · refine w_iconst (v := 0) dX11_within_14 (by decide) ?_
      exact w_zret rfl dX11_within_15 ⟨by decide, by decide⟩ ⟨rfl, (Or.inr ⟨rfl, (lf_c_X11_within_1 v lo hi h2_ )⟩), (Or.inr ⟨h1_, (Or.inl ⟨h2_, rfl⟩)⟩)⟩
    · refine w_iconst (v := 1) dX11_within_10 (by decide) ?_
      refine w_goto (tgt := 15) dX11_within_11 (by decide) ?_
      exact w_zret rfl dX11_within_15 ⟨by decide, by decide⟩ ⟨rfl, (Or.inl ⟨rfl, (lf_c_X11_within_2 v lo hi h1_ h2_ )⟩), (Or.inr ⟨h1_, (Or.inr ⟨h2_, rfl⟩)⟩)⟩
def SP_X11_isThingKind (v : Int32) (Mz : mM) (r_ : Int32) : Prop := (((SP_X11_within v 0 4 Mz (1 : Int32)) ∧ (0 ≤ v.toInt ∧ v.toInt ≤ 4) ∧ r_ = 1) ∨ ((SP_X11_within v 0 4 Mz (0 : Int32)) ∧ (¬ (0 ≤ v.toInt ∧ v.toInt ≤ 4)) ∧ r_ = 0))
set_option maxHeartbeats 4000000 in
set_option maxRecDepth 100000 in
theorem c_X11_isThingKind (l : Launch) (G : va_G) (cy : Nat → ClassId) (ad : rf → Nat) (d : Nat) (v : Int32) (Mz : mM) (hIz : Inv Mz) : WP CC l G cy ad yX11_isThingKind cX11_isThingKind 1 (some .boolean) (d + 1) 0 [(0, vI v)] [] Mz (fun r M' => Mz = M' ∧ (((r = 1 ∧ 0 ≤ v.toInt ∧ v.toInt ≤ 4) ∨ (r = 0 ∧ ¬ (0 ≤ v.toInt ∧ v.toInt ≤ 4)))) ∧ SP_X11_isThingKind v Mz r) := by
  refine w_iload_n dX11_isThingKind_0 rfl 0 rfl ?_
  refine w_iconst (v := 0) dX11_isThingKind_1 (by decide) ?_
  refine w_iconst (v := 4) dX11_isThingKind_2 (by decide) ?_
  refine w_callS (as := [vI v, vI 0, vI 4]) (rest := []) (c_X11_within l G cy ad d v 0 4 Mz hIz) kS_X11_within pnn_0 (Nat.le_of_ble_eq_true rfl) m_494 rfl rfl (by decide) (Nat.le_of_ble_eq_true rfl) dX11_isThingKind_3 (fun r1_ M2_ q3_ => ?_)
  obtain ⟨rfl, h4_, hs5_⟩ := q3_
  rcases h4_ with ⟨rfl, h4_⟩ | ⟨rfl, h4_⟩
  · simp only [li_0, li_4] at h4_
    exact w_zret rfl dX11_isThingKind_6 ⟨by decide, by decide⟩ ⟨rfl, (Or.inl ⟨rfl, h4_⟩), (Or.inl ⟨hs5_, h4_, rfl⟩)⟩
  · simp only [li_0, li_4] at h4_
    exact w_zret rfl dX11_isThingKind_6 ⟨by decide, by decide⟩ ⟨rfl, (Or.inr ⟨rfl, h4_⟩), (Or.inr ⟨hs5_, h4_, rfl⟩)⟩
def SP_X11_isWalkerKind (v : Int32) (Mz : mM) (r_ : Int32) : Prop := (((SP_X11_within v 0 7 Mz (1 : Int32)) ∧ (0 ≤ v.toInt ∧ v.toInt ≤ 7) ∧ r_ = 1) ∨ ((SP_X11_within v 0 7 Mz (0 : Int32)) ∧ (¬ (0 ≤ v.toInt ∧ v.toInt ≤ 7)) ∧ r_ = 0))
set_option maxHeartbeats 4000000 in
set_option maxRecDepth 100000 in
theorem c_X11_isWalkerKind (l : Launch) (G : va_G) (cy : Nat → ClassId) (ad : rf → Nat) (d : Nat) (v : Int32) (Mz : mM) (hIz : Inv Mz) : WP CC l G cy ad yX11_isWalkerKind cX11_isWalkerKind 1 (some .boolean) (d + 1) 0 [(0, vI v)] [] Mz (fun r M' => Mz = M' ∧ (((r = 1 ∧ 0 ≤ v.toInt ∧ v.toInt ≤ 7) ∨ (r = 0 ∧ ¬ (0 ≤ v.toInt ∧ v.toInt ≤ 7)))) ∧ SP_X11_isWalkerKind v Mz r) := by
  refine w_iload_n dX11_isWalkerKind_0 rfl 0 rfl ?_
  refine w_iconst (v := 0) dX11_isWalkerKind_1 (by decide) ?_
  refine w_bipush (v := 7) dX11_isWalkerKind_2 (by decide) ?_
  refine w_callS (as := [vI v, vI 0, vI 7]) (rest := []) (c_X11_within l G cy ad d v 0 7 Mz hIz) kS_X11_within pnn_0 (Nat.le_of_ble_eq_true rfl) m_494 rfl rfl (by decide) (Nat.le_of_ble_eq_true rfl) dX11_isWalkerKind_4 (fun r1_ M2_ q3_ => ?_)
  obtain ⟨rfl, h4_, hs5_⟩ := q3_
  rcases h4_ with ⟨rfl, h4_⟩ | ⟨rfl, h4_⟩
  · simp only [li_0, li_7] at h4_
    exact w_zret rfl dX11_isWalkerKind_7 ⟨by decide, by decide⟩ ⟨rfl, (Or.inl ⟨rfl, h4_⟩), (Or.inl ⟨hs5_, h4_, rfl⟩)⟩
  · simp only [li_0, li_7] at h4_
    exact w_zret rfl dX11_isWalkerKind_7 ⟨by decide, by decide⟩ ⟨rfl, (Or.inr ⟨rfl, h4_⟩), (Or.inr ⟨hs5_, h4_, rfl⟩)⟩
def SP_X11_isSheet (v : Int32) (Mz : mM) (r_ : Int32) : Prop := (((SP_X11_within v 0 3 Mz (1 : Int32)) ∧ (0 ≤ v.toInt ∧ v.toInt ≤ 3) ∧ r_ = 1) ∨ ((SP_X11_within v 0 3 Mz (0 : Int32)) ∧ (¬ (0 ≤ v.toInt ∧ v.toInt ≤ 3)) ∧ r_ = 0))
set_option maxHeartbeats 4000000 in
set_option maxRecDepth 100000 in
theorem c_X11_isSheet (l : Launch) (G : va_G) (cy : Nat → ClassId) (ad : rf → Nat) (d : Nat) (v : Int32) (Mz : mM) (hIz : Inv Mz) : WP CC l G cy ad yX11_isSheet cX11_isSheet 1 (some .boolean) (d + 1) 0 [(0, vI v)] [] Mz (fun r M' => Mz = M' ∧ (((r = 1 ∧ 0 ≤ v.toInt ∧ v.toInt ≤ 3) ∨ (r = 0 ∧ ¬ (0 ≤ v.toInt ∧ v.toInt ≤ 3)))) ∧ SP_X11_isSheet v Mz r) := by
  refine w_iload_n dX11_isSheet_0 rfl 0 rfl ?_
  refine w_iconst (v := 0) dX11_isSheet_1 (by decide) ?_
  refine w_iconst (v := 3) dX11_isSheet_2 (by decide) ?_
  refine w_callS (as := [vI v, vI 0, vI 3]) (rest := []) (c_X11_within l G cy ad d v 0 3 Mz hIz) kS_X11_within pnn_0 (Nat.le_of_ble_eq_true rfl) m_494 rfl rfl (by decide) (Nat.le_of_ble_eq_true rfl) dX11_isSheet_3 (fun r1_ M2_ q3_ => ?_)
  obtain ⟨rfl, h4_, hs5_⟩ := q3_
  rcases h4_ with ⟨rfl, h4_⟩ | ⟨rfl, h4_⟩
  · simp only [li_0, li_3] at h4_
    exact w_zret rfl dX11_isSheet_6 ⟨by decide, by decide⟩ ⟨rfl, (Or.inl ⟨rfl, h4_⟩), (Or.inl ⟨hs5_, h4_, rfl⟩)⟩
  · simp only [li_0, li_3] at h4_
    exact w_zret rfl dX11_isSheet_6 ⟨by decide, by decide⟩ ⟨rfl, (Or.inr ⟨rfl, h4_⟩), (Or.inr ⟨hs5_, h4_, rfl⟩)⟩
def SP_X11_isBits (v : Int32) (Mz : mM) (r_ : Int32) : Prop := (((SP_X11_within v 0 31 Mz (1 : Int32)) ∧ (0 ≤ v.toInt ∧ v.toInt ≤ 31) ∧ r_ = 1) ∨ ((SP_X11_within v 0 31 Mz (0 : Int32)) ∧ (¬ (0 ≤ v.toInt ∧ v.toInt ≤ 31)) ∧ r_ = 0))
set_option maxHeartbeats 4000000 in
set_option maxRecDepth 100000 in
theorem c_X11_isBits (l : Launch) (G : va_G) (cy : Nat → ClassId) (ad : rf → Nat) (d : Nat) (v : Int32) (Mz : mM) (hIz : Inv Mz) : WP CC l G cy ad yX11_isBits cX11_isBits 1 (some .boolean) (d + 1) 0 [(0, vI v)] [] Mz (fun r M' => Mz = M' ∧ (((r = 1 ∧ 0 ≤ v.toInt ∧ v.toInt ≤ 31) ∨ (r = 0 ∧ ¬ (0 ≤ v.toInt ∧ v.toInt ≤ 31)))) ∧ SP_X11_isBits v Mz r) := by
  refine w_iload_n dX11_isBits_0 rfl 0 rfl ?_
  refine w_iconst (v := 0) dX11_isBits_1 (by decide) ?_
  refine w_bipush (v := 31) dX11_isBits_2 (by decide) ?_
  refine w_callS (as := [vI v, vI 0, vI 31]) (rest := []) (c_X11_within l G cy ad d v 0 31 Mz hIz) kS_X11_within pnn_0 (Nat.le_of_ble_eq_true rfl) m_494 rfl rfl (by decide) (Nat.le_of_ble_eq_true rfl) dX11_isBits_4 (fun r1_ M2_ q3_ => ?_)
  obtain ⟨rfl, h4_, hs5_⟩ := q3_
  rcases h4_ with ⟨rfl, h4_⟩ | ⟨rfl, h4_⟩
  · simp only [li_0, li_31] at h4_
    exact w_zret rfl dX11_isBits_7 ⟨by decide, by decide⟩ ⟨rfl, (Or.inl ⟨rfl, h4_⟩), (Or.inl ⟨hs5_, h4_, rfl⟩)⟩
  · simp only [li_0, li_31] at h4_
    exact w_zret rfl dX11_isBits_7 ⟨by decide, by decide⟩ ⟨rfl, (Or.inr ⟨rfl, h4_⟩), (Or.inr ⟨hs5_, h4_, rfl⟩)⟩
def SP_X7_isCell (v : Int32) (Mz : mM) (r_ : Int32) : Prop := (((v.toInt < 0) ∧ r_ = 0) ∨ ((0 ≤ v.toInt) ∧ (((192 ≤ v.toInt) ∧ r_ = 0) ∨ ((v.toInt < 192) ∧ r_ = 1))))
theorem lf_c_X7_isCell_0 (v : Int32) (h1_ : v.toInt < 0) : ¬ (0 ≤ v.toInt ∧ v.toInt ≤ 191) := by omega
theorem lf_c_X7_isCell_1 (v : Int32) (h2_ : 192 ≤ v.toInt) : ¬ (0 ≤ v.toInt ∧ v.toInt ≤ 191) := by omega
theorem lf_c_X7_isCell_2 (v : Int32) (h1_ : 0 ≤ v.toInt) (h2_ : v.toInt < 192) : 0 ≤ v.toInt ∧ v.toInt ≤ 191 := by omega
set_option maxHeartbeats 4000000 in
set_option maxRecDepth 100000 in
theorem c_X7_isCell (l : Launch) (G : va_G) (cy : Nat → ClassId) (ad : rf → Nat) (d : Nat) (v : Int32) (Mz : mM) (hIz : Inv Mz) : WP CC l G cy ad yX7_isCell cX7_isCell 1 (some .boolean) d 0 [(0, vI v)] [] Mz (fun r M' => Mz = M' ∧ (((r = 1 ∧ 0 ≤ v.toInt ∧ v.toInt ≤ 191) ∨ (r = 0 ∧ ¬ (0 ≤ v.toInt ∧ v.toInt ≤ 191)))) ∧ SP_X7_isCell v Mz r) := by
  refine w_iload_n dX7_isCell_0 rfl 0 rfl ?_
  refine w_if_lt (tgt := 15) dX7_isCell_1 (by decide) (rfl : v.toInt = v.toInt) (fun h1_ => ?_) (fun h1_ => ?_)
  · refine w_iconst (v := 0) dX7_isCell_15 (by decide) ?_
    exact w_zret rfl dX7_isCell_16 ⟨by decide, by decide⟩ ⟨rfl, (Or.inr ⟨rfl, (lf_c_X7_isCell_0 v h1_ )⟩), (Or.inl ⟨h1_, rfl⟩)⟩
  · refine w_iload_n dX7_isCell_4 rfl 0 rfl ?_
    refine w_sipush (v := 192) dX7_isCell_5 (by decide) ?_
    refine w_icmp_ge (tgt := 15) dX7_isCell_8 (by decide) (rfl : v.toInt = v.toInt) li_192 (fun h2_ => ?_) (fun h2_ => ?_)
    · refine w_iconst (v := 0) dX7_isCell_15 (by decide) ?_
      exact w_zret rfl dX7_isCell_16 ⟨by decide, by decide⟩ ⟨rfl, (Or.inr ⟨rfl, (lf_c_X7_isCell_1 v h2_ )⟩), (Or.inr ⟨h1_, (Or.inl ⟨h2_, rfl⟩)⟩)⟩
    · refine w_iconst (v := 1) dX7_isCell_11 (by decide) ?_
      refine w_goto (tgt := 16) dX7_isCell_12 (by decide) ?_
      exact w_zret rfl dX7_isCell_16 ⟨by decide, by decide⟩ ⟨rfl, (Or.inl ⟨rfl, (lf_c_X7_isCell_2 v h1_ h2_ )⟩), (Or.inr ⟨h1_, (Or.inr ⟨h2_, rfl⟩)⟩)⟩
def SP_X7_isSide (v : Int32) (Mz : mM) (r_ : Int32) : Prop := (((v.toInt < 0) ∧ r_ = 0) ∨ ((0 ≤ v.toInt) ∧ (((8 ≤ v.toInt) ∧ r_ = 0) ∨ ((v.toInt < 8) ∧ r_ = 1))))
theorem lf_c_X7_isSide_0 (v : Int32) (h1_ : v.toInt < 0) : ¬ (0 ≤ v.toInt ∧ v.toInt ≤ 7) := by omega
theorem lf_c_X7_isSide_1 (v : Int32) (h2_ : 8 ≤ v.toInt) : ¬ (0 ≤ v.toInt ∧ v.toInt ≤ 7) := by omega
theorem lf_c_X7_isSide_2 (v : Int32) (h1_ : 0 ≤ v.toInt) (h2_ : v.toInt < 8) : 0 ≤ v.toInt ∧ v.toInt ≤ 7 := by omega
set_option maxHeartbeats 4000000 in
set_option maxRecDepth 100000 in
theorem c_X7_isSide (l : Launch) (G : va_G) (cy : Nat → ClassId) (ad : rf → Nat) (d : Nat) (v : Int32) (Mz : mM) (hIz : Inv Mz) : WP CC l G cy ad yX7_isSide cX7_isSide 1 (some .boolean) d 0 [(0, vI v)] [] Mz (fun r M' => Mz = M' ∧ (((r = 1 ∧ 0 ≤ v.toInt ∧ v.toInt ≤ 7) ∨ (r = 0 ∧ ¬ (0 ≤ v.toInt ∧ v.toInt ≤ 7)))) ∧ SP_X7_isSide v Mz r) := by
  refine w_iload_n dX7_isSide_0 rfl 0 rfl ?_
  refine w_if_lt (tgt := 14) dX7_isSide_1 (by decide) (rfl : v.toInt = v.toInt) (fun h1_ => ?_) (fun h1_ => ?_)
  · refine w_iconst (v := 0) dX7_isSide_14 (by decide) ?_
    exact w_zret rfl dX7_isSide_15 ⟨by decide, by decide⟩ ⟨rfl, (Or.inr ⟨rfl, (lf_c_X7_isSide_0 v h1_ )⟩), (Or.inl ⟨h1_, rfl⟩)⟩
  · refine w_iload_n dX7_isSide_4 rfl 0 rfl ?_
    refine w_bipush (v := 8) dX7_isSide_5 (by decide) ?_
    refine w_icmp_ge (tgt := 14) dX7_isSide_7 (by decide) (rfl : v.toInt = v.toInt) li_8 (fun h2_ => ?_) (fun h2_ => ?_)
    · refine w_iconst (v := 0) dX7_isSide_14 (by decide) ?_
      exact w_zret rfl dX7_isSide_15 ⟨by decide, by decide⟩ ⟨rfl, (Or.inr ⟨rfl, (lf_c_X7_isSide_1 v h2_ )⟩), (Or.inr ⟨h1_, (Or.inl ⟨h2_, rfl⟩)⟩)⟩
    · refine w_iconst (v := 1) dX7_isSide_10 (by decide) ?_
      refine w_goto (tgt := 15) dX7_isSide_11 (by decide) ?_
      exact w_zret rfl dX7_isSide_15 ⟨by decide, by decide⟩ ⟨rfl, (Or.inl ⟨rfl, (lf_c_X7_isSide_2 v h1_ h2_ )⟩), (Or.inr ⟨h1_, (Or.inr ⟨h2_, rfl⟩)⟩)⟩
def SP_X7_cellFrom (v : Int32) (sd : Int32) (yd : Int32) (Mz : mM) (r_ : Int32) : Prop := (((SP_X7_isCell v Mz (1 : Int32)) ∧ (0 ≤ v.toInt ∧ v.toInt ≤ 191) ∧ (((SP_X7_isSide sd Mz (1 : Int32)) ∧ (0 ≤ sd.toInt ∧ sd.toInt ≤ 7) ∧ (((yd.toInt < 0) ∧ r_ = (-1)) ∨ ((0 ≤ yd.toInt) ∧ (((yd.toInt ≤ 16) ∧ ∃ z15_ : Int32, (z15_.toInt = v.toInt % 16) ∧ ∃ j19_ : Nat, ((j19_ : Int) = sd.toInt) ∧ ∃ z17_ : Int32, (z17_ = ([0, 1, 1, 1, 0, -1, -1, -1] : List Int32).getD j19_ 0) ∧ ∃ z21_ : Int32, (z21_ = yd * z17_) ∧ ∃ z23_ : Int32, (z23_ = z15_ + z21_) ∧ ∃ z25_ : Int32, (z25_.toInt = v.toInt / 16) ∧ ∃ j29_ : Nat, ((j29_ : Int) = sd.toInt) ∧ ∃ z27_ : Int32, (z27_ = ([-1, -1, 0, 1, 1, 1, 0, -1] : List Int32).getD j29_ 0) ∧ ∃ z31_ : Int32, (z31_ = yd * z27_) ∧ ∃ z33_ : Int32, (z33_ = z25_ + z31_) ∧ (((z23_.toInt < 0) ∧ r_ = (-1)) ∨ ((0 ≤ z23_.toInt) ∧ (((16 ≤ z23_.toInt) ∧ r_ = (-1)) ∨ ((z23_.toInt < 16) ∧ (((z33_.toInt < 0) ∧ r_ = (-1)) ∨ ((0 ≤ z33_.toInt) ∧ (((z33_.toInt < 12) ∧ ∃ z39_ : Int32, (z39_.toInt = 16 * z33_.toInt) ∧ ∃ z41_ : Int32, (z41_.toInt = z39_.toInt + z23_.toInt) ∧ r_ = z41_) ∨ ((12 ≤ z33_.toInt) ∧ r_ = (-1)))))))))) ∨ ((16 < yd.toInt) ∧ r_ = (-1)))))) ∨ ((SP_X7_isSide sd Mz (0 : Int32)) ∧ (¬ (0 ≤ sd.toInt ∧ sd.toInt ≤ 7)) ∧ r_ = (-1)))) ∨ ((SP_X7_isCell v Mz (0 : Int32)) ∧ (¬ (0 ≤ v.toInt ∧ v.toInt ≤ 191)) ∧ r_ = (-1)))
theorem lf_c_X7_cellFrom_0 : -1 ≤ ((-1) : Int32).toInt ∧ ((-1) : Int32).toInt ≤ 191 := by have r9 := li_m1; omega
theorem lf_c_X7_cellFrom_1 (v : Int32) (h4_ : 0 ≤ v.toInt ∧ v.toInt ≤ 191) : 0 ≤ v.toInt := by omega
theorem lf_c_X7_cellFrom_2 (sd : Int32) (h10_ : 0 ≤ sd.toInt ∧ sd.toInt ≤ 7) : 0 ≤ sd.toInt ∧ sd.toInt < ((8 : Nat) : Int) := by omega
theorem lf_c_X7_cellFrom_8 (z33_ : Int32) (h37_ : 0 ≤ z33_.toInt) (h38_ : z33_.toInt < 12) : -2147483648 ≤ 16 * z33_.toInt ∧ 16 * z33_.toInt < 2147483648 := by omega
theorem lf_c_X7_cellFrom_9 (z23_ : Int32) (z33_ : Int32) (z39_ : Int32) (h35_ : 0 ≤ z23_.toInt) (h36_ : z23_.toInt < 16) (h37_ : 0 ≤ z33_.toInt) (h38_ : z33_.toInt < 12) (h40_ : z39_.toInt = 16 * z33_.toInt) : -2147483648 ≤ z39_.toInt + z23_.toInt ∧ z39_.toInt + z23_.toInt < 2147483648 := by omega
theorem lf_c_X7_cellFrom_10 (z23_ : Int32) (z33_ : Int32) (z39_ : Int32) (z41_ : Int32) (h35_ : 0 ≤ z23_.toInt) (h36_ : z23_.toInt < 16) (h37_ : 0 ≤ z33_.toInt) (h38_ : z33_.toInt < 12) (h40_ : z39_.toInt = 16 * z33_.toInt) (h42_ : z41_.toInt = z39_.toInt + z23_.toInt) : -1 ≤ z41_.toInt ∧ z41_.toInt ≤ 191 := by omega
set_option maxHeartbeats 4000000 in
set_option maxRecDepth 100000 in
theorem c_X7_cellFrom (l : Launch) (G : va_G) (cy : Nat → ClassId) (ad : rf → Nat) (d : Nat) (v : Int32) (sd : Int32) (yd : Int32) (Mz : mM) (hIz : Inv Mz) : WP CC l G cy ad yX7_cellFrom cX7_cellFrom 5 (some .int) (d + 1) 0 [(0, vI v), (1, vI sd), (2, vI yd)] [] Mz (fun r M' => Mz = M' ∧ (-1 ≤ r.toInt ∧ r.toInt ≤ 191) ∧ SP_X7_cellFrom v sd yd Mz r) := by
  refine w_iload_n dX7_cellFrom_0 rfl 0 rfl ?_
  refine w_callS (as := [vI v]) (rest := []) (c_X7_isCell l G cy ad d v Mz hIz) kS_X7_isCell pnn_1 (Nat.le_of_ble_eq_true rfl) m_509 rfl rfl (by decide) (Nat.le_of_ble_eq_true rfl) dX7_cellFrom_1 (fun r1_ M2_ q3_ => ?_)
  obtain ⟨rfl, h4_, hs5_⟩ := q3_
  rcases h4_ with ⟨rfl, h4_⟩ | ⟨rfl, h4_⟩
  · refine w_if_eq (tgt := 24) dX7_cellFrom_4 (by decide) li_1 (fun h9 => (absurd h9 (by decide))) (fun h6_ => ?_)
    refine w_iload_n dX7_cellFrom_7 rfl 1 rfl ?_
    refine w_callS (as := [vI sd]) (rest := []) (c_X7_isSide l G cy ad d sd Mz hIz) kS_X7_isSide pnn_1 (Nat.le_of_ble_eq_true rfl) m_852 rfl rfl (by decide) (Nat.le_of_ble_eq_true rfl) dX7_cellFrom_8 (fun r7_ M8_ q9_ => ?_)
    obtain ⟨rfl, h10_, hs11_⟩ := q9_
    rcases h10_ with ⟨rfl, h10_⟩ | ⟨rfl, h10_⟩
    · refine w_if_eq (tgt := 24) dX7_cellFrom_11 (by decide) li_1 (fun h9 => (absurd h9 (by decide))) (fun h12_ => ?_)
      refine w_iload_n dX7_cellFrom_14 rfl 2 rfl ?_
      refine w_if_lt (tgt := 24) dX7_cellFrom_15 (by decide) (rfl : yd.toInt = yd.toInt) (fun h13_ => ?_) (fun h13_ => ?_)
      · refine w_iconst (v := (-1)) dX7_cellFrom_24 (by decide) ?_
        exact w_iret rfl dX7_cellFrom_25 ⟨rfl, (lf_c_X7_cellFrom_0 ), (Or.inl ⟨hs5_, h4_, (Or.inl ⟨hs11_, h10_, (Or.inl ⟨h13_, rfl⟩)⟩)⟩)⟩
      · refine w_iload_n dX7_cellFrom_18 rfl 2 rfl ?_
        refine w_bipush (v := 16) dX7_cellFrom_19 (by decide) ?_
        refine w_icmp_le (tgt := 26) dX7_cellFrom_21 (by decide) (rfl : yd.toInt = yd.toInt) li_16 (fun h14_ => ?_) (fun h14_ => ?_)
        · refine w_iload_n dX7_cellFrom_26 rfl 0 rfl ?_
          refine w_bipush (v := 16) dX7_cellFrom_27 (by decide) ?_
          refine w_iremB dX7_cellFrom_29 (by decide) (rfl : v.toInt = v.toInt) li_16 (lf_c_X7_cellFrom_1 v h4_ ) (by decide) (fun z15_ h16_ => ?_)
          refine w_iload_n dX7_cellFrom_30 rfl 2 rfl ?_
          refine w_gets (k := 4) rfl m_853 dX7_cellFrom_31 ?_
          refine w_iload_n dX7_cellFrom_34 rfl 1 rfl ?_
          refine w_iaT (k := 4) rfl (rfl : sd.toInt = sd.toInt) (lf_c_X7_cellFrom_2 sd h10_ ) dX7_cellFrom_35 (fun j19_ h20_ z17_ e18_ => ?_)
          refine w_imul dX7_cellFrom_36 (fun z21_ h22_ => ?_)
          refine w_iadd dX7_cellFrom_37 (fun z23_ h24_ => ?_)
          refine w_istore_n (ls' := [(3, vI z23_), (0, vI v), (1, vI sd), (2, vI yd)]) dX7_cellFrom_38 rfl (by decide) rfl ?_
          refine w_iload_n dX7_cellFrom_39 rfl 1 rfl ?_
          refine w_bipush (v := 16) dX7_cellFrom_40 (by decide) ?_
          refine w_idivB dX7_cellFrom_42 (by decide) (rfl : v.toInt = v.toInt) li_16 (lf_c_X7_cellFrom_1 v h4_ ) (by decide) (fun z25_ h26_ => ?_)
          refine w_iload_n dX7_cellFrom_43 rfl 3 rfl ?_
          refine w_gets (k := 5) rfl m_855 dX7_cellFrom_44 ?_
          refine w_iload_n dX7_cellFrom_47 rfl 2 rfl ?_
          refine w_iaT (k := 5) rfl (rfl : sd.toInt = sd.toInt) (lf_c_X7_cellFrom_2 sd h10_ ) dX7_cellFrom_48 (fun j29_ h30_ z27_ e28_ => ?_)
          refine w_imul dX7_cellFrom_49 (fun z31_ h32_ => ?_)
          refine w_iadd dX7_cellFrom_50 (fun z33_ h34_ => ?_)
          refine w_istore (ls' := [(4, vI z33_), (3, vI z23_), (0, vI v), (1, vI sd), (2, vI yd)]) dX7_cellFrom_51 (by decide) rfl ?_
          refine w_iload_n dX7_cellFrom_53 rfl 1 rfl ?_
          refine w_if_lt (tgt := 75) dX7_cellFrom_54 (by decide) (rfl : z23_.toInt = z23_.toInt) (fun h35_ => ?_) (fun h35_ => ?_)
          · refine w_iconst (v := (-1)) dX7_cellFrom_75 (by decide) ?_
            refine w_goto (tgt := 86) dX7_cellFrom_76 (by decide) ?_
            exact w_iret rfl dX7_cellFrom_86 ⟨rfl, (lf_c_X7_cellFrom_0 ), (Or.inl ⟨hs5_, h4_, (Or.inl ⟨hs11_, h10_, (Or.inr ⟨h13_, (Or.inl ⟨h14_, z15_, h16_, j19_, h20_, z17_, e18_, z21_, h22_, z23_, h24_, z25_, h26_, j29_, h30_, z27_, e28_, z31_, h32_, z33_, h34_, (Or.inl ⟨h35_, rfl⟩)⟩)⟩)⟩)⟩)⟩
          · refine w_iload_n dX7_cellFrom_57 rfl 1 rfl ?_
            refine w_bipush (v := 16) dX7_cellFrom_58 (by decide) ?_
            refine w_icmp_ge (tgt := 75) dX7_cellFrom_60 (by decide) (rfl : z23_.toInt = z23_.toInt) li_16 (fun h36_ => ?_) (fun h36_ => ?_)
            · refine w_iconst (v := (-1)) dX7_cellFrom_75 (by decide) ?_
              refine w_goto (tgt := 86) dX7_cellFrom_76 (by decide) ?_
              exact w_iret rfl dX7_cellFrom_86 ⟨rfl, (lf_c_X7_cellFrom_0 ), (Or.inl ⟨hs5_, h4_, (Or.inl ⟨hs11_, h10_, (Or.inr ⟨h13_, (Or.inl ⟨h14_, z15_, h16_, j19_, h20_, z17_, e18_, z21_, h22_, z23_, h24_, z25_, h26_, j29_, h30_, z27_, e28_, z31_, h32_, z33_, h34_, (Or.inr ⟨h35_, (Or.inl ⟨h36_, rfl⟩)⟩)⟩)⟩)⟩)⟩)⟩
            · refine w_iload dX7_cellFrom_63 0 rfl ?_
              refine w_if_lt (tgt := 75) dX7_cellFrom_65 (by decide) (rfl : z33_.toInt = z33_.toInt) (fun h37_ => ?_) (fun h37_ => ?_)
              · refine w_iconst (v := (-1)) dX7_cellFrom_75 (by decide) ?_
                refine w_goto (tgt := 86) dX7_cellFrom_76 (by decide) ?_
                exact w_iret rfl dX7_cellFrom_86 ⟨rfl, (lf_c_X7_cellFrom_0 ), (Or.inl ⟨hs5_, h4_, (Or.inl ⟨hs11_, h10_, (Or.inr ⟨h13_, (Or.inl ⟨h14_, z15_, h16_, j19_, h20_, z17_, e18_, z21_, h22_, z23_, h24_, z25_, h26_, j29_, h30_, z27_, e28_, z31_, h32_, z33_, h34_, (Or.inr ⟨h35_, (Or.inr ⟨h36_, (Or.inl ⟨h37_, rfl⟩)⟩)⟩)⟩)⟩)⟩)⟩)⟩
              · refine w_iload dX7_cellFrom_68 0 rfl ?_
                refine w_bipush (v := 12) dX7_cellFrom_70 (by decide) ?_
                refine w_icmp_lt (tgt := 79) dX7_cellFrom_72 (by decide) (rfl : z33_.toInt = z33_.toInt) li_12 (fun h38_ => ?_) (fun h38_ => ?_)
                · refine w_bipush (v := 16) dX7_cellFrom_79 (by decide) ?_
                  refine w_iload dX7_cellFrom_81 0 rfl ?_
                  refine w_imulB dX7_cellFrom_83 li_16 (rfl : z33_.toInt = z33_.toInt) (lf_c_X7_cellFrom_8 z33_ h37_ h38_ ) (fun z39_ h40_ => ?_)
                  refine w_iload_n dX7_cellFrom_84 rfl 1 rfl ?_
                  refine w_iaddB dX7_cellFrom_85 (rfl : z39_.toInt = z39_.toInt) (rfl : z23_.toInt = z23_.toInt) (lf_c_X7_cellFrom_9 z23_ z33_ z39_ h35_ h36_ h37_ h38_ h40_ ) (fun z41_ h42_ => ?_)
                  exact w_iret rfl dX7_cellFrom_86 ⟨rfl, (lf_c_X7_cellFrom_10 z23_ z33_ z39_ z41_ h35_ h36_ h37_ h38_ h40_ h42_ ), (Or.inl ⟨hs5_, h4_, (Or.inl ⟨hs11_, h10_, (Or.inr ⟨h13_, (Or.inl ⟨h14_, z15_, h16_, j19_, h20_, z17_, e18_, z21_, h22_, z23_, h24_, z25_, h26_, j29_, h30_, z27_, e28_, z31_, h32_, z33_, h34_, (Or.inr ⟨h35_, (Or.inr ⟨h36_, (Or.inr ⟨h37_, (Or.inl ⟨h38_, z39_, h40_, z41_, h42_, rfl⟩)⟩)⟩)⟩)⟩)⟩)⟩)⟩)⟩
                · refine w_iconst (v := (-1)) dX7_cellFrom_75 (by decide) ?_
                  refine w_goto (tgt := 86) dX7_cellFrom_76 (by decide) ?_
                  exact w_iret rfl dX7_cellFrom_86 ⟨rfl, (lf_c_X7_cellFrom_0 ), (Or.inl ⟨hs5_, h4_, (Or.inl ⟨hs11_, h10_, (Or.inr ⟨h13_, (Or.inl ⟨h14_, z15_, h16_, j19_, h20_, z17_, e18_, z21_, h22_, z23_, h24_, z25_, h26_, j29_, h30_, z27_, e28_, z31_, h32_, z33_, h34_, (Or.inr ⟨h35_, (Or.inr ⟨h36_, (Or.inr ⟨h37_, (Or.inr ⟨h38_, rfl⟩)⟩)⟩)⟩)⟩)⟩)⟩)⟩)⟩
        · refine w_iconst (v := (-1)) dX7_cellFrom_24 (by decide) ?_
          exact w_iret rfl dX7_cellFrom_25 ⟨rfl, (lf_c_X7_cellFrom_0 ), (Or.inl ⟨hs5_, h4_, (Or.inl ⟨hs11_, h10_, (Or.inr ⟨h13_, (Or.inr ⟨h14_, rfl⟩)⟩)⟩)⟩)⟩
    · refine w_if_eq (tgt := 24) dX7_cellFrom_11 (by decide) li_0 (fun h43_ => ?_) (fun h9 => (absurd h9 (by decide)))
      refine w_iconst (v := (-1)) dX7_cellFrom_24 (by decide) ?_
      exact w_iret rfl dX7_cellFrom_25 ⟨rfl, (lf_c_X7_cellFrom_0 ), (Or.inl ⟨hs5_, h4_, (Or.inr ⟨hs11_, h10_, rfl⟩)⟩)⟩
  · refine w_if_eq (tgt := 24) dX7_cellFrom_4 (by decide) li_0 (fun h44_ => ?_) (fun h9 => (absurd h9 (by decide)))
    refine w_iconst (v := (-1)) dX7_cellFrom_24 (by decide) ?_
    exact w_iret rfl dX7_cellFrom_25 ⟨rfl, (lf_c_X7_cellFrom_0 ), (Or.inr ⟨hs5_, h4_, rfl⟩)⟩
def SP_X9_kindAbove (v : Int32) (Mz : mM) (r_ : Int32) : Prop := (((v.toInt < 0) ∧ r_ = (-1)) ∨ ((0 ≤ v.toInt) ∧ (((8 ≤ v.toInt) ∧ r_ = (-1)) ∨ ((v.toInt < 8) ∧ ∃ j5_ : Nat, ((j5_ : Int) = v.toInt) ∧ ∃ z3_ : Int32, (z3_ = ([-1, 0, 0, 0, 0, 1, 3, 1] : List Int32).getD j5_ 0) ∧ r_ = z3_))))
theorem lf_c_X9_kindAbove_0 (v : Int32) (h1_ : 0 ≤ v.toInt) (h2_ : v.toInt < 8) : 0 ≤ v.toInt ∧ v.toInt < ((8 : Nat) : Int) := by omega
set_option maxHeartbeats 4000000 in
set_option maxRecDepth 100000 in
theorem c_X9_kindAbove (l : Launch) (G : va_G) (cy : Nat → ClassId) (ad : rf → Nat) (d : Nat) (v : Int32) (Mz : mM) (hIz : Inv Mz) : WP CC l G cy ad yX9_kindAbove cX9_kindAbove 1 (some .int) d 0 [(0, vI v)] [] Mz (fun r M' => Mz = M' ∧ (True) ∧ SP_X9_kindAbove v Mz r) := by
  refine w_iload_n dX9_kindAbove_0 rfl 0 rfl ?_
  refine w_if_lt (tgt := 18) dX9_kindAbove_1 (by decide) (rfl : v.toInt = v.toInt) (fun h1_ => ?_) (fun h1_ => ?_)
  · refine w_iconst (v := (-1)) dX9_kindAbove_18 (by decide) ?_
    exact w_iret rfl dX9_kindAbove_19 ⟨rfl, trivial, (Or.inl ⟨h1_, rfl⟩)⟩
  · refine w_iload_n dX9_kindAbove_4 rfl 0 rfl ?_
    refine w_bipush (v := 8) dX9_kindAbove_5 (by decide) ?_
    refine w_icmp_ge (tgt := 18) dX9_kindAbove_7 (by decide) (rfl : v.toInt = v.toInt) li_8 (fun h2_ => ?_) (fun h2_ => ?_)
    · refine w_iconst (v := (-1)) dX9_kindAbove_18 (by decide) ?_
      exact w_iret rfl dX9_kindAbove_19 ⟨rfl, trivial, (Or.inr ⟨h1_, (Or.inl ⟨h2_, rfl⟩)⟩)⟩
    · refine w_gets (k := 3) rfl m_646 dX9_kindAbove_10 ?_
      refine w_iload_n dX9_kindAbove_13 rfl 0 rfl ?_
      refine w_iaT (k := 3) rfl (rfl : v.toInt = v.toInt) (lf_c_X9_kindAbove_0 v h1_ h2_ ) dX9_kindAbove_14 (fun j5_ h6_ z3_ e4_ => ?_)
      refine w_goto (tgt := 19) dX9_kindAbove_15 (by decide) ?_
      exact w_iret rfl dX9_kindAbove_19 ⟨rfl, trivial, (Or.inr ⟨h1_, (Or.inr ⟨h2_, j5_, h6_, z3_, e4_, rfl⟩)⟩)⟩
end
section
/-! words of the tables that are used, by their places; decode rows; fields -/
theorem li_m2 : ((-2) : Int32).toInt = -2 := by decide
theorem li_2 : (2 : Int32).toInt = 2 := by decide
theorem li_5 : (5 : Int32).toInt = 5 := by decide
theorem li_48 : (48 : Int32).toInt = 48 := by decide
theorem li_2000 : (2000 : Int32).toInt = 2000 := by decide
theorem li_2063 : (2063 : Int32).toInt = 2063 := by decide
theorem li_2126 : (2126 : Int32).toInt = 2126 := by decide
set_option maxRecDepth 20000 in
theorem m_85 : Cond.initialized RX5 ∈ BASE := bmT1 7 rfl rfl
set_option maxRecDepth 20000 in
theorem m_86 : Cond.initialized "java/lang/Math" ∈ BASE := bmT1 8 rfl rfl
set_option maxRecDepth 20000 in
theorem m_98 : Cond.initialized "java/lang/System" ∈ BASE := bmT1 20 rfl rfl
set_option maxRecDepth 20000 in
theorem m_160 : Cond.fieldLink RX1 9 "ClickStreet$Formula" "codes" "[I" ∈ BASE := bmT1 82 rfl rfl
set_option maxRecDepth 20000 in
theorem m_161 : Cond.fieldLink RX1 13 "ClickStreet$Formula" "stack" "[I" ∈ BASE := bmT1 83 rfl rfl
set_option maxRecDepth 20000 in
theorem m_162 : Cond.fieldLink RX1 16 "ClickStreet$Formula" "size" "I" ∈ BASE := bmT1 84 rfl rfl
set_option maxRecDepth 20000 in
theorem m_208 : Cond.fieldLink RX5 19 "ClickStreet$Row" "numbers" "[I" ∈ BASE := bmT1 130 rfl rfl
set_option maxRecDepth 20000 in
theorem m_209 : Cond.fieldLink RX5 7 "ClickStreet$Row" "size" "I" ∈ BASE := bmT1 131 rfl rfl
set_option maxRecDepth 20000 in
theorem m_713 : Cond.instanceMethod yX5_get ∈ BASE := bmT3 155 rfl rfl
set_option maxRecDepth 20000 in
theorem m_714 : Cond.selects yX5_get.cls yX5_get yX5_get ∈ BASE := bmT3 156 rfl rfl
set_option maxRecDepth 20000 in
theorem m_715 : Cond.code yX5_get cX5_get 2 (some .int) ∈ BASE := bmT3 157 rfl rfl
set_option maxRecDepth 20000 in
theorem m_770 : Cond.static Lib.Math.min.name ∈ BASE := bmT3 212 rfl rfl
set_option maxRecDepth 20000 in
theorem m_771 : Cond.code Lib.Math.min.name Lib.Math.min.code 2 (some .int) ∈ BASE := bmT3 213 rfl rfl
set_option maxRecDepth 20000 in
theorem m_828 : Cond.methodLink RX1 20 arraycopyName ∈ BASE := bmT4 30 rfl rfl
set_option maxRecDepth 20000 in
theorem m_829 : Cond.static arraycopyName ∈ BASE := bmT4 31 rfl rfl
set_option maxRecDepth 20000 in
theorem m_830 : Cond.native arraycopyName ∈ BASE := bmT4 32 rfl rfl
set_option maxRecDepth 20000 in
theorem m_1146 : Cond.methodLink RX5 23 Lib.Math.min.name ∈ BASE := bmT5 108 rfl rfl
set_option maxRecDepth 20000 in
theorem m_1147 : Cond.methodLink RX5 26 yX5_get ∈ BASE := bmT5 109 rfl rfl
theorem kV_X5_get : KV yX5_get cX5_get 2 (some .int) 1 := ⟨m_713, m_714, m_85, m_715, nhM_2, nhV_2, pdn_2⟩
theorem inB1 : ∀ w ∈ u_ws RX1 TX1 3, w ∈ BASE := bmems (u_ws RX1 TX1 3) [163, 165, 167] (by decide +kernel) (by decide +kernel)
theorem inB5 : ∀ w ∈ u_ws RX5 TX5 2, w ∈ BASE := bmems (u_ws RX5 TX5 2) [213, 215] (by decide +kernel) (by decide +kernel)
theorem fl_RX1_13 : FLK RX1 13 1 1 (.array .int) true := ⟨RX1, TX1, 3, tyX1, rfl, inB1, tyX1_ok, nmX1, by decide, rfl, rfl, Or.inl m_161⟩
theorem fl_RX1_16 : FLK RX1 16 1 2 .int false := ⟨RX1, TX1, 3, tyX1, rfl, inB1, tyX1_ok, nmX1, by decide, rfl, rfl, Or.inl m_162⟩
theorem fl_RX1_9 : FLK RX1 9 1 0 (.array .int) true := ⟨RX1, TX1, 3, tyX1, rfl, inB1, tyX1_ok, nmX1, by decide, rfl, rfl, Or.inl m_160⟩
theorem fl_RX5_19 : FLK RX5 19 5 0 (.array .int) true := ⟨RX5, TX5, 2, tyX5, rfl, inB5, tyX5_ok, nmX5, by decide, rfl, rfl, Or.inl m_208⟩
theorem fl_RX5_7 : FLK RX5 7 5 1 .int false := ⟨RX5, TX5, 2, tyX5, rfl, inB5, tyX5_ok, nmX5, by decide, rfl, rfl, Or.inl m_209⟩
theorem dX1_add_0 : decode cX1_add 0 = .ok (.aload_n 0, 1) := by decide +kernel
theorem dX1_add_1 : decode cX1_add 1 = .ok (.getfield 16, 3) := by decide +kernel
theorem dX1_add_4 : decode cX1_add 4 = .ok (.ifCond .lt 32, 3) := by decide +kernel
theorem dX1_add_7 : decode cX1_add 7 = .ok (.aload_n 0, 1) := by decide +kernel
theorem dX1_add_8 : decode cX1_add 8 = .ok (.getfield 16, 3) := by decide +kernel
theorem dX1_add_11 : decode cX1_add 11 = .ok (.bipush 48, 2) := by decide +kernel
theorem dX1_add_13 : decode cX1_add 13 = .ok (.if_icmp .ge 23, 3) := by decide +kernel
theorem dX1_add_16 : decode cX1_add 16 = .ok (.aload_n 0, 1) := by decide +kernel
theorem dX1_add_17 : decode cX1_add 17 = .ok (.getfield 9, 3) := by decide +kernel
theorem dX1_add_20 : decode cX1_add 20 = .ok (.aload_n 0, 1) := by decide +kernel
theorem dX1_add_21 : decode cX1_add 21 = .ok (.getfield 16, 3) := by decide +kernel
theorem dX1_add_24 : decode cX1_add 24 = .ok (.iload_n 1, 1) := by decide +kernel
theorem dX1_add_25 : decode cX1_add 25 = .ok (.iastore, 1) := by decide +kernel
theorem dX1_add_26 : decode cX1_add 26 = .ok (.aload_n 0, 1) := by decide +kernel
theorem dX1_add_27 : decode cX1_add 27 = .ok (.dup, 1) := by decide +kernel
theorem dX1_add_28 : decode cX1_add 28 = .ok (.getfield 16, 3) := by decide +kernel
theorem dX1_add_31 : decode cX1_add 31 = .ok (.iconst 1, 1) := by decide +kernel
theorem dX1_add_32 : decode cX1_add 32 = .ok (.iadd, 1) := by decide +kernel
theorem dX1_add_33 : decode cX1_add 33 = .ok (.putfield 16, 3) := by decide +kernel
theorem dX1_add_36 : decode cX1_add 36 = .ok (.return_, 1) := by decide +kernel
theorem dX1_clear_0 : decode cX1_clear 0 = .ok (.aload_n 0, 1) := by decide +kernel
theorem dX1_clear_1 : decode cX1_clear 1 = .ok (.iconst 0, 1) := by decide +kernel
theorem dX1_clear_2 : decode cX1_clear 2 = .ok (.putfield 16, 3) := by decide +kernel
theorem dX1_clear_5 : decode cX1_clear 5 = .ok (.return_, 1) := by decide +kernel
theorem dX1_isGiven_0 : decode cX1_isGiven 0 = .ok (.aload_n 0, 1) := by decide +kernel
theorem dX1_isGiven_1 : decode cX1_isGiven 1 = .ok (.getfield 16, 3) := by decide +kernel
theorem dX1_isGiven_4 : decode cX1_isGiven 4 = .ok (.ifCond .le 7, 3) := by decide +kernel
theorem dX1_isGiven_7 : decode cX1_isGiven 7 = .ok (.iconst 1, 1) := by decide +kernel
theorem dX1_isGiven_8 : decode cX1_isGiven 8 = .ok (.goto 4, 3) := by decide +kernel
theorem dX1_isGiven_11 : decode cX1_isGiven 11 = .ok (.iconst 0, 1) := by decide +kernel
theorem dX1_isGiven_12 : decode cX1_isGiven 12 = .ok (.ireturn, 1) := by decide +kernel
theorem dX1_takeFrom_0 : decode cX1_takeFrom 0 = .ok (.aload_n 0, 1) := by decide +kernel
theorem dX1_takeFrom_1 : decode cX1_takeFrom 1 = .ok (.aload_n 1, 1) := by decide +kernel
theorem dX1_takeFrom_2 : decode cX1_takeFrom 2 = .ok (.getfield 16, 3) := by decide +kernel
theorem dX1_takeFrom_5 : decode cX1_takeFrom 5 = .ok (.putfield 16, 3) := by decide +kernel
theorem dX1_takeFrom_8 : decode cX1_takeFrom 8 = .ok (.aload_n 1, 1) := by decide +kernel
theorem dX1_takeFrom_9 : decode cX1_takeFrom 9 = .ok (.getfield 9, 3) := by decide +kernel
theorem dX1_takeFrom_12 : decode cX1_takeFrom 12 = .ok (.iconst 0, 1) := by decide +kernel
theorem dX1_takeFrom_13 : decode cX1_takeFrom 13 = .ok (.aload_n 0, 1) := by decide +kernel
theorem dX1_takeFrom_14 : decode cX1_takeFrom 14 = .ok (.getfield 9, 3) := by decide +kernel
theorem dX1_takeFrom_17 : decode cX1_takeFrom 17 = .ok (.iconst 0, 1) := by decide +kernel
theorem dX1_takeFrom_18 : decode cX1_takeFrom 18 = .ok (.bipush 48, 2) := by decide +kernel
theorem dX1_takeFrom_20 : decode cX1_takeFrom 20 = .ok (.invokestatic 20, 3) := by decide +kernel
theorem dX1_takeFrom_23 : decode cX1_takeFrom 23 = .ok (.return_, 1) := by decide +kernel
theorem ch_cX1_work_0 : (cX1_work.data.toList.drop 0).take 36 = [3, 61, 3, 62, 29, 42, 180, 0, 16, 162, 1, 175, 29, 16, 48, 162, 1, 169, 42, 180, 0, 9, 29, 46, 54, 4, 21, 4, 17, 3, 232, 100, 54, 5, 21, 4] := by decide +kernel
theorem dX1_work_0 : decode cX1_work 0 = .ok (.iconst 0, 1) := do_3 (rdb (p := 0) (i := 0) ch_cX1_work_0 rfl)
theorem dX1_work_1 : decode cX1_work 1 = .ok (.istore_n 2, 1) := do_61 (rdb (p := 0) (i := 1) ch_cX1_work_0 rfl)
theorem dX1_work_2 : decode cX1_work 2 = .ok (.iconst 0, 1) := do_3 (rdb (p := 0) (i := 2) ch_cX1_work_0 rfl)
theorem dX1_work_3 : decode cX1_work 3 = .ok (.istore_n 3, 1) := do_62 (rdb (p := 0) (i := 3) ch_cX1_work_0 rfl)
theorem dX1_work_4 : decode cX1_work 4 = .ok (.iload_n 3, 1) := do_29 (rdb (p := 0) (i := 4) ch_cX1_work_0 rfl)
theorem dX1_work_5 : decode cX1_work 5 = .ok (.aload_n 0, 1) := do_42 (rdb (p := 0) (i := 5) ch_cX1_work_0 rfl)
theorem dX1_work_6 : decode cX1_work 6 = .ok (.getfield 16, 3) := do_180 (rdb (p := 0) (i := 6) ch_cX1_work_0 rfl) (rdb (p := 0) (i := 7) ch_cX1_work_0 rfl) (rdb (p := 0) (i := 8) ch_cX1_work_0 rfl) rfl
theorem dX1_work_9 : decode cX1_work 9 = .ok (.if_icmp .ge 431, 3) := do_162 (rdb (p := 0) (i := 9) ch_cX1_work_0 rfl) (rdb (p := 0) (i := 10) ch_cX1_work_0 rfl) (rdb (p := 0) (i := 11) ch_cX1_work_0 rfl) (by decide +kernel)
theorem dX1_work_12 : decode cX1_work 12 = .ok (.iload_n 3, 1) := do_29 (rdb (p := 0) (i := 12) ch_cX1_work_0 rfl)
theorem dX1_work_13 : decode cX1_work 13 = .ok (.bipush 48, 2) := do_16 (rdb (p := 0) (i := 13) ch_cX1_work_0 rfl) (rdb (p := 0) (i := 14) ch_cX1_work_0 rfl) (by decide +kernel)
theorem dX1_work_15 : decode cX1_work 15 = .ok (.if_icmp .ge 425, 3) := do_162 (rdb (p := 0) (i := 15) ch_cX1_work_0 rfl) (rdb (p := 0) (i := 16) ch_cX1_work_0 rfl) (rdb (p := 0) (i := 17) ch_cX1_work_0 rfl) (by decide +kernel)
theorem dX1_work_18 : decode cX1_work 18 = .ok (.aload_n 0, 1) := do_42 (rdb (p := 0) (i := 18) ch_cX1_work_0 rfl)
theorem dX1_work_19 : decode cX1_work 19 = .ok (.getfield 9, 3) := do_180 (rdb (p := 0) (i := 19) ch_cX1_work_0 rfl) (rdb (p := 0) (i := 20) ch_cX1_work_0 rfl) (rdb (p := 0) (i := 21) ch_cX1_work_0 rfl) rfl
theorem dX1_work_22 : decode cX1_work 22 = .ok (.iload_n 3, 1) := do_29 (rdb (p := 0) (i := 22) ch_cX1_work_0 rfl)
theorem dX1_work_23 : decode cX1_work 23 = .ok (.iaload, 1) := do_46 (rdb (p := 0) (i := 23) ch_cX1_work_0 rfl)
theorem dX1_work_24 : decode cX1_work 24 = .ok (.istore 4, 2) := do_54 (rdb (p := 0) (i := 24) ch_cX1_work_0 rfl) (rdb (p := 0) (i := 25) ch_cX1_work_0 rfl)
theorem dX1_work_26 : decode cX1_work 26 = .ok (.iload 4, 2) := do_21 (rdb (p := 0) (i := 26) ch_cX1_work_0 rfl) (rdb (p := 0) (i := 27) ch_cX1_work_0 rfl)
theorem dX1_work_28 : decode cX1_work 28 = .ok (.sipush 1000, 3) := do_17 (rdb (p := 0) (i := 28) ch_cX1_work_0 rfl) (rdb (p := 0) (i := 29) ch_cX1_work_0 rfl) (rdb (p := 0) (i := 30) ch_cX1_work_0 rfl) (by decide +kernel)
theorem dX1_work_31 : decode cX1_work 31 = .ok (.isub, 1) := do_100 (rdb (p := 0) (i := 31) ch_cX1_work_0 rfl)
theorem ch_cX1_work_32 : (cX1_work.data.toList.drop 32).take 36 = [54, 5, 21, 4, 17, 7, 208, 162, 0, 46, 28, 16, 48, 162, 0, 40, 42, 180, 0, 13, 28, 21, 5, 156, 0, 8, 21, 4, 167, 0, 18, 21, 5, 43, 190, 162] := by decide +kernel
theorem dX1_work_32 : decode cX1_work 32 = .ok (.istore 5, 2) := do_54 (rdb (p := 32) (i := 0) ch_cX1_work_32 rfl) (rdb (p := 32) (i := 1) ch_cX1_work_32 rfl)
theorem dX1_work_34 : decode cX1_work 34 = .ok (.iload 4, 2) := do_21 (rdb (p := 32) (i := 2) ch_cX1_work_32 rfl) (rdb (p := 32) (i := 3) ch_cX1_work_32 rfl)
theorem dX1_work_36 : decode cX1_work 36 = .ok (.sipush 2000, 3) := do_17 (rdb (p := 32) (i := 4) ch_cX1_work_32 rfl) (rdb (p := 32) (i := 5) ch_cX1_work_32 rfl) (rdb (p := 32) (i := 6) ch_cX1_work_32 rfl) (by decide +kernel)
theorem dX1_work_39 : decode cX1_work 39 = .ok (.if_icmp .ge 46, 3) := do_162 (rdb (p := 32) (i := 7) ch_cX1_work_32 rfl) (rdb (p := 32) (i := 8) ch_cX1_work_32 rfl) (rdb (p := 32) (i := 9) ch_cX1_work_32 rfl) (by decide +kernel)
theorem dX1_work_42 : decode cX1_work 42 = .ok (.iload_n 2, 1) := do_28 (rdb (p := 32) (i := 10) ch_cX1_work_32 rfl)
theorem dX1_work_43 : decode cX1_work 43 = .ok (.bipush 48, 2) := do_16 (rdb (p := 32) (i := 11) ch_cX1_work_32 rfl) (rdb (p := 32) (i := 12) ch_cX1_work_32 rfl) (by decide +kernel)
theorem dX1_work_45 : decode cX1_work 45 = .ok (.if_icmp .ge 40, 3) := do_162 (rdb (p := 32) (i := 13) ch_cX1_work_32 rfl) (rdb (p := 32) (i := 14) ch_cX1_work_32 rfl) (rdb (p := 32) (i := 15) ch_cX1_work_32 rfl) (by decide +kernel)
theorem dX1_work_48 : decode cX1_work 48 = .ok (.aload_n 0, 1) := do_42 (rdb (p := 32) (i := 16) ch_cX1_work_32 rfl)
theorem dX1_work_49 : decode cX1_work 49 = .ok (.getfield 13, 3) := do_180 (rdb (p := 32) (i := 17) ch_cX1_work_32 rfl) (rdb (p := 32) (i := 18) ch_cX1_work_32 rfl) (rdb (p := 32) (i := 19) ch_cX1_work_32 rfl) rfl
theorem dX1_work_52 : decode cX1_work 52 = .ok (.iload_n 2, 1) := do_28 (rdb (p := 32) (i := 20) ch_cX1_work_32 rfl)
theorem dX1_work_53 : decode cX1_work 53 = .ok (.iload 5, 2) := do_21 (rdb (p := 32) (i := 21) ch_cX1_work_32 rfl) (rdb (p := 32) (i := 22) ch_cX1_work_32 rfl)
theorem dX1_work_55 : decode cX1_work 55 = .ok (.ifCond .ge 8, 3) := do_156 (rdb (p := 32) (i := 23) ch_cX1_work_32 rfl) (rdb (p := 32) (i := 24) ch_cX1_work_32 rfl) (rdb (p := 32) (i := 25) ch_cX1_work_32 rfl) (by decide +kernel)
theorem dX1_work_58 : decode cX1_work 58 = .ok (.iload 4, 2) := do_21 (rdb (p := 32) (i := 26) ch_cX1_work_32 rfl) (rdb (p := 32) (i := 27) ch_cX1_work_32 rfl)
theorem dX1_work_60 : decode cX1_work 60 = .ok (.goto 18, 3) := do_167 (rdb (p := 32) (i := 28) ch_cX1_work_32 rfl) (rdb (p := 32) (i := 29) ch_cX1_work_32 rfl) (rdb (p := 32) (i := 30) ch_cX1_work_32 rfl) (by decide +kernel)
theorem dX1_work_63 : decode cX1_work 63 = .ok (.iload 5, 2) := do_21 (rdb (p := 32) (i := 31) ch_cX1_work_32 rfl) (rdb (p := 32) (i := 32) ch_cX1_work_32 rfl)
theorem ch_cX1_work_64 : (cX1_work.data.toList.drop 64).take 36 = [5, 43, 190, 162, 0, 10, 43, 21, 5, 46, 167, 0, 4, 3, 79, 132, 2, 1, 167, 1, 96, 21, 4, 17, 8, 78, 160, 0, 28, 28, 4, 161, 0, 23, 42, 180] := by decide +kernel
theorem dX1_work_65 : decode cX1_work 65 = .ok (.aload_n 1, 1) := do_43 (rdb (p := 64) (i := 1) ch_cX1_work_64 rfl)
theorem dX1_work_66 : decode cX1_work 66 = .ok (.arraylength, 1) := do_190 (rdb (p := 64) (i := 2) ch_cX1_work_64 rfl)
theorem dX1_work_67 : decode cX1_work 67 = .ok (.if_icmp .ge 10, 3) := do_162 (rdb (p := 64) (i := 3) ch_cX1_work_64 rfl) (rdb (p := 64) (i := 4) ch_cX1_work_64 rfl) (rdb (p := 64) (i := 5) ch_cX1_work_64 rfl) (by decide +kernel)
theorem dX1_work_70 : decode cX1_work 70 = .ok (.aload_n 1, 1) := do_43 (rdb (p := 64) (i := 6) ch_cX1_work_64 rfl)
theorem dX1_work_71 : decode cX1_work 71 = .ok (.iload 5, 2) := do_21 (rdb (p := 64) (i := 7) ch_cX1_work_64 rfl) (rdb (p := 64) (i := 8) ch_cX1_work_64 rfl)
theorem dX1_work_73 : decode cX1_work 73 = .ok (.iaload, 1) := do_46 (rdb (p := 64) (i := 9) ch_cX1_work_64 rfl)
theorem dX1_work_74 : decode cX1_work 74 = .ok (.goto 4, 3) := do_167 (rdb (p := 64) (i := 10) ch_cX1_work_64 rfl) (rdb (p := 64) (i := 11) ch_cX1_work_64 rfl) (rdb (p := 64) (i := 12) ch_cX1_work_64 rfl) (by decide +kernel)
theorem dX1_work_77 : decode cX1_work 77 = .ok (.iconst 0, 1) := do_3 (rdb (p := 64) (i := 13) ch_cX1_work_64 rfl)
theorem dX1_work_78 : decode cX1_work 78 = .ok (.iastore, 1) := do_79 (rdb (p := 64) (i := 14) ch_cX1_work_64 rfl)
theorem dX1_work_79 : decode cX1_work 79 = .ok (.iinc 2 1, 3) := do_132 (rdb (p := 64) (i := 15) ch_cX1_work_64 rfl) (rdb (p := 64) (i := 16) ch_cX1_work_64 rfl) (rdb (p := 64) (i := 17) ch_cX1_work_64 rfl) (by decide +kernel)
theorem dX1_work_82 : decode cX1_work 82 = .ok (.goto 352, 3) := do_167 (rdb (p := 64) (i := 18) ch_cX1_work_64 rfl) (rdb (p := 64) (i := 19) ch_cX1_work_64 rfl) (rdb (p := 64) (i := 20) ch_cX1_work_64 rfl) (by decide +kernel)
theorem dX1_work_85 : decode cX1_work 85 = .ok (.iload 4, 2) := do_21 (rdb (p := 64) (i := 21) ch_cX1_work_64 rfl) (rdb (p := 64) (i := 22) ch_cX1_work_64 rfl)
theorem dX1_work_87 : decode cX1_work 87 = .ok (.sipush 2126, 3) := do_17 (rdb (p := 64) (i := 23) ch_cX1_work_64 rfl) (rdb (p := 64) (i := 24) ch_cX1_work_64 rfl) (rdb (p := 64) (i := 25) ch_cX1_work_64 rfl) (by decide +kernel)
theorem dX1_work_90 : decode cX1_work 90 = .ok (.if_icmp .ne 28, 3) := do_160 (rdb (p := 64) (i := 26) ch_cX1_work_64 rfl) (rdb (p := 64) (i := 27) ch_cX1_work_64 rfl) (rdb (p := 64) (i := 28) ch_cX1_work_64 rfl) (by decide +kernel)
theorem dX1_work_93 : decode cX1_work 93 = .ok (.iload_n 2, 1) := do_28 (rdb (p := 64) (i := 29) ch_cX1_work_64 rfl)
theorem dX1_work_94 : decode cX1_work 94 = .ok (.iconst 1, 1) := do_4 (rdb (p := 64) (i := 30) ch_cX1_work_64 rfl)
theorem dX1_work_95 : decode cX1_work 95 = .ok (.if_icmp .lt 23, 3) := do_161 (rdb (p := 64) (i := 31) ch_cX1_work_64 rfl) (rdb (p := 64) (i := 32) ch_cX1_work_64 rfl) (rdb (p := 64) (i := 33) ch_cX1_work_64 rfl) (by decide +kernel)
theorem ch_cX1_work_96 : (cX1_work.data.toList.drop 96).take 36 = [0, 23, 42, 180, 0, 13, 28, 4, 100, 42, 180, 0, 13, 28, 4, 100, 46, 116, 79, 167, 1, 63, 21, 4, 17, 8, 15, 160, 0, 50, 28, 6, 161, 0, 45, 132] := by decide +kernel
theorem dX1_work_98 : decode cX1_work 98 = .ok (.aload_n 0, 1) := do_42 (rdb (p := 96) (i := 2) ch_cX1_work_96 rfl)
theorem dX1_work_99 : decode cX1_work 99 = .ok (.getfield 13, 3) := do_180 (rdb (p := 96) (i := 3) ch_cX1_work_96 rfl) (rdb (p := 96) (i := 4) ch_cX1_work_96 rfl) (rdb (p := 96) (i := 5) ch_cX1_work_96 rfl) rfl
theorem dX1_work_102 : decode cX1_work 102 = .ok (.iload_n 2, 1) := do_28 (rdb (p := 96) (i := 6) ch_cX1_work_96 rfl)
theorem dX1_work_103 : decode cX1_work 103 = .ok (.iconst 1, 1) := do_4 (rdb (p := 96) (i := 7) ch_cX1_work_96 rfl)
theorem dX1_work_104 : decode cX1_work 104 = .ok (.isub, 1) := do_100 (rdb (p := 96) (i := 8) ch_cX1_work_96 rfl)
theorem dX1_work_105 : decode cX1_work 105 = .ok (.aload_n 0, 1) := do_42 (rdb (p := 96) (i := 9) ch_cX1_work_96 rfl)
theorem dX1_work_106 : decode cX1_work 106 = .ok (.getfield 13, 3) := do_180 (rdb (p := 96) (i := 10) ch_cX1_work_96 rfl) (rdb (p := 96) (i := 11) ch_cX1_work_96 rfl) (rdb (p := 96) (i := 12) ch_cX1_work_96 rfl) rfl
theorem dX1_work_109 : decode cX1_work 109 = .ok (.iload_n 2, 1) := do_28 (rdb (p := 96) (i := 13) ch_cX1_work_96 rfl)
theorem dX1_work_110 : decode cX1_work 110 = .ok (.iconst 1, 1) := do_4 (rdb (p := 96) (i := 14) ch_cX1_work_96 rfl)
theorem dX1_work_111 : decode cX1_work 111 = .ok (.isub, 1) := do_100 (rdb (p := 96) (i := 15) ch_cX1_work_96 rfl)
theorem dX1_work_112 : decode cX1_work 112 = .ok (.iaload, 1) := do_46 (rdb (p := 96) (i := 16) ch_cX1_work_96 rfl)
theorem dX1_work_113 : decode cX1_work 113 = .ok (.ineg, 1) := do_116 (rdb (p := 96) (i := 17) ch_cX1_work_96 rfl)
theorem dX1_work_114 : decode cX1_work 114 = .ok (.iastore, 1) := do_79 (rdb (p := 96) (i := 18) ch_cX1_work_96 rfl)
theorem dX1_work_115 : decode cX1_work 115 = .ok (.goto 319, 3) := do_167 (rdb (p := 96) (i := 19) ch_cX1_work_96 rfl) (rdb (p := 96) (i := 20) ch_cX1_work_96 rfl) (rdb (p := 96) (i := 21) ch_cX1_work_96 rfl) (by decide +kernel)
theorem dX1_work_118 : decode cX1_work 118 = .ok (.iload 4, 2) := do_21 (rdb (p := 96) (i := 22) ch_cX1_work_96 rfl) (rdb (p := 96) (i := 23) ch_cX1_work_96 rfl)
theorem dX1_work_120 : decode cX1_work 120 = .ok (.sipush 2063, 3) := do_17 (rdb (p := 96) (i := 24) ch_cX1_work_96 rfl) (rdb (p := 96) (i := 25) ch_cX1_work_96 rfl) (rdb (p := 96) (i := 26) ch_cX1_work_96 rfl) (by decide +kernel)
theorem dX1_work_123 : decode cX1_work 123 = .ok (.if_icmp .ne 50, 3) := do_160 (rdb (p := 96) (i := 27) ch_cX1_work_96 rfl) (rdb (p := 96) (i := 28) ch_cX1_work_96 rfl) (rdb (p := 96) (i := 29) ch_cX1_work_96 rfl) (by decide +kernel)
theorem dX1_work_126 : decode cX1_work 126 = .ok (.iload_n 2, 1) := do_28 (rdb (p := 96) (i := 30) ch_cX1_work_96 rfl)
theorem dX1_work_127 : decode cX1_work 127 = .ok (.iconst 3, 1) := do_6 (rdb (p := 96) (i := 31) ch_cX1_work_96 rfl)
theorem ch_cX1_work_128 : (cX1_work.data.toList.drop 128).take 36 = [161, 0, 45, 132, 2, 254, 42, 180, 0, 13, 28, 4, 100, 42, 180, 0, 13, 28, 4, 100, 46, 153, 0, 12, 42, 180, 0, 13, 28, 46, 167, 0, 11, 42, 180, 0] := by decide +kernel
theorem dX1_work_128 : decode cX1_work 128 = .ok (.if_icmp .lt 45, 3) := do_161 (rdb (p := 128) (i := 0) ch_cX1_work_128 rfl) (rdb (p := 128) (i := 1) ch_cX1_work_128 rfl) (rdb (p := 128) (i := 2) ch_cX1_work_128 rfl) (by decide +kernel)
theorem dX1_work_131 : decode cX1_work 131 = .ok (.iinc 2 (-2), 3) := do_132 (rdb (p := 128) (i := 3) ch_cX1_work_128 rfl) (rdb (p := 128) (i := 4) ch_cX1_work_128 rfl) (rdb (p := 128) (i := 5) ch_cX1_work_128 rfl) (by decide +kernel)
theorem dX1_work_134 : decode cX1_work 134 = .ok (.aload_n 0, 1) := do_42 (rdb (p := 128) (i := 6) ch_cX1_work_128 rfl)
theorem dX1_work_135 : decode cX1_work 135 = .ok (.getfield 13, 3) := do_180 (rdb (p := 128) (i := 7) ch_cX1_work_128 rfl) (rdb (p := 128) (i := 8) ch_cX1_work_128 rfl) (rdb (p := 128) (i := 9) ch_cX1_work_128 rfl) rfl
theorem dX1_work_138 : decode cX1_work 138 = .ok (.iload_n 2, 1) := do_28 (rdb (p := 128) (i := 10) ch_cX1_work_128 rfl)
theorem dX1_work_139 : decode cX1_work 139 = .ok (.iconst 1, 1) := do_4 (rdb (p := 128) (i := 11) ch_cX1_work_128 rfl)
theorem dX1_work_140 : decode cX1_work 140 = .ok (.isub, 1) := do_100 (rdb (p := 128) (i := 12) ch_cX1_work_128 rfl)
theorem dX1_work_141 : decode cX1_work 141 = .ok (.aload_n 0, 1) := do_42 (rdb (p := 128) (i := 13) ch_cX1_work_128 rfl)
theorem dX1_work_142 : decode cX1_work 142 = .ok (.getfield 13, 3) := do_180 (rdb (p := 128) (i := 14) ch_cX1_work_128 rfl) (rdb (p := 128) (i := 15) ch_cX1_work_128 rfl) (rdb (p := 128) (i := 16) ch_cX1_work_128 rfl) rfl
theorem dX1_work_145 : decode cX1_work 145 = .ok (.iload_n 2, 1) := do_28 (rdb (p := 128) (i := 17) ch_cX1_work_128 rfl)
theorem dX1_work_146 : decode cX1_work 146 = .ok (.iconst 1, 1) := do_4 (rdb (p := 128) (i := 18) ch_cX1_work_128 rfl)
theorem dX1_work_147 : decode cX1_work 147 = .ok (.isub, 1) := do_100 (rdb (p := 128) (i := 19) ch_cX1_work_128 rfl)
theorem dX1_work_148 : decode cX1_work 148 = .ok (.iaload, 1) := do_46 (rdb (p := 128) (i := 20) ch_cX1_work_128 rfl)
theorem dX1_work_149 : decode cX1_work 149 = .ok (.ifCond .eq 12, 3) := do_153 (rdb (p := 128) (i := 21) ch_cX1_work_128 rfl) (rdb (p := 128) (i := 22) ch_cX1_work_128 rfl) (rdb (p := 128) (i := 23) ch_cX1_work_128 rfl) (by decide +kernel)
theorem dX1_work_152 : decode cX1_work 152 = .ok (.aload_n 0, 1) := do_42 (rdb (p := 128) (i := 24) ch_cX1_work_128 rfl)
theorem dX1_work_153 : decode cX1_work 153 = .ok (.getfield 13, 3) := do_180 (rdb (p := 128) (i := 25) ch_cX1_work_128 rfl) (rdb (p := 128) (i := 26) ch_cX1_work_128 rfl) (rdb (p := 128) (i := 27) ch_cX1_work_128 rfl) rfl
theorem dX1_work_156 : decode cX1_work 156 = .ok (.iload_n 2, 1) := do_28 (rdb (p := 128) (i := 28) ch_cX1_work_128 rfl)
theorem dX1_work_157 : decode cX1_work 157 = .ok (.iaload, 1) := do_46 (rdb (p := 128) (i := 29) ch_cX1_work_128 rfl)
theorem dX1_work_158 : decode cX1_work 158 = .ok (.goto 11, 3) := do_167 (rdb (p := 128) (i := 30) ch_cX1_work_128 rfl) (rdb (p := 128) (i := 31) ch_cX1_work_128 rfl) (rdb (p := 128) (i := 32) ch_cX1_work_128 rfl) (by decide +kernel)
theorem ch_cX1_work_160 : (cX1_work.data.toList.drop 160).take 36 = [11, 42, 180, 0, 13, 28, 4, 96, 46, 79, 167, 1, 8, 28, 5, 161, 1, 3, 132, 2, 255, 42, 180, 0, 13, 28, 4, 100, 46, 54, 6, 42, 180, 0, 13, 28] := by decide +kernel
theorem dX1_work_161 : decode cX1_work 161 = .ok (.aload_n 0, 1) := do_42 (rdb (p := 160) (i := 1) ch_cX1_work_160 rfl)
theorem dX1_work_162 : decode cX1_work 162 = .ok (.getfield 13, 3) := do_180 (rdb (p := 160) (i := 2) ch_cX1_work_160 rfl) (rdb (p := 160) (i := 3) ch_cX1_work_160 rfl) (rdb (p := 160) (i := 4) ch_cX1_work_160 rfl) rfl
theorem dX1_work_165 : decode cX1_work 165 = .ok (.iload_n 2, 1) := do_28 (rdb (p := 160) (i := 5) ch_cX1_work_160 rfl)
theorem dX1_work_166 : decode cX1_work 166 = .ok (.iconst 1, 1) := do_4 (rdb (p := 160) (i := 6) ch_cX1_work_160 rfl)
theorem dX1_work_167 : decode cX1_work 167 = .ok (.iadd, 1) := do_96 (rdb (p := 160) (i := 7) ch_cX1_work_160 rfl)
theorem dX1_work_168 : decode cX1_work 168 = .ok (.iaload, 1) := do_46 (rdb (p := 160) (i := 8) ch_cX1_work_160 rfl)
theorem dX1_work_169 : decode cX1_work 169 = .ok (.iastore, 1) := do_79 (rdb (p := 160) (i := 9) ch_cX1_work_160 rfl)
theorem dX1_work_170 : decode cX1_work 170 = .ok (.goto 264, 3) := do_167 (rdb (p := 160) (i := 10) ch_cX1_work_160 rfl) (rdb (p := 160) (i := 11) ch_cX1_work_160 rfl) (rdb (p := 160) (i := 12) ch_cX1_work_160 rfl) (by decide +kernel)
theorem dX1_work_173 : decode cX1_work 173 = .ok (.iload_n 2, 1) := do_28 (rdb (p := 160) (i := 13) ch_cX1_work_160 rfl)
theorem dX1_work_174 : decode cX1_work 174 = .ok (.iconst 2, 1) := do_5 (rdb (p := 160) (i := 14) ch_cX1_work_160 rfl)
theorem dX1_work_175 : decode cX1_work 175 = .ok (.if_icmp .lt 259, 3) := do_161 (rdb (p := 160) (i := 15) ch_cX1_work_160 rfl) (rdb (p := 160) (i := 16) ch_cX1_work_160 rfl) (rdb (p := 160) (i := 17) ch_cX1_work_160 rfl) (by decide +kernel)
theorem dX1_work_178 : decode cX1_work 178 = .ok (.iinc 2 (-1), 3) := do_132 (rdb (p := 160) (i := 18) ch_cX1_work_160 rfl) (rdb (p := 160) (i := 19) ch_cX1_work_160 rfl) (rdb (p := 160) (i := 20) ch_cX1_work_160 rfl) (by decide +kernel)
theorem dX1_work_181 : decode cX1_work 181 = .ok (.aload_n 0, 1) := do_42 (rdb (p := 160) (i := 21) ch_cX1_work_160 rfl)
theorem dX1_work_182 : decode cX1_work 182 = .ok (.getfield 13, 3) := do_180 (rdb (p := 160) (i := 22) ch_cX1_work_160 rfl) (rdb (p := 160) (i := 23) ch_cX1_work_160 rfl) (rdb (p := 160) (i := 24) ch_cX1_work_160 rfl) rfl
theorem dX1_work_185 : decode cX1_work 185 = .ok (.iload_n 2, 1) := do_28 (rdb (p := 160) (i := 25) ch_cX1_work_160 rfl)
theorem dX1_work_186 : decode cX1_work 186 = .ok (.iconst 1, 1) := do_4 (rdb (p := 160) (i := 26) ch_cX1_work_160 rfl)
theorem dX1_work_187 : decode cX1_work 187 = .ok (.isub, 1) := do_100 (rdb (p := 160) (i := 27) ch_cX1_work_160 rfl)
theorem dX1_work_188 : decode cX1_work 188 = .ok (.iaload, 1) := do_46 (rdb (p := 160) (i := 28) ch_cX1_work_160 rfl)
theorem dX1_work_189 : decode cX1_work 189 = .ok (.istore 6, 2) := do_54 (rdb (p := 160) (i := 29) ch_cX1_work_160 rfl) (rdb (p := 160) (i := 30) ch_cX1_work_160 rfl)
theorem dX1_work_191 : decode cX1_work 191 = .ok (.aload_n 0, 1) := do_42 (rdb (p := 160) (i := 31) ch_cX1_work_160 rfl)
theorem ch_cX1_work_192 : (cX1_work.data.toList.drop 192).take 36 = [180, 0, 13, 28, 46, 54, 7, 3, 54, 8, 21, 4, 17, 7, 208, 100, 170, 0, 0, 0, 0, 0, 0, 200, 0, 0, 0, 42, 0, 0, 0, 62, 0, 0, 0, 171] := by decide +kernel
theorem dX1_work_192 : decode cX1_work 192 = .ok (.getfield 13, 3) := do_180 (rdb (p := 192) (i := 0) ch_cX1_work_192 rfl) (rdb (p := 192) (i := 1) ch_cX1_work_192 rfl) (rdb (p := 192) (i := 2) ch_cX1_work_192 rfl) rfl
theorem dX1_work_195 : decode cX1_work 195 = .ok (.iload_n 2, 1) := do_28 (rdb (p := 192) (i := 3) ch_cX1_work_192 rfl)
theorem dX1_work_196 : decode cX1_work 196 = .ok (.iaload, 1) := do_46 (rdb (p := 192) (i := 4) ch_cX1_work_192 rfl)
theorem dX1_work_197 : decode cX1_work 197 = .ok (.istore 7, 2) := do_54 (rdb (p := 192) (i := 5) ch_cX1_work_192 rfl) (rdb (p := 192) (i := 6) ch_cX1_work_192 rfl)
theorem dX1_work_199 : decode cX1_work 199 = .ok (.iconst 0, 1) := do_3 (rdb (p := 192) (i := 7) ch_cX1_work_192 rfl)
theorem dX1_work_200 : decode cX1_work 200 = .ok (.istore 8, 2) := do_54 (rdb (p := 192) (i := 8) ch_cX1_work_192 rfl) (rdb (p := 192) (i := 9) ch_cX1_work_192 rfl)
theorem dX1_work_202 : decode cX1_work 202 = .ok (.iload 4, 2) := do_21 (rdb (p := 192) (i := 10) ch_cX1_work_192 rfl) (rdb (p := 192) (i := 11) ch_cX1_work_192 rfl)
theorem dX1_work_204 : decode cX1_work 204 = .ok (.sipush 2000, 3) := do_17 (rdb (p := 192) (i := 12) ch_cX1_work_192 rfl) (rdb (p := 192) (i := 13) ch_cX1_work_192 rfl) (rdb (p := 192) (i := 14) ch_cX1_work_192 rfl) (by decide +kernel)
theorem dX1_work_207 : decode cX1_work 207 = .ok (.isub, 1) := do_100 (rdb (p := 192) (i := 15) ch_cX1_work_192 rfl)
theorem dX1_work_208 : decode cX1_work 208 = .ok (.tableswitch 200 42 62 #[171, 151, 200, 161, 200, 181, 200, 200, 200, 200, 200, 200, 200, 200, 200, 200, 200, 200, 100, 117, 134], 100) := by decide +kernel
theorem ch_cX1_work_288 : (cX1_work.data.toList.drop 288).take 36 = [0, 0, 0, 200, 0, 0, 0, 200, 0, 0, 0, 100, 0, 0, 0, 117, 0, 0, 0, 134, 21, 6, 21, 7, 162, 0, 7, 4, 167, 0, 4, 3, 54, 8, 167, 0] := by decide +kernel
theorem dX1_work_308 : decode cX1_work 308 = .ok (.iload 6, 2) := do_21 (rdb (p := 288) (i := 20) ch_cX1_work_288 rfl) (rdb (p := 288) (i := 21) ch_cX1_work_288 rfl)
theorem dX1_work_310 : decode cX1_work 310 = .ok (.iload 7, 2) := do_21 (rdb (p := 288) (i := 22) ch_cX1_work_288 rfl) (rdb (p := 288) (i := 23) ch_cX1_work_288 rfl)
theorem dX1_work_312 : decode cX1_work 312 = .ok (.if_icmp .ge 7, 3) := do_162 (rdb (p := 288) (i := 24) ch_cX1_work_288 rfl) (rdb (p := 288) (i := 25) ch_cX1_work_288 rfl) (rdb (p := 288) (i := 26) ch_cX1_work_288 rfl) (by decide +kernel)
theorem dX1_work_315 : decode cX1_work 315 = .ok (.iconst 1, 1) := do_4 (rdb (p := 288) (i := 27) ch_cX1_work_288 rfl)
theorem dX1_work_316 : decode cX1_work 316 = .ok (.goto 4, 3) := do_167 (rdb (p := 288) (i := 28) ch_cX1_work_288 rfl) (rdb (p := 288) (i := 29) ch_cX1_work_288 rfl) (rdb (p := 288) (i := 30) ch_cX1_work_288 rfl) (by decide +kernel)
theorem dX1_work_319 : decode cX1_work 319 = .ok (.iconst 0, 1) := do_3 (rdb (p := 288) (i := 31) ch_cX1_work_288 rfl)
theorem ch_cX1_work_320 : (cX1_work.data.toList.drop 320).take 36 = [54, 8, 167, 0, 102, 21, 6, 21, 7, 160, 0, 7, 4, 167, 0, 4, 3, 54, 8, 167, 0, 85, 21, 6, 21, 7, 164, 0, 7, 4, 167, 0, 4, 3, 54, 8] := by decide +kernel
theorem dX1_work_320 : decode cX1_work 320 = .ok (.istore 8, 2) := do_54 (rdb (p := 320) (i := 0) ch_cX1_work_320 rfl) (rdb (p := 320) (i := 1) ch_cX1_work_320 rfl)
theorem dX1_work_322 : decode cX1_work 322 = .ok (.goto 102, 3) := do_167 (rdb (p := 320) (i := 2) ch_cX1_work_320 rfl) (rdb (p := 320) (i := 3) ch_cX1_work_320 rfl) (rdb (p := 320) (i := 4) ch_cX1_work_320 rfl) (by decide +kernel)
theorem dX1_work_325 : decode cX1_work 325 = .ok (.iload 6, 2) := do_21 (rdb (p := 320) (i := 5) ch_cX1_work_320 rfl) (rdb (p := 320) (i := 6) ch_cX1_work_320 rfl)
theorem dX1_work_327 : decode cX1_work 327 = .ok (.iload 7, 2) := do_21 (rdb (p := 320) (i := 7) ch_cX1_work_320 rfl) (rdb (p := 320) (i := 8) ch_cX1_work_320 rfl)
theorem dX1_work_329 : decode cX1_work 329 = .ok (.if_icmp .ne 7, 3) := do_160 (rdb (p := 320) (i := 9) ch_cX1_work_320 rfl) (rdb (p := 320) (i := 10) ch_cX1_work_320 rfl) (rdb (p := 320) (i := 11) ch_cX1_work_320 rfl) (by decide +kernel)
theorem dX1_work_332 : decode cX1_work 332 = .ok (.iconst 1, 1) := do_4 (rdb (p := 320) (i := 12) ch_cX1_work_320 rfl)
theorem dX1_work_333 : decode cX1_work 333 = .ok (.goto 4, 3) := do_167 (rdb (p := 320) (i := 13) ch_cX1_work_320 rfl) (rdb (p := 320) (i := 14) ch_cX1_work_320 rfl) (rdb (p := 320) (i := 15) ch_cX1_work_320 rfl) (by decide +kernel)
theorem dX1_work_336 : decode cX1_work 336 = .ok (.iconst 0, 1) := do_3 (rdb (p := 320) (i := 16) ch_cX1_work_320 rfl)
theorem dX1_work_337 : decode cX1_work 337 = .ok (.istore 8, 2) := do_54 (rdb (p := 320) (i := 17) ch_cX1_work_320 rfl) (rdb (p := 320) (i := 18) ch_cX1_work_320 rfl)
theorem dX1_work_339 : decode cX1_work 339 = .ok (.goto 85, 3) := do_167 (rdb (p := 320) (i := 19) ch_cX1_work_320 rfl) (rdb (p := 320) (i := 20) ch_cX1_work_320 rfl) (rdb (p := 320) (i := 21) ch_cX1_work_320 rfl) (by decide +kernel)
theorem dX1_work_342 : decode cX1_work 342 = .ok (.iload 6, 2) := do_21 (rdb (p := 320) (i := 22) ch_cX1_work_320 rfl) (rdb (p := 320) (i := 23) ch_cX1_work_320 rfl)
theorem dX1_work_344 : decode cX1_work 344 = .ok (.iload 7, 2) := do_21 (rdb (p := 320) (i := 24) ch_cX1_work_320 rfl) (rdb (p := 320) (i := 25) ch_cX1_work_320 rfl)
theorem dX1_work_346 : decode cX1_work 346 = .ok (.if_icmp .le 7, 3) := do_164 (rdb (p := 320) (i := 26) ch_cX1_work_320 rfl) (rdb (p := 320) (i := 27) ch_cX1_work_320 rfl) (rdb (p := 320) (i := 28) ch_cX1_work_320 rfl) (by decide +kernel)
theorem dX1_work_349 : decode cX1_work 349 = .ok (.iconst 1, 1) := do_4 (rdb (p := 320) (i := 29) ch_cX1_work_320 rfl)
theorem dX1_work_350 : decode cX1_work 350 = .ok (.goto 4, 3) := do_167 (rdb (p := 320) (i := 30) ch_cX1_work_320 rfl) (rdb (p := 320) (i := 31) ch_cX1_work_320 rfl) (rdb (p := 320) (i := 32) ch_cX1_work_320 rfl) (by decide +kernel)
theorem ch_cX1_work_352 : (cX1_work.data.toList.drop 352).take 36 = [4, 3, 54, 8, 167, 0, 68, 21, 6, 21, 7, 96, 54, 8, 167, 0, 58, 21, 6, 21, 7, 100, 54, 8, 167, 0, 48, 21, 6, 21, 7, 104, 54, 8, 167, 0] := by decide +kernel
theorem dX1_work_353 : decode cX1_work 353 = .ok (.iconst 0, 1) := do_3 (rdb (p := 352) (i := 1) ch_cX1_work_352 rfl)
theorem dX1_work_354 : decode cX1_work 354 = .ok (.istore 8, 2) := do_54 (rdb (p := 352) (i := 2) ch_cX1_work_352 rfl) (rdb (p := 352) (i := 3) ch_cX1_work_352 rfl)
theorem dX1_work_356 : decode cX1_work 356 = .ok (.goto 68, 3) := do_167 (rdb (p := 352) (i := 4) ch_cX1_work_352 rfl) (rdb (p := 352) (i := 5) ch_cX1_work_352 rfl) (rdb (p := 352) (i := 6) ch_cX1_work_352 rfl) (by decide +kernel)
theorem dX1_work_359 : decode cX1_work 359 = .ok (.iload 6, 2) := do_21 (rdb (p := 352) (i := 7) ch_cX1_work_352 rfl) (rdb (p := 352) (i := 8) ch_cX1_work_352 rfl)
theorem dX1_work_361 : decode cX1_work 361 = .ok (.iload 7, 2) := do_21 (rdb (p := 352) (i := 9) ch_cX1_work_352 rfl) (rdb (p := 352) (i := 10) ch_cX1_work_352 rfl)
theorem dX1_work_363 : decode cX1_work 363 = .ok (.iadd, 1) := do_96 (rdb (p := 352) (i := 11) ch_cX1_work_352 rfl)
theorem dX1_work_364 : decode cX1_work 364 = .ok (.istore 8, 2) := do_54 (rdb (p := 352) (i := 12) ch_cX1_work_352 rfl) (rdb (p := 352) (i := 13) ch_cX1_work_352 rfl)
theorem dX1_work_366 : decode cX1_work 366 = .ok (.goto 58, 3) := do_167 (rdb (p := 352) (i := 14) ch_cX1_work_352 rfl) (rdb (p := 352) (i := 15) ch_cX1_work_352 rfl) (rdb (p := 352) (i := 16) ch_cX1_work_352 rfl) (by decide +kernel)
theorem dX1_work_369 : decode cX1_work 369 = .ok (.iload 6, 2) := do_21 (rdb (p := 352) (i := 17) ch_cX1_work_352 rfl) (rdb (p := 352) (i := 18) ch_cX1_work_352 rfl)
theorem dX1_work_371 : decode cX1_work 371 = .ok (.iload 7, 2) := do_21 (rdb (p := 352) (i := 19) ch_cX1_work_352 rfl) (rdb (p := 352) (i := 20) ch_cX1_work_352 rfl)
theorem dX1_work_373 : decode cX1_work 373 = .ok (.isub, 1) := do_100 (rdb (p := 352) (i := 21) ch_cX1_work_352 rfl)
theorem dX1_work_374 : decode cX1_work 374 = .ok (.istore 8, 2) := do_54 (rdb (p := 352) (i := 22) ch_cX1_work_352 rfl) (rdb (p := 352) (i := 23) ch_cX1_work_352 rfl)
theorem dX1_work_376 : decode cX1_work 376 = .ok (.goto 48, 3) := do_167 (rdb (p := 352) (i := 24) ch_cX1_work_352 rfl) (rdb (p := 352) (i := 25) ch_cX1_work_352 rfl) (rdb (p := 352) (i := 26) ch_cX1_work_352 rfl) (by decide +kernel)
theorem dX1_work_379 : decode cX1_work 379 = .ok (.iload 6, 2) := do_21 (rdb (p := 352) (i := 27) ch_cX1_work_352 rfl) (rdb (p := 352) (i := 28) ch_cX1_work_352 rfl)
theorem dX1_work_381 : decode cX1_work 381 = .ok (.iload 7, 2) := do_21 (rdb (p := 352) (i := 29) ch_cX1_work_352 rfl) (rdb (p := 352) (i := 30) ch_cX1_work_352 rfl)
theorem dX1_work_383 : decode cX1_work 383 = .ok (.imul, 1) := do_104 (rdb (p := 352) (i := 31) ch_cX1_work_352 rfl)
theorem ch_cX1_work_384 : (cX1_work.data.toList.drop 384).take 36 = [54, 8, 167, 0, 38, 21, 7, 154, 0, 7, 3, 167, 0, 8, 21, 6, 21, 7, 108, 54, 8, 167, 0, 19, 21, 7, 154, 0, 7, 3, 167, 0, 8, 21, 6, 21] := by decide +kernel
theorem dX1_work_384 : decode cX1_work 384 = .ok (.istore 8, 2) := do_54 (rdb (p := 384) (i := 0) ch_cX1_work_384 rfl) (rdb (p := 384) (i := 1) ch_cX1_work_384 rfl)
theorem dX1_work_386 : decode cX1_work 386 = .ok (.goto 38, 3) := do_167 (rdb (p := 384) (i := 2) ch_cX1_work_384 rfl) (rdb (p := 384) (i := 3) ch_cX1_work_384 rfl) (rdb (p := 384) (i := 4) ch_cX1_work_384 rfl) (by decide +kernel)
theorem dX1_work_389 : decode cX1_work 389 = .ok (.iload 7, 2) := do_21 (rdb (p := 384) (i := 5) ch_cX1_work_384 rfl) (rdb (p := 384) (i := 6) ch_cX1_work_384 rfl)
theorem dX1_work_391 : decode cX1_work 391 = .ok (.ifCond .ne 7, 3) := do_154 (rdb (p := 384) (i := 7) ch_cX1_work_384 rfl) (rdb (p := 384) (i := 8) ch_cX1_work_384 rfl) (rdb (p := 384) (i := 9) ch_cX1_work_384 rfl) (by decide +kernel)
theorem dX1_work_394 : decode cX1_work 394 = .ok (.iconst 0, 1) := do_3 (rdb (p := 384) (i := 10) ch_cX1_work_384 rfl)
theorem dX1_work_395 : decode cX1_work 395 = .ok (.goto 8, 3) := do_167 (rdb (p := 384) (i := 11) ch_cX1_work_384 rfl) (rdb (p := 384) (i := 12) ch_cX1_work_384 rfl) (rdb (p := 384) (i := 13) ch_cX1_work_384 rfl) (by decide +kernel)
theorem dX1_work_398 : decode cX1_work 398 = .ok (.iload 6, 2) := do_21 (rdb (p := 384) (i := 14) ch_cX1_work_384 rfl) (rdb (p := 384) (i := 15) ch_cX1_work_384 rfl)
theorem dX1_work_400 : decode cX1_work 400 = .ok (.iload 7, 2) := do_21 (rdb (p := 384) (i := 16) ch_cX1_work_384 rfl) (rdb (p := 384) (i := 17) ch_cX1_work_384 rfl)
theorem dX1_work_402 : decode cX1_work 402 = .ok (.idiv, 1) := do_108 (rdb (p := 384) (i := 18) ch_cX1_work_384 rfl)
theorem dX1_work_403 : decode cX1_work 403 = .ok (.istore 8, 2) := do_54 (rdb (p := 384) (i := 19) ch_cX1_work_384 rfl) (rdb (p := 384) (i := 20) ch_cX1_work_384 rfl)
theorem dX1_work_405 : decode cX1_work 405 = .ok (.goto 19, 3) := do_167 (rdb (p := 384) (i := 21) ch_cX1_work_384 rfl) (rdb (p := 384) (i := 22) ch_cX1_work_384 rfl) (rdb (p := 384) (i := 23) ch_cX1_work_384 rfl) (by decide +kernel)
theorem dX1_work_408 : decode cX1_work 408 = .ok (.iload 7, 2) := do_21 (rdb (p := 384) (i := 24) ch_cX1_work_384 rfl) (rdb (p := 384) (i := 25) ch_cX1_work_384 rfl)
theorem dX1_work_410 : decode cX1_work 410 = .ok (.ifCond .ne 7, 3) := do_154 (rdb (p := 384) (i := 26) ch_cX1_work_384 rfl) (rdb (p := 384) (i := 27) ch_cX1_work_384 rfl) (rdb (p := 384) (i := 28) ch_cX1_work_384 rfl) (by decide +kernel)
theorem dX1_work_413 : decode cX1_work 413 = .ok (.iconst 0, 1) := do_3 (rdb (p := 384) (i := 29) ch_cX1_work_384 rfl)
theorem dX1_work_414 : decode cX1_work 414 = .ok (.goto 8, 3) := do_167 (rdb (p := 384) (i := 30) ch_cX1_work_384 rfl) (rdb (p := 384) (i := 31) ch_cX1_work_384 rfl) (rdb (p := 384) (i := 32) ch_cX1_work_384 rfl) (by decide +kernel)
theorem ch_cX1_work_416 : (cX1_work.data.toList.drop 416).take 36 = [8, 21, 6, 21, 7, 112, 54, 8, 42, 180, 0, 13, 28, 4, 100, 21, 8, 79, 132, 3, 1, 167, 254, 79, 28, 158, 0, 12, 42, 180, 0, 13, 3, 46, 167, 0] := by decide +kernel
theorem dX1_work_417 : decode cX1_work 417 = .ok (.iload 6, 2) := do_21 (rdb (p := 416) (i := 1) ch_cX1_work_416 rfl) (rdb (p := 416) (i := 2) ch_cX1_work_416 rfl)
theorem dX1_work_419 : decode cX1_work 419 = .ok (.iload 7, 2) := do_21 (rdb (p := 416) (i := 3) ch_cX1_work_416 rfl) (rdb (p := 416) (i := 4) ch_cX1_work_416 rfl)
theorem dX1_work_421 : decode cX1_work 421 = .ok (.irem, 1) := do_112 (rdb (p := 416) (i := 5) ch_cX1_work_416 rfl)
theorem dX1_work_422 : decode cX1_work 422 = .ok (.istore 8, 2) := do_54 (rdb (p := 416) (i := 6) ch_cX1_work_416 rfl) (rdb (p := 416) (i := 7) ch_cX1_work_416 rfl)
theorem dX1_work_424 : decode cX1_work 424 = .ok (.aload_n 0, 1) := do_42 (rdb (p := 416) (i := 8) ch_cX1_work_416 rfl)
theorem dX1_work_425 : decode cX1_work 425 = .ok (.getfield 13, 3) := do_180 (rdb (p := 416) (i := 9) ch_cX1_work_416 rfl) (rdb (p := 416) (i := 10) ch_cX1_work_416 rfl) (rdb (p := 416) (i := 11) ch_cX1_work_416 rfl) rfl
theorem dX1_work_428 : decode cX1_work 428 = .ok (.iload_n 2, 1) := do_28 (rdb (p := 416) (i := 12) ch_cX1_work_416 rfl)
theorem dX1_work_429 : decode cX1_work 429 = .ok (.iconst 1, 1) := do_4 (rdb (p := 416) (i := 13) ch_cX1_work_416 rfl)
theorem dX1_work_430 : decode cX1_work 430 = .ok (.isub, 1) := do_100 (rdb (p := 416) (i := 14) ch_cX1_work_416 rfl)
theorem dX1_work_431 : decode cX1_work 431 = .ok (.iload 8, 2) := do_21 (rdb (p := 416) (i := 15) ch_cX1_work_416 rfl) (rdb (p := 416) (i := 16) ch_cX1_work_416 rfl)
theorem dX1_work_433 : decode cX1_work 433 = .ok (.iastore, 1) := do_79 (rdb (p := 416) (i := 17) ch_cX1_work_416 rfl)
theorem dX1_work_434 : decode cX1_work 434 = .ok (.iinc 3 1, 3) := do_132 (rdb (p := 416) (i := 18) ch_cX1_work_416 rfl) (rdb (p := 416) (i := 19) ch_cX1_work_416 rfl) (rdb (p := 416) (i := 20) ch_cX1_work_416 rfl) (by decide +kernel)
theorem dX1_work_437 : decode cX1_work 437 = .ok (.goto (-433), 3) := do_167 (rdb (p := 416) (i := 21) ch_cX1_work_416 rfl) (rdb (p := 416) (i := 22) ch_cX1_work_416 rfl) (rdb (p := 416) (i := 23) ch_cX1_work_416 rfl) (by decide +kernel)
theorem dX1_work_440 : decode cX1_work 440 = .ok (.iload_n 2, 1) := do_28 (rdb (p := 416) (i := 24) ch_cX1_work_416 rfl)
theorem dX1_work_441 : decode cX1_work 441 = .ok (.ifCond .le 12, 3) := do_158 (rdb (p := 416) (i := 25) ch_cX1_work_416 rfl) (rdb (p := 416) (i := 26) ch_cX1_work_416 rfl) (rdb (p := 416) (i := 27) ch_cX1_work_416 rfl) (by decide +kernel)
theorem dX1_work_444 : decode cX1_work 444 = .ok (.aload_n 0, 1) := do_42 (rdb (p := 416) (i := 28) ch_cX1_work_416 rfl)
theorem dX1_work_445 : decode cX1_work 445 = .ok (.getfield 13, 3) := do_180 (rdb (p := 416) (i := 29) ch_cX1_work_416 rfl) (rdb (p := 416) (i := 30) ch_cX1_work_416 rfl) (rdb (p := 416) (i := 31) ch_cX1_work_416 rfl) rfl
theorem ch_cX1_work_448 : (cX1_work.data.toList.drop 448).take 36 = [3, 46, 167, 0, 4, 3, 172] := by decide +kernel
theorem dX1_work_448 : decode cX1_work 448 = .ok (.iconst 0, 1) := do_3 (rdb (p := 448) (i := 0) ch_cX1_work_448 rfl)
theorem dX1_work_449 : decode cX1_work 449 = .ok (.iaload, 1) := do_46 (rdb (p := 448) (i := 1) ch_cX1_work_448 rfl)
theorem dX1_work_450 : decode cX1_work 450 = .ok (.goto 4, 3) := do_167 (rdb (p := 448) (i := 2) ch_cX1_work_448 rfl) (rdb (p := 448) (i := 3) ch_cX1_work_448 rfl) (rdb (p := 448) (i := 4) ch_cX1_work_448 rfl) (by decide +kernel)
theorem dX1_work_453 : decode cX1_work 453 = .ok (.iconst 0, 1) := do_3 (rdb (p := 448) (i := 5) ch_cX1_work_448 rfl)
theorem dX1_work_454 : decode cX1_work 454 = .ok (.ireturn, 1) := do_172 (rdb (p := 448) (i := 6) ch_cX1_work_448 rfl)
theorem dX5_add_0 : decode cX5_add 0 = .ok (.aload_n 0, 1) := by decide +kernel
theorem dX5_add_1 : decode cX5_add 1 = .ok (.getfield 7, 3) := by decide +kernel
theorem dX5_add_4 : decode cX5_add 4 = .ok (.ifCond .lt 35, 3) := by decide +kernel
theorem dX5_add_7 : decode cX5_add 7 = .ok (.aload_n 0, 1) := by decide +kernel
theorem dX5_add_8 : decode cX5_add 8 = .ok (.getfield 7, 3) := by decide +kernel
theorem dX5_add_11 : decode cX5_add 11 = .ok (.aload_n 0, 1) := by decide +kernel
theorem dX5_add_12 : decode cX5_add 12 = .ok (.getfield 19, 3) := by decide +kernel
theorem dX5_add_15 : decode cX5_add 15 = .ok (.arraylength, 1) := by decide +kernel
theorem dX5_add_16 : decode cX5_add 16 = .ok (.if_icmp .ge 23, 3) := by decide +kernel
theorem dX5_add_19 : decode cX5_add 19 = .ok (.aload_n 0, 1) := by decide +kernel
theorem dX5_add_20 : decode cX5_add 20 = .ok (.getfield 19, 3) := by decide +kernel
theorem dX5_add_23 : decode cX5_add 23 = .ok (.aload_n 0, 1) := by decide +kernel
theorem dX5_add_24 : decode cX5_add 24 = .ok (.getfield 7, 3) := by decide +kernel
theorem dX5_add_27 : decode cX5_add 27 = .ok (.iload_n 1, 1) := by decide +kernel
theorem dX5_add_28 : decode cX5_add 28 = .ok (.iastore, 1) := by decide +kernel
theorem dX5_add_29 : decode cX5_add 29 = .ok (.aload_n 0, 1) := by decide +kernel
theorem dX5_add_30 : decode cX5_add 30 = .ok (.dup, 1) := by decide +kernel
theorem dX5_add_31 : decode cX5_add 31 = .ok (.getfield 7, 3) := by decide +kernel
theorem dX5_add_34 : decode cX5_add 34 = .ok (.iconst 1, 1) := by decide +kernel
theorem dX5_add_35 : decode cX5_add 35 = .ok (.iadd, 1) := by decide +kernel
theorem dX5_add_36 : decode cX5_add 36 = .ok (.putfield 7, 3) := by decide +kernel
theorem dX5_add_39 : decode cX5_add 39 = .ok (.return_, 1) := by decide +kernel
theorem dX5_clear_0 : decode cX5_clear 0 = .ok (.aload_n 0, 1) := by decide +kernel
theorem dX5_clear_1 : decode cX5_clear 1 = .ok (.iconst 0, 1) := by decide +kernel
theorem dX5_clear_2 : decode cX5_clear 2 = .ok (.putfield 7, 3) := by decide +kernel
theorem dX5_clear_5 : decode cX5_clear 5 = .ok (.return_, 1) := by decide +kernel
theorem dX5_dropLast_0 : decode cX5_dropLast 0 = .ok (.aload_n 0, 1) := by decide +kernel
theorem dX5_dropLast_1 : decode cX5_dropLast 1 = .ok (.getfield 7, 3) := by decide +kernel
theorem dX5_dropLast_4 : decode cX5_dropLast 4 = .ok (.ifCond .le 13, 3) := by decide +kernel
theorem dX5_dropLast_7 : decode cX5_dropLast 7 = .ok (.aload_n 0, 1) := by decide +kernel
theorem dX5_dropLast_8 : decode cX5_dropLast 8 = .ok (.dup, 1) := by decide +kernel
theorem dX5_dropLast_9 : decode cX5_dropLast 9 = .ok (.getfield 7, 3) := by decide +kernel
theorem dX5_dropLast_12 : decode cX5_dropLast 12 = .ok (.iconst 1, 1) := by decide +kernel
theorem dX5_dropLast_13 : decode cX5_dropLast 13 = .ok (.isub, 1) := by decide +kernel
theorem dX5_dropLast_14 : decode cX5_dropLast 14 = .ok (.putfield 7, 3) := by decide +kernel
theorem dX5_dropLast_17 : decode cX5_dropLast 17 = .ok (.return_, 1) := by decide +kernel
theorem dX5_get_0 : decode cX5_get 0 = .ok (.iload_n 1, 1) := by decide +kernel
theorem dX5_get_1 : decode cX5_get 1 = .ok (.ifCond .lt 29, 3) := by decide +kernel
theorem dX5_get_4 : decode cX5_get 4 = .ok (.iload_n 1, 1) := by decide +kernel
theorem dX5_get_5 : decode cX5_get 5 = .ok (.aload_n 0, 1) := by decide +kernel
theorem dX5_get_6 : decode cX5_get 6 = .ok (.getfield 7, 3) := by decide +kernel
theorem dX5_get_9 : decode cX5_get 9 = .ok (.if_icmp .ge 21, 3) := by decide +kernel
theorem dX5_get_12 : decode cX5_get 12 = .ok (.iload_n 1, 1) := by decide +kernel
theorem dX5_get_13 : decode cX5_get 13 = .ok (.aload_n 0, 1) := by decide +kernel
theorem dX5_get_14 : decode cX5_get 14 = .ok (.getfield 19, 3) := by decide +kernel
theorem dX5_get_17 : decode cX5_get 17 = .ok (.arraylength, 1) := by decide +kernel
theorem dX5_get_18 : decode cX5_get 18 = .ok (.if_icmp .ge 12, 3) := by decide +kernel
theorem dX5_get_21 : decode cX5_get 21 = .ok (.aload_n 0, 1) := by decide +kernel
theorem dX5_get_22 : decode cX5_get 22 = .ok (.getfield 19, 3) := by decide +kernel
theorem dX5_get_25 : decode cX5_get 25 = .ok (.iload_n 1, 1) := by decide +kernel
theorem dX5_get_26 : decode cX5_get 26 = .ok (.iaload, 1) := by decide +kernel
theorem dX5_get_27 : decode cX5_get 27 = .ok (.goto 4, 3) := by decide +kernel
theorem dX5_get_30 : decode cX5_get 30 = .ok (.iconst 0, 1) := by decide +kernel
theorem dX5_get_31 : decode cX5_get 31 = .ok (.ireturn, 1) := by decide +kernel
theorem dX5_has_0 : decode cX5_has 0 = .ok (.iload_n 1, 1) := by decide +kernel
theorem dX5_has_1 : decode cX5_has 1 = .ok (.ifCond .lt 15, 3) := by decide +kernel
theorem dX5_has_4 : decode cX5_has 4 = .ok (.iload_n 1, 1) := by decide +kernel
theorem dX5_has_5 : decode cX5_has 5 = .ok (.aload_n 0, 1) := by decide +kernel
theorem dX5_has_6 : decode cX5_has 6 = .ok (.getfield 7, 3) := by decide +kernel
theorem dX5_has_9 : decode cX5_has 9 = .ok (.if_icmp .ge 7, 3) := by decide +kernel
theorem dX5_has_12 : decode cX5_has 12 = .ok (.iconst 1, 1) := by decide +kernel
theorem dX5_has_13 : decode cX5_has 13 = .ok (.goto 4, 3) := by decide +kernel
theorem dX5_has_16 : decode cX5_has 16 = .ok (.iconst 0, 1) := by decide +kernel
theorem dX5_has_17 : decode cX5_has 17 = .ok (.ireturn, 1) := by decide +kernel
theorem dX5_room_0 : decode cX5_room 0 = .ok (.aload_n 0, 1) := by decide +kernel
theorem dX5_room_1 : decode cX5_room 1 = .ok (.getfield 19, 3) := by decide +kernel
theorem dX5_room_4 : decode cX5_room 4 = .ok (.arraylength, 1) := by decide +kernel
theorem dX5_room_5 : decode cX5_room 5 = .ok (.aload_n 0, 1) := by decide +kernel
theorem dX5_room_6 : decode cX5_room 6 = .ok (.getfield 7, 3) := by decide +kernel
theorem dX5_room_9 : decode cX5_room 9 = .ok (.isub, 1) := by decide +kernel
theorem dX5_room_10 : decode cX5_room 10 = .ok (.ireturn, 1) := by decide +kernel
theorem ch_cX5_takeFrom_0 : (cX5_takeFrom.data.toList.drop 0).take 36 = [42, 43, 180, 0, 7, 42, 180, 0, 19, 190, 184, 0, 23, 181, 0, 7, 3, 61, 28, 42, 180, 0, 7, 162, 0, 20, 42, 180, 0, 19, 28, 43, 28, 182, 0, 26] := by decide +kernel
theorem dX5_takeFrom_0 : decode cX5_takeFrom 0 = .ok (.aload_n 0, 1) := do_42 (rdb (p := 0) (i := 0) ch_cX5_takeFrom_0 rfl)
theorem dX5_takeFrom_1 : decode cX5_takeFrom 1 = .ok (.aload_n 1, 1) := do_43 (rdb (p := 0) (i := 1) ch_cX5_takeFrom_0 rfl)
theorem dX5_takeFrom_2 : decode cX5_takeFrom 2 = .ok (.getfield 7, 3) := do_180 (rdb (p := 0) (i := 2) ch_cX5_takeFrom_0 rfl) (rdb (p := 0) (i := 3) ch_cX5_takeFrom_0 rfl) (rdb (p := 0) (i := 4) ch_cX5_takeFrom_0 rfl) rfl
theorem dX5_takeFrom_5 : decode cX5_takeFrom 5 = .ok (.aload_n 0, 1) := do_42 (rdb (p := 0) (i := 5) ch_cX5_takeFrom_0 rfl)
theorem dX5_takeFrom_6 : decode cX5_takeFrom 6 = .ok (.getfield 19, 3) := do_180 (rdb (p := 0) (i := 6) ch_cX5_takeFrom_0 rfl) (rdb (p := 0) (i := 7) ch_cX5_takeFrom_0 rfl) (rdb (p := 0) (i := 8) ch_cX5_takeFrom_0 rfl) rfl
theorem dX5_takeFrom_9 : decode cX5_takeFrom 9 = .ok (.arraylength, 1) := do_190 (rdb (p := 0) (i := 9) ch_cX5_takeFrom_0 rfl)
theorem dX5_takeFrom_10 : decode cX5_takeFrom 10 = .ok (.invokestatic 23, 3) := do_184 (rdb (p := 0) (i := 10) ch_cX5_takeFrom_0 rfl) (rdb (p := 0) (i := 11) ch_cX5_takeFrom_0 rfl) (rdb (p := 0) (i := 12) ch_cX5_takeFrom_0 rfl) rfl
theorem dX5_takeFrom_13 : decode cX5_takeFrom 13 = .ok (.putfield 7, 3) := do_181 (rdb (p := 0) (i := 13) ch_cX5_takeFrom_0 rfl) (rdb (p := 0) (i := 14) ch_cX5_takeFrom_0 rfl) (rdb (p := 0) (i := 15) ch_cX5_takeFrom_0 rfl) rfl
theorem dX5_takeFrom_16 : decode cX5_takeFrom 16 = .ok (.iconst 0, 1) := do_3 (rdb (p := 0) (i := 16) ch_cX5_takeFrom_0 rfl)
theorem dX5_takeFrom_17 : decode cX5_takeFrom 17 = .ok (.istore_n 2, 1) := do_61 (rdb (p := 0) (i := 17) ch_cX5_takeFrom_0 rfl)
theorem dX5_takeFrom_18 : decode cX5_takeFrom 18 = .ok (.iload_n 2, 1) := do_28 (rdb (p := 0) (i := 18) ch_cX5_takeFrom_0 rfl)
theorem dX5_takeFrom_19 : decode cX5_takeFrom 19 = .ok (.aload_n 0, 1) := do_42 (rdb (p := 0) (i := 19) ch_cX5_takeFrom_0 rfl)
theorem dX5_takeFrom_20 : decode cX5_takeFrom 20 = .ok (.getfield 7, 3) := do_180 (rdb (p := 0) (i := 20) ch_cX5_takeFrom_0 rfl) (rdb (p := 0) (i := 21) ch_cX5_takeFrom_0 rfl) (rdb (p := 0) (i := 22) ch_cX5_takeFrom_0 rfl) rfl
theorem dX5_takeFrom_23 : decode cX5_takeFrom 23 = .ok (.if_icmp .ge 20, 3) := do_162 (rdb (p := 0) (i := 23) ch_cX5_takeFrom_0 rfl) (rdb (p := 0) (i := 24) ch_cX5_takeFrom_0 rfl) (rdb (p := 0) (i := 25) ch_cX5_takeFrom_0 rfl) (by decide +kernel)
theorem dX5_takeFrom_26 : decode cX5_takeFrom 26 = .ok (.aload_n 0, 1) := do_42 (rdb (p := 0) (i := 26) ch_cX5_takeFrom_0 rfl)
theorem dX5_takeFrom_27 : decode cX5_takeFrom 27 = .ok (.getfield 19, 3) := do_180 (rdb (p := 0) (i := 27) ch_cX5_takeFrom_0 rfl) (rdb (p := 0) (i := 28) ch_cX5_takeFrom_0 rfl) (rdb (p := 0) (i := 29) ch_cX5_takeFrom_0 rfl) rfl
theorem dX5_takeFrom_30 : decode cX5_takeFrom 30 = .ok (.iload_n 2, 1) := do_28 (rdb (p := 0) (i := 30) ch_cX5_takeFrom_0 rfl)
theorem dX5_takeFrom_31 : decode cX5_takeFrom 31 = .ok (.aload_n 1, 1) := do_43 (rdb (p := 0) (i := 31) ch_cX5_takeFrom_0 rfl)
theorem ch_cX5_takeFrom_32 : (cX5_takeFrom.data.toList.drop 32).take 36 = [28, 182, 0, 26, 79, 132, 2, 1, 167, 255, 234, 177] := by decide +kernel
theorem dX5_takeFrom_32 : decode cX5_takeFrom 32 = .ok (.iload_n 2, 1) := do_28 (rdb (p := 32) (i := 0) ch_cX5_takeFrom_32 rfl)
theorem dX5_takeFrom_33 : decode cX5_takeFrom 33 = .ok (.invokevirtual 26, 3) := do_182 (rdb (p := 32) (i := 1) ch_cX5_takeFrom_32 rfl) (rdb (p := 32) (i := 2) ch_cX5_takeFrom_32 rfl) (rdb (p := 32) (i := 3) ch_cX5_takeFrom_32 rfl) rfl
theorem dX5_takeFrom_36 : decode cX5_takeFrom 36 = .ok (.iastore, 1) := do_79 (rdb (p := 32) (i := 4) ch_cX5_takeFrom_32 rfl)
theorem dX5_takeFrom_37 : decode cX5_takeFrom 37 = .ok (.iinc 2 1, 3) := do_132 (rdb (p := 32) (i := 5) ch_cX5_takeFrom_32 rfl) (rdb (p := 32) (i := 6) ch_cX5_takeFrom_32 rfl) (rdb (p := 32) (i := 7) ch_cX5_takeFrom_32 rfl) (by decide +kernel)
theorem dX5_takeFrom_40 : decode cX5_takeFrom 40 = .ok (.goto (-22), 3) := do_167 (rdb (p := 32) (i := 8) ch_cX5_takeFrom_32 rfl) (rdb (p := 32) (i := 9) ch_cX5_takeFrom_32 rfl) (rdb (p := 32) (i := 10) ch_cX5_takeFrom_32 rfl) (by decide +kernel)
theorem dX5_takeFrom_43 : decode cX5_takeFrom 43 = .ok (.return_, 1) := do_177 (rdb (p := 32) (i := 11) ch_cX5_takeFrom_32 rfl)
end
