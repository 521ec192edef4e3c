def S_c_X12_finding : rf → Nat → Prop := fun c k => (c.1 = 53 ∧ c.2.1 = 0) ∨ False
def SP_X12_finding (v : Int32) (Mz : mM) (r_ : Int32) (M_ : mM) : Prop := ∃ z1_ : Int32, (z1_.toInt = -1000000 - v.toInt) ∧ ∃ j5_ : Nat, ((j5_ : Int) = z1_.toInt) ∧ ∃ z3_ : Int32, (z3_ = Mz.1 (53, 0, 0) j5_) ∧ ∃ z7_ : Int32, (z7_ = z3_ + (1 : Int32)) ∧ ∃ j11_ : Nat, ((j11_ : Int) = z1_.toInt) ∧ ∃ M9_ : mM, (M9_ = up Mz (53, 0, 0) j11_ z7_) ∧ r_ = v ∧ M_ = M9_
theorem lf_c_X12_finding_0  (v : Int32) (hv : -1000006 ≤ v.toInt ∧ v.toInt ≤ -1000000) : -2147483648 ≤ -1000000 - v.toInt ∧ -1000000 - v.toInt < 2147483648 := by have r_v := rngI v; omega
theorem lf_c_X12_finding_1  (v : Int32) (z1_ : Int32) (hv : -1000006 ≤ v.toInt ∧ v.toInt ≤ -1000000) (h2_ : z1_.toInt = -1000000 - v.toInt) : 0 ≤ z1_.toInt ∧ z1_.toInt < ((7 : Nat) : Int) := by have r_v := rngI v; have r_z1_ := rngI z1_; omega
theorem lf_c_X12_finding_2 (Mz : mM) (v : Int32) (z1_ : Int32) (j5_ : Nat) (z3_ : Int32) (hv : -1000006 ≤ v.toInt ∧ v.toInt ≤ -1000000) (h2_ : z1_.toInt = -1000000 - v.toInt) (h6_ : (j5_ : Int) = z1_.toInt) (e4_ : z3_ = Mz.1 (53, 0, 0) j5_) : 0 ≤ z1_.toInt ∧ z1_.toInt < ((7 : Nat) : Int) := by have r_v := rngI v; have r_z1_ := rngI z1_; have r_z3_ := rngI z3_; subst e4_; omega
theorem lf_c_X12_finding_3 (M9_ : mM) (Mz : mM) (v : Int32) (z1_ : Int32) (j5_ : Nat) (z3_ : Int32) (z7_ : Int32) (j11_ : Nat) (hv : -1000006 ≤ v.toInt ∧ v.toInt ≤ -1000000) (h2_ : z1_.toInt = -1000000 - v.toInt) (h6_ : (j5_ : Int) = z1_.toInt) (e4_ : z3_ = Mz.1 (53, 0, 0) j5_) (h12_ : (j11_ : Int) = z1_.toInt) (hM10_ : M9_ = up Mz (53, 0, 0) j11_ z7_) : v.toInt = v.toInt := by have r_v := rngI v; have r_z1_ := rngI z1_; have r_z3_ := rngI z3_; have r_z7_ := rngI z7_; subst e4_; omega
set_option maxHeartbeats 4000000 in
set_option maxRecDepth 100000 in
theorem c_X12_finding (l : Launch) (G : va_G) (cy : Nat → ClassId) (ad : rf → Nat) (d : Nat) (v : Int32) (Mz : mM) (hIz : InvD Mz) (hv : -1000006 ≤ v.toInt ∧ v.toInt ≤ -1000000) : WP DD l G cy ad yX12_finding cX12_finding 2 (some .int) d 0 [(0, vR (12, 0, 0)), (1, vI v)] [] Mz (fun r M' => InvD M' ∧ FR (S_c_X12_finding) Mz M' ∧ (r.toInt = v.toInt) ∧ SP_X12_finding v Mz r M') := by
  have hFz : FR (S_c_X12_finding) Mz Mz := FR.self
  refine w_aload_n dX12_finding_0 rfl 0 rfl ?_
  refine w_getR (c' := (53, 0, 0)) fl_RX12_19 rfl rfl ic_12 dX12_finding_1 rfl ?_
  refine w_ldc (v := (-1000000)) m_1438 dX12_finding_4 ?_
  refine w_iload_n dX12_finding_6 rfl 1 rfl ?_
  refine w_isubB dX12_finding_7 li_m1000000 (rfl : v.toInt = v.toInt) (lf_c_X12_finding_0 v hv) (fun z1_ h2_ => ?_)
  refine w_dup2 dX12_finding_8 rfl rfl ?_
  refine w_iald rfl rfl ic_53 (rfl : z1_.toInt = z1_.toInt) (lf_c_X12_finding_1 v z1_ hv h2_) dX12_finding_9 (fun j5_ h6_ z3_ e4_ => ?_)
  refine w_iconst (v := 1) dX12_finding_10 (by decide) ?_
  refine w_iadd dX12_finding_11 (fun z7_ h8_ => ?_)
  refine w_iast DD_nd rfl rfl ic_53 (rfl : z1_.toInt = z1_.toInt) (lf_c_X12_finding_2 Mz v z1_ j5_ z3_ hv h2_ h6_ e4_) dX12_finding_12 (fun j11_ h12_ M9_ hM10_ => ?_)
  have hI13_ := hIz.put hM10_ ⟨trivial, Or.inr (by decide)⟩
  have hF14_ := hFz.put hM10_ (Or.inl ⟨rfl, rfl⟩)
  refine w_iload_n dX12_finding_13 rfl 1 rfl ?_
  exact w_iret rfl dX12_finding_14 ⟨hI13_, hF14_, (lf_c_X12_finding_3 M9_ Mz v z1_ j5_ z3_ z7_ j11_ hv h2_ h6_ e4_ h12_ hM10_), ⟨z1_, h2_, j5_, h6_, z3_, e4_, z7_, h8_, j11_, h12_, M9_, hM10_, rfl, rfl⟩⟩
def SP_X12_within (v : Int32) (lo : Int32) (hi : Int32) (Mz : mM) (r_ : Int32) : Prop := (((v.toInt < lo.toInt) ∧ r_ = 0) ∨ ((lo.toInt ≤ v.toInt) ∧ (((hi.toInt < v.toInt) ∧ r_ = 0) ∨ ((v.toInt ≤ hi.toInt) ∧ r_ = 1))))
theorem lf_c_X12_within_0  (v : Int32) (lo : Int32) (hi : Int32) (h1_ : v.toInt < lo.toInt) : ¬ (lo.toInt ≤ v.toInt ∧ v.toInt ≤ hi.toInt) := by have r_v := rngI v; have r_lo := rngI lo; have r_hi := rngI hi; omega
theorem lf_c_X12_within_1  (v : Int32) (lo : Int32) (hi : Int32) (h1_ : lo.toInt ≤ v.toInt) (h2_ : hi.toInt < v.toInt) : ¬ (lo.toInt ≤ v.toInt ∧ v.toInt ≤ hi.toInt) := by have r_v := rngI v; have r_lo := rngI lo; have r_hi := rngI hi; omega
theorem lf_c_X12_within_2  (v : Int32) (lo : Int32) (hi : Int32) (h1_ : lo.toInt ≤ v.toInt) (h2_ : v.toInt ≤ hi.toInt) : lo.toInt ≤ v.toInt ∧ v.toInt ≤ hi.toInt := by have r_v := rngI v; have r_lo := rngI lo; have r_hi := rngI hi; omega
set_option maxHeartbeats 4000000 in
set_option maxRecDepth 100000 in
theorem c_X12_within (l : Launch) (G : va_G) (cy : Nat → ClassId) (ad : rf → Nat) (d : Nat) (v : Int32) (lo : Int32) (hi : Int32) (Mz : mM) (hIz : InvD Mz) : WP DD l G cy ad yX12_within cX12_within 3 (some .boolean) d 0 [(0, vI v), (1, vI lo), (2, vI hi)] [] Mz (fun r M' => Mz = M' ∧ (((r = 1 ∧ lo.toInt ≤ v.toInt ∧ v.toInt ≤ hi.toInt) ∨ (r = 0 ∧ ¬ (lo.toInt ≤ v.toInt ∧ v.toInt ≤ hi.toInt)))) ∧ SP_X12_within v lo hi Mz r) := by
  refine w_iload_n dX12_within_0 rfl 0 rfl ?_
  refine w_iload_n dX12_within_1 rfl 1 rfl ?_
  refine w_icmp_lt (tgt := 14) dX12_within_2 (by decide) (rfl : v.toInt = v.toInt) (rfl : lo.toInt = lo.toInt) (fun h1_ => ?_) (fun h1_ => ?_)
  · refine w_iconst (v := 0) dX12_within_14 (by decide) ?_
    exact w_zret rfl dX12_within_15 ⟨by decide, by decide⟩ ⟨rfl, (Or.inr ⟨rfl, (lf_c_X12_within_0 v lo hi h1_)⟩), (Or.inl ⟨h1_, rfl⟩)⟩
  · refine w_iload_n dX12_within_5 rfl 0 rfl ?_
    refine w_iload_n dX12_within_6 rfl 2 rfl ?_
    refine w_icmp_gt (tgt := 14) dX12_within_7 (by decide) (rfl : v.toInt = v.toInt) (rfl : hi.toInt = hi.toInt) (fun h2_ => ?_) (fun h2_ => ?_)
    · refine w_iconst (v := 0) dX12_within_14 (by decide) ?_
      exact w_zret rfl dX12_within_15 ⟨by decide, by decide⟩ ⟨rfl, (Or.inr ⟨rfl, (lf_c_X12_within_1 v lo hi h1_ h2_)⟩), (Or.inr ⟨h1_, (Or.inl ⟨h2_, rfl⟩)⟩)⟩
    · refine w_iconst (v := 1) dX12_within_10 (by decide) ?_
      refine w_goto (tgt := 15) dX12_within_11 (by decide) ?_
      exact w_zret rfl dX12_within_15 ⟨by decide, by decide⟩ ⟨rfl, (Or.inl ⟨rfl, (lf_c_X12_within_2 v lo hi h1_ h2_)⟩), (Or.inr ⟨h1_, (Or.inr ⟨h2_, rfl⟩)⟩)⟩
def SP_X12_isCell (v : Int32) (Mz : mM) (r_ : Int32) : Prop := (((SP_X12_within v 0 191 Mz (1 : Int32)) ∧ (0 ≤ v.toInt ∧ v.toInt ≤ 191) ∧ r_ = 1) ∨ ((SP_X12_within v 0 191 Mz (0 : Int32)) ∧ (¬ (0 ≤ v.toInt ∧ v.toInt ≤ 191)) ∧ r_ = 0))
set_option maxHeartbeats 4000000 in
set_option maxRecDepth 100000 in
theorem c_X12_isCell (l : Launch) (G : va_G) (cy : Nat → ClassId) (ad : rf → Nat) (d : Nat) (v : Int32) (Mz : mM) (hIz : InvD Mz) : WP DD l G cy ad yX12_isCell cX12_isCell 1 (some .boolean) (d + 1) 0 [(0, vI v)] [] Mz (fun r M' => Mz = M' ∧ (((r = 1 ∧ 0 ≤ v.toInt ∧ v.toInt ≤ 191) ∨ (r = 0 ∧ ¬ (0 ≤ v.toInt ∧ v.toInt ≤ 191)))) ∧ SP_X12_isCell v Mz r) := by
  refine w_iload_n dX12_isCell_0 rfl 0 rfl ?_
  refine w_iconst (v := 0) dX12_isCell_1 (by decide) ?_
  refine w_sipush (v := 191) dX12_isCell_2 (by decide) ?_
  refine w_callS (as := [vI v, vI 0, vI 191]) (rest := []) (c_X12_within l G cy ad d v 0 191 Mz hIz) kS_X12_within (by decide +kernel) (Nat.le_of_ble_eq_true rfl) m_1427 rfl rfl (by decide) (Nat.le_of_ble_eq_true rfl) dX12_isCell_5 (fun r1_ M2_ q3_ => ?_)
  obtain ⟨rfl, h4_, hs5_⟩ := q3_
  rcases h4_ with ⟨rfl, h4_⟩ | ⟨rfl, h4_⟩
  · simp only [li_0, li_191] at h4_
    exact w_zret rfl dX12_isCell_8 ⟨by decide, by decide⟩ ⟨rfl, (Or.inl ⟨rfl, h4_⟩), (Or.inl ⟨hs5_, h4_, rfl⟩)⟩
  · simp only [li_0, li_191] at h4_
    exact w_zret rfl dX12_isCell_8 ⟨by decide, by decide⟩ ⟨rfl, (Or.inr ⟨rfl, h4_⟩), (Or.inr ⟨hs5_, h4_, rfl⟩)⟩
def SP_X12_isSide (v : Int32) (Mz : mM) (r_ : Int32) : Prop := (((SP_X12_within v 0 7 Mz (1 : Int32)) ∧ (0 ≤ v.toInt ∧ v.toInt ≤ 7) ∧ r_ = 1) ∨ ((SP_X12_within v 0 7 Mz (0 : Int32)) ∧ (¬ (0 ≤ v.toInt ∧ v.toInt ≤ 7)) ∧ r_ = 0))
set_option maxHeartbeats 4000000 in
set_option maxRecDepth 100000 in
theorem c_X12_isSide (l : Launch) (G : va_G) (cy : Nat → ClassId) (ad : rf → Nat) (d : Nat) (v : Int32) (Mz : mM) (hIz : InvD Mz) : WP DD l G cy ad yX12_isSide cX12_isSide 1 (some .boolean) (d + 1) 0 [(0, vI v)] [] Mz (fun r M' => Mz = M' ∧ (((r = 1 ∧ 0 ≤ v.toInt ∧ v.toInt ≤ 7) ∨ (r = 0 ∧ ¬ (0 ≤ v.toInt ∧ v.toInt ≤ 7)))) ∧ SP_X12_isSide v Mz r) := by
  refine w_iload_n dX12_isSide_0 rfl 0 rfl ?_
  refine w_iconst (v := 0) dX12_isSide_1 (by decide) ?_
  refine w_bipush (v := 7) dX12_isSide_2 (by decide) ?_
  refine w_callS (as := [vI v, vI 0, vI 7]) (rest := []) (c_X12_within l G cy ad d v 0 7 Mz hIz) kS_X12_within (by decide +kernel) (Nat.le_of_ble_eq_true rfl) m_1427 rfl rfl (by decide) (Nat.le_of_ble_eq_true rfl) dX12_isSide_4 (fun r1_ M2_ q3_ => ?_)
  obtain ⟨rfl, h4_, hs5_⟩ := q3_
  rcases h4_ with ⟨rfl, h4_⟩ | ⟨rfl, h4_⟩
  · simp only [li_0, li_7] at h4_
    exact w_zret rfl dX12_isSide_7 ⟨by decide, by decide⟩ ⟨rfl, (Or.inl ⟨rfl, h4_⟩), (Or.inl ⟨hs5_, h4_, rfl⟩)⟩
  · simp only [li_0, li_7] at h4_
    exact w_zret rfl dX12_isSide_7 ⟨by decide, by decide⟩ ⟨rfl, (Or.inr ⟨rfl, h4_⟩), (Or.inr ⟨hs5_, h4_, rfl⟩)⟩
def SP_X12_isSheet (v : Int32) (Mz : mM) (r_ : Int32) : Prop := (((SP_X12_within v 0 3 Mz (1 : Int32)) ∧ (0 ≤ v.toInt ∧ v.toInt ≤ 3) ∧ r_ = 1) ∨ ((SP_X12_within v 0 3 Mz (0 : Int32)) ∧ (¬ (0 ≤ v.toInt ∧ v.toInt ≤ 3)) ∧ r_ = 0))
set_option maxHeartbeats 4000000 in
set_option maxRecDepth 100000 in
theorem c_X12_isSheet (l : Launch) (G : va_G) (cy : Nat → ClassId) (ad : rf → Nat) (d : Nat) (v : Int32) (Mz : mM) (hIz : InvD Mz) : WP DD l G cy ad yX12_isSheet cX12_isSheet 1 (some .boolean) (d + 1) 0 [(0, vI v)] [] Mz (fun r M' => Mz = M' ∧ (((r = 1 ∧ 0 ≤ v.toInt ∧ v.toInt ≤ 3) ∨ (r = 0 ∧ ¬ (0 ≤ v.toInt ∧ v.toInt ≤ 3)))) ∧ SP_X12_isSheet v Mz r) := by
  refine w_iload_n dX12_isSheet_0 rfl 0 rfl ?_
  refine w_iconst (v := 0) dX12_isSheet_1 (by decide) ?_
  refine w_iconst (v := 3) dX12_isSheet_2 (by decide) ?_
  refine w_callS (as := [vI v, vI 0, vI 3]) (rest := []) (c_X12_within l G cy ad d v 0 3 Mz hIz) kS_X12_within (by decide +kernel) (Nat.le_of_ble_eq_true rfl) m_1427 rfl rfl (by decide) (Nat.le_of_ble_eq_true rfl) dX12_isSheet_3 (fun r1_ M2_ q3_ => ?_)
  obtain ⟨rfl, h4_, hs5_⟩ := q3_
  rcases h4_ with ⟨rfl, h4_⟩ | ⟨rfl, h4_⟩
  · simp only [li_0, li_3] at h4_
    exact w_zret rfl dX12_isSheet_6 ⟨by decide, by decide⟩ ⟨rfl, (Or.inl ⟨rfl, h4_⟩), (Or.inl ⟨hs5_, h4_, rfl⟩)⟩
  · simp only [li_0, li_3] at h4_
    exact w_zret rfl dX12_isSheet_6 ⟨by decide, by decide⟩ ⟨rfl, (Or.inr ⟨rfl, h4_⟩), (Or.inr ⟨hs5_, h4_, rfl⟩)⟩
def SP_X12_late (v : Int32) (u : Int32) (Mz : mM) (r_ : Int32) : Prop := ∃ z1_ : Int32, (z1_ = v - v / (2 : Int32) * (2 : Int32)) ∧ (((¬ z1_.toInt = 1) ∧ ∃ z4_ : Int32, (z4_ = (6 : Int32) * u) ∧ r_ = z4_) ∨ ((z1_.toInt = 1) ∧ ∃ z6_ : Int32, (z6_ = (8 : Int32) * u) ∧ r_ = z6_))
set_option maxHeartbeats 4000000 in
set_option maxRecDepth 100000 in
theorem c_X12_late (l : Launch) (G : va_G) (cy : Nat → ClassId) (ad : rf → Nat) (d : Nat) (v : Int32) (u : Int32) (Mz : mM) (hIz : InvD Mz) : WP DD l G cy ad yX12_late cX12_late 2 (some .int) d 0 [(0, vI v), (1, vI u)] [] Mz (fun r M' => Mz = M' ∧ (True) ∧ SP_X12_late v u Mz r) := by
  refine w_iload_n dX12_late_0 rfl 0 rfl ?_
  refine w_iconst (v := 2) dX12_late_1 (by decide) ?_
  refine w_irem dX12_late_2 (by decide) (fun z1_ h2_ => ?_)
  refine w_iconst (v := 1) dX12_late_3 (by decide) ?_
  refine w_icmp_ne (tgt := 12) dX12_late_4 (by decide) (rfl : z1_.toInt = z1_.toInt) li_1 (fun h3_ => ?_) (fun h3_ => ?_)
  · refine w_bipush (v := 6) dX12_late_12 (by decide) ?_
    refine w_iload_n dX12_late_14 rfl 1 rfl ?_
    refine w_imul dX12_late_15 (fun z4_ h5_ => ?_)
    exact w_iret rfl dX12_late_16 ⟨rfl, trivial, ⟨z1_, h2_, (Or.inl ⟨h3_, z4_, h5_, rfl⟩)⟩⟩
  · refine w_bipush (v := 8) dX12_late_7 (by decide) ?_
    refine w_goto (tgt := 14) dX12_late_9 (by decide) ?_
    refine w_iload_n dX12_late_14 rfl 1 rfl ?_
    refine w_imul dX12_late_15 (fun z6_ h7_ => ?_)
    exact w_iret rfl dX12_late_16 ⟨rfl, trivial, ⟨z1_, h2_, (Or.inr ⟨h3_, z6_, h7_, rfl⟩)⟩⟩
def SP_X12_ear (v : Int32) (u : Int32) (t : Int32) (s : Int32) (Mz : mM) (r_ : Int32) : Prop := ∃ z1_ : Int32, (z1_ = u - t) ∧ ∃ z3_ : Int32, (z3_ = z1_ - s) ∧ ∃ z5_ : Int32, (z5_ = z3_ + (16 : Int32)) ∧ ∃ z7_ : Int32, (z7_ = z5_ &&& (7 : Int32)) ∧ (0 ≤ z7_.toInt ∧ z7_.toInt < ((2 ^ 3 : Nat) : Int)) ∧ (((3 ≤ z7_.toInt) ∧ r_ = v) ∨ ((z7_.toInt < 3) ∧ ∃ z11_ : Int32, (z11_ = v / (2 : Int32)) ∧ r_ = z11_))
set_option maxHeartbeats 4000000 in
set_option maxRecDepth 100000 in
theorem c_X12_ear (l : Launch) (G : va_G) (cy : Nat → ClassId) (ad : rf → Nat) (d : Nat) (v : Int32) (u : Int32) (t : Int32) (s : Int32) (Mz : mM) (hIz : InvD Mz) : WP DD l G cy ad yX12_ear cX12_ear 5 (some .int) d 0 [(0, vI v), (1, vI u), (2, vI t), (3, vI s)] [] Mz (fun r M' => Mz = M' ∧ (True) ∧ SP_X12_ear v u t s Mz r) := by
  refine w_iload_n dX12_ear_0 rfl 1 rfl ?_
  refine w_iload_n dX12_ear_1 rfl 2 rfl ?_
  refine w_isub dX12_ear_2 (fun z1_ h2_ => ?_)
  refine w_iload_n dX12_ear_3 rfl 3 rfl ?_
  refine w_isub dX12_ear_4 (fun z3_ h4_ => ?_)
  refine w_bipush (v := 16) dX12_ear_5 (by decide) ?_
  refine w_iadd dX12_ear_7 (fun z5_ h6_ => ?_)
  refine w_bipush (v := 7) dX12_ear_8 (by decide) ?_
  refine w_iand dX12_ear_10 (fun z7_ h9_ => ?_)
  have h8_ : 0 ≤ z7_.toInt ∧ z7_.toInt < ((2 ^ 3 : Nat) : Int) := by rw [h9_]; exact andI _ 3 (by decide) (by decide)
  refine w_istore (ls' := [(4, vI z7_), (0, vI v), (1, vI u), (2, vI t), (3, vI s)]) dX12_ear_11 (by decide) rfl ?_
  refine w_iload dX12_ear_13 0 rfl ?_
  refine w_iconst (v := 3) dX12_ear_15 (by decide) ?_
  refine w_icmp_ge (tgt := 25) dX12_ear_16 (by decide) (rfl : z7_.toInt = z7_.toInt) li_3 (fun h10_ => ?_) (fun h10_ => ?_)
  · refine w_iload_n dX12_ear_25 rfl 1 rfl ?_
    exact w_iret rfl dX12_ear_26 ⟨rfl, trivial, ⟨z1_, h2_, z3_, h4_, z5_, h6_, z7_, h9_, h8_, (Or.inl ⟨h10_, rfl⟩)⟩⟩
  · refine w_iload_n dX12_ear_19 rfl 1 rfl ?_
    refine w_iconst (v := 2) dX12_ear_20 (by decide) ?_
    refine w_idiv dX12_ear_21 (by decide) (fun z11_ h12_ => ?_)
    refine w_goto (tgt := 26) dX12_ear_22 (by decide) ?_
    exact w_iret rfl dX12_ear_26 ⟨rfl, trivial, ⟨z1_, h2_, z3_, h4_, z5_, h6_, z7_, h9_, h8_, (Or.inr ⟨h10_, z11_, h12_, rfl⟩)⟩⟩
def SP_X12_above (v : Int32) (Mz : mM) (r_ : Int32) : Prop := (((¬ v.toInt = 0) ∧ (((v.toInt = 5) ∧ r_ = 1) ∨ ((¬ v.toInt = 5) ∧ (((¬ v.toInt = 7) ∧ (((¬ v.toInt = 6) ∧ r_ = 0) ∨ ((v.toInt = 6) ∧ r_ = 3))) ∨ ((v.toInt = 7) ∧ r_ = 1))))) ∨ ((v.toInt = 0) ∧ r_ = (-1)))
theorem lf_c_X12_above_0  (v : Int32) (h1_ : ¬ v.toInt = 0) (h2_ : v.toInt = 5) : -1 ≤ (1 : Int32).toInt ∧ (1 : Int32).toInt ≤ 3 ∧ (0 ≤ v.toInt → (1 : Int32).toInt < v.toInt) := by have r_v := rngI v; have r9 := li_1; omega
theorem lf_c_X12_above_1  (v : Int32) (h1_ : ¬ v.toInt = 0) (h2_ : ¬ v.toInt = 5) (h3_ : ¬ v.toInt = 7) (h4_ : ¬ v.toInt = 6) : -1 ≤ (0 : Int32).toInt ∧ (0 : Int32).toInt ≤ 3 ∧ (0 ≤ v.toInt → (0 : Int32).toInt < v.toInt) := by have r_v := rngI v; have r9 := li_0; omega
theorem lf_c_X12_above_2  (v : Int32) (h1_ : ¬ v.toInt = 0) (h2_ : ¬ v.toInt = 5) (h3_ : ¬ v.toInt = 7) (h4_ : v.toInt = 6) : -1 ≤ (3 : Int32).toInt ∧ (3 : Int32).toInt ≤ 3 ∧ (0 ≤ v.toInt → (3 : Int32).toInt < v.toInt) := by have r_v := rngI v; have r9 := li_3; omega
theorem lf_c_X12_above_3  (v : Int32) (h1_ : ¬ v.toInt = 0) (h2_ : ¬ v.toInt = 5) (h3_ : v.toInt = 7) : -1 ≤ (1 : Int32).toInt ∧ (1 : Int32).toInt ≤ 3 ∧ (0 ≤ v.toInt → (1 : Int32).toInt < v.toInt) := by have r_v := rngI v; have r9 := li_1; omega
theorem lf_c_X12_above_4  (v : Int32) (h1_ : v.toInt = 0) : -1 ≤ ((-1) : Int32).toInt ∧ ((-1) : Int32).toInt ≤ 3 ∧ (0 ≤ v.toInt → ((-1) : Int32).toInt < v.toInt) := by have r_v := rngI v; have r9 := li_m1; omega
set_option maxHeartbeats 4000000 in
set_option maxRecDepth 100000 in
theorem c_X12_above (l : Launch) (G : va_G) (cy : Nat → ClassId) (ad : rf → Nat) (d : Nat) (v : Int32) (Mz : mM) (hIz : InvD Mz) : WP DD l G cy ad yX12_above cX12_above 1 (some .int) d 0 [(0, vI v)] [] Mz (fun r M' => Mz = M' ∧ (-1 ≤ r.toInt ∧ r.toInt ≤ 3 ∧ (0 ≤ v.toInt → r.toInt < v.toInt)) ∧ SP_X12_above v Mz r) := by
  refine w_iload_n dX12_above_0 rfl 0 rfl ?_
  refine w_if_ne (tgt := 8) dX12_above_1 (by decide) (rfl : v.toInt = v.toInt) (fun h1_ => ?_) (fun h1_ => ?_)
  · refine w_iload_n dX12_above_8 rfl 0 rfl ?_
    refine w_iconst (v := 5) dX12_above_9 (by decide) ?_
    refine w_icmp_eq (tgt := 19) dX12_above_10 (by decide) (rfl : v.toInt = v.toInt) li_5 (fun h2_ => ?_) (fun h2_ => ?_)
    · refine w_iconst (v := 1) dX12_above_19 (by decide) ?_
      refine w_goto (tgt := 34) dX12_above_20 (by decide) ?_
      exact w_iret rfl dX12_above_34 ⟨rfl, (lf_c_X12_above_0 v h1_ h2_), (Or.inl ⟨h1_, (Or.inl ⟨h2_, rfl⟩)⟩)⟩
    · refine w_iload_n dX12_above_13 rfl 0 rfl ?_
      refine w_bipush (v := 7) dX12_above_14 (by decide) ?_
      refine w_icmp_ne (tgt := 23) dX12_above_16 (by decide) (rfl : v.toInt = v.toInt) li_7 (fun h3_ => ?_) (fun h3_ => ?_)
      · refine w_iload_n dX12_above_23 rfl 0 rfl ?_
        refine w_bipush (v := 6) dX12_above_24 (by decide) ?_
        refine w_icmp_ne (tgt := 33) dX12_above_26 (by decide) (rfl : v.toInt = v.toInt) li_6 (fun h4_ => ?_) (fun h4_ => ?_)
        · refine w_iconst (v := 0) dX12_above_33 (by decide) ?_
          exact w_iret rfl dX12_above_34 ⟨rfl, (lf_c_X12_above_1 v h1_ h2_ h3_ h4_), (Or.inl ⟨h1_, (Or.inr ⟨h2_, (Or.inl ⟨h3_, (Or.inl ⟨h4_, rfl⟩)⟩)⟩)⟩)⟩
        · refine w_iconst (v := 3) dX12_above_29 (by decide) ?_
          refine w_goto (tgt := 34) dX12_above_30 (by decide) ?_
          exact w_iret rfl dX12_above_34 ⟨rfl, (lf_c_X12_above_2 v h1_ h2_ h3_ h4_), (Or.inl ⟨h1_, (Or.inr ⟨h2_, (Or.inl ⟨h3_, (Or.inr ⟨h4_, rfl⟩)⟩)⟩)⟩)⟩
      · refine w_iconst (v := 1) dX12_above_19 (by decide) ?_
        refine w_goto (tgt := 34) dX12_above_20 (by decide) ?_
        exact w_iret rfl dX12_above_34 ⟨rfl, (lf_c_X12_above_3 v h1_ h2_ h3_), (Or.inl ⟨h1_, (Or.inr ⟨h2_, (Or.inr ⟨h3_, rfl⟩)⟩)⟩)⟩
  · refine w_iconst (v := (-1)) dX12_above_4 (by decide) ?_
    refine w_goto (tgt := 34) dX12_above_5 (by decide) ?_
    exact w_iret rfl dX12_above_34 ⟨rfl, (lf_c_X12_above_4 v h1_), (Or.inr ⟨h1_, rfl⟩)⟩
def SP_X12_isClick (v : Int32) (Mz : mM) (r_ : Int32) : Prop := (((SP_X12_within v 100 999 Mz (1 : Int32)) ∧ (100 ≤ v.toInt ∧ v.toInt ≤ 999) ∧ ∃ z7_ : Int32, (z7_.toInt = v.toInt % 100) ∧ (((z7_.toInt ≤ 0) ∧ r_ = 0) ∨ ((0 < z7_.toInt) ∧ r_ = 1))) ∨ ((SP_X12_within v 100 999 Mz (0 : Int32)) ∧ (¬ (100 ≤ v.toInt ∧ v.toInt ≤ 999)) ∧ r_ = 0))
theorem lf_c_X12_isClick_0  (v : Int32) (h4_ : 100 ≤ v.toInt ∧ v.toInt ≤ 999) : 0 ≤ v.toInt := by have r_v := rngI v; omega
set_option maxHeartbeats 4000000 in
set_option maxRecDepth 100000 in
theorem c_X12_isClick (l : Launch) (G : va_G) (cy : Nat → ClassId) (ad : rf → Nat) (d : Nat) (v : Int32) (Mz : mM) (hIz : InvD Mz) : WP DD l G cy ad yX12_isClick cX12_isClick 2 (some .boolean) (d + 1) 0 [(0, vR (12, 0, 0)), (1, vI v)] [] Mz (fun r M' => Mz = M' ∧ (((r = 1 ∧ 100 ≤ v.toInt ∧ v.toInt ≤ 999) ∨ r = 0)) ∧ SP_X12_isClick v Mz r) := by
  refine w_iload_n dX12_isClick_0 rfl 1 rfl ?_
  refine w_bipush (v := 100) dX12_isClick_1 (by decide) ?_
  refine w_sipush (v := 999) dX12_isClick_3 (by decide) ?_
  refine w_callS (as := [vI v, vI 100, vI 999]) (rest := []) (c_X12_within l G cy ad d v 100 999 Mz hIz) kS_X12_within (by decide +kernel) (Nat.le_of_ble_eq_true rfl) m_1427 rfl rfl (by decide) (Nat.le_of_ble_eq_true rfl) dX12_isClick_6 (fun r1_ M2_ q3_ => ?_)
  obtain ⟨rfl, h4_, hs5_⟩ := q3_
  rcases h4_ with ⟨rfl, h4_⟩ | ⟨rfl, h4_⟩
  · simp only [li_100, li_999] at h4_
    refine w_if_eq (tgt := 23) dX12_isClick_9 (by decide) li_1 (fun h9 => (absurd h9 (by decide))) (fun h6_ => ?_)
    refine w_iload_n dX12_isClick_12 rfl 1 rfl ?_
    refine w_bipush (v := 100) dX12_isClick_13 (by decide) ?_
    refine w_iremB dX12_isClick_15 (by decide) (rfl : v.toInt = v.toInt) li_100 (lf_c_X12_isClick_0 v h4_) (by decide) (fun z7_ h8_ => ?_)
    refine w_if_le (tgt := 23) dX12_isClick_16 (by decide) (rfl : z7_.toInt = z7_.toInt) (fun h9_ => ?_) (fun h9_ => ?_)
    · refine w_iconst (v := 0) dX12_isClick_23 (by decide) ?_
      exact w_zret rfl dX12_isClick_24 ⟨by decide, by decide⟩ ⟨rfl, (Or.inr rfl), (Or.inl ⟨hs5_, h4_, z7_, h8_, (Or.inl ⟨h9_, rfl⟩)⟩)⟩
    · refine w_iconst (v := 1) dX12_isClick_19 (by decide) ?_
      refine w_goto (tgt := 24) dX12_isClick_20 (by decide) ?_
      exact w_zret rfl dX12_isClick_24 ⟨by decide, by decide⟩ ⟨rfl, (Or.inl ⟨rfl, h4_⟩), (Or.inl ⟨hs5_, h4_, z7_, h8_, (Or.inr ⟨h9_, rfl⟩)⟩)⟩
  · simp only [li_100, li_999] at h4_
    refine w_if_eq (tgt := 23) dX12_isClick_9 (by decide) li_0 (fun h10_ => ?_) (fun h9 => (absurd h9 (by decide)))
    refine w_iconst (v := 0) dX12_isClick_23 (by decide) ?_
    exact w_zret rfl dX12_isClick_24 ⟨by decide, by decide⟩ ⟨rfl, (Or.inr rfl), (Or.inr ⟨hs5_, h4_, rfl⟩)⟩
def ST_X12_bits_4 (v : Int32) (v2_4 : Int32) (v1_4 : Int32) (v2_4y : Int32) (v1_4y : Int32) : Prop := (0 ≤ v2_4.toInt) ∧ (v2_4.toInt ≤ 8) ∧ (v2_4.toInt < 8) ∧ ∃ z3_ : Int32, (z3_ = v >>> (v2_4 &&& 31)) ∧ ∃ z5_ : Int32, (z5_ = z3_ &&& (1 : Int32)) ∧ (0 ≤ z5_.toInt ∧ z5_.toInt < ((2 ^ 1 : Nat) : Int)) ∧ ∃ z8_ : Int32, (z8_ = v1_4 + z5_) ∧ ∃ z10_ : Int32, (z10_.toInt = v2_4.toInt + 1) ∧ v2_4y = z10_ ∧ v1_4y = z8_
def SP_X12_bits (v : Int32) (Mz : mM) (r_ : Int32) : Prop := ∃ v2_4 : Int32, (0 ≤ v2_4.toInt) ∧ (v2_4.toInt ≤ 8) ∧ ∃ v1_4 : Int32, (RCH (fun x_ y_ => ST_X12_bits_4 v x_.1 x_.2 y_.1 y_.2) ((0 : Int32), (0 : Int32)) (v2_4, v1_4)) ∧ (8 ≤ v2_4.toInt) ∧ r_ = v1_4
theorem lf_c_X12_bits_0  (v2_4 : Int32) (hv0_4 : 0 ≤ v2_4.toInt) (hv1_4 : v2_4.toInt ≤ 8) (h2_ : v2_4.toInt < 8) : -2147483648 ≤ v2_4.toInt + 1 ∧ v2_4.toInt + 1 < 2147483648 := by have r_v2_4 := rngI v2_4; omega
theorem lf_c_X12_bits_1  (v2_4 : Int32) (z10_ : Int32) (hv0_4 : 0 ≤ v2_4.toInt) (hv1_4 : v2_4.toInt ≤ 8) (h2_ : v2_4.toInt < 8) (h11_ : z10_.toInt = v2_4.toInt + 1) : 0 ≤ z10_.toInt := by have r_v2_4 := rngI v2_4; have r_z10_ := rngI z10_; omega
theorem lf_c_X12_bits_2  (v2_4 : Int32) (z10_ : Int32) (hv0_4 : 0 ≤ v2_4.toInt) (hv1_4 : v2_4.toInt ≤ 8) (h2_ : v2_4.toInt < 8) (h11_ : z10_.toInt = v2_4.toInt + 1) : z10_.toInt ≤ 8 := by have r_v2_4 := rngI v2_4; have r_z10_ := rngI z10_; omega
theorem lf_c_X12_bits_3  (v2_4 : Int32) (z10_ : Int32) (hv0_4 : 0 ≤ v2_4.toInt) (hv1_4 : v2_4.toInt ≤ 8) (h2_ : v2_4.toInt < 8) (h11_ : z10_.toInt = v2_4.toInt + 1) : (2147483648 - z10_.toInt).toNat < (2147483648 - v2_4.toInt).toNat := by have r_v2_4 := rngI v2_4; have r_z10_ := rngI z10_; omega
theorem lf_c_X12_bits_4    : 0 ≤ (0 : Int32).toInt := by have q0 := li_0; omega
theorem lf_c_X12_bits_5    : (0 : Int32).toInt ≤ 8 := by have q0 := li_0; omega
set_option maxHeartbeats 4000000 in
set_option maxRecDepth 100000 in
theorem c_X12_bits (l : Launch) (G : va_G) (cy : Nat → ClassId) (ad : rf → Nat) (d : Nat) (v : Int32) (Mz : mM) (hIz : InvD Mz) : WP DD l G cy ad yX12_bits cX12_bits 3 (some .int) d 0 [(0, vI v)] [] Mz (fun r M' => Mz = M' ∧ (True) ∧ SP_X12_bits v Mz r) := by
  refine w_iconst (v := 0) dX12_bits_0 (by decide) ?_
  refine w_istore_n (ls' := [(1, vI 0), (0, vI v)]) dX12_bits_1 rfl (by decide) rfl ?_
  refine w_iconst (v := 0) dX12_bits_2 (by decide) ?_
  refine w_istore_n (ls' := [(2, vI 0), (1, vI 0), (0, vI v)]) dX12_bits_3 rfl (by decide) rfl ?_
  have lp1_ : ∀ (nn_4 : Nat) (v2_4 : Int32) (v1_4 : Int32) (hv0_4 : 0 ≤ v2_4.toInt) (hv1_4 : v2_4.toInt ≤ 8) (hL_4 : RCH (fun x_ y_ => ST_X12_bits_4 v x_.1 x_.2 y_.1 y_.2) ((0 : Int32), (0 : Int32)) (v2_4, v1_4)), (2147483648 - v2_4.toInt).toNat < nn_4 → WP DD l G cy ad yX12_bits cX12_bits 3 (some .int) d 4 [(2, vI v2_4), (1, vI v1_4), (0, vI v)] [] Mz (fun r M' => Mz = M' ∧ (True) ∧ SP_X12_bits v Mz r) := by
    intro nn_4
    induction nn_4 with
    | zero => intro v2_4 v1_4 hv0_4 hv1_4 hL_4 hm_4; exact absurd hm_4 (Nat.not_lt_zero _)
    | succ nn_4 ih_4 =>
      intro v2_4 v1_4 hv0_4 hv1_4 hL_4 hm_4
      refine w_iload_n dX12_bits_4 rfl 0 rfl ?_
      refine w_bipush (v := 8) dX12_bits_5 (by decide) ?_
      refine w_icmp_ge (tgt := 24) dX12_bits_7 (by decide) (rfl : v2_4.toInt = v2_4.toInt) li_8 (fun h2_ => ?_) (fun h2_ => ?_)
      · refine w_iload_n dX12_bits_24 rfl 1 rfl ?_
        exact w_iret rfl dX12_bits_25 ⟨rfl, trivial, ⟨v2_4, hv0_4, hv1_4, v1_4, hL_4, h2_, rfl⟩⟩
      · refine w_iload_n dX12_bits_10 rfl 1 rfl ?_
        refine w_iload_n dX12_bits_11 rfl 2 rfl ?_
        refine w_iload_n dX12_bits_12 rfl 0 rfl ?_
        refine w_ishr dX12_bits_13 (fun z3_ h4_ => ?_)
        refine w_iconst (v := 1) dX12_bits_14 (by decide) ?_
        refine w_iand dX12_bits_15 (fun z5_ h7_ => ?_)
        have h6_ : 0 ≤ z5_.toInt ∧ z5_.toInt < ((2 ^ 1 : Nat) : Int) := by rw [h7_]; exact andI _ 1 (by decide) (by decide)
        refine w_iadd dX12_bits_16 (fun z8_ h9_ => ?_)
        refine w_istore_n (ls' := [(1, vI z8_), (2, vI v2_4), (0, vI v)]) dX12_bits_17 rfl (by decide) rfl ?_
        refine w_iincB (j := 1) (f := fun z10_ => [(2, vI z10_), (1, vI z8_), (0, vI v)]) dX12_bits_18 rfl (by decide) (fun _ => rfl) (rfl : v2_4.toInt = v2_4.toInt) li_1 (lf_c_X12_bits_0 v2_4 hv0_4 hv1_4 h2_) (fun z10_ h11_ => ?_)
        refine w_goto (tgt := 4) dX12_bits_21 (by decide) ?_
        refine w_loc (ls' := [(2, vI z10_), (1, vI z8_), (0, vI v)]) [0, 1, 2] rfl ?_
        exact ih_4 z10_ z8_ (lf_c_X12_bits_1 v2_4 z10_ hv0_4 hv1_4 h2_ h11_) (lf_c_X12_bits_2 v2_4 z10_ hv0_4 hv1_4 h2_ h11_) (RCH.tail hL_4 ⟨hv0_4, hv1_4, h2_, z3_, h4_, z5_, h7_, h6_, z8_, h9_, z10_, h11_, rfl, rfl⟩) (Nat.lt_of_lt_of_le (lf_c_X12_bits_3 v2_4 z10_ hv0_4 hv1_4 h2_ h11_) (Nat.le_of_lt_succ hm_4))
  exact lp1_ _ 0 0 (lf_c_X12_bits_4 ) (lf_c_X12_bits_5 ) RCH.refl (Nat.lt_succ_self _)
def SP_X12_done (v : Int32) (u : Int32) (t : Int32) (Mz : mM) (r_ : Int32) : Prop := (((v.toInt = 2000) ∧ (((t.toInt ≤ u.toInt) ∧ r_ = 0) ∨ ((u.toInt < t.toInt) ∧ r_ = 1))) ∨ ((v.toInt = 2001) ∧ (((¬ u.toInt = t.toInt) ∧ r_ = 0) ∨ ((u.toInt = t.toInt) ∧ r_ = 1))) ∨ ((v.toInt = 2002) ∧ (((u.toInt ≤ t.toInt) ∧ r_ = 0) ∨ ((t.toInt < u.toInt) ∧ r_ = 1))) ∨ ((v.toInt = 2003) ∧ ∃ z5_ : Int32, (z5_ = u + t) ∧ r_ = z5_) ∨ ((v.toInt = 2004) ∧ ∃ z7_ : Int32, (z7_ = u - t) ∧ r_ = z7_) ∨ ((v.toInt = 2005) ∧ ∃ z9_ : Int32, (z9_ = u * t) ∧ r_ = z9_) ∨ ((v.toInt = 2006) ∧ (((¬ t.toInt = 0) ∧ ∃ z12_ : Int32, (z12_ = u / t) ∧ r_ = z12_) ∨ ((t.toInt = 0) ∧ r_ = 0))) ∨ (((¬ v.toInt = 2000 ∧ ¬ v.toInt = 2001 ∧ ¬ v.toInt = 2002 ∧ ¬ v.toInt = 2003 ∧ ¬ v.toInt = 2004 ∧ ¬ v.toInt = 2005 ∧ ¬ v.toInt = 2006)) ∧ (((¬ t.toInt = 0) ∧ ∃ z15_ : Int32, (z15_ = u - u / t * t) ∧ r_ = z15_) ∨ ((t.toInt = 0) ∧ r_ = 0))))
theorem lf_c_X12_done_0  (v : Int32)  : v.toInt = 2000 ∨ v.toInt = 2001 ∨ v.toInt = 2002 ∨ v.toInt = 2003 ∨ v.toInt = 2004 ∨ v.toInt = 2005 ∨ v.toInt = 2006 ∨ (¬ v.toInt = 2000 ∧ ¬ v.toInt = 2001 ∧ ¬ v.toInt = 2002 ∧ ¬ v.toInt = 2003 ∧ ¬ v.toInt = 2004 ∧ ¬ v.toInt = 2005 ∧ ¬ v.toInt = 2006) := by have r_v := rngI v; omega
theorem lf_c_X12_done_1  (t : Int32) (h11_ : ¬ t.toInt = 0) : ¬ t = 0 := by have r_t := rngI t; intro h9; subst h9; simp at *; try omega
theorem lf_c_X12_done_2  (v : Int32) (e1_ : (¬ v.toInt = 2000 ∧ ¬ v.toInt = 2001 ∧ ¬ v.toInt = 2002 ∧ ¬ v.toInt = 2003 ∧ ¬ v.toInt = 2004 ∧ ¬ v.toInt = 2005 ∧ ¬ v.toInt = 2006)) : v.toInt < 2000 ∨ 2006 < v.toInt := by have r_v := rngI v; omega
theorem lf_c_X12_done_3  (t : Int32) (h14_ : ¬ t.toInt = 0) : ¬ t = 0 := by have r_t := rngI t; intro h9; subst h9; simp at *; try omega
set_option maxHeartbeats 4000000 in
set_option maxRecDepth 100000 in
theorem c_X12_done (l : Launch) (G : va_G) (cy : Nat → ClassId) (ad : rf → Nat) (d : Nat) (v : Int32) (u : Int32) (t : Int32) (Mz : mM) (hIz : InvD Mz) : WP DD l G cy ad yX12_done cX12_done 3 (some .int) d 0 [(0, vI v), (1, vI u), (2, vI t)] [] Mz (fun r M' => Mz = M' ∧ (True) ∧ SP_X12_done v u t Mz r) := by
  refine w_iload_n dX12_done_0 rfl 0 rfl ?_
  rcases (lf_c_X12_done_0 v) with e1_ | e1_ | e1_ | e1_ | e1_ | e1_ | e1_ | e1_
  · refine w_tsIn (tgt := 44) (off := 43) dX12_done_1 e1_ (by decide) (by decide) rfl (by decide) ?_
    refine w_iload_n dX12_done_44 rfl 1 rfl ?_
    refine w_iload_n dX12_done_45 rfl 2 rfl ?_
    refine w_icmp_ge (tgt := 53) dX12_done_46 (by decide) (rfl : u.toInt = u.toInt) (rfl : t.toInt = t.toInt) (fun h2_ => ?_) (fun h2_ => ?_)
    · refine w_iconst (v := 0) dX12_done_53 (by decide) ?_
      exact w_iret rfl dX12_done_54 ⟨rfl, trivial, (Or.inl ⟨e1_, (Or.inl ⟨h2_, rfl⟩)⟩)⟩
    · refine w_iconst (v := 1) dX12_done_49 (by decide) ?_
      refine w_goto (tgt := 54) dX12_done_50 (by decide) ?_
      exact w_iret rfl dX12_done_54 ⟨rfl, trivial, (Or.inl ⟨e1_, (Or.inr ⟨h2_, rfl⟩)⟩)⟩
  · refine w_tsIn (tgt := 55) (off := 54) dX12_done_1 e1_ (by decide) (by decide) rfl (by decide) ?_
    refine w_iload_n dX12_done_55 rfl 1 rfl ?_
    refine w_iload_n dX12_done_56 rfl 2 rfl ?_
    refine w_icmp_ne (tgt := 64) dX12_done_57 (by decide) (rfl : u.toInt = u.toInt) (rfl : t.toInt = t.toInt) (fun h3_ => ?_) (fun h3_ => ?_)
    · refine w_iconst (v := 0) dX12_done_64 (by decide) ?_
      exact w_iret rfl dX12_done_65 ⟨rfl, trivial, (Or.inr (Or.inl ⟨e1_, (Or.inl ⟨h3_, rfl⟩)⟩))⟩
    · refine w_iconst (v := 1) dX12_done_60 (by decide) ?_
      refine w_goto (tgt := 65) dX12_done_61 (by decide) ?_
      exact w_iret rfl dX12_done_65 ⟨rfl, trivial, (Or.inr (Or.inl ⟨e1_, (Or.inr ⟨h3_, rfl⟩)⟩))⟩
  · refine w_tsIn (tgt := 66) (off := 65) dX12_done_1 e1_ (by decide) (by decide) rfl (by decide) ?_
    refine w_iload_n dX12_done_66 rfl 1 rfl ?_
    refine w_iload_n dX12_done_67 rfl 2 rfl ?_
    refine w_icmp_le (tgt := 75) dX12_done_68 (by decide) (rfl : u.toInt = u.toInt) (rfl : t.toInt = t.toInt) (fun h4_ => ?_) (fun h4_ => ?_)
    · refine w_iconst (v := 0) dX12_done_75 (by decide) ?_
      exact w_iret rfl dX12_done_76 ⟨rfl, trivial, (Or.inr (Or.inr (Or.inl ⟨e1_, (Or.inl ⟨h4_, rfl⟩)⟩)))⟩
    · refine w_iconst (v := 1) dX12_done_71 (by decide) ?_
      refine w_goto (tgt := 76) dX12_done_72 (by decide) ?_
      exact w_iret rfl dX12_done_76 ⟨rfl, trivial, (Or.inr (Or.inr (Or.inl ⟨e1_, (Or.inr ⟨h4_, rfl⟩)⟩)))⟩
  · refine w_tsIn (tgt := 77) (off := 76) dX12_done_1 e1_ (by decide) (by decide) rfl (by decide) ?_
    refine w_iload_n dX12_done_77 rfl 1 rfl ?_
    refine w_iload_n dX12_done_78 rfl 2 rfl ?_
    refine w_iadd dX12_done_79 (fun z5_ h6_ => ?_)
    exact w_iret rfl dX12_done_80 ⟨rfl, trivial, (Or.inr (Or.inr (Or.inr (Or.inl ⟨e1_, z5_, h6_, rfl⟩))))⟩
  · refine w_tsIn (tgt := 81) (off := 80) dX12_done_1 e1_ (by decide) (by decide) rfl (by decide) ?_
    refine w_iload_n dX12_done_81 rfl 1 rfl ?_
    refine w_iload_n dX12_done_82 rfl 2 rfl ?_
    refine w_isub dX12_done_83 (fun z7_ h8_ => ?_)
    exact w_iret rfl dX12_done_84 ⟨rfl, trivial, (Or.inr (Or.inr (Or.inr (Or.inr (Or.inl ⟨e1_, z7_, h8_, rfl⟩)))))⟩
  · refine w_tsIn (tgt := 85) (off := 84) dX12_done_1 e1_ (by decide) (by decide) rfl (by decide) ?_
    refine w_iload_n dX12_done_85 rfl 1 rfl ?_
    refine w_iload_n dX12_done_86 rfl 2 rfl ?_
    refine w_imul dX12_done_87 (fun z9_ h10_ => ?_)
    exact w_iret rfl dX12_done_88 ⟨rfl, trivial, (Or.inr (Or.inr (Or.inr (Or.inr (Or.inr (Or.inl ⟨e1_, z9_, h10_, rfl⟩))))))⟩
  · refine w_tsIn (tgt := 89) (off := 88) dX12_done_1 e1_ (by decide) (by decide) rfl (by decide) ?_
    refine w_iload_n dX12_done_89 rfl 2 rfl ?_
    refine w_if_ne (tgt := 97) dX12_done_90 (by decide) (rfl : t.toInt = t.toInt) (fun h11_ => ?_) (fun h11_ => ?_)
    · refine w_iload_n dX12_done_97 rfl 1 rfl ?_
      refine w_iload_n dX12_done_98 rfl 2 rfl ?_
      refine w_idiv dX12_done_99 (lf_c_X12_done_1 t h11_) (fun z12_ h13_ => ?_)
      exact w_iret rfl dX12_done_100 ⟨rfl, trivial, (Or.inr (Or.inr (Or.inr (Or.inr (Or.inr (Or.inr (Or.inl ⟨e1_, (Or.inl ⟨h11_, z12_, h13_, rfl⟩)⟩)))))))⟩
    · refine w_iconst (v := 0) dX12_done_93 (by decide) ?_
      refine w_goto (tgt := 100) dX12_done_94 (by decide) ?_
      exact w_iret rfl dX12_done_100 ⟨rfl, trivial, (Or.inr (Or.inr (Or.inr (Or.inr (Or.inr (Or.inr (Or.inl ⟨e1_, (Or.inr ⟨h11_, rfl⟩)⟩)))))))⟩
  · refine w_tsOut (tgt := 101) dX12_done_1 rfl (lf_c_X12_done_2 v e1_) (by decide) ?_
    refine w_iload_n dX12_done_101 rfl 2 rfl ?_
    refine w_if_ne (tgt := 109) dX12_done_102 (by decide) (rfl : t.toInt = t.toInt) (fun h14_ => ?_) (fun h14_ => ?_)
    · refine w_iload_n dX12_done_109 rfl 1 rfl ?_
      refine w_iload_n dX12_done_110 rfl 2 rfl ?_
      refine w_irem dX12_done_111 (lf_c_X12_done_3 t h14_) (fun z15_ h16_ => ?_)
      exact w_iret rfl dX12_done_112 ⟨rfl, trivial, (Or.inr (Or.inr (Or.inr (Or.inr (Or.inr (Or.inr (Or.inr ⟨e1_, (Or.inl ⟨h14_, z15_, h16_, rfl⟩)⟩)))))))⟩
    · refine w_iconst (v := 0) dX12_done_105 (by decide) ?_
      refine w_goto (tgt := 112) dX12_done_106 (by decide) ?_
      exact w_iret rfl dX12_done_112 ⟨rfl, trivial, (Or.inr (Or.inr (Or.inr (Or.inr (Or.inr (Or.inr (Or.inr ⟨e1_, (Or.inr ⟨h14_, rfl⟩)⟩)))))))⟩
def SP_X12_thing (v : Int32) (Mz : mM) (r_ : Int32) : Prop := ∃ z1_ : Int32, (z1_.toInt = 4 * v.toInt) ∧ ∃ z3_ : Int32, (z3_.toInt = 20 + z1_.toInt) ∧ r_ = z3_
theorem lf_c_X12_thing_0  (v : Int32) (hv : -1 ≤ v.toInt ∧ v.toInt ≤ 39) : -2147483648 ≤ 4 * v.toInt ∧ 4 * v.toInt < 2147483648 := by have r_v := rngI v; omega
theorem lf_c_X12_thing_1  (v : Int32) (z1_ : Int32) (hv : -1 ≤ v.toInt ∧ v.toInt ≤ 39) (h2_ : z1_.toInt = 4 * v.toInt) : -2147483648 ≤ 20 + z1_.toInt ∧ 20 + z1_.toInt < 2147483648 := by have r_v := rngI v; have r_z1_ := rngI z1_; omega
theorem lf_c_X12_thing_2  (v : Int32) (z1_ : Int32) (z3_ : Int32) (hv : -1 ≤ v.toInt ∧ v.toInt ≤ 39) (h2_ : z1_.toInt = 4 * v.toInt) (h4_ : z3_.toInt = 20 + z1_.toInt) : z3_.toInt = 20 + 4 * v.toInt := by have r_v := rngI v; have r_z1_ := rngI z1_; have r_z3_ := rngI z3_; omega
set_option maxHeartbeats 4000000 in
set_option maxRecDepth 100000 in
theorem c_X12_thing (l : Launch) (G : va_G) (cy : Nat → ClassId) (ad : rf → Nat) (d : Nat) (v : Int32) (Mz : mM) (hIz : InvD Mz) (hv : -1 ≤ v.toInt ∧ v.toInt ≤ 39) : WP DD l G cy ad yX12_thing cX12_thing 2 (some .int) d 0 [(0, vR (12, 0, 0)), (1, vI v)] [] Mz (fun r M' => Mz = M' ∧ (r.toInt = 20 + 4 * v.toInt) ∧ SP_X12_thing v Mz r) := by
  refine w_bipush (v := 20) dX12_thing_0 (by decide) ?_
  refine w_iconst (v := 4) dX12_thing_2 (by decide) ?_
  refine w_iload_n dX12_thing_3 rfl 1 rfl ?_
  refine w_imulB dX12_thing_4 li_4 (rfl : v.toInt = v.toInt) (lf_c_X12_thing_0 v hv) (fun z1_ h2_ => ?_)
  refine w_iaddB dX12_thing_5 li_20 (rfl : z1_.toInt = z1_.toInt) (lf_c_X12_thing_1 v z1_ hv h2_) (fun z3_ h4_ => ?_)
  exact w_iret rfl dX12_thing_6 ⟨rfl, (lf_c_X12_thing_2 v z1_ z3_ hv h2_ h4_), ⟨z1_, h2_, z3_, h4_, rfl⟩⟩
def SP_X12_goer (v : Int32) (Mz : mM) (r_ : Int32) : Prop := ∃ z1_ : Int32, (z1_.toInt = 9 * v.toInt) ∧ ∃ z3_ : Int32, (z3_.toInt = 180 + z1_.toInt) ∧ r_ = z3_
theorem lf_c_X12_goer_0  (v : Int32) (hv : 0 ≤ v.toInt ∧ v.toInt ≤ 7) : -2147483648 ≤ 9 * v.toInt ∧ 9 * v.toInt < 2147483648 := by have r_v := rngI v; omega
theorem lf_c_X12_goer_1  (v : Int32) (z1_ : Int32) (hv : 0 ≤ v.toInt ∧ v.toInt ≤ 7) (h2_ : z1_.toInt = 9 * v.toInt) : -2147483648 ≤ 180 + z1_.toInt ∧ 180 + z1_.toInt < 2147483648 := by have r_v := rngI v; have r_z1_ := rngI z1_; omega
theorem lf_c_X12_goer_2  (v : Int32) (z1_ : Int32) (z3_ : Int32) (hv : 0 ≤ v.toInt ∧ v.toInt ≤ 7) (h2_ : z1_.toInt = 9 * v.toInt) (h4_ : z3_.toInt = 180 + z1_.toInt) : z3_.toInt = 180 + 9 * v.toInt := by have r_v := rngI v; have r_z1_ := rngI z1_; have r_z3_ := rngI z3_; omega
set_option maxHeartbeats 4000000 in
set_option maxRecDepth 100000 in
theorem c_X12_goer (l : Launch) (G : va_G) (cy : Nat → ClassId) (ad : rf → Nat) (d : Nat) (v : Int32) (Mz : mM) (hIz : InvD Mz) (hv : 0 ≤ v.toInt ∧ v.toInt ≤ 7) : WP DD l G cy ad yX12_goer cX12_goer 2 (some .int) d 0 [(0, vR (12, 0, 0)), (1, vI v)] [] Mz (fun r M' => Mz = M' ∧ (r.toInt = 180 + 9 * v.toInt) ∧ SP_X12_goer v Mz r) := by
  refine w_sipush (v := 180) dX12_goer_0 (by decide) ?_
  refine w_bipush (v := 9) dX12_goer_3 (by decide) ?_
  refine w_iload_n dX12_goer_5 rfl 1 rfl ?_
  refine w_imulB dX12_goer_6 li_9 (rfl : v.toInt = v.toInt) (lf_c_X12_goer_0 v hv) (fun z1_ h2_ => ?_)
  refine w_iaddB dX12_goer_7 li_180 (rfl : z1_.toInt = z1_.toInt) (lf_c_X12_goer_1 v z1_ hv h2_) (fun z3_ h4_ => ?_)
  exact w_iret rfl dX12_goer_8 ⟨rfl, (lf_c_X12_goer_2 v z1_ z3_ hv h2_ h4_), ⟨z1_, h2_, z3_, h4_, rfl⟩⟩
def SP_X12_yes (v : Int32) (u : Int32) (Mz : mM) (r_ : Int32) : Prop := ∃ z1_ : Int32, (z1_.toInt = 384 * v.toInt) ∧ ∃ z3_ : Int32, (z3_.toInt = 495 + z1_.toInt) ∧ ∃ z5_ : Int32, (z5_.toInt = z3_.toInt + u.toInt) ∧ r_ = z5_
theorem lf_c_X12_yes_0  (v : Int32) (hv : 0 ≤ v.toInt ∧ v.toInt ≤ 7) : -2147483648 ≤ 384 * v.toInt ∧ 384 * v.toInt < 2147483648 := by have r_v := rngI v; omega
theorem lf_c_X12_yes_1  (v : Int32) (z1_ : Int32) (hv : 0 ≤ v.toInt ∧ v.toInt ≤ 7) (h2_ : z1_.toInt = 384 * v.toInt) : -2147483648 ≤ 495 + z1_.toInt ∧ 495 + z1_.toInt < 2147483648 := by have r_v := rngI v; have r_z1_ := rngI z1_; omega
theorem lf_c_X12_yes_2  (v : Int32) (u : Int32) (z1_ : Int32) (z3_ : Int32) (hv : 0 ≤ v.toInt ∧ v.toInt ≤ 7) (hu : -1 ≤ u.toInt ∧ u.toInt ≤ 191) (h2_ : z1_.toInt = 384 * v.toInt) (h4_ : z3_.toInt = 495 + z1_.toInt) : -2147483648 ≤ z3_.toInt + u.toInt ∧ z3_.toInt + u.toInt < 2147483648 := by have r_v := rngI v; have r_u := rngI u; have r_z1_ := rngI z1_; have r_z3_ := rngI z3_; omega
theorem lf_c_X12_yes_3  (v : Int32) (u : Int32) (z1_ : Int32) (z3_ : Int32) (z5_ : Int32) (hv : 0 ≤ v.toInt ∧ v.toInt ≤ 7) (hu : -1 ≤ u.toInt ∧ u.toInt ≤ 191) (h2_ : z1_.toInt = 384 * v.toInt) (h4_ : z3_.toInt = 495 + z1_.toInt) (h6_ : z5_.toInt = z3_.toInt + u.toInt) : z5_.toInt = 495 + 384 * v.toInt + u.toInt := by have r_v := rngI v; have r_u := rngI u; have r_z1_ := rngI z1_; have r_z3_ := rngI z3_; have r_z5_ := rngI z5_; omega
set_option maxHeartbeats 4000000 in
set_option maxRecDepth 100000 in
theorem c_X12_yes (l : Launch) (G : va_G) (cy : Nat → ClassId) (ad : rf → Nat) (d : Nat) (v : Int32) (u : Int32) (Mz : mM) (hIz : InvD Mz) (hv : 0 ≤ v.toInt ∧ v.toInt ≤ 7) (hu : -1 ≤ u.toInt ∧ u.toInt ≤ 191) : WP DD l G cy ad yX12_yes cX12_yes 3 (some .int) d 0 [(0, vR (12, 0, 0)), (1, vI v), (2, vI u)] [] Mz (fun r M' => Mz = M' ∧ (r.toInt = 495 + 384 * v.toInt + u.toInt) ∧ SP_X12_yes v u Mz r) := by
  refine w_sipush (v := 495) dX12_yes_0 (by decide) ?_
  refine w_sipush (v := 384) dX12_yes_3 (by decide) ?_
  refine w_iload_n dX12_yes_6 rfl 1 rfl ?_
  refine w_imulB dX12_yes_7 li_384 (rfl : v.toInt = v.toInt) (lf_c_X12_yes_0 v hv) (fun z1_ h2_ => ?_)
  refine w_iaddB dX12_yes_8 li_495 (rfl : z1_.toInt = z1_.toInt) (lf_c_X12_yes_1 v z1_ hv h2_) (fun z3_ h4_ => ?_)
  refine w_iload_n dX12_yes_9 rfl 2 rfl ?_
  refine w_iaddB dX12_yes_10 (rfl : z3_.toInt = z3_.toInt) (rfl : u.toInt = u.toInt) (lf_c_X12_yes_2 v u z1_ z3_ hv hu h2_ h4_) (fun z5_ h6_ => ?_)
  exact w_iret rfl dX12_yes_11 ⟨rfl, (lf_c_X12_yes_3 v u z1_ z3_ z5_ hv hu h2_ h4_ h6_), ⟨z1_, h2_, z3_, h4_, z5_, h6_, rfl⟩⟩
def SP_X12_no (v : Int32) (u : Int32) (Mz : mM) (r_ : Int32) : Prop := ∃ r1_ : Int32, (SP_X12_yes v u Mz r1_) ∧ (r1_.toInt = 495 + 384 * v.toInt + u.toInt) ∧ ∃ z6_ : Int32, (z6_.toInt = r1_.toInt + 192) ∧ r_ = z6_
theorem lf_c_X12_no_0  (v : Int32) (u : Int32) (r1_ : Int32) (hv : 0 ≤ v.toInt ∧ v.toInt ≤ 7) (hu : -1 ≤ u.toInt ∧ u.toInt ≤ 191) (h4_ : r1_.toInt = 495 + 384 * v.toInt + u.toInt) : -2147483648 ≤ r1_.toInt + 192 ∧ r1_.toInt + 192 < 2147483648 := by have r_v := rngI v; have r_u := rngI u; have r_r1_ := rngI r1_; omega
theorem lf_c_X12_no_1  (v : Int32) (u : Int32) (r1_ : Int32) (z6_ : Int32) (hv : 0 ≤ v.toInt ∧ v.toInt ≤ 7) (hu : -1 ≤ u.toInt ∧ u.toInt ≤ 191) (h4_ : r1_.toInt = 495 + 384 * v.toInt + u.toInt) (h7_ : z6_.toInt = r1_.toInt + 192) : z6_.toInt = 687 + 384 * v.toInt + u.toInt := by have r_v := rngI v; have r_u := rngI u; have r_r1_ := rngI r1_; have r_z6_ := rngI z6_; omega
set_option maxHeartbeats 4000000 in
set_option maxRecDepth 100000 in
theorem c_X12_no (l : Launch) (G : va_G) (cy : Nat → ClassId) (ad : rf → Nat) (d : Nat) (v : Int32) (u : Int32) (Mz : mM) (hIz : InvD Mz) (hv : 0 ≤ v.toInt ∧ v.toInt ≤ 7) (hu : -1 ≤ u.toInt ∧ u.toInt ≤ 191) : WP DD l G cy ad yX12_no cX12_no 3 (some .int) (d + 1) 0 [(0, vR (12, 0, 0)), (1, vI v), (2, vI u)] [] Mz (fun r M' => Mz = M' ∧ (r.toInt = 687 + 384 * v.toInt + u.toInt) ∧ SP_X12_no v u Mz r) := by
  refine w_aload_n dX12_no_0 rfl 0 rfl ?_
  refine w_iload_n dX12_no_1 rfl 1 rfl ?_
  refine w_iload_n dX12_no_2 rfl 2 rfl ?_
  refine w_callV (as := [vI v, vI u]) (rest := []) (c_X12_yes l G cy ad d v u Mz hIz hv hu) kV_X12_yes (by decide +kernel) (Nat.le_of_ble_eq_true rfl) m_1683 rfl rfl rfl ic_12 rfl rfl (by decide) (Nat.le_of_ble_eq_true rfl) dX12_no_3 (fun r1_ M2_ q3_ => ?_)
  obtain ⟨rfl, h4_, hs5_⟩ := q3_
  refine w_sipush (v := 192) dX12_no_6 (by decide) ?_
  refine w_iaddB dX12_no_9 (rfl : r1_.toInt = r1_.toInt) li_192 (lf_c_X12_no_0 v u r1_ hv hu h4_) (fun z6_ h7_ => ?_)
  exact w_iret rfl dX12_no_10 ⟨rfl, (lf_c_X12_no_1 v u r1_ z6_ hv hu h4_ h7_), ⟨r1_, hs5_, h4_, z6_, h7_, rfl⟩⟩
def SP_is1 (v : Int32) (Mz : mM) (r_ : Int32) : Prop := ∃ z1_ : Int32, (z1_ = Mz.1 (50, 0, 0) 1) ∧ (0 ≤ z1_.toInt ∧ z1_.toInt ≤ 40) ∧ ∃ z4_ : Int32, (z4_.toInt = z1_.toInt - 1) ∧ (((SP_X12_within v 0 z4_ Mz (1 : Int32)) ∧ (0 ≤ v.toInt ∧ v.toInt ≤ z4_.toInt) ∧ r_ = 1) ∨ ((SP_X12_within v 0 z4_ Mz (0 : Int32)) ∧ (¬ (0 ≤ v.toInt ∧ v.toInt ≤ z4_.toInt)) ∧ r_ = 0))
theorem lf_c_is1_0 (Mz : mM) (z1_ : Int32) (e2_ : z1_ = Mz.1 (50, 0, 0) 1) (h3_ : 0 ≤ z1_.toInt ∧ z1_.toInt ≤ 40) : -2147483648 ≤ z1_.toInt - 1 ∧ z1_.toInt - 1 < 2147483648 := by have r_z1_ := rngI z1_; subst e2_; omega
theorem lf_c_is1_1 (Mz : mM) (v : Int32) (z1_ : Int32) (z4_ : Int32) (e2_ : z1_ = Mz.1 (50, 0, 0) 1) (h3_ : 0 ≤ z1_.toInt ∧ z1_.toInt ≤ 40) (h5_ : z4_.toInt = z1_.toInt - 1) (h9_ : 0 ≤ v.toInt ∧ v.toInt ≤ z4_.toInt) : 0 ≤ v.toInt ∧ v.toInt ≤ 39 := by have r_v := rngI v; have r_z1_ := rngI z1_; have r_z4_ := rngI z4_; subst e2_; omega
set_option maxHeartbeats 4000000 in
set_option maxRecDepth 100000 in
theorem c_is1 (l : Launch) (G : va_G) (cy : Nat → ClassId) (ad : rf → Nat) (d : Nat) (v : Int32) (Mz : mM) (hIz : InvD Mz) : WP DD l G cy ad yX12_is cX12_is 3 (some .boolean) (d + 1) 0 [(0, vR (12, 0, 0)), (1, vI v), (2, vI 1)] [] Mz (fun r M' => Mz = M' ∧ (((r = 1 ∧ 0 ≤ v.toInt ∧ v.toInt ≤ 39) ∨ r = 0)) ∧ SP_is1 v Mz r) := by
  refine w_iload_n dX12_is_0 rfl 1 rfl ?_
  refine w_iconst (v := 0) dX12_is_1 (by decide) ?_
  refine w_aload_n dX12_is_2 rfl 0 rfl ?_
  refine w_getR (c' := (50, 0, 0)) fl_RX12_9 rfl rfl ic_12 dX12_is_3 rfl ?_
  refine w_iload_n dX12_is_6 rfl 2 rfl ?_
  refine w_ialdL 1 rfl rfl ic_50 li_1 (by decide) dX12_is_7 (fun z1_ e2_ => ?_)
  have h3_ : 0 ≤ z1_.toInt ∧ z1_.toInt ≤ 40 := pn_1 hIz e2_
  refine w_iconst (v := 1) dX12_is_8 (by decide) ?_
  refine w_isubB dX12_is_9 (rfl : z1_.toInt = z1_.toInt) li_1 (lf_c_is1_0 Mz z1_ e2_ h3_) (fun z4_ h5_ => ?_)
  refine w_callS (as := [vI v, vI 0, vI z4_]) (rest := []) (c_X12_within l G cy ad d v 0 z4_ Mz hIz) kS_X12_within (by decide +kernel) (Nat.le_of_ble_eq_true rfl) m_1427 rfl rfl (by decide) (Nat.le_of_ble_eq_true rfl) dX12_is_10 (fun r6_ M7_ q8_ => ?_)
  obtain ⟨rfl, h9_, hs10_⟩ := q8_
  rcases h9_ with ⟨rfl, h9_⟩ | ⟨rfl, h9_⟩
  · simp only [li_0] at h9_
    exact w_zret rfl dX12_is_13 ⟨by decide, by decide⟩ ⟨rfl, (Or.inl ⟨rfl, (lf_c_is1_1 Mz v z1_ z4_ e2_ h3_ h5_ h9_)⟩), ⟨z1_, e2_, h3_, z4_, h5_, (Or.inl ⟨hs10_, h9_, rfl⟩)⟩⟩
  · simp only [li_0] at h9_
    exact w_zret rfl dX12_is_13 ⟨by decide, by decide⟩ ⟨rfl, (Or.inr rfl), ⟨z1_, e2_, h3_, z4_, h5_, (Or.inr ⟨hs10_, h9_, rfl⟩)⟩⟩
def SP_is2 (v : Int32) (Mz : mM) (r_ : Int32) : Prop := ∃ z1_ : Int32, (z1_ = Mz.1 (50, 0, 0) 2) ∧ (0 ≤ z1_.toInt ∧ z1_.toInt ≤ 8) ∧ ∃ z4_ : Int32, (z4_.toInt = z1_.toInt - 1) ∧ (((SP_X12_within v 0 z4_ Mz (1 : Int32)) ∧ (0 ≤ v.toInt ∧ v.toInt ≤ z4_.toInt) ∧ r_ = 1) ∨ ((SP_X12_within v 0 z4_ Mz (0 : Int32)) ∧ (¬ (0 ≤ v.toInt ∧ v.toInt ≤ z4_.toInt)) ∧ r_ = 0))
theorem lf_c_is2_0 (Mz : mM) (z1_ : Int32) (e2_ : z1_ = Mz.1 (50, 0, 0) 2) (h3_ : 0 ≤ z1_.toInt ∧ z1_.toInt ≤ 8) : -2147483648 ≤ z1_.toInt - 1 ∧ z1_.toInt - 1 < 2147483648 := by have r_z1_ := rngI z1_; subst e2_; omega
theorem lf_c_is2_1 (Mz : mM) (v : Int32) (z1_ : Int32) (z4_ : Int32) (e2_ : z1_ = Mz.1 (50, 0, 0) 2) (h3_ : 0 ≤ z1_.toInt ∧ z1_.toInt ≤ 8) (h5_ : z4_.toInt = z1_.toInt - 1) (h9_ : 0 ≤ v.toInt ∧ v.toInt ≤ z4_.toInt) : 0 ≤ v.toInt ∧ v.toInt ≤ 7 := by have r_v := rngI v; have r_z1_ := rngI z1_; have r_z4_ := rngI z4_; subst e2_; omega
set_option maxHeartbeats 4000000 in
set_option maxRecDepth 100000 in
theorem c_is2 (l : Launch) (G : va_G) (cy : Nat → ClassId) (ad : rf → Nat) (d : Nat) (v : Int32) (Mz : mM) (hIz : InvD Mz) : WP DD l G cy ad yX12_is cX12_is 3 (some .boolean) (d + 1) 0 [(0, vR (12, 0, 0)), (1, vI v), (2, vI 2)] [] Mz (fun r M' => Mz = M' ∧ (((r = 1 ∧ 0 ≤ v.toInt ∧ v.toInt ≤ 7) ∨ r = 0)) ∧ SP_is2 v Mz r) := by
  refine w_iload_n dX12_is_0 rfl 1 rfl ?_
  refine w_iconst (v := 0) dX12_is_1 (by decide) ?_
  refine w_aload_n dX12_is_2 rfl 0 rfl ?_
  refine w_getR (c' := (50, 0, 0)) fl_RX12_9 rfl rfl ic_12 dX12_is_3 rfl ?_
  refine w_iload_n dX12_is_6 rfl 2 rfl ?_
  refine w_ialdL 2 rfl rfl ic_50 li_2 (by decide) dX12_is_7 (fun z1_ e2_ => ?_)
  have h3_ : 0 ≤ z1_.toInt ∧ z1_.toInt ≤ 8 := pn_2 hIz e2_
  refine w_iconst (v := 1) dX12_is_8 (by decide) ?_
  refine w_isubB dX12_is_9 (rfl : z1_.toInt = z1_.toInt) li_1 (lf_c_is2_0 Mz z1_ e2_ h3_) (fun z4_ h5_ => ?_)
  refine w_callS (as := [vI v, vI 0, vI z4_]) (rest := []) (c_X12_within l G cy ad d v 0 z4_ Mz hIz) kS_X12_within (by decide +kernel) (Nat.le_of_ble_eq_true rfl) m_1427 rfl rfl (by decide) (Nat.le_of_ble_eq_true rfl) dX12_is_10 (fun r6_ M7_ q8_ => ?_)
  obtain ⟨rfl, h9_, hs10_⟩ := q8_
  rcases h9_ with ⟨rfl, h9_⟩ | ⟨rfl, h9_⟩
  · simp only [li_0] at h9_
    exact w_zret rfl dX12_is_13 ⟨by decide, by decide⟩ ⟨rfl, (Or.inl ⟨rfl, (lf_c_is2_1 Mz v z1_ z4_ e2_ h3_ h5_ h9_)⟩), ⟨z1_, e2_, h3_, z4_, h5_, (Or.inl ⟨hs10_, h9_, rfl⟩)⟩⟩
  · simp only [li_0] at h9_
    exact w_zret rfl dX12_is_13 ⟨by decide, by decide⟩ ⟨rfl, (Or.inr rfl), ⟨z1_, e2_, h3_, z4_, h5_, (Or.inr ⟨hs10_, h9_, rfl⟩)⟩⟩
