def S_c_X12_learn : rf → Nat → Prop := fun c k => (c.1 = 12 ∧ c.2.1 = 0 ∧ k = 22) ∨ (c.1 = 12 ∧ c.2.1 = 0 ∧ k = 23) ∨ (c.1 = 62 ∧ c.2.1 = 0) ∨ (c.1 = 63 ∧ c.2.1 = 0) ∨ (c.1 = 53 ∧ c.2.1 = 0) ∨ False
def SP_X12_learn (v : Int32) (u : Int32) (t : Int32) (Mz : mM) (r_ : Int32) (M_ : mM) : Prop := (((SP_X12_within v 0 31 Mz (1 : Int32)) ∧ (0 ≤ v.toInt ∧ v.toInt ≤ 31) ∧ (((SP_X12_within u 0 31 Mz (1 : Int32)) ∧ (0 ≤ u.toInt ∧ u.toInt ≤ 31) ∧ (((-2 ≤ t.toInt) ∧ ∃ M14_ : mM, (M14_ = up Mz (12, 0, 0) 22 (-1)) ∧ ∃ M18_ : mM, (M18_ = up M14_ (12, 0, 0) 23 0) ∧ ∃ M22_ : mM, (InvD M22_) ∧ (FR (S_tryD) M18_ M22_) ∧ ∃ z29_ : Int32, (z29_ = M22_.1 (12, 0, 0) 22) ∧ (-1 ≤ z29_.toInt ∧ z29_.toInt ≤ 7) ∧ (((z29_.toInt < 0) ∧ ∃ M34_ : mM, (InvD M34_) ∧ (FR (S_c_X12_finding) M22_ M34_) ∧ ∃ r33_ : Int32, (SP_X12_finding (-1000002) M22_ r33_ M34_) ∧ (r33_.toInt = (-1000002)) ∧ r_ = r33_ ∧ M_ = M34_) ∨ ((0 ≤ z29_.toInt) ∧ (((t.toInt < z29_.toInt) ∧ (((¬ t.toInt = -1) ∧ (((¬ t.toInt = -2) ∧ ∃ j48_ : Nat, ((j48_ : Int) = t.toInt) ∧ ∃ z46_ : Int32, (z46_ = M22_.1 (63, 0, 0) j48_) ∧ r_ = z46_ ∧ M_ = M22_) ∨ ((t.toInt = -2) ∧ r_ = z29_ ∧ M_ = M22_))) ∨ ((t.toInt = -1) ∧ ∃ z52_ : Int32, (z52_ = M22_.1 (12, 0, 0) 23) ∧ r_ = z52_ ∧ M_ = M22_))) ∨ ((z29_.toInt ≤ t.toInt) ∧ ∃ M55_ : mM, (InvD M55_) ∧ (FR (S_c_X12_finding) M22_ M55_) ∧ ∃ r54_ : Int32, (SP_X12_finding (-1000002) M22_ r54_ M55_) ∧ (r54_.toInt = (-1000002)) ∧ r_ = r54_ ∧ M_ = M55_))))) ∨ ((t.toInt < -2) ∧ ∃ M63_ : mM, (InvD M63_) ∧ (FR (S_c_X12_finding) Mz M63_) ∧ ∃ r62_ : Int32, (SP_X12_finding (-1000001) Mz r62_ M63_) ∧ (r62_.toInt = (-1000001)) ∧ r_ = r62_ ∧ M_ = M63_))) ∨ ((SP_X12_within u 0 31 Mz (0 : Int32)) ∧ (¬ (0 ≤ u.toInt ∧ u.toInt ≤ 31)) ∧ ∃ M72_ : mM, (InvD M72_) ∧ (FR (S_c_X12_finding) Mz M72_) ∧ ∃ r71_ : Int32, (SP_X12_finding (-1000001) Mz r71_ M72_) ∧ (r71_.toInt = (-1000001)) ∧ r_ = r71_ ∧ M_ = M72_))) ∨ ((SP_X12_within v 0 31 Mz (0 : Int32)) ∧ (¬ (0 ≤ v.toInt ∧ v.toInt ≤ 31)) ∧ ∃ M81_ : mM, (InvD M81_) ∧ (FR (S_c_X12_finding) Mz M81_) ∧ ∃ r80_ : Int32, (SP_X12_finding (-1000001) Mz r80_ M81_) ∧ (r80_.toInt = (-1000001)) ∧ r_ = r80_ ∧ M_ = M81_))
theorem lf_c_X12_learn_0 (M22_ : mM) (t : Int32) (z29_ : Int32) (h13_ : -2 ≤ t.toInt) (e30_ : z29_ = M22_.1 (12, 0, 0) 22) (h31_ : -1 ≤ z29_.toInt ∧ z29_.toInt ≤ 7) (h32_ : 0 ≤ z29_.toInt) (h43_ : t.toInt < z29_.toInt) (h44_ : ¬ t.toInt = -1) (h45_ : ¬ t.toInt = -2) : 0 ≤ t.toInt ∧ t.toInt < ((7 : Nat) : Int) := by have r_t := rngI t; have r_z29_ := rngI z29_; subst e30_; omega
set_option maxHeartbeats 4000000 in
set_option maxRecDepth 100000 in
theorem c_X12_learn (l : Launch) (G : va_G) (cy : Nat → ClassId) (ad : rf → Nat) (d : Nat) (v : Int32) (u : Int32) (t : Int32) (Mz : mM) (hIz : InvD Mz) : WP DD l G cy ad yX12_learn cX12_learn 4 (some .int) (d + 9) 0 [(0, vR (12, 0, 0)), (1, vI v), (2, vI u), (3, vI t)] [] Mz (fun r M' => InvD M' ∧ FR (S_c_X12_learn) Mz M' ∧ (True) ∧ SP_X12_learn v u t Mz r M') := by
  have hFz : FR (S_c_X12_learn) Mz Mz := FR.self
  refine w_iload_n dX12_learn_0 rfl 1 rfl ?_
  refine w_iconst (v := 0) dX12_learn_1 (by decide) ?_
  refine w_bipush (v := 31) dX12_learn_2 (by decide) ?_
  refine w_callS (as := [vI v, vI 0, vI 31]) (rest := []) (c_X12_within l G cy ad (d + 8) v 0 31 Mz hIz) kS_X12_within (by decide +kernel) (Nat.le_of_ble_eq_true rfl) m_1427 rfl rfl (by decide) (Nat.le_of_ble_eq_true rfl) dX12_learn_4 (fun r1_ M2_ q3_ => ?_)
  obtain ⟨rfl, h4_, hs5_⟩ := q3_
  rcases h4_ with ⟨rfl, h4_⟩ | ⟨rfl, h4_⟩
  · simp only [li_0, li_31] at h4_
    refine w_if_eq (tgt := 26) dX12_learn_7 (by decide) li_1 (fun h9 => (absurd h9 (by decide))) (fun h6_ => ?_)
    refine w_iload_n dX12_learn_10 rfl 2 rfl ?_
    refine w_iconst (v := 0) dX12_learn_11 (by decide) ?_
    refine w_bipush (v := 31) dX12_learn_12 (by decide) ?_
    refine w_callS (as := [vI u, vI 0, vI 31]) (rest := []) (c_X12_within l G cy ad (d + 8) u 0 31 Mz hIz) kS_X12_within (by decide +kernel) (Nat.le_of_ble_eq_true rfl) m_1427 rfl rfl (by decide) (Nat.le_of_ble_eq_true rfl) dX12_learn_14 (fun r7_ M8_ q9_ => ?_)
    obtain ⟨rfl, h10_, hs11_⟩ := q9_
    rcases h10_ with ⟨rfl, h10_⟩ | ⟨rfl, h10_⟩
    · simp only [li_0, li_31] at h10_
      refine w_if_eq (tgt := 26) dX12_learn_17 (by decide) li_1 (fun h9 => (absurd h9 (by decide))) (fun h12_ => ?_)
      refine w_iload_n dX12_learn_20 rfl 3 rfl ?_
      refine w_bipush (v := (-2)) dX12_learn_21 (by decide) ?_
      refine w_icmp_ge (tgt := 33) dX12_learn_23 (by decide) (rfl : t.toInt = t.toInt) li_m2 (fun h13_ => ?_) (fun h13_ => ?_)
      · refine w_aload_n dX12_learn_33 rfl 0 rfl ?_
        refine w_iconst (v := (-1)) dX12_learn_34 (by decide) ?_
        refine w_putI DD_nd fl_RX12_311 rfl rfl ic_12 dX12_learn_35 (fun M14_ hM15_ => ?_)
        have hI16_ := hIz.put hM15_ ⟨⟨by decide, by decide⟩, Or.inl (by decide)⟩
        have hF17_ := hFz.put hM15_ (Or.inl ⟨rfl, rfl, rfl⟩)
        refine w_aload_n dX12_learn_38 rfl 0 rfl ?_
        refine w_iconst (v := 0) dX12_learn_39 (by decide) ?_
        refine w_putI DD_nd fl_RX12_314 rfl rfl ic_12 dX12_learn_40 (fun M18_ hM19_ => ?_)
        have hI20_ := hI16_.put hM19_ ⟨trivial, Or.inl (by decide)⟩
        have hF21_ := hF17_.put hM19_ (Or.inr (Or.inl ⟨rfl, rfl, rfl⟩))
        refine w_aload_n dX12_learn_43 rfl 0 rfl ?_
        refine w_iconst (v := 0) dX12_learn_44 (by decide) ?_
        refine w_iconst (v := 0) dX12_learn_45 (by decide) ?_
        refine w_iload_n dX12_learn_46 rfl 1 rfl ?_
        refine w_iload_n dX12_learn_47 rfl 2 rfl ?_
        refine w_iconst (v := 0) dX12_learn_48 (by decide) ?_
        refine w_callVv (as := [vI 0, vI 0, vI v, vI u, vI 0]) (rest := []) (c_X12_try7 l G cy ad d v u M18_ hI20_) kV_X12_tryRows (by decide +kernel) (Nat.le_of_ble_eq_true rfl) m_1787 rfl rfl rfl ic_12 rfl rfl (by decide) (Nat.le_of_ble_eq_true rfl) dX12_learn_49 (fun M22_ q23_ => ?_)
        obtain ⟨hI25_, hF26_, h24_⟩ := q23_
        have hF27_ := hF21_.tr hF26_ (fun c k => (fun h => h.elim (fun h => (Or.inl ⟨h.1, h.2.1, h.2.2⟩)) (fun h => h.elim (fun h => (Or.inr (Or.inl ⟨h.1, h.2.1, h.2.2⟩))) (fun h => h.elim (fun h => (Or.inr (Or.inr (Or.inl ⟨h.1, h.2⟩)))) (fun h => h.elim (fun h => (Or.inr (Or.inr (Or.inr (Or.inl ⟨h.1, h.2⟩))))) (fun h => h.elim))))))
        refine w_aload_n dX12_learn_52 rfl 0 rfl ?_
        refine w_getI fl_RX12_311 rfl rfl ic_12 dX12_learn_53 (fun z29_ e30_ => ?_)
        have h31_ : -1 ≤ z29_.toInt ∧ z29_.toInt ≤ 7 := ofEq (P := fun v => -1 ≤ v.toInt ∧ v.toInt ≤ 7) e30_ (hI25_.1 (12, 0, 0) 22)
        refine w_if_lt (tgt := 67) dX12_learn_56 (by decide) (rfl : z29_.toInt = z29_.toInt) (fun h32_ => ?_) (fun h32_ => ?_)
        · refine w_aload_n dX12_learn_67 rfl 0 rfl ?_
          refine w_ldc (v := (-1000002)) m_1500 dX12_learn_68 ?_
          refine w_callV (as := [vI (-1000002)]) (rest := []) (c_X12_finding l G cy ad (d + 8) (-1000002) M22_ hI25_ (by first | decide | (unfold vF; omega) | (unfold vRw; omega))) kV_X12_finding (by decide +kernel) (Nat.le_of_ble_eq_true rfl) m_1434 rfl rfl rfl ic_12 rfl rfl (by decide) (Nat.le_of_ble_eq_true rfl) dX12_learn_70 (fun r33_ M34_ q35_ => ?_)
          obtain ⟨hI37_, hF38_, h36_, hs40_⟩ := q35_
          have hF39_ := hF27_.tr hF38_ (fun c k => (fun h => h.elim (fun h => (Or.inr (Or.inr (Or.inr (Or.inr (Or.inl ⟨h.1, h.2⟩)))))) (fun h => h.elim)))
          simp only [li_m1000002] at h36_
          exact w_iret rfl dX12_learn_73 ⟨hI37_, hF39_, trivial, (Or.inl ⟨hs5_, h4_, (Or.inl ⟨hs11_, h10_, (Or.inl ⟨h13_, M14_, hM15_, M18_, hM19_, M22_, hI25_, hF26_, z29_, e30_, h31_, (Or.inl ⟨h32_, M34_, hI37_, hF38_, r33_, hs40_, h36_, rfl, rfl⟩)⟩)⟩)⟩)⟩
        · refine w_iload_n dX12_learn_59 rfl 3 rfl ?_
          refine w_aload_n dX12_learn_60 rfl 0 rfl ?_
          refine w_getI fl_RX12_311 rfl rfl ic_12 dX12_learn_61 (fun z41_ e42_ => ?_)
          obtain rfl : z29_ = z41_ := e30_.trans e42_.symm
          refine w_icmp_lt (tgt := 74) dX12_learn_64 (by decide) (rfl : t.toInt = t.toInt) (rfl : z29_.toInt = z29_.toInt) (fun h43_ => ?_) (fun h43_ => ?_)
          · refine w_iload_n dX12_learn_74 rfl 3 rfl ?_
            refine w_iconst (v := (-1)) dX12_learn_75 (by decide) ?_
            refine w_icmp_ne (tgt := 86) dX12_learn_76 (by decide) (rfl : t.toInt = t.toInt) li_m1 (fun h44_ => ?_) (fun h44_ => ?_)
            · refine w_iload_n dX12_learn_86 rfl 3 rfl ?_
              refine w_bipush (v := (-2)) dX12_learn_87 (by decide) ?_
              refine w_icmp_ne (tgt := 99) dX12_learn_89 (by decide) (rfl : t.toInt = t.toInt) li_m2 (fun h45_ => ?_) (fun h45_ => ?_)
              · refine w_aload_n dX12_learn_99 rfl 0 rfl ?_
                refine w_getR (c' := (63, 0, 0)) fl_RX12_63 rfl rfl ic_12 dX12_learn_100 rfl ?_
                refine w_iload_n dX12_learn_103 rfl 3 rfl ?_
                refine w_iald rfl rfl ic_63 (rfl : t.toInt = t.toInt) (lf_c_X12_learn_0 M22_ t z29_ h13_ e30_ h31_ h32_ h43_ h44_ h45_) dX12_learn_104 (fun j48_ h49_ z46_ e47_ => ?_)
                exact w_iret rfl dX12_learn_105 ⟨hI25_, hF27_, trivial, (Or.inl ⟨hs5_, h4_, (Or.inl ⟨hs11_, h10_, (Or.inl ⟨h13_, M14_, hM15_, M18_, hM19_, M22_, hI25_, hF26_, z29_, e30_, h31_, (Or.inr ⟨h32_, (Or.inl ⟨h43_, (Or.inl ⟨h44_, (Or.inl ⟨h45_, j48_, h49_, z46_, e47_, rfl, rfl⟩)⟩)⟩)⟩)⟩)⟩)⟩)⟩
              · refine w_aload_n dX12_learn_92 rfl 0 rfl ?_
                refine w_getI fl_RX12_311 rfl rfl ic_12 dX12_learn_93 (fun z50_ e51_ => ?_)
                obtain rfl : z29_ = z50_ := e30_.trans e51_.symm
                refine w_goto (tgt := 105) dX12_learn_96 (by decide) ?_
                exact w_iret rfl dX12_learn_105 ⟨hI25_, hF27_, trivial, (Or.inl ⟨hs5_, h4_, (Or.inl ⟨hs11_, h10_, (Or.inl ⟨h13_, M14_, hM15_, M18_, hM19_, M22_, hI25_, hF26_, z29_, e30_, h31_, (Or.inr ⟨h32_, (Or.inl ⟨h43_, (Or.inl ⟨h44_, (Or.inr ⟨h45_, rfl, rfl⟩)⟩)⟩)⟩)⟩)⟩)⟩)⟩
            · refine w_aload_n dX12_learn_79 rfl 0 rfl ?_
              refine w_getI fl_RX12_314 rfl rfl ic_12 dX12_learn_80 (fun z52_ e53_ => ?_)
              refine w_goto (tgt := 105) dX12_learn_83 (by decide) ?_
              exact w_iret rfl dX12_learn_105 ⟨hI25_, hF27_, trivial, (Or.inl ⟨hs5_, h4_, (Or.inl ⟨hs11_, h10_, (Or.inl ⟨h13_, M14_, hM15_, M18_, hM19_, M22_, hI25_, hF26_, z29_, e30_, h31_, (Or.inr ⟨h32_, (Or.inl ⟨h43_, (Or.inr ⟨h44_, z52_, e53_, rfl, rfl⟩)⟩)⟩)⟩)⟩)⟩)⟩
          · refine w_aload_n dX12_learn_67 rfl 0 rfl ?_
            refine w_ldc (v := (-1000002)) m_1500 dX12_learn_68 ?_
            refine w_callV (as := [vI (-1000002)]) (rest := []) (c_X12_finding l G cy ad (d + 8) (-1000002) M22_ hI25_ (by first | decide | (unfold vF; omega) | (unfold vRw; omega))) kV_X12_finding (by decide +kernel) (Nat.le_of_ble_eq_true rfl) m_1434 rfl rfl rfl ic_12 rfl rfl (by decide) (Nat.le_of_ble_eq_true rfl) dX12_learn_70 (fun r54_ M55_ q56_ => ?_)
            obtain ⟨hI58_, hF59_, h57_, hs61_⟩ := q56_
            have hF60_ := hF27_.tr hF59_ (fun c k => (fun h => h.elim (fun h => (Or.inr (Or.inr (Or.inr (Or.inr (Or.inl ⟨h.1, h.2⟩)))))) (fun h => h.elim)))
            simp only [li_m1000002] at h57_
            exact w_iret rfl dX12_learn_73 ⟨hI58_, hF60_, trivial, (Or.inl ⟨hs5_, h4_, (Or.inl ⟨hs11_, h10_, (Or.inl ⟨h13_, M14_, hM15_, M18_, hM19_, M22_, hI25_, hF26_, z29_, e30_, h31_, (Or.inr ⟨h32_, (Or.inr ⟨h43_, M55_, hI58_, hF59_, r54_, hs61_, h57_, rfl, rfl⟩)⟩)⟩)⟩)⟩)⟩
      · refine w_aload_n dX12_learn_26 rfl 0 rfl ?_
        refine w_ldc (v := (-1000001)) m_1433 dX12_learn_27 ?_
        refine w_callV (as := [vI (-1000001)]) (rest := []) (c_X12_finding l G cy ad (d + 8) (-1000001) Mz hIz (by first | decide | (unfold vF; omega) | (unfold vRw; omega))) kV_X12_finding (by decide +kernel) (Nat.le_of_ble_eq_true rfl) m_1434 rfl rfl rfl ic_12 rfl rfl (by decide) (Nat.le_of_ble_eq_true rfl) dX12_learn_29 (fun r62_ M63_ q64_ => ?_)
        obtain ⟨hI66_, hF67_, h65_, hs69_⟩ := q64_
        have hF68_ := hFz.tr hF67_ (fun c k => (fun h => h.elim (fun h => (Or.inr (Or.inr (Or.inr (Or.inr (Or.inl ⟨h.1, h.2⟩)))))) (fun h => h.elim)))
        simp only [li_m1000001] at h65_
        exact w_iret rfl dX12_learn_32 ⟨hI66_, hF68_, trivial, (Or.inl ⟨hs5_, h4_, (Or.inl ⟨hs11_, h10_, (Or.inr ⟨h13_, M63_, hI66_, hF67_, r62_, hs69_, h65_, rfl, rfl⟩)⟩)⟩)⟩
    · simp only [li_0, li_31] at h10_
      refine w_if_eq (tgt := 26) dX12_learn_17 (by decide) li_0 (fun h70_ => ?_) (fun h9 => (absurd h9 (by decide)))
      refine w_aload_n dX12_learn_26 rfl 0 rfl ?_
      refine w_ldc (v := (-1000001)) m_1433 dX12_learn_27 ?_
      refine w_callV (as := [vI (-1000001)]) (rest := []) (c_X12_finding l G cy ad (d + 8) (-1000001) Mz hIz (by first | decide | (unfold vF; omega) | (unfold vRw; omega))) kV_X12_finding (by decide +kernel) (Nat.le_of_ble_eq_true rfl) m_1434 rfl rfl rfl ic_12 rfl rfl (by decide) (Nat.le_of_ble_eq_true rfl) dX12_learn_29 (fun r71_ M72_ q73_ => ?_)
      obtain ⟨hI75_, hF76_, h74_, hs78_⟩ := q73_
      have hF77_ := hFz.tr hF76_ (fun c k => (fun h => h.elim (fun h => (Or.inr (Or.inr (Or.inr (Or.inr (Or.inl ⟨h.1, h.2⟩)))))) (fun h => h.elim)))
      simp only [li_m1000001] at h74_
      exact w_iret rfl dX12_learn_32 ⟨hI75_, hF77_, trivial, (Or.inl ⟨hs5_, h4_, (Or.inr ⟨hs11_, h10_, M72_, hI75_, hF76_, r71_, hs78_, h74_, rfl, rfl⟩)⟩)⟩
  · simp only [li_0, li_31] at h4_
    refine w_if_eq (tgt := 26) dX12_learn_7 (by decide) li_0 (fun h79_ => ?_) (fun h9 => (absurd h9 (by decide)))
    refine w_aload_n dX12_learn_26 rfl 0 rfl ?_
    refine w_ldc (v := (-1000001)) m_1433 dX12_learn_27 ?_
    refine w_callV (as := [vI (-1000001)]) (rest := []) (c_X12_finding l G cy ad (d + 8) (-1000001) Mz hIz (by first | decide | (unfold vF; omega) | (unfold vRw; omega))) kV_X12_finding (by decide +kernel) (Nat.le_of_ble_eq_true rfl) m_1434 rfl rfl rfl ic_12 rfl rfl (by decide) (Nat.le_of_ble_eq_true rfl) dX12_learn_29 (fun r80_ M81_ q82_ => ?_)
    obtain ⟨hI84_, hF85_, h83_, hs87_⟩ := q82_
    have hF86_ := hFz.tr hF85_ (fun c k => (fun h => h.elim (fun h => (Or.inr (Or.inr (Or.inr (Or.inr (Or.inl ⟨h.1, h.2⟩)))))) (fun h => h.elim)))
    simp only [li_m1000001] at h83_
    exact w_iret rfl dX12_learn_32 ⟨hI84_, hF86_, trivial, (Or.inr ⟨hs5_, h4_, M81_, hI84_, hF85_, r80_, hs87_, h83_, rfl, rfl⟩)⟩
