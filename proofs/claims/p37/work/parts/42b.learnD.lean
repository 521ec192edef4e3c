def S_c_X12_learn : rf → Nat → Prop := fun c k => (c.1 = 12 ∧ c.2.1 = 0 ∧ k = 22) ∨ (c.1 = 12 ∧ c.2.1 = 0 ∧ k = 23) ∨ (c.1 = 62 ∧ c.2.1 = 0) ∨ (c.1 = 63 ∧ c.2.1 = 0) ∨ (c.1 = 53 ∧ c.2.1 = 0) ∨ False
theorem lf_c_X12_learn_0 (M20_ : mM) (t : Int32) (z26_ : Int32) (h11_ : -2 ≤ t.toInt) (e27_ : z26_ = M20_.1 (12, 0, 0) 22) (h28_ : -1 ≤ z26_.toInt ∧ z26_.toInt ≤ 7) (h29_ : 0 ≤ z26_.toInt) (h39_ : t.toInt < z26_.toInt) (h40_ : ¬ t.toInt = -1) (h41_ : ¬ t.toInt = -2) : 0 ≤ t.toInt ∧ t.toInt < ((7 : Nat) : Int) := by have r_t := rngI t; have r_z26_ := rngI z26_; subst e27_; omega
set_option maxHeartbeats 4000000 in
set_option maxRecDepth 100000 in
theorem c_X12_learn (l : Launch) (G : va_G) (cy : Nat → ClassId) (ad : rf → Nat) (d : Nat) (v : Int32) (u : Int32) (t : Int32) (Mz : mM) (hIz : InvD Mz) : WP DD l G cy ad yX12_learn cX12_learn 4 (some .int) (d + 9) 0 [(0, vR (12, 0, 0)), (1, vI v), (2, vI u), (3, vI t)] [] Mz (fun r M' => InvD M' ∧ FR (S_c_X12_learn) Mz M' ∧ True) := by
  have hFz : FR (S_c_X12_learn) Mz Mz := FR.self
  refine w_iload_n dX12_learn_0 rfl 1 rfl ?_
  refine w_iconst (v := 0) dX12_learn_1 (by decide) ?_
  refine w_bipush (v := 31) dX12_learn_2 (by decide) ?_
  refine w_callS (as := [vI v, vI 0, vI 31]) (rest := []) (c_X12_within l G cy ad (d + 8) v 0 31 Mz hIz) kS_X12_within (by decide +kernel) (Nat.le_of_ble_eq_true rfl) m_1427 rfl rfl (by decide) (Nat.le_of_ble_eq_true rfl) dX12_learn_4 (fun r1_ M2_ q3_ => ?_)
  obtain ⟨rfl, h4_⟩ := q3_
  rcases h4_ with ⟨rfl, h4_⟩ | ⟨rfl, h4_⟩
  · simp only [li_0, li_31] at h4_
    refine w_if_eq (tgt := 26) dX12_learn_7 (by decide) li_1 (fun h9 => (absurd h9 (by decide))) (fun h5_ => ?_)
    refine w_iload_n dX12_learn_10 rfl 2 rfl ?_
    refine w_iconst (v := 0) dX12_learn_11 (by decide) ?_
    refine w_bipush (v := 31) dX12_learn_12 (by decide) ?_
    refine w_callS (as := [vI u, vI 0, vI 31]) (rest := []) (c_X12_within l G cy ad (d + 8) u 0 31 Mz hIz) kS_X12_within (by decide +kernel) (Nat.le_of_ble_eq_true rfl) m_1427 rfl rfl (by decide) (Nat.le_of_ble_eq_true rfl) dX12_learn_14 (fun r6_ M7_ q8_ => ?_)
    obtain ⟨rfl, h9_⟩ := q8_
    rcases h9_ with ⟨rfl, h9_⟩ | ⟨rfl, h9_⟩
    · simp only [li_0, li_31] at h9_
      refine w_if_eq (tgt := 26) dX12_learn_17 (by decide) li_1 (fun h9 => (absurd h9 (by decide))) (fun h10_ => ?_)
      refine w_iload_n dX12_learn_20 rfl 3 rfl ?_
      refine w_bipush (v := (-2)) dX12_learn_21 (by decide) ?_
      refine w_icmp_ge (tgt := 33) dX12_learn_23 (by decide) (rfl : t.toInt = t.toInt) li_m2 (fun h11_ => ?_) (fun h11_ => ?_)
      · refine w_aload_n dX12_learn_33 rfl 0 rfl ?_
        refine w_iconst (v := (-1)) dX12_learn_34 (by decide) ?_
        refine w_putI DD_nd fl_RX12_311 rfl rfl ic_12 dX12_learn_35 (fun M12_ hM13_ => ?_)
        have hI14_ := hIz.put hM13_ ⟨⟨by decide, by decide⟩, Or.inl (by decide)⟩
        have hF15_ := hFz.put hM13_ (Or.inl ⟨rfl, rfl, rfl⟩)
        refine w_aload_n dX12_learn_38 rfl 0 rfl ?_
        refine w_iconst (v := 0) dX12_learn_39 (by decide) ?_
        refine w_putI DD_nd fl_RX12_314 rfl rfl ic_12 dX12_learn_40 (fun M16_ hM17_ => ?_)
        have hI18_ := hI14_.put hM17_ ⟨trivial, Or.inl (by decide)⟩
        have hF19_ := hF15_.put hM17_ (Or.inr (Or.inl ⟨rfl, rfl, rfl⟩))
        refine w_aload_n dX12_learn_43 rfl 0 rfl ?_
        refine w_iconst (v := 0) dX12_learn_44 (by decide) ?_
        refine w_iconst (v := 0) dX12_learn_45 (by decide) ?_
        refine w_iload_n dX12_learn_46 rfl 1 rfl ?_
        refine w_iload_n dX12_learn_47 rfl 2 rfl ?_
        refine w_iconst (v := 0) dX12_learn_48 (by decide) ?_
        refine w_callVv (as := [vI 0, vI 0, vI v, vI u, vI 0]) (rest := []) (c_X12_try7 l G cy ad d v u M16_ hI18_) kV_X12_tryRows (by decide +kernel) (Nat.le_of_ble_eq_true rfl) m_1787 rfl rfl rfl ic_12 rfl rfl (by decide) (Nat.le_of_ble_eq_true rfl) dX12_learn_49 (fun M20_ q21_ => ?_)
        obtain ⟨hI23_, hF24_, h22_⟩ := q21_
        have hF25_ := hF19_.tr hF24_ (fun c k => (fun h => h.elim (fun h => (Or.inl ⟨h.1, h.2.1, h.2.2⟩)) (fun h => h.elim (fun h => (Or.inr (Or.inl ⟨h.1, h.2.1, h.2.2⟩))) (fun h => h.elim (fun h => (Or.inr (Or.inr (Or.inl ⟨h.1, h.2⟩)))) (fun h => h.elim (fun h => (Or.inr (Or.inr (Or.inr (Or.inl ⟨h.1, h.2⟩))))) (fun h => h.elim))))))
        refine w_aload_n dX12_learn_52 rfl 0 rfl ?_
        refine w_getI fl_RX12_311 rfl rfl ic_12 dX12_learn_53 (fun z26_ e27_ => ?_)
        have h28_ : -1 ≤ z26_.toInt ∧ z26_.toInt ≤ 7 := ofEq (P := fun v => -1 ≤ v.toInt ∧ v.toInt ≤ 7) e27_ (hI23_.1 (12, 0, 0) 22)
        refine w_if_lt (tgt := 67) dX12_learn_56 (by decide) (rfl : z26_.toInt = z26_.toInt) (fun h29_ => ?_) (fun h29_ => ?_)
        · refine w_aload_n dX12_learn_67 rfl 0 rfl ?_
          refine w_ldc (v := (-1000002)) m_1500 dX12_learn_68 ?_
          refine w_callV (as := [vI (-1000002)]) (rest := []) (c_X12_finding l G cy ad (d + 8) (-1000002) M20_ hI23_ (by first | decide | (unfold vF; omega) | (unfold vRw; omega))) kV_X12_finding (by decide +kernel) (Nat.le_of_ble_eq_true rfl) m_1434 rfl rfl rfl ic_12 rfl rfl (by decide) (Nat.le_of_ble_eq_true rfl) dX12_learn_70 (fun r30_ M31_ q32_ => ?_)
          obtain ⟨hI34_, hF35_, h33_⟩ := q32_
          have hF36_ := hF25_.tr hF35_ (fun c k => (fun h => h.elim (fun h => (Or.inr (Or.inr (Or.inr (Or.inr (Or.inl ⟨h.1, h.2⟩)))))) (fun h => h.elim)))
          simp only [li_m1000002] at h33_
          exact w_iret rfl dX12_learn_73 ⟨hI34_, hF36_, trivial⟩
        · refine w_iload_n dX12_learn_59 rfl 3 rfl ?_
          refine w_aload_n dX12_learn_60 rfl 0 rfl ?_
          refine w_getI fl_RX12_311 rfl rfl ic_12 dX12_learn_61 (fun z37_ e38_ => ?_)
          obtain rfl : z26_ = z37_ := e27_.trans e38_.symm
          refine w_icmp_lt (tgt := 74) dX12_learn_64 (by decide) (rfl : t.toInt = t.toInt) (rfl : z26_.toInt = z26_.toInt) (fun h39_ => ?_) (fun h39_ => ?_)
          · refine w_iload_n dX12_learn_74 rfl 3 rfl ?_
            refine w_iconst (v := (-1)) dX12_learn_75 (by decide) ?_
            refine w_icmp_ne (tgt := 86) dX12_learn_76 (by decide) (rfl : t.toInt = t.toInt) li_m1 (fun h40_ => ?_) (fun h40_ => ?_)
            · refine w_iload_n dX12_learn_86 rfl 3 rfl ?_
              refine w_bipush (v := (-2)) dX12_learn_87 (by decide) ?_
              refine w_icmp_ne (tgt := 99) dX12_learn_89 (by decide) (rfl : t.toInt = t.toInt) li_m2 (fun h41_ => ?_) (fun h41_ => ?_)
              · refine w_aload_n dX12_learn_99 rfl 0 rfl ?_
                refine w_getR (c' := (63, 0, 0)) fl_RX12_63 rfl rfl ic_12 dX12_learn_100 rfl ?_
                refine w_iload_n dX12_learn_103 rfl 3 rfl ?_
                refine w_iald rfl rfl ic_63 (rfl : t.toInt = t.toInt) (lf_c_X12_learn_0 M20_ t z26_ h11_ e27_ h28_ h29_ h39_ h40_ h41_) dX12_learn_104 (fun j44_ h45_ z42_ e43_ => ?_)
                exact w_iret rfl dX12_learn_105 ⟨hI23_, hF25_, trivial⟩
              · refine w_aload_n dX12_learn_92 rfl 0 rfl ?_
                refine w_getI fl_RX12_311 rfl rfl ic_12 dX12_learn_93 (fun z46_ e47_ => ?_)
                obtain rfl : z26_ = z46_ := e27_.trans e47_.symm
                refine w_goto (tgt := 105) dX12_learn_96 (by decide) ?_
                exact w_iret rfl dX12_learn_105 ⟨hI23_, hF25_, trivial⟩
            · refine w_aload_n dX12_learn_79 rfl 0 rfl ?_
              refine w_getI fl_RX12_314 rfl rfl ic_12 dX12_learn_80 (fun z48_ e49_ => ?_)
              refine w_goto (tgt := 105) dX12_learn_83 (by decide) ?_
              exact w_iret rfl dX12_learn_105 ⟨hI23_, hF25_, trivial⟩
          · refine w_aload_n dX12_learn_67 rfl 0 rfl ?_
            refine w_ldc (v := (-1000002)) m_1500 dX12_learn_68 ?_
            refine w_callV (as := [vI (-1000002)]) (rest := []) (c_X12_finding l G cy ad (d + 8) (-1000002) M20_ hI23_ (by first | decide | (unfold vF; omega) | (unfold vRw; omega))) kV_X12_finding (by decide +kernel) (Nat.le_of_ble_eq_true rfl) m_1434 rfl rfl rfl ic_12 rfl rfl (by decide) (Nat.le_of_ble_eq_true rfl) dX12_learn_70 (fun r50_ M51_ q52_ => ?_)
            obtain ⟨hI54_, hF55_, h53_⟩ := q52_
            have hF56_ := hF25_.tr hF55_ (fun c k => (fun h => h.elim (fun h => (Or.inr (Or.inr (Or.inr (Or.inr (Or.inl ⟨h.1, h.2⟩)))))) (fun h => h.elim)))
            simp only [li_m1000002] at h53_
            exact w_iret rfl dX12_learn_73 ⟨hI54_, hF56_, trivial⟩
      · refine w_aload_n dX12_learn_26 rfl 0 rfl ?_
        refine w_ldc (v := (-1000001)) m_1433 dX12_learn_27 ?_
        refine w_callV (as := [vI (-1000001)]) (rest := []) (c_X12_finding l G cy ad (d + 8) (-1000001) Mz hIz (by first | decide | (unfold vF; omega) | (unfold vRw; omega))) kV_X12_finding (by decide +kernel) (Nat.le_of_ble_eq_true rfl) m_1434 rfl rfl rfl ic_12 rfl rfl (by decide) (Nat.le_of_ble_eq_true rfl) dX12_learn_29 (fun r57_ M58_ q59_ => ?_)
        obtain ⟨hI61_, hF62_, h60_⟩ := q59_
        have hF63_ := hFz.tr hF62_ (fun c k => (fun h => h.elim (fun h => (Or.inr (Or.inr (Or.inr (Or.inr (Or.inl ⟨h.1, h.2⟩)))))) (fun h => h.elim)))
        simp only [li_m1000001] at h60_
        exact w_iret rfl dX12_learn_32 ⟨hI61_, hF63_, trivial⟩
    · simp only [li_0, li_31] at h9_
      refine w_if_eq (tgt := 26) dX12_learn_17 (by decide) li_0 (fun h64_ => ?_) (fun h9 => (absurd h9 (by decide)))
      refine w_aload_n dX12_learn_26 rfl 0 rfl ?_
      refine w_ldc (v := (-1000001)) m_1433 dX12_learn_27 ?_
      refine w_callV (as := [vI (-1000001)]) (rest := []) (c_X12_finding l G cy ad (d + 8) (-1000001) Mz hIz (by first | decide | (unfold vF; omega) | (unfold vRw; omega))) kV_X12_finding (by decide +kernel) (Nat.le_of_ble_eq_true rfl) m_1434 rfl rfl rfl ic_12 rfl rfl (by decide) (Nat.le_of_ble_eq_true rfl) dX12_learn_29 (fun r65_ M66_ q67_ => ?_)
      obtain ⟨hI69_, hF70_, h68_⟩ := q67_
      have hF71_ := hFz.tr hF70_ (fun c k => (fun h => h.elim (fun h => (Or.inr (Or.inr (Or.inr (Or.inr (Or.inl ⟨h.1, h.2⟩)))))) (fun h => h.elim)))
      simp only [li_m1000001] at h68_
      exact w_iret rfl dX12_learn_32 ⟨hI69_, hF71_, trivial⟩
  · simp only [li_0, li_31] at h4_
    refine w_if_eq (tgt := 26) dX12_learn_7 (by decide) li_0 (fun h72_ => ?_) (fun h9 => (absurd h9 (by decide)))
    refine w_aload_n dX12_learn_26 rfl 0 rfl ?_
    refine w_ldc (v := (-1000001)) m_1433 dX12_learn_27 ?_
    refine w_callV (as := [vI (-1000001)]) (rest := []) (c_X12_finding l G cy ad (d + 8) (-1000001) Mz hIz (by first | decide | (unfold vF; omega) | (unfold vRw; omega))) kV_X12_finding (by decide +kernel) (Nat.le_of_ble_eq_true rfl) m_1434 rfl rfl rfl ic_12 rfl rfl (by decide) (Nat.le_of_ble_eq_true rfl) dX12_learn_29 (fun r73_ M74_ q75_ => ?_)
    obtain ⟨hI77_, hF78_, h76_⟩ := q75_
    have hF79_ := hFz.tr hF78_ (fun c k => (fun h => h.elim (fun h => (Or.inr (Or.inr (Or.inr (Or.inr (Or.inl ⟨h.1, h.2⟩)))))) (fun h => h.elim)))
    simp only [li_m1000001] at h76_
    exact w_iret rfl dX12_learn_32 ⟨hI77_, hF79_, trivial⟩
