def S_c_X12_voice : rf → Nat → Prop := fun c k => (c.1 = 12 ∧ c.2.1 = 0 ∧ k = 26) ∨ (c.1 = 12 ∧ c.2.1 = 0 ∧ k = 27) ∨ (c.1 = 12 ∧ c.2.1 = 0 ∧ k = 28) ∨ (c.1 = 65 ∧ c.2.1 = 0) ∨ (c.1 = 53 ∧ c.2.1 = 0) ∨ False
def SP_X12_voice (v : Int32) (u : Int32) (t : Int32) (Mz : mM) (r_ : Int32) (M_ : mM) : Prop := (((SP_is2 v Mz (1 : Int32)) ∧ (0 ≤ v.toInt ∧ v.toInt ≤ 7) ∧ (((SP_X12_within u 0 3 Mz (1 : Int32)) ∧ (0 ≤ u.toInt ∧ u.toInt ≤ 3) ∧ ∃ M13_ : mM, (M13_ = up Mz (12, 0, 0) 26 0) ∧ ∃ M17_ : mM, (M17_ = up M13_ (12, 0, 0) 27 v) ∧ ∃ M21_ : mM, (M21_ = up M17_ (12, 0, 0) 28 0) ∧ ∃ M26_ : mM, (InvD M26_) ∧ (FR (S_voD) M21_ M26_) ∧ ∃ z33_ : Int32, (z33_ = M26_.1 (12, 0, 0) 28) ∧ (0 ≤ z33_.toInt ∧ z33_.toInt ≤ 1) ∧ (((z33_.toInt = 0) ∧ ∃ r25_ : Int32, r_ = r25_ ∧ M_ = M26_) ∨ ((¬ z33_.toInt = 0) ∧ ∃ M38_ : mM, (InvD M38_) ∧ (FR (S_c_X12_finding) M26_ M38_) ∧ ∃ r37_ : Int32, (SP_X12_finding (-1000006) M26_ r37_ M38_) ∧ (r37_.toInt = (-1000006)) ∧ r_ = r37_ ∧ M_ = M38_))) ∨ ((SP_X12_within u 0 3 Mz (0 : Int32)) ∧ (¬ (0 ≤ u.toInt ∧ u.toInt ≤ 3)) ∧ ∃ M47_ : mM, (InvD M47_) ∧ (FR (S_c_X12_finding) Mz M47_) ∧ ∃ r46_ : Int32, (SP_X12_finding (-1000001) Mz r46_ M47_) ∧ (r46_.toInt = (-1000001)) ∧ r_ = r46_ ∧ M_ = M47_))) ∨ ((SP_is2 v Mz (0 : Int32)) ∧ ∃ M56_ : mM, (InvD M56_) ∧ (FR (S_c_X12_finding) Mz M56_) ∧ ∃ r55_ : Int32, (SP_X12_finding (-1000001) Mz r55_ M56_) ∧ (r55_.toInt = (-1000001)) ∧ r_ = r55_ ∧ M_ = M56_))
set_option maxHeartbeats 4000000 in
set_option maxRecDepth 100000 in
theorem c_X12_voice (l : Launch) (G : va_G) (cy : Nat → ClassId) (ad : rf → Nat) (d : Nat) (v : Int32) (u : Int32) (t : Int32) (Mz : mM) (hIz : InvD Mz) : WP DD l G cy ad yX12_voice cX12_voice 5 (some .int) (d + 51) 0 [(0, vR (12, 0, 0)), (1, vI v), (2, vI u), (3, vI t)] [] Mz (fun r M' => InvD M' ∧ FR (S_c_X12_voice) Mz M' ∧ (True) ∧ SP_X12_voice v u t Mz r M') := by
  have hFz : FR (S_c_X12_voice) Mz Mz := FR.self
  refine w_aload_n dX12_voice_0 rfl 0 rfl ?_
  refine w_iload_n dX12_voice_1 rfl 1 rfl ?_
  refine w_iconst (v := 2) dX12_voice_2 (by decide) ?_
  refine w_callV (as := [vI v, vI 2]) (rest := []) (c_is2 l G cy ad (d + 49) v Mz hIz) kV_X12_is (by decide +kernel) (Nat.le_of_ble_eq_true rfl) m_1465 rfl rfl rfl ic_12 rfl rfl (by decide) (Nat.le_of_ble_eq_true rfl) dX12_voice_3 (fun r1_ M2_ q3_ => ?_)
  obtain ⟨rfl, h4_, hs5_⟩ := q3_
  rcases h4_ with ⟨rfl, h4_⟩ | rfl
  · refine w_if_eq (tgt := 18) dX12_voice_6 (by decide) li_1 (fun h9 => (absurd h9 (by decide))) (fun h6_ => ?_)
    refine w_iload_n dX12_voice_9 rfl 2 rfl ?_
    refine w_iconst (v := 0) dX12_voice_10 (by decide) ?_
    refine w_iconst (v := 3) dX12_voice_11 (by decide) ?_
    refine w_callS (as := [vI u, vI 0, vI 3]) (rest := []) (c_X12_within l G cy ad (d + 50) u 0 3 Mz hIz) kS_X12_within (by decide +kernel) (Nat.le_of_ble_eq_true rfl) m_1427 rfl rfl (by decide) (Nat.le_of_ble_eq_true rfl) dX12_voice_12 (fun r7_ M8_ q9_ => ?_)
    obtain ⟨rfl, h10_, hs11_⟩ := q9_
    rcases h10_ with ⟨rfl, h10_⟩ | ⟨rfl, h10_⟩
    · simp only [li_0, li_3] at h10_
      refine w_if_ne (tgt := 25) dX12_voice_15 (by decide) li_1 (fun h12_ => ?_) (fun h9 => (absurd h9 (by decide)))
      refine w_aload_n dX12_voice_25 rfl 0 rfl ?_
      refine w_iconst (v := 0) dX12_voice_26 (by decide) ?_
      refine w_putI DD_nd fl_RX12_324 rfl rfl ic_12 dX12_voice_27 (fun M13_ hM14_ => ?_)
      have hI15_ := hIz.put hM14_ ⟨⟨by decide, by decide⟩, Or.inl (by decide)⟩
      have hF16_ := hFz.put hM14_ (Or.inl ⟨rfl, rfl, rfl⟩)
      refine w_aload_n dX12_voice_30 rfl 0 rfl ?_
      refine w_iload_n dX12_voice_31 rfl 1 rfl ?_
      refine w_putI DD_nd fl_RX12_327 rfl rfl ic_12 dX12_voice_32 (fun M17_ hM18_ => ?_)
      have hI19_ := hI15_.put hM18_ ⟨h4_, Or.inl (by decide)⟩
      have hF20_ := hF16_.put hM18_ (Or.inr (Or.inl ⟨rfl, rfl, rfl⟩))
      refine w_aload_n dX12_voice_35 rfl 0 rfl ?_
      refine w_iconst (v := 0) dX12_voice_36 (by decide) ?_
      refine w_putZ DD_nd fl_RX12_336 rfl rfl ic_12 ⟨by decide, by decide⟩ dX12_voice_37 (fun M21_ hM22_ => ?_)
      have hI23_ := hI19_.put hM22_ ⟨⟨by decide, by decide⟩, Or.inl (by decide)⟩
      have hF24_ := hF20_.put hM22_ (Or.inr (Or.inr (Or.inl ⟨rfl, rfl, rfl⟩)))
      refine w_aload_n dX12_voice_40 rfl 0 rfl ?_
      refine w_iload_n dX12_voice_41 rfl 2 rfl ?_
      refine w_iload_n dX12_voice_42 rfl 3 rfl ?_
      refine w_callV (as := [vI u, vI t]) (rest := []) (c_X12_voicedA l G cy ad d u t M21_ hI23_ h10_) kV_X12_voiced (by decide +kernel) (Nat.le_of_ble_eq_true rfl) m_1803 rfl rfl rfl ic_12 rfl rfl (by decide) (Nat.le_of_ble_eq_true rfl) dX12_voice_43 (fun r25_ M26_ q27_ => ?_)
      obtain ⟨hI29_, hF30_, h28_⟩ := q27_
      have hF31_ := hF24_.tr hF30_ (fun c k => (fun h => h.elim (fun h => (Or.inl ⟨h.1, h.2.1, h.2.2⟩)) (fun h => h.elim (fun h => (Or.inr (Or.inr (Or.inl ⟨h.1, h.2.1, h.2.2⟩)))) (fun h => h.elim (fun h => (Or.inr (Or.inr (Or.inr (Or.inl ⟨h.1, h.2⟩))))) (fun h => h.elim)))))
      refine w_istore (ls' := [(4, vI r25_), (0, vR (12, 0, 0)), (1, vI v), (2, vI u), (3, vI t)]) dX12_voice_46 (by decide) rfl ?_
      refine w_aload_n dX12_voice_48 rfl 1 rfl ?_
      refine w_getI fl_RX12_336 rfl rfl ic_12 dX12_voice_49 (fun z33_ e34_ => ?_)
      have h35_ : 0 ≤ z33_.toInt ∧ z33_.toInt ≤ 1 := ofEq (P := fun v => 0 ≤ v.toInt ∧ v.toInt ≤ 1) e34_ (hI29_.1 (12, 0, 0) 28)
      refine w_if_eq (tgt := 65) dX12_voice_52 (by decide) (rfl : z33_.toInt = z33_.toInt) (fun h36_ => ?_) (fun h36_ => ?_)
      · refine w_iload dX12_voice_65 0 rfl ?_
        exact w_iret rfl dX12_voice_67 ⟨hI29_, hF31_, trivial, (Or.inl ⟨hs5_, h4_, (Or.inl ⟨hs11_, h10_, M13_, hM14_, M17_, hM18_, M21_, hM22_, M26_, hI29_, hF30_, z33_, e34_, h35_, (Or.inl ⟨h36_, r25_, rfl, rfl⟩)⟩)⟩)⟩
      · refine w_aload_n dX12_voice_55 rfl 1 rfl ?_
        refine w_ldc_w (v := (-1000006)) m_1822 dX12_voice_56 ?_
        refine w_callV (as := [vI (-1000006)]) (rest := []) (c_X12_finding l G cy ad (d + 50) (-1000006) M26_ hI29_ (by first | decide | (unfold vF; omega) | (unfold vRw; omega))) kV_X12_finding (by decide +kernel) (Nat.le_of_ble_eq_true rfl) m_1434 rfl rfl rfl ic_12 rfl rfl (by decide) (Nat.le_of_ble_eq_true rfl) dX12_voice_59 (fun r37_ M38_ q39_ => ?_)
        obtain ⟨hI41_, hF42_, h40_, hs44_⟩ := q39_
        have hF43_ := hF31_.tr hF42_ (fun c k => (fun h => h.elim (fun h => (Or.inr (Or.inr (Or.inr (Or.inr (Or.inl ⟨h.1, h.2⟩)))))) (fun h => h.elim)))
        simp only [li_m1000006] at h40_
        refine w_goto (tgt := 67) dX12_voice_62 (by decide) ?_
        exact w_iret rfl dX12_voice_67 ⟨hI41_, hF43_, trivial, (Or.inl ⟨hs5_, h4_, (Or.inl ⟨hs11_, h10_, M13_, hM14_, M17_, hM18_, M21_, hM22_, M26_, hI29_, hF30_, z33_, e34_, h35_, (Or.inr ⟨h36_, M38_, hI41_, hF42_, r37_, hs44_, h40_, rfl, rfl⟩)⟩)⟩)⟩
    · simp only [li_0, li_3] at h10_
      refine w_if_ne (tgt := 25) dX12_voice_15 (by decide) li_0 (fun h9 => (absurd h9 (by decide))) (fun h45_ => ?_)
      refine w_aload_n dX12_voice_18 rfl 0 rfl ?_
      refine w_ldc (v := (-1000001)) m_1433 dX12_voice_19 ?_
      refine w_callV (as := [vI (-1000001)]) (rest := []) (c_X12_finding l G cy ad (d + 50) (-1000001) Mz hIz (by first | decide | (unfold vF; omega) | (unfold vRw; omega))) kV_X12_finding (by decide +kernel) (Nat.le_of_ble_eq_true rfl) m_1434 rfl rfl rfl ic_12 rfl rfl (by decide) (Nat.le_of_ble_eq_true rfl) dX12_voice_21 (fun r46_ M47_ q48_ => ?_)
      obtain ⟨hI50_, hF51_, h49_, hs53_⟩ := q48_
      have hF52_ := hFz.tr hF51_ (fun c k => (fun h => h.elim (fun h => (Or.inr (Or.inr (Or.inr (Or.inr (Or.inl ⟨h.1, h.2⟩)))))) (fun h => h.elim)))
      simp only [li_m1000001] at h49_
      exact w_iret rfl dX12_voice_24 ⟨hI50_, hF52_, trivial, (Or.inl ⟨hs5_, h4_, (Or.inr ⟨hs11_, h10_, M47_, hI50_, hF51_, r46_, hs53_, h49_, rfl, rfl⟩)⟩)⟩
  · refine w_if_eq (tgt := 18) dX12_voice_6 (by decide) li_0 (fun h54_ => ?_) (fun h9 => (absurd h9 (by decide)))
    refine w_aload_n dX12_voice_18 rfl 0 rfl ?_
    refine w_ldc (v := (-1000001)) m_1433 dX12_voice_19 ?_
    refine w_callV (as := [vI (-1000001)]) (rest := []) (c_X12_finding l G cy ad (d + 50) (-1000001) Mz hIz (by first | decide | (unfold vF; omega) | (unfold vRw; omega))) kV_X12_finding (by decide +kernel) (Nat.le_of_ble_eq_true rfl) m_1434 rfl rfl rfl ic_12 rfl rfl (by decide) (Nat.le_of_ble_eq_true rfl) dX12_voice_21 (fun r55_ M56_ q57_ => ?_)
    obtain ⟨hI59_, hF60_, h58_, hs62_⟩ := q57_
    have hF61_ := hFz.tr hF60_ (fun c k => (fun h => h.elim (fun h => (Or.inr (Or.inr (Or.inr (Or.inr (Or.inl ⟨h.1, h.2⟩)))))) (fun h => h.elim)))
    simp only [li_m1000001] at h58_
    exact w_iret rfl dX12_voice_24 ⟨hI59_, hF61_, trivial, (Or.inr ⟨hs5_, M56_, hI59_, hF60_, r55_, hs62_, h58_, rfl, rfl⟩)⟩
