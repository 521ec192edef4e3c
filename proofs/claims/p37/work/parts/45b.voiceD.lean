def S_c_X12_voice : rf → Nat → Prop := fun c k => (c.1 = 12 ∧ c.2.1 = 0 ∧ k = 26) ∨ (c.1 = 12 ∧ c.2.1 = 0 ∧ k = 27) ∨ (c.1 = 12 ∧ c.2.1 = 0 ∧ k = 28) ∨ (c.1 = 65 ∧ c.2.1 = 0) ∨ (c.1 = 53 ∧ c.2.1 = 0) ∨ False
set_option maxHeartbeats 4000000 in
set_option maxRecDepth 100000 in
theorem c_X12_voice (l : Launch) (G : va_G) (cy : Nat → ClassId) (ad : rf → Nat) (d : Nat) (v : Int32) (u : Int32) (t : Int32) (Mz : mM) (hIz : InvD Mz) : WP DD l G cy ad yX12_voice cX12_voice 5 (some .int) (d + 51) 0 [(0, vR (12, 0, 0)), (1, vI v), (2, vI u), (3, vI t)] [] Mz (fun r M' => InvD M' ∧ FR (S_c_X12_voice) Mz M' ∧ True) := by
  have hFz : FR (S_c_X12_voice) Mz Mz := FR.self
  refine w_aload_n dX12_voice_0 rfl 0 rfl ?_
  refine w_iload_n dX12_voice_1 rfl 1 rfl ?_
  refine w_iconst (v := 2) dX12_voice_2 (by decide) ?_
  refine w_callV (as := [vI v, vI 2]) (rest := []) (c_is2 l G cy ad (d + 49) v Mz hIz) kV_X12_is (by decide +kernel) (Nat.le_of_ble_eq_true rfl) m_1465 rfl rfl rfl ic_12 rfl rfl (by decide) (Nat.le_of_ble_eq_true rfl) dX12_voice_3 (fun r1_ M2_ q3_ => ?_)
  obtain ⟨rfl, h4_⟩ := q3_
  rcases h4_ with ⟨rfl, h4_⟩ | rfl
  · refine w_if_eq (tgt := 18) dX12_voice_6 (by decide) li_1 (fun h9 => (absurd h9 (by decide))) (fun h5_ => ?_)
    refine w_iload_n dX12_voice_9 rfl 2 rfl ?_
    refine w_iconst (v := 0) dX12_voice_10 (by decide) ?_
    refine w_iconst (v := 3) dX12_voice_11 (by decide) ?_
    refine w_callS (as := [vI u, vI 0, vI 3]) (rest := []) (c_X12_within l G cy ad (d + 50) u 0 3 Mz hIz) kS_X12_within (by decide +kernel) (Nat.le_of_ble_eq_true rfl) m_1427 rfl rfl (by decide) (Nat.le_of_ble_eq_true rfl) dX12_voice_12 (fun r6_ M7_ q8_ => ?_)
    obtain ⟨rfl, h9_⟩ := q8_
    rcases h9_ with ⟨rfl, h9_⟩ | ⟨rfl, h9_⟩
    · simp only [li_0, li_3] at h9_
      refine w_if_ne (tgt := 25) dX12_voice_15 (by decide) li_1 (fun h10_ => ?_) (fun h9 => (absurd h9 (by decide)))
      refine w_aload_n dX12_voice_25 rfl 0 rfl ?_
      refine w_iconst (v := 0) dX12_voice_26 (by decide) ?_
      refine w_putI DD_nd fl_RX12_324 rfl rfl ic_12 dX12_voice_27 (fun M11_ hM12_ => ?_)
      have hI13_ := hIz.put hM12_ ⟨⟨by decide, by decide⟩, Or.inl (by decide)⟩
      have hF14_ := hFz.put hM12_ (Or.inl ⟨rfl, rfl, rfl⟩)
      refine w_aload_n dX12_voice_30 rfl 0 rfl ?_
      refine w_iload_n dX12_voice_31 rfl 1 rfl ?_
      refine w_putI DD_nd fl_RX12_327 rfl rfl ic_12 dX12_voice_32 (fun M15_ hM16_ => ?_)
      have hI17_ := hI13_.put hM16_ ⟨h4_, Or.inl (by decide)⟩
      have hF18_ := hF14_.put hM16_ (Or.inr (Or.inl ⟨rfl, rfl, rfl⟩))
      refine w_aload_n dX12_voice_35 rfl 0 rfl ?_
      refine w_iconst (v := 0) dX12_voice_36 (by decide) ?_
      refine w_putZ DD_nd fl_RX12_336 rfl rfl ic_12 ⟨by decide, by decide⟩ dX12_voice_37 (fun M19_ hM20_ => ?_)
      have hI21_ := hI17_.put hM20_ ⟨⟨by decide, by decide⟩, Or.inl (by decide)⟩
      have hF22_ := hF18_.put hM20_ (Or.inr (Or.inr (Or.inl ⟨rfl, rfl, rfl⟩)))
      refine w_aload_n dX12_voice_40 rfl 0 rfl ?_
      refine w_iload_n dX12_voice_41 rfl 2 rfl ?_
      refine w_iload_n dX12_voice_42 rfl 3 rfl ?_
      refine w_callV (as := [vI u, vI t]) (rest := []) (c_X12_voicedA l G cy ad d u t M19_ hI21_ h9_) kV_X12_voiced (by decide +kernel) (Nat.le_of_ble_eq_true rfl) m_1803 rfl rfl rfl ic_12 rfl rfl (by decide) (Nat.le_of_ble_eq_true rfl) dX12_voice_43 (fun r23_ M24_ q25_ => ?_)
      obtain ⟨hI27_, hF28_, h26_⟩ := q25_
      have hF29_ := hF22_.tr hF28_ (fun c k => (fun h => h.elim (fun h => (Or.inl ⟨h.1, h.2.1, h.2.2⟩)) (fun h => h.elim (fun h => (Or.inr (Or.inr (Or.inl ⟨h.1, h.2.1, h.2.2⟩)))) (fun h => h.elim (fun h => (Or.inr (Or.inr (Or.inr (Or.inl ⟨h.1, h.2⟩))))) (fun h => h.elim)))))
      refine w_istore (ls' := [(4, vI r23_), (0, vR (12, 0, 0)), (1, vI v), (2, vI u), (3, vI t)]) dX12_voice_46 (by decide) rfl ?_
      refine w_aload_n dX12_voice_48 rfl 1 rfl ?_
      refine w_getI fl_RX12_336 rfl rfl ic_12 dX12_voice_49 (fun z30_ e31_ => ?_)
      have h32_ : 0 ≤ z30_.toInt ∧ z30_.toInt ≤ 1 := ofEq (P := fun v => 0 ≤ v.toInt ∧ v.toInt ≤ 1) e31_ (hI27_.1 (12, 0, 0) 28)
      refine w_if_eq (tgt := 65) dX12_voice_52 (by decide) (rfl : z30_.toInt = z30_.toInt) (fun h33_ => ?_) (fun h33_ => ?_)
      · refine w_iload dX12_voice_65 0 rfl ?_
        exact w_iret rfl dX12_voice_67 ⟨hI27_, hF29_, trivial⟩
      · refine w_aload_n dX12_voice_55 rfl 1 rfl ?_
        refine w_ldc_w (v := (-1000006)) m_1822 dX12_voice_56 ?_
        refine w_callV (as := [vI (-1000006)]) (rest := []) (c_X12_finding l G cy ad (d + 50) (-1000006) M24_ hI27_ (by first | decide | (unfold vF; omega) | (unfold vRw; omega))) kV_X12_finding (by decide +kernel) (Nat.le_of_ble_eq_true rfl) m_1434 rfl rfl rfl ic_12 rfl rfl (by decide) (Nat.le_of_ble_eq_true rfl) dX12_voice_59 (fun r34_ M35_ q36_ => ?_)
        obtain ⟨hI38_, hF39_, h37_⟩ := q36_
        have hF40_ := hF29_.tr hF39_ (fun c k => (fun h => h.elim (fun h => (Or.inr (Or.inr (Or.inr (Or.inr (Or.inl ⟨h.1, h.2⟩)))))) (fun h => h.elim)))
        simp only [li_m1000006] at h37_
        refine w_goto (tgt := 67) dX12_voice_62 (by decide) ?_
        exact w_iret rfl dX12_voice_67 ⟨hI38_, hF40_, trivial⟩
    · simp only [li_0, li_3] at h9_
      refine w_if_ne (tgt := 25) dX12_voice_15 (by decide) li_0 (fun h9 => (absurd h9 (by decide))) (fun h41_ => ?_)
      refine w_aload_n dX12_voice_18 rfl 0 rfl ?_
      refine w_ldc (v := (-1000001)) m_1433 dX12_voice_19 ?_
      refine w_callV (as := [vI (-1000001)]) (rest := []) (c_X12_finding l G cy ad (d + 50) (-1000001) Mz hIz (by first | decide | (unfold vF; omega) | (unfold vRw; omega))) kV_X12_finding (by decide +kernel) (Nat.le_of_ble_eq_true rfl) m_1434 rfl rfl rfl ic_12 rfl rfl (by decide) (Nat.le_of_ble_eq_true rfl) dX12_voice_21 (fun r42_ M43_ q44_ => ?_)
      obtain ⟨hI46_, hF47_, h45_⟩ := q44_
      have hF48_ := hFz.tr hF47_ (fun c k => (fun h => h.elim (fun h => (Or.inr (Or.inr (Or.inr (Or.inr (Or.inl ⟨h.1, h.2⟩)))))) (fun h => h.elim)))
      simp only [li_m1000001] at h45_
      exact w_iret rfl dX12_voice_24 ⟨hI46_, hF48_, trivial⟩
  · refine w_if_eq (tgt := 18) dX12_voice_6 (by decide) li_0 (fun h49_ => ?_) (fun h9 => (absurd h9 (by decide)))
    refine w_aload_n dX12_voice_18 rfl 0 rfl ?_
    refine w_ldc (v := (-1000001)) m_1433 dX12_voice_19 ?_
    refine w_callV (as := [vI (-1000001)]) (rest := []) (c_X12_finding l G cy ad (d + 50) (-1000001) Mz hIz (by first | decide | (unfold vF; omega) | (unfold vRw; omega))) kV_X12_finding (by decide +kernel) (Nat.le_of_ble_eq_true rfl) m_1434 rfl rfl rfl ic_12 rfl rfl (by decide) (Nat.le_of_ble_eq_true rfl) dX12_voice_21 (fun r50_ M51_ q52_ => ?_)
    obtain ⟨hI54_, hF55_, h53_⟩ := q52_
    have hF56_ := hFz.tr hF55_ (fun c k => (fun h => h.elim (fun h => (Or.inr (Or.inr (Or.inr (Or.inr (Or.inl ⟨h.1, h.2⟩)))))) (fun h => h.elim)))
    simp only [li_m1000001] at h53_
    exact w_iret rfl dX12_voice_24 ⟨hI54_, hF56_, trivial⟩
