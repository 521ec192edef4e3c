def S_c_X12_thing_ : rf → Nat → Prop := fun c k => (c.1 = 50 ∧ c.2.1 = 0) ∨ (c.1 = 53 ∧ c.2.1 = 0) ∨ False
def SP_X12_thing_ (v : Int32) (u : Int32) (Mz : mM) (r_ : Int32) (M_ : mM) : Prop := (((SP_X12_within v 0 4 Mz (1 : Int32)) ∧ (0 ≤ v.toInt ∧ v.toInt ≤ 4) ∧ (((SP_X12_isCell u Mz (1 : Int32)) ∧ (0 ≤ u.toInt ∧ u.toInt ≤ 191) ∧ ∃ r13_ : Int32, (SP_X12_isFree u Mz r13_) ∧ ((0 ≤ r13_.toInt ∧ r13_.toInt ≤ 1)) ∧ (((¬ r13_.toInt = 0) ∧ ∃ z19_ : Int32, (z19_ = Mz.1 (50, 0, 0) 1) ∧ (0 ≤ z19_.toInt ∧ z19_.toInt ≤ 40) ∧ (((¬ z19_.toInt = 40) ∧ ∃ M24_ : mM, (InvD M24_) ∧ (FR (S_c_X12_comes) Mz M24_) ∧ ∃ r23_ : Int32, (SP_X12_comes v u Mz r23_ M24_) ∧ (0 ≤ r23_.toInt ∧ r23_.toInt ≤ 39) ∧ r_ = r23_ ∧ M_ = M24_) ∨ ((z19_.toInt = 40) ∧ ∃ M32_ : mM, (InvD M32_) ∧ (FR (S_c_X12_finding) Mz M32_) ∧ ∃ r31_ : Int32, (SP_X12_finding (-1000004) Mz r31_ M32_) ∧ (r31_.toInt = (-1000004)) ∧ r_ = r31_ ∧ M_ = M32_))) ∨ ((r13_.toInt = 0) ∧ ∃ M40_ : mM, (InvD M40_) ∧ (FR (S_c_X12_finding) Mz M40_) ∧ ∃ r39_ : Int32, (SP_X12_finding (-1000003) Mz r39_ M40_) ∧ (r39_.toInt = (-1000003)) ∧ r_ = r39_ ∧ M_ = M40_))) ∨ ((SP_X12_isCell u Mz (0 : Int32)) ∧ (¬ (0 ≤ u.toInt ∧ u.toInt ≤ 191)) ∧ ∃ M49_ : mM, (InvD M49_) ∧ (FR (S_c_X12_finding) Mz M49_) ∧ ∃ r48_ : Int32, (SP_X12_finding (-1000001) Mz r48_ M49_) ∧ (r48_.toInt = (-1000001)) ∧ r_ = r48_ ∧ M_ = M49_))) ∨ ((SP_X12_within v 0 4 Mz (0 : Int32)) ∧ (¬ (0 ≤ v.toInt ∧ v.toInt ≤ 4)) ∧ ∃ M58_ : mM, (InvD M58_) ∧ (FR (S_c_X12_finding) Mz M58_) ∧ ∃ r57_ : Int32, (SP_X12_finding (-1000001) Mz r57_ M58_) ∧ (r57_.toInt = (-1000001)) ∧ r_ = r57_ ∧ M_ = M58_))
theorem lf_c_X12_thing__0 (Mz : mM) (z19_ : Int32) (e20_ : z19_ = Mz.1 (50, 0, 0) 1) (h21_ : 0 ≤ z19_.toInt ∧ z19_.toInt ≤ 40) (h22_ : ¬ z19_.toInt = 40) : z19_.toInt ≤ 39 := by have r_z19_ := rngI z19_; subst e20_; omega
set_option maxHeartbeats 4000000 in
set_option maxRecDepth 100000 in
theorem c_X12_thing_ (l : Launch) (G : va_G) (cy : Nat → ClassId) (ad : rf → Nat) (d : Nat) (v : Int32) (u : Int32) (Mz : mM) (hIz : InvD Mz) : WP DD l G cy ad yX12_thing_ cX12_thing_ 3 (some .int) (d + 3) 0 [(0, vR (12, 0, 0)), (1, vI v), (2, vI u)] [] Mz (fun r M' => InvD M' ∧ FR (S_c_X12_thing_) Mz M' ∧ (True) ∧ SP_X12_thing_ v u Mz r M') := by
  have hFz : FR (S_c_X12_thing_) Mz Mz := FR.self
  refine w_iload_n dX12_thing__0 rfl 1 rfl ?_
  refine w_iconst (v := 0) dX12_thing__1 (by decide) ?_
  refine w_iconst (v := 4) dX12_thing__2 (by decide) ?_
  refine w_callS (as := [vI v, vI 0, vI 4]) (rest := []) (c_X12_within l G cy ad (d + 2) v 0 4 Mz hIz) kS_X12_within (by decide +kernel) (Nat.le_of_ble_eq_true rfl) m_1427 rfl rfl (by decide) (Nat.le_of_ble_eq_true rfl) dX12_thing__3 (fun r1_ M2_ q3_ => ?_)
  obtain ⟨rfl, h4_, hs5_⟩ := q3_
  rcases h4_ with ⟨rfl, h4_⟩ | ⟨rfl, h4_⟩
  · simp only [li_0, li_4] at h4_
    refine w_if_eq (tgt := 16) dX12_thing__6 (by decide) li_1 (fun h9 => (absurd h9 (by decide))) (fun h6_ => ?_)
    refine w_iload_n dX12_thing__9 rfl 2 rfl ?_
    refine w_callS (as := [vI u]) (rest := []) (c_X12_isCell l G cy ad (d + 1) u Mz hIz) kS_X12_isCell (by decide +kernel) (Nat.le_of_ble_eq_true rfl) m_1430 rfl rfl (by decide) (Nat.le_of_ble_eq_true rfl) dX12_thing__10 (fun r7_ M8_ q9_ => ?_)
    obtain ⟨rfl, h10_, hs11_⟩ := q9_
    rcases h10_ with ⟨rfl, h10_⟩ | ⟨rfl, h10_⟩
    · refine w_if_ne (tgt := 23) dX12_thing__13 (by decide) li_1 (fun h12_ => ?_) (fun h9 => (absurd h9 (by decide)))
      refine w_aload_n dX12_thing__23 rfl 0 rfl ?_
      refine w_iload_n dX12_thing__24 rfl 2 rfl ?_
      refine w_callV (as := [vI u]) (rest := []) (c_X12_isFree l G cy ad d u Mz hIz) kV_X12_isFree (by decide +kernel) (Nat.le_of_ble_eq_true rfl) m_1439 rfl rfl rfl ic_12 rfl rfl (by decide) (Nat.le_of_ble_eq_true rfl) dX12_thing__25 (fun r13_ M14_ q15_ => ?_)
      obtain ⟨rfl, h16_, hs17_⟩ := q15_
      refine w_if_ne (tgt := 38) dX12_thing__28 (by decide) (rfl : r13_.toInt = r13_.toInt) (fun h18_ => ?_) (fun h18_ => ?_)
      · refine w_aload_n dX12_thing__38 rfl 0 rfl ?_
        refine w_getR (c' := (50, 0, 0)) fl_RX12_9 rfl rfl ic_12 dX12_thing__39 rfl ?_
        refine w_iconst (v := 1) dX12_thing__42 (by decide) ?_
        refine w_ialdL 1 rfl rfl ic_50 li_1 (by decide) dX12_thing__43 (fun z19_ e20_ => ?_)
        have h21_ : 0 ≤ z19_.toInt ∧ z19_.toInt ≤ 40 := pn_1 hIz e20_
        refine w_bipush (v := 40) dX12_thing__44 (by decide) ?_
        refine w_icmp_ne (tgt := 58) dX12_thing__46 (by decide) (rfl : z19_.toInt = z19_.toInt) li_40 (fun h22_ => ?_) (fun h22_ => ?_)
        · refine w_aload_n dX12_thing__58 rfl 0 rfl ?_
          refine w_iload_n dX12_thing__59 rfl 1 rfl ?_
          refine w_iload_n dX12_thing__60 rfl 2 rfl ?_
          refine w_callV (as := [vI v, vI u]) (rest := []) (c_X12_comes l G cy ad (d + 1) v u Mz hIz h4_ h10_ (by rw [← e20_]; exact (lf_c_X12_thing__0 Mz z19_ e20_ h21_ h22_))) kV_X12_comes (by decide +kernel) (Nat.le_of_ble_eq_true rfl) m_1457 rfl rfl rfl ic_12 rfl rfl (by decide) (Nat.le_of_ble_eq_true rfl) dX12_thing__61 (fun r23_ M24_ q25_ => ?_)
          obtain ⟨hI27_, hF28_, h26_, hs30_⟩ := q25_
          have hF29_ := hFz.tr hF28_ (fun c k => (fun h => h.elim (fun h => (Or.inl ⟨h.1, h.2⟩)) (fun h => h.elim)))
          exact w_iret rfl dX12_thing__64 ⟨hI27_, hF29_, trivial, (Or.inl ⟨hs5_, h4_, (Or.inl ⟨hs11_, h10_, r13_, hs17_, h16_, (Or.inl ⟨h18_, z19_, e20_, h21_, (Or.inl ⟨h22_, M24_, hI27_, hF28_, r23_, hs30_, h26_, rfl, rfl⟩)⟩)⟩)⟩)⟩
        · refine w_aload_n dX12_thing__49 rfl 0 rfl ?_
          refine w_ldc (v := (-1000004)) m_1456 dX12_thing__50 ?_
          refine w_callV (as := [vI (-1000004)]) (rest := []) (c_X12_finding l G cy ad (d + 2) (-1000004) Mz hIz (by first | decide | (unfold vF; omega) | (unfold vRw; omega))) kV_X12_finding (by decide +kernel) (Nat.le_of_ble_eq_true rfl) m_1434 rfl rfl rfl ic_12 rfl rfl (by decide) (Nat.le_of_ble_eq_true rfl) dX12_thing__52 (fun r31_ M32_ q33_ => ?_)
          obtain ⟨hI35_, hF36_, h34_, hs38_⟩ := q33_
          have hF37_ := hFz.tr hF36_ (fun c k => (fun h => h.elim (fun h => (Or.inr (Or.inl ⟨h.1, h.2⟩))) (fun h => h.elim)))
          simp only [li_m1000004] at h34_
          refine w_goto (tgt := 64) dX12_thing__55 (by decide) ?_
          exact w_iret rfl dX12_thing__64 ⟨hI35_, hF37_, trivial, (Or.inl ⟨hs5_, h4_, (Or.inl ⟨hs11_, h10_, r13_, hs17_, h16_, (Or.inl ⟨h18_, z19_, e20_, h21_, (Or.inr ⟨h22_, M32_, hI35_, hF36_, r31_, hs38_, h34_, rfl, rfl⟩)⟩)⟩)⟩)⟩
      · refine w_aload_n dX12_thing__31 rfl 0 rfl ?_
        refine w_ldc (v := (-1000003)) m_1455 dX12_thing__32 ?_
        refine w_callV (as := [vI (-1000003)]) (rest := []) (c_X12_finding l G cy ad (d + 2) (-1000003) Mz hIz (by first | decide | (unfold vF; omega) | (unfold vRw; omega))) kV_X12_finding (by decide +kernel) (Nat.le_of_ble_eq_true rfl) m_1434 rfl rfl rfl ic_12 rfl rfl (by decide) (Nat.le_of_ble_eq_true rfl) dX12_thing__34 (fun r39_ M40_ q41_ => ?_)
        obtain ⟨hI43_, hF44_, h42_, hs46_⟩ := q41_
        have hF45_ := hFz.tr hF44_ (fun c k => (fun h => h.elim (fun h => (Or.inr (Or.inl ⟨h.1, h.2⟩))) (fun h => h.elim)))
        simp only [li_m1000003] at h42_
        exact w_iret rfl dX12_thing__37 ⟨hI43_, hF45_, trivial, (Or.inl ⟨hs5_, h4_, (Or.inl ⟨hs11_, h10_, r13_, hs17_, h16_, (Or.inr ⟨h18_, M40_, hI43_, hF44_, r39_, hs46_, h42_, rfl, rfl⟩)⟩)⟩)⟩
    · refine w_if_ne (tgt := 23) dX12_thing__13 (by decide) li_0 (fun h9 => (absurd h9 (by decide))) (fun h47_ => ?_)
      refine w_aload_n dX12_thing__16 rfl 0 rfl ?_
      refine w_ldc (v := (-1000001)) m_1433 dX12_thing__17 ?_
      refine w_callV (as := [vI (-1000001)]) (rest := []) (c_X12_finding l G cy ad (d + 2) (-1000001) Mz hIz (by first | decide | (unfold vF; omega) | (unfold vRw; omega))) kV_X12_finding (by decide +kernel) (Nat.le_of_ble_eq_true rfl) m_1434 rfl rfl rfl ic_12 rfl rfl (by decide) (Nat.le_of_ble_eq_true rfl) dX12_thing__19 (fun r48_ M49_ q50_ => ?_)
      obtain ⟨hI52_, hF53_, h51_, hs55_⟩ := q50_
      have hF54_ := hFz.tr hF53_ (fun c k => (fun h => h.elim (fun h => (Or.inr (Or.inl ⟨h.1, h.2⟩))) (fun h => h.elim)))
      simp only [li_m1000001] at h51_
      exact w_iret rfl dX12_thing__22 ⟨hI52_, hF54_, trivial, (Or.inl ⟨hs5_, h4_, (Or.inr ⟨hs11_, h10_, M49_, hI52_, hF53_, r48_, hs55_, h51_, rfl, rfl⟩)⟩)⟩
  · simp only [li_0, li_4] at h4_
    refine w_if_eq (tgt := 16) dX12_thing__6 (by decide) li_0 (fun h56_ => ?_) (fun h9 => (absurd h9 (by decide)))
    refine w_aload_n dX12_thing__16 rfl 0 rfl ?_
    refine w_ldc (v := (-1000001)) m_1433 dX12_thing__17 ?_
    refine w_callV (as := [vI (-1000001)]) (rest := []) (c_X12_finding l G cy ad (d + 2) (-1000001) Mz hIz (by first | decide | (unfold vF; omega) | (unfold vRw; omega))) kV_X12_finding (by decide +kernel) (Nat.le_of_ble_eq_true rfl) m_1434 rfl rfl rfl ic_12 rfl rfl (by decide) (Nat.le_of_ble_eq_true rfl) dX12_thing__19 (fun r57_ M58_ q59_ => ?_)
    obtain ⟨hI61_, hF62_, h60_, hs64_⟩ := q59_
    have hF63_ := hFz.tr hF62_ (fun c k => (fun h => h.elim (fun h => (Or.inr (Or.inl ⟨h.1, h.2⟩))) (fun h => h.elim)))
    simp only [li_m1000001] at h60_
    exact w_iret rfl dX12_thing__22 ⟨hI61_, hF63_, trivial, (Or.inr ⟨hs5_, h4_, M58_, hI61_, hF62_, r57_, hs64_, h60_, rfl, rfl⟩)⟩
def S_c_X12_thingIs : rf → Nat → Prop := fun c k => (c.1 = 53 ∧ c.2.1 = 0) ∨ False
def SP_X12_thingIs (v : Int32) (u : Int32) (Mz : mM) (r_ : Int32) (M_ : mM) : Prop := (((SP_is1 v Mz (1 : Int32)) ∧ (0 ≤ v.toInt ∧ v.toInt ≤ 39) ∧ (((SP_X12_within u 0 3 Mz (1 : Int32)) ∧ (0 ≤ u.toInt ∧ u.toInt ≤ 3) ∧ ∃ r13_ : Int32, (SP_X12_thing v Mz r13_) ∧ (r13_.toInt = 20 + 4 * v.toInt) ∧ ∃ z18_ : Int32, (z18_.toInt = r13_.toInt + u.toInt) ∧ ∃ j22_ : Nat, ((j22_ : Int) = z18_.toInt) ∧ ∃ z20_ : Int32, (z20_ = Mz.1 (50, 0, 0) j22_) ∧ r_ = z20_ ∧ M_ = Mz) ∨ ((SP_X12_within u 0 3 Mz (0 : Int32)) ∧ (¬ (0 ≤ u.toInt ∧ u.toInt ≤ 3)) ∧ ∃ M26_ : mM, (InvD M26_) ∧ (FR (S_c_X12_finding) Mz M26_) ∧ ∃ r25_ : Int32, (SP_X12_finding (-1000001) Mz r25_ M26_) ∧ (r25_.toInt = (-1000001)) ∧ r_ = r25_ ∧ M_ = M26_))) ∨ ((SP_is1 v Mz (0 : Int32)) ∧ ∃ M35_ : mM, (InvD M35_) ∧ (FR (S_c_X12_finding) Mz M35_) ∧ ∃ r34_ : Int32, (SP_X12_finding (-1000001) Mz r34_ M35_) ∧ (r34_.toInt = (-1000001)) ∧ r_ = r34_ ∧ M_ = M35_))
theorem lf_c_X12_thingIs_0  (v : Int32) (h4_ : 0 ≤ v.toInt ∧ v.toInt ≤ 39) : -1 ≤ v.toInt ∧ v.toInt ≤ 39 := by have r_v := rngI v; omega
theorem lf_c_X12_thingIs_1  (v : Int32) (u : Int32) (r13_ : Int32) (h4_ : 0 ≤ v.toInt ∧ v.toInt ≤ 39) (h10_ : 0 ≤ u.toInt ∧ u.toInt ≤ 3) (h16_ : r13_.toInt = 20 + 4 * v.toInt) : -2147483648 ≤ r13_.toInt + u.toInt ∧ r13_.toInt + u.toInt < 2147483648 := by have r_v := rngI v; have r_u := rngI u; have r_r13_ := rngI r13_; omega
theorem lf_c_X12_thingIs_2  (v : Int32) (u : Int32) (r13_ : Int32) (z18_ : Int32) (h4_ : 0 ≤ v.toInt ∧ v.toInt ≤ 39) (h10_ : 0 ≤ u.toInt ∧ u.toInt ≤ 3) (h16_ : r13_.toInt = 20 + 4 * v.toInt) (h19_ : z18_.toInt = r13_.toInt + u.toInt) : 0 ≤ z18_.toInt ∧ z18_.toInt < ((3567 : Nat) : Int) := by have r_v := rngI v; have r_u := rngI u; have r_r13_ := rngI r13_; have r_z18_ := rngI z18_; omega
set_option maxHeartbeats 4000000 in
set_option maxRecDepth 100000 in
theorem c_X12_thingIs (l : Launch) (G : va_G) (cy : Nat → ClassId) (ad : rf → Nat) (d : Nat) (v : Int32) (u : Int32) (Mz : mM) (hIz : InvD Mz) : WP DD l G cy ad yX12_thingIs cX12_thingIs 3 (some .int) (d + 2) 0 [(0, vR (12, 0, 0)), (1, vI v), (2, vI u)] [] Mz (fun r M' => InvD M' ∧ FR (S_c_X12_thingIs) Mz M' ∧ (True) ∧ SP_X12_thingIs v u Mz r M') := by
  have hFz : FR (S_c_X12_thingIs) Mz Mz := FR.self
  refine w_aload_n dX12_thingIs_0 rfl 0 rfl ?_
  refine w_iload_n dX12_thingIs_1 rfl 1 rfl ?_
  refine w_iconst (v := 1) dX12_thingIs_2 (by decide) ?_
  refine w_callV (as := [vI v, vI 1]) (rest := []) (c_is1 l G cy ad d v Mz hIz) kV_X12_is (by decide +kernel) (Nat.le_of_ble_eq_true rfl) m_1465 rfl rfl rfl ic_12 rfl rfl (by decide) (Nat.le_of_ble_eq_true rfl) dX12_thingIs_3 (fun r1_ M2_ q3_ => ?_)
  obtain ⟨rfl, h4_, hs5_⟩ := q3_
  rcases h4_ with ⟨rfl, h4_⟩ | rfl
  · refine w_if_eq (tgt := 33) dX12_thingIs_6 (by decide) li_1 (fun h9 => (absurd h9 (by decide))) (fun h6_ => ?_)
    refine w_iload_n dX12_thingIs_9 rfl 2 rfl ?_
    refine w_iconst (v := 0) dX12_thingIs_10 (by decide) ?_
    refine w_iconst (v := 3) dX12_thingIs_11 (by decide) ?_
    refine w_callS (as := [vI u, vI 0, vI 3]) (rest := []) (c_X12_within l G cy ad (d + 1) u 0 3 Mz hIz) kS_X12_within (by decide +kernel) (Nat.le_of_ble_eq_true rfl) m_1427 rfl rfl (by decide) (Nat.le_of_ble_eq_true rfl) dX12_thingIs_12 (fun r7_ M8_ q9_ => ?_)
    obtain ⟨rfl, h10_, hs11_⟩ := q9_
    rcases h10_ with ⟨rfl, h10_⟩ | ⟨rfl, h10_⟩
    · simp only [li_0, li_3] at h10_
      refine w_if_eq (tgt := 33) dX12_thingIs_15 (by decide) li_1 (fun h9 => (absurd h9 (by decide))) (fun h12_ => ?_)
      refine w_aload_n dX12_thingIs_18 rfl 0 rfl ?_
      refine w_getR (c' := (50, 0, 0)) fl_RX12_9 rfl rfl ic_12 dX12_thingIs_19 rfl ?_
      refine w_aload_n dX12_thingIs_22 rfl 0 rfl ?_
      refine w_iload_n dX12_thingIs_23 rfl 1 rfl ?_
      refine w_callV (as := [vI v]) (rest := [vR (50, 0, 0)]) (c_X12_thing l G cy ad (d + 1) v Mz hIz (lf_c_X12_thingIs_0 v h4_)) kV_X12_thing (by decide +kernel) (Nat.le_of_ble_eq_true rfl) m_1447 rfl rfl rfl ic_12 rfl rfl (by decide) (Nat.le_of_ble_eq_true rfl) dX12_thingIs_24 (fun r13_ M14_ q15_ => ?_)
      obtain ⟨rfl, h16_, hs17_⟩ := q15_
      refine w_iload_n dX12_thingIs_27 rfl 2 rfl ?_
      refine w_iaddB dX12_thingIs_28 (rfl : r13_.toInt = r13_.toInt) (rfl : u.toInt = u.toInt) (lf_c_X12_thingIs_1 v u r13_ h4_ h10_ h16_) (fun z18_ h19_ => ?_)
      refine w_iald rfl rfl ic_50 (rfl : z18_.toInt = z18_.toInt) (lf_c_X12_thingIs_2 v u r13_ z18_ h4_ h10_ h16_ h19_) dX12_thingIs_29 (fun j22_ h23_ z20_ e21_ => ?_)
      refine w_goto (tgt := 39) dX12_thingIs_30 (by decide) ?_
      exact w_iret rfl dX12_thingIs_39 ⟨hIz, hFz, trivial, (Or.inl ⟨hs5_, h4_, (Or.inl ⟨hs11_, h10_, r13_, hs17_, h16_, z18_, h19_, j22_, h23_, z20_, e21_, rfl, rfl⟩)⟩)⟩
    · simp only [li_0, li_3] at h10_
      refine w_if_eq (tgt := 33) dX12_thingIs_15 (by decide) li_0 (fun h24_ => ?_) (fun h9 => (absurd h9 (by decide)))
      refine w_aload_n dX12_thingIs_33 rfl 0 rfl ?_
      refine w_ldc (v := (-1000001)) m_1433 dX12_thingIs_34 ?_
      refine w_callV (as := [vI (-1000001)]) (rest := []) (c_X12_finding l G cy ad (d + 1) (-1000001) Mz hIz (by first | decide | (unfold vF; omega) | (unfold vRw; omega))) kV_X12_finding (by decide +kernel) (Nat.le_of_ble_eq_true rfl) m_1434 rfl rfl rfl ic_12 rfl rfl (by decide) (Nat.le_of_ble_eq_true rfl) dX12_thingIs_36 (fun r25_ M26_ q27_ => ?_)
      obtain ⟨hI29_, hF30_, h28_, hs32_⟩ := q27_
      have hF31_ := hFz.tr hF30_ (fun c k => (fun h => h.elim (fun h => (Or.inl ⟨h.1, h.2⟩)) (fun h => h.elim)))
      simp only [li_m1000001] at h28_
      exact w_iret rfl dX12_thingIs_39 ⟨hI29_, hF31_, trivial, (Or.inl ⟨hs5_, h4_, (Or.inr ⟨hs11_, h10_, M26_, hI29_, hF30_, r25_, hs32_, h28_, rfl, rfl⟩)⟩)⟩
  · refine w_if_eq (tgt := 33) dX12_thingIs_6 (by decide) li_0 (fun h33_ => ?_) (fun h9 => (absurd h9 (by decide)))
    refine w_aload_n dX12_thingIs_33 rfl 0 rfl ?_
    refine w_ldc (v := (-1000001)) m_1433 dX12_thingIs_34 ?_
    refine w_callV (as := [vI (-1000001)]) (rest := []) (c_X12_finding l G cy ad (d + 1) (-1000001) Mz hIz (by first | decide | (unfold vF; omega) | (unfold vRw; omega))) kV_X12_finding (by decide +kernel) (Nat.le_of_ble_eq_true rfl) m_1434 rfl rfl rfl ic_12 rfl rfl (by decide) (Nat.le_of_ble_eq_true rfl) dX12_thingIs_36 (fun r34_ M35_ q36_ => ?_)
    obtain ⟨hI38_, hF39_, h37_, hs41_⟩ := q36_
    have hF40_ := hFz.tr hF39_ (fun c k => (fun h => h.elim (fun h => (Or.inl ⟨h.1, h.2⟩)) (fun h => h.elim)))
    simp only [li_m1000001] at h37_
    exact w_iret rfl dX12_thingIs_39 ⟨hI38_, hF40_, trivial, (Or.inr ⟨hs5_, M35_, hI38_, hF39_, r34_, hs41_, h37_, rfl, rfl⟩)⟩
def S_c_X12_moves : rf → Nat → Prop := fun c k => (c.1 = 50 ∧ c.2.1 = 0) ∨ (c.1 = 53 ∧ c.2.1 = 0) ∨ False
def SP_X12_moves (v : Int32) (u : Int32) (t : Int32) (Mz : mM) (r_ : Int32) (M_ : mM) : Prop := (((SP_is1 v Mz (1 : Int32)) ∧ (0 ≤ v.toInt ∧ v.toInt ≤ 39) ∧ (((SP_X12_isSide u Mz (1 : Int32)) ∧ (0 ≤ u.toInt ∧ u.toInt ≤ 7) ∧ (((SP_X12_within t 0 20 Mz (1 : Int32)) ∧ (0 ≤ t.toInt ∧ t.toInt ≤ 20) ∧ ∃ r19_ : Int32, (SP_X12_thing v Mz r19_) ∧ (r19_.toInt = 20 + 4 * v.toInt) ∧ ∃ z24_ : Int32, (z24_.toInt = r19_.toInt + 0) ∧ ∃ j28_ : Nat, ((j28_ : Int) = z24_.toInt) ∧ ∃ z26_ : Int32, (z26_ = Mz.1 (50, 0, 0) j28_) ∧ (0 ≤ z26_.toInt ∧ z26_.toInt ≤ 4) ∧ (((3 ≤ z26_.toInt) ∧ ∃ r32_ : Int32, (SP_X12_thing v Mz r32_) ∧ (r32_.toInt = 20 + 4 * v.toInt) ∧ ∃ z37_ : Int32, (z37_.toInt = r32_.toInt + 1) ∧ ∃ j41_ : Nat, ((j41_ : Int) = z37_.toInt) ∧ ∃ z39_ : Int32, (z39_ = Mz.1 (50, 0, 0) j41_) ∧ (-1 ≤ z39_.toInt ∧ z39_.toInt ≤ 191) ∧ (((0 ≤ z39_.toInt) ∧ ∃ r45_ : Int32, (SP_X12_thing v Mz r45_) ∧ (r45_.toInt = 20 + 4 * v.toInt) ∧ ∃ z50_ : Int32, (z50_.toInt = r45_.toInt + 2) ∧ ∃ j54_ : Nat, ((j54_ : Int) = z50_.toInt) ∧ ∃ M52_ : mM, (M52_ = up Mz (50, 0, 0) j54_ u) ∧ (InvD M52_) ∧ ∃ r58_ : Int32, (SP_X12_thing v M52_ r58_) ∧ (r58_.toInt = 20 + 4 * v.toInt) ∧ ∃ z63_ : Int32, (z63_.toInt = r58_.toInt + 3) ∧ ∃ j67_ : Nat, ((j67_ : Int) = z63_.toInt) ∧ ∃ M65_ : mM, (M65_ = up M52_ (50, 0, 0) j67_ t) ∧ r_ = 1 ∧ M_ = M65_) ∨ ((z39_.toInt < 0) ∧ ∃ M72_ : mM, (InvD M72_) ∧ (FR (S_c_X12_finding) Mz M72_) ∧ ∃ r71_ : Int32, (SP_X12_finding (-1000003) Mz r71_ M72_) ∧ (r71_.toInt = (-1000003)) ∧ r_ = r71_ ∧ M_ = M72_))) ∨ ((z26_.toInt < 3) ∧ ∃ M80_ : mM, (InvD M80_) ∧ (FR (S_c_X12_finding) Mz M80_) ∧ ∃ r79_ : Int32, (SP_X12_finding (-1000005) Mz r79_ M80_) ∧ (r79_.toInt = (-1000005)) ∧ r_ = r79_ ∧ M_ = M80_))) ∨ ((SP_X12_within t 0 20 Mz (0 : Int32)) ∧ (¬ (0 ≤ t.toInt ∧ t.toInt ≤ 20)) ∧ ∃ M89_ : mM, (InvD M89_) ∧ (FR (S_c_X12_finding) Mz M89_) ∧ ∃ r88_ : Int32, (SP_X12_finding (-1000001) Mz r88_ M89_) ∧ (r88_.toInt = (-1000001)) ∧ r_ = r88_ ∧ M_ = M89_))) ∨ ((SP_X12_isSide u Mz (0 : Int32)) ∧ (¬ (0 ≤ u.toInt ∧ u.toInt ≤ 7)) ∧ ∃ M98_ : mM, (InvD M98_) ∧ (FR (S_c_X12_finding) Mz M98_) ∧ ∃ r97_ : Int32, (SP_X12_finding (-1000001) Mz r97_ M98_) ∧ (r97_.toInt = (-1000001)) ∧ r_ = r97_ ∧ M_ = M98_))) ∨ ((SP_is1 v Mz (0 : Int32)) ∧ ∃ M107_ : mM, (InvD M107_) ∧ (FR (S_c_X12_finding) Mz M107_) ∧ ∃ r106_ : Int32, (SP_X12_finding (-1000001) Mz r106_ M107_) ∧ (r106_.toInt = (-1000001)) ∧ r_ = r106_ ∧ M_ = M107_))
theorem lf_c_X12_moves_0  (v : Int32) (h4_ : 0 ≤ v.toInt ∧ v.toInt ≤ 39) : -1 ≤ v.toInt ∧ v.toInt ≤ 39 := by have r_v := rngI v; omega
theorem lf_c_X12_moves_1  (v : Int32) (r19_ : Int32) (h4_ : 0 ≤ v.toInt ∧ v.toInt ≤ 39) (h22_ : r19_.toInt = 20 + 4 * v.toInt) : -2147483648 ≤ r19_.toInt + 0 ∧ r19_.toInt + 0 < 2147483648 := by have r_v := rngI v; have r_r19_ := rngI r19_; omega
theorem lf_c_X12_moves_2  (v : Int32) (r19_ : Int32) (z24_ : Int32) (h4_ : 0 ≤ v.toInt ∧ v.toInt ≤ 39) (h22_ : r19_.toInt = 20 + 4 * v.toInt) (h25_ : z24_.toInt = r19_.toInt + 0) : 0 ≤ z24_.toInt ∧ z24_.toInt < ((3567 : Nat) : Int) := by have r_v := rngI v; have r_r19_ := rngI r19_; have r_z24_ := rngI z24_; omega
theorem lf_c_X12_moves_3 (Mz : mM) (v : Int32) (r19_ : Int32) (z24_ : Int32) (j28_ : Nat) (z26_ : Int32) (h4_ : 0 ≤ v.toInt ∧ v.toInt ≤ 39) (h22_ : r19_.toInt = 20 + 4 * v.toInt) (h25_ : z24_.toInt = r19_.toInt + 0) (h29_ : (j28_ : Int) = z24_.toInt) (e27_ : z26_ = Mz.1 (50, 0, 0) j28_) : 20 ≤ j28_ ∧ j28_ < 180 ∧ j28_ % 4 = 0 := by have r_v := rngI v; have r_r19_ := rngI r19_; have r_z24_ := rngI z24_; have r_z26_ := rngI z26_; subst e27_; omega
theorem lf_c_X12_moves_4 (Mz : mM) (v : Int32) (r19_ : Int32) (z24_ : Int32) (j28_ : Nat) (z26_ : Int32) (h4_ : 0 ≤ v.toInt ∧ v.toInt ≤ 39) (h22_ : r19_.toInt = 20 + 4 * v.toInt) (h25_ : z24_.toInt = r19_.toInt + 0) (h29_ : (j28_ : Int) = z24_.toInt) (e27_ : z26_ = Mz.1 (50, 0, 0) j28_) (h30_ : 0 ≤ z26_.toInt ∧ z26_.toInt ≤ 4) (h31_ : 3 ≤ z26_.toInt) : -1 ≤ v.toInt ∧ v.toInt ≤ 39 := by have r_v := rngI v; have r_r19_ := rngI r19_; have r_z24_ := rngI z24_; have r_z26_ := rngI z26_; subst e27_; omega
theorem lf_c_X12_moves_5 (Mz : mM) (v : Int32) (r19_ : Int32) (z24_ : Int32) (j28_ : Nat) (z26_ : Int32) (r32_ : Int32) (h4_ : 0 ≤ v.toInt ∧ v.toInt ≤ 39) (h22_ : r19_.toInt = 20 + 4 * v.toInt) (h25_ : z24_.toInt = r19_.toInt + 0) (h29_ : (j28_ : Int) = z24_.toInt) (e27_ : z26_ = Mz.1 (50, 0, 0) j28_) (h30_ : 0 ≤ z26_.toInt ∧ z26_.toInt ≤ 4) (h31_ : 3 ≤ z26_.toInt) (h35_ : r32_.toInt = 20 + 4 * v.toInt) : -2147483648 ≤ r32_.toInt + 1 ∧ r32_.toInt + 1 < 2147483648 := by have r_v := rngI v; have r_r19_ := rngI r19_; have r_z24_ := rngI z24_; have r_z26_ := rngI z26_; have r_r32_ := rngI r32_; subst e27_; omega
theorem lf_c_X12_moves_6 (Mz : mM) (v : Int32) (r19_ : Int32) (z24_ : Int32) (j28_ : Nat) (z26_ : Int32) (r32_ : Int32) (z37_ : Int32) (h4_ : 0 ≤ v.toInt ∧ v.toInt ≤ 39) (h22_ : r19_.toInt = 20 + 4 * v.toInt) (h25_ : z24_.toInt = r19_.toInt + 0) (h29_ : (j28_ : Int) = z24_.toInt) (e27_ : z26_ = Mz.1 (50, 0, 0) j28_) (h30_ : 0 ≤ z26_.toInt ∧ z26_.toInt ≤ 4) (h31_ : 3 ≤ z26_.toInt) (h35_ : r32_.toInt = 20 + 4 * v.toInt) (h38_ : z37_.toInt = r32_.toInt + 1) : 0 ≤ z37_.toInt ∧ z37_.toInt < ((3567 : Nat) : Int) := by have r_v := rngI v; have r_r19_ := rngI r19_; have r_z24_ := rngI z24_; have r_z26_ := rngI z26_; have r_r32_ := rngI r32_; have r_z37_ := rngI z37_; subst e27_; omega
theorem lf_c_X12_moves_7 (Mz : mM) (v : Int32) (r19_ : Int32) (z24_ : Int32) (j28_ : Nat) (z26_ : Int32) (r32_ : Int32) (z37_ : Int32) (j41_ : Nat) (z39_ : Int32) (h4_ : 0 ≤ v.toInt ∧ v.toInt ≤ 39) (h22_ : r19_.toInt = 20 + 4 * v.toInt) (h25_ : z24_.toInt = r19_.toInt + 0) (h29_ : (j28_ : Int) = z24_.toInt) (e27_ : z26_ = Mz.1 (50, 0, 0) j28_) (h30_ : 0 ≤ z26_.toInt ∧ z26_.toInt ≤ 4) (h31_ : 3 ≤ z26_.toInt) (h35_ : r32_.toInt = 20 + 4 * v.toInt) (h38_ : z37_.toInt = r32_.toInt + 1) (h42_ : (j41_ : Int) = z37_.toInt) (e40_ : z39_ = Mz.1 (50, 0, 0) j41_) : 20 ≤ j41_ ∧ j41_ < 180 ∧ j41_ % 4 = 1 := by have r_v := rngI v; have r_r19_ := rngI r19_; have r_z24_ := rngI z24_; have r_z26_ := rngI z26_; have r_r32_ := rngI r32_; have r_z37_ := rngI z37_; have r_z39_ := rngI z39_; subst e27_; subst e40_; omega
theorem lf_c_X12_moves_8 (Mz : mM) (v : Int32) (r19_ : Int32) (z24_ : Int32) (j28_ : Nat) (z26_ : Int32) (r32_ : Int32) (z37_ : Int32) (j41_ : Nat) (z39_ : Int32) (h4_ : 0 ≤ v.toInt ∧ v.toInt ≤ 39) (h22_ : r19_.toInt = 20 + 4 * v.toInt) (h25_ : z24_.toInt = r19_.toInt + 0) (h29_ : (j28_ : Int) = z24_.toInt) (e27_ : z26_ = Mz.1 (50, 0, 0) j28_) (h30_ : 0 ≤ z26_.toInt ∧ z26_.toInt ≤ 4) (h31_ : 3 ≤ z26_.toInt) (h35_ : r32_.toInt = 20 + 4 * v.toInt) (h38_ : z37_.toInt = r32_.toInt + 1) (h42_ : (j41_ : Int) = z37_.toInt) (e40_ : z39_ = Mz.1 (50, 0, 0) j41_) (h43_ : -1 ≤ z39_.toInt ∧ z39_.toInt ≤ 191) (h44_ : 0 ≤ z39_.toInt) : -1 ≤ v.toInt ∧ v.toInt ≤ 39 := by have r_v := rngI v; have r_r19_ := rngI r19_; have r_z24_ := rngI z24_; have r_z26_ := rngI z26_; have r_r32_ := rngI r32_; have r_z37_ := rngI z37_; have r_z39_ := rngI z39_; subst e27_; subst e40_; omega
theorem lf_c_X12_moves_9 (Mz : mM) (v : Int32) (r19_ : Int32) (z24_ : Int32) (j28_ : Nat) (z26_ : Int32) (r32_ : Int32) (z37_ : Int32) (j41_ : Nat) (z39_ : Int32) (r45_ : Int32) (h4_ : 0 ≤ v.toInt ∧ v.toInt ≤ 39) (h22_ : r19_.toInt = 20 + 4 * v.toInt) (h25_ : z24_.toInt = r19_.toInt + 0) (h29_ : (j28_ : Int) = z24_.toInt) (e27_ : z26_ = Mz.1 (50, 0, 0) j28_) (h30_ : 0 ≤ z26_.toInt ∧ z26_.toInt ≤ 4) (h31_ : 3 ≤ z26_.toInt) (h35_ : r32_.toInt = 20 + 4 * v.toInt) (h38_ : z37_.toInt = r32_.toInt + 1) (h42_ : (j41_ : Int) = z37_.toInt) (e40_ : z39_ = Mz.1 (50, 0, 0) j41_) (h43_ : -1 ≤ z39_.toInt ∧ z39_.toInt ≤ 191) (h44_ : 0 ≤ z39_.toInt) (h48_ : r45_.toInt = 20 + 4 * v.toInt) : -2147483648 ≤ r45_.toInt + 2 ∧ r45_.toInt + 2 < 2147483648 := by have r_v := rngI v; have r_r19_ := rngI r19_; have r_z24_ := rngI z24_; have r_z26_ := rngI z26_; have r_r32_ := rngI r32_; have r_z37_ := rngI z37_; have r_z39_ := rngI z39_; have r_r45_ := rngI r45_; subst e27_; subst e40_; omega
theorem lf_c_X12_moves_10 (Mz : mM) (v : Int32) (r19_ : Int32) (z24_ : Int32) (j28_ : Nat) (z26_ : Int32) (r32_ : Int32) (z37_ : Int32) (j41_ : Nat) (z39_ : Int32) (r45_ : Int32) (z50_ : Int32) (h4_ : 0 ≤ v.toInt ∧ v.toInt ≤ 39) (h22_ : r19_.toInt = 20 + 4 * v.toInt) (h25_ : z24_.toInt = r19_.toInt + 0) (h29_ : (j28_ : Int) = z24_.toInt) (e27_ : z26_ = Mz.1 (50, 0, 0) j28_) (h30_ : 0 ≤ z26_.toInt ∧ z26_.toInt ≤ 4) (h31_ : 3 ≤ z26_.toInt) (h35_ : r32_.toInt = 20 + 4 * v.toInt) (h38_ : z37_.toInt = r32_.toInt + 1) (h42_ : (j41_ : Int) = z37_.toInt) (e40_ : z39_ = Mz.1 (50, 0, 0) j41_) (h43_ : -1 ≤ z39_.toInt ∧ z39_.toInt ≤ 191) (h44_ : 0 ≤ z39_.toInt) (h48_ : r45_.toInt = 20 + 4 * v.toInt) (h51_ : z50_.toInt = r45_.toInt + 2) : 0 ≤ z50_.toInt ∧ z50_.toInt < ((3567 : Nat) : Int) := by have r_v := rngI v; have r_r19_ := rngI r19_; have r_z24_ := rngI z24_; have r_z26_ := rngI z26_; have r_r32_ := rngI r32_; have r_z37_ := rngI z37_; have r_z39_ := rngI z39_; have r_r45_ := rngI r45_; have r_z50_ := rngI z50_; subst e27_; subst e40_; omega
theorem lf_c_X12_moves_11 (M52_ : mM) (Mz : mM) (v : Int32) (u : Int32) (r19_ : Int32) (z24_ : Int32) (j28_ : Nat) (z26_ : Int32) (r32_ : Int32) (z37_ : Int32) (j41_ : Nat) (z39_ : Int32) (r45_ : Int32) (z50_ : Int32) (j54_ : Nat) (h4_ : 0 ≤ v.toInt ∧ v.toInt ≤ 39) (h10_ : 0 ≤ u.toInt ∧ u.toInt ≤ 7) (h22_ : r19_.toInt = 20 + 4 * v.toInt) (h25_ : z24_.toInt = r19_.toInt + 0) (h29_ : (j28_ : Int) = z24_.toInt) (e27_ : z26_ = Mz.1 (50, 0, 0) j28_) (h30_ : 0 ≤ z26_.toInt ∧ z26_.toInt ≤ 4) (h31_ : 3 ≤ z26_.toInt) (h35_ : r32_.toInt = 20 + 4 * v.toInt) (h38_ : z37_.toInt = r32_.toInt + 1) (h42_ : (j41_ : Int) = z37_.toInt) (e40_ : z39_ = Mz.1 (50, 0, 0) j41_) (h43_ : -1 ≤ z39_.toInt ∧ z39_.toInt ≤ 191) (h44_ : 0 ≤ z39_.toInt) (h48_ : r45_.toInt = 20 + 4 * v.toInt) (h51_ : z50_.toInt = r45_.toInt + 2) (h55_ : (j54_ : Int) = z50_.toInt) (hM53_ : M52_ = up Mz (50, 0, 0) j54_ u) : PN j54_ u ∧ (j54_ < 345 ∨ 493 < j54_) := by have r_v := rngI v; have r_u := rngI u; have r_r19_ := rngI r19_; have r_z24_ := rngI z24_; have r_z26_ := rngI z26_; have r_r32_ := rngI r32_; have r_z37_ := rngI z37_; have r_z39_ := rngI z39_; have r_r45_ := rngI r45_; have r_z50_ := rngI z50_; subst e27_; subst e40_; unfold PN; omega
theorem lf_c_X12_moves_12 (M52_ : mM) (Mz : mM) (v : Int32) (u : Int32) (r19_ : Int32) (z24_ : Int32) (j28_ : Nat) (z26_ : Int32) (r32_ : Int32) (z37_ : Int32) (j41_ : Nat) (z39_ : Int32) (r45_ : Int32) (z50_ : Int32) (j54_ : Nat) (h4_ : 0 ≤ v.toInt ∧ v.toInt ≤ 39) (h10_ : 0 ≤ u.toInt ∧ u.toInt ≤ 7) (h22_ : r19_.toInt = 20 + 4 * v.toInt) (h25_ : z24_.toInt = r19_.toInt + 0) (h29_ : (j28_ : Int) = z24_.toInt) (e27_ : z26_ = Mz.1 (50, 0, 0) j28_) (h30_ : 0 ≤ z26_.toInt ∧ z26_.toInt ≤ 4) (h31_ : 3 ≤ z26_.toInt) (h35_ : r32_.toInt = 20 + 4 * v.toInt) (h38_ : z37_.toInt = r32_.toInt + 1) (h42_ : (j41_ : Int) = z37_.toInt) (e40_ : z39_ = Mz.1 (50, 0, 0) j41_) (h43_ : -1 ≤ z39_.toInt ∧ z39_.toInt ≤ 191) (h44_ : 0 ≤ z39_.toInt) (h48_ : r45_.toInt = 20 + 4 * v.toInt) (h51_ : z50_.toInt = r45_.toInt + 2) (h55_ : (j54_ : Int) = z50_.toInt) (hM53_ : M52_ = up Mz (50, 0, 0) j54_ u) : -1 ≤ v.toInt ∧ v.toInt ≤ 39 := by have r_v := rngI v; have r_u := rngI u; have r_r19_ := rngI r19_; have r_z24_ := rngI z24_; have r_z26_ := rngI z26_; have r_r32_ := rngI r32_; have r_z37_ := rngI z37_; have r_z39_ := rngI z39_; have r_r45_ := rngI r45_; have r_z50_ := rngI z50_; subst e27_; subst e40_; omega
theorem lf_c_X12_moves_13 (M52_ : mM) (Mz : mM) (v : Int32) (u : Int32) (r19_ : Int32) (z24_ : Int32) (j28_ : Nat) (z26_ : Int32) (r32_ : Int32) (z37_ : Int32) (j41_ : Nat) (z39_ : Int32) (r45_ : Int32) (z50_ : Int32) (j54_ : Nat) (r58_ : Int32) (h4_ : 0 ≤ v.toInt ∧ v.toInt ≤ 39) (h10_ : 0 ≤ u.toInt ∧ u.toInt ≤ 7) (h22_ : r19_.toInt = 20 + 4 * v.toInt) (h25_ : z24_.toInt = r19_.toInt + 0) (h29_ : (j28_ : Int) = z24_.toInt) (e27_ : z26_ = Mz.1 (50, 0, 0) j28_) (h30_ : 0 ≤ z26_.toInt ∧ z26_.toInt ≤ 4) (h31_ : 3 ≤ z26_.toInt) (h35_ : r32_.toInt = 20 + 4 * v.toInt) (h38_ : z37_.toInt = r32_.toInt + 1) (h42_ : (j41_ : Int) = z37_.toInt) (e40_ : z39_ = Mz.1 (50, 0, 0) j41_) (h43_ : -1 ≤ z39_.toInt ∧ z39_.toInt ≤ 191) (h44_ : 0 ≤ z39_.toInt) (h48_ : r45_.toInt = 20 + 4 * v.toInt) (h51_ : z50_.toInt = r45_.toInt + 2) (h55_ : (j54_ : Int) = z50_.toInt) (hM53_ : M52_ = up Mz (50, 0, 0) j54_ u) (h61_ : r58_.toInt = 20 + 4 * v.toInt) : -2147483648 ≤ r58_.toInt + 3 ∧ r58_.toInt + 3 < 2147483648 := by have r_v := rngI v; have r_u := rngI u; have r_r19_ := rngI r19_; have r_z24_ := rngI z24_; have r_z26_ := rngI z26_; have r_r32_ := rngI r32_; have r_z37_ := rngI z37_; have r_z39_ := rngI z39_; have r_r45_ := rngI r45_; have r_z50_ := rngI z50_; have r_r58_ := rngI r58_; subst e27_; subst e40_; omega
theorem lf_c_X12_moves_14 (M52_ : mM) (Mz : mM) (v : Int32) (u : Int32) (r19_ : Int32) (z24_ : Int32) (j28_ : Nat) (z26_ : Int32) (r32_ : Int32) (z37_ : Int32) (j41_ : Nat) (z39_ : Int32) (r45_ : Int32) (z50_ : Int32) (j54_ : Nat) (r58_ : Int32) (z63_ : Int32) (h4_ : 0 ≤ v.toInt ∧ v.toInt ≤ 39) (h10_ : 0 ≤ u.toInt ∧ u.toInt ≤ 7) (h22_ : r19_.toInt = 20 + 4 * v.toInt) (h25_ : z24_.toInt = r19_.toInt + 0) (h29_ : (j28_ : Int) = z24_.toInt) (e27_ : z26_ = Mz.1 (50, 0, 0) j28_) (h30_ : 0 ≤ z26_.toInt ∧ z26_.toInt ≤ 4) (h31_ : 3 ≤ z26_.toInt) (h35_ : r32_.toInt = 20 + 4 * v.toInt) (h38_ : z37_.toInt = r32_.toInt + 1) (h42_ : (j41_ : Int) = z37_.toInt) (e40_ : z39_ = Mz.1 (50, 0, 0) j41_) (h43_ : -1 ≤ z39_.toInt ∧ z39_.toInt ≤ 191) (h44_ : 0 ≤ z39_.toInt) (h48_ : r45_.toInt = 20 + 4 * v.toInt) (h51_ : z50_.toInt = r45_.toInt + 2) (h55_ : (j54_ : Int) = z50_.toInt) (hM53_ : M52_ = up Mz (50, 0, 0) j54_ u) (h61_ : r58_.toInt = 20 + 4 * v.toInt) (h64_ : z63_.toInt = r58_.toInt + 3) : 0 ≤ z63_.toInt ∧ z63_.toInt < ((3567 : Nat) : Int) := by have r_v := rngI v; have r_u := rngI u; have r_r19_ := rngI r19_; have r_z24_ := rngI z24_; have r_z26_ := rngI z26_; have r_r32_ := rngI r32_; have r_z37_ := rngI z37_; have r_z39_ := rngI z39_; have r_r45_ := rngI r45_; have r_z50_ := rngI z50_; have r_r58_ := rngI r58_; have r_z63_ := rngI z63_; subst e27_; subst e40_; omega
theorem lf_c_X12_moves_15 (M52_ : mM) (M65_ : mM) (Mz : mM) (v : Int32) (u : Int32) (t : Int32) (r19_ : Int32) (z24_ : Int32) (j28_ : Nat) (z26_ : Int32) (r32_ : Int32) (z37_ : Int32) (j41_ : Nat) (z39_ : Int32) (r45_ : Int32) (z50_ : Int32) (j54_ : Nat) (r58_ : Int32) (z63_ : Int32) (j67_ : Nat) (h4_ : 0 ≤ v.toInt ∧ v.toInt ≤ 39) (h10_ : 0 ≤ u.toInt ∧ u.toInt ≤ 7) (h16_ : 0 ≤ t.toInt ∧ t.toInt ≤ 20) (h22_ : r19_.toInt = 20 + 4 * v.toInt) (h25_ : z24_.toInt = r19_.toInt + 0) (h29_ : (j28_ : Int) = z24_.toInt) (e27_ : z26_ = Mz.1 (50, 0, 0) j28_) (h30_ : 0 ≤ z26_.toInt ∧ z26_.toInt ≤ 4) (h31_ : 3 ≤ z26_.toInt) (h35_ : r32_.toInt = 20 + 4 * v.toInt) (h38_ : z37_.toInt = r32_.toInt + 1) (h42_ : (j41_ : Int) = z37_.toInt) (e40_ : z39_ = Mz.1 (50, 0, 0) j41_) (h43_ : -1 ≤ z39_.toInt ∧ z39_.toInt ≤ 191) (h44_ : 0 ≤ z39_.toInt) (h48_ : r45_.toInt = 20 + 4 * v.toInt) (h51_ : z50_.toInt = r45_.toInt + 2) (h55_ : (j54_ : Int) = z50_.toInt) (hM53_ : M52_ = up Mz (50, 0, 0) j54_ u) (h61_ : r58_.toInt = 20 + 4 * v.toInt) (h64_ : z63_.toInt = r58_.toInt + 3) (h68_ : (j67_ : Int) = z63_.toInt) (hM66_ : M65_ = up M52_ (50, 0, 0) j67_ t) : PN j67_ t ∧ (j67_ < 345 ∨ 493 < j67_) := by have r_v := rngI v; have r_u := rngI u; have r_t := rngI t; have r_r19_ := rngI r19_; have r_z24_ := rngI z24_; have r_z26_ := rngI z26_; have r_r32_ := rngI r32_; have r_z37_ := rngI z37_; have r_z39_ := rngI z39_; have r_r45_ := rngI r45_; have r_z50_ := rngI z50_; have r_r58_ := rngI r58_; have r_z63_ := rngI z63_; subst e27_; subst e40_; unfold PN; omega
set_option maxHeartbeats 4000000 in
set_option maxRecDepth 100000 in
theorem c_X12_moves (l : Launch) (G : va_G) (cy : Nat → ClassId) (ad : rf → Nat) (d : Nat) (v : Int32) (u : Int32) (t : Int32) (Mz : mM) (hIz : InvD Mz) : WP DD l G cy ad yX12_moves cX12_moves 4 (some .int) (d + 2) 0 [(0, vR (12, 0, 0)), (1, vI v), (2, vI u), (3, vI t)] [] Mz (fun r M' => InvD M' ∧ FR (S_c_X12_moves) Mz M' ∧ (True) ∧ SP_X12_moves v u t Mz r M') := by
  have hFz : FR (S_c_X12_moves) Mz Mz := FR.self
  refine w_aload_n dX12_moves_0 rfl 0 rfl ?_
  refine w_iload_n dX12_moves_1 rfl 1 rfl ?_
  refine w_iconst (v := 1) dX12_moves_2 (by decide) ?_
  refine w_callV (as := [vI v, vI 1]) (rest := []) (c_is1 l G cy ad d v Mz hIz) kV_X12_is (by decide +kernel) (Nat.le_of_ble_eq_true rfl) m_1465 rfl rfl rfl ic_12 rfl rfl (by decide) (Nat.le_of_ble_eq_true rfl) dX12_moves_3 (fun r1_ M2_ q3_ => ?_)
  obtain ⟨rfl, h4_, hs5_⟩ := q3_
  rcases h4_ with ⟨rfl, h4_⟩ | rfl
  · refine w_if_eq (tgt := 26) dX12_moves_6 (by decide) li_1 (fun h9 => (absurd h9 (by decide))) (fun h6_ => ?_)
    refine w_iload_n dX12_moves_9 rfl 2 rfl ?_
    refine w_callS (as := [vI u]) (rest := []) (c_X12_isSide l G cy ad d u Mz hIz) kS_X12_isSide (by decide +kernel) (Nat.le_of_ble_eq_true rfl) m_1473 rfl rfl (by decide) (Nat.le_of_ble_eq_true rfl) dX12_moves_10 (fun r7_ M8_ q9_ => ?_)
    obtain ⟨rfl, h10_, hs11_⟩ := q9_
    rcases h10_ with ⟨rfl, h10_⟩ | ⟨rfl, h10_⟩
    · refine w_if_eq (tgt := 26) dX12_moves_13 (by decide) li_1 (fun h9 => (absurd h9 (by decide))) (fun h12_ => ?_)
      refine w_iload_n dX12_moves_16 rfl 3 rfl ?_
      refine w_iconst (v := 0) dX12_moves_17 (by decide) ?_
      refine w_bipush (v := 20) dX12_moves_18 (by decide) ?_
      refine w_callS (as := [vI t, vI 0, vI 20]) (rest := []) (c_X12_within l G cy ad (d + 1) t 0 20 Mz hIz) kS_X12_within (by decide +kernel) (Nat.le_of_ble_eq_true rfl) m_1427 rfl rfl (by decide) (Nat.le_of_ble_eq_true rfl) dX12_moves_20 (fun r13_ M14_ q15_ => ?_)
      obtain ⟨rfl, h16_, hs17_⟩ := q15_
      rcases h16_ with ⟨rfl, h16_⟩ | ⟨rfl, h16_⟩
      · simp only [li_0, li_20] at h16_
        refine w_if_ne (tgt := 33) dX12_moves_23 (by decide) li_1 (fun h18_ => ?_) (fun h9 => (absurd h9 (by decide)))
        refine w_aload_n dX12_moves_33 rfl 0 rfl ?_
        refine w_getR (c' := (50, 0, 0)) fl_RX12_9 rfl rfl ic_12 dX12_moves_34 rfl ?_
        refine w_aload_n dX12_moves_37 rfl 0 rfl ?_
        refine w_iload_n dX12_moves_38 rfl 1 rfl ?_
        refine w_callV (as := [vI v]) (rest := [vR (50, 0, 0)]) (c_X12_thing l G cy ad (d + 1) v Mz hIz (lf_c_X12_moves_0 v h4_)) kV_X12_thing (by decide +kernel) (Nat.le_of_ble_eq_true rfl) m_1447 rfl rfl rfl ic_12 rfl rfl (by decide) (Nat.le_of_ble_eq_true rfl) dX12_moves_39 (fun r19_ M20_ q21_ => ?_)
        obtain ⟨rfl, h22_, hs23_⟩ := q21_
        refine w_iconst (v := 0) dX12_moves_42 (by decide) ?_
        refine w_iaddB dX12_moves_43 (rfl : r19_.toInt = r19_.toInt) li_0 (lf_c_X12_moves_1 v r19_ h4_ h22_) (fun z24_ h25_ => ?_)
        refine w_iald rfl rfl ic_50 (rfl : z24_.toInt = z24_.toInt) (lf_c_X12_moves_2 v r19_ z24_ h4_ h22_ h25_) dX12_moves_44 (fun j28_ h29_ z26_ e27_ => ?_)
        have h30_ : 0 ≤ z26_.toInt ∧ z26_.toInt ≤ 4 := pn_tk hIz e27_ (lf_c_X12_moves_3 Mz v r19_ z24_ j28_ z26_ h4_ h22_ h25_ h29_ e27_)
        refine w_iconst (v := 3) dX12_moves_45 (by decide) ?_
        refine w_icmp_ge (tgt := 56) dX12_moves_46 (by decide) (rfl : z26_.toInt = z26_.toInt) li_3 (fun h31_ => ?_) (fun h31_ => ?_)
        · refine w_aload_n dX12_moves_56 rfl 0 rfl ?_
          refine w_getR (c' := (50, 0, 0)) fl_RX12_9 rfl rfl ic_12 dX12_moves_57 rfl ?_
          refine w_aload_n dX12_moves_60 rfl 0 rfl ?_
          refine w_iload_n dX12_moves_61 rfl 1 rfl ?_
          refine w_callV (as := [vI v]) (rest := [vR (50, 0, 0)]) (c_X12_thing l G cy ad (d + 1) v Mz hIz (lf_c_X12_moves_4 Mz v r19_ z24_ j28_ z26_ h4_ h22_ h25_ h29_ e27_ h30_ h31_)) kV_X12_thing (by decide +kernel) (Nat.le_of_ble_eq_true rfl) m_1447 rfl rfl rfl ic_12 rfl rfl (by decide) (Nat.le_of_ble_eq_true rfl) dX12_moves_62 (fun r32_ M33_ q34_ => ?_)
          obtain ⟨rfl, h35_, hs36_⟩ := q34_
          refine w_iconst (v := 1) dX12_moves_65 (by decide) ?_
          refine w_iaddB dX12_moves_66 (rfl : r32_.toInt = r32_.toInt) li_1 (lf_c_X12_moves_5 Mz v r19_ z24_ j28_ z26_ r32_ h4_ h22_ h25_ h29_ e27_ h30_ h31_ h35_) (fun z37_ h38_ => ?_)
          refine w_iald rfl rfl ic_50 (rfl : z37_.toInt = z37_.toInt) (lf_c_X12_moves_6 Mz v r19_ z24_ j28_ z26_ r32_ z37_ h4_ h22_ h25_ h29_ e27_ h30_ h31_ h35_ h38_) dX12_moves_67 (fun j41_ h42_ z39_ e40_ => ?_)
          have h43_ : -1 ≤ z39_.toInt ∧ z39_.toInt ≤ 191 := pn_tc hIz e40_ (lf_c_X12_moves_7 Mz v r19_ z24_ j28_ z26_ r32_ z37_ j41_ z39_ h4_ h22_ h25_ h29_ e27_ h30_ h31_ h35_ h38_ h42_ e40_)
          refine w_if_ge (tgt := 78) dX12_moves_68 (by decide) (rfl : z39_.toInt = z39_.toInt) (fun h44_ => ?_) (fun h44_ => ?_)
          · refine w_aload_n dX12_moves_78 rfl 0 rfl ?_
            refine w_getR (c' := (50, 0, 0)) fl_RX12_9 rfl rfl ic_12 dX12_moves_79 rfl ?_
            refine w_aload_n dX12_moves_82 rfl 0 rfl ?_
            refine w_iload_n dX12_moves_83 rfl 1 rfl ?_
            refine w_callV (as := [vI v]) (rest := [vR (50, 0, 0)]) (c_X12_thing l G cy ad (d + 1) v Mz hIz (lf_c_X12_moves_8 Mz v r19_ z24_ j28_ z26_ r32_ z37_ j41_ z39_ h4_ h22_ h25_ h29_ e27_ h30_ h31_ h35_ h38_ h42_ e40_ h43_ h44_)) kV_X12_thing (by decide +kernel) (Nat.le_of_ble_eq_true rfl) m_1447 rfl rfl rfl ic_12 rfl rfl (by decide) (Nat.le_of_ble_eq_true rfl) dX12_moves_84 (fun r45_ M46_ q47_ => ?_)
            obtain ⟨rfl, h48_, hs49_⟩ := q47_
            refine w_iconst (v := 2) dX12_moves_87 (by decide) ?_
            refine w_iaddB dX12_moves_88 (rfl : r45_.toInt = r45_.toInt) li_2 (lf_c_X12_moves_9 Mz v r19_ z24_ j28_ z26_ r32_ z37_ j41_ z39_ r45_ h4_ h22_ h25_ h29_ e27_ h30_ h31_ h35_ h38_ h42_ e40_ h43_ h44_ h48_) (fun z50_ h51_ => ?_)
            refine w_iload_n dX12_moves_89 rfl 2 rfl ?_
            refine w_iast DD_nd rfl rfl ic_50 (rfl : z50_.toInt = z50_.toInt) (lf_c_X12_moves_10 Mz v r19_ z24_ j28_ z26_ r32_ z37_ j41_ z39_ r45_ z50_ h4_ h22_ h25_ h29_ e27_ h30_ h31_ h35_ h38_ h42_ e40_ h43_ h44_ h48_ h51_) dX12_moves_90 (fun j54_ h55_ M52_ hM53_ => ?_)
            have hI56_ := hIz.put50 hM53_ (lf_c_X12_moves_11 M52_ Mz v u r19_ z24_ j28_ z26_ r32_ z37_ j41_ z39_ r45_ z50_ j54_ h4_ h10_ h22_ h25_ h29_ e27_ h30_ h31_ h35_ h38_ h42_ e40_ h43_ h44_ h48_ h51_ h55_ hM53_)
            have hF57_ := hFz.put hM53_ (Or.inl ⟨rfl, rfl⟩)
            refine w_aload_n dX12_moves_91 rfl 0 rfl ?_
            refine w_getR (c' := (50, 0, 0)) fl_RX12_9 rfl rfl ic_12 dX12_moves_92 rfl ?_
            refine w_aload_n dX12_moves_95 rfl 0 rfl ?_
            refine w_iload_n dX12_moves_96 rfl 1 rfl ?_
            refine w_callV (as := [vI v]) (rest := [vR (50, 0, 0)]) (c_X12_thing l G cy ad (d + 1) v M52_ hI56_ (lf_c_X12_moves_12 M52_ Mz v u r19_ z24_ j28_ z26_ r32_ z37_ j41_ z39_ r45_ z50_ j54_ h4_ h10_ h22_ h25_ h29_ e27_ h30_ h31_ h35_ h38_ h42_ e40_ h43_ h44_ h48_ h51_ h55_ hM53_)) kV_X12_thing (by decide +kernel) (Nat.le_of_ble_eq_true rfl) m_1447 rfl rfl rfl ic_12 rfl rfl (by decide) (Nat.le_of_ble_eq_true rfl) dX12_moves_97 (fun r58_ M59_ q60_ => ?_)
            obtain ⟨rfl, h61_, hs62_⟩ := q60_
            refine w_iconst (v := 3) dX12_moves_100 (by decide) ?_
            refine w_iaddB dX12_moves_101 (rfl : r58_.toInt = r58_.toInt) li_3 (lf_c_X12_moves_13 M52_ Mz v u r19_ z24_ j28_ z26_ r32_ z37_ j41_ z39_ r45_ z50_ j54_ r58_ h4_ h10_ h22_ h25_ h29_ e27_ h30_ h31_ h35_ h38_ h42_ e40_ h43_ h44_ h48_ h51_ h55_ hM53_ h61_) (fun z63_ h64_ => ?_)
            refine w_iload_n dX12_moves_102 rfl 3 rfl ?_
            refine w_iast DD_nd rfl rfl ic_50 (rfl : z63_.toInt = z63_.toInt) (lf_c_X12_moves_14 M52_ Mz v u r19_ z24_ j28_ z26_ r32_ z37_ j41_ z39_ r45_ z50_ j54_ r58_ z63_ h4_ h10_ h22_ h25_ h29_ e27_ h30_ h31_ h35_ h38_ h42_ e40_ h43_ h44_ h48_ h51_ h55_ hM53_ h61_ h64_) dX12_moves_103 (fun j67_ h68_ M65_ hM66_ => ?_)
            have hI69_ := hI56_.put50 hM66_ (lf_c_X12_moves_15 M52_ M65_ Mz v u t r19_ z24_ j28_ z26_ r32_ z37_ j41_ z39_ r45_ z50_ j54_ r58_ z63_ j67_ h4_ h10_ h16_ h22_ h25_ h29_ e27_ h30_ h31_ h35_ h38_ h42_ e40_ h43_ h44_ h48_ h51_ h55_ hM53_ h61_ h64_ h68_ hM66_)
            have hF70_ := hF57_.put hM66_ (Or.inl ⟨rfl, rfl⟩)
            refine w_iconst (v := 1) dX12_moves_104 (by decide) ?_
            exact w_iret rfl dX12_moves_105 ⟨hI69_, hF70_, trivial, (Or.inl ⟨hs5_, h4_, (Or.inl ⟨hs11_, h10_, (Or.inl ⟨hs17_, h16_, r19_, hs23_, h22_, z24_, h25_, j28_, h29_, z26_, e27_, h30_, (Or.inl ⟨h31_, r32_, hs36_, h35_, z37_, h38_, j41_, h42_, z39_, e40_, h43_, (Or.inl ⟨h44_, r45_, hs49_, h48_, z50_, h51_, j54_, h55_, M52_, hM53_, hI56_, r58_, hs62_, h61_, z63_, h64_, j67_, h68_, M65_, hM66_, rfl, rfl⟩)⟩)⟩)⟩)⟩)⟩
          · refine w_aload_n dX12_moves_71 rfl 0 rfl ?_
            refine w_ldc (v := (-1000003)) m_1455 dX12_moves_72 ?_
            refine w_callV (as := [vI (-1000003)]) (rest := []) (c_X12_finding l G cy ad (d + 1) (-1000003) Mz hIz (by first | decide | (unfold vF; omega) | (unfold vRw; omega))) kV_X12_finding (by decide +kernel) (Nat.le_of_ble_eq_true rfl) m_1434 rfl rfl rfl ic_12 rfl rfl (by decide) (Nat.le_of_ble_eq_true rfl) dX12_moves_74 (fun r71_ M72_ q73_ => ?_)
            obtain ⟨hI75_, hF76_, h74_, hs78_⟩ := q73_
            have hF77_ := hFz.tr hF76_ (fun c k => (fun h => h.elim (fun h => (Or.inr (Or.inl ⟨h.1, h.2⟩))) (fun h => h.elim)))
            simp only [li_m1000003] at h74_
            exact w_iret rfl dX12_moves_77 ⟨hI75_, hF77_, trivial, (Or.inl ⟨hs5_, h4_, (Or.inl ⟨hs11_, h10_, (Or.inl ⟨hs17_, h16_, r19_, hs23_, h22_, z24_, h25_, j28_, h29_, z26_, e27_, h30_, (Or.inl ⟨h31_, r32_, hs36_, h35_, z37_, h38_, j41_, h42_, z39_, e40_, h43_, (Or.inr ⟨h44_, M72_, hI75_, hF76_, r71_, hs78_, h74_, rfl, rfl⟩)⟩)⟩)⟩)⟩)⟩
        · refine w_aload_n dX12_moves_49 rfl 0 rfl ?_
          refine w_ldc (v := (-1000005)) m_1476 dX12_moves_50 ?_
          refine w_callV (as := [vI (-1000005)]) (rest := []) (c_X12_finding l G cy ad (d + 1) (-1000005) Mz hIz (by first | decide | (unfold vF; omega) | (unfold vRw; omega))) kV_X12_finding (by decide +kernel) (Nat.le_of_ble_eq_true rfl) m_1434 rfl rfl rfl ic_12 rfl rfl (by decide) (Nat.le_of_ble_eq_true rfl) dX12_moves_52 (fun r79_ M80_ q81_ => ?_)
          obtain ⟨hI83_, hF84_, h82_, hs86_⟩ := q81_
          have hF85_ := hFz.tr hF84_ (fun c k => (fun h => h.elim (fun h => (Or.inr (Or.inl ⟨h.1, h.2⟩))) (fun h => h.elim)))
          simp only [li_m1000005] at h82_
          exact w_iret rfl dX12_moves_55 ⟨hI83_, hF85_, trivial, (Or.inl ⟨hs5_, h4_, (Or.inl ⟨hs11_, h10_, (Or.inl ⟨hs17_, h16_, r19_, hs23_, h22_, z24_, h25_, j28_, h29_, z26_, e27_, h30_, (Or.inr ⟨h31_, M80_, hI83_, hF84_, r79_, hs86_, h82_, rfl, rfl⟩)⟩)⟩)⟩)⟩
      · simp only [li_0, li_20] at h16_
        refine w_if_ne (tgt := 33) dX12_moves_23 (by decide) li_0 (fun h9 => (absurd h9 (by decide))) (fun h87_ => ?_)
        refine w_aload_n dX12_moves_26 rfl 0 rfl ?_
        refine w_ldc (v := (-1000001)) m_1433 dX12_moves_27 ?_
        refine w_callV (as := [vI (-1000001)]) (rest := []) (c_X12_finding l G cy ad (d + 1) (-1000001) Mz hIz (by first | decide | (unfold vF; omega) | (unfold vRw; omega))) kV_X12_finding (by decide +kernel) (Nat.le_of_ble_eq_true rfl) m_1434 rfl rfl rfl ic_12 rfl rfl (by decide) (Nat.le_of_ble_eq_true rfl) dX12_moves_29 (fun r88_ M89_ q90_ => ?_)
        obtain ⟨hI92_, hF93_, h91_, hs95_⟩ := q90_
        have hF94_ := hFz.tr hF93_ (fun c k => (fun h => h.elim (fun h => (Or.inr (Or.inl ⟨h.1, h.2⟩))) (fun h => h.elim)))
        simp only [li_m1000001] at h91_
        exact w_iret rfl dX12_moves_32 ⟨hI92_, hF94_, trivial, (Or.inl ⟨hs5_, h4_, (Or.inl ⟨hs11_, h10_, (Or.inr ⟨hs17_, h16_, M89_, hI92_, hF93_, r88_, hs95_, h91_, rfl, rfl⟩)⟩)⟩)⟩
    · refine w_if_eq (tgt := 26) dX12_moves_13 (by decide) li_0 (fun h96_ => ?_) (fun h9 => (absurd h9 (by decide)))
      refine w_aload_n dX12_moves_26 rfl 0 rfl ?_
      refine w_ldc (v := (-1000001)) m_1433 dX12_moves_27 ?_
      refine w_callV (as := [vI (-1000001)]) (rest := []) (c_X12_finding l G cy ad (d + 1) (-1000001) Mz hIz (by first | decide | (unfold vF; omega) | (unfold vRw; omega))) kV_X12_finding (by decide +kernel) (Nat.le_of_ble_eq_true rfl) m_1434 rfl rfl rfl ic_12 rfl rfl (by decide) (Nat.le_of_ble_eq_true rfl) dX12_moves_29 (fun r97_ M98_ q99_ => ?_)
      obtain ⟨hI101_, hF102_, h100_, hs104_⟩ := q99_
      have hF103_ := hFz.tr hF102_ (fun c k => (fun h => h.elim (fun h => (Or.inr (Or.inl ⟨h.1, h.2⟩))) (fun h => h.elim)))
      simp only [li_m1000001] at h100_
      exact w_iret rfl dX12_moves_32 ⟨hI101_, hF103_, trivial, (Or.inl ⟨hs5_, h4_, (Or.inr ⟨hs11_, h10_, M98_, hI101_, hF102_, r97_, hs104_, h100_, rfl, rfl⟩)⟩)⟩
  · refine w_if_eq (tgt := 26) dX12_moves_6 (by decide) li_0 (fun h105_ => ?_) (fun h9 => (absurd h9 (by decide)))
    refine w_aload_n dX12_moves_26 rfl 0 rfl ?_
    refine w_ldc (v := (-1000001)) m_1433 dX12_moves_27 ?_
    refine w_callV (as := [vI (-1000001)]) (rest := []) (c_X12_finding l G cy ad (d + 1) (-1000001) Mz hIz (by first | decide | (unfold vF; omega) | (unfold vRw; omega))) kV_X12_finding (by decide +kernel) (Nat.le_of_ble_eq_true rfl) m_1434 rfl rfl rfl ic_12 rfl rfl (by decide) (Nat.le_of_ble_eq_true rfl) dX12_moves_29 (fun r106_ M107_ q108_ => ?_)
    obtain ⟨hI110_, hF111_, h109_, hs113_⟩ := q108_
    have hF112_ := hFz.tr hF111_ (fun c k => (fun h => h.elim (fun h => (Or.inr (Or.inl ⟨h.1, h.2⟩))) (fun h => h.elim)))
    simp only [li_m1000001] at h109_
    exact w_iret rfl dX12_moves_32 ⟨hI110_, hF112_, trivial, (Or.inr ⟨hs5_, M107_, hI110_, hF111_, r106_, hs113_, h109_, rfl, rfl⟩)⟩
def S_c_X12_away : rf → Nat → Prop := fun c k => (c.1 = 50 ∧ c.2.1 = 0) ∨ (c.1 = 53 ∧ c.2.1 = 0) ∨ False
def SP_X12_away (v : Int32) (Mz : mM) (r_ : Int32) (M_ : mM) : Prop := (((SP_is1 v Mz (1 : Int32)) ∧ (0 ≤ v.toInt ∧ v.toInt ≤ 39) ∧ ∃ r7_ : Int32, (SP_X12_thing v Mz r7_) ∧ (r7_.toInt = 20 + 4 * v.toInt) ∧ ∃ z12_ : Int32, (z12_.toInt = r7_.toInt + 1) ∧ ∃ j16_ : Nat, ((j16_ : Int) = z12_.toInt) ∧ ∃ z14_ : Int32, (z14_ = Mz.1 (50, 0, 0) j16_) ∧ (-1 ≤ z14_.toInt ∧ z14_.toInt ≤ 191) ∧ (((0 ≤ z14_.toInt) ∧ ∃ r20_ : Int32, (SP_X12_thing v Mz r20_) ∧ (r20_.toInt = 20 + 4 * v.toInt) ∧ ∃ z25_ : Int32, (z25_.toInt = r20_.toInt + 1) ∧ ∃ M28_ : mM, (InvD M28_) ∧ (FR (S_c_X12_become) Mz M28_) ∧ ∃ r27_ : Int32, (SP_X12_become z25_ (-1) Mz r27_ M28_) ∧ r_ = r27_ ∧ M_ = M28_) ∨ ((z14_.toInt < 0) ∧ ∃ M36_ : mM, (InvD M36_) ∧ (FR (S_c_X12_finding) Mz M36_) ∧ ∃ r35_ : Int32, (SP_X12_finding (-1000003) Mz r35_ M36_) ∧ (r35_.toInt = (-1000003)) ∧ r_ = r35_ ∧ M_ = M36_))) ∨ ((SP_is1 v Mz (0 : Int32)) ∧ ∃ M45_ : mM, (InvD M45_) ∧ (FR (S_c_X12_finding) Mz M45_) ∧ ∃ r44_ : Int32, (SP_X12_finding (-1000001) Mz r44_ M45_) ∧ (r44_.toInt = (-1000001)) ∧ r_ = r44_ ∧ M_ = M45_))
theorem lf_c_X12_away_0  (v : Int32) (h4_ : 0 ≤ v.toInt ∧ v.toInt ≤ 39) : -1 ≤ v.toInt ∧ v.toInt ≤ 39 := by have r_v := rngI v; omega
theorem lf_c_X12_away_1  (v : Int32) (r7_ : Int32) (h4_ : 0 ≤ v.toInt ∧ v.toInt ≤ 39) (h10_ : r7_.toInt = 20 + 4 * v.toInt) : -2147483648 ≤ r7_.toInt + 1 ∧ r7_.toInt + 1 < 2147483648 := by have r_v := rngI v; have r_r7_ := rngI r7_; omega
theorem lf_c_X12_away_2  (v : Int32) (r7_ : Int32) (z12_ : Int32) (h4_ : 0 ≤ v.toInt ∧ v.toInt ≤ 39) (h10_ : r7_.toInt = 20 + 4 * v.toInt) (h13_ : z12_.toInt = r7_.toInt + 1) : 0 ≤ z12_.toInt ∧ z12_.toInt < ((3567 : Nat) : Int) := by have r_v := rngI v; have r_r7_ := rngI r7_; have r_z12_ := rngI z12_; omega
theorem lf_c_X12_away_3 (Mz : mM) (v : Int32) (r7_ : Int32) (z12_ : Int32) (j16_ : Nat) (z14_ : Int32) (h4_ : 0 ≤ v.toInt ∧ v.toInt ≤ 39) (h10_ : r7_.toInt = 20 + 4 * v.toInt) (h13_ : z12_.toInt = r7_.toInt + 1) (h17_ : (j16_ : Int) = z12_.toInt) (e15_ : z14_ = Mz.1 (50, 0, 0) j16_) : 20 ≤ j16_ ∧ j16_ < 180 ∧ j16_ % 4 = 1 := by have r_v := rngI v; have r_r7_ := rngI r7_; have r_z12_ := rngI z12_; have r_z14_ := rngI z14_; subst e15_; omega
theorem lf_c_X12_away_4 (Mz : mM) (v : Int32) (r7_ : Int32) (z12_ : Int32) (j16_ : Nat) (z14_ : Int32) (h4_ : 0 ≤ v.toInt ∧ v.toInt ≤ 39) (h10_ : r7_.toInt = 20 + 4 * v.toInt) (h13_ : z12_.toInt = r7_.toInt + 1) (h17_ : (j16_ : Int) = z12_.toInt) (e15_ : z14_ = Mz.1 (50, 0, 0) j16_) (h18_ : -1 ≤ z14_.toInt ∧ z14_.toInt ≤ 191) (h19_ : 0 ≤ z14_.toInt) : -1 ≤ v.toInt ∧ v.toInt ≤ 39 := by have r_v := rngI v; have r_r7_ := rngI r7_; have r_z12_ := rngI z12_; have r_z14_ := rngI z14_; subst e15_; omega
theorem lf_c_X12_away_5 (Mz : mM) (v : Int32) (r7_ : Int32) (z12_ : Int32) (j16_ : Nat) (z14_ : Int32) (r20_ : Int32) (h4_ : 0 ≤ v.toInt ∧ v.toInt ≤ 39) (h10_ : r7_.toInt = 20 + 4 * v.toInt) (h13_ : z12_.toInt = r7_.toInt + 1) (h17_ : (j16_ : Int) = z12_.toInt) (e15_ : z14_ = Mz.1 (50, 0, 0) j16_) (h18_ : -1 ≤ z14_.toInt ∧ z14_.toInt ≤ 191) (h19_ : 0 ≤ z14_.toInt) (h23_ : r20_.toInt = 20 + 4 * v.toInt) : -2147483648 ≤ r20_.toInt + 1 ∧ r20_.toInt + 1 < 2147483648 := by have r_v := rngI v; have r_r7_ := rngI r7_; have r_z12_ := rngI z12_; have r_z14_ := rngI z14_; have r_r20_ := rngI r20_; subst e15_; omega
theorem lf_c_X12_away_6 (Mz : mM) (v : Int32) (r7_ : Int32) (z12_ : Int32) (j16_ : Nat) (z14_ : Int32) (r20_ : Int32) (z25_ : Int32) (h4_ : 0 ≤ v.toInt ∧ v.toInt ≤ 39) (h10_ : r7_.toInt = 20 + 4 * v.toInt) (h13_ : z12_.toInt = r7_.toInt + 1) (h17_ : (j16_ : Int) = z12_.toInt) (e15_ : z14_ = Mz.1 (50, 0, 0) j16_) (h18_ : -1 ≤ z14_.toInt ∧ z14_.toInt ≤ 191) (h19_ : 0 ≤ z14_.toInt) (h23_ : r20_.toInt = 20 + 4 * v.toInt) (h26_ : z25_.toInt = r20_.toInt + 1) : PN z25_.toInt.toNat (-1 : Int32) ∧ (z25_.toInt.toNat < 345 ∨ 493 < z25_.toInt.toNat) := by have r_v := rngI v; have r_r7_ := rngI r7_; have r_z12_ := rngI z12_; have r_z14_ := rngI z14_; have r_r20_ := rngI r20_; have r_z25_ := rngI z25_; have q0 := li_m1; subst e15_; unfold PN; omega
theorem lf_c_X12_away_7 (Mz : mM) (v : Int32) (r7_ : Int32) (z12_ : Int32) (j16_ : Nat) (z14_ : Int32) (r20_ : Int32) (z25_ : Int32) (h4_ : 0 ≤ v.toInt ∧ v.toInt ≤ 39) (h10_ : r7_.toInt = 20 + 4 * v.toInt) (h13_ : z12_.toInt = r7_.toInt + 1) (h17_ : (j16_ : Int) = z12_.toInt) (e15_ : z14_ = Mz.1 (50, 0, 0) j16_) (h18_ : -1 ≤ z14_.toInt ∧ z14_.toInt ≤ 191) (h19_ : 0 ≤ z14_.toInt) (h23_ : r20_.toInt = 20 + 4 * v.toInt) (h26_ : z25_.toInt = r20_.toInt + 1) : 0 ≤ z25_.toInt ∧ z25_.toInt ≤ 3566 := by have r_v := rngI v; have r_r7_ := rngI r7_; have r_z12_ := rngI z12_; have r_z14_ := rngI z14_; have r_r20_ := rngI r20_; have r_z25_ := rngI z25_; subst e15_; omega
set_option maxHeartbeats 4000000 in
set_option maxRecDepth 100000 in
theorem c_X12_away (l : Launch) (G : va_G) (cy : Nat → ClassId) (ad : rf → Nat) (d : Nat) (v : Int32) (Mz : mM) (hIz : InvD Mz) : WP DD l G cy ad yX12_away cX12_away 2 (some .int) (d + 2) 0 [(0, vR (12, 0, 0)), (1, vI v)] [] Mz (fun r M' => InvD M' ∧ FR (S_c_X12_away) Mz M' ∧ (True) ∧ SP_X12_away v Mz r M') := by
  have hFz : FR (S_c_X12_away) Mz Mz := FR.self
  refine w_aload_n dX12_away_0 rfl 0 rfl ?_
  refine w_iload_n dX12_away_1 rfl 1 rfl ?_
  refine w_iconst (v := 1) dX12_away_2 (by decide) ?_
  refine w_callV (as := [vI v, vI 1]) (rest := []) (c_is1 l G cy ad d v Mz hIz) kV_X12_is (by decide +kernel) (Nat.le_of_ble_eq_true rfl) m_1465 rfl rfl rfl ic_12 rfl rfl (by decide) (Nat.le_of_ble_eq_true rfl) dX12_away_3 (fun r1_ M2_ q3_ => ?_)
  obtain ⟨rfl, h4_, hs5_⟩ := q3_
  rcases h4_ with ⟨rfl, h4_⟩ | rfl
  · refine w_if_ne (tgt := 16) dX12_away_6 (by decide) li_1 (fun h6_ => ?_) (fun h9 => (absurd h9 (by decide)))
    refine w_aload_n dX12_away_16 rfl 0 rfl ?_
    refine w_getR (c' := (50, 0, 0)) fl_RX12_9 rfl rfl ic_12 dX12_away_17 rfl ?_
    refine w_aload_n dX12_away_20 rfl 0 rfl ?_
    refine w_iload_n dX12_away_21 rfl 1 rfl ?_
    refine w_callV (as := [vI v]) (rest := [vR (50, 0, 0)]) (c_X12_thing l G cy ad (d + 1) v Mz hIz (lf_c_X12_away_0 v h4_)) kV_X12_thing (by decide +kernel) (Nat.le_of_ble_eq_true rfl) m_1447 rfl rfl rfl ic_12 rfl rfl (by decide) (Nat.le_of_ble_eq_true rfl) dX12_away_22 (fun r7_ M8_ q9_ => ?_)
    obtain ⟨rfl, h10_, hs11_⟩ := q9_
    refine w_iconst (v := 1) dX12_away_25 (by decide) ?_
    refine w_iaddB dX12_away_26 (rfl : r7_.toInt = r7_.toInt) li_1 (lf_c_X12_away_1 v r7_ h4_ h10_) (fun z12_ h13_ => ?_)
    refine w_iald rfl rfl ic_50 (rfl : z12_.toInt = z12_.toInt) (lf_c_X12_away_2 v r7_ z12_ h4_ h10_ h13_) dX12_away_27 (fun j16_ h17_ z14_ e15_ => ?_)
    have h18_ : -1 ≤ z14_.toInt ∧ z14_.toInt ≤ 191 := pn_tc hIz e15_ (lf_c_X12_away_3 Mz v r7_ z12_ j16_ z14_ h4_ h10_ h13_ h17_ e15_)
    refine w_if_ge (tgt := 40) dX12_away_28 (by decide) (rfl : z14_.toInt = z14_.toInt) (fun h19_ => ?_) (fun h19_ => ?_)
    · refine w_aload_n dX12_away_40 rfl 0 rfl ?_
      refine w_aload_n dX12_away_41 rfl 0 rfl ?_
      refine w_iload_n dX12_away_42 rfl 1 rfl ?_
      refine w_callV (as := [vI v]) (rest := [vR (12, 0, 0)]) (c_X12_thing l G cy ad (d + 1) v Mz hIz (lf_c_X12_away_4 Mz v r7_ z12_ j16_ z14_ h4_ h10_ h13_ h17_ e15_ h18_ h19_)) kV_X12_thing (by decide +kernel) (Nat.le_of_ble_eq_true rfl) m_1447 rfl rfl rfl ic_12 rfl rfl (by decide) (Nat.le_of_ble_eq_true rfl) dX12_away_43 (fun r20_ M21_ q22_ => ?_)
      obtain ⟨rfl, h23_, hs24_⟩ := q22_
      refine w_iconst (v := 1) dX12_away_46 (by decide) ?_
      refine w_iaddB dX12_away_47 (rfl : r20_.toInt = r20_.toInt) li_1 (lf_c_X12_away_5 Mz v r7_ z12_ j16_ z14_ r20_ h4_ h10_ h13_ h17_ e15_ h18_ h19_ h23_) (fun z25_ h26_ => ?_)
      refine w_iconst (v := (-1)) dX12_away_48 (by decide) ?_
      refine w_callV (as := [vI z25_, vI (-1)]) (rest := []) (c_X12_become l G cy ad (d + 1) z25_ (-1) Mz hIz (lf_c_X12_away_6 Mz v r7_ z12_ j16_ z14_ r20_ z25_ h4_ h10_ h13_ h17_ e15_ h18_ h19_ h23_ h26_) (lf_c_X12_away_7 Mz v r7_ z12_ j16_ z14_ r20_ z25_ h4_ h10_ h13_ h17_ e15_ h18_ h19_ h23_ h26_)) kV_X12_become (by decide +kernel) (Nat.le_of_ble_eq_true rfl) m_1481 rfl rfl rfl ic_12 rfl rfl (by decide) (Nat.le_of_ble_eq_true rfl) dX12_away_49 (fun r27_ M28_ q29_ => ?_)
      obtain ⟨hI31_, hF32_, h30_, hs34_⟩ := q29_
      have hF33_ := hFz.tr hF32_ (fun c k => (fun h => h.elim (fun h => (Or.inl ⟨h.1, h.2⟩)) (fun h => h.elim)))
      exact w_iret rfl dX12_away_52 ⟨hI31_, hF33_, trivial, (Or.inl ⟨hs5_, h4_, r7_, hs11_, h10_, z12_, h13_, j16_, h17_, z14_, e15_, h18_, (Or.inl ⟨h19_, r20_, hs24_, h23_, z25_, h26_, M28_, hI31_, hF32_, r27_, hs34_, rfl, rfl⟩)⟩)⟩
    · refine w_aload_n dX12_away_31 rfl 0 rfl ?_
      refine w_ldc (v := (-1000003)) m_1455 dX12_away_32 ?_
      refine w_callV (as := [vI (-1000003)]) (rest := []) (c_X12_finding l G cy ad (d + 1) (-1000003) Mz hIz (by first | decide | (unfold vF; omega) | (unfold vRw; omega))) kV_X12_finding (by decide +kernel) (Nat.le_of_ble_eq_true rfl) m_1434 rfl rfl rfl ic_12 rfl rfl (by decide) (Nat.le_of_ble_eq_true rfl) dX12_away_34 (fun r35_ M36_ q37_ => ?_)
      obtain ⟨hI39_, hF40_, h38_, hs42_⟩ := q37_
      have hF41_ := hFz.tr hF40_ (fun c k => (fun h => h.elim (fun h => (Or.inr (Or.inl ⟨h.1, h.2⟩))) (fun h => h.elim)))
      simp only [li_m1000003] at h38_
      refine w_goto (tgt := 52) dX12_away_37 (by decide) ?_
      exact w_iret rfl dX12_away_52 ⟨hI39_, hF41_, trivial, (Or.inl ⟨hs5_, h4_, r7_, hs11_, h10_, z12_, h13_, j16_, h17_, z14_, e15_, h18_, (Or.inr ⟨h19_, M36_, hI39_, hF40_, r35_, hs42_, h38_, rfl, rfl⟩)⟩)⟩
  · refine w_if_ne (tgt := 16) dX12_away_6 (by decide) li_0 (fun h9 => (absurd h9 (by decide))) (fun h43_ => ?_)
    refine w_aload_n dX12_away_9 rfl 0 rfl ?_
    refine w_ldc (v := (-1000001)) m_1433 dX12_away_10 ?_
    refine w_callV (as := [vI (-1000001)]) (rest := []) (c_X12_finding l G cy ad (d + 1) (-1000001) Mz hIz (by first | decide | (unfold vF; omega) | (unfold vRw; omega))) kV_X12_finding (by decide +kernel) (Nat.le_of_ble_eq_true rfl) m_1434 rfl rfl rfl ic_12 rfl rfl (by decide) (Nat.le_of_ble_eq_true rfl) dX12_away_12 (fun r44_ M45_ q46_ => ?_)
    obtain ⟨hI48_, hF49_, h47_, hs51_⟩ := q46_
    have hF50_ := hFz.tr hF49_ (fun c k => (fun h => h.elim (fun h => (Or.inr (Or.inl ⟨h.1, h.2⟩))) (fun h => h.elim)))
    simp only [li_m1000001] at h47_
    exact w_iret rfl dX12_away_15 ⟨hI48_, hF50_, trivial, (Or.inr ⟨hs5_, M45_, hI48_, hF49_, r44_, hs51_, h47_, rfl, rfl⟩)⟩
def S_c_X12_kind : rf → Nat → Prop := fun c k => (c.1 = 50 ∧ c.2.1 = 0) ∨ (c.1 = 53 ∧ c.2.1 = 0) ∨ False
def SP_X12_kind (v : Int32) (u : Int32) (t : Int32) (Mz : mM) (r_ : Int32) (M_ : mM) : Prop := (((SP_X12_within v 0 4 Mz (1 : Int32)) ∧ (0 ≤ v.toInt ∧ v.toInt ≤ 4) ∧ (((SP_X12_within u 0 1 Mz (1 : Int32)) ∧ (0 ≤ u.toInt ∧ u.toInt ≤ 1) ∧ (((¬ u.toInt = 0) ∧ (((SP_X12_within t 0 9 Mz (1 : Int32)) ∧ (0 ≤ t.toInt ∧ t.toInt ≤ 9) ∧ (¬ u.toInt = 0) ∧ ∃ z21_ : Int32, (z21_.toInt = 14 + v.toInt) ∧ ∃ M24_ : mM, (InvD M24_) ∧ (FR (S_c_X12_become) Mz M24_) ∧ ∃ r23_ : Int32, (SP_X12_become z21_ t Mz r23_ M24_) ∧ r_ = r23_ ∧ M_ = M24_) ∨ ((SP_X12_within t 0 9 Mz (0 : Int32)) ∧ (¬ (0 ≤ t.toInt ∧ t.toInt ≤ 9)) ∧ ∃ M33_ : mM, (InvD M33_) ∧ (FR (S_c_X12_finding) Mz M33_) ∧ ∃ r32_ : Int32, (SP_X12_finding (-1000001) Mz r32_ M33_) ∧ (r32_.toInt = (-1000001)) ∧ r_ = r32_ ∧ M_ = M33_))) ∨ ((u.toInt = 0) ∧ (((SP_X12_within t 0 99 Mz (1 : Int32)) ∧ (0 ≤ t.toInt ∧ t.toInt ≤ 99) ∧ (u.toInt = 0) ∧ ∃ z47_ : Int32, (z47_.toInt = 9 + v.toInt) ∧ ∃ M50_ : mM, (InvD M50_) ∧ (FR (S_c_X12_become) Mz M50_) ∧ ∃ r49_ : Int32, (SP_X12_become z47_ t Mz r49_ M50_) ∧ r_ = r49_ ∧ M_ = M50_) ∨ ((SP_X12_within t 0 99 Mz (0 : Int32)) ∧ (¬ (0 ≤ t.toInt ∧ t.toInt ≤ 99)) ∧ ∃ M59_ : mM, (InvD M59_) ∧ (FR (S_c_X12_finding) Mz M59_) ∧ ∃ r58_ : Int32, (SP_X12_finding (-1000001) Mz r58_ M59_) ∧ (r58_.toInt = (-1000001)) ∧ r_ = r58_ ∧ M_ = M59_))))) ∨ ((SP_X12_within u 0 1 Mz (0 : Int32)) ∧ (¬ (0 ≤ u.toInt ∧ u.toInt ≤ 1)) ∧ ∃ M68_ : mM, (InvD M68_) ∧ (FR (S_c_X12_finding) Mz M68_) ∧ ∃ r67_ : Int32, (SP_X12_finding (-1000001) Mz r67_ M68_) ∧ (r67_.toInt = (-1000001)) ∧ r_ = r67_ ∧ M_ = M68_))) ∨ ((SP_X12_within v 0 4 Mz (0 : Int32)) ∧ (¬ (0 ≤ v.toInt ∧ v.toInt ≤ 4)) ∧ ∃ M77_ : mM, (InvD M77_) ∧ (FR (S_c_X12_finding) Mz M77_) ∧ ∃ r76_ : Int32, (SP_X12_finding (-1000001) Mz r76_ M77_) ∧ (r76_.toInt = (-1000001)) ∧ r_ = r76_ ∧ M_ = M77_))
theorem lf_c_X12_kind_0  (u : Int32) (h10_ : 0 ≤ u.toInt ∧ u.toInt ≤ 1) (h13_ : ¬ u.toInt = 0) (h9 : u.toInt = 0) : False := by have r_u := rngI u; omega
theorem lf_c_X12_kind_1  (v : Int32) (h4_ : 0 ≤ v.toInt ∧ v.toInt ≤ 4) : -2147483648 ≤ 14 + v.toInt ∧ 14 + v.toInt < 2147483648 := by have r_v := rngI v; omega
theorem lf_c_X12_kind_2  (v : Int32) (t : Int32) (z21_ : Int32) (h4_ : 0 ≤ v.toInt ∧ v.toInt ≤ 4) (h17_ : 0 ≤ t.toInt ∧ t.toInt ≤ 9) (h22_ : z21_.toInt = 14 + v.toInt) : PN z21_.toInt.toNat t ∧ (z21_.toInt.toNat < 345 ∨ 493 < z21_.toInt.toNat) := by have r_v := rngI v; have r_t := rngI t; have r_z21_ := rngI z21_; unfold PN; omega
theorem lf_c_X12_kind_3  (v : Int32) (z21_ : Int32) (h4_ : 0 ≤ v.toInt ∧ v.toInt ≤ 4) (h22_ : z21_.toInt = 14 + v.toInt) : 0 ≤ z21_.toInt ∧ z21_.toInt ≤ 3566 := by have r_v := rngI v; have r_z21_ := rngI z21_; omega
theorem lf_c_X12_kind_4  (u : Int32) (h10_ : 0 ≤ u.toInt ∧ u.toInt ≤ 1) (h13_ : u.toInt = 0) (h9 : ¬ u.toInt = 0) : False := by have r_u := rngI u; omega
theorem lf_c_X12_kind_5  (v : Int32) (h4_ : 0 ≤ v.toInt ∧ v.toInt ≤ 4) : -2147483648 ≤ 9 + v.toInt ∧ 9 + v.toInt < 2147483648 := by have r_v := rngI v; omega
theorem lf_c_X12_kind_6  (v : Int32) (t : Int32) (z47_ : Int32) (h4_ : 0 ≤ v.toInt ∧ v.toInt ≤ 4) (h43_ : 0 ≤ t.toInt ∧ t.toInt ≤ 99) (h48_ : z47_.toInt = 9 + v.toInt) : PN z47_.toInt.toNat t ∧ (z47_.toInt.toNat < 345 ∨ 493 < z47_.toInt.toNat) := by have r_v := rngI v; have r_t := rngI t; have r_z47_ := rngI z47_; unfold PN; omega
theorem lf_c_X12_kind_7  (v : Int32) (z47_ : Int32) (h4_ : 0 ≤ v.toInt ∧ v.toInt ≤ 4) (h48_ : z47_.toInt = 9 + v.toInt) : 0 ≤ z47_.toInt ∧ z47_.toInt ≤ 3566 := by have r_v := rngI v; have r_z47_ := rngI z47_; omega
set_option maxHeartbeats 4000000 in
set_option maxRecDepth 100000 in
theorem c_X12_kind (l : Launch) (G : va_G) (cy : Nat → ClassId) (ad : rf → Nat) (d : Nat) (v : Int32) (u : Int32) (t : Int32) (Mz : mM) (hIz : InvD Mz) : WP DD l G cy ad yX12_kind cX12_kind 4 (some .int) (d + 1) 0 [(0, vR (12, 0, 0)), (1, vI v), (2, vI u), (3, vI t)] [] Mz (fun r M' => InvD M' ∧ FR (S_c_X12_kind) Mz M' ∧ (True) ∧ SP_X12_kind v u t Mz r M') := by
  have hFz : FR (S_c_X12_kind) Mz Mz := FR.self
  refine w_iload_n dX12_kind_0 rfl 1 rfl ?_
  refine w_iconst (v := 0) dX12_kind_1 (by decide) ?_
  refine w_iconst (v := 4) dX12_kind_2 (by decide) ?_
  refine w_callS (as := [vI v, vI 0, vI 4]) (rest := []) (c_X12_within l G cy ad d v 0 4 Mz hIz) kS_X12_within (by decide +kernel) (Nat.le_of_ble_eq_true rfl) m_1427 rfl rfl (by decide) (Nat.le_of_ble_eq_true rfl) dX12_kind_3 (fun r1_ M2_ q3_ => ?_)
  obtain ⟨rfl, h4_, hs5_⟩ := q3_
  rcases h4_ with ⟨rfl, h4_⟩ | ⟨rfl, h4_⟩
  · simp only [li_0, li_4] at h4_
    refine w_if_eq (tgt := 37) dX12_kind_6 (by decide) li_1 (fun h9 => (absurd h9 (by decide))) (fun h6_ => ?_)
    refine w_iload_n dX12_kind_9 rfl 2 rfl ?_
    refine w_iconst (v := 0) dX12_kind_10 (by decide) ?_
    refine w_iconst (v := 1) dX12_kind_11 (by decide) ?_
    refine w_callS (as := [vI u, vI 0, vI 1]) (rest := []) (c_X12_within l G cy ad d u 0 1 Mz hIz) kS_X12_within (by decide +kernel) (Nat.le_of_ble_eq_true rfl) m_1427 rfl rfl (by decide) (Nat.le_of_ble_eq_true rfl) dX12_kind_12 (fun r7_ M8_ q9_ => ?_)
    obtain ⟨rfl, h10_, hs11_⟩ := q9_
    rcases h10_ with ⟨rfl, h10_⟩ | ⟨rfl, h10_⟩
    · simp only [li_0, li_1] at h10_
      refine w_if_eq (tgt := 37) dX12_kind_15 (by decide) li_1 (fun h9 => (absurd h9 (by decide))) (fun h12_ => ?_)
      refine w_iload_n dX12_kind_18 rfl 3 rfl ?_
      refine w_iconst (v := 0) dX12_kind_19 (by decide) ?_
      refine w_iload_n dX12_kind_20 rfl 2 rfl ?_
      refine w_if_ne (tgt := 29) dX12_kind_21 (by decide) (rfl : u.toInt = u.toInt) (fun h13_ => ?_) (fun h13_ => ?_)
      · refine w_bipush (v := 9) dX12_kind_29 (by decide) ?_
        refine w_callS (as := [vI t, vI 0, vI 9]) (rest := []) (c_X12_within l G cy ad d t 0 9 Mz hIz) kS_X12_within (by decide +kernel) (Nat.le_of_ble_eq_true rfl) m_1427 rfl rfl (by decide) (Nat.le_of_ble_eq_true rfl) dX12_kind_31 (fun r14_ M15_ q16_ => ?_)
        obtain ⟨rfl, h17_, hs18_⟩ := q16_
        rcases h17_ with ⟨rfl, h17_⟩ | ⟨rfl, h17_⟩
        · simp only [li_0, li_9] at h17_
          refine w_if_ne (tgt := 44) dX12_kind_34 (by decide) li_1 (fun h19_ => ?_) (fun h9 => (absurd h9 (by decide)))
          refine w_aload_n dX12_kind_44 rfl 0 rfl ?_
          refine w_iload_n dX12_kind_45 rfl 2 rfl ?_
          refine w_if_ne (tgt := 54) dX12_kind_46 (by decide) (rfl : u.toInt = u.toInt) (fun h20_ => ?_) (fun h9 => (lf_c_X12_kind_0 u h10_ h13_ h9).elim)
          refine w_bipush (v := 14) dX12_kind_54 (by decide) ?_
          refine w_iload_n dX12_kind_56 rfl 1 rfl ?_
          refine w_iaddB dX12_kind_57 li_14 (rfl : v.toInt = v.toInt) (lf_c_X12_kind_1 v h4_) (fun z21_ h22_ => ?_)
          refine w_iload_n dX12_kind_58 rfl 3 rfl ?_
          refine w_callV (as := [vI z21_, vI t]) (rest := []) (c_X12_become l G cy ad d z21_ t Mz hIz (lf_c_X12_kind_2 v t z21_ h4_ h17_ h22_) (lf_c_X12_kind_3 v z21_ h4_ h22_)) kV_X12_become (by decide +kernel) (Nat.le_of_ble_eq_true rfl) m_1481 rfl rfl rfl ic_12 rfl rfl (by decide) (Nat.le_of_ble_eq_true rfl) dX12_kind_59 (fun r23_ M24_ q25_ => ?_)
          obtain ⟨hI27_, hF28_, h26_, hs30_⟩ := q25_
          have hF29_ := hFz.tr hF28_ (fun c k => (fun h => h.elim (fun h => (Or.inl ⟨h.1, h.2⟩)) (fun h => h.elim)))
          exact w_iret rfl dX12_kind_62 ⟨hI27_, hF29_, trivial, (Or.inl ⟨hs5_, h4_, (Or.inl ⟨hs11_, h10_, (Or.inl ⟨h13_, (Or.inl ⟨hs18_, h17_, h20_, z21_, h22_, M24_, hI27_, hF28_, r23_, hs30_, rfl, rfl⟩)⟩)⟩)⟩)⟩
        · simp only [li_0, li_9] at h17_
          refine w_if_ne (tgt := 44) dX12_kind_34 (by decide) li_0 (fun h9 => (absurd h9 (by decide))) (fun h31_ => ?_)
          refine w_aload_n dX12_kind_37 rfl 0 rfl ?_
          refine w_ldc (v := (-1000001)) m_1433 dX12_kind_38 ?_
          refine w_callV (as := [vI (-1000001)]) (rest := []) (c_X12_finding l G cy ad d (-1000001) Mz hIz (by first | decide | (unfold vF; omega) | (unfold vRw; omega))) kV_X12_finding (by decide +kernel) (Nat.le_of_ble_eq_true rfl) m_1434 rfl rfl rfl ic_12 rfl rfl (by decide) (Nat.le_of_ble_eq_true rfl) dX12_kind_40 (fun r32_ M33_ q34_ => ?_)
          obtain ⟨hI36_, hF37_, h35_, hs39_⟩ := q34_
          have hF38_ := hFz.tr hF37_ (fun c k => (fun h => h.elim (fun h => (Or.inr (Or.inl ⟨h.1, h.2⟩))) (fun h => h.elim)))
          simp only [li_m1000001] at h35_
          exact w_iret rfl dX12_kind_43 ⟨hI36_, hF38_, trivial, (Or.inl ⟨hs5_, h4_, (Or.inl ⟨hs11_, h10_, (Or.inl ⟨h13_, (Or.inr ⟨hs18_, h17_, M33_, hI36_, hF37_, r32_, hs39_, h35_, rfl, rfl⟩)⟩)⟩)⟩)⟩
      · refine w_bipush (v := 99) dX12_kind_24 (by decide) ?_
        refine w_goto (tgt := 31) dX12_kind_26 (by decide) ?_
        refine w_callS (as := [vI t, vI 0, vI 99]) (rest := []) (c_X12_within l G cy ad d t 0 99 Mz hIz) kS_X12_within (by decide +kernel) (Nat.le_of_ble_eq_true rfl) m_1427 rfl rfl (by decide) (Nat.le_of_ble_eq_true rfl) dX12_kind_31 (fun r40_ M41_ q42_ => ?_)
        obtain ⟨rfl, h43_, hs44_⟩ := q42_
        rcases h43_ with ⟨rfl, h43_⟩ | ⟨rfl, h43_⟩
        · simp only [li_0, li_99] at h43_
          refine w_if_ne (tgt := 44) dX12_kind_34 (by decide) li_1 (fun h45_ => ?_) (fun h9 => (absurd h9 (by decide)))
          refine w_aload_n dX12_kind_44 rfl 0 rfl ?_
          refine w_iload_n dX12_kind_45 rfl 2 rfl ?_
          refine w_if_ne (tgt := 54) dX12_kind_46 (by decide) (rfl : u.toInt = u.toInt) (fun h9 => (lf_c_X12_kind_4 u h10_ h13_ h9).elim) (fun h46_ => ?_)
          refine w_bipush (v := 9) dX12_kind_49 (by decide) ?_
          refine w_goto (tgt := 56) dX12_kind_51 (by decide) ?_
          refine w_iload_n dX12_kind_56 rfl 1 rfl ?_
          refine w_iaddB dX12_kind_57 li_9 (rfl : v.toInt = v.toInt) (lf_c_X12_kind_5 v h4_) (fun z47_ h48_ => ?_)
          refine w_iload_n dX12_kind_58 rfl 3 rfl ?_
          refine w_callV (as := [vI z47_, vI t]) (rest := []) (c_X12_become l G cy ad d z47_ t Mz hIz (lf_c_X12_kind_6 v t z47_ h4_ h43_ h48_) (lf_c_X12_kind_7 v z47_ h4_ h48_)) kV_X12_become (by decide +kernel) (Nat.le_of_ble_eq_true rfl) m_1481 rfl rfl rfl ic_12 rfl rfl (by decide) (Nat.le_of_ble_eq_true rfl) dX12_kind_59 (fun r49_ M50_ q51_ => ?_)
          obtain ⟨hI53_, hF54_, h52_, hs56_⟩ := q51_
          have hF55_ := hFz.tr hF54_ (fun c k => (fun h => h.elim (fun h => (Or.inl ⟨h.1, h.2⟩)) (fun h => h.elim)))
          exact w_iret rfl dX12_kind_62 ⟨hI53_, hF55_, trivial, (Or.inl ⟨hs5_, h4_, (Or.inl ⟨hs11_, h10_, (Or.inr ⟨h13_, (Or.inl ⟨hs44_, h43_, h46_, z47_, h48_, M50_, hI53_, hF54_, r49_, hs56_, rfl, rfl⟩)⟩)⟩)⟩)⟩
        · simp only [li_0, li_99] at h43_
          refine w_if_ne (tgt := 44) dX12_kind_34 (by decide) li_0 (fun h9 => (absurd h9 (by decide))) (fun h57_ => ?_)
          refine w_aload_n dX12_kind_37 rfl 0 rfl ?_
          refine w_ldc (v := (-1000001)) m_1433 dX12_kind_38 ?_
          refine w_callV (as := [vI (-1000001)]) (rest := []) (c_X12_finding l G cy ad d (-1000001) Mz hIz (by first | decide | (unfold vF; omega) | (unfold vRw; omega))) kV_X12_finding (by decide +kernel) (Nat.le_of_ble_eq_true rfl) m_1434 rfl rfl rfl ic_12 rfl rfl (by decide) (Nat.le_of_ble_eq_true rfl) dX12_kind_40 (fun r58_ M59_ q60_ => ?_)
          obtain ⟨hI62_, hF63_, h61_, hs65_⟩ := q60_
          have hF64_ := hFz.tr hF63_ (fun c k => (fun h => h.elim (fun h => (Or.inr (Or.inl ⟨h.1, h.2⟩))) (fun h => h.elim)))
          simp only [li_m1000001] at h61_
          exact w_iret rfl dX12_kind_43 ⟨hI62_, hF64_, trivial, (Or.inl ⟨hs5_, h4_, (Or.inl ⟨hs11_, h10_, (Or.inr ⟨h13_, (Or.inr ⟨hs44_, h43_, M59_, hI62_, hF63_, r58_, hs65_, h61_, rfl, rfl⟩)⟩)⟩)⟩)⟩
    · simp only [li_0, li_1] at h10_
      refine w_if_eq (tgt := 37) dX12_kind_15 (by decide) li_0 (fun h66_ => ?_) (fun h9 => (absurd h9 (by decide)))
      refine w_aload_n dX12_kind_37 rfl 0 rfl ?_
      refine w_ldc (v := (-1000001)) m_1433 dX12_kind_38 ?_
      refine w_callV (as := [vI (-1000001)]) (rest := []) (c_X12_finding l G cy ad d (-1000001) Mz hIz (by first | decide | (unfold vF; omega) | (unfold vRw; omega))) kV_X12_finding (by decide +kernel) (Nat.le_of_ble_eq_true rfl) m_1434 rfl rfl rfl ic_12 rfl rfl (by decide) (Nat.le_of_ble_eq_true rfl) dX12_kind_40 (fun r67_ M68_ q69_ => ?_)
      obtain ⟨hI71_, hF72_, h70_, hs74_⟩ := q69_
      have hF73_ := hFz.tr hF72_ (fun c k => (fun h => h.elim (fun h => (Or.inr (Or.inl ⟨h.1, h.2⟩))) (fun h => h.elim)))
      simp only [li_m1000001] at h70_
      exact w_iret rfl dX12_kind_43 ⟨hI71_, hF73_, trivial, (Or.inl ⟨hs5_, h4_, (Or.inr ⟨hs11_, h10_, M68_, hI71_, hF72_, r67_, hs74_, h70_, rfl, rfl⟩)⟩)⟩
  · simp only [li_0, li_4] at h4_
    refine w_if_eq (tgt := 37) dX12_kind_6 (by decide) li_0 (fun h75_ => ?_) (fun h9 => (absurd h9 (by decide)))
    refine w_aload_n dX12_kind_37 rfl 0 rfl ?_
    refine w_ldc (v := (-1000001)) m_1433 dX12_kind_38 ?_
    refine w_callV (as := [vI (-1000001)]) (rest := []) (c_X12_finding l G cy ad d (-1000001) Mz hIz (by first | decide | (unfold vF; omega) | (unfold vRw; omega))) kV_X12_finding (by decide +kernel) (Nat.le_of_ble_eq_true rfl) m_1434 rfl rfl rfl ic_12 rfl rfl (by decide) (Nat.le_of_ble_eq_true rfl) dX12_kind_40 (fun r76_ M77_ q78_ => ?_)
    obtain ⟨hI80_, hF81_, h79_, hs83_⟩ := q78_
    have hF82_ := hFz.tr hF81_ (fun c k => (fun h => h.elim (fun h => (Or.inr (Or.inl ⟨h.1, h.2⟩))) (fun h => h.elim)))
    simp only [li_m1000001] at h79_
    exact w_iret rfl dX12_kind_43 ⟨hI80_, hF82_, trivial, (Or.inr ⟨hs5_, h4_, M77_, hI80_, hF81_, r76_, hs83_, h79_, rfl, rfl⟩)⟩
def S_c_X12_at : rf → Nat → Prop := fun c k => (c.1 = 53 ∧ c.2.1 = 0) ∨ False
def SP_X12_at (v : Int32) (Mz : mM) (r_ : Int32) (M_ : mM) : Prop := (((SP_X12_isCell v Mz (1 : Int32)) ∧ (0 ≤ v.toInt ∧ v.toInt ≤ 191) ∧ ∃ r7_ : Int32, (SP_X12_in v Mz r7_) ∧ (((-1 ≤ r7_.toInt ∧ r7_.toInt ≤ 39) ∨ (100 ≤ r7_.toInt ∧ r7_.toInt ≤ 107))) ∧ r_ = r7_ ∧ M_ = Mz) ∨ ((SP_X12_isCell v Mz (0 : Int32)) ∧ (¬ (0 ≤ v.toInt ∧ v.toInt ≤ 191)) ∧ ∃ M14_ : mM, (InvD M14_) ∧ (FR (S_c_X12_finding) Mz M14_) ∧ ∃ r13_ : Int32, (SP_X12_finding (-1000001) Mz r13_ M14_) ∧ (r13_.toInt = (-1000001)) ∧ r_ = r13_ ∧ M_ = M14_))
set_option maxHeartbeats 4000000 in
set_option maxRecDepth 100000 in
theorem c_X12_at (l : Launch) (G : va_G) (cy : Nat → ClassId) (ad : rf → Nat) (d : Nat) (v : Int32) (Mz : mM) (hIz : InvD Mz) : WP DD l G cy ad yX12_at cX12_at 2 (some .int) (d + 2) 0 [(0, vR (12, 0, 0)), (1, vI v)] [] Mz (fun r M' => InvD M' ∧ FR (S_c_X12_at) Mz M' ∧ (True) ∧ SP_X12_at v Mz r M') := by
  have hFz : FR (S_c_X12_at) Mz Mz := FR.self
  refine w_iload_n dX12_at_0 rfl 1 rfl ?_
  refine w_callS (as := [vI v]) (rest := []) (c_X12_isCell l G cy ad d v Mz hIz) kS_X12_isCell (by decide +kernel) (Nat.le_of_ble_eq_true rfl) m_1430 rfl rfl (by decide) (Nat.le_of_ble_eq_true rfl) dX12_at_1 (fun r1_ M2_ q3_ => ?_)
  obtain ⟨rfl, h4_, hs5_⟩ := q3_
  rcases h4_ with ⟨rfl, h4_⟩ | ⟨rfl, h4_⟩
  · refine w_if_eq (tgt := 15) dX12_at_4 (by decide) li_1 (fun h9 => (absurd h9 (by decide))) (fun h6_ => ?_)
    refine w_aload_n dX12_at_7 rfl 0 rfl ?_
    refine w_iload_n dX12_at_8 rfl 1 rfl ?_
    refine w_callV (as := [vI v]) (rest := []) (c_X12_in l G cy ad d v Mz hIz) kV_X12_in (by decide +kernel) (Nat.le_of_ble_eq_true rfl) m_1443 rfl rfl rfl ic_12 rfl rfl (by decide) (Nat.le_of_ble_eq_true rfl) dX12_at_9 (fun r7_ M8_ q9_ => ?_)
    obtain ⟨rfl, h10_, hs11_⟩ := q9_
    refine w_goto (tgt := 21) dX12_at_12 (by decide) ?_
    exact w_iret rfl dX12_at_21 ⟨hIz, hFz, trivial, (Or.inl ⟨hs5_, h4_, r7_, hs11_, h10_, rfl, rfl⟩)⟩
  · refine w_if_eq (tgt := 15) dX12_at_4 (by decide) li_0 (fun h12_ => ?_) (fun h9 => (absurd h9 (by decide)))
    refine w_aload_n dX12_at_15 rfl 0 rfl ?_
    refine w_ldc (v := (-1000001)) m_1433 dX12_at_16 ?_
    refine w_callV (as := [vI (-1000001)]) (rest := []) (c_X12_finding l G cy ad (d + 1) (-1000001) Mz hIz (by first | decide | (unfold vF; omega) | (unfold vRw; omega))) kV_X12_finding (by decide +kernel) (Nat.le_of_ble_eq_true rfl) m_1434 rfl rfl rfl ic_12 rfl rfl (by decide) (Nat.le_of_ble_eq_true rfl) dX12_at_18 (fun r13_ M14_ q15_ => ?_)
    obtain ⟨hI17_, hF18_, h16_, hs20_⟩ := q15_
    have hF19_ := hFz.tr hF18_ (fun c k => (fun h => h.elim (fun h => (Or.inl ⟨h.1, h.2⟩)) (fun h => h.elim)))
    simp only [li_m1000001] at h16_
    exact w_iret rfl dX12_at_21 ⟨hI17_, hF19_, trivial, (Or.inr ⟨hs5_, h4_, M14_, hI17_, hF18_, r13_, hs20_, h16_, rfl, rfl⟩)⟩
def S_c_X12_lays : rf → Nat → Prop := fun c k => (c.1 = 50 ∧ c.2.1 = 0) ∨ (c.1 = 53 ∧ c.2.1 = 0) ∨ False
def ST_X12_lays_81 (v : Int32) (u : Int32) (Mz : mM) (v4_81 : Int32) (v3_81 : Int32) (M_81 : mM) (v4_81y : Int32) (v3_81y : Int32) (M_81y : mM) : Prop := (0 ≤ v4_81.toInt) ∧ (InvD M_81) ∧ (FR (S_c_X12_lays) Mz M_81) ∧ ∃ j33_ : Nat, ((j33_ : Int) = v.toInt) ∧ ∃ z31_ : Int32, (z31_ = M_81.1 (67, 0, 0) j33_) ∧ (0 ≤ z31_.toInt ∧ z31_.toInt ≤ 24) ∧ (z31_.toInt ≤ 16) ∧ (v4_81.toInt < z31_.toInt) ∧ ∃ z38_ : Int32, (z38_.toInt = 24 * v.toInt) ∧ ∃ z40_ : Int32, (z40_.toInt = z38_.toInt + v4_81.toInt) ∧ ∃ j44_ : Nat, ((j44_ : Int) = z40_.toInt) ∧ ∃ z42_ : Int32, (z42_ = M_81.1 (68, 0, 0) j44_) ∧ (((SP_X12_within z42_ 1 5 M_81 (1 : Int32)) ∧ (1 ≤ z42_.toInt ∧ z42_.toInt ≤ 5) ∧ ∃ z52_ : Int32, (z52_ = M_81.1 (50, 0, 0) 1) ∧ (0 ≤ z52_.toInt ∧ z52_.toInt ≤ 40) ∧ (((40 ≤ z52_.toInt) ∧ ∃ z56_ : Int32, (z56_.toInt = v4_81.toInt + 1) ∧ v4_81y = z56_ ∧ v3_81y = v3_81 ∧ M_81y = M_81) ∨ ((z52_.toInt < 40) ∧ ∃ z58_ : Int32, (z58_.toInt = 16 * u.toInt) ∧ ∃ z60_ : Int32, (z60_.toInt = z58_.toInt + v4_81.toInt) ∧ ∃ r62_ : Int32, (SP_X12_isFree z60_ M_81 r62_) ∧ ((0 ≤ r62_.toInt ∧ r62_.toInt ≤ 1)) ∧ (((r62_.toInt = 0) ∧ ∃ z68_ : Int32, (z68_.toInt = v4_81.toInt + 1) ∧ v4_81y = z68_ ∧ v3_81y = v3_81 ∧ M_81y = M_81) ∨ ((¬ r62_.toInt = 0) ∧ ∃ z70_ : Int32, (z70_.toInt = z42_.toInt - 1) ∧ ∃ z72_ : Int32, (z72_.toInt = 16 * u.toInt) ∧ ∃ z74_ : Int32, (z74_.toInt = z72_.toInt + v4_81.toInt) ∧ ∃ M77_ : mM, (InvD M77_) ∧ (FR (S_c_X12_comes) M_81 M77_) ∧ ∃ r76_ : Int32, (SP_X12_comes z70_ z74_ M_81 r76_ M77_) ∧ (0 ≤ r76_.toInt ∧ r76_.toInt ≤ 39) ∧ ∃ z85_ : Int32, (z85_ = v3_81 + Int32.ofInt 1) ∧ ∃ z87_ : Int32, (z87_.toInt = v4_81.toInt + 1) ∧ v4_81y = z87_ ∧ v3_81y = z85_ ∧ M_81y = M77_))))) ∨ ((SP_X12_within z42_ 1 5 M_81 (0 : Int32)) ∧ (¬ (1 ≤ z42_.toInt ∧ z42_.toInt ≤ 5)) ∧ ∃ z90_ : Int32, (z90_.toInt = v4_81.toInt + 1) ∧ v4_81y = z90_ ∧ v3_81y = v3_81 ∧ M_81y = M_81))
def SP_X12_lays (v : Int32) (u : Int32) (Mz : mM) (r_ : Int32) (M_ : mM) : Prop := (((SP_X12_isSheet v Mz (1 : Int32)) ∧ (0 ≤ v.toInt ∧ v.toInt ≤ 3) ∧ (((SP_X12_within u 0 11 Mz (1 : Int32)) ∧ (0 ≤ u.toInt ∧ u.toInt ≤ 11) ∧ ∃ j15_ : Nat, ((j15_ : Int) = v.toInt) ∧ ∃ z13_ : Int32, (z13_ = Mz.1 (66, 0, 0) j15_) ∧ (((¬ z13_.toInt = 0) ∧ ∃ j20_ : Nat, ((j20_ : Int) = v.toInt) ∧ ∃ z18_ : Int32, (z18_ = Mz.1 (66, 0, 0) j20_) ∧ (((z18_.toInt = 8) ∧ ∃ j25_ : Nat, ((j25_ : Int) = v.toInt) ∧ ∃ z23_ : Int32, (z23_ = Mz.1 (67, 0, 0) j25_) ∧ (0 ≤ z23_.toInt ∧ z23_.toInt ≤ 24) ∧ (((z23_.toInt ≤ 16) ∧ ∃ v4_81 : Int32, (0 ≤ v4_81.toInt) ∧ ∃ v3_81 : Int32, ∃ M_81 : mM, (RCH (fun x_ y_ => ST_X12_lays_81 v u Mz x_.1 x_.2.1 x_.2.2 y_.1 y_.2.1 y_.2.2) ((0 : Int32), (0 : Int32), Mz) (v4_81, v3_81, M_81)) ∧ (InvD M_81) ∧ (FR (S_c_X12_lays) Mz M_81) ∧ ∃ j33_ : Nat, ((j33_ : Int) = v.toInt) ∧ ∃ z31_ : Int32, (z31_ = M_81.1 (67, 0, 0) j33_) ∧ (0 ≤ z31_.toInt ∧ z31_.toInt ≤ 24) ∧ (z31_.toInt ≤ 16) ∧ (z31_.toInt ≤ v4_81.toInt) ∧ r_ = v3_81 ∧ M_ = M_81) ∨ ((16 < z23_.toInt) ∧ ∃ M93_ : mM, (InvD M93_) ∧ (FR (S_c_X12_finding) Mz M93_) ∧ ∃ r92_ : Int32, (SP_X12_finding (-1000003) Mz r92_ M93_) ∧ (r92_.toInt = (-1000003)) ∧ r_ = r92_ ∧ M_ = M93_))) ∨ ((¬ z18_.toInt = 8) ∧ ∃ M101_ : mM, (InvD M101_) ∧ (FR (S_c_X12_finding) Mz M101_) ∧ ∃ r100_ : Int32, (SP_X12_finding (-1000005) Mz r100_ M101_) ∧ (r100_.toInt = (-1000005)) ∧ r_ = r100_ ∧ M_ = M101_))) ∨ ((z13_.toInt = 0) ∧ ∃ M109_ : mM, (InvD M109_) ∧ (FR (S_c_X12_finding) Mz M109_) ∧ ∃ r108_ : Int32, (SP_X12_finding (-1000002) Mz r108_ M109_) ∧ (r108_.toInt = (-1000002)) ∧ r_ = r108_ ∧ M_ = M109_))) ∨ ((SP_X12_within u 0 11 Mz (0 : Int32)) ∧ (¬ (0 ≤ u.toInt ∧ u.toInt ≤ 11)) ∧ ∃ M118_ : mM, (InvD M118_) ∧ (FR (S_c_X12_finding) Mz M118_) ∧ ∃ r117_ : Int32, (SP_X12_finding (-1000001) Mz r117_ M118_) ∧ (r117_.toInt = (-1000001)) ∧ r_ = r117_ ∧ M_ = M118_))) ∨ ((SP_X12_isSheet v Mz (0 : Int32)) ∧ (¬ (0 ≤ v.toInt ∧ v.toInt ≤ 3)) ∧ ∃ M127_ : mM, (InvD M127_) ∧ (FR (S_c_X12_finding) Mz M127_) ∧ ∃ r126_ : Int32, (SP_X12_finding (-1000001) Mz r126_ M127_) ∧ (r126_.toInt = (-1000001)) ∧ r_ = r126_ ∧ M_ = M127_))
theorem lf_c_X12_lays_0  (v : Int32) (h4_ : 0 ≤ v.toInt ∧ v.toInt ≤ 3) : 0 ≤ v.toInt ∧ v.toInt < ((4 : Nat) : Int) := by have r_v := rngI v; omega
theorem lf_c_X12_lays_1 (Mz : mM) (v : Int32) (j15_ : Nat) (z13_ : Int32) (h4_ : 0 ≤ v.toInt ∧ v.toInt ≤ 3) (h16_ : (j15_ : Int) = v.toInt) (e14_ : z13_ = Mz.1 (66, 0, 0) j15_) (h17_ : ¬ z13_.toInt = 0) : 0 ≤ v.toInt ∧ v.toInt < ((4 : Nat) : Int) := by have r_v := rngI v; have r_z13_ := rngI z13_; subst e14_; omega
theorem lf_c_X12_lays_2 (Mz : mM) (v : Int32) (j15_ : Nat) (z13_ : Int32) (j20_ : Nat) (z18_ : Int32) (h4_ : 0 ≤ v.toInt ∧ v.toInt ≤ 3) (h16_ : (j15_ : Int) = v.toInt) (e14_ : z13_ = Mz.1 (66, 0, 0) j15_) (h17_ : ¬ z13_.toInt = 0) (h21_ : (j20_ : Int) = v.toInt) (e19_ : z18_ = Mz.1 (66, 0, 0) j20_) (h22_ : z18_.toInt = 8) : 0 ≤ v.toInt ∧ v.toInt < ((4 : Nat) : Int) := by have r_v := rngI v; have r_z13_ := rngI z13_; have r_z18_ := rngI z18_; subst e14_; subst e19_; omega
theorem lf_c_X12_lays_3 (Mz : mM) (v : Int32) (j15_ : Nat) (z13_ : Int32) (j20_ : Nat) (z18_ : Int32) (j25_ : Nat) (z23_ : Int32) (h4_ : 0 ≤ v.toInt ∧ v.toInt ≤ 3) (h16_ : (j15_ : Int) = v.toInt) (e14_ : z13_ = Mz.1 (66, 0, 0) j15_) (h17_ : ¬ z13_.toInt = 0) (h21_ : (j20_ : Int) = v.toInt) (e19_ : z18_ = Mz.1 (66, 0, 0) j20_) (h22_ : z18_.toInt = 8) (h26_ : (j25_ : Int) = v.toInt) (e24_ : z23_ = Mz.1 (67, 0, 0) j25_) (h27_ : 0 ≤ z23_.toInt ∧ z23_.toInt ≤ 24) (h28_ : z23_.toInt ≤ 16) : v.toInt = (j25_ : Int) := by have r_v := rngI v; have r_z13_ := rngI z13_; have r_z18_ := rngI z18_; have r_z23_ := rngI z23_; subst e14_; subst e19_; subst e24_; omega
theorem lf_c_X12_lays_4 (Mz : mM) (v : Int32) (j15_ : Nat) (z13_ : Int32) (j20_ : Nat) (z18_ : Int32) (j25_ : Nat) (z23_ : Int32) (h4_ : 0 ≤ v.toInt ∧ v.toInt ≤ 3) (h16_ : (j15_ : Int) = v.toInt) (e14_ : z13_ = Mz.1 (66, 0, 0) j15_) (h17_ : ¬ z13_.toInt = 0) (h21_ : (j20_ : Int) = v.toInt) (e19_ : z18_ = Mz.1 (66, 0, 0) j20_) (h22_ : z18_.toInt = 8) (h26_ : (j25_ : Int) = v.toInt) (e24_ : z23_ = Mz.1 (67, 0, 0) j25_) (h27_ : 0 ≤ z23_.toInt ∧ z23_.toInt ≤ 24) (h28_ : z23_.toInt ≤ 16) : z23_.toInt ≤ 16 := by have r_v := rngI v; have r_z13_ := rngI z13_; have r_z18_ := rngI z18_; have r_z23_ := rngI z23_; subst e14_; subst e19_; subst e24_; omega
theorem lf_c_X12_lays_5 (M_81 : mM) (Mz : mM) (v : Int32) (j15_ : Nat) (z13_ : Int32) (j20_ : Nat) (z18_ : Int32) (j25_ : Nat) (z23_ : Int32) (h4_ : 0 ≤ v.toInt ∧ v.toInt ≤ 3) (h16_ : (j15_ : Int) = v.toInt) (e14_ : z13_ = Mz.1 (66, 0, 0) j15_) (h17_ : ¬ z13_.toInt = 0) (h21_ : (j20_ : Int) = v.toInt) (e19_ : z18_ = Mz.1 (66, 0, 0) j20_) (h22_ : z18_.toInt = 8) (h26_ : (j25_ : Int) = v.toInt) (e24_ : z23_ = Mz.1 (67, 0, 0) j25_) (h27_ : 0 ≤ z23_.toInt ∧ z23_.toInt ≤ 24) (h28_ : z23_.toInt ≤ 16) (kf29_ : SZ (Mz.1 (67, 0, 0)) v 16) (kv0_81 : SZ (M_81.1 (67, 0, 0)) v 16) : 0 ≤ v.toInt ∧ v.toInt < ((4 : Nat) : Int) := by have r_v := rngI v; have r_z13_ := rngI z13_; have r_z18_ := rngI z18_; have r_z23_ := rngI z23_; subst e14_; subst e19_; subst e24_; omega
theorem lf_c_X12_lays_6 (M_81 : mM) (Mz : mM) (v : Int32) (j15_ : Nat) (z13_ : Int32) (j20_ : Nat) (z18_ : Int32) (j25_ : Nat) (z23_ : Int32) (j33_ : Nat) (z31_ : Int32) (h4_ : 0 ≤ v.toInt ∧ v.toInt ≤ 3) (h16_ : (j15_ : Int) = v.toInt) (e14_ : z13_ = Mz.1 (66, 0, 0) j15_) (h17_ : ¬ z13_.toInt = 0) (h21_ : (j20_ : Int) = v.toInt) (e19_ : z18_ = Mz.1 (66, 0, 0) j20_) (h22_ : z18_.toInt = 8) (h26_ : (j25_ : Int) = v.toInt) (e24_ : z23_ = Mz.1 (67, 0, 0) j25_) (h27_ : 0 ≤ z23_.toInt ∧ z23_.toInt ≤ 24) (h28_ : z23_.toInt ≤ 16) (kf29_ : SZ (Mz.1 (67, 0, 0)) v 16) (kv0_81 : SZ (M_81.1 (67, 0, 0)) v 16) (h34_ : (j33_ : Int) = v.toInt) (e32_ : z31_ = M_81.1 (67, 0, 0) j33_) (h35_ : 0 ≤ z31_.toInt ∧ z31_.toInt ≤ 24) : (j33_ : Int) = v.toInt := by have r_v := rngI v; have r_z13_ := rngI z13_; have r_z18_ := rngI z18_; have r_z23_ := rngI z23_; have r_z31_ := rngI z31_; subst e14_; subst e19_; subst e24_; subst e32_; omega
theorem lf_c_X12_lays_7 (M_81 : mM) (Mz : mM) (v : Int32) (j15_ : Nat) (z13_ : Int32) (j20_ : Nat) (z18_ : Int32) (j25_ : Nat) (z23_ : Int32) (v4_81 : Int32) (j33_ : Nat) (z31_ : Int32) (h4_ : 0 ≤ v.toInt ∧ v.toInt ≤ 3) (h16_ : (j15_ : Int) = v.toInt) (e14_ : z13_ = Mz.1 (66, 0, 0) j15_) (h17_ : ¬ z13_.toInt = 0) (h21_ : (j20_ : Int) = v.toInt) (e19_ : z18_ = Mz.1 (66, 0, 0) j20_) (h22_ : z18_.toInt = 8) (h26_ : (j25_ : Int) = v.toInt) (e24_ : z23_ = Mz.1 (67, 0, 0) j25_) (h27_ : 0 ≤ z23_.toInt ∧ z23_.toInt ≤ 24) (h28_ : z23_.toInt ≤ 16) (kf29_ : SZ (Mz.1 (67, 0, 0)) v 16) (hv0_81 : 0 ≤ v4_81.toInt) (kv0_81 : SZ (M_81.1 (67, 0, 0)) v 16) (h34_ : (j33_ : Int) = v.toInt) (e32_ : z31_ = M_81.1 (67, 0, 0) j33_) (h35_ : 0 ≤ z31_.toInt ∧ z31_.toInt ≤ 24) (h36_ : z31_.toInt ≤ 16) (h37_ : v4_81.toInt < z31_.toInt) : -2147483648 ≤ 24 * v.toInt ∧ 24 * v.toInt < 2147483648 := by have r_v := rngI v; have r_z13_ := rngI z13_; have r_z18_ := rngI z18_; have r_z23_ := rngI z23_; have r_v4_81 := rngI v4_81; have r_z31_ := rngI z31_; subst e14_; subst e19_; subst e24_; subst e32_; omega
theorem lf_c_X12_lays_8 (M_81 : mM) (Mz : mM) (v : Int32) (j15_ : Nat) (z13_ : Int32) (j20_ : Nat) (z18_ : Int32) (j25_ : Nat) (z23_ : Int32) (v4_81 : Int32) (j33_ : Nat) (z31_ : Int32) (z38_ : Int32) (h4_ : 0 ≤ v.toInt ∧ v.toInt ≤ 3) (h16_ : (j15_ : Int) = v.toInt) (e14_ : z13_ = Mz.1 (66, 0, 0) j15_) (h17_ : ¬ z13_.toInt = 0) (h21_ : (j20_ : Int) = v.toInt) (e19_ : z18_ = Mz.1 (66, 0, 0) j20_) (h22_ : z18_.toInt = 8) (h26_ : (j25_ : Int) = v.toInt) (e24_ : z23_ = Mz.1 (67, 0, 0) j25_) (h27_ : 0 ≤ z23_.toInt ∧ z23_.toInt ≤ 24) (h28_ : z23_.toInt ≤ 16) (kf29_ : SZ (Mz.1 (67, 0, 0)) v 16) (hv0_81 : 0 ≤ v4_81.toInt) (kv0_81 : SZ (M_81.1 (67, 0, 0)) v 16) (h34_ : (j33_ : Int) = v.toInt) (e32_ : z31_ = M_81.1 (67, 0, 0) j33_) (h35_ : 0 ≤ z31_.toInt ∧ z31_.toInt ≤ 24) (h36_ : z31_.toInt ≤ 16) (h37_ : v4_81.toInt < z31_.toInt) (h39_ : z38_.toInt = 24 * v.toInt) : -2147483648 ≤ z38_.toInt + v4_81.toInt ∧ z38_.toInt + v4_81.toInt < 2147483648 := by have r_v := rngI v; have r_z13_ := rngI z13_; have r_z18_ := rngI z18_; have r_z23_ := rngI z23_; have r_v4_81 := rngI v4_81; have r_z31_ := rngI z31_; have r_z38_ := rngI z38_; subst e14_; subst e19_; subst e24_; subst e32_; omega
theorem lf_c_X12_lays_9 (M_81 : mM) (Mz : mM) (v : Int32) (j15_ : Nat) (z13_ : Int32) (j20_ : Nat) (z18_ : Int32) (j25_ : Nat) (z23_ : Int32) (v4_81 : Int32) (j33_ : Nat) (z31_ : Int32) (z38_ : Int32) (z40_ : Int32) (h4_ : 0 ≤ v.toInt ∧ v.toInt ≤ 3) (h16_ : (j15_ : Int) = v.toInt) (e14_ : z13_ = Mz.1 (66, 0, 0) j15_) (h17_ : ¬ z13_.toInt = 0) (h21_ : (j20_ : Int) = v.toInt) (e19_ : z18_ = Mz.1 (66, 0, 0) j20_) (h22_ : z18_.toInt = 8) (h26_ : (j25_ : Int) = v.toInt) (e24_ : z23_ = Mz.1 (67, 0, 0) j25_) (h27_ : 0 ≤ z23_.toInt ∧ z23_.toInt ≤ 24) (h28_ : z23_.toInt ≤ 16) (kf29_ : SZ (Mz.1 (67, 0, 0)) v 16) (hv0_81 : 0 ≤ v4_81.toInt) (kv0_81 : SZ (M_81.1 (67, 0, 0)) v 16) (h34_ : (j33_ : Int) = v.toInt) (e32_ : z31_ = M_81.1 (67, 0, 0) j33_) (h35_ : 0 ≤ z31_.toInt ∧ z31_.toInt ≤ 24) (h36_ : z31_.toInt ≤ 16) (h37_ : v4_81.toInt < z31_.toInt) (h39_ : z38_.toInt = 24 * v.toInt) (h41_ : z40_.toInt = z38_.toInt + v4_81.toInt) : 0 ≤ z40_.toInt ∧ z40_.toInt < ((96 : Nat) : Int) := by have r_v := rngI v; have r_z13_ := rngI z13_; have r_z18_ := rngI z18_; have r_z23_ := rngI z23_; have r_v4_81 := rngI v4_81; have r_z31_ := rngI z31_; have r_z38_ := rngI z38_; have r_z40_ := rngI z40_; subst e14_; subst e19_; subst e24_; subst e32_; omega
theorem lf_c_X12_lays_10 (M_81 : mM) (Mz : mM) (v : Int32) (j15_ : Nat) (z13_ : Int32) (j20_ : Nat) (z18_ : Int32) (j25_ : Nat) (z23_ : Int32) (v4_81 : Int32) (j33_ : Nat) (z31_ : Int32) (z38_ : Int32) (z40_ : Int32) (j44_ : Nat) (z42_ : Int32) (h4_ : 0 ≤ v.toInt ∧ v.toInt ≤ 3) (h16_ : (j15_ : Int) = v.toInt) (e14_ : z13_ = Mz.1 (66, 0, 0) j15_) (h17_ : ¬ z13_.toInt = 0) (h21_ : (j20_ : Int) = v.toInt) (e19_ : z18_ = Mz.1 (66, 0, 0) j20_) (h22_ : z18_.toInt = 8) (h26_ : (j25_ : Int) = v.toInt) (e24_ : z23_ = Mz.1 (67, 0, 0) j25_) (h27_ : 0 ≤ z23_.toInt ∧ z23_.toInt ≤ 24) (h28_ : z23_.toInt ≤ 16) (kf29_ : SZ (Mz.1 (67, 0, 0)) v 16) (hv0_81 : 0 ≤ v4_81.toInt) (kv0_81 : SZ (M_81.1 (67, 0, 0)) v 16) (h34_ : (j33_ : Int) = v.toInt) (e32_ : z31_ = M_81.1 (67, 0, 0) j33_) (h35_ : 0 ≤ z31_.toInt ∧ z31_.toInt ≤ 24) (h36_ : z31_.toInt ≤ 16) (h37_ : v4_81.toInt < z31_.toInt) (h39_ : z38_.toInt = 24 * v.toInt) (h41_ : z40_.toInt = z38_.toInt + v4_81.toInt) (h45_ : (j44_ : Int) = z40_.toInt) (e43_ : z42_ = M_81.1 (68, 0, 0) j44_) (h49_ : 1 ≤ z42_.toInt ∧ z42_.toInt ≤ 5) : -2147483648 ≤ v4_81.toInt + 1 ∧ v4_81.toInt + 1 < 2147483648 := by have r_v := rngI v; have r_z13_ := rngI z13_; have r_z18_ := rngI z18_; have r_z23_ := rngI z23_; have r_v4_81 := rngI v4_81; have r_z31_ := rngI z31_; have r_z38_ := rngI z38_; have r_z40_ := rngI z40_; have r_z42_ := rngI z42_; subst e14_; subst e19_; subst e24_; subst e32_; subst e43_; omega
theorem lf_c_X12_lays_11 (M_81 : mM) (Mz : mM) (v : Int32) (j15_ : Nat) (z13_ : Int32) (j20_ : Nat) (z18_ : Int32) (j25_ : Nat) (z23_ : Int32) (v4_81 : Int32) (j33_ : Nat) (z31_ : Int32) (z38_ : Int32) (z40_ : Int32) (j44_ : Nat) (z42_ : Int32) (z56_ : Int32) (h4_ : 0 ≤ v.toInt ∧ v.toInt ≤ 3) (h16_ : (j15_ : Int) = v.toInt) (e14_ : z13_ = Mz.1 (66, 0, 0) j15_) (h17_ : ¬ z13_.toInt = 0) (h21_ : (j20_ : Int) = v.toInt) (e19_ : z18_ = Mz.1 (66, 0, 0) j20_) (h22_ : z18_.toInt = 8) (h26_ : (j25_ : Int) = v.toInt) (e24_ : z23_ = Mz.1 (67, 0, 0) j25_) (h27_ : 0 ≤ z23_.toInt ∧ z23_.toInt ≤ 24) (h28_ : z23_.toInt ≤ 16) (kf29_ : SZ (Mz.1 (67, 0, 0)) v 16) (hv0_81 : 0 ≤ v4_81.toInt) (kv0_81 : SZ (M_81.1 (67, 0, 0)) v 16) (h34_ : (j33_ : Int) = v.toInt) (e32_ : z31_ = M_81.1 (67, 0, 0) j33_) (h35_ : 0 ≤ z31_.toInt ∧ z31_.toInt ≤ 24) (h36_ : z31_.toInt ≤ 16) (h37_ : v4_81.toInt < z31_.toInt) (h39_ : z38_.toInt = 24 * v.toInt) (h41_ : z40_.toInt = z38_.toInt + v4_81.toInt) (h45_ : (j44_ : Int) = z40_.toInt) (e43_ : z42_ = M_81.1 (68, 0, 0) j44_) (h49_ : 1 ≤ z42_.toInt ∧ z42_.toInt ≤ 5) (h57_ : z56_.toInt = v4_81.toInt + 1) : 0 ≤ z56_.toInt := by have r_v := rngI v; have r_z13_ := rngI z13_; have r_z18_ := rngI z18_; have r_z23_ := rngI z23_; have r_v4_81 := rngI v4_81; have r_z31_ := rngI z31_; have r_z38_ := rngI z38_; have r_z40_ := rngI z40_; have r_z42_ := rngI z42_; have r_z56_ := rngI z56_; subst e14_; subst e19_; subst e24_; subst e32_; subst e43_; omega
theorem lf_c_X12_lays_12 (M_81 : mM) (Mz : mM) (v : Int32) (j15_ : Nat) (z13_ : Int32) (j20_ : Nat) (z18_ : Int32) (j25_ : Nat) (z23_ : Int32) (v4_81 : Int32) (j33_ : Nat) (z31_ : Int32) (z38_ : Int32) (z40_ : Int32) (j44_ : Nat) (z42_ : Int32) (z56_ : Int32) (h4_ : 0 ≤ v.toInt ∧ v.toInt ≤ 3) (h16_ : (j15_ : Int) = v.toInt) (e14_ : z13_ = Mz.1 (66, 0, 0) j15_) (h17_ : ¬ z13_.toInt = 0) (h21_ : (j20_ : Int) = v.toInt) (e19_ : z18_ = Mz.1 (66, 0, 0) j20_) (h22_ : z18_.toInt = 8) (h26_ : (j25_ : Int) = v.toInt) (e24_ : z23_ = Mz.1 (67, 0, 0) j25_) (h27_ : 0 ≤ z23_.toInt ∧ z23_.toInt ≤ 24) (h28_ : z23_.toInt ≤ 16) (kf29_ : SZ (Mz.1 (67, 0, 0)) v 16) (hv0_81 : 0 ≤ v4_81.toInt) (kv0_81 : SZ (M_81.1 (67, 0, 0)) v 16) (h34_ : (j33_ : Int) = v.toInt) (e32_ : z31_ = M_81.1 (67, 0, 0) j33_) (h35_ : 0 ≤ z31_.toInt ∧ z31_.toInt ≤ 24) (h36_ : z31_.toInt ≤ 16) (h37_ : v4_81.toInt < z31_.toInt) (h39_ : z38_.toInt = 24 * v.toInt) (h41_ : z40_.toInt = z38_.toInt + v4_81.toInt) (h45_ : (j44_ : Int) = z40_.toInt) (e43_ : z42_ = M_81.1 (68, 0, 0) j44_) (h49_ : 1 ≤ z42_.toInt ∧ z42_.toInt ≤ 5) (h57_ : z56_.toInt = v4_81.toInt + 1) : (2147483648 - z56_.toInt).toNat < (2147483648 - v4_81.toInt).toNat := by have r_v := rngI v; have r_z13_ := rngI z13_; have r_z18_ := rngI z18_; have r_z23_ := rngI z23_; have r_v4_81 := rngI v4_81; have r_z31_ := rngI z31_; have r_z38_ := rngI z38_; have r_z40_ := rngI z40_; have r_z42_ := rngI z42_; have r_z56_ := rngI z56_; subst e14_; subst e19_; subst e24_; subst e32_; subst e43_; omega
theorem lf_c_X12_lays_13  (u : Int32) (h10_ : 0 ≤ u.toInt ∧ u.toInt ≤ 11) : -2147483648 ≤ 16 * u.toInt ∧ 16 * u.toInt < 2147483648 := by have r_u := rngI u; omega
theorem lf_c_X12_lays_14 (M_81 : mM) (Mz : mM) (v : Int32) (u : Int32) (j15_ : Nat) (z13_ : Int32) (j20_ : Nat) (z18_ : Int32) (j25_ : Nat) (z23_ : Int32) (v4_81 : Int32) (j33_ : Nat) (z31_ : Int32) (z38_ : Int32) (z40_ : Int32) (j44_ : Nat) (z42_ : Int32) (z58_ : Int32) (h4_ : 0 ≤ v.toInt ∧ v.toInt ≤ 3) (h10_ : 0 ≤ u.toInt ∧ u.toInt ≤ 11) (h16_ : (j15_ : Int) = v.toInt) (e14_ : z13_ = Mz.1 (66, 0, 0) j15_) (h17_ : ¬ z13_.toInt = 0) (h21_ : (j20_ : Int) = v.toInt) (e19_ : z18_ = Mz.1 (66, 0, 0) j20_) (h22_ : z18_.toInt = 8) (h26_ : (j25_ : Int) = v.toInt) (e24_ : z23_ = Mz.1 (67, 0, 0) j25_) (h27_ : 0 ≤ z23_.toInt ∧ z23_.toInt ≤ 24) (h28_ : z23_.toInt ≤ 16) (kf29_ : SZ (Mz.1 (67, 0, 0)) v 16) (hv0_81 : 0 ≤ v4_81.toInt) (kv0_81 : SZ (M_81.1 (67, 0, 0)) v 16) (h34_ : (j33_ : Int) = v.toInt) (e32_ : z31_ = M_81.1 (67, 0, 0) j33_) (h35_ : 0 ≤ z31_.toInt ∧ z31_.toInt ≤ 24) (h36_ : z31_.toInt ≤ 16) (h37_ : v4_81.toInt < z31_.toInt) (h39_ : z38_.toInt = 24 * v.toInt) (h41_ : z40_.toInt = z38_.toInt + v4_81.toInt) (h45_ : (j44_ : Int) = z40_.toInt) (e43_ : z42_ = M_81.1 (68, 0, 0) j44_) (h49_ : 1 ≤ z42_.toInt ∧ z42_.toInt ≤ 5) (h59_ : z58_.toInt = 16 * u.toInt) : -2147483648 ≤ z58_.toInt + v4_81.toInt ∧ z58_.toInt + v4_81.toInt < 2147483648 := by have r_v := rngI v; have r_u := rngI u; have r_z13_ := rngI z13_; have r_z18_ := rngI z18_; have r_z23_ := rngI z23_; have r_v4_81 := rngI v4_81; have r_z31_ := rngI z31_; have r_z38_ := rngI z38_; have r_z40_ := rngI z40_; have r_z42_ := rngI z42_; have r_z58_ := rngI z58_; subst e14_; subst e19_; subst e24_; subst e32_; subst e43_; omega
theorem lf_c_X12_lays_15 (M_81 : mM) (Mz : mM) (v : Int32) (u : Int32) (j15_ : Nat) (z13_ : Int32) (j20_ : Nat) (z18_ : Int32) (j25_ : Nat) (z23_ : Int32) (v4_81 : Int32) (j33_ : Nat) (z31_ : Int32) (z38_ : Int32) (z40_ : Int32) (j44_ : Nat) (z42_ : Int32) (z58_ : Int32) (z60_ : Int32) (h4_ : 0 ≤ v.toInt ∧ v.toInt ≤ 3) (h10_ : 0 ≤ u.toInt ∧ u.toInt ≤ 11) (h16_ : (j15_ : Int) = v.toInt) (e14_ : z13_ = Mz.1 (66, 0, 0) j15_) (h17_ : ¬ z13_.toInt = 0) (h21_ : (j20_ : Int) = v.toInt) (e19_ : z18_ = Mz.1 (66, 0, 0) j20_) (h22_ : z18_.toInt = 8) (h26_ : (j25_ : Int) = v.toInt) (e24_ : z23_ = Mz.1 (67, 0, 0) j25_) (h27_ : 0 ≤ z23_.toInt ∧ z23_.toInt ≤ 24) (h28_ : z23_.toInt ≤ 16) (kf29_ : SZ (Mz.1 (67, 0, 0)) v 16) (hv0_81 : 0 ≤ v4_81.toInt) (kv0_81 : SZ (M_81.1 (67, 0, 0)) v 16) (h34_ : (j33_ : Int) = v.toInt) (e32_ : z31_ = M_81.1 (67, 0, 0) j33_) (h35_ : 0 ≤ z31_.toInt ∧ z31_.toInt ≤ 24) (h36_ : z31_.toInt ≤ 16) (h37_ : v4_81.toInt < z31_.toInt) (h39_ : z38_.toInt = 24 * v.toInt) (h41_ : z40_.toInt = z38_.toInt + v4_81.toInt) (h45_ : (j44_ : Int) = z40_.toInt) (e43_ : z42_ = M_81.1 (68, 0, 0) j44_) (h49_ : 1 ≤ z42_.toInt ∧ z42_.toInt ≤ 5) (h59_ : z58_.toInt = 16 * u.toInt) (h61_ : z60_.toInt = z58_.toInt + v4_81.toInt) : -2147483648 ≤ v4_81.toInt + 1 ∧ v4_81.toInt + 1 < 2147483648 := by have r_v := rngI v; have r_u := rngI u; have r_z13_ := rngI z13_; have r_z18_ := rngI z18_; have r_z23_ := rngI z23_; have r_v4_81 := rngI v4_81; have r_z31_ := rngI z31_; have r_z38_ := rngI z38_; have r_z40_ := rngI z40_; have r_z42_ := rngI z42_; have r_z58_ := rngI z58_; have r_z60_ := rngI z60_; subst e14_; subst e19_; subst e24_; subst e32_; subst e43_; omega
theorem lf_c_X12_lays_16 (M_81 : mM) (Mz : mM) (v : Int32) (u : Int32) (j15_ : Nat) (z13_ : Int32) (j20_ : Nat) (z18_ : Int32) (j25_ : Nat) (z23_ : Int32) (v4_81 : Int32) (j33_ : Nat) (z31_ : Int32) (z38_ : Int32) (z40_ : Int32) (j44_ : Nat) (z42_ : Int32) (z58_ : Int32) (z60_ : Int32) (z68_ : Int32) (h4_ : 0 ≤ v.toInt ∧ v.toInt ≤ 3) (h10_ : 0 ≤ u.toInt ∧ u.toInt ≤ 11) (h16_ : (j15_ : Int) = v.toInt) (e14_ : z13_ = Mz.1 (66, 0, 0) j15_) (h17_ : ¬ z13_.toInt = 0) (h21_ : (j20_ : Int) = v.toInt) (e19_ : z18_ = Mz.1 (66, 0, 0) j20_) (h22_ : z18_.toInt = 8) (h26_ : (j25_ : Int) = v.toInt) (e24_ : z23_ = Mz.1 (67, 0, 0) j25_) (h27_ : 0 ≤ z23_.toInt ∧ z23_.toInt ≤ 24) (h28_ : z23_.toInt ≤ 16) (kf29_ : SZ (Mz.1 (67, 0, 0)) v 16) (hv0_81 : 0 ≤ v4_81.toInt) (kv0_81 : SZ (M_81.1 (67, 0, 0)) v 16) (h34_ : (j33_ : Int) = v.toInt) (e32_ : z31_ = M_81.1 (67, 0, 0) j33_) (h35_ : 0 ≤ z31_.toInt ∧ z31_.toInt ≤ 24) (h36_ : z31_.toInt ≤ 16) (h37_ : v4_81.toInt < z31_.toInt) (h39_ : z38_.toInt = 24 * v.toInt) (h41_ : z40_.toInt = z38_.toInt + v4_81.toInt) (h45_ : (j44_ : Int) = z40_.toInt) (e43_ : z42_ = M_81.1 (68, 0, 0) j44_) (h49_ : 1 ≤ z42_.toInt ∧ z42_.toInt ≤ 5) (h59_ : z58_.toInt = 16 * u.toInt) (h61_ : z60_.toInt = z58_.toInt + v4_81.toInt) (h69_ : z68_.toInt = v4_81.toInt + 1) : 0 ≤ z68_.toInt := by have r_v := rngI v; have r_u := rngI u; have r_z13_ := rngI z13_; have r_z18_ := rngI z18_; have r_z23_ := rngI z23_; have r_v4_81 := rngI v4_81; have r_z31_ := rngI z31_; have r_z38_ := rngI z38_; have r_z40_ := rngI z40_; have r_z42_ := rngI z42_; have r_z58_ := rngI z58_; have r_z60_ := rngI z60_; have r_z68_ := rngI z68_; subst e14_; subst e19_; subst e24_; subst e32_; subst e43_; omega
theorem lf_c_X12_lays_17 (M_81 : mM) (Mz : mM) (v : Int32) (u : Int32) (j15_ : Nat) (z13_ : Int32) (j20_ : Nat) (z18_ : Int32) (j25_ : Nat) (z23_ : Int32) (v4_81 : Int32) (j33_ : Nat) (z31_ : Int32) (z38_ : Int32) (z40_ : Int32) (j44_ : Nat) (z42_ : Int32) (z58_ : Int32) (z60_ : Int32) (z68_ : Int32) (h4_ : 0 ≤ v.toInt ∧ v.toInt ≤ 3) (h10_ : 0 ≤ u.toInt ∧ u.toInt ≤ 11) (h16_ : (j15_ : Int) = v.toInt) (e14_ : z13_ = Mz.1 (66, 0, 0) j15_) (h17_ : ¬ z13_.toInt = 0) (h21_ : (j20_ : Int) = v.toInt) (e19_ : z18_ = Mz.1 (66, 0, 0) j20_) (h22_ : z18_.toInt = 8) (h26_ : (j25_ : Int) = v.toInt) (e24_ : z23_ = Mz.1 (67, 0, 0) j25_) (h27_ : 0 ≤ z23_.toInt ∧ z23_.toInt ≤ 24) (h28_ : z23_.toInt ≤ 16) (kf29_ : SZ (Mz.1 (67, 0, 0)) v 16) (hv0_81 : 0 ≤ v4_81.toInt) (kv0_81 : SZ (M_81.1 (67, 0, 0)) v 16) (h34_ : (j33_ : Int) = v.toInt) (e32_ : z31_ = M_81.1 (67, 0, 0) j33_) (h35_ : 0 ≤ z31_.toInt ∧ z31_.toInt ≤ 24) (h36_ : z31_.toInt ≤ 16) (h37_ : v4_81.toInt < z31_.toInt) (h39_ : z38_.toInt = 24 * v.toInt) (h41_ : z40_.toInt = z38_.toInt + v4_81.toInt) (h45_ : (j44_ : Int) = z40_.toInt) (e43_ : z42_ = M_81.1 (68, 0, 0) j44_) (h49_ : 1 ≤ z42_.toInt ∧ z42_.toInt ≤ 5) (h59_ : z58_.toInt = 16 * u.toInt) (h61_ : z60_.toInt = z58_.toInt + v4_81.toInt) (h69_ : z68_.toInt = v4_81.toInt + 1) : (2147483648 - z68_.toInt).toNat < (2147483648 - v4_81.toInt).toNat := by have r_v := rngI v; have r_u := rngI u; have r_z13_ := rngI z13_; have r_z18_ := rngI z18_; have r_z23_ := rngI z23_; have r_v4_81 := rngI v4_81; have r_z31_ := rngI z31_; have r_z38_ := rngI z38_; have r_z40_ := rngI z40_; have r_z42_ := rngI z42_; have r_z58_ := rngI z58_; have r_z60_ := rngI z60_; have r_z68_ := rngI z68_; subst e14_; subst e19_; subst e24_; subst e32_; subst e43_; omega
theorem lf_c_X12_lays_18 (M_81 : mM) (Mz : mM) (v : Int32) (u : Int32) (j15_ : Nat) (z13_ : Int32) (j20_ : Nat) (z18_ : Int32) (j25_ : Nat) (z23_ : Int32) (v4_81 : Int32) (j33_ : Nat) (z31_ : Int32) (z38_ : Int32) (z40_ : Int32) (j44_ : Nat) (z42_ : Int32) (z58_ : Int32) (z60_ : Int32) (h4_ : 0 ≤ v.toInt ∧ v.toInt ≤ 3) (h10_ : 0 ≤ u.toInt ∧ u.toInt ≤ 11) (h16_ : (j15_ : Int) = v.toInt) (e14_ : z13_ = Mz.1 (66, 0, 0) j15_) (h17_ : ¬ z13_.toInt = 0) (h21_ : (j20_ : Int) = v.toInt) (e19_ : z18_ = Mz.1 (66, 0, 0) j20_) (h22_ : z18_.toInt = 8) (h26_ : (j25_ : Int) = v.toInt) (e24_ : z23_ = Mz.1 (67, 0, 0) j25_) (h27_ : 0 ≤ z23_.toInt ∧ z23_.toInt ≤ 24) (h28_ : z23_.toInt ≤ 16) (kf29_ : SZ (Mz.1 (67, 0, 0)) v 16) (hv0_81 : 0 ≤ v4_81.toInt) (kv0_81 : SZ (M_81.1 (67, 0, 0)) v 16) (h34_ : (j33_ : Int) = v.toInt) (e32_ : z31_ = M_81.1 (67, 0, 0) j33_) (h35_ : 0 ≤ z31_.toInt ∧ z31_.toInt ≤ 24) (h36_ : z31_.toInt ≤ 16) (h37_ : v4_81.toInt < z31_.toInt) (h39_ : z38_.toInt = 24 * v.toInt) (h41_ : z40_.toInt = z38_.toInt + v4_81.toInt) (h45_ : (j44_ : Int) = z40_.toInt) (e43_ : z42_ = M_81.1 (68, 0, 0) j44_) (h49_ : 1 ≤ z42_.toInt ∧ z42_.toInt ≤ 5) (h59_ : z58_.toInt = 16 * u.toInt) (h61_ : z60_.toInt = z58_.toInt + v4_81.toInt) : -2147483648 ≤ z42_.toInt - 1 ∧ z42_.toInt - 1 < 2147483648 := by have r_v := rngI v; have r_u := rngI u; have r_z13_ := rngI z13_; have r_z18_ := rngI z18_; have r_z23_ := rngI z23_; have r_v4_81 := rngI v4_81; have r_z31_ := rngI z31_; have r_z38_ := rngI z38_; have r_z40_ := rngI z40_; have r_z42_ := rngI z42_; have r_z58_ := rngI z58_; have r_z60_ := rngI z60_; subst e14_; subst e19_; subst e24_; subst e32_; subst e43_; omega
theorem lf_c_X12_lays_19 (M_81 : mM) (Mz : mM) (v : Int32) (u : Int32) (j15_ : Nat) (z13_ : Int32) (j20_ : Nat) (z18_ : Int32) (j25_ : Nat) (z23_ : Int32) (v4_81 : Int32) (j33_ : Nat) (z31_ : Int32) (z38_ : Int32) (z40_ : Int32) (j44_ : Nat) (z42_ : Int32) (z58_ : Int32) (z60_ : Int32) (z70_ : Int32) (h4_ : 0 ≤ v.toInt ∧ v.toInt ≤ 3) (h10_ : 0 ≤ u.toInt ∧ u.toInt ≤ 11) (h16_ : (j15_ : Int) = v.toInt) (e14_ : z13_ = Mz.1 (66, 0, 0) j15_) (h17_ : ¬ z13_.toInt = 0) (h21_ : (j20_ : Int) = v.toInt) (e19_ : z18_ = Mz.1 (66, 0, 0) j20_) (h22_ : z18_.toInt = 8) (h26_ : (j25_ : Int) = v.toInt) (e24_ : z23_ = Mz.1 (67, 0, 0) j25_) (h27_ : 0 ≤ z23_.toInt ∧ z23_.toInt ≤ 24) (h28_ : z23_.toInt ≤ 16) (kf29_ : SZ (Mz.1 (67, 0, 0)) v 16) (hv0_81 : 0 ≤ v4_81.toInt) (kv0_81 : SZ (M_81.1 (67, 0, 0)) v 16) (h34_ : (j33_ : Int) = v.toInt) (e32_ : z31_ = M_81.1 (67, 0, 0) j33_) (h35_ : 0 ≤ z31_.toInt ∧ z31_.toInt ≤ 24) (h36_ : z31_.toInt ≤ 16) (h37_ : v4_81.toInt < z31_.toInt) (h39_ : z38_.toInt = 24 * v.toInt) (h41_ : z40_.toInt = z38_.toInt + v4_81.toInt) (h45_ : (j44_ : Int) = z40_.toInt) (e43_ : z42_ = M_81.1 (68, 0, 0) j44_) (h49_ : 1 ≤ z42_.toInt ∧ z42_.toInt ≤ 5) (h59_ : z58_.toInt = 16 * u.toInt) (h61_ : z60_.toInt = z58_.toInt + v4_81.toInt) (h71_ : z70_.toInt = z42_.toInt - 1) : -2147483648 ≤ 16 * u.toInt ∧ 16 * u.toInt < 2147483648 := by have r_v := rngI v; have r_u := rngI u; have r_z13_ := rngI z13_; have r_z18_ := rngI z18_; have r_z23_ := rngI z23_; have r_v4_81 := rngI v4_81; have r_z31_ := rngI z31_; have r_z38_ := rngI z38_; have r_z40_ := rngI z40_; have r_z42_ := rngI z42_; have r_z58_ := rngI z58_; have r_z60_ := rngI z60_; have r_z70_ := rngI z70_; subst e14_; subst e19_; subst e24_; subst e32_; subst e43_; omega
theorem lf_c_X12_lays_20 (M_81 : mM) (Mz : mM) (v : Int32) (u : Int32) (j15_ : Nat) (z13_ : Int32) (j20_ : Nat) (z18_ : Int32) (j25_ : Nat) (z23_ : Int32) (v4_81 : Int32) (j33_ : Nat) (z31_ : Int32) (z38_ : Int32) (z40_ : Int32) (j44_ : Nat) (z42_ : Int32) (z58_ : Int32) (z60_ : Int32) (z70_ : Int32) (z72_ : Int32) (h4_ : 0 ≤ v.toInt ∧ v.toInt ≤ 3) (h10_ : 0 ≤ u.toInt ∧ u.toInt ≤ 11) (h16_ : (j15_ : Int) = v.toInt) (e14_ : z13_ = Mz.1 (66, 0, 0) j15_) (h17_ : ¬ z13_.toInt = 0) (h21_ : (j20_ : Int) = v.toInt) (e19_ : z18_ = Mz.1 (66, 0, 0) j20_) (h22_ : z18_.toInt = 8) (h26_ : (j25_ : Int) = v.toInt) (e24_ : z23_ = Mz.1 (67, 0, 0) j25_) (h27_ : 0 ≤ z23_.toInt ∧ z23_.toInt ≤ 24) (h28_ : z23_.toInt ≤ 16) (kf29_ : SZ (Mz.1 (67, 0, 0)) v 16) (hv0_81 : 0 ≤ v4_81.toInt) (kv0_81 : SZ (M_81.1 (67, 0, 0)) v 16) (h34_ : (j33_ : Int) = v.toInt) (e32_ : z31_ = M_81.1 (67, 0, 0) j33_) (h35_ : 0 ≤ z31_.toInt ∧ z31_.toInt ≤ 24) (h36_ : z31_.toInt ≤ 16) (h37_ : v4_81.toInt < z31_.toInt) (h39_ : z38_.toInt = 24 * v.toInt) (h41_ : z40_.toInt = z38_.toInt + v4_81.toInt) (h45_ : (j44_ : Int) = z40_.toInt) (e43_ : z42_ = M_81.1 (68, 0, 0) j44_) (h49_ : 1 ≤ z42_.toInt ∧ z42_.toInt ≤ 5) (h59_ : z58_.toInt = 16 * u.toInt) (h61_ : z60_.toInt = z58_.toInt + v4_81.toInt) (h71_ : z70_.toInt = z42_.toInt - 1) (h73_ : z72_.toInt = 16 * u.toInt) : -2147483648 ≤ z72_.toInt + v4_81.toInt ∧ z72_.toInt + v4_81.toInt < 2147483648 := by have r_v := rngI v; have r_u := rngI u; have r_z13_ := rngI z13_; have r_z18_ := rngI z18_; have r_z23_ := rngI z23_; have r_v4_81 := rngI v4_81; have r_z31_ := rngI z31_; have r_z38_ := rngI z38_; have r_z40_ := rngI z40_; have r_z42_ := rngI z42_; have r_z58_ := rngI z58_; have r_z60_ := rngI z60_; have r_z70_ := rngI z70_; have r_z72_ := rngI z72_; subst e14_; subst e19_; subst e24_; subst e32_; subst e43_; omega
theorem lf_c_X12_lays_21 (M_81 : mM) (Mz : mM) (v : Int32) (u : Int32) (j15_ : Nat) (z13_ : Int32) (j20_ : Nat) (z18_ : Int32) (j25_ : Nat) (z23_ : Int32) (v4_81 : Int32) (j33_ : Nat) (z31_ : Int32) (z38_ : Int32) (z40_ : Int32) (j44_ : Nat) (z42_ : Int32) (z58_ : Int32) (z60_ : Int32) (z70_ : Int32) (z72_ : Int32) (z74_ : Int32) (h4_ : 0 ≤ v.toInt ∧ v.toInt ≤ 3) (h10_ : 0 ≤ u.toInt ∧ u.toInt ≤ 11) (h16_ : (j15_ : Int) = v.toInt) (e14_ : z13_ = Mz.1 (66, 0, 0) j15_) (h17_ : ¬ z13_.toInt = 0) (h21_ : (j20_ : Int) = v.toInt) (e19_ : z18_ = Mz.1 (66, 0, 0) j20_) (h22_ : z18_.toInt = 8) (h26_ : (j25_ : Int) = v.toInt) (e24_ : z23_ = Mz.1 (67, 0, 0) j25_) (h27_ : 0 ≤ z23_.toInt ∧ z23_.toInt ≤ 24) (h28_ : z23_.toInt ≤ 16) (kf29_ : SZ (Mz.1 (67, 0, 0)) v 16) (hv0_81 : 0 ≤ v4_81.toInt) (kv0_81 : SZ (M_81.1 (67, 0, 0)) v 16) (h34_ : (j33_ : Int) = v.toInt) (e32_ : z31_ = M_81.1 (67, 0, 0) j33_) (h35_ : 0 ≤ z31_.toInt ∧ z31_.toInt ≤ 24) (h36_ : z31_.toInt ≤ 16) (h37_ : v4_81.toInt < z31_.toInt) (h39_ : z38_.toInt = 24 * v.toInt) (h41_ : z40_.toInt = z38_.toInt + v4_81.toInt) (h45_ : (j44_ : Int) = z40_.toInt) (e43_ : z42_ = M_81.1 (68, 0, 0) j44_) (h49_ : 1 ≤ z42_.toInt ∧ z42_.toInt ≤ 5) (h59_ : z58_.toInt = 16 * u.toInt) (h61_ : z60_.toInt = z58_.toInt + v4_81.toInt) (h71_ : z70_.toInt = z42_.toInt - 1) (h73_ : z72_.toInt = 16 * u.toInt) (h75_ : z74_.toInt = z72_.toInt + v4_81.toInt) : 0 ≤ z70_.toInt ∧ z70_.toInt ≤ 4 := by have r_v := rngI v; have r_u := rngI u; have r_z13_ := rngI z13_; have r_z18_ := rngI z18_; have r_z23_ := rngI z23_; have r_v4_81 := rngI v4_81; have r_z31_ := rngI z31_; have r_z38_ := rngI z38_; have r_z40_ := rngI z40_; have r_z42_ := rngI z42_; have r_z58_ := rngI z58_; have r_z60_ := rngI z60_; have r_z70_ := rngI z70_; have r_z72_ := rngI z72_; have r_z74_ := rngI z74_; subst e14_; subst e19_; subst e24_; subst e32_; subst e43_; omega
theorem lf_c_X12_lays_22 (M_81 : mM) (Mz : mM) (v : Int32) (u : Int32) (j15_ : Nat) (z13_ : Int32) (j20_ : Nat) (z18_ : Int32) (j25_ : Nat) (z23_ : Int32) (v4_81 : Int32) (j33_ : Nat) (z31_ : Int32) (z38_ : Int32) (z40_ : Int32) (j44_ : Nat) (z42_ : Int32) (z58_ : Int32) (z60_ : Int32) (z70_ : Int32) (z72_ : Int32) (z74_ : Int32) (h4_ : 0 ≤ v.toInt ∧ v.toInt ≤ 3) (h10_ : 0 ≤ u.toInt ∧ u.toInt ≤ 11) (h16_ : (j15_ : Int) = v.toInt) (e14_ : z13_ = Mz.1 (66, 0, 0) j15_) (h17_ : ¬ z13_.toInt = 0) (h21_ : (j20_ : Int) = v.toInt) (e19_ : z18_ = Mz.1 (66, 0, 0) j20_) (h22_ : z18_.toInt = 8) (h26_ : (j25_ : Int) = v.toInt) (e24_ : z23_ = Mz.1 (67, 0, 0) j25_) (h27_ : 0 ≤ z23_.toInt ∧ z23_.toInt ≤ 24) (h28_ : z23_.toInt ≤ 16) (kf29_ : SZ (Mz.1 (67, 0, 0)) v 16) (hv0_81 : 0 ≤ v4_81.toInt) (kv0_81 : SZ (M_81.1 (67, 0, 0)) v 16) (h34_ : (j33_ : Int) = v.toInt) (e32_ : z31_ = M_81.1 (67, 0, 0) j33_) (h35_ : 0 ≤ z31_.toInt ∧ z31_.toInt ≤ 24) (h36_ : z31_.toInt ≤ 16) (h37_ : v4_81.toInt < z31_.toInt) (h39_ : z38_.toInt = 24 * v.toInt) (h41_ : z40_.toInt = z38_.toInt + v4_81.toInt) (h45_ : (j44_ : Int) = z40_.toInt) (e43_ : z42_ = M_81.1 (68, 0, 0) j44_) (h49_ : 1 ≤ z42_.toInt ∧ z42_.toInt ≤ 5) (h59_ : z58_.toInt = 16 * u.toInt) (h61_ : z60_.toInt = z58_.toInt + v4_81.toInt) (h71_ : z70_.toInt = z42_.toInt - 1) (h73_ : z72_.toInt = 16 * u.toInt) (h75_ : z74_.toInt = z72_.toInt + v4_81.toInt) : 0 ≤ z74_.toInt ∧ z74_.toInt ≤ 191 := by have r_v := rngI v; have r_u := rngI u; have r_z13_ := rngI z13_; have r_z18_ := rngI z18_; have r_z23_ := rngI z23_; have r_v4_81 := rngI v4_81; have r_z31_ := rngI z31_; have r_z38_ := rngI z38_; have r_z40_ := rngI z40_; have r_z42_ := rngI z42_; have r_z58_ := rngI z58_; have r_z60_ := rngI z60_; have r_z70_ := rngI z70_; have r_z72_ := rngI z72_; have r_z74_ := rngI z74_; subst e14_; subst e19_; subst e24_; subst e32_; subst e43_; omega
theorem lf_c_X12_lays_23 (M_81 : mM) (z52_ : Int32) (e53_ : z52_ = M_81.1 (50, 0, 0) 1) (h54_ : 0 ≤ z52_.toInt ∧ z52_.toInt ≤ 40) (h55_ : z52_.toInt < 40) : z52_.toInt ≤ 39 := by have r_z52_ := rngI z52_; subst e53_; omega
theorem lf_c_X12_lays_24 (M77_ : mM) (M_81 : mM) (Mz : mM) (v : Int32) (u : Int32) (j15_ : Nat) (z13_ : Int32) (j20_ : Nat) (z18_ : Int32) (j25_ : Nat) (z23_ : Int32) (v4_81 : Int32) (j33_ : Nat) (z31_ : Int32) (z38_ : Int32) (z40_ : Int32) (j44_ : Nat) (z42_ : Int32) (z58_ : Int32) (z60_ : Int32) (z70_ : Int32) (z72_ : Int32) (z74_ : Int32) (h4_ : 0 ≤ v.toInt ∧ v.toInt ≤ 3) (h10_ : 0 ≤ u.toInt ∧ u.toInt ≤ 11) (h16_ : (j15_ : Int) = v.toInt) (e14_ : z13_ = Mz.1 (66, 0, 0) j15_) (h17_ : ¬ z13_.toInt = 0) (h21_ : (j20_ : Int) = v.toInt) (e19_ : z18_ = Mz.1 (66, 0, 0) j20_) (h22_ : z18_.toInt = 8) (h26_ : (j25_ : Int) = v.toInt) (e24_ : z23_ = Mz.1 (67, 0, 0) j25_) (h27_ : 0 ≤ z23_.toInt ∧ z23_.toInt ≤ 24) (h28_ : z23_.toInt ≤ 16) (kf29_ : SZ (Mz.1 (67, 0, 0)) v 16) (hv0_81 : 0 ≤ v4_81.toInt) (kv0_81 : SZ (M_81.1 (67, 0, 0)) v 16) (h34_ : (j33_ : Int) = v.toInt) (e32_ : z31_ = M_81.1 (67, 0, 0) j33_) (h35_ : 0 ≤ z31_.toInt ∧ z31_.toInt ≤ 24) (h36_ : z31_.toInt ≤ 16) (h37_ : v4_81.toInt < z31_.toInt) (h39_ : z38_.toInt = 24 * v.toInt) (h41_ : z40_.toInt = z38_.toInt + v4_81.toInt) (h45_ : (j44_ : Int) = z40_.toInt) (e43_ : z42_ = M_81.1 (68, 0, 0) j44_) (h49_ : 1 ≤ z42_.toInt ∧ z42_.toInt ≤ 5) (h59_ : z58_.toInt = 16 * u.toInt) (h61_ : z60_.toInt = z58_.toInt + v4_81.toInt) (h71_ : z70_.toInt = z42_.toInt - 1) (h73_ : z72_.toInt = 16 * u.toInt) (h75_ : z74_.toInt = z72_.toInt + v4_81.toInt) (kf84_ : SZ (M77_.1 (67, 0, 0)) v 16) : -2147483648 ≤ v4_81.toInt + 1 ∧ v4_81.toInt + 1 < 2147483648 := by have r_v := rngI v; have r_u := rngI u; have r_z13_ := rngI z13_; have r_z18_ := rngI z18_; have r_z23_ := rngI z23_; have r_v4_81 := rngI v4_81; have r_z31_ := rngI z31_; have r_z38_ := rngI z38_; have r_z40_ := rngI z40_; have r_z42_ := rngI z42_; have r_z58_ := rngI z58_; have r_z60_ := rngI z60_; have r_z70_ := rngI z70_; have r_z72_ := rngI z72_; have r_z74_ := rngI z74_; subst e14_; subst e19_; subst e24_; subst e32_; subst e43_; omega
theorem lf_c_X12_lays_25 (M77_ : mM) (M_81 : mM) (Mz : mM) (v : Int32) (u : Int32) (j15_ : Nat) (z13_ : Int32) (j20_ : Nat) (z18_ : Int32) (j25_ : Nat) (z23_ : Int32) (v4_81 : Int32) (j33_ : Nat) (z31_ : Int32) (z38_ : Int32) (z40_ : Int32) (j44_ : Nat) (z42_ : Int32) (z58_ : Int32) (z60_ : Int32) (z70_ : Int32) (z72_ : Int32) (z74_ : Int32) (z87_ : Int32) (h4_ : 0 ≤ v.toInt ∧ v.toInt ≤ 3) (h10_ : 0 ≤ u.toInt ∧ u.toInt ≤ 11) (h16_ : (j15_ : Int) = v.toInt) (e14_ : z13_ = Mz.1 (66, 0, 0) j15_) (h17_ : ¬ z13_.toInt = 0) (h21_ : (j20_ : Int) = v.toInt) (e19_ : z18_ = Mz.1 (66, 0, 0) j20_) (h22_ : z18_.toInt = 8) (h26_ : (j25_ : Int) = v.toInt) (e24_ : z23_ = Mz.1 (67, 0, 0) j25_) (h27_ : 0 ≤ z23_.toInt ∧ z23_.toInt ≤ 24) (h28_ : z23_.toInt ≤ 16) (kf29_ : SZ (Mz.1 (67, 0, 0)) v 16) (hv0_81 : 0 ≤ v4_81.toInt) (kv0_81 : SZ (M_81.1 (67, 0, 0)) v 16) (h34_ : (j33_ : Int) = v.toInt) (e32_ : z31_ = M_81.1 (67, 0, 0) j33_) (h35_ : 0 ≤ z31_.toInt ∧ z31_.toInt ≤ 24) (h36_ : z31_.toInt ≤ 16) (h37_ : v4_81.toInt < z31_.toInt) (h39_ : z38_.toInt = 24 * v.toInt) (h41_ : z40_.toInt = z38_.toInt + v4_81.toInt) (h45_ : (j44_ : Int) = z40_.toInt) (e43_ : z42_ = M_81.1 (68, 0, 0) j44_) (h49_ : 1 ≤ z42_.toInt ∧ z42_.toInt ≤ 5) (h59_ : z58_.toInt = 16 * u.toInt) (h61_ : z60_.toInt = z58_.toInt + v4_81.toInt) (h71_ : z70_.toInt = z42_.toInt - 1) (h73_ : z72_.toInt = 16 * u.toInt) (h75_ : z74_.toInt = z72_.toInt + v4_81.toInt) (kf84_ : SZ (M77_.1 (67, 0, 0)) v 16) (h88_ : z87_.toInt = v4_81.toInt + 1) : 0 ≤ z87_.toInt := by have r_v := rngI v; have r_u := rngI u; have r_z13_ := rngI z13_; have r_z18_ := rngI z18_; have r_z23_ := rngI z23_; have r_v4_81 := rngI v4_81; have r_z31_ := rngI z31_; have r_z38_ := rngI z38_; have r_z40_ := rngI z40_; have r_z42_ := rngI z42_; have r_z58_ := rngI z58_; have r_z60_ := rngI z60_; have r_z70_ := rngI z70_; have r_z72_ := rngI z72_; have r_z74_ := rngI z74_; have r_z87_ := rngI z87_; subst e14_; subst e19_; subst e24_; subst e32_; subst e43_; omega
theorem lf_c_X12_lays_26 (M77_ : mM) (M_81 : mM) (Mz : mM) (v : Int32) (u : Int32) (j15_ : Nat) (z13_ : Int32) (j20_ : Nat) (z18_ : Int32) (j25_ : Nat) (z23_ : Int32) (v4_81 : Int32) (j33_ : Nat) (z31_ : Int32) (z38_ : Int32) (z40_ : Int32) (j44_ : Nat) (z42_ : Int32) (z58_ : Int32) (z60_ : Int32) (z70_ : Int32) (z72_ : Int32) (z74_ : Int32) (z87_ : Int32) (h4_ : 0 ≤ v.toInt ∧ v.toInt ≤ 3) (h10_ : 0 ≤ u.toInt ∧ u.toInt ≤ 11) (h16_ : (j15_ : Int) = v.toInt) (e14_ : z13_ = Mz.1 (66, 0, 0) j15_) (h17_ : ¬ z13_.toInt = 0) (h21_ : (j20_ : Int) = v.toInt) (e19_ : z18_ = Mz.1 (66, 0, 0) j20_) (h22_ : z18_.toInt = 8) (h26_ : (j25_ : Int) = v.toInt) (e24_ : z23_ = Mz.1 (67, 0, 0) j25_) (h27_ : 0 ≤ z23_.toInt ∧ z23_.toInt ≤ 24) (h28_ : z23_.toInt ≤ 16) (kf29_ : SZ (Mz.1 (67, 0, 0)) v 16) (hv0_81 : 0 ≤ v4_81.toInt) (kv0_81 : SZ (M_81.1 (67, 0, 0)) v 16) (h34_ : (j33_ : Int) = v.toInt) (e32_ : z31_ = M_81.1 (67, 0, 0) j33_) (h35_ : 0 ≤ z31_.toInt ∧ z31_.toInt ≤ 24) (h36_ : z31_.toInt ≤ 16) (h37_ : v4_81.toInt < z31_.toInt) (h39_ : z38_.toInt = 24 * v.toInt) (h41_ : z40_.toInt = z38_.toInt + v4_81.toInt) (h45_ : (j44_ : Int) = z40_.toInt) (e43_ : z42_ = M_81.1 (68, 0, 0) j44_) (h49_ : 1 ≤ z42_.toInt ∧ z42_.toInt ≤ 5) (h59_ : z58_.toInt = 16 * u.toInt) (h61_ : z60_.toInt = z58_.toInt + v4_81.toInt) (h71_ : z70_.toInt = z42_.toInt - 1) (h73_ : z72_.toInt = 16 * u.toInt) (h75_ : z74_.toInt = z72_.toInt + v4_81.toInt) (kf84_ : SZ (M77_.1 (67, 0, 0)) v 16) (h88_ : z87_.toInt = v4_81.toInt + 1) : (2147483648 - z87_.toInt).toNat < (2147483648 - v4_81.toInt).toNat := by have r_v := rngI v; have r_u := rngI u; have r_z13_ := rngI z13_; have r_z18_ := rngI z18_; have r_z23_ := rngI z23_; have r_v4_81 := rngI v4_81; have r_z31_ := rngI z31_; have r_z38_ := rngI z38_; have r_z40_ := rngI z40_; have r_z42_ := rngI z42_; have r_z58_ := rngI z58_; have r_z60_ := rngI z60_; have r_z70_ := rngI z70_; have r_z72_ := rngI z72_; have r_z74_ := rngI z74_; have r_z87_ := rngI z87_; subst e14_; subst e19_; subst e24_; subst e32_; subst e43_; omega
theorem lf_c_X12_lays_27 (M_81 : mM) (Mz : mM) (v : Int32) (j15_ : Nat) (z13_ : Int32) (j20_ : Nat) (z18_ : Int32) (j25_ : Nat) (z23_ : Int32) (v4_81 : Int32) (j33_ : Nat) (z31_ : Int32) (z38_ : Int32) (z40_ : Int32) (j44_ : Nat) (z42_ : Int32) (h4_ : 0 ≤ v.toInt ∧ v.toInt ≤ 3) (h16_ : (j15_ : Int) = v.toInt) (e14_ : z13_ = Mz.1 (66, 0, 0) j15_) (h17_ : ¬ z13_.toInt = 0) (h21_ : (j20_ : Int) = v.toInt) (e19_ : z18_ = Mz.1 (66, 0, 0) j20_) (h22_ : z18_.toInt = 8) (h26_ : (j25_ : Int) = v.toInt) (e24_ : z23_ = Mz.1 (67, 0, 0) j25_) (h27_ : 0 ≤ z23_.toInt ∧ z23_.toInt ≤ 24) (h28_ : z23_.toInt ≤ 16) (kf29_ : SZ (Mz.1 (67, 0, 0)) v 16) (hv0_81 : 0 ≤ v4_81.toInt) (kv0_81 : SZ (M_81.1 (67, 0, 0)) v 16) (h34_ : (j33_ : Int) = v.toInt) (e32_ : z31_ = M_81.1 (67, 0, 0) j33_) (h35_ : 0 ≤ z31_.toInt ∧ z31_.toInt ≤ 24) (h36_ : z31_.toInt ≤ 16) (h37_ : v4_81.toInt < z31_.toInt) (h39_ : z38_.toInt = 24 * v.toInt) (h41_ : z40_.toInt = z38_.toInt + v4_81.toInt) (h45_ : (j44_ : Int) = z40_.toInt) (e43_ : z42_ = M_81.1 (68, 0, 0) j44_) (h49_ : ¬ (1 ≤ z42_.toInt ∧ z42_.toInt ≤ 5)) : -2147483648 ≤ v4_81.toInt + 1 ∧ v4_81.toInt + 1 < 2147483648 := by have r_v := rngI v; have r_z13_ := rngI z13_; have r_z18_ := rngI z18_; have r_z23_ := rngI z23_; have r_v4_81 := rngI v4_81; have r_z31_ := rngI z31_; have r_z38_ := rngI z38_; have r_z40_ := rngI z40_; have r_z42_ := rngI z42_; subst e14_; subst e19_; subst e24_; subst e32_; subst e43_; omega
theorem lf_c_X12_lays_28 (M_81 : mM) (Mz : mM) (v : Int32) (j15_ : Nat) (z13_ : Int32) (j20_ : Nat) (z18_ : Int32) (j25_ : Nat) (z23_ : Int32) (v4_81 : Int32) (j33_ : Nat) (z31_ : Int32) (z38_ : Int32) (z40_ : Int32) (j44_ : Nat) (z42_ : Int32) (z90_ : Int32) (h4_ : 0 ≤ v.toInt ∧ v.toInt ≤ 3) (h16_ : (j15_ : Int) = v.toInt) (e14_ : z13_ = Mz.1 (66, 0, 0) j15_) (h17_ : ¬ z13_.toInt = 0) (h21_ : (j20_ : Int) = v.toInt) (e19_ : z18_ = Mz.1 (66, 0, 0) j20_) (h22_ : z18_.toInt = 8) (h26_ : (j25_ : Int) = v.toInt) (e24_ : z23_ = Mz.1 (67, 0, 0) j25_) (h27_ : 0 ≤ z23_.toInt ∧ z23_.toInt ≤ 24) (h28_ : z23_.toInt ≤ 16) (kf29_ : SZ (Mz.1 (67, 0, 0)) v 16) (hv0_81 : 0 ≤ v4_81.toInt) (kv0_81 : SZ (M_81.1 (67, 0, 0)) v 16) (h34_ : (j33_ : Int) = v.toInt) (e32_ : z31_ = M_81.1 (67, 0, 0) j33_) (h35_ : 0 ≤ z31_.toInt ∧ z31_.toInt ≤ 24) (h36_ : z31_.toInt ≤ 16) (h37_ : v4_81.toInt < z31_.toInt) (h39_ : z38_.toInt = 24 * v.toInt) (h41_ : z40_.toInt = z38_.toInt + v4_81.toInt) (h45_ : (j44_ : Int) = z40_.toInt) (e43_ : z42_ = M_81.1 (68, 0, 0) j44_) (h49_ : ¬ (1 ≤ z42_.toInt ∧ z42_.toInt ≤ 5)) (h91_ : z90_.toInt = v4_81.toInt + 1) : 0 ≤ z90_.toInt := by have r_v := rngI v; have r_z13_ := rngI z13_; have r_z18_ := rngI z18_; have r_z23_ := rngI z23_; have r_v4_81 := rngI v4_81; have r_z31_ := rngI z31_; have r_z38_ := rngI z38_; have r_z40_ := rngI z40_; have r_z42_ := rngI z42_; have r_z90_ := rngI z90_; subst e14_; subst e19_; subst e24_; subst e32_; subst e43_; omega
theorem lf_c_X12_lays_29 (M_81 : mM) (Mz : mM) (v : Int32) (j15_ : Nat) (z13_ : Int32) (j20_ : Nat) (z18_ : Int32) (j25_ : Nat) (z23_ : Int32) (v4_81 : Int32) (j33_ : Nat) (z31_ : Int32) (z38_ : Int32) (z40_ : Int32) (j44_ : Nat) (z42_ : Int32) (z90_ : Int32) (h4_ : 0 ≤ v.toInt ∧ v.toInt ≤ 3) (h16_ : (j15_ : Int) = v.toInt) (e14_ : z13_ = Mz.1 (66, 0, 0) j15_) (h17_ : ¬ z13_.toInt = 0) (h21_ : (j20_ : Int) = v.toInt) (e19_ : z18_ = Mz.1 (66, 0, 0) j20_) (h22_ : z18_.toInt = 8) (h26_ : (j25_ : Int) = v.toInt) (e24_ : z23_ = Mz.1 (67, 0, 0) j25_) (h27_ : 0 ≤ z23_.toInt ∧ z23_.toInt ≤ 24) (h28_ : z23_.toInt ≤ 16) (kf29_ : SZ (Mz.1 (67, 0, 0)) v 16) (hv0_81 : 0 ≤ v4_81.toInt) (kv0_81 : SZ (M_81.1 (67, 0, 0)) v 16) (h34_ : (j33_ : Int) = v.toInt) (e32_ : z31_ = M_81.1 (67, 0, 0) j33_) (h35_ : 0 ≤ z31_.toInt ∧ z31_.toInt ≤ 24) (h36_ : z31_.toInt ≤ 16) (h37_ : v4_81.toInt < z31_.toInt) (h39_ : z38_.toInt = 24 * v.toInt) (h41_ : z40_.toInt = z38_.toInt + v4_81.toInt) (h45_ : (j44_ : Int) = z40_.toInt) (e43_ : z42_ = M_81.1 (68, 0, 0) j44_) (h49_ : ¬ (1 ≤ z42_.toInt ∧ z42_.toInt ≤ 5)) (h91_ : z90_.toInt = v4_81.toInt + 1) : (2147483648 - z90_.toInt).toNat < (2147483648 - v4_81.toInt).toNat := by have r_v := rngI v; have r_z13_ := rngI z13_; have r_z18_ := rngI z18_; have r_z23_ := rngI z23_; have r_v4_81 := rngI v4_81; have r_z31_ := rngI z31_; have r_z38_ := rngI z38_; have r_z40_ := rngI z40_; have r_z42_ := rngI z42_; have r_z90_ := rngI z90_; subst e14_; subst e19_; subst e24_; subst e32_; subst e43_; omega
theorem lf_c_X12_lays_30    : 0 ≤ (0 : Int32).toInt := by have q0 := li_0; omega
set_option maxHeartbeats 4000000 in
set_option maxRecDepth 100000 in
theorem c_X12_lays (l : Launch) (G : va_G) (cy : Nat → ClassId) (ad : rf → Nat) (d : Nat) (v : Int32) (u : Int32) (Mz : mM) (hIz : InvD Mz) : WP DD l G cy ad yX12_lays cX12_lays 6 (some .int) (d + 3) 0 [(0, vR (12, 0, 0)), (1, vI v), (2, vI u)] [] Mz (fun r M' => InvD M' ∧ FR (S_c_X12_lays) Mz M' ∧ (True) ∧ SP_X12_lays v u Mz r M') := by
  have hFz : FR (S_c_X12_lays) Mz Mz := FR.self
  refine w_iload_n dX12_lays_0 rfl 1 rfl ?_
  refine w_callS (as := [vI v]) (rest := []) (c_X12_isSheet l G cy ad (d + 1) v Mz hIz) kS_X12_isSheet (by decide +kernel) (Nat.le_of_ble_eq_true rfl) m_1497 rfl rfl (by decide) (Nat.le_of_ble_eq_true rfl) dX12_lays_1 (fun r1_ M2_ q3_ => ?_)
  obtain ⟨rfl, h4_, hs5_⟩ := q3_
  rcases h4_ with ⟨rfl, h4_⟩ | ⟨rfl, h4_⟩
  · refine w_if_eq (tgt := 17) dX12_lays_4 (by decide) li_1 (fun h9 => (absurd h9 (by decide))) (fun h6_ => ?_)
    refine w_iload_n dX12_lays_7 rfl 2 rfl ?_
    refine w_iconst (v := 0) dX12_lays_8 (by decide) ?_
    refine w_bipush (v := 11) dX12_lays_9 (by decide) ?_
    refine w_callS (as := [vI u, vI 0, vI 11]) (rest := []) (c_X12_within l G cy ad (d + 2) u 0 11 Mz hIz) kS_X12_within (by decide +kernel) (Nat.le_of_ble_eq_true rfl) m_1427 rfl rfl (by decide) (Nat.le_of_ble_eq_true rfl) dX12_lays_11 (fun r7_ M8_ q9_ => ?_)
    obtain ⟨rfl, h10_, hs11_⟩ := q9_
    rcases h10_ with ⟨rfl, h10_⟩ | ⟨rfl, h10_⟩
    · simp only [li_0, li_11] at h10_
      refine w_if_ne (tgt := 24) dX12_lays_14 (by decide) li_1 (fun h12_ => ?_) (fun h9 => (absurd h9 (by decide)))
      refine w_aload_n dX12_lays_24 rfl 0 rfl ?_
      refine w_getR (c' := (66, 0, 0)) fl_RX12_72 rfl rfl ic_12 dX12_lays_25 rfl ?_
      refine w_iload_n dX12_lays_28 rfl 1 rfl ?_
      refine w_iald rfl rfl ic_66 (rfl : v.toInt = v.toInt) (lf_c_X12_lays_0 v h4_) dX12_lays_29 (fun j15_ h16_ z13_ e14_ => ?_)
      refine w_if_ne (tgt := 40) dX12_lays_30 (by decide) (rfl : z13_.toInt = z13_.toInt) (fun h17_ => ?_) (fun h17_ => ?_)
      · refine w_aload_n dX12_lays_40 rfl 0 rfl ?_
        refine w_getR (c' := (66, 0, 0)) fl_RX12_72 rfl rfl ic_12 dX12_lays_41 rfl ?_
        refine w_iload_n dX12_lays_44 rfl 1 rfl ?_
        refine w_iald rfl rfl ic_66 (rfl : v.toInt = v.toInt) (lf_c_X12_lays_1 Mz v j15_ z13_ h4_ h16_ e14_ h17_) dX12_lays_45 (fun j20_ h21_ z18_ e19_ => ?_)
        refine w_bipush (v := 8) dX12_lays_46 (by decide) ?_
        refine w_icmp_eq (tgt := 58) dX12_lays_48 (by decide) (rfl : z18_.toInt = z18_.toInt) li_8 (fun h22_ => ?_) (fun h22_ => ?_)
        · refine w_aload_n dX12_lays_58 rfl 0 rfl ?_
          refine w_getR (c' := (67, 0, 0)) fl_RX12_75 rfl rfl ic_12 dX12_lays_59 rfl ?_
          refine w_iload_n dX12_lays_62 rfl 1 rfl ?_
          refine w_iald rfl rfl ic_67 (rfl : v.toInt = v.toInt) (lf_c_X12_lays_2 Mz v j15_ z13_ j20_ z18_ h4_ h16_ e14_ h17_ h21_ e19_ h22_) dX12_lays_63 (fun j25_ h26_ z23_ e24_ => ?_)
          have h27_ : 0 ≤ z23_.toInt ∧ z23_.toInt ≤ 24 := pn_67 hIz e24_
          refine w_bipush (v := 16) dX12_lays_64 (by decide) ?_
          refine w_icmp_le (tgt := 76) dX12_lays_66 (by decide) (rfl : z23_.toInt = z23_.toInt) li_16 (fun h28_ => ?_) (fun h28_ => ?_)
          · have kf29_ : SZ (Mz.1 (67, 0, 0)) v 16 := fun q9 hq9 => by
              have e9 : q9 = j25_ := Int.ofNat_inj.mp (hq9.trans (lf_c_X12_lays_3 Mz v j15_ z13_ j20_ z18_ j25_ z23_ h4_ h16_ e14_ h17_ h21_ e19_ h22_ h26_ e24_ h27_ h28_))
              rw [e9, ← e24_]; exact (lf_c_X12_lays_4 Mz v j15_ z13_ j20_ z18_ j25_ z23_ h4_ h16_ e14_ h17_ h21_ e19_ h22_ h26_ e24_ h27_ h28_)
            refine w_iconst (v := 0) dX12_lays_76 (by decide) ?_
            refine w_istore_n (ls' := [(3, vI 0), (0, vR (12, 0, 0)), (1, vI v), (2, vI u)]) dX12_lays_77 rfl (by decide) rfl ?_
            refine w_iconst (v := 0) dX12_lays_78 (by decide) ?_
            refine w_istore (ls' := [(4, vI 0), (3, vI 0), (0, vR (12, 0, 0)), (1, vI v), (2, vI u)]) dX12_lays_79 (by decide) rfl ?_
            have lp30_ : ∀ (nn_81 : Nat) (M_81 : mM) (hI_81 : InvD M_81) (hF_81 : FR (S_c_X12_lays) Mz M_81) (v4_81 : Int32) (v3_81 : Int32) (hv0_81 : 0 ≤ v4_81.toInt) (kv0_81 : SZ (M_81.1 (67, 0, 0)) v 16) (hL_81 : RCH (fun x_ y_ => ST_X12_lays_81 v u Mz x_.1 x_.2.1 x_.2.2 y_.1 y_.2.1 y_.2.2) ((0 : Int32), (0 : Int32), Mz) (v4_81, v3_81, M_81)), (2147483648 - v4_81.toInt).toNat < nn_81 → WP DD l G cy ad yX12_lays cX12_lays 6 (some .int) (d + 3) 81 [(4, vI v4_81), (3, vI v3_81), (0, vR (12, 0, 0)), (1, vI v), (2, vI u)] [] M_81 (fun r M' => InvD M' ∧ FR (S_c_X12_lays) Mz M' ∧ (True) ∧ SP_X12_lays v u Mz r M') := by
              intro nn_81
              induction nn_81 with
              | zero => intro M_81 hI_81 hF_81 v4_81 v3_81 hv0_81 kv0_81 hL_81 hm_81; exact absurd hm_81 (Nat.not_lt_zero _)
              | succ nn_81 ih_81 =>
                intro M_81 hI_81 hF_81 v4_81 v3_81 hv0_81 kv0_81 hL_81 hm_81
                refine w_iload dX12_lays_81 0 rfl ?_
                refine w_aload_n dX12_lays_83 rfl 2 rfl ?_
                refine w_getR (c' := (67, 0, 0)) fl_RX12_75 rfl rfl ic_12 dX12_lays_84 rfl ?_
                refine w_iload_n dX12_lays_87 rfl 3 rfl ?_
                refine w_iald rfl rfl ic_67 (rfl : v.toInt = v.toInt) (lf_c_X12_lays_5 M_81 Mz v j15_ z13_ j20_ z18_ j25_ z23_ h4_ h16_ e14_ h17_ h21_ e19_ h22_ h26_ e24_ h27_ h28_ kf29_ kv0_81) dX12_lays_88 (fun j33_ h34_ z31_ e32_ => ?_)
                have h35_ : 0 ≤ z31_.toInt ∧ z31_.toInt ≤ 24 := pn_67 hI_81 e32_
                have h36_ : z31_.toInt ≤ 16 := by rw [e32_]; exact kv0_81 j33_ (lf_c_X12_lays_6 M_81 Mz v j15_ z13_ j20_ z18_ j25_ z23_ j33_ z31_ h4_ h16_ e14_ h17_ h21_ e19_ h22_ h26_ e24_ h27_ h28_ kf29_ kv0_81 h34_ e32_ h35_)
                refine w_icmp_ge (tgt := 166) dX12_lays_89 (by decide) (rfl : v4_81.toInt = v4_81.toInt) (rfl : z31_.toInt = z31_.toInt) (fun h37_ => ?_) (fun h37_ => ?_)
                · refine w_iload_n dX12_lays_166 rfl 1 rfl ?_
                  exact w_iret rfl dX12_lays_167 ⟨hI_81, hF_81, trivial, (Or.inl ⟨hs5_, h4_, (Or.inl ⟨hs11_, h10_, j15_, h16_, z13_, e14_, (Or.inl ⟨h17_, j20_, h21_, z18_, e19_, (Or.inl ⟨h22_, j25_, h26_, z23_, e24_, h27_, (Or.inl ⟨h28_, v4_81, hv0_81, v3_81, M_81, hL_81, hI_81, hF_81, j33_, h34_, z31_, e32_, h35_, h36_, h37_, rfl, rfl⟩)⟩)⟩)⟩)⟩)⟩
                · refine w_aload_n dX12_lays_92 rfl 2 rfl ?_
                  refine w_getR (c' := (68, 0, 0)) fl_RX12_78 rfl rfl ic_12 dX12_lays_93 rfl ?_
                  refine w_bipush (v := 24) dX12_lays_96 (by decide) ?_
                  refine w_iload_n dX12_lays_98 rfl 3 rfl ?_
                  refine w_imulB dX12_lays_99 li_24 (rfl : v.toInt = v.toInt) (lf_c_X12_lays_7 M_81 Mz v j15_ z13_ j20_ z18_ j25_ z23_ v4_81 j33_ z31_ h4_ h16_ e14_ h17_ h21_ e19_ h22_ h26_ e24_ h27_ h28_ kf29_ hv0_81 kv0_81 h34_ e32_ h35_ h36_ h37_) (fun z38_ h39_ => ?_)
                  refine w_iload dX12_lays_100 0 rfl ?_
                  refine w_iaddB dX12_lays_102 (rfl : z38_.toInt = z38_.toInt) (rfl : v4_81.toInt = v4_81.toInt) (lf_c_X12_lays_8 M_81 Mz v j15_ z13_ j20_ z18_ j25_ z23_ v4_81 j33_ z31_ z38_ h4_ h16_ e14_ h17_ h21_ e19_ h22_ h26_ e24_ h27_ h28_ kf29_ hv0_81 kv0_81 h34_ e32_ h35_ h36_ h37_ h39_) (fun z40_ h41_ => ?_)
                  refine w_iald rfl rfl ic_68 (rfl : z40_.toInt = z40_.toInt) (lf_c_X12_lays_9 M_81 Mz v j15_ z13_ j20_ z18_ j25_ z23_ v4_81 j33_ z31_ z38_ z40_ h4_ h16_ e14_ h17_ h21_ e19_ h22_ h26_ e24_ h27_ h28_ kf29_ hv0_81 kv0_81 h34_ e32_ h35_ h36_ h37_ h39_ h41_) dX12_lays_103 (fun j44_ h45_ z42_ e43_ => ?_)
                  refine w_istore (ls' := [(5, vI z42_), (4, vI v4_81), (3, vI v3_81), (0, vR (12, 0, 0)), (1, vI v), (2, vI u)]) dX12_lays_104 (by decide) rfl ?_
                  refine w_iload dX12_lays_106 0 rfl ?_
                  refine w_iconst (v := 1) dX12_lays_108 (by decide) ?_
                  refine w_iconst (v := 5) dX12_lays_109 (by decide) ?_
                  refine w_callS (as := [vI z42_, vI 1, vI 5]) (rest := []) (c_X12_within l G cy ad (d + 2) z42_ 1 5 M_81 hI_81) kS_X12_within (by decide +kernel) (Nat.le_of_ble_eq_true rfl) m_1427 rfl rfl (by decide) (Nat.le_of_ble_eq_true rfl) dX12_lays_110 (fun r46_ M47_ q48_ => ?_)
                  obtain ⟨rfl, h49_, hs50_⟩ := q48_
                  rcases h49_ with ⟨rfl, h49_⟩ | ⟨rfl, h49_⟩
                  · simp only [li_1, li_5] at h49_
                    refine w_if_eq (tgt := 160) dX12_lays_113 (by decide) li_1 (fun h9 => (absurd h9 (by decide))) (fun h51_ => ?_)
                    refine w_aload_n dX12_lays_116 rfl 3 rfl ?_
                    refine w_getR (c' := (50, 0, 0)) fl_RX12_9 rfl rfl ic_12 dX12_lays_117 rfl ?_
                    refine w_iconst (v := 1) dX12_lays_120 (by decide) ?_
                    refine w_ialdL 1 rfl rfl ic_50 li_1 (by decide) dX12_lays_121 (fun z52_ e53_ => ?_)
                    have h54_ : 0 ≤ z52_.toInt ∧ z52_.toInt ≤ 40 := pn_1 hI_81 e53_
                    refine w_bipush (v := 40) dX12_lays_122 (by decide) ?_
                    refine w_icmp_ge (tgt := 160) dX12_lays_124 (by decide) (rfl : z52_.toInt = z52_.toInt) li_40 (fun h55_ => ?_) (fun h55_ => ?_)
                    · refine w_iincB (j := 1) (f := fun z56_ => [(4, vI z56_), (5, vI z42_), (3, vI v3_81), (0, vR (12, 0, 0)), (1, vI v), (2, vI u)]) dX12_lays_160 rfl (by decide) (fun _ => rfl) (rfl : v4_81.toInt = v4_81.toInt) li_1 (lf_c_X12_lays_10 M_81 Mz v j15_ z13_ j20_ z18_ j25_ z23_ v4_81 j33_ z31_ z38_ z40_ j44_ z42_ h4_ h16_ e14_ h17_ h21_ e19_ h22_ h26_ e24_ h27_ h28_ kf29_ hv0_81 kv0_81 h34_ e32_ h35_ h36_ h37_ h39_ h41_ h45_ e43_ h49_) (fun z56_ h57_ => ?_)
                      refine w_goto (tgt := 81) dX12_lays_163 (by decide) ?_
                      refine w_loc (ls' := [(4, vI z56_), (3, vI v3_81), (0, vR (12, 0, 0)), (1, vI v), (2, vI u)]) [0, 2, 3, 4, 5] rfl ?_
                      exact ih_81 M_81 hI_81 hF_81 z56_ v3_81 (lf_c_X12_lays_11 M_81 Mz v j15_ z13_ j20_ z18_ j25_ z23_ v4_81 j33_ z31_ z38_ z40_ j44_ z42_ z56_ h4_ h16_ e14_ h17_ h21_ e19_ h22_ h26_ e24_ h27_ h28_ kf29_ hv0_81 kv0_81 h34_ e32_ h35_ h36_ h37_ h39_ h41_ h45_ e43_ h49_ h57_) kv0_81 (RCH.tail hL_81 ⟨hv0_81, hI_81, hF_81, j33_, h34_, z31_, e32_, h35_, h36_, h37_, z38_, h39_, z40_, h41_, j44_, h45_, z42_, e43_, (Or.inl ⟨hs50_, h49_, z52_, e53_, h54_, (Or.inl ⟨h55_, z56_, h57_, rfl, rfl, rfl⟩)⟩)⟩) (Nat.lt_of_lt_of_le (lf_c_X12_lays_12 M_81 Mz v j15_ z13_ j20_ z18_ j25_ z23_ v4_81 j33_ z31_ z38_ z40_ j44_ z42_ z56_ h4_ h16_ e14_ h17_ h21_ e19_ h22_ h26_ e24_ h27_ h28_ kf29_ hv0_81 kv0_81 h34_ e32_ h35_ h36_ h37_ h39_ h41_ h45_ e43_ h49_ h57_) (Nat.le_of_lt_succ hm_81))
                    · refine w_aload_n dX12_lays_127 rfl 3 rfl ?_
                      refine w_bipush (v := 16) dX12_lays_128 (by decide) ?_
                      refine w_iload_n dX12_lays_130 rfl 5 rfl ?_
                      refine w_imulB dX12_lays_131 li_16 (rfl : u.toInt = u.toInt) (lf_c_X12_lays_13 u h10_) (fun z58_ h59_ => ?_)
                      refine w_iload dX12_lays_132 1 rfl ?_
                      refine w_iaddB dX12_lays_134 (rfl : z58_.toInt = z58_.toInt) (rfl : v4_81.toInt = v4_81.toInt) (lf_c_X12_lays_14 M_81 Mz v u j15_ z13_ j20_ z18_ j25_ z23_ v4_81 j33_ z31_ z38_ z40_ j44_ z42_ z58_ h4_ h10_ h16_ e14_ h17_ h21_ e19_ h22_ h26_ e24_ h27_ h28_ kf29_ hv0_81 kv0_81 h34_ e32_ h35_ h36_ h37_ h39_ h41_ h45_ e43_ h49_ h59_) (fun z60_ h61_ => ?_)
                      refine w_callV (as := [vI z60_]) (rest := []) (c_X12_isFree l G cy ad d z60_ M_81 hI_81) kV_X12_isFree (by decide +kernel) (Nat.le_of_ble_eq_true rfl) m_1439 rfl rfl rfl ic_12 rfl rfl (by decide) (Nat.le_of_ble_eq_true rfl) dX12_lays_135 (fun r62_ M63_ q64_ => ?_)
                      obtain ⟨rfl, h65_, hs66_⟩ := q64_
                      refine w_if_eq (tgt := 160) dX12_lays_138 (by decide) (rfl : r62_.toInt = r62_.toInt) (fun h67_ => ?_) (fun h67_ => ?_)
                      · refine w_iincB (j := 1) (f := fun z68_ => [(4, vI z68_), (5, vI z42_), (3, vI v3_81), (0, vR (12, 0, 0)), (1, vI v), (2, vI u)]) dX12_lays_160 rfl (by decide) (fun _ => rfl) (rfl : v4_81.toInt = v4_81.toInt) li_1 (lf_c_X12_lays_15 M_81 Mz v u j15_ z13_ j20_ z18_ j25_ z23_ v4_81 j33_ z31_ z38_ z40_ j44_ z42_ z58_ z60_ h4_ h10_ h16_ e14_ h17_ h21_ e19_ h22_ h26_ e24_ h27_ h28_ kf29_ hv0_81 kv0_81 h34_ e32_ h35_ h36_ h37_ h39_ h41_ h45_ e43_ h49_ h59_ h61_) (fun z68_ h69_ => ?_)
                        refine w_goto (tgt := 81) dX12_lays_163 (by decide) ?_
                        refine w_loc (ls' := [(4, vI z68_), (3, vI v3_81), (0, vR (12, 0, 0)), (1, vI v), (2, vI u)]) [0, 2, 3, 4, 5] rfl ?_
                        exact ih_81 M_81 hI_81 hF_81 z68_ v3_81 (lf_c_X12_lays_16 M_81 Mz v u j15_ z13_ j20_ z18_ j25_ z23_ v4_81 j33_ z31_ z38_ z40_ j44_ z42_ z58_ z60_ z68_ h4_ h10_ h16_ e14_ h17_ h21_ e19_ h22_ h26_ e24_ h27_ h28_ kf29_ hv0_81 kv0_81 h34_ e32_ h35_ h36_ h37_ h39_ h41_ h45_ e43_ h49_ h59_ h61_ h69_) kv0_81 (RCH.tail hL_81 ⟨hv0_81, hI_81, hF_81, j33_, h34_, z31_, e32_, h35_, h36_, h37_, z38_, h39_, z40_, h41_, j44_, h45_, z42_, e43_, (Or.inl ⟨hs50_, h49_, z52_, e53_, h54_, (Or.inr ⟨h55_, z58_, h59_, z60_, h61_, r62_, hs66_, h65_, (Or.inl ⟨h67_, z68_, h69_, rfl, rfl, rfl⟩)⟩)⟩)⟩) (Nat.lt_of_lt_of_le (lf_c_X12_lays_17 M_81 Mz v u j15_ z13_ j20_ z18_ j25_ z23_ v4_81 j33_ z31_ z38_ z40_ j44_ z42_ z58_ z60_ z68_ h4_ h10_ h16_ e14_ h17_ h21_ e19_ h22_ h26_ e24_ h27_ h28_ kf29_ hv0_81 kv0_81 h34_ e32_ h35_ h36_ h37_ h39_ h41_ h45_ e43_ h49_ h59_ h61_ h69_) (Nat.le_of_lt_succ hm_81))
                      · refine w_aload_n dX12_lays_141 rfl 3 rfl ?_
                        refine w_iload dX12_lays_142 0 rfl ?_
                        refine w_iconst (v := 1) dX12_lays_144 (by decide) ?_
                        refine w_isubB dX12_lays_145 (rfl : z42_.toInt = z42_.toInt) li_1 (lf_c_X12_lays_18 M_81 Mz v u j15_ z13_ j20_ z18_ j25_ z23_ v4_81 j33_ z31_ z38_ z40_ j44_ z42_ z58_ z60_ h4_ h10_ h16_ e14_ h17_ h21_ e19_ h22_ h26_ e24_ h27_ h28_ kf29_ hv0_81 kv0_81 h34_ e32_ h35_ h36_ h37_ h39_ h41_ h45_ e43_ h49_ h59_ h61_) (fun z70_ h71_ => ?_)
                        refine w_bipush (v := 16) dX12_lays_146 (by decide) ?_
                        refine w_iload_n dX12_lays_148 rfl 5 rfl ?_
                        refine w_imulB dX12_lays_149 li_16 (rfl : u.toInt = u.toInt) (lf_c_X12_lays_19 M_81 Mz v u j15_ z13_ j20_ z18_ j25_ z23_ v4_81 j33_ z31_ z38_ z40_ j44_ z42_ z58_ z60_ z70_ h4_ h10_ h16_ e14_ h17_ h21_ e19_ h22_ h26_ e24_ h27_ h28_ kf29_ hv0_81 kv0_81 h34_ e32_ h35_ h36_ h37_ h39_ h41_ h45_ e43_ h49_ h59_ h61_ h71_) (fun z72_ h73_ => ?_)
                        refine w_iload dX12_lays_150 1 rfl ?_
                        refine w_iaddB dX12_lays_152 (rfl : z72_.toInt = z72_.toInt) (rfl : v4_81.toInt = v4_81.toInt) (lf_c_X12_lays_20 M_81 Mz v u j15_ z13_ j20_ z18_ j25_ z23_ v4_81 j33_ z31_ z38_ z40_ j44_ z42_ z58_ z60_ z70_ z72_ h4_ h10_ h16_ e14_ h17_ h21_ e19_ h22_ h26_ e24_ h27_ h28_ kf29_ hv0_81 kv0_81 h34_ e32_ h35_ h36_ h37_ h39_ h41_ h45_ e43_ h49_ h59_ h61_ h71_ h73_) (fun z74_ h75_ => ?_)
                        refine w_callV (as := [vI z70_, vI z74_]) (rest := []) (c_X12_comes l G cy ad (d + 1) z70_ z74_ M_81 hI_81 (lf_c_X12_lays_21 M_81 Mz v u j15_ z13_ j20_ z18_ j25_ z23_ v4_81 j33_ z31_ z38_ z40_ j44_ z42_ z58_ z60_ z70_ z72_ z74_ h4_ h10_ h16_ e14_ h17_ h21_ e19_ h22_ h26_ e24_ h27_ h28_ kf29_ hv0_81 kv0_81 h34_ e32_ h35_ h36_ h37_ h39_ h41_ h45_ e43_ h49_ h59_ h61_ h71_ h73_ h75_) (lf_c_X12_lays_22 M_81 Mz v u j15_ z13_ j20_ z18_ j25_ z23_ v4_81 j33_ z31_ z38_ z40_ j44_ z42_ z58_ z60_ z70_ z72_ z74_ h4_ h10_ h16_ e14_ h17_ h21_ e19_ h22_ h26_ e24_ h27_ h28_ kf29_ hv0_81 kv0_81 h34_ e32_ h35_ h36_ h37_ h39_ h41_ h45_ e43_ h49_ h59_ h61_ h71_ h73_ h75_) (by rw [← e53_]; exact (lf_c_X12_lays_23 M_81 z52_ e53_ h54_ h55_))) kV_X12_comes (by decide +kernel) (Nat.le_of_ble_eq_true rfl) m_1457 rfl rfl rfl ic_12 rfl rfl (by decide) (Nat.le_of_ble_eq_true rfl) dX12_lays_153 (fun r76_ M77_ q78_ => ?_)
                        obtain ⟨hI80_, hF81_, h79_, hs83_⟩ := q78_
                        have hF82_ := hF_81.tr hF81_ (fun c k => (fun h => h.elim (fun h => (Or.inl ⟨h.1, h.2⟩)) (fun h => h.elim)))
                        have kf84_ : SZ (M77_.1 (67, 0, 0)) v 16 := by rw [(show M77_.1 (67, 0, 0) = M_81.1 (67, 0, 0) from funext (fun k => hF81_ (67, 0, 0) k (by simp [S_c_X12_comes])))]; exact kv0_81
                        refine w_pop dX12_lays_156 rfl ?_
                        refine w_iincX (j := 2) (f := fun z85_ => [(3, vI z85_), (5, vI z42_), (4, vI v4_81), (0, vR (12, 0, 0)), (1, vI v), (2, vI u)]) dX12_lays_157 rfl (by decide) (fun _ => rfl) (fun z85_ h86_ => ?_)
                        refine w_iincB (j := 2) (f := fun z87_ => [(4, vI z87_), (3, vI z85_), (5, vI z42_), (0, vR (12, 0, 0)), (1, vI v), (2, vI u)]) dX12_lays_160 rfl (by decide) (fun _ => rfl) (rfl : v4_81.toInt = v4_81.toInt) li_1 (lf_c_X12_lays_24 M77_ M_81 Mz v u j15_ z13_ j20_ z18_ j25_ z23_ v4_81 j33_ z31_ z38_ z40_ j44_ z42_ z58_ z60_ z70_ z72_ z74_ h4_ h10_ h16_ e14_ h17_ h21_ e19_ h22_ h26_ e24_ h27_ h28_ kf29_ hv0_81 kv0_81 h34_ e32_ h35_ h36_ h37_ h39_ h41_ h45_ e43_ h49_ h59_ h61_ h71_ h73_ h75_ kf84_) (fun z87_ h88_ => ?_)
                        refine w_goto (tgt := 81) dX12_lays_163 (by decide) ?_
                        refine w_loc (ls' := [(4, vI z87_), (3, vI z85_), (0, vR (12, 0, 0)), (1, vI v), (2, vI u)]) [0, 1, 3, 4, 5] rfl ?_
                        exact ih_81 M77_ hI80_ hF82_ z87_ z85_ (lf_c_X12_lays_25 M77_ M_81 Mz v u j15_ z13_ j20_ z18_ j25_ z23_ v4_81 j33_ z31_ z38_ z40_ j44_ z42_ z58_ z60_ z70_ z72_ z74_ z87_ h4_ h10_ h16_ e14_ h17_ h21_ e19_ h22_ h26_ e24_ h27_ h28_ kf29_ hv0_81 kv0_81 h34_ e32_ h35_ h36_ h37_ h39_ h41_ h45_ e43_ h49_ h59_ h61_ h71_ h73_ h75_ kf84_ h88_) kf84_ (RCH.tail hL_81 ⟨hv0_81, hI_81, hF_81, j33_, h34_, z31_, e32_, h35_, h36_, h37_, z38_, h39_, z40_, h41_, j44_, h45_, z42_, e43_, (Or.inl ⟨hs50_, h49_, z52_, e53_, h54_, (Or.inr ⟨h55_, z58_, h59_, z60_, h61_, r62_, hs66_, h65_, (Or.inr ⟨h67_, z70_, h71_, z72_, h73_, z74_, h75_, M77_, hI80_, hF81_, r76_, hs83_, h79_, z85_, h86_, z87_, h88_, rfl, rfl, rfl⟩)⟩)⟩)⟩) (Nat.lt_of_lt_of_le (lf_c_X12_lays_26 M77_ M_81 Mz v u j15_ z13_ j20_ z18_ j25_ z23_ v4_81 j33_ z31_ z38_ z40_ j44_ z42_ z58_ z60_ z70_ z72_ z74_ z87_ h4_ h10_ h16_ e14_ h17_ h21_ e19_ h22_ h26_ e24_ h27_ h28_ kf29_ hv0_81 kv0_81 h34_ e32_ h35_ h36_ h37_ h39_ h41_ h45_ e43_ h49_ h59_ h61_ h71_ h73_ h75_ kf84_ h88_) (Nat.le_of_lt_succ hm_81))
                  · simp only [li_1, li_5] at h49_
                    refine w_if_eq (tgt := 160) dX12_lays_113 (by decide) li_0 (fun h89_ => ?_) (fun h9 => (absurd h9 (by decide)))
                    refine w_iincB (j := 1) (f := fun z90_ => [(4, vI z90_), (5, vI z42_), (3, vI v3_81), (0, vR (12, 0, 0)), (1, vI v), (2, vI u)]) dX12_lays_160 rfl (by decide) (fun _ => rfl) (rfl : v4_81.toInt = v4_81.toInt) li_1 (lf_c_X12_lays_27 M_81 Mz v j15_ z13_ j20_ z18_ j25_ z23_ v4_81 j33_ z31_ z38_ z40_ j44_ z42_ h4_ h16_ e14_ h17_ h21_ e19_ h22_ h26_ e24_ h27_ h28_ kf29_ hv0_81 kv0_81 h34_ e32_ h35_ h36_ h37_ h39_ h41_ h45_ e43_ h49_) (fun z90_ h91_ => ?_)
                    refine w_goto (tgt := 81) dX12_lays_163 (by decide) ?_
                    refine w_loc (ls' := [(4, vI z90_), (3, vI v3_81), (0, vR (12, 0, 0)), (1, vI v), (2, vI u)]) [0, 2, 3, 4, 5] rfl ?_
                    exact ih_81 M_81 hI_81 hF_81 z90_ v3_81 (lf_c_X12_lays_28 M_81 Mz v j15_ z13_ j20_ z18_ j25_ z23_ v4_81 j33_ z31_ z38_ z40_ j44_ z42_ z90_ h4_ h16_ e14_ h17_ h21_ e19_ h22_ h26_ e24_ h27_ h28_ kf29_ hv0_81 kv0_81 h34_ e32_ h35_ h36_ h37_ h39_ h41_ h45_ e43_ h49_ h91_) kv0_81 (RCH.tail hL_81 ⟨hv0_81, hI_81, hF_81, j33_, h34_, z31_, e32_, h35_, h36_, h37_, z38_, h39_, z40_, h41_, j44_, h45_, z42_, e43_, (Or.inr ⟨hs50_, h49_, z90_, h91_, rfl, rfl, rfl⟩)⟩) (Nat.lt_of_lt_of_le (lf_c_X12_lays_29 M_81 Mz v j15_ z13_ j20_ z18_ j25_ z23_ v4_81 j33_ z31_ z38_ z40_ j44_ z42_ z90_ h4_ h16_ e14_ h17_ h21_ e19_ h22_ h26_ e24_ h27_ h28_ kf29_ hv0_81 kv0_81 h34_ e32_ h35_ h36_ h37_ h39_ h41_ h45_ e43_ h49_ h91_) (Nat.le_of_lt_succ hm_81))
            exact lp30_ _ Mz hIz hFz 0 0 (lf_c_X12_lays_30 ) kf29_ RCH.refl (Nat.lt_succ_self _)
          · refine w_aload_n dX12_lays_69 rfl 0 rfl ?_
            refine w_ldc (v := (-1000003)) m_1455 dX12_lays_70 ?_
            refine w_callV (as := [vI (-1000003)]) (rest := []) (c_X12_finding l G cy ad (d + 2) (-1000003) Mz hIz (by first | decide | (unfold vF; omega) | (unfold vRw; omega))) kV_X12_finding (by decide +kernel) (Nat.le_of_ble_eq_true rfl) m_1434 rfl rfl rfl ic_12 rfl rfl (by decide) (Nat.le_of_ble_eq_true rfl) dX12_lays_72 (fun r92_ M93_ q94_ => ?_)
            obtain ⟨hI96_, hF97_, h95_, hs99_⟩ := q94_
            have hF98_ := hFz.tr hF97_ (fun c k => (fun h => h.elim (fun h => (Or.inr (Or.inl ⟨h.1, h.2⟩))) (fun h => h.elim)))
            simp only [li_m1000003] at h95_
            exact w_iret rfl dX12_lays_75 ⟨hI96_, hF98_, trivial, (Or.inl ⟨hs5_, h4_, (Or.inl ⟨hs11_, h10_, j15_, h16_, z13_, e14_, (Or.inl ⟨h17_, j20_, h21_, z18_, e19_, (Or.inl ⟨h22_, j25_, h26_, z23_, e24_, h27_, (Or.inr ⟨h28_, M93_, hI96_, hF97_, r92_, hs99_, h95_, rfl, rfl⟩)⟩)⟩)⟩)⟩)⟩
        · refine w_aload_n dX12_lays_51 rfl 0 rfl ?_
          refine w_ldc (v := (-1000005)) m_1476 dX12_lays_52 ?_
          refine w_callV (as := [vI (-1000005)]) (rest := []) (c_X12_finding l G cy ad (d + 2) (-1000005) Mz hIz (by first | decide | (unfold vF; omega) | (unfold vRw; omega))) kV_X12_finding (by decide +kernel) (Nat.le_of_ble_eq_true rfl) m_1434 rfl rfl rfl ic_12 rfl rfl (by decide) (Nat.le_of_ble_eq_true rfl) dX12_lays_54 (fun r100_ M101_ q102_ => ?_)
          obtain ⟨hI104_, hF105_, h103_, hs107_⟩ := q102_
          have hF106_ := hFz.tr hF105_ (fun c k => (fun h => h.elim (fun h => (Or.inr (Or.inl ⟨h.1, h.2⟩))) (fun h => h.elim)))
          simp only [li_m1000005] at h103_
          exact w_iret rfl dX12_lays_57 ⟨hI104_, hF106_, trivial, (Or.inl ⟨hs5_, h4_, (Or.inl ⟨hs11_, h10_, j15_, h16_, z13_, e14_, (Or.inl ⟨h17_, j20_, h21_, z18_, e19_, (Or.inr ⟨h22_, M101_, hI104_, hF105_, r100_, hs107_, h103_, rfl, rfl⟩)⟩)⟩)⟩)⟩
      · refine w_aload_n dX12_lays_33 rfl 0 rfl ?_
        refine w_ldc (v := (-1000002)) m_1500 dX12_lays_34 ?_
        refine w_callV (as := [vI (-1000002)]) (rest := []) (c_X12_finding l G cy ad (d + 2) (-1000002) Mz hIz (by first | decide | (unfold vF; omega) | (unfold vRw; omega))) kV_X12_finding (by decide +kernel) (Nat.le_of_ble_eq_true rfl) m_1434 rfl rfl rfl ic_12 rfl rfl (by decide) (Nat.le_of_ble_eq_true rfl) dX12_lays_36 (fun r108_ M109_ q110_ => ?_)
        obtain ⟨hI112_, hF113_, h111_, hs115_⟩ := q110_
        have hF114_ := hFz.tr hF113_ (fun c k => (fun h => h.elim (fun h => (Or.inr (Or.inl ⟨h.1, h.2⟩))) (fun h => h.elim)))
        simp only [li_m1000002] at h111_
        exact w_iret rfl dX12_lays_39 ⟨hI112_, hF114_, trivial, (Or.inl ⟨hs5_, h4_, (Or.inl ⟨hs11_, h10_, j15_, h16_, z13_, e14_, (Or.inr ⟨h17_, M109_, hI112_, hF113_, r108_, hs115_, h111_, rfl, rfl⟩)⟩)⟩)⟩
    · simp only [li_0, li_11] at h10_
      refine w_if_ne (tgt := 24) dX12_lays_14 (by decide) li_0 (fun h9 => (absurd h9 (by decide))) (fun h116_ => ?_)
      refine w_aload_n dX12_lays_17 rfl 0 rfl ?_
      refine w_ldc (v := (-1000001)) m_1433 dX12_lays_18 ?_
      refine w_callV (as := [vI (-1000001)]) (rest := []) (c_X12_finding l G cy ad (d + 2) (-1000001) Mz hIz (by first | decide | (unfold vF; omega) | (unfold vRw; omega))) kV_X12_finding (by decide +kernel) (Nat.le_of_ble_eq_true rfl) m_1434 rfl rfl rfl ic_12 rfl rfl (by decide) (Nat.le_of_ble_eq_true rfl) dX12_lays_20 (fun r117_ M118_ q119_ => ?_)
      obtain ⟨hI121_, hF122_, h120_, hs124_⟩ := q119_
      have hF123_ := hFz.tr hF122_ (fun c k => (fun h => h.elim (fun h => (Or.inr (Or.inl ⟨h.1, h.2⟩))) (fun h => h.elim)))
      simp only [li_m1000001] at h120_
      exact w_iret rfl dX12_lays_23 ⟨hI121_, hF123_, trivial, (Or.inl ⟨hs5_, h4_, (Or.inr ⟨hs11_, h10_, M118_, hI121_, hF122_, r117_, hs124_, h120_, rfl, rfl⟩)⟩)⟩
  · refine w_if_eq (tgt := 17) dX12_lays_4 (by decide) li_0 (fun h125_ => ?_) (fun h9 => (absurd h9 (by decide)))
    refine w_aload_n dX12_lays_17 rfl 0 rfl ?_
    refine w_ldc (v := (-1000001)) m_1433 dX12_lays_18 ?_
    refine w_callV (as := [vI (-1000001)]) (rest := []) (c_X12_finding l G cy ad (d + 2) (-1000001) Mz hIz (by first | decide | (unfold vF; omega) | (unfold vRw; omega))) kV_X12_finding (by decide +kernel) (Nat.le_of_ble_eq_true rfl) m_1434 rfl rfl rfl ic_12 rfl rfl (by decide) (Nat.le_of_ble_eq_true rfl) dX12_lays_20 (fun r126_ M127_ q128_ => ?_)
    obtain ⟨hI130_, hF131_, h129_, hs133_⟩ := q128_
    have hF132_ := hFz.tr hF131_ (fun c k => (fun h => h.elim (fun h => (Or.inr (Or.inl ⟨h.1, h.2⟩))) (fun h => h.elim)))
    simp only [li_m1000001] at h129_
    exact w_iret rfl dX12_lays_23 ⟨hI130_, hF132_, trivial, (Or.inr ⟨hs5_, h4_, M127_, hI130_, hF131_, r126_, hs133_, h129_, rfl, rfl⟩)⟩
def S_c_X12_air : rf → Nat → Prop := fun c k => (c.1 = 53 ∧ c.2.1 = 0) ∨ (c.1 = 50 ∧ c.2.1 = 0) ∨ False
def SP_X12_air (v : Int32) (u : Int32) (Mz : mM) (r_ : Int32) (M_ : mM) : Prop := (((¬ v.toInt = 0) ∧ (((¬ v.toInt = 1) ∧ (((¬ v.toInt = 2) ∧ ∃ M6_ : mM, (InvD M6_) ∧ (FR (S_c_X12_finding) Mz M6_) ∧ ∃ r5_ : Int32, (SP_X12_finding (-1000001) Mz r5_ M6_) ∧ (r5_.toInt = (-1000001)) ∧ r_ = r5_ ∧ M_ = M6_) ∨ ((v.toInt = 2) ∧ (((SP_X12_within u 0 1 Mz (1 : Int32)) ∧ (0 ≤ u.toInt ∧ u.toInt ≤ 1) ∧ ∃ z20_ : Int32, (z20_.toInt = 6 + v.toInt) ∧ ∃ M23_ : mM, (InvD M23_) ∧ (FR (S_c_X12_become) Mz M23_) ∧ ∃ r22_ : Int32, (SP_X12_become z20_ u Mz r22_ M23_) ∧ r_ = r22_ ∧ M_ = M23_) ∨ ((SP_X12_within u 0 1 Mz (0 : Int32)) ∧ (¬ (0 ≤ u.toInt ∧ u.toInt ≤ 1)) ∧ ∃ M33_ : mM, (InvD M33_) ∧ (FR (S_c_X12_finding) Mz M33_) ∧ ∃ r32_ : Int32, (SP_X12_finding (-1000001) Mz r32_ M33_) ∧ (r32_.toInt = (-1000001)) ∧ r_ = r32_ ∧ M_ = M33_))))) ∨ ((v.toInt = 1) ∧ (((SP_X12_within u 0 90 Mz (1 : Int32)) ∧ (0 ≤ u.toInt ∧ u.toInt ≤ 90) ∧ ∃ z46_ : Int32, (z46_.toInt = 6 + v.toInt) ∧ ∃ M49_ : mM, (InvD M49_) ∧ (FR (S_c_X12_become) Mz M49_) ∧ ∃ r48_ : Int32, (SP_X12_become z46_ u Mz r48_ M49_) ∧ r_ = r48_ ∧ M_ = M49_) ∨ ((SP_X12_within u 0 90 Mz (0 : Int32)) ∧ (¬ (0 ≤ u.toInt ∧ u.toInt ≤ 90)) ∧ ∃ M58_ : mM, (InvD M58_) ∧ (FR (S_c_X12_finding) Mz M58_) ∧ ∃ r57_ : Int32, (SP_X12_finding (-1000001) Mz r57_ M58_) ∧ (r57_.toInt = (-1000001)) ∧ r_ = r57_ ∧ M_ = M58_))))) ∨ ((v.toInt = 0) ∧ (((SP_X12_within u 0 99 Mz (1 : Int32)) ∧ (0 ≤ u.toInt ∧ u.toInt ≤ 99) ∧ ∃ z71_ : Int32, (z71_.toInt = 6 + v.toInt) ∧ ∃ M74_ : mM, (InvD M74_) ∧ (FR (S_c_X12_become) Mz M74_) ∧ ∃ r73_ : Int32, (SP_X12_become z71_ u Mz r73_ M74_) ∧ r_ = r73_ ∧ M_ = M74_) ∨ ((SP_X12_within u 0 99 Mz (0 : Int32)) ∧ (¬ (0 ≤ u.toInt ∧ u.toInt ≤ 99)) ∧ ∃ M83_ : mM, (InvD M83_) ∧ (FR (S_c_X12_finding) Mz M83_) ∧ ∃ r82_ : Int32, (SP_X12_finding (-1000001) Mz r82_ M83_) ∧ (r82_.toInt = (-1000001)) ∧ r_ = r82_ ∧ M_ = M83_))))
theorem lf_c_X12_air_0  (v : Int32) (h1_ : ¬ v.toInt = 0) (h2_ : ¬ v.toInt = 1) (h3_ : v.toInt = 2) : -2147483648 ≤ 6 + v.toInt ∧ 6 + v.toInt < 2147483648 := by have r_v := rngI v; omega
theorem lf_c_X12_air_1  (v : Int32) (u : Int32) (z20_ : Int32) (h1_ : ¬ v.toInt = 0) (h2_ : ¬ v.toInt = 1) (h3_ : v.toInt = 2) (h16_ : 0 ≤ u.toInt ∧ u.toInt ≤ 1) (h21_ : z20_.toInt = 6 + v.toInt) : PN z20_.toInt.toNat u ∧ (z20_.toInt.toNat < 345 ∨ 493 < z20_.toInt.toNat) := by have r_v := rngI v; have r_u := rngI u; have r_z20_ := rngI z20_; unfold PN; omega
theorem lf_c_X12_air_2  (v : Int32) (z20_ : Int32) (h1_ : ¬ v.toInt = 0) (h2_ : ¬ v.toInt = 1) (h3_ : v.toInt = 2) (h21_ : z20_.toInt = 6 + v.toInt) : 0 ≤ z20_.toInt ∧ z20_.toInt ≤ 3566 := by have r_v := rngI v; have r_z20_ := rngI z20_; omega
theorem lf_c_X12_air_3  (v : Int32) (h1_ : ¬ v.toInt = 0) (h2_ : v.toInt = 1) : -2147483648 ≤ 6 + v.toInt ∧ 6 + v.toInt < 2147483648 := by have r_v := rngI v; omega
theorem lf_c_X12_air_4  (v : Int32) (u : Int32) (z46_ : Int32) (h1_ : ¬ v.toInt = 0) (h2_ : v.toInt = 1) (h43_ : 0 ≤ u.toInt ∧ u.toInt ≤ 90) (h47_ : z46_.toInt = 6 + v.toInt) : PN z46_.toInt.toNat u ∧ (z46_.toInt.toNat < 345 ∨ 493 < z46_.toInt.toNat) := by have r_v := rngI v; have r_u := rngI u; have r_z46_ := rngI z46_; unfold PN; omega
theorem lf_c_X12_air_5  (v : Int32) (z46_ : Int32) (h1_ : ¬ v.toInt = 0) (h2_ : v.toInt = 1) (h47_ : z46_.toInt = 6 + v.toInt) : 0 ≤ z46_.toInt ∧ z46_.toInt ≤ 3566 := by have r_v := rngI v; have r_z46_ := rngI z46_; omega
theorem lf_c_X12_air_6  (v : Int32) (h1_ : v.toInt = 0) : -2147483648 ≤ 6 + v.toInt ∧ 6 + v.toInt < 2147483648 := by have r_v := rngI v; omega
theorem lf_c_X12_air_7  (v : Int32) (u : Int32) (z71_ : Int32) (h1_ : v.toInt = 0) (h68_ : 0 ≤ u.toInt ∧ u.toInt ≤ 99) (h72_ : z71_.toInt = 6 + v.toInt) : PN z71_.toInt.toNat u ∧ (z71_.toInt.toNat < 345 ∨ 493 < z71_.toInt.toNat) := by have r_v := rngI v; have r_u := rngI u; have r_z71_ := rngI z71_; unfold PN; omega
theorem lf_c_X12_air_8  (v : Int32) (z71_ : Int32) (h1_ : v.toInt = 0) (h72_ : z71_.toInt = 6 + v.toInt) : 0 ≤ z71_.toInt ∧ z71_.toInt ≤ 3566 := by have r_v := rngI v; have r_z71_ := rngI z71_; omega
set_option maxHeartbeats 4000000 in
set_option maxRecDepth 100000 in
theorem c_X12_air (l : Launch) (G : va_G) (cy : Nat → ClassId) (ad : rf → Nat) (d : Nat) (v : Int32) (u : Int32) (Mz : mM) (hIz : InvD Mz) : WP DD l G cy ad yX12_air cX12_air 4 (some .int) (d + 1) 0 [(0, vR (12, 0, 0)), (1, vI v), (2, vI u)] [] Mz (fun r M' => InvD M' ∧ FR (S_c_X12_air) Mz M' ∧ (True) ∧ SP_X12_air v u Mz r M') := by
  have hFz : FR (S_c_X12_air) Mz Mz := FR.self
  refine w_iload_n dX12_air_0 rfl 1 rfl ?_
  refine w_if_ne (tgt := 14) dX12_air_1 (by decide) (rfl : v.toInt = v.toInt) (fun h1_ => ?_) (fun h1_ => ?_)
  · refine w_iload_n dX12_air_14 rfl 1 rfl ?_
    refine w_iconst (v := 1) dX12_air_15 (by decide) ?_
    refine w_icmp_ne (tgt := 29) dX12_air_16 (by decide) (rfl : v.toInt = v.toInt) li_1 (fun h2_ => ?_) (fun h2_ => ?_)
    · refine w_iload_n dX12_air_29 rfl 1 rfl ?_
      refine w_iconst (v := 2) dX12_air_30 (by decide) ?_
      refine w_icmp_ne (tgt := 47) dX12_air_31 (by decide) (rfl : v.toInt = v.toInt) li_2 (fun h3_ => ?_) (fun h3_ => ?_)
      · refine w_iconst (v := 0) dX12_air_47 (by decide) ?_
        refine w_istore_n (ls' := [(3, vI 0), (0, vR (12, 0, 0)), (1, vI v), (2, vI u)]) dX12_air_48 rfl (by decide) rfl ?_
        refine w_iload_n dX12_air_49 rfl 0 rfl ?_
        refine w_if_eq (tgt := 65) dX12_air_50 (by decide) li_0 (fun h4_ => ?_) (fun h9 => (absurd h9 (by decide)))
        refine w_aload_n dX12_air_65 rfl 1 rfl ?_
        refine w_ldc (v := (-1000001)) m_1433 dX12_air_66 ?_
        refine w_callV (as := [vI (-1000001)]) (rest := []) (c_X12_finding l G cy ad d (-1000001) Mz hIz (by first | decide | (unfold vF; omega) | (unfold vRw; omega))) kV_X12_finding (by decide +kernel) (Nat.le_of_ble_eq_true rfl) m_1434 rfl rfl rfl ic_12 rfl rfl (by decide) (Nat.le_of_ble_eq_true rfl) dX12_air_68 (fun r5_ M6_ q7_ => ?_)
        obtain ⟨hI9_, hF10_, h8_, hs12_⟩ := q7_
        have hF11_ := hFz.tr hF10_ (fun c k => (fun h => h.elim (fun h => (Or.inl ⟨h.1, h.2⟩)) (fun h => h.elim)))
        simp only [li_m1000001] at h8_
        exact w_iret rfl dX12_air_71 ⟨hI9_, hF11_, trivial, (Or.inl ⟨h1_, (Or.inl ⟨h2_, (Or.inl ⟨h3_, M6_, hI9_, hF10_, r5_, hs12_, h8_, rfl, rfl⟩)⟩)⟩)⟩
      · refine w_iload_n dX12_air_34 rfl 2 rfl ?_
        refine w_iconst (v := 0) dX12_air_35 (by decide) ?_
        refine w_iconst (v := 1) dX12_air_36 (by decide) ?_
        refine w_callS (as := [vI u, vI 0, vI 1]) (rest := []) (c_X12_within l G cy ad d u 0 1 Mz hIz) kS_X12_within (by decide +kernel) (Nat.le_of_ble_eq_true rfl) m_1427 rfl rfl (by decide) (Nat.le_of_ble_eq_true rfl) dX12_air_37 (fun r13_ M14_ q15_ => ?_)
        obtain ⟨rfl, h16_, hs17_⟩ := q15_
        rcases h16_ with ⟨rfl, h16_⟩ | ⟨rfl, h16_⟩
        · simp only [li_0, li_1] at h16_
          refine w_if_eq (tgt := 47) dX12_air_40 (by decide) li_1 (fun h9 => (absurd h9 (by decide))) (fun h18_ => ?_)
          refine w_iconst (v := 1) dX12_air_43 (by decide) ?_
          refine w_goto (tgt := 48) dX12_air_44 (by decide) ?_
          refine w_istore_n (ls' := [(3, vI 1), (0, vR (12, 0, 0)), (1, vI v), (2, vI u)]) dX12_air_48 rfl (by decide) rfl ?_
          refine w_iload_n dX12_air_49 rfl 0 rfl ?_
          refine w_if_eq (tgt := 65) dX12_air_50 (by decide) li_1 (fun h9 => (absurd h9 (by decide))) (fun h19_ => ?_)
          refine w_aload_n dX12_air_53 rfl 1 rfl ?_
          refine w_bipush (v := 6) dX12_air_54 (by decide) ?_
          refine w_iload_n dX12_air_56 rfl 2 rfl ?_
          refine w_iaddB dX12_air_57 li_6 (rfl : v.toInt = v.toInt) (lf_c_X12_air_0 v h1_ h2_ h3_) (fun z20_ h21_ => ?_)
          refine w_iload_n dX12_air_58 rfl 3 rfl ?_
          refine w_callV (as := [vI z20_, vI u]) (rest := []) (c_X12_become l G cy ad d z20_ u Mz hIz (lf_c_X12_air_1 v u z20_ h1_ h2_ h3_ h16_ h21_) (lf_c_X12_air_2 v z20_ h1_ h2_ h3_ h21_)) kV_X12_become (by decide +kernel) (Nat.le_of_ble_eq_true rfl) m_1481 rfl rfl rfl ic_12 rfl rfl (by decide) (Nat.le_of_ble_eq_true rfl) dX12_air_59 (fun r22_ M23_ q24_ => ?_)
          obtain ⟨hI26_, hF27_, h25_, hs29_⟩ := q24_
          have hF28_ := hFz.tr hF27_ (fun c k => (fun h => h.elim (fun h => (Or.inr (Or.inl ⟨h.1, h.2⟩))) (fun h => h.elim)))
          refine w_goto (tgt := 71) dX12_air_62 (by decide) ?_
          exact w_iret rfl dX12_air_71 ⟨hI26_, hF28_, trivial, (Or.inl ⟨h1_, (Or.inl ⟨h2_, (Or.inr ⟨h3_, (Or.inl ⟨hs17_, h16_, z20_, h21_, M23_, hI26_, hF27_, r22_, hs29_, rfl, rfl⟩)⟩)⟩)⟩)⟩
        · simp only [li_0, li_1] at h16_
          refine w_if_eq (tgt := 47) dX12_air_40 (by decide) li_0 (fun h30_ => ?_) (fun h9 => (absurd h9 (by decide)))
          refine w_iconst (v := 0) dX12_air_47 (by decide) ?_
          refine w_istore_n (ls' := [(3, vI 0), (0, vR (12, 0, 0)), (1, vI v), (2, vI u)]) dX12_air_48 rfl (by decide) rfl ?_
          refine w_iload_n dX12_air_49 rfl 0 rfl ?_
          refine w_if_eq (tgt := 65) dX12_air_50 (by decide) li_0 (fun h31_ => ?_) (fun h9 => (absurd h9 (by decide)))
          refine w_aload_n dX12_air_65 rfl 1 rfl ?_
          refine w_ldc (v := (-1000001)) m_1433 dX12_air_66 ?_
          refine w_callV (as := [vI (-1000001)]) (rest := []) (c_X12_finding l G cy ad d (-1000001) Mz hIz (by first | decide | (unfold vF; omega) | (unfold vRw; omega))) kV_X12_finding (by decide +kernel) (Nat.le_of_ble_eq_true rfl) m_1434 rfl rfl rfl ic_12 rfl rfl (by decide) (Nat.le_of_ble_eq_true rfl) dX12_air_68 (fun r32_ M33_ q34_ => ?_)
          obtain ⟨hI36_, hF37_, h35_, hs39_⟩ := q34_
          have hF38_ := hFz.tr hF37_ (fun c k => (fun h => h.elim (fun h => (Or.inl ⟨h.1, h.2⟩)) (fun h => h.elim)))
          simp only [li_m1000001] at h35_
          exact w_iret rfl dX12_air_71 ⟨hI36_, hF38_, trivial, (Or.inl ⟨h1_, (Or.inl ⟨h2_, (Or.inr ⟨h3_, (Or.inr ⟨hs17_, h16_, M33_, hI36_, hF37_, r32_, hs39_, h35_, rfl, rfl⟩)⟩)⟩)⟩)⟩
    · refine w_iload_n dX12_air_19 rfl 2 rfl ?_
      refine w_iconst (v := 0) dX12_air_20 (by decide) ?_
      refine w_bipush (v := 90) dX12_air_21 (by decide) ?_
      refine w_callS (as := [vI u, vI 0, vI 90]) (rest := []) (c_X12_within l G cy ad d u 0 90 Mz hIz) kS_X12_within (by decide +kernel) (Nat.le_of_ble_eq_true rfl) m_1427 rfl rfl (by decide) (Nat.le_of_ble_eq_true rfl) dX12_air_23 (fun r40_ M41_ q42_ => ?_)
      obtain ⟨rfl, h43_, hs44_⟩ := q42_
      rcases h43_ with ⟨rfl, h43_⟩ | ⟨rfl, h43_⟩
      · simp only [li_0, li_90] at h43_
        refine w_goto (tgt := 48) dX12_air_26 (by decide) ?_
        refine w_istore_n (ls' := [(3, vI 1), (0, vR (12, 0, 0)), (1, vI v), (2, vI u)]) dX12_air_48 rfl (by decide) rfl ?_
        refine w_iload_n dX12_air_49 rfl 0 rfl ?_
        refine w_if_eq (tgt := 65) dX12_air_50 (by decide) li_1 (fun h9 => (absurd h9 (by decide))) (fun h45_ => ?_)
        refine w_aload_n dX12_air_53 rfl 1 rfl ?_
        refine w_bipush (v := 6) dX12_air_54 (by decide) ?_
        refine w_iload_n dX12_air_56 rfl 2 rfl ?_
        refine w_iaddB dX12_air_57 li_6 (rfl : v.toInt = v.toInt) (lf_c_X12_air_3 v h1_ h2_) (fun z46_ h47_ => ?_)
        refine w_iload_n dX12_air_58 rfl 3 rfl ?_
        refine w_callV (as := [vI z46_, vI u]) (rest := []) (c_X12_become l G cy ad d z46_ u Mz hIz (lf_c_X12_air_4 v u z46_ h1_ h2_ h43_ h47_) (lf_c_X12_air_5 v z46_ h1_ h2_ h47_)) kV_X12_become (by decide +kernel) (Nat.le_of_ble_eq_true rfl) m_1481 rfl rfl rfl ic_12 rfl rfl (by decide) (Nat.le_of_ble_eq_true rfl) dX12_air_59 (fun r48_ M49_ q50_ => ?_)
        obtain ⟨hI52_, hF53_, h51_, hs55_⟩ := q50_
        have hF54_ := hFz.tr hF53_ (fun c k => (fun h => h.elim (fun h => (Or.inr (Or.inl ⟨h.1, h.2⟩))) (fun h => h.elim)))
        refine w_goto (tgt := 71) dX12_air_62 (by decide) ?_
        exact w_iret rfl dX12_air_71 ⟨hI52_, hF54_, trivial, (Or.inl ⟨h1_, (Or.inr ⟨h2_, (Or.inl ⟨hs44_, h43_, z46_, h47_, M49_, hI52_, hF53_, r48_, hs55_, rfl, rfl⟩)⟩)⟩)⟩
      · simp only [li_0, li_90] at h43_
        refine w_goto (tgt := 48) dX12_air_26 (by decide) ?_
        refine w_istore_n (ls' := [(3, vI 0), (0, vR (12, 0, 0)), (1, vI v), (2, vI u)]) dX12_air_48 rfl (by decide) rfl ?_
        refine w_iload_n dX12_air_49 rfl 0 rfl ?_
        refine w_if_eq (tgt := 65) dX12_air_50 (by decide) li_0 (fun h56_ => ?_) (fun h9 => (absurd h9 (by decide)))
        refine w_aload_n dX12_air_65 rfl 1 rfl ?_
        refine w_ldc (v := (-1000001)) m_1433 dX12_air_66 ?_
        refine w_callV (as := [vI (-1000001)]) (rest := []) (c_X12_finding l G cy ad d (-1000001) Mz hIz (by first | decide | (unfold vF; omega) | (unfold vRw; omega))) kV_X12_finding (by decide +kernel) (Nat.le_of_ble_eq_true rfl) m_1434 rfl rfl rfl ic_12 rfl rfl (by decide) (Nat.le_of_ble_eq_true rfl) dX12_air_68 (fun r57_ M58_ q59_ => ?_)
        obtain ⟨hI61_, hF62_, h60_, hs64_⟩ := q59_
        have hF63_ := hFz.tr hF62_ (fun c k => (fun h => h.elim (fun h => (Or.inl ⟨h.1, h.2⟩)) (fun h => h.elim)))
        simp only [li_m1000001] at h60_
        exact w_iret rfl dX12_air_71 ⟨hI61_, hF63_, trivial, (Or.inl ⟨h1_, (Or.inr ⟨h2_, (Or.inr ⟨hs44_, h43_, M58_, hI61_, hF62_, r57_, hs64_, h60_, rfl, rfl⟩)⟩)⟩)⟩
  · refine w_iload_n dX12_air_4 rfl 2 rfl ?_
    refine w_iconst (v := 0) dX12_air_5 (by decide) ?_
    refine w_bipush (v := 99) dX12_air_6 (by decide) ?_
    refine w_callS (as := [vI u, vI 0, vI 99]) (rest := []) (c_X12_within l G cy ad d u 0 99 Mz hIz) kS_X12_within (by decide +kernel) (Nat.le_of_ble_eq_true rfl) m_1427 rfl rfl (by decide) (Nat.le_of_ble_eq_true rfl) dX12_air_8 (fun r65_ M66_ q67_ => ?_)
    obtain ⟨rfl, h68_, hs69_⟩ := q67_
    rcases h68_ with ⟨rfl, h68_⟩ | ⟨rfl, h68_⟩
    · simp only [li_0, li_99] at h68_
      refine w_goto (tgt := 48) dX12_air_11 (by decide) ?_
      refine w_istore_n (ls' := [(3, vI 1), (0, vR (12, 0, 0)), (1, vI v), (2, vI u)]) dX12_air_48 rfl (by decide) rfl ?_
      refine w_iload_n dX12_air_49 rfl 0 rfl ?_
      refine w_if_eq (tgt := 65) dX12_air_50 (by decide) li_1 (fun h9 => (absurd h9 (by decide))) (fun h70_ => ?_)
      refine w_aload_n dX12_air_53 rfl 1 rfl ?_
      refine w_bipush (v := 6) dX12_air_54 (by decide) ?_
      refine w_iload_n dX12_air_56 rfl 2 rfl ?_
      refine w_iaddB dX12_air_57 li_6 (rfl : v.toInt = v.toInt) (lf_c_X12_air_6 v h1_) (fun z71_ h72_ => ?_)
      refine w_iload_n dX12_air_58 rfl 3 rfl ?_
      refine w_callV (as := [vI z71_, vI u]) (rest := []) (c_X12_become l G cy ad d z71_ u Mz hIz (lf_c_X12_air_7 v u z71_ h1_ h68_ h72_) (lf_c_X12_air_8 v z71_ h1_ h72_)) kV_X12_become (by decide +kernel) (Nat.le_of_ble_eq_true rfl) m_1481 rfl rfl rfl ic_12 rfl rfl (by decide) (Nat.le_of_ble_eq_true rfl) dX12_air_59 (fun r73_ M74_ q75_ => ?_)
      obtain ⟨hI77_, hF78_, h76_, hs80_⟩ := q75_
      have hF79_ := hFz.tr hF78_ (fun c k => (fun h => h.elim (fun h => (Or.inr (Or.inl ⟨h.1, h.2⟩))) (fun h => h.elim)))
      refine w_goto (tgt := 71) dX12_air_62 (by decide) ?_
      exact w_iret rfl dX12_air_71 ⟨hI77_, hF79_, trivial, (Or.inr ⟨h1_, (Or.inl ⟨hs69_, h68_, z71_, h72_, M74_, hI77_, hF78_, r73_, hs80_, rfl, rfl⟩)⟩)⟩
    · simp only [li_0, li_99] at h68_
      refine w_goto (tgt := 48) dX12_air_11 (by decide) ?_
      refine w_istore_n (ls' := [(3, vI 0), (0, vR (12, 0, 0)), (1, vI v), (2, vI u)]) dX12_air_48 rfl (by decide) rfl ?_
      refine w_iload_n dX12_air_49 rfl 0 rfl ?_
      refine w_if_eq (tgt := 65) dX12_air_50 (by decide) li_0 (fun h81_ => ?_) (fun h9 => (absurd h9 (by decide)))
      refine w_aload_n dX12_air_65 rfl 1 rfl ?_
      refine w_ldc (v := (-1000001)) m_1433 dX12_air_66 ?_
      refine w_callV (as := [vI (-1000001)]) (rest := []) (c_X12_finding l G cy ad d (-1000001) Mz hIz (by first | decide | (unfold vF; omega) | (unfold vRw; omega))) kV_X12_finding (by decide +kernel) (Nat.le_of_ble_eq_true rfl) m_1434 rfl rfl rfl ic_12 rfl rfl (by decide) (Nat.le_of_ble_eq_true rfl) dX12_air_68 (fun r82_ M83_ q84_ => ?_)
      obtain ⟨hI86_, hF87_, h85_, hs89_⟩ := q84_
      have hF88_ := hFz.tr hF87_ (fun c k => (fun h => h.elim (fun h => (Or.inl ⟨h.1, h.2⟩)) (fun h => h.elim)))
      simp only [li_m1000001] at h85_
      exact w_iret rfl dX12_air_71 ⟨hI86_, hF88_, trivial, (Or.inr ⟨h1_, (Or.inr ⟨hs69_, h68_, M83_, hI86_, hF87_, r82_, hs89_, h85_, rfl, rfl⟩)⟩)⟩
def S_c_X12_walker : rf → Nat → Prop := fun c k => (c.1 = 50 ∧ c.2.1 = 0) ∨ (c.1 = 53 ∧ c.2.1 = 0) ∨ False
def SP_X12_walker (v : Int32) (u : Int32) (t : Int32) (Mz : mM) (r_ : Int32) (M_ : mM) : Prop := (((SP_X12_within v 0 7 Mz (1 : Int32)) ∧ (0 ≤ v.toInt ∧ v.toInt ≤ 7) ∧ (((SP_X12_isCell u Mz (1 : Int32)) ∧ (0 ≤ u.toInt ∧ u.toInt ≤ 191) ∧ (((SP_X12_isSide t Mz (1 : Int32)) ∧ (0 ≤ t.toInt ∧ t.toInt ≤ 7) ∧ ∃ r19_ : Int32, (SP_X12_isFree u Mz r19_) ∧ ((0 ≤ r19_.toInt ∧ r19_.toInt ≤ 1)) ∧ (((¬ r19_.toInt = 0) ∧ ∃ z25_ : Int32, (z25_ = Mz.1 (50, 0, 0) 2) ∧ (0 ≤ z25_.toInt ∧ z25_.toInt ≤ 8) ∧ (((¬ z25_.toInt = 8) ∧ ∃ r30_ : Int32, (SP_X12_goer z25_ Mz r30_) ∧ (r30_.toInt = 180 + 9 * z25_.toInt) ∧ ∃ z35_ : Int32, (z35_.toInt = r30_.toInt + 0) ∧ ∃ j39_ : Nat, ((j39_ : Int) = z35_.toInt) ∧ ∃ M37_ : mM, (M37_ = up Mz (50, 0, 0) j39_ v) ∧ ∃ z44_ : Int32, (z44_.toInt = r30_.toInt + 1) ∧ ∃ j48_ : Nat, ((j48_ : Int) = z44_.toInt) ∧ ∃ M46_ : mM, (M46_ = up M37_ (50, 0, 0) j48_ u) ∧ ∃ z53_ : Int32, (z53_.toInt = r30_.toInt + 2) ∧ ∃ j57_ : Nat, ((j57_ : Int) = z53_.toInt) ∧ ∃ M55_ : mM, (M55_ = up M46_ (50, 0, 0) j57_ t) ∧ ∃ z62_ : Int32, (z62_.toInt = r30_.toInt + 3) ∧ ∃ j66_ : Nat, ((j66_ : Int) = z62_.toInt) ∧ ∃ M64_ : mM, (M64_ = up M55_ (50, 0, 0) j66_ 5) ∧ ∃ z71_ : Int32, (z71_.toInt = r30_.toInt + 4) ∧ ∃ j75_ : Nat, ((j75_ : Int) = z71_.toInt) ∧ ∃ M73_ : mM, (M73_ = up M64_ (50, 0, 0) j75_ 60) ∧ ∃ z80_ : Int32, (z80_ = M73_.1 (50, 0, 0) 2) ∧ (z80_.toInt = z25_.toInt) ∧ (0 ≤ z80_.toInt ∧ z80_.toInt ≤ 8) ∧ ∃ z84_ : Int32, (z84_.toInt = z80_.toInt + 1) ∧ ∃ M86_ : mM, (M86_ = up M73_ (50, 0, 0) 2 z84_) ∧ r_ = z25_ ∧ M_ = M86_) ∨ ((z25_.toInt = 8) ∧ ∃ M91_ : mM, (InvD M91_) ∧ (FR (S_c_X12_finding) Mz M91_) ∧ ∃ r90_ : Int32, (SP_X12_finding (-1000004) Mz r90_ M91_) ∧ (r90_.toInt = (-1000004)) ∧ r_ = r90_ ∧ M_ = M91_))) ∨ ((r19_.toInt = 0) ∧ ∃ M100_ : mM, (InvD M100_) ∧ (FR (S_c_X12_finding) Mz M100_) ∧ ∃ r99_ : Int32, (SP_X12_finding (-1000003) Mz r99_ M100_) ∧ (r99_.toInt = (-1000003)) ∧ r_ = r99_ ∧ M_ = M100_))) ∨ ((SP_X12_isSide t Mz (0 : Int32)) ∧ (¬ (0 ≤ t.toInt ∧ t.toInt ≤ 7)) ∧ ∃ M109_ : mM, (InvD M109_) ∧ (FR (S_c_X12_finding) Mz M109_) ∧ ∃ r108_ : Int32, (SP_X12_finding (-1000001) Mz r108_ M109_) ∧ (r108_.toInt = (-1000001)) ∧ r_ = r108_ ∧ M_ = M109_))) ∨ ((SP_X12_isCell u Mz (0 : Int32)) ∧ (¬ (0 ≤ u.toInt ∧ u.toInt ≤ 191)) ∧ ∃ M118_ : mM, (InvD M118_) ∧ (FR (S_c_X12_finding) Mz M118_) ∧ ∃ r117_ : Int32, (SP_X12_finding (-1000001) Mz r117_ M118_) ∧ (r117_.toInt = (-1000001)) ∧ r_ = r117_ ∧ M_ = M118_))) ∨ ((SP_X12_within v 0 7 Mz (0 : Int32)) ∧ (¬ (0 ≤ v.toInt ∧ v.toInt ≤ 7)) ∧ ∃ M127_ : mM, (InvD M127_) ∧ (FR (S_c_X12_finding) Mz M127_) ∧ ∃ r126_ : Int32, (SP_X12_finding (-1000001) Mz r126_ M127_) ∧ (r126_.toInt = (-1000001)) ∧ r_ = r126_ ∧ M_ = M127_))
theorem lf_c_X12_walker_0 (Mz : mM) (z25_ : Int32) (e26_ : z25_ = Mz.1 (50, 0, 0) 2) (kf27_ : (Mz.1 (50, 0, 0) 2).toInt = z25_.toInt) (h28_ : 0 ≤ z25_.toInt ∧ z25_.toInt ≤ 8) (h29_ : ¬ z25_.toInt = 8) : 0 ≤ z25_.toInt ∧ z25_.toInt ≤ 7 := by have r_z25_ := rngI z25_; subst e26_; omega
theorem lf_c_X12_walker_1 (Mz : mM) (z25_ : Int32) (r30_ : Int32) (e26_ : z25_ = Mz.1 (50, 0, 0) 2) (kf27_ : (Mz.1 (50, 0, 0) 2).toInt = z25_.toInt) (h28_ : 0 ≤ z25_.toInt ∧ z25_.toInt ≤ 8) (h29_ : ¬ z25_.toInt = 8) (h33_ : r30_.toInt = 180 + 9 * z25_.toInt) : -2147483648 ≤ r30_.toInt + 0 ∧ r30_.toInt + 0 < 2147483648 := by have r_z25_ := rngI z25_; have r_r30_ := rngI r30_; subst e26_; omega
theorem lf_c_X12_walker_2 (Mz : mM) (z25_ : Int32) (r30_ : Int32) (z35_ : Int32) (e26_ : z25_ = Mz.1 (50, 0, 0) 2) (kf27_ : (Mz.1 (50, 0, 0) 2).toInt = z25_.toInt) (h28_ : 0 ≤ z25_.toInt ∧ z25_.toInt ≤ 8) (h29_ : ¬ z25_.toInt = 8) (h33_ : r30_.toInt = 180 + 9 * z25_.toInt) (h36_ : z35_.toInt = r30_.toInt + 0) : 0 ≤ z35_.toInt ∧ z35_.toInt < ((3567 : Nat) : Int) := by have r_z25_ := rngI z25_; have r_r30_ := rngI r30_; have r_z35_ := rngI z35_; subst e26_; omega
theorem lf_c_X12_walker_3 (M37_ : mM) (Mz : mM) (v : Int32) (z25_ : Int32) (r30_ : Int32) (z35_ : Int32) (j39_ : Nat) (h4_ : 0 ≤ v.toInt ∧ v.toInt ≤ 7) (e26_ : z25_ = Mz.1 (50, 0, 0) 2) (kf27_ : (Mz.1 (50, 0, 0) 2).toInt = z25_.toInt) (h28_ : 0 ≤ z25_.toInt ∧ z25_.toInt ≤ 8) (h29_ : ¬ z25_.toInt = 8) (h33_ : r30_.toInt = 180 + 9 * z25_.toInt) (h36_ : z35_.toInt = r30_.toInt + 0) (h40_ : (j39_ : Int) = z35_.toInt) (hM38_ : M37_ = up Mz (50, 0, 0) j39_ v) : PN j39_ v ∧ (j39_ < 345 ∨ 493 < j39_) := by have r_v := rngI v; have r_z25_ := rngI z25_; have r_r30_ := rngI r30_; have r_z35_ := rngI z35_; subst e26_; unfold PN; omega
theorem lf_c_X12_walker_4 (M37_ : mM) (Mz : mM) (v : Int32) (z25_ : Int32) (r30_ : Int32) (z35_ : Int32) (j39_ : Nat) (h4_ : 0 ≤ v.toInt ∧ v.toInt ≤ 7) (e26_ : z25_ = Mz.1 (50, 0, 0) 2) (kf27_ : (Mz.1 (50, 0, 0) 2).toInt = z25_.toInt) (h28_ : 0 ≤ z25_.toInt ∧ z25_.toInt ≤ 8) (h29_ : ¬ z25_.toInt = 8) (h33_ : r30_.toInt = 180 + 9 * z25_.toInt) (h36_ : z35_.toInt = r30_.toInt + 0) (h40_ : (j39_ : Int) = z35_.toInt) (hM38_ : M37_ = up Mz (50, 0, 0) j39_ v) : ¬ 2 = j39_ := by have r_v := rngI v; have r_z25_ := rngI z25_; have r_r30_ := rngI r30_; have r_z35_ := rngI z35_; subst e26_; omega
theorem lf_c_X12_walker_5 (M37_ : mM) (Mz : mM) (v : Int32) (z25_ : Int32) (r30_ : Int32) (z35_ : Int32) (j39_ : Nat) (h4_ : 0 ≤ v.toInt ∧ v.toInt ≤ 7) (e26_ : z25_ = Mz.1 (50, 0, 0) 2) (kf27_ : (Mz.1 (50, 0, 0) 2).toInt = z25_.toInt) (h28_ : 0 ≤ z25_.toInt ∧ z25_.toInt ≤ 8) (h29_ : ¬ z25_.toInt = 8) (h33_ : r30_.toInt = 180 + 9 * z25_.toInt) (h36_ : z35_.toInt = r30_.toInt + 0) (h40_ : (j39_ : Int) = z35_.toInt) (hM38_ : M37_ = up Mz (50, 0, 0) j39_ v) (kf43_ : (M37_.1 (50, 0, 0) 2).toInt = z25_.toInt) : -2147483648 ≤ r30_.toInt + 1 ∧ r30_.toInt + 1 < 2147483648 := by have r_v := rngI v; have r_z25_ := rngI z25_; have r_r30_ := rngI r30_; have r_z35_ := rngI z35_; subst e26_; omega
theorem lf_c_X12_walker_6 (M37_ : mM) (Mz : mM) (v : Int32) (z25_ : Int32) (r30_ : Int32) (z35_ : Int32) (j39_ : Nat) (z44_ : Int32) (h4_ : 0 ≤ v.toInt ∧ v.toInt ≤ 7) (e26_ : z25_ = Mz.1 (50, 0, 0) 2) (kf27_ : (Mz.1 (50, 0, 0) 2).toInt = z25_.toInt) (h28_ : 0 ≤ z25_.toInt ∧ z25_.toInt ≤ 8) (h29_ : ¬ z25_.toInt = 8) (h33_ : r30_.toInt = 180 + 9 * z25_.toInt) (h36_ : z35_.toInt = r30_.toInt + 0) (h40_ : (j39_ : Int) = z35_.toInt) (hM38_ : M37_ = up Mz (50, 0, 0) j39_ v) (kf43_ : (M37_.1 (50, 0, 0) 2).toInt = z25_.toInt) (h45_ : z44_.toInt = r30_.toInt + 1) : 0 ≤ z44_.toInt ∧ z44_.toInt < ((3567 : Nat) : Int) := by have r_v := rngI v; have r_z25_ := rngI z25_; have r_r30_ := rngI r30_; have r_z35_ := rngI z35_; have r_z44_ := rngI z44_; subst e26_; omega
theorem lf_c_X12_walker_7 (M37_ : mM) (M46_ : mM) (Mz : mM) (v : Int32) (u : Int32) (z25_ : Int32) (r30_ : Int32) (z35_ : Int32) (j39_ : Nat) (z44_ : Int32) (j48_ : Nat) (h4_ : 0 ≤ v.toInt ∧ v.toInt ≤ 7) (h10_ : 0 ≤ u.toInt ∧ u.toInt ≤ 191) (e26_ : z25_ = Mz.1 (50, 0, 0) 2) (kf27_ : (Mz.1 (50, 0, 0) 2).toInt = z25_.toInt) (h28_ : 0 ≤ z25_.toInt ∧ z25_.toInt ≤ 8) (h29_ : ¬ z25_.toInt = 8) (h33_ : r30_.toInt = 180 + 9 * z25_.toInt) (h36_ : z35_.toInt = r30_.toInt + 0) (h40_ : (j39_ : Int) = z35_.toInt) (hM38_ : M37_ = up Mz (50, 0, 0) j39_ v) (kf43_ : (M37_.1 (50, 0, 0) 2).toInt = z25_.toInt) (h45_ : z44_.toInt = r30_.toInt + 1) (h49_ : (j48_ : Int) = z44_.toInt) (hM47_ : M46_ = up M37_ (50, 0, 0) j48_ u) : PN j48_ u ∧ (j48_ < 345 ∨ 493 < j48_) := by have r_v := rngI v; have r_u := rngI u; have r_z25_ := rngI z25_; have r_r30_ := rngI r30_; have r_z35_ := rngI z35_; have r_z44_ := rngI z44_; subst e26_; unfold PN; omega
theorem lf_c_X12_walker_8 (M37_ : mM) (M46_ : mM) (Mz : mM) (v : Int32) (u : Int32) (z25_ : Int32) (r30_ : Int32) (z35_ : Int32) (j39_ : Nat) (z44_ : Int32) (j48_ : Nat) (h4_ : 0 ≤ v.toInt ∧ v.toInt ≤ 7) (h10_ : 0 ≤ u.toInt ∧ u.toInt ≤ 191) (e26_ : z25_ = Mz.1 (50, 0, 0) 2) (kf27_ : (Mz.1 (50, 0, 0) 2).toInt = z25_.toInt) (h28_ : 0 ≤ z25_.toInt ∧ z25_.toInt ≤ 8) (h29_ : ¬ z25_.toInt = 8) (h33_ : r30_.toInt = 180 + 9 * z25_.toInt) (h36_ : z35_.toInt = r30_.toInt + 0) (h40_ : (j39_ : Int) = z35_.toInt) (hM38_ : M37_ = up Mz (50, 0, 0) j39_ v) (kf43_ : (M37_.1 (50, 0, 0) 2).toInt = z25_.toInt) (h45_ : z44_.toInt = r30_.toInt + 1) (h49_ : (j48_ : Int) = z44_.toInt) (hM47_ : M46_ = up M37_ (50, 0, 0) j48_ u) : ¬ 2 = j48_ := by have r_v := rngI v; have r_u := rngI u; have r_z25_ := rngI z25_; have r_r30_ := rngI r30_; have r_z35_ := rngI z35_; have r_z44_ := rngI z44_; subst e26_; omega
theorem lf_c_X12_walker_9 (M37_ : mM) (M46_ : mM) (Mz : mM) (v : Int32) (u : Int32) (z25_ : Int32) (r30_ : Int32) (z35_ : Int32) (j39_ : Nat) (z44_ : Int32) (j48_ : Nat) (h4_ : 0 ≤ v.toInt ∧ v.toInt ≤ 7) (h10_ : 0 ≤ u.toInt ∧ u.toInt ≤ 191) (e26_ : z25_ = Mz.1 (50, 0, 0) 2) (kf27_ : (Mz.1 (50, 0, 0) 2).toInt = z25_.toInt) (h28_ : 0 ≤ z25_.toInt ∧ z25_.toInt ≤ 8) (h29_ : ¬ z25_.toInt = 8) (h33_ : r30_.toInt = 180 + 9 * z25_.toInt) (h36_ : z35_.toInt = r30_.toInt + 0) (h40_ : (j39_ : Int) = z35_.toInt) (hM38_ : M37_ = up Mz (50, 0, 0) j39_ v) (kf43_ : (M37_.1 (50, 0, 0) 2).toInt = z25_.toInt) (h45_ : z44_.toInt = r30_.toInt + 1) (h49_ : (j48_ : Int) = z44_.toInt) (hM47_ : M46_ = up M37_ (50, 0, 0) j48_ u) (kf52_ : (M46_.1 (50, 0, 0) 2).toInt = z25_.toInt) : -2147483648 ≤ r30_.toInt + 2 ∧ r30_.toInt + 2 < 2147483648 := by have r_v := rngI v; have r_u := rngI u; have r_z25_ := rngI z25_; have r_r30_ := rngI r30_; have r_z35_ := rngI z35_; have r_z44_ := rngI z44_; subst e26_; omega
theorem lf_c_X12_walker_10 (M37_ : mM) (M46_ : mM) (Mz : mM) (v : Int32) (u : Int32) (z25_ : Int32) (r30_ : Int32) (z35_ : Int32) (j39_ : Nat) (z44_ : Int32) (j48_ : Nat) (z53_ : Int32) (h4_ : 0 ≤ v.toInt ∧ v.toInt ≤ 7) (h10_ : 0 ≤ u.toInt ∧ u.toInt ≤ 191) (e26_ : z25_ = Mz.1 (50, 0, 0) 2) (kf27_ : (Mz.1 (50, 0, 0) 2).toInt = z25_.toInt) (h28_ : 0 ≤ z25_.toInt ∧ z25_.toInt ≤ 8) (h29_ : ¬ z25_.toInt = 8) (h33_ : r30_.toInt = 180 + 9 * z25_.toInt) (h36_ : z35_.toInt = r30_.toInt + 0) (h40_ : (j39_ : Int) = z35_.toInt) (hM38_ : M37_ = up Mz (50, 0, 0) j39_ v) (kf43_ : (M37_.1 (50, 0, 0) 2).toInt = z25_.toInt) (h45_ : z44_.toInt = r30_.toInt + 1) (h49_ : (j48_ : Int) = z44_.toInt) (hM47_ : M46_ = up M37_ (50, 0, 0) j48_ u) (kf52_ : (M46_.1 (50, 0, 0) 2).toInt = z25_.toInt) (h54_ : z53_.toInt = r30_.toInt + 2) : 0 ≤ z53_.toInt ∧ z53_.toInt < ((3567 : Nat) : Int) := by have r_v := rngI v; have r_u := rngI u; have r_z25_ := rngI z25_; have r_r30_ := rngI r30_; have r_z35_ := rngI z35_; have r_z44_ := rngI z44_; have r_z53_ := rngI z53_; subst e26_; omega
theorem lf_c_X12_walker_11 (M37_ : mM) (M46_ : mM) (M55_ : mM) (Mz : mM) (v : Int32) (u : Int32) (t : Int32) (z25_ : Int32) (r30_ : Int32) (z35_ : Int32) (j39_ : Nat) (z44_ : Int32) (j48_ : Nat) (z53_ : Int32) (j57_ : Nat) (h4_ : 0 ≤ v.toInt ∧ v.toInt ≤ 7) (h10_ : 0 ≤ u.toInt ∧ u.toInt ≤ 191) (h16_ : 0 ≤ t.toInt ∧ t.toInt ≤ 7) (e26_ : z25_ = Mz.1 (50, 0, 0) 2) (kf27_ : (Mz.1 (50, 0, 0) 2).toInt = z25_.toInt) (h28_ : 0 ≤ z25_.toInt ∧ z25_.toInt ≤ 8) (h29_ : ¬ z25_.toInt = 8) (h33_ : r30_.toInt = 180 + 9 * z25_.toInt) (h36_ : z35_.toInt = r30_.toInt + 0) (h40_ : (j39_ : Int) = z35_.toInt) (hM38_ : M37_ = up Mz (50, 0, 0) j39_ v) (kf43_ : (M37_.1 (50, 0, 0) 2).toInt = z25_.toInt) (h45_ : z44_.toInt = r30_.toInt + 1) (h49_ : (j48_ : Int) = z44_.toInt) (hM47_ : M46_ = up M37_ (50, 0, 0) j48_ u) (kf52_ : (M46_.1 (50, 0, 0) 2).toInt = z25_.toInt) (h54_ : z53_.toInt = r30_.toInt + 2) (h58_ : (j57_ : Int) = z53_.toInt) (hM56_ : M55_ = up M46_ (50, 0, 0) j57_ t) : PN j57_ t ∧ (j57_ < 345 ∨ 493 < j57_) := by have r_v := rngI v; have r_u := rngI u; have r_t := rngI t; have r_z25_ := rngI z25_; have r_r30_ := rngI r30_; have r_z35_ := rngI z35_; have r_z44_ := rngI z44_; have r_z53_ := rngI z53_; subst e26_; unfold PN; omega
theorem lf_c_X12_walker_12 (M37_ : mM) (M46_ : mM) (M55_ : mM) (Mz : mM) (v : Int32) (u : Int32) (t : Int32) (z25_ : Int32) (r30_ : Int32) (z35_ : Int32) (j39_ : Nat) (z44_ : Int32) (j48_ : Nat) (z53_ : Int32) (j57_ : Nat) (h4_ : 0 ≤ v.toInt ∧ v.toInt ≤ 7) (h10_ : 0 ≤ u.toInt ∧ u.toInt ≤ 191) (h16_ : 0 ≤ t.toInt ∧ t.toInt ≤ 7) (e26_ : z25_ = Mz.1 (50, 0, 0) 2) (kf27_ : (Mz.1 (50, 0, 0) 2).toInt = z25_.toInt) (h28_ : 0 ≤ z25_.toInt ∧ z25_.toInt ≤ 8) (h29_ : ¬ z25_.toInt = 8) (h33_ : r30_.toInt = 180 + 9 * z25_.toInt) (h36_ : z35_.toInt = r30_.toInt + 0) (h40_ : (j39_ : Int) = z35_.toInt) (hM38_ : M37_ = up Mz (50, 0, 0) j39_ v) (kf43_ : (M37_.1 (50, 0, 0) 2).toInt = z25_.toInt) (h45_ : z44_.toInt = r30_.toInt + 1) (h49_ : (j48_ : Int) = z44_.toInt) (hM47_ : M46_ = up M37_ (50, 0, 0) j48_ u) (kf52_ : (M46_.1 (50, 0, 0) 2).toInt = z25_.toInt) (h54_ : z53_.toInt = r30_.toInt + 2) (h58_ : (j57_ : Int) = z53_.toInt) (hM56_ : M55_ = up M46_ (50, 0, 0) j57_ t) : ¬ 2 = j57_ := by have r_v := rngI v; have r_u := rngI u; have r_t := rngI t; have r_z25_ := rngI z25_; have r_r30_ := rngI r30_; have r_z35_ := rngI z35_; have r_z44_ := rngI z44_; have r_z53_ := rngI z53_; subst e26_; omega
theorem lf_c_X12_walker_13 (M37_ : mM) (M46_ : mM) (M55_ : mM) (Mz : mM) (v : Int32) (u : Int32) (t : Int32) (z25_ : Int32) (r30_ : Int32) (z35_ : Int32) (j39_ : Nat) (z44_ : Int32) (j48_ : Nat) (z53_ : Int32) (j57_ : Nat) (h4_ : 0 ≤ v.toInt ∧ v.toInt ≤ 7) (h10_ : 0 ≤ u.toInt ∧ u.toInt ≤ 191) (h16_ : 0 ≤ t.toInt ∧ t.toInt ≤ 7) (e26_ : z25_ = Mz.1 (50, 0, 0) 2) (kf27_ : (Mz.1 (50, 0, 0) 2).toInt = z25_.toInt) (h28_ : 0 ≤ z25_.toInt ∧ z25_.toInt ≤ 8) (h29_ : ¬ z25_.toInt = 8) (h33_ : r30_.toInt = 180 + 9 * z25_.toInt) (h36_ : z35_.toInt = r30_.toInt + 0) (h40_ : (j39_ : Int) = z35_.toInt) (hM38_ : M37_ = up Mz (50, 0, 0) j39_ v) (kf43_ : (M37_.1 (50, 0, 0) 2).toInt = z25_.toInt) (h45_ : z44_.toInt = r30_.toInt + 1) (h49_ : (j48_ : Int) = z44_.toInt) (hM47_ : M46_ = up M37_ (50, 0, 0) j48_ u) (kf52_ : (M46_.1 (50, 0, 0) 2).toInt = z25_.toInt) (h54_ : z53_.toInt = r30_.toInt + 2) (h58_ : (j57_ : Int) = z53_.toInt) (hM56_ : M55_ = up M46_ (50, 0, 0) j57_ t) (kf61_ : (M55_.1 (50, 0, 0) 2).toInt = z25_.toInt) : -2147483648 ≤ r30_.toInt + 3 ∧ r30_.toInt + 3 < 2147483648 := by have r_v := rngI v; have r_u := rngI u; have r_t := rngI t; have r_z25_ := rngI z25_; have r_r30_ := rngI r30_; have r_z35_ := rngI z35_; have r_z44_ := rngI z44_; have r_z53_ := rngI z53_; subst e26_; omega
theorem lf_c_X12_walker_14 (M37_ : mM) (M46_ : mM) (M55_ : mM) (Mz : mM) (v : Int32) (u : Int32) (t : Int32) (z25_ : Int32) (r30_ : Int32) (z35_ : Int32) (j39_ : Nat) (z44_ : Int32) (j48_ : Nat) (z53_ : Int32) (j57_ : Nat) (z62_ : Int32) (h4_ : 0 ≤ v.toInt ∧ v.toInt ≤ 7) (h10_ : 0 ≤ u.toInt ∧ u.toInt ≤ 191) (h16_ : 0 ≤ t.toInt ∧ t.toInt ≤ 7) (e26_ : z25_ = Mz.1 (50, 0, 0) 2) (kf27_ : (Mz.1 (50, 0, 0) 2).toInt = z25_.toInt) (h28_ : 0 ≤ z25_.toInt ∧ z25_.toInt ≤ 8) (h29_ : ¬ z25_.toInt = 8) (h33_ : r30_.toInt = 180 + 9 * z25_.toInt) (h36_ : z35_.toInt = r30_.toInt + 0) (h40_ : (j39_ : Int) = z35_.toInt) (hM38_ : M37_ = up Mz (50, 0, 0) j39_ v) (kf43_ : (M37_.1 (50, 0, 0) 2).toInt = z25_.toInt) (h45_ : z44_.toInt = r30_.toInt + 1) (h49_ : (j48_ : Int) = z44_.toInt) (hM47_ : M46_ = up M37_ (50, 0, 0) j48_ u) (kf52_ : (M46_.1 (50, 0, 0) 2).toInt = z25_.toInt) (h54_ : z53_.toInt = r30_.toInt + 2) (h58_ : (j57_ : Int) = z53_.toInt) (hM56_ : M55_ = up M46_ (50, 0, 0) j57_ t) (kf61_ : (M55_.1 (50, 0, 0) 2).toInt = z25_.toInt) (h63_ : z62_.toInt = r30_.toInt + 3) : 0 ≤ z62_.toInt ∧ z62_.toInt < ((3567 : Nat) : Int) := by have r_v := rngI v; have r_u := rngI u; have r_t := rngI t; have r_z25_ := rngI z25_; have r_r30_ := rngI r30_; have r_z35_ := rngI z35_; have r_z44_ := rngI z44_; have r_z53_ := rngI z53_; have r_z62_ := rngI z62_; subst e26_; omega
theorem lf_c_X12_walker_15 (M37_ : mM) (M46_ : mM) (M55_ : mM) (M64_ : mM) (Mz : mM) (v : Int32) (u : Int32) (t : Int32) (z25_ : Int32) (r30_ : Int32) (z35_ : Int32) (j39_ : Nat) (z44_ : Int32) (j48_ : Nat) (z53_ : Int32) (j57_ : Nat) (z62_ : Int32) (j66_ : Nat) (h4_ : 0 ≤ v.toInt ∧ v.toInt ≤ 7) (h10_ : 0 ≤ u.toInt ∧ u.toInt ≤ 191) (h16_ : 0 ≤ t.toInt ∧ t.toInt ≤ 7) (e26_ : z25_ = Mz.1 (50, 0, 0) 2) (kf27_ : (Mz.1 (50, 0, 0) 2).toInt = z25_.toInt) (h28_ : 0 ≤ z25_.toInt ∧ z25_.toInt ≤ 8) (h29_ : ¬ z25_.toInt = 8) (h33_ : r30_.toInt = 180 + 9 * z25_.toInt) (h36_ : z35_.toInt = r30_.toInt + 0) (h40_ : (j39_ : Int) = z35_.toInt) (hM38_ : M37_ = up Mz (50, 0, 0) j39_ v) (kf43_ : (M37_.1 (50, 0, 0) 2).toInt = z25_.toInt) (h45_ : z44_.toInt = r30_.toInt + 1) (h49_ : (j48_ : Int) = z44_.toInt) (hM47_ : M46_ = up M37_ (50, 0, 0) j48_ u) (kf52_ : (M46_.1 (50, 0, 0) 2).toInt = z25_.toInt) (h54_ : z53_.toInt = r30_.toInt + 2) (h58_ : (j57_ : Int) = z53_.toInt) (hM56_ : M55_ = up M46_ (50, 0, 0) j57_ t) (kf61_ : (M55_.1 (50, 0, 0) 2).toInt = z25_.toInt) (h63_ : z62_.toInt = r30_.toInt + 3) (h67_ : (j66_ : Int) = z62_.toInt) (hM65_ : M64_ = up M55_ (50, 0, 0) j66_ 5) : PN j66_ (5 : Int32) ∧ (j66_ < 345 ∨ 493 < j66_) := by have r_v := rngI v; have r_u := rngI u; have r_t := rngI t; have r_z25_ := rngI z25_; have r_r30_ := rngI r30_; have r_z35_ := rngI z35_; have r_z44_ := rngI z44_; have r_z53_ := rngI z53_; have r_z62_ := rngI z62_; have q9 := li_5; subst e26_; unfold PN; omega
theorem lf_c_X12_walker_16 (M37_ : mM) (M46_ : mM) (M55_ : mM) (M64_ : mM) (Mz : mM) (v : Int32) (u : Int32) (t : Int32) (z25_ : Int32) (r30_ : Int32) (z35_ : Int32) (j39_ : Nat) (z44_ : Int32) (j48_ : Nat) (z53_ : Int32) (j57_ : Nat) (z62_ : Int32) (j66_ : Nat) (h4_ : 0 ≤ v.toInt ∧ v.toInt ≤ 7) (h10_ : 0 ≤ u.toInt ∧ u.toInt ≤ 191) (h16_ : 0 ≤ t.toInt ∧ t.toInt ≤ 7) (e26_ : z25_ = Mz.1 (50, 0, 0) 2) (kf27_ : (Mz.1 (50, 0, 0) 2).toInt = z25_.toInt) (h28_ : 0 ≤ z25_.toInt ∧ z25_.toInt ≤ 8) (h29_ : ¬ z25_.toInt = 8) (h33_ : r30_.toInt = 180 + 9 * z25_.toInt) (h36_ : z35_.toInt = r30_.toInt + 0) (h40_ : (j39_ : Int) = z35_.toInt) (hM38_ : M37_ = up Mz (50, 0, 0) j39_ v) (kf43_ : (M37_.1 (50, 0, 0) 2).toInt = z25_.toInt) (h45_ : z44_.toInt = r30_.toInt + 1) (h49_ : (j48_ : Int) = z44_.toInt) (hM47_ : M46_ = up M37_ (50, 0, 0) j48_ u) (kf52_ : (M46_.1 (50, 0, 0) 2).toInt = z25_.toInt) (h54_ : z53_.toInt = r30_.toInt + 2) (h58_ : (j57_ : Int) = z53_.toInt) (hM56_ : M55_ = up M46_ (50, 0, 0) j57_ t) (kf61_ : (M55_.1 (50, 0, 0) 2).toInt = z25_.toInt) (h63_ : z62_.toInt = r30_.toInt + 3) (h67_ : (j66_ : Int) = z62_.toInt) (hM65_ : M64_ = up M55_ (50, 0, 0) j66_ 5) : ¬ 2 = j66_ := by have r_v := rngI v; have r_u := rngI u; have r_t := rngI t; have r_z25_ := rngI z25_; have r_r30_ := rngI r30_; have r_z35_ := rngI z35_; have r_z44_ := rngI z44_; have r_z53_ := rngI z53_; have r_z62_ := rngI z62_; subst e26_; omega
theorem lf_c_X12_walker_17 (M37_ : mM) (M46_ : mM) (M55_ : mM) (M64_ : mM) (Mz : mM) (v : Int32) (u : Int32) (t : Int32) (z25_ : Int32) (r30_ : Int32) (z35_ : Int32) (j39_ : Nat) (z44_ : Int32) (j48_ : Nat) (z53_ : Int32) (j57_ : Nat) (z62_ : Int32) (j66_ : Nat) (h4_ : 0 ≤ v.toInt ∧ v.toInt ≤ 7) (h10_ : 0 ≤ u.toInt ∧ u.toInt ≤ 191) (h16_ : 0 ≤ t.toInt ∧ t.toInt ≤ 7) (e26_ : z25_ = Mz.1 (50, 0, 0) 2) (kf27_ : (Mz.1 (50, 0, 0) 2).toInt = z25_.toInt) (h28_ : 0 ≤ z25_.toInt ∧ z25_.toInt ≤ 8) (h29_ : ¬ z25_.toInt = 8) (h33_ : r30_.toInt = 180 + 9 * z25_.toInt) (h36_ : z35_.toInt = r30_.toInt + 0) (h40_ : (j39_ : Int) = z35_.toInt) (hM38_ : M37_ = up Mz (50, 0, 0) j39_ v) (kf43_ : (M37_.1 (50, 0, 0) 2).toInt = z25_.toInt) (h45_ : z44_.toInt = r30_.toInt + 1) (h49_ : (j48_ : Int) = z44_.toInt) (hM47_ : M46_ = up M37_ (50, 0, 0) j48_ u) (kf52_ : (M46_.1 (50, 0, 0) 2).toInt = z25_.toInt) (h54_ : z53_.toInt = r30_.toInt + 2) (h58_ : (j57_ : Int) = z53_.toInt) (hM56_ : M55_ = up M46_ (50, 0, 0) j57_ t) (kf61_ : (M55_.1 (50, 0, 0) 2).toInt = z25_.toInt) (h63_ : z62_.toInt = r30_.toInt + 3) (h67_ : (j66_ : Int) = z62_.toInt) (hM65_ : M64_ = up M55_ (50, 0, 0) j66_ 5) (kf70_ : (M64_.1 (50, 0, 0) 2).toInt = z25_.toInt) : -2147483648 ≤ r30_.toInt + 4 ∧ r30_.toInt + 4 < 2147483648 := by have r_v := rngI v; have r_u := rngI u; have r_t := rngI t; have r_z25_ := rngI z25_; have r_r30_ := rngI r30_; have r_z35_ := rngI z35_; have r_z44_ := rngI z44_; have r_z53_ := rngI z53_; have r_z62_ := rngI z62_; subst e26_; omega
theorem lf_c_X12_walker_18 (M37_ : mM) (M46_ : mM) (M55_ : mM) (M64_ : mM) (Mz : mM) (v : Int32) (u : Int32) (t : Int32) (z25_ : Int32) (r30_ : Int32) (z35_ : Int32) (j39_ : Nat) (z44_ : Int32) (j48_ : Nat) (z53_ : Int32) (j57_ : Nat) (z62_ : Int32) (j66_ : Nat) (z71_ : Int32) (h4_ : 0 ≤ v.toInt ∧ v.toInt ≤ 7) (h10_ : 0 ≤ u.toInt ∧ u.toInt ≤ 191) (h16_ : 0 ≤ t.toInt ∧ t.toInt ≤ 7) (e26_ : z25_ = Mz.1 (50, 0, 0) 2) (kf27_ : (Mz.1 (50, 0, 0) 2).toInt = z25_.toInt) (h28_ : 0 ≤ z25_.toInt ∧ z25_.toInt ≤ 8) (h29_ : ¬ z25_.toInt = 8) (h33_ : r30_.toInt = 180 + 9 * z25_.toInt) (h36_ : z35_.toInt = r30_.toInt + 0) (h40_ : (j39_ : Int) = z35_.toInt) (hM38_ : M37_ = up Mz (50, 0, 0) j39_ v) (kf43_ : (M37_.1 (50, 0, 0) 2).toInt = z25_.toInt) (h45_ : z44_.toInt = r30_.toInt + 1) (h49_ : (j48_ : Int) = z44_.toInt) (hM47_ : M46_ = up M37_ (50, 0, 0) j48_ u) (kf52_ : (M46_.1 (50, 0, 0) 2).toInt = z25_.toInt) (h54_ : z53_.toInt = r30_.toInt + 2) (h58_ : (j57_ : Int) = z53_.toInt) (hM56_ : M55_ = up M46_ (50, 0, 0) j57_ t) (kf61_ : (M55_.1 (50, 0, 0) 2).toInt = z25_.toInt) (h63_ : z62_.toInt = r30_.toInt + 3) (h67_ : (j66_ : Int) = z62_.toInt) (hM65_ : M64_ = up M55_ (50, 0, 0) j66_ 5) (kf70_ : (M64_.1 (50, 0, 0) 2).toInt = z25_.toInt) (h72_ : z71_.toInt = r30_.toInt + 4) : 0 ≤ z71_.toInt ∧ z71_.toInt < ((3567 : Nat) : Int) := by have r_v := rngI v; have r_u := rngI u; have r_t := rngI t; have r_z25_ := rngI z25_; have r_r30_ := rngI r30_; have r_z35_ := rngI z35_; have r_z44_ := rngI z44_; have r_z53_ := rngI z53_; have r_z62_ := rngI z62_; have r_z71_ := rngI z71_; subst e26_; omega
theorem lf_c_X12_walker_19 (M37_ : mM) (M46_ : mM) (M55_ : mM) (M64_ : mM) (M73_ : mM) (Mz : mM) (v : Int32) (u : Int32) (t : Int32) (z25_ : Int32) (r30_ : Int32) (z35_ : Int32) (j39_ : Nat) (z44_ : Int32) (j48_ : Nat) (z53_ : Int32) (j57_ : Nat) (z62_ : Int32) (j66_ : Nat) (z71_ : Int32) (j75_ : Nat) (h4_ : 0 ≤ v.toInt ∧ v.toInt ≤ 7) (h10_ : 0 ≤ u.toInt ∧ u.toInt ≤ 191) (h16_ : 0 ≤ t.toInt ∧ t.toInt ≤ 7) (e26_ : z25_ = Mz.1 (50, 0, 0) 2) (kf27_ : (Mz.1 (50, 0, 0) 2).toInt = z25_.toInt) (h28_ : 0 ≤ z25_.toInt ∧ z25_.toInt ≤ 8) (h29_ : ¬ z25_.toInt = 8) (h33_ : r30_.toInt = 180 + 9 * z25_.toInt) (h36_ : z35_.toInt = r30_.toInt + 0) (h40_ : (j39_ : Int) = z35_.toInt) (hM38_ : M37_ = up Mz (50, 0, 0) j39_ v) (kf43_ : (M37_.1 (50, 0, 0) 2).toInt = z25_.toInt) (h45_ : z44_.toInt = r30_.toInt + 1) (h49_ : (j48_ : Int) = z44_.toInt) (hM47_ : M46_ = up M37_ (50, 0, 0) j48_ u) (kf52_ : (M46_.1 (50, 0, 0) 2).toInt = z25_.toInt) (h54_ : z53_.toInt = r30_.toInt + 2) (h58_ : (j57_ : Int) = z53_.toInt) (hM56_ : M55_ = up M46_ (50, 0, 0) j57_ t) (kf61_ : (M55_.1 (50, 0, 0) 2).toInt = z25_.toInt) (h63_ : z62_.toInt = r30_.toInt + 3) (h67_ : (j66_ : Int) = z62_.toInt) (hM65_ : M64_ = up M55_ (50, 0, 0) j66_ 5) (kf70_ : (M64_.1 (50, 0, 0) 2).toInt = z25_.toInt) (h72_ : z71_.toInt = r30_.toInt + 4) (h76_ : (j75_ : Int) = z71_.toInt) (hM74_ : M73_ = up M64_ (50, 0, 0) j75_ 60) : PN j75_ (60 : Int32) ∧ (j75_ < 345 ∨ 493 < j75_) := by have r_v := rngI v; have r_u := rngI u; have r_t := rngI t; have r_z25_ := rngI z25_; have r_r30_ := rngI r30_; have r_z35_ := rngI z35_; have r_z44_ := rngI z44_; have r_z53_ := rngI z53_; have r_z62_ := rngI z62_; have r_z71_ := rngI z71_; have q9 := li_60; subst e26_; unfold PN; omega
theorem lf_c_X12_walker_20 (M37_ : mM) (M46_ : mM) (M55_ : mM) (M64_ : mM) (M73_ : mM) (Mz : mM) (v : Int32) (u : Int32) (t : Int32) (z25_ : Int32) (r30_ : Int32) (z35_ : Int32) (j39_ : Nat) (z44_ : Int32) (j48_ : Nat) (z53_ : Int32) (j57_ : Nat) (z62_ : Int32) (j66_ : Nat) (z71_ : Int32) (j75_ : Nat) (h4_ : 0 ≤ v.toInt ∧ v.toInt ≤ 7) (h10_ : 0 ≤ u.toInt ∧ u.toInt ≤ 191) (h16_ : 0 ≤ t.toInt ∧ t.toInt ≤ 7) (e26_ : z25_ = Mz.1 (50, 0, 0) 2) (kf27_ : (Mz.1 (50, 0, 0) 2).toInt = z25_.toInt) (h28_ : 0 ≤ z25_.toInt ∧ z25_.toInt ≤ 8) (h29_ : ¬ z25_.toInt = 8) (h33_ : r30_.toInt = 180 + 9 * z25_.toInt) (h36_ : z35_.toInt = r30_.toInt + 0) (h40_ : (j39_ : Int) = z35_.toInt) (hM38_ : M37_ = up Mz (50, 0, 0) j39_ v) (kf43_ : (M37_.1 (50, 0, 0) 2).toInt = z25_.toInt) (h45_ : z44_.toInt = r30_.toInt + 1) (h49_ : (j48_ : Int) = z44_.toInt) (hM47_ : M46_ = up M37_ (50, 0, 0) j48_ u) (kf52_ : (M46_.1 (50, 0, 0) 2).toInt = z25_.toInt) (h54_ : z53_.toInt = r30_.toInt + 2) (h58_ : (j57_ : Int) = z53_.toInt) (hM56_ : M55_ = up M46_ (50, 0, 0) j57_ t) (kf61_ : (M55_.1 (50, 0, 0) 2).toInt = z25_.toInt) (h63_ : z62_.toInt = r30_.toInt + 3) (h67_ : (j66_ : Int) = z62_.toInt) (hM65_ : M64_ = up M55_ (50, 0, 0) j66_ 5) (kf70_ : (M64_.1 (50, 0, 0) 2).toInt = z25_.toInt) (h72_ : z71_.toInt = r30_.toInt + 4) (h76_ : (j75_ : Int) = z71_.toInt) (hM74_ : M73_ = up M64_ (50, 0, 0) j75_ 60) : ¬ 2 = j75_ := by have r_v := rngI v; have r_u := rngI u; have r_t := rngI t; have r_z25_ := rngI z25_; have r_r30_ := rngI r30_; have r_z35_ := rngI z35_; have r_z44_ := rngI z44_; have r_z53_ := rngI z53_; have r_z62_ := rngI z62_; have r_z71_ := rngI z71_; subst e26_; omega
theorem lf_c_X12_walker_21 (M37_ : mM) (M46_ : mM) (M55_ : mM) (M64_ : mM) (M73_ : mM) (Mz : mM) (v : Int32) (u : Int32) (t : Int32) (z25_ : Int32) (r30_ : Int32) (z35_ : Int32) (j39_ : Nat) (z44_ : Int32) (j48_ : Nat) (z53_ : Int32) (j57_ : Nat) (z62_ : Int32) (j66_ : Nat) (z71_ : Int32) (j75_ : Nat) (z80_ : Int32) (h4_ : 0 ≤ v.toInt ∧ v.toInt ≤ 7) (h10_ : 0 ≤ u.toInt ∧ u.toInt ≤ 191) (h16_ : 0 ≤ t.toInt ∧ t.toInt ≤ 7) (e26_ : z25_ = Mz.1 (50, 0, 0) 2) (kf27_ : (Mz.1 (50, 0, 0) 2).toInt = z25_.toInt) (h28_ : 0 ≤ z25_.toInt ∧ z25_.toInt ≤ 8) (h29_ : ¬ z25_.toInt = 8) (h33_ : r30_.toInt = 180 + 9 * z25_.toInt) (h36_ : z35_.toInt = r30_.toInt + 0) (h40_ : (j39_ : Int) = z35_.toInt) (hM38_ : M37_ = up Mz (50, 0, 0) j39_ v) (kf43_ : (M37_.1 (50, 0, 0) 2).toInt = z25_.toInt) (h45_ : z44_.toInt = r30_.toInt + 1) (h49_ : (j48_ : Int) = z44_.toInt) (hM47_ : M46_ = up M37_ (50, 0, 0) j48_ u) (kf52_ : (M46_.1 (50, 0, 0) 2).toInt = z25_.toInt) (h54_ : z53_.toInt = r30_.toInt + 2) (h58_ : (j57_ : Int) = z53_.toInt) (hM56_ : M55_ = up M46_ (50, 0, 0) j57_ t) (kf61_ : (M55_.1 (50, 0, 0) 2).toInt = z25_.toInt) (h63_ : z62_.toInt = r30_.toInt + 3) (h67_ : (j66_ : Int) = z62_.toInt) (hM65_ : M64_ = up M55_ (50, 0, 0) j66_ 5) (kf70_ : (M64_.1 (50, 0, 0) 2).toInt = z25_.toInt) (h72_ : z71_.toInt = r30_.toInt + 4) (h76_ : (j75_ : Int) = z71_.toInt) (hM74_ : M73_ = up M64_ (50, 0, 0) j75_ 60) (kf79_ : (M73_.1 (50, 0, 0) 2).toInt = z25_.toInt) (e81_ : z80_ = M73_.1 (50, 0, 0) 2) (h82_ : z80_.toInt = z25_.toInt) (h83_ : 0 ≤ z80_.toInt ∧ z80_.toInt ≤ 8) : -2147483648 ≤ z80_.toInt + 1 ∧ z80_.toInt + 1 < 2147483648 := by have r_v := rngI v; have r_u := rngI u; have r_t := rngI t; have r_z25_ := rngI z25_; have r_r30_ := rngI r30_; have r_z35_ := rngI z35_; have r_z44_ := rngI z44_; have r_z53_ := rngI z53_; have r_z62_ := rngI z62_; have r_z71_ := rngI z71_; have r_z80_ := rngI z80_; subst e26_; subst e81_; omega
theorem lf_c_X12_walker_22 (M37_ : mM) (M46_ : mM) (M55_ : mM) (M64_ : mM) (M73_ : mM) (M86_ : mM) (Mz : mM) (v : Int32) (u : Int32) (t : Int32) (z25_ : Int32) (r30_ : Int32) (z35_ : Int32) (j39_ : Nat) (z44_ : Int32) (j48_ : Nat) (z53_ : Int32) (j57_ : Nat) (z62_ : Int32) (j66_ : Nat) (z71_ : Int32) (j75_ : Nat) (z80_ : Int32) (z84_ : Int32) (h4_ : 0 ≤ v.toInt ∧ v.toInt ≤ 7) (h10_ : 0 ≤ u.toInt ∧ u.toInt ≤ 191) (h16_ : 0 ≤ t.toInt ∧ t.toInt ≤ 7) (e26_ : z25_ = Mz.1 (50, 0, 0) 2) (kf27_ : (Mz.1 (50, 0, 0) 2).toInt = z25_.toInt) (h28_ : 0 ≤ z25_.toInt ∧ z25_.toInt ≤ 8) (h29_ : ¬ z25_.toInt = 8) (h33_ : r30_.toInt = 180 + 9 * z25_.toInt) (h36_ : z35_.toInt = r30_.toInt + 0) (h40_ : (j39_ : Int) = z35_.toInt) (hM38_ : M37_ = up Mz (50, 0, 0) j39_ v) (kf43_ : (M37_.1 (50, 0, 0) 2).toInt = z25_.toInt) (h45_ : z44_.toInt = r30_.toInt + 1) (h49_ : (j48_ : Int) = z44_.toInt) (hM47_ : M46_ = up M37_ (50, 0, 0) j48_ u) (kf52_ : (M46_.1 (50, 0, 0) 2).toInt = z25_.toInt) (h54_ : z53_.toInt = r30_.toInt + 2) (h58_ : (j57_ : Int) = z53_.toInt) (hM56_ : M55_ = up M46_ (50, 0, 0) j57_ t) (kf61_ : (M55_.1 (50, 0, 0) 2).toInt = z25_.toInt) (h63_ : z62_.toInt = r30_.toInt + 3) (h67_ : (j66_ : Int) = z62_.toInt) (hM65_ : M64_ = up M55_ (50, 0, 0) j66_ 5) (kf70_ : (M64_.1 (50, 0, 0) 2).toInt = z25_.toInt) (h72_ : z71_.toInt = r30_.toInt + 4) (h76_ : (j75_ : Int) = z71_.toInt) (hM74_ : M73_ = up M64_ (50, 0, 0) j75_ 60) (kf79_ : (M73_.1 (50, 0, 0) 2).toInt = z25_.toInt) (e81_ : z80_ = M73_.1 (50, 0, 0) 2) (h82_ : z80_.toInt = z25_.toInt) (h83_ : 0 ≤ z80_.toInt ∧ z80_.toInt ≤ 8) (h85_ : z84_.toInt = z80_.toInt + 1) (hM87_ : M86_ = up M73_ (50, 0, 0) 2 z84_) : PN 2 z84_ ∧ (2 < 345 ∨ 493 < 2) := by have r_v := rngI v; have r_u := rngI u; have r_t := rngI t; have r_z25_ := rngI z25_; have r_r30_ := rngI r30_; have r_z35_ := rngI z35_; have r_z44_ := rngI z44_; have r_z53_ := rngI z53_; have r_z62_ := rngI z62_; have r_z71_ := rngI z71_; have r_z80_ := rngI z80_; have r_z84_ := rngI z84_; subst e26_; subst e81_; unfold PN; omega
set_option maxHeartbeats 4000000 in
set_option maxRecDepth 100000 in
theorem c_X12_walker (l : Launch) (G : va_G) (cy : Nat → ClassId) (ad : rf → Nat) (d : Nat) (v : Int32) (u : Int32) (t : Int32) (Mz : mM) (hIz : InvD Mz) : WP DD l G cy ad yX12_walker cX12_walker 6 (some .int) (d + 3) 0 [(0, vR (12, 0, 0)), (1, vI v), (2, vI u), (3, vI t)] [] Mz (fun r M' => InvD M' ∧ FR (S_c_X12_walker) Mz M' ∧ (True) ∧ SP_X12_walker v u t Mz r M') := by
  have hFz : FR (S_c_X12_walker) Mz Mz := FR.self
  refine w_iload_n dX12_walker_0 rfl 1 rfl ?_
  refine w_iconst (v := 0) dX12_walker_1 (by decide) ?_
  refine w_bipush (v := 7) dX12_walker_2 (by decide) ?_
  refine w_callS (as := [vI v, vI 0, vI 7]) (rest := []) (c_X12_within l G cy ad (d + 2) v 0 7 Mz hIz) kS_X12_within (by decide +kernel) (Nat.le_of_ble_eq_true rfl) m_1427 rfl rfl (by decide) (Nat.le_of_ble_eq_true rfl) dX12_walker_4 (fun r1_ M2_ q3_ => ?_)
  obtain ⟨rfl, h4_, hs5_⟩ := q3_
  rcases h4_ with ⟨rfl, h4_⟩ | ⟨rfl, h4_⟩
  · simp only [li_0, li_7] at h4_
    refine w_if_eq (tgt := 24) dX12_walker_7 (by decide) li_1 (fun h9 => (absurd h9 (by decide))) (fun h6_ => ?_)
    refine w_iload_n dX12_walker_10 rfl 2 rfl ?_
    refine w_callS (as := [vI u]) (rest := []) (c_X12_isCell l G cy ad (d + 1) u Mz hIz) kS_X12_isCell (by decide +kernel) (Nat.le_of_ble_eq_true rfl) m_1430 rfl rfl (by decide) (Nat.le_of_ble_eq_true rfl) dX12_walker_11 (fun r7_ M8_ q9_ => ?_)
    obtain ⟨rfl, h10_, hs11_⟩ := q9_
    rcases h10_ with ⟨rfl, h10_⟩ | ⟨rfl, h10_⟩
    · refine w_if_eq (tgt := 24) dX12_walker_14 (by decide) li_1 (fun h9 => (absurd h9 (by decide))) (fun h12_ => ?_)
      refine w_iload_n dX12_walker_17 rfl 3 rfl ?_
      refine w_callS (as := [vI t]) (rest := []) (c_X12_isSide l G cy ad (d + 1) t Mz hIz) kS_X12_isSide (by decide +kernel) (Nat.le_of_ble_eq_true rfl) m_1473 rfl rfl (by decide) (Nat.le_of_ble_eq_true rfl) dX12_walker_18 (fun r13_ M14_ q15_ => ?_)
      obtain ⟨rfl, h16_, hs17_⟩ := q15_
      rcases h16_ with ⟨rfl, h16_⟩ | ⟨rfl, h16_⟩
      · refine w_if_ne (tgt := 31) dX12_walker_21 (by decide) li_1 (fun h18_ => ?_) (fun h9 => (absurd h9 (by decide)))
        refine w_aload_n dX12_walker_31 rfl 0 rfl ?_
        refine w_iload_n dX12_walker_32 rfl 2 rfl ?_
        refine w_callV (as := [vI u]) (rest := []) (c_X12_isFree l G cy ad d u Mz hIz) kV_X12_isFree (by decide +kernel) (Nat.le_of_ble_eq_true rfl) m_1439 rfl rfl rfl ic_12 rfl rfl (by decide) (Nat.le_of_ble_eq_true rfl) dX12_walker_33 (fun r19_ M20_ q21_ => ?_)
        obtain ⟨rfl, h22_, hs23_⟩ := q21_
        refine w_if_ne (tgt := 46) dX12_walker_36 (by decide) (rfl : r19_.toInt = r19_.toInt) (fun h24_ => ?_) (fun h24_ => ?_)
        · refine w_aload_n dX12_walker_46 rfl 0 rfl ?_
          refine w_getR (c' := (50, 0, 0)) fl_RX12_9 rfl rfl ic_12 dX12_walker_47 rfl ?_
          refine w_iconst (v := 2) dX12_walker_50 (by decide) ?_
          refine w_ialdL 2 rfl rfl ic_50 li_2 (by decide) dX12_walker_51 (fun z25_ e26_ => ?_)
          have kf27_ : (Mz.1 (50, 0, 0) 2).toInt = z25_.toInt := by rw [e26_]
          have h28_ : 0 ≤ z25_.toInt ∧ z25_.toInt ≤ 8 := pn_2 hIz e26_
          refine w_istore (ls' := [(4, vI z25_), (0, vR (12, 0, 0)), (1, vI v), (2, vI u), (3, vI t)]) dX12_walker_52 (by decide) rfl ?_
          refine w_iload dX12_walker_54 0 rfl ?_
          refine w_bipush (v := 8) dX12_walker_56 (by decide) ?_
          refine w_icmp_ne (tgt := 68) dX12_walker_58 (by decide) (rfl : z25_.toInt = z25_.toInt) li_8 (fun h29_ => ?_) (fun h29_ => ?_)
          · refine w_aload_n dX12_walker_68 rfl 1 rfl ?_
            refine w_iload dX12_walker_69 0 rfl ?_
            refine w_callV (as := [vI z25_]) (rest := []) (c_X12_goer l G cy ad (d + 2) z25_ Mz hIz (lf_c_X12_walker_0 Mz z25_ e26_ kf27_ h28_ h29_)) kV_X12_goer (by decide +kernel) (Nat.le_of_ble_eq_true rfl) m_1451 rfl rfl rfl ic_12 rfl rfl (by decide) (Nat.le_of_ble_eq_true rfl) dX12_walker_71 (fun r30_ M31_ q32_ => ?_)
            obtain ⟨rfl, h33_, hs34_⟩ := q32_
            refine w_istore (ls' := [(5, vI r30_), (4, vI z25_), (0, vR (12, 0, 0)), (1, vI v), (2, vI u), (3, vI t)]) dX12_walker_74 (by decide) rfl ?_
            refine w_aload_n dX12_walker_76 rfl 2 rfl ?_
            refine w_getR (c' := (50, 0, 0)) fl_RX12_9 rfl rfl ic_12 dX12_walker_77 rfl ?_
            refine w_iload dX12_walker_80 0 rfl ?_
            refine w_iconst (v := 0) dX12_walker_82 (by decide) ?_
            refine w_iaddB dX12_walker_83 (rfl : r30_.toInt = r30_.toInt) li_0 (lf_c_X12_walker_1 Mz z25_ r30_ e26_ kf27_ h28_ h29_ h33_) (fun z35_ h36_ => ?_)
            refine w_iload_n dX12_walker_84 rfl 3 rfl ?_
            refine w_iast DD_nd rfl rfl ic_50 (rfl : z35_.toInt = z35_.toInt) (lf_c_X12_walker_2 Mz z25_ r30_ z35_ e26_ kf27_ h28_ h29_ h33_ h36_) dX12_walker_85 (fun j39_ h40_ M37_ hM38_ => ?_)
            have hI41_ := hIz.put50 hM38_ (lf_c_X12_walker_3 M37_ Mz v z25_ r30_ z35_ j39_ h4_ e26_ kf27_ h28_ h29_ h33_ h36_ h40_ hM38_)
            have hF42_ := hFz.put hM38_ (Or.inl ⟨rfl, rfl⟩)
            have kf43_ : (M37_.1 (50, 0, 0) 2).toInt = z25_.toInt := by rw [(show M37_.1 (50, 0, 0) 2 = Mz.1 (50, 0, 0) 2 by rw [hM38_]; exact up_ne (fun q => absurd q.2 (lf_c_X12_walker_4 M37_ Mz v z25_ r30_ z35_ j39_ h4_ e26_ kf27_ h28_ h29_ h33_ h36_ h40_ hM38_)))]; exact kf27_
            refine w_aload_n dX12_walker_86 rfl 2 rfl ?_
            refine w_getR (c' := (50, 0, 0)) fl_RX12_9 rfl rfl ic_12 dX12_walker_87 rfl ?_
            refine w_iload dX12_walker_90 0 rfl ?_
            refine w_iconst (v := 1) dX12_walker_92 (by decide) ?_
            refine w_iaddB dX12_walker_93 (rfl : r30_.toInt = r30_.toInt) li_1 (lf_c_X12_walker_5 M37_ Mz v z25_ r30_ z35_ j39_ h4_ e26_ kf27_ h28_ h29_ h33_ h36_ h40_ hM38_ kf43_) (fun z44_ h45_ => ?_)
            refine w_iload_n dX12_walker_94 rfl 4 rfl ?_
            refine w_iast DD_nd rfl rfl ic_50 (rfl : z44_.toInt = z44_.toInt) (lf_c_X12_walker_6 M37_ Mz v z25_ r30_ z35_ j39_ z44_ h4_ e26_ kf27_ h28_ h29_ h33_ h36_ h40_ hM38_ kf43_ h45_) dX12_walker_95 (fun j48_ h49_ M46_ hM47_ => ?_)
            have hI50_ := hI41_.put50 hM47_ (lf_c_X12_walker_7 M37_ M46_ Mz v u z25_ r30_ z35_ j39_ z44_ j48_ h4_ h10_ e26_ kf27_ h28_ h29_ h33_ h36_ h40_ hM38_ kf43_ h45_ h49_ hM47_)
            have hF51_ := hF42_.put hM47_ (Or.inl ⟨rfl, rfl⟩)
            have kf52_ : (M46_.1 (50, 0, 0) 2).toInt = z25_.toInt := by rw [(show M46_.1 (50, 0, 0) 2 = M37_.1 (50, 0, 0) 2 by rw [hM47_]; exact up_ne (fun q => absurd q.2 (lf_c_X12_walker_8 M37_ M46_ Mz v u z25_ r30_ z35_ j39_ z44_ j48_ h4_ h10_ e26_ kf27_ h28_ h29_ h33_ h36_ h40_ hM38_ kf43_ h45_ h49_ hM47_)))]; exact kf43_
            refine w_aload_n dX12_walker_96 rfl 2 rfl ?_
            refine w_getR (c' := (50, 0, 0)) fl_RX12_9 rfl rfl ic_12 dX12_walker_97 rfl ?_
            refine w_iload dX12_walker_100 0 rfl ?_
            refine w_iconst (v := 2) dX12_walker_102 (by decide) ?_
            refine w_iaddB dX12_walker_103 (rfl : r30_.toInt = r30_.toInt) li_2 (lf_c_X12_walker_9 M37_ M46_ Mz v u z25_ r30_ z35_ j39_ z44_ j48_ h4_ h10_ e26_ kf27_ h28_ h29_ h33_ h36_ h40_ hM38_ kf43_ h45_ h49_ hM47_ kf52_) (fun z53_ h54_ => ?_)
            refine w_iload_n dX12_walker_104 rfl 5 rfl ?_
            refine w_iast DD_nd rfl rfl ic_50 (rfl : z53_.toInt = z53_.toInt) (lf_c_X12_walker_10 M37_ M46_ Mz v u z25_ r30_ z35_ j39_ z44_ j48_ z53_ h4_ h10_ e26_ kf27_ h28_ h29_ h33_ h36_ h40_ hM38_ kf43_ h45_ h49_ hM47_ kf52_ h54_) dX12_walker_105 (fun j57_ h58_ M55_ hM56_ => ?_)
            have hI59_ := hI50_.put50 hM56_ (lf_c_X12_walker_11 M37_ M46_ M55_ Mz v u t z25_ r30_ z35_ j39_ z44_ j48_ z53_ j57_ h4_ h10_ h16_ e26_ kf27_ h28_ h29_ h33_ h36_ h40_ hM38_ kf43_ h45_ h49_ hM47_ kf52_ h54_ h58_ hM56_)
            have hF60_ := hF51_.put hM56_ (Or.inl ⟨rfl, rfl⟩)
            have kf61_ : (M55_.1 (50, 0, 0) 2).toInt = z25_.toInt := by rw [(show M55_.1 (50, 0, 0) 2 = M46_.1 (50, 0, 0) 2 by rw [hM56_]; exact up_ne (fun q => absurd q.2 (lf_c_X12_walker_12 M37_ M46_ M55_ Mz v u t z25_ r30_ z35_ j39_ z44_ j48_ z53_ j57_ h4_ h10_ h16_ e26_ kf27_ h28_ h29_ h33_ h36_ h40_ hM38_ kf43_ h45_ h49_ hM47_ kf52_ h54_ h58_ hM56_)))]; exact kf52_
            refine w_aload_n dX12_walker_106 rfl 2 rfl ?_
            refine w_getR (c' := (50, 0, 0)) fl_RX12_9 rfl rfl ic_12 dX12_walker_107 rfl ?_
            refine w_iload dX12_walker_110 0 rfl ?_
            refine w_iconst (v := 3) dX12_walker_112 (by decide) ?_
            refine w_iaddB dX12_walker_113 (rfl : r30_.toInt = r30_.toInt) li_3 (lf_c_X12_walker_13 M37_ M46_ M55_ Mz v u t z25_ r30_ z35_ j39_ z44_ j48_ z53_ j57_ h4_ h10_ h16_ e26_ kf27_ h28_ h29_ h33_ h36_ h40_ hM38_ kf43_ h45_ h49_ hM47_ kf52_ h54_ h58_ hM56_ kf61_) (fun z62_ h63_ => ?_)
            refine w_iconst (v := 5) dX12_walker_114 (by decide) ?_
            refine w_iast DD_nd rfl rfl ic_50 (rfl : z62_.toInt = z62_.toInt) (lf_c_X12_walker_14 M37_ M46_ M55_ Mz v u t z25_ r30_ z35_ j39_ z44_ j48_ z53_ j57_ z62_ h4_ h10_ h16_ e26_ kf27_ h28_ h29_ h33_ h36_ h40_ hM38_ kf43_ h45_ h49_ hM47_ kf52_ h54_ h58_ hM56_ kf61_ h63_) dX12_walker_115 (fun j66_ h67_ M64_ hM65_ => ?_)
            have hI68_ := hI59_.put50 hM65_ (lf_c_X12_walker_15 M37_ M46_ M55_ M64_ Mz v u t z25_ r30_ z35_ j39_ z44_ j48_ z53_ j57_ z62_ j66_ h4_ h10_ h16_ e26_ kf27_ h28_ h29_ h33_ h36_ h40_ hM38_ kf43_ h45_ h49_ hM47_ kf52_ h54_ h58_ hM56_ kf61_ h63_ h67_ hM65_)
            have hF69_ := hF60_.put hM65_ (Or.inl ⟨rfl, rfl⟩)
            have kf70_ : (M64_.1 (50, 0, 0) 2).toInt = z25_.toInt := by rw [(show M64_.1 (50, 0, 0) 2 = M55_.1 (50, 0, 0) 2 by rw [hM65_]; exact up_ne (fun q => absurd q.2 (lf_c_X12_walker_16 M37_ M46_ M55_ M64_ Mz v u t z25_ r30_ z35_ j39_ z44_ j48_ z53_ j57_ z62_ j66_ h4_ h10_ h16_ e26_ kf27_ h28_ h29_ h33_ h36_ h40_ hM38_ kf43_ h45_ h49_ hM47_ kf52_ h54_ h58_ hM56_ kf61_ h63_ h67_ hM65_)))]; exact kf61_
            refine w_aload_n dX12_walker_116 rfl 2 rfl ?_
            refine w_getR (c' := (50, 0, 0)) fl_RX12_9 rfl rfl ic_12 dX12_walker_117 rfl ?_
            refine w_iload dX12_walker_120 0 rfl ?_
            refine w_iconst (v := 4) dX12_walker_122 (by decide) ?_
            refine w_iaddB dX12_walker_123 (rfl : r30_.toInt = r30_.toInt) li_4 (lf_c_X12_walker_17 M37_ M46_ M55_ M64_ Mz v u t z25_ r30_ z35_ j39_ z44_ j48_ z53_ j57_ z62_ j66_ h4_ h10_ h16_ e26_ kf27_ h28_ h29_ h33_ h36_ h40_ hM38_ kf43_ h45_ h49_ hM47_ kf52_ h54_ h58_ hM56_ kf61_ h63_ h67_ hM65_ kf70_) (fun z71_ h72_ => ?_)
            refine w_bipush (v := 60) dX12_walker_124 (by decide) ?_
            refine w_iast DD_nd rfl rfl ic_50 (rfl : z71_.toInt = z71_.toInt) (lf_c_X12_walker_18 M37_ M46_ M55_ M64_ Mz v u t z25_ r30_ z35_ j39_ z44_ j48_ z53_ j57_ z62_ j66_ z71_ h4_ h10_ h16_ e26_ kf27_ h28_ h29_ h33_ h36_ h40_ hM38_ kf43_ h45_ h49_ hM47_ kf52_ h54_ h58_ hM56_ kf61_ h63_ h67_ hM65_ kf70_ h72_) dX12_walker_126 (fun j75_ h76_ M73_ hM74_ => ?_)
            have hI77_ := hI68_.put50 hM74_ (lf_c_X12_walker_19 M37_ M46_ M55_ M64_ M73_ Mz v u t z25_ r30_ z35_ j39_ z44_ j48_ z53_ j57_ z62_ j66_ z71_ j75_ h4_ h10_ h16_ e26_ kf27_ h28_ h29_ h33_ h36_ h40_ hM38_ kf43_ h45_ h49_ hM47_ kf52_ h54_ h58_ hM56_ kf61_ h63_ h67_ hM65_ kf70_ h72_ h76_ hM74_)
            have hF78_ := hF69_.put hM74_ (Or.inl ⟨rfl, rfl⟩)
            have kf79_ : (M73_.1 (50, 0, 0) 2).toInt = z25_.toInt := by rw [(show M73_.1 (50, 0, 0) 2 = M64_.1 (50, 0, 0) 2 by rw [hM74_]; exact up_ne (fun q => absurd q.2 (lf_c_X12_walker_20 M37_ M46_ M55_ M64_ M73_ Mz v u t z25_ r30_ z35_ j39_ z44_ j48_ z53_ j57_ z62_ j66_ z71_ j75_ h4_ h10_ h16_ e26_ kf27_ h28_ h29_ h33_ h36_ h40_ hM38_ kf43_ h45_ h49_ hM47_ kf52_ h54_ h58_ hM56_ kf61_ h63_ h67_ hM65_ kf70_ h72_ h76_ hM74_)))]; exact kf70_
            refine w_aload_n dX12_walker_127 rfl 2 rfl ?_
            refine w_getR (c' := (50, 0, 0)) fl_RX12_9 rfl rfl ic_12 dX12_walker_128 rfl ?_
            refine w_iconst (v := 2) dX12_walker_131 (by decide) ?_
            refine w_dup2 dX12_walker_132 rfl rfl ?_
            refine w_ialdL 2 rfl rfl ic_50 li_2 (by decide) dX12_walker_133 (fun z80_ e81_ => ?_)
            have h82_ : z80_.toInt = z25_.toInt := by rw [e81_]; exact kf79_
            have h83_ : 0 ≤ z80_.toInt ∧ z80_.toInt ≤ 8 := pn_2 hI77_ e81_
            refine w_iconst (v := 1) dX12_walker_134 (by decide) ?_
            refine w_iaddB dX12_walker_135 (rfl : z80_.toInt = z80_.toInt) li_1 (lf_c_X12_walker_21 M37_ M46_ M55_ M64_ M73_ Mz v u t z25_ r30_ z35_ j39_ z44_ j48_ z53_ j57_ z62_ j66_ z71_ j75_ z80_ h4_ h10_ h16_ e26_ kf27_ h28_ h29_ h33_ h36_ h40_ hM38_ kf43_ h45_ h49_ hM47_ kf52_ h54_ h58_ hM56_ kf61_ h63_ h67_ hM65_ kf70_ h72_ h76_ hM74_ kf79_ e81_ h82_ h83_) (fun z84_ h85_ => ?_)
            refine w_iastL 2 DD_nd rfl rfl ic_50 li_2 (by decide) dX12_walker_136 (fun M86_ hM87_ => ?_)
            have hI88_ := hI77_.put50 hM87_ (lf_c_X12_walker_22 M37_ M46_ M55_ M64_ M73_ M86_ Mz v u t z25_ r30_ z35_ j39_ z44_ j48_ z53_ j57_ z62_ j66_ z71_ j75_ z80_ z84_ h4_ h10_ h16_ e26_ kf27_ h28_ h29_ h33_ h36_ h40_ hM38_ kf43_ h45_ h49_ hM47_ kf52_ h54_ h58_ hM56_ kf61_ h63_ h67_ hM65_ kf70_ h72_ h76_ hM74_ kf79_ e81_ h82_ h83_ h85_ hM87_)
            have hF89_ := hF78_.put hM87_ (Or.inl ⟨rfl, rfl⟩)
            refine w_iload dX12_walker_137 1 rfl ?_
            exact w_iret rfl dX12_walker_139 ⟨hI88_, hF89_, trivial, (Or.inl ⟨hs5_, h4_, (Or.inl ⟨hs11_, h10_, (Or.inl ⟨hs17_, h16_, r19_, hs23_, h22_, (Or.inl ⟨h24_, z25_, e26_, h28_, (Or.inl ⟨h29_, r30_, hs34_, h33_, z35_, h36_, j39_, h40_, M37_, hM38_, z44_, h45_, j48_, h49_, M46_, hM47_, z53_, h54_, j57_, h58_, M55_, hM56_, z62_, h63_, j66_, h67_, M64_, hM65_, z71_, h72_, j75_, h76_, M73_, hM74_, z80_, e81_, h82_, h83_, z84_, h85_, M86_, hM87_, rfl, rfl⟩)⟩)⟩)⟩)⟩)⟩
          · refine w_aload_n dX12_walker_61 rfl 1 rfl ?_
            refine w_ldc (v := (-1000004)) m_1456 dX12_walker_62 ?_
            refine w_callV (as := [vI (-1000004)]) (rest := []) (c_X12_finding l G cy ad (d + 2) (-1000004) Mz hIz (by first | decide | (unfold vF; omega) | (unfold vRw; omega))) kV_X12_finding (by decide +kernel) (Nat.le_of_ble_eq_true rfl) m_1434 rfl rfl rfl ic_12 rfl rfl (by decide) (Nat.le_of_ble_eq_true rfl) dX12_walker_64 (fun r90_ M91_ q92_ => ?_)
            obtain ⟨hI94_, hF95_, h93_, hs97_⟩ := q92_
            have hF96_ := hFz.tr hF95_ (fun c k => (fun h => h.elim (fun h => (Or.inr (Or.inl ⟨h.1, h.2⟩))) (fun h => h.elim)))
            have kf98_ : (M91_.1 (50, 0, 0) 2).toInt = z25_.toInt := by rw [(hF95_ (50, 0, 0) 2 (by simp [S_c_X12_finding]))]; exact kf27_
            simp only [li_m1000004] at h93_
            exact w_iret rfl dX12_walker_67 ⟨hI94_, hF96_, trivial, (Or.inl ⟨hs5_, h4_, (Or.inl ⟨hs11_, h10_, (Or.inl ⟨hs17_, h16_, r19_, hs23_, h22_, (Or.inl ⟨h24_, z25_, e26_, h28_, (Or.inr ⟨h29_, M91_, hI94_, hF95_, r90_, hs97_, h93_, rfl, rfl⟩)⟩)⟩)⟩)⟩)⟩
        · refine w_aload_n dX12_walker_39 rfl 0 rfl ?_
          refine w_ldc (v := (-1000003)) m_1455 dX12_walker_40 ?_
          refine w_callV (as := [vI (-1000003)]) (rest := []) (c_X12_finding l G cy ad (d + 2) (-1000003) Mz hIz (by first | decide | (unfold vF; omega) | (unfold vRw; omega))) kV_X12_finding (by decide +kernel) (Nat.le_of_ble_eq_true rfl) m_1434 rfl rfl rfl ic_12 rfl rfl (by decide) (Nat.le_of_ble_eq_true rfl) dX12_walker_42 (fun r99_ M100_ q101_ => ?_)
          obtain ⟨hI103_, hF104_, h102_, hs106_⟩ := q101_
          have hF105_ := hFz.tr hF104_ (fun c k => (fun h => h.elim (fun h => (Or.inr (Or.inl ⟨h.1, h.2⟩))) (fun h => h.elim)))
          simp only [li_m1000003] at h102_
          exact w_iret rfl dX12_walker_45 ⟨hI103_, hF105_, trivial, (Or.inl ⟨hs5_, h4_, (Or.inl ⟨hs11_, h10_, (Or.inl ⟨hs17_, h16_, r19_, hs23_, h22_, (Or.inr ⟨h24_, M100_, hI103_, hF104_, r99_, hs106_, h102_, rfl, rfl⟩)⟩)⟩)⟩)⟩
      · refine w_if_ne (tgt := 31) dX12_walker_21 (by decide) li_0 (fun h9 => (absurd h9 (by decide))) (fun h107_ => ?_)
        refine w_aload_n dX12_walker_24 rfl 0 rfl ?_
        refine w_ldc (v := (-1000001)) m_1433 dX12_walker_25 ?_
        refine w_callV (as := [vI (-1000001)]) (rest := []) (c_X12_finding l G cy ad (d + 2) (-1000001) Mz hIz (by first | decide | (unfold vF; omega) | (unfold vRw; omega))) kV_X12_finding (by decide +kernel) (Nat.le_of_ble_eq_true rfl) m_1434 rfl rfl rfl ic_12 rfl rfl (by decide) (Nat.le_of_ble_eq_true rfl) dX12_walker_27 (fun r108_ M109_ q110_ => ?_)
        obtain ⟨hI112_, hF113_, h111_, hs115_⟩ := q110_
        have hF114_ := hFz.tr hF113_ (fun c k => (fun h => h.elim (fun h => (Or.inr (Or.inl ⟨h.1, h.2⟩))) (fun h => h.elim)))
        simp only [li_m1000001] at h111_
        exact w_iret rfl dX12_walker_30 ⟨hI112_, hF114_, trivial, (Or.inl ⟨hs5_, h4_, (Or.inl ⟨hs11_, h10_, (Or.inr ⟨hs17_, h16_, M109_, hI112_, hF113_, r108_, hs115_, h111_, rfl, rfl⟩)⟩)⟩)⟩
    · refine w_if_eq (tgt := 24) dX12_walker_14 (by decide) li_0 (fun h116_ => ?_) (fun h9 => (absurd h9 (by decide)))
      refine w_aload_n dX12_walker_24 rfl 0 rfl ?_
      refine w_ldc (v := (-1000001)) m_1433 dX12_walker_25 ?_
      refine w_callV (as := [vI (-1000001)]) (rest := []) (c_X12_finding l G cy ad (d + 2) (-1000001) Mz hIz (by first | decide | (unfold vF; omega) | (unfold vRw; omega))) kV_X12_finding (by decide +kernel) (Nat.le_of_ble_eq_true rfl) m_1434 rfl rfl rfl ic_12 rfl rfl (by decide) (Nat.le_of_ble_eq_true rfl) dX12_walker_27 (fun r117_ M118_ q119_ => ?_)
      obtain ⟨hI121_, hF122_, h120_, hs124_⟩ := q119_
      have hF123_ := hFz.tr hF122_ (fun c k => (fun h => h.elim (fun h => (Or.inr (Or.inl ⟨h.1, h.2⟩))) (fun h => h.elim)))
      simp only [li_m1000001] at h120_
      exact w_iret rfl dX12_walker_30 ⟨hI121_, hF123_, trivial, (Or.inl ⟨hs5_, h4_, (Or.inr ⟨hs11_, h10_, M118_, hI121_, hF122_, r117_, hs124_, h120_, rfl, rfl⟩)⟩)⟩
  · simp only [li_0, li_7] at h4_
    refine w_if_eq (tgt := 24) dX12_walker_7 (by decide) li_0 (fun h125_ => ?_) (fun h9 => (absurd h9 (by decide)))
    refine w_aload_n dX12_walker_24 rfl 0 rfl ?_
    refine w_ldc (v := (-1000001)) m_1433 dX12_walker_25 ?_
    refine w_callV (as := [vI (-1000001)]) (rest := []) (c_X12_finding l G cy ad (d + 2) (-1000001) Mz hIz (by first | decide | (unfold vF; omega) | (unfold vRw; omega))) kV_X12_finding (by decide +kernel) (Nat.le_of_ble_eq_true rfl) m_1434 rfl rfl rfl ic_12 rfl rfl (by decide) (Nat.le_of_ble_eq_true rfl) dX12_walker_27 (fun r126_ M127_ q128_ => ?_)
    obtain ⟨hI130_, hF131_, h129_, hs133_⟩ := q128_
    have hF132_ := hFz.tr hF131_ (fun c k => (fun h => h.elim (fun h => (Or.inr (Or.inl ⟨h.1, h.2⟩))) (fun h => h.elim)))
    simp only [li_m1000001] at h129_
    exact w_iret rfl dX12_walker_30 ⟨hI130_, hF132_, trivial, (Or.inr ⟨hs5_, h4_, M127_, hI130_, hF131_, r126_, hs133_, h129_, rfl, rfl⟩)⟩
def SP_reach0 (Mz : mM) (r_ : Int32) : Prop := r_ = 3
theorem lf_c_reach0_0    : (3 : Int32).toInt = 3 := by have r9 := li_3; omega
set_option maxHeartbeats 4000000 in
set_option maxRecDepth 100000 in
theorem c_reach0 (l : Launch) (G : va_G) (cy : Nat → ClassId) (ad : rf → Nat) (d : Nat) (Mz : mM) (hIz : InvD Mz) : WP DD l G cy ad yX12_reachOf cX12_reachOf 1 (some .int) d 0 [(0, vI 0)] [] Mz (fun r M' => Mz = M' ∧ (r.toInt = 3) ∧ SP_reach0 Mz r) := by
  refine w_iload_n dX12_reachOf_0 rfl 0 rfl ?_
  refine w_tsIn (tgt := 44) (off := 43) dX12_reachOf_1 li_0 (by decide) (by decide) rfl (by decide) ?_
  refine w_iconst (v := 3) dX12_reachOf_44 (by decide) ?_
  exact w_iret rfl dX12_reachOf_45 ⟨rfl, (lf_c_reach0_0 ), rfl⟩
def SP_reach1 (Mz : mM) (r_ : Int32) : Prop := ∃ r1_ : Int32, (SP_reach0 Mz r1_) ∧ (r1_.toInt = 3) ∧ ∃ z6_ : Int32, (z6_.toInt = 4 * r1_.toInt) ∧ r_ = z6_
theorem lf_c_reach1_0  (r1_ : Int32) (h4_ : r1_.toInt = 3) : -2147483648 ≤ 4 * r1_.toInt ∧ 4 * r1_.toInt < 2147483648 := by have r_r1_ := rngI r1_; omega
theorem lf_c_reach1_1  (r1_ : Int32) (z6_ : Int32) (h4_ : r1_.toInt = 3) (h7_ : z6_.toInt = 4 * r1_.toInt) : z6_.toInt = 12 := by have r_r1_ := rngI r1_; have r_z6_ := rngI z6_; omega
set_option maxHeartbeats 4000000 in
set_option maxRecDepth 100000 in
theorem c_reach1 (l : Launch) (G : va_G) (cy : Nat → ClassId) (ad : rf → Nat) (d : Nat) (Mz : mM) (hIz : InvD Mz) : WP DD l G cy ad yX12_reachOf cX12_reachOf 1 (some .int) (d + 1) 0 [(0, vI 1)] [] Mz (fun r M' => Mz = M' ∧ (r.toInt = 12) ∧ SP_reach1 Mz r) := by
  refine w_iload_n dX12_reachOf_0 rfl 0 rfl ?_
  refine w_tsIn (tgt := 46) (off := 45) dX12_reachOf_1 li_1 (by decide) (by decide) rfl (by decide) ?_
  refine w_iconst (v := 4) dX12_reachOf_46 (by decide) ?_
  refine w_iconst (v := 0) dX12_reachOf_47 (by decide) ?_
  refine w_callS (as := [vI 0]) (rest := [vI 4]) (c_reach0 l G cy ad d Mz hIz) kS_X12_reachOf (by decide +kernel) (Nat.le_of_ble_eq_true rfl) m_1521 rfl rfl (by decide) (Nat.le_of_ble_eq_true rfl) dX12_reachOf_48 (fun r1_ M2_ q3_ => ?_)
  obtain ⟨rfl, h4_, hs5_⟩ := q3_
  refine w_imulB dX12_reachOf_51 li_4 (rfl : r1_.toInt = r1_.toInt) (lf_c_reach1_0 r1_ h4_) (fun z6_ h7_ => ?_)
  exact w_iret rfl dX12_reachOf_52 ⟨rfl, (lf_c_reach1_1 r1_ z6_ h4_ h7_), ⟨r1_, hs5_, h4_, z6_, h7_, rfl⟩⟩
def SP_reach3 (Mz : mM) (r_ : Int32) : Prop := ∃ r1_ : Int32, (SP_reach0 Mz r1_) ∧ (r1_.toInt = 3) ∧ ∃ z6_ : Int32, (z6_.toInt = 2 * r1_.toInt) ∧ r_ = z6_
theorem lf_c_reach3_0  (r1_ : Int32) (h4_ : r1_.toInt = 3) : -2147483648 ≤ 2 * r1_.toInt ∧ 2 * r1_.toInt < 2147483648 := by have r_r1_ := rngI r1_; omega
theorem lf_c_reach3_1  (r1_ : Int32) (z6_ : Int32) (h4_ : r1_.toInt = 3) (h7_ : z6_.toInt = 2 * r1_.toInt) : z6_.toInt = 6 := by have r_r1_ := rngI r1_; have r_z6_ := rngI z6_; omega
set_option maxHeartbeats 4000000 in
set_option maxRecDepth 100000 in
theorem c_reach3 (l : Launch) (G : va_G) (cy : Nat → ClassId) (ad : rf → Nat) (d : Nat) (Mz : mM) (hIz : InvD Mz) : WP DD l G cy ad yX12_reachOf cX12_reachOf 1 (some .int) (d + 1) 0 [(0, vI 3)] [] Mz (fun r M' => Mz = M' ∧ (r.toInt = 6) ∧ SP_reach3 Mz r) := by
  refine w_iload_n dX12_reachOf_0 rfl 0 rfl ?_
  refine w_tsIn (tgt := 55) (off := 54) dX12_reachOf_1 li_3 (by decide) (by decide) rfl (by decide) ?_
  refine w_iconst (v := 2) dX12_reachOf_55 (by decide) ?_
  refine w_iconst (v := 0) dX12_reachOf_56 (by decide) ?_
  refine w_callS (as := [vI 0]) (rest := [vI 2]) (c_reach0 l G cy ad d Mz hIz) kS_X12_reachOf (by decide +kernel) (Nat.le_of_ble_eq_true rfl) m_1521 rfl rfl (by decide) (Nat.le_of_ble_eq_true rfl) dX12_reachOf_57 (fun r1_ M2_ q3_ => ?_)
  obtain ⟨rfl, h4_, hs5_⟩ := q3_
  refine w_imulB dX12_reachOf_60 li_2 (rfl : r1_.toInt = r1_.toInt) (lf_c_reach3_0 r1_ h4_) (fun z6_ h7_ => ?_)
  exact w_iret rfl dX12_reachOf_61 ⟨rfl, (lf_c_reach3_1 r1_ z6_ h4_ h7_), ⟨r1_, hs5_, h4_, z6_, h7_, rfl⟩⟩
def SP_X12_reachOf (v : Int32) (Mz : mM) (r_ : Int32) : Prop := (((v.toInt = 0) ∧ r_ = 3) ∨ ((v.toInt = 1) ∧ ∃ r2_ : Int32, (SP_reach0 Mz r2_) ∧ (r2_.toInt = 3) ∧ ∃ z7_ : Int32, (z7_.toInt = 4 * r2_.toInt) ∧ r_ = z7_) ∨ ((v.toInt = 2) ∧ r_ = 1) ∨ ((v.toInt = 3) ∧ ∃ r9_ : Int32, (SP_reach0 Mz r9_) ∧ (r9_.toInt = 3) ∧ ∃ z14_ : Int32, (z14_.toInt = 2 * r9_.toInt) ∧ r_ = z14_) ∨ ((v.toInt = 4) ∧ r_ = 0) ∨ ((v.toInt = 5) ∧ ∃ r16_ : Int32, (SP_reach1 Mz r16_) ∧ (r16_.toInt = 12) ∧ ∃ z21_ : Int32, (z21_.toInt = r16_.toInt / 2) ∧ r_ = z21_) ∨ ((v.toInt = 6) ∧ ∃ r23_ : Int32, (SP_reach3 Mz r23_) ∧ (r23_.toInt = 6) ∧ ∃ z28_ : Int32, (z28_.toInt = r23_.toInt - 1) ∧ r_ = z28_) ∨ (((¬ v.toInt = 0 ∧ ¬ v.toInt = 1 ∧ ¬ v.toInt = 2 ∧ ¬ v.toInt = 3 ∧ ¬ v.toInt = 4 ∧ ¬ v.toInt = 5 ∧ ¬ v.toInt = 6)) ∧ ∃ r30_ : Int32, (SP_reach1 Mz r30_) ∧ (r30_.toInt = 12) ∧ ∃ z35_ : Int32, (z35_.toInt = r30_.toInt - 2) ∧ r_ = z35_))
theorem lf_c_X12_reachOf_0  (v : Int32)  : v.toInt = 0 ∨ v.toInt = 1 ∨ v.toInt = 2 ∨ v.toInt = 3 ∨ v.toInt = 4 ∨ v.toInt = 5 ∨ v.toInt = 6 ∨ (¬ v.toInt = 0 ∧ ¬ v.toInt = 1 ∧ ¬ v.toInt = 2 ∧ ¬ v.toInt = 3 ∧ ¬ v.toInt = 4 ∧ ¬ v.toInt = 5 ∧ ¬ v.toInt = 6) := by have r_v := rngI v; omega
theorem lf_c_X12_reachOf_1    : 0 ≤ (3 : Int32).toInt ∧ (3 : Int32).toInt ≤ 12 := by have r9 := li_3; omega
theorem lf_c_X12_reachOf_2  (r2_ : Int32) (h5_ : r2_.toInt = 3) : -2147483648 ≤ 4 * r2_.toInt ∧ 4 * r2_.toInt < 2147483648 := by have r_r2_ := rngI r2_; omega
theorem lf_c_X12_reachOf_3  (r2_ : Int32) (z7_ : Int32) (h5_ : r2_.toInt = 3) (h8_ : z7_.toInt = 4 * r2_.toInt) : 0 ≤ z7_.toInt ∧ z7_.toInt ≤ 12 := by have r_r2_ := rngI r2_; have r_z7_ := rngI z7_; omega
theorem lf_c_X12_reachOf_4    : 0 ≤ (1 : Int32).toInt ∧ (1 : Int32).toInt ≤ 12 := by have r9 := li_1; omega
theorem lf_c_X12_reachOf_5  (r9_ : Int32) (h12_ : r9_.toInt = 3) : -2147483648 ≤ 2 * r9_.toInt ∧ 2 * r9_.toInt < 2147483648 := by have r_r9_ := rngI r9_; omega
theorem lf_c_X12_reachOf_6  (r9_ : Int32) (z14_ : Int32) (h12_ : r9_.toInt = 3) (h15_ : z14_.toInt = 2 * r9_.toInt) : 0 ≤ z14_.toInt ∧ z14_.toInt ≤ 12 := by have r_r9_ := rngI r9_; have r_z14_ := rngI z14_; omega
theorem lf_c_X12_reachOf_7    : 0 ≤ (0 : Int32).toInt ∧ (0 : Int32).toInt ≤ 12 := by have r9 := li_0; omega
theorem lf_c_X12_reachOf_8  (r16_ : Int32) (h19_ : r16_.toInt = 12) : 0 ≤ r16_.toInt := by have r_r16_ := rngI r16_; omega
theorem lf_c_X12_reachOf_9  (r16_ : Int32) (z21_ : Int32) (h19_ : r16_.toInt = 12) (h22_ : z21_.toInt = r16_.toInt / 2) : 0 ≤ z21_.toInt ∧ z21_.toInt ≤ 12 := by have r_r16_ := rngI r16_; have r_z21_ := rngI z21_; omega
theorem lf_c_X12_reachOf_10  (r23_ : Int32) (h26_ : r23_.toInt = 6) : -2147483648 ≤ r23_.toInt - 1 ∧ r23_.toInt - 1 < 2147483648 := by have r_r23_ := rngI r23_; omega
theorem lf_c_X12_reachOf_11  (r23_ : Int32) (z28_ : Int32) (h26_ : r23_.toInt = 6) (h29_ : z28_.toInt = r23_.toInt - 1) : 0 ≤ z28_.toInt ∧ z28_.toInt ≤ 12 := by have r_r23_ := rngI r23_; have r_z28_ := rngI z28_; omega
theorem lf_c_X12_reachOf_12  (v : Int32) (e1_ : (¬ v.toInt = 0 ∧ ¬ v.toInt = 1 ∧ ¬ v.toInt = 2 ∧ ¬ v.toInt = 3 ∧ ¬ v.toInt = 4 ∧ ¬ v.toInt = 5 ∧ ¬ v.toInt = 6)) : v.toInt < 0 ∨ 6 < v.toInt := by have r_v := rngI v; omega
theorem lf_c_X12_reachOf_13  (r30_ : Int32) (h33_ : r30_.toInt = 12) : -2147483648 ≤ r30_.toInt - 2 ∧ r30_.toInt - 2 < 2147483648 := by have r_r30_ := rngI r30_; omega
theorem lf_c_X12_reachOf_14  (r30_ : Int32) (z35_ : Int32) (h33_ : r30_.toInt = 12) (h36_ : z35_.toInt = r30_.toInt - 2) : 0 ≤ z35_.toInt ∧ z35_.toInt ≤ 12 := by have r_r30_ := rngI r30_; have r_z35_ := rngI z35_; omega
set_option maxHeartbeats 4000000 in
set_option maxRecDepth 100000 in
theorem c_X12_reachOf (l : Launch) (G : va_G) (cy : Nat → ClassId) (ad : rf → Nat) (d : Nat) (v : Int32) (Mz : mM) (hIz : InvD Mz) : WP DD l G cy ad yX12_reachOf cX12_reachOf 1 (some .int) (d + 2) 0 [(0, vI v)] [] Mz (fun r M' => Mz = M' ∧ (0 ≤ r.toInt ∧ r.toInt ≤ 12) ∧ SP_X12_reachOf v Mz r) := by
  refine w_iload_n dX12_reachOf_0 rfl 0 rfl ?_
  rcases (lf_c_X12_reachOf_0 v) with e1_ | e1_ | e1_ | e1_ | e1_ | e1_ | e1_ | e1_
  · refine w_tsIn (tgt := 44) (off := 43) dX12_reachOf_1 e1_ (by decide) (by decide) rfl (by decide) ?_
    refine w_iconst (v := 3) dX12_reachOf_44 (by decide) ?_
    exact w_iret rfl dX12_reachOf_45 ⟨rfl, (lf_c_X12_reachOf_1 ), (Or.inl ⟨e1_, rfl⟩)⟩
  · refine w_tsIn (tgt := 46) (off := 45) dX12_reachOf_1 e1_ (by decide) (by decide) rfl (by decide) ?_
    refine w_iconst (v := 4) dX12_reachOf_46 (by decide) ?_
    refine w_iconst (v := 0) dX12_reachOf_47 (by decide) ?_
    refine w_callS (as := [vI 0]) (rest := [vI 4]) (c_reach0 l G cy ad (d + 1) Mz hIz) kS_X12_reachOf (by decide +kernel) (Nat.le_of_ble_eq_true rfl) m_1521 rfl rfl (by decide) (Nat.le_of_ble_eq_true rfl) dX12_reachOf_48 (fun r2_ M3_ q4_ => ?_)
    obtain ⟨rfl, h5_, hs6_⟩ := q4_
    refine w_imulB dX12_reachOf_51 li_4 (rfl : r2_.toInt = r2_.toInt) (lf_c_X12_reachOf_2 r2_ h5_) (fun z7_ h8_ => ?_)
    exact w_iret rfl dX12_reachOf_52 ⟨rfl, (lf_c_X12_reachOf_3 r2_ z7_ h5_ h8_), (Or.inr (Or.inl ⟨e1_, r2_, hs6_, h5_, z7_, h8_, rfl⟩))⟩
  · refine w_tsIn (tgt := 53) (off := 52) dX12_reachOf_1 e1_ (by decide) (by decide) rfl (by decide) ?_
    refine w_iconst (v := 1) dX12_reachOf_53 (by decide) ?_
    exact w_iret rfl dX12_reachOf_54 ⟨rfl, (lf_c_X12_reachOf_4 ), (Or.inr (Or.inr (Or.inl ⟨e1_, rfl⟩)))⟩
  · refine w_tsIn (tgt := 55) (off := 54) dX12_reachOf_1 e1_ (by decide) (by decide) rfl (by decide) ?_
    refine w_iconst (v := 2) dX12_reachOf_55 (by decide) ?_
    refine w_iconst (v := 0) dX12_reachOf_56 (by decide) ?_
    refine w_callS (as := [vI 0]) (rest := [vI 2]) (c_reach0 l G cy ad (d + 1) Mz hIz) kS_X12_reachOf (by decide +kernel) (Nat.le_of_ble_eq_true rfl) m_1521 rfl rfl (by decide) (Nat.le_of_ble_eq_true rfl) dX12_reachOf_57 (fun r9_ M10_ q11_ => ?_)
    obtain ⟨rfl, h12_, hs13_⟩ := q11_
    refine w_imulB dX12_reachOf_60 li_2 (rfl : r9_.toInt = r9_.toInt) (lf_c_X12_reachOf_5 r9_ h12_) (fun z14_ h15_ => ?_)
    exact w_iret rfl dX12_reachOf_61 ⟨rfl, (lf_c_X12_reachOf_6 r9_ z14_ h12_ h15_), (Or.inr (Or.inr (Or.inr (Or.inl ⟨e1_, r9_, hs13_, h12_, z14_, h15_, rfl⟩))))⟩
  · refine w_tsIn (tgt := 62) (off := 61) dX12_reachOf_1 e1_ (by decide) (by decide) rfl (by decide) ?_
    refine w_iconst (v := 0) dX12_reachOf_62 (by decide) ?_
    exact w_iret rfl dX12_reachOf_63 ⟨rfl, (lf_c_X12_reachOf_7 ), (Or.inr (Or.inr (Or.inr (Or.inr (Or.inl ⟨e1_, rfl⟩)))))⟩
  · refine w_tsIn (tgt := 64) (off := 63) dX12_reachOf_1 e1_ (by decide) (by decide) rfl (by decide) ?_
    refine w_iconst (v := 1) dX12_reachOf_64 (by decide) ?_
    refine w_callS (as := [vI 1]) (rest := []) (c_reach1 l G cy ad d Mz hIz) kS_X12_reachOf (by decide +kernel) (Nat.le_of_ble_eq_true rfl) m_1521 rfl rfl (by decide) (Nat.le_of_ble_eq_true rfl) dX12_reachOf_65 (fun r16_ M17_ q18_ => ?_)
    obtain ⟨rfl, h19_, hs20_⟩ := q18_
    refine w_iconst (v := 2) dX12_reachOf_68 (by decide) ?_
    refine w_idivB dX12_reachOf_69 (by decide) (rfl : r16_.toInt = r16_.toInt) li_2 (lf_c_X12_reachOf_8 r16_ h19_) (by decide) (fun z21_ h22_ => ?_)
    exact w_iret rfl dX12_reachOf_70 ⟨rfl, (lf_c_X12_reachOf_9 r16_ z21_ h19_ h22_), (Or.inr (Or.inr (Or.inr (Or.inr (Or.inr (Or.inl ⟨e1_, r16_, hs20_, h19_, z21_, h22_, rfl⟩))))))⟩
  · refine w_tsIn (tgt := 71) (off := 70) dX12_reachOf_1 e1_ (by decide) (by decide) rfl (by decide) ?_
    refine w_iconst (v := 3) dX12_reachOf_71 (by decide) ?_
    refine w_callS (as := [vI 3]) (rest := []) (c_reach3 l G cy ad d Mz hIz) kS_X12_reachOf (by decide +kernel) (Nat.le_of_ble_eq_true rfl) m_1521 rfl rfl (by decide) (Nat.le_of_ble_eq_true rfl) dX12_reachOf_72 (fun r23_ M24_ q25_ => ?_)
    obtain ⟨rfl, h26_, hs27_⟩ := q25_
    refine w_iconst (v := 1) dX12_reachOf_75 (by decide) ?_
    refine w_isubB dX12_reachOf_76 (rfl : r23_.toInt = r23_.toInt) li_1 (lf_c_X12_reachOf_10 r23_ h26_) (fun z28_ h29_ => ?_)
    exact w_iret rfl dX12_reachOf_77 ⟨rfl, (lf_c_X12_reachOf_11 r23_ z28_ h26_ h29_), (Or.inr (Or.inr (Or.inr (Or.inr (Or.inr (Or.inr (Or.inl ⟨e1_, r23_, hs27_, h26_, z28_, h29_, rfl⟩)))))))⟩
  · refine w_tsOut (tgt := 78) dX12_reachOf_1 rfl (lf_c_X12_reachOf_12 v e1_) (by decide) ?_
    refine w_iconst (v := 1) dX12_reachOf_78 (by decide) ?_
    refine w_callS (as := [vI 1]) (rest := []) (c_reach1 l G cy ad d Mz hIz) kS_X12_reachOf (by decide +kernel) (Nat.le_of_ble_eq_true rfl) m_1521 rfl rfl (by decide) (Nat.le_of_ble_eq_true rfl) dX12_reachOf_79 (fun r30_ M31_ q32_ => ?_)
    obtain ⟨rfl, h33_, hs34_⟩ := q32_
    refine w_iconst (v := 2) dX12_reachOf_82 (by decide) ?_
    refine w_isubB dX12_reachOf_83 (rfl : r30_.toInt = r30_.toInt) li_2 (lf_c_X12_reachOf_13 r30_ h33_) (fun z35_ h36_ => ?_)
    exact w_iret rfl dX12_reachOf_84 ⟨rfl, (lf_c_X12_reachOf_14 r30_ z35_ h33_ h36_), (Or.inr (Or.inr (Or.inr (Or.inr (Or.inr (Or.inr (Or.inr ⟨e1_, r30_, hs34_, h33_, z35_, h36_, rfl⟩)))))))⟩
def ST_X12_isUnder_2 (u : Int32) (Mz : mM) (v2_2 : Int32) (v2_2y : Int32) : Prop := (0 ≤ v2_2.toInt) ∧ (¬ v2_2.toInt = u.toInt) ∧ ∃ r6_ : Int32, (SP_X12_above v2_2 Mz r6_) ∧ (-1 ≤ r6_.toInt ∧ r6_.toInt ≤ 3 ∧ (0 ≤ v2_2.toInt → r6_.toInt < v2_2.toInt)) ∧ v2_2y = r6_
def SP_X12_isUnder (v : Int32) (u : Int32) (Mz : mM) (r_ : Int32) : Prop := ∃ v2_2 : Int32, (RCH (fun x_ y_ => ST_X12_isUnder_2 u Mz x_ y_) v v2_2) ∧ (((v2_2.toInt < 0) ∧ (v2_2.toInt < 0) ∧ r_ = 0) ∨ ((0 ≤ v2_2.toInt) ∧ (v2_2.toInt = u.toInt) ∧ (0 ≤ v2_2.toInt) ∧ r_ = 1))
theorem lf_c_X12_isUnder_0  (v2_2 : Int32) (h2_ : v2_2.toInt < 0) (h9 : 0 ≤ v2_2.toInt) : False := by have r_v2_2 := rngI v2_2; omega
theorem lf_c_X12_isUnder_1  (u : Int32) (v2_2 : Int32) (h2_ : 0 ≤ v2_2.toInt) (h4_ : v2_2.toInt = u.toInt) (h9 : v2_2.toInt < 0) : False := by have r_u := rngI u; have r_v2_2 := rngI v2_2; omega
theorem lf_c_X12_isUnder_2  (u : Int32) (v2_2 : Int32) (r6_ : Int32) (h2_ : 0 ≤ v2_2.toInt) (h4_ : ¬ v2_2.toInt = u.toInt) (h9_ : -1 ≤ r6_.toInt ∧ r6_.toInt ≤ 3 ∧ (0 ≤ v2_2.toInt → r6_.toInt < v2_2.toInt)) : (r6_.toInt + 1).toNat < (v2_2.toInt + 1).toNat := by have r_u := rngI u; have r_v2_2 := rngI v2_2; have r_r6_ := rngI r6_; omega
set_option maxHeartbeats 4000000 in
set_option maxRecDepth 100000 in
theorem c_X12_isUnder (l : Launch) (G : va_G) (cy : Nat → ClassId) (ad : rf → Nat) (d : Nat) (v : Int32) (u : Int32) (Mz : mM) (hIz : InvD Mz) : WP DD l G cy ad yX12_isUnder cX12_isUnder 3 (some .boolean) (d + 1) 0 [(0, vI v), (1, vI u)] [] Mz (fun r M' => Mz = M' ∧ ((0 ≤ r.toInt ∧ r.toInt ≤ 1)) ∧ SP_X12_isUnder v u Mz r) := by
  refine w_iload_n dX12_isUnder_0 rfl 0 rfl ?_
  refine w_istore_n (ls' := [(2, vI v), (0, vI v), (1, vI u)]) dX12_isUnder_1 rfl (by decide) rfl ?_
  have lp1_ : ∀ (nn_2 : Nat) (v2_2 : Int32) (hL_2 : RCH (fun x_ y_ => ST_X12_isUnder_2 u Mz x_ y_) v v2_2), (v2_2.toInt + 1).toNat < nn_2 → WP DD l G cy ad yX12_isUnder cX12_isUnder 3 (some .boolean) (d + 1) 2 [(2, vI v2_2), (0, vI v), (1, vI u)] [] Mz (fun r M' => Mz = M' ∧ ((0 ≤ r.toInt ∧ r.toInt ≤ 1)) ∧ SP_X12_isUnder v u Mz r) := by
    intro nn_2
    induction nn_2 with
    | zero => intro v2_2 hL_2 hm_2; exact absurd hm_2 (Nat.not_lt_zero _)
    | succ nn_2 ih_2 =>
      intro v2_2 hL_2 hm_2
      refine w_iload_n dX12_isUnder_2 rfl 0 rfl ?_
      refine w_if_lt (tgt := 19) dX12_isUnder_3 (by decide) (rfl : v2_2.toInt = v2_2.toInt) (fun h2_ => ?_) (fun h2_ => ?_)
      · refine w_iload_n dX12_isUnder_19 rfl 0 rfl ?_
        refine w_if_lt (tgt := 27) dX12_isUnder_20 (by decide) (rfl : v2_2.toInt = v2_2.toInt) (fun h3_ => ?_) (fun h9 => (lf_c_X12_isUnder_0 v2_2 h2_ h9).elim)
        refine w_iconst (v := 0) dX12_isUnder_27 (by decide) ?_
        exact w_zret rfl dX12_isUnder_28 ⟨by decide, by decide⟩ ⟨rfl, ⟨by decide, by decide⟩, ⟨v2_2, hL_2, (Or.inl ⟨h2_, h3_, rfl⟩)⟩⟩
      · refine w_iload_n dX12_isUnder_6 rfl 0 rfl ?_
        refine w_iload_n dX12_isUnder_7 rfl 2 rfl ?_
        refine w_icmp_eq (tgt := 19) dX12_isUnder_8 (by decide) (rfl : v2_2.toInt = v2_2.toInt) (rfl : u.toInt = u.toInt) (fun h4_ => ?_) (fun h4_ => ?_)
        · refine w_iload_n dX12_isUnder_19 rfl 0 rfl ?_
          refine w_if_lt (tgt := 27) dX12_isUnder_20 (by decide) (rfl : v2_2.toInt = v2_2.toInt) (fun h9 => (lf_c_X12_isUnder_1 u v2_2 h2_ h4_ h9).elim) (fun h5_ => ?_)
          refine w_iconst (v := 1) dX12_isUnder_23 (by decide) ?_
          refine w_goto (tgt := 28) dX12_isUnder_24 (by decide) ?_
          exact w_zret rfl dX12_isUnder_28 ⟨by decide, by decide⟩ ⟨rfl, ⟨by decide, by decide⟩, ⟨v2_2, hL_2, (Or.inr ⟨h2_, h4_, h5_, rfl⟩)⟩⟩
        · refine w_iload_n dX12_isUnder_11 rfl 0 rfl ?_
          refine w_callS (as := [vI v2_2]) (rest := []) (c_X12_above l G cy ad d v2_2 Mz hIz) kS_X12_above (by decide +kernel) (Nat.le_of_ble_eq_true rfl) m_1535 rfl rfl (by decide) (Nat.le_of_ble_eq_true rfl) dX12_isUnder_12 (fun r6_ M7_ q8_ => ?_)
          obtain ⟨rfl, h9_, hs10_⟩ := q8_
          refine w_istore_n (ls' := [(2, vI r6_), (0, vI v), (1, vI u)]) dX12_isUnder_15 rfl (by decide) rfl ?_
          refine w_goto (tgt := 2) dX12_isUnder_16 (by decide) ?_
          refine w_loc (ls' := [(2, vI r6_), (0, vI v), (1, vI u)]) [0, 1, 2] rfl ?_
          exact ih_2 r6_ (RCH.tail hL_2 ⟨h2_, h4_, r6_, hs10_, h9_, rfl⟩) (Nat.lt_of_lt_of_le (lf_c_X12_isUnder_2 u v2_2 r6_ h2_ h4_ h9_) (Nat.le_of_lt_succ hm_2))
  exact lp1_ _ v RCH.refl (Nat.lt_succ_self _)
def SP_X12_kindOf (v : Int32) (Mz : mM) (r_ : Int32) : Prop := ∃ r1_ : Int32, (SP_X12_goer v Mz r1_) ∧ (r1_.toInt = 180 + 9 * v.toInt) ∧ ∃ z6_ : Int32, (z6_.toInt = r1_.toInt + 0) ∧ ∃ j10_ : Nat, ((j10_ : Int) = z6_.toInt) ∧ ∃ z8_ : Int32, (z8_ = Mz.1 (50, 0, 0) j10_) ∧ (0 ≤ z8_.toInt ∧ z8_.toInt ≤ 7) ∧ r_ = z8_
theorem lf_c_X12_kindOf_0  (v : Int32) (r1_ : Int32) (hv : 0 ≤ v.toInt ∧ v.toInt ≤ 7) (h4_ : r1_.toInt = 180 + 9 * v.toInt) : -2147483648 ≤ r1_.toInt + 0 ∧ r1_.toInt + 0 < 2147483648 := by have r_v := rngI v; have r_r1_ := rngI r1_; omega
theorem lf_c_X12_kindOf_1  (v : Int32) (r1_ : Int32) (z6_ : Int32) (hv : 0 ≤ v.toInt ∧ v.toInt ≤ 7) (h4_ : r1_.toInt = 180 + 9 * v.toInt) (h7_ : z6_.toInt = r1_.toInt + 0) : 0 ≤ z6_.toInt ∧ z6_.toInt < ((3567 : Nat) : Int) := by have r_v := rngI v; have r_r1_ := rngI r1_; have r_z6_ := rngI z6_; omega
theorem lf_c_X12_kindOf_2 (Mz : mM) (v : Int32) (r1_ : Int32) (z6_ : Int32) (j10_ : Nat) (z8_ : Int32) (hv : 0 ≤ v.toInt ∧ v.toInt ≤ 7) (h4_ : r1_.toInt = 180 + 9 * v.toInt) (h7_ : z6_.toInt = r1_.toInt + 0) (h11_ : (j10_ : Int) = z6_.toInt) (e9_ : z8_ = Mz.1 (50, 0, 0) j10_) : 180 ≤ j10_ ∧ j10_ < 252 ∧ j10_ % 9 = 0 := by have r_v := rngI v; have r_r1_ := rngI r1_; have r_z6_ := rngI z6_; have r_z8_ := rngI z8_; subst e9_; omega
set_option maxHeartbeats 4000000 in
set_option maxRecDepth 100000 in
theorem c_X12_kindOf (l : Launch) (G : va_G) (cy : Nat → ClassId) (ad : rf → Nat) (d : Nat) (v : Int32) (Mz : mM) (hIz : InvD Mz) (hv : 0 ≤ v.toInt ∧ v.toInt ≤ 7) : WP DD l G cy ad yX12_kindOf cX12_kindOf 2 (some .int) (d + 1) 0 [(0, vR (12, 0, 0)), (1, vI v)] [] Mz (fun r M' => Mz = M' ∧ (0 ≤ r.toInt ∧ r.toInt ≤ 7) ∧ SP_X12_kindOf v Mz r) := by
  refine w_aload_n dX12_kindOf_0 rfl 0 rfl ?_
  refine w_getR (c' := (50, 0, 0)) fl_RX12_9 rfl rfl ic_12 dX12_kindOf_1 rfl ?_
  refine w_aload_n dX12_kindOf_4 rfl 0 rfl ?_
  refine w_iload_n dX12_kindOf_5 rfl 1 rfl ?_
  refine w_callV (as := [vI v]) (rest := [vR (50, 0, 0)]) (c_X12_goer l G cy ad d v Mz hIz hv) kV_X12_goer (by decide +kernel) (Nat.le_of_ble_eq_true rfl) m_1451 rfl rfl rfl ic_12 rfl rfl (by decide) (Nat.le_of_ble_eq_true rfl) dX12_kindOf_6 (fun r1_ M2_ q3_ => ?_)
  obtain ⟨rfl, h4_, hs5_⟩ := q3_
  refine w_iconst (v := 0) dX12_kindOf_9 (by decide) ?_
  refine w_iaddB dX12_kindOf_10 (rfl : r1_.toInt = r1_.toInt) li_0 (lf_c_X12_kindOf_0 v r1_ hv h4_) (fun z6_ h7_ => ?_)
  refine w_iald rfl rfl ic_50 (rfl : z6_.toInt = z6_.toInt) (lf_c_X12_kindOf_1 v r1_ z6_ hv h4_ h7_) dX12_kindOf_11 (fun j10_ h11_ z8_ e9_ => ?_)
  have h12_ : 0 ≤ z8_.toInt ∧ z8_.toInt ≤ 7 := pn_wk hIz e9_ (lf_c_X12_kindOf_2 Mz v r1_ z6_ j10_ z8_ hv h4_ h7_ h11_ e9_)
  exact w_iret rfl dX12_kindOf_12 ⟨rfl, h12_, ⟨r1_, hs5_, h4_, z6_, h7_, j10_, h11_, z8_, e9_, h12_, rfl⟩⟩
def SP_X12_reach (v : Int32) (Mz : mM) (r_ : Int32) : Prop := ∃ r1_ : Int32, (SP_X12_kindOf v Mz r1_) ∧ (0 ≤ r1_.toInt ∧ r1_.toInt ≤ 7) ∧ ∃ r6_ : Int32, (SP_X12_reachOf r1_ Mz r6_) ∧ (0 ≤ r6_.toInt ∧ r6_.toInt ≤ 12) ∧ r_ = r6_
set_option maxHeartbeats 4000000 in
set_option maxRecDepth 100000 in
theorem c_X12_reach (l : Launch) (G : va_G) (cy : Nat → ClassId) (ad : rf → Nat) (d : Nat) (v : Int32) (Mz : mM) (hIz : InvD Mz) (hv : 0 ≤ v.toInt ∧ v.toInt ≤ 7) : WP DD l G cy ad yX12_reach cX12_reach 2 (some .int) (d + 3) 0 [(0, vR (12, 0, 0)), (1, vI v)] [] Mz (fun r M' => Mz = M' ∧ (0 ≤ r.toInt ∧ r.toInt ≤ 12) ∧ SP_X12_reach v Mz r) := by
  refine w_aload_n dX12_reach_0 rfl 0 rfl ?_
  refine w_iload_n dX12_reach_1 rfl 1 rfl ?_
  refine w_callV (as := [vI v]) (rest := []) (c_X12_kindOf l G cy ad (d + 1) v Mz hIz hv) kV_X12_kindOf (by decide +kernel) (Nat.le_of_ble_eq_true rfl) m_1517 rfl rfl rfl ic_12 rfl rfl (by decide) (Nat.le_of_ble_eq_true rfl) dX12_reach_2 (fun r1_ M2_ q3_ => ?_)
  obtain ⟨rfl, h4_, hs5_⟩ := q3_
  refine w_callS (as := [vI r1_]) (rest := []) (c_X12_reachOf l G cy ad d r1_ Mz hIz) kS_X12_reachOf (by decide +kernel) (Nat.le_of_ble_eq_true rfl) m_1521 rfl rfl (by decide) (Nat.le_of_ble_eq_true rfl) dX12_reach_5 (fun r6_ M7_ q8_ => ?_)
  obtain ⟨rfl, h9_, hs10_⟩ := q8_
  exact w_iret rfl dX12_reach_8 ⟨rfl, h9_, ⟨r1_, hs5_, h4_, r6_, hs10_, h9_, rfl⟩⟩
def SP_X12_ears (v : Int32) (Mz : mM) (r_ : Int32) : Prop := ∃ r1_ : Int32, (SP_X12_kindOf v Mz r1_) ∧ (0 ≤ r1_.toInt ∧ r1_.toInt ≤ 7) ∧ (((¬ r1_.toInt = 6) ∧ r_ = 9) ∨ ((r1_.toInt = 6) ∧ r_ = 5))
theorem lf_c_X12_ears_0    : 0 ≤ (9 : Int32).toInt ∧ (9 : Int32).toInt ≤ 9 := by have r9 := li_9; omega
theorem lf_c_X12_ears_1    : 0 ≤ (5 : Int32).toInt ∧ (5 : Int32).toInt ≤ 9 := by have r9 := li_5; omega
set_option maxHeartbeats 4000000 in
set_option maxRecDepth 100000 in
theorem c_X12_ears (l : Launch) (G : va_G) (cy : Nat → ClassId) (ad : rf → Nat) (d : Nat) (v : Int32) (Mz : mM) (hIz : InvD Mz) (hv : 0 ≤ v.toInt ∧ v.toInt ≤ 7) : WP DD l G cy ad yX12_ears cX12_ears 2 (some .int) (d + 2) 0 [(0, vR (12, 0, 0)), (1, vI v)] [] Mz (fun r M' => Mz = M' ∧ (0 ≤ r.toInt ∧ r.toInt ≤ 9) ∧ SP_X12_ears v Mz r) := by
  refine w_aload_n dX12_ears_0 rfl 0 rfl ?_
  refine w_iload_n dX12_ears_1 rfl 1 rfl ?_
  refine w_callV (as := [vI v]) (rest := []) (c_X12_kindOf l G cy ad d v Mz hIz hv) kV_X12_kindOf (by decide +kernel) (Nat.le_of_ble_eq_true rfl) m_1517 rfl rfl rfl ic_12 rfl rfl (by decide) (Nat.le_of_ble_eq_true rfl) dX12_ears_2 (fun r1_ M2_ q3_ => ?_)
  obtain ⟨rfl, h4_, hs5_⟩ := q3_
  refine w_bipush (v := 6) dX12_ears_5 (by decide) ?_
  refine w_icmp_ne (tgt := 14) dX12_ears_7 (by decide) (rfl : r1_.toInt = r1_.toInt) li_6 (fun h6_ => ?_) (fun h6_ => ?_)
  · refine w_bipush (v := 9) dX12_ears_14 (by decide) ?_
    exact w_iret rfl dX12_ears_16 ⟨rfl, (lf_c_X12_ears_0 ), ⟨r1_, hs5_, h4_, (Or.inl ⟨h6_, rfl⟩)⟩⟩
  · refine w_iconst (v := 5) dX12_ears_10 (by decide) ?_
    refine w_goto (tgt := 16) dX12_ears_11 (by decide) ?_
    exact w_iret rfl dX12_ears_16 ⟨rfl, (lf_c_X12_ears_1 ), ⟨r1_, hs5_, h4_, (Or.inr ⟨h6_, rfl⟩)⟩⟩
def S_c_X12_walkerIs : rf → Nat → Prop := fun c k => (c.1 = 53 ∧ c.2.1 = 0) ∨ False
def SP_X12_walkerIs (v : Int32) (u : Int32) (Mz : mM) (r_ : Int32) (M_ : mM) : Prop := (((SP_is2 v Mz (1 : Int32)) ∧ (0 ≤ v.toInt ∧ v.toInt ≤ 7) ∧ (((SP_X12_within u 0 11 Mz (1 : Int32)) ∧ (0 ≤ u.toInt ∧ u.toInt ≤ 11) ∧ (((9 ≤ u.toInt) ∧ (((¬ u.toInt = 9) ∧ (((¬ u.toInt = 11) ∧ ∃ r16_ : Int32, (SP_X12_kindOf v Mz r16_) ∧ (0 ≤ r16_.toInt ∧ r16_.toInt ≤ 7) ∧ (((¬ r16_.toInt = 7) ∧ r_ = 1 ∧ M_ = Mz) ∨ ((r16_.toInt = 7) ∧ r_ = 2 ∧ M_ = Mz))) ∨ ((u.toInt = 11) ∧ ∃ r22_ : Int32, (SP_X12_ears v Mz r22_) ∧ (0 ≤ r22_.toInt ∧ r22_.toInt ≤ 9) ∧ r_ = r22_ ∧ M_ = Mz))) ∨ ((u.toInt = 9) ∧ ∃ r27_ : Int32, (SP_X12_reach v Mz r27_) ∧ (0 ≤ r27_.toInt ∧ r27_.toInt ≤ 12) ∧ r_ = r27_ ∧ M_ = Mz))) ∨ ((u.toInt < 9) ∧ ∃ r32_ : Int32, (SP_X12_goer v Mz r32_) ∧ (r32_.toInt = 180 + 9 * v.toInt) ∧ ∃ z37_ : Int32, (z37_.toInt = r32_.toInt + u.toInt) ∧ ∃ j41_ : Nat, ((j41_ : Int) = z37_.toInt) ∧ ∃ z39_ : Int32, (z39_ = Mz.1 (50, 0, 0) j41_) ∧ r_ = z39_ ∧ M_ = Mz))) ∨ ((SP_X12_within u 0 11 Mz (0 : Int32)) ∧ (¬ (0 ≤ u.toInt ∧ u.toInt ≤ 11)) ∧ ∃ M45_ : mM, (InvD M45_) ∧ (FR (S_c_X12_finding) Mz M45_) ∧ ∃ r44_ : Int32, (SP_X12_finding (-1000001) Mz r44_ M45_) ∧ (r44_.toInt = (-1000001)) ∧ r_ = r44_ ∧ M_ = M45_))) ∨ ((SP_is2 v Mz (0 : Int32)) ∧ ∃ M54_ : mM, (InvD M54_) ∧ (FR (S_c_X12_finding) Mz M54_) ∧ ∃ r53_ : Int32, (SP_X12_finding (-1000001) Mz r53_ M54_) ∧ (r53_.toInt = (-1000001)) ∧ r_ = r53_ ∧ M_ = M54_))
theorem lf_c_X12_walkerIs_0  (v : Int32) (u : Int32) (r32_ : Int32) (h4_ : 0 ≤ v.toInt ∧ v.toInt ≤ 7) (h10_ : 0 ≤ u.toInt ∧ u.toInt ≤ 11) (h13_ : u.toInt < 9) (h35_ : r32_.toInt = 180 + 9 * v.toInt) : -2147483648 ≤ r32_.toInt + u.toInt ∧ r32_.toInt + u.toInt < 2147483648 := by have r_v := rngI v; have r_u := rngI u; have r_r32_ := rngI r32_; omega
theorem lf_c_X12_walkerIs_1  (v : Int32) (u : Int32) (r32_ : Int32) (z37_ : Int32) (h4_ : 0 ≤ v.toInt ∧ v.toInt ≤ 7) (h10_ : 0 ≤ u.toInt ∧ u.toInt ≤ 11) (h13_ : u.toInt < 9) (h35_ : r32_.toInt = 180 + 9 * v.toInt) (h38_ : z37_.toInt = r32_.toInt + u.toInt) : 0 ≤ z37_.toInt ∧ z37_.toInt < ((3567 : Nat) : Int) := by have r_v := rngI v; have r_u := rngI u; have r_r32_ := rngI r32_; have r_z37_ := rngI z37_; omega
set_option maxHeartbeats 4000000 in
set_option maxRecDepth 100000 in
theorem c_X12_walkerIs (l : Launch) (G : va_G) (cy : Nat → ClassId) (ad : rf → Nat) (d : Nat) (v : Int32) (u : Int32) (Mz : mM) (hIz : InvD Mz) : WP DD l G cy ad yX12_walkerIs cX12_walkerIs 3 (some .int) (d + 4) 0 [(0, vR (12, 0, 0)), (1, vI v), (2, vI u)] [] Mz (fun r M' => InvD M' ∧ FR (S_c_X12_walkerIs) Mz M' ∧ (True) ∧ SP_X12_walkerIs v u Mz r M') := by
  have hFz : FR (S_c_X12_walkerIs) Mz Mz := FR.self
  refine w_aload_n dX12_walkerIs_0 rfl 0 rfl ?_
  refine w_iload_n dX12_walkerIs_1 rfl 1 rfl ?_
  refine w_iconst (v := 2) dX12_walkerIs_2 (by decide) ?_
  refine w_callV (as := [vI v, vI 2]) (rest := []) (c_is2 l G cy ad (d + 2) v Mz hIz) kV_X12_is (by decide +kernel) (Nat.le_of_ble_eq_true rfl) m_1465 rfl rfl rfl ic_12 rfl rfl (by decide) (Nat.le_of_ble_eq_true rfl) dX12_walkerIs_3 (fun r1_ M2_ q3_ => ?_)
  obtain ⟨rfl, h4_, hs5_⟩ := q3_
  rcases h4_ with ⟨rfl, h4_⟩ | rfl
  · refine w_if_eq (tgt := 19) dX12_walkerIs_6 (by decide) li_1 (fun h9 => (absurd h9 (by decide))) (fun h6_ => ?_)
    refine w_iload_n dX12_walkerIs_9 rfl 2 rfl ?_
    refine w_iconst (v := 0) dX12_walkerIs_10 (by decide) ?_
    refine w_bipush (v := 11) dX12_walkerIs_11 (by decide) ?_
    refine w_callS (as := [vI u, vI 0, vI 11]) (rest := []) (c_X12_within l G cy ad (d + 3) u 0 11 Mz hIz) kS_X12_within (by decide +kernel) (Nat.le_of_ble_eq_true rfl) m_1427 rfl rfl (by decide) (Nat.le_of_ble_eq_true rfl) dX12_walkerIs_13 (fun r7_ M8_ q9_ => ?_)
    obtain ⟨rfl, h10_, hs11_⟩ := q9_
    rcases h10_ with ⟨rfl, h10_⟩ | ⟨rfl, h10_⟩
    · simp only [li_0, li_11] at h10_
      refine w_if_ne (tgt := 26) dX12_walkerIs_16 (by decide) li_1 (fun h12_ => ?_) (fun h9 => (absurd h9 (by decide)))
      refine w_iload_n dX12_walkerIs_26 rfl 2 rfl ?_
      refine w_bipush (v := 9) dX12_walkerIs_27 (by decide) ?_
      refine w_icmp_ge (tgt := 47) dX12_walkerIs_29 (by decide) (rfl : u.toInt = u.toInt) li_9 (fun h13_ => ?_) (fun h13_ => ?_)
      · refine w_iload_n dX12_walkerIs_47 rfl 2 rfl ?_
        refine w_bipush (v := 9) dX12_walkerIs_48 (by decide) ?_
        refine w_icmp_ne (tgt := 61) dX12_walkerIs_50 (by decide) (rfl : u.toInt = u.toInt) li_9 (fun h14_ => ?_) (fun h14_ => ?_)
        · refine w_iload_n dX12_walkerIs_61 rfl 2 rfl ?_
          refine w_bipush (v := 11) dX12_walkerIs_62 (by decide) ?_
          refine w_icmp_ne (tgt := 75) dX12_walkerIs_64 (by decide) (rfl : u.toInt = u.toInt) li_11 (fun h15_ => ?_) (fun h15_ => ?_)
          · refine w_aload_n dX12_walkerIs_75 rfl 0 rfl ?_
            refine w_iload_n dX12_walkerIs_76 rfl 1 rfl ?_
            refine w_callV (as := [vI v]) (rest := []) (c_X12_kindOf l G cy ad (d + 2) v Mz hIz h4_) kV_X12_kindOf (by decide +kernel) (Nat.le_of_ble_eq_true rfl) m_1517 rfl rfl rfl ic_12 rfl rfl (by decide) (Nat.le_of_ble_eq_true rfl) dX12_walkerIs_77 (fun r16_ M17_ q18_ => ?_)
            obtain ⟨rfl, h19_, hs20_⟩ := q18_
            refine w_bipush (v := 7) dX12_walkerIs_80 (by decide) ?_
            refine w_icmp_ne (tgt := 89) dX12_walkerIs_82 (by decide) (rfl : r16_.toInt = r16_.toInt) li_7 (fun h21_ => ?_) (fun h21_ => ?_)
            · refine w_iconst (v := 1) dX12_walkerIs_89 (by decide) ?_
              exact w_iret rfl dX12_walkerIs_90 ⟨hIz, hFz, trivial, (Or.inl ⟨hs5_, h4_, (Or.inl ⟨hs11_, h10_, (Or.inl ⟨h13_, (Or.inl ⟨h14_, (Or.inl ⟨h15_, r16_, hs20_, h19_, (Or.inl ⟨h21_, rfl, rfl⟩)⟩)⟩)⟩)⟩)⟩)⟩
            · refine w_iconst (v := 2) dX12_walkerIs_85 (by decide) ?_
              refine w_goto (tgt := 90) dX12_walkerIs_86 (by decide) ?_
              exact w_iret rfl dX12_walkerIs_90 ⟨hIz, hFz, trivial, (Or.inl ⟨hs5_, h4_, (Or.inl ⟨hs11_, h10_, (Or.inl ⟨h13_, (Or.inl ⟨h14_, (Or.inl ⟨h15_, r16_, hs20_, h19_, (Or.inr ⟨h21_, rfl, rfl⟩)⟩)⟩)⟩)⟩)⟩)⟩
          · refine w_aload_n dX12_walkerIs_67 rfl 0 rfl ?_
            refine w_iload_n dX12_walkerIs_68 rfl 1 rfl ?_
            refine w_callV (as := [vI v]) (rest := []) (c_X12_ears l G cy ad (d + 1) v Mz hIz h4_) kV_X12_ears (by decide +kernel) (Nat.le_of_ble_eq_true rfl) m_1524 rfl rfl rfl ic_12 rfl rfl (by decide) (Nat.le_of_ble_eq_true rfl) dX12_walkerIs_69 (fun r22_ M23_ q24_ => ?_)
            obtain ⟨rfl, h25_, hs26_⟩ := q24_
            refine w_goto (tgt := 90) dX12_walkerIs_72 (by decide) ?_
            exact w_iret rfl dX12_walkerIs_90 ⟨hIz, hFz, trivial, (Or.inl ⟨hs5_, h4_, (Or.inl ⟨hs11_, h10_, (Or.inl ⟨h13_, (Or.inl ⟨h14_, (Or.inr ⟨h15_, r22_, hs26_, h25_, rfl, rfl⟩)⟩)⟩)⟩)⟩)⟩
        · refine w_aload_n dX12_walkerIs_53 rfl 0 rfl ?_
          refine w_iload_n dX12_walkerIs_54 rfl 1 rfl ?_
          refine w_callV (as := [vI v]) (rest := []) (c_X12_reach l G cy ad d v Mz hIz h4_) kV_X12_reach (by decide +kernel) (Nat.le_of_ble_eq_true rfl) m_1513 rfl rfl rfl ic_12 rfl rfl (by decide) (Nat.le_of_ble_eq_true rfl) dX12_walkerIs_55 (fun r27_ M28_ q29_ => ?_)
          obtain ⟨rfl, h30_, hs31_⟩ := q29_
          refine w_goto (tgt := 90) dX12_walkerIs_58 (by decide) ?_
          exact w_iret rfl dX12_walkerIs_90 ⟨hIz, hFz, trivial, (Or.inl ⟨hs5_, h4_, (Or.inl ⟨hs11_, h10_, (Or.inl ⟨h13_, (Or.inr ⟨h14_, r27_, hs31_, h30_, rfl, rfl⟩)⟩)⟩)⟩)⟩
      · refine w_aload_n dX12_walkerIs_32 rfl 0 rfl ?_
        refine w_getR (c' := (50, 0, 0)) fl_RX12_9 rfl rfl ic_12 dX12_walkerIs_33 rfl ?_
        refine w_aload_n dX12_walkerIs_36 rfl 0 rfl ?_
        refine w_iload_n dX12_walkerIs_37 rfl 1 rfl ?_
        refine w_callV (as := [vI v]) (rest := [vR (50, 0, 0)]) (c_X12_goer l G cy ad (d + 3) v Mz hIz h4_) kV_X12_goer (by decide +kernel) (Nat.le_of_ble_eq_true rfl) m_1451 rfl rfl rfl ic_12 rfl rfl (by decide) (Nat.le_of_ble_eq_true rfl) dX12_walkerIs_38 (fun r32_ M33_ q34_ => ?_)
        obtain ⟨rfl, h35_, hs36_⟩ := q34_
        refine w_iload_n dX12_walkerIs_41 rfl 2 rfl ?_
        refine w_iaddB dX12_walkerIs_42 (rfl : r32_.toInt = r32_.toInt) (rfl : u.toInt = u.toInt) (lf_c_X12_walkerIs_0 v u r32_ h4_ h10_ h13_ h35_) (fun z37_ h38_ => ?_)
        refine w_iald rfl rfl ic_50 (rfl : z37_.toInt = z37_.toInt) (lf_c_X12_walkerIs_1 v u r32_ z37_ h4_ h10_ h13_ h35_ h38_) dX12_walkerIs_43 (fun j41_ h42_ z39_ e40_ => ?_)
        refine w_goto (tgt := 90) dX12_walkerIs_44 (by decide) ?_
        exact w_iret rfl dX12_walkerIs_90 ⟨hIz, hFz, trivial, (Or.inl ⟨hs5_, h4_, (Or.inl ⟨hs11_, h10_, (Or.inr ⟨h13_, r32_, hs36_, h35_, z37_, h38_, j41_, h42_, z39_, e40_, rfl, rfl⟩)⟩)⟩)⟩
    · simp only [li_0, li_11] at h10_
      refine w_if_ne (tgt := 26) dX12_walkerIs_16 (by decide) li_0 (fun h9 => (absurd h9 (by decide))) (fun h43_ => ?_)
      refine w_aload_n dX12_walkerIs_19 rfl 0 rfl ?_
      refine w_ldc (v := (-1000001)) m_1433 dX12_walkerIs_20 ?_
      refine w_callV (as := [vI (-1000001)]) (rest := []) (c_X12_finding l G cy ad (d + 3) (-1000001) Mz hIz (by first | decide | (unfold vF; omega) | (unfold vRw; omega))) kV_X12_finding (by decide +kernel) (Nat.le_of_ble_eq_true rfl) m_1434 rfl rfl rfl ic_12 rfl rfl (by decide) (Nat.le_of_ble_eq_true rfl) dX12_walkerIs_22 (fun r44_ M45_ q46_ => ?_)
      obtain ⟨hI48_, hF49_, h47_, hs51_⟩ := q46_
      have hF50_ := hFz.tr hF49_ (fun c k => (fun h => h.elim (fun h => (Or.inl ⟨h.1, h.2⟩)) (fun h => h.elim)))
      simp only [li_m1000001] at h47_
      exact w_iret rfl dX12_walkerIs_25 ⟨hI48_, hF50_, trivial, (Or.inl ⟨hs5_, h4_, (Or.inr ⟨hs11_, h10_, M45_, hI48_, hF49_, r44_, hs51_, h47_, rfl, rfl⟩)⟩)⟩
  · refine w_if_eq (tgt := 19) dX12_walkerIs_6 (by decide) li_0 (fun h52_ => ?_) (fun h9 => (absurd h9 (by decide)))
    refine w_aload_n dX12_walkerIs_19 rfl 0 rfl ?_
    refine w_ldc (v := (-1000001)) m_1433 dX12_walkerIs_20 ?_
    refine w_callV (as := [vI (-1000001)]) (rest := []) (c_X12_finding l G cy ad (d + 3) (-1000001) Mz hIz (by first | decide | (unfold vF; omega) | (unfold vRw; omega))) kV_X12_finding (by decide +kernel) (Nat.le_of_ble_eq_true rfl) m_1434 rfl rfl rfl ic_12 rfl rfl (by decide) (Nat.le_of_ble_eq_true rfl) dX12_walkerIs_22 (fun r53_ M54_ q55_ => ?_)
    obtain ⟨hI57_, hF58_, h56_, hs60_⟩ := q55_
    have hF59_ := hFz.tr hF58_ (fun c k => (fun h => h.elim (fun h => (Or.inl ⟨h.1, h.2⟩)) (fun h => h.elim)))
    simp only [li_m1000001] at h56_
    exact w_iret rfl dX12_walkerIs_25 ⟨hI57_, hF59_, trivial, (Or.inr ⟨hs5_, M54_, hI57_, hF58_, r53_, hs60_, h56_, rfl, rfl⟩)⟩
def S_c_X12_as : rf → Nat → Prop := fun c k => (c.1 = 53 ∧ c.2.1 = 0) ∨ False
def SP_X12_as (v : Int32) (u : Int32) (Mz : mM) (r_ : Int32) (M_ : mM) : Prop := (((SP_is2 v Mz (1 : Int32)) ∧ (0 ≤ v.toInt ∧ v.toInt ≤ 7) ∧ (((SP_X12_within u 0 7 Mz (1 : Int32)) ∧ (0 ≤ u.toInt ∧ u.toInt ≤ 7) ∧ ∃ r13_ : Int32, (SP_X12_kindOf v Mz r13_) ∧ (0 ≤ r13_.toInt ∧ r13_.toInt ≤ 7) ∧ ∃ r18_ : Int32, (SP_X12_isUnder r13_ u Mz r18_) ∧ ((0 ≤ r18_.toInt ∧ r18_.toInt ≤ 1)) ∧ (((r18_.toInt = 0) ∧ ∃ M25_ : mM, (InvD M25_) ∧ (FR (S_c_X12_finding) Mz M25_) ∧ ∃ r24_ : Int32, (SP_X12_finding (-1000005) Mz r24_ M25_) ∧ (r24_.toInt = (-1000005)) ∧ r_ = r24_ ∧ M_ = M25_) ∨ ((¬ r18_.toInt = 0) ∧ ∃ r32_ : Int32, (SP_X12_reach v Mz r32_) ∧ (0 ≤ r32_.toInt ∧ r32_.toInt ≤ 12) ∧ r_ = r32_ ∧ M_ = Mz))) ∨ ((SP_X12_within u 0 7 Mz (0 : Int32)) ∧ (¬ (0 ≤ u.toInt ∧ u.toInt ≤ 7)) ∧ ∃ M39_ : mM, (InvD M39_) ∧ (FR (S_c_X12_finding) Mz M39_) ∧ ∃ r38_ : Int32, (SP_X12_finding (-1000001) Mz r38_ M39_) ∧ (r38_.toInt = (-1000001)) ∧ r_ = r38_ ∧ M_ = M39_))) ∨ ((SP_is2 v Mz (0 : Int32)) ∧ ∃ M48_ : mM, (InvD M48_) ∧ (FR (S_c_X12_finding) Mz M48_) ∧ ∃ r47_ : Int32, (SP_X12_finding (-1000001) Mz r47_ M48_) ∧ (r47_.toInt = (-1000001)) ∧ r_ = r47_ ∧ M_ = M48_))
set_option maxHeartbeats 4000000 in
set_option maxRecDepth 100000 in
theorem c_X12_as (l : Launch) (G : va_G) (cy : Nat → ClassId) (ad : rf → Nat) (d : Nat) (v : Int32) (u : Int32) (Mz : mM) (hIz : InvD Mz) : WP DD l G cy ad yX12_as cX12_as 3 (some .int) (d + 4) 0 [(0, vR (12, 0, 0)), (1, vI v), (2, vI u)] [] Mz (fun r M' => InvD M' ∧ FR (S_c_X12_as) Mz M' ∧ (True) ∧ SP_X12_as v u Mz r M') := by
  have hFz : FR (S_c_X12_as) Mz Mz := FR.self
  refine w_aload_n dX12_as_0 rfl 0 rfl ?_
  refine w_iload_n dX12_as_1 rfl 1 rfl ?_
  refine w_iconst (v := 2) dX12_as_2 (by decide) ?_
  refine w_callV (as := [vI v, vI 2]) (rest := []) (c_is2 l G cy ad (d + 2) v Mz hIz) kV_X12_is (by decide +kernel) (Nat.le_of_ble_eq_true rfl) m_1465 rfl rfl rfl ic_12 rfl rfl (by decide) (Nat.le_of_ble_eq_true rfl) dX12_as_3 (fun r1_ M2_ q3_ => ?_)
  obtain ⟨rfl, h4_, hs5_⟩ := q3_
  rcases h4_ with ⟨rfl, h4_⟩ | rfl
  · refine w_if_eq (tgt := 19) dX12_as_6 (by decide) li_1 (fun h9 => (absurd h9 (by decide))) (fun h6_ => ?_)
    refine w_iload_n dX12_as_9 rfl 2 rfl ?_
    refine w_iconst (v := 0) dX12_as_10 (by decide) ?_
    refine w_bipush (v := 7) dX12_as_11 (by decide) ?_
    refine w_callS (as := [vI u, vI 0, vI 7]) (rest := []) (c_X12_within l G cy ad (d + 3) u 0 7 Mz hIz) kS_X12_within (by decide +kernel) (Nat.le_of_ble_eq_true rfl) m_1427 rfl rfl (by decide) (Nat.le_of_ble_eq_true rfl) dX12_as_13 (fun r7_ M8_ q9_ => ?_)
    obtain ⟨rfl, h10_, hs11_⟩ := q9_
    rcases h10_ with ⟨rfl, h10_⟩ | ⟨rfl, h10_⟩
    · simp only [li_0, li_7] at h10_
      refine w_if_ne (tgt := 26) dX12_as_16 (by decide) li_1 (fun h12_ => ?_) (fun h9 => (absurd h9 (by decide)))
      refine w_aload_n dX12_as_26 rfl 0 rfl ?_
      refine w_iload_n dX12_as_27 rfl 1 rfl ?_
      refine w_callV (as := [vI v]) (rest := []) (c_X12_kindOf l G cy ad (d + 2) v Mz hIz h4_) kV_X12_kindOf (by decide +kernel) (Nat.le_of_ble_eq_true rfl) m_1517 rfl rfl rfl ic_12 rfl rfl (by decide) (Nat.le_of_ble_eq_true rfl) dX12_as_28 (fun r13_ M14_ q15_ => ?_)
      obtain ⟨rfl, h16_, hs17_⟩ := q15_
      refine w_iload_n dX12_as_31 rfl 2 rfl ?_
      refine w_callS (as := [vI r13_, vI u]) (rest := []) (c_X12_isUnder l G cy ad (d + 2) r13_ u Mz hIz) kS_X12_isUnder (by decide +kernel) (Nat.le_of_ble_eq_true rfl) m_1532 rfl rfl (by decide) (Nat.le_of_ble_eq_true rfl) dX12_as_32 (fun r18_ M19_ q20_ => ?_)
      obtain ⟨rfl, h21_, hs22_⟩ := q20_
      refine w_if_eq (tgt := 46) dX12_as_35 (by decide) (rfl : r18_.toInt = r18_.toInt) (fun h23_ => ?_) (fun h23_ => ?_)
      · refine w_aload_n dX12_as_46 rfl 0 rfl ?_
        refine w_ldc (v := (-1000005)) m_1476 dX12_as_47 ?_
        refine w_callV (as := [vI (-1000005)]) (rest := []) (c_X12_finding l G cy ad (d + 3) (-1000005) Mz hIz (by first | decide | (unfold vF; omega) | (unfold vRw; omega))) kV_X12_finding (by decide +kernel) (Nat.le_of_ble_eq_true rfl) m_1434 rfl rfl rfl ic_12 rfl rfl (by decide) (Nat.le_of_ble_eq_true rfl) dX12_as_49 (fun r24_ M25_ q26_ => ?_)
        obtain ⟨hI28_, hF29_, h27_, hs31_⟩ := q26_
        have hF30_ := hFz.tr hF29_ (fun c k => (fun h => h.elim (fun h => (Or.inl ⟨h.1, h.2⟩)) (fun h => h.elim)))
        simp only [li_m1000005] at h27_
        exact w_iret rfl dX12_as_52 ⟨hI28_, hF30_, trivial, (Or.inl ⟨hs5_, h4_, (Or.inl ⟨hs11_, h10_, r13_, hs17_, h16_, r18_, hs22_, h21_, (Or.inl ⟨h23_, M25_, hI28_, hF29_, r24_, hs31_, h27_, rfl, rfl⟩)⟩)⟩)⟩
      · refine w_aload_n dX12_as_38 rfl 0 rfl ?_
        refine w_iload_n dX12_as_39 rfl 1 rfl ?_
        refine w_callV (as := [vI v]) (rest := []) (c_X12_reach l G cy ad d v Mz hIz h4_) kV_X12_reach (by decide +kernel) (Nat.le_of_ble_eq_true rfl) m_1513 rfl rfl rfl ic_12 rfl rfl (by decide) (Nat.le_of_ble_eq_true rfl) dX12_as_40 (fun r32_ M33_ q34_ => ?_)
        obtain ⟨rfl, h35_, hs36_⟩ := q34_
        refine w_goto (tgt := 52) dX12_as_43 (by decide) ?_
        exact w_iret rfl dX12_as_52 ⟨hIz, hFz, trivial, (Or.inl ⟨hs5_, h4_, (Or.inl ⟨hs11_, h10_, r13_, hs17_, h16_, r18_, hs22_, h21_, (Or.inr ⟨h23_, r32_, hs36_, h35_, rfl, rfl⟩)⟩)⟩)⟩
    · simp only [li_0, li_7] at h10_
      refine w_if_ne (tgt := 26) dX12_as_16 (by decide) li_0 (fun h9 => (absurd h9 (by decide))) (fun h37_ => ?_)
      refine w_aload_n dX12_as_19 rfl 0 rfl ?_
      refine w_ldc (v := (-1000001)) m_1433 dX12_as_20 ?_
      refine w_callV (as := [vI (-1000001)]) (rest := []) (c_X12_finding l G cy ad (d + 3) (-1000001) Mz hIz (by first | decide | (unfold vF; omega) | (unfold vRw; omega))) kV_X12_finding (by decide +kernel) (Nat.le_of_ble_eq_true rfl) m_1434 rfl rfl rfl ic_12 rfl rfl (by decide) (Nat.le_of_ble_eq_true rfl) dX12_as_22 (fun r38_ M39_ q40_ => ?_)
      obtain ⟨hI42_, hF43_, h41_, hs45_⟩ := q40_
      have hF44_ := hFz.tr hF43_ (fun c k => (fun h => h.elim (fun h => (Or.inl ⟨h.1, h.2⟩)) (fun h => h.elim)))
      simp only [li_m1000001] at h41_
      exact w_iret rfl dX12_as_25 ⟨hI42_, hF44_, trivial, (Or.inl ⟨hs5_, h4_, (Or.inr ⟨hs11_, h10_, M39_, hI42_, hF43_, r38_, hs45_, h41_, rfl, rfl⟩)⟩)⟩
  · refine w_if_eq (tgt := 19) dX12_as_6 (by decide) li_0 (fun h46_ => ?_) (fun h9 => (absurd h9 (by decide)))
    refine w_aload_n dX12_as_19 rfl 0 rfl ?_
    refine w_ldc (v := (-1000001)) m_1433 dX12_as_20 ?_
    refine w_callV (as := [vI (-1000001)]) (rest := []) (c_X12_finding l G cy ad (d + 3) (-1000001) Mz hIz (by first | decide | (unfold vF; omega) | (unfold vRw; omega))) kV_X12_finding (by decide +kernel) (Nat.le_of_ble_eq_true rfl) m_1434 rfl rfl rfl ic_12 rfl rfl (by decide) (Nat.le_of_ble_eq_true rfl) dX12_as_22 (fun r47_ M48_ q49_ => ?_)
    obtain ⟨hI51_, hF52_, h50_, hs54_⟩ := q49_
    have hF53_ := hFz.tr hF52_ (fun c k => (fun h => h.elim (fun h => (Or.inl ⟨h.1, h.2⟩)) (fun h => h.elim)))
    simp only [li_m1000001] at h50_
    exact w_iret rfl dX12_as_25 ⟨hI51_, hF53_, trivial, (Or.inr ⟨hs5_, M48_, hI51_, hF52_, r47_, hs54_, h50_, rfl, rfl⟩)⟩
def S_c_X12_habit : rf → Nat → Prop := fun c k => (c.1 = 50 ∧ c.2.1 = 0) ∨ (c.1 = 53 ∧ c.2.1 = 0) ∨ False
def SP_X12_habit (v : Int32) (u : Int32) (t : Int32) (s : Int32) (Mz : mM) (r_ : Int32) (M_ : mM) : Prop := (((SP_is2 v Mz (1 : Int32)) ∧ (0 ≤ v.toInt ∧ v.toInt ≤ 7) ∧ (((SP_X12_within u 1 9 Mz (1 : Int32)) ∧ (1 ≤ u.toInt ∧ u.toInt ≤ 9) ∧ (((SP_X12_within t 1 99 Mz (1 : Int32)) ∧ (1 ≤ t.toInt ∧ t.toInt ≤ 99) ∧ (((SP_X12_within s 0 30 Mz (1 : Int32)) ∧ (0 ≤ s.toInt ∧ s.toInt ≤ 30) ∧ ∃ r25_ : Int32, (SP_X12_goer v Mz r25_) ∧ (r25_.toInt = 180 + 9 * v.toInt) ∧ ∃ z30_ : Int32, (z30_.toInt = r25_.toInt + 3) ∧ ∃ j34_ : Nat, ((j34_ : Int) = z30_.toInt) ∧ ∃ M32_ : mM, (M32_ = up Mz (50, 0, 0) j34_ u) ∧ (InvD M32_) ∧ ∃ r38_ : Int32, (SP_X12_goer v M32_ r38_) ∧ (r38_.toInt = 180 + 9 * v.toInt) ∧ ∃ z43_ : Int32, (z43_.toInt = r38_.toInt + 4) ∧ ∃ j47_ : Nat, ((j47_ : Int) = z43_.toInt) ∧ ∃ M45_ : mM, (M45_ = up M32_ (50, 0, 0) j47_ t) ∧ (InvD M45_) ∧ ∃ r51_ : Int32, (SP_X12_goer v M45_ r51_) ∧ (r51_.toInt = 180 + 9 * v.toInt) ∧ ∃ z56_ : Int32, (z56_.toInt = r51_.toInt + 5) ∧ ∃ j60_ : Nat, ((j60_ : Int) = z56_.toInt) ∧ ∃ M58_ : mM, (M58_ = up M45_ (50, 0, 0) j60_ s) ∧ r_ = 1 ∧ M_ = M58_) ∨ ((SP_X12_within s 0 30 Mz (0 : Int32)) ∧ (¬ (0 ≤ s.toInt ∧ s.toInt ≤ 30)) ∧ ∃ M66_ : mM, (InvD M66_) ∧ (FR (S_c_X12_finding) Mz M66_) ∧ ∃ r65_ : Int32, (SP_X12_finding (-1000001) Mz r65_ M66_) ∧ (r65_.toInt = (-1000001)) ∧ r_ = r65_ ∧ M_ = M66_))) ∨ ((SP_X12_within t 1 99 Mz (0 : Int32)) ∧ (¬ (1 ≤ t.toInt ∧ t.toInt ≤ 99)) ∧ ∃ M75_ : mM, (InvD M75_) ∧ (FR (S_c_X12_finding) Mz M75_) ∧ ∃ r74_ : Int32, (SP_X12_finding (-1000001) Mz r74_ M75_) ∧ (r74_.toInt = (-1000001)) ∧ r_ = r74_ ∧ M_ = M75_))) ∨ ((SP_X12_within u 1 9 Mz (0 : Int32)) ∧ (¬ (1 ≤ u.toInt ∧ u.toInt ≤ 9)) ∧ ∃ M84_ : mM, (InvD M84_) ∧ (FR (S_c_X12_finding) Mz M84_) ∧ ∃ r83_ : Int32, (SP_X12_finding (-1000001) Mz r83_ M84_) ∧ (r83_.toInt = (-1000001)) ∧ r_ = r83_ ∧ M_ = M84_))) ∨ ((SP_is2 v Mz (0 : Int32)) ∧ ∃ M93_ : mM, (InvD M93_) ∧ (FR (S_c_X12_finding) Mz M93_) ∧ ∃ r92_ : Int32, (SP_X12_finding (-1000001) Mz r92_ M93_) ∧ (r92_.toInt = (-1000001)) ∧ r_ = r92_ ∧ M_ = M93_))
theorem lf_c_X12_habit_0  (v : Int32) (r25_ : Int32) (h4_ : 0 ≤ v.toInt ∧ v.toInt ≤ 7) (h28_ : r25_.toInt = 180 + 9 * v.toInt) : -2147483648 ≤ r25_.toInt + 3 ∧ r25_.toInt + 3 < 2147483648 := by have r_v := rngI v; have r_r25_ := rngI r25_; omega
theorem lf_c_X12_habit_1  (v : Int32) (r25_ : Int32) (z30_ : Int32) (h4_ : 0 ≤ v.toInt ∧ v.toInt ≤ 7) (h28_ : r25_.toInt = 180 + 9 * v.toInt) (h31_ : z30_.toInt = r25_.toInt + 3) : 0 ≤ z30_.toInt ∧ z30_.toInt < ((3567 : Nat) : Int) := by have r_v := rngI v; have r_r25_ := rngI r25_; have r_z30_ := rngI z30_; omega
theorem lf_c_X12_habit_2 (M32_ : mM) (Mz : mM) (v : Int32) (u : Int32) (r25_ : Int32) (z30_ : Int32) (j34_ : Nat) (h4_ : 0 ≤ v.toInt ∧ v.toInt ≤ 7) (h10_ : 1 ≤ u.toInt ∧ u.toInt ≤ 9) (h28_ : r25_.toInt = 180 + 9 * v.toInt) (h31_ : z30_.toInt = r25_.toInt + 3) (h35_ : (j34_ : Int) = z30_.toInt) (hM33_ : M32_ = up Mz (50, 0, 0) j34_ u) : PN j34_ u ∧ (j34_ < 345 ∨ 493 < j34_) := by have r_v := rngI v; have r_u := rngI u; have r_r25_ := rngI r25_; have r_z30_ := rngI z30_; unfold PN; omega
theorem lf_c_X12_habit_3 (M32_ : mM) (Mz : mM) (v : Int32) (u : Int32) (r25_ : Int32) (z30_ : Int32) (j34_ : Nat) (r38_ : Int32) (h4_ : 0 ≤ v.toInt ∧ v.toInt ≤ 7) (h10_ : 1 ≤ u.toInt ∧ u.toInt ≤ 9) (h28_ : r25_.toInt = 180 + 9 * v.toInt) (h31_ : z30_.toInt = r25_.toInt + 3) (h35_ : (j34_ : Int) = z30_.toInt) (hM33_ : M32_ = up Mz (50, 0, 0) j34_ u) (h41_ : r38_.toInt = 180 + 9 * v.toInt) : -2147483648 ≤ r38_.toInt + 4 ∧ r38_.toInt + 4 < 2147483648 := by have r_v := rngI v; have r_u := rngI u; have r_r25_ := rngI r25_; have r_z30_ := rngI z30_; have r_r38_ := rngI r38_; omega
theorem lf_c_X12_habit_4 (M32_ : mM) (Mz : mM) (v : Int32) (u : Int32) (r25_ : Int32) (z30_ : Int32) (j34_ : Nat) (r38_ : Int32) (z43_ : Int32) (h4_ : 0 ≤ v.toInt ∧ v.toInt ≤ 7) (h10_ : 1 ≤ u.toInt ∧ u.toInt ≤ 9) (h28_ : r25_.toInt = 180 + 9 * v.toInt) (h31_ : z30_.toInt = r25_.toInt + 3) (h35_ : (j34_ : Int) = z30_.toInt) (hM33_ : M32_ = up Mz (50, 0, 0) j34_ u) (h41_ : r38_.toInt = 180 + 9 * v.toInt) (h44_ : z43_.toInt = r38_.toInt + 4) : 0 ≤ z43_.toInt ∧ z43_.toInt < ((3567 : Nat) : Int) := by have r_v := rngI v; have r_u := rngI u; have r_r25_ := rngI r25_; have r_z30_ := rngI z30_; have r_r38_ := rngI r38_; have r_z43_ := rngI z43_; omega
theorem lf_c_X12_habit_5 (M32_ : mM) (M45_ : mM) (Mz : mM) (v : Int32) (u : Int32) (t : Int32) (r25_ : Int32) (z30_ : Int32) (j34_ : Nat) (r38_ : Int32) (z43_ : Int32) (j47_ : Nat) (h4_ : 0 ≤ v.toInt ∧ v.toInt ≤ 7) (h10_ : 1 ≤ u.toInt ∧ u.toInt ≤ 9) (h16_ : 1 ≤ t.toInt ∧ t.toInt ≤ 99) (h28_ : r25_.toInt = 180 + 9 * v.toInt) (h31_ : z30_.toInt = r25_.toInt + 3) (h35_ : (j34_ : Int) = z30_.toInt) (hM33_ : M32_ = up Mz (50, 0, 0) j34_ u) (h41_ : r38_.toInt = 180 + 9 * v.toInt) (h44_ : z43_.toInt = r38_.toInt + 4) (h48_ : (j47_ : Int) = z43_.toInt) (hM46_ : M45_ = up M32_ (50, 0, 0) j47_ t) : PN j47_ t ∧ (j47_ < 345 ∨ 493 < j47_) := by have r_v := rngI v; have r_u := rngI u; have r_t := rngI t; have r_r25_ := rngI r25_; have r_z30_ := rngI z30_; have r_r38_ := rngI r38_; have r_z43_ := rngI z43_; unfold PN; omega
theorem lf_c_X12_habit_6 (M32_ : mM) (M45_ : mM) (Mz : mM) (v : Int32) (u : Int32) (t : Int32) (r25_ : Int32) (z30_ : Int32) (j34_ : Nat) (r38_ : Int32) (z43_ : Int32) (j47_ : Nat) (r51_ : Int32) (h4_ : 0 ≤ v.toInt ∧ v.toInt ≤ 7) (h10_ : 1 ≤ u.toInt ∧ u.toInt ≤ 9) (h16_ : 1 ≤ t.toInt ∧ t.toInt ≤ 99) (h28_ : r25_.toInt = 180 + 9 * v.toInt) (h31_ : z30_.toInt = r25_.toInt + 3) (h35_ : (j34_ : Int) = z30_.toInt) (hM33_ : M32_ = up Mz (50, 0, 0) j34_ u) (h41_ : r38_.toInt = 180 + 9 * v.toInt) (h44_ : z43_.toInt = r38_.toInt + 4) (h48_ : (j47_ : Int) = z43_.toInt) (hM46_ : M45_ = up M32_ (50, 0, 0) j47_ t) (h54_ : r51_.toInt = 180 + 9 * v.toInt) : -2147483648 ≤ r51_.toInt + 5 ∧ r51_.toInt + 5 < 2147483648 := by have r_v := rngI v; have r_u := rngI u; have r_t := rngI t; have r_r25_ := rngI r25_; have r_z30_ := rngI z30_; have r_r38_ := rngI r38_; have r_z43_ := rngI z43_; have r_r51_ := rngI r51_; omega
theorem lf_c_X12_habit_7 (M32_ : mM) (M45_ : mM) (Mz : mM) (v : Int32) (u : Int32) (t : Int32) (r25_ : Int32) (z30_ : Int32) (j34_ : Nat) (r38_ : Int32) (z43_ : Int32) (j47_ : Nat) (r51_ : Int32) (z56_ : Int32) (h4_ : 0 ≤ v.toInt ∧ v.toInt ≤ 7) (h10_ : 1 ≤ u.toInt ∧ u.toInt ≤ 9) (h16_ : 1 ≤ t.toInt ∧ t.toInt ≤ 99) (h28_ : r25_.toInt = 180 + 9 * v.toInt) (h31_ : z30_.toInt = r25_.toInt + 3) (h35_ : (j34_ : Int) = z30_.toInt) (hM33_ : M32_ = up Mz (50, 0, 0) j34_ u) (h41_ : r38_.toInt = 180 + 9 * v.toInt) (h44_ : z43_.toInt = r38_.toInt + 4) (h48_ : (j47_ : Int) = z43_.toInt) (hM46_ : M45_ = up M32_ (50, 0, 0) j47_ t) (h54_ : r51_.toInt = 180 + 9 * v.toInt) (h57_ : z56_.toInt = r51_.toInt + 5) : 0 ≤ z56_.toInt ∧ z56_.toInt < ((3567 : Nat) : Int) := by have r_v := rngI v; have r_u := rngI u; have r_t := rngI t; have r_r25_ := rngI r25_; have r_z30_ := rngI z30_; have r_r38_ := rngI r38_; have r_z43_ := rngI z43_; have r_r51_ := rngI r51_; have r_z56_ := rngI z56_; omega
theorem lf_c_X12_habit_8 (M32_ : mM) (M45_ : mM) (M58_ : mM) (Mz : mM) (v : Int32) (u : Int32) (t : Int32) (s : Int32) (r25_ : Int32) (z30_ : Int32) (j34_ : Nat) (r38_ : Int32) (z43_ : Int32) (j47_ : Nat) (r51_ : Int32) (z56_ : Int32) (j60_ : Nat) (h4_ : 0 ≤ v.toInt ∧ v.toInt ≤ 7) (h10_ : 1 ≤ u.toInt ∧ u.toInt ≤ 9) (h16_ : 1 ≤ t.toInt ∧ t.toInt ≤ 99) (h22_ : 0 ≤ s.toInt ∧ s.toInt ≤ 30) (h28_ : r25_.toInt = 180 + 9 * v.toInt) (h31_ : z30_.toInt = r25_.toInt + 3) (h35_ : (j34_ : Int) = z30_.toInt) (hM33_ : M32_ = up Mz (50, 0, 0) j34_ u) (h41_ : r38_.toInt = 180 + 9 * v.toInt) (h44_ : z43_.toInt = r38_.toInt + 4) (h48_ : (j47_ : Int) = z43_.toInt) (hM46_ : M45_ = up M32_ (50, 0, 0) j47_ t) (h54_ : r51_.toInt = 180 + 9 * v.toInt) (h57_ : z56_.toInt = r51_.toInt + 5) (h61_ : (j60_ : Int) = z56_.toInt) (hM59_ : M58_ = up M45_ (50, 0, 0) j60_ s) : PN j60_ s ∧ (j60_ < 345 ∨ 493 < j60_) := by have r_v := rngI v; have r_u := rngI u; have r_t := rngI t; have r_s := rngI s; have r_r25_ := rngI r25_; have r_z30_ := rngI z30_; have r_r38_ := rngI r38_; have r_z43_ := rngI z43_; have r_r51_ := rngI r51_; have r_z56_ := rngI z56_; unfold PN; omega
set_option maxHeartbeats 4000000 in
set_option maxRecDepth 100000 in
theorem c_X12_habit (l : Launch) (G : va_G) (cy : Nat → ClassId) (ad : rf → Nat) (d : Nat) (v : Int32) (u : Int32) (t : Int32) (s : Int32) (Mz : mM) (hIz : InvD Mz) : WP DD l G cy ad yX12_habit cX12_habit 5 (some .int) (d + 2) 0 [(0, vR (12, 0, 0)), (1, vI v), (2, vI u), (3, vI t), (4, vI s)] [] Mz (fun r M' => InvD M' ∧ FR (S_c_X12_habit) Mz M' ∧ (True) ∧ SP_X12_habit v u t s Mz r M') := by
  have hFz : FR (S_c_X12_habit) Mz Mz := FR.self
  refine w_aload_n dX12_habit_0 rfl 0 rfl ?_
  refine w_iload_n dX12_habit_1 rfl 1 rfl ?_
  refine w_iconst (v := 2) dX12_habit_2 (by decide) ?_
  refine w_callV (as := [vI v, vI 2]) (rest := []) (c_is2 l G cy ad d v Mz hIz) kV_X12_is (by decide +kernel) (Nat.le_of_ble_eq_true rfl) m_1465 rfl rfl rfl ic_12 rfl rfl (by decide) (Nat.le_of_ble_eq_true rfl) dX12_habit_3 (fun r1_ M2_ q3_ => ?_)
  obtain ⟨rfl, h4_, hs5_⟩ := q3_
  rcases h4_ with ⟨rfl, h4_⟩ | rfl
  · refine w_if_eq (tgt := 40) dX12_habit_6 (by decide) li_1 (fun h9 => (absurd h9 (by decide))) (fun h6_ => ?_)
    refine w_iload_n dX12_habit_9 rfl 2 rfl ?_
    refine w_iconst (v := 1) dX12_habit_10 (by decide) ?_
    refine w_bipush (v := 9) dX12_habit_11 (by decide) ?_
    refine w_callS (as := [vI u, vI 1, vI 9]) (rest := []) (c_X12_within l G cy ad (d + 1) u 1 9 Mz hIz) kS_X12_within (by decide +kernel) (Nat.le_of_ble_eq_true rfl) m_1427 rfl rfl (by decide) (Nat.le_of_ble_eq_true rfl) dX12_habit_13 (fun r7_ M8_ q9_ => ?_)
    obtain ⟨rfl, h10_, hs11_⟩ := q9_
    rcases h10_ with ⟨rfl, h10_⟩ | ⟨rfl, h10_⟩
    · simp only [li_1, li_9] at h10_
      refine w_if_eq (tgt := 40) dX12_habit_16 (by decide) li_1 (fun h9 => (absurd h9 (by decide))) (fun h12_ => ?_)
      refine w_iload_n dX12_habit_19 rfl 3 rfl ?_
      refine w_iconst (v := 1) dX12_habit_20 (by decide) ?_
      refine w_bipush (v := 99) dX12_habit_21 (by decide) ?_
      refine w_callS (as := [vI t, vI 1, vI 99]) (rest := []) (c_X12_within l G cy ad (d + 1) t 1 99 Mz hIz) kS_X12_within (by decide +kernel) (Nat.le_of_ble_eq_true rfl) m_1427 rfl rfl (by decide) (Nat.le_of_ble_eq_true rfl) dX12_habit_23 (fun r13_ M14_ q15_ => ?_)
      obtain ⟨rfl, h16_, hs17_⟩ := q15_
      rcases h16_ with ⟨rfl, h16_⟩ | ⟨rfl, h16_⟩
      · simp only [li_1, li_99] at h16_
        refine w_if_eq (tgt := 40) dX12_habit_26 (by decide) li_1 (fun h9 => (absurd h9 (by decide))) (fun h18_ => ?_)
        refine w_iload dX12_habit_29 4 rfl ?_
        refine w_iconst (v := 0) dX12_habit_31 (by decide) ?_
        refine w_bipush (v := 30) dX12_habit_32 (by decide) ?_
        refine w_callS (as := [vI s, vI 0, vI 30]) (rest := []) (c_X12_within l G cy ad (d + 1) s 0 30 Mz hIz) kS_X12_within (by decide +kernel) (Nat.le_of_ble_eq_true rfl) m_1427 rfl rfl (by decide) (Nat.le_of_ble_eq_true rfl) dX12_habit_34 (fun r19_ M20_ q21_ => ?_)
        obtain ⟨rfl, h22_, hs23_⟩ := q21_
        rcases h22_ with ⟨rfl, h22_⟩ | ⟨rfl, h22_⟩
        · simp only [li_0, li_30] at h22_
          refine w_if_ne (tgt := 47) dX12_habit_37 (by decide) li_1 (fun h24_ => ?_) (fun h9 => (absurd h9 (by decide)))
          refine w_aload_n dX12_habit_47 rfl 0 rfl ?_
          refine w_getR (c' := (50, 0, 0)) fl_RX12_9 rfl rfl ic_12 dX12_habit_48 rfl ?_
          refine w_aload_n dX12_habit_51 rfl 0 rfl ?_
          refine w_iload_n dX12_habit_52 rfl 1 rfl ?_
          refine w_callV (as := [vI v]) (rest := [vR (50, 0, 0)]) (c_X12_goer l G cy ad (d + 1) v Mz hIz h4_) kV_X12_goer (by decide +kernel) (Nat.le_of_ble_eq_true rfl) m_1451 rfl rfl rfl ic_12 rfl rfl (by decide) (Nat.le_of_ble_eq_true rfl) dX12_habit_53 (fun r25_ M26_ q27_ => ?_)
          obtain ⟨rfl, h28_, hs29_⟩ := q27_
          refine w_iconst (v := 3) dX12_habit_56 (by decide) ?_
          refine w_iaddB dX12_habit_57 (rfl : r25_.toInt = r25_.toInt) li_3 (lf_c_X12_habit_0 v r25_ h4_ h28_) (fun z30_ h31_ => ?_)
          refine w_iload_n dX12_habit_58 rfl 2 rfl ?_
          refine w_iast DD_nd rfl rfl ic_50 (rfl : z30_.toInt = z30_.toInt) (lf_c_X12_habit_1 v r25_ z30_ h4_ h28_ h31_) dX12_habit_59 (fun j34_ h35_ M32_ hM33_ => ?_)
          have hI36_ := hIz.put50 hM33_ (lf_c_X12_habit_2 M32_ Mz v u r25_ z30_ j34_ h4_ h10_ h28_ h31_ h35_ hM33_)
          have hF37_ := hFz.put hM33_ (Or.inl ⟨rfl, rfl⟩)
          refine w_aload_n dX12_habit_60 rfl 0 rfl ?_
          refine w_getR (c' := (50, 0, 0)) fl_RX12_9 rfl rfl ic_12 dX12_habit_61 rfl ?_
          refine w_aload_n dX12_habit_64 rfl 0 rfl ?_
          refine w_iload_n dX12_habit_65 rfl 1 rfl ?_
          refine w_callV (as := [vI v]) (rest := [vR (50, 0, 0)]) (c_X12_goer l G cy ad (d + 1) v M32_ hI36_ h4_) kV_X12_goer (by decide +kernel) (Nat.le_of_ble_eq_true rfl) m_1451 rfl rfl rfl ic_12 rfl rfl (by decide) (Nat.le_of_ble_eq_true rfl) dX12_habit_66 (fun r38_ M39_ q40_ => ?_)
          obtain ⟨rfl, h41_, hs42_⟩ := q40_
          refine w_iconst (v := 4) dX12_habit_69 (by decide) ?_
          refine w_iaddB dX12_habit_70 (rfl : r38_.toInt = r38_.toInt) li_4 (lf_c_X12_habit_3 M32_ Mz v u r25_ z30_ j34_ r38_ h4_ h10_ h28_ h31_ h35_ hM33_ h41_) (fun z43_ h44_ => ?_)
          refine w_iload_n dX12_habit_71 rfl 3 rfl ?_
          refine w_iast DD_nd rfl rfl ic_50 (rfl : z43_.toInt = z43_.toInt) (lf_c_X12_habit_4 M32_ Mz v u r25_ z30_ j34_ r38_ z43_ h4_ h10_ h28_ h31_ h35_ hM33_ h41_ h44_) dX12_habit_72 (fun j47_ h48_ M45_ hM46_ => ?_)
          have hI49_ := hI36_.put50 hM46_ (lf_c_X12_habit_5 M32_ M45_ Mz v u t r25_ z30_ j34_ r38_ z43_ j47_ h4_ h10_ h16_ h28_ h31_ h35_ hM33_ h41_ h44_ h48_ hM46_)
          have hF50_ := hF37_.put hM46_ (Or.inl ⟨rfl, rfl⟩)
          refine w_aload_n dX12_habit_73 rfl 0 rfl ?_
          refine w_getR (c' := (50, 0, 0)) fl_RX12_9 rfl rfl ic_12 dX12_habit_74 rfl ?_
          refine w_aload_n dX12_habit_77 rfl 0 rfl ?_
          refine w_iload_n dX12_habit_78 rfl 1 rfl ?_
          refine w_callV (as := [vI v]) (rest := [vR (50, 0, 0)]) (c_X12_goer l G cy ad (d + 1) v M45_ hI49_ h4_) kV_X12_goer (by decide +kernel) (Nat.le_of_ble_eq_true rfl) m_1451 rfl rfl rfl ic_12 rfl rfl (by decide) (Nat.le_of_ble_eq_true rfl) dX12_habit_79 (fun r51_ M52_ q53_ => ?_)
          obtain ⟨rfl, h54_, hs55_⟩ := q53_
          refine w_iconst (v := 5) dX12_habit_82 (by decide) ?_
          refine w_iaddB dX12_habit_83 (rfl : r51_.toInt = r51_.toInt) li_5 (lf_c_X12_habit_6 M32_ M45_ Mz v u t r25_ z30_ j34_ r38_ z43_ j47_ r51_ h4_ h10_ h16_ h28_ h31_ h35_ hM33_ h41_ h44_ h48_ hM46_ h54_) (fun z56_ h57_ => ?_)
          refine w_iload dX12_habit_84 4 rfl ?_
          refine w_iast DD_nd rfl rfl ic_50 (rfl : z56_.toInt = z56_.toInt) (lf_c_X12_habit_7 M32_ M45_ Mz v u t r25_ z30_ j34_ r38_ z43_ j47_ r51_ z56_ h4_ h10_ h16_ h28_ h31_ h35_ hM33_ h41_ h44_ h48_ hM46_ h54_ h57_) dX12_habit_86 (fun j60_ h61_ M58_ hM59_ => ?_)
          have hI62_ := hI49_.put50 hM59_ (lf_c_X12_habit_8 M32_ M45_ M58_ Mz v u t s r25_ z30_ j34_ r38_ z43_ j47_ r51_ z56_ j60_ h4_ h10_ h16_ h22_ h28_ h31_ h35_ hM33_ h41_ h44_ h48_ hM46_ h54_ h57_ h61_ hM59_)
          have hF63_ := hF50_.put hM59_ (Or.inl ⟨rfl, rfl⟩)
          refine w_iconst (v := 1) dX12_habit_87 (by decide) ?_
          exact w_iret rfl dX12_habit_88 ⟨hI62_, hF63_, trivial, (Or.inl ⟨hs5_, h4_, (Or.inl ⟨hs11_, h10_, (Or.inl ⟨hs17_, h16_, (Or.inl ⟨hs23_, h22_, r25_, hs29_, h28_, z30_, h31_, j34_, h35_, M32_, hM33_, hI36_, r38_, hs42_, h41_, z43_, h44_, j47_, h48_, M45_, hM46_, hI49_, r51_, hs55_, h54_, z56_, h57_, j60_, h61_, M58_, hM59_, rfl, rfl⟩)⟩)⟩)⟩)⟩
        · simp only [li_0, li_30] at h22_
          refine w_if_ne (tgt := 47) dX12_habit_37 (by decide) li_0 (fun h9 => (absurd h9 (by decide))) (fun h64_ => ?_)
          refine w_aload_n dX12_habit_40 rfl 0 rfl ?_
          refine w_ldc (v := (-1000001)) m_1433 dX12_habit_41 ?_
          refine w_callV (as := [vI (-1000001)]) (rest := []) (c_X12_finding l G cy ad (d + 1) (-1000001) Mz hIz (by first | decide | (unfold vF; omega) | (unfold vRw; omega))) kV_X12_finding (by decide +kernel) (Nat.le_of_ble_eq_true rfl) m_1434 rfl rfl rfl ic_12 rfl rfl (by decide) (Nat.le_of_ble_eq_true rfl) dX12_habit_43 (fun r65_ M66_ q67_ => ?_)
          obtain ⟨hI69_, hF70_, h68_, hs72_⟩ := q67_
          have hF71_ := hFz.tr hF70_ (fun c k => (fun h => h.elim (fun h => (Or.inr (Or.inl ⟨h.1, h.2⟩))) (fun h => h.elim)))
          simp only [li_m1000001] at h68_
          exact w_iret rfl dX12_habit_46 ⟨hI69_, hF71_, trivial, (Or.inl ⟨hs5_, h4_, (Or.inl ⟨hs11_, h10_, (Or.inl ⟨hs17_, h16_, (Or.inr ⟨hs23_, h22_, M66_, hI69_, hF70_, r65_, hs72_, h68_, rfl, rfl⟩)⟩)⟩)⟩)⟩
      · simp only [li_1, li_99] at h16_
        refine w_if_eq (tgt := 40) dX12_habit_26 (by decide) li_0 (fun h73_ => ?_) (fun h9 => (absurd h9 (by decide)))
        refine w_aload_n dX12_habit_40 rfl 0 rfl ?_
        refine w_ldc (v := (-1000001)) m_1433 dX12_habit_41 ?_
        refine w_callV (as := [vI (-1000001)]) (rest := []) (c_X12_finding l G cy ad (d + 1) (-1000001) Mz hIz (by first | decide | (unfold vF; omega) | (unfold vRw; omega))) kV_X12_finding (by decide +kernel) (Nat.le_of_ble_eq_true rfl) m_1434 rfl rfl rfl ic_12 rfl rfl (by decide) (Nat.le_of_ble_eq_true rfl) dX12_habit_43 (fun r74_ M75_ q76_ => ?_)
        obtain ⟨hI78_, hF79_, h77_, hs81_⟩ := q76_
        have hF80_ := hFz.tr hF79_ (fun c k => (fun h => h.elim (fun h => (Or.inr (Or.inl ⟨h.1, h.2⟩))) (fun h => h.elim)))
        simp only [li_m1000001] at h77_
        exact w_iret rfl dX12_habit_46 ⟨hI78_, hF80_, trivial, (Or.inl ⟨hs5_, h4_, (Or.inl ⟨hs11_, h10_, (Or.inr ⟨hs17_, h16_, M75_, hI78_, hF79_, r74_, hs81_, h77_, rfl, rfl⟩)⟩)⟩)⟩
    · simp only [li_1, li_9] at h10_
      refine w_if_eq (tgt := 40) dX12_habit_16 (by decide) li_0 (fun h82_ => ?_) (fun h9 => (absurd h9 (by decide)))
      refine w_aload_n dX12_habit_40 rfl 0 rfl ?_
      refine w_ldc (v := (-1000001)) m_1433 dX12_habit_41 ?_
      refine w_callV (as := [vI (-1000001)]) (rest := []) (c_X12_finding l G cy ad (d + 1) (-1000001) Mz hIz (by first | decide | (unfold vF; omega) | (unfold vRw; omega))) kV_X12_finding (by decide +kernel) (Nat.le_of_ble_eq_true rfl) m_1434 rfl rfl rfl ic_12 rfl rfl (by decide) (Nat.le_of_ble_eq_true rfl) dX12_habit_43 (fun r83_ M84_ q85_ => ?_)
      obtain ⟨hI87_, hF88_, h86_, hs90_⟩ := q85_
      have hF89_ := hFz.tr hF88_ (fun c k => (fun h => h.elim (fun h => (Or.inr (Or.inl ⟨h.1, h.2⟩))) (fun h => h.elim)))
      simp only [li_m1000001] at h86_
      exact w_iret rfl dX12_habit_46 ⟨hI87_, hF89_, trivial, (Or.inl ⟨hs5_, h4_, (Or.inr ⟨hs11_, h10_, M84_, hI87_, hF88_, r83_, hs90_, h86_, rfl, rfl⟩)⟩)⟩
  · refine w_if_eq (tgt := 40) dX12_habit_6 (by decide) li_0 (fun h91_ => ?_) (fun h9 => (absurd h9 (by decide)))
    refine w_aload_n dX12_habit_40 rfl 0 rfl ?_
    refine w_ldc (v := (-1000001)) m_1433 dX12_habit_41 ?_
    refine w_callV (as := [vI (-1000001)]) (rest := []) (c_X12_finding l G cy ad (d + 1) (-1000001) Mz hIz (by first | decide | (unfold vF; omega) | (unfold vRw; omega))) kV_X12_finding (by decide +kernel) (Nat.le_of_ble_eq_true rfl) m_1434 rfl rfl rfl ic_12 rfl rfl (by decide) (Nat.le_of_ble_eq_true rfl) dX12_habit_43 (fun r92_ M93_ q94_ => ?_)
    obtain ⟨hI96_, hF97_, h95_, hs99_⟩ := q94_
    have hF98_ := hFz.tr hF97_ (fun c k => (fun h => h.elim (fun h => (Or.inr (Or.inl ⟨h.1, h.2⟩))) (fun h => h.elim)))
    simp only [li_m1000001] at h95_
    exact w_iret rfl dX12_habit_46 ⟨hI96_, hF98_, trivial, (Or.inr ⟨hs5_, M93_, hI96_, hF97_, r92_, hs99_, h95_, rfl, rfl⟩)⟩
def S_c_X12_face : rf → Nat → Prop := fun c k => (c.1 = 50 ∧ c.2.1 = 0) ∨ (c.1 = 53 ∧ c.2.1 = 0) ∨ False
def SP_X12_face (v : Int32) (u : Int32) (Mz : mM) (r_ : Int32) (M_ : mM) : Prop := (((SP_is2 v Mz (1 : Int32)) ∧ (0 ≤ v.toInt ∧ v.toInt ≤ 7) ∧ (((SP_X12_isSide u Mz (1 : Int32)) ∧ (0 ≤ u.toInt ∧ u.toInt ≤ 7) ∧ ∃ r13_ : Int32, (SP_X12_goer v Mz r13_) ∧ (r13_.toInt = 180 + 9 * v.toInt) ∧ ∃ z18_ : Int32, (z18_.toInt = r13_.toInt + 2) ∧ ∃ M21_ : mM, (InvD M21_) ∧ (FR (S_c_X12_become) Mz M21_) ∧ ∃ r20_ : Int32, (SP_X12_become z18_ u Mz r20_ M21_) ∧ r_ = r20_ ∧ M_ = M21_) ∨ ((SP_X12_isSide u Mz (0 : Int32)) ∧ (¬ (0 ≤ u.toInt ∧ u.toInt ≤ 7)) ∧ ∃ M30_ : mM, (InvD M30_) ∧ (FR (S_c_X12_finding) Mz M30_) ∧ ∃ r29_ : Int32, (SP_X12_finding (-1000001) Mz r29_ M30_) ∧ (r29_.toInt = (-1000001)) ∧ r_ = r29_ ∧ M_ = M30_))) ∨ ((SP_is2 v Mz (0 : Int32)) ∧ ∃ M39_ : mM, (InvD M39_) ∧ (FR (S_c_X12_finding) Mz M39_) ∧ ∃ r38_ : Int32, (SP_X12_finding (-1000001) Mz r38_ M39_) ∧ (r38_.toInt = (-1000001)) ∧ r_ = r38_ ∧ M_ = M39_))
theorem lf_c_X12_face_0  (v : Int32) (r13_ : Int32) (h4_ : 0 ≤ v.toInt ∧ v.toInt ≤ 7) (h16_ : r13_.toInt = 180 + 9 * v.toInt) : -2147483648 ≤ r13_.toInt + 2 ∧ r13_.toInt + 2 < 2147483648 := by have r_v := rngI v; have r_r13_ := rngI r13_; omega
theorem lf_c_X12_face_1  (v : Int32) (u : Int32) (r13_ : Int32) (z18_ : Int32) (h4_ : 0 ≤ v.toInt ∧ v.toInt ≤ 7) (h10_ : 0 ≤ u.toInt ∧ u.toInt ≤ 7) (h16_ : r13_.toInt = 180 + 9 * v.toInt) (h19_ : z18_.toInt = r13_.toInt + 2) : PN z18_.toInt.toNat u ∧ (z18_.toInt.toNat < 345 ∨ 493 < z18_.toInt.toNat) := by have r_v := rngI v; have r_u := rngI u; have r_r13_ := rngI r13_; have r_z18_ := rngI z18_; unfold PN; omega
theorem lf_c_X12_face_2  (v : Int32) (r13_ : Int32) (z18_ : Int32) (h4_ : 0 ≤ v.toInt ∧ v.toInt ≤ 7) (h16_ : r13_.toInt = 180 + 9 * v.toInt) (h19_ : z18_.toInt = r13_.toInt + 2) : 0 ≤ z18_.toInt ∧ z18_.toInt ≤ 3566 := by have r_v := rngI v; have r_r13_ := rngI r13_; have r_z18_ := rngI z18_; omega
set_option maxHeartbeats 4000000 in
set_option maxRecDepth 100000 in
theorem c_X12_face (l : Launch) (G : va_G) (cy : Nat → ClassId) (ad : rf → Nat) (d : Nat) (v : Int32) (u : Int32) (Mz : mM) (hIz : InvD Mz) : WP DD l G cy ad yX12_face cX12_face 3 (some .int) (d + 2) 0 [(0, vR (12, 0, 0)), (1, vI v), (2, vI u)] [] Mz (fun r M' => InvD M' ∧ FR (S_c_X12_face) Mz M' ∧ (True) ∧ SP_X12_face v u Mz r M') := by
  have hFz : FR (S_c_X12_face) Mz Mz := FR.self
  refine w_aload_n dX12_face_0 rfl 0 rfl ?_
  refine w_iload_n dX12_face_1 rfl 1 rfl ?_
  refine w_iconst (v := 2) dX12_face_2 (by decide) ?_
  refine w_callV (as := [vI v, vI 2]) (rest := []) (c_is2 l G cy ad d v Mz hIz) kV_X12_is (by decide +kernel) (Nat.le_of_ble_eq_true rfl) m_1465 rfl rfl rfl ic_12 rfl rfl (by decide) (Nat.le_of_ble_eq_true rfl) dX12_face_3 (fun r1_ M2_ q3_ => ?_)
  obtain ⟨rfl, h4_, hs5_⟩ := q3_
  rcases h4_ with ⟨rfl, h4_⟩ | rfl
  · refine w_if_eq (tgt := 31) dX12_face_6 (by decide) li_1 (fun h9 => (absurd h9 (by decide))) (fun h6_ => ?_)
    refine w_iload_n dX12_face_9 rfl 2 rfl ?_
    refine w_callS (as := [vI u]) (rest := []) (c_X12_isSide l G cy ad d u Mz hIz) kS_X12_isSide (by decide +kernel) (Nat.le_of_ble_eq_true rfl) m_1473 rfl rfl (by decide) (Nat.le_of_ble_eq_true rfl) dX12_face_10 (fun r7_ M8_ q9_ => ?_)
    obtain ⟨rfl, h10_, hs11_⟩ := q9_
    rcases h10_ with ⟨rfl, h10_⟩ | ⟨rfl, h10_⟩
    · refine w_if_eq (tgt := 31) dX12_face_13 (by decide) li_1 (fun h9 => (absurd h9 (by decide))) (fun h12_ => ?_)
      refine w_aload_n dX12_face_16 rfl 0 rfl ?_
      refine w_aload_n dX12_face_17 rfl 0 rfl ?_
      refine w_iload_n dX12_face_18 rfl 1 rfl ?_
      refine w_callV (as := [vI v]) (rest := [vR (12, 0, 0)]) (c_X12_goer l G cy ad (d + 1) v Mz hIz h4_) kV_X12_goer (by decide +kernel) (Nat.le_of_ble_eq_true rfl) m_1451 rfl rfl rfl ic_12 rfl rfl (by decide) (Nat.le_of_ble_eq_true rfl) dX12_face_19 (fun r13_ M14_ q15_ => ?_)
      obtain ⟨rfl, h16_, hs17_⟩ := q15_
      refine w_iconst (v := 2) dX12_face_22 (by decide) ?_
      refine w_iaddB dX12_face_23 (rfl : r13_.toInt = r13_.toInt) li_2 (lf_c_X12_face_0 v r13_ h4_ h16_) (fun z18_ h19_ => ?_)
      refine w_iload_n dX12_face_24 rfl 2 rfl ?_
      refine w_callV (as := [vI z18_, vI u]) (rest := []) (c_X12_become l G cy ad (d + 1) z18_ u Mz hIz (lf_c_X12_face_1 v u r13_ z18_ h4_ h10_ h16_ h19_) (lf_c_X12_face_2 v r13_ z18_ h4_ h16_ h19_)) kV_X12_become (by decide +kernel) (Nat.le_of_ble_eq_true rfl) m_1481 rfl rfl rfl ic_12 rfl rfl (by decide) (Nat.le_of_ble_eq_true rfl) dX12_face_25 (fun r20_ M21_ q22_ => ?_)
      obtain ⟨hI24_, hF25_, h23_, hs27_⟩ := q22_
      have hF26_ := hFz.tr hF25_ (fun c k => (fun h => h.elim (fun h => (Or.inl ⟨h.1, h.2⟩)) (fun h => h.elim)))
      refine w_goto (tgt := 37) dX12_face_28 (by decide) ?_
      exact w_iret rfl dX12_face_37 ⟨hI24_, hF26_, trivial, (Or.inl ⟨hs5_, h4_, (Or.inl ⟨hs11_, h10_, r13_, hs17_, h16_, z18_, h19_, M21_, hI24_, hF25_, r20_, hs27_, rfl, rfl⟩)⟩)⟩
    · refine w_if_eq (tgt := 31) dX12_face_13 (by decide) li_0 (fun h28_ => ?_) (fun h9 => (absurd h9 (by decide)))
      refine w_aload_n dX12_face_31 rfl 0 rfl ?_
      refine w_ldc (v := (-1000001)) m_1433 dX12_face_32 ?_
      refine w_callV (as := [vI (-1000001)]) (rest := []) (c_X12_finding l G cy ad (d + 1) (-1000001) Mz hIz (by first | decide | (unfold vF; omega) | (unfold vRw; omega))) kV_X12_finding (by decide +kernel) (Nat.le_of_ble_eq_true rfl) m_1434 rfl rfl rfl ic_12 rfl rfl (by decide) (Nat.le_of_ble_eq_true rfl) dX12_face_34 (fun r29_ M30_ q31_ => ?_)
      obtain ⟨hI33_, hF34_, h32_, hs36_⟩ := q31_
      have hF35_ := hFz.tr hF34_ (fun c k => (fun h => h.elim (fun h => (Or.inr (Or.inl ⟨h.1, h.2⟩))) (fun h => h.elim)))
      simp only [li_m1000001] at h32_
      exact w_iret rfl dX12_face_37 ⟨hI33_, hF35_, trivial, (Or.inl ⟨hs5_, h4_, (Or.inr ⟨hs11_, h10_, M30_, hI33_, hF34_, r29_, hs36_, h32_, rfl, rfl⟩)⟩)⟩
  · refine w_if_eq (tgt := 31) dX12_face_6 (by decide) li_0 (fun h37_ => ?_) (fun h9 => (absurd h9 (by decide)))
    refine w_aload_n dX12_face_31 rfl 0 rfl ?_
    refine w_ldc (v := (-1000001)) m_1433 dX12_face_32 ?_
    refine w_callV (as := [vI (-1000001)]) (rest := []) (c_X12_finding l G cy ad (d + 1) (-1000001) Mz hIz (by first | decide | (unfold vF; omega) | (unfold vRw; omega))) kV_X12_finding (by decide +kernel) (Nat.le_of_ble_eq_true rfl) m_1434 rfl rfl rfl ic_12 rfl rfl (by decide) (Nat.le_of_ble_eq_true rfl) dX12_face_34 (fun r38_ M39_ q40_ => ?_)
    obtain ⟨hI42_, hF43_, h41_, hs45_⟩ := q40_
    have hF44_ := hFz.tr hF43_ (fun c k => (fun h => h.elim (fun h => (Or.inr (Or.inl ⟨h.1, h.2⟩))) (fun h => h.elim)))
    simp only [li_m1000001] at h41_
    exact w_iret rfl dX12_face_37 ⟨hI42_, hF44_, trivial, (Or.inr ⟨hs5_, M39_, hI42_, hF43_, r38_, hs45_, h41_, rfl, rfl⟩)⟩
def S_c_X12_goes : rf → Nat → Prop := fun c k => (c.1 = 50 ∧ c.2.1 = 0) ∨ (c.1 = 53 ∧ c.2.1 = 0) ∨ False
def SP_X12_goes (v : Int32) (u : Int32) (Mz : mM) (r_ : Int32) (M_ : mM) : Prop := (((SP_is2 v Mz (1 : Int32)) ∧ (0 ≤ v.toInt ∧ v.toInt ≤ 7) ∧ ∃ r7_ : Int32, (SP_X12_goer v Mz r7_) ∧ (r7_.toInt = 180 + 9 * v.toInt) ∧ ∃ z12_ : Int32, (z12_.toInt = r7_.toInt + 6) ∧ (((u.toInt = 0) ∧ ∃ M16_ : mM, (InvD M16_) ∧ (FR (S_c_X12_become) Mz M16_) ∧ ∃ r15_ : Int32, (SP_X12_become z12_ 0 Mz r15_ M16_) ∧ r_ = r15_ ∧ M_ = M16_) ∨ ((¬ u.toInt = 0) ∧ ∃ M24_ : mM, (InvD M24_) ∧ (FR (S_c_X12_become) Mz M24_) ∧ ∃ r23_ : Int32, (SP_X12_become z12_ 1 Mz r23_ M24_) ∧ r_ = r23_ ∧ M_ = M24_))) ∨ ((SP_is2 v Mz (0 : Int32)) ∧ ∃ M33_ : mM, (InvD M33_) ∧ (FR (S_c_X12_finding) Mz M33_) ∧ ∃ r32_ : Int32, (SP_X12_finding (-1000001) Mz r32_ M33_) ∧ (r32_.toInt = (-1000001)) ∧ r_ = r32_ ∧ M_ = M33_))
theorem lf_c_X12_goes_0  (v : Int32) (r7_ : Int32) (h4_ : 0 ≤ v.toInt ∧ v.toInt ≤ 7) (h10_ : r7_.toInt = 180 + 9 * v.toInt) : -2147483648 ≤ r7_.toInt + 6 ∧ r7_.toInt + 6 < 2147483648 := by have r_v := rngI v; have r_r7_ := rngI r7_; omega
theorem lf_c_X12_goes_1  (v : Int32) (r7_ : Int32) (z12_ : Int32) (h4_ : 0 ≤ v.toInt ∧ v.toInt ≤ 7) (h10_ : r7_.toInt = 180 + 9 * v.toInt) (h13_ : z12_.toInt = r7_.toInt + 6) : PN z12_.toInt.toNat (0 : Int32) ∧ (z12_.toInt.toNat < 345 ∨ 493 < z12_.toInt.toNat) := by have r_v := rngI v; have r_r7_ := rngI r7_; have r_z12_ := rngI z12_; have q0 := li_0; unfold PN; omega
theorem lf_c_X12_goes_2  (v : Int32) (r7_ : Int32) (z12_ : Int32) (h4_ : 0 ≤ v.toInt ∧ v.toInt ≤ 7) (h10_ : r7_.toInt = 180 + 9 * v.toInt) (h13_ : z12_.toInt = r7_.toInt + 6) : 0 ≤ z12_.toInt ∧ z12_.toInt ≤ 3566 := by have r_v := rngI v; have r_r7_ := rngI r7_; have r_z12_ := rngI z12_; omega
theorem lf_c_X12_goes_3  (v : Int32) (r7_ : Int32) (z12_ : Int32) (h4_ : 0 ≤ v.toInt ∧ v.toInt ≤ 7) (h10_ : r7_.toInt = 180 + 9 * v.toInt) (h13_ : z12_.toInt = r7_.toInt + 6) : PN z12_.toInt.toNat (1 : Int32) ∧ (z12_.toInt.toNat < 345 ∨ 493 < z12_.toInt.toNat) := by have r_v := rngI v; have r_r7_ := rngI r7_; have r_z12_ := rngI z12_; have q0 := li_1; unfold PN; omega
theorem lf_c_X12_goes_4  (v : Int32) (r7_ : Int32) (z12_ : Int32) (h4_ : 0 ≤ v.toInt ∧ v.toInt ≤ 7) (h10_ : r7_.toInt = 180 + 9 * v.toInt) (h13_ : z12_.toInt = r7_.toInt + 6) : 0 ≤ z12_.toInt ∧ z12_.toInt ≤ 3566 := by have r_v := rngI v; have r_r7_ := rngI r7_; have r_z12_ := rngI z12_; omega
set_option maxHeartbeats 4000000 in
set_option maxRecDepth 100000 in
theorem c_X12_goes (l : Launch) (G : va_G) (cy : Nat → ClassId) (ad : rf → Nat) (d : Nat) (v : Int32) (u : Int32) (Mz : mM) (hIz : InvD Mz) (hu : 0 ≤ u.toInt ∧ u.toInt ≤ 1) : WP DD l G cy ad yX12_goes cX12_goes 3 (some .int) (d + 2) 0 [(0, vR (12, 0, 0)), (1, vI v), (2, vI u)] [] Mz (fun r M' => InvD M' ∧ FR (S_c_X12_goes) Mz M' ∧ (True) ∧ SP_X12_goes v u Mz r M') := by
  have hFz : FR (S_c_X12_goes) Mz Mz := FR.self
  refine w_aload_n dX12_goes_0 rfl 0 rfl ?_
  refine w_iload_n dX12_goes_1 rfl 1 rfl ?_
  refine w_iconst (v := 2) dX12_goes_2 (by decide) ?_
  refine w_callV (as := [vI v, vI 2]) (rest := []) (c_is2 l G cy ad d v Mz hIz) kV_X12_is (by decide +kernel) (Nat.le_of_ble_eq_true rfl) m_1465 rfl rfl rfl ic_12 rfl rfl (by decide) (Nat.le_of_ble_eq_true rfl) dX12_goes_3 (fun r1_ M2_ q3_ => ?_)
  obtain ⟨rfl, h4_, hs5_⟩ := q3_
  rcases h4_ with ⟨rfl, h4_⟩ | rfl
  · refine w_if_eq (tgt := 33) dX12_goes_6 (by decide) li_1 (fun h9 => (absurd h9 (by decide))) (fun h6_ => ?_)
    refine w_aload_n dX12_goes_9 rfl 0 rfl ?_
    refine w_aload_n dX12_goes_10 rfl 0 rfl ?_
    refine w_iload_n dX12_goes_11 rfl 1 rfl ?_
    refine w_callV (as := [vI v]) (rest := [vR (12, 0, 0)]) (c_X12_goer l G cy ad (d + 1) v Mz hIz h4_) kV_X12_goer (by decide +kernel) (Nat.le_of_ble_eq_true rfl) m_1451 rfl rfl rfl ic_12 rfl rfl (by decide) (Nat.le_of_ble_eq_true rfl) dX12_goes_12 (fun r7_ M8_ q9_ => ?_)
    obtain ⟨rfl, h10_, hs11_⟩ := q9_
    refine w_bipush (v := 6) dX12_goes_15 (by decide) ?_
    refine w_iaddB dX12_goes_17 (rfl : r7_.toInt = r7_.toInt) li_6 (lf_c_X12_goes_0 v r7_ h4_ h10_) (fun z12_ h13_ => ?_)
    refine w_iload_n dX12_goes_18 rfl 2 rfl ?_
    refine w_if_eq (tgt := 26) dX12_goes_19 (by decide) (rfl : u.toInt = u.toInt) (fun h14_ => ?_) (fun h14_ => ?_)
    · refine w_iconst (v := 0) dX12_goes_26 (by decide) ?_
      refine w_callV (as := [vI z12_, vI 0]) (rest := []) (c_X12_become l G cy ad (d + 1) z12_ 0 Mz hIz (lf_c_X12_goes_1 v r7_ z12_ h4_ h10_ h13_) (lf_c_X12_goes_2 v r7_ z12_ h4_ h10_ h13_)) kV_X12_become (by decide +kernel) (Nat.le_of_ble_eq_true rfl) m_1481 rfl rfl rfl ic_12 rfl rfl (by decide) (Nat.le_of_ble_eq_true rfl) dX12_goes_27 (fun r15_ M16_ q17_ => ?_)
      obtain ⟨hI19_, hF20_, h18_, hs22_⟩ := q17_
      have hF21_ := hFz.tr hF20_ (fun c k => (fun h => h.elim (fun h => (Or.inl ⟨h.1, h.2⟩)) (fun h => h.elim)))
      refine w_goto (tgt := 39) dX12_goes_30 (by decide) ?_
      exact w_iret rfl dX12_goes_39 ⟨hI19_, hF21_, trivial, (Or.inl ⟨hs5_, h4_, r7_, hs11_, h10_, z12_, h13_, (Or.inl ⟨h14_, M16_, hI19_, hF20_, r15_, hs22_, rfl, rfl⟩)⟩)⟩
    · refine w_iconst (v := 1) dX12_goes_22 (by decide) ?_
      refine w_goto (tgt := 27) dX12_goes_23 (by decide) ?_
      refine w_callV (as := [vI z12_, vI 1]) (rest := []) (c_X12_become l G cy ad (d + 1) z12_ 1 Mz hIz (lf_c_X12_goes_3 v r7_ z12_ h4_ h10_ h13_) (lf_c_X12_goes_4 v r7_ z12_ h4_ h10_ h13_)) kV_X12_become (by decide +kernel) (Nat.le_of_ble_eq_true rfl) m_1481 rfl rfl rfl ic_12 rfl rfl (by decide) (Nat.le_of_ble_eq_true rfl) dX12_goes_27 (fun r23_ M24_ q25_ => ?_)
      obtain ⟨hI27_, hF28_, h26_, hs30_⟩ := q25_
      have hF29_ := hFz.tr hF28_ (fun c k => (fun h => h.elim (fun h => (Or.inl ⟨h.1, h.2⟩)) (fun h => h.elim)))
      refine w_goto (tgt := 39) dX12_goes_30 (by decide) ?_
      exact w_iret rfl dX12_goes_39 ⟨hI27_, hF29_, trivial, (Or.inl ⟨hs5_, h4_, r7_, hs11_, h10_, z12_, h13_, (Or.inr ⟨h14_, M24_, hI27_, hF28_, r23_, hs30_, rfl, rfl⟩)⟩)⟩
  · refine w_if_eq (tgt := 33) dX12_goes_6 (by decide) li_0 (fun h31_ => ?_) (fun h9 => (absurd h9 (by decide)))
    refine w_aload_n dX12_goes_33 rfl 0 rfl ?_
    refine w_ldc (v := (-1000001)) m_1433 dX12_goes_34 ?_
    refine w_callV (as := [vI (-1000001)]) (rest := []) (c_X12_finding l G cy ad (d + 1) (-1000001) Mz hIz (by first | decide | (unfold vF; omega) | (unfold vRw; omega))) kV_X12_finding (by decide +kernel) (Nat.le_of_ble_eq_true rfl) m_1434 rfl rfl rfl ic_12 rfl rfl (by decide) (Nat.le_of_ble_eq_true rfl) dX12_goes_36 (fun r32_ M33_ q34_ => ?_)
    obtain ⟨hI36_, hF37_, h35_, hs39_⟩ := q34_
    have hF38_ := hFz.tr hF37_ (fun c k => (fun h => h.elim (fun h => (Or.inr (Or.inl ⟨h.1, h.2⟩))) (fun h => h.elim)))
    simp only [li_m1000001] at h35_
    exact w_iret rfl dX12_goes_39 ⟨hI36_, hF38_, trivial, (Or.inr ⟨hs5_, M33_, hI36_, hF37_, r32_, hs39_, h35_, rfl, rfl⟩)⟩
def S_c_X12_feed : rf → Nat → Prop := fun c k => (c.1 = 50 ∧ c.2.1 = 0) ∨ (c.1 = 53 ∧ c.2.1 = 0) ∨ False
def ST_X12_feed_40 (v : Int64) (u : Int32) (Mz : mM) (v4_40 : Int32) (M_40 : mM) (v4_40y : Int32) (M_40y : mM) : Prop := (0 ≤ v4_40.toInt) ∧ (v4_40.toInt ≤ u.toInt) ∧ ((M_40.1 (50, 0, 0) 4).toInt + u.toInt ≤ 48 + v4_40.toInt) ∧ (InvD M_40) ∧ (FR (S_c_X12_feed) Mz M_40) ∧ (v4_40.toInt < u.toInt) ∧ ∃ z18_ : Int32, (z18_ = M_40.1 (50, 0, 0) 4) ∧ (0 ≤ z18_.toInt ∧ z18_.toInt ≤ 48) ∧ ∃ z22_ : Int32, (z22_.toInt = 273 + z18_.toInt) ∧ ∃ z24_ : Int32, (z24_.toInt = 8 * v4_40.toInt) ∧ ∃ w26_ : Int64, (w26_ = v >>> (z24_.toInt64 &&& 63)) ∧ ∃ w28_ : Int64, (w28_ = w26_ &&& (255 : Int64)) ∧ ∃ z30_ : Int32, (z30_ = w28_.toInt32) ∧ ∃ j34_ : Nat, ((j34_ : Int) = z22_.toInt) ∧ ∃ M32_ : mM, (M32_ = up M_40 (50, 0, 0) j34_ z30_) ∧ ∃ z39_ : Int32, (z39_ = M32_.1 (50, 0, 0) 4) ∧ (z39_.toInt = z18_.toInt) ∧ (0 ≤ z39_.toInt ∧ z39_.toInt ≤ 48) ∧ ∃ z43_ : Int32, (z43_.toInt = z39_.toInt + 1) ∧ ∃ M45_ : mM, (M45_ = up M32_ (50, 0, 0) 4 z43_) ∧ ∃ z50_ : Int32, (z50_.toInt = v4_40.toInt + 1) ∧ v4_40y = z50_ ∧ M_40y = M45_
def SP_X12_feed (v : Int64) (u : Int32) (Mz : mM) (r_ : Int32) (M_ : mM) : Prop := (((SP_X12_within u 1 8 Mz (1 : Int32)) ∧ (1 ≤ u.toInt ∧ u.toInt ≤ 8) ∧ ∃ z7_ : Int32, (z7_ = Mz.1 (50, 0, 0) 4) ∧ (0 ≤ z7_.toInt ∧ z7_.toInt ≤ 48) ∧ ∃ z10_ : Int32, (z10_.toInt = z7_.toInt + u.toInt) ∧ (((z10_.toInt ≤ 48) ∧ ∃ v4_40 : Int32, (0 ≤ v4_40.toInt) ∧ (v4_40.toInt ≤ u.toInt) ∧ ∃ M_40 : mM, ((M_40.1 (50, 0, 0) 4).toInt + u.toInt ≤ 48 + v4_40.toInt) ∧ (RCH (fun x_ y_ => ST_X12_feed_40 v u Mz x_.1 x_.2 y_.1 y_.2) ((0 : Int32), Mz) (v4_40, M_40)) ∧ (InvD M_40) ∧ (FR (S_c_X12_feed) Mz M_40) ∧ (u.toInt ≤ v4_40.toInt) ∧ ∃ z15_ : Int32, (z15_ = M_40.1 (50, 0, 0) 4) ∧ (0 ≤ z15_.toInt ∧ z15_.toInt ≤ 48) ∧ r_ = z15_ ∧ M_ = M_40) ∨ ((48 < z10_.toInt) ∧ ∃ M53_ : mM, (InvD M53_) ∧ (FR (S_c_X12_finding) Mz M53_) ∧ ∃ r52_ : Int32, (SP_X12_finding (-1000004) Mz r52_ M53_) ∧ (r52_.toInt = (-1000004)) ∧ r_ = r52_ ∧ M_ = M53_))) ∨ ((SP_X12_within u 1 8 Mz (0 : Int32)) ∧ (¬ (1 ≤ u.toInt ∧ u.toInt ≤ 8)) ∧ ∃ M62_ : mM, (InvD M62_) ∧ (FR (S_c_X12_finding) Mz M62_) ∧ ∃ r61_ : Int32, (SP_X12_finding (-1000001) Mz r61_ M62_) ∧ (r61_.toInt = (-1000001)) ∧ r_ = r61_ ∧ M_ = M62_))
theorem lf_c_X12_feed_0 (Mz : mM) (u : Int32) (z7_ : Int32) (h4_ : 1 ≤ u.toInt ∧ u.toInt ≤ 8) (e8_ : z7_ = Mz.1 (50, 0, 0) 4) (h9_ : 0 ≤ z7_.toInt ∧ z7_.toInt ≤ 48) : -2147483648 ≤ z7_.toInt + u.toInt ∧ z7_.toInt + u.toInt < 2147483648 := by have r_u := rngI u; have r_z7_ := rngI z7_; subst e8_; omega
theorem lf_c_X12_feed_1 (M_40 : mM) (z18_ : Int32) (e19_ : z18_ = M_40.1 (50, 0, 0) 4) (kf20_ : (M_40.1 (50, 0, 0) 4).toInt = z18_.toInt) (h21_ : 0 ≤ z18_.toInt ∧ z18_.toInt ≤ 48) : -2147483648 ≤ 273 + z18_.toInt ∧ 273 + z18_.toInt < 2147483648 := by have r_z18_ := rngI z18_; subst e19_; omega
theorem lf_c_X12_feed_2 (M_40 : mM) (Mz : mM) (u : Int32) (z7_ : Int32) (z10_ : Int32) (v4_40 : Int32) (h4_ : 1 ≤ u.toInt ∧ u.toInt ≤ 8) (e8_ : z7_ = Mz.1 (50, 0, 0) 4) (h9_ : 0 ≤ z7_.toInt ∧ z7_.toInt ≤ 48) (h11_ : z10_.toInt = z7_.toInt + u.toInt) (h12_ : z10_.toInt ≤ 48) (hv0_40 : 0 ≤ v4_40.toInt) (hv1_40 : v4_40.toInt ≤ u.toInt) (hv2_40 : (M_40.1 (50, 0, 0) 4).toInt + u.toInt ≤ 48 + v4_40.toInt) (h14_ : v4_40.toInt < u.toInt) : -2147483648 ≤ 8 * v4_40.toInt ∧ 8 * v4_40.toInt < 2147483648 := by have r_u := rngI u; have r_z7_ := rngI z7_; have r_z10_ := rngI z10_; have r_v4_40 := rngI v4_40; subst e8_; omega
theorem lf_c_X12_feed_3 (M_40 : mM) (z18_ : Int32) (z22_ : Int32) (e19_ : z18_ = M_40.1 (50, 0, 0) 4) (kf20_ : (M_40.1 (50, 0, 0) 4).toInt = z18_.toInt) (h21_ : 0 ≤ z18_.toInt ∧ z18_.toInt ≤ 48) (h23_ : z22_.toInt = 273 + z18_.toInt) : 0 ≤ z22_.toInt ∧ z22_.toInt < ((3567 : Nat) : Int) := by have r_z18_ := rngI z18_; have r_z22_ := rngI z22_; subst e19_; omega
theorem lf_c_X12_feed_4 (M32_ : mM) (M_40 : mM) (z18_ : Int32) (z22_ : Int32) (z30_ : Int32) (j34_ : Nat) (e19_ : z18_ = M_40.1 (50, 0, 0) 4) (kf20_ : (M_40.1 (50, 0, 0) 4).toInt = z18_.toInt) (h21_ : 0 ≤ z18_.toInt ∧ z18_.toInt ≤ 48) (h23_ : z22_.toInt = 273 + z18_.toInt) (h35_ : (j34_ : Int) = z22_.toInt) (hM33_ : M32_ = up M_40 (50, 0, 0) j34_ z30_) : PN j34_ z30_ ∧ (j34_ < 345 ∨ 493 < j34_) := by have r_z18_ := rngI z18_; have r_z22_ := rngI z22_; have r_z30_ := rngI z30_; subst e19_; unfold PN; omega
theorem lf_c_X12_feed_5 (M32_ : mM) (M_40 : mM) (z18_ : Int32) (z22_ : Int32) (z30_ : Int32) (j34_ : Nat) (e19_ : z18_ = M_40.1 (50, 0, 0) 4) (kf20_ : (M_40.1 (50, 0, 0) 4).toInt = z18_.toInt) (h21_ : 0 ≤ z18_.toInt ∧ z18_.toInt ≤ 48) (h23_ : z22_.toInt = 273 + z18_.toInt) (h35_ : (j34_ : Int) = z22_.toInt) (hM33_ : M32_ = up M_40 (50, 0, 0) j34_ z30_) : ¬ 4 = j34_ := by have r_z18_ := rngI z18_; have r_z22_ := rngI z22_; have r_z30_ := rngI z30_; subst e19_; omega
theorem lf_c_X12_feed_6 (M32_ : mM) (M_40 : mM) (z18_ : Int32) (z22_ : Int32) (z30_ : Int32) (j34_ : Nat) (z39_ : Int32) (e19_ : z18_ = M_40.1 (50, 0, 0) 4) (kf20_ : (M_40.1 (50, 0, 0) 4).toInt = z18_.toInt) (h21_ : 0 ≤ z18_.toInt ∧ z18_.toInt ≤ 48) (h23_ : z22_.toInt = 273 + z18_.toInt) (h35_ : (j34_ : Int) = z22_.toInt) (hM33_ : M32_ = up M_40 (50, 0, 0) j34_ z30_) (kf38_ : (M32_.1 (50, 0, 0) 4).toInt = z18_.toInt) (e40_ : z39_ = M32_.1 (50, 0, 0) 4) (h41_ : z39_.toInt = z18_.toInt) (h42_ : 0 ≤ z39_.toInt ∧ z39_.toInt ≤ 48) : -2147483648 ≤ z39_.toInt + 1 ∧ z39_.toInt + 1 < 2147483648 := by have r_z18_ := rngI z18_; have r_z22_ := rngI z22_; have r_z30_ := rngI z30_; have r_z39_ := rngI z39_; subst e19_; subst e40_; omega
theorem lf_c_X12_feed_7 (M32_ : mM) (M45_ : mM) (M_40 : mM) (Mz : mM) (u : Int32) (z7_ : Int32) (z10_ : Int32) (v4_40 : Int32) (z18_ : Int32) (z22_ : Int32) (z24_ : Int32) (z30_ : Int32) (j34_ : Nat) (z39_ : Int32) (z43_ : Int32) (h4_ : 1 ≤ u.toInt ∧ u.toInt ≤ 8) (e8_ : z7_ = Mz.1 (50, 0, 0) 4) (h9_ : 0 ≤ z7_.toInt ∧ z7_.toInt ≤ 48) (h11_ : z10_.toInt = z7_.toInt + u.toInt) (h12_ : z10_.toInt ≤ 48) (hv0_40 : 0 ≤ v4_40.toInt) (hv1_40 : v4_40.toInt ≤ u.toInt) (hv2_40 : (M_40.1 (50, 0, 0) 4).toInt + u.toInt ≤ 48 + v4_40.toInt) (h14_ : v4_40.toInt < u.toInt) (e19_ : z18_ = M_40.1 (50, 0, 0) 4) (kf20_ : (M_40.1 (50, 0, 0) 4).toInt = z18_.toInt) (h21_ : 0 ≤ z18_.toInt ∧ z18_.toInt ≤ 48) (h23_ : z22_.toInt = 273 + z18_.toInt) (h25_ : z24_.toInt = 8 * v4_40.toInt) (h35_ : (j34_ : Int) = z22_.toInt) (hM33_ : M32_ = up M_40 (50, 0, 0) j34_ z30_) (kf38_ : (M32_.1 (50, 0, 0) 4).toInt = z18_.toInt) (e40_ : z39_ = M32_.1 (50, 0, 0) 4) (h41_ : z39_.toInt = z18_.toInt) (h42_ : 0 ≤ z39_.toInt ∧ z39_.toInt ≤ 48) (h44_ : z43_.toInt = z39_.toInt + 1) (hM46_ : M45_ = up M32_ (50, 0, 0) 4 z43_) : PN 4 z43_ ∧ (4 < 345 ∨ 493 < 4) := by have r_u := rngI u; have r_z7_ := rngI z7_; have r_z10_ := rngI z10_; have r_v4_40 := rngI v4_40; have r_z18_ := rngI z18_; have r_z22_ := rngI z22_; have r_z24_ := rngI z24_; have r_z30_ := rngI z30_; have r_z39_ := rngI z39_; have r_z43_ := rngI z43_; subst e8_; subst e19_; subst e40_; unfold PN; omega
theorem lf_c_X12_feed_8 (M_40 : mM) (Mz : mM) (u : Int32) (z7_ : Int32) (z10_ : Int32) (v4_40 : Int32) (z24_ : Int32) (h4_ : 1 ≤ u.toInt ∧ u.toInt ≤ 8) (e8_ : z7_ = Mz.1 (50, 0, 0) 4) (h9_ : 0 ≤ z7_.toInt ∧ z7_.toInt ≤ 48) (h11_ : z10_.toInt = z7_.toInt + u.toInt) (h12_ : z10_.toInt ≤ 48) (hv0_40 : 0 ≤ v4_40.toInt) (hv1_40 : v4_40.toInt ≤ u.toInt) (hv2_40 : (M_40.1 (50, 0, 0) 4).toInt + u.toInt ≤ 48 + v4_40.toInt) (h14_ : v4_40.toInt < u.toInt) (h25_ : z24_.toInt = 8 * v4_40.toInt) : -2147483648 ≤ v4_40.toInt + 1 ∧ v4_40.toInt + 1 < 2147483648 := by have r_u := rngI u; have r_z7_ := rngI z7_; have r_z10_ := rngI z10_; have r_v4_40 := rngI v4_40; have r_z24_ := rngI z24_; subst e8_; omega
theorem lf_c_X12_feed_9 (M_40 : mM) (Mz : mM) (u : Int32) (z7_ : Int32) (z10_ : Int32) (v4_40 : Int32) (z24_ : Int32) (z50_ : Int32) (h4_ : 1 ≤ u.toInt ∧ u.toInt ≤ 8) (e8_ : z7_ = Mz.1 (50, 0, 0) 4) (h9_ : 0 ≤ z7_.toInt ∧ z7_.toInt ≤ 48) (h11_ : z10_.toInt = z7_.toInt + u.toInt) (h12_ : z10_.toInt ≤ 48) (hv0_40 : 0 ≤ v4_40.toInt) (hv1_40 : v4_40.toInt ≤ u.toInt) (hv2_40 : (M_40.1 (50, 0, 0) 4).toInt + u.toInt ≤ 48 + v4_40.toInt) (h14_ : v4_40.toInt < u.toInt) (h25_ : z24_.toInt = 8 * v4_40.toInt) (h51_ : z50_.toInt = v4_40.toInt + 1) : 0 ≤ z50_.toInt := by have r_u := rngI u; have r_z7_ := rngI z7_; have r_z10_ := rngI z10_; have r_v4_40 := rngI v4_40; have r_z24_ := rngI z24_; have r_z50_ := rngI z50_; subst e8_; omega
theorem lf_c_X12_feed_10 (M_40 : mM) (Mz : mM) (u : Int32) (z7_ : Int32) (z10_ : Int32) (v4_40 : Int32) (z24_ : Int32) (z50_ : Int32) (h4_ : 1 ≤ u.toInt ∧ u.toInt ≤ 8) (e8_ : z7_ = Mz.1 (50, 0, 0) 4) (h9_ : 0 ≤ z7_.toInt ∧ z7_.toInt ≤ 48) (h11_ : z10_.toInt = z7_.toInt + u.toInt) (h12_ : z10_.toInt ≤ 48) (hv0_40 : 0 ≤ v4_40.toInt) (hv1_40 : v4_40.toInt ≤ u.toInt) (hv2_40 : (M_40.1 (50, 0, 0) 4).toInt + u.toInt ≤ 48 + v4_40.toInt) (h14_ : v4_40.toInt < u.toInt) (h25_ : z24_.toInt = 8 * v4_40.toInt) (h51_ : z50_.toInt = v4_40.toInt + 1) : z50_.toInt ≤ u.toInt := by have r_u := rngI u; have r_z7_ := rngI z7_; have r_z10_ := rngI z10_; have r_v4_40 := rngI v4_40; have r_z24_ := rngI z24_; have r_z50_ := rngI z50_; subst e8_; omega
theorem lf_c_X12_feed_11 (M32_ : mM) (M45_ : mM) (M_40 : mM) (Mz : mM) (u : Int32) (z7_ : Int32) (z10_ : Int32) (v4_40 : Int32) (z18_ : Int32) (z22_ : Int32) (z24_ : Int32) (z30_ : Int32) (j34_ : Nat) (z39_ : Int32) (z43_ : Int32) (z50_ : Int32) (h4_ : 1 ≤ u.toInt ∧ u.toInt ≤ 8) (e8_ : z7_ = Mz.1 (50, 0, 0) 4) (h9_ : 0 ≤ z7_.toInt ∧ z7_.toInt ≤ 48) (h11_ : z10_.toInt = z7_.toInt + u.toInt) (h12_ : z10_.toInt ≤ 48) (hv0_40 : 0 ≤ v4_40.toInt) (hv1_40 : v4_40.toInt ≤ u.toInt) (hv2_40 : (M_40.1 (50, 0, 0) 4).toInt + u.toInt ≤ 48 + v4_40.toInt) (h14_ : v4_40.toInt < u.toInt) (e19_ : z18_ = M_40.1 (50, 0, 0) 4) (kf20_ : (M_40.1 (50, 0, 0) 4).toInt = z18_.toInt) (h21_ : 0 ≤ z18_.toInt ∧ z18_.toInt ≤ 48) (h23_ : z22_.toInt = 273 + z18_.toInt) (h25_ : z24_.toInt = 8 * v4_40.toInt) (h35_ : (j34_ : Int) = z22_.toInt) (hM33_ : M32_ = up M_40 (50, 0, 0) j34_ z30_) (kf38_ : (M32_.1 (50, 0, 0) 4).toInt = z18_.toInt) (e40_ : z39_ = M32_.1 (50, 0, 0) 4) (h41_ : z39_.toInt = z18_.toInt) (h42_ : 0 ≤ z39_.toInt ∧ z39_.toInt ≤ 48) (h44_ : z43_.toInt = z39_.toInt + 1) (hM46_ : M45_ = up M32_ (50, 0, 0) 4 z43_) (kf49_ : (M45_.1 (50, 0, 0) 4).toInt = z43_.toInt) (h51_ : z50_.toInt = v4_40.toInt + 1) : (M45_.1 (50, 0, 0) 4).toInt + u.toInt ≤ 48 + z50_.toInt := by have r_u := rngI u; have r_z7_ := rngI z7_; have r_z10_ := rngI z10_; have r_v4_40 := rngI v4_40; have r_z18_ := rngI z18_; have r_z22_ := rngI z22_; have r_z24_ := rngI z24_; have r_z30_ := rngI z30_; have r_z39_ := rngI z39_; have r_z43_ := rngI z43_; have r_z50_ := rngI z50_; subst e8_; subst e19_; subst e40_; omega
theorem lf_c_X12_feed_12 (M_40 : mM) (Mz : mM) (u : Int32) (z7_ : Int32) (z10_ : Int32) (v4_40 : Int32) (z24_ : Int32) (z50_ : Int32) (h4_ : 1 ≤ u.toInt ∧ u.toInt ≤ 8) (e8_ : z7_ = Mz.1 (50, 0, 0) 4) (h9_ : 0 ≤ z7_.toInt ∧ z7_.toInt ≤ 48) (h11_ : z10_.toInt = z7_.toInt + u.toInt) (h12_ : z10_.toInt ≤ 48) (hv0_40 : 0 ≤ v4_40.toInt) (hv1_40 : v4_40.toInt ≤ u.toInt) (hv2_40 : (M_40.1 (50, 0, 0) 4).toInt + u.toInt ≤ 48 + v4_40.toInt) (h14_ : v4_40.toInt < u.toInt) (h25_ : z24_.toInt = 8 * v4_40.toInt) (h51_ : z50_.toInt = v4_40.toInt + 1) : (u.toInt - z50_.toInt).toNat < (u.toInt - v4_40.toInt).toNat := by have r_u := rngI u; have r_z7_ := rngI z7_; have r_z10_ := rngI z10_; have r_v4_40 := rngI v4_40; have r_z24_ := rngI z24_; have r_z50_ := rngI z50_; subst e8_; omega
theorem lf_c_X12_feed_13    : 0 ≤ (0 : Int32).toInt := by have q0 := li_0; omega
theorem lf_c_X12_feed_14 (Mz : mM) (u : Int32) (z7_ : Int32) (z10_ : Int32) (h4_ : 1 ≤ u.toInt ∧ u.toInt ≤ 8) (e8_ : z7_ = Mz.1 (50, 0, 0) 4) (h9_ : 0 ≤ z7_.toInt ∧ z7_.toInt ≤ 48) (h11_ : z10_.toInt = z7_.toInt + u.toInt) (h12_ : z10_.toInt ≤ 48) : (0 : Int32).toInt ≤ u.toInt := by have r_u := rngI u; have r_z7_ := rngI z7_; have r_z10_ := rngI z10_; have q0 := li_0; subst e8_; omega
theorem lf_c_X12_feed_15 (Mz : mM) (u : Int32) (z7_ : Int32) (z10_ : Int32) (h4_ : 1 ≤ u.toInt ∧ u.toInt ≤ 8) (e8_ : z7_ = Mz.1 (50, 0, 0) 4) (h9_ : 0 ≤ z7_.toInt ∧ z7_.toInt ≤ 48) (h11_ : z10_.toInt = z7_.toInt + u.toInt) (h12_ : z10_.toInt ≤ 48) : (Mz.1 (50, 0, 0) 4).toInt + u.toInt ≤ 48 + (0 : Int32).toInt := by have r_u := rngI u; have r_z7_ := rngI z7_; have r_z10_ := rngI z10_; have q0 := li_0; subst e8_; omega
set_option maxHeartbeats 4000000 in
set_option maxRecDepth 100000 in
theorem c_X12_feed (l : Launch) (G : va_G) (cy : Nat → ClassId) (ad : rf → Nat) (d : Nat) (v : Int64) (u : Int32) (Mz : mM) (hIz : InvD Mz) : WP DD l G cy ad yX12_feed cX12_feed 5 (some .int) (d + 1) 0 [(0, vR (12, 0, 0)), (1, vL v), (3, vI u)] [] Mz (fun r M' => InvD M' ∧ FR (S_c_X12_feed) Mz M' ∧ (True) ∧ SP_X12_feed v u Mz r M') := by
  have hFz : FR (S_c_X12_feed) Mz Mz := FR.self
  refine w_iload_n dX12_feed_0 rfl 2 rfl ?_
  refine w_iconst (v := 1) dX12_feed_1 (by decide) ?_
  refine w_bipush (v := 8) dX12_feed_2 (by decide) ?_
  refine w_callS (as := [vI u, vI 1, vI 8]) (rest := []) (c_X12_within l G cy ad d u 1 8 Mz hIz) kS_X12_within (by decide +kernel) (Nat.le_of_ble_eq_true rfl) m_1427 rfl rfl (by decide) (Nat.le_of_ble_eq_true rfl) dX12_feed_4 (fun r1_ M2_ q3_ => ?_)
  obtain ⟨rfl, h4_, hs5_⟩ := q3_
  rcases h4_ with ⟨rfl, h4_⟩ | ⟨rfl, h4_⟩
  · simp only [li_1, li_8] at h4_
    refine w_if_ne (tgt := 17) dX12_feed_7 (by decide) li_1 (fun h6_ => ?_) (fun h9 => (absurd h9 (by decide)))
    refine w_aload_n dX12_feed_17 rfl 0 rfl ?_
    refine w_getR (c' := (50, 0, 0)) fl_RX12_9 rfl rfl ic_12 dX12_feed_18 rfl ?_
    refine w_iconst (v := 4) dX12_feed_21 (by decide) ?_
    refine w_ialdL 4 rfl rfl ic_50 li_4 (by decide) dX12_feed_22 (fun z7_ e8_ => ?_)
    have h9_ : 0 ≤ z7_.toInt ∧ z7_.toInt ≤ 48 := pn_4 hIz e8_
    refine w_iload_n dX12_feed_23 rfl 2 rfl ?_
    refine w_iaddB dX12_feed_24 (rfl : z7_.toInt = z7_.toInt) (rfl : u.toInt = u.toInt) (lf_c_X12_feed_0 Mz u z7_ h4_ e8_ h9_) (fun z10_ h11_ => ?_)
    refine w_bipush (v := 48) dX12_feed_25 (by decide) ?_
    refine w_icmp_le (tgt := 37) dX12_feed_27 (by decide) (rfl : z10_.toInt = z10_.toInt) li_48 (fun h12_ => ?_) (fun h12_ => ?_)
    · refine w_iconst (v := 0) dX12_feed_37 (by decide) ?_
      refine w_istore (ls' := [(4, vI 0), (0, vR (12, 0, 0)), (1, vL v), (3, vI u)]) dX12_feed_38 (by decide) rfl ?_
      have lp13_ : ∀ (nn_40 : Nat) (M_40 : mM) (hI_40 : InvD M_40) (hF_40 : FR (S_c_X12_feed) Mz M_40) (v4_40 : Int32) (hv0_40 : 0 ≤ v4_40.toInt) (hv1_40 : v4_40.toInt ≤ u.toInt) (hv2_40 : (M_40.1 (50, 0, 0) 4).toInt + u.toInt ≤ 48 + v4_40.toInt) (hL_40 : RCH (fun x_ y_ => ST_X12_feed_40 v u Mz x_.1 x_.2 y_.1 y_.2) ((0 : Int32), Mz) (v4_40, M_40)), (u.toInt - v4_40.toInt).toNat < nn_40 → WP DD l G cy ad yX12_feed cX12_feed 5 (some .int) (d + 1) 40 [(4, vI v4_40), (0, vR (12, 0, 0)), (1, vL v), (3, vI u)] [] M_40 (fun r M' => InvD M' ∧ FR (S_c_X12_feed) Mz M' ∧ (True) ∧ SP_X12_feed v u Mz r M') := by
        intro nn_40
        induction nn_40 with
        | zero => intro M_40 hI_40 hF_40 v4_40 hv0_40 hv1_40 hv2_40 hL_40 hm_40; exact absurd hm_40 (Nat.not_lt_zero _)
        | succ nn_40 ih_40 =>
          intro M_40 hI_40 hF_40 v4_40 hv0_40 hv1_40 hv2_40 hL_40 hm_40
          refine w_iload dX12_feed_40 0 rfl ?_
          refine w_iload_n dX12_feed_42 rfl 3 rfl ?_
          refine w_icmp_ge (tgt := 89) dX12_feed_43 (by decide) (rfl : v4_40.toInt = v4_40.toInt) (rfl : u.toInt = u.toInt) (fun h14_ => ?_) (fun h14_ => ?_)
          · refine w_aload_n dX12_feed_89 rfl 1 rfl ?_
            refine w_getR (c' := (50, 0, 0)) fl_RX12_9 rfl rfl ic_12 dX12_feed_90 rfl ?_
            refine w_iconst (v := 4) dX12_feed_93 (by decide) ?_
            refine w_ialdL 4 rfl rfl ic_50 li_4 (by decide) dX12_feed_94 (fun z15_ e16_ => ?_)
            have h17_ : 0 ≤ z15_.toInt ∧ z15_.toInt ≤ 48 := pn_4 hI_40 e16_
            exact w_iret rfl dX12_feed_95 ⟨hI_40, hF_40, trivial, (Or.inl ⟨hs5_, h4_, z7_, e8_, h9_, z10_, h11_, (Or.inl ⟨h12_, v4_40, hv0_40, hv1_40, M_40, hv2_40, hL_40, hI_40, hF_40, h14_, z15_, e16_, h17_, rfl, rfl⟩)⟩)⟩
          · refine w_aload_n dX12_feed_46 rfl 1 rfl ?_
            refine w_getR (c' := (50, 0, 0)) fl_RX12_9 rfl rfl ic_12 dX12_feed_47 rfl ?_
            refine w_sipush (v := 273) dX12_feed_50 (by decide) ?_
            refine w_aload_n dX12_feed_53 rfl 1 rfl ?_
            refine w_getR (c' := (50, 0, 0)) fl_RX12_9 rfl rfl ic_12 dX12_feed_54 rfl ?_
            refine w_iconst (v := 4) dX12_feed_57 (by decide) ?_
            refine w_ialdL 4 rfl rfl ic_50 li_4 (by decide) dX12_feed_58 (fun z18_ e19_ => ?_)
            have kf20_ : (M_40.1 (50, 0, 0) 4).toInt = z18_.toInt := by rw [e19_]
            have h21_ : 0 ≤ z18_.toInt ∧ z18_.toInt ≤ 48 := pn_4 hI_40 e19_
            refine w_iaddB dX12_feed_59 li_273 (rfl : z18_.toInt = z18_.toInt) (lf_c_X12_feed_1 M_40 z18_ e19_ kf20_ h21_) (fun z22_ h23_ => ?_)
            refine w_lload_n dX12_feed_60 rfl 2 rfl ?_
            refine w_bipush (v := 8) dX12_feed_61 (by decide) ?_
            refine w_iload dX12_feed_63 0 rfl ?_
            refine w_imulB dX12_feed_65 li_8 (rfl : v4_40.toInt = v4_40.toInt) (lf_c_X12_feed_2 M_40 Mz u z7_ z10_ v4_40 h4_ e8_ h9_ h11_ h12_ hv0_40 hv1_40 hv2_40 h14_) (fun z24_ h25_ => ?_)
            refine w_lshr dX12_feed_66 (fun w26_ h27_ => ?_)
            refine w_ldc2 (v := 255) m_1554 dX12_feed_67 ?_
            refine w_land dX12_feed_70 (fun w28_ h29_ => ?_)
            refine w_l2i dX12_feed_71 (fun z30_ h31_ => ?_)
            refine w_iast DD_nd rfl rfl ic_50 (rfl : z22_.toInt = z22_.toInt) (lf_c_X12_feed_3 M_40 z18_ z22_ e19_ kf20_ h21_ h23_) dX12_feed_72 (fun j34_ h35_ M32_ hM33_ => ?_)
            have hI36_ := hI_40.put50 hM33_ (lf_c_X12_feed_4 M32_ M_40 z18_ z22_ z30_ j34_ e19_ kf20_ h21_ h23_ h35_ hM33_)
            have hF37_ := hF_40.put hM33_ (Or.inl ⟨rfl, rfl⟩)
            have kf38_ : (M32_.1 (50, 0, 0) 4).toInt = z18_.toInt := by rw [(show M32_.1 (50, 0, 0) 4 = M_40.1 (50, 0, 0) 4 by rw [hM33_]; exact up_ne (fun q => absurd q.2 (lf_c_X12_feed_5 M32_ M_40 z18_ z22_ z30_ j34_ e19_ kf20_ h21_ h23_ h35_ hM33_)))]; exact kf20_
            refine w_aload_n dX12_feed_73 rfl 1 rfl ?_
            refine w_getR (c' := (50, 0, 0)) fl_RX12_9 rfl rfl ic_12 dX12_feed_74 rfl ?_
            refine w_iconst (v := 4) dX12_feed_77 (by decide) ?_
            refine w_dup2 dX12_feed_78 rfl rfl ?_
            refine w_ialdL 4 rfl rfl ic_50 li_4 (by decide) dX12_feed_79 (fun z39_ e40_ => ?_)
            have h41_ : z39_.toInt = z18_.toInt := by rw [e40_]; exact kf38_
            have h42_ : 0 ≤ z39_.toInt ∧ z39_.toInt ≤ 48 := pn_4 hI36_ e40_
            refine w_iconst (v := 1) dX12_feed_80 (by decide) ?_
            refine w_iaddB dX12_feed_81 (rfl : z39_.toInt = z39_.toInt) li_1 (lf_c_X12_feed_6 M32_ M_40 z18_ z22_ z30_ j34_ z39_ e19_ kf20_ h21_ h23_ h35_ hM33_ kf38_ e40_ h41_ h42_) (fun z43_ h44_ => ?_)
            refine w_iastL 4 DD_nd rfl rfl ic_50 li_4 (by decide) dX12_feed_82 (fun M45_ hM46_ => ?_)
            have hI47_ := hI36_.put50 hM46_ (lf_c_X12_feed_7 M32_ M45_ M_40 Mz u z7_ z10_ v4_40 z18_ z22_ z24_ z30_ j34_ z39_ z43_ h4_ e8_ h9_ h11_ h12_ hv0_40 hv1_40 hv2_40 h14_ e19_ kf20_ h21_ h23_ h25_ h35_ hM33_ kf38_ e40_ h41_ h42_ h44_ hM46_)
            have hF48_ := hF37_.put hM46_ (Or.inl ⟨rfl, rfl⟩)
            have kf49_ : (M45_.1 (50, 0, 0) 4).toInt = z43_.toInt := by rw [hM46_, up_same]
            refine w_iincB (j := 0) (f := fun z50_ => [(4, vI z50_), (0, vR (12, 0, 0)), (1, vL v), (3, vI u)]) dX12_feed_83 rfl (by decide) (fun _ => rfl) (rfl : v4_40.toInt = v4_40.toInt) li_1 (lf_c_X12_feed_8 M_40 Mz u z7_ z10_ v4_40 z24_ h4_ e8_ h9_ h11_ h12_ hv0_40 hv1_40 hv2_40 h14_ h25_) (fun z50_ h51_ => ?_)
            refine w_goto (tgt := 40) dX12_feed_86 (by decide) ?_
            refine w_loc (ls' := [(4, vI z50_), (0, vR (12, 0, 0)), (1, vL v), (3, vI u)]) [0, 1, 2, 3] rfl ?_
            exact ih_40 M45_ hI47_ hF48_ z50_ (lf_c_X12_feed_9 M_40 Mz u z7_ z10_ v4_40 z24_ z50_ h4_ e8_ h9_ h11_ h12_ hv0_40 hv1_40 hv2_40 h14_ h25_ h51_) (lf_c_X12_feed_10 M_40 Mz u z7_ z10_ v4_40 z24_ z50_ h4_ e8_ h9_ h11_ h12_ hv0_40 hv1_40 hv2_40 h14_ h25_ h51_) (lf_c_X12_feed_11 M32_ M45_ M_40 Mz u z7_ z10_ v4_40 z18_ z22_ z24_ z30_ j34_ z39_ z43_ z50_ h4_ e8_ h9_ h11_ h12_ hv0_40 hv1_40 hv2_40 h14_ e19_ kf20_ h21_ h23_ h25_ h35_ hM33_ kf38_ e40_ h41_ h42_ h44_ hM46_ kf49_ h51_) (RCH.tail hL_40 ⟨hv0_40, hv1_40, hv2_40, hI_40, hF_40, h14_, z18_, e19_, h21_, z22_, h23_, z24_, h25_, w26_, h27_, w28_, h29_, z30_, h31_, j34_, h35_, M32_, hM33_, z39_, e40_, h41_, h42_, z43_, h44_, M45_, hM46_, z50_, h51_, rfl, rfl⟩) (Nat.lt_of_lt_of_le (lf_c_X12_feed_12 M_40 Mz u z7_ z10_ v4_40 z24_ z50_ h4_ e8_ h9_ h11_ h12_ hv0_40 hv1_40 hv2_40 h14_ h25_ h51_) (Nat.le_of_lt_succ hm_40))
      exact lp13_ _ Mz hIz hFz 0 (lf_c_X12_feed_13 ) (lf_c_X12_feed_14 Mz u z7_ z10_ h4_ e8_ h9_ h11_ h12_) (lf_c_X12_feed_15 Mz u z7_ z10_ h4_ e8_ h9_ h11_ h12_) RCH.refl (Nat.lt_succ_self _)
    · refine w_aload_n dX12_feed_30 rfl 0 rfl ?_
      refine w_ldc (v := (-1000004)) m_1456 dX12_feed_31 ?_
      refine w_callV (as := [vI (-1000004)]) (rest := []) (c_X12_finding l G cy ad d (-1000004) Mz hIz (by first | decide | (unfold vF; omega) | (unfold vRw; omega))) kV_X12_finding (by decide +kernel) (Nat.le_of_ble_eq_true rfl) m_1434 rfl rfl rfl ic_12 rfl rfl (by decide) (Nat.le_of_ble_eq_true rfl) dX12_feed_33 (fun r52_ M53_ q54_ => ?_)
      obtain ⟨hI56_, hF57_, h55_, hs59_⟩ := q54_
      have hF58_ := hFz.tr hF57_ (fun c k => (fun h => h.elim (fun h => (Or.inr (Or.inl ⟨h.1, h.2⟩))) (fun h => h.elim)))
      simp only [li_m1000004] at h55_
      exact w_iret rfl dX12_feed_36 ⟨hI56_, hF58_, trivial, (Or.inl ⟨hs5_, h4_, z7_, e8_, h9_, z10_, h11_, (Or.inr ⟨h12_, M53_, hI56_, hF57_, r52_, hs59_, h55_, rfl, rfl⟩)⟩)⟩
  · simp only [li_1, li_8] at h4_
    refine w_if_ne (tgt := 17) dX12_feed_7 (by decide) li_0 (fun h9 => (absurd h9 (by decide))) (fun h60_ => ?_)
    refine w_aload_n dX12_feed_10 rfl 0 rfl ?_
    refine w_ldc (v := (-1000001)) m_1433 dX12_feed_11 ?_
    refine w_callV (as := [vI (-1000001)]) (rest := []) (c_X12_finding l G cy ad d (-1000001) Mz hIz (by first | decide | (unfold vF; omega) | (unfold vRw; omega))) kV_X12_finding (by decide +kernel) (Nat.le_of_ble_eq_true rfl) m_1434 rfl rfl rfl ic_12 rfl rfl (by decide) (Nat.le_of_ble_eq_true rfl) dX12_feed_13 (fun r61_ M62_ q63_ => ?_)
    obtain ⟨hI65_, hF66_, h64_, hs68_⟩ := q63_
    have hF67_ := hFz.tr hF66_ (fun c k => (fun h => h.elim (fun h => (Or.inr (Or.inl ⟨h.1, h.2⟩))) (fun h => h.elim)))
    simp only [li_m1000001] at h64_
    exact w_iret rfl dX12_feed_16 ⟨hI65_, hF67_, trivial, (Or.inr ⟨hs5_, h4_, M62_, hI65_, hF66_, r61_, hs68_, h64_, rfl, rfl⟩)⟩
