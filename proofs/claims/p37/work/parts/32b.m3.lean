def S_c_X12_thing_ : rf → Nat → Prop := fun c k => (c.1 = 50 ∧ c.2.1 = 0) ∨ (c.1 = 53 ∧ c.2.1 = 0) ∨ False
theorem lf_c_X12_thing__0 (Mz : mM) (z16_ : Int32) (e17_ : z16_ = Mz.1 (50, 0, 0) 1) (h18_ : 0 ≤ z16_.toInt ∧ z16_.toInt ≤ 40) (h19_ : ¬ z16_.toInt = 40) : z16_.toInt ≤ 39 := by have r_z16_ := rngI z16_; subst e17_; omega
set_option maxHeartbeats 4000000 in
set_option maxRecDepth 100000 in
theorem c_X12_thing_ (l : Launch) (G : va_G) (cy : Nat → ClassId) (ad : rf → Nat) (d : Nat) (v : Int32) (u : Int32) (Mz : mM) (hIz : InvD Mz) : WP DD l G cy ad yX12_thing_ cX12_thing_ 3 (some .int) (d + 3) 0 [(0, vR (12, 0, 0)), (1, vI v), (2, vI u)] [] Mz (fun r M' => InvD M' ∧ FR (S_c_X12_thing_) Mz M' ∧ True) := by
  have hFz : FR (S_c_X12_thing_) Mz Mz := FR.self
  refine w_iload_n dX12_thing__0 rfl 1 rfl ?_
  refine w_iconst (v := 0) dX12_thing__1 (by decide) ?_
  refine w_iconst (v := 4) dX12_thing__2 (by decide) ?_
  refine w_callS (as := [vI v, vI 0, vI 4]) (rest := []) (c_X12_within l G cy ad (d + 2) v 0 4 Mz hIz) kS_X12_within (by decide +kernel) (Nat.le_of_ble_eq_true rfl) m_1427 rfl rfl (by decide) (Nat.le_of_ble_eq_true rfl) dX12_thing__3 (fun r1_ M2_ q3_ => ?_)
  obtain ⟨rfl, h4_⟩ := q3_
  rcases h4_ with ⟨rfl, h4_⟩ | ⟨rfl, h4_⟩
  · simp only [li_0, li_4] at h4_
    refine w_if_eq (tgt := 16) dX12_thing__6 (by decide) li_1 (fun h9 => (absurd h9 (by decide))) (fun h5_ => ?_)
    refine w_iload_n dX12_thing__9 rfl 2 rfl ?_
    refine w_callS (as := [vI u]) (rest := []) (c_X12_isCell l G cy ad (d + 1) u Mz hIz) kS_X12_isCell (by decide +kernel) (Nat.le_of_ble_eq_true rfl) m_1430 rfl rfl (by decide) (Nat.le_of_ble_eq_true rfl) dX12_thing__10 (fun r6_ M7_ q8_ => ?_)
    obtain ⟨rfl, h9_⟩ := q8_
    rcases h9_ with ⟨rfl, h9_⟩ | ⟨rfl, h9_⟩
    · refine w_if_ne (tgt := 23) dX12_thing__13 (by decide) li_1 (fun h10_ => ?_) (fun h9 => (absurd h9 (by decide)))
      refine w_aload_n dX12_thing__23 rfl 0 rfl ?_
      refine w_iload_n dX12_thing__24 rfl 2 rfl ?_
      refine w_callV (as := [vI u]) (rest := []) (c_X12_isFree l G cy ad d u Mz hIz) kV_X12_isFree (by decide +kernel) (Nat.le_of_ble_eq_true rfl) m_1439 rfl rfl rfl ic_12 rfl rfl (by decide) (Nat.le_of_ble_eq_true rfl) dX12_thing__25 (fun r11_ M12_ q13_ => ?_)
      obtain ⟨rfl, h14_⟩ := q13_
      refine w_if_ne (tgt := 38) dX12_thing__28 (by decide) (rfl : r11_.toInt = r11_.toInt) (fun h15_ => ?_) (fun h15_ => ?_)
      · refine w_aload_n dX12_thing__38 rfl 0 rfl ?_
        refine w_getR (c' := (50, 0, 0)) fl_RX12_9 rfl rfl ic_12 dX12_thing__39 rfl ?_
        refine w_iconst (v := 1) dX12_thing__42 (by decide) ?_
        refine w_ialdL 1 rfl rfl ic_50 li_1 (by decide) dX12_thing__43 (fun z16_ e17_ => ?_)
        have h18_ : 0 ≤ z16_.toInt ∧ z16_.toInt ≤ 40 := pn_1 hIz e17_
        refine w_bipush (v := 40) dX12_thing__44 (by decide) ?_
        refine w_icmp_ne (tgt := 58) dX12_thing__46 (by decide) (rfl : z16_.toInt = z16_.toInt) li_40 (fun h19_ => ?_) (fun h19_ => ?_)
        · refine w_aload_n dX12_thing__58 rfl 0 rfl ?_
          refine w_iload_n dX12_thing__59 rfl 1 rfl ?_
          refine w_iload_n dX12_thing__60 rfl 2 rfl ?_
          refine w_callV (as := [vI v, vI u]) (rest := []) (c_X12_comes l G cy ad (d + 1) v u Mz hIz h4_ h9_ (by rw [← e17_]; exact (lf_c_X12_thing__0 Mz z16_ e17_ h18_ h19_))) kV_X12_comes (by decide +kernel) (Nat.le_of_ble_eq_true rfl) m_1457 rfl rfl rfl ic_12 rfl rfl (by decide) (Nat.le_of_ble_eq_true rfl) dX12_thing__61 (fun r20_ M21_ q22_ => ?_)
          obtain ⟨hI24_, hF25_, h23_⟩ := q22_
          have hF26_ := hFz.tr hF25_ (fun c k => (fun h => h.elim (fun h => (Or.inl ⟨h.1, h.2⟩)) (fun h => h.elim)))
          exact w_iret rfl dX12_thing__64 ⟨hI24_, hF26_, trivial⟩
        · refine w_aload_n dX12_thing__49 rfl 0 rfl ?_
          refine w_ldc (v := (-1000004)) m_1456 dX12_thing__50 ?_
          refine w_callV (as := [vI (-1000004)]) (rest := []) (c_X12_finding l G cy ad (d + 2) (-1000004) Mz hIz (by first | decide | (unfold vF; omega) | (unfold vRw; omega))) kV_X12_finding (by decide +kernel) (Nat.le_of_ble_eq_true rfl) m_1434 rfl rfl rfl ic_12 rfl rfl (by decide) (Nat.le_of_ble_eq_true rfl) dX12_thing__52 (fun r27_ M28_ q29_ => ?_)
          obtain ⟨hI31_, hF32_, h30_⟩ := q29_
          have hF33_ := hFz.tr hF32_ (fun c k => (fun h => h.elim (fun h => (Or.inr (Or.inl ⟨h.1, h.2⟩))) (fun h => h.elim)))
          simp only [li_m1000004] at h30_
          refine w_goto (tgt := 64) dX12_thing__55 (by decide) ?_
          exact w_iret rfl dX12_thing__64 ⟨hI31_, hF33_, trivial⟩
      · refine w_aload_n dX12_thing__31 rfl 0 rfl ?_
        refine w_ldc (v := (-1000003)) m_1455 dX12_thing__32 ?_
        refine w_callV (as := [vI (-1000003)]) (rest := []) (c_X12_finding l G cy ad (d + 2) (-1000003) Mz hIz (by first | decide | (unfold vF; omega) | (unfold vRw; omega))) kV_X12_finding (by decide +kernel) (Nat.le_of_ble_eq_true rfl) m_1434 rfl rfl rfl ic_12 rfl rfl (by decide) (Nat.le_of_ble_eq_true rfl) dX12_thing__34 (fun r34_ M35_ q36_ => ?_)
        obtain ⟨hI38_, hF39_, h37_⟩ := q36_
        have hF40_ := hFz.tr hF39_ (fun c k => (fun h => h.elim (fun h => (Or.inr (Or.inl ⟨h.1, h.2⟩))) (fun h => h.elim)))
        simp only [li_m1000003] at h37_
        exact w_iret rfl dX12_thing__37 ⟨hI38_, hF40_, trivial⟩
    · refine w_if_ne (tgt := 23) dX12_thing__13 (by decide) li_0 (fun h9 => (absurd h9 (by decide))) (fun h41_ => ?_)
      refine w_aload_n dX12_thing__16 rfl 0 rfl ?_
      refine w_ldc (v := (-1000001)) m_1433 dX12_thing__17 ?_
      refine w_callV (as := [vI (-1000001)]) (rest := []) (c_X12_finding l G cy ad (d + 2) (-1000001) Mz hIz (by first | decide | (unfold vF; omega) | (unfold vRw; omega))) kV_X12_finding (by decide +kernel) (Nat.le_of_ble_eq_true rfl) m_1434 rfl rfl rfl ic_12 rfl rfl (by decide) (Nat.le_of_ble_eq_true rfl) dX12_thing__19 (fun r42_ M43_ q44_ => ?_)
      obtain ⟨hI46_, hF47_, h45_⟩ := q44_
      have hF48_ := hFz.tr hF47_ (fun c k => (fun h => h.elim (fun h => (Or.inr (Or.inl ⟨h.1, h.2⟩))) (fun h => h.elim)))
      simp only [li_m1000001] at h45_
      exact w_iret rfl dX12_thing__22 ⟨hI46_, hF48_, trivial⟩
  · simp only [li_0, li_4] at h4_
    refine w_if_eq (tgt := 16) dX12_thing__6 (by decide) li_0 (fun h49_ => ?_) (fun h9 => (absurd h9 (by decide)))
    refine w_aload_n dX12_thing__16 rfl 0 rfl ?_
    refine w_ldc (v := (-1000001)) m_1433 dX12_thing__17 ?_
    refine w_callV (as := [vI (-1000001)]) (rest := []) (c_X12_finding l G cy ad (d + 2) (-1000001) Mz hIz (by first | decide | (unfold vF; omega) | (unfold vRw; omega))) kV_X12_finding (by decide +kernel) (Nat.le_of_ble_eq_true rfl) m_1434 rfl rfl rfl ic_12 rfl rfl (by decide) (Nat.le_of_ble_eq_true rfl) dX12_thing__19 (fun r50_ M51_ q52_ => ?_)
    obtain ⟨hI54_, hF55_, h53_⟩ := q52_
    have hF56_ := hFz.tr hF55_ (fun c k => (fun h => h.elim (fun h => (Or.inr (Or.inl ⟨h.1, h.2⟩))) (fun h => h.elim)))
    simp only [li_m1000001] at h53_
    exact w_iret rfl dX12_thing__22 ⟨hI54_, hF56_, trivial⟩
def S_c_X12_thingIs : rf → Nat → Prop := fun c k => (c.1 = 53 ∧ c.2.1 = 0) ∨ False
theorem lf_c_X12_thingIs_0  (v : Int32) (h4_ : 0 ≤ v.toInt ∧ v.toInt ≤ 39) : -1 ≤ v.toInt ∧ v.toInt ≤ 39 := by have r_v := rngI v; omega
theorem lf_c_X12_thingIs_1  (v : Int32) (u : Int32) (r11_ : Int32) (h4_ : 0 ≤ v.toInt ∧ v.toInt ≤ 39) (h9_ : 0 ≤ u.toInt ∧ u.toInt ≤ 3) (h14_ : r11_.toInt = 20 + 4 * v.toInt) : -2147483648 ≤ r11_.toInt + u.toInt ∧ r11_.toInt + u.toInt < 2147483648 := by have r_v := rngI v; have r_u := rngI u; have r_r11_ := rngI r11_; omega
theorem lf_c_X12_thingIs_2  (v : Int32) (u : Int32) (r11_ : Int32) (z15_ : Int32) (h4_ : 0 ≤ v.toInt ∧ v.toInt ≤ 39) (h9_ : 0 ≤ u.toInt ∧ u.toInt ≤ 3) (h14_ : r11_.toInt = 20 + 4 * v.toInt) (h16_ : z15_.toInt = r11_.toInt + u.toInt) : 0 ≤ z15_.toInt ∧ z15_.toInt < ((3567 : Nat) : Int) := by have r_v := rngI v; have r_u := rngI u; have r_r11_ := rngI r11_; have r_z15_ := rngI z15_; omega
set_option maxHeartbeats 4000000 in
set_option maxRecDepth 100000 in
theorem c_X12_thingIs (l : Launch) (G : va_G) (cy : Nat → ClassId) (ad : rf → Nat) (d : Nat) (v : Int32) (u : Int32) (Mz : mM) (hIz : InvD Mz) : WP DD l G cy ad yX12_thingIs cX12_thingIs 3 (some .int) (d + 2) 0 [(0, vR (12, 0, 0)), (1, vI v), (2, vI u)] [] Mz (fun r M' => InvD M' ∧ FR (S_c_X12_thingIs) Mz M' ∧ True) := by
  have hFz : FR (S_c_X12_thingIs) Mz Mz := FR.self
  refine w_aload_n dX12_thingIs_0 rfl 0 rfl ?_
  refine w_iload_n dX12_thingIs_1 rfl 1 rfl ?_
  refine w_iconst (v := 1) dX12_thingIs_2 (by decide) ?_
  refine w_callV (as := [vI v, vI 1]) (rest := []) (c_is1 l G cy ad d v Mz hIz) kV_X12_is (by decide +kernel) (Nat.le_of_ble_eq_true rfl) m_1465 rfl rfl rfl ic_12 rfl rfl (by decide) (Nat.le_of_ble_eq_true rfl) dX12_thingIs_3 (fun r1_ M2_ q3_ => ?_)
  obtain ⟨rfl, h4_⟩ := q3_
  rcases h4_ with ⟨rfl, h4_⟩ | rfl
  · refine w_if_eq (tgt := 33) dX12_thingIs_6 (by decide) li_1 (fun h9 => (absurd h9 (by decide))) (fun h5_ => ?_)
    refine w_iload_n dX12_thingIs_9 rfl 2 rfl ?_
    refine w_iconst (v := 0) dX12_thingIs_10 (by decide) ?_
    refine w_iconst (v := 3) dX12_thingIs_11 (by decide) ?_
    refine w_callS (as := [vI u, vI 0, vI 3]) (rest := []) (c_X12_within l G cy ad (d + 1) u 0 3 Mz hIz) kS_X12_within (by decide +kernel) (Nat.le_of_ble_eq_true rfl) m_1427 rfl rfl (by decide) (Nat.le_of_ble_eq_true rfl) dX12_thingIs_12 (fun r6_ M7_ q8_ => ?_)
    obtain ⟨rfl, h9_⟩ := q8_
    rcases h9_ with ⟨rfl, h9_⟩ | ⟨rfl, h9_⟩
    · simp only [li_0, li_3] at h9_
      refine w_if_eq (tgt := 33) dX12_thingIs_15 (by decide) li_1 (fun h9 => (absurd h9 (by decide))) (fun h10_ => ?_)
      refine w_aload_n dX12_thingIs_18 rfl 0 rfl ?_
      refine w_getR (c' := (50, 0, 0)) fl_RX12_9 rfl rfl ic_12 dX12_thingIs_19 rfl ?_
      refine w_aload_n dX12_thingIs_22 rfl 0 rfl ?_
      refine w_iload_n dX12_thingIs_23 rfl 1 rfl ?_
      refine w_callV (as := [vI v]) (rest := [vR (50, 0, 0)]) (c_X12_thing l G cy ad (d + 1) v Mz hIz (lf_c_X12_thingIs_0 v h4_)) kV_X12_thing (by decide +kernel) (Nat.le_of_ble_eq_true rfl) m_1447 rfl rfl rfl ic_12 rfl rfl (by decide) (Nat.le_of_ble_eq_true rfl) dX12_thingIs_24 (fun r11_ M12_ q13_ => ?_)
      obtain ⟨rfl, h14_⟩ := q13_
      refine w_iload_n dX12_thingIs_27 rfl 2 rfl ?_
      refine w_iaddB dX12_thingIs_28 (rfl : r11_.toInt = r11_.toInt) (rfl : u.toInt = u.toInt) (lf_c_X12_thingIs_1 v u r11_ h4_ h9_ h14_) (fun z15_ h16_ => ?_)
      refine w_iald rfl rfl ic_50 (rfl : z15_.toInt = z15_.toInt) (lf_c_X12_thingIs_2 v u r11_ z15_ h4_ h9_ h14_ h16_) dX12_thingIs_29 (fun j19_ h20_ z17_ e18_ => ?_)
      refine w_goto (tgt := 39) dX12_thingIs_30 (by decide) ?_
      exact w_iret rfl dX12_thingIs_39 ⟨hIz, hFz, trivial⟩
    · simp only [li_0, li_3] at h9_
      refine w_if_eq (tgt := 33) dX12_thingIs_15 (by decide) li_0 (fun h21_ => ?_) (fun h9 => (absurd h9 (by decide)))
      refine w_aload_n dX12_thingIs_33 rfl 0 rfl ?_
      refine w_ldc (v := (-1000001)) m_1433 dX12_thingIs_34 ?_
      refine w_callV (as := [vI (-1000001)]) (rest := []) (c_X12_finding l G cy ad (d + 1) (-1000001) Mz hIz (by first | decide | (unfold vF; omega) | (unfold vRw; omega))) kV_X12_finding (by decide +kernel) (Nat.le_of_ble_eq_true rfl) m_1434 rfl rfl rfl ic_12 rfl rfl (by decide) (Nat.le_of_ble_eq_true rfl) dX12_thingIs_36 (fun r22_ M23_ q24_ => ?_)
      obtain ⟨hI26_, hF27_, h25_⟩ := q24_
      have hF28_ := hFz.tr hF27_ (fun c k => (fun h => h.elim (fun h => (Or.inl ⟨h.1, h.2⟩)) (fun h => h.elim)))
      simp only [li_m1000001] at h25_
      exact w_iret rfl dX12_thingIs_39 ⟨hI26_, hF28_, trivial⟩
  · refine w_if_eq (tgt := 33) dX12_thingIs_6 (by decide) li_0 (fun h29_ => ?_) (fun h9 => (absurd h9 (by decide)))
    refine w_aload_n dX12_thingIs_33 rfl 0 rfl ?_
    refine w_ldc (v := (-1000001)) m_1433 dX12_thingIs_34 ?_
    refine w_callV (as := [vI (-1000001)]) (rest := []) (c_X12_finding l G cy ad (d + 1) (-1000001) Mz hIz (by first | decide | (unfold vF; omega) | (unfold vRw; omega))) kV_X12_finding (by decide +kernel) (Nat.le_of_ble_eq_true rfl) m_1434 rfl rfl rfl ic_12 rfl rfl (by decide) (Nat.le_of_ble_eq_true rfl) dX12_thingIs_36 (fun r30_ M31_ q32_ => ?_)
    obtain ⟨hI34_, hF35_, h33_⟩ := q32_
    have hF36_ := hFz.tr hF35_ (fun c k => (fun h => h.elim (fun h => (Or.inl ⟨h.1, h.2⟩)) (fun h => h.elim)))
    simp only [li_m1000001] at h33_
    exact w_iret rfl dX12_thingIs_39 ⟨hI34_, hF36_, trivial⟩
def S_c_X12_moves : rf → Nat → Prop := fun c k => (c.1 = 50 ∧ c.2.1 = 0) ∨ (c.1 = 53 ∧ c.2.1 = 0) ∨ False
theorem lf_c_X12_moves_0  (v : Int32) (h4_ : 0 ≤ v.toInt ∧ v.toInt ≤ 39) : -1 ≤ v.toInt ∧ v.toInt ≤ 39 := by have r_v := rngI v; omega
theorem lf_c_X12_moves_1  (v : Int32) (r16_ : Int32) (h4_ : 0 ≤ v.toInt ∧ v.toInt ≤ 39) (h19_ : r16_.toInt = 20 + 4 * v.toInt) : -2147483648 ≤ r16_.toInt + 0 ∧ r16_.toInt + 0 < 2147483648 := by have r_v := rngI v; have r_r16_ := rngI r16_; omega
theorem lf_c_X12_moves_2  (v : Int32) (r16_ : Int32) (z20_ : Int32) (h4_ : 0 ≤ v.toInt ∧ v.toInt ≤ 39) (h19_ : r16_.toInt = 20 + 4 * v.toInt) (h21_ : z20_.toInt = r16_.toInt + 0) : 0 ≤ z20_.toInt ∧ z20_.toInt < ((3567 : Nat) : Int) := by have r_v := rngI v; have r_r16_ := rngI r16_; have r_z20_ := rngI z20_; omega
theorem lf_c_X12_moves_3 (Mz : mM) (v : Int32) (r16_ : Int32) (z20_ : Int32) (j24_ : Nat) (z22_ : Int32) (h4_ : 0 ≤ v.toInt ∧ v.toInt ≤ 39) (h19_ : r16_.toInt = 20 + 4 * v.toInt) (h21_ : z20_.toInt = r16_.toInt + 0) (h25_ : (j24_ : Int) = z20_.toInt) (e23_ : z22_ = Mz.1 (50, 0, 0) j24_) : 20 ≤ j24_ ∧ j24_ < 180 ∧ j24_ % 4 = 0 := by have r_v := rngI v; have r_r16_ := rngI r16_; have r_z20_ := rngI z20_; have r_z22_ := rngI z22_; subst e23_; omega
theorem lf_c_X12_moves_4 (Mz : mM) (v : Int32) (r16_ : Int32) (z20_ : Int32) (j24_ : Nat) (z22_ : Int32) (h4_ : 0 ≤ v.toInt ∧ v.toInt ≤ 39) (h19_ : r16_.toInt = 20 + 4 * v.toInt) (h21_ : z20_.toInt = r16_.toInt + 0) (h25_ : (j24_ : Int) = z20_.toInt) (e23_ : z22_ = Mz.1 (50, 0, 0) j24_) (h26_ : 0 ≤ z22_.toInt ∧ z22_.toInt ≤ 4) (h27_ : 3 ≤ z22_.toInt) : -1 ≤ v.toInt ∧ v.toInt ≤ 39 := by have r_v := rngI v; have r_r16_ := rngI r16_; have r_z20_ := rngI z20_; have r_z22_ := rngI z22_; subst e23_; omega
theorem lf_c_X12_moves_5 (Mz : mM) (v : Int32) (r16_ : Int32) (z20_ : Int32) (j24_ : Nat) (z22_ : Int32) (r28_ : Int32) (h4_ : 0 ≤ v.toInt ∧ v.toInt ≤ 39) (h19_ : r16_.toInt = 20 + 4 * v.toInt) (h21_ : z20_.toInt = r16_.toInt + 0) (h25_ : (j24_ : Int) = z20_.toInt) (e23_ : z22_ = Mz.1 (50, 0, 0) j24_) (h26_ : 0 ≤ z22_.toInt ∧ z22_.toInt ≤ 4) (h27_ : 3 ≤ z22_.toInt) (h31_ : r28_.toInt = 20 + 4 * v.toInt) : -2147483648 ≤ r28_.toInt + 1 ∧ r28_.toInt + 1 < 2147483648 := by have r_v := rngI v; have r_r16_ := rngI r16_; have r_z20_ := rngI z20_; have r_z22_ := rngI z22_; have r_r28_ := rngI r28_; subst e23_; omega
theorem lf_c_X12_moves_6 (Mz : mM) (v : Int32) (r16_ : Int32) (z20_ : Int32) (j24_ : Nat) (z22_ : Int32) (r28_ : Int32) (z32_ : Int32) (h4_ : 0 ≤ v.toInt ∧ v.toInt ≤ 39) (h19_ : r16_.toInt = 20 + 4 * v.toInt) (h21_ : z20_.toInt = r16_.toInt + 0) (h25_ : (j24_ : Int) = z20_.toInt) (e23_ : z22_ = Mz.1 (50, 0, 0) j24_) (h26_ : 0 ≤ z22_.toInt ∧ z22_.toInt ≤ 4) (h27_ : 3 ≤ z22_.toInt) (h31_ : r28_.toInt = 20 + 4 * v.toInt) (h33_ : z32_.toInt = r28_.toInt + 1) : 0 ≤ z32_.toInt ∧ z32_.toInt < ((3567 : Nat) : Int) := by have r_v := rngI v; have r_r16_ := rngI r16_; have r_z20_ := rngI z20_; have r_z22_ := rngI z22_; have r_r28_ := rngI r28_; have r_z32_ := rngI z32_; subst e23_; omega
theorem lf_c_X12_moves_7 (Mz : mM) (v : Int32) (r16_ : Int32) (z20_ : Int32) (j24_ : Nat) (z22_ : Int32) (r28_ : Int32) (z32_ : Int32) (j36_ : Nat) (z34_ : Int32) (h4_ : 0 ≤ v.toInt ∧ v.toInt ≤ 39) (h19_ : r16_.toInt = 20 + 4 * v.toInt) (h21_ : z20_.toInt = r16_.toInt + 0) (h25_ : (j24_ : Int) = z20_.toInt) (e23_ : z22_ = Mz.1 (50, 0, 0) j24_) (h26_ : 0 ≤ z22_.toInt ∧ z22_.toInt ≤ 4) (h27_ : 3 ≤ z22_.toInt) (h31_ : r28_.toInt = 20 + 4 * v.toInt) (h33_ : z32_.toInt = r28_.toInt + 1) (h37_ : (j36_ : Int) = z32_.toInt) (e35_ : z34_ = Mz.1 (50, 0, 0) j36_) : 20 ≤ j36_ ∧ j36_ < 180 ∧ j36_ % 4 = 1 := by have r_v := rngI v; have r_r16_ := rngI r16_; have r_z20_ := rngI z20_; have r_z22_ := rngI z22_; have r_r28_ := rngI r28_; have r_z32_ := rngI z32_; have r_z34_ := rngI z34_; subst e23_; subst e35_; omega
theorem lf_c_X12_moves_8 (Mz : mM) (v : Int32) (r16_ : Int32) (z20_ : Int32) (j24_ : Nat) (z22_ : Int32) (r28_ : Int32) (z32_ : Int32) (j36_ : Nat) (z34_ : Int32) (h4_ : 0 ≤ v.toInt ∧ v.toInt ≤ 39) (h19_ : r16_.toInt = 20 + 4 * v.toInt) (h21_ : z20_.toInt = r16_.toInt + 0) (h25_ : (j24_ : Int) = z20_.toInt) (e23_ : z22_ = Mz.1 (50, 0, 0) j24_) (h26_ : 0 ≤ z22_.toInt ∧ z22_.toInt ≤ 4) (h27_ : 3 ≤ z22_.toInt) (h31_ : r28_.toInt = 20 + 4 * v.toInt) (h33_ : z32_.toInt = r28_.toInt + 1) (h37_ : (j36_ : Int) = z32_.toInt) (e35_ : z34_ = Mz.1 (50, 0, 0) j36_) (h38_ : -1 ≤ z34_.toInt ∧ z34_.toInt ≤ 191) (h39_ : 0 ≤ z34_.toInt) : -1 ≤ v.toInt ∧ v.toInt ≤ 39 := by have r_v := rngI v; have r_r16_ := rngI r16_; have r_z20_ := rngI z20_; have r_z22_ := rngI z22_; have r_r28_ := rngI r28_; have r_z32_ := rngI z32_; have r_z34_ := rngI z34_; subst e23_; subst e35_; omega
theorem lf_c_X12_moves_9 (Mz : mM) (v : Int32) (r16_ : Int32) (z20_ : Int32) (j24_ : Nat) (z22_ : Int32) (r28_ : Int32) (z32_ : Int32) (j36_ : Nat) (z34_ : Int32) (r40_ : Int32) (h4_ : 0 ≤ v.toInt ∧ v.toInt ≤ 39) (h19_ : r16_.toInt = 20 + 4 * v.toInt) (h21_ : z20_.toInt = r16_.toInt + 0) (h25_ : (j24_ : Int) = z20_.toInt) (e23_ : z22_ = Mz.1 (50, 0, 0) j24_) (h26_ : 0 ≤ z22_.toInt ∧ z22_.toInt ≤ 4) (h27_ : 3 ≤ z22_.toInt) (h31_ : r28_.toInt = 20 + 4 * v.toInt) (h33_ : z32_.toInt = r28_.toInt + 1) (h37_ : (j36_ : Int) = z32_.toInt) (e35_ : z34_ = Mz.1 (50, 0, 0) j36_) (h38_ : -1 ≤ z34_.toInt ∧ z34_.toInt ≤ 191) (h39_ : 0 ≤ z34_.toInt) (h43_ : r40_.toInt = 20 + 4 * v.toInt) : -2147483648 ≤ r40_.toInt + 2 ∧ r40_.toInt + 2 < 2147483648 := by have r_v := rngI v; have r_r16_ := rngI r16_; have r_z20_ := rngI z20_; have r_z22_ := rngI z22_; have r_r28_ := rngI r28_; have r_z32_ := rngI z32_; have r_z34_ := rngI z34_; have r_r40_ := rngI r40_; subst e23_; subst e35_; omega
theorem lf_c_X12_moves_10 (Mz : mM) (v : Int32) (r16_ : Int32) (z20_ : Int32) (j24_ : Nat) (z22_ : Int32) (r28_ : Int32) (z32_ : Int32) (j36_ : Nat) (z34_ : Int32) (r40_ : Int32) (z44_ : Int32) (h4_ : 0 ≤ v.toInt ∧ v.toInt ≤ 39) (h19_ : r16_.toInt = 20 + 4 * v.toInt) (h21_ : z20_.toInt = r16_.toInt + 0) (h25_ : (j24_ : Int) = z20_.toInt) (e23_ : z22_ = Mz.1 (50, 0, 0) j24_) (h26_ : 0 ≤ z22_.toInt ∧ z22_.toInt ≤ 4) (h27_ : 3 ≤ z22_.toInt) (h31_ : r28_.toInt = 20 + 4 * v.toInt) (h33_ : z32_.toInt = r28_.toInt + 1) (h37_ : (j36_ : Int) = z32_.toInt) (e35_ : z34_ = Mz.1 (50, 0, 0) j36_) (h38_ : -1 ≤ z34_.toInt ∧ z34_.toInt ≤ 191) (h39_ : 0 ≤ z34_.toInt) (h43_ : r40_.toInt = 20 + 4 * v.toInt) (h45_ : z44_.toInt = r40_.toInt + 2) : 0 ≤ z44_.toInt ∧ z44_.toInt < ((3567 : Nat) : Int) := by have r_v := rngI v; have r_r16_ := rngI r16_; have r_z20_ := rngI z20_; have r_z22_ := rngI z22_; have r_r28_ := rngI r28_; have r_z32_ := rngI z32_; have r_z34_ := rngI z34_; have r_r40_ := rngI r40_; have r_z44_ := rngI z44_; subst e23_; subst e35_; omega
theorem lf_c_X12_moves_11 (M46_ : mM) (Mz : mM) (v : Int32) (u : Int32) (r16_ : Int32) (z20_ : Int32) (j24_ : Nat) (z22_ : Int32) (r28_ : Int32) (z32_ : Int32) (j36_ : Nat) (z34_ : Int32) (r40_ : Int32) (z44_ : Int32) (j48_ : Nat) (h4_ : 0 ≤ v.toInt ∧ v.toInt ≤ 39) (h9_ : 0 ≤ u.toInt ∧ u.toInt ≤ 7) (h19_ : r16_.toInt = 20 + 4 * v.toInt) (h21_ : z20_.toInt = r16_.toInt + 0) (h25_ : (j24_ : Int) = z20_.toInt) (e23_ : z22_ = Mz.1 (50, 0, 0) j24_) (h26_ : 0 ≤ z22_.toInt ∧ z22_.toInt ≤ 4) (h27_ : 3 ≤ z22_.toInt) (h31_ : r28_.toInt = 20 + 4 * v.toInt) (h33_ : z32_.toInt = r28_.toInt + 1) (h37_ : (j36_ : Int) = z32_.toInt) (e35_ : z34_ = Mz.1 (50, 0, 0) j36_) (h38_ : -1 ≤ z34_.toInt ∧ z34_.toInt ≤ 191) (h39_ : 0 ≤ z34_.toInt) (h43_ : r40_.toInt = 20 + 4 * v.toInt) (h45_ : z44_.toInt = r40_.toInt + 2) (h49_ : (j48_ : Int) = z44_.toInt) (hM47_ : M46_ = up Mz (50, 0, 0) j48_ u) : PN j48_ u ∧ (j48_ < 345 ∨ 493 < j48_) := by have r_v := rngI v; have r_u := rngI u; have r_r16_ := rngI r16_; have r_z20_ := rngI z20_; have r_z22_ := rngI z22_; have r_r28_ := rngI r28_; have r_z32_ := rngI z32_; have r_z34_ := rngI z34_; have r_r40_ := rngI r40_; have r_z44_ := rngI z44_; subst e23_; subst e35_; unfold PN; omega
theorem lf_c_X12_moves_12 (M46_ : mM) (Mz : mM) (v : Int32) (u : Int32) (r16_ : Int32) (z20_ : Int32) (j24_ : Nat) (z22_ : Int32) (r28_ : Int32) (z32_ : Int32) (j36_ : Nat) (z34_ : Int32) (r40_ : Int32) (z44_ : Int32) (j48_ : Nat) (h4_ : 0 ≤ v.toInt ∧ v.toInt ≤ 39) (h9_ : 0 ≤ u.toInt ∧ u.toInt ≤ 7) (h19_ : r16_.toInt = 20 + 4 * v.toInt) (h21_ : z20_.toInt = r16_.toInt + 0) (h25_ : (j24_ : Int) = z20_.toInt) (e23_ : z22_ = Mz.1 (50, 0, 0) j24_) (h26_ : 0 ≤ z22_.toInt ∧ z22_.toInt ≤ 4) (h27_ : 3 ≤ z22_.toInt) (h31_ : r28_.toInt = 20 + 4 * v.toInt) (h33_ : z32_.toInt = r28_.toInt + 1) (h37_ : (j36_ : Int) = z32_.toInt) (e35_ : z34_ = Mz.1 (50, 0, 0) j36_) (h38_ : -1 ≤ z34_.toInt ∧ z34_.toInt ≤ 191) (h39_ : 0 ≤ z34_.toInt) (h43_ : r40_.toInt = 20 + 4 * v.toInt) (h45_ : z44_.toInt = r40_.toInt + 2) (h49_ : (j48_ : Int) = z44_.toInt) (hM47_ : M46_ = up Mz (50, 0, 0) j48_ u) : -1 ≤ v.toInt ∧ v.toInt ≤ 39 := by have r_v := rngI v; have r_u := rngI u; have r_r16_ := rngI r16_; have r_z20_ := rngI z20_; have r_z22_ := rngI z22_; have r_r28_ := rngI r28_; have r_z32_ := rngI z32_; have r_z34_ := rngI z34_; have r_r40_ := rngI r40_; have r_z44_ := rngI z44_; subst e23_; subst e35_; omega
theorem lf_c_X12_moves_13 (M46_ : mM) (Mz : mM) (v : Int32) (u : Int32) (r16_ : Int32) (z20_ : Int32) (j24_ : Nat) (z22_ : Int32) (r28_ : Int32) (z32_ : Int32) (j36_ : Nat) (z34_ : Int32) (r40_ : Int32) (z44_ : Int32) (j48_ : Nat) (r52_ : Int32) (h4_ : 0 ≤ v.toInt ∧ v.toInt ≤ 39) (h9_ : 0 ≤ u.toInt ∧ u.toInt ≤ 7) (h19_ : r16_.toInt = 20 + 4 * v.toInt) (h21_ : z20_.toInt = r16_.toInt + 0) (h25_ : (j24_ : Int) = z20_.toInt) (e23_ : z22_ = Mz.1 (50, 0, 0) j24_) (h26_ : 0 ≤ z22_.toInt ∧ z22_.toInt ≤ 4) (h27_ : 3 ≤ z22_.toInt) (h31_ : r28_.toInt = 20 + 4 * v.toInt) (h33_ : z32_.toInt = r28_.toInt + 1) (h37_ : (j36_ : Int) = z32_.toInt) (e35_ : z34_ = Mz.1 (50, 0, 0) j36_) (h38_ : -1 ≤ z34_.toInt ∧ z34_.toInt ≤ 191) (h39_ : 0 ≤ z34_.toInt) (h43_ : r40_.toInt = 20 + 4 * v.toInt) (h45_ : z44_.toInt = r40_.toInt + 2) (h49_ : (j48_ : Int) = z44_.toInt) (hM47_ : M46_ = up Mz (50, 0, 0) j48_ u) (h55_ : r52_.toInt = 20 + 4 * v.toInt) : -2147483648 ≤ r52_.toInt + 3 ∧ r52_.toInt + 3 < 2147483648 := by have r_v := rngI v; have r_u := rngI u; have r_r16_ := rngI r16_; have r_z20_ := rngI z20_; have r_z22_ := rngI z22_; have r_r28_ := rngI r28_; have r_z32_ := rngI z32_; have r_z34_ := rngI z34_; have r_r40_ := rngI r40_; have r_z44_ := rngI z44_; have r_r52_ := rngI r52_; subst e23_; subst e35_; omega
theorem lf_c_X12_moves_14 (M46_ : mM) (Mz : mM) (v : Int32) (u : Int32) (r16_ : Int32) (z20_ : Int32) (j24_ : Nat) (z22_ : Int32) (r28_ : Int32) (z32_ : Int32) (j36_ : Nat) (z34_ : Int32) (r40_ : Int32) (z44_ : Int32) (j48_ : Nat) (r52_ : Int32) (z56_ : Int32) (h4_ : 0 ≤ v.toInt ∧ v.toInt ≤ 39) (h9_ : 0 ≤ u.toInt ∧ u.toInt ≤ 7) (h19_ : r16_.toInt = 20 + 4 * v.toInt) (h21_ : z20_.toInt = r16_.toInt + 0) (h25_ : (j24_ : Int) = z20_.toInt) (e23_ : z22_ = Mz.1 (50, 0, 0) j24_) (h26_ : 0 ≤ z22_.toInt ∧ z22_.toInt ≤ 4) (h27_ : 3 ≤ z22_.toInt) (h31_ : r28_.toInt = 20 + 4 * v.toInt) (h33_ : z32_.toInt = r28_.toInt + 1) (h37_ : (j36_ : Int) = z32_.toInt) (e35_ : z34_ = Mz.1 (50, 0, 0) j36_) (h38_ : -1 ≤ z34_.toInt ∧ z34_.toInt ≤ 191) (h39_ : 0 ≤ z34_.toInt) (h43_ : r40_.toInt = 20 + 4 * v.toInt) (h45_ : z44_.toInt = r40_.toInt + 2) (h49_ : (j48_ : Int) = z44_.toInt) (hM47_ : M46_ = up Mz (50, 0, 0) j48_ u) (h55_ : r52_.toInt = 20 + 4 * v.toInt) (h57_ : z56_.toInt = r52_.toInt + 3) : 0 ≤ z56_.toInt ∧ z56_.toInt < ((3567 : Nat) : Int) := by have r_v := rngI v; have r_u := rngI u; have r_r16_ := rngI r16_; have r_z20_ := rngI z20_; have r_z22_ := rngI z22_; have r_r28_ := rngI r28_; have r_z32_ := rngI z32_; have r_z34_ := rngI z34_; have r_r40_ := rngI r40_; have r_z44_ := rngI z44_; have r_r52_ := rngI r52_; have r_z56_ := rngI z56_; subst e23_; subst e35_; omega
theorem lf_c_X12_moves_15 (M46_ : mM) (M58_ : mM) (Mz : mM) (v : Int32) (u : Int32) (t : Int32) (r16_ : Int32) (z20_ : Int32) (j24_ : Nat) (z22_ : Int32) (r28_ : Int32) (z32_ : Int32) (j36_ : Nat) (z34_ : Int32) (r40_ : Int32) (z44_ : Int32) (j48_ : Nat) (r52_ : Int32) (z56_ : Int32) (j60_ : Nat) (h4_ : 0 ≤ v.toInt ∧ v.toInt ≤ 39) (h9_ : 0 ≤ u.toInt ∧ u.toInt ≤ 7) (h14_ : 0 ≤ t.toInt ∧ t.toInt ≤ 20) (h19_ : r16_.toInt = 20 + 4 * v.toInt) (h21_ : z20_.toInt = r16_.toInt + 0) (h25_ : (j24_ : Int) = z20_.toInt) (e23_ : z22_ = Mz.1 (50, 0, 0) j24_) (h26_ : 0 ≤ z22_.toInt ∧ z22_.toInt ≤ 4) (h27_ : 3 ≤ z22_.toInt) (h31_ : r28_.toInt = 20 + 4 * v.toInt) (h33_ : z32_.toInt = r28_.toInt + 1) (h37_ : (j36_ : Int) = z32_.toInt) (e35_ : z34_ = Mz.1 (50, 0, 0) j36_) (h38_ : -1 ≤ z34_.toInt ∧ z34_.toInt ≤ 191) (h39_ : 0 ≤ z34_.toInt) (h43_ : r40_.toInt = 20 + 4 * v.toInt) (h45_ : z44_.toInt = r40_.toInt + 2) (h49_ : (j48_ : Int) = z44_.toInt) (hM47_ : M46_ = up Mz (50, 0, 0) j48_ u) (h55_ : r52_.toInt = 20 + 4 * v.toInt) (h57_ : z56_.toInt = r52_.toInt + 3) (h61_ : (j60_ : Int) = z56_.toInt) (hM59_ : M58_ = up M46_ (50, 0, 0) j60_ t) : PN j60_ t ∧ (j60_ < 345 ∨ 493 < j60_) := by have r_v := rngI v; have r_u := rngI u; have r_t := rngI t; have r_r16_ := rngI r16_; have r_z20_ := rngI z20_; have r_z22_ := rngI z22_; have r_r28_ := rngI r28_; have r_z32_ := rngI z32_; have r_z34_ := rngI z34_; have r_r40_ := rngI r40_; have r_z44_ := rngI z44_; have r_r52_ := rngI r52_; have r_z56_ := rngI z56_; subst e23_; subst e35_; unfold PN; omega
set_option maxHeartbeats 4000000 in
set_option maxRecDepth 100000 in
theorem c_X12_moves (l : Launch) (G : va_G) (cy : Nat → ClassId) (ad : rf → Nat) (d : Nat) (v : Int32) (u : Int32) (t : Int32) (Mz : mM) (hIz : InvD Mz) : WP DD l G cy ad yX12_moves cX12_moves 4 (some .int) (d + 2) 0 [(0, vR (12, 0, 0)), (1, vI v), (2, vI u), (3, vI t)] [] Mz (fun r M' => InvD M' ∧ FR (S_c_X12_moves) Mz M' ∧ True) := by
  have hFz : FR (S_c_X12_moves) Mz Mz := FR.self
  refine w_aload_n dX12_moves_0 rfl 0 rfl ?_
  refine w_iload_n dX12_moves_1 rfl 1 rfl ?_
  refine w_iconst (v := 1) dX12_moves_2 (by decide) ?_
  refine w_callV (as := [vI v, vI 1]) (rest := []) (c_is1 l G cy ad d v Mz hIz) kV_X12_is (by decide +kernel) (Nat.le_of_ble_eq_true rfl) m_1465 rfl rfl rfl ic_12 rfl rfl (by decide) (Nat.le_of_ble_eq_true rfl) dX12_moves_3 (fun r1_ M2_ q3_ => ?_)
  obtain ⟨rfl, h4_⟩ := q3_
  rcases h4_ with ⟨rfl, h4_⟩ | rfl
  · refine w_if_eq (tgt := 26) dX12_moves_6 (by decide) li_1 (fun h9 => (absurd h9 (by decide))) (fun h5_ => ?_)
    refine w_iload_n dX12_moves_9 rfl 2 rfl ?_
    refine w_callS (as := [vI u]) (rest := []) (c_X12_isSide l G cy ad d u Mz hIz) kS_X12_isSide (by decide +kernel) (Nat.le_of_ble_eq_true rfl) m_1473 rfl rfl (by decide) (Nat.le_of_ble_eq_true rfl) dX12_moves_10 (fun r6_ M7_ q8_ => ?_)
    obtain ⟨rfl, h9_⟩ := q8_
    rcases h9_ with ⟨rfl, h9_⟩ | ⟨rfl, h9_⟩
    · refine w_if_eq (tgt := 26) dX12_moves_13 (by decide) li_1 (fun h9 => (absurd h9 (by decide))) (fun h10_ => ?_)
      refine w_iload_n dX12_moves_16 rfl 3 rfl ?_
      refine w_iconst (v := 0) dX12_moves_17 (by decide) ?_
      refine w_bipush (v := 20) dX12_moves_18 (by decide) ?_
      refine w_callS (as := [vI t, vI 0, vI 20]) (rest := []) (c_X12_within l G cy ad (d + 1) t 0 20 Mz hIz) kS_X12_within (by decide +kernel) (Nat.le_of_ble_eq_true rfl) m_1427 rfl rfl (by decide) (Nat.le_of_ble_eq_true rfl) dX12_moves_20 (fun r11_ M12_ q13_ => ?_)
      obtain ⟨rfl, h14_⟩ := q13_
      rcases h14_ with ⟨rfl, h14_⟩ | ⟨rfl, h14_⟩
      · simp only [li_0, li_20] at h14_
        refine w_if_ne (tgt := 33) dX12_moves_23 (by decide) li_1 (fun h15_ => ?_) (fun h9 => (absurd h9 (by decide)))
        refine w_aload_n dX12_moves_33 rfl 0 rfl ?_
        refine w_getR (c' := (50, 0, 0)) fl_RX12_9 rfl rfl ic_12 dX12_moves_34 rfl ?_
        refine w_aload_n dX12_moves_37 rfl 0 rfl ?_
        refine w_iload_n dX12_moves_38 rfl 1 rfl ?_
        refine w_callV (as := [vI v]) (rest := [vR (50, 0, 0)]) (c_X12_thing l G cy ad (d + 1) v Mz hIz (lf_c_X12_moves_0 v h4_)) kV_X12_thing (by decide +kernel) (Nat.le_of_ble_eq_true rfl) m_1447 rfl rfl rfl ic_12 rfl rfl (by decide) (Nat.le_of_ble_eq_true rfl) dX12_moves_39 (fun r16_ M17_ q18_ => ?_)
        obtain ⟨rfl, h19_⟩ := q18_
        refine w_iconst (v := 0) dX12_moves_42 (by decide) ?_
        refine w_iaddB dX12_moves_43 (rfl : r16_.toInt = r16_.toInt) li_0 (lf_c_X12_moves_1 v r16_ h4_ h19_) (fun z20_ h21_ => ?_)
        refine w_iald rfl rfl ic_50 (rfl : z20_.toInt = z20_.toInt) (lf_c_X12_moves_2 v r16_ z20_ h4_ h19_ h21_) dX12_moves_44 (fun j24_ h25_ z22_ e23_ => ?_)
        have h26_ : 0 ≤ z22_.toInt ∧ z22_.toInt ≤ 4 := pn_tk hIz e23_ (lf_c_X12_moves_3 Mz v r16_ z20_ j24_ z22_ h4_ h19_ h21_ h25_ e23_)
        refine w_iconst (v := 3) dX12_moves_45 (by decide) ?_
        refine w_icmp_ge (tgt := 56) dX12_moves_46 (by decide) (rfl : z22_.toInt = z22_.toInt) li_3 (fun h27_ => ?_) (fun h27_ => ?_)
        · refine w_aload_n dX12_moves_56 rfl 0 rfl ?_
          refine w_getR (c' := (50, 0, 0)) fl_RX12_9 rfl rfl ic_12 dX12_moves_57 rfl ?_
          refine w_aload_n dX12_moves_60 rfl 0 rfl ?_
          refine w_iload_n dX12_moves_61 rfl 1 rfl ?_
          refine w_callV (as := [vI v]) (rest := [vR (50, 0, 0)]) (c_X12_thing l G cy ad (d + 1) v Mz hIz (lf_c_X12_moves_4 Mz v r16_ z20_ j24_ z22_ h4_ h19_ h21_ h25_ e23_ h26_ h27_)) kV_X12_thing (by decide +kernel) (Nat.le_of_ble_eq_true rfl) m_1447 rfl rfl rfl ic_12 rfl rfl (by decide) (Nat.le_of_ble_eq_true rfl) dX12_moves_62 (fun r28_ M29_ q30_ => ?_)
          obtain ⟨rfl, h31_⟩ := q30_
          refine w_iconst (v := 1) dX12_moves_65 (by decide) ?_
          refine w_iaddB dX12_moves_66 (rfl : r28_.toInt = r28_.toInt) li_1 (lf_c_X12_moves_5 Mz v r16_ z20_ j24_ z22_ r28_ h4_ h19_ h21_ h25_ e23_ h26_ h27_ h31_) (fun z32_ h33_ => ?_)
          refine w_iald rfl rfl ic_50 (rfl : z32_.toInt = z32_.toInt) (lf_c_X12_moves_6 Mz v r16_ z20_ j24_ z22_ r28_ z32_ h4_ h19_ h21_ h25_ e23_ h26_ h27_ h31_ h33_) dX12_moves_67 (fun j36_ h37_ z34_ e35_ => ?_)
          have h38_ : -1 ≤ z34_.toInt ∧ z34_.toInt ≤ 191 := pn_tc hIz e35_ (lf_c_X12_moves_7 Mz v r16_ z20_ j24_ z22_ r28_ z32_ j36_ z34_ h4_ h19_ h21_ h25_ e23_ h26_ h27_ h31_ h33_ h37_ e35_)
          refine w_if_ge (tgt := 78) dX12_moves_68 (by decide) (rfl : z34_.toInt = z34_.toInt) (fun h39_ => ?_) (fun h39_ => ?_)
          · refine w_aload_n dX12_moves_78 rfl 0 rfl ?_
            refine w_getR (c' := (50, 0, 0)) fl_RX12_9 rfl rfl ic_12 dX12_moves_79 rfl ?_
            refine w_aload_n dX12_moves_82 rfl 0 rfl ?_
            refine w_iload_n dX12_moves_83 rfl 1 rfl ?_
            refine w_callV (as := [vI v]) (rest := [vR (50, 0, 0)]) (c_X12_thing l G cy ad (d + 1) v Mz hIz (lf_c_X12_moves_8 Mz v r16_ z20_ j24_ z22_ r28_ z32_ j36_ z34_ h4_ h19_ h21_ h25_ e23_ h26_ h27_ h31_ h33_ h37_ e35_ h38_ h39_)) kV_X12_thing (by decide +kernel) (Nat.le_of_ble_eq_true rfl) m_1447 rfl rfl rfl ic_12 rfl rfl (by decide) (Nat.le_of_ble_eq_true rfl) dX12_moves_84 (fun r40_ M41_ q42_ => ?_)
            obtain ⟨rfl, h43_⟩ := q42_
            refine w_iconst (v := 2) dX12_moves_87 (by decide) ?_
            refine w_iaddB dX12_moves_88 (rfl : r40_.toInt = r40_.toInt) li_2 (lf_c_X12_moves_9 Mz v r16_ z20_ j24_ z22_ r28_ z32_ j36_ z34_ r40_ h4_ h19_ h21_ h25_ e23_ h26_ h27_ h31_ h33_ h37_ e35_ h38_ h39_ h43_) (fun z44_ h45_ => ?_)
            refine w_iload_n dX12_moves_89 rfl 2 rfl ?_
            refine w_iast DD_nd rfl rfl ic_50 (rfl : z44_.toInt = z44_.toInt) (lf_c_X12_moves_10 Mz v r16_ z20_ j24_ z22_ r28_ z32_ j36_ z34_ r40_ z44_ h4_ h19_ h21_ h25_ e23_ h26_ h27_ h31_ h33_ h37_ e35_ h38_ h39_ h43_ h45_) dX12_moves_90 (fun j48_ h49_ M46_ hM47_ => ?_)
            have hI50_ := hIz.put50 hM47_ (lf_c_X12_moves_11 M46_ Mz v u r16_ z20_ j24_ z22_ r28_ z32_ j36_ z34_ r40_ z44_ j48_ h4_ h9_ h19_ h21_ h25_ e23_ h26_ h27_ h31_ h33_ h37_ e35_ h38_ h39_ h43_ h45_ h49_ hM47_)
            have hF51_ := hFz.put hM47_ (Or.inl ⟨rfl, rfl⟩)
            refine w_aload_n dX12_moves_91 rfl 0 rfl ?_
            refine w_getR (c' := (50, 0, 0)) fl_RX12_9 rfl rfl ic_12 dX12_moves_92 rfl ?_
            refine w_aload_n dX12_moves_95 rfl 0 rfl ?_
            refine w_iload_n dX12_moves_96 rfl 1 rfl ?_
            refine w_callV (as := [vI v]) (rest := [vR (50, 0, 0)]) (c_X12_thing l G cy ad (d + 1) v M46_ hI50_ (lf_c_X12_moves_12 M46_ Mz v u r16_ z20_ j24_ z22_ r28_ z32_ j36_ z34_ r40_ z44_ j48_ h4_ h9_ h19_ h21_ h25_ e23_ h26_ h27_ h31_ h33_ h37_ e35_ h38_ h39_ h43_ h45_ h49_ hM47_)) kV_X12_thing (by decide +kernel) (Nat.le_of_ble_eq_true rfl) m_1447 rfl rfl rfl ic_12 rfl rfl (by decide) (Nat.le_of_ble_eq_true rfl) dX12_moves_97 (fun r52_ M53_ q54_ => ?_)
            obtain ⟨rfl, h55_⟩ := q54_
            refine w_iconst (v := 3) dX12_moves_100 (by decide) ?_
            refine w_iaddB dX12_moves_101 (rfl : r52_.toInt = r52_.toInt) li_3 (lf_c_X12_moves_13 M46_ Mz v u r16_ z20_ j24_ z22_ r28_ z32_ j36_ z34_ r40_ z44_ j48_ r52_ h4_ h9_ h19_ h21_ h25_ e23_ h26_ h27_ h31_ h33_ h37_ e35_ h38_ h39_ h43_ h45_ h49_ hM47_ h55_) (fun z56_ h57_ => ?_)
            refine w_iload_n dX12_moves_102 rfl 3 rfl ?_
            refine w_iast DD_nd rfl rfl ic_50 (rfl : z56_.toInt = z56_.toInt) (lf_c_X12_moves_14 M46_ Mz v u r16_ z20_ j24_ z22_ r28_ z32_ j36_ z34_ r40_ z44_ j48_ r52_ z56_ h4_ h9_ h19_ h21_ h25_ e23_ h26_ h27_ h31_ h33_ h37_ e35_ h38_ h39_ h43_ h45_ h49_ hM47_ h55_ h57_) dX12_moves_103 (fun j60_ h61_ M58_ hM59_ => ?_)
            have hI62_ := hI50_.put50 hM59_ (lf_c_X12_moves_15 M46_ M58_ Mz v u t r16_ z20_ j24_ z22_ r28_ z32_ j36_ z34_ r40_ z44_ j48_ r52_ z56_ j60_ h4_ h9_ h14_ h19_ h21_ h25_ e23_ h26_ h27_ h31_ h33_ h37_ e35_ h38_ h39_ h43_ h45_ h49_ hM47_ h55_ h57_ h61_ hM59_)
            have hF63_ := hF51_.put hM59_ (Or.inl ⟨rfl, rfl⟩)
            refine w_iconst (v := 1) dX12_moves_104 (by decide) ?_
            exact w_iret rfl dX12_moves_105 ⟨hI62_, hF63_, trivial⟩
          · refine w_aload_n dX12_moves_71 rfl 0 rfl ?_
            refine w_ldc (v := (-1000003)) m_1455 dX12_moves_72 ?_
            refine w_callV (as := [vI (-1000003)]) (rest := []) (c_X12_finding l G cy ad (d + 1) (-1000003) Mz hIz (by first | decide | (unfold vF; omega) | (unfold vRw; omega))) kV_X12_finding (by decide +kernel) (Nat.le_of_ble_eq_true rfl) m_1434 rfl rfl rfl ic_12 rfl rfl (by decide) (Nat.le_of_ble_eq_true rfl) dX12_moves_74 (fun r64_ M65_ q66_ => ?_)
            obtain ⟨hI68_, hF69_, h67_⟩ := q66_
            have hF70_ := hFz.tr hF69_ (fun c k => (fun h => h.elim (fun h => (Or.inr (Or.inl ⟨h.1, h.2⟩))) (fun h => h.elim)))
            simp only [li_m1000003] at h67_
            exact w_iret rfl dX12_moves_77 ⟨hI68_, hF70_, trivial⟩
        · refine w_aload_n dX12_moves_49 rfl 0 rfl ?_
          refine w_ldc (v := (-1000005)) m_1476 dX12_moves_50 ?_
          refine w_callV (as := [vI (-1000005)]) (rest := []) (c_X12_finding l G cy ad (d + 1) (-1000005) Mz hIz (by first | decide | (unfold vF; omega) | (unfold vRw; omega))) kV_X12_finding (by decide +kernel) (Nat.le_of_ble_eq_true rfl) m_1434 rfl rfl rfl ic_12 rfl rfl (by decide) (Nat.le_of_ble_eq_true rfl) dX12_moves_52 (fun r71_ M72_ q73_ => ?_)
          obtain ⟨hI75_, hF76_, h74_⟩ := q73_
          have hF77_ := hFz.tr hF76_ (fun c k => (fun h => h.elim (fun h => (Or.inr (Or.inl ⟨h.1, h.2⟩))) (fun h => h.elim)))
          simp only [li_m1000005] at h74_
          exact w_iret rfl dX12_moves_55 ⟨hI75_, hF77_, trivial⟩
      · simp only [li_0, li_20] at h14_
        refine w_if_ne (tgt := 33) dX12_moves_23 (by decide) li_0 (fun h9 => (absurd h9 (by decide))) (fun h78_ => ?_)
        refine w_aload_n dX12_moves_26 rfl 0 rfl ?_
        refine w_ldc (v := (-1000001)) m_1433 dX12_moves_27 ?_
        refine w_callV (as := [vI (-1000001)]) (rest := []) (c_X12_finding l G cy ad (d + 1) (-1000001) Mz hIz (by first | decide | (unfold vF; omega) | (unfold vRw; omega))) kV_X12_finding (by decide +kernel) (Nat.le_of_ble_eq_true rfl) m_1434 rfl rfl rfl ic_12 rfl rfl (by decide) (Nat.le_of_ble_eq_true rfl) dX12_moves_29 (fun r79_ M80_ q81_ => ?_)
        obtain ⟨hI83_, hF84_, h82_⟩ := q81_
        have hF85_ := hFz.tr hF84_ (fun c k => (fun h => h.elim (fun h => (Or.inr (Or.inl ⟨h.1, h.2⟩))) (fun h => h.elim)))
        simp only [li_m1000001] at h82_
        exact w_iret rfl dX12_moves_32 ⟨hI83_, hF85_, trivial⟩
    · refine w_if_eq (tgt := 26) dX12_moves_13 (by decide) li_0 (fun h86_ => ?_) (fun h9 => (absurd h9 (by decide)))
      refine w_aload_n dX12_moves_26 rfl 0 rfl ?_
      refine w_ldc (v := (-1000001)) m_1433 dX12_moves_27 ?_
      refine w_callV (as := [vI (-1000001)]) (rest := []) (c_X12_finding l G cy ad (d + 1) (-1000001) Mz hIz (by first | decide | (unfold vF; omega) | (unfold vRw; omega))) kV_X12_finding (by decide +kernel) (Nat.le_of_ble_eq_true rfl) m_1434 rfl rfl rfl ic_12 rfl rfl (by decide) (Nat.le_of_ble_eq_true rfl) dX12_moves_29 (fun r87_ M88_ q89_ => ?_)
      obtain ⟨hI91_, hF92_, h90_⟩ := q89_
      have hF93_ := hFz.tr hF92_ (fun c k => (fun h => h.elim (fun h => (Or.inr (Or.inl ⟨h.1, h.2⟩))) (fun h => h.elim)))
      simp only [li_m1000001] at h90_
      exact w_iret rfl dX12_moves_32 ⟨hI91_, hF93_, trivial⟩
  · refine w_if_eq (tgt := 26) dX12_moves_6 (by decide) li_0 (fun h94_ => ?_) (fun h9 => (absurd h9 (by decide)))
    refine w_aload_n dX12_moves_26 rfl 0 rfl ?_
    refine w_ldc (v := (-1000001)) m_1433 dX12_moves_27 ?_
    refine w_callV (as := [vI (-1000001)]) (rest := []) (c_X12_finding l G cy ad (d + 1) (-1000001) Mz hIz (by first | decide | (unfold vF; omega) | (unfold vRw; omega))) kV_X12_finding (by decide +kernel) (Nat.le_of_ble_eq_true rfl) m_1434 rfl rfl rfl ic_12 rfl rfl (by decide) (Nat.le_of_ble_eq_true rfl) dX12_moves_29 (fun r95_ M96_ q97_ => ?_)
    obtain ⟨hI99_, hF100_, h98_⟩ := q97_
    have hF101_ := hFz.tr hF100_ (fun c k => (fun h => h.elim (fun h => (Or.inr (Or.inl ⟨h.1, h.2⟩))) (fun h => h.elim)))
    simp only [li_m1000001] at h98_
    exact w_iret rfl dX12_moves_32 ⟨hI99_, hF101_, trivial⟩
def S_c_X12_away : rf → Nat → Prop := fun c k => (c.1 = 50 ∧ c.2.1 = 0) ∨ (c.1 = 53 ∧ c.2.1 = 0) ∨ False
theorem lf_c_X12_away_0  (v : Int32) (h4_ : 0 ≤ v.toInt ∧ v.toInt ≤ 39) : -1 ≤ v.toInt ∧ v.toInt ≤ 39 := by have r_v := rngI v; omega
theorem lf_c_X12_away_1  (v : Int32) (r6_ : Int32) (h4_ : 0 ≤ v.toInt ∧ v.toInt ≤ 39) (h9_ : r6_.toInt = 20 + 4 * v.toInt) : -2147483648 ≤ r6_.toInt + 1 ∧ r6_.toInt + 1 < 2147483648 := by have r_v := rngI v; have r_r6_ := rngI r6_; omega
theorem lf_c_X12_away_2  (v : Int32) (r6_ : Int32) (z10_ : Int32) (h4_ : 0 ≤ v.toInt ∧ v.toInt ≤ 39) (h9_ : r6_.toInt = 20 + 4 * v.toInt) (h11_ : z10_.toInt = r6_.toInt + 1) : 0 ≤ z10_.toInt ∧ z10_.toInt < ((3567 : Nat) : Int) := by have r_v := rngI v; have r_r6_ := rngI r6_; have r_z10_ := rngI z10_; omega
theorem lf_c_X12_away_3 (Mz : mM) (v : Int32) (r6_ : Int32) (z10_ : Int32) (j14_ : Nat) (z12_ : Int32) (h4_ : 0 ≤ v.toInt ∧ v.toInt ≤ 39) (h9_ : r6_.toInt = 20 + 4 * v.toInt) (h11_ : z10_.toInt = r6_.toInt + 1) (h15_ : (j14_ : Int) = z10_.toInt) (e13_ : z12_ = Mz.1 (50, 0, 0) j14_) : 20 ≤ j14_ ∧ j14_ < 180 ∧ j14_ % 4 = 1 := by have r_v := rngI v; have r_r6_ := rngI r6_; have r_z10_ := rngI z10_; have r_z12_ := rngI z12_; subst e13_; omega
theorem lf_c_X12_away_4 (Mz : mM) (v : Int32) (r6_ : Int32) (z10_ : Int32) (j14_ : Nat) (z12_ : Int32) (h4_ : 0 ≤ v.toInt ∧ v.toInt ≤ 39) (h9_ : r6_.toInt = 20 + 4 * v.toInt) (h11_ : z10_.toInt = r6_.toInt + 1) (h15_ : (j14_ : Int) = z10_.toInt) (e13_ : z12_ = Mz.1 (50, 0, 0) j14_) (h16_ : -1 ≤ z12_.toInt ∧ z12_.toInt ≤ 191) (h17_ : 0 ≤ z12_.toInt) : -1 ≤ v.toInt ∧ v.toInt ≤ 39 := by have r_v := rngI v; have r_r6_ := rngI r6_; have r_z10_ := rngI z10_; have r_z12_ := rngI z12_; subst e13_; omega
theorem lf_c_X12_away_5 (Mz : mM) (v : Int32) (r6_ : Int32) (z10_ : Int32) (j14_ : Nat) (z12_ : Int32) (r18_ : Int32) (h4_ : 0 ≤ v.toInt ∧ v.toInt ≤ 39) (h9_ : r6_.toInt = 20 + 4 * v.toInt) (h11_ : z10_.toInt = r6_.toInt + 1) (h15_ : (j14_ : Int) = z10_.toInt) (e13_ : z12_ = Mz.1 (50, 0, 0) j14_) (h16_ : -1 ≤ z12_.toInt ∧ z12_.toInt ≤ 191) (h17_ : 0 ≤ z12_.toInt) (h21_ : r18_.toInt = 20 + 4 * v.toInt) : -2147483648 ≤ r18_.toInt + 1 ∧ r18_.toInt + 1 < 2147483648 := by have r_v := rngI v; have r_r6_ := rngI r6_; have r_z10_ := rngI z10_; have r_z12_ := rngI z12_; have r_r18_ := rngI r18_; subst e13_; omega
theorem lf_c_X12_away_6 (Mz : mM) (v : Int32) (r6_ : Int32) (z10_ : Int32) (j14_ : Nat) (z12_ : Int32) (r18_ : Int32) (z22_ : Int32) (h4_ : 0 ≤ v.toInt ∧ v.toInt ≤ 39) (h9_ : r6_.toInt = 20 + 4 * v.toInt) (h11_ : z10_.toInt = r6_.toInt + 1) (h15_ : (j14_ : Int) = z10_.toInt) (e13_ : z12_ = Mz.1 (50, 0, 0) j14_) (h16_ : -1 ≤ z12_.toInt ∧ z12_.toInt ≤ 191) (h17_ : 0 ≤ z12_.toInt) (h21_ : r18_.toInt = 20 + 4 * v.toInt) (h23_ : z22_.toInt = r18_.toInt + 1) : PN z22_.toInt.toNat (-1 : Int32) ∧ (z22_.toInt.toNat < 345 ∨ 493 < z22_.toInt.toNat) := by have r_v := rngI v; have r_r6_ := rngI r6_; have r_z10_ := rngI z10_; have r_z12_ := rngI z12_; have r_r18_ := rngI r18_; have r_z22_ := rngI z22_; have q0 := li_m1; subst e13_; unfold PN; omega
theorem lf_c_X12_away_7 (Mz : mM) (v : Int32) (r6_ : Int32) (z10_ : Int32) (j14_ : Nat) (z12_ : Int32) (r18_ : Int32) (z22_ : Int32) (h4_ : 0 ≤ v.toInt ∧ v.toInt ≤ 39) (h9_ : r6_.toInt = 20 + 4 * v.toInt) (h11_ : z10_.toInt = r6_.toInt + 1) (h15_ : (j14_ : Int) = z10_.toInt) (e13_ : z12_ = Mz.1 (50, 0, 0) j14_) (h16_ : -1 ≤ z12_.toInt ∧ z12_.toInt ≤ 191) (h17_ : 0 ≤ z12_.toInt) (h21_ : r18_.toInt = 20 + 4 * v.toInt) (h23_ : z22_.toInt = r18_.toInt + 1) : 0 ≤ z22_.toInt ∧ z22_.toInt ≤ 3566 := by have r_v := rngI v; have r_r6_ := rngI r6_; have r_z10_ := rngI z10_; have r_z12_ := rngI z12_; have r_r18_ := rngI r18_; have r_z22_ := rngI z22_; subst e13_; omega
set_option maxHeartbeats 4000000 in
set_option maxRecDepth 100000 in
theorem c_X12_away (l : Launch) (G : va_G) (cy : Nat → ClassId) (ad : rf → Nat) (d : Nat) (v : Int32) (Mz : mM) (hIz : InvD Mz) : WP DD l G cy ad yX12_away cX12_away 2 (some .int) (d + 2) 0 [(0, vR (12, 0, 0)), (1, vI v)] [] Mz (fun r M' => InvD M' ∧ FR (S_c_X12_away) Mz M' ∧ True) := by
  have hFz : FR (S_c_X12_away) Mz Mz := FR.self
  refine w_aload_n dX12_away_0 rfl 0 rfl ?_
  refine w_iload_n dX12_away_1 rfl 1 rfl ?_
  refine w_iconst (v := 1) dX12_away_2 (by decide) ?_
  refine w_callV (as := [vI v, vI 1]) (rest := []) (c_is1 l G cy ad d v Mz hIz) kV_X12_is (by decide +kernel) (Nat.le_of_ble_eq_true rfl) m_1465 rfl rfl rfl ic_12 rfl rfl (by decide) (Nat.le_of_ble_eq_true rfl) dX12_away_3 (fun r1_ M2_ q3_ => ?_)
  obtain ⟨rfl, h4_⟩ := q3_
  rcases h4_ with ⟨rfl, h4_⟩ | rfl
  · refine w_if_ne (tgt := 16) dX12_away_6 (by decide) li_1 (fun h5_ => ?_) (fun h9 => (absurd h9 (by decide)))
    refine w_aload_n dX12_away_16 rfl 0 rfl ?_
    refine w_getR (c' := (50, 0, 0)) fl_RX12_9 rfl rfl ic_12 dX12_away_17 rfl ?_
    refine w_aload_n dX12_away_20 rfl 0 rfl ?_
    refine w_iload_n dX12_away_21 rfl 1 rfl ?_
    refine w_callV (as := [vI v]) (rest := [vR (50, 0, 0)]) (c_X12_thing l G cy ad (d + 1) v Mz hIz (lf_c_X12_away_0 v h4_)) kV_X12_thing (by decide +kernel) (Nat.le_of_ble_eq_true rfl) m_1447 rfl rfl rfl ic_12 rfl rfl (by decide) (Nat.le_of_ble_eq_true rfl) dX12_away_22 (fun r6_ M7_ q8_ => ?_)
    obtain ⟨rfl, h9_⟩ := q8_
    refine w_iconst (v := 1) dX12_away_25 (by decide) ?_
    refine w_iaddB dX12_away_26 (rfl : r6_.toInt = r6_.toInt) li_1 (lf_c_X12_away_1 v r6_ h4_ h9_) (fun z10_ h11_ => ?_)
    refine w_iald rfl rfl ic_50 (rfl : z10_.toInt = z10_.toInt) (lf_c_X12_away_2 v r6_ z10_ h4_ h9_ h11_) dX12_away_27 (fun j14_ h15_ z12_ e13_ => ?_)
    have h16_ : -1 ≤ z12_.toInt ∧ z12_.toInt ≤ 191 := pn_tc hIz e13_ (lf_c_X12_away_3 Mz v r6_ z10_ j14_ z12_ h4_ h9_ h11_ h15_ e13_)
    refine w_if_ge (tgt := 40) dX12_away_28 (by decide) (rfl : z12_.toInt = z12_.toInt) (fun h17_ => ?_) (fun h17_ => ?_)
    · refine w_aload_n dX12_away_40 rfl 0 rfl ?_
      refine w_aload_n dX12_away_41 rfl 0 rfl ?_
      refine w_iload_n dX12_away_42 rfl 1 rfl ?_
      refine w_callV (as := [vI v]) (rest := [vR (12, 0, 0)]) (c_X12_thing l G cy ad (d + 1) v Mz hIz (lf_c_X12_away_4 Mz v r6_ z10_ j14_ z12_ h4_ h9_ h11_ h15_ e13_ h16_ h17_)) kV_X12_thing (by decide +kernel) (Nat.le_of_ble_eq_true rfl) m_1447 rfl rfl rfl ic_12 rfl rfl (by decide) (Nat.le_of_ble_eq_true rfl) dX12_away_43 (fun r18_ M19_ q20_ => ?_)
      obtain ⟨rfl, h21_⟩ := q20_
      refine w_iconst (v := 1) dX12_away_46 (by decide) ?_
      refine w_iaddB dX12_away_47 (rfl : r18_.toInt = r18_.toInt) li_1 (lf_c_X12_away_5 Mz v r6_ z10_ j14_ z12_ r18_ h4_ h9_ h11_ h15_ e13_ h16_ h17_ h21_) (fun z22_ h23_ => ?_)
      refine w_iconst (v := (-1)) dX12_away_48 (by decide) ?_
      refine w_callV (as := [vI z22_, vI (-1)]) (rest := []) (c_X12_become l G cy ad (d + 1) z22_ (-1) Mz hIz (lf_c_X12_away_6 Mz v r6_ z10_ j14_ z12_ r18_ z22_ h4_ h9_ h11_ h15_ e13_ h16_ h17_ h21_ h23_) (lf_c_X12_away_7 Mz v r6_ z10_ j14_ z12_ r18_ z22_ h4_ h9_ h11_ h15_ e13_ h16_ h17_ h21_ h23_)) kV_X12_become (by decide +kernel) (Nat.le_of_ble_eq_true rfl) m_1481 rfl rfl rfl ic_12 rfl rfl (by decide) (Nat.le_of_ble_eq_true rfl) dX12_away_49 (fun r24_ M25_ q26_ => ?_)
      obtain ⟨hI28_, hF29_, h27_⟩ := q26_
      have hF30_ := hFz.tr hF29_ (fun c k => (fun h => h.elim (fun h => (Or.inl ⟨h.1, h.2⟩)) (fun h => h.elim)))
      exact w_iret rfl dX12_away_52 ⟨hI28_, hF30_, trivial⟩
    · refine w_aload_n dX12_away_31 rfl 0 rfl ?_
      refine w_ldc (v := (-1000003)) m_1455 dX12_away_32 ?_
      refine w_callV (as := [vI (-1000003)]) (rest := []) (c_X12_finding l G cy ad (d + 1) (-1000003) Mz hIz (by first | decide | (unfold vF; omega) | (unfold vRw; omega))) kV_X12_finding (by decide +kernel) (Nat.le_of_ble_eq_true rfl) m_1434 rfl rfl rfl ic_12 rfl rfl (by decide) (Nat.le_of_ble_eq_true rfl) dX12_away_34 (fun r31_ M32_ q33_ => ?_)
      obtain ⟨hI35_, hF36_, h34_⟩ := q33_
      have hF37_ := hFz.tr hF36_ (fun c k => (fun h => h.elim (fun h => (Or.inr (Or.inl ⟨h.1, h.2⟩))) (fun h => h.elim)))
      simp only [li_m1000003] at h34_
      refine w_goto (tgt := 52) dX12_away_37 (by decide) ?_
      exact w_iret rfl dX12_away_52 ⟨hI35_, hF37_, trivial⟩
  · refine w_if_ne (tgt := 16) dX12_away_6 (by decide) li_0 (fun h9 => (absurd h9 (by decide))) (fun h38_ => ?_)
    refine w_aload_n dX12_away_9 rfl 0 rfl ?_
    refine w_ldc (v := (-1000001)) m_1433 dX12_away_10 ?_
    refine w_callV (as := [vI (-1000001)]) (rest := []) (c_X12_finding l G cy ad (d + 1) (-1000001) Mz hIz (by first | decide | (unfold vF; omega) | (unfold vRw; omega))) kV_X12_finding (by decide +kernel) (Nat.le_of_ble_eq_true rfl) m_1434 rfl rfl rfl ic_12 rfl rfl (by decide) (Nat.le_of_ble_eq_true rfl) dX12_away_12 (fun r39_ M40_ q41_ => ?_)
    obtain ⟨hI43_, hF44_, h42_⟩ := q41_
    have hF45_ := hFz.tr hF44_ (fun c k => (fun h => h.elim (fun h => (Or.inr (Or.inl ⟨h.1, h.2⟩))) (fun h => h.elim)))
    simp only [li_m1000001] at h42_
    exact w_iret rfl dX12_away_15 ⟨hI43_, hF45_, trivial⟩
def S_c_X12_kind : rf → Nat → Prop := fun c k => (c.1 = 50 ∧ c.2.1 = 0) ∨ (c.1 = 53 ∧ c.2.1 = 0) ∨ False
theorem lf_c_X12_kind_0  (u : Int32) (h9_ : 0 ≤ u.toInt ∧ u.toInt ≤ 1) (h11_ : ¬ u.toInt = 0) (h9 : u.toInt = 0) : False := by have r_u := rngI u; omega
theorem lf_c_X12_kind_1  (v : Int32) (h4_ : 0 ≤ v.toInt ∧ v.toInt ≤ 4) : -2147483648 ≤ 14 + v.toInt ∧ 14 + v.toInt < 2147483648 := by have r_v := rngI v; omega
theorem lf_c_X12_kind_2  (v : Int32) (t : Int32) (z18_ : Int32) (h4_ : 0 ≤ v.toInt ∧ v.toInt ≤ 4) (h15_ : 0 ≤ t.toInt ∧ t.toInt ≤ 9) (h19_ : z18_.toInt = 14 + v.toInt) : PN z18_.toInt.toNat t ∧ (z18_.toInt.toNat < 345 ∨ 493 < z18_.toInt.toNat) := by have r_v := rngI v; have r_t := rngI t; have r_z18_ := rngI z18_; unfold PN; omega
theorem lf_c_X12_kind_3  (v : Int32) (z18_ : Int32) (h4_ : 0 ≤ v.toInt ∧ v.toInt ≤ 4) (h19_ : z18_.toInt = 14 + v.toInt) : 0 ≤ z18_.toInt ∧ z18_.toInt ≤ 3566 := by have r_v := rngI v; have r_z18_ := rngI z18_; omega
theorem lf_c_X12_kind_4  (u : Int32) (h9_ : 0 ≤ u.toInt ∧ u.toInt ≤ 1) (h11_ : u.toInt = 0) (h9 : ¬ u.toInt = 0) : False := by have r_u := rngI u; omega
theorem lf_c_X12_kind_5  (v : Int32) (h4_ : 0 ≤ v.toInt ∧ v.toInt ≤ 4) : -2147483648 ≤ 9 + v.toInt ∧ 9 + v.toInt < 2147483648 := by have r_v := rngI v; omega
theorem lf_c_X12_kind_6  (v : Int32) (t : Int32) (z41_ : Int32) (h4_ : 0 ≤ v.toInt ∧ v.toInt ≤ 4) (h38_ : 0 ≤ t.toInt ∧ t.toInt ≤ 99) (h42_ : z41_.toInt = 9 + v.toInt) : PN z41_.toInt.toNat t ∧ (z41_.toInt.toNat < 345 ∨ 493 < z41_.toInt.toNat) := by have r_v := rngI v; have r_t := rngI t; have r_z41_ := rngI z41_; unfold PN; omega
theorem lf_c_X12_kind_7  (v : Int32) (z41_ : Int32) (h4_ : 0 ≤ v.toInt ∧ v.toInt ≤ 4) (h42_ : z41_.toInt = 9 + v.toInt) : 0 ≤ z41_.toInt ∧ z41_.toInt ≤ 3566 := by have r_v := rngI v; have r_z41_ := rngI z41_; omega
set_option maxHeartbeats 4000000 in
set_option maxRecDepth 100000 in
theorem c_X12_kind (l : Launch) (G : va_G) (cy : Nat → ClassId) (ad : rf → Nat) (d : Nat) (v : Int32) (u : Int32) (t : Int32) (Mz : mM) (hIz : InvD Mz) : WP DD l G cy ad yX12_kind cX12_kind 4 (some .int) (d + 1) 0 [(0, vR (12, 0, 0)), (1, vI v), (2, vI u), (3, vI t)] [] Mz (fun r M' => InvD M' ∧ FR (S_c_X12_kind) Mz M' ∧ True) := by
  have hFz : FR (S_c_X12_kind) Mz Mz := FR.self
  refine w_iload_n dX12_kind_0 rfl 1 rfl ?_
  refine w_iconst (v := 0) dX12_kind_1 (by decide) ?_
  refine w_iconst (v := 4) dX12_kind_2 (by decide) ?_
  refine w_callS (as := [vI v, vI 0, vI 4]) (rest := []) (c_X12_within l G cy ad d v 0 4 Mz hIz) kS_X12_within (by decide +kernel) (Nat.le_of_ble_eq_true rfl) m_1427 rfl rfl (by decide) (Nat.le_of_ble_eq_true rfl) dX12_kind_3 (fun r1_ M2_ q3_ => ?_)
  obtain ⟨rfl, h4_⟩ := q3_
  rcases h4_ with ⟨rfl, h4_⟩ | ⟨rfl, h4_⟩
  · simp only [li_0, li_4] at h4_
    refine w_if_eq (tgt := 37) dX12_kind_6 (by decide) li_1 (fun h9 => (absurd h9 (by decide))) (fun h5_ => ?_)
    refine w_iload_n dX12_kind_9 rfl 2 rfl ?_
    refine w_iconst (v := 0) dX12_kind_10 (by decide) ?_
    refine w_iconst (v := 1) dX12_kind_11 (by decide) ?_
    refine w_callS (as := [vI u, vI 0, vI 1]) (rest := []) (c_X12_within l G cy ad d u 0 1 Mz hIz) kS_X12_within (by decide +kernel) (Nat.le_of_ble_eq_true rfl) m_1427 rfl rfl (by decide) (Nat.le_of_ble_eq_true rfl) dX12_kind_12 (fun r6_ M7_ q8_ => ?_)
    obtain ⟨rfl, h9_⟩ := q8_
    rcases h9_ with ⟨rfl, h9_⟩ | ⟨rfl, h9_⟩
    · simp only [li_0, li_1] at h9_
      refine w_if_eq (tgt := 37) dX12_kind_15 (by decide) li_1 (fun h9 => (absurd h9 (by decide))) (fun h10_ => ?_)
      refine w_iload_n dX12_kind_18 rfl 3 rfl ?_
      refine w_iconst (v := 0) dX12_kind_19 (by decide) ?_
      refine w_iload_n dX12_kind_20 rfl 2 rfl ?_
      refine w_if_ne (tgt := 29) dX12_kind_21 (by decide) (rfl : u.toInt = u.toInt) (fun h11_ => ?_) (fun h11_ => ?_)
      · refine w_bipush (v := 9) dX12_kind_29 (by decide) ?_
        refine w_callS (as := [vI t, vI 0, vI 9]) (rest := []) (c_X12_within l G cy ad d t 0 9 Mz hIz) kS_X12_within (by decide +kernel) (Nat.le_of_ble_eq_true rfl) m_1427 rfl rfl (by decide) (Nat.le_of_ble_eq_true rfl) dX12_kind_31 (fun r12_ M13_ q14_ => ?_)
        obtain ⟨rfl, h15_⟩ := q14_
        rcases h15_ with ⟨rfl, h15_⟩ | ⟨rfl, h15_⟩
        · simp only [li_0, li_9] at h15_
          refine w_if_ne (tgt := 44) dX12_kind_34 (by decide) li_1 (fun h16_ => ?_) (fun h9 => (absurd h9 (by decide)))
          refine w_aload_n dX12_kind_44 rfl 0 rfl ?_
          refine w_iload_n dX12_kind_45 rfl 2 rfl ?_
          refine w_if_ne (tgt := 54) dX12_kind_46 (by decide) (rfl : u.toInt = u.toInt) (fun h17_ => ?_) (fun h9 => (lf_c_X12_kind_0 u h9_ h11_ h9).elim)
          refine w_bipush (v := 14) dX12_kind_54 (by decide) ?_
          refine w_iload_n dX12_kind_56 rfl 1 rfl ?_
          refine w_iaddB dX12_kind_57 li_14 (rfl : v.toInt = v.toInt) (lf_c_X12_kind_1 v h4_) (fun z18_ h19_ => ?_)
          refine w_iload_n dX12_kind_58 rfl 3 rfl ?_
          refine w_callV (as := [vI z18_, vI t]) (rest := []) (c_X12_become l G cy ad d z18_ t Mz hIz (lf_c_X12_kind_2 v t z18_ h4_ h15_ h19_) (lf_c_X12_kind_3 v z18_ h4_ h19_)) kV_X12_become (by decide +kernel) (Nat.le_of_ble_eq_true rfl) m_1481 rfl rfl rfl ic_12 rfl rfl (by decide) (Nat.le_of_ble_eq_true rfl) dX12_kind_59 (fun r20_ M21_ q22_ => ?_)
          obtain ⟨hI24_, hF25_, h23_⟩ := q22_
          have hF26_ := hFz.tr hF25_ (fun c k => (fun h => h.elim (fun h => (Or.inl ⟨h.1, h.2⟩)) (fun h => h.elim)))
          exact w_iret rfl dX12_kind_62 ⟨hI24_, hF26_, trivial⟩
        · simp only [li_0, li_9] at h15_
          refine w_if_ne (tgt := 44) dX12_kind_34 (by decide) li_0 (fun h9 => (absurd h9 (by decide))) (fun h27_ => ?_)
          refine w_aload_n dX12_kind_37 rfl 0 rfl ?_
          refine w_ldc (v := (-1000001)) m_1433 dX12_kind_38 ?_
          refine w_callV (as := [vI (-1000001)]) (rest := []) (c_X12_finding l G cy ad d (-1000001) Mz hIz (by first | decide | (unfold vF; omega) | (unfold vRw; omega))) kV_X12_finding (by decide +kernel) (Nat.le_of_ble_eq_true rfl) m_1434 rfl rfl rfl ic_12 rfl rfl (by decide) (Nat.le_of_ble_eq_true rfl) dX12_kind_40 (fun r28_ M29_ q30_ => ?_)
          obtain ⟨hI32_, hF33_, h31_⟩ := q30_
          have hF34_ := hFz.tr hF33_ (fun c k => (fun h => h.elim (fun h => (Or.inr (Or.inl ⟨h.1, h.2⟩))) (fun h => h.elim)))
          simp only [li_m1000001] at h31_
          exact w_iret rfl dX12_kind_43 ⟨hI32_, hF34_, trivial⟩
      · refine w_bipush (v := 99) dX12_kind_24 (by decide) ?_
        refine w_goto (tgt := 31) dX12_kind_26 (by decide) ?_
        refine w_callS (as := [vI t, vI 0, vI 99]) (rest := []) (c_X12_within l G cy ad d t 0 99 Mz hIz) kS_X12_within (by decide +kernel) (Nat.le_of_ble_eq_true rfl) m_1427 rfl rfl (by decide) (Nat.le_of_ble_eq_true rfl) dX12_kind_31 (fun r35_ M36_ q37_ => ?_)
        obtain ⟨rfl, h38_⟩ := q37_
        rcases h38_ with ⟨rfl, h38_⟩ | ⟨rfl, h38_⟩
        · simp only [li_0, li_99] at h38_
          refine w_if_ne (tgt := 44) dX12_kind_34 (by decide) li_1 (fun h39_ => ?_) (fun h9 => (absurd h9 (by decide)))
          refine w_aload_n dX12_kind_44 rfl 0 rfl ?_
          refine w_iload_n dX12_kind_45 rfl 2 rfl ?_
          refine w_if_ne (tgt := 54) dX12_kind_46 (by decide) (rfl : u.toInt = u.toInt) (fun h9 => (lf_c_X12_kind_4 u h9_ h11_ h9).elim) (fun h40_ => ?_)
          refine w_bipush (v := 9) dX12_kind_49 (by decide) ?_
          refine w_goto (tgt := 56) dX12_kind_51 (by decide) ?_
          refine w_iload_n dX12_kind_56 rfl 1 rfl ?_
          refine w_iaddB dX12_kind_57 li_9 (rfl : v.toInt = v.toInt) (lf_c_X12_kind_5 v h4_) (fun z41_ h42_ => ?_)
          refine w_iload_n dX12_kind_58 rfl 3 rfl ?_
          refine w_callV (as := [vI z41_, vI t]) (rest := []) (c_X12_become l G cy ad d z41_ t Mz hIz (lf_c_X12_kind_6 v t z41_ h4_ h38_ h42_) (lf_c_X12_kind_7 v z41_ h4_ h42_)) kV_X12_become (by decide +kernel) (Nat.le_of_ble_eq_true rfl) m_1481 rfl rfl rfl ic_12 rfl rfl (by decide) (Nat.le_of_ble_eq_true rfl) dX12_kind_59 (fun r43_ M44_ q45_ => ?_)
          obtain ⟨hI47_, hF48_, h46_⟩ := q45_
          have hF49_ := hFz.tr hF48_ (fun c k => (fun h => h.elim (fun h => (Or.inl ⟨h.1, h.2⟩)) (fun h => h.elim)))
          exact w_iret rfl dX12_kind_62 ⟨hI47_, hF49_, trivial⟩
        · simp only [li_0, li_99] at h38_
          refine w_if_ne (tgt := 44) dX12_kind_34 (by decide) li_0 (fun h9 => (absurd h9 (by decide))) (fun h50_ => ?_)
          refine w_aload_n dX12_kind_37 rfl 0 rfl ?_
          refine w_ldc (v := (-1000001)) m_1433 dX12_kind_38 ?_
          refine w_callV (as := [vI (-1000001)]) (rest := []) (c_X12_finding l G cy ad d (-1000001) Mz hIz (by first | decide | (unfold vF; omega) | (unfold vRw; omega))) kV_X12_finding (by decide +kernel) (Nat.le_of_ble_eq_true rfl) m_1434 rfl rfl rfl ic_12 rfl rfl (by decide) (Nat.le_of_ble_eq_true rfl) dX12_kind_40 (fun r51_ M52_ q53_ => ?_)
          obtain ⟨hI55_, hF56_, h54_⟩ := q53_
          have hF57_ := hFz.tr hF56_ (fun c k => (fun h => h.elim (fun h => (Or.inr (Or.inl ⟨h.1, h.2⟩))) (fun h => h.elim)))
          simp only [li_m1000001] at h54_
          exact w_iret rfl dX12_kind_43 ⟨hI55_, hF57_, trivial⟩
    · simp only [li_0, li_1] at h9_
      refine w_if_eq (tgt := 37) dX12_kind_15 (by decide) li_0 (fun h58_ => ?_) (fun h9 => (absurd h9 (by decide)))
      refine w_aload_n dX12_kind_37 rfl 0 rfl ?_
      refine w_ldc (v := (-1000001)) m_1433 dX12_kind_38 ?_
      refine w_callV (as := [vI (-1000001)]) (rest := []) (c_X12_finding l G cy ad d (-1000001) Mz hIz (by first | decide | (unfold vF; omega) | (unfold vRw; omega))) kV_X12_finding (by decide +kernel) (Nat.le_of_ble_eq_true rfl) m_1434 rfl rfl rfl ic_12 rfl rfl (by decide) (Nat.le_of_ble_eq_true rfl) dX12_kind_40 (fun r59_ M60_ q61_ => ?_)
      obtain ⟨hI63_, hF64_, h62_⟩ := q61_
      have hF65_ := hFz.tr hF64_ (fun c k => (fun h => h.elim (fun h => (Or.inr (Or.inl ⟨h.1, h.2⟩))) (fun h => h.elim)))
      simp only [li_m1000001] at h62_
      exact w_iret rfl dX12_kind_43 ⟨hI63_, hF65_, trivial⟩
  · simp only [li_0, li_4] at h4_
    refine w_if_eq (tgt := 37) dX12_kind_6 (by decide) li_0 (fun h66_ => ?_) (fun h9 => (absurd h9 (by decide)))
    refine w_aload_n dX12_kind_37 rfl 0 rfl ?_
    refine w_ldc (v := (-1000001)) m_1433 dX12_kind_38 ?_
    refine w_callV (as := [vI (-1000001)]) (rest := []) (c_X12_finding l G cy ad d (-1000001) Mz hIz (by first | decide | (unfold vF; omega) | (unfold vRw; omega))) kV_X12_finding (by decide +kernel) (Nat.le_of_ble_eq_true rfl) m_1434 rfl rfl rfl ic_12 rfl rfl (by decide) (Nat.le_of_ble_eq_true rfl) dX12_kind_40 (fun r67_ M68_ q69_ => ?_)
    obtain ⟨hI71_, hF72_, h70_⟩ := q69_
    have hF73_ := hFz.tr hF72_ (fun c k => (fun h => h.elim (fun h => (Or.inr (Or.inl ⟨h.1, h.2⟩))) (fun h => h.elim)))
    simp only [li_m1000001] at h70_
    exact w_iret rfl dX12_kind_43 ⟨hI71_, hF73_, trivial⟩
def S_c_X12_at : rf → Nat → Prop := fun c k => (c.1 = 53 ∧ c.2.1 = 0) ∨ False
set_option maxHeartbeats 4000000 in
set_option maxRecDepth 100000 in
theorem c_X12_at (l : Launch) (G : va_G) (cy : Nat → ClassId) (ad : rf → Nat) (d : Nat) (v : Int32) (Mz : mM) (hIz : InvD Mz) : WP DD l G cy ad yX12_at cX12_at 2 (some .int) (d + 2) 0 [(0, vR (12, 0, 0)), (1, vI v)] [] Mz (fun r M' => InvD M' ∧ FR (S_c_X12_at) Mz M' ∧ True) := by
  have hFz : FR (S_c_X12_at) Mz Mz := FR.self
  refine w_iload_n dX12_at_0 rfl 1 rfl ?_
  refine w_callS (as := [vI v]) (rest := []) (c_X12_isCell l G cy ad d v Mz hIz) kS_X12_isCell (by decide +kernel) (Nat.le_of_ble_eq_true rfl) m_1430 rfl rfl (by decide) (Nat.le_of_ble_eq_true rfl) dX12_at_1 (fun r1_ M2_ q3_ => ?_)
  obtain ⟨rfl, h4_⟩ := q3_
  rcases h4_ with ⟨rfl, h4_⟩ | ⟨rfl, h4_⟩
  · refine w_if_eq (tgt := 15) dX12_at_4 (by decide) li_1 (fun h9 => (absurd h9 (by decide))) (fun h5_ => ?_)
    refine w_aload_n dX12_at_7 rfl 0 rfl ?_
    refine w_iload_n dX12_at_8 rfl 1 rfl ?_
    refine w_callV (as := [vI v]) (rest := []) (c_X12_in l G cy ad d v Mz hIz) kV_X12_in (by decide +kernel) (Nat.le_of_ble_eq_true rfl) m_1443 rfl rfl rfl ic_12 rfl rfl (by decide) (Nat.le_of_ble_eq_true rfl) dX12_at_9 (fun r6_ M7_ q8_ => ?_)
    obtain ⟨rfl, h9_⟩ := q8_
    refine w_goto (tgt := 21) dX12_at_12 (by decide) ?_
    exact w_iret rfl dX12_at_21 ⟨hIz, hFz, trivial⟩
  · refine w_if_eq (tgt := 15) dX12_at_4 (by decide) li_0 (fun h10_ => ?_) (fun h9 => (absurd h9 (by decide)))
    refine w_aload_n dX12_at_15 rfl 0 rfl ?_
    refine w_ldc (v := (-1000001)) m_1433 dX12_at_16 ?_
    refine w_callV (as := [vI (-1000001)]) (rest := []) (c_X12_finding l G cy ad (d + 1) (-1000001) Mz hIz (by first | decide | (unfold vF; omega) | (unfold vRw; omega))) kV_X12_finding (by decide +kernel) (Nat.le_of_ble_eq_true rfl) m_1434 rfl rfl rfl ic_12 rfl rfl (by decide) (Nat.le_of_ble_eq_true rfl) dX12_at_18 (fun r11_ M12_ q13_ => ?_)
    obtain ⟨hI15_, hF16_, h14_⟩ := q13_
    have hF17_ := hFz.tr hF16_ (fun c k => (fun h => h.elim (fun h => (Or.inl ⟨h.1, h.2⟩)) (fun h => h.elim)))
    simp only [li_m1000001] at h14_
    exact w_iret rfl dX12_at_21 ⟨hI15_, hF17_, trivial⟩
def S_c_X12_lays : rf → Nat → Prop := fun c k => (c.1 = 50 ∧ c.2.1 = 0) ∨ (c.1 = 53 ∧ c.2.1 = 0) ∨ False
theorem lf_c_X12_lays_0  (v : Int32) (h4_ : 0 ≤ v.toInt ∧ v.toInt ≤ 3) : 0 ≤ v.toInt ∧ v.toInt < ((4 : Nat) : Int) := by have r_v := rngI v; omega
theorem lf_c_X12_lays_1 (Mz : mM) (v : Int32) (j13_ : Nat) (z11_ : Int32) (h4_ : 0 ≤ v.toInt ∧ v.toInt ≤ 3) (h14_ : (j13_ : Int) = v.toInt) (e12_ : z11_ = Mz.1 (66, 0, 0) j13_) (h15_ : ¬ z11_.toInt = 0) : 0 ≤ v.toInt ∧ v.toInt < ((4 : Nat) : Int) := by have r_v := rngI v; have r_z11_ := rngI z11_; subst e12_; omega
theorem lf_c_X12_lays_2 (Mz : mM) (v : Int32) (j13_ : Nat) (z11_ : Int32) (j18_ : Nat) (z16_ : Int32) (h4_ : 0 ≤ v.toInt ∧ v.toInt ≤ 3) (h14_ : (j13_ : Int) = v.toInt) (e12_ : z11_ = Mz.1 (66, 0, 0) j13_) (h15_ : ¬ z11_.toInt = 0) (h19_ : (j18_ : Int) = v.toInt) (e17_ : z16_ = Mz.1 (66, 0, 0) j18_) (h20_ : z16_.toInt = 8) : 0 ≤ v.toInt ∧ v.toInt < ((4 : Nat) : Int) := by have r_v := rngI v; have r_z11_ := rngI z11_; have r_z16_ := rngI z16_; subst e12_; subst e17_; omega
theorem lf_c_X12_lays_3 (Mz : mM) (v : Int32) (j13_ : Nat) (z11_ : Int32) (j18_ : Nat) (z16_ : Int32) (j23_ : Nat) (z21_ : Int32) (h4_ : 0 ≤ v.toInt ∧ v.toInt ≤ 3) (h14_ : (j13_ : Int) = v.toInt) (e12_ : z11_ = Mz.1 (66, 0, 0) j13_) (h15_ : ¬ z11_.toInt = 0) (h19_ : (j18_ : Int) = v.toInt) (e17_ : z16_ = Mz.1 (66, 0, 0) j18_) (h20_ : z16_.toInt = 8) (h24_ : (j23_ : Int) = v.toInt) (e22_ : z21_ = Mz.1 (67, 0, 0) j23_) (h25_ : 0 ≤ z21_.toInt ∧ z21_.toInt ≤ 24) (h26_ : z21_.toInt ≤ 16) : v.toInt = (j23_ : Int) := by have r_v := rngI v; have r_z11_ := rngI z11_; have r_z16_ := rngI z16_; have r_z21_ := rngI z21_; subst e12_; subst e17_; subst e22_; omega
theorem lf_c_X12_lays_4 (Mz : mM) (v : Int32) (j13_ : Nat) (z11_ : Int32) (j18_ : Nat) (z16_ : Int32) (j23_ : Nat) (z21_ : Int32) (h4_ : 0 ≤ v.toInt ∧ v.toInt ≤ 3) (h14_ : (j13_ : Int) = v.toInt) (e12_ : z11_ = Mz.1 (66, 0, 0) j13_) (h15_ : ¬ z11_.toInt = 0) (h19_ : (j18_ : Int) = v.toInt) (e17_ : z16_ = Mz.1 (66, 0, 0) j18_) (h20_ : z16_.toInt = 8) (h24_ : (j23_ : Int) = v.toInt) (e22_ : z21_ = Mz.1 (67, 0, 0) j23_) (h25_ : 0 ≤ z21_.toInt ∧ z21_.toInt ≤ 24) (h26_ : z21_.toInt ≤ 16) : z21_.toInt ≤ 16 := by have r_v := rngI v; have r_z11_ := rngI z11_; have r_z16_ := rngI z16_; have r_z21_ := rngI z21_; subst e12_; subst e17_; subst e22_; omega
theorem lf_c_X12_lays_5 (M_81 : mM) (Mz : mM) (v : Int32) (j13_ : Nat) (z11_ : Int32) (j18_ : Nat) (z16_ : Int32) (j23_ : Nat) (z21_ : Int32) (h4_ : 0 ≤ v.toInt ∧ v.toInt ≤ 3) (h14_ : (j13_ : Int) = v.toInt) (e12_ : z11_ = Mz.1 (66, 0, 0) j13_) (h15_ : ¬ z11_.toInt = 0) (h19_ : (j18_ : Int) = v.toInt) (e17_ : z16_ = Mz.1 (66, 0, 0) j18_) (h20_ : z16_.toInt = 8) (h24_ : (j23_ : Int) = v.toInt) (e22_ : z21_ = Mz.1 (67, 0, 0) j23_) (h25_ : 0 ≤ z21_.toInt ∧ z21_.toInt ≤ 24) (h26_ : z21_.toInt ≤ 16) (kf27_ : SZ (Mz.1 (67, 0, 0)) v 16) (kv0_81 : SZ (M_81.1 (67, 0, 0)) v 16) : 0 ≤ v.toInt ∧ v.toInt < ((4 : Nat) : Int) := by have r_v := rngI v; have r_z11_ := rngI z11_; have r_z16_ := rngI z16_; have r_z21_ := rngI z21_; subst e12_; subst e17_; subst e22_; omega
theorem lf_c_X12_lays_6 (M_81 : mM) (Mz : mM) (v : Int32) (j13_ : Nat) (z11_ : Int32) (j18_ : Nat) (z16_ : Int32) (j23_ : Nat) (z21_ : Int32) (j31_ : Nat) (z29_ : Int32) (h4_ : 0 ≤ v.toInt ∧ v.toInt ≤ 3) (h14_ : (j13_ : Int) = v.toInt) (e12_ : z11_ = Mz.1 (66, 0, 0) j13_) (h15_ : ¬ z11_.toInt = 0) (h19_ : (j18_ : Int) = v.toInt) (e17_ : z16_ = Mz.1 (66, 0, 0) j18_) (h20_ : z16_.toInt = 8) (h24_ : (j23_ : Int) = v.toInt) (e22_ : z21_ = Mz.1 (67, 0, 0) j23_) (h25_ : 0 ≤ z21_.toInt ∧ z21_.toInt ≤ 24) (h26_ : z21_.toInt ≤ 16) (kf27_ : SZ (Mz.1 (67, 0, 0)) v 16) (kv0_81 : SZ (M_81.1 (67, 0, 0)) v 16) (h32_ : (j31_ : Int) = v.toInt) (e30_ : z29_ = M_81.1 (67, 0, 0) j31_) (h33_ : 0 ≤ z29_.toInt ∧ z29_.toInt ≤ 24) : (j31_ : Int) = v.toInt := by have r_v := rngI v; have r_z11_ := rngI z11_; have r_z16_ := rngI z16_; have r_z21_ := rngI z21_; have r_z29_ := rngI z29_; subst e12_; subst e17_; subst e22_; subst e30_; omega
theorem lf_c_X12_lays_7 (M_81 : mM) (Mz : mM) (v : Int32) (j13_ : Nat) (z11_ : Int32) (j18_ : Nat) (z16_ : Int32) (j23_ : Nat) (z21_ : Int32) (v4_81 : Int32) (j31_ : Nat) (z29_ : Int32) (h4_ : 0 ≤ v.toInt ∧ v.toInt ≤ 3) (h14_ : (j13_ : Int) = v.toInt) (e12_ : z11_ = Mz.1 (66, 0, 0) j13_) (h15_ : ¬ z11_.toInt = 0) (h19_ : (j18_ : Int) = v.toInt) (e17_ : z16_ = Mz.1 (66, 0, 0) j18_) (h20_ : z16_.toInt = 8) (h24_ : (j23_ : Int) = v.toInt) (e22_ : z21_ = Mz.1 (67, 0, 0) j23_) (h25_ : 0 ≤ z21_.toInt ∧ z21_.toInt ≤ 24) (h26_ : z21_.toInt ≤ 16) (kf27_ : SZ (Mz.1 (67, 0, 0)) v 16) (hv0_81 : 0 ≤ v4_81.toInt) (kv0_81 : SZ (M_81.1 (67, 0, 0)) v 16) (h32_ : (j31_ : Int) = v.toInt) (e30_ : z29_ = M_81.1 (67, 0, 0) j31_) (h33_ : 0 ≤ z29_.toInt ∧ z29_.toInt ≤ 24) (h34_ : z29_.toInt ≤ 16) (h35_ : v4_81.toInt < z29_.toInt) : -2147483648 ≤ 24 * v.toInt ∧ 24 * v.toInt < 2147483648 := by have r_v := rngI v; have r_z11_ := rngI z11_; have r_z16_ := rngI z16_; have r_z21_ := rngI z21_; have r_v4_81 := rngI v4_81; have r_z29_ := rngI z29_; subst e12_; subst e17_; subst e22_; subst e30_; omega
theorem lf_c_X12_lays_8 (M_81 : mM) (Mz : mM) (v : Int32) (j13_ : Nat) (z11_ : Int32) (j18_ : Nat) (z16_ : Int32) (j23_ : Nat) (z21_ : Int32) (v4_81 : Int32) (j31_ : Nat) (z29_ : Int32) (z36_ : Int32) (h4_ : 0 ≤ v.toInt ∧ v.toInt ≤ 3) (h14_ : (j13_ : Int) = v.toInt) (e12_ : z11_ = Mz.1 (66, 0, 0) j13_) (h15_ : ¬ z11_.toInt = 0) (h19_ : (j18_ : Int) = v.toInt) (e17_ : z16_ = Mz.1 (66, 0, 0) j18_) (h20_ : z16_.toInt = 8) (h24_ : (j23_ : Int) = v.toInt) (e22_ : z21_ = Mz.1 (67, 0, 0) j23_) (h25_ : 0 ≤ z21_.toInt ∧ z21_.toInt ≤ 24) (h26_ : z21_.toInt ≤ 16) (kf27_ : SZ (Mz.1 (67, 0, 0)) v 16) (hv0_81 : 0 ≤ v4_81.toInt) (kv0_81 : SZ (M_81.1 (67, 0, 0)) v 16) (h32_ : (j31_ : Int) = v.toInt) (e30_ : z29_ = M_81.1 (67, 0, 0) j31_) (h33_ : 0 ≤ z29_.toInt ∧ z29_.toInt ≤ 24) (h34_ : z29_.toInt ≤ 16) (h35_ : v4_81.toInt < z29_.toInt) (h37_ : z36_.toInt = 24 * v.toInt) : -2147483648 ≤ z36_.toInt + v4_81.toInt ∧ z36_.toInt + v4_81.toInt < 2147483648 := by have r_v := rngI v; have r_z11_ := rngI z11_; have r_z16_ := rngI z16_; have r_z21_ := rngI z21_; have r_v4_81 := rngI v4_81; have r_z29_ := rngI z29_; have r_z36_ := rngI z36_; subst e12_; subst e17_; subst e22_; subst e30_; omega
theorem lf_c_X12_lays_9 (M_81 : mM) (Mz : mM) (v : Int32) (j13_ : Nat) (z11_ : Int32) (j18_ : Nat) (z16_ : Int32) (j23_ : Nat) (z21_ : Int32) (v4_81 : Int32) (j31_ : Nat) (z29_ : Int32) (z36_ : Int32) (z38_ : Int32) (h4_ : 0 ≤ v.toInt ∧ v.toInt ≤ 3) (h14_ : (j13_ : Int) = v.toInt) (e12_ : z11_ = Mz.1 (66, 0, 0) j13_) (h15_ : ¬ z11_.toInt = 0) (h19_ : (j18_ : Int) = v.toInt) (e17_ : z16_ = Mz.1 (66, 0, 0) j18_) (h20_ : z16_.toInt = 8) (h24_ : (j23_ : Int) = v.toInt) (e22_ : z21_ = Mz.1 (67, 0, 0) j23_) (h25_ : 0 ≤ z21_.toInt ∧ z21_.toInt ≤ 24) (h26_ : z21_.toInt ≤ 16) (kf27_ : SZ (Mz.1 (67, 0, 0)) v 16) (hv0_81 : 0 ≤ v4_81.toInt) (kv0_81 : SZ (M_81.1 (67, 0, 0)) v 16) (h32_ : (j31_ : Int) = v.toInt) (e30_ : z29_ = M_81.1 (67, 0, 0) j31_) (h33_ : 0 ≤ z29_.toInt ∧ z29_.toInt ≤ 24) (h34_ : z29_.toInt ≤ 16) (h35_ : v4_81.toInt < z29_.toInt) (h37_ : z36_.toInt = 24 * v.toInt) (h39_ : z38_.toInt = z36_.toInt + v4_81.toInt) : 0 ≤ z38_.toInt ∧ z38_.toInt < ((96 : Nat) : Int) := by have r_v := rngI v; have r_z11_ := rngI z11_; have r_z16_ := rngI z16_; have r_z21_ := rngI z21_; have r_v4_81 := rngI v4_81; have r_z29_ := rngI z29_; have r_z36_ := rngI z36_; have r_z38_ := rngI z38_; subst e12_; subst e17_; subst e22_; subst e30_; omega
theorem lf_c_X12_lays_10 (M_81 : mM) (Mz : mM) (v : Int32) (j13_ : Nat) (z11_ : Int32) (j18_ : Nat) (z16_ : Int32) (j23_ : Nat) (z21_ : Int32) (v4_81 : Int32) (j31_ : Nat) (z29_ : Int32) (z36_ : Int32) (z38_ : Int32) (j42_ : Nat) (z40_ : Int32) (h4_ : 0 ≤ v.toInt ∧ v.toInt ≤ 3) (h14_ : (j13_ : Int) = v.toInt) (e12_ : z11_ = Mz.1 (66, 0, 0) j13_) (h15_ : ¬ z11_.toInt = 0) (h19_ : (j18_ : Int) = v.toInt) (e17_ : z16_ = Mz.1 (66, 0, 0) j18_) (h20_ : z16_.toInt = 8) (h24_ : (j23_ : Int) = v.toInt) (e22_ : z21_ = Mz.1 (67, 0, 0) j23_) (h25_ : 0 ≤ z21_.toInt ∧ z21_.toInt ≤ 24) (h26_ : z21_.toInt ≤ 16) (kf27_ : SZ (Mz.1 (67, 0, 0)) v 16) (hv0_81 : 0 ≤ v4_81.toInt) (kv0_81 : SZ (M_81.1 (67, 0, 0)) v 16) (h32_ : (j31_ : Int) = v.toInt) (e30_ : z29_ = M_81.1 (67, 0, 0) j31_) (h33_ : 0 ≤ z29_.toInt ∧ z29_.toInt ≤ 24) (h34_ : z29_.toInt ≤ 16) (h35_ : v4_81.toInt < z29_.toInt) (h37_ : z36_.toInt = 24 * v.toInt) (h39_ : z38_.toInt = z36_.toInt + v4_81.toInt) (h43_ : (j42_ : Int) = z38_.toInt) (e41_ : z40_ = M_81.1 (68, 0, 0) j42_) (h47_ : 1 ≤ z40_.toInt ∧ z40_.toInt ≤ 5) : -2147483648 ≤ v4_81.toInt + 1 ∧ v4_81.toInt + 1 < 2147483648 := by have r_v := rngI v; have r_z11_ := rngI z11_; have r_z16_ := rngI z16_; have r_z21_ := rngI z21_; have r_v4_81 := rngI v4_81; have r_z29_ := rngI z29_; have r_z36_ := rngI z36_; have r_z38_ := rngI z38_; have r_z40_ := rngI z40_; subst e12_; subst e17_; subst e22_; subst e30_; subst e41_; omega
theorem lf_c_X12_lays_11 (M_81 : mM) (Mz : mM) (v : Int32) (j13_ : Nat) (z11_ : Int32) (j18_ : Nat) (z16_ : Int32) (j23_ : Nat) (z21_ : Int32) (v4_81 : Int32) (j31_ : Nat) (z29_ : Int32) (z36_ : Int32) (z38_ : Int32) (j42_ : Nat) (z40_ : Int32) (z53_ : Int32) (h4_ : 0 ≤ v.toInt ∧ v.toInt ≤ 3) (h14_ : (j13_ : Int) = v.toInt) (e12_ : z11_ = Mz.1 (66, 0, 0) j13_) (h15_ : ¬ z11_.toInt = 0) (h19_ : (j18_ : Int) = v.toInt) (e17_ : z16_ = Mz.1 (66, 0, 0) j18_) (h20_ : z16_.toInt = 8) (h24_ : (j23_ : Int) = v.toInt) (e22_ : z21_ = Mz.1 (67, 0, 0) j23_) (h25_ : 0 ≤ z21_.toInt ∧ z21_.toInt ≤ 24) (h26_ : z21_.toInt ≤ 16) (kf27_ : SZ (Mz.1 (67, 0, 0)) v 16) (hv0_81 : 0 ≤ v4_81.toInt) (kv0_81 : SZ (M_81.1 (67, 0, 0)) v 16) (h32_ : (j31_ : Int) = v.toInt) (e30_ : z29_ = M_81.1 (67, 0, 0) j31_) (h33_ : 0 ≤ z29_.toInt ∧ z29_.toInt ≤ 24) (h34_ : z29_.toInt ≤ 16) (h35_ : v4_81.toInt < z29_.toInt) (h37_ : z36_.toInt = 24 * v.toInt) (h39_ : z38_.toInt = z36_.toInt + v4_81.toInt) (h43_ : (j42_ : Int) = z38_.toInt) (e41_ : z40_ = M_81.1 (68, 0, 0) j42_) (h47_ : 1 ≤ z40_.toInt ∧ z40_.toInt ≤ 5) (h54_ : z53_.toInt = v4_81.toInt + 1) : 0 ≤ z53_.toInt := by have r_v := rngI v; have r_z11_ := rngI z11_; have r_z16_ := rngI z16_; have r_z21_ := rngI z21_; have r_v4_81 := rngI v4_81; have r_z29_ := rngI z29_; have r_z36_ := rngI z36_; have r_z38_ := rngI z38_; have r_z40_ := rngI z40_; have r_z53_ := rngI z53_; subst e12_; subst e17_; subst e22_; subst e30_; subst e41_; omega
theorem lf_c_X12_lays_12 (M_81 : mM) (Mz : mM) (v : Int32) (j13_ : Nat) (z11_ : Int32) (j18_ : Nat) (z16_ : Int32) (j23_ : Nat) (z21_ : Int32) (v4_81 : Int32) (j31_ : Nat) (z29_ : Int32) (z36_ : Int32) (z38_ : Int32) (j42_ : Nat) (z40_ : Int32) (z53_ : Int32) (h4_ : 0 ≤ v.toInt ∧ v.toInt ≤ 3) (h14_ : (j13_ : Int) = v.toInt) (e12_ : z11_ = Mz.1 (66, 0, 0) j13_) (h15_ : ¬ z11_.toInt = 0) (h19_ : (j18_ : Int) = v.toInt) (e17_ : z16_ = Mz.1 (66, 0, 0) j18_) (h20_ : z16_.toInt = 8) (h24_ : (j23_ : Int) = v.toInt) (e22_ : z21_ = Mz.1 (67, 0, 0) j23_) (h25_ : 0 ≤ z21_.toInt ∧ z21_.toInt ≤ 24) (h26_ : z21_.toInt ≤ 16) (kf27_ : SZ (Mz.1 (67, 0, 0)) v 16) (hv0_81 : 0 ≤ v4_81.toInt) (kv0_81 : SZ (M_81.1 (67, 0, 0)) v 16) (h32_ : (j31_ : Int) = v.toInt) (e30_ : z29_ = M_81.1 (67, 0, 0) j31_) (h33_ : 0 ≤ z29_.toInt ∧ z29_.toInt ≤ 24) (h34_ : z29_.toInt ≤ 16) (h35_ : v4_81.toInt < z29_.toInt) (h37_ : z36_.toInt = 24 * v.toInt) (h39_ : z38_.toInt = z36_.toInt + v4_81.toInt) (h43_ : (j42_ : Int) = z38_.toInt) (e41_ : z40_ = M_81.1 (68, 0, 0) j42_) (h47_ : 1 ≤ z40_.toInt ∧ z40_.toInt ≤ 5) (h54_ : z53_.toInt = v4_81.toInt + 1) : (2147483648 - z53_.toInt).toNat < (2147483648 - v4_81.toInt).toNat := by have r_v := rngI v; have r_z11_ := rngI z11_; have r_z16_ := rngI z16_; have r_z21_ := rngI z21_; have r_v4_81 := rngI v4_81; have r_z29_ := rngI z29_; have r_z36_ := rngI z36_; have r_z38_ := rngI z38_; have r_z40_ := rngI z40_; have r_z53_ := rngI z53_; subst e12_; subst e17_; subst e22_; subst e30_; subst e41_; omega
theorem lf_c_X12_lays_13  (u : Int32) (h9_ : 0 ≤ u.toInt ∧ u.toInt ≤ 11) : -2147483648 ≤ 16 * u.toInt ∧ 16 * u.toInt < 2147483648 := by have r_u := rngI u; omega
theorem lf_c_X12_lays_14 (M_81 : mM) (Mz : mM) (v : Int32) (u : Int32) (j13_ : Nat) (z11_ : Int32) (j18_ : Nat) (z16_ : Int32) (j23_ : Nat) (z21_ : Int32) (v4_81 : Int32) (j31_ : Nat) (z29_ : Int32) (z36_ : Int32) (z38_ : Int32) (j42_ : Nat) (z40_ : Int32) (z55_ : Int32) (h4_ : 0 ≤ v.toInt ∧ v.toInt ≤ 3) (h9_ : 0 ≤ u.toInt ∧ u.toInt ≤ 11) (h14_ : (j13_ : Int) = v.toInt) (e12_ : z11_ = Mz.1 (66, 0, 0) j13_) (h15_ : ¬ z11_.toInt = 0) (h19_ : (j18_ : Int) = v.toInt) (e17_ : z16_ = Mz.1 (66, 0, 0) j18_) (h20_ : z16_.toInt = 8) (h24_ : (j23_ : Int) = v.toInt) (e22_ : z21_ = Mz.1 (67, 0, 0) j23_) (h25_ : 0 ≤ z21_.toInt ∧ z21_.toInt ≤ 24) (h26_ : z21_.toInt ≤ 16) (kf27_ : SZ (Mz.1 (67, 0, 0)) v 16) (hv0_81 : 0 ≤ v4_81.toInt) (kv0_81 : SZ (M_81.1 (67, 0, 0)) v 16) (h32_ : (j31_ : Int) = v.toInt) (e30_ : z29_ = M_81.1 (67, 0, 0) j31_) (h33_ : 0 ≤ z29_.toInt ∧ z29_.toInt ≤ 24) (h34_ : z29_.toInt ≤ 16) (h35_ : v4_81.toInt < z29_.toInt) (h37_ : z36_.toInt = 24 * v.toInt) (h39_ : z38_.toInt = z36_.toInt + v4_81.toInt) (h43_ : (j42_ : Int) = z38_.toInt) (e41_ : z40_ = M_81.1 (68, 0, 0) j42_) (h47_ : 1 ≤ z40_.toInt ∧ z40_.toInt ≤ 5) (h56_ : z55_.toInt = 16 * u.toInt) : -2147483648 ≤ z55_.toInt + v4_81.toInt ∧ z55_.toInt + v4_81.toInt < 2147483648 := by have r_v := rngI v; have r_u := rngI u; have r_z11_ := rngI z11_; have r_z16_ := rngI z16_; have r_z21_ := rngI z21_; have r_v4_81 := rngI v4_81; have r_z29_ := rngI z29_; have r_z36_ := rngI z36_; have r_z38_ := rngI z38_; have r_z40_ := rngI z40_; have r_z55_ := rngI z55_; subst e12_; subst e17_; subst e22_; subst e30_; subst e41_; omega
theorem lf_c_X12_lays_15 (M_81 : mM) (Mz : mM) (v : Int32) (u : Int32) (j13_ : Nat) (z11_ : Int32) (j18_ : Nat) (z16_ : Int32) (j23_ : Nat) (z21_ : Int32) (v4_81 : Int32) (j31_ : Nat) (z29_ : Int32) (z36_ : Int32) (z38_ : Int32) (j42_ : Nat) (z40_ : Int32) (z55_ : Int32) (z57_ : Int32) (h4_ : 0 ≤ v.toInt ∧ v.toInt ≤ 3) (h9_ : 0 ≤ u.toInt ∧ u.toInt ≤ 11) (h14_ : (j13_ : Int) = v.toInt) (e12_ : z11_ = Mz.1 (66, 0, 0) j13_) (h15_ : ¬ z11_.toInt = 0) (h19_ : (j18_ : Int) = v.toInt) (e17_ : z16_ = Mz.1 (66, 0, 0) j18_) (h20_ : z16_.toInt = 8) (h24_ : (j23_ : Int) = v.toInt) (e22_ : z21_ = Mz.1 (67, 0, 0) j23_) (h25_ : 0 ≤ z21_.toInt ∧ z21_.toInt ≤ 24) (h26_ : z21_.toInt ≤ 16) (kf27_ : SZ (Mz.1 (67, 0, 0)) v 16) (hv0_81 : 0 ≤ v4_81.toInt) (kv0_81 : SZ (M_81.1 (67, 0, 0)) v 16) (h32_ : (j31_ : Int) = v.toInt) (e30_ : z29_ = M_81.1 (67, 0, 0) j31_) (h33_ : 0 ≤ z29_.toInt ∧ z29_.toInt ≤ 24) (h34_ : z29_.toInt ≤ 16) (h35_ : v4_81.toInt < z29_.toInt) (h37_ : z36_.toInt = 24 * v.toInt) (h39_ : z38_.toInt = z36_.toInt + v4_81.toInt) (h43_ : (j42_ : Int) = z38_.toInt) (e41_ : z40_ = M_81.1 (68, 0, 0) j42_) (h47_ : 1 ≤ z40_.toInt ∧ z40_.toInt ≤ 5) (h56_ : z55_.toInt = 16 * u.toInt) (h58_ : z57_.toInt = z55_.toInt + v4_81.toInt) : -2147483648 ≤ v4_81.toInt + 1 ∧ v4_81.toInt + 1 < 2147483648 := by have r_v := rngI v; have r_u := rngI u; have r_z11_ := rngI z11_; have r_z16_ := rngI z16_; have r_z21_ := rngI z21_; have r_v4_81 := rngI v4_81; have r_z29_ := rngI z29_; have r_z36_ := rngI z36_; have r_z38_ := rngI z38_; have r_z40_ := rngI z40_; have r_z55_ := rngI z55_; have r_z57_ := rngI z57_; subst e12_; subst e17_; subst e22_; subst e30_; subst e41_; omega
theorem lf_c_X12_lays_16 (M_81 : mM) (Mz : mM) (v : Int32) (u : Int32) (j13_ : Nat) (z11_ : Int32) (j18_ : Nat) (z16_ : Int32) (j23_ : Nat) (z21_ : Int32) (v4_81 : Int32) (j31_ : Nat) (z29_ : Int32) (z36_ : Int32) (z38_ : Int32) (j42_ : Nat) (z40_ : Int32) (z55_ : Int32) (z57_ : Int32) (z64_ : Int32) (h4_ : 0 ≤ v.toInt ∧ v.toInt ≤ 3) (h9_ : 0 ≤ u.toInt ∧ u.toInt ≤ 11) (h14_ : (j13_ : Int) = v.toInt) (e12_ : z11_ = Mz.1 (66, 0, 0) j13_) (h15_ : ¬ z11_.toInt = 0) (h19_ : (j18_ : Int) = v.toInt) (e17_ : z16_ = Mz.1 (66, 0, 0) j18_) (h20_ : z16_.toInt = 8) (h24_ : (j23_ : Int) = v.toInt) (e22_ : z21_ = Mz.1 (67, 0, 0) j23_) (h25_ : 0 ≤ z21_.toInt ∧ z21_.toInt ≤ 24) (h26_ : z21_.toInt ≤ 16) (kf27_ : SZ (Mz.1 (67, 0, 0)) v 16) (hv0_81 : 0 ≤ v4_81.toInt) (kv0_81 : SZ (M_81.1 (67, 0, 0)) v 16) (h32_ : (j31_ : Int) = v.toInt) (e30_ : z29_ = M_81.1 (67, 0, 0) j31_) (h33_ : 0 ≤ z29_.toInt ∧ z29_.toInt ≤ 24) (h34_ : z29_.toInt ≤ 16) (h35_ : v4_81.toInt < z29_.toInt) (h37_ : z36_.toInt = 24 * v.toInt) (h39_ : z38_.toInt = z36_.toInt + v4_81.toInt) (h43_ : (j42_ : Int) = z38_.toInt) (e41_ : z40_ = M_81.1 (68, 0, 0) j42_) (h47_ : 1 ≤ z40_.toInt ∧ z40_.toInt ≤ 5) (h56_ : z55_.toInt = 16 * u.toInt) (h58_ : z57_.toInt = z55_.toInt + v4_81.toInt) (h65_ : z64_.toInt = v4_81.toInt + 1) : 0 ≤ z64_.toInt := by have r_v := rngI v; have r_u := rngI u; have r_z11_ := rngI z11_; have r_z16_ := rngI z16_; have r_z21_ := rngI z21_; have r_v4_81 := rngI v4_81; have r_z29_ := rngI z29_; have r_z36_ := rngI z36_; have r_z38_ := rngI z38_; have r_z40_ := rngI z40_; have r_z55_ := rngI z55_; have r_z57_ := rngI z57_; have r_z64_ := rngI z64_; subst e12_; subst e17_; subst e22_; subst e30_; subst e41_; omega
theorem lf_c_X12_lays_17 (M_81 : mM) (Mz : mM) (v : Int32) (u : Int32) (j13_ : Nat) (z11_ : Int32) (j18_ : Nat) (z16_ : Int32) (j23_ : Nat) (z21_ : Int32) (v4_81 : Int32) (j31_ : Nat) (z29_ : Int32) (z36_ : Int32) (z38_ : Int32) (j42_ : Nat) (z40_ : Int32) (z55_ : Int32) (z57_ : Int32) (z64_ : Int32) (h4_ : 0 ≤ v.toInt ∧ v.toInt ≤ 3) (h9_ : 0 ≤ u.toInt ∧ u.toInt ≤ 11) (h14_ : (j13_ : Int) = v.toInt) (e12_ : z11_ = Mz.1 (66, 0, 0) j13_) (h15_ : ¬ z11_.toInt = 0) (h19_ : (j18_ : Int) = v.toInt) (e17_ : z16_ = Mz.1 (66, 0, 0) j18_) (h20_ : z16_.toInt = 8) (h24_ : (j23_ : Int) = v.toInt) (e22_ : z21_ = Mz.1 (67, 0, 0) j23_) (h25_ : 0 ≤ z21_.toInt ∧ z21_.toInt ≤ 24) (h26_ : z21_.toInt ≤ 16) (kf27_ : SZ (Mz.1 (67, 0, 0)) v 16) (hv0_81 : 0 ≤ v4_81.toInt) (kv0_81 : SZ (M_81.1 (67, 0, 0)) v 16) (h32_ : (j31_ : Int) = v.toInt) (e30_ : z29_ = M_81.1 (67, 0, 0) j31_) (h33_ : 0 ≤ z29_.toInt ∧ z29_.toInt ≤ 24) (h34_ : z29_.toInt ≤ 16) (h35_ : v4_81.toInt < z29_.toInt) (h37_ : z36_.toInt = 24 * v.toInt) (h39_ : z38_.toInt = z36_.toInt + v4_81.toInt) (h43_ : (j42_ : Int) = z38_.toInt) (e41_ : z40_ = M_81.1 (68, 0, 0) j42_) (h47_ : 1 ≤ z40_.toInt ∧ z40_.toInt ≤ 5) (h56_ : z55_.toInt = 16 * u.toInt) (h58_ : z57_.toInt = z55_.toInt + v4_81.toInt) (h65_ : z64_.toInt = v4_81.toInt + 1) : (2147483648 - z64_.toInt).toNat < (2147483648 - v4_81.toInt).toNat := by have r_v := rngI v; have r_u := rngI u; have r_z11_ := rngI z11_; have r_z16_ := rngI z16_; have r_z21_ := rngI z21_; have r_v4_81 := rngI v4_81; have r_z29_ := rngI z29_; have r_z36_ := rngI z36_; have r_z38_ := rngI z38_; have r_z40_ := rngI z40_; have r_z55_ := rngI z55_; have r_z57_ := rngI z57_; have r_z64_ := rngI z64_; subst e12_; subst e17_; subst e22_; subst e30_; subst e41_; omega
theorem lf_c_X12_lays_18 (M_81 : mM) (Mz : mM) (v : Int32) (u : Int32) (j13_ : Nat) (z11_ : Int32) (j18_ : Nat) (z16_ : Int32) (j23_ : Nat) (z21_ : Int32) (v4_81 : Int32) (j31_ : Nat) (z29_ : Int32) (z36_ : Int32) (z38_ : Int32) (j42_ : Nat) (z40_ : Int32) (z55_ : Int32) (z57_ : Int32) (h4_ : 0 ≤ v.toInt ∧ v.toInt ≤ 3) (h9_ : 0 ≤ u.toInt ∧ u.toInt ≤ 11) (h14_ : (j13_ : Int) = v.toInt) (e12_ : z11_ = Mz.1 (66, 0, 0) j13_) (h15_ : ¬ z11_.toInt = 0) (h19_ : (j18_ : Int) = v.toInt) (e17_ : z16_ = Mz.1 (66, 0, 0) j18_) (h20_ : z16_.toInt = 8) (h24_ : (j23_ : Int) = v.toInt) (e22_ : z21_ = Mz.1 (67, 0, 0) j23_) (h25_ : 0 ≤ z21_.toInt ∧ z21_.toInt ≤ 24) (h26_ : z21_.toInt ≤ 16) (kf27_ : SZ (Mz.1 (67, 0, 0)) v 16) (hv0_81 : 0 ≤ v4_81.toInt) (kv0_81 : SZ (M_81.1 (67, 0, 0)) v 16) (h32_ : (j31_ : Int) = v.toInt) (e30_ : z29_ = M_81.1 (67, 0, 0) j31_) (h33_ : 0 ≤ z29_.toInt ∧ z29_.toInt ≤ 24) (h34_ : z29_.toInt ≤ 16) (h35_ : v4_81.toInt < z29_.toInt) (h37_ : z36_.toInt = 24 * v.toInt) (h39_ : z38_.toInt = z36_.toInt + v4_81.toInt) (h43_ : (j42_ : Int) = z38_.toInt) (e41_ : z40_ = M_81.1 (68, 0, 0) j42_) (h47_ : 1 ≤ z40_.toInt ∧ z40_.toInt ≤ 5) (h56_ : z55_.toInt = 16 * u.toInt) (h58_ : z57_.toInt = z55_.toInt + v4_81.toInt) : -2147483648 ≤ z40_.toInt - 1 ∧ z40_.toInt - 1 < 2147483648 := by have r_v := rngI v; have r_u := rngI u; have r_z11_ := rngI z11_; have r_z16_ := rngI z16_; have r_z21_ := rngI z21_; have r_v4_81 := rngI v4_81; have r_z29_ := rngI z29_; have r_z36_ := rngI z36_; have r_z38_ := rngI z38_; have r_z40_ := rngI z40_; have r_z55_ := rngI z55_; have r_z57_ := rngI z57_; subst e12_; subst e17_; subst e22_; subst e30_; subst e41_; omega
theorem lf_c_X12_lays_19 (M_81 : mM) (Mz : mM) (v : Int32) (u : Int32) (j13_ : Nat) (z11_ : Int32) (j18_ : Nat) (z16_ : Int32) (j23_ : Nat) (z21_ : Int32) (v4_81 : Int32) (j31_ : Nat) (z29_ : Int32) (z36_ : Int32) (z38_ : Int32) (j42_ : Nat) (z40_ : Int32) (z55_ : Int32) (z57_ : Int32) (z66_ : Int32) (h4_ : 0 ≤ v.toInt ∧ v.toInt ≤ 3) (h9_ : 0 ≤ u.toInt ∧ u.toInt ≤ 11) (h14_ : (j13_ : Int) = v.toInt) (e12_ : z11_ = Mz.1 (66, 0, 0) j13_) (h15_ : ¬ z11_.toInt = 0) (h19_ : (j18_ : Int) = v.toInt) (e17_ : z16_ = Mz.1 (66, 0, 0) j18_) (h20_ : z16_.toInt = 8) (h24_ : (j23_ : Int) = v.toInt) (e22_ : z21_ = Mz.1 (67, 0, 0) j23_) (h25_ : 0 ≤ z21_.toInt ∧ z21_.toInt ≤ 24) (h26_ : z21_.toInt ≤ 16) (kf27_ : SZ (Mz.1 (67, 0, 0)) v 16) (hv0_81 : 0 ≤ v4_81.toInt) (kv0_81 : SZ (M_81.1 (67, 0, 0)) v 16) (h32_ : (j31_ : Int) = v.toInt) (e30_ : z29_ = M_81.1 (67, 0, 0) j31_) (h33_ : 0 ≤ z29_.toInt ∧ z29_.toInt ≤ 24) (h34_ : z29_.toInt ≤ 16) (h35_ : v4_81.toInt < z29_.toInt) (h37_ : z36_.toInt = 24 * v.toInt) (h39_ : z38_.toInt = z36_.toInt + v4_81.toInt) (h43_ : (j42_ : Int) = z38_.toInt) (e41_ : z40_ = M_81.1 (68, 0, 0) j42_) (h47_ : 1 ≤ z40_.toInt ∧ z40_.toInt ≤ 5) (h56_ : z55_.toInt = 16 * u.toInt) (h58_ : z57_.toInt = z55_.toInt + v4_81.toInt) (h67_ : z66_.toInt = z40_.toInt - 1) : -2147483648 ≤ 16 * u.toInt ∧ 16 * u.toInt < 2147483648 := by have r_v := rngI v; have r_u := rngI u; have r_z11_ := rngI z11_; have r_z16_ := rngI z16_; have r_z21_ := rngI z21_; have r_v4_81 := rngI v4_81; have r_z29_ := rngI z29_; have r_z36_ := rngI z36_; have r_z38_ := rngI z38_; have r_z40_ := rngI z40_; have r_z55_ := rngI z55_; have r_z57_ := rngI z57_; have r_z66_ := rngI z66_; subst e12_; subst e17_; subst e22_; subst e30_; subst e41_; omega
theorem lf_c_X12_lays_20 (M_81 : mM) (Mz : mM) (v : Int32) (u : Int32) (j13_ : Nat) (z11_ : Int32) (j18_ : Nat) (z16_ : Int32) (j23_ : Nat) (z21_ : Int32) (v4_81 : Int32) (j31_ : Nat) (z29_ : Int32) (z36_ : Int32) (z38_ : Int32) (j42_ : Nat) (z40_ : Int32) (z55_ : Int32) (z57_ : Int32) (z66_ : Int32) (z68_ : Int32) (h4_ : 0 ≤ v.toInt ∧ v.toInt ≤ 3) (h9_ : 0 ≤ u.toInt ∧ u.toInt ≤ 11) (h14_ : (j13_ : Int) = v.toInt) (e12_ : z11_ = Mz.1 (66, 0, 0) j13_) (h15_ : ¬ z11_.toInt = 0) (h19_ : (j18_ : Int) = v.toInt) (e17_ : z16_ = Mz.1 (66, 0, 0) j18_) (h20_ : z16_.toInt = 8) (h24_ : (j23_ : Int) = v.toInt) (e22_ : z21_ = Mz.1 (67, 0, 0) j23_) (h25_ : 0 ≤ z21_.toInt ∧ z21_.toInt ≤ 24) (h26_ : z21_.toInt ≤ 16) (kf27_ : SZ (Mz.1 (67, 0, 0)) v 16) (hv0_81 : 0 ≤ v4_81.toInt) (kv0_81 : SZ (M_81.1 (67, 0, 0)) v 16) (h32_ : (j31_ : Int) = v.toInt) (e30_ : z29_ = M_81.1 (67, 0, 0) j31_) (h33_ : 0 ≤ z29_.toInt ∧ z29_.toInt ≤ 24) (h34_ : z29_.toInt ≤ 16) (h35_ : v4_81.toInt < z29_.toInt) (h37_ : z36_.toInt = 24 * v.toInt) (h39_ : z38_.toInt = z36_.toInt + v4_81.toInt) (h43_ : (j42_ : Int) = z38_.toInt) (e41_ : z40_ = M_81.1 (68, 0, 0) j42_) (h47_ : 1 ≤ z40_.toInt ∧ z40_.toInt ≤ 5) (h56_ : z55_.toInt = 16 * u.toInt) (h58_ : z57_.toInt = z55_.toInt + v4_81.toInt) (h67_ : z66_.toInt = z40_.toInt - 1) (h69_ : z68_.toInt = 16 * u.toInt) : -2147483648 ≤ z68_.toInt + v4_81.toInt ∧ z68_.toInt + v4_81.toInt < 2147483648 := by have r_v := rngI v; have r_u := rngI u; have r_z11_ := rngI z11_; have r_z16_ := rngI z16_; have r_z21_ := rngI z21_; have r_v4_81 := rngI v4_81; have r_z29_ := rngI z29_; have r_z36_ := rngI z36_; have r_z38_ := rngI z38_; have r_z40_ := rngI z40_; have r_z55_ := rngI z55_; have r_z57_ := rngI z57_; have r_z66_ := rngI z66_; have r_z68_ := rngI z68_; subst e12_; subst e17_; subst e22_; subst e30_; subst e41_; omega
theorem lf_c_X12_lays_21 (M_81 : mM) (Mz : mM) (v : Int32) (u : Int32) (j13_ : Nat) (z11_ : Int32) (j18_ : Nat) (z16_ : Int32) (j23_ : Nat) (z21_ : Int32) (v4_81 : Int32) (j31_ : Nat) (z29_ : Int32) (z36_ : Int32) (z38_ : Int32) (j42_ : Nat) (z40_ : Int32) (z55_ : Int32) (z57_ : Int32) (z66_ : Int32) (z68_ : Int32) (z70_ : Int32) (h4_ : 0 ≤ v.toInt ∧ v.toInt ≤ 3) (h9_ : 0 ≤ u.toInt ∧ u.toInt ≤ 11) (h14_ : (j13_ : Int) = v.toInt) (e12_ : z11_ = Mz.1 (66, 0, 0) j13_) (h15_ : ¬ z11_.toInt = 0) (h19_ : (j18_ : Int) = v.toInt) (e17_ : z16_ = Mz.1 (66, 0, 0) j18_) (h20_ : z16_.toInt = 8) (h24_ : (j23_ : Int) = v.toInt) (e22_ : z21_ = Mz.1 (67, 0, 0) j23_) (h25_ : 0 ≤ z21_.toInt ∧ z21_.toInt ≤ 24) (h26_ : z21_.toInt ≤ 16) (kf27_ : SZ (Mz.1 (67, 0, 0)) v 16) (hv0_81 : 0 ≤ v4_81.toInt) (kv0_81 : SZ (M_81.1 (67, 0, 0)) v 16) (h32_ : (j31_ : Int) = v.toInt) (e30_ : z29_ = M_81.1 (67, 0, 0) j31_) (h33_ : 0 ≤ z29_.toInt ∧ z29_.toInt ≤ 24) (h34_ : z29_.toInt ≤ 16) (h35_ : v4_81.toInt < z29_.toInt) (h37_ : z36_.toInt = 24 * v.toInt) (h39_ : z38_.toInt = z36_.toInt + v4_81.toInt) (h43_ : (j42_ : Int) = z38_.toInt) (e41_ : z40_ = M_81.1 (68, 0, 0) j42_) (h47_ : 1 ≤ z40_.toInt ∧ z40_.toInt ≤ 5) (h56_ : z55_.toInt = 16 * u.toInt) (h58_ : z57_.toInt = z55_.toInt + v4_81.toInt) (h67_ : z66_.toInt = z40_.toInt - 1) (h69_ : z68_.toInt = 16 * u.toInt) (h71_ : z70_.toInt = z68_.toInt + v4_81.toInt) : 0 ≤ z66_.toInt ∧ z66_.toInt ≤ 4 := by have r_v := rngI v; have r_u := rngI u; have r_z11_ := rngI z11_; have r_z16_ := rngI z16_; have r_z21_ := rngI z21_; have r_v4_81 := rngI v4_81; have r_z29_ := rngI z29_; have r_z36_ := rngI z36_; have r_z38_ := rngI z38_; have r_z40_ := rngI z40_; have r_z55_ := rngI z55_; have r_z57_ := rngI z57_; have r_z66_ := rngI z66_; have r_z68_ := rngI z68_; have r_z70_ := rngI z70_; subst e12_; subst e17_; subst e22_; subst e30_; subst e41_; omega
theorem lf_c_X12_lays_22 (M_81 : mM) (Mz : mM) (v : Int32) (u : Int32) (j13_ : Nat) (z11_ : Int32) (j18_ : Nat) (z16_ : Int32) (j23_ : Nat) (z21_ : Int32) (v4_81 : Int32) (j31_ : Nat) (z29_ : Int32) (z36_ : Int32) (z38_ : Int32) (j42_ : Nat) (z40_ : Int32) (z55_ : Int32) (z57_ : Int32) (z66_ : Int32) (z68_ : Int32) (z70_ : Int32) (h4_ : 0 ≤ v.toInt ∧ v.toInt ≤ 3) (h9_ : 0 ≤ u.toInt ∧ u.toInt ≤ 11) (h14_ : (j13_ : Int) = v.toInt) (e12_ : z11_ = Mz.1 (66, 0, 0) j13_) (h15_ : ¬ z11_.toInt = 0) (h19_ : (j18_ : Int) = v.toInt) (e17_ : z16_ = Mz.1 (66, 0, 0) j18_) (h20_ : z16_.toInt = 8) (h24_ : (j23_ : Int) = v.toInt) (e22_ : z21_ = Mz.1 (67, 0, 0) j23_) (h25_ : 0 ≤ z21_.toInt ∧ z21_.toInt ≤ 24) (h26_ : z21_.toInt ≤ 16) (kf27_ : SZ (Mz.1 (67, 0, 0)) v 16) (hv0_81 : 0 ≤ v4_81.toInt) (kv0_81 : SZ (M_81.1 (67, 0, 0)) v 16) (h32_ : (j31_ : Int) = v.toInt) (e30_ : z29_ = M_81.1 (67, 0, 0) j31_) (h33_ : 0 ≤ z29_.toInt ∧ z29_.toInt ≤ 24) (h34_ : z29_.toInt ≤ 16) (h35_ : v4_81.toInt < z29_.toInt) (h37_ : z36_.toInt = 24 * v.toInt) (h39_ : z38_.toInt = z36_.toInt + v4_81.toInt) (h43_ : (j42_ : Int) = z38_.toInt) (e41_ : z40_ = M_81.1 (68, 0, 0) j42_) (h47_ : 1 ≤ z40_.toInt ∧ z40_.toInt ≤ 5) (h56_ : z55_.toInt = 16 * u.toInt) (h58_ : z57_.toInt = z55_.toInt + v4_81.toInt) (h67_ : z66_.toInt = z40_.toInt - 1) (h69_ : z68_.toInt = 16 * u.toInt) (h71_ : z70_.toInt = z68_.toInt + v4_81.toInt) : 0 ≤ z70_.toInt ∧ z70_.toInt ≤ 191 := by have r_v := rngI v; have r_u := rngI u; have r_z11_ := rngI z11_; have r_z16_ := rngI z16_; have r_z21_ := rngI z21_; have r_v4_81 := rngI v4_81; have r_z29_ := rngI z29_; have r_z36_ := rngI z36_; have r_z38_ := rngI z38_; have r_z40_ := rngI z40_; have r_z55_ := rngI z55_; have r_z57_ := rngI z57_; have r_z66_ := rngI z66_; have r_z68_ := rngI z68_; have r_z70_ := rngI z70_; subst e12_; subst e17_; subst e22_; subst e30_; subst e41_; omega
theorem lf_c_X12_lays_23 (M_81 : mM) (z49_ : Int32) (e50_ : z49_ = M_81.1 (50, 0, 0) 1) (h51_ : 0 ≤ z49_.toInt ∧ z49_.toInt ≤ 40) (h52_ : z49_.toInt < 40) : z49_.toInt ≤ 39 := by have r_z49_ := rngI z49_; subst e50_; omega
theorem lf_c_X12_lays_24 (M73_ : mM) (M_81 : mM) (Mz : mM) (v : Int32) (u : Int32) (j13_ : Nat) (z11_ : Int32) (j18_ : Nat) (z16_ : Int32) (j23_ : Nat) (z21_ : Int32) (v4_81 : Int32) (j31_ : Nat) (z29_ : Int32) (z36_ : Int32) (z38_ : Int32) (j42_ : Nat) (z40_ : Int32) (z55_ : Int32) (z57_ : Int32) (z66_ : Int32) (z68_ : Int32) (z70_ : Int32) (h4_ : 0 ≤ v.toInt ∧ v.toInt ≤ 3) (h9_ : 0 ≤ u.toInt ∧ u.toInt ≤ 11) (h14_ : (j13_ : Int) = v.toInt) (e12_ : z11_ = Mz.1 (66, 0, 0) j13_) (h15_ : ¬ z11_.toInt = 0) (h19_ : (j18_ : Int) = v.toInt) (e17_ : z16_ = Mz.1 (66, 0, 0) j18_) (h20_ : z16_.toInt = 8) (h24_ : (j23_ : Int) = v.toInt) (e22_ : z21_ = Mz.1 (67, 0, 0) j23_) (h25_ : 0 ≤ z21_.toInt ∧ z21_.toInt ≤ 24) (h26_ : z21_.toInt ≤ 16) (kf27_ : SZ (Mz.1 (67, 0, 0)) v 16) (hv0_81 : 0 ≤ v4_81.toInt) (kv0_81 : SZ (M_81.1 (67, 0, 0)) v 16) (h32_ : (j31_ : Int) = v.toInt) (e30_ : z29_ = M_81.1 (67, 0, 0) j31_) (h33_ : 0 ≤ z29_.toInt ∧ z29_.toInt ≤ 24) (h34_ : z29_.toInt ≤ 16) (h35_ : v4_81.toInt < z29_.toInt) (h37_ : z36_.toInt = 24 * v.toInt) (h39_ : z38_.toInt = z36_.toInt + v4_81.toInt) (h43_ : (j42_ : Int) = z38_.toInt) (e41_ : z40_ = M_81.1 (68, 0, 0) j42_) (h47_ : 1 ≤ z40_.toInt ∧ z40_.toInt ≤ 5) (h56_ : z55_.toInt = 16 * u.toInt) (h58_ : z57_.toInt = z55_.toInt + v4_81.toInt) (h67_ : z66_.toInt = z40_.toInt - 1) (h69_ : z68_.toInt = 16 * u.toInt) (h71_ : z70_.toInt = z68_.toInt + v4_81.toInt) (kf79_ : SZ (M73_.1 (67, 0, 0)) v 16) : -2147483648 ≤ v4_81.toInt + 1 ∧ v4_81.toInt + 1 < 2147483648 := by have r_v := rngI v; have r_u := rngI u; have r_z11_ := rngI z11_; have r_z16_ := rngI z16_; have r_z21_ := rngI z21_; have r_v4_81 := rngI v4_81; have r_z29_ := rngI z29_; have r_z36_ := rngI z36_; have r_z38_ := rngI z38_; have r_z40_ := rngI z40_; have r_z55_ := rngI z55_; have r_z57_ := rngI z57_; have r_z66_ := rngI z66_; have r_z68_ := rngI z68_; have r_z70_ := rngI z70_; subst e12_; subst e17_; subst e22_; subst e30_; subst e41_; omega
theorem lf_c_X12_lays_25 (M73_ : mM) (M_81 : mM) (Mz : mM) (v : Int32) (u : Int32) (j13_ : Nat) (z11_ : Int32) (j18_ : Nat) (z16_ : Int32) (j23_ : Nat) (z21_ : Int32) (v4_81 : Int32) (j31_ : Nat) (z29_ : Int32) (z36_ : Int32) (z38_ : Int32) (j42_ : Nat) (z40_ : Int32) (z55_ : Int32) (z57_ : Int32) (z66_ : Int32) (z68_ : Int32) (z70_ : Int32) (z81_ : Int32) (h4_ : 0 ≤ v.toInt ∧ v.toInt ≤ 3) (h9_ : 0 ≤ u.toInt ∧ u.toInt ≤ 11) (h14_ : (j13_ : Int) = v.toInt) (e12_ : z11_ = Mz.1 (66, 0, 0) j13_) (h15_ : ¬ z11_.toInt = 0) (h19_ : (j18_ : Int) = v.toInt) (e17_ : z16_ = Mz.1 (66, 0, 0) j18_) (h20_ : z16_.toInt = 8) (h24_ : (j23_ : Int) = v.toInt) (e22_ : z21_ = Mz.1 (67, 0, 0) j23_) (h25_ : 0 ≤ z21_.toInt ∧ z21_.toInt ≤ 24) (h26_ : z21_.toInt ≤ 16) (kf27_ : SZ (Mz.1 (67, 0, 0)) v 16) (hv0_81 : 0 ≤ v4_81.toInt) (kv0_81 : SZ (M_81.1 (67, 0, 0)) v 16) (h32_ : (j31_ : Int) = v.toInt) (e30_ : z29_ = M_81.1 (67, 0, 0) j31_) (h33_ : 0 ≤ z29_.toInt ∧ z29_.toInt ≤ 24) (h34_ : z29_.toInt ≤ 16) (h35_ : v4_81.toInt < z29_.toInt) (h37_ : z36_.toInt = 24 * v.toInt) (h39_ : z38_.toInt = z36_.toInt + v4_81.toInt) (h43_ : (j42_ : Int) = z38_.toInt) (e41_ : z40_ = M_81.1 (68, 0, 0) j42_) (h47_ : 1 ≤ z40_.toInt ∧ z40_.toInt ≤ 5) (h56_ : z55_.toInt = 16 * u.toInt) (h58_ : z57_.toInt = z55_.toInt + v4_81.toInt) (h67_ : z66_.toInt = z40_.toInt - 1) (h69_ : z68_.toInt = 16 * u.toInt) (h71_ : z70_.toInt = z68_.toInt + v4_81.toInt) (kf79_ : SZ (M73_.1 (67, 0, 0)) v 16) (h82_ : z81_.toInt = v4_81.toInt + 1) : 0 ≤ z81_.toInt := by have r_v := rngI v; have r_u := rngI u; have r_z11_ := rngI z11_; have r_z16_ := rngI z16_; have r_z21_ := rngI z21_; have r_v4_81 := rngI v4_81; have r_z29_ := rngI z29_; have r_z36_ := rngI z36_; have r_z38_ := rngI z38_; have r_z40_ := rngI z40_; have r_z55_ := rngI z55_; have r_z57_ := rngI z57_; have r_z66_ := rngI z66_; have r_z68_ := rngI z68_; have r_z70_ := rngI z70_; have r_z81_ := rngI z81_; subst e12_; subst e17_; subst e22_; subst e30_; subst e41_; omega
theorem lf_c_X12_lays_26 (M73_ : mM) (M_81 : mM) (Mz : mM) (v : Int32) (u : Int32) (j13_ : Nat) (z11_ : Int32) (j18_ : Nat) (z16_ : Int32) (j23_ : Nat) (z21_ : Int32) (v4_81 : Int32) (j31_ : Nat) (z29_ : Int32) (z36_ : Int32) (z38_ : Int32) (j42_ : Nat) (z40_ : Int32) (z55_ : Int32) (z57_ : Int32) (z66_ : Int32) (z68_ : Int32) (z70_ : Int32) (z81_ : Int32) (h4_ : 0 ≤ v.toInt ∧ v.toInt ≤ 3) (h9_ : 0 ≤ u.toInt ∧ u.toInt ≤ 11) (h14_ : (j13_ : Int) = v.toInt) (e12_ : z11_ = Mz.1 (66, 0, 0) j13_) (h15_ : ¬ z11_.toInt = 0) (h19_ : (j18_ : Int) = v.toInt) (e17_ : z16_ = Mz.1 (66, 0, 0) j18_) (h20_ : z16_.toInt = 8) (h24_ : (j23_ : Int) = v.toInt) (e22_ : z21_ = Mz.1 (67, 0, 0) j23_) (h25_ : 0 ≤ z21_.toInt ∧ z21_.toInt ≤ 24) (h26_ : z21_.toInt ≤ 16) (kf27_ : SZ (Mz.1 (67, 0, 0)) v 16) (hv0_81 : 0 ≤ v4_81.toInt) (kv0_81 : SZ (M_81.1 (67, 0, 0)) v 16) (h32_ : (j31_ : Int) = v.toInt) (e30_ : z29_ = M_81.1 (67, 0, 0) j31_) (h33_ : 0 ≤ z29_.toInt ∧ z29_.toInt ≤ 24) (h34_ : z29_.toInt ≤ 16) (h35_ : v4_81.toInt < z29_.toInt) (h37_ : z36_.toInt = 24 * v.toInt) (h39_ : z38_.toInt = z36_.toInt + v4_81.toInt) (h43_ : (j42_ : Int) = z38_.toInt) (e41_ : z40_ = M_81.1 (68, 0, 0) j42_) (h47_ : 1 ≤ z40_.toInt ∧ z40_.toInt ≤ 5) (h56_ : z55_.toInt = 16 * u.toInt) (h58_ : z57_.toInt = z55_.toInt + v4_81.toInt) (h67_ : z66_.toInt = z40_.toInt - 1) (h69_ : z68_.toInt = 16 * u.toInt) (h71_ : z70_.toInt = z68_.toInt + v4_81.toInt) (kf79_ : SZ (M73_.1 (67, 0, 0)) v 16) (h82_ : z81_.toInt = v4_81.toInt + 1) : (2147483648 - z81_.toInt).toNat < (2147483648 - v4_81.toInt).toNat := by have r_v := rngI v; have r_u := rngI u; have r_z11_ := rngI z11_; have r_z16_ := rngI z16_; have r_z21_ := rngI z21_; have r_v4_81 := rngI v4_81; have r_z29_ := rngI z29_; have r_z36_ := rngI z36_; have r_z38_ := rngI z38_; have r_z40_ := rngI z40_; have r_z55_ := rngI z55_; have r_z57_ := rngI z57_; have r_z66_ := rngI z66_; have r_z68_ := rngI z68_; have r_z70_ := rngI z70_; have r_z81_ := rngI z81_; subst e12_; subst e17_; subst e22_; subst e30_; subst e41_; omega
theorem lf_c_X12_lays_27 (M_81 : mM) (Mz : mM) (v : Int32) (j13_ : Nat) (z11_ : Int32) (j18_ : Nat) (z16_ : Int32) (j23_ : Nat) (z21_ : Int32) (v4_81 : Int32) (j31_ : Nat) (z29_ : Int32) (z36_ : Int32) (z38_ : Int32) (j42_ : Nat) (z40_ : Int32) (h4_ : 0 ≤ v.toInt ∧ v.toInt ≤ 3) (h14_ : (j13_ : Int) = v.toInt) (e12_ : z11_ = Mz.1 (66, 0, 0) j13_) (h15_ : ¬ z11_.toInt = 0) (h19_ : (j18_ : Int) = v.toInt) (e17_ : z16_ = Mz.1 (66, 0, 0) j18_) (h20_ : z16_.toInt = 8) (h24_ : (j23_ : Int) = v.toInt) (e22_ : z21_ = Mz.1 (67, 0, 0) j23_) (h25_ : 0 ≤ z21_.toInt ∧ z21_.toInt ≤ 24) (h26_ : z21_.toInt ≤ 16) (kf27_ : SZ (Mz.1 (67, 0, 0)) v 16) (hv0_81 : 0 ≤ v4_81.toInt) (kv0_81 : SZ (M_81.1 (67, 0, 0)) v 16) (h32_ : (j31_ : Int) = v.toInt) (e30_ : z29_ = M_81.1 (67, 0, 0) j31_) (h33_ : 0 ≤ z29_.toInt ∧ z29_.toInt ≤ 24) (h34_ : z29_.toInt ≤ 16) (h35_ : v4_81.toInt < z29_.toInt) (h37_ : z36_.toInt = 24 * v.toInt) (h39_ : z38_.toInt = z36_.toInt + v4_81.toInt) (h43_ : (j42_ : Int) = z38_.toInt) (e41_ : z40_ = M_81.1 (68, 0, 0) j42_) (h47_ : ¬ (1 ≤ z40_.toInt ∧ z40_.toInt ≤ 5)) : -2147483648 ≤ v4_81.toInt + 1 ∧ v4_81.toInt + 1 < 2147483648 := by have r_v := rngI v; have r_z11_ := rngI z11_; have r_z16_ := rngI z16_; have r_z21_ := rngI z21_; have r_v4_81 := rngI v4_81; have r_z29_ := rngI z29_; have r_z36_ := rngI z36_; have r_z38_ := rngI z38_; have r_z40_ := rngI z40_; subst e12_; subst e17_; subst e22_; subst e30_; subst e41_; omega
theorem lf_c_X12_lays_28 (M_81 : mM) (Mz : mM) (v : Int32) (j13_ : Nat) (z11_ : Int32) (j18_ : Nat) (z16_ : Int32) (j23_ : Nat) (z21_ : Int32) (v4_81 : Int32) (j31_ : Nat) (z29_ : Int32) (z36_ : Int32) (z38_ : Int32) (j42_ : Nat) (z40_ : Int32) (z84_ : Int32) (h4_ : 0 ≤ v.toInt ∧ v.toInt ≤ 3) (h14_ : (j13_ : Int) = v.toInt) (e12_ : z11_ = Mz.1 (66, 0, 0) j13_) (h15_ : ¬ z11_.toInt = 0) (h19_ : (j18_ : Int) = v.toInt) (e17_ : z16_ = Mz.1 (66, 0, 0) j18_) (h20_ : z16_.toInt = 8) (h24_ : (j23_ : Int) = v.toInt) (e22_ : z21_ = Mz.1 (67, 0, 0) j23_) (h25_ : 0 ≤ z21_.toInt ∧ z21_.toInt ≤ 24) (h26_ : z21_.toInt ≤ 16) (kf27_ : SZ (Mz.1 (67, 0, 0)) v 16) (hv0_81 : 0 ≤ v4_81.toInt) (kv0_81 : SZ (M_81.1 (67, 0, 0)) v 16) (h32_ : (j31_ : Int) = v.toInt) (e30_ : z29_ = M_81.1 (67, 0, 0) j31_) (h33_ : 0 ≤ z29_.toInt ∧ z29_.toInt ≤ 24) (h34_ : z29_.toInt ≤ 16) (h35_ : v4_81.toInt < z29_.toInt) (h37_ : z36_.toInt = 24 * v.toInt) (h39_ : z38_.toInt = z36_.toInt + v4_81.toInt) (h43_ : (j42_ : Int) = z38_.toInt) (e41_ : z40_ = M_81.1 (68, 0, 0) j42_) (h47_ : ¬ (1 ≤ z40_.toInt ∧ z40_.toInt ≤ 5)) (h85_ : z84_.toInt = v4_81.toInt + 1) : 0 ≤ z84_.toInt := by have r_v := rngI v; have r_z11_ := rngI z11_; have r_z16_ := rngI z16_; have r_z21_ := rngI z21_; have r_v4_81 := rngI v4_81; have r_z29_ := rngI z29_; have r_z36_ := rngI z36_; have r_z38_ := rngI z38_; have r_z40_ := rngI z40_; have r_z84_ := rngI z84_; subst e12_; subst e17_; subst e22_; subst e30_; subst e41_; omega
theorem lf_c_X12_lays_29 (M_81 : mM) (Mz : mM) (v : Int32) (j13_ : Nat) (z11_ : Int32) (j18_ : Nat) (z16_ : Int32) (j23_ : Nat) (z21_ : Int32) (v4_81 : Int32) (j31_ : Nat) (z29_ : Int32) (z36_ : Int32) (z38_ : Int32) (j42_ : Nat) (z40_ : Int32) (z84_ : Int32) (h4_ : 0 ≤ v.toInt ∧ v.toInt ≤ 3) (h14_ : (j13_ : Int) = v.toInt) (e12_ : z11_ = Mz.1 (66, 0, 0) j13_) (h15_ : ¬ z11_.toInt = 0) (h19_ : (j18_ : Int) = v.toInt) (e17_ : z16_ = Mz.1 (66, 0, 0) j18_) (h20_ : z16_.toInt = 8) (h24_ : (j23_ : Int) = v.toInt) (e22_ : z21_ = Mz.1 (67, 0, 0) j23_) (h25_ : 0 ≤ z21_.toInt ∧ z21_.toInt ≤ 24) (h26_ : z21_.toInt ≤ 16) (kf27_ : SZ (Mz.1 (67, 0, 0)) v 16) (hv0_81 : 0 ≤ v4_81.toInt) (kv0_81 : SZ (M_81.1 (67, 0, 0)) v 16) (h32_ : (j31_ : Int) = v.toInt) (e30_ : z29_ = M_81.1 (67, 0, 0) j31_) (h33_ : 0 ≤ z29_.toInt ∧ z29_.toInt ≤ 24) (h34_ : z29_.toInt ≤ 16) (h35_ : v4_81.toInt < z29_.toInt) (h37_ : z36_.toInt = 24 * v.toInt) (h39_ : z38_.toInt = z36_.toInt + v4_81.toInt) (h43_ : (j42_ : Int) = z38_.toInt) (e41_ : z40_ = M_81.1 (68, 0, 0) j42_) (h47_ : ¬ (1 ≤ z40_.toInt ∧ z40_.toInt ≤ 5)) (h85_ : z84_.toInt = v4_81.toInt + 1) : (2147483648 - z84_.toInt).toNat < (2147483648 - v4_81.toInt).toNat := by have r_v := rngI v; have r_z11_ := rngI z11_; have r_z16_ := rngI z16_; have r_z21_ := rngI z21_; have r_v4_81 := rngI v4_81; have r_z29_ := rngI z29_; have r_z36_ := rngI z36_; have r_z38_ := rngI z38_; have r_z40_ := rngI z40_; have r_z84_ := rngI z84_; subst e12_; subst e17_; subst e22_; subst e30_; subst e41_; omega
theorem lf_c_X12_lays_30    : 0 ≤ (0 : Int32).toInt := by have q0 := li_0; omega
set_option maxHeartbeats 4000000 in
set_option maxRecDepth 100000 in
theorem c_X12_lays (l : Launch) (G : va_G) (cy : Nat → ClassId) (ad : rf → Nat) (d : Nat) (v : Int32) (u : Int32) (Mz : mM) (hIz : InvD Mz) : WP DD l G cy ad yX12_lays cX12_lays 6 (some .int) (d + 3) 0 [(0, vR (12, 0, 0)), (1, vI v), (2, vI u)] [] Mz (fun r M' => InvD M' ∧ FR (S_c_X12_lays) Mz M' ∧ True) := by
  have hFz : FR (S_c_X12_lays) Mz Mz := FR.self
  refine w_iload_n dX12_lays_0 rfl 1 rfl ?_
  refine w_callS (as := [vI v]) (rest := []) (c_X12_isSheet l G cy ad (d + 1) v Mz hIz) kS_X12_isSheet (by decide +kernel) (Nat.le_of_ble_eq_true rfl) m_1497 rfl rfl (by decide) (Nat.le_of_ble_eq_true rfl) dX12_lays_1 (fun r1_ M2_ q3_ => ?_)
  obtain ⟨rfl, h4_⟩ := q3_
  rcases h4_ with ⟨rfl, h4_⟩ | ⟨rfl, h4_⟩
  · refine w_if_eq (tgt := 17) dX12_lays_4 (by decide) li_1 (fun h9 => (absurd h9 (by decide))) (fun h5_ => ?_)
    refine w_iload_n dX12_lays_7 rfl 2 rfl ?_
    refine w_iconst (v := 0) dX12_lays_8 (by decide) ?_
    refine w_bipush (v := 11) dX12_lays_9 (by decide) ?_
    refine w_callS (as := [vI u, vI 0, vI 11]) (rest := []) (c_X12_within l G cy ad (d + 2) u 0 11 Mz hIz) kS_X12_within (by decide +kernel) (Nat.le_of_ble_eq_true rfl) m_1427 rfl rfl (by decide) (Nat.le_of_ble_eq_true rfl) dX12_lays_11 (fun r6_ M7_ q8_ => ?_)
    obtain ⟨rfl, h9_⟩ := q8_
    rcases h9_ with ⟨rfl, h9_⟩ | ⟨rfl, h9_⟩
    · simp only [li_0, li_11] at h9_
      refine w_if_ne (tgt := 24) dX12_lays_14 (by decide) li_1 (fun h10_ => ?_) (fun h9 => (absurd h9 (by decide)))
      refine w_aload_n dX12_lays_24 rfl 0 rfl ?_
      refine w_getR (c' := (66, 0, 0)) fl_RX12_72 rfl rfl ic_12 dX12_lays_25 rfl ?_
      refine w_iload_n dX12_lays_28 rfl 1 rfl ?_
      refine w_iald rfl rfl ic_66 (rfl : v.toInt = v.toInt) (lf_c_X12_lays_0 v h4_) dX12_lays_29 (fun j13_ h14_ z11_ e12_ => ?_)
      refine w_if_ne (tgt := 40) dX12_lays_30 (by decide) (rfl : z11_.toInt = z11_.toInt) (fun h15_ => ?_) (fun h15_ => ?_)
      · refine w_aload_n dX12_lays_40 rfl 0 rfl ?_
        refine w_getR (c' := (66, 0, 0)) fl_RX12_72 rfl rfl ic_12 dX12_lays_41 rfl ?_
        refine w_iload_n dX12_lays_44 rfl 1 rfl ?_
        refine w_iald rfl rfl ic_66 (rfl : v.toInt = v.toInt) (lf_c_X12_lays_1 Mz v j13_ z11_ h4_ h14_ e12_ h15_) dX12_lays_45 (fun j18_ h19_ z16_ e17_ => ?_)
        refine w_bipush (v := 8) dX12_lays_46 (by decide) ?_
        refine w_icmp_eq (tgt := 58) dX12_lays_48 (by decide) (rfl : z16_.toInt = z16_.toInt) li_8 (fun h20_ => ?_) (fun h20_ => ?_)
        · refine w_aload_n dX12_lays_58 rfl 0 rfl ?_
          refine w_getR (c' := (67, 0, 0)) fl_RX12_75 rfl rfl ic_12 dX12_lays_59 rfl ?_
          refine w_iload_n dX12_lays_62 rfl 1 rfl ?_
          refine w_iald rfl rfl ic_67 (rfl : v.toInt = v.toInt) (lf_c_X12_lays_2 Mz v j13_ z11_ j18_ z16_ h4_ h14_ e12_ h15_ h19_ e17_ h20_) dX12_lays_63 (fun j23_ h24_ z21_ e22_ => ?_)
          have h25_ : 0 ≤ z21_.toInt ∧ z21_.toInt ≤ 24 := pn_67 hIz e22_
          refine w_bipush (v := 16) dX12_lays_64 (by decide) ?_
          refine w_icmp_le (tgt := 76) dX12_lays_66 (by decide) (rfl : z21_.toInt = z21_.toInt) li_16 (fun h26_ => ?_) (fun h26_ => ?_)
          · have kf27_ : SZ (Mz.1 (67, 0, 0)) v 16 := fun q9 hq9 => by
              have e9 : q9 = j23_ := Int.ofNat_inj.mp (hq9.trans (lf_c_X12_lays_3 Mz v j13_ z11_ j18_ z16_ j23_ z21_ h4_ h14_ e12_ h15_ h19_ e17_ h20_ h24_ e22_ h25_ h26_))
              rw [e9, ← e22_]; exact (lf_c_X12_lays_4 Mz v j13_ z11_ j18_ z16_ j23_ z21_ h4_ h14_ e12_ h15_ h19_ e17_ h20_ h24_ e22_ h25_ h26_)
            refine w_iconst (v := 0) dX12_lays_76 (by decide) ?_
            refine w_istore_n (ls' := [(3, vI 0), (0, vR (12, 0, 0)), (1, vI v), (2, vI u)]) dX12_lays_77 rfl (by decide) rfl ?_
            refine w_iconst (v := 0) dX12_lays_78 (by decide) ?_
            refine w_istore (ls' := [(4, vI 0), (3, vI 0), (0, vR (12, 0, 0)), (1, vI v), (2, vI u)]) dX12_lays_79 (by decide) rfl ?_
            have lp28_ : ∀ (nn_81 : Nat) (M_81 : mM) (hI_81 : InvD M_81) (hF_81 : FR (S_c_X12_lays) Mz M_81) (v4_81 : Int32) (v3_81 : Int32) (hv0_81 : 0 ≤ v4_81.toInt) (kv0_81 : SZ (M_81.1 (67, 0, 0)) v 16), (2147483648 - v4_81.toInt).toNat < nn_81 → WP DD l G cy ad yX12_lays cX12_lays 6 (some .int) (d + 3) 81 [(4, vI v4_81), (3, vI v3_81), (0, vR (12, 0, 0)), (1, vI v), (2, vI u)] [] M_81 (fun r M' => InvD M' ∧ FR (S_c_X12_lays) Mz M' ∧ True) := by
              intro nn_81
              induction nn_81 with
              | zero => intro M_81 hI_81 hF_81 v4_81 v3_81 hv0_81 kv0_81 hm_81; exact absurd hm_81 (Nat.not_lt_zero _)
              | succ nn_81 ih_81 =>
                intro M_81 hI_81 hF_81 v4_81 v3_81 hv0_81 kv0_81 hm_81
                refine w_iload dX12_lays_81 0 rfl ?_
                refine w_aload_n dX12_lays_83 rfl 2 rfl ?_
                refine w_getR (c' := (67, 0, 0)) fl_RX12_75 rfl rfl ic_12 dX12_lays_84 rfl ?_
                refine w_iload_n dX12_lays_87 rfl 3 rfl ?_
                refine w_iald rfl rfl ic_67 (rfl : v.toInt = v.toInt) (lf_c_X12_lays_5 M_81 Mz v j13_ z11_ j18_ z16_ j23_ z21_ h4_ h14_ e12_ h15_ h19_ e17_ h20_ h24_ e22_ h25_ h26_ kf27_ kv0_81) dX12_lays_88 (fun j31_ h32_ z29_ e30_ => ?_)
                have h33_ : 0 ≤ z29_.toInt ∧ z29_.toInt ≤ 24 := pn_67 hI_81 e30_
                have h34_ : z29_.toInt ≤ 16 := by rw [e30_]; exact kv0_81 j31_ (lf_c_X12_lays_6 M_81 Mz v j13_ z11_ j18_ z16_ j23_ z21_ j31_ z29_ h4_ h14_ e12_ h15_ h19_ e17_ h20_ h24_ e22_ h25_ h26_ kf27_ kv0_81 h32_ e30_ h33_)
                refine w_icmp_ge (tgt := 166) dX12_lays_89 (by decide) (rfl : v4_81.toInt = v4_81.toInt) (rfl : z29_.toInt = z29_.toInt) (fun h35_ => ?_) (fun h35_ => ?_)
                · refine w_iload_n dX12_lays_166 rfl 1 rfl ?_
                  exact w_iret rfl dX12_lays_167 ⟨hI_81, hF_81, trivial⟩
                · refine w_aload_n dX12_lays_92 rfl 2 rfl ?_
                  refine w_getR (c' := (68, 0, 0)) fl_RX12_78 rfl rfl ic_12 dX12_lays_93 rfl ?_
                  refine w_bipush (v := 24) dX12_lays_96 (by decide) ?_
                  refine w_iload_n dX12_lays_98 rfl 3 rfl ?_
                  refine w_imulB dX12_lays_99 li_24 (rfl : v.toInt = v.toInt) (lf_c_X12_lays_7 M_81 Mz v j13_ z11_ j18_ z16_ j23_ z21_ v4_81 j31_ z29_ h4_ h14_ e12_ h15_ h19_ e17_ h20_ h24_ e22_ h25_ h26_ kf27_ hv0_81 kv0_81 h32_ e30_ h33_ h34_ h35_) (fun z36_ h37_ => ?_)
                  refine w_iload dX12_lays_100 0 rfl ?_
                  refine w_iaddB dX12_lays_102 (rfl : z36_.toInt = z36_.toInt) (rfl : v4_81.toInt = v4_81.toInt) (lf_c_X12_lays_8 M_81 Mz v j13_ z11_ j18_ z16_ j23_ z21_ v4_81 j31_ z29_ z36_ h4_ h14_ e12_ h15_ h19_ e17_ h20_ h24_ e22_ h25_ h26_ kf27_ hv0_81 kv0_81 h32_ e30_ h33_ h34_ h35_ h37_) (fun z38_ h39_ => ?_)
                  refine w_iald rfl rfl ic_68 (rfl : z38_.toInt = z38_.toInt) (lf_c_X12_lays_9 M_81 Mz v j13_ z11_ j18_ z16_ j23_ z21_ v4_81 j31_ z29_ z36_ z38_ h4_ h14_ e12_ h15_ h19_ e17_ h20_ h24_ e22_ h25_ h26_ kf27_ hv0_81 kv0_81 h32_ e30_ h33_ h34_ h35_ h37_ h39_) dX12_lays_103 (fun j42_ h43_ z40_ e41_ => ?_)
                  refine w_istore (ls' := [(5, vI z40_), (4, vI v4_81), (3, vI v3_81), (0, vR (12, 0, 0)), (1, vI v), (2, vI u)]) dX12_lays_104 (by decide) rfl ?_
                  refine w_iload dX12_lays_106 0 rfl ?_
                  refine w_iconst (v := 1) dX12_lays_108 (by decide) ?_
                  refine w_iconst (v := 5) dX12_lays_109 (by decide) ?_
                  refine w_callS (as := [vI z40_, vI 1, vI 5]) (rest := []) (c_X12_within l G cy ad (d + 2) z40_ 1 5 M_81 hI_81) kS_X12_within (by decide +kernel) (Nat.le_of_ble_eq_true rfl) m_1427 rfl rfl (by decide) (Nat.le_of_ble_eq_true rfl) dX12_lays_110 (fun r44_ M45_ q46_ => ?_)
                  obtain ⟨rfl, h47_⟩ := q46_
                  rcases h47_ with ⟨rfl, h47_⟩ | ⟨rfl, h47_⟩
                  · simp only [li_1, li_5] at h47_
                    refine w_if_eq (tgt := 160) dX12_lays_113 (by decide) li_1 (fun h9 => (absurd h9 (by decide))) (fun h48_ => ?_)
                    refine w_aload_n dX12_lays_116 rfl 3 rfl ?_
                    refine w_getR (c' := (50, 0, 0)) fl_RX12_9 rfl rfl ic_12 dX12_lays_117 rfl ?_
                    refine w_iconst (v := 1) dX12_lays_120 (by decide) ?_
                    refine w_ialdL 1 rfl rfl ic_50 li_1 (by decide) dX12_lays_121 (fun z49_ e50_ => ?_)
                    have h51_ : 0 ≤ z49_.toInt ∧ z49_.toInt ≤ 40 := pn_1 hI_81 e50_
                    refine w_bipush (v := 40) dX12_lays_122 (by decide) ?_
                    refine w_icmp_ge (tgt := 160) dX12_lays_124 (by decide) (rfl : z49_.toInt = z49_.toInt) li_40 (fun h52_ => ?_) (fun h52_ => ?_)
                    · refine w_iincB (j := 1) (f := fun z53_ => [(4, vI z53_), (5, vI z40_), (3, vI v3_81), (0, vR (12, 0, 0)), (1, vI v), (2, vI u)]) dX12_lays_160 rfl (by decide) (fun _ => rfl) (rfl : v4_81.toInt = v4_81.toInt) li_1 (lf_c_X12_lays_10 M_81 Mz v j13_ z11_ j18_ z16_ j23_ z21_ v4_81 j31_ z29_ z36_ z38_ j42_ z40_ h4_ h14_ e12_ h15_ h19_ e17_ h20_ h24_ e22_ h25_ h26_ kf27_ hv0_81 kv0_81 h32_ e30_ h33_ h34_ h35_ h37_ h39_ h43_ e41_ h47_) (fun z53_ h54_ => ?_)
                      refine w_goto (tgt := 81) dX12_lays_163 (by decide) ?_
                      refine w_loc (ls' := [(4, vI z53_), (3, vI v3_81), (0, vR (12, 0, 0)), (1, vI v), (2, vI u)]) [0, 2, 3, 4, 5] rfl ?_
                      exact ih_81 M_81 hI_81 hF_81 z53_ v3_81 (lf_c_X12_lays_11 M_81 Mz v j13_ z11_ j18_ z16_ j23_ z21_ v4_81 j31_ z29_ z36_ z38_ j42_ z40_ z53_ h4_ h14_ e12_ h15_ h19_ e17_ h20_ h24_ e22_ h25_ h26_ kf27_ hv0_81 kv0_81 h32_ e30_ h33_ h34_ h35_ h37_ h39_ h43_ e41_ h47_ h54_) kv0_81 (Nat.lt_of_lt_of_le (lf_c_X12_lays_12 M_81 Mz v j13_ z11_ j18_ z16_ j23_ z21_ v4_81 j31_ z29_ z36_ z38_ j42_ z40_ z53_ h4_ h14_ e12_ h15_ h19_ e17_ h20_ h24_ e22_ h25_ h26_ kf27_ hv0_81 kv0_81 h32_ e30_ h33_ h34_ h35_ h37_ h39_ h43_ e41_ h47_ h54_) (Nat.le_of_lt_succ hm_81))
                    · refine w_aload_n dX12_lays_127 rfl 3 rfl ?_
                      refine w_bipush (v := 16) dX12_lays_128 (by decide) ?_
                      refine w_iload_n dX12_lays_130 rfl 5 rfl ?_
                      refine w_imulB dX12_lays_131 li_16 (rfl : u.toInt = u.toInt) (lf_c_X12_lays_13 u h9_) (fun z55_ h56_ => ?_)
                      refine w_iload dX12_lays_132 1 rfl ?_
                      refine w_iaddB dX12_lays_134 (rfl : z55_.toInt = z55_.toInt) (rfl : v4_81.toInt = v4_81.toInt) (lf_c_X12_lays_14 M_81 Mz v u j13_ z11_ j18_ z16_ j23_ z21_ v4_81 j31_ z29_ z36_ z38_ j42_ z40_ z55_ h4_ h9_ h14_ e12_ h15_ h19_ e17_ h20_ h24_ e22_ h25_ h26_ kf27_ hv0_81 kv0_81 h32_ e30_ h33_ h34_ h35_ h37_ h39_ h43_ e41_ h47_ h56_) (fun z57_ h58_ => ?_)
                      refine w_callV (as := [vI z57_]) (rest := []) (c_X12_isFree l G cy ad d z57_ M_81 hI_81) kV_X12_isFree (by decide +kernel) (Nat.le_of_ble_eq_true rfl) m_1439 rfl rfl rfl ic_12 rfl rfl (by decide) (Nat.le_of_ble_eq_true rfl) dX12_lays_135 (fun r59_ M60_ q61_ => ?_)
                      obtain ⟨rfl, h62_⟩ := q61_
                      refine w_if_eq (tgt := 160) dX12_lays_138 (by decide) (rfl : r59_.toInt = r59_.toInt) (fun h63_ => ?_) (fun h63_ => ?_)
                      · refine w_iincB (j := 1) (f := fun z64_ => [(4, vI z64_), (5, vI z40_), (3, vI v3_81), (0, vR (12, 0, 0)), (1, vI v), (2, vI u)]) dX12_lays_160 rfl (by decide) (fun _ => rfl) (rfl : v4_81.toInt = v4_81.toInt) li_1 (lf_c_X12_lays_15 M_81 Mz v u j13_ z11_ j18_ z16_ j23_ z21_ v4_81 j31_ z29_ z36_ z38_ j42_ z40_ z55_ z57_ h4_ h9_ h14_ e12_ h15_ h19_ e17_ h20_ h24_ e22_ h25_ h26_ kf27_ hv0_81 kv0_81 h32_ e30_ h33_ h34_ h35_ h37_ h39_ h43_ e41_ h47_ h56_ h58_) (fun z64_ h65_ => ?_)
                        refine w_goto (tgt := 81) dX12_lays_163 (by decide) ?_
                        refine w_loc (ls' := [(4, vI z64_), (3, vI v3_81), (0, vR (12, 0, 0)), (1, vI v), (2, vI u)]) [0, 2, 3, 4, 5] rfl ?_
                        exact ih_81 M_81 hI_81 hF_81 z64_ v3_81 (lf_c_X12_lays_16 M_81 Mz v u j13_ z11_ j18_ z16_ j23_ z21_ v4_81 j31_ z29_ z36_ z38_ j42_ z40_ z55_ z57_ z64_ h4_ h9_ h14_ e12_ h15_ h19_ e17_ h20_ h24_ e22_ h25_ h26_ kf27_ hv0_81 kv0_81 h32_ e30_ h33_ h34_ h35_ h37_ h39_ h43_ e41_ h47_ h56_ h58_ h65_) kv0_81 (Nat.lt_of_lt_of_le (lf_c_X12_lays_17 M_81 Mz v u j13_ z11_ j18_ z16_ j23_ z21_ v4_81 j31_ z29_ z36_ z38_ j42_ z40_ z55_ z57_ z64_ h4_ h9_ h14_ e12_ h15_ h19_ e17_ h20_ h24_ e22_ h25_ h26_ kf27_ hv0_81 kv0_81 h32_ e30_ h33_ h34_ h35_ h37_ h39_ h43_ e41_ h47_ h56_ h58_ h65_) (Nat.le_of_lt_succ hm_81))
                      · refine w_aload_n dX12_lays_141 rfl 3 rfl ?_
                        refine w_iload dX12_lays_142 0 rfl ?_
                        refine w_iconst (v := 1) dX12_lays_144 (by decide) ?_
                        refine w_isubB dX12_lays_145 (rfl : z40_.toInt = z40_.toInt) li_1 (lf_c_X12_lays_18 M_81 Mz v u j13_ z11_ j18_ z16_ j23_ z21_ v4_81 j31_ z29_ z36_ z38_ j42_ z40_ z55_ z57_ h4_ h9_ h14_ e12_ h15_ h19_ e17_ h20_ h24_ e22_ h25_ h26_ kf27_ hv0_81 kv0_81 h32_ e30_ h33_ h34_ h35_ h37_ h39_ h43_ e41_ h47_ h56_ h58_) (fun z66_ h67_ => ?_)
                        refine w_bipush (v := 16) dX12_lays_146 (by decide) ?_
                        refine w_iload_n dX12_lays_148 rfl 5 rfl ?_
                        refine w_imulB dX12_lays_149 li_16 (rfl : u.toInt = u.toInt) (lf_c_X12_lays_19 M_81 Mz v u j13_ z11_ j18_ z16_ j23_ z21_ v4_81 j31_ z29_ z36_ z38_ j42_ z40_ z55_ z57_ z66_ h4_ h9_ h14_ e12_ h15_ h19_ e17_ h20_ h24_ e22_ h25_ h26_ kf27_ hv0_81 kv0_81 h32_ e30_ h33_ h34_ h35_ h37_ h39_ h43_ e41_ h47_ h56_ h58_ h67_) (fun z68_ h69_ => ?_)
                        refine w_iload dX12_lays_150 1 rfl ?_
                        refine w_iaddB dX12_lays_152 (rfl : z68_.toInt = z68_.toInt) (rfl : v4_81.toInt = v4_81.toInt) (lf_c_X12_lays_20 M_81 Mz v u j13_ z11_ j18_ z16_ j23_ z21_ v4_81 j31_ z29_ z36_ z38_ j42_ z40_ z55_ z57_ z66_ z68_ h4_ h9_ h14_ e12_ h15_ h19_ e17_ h20_ h24_ e22_ h25_ h26_ kf27_ hv0_81 kv0_81 h32_ e30_ h33_ h34_ h35_ h37_ h39_ h43_ e41_ h47_ h56_ h58_ h67_ h69_) (fun z70_ h71_ => ?_)
                        refine w_callV (as := [vI z66_, vI z70_]) (rest := []) (c_X12_comes l G cy ad (d + 1) z66_ z70_ M_81 hI_81 (lf_c_X12_lays_21 M_81 Mz v u j13_ z11_ j18_ z16_ j23_ z21_ v4_81 j31_ z29_ z36_ z38_ j42_ z40_ z55_ z57_ z66_ z68_ z70_ h4_ h9_ h14_ e12_ h15_ h19_ e17_ h20_ h24_ e22_ h25_ h26_ kf27_ hv0_81 kv0_81 h32_ e30_ h33_ h34_ h35_ h37_ h39_ h43_ e41_ h47_ h56_ h58_ h67_ h69_ h71_) (lf_c_X12_lays_22 M_81 Mz v u j13_ z11_ j18_ z16_ j23_ z21_ v4_81 j31_ z29_ z36_ z38_ j42_ z40_ z55_ z57_ z66_ z68_ z70_ h4_ h9_ h14_ e12_ h15_ h19_ e17_ h20_ h24_ e22_ h25_ h26_ kf27_ hv0_81 kv0_81 h32_ e30_ h33_ h34_ h35_ h37_ h39_ h43_ e41_ h47_ h56_ h58_ h67_ h69_ h71_) (by rw [← e50_]; exact (lf_c_X12_lays_23 M_81 z49_ e50_ h51_ h52_))) kV_X12_comes (by decide +kernel) (Nat.le_of_ble_eq_true rfl) m_1457 rfl rfl rfl ic_12 rfl rfl (by decide) (Nat.le_of_ble_eq_true rfl) dX12_lays_153 (fun r72_ M73_ q74_ => ?_)
                        obtain ⟨hI76_, hF77_, h75_⟩ := q74_
                        have hF78_ := hF_81.tr hF77_ (fun c k => (fun h => h.elim (fun h => (Or.inl ⟨h.1, h.2⟩)) (fun h => h.elim)))
                        have kf79_ : SZ (M73_.1 (67, 0, 0)) v 16 := by rw [(show M73_.1 (67, 0, 0) = M_81.1 (67, 0, 0) from funext (fun k => hF77_ (67, 0, 0) k (by simp [S_c_X12_comes])))]; exact kv0_81
                        refine w_pop dX12_lays_156 rfl ?_
                        refine w_iincU (j := 2) (f := fun z80_ => [(3, vI z80_), (5, vI z40_), (4, vI v4_81), (0, vR (12, 0, 0)), (1, vI v), (2, vI u)]) dX12_lays_157 rfl (by decide) (fun _ => rfl) (fun z80_ => ?_)
                        refine w_iincB (j := 2) (f := fun z81_ => [(4, vI z81_), (3, vI z80_), (5, vI z40_), (0, vR (12, 0, 0)), (1, vI v), (2, vI u)]) dX12_lays_160 rfl (by decide) (fun _ => rfl) (rfl : v4_81.toInt = v4_81.toInt) li_1 (lf_c_X12_lays_24 M73_ M_81 Mz v u j13_ z11_ j18_ z16_ j23_ z21_ v4_81 j31_ z29_ z36_ z38_ j42_ z40_ z55_ z57_ z66_ z68_ z70_ h4_ h9_ h14_ e12_ h15_ h19_ e17_ h20_ h24_ e22_ h25_ h26_ kf27_ hv0_81 kv0_81 h32_ e30_ h33_ h34_ h35_ h37_ h39_ h43_ e41_ h47_ h56_ h58_ h67_ h69_ h71_ kf79_) (fun z81_ h82_ => ?_)
                        refine w_goto (tgt := 81) dX12_lays_163 (by decide) ?_
                        refine w_loc (ls' := [(4, vI z81_), (3, vI z80_), (0, vR (12, 0, 0)), (1, vI v), (2, vI u)]) [0, 1, 3, 4, 5] rfl ?_
                        exact ih_81 M73_ hI76_ hF78_ z81_ z80_ (lf_c_X12_lays_25 M73_ M_81 Mz v u j13_ z11_ j18_ z16_ j23_ z21_ v4_81 j31_ z29_ z36_ z38_ j42_ z40_ z55_ z57_ z66_ z68_ z70_ z81_ h4_ h9_ h14_ e12_ h15_ h19_ e17_ h20_ h24_ e22_ h25_ h26_ kf27_ hv0_81 kv0_81 h32_ e30_ h33_ h34_ h35_ h37_ h39_ h43_ e41_ h47_ h56_ h58_ h67_ h69_ h71_ kf79_ h82_) kf79_ (Nat.lt_of_lt_of_le (lf_c_X12_lays_26 M73_ M_81 Mz v u j13_ z11_ j18_ z16_ j23_ z21_ v4_81 j31_ z29_ z36_ z38_ j42_ z40_ z55_ z57_ z66_ z68_ z70_ z81_ h4_ h9_ h14_ e12_ h15_ h19_ e17_ h20_ h24_ e22_ h25_ h26_ kf27_ hv0_81 kv0_81 h32_ e30_ h33_ h34_ h35_ h37_ h39_ h43_ e41_ h47_ h56_ h58_ h67_ h69_ h71_ kf79_ h82_) (Nat.le_of_lt_succ hm_81))
                  · simp only [li_1, li_5] at h47_
                    refine w_if_eq (tgt := 160) dX12_lays_113 (by decide) li_0 (fun h83_ => ?_) (fun h9 => (absurd h9 (by decide)))
                    refine w_iincB (j := 1) (f := fun z84_ => [(4, vI z84_), (5, vI z40_), (3, vI v3_81), (0, vR (12, 0, 0)), (1, vI v), (2, vI u)]) dX12_lays_160 rfl (by decide) (fun _ => rfl) (rfl : v4_81.toInt = v4_81.toInt) li_1 (lf_c_X12_lays_27 M_81 Mz v j13_ z11_ j18_ z16_ j23_ z21_ v4_81 j31_ z29_ z36_ z38_ j42_ z40_ h4_ h14_ e12_ h15_ h19_ e17_ h20_ h24_ e22_ h25_ h26_ kf27_ hv0_81 kv0_81 h32_ e30_ h33_ h34_ h35_ h37_ h39_ h43_ e41_ h47_) (fun z84_ h85_ => ?_)
                    refine w_goto (tgt := 81) dX12_lays_163 (by decide) ?_
                    refine w_loc (ls' := [(4, vI z84_), (3, vI v3_81), (0, vR (12, 0, 0)), (1, vI v), (2, vI u)]) [0, 2, 3, 4, 5] rfl ?_
                    exact ih_81 M_81 hI_81 hF_81 z84_ v3_81 (lf_c_X12_lays_28 M_81 Mz v j13_ z11_ j18_ z16_ j23_ z21_ v4_81 j31_ z29_ z36_ z38_ j42_ z40_ z84_ h4_ h14_ e12_ h15_ h19_ e17_ h20_ h24_ e22_ h25_ h26_ kf27_ hv0_81 kv0_81 h32_ e30_ h33_ h34_ h35_ h37_ h39_ h43_ e41_ h47_ h85_) kv0_81 (Nat.lt_of_lt_of_le (lf_c_X12_lays_29 M_81 Mz v j13_ z11_ j18_ z16_ j23_ z21_ v4_81 j31_ z29_ z36_ z38_ j42_ z40_ z84_ h4_ h14_ e12_ h15_ h19_ e17_ h20_ h24_ e22_ h25_ h26_ kf27_ hv0_81 kv0_81 h32_ e30_ h33_ h34_ h35_ h37_ h39_ h43_ e41_ h47_ h85_) (Nat.le_of_lt_succ hm_81))
            exact lp28_ _ Mz hIz hFz 0 0 (lf_c_X12_lays_30 ) kf27_ (Nat.lt_succ_self _)
          · refine w_aload_n dX12_lays_69 rfl 0 rfl ?_
            refine w_ldc (v := (-1000003)) m_1455 dX12_lays_70 ?_
            refine w_callV (as := [vI (-1000003)]) (rest := []) (c_X12_finding l G cy ad (d + 2) (-1000003) Mz hIz (by first | decide | (unfold vF; omega) | (unfold vRw; omega))) kV_X12_finding (by decide +kernel) (Nat.le_of_ble_eq_true rfl) m_1434 rfl rfl rfl ic_12 rfl rfl (by decide) (Nat.le_of_ble_eq_true rfl) dX12_lays_72 (fun r86_ M87_ q88_ => ?_)
            obtain ⟨hI90_, hF91_, h89_⟩ := q88_
            have hF92_ := hFz.tr hF91_ (fun c k => (fun h => h.elim (fun h => (Or.inr (Or.inl ⟨h.1, h.2⟩))) (fun h => h.elim)))
            simp only [li_m1000003] at h89_
            exact w_iret rfl dX12_lays_75 ⟨hI90_, hF92_, trivial⟩
        · refine w_aload_n dX12_lays_51 rfl 0 rfl ?_
          refine w_ldc (v := (-1000005)) m_1476 dX12_lays_52 ?_
          refine w_callV (as := [vI (-1000005)]) (rest := []) (c_X12_finding l G cy ad (d + 2) (-1000005) Mz hIz (by first | decide | (unfold vF; omega) | (unfold vRw; omega))) kV_X12_finding (by decide +kernel) (Nat.le_of_ble_eq_true rfl) m_1434 rfl rfl rfl ic_12 rfl rfl (by decide) (Nat.le_of_ble_eq_true rfl) dX12_lays_54 (fun r93_ M94_ q95_ => ?_)
          obtain ⟨hI97_, hF98_, h96_⟩ := q95_
          have hF99_ := hFz.tr hF98_ (fun c k => (fun h => h.elim (fun h => (Or.inr (Or.inl ⟨h.1, h.2⟩))) (fun h => h.elim)))
          simp only [li_m1000005] at h96_
          exact w_iret rfl dX12_lays_57 ⟨hI97_, hF99_, trivial⟩
      · refine w_aload_n dX12_lays_33 rfl 0 rfl ?_
        refine w_ldc (v := (-1000002)) m_1500 dX12_lays_34 ?_
        refine w_callV (as := [vI (-1000002)]) (rest := []) (c_X12_finding l G cy ad (d + 2) (-1000002) Mz hIz (by first | decide | (unfold vF; omega) | (unfold vRw; omega))) kV_X12_finding (by decide +kernel) (Nat.le_of_ble_eq_true rfl) m_1434 rfl rfl rfl ic_12 rfl rfl (by decide) (Nat.le_of_ble_eq_true rfl) dX12_lays_36 (fun r100_ M101_ q102_ => ?_)
        obtain ⟨hI104_, hF105_, h103_⟩ := q102_
        have hF106_ := hFz.tr hF105_ (fun c k => (fun h => h.elim (fun h => (Or.inr (Or.inl ⟨h.1, h.2⟩))) (fun h => h.elim)))
        simp only [li_m1000002] at h103_
        exact w_iret rfl dX12_lays_39 ⟨hI104_, hF106_, trivial⟩
    · simp only [li_0, li_11] at h9_
      refine w_if_ne (tgt := 24) dX12_lays_14 (by decide) li_0 (fun h9 => (absurd h9 (by decide))) (fun h107_ => ?_)
      refine w_aload_n dX12_lays_17 rfl 0 rfl ?_
      refine w_ldc (v := (-1000001)) m_1433 dX12_lays_18 ?_
      refine w_callV (as := [vI (-1000001)]) (rest := []) (c_X12_finding l G cy ad (d + 2) (-1000001) Mz hIz (by first | decide | (unfold vF; omega) | (unfold vRw; omega))) kV_X12_finding (by decide +kernel) (Nat.le_of_ble_eq_true rfl) m_1434 rfl rfl rfl ic_12 rfl rfl (by decide) (Nat.le_of_ble_eq_true rfl) dX12_lays_20 (fun r108_ M109_ q110_ => ?_)
      obtain ⟨hI112_, hF113_, h111_⟩ := q110_
      have hF114_ := hFz.tr hF113_ (fun c k => (fun h => h.elim (fun h => (Or.inr (Or.inl ⟨h.1, h.2⟩))) (fun h => h.elim)))
      simp only [li_m1000001] at h111_
      exact w_iret rfl dX12_lays_23 ⟨hI112_, hF114_, trivial⟩
  · refine w_if_eq (tgt := 17) dX12_lays_4 (by decide) li_0 (fun h115_ => ?_) (fun h9 => (absurd h9 (by decide)))
    refine w_aload_n dX12_lays_17 rfl 0 rfl ?_
    refine w_ldc (v := (-1000001)) m_1433 dX12_lays_18 ?_
    refine w_callV (as := [vI (-1000001)]) (rest := []) (c_X12_finding l G cy ad (d + 2) (-1000001) Mz hIz (by first | decide | (unfold vF; omega) | (unfold vRw; omega))) kV_X12_finding (by decide +kernel) (Nat.le_of_ble_eq_true rfl) m_1434 rfl rfl rfl ic_12 rfl rfl (by decide) (Nat.le_of_ble_eq_true rfl) dX12_lays_20 (fun r116_ M117_ q118_ => ?_)
    obtain ⟨hI120_, hF121_, h119_⟩ := q118_
    have hF122_ := hFz.tr hF121_ (fun c k => (fun h => h.elim (fun h => (Or.inr (Or.inl ⟨h.1, h.2⟩))) (fun h => h.elim)))
    simp only [li_m1000001] at h119_
    exact w_iret rfl dX12_lays_23 ⟨hI120_, hF122_, trivial⟩
def S_c_X12_air : rf → Nat → Prop := fun c k => (c.1 = 53 ∧ c.2.1 = 0) ∨ (c.1 = 50 ∧ c.2.1 = 0) ∨ False
theorem lf_c_X12_air_0  (v : Int32) (h1_ : ¬ v.toInt = 0) (h2_ : ¬ v.toInt = 1) (h3_ : v.toInt = 2) : -2147483648 ≤ 6 + v.toInt ∧ 6 + v.toInt < 2147483648 := by have r_v := rngI v; omega
theorem lf_c_X12_air_1  (v : Int32) (u : Int32) (z18_ : Int32) (h1_ : ¬ v.toInt = 0) (h2_ : ¬ v.toInt = 1) (h3_ : v.toInt = 2) (h15_ : 0 ≤ u.toInt ∧ u.toInt ≤ 1) (h19_ : z18_.toInt = 6 + v.toInt) : PN z18_.toInt.toNat u ∧ (z18_.toInt.toNat < 345 ∨ 493 < z18_.toInt.toNat) := by have r_v := rngI v; have r_u := rngI u; have r_z18_ := rngI z18_; unfold PN; omega
theorem lf_c_X12_air_2  (v : Int32) (z18_ : Int32) (h1_ : ¬ v.toInt = 0) (h2_ : ¬ v.toInt = 1) (h3_ : v.toInt = 2) (h19_ : z18_.toInt = 6 + v.toInt) : 0 ≤ z18_.toInt ∧ z18_.toInt ≤ 3566 := by have r_v := rngI v; have r_z18_ := rngI z18_; omega
theorem lf_c_X12_air_3  (v : Int32) (h1_ : ¬ v.toInt = 0) (h2_ : v.toInt = 1) : -2147483648 ≤ 6 + v.toInt ∧ 6 + v.toInt < 2147483648 := by have r_v := rngI v; omega
theorem lf_c_X12_air_4  (v : Int32) (u : Int32) (z41_ : Int32) (h1_ : ¬ v.toInt = 0) (h2_ : v.toInt = 1) (h39_ : 0 ≤ u.toInt ∧ u.toInt ≤ 90) (h42_ : z41_.toInt = 6 + v.toInt) : PN z41_.toInt.toNat u ∧ (z41_.toInt.toNat < 345 ∨ 493 < z41_.toInt.toNat) := by have r_v := rngI v; have r_u := rngI u; have r_z41_ := rngI z41_; unfold PN; omega
theorem lf_c_X12_air_5  (v : Int32) (z41_ : Int32) (h1_ : ¬ v.toInt = 0) (h2_ : v.toInt = 1) (h42_ : z41_.toInt = 6 + v.toInt) : 0 ≤ z41_.toInt ∧ z41_.toInt ≤ 3566 := by have r_v := rngI v; have r_z41_ := rngI z41_; omega
theorem lf_c_X12_air_6  (v : Int32) (h1_ : v.toInt = 0) : -2147483648 ≤ 6 + v.toInt ∧ 6 + v.toInt < 2147483648 := by have r_v := rngI v; omega
theorem lf_c_X12_air_7  (v : Int32) (u : Int32) (z63_ : Int32) (h1_ : v.toInt = 0) (h61_ : 0 ≤ u.toInt ∧ u.toInt ≤ 99) (h64_ : z63_.toInt = 6 + v.toInt) : PN z63_.toInt.toNat u ∧ (z63_.toInt.toNat < 345 ∨ 493 < z63_.toInt.toNat) := by have r_v := rngI v; have r_u := rngI u; have r_z63_ := rngI z63_; unfold PN; omega
theorem lf_c_X12_air_8  (v : Int32) (z63_ : Int32) (h1_ : v.toInt = 0) (h64_ : z63_.toInt = 6 + v.toInt) : 0 ≤ z63_.toInt ∧ z63_.toInt ≤ 3566 := by have r_v := rngI v; have r_z63_ := rngI z63_; omega
set_option maxHeartbeats 4000000 in
set_option maxRecDepth 100000 in
theorem c_X12_air (l : Launch) (G : va_G) (cy : Nat → ClassId) (ad : rf → Nat) (d : Nat) (v : Int32) (u : Int32) (Mz : mM) (hIz : InvD Mz) : WP DD l G cy ad yX12_air cX12_air 4 (some .int) (d + 1) 0 [(0, vR (12, 0, 0)), (1, vI v), (2, vI u)] [] Mz (fun r M' => InvD M' ∧ FR (S_c_X12_air) Mz M' ∧ True) := by
  have hFz : FR (S_c_X12_air) Mz Mz := FR.self
  refine w_iload_n dX12_air_0 rfl 1 rfl ?_
  refine w_if_ne (tgt := 14) dX12_air_1 (by decide) (rfl : v.toInt = v.toInt) (fun h1_ => ?_) (fun h1_ => ?_)
  · refine w_iload_n dX12_air_14 rfl 1 rfl ?_
    refine w_iconst (v := 1) dX12_air_15 (by decide) ?_
    refine w_icmp_ne (tgt := 29) dX12_air_16 (by decide) (rfl : v.toInt = v.toInt) li_1 (fun h2_ => ?_) (fun h2_ => ?_)
    · refine w_iload_n dX12_air_29 rfl 1 rfl ?_
      refine w_iconst (v := 2) dX12_air_30 (by decide) ?_
      refine w_icmp_ne (tgt := 47) dX12_air_31 (by decide) (rfl : v.toInt = v.toInt) li_2 (fun h3_ => ?_) (fun h3_ => ?_)
      · refine w_iconst (v := 0) dX12_air_47 (by decide) ?_
        refine w_istore_n (ls' := [(3, vI 0), (0, vR (12, 0, 0)), (1, vI v), (2, vI u)]) dX12_air_48 rfl (by decide) rfl ?_
        refine w_iload_n dX12_air_49 rfl 0 rfl ?_
        refine w_if_eq (tgt := 65) dX12_air_50 (by decide) li_0 (fun h4_ => ?_) (fun h9 => (absurd h9 (by decide)))
        refine w_aload_n dX12_air_65 rfl 1 rfl ?_
        refine w_ldc (v := (-1000001)) m_1433 dX12_air_66 ?_
        refine w_callV (as := [vI (-1000001)]) (rest := []) (c_X12_finding l G cy ad d (-1000001) Mz hIz (by first | decide | (unfold vF; omega) | (unfold vRw; omega))) kV_X12_finding (by decide +kernel) (Nat.le_of_ble_eq_true rfl) m_1434 rfl rfl rfl ic_12 rfl rfl (by decide) (Nat.le_of_ble_eq_true rfl) dX12_air_68 (fun r5_ M6_ q7_ => ?_)
        obtain ⟨hI9_, hF10_, h8_⟩ := q7_
        have hF11_ := hFz.tr hF10_ (fun c k => (fun h => h.elim (fun h => (Or.inl ⟨h.1, h.2⟩)) (fun h => h.elim)))
        simp only [li_m1000001] at h8_
        exact w_iret rfl dX12_air_71 ⟨hI9_, hF11_, trivial⟩
      · refine w_iload_n dX12_air_34 rfl 2 rfl ?_
        refine w_iconst (v := 0) dX12_air_35 (by decide) ?_
        refine w_iconst (v := 1) dX12_air_36 (by decide) ?_
        refine w_callS (as := [vI u, vI 0, vI 1]) (rest := []) (c_X12_within l G cy ad d u 0 1 Mz hIz) kS_X12_within (by decide +kernel) (Nat.le_of_ble_eq_true rfl) m_1427 rfl rfl (by decide) (Nat.le_of_ble_eq_true rfl) dX12_air_37 (fun r12_ M13_ q14_ => ?_)
        obtain ⟨rfl, h15_⟩ := q14_
        rcases h15_ with ⟨rfl, h15_⟩ | ⟨rfl, h15_⟩
        · simp only [li_0, li_1] at h15_
          refine w_if_eq (tgt := 47) dX12_air_40 (by decide) li_1 (fun h9 => (absurd h9 (by decide))) (fun h16_ => ?_)
          refine w_iconst (v := 1) dX12_air_43 (by decide) ?_
          refine w_goto (tgt := 48) dX12_air_44 (by decide) ?_
          refine w_istore_n (ls' := [(3, vI 1), (0, vR (12, 0, 0)), (1, vI v), (2, vI u)]) dX12_air_48 rfl (by decide) rfl ?_
          refine w_iload_n dX12_air_49 rfl 0 rfl ?_
          refine w_if_eq (tgt := 65) dX12_air_50 (by decide) li_1 (fun h9 => (absurd h9 (by decide))) (fun h17_ => ?_)
          refine w_aload_n dX12_air_53 rfl 1 rfl ?_
          refine w_bipush (v := 6) dX12_air_54 (by decide) ?_
          refine w_iload_n dX12_air_56 rfl 2 rfl ?_
          refine w_iaddB dX12_air_57 li_6 (rfl : v.toInt = v.toInt) (lf_c_X12_air_0 v h1_ h2_ h3_) (fun z18_ h19_ => ?_)
          refine w_iload_n dX12_air_58 rfl 3 rfl ?_
          refine w_callV (as := [vI z18_, vI u]) (rest := []) (c_X12_become l G cy ad d z18_ u Mz hIz (lf_c_X12_air_1 v u z18_ h1_ h2_ h3_ h15_ h19_) (lf_c_X12_air_2 v z18_ h1_ h2_ h3_ h19_)) kV_X12_become (by decide +kernel) (Nat.le_of_ble_eq_true rfl) m_1481 rfl rfl rfl ic_12 rfl rfl (by decide) (Nat.le_of_ble_eq_true rfl) dX12_air_59 (fun r20_ M21_ q22_ => ?_)
          obtain ⟨hI24_, hF25_, h23_⟩ := q22_
          have hF26_ := hFz.tr hF25_ (fun c k => (fun h => h.elim (fun h => (Or.inr (Or.inl ⟨h.1, h.2⟩))) (fun h => h.elim)))
          refine w_goto (tgt := 71) dX12_air_62 (by decide) ?_
          exact w_iret rfl dX12_air_71 ⟨hI24_, hF26_, trivial⟩
        · simp only [li_0, li_1] at h15_
          refine w_if_eq (tgt := 47) dX12_air_40 (by decide) li_0 (fun h27_ => ?_) (fun h9 => (absurd h9 (by decide)))
          refine w_iconst (v := 0) dX12_air_47 (by decide) ?_
          refine w_istore_n (ls' := [(3, vI 0), (0, vR (12, 0, 0)), (1, vI v), (2, vI u)]) dX12_air_48 rfl (by decide) rfl ?_
          refine w_iload_n dX12_air_49 rfl 0 rfl ?_
          refine w_if_eq (tgt := 65) dX12_air_50 (by decide) li_0 (fun h28_ => ?_) (fun h9 => (absurd h9 (by decide)))
          refine w_aload_n dX12_air_65 rfl 1 rfl ?_
          refine w_ldc (v := (-1000001)) m_1433 dX12_air_66 ?_
          refine w_callV (as := [vI (-1000001)]) (rest := []) (c_X12_finding l G cy ad d (-1000001) Mz hIz (by first | decide | (unfold vF; omega) | (unfold vRw; omega))) kV_X12_finding (by decide +kernel) (Nat.le_of_ble_eq_true rfl) m_1434 rfl rfl rfl ic_12 rfl rfl (by decide) (Nat.le_of_ble_eq_true rfl) dX12_air_68 (fun r29_ M30_ q31_ => ?_)
          obtain ⟨hI33_, hF34_, h32_⟩ := q31_
          have hF35_ := hFz.tr hF34_ (fun c k => (fun h => h.elim (fun h => (Or.inl ⟨h.1, h.2⟩)) (fun h => h.elim)))
          simp only [li_m1000001] at h32_
          exact w_iret rfl dX12_air_71 ⟨hI33_, hF35_, trivial⟩
    · refine w_iload_n dX12_air_19 rfl 2 rfl ?_
      refine w_iconst (v := 0) dX12_air_20 (by decide) ?_
      refine w_bipush (v := 90) dX12_air_21 (by decide) ?_
      refine w_callS (as := [vI u, vI 0, vI 90]) (rest := []) (c_X12_within l G cy ad d u 0 90 Mz hIz) kS_X12_within (by decide +kernel) (Nat.le_of_ble_eq_true rfl) m_1427 rfl rfl (by decide) (Nat.le_of_ble_eq_true rfl) dX12_air_23 (fun r36_ M37_ q38_ => ?_)
      obtain ⟨rfl, h39_⟩ := q38_
      rcases h39_ with ⟨rfl, h39_⟩ | ⟨rfl, h39_⟩
      · simp only [li_0, li_90] at h39_
        refine w_goto (tgt := 48) dX12_air_26 (by decide) ?_
        refine w_istore_n (ls' := [(3, vI 1), (0, vR (12, 0, 0)), (1, vI v), (2, vI u)]) dX12_air_48 rfl (by decide) rfl ?_
        refine w_iload_n dX12_air_49 rfl 0 rfl ?_
        refine w_if_eq (tgt := 65) dX12_air_50 (by decide) li_1 (fun h9 => (absurd h9 (by decide))) (fun h40_ => ?_)
        refine w_aload_n dX12_air_53 rfl 1 rfl ?_
        refine w_bipush (v := 6) dX12_air_54 (by decide) ?_
        refine w_iload_n dX12_air_56 rfl 2 rfl ?_
        refine w_iaddB dX12_air_57 li_6 (rfl : v.toInt = v.toInt) (lf_c_X12_air_3 v h1_ h2_) (fun z41_ h42_ => ?_)
        refine w_iload_n dX12_air_58 rfl 3 rfl ?_
        refine w_callV (as := [vI z41_, vI u]) (rest := []) (c_X12_become l G cy ad d z41_ u Mz hIz (lf_c_X12_air_4 v u z41_ h1_ h2_ h39_ h42_) (lf_c_X12_air_5 v z41_ h1_ h2_ h42_)) kV_X12_become (by decide +kernel) (Nat.le_of_ble_eq_true rfl) m_1481 rfl rfl rfl ic_12 rfl rfl (by decide) (Nat.le_of_ble_eq_true rfl) dX12_air_59 (fun r43_ M44_ q45_ => ?_)
        obtain ⟨hI47_, hF48_, h46_⟩ := q45_
        have hF49_ := hFz.tr hF48_ (fun c k => (fun h => h.elim (fun h => (Or.inr (Or.inl ⟨h.1, h.2⟩))) (fun h => h.elim)))
        refine w_goto (tgt := 71) dX12_air_62 (by decide) ?_
        exact w_iret rfl dX12_air_71 ⟨hI47_, hF49_, trivial⟩
      · simp only [li_0, li_90] at h39_
        refine w_goto (tgt := 48) dX12_air_26 (by decide) ?_
        refine w_istore_n (ls' := [(3, vI 0), (0, vR (12, 0, 0)), (1, vI v), (2, vI u)]) dX12_air_48 rfl (by decide) rfl ?_
        refine w_iload_n dX12_air_49 rfl 0 rfl ?_
        refine w_if_eq (tgt := 65) dX12_air_50 (by decide) li_0 (fun h50_ => ?_) (fun h9 => (absurd h9 (by decide)))
        refine w_aload_n dX12_air_65 rfl 1 rfl ?_
        refine w_ldc (v := (-1000001)) m_1433 dX12_air_66 ?_
        refine w_callV (as := [vI (-1000001)]) (rest := []) (c_X12_finding l G cy ad d (-1000001) Mz hIz (by first | decide | (unfold vF; omega) | (unfold vRw; omega))) kV_X12_finding (by decide +kernel) (Nat.le_of_ble_eq_true rfl) m_1434 rfl rfl rfl ic_12 rfl rfl (by decide) (Nat.le_of_ble_eq_true rfl) dX12_air_68 (fun r51_ M52_ q53_ => ?_)
        obtain ⟨hI55_, hF56_, h54_⟩ := q53_
        have hF57_ := hFz.tr hF56_ (fun c k => (fun h => h.elim (fun h => (Or.inl ⟨h.1, h.2⟩)) (fun h => h.elim)))
        simp only [li_m1000001] at h54_
        exact w_iret rfl dX12_air_71 ⟨hI55_, hF57_, trivial⟩
  · refine w_iload_n dX12_air_4 rfl 2 rfl ?_
    refine w_iconst (v := 0) dX12_air_5 (by decide) ?_
    refine w_bipush (v := 99) dX12_air_6 (by decide) ?_
    refine w_callS (as := [vI u, vI 0, vI 99]) (rest := []) (c_X12_within l G cy ad d u 0 99 Mz hIz) kS_X12_within (by decide +kernel) (Nat.le_of_ble_eq_true rfl) m_1427 rfl rfl (by decide) (Nat.le_of_ble_eq_true rfl) dX12_air_8 (fun r58_ M59_ q60_ => ?_)
    obtain ⟨rfl, h61_⟩ := q60_
    rcases h61_ with ⟨rfl, h61_⟩ | ⟨rfl, h61_⟩
    · simp only [li_0, li_99] at h61_
      refine w_goto (tgt := 48) dX12_air_11 (by decide) ?_
      refine w_istore_n (ls' := [(3, vI 1), (0, vR (12, 0, 0)), (1, vI v), (2, vI u)]) dX12_air_48 rfl (by decide) rfl ?_
      refine w_iload_n dX12_air_49 rfl 0 rfl ?_
      refine w_if_eq (tgt := 65) dX12_air_50 (by decide) li_1 (fun h9 => (absurd h9 (by decide))) (fun h62_ => ?_)
      refine w_aload_n dX12_air_53 rfl 1 rfl ?_
      refine w_bipush (v := 6) dX12_air_54 (by decide) ?_
      refine w_iload_n dX12_air_56 rfl 2 rfl ?_
      refine w_iaddB dX12_air_57 li_6 (rfl : v.toInt = v.toInt) (lf_c_X12_air_6 v h1_) (fun z63_ h64_ => ?_)
      refine w_iload_n dX12_air_58 rfl 3 rfl ?_
      refine w_callV (as := [vI z63_, vI u]) (rest := []) (c_X12_become l G cy ad d z63_ u Mz hIz (lf_c_X12_air_7 v u z63_ h1_ h61_ h64_) (lf_c_X12_air_8 v z63_ h1_ h64_)) kV_X12_become (by decide +kernel) (Nat.le_of_ble_eq_true rfl) m_1481 rfl rfl rfl ic_12 rfl rfl (by decide) (Nat.le_of_ble_eq_true rfl) dX12_air_59 (fun r65_ M66_ q67_ => ?_)
      obtain ⟨hI69_, hF70_, h68_⟩ := q67_
      have hF71_ := hFz.tr hF70_ (fun c k => (fun h => h.elim (fun h => (Or.inr (Or.inl ⟨h.1, h.2⟩))) (fun h => h.elim)))
      refine w_goto (tgt := 71) dX12_air_62 (by decide) ?_
      exact w_iret rfl dX12_air_71 ⟨hI69_, hF71_, trivial⟩
    · simp only [li_0, li_99] at h61_
      refine w_goto (tgt := 48) dX12_air_11 (by decide) ?_
      refine w_istore_n (ls' := [(3, vI 0), (0, vR (12, 0, 0)), (1, vI v), (2, vI u)]) dX12_air_48 rfl (by decide) rfl ?_
      refine w_iload_n dX12_air_49 rfl 0 rfl ?_
      refine w_if_eq (tgt := 65) dX12_air_50 (by decide) li_0 (fun h72_ => ?_) (fun h9 => (absurd h9 (by decide)))
      refine w_aload_n dX12_air_65 rfl 1 rfl ?_
      refine w_ldc (v := (-1000001)) m_1433 dX12_air_66 ?_
      refine w_callV (as := [vI (-1000001)]) (rest := []) (c_X12_finding l G cy ad d (-1000001) Mz hIz (by first | decide | (unfold vF; omega) | (unfold vRw; omega))) kV_X12_finding (by decide +kernel) (Nat.le_of_ble_eq_true rfl) m_1434 rfl rfl rfl ic_12 rfl rfl (by decide) (Nat.le_of_ble_eq_true rfl) dX12_air_68 (fun r73_ M74_ q75_ => ?_)
      obtain ⟨hI77_, hF78_, h76_⟩ := q75_
      have hF79_ := hFz.tr hF78_ (fun c k => (fun h => h.elim (fun h => (Or.inl ⟨h.1, h.2⟩)) (fun h => h.elim)))
      simp only [li_m1000001] at h76_
      exact w_iret rfl dX12_air_71 ⟨hI77_, hF79_, trivial⟩
def S_c_X12_walker : rf → Nat → Prop := fun c k => (c.1 = 50 ∧ c.2.1 = 0) ∨ (c.1 = 53 ∧ c.2.1 = 0) ∨ False
theorem lf_c_X12_walker_0 (Mz : mM) (z21_ : Int32) (e22_ : z21_ = Mz.1 (50, 0, 0) 2) (kf23_ : (Mz.1 (50, 0, 0) 2).toInt = z21_.toInt) (h24_ : 0 ≤ z21_.toInt ∧ z21_.toInt ≤ 8) (h25_ : ¬ z21_.toInt = 8) : 0 ≤ z21_.toInt ∧ z21_.toInt ≤ 7 := by have r_z21_ := rngI z21_; subst e22_; omega
theorem lf_c_X12_walker_1 (Mz : mM) (z21_ : Int32) (r26_ : Int32) (e22_ : z21_ = Mz.1 (50, 0, 0) 2) (kf23_ : (Mz.1 (50, 0, 0) 2).toInt = z21_.toInt) (h24_ : 0 ≤ z21_.toInt ∧ z21_.toInt ≤ 8) (h25_ : ¬ z21_.toInt = 8) (h29_ : r26_.toInt = 180 + 9 * z21_.toInt) : -2147483648 ≤ r26_.toInt + 0 ∧ r26_.toInt + 0 < 2147483648 := by have r_z21_ := rngI z21_; have r_r26_ := rngI r26_; subst e22_; omega
theorem lf_c_X12_walker_2 (Mz : mM) (z21_ : Int32) (r26_ : Int32) (z30_ : Int32) (e22_ : z21_ = Mz.1 (50, 0, 0) 2) (kf23_ : (Mz.1 (50, 0, 0) 2).toInt = z21_.toInt) (h24_ : 0 ≤ z21_.toInt ∧ z21_.toInt ≤ 8) (h25_ : ¬ z21_.toInt = 8) (h29_ : r26_.toInt = 180 + 9 * z21_.toInt) (h31_ : z30_.toInt = r26_.toInt + 0) : 0 ≤ z30_.toInt ∧ z30_.toInt < ((3567 : Nat) : Int) := by have r_z21_ := rngI z21_; have r_r26_ := rngI r26_; have r_z30_ := rngI z30_; subst e22_; omega
theorem lf_c_X12_walker_3 (M32_ : mM) (Mz : mM) (v : Int32) (z21_ : Int32) (r26_ : Int32) (z30_ : Int32) (j34_ : Nat) (h4_ : 0 ≤ v.toInt ∧ v.toInt ≤ 7) (e22_ : z21_ = Mz.1 (50, 0, 0) 2) (kf23_ : (Mz.1 (50, 0, 0) 2).toInt = z21_.toInt) (h24_ : 0 ≤ z21_.toInt ∧ z21_.toInt ≤ 8) (h25_ : ¬ z21_.toInt = 8) (h29_ : r26_.toInt = 180 + 9 * z21_.toInt) (h31_ : z30_.toInt = r26_.toInt + 0) (h35_ : (j34_ : Int) = z30_.toInt) (hM33_ : M32_ = up Mz (50, 0, 0) j34_ v) : PN j34_ v ∧ (j34_ < 345 ∨ 493 < j34_) := by have r_v := rngI v; have r_z21_ := rngI z21_; have r_r26_ := rngI r26_; have r_z30_ := rngI z30_; subst e22_; unfold PN; omega
theorem lf_c_X12_walker_4 (M32_ : mM) (Mz : mM) (v : Int32) (z21_ : Int32) (r26_ : Int32) (z30_ : Int32) (j34_ : Nat) (h4_ : 0 ≤ v.toInt ∧ v.toInt ≤ 7) (e22_ : z21_ = Mz.1 (50, 0, 0) 2) (kf23_ : (Mz.1 (50, 0, 0) 2).toInt = z21_.toInt) (h24_ : 0 ≤ z21_.toInt ∧ z21_.toInt ≤ 8) (h25_ : ¬ z21_.toInt = 8) (h29_ : r26_.toInt = 180 + 9 * z21_.toInt) (h31_ : z30_.toInt = r26_.toInt + 0) (h35_ : (j34_ : Int) = z30_.toInt) (hM33_ : M32_ = up Mz (50, 0, 0) j34_ v) : ¬ 2 = j34_ := by have r_v := rngI v; have r_z21_ := rngI z21_; have r_r26_ := rngI r26_; have r_z30_ := rngI z30_; subst e22_; omega
theorem lf_c_X12_walker_5 (M32_ : mM) (Mz : mM) (v : Int32) (z21_ : Int32) (r26_ : Int32) (z30_ : Int32) (j34_ : Nat) (h4_ : 0 ≤ v.toInt ∧ v.toInt ≤ 7) (e22_ : z21_ = Mz.1 (50, 0, 0) 2) (kf23_ : (Mz.1 (50, 0, 0) 2).toInt = z21_.toInt) (h24_ : 0 ≤ z21_.toInt ∧ z21_.toInt ≤ 8) (h25_ : ¬ z21_.toInt = 8) (h29_ : r26_.toInt = 180 + 9 * z21_.toInt) (h31_ : z30_.toInt = r26_.toInt + 0) (h35_ : (j34_ : Int) = z30_.toInt) (hM33_ : M32_ = up Mz (50, 0, 0) j34_ v) (kf38_ : (M32_.1 (50, 0, 0) 2).toInt = z21_.toInt) : -2147483648 ≤ r26_.toInt + 1 ∧ r26_.toInt + 1 < 2147483648 := by have r_v := rngI v; have r_z21_ := rngI z21_; have r_r26_ := rngI r26_; have r_z30_ := rngI z30_; subst e22_; omega
theorem lf_c_X12_walker_6 (M32_ : mM) (Mz : mM) (v : Int32) (z21_ : Int32) (r26_ : Int32) (z30_ : Int32) (j34_ : Nat) (z39_ : Int32) (h4_ : 0 ≤ v.toInt ∧ v.toInt ≤ 7) (e22_ : z21_ = Mz.1 (50, 0, 0) 2) (kf23_ : (Mz.1 (50, 0, 0) 2).toInt = z21_.toInt) (h24_ : 0 ≤ z21_.toInt ∧ z21_.toInt ≤ 8) (h25_ : ¬ z21_.toInt = 8) (h29_ : r26_.toInt = 180 + 9 * z21_.toInt) (h31_ : z30_.toInt = r26_.toInt + 0) (h35_ : (j34_ : Int) = z30_.toInt) (hM33_ : M32_ = up Mz (50, 0, 0) j34_ v) (kf38_ : (M32_.1 (50, 0, 0) 2).toInt = z21_.toInt) (h40_ : z39_.toInt = r26_.toInt + 1) : 0 ≤ z39_.toInt ∧ z39_.toInt < ((3567 : Nat) : Int) := by have r_v := rngI v; have r_z21_ := rngI z21_; have r_r26_ := rngI r26_; have r_z30_ := rngI z30_; have r_z39_ := rngI z39_; subst e22_; omega
theorem lf_c_X12_walker_7 (M32_ : mM) (M41_ : mM) (Mz : mM) (v : Int32) (u : Int32) (z21_ : Int32) (r26_ : Int32) (z30_ : Int32) (j34_ : Nat) (z39_ : Int32) (j43_ : Nat) (h4_ : 0 ≤ v.toInt ∧ v.toInt ≤ 7) (h9_ : 0 ≤ u.toInt ∧ u.toInt ≤ 191) (e22_ : z21_ = Mz.1 (50, 0, 0) 2) (kf23_ : (Mz.1 (50, 0, 0) 2).toInt = z21_.toInt) (h24_ : 0 ≤ z21_.toInt ∧ z21_.toInt ≤ 8) (h25_ : ¬ z21_.toInt = 8) (h29_ : r26_.toInt = 180 + 9 * z21_.toInt) (h31_ : z30_.toInt = r26_.toInt + 0) (h35_ : (j34_ : Int) = z30_.toInt) (hM33_ : M32_ = up Mz (50, 0, 0) j34_ v) (kf38_ : (M32_.1 (50, 0, 0) 2).toInt = z21_.toInt) (h40_ : z39_.toInt = r26_.toInt + 1) (h44_ : (j43_ : Int) = z39_.toInt) (hM42_ : M41_ = up M32_ (50, 0, 0) j43_ u) : PN j43_ u ∧ (j43_ < 345 ∨ 493 < j43_) := by have r_v := rngI v; have r_u := rngI u; have r_z21_ := rngI z21_; have r_r26_ := rngI r26_; have r_z30_ := rngI z30_; have r_z39_ := rngI z39_; subst e22_; unfold PN; omega
theorem lf_c_X12_walker_8 (M32_ : mM) (M41_ : mM) (Mz : mM) (v : Int32) (u : Int32) (z21_ : Int32) (r26_ : Int32) (z30_ : Int32) (j34_ : Nat) (z39_ : Int32) (j43_ : Nat) (h4_ : 0 ≤ v.toInt ∧ v.toInt ≤ 7) (h9_ : 0 ≤ u.toInt ∧ u.toInt ≤ 191) (e22_ : z21_ = Mz.1 (50, 0, 0) 2) (kf23_ : (Mz.1 (50, 0, 0) 2).toInt = z21_.toInt) (h24_ : 0 ≤ z21_.toInt ∧ z21_.toInt ≤ 8) (h25_ : ¬ z21_.toInt = 8) (h29_ : r26_.toInt = 180 + 9 * z21_.toInt) (h31_ : z30_.toInt = r26_.toInt + 0) (h35_ : (j34_ : Int) = z30_.toInt) (hM33_ : M32_ = up Mz (50, 0, 0) j34_ v) (kf38_ : (M32_.1 (50, 0, 0) 2).toInt = z21_.toInt) (h40_ : z39_.toInt = r26_.toInt + 1) (h44_ : (j43_ : Int) = z39_.toInt) (hM42_ : M41_ = up M32_ (50, 0, 0) j43_ u) : ¬ 2 = j43_ := by have r_v := rngI v; have r_u := rngI u; have r_z21_ := rngI z21_; have r_r26_ := rngI r26_; have r_z30_ := rngI z30_; have r_z39_ := rngI z39_; subst e22_; omega
theorem lf_c_X12_walker_9 (M32_ : mM) (M41_ : mM) (Mz : mM) (v : Int32) (u : Int32) (z21_ : Int32) (r26_ : Int32) (z30_ : Int32) (j34_ : Nat) (z39_ : Int32) (j43_ : Nat) (h4_ : 0 ≤ v.toInt ∧ v.toInt ≤ 7) (h9_ : 0 ≤ u.toInt ∧ u.toInt ≤ 191) (e22_ : z21_ = Mz.1 (50, 0, 0) 2) (kf23_ : (Mz.1 (50, 0, 0) 2).toInt = z21_.toInt) (h24_ : 0 ≤ z21_.toInt ∧ z21_.toInt ≤ 8) (h25_ : ¬ z21_.toInt = 8) (h29_ : r26_.toInt = 180 + 9 * z21_.toInt) (h31_ : z30_.toInt = r26_.toInt + 0) (h35_ : (j34_ : Int) = z30_.toInt) (hM33_ : M32_ = up Mz (50, 0, 0) j34_ v) (kf38_ : (M32_.1 (50, 0, 0) 2).toInt = z21_.toInt) (h40_ : z39_.toInt = r26_.toInt + 1) (h44_ : (j43_ : Int) = z39_.toInt) (hM42_ : M41_ = up M32_ (50, 0, 0) j43_ u) (kf47_ : (M41_.1 (50, 0, 0) 2).toInt = z21_.toInt) : -2147483648 ≤ r26_.toInt + 2 ∧ r26_.toInt + 2 < 2147483648 := by have r_v := rngI v; have r_u := rngI u; have r_z21_ := rngI z21_; have r_r26_ := rngI r26_; have r_z30_ := rngI z30_; have r_z39_ := rngI z39_; subst e22_; omega
theorem lf_c_X12_walker_10 (M32_ : mM) (M41_ : mM) (Mz : mM) (v : Int32) (u : Int32) (z21_ : Int32) (r26_ : Int32) (z30_ : Int32) (j34_ : Nat) (z39_ : Int32) (j43_ : Nat) (z48_ : Int32) (h4_ : 0 ≤ v.toInt ∧ v.toInt ≤ 7) (h9_ : 0 ≤ u.toInt ∧ u.toInt ≤ 191) (e22_ : z21_ = Mz.1 (50, 0, 0) 2) (kf23_ : (Mz.1 (50, 0, 0) 2).toInt = z21_.toInt) (h24_ : 0 ≤ z21_.toInt ∧ z21_.toInt ≤ 8) (h25_ : ¬ z21_.toInt = 8) (h29_ : r26_.toInt = 180 + 9 * z21_.toInt) (h31_ : z30_.toInt = r26_.toInt + 0) (h35_ : (j34_ : Int) = z30_.toInt) (hM33_ : M32_ = up Mz (50, 0, 0) j34_ v) (kf38_ : (M32_.1 (50, 0, 0) 2).toInt = z21_.toInt) (h40_ : z39_.toInt = r26_.toInt + 1) (h44_ : (j43_ : Int) = z39_.toInt) (hM42_ : M41_ = up M32_ (50, 0, 0) j43_ u) (kf47_ : (M41_.1 (50, 0, 0) 2).toInt = z21_.toInt) (h49_ : z48_.toInt = r26_.toInt + 2) : 0 ≤ z48_.toInt ∧ z48_.toInt < ((3567 : Nat) : Int) := by have r_v := rngI v; have r_u := rngI u; have r_z21_ := rngI z21_; have r_r26_ := rngI r26_; have r_z30_ := rngI z30_; have r_z39_ := rngI z39_; have r_z48_ := rngI z48_; subst e22_; omega
theorem lf_c_X12_walker_11 (M32_ : mM) (M41_ : mM) (M50_ : mM) (Mz : mM) (v : Int32) (u : Int32) (t : Int32) (z21_ : Int32) (r26_ : Int32) (z30_ : Int32) (j34_ : Nat) (z39_ : Int32) (j43_ : Nat) (z48_ : Int32) (j52_ : Nat) (h4_ : 0 ≤ v.toInt ∧ v.toInt ≤ 7) (h9_ : 0 ≤ u.toInt ∧ u.toInt ≤ 191) (h14_ : 0 ≤ t.toInt ∧ t.toInt ≤ 7) (e22_ : z21_ = Mz.1 (50, 0, 0) 2) (kf23_ : (Mz.1 (50, 0, 0) 2).toInt = z21_.toInt) (h24_ : 0 ≤ z21_.toInt ∧ z21_.toInt ≤ 8) (h25_ : ¬ z21_.toInt = 8) (h29_ : r26_.toInt = 180 + 9 * z21_.toInt) (h31_ : z30_.toInt = r26_.toInt + 0) (h35_ : (j34_ : Int) = z30_.toInt) (hM33_ : M32_ = up Mz (50, 0, 0) j34_ v) (kf38_ : (M32_.1 (50, 0, 0) 2).toInt = z21_.toInt) (h40_ : z39_.toInt = r26_.toInt + 1) (h44_ : (j43_ : Int) = z39_.toInt) (hM42_ : M41_ = up M32_ (50, 0, 0) j43_ u) (kf47_ : (M41_.1 (50, 0, 0) 2).toInt = z21_.toInt) (h49_ : z48_.toInt = r26_.toInt + 2) (h53_ : (j52_ : Int) = z48_.toInt) (hM51_ : M50_ = up M41_ (50, 0, 0) j52_ t) : PN j52_ t ∧ (j52_ < 345 ∨ 493 < j52_) := by have r_v := rngI v; have r_u := rngI u; have r_t := rngI t; have r_z21_ := rngI z21_; have r_r26_ := rngI r26_; have r_z30_ := rngI z30_; have r_z39_ := rngI z39_; have r_z48_ := rngI z48_; subst e22_; unfold PN; omega
theorem lf_c_X12_walker_12 (M32_ : mM) (M41_ : mM) (M50_ : mM) (Mz : mM) (v : Int32) (u : Int32) (t : Int32) (z21_ : Int32) (r26_ : Int32) (z30_ : Int32) (j34_ : Nat) (z39_ : Int32) (j43_ : Nat) (z48_ : Int32) (j52_ : Nat) (h4_ : 0 ≤ v.toInt ∧ v.toInt ≤ 7) (h9_ : 0 ≤ u.toInt ∧ u.toInt ≤ 191) (h14_ : 0 ≤ t.toInt ∧ t.toInt ≤ 7) (e22_ : z21_ = Mz.1 (50, 0, 0) 2) (kf23_ : (Mz.1 (50, 0, 0) 2).toInt = z21_.toInt) (h24_ : 0 ≤ z21_.toInt ∧ z21_.toInt ≤ 8) (h25_ : ¬ z21_.toInt = 8) (h29_ : r26_.toInt = 180 + 9 * z21_.toInt) (h31_ : z30_.toInt = r26_.toInt + 0) (h35_ : (j34_ : Int) = z30_.toInt) (hM33_ : M32_ = up Mz (50, 0, 0) j34_ v) (kf38_ : (M32_.1 (50, 0, 0) 2).toInt = z21_.toInt) (h40_ : z39_.toInt = r26_.toInt + 1) (h44_ : (j43_ : Int) = z39_.toInt) (hM42_ : M41_ = up M32_ (50, 0, 0) j43_ u) (kf47_ : (M41_.1 (50, 0, 0) 2).toInt = z21_.toInt) (h49_ : z48_.toInt = r26_.toInt + 2) (h53_ : (j52_ : Int) = z48_.toInt) (hM51_ : M50_ = up M41_ (50, 0, 0) j52_ t) : ¬ 2 = j52_ := by have r_v := rngI v; have r_u := rngI u; have r_t := rngI t; have r_z21_ := rngI z21_; have r_r26_ := rngI r26_; have r_z30_ := rngI z30_; have r_z39_ := rngI z39_; have r_z48_ := rngI z48_; subst e22_; omega
theorem lf_c_X12_walker_13 (M32_ : mM) (M41_ : mM) (M50_ : mM) (Mz : mM) (v : Int32) (u : Int32) (t : Int32) (z21_ : Int32) (r26_ : Int32) (z30_ : Int32) (j34_ : Nat) (z39_ : Int32) (j43_ : Nat) (z48_ : Int32) (j52_ : Nat) (h4_ : 0 ≤ v.toInt ∧ v.toInt ≤ 7) (h9_ : 0 ≤ u.toInt ∧ u.toInt ≤ 191) (h14_ : 0 ≤ t.toInt ∧ t.toInt ≤ 7) (e22_ : z21_ = Mz.1 (50, 0, 0) 2) (kf23_ : (Mz.1 (50, 0, 0) 2).toInt = z21_.toInt) (h24_ : 0 ≤ z21_.toInt ∧ z21_.toInt ≤ 8) (h25_ : ¬ z21_.toInt = 8) (h29_ : r26_.toInt = 180 + 9 * z21_.toInt) (h31_ : z30_.toInt = r26_.toInt + 0) (h35_ : (j34_ : Int) = z30_.toInt) (hM33_ : M32_ = up Mz (50, 0, 0) j34_ v) (kf38_ : (M32_.1 (50, 0, 0) 2).toInt = z21_.toInt) (h40_ : z39_.toInt = r26_.toInt + 1) (h44_ : (j43_ : Int) = z39_.toInt) (hM42_ : M41_ = up M32_ (50, 0, 0) j43_ u) (kf47_ : (M41_.1 (50, 0, 0) 2).toInt = z21_.toInt) (h49_ : z48_.toInt = r26_.toInt + 2) (h53_ : (j52_ : Int) = z48_.toInt) (hM51_ : M50_ = up M41_ (50, 0, 0) j52_ t) (kf56_ : (M50_.1 (50, 0, 0) 2).toInt = z21_.toInt) : -2147483648 ≤ r26_.toInt + 3 ∧ r26_.toInt + 3 < 2147483648 := by have r_v := rngI v; have r_u := rngI u; have r_t := rngI t; have r_z21_ := rngI z21_; have r_r26_ := rngI r26_; have r_z30_ := rngI z30_; have r_z39_ := rngI z39_; have r_z48_ := rngI z48_; subst e22_; omega
theorem lf_c_X12_walker_14 (M32_ : mM) (M41_ : mM) (M50_ : mM) (Mz : mM) (v : Int32) (u : Int32) (t : Int32) (z21_ : Int32) (r26_ : Int32) (z30_ : Int32) (j34_ : Nat) (z39_ : Int32) (j43_ : Nat) (z48_ : Int32) (j52_ : Nat) (z57_ : Int32) (h4_ : 0 ≤ v.toInt ∧ v.toInt ≤ 7) (h9_ : 0 ≤ u.toInt ∧ u.toInt ≤ 191) (h14_ : 0 ≤ t.toInt ∧ t.toInt ≤ 7) (e22_ : z21_ = Mz.1 (50, 0, 0) 2) (kf23_ : (Mz.1 (50, 0, 0) 2).toInt = z21_.toInt) (h24_ : 0 ≤ z21_.toInt ∧ z21_.toInt ≤ 8) (h25_ : ¬ z21_.toInt = 8) (h29_ : r26_.toInt = 180 + 9 * z21_.toInt) (h31_ : z30_.toInt = r26_.toInt + 0) (h35_ : (j34_ : Int) = z30_.toInt) (hM33_ : M32_ = up Mz (50, 0, 0) j34_ v) (kf38_ : (M32_.1 (50, 0, 0) 2).toInt = z21_.toInt) (h40_ : z39_.toInt = r26_.toInt + 1) (h44_ : (j43_ : Int) = z39_.toInt) (hM42_ : M41_ = up M32_ (50, 0, 0) j43_ u) (kf47_ : (M41_.1 (50, 0, 0) 2).toInt = z21_.toInt) (h49_ : z48_.toInt = r26_.toInt + 2) (h53_ : (j52_ : Int) = z48_.toInt) (hM51_ : M50_ = up M41_ (50, 0, 0) j52_ t) (kf56_ : (M50_.1 (50, 0, 0) 2).toInt = z21_.toInt) (h58_ : z57_.toInt = r26_.toInt + 3) : 0 ≤ z57_.toInt ∧ z57_.toInt < ((3567 : Nat) : Int) := by have r_v := rngI v; have r_u := rngI u; have r_t := rngI t; have r_z21_ := rngI z21_; have r_r26_ := rngI r26_; have r_z30_ := rngI z30_; have r_z39_ := rngI z39_; have r_z48_ := rngI z48_; have r_z57_ := rngI z57_; subst e22_; omega
theorem lf_c_X12_walker_15 (M32_ : mM) (M41_ : mM) (M50_ : mM) (M59_ : mM) (Mz : mM) (v : Int32) (u : Int32) (t : Int32) (z21_ : Int32) (r26_ : Int32) (z30_ : Int32) (j34_ : Nat) (z39_ : Int32) (j43_ : Nat) (z48_ : Int32) (j52_ : Nat) (z57_ : Int32) (j61_ : Nat) (h4_ : 0 ≤ v.toInt ∧ v.toInt ≤ 7) (h9_ : 0 ≤ u.toInt ∧ u.toInt ≤ 191) (h14_ : 0 ≤ t.toInt ∧ t.toInt ≤ 7) (e22_ : z21_ = Mz.1 (50, 0, 0) 2) (kf23_ : (Mz.1 (50, 0, 0) 2).toInt = z21_.toInt) (h24_ : 0 ≤ z21_.toInt ∧ z21_.toInt ≤ 8) (h25_ : ¬ z21_.toInt = 8) (h29_ : r26_.toInt = 180 + 9 * z21_.toInt) (h31_ : z30_.toInt = r26_.toInt + 0) (h35_ : (j34_ : Int) = z30_.toInt) (hM33_ : M32_ = up Mz (50, 0, 0) j34_ v) (kf38_ : (M32_.1 (50, 0, 0) 2).toInt = z21_.toInt) (h40_ : z39_.toInt = r26_.toInt + 1) (h44_ : (j43_ : Int) = z39_.toInt) (hM42_ : M41_ = up M32_ (50, 0, 0) j43_ u) (kf47_ : (M41_.1 (50, 0, 0) 2).toInt = z21_.toInt) (h49_ : z48_.toInt = r26_.toInt + 2) (h53_ : (j52_ : Int) = z48_.toInt) (hM51_ : M50_ = up M41_ (50, 0, 0) j52_ t) (kf56_ : (M50_.1 (50, 0, 0) 2).toInt = z21_.toInt) (h58_ : z57_.toInt = r26_.toInt + 3) (h62_ : (j61_ : Int) = z57_.toInt) (hM60_ : M59_ = up M50_ (50, 0, 0) j61_ 5) : PN j61_ (5 : Int32) ∧ (j61_ < 345 ∨ 493 < j61_) := by have r_v := rngI v; have r_u := rngI u; have r_t := rngI t; have r_z21_ := rngI z21_; have r_r26_ := rngI r26_; have r_z30_ := rngI z30_; have r_z39_ := rngI z39_; have r_z48_ := rngI z48_; have r_z57_ := rngI z57_; have q9 := li_5; subst e22_; unfold PN; omega
theorem lf_c_X12_walker_16 (M32_ : mM) (M41_ : mM) (M50_ : mM) (M59_ : mM) (Mz : mM) (v : Int32) (u : Int32) (t : Int32) (z21_ : Int32) (r26_ : Int32) (z30_ : Int32) (j34_ : Nat) (z39_ : Int32) (j43_ : Nat) (z48_ : Int32) (j52_ : Nat) (z57_ : Int32) (j61_ : Nat) (h4_ : 0 ≤ v.toInt ∧ v.toInt ≤ 7) (h9_ : 0 ≤ u.toInt ∧ u.toInt ≤ 191) (h14_ : 0 ≤ t.toInt ∧ t.toInt ≤ 7) (e22_ : z21_ = Mz.1 (50, 0, 0) 2) (kf23_ : (Mz.1 (50, 0, 0) 2).toInt = z21_.toInt) (h24_ : 0 ≤ z21_.toInt ∧ z21_.toInt ≤ 8) (h25_ : ¬ z21_.toInt = 8) (h29_ : r26_.toInt = 180 + 9 * z21_.toInt) (h31_ : z30_.toInt = r26_.toInt + 0) (h35_ : (j34_ : Int) = z30_.toInt) (hM33_ : M32_ = up Mz (50, 0, 0) j34_ v) (kf38_ : (M32_.1 (50, 0, 0) 2).toInt = z21_.toInt) (h40_ : z39_.toInt = r26_.toInt + 1) (h44_ : (j43_ : Int) = z39_.toInt) (hM42_ : M41_ = up M32_ (50, 0, 0) j43_ u) (kf47_ : (M41_.1 (50, 0, 0) 2).toInt = z21_.toInt) (h49_ : z48_.toInt = r26_.toInt + 2) (h53_ : (j52_ : Int) = z48_.toInt) (hM51_ : M50_ = up M41_ (50, 0, 0) j52_ t) (kf56_ : (M50_.1 (50, 0, 0) 2).toInt = z21_.toInt) (h58_ : z57_.toInt = r26_.toInt + 3) (h62_ : (j61_ : Int) = z57_.toInt) (hM60_ : M59_ = up M50_ (50, 0, 0) j61_ 5) : ¬ 2 = j61_ := by have r_v := rngI v; have r_u := rngI u; have r_t := rngI t; have r_z21_ := rngI z21_; have r_r26_ := rngI r26_; have r_z30_ := rngI z30_; have r_z39_ := rngI z39_; have r_z48_ := rngI z48_; have r_z57_ := rngI z57_; subst e22_; omega
theorem lf_c_X12_walker_17 (M32_ : mM) (M41_ : mM) (M50_ : mM) (M59_ : mM) (Mz : mM) (v : Int32) (u : Int32) (t : Int32) (z21_ : Int32) (r26_ : Int32) (z30_ : Int32) (j34_ : Nat) (z39_ : Int32) (j43_ : Nat) (z48_ : Int32) (j52_ : Nat) (z57_ : Int32) (j61_ : Nat) (h4_ : 0 ≤ v.toInt ∧ v.toInt ≤ 7) (h9_ : 0 ≤ u.toInt ∧ u.toInt ≤ 191) (h14_ : 0 ≤ t.toInt ∧ t.toInt ≤ 7) (e22_ : z21_ = Mz.1 (50, 0, 0) 2) (kf23_ : (Mz.1 (50, 0, 0) 2).toInt = z21_.toInt) (h24_ : 0 ≤ z21_.toInt ∧ z21_.toInt ≤ 8) (h25_ : ¬ z21_.toInt = 8) (h29_ : r26_.toInt = 180 + 9 * z21_.toInt) (h31_ : z30_.toInt = r26_.toInt + 0) (h35_ : (j34_ : Int) = z30_.toInt) (hM33_ : M32_ = up Mz (50, 0, 0) j34_ v) (kf38_ : (M32_.1 (50, 0, 0) 2).toInt = z21_.toInt) (h40_ : z39_.toInt = r26_.toInt + 1) (h44_ : (j43_ : Int) = z39_.toInt) (hM42_ : M41_ = up M32_ (50, 0, 0) j43_ u) (kf47_ : (M41_.1 (50, 0, 0) 2).toInt = z21_.toInt) (h49_ : z48_.toInt = r26_.toInt + 2) (h53_ : (j52_ : Int) = z48_.toInt) (hM51_ : M50_ = up M41_ (50, 0, 0) j52_ t) (kf56_ : (M50_.1 (50, 0, 0) 2).toInt = z21_.toInt) (h58_ : z57_.toInt = r26_.toInt + 3) (h62_ : (j61_ : Int) = z57_.toInt) (hM60_ : M59_ = up M50_ (50, 0, 0) j61_ 5) (kf65_ : (M59_.1 (50, 0, 0) 2).toInt = z21_.toInt) : -2147483648 ≤ r26_.toInt + 4 ∧ r26_.toInt + 4 < 2147483648 := by have r_v := rngI v; have r_u := rngI u; have r_t := rngI t; have r_z21_ := rngI z21_; have r_r26_ := rngI r26_; have r_z30_ := rngI z30_; have r_z39_ := rngI z39_; have r_z48_ := rngI z48_; have r_z57_ := rngI z57_; subst e22_; omega
theorem lf_c_X12_walker_18 (M32_ : mM) (M41_ : mM) (M50_ : mM) (M59_ : mM) (Mz : mM) (v : Int32) (u : Int32) (t : Int32) (z21_ : Int32) (r26_ : Int32) (z30_ : Int32) (j34_ : Nat) (z39_ : Int32) (j43_ : Nat) (z48_ : Int32) (j52_ : Nat) (z57_ : Int32) (j61_ : Nat) (z66_ : Int32) (h4_ : 0 ≤ v.toInt ∧ v.toInt ≤ 7) (h9_ : 0 ≤ u.toInt ∧ u.toInt ≤ 191) (h14_ : 0 ≤ t.toInt ∧ t.toInt ≤ 7) (e22_ : z21_ = Mz.1 (50, 0, 0) 2) (kf23_ : (Mz.1 (50, 0, 0) 2).toInt = z21_.toInt) (h24_ : 0 ≤ z21_.toInt ∧ z21_.toInt ≤ 8) (h25_ : ¬ z21_.toInt = 8) (h29_ : r26_.toInt = 180 + 9 * z21_.toInt) (h31_ : z30_.toInt = r26_.toInt + 0) (h35_ : (j34_ : Int) = z30_.toInt) (hM33_ : M32_ = up Mz (50, 0, 0) j34_ v) (kf38_ : (M32_.1 (50, 0, 0) 2).toInt = z21_.toInt) (h40_ : z39_.toInt = r26_.toInt + 1) (h44_ : (j43_ : Int) = z39_.toInt) (hM42_ : M41_ = up M32_ (50, 0, 0) j43_ u) (kf47_ : (M41_.1 (50, 0, 0) 2).toInt = z21_.toInt) (h49_ : z48_.toInt = r26_.toInt + 2) (h53_ : (j52_ : Int) = z48_.toInt) (hM51_ : M50_ = up M41_ (50, 0, 0) j52_ t) (kf56_ : (M50_.1 (50, 0, 0) 2).toInt = z21_.toInt) (h58_ : z57_.toInt = r26_.toInt + 3) (h62_ : (j61_ : Int) = z57_.toInt) (hM60_ : M59_ = up M50_ (50, 0, 0) j61_ 5) (kf65_ : (M59_.1 (50, 0, 0) 2).toInt = z21_.toInt) (h67_ : z66_.toInt = r26_.toInt + 4) : 0 ≤ z66_.toInt ∧ z66_.toInt < ((3567 : Nat) : Int) := by have r_v := rngI v; have r_u := rngI u; have r_t := rngI t; have r_z21_ := rngI z21_; have r_r26_ := rngI r26_; have r_z30_ := rngI z30_; have r_z39_ := rngI z39_; have r_z48_ := rngI z48_; have r_z57_ := rngI z57_; have r_z66_ := rngI z66_; subst e22_; omega
theorem lf_c_X12_walker_19 (M32_ : mM) (M41_ : mM) (M50_ : mM) (M59_ : mM) (M68_ : mM) (Mz : mM) (v : Int32) (u : Int32) (t : Int32) (z21_ : Int32) (r26_ : Int32) (z30_ : Int32) (j34_ : Nat) (z39_ : Int32) (j43_ : Nat) (z48_ : Int32) (j52_ : Nat) (z57_ : Int32) (j61_ : Nat) (z66_ : Int32) (j70_ : Nat) (h4_ : 0 ≤ v.toInt ∧ v.toInt ≤ 7) (h9_ : 0 ≤ u.toInt ∧ u.toInt ≤ 191) (h14_ : 0 ≤ t.toInt ∧ t.toInt ≤ 7) (e22_ : z21_ = Mz.1 (50, 0, 0) 2) (kf23_ : (Mz.1 (50, 0, 0) 2).toInt = z21_.toInt) (h24_ : 0 ≤ z21_.toInt ∧ z21_.toInt ≤ 8) (h25_ : ¬ z21_.toInt = 8) (h29_ : r26_.toInt = 180 + 9 * z21_.toInt) (h31_ : z30_.toInt = r26_.toInt + 0) (h35_ : (j34_ : Int) = z30_.toInt) (hM33_ : M32_ = up Mz (50, 0, 0) j34_ v) (kf38_ : (M32_.1 (50, 0, 0) 2).toInt = z21_.toInt) (h40_ : z39_.toInt = r26_.toInt + 1) (h44_ : (j43_ : Int) = z39_.toInt) (hM42_ : M41_ = up M32_ (50, 0, 0) j43_ u) (kf47_ : (M41_.1 (50, 0, 0) 2).toInt = z21_.toInt) (h49_ : z48_.toInt = r26_.toInt + 2) (h53_ : (j52_ : Int) = z48_.toInt) (hM51_ : M50_ = up M41_ (50, 0, 0) j52_ t) (kf56_ : (M50_.1 (50, 0, 0) 2).toInt = z21_.toInt) (h58_ : z57_.toInt = r26_.toInt + 3) (h62_ : (j61_ : Int) = z57_.toInt) (hM60_ : M59_ = up M50_ (50, 0, 0) j61_ 5) (kf65_ : (M59_.1 (50, 0, 0) 2).toInt = z21_.toInt) (h67_ : z66_.toInt = r26_.toInt + 4) (h71_ : (j70_ : Int) = z66_.toInt) (hM69_ : M68_ = up M59_ (50, 0, 0) j70_ 60) : PN j70_ (60 : Int32) ∧ (j70_ < 345 ∨ 493 < j70_) := by have r_v := rngI v; have r_u := rngI u; have r_t := rngI t; have r_z21_ := rngI z21_; have r_r26_ := rngI r26_; have r_z30_ := rngI z30_; have r_z39_ := rngI z39_; have r_z48_ := rngI z48_; have r_z57_ := rngI z57_; have r_z66_ := rngI z66_; have q9 := li_60; subst e22_; unfold PN; omega
theorem lf_c_X12_walker_20 (M32_ : mM) (M41_ : mM) (M50_ : mM) (M59_ : mM) (M68_ : mM) (Mz : mM) (v : Int32) (u : Int32) (t : Int32) (z21_ : Int32) (r26_ : Int32) (z30_ : Int32) (j34_ : Nat) (z39_ : Int32) (j43_ : Nat) (z48_ : Int32) (j52_ : Nat) (z57_ : Int32) (j61_ : Nat) (z66_ : Int32) (j70_ : Nat) (h4_ : 0 ≤ v.toInt ∧ v.toInt ≤ 7) (h9_ : 0 ≤ u.toInt ∧ u.toInt ≤ 191) (h14_ : 0 ≤ t.toInt ∧ t.toInt ≤ 7) (e22_ : z21_ = Mz.1 (50, 0, 0) 2) (kf23_ : (Mz.1 (50, 0, 0) 2).toInt = z21_.toInt) (h24_ : 0 ≤ z21_.toInt ∧ z21_.toInt ≤ 8) (h25_ : ¬ z21_.toInt = 8) (h29_ : r26_.toInt = 180 + 9 * z21_.toInt) (h31_ : z30_.toInt = r26_.toInt + 0) (h35_ : (j34_ : Int) = z30_.toInt) (hM33_ : M32_ = up Mz (50, 0, 0) j34_ v) (kf38_ : (M32_.1 (50, 0, 0) 2).toInt = z21_.toInt) (h40_ : z39_.toInt = r26_.toInt + 1) (h44_ : (j43_ : Int) = z39_.toInt) (hM42_ : M41_ = up M32_ (50, 0, 0) j43_ u) (kf47_ : (M41_.1 (50, 0, 0) 2).toInt = z21_.toInt) (h49_ : z48_.toInt = r26_.toInt + 2) (h53_ : (j52_ : Int) = z48_.toInt) (hM51_ : M50_ = up M41_ (50, 0, 0) j52_ t) (kf56_ : (M50_.1 (50, 0, 0) 2).toInt = z21_.toInt) (h58_ : z57_.toInt = r26_.toInt + 3) (h62_ : (j61_ : Int) = z57_.toInt) (hM60_ : M59_ = up M50_ (50, 0, 0) j61_ 5) (kf65_ : (M59_.1 (50, 0, 0) 2).toInt = z21_.toInt) (h67_ : z66_.toInt = r26_.toInt + 4) (h71_ : (j70_ : Int) = z66_.toInt) (hM69_ : M68_ = up M59_ (50, 0, 0) j70_ 60) : ¬ 2 = j70_ := by have r_v := rngI v; have r_u := rngI u; have r_t := rngI t; have r_z21_ := rngI z21_; have r_r26_ := rngI r26_; have r_z30_ := rngI z30_; have r_z39_ := rngI z39_; have r_z48_ := rngI z48_; have r_z57_ := rngI z57_; have r_z66_ := rngI z66_; subst e22_; omega
theorem lf_c_X12_walker_21 (M32_ : mM) (M41_ : mM) (M50_ : mM) (M59_ : mM) (M68_ : mM) (Mz : mM) (v : Int32) (u : Int32) (t : Int32) (z21_ : Int32) (r26_ : Int32) (z30_ : Int32) (j34_ : Nat) (z39_ : Int32) (j43_ : Nat) (z48_ : Int32) (j52_ : Nat) (z57_ : Int32) (j61_ : Nat) (z66_ : Int32) (j70_ : Nat) (z75_ : Int32) (h4_ : 0 ≤ v.toInt ∧ v.toInt ≤ 7) (h9_ : 0 ≤ u.toInt ∧ u.toInt ≤ 191) (h14_ : 0 ≤ t.toInt ∧ t.toInt ≤ 7) (e22_ : z21_ = Mz.1 (50, 0, 0) 2) (kf23_ : (Mz.1 (50, 0, 0) 2).toInt = z21_.toInt) (h24_ : 0 ≤ z21_.toInt ∧ z21_.toInt ≤ 8) (h25_ : ¬ z21_.toInt = 8) (h29_ : r26_.toInt = 180 + 9 * z21_.toInt) (h31_ : z30_.toInt = r26_.toInt + 0) (h35_ : (j34_ : Int) = z30_.toInt) (hM33_ : M32_ = up Mz (50, 0, 0) j34_ v) (kf38_ : (M32_.1 (50, 0, 0) 2).toInt = z21_.toInt) (h40_ : z39_.toInt = r26_.toInt + 1) (h44_ : (j43_ : Int) = z39_.toInt) (hM42_ : M41_ = up M32_ (50, 0, 0) j43_ u) (kf47_ : (M41_.1 (50, 0, 0) 2).toInt = z21_.toInt) (h49_ : z48_.toInt = r26_.toInt + 2) (h53_ : (j52_ : Int) = z48_.toInt) (hM51_ : M50_ = up M41_ (50, 0, 0) j52_ t) (kf56_ : (M50_.1 (50, 0, 0) 2).toInt = z21_.toInt) (h58_ : z57_.toInt = r26_.toInt + 3) (h62_ : (j61_ : Int) = z57_.toInt) (hM60_ : M59_ = up M50_ (50, 0, 0) j61_ 5) (kf65_ : (M59_.1 (50, 0, 0) 2).toInt = z21_.toInt) (h67_ : z66_.toInt = r26_.toInt + 4) (h71_ : (j70_ : Int) = z66_.toInt) (hM69_ : M68_ = up M59_ (50, 0, 0) j70_ 60) (kf74_ : (M68_.1 (50, 0, 0) 2).toInt = z21_.toInt) (e76_ : z75_ = M68_.1 (50, 0, 0) 2) (h77_ : z75_.toInt = z21_.toInt) (h78_ : 0 ≤ z75_.toInt ∧ z75_.toInt ≤ 8) : -2147483648 ≤ z75_.toInt + 1 ∧ z75_.toInt + 1 < 2147483648 := by have r_v := rngI v; have r_u := rngI u; have r_t := rngI t; have r_z21_ := rngI z21_; have r_r26_ := rngI r26_; have r_z30_ := rngI z30_; have r_z39_ := rngI z39_; have r_z48_ := rngI z48_; have r_z57_ := rngI z57_; have r_z66_ := rngI z66_; have r_z75_ := rngI z75_; subst e22_; subst e76_; omega
theorem lf_c_X12_walker_22 (M32_ : mM) (M41_ : mM) (M50_ : mM) (M59_ : mM) (M68_ : mM) (M81_ : mM) (Mz : mM) (v : Int32) (u : Int32) (t : Int32) (z21_ : Int32) (r26_ : Int32) (z30_ : Int32) (j34_ : Nat) (z39_ : Int32) (j43_ : Nat) (z48_ : Int32) (j52_ : Nat) (z57_ : Int32) (j61_ : Nat) (z66_ : Int32) (j70_ : Nat) (z75_ : Int32) (z79_ : Int32) (h4_ : 0 ≤ v.toInt ∧ v.toInt ≤ 7) (h9_ : 0 ≤ u.toInt ∧ u.toInt ≤ 191) (h14_ : 0 ≤ t.toInt ∧ t.toInt ≤ 7) (e22_ : z21_ = Mz.1 (50, 0, 0) 2) (kf23_ : (Mz.1 (50, 0, 0) 2).toInt = z21_.toInt) (h24_ : 0 ≤ z21_.toInt ∧ z21_.toInt ≤ 8) (h25_ : ¬ z21_.toInt = 8) (h29_ : r26_.toInt = 180 + 9 * z21_.toInt) (h31_ : z30_.toInt = r26_.toInt + 0) (h35_ : (j34_ : Int) = z30_.toInt) (hM33_ : M32_ = up Mz (50, 0, 0) j34_ v) (kf38_ : (M32_.1 (50, 0, 0) 2).toInt = z21_.toInt) (h40_ : z39_.toInt = r26_.toInt + 1) (h44_ : (j43_ : Int) = z39_.toInt) (hM42_ : M41_ = up M32_ (50, 0, 0) j43_ u) (kf47_ : (M41_.1 (50, 0, 0) 2).toInt = z21_.toInt) (h49_ : z48_.toInt = r26_.toInt + 2) (h53_ : (j52_ : Int) = z48_.toInt) (hM51_ : M50_ = up M41_ (50, 0, 0) j52_ t) (kf56_ : (M50_.1 (50, 0, 0) 2).toInt = z21_.toInt) (h58_ : z57_.toInt = r26_.toInt + 3) (h62_ : (j61_ : Int) = z57_.toInt) (hM60_ : M59_ = up M50_ (50, 0, 0) j61_ 5) (kf65_ : (M59_.1 (50, 0, 0) 2).toInt = z21_.toInt) (h67_ : z66_.toInt = r26_.toInt + 4) (h71_ : (j70_ : Int) = z66_.toInt) (hM69_ : M68_ = up M59_ (50, 0, 0) j70_ 60) (kf74_ : (M68_.1 (50, 0, 0) 2).toInt = z21_.toInt) (e76_ : z75_ = M68_.1 (50, 0, 0) 2) (h77_ : z75_.toInt = z21_.toInt) (h78_ : 0 ≤ z75_.toInt ∧ z75_.toInt ≤ 8) (h80_ : z79_.toInt = z75_.toInt + 1) (hM82_ : M81_ = up M68_ (50, 0, 0) 2 z79_) : PN 2 z79_ ∧ (2 < 345 ∨ 493 < 2) := by have r_v := rngI v; have r_u := rngI u; have r_t := rngI t; have r_z21_ := rngI z21_; have r_r26_ := rngI r26_; have r_z30_ := rngI z30_; have r_z39_ := rngI z39_; have r_z48_ := rngI z48_; have r_z57_ := rngI z57_; have r_z66_ := rngI z66_; have r_z75_ := rngI z75_; have r_z79_ := rngI z79_; subst e22_; subst e76_; unfold PN; omega
set_option maxHeartbeats 4000000 in
set_option maxRecDepth 100000 in
theorem c_X12_walker (l : Launch) (G : va_G) (cy : Nat → ClassId) (ad : rf → Nat) (d : Nat) (v : Int32) (u : Int32) (t : Int32) (Mz : mM) (hIz : InvD Mz) : WP DD l G cy ad yX12_walker cX12_walker 6 (some .int) (d + 3) 0 [(0, vR (12, 0, 0)), (1, vI v), (2, vI u), (3, vI t)] [] Mz (fun r M' => InvD M' ∧ FR (S_c_X12_walker) Mz M' ∧ True) := by
  have hFz : FR (S_c_X12_walker) Mz Mz := FR.self
  refine w_iload_n dX12_walker_0 rfl 1 rfl ?_
  refine w_iconst (v := 0) dX12_walker_1 (by decide) ?_
  refine w_bipush (v := 7) dX12_walker_2 (by decide) ?_
  refine w_callS (as := [vI v, vI 0, vI 7]) (rest := []) (c_X12_within l G cy ad (d + 2) v 0 7 Mz hIz) kS_X12_within (by decide +kernel) (Nat.le_of_ble_eq_true rfl) m_1427 rfl rfl (by decide) (Nat.le_of_ble_eq_true rfl) dX12_walker_4 (fun r1_ M2_ q3_ => ?_)
  obtain ⟨rfl, h4_⟩ := q3_
  rcases h4_ with ⟨rfl, h4_⟩ | ⟨rfl, h4_⟩
  · simp only [li_0, li_7] at h4_
    refine w_if_eq (tgt := 24) dX12_walker_7 (by decide) li_1 (fun h9 => (absurd h9 (by decide))) (fun h5_ => ?_)
    refine w_iload_n dX12_walker_10 rfl 2 rfl ?_
    refine w_callS (as := [vI u]) (rest := []) (c_X12_isCell l G cy ad (d + 1) u Mz hIz) kS_X12_isCell (by decide +kernel) (Nat.le_of_ble_eq_true rfl) m_1430 rfl rfl (by decide) (Nat.le_of_ble_eq_true rfl) dX12_walker_11 (fun r6_ M7_ q8_ => ?_)
    obtain ⟨rfl, h9_⟩ := q8_
    rcases h9_ with ⟨rfl, h9_⟩ | ⟨rfl, h9_⟩
    · refine w_if_eq (tgt := 24) dX12_walker_14 (by decide) li_1 (fun h9 => (absurd h9 (by decide))) (fun h10_ => ?_)
      refine w_iload_n dX12_walker_17 rfl 3 rfl ?_
      refine w_callS (as := [vI t]) (rest := []) (c_X12_isSide l G cy ad (d + 1) t Mz hIz) kS_X12_isSide (by decide +kernel) (Nat.le_of_ble_eq_true rfl) m_1473 rfl rfl (by decide) (Nat.le_of_ble_eq_true rfl) dX12_walker_18 (fun r11_ M12_ q13_ => ?_)
      obtain ⟨rfl, h14_⟩ := q13_
      rcases h14_ with ⟨rfl, h14_⟩ | ⟨rfl, h14_⟩
      · refine w_if_ne (tgt := 31) dX12_walker_21 (by decide) li_1 (fun h15_ => ?_) (fun h9 => (absurd h9 (by decide)))
        refine w_aload_n dX12_walker_31 rfl 0 rfl ?_
        refine w_iload_n dX12_walker_32 rfl 2 rfl ?_
        refine w_callV (as := [vI u]) (rest := []) (c_X12_isFree l G cy ad d u Mz hIz) kV_X12_isFree (by decide +kernel) (Nat.le_of_ble_eq_true rfl) m_1439 rfl rfl rfl ic_12 rfl rfl (by decide) (Nat.le_of_ble_eq_true rfl) dX12_walker_33 (fun r16_ M17_ q18_ => ?_)
        obtain ⟨rfl, h19_⟩ := q18_
        refine w_if_ne (tgt := 46) dX12_walker_36 (by decide) (rfl : r16_.toInt = r16_.toInt) (fun h20_ => ?_) (fun h20_ => ?_)
        · refine w_aload_n dX12_walker_46 rfl 0 rfl ?_
          refine w_getR (c' := (50, 0, 0)) fl_RX12_9 rfl rfl ic_12 dX12_walker_47 rfl ?_
          refine w_iconst (v := 2) dX12_walker_50 (by decide) ?_
          refine w_ialdL 2 rfl rfl ic_50 li_2 (by decide) dX12_walker_51 (fun z21_ e22_ => ?_)
          have kf23_ : (Mz.1 (50, 0, 0) 2).toInt = z21_.toInt := by rw [e22_]
          have h24_ : 0 ≤ z21_.toInt ∧ z21_.toInt ≤ 8 := pn_2 hIz e22_
          refine w_istore (ls' := [(4, vI z21_), (0, vR (12, 0, 0)), (1, vI v), (2, vI u), (3, vI t)]) dX12_walker_52 (by decide) rfl ?_
          refine w_iload dX12_walker_54 0 rfl ?_
          refine w_bipush (v := 8) dX12_walker_56 (by decide) ?_
          refine w_icmp_ne (tgt := 68) dX12_walker_58 (by decide) (rfl : z21_.toInt = z21_.toInt) li_8 (fun h25_ => ?_) (fun h25_ => ?_)
          · refine w_aload_n dX12_walker_68 rfl 1 rfl ?_
            refine w_iload dX12_walker_69 0 rfl ?_
            refine w_callV (as := [vI z21_]) (rest := []) (c_X12_goer l G cy ad (d + 2) z21_ Mz hIz (lf_c_X12_walker_0 Mz z21_ e22_ kf23_ h24_ h25_)) kV_X12_goer (by decide +kernel) (Nat.le_of_ble_eq_true rfl) m_1451 rfl rfl rfl ic_12 rfl rfl (by decide) (Nat.le_of_ble_eq_true rfl) dX12_walker_71 (fun r26_ M27_ q28_ => ?_)
            obtain ⟨rfl, h29_⟩ := q28_
            refine w_istore (ls' := [(5, vI r26_), (4, vI z21_), (0, vR (12, 0, 0)), (1, vI v), (2, vI u), (3, vI t)]) dX12_walker_74 (by decide) rfl ?_
            refine w_aload_n dX12_walker_76 rfl 2 rfl ?_
            refine w_getR (c' := (50, 0, 0)) fl_RX12_9 rfl rfl ic_12 dX12_walker_77 rfl ?_
            refine w_iload dX12_walker_80 0 rfl ?_
            refine w_iconst (v := 0) dX12_walker_82 (by decide) ?_
            refine w_iaddB dX12_walker_83 (rfl : r26_.toInt = r26_.toInt) li_0 (lf_c_X12_walker_1 Mz z21_ r26_ e22_ kf23_ h24_ h25_ h29_) (fun z30_ h31_ => ?_)
            refine w_iload_n dX12_walker_84 rfl 3 rfl ?_
            refine w_iast DD_nd rfl rfl ic_50 (rfl : z30_.toInt = z30_.toInt) (lf_c_X12_walker_2 Mz z21_ r26_ z30_ e22_ kf23_ h24_ h25_ h29_ h31_) dX12_walker_85 (fun j34_ h35_ M32_ hM33_ => ?_)
            have hI36_ := hIz.put50 hM33_ (lf_c_X12_walker_3 M32_ Mz v z21_ r26_ z30_ j34_ h4_ e22_ kf23_ h24_ h25_ h29_ h31_ h35_ hM33_)
            have hF37_ := hFz.put hM33_ (Or.inl ⟨rfl, rfl⟩)
            have kf38_ : (M32_.1 (50, 0, 0) 2).toInt = z21_.toInt := by rw [(show M32_.1 (50, 0, 0) 2 = Mz.1 (50, 0, 0) 2 by rw [hM33_]; exact up_ne (fun q => absurd q.2 (lf_c_X12_walker_4 M32_ Mz v z21_ r26_ z30_ j34_ h4_ e22_ kf23_ h24_ h25_ h29_ h31_ h35_ hM33_)))]; exact kf23_
            refine w_aload_n dX12_walker_86 rfl 2 rfl ?_
            refine w_getR (c' := (50, 0, 0)) fl_RX12_9 rfl rfl ic_12 dX12_walker_87 rfl ?_
            refine w_iload dX12_walker_90 0 rfl ?_
            refine w_iconst (v := 1) dX12_walker_92 (by decide) ?_
            refine w_iaddB dX12_walker_93 (rfl : r26_.toInt = r26_.toInt) li_1 (lf_c_X12_walker_5 M32_ Mz v z21_ r26_ z30_ j34_ h4_ e22_ kf23_ h24_ h25_ h29_ h31_ h35_ hM33_ kf38_) (fun z39_ h40_ => ?_)
            refine w_iload_n dX12_walker_94 rfl 4 rfl ?_
            refine w_iast DD_nd rfl rfl ic_50 (rfl : z39_.toInt = z39_.toInt) (lf_c_X12_walker_6 M32_ Mz v z21_ r26_ z30_ j34_ z39_ h4_ e22_ kf23_ h24_ h25_ h29_ h31_ h35_ hM33_ kf38_ h40_) dX12_walker_95 (fun j43_ h44_ M41_ hM42_ => ?_)
            have hI45_ := hI36_.put50 hM42_ (lf_c_X12_walker_7 M32_ M41_ Mz v u z21_ r26_ z30_ j34_ z39_ j43_ h4_ h9_ e22_ kf23_ h24_ h25_ h29_ h31_ h35_ hM33_ kf38_ h40_ h44_ hM42_)
            have hF46_ := hF37_.put hM42_ (Or.inl ⟨rfl, rfl⟩)
            have kf47_ : (M41_.1 (50, 0, 0) 2).toInt = z21_.toInt := by rw [(show M41_.1 (50, 0, 0) 2 = M32_.1 (50, 0, 0) 2 by rw [hM42_]; exact up_ne (fun q => absurd q.2 (lf_c_X12_walker_8 M32_ M41_ Mz v u z21_ r26_ z30_ j34_ z39_ j43_ h4_ h9_ e22_ kf23_ h24_ h25_ h29_ h31_ h35_ hM33_ kf38_ h40_ h44_ hM42_)))]; exact kf38_
            refine w_aload_n dX12_walker_96 rfl 2 rfl ?_
            refine w_getR (c' := (50, 0, 0)) fl_RX12_9 rfl rfl ic_12 dX12_walker_97 rfl ?_
            refine w_iload dX12_walker_100 0 rfl ?_
            refine w_iconst (v := 2) dX12_walker_102 (by decide) ?_
            refine w_iaddB dX12_walker_103 (rfl : r26_.toInt = r26_.toInt) li_2 (lf_c_X12_walker_9 M32_ M41_ Mz v u z21_ r26_ z30_ j34_ z39_ j43_ h4_ h9_ e22_ kf23_ h24_ h25_ h29_ h31_ h35_ hM33_ kf38_ h40_ h44_ hM42_ kf47_) (fun z48_ h49_ => ?_)
            refine w_iload_n dX12_walker_104 rfl 5 rfl ?_
            refine w_iast DD_nd rfl rfl ic_50 (rfl : z48_.toInt = z48_.toInt) (lf_c_X12_walker_10 M32_ M41_ Mz v u z21_ r26_ z30_ j34_ z39_ j43_ z48_ h4_ h9_ e22_ kf23_ h24_ h25_ h29_ h31_ h35_ hM33_ kf38_ h40_ h44_ hM42_ kf47_ h49_) dX12_walker_105 (fun j52_ h53_ M50_ hM51_ => ?_)
            have hI54_ := hI45_.put50 hM51_ (lf_c_X12_walker_11 M32_ M41_ M50_ Mz v u t z21_ r26_ z30_ j34_ z39_ j43_ z48_ j52_ h4_ h9_ h14_ e22_ kf23_ h24_ h25_ h29_ h31_ h35_ hM33_ kf38_ h40_ h44_ hM42_ kf47_ h49_ h53_ hM51_)
            have hF55_ := hF46_.put hM51_ (Or.inl ⟨rfl, rfl⟩)
            have kf56_ : (M50_.1 (50, 0, 0) 2).toInt = z21_.toInt := by rw [(show M50_.1 (50, 0, 0) 2 = M41_.1 (50, 0, 0) 2 by rw [hM51_]; exact up_ne (fun q => absurd q.2 (lf_c_X12_walker_12 M32_ M41_ M50_ Mz v u t z21_ r26_ z30_ j34_ z39_ j43_ z48_ j52_ h4_ h9_ h14_ e22_ kf23_ h24_ h25_ h29_ h31_ h35_ hM33_ kf38_ h40_ h44_ hM42_ kf47_ h49_ h53_ hM51_)))]; exact kf47_
            refine w_aload_n dX12_walker_106 rfl 2 rfl ?_
            refine w_getR (c' := (50, 0, 0)) fl_RX12_9 rfl rfl ic_12 dX12_walker_107 rfl ?_
            refine w_iload dX12_walker_110 0 rfl ?_
            refine w_iconst (v := 3) dX12_walker_112 (by decide) ?_
            refine w_iaddB dX12_walker_113 (rfl : r26_.toInt = r26_.toInt) li_3 (lf_c_X12_walker_13 M32_ M41_ M50_ Mz v u t z21_ r26_ z30_ j34_ z39_ j43_ z48_ j52_ h4_ h9_ h14_ e22_ kf23_ h24_ h25_ h29_ h31_ h35_ hM33_ kf38_ h40_ h44_ hM42_ kf47_ h49_ h53_ hM51_ kf56_) (fun z57_ h58_ => ?_)
            refine w_iconst (v := 5) dX12_walker_114 (by decide) ?_
            refine w_iast DD_nd rfl rfl ic_50 (rfl : z57_.toInt = z57_.toInt) (lf_c_X12_walker_14 M32_ M41_ M50_ Mz v u t z21_ r26_ z30_ j34_ z39_ j43_ z48_ j52_ z57_ h4_ h9_ h14_ e22_ kf23_ h24_ h25_ h29_ h31_ h35_ hM33_ kf38_ h40_ h44_ hM42_ kf47_ h49_ h53_ hM51_ kf56_ h58_) dX12_walker_115 (fun j61_ h62_ M59_ hM60_ => ?_)
            have hI63_ := hI54_.put50 hM60_ (lf_c_X12_walker_15 M32_ M41_ M50_ M59_ Mz v u t z21_ r26_ z30_ j34_ z39_ j43_ z48_ j52_ z57_ j61_ h4_ h9_ h14_ e22_ kf23_ h24_ h25_ h29_ h31_ h35_ hM33_ kf38_ h40_ h44_ hM42_ kf47_ h49_ h53_ hM51_ kf56_ h58_ h62_ hM60_)
            have hF64_ := hF55_.put hM60_ (Or.inl ⟨rfl, rfl⟩)
            have kf65_ : (M59_.1 (50, 0, 0) 2).toInt = z21_.toInt := by rw [(show M59_.1 (50, 0, 0) 2 = M50_.1 (50, 0, 0) 2 by rw [hM60_]; exact up_ne (fun q => absurd q.2 (lf_c_X12_walker_16 M32_ M41_ M50_ M59_ Mz v u t z21_ r26_ z30_ j34_ z39_ j43_ z48_ j52_ z57_ j61_ h4_ h9_ h14_ e22_ kf23_ h24_ h25_ h29_ h31_ h35_ hM33_ kf38_ h40_ h44_ hM42_ kf47_ h49_ h53_ hM51_ kf56_ h58_ h62_ hM60_)))]; exact kf56_
            refine w_aload_n dX12_walker_116 rfl 2 rfl ?_
            refine w_getR (c' := (50, 0, 0)) fl_RX12_9 rfl rfl ic_12 dX12_walker_117 rfl ?_
            refine w_iload dX12_walker_120 0 rfl ?_
            refine w_iconst (v := 4) dX12_walker_122 (by decide) ?_
            refine w_iaddB dX12_walker_123 (rfl : r26_.toInt = r26_.toInt) li_4 (lf_c_X12_walker_17 M32_ M41_ M50_ M59_ Mz v u t z21_ r26_ z30_ j34_ z39_ j43_ z48_ j52_ z57_ j61_ h4_ h9_ h14_ e22_ kf23_ h24_ h25_ h29_ h31_ h35_ hM33_ kf38_ h40_ h44_ hM42_ kf47_ h49_ h53_ hM51_ kf56_ h58_ h62_ hM60_ kf65_) (fun z66_ h67_ => ?_)
            refine w_bipush (v := 60) dX12_walker_124 (by decide) ?_
            refine w_iast DD_nd rfl rfl ic_50 (rfl : z66_.toInt = z66_.toInt) (lf_c_X12_walker_18 M32_ M41_ M50_ M59_ Mz v u t z21_ r26_ z30_ j34_ z39_ j43_ z48_ j52_ z57_ j61_ z66_ h4_ h9_ h14_ e22_ kf23_ h24_ h25_ h29_ h31_ h35_ hM33_ kf38_ h40_ h44_ hM42_ kf47_ h49_ h53_ hM51_ kf56_ h58_ h62_ hM60_ kf65_ h67_) dX12_walker_126 (fun j70_ h71_ M68_ hM69_ => ?_)
            have hI72_ := hI63_.put50 hM69_ (lf_c_X12_walker_19 M32_ M41_ M50_ M59_ M68_ Mz v u t z21_ r26_ z30_ j34_ z39_ j43_ z48_ j52_ z57_ j61_ z66_ j70_ h4_ h9_ h14_ e22_ kf23_ h24_ h25_ h29_ h31_ h35_ hM33_ kf38_ h40_ h44_ hM42_ kf47_ h49_ h53_ hM51_ kf56_ h58_ h62_ hM60_ kf65_ h67_ h71_ hM69_)
            have hF73_ := hF64_.put hM69_ (Or.inl ⟨rfl, rfl⟩)
            have kf74_ : (M68_.1 (50, 0, 0) 2).toInt = z21_.toInt := by rw [(show M68_.1 (50, 0, 0) 2 = M59_.1 (50, 0, 0) 2 by rw [hM69_]; exact up_ne (fun q => absurd q.2 (lf_c_X12_walker_20 M32_ M41_ M50_ M59_ M68_ Mz v u t z21_ r26_ z30_ j34_ z39_ j43_ z48_ j52_ z57_ j61_ z66_ j70_ h4_ h9_ h14_ e22_ kf23_ h24_ h25_ h29_ h31_ h35_ hM33_ kf38_ h40_ h44_ hM42_ kf47_ h49_ h53_ hM51_ kf56_ h58_ h62_ hM60_ kf65_ h67_ h71_ hM69_)))]; exact kf65_
            refine w_aload_n dX12_walker_127 rfl 2 rfl ?_
            refine w_getR (c' := (50, 0, 0)) fl_RX12_9 rfl rfl ic_12 dX12_walker_128 rfl ?_
            refine w_iconst (v := 2) dX12_walker_131 (by decide) ?_
            refine w_dup2 dX12_walker_132 rfl rfl ?_
            refine w_ialdL 2 rfl rfl ic_50 li_2 (by decide) dX12_walker_133 (fun z75_ e76_ => ?_)
            have h77_ : z75_.toInt = z21_.toInt := by rw [e76_]; exact kf74_
            have h78_ : 0 ≤ z75_.toInt ∧ z75_.toInt ≤ 8 := pn_2 hI72_ e76_
            refine w_iconst (v := 1) dX12_walker_134 (by decide) ?_
            refine w_iaddB dX12_walker_135 (rfl : z75_.toInt = z75_.toInt) li_1 (lf_c_X12_walker_21 M32_ M41_ M50_ M59_ M68_ Mz v u t z21_ r26_ z30_ j34_ z39_ j43_ z48_ j52_ z57_ j61_ z66_ j70_ z75_ h4_ h9_ h14_ e22_ kf23_ h24_ h25_ h29_ h31_ h35_ hM33_ kf38_ h40_ h44_ hM42_ kf47_ h49_ h53_ hM51_ kf56_ h58_ h62_ hM60_ kf65_ h67_ h71_ hM69_ kf74_ e76_ h77_ h78_) (fun z79_ h80_ => ?_)
            refine w_iastL 2 DD_nd rfl rfl ic_50 li_2 (by decide) dX12_walker_136 (fun M81_ hM82_ => ?_)
            have hI83_ := hI72_.put50 hM82_ (lf_c_X12_walker_22 M32_ M41_ M50_ M59_ M68_ M81_ Mz v u t z21_ r26_ z30_ j34_ z39_ j43_ z48_ j52_ z57_ j61_ z66_ j70_ z75_ z79_ h4_ h9_ h14_ e22_ kf23_ h24_ h25_ h29_ h31_ h35_ hM33_ kf38_ h40_ h44_ hM42_ kf47_ h49_ h53_ hM51_ kf56_ h58_ h62_ hM60_ kf65_ h67_ h71_ hM69_ kf74_ e76_ h77_ h78_ h80_ hM82_)
            have hF84_ := hF73_.put hM82_ (Or.inl ⟨rfl, rfl⟩)
            refine w_iload dX12_walker_137 1 rfl ?_
            exact w_iret rfl dX12_walker_139 ⟨hI83_, hF84_, trivial⟩
          · refine w_aload_n dX12_walker_61 rfl 1 rfl ?_
            refine w_ldc (v := (-1000004)) m_1456 dX12_walker_62 ?_
            refine w_callV (as := [vI (-1000004)]) (rest := []) (c_X12_finding l G cy ad (d + 2) (-1000004) Mz hIz (by first | decide | (unfold vF; omega) | (unfold vRw; omega))) kV_X12_finding (by decide +kernel) (Nat.le_of_ble_eq_true rfl) m_1434 rfl rfl rfl ic_12 rfl rfl (by decide) (Nat.le_of_ble_eq_true rfl) dX12_walker_64 (fun r85_ M86_ q87_ => ?_)
            obtain ⟨hI89_, hF90_, h88_⟩ := q87_
            have hF91_ := hFz.tr hF90_ (fun c k => (fun h => h.elim (fun h => (Or.inr (Or.inl ⟨h.1, h.2⟩))) (fun h => h.elim)))
            have kf92_ : (M86_.1 (50, 0, 0) 2).toInt = z21_.toInt := by rw [(hF90_ (50, 0, 0) 2 (by simp [S_c_X12_finding]))]; exact kf23_
            simp only [li_m1000004] at h88_
            exact w_iret rfl dX12_walker_67 ⟨hI89_, hF91_, trivial⟩
        · refine w_aload_n dX12_walker_39 rfl 0 rfl ?_
          refine w_ldc (v := (-1000003)) m_1455 dX12_walker_40 ?_
          refine w_callV (as := [vI (-1000003)]) (rest := []) (c_X12_finding l G cy ad (d + 2) (-1000003) Mz hIz (by first | decide | (unfold vF; omega) | (unfold vRw; omega))) kV_X12_finding (by decide +kernel) (Nat.le_of_ble_eq_true rfl) m_1434 rfl rfl rfl ic_12 rfl rfl (by decide) (Nat.le_of_ble_eq_true rfl) dX12_walker_42 (fun r93_ M94_ q95_ => ?_)
          obtain ⟨hI97_, hF98_, h96_⟩ := q95_
          have hF99_ := hFz.tr hF98_ (fun c k => (fun h => h.elim (fun h => (Or.inr (Or.inl ⟨h.1, h.2⟩))) (fun h => h.elim)))
          simp only [li_m1000003] at h96_
          exact w_iret rfl dX12_walker_45 ⟨hI97_, hF99_, trivial⟩
      · refine w_if_ne (tgt := 31) dX12_walker_21 (by decide) li_0 (fun h9 => (absurd h9 (by decide))) (fun h100_ => ?_)
        refine w_aload_n dX12_walker_24 rfl 0 rfl ?_
        refine w_ldc (v := (-1000001)) m_1433 dX12_walker_25 ?_
        refine w_callV (as := [vI (-1000001)]) (rest := []) (c_X12_finding l G cy ad (d + 2) (-1000001) Mz hIz (by first | decide | (unfold vF; omega) | (unfold vRw; omega))) kV_X12_finding (by decide +kernel) (Nat.le_of_ble_eq_true rfl) m_1434 rfl rfl rfl ic_12 rfl rfl (by decide) (Nat.le_of_ble_eq_true rfl) dX12_walker_27 (fun r101_ M102_ q103_ => ?_)
        obtain ⟨hI105_, hF106_, h104_⟩ := q103_
        have hF107_ := hFz.tr hF106_ (fun c k => (fun h => h.elim (fun h => (Or.inr (Or.inl ⟨h.1, h.2⟩))) (fun h => h.elim)))
        simp only [li_m1000001] at h104_
        exact w_iret rfl dX12_walker_30 ⟨hI105_, hF107_, trivial⟩
    · refine w_if_eq (tgt := 24) dX12_walker_14 (by decide) li_0 (fun h108_ => ?_) (fun h9 => (absurd h9 (by decide)))
      refine w_aload_n dX12_walker_24 rfl 0 rfl ?_
      refine w_ldc (v := (-1000001)) m_1433 dX12_walker_25 ?_
      refine w_callV (as := [vI (-1000001)]) (rest := []) (c_X12_finding l G cy ad (d + 2) (-1000001) Mz hIz (by first | decide | (unfold vF; omega) | (unfold vRw; omega))) kV_X12_finding (by decide +kernel) (Nat.le_of_ble_eq_true rfl) m_1434 rfl rfl rfl ic_12 rfl rfl (by decide) (Nat.le_of_ble_eq_true rfl) dX12_walker_27 (fun r109_ M110_ q111_ => ?_)
      obtain ⟨hI113_, hF114_, h112_⟩ := q111_
      have hF115_ := hFz.tr hF114_ (fun c k => (fun h => h.elim (fun h => (Or.inr (Or.inl ⟨h.1, h.2⟩))) (fun h => h.elim)))
      simp only [li_m1000001] at h112_
      exact w_iret rfl dX12_walker_30 ⟨hI113_, hF115_, trivial⟩
  · simp only [li_0, li_7] at h4_
    refine w_if_eq (tgt := 24) dX12_walker_7 (by decide) li_0 (fun h116_ => ?_) (fun h9 => (absurd h9 (by decide)))
    refine w_aload_n dX12_walker_24 rfl 0 rfl ?_
    refine w_ldc (v := (-1000001)) m_1433 dX12_walker_25 ?_
    refine w_callV (as := [vI (-1000001)]) (rest := []) (c_X12_finding l G cy ad (d + 2) (-1000001) Mz hIz (by first | decide | (unfold vF; omega) | (unfold vRw; omega))) kV_X12_finding (by decide +kernel) (Nat.le_of_ble_eq_true rfl) m_1434 rfl rfl rfl ic_12 rfl rfl (by decide) (Nat.le_of_ble_eq_true rfl) dX12_walker_27 (fun r117_ M118_ q119_ => ?_)
    obtain ⟨hI121_, hF122_, h120_⟩ := q119_
    have hF123_ := hFz.tr hF122_ (fun c k => (fun h => h.elim (fun h => (Or.inr (Or.inl ⟨h.1, h.2⟩))) (fun h => h.elim)))
    simp only [li_m1000001] at h120_
    exact w_iret rfl dX12_walker_30 ⟨hI121_, hF123_, trivial⟩
theorem lf_c_reach0_0    : (3 : Int32).toInt = 3 := by have r9 := li_3; omega
set_option maxHeartbeats 4000000 in
set_option maxRecDepth 100000 in
theorem c_reach0 (l : Launch) (G : va_G) (cy : Nat → ClassId) (ad : rf → Nat) (d : Nat) (Mz : mM) (hIz : InvD Mz) : WP DD l G cy ad yX12_reachOf cX12_reachOf 1 (some .int) d 0 [(0, vI 0)] [] Mz (fun r M' => Mz = M' ∧ r.toInt = 3) := by
  refine w_iload_n dX12_reachOf_0 rfl 0 rfl ?_
  refine w_tsIn (tgt := 44) (off := 43) dX12_reachOf_1 li_0 (by decide) (by decide) rfl (by decide) ?_
  refine w_iconst (v := 3) dX12_reachOf_44 (by decide) ?_
  exact w_iret rfl dX12_reachOf_45 ⟨rfl, (lf_c_reach0_0 )⟩
theorem lf_c_reach1_0  (r1_ : Int32) (h4_ : r1_.toInt = 3) : -2147483648 ≤ 4 * r1_.toInt ∧ 4 * r1_.toInt < 2147483648 := by have r_r1_ := rngI r1_; omega
theorem lf_c_reach1_1  (r1_ : Int32) (z5_ : Int32) (h4_ : r1_.toInt = 3) (h6_ : z5_.toInt = 4 * r1_.toInt) : z5_.toInt = 12 := by have r_r1_ := rngI r1_; have r_z5_ := rngI z5_; omega
set_option maxHeartbeats 4000000 in
set_option maxRecDepth 100000 in
theorem c_reach1 (l : Launch) (G : va_G) (cy : Nat → ClassId) (ad : rf → Nat) (d : Nat) (Mz : mM) (hIz : InvD Mz) : WP DD l G cy ad yX12_reachOf cX12_reachOf 1 (some .int) (d + 1) 0 [(0, vI 1)] [] Mz (fun r M' => Mz = M' ∧ r.toInt = 12) := by
  refine w_iload_n dX12_reachOf_0 rfl 0 rfl ?_
  refine w_tsIn (tgt := 46) (off := 45) dX12_reachOf_1 li_1 (by decide) (by decide) rfl (by decide) ?_
  refine w_iconst (v := 4) dX12_reachOf_46 (by decide) ?_
  refine w_iconst (v := 0) dX12_reachOf_47 (by decide) ?_
  refine w_callS (as := [vI 0]) (rest := [vI 4]) (c_reach0 l G cy ad d Mz hIz) kS_X12_reachOf (by decide +kernel) (Nat.le_of_ble_eq_true rfl) m_1521 rfl rfl (by decide) (Nat.le_of_ble_eq_true rfl) dX12_reachOf_48 (fun r1_ M2_ q3_ => ?_)
  obtain ⟨rfl, h4_⟩ := q3_
  refine w_imulB dX12_reachOf_51 li_4 (rfl : r1_.toInt = r1_.toInt) (lf_c_reach1_0 r1_ h4_) (fun z5_ h6_ => ?_)
  exact w_iret rfl dX12_reachOf_52 ⟨rfl, (lf_c_reach1_1 r1_ z5_ h4_ h6_)⟩
theorem lf_c_reach3_0  (r1_ : Int32) (h4_ : r1_.toInt = 3) : -2147483648 ≤ 2 * r1_.toInt ∧ 2 * r1_.toInt < 2147483648 := by have r_r1_ := rngI r1_; omega
theorem lf_c_reach3_1  (r1_ : Int32) (z5_ : Int32) (h4_ : r1_.toInt = 3) (h6_ : z5_.toInt = 2 * r1_.toInt) : z5_.toInt = 6 := by have r_r1_ := rngI r1_; have r_z5_ := rngI z5_; omega
set_option maxHeartbeats 4000000 in
set_option maxRecDepth 100000 in
theorem c_reach3 (l : Launch) (G : va_G) (cy : Nat → ClassId) (ad : rf → Nat) (d : Nat) (Mz : mM) (hIz : InvD Mz) : WP DD l G cy ad yX12_reachOf cX12_reachOf 1 (some .int) (d + 1) 0 [(0, vI 3)] [] Mz (fun r M' => Mz = M' ∧ r.toInt = 6) := by
  refine w_iload_n dX12_reachOf_0 rfl 0 rfl ?_
  refine w_tsIn (tgt := 55) (off := 54) dX12_reachOf_1 li_3 (by decide) (by decide) rfl (by decide) ?_
  refine w_iconst (v := 2) dX12_reachOf_55 (by decide) ?_
  refine w_iconst (v := 0) dX12_reachOf_56 (by decide) ?_
  refine w_callS (as := [vI 0]) (rest := [vI 2]) (c_reach0 l G cy ad d Mz hIz) kS_X12_reachOf (by decide +kernel) (Nat.le_of_ble_eq_true rfl) m_1521 rfl rfl (by decide) (Nat.le_of_ble_eq_true rfl) dX12_reachOf_57 (fun r1_ M2_ q3_ => ?_)
  obtain ⟨rfl, h4_⟩ := q3_
  refine w_imulB dX12_reachOf_60 li_2 (rfl : r1_.toInt = r1_.toInt) (lf_c_reach3_0 r1_ h4_) (fun z5_ h6_ => ?_)
  exact w_iret rfl dX12_reachOf_61 ⟨rfl, (lf_c_reach3_1 r1_ z5_ h4_ h6_)⟩
theorem lf_c_X12_reachOf_0  (v : Int32)  : v.toInt = 0 ∨ v.toInt = 1 ∨ v.toInt = 2 ∨ v.toInt = 3 ∨ v.toInt = 4 ∨ v.toInt = 5 ∨ v.toInt = 6 ∨ (¬ v.toInt = 0 ∧ ¬ v.toInt = 1 ∧ ¬ v.toInt = 2 ∧ ¬ v.toInt = 3 ∧ ¬ v.toInt = 4 ∧ ¬ v.toInt = 5 ∧ ¬ v.toInt = 6) := by have r_v := rngI v; omega
theorem lf_c_X12_reachOf_1    : 0 ≤ (3 : Int32).toInt ∧ (3 : Int32).toInt ≤ 12 := by have r9 := li_3; omega
theorem lf_c_X12_reachOf_2  (r2_ : Int32) (h5_ : r2_.toInt = 3) : -2147483648 ≤ 4 * r2_.toInt ∧ 4 * r2_.toInt < 2147483648 := by have r_r2_ := rngI r2_; omega
theorem lf_c_X12_reachOf_3  (r2_ : Int32) (z6_ : Int32) (h5_ : r2_.toInt = 3) (h7_ : z6_.toInt = 4 * r2_.toInt) : 0 ≤ z6_.toInt ∧ z6_.toInt ≤ 12 := by have r_r2_ := rngI r2_; have r_z6_ := rngI z6_; omega
theorem lf_c_X12_reachOf_4    : 0 ≤ (1 : Int32).toInt ∧ (1 : Int32).toInt ≤ 12 := by have r9 := li_1; omega
theorem lf_c_X12_reachOf_5  (r8_ : Int32) (h11_ : r8_.toInt = 3) : -2147483648 ≤ 2 * r8_.toInt ∧ 2 * r8_.toInt < 2147483648 := by have r_r8_ := rngI r8_; omega
theorem lf_c_X12_reachOf_6  (r8_ : Int32) (z12_ : Int32) (h11_ : r8_.toInt = 3) (h13_ : z12_.toInt = 2 * r8_.toInt) : 0 ≤ z12_.toInt ∧ z12_.toInt ≤ 12 := by have r_r8_ := rngI r8_; have r_z12_ := rngI z12_; omega
theorem lf_c_X12_reachOf_7    : 0 ≤ (0 : Int32).toInt ∧ (0 : Int32).toInt ≤ 12 := by have r9 := li_0; omega
theorem lf_c_X12_reachOf_8  (r14_ : Int32) (h17_ : r14_.toInt = 12) : 0 ≤ r14_.toInt := by have r_r14_ := rngI r14_; omega
theorem lf_c_X12_reachOf_9  (r14_ : Int32) (z18_ : Int32) (h17_ : r14_.toInt = 12) (h19_ : z18_.toInt = r14_.toInt / 2) : 0 ≤ z18_.toInt ∧ z18_.toInt ≤ 12 := by have r_r14_ := rngI r14_; have r_z18_ := rngI z18_; omega
theorem lf_c_X12_reachOf_10  (r20_ : Int32) (h23_ : r20_.toInt = 6) : -2147483648 ≤ r20_.toInt - 1 ∧ r20_.toInt - 1 < 2147483648 := by have r_r20_ := rngI r20_; omega
theorem lf_c_X12_reachOf_11  (r20_ : Int32) (z24_ : Int32) (h23_ : r20_.toInt = 6) (h25_ : z24_.toInt = r20_.toInt - 1) : 0 ≤ z24_.toInt ∧ z24_.toInt ≤ 12 := by have r_r20_ := rngI r20_; have r_z24_ := rngI z24_; omega
theorem lf_c_X12_reachOf_12  (v : Int32) (e1_ : (¬ v.toInt = 0 ∧ ¬ v.toInt = 1 ∧ ¬ v.toInt = 2 ∧ ¬ v.toInt = 3 ∧ ¬ v.toInt = 4 ∧ ¬ v.toInt = 5 ∧ ¬ v.toInt = 6)) : v.toInt < 0 ∨ 6 < v.toInt := by have r_v := rngI v; omega
theorem lf_c_X12_reachOf_13  (r26_ : Int32) (h29_ : r26_.toInt = 12) : -2147483648 ≤ r26_.toInt - 2 ∧ r26_.toInt - 2 < 2147483648 := by have r_r26_ := rngI r26_; omega
theorem lf_c_X12_reachOf_14  (r26_ : Int32) (z30_ : Int32) (h29_ : r26_.toInt = 12) (h31_ : z30_.toInt = r26_.toInt - 2) : 0 ≤ z30_.toInt ∧ z30_.toInt ≤ 12 := by have r_r26_ := rngI r26_; have r_z30_ := rngI z30_; omega
set_option maxHeartbeats 4000000 in
set_option maxRecDepth 100000 in
theorem c_X12_reachOf (l : Launch) (G : va_G) (cy : Nat → ClassId) (ad : rf → Nat) (d : Nat) (v : Int32) (Mz : mM) (hIz : InvD Mz) : WP DD l G cy ad yX12_reachOf cX12_reachOf 1 (some .int) (d + 2) 0 [(0, vI v)] [] Mz (fun r M' => Mz = M' ∧ 0 ≤ r.toInt ∧ r.toInt ≤ 12) := by
  refine w_iload_n dX12_reachOf_0 rfl 0 rfl ?_
  rcases (lf_c_X12_reachOf_0 v) with e1_ | e1_ | e1_ | e1_ | e1_ | e1_ | e1_ | e1_
  · refine w_tsIn (tgt := 44) (off := 43) dX12_reachOf_1 e1_ (by decide) (by decide) rfl (by decide) ?_
    refine w_iconst (v := 3) dX12_reachOf_44 (by decide) ?_
    exact w_iret rfl dX12_reachOf_45 ⟨rfl, (lf_c_X12_reachOf_1 )⟩
  · refine w_tsIn (tgt := 46) (off := 45) dX12_reachOf_1 e1_ (by decide) (by decide) rfl (by decide) ?_
    refine w_iconst (v := 4) dX12_reachOf_46 (by decide) ?_
    refine w_iconst (v := 0) dX12_reachOf_47 (by decide) ?_
    refine w_callS (as := [vI 0]) (rest := [vI 4]) (c_reach0 l G cy ad (d + 1) Mz hIz) kS_X12_reachOf (by decide +kernel) (Nat.le_of_ble_eq_true rfl) m_1521 rfl rfl (by decide) (Nat.le_of_ble_eq_true rfl) dX12_reachOf_48 (fun r2_ M3_ q4_ => ?_)
    obtain ⟨rfl, h5_⟩ := q4_
    refine w_imulB dX12_reachOf_51 li_4 (rfl : r2_.toInt = r2_.toInt) (lf_c_X12_reachOf_2 r2_ h5_) (fun z6_ h7_ => ?_)
    exact w_iret rfl dX12_reachOf_52 ⟨rfl, (lf_c_X12_reachOf_3 r2_ z6_ h5_ h7_)⟩
  · refine w_tsIn (tgt := 53) (off := 52) dX12_reachOf_1 e1_ (by decide) (by decide) rfl (by decide) ?_
    refine w_iconst (v := 1) dX12_reachOf_53 (by decide) ?_
    exact w_iret rfl dX12_reachOf_54 ⟨rfl, (lf_c_X12_reachOf_4 )⟩
  · refine w_tsIn (tgt := 55) (off := 54) dX12_reachOf_1 e1_ (by decide) (by decide) rfl (by decide) ?_
    refine w_iconst (v := 2) dX12_reachOf_55 (by decide) ?_
    refine w_iconst (v := 0) dX12_reachOf_56 (by decide) ?_
    refine w_callS (as := [vI 0]) (rest := [vI 2]) (c_reach0 l G cy ad (d + 1) Mz hIz) kS_X12_reachOf (by decide +kernel) (Nat.le_of_ble_eq_true rfl) m_1521 rfl rfl (by decide) (Nat.le_of_ble_eq_true rfl) dX12_reachOf_57 (fun r8_ M9_ q10_ => ?_)
    obtain ⟨rfl, h11_⟩ := q10_
    refine w_imulB dX12_reachOf_60 li_2 (rfl : r8_.toInt = r8_.toInt) (lf_c_X12_reachOf_5 r8_ h11_) (fun z12_ h13_ => ?_)
    exact w_iret rfl dX12_reachOf_61 ⟨rfl, (lf_c_X12_reachOf_6 r8_ z12_ h11_ h13_)⟩
  · refine w_tsIn (tgt := 62) (off := 61) dX12_reachOf_1 e1_ (by decide) (by decide) rfl (by decide) ?_
    refine w_iconst (v := 0) dX12_reachOf_62 (by decide) ?_
    exact w_iret rfl dX12_reachOf_63 ⟨rfl, (lf_c_X12_reachOf_7 )⟩
  · refine w_tsIn (tgt := 64) (off := 63) dX12_reachOf_1 e1_ (by decide) (by decide) rfl (by decide) ?_
    refine w_iconst (v := 1) dX12_reachOf_64 (by decide) ?_
    refine w_callS (as := [vI 1]) (rest := []) (c_reach1 l G cy ad d Mz hIz) kS_X12_reachOf (by decide +kernel) (Nat.le_of_ble_eq_true rfl) m_1521 rfl rfl (by decide) (Nat.le_of_ble_eq_true rfl) dX12_reachOf_65 (fun r14_ M15_ q16_ => ?_)
    obtain ⟨rfl, h17_⟩ := q16_
    refine w_iconst (v := 2) dX12_reachOf_68 (by decide) ?_
    refine w_idivB dX12_reachOf_69 (by decide) (rfl : r14_.toInt = r14_.toInt) li_2 (lf_c_X12_reachOf_8 r14_ h17_) (by decide) (fun z18_ h19_ => ?_)
    exact w_iret rfl dX12_reachOf_70 ⟨rfl, (lf_c_X12_reachOf_9 r14_ z18_ h17_ h19_)⟩
  · refine w_tsIn (tgt := 71) (off := 70) dX12_reachOf_1 e1_ (by decide) (by decide) rfl (by decide) ?_
    refine w_iconst (v := 3) dX12_reachOf_71 (by decide) ?_
    refine w_callS (as := [vI 3]) (rest := []) (c_reach3 l G cy ad d Mz hIz) kS_X12_reachOf (by decide +kernel) (Nat.le_of_ble_eq_true rfl) m_1521 rfl rfl (by decide) (Nat.le_of_ble_eq_true rfl) dX12_reachOf_72 (fun r20_ M21_ q22_ => ?_)
    obtain ⟨rfl, h23_⟩ := q22_
    refine w_iconst (v := 1) dX12_reachOf_75 (by decide) ?_
    refine w_isubB dX12_reachOf_76 (rfl : r20_.toInt = r20_.toInt) li_1 (lf_c_X12_reachOf_10 r20_ h23_) (fun z24_ h25_ => ?_)
    exact w_iret rfl dX12_reachOf_77 ⟨rfl, (lf_c_X12_reachOf_11 r20_ z24_ h23_ h25_)⟩
  · refine w_tsOut (tgt := 78) dX12_reachOf_1 rfl (lf_c_X12_reachOf_12 v e1_) (by decide) ?_
    refine w_iconst (v := 1) dX12_reachOf_78 (by decide) ?_
    refine w_callS (as := [vI 1]) (rest := []) (c_reach1 l G cy ad d Mz hIz) kS_X12_reachOf (by decide +kernel) (Nat.le_of_ble_eq_true rfl) m_1521 rfl rfl (by decide) (Nat.le_of_ble_eq_true rfl) dX12_reachOf_79 (fun r26_ M27_ q28_ => ?_)
    obtain ⟨rfl, h29_⟩ := q28_
    refine w_iconst (v := 2) dX12_reachOf_82 (by decide) ?_
    refine w_isubB dX12_reachOf_83 (rfl : r26_.toInt = r26_.toInt) li_2 (lf_c_X12_reachOf_13 r26_ h29_) (fun z30_ h31_ => ?_)
    exact w_iret rfl dX12_reachOf_84 ⟨rfl, (lf_c_X12_reachOf_14 r26_ z30_ h29_ h31_)⟩
theorem lf_c_X12_isUnder_0  (v2_2 : Int32) (h2_ : v2_2.toInt < 0) (h9 : 0 ≤ v2_2.toInt) : False := by have r_v2_2 := rngI v2_2; omega
theorem lf_c_X12_isUnder_1  (u : Int32) (v2_2 : Int32) (h2_ : 0 ≤ v2_2.toInt) (h4_ : v2_2.toInt = u.toInt) (h9 : v2_2.toInt < 0) : False := by have r_u := rngI u; have r_v2_2 := rngI v2_2; omega
theorem lf_c_X12_isUnder_2  (u : Int32) (v2_2 : Int32) (r6_ : Int32) (h2_ : 0 ≤ v2_2.toInt) (h4_ : ¬ v2_2.toInt = u.toInt) (h9_ : -1 ≤ r6_.toInt ∧ r6_.toInt ≤ 3 ∧ (0 ≤ v2_2.toInt → r6_.toInt < v2_2.toInt)) : (r6_.toInt + 1).toNat < (v2_2.toInt + 1).toNat := by have r_u := rngI u; have r_v2_2 := rngI v2_2; have r_r6_ := rngI r6_; omega
set_option maxHeartbeats 4000000 in
set_option maxRecDepth 100000 in
theorem c_X12_isUnder (l : Launch) (G : va_G) (cy : Nat → ClassId) (ad : rf → Nat) (d : Nat) (v : Int32) (u : Int32) (Mz : mM) (hIz : InvD Mz) : WP DD l G cy ad yX12_isUnder cX12_isUnder 3 (some .boolean) (d + 1) 0 [(0, vI v), (1, vI u)] [] Mz (fun r M' => Mz = M' ∧ (0 ≤ r.toInt ∧ r.toInt ≤ 1)) := by
  refine w_iload_n dX12_isUnder_0 rfl 0 rfl ?_
  refine w_istore_n (ls' := [(2, vI v), (0, vI v), (1, vI u)]) dX12_isUnder_1 rfl (by decide) rfl ?_
  have lp1_ : ∀ (nn_2 : Nat) (v2_2 : Int32), (v2_2.toInt + 1).toNat < nn_2 → WP DD l G cy ad yX12_isUnder cX12_isUnder 3 (some .boolean) (d + 1) 2 [(2, vI v2_2), (0, vI v), (1, vI u)] [] Mz (fun r M' => Mz = M' ∧ (0 ≤ r.toInt ∧ r.toInt ≤ 1)) := by
    intro nn_2
    induction nn_2 with
    | zero => intro v2_2 hm_2; exact absurd hm_2 (Nat.not_lt_zero _)
    | succ nn_2 ih_2 =>
      intro v2_2 hm_2
      refine w_iload_n dX12_isUnder_2 rfl 0 rfl ?_
      refine w_if_lt (tgt := 19) dX12_isUnder_3 (by decide) (rfl : v2_2.toInt = v2_2.toInt) (fun h2_ => ?_) (fun h2_ => ?_)
      · refine w_iload_n dX12_isUnder_19 rfl 0 rfl ?_
        refine w_if_lt (tgt := 27) dX12_isUnder_20 (by decide) (rfl : v2_2.toInt = v2_2.toInt) (fun h3_ => ?_) (fun h9 => (lf_c_X12_isUnder_0 v2_2 h2_ h9).elim)
        refine w_iconst (v := 0) dX12_isUnder_27 (by decide) ?_
        exact w_zret rfl dX12_isUnder_28 ⟨by decide, by decide⟩ ⟨rfl, ⟨by decide, by decide⟩⟩
      · refine w_iload_n dX12_isUnder_6 rfl 0 rfl ?_
        refine w_iload_n dX12_isUnder_7 rfl 2 rfl ?_
        refine w_icmp_eq (tgt := 19) dX12_isUnder_8 (by decide) (rfl : v2_2.toInt = v2_2.toInt) (rfl : u.toInt = u.toInt) (fun h4_ => ?_) (fun h4_ => ?_)
        · refine w_iload_n dX12_isUnder_19 rfl 0 rfl ?_
          refine w_if_lt (tgt := 27) dX12_isUnder_20 (by decide) (rfl : v2_2.toInt = v2_2.toInt) (fun h9 => (lf_c_X12_isUnder_1 u v2_2 h2_ h4_ h9).elim) (fun h5_ => ?_)
          refine w_iconst (v := 1) dX12_isUnder_23 (by decide) ?_
          refine w_goto (tgt := 28) dX12_isUnder_24 (by decide) ?_
          exact w_zret rfl dX12_isUnder_28 ⟨by decide, by decide⟩ ⟨rfl, ⟨by decide, by decide⟩⟩
        · refine w_iload_n dX12_isUnder_11 rfl 0 rfl ?_
          refine w_callS (as := [vI v2_2]) (rest := []) (c_X12_above l G cy ad d v2_2 Mz hIz) kS_X12_above (by decide +kernel) (Nat.le_of_ble_eq_true rfl) m_1535 rfl rfl (by decide) (Nat.le_of_ble_eq_true rfl) dX12_isUnder_12 (fun r6_ M7_ q8_ => ?_)
          obtain ⟨rfl, h9_⟩ := q8_
          refine w_istore_n (ls' := [(2, vI r6_), (0, vI v), (1, vI u)]) dX12_isUnder_15 rfl (by decide) rfl ?_
          refine w_goto (tgt := 2) dX12_isUnder_16 (by decide) ?_
          refine w_loc (ls' := [(2, vI r6_), (0, vI v), (1, vI u)]) [0, 1, 2] rfl ?_
          exact ih_2 r6_ (Nat.lt_of_lt_of_le (lf_c_X12_isUnder_2 u v2_2 r6_ h2_ h4_ h9_) (Nat.le_of_lt_succ hm_2))
  exact lp1_ _ v (Nat.lt_succ_self _)
theorem lf_c_X12_kindOf_0  (v : Int32) (r1_ : Int32) (hv : 0 ≤ v.toInt ∧ v.toInt ≤ 7) (h4_ : r1_.toInt = 180 + 9 * v.toInt) : -2147483648 ≤ r1_.toInt + 0 ∧ r1_.toInt + 0 < 2147483648 := by have r_v := rngI v; have r_r1_ := rngI r1_; omega
theorem lf_c_X12_kindOf_1  (v : Int32) (r1_ : Int32) (z5_ : Int32) (hv : 0 ≤ v.toInt ∧ v.toInt ≤ 7) (h4_ : r1_.toInt = 180 + 9 * v.toInt) (h6_ : z5_.toInt = r1_.toInt + 0) : 0 ≤ z5_.toInt ∧ z5_.toInt < ((3567 : Nat) : Int) := by have r_v := rngI v; have r_r1_ := rngI r1_; have r_z5_ := rngI z5_; omega
theorem lf_c_X12_kindOf_2 (Mz : mM) (v : Int32) (r1_ : Int32) (z5_ : Int32) (j9_ : Nat) (z7_ : Int32) (hv : 0 ≤ v.toInt ∧ v.toInt ≤ 7) (h4_ : r1_.toInt = 180 + 9 * v.toInt) (h6_ : z5_.toInt = r1_.toInt + 0) (h10_ : (j9_ : Int) = z5_.toInt) (e8_ : z7_ = Mz.1 (50, 0, 0) j9_) : 180 ≤ j9_ ∧ j9_ < 252 ∧ j9_ % 9 = 0 := by have r_v := rngI v; have r_r1_ := rngI r1_; have r_z5_ := rngI z5_; have r_z7_ := rngI z7_; subst e8_; omega
set_option maxHeartbeats 4000000 in
set_option maxRecDepth 100000 in
theorem c_X12_kindOf (l : Launch) (G : va_G) (cy : Nat → ClassId) (ad : rf → Nat) (d : Nat) (v : Int32) (Mz : mM) (hIz : InvD Mz) (hv : 0 ≤ v.toInt ∧ v.toInt ≤ 7) : WP DD l G cy ad yX12_kindOf cX12_kindOf 2 (some .int) (d + 1) 0 [(0, vR (12, 0, 0)), (1, vI v)] [] Mz (fun r M' => Mz = M' ∧ 0 ≤ r.toInt ∧ r.toInt ≤ 7) := by
  refine w_aload_n dX12_kindOf_0 rfl 0 rfl ?_
  refine w_getR (c' := (50, 0, 0)) fl_RX12_9 rfl rfl ic_12 dX12_kindOf_1 rfl ?_
  refine w_aload_n dX12_kindOf_4 rfl 0 rfl ?_
  refine w_iload_n dX12_kindOf_5 rfl 1 rfl ?_
  refine w_callV (as := [vI v]) (rest := [vR (50, 0, 0)]) (c_X12_goer l G cy ad d v Mz hIz hv) kV_X12_goer (by decide +kernel) (Nat.le_of_ble_eq_true rfl) m_1451 rfl rfl rfl ic_12 rfl rfl (by decide) (Nat.le_of_ble_eq_true rfl) dX12_kindOf_6 (fun r1_ M2_ q3_ => ?_)
  obtain ⟨rfl, h4_⟩ := q3_
  refine w_iconst (v := 0) dX12_kindOf_9 (by decide) ?_
  refine w_iaddB dX12_kindOf_10 (rfl : r1_.toInt = r1_.toInt) li_0 (lf_c_X12_kindOf_0 v r1_ hv h4_) (fun z5_ h6_ => ?_)
  refine w_iald rfl rfl ic_50 (rfl : z5_.toInt = z5_.toInt) (lf_c_X12_kindOf_1 v r1_ z5_ hv h4_ h6_) dX12_kindOf_11 (fun j9_ h10_ z7_ e8_ => ?_)
  have h11_ : 0 ≤ z7_.toInt ∧ z7_.toInt ≤ 7 := pn_wk hIz e8_ (lf_c_X12_kindOf_2 Mz v r1_ z5_ j9_ z7_ hv h4_ h6_ h10_ e8_)
  exact w_iret rfl dX12_kindOf_12 ⟨rfl, h11_⟩
set_option maxHeartbeats 4000000 in
set_option maxRecDepth 100000 in
theorem c_X12_reach (l : Launch) (G : va_G) (cy : Nat → ClassId) (ad : rf → Nat) (d : Nat) (v : Int32) (Mz : mM) (hIz : InvD Mz) (hv : 0 ≤ v.toInt ∧ v.toInt ≤ 7) : WP DD l G cy ad yX12_reach cX12_reach 2 (some .int) (d + 3) 0 [(0, vR (12, 0, 0)), (1, vI v)] [] Mz (fun r M' => Mz = M' ∧ 0 ≤ r.toInt ∧ r.toInt ≤ 12) := by
  refine w_aload_n dX12_reach_0 rfl 0 rfl ?_
  refine w_iload_n dX12_reach_1 rfl 1 rfl ?_
  refine w_callV (as := [vI v]) (rest := []) (c_X12_kindOf l G cy ad (d + 1) v Mz hIz hv) kV_X12_kindOf (by decide +kernel) (Nat.le_of_ble_eq_true rfl) m_1517 rfl rfl rfl ic_12 rfl rfl (by decide) (Nat.le_of_ble_eq_true rfl) dX12_reach_2 (fun r1_ M2_ q3_ => ?_)
  obtain ⟨rfl, h4_⟩ := q3_
  refine w_callS (as := [vI r1_]) (rest := []) (c_X12_reachOf l G cy ad d r1_ Mz hIz) kS_X12_reachOf (by decide +kernel) (Nat.le_of_ble_eq_true rfl) m_1521 rfl rfl (by decide) (Nat.le_of_ble_eq_true rfl) dX12_reach_5 (fun r5_ M6_ q7_ => ?_)
  obtain ⟨rfl, h8_⟩ := q7_
  exact w_iret rfl dX12_reach_8 ⟨rfl, h8_⟩
theorem lf_c_X12_ears_0    : 0 ≤ (9 : Int32).toInt ∧ (9 : Int32).toInt ≤ 9 := by have r9 := li_9; omega
theorem lf_c_X12_ears_1    : 0 ≤ (5 : Int32).toInt ∧ (5 : Int32).toInt ≤ 9 := by have r9 := li_5; omega
set_option maxHeartbeats 4000000 in
set_option maxRecDepth 100000 in
theorem c_X12_ears (l : Launch) (G : va_G) (cy : Nat → ClassId) (ad : rf → Nat) (d : Nat) (v : Int32) (Mz : mM) (hIz : InvD Mz) (hv : 0 ≤ v.toInt ∧ v.toInt ≤ 7) : WP DD l G cy ad yX12_ears cX12_ears 2 (some .int) (d + 2) 0 [(0, vR (12, 0, 0)), (1, vI v)] [] Mz (fun r M' => Mz = M' ∧ 0 ≤ r.toInt ∧ r.toInt ≤ 9) := by
  refine w_aload_n dX12_ears_0 rfl 0 rfl ?_
  refine w_iload_n dX12_ears_1 rfl 1 rfl ?_
  refine w_callV (as := [vI v]) (rest := []) (c_X12_kindOf l G cy ad d v Mz hIz hv) kV_X12_kindOf (by decide +kernel) (Nat.le_of_ble_eq_true rfl) m_1517 rfl rfl rfl ic_12 rfl rfl (by decide) (Nat.le_of_ble_eq_true rfl) dX12_ears_2 (fun r1_ M2_ q3_ => ?_)
  obtain ⟨rfl, h4_⟩ := q3_
  refine w_bipush (v := 6) dX12_ears_5 (by decide) ?_
  refine w_icmp_ne (tgt := 14) dX12_ears_7 (by decide) (rfl : r1_.toInt = r1_.toInt) li_6 (fun h5_ => ?_) (fun h5_ => ?_)
  · refine w_bipush (v := 9) dX12_ears_14 (by decide) ?_
    exact w_iret rfl dX12_ears_16 ⟨rfl, (lf_c_X12_ears_0 )⟩
  · refine w_iconst (v := 5) dX12_ears_10 (by decide) ?_
    refine w_goto (tgt := 16) dX12_ears_11 (by decide) ?_
    exact w_iret rfl dX12_ears_16 ⟨rfl, (lf_c_X12_ears_1 )⟩
def S_c_X12_walkerIs : rf → Nat → Prop := fun c k => (c.1 = 53 ∧ c.2.1 = 0) ∨ False
theorem lf_c_X12_walkerIs_0  (v : Int32) (u : Int32) (r27_ : Int32) (h4_ : 0 ≤ v.toInt ∧ v.toInt ≤ 7) (h9_ : 0 ≤ u.toInt ∧ u.toInt ≤ 11) (h11_ : u.toInt < 9) (h30_ : r27_.toInt = 180 + 9 * v.toInt) : -2147483648 ≤ r27_.toInt + u.toInt ∧ r27_.toInt + u.toInt < 2147483648 := by have r_v := rngI v; have r_u := rngI u; have r_r27_ := rngI r27_; omega
theorem lf_c_X12_walkerIs_1  (v : Int32) (u : Int32) (r27_ : Int32) (z31_ : Int32) (h4_ : 0 ≤ v.toInt ∧ v.toInt ≤ 7) (h9_ : 0 ≤ u.toInt ∧ u.toInt ≤ 11) (h11_ : u.toInt < 9) (h30_ : r27_.toInt = 180 + 9 * v.toInt) (h32_ : z31_.toInt = r27_.toInt + u.toInt) : 0 ≤ z31_.toInt ∧ z31_.toInt < ((3567 : Nat) : Int) := by have r_v := rngI v; have r_u := rngI u; have r_r27_ := rngI r27_; have r_z31_ := rngI z31_; omega
set_option maxHeartbeats 4000000 in
set_option maxRecDepth 100000 in
theorem c_X12_walkerIs (l : Launch) (G : va_G) (cy : Nat → ClassId) (ad : rf → Nat) (d : Nat) (v : Int32) (u : Int32) (Mz : mM) (hIz : InvD Mz) : WP DD l G cy ad yX12_walkerIs cX12_walkerIs 3 (some .int) (d + 4) 0 [(0, vR (12, 0, 0)), (1, vI v), (2, vI u)] [] Mz (fun r M' => InvD M' ∧ FR (S_c_X12_walkerIs) Mz M' ∧ True) := by
  have hFz : FR (S_c_X12_walkerIs) Mz Mz := FR.self
  refine w_aload_n dX12_walkerIs_0 rfl 0 rfl ?_
  refine w_iload_n dX12_walkerIs_1 rfl 1 rfl ?_
  refine w_iconst (v := 2) dX12_walkerIs_2 (by decide) ?_
  refine w_callV (as := [vI v, vI 2]) (rest := []) (c_is2 l G cy ad (d + 2) v Mz hIz) kV_X12_is (by decide +kernel) (Nat.le_of_ble_eq_true rfl) m_1465 rfl rfl rfl ic_12 rfl rfl (by decide) (Nat.le_of_ble_eq_true rfl) dX12_walkerIs_3 (fun r1_ M2_ q3_ => ?_)
  obtain ⟨rfl, h4_⟩ := q3_
  rcases h4_ with ⟨rfl, h4_⟩ | rfl
  · refine w_if_eq (tgt := 19) dX12_walkerIs_6 (by decide) li_1 (fun h9 => (absurd h9 (by decide))) (fun h5_ => ?_)
    refine w_iload_n dX12_walkerIs_9 rfl 2 rfl ?_
    refine w_iconst (v := 0) dX12_walkerIs_10 (by decide) ?_
    refine w_bipush (v := 11) dX12_walkerIs_11 (by decide) ?_
    refine w_callS (as := [vI u, vI 0, vI 11]) (rest := []) (c_X12_within l G cy ad (d + 3) u 0 11 Mz hIz) kS_X12_within (by decide +kernel) (Nat.le_of_ble_eq_true rfl) m_1427 rfl rfl (by decide) (Nat.le_of_ble_eq_true rfl) dX12_walkerIs_13 (fun r6_ M7_ q8_ => ?_)
    obtain ⟨rfl, h9_⟩ := q8_
    rcases h9_ with ⟨rfl, h9_⟩ | ⟨rfl, h9_⟩
    · simp only [li_0, li_11] at h9_
      refine w_if_ne (tgt := 26) dX12_walkerIs_16 (by decide) li_1 (fun h10_ => ?_) (fun h9 => (absurd h9 (by decide)))
      refine w_iload_n dX12_walkerIs_26 rfl 2 rfl ?_
      refine w_bipush (v := 9) dX12_walkerIs_27 (by decide) ?_
      refine w_icmp_ge (tgt := 47) dX12_walkerIs_29 (by decide) (rfl : u.toInt = u.toInt) li_9 (fun h11_ => ?_) (fun h11_ => ?_)
      · refine w_iload_n dX12_walkerIs_47 rfl 2 rfl ?_
        refine w_bipush (v := 9) dX12_walkerIs_48 (by decide) ?_
        refine w_icmp_ne (tgt := 61) dX12_walkerIs_50 (by decide) (rfl : u.toInt = u.toInt) li_9 (fun h12_ => ?_) (fun h12_ => ?_)
        · refine w_iload_n dX12_walkerIs_61 rfl 2 rfl ?_
          refine w_bipush (v := 11) dX12_walkerIs_62 (by decide) ?_
          refine w_icmp_ne (tgt := 75) dX12_walkerIs_64 (by decide) (rfl : u.toInt = u.toInt) li_11 (fun h13_ => ?_) (fun h13_ => ?_)
          · refine w_aload_n dX12_walkerIs_75 rfl 0 rfl ?_
            refine w_iload_n dX12_walkerIs_76 rfl 1 rfl ?_
            refine w_callV (as := [vI v]) (rest := []) (c_X12_kindOf l G cy ad (d + 2) v Mz hIz h4_) kV_X12_kindOf (by decide +kernel) (Nat.le_of_ble_eq_true rfl) m_1517 rfl rfl rfl ic_12 rfl rfl (by decide) (Nat.le_of_ble_eq_true rfl) dX12_walkerIs_77 (fun r14_ M15_ q16_ => ?_)
            obtain ⟨rfl, h17_⟩ := q16_
            refine w_bipush (v := 7) dX12_walkerIs_80 (by decide) ?_
            refine w_icmp_ne (tgt := 89) dX12_walkerIs_82 (by decide) (rfl : r14_.toInt = r14_.toInt) li_7 (fun h18_ => ?_) (fun h18_ => ?_)
            · refine w_iconst (v := 1) dX12_walkerIs_89 (by decide) ?_
              exact w_iret rfl dX12_walkerIs_90 ⟨hIz, hFz, trivial⟩
            · refine w_iconst (v := 2) dX12_walkerIs_85 (by decide) ?_
              refine w_goto (tgt := 90) dX12_walkerIs_86 (by decide) ?_
              exact w_iret rfl dX12_walkerIs_90 ⟨hIz, hFz, trivial⟩
          · refine w_aload_n dX12_walkerIs_67 rfl 0 rfl ?_
            refine w_iload_n dX12_walkerIs_68 rfl 1 rfl ?_
            refine w_callV (as := [vI v]) (rest := []) (c_X12_ears l G cy ad (d + 1) v Mz hIz h4_) kV_X12_ears (by decide +kernel) (Nat.le_of_ble_eq_true rfl) m_1524 rfl rfl rfl ic_12 rfl rfl (by decide) (Nat.le_of_ble_eq_true rfl) dX12_walkerIs_69 (fun r19_ M20_ q21_ => ?_)
            obtain ⟨rfl, h22_⟩ := q21_
            refine w_goto (tgt := 90) dX12_walkerIs_72 (by decide) ?_
            exact w_iret rfl dX12_walkerIs_90 ⟨hIz, hFz, trivial⟩
        · refine w_aload_n dX12_walkerIs_53 rfl 0 rfl ?_
          refine w_iload_n dX12_walkerIs_54 rfl 1 rfl ?_
          refine w_callV (as := [vI v]) (rest := []) (c_X12_reach l G cy ad d v Mz hIz h4_) kV_X12_reach (by decide +kernel) (Nat.le_of_ble_eq_true rfl) m_1513 rfl rfl rfl ic_12 rfl rfl (by decide) (Nat.le_of_ble_eq_true rfl) dX12_walkerIs_55 (fun r23_ M24_ q25_ => ?_)
          obtain ⟨rfl, h26_⟩ := q25_
          refine w_goto (tgt := 90) dX12_walkerIs_58 (by decide) ?_
          exact w_iret rfl dX12_walkerIs_90 ⟨hIz, hFz, trivial⟩
      · refine w_aload_n dX12_walkerIs_32 rfl 0 rfl ?_
        refine w_getR (c' := (50, 0, 0)) fl_RX12_9 rfl rfl ic_12 dX12_walkerIs_33 rfl ?_
        refine w_aload_n dX12_walkerIs_36 rfl 0 rfl ?_
        refine w_iload_n dX12_walkerIs_37 rfl 1 rfl ?_
        refine w_callV (as := [vI v]) (rest := [vR (50, 0, 0)]) (c_X12_goer l G cy ad (d + 3) v Mz hIz h4_) kV_X12_goer (by decide +kernel) (Nat.le_of_ble_eq_true rfl) m_1451 rfl rfl rfl ic_12 rfl rfl (by decide) (Nat.le_of_ble_eq_true rfl) dX12_walkerIs_38 (fun r27_ M28_ q29_ => ?_)
        obtain ⟨rfl, h30_⟩ := q29_
        refine w_iload_n dX12_walkerIs_41 rfl 2 rfl ?_
        refine w_iaddB dX12_walkerIs_42 (rfl : r27_.toInt = r27_.toInt) (rfl : u.toInt = u.toInt) (lf_c_X12_walkerIs_0 v u r27_ h4_ h9_ h11_ h30_) (fun z31_ h32_ => ?_)
        refine w_iald rfl rfl ic_50 (rfl : z31_.toInt = z31_.toInt) (lf_c_X12_walkerIs_1 v u r27_ z31_ h4_ h9_ h11_ h30_ h32_) dX12_walkerIs_43 (fun j35_ h36_ z33_ e34_ => ?_)
        refine w_goto (tgt := 90) dX12_walkerIs_44 (by decide) ?_
        exact w_iret rfl dX12_walkerIs_90 ⟨hIz, hFz, trivial⟩
    · simp only [li_0, li_11] at h9_
      refine w_if_ne (tgt := 26) dX12_walkerIs_16 (by decide) li_0 (fun h9 => (absurd h9 (by decide))) (fun h37_ => ?_)
      refine w_aload_n dX12_walkerIs_19 rfl 0 rfl ?_
      refine w_ldc (v := (-1000001)) m_1433 dX12_walkerIs_20 ?_
      refine w_callV (as := [vI (-1000001)]) (rest := []) (c_X12_finding l G cy ad (d + 3) (-1000001) Mz hIz (by first | decide | (unfold vF; omega) | (unfold vRw; omega))) kV_X12_finding (by decide +kernel) (Nat.le_of_ble_eq_true rfl) m_1434 rfl rfl rfl ic_12 rfl rfl (by decide) (Nat.le_of_ble_eq_true rfl) dX12_walkerIs_22 (fun r38_ M39_ q40_ => ?_)
      obtain ⟨hI42_, hF43_, h41_⟩ := q40_
      have hF44_ := hFz.tr hF43_ (fun c k => (fun h => h.elim (fun h => (Or.inl ⟨h.1, h.2⟩)) (fun h => h.elim)))
      simp only [li_m1000001] at h41_
      exact w_iret rfl dX12_walkerIs_25 ⟨hI42_, hF44_, trivial⟩
  · refine w_if_eq (tgt := 19) dX12_walkerIs_6 (by decide) li_0 (fun h45_ => ?_) (fun h9 => (absurd h9 (by decide)))
    refine w_aload_n dX12_walkerIs_19 rfl 0 rfl ?_
    refine w_ldc (v := (-1000001)) m_1433 dX12_walkerIs_20 ?_
    refine w_callV (as := [vI (-1000001)]) (rest := []) (c_X12_finding l G cy ad (d + 3) (-1000001) Mz hIz (by first | decide | (unfold vF; omega) | (unfold vRw; omega))) kV_X12_finding (by decide +kernel) (Nat.le_of_ble_eq_true rfl) m_1434 rfl rfl rfl ic_12 rfl rfl (by decide) (Nat.le_of_ble_eq_true rfl) dX12_walkerIs_22 (fun r46_ M47_ q48_ => ?_)
    obtain ⟨hI50_, hF51_, h49_⟩ := q48_
    have hF52_ := hFz.tr hF51_ (fun c k => (fun h => h.elim (fun h => (Or.inl ⟨h.1, h.2⟩)) (fun h => h.elim)))
    simp only [li_m1000001] at h49_
    exact w_iret rfl dX12_walkerIs_25 ⟨hI50_, hF52_, trivial⟩
def S_c_X12_as : rf → Nat → Prop := fun c k => (c.1 = 53 ∧ c.2.1 = 0) ∨ False
set_option maxHeartbeats 4000000 in
set_option maxRecDepth 100000 in
theorem c_X12_as (l : Launch) (G : va_G) (cy : Nat → ClassId) (ad : rf → Nat) (d : Nat) (v : Int32) (u : Int32) (Mz : mM) (hIz : InvD Mz) : WP DD l G cy ad yX12_as cX12_as 3 (some .int) (d + 4) 0 [(0, vR (12, 0, 0)), (1, vI v), (2, vI u)] [] Mz (fun r M' => InvD M' ∧ FR (S_c_X12_as) Mz M' ∧ True) := by
  have hFz : FR (S_c_X12_as) Mz Mz := FR.self
  refine w_aload_n dX12_as_0 rfl 0 rfl ?_
  refine w_iload_n dX12_as_1 rfl 1 rfl ?_
  refine w_iconst (v := 2) dX12_as_2 (by decide) ?_
  refine w_callV (as := [vI v, vI 2]) (rest := []) (c_is2 l G cy ad (d + 2) v Mz hIz) kV_X12_is (by decide +kernel) (Nat.le_of_ble_eq_true rfl) m_1465 rfl rfl rfl ic_12 rfl rfl (by decide) (Nat.le_of_ble_eq_true rfl) dX12_as_3 (fun r1_ M2_ q3_ => ?_)
  obtain ⟨rfl, h4_⟩ := q3_
  rcases h4_ with ⟨rfl, h4_⟩ | rfl
  · refine w_if_eq (tgt := 19) dX12_as_6 (by decide) li_1 (fun h9 => (absurd h9 (by decide))) (fun h5_ => ?_)
    refine w_iload_n dX12_as_9 rfl 2 rfl ?_
    refine w_iconst (v := 0) dX12_as_10 (by decide) ?_
    refine w_bipush (v := 7) dX12_as_11 (by decide) ?_
    refine w_callS (as := [vI u, vI 0, vI 7]) (rest := []) (c_X12_within l G cy ad (d + 3) u 0 7 Mz hIz) kS_X12_within (by decide +kernel) (Nat.le_of_ble_eq_true rfl) m_1427 rfl rfl (by decide) (Nat.le_of_ble_eq_true rfl) dX12_as_13 (fun r6_ M7_ q8_ => ?_)
    obtain ⟨rfl, h9_⟩ := q8_
    rcases h9_ with ⟨rfl, h9_⟩ | ⟨rfl, h9_⟩
    · simp only [li_0, li_7] at h9_
      refine w_if_ne (tgt := 26) dX12_as_16 (by decide) li_1 (fun h10_ => ?_) (fun h9 => (absurd h9 (by decide)))
      refine w_aload_n dX12_as_26 rfl 0 rfl ?_
      refine w_iload_n dX12_as_27 rfl 1 rfl ?_
      refine w_callV (as := [vI v]) (rest := []) (c_X12_kindOf l G cy ad (d + 2) v Mz hIz h4_) kV_X12_kindOf (by decide +kernel) (Nat.le_of_ble_eq_true rfl) m_1517 rfl rfl rfl ic_12 rfl rfl (by decide) (Nat.le_of_ble_eq_true rfl) dX12_as_28 (fun r11_ M12_ q13_ => ?_)
      obtain ⟨rfl, h14_⟩ := q13_
      refine w_iload_n dX12_as_31 rfl 2 rfl ?_
      refine w_callS (as := [vI r11_, vI u]) (rest := []) (c_X12_isUnder l G cy ad (d + 2) r11_ u Mz hIz) kS_X12_isUnder (by decide +kernel) (Nat.le_of_ble_eq_true rfl) m_1532 rfl rfl (by decide) (Nat.le_of_ble_eq_true rfl) dX12_as_32 (fun r15_ M16_ q17_ => ?_)
      obtain ⟨rfl, h18_⟩ := q17_
      refine w_if_eq (tgt := 46) dX12_as_35 (by decide) (rfl : r15_.toInt = r15_.toInt) (fun h19_ => ?_) (fun h19_ => ?_)
      · refine w_aload_n dX12_as_46 rfl 0 rfl ?_
        refine w_ldc (v := (-1000005)) m_1476 dX12_as_47 ?_
        refine w_callV (as := [vI (-1000005)]) (rest := []) (c_X12_finding l G cy ad (d + 3) (-1000005) Mz hIz (by first | decide | (unfold vF; omega) | (unfold vRw; omega))) kV_X12_finding (by decide +kernel) (Nat.le_of_ble_eq_true rfl) m_1434 rfl rfl rfl ic_12 rfl rfl (by decide) (Nat.le_of_ble_eq_true rfl) dX12_as_49 (fun r20_ M21_ q22_ => ?_)
        obtain ⟨hI24_, hF25_, h23_⟩ := q22_
        have hF26_ := hFz.tr hF25_ (fun c k => (fun h => h.elim (fun h => (Or.inl ⟨h.1, h.2⟩)) (fun h => h.elim)))
        simp only [li_m1000005] at h23_
        exact w_iret rfl dX12_as_52 ⟨hI24_, hF26_, trivial⟩
      · refine w_aload_n dX12_as_38 rfl 0 rfl ?_
        refine w_iload_n dX12_as_39 rfl 1 rfl ?_
        refine w_callV (as := [vI v]) (rest := []) (c_X12_reach l G cy ad d v Mz hIz h4_) kV_X12_reach (by decide +kernel) (Nat.le_of_ble_eq_true rfl) m_1513 rfl rfl rfl ic_12 rfl rfl (by decide) (Nat.le_of_ble_eq_true rfl) dX12_as_40 (fun r27_ M28_ q29_ => ?_)
        obtain ⟨rfl, h30_⟩ := q29_
        refine w_goto (tgt := 52) dX12_as_43 (by decide) ?_
        exact w_iret rfl dX12_as_52 ⟨hIz, hFz, trivial⟩
    · simp only [li_0, li_7] at h9_
      refine w_if_ne (tgt := 26) dX12_as_16 (by decide) li_0 (fun h9 => (absurd h9 (by decide))) (fun h31_ => ?_)
      refine w_aload_n dX12_as_19 rfl 0 rfl ?_
      refine w_ldc (v := (-1000001)) m_1433 dX12_as_20 ?_
      refine w_callV (as := [vI (-1000001)]) (rest := []) (c_X12_finding l G cy ad (d + 3) (-1000001) Mz hIz (by first | decide | (unfold vF; omega) | (unfold vRw; omega))) kV_X12_finding (by decide +kernel) (Nat.le_of_ble_eq_true rfl) m_1434 rfl rfl rfl ic_12 rfl rfl (by decide) (Nat.le_of_ble_eq_true rfl) dX12_as_22 (fun r32_ M33_ q34_ => ?_)
      obtain ⟨hI36_, hF37_, h35_⟩ := q34_
      have hF38_ := hFz.tr hF37_ (fun c k => (fun h => h.elim (fun h => (Or.inl ⟨h.1, h.2⟩)) (fun h => h.elim)))
      simp only [li_m1000001] at h35_
      exact w_iret rfl dX12_as_25 ⟨hI36_, hF38_, trivial⟩
  · refine w_if_eq (tgt := 19) dX12_as_6 (by decide) li_0 (fun h39_ => ?_) (fun h9 => (absurd h9 (by decide)))
    refine w_aload_n dX12_as_19 rfl 0 rfl ?_
    refine w_ldc (v := (-1000001)) m_1433 dX12_as_20 ?_
    refine w_callV (as := [vI (-1000001)]) (rest := []) (c_X12_finding l G cy ad (d + 3) (-1000001) Mz hIz (by first | decide | (unfold vF; omega) | (unfold vRw; omega))) kV_X12_finding (by decide +kernel) (Nat.le_of_ble_eq_true rfl) m_1434 rfl rfl rfl ic_12 rfl rfl (by decide) (Nat.le_of_ble_eq_true rfl) dX12_as_22 (fun r40_ M41_ q42_ => ?_)
    obtain ⟨hI44_, hF45_, h43_⟩ := q42_
    have hF46_ := hFz.tr hF45_ (fun c k => (fun h => h.elim (fun h => (Or.inl ⟨h.1, h.2⟩)) (fun h => h.elim)))
    simp only [li_m1000001] at h43_
    exact w_iret rfl dX12_as_25 ⟨hI44_, hF46_, trivial⟩
def S_c_X12_habit : rf → Nat → Prop := fun c k => (c.1 = 50 ∧ c.2.1 = 0) ∨ (c.1 = 53 ∧ c.2.1 = 0) ∨ False
theorem lf_c_X12_habit_0  (v : Int32) (r21_ : Int32) (h4_ : 0 ≤ v.toInt ∧ v.toInt ≤ 7) (h24_ : r21_.toInt = 180 + 9 * v.toInt) : -2147483648 ≤ r21_.toInt + 3 ∧ r21_.toInt + 3 < 2147483648 := by have r_v := rngI v; have r_r21_ := rngI r21_; omega
theorem lf_c_X12_habit_1  (v : Int32) (r21_ : Int32) (z25_ : Int32) (h4_ : 0 ≤ v.toInt ∧ v.toInt ≤ 7) (h24_ : r21_.toInt = 180 + 9 * v.toInt) (h26_ : z25_.toInt = r21_.toInt + 3) : 0 ≤ z25_.toInt ∧ z25_.toInt < ((3567 : Nat) : Int) := by have r_v := rngI v; have r_r21_ := rngI r21_; have r_z25_ := rngI z25_; omega
theorem lf_c_X12_habit_2 (M27_ : mM) (Mz : mM) (v : Int32) (u : Int32) (r21_ : Int32) (z25_ : Int32) (j29_ : Nat) (h4_ : 0 ≤ v.toInt ∧ v.toInt ≤ 7) (h9_ : 1 ≤ u.toInt ∧ u.toInt ≤ 9) (h24_ : r21_.toInt = 180 + 9 * v.toInt) (h26_ : z25_.toInt = r21_.toInt + 3) (h30_ : (j29_ : Int) = z25_.toInt) (hM28_ : M27_ = up Mz (50, 0, 0) j29_ u) : PN j29_ u ∧ (j29_ < 345 ∨ 493 < j29_) := by have r_v := rngI v; have r_u := rngI u; have r_r21_ := rngI r21_; have r_z25_ := rngI z25_; unfold PN; omega
theorem lf_c_X12_habit_3 (M27_ : mM) (Mz : mM) (v : Int32) (u : Int32) (r21_ : Int32) (z25_ : Int32) (j29_ : Nat) (r33_ : Int32) (h4_ : 0 ≤ v.toInt ∧ v.toInt ≤ 7) (h9_ : 1 ≤ u.toInt ∧ u.toInt ≤ 9) (h24_ : r21_.toInt = 180 + 9 * v.toInt) (h26_ : z25_.toInt = r21_.toInt + 3) (h30_ : (j29_ : Int) = z25_.toInt) (hM28_ : M27_ = up Mz (50, 0, 0) j29_ u) (h36_ : r33_.toInt = 180 + 9 * v.toInt) : -2147483648 ≤ r33_.toInt + 4 ∧ r33_.toInt + 4 < 2147483648 := by have r_v := rngI v; have r_u := rngI u; have r_r21_ := rngI r21_; have r_z25_ := rngI z25_; have r_r33_ := rngI r33_; omega
theorem lf_c_X12_habit_4 (M27_ : mM) (Mz : mM) (v : Int32) (u : Int32) (r21_ : Int32) (z25_ : Int32) (j29_ : Nat) (r33_ : Int32) (z37_ : Int32) (h4_ : 0 ≤ v.toInt ∧ v.toInt ≤ 7) (h9_ : 1 ≤ u.toInt ∧ u.toInt ≤ 9) (h24_ : r21_.toInt = 180 + 9 * v.toInt) (h26_ : z25_.toInt = r21_.toInt + 3) (h30_ : (j29_ : Int) = z25_.toInt) (hM28_ : M27_ = up Mz (50, 0, 0) j29_ u) (h36_ : r33_.toInt = 180 + 9 * v.toInt) (h38_ : z37_.toInt = r33_.toInt + 4) : 0 ≤ z37_.toInt ∧ z37_.toInt < ((3567 : Nat) : Int) := by have r_v := rngI v; have r_u := rngI u; have r_r21_ := rngI r21_; have r_z25_ := rngI z25_; have r_r33_ := rngI r33_; have r_z37_ := rngI z37_; omega
theorem lf_c_X12_habit_5 (M27_ : mM) (M39_ : mM) (Mz : mM) (v : Int32) (u : Int32) (t : Int32) (r21_ : Int32) (z25_ : Int32) (j29_ : Nat) (r33_ : Int32) (z37_ : Int32) (j41_ : Nat) (h4_ : 0 ≤ v.toInt ∧ v.toInt ≤ 7) (h9_ : 1 ≤ u.toInt ∧ u.toInt ≤ 9) (h14_ : 1 ≤ t.toInt ∧ t.toInt ≤ 99) (h24_ : r21_.toInt = 180 + 9 * v.toInt) (h26_ : z25_.toInt = r21_.toInt + 3) (h30_ : (j29_ : Int) = z25_.toInt) (hM28_ : M27_ = up Mz (50, 0, 0) j29_ u) (h36_ : r33_.toInt = 180 + 9 * v.toInt) (h38_ : z37_.toInt = r33_.toInt + 4) (h42_ : (j41_ : Int) = z37_.toInt) (hM40_ : M39_ = up M27_ (50, 0, 0) j41_ t) : PN j41_ t ∧ (j41_ < 345 ∨ 493 < j41_) := by have r_v := rngI v; have r_u := rngI u; have r_t := rngI t; have r_r21_ := rngI r21_; have r_z25_ := rngI z25_; have r_r33_ := rngI r33_; have r_z37_ := rngI z37_; unfold PN; omega
theorem lf_c_X12_habit_6 (M27_ : mM) (M39_ : mM) (Mz : mM) (v : Int32) (u : Int32) (t : Int32) (r21_ : Int32) (z25_ : Int32) (j29_ : Nat) (r33_ : Int32) (z37_ : Int32) (j41_ : Nat) (r45_ : Int32) (h4_ : 0 ≤ v.toInt ∧ v.toInt ≤ 7) (h9_ : 1 ≤ u.toInt ∧ u.toInt ≤ 9) (h14_ : 1 ≤ t.toInt ∧ t.toInt ≤ 99) (h24_ : r21_.toInt = 180 + 9 * v.toInt) (h26_ : z25_.toInt = r21_.toInt + 3) (h30_ : (j29_ : Int) = z25_.toInt) (hM28_ : M27_ = up Mz (50, 0, 0) j29_ u) (h36_ : r33_.toInt = 180 + 9 * v.toInt) (h38_ : z37_.toInt = r33_.toInt + 4) (h42_ : (j41_ : Int) = z37_.toInt) (hM40_ : M39_ = up M27_ (50, 0, 0) j41_ t) (h48_ : r45_.toInt = 180 + 9 * v.toInt) : -2147483648 ≤ r45_.toInt + 5 ∧ r45_.toInt + 5 < 2147483648 := by have r_v := rngI v; have r_u := rngI u; have r_t := rngI t; have r_r21_ := rngI r21_; have r_z25_ := rngI z25_; have r_r33_ := rngI r33_; have r_z37_ := rngI z37_; have r_r45_ := rngI r45_; omega
theorem lf_c_X12_habit_7 (M27_ : mM) (M39_ : mM) (Mz : mM) (v : Int32) (u : Int32) (t : Int32) (r21_ : Int32) (z25_ : Int32) (j29_ : Nat) (r33_ : Int32) (z37_ : Int32) (j41_ : Nat) (r45_ : Int32) (z49_ : Int32) (h4_ : 0 ≤ v.toInt ∧ v.toInt ≤ 7) (h9_ : 1 ≤ u.toInt ∧ u.toInt ≤ 9) (h14_ : 1 ≤ t.toInt ∧ t.toInt ≤ 99) (h24_ : r21_.toInt = 180 + 9 * v.toInt) (h26_ : z25_.toInt = r21_.toInt + 3) (h30_ : (j29_ : Int) = z25_.toInt) (hM28_ : M27_ = up Mz (50, 0, 0) j29_ u) (h36_ : r33_.toInt = 180 + 9 * v.toInt) (h38_ : z37_.toInt = r33_.toInt + 4) (h42_ : (j41_ : Int) = z37_.toInt) (hM40_ : M39_ = up M27_ (50, 0, 0) j41_ t) (h48_ : r45_.toInt = 180 + 9 * v.toInt) (h50_ : z49_.toInt = r45_.toInt + 5) : 0 ≤ z49_.toInt ∧ z49_.toInt < ((3567 : Nat) : Int) := by have r_v := rngI v; have r_u := rngI u; have r_t := rngI t; have r_r21_ := rngI r21_; have r_z25_ := rngI z25_; have r_r33_ := rngI r33_; have r_z37_ := rngI z37_; have r_r45_ := rngI r45_; have r_z49_ := rngI z49_; omega
theorem lf_c_X12_habit_8 (M27_ : mM) (M39_ : mM) (M51_ : mM) (Mz : mM) (v : Int32) (u : Int32) (t : Int32) (s : Int32) (r21_ : Int32) (z25_ : Int32) (j29_ : Nat) (r33_ : Int32) (z37_ : Int32) (j41_ : Nat) (r45_ : Int32) (z49_ : Int32) (j53_ : Nat) (h4_ : 0 ≤ v.toInt ∧ v.toInt ≤ 7) (h9_ : 1 ≤ u.toInt ∧ u.toInt ≤ 9) (h14_ : 1 ≤ t.toInt ∧ t.toInt ≤ 99) (h19_ : 0 ≤ s.toInt ∧ s.toInt ≤ 30) (h24_ : r21_.toInt = 180 + 9 * v.toInt) (h26_ : z25_.toInt = r21_.toInt + 3) (h30_ : (j29_ : Int) = z25_.toInt) (hM28_ : M27_ = up Mz (50, 0, 0) j29_ u) (h36_ : r33_.toInt = 180 + 9 * v.toInt) (h38_ : z37_.toInt = r33_.toInt + 4) (h42_ : (j41_ : Int) = z37_.toInt) (hM40_ : M39_ = up M27_ (50, 0, 0) j41_ t) (h48_ : r45_.toInt = 180 + 9 * v.toInt) (h50_ : z49_.toInt = r45_.toInt + 5) (h54_ : (j53_ : Int) = z49_.toInt) (hM52_ : M51_ = up M39_ (50, 0, 0) j53_ s) : PN j53_ s ∧ (j53_ < 345 ∨ 493 < j53_) := by have r_v := rngI v; have r_u := rngI u; have r_t := rngI t; have r_s := rngI s; have r_r21_ := rngI r21_; have r_z25_ := rngI z25_; have r_r33_ := rngI r33_; have r_z37_ := rngI z37_; have r_r45_ := rngI r45_; have r_z49_ := rngI z49_; unfold PN; omega
set_option maxHeartbeats 4000000 in
set_option maxRecDepth 100000 in
theorem c_X12_habit (l : Launch) (G : va_G) (cy : Nat → ClassId) (ad : rf → Nat) (d : Nat) (v : Int32) (u : Int32) (t : Int32) (s : Int32) (Mz : mM) (hIz : InvD Mz) : WP DD l G cy ad yX12_habit cX12_habit 5 (some .int) (d + 2) 0 [(0, vR (12, 0, 0)), (1, vI v), (2, vI u), (3, vI t), (4, vI s)] [] Mz (fun r M' => InvD M' ∧ FR (S_c_X12_habit) Mz M' ∧ True) := by
  have hFz : FR (S_c_X12_habit) Mz Mz := FR.self
  refine w_aload_n dX12_habit_0 rfl 0 rfl ?_
  refine w_iload_n dX12_habit_1 rfl 1 rfl ?_
  refine w_iconst (v := 2) dX12_habit_2 (by decide) ?_
  refine w_callV (as := [vI v, vI 2]) (rest := []) (c_is2 l G cy ad d v Mz hIz) kV_X12_is (by decide +kernel) (Nat.le_of_ble_eq_true rfl) m_1465 rfl rfl rfl ic_12 rfl rfl (by decide) (Nat.le_of_ble_eq_true rfl) dX12_habit_3 (fun r1_ M2_ q3_ => ?_)
  obtain ⟨rfl, h4_⟩ := q3_
  rcases h4_ with ⟨rfl, h4_⟩ | rfl
  · refine w_if_eq (tgt := 40) dX12_habit_6 (by decide) li_1 (fun h9 => (absurd h9 (by decide))) (fun h5_ => ?_)
    refine w_iload_n dX12_habit_9 rfl 2 rfl ?_
    refine w_iconst (v := 1) dX12_habit_10 (by decide) ?_
    refine w_bipush (v := 9) dX12_habit_11 (by decide) ?_
    refine w_callS (as := [vI u, vI 1, vI 9]) (rest := []) (c_X12_within l G cy ad (d + 1) u 1 9 Mz hIz) kS_X12_within (by decide +kernel) (Nat.le_of_ble_eq_true rfl) m_1427 rfl rfl (by decide) (Nat.le_of_ble_eq_true rfl) dX12_habit_13 (fun r6_ M7_ q8_ => ?_)
    obtain ⟨rfl, h9_⟩ := q8_
    rcases h9_ with ⟨rfl, h9_⟩ | ⟨rfl, h9_⟩
    · simp only [li_1, li_9] at h9_
      refine w_if_eq (tgt := 40) dX12_habit_16 (by decide) li_1 (fun h9 => (absurd h9 (by decide))) (fun h10_ => ?_)
      refine w_iload_n dX12_habit_19 rfl 3 rfl ?_
      refine w_iconst (v := 1) dX12_habit_20 (by decide) ?_
      refine w_bipush (v := 99) dX12_habit_21 (by decide) ?_
      refine w_callS (as := [vI t, vI 1, vI 99]) (rest := []) (c_X12_within l G cy ad (d + 1) t 1 99 Mz hIz) kS_X12_within (by decide +kernel) (Nat.le_of_ble_eq_true rfl) m_1427 rfl rfl (by decide) (Nat.le_of_ble_eq_true rfl) dX12_habit_23 (fun r11_ M12_ q13_ => ?_)
      obtain ⟨rfl, h14_⟩ := q13_
      rcases h14_ with ⟨rfl, h14_⟩ | ⟨rfl, h14_⟩
      · simp only [li_1, li_99] at h14_
        refine w_if_eq (tgt := 40) dX12_habit_26 (by decide) li_1 (fun h9 => (absurd h9 (by decide))) (fun h15_ => ?_)
        refine w_iload dX12_habit_29 4 rfl ?_
        refine w_iconst (v := 0) dX12_habit_31 (by decide) ?_
        refine w_bipush (v := 30) dX12_habit_32 (by decide) ?_
        refine w_callS (as := [vI s, vI 0, vI 30]) (rest := []) (c_X12_within l G cy ad (d + 1) s 0 30 Mz hIz) kS_X12_within (by decide +kernel) (Nat.le_of_ble_eq_true rfl) m_1427 rfl rfl (by decide) (Nat.le_of_ble_eq_true rfl) dX12_habit_34 (fun r16_ M17_ q18_ => ?_)
        obtain ⟨rfl, h19_⟩ := q18_
        rcases h19_ with ⟨rfl, h19_⟩ | ⟨rfl, h19_⟩
        · simp only [li_0, li_30] at h19_
          refine w_if_ne (tgt := 47) dX12_habit_37 (by decide) li_1 (fun h20_ => ?_) (fun h9 => (absurd h9 (by decide)))
          refine w_aload_n dX12_habit_47 rfl 0 rfl ?_
          refine w_getR (c' := (50, 0, 0)) fl_RX12_9 rfl rfl ic_12 dX12_habit_48 rfl ?_
          refine w_aload_n dX12_habit_51 rfl 0 rfl ?_
          refine w_iload_n dX12_habit_52 rfl 1 rfl ?_
          refine w_callV (as := [vI v]) (rest := [vR (50, 0, 0)]) (c_X12_goer l G cy ad (d + 1) v Mz hIz h4_) kV_X12_goer (by decide +kernel) (Nat.le_of_ble_eq_true rfl) m_1451 rfl rfl rfl ic_12 rfl rfl (by decide) (Nat.le_of_ble_eq_true rfl) dX12_habit_53 (fun r21_ M22_ q23_ => ?_)
          obtain ⟨rfl, h24_⟩ := q23_
          refine w_iconst (v := 3) dX12_habit_56 (by decide) ?_
          refine w_iaddB dX12_habit_57 (rfl : r21_.toInt = r21_.toInt) li_3 (lf_c_X12_habit_0 v r21_ h4_ h24_) (fun z25_ h26_ => ?_)
          refine w_iload_n dX12_habit_58 rfl 2 rfl ?_
          refine w_iast DD_nd rfl rfl ic_50 (rfl : z25_.toInt = z25_.toInt) (lf_c_X12_habit_1 v r21_ z25_ h4_ h24_ h26_) dX12_habit_59 (fun j29_ h30_ M27_ hM28_ => ?_)
          have hI31_ := hIz.put50 hM28_ (lf_c_X12_habit_2 M27_ Mz v u r21_ z25_ j29_ h4_ h9_ h24_ h26_ h30_ hM28_)
          have hF32_ := hFz.put hM28_ (Or.inl ⟨rfl, rfl⟩)
          refine w_aload_n dX12_habit_60 rfl 0 rfl ?_
          refine w_getR (c' := (50, 0, 0)) fl_RX12_9 rfl rfl ic_12 dX12_habit_61 rfl ?_
          refine w_aload_n dX12_habit_64 rfl 0 rfl ?_
          refine w_iload_n dX12_habit_65 rfl 1 rfl ?_
          refine w_callV (as := [vI v]) (rest := [vR (50, 0, 0)]) (c_X12_goer l G cy ad (d + 1) v M27_ hI31_ h4_) kV_X12_goer (by decide +kernel) (Nat.le_of_ble_eq_true rfl) m_1451 rfl rfl rfl ic_12 rfl rfl (by decide) (Nat.le_of_ble_eq_true rfl) dX12_habit_66 (fun r33_ M34_ q35_ => ?_)
          obtain ⟨rfl, h36_⟩ := q35_
          refine w_iconst (v := 4) dX12_habit_69 (by decide) ?_
          refine w_iaddB dX12_habit_70 (rfl : r33_.toInt = r33_.toInt) li_4 (lf_c_X12_habit_3 M27_ Mz v u r21_ z25_ j29_ r33_ h4_ h9_ h24_ h26_ h30_ hM28_ h36_) (fun z37_ h38_ => ?_)
          refine w_iload_n dX12_habit_71 rfl 3 rfl ?_
          refine w_iast DD_nd rfl rfl ic_50 (rfl : z37_.toInt = z37_.toInt) (lf_c_X12_habit_4 M27_ Mz v u r21_ z25_ j29_ r33_ z37_ h4_ h9_ h24_ h26_ h30_ hM28_ h36_ h38_) dX12_habit_72 (fun j41_ h42_ M39_ hM40_ => ?_)
          have hI43_ := hI31_.put50 hM40_ (lf_c_X12_habit_5 M27_ M39_ Mz v u t r21_ z25_ j29_ r33_ z37_ j41_ h4_ h9_ h14_ h24_ h26_ h30_ hM28_ h36_ h38_ h42_ hM40_)
          have hF44_ := hF32_.put hM40_ (Or.inl ⟨rfl, rfl⟩)
          refine w_aload_n dX12_habit_73 rfl 0 rfl ?_
          refine w_getR (c' := (50, 0, 0)) fl_RX12_9 rfl rfl ic_12 dX12_habit_74 rfl ?_
          refine w_aload_n dX12_habit_77 rfl 0 rfl ?_
          refine w_iload_n dX12_habit_78 rfl 1 rfl ?_
          refine w_callV (as := [vI v]) (rest := [vR (50, 0, 0)]) (c_X12_goer l G cy ad (d + 1) v M39_ hI43_ h4_) kV_X12_goer (by decide +kernel) (Nat.le_of_ble_eq_true rfl) m_1451 rfl rfl rfl ic_12 rfl rfl (by decide) (Nat.le_of_ble_eq_true rfl) dX12_habit_79 (fun r45_ M46_ q47_ => ?_)
          obtain ⟨rfl, h48_⟩ := q47_
          refine w_iconst (v := 5) dX12_habit_82 (by decide) ?_
          refine w_iaddB dX12_habit_83 (rfl : r45_.toInt = r45_.toInt) li_5 (lf_c_X12_habit_6 M27_ M39_ Mz v u t r21_ z25_ j29_ r33_ z37_ j41_ r45_ h4_ h9_ h14_ h24_ h26_ h30_ hM28_ h36_ h38_ h42_ hM40_ h48_) (fun z49_ h50_ => ?_)
          refine w_iload dX12_habit_84 4 rfl ?_
          refine w_iast DD_nd rfl rfl ic_50 (rfl : z49_.toInt = z49_.toInt) (lf_c_X12_habit_7 M27_ M39_ Mz v u t r21_ z25_ j29_ r33_ z37_ j41_ r45_ z49_ h4_ h9_ h14_ h24_ h26_ h30_ hM28_ h36_ h38_ h42_ hM40_ h48_ h50_) dX12_habit_86 (fun j53_ h54_ M51_ hM52_ => ?_)
          have hI55_ := hI43_.put50 hM52_ (lf_c_X12_habit_8 M27_ M39_ M51_ Mz v u t s r21_ z25_ j29_ r33_ z37_ j41_ r45_ z49_ j53_ h4_ h9_ h14_ h19_ h24_ h26_ h30_ hM28_ h36_ h38_ h42_ hM40_ h48_ h50_ h54_ hM52_)
          have hF56_ := hF44_.put hM52_ (Or.inl ⟨rfl, rfl⟩)
          refine w_iconst (v := 1) dX12_habit_87 (by decide) ?_
          exact w_iret rfl dX12_habit_88 ⟨hI55_, hF56_, trivial⟩
        · simp only [li_0, li_30] at h19_
          refine w_if_ne (tgt := 47) dX12_habit_37 (by decide) li_0 (fun h9 => (absurd h9 (by decide))) (fun h57_ => ?_)
          refine w_aload_n dX12_habit_40 rfl 0 rfl ?_
          refine w_ldc (v := (-1000001)) m_1433 dX12_habit_41 ?_
          refine w_callV (as := [vI (-1000001)]) (rest := []) (c_X12_finding l G cy ad (d + 1) (-1000001) Mz hIz (by first | decide | (unfold vF; omega) | (unfold vRw; omega))) kV_X12_finding (by decide +kernel) (Nat.le_of_ble_eq_true rfl) m_1434 rfl rfl rfl ic_12 rfl rfl (by decide) (Nat.le_of_ble_eq_true rfl) dX12_habit_43 (fun r58_ M59_ q60_ => ?_)
          obtain ⟨hI62_, hF63_, h61_⟩ := q60_
          have hF64_ := hFz.tr hF63_ (fun c k => (fun h => h.elim (fun h => (Or.inr (Or.inl ⟨h.1, h.2⟩))) (fun h => h.elim)))
          simp only [li_m1000001] at h61_
          exact w_iret rfl dX12_habit_46 ⟨hI62_, hF64_, trivial⟩
      · simp only [li_1, li_99] at h14_
        refine w_if_eq (tgt := 40) dX12_habit_26 (by decide) li_0 (fun h65_ => ?_) (fun h9 => (absurd h9 (by decide)))
        refine w_aload_n dX12_habit_40 rfl 0 rfl ?_
        refine w_ldc (v := (-1000001)) m_1433 dX12_habit_41 ?_
        refine w_callV (as := [vI (-1000001)]) (rest := []) (c_X12_finding l G cy ad (d + 1) (-1000001) Mz hIz (by first | decide | (unfold vF; omega) | (unfold vRw; omega))) kV_X12_finding (by decide +kernel) (Nat.le_of_ble_eq_true rfl) m_1434 rfl rfl rfl ic_12 rfl rfl (by decide) (Nat.le_of_ble_eq_true rfl) dX12_habit_43 (fun r66_ M67_ q68_ => ?_)
        obtain ⟨hI70_, hF71_, h69_⟩ := q68_
        have hF72_ := hFz.tr hF71_ (fun c k => (fun h => h.elim (fun h => (Or.inr (Or.inl ⟨h.1, h.2⟩))) (fun h => h.elim)))
        simp only [li_m1000001] at h69_
        exact w_iret rfl dX12_habit_46 ⟨hI70_, hF72_, trivial⟩
    · simp only [li_1, li_9] at h9_
      refine w_if_eq (tgt := 40) dX12_habit_16 (by decide) li_0 (fun h73_ => ?_) (fun h9 => (absurd h9 (by decide)))
      refine w_aload_n dX12_habit_40 rfl 0 rfl ?_
      refine w_ldc (v := (-1000001)) m_1433 dX12_habit_41 ?_
      refine w_callV (as := [vI (-1000001)]) (rest := []) (c_X12_finding l G cy ad (d + 1) (-1000001) Mz hIz (by first | decide | (unfold vF; omega) | (unfold vRw; omega))) kV_X12_finding (by decide +kernel) (Nat.le_of_ble_eq_true rfl) m_1434 rfl rfl rfl ic_12 rfl rfl (by decide) (Nat.le_of_ble_eq_true rfl) dX12_habit_43 (fun r74_ M75_ q76_ => ?_)
      obtain ⟨hI78_, hF79_, h77_⟩ := q76_
      have hF80_ := hFz.tr hF79_ (fun c k => (fun h => h.elim (fun h => (Or.inr (Or.inl ⟨h.1, h.2⟩))) (fun h => h.elim)))
      simp only [li_m1000001] at h77_
      exact w_iret rfl dX12_habit_46 ⟨hI78_, hF80_, trivial⟩
  · refine w_if_eq (tgt := 40) dX12_habit_6 (by decide) li_0 (fun h81_ => ?_) (fun h9 => (absurd h9 (by decide)))
    refine w_aload_n dX12_habit_40 rfl 0 rfl ?_
    refine w_ldc (v := (-1000001)) m_1433 dX12_habit_41 ?_
    refine w_callV (as := [vI (-1000001)]) (rest := []) (c_X12_finding l G cy ad (d + 1) (-1000001) Mz hIz (by first | decide | (unfold vF; omega) | (unfold vRw; omega))) kV_X12_finding (by decide +kernel) (Nat.le_of_ble_eq_true rfl) m_1434 rfl rfl rfl ic_12 rfl rfl (by decide) (Nat.le_of_ble_eq_true rfl) dX12_habit_43 (fun r82_ M83_ q84_ => ?_)
    obtain ⟨hI86_, hF87_, h85_⟩ := q84_
    have hF88_ := hFz.tr hF87_ (fun c k => (fun h => h.elim (fun h => (Or.inr (Or.inl ⟨h.1, h.2⟩))) (fun h => h.elim)))
    simp only [li_m1000001] at h85_
    exact w_iret rfl dX12_habit_46 ⟨hI86_, hF88_, trivial⟩
def S_c_X12_face : rf → Nat → Prop := fun c k => (c.1 = 50 ∧ c.2.1 = 0) ∨ (c.1 = 53 ∧ c.2.1 = 0) ∨ False
theorem lf_c_X12_face_0  (v : Int32) (r11_ : Int32) (h4_ : 0 ≤ v.toInt ∧ v.toInt ≤ 7) (h14_ : r11_.toInt = 180 + 9 * v.toInt) : -2147483648 ≤ r11_.toInt + 2 ∧ r11_.toInt + 2 < 2147483648 := by have r_v := rngI v; have r_r11_ := rngI r11_; omega
theorem lf_c_X12_face_1  (v : Int32) (u : Int32) (r11_ : Int32) (z15_ : Int32) (h4_ : 0 ≤ v.toInt ∧ v.toInt ≤ 7) (h9_ : 0 ≤ u.toInt ∧ u.toInt ≤ 7) (h14_ : r11_.toInt = 180 + 9 * v.toInt) (h16_ : z15_.toInt = r11_.toInt + 2) : PN z15_.toInt.toNat u ∧ (z15_.toInt.toNat < 345 ∨ 493 < z15_.toInt.toNat) := by have r_v := rngI v; have r_u := rngI u; have r_r11_ := rngI r11_; have r_z15_ := rngI z15_; unfold PN; omega
theorem lf_c_X12_face_2  (v : Int32) (r11_ : Int32) (z15_ : Int32) (h4_ : 0 ≤ v.toInt ∧ v.toInt ≤ 7) (h14_ : r11_.toInt = 180 + 9 * v.toInt) (h16_ : z15_.toInt = r11_.toInt + 2) : 0 ≤ z15_.toInt ∧ z15_.toInt ≤ 3566 := by have r_v := rngI v; have r_r11_ := rngI r11_; have r_z15_ := rngI z15_; omega
set_option maxHeartbeats 4000000 in
set_option maxRecDepth 100000 in
theorem c_X12_face (l : Launch) (G : va_G) (cy : Nat → ClassId) (ad : rf → Nat) (d : Nat) (v : Int32) (u : Int32) (Mz : mM) (hIz : InvD Mz) : WP DD l G cy ad yX12_face cX12_face 3 (some .int) (d + 2) 0 [(0, vR (12, 0, 0)), (1, vI v), (2, vI u)] [] Mz (fun r M' => InvD M' ∧ FR (S_c_X12_face) Mz M' ∧ True) := by
  have hFz : FR (S_c_X12_face) Mz Mz := FR.self
  refine w_aload_n dX12_face_0 rfl 0 rfl ?_
  refine w_iload_n dX12_face_1 rfl 1 rfl ?_
  refine w_iconst (v := 2) dX12_face_2 (by decide) ?_
  refine w_callV (as := [vI v, vI 2]) (rest := []) (c_is2 l G cy ad d v Mz hIz) kV_X12_is (by decide +kernel) (Nat.le_of_ble_eq_true rfl) m_1465 rfl rfl rfl ic_12 rfl rfl (by decide) (Nat.le_of_ble_eq_true rfl) dX12_face_3 (fun r1_ M2_ q3_ => ?_)
  obtain ⟨rfl, h4_⟩ := q3_
  rcases h4_ with ⟨rfl, h4_⟩ | rfl
  · refine w_if_eq (tgt := 31) dX12_face_6 (by decide) li_1 (fun h9 => (absurd h9 (by decide))) (fun h5_ => ?_)
    refine w_iload_n dX12_face_9 rfl 2 rfl ?_
    refine w_callS (as := [vI u]) (rest := []) (c_X12_isSide l G cy ad d u Mz hIz) kS_X12_isSide (by decide +kernel) (Nat.le_of_ble_eq_true rfl) m_1473 rfl rfl (by decide) (Nat.le_of_ble_eq_true rfl) dX12_face_10 (fun r6_ M7_ q8_ => ?_)
    obtain ⟨rfl, h9_⟩ := q8_
    rcases h9_ with ⟨rfl, h9_⟩ | ⟨rfl, h9_⟩
    · refine w_if_eq (tgt := 31) dX12_face_13 (by decide) li_1 (fun h9 => (absurd h9 (by decide))) (fun h10_ => ?_)
      refine w_aload_n dX12_face_16 rfl 0 rfl ?_
      refine w_aload_n dX12_face_17 rfl 0 rfl ?_
      refine w_iload_n dX12_face_18 rfl 1 rfl ?_
      refine w_callV (as := [vI v]) (rest := [vR (12, 0, 0)]) (c_X12_goer l G cy ad (d + 1) v Mz hIz h4_) kV_X12_goer (by decide +kernel) (Nat.le_of_ble_eq_true rfl) m_1451 rfl rfl rfl ic_12 rfl rfl (by decide) (Nat.le_of_ble_eq_true rfl) dX12_face_19 (fun r11_ M12_ q13_ => ?_)
      obtain ⟨rfl, h14_⟩ := q13_
      refine w_iconst (v := 2) dX12_face_22 (by decide) ?_
      refine w_iaddB dX12_face_23 (rfl : r11_.toInt = r11_.toInt) li_2 (lf_c_X12_face_0 v r11_ h4_ h14_) (fun z15_ h16_ => ?_)
      refine w_iload_n dX12_face_24 rfl 2 rfl ?_
      refine w_callV (as := [vI z15_, vI u]) (rest := []) (c_X12_become l G cy ad (d + 1) z15_ u Mz hIz (lf_c_X12_face_1 v u r11_ z15_ h4_ h9_ h14_ h16_) (lf_c_X12_face_2 v r11_ z15_ h4_ h14_ h16_)) kV_X12_become (by decide +kernel) (Nat.le_of_ble_eq_true rfl) m_1481 rfl rfl rfl ic_12 rfl rfl (by decide) (Nat.le_of_ble_eq_true rfl) dX12_face_25 (fun r17_ M18_ q19_ => ?_)
      obtain ⟨hI21_, hF22_, h20_⟩ := q19_
      have hF23_ := hFz.tr hF22_ (fun c k => (fun h => h.elim (fun h => (Or.inl ⟨h.1, h.2⟩)) (fun h => h.elim)))
      refine w_goto (tgt := 37) dX12_face_28 (by decide) ?_
      exact w_iret rfl dX12_face_37 ⟨hI21_, hF23_, trivial⟩
    · refine w_if_eq (tgt := 31) dX12_face_13 (by decide) li_0 (fun h24_ => ?_) (fun h9 => (absurd h9 (by decide)))
      refine w_aload_n dX12_face_31 rfl 0 rfl ?_
      refine w_ldc (v := (-1000001)) m_1433 dX12_face_32 ?_
      refine w_callV (as := [vI (-1000001)]) (rest := []) (c_X12_finding l G cy ad (d + 1) (-1000001) Mz hIz (by first | decide | (unfold vF; omega) | (unfold vRw; omega))) kV_X12_finding (by decide +kernel) (Nat.le_of_ble_eq_true rfl) m_1434 rfl rfl rfl ic_12 rfl rfl (by decide) (Nat.le_of_ble_eq_true rfl) dX12_face_34 (fun r25_ M26_ q27_ => ?_)
      obtain ⟨hI29_, hF30_, h28_⟩ := q27_
      have hF31_ := hFz.tr hF30_ (fun c k => (fun h => h.elim (fun h => (Or.inr (Or.inl ⟨h.1, h.2⟩))) (fun h => h.elim)))
      simp only [li_m1000001] at h28_
      exact w_iret rfl dX12_face_37 ⟨hI29_, hF31_, trivial⟩
  · refine w_if_eq (tgt := 31) dX12_face_6 (by decide) li_0 (fun h32_ => ?_) (fun h9 => (absurd h9 (by decide)))
    refine w_aload_n dX12_face_31 rfl 0 rfl ?_
    refine w_ldc (v := (-1000001)) m_1433 dX12_face_32 ?_
    refine w_callV (as := [vI (-1000001)]) (rest := []) (c_X12_finding l G cy ad (d + 1) (-1000001) Mz hIz (by first | decide | (unfold vF; omega) | (unfold vRw; omega))) kV_X12_finding (by decide +kernel) (Nat.le_of_ble_eq_true rfl) m_1434 rfl rfl rfl ic_12 rfl rfl (by decide) (Nat.le_of_ble_eq_true rfl) dX12_face_34 (fun r33_ M34_ q35_ => ?_)
    obtain ⟨hI37_, hF38_, h36_⟩ := q35_
    have hF39_ := hFz.tr hF38_ (fun c k => (fun h => h.elim (fun h => (Or.inr (Or.inl ⟨h.1, h.2⟩))) (fun h => h.elim)))
    simp only [li_m1000001] at h36_
    exact w_iret rfl dX12_face_37 ⟨hI37_, hF39_, trivial⟩
def S_c_X12_goes : rf → Nat → Prop := fun c k => (c.1 = 50 ∧ c.2.1 = 0) ∨ (c.1 = 53 ∧ c.2.1 = 0) ∨ False
theorem lf_c_X12_goes_0  (v : Int32) (r6_ : Int32) (h4_ : 0 ≤ v.toInt ∧ v.toInt ≤ 7) (h9_ : r6_.toInt = 180 + 9 * v.toInt) : -2147483648 ≤ r6_.toInt + 6 ∧ r6_.toInt + 6 < 2147483648 := by have r_v := rngI v; have r_r6_ := rngI r6_; omega
theorem lf_c_X12_goes_1  (v : Int32) (r6_ : Int32) (z10_ : Int32) (h4_ : 0 ≤ v.toInt ∧ v.toInt ≤ 7) (h9_ : r6_.toInt = 180 + 9 * v.toInt) (h11_ : z10_.toInt = r6_.toInt + 6) : PN z10_.toInt.toNat (0 : Int32) ∧ (z10_.toInt.toNat < 345 ∨ 493 < z10_.toInt.toNat) := by have r_v := rngI v; have r_r6_ := rngI r6_; have r_z10_ := rngI z10_; have q0 := li_0; unfold PN; omega
theorem lf_c_X12_goes_2  (v : Int32) (r6_ : Int32) (z10_ : Int32) (h4_ : 0 ≤ v.toInt ∧ v.toInt ≤ 7) (h9_ : r6_.toInt = 180 + 9 * v.toInt) (h11_ : z10_.toInt = r6_.toInt + 6) : 0 ≤ z10_.toInt ∧ z10_.toInt ≤ 3566 := by have r_v := rngI v; have r_r6_ := rngI r6_; have r_z10_ := rngI z10_; omega
theorem lf_c_X12_goes_3  (v : Int32) (r6_ : Int32) (z10_ : Int32) (h4_ : 0 ≤ v.toInt ∧ v.toInt ≤ 7) (h9_ : r6_.toInt = 180 + 9 * v.toInt) (h11_ : z10_.toInt = r6_.toInt + 6) : PN z10_.toInt.toNat (1 : Int32) ∧ (z10_.toInt.toNat < 345 ∨ 493 < z10_.toInt.toNat) := by have r_v := rngI v; have r_r6_ := rngI r6_; have r_z10_ := rngI z10_; have q0 := li_1; unfold PN; omega
theorem lf_c_X12_goes_4  (v : Int32) (r6_ : Int32) (z10_ : Int32) (h4_ : 0 ≤ v.toInt ∧ v.toInt ≤ 7) (h9_ : r6_.toInt = 180 + 9 * v.toInt) (h11_ : z10_.toInt = r6_.toInt + 6) : 0 ≤ z10_.toInt ∧ z10_.toInt ≤ 3566 := by have r_v := rngI v; have r_r6_ := rngI r6_; have r_z10_ := rngI z10_; omega
set_option maxHeartbeats 4000000 in
set_option maxRecDepth 100000 in
theorem c_X12_goes (l : Launch) (G : va_G) (cy : Nat → ClassId) (ad : rf → Nat) (d : Nat) (v : Int32) (u : Int32) (Mz : mM) (hIz : InvD Mz) (hu : 0 ≤ u.toInt ∧ u.toInt ≤ 1) : WP DD l G cy ad yX12_goes cX12_goes 3 (some .int) (d + 2) 0 [(0, vR (12, 0, 0)), (1, vI v), (2, vI u)] [] Mz (fun r M' => InvD M' ∧ FR (S_c_X12_goes) Mz M' ∧ True) := by
  have hFz : FR (S_c_X12_goes) Mz Mz := FR.self
  refine w_aload_n dX12_goes_0 rfl 0 rfl ?_
  refine w_iload_n dX12_goes_1 rfl 1 rfl ?_
  refine w_iconst (v := 2) dX12_goes_2 (by decide) ?_
  refine w_callV (as := [vI v, vI 2]) (rest := []) (c_is2 l G cy ad d v Mz hIz) kV_X12_is (by decide +kernel) (Nat.le_of_ble_eq_true rfl) m_1465 rfl rfl rfl ic_12 rfl rfl (by decide) (Nat.le_of_ble_eq_true rfl) dX12_goes_3 (fun r1_ M2_ q3_ => ?_)
  obtain ⟨rfl, h4_⟩ := q3_
  rcases h4_ with ⟨rfl, h4_⟩ | rfl
  · refine w_if_eq (tgt := 33) dX12_goes_6 (by decide) li_1 (fun h9 => (absurd h9 (by decide))) (fun h5_ => ?_)
    refine w_aload_n dX12_goes_9 rfl 0 rfl ?_
    refine w_aload_n dX12_goes_10 rfl 0 rfl ?_
    refine w_iload_n dX12_goes_11 rfl 1 rfl ?_
    refine w_callV (as := [vI v]) (rest := [vR (12, 0, 0)]) (c_X12_goer l G cy ad (d + 1) v Mz hIz h4_) kV_X12_goer (by decide +kernel) (Nat.le_of_ble_eq_true rfl) m_1451 rfl rfl rfl ic_12 rfl rfl (by decide) (Nat.le_of_ble_eq_true rfl) dX12_goes_12 (fun r6_ M7_ q8_ => ?_)
    obtain ⟨rfl, h9_⟩ := q8_
    refine w_bipush (v := 6) dX12_goes_15 (by decide) ?_
    refine w_iaddB dX12_goes_17 (rfl : r6_.toInt = r6_.toInt) li_6 (lf_c_X12_goes_0 v r6_ h4_ h9_) (fun z10_ h11_ => ?_)
    refine w_iload_n dX12_goes_18 rfl 2 rfl ?_
    refine w_if_eq (tgt := 26) dX12_goes_19 (by decide) (rfl : u.toInt = u.toInt) (fun h12_ => ?_) (fun h12_ => ?_)
    · refine w_iconst (v := 0) dX12_goes_26 (by decide) ?_
      refine w_callV (as := [vI z10_, vI 0]) (rest := []) (c_X12_become l G cy ad (d + 1) z10_ 0 Mz hIz (lf_c_X12_goes_1 v r6_ z10_ h4_ h9_ h11_) (lf_c_X12_goes_2 v r6_ z10_ h4_ h9_ h11_)) kV_X12_become (by decide +kernel) (Nat.le_of_ble_eq_true rfl) m_1481 rfl rfl rfl ic_12 rfl rfl (by decide) (Nat.le_of_ble_eq_true rfl) dX12_goes_27 (fun r13_ M14_ q15_ => ?_)
      obtain ⟨hI17_, hF18_, h16_⟩ := q15_
      have hF19_ := hFz.tr hF18_ (fun c k => (fun h => h.elim (fun h => (Or.inl ⟨h.1, h.2⟩)) (fun h => h.elim)))
      refine w_goto (tgt := 39) dX12_goes_30 (by decide) ?_
      exact w_iret rfl dX12_goes_39 ⟨hI17_, hF19_, trivial⟩
    · refine w_iconst (v := 1) dX12_goes_22 (by decide) ?_
      refine w_goto (tgt := 27) dX12_goes_23 (by decide) ?_
      refine w_callV (as := [vI z10_, vI 1]) (rest := []) (c_X12_become l G cy ad (d + 1) z10_ 1 Mz hIz (lf_c_X12_goes_3 v r6_ z10_ h4_ h9_ h11_) (lf_c_X12_goes_4 v r6_ z10_ h4_ h9_ h11_)) kV_X12_become (by decide +kernel) (Nat.le_of_ble_eq_true rfl) m_1481 rfl rfl rfl ic_12 rfl rfl (by decide) (Nat.le_of_ble_eq_true rfl) dX12_goes_27 (fun r20_ M21_ q22_ => ?_)
      obtain ⟨hI24_, hF25_, h23_⟩ := q22_
      have hF26_ := hFz.tr hF25_ (fun c k => (fun h => h.elim (fun h => (Or.inl ⟨h.1, h.2⟩)) (fun h => h.elim)))
      refine w_goto (tgt := 39) dX12_goes_30 (by decide) ?_
      exact w_iret rfl dX12_goes_39 ⟨hI24_, hF26_, trivial⟩
  · refine w_if_eq (tgt := 33) dX12_goes_6 (by decide) li_0 (fun h27_ => ?_) (fun h9 => (absurd h9 (by decide)))
    refine w_aload_n dX12_goes_33 rfl 0 rfl ?_
    refine w_ldc (v := (-1000001)) m_1433 dX12_goes_34 ?_
    refine w_callV (as := [vI (-1000001)]) (rest := []) (c_X12_finding l G cy ad (d + 1) (-1000001) Mz hIz (by first | decide | (unfold vF; omega) | (unfold vRw; omega))) kV_X12_finding (by decide +kernel) (Nat.le_of_ble_eq_true rfl) m_1434 rfl rfl rfl ic_12 rfl rfl (by decide) (Nat.le_of_ble_eq_true rfl) dX12_goes_36 (fun r28_ M29_ q30_ => ?_)
    obtain ⟨hI32_, hF33_, h31_⟩ := q30_
    have hF34_ := hFz.tr hF33_ (fun c k => (fun h => h.elim (fun h => (Or.inr (Or.inl ⟨h.1, h.2⟩))) (fun h => h.elim)))
    simp only [li_m1000001] at h31_
    exact w_iret rfl dX12_goes_39 ⟨hI32_, hF34_, trivial⟩
def S_c_X12_feed : rf → Nat → Prop := fun c k => (c.1 = 50 ∧ c.2.1 = 0) ∨ (c.1 = 53 ∧ c.2.1 = 0) ∨ False
theorem lf_c_X12_feed_0 (Mz : mM) (u : Int32) (z6_ : Int32) (h4_ : 1 ≤ u.toInt ∧ u.toInt ≤ 8) (e7_ : z6_ = Mz.1 (50, 0, 0) 4) (h8_ : 0 ≤ z6_.toInt ∧ z6_.toInt ≤ 48) : -2147483648 ≤ z6_.toInt + u.toInt ∧ z6_.toInt + u.toInt < 2147483648 := by have r_u := rngI u; have r_z6_ := rngI z6_; subst e7_; omega
theorem lf_c_X12_feed_1 (M_40 : mM) (z17_ : Int32) (e18_ : z17_ = M_40.1 (50, 0, 0) 4) (kf19_ : (M_40.1 (50, 0, 0) 4).toInt = z17_.toInt) (h20_ : 0 ≤ z17_.toInt ∧ z17_.toInt ≤ 48) : -2147483648 ≤ 273 + z17_.toInt ∧ 273 + z17_.toInt < 2147483648 := by have r_z17_ := rngI z17_; subst e18_; omega
theorem lf_c_X12_feed_2 (M_40 : mM) (Mz : mM) (u : Int32) (z6_ : Int32) (z9_ : Int32) (v4_40 : Int32) (h4_ : 1 ≤ u.toInt ∧ u.toInt ≤ 8) (e7_ : z6_ = Mz.1 (50, 0, 0) 4) (h8_ : 0 ≤ z6_.toInt ∧ z6_.toInt ≤ 48) (h10_ : z9_.toInt = z6_.toInt + u.toInt) (h11_ : z9_.toInt ≤ 48) (hv0_40 : 0 ≤ v4_40.toInt) (hv1_40 : v4_40.toInt ≤ u.toInt) (hv2_40 : (M_40.1 (50, 0, 0) 4).toInt + u.toInt ≤ 48 + v4_40.toInt) (h13_ : v4_40.toInt < u.toInt) : -2147483648 ≤ 8 * v4_40.toInt ∧ 8 * v4_40.toInt < 2147483648 := by have r_u := rngI u; have r_z6_ := rngI z6_; have r_z9_ := rngI z9_; have r_v4_40 := rngI v4_40; subst e7_; omega
theorem lf_c_X12_feed_3 (M_40 : mM) (z17_ : Int32) (z21_ : Int32) (e18_ : z17_ = M_40.1 (50, 0, 0) 4) (kf19_ : (M_40.1 (50, 0, 0) 4).toInt = z17_.toInt) (h20_ : 0 ≤ z17_.toInt ∧ z17_.toInt ≤ 48) (h22_ : z21_.toInt = 273 + z17_.toInt) : 0 ≤ z21_.toInt ∧ z21_.toInt < ((3567 : Nat) : Int) := by have r_z17_ := rngI z17_; have r_z21_ := rngI z21_; subst e18_; omega
theorem lf_c_X12_feed_4 (M30_ : mM) (M_40 : mM) (z17_ : Int32) (z21_ : Int32) (z28_ : Int32) (j32_ : Nat) (e18_ : z17_ = M_40.1 (50, 0, 0) 4) (kf19_ : (M_40.1 (50, 0, 0) 4).toInt = z17_.toInt) (h20_ : 0 ≤ z17_.toInt ∧ z17_.toInt ≤ 48) (h22_ : z21_.toInt = 273 + z17_.toInt) (h33_ : (j32_ : Int) = z21_.toInt) (hM31_ : M30_ = up M_40 (50, 0, 0) j32_ z28_) : PN j32_ z28_ ∧ (j32_ < 345 ∨ 493 < j32_) := by have r_z17_ := rngI z17_; have r_z21_ := rngI z21_; have r_z28_ := rngI z28_; subst e18_; unfold PN; omega
theorem lf_c_X12_feed_5 (M30_ : mM) (M_40 : mM) (z17_ : Int32) (z21_ : Int32) (z28_ : Int32) (j32_ : Nat) (e18_ : z17_ = M_40.1 (50, 0, 0) 4) (kf19_ : (M_40.1 (50, 0, 0) 4).toInt = z17_.toInt) (h20_ : 0 ≤ z17_.toInt ∧ z17_.toInt ≤ 48) (h22_ : z21_.toInt = 273 + z17_.toInt) (h33_ : (j32_ : Int) = z21_.toInt) (hM31_ : M30_ = up M_40 (50, 0, 0) j32_ z28_) : ¬ 4 = j32_ := by have r_z17_ := rngI z17_; have r_z21_ := rngI z21_; have r_z28_ := rngI z28_; subst e18_; omega
theorem lf_c_X12_feed_6 (M30_ : mM) (M_40 : mM) (z17_ : Int32) (z21_ : Int32) (z28_ : Int32) (j32_ : Nat) (z37_ : Int32) (e18_ : z17_ = M_40.1 (50, 0, 0) 4) (kf19_ : (M_40.1 (50, 0, 0) 4).toInt = z17_.toInt) (h20_ : 0 ≤ z17_.toInt ∧ z17_.toInt ≤ 48) (h22_ : z21_.toInt = 273 + z17_.toInt) (h33_ : (j32_ : Int) = z21_.toInt) (hM31_ : M30_ = up M_40 (50, 0, 0) j32_ z28_) (kf36_ : (M30_.1 (50, 0, 0) 4).toInt = z17_.toInt) (e38_ : z37_ = M30_.1 (50, 0, 0) 4) (h39_ : z37_.toInt = z17_.toInt) (h40_ : 0 ≤ z37_.toInt ∧ z37_.toInt ≤ 48) : -2147483648 ≤ z37_.toInt + 1 ∧ z37_.toInt + 1 < 2147483648 := by have r_z17_ := rngI z17_; have r_z21_ := rngI z21_; have r_z28_ := rngI z28_; have r_z37_ := rngI z37_; subst e18_; subst e38_; omega
theorem lf_c_X12_feed_7 (M30_ : mM) (M43_ : mM) (M_40 : mM) (Mz : mM) (u : Int32) (z6_ : Int32) (z9_ : Int32) (v4_40 : Int32) (z17_ : Int32) (z21_ : Int32) (z23_ : Int32) (z28_ : Int32) (j32_ : Nat) (z37_ : Int32) (z41_ : Int32) (h4_ : 1 ≤ u.toInt ∧ u.toInt ≤ 8) (e7_ : z6_ = Mz.1 (50, 0, 0) 4) (h8_ : 0 ≤ z6_.toInt ∧ z6_.toInt ≤ 48) (h10_ : z9_.toInt = z6_.toInt + u.toInt) (h11_ : z9_.toInt ≤ 48) (hv0_40 : 0 ≤ v4_40.toInt) (hv1_40 : v4_40.toInt ≤ u.toInt) (hv2_40 : (M_40.1 (50, 0, 0) 4).toInt + u.toInt ≤ 48 + v4_40.toInt) (h13_ : v4_40.toInt < u.toInt) (e18_ : z17_ = M_40.1 (50, 0, 0) 4) (kf19_ : (M_40.1 (50, 0, 0) 4).toInt = z17_.toInt) (h20_ : 0 ≤ z17_.toInt ∧ z17_.toInt ≤ 48) (h22_ : z21_.toInt = 273 + z17_.toInt) (h24_ : z23_.toInt = 8 * v4_40.toInt) (h33_ : (j32_ : Int) = z21_.toInt) (hM31_ : M30_ = up M_40 (50, 0, 0) j32_ z28_) (kf36_ : (M30_.1 (50, 0, 0) 4).toInt = z17_.toInt) (e38_ : z37_ = M30_.1 (50, 0, 0) 4) (h39_ : z37_.toInt = z17_.toInt) (h40_ : 0 ≤ z37_.toInt ∧ z37_.toInt ≤ 48) (h42_ : z41_.toInt = z37_.toInt + 1) (hM44_ : M43_ = up M30_ (50, 0, 0) 4 z41_) : PN 4 z41_ ∧ (4 < 345 ∨ 493 < 4) := by have r_u := rngI u; have r_z6_ := rngI z6_; have r_z9_ := rngI z9_; have r_v4_40 := rngI v4_40; have r_z17_ := rngI z17_; have r_z21_ := rngI z21_; have r_z23_ := rngI z23_; have r_z28_ := rngI z28_; have r_z37_ := rngI z37_; have r_z41_ := rngI z41_; subst e7_; subst e18_; subst e38_; unfold PN; omega
theorem lf_c_X12_feed_8 (M_40 : mM) (Mz : mM) (u : Int32) (z6_ : Int32) (z9_ : Int32) (v4_40 : Int32) (z23_ : Int32) (h4_ : 1 ≤ u.toInt ∧ u.toInt ≤ 8) (e7_ : z6_ = Mz.1 (50, 0, 0) 4) (h8_ : 0 ≤ z6_.toInt ∧ z6_.toInt ≤ 48) (h10_ : z9_.toInt = z6_.toInt + u.toInt) (h11_ : z9_.toInt ≤ 48) (hv0_40 : 0 ≤ v4_40.toInt) (hv1_40 : v4_40.toInt ≤ u.toInt) (hv2_40 : (M_40.1 (50, 0, 0) 4).toInt + u.toInt ≤ 48 + v4_40.toInt) (h13_ : v4_40.toInt < u.toInt) (h24_ : z23_.toInt = 8 * v4_40.toInt) : -2147483648 ≤ v4_40.toInt + 1 ∧ v4_40.toInt + 1 < 2147483648 := by have r_u := rngI u; have r_z6_ := rngI z6_; have r_z9_ := rngI z9_; have r_v4_40 := rngI v4_40; have r_z23_ := rngI z23_; subst e7_; omega
theorem lf_c_X12_feed_9 (M_40 : mM) (Mz : mM) (u : Int32) (z6_ : Int32) (z9_ : Int32) (v4_40 : Int32) (z23_ : Int32) (z48_ : Int32) (h4_ : 1 ≤ u.toInt ∧ u.toInt ≤ 8) (e7_ : z6_ = Mz.1 (50, 0, 0) 4) (h8_ : 0 ≤ z6_.toInt ∧ z6_.toInt ≤ 48) (h10_ : z9_.toInt = z6_.toInt + u.toInt) (h11_ : z9_.toInt ≤ 48) (hv0_40 : 0 ≤ v4_40.toInt) (hv1_40 : v4_40.toInt ≤ u.toInt) (hv2_40 : (M_40.1 (50, 0, 0) 4).toInt + u.toInt ≤ 48 + v4_40.toInt) (h13_ : v4_40.toInt < u.toInt) (h24_ : z23_.toInt = 8 * v4_40.toInt) (h49_ : z48_.toInt = v4_40.toInt + 1) : 0 ≤ z48_.toInt := by have r_u := rngI u; have r_z6_ := rngI z6_; have r_z9_ := rngI z9_; have r_v4_40 := rngI v4_40; have r_z23_ := rngI z23_; have r_z48_ := rngI z48_; subst e7_; omega
theorem lf_c_X12_feed_10 (M_40 : mM) (Mz : mM) (u : Int32) (z6_ : Int32) (z9_ : Int32) (v4_40 : Int32) (z23_ : Int32) (z48_ : Int32) (h4_ : 1 ≤ u.toInt ∧ u.toInt ≤ 8) (e7_ : z6_ = Mz.1 (50, 0, 0) 4) (h8_ : 0 ≤ z6_.toInt ∧ z6_.toInt ≤ 48) (h10_ : z9_.toInt = z6_.toInt + u.toInt) (h11_ : z9_.toInt ≤ 48) (hv0_40 : 0 ≤ v4_40.toInt) (hv1_40 : v4_40.toInt ≤ u.toInt) (hv2_40 : (M_40.1 (50, 0, 0) 4).toInt + u.toInt ≤ 48 + v4_40.toInt) (h13_ : v4_40.toInt < u.toInt) (h24_ : z23_.toInt = 8 * v4_40.toInt) (h49_ : z48_.toInt = v4_40.toInt + 1) : z48_.toInt ≤ u.toInt := by have r_u := rngI u; have r_z6_ := rngI z6_; have r_z9_ := rngI z9_; have r_v4_40 := rngI v4_40; have r_z23_ := rngI z23_; have r_z48_ := rngI z48_; subst e7_; omega
theorem lf_c_X12_feed_11 (M30_ : mM) (M43_ : mM) (M_40 : mM) (Mz : mM) (u : Int32) (z6_ : Int32) (z9_ : Int32) (v4_40 : Int32) (z17_ : Int32) (z21_ : Int32) (z23_ : Int32) (z28_ : Int32) (j32_ : Nat) (z37_ : Int32) (z41_ : Int32) (z48_ : Int32) (h4_ : 1 ≤ u.toInt ∧ u.toInt ≤ 8) (e7_ : z6_ = Mz.1 (50, 0, 0) 4) (h8_ : 0 ≤ z6_.toInt ∧ z6_.toInt ≤ 48) (h10_ : z9_.toInt = z6_.toInt + u.toInt) (h11_ : z9_.toInt ≤ 48) (hv0_40 : 0 ≤ v4_40.toInt) (hv1_40 : v4_40.toInt ≤ u.toInt) (hv2_40 : (M_40.1 (50, 0, 0) 4).toInt + u.toInt ≤ 48 + v4_40.toInt) (h13_ : v4_40.toInt < u.toInt) (e18_ : z17_ = M_40.1 (50, 0, 0) 4) (kf19_ : (M_40.1 (50, 0, 0) 4).toInt = z17_.toInt) (h20_ : 0 ≤ z17_.toInt ∧ z17_.toInt ≤ 48) (h22_ : z21_.toInt = 273 + z17_.toInt) (h24_ : z23_.toInt = 8 * v4_40.toInt) (h33_ : (j32_ : Int) = z21_.toInt) (hM31_ : M30_ = up M_40 (50, 0, 0) j32_ z28_) (kf36_ : (M30_.1 (50, 0, 0) 4).toInt = z17_.toInt) (e38_ : z37_ = M30_.1 (50, 0, 0) 4) (h39_ : z37_.toInt = z17_.toInt) (h40_ : 0 ≤ z37_.toInt ∧ z37_.toInt ≤ 48) (h42_ : z41_.toInt = z37_.toInt + 1) (hM44_ : M43_ = up M30_ (50, 0, 0) 4 z41_) (kf47_ : (M43_.1 (50, 0, 0) 4).toInt = z41_.toInt) (h49_ : z48_.toInt = v4_40.toInt + 1) : (M43_.1 (50, 0, 0) 4).toInt + u.toInt ≤ 48 + z48_.toInt := by have r_u := rngI u; have r_z6_ := rngI z6_; have r_z9_ := rngI z9_; have r_v4_40 := rngI v4_40; have r_z17_ := rngI z17_; have r_z21_ := rngI z21_; have r_z23_ := rngI z23_; have r_z28_ := rngI z28_; have r_z37_ := rngI z37_; have r_z41_ := rngI z41_; have r_z48_ := rngI z48_; subst e7_; subst e18_; subst e38_; omega
theorem lf_c_X12_feed_12 (M_40 : mM) (Mz : mM) (u : Int32) (z6_ : Int32) (z9_ : Int32) (v4_40 : Int32) (z23_ : Int32) (z48_ : Int32) (h4_ : 1 ≤ u.toInt ∧ u.toInt ≤ 8) (e7_ : z6_ = Mz.1 (50, 0, 0) 4) (h8_ : 0 ≤ z6_.toInt ∧ z6_.toInt ≤ 48) (h10_ : z9_.toInt = z6_.toInt + u.toInt) (h11_ : z9_.toInt ≤ 48) (hv0_40 : 0 ≤ v4_40.toInt) (hv1_40 : v4_40.toInt ≤ u.toInt) (hv2_40 : (M_40.1 (50, 0, 0) 4).toInt + u.toInt ≤ 48 + v4_40.toInt) (h13_ : v4_40.toInt < u.toInt) (h24_ : z23_.toInt = 8 * v4_40.toInt) (h49_ : z48_.toInt = v4_40.toInt + 1) : (u.toInt - z48_.toInt).toNat < (u.toInt - v4_40.toInt).toNat := by have r_u := rngI u; have r_z6_ := rngI z6_; have r_z9_ := rngI z9_; have r_v4_40 := rngI v4_40; have r_z23_ := rngI z23_; have r_z48_ := rngI z48_; subst e7_; omega
theorem lf_c_X12_feed_13    : 0 ≤ (0 : Int32).toInt := by have q0 := li_0; omega
theorem lf_c_X12_feed_14 (Mz : mM) (u : Int32) (z6_ : Int32) (z9_ : Int32) (h4_ : 1 ≤ u.toInt ∧ u.toInt ≤ 8) (e7_ : z6_ = Mz.1 (50, 0, 0) 4) (h8_ : 0 ≤ z6_.toInt ∧ z6_.toInt ≤ 48) (h10_ : z9_.toInt = z6_.toInt + u.toInt) (h11_ : z9_.toInt ≤ 48) : (0 : Int32).toInt ≤ u.toInt := by have r_u := rngI u; have r_z6_ := rngI z6_; have r_z9_ := rngI z9_; have q0 := li_0; subst e7_; omega
theorem lf_c_X12_feed_15 (Mz : mM) (u : Int32) (z6_ : Int32) (z9_ : Int32) (h4_ : 1 ≤ u.toInt ∧ u.toInt ≤ 8) (e7_ : z6_ = Mz.1 (50, 0, 0) 4) (h8_ : 0 ≤ z6_.toInt ∧ z6_.toInt ≤ 48) (h10_ : z9_.toInt = z6_.toInt + u.toInt) (h11_ : z9_.toInt ≤ 48) : (Mz.1 (50, 0, 0) 4).toInt + u.toInt ≤ 48 + (0 : Int32).toInt := by have r_u := rngI u; have r_z6_ := rngI z6_; have r_z9_ := rngI z9_; have q0 := li_0; subst e7_; omega
set_option maxHeartbeats 4000000 in
set_option maxRecDepth 100000 in
theorem c_X12_feed (l : Launch) (G : va_G) (cy : Nat → ClassId) (ad : rf → Nat) (d : Nat) (v : Int64) (u : Int32) (Mz : mM) (hIz : InvD Mz) : WP DD l G cy ad yX12_feed cX12_feed 5 (some .int) (d + 1) 0 [(0, vR (12, 0, 0)), (1, vL v), (3, vI u)] [] Mz (fun r M' => InvD M' ∧ FR (S_c_X12_feed) Mz M' ∧ True) := by
  have hFz : FR (S_c_X12_feed) Mz Mz := FR.self
  refine w_iload_n dX12_feed_0 rfl 2 rfl ?_
  refine w_iconst (v := 1) dX12_feed_1 (by decide) ?_
  refine w_bipush (v := 8) dX12_feed_2 (by decide) ?_
  refine w_callS (as := [vI u, vI 1, vI 8]) (rest := []) (c_X12_within l G cy ad d u 1 8 Mz hIz) kS_X12_within (by decide +kernel) (Nat.le_of_ble_eq_true rfl) m_1427 rfl rfl (by decide) (Nat.le_of_ble_eq_true rfl) dX12_feed_4 (fun r1_ M2_ q3_ => ?_)
  obtain ⟨rfl, h4_⟩ := q3_
  rcases h4_ with ⟨rfl, h4_⟩ | ⟨rfl, h4_⟩
  · simp only [li_1, li_8] at h4_
    refine w_if_ne (tgt := 17) dX12_feed_7 (by decide) li_1 (fun h5_ => ?_) (fun h9 => (absurd h9 (by decide)))
    refine w_aload_n dX12_feed_17 rfl 0 rfl ?_
    refine w_getR (c' := (50, 0, 0)) fl_RX12_9 rfl rfl ic_12 dX12_feed_18 rfl ?_
    refine w_iconst (v := 4) dX12_feed_21 (by decide) ?_
    refine w_ialdL 4 rfl rfl ic_50 li_4 (by decide) dX12_feed_22 (fun z6_ e7_ => ?_)
    have h8_ : 0 ≤ z6_.toInt ∧ z6_.toInt ≤ 48 := pn_4 hIz e7_
    refine w_iload_n dX12_feed_23 rfl 2 rfl ?_
    refine w_iaddB dX12_feed_24 (rfl : z6_.toInt = z6_.toInt) (rfl : u.toInt = u.toInt) (lf_c_X12_feed_0 Mz u z6_ h4_ e7_ h8_) (fun z9_ h10_ => ?_)
    refine w_bipush (v := 48) dX12_feed_25 (by decide) ?_
    refine w_icmp_le (tgt := 37) dX12_feed_27 (by decide) (rfl : z9_.toInt = z9_.toInt) li_48 (fun h11_ => ?_) (fun h11_ => ?_)
    · refine w_iconst (v := 0) dX12_feed_37 (by decide) ?_
      refine w_istore (ls' := [(4, vI 0), (0, vR (12, 0, 0)), (1, vL v), (3, vI u)]) dX12_feed_38 (by decide) rfl ?_
      have lp12_ : ∀ (nn_40 : Nat) (M_40 : mM) (hI_40 : InvD M_40) (hF_40 : FR (S_c_X12_feed) Mz M_40) (v4_40 : Int32) (hv0_40 : 0 ≤ v4_40.toInt) (hv1_40 : v4_40.toInt ≤ u.toInt) (hv2_40 : (M_40.1 (50, 0, 0) 4).toInt + u.toInt ≤ 48 + v4_40.toInt), (u.toInt - v4_40.toInt).toNat < nn_40 → WP DD l G cy ad yX12_feed cX12_feed 5 (some .int) (d + 1) 40 [(4, vI v4_40), (0, vR (12, 0, 0)), (1, vL v), (3, vI u)] [] M_40 (fun r M' => InvD M' ∧ FR (S_c_X12_feed) Mz M' ∧ True) := by
        intro nn_40
        induction nn_40 with
        | zero => intro M_40 hI_40 hF_40 v4_40 hv0_40 hv1_40 hv2_40 hm_40; exact absurd hm_40 (Nat.not_lt_zero _)
        | succ nn_40 ih_40 =>
          intro M_40 hI_40 hF_40 v4_40 hv0_40 hv1_40 hv2_40 hm_40
          refine w_iload dX12_feed_40 0 rfl ?_
          refine w_iload_n dX12_feed_42 rfl 3 rfl ?_
          refine w_icmp_ge (tgt := 89) dX12_feed_43 (by decide) (rfl : v4_40.toInt = v4_40.toInt) (rfl : u.toInt = u.toInt) (fun h13_ => ?_) (fun h13_ => ?_)
          · refine w_aload_n dX12_feed_89 rfl 1 rfl ?_
            refine w_getR (c' := (50, 0, 0)) fl_RX12_9 rfl rfl ic_12 dX12_feed_90 rfl ?_
            refine w_iconst (v := 4) dX12_feed_93 (by decide) ?_
            refine w_ialdL 4 rfl rfl ic_50 li_4 (by decide) dX12_feed_94 (fun z14_ e15_ => ?_)
            have h16_ : 0 ≤ z14_.toInt ∧ z14_.toInt ≤ 48 := pn_4 hI_40 e15_
            exact w_iret rfl dX12_feed_95 ⟨hI_40, hF_40, trivial⟩
          · refine w_aload_n dX12_feed_46 rfl 1 rfl ?_
            refine w_getR (c' := (50, 0, 0)) fl_RX12_9 rfl rfl ic_12 dX12_feed_47 rfl ?_
            refine w_sipush (v := 273) dX12_feed_50 (by decide) ?_
            refine w_aload_n dX12_feed_53 rfl 1 rfl ?_
            refine w_getR (c' := (50, 0, 0)) fl_RX12_9 rfl rfl ic_12 dX12_feed_54 rfl ?_
            refine w_iconst (v := 4) dX12_feed_57 (by decide) ?_
            refine w_ialdL 4 rfl rfl ic_50 li_4 (by decide) dX12_feed_58 (fun z17_ e18_ => ?_)
            have kf19_ : (M_40.1 (50, 0, 0) 4).toInt = z17_.toInt := by rw [e18_]
            have h20_ : 0 ≤ z17_.toInt ∧ z17_.toInt ≤ 48 := pn_4 hI_40 e18_
            refine w_iaddB dX12_feed_59 li_273 (rfl : z17_.toInt = z17_.toInt) (lf_c_X12_feed_1 M_40 z17_ e18_ kf19_ h20_) (fun z21_ h22_ => ?_)
            refine w_lload_n dX12_feed_60 rfl 2 rfl ?_
            refine w_bipush (v := 8) dX12_feed_61 (by decide) ?_
            refine w_iload dX12_feed_63 0 rfl ?_
            refine w_imulB dX12_feed_65 li_8 (rfl : v4_40.toInt = v4_40.toInt) (lf_c_X12_feed_2 M_40 Mz u z6_ z9_ v4_40 h4_ e7_ h8_ h10_ h11_ hv0_40 hv1_40 hv2_40 h13_) (fun z23_ h24_ => ?_)
            refine w_lshr dX12_feed_66 (fun w25_ _ => ?_)
            refine w_ldc2 (v := 255) m_1554 dX12_feed_67 ?_
            refine w_land dX12_feed_70 (fun w26_ h27_ => ?_)
            refine w_l2i dX12_feed_71 (fun z28_ h29_ => ?_)
            refine w_iast DD_nd rfl rfl ic_50 (rfl : z21_.toInt = z21_.toInt) (lf_c_X12_feed_3 M_40 z17_ z21_ e18_ kf19_ h20_ h22_) dX12_feed_72 (fun j32_ h33_ M30_ hM31_ => ?_)
            have hI34_ := hI_40.put50 hM31_ (lf_c_X12_feed_4 M30_ M_40 z17_ z21_ z28_ j32_ e18_ kf19_ h20_ h22_ h33_ hM31_)
            have hF35_ := hF_40.put hM31_ (Or.inl ⟨rfl, rfl⟩)
            have kf36_ : (M30_.1 (50, 0, 0) 4).toInt = z17_.toInt := by rw [(show M30_.1 (50, 0, 0) 4 = M_40.1 (50, 0, 0) 4 by rw [hM31_]; exact up_ne (fun q => absurd q.2 (lf_c_X12_feed_5 M30_ M_40 z17_ z21_ z28_ j32_ e18_ kf19_ h20_ h22_ h33_ hM31_)))]; exact kf19_
            refine w_aload_n dX12_feed_73 rfl 1 rfl ?_
            refine w_getR (c' := (50, 0, 0)) fl_RX12_9 rfl rfl ic_12 dX12_feed_74 rfl ?_
            refine w_iconst (v := 4) dX12_feed_77 (by decide) ?_
            refine w_dup2 dX12_feed_78 rfl rfl ?_
            refine w_ialdL 4 rfl rfl ic_50 li_4 (by decide) dX12_feed_79 (fun z37_ e38_ => ?_)
            have h39_ : z37_.toInt = z17_.toInt := by rw [e38_]; exact kf36_
            have h40_ : 0 ≤ z37_.toInt ∧ z37_.toInt ≤ 48 := pn_4 hI34_ e38_
            refine w_iconst (v := 1) dX12_feed_80 (by decide) ?_
            refine w_iaddB dX12_feed_81 (rfl : z37_.toInt = z37_.toInt) li_1 (lf_c_X12_feed_6 M30_ M_40 z17_ z21_ z28_ j32_ z37_ e18_ kf19_ h20_ h22_ h33_ hM31_ kf36_ e38_ h39_ h40_) (fun z41_ h42_ => ?_)
            refine w_iastL 4 DD_nd rfl rfl ic_50 li_4 (by decide) dX12_feed_82 (fun M43_ hM44_ => ?_)
            have hI45_ := hI34_.put50 hM44_ (lf_c_X12_feed_7 M30_ M43_ M_40 Mz u z6_ z9_ v4_40 z17_ z21_ z23_ z28_ j32_ z37_ z41_ h4_ e7_ h8_ h10_ h11_ hv0_40 hv1_40 hv2_40 h13_ e18_ kf19_ h20_ h22_ h24_ h33_ hM31_ kf36_ e38_ h39_ h40_ h42_ hM44_)
            have hF46_ := hF35_.put hM44_ (Or.inl ⟨rfl, rfl⟩)
            have kf47_ : (M43_.1 (50, 0, 0) 4).toInt = z41_.toInt := by rw [hM44_, up_same]
            refine w_iincB (j := 0) (f := fun z48_ => [(4, vI z48_), (0, vR (12, 0, 0)), (1, vL v), (3, vI u)]) dX12_feed_83 rfl (by decide) (fun _ => rfl) (rfl : v4_40.toInt = v4_40.toInt) li_1 (lf_c_X12_feed_8 M_40 Mz u z6_ z9_ v4_40 z23_ h4_ e7_ h8_ h10_ h11_ hv0_40 hv1_40 hv2_40 h13_ h24_) (fun z48_ h49_ => ?_)
            refine w_goto (tgt := 40) dX12_feed_86 (by decide) ?_
            refine w_loc (ls' := [(4, vI z48_), (0, vR (12, 0, 0)), (1, vL v), (3, vI u)]) [0, 1, 2, 3] rfl ?_
            exact ih_40 M43_ hI45_ hF46_ z48_ (lf_c_X12_feed_9 M_40 Mz u z6_ z9_ v4_40 z23_ z48_ h4_ e7_ h8_ h10_ h11_ hv0_40 hv1_40 hv2_40 h13_ h24_ h49_) (lf_c_X12_feed_10 M_40 Mz u z6_ z9_ v4_40 z23_ z48_ h4_ e7_ h8_ h10_ h11_ hv0_40 hv1_40 hv2_40 h13_ h24_ h49_) (lf_c_X12_feed_11 M30_ M43_ M_40 Mz u z6_ z9_ v4_40 z17_ z21_ z23_ z28_ j32_ z37_ z41_ z48_ h4_ e7_ h8_ h10_ h11_ hv0_40 hv1_40 hv2_40 h13_ e18_ kf19_ h20_ h22_ h24_ h33_ hM31_ kf36_ e38_ h39_ h40_ h42_ hM44_ kf47_ h49_) (Nat.lt_of_lt_of_le (lf_c_X12_feed_12 M_40 Mz u z6_ z9_ v4_40 z23_ z48_ h4_ e7_ h8_ h10_ h11_ hv0_40 hv1_40 hv2_40 h13_ h24_ h49_) (Nat.le_of_lt_succ hm_40))
      exact lp12_ _ Mz hIz hFz 0 (lf_c_X12_feed_13 ) (lf_c_X12_feed_14 Mz u z6_ z9_ h4_ e7_ h8_ h10_ h11_) (lf_c_X12_feed_15 Mz u z6_ z9_ h4_ e7_ h8_ h10_ h11_) (Nat.lt_succ_self _)
    · refine w_aload_n dX12_feed_30 rfl 0 rfl ?_
      refine w_ldc (v := (-1000004)) m_1456 dX12_feed_31 ?_
      refine w_callV (as := [vI (-1000004)]) (rest := []) (c_X12_finding l G cy ad d (-1000004) Mz hIz (by first | decide | (unfold vF; omega) | (unfold vRw; omega))) kV_X12_finding (by decide +kernel) (Nat.le_of_ble_eq_true rfl) m_1434 rfl rfl rfl ic_12 rfl rfl (by decide) (Nat.le_of_ble_eq_true rfl) dX12_feed_33 (fun r50_ M51_ q52_ => ?_)
      obtain ⟨hI54_, hF55_, h53_⟩ := q52_
      have hF56_ := hFz.tr hF55_ (fun c k => (fun h => h.elim (fun h => (Or.inr (Or.inl ⟨h.1, h.2⟩))) (fun h => h.elim)))
      simp only [li_m1000004] at h53_
      exact w_iret rfl dX12_feed_36 ⟨hI54_, hF56_, trivial⟩
  · simp only [li_1, li_8] at h4_
    refine w_if_ne (tgt := 17) dX12_feed_7 (by decide) li_0 (fun h9 => (absurd h9 (by decide))) (fun h57_ => ?_)
    refine w_aload_n dX12_feed_10 rfl 0 rfl ?_
    refine w_ldc (v := (-1000001)) m_1433 dX12_feed_11 ?_
    refine w_callV (as := [vI (-1000001)]) (rest := []) (c_X12_finding l G cy ad d (-1000001) Mz hIz (by first | decide | (unfold vF; omega) | (unfold vRw; omega))) kV_X12_finding (by decide +kernel) (Nat.le_of_ble_eq_true rfl) m_1434 rfl rfl rfl ic_12 rfl rfl (by decide) (Nat.le_of_ble_eq_true rfl) dX12_feed_13 (fun r58_ M59_ q60_ => ?_)
    obtain ⟨hI62_, hF63_, h61_⟩ := q60_
    have hF64_ := hFz.tr hF63_ (fun c k => (fun h => h.elim (fun h => (Or.inr (Or.inl ⟨h.1, h.2⟩))) (fun h => h.elim)))
    simp only [li_m1000001] at h61_
    exact w_iret rfl dX12_feed_16 ⟨hI62_, hF64_, trivial⟩
