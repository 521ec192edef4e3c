def RK (k a : Int) (m : Nat) : Prop := (k = 0 ∧ 3 * a ≤ (m : Int)) ∨ ((1 ≤ k ∧ k ≤ 4) ∧ 3 * a + 1 ≤ (m : Int)) ∨ ((5 ≤ k ∧ k ≤ 7) ∧ 3 * a + 2 ≤ (m : Int))
def S_voD : rf → Nat → Prop := fun c k => (c.1 = 12 ∧ c.2.1 = 0 ∧ k = 26) ∨ (c.1 = 12 ∧ c.2.1 = 0 ∧ k = 28) ∨ (c.1 = 65 ∧ c.2.1 = 0) ∨ False
def BFC (l : Launch) (G : va_G) (cy : Nat → ClassId) (ad : rf → Nat) (N m : Nat) : Prop := ∀ (d : Nat) (v u t : Int32) (Mz : mM) (hIz : InvD Mz) (hk : 0 ≤ v.toInt ∧ v.toInt ≤ 7) (ha : 0 ≤ u.toInt ∧ u.toInt ≤ 3) (hr : RK v.toInt u.toInt m), WP DD l G cy ad yX12_bodyFrom cX12_bodyFrom 5 (some .int) (N + d) 0 [(0, vR (12, 0, 0)), (1, vI v), (2, vI u), (3, vI t)] [] Mz (fun r M' => InvD M' ∧ FR (S_voD) Mz M' ∧ True)
def BODC (l : Launch) (G : va_G) (cy : Nat → ClassId) (ad : rf → Nat) (N m : Nat) : Prop := ∀ (d : Nat) (v u t : Int32) (Mz : mM) (hIz : InvD Mz) (hk : 0 ≤ v.toInt ∧ v.toInt ≤ 7) (ha : 0 ≤ u.toInt ∧ u.toInt ≤ 3) (hr : RK v.toInt u.toInt m) (ho : ((v.toInt = 0 ∧ (u.toInt = 0 ∨ u.toInt = 1 ∨ u.toInt = 2 ∨ u.toInt = 3)) ∨ (v.toInt = 1 ∧ (u.toInt = 0 ∨ u.toInt = 3)) ∨ (v.toInt = 2 ∧ (u.toInt = 1)) ∨ (v.toInt = 3 ∧ (u.toInt = 0 ∨ u.toInt = 2)) ∨ (v.toInt = 4 ∧ (u.toInt = 2)) ∨ (v.toInt = 5 ∧ (u.toInt = 1)) ∨ (v.toInt = 6 ∧ (u.toInt = 1 ∨ u.toInt = 2)) ∨ (v.toInt = 7 ∧ (u.toInt = 3)))), WP DD l G cy ad yX12_body cX12_body 6 (some .int) (N + d) 0 [(0, vR (12, 0, 0)), (1, vI v), (2, vI u), (3, vI t)] [] Mz (fun r M' => InvD M' ∧ FR (S_voD) Mz M' ∧ True)
theorem lf_c_X12_bodyFrom_0  (m : Nat) (v : Int32) (u : Int32) (v4_3 : Int32) (r2_ : Int32) (hk : 0 ≤ v.toInt ∧ v.toInt ≤ 7) (ha : 0 ≤ u.toInt ∧ u.toInt ≤ 3) (hr : RK v.toInt u.toInt m) (hv0_3 : 0 ≤ v4_3.toInt ∧ v4_3.toInt ≤ 7) (hv1_3 : RK v4_3.toInt u.toInt m) (h5_ : 0 ≤ r2_.toInt ∧ r2_.toInt ≤ 1 ∧ (r2_.toInt = 0 ∨ ((v4_3.toInt = 0 ∧ (u.toInt = 0 ∨ u.toInt = 1 ∨ u.toInt = 2 ∨ u.toInt = 3)) ∨ (v4_3.toInt = 1 ∧ (u.toInt = 0 ∨ u.toInt = 3)) ∨ (v4_3.toInt = 2 ∧ (u.toInt = 1)) ∨ (v4_3.toInt = 3 ∧ (u.toInt = 0 ∨ u.toInt = 2)) ∨ (v4_3.toInt = 4 ∧ (u.toInt = 2)) ∨ (v4_3.toInt = 5 ∧ (u.toInt = 1)) ∨ (v4_3.toInt = 6 ∧ (u.toInt = 1 ∨ u.toInt = 2)) ∨ (v4_3.toInt = 7 ∧ (u.toInt = 3)))) ∧ (r2_.toInt = 0 → ¬ v4_3.toInt = 0)) (h6_ : ¬ r2_.toInt = 0) : ((v4_3.toInt = 0 ∧ (u.toInt = 0 ∨ u.toInt = 1 ∨ u.toInt = 2 ∨ u.toInt = 3)) ∨ (v4_3.toInt = 1 ∧ (u.toInt = 0 ∨ u.toInt = 3)) ∨ (v4_3.toInt = 2 ∧ (u.toInt = 1)) ∨ (v4_3.toInt = 3 ∧ (u.toInt = 0 ∨ u.toInt = 2)) ∨ (v4_3.toInt = 4 ∧ (u.toInt = 2)) ∨ (v4_3.toInt = 5 ∧ (u.toInt = 1)) ∨ (v4_3.toInt = 6 ∧ (u.toInt = 1 ∨ u.toInt = 2)) ∨ (v4_3.toInt = 7 ∧ (u.toInt = 3))) := by have r_v := rngI v; have r_u := rngI u; have r_v4_3 := rngI v4_3; have r_r2_ := rngI r2_; unfold RK at *; omega
theorem lf_c_X12_bodyFrom_1  (m : Nat) (v : Int32) (u : Int32) (v4_3 : Int32) (r2_ : Int32) (r18_ : Int32) (hk : 0 ≤ v.toInt ∧ v.toInt ≤ 7) (ha : 0 ≤ u.toInt ∧ u.toInt ≤ 3) (hr : RK v.toInt u.toInt m) (hv0_3 : 0 ≤ v4_3.toInt ∧ v4_3.toInt ≤ 7) (hv1_3 : RK v4_3.toInt u.toInt m) (h5_ : 0 ≤ r2_.toInt ∧ r2_.toInt ≤ 1 ∧ (r2_.toInt = 0 ∨ ((v4_3.toInt = 0 ∧ (u.toInt = 0 ∨ u.toInt = 1 ∨ u.toInt = 2 ∨ u.toInt = 3)) ∨ (v4_3.toInt = 1 ∧ (u.toInt = 0 ∨ u.toInt = 3)) ∨ (v4_3.toInt = 2 ∧ (u.toInt = 1)) ∨ (v4_3.toInt = 3 ∧ (u.toInt = 0 ∨ u.toInt = 2)) ∨ (v4_3.toInt = 4 ∧ (u.toInt = 2)) ∨ (v4_3.toInt = 5 ∧ (u.toInt = 1)) ∨ (v4_3.toInt = 6 ∧ (u.toInt = 1 ∨ u.toInt = 2)) ∨ (v4_3.toInt = 7 ∧ (u.toInt = 3)))) ∧ (r2_.toInt = 0 → ¬ v4_3.toInt = 0)) (h6_ : r2_.toInt = 0) (h21_ : -1 ≤ r18_.toInt ∧ r18_.toInt ≤ 3 ∧ (0 ≤ v4_3.toInt → r18_.toInt < v4_3.toInt) ∧ (0 < v4_3.toInt → 0 ≤ r18_.toInt)) : 0 ≤ r18_.toInt ∧ r18_.toInt ≤ 7 := by have r_v := rngI v; have r_u := rngI u; have r_v4_3 := rngI v4_3; have r_r2_ := rngI r2_; have r_r18_ := rngI r18_; unfold RK at *; omega
theorem lf_c_X12_bodyFrom_2  (m : Nat) (v : Int32) (u : Int32) (v4_3 : Int32) (r2_ : Int32) (r18_ : Int32) (hk : 0 ≤ v.toInt ∧ v.toInt ≤ 7) (ha : 0 ≤ u.toInt ∧ u.toInt ≤ 3) (hr : RK v.toInt u.toInt m) (hv0_3 : 0 ≤ v4_3.toInt ∧ v4_3.toInt ≤ 7) (hv1_3 : RK v4_3.toInt u.toInt m) (h5_ : 0 ≤ r2_.toInt ∧ r2_.toInt ≤ 1 ∧ (r2_.toInt = 0 ∨ ((v4_3.toInt = 0 ∧ (u.toInt = 0 ∨ u.toInt = 1 ∨ u.toInt = 2 ∨ u.toInt = 3)) ∨ (v4_3.toInt = 1 ∧ (u.toInt = 0 ∨ u.toInt = 3)) ∨ (v4_3.toInt = 2 ∧ (u.toInt = 1)) ∨ (v4_3.toInt = 3 ∧ (u.toInt = 0 ∨ u.toInt = 2)) ∨ (v4_3.toInt = 4 ∧ (u.toInt = 2)) ∨ (v4_3.toInt = 5 ∧ (u.toInt = 1)) ∨ (v4_3.toInt = 6 ∧ (u.toInt = 1 ∨ u.toInt = 2)) ∨ (v4_3.toInt = 7 ∧ (u.toInt = 3)))) ∧ (r2_.toInt = 0 → ¬ v4_3.toInt = 0)) (h6_ : r2_.toInt = 0) (h21_ : -1 ≤ r18_.toInt ∧ r18_.toInt ≤ 3 ∧ (0 ≤ v4_3.toInt → r18_.toInt < v4_3.toInt) ∧ (0 < v4_3.toInt → 0 ≤ r18_.toInt)) : RK r18_.toInt u.toInt m := by have r_v := rngI v; have r_u := rngI u; have r_v4_3 := rngI v4_3; have r_r2_ := rngI r2_; have r_r18_ := rngI r18_; unfold RK at *; omega
theorem lf_c_X12_bodyFrom_3  (m : Nat) (v : Int32) (u : Int32) (v4_3 : Int32) (r2_ : Int32) (r18_ : Int32) (hk : 0 ≤ v.toInt ∧ v.toInt ≤ 7) (ha : 0 ≤ u.toInt ∧ u.toInt ≤ 3) (hr : RK v.toInt u.toInt m) (hv0_3 : 0 ≤ v4_3.toInt ∧ v4_3.toInt ≤ 7) (hv1_3 : RK v4_3.toInt u.toInt m) (h5_ : 0 ≤ r2_.toInt ∧ r2_.toInt ≤ 1 ∧ (r2_.toInt = 0 ∨ ((v4_3.toInt = 0 ∧ (u.toInt = 0 ∨ u.toInt = 1 ∨ u.toInt = 2 ∨ u.toInt = 3)) ∨ (v4_3.toInt = 1 ∧ (u.toInt = 0 ∨ u.toInt = 3)) ∨ (v4_3.toInt = 2 ∧ (u.toInt = 1)) ∨ (v4_3.toInt = 3 ∧ (u.toInt = 0 ∨ u.toInt = 2)) ∨ (v4_3.toInt = 4 ∧ (u.toInt = 2)) ∨ (v4_3.toInt = 5 ∧ (u.toInt = 1)) ∨ (v4_3.toInt = 6 ∧ (u.toInt = 1 ∨ u.toInt = 2)) ∨ (v4_3.toInt = 7 ∧ (u.toInt = 3)))) ∧ (r2_.toInt = 0 → ¬ v4_3.toInt = 0)) (h6_ : r2_.toInt = 0) (h21_ : -1 ≤ r18_.toInt ∧ r18_.toInt ≤ 3 ∧ (0 ≤ v4_3.toInt → r18_.toInt < v4_3.toInt) ∧ (0 < v4_3.toInt → 0 ≤ r18_.toInt)) : (r18_.toInt).toNat < (v4_3.toInt).toNat := by have r_v := rngI v; have r_u := rngI u; have r_v4_3 := rngI v4_3; have r_r2_ := rngI r2_; have r_r18_ := rngI r18_; unfold RK at *; omega
set_option maxHeartbeats 4000000 in
set_option maxRecDepth 100000 in
theorem c_X12_bodyFrom (l : Launch) (G : va_G) (cy : Nat → ClassId) (ad : rf → Nat) (d : Nat) (N : Nat) (m : Nat) (v : Int32) (u : Int32) (t : Int32) (Mz : mM) (hIz : InvD Mz) (hO : BODC l G cy ad N m) (hk : 0 ≤ v.toInt ∧ v.toInt ≤ 7) (ha : 0 ≤ u.toInt ∧ u.toInt ≤ 3) (hr : RK v.toInt u.toInt m) : WP DD l G cy ad yX12_bodyFrom cX12_bodyFrom 5 (some .int) ((N + d) + 1) 0 [(0, vR (12, 0, 0)), (1, vI v), (2, vI u), (3, vI t)] [] Mz (fun r M' => InvD M' ∧ FR (S_voD) Mz M' ∧ True) := by
  have hFz : FR (S_voD) Mz Mz := FR.self
  refine w_iload_n dX12_bodyFrom_0 rfl 1 rfl ?_
  refine w_istore (ls' := [(4, vI v), (0, vR (12, 0, 0)), (1, vI v), (2, vI u), (3, vI t)]) dX12_bodyFrom_1 (by decide) rfl ?_
  have lp1_ : ∀ (nn_3 : Nat) (v4_3 : Int32) (hv0_3 : 0 ≤ v4_3.toInt ∧ v4_3.toInt ≤ 7) (hv1_3 : RK v4_3.toInt u.toInt m), (v4_3.toInt).toNat < nn_3 → WP DD l G cy ad yX12_bodyFrom cX12_bodyFrom 5 (some .int) ((N + d) + 1) 3 [(4, vI v4_3), (0, vR (12, 0, 0)), (1, vI v), (2, vI u), (3, vI t)] [] Mz (fun r M' => InvD M' ∧ FR (S_voD) Mz M' ∧ True) := by
    intro nn_3
    induction nn_3 with
    | zero => intro v4_3 hv0_3 hv1_3 hm_3; exact absurd hm_3 (Nat.not_lt_zero _)
    | succ nn_3 ih_3 =>
      intro v4_3 hv0_3 hv1_3 hm_3
      refine w_iload dX12_bodyFrom_3 0 rfl ?_
      refine w_iload_n dX12_bodyFrom_5 rfl 3 rfl ?_
      refine w_callS (as := [vI v4_3, vI u]) (rest := []) (c_X12_hasOwn l G cy ad (N + d) v4_3 u Mz hIz hv0_3 ha) kS_X12_hasOwn (by decide +kernel) (Nat.le_of_ble_eq_true rfl) m_1811 rfl rfl (by decide) (Nat.le_of_ble_eq_true rfl) dX12_bodyFrom_6 (fun r2_ M3_ q4_ => ?_)
      obtain ⟨rfl, h5_⟩ := q4_
      refine w_if_ne (tgt := 22) dX12_bodyFrom_9 (by decide) (rfl : r2_.toInt = r2_.toInt) (fun h6_ => ?_) (fun h6_ => ?_)
      · refine w_aload_n dX12_bodyFrom_22 rfl 1 rfl ?_
        refine w_getI fl_RX12_336 rfl rfl ic_12 dX12_bodyFrom_23 (fun z7_ e8_ => ?_)
        have h9_ : 0 ≤ z7_.toInt ∧ z7_.toInt ≤ 1 := ofEq (P := fun v => 0 ≤ v.toInt ∧ v.toInt ≤ 1) e8_ (hIz.1 (12, 0, 0) 28)
        refine w_if_eq (tgt := 33) dX12_bodyFrom_26 (by decide) (rfl : z7_.toInt = z7_.toInt) (fun h10_ => ?_) (fun h10_ => ?_)
        · refine w_aload_n dX12_bodyFrom_33 rfl 1 rfl ?_
          refine w_iload dX12_bodyFrom_34 0 rfl ?_
          refine w_iload_n dX12_bodyFrom_36 rfl 3 rfl ?_
          refine w_iload_n dX12_bodyFrom_37 rfl 4 rfl ?_
          refine w_callV (as := [vI v4_3, vI u, vI t]) (rest := []) (hO d v4_3 u t Mz hIz hv0_3 ha hv1_3 (lf_c_X12_bodyFrom_0 m v u v4_3 r2_ hk ha hr hv0_3 hv1_3 h5_ h6_)) kV_X12_body (by decide +kernel) (Nat.le_of_ble_eq_true rfl) m_1814 rfl rfl rfl ic_12 rfl rfl (by decide) (Nat.le_of_ble_eq_true rfl) dX12_bodyFrom_38 (fun r11_ M12_ q13_ => ?_)
          obtain ⟨hI15_, hF16_, h14_⟩ := q13_
          have hF17_ := hFz.tr hF16_ (fun c k => (fun h => h.elim (fun h => (Or.inl ⟨h.1, h.2.1, h.2.2⟩)) (fun h => h.elim (fun h => (Or.inr (Or.inl ⟨h.1, h.2.1, h.2.2⟩))) (fun h => h.elim (fun h => (Or.inr (Or.inr (Or.inl ⟨h.1, h.2⟩)))) (fun h => h.elim)))))
          exact w_iret rfl dX12_bodyFrom_41 ⟨hI15_, hF17_, trivial⟩
        · refine w_iconst (v := 0) dX12_bodyFrom_29 (by decide) ?_
          refine w_goto (tgt := 41) dX12_bodyFrom_30 (by decide) ?_
          exact w_iret rfl dX12_bodyFrom_41 ⟨hIz, hFz, trivial⟩
      · refine w_iload dX12_bodyFrom_12 0 rfl ?_
        refine w_callS (as := [vI v4_3]) (rest := []) (c_above2 l G cy ad (N + d) v4_3 Mz hIz) kS_X12_above (by decide +kernel) (Nat.le_of_ble_eq_true rfl) m_1535 rfl rfl (by decide) (Nat.le_of_ble_eq_true rfl) dX12_bodyFrom_14 (fun r18_ M19_ q20_ => ?_)
        obtain ⟨rfl, h21_⟩ := q20_
        refine w_istore (ls' := [(4, vI r18_), (0, vR (12, 0, 0)), (1, vI v), (2, vI u), (3, vI t)]) dX12_bodyFrom_17 (by decide) rfl ?_
        refine w_goto (tgt := 3) dX12_bodyFrom_19 (by decide) ?_
        refine w_loc (ls' := [(4, vI r18_), (0, vR (12, 0, 0)), (1, vI v), (2, vI u), (3, vI t)]) [0, 1, 2, 3, 4] rfl ?_
        exact ih_3 r18_ (lf_c_X12_bodyFrom_1 m v u v4_3 r2_ r18_ hk ha hr hv0_3 hv1_3 h5_ h6_ h21_) (lf_c_X12_bodyFrom_2 m v u v4_3 r2_ r18_ hk ha hr hv0_3 hv1_3 h5_ h6_ h21_) (Nat.lt_of_lt_of_le (lf_c_X12_bodyFrom_3 m v u v4_3 r2_ r18_ hk ha hr hv0_3 hv1_3 h5_ h6_ h21_) (Nat.le_of_lt_succ hm_3))
  exact lp1_ _ v hk hr (Nat.lt_succ_self _)
theorem lf_c_X12_voiced_0  (m : Nat) (v : Int32) (r4_ : Int32) (ha : 0 ≤ v.toInt ∧ v.toInt ≤ 3) (hr : 3 * v.toInt + 2 ≤ ((m : Nat) : Int)) (h7_ : 0 ≤ r4_.toInt ∧ r4_.toInt ≤ 7) : RK r4_.toInt v.toInt m := by have r_v := rngI v; have r_r4_ := rngI r4_; unfold RK at *; omega
set_option maxHeartbeats 4000000 in
set_option maxRecDepth 100000 in
theorem c_X12_voiced (l : Launch) (G : va_G) (cy : Nat → ClassId) (ad : rf → Nat) (d : Nat) (N : Nat) (m : Nat) (v : Int32) (u : Int32) (Mz : mM) (hIz : InvD Mz) (hB : BFC l G cy ad N m) (ha : 0 ≤ v.toInt ∧ v.toInt ≤ 3) (hr : 3 * v.toInt + 2 ≤ ((m : Nat) : Int)) : WP DD l G cy ad yX12_voiced cX12_voiced 3 (some .int) ((N + d) + 2) 0 [(0, vR (12, 0, 0)), (1, vI v), (2, vI u)] [] Mz (fun r M' => InvD M' ∧ FR (S_voD) Mz M' ∧ True) := by
  have hFz : FR (S_voD) Mz Mz := FR.self
  refine w_aload_n dX12_voiced_0 rfl 0 rfl ?_
  refine w_aload_n dX12_voiced_1 rfl 0 rfl ?_
  refine w_aload_n dX12_voiced_2 rfl 0 rfl ?_
  refine w_getI fl_RX12_327 rfl rfl ic_12 dX12_voiced_3 (fun z1_ e2_ => ?_)
  have h3_ : 0 ≤ z1_.toInt ∧ z1_.toInt ≤ 7 := ofEq (P := fun v => 0 ≤ v.toInt ∧ v.toInt ≤ 7) e2_ (hIz.1 (12, 0, 0) 27)
  refine w_callV (as := [vI z1_]) (rest := [vR (12, 0, 0)]) (c_X12_kindOf l G cy ad (N + d) z1_ Mz hIz h3_) kV_X12_kindOf (by decide +kernel) (Nat.le_of_ble_eq_true rfl) m_1517 rfl rfl rfl ic_12 rfl rfl (by decide) (Nat.le_of_ble_eq_true rfl) dX12_voiced_6 (fun r4_ M5_ q6_ => ?_)
  obtain ⟨rfl, h7_⟩ := q6_
  refine w_iload_n dX12_voiced_9 rfl 1 rfl ?_
  refine w_iload_n dX12_voiced_10 rfl 2 rfl ?_
  refine w_callV (as := [vI r4_, vI v, vI u]) (rest := []) (hB (d + 1) r4_ v u Mz hIz h7_ ha (lf_c_X12_voiced_0 m v r4_ ha hr h7_)) kV_X12_bodyFrom (by decide +kernel) (Nat.le_of_ble_eq_true rfl) m_1807 rfl rfl rfl ic_12 rfl rfl (by decide) (Nat.le_of_ble_eq_true rfl) dX12_voiced_11 (fun r8_ M9_ q10_ => ?_)
  obtain ⟨hI12_, hF13_, h11_⟩ := q10_
  have hF14_ := hFz.tr hF13_ (fun c k => (fun h => h.elim (fun h => (Or.inl ⟨h.1, h.2.1, h.2.2⟩)) (fun h => h.elim (fun h => (Or.inr (Or.inl ⟨h.1, h.2.1, h.2.2⟩))) (fun h => h.elim (fun h => (Or.inr (Or.inr (Or.inl ⟨h.1, h.2⟩)))) (fun h => h.elim)))))
  exact w_iret rfl dX12_voiced_14 ⟨hI12_, hF14_, trivial⟩
theorem lf_c_X12_body_0 (Mz : mM) (z1_ : Int32) (r5_ : Int32) (e2_ : z1_ = Mz.1 (12, 0, 0) 27) (h3_ : 0 ≤ z1_.toInt ∧ z1_.toInt ≤ 7) (kf4_ : (Mz.1 (12, 0, 0) 27).toInt = z1_.toInt) (h8_ : r5_.toInt = 180 + 9 * z1_.toInt) : -2147483648 ≤ r5_.toInt + 3 ∧ r5_.toInt + 3 < 2147483648 := by have r_z1_ := rngI z1_; have r_r5_ := rngI r5_; subst e2_; omega
theorem lf_c_X12_body_1 (Mz : mM) (z1_ : Int32) (r5_ : Int32) (z9_ : Int32) (e2_ : z1_ = Mz.1 (12, 0, 0) 27) (h3_ : 0 ≤ z1_.toInt ∧ z1_.toInt ≤ 7) (kf4_ : (Mz.1 (12, 0, 0) 27).toInt = z1_.toInt) (h8_ : r5_.toInt = 180 + 9 * z1_.toInt) (h10_ : z9_.toInt = r5_.toInt + 3) : 0 ≤ z9_.toInt ∧ z9_.toInt < ((3567 : Nat) : Int) := by have r_z1_ := rngI z1_; have r_r5_ := rngI r5_; have r_z9_ := rngI z9_; subst e2_; omega
theorem lf_c_X12_body_2  (m : Nat) (v : Int32) (u : Int32) (hk : 0 ≤ v.toInt ∧ v.toInt ≤ 7) (ha : 0 ≤ u.toInt ∧ u.toInt ≤ 3) (hr : RK v.toInt u.toInt m) (ho : ((v.toInt = 0 ∧ (u.toInt = 0 ∨ u.toInt = 1 ∨ u.toInt = 2 ∨ u.toInt = 3)) ∨ (v.toInt = 1 ∧ (u.toInt = 0 ∨ u.toInt = 3)) ∨ (v.toInt = 2 ∧ (u.toInt = 1)) ∨ (v.toInt = 3 ∧ (u.toInt = 0 ∨ u.toInt = 2)) ∨ (v.toInt = 4 ∧ (u.toInt = 2)) ∨ (v.toInt = 5 ∧ (u.toInt = 1)) ∨ (v.toInt = 6 ∧ (u.toInt = 1 ∨ u.toInt = 2)) ∨ (v.toInt = 7 ∧ (u.toInt = 3)))) : -2147483648 ≤ 4 * v.toInt ∧ 4 * v.toInt < 2147483648 := by have r_v := rngI v; have r_u := rngI u; unfold RK at *; omega
theorem lf_c_X12_body_3  (m : Nat) (v : Int32) (u : Int32) (z15_ : Int32) (hk : 0 ≤ v.toInt ∧ v.toInt ≤ 7) (ha : 0 ≤ u.toInt ∧ u.toInt ≤ 3) (hr : RK v.toInt u.toInt m) (ho : ((v.toInt = 0 ∧ (u.toInt = 0 ∨ u.toInt = 1 ∨ u.toInt = 2 ∨ u.toInt = 3)) ∨ (v.toInt = 1 ∧ (u.toInt = 0 ∨ u.toInt = 3)) ∨ (v.toInt = 2 ∧ (u.toInt = 1)) ∨ (v.toInt = 3 ∧ (u.toInt = 0 ∨ u.toInt = 2)) ∨ (v.toInt = 4 ∧ (u.toInt = 2)) ∨ (v.toInt = 5 ∧ (u.toInt = 1)) ∨ (v.toInt = 6 ∧ (u.toInt = 1 ∨ u.toInt = 2)) ∨ (v.toInt = 7 ∧ (u.toInt = 3)))) (h16_ : z15_.toInt = 4 * v.toInt) : -2147483648 ≤ z15_.toInt + u.toInt ∧ z15_.toInt + u.toInt < 2147483648 := by have r_v := rngI v; have r_u := rngI u; have r_z15_ := rngI z15_; unfold RK at *; omega
theorem lf_c_X12_body_4  (m : Nat) (v : Int32) (u : Int32) (z15_ : Int32) (z17_ : Int32) (hk : 0 ≤ v.toInt ∧ v.toInt ≤ 7) (ha : 0 ≤ u.toInt ∧ u.toInt ≤ 3) (hr : RK v.toInt u.toInt m) (ho : ((v.toInt = 0 ∧ (u.toInt = 0 ∨ u.toInt = 1 ∨ u.toInt = 2 ∨ u.toInt = 3)) ∨ (v.toInt = 1 ∧ (u.toInt = 0 ∨ u.toInt = 3)) ∨ (v.toInt = 2 ∧ (u.toInt = 1)) ∨ (v.toInt = 3 ∧ (u.toInt = 0 ∨ u.toInt = 2)) ∨ (v.toInt = 4 ∧ (u.toInt = 2)) ∨ (v.toInt = 5 ∧ (u.toInt = 1)) ∨ (v.toInt = 6 ∧ (u.toInt = 1 ∨ u.toInt = 2)) ∨ (v.toInt = 7 ∧ (u.toInt = 3)))) (h16_ : z15_.toInt = 4 * v.toInt) (h18_ : z17_.toInt = z15_.toInt + u.toInt) : z17_.toInt = 0 ∨ z17_.toInt = 1 ∨ z17_.toInt = 2 ∨ z17_.toInt = 3 ∨ z17_.toInt = 4 ∨ z17_.toInt = 7 ∨ z17_.toInt = 9 ∨ z17_.toInt = 12 ∨ z17_.toInt = 14 ∨ z17_.toInt = 18 ∨ z17_.toInt = 21 ∨ z17_.toInt = 25 ∨ z17_.toInt = 26 ∨ z17_.toInt = 31 := by have r_v := rngI v; have r_u := rngI u; have r_z15_ := rngI z15_; have r_z17_ := rngI z17_; unfold RK at *; omega
theorem lf_c_X12_body_5  (m : Nat) (v : Int32) (u : Int32) (z15_ : Int32) (z17_ : Int32) (hk : 0 ≤ v.toInt ∧ v.toInt ≤ 7) (ha : 0 ≤ u.toInt ∧ u.toInt ≤ 3) (hr : RK v.toInt u.toInt m) (ho : ((v.toInt = 0 ∧ (u.toInt = 0 ∨ u.toInt = 1 ∨ u.toInt = 2 ∨ u.toInt = 3)) ∨ (v.toInt = 1 ∧ (u.toInt = 0 ∨ u.toInt = 3)) ∨ (v.toInt = 2 ∧ (u.toInt = 1)) ∨ (v.toInt = 3 ∧ (u.toInt = 0 ∨ u.toInt = 2)) ∨ (v.toInt = 4 ∧ (u.toInt = 2)) ∨ (v.toInt = 5 ∧ (u.toInt = 1)) ∨ (v.toInt = 6 ∧ (u.toInt = 1 ∨ u.toInt = 2)) ∨ (v.toInt = 7 ∧ (u.toInt = 3)))) (h16_ : z15_.toInt = 4 * v.toInt) (h18_ : z17_.toInt = z15_.toInt + u.toInt) (e19_ : z17_.toInt = 1) : 3 * 0 + 2 ≤ (((m - 1) : Nat) : Int) := by have r_v := rngI v; have r_u := rngI u; have r_z15_ := rngI z15_; have r_z17_ := rngI z17_; unfold RK at *; omega
theorem lf_c_X12_body_6  (m : Nat) (v : Int32) (u : Int32) (z15_ : Int32) (z17_ : Int32) (hk : 0 ≤ v.toInt ∧ v.toInt ≤ 7) (ha : 0 ≤ u.toInt ∧ u.toInt ≤ 3) (hr : RK v.toInt u.toInt m) (ho : ((v.toInt = 0 ∧ (u.toInt = 0 ∨ u.toInt = 1 ∨ u.toInt = 2 ∨ u.toInt = 3)) ∨ (v.toInt = 1 ∧ (u.toInt = 0 ∨ u.toInt = 3)) ∨ (v.toInt = 2 ∧ (u.toInt = 1)) ∨ (v.toInt = 3 ∧ (u.toInt = 0 ∨ u.toInt = 2)) ∨ (v.toInt = 4 ∧ (u.toInt = 2)) ∨ (v.toInt = 5 ∧ (u.toInt = 1)) ∨ (v.toInt = 6 ∧ (u.toInt = 1 ∨ u.toInt = 2)) ∨ (v.toInt = 7 ∧ (u.toInt = 3)))) (h16_ : z15_.toInt = 4 * v.toInt) (h18_ : z17_.toInt = z15_.toInt + u.toInt) (e19_ : z17_.toInt = 1) : m - 1 + 1 = m := by have r_v := rngI v; have r_u := rngI u; have r_z15_ := rngI z15_; have r_z17_ := rngI z17_; unfold RK at *; omega
theorem lf_c_X12_body_7  (m : Nat) (v : Int32) (u : Int32) (z15_ : Int32) (z17_ : Int32) (hk : 0 ≤ v.toInt ∧ v.toInt ≤ 7) (ha : 0 ≤ u.toInt ∧ u.toInt ≤ 3) (hr : RK v.toInt u.toInt m) (ho : ((v.toInt = 0 ∧ (u.toInt = 0 ∨ u.toInt = 1 ∨ u.toInt = 2 ∨ u.toInt = 3)) ∨ (v.toInt = 1 ∧ (u.toInt = 0 ∨ u.toInt = 3)) ∨ (v.toInt = 2 ∧ (u.toInt = 1)) ∨ (v.toInt = 3 ∧ (u.toInt = 0 ∨ u.toInt = 2)) ∨ (v.toInt = 4 ∧ (u.toInt = 2)) ∨ (v.toInt = 5 ∧ (u.toInt = 1)) ∨ (v.toInt = 6 ∧ (u.toInt = 1 ∨ u.toInt = 2)) ∨ (v.toInt = 7 ∧ (u.toInt = 3)))) (h16_ : z15_.toInt = 4 * v.toInt) (h18_ : z17_.toInt = z15_.toInt + u.toInt) (e19_ : z17_.toInt = 2) : 3 * 1 + 2 ≤ (((m - 1) : Nat) : Int) := by have r_v := rngI v; have r_u := rngI u; have r_z15_ := rngI z15_; have r_z17_ := rngI z17_; unfold RK at *; omega
theorem lf_c_X12_body_8  (m : Nat) (v : Int32) (u : Int32) (z15_ : Int32) (z17_ : Int32) (hk : 0 ≤ v.toInt ∧ v.toInt ≤ 7) (ha : 0 ≤ u.toInt ∧ u.toInt ≤ 3) (hr : RK v.toInt u.toInt m) (ho : ((v.toInt = 0 ∧ (u.toInt = 0 ∨ u.toInt = 1 ∨ u.toInt = 2 ∨ u.toInt = 3)) ∨ (v.toInt = 1 ∧ (u.toInt = 0 ∨ u.toInt = 3)) ∨ (v.toInt = 2 ∧ (u.toInt = 1)) ∨ (v.toInt = 3 ∧ (u.toInt = 0 ∨ u.toInt = 2)) ∨ (v.toInt = 4 ∧ (u.toInt = 2)) ∨ (v.toInt = 5 ∧ (u.toInt = 1)) ∨ (v.toInt = 6 ∧ (u.toInt = 1 ∨ u.toInt = 2)) ∨ (v.toInt = 7 ∧ (u.toInt = 3)))) (h16_ : z15_.toInt = 4 * v.toInt) (h18_ : z17_.toInt = z15_.toInt + u.toInt) (e19_ : z17_.toInt = 2) : m - 1 + 1 = m := by have r_v := rngI v; have r_u := rngI u; have r_z15_ := rngI z15_; have r_z17_ := rngI z17_; unfold RK at *; omega
theorem lf_c_X12_body_9 (M76_ : mM) (z82_ : Int32) (e83_ : z82_ = M76_.1 (12, 0, 0) 28) (h84_ : 0 ≤ z82_.toInt ∧ z82_.toInt ≤ 1) (h85_ : z82_.toInt = 0) (h9 : ¬ z82_.toInt = 0) : False := by have r_z82_ := rngI z82_; subst e83_; omega
theorem lf_c_X12_body_10 (M64_ : mM) (M76_ : mM) (Mz : mM) (z1_ : Int32) (r5_ : Int32) (z9_ : Int32) (j13_ : Nat) (z11_ : Int32) (z71_ : Int32) (z87_ : Int32) (e2_ : z1_ = Mz.1 (12, 0, 0) 27) (h3_ : 0 ≤ z1_.toInt ∧ z1_.toInt ≤ 7) (kf4_ : (Mz.1 (12, 0, 0) 27).toInt = z1_.toInt) (h8_ : r5_.toInt = 180 + 9 * z1_.toInt) (h10_ : z9_.toInt = r5_.toInt + 3) (h14_ : (j13_ : Int) = z9_.toInt) (e12_ : z11_ = Mz.1 (50, 0, 0) j13_) (kf70_ : (M64_.1 (12, 0, 0) 27).toInt = z1_.toInt) (e72_ : z71_ = M64_.1 (12, 0, 0) 27) (h73_ : 0 ≤ z71_.toInt ∧ z71_.toInt ≤ 7) (h74_ : z71_.toInt = z1_.toInt) (h75_ : ¬ z71_.toInt = 3) (kf80_ : (M76_.1 (12, 0, 0) 27).toInt = z1_.toInt) (e88_ : z87_ = M76_.1 (12, 0, 0) 27) (h89_ : 0 ≤ z87_.toInt ∧ z87_.toInt ≤ 7) (h90_ : z87_.toInt = z1_.toInt) : -2147483648 ≤ z87_.toInt - 3 ∧ z87_.toInt - 3 < 2147483648 := by have r_z1_ := rngI z1_; have r_r5_ := rngI r5_; have r_z9_ := rngI z9_; have r_z11_ := rngI z11_; have r_z71_ := rngI z71_; have r_z87_ := rngI z87_; subst e2_; subst e12_; subst e72_; subst e88_; omega
theorem lf_c_X12_body_11 (M64_ : mM) (M76_ : mM) (Mz : mM) (z1_ : Int32) (r5_ : Int32) (z9_ : Int32) (j13_ : Nat) (z11_ : Int32) (z71_ : Int32) (z87_ : Int32) (z91_ : Int32) (e2_ : z1_ = Mz.1 (12, 0, 0) 27) (h3_ : 0 ≤ z1_.toInt ∧ z1_.toInt ≤ 7) (kf4_ : (Mz.1 (12, 0, 0) 27).toInt = z1_.toInt) (h8_ : r5_.toInt = 180 + 9 * z1_.toInt) (h10_ : z9_.toInt = r5_.toInt + 3) (h14_ : (j13_ : Int) = z9_.toInt) (e12_ : z11_ = Mz.1 (50, 0, 0) j13_) (kf70_ : (M64_.1 (12, 0, 0) 27).toInt = z1_.toInt) (e72_ : z71_ = M64_.1 (12, 0, 0) 27) (h73_ : 0 ≤ z71_.toInt ∧ z71_.toInt ≤ 7) (h74_ : z71_.toInt = z1_.toInt) (h75_ : ¬ z71_.toInt = 3) (kf80_ : (M76_.1 (12, 0, 0) 27).toInt = z1_.toInt) (e88_ : z87_ = M76_.1 (12, 0, 0) 27) (h89_ : 0 ≤ z87_.toInt ∧ z87_.toInt ≤ 7) (h90_ : z87_.toInt = z1_.toInt) (h92_ : z91_.toInt = z87_.toInt - 3) : ¬ z91_.toInt = 0 := by have r_z1_ := rngI z1_; have r_r5_ := rngI r5_; have r_z9_ := rngI z9_; have r_z11_ := rngI z11_; have r_z71_ := rngI z71_; have r_z87_ := rngI z87_; have r_z91_ := rngI z91_; subst e2_; subst e12_; subst e72_; subst e88_; omega
theorem lf_c_X12_body_12 (M94_ : mM) (z100_ : Int32) (e101_ : z100_ = M94_.1 (12, 0, 0) 28) (h102_ : 0 ≤ z100_.toInt ∧ z100_.toInt ≤ 1) (h103_ : z100_.toInt = 1) (h9 : z100_.toInt = 0) : False := by have r_z100_ := rngI z100_; subst e101_; omega
theorem lf_c_X12_body_13  (m : Nat) (v : Int32) (u : Int32) (z15_ : Int32) (z17_ : Int32) (hk : 0 ≤ v.toInt ∧ v.toInt ≤ 7) (ha : 0 ≤ u.toInt ∧ u.toInt ≤ 3) (hr : RK v.toInt u.toInt m) (ho : ((v.toInt = 0 ∧ (u.toInt = 0 ∨ u.toInt = 1 ∨ u.toInt = 2 ∨ u.toInt = 3)) ∨ (v.toInt = 1 ∧ (u.toInt = 0 ∨ u.toInt = 3)) ∨ (v.toInt = 2 ∧ (u.toInt = 1)) ∨ (v.toInt = 3 ∧ (u.toInt = 0 ∨ u.toInt = 2)) ∨ (v.toInt = 4 ∧ (u.toInt = 2)) ∨ (v.toInt = 5 ∧ (u.toInt = 1)) ∨ (v.toInt = 6 ∧ (u.toInt = 1 ∨ u.toInt = 2)) ∨ (v.toInt = 7 ∧ (u.toInt = 3)))) (h16_ : z15_.toInt = 4 * v.toInt) (h18_ : z17_.toInt = z15_.toInt + u.toInt) (e19_ : z17_.toInt = 4) : RK 0 0 (m - 1) := by have r_v := rngI v; have r_u := rngI u; have r_z15_ := rngI z15_; have r_z17_ := rngI z17_; unfold RK at *; omega
theorem lf_c_X12_body_14  (m : Nat) (v : Int32) (u : Int32) (z15_ : Int32) (z17_ : Int32) (hk : 0 ≤ v.toInt ∧ v.toInt ≤ 7) (ha : 0 ≤ u.toInt ∧ u.toInt ≤ 3) (hr : RK v.toInt u.toInt m) (ho : ((v.toInt = 0 ∧ (u.toInt = 0 ∨ u.toInt = 1 ∨ u.toInt = 2 ∨ u.toInt = 3)) ∨ (v.toInt = 1 ∧ (u.toInt = 0 ∨ u.toInt = 3)) ∨ (v.toInt = 2 ∧ (u.toInt = 1)) ∨ (v.toInt = 3 ∧ (u.toInt = 0 ∨ u.toInt = 2)) ∨ (v.toInt = 4 ∧ (u.toInt = 2)) ∨ (v.toInt = 5 ∧ (u.toInt = 1)) ∨ (v.toInt = 6 ∧ (u.toInt = 1 ∨ u.toInt = 2)) ∨ (v.toInt = 7 ∧ (u.toInt = 3)))) (h16_ : z15_.toInt = 4 * v.toInt) (h18_ : z17_.toInt = z15_.toInt + u.toInt) (e19_ : z17_.toInt = 4) : m - 1 + 1 = m := by have r_v := rngI v; have r_u := rngI u; have r_z15_ := rngI z15_; have r_z17_ := rngI z17_; unfold RK at *; omega
theorem lf_c_X12_body_15  (m : Nat) (v : Int32) (u : Int32) (z15_ : Int32) (z17_ : Int32) (hk : 0 ≤ v.toInt ∧ v.toInt ≤ 7) (ha : 0 ≤ u.toInt ∧ u.toInt ≤ 3) (hr : RK v.toInt u.toInt m) (ho : ((v.toInt = 0 ∧ (u.toInt = 0 ∨ u.toInt = 1 ∨ u.toInt = 2 ∨ u.toInt = 3)) ∨ (v.toInt = 1 ∧ (u.toInt = 0 ∨ u.toInt = 3)) ∨ (v.toInt = 2 ∧ (u.toInt = 1)) ∨ (v.toInt = 3 ∧ (u.toInt = 0 ∨ u.toInt = 2)) ∨ (v.toInt = 4 ∧ (u.toInt = 2)) ∨ (v.toInt = 5 ∧ (u.toInt = 1)) ∨ (v.toInt = 6 ∧ (u.toInt = 1 ∨ u.toInt = 2)) ∨ (v.toInt = 7 ∧ (u.toInt = 3)))) (h16_ : z15_.toInt = 4 * v.toInt) (h18_ : z17_.toInt = z15_.toInt + u.toInt) (e19_ : z17_.toInt = 7) : RK 0 3 (m - 1) := by have r_v := rngI v; have r_u := rngI u; have r_z15_ := rngI z15_; have r_z17_ := rngI z17_; unfold RK at *; omega
theorem lf_c_X12_body_16  (m : Nat) (v : Int32) (u : Int32) (z15_ : Int32) (z17_ : Int32) (hk : 0 ≤ v.toInt ∧ v.toInt ≤ 7) (ha : 0 ≤ u.toInt ∧ u.toInt ≤ 3) (hr : RK v.toInt u.toInt m) (ho : ((v.toInt = 0 ∧ (u.toInt = 0 ∨ u.toInt = 1 ∨ u.toInt = 2 ∨ u.toInt = 3)) ∨ (v.toInt = 1 ∧ (u.toInt = 0 ∨ u.toInt = 3)) ∨ (v.toInt = 2 ∧ (u.toInt = 1)) ∨ (v.toInt = 3 ∧ (u.toInt = 0 ∨ u.toInt = 2)) ∨ (v.toInt = 4 ∧ (u.toInt = 2)) ∨ (v.toInt = 5 ∧ (u.toInt = 1)) ∨ (v.toInt = 6 ∧ (u.toInt = 1 ∨ u.toInt = 2)) ∨ (v.toInt = 7 ∧ (u.toInt = 3)))) (h16_ : z15_.toInt = 4 * v.toInt) (h18_ : z17_.toInt = z15_.toInt + u.toInt) (e19_ : z17_.toInt = 7) : m - 1 + 1 = m := by have r_v := rngI v; have r_u := rngI u; have r_z15_ := rngI z15_; have r_z17_ := rngI z17_; unfold RK at *; omega
theorem lf_c_X12_body_17  (m : Nat) (v : Int32) (u : Int32) (z15_ : Int32) (z17_ : Int32) (hk : 0 ≤ v.toInt ∧ v.toInt ≤ 7) (ha : 0 ≤ u.toInt ∧ u.toInt ≤ 3) (hr : RK v.toInt u.toInt m) (ho : ((v.toInt = 0 ∧ (u.toInt = 0 ∨ u.toInt = 1 ∨ u.toInt = 2 ∨ u.toInt = 3)) ∨ (v.toInt = 1 ∧ (u.toInt = 0 ∨ u.toInt = 3)) ∨ (v.toInt = 2 ∧ (u.toInt = 1)) ∨ (v.toInt = 3 ∧ (u.toInt = 0 ∨ u.toInt = 2)) ∨ (v.toInt = 4 ∧ (u.toInt = 2)) ∨ (v.toInt = 5 ∧ (u.toInt = 1)) ∨ (v.toInt = 6 ∧ (u.toInt = 1 ∨ u.toInt = 2)) ∨ (v.toInt = 7 ∧ (u.toInt = 3)))) (h16_ : z15_.toInt = 4 * v.toInt) (h18_ : z17_.toInt = z15_.toInt + u.toInt) (e19_ : z17_.toInt = 7) : 3 * 2 + 2 ≤ (((m - 1) : Nat) : Int) := by have r_v := rngI v; have r_u := rngI u; have r_z15_ := rngI z15_; have r_z17_ := rngI z17_; unfold RK at *; omega
theorem lf_c_X12_body_18  (m : Nat) (v : Int32) (u : Int32) (z15_ : Int32) (z17_ : Int32) (hk : 0 ≤ v.toInt ∧ v.toInt ≤ 7) (ha : 0 ≤ u.toInt ∧ u.toInt ≤ 3) (hr : RK v.toInt u.toInt m) (ho : ((v.toInt = 0 ∧ (u.toInt = 0 ∨ u.toInt = 1 ∨ u.toInt = 2 ∨ u.toInt = 3)) ∨ (v.toInt = 1 ∧ (u.toInt = 0 ∨ u.toInt = 3)) ∨ (v.toInt = 2 ∧ (u.toInt = 1)) ∨ (v.toInt = 3 ∧ (u.toInt = 0 ∨ u.toInt = 2)) ∨ (v.toInt = 4 ∧ (u.toInt = 2)) ∨ (v.toInt = 5 ∧ (u.toInt = 1)) ∨ (v.toInt = 6 ∧ (u.toInt = 1 ∨ u.toInt = 2)) ∨ (v.toInt = 7 ∧ (u.toInt = 3)))) (h16_ : z15_.toInt = 4 * v.toInt) (h18_ : z17_.toInt = z15_.toInt + u.toInt) (e19_ : z17_.toInt = 7) : m - 1 + 1 = m := by have r_v := rngI v; have r_u := rngI u; have r_z15_ := rngI z15_; have r_z17_ := rngI z17_; unfold RK at *; omega
theorem lf_c_X12_body_19  (m : Nat) (v : Int32) (u : Int32) (z15_ : Int32) (z17_ : Int32) (hk : 0 ≤ v.toInt ∧ v.toInt ≤ 7) (ha : 0 ≤ u.toInt ∧ u.toInt ≤ 3) (hr : RK v.toInt u.toInt m) (ho : ((v.toInt = 0 ∧ (u.toInt = 0 ∨ u.toInt = 1 ∨ u.toInt = 2 ∨ u.toInt = 3)) ∨ (v.toInt = 1 ∧ (u.toInt = 0 ∨ u.toInt = 3)) ∨ (v.toInt = 2 ∧ (u.toInt = 1)) ∨ (v.toInt = 3 ∧ (u.toInt = 0 ∨ u.toInt = 2)) ∨ (v.toInt = 4 ∧ (u.toInt = 2)) ∨ (v.toInt = 5 ∧ (u.toInt = 1)) ∨ (v.toInt = 6 ∧ (u.toInt = 1 ∨ u.toInt = 2)) ∨ (v.toInt = 7 ∧ (u.toInt = 3)))) (h16_ : z15_.toInt = 4 * v.toInt) (h18_ : z17_.toInt = z15_.toInt + u.toInt) (e19_ : z17_.toInt = 9) : RK 0 1 (m - 1) := by have r_v := rngI v; have r_u := rngI u; have r_z15_ := rngI z15_; have r_z17_ := rngI z17_; unfold RK at *; omega
theorem lf_c_X12_body_20  (m : Nat) (v : Int32) (u : Int32) (z15_ : Int32) (z17_ : Int32) (hk : 0 ≤ v.toInt ∧ v.toInt ≤ 7) (ha : 0 ≤ u.toInt ∧ u.toInt ≤ 3) (hr : RK v.toInt u.toInt m) (ho : ((v.toInt = 0 ∧ (u.toInt = 0 ∨ u.toInt = 1 ∨ u.toInt = 2 ∨ u.toInt = 3)) ∨ (v.toInt = 1 ∧ (u.toInt = 0 ∨ u.toInt = 3)) ∨ (v.toInt = 2 ∧ (u.toInt = 1)) ∨ (v.toInt = 3 ∧ (u.toInt = 0 ∨ u.toInt = 2)) ∨ (v.toInt = 4 ∧ (u.toInt = 2)) ∨ (v.toInt = 5 ∧ (u.toInt = 1)) ∨ (v.toInt = 6 ∧ (u.toInt = 1 ∨ u.toInt = 2)) ∨ (v.toInt = 7 ∧ (u.toInt = 3)))) (h16_ : z15_.toInt = 4 * v.toInt) (h18_ : z17_.toInt = z15_.toInt + u.toInt) (e19_ : z17_.toInt = 9) : m - 1 + 1 = m := by have r_v := rngI v; have r_u := rngI u; have r_z15_ := rngI z15_; have r_z17_ := rngI z17_; unfold RK at *; omega
theorem lf_c_X12_body_21  (m : Nat) (v : Int32) (u : Int32) (z15_ : Int32) (z17_ : Int32) (hk : 0 ≤ v.toInt ∧ v.toInt ≤ 7) (ha : 0 ≤ u.toInt ∧ u.toInt ≤ 3) (hr : RK v.toInt u.toInt m) (ho : ((v.toInt = 0 ∧ (u.toInt = 0 ∨ u.toInt = 1 ∨ u.toInt = 2 ∨ u.toInt = 3)) ∨ (v.toInt = 1 ∧ (u.toInt = 0 ∨ u.toInt = 3)) ∨ (v.toInt = 2 ∧ (u.toInt = 1)) ∨ (v.toInt = 3 ∧ (u.toInt = 0 ∨ u.toInt = 2)) ∨ (v.toInt = 4 ∧ (u.toInt = 2)) ∨ (v.toInt = 5 ∧ (u.toInt = 1)) ∨ (v.toInt = 6 ∧ (u.toInt = 1 ∨ u.toInt = 2)) ∨ (v.toInt = 7 ∧ (u.toInt = 3)))) (h16_ : z15_.toInt = 4 * v.toInt) (h18_ : z17_.toInt = z15_.toInt + u.toInt) (e19_ : z17_.toInt = 12) : RK 0 0 (m - 1) := by have r_v := rngI v; have r_u := rngI u; have r_z15_ := rngI z15_; have r_z17_ := rngI z17_; unfold RK at *; omega
theorem lf_c_X12_body_22  (m : Nat) (v : Int32) (u : Int32) (z15_ : Int32) (z17_ : Int32) (hk : 0 ≤ v.toInt ∧ v.toInt ≤ 7) (ha : 0 ≤ u.toInt ∧ u.toInt ≤ 3) (hr : RK v.toInt u.toInt m) (ho : ((v.toInt = 0 ∧ (u.toInt = 0 ∨ u.toInt = 1 ∨ u.toInt = 2 ∨ u.toInt = 3)) ∨ (v.toInt = 1 ∧ (u.toInt = 0 ∨ u.toInt = 3)) ∨ (v.toInt = 2 ∧ (u.toInt = 1)) ∨ (v.toInt = 3 ∧ (u.toInt = 0 ∨ u.toInt = 2)) ∨ (v.toInt = 4 ∧ (u.toInt = 2)) ∨ (v.toInt = 5 ∧ (u.toInt = 1)) ∨ (v.toInt = 6 ∧ (u.toInt = 1 ∨ u.toInt = 2)) ∨ (v.toInt = 7 ∧ (u.toInt = 3)))) (h16_ : z15_.toInt = 4 * v.toInt) (h18_ : z17_.toInt = z15_.toInt + u.toInt) (e19_ : z17_.toInt = 12) : m - 1 + 1 = m := by have r_v := rngI v; have r_u := rngI u; have r_z15_ := rngI z15_; have r_z17_ := rngI z17_; unfold RK at *; omega
theorem lf_c_X12_body_23  (m : Nat) (v : Int32) (u : Int32) (z15_ : Int32) (z17_ : Int32) (hk : 0 ≤ v.toInt ∧ v.toInt ≤ 7) (ha : 0 ≤ u.toInt ∧ u.toInt ≤ 3) (hr : RK v.toInt u.toInt m) (ho : ((v.toInt = 0 ∧ (u.toInt = 0 ∨ u.toInt = 1 ∨ u.toInt = 2 ∨ u.toInt = 3)) ∨ (v.toInt = 1 ∧ (u.toInt = 0 ∨ u.toInt = 3)) ∨ (v.toInt = 2 ∧ (u.toInt = 1)) ∨ (v.toInt = 3 ∧ (u.toInt = 0 ∨ u.toInt = 2)) ∨ (v.toInt = 4 ∧ (u.toInt = 2)) ∨ (v.toInt = 5 ∧ (u.toInt = 1)) ∨ (v.toInt = 6 ∧ (u.toInt = 1 ∨ u.toInt = 2)) ∨ (v.toInt = 7 ∧ (u.toInt = 3)))) (h16_ : z15_.toInt = 4 * v.toInt) (h18_ : z17_.toInt = z15_.toInt + u.toInt) (e19_ : z17_.toInt = 14) : RK 0 2 (m - 1) := by have r_v := rngI v; have r_u := rngI u; have r_z15_ := rngI z15_; have r_z17_ := rngI z17_; unfold RK at *; omega
theorem lf_c_X12_body_24  (m : Nat) (v : Int32) (u : Int32) (z15_ : Int32) (z17_ : Int32) (hk : 0 ≤ v.toInt ∧ v.toInt ≤ 7) (ha : 0 ≤ u.toInt ∧ u.toInt ≤ 3) (hr : RK v.toInt u.toInt m) (ho : ((v.toInt = 0 ∧ (u.toInt = 0 ∨ u.toInt = 1 ∨ u.toInt = 2 ∨ u.toInt = 3)) ∨ (v.toInt = 1 ∧ (u.toInt = 0 ∨ u.toInt = 3)) ∨ (v.toInt = 2 ∧ (u.toInt = 1)) ∨ (v.toInt = 3 ∧ (u.toInt = 0 ∨ u.toInt = 2)) ∨ (v.toInt = 4 ∧ (u.toInt = 2)) ∨ (v.toInt = 5 ∧ (u.toInt = 1)) ∨ (v.toInt = 6 ∧ (u.toInt = 1 ∨ u.toInt = 2)) ∨ (v.toInt = 7 ∧ (u.toInt = 3)))) (h16_ : z15_.toInt = 4 * v.toInt) (h18_ : z17_.toInt = z15_.toInt + u.toInt) (e19_ : z17_.toInt = 14) : m - 1 + 1 = m := by have r_v := rngI v; have r_u := rngI u; have r_z15_ := rngI z15_; have r_z17_ := rngI z17_; unfold RK at *; omega
theorem lf_c_X12_body_25  (m : Nat) (v : Int32) (u : Int32) (z15_ : Int32) (z17_ : Int32) (hk : 0 ≤ v.toInt ∧ v.toInt ≤ 7) (ha : 0 ≤ u.toInt ∧ u.toInt ≤ 3) (hr : RK v.toInt u.toInt m) (ho : ((v.toInt = 0 ∧ (u.toInt = 0 ∨ u.toInt = 1 ∨ u.toInt = 2 ∨ u.toInt = 3)) ∨ (v.toInt = 1 ∧ (u.toInt = 0 ∨ u.toInt = 3)) ∨ (v.toInt = 2 ∧ (u.toInt = 1)) ∨ (v.toInt = 3 ∧ (u.toInt = 0 ∨ u.toInt = 2)) ∨ (v.toInt = 4 ∧ (u.toInt = 2)) ∨ (v.toInt = 5 ∧ (u.toInt = 1)) ∨ (v.toInt = 6 ∧ (u.toInt = 1 ∨ u.toInt = 2)) ∨ (v.toInt = 7 ∧ (u.toInt = 3)))) (h16_ : z15_.toInt = 4 * v.toInt) (h18_ : z17_.toInt = z15_.toInt + u.toInt) (e19_ : z17_.toInt = 18) : RK 0 2 (m - 1) := by have r_v := rngI v; have r_u := rngI u; have r_z15_ := rngI z15_; have r_z17_ := rngI z17_; unfold RK at *; omega
theorem lf_c_X12_body_26  (m : Nat) (v : Int32) (u : Int32) (z15_ : Int32) (z17_ : Int32) (hk : 0 ≤ v.toInt ∧ v.toInt ≤ 7) (ha : 0 ≤ u.toInt ∧ u.toInt ≤ 3) (hr : RK v.toInt u.toInt m) (ho : ((v.toInt = 0 ∧ (u.toInt = 0 ∨ u.toInt = 1 ∨ u.toInt = 2 ∨ u.toInt = 3)) ∨ (v.toInt = 1 ∧ (u.toInt = 0 ∨ u.toInt = 3)) ∨ (v.toInt = 2 ∧ (u.toInt = 1)) ∨ (v.toInt = 3 ∧ (u.toInt = 0 ∨ u.toInt = 2)) ∨ (v.toInt = 4 ∧ (u.toInt = 2)) ∨ (v.toInt = 5 ∧ (u.toInt = 1)) ∨ (v.toInt = 6 ∧ (u.toInt = 1 ∨ u.toInt = 2)) ∨ (v.toInt = 7 ∧ (u.toInt = 3)))) (h16_ : z15_.toInt = 4 * v.toInt) (h18_ : z17_.toInt = z15_.toInt + u.toInt) (e19_ : z17_.toInt = 18) : m - 1 + 1 = m := by have r_v := rngI v; have r_u := rngI u; have r_z15_ := rngI z15_; have r_z17_ := rngI z17_; unfold RK at *; omega
theorem lf_c_X12_body_27  (m : Nat) (v : Int32) (u : Int32) (z15_ : Int32) (z17_ : Int32) (hk : 0 ≤ v.toInt ∧ v.toInt ≤ 7) (ha : 0 ≤ u.toInt ∧ u.toInt ≤ 3) (hr : RK v.toInt u.toInt m) (ho : ((v.toInt = 0 ∧ (u.toInt = 0 ∨ u.toInt = 1 ∨ u.toInt = 2 ∨ u.toInt = 3)) ∨ (v.toInt = 1 ∧ (u.toInt = 0 ∨ u.toInt = 3)) ∨ (v.toInt = 2 ∧ (u.toInt = 1)) ∨ (v.toInt = 3 ∧ (u.toInt = 0 ∨ u.toInt = 2)) ∨ (v.toInt = 4 ∧ (u.toInt = 2)) ∨ (v.toInt = 5 ∧ (u.toInt = 1)) ∨ (v.toInt = 6 ∧ (u.toInt = 1 ∨ u.toInt = 2)) ∨ (v.toInt = 7 ∧ (u.toInt = 3)))) (h16_ : z15_.toInt = 4 * v.toInt) (h18_ : z17_.toInt = z15_.toInt + u.toInt) (e19_ : z17_.toInt = 21) : RK 1 1 (m - 1) := by have r_v := rngI v; have r_u := rngI u; have r_z15_ := rngI z15_; have r_z17_ := rngI z17_; unfold RK at *; omega
theorem lf_c_X12_body_28  (m : Nat) (v : Int32) (u : Int32) (z15_ : Int32) (z17_ : Int32) (hk : 0 ≤ v.toInt ∧ v.toInt ≤ 7) (ha : 0 ≤ u.toInt ∧ u.toInt ≤ 3) (hr : RK v.toInt u.toInt m) (ho : ((v.toInt = 0 ∧ (u.toInt = 0 ∨ u.toInt = 1 ∨ u.toInt = 2 ∨ u.toInt = 3)) ∨ (v.toInt = 1 ∧ (u.toInt = 0 ∨ u.toInt = 3)) ∨ (v.toInt = 2 ∧ (u.toInt = 1)) ∨ (v.toInt = 3 ∧ (u.toInt = 0 ∨ u.toInt = 2)) ∨ (v.toInt = 4 ∧ (u.toInt = 2)) ∨ (v.toInt = 5 ∧ (u.toInt = 1)) ∨ (v.toInt = 6 ∧ (u.toInt = 1 ∨ u.toInt = 2)) ∨ (v.toInt = 7 ∧ (u.toInt = 3)))) (h16_ : z15_.toInt = 4 * v.toInt) (h18_ : z17_.toInt = z15_.toInt + u.toInt) (e19_ : z17_.toInt = 21) : m - 1 + 1 = m := by have r_v := rngI v; have r_u := rngI u; have r_z15_ := rngI z15_; have r_z17_ := rngI z17_; unfold RK at *; omega
theorem lf_c_X12_body_29  (m : Nat) (v : Int32) (u : Int32) (z15_ : Int32) (z17_ : Int32) (hk : 0 ≤ v.toInt ∧ v.toInt ≤ 7) (ha : 0 ≤ u.toInt ∧ u.toInt ≤ 3) (hr : RK v.toInt u.toInt m) (ho : ((v.toInt = 0 ∧ (u.toInt = 0 ∨ u.toInt = 1 ∨ u.toInt = 2 ∨ u.toInt = 3)) ∨ (v.toInt = 1 ∧ (u.toInt = 0 ∨ u.toInt = 3)) ∨ (v.toInt = 2 ∧ (u.toInt = 1)) ∨ (v.toInt = 3 ∧ (u.toInt = 0 ∨ u.toInt = 2)) ∨ (v.toInt = 4 ∧ (u.toInt = 2)) ∨ (v.toInt = 5 ∧ (u.toInt = 1)) ∨ (v.toInt = 6 ∧ (u.toInt = 1 ∨ u.toInt = 2)) ∨ (v.toInt = 7 ∧ (u.toInt = 3)))) (h16_ : z15_.toInt = 4 * v.toInt) (h18_ : z17_.toInt = z15_.toInt + u.toInt) (e19_ : z17_.toInt = 25) : RK 3 1 (m - 1) := by have r_v := rngI v; have r_u := rngI u; have r_z15_ := rngI z15_; have r_z17_ := rngI z17_; unfold RK at *; omega
theorem lf_c_X12_body_30  (m : Nat) (v : Int32) (u : Int32) (z15_ : Int32) (z17_ : Int32) (hk : 0 ≤ v.toInt ∧ v.toInt ≤ 7) (ha : 0 ≤ u.toInt ∧ u.toInt ≤ 3) (hr : RK v.toInt u.toInt m) (ho : ((v.toInt = 0 ∧ (u.toInt = 0 ∨ u.toInt = 1 ∨ u.toInt = 2 ∨ u.toInt = 3)) ∨ (v.toInt = 1 ∧ (u.toInt = 0 ∨ u.toInt = 3)) ∨ (v.toInt = 2 ∧ (u.toInt = 1)) ∨ (v.toInt = 3 ∧ (u.toInt = 0 ∨ u.toInt = 2)) ∨ (v.toInt = 4 ∧ (u.toInt = 2)) ∨ (v.toInt = 5 ∧ (u.toInt = 1)) ∨ (v.toInt = 6 ∧ (u.toInt = 1 ∨ u.toInt = 2)) ∨ (v.toInt = 7 ∧ (u.toInt = 3)))) (h16_ : z15_.toInt = 4 * v.toInt) (h18_ : z17_.toInt = z15_.toInt + u.toInt) (e19_ : z17_.toInt = 25) : m - 1 + 1 = m := by have r_v := rngI v; have r_u := rngI u; have r_z15_ := rngI z15_; have r_z17_ := rngI z17_; unfold RK at *; omega
theorem lf_c_X12_body_31  (m : Nat) (v : Int32) (u : Int32) (z15_ : Int32) (z17_ : Int32) (hk : 0 ≤ v.toInt ∧ v.toInt ≤ 7) (ha : 0 ≤ u.toInt ∧ u.toInt ≤ 3) (hr : RK v.toInt u.toInt m) (ho : ((v.toInt = 0 ∧ (u.toInt = 0 ∨ u.toInt = 1 ∨ u.toInt = 2 ∨ u.toInt = 3)) ∨ (v.toInt = 1 ∧ (u.toInt = 0 ∨ u.toInt = 3)) ∨ (v.toInt = 2 ∧ (u.toInt = 1)) ∨ (v.toInt = 3 ∧ (u.toInt = 0 ∨ u.toInt = 2)) ∨ (v.toInt = 4 ∧ (u.toInt = 2)) ∨ (v.toInt = 5 ∧ (u.toInt = 1)) ∨ (v.toInt = 6 ∧ (u.toInt = 1 ∨ u.toInt = 2)) ∨ (v.toInt = 7 ∧ (u.toInt = 3)))) (h16_ : z15_.toInt = 4 * v.toInt) (h18_ : z17_.toInt = z15_.toInt + u.toInt) (e19_ : z17_.toInt = 26) : RK 3 2 (m - 1) := by have r_v := rngI v; have r_u := rngI u; have r_z15_ := rngI z15_; have r_z17_ := rngI z17_; unfold RK at *; omega
theorem lf_c_X12_body_32  (m : Nat) (v : Int32) (u : Int32) (z15_ : Int32) (z17_ : Int32) (hk : 0 ≤ v.toInt ∧ v.toInt ≤ 7) (ha : 0 ≤ u.toInt ∧ u.toInt ≤ 3) (hr : RK v.toInt u.toInt m) (ho : ((v.toInt = 0 ∧ (u.toInt = 0 ∨ u.toInt = 1 ∨ u.toInt = 2 ∨ u.toInt = 3)) ∨ (v.toInt = 1 ∧ (u.toInt = 0 ∨ u.toInt = 3)) ∨ (v.toInt = 2 ∧ (u.toInt = 1)) ∨ (v.toInt = 3 ∧ (u.toInt = 0 ∨ u.toInt = 2)) ∨ (v.toInt = 4 ∧ (u.toInt = 2)) ∨ (v.toInt = 5 ∧ (u.toInt = 1)) ∨ (v.toInt = 6 ∧ (u.toInt = 1 ∨ u.toInt = 2)) ∨ (v.toInt = 7 ∧ (u.toInt = 3)))) (h16_ : z15_.toInt = 4 * v.toInt) (h18_ : z17_.toInt = z15_.toInt + u.toInt) (e19_ : z17_.toInt = 26) : m - 1 + 1 = m := by have r_v := rngI v; have r_u := rngI u; have r_z15_ := rngI z15_; have r_z17_ := rngI z17_; unfold RK at *; omega
theorem lf_c_X12_body_33  (m : Nat) (v : Int32) (u : Int32) (z15_ : Int32) (z17_ : Int32) (hk : 0 ≤ v.toInt ∧ v.toInt ≤ 7) (ha : 0 ≤ u.toInt ∧ u.toInt ≤ 3) (hr : RK v.toInt u.toInt m) (ho : ((v.toInt = 0 ∧ (u.toInt = 0 ∨ u.toInt = 1 ∨ u.toInt = 2 ∨ u.toInt = 3)) ∨ (v.toInt = 1 ∧ (u.toInt = 0 ∨ u.toInt = 3)) ∨ (v.toInt = 2 ∧ (u.toInt = 1)) ∨ (v.toInt = 3 ∧ (u.toInt = 0 ∨ u.toInt = 2)) ∨ (v.toInt = 4 ∧ (u.toInt = 2)) ∨ (v.toInt = 5 ∧ (u.toInt = 1)) ∨ (v.toInt = 6 ∧ (u.toInt = 1 ∨ u.toInt = 2)) ∨ (v.toInt = 7 ∧ (u.toInt = 3)))) (h16_ : z15_.toInt = 4 * v.toInt) (h18_ : z17_.toInt = z15_.toInt + u.toInt) (e19_ : z17_.toInt = 26) : 3 * 0 + 2 ≤ (((m - 1) : Nat) : Int) := by have r_v := rngI v; have r_u := rngI u; have r_z15_ := rngI z15_; have r_z17_ := rngI z17_; unfold RK at *; omega
theorem lf_c_X12_body_34  (m : Nat) (v : Int32) (u : Int32) (z15_ : Int32) (z17_ : Int32) (hk : 0 ≤ v.toInt ∧ v.toInt ≤ 7) (ha : 0 ≤ u.toInt ∧ u.toInt ≤ 3) (hr : RK v.toInt u.toInt m) (ho : ((v.toInt = 0 ∧ (u.toInt = 0 ∨ u.toInt = 1 ∨ u.toInt = 2 ∨ u.toInt = 3)) ∨ (v.toInt = 1 ∧ (u.toInt = 0 ∨ u.toInt = 3)) ∨ (v.toInt = 2 ∧ (u.toInt = 1)) ∨ (v.toInt = 3 ∧ (u.toInt = 0 ∨ u.toInt = 2)) ∨ (v.toInt = 4 ∧ (u.toInt = 2)) ∨ (v.toInt = 5 ∧ (u.toInt = 1)) ∨ (v.toInt = 6 ∧ (u.toInt = 1 ∨ u.toInt = 2)) ∨ (v.toInt = 7 ∧ (u.toInt = 3)))) (h16_ : z15_.toInt = 4 * v.toInt) (h18_ : z17_.toInt = z15_.toInt + u.toInt) (e19_ : z17_.toInt = 26) : m - 1 + 1 = m := by have r_v := rngI v; have r_u := rngI u; have r_z15_ := rngI z15_; have r_z17_ := rngI z17_; unfold RK at *; omega
theorem lf_c_X12_body_35  (m : Nat) (v : Int32) (u : Int32) (z15_ : Int32) (z17_ : Int32) (hk : 0 ≤ v.toInt ∧ v.toInt ≤ 7) (ha : 0 ≤ u.toInt ∧ u.toInt ≤ 3) (hr : RK v.toInt u.toInt m) (ho : ((v.toInt = 0 ∧ (u.toInt = 0 ∨ u.toInt = 1 ∨ u.toInt = 2 ∨ u.toInt = 3)) ∨ (v.toInt = 1 ∧ (u.toInt = 0 ∨ u.toInt = 3)) ∨ (v.toInt = 2 ∧ (u.toInt = 1)) ∨ (v.toInt = 3 ∧ (u.toInt = 0 ∨ u.toInt = 2)) ∨ (v.toInt = 4 ∧ (u.toInt = 2)) ∨ (v.toInt = 5 ∧ (u.toInt = 1)) ∨ (v.toInt = 6 ∧ (u.toInt = 1 ∨ u.toInt = 2)) ∨ (v.toInt = 7 ∧ (u.toInt = 3)))) (h16_ : z15_.toInt = 4 * v.toInt) (h18_ : z17_.toInt = z15_.toInt + u.toInt) (e19_ : z17_.toInt = 31) : RK 1 3 (m - 1) := by have r_v := rngI v; have r_u := rngI u; have r_z15_ := rngI z15_; have r_z17_ := rngI z17_; unfold RK at *; omega
theorem lf_c_X12_body_36  (m : Nat) (v : Int32) (u : Int32) (z15_ : Int32) (z17_ : Int32) (hk : 0 ≤ v.toInt ∧ v.toInt ≤ 7) (ha : 0 ≤ u.toInt ∧ u.toInt ≤ 3) (hr : RK v.toInt u.toInt m) (ho : ((v.toInt = 0 ∧ (u.toInt = 0 ∨ u.toInt = 1 ∨ u.toInt = 2 ∨ u.toInt = 3)) ∨ (v.toInt = 1 ∧ (u.toInt = 0 ∨ u.toInt = 3)) ∨ (v.toInt = 2 ∧ (u.toInt = 1)) ∨ (v.toInt = 3 ∧ (u.toInt = 0 ∨ u.toInt = 2)) ∨ (v.toInt = 4 ∧ (u.toInt = 2)) ∨ (v.toInt = 5 ∧ (u.toInt = 1)) ∨ (v.toInt = 6 ∧ (u.toInt = 1 ∨ u.toInt = 2)) ∨ (v.toInt = 7 ∧ (u.toInt = 3)))) (h16_ : z15_.toInt = 4 * v.toInt) (h18_ : z17_.toInt = z15_.toInt + u.toInt) (e19_ : z17_.toInt = 31) : m - 1 + 1 = m := by have r_v := rngI v; have r_u := rngI u; have r_z15_ := rngI z15_; have r_z17_ := rngI z17_; unfold RK at *; omega
theorem lf_c_X12_body_37  (m : Nat) (v : Int32) (u : Int32) (z15_ : Int32) (z17_ : Int32) (hk : 0 ≤ v.toInt ∧ v.toInt ≤ 7) (ha : 0 ≤ u.toInt ∧ u.toInt ≤ 3) (hr : RK v.toInt u.toInt m) (ho : ((v.toInt = 0 ∧ (u.toInt = 0 ∨ u.toInt = 1 ∨ u.toInt = 2 ∨ u.toInt = 3)) ∨ (v.toInt = 1 ∧ (u.toInt = 0 ∨ u.toInt = 3)) ∨ (v.toInt = 2 ∧ (u.toInt = 1)) ∨ (v.toInt = 3 ∧ (u.toInt = 0 ∨ u.toInt = 2)) ∨ (v.toInt = 4 ∧ (u.toInt = 2)) ∨ (v.toInt = 5 ∧ (u.toInt = 1)) ∨ (v.toInt = 6 ∧ (u.toInt = 1 ∨ u.toInt = 2)) ∨ (v.toInt = 7 ∧ (u.toInt = 3)))) (h16_ : z15_.toInt = 4 * v.toInt) (h18_ : z17_.toInt = z15_.toInt + u.toInt) (e19_ : z17_.toInt = 31) : 3 * 1 + 2 ≤ (((m - 1) : Nat) : Int) := by have r_v := rngI v; have r_u := rngI u; have r_z15_ := rngI z15_; have r_z17_ := rngI z17_; unfold RK at *; omega
theorem lf_c_X12_body_38  (m : Nat) (v : Int32) (u : Int32) (z15_ : Int32) (z17_ : Int32) (hk : 0 ≤ v.toInt ∧ v.toInt ≤ 7) (ha : 0 ≤ u.toInt ∧ u.toInt ≤ 3) (hr : RK v.toInt u.toInt m) (ho : ((v.toInt = 0 ∧ (u.toInt = 0 ∨ u.toInt = 1 ∨ u.toInt = 2 ∨ u.toInt = 3)) ∨ (v.toInt = 1 ∧ (u.toInt = 0 ∨ u.toInt = 3)) ∨ (v.toInt = 2 ∧ (u.toInt = 1)) ∨ (v.toInt = 3 ∧ (u.toInt = 0 ∨ u.toInt = 2)) ∨ (v.toInt = 4 ∧ (u.toInt = 2)) ∨ (v.toInt = 5 ∧ (u.toInt = 1)) ∨ (v.toInt = 6 ∧ (u.toInt = 1 ∨ u.toInt = 2)) ∨ (v.toInt = 7 ∧ (u.toInt = 3)))) (h16_ : z15_.toInt = 4 * v.toInt) (h18_ : z17_.toInt = z15_.toInt + u.toInt) (e19_ : z17_.toInt = 31) : m - 1 + 1 = m := by have r_v := rngI v; have r_u := rngI u; have r_z15_ := rngI z15_; have r_z17_ := rngI z17_; unfold RK at *; omega
set_option maxHeartbeats 4000000 in
set_option maxRecDepth 100000 in
theorem c_X12_body (l : Launch) (G : va_G) (cy : Nat → ClassId) (ad : rf → Nat) (d : Nat) (N : Nat) (m : Nat) (v : Int32) (u : Int32) (t : Int32) (Mz : mM) (hIz : InvD Mz) (hB : ∀ k : Nat, k + 1 = m → BFC l G cy ad N k) (hk : 0 ≤ v.toInt ∧ v.toInt ≤ 7) (ha : 0 ≤ u.toInt ∧ u.toInt ≤ 3) (hr : RK v.toInt u.toInt m) (ho : ((v.toInt = 0 ∧ (u.toInt = 0 ∨ u.toInt = 1 ∨ u.toInt = 2 ∨ u.toInt = 3)) ∨ (v.toInt = 1 ∧ (u.toInt = 0 ∨ u.toInt = 3)) ∨ (v.toInt = 2 ∧ (u.toInt = 1)) ∨ (v.toInt = 3 ∧ (u.toInt = 0 ∨ u.toInt = 2)) ∨ (v.toInt = 4 ∧ (u.toInt = 2)) ∨ (v.toInt = 5 ∧ (u.toInt = 1)) ∨ (v.toInt = 6 ∧ (u.toInt = 1 ∨ u.toInt = 2)) ∨ (v.toInt = 7 ∧ (u.toInt = 3)))) : WP DD l G cy ad yX12_body cX12_body 6 (some .int) ((N + d) + 3) 0 [(0, vR (12, 0, 0)), (1, vI v), (2, vI u), (3, vI t)] [] Mz (fun r M' => InvD M' ∧ FR (S_voD) Mz M' ∧ True) := by
  have hFz : FR (S_voD) Mz Mz := FR.self
  refine w_aload_n dX12_body_0 rfl 0 rfl ?_
  refine w_getR (c' := (50, 0, 0)) fl_RX12_9 rfl rfl ic_12 dX12_body_1 rfl ?_
  refine w_aload_n dX12_body_4 rfl 0 rfl ?_
  refine w_aload_n dX12_body_5 rfl 0 rfl ?_
  refine w_getI fl_RX12_327 rfl rfl ic_12 dX12_body_6 (fun z1_ e2_ => ?_)
  have h3_ : 0 ≤ z1_.toInt ∧ z1_.toInt ≤ 7 := ofEq (P := fun v => 0 ≤ v.toInt ∧ v.toInt ≤ 7) e2_ (hIz.1 (12, 0, 0) 27)
  have kf4_ : (Mz.1 (12, 0, 0) 27).toInt = z1_.toInt := by rw [e2_]
  refine w_callV (as := [vI z1_]) (rest := [vR (50, 0, 0)]) (c_X12_goer l G cy ad ((N + d) + 2) z1_ Mz hIz h3_) kV_X12_goer (by decide +kernel) (Nat.le_of_ble_eq_true rfl) m_1451 rfl rfl rfl ic_12 rfl rfl (by decide) (Nat.le_of_ble_eq_true rfl) dX12_body_9 (fun r5_ M6_ q7_ => ?_)
  obtain ⟨rfl, h8_⟩ := q7_
  refine w_iconst (v := 3) dX12_body_12 (by decide) ?_
  refine w_iaddB dX12_body_13 (rfl : r5_.toInt = r5_.toInt) li_3 (lf_c_X12_body_0 Mz z1_ r5_ e2_ h3_ kf4_ h8_) (fun z9_ h10_ => ?_)
  refine w_iald rfl rfl ic_50 (rfl : z9_.toInt = z9_.toInt) (lf_c_X12_body_1 Mz z1_ r5_ z9_ e2_ h3_ kf4_ h8_ h10_) dX12_body_14 (fun j13_ h14_ z11_ e12_ => ?_)
  refine w_istore (ls' := [(4, vI z11_), (0, vR (12, 0, 0)), (1, vI v), (2, vI u), (3, vI t)]) dX12_body_15 (by decide) rfl ?_
  refine w_iconst (v := 4) dX12_body_17 (by decide) ?_
  refine w_iload_n dX12_body_18 rfl 2 rfl ?_
  refine w_imulB dX12_body_19 li_4 (rfl : v.toInt = v.toInt) (lf_c_X12_body_2 m v u hk ha hr ho) (fun z15_ h16_ => ?_)
  refine w_iload_n dX12_body_20 rfl 3 rfl ?_
  refine w_iaddB dX12_body_21 (rfl : z15_.toInt = z15_.toInt) (rfl : u.toInt = u.toInt) (lf_c_X12_body_3 m v u z15_ hk ha hr ho h16_) (fun z17_ h18_ => ?_)
  rcases (lf_c_X12_body_4 m v u z15_ z17_ hk ha hr ho h16_ h18_) with e19_ | e19_ | e19_ | e19_ | e19_ | e19_ | e19_ | e19_ | e19_ | e19_ | e19_ | e19_ | e19_ | e19_
  · refine w_tsIn (tgt := 144) (off := 122) dX12_body_22 e19_ (by decide) (by decide) rfl (by decide) ?_
    refine w_aload_n dX12_body_144 rfl 1 rfl ?_
    refine w_bipush (v := 10) dX12_body_145 (by decide) ?_
    refine w_callVv (as := [vI 10]) (rest := []) (c_X12_began l G cy ad ((N + d) + 2) 10 Mz hIz) kV_X12_began (by decide +kernel) (Nat.le_of_ble_eq_true rfl) m_1818 rfl rfl rfl ic_12 rfl rfl (by decide) (Nat.le_of_ble_eq_true rfl) dX12_body_147 (fun M20_ q21_ => ?_)
    obtain ⟨hI23_, hF24_, h22_⟩ := q21_
    have hF25_ := hFz.tr hF24_ (fun c k => (fun h => h.elim (fun h => (Or.inr (Or.inr (Or.inl ⟨h.1, h.2⟩)))) (fun h => h.elim (fun h => (Or.inl ⟨h.1, h.2.1, h.2.2⟩)) (fun h => h.elim))))
    have kf26_ : (M20_.1 (12, 0, 0) 27).toInt = z1_.toInt := by rw [(hF24_ (12, 0, 0) 27 (by simp [S_c_X12_began]))]; exact kf4_
    refine w_iload_n dX12_body_150 rfl 4 rfl ?_
    refine w_iload dX12_body_151 0 rfl ?_
    refine w_iadd dX12_body_153 (fun z27_ _ => ?_)
    exact w_iret rfl dX12_body_154 ⟨hI23_, hF25_, trivial⟩
  · refine w_tsIn (tgt := 155) (off := 133) dX12_body_22 e19_ (by decide) (by decide) rfl (by decide) ?_
    refine w_aload_n dX12_body_155 rfl 1 rfl ?_
    refine w_bipush (v := 11) dX12_body_156 (by decide) ?_
    refine w_callVv (as := [vI 11]) (rest := []) (c_X12_began l G cy ad ((N + d) + 2) 11 Mz hIz) kV_X12_began (by decide +kernel) (Nat.le_of_ble_eq_true rfl) m_1818 rfl rfl rfl ic_12 rfl rfl (by decide) (Nat.le_of_ble_eq_true rfl) dX12_body_158 (fun M28_ q29_ => ?_)
    obtain ⟨hI31_, hF32_, h30_⟩ := q29_
    have hF33_ := hFz.tr hF32_ (fun c k => (fun h => h.elim (fun h => (Or.inr (Or.inr (Or.inl ⟨h.1, h.2⟩)))) (fun h => h.elim (fun h => (Or.inl ⟨h.1, h.2.1, h.2.2⟩)) (fun h => h.elim))))
    have kf34_ : (M28_.1 (12, 0, 0) 27).toInt = z1_.toInt := by rw [(hF32_ (12, 0, 0) 27 (by simp [S_c_X12_began]))]; exact kf4_
    refine w_aload_n dX12_body_161 rfl 1 rfl ?_
    refine w_iconst (v := 0) dX12_body_162 (by decide) ?_
    refine w_iload_n dX12_body_163 rfl 4 rfl ?_
    refine w_callV (as := [vI 0, vI t]) (rest := []) (c_X12_voiced l G cy ad d N (m - 1) 0 t M28_ hI31_ (hB (m - 1) (lf_c_X12_body_6 m v u z15_ z17_ hk ha hr ho h16_ h18_ e19_)) (by first | decide | (unfold vF; omega) | (unfold vRw; omega)) (lf_c_X12_body_5 m v u z15_ z17_ hk ha hr ho h16_ h18_ e19_)) kV_X12_voiced (by decide +kernel) (Nat.le_of_ble_eq_true rfl) m_1803 rfl rfl rfl ic_12 rfl rfl (by decide) (Nat.le_of_ble_eq_true rfl) dX12_body_164 (fun r35_ M36_ q37_ => ?_)
    obtain ⟨hI39_, hF40_, h38_⟩ := q37_
    have hF41_ := hF33_.tr hF40_ (fun c k => (fun h => h.elim (fun h => (Or.inl ⟨h.1, h.2.1, h.2.2⟩)) (fun h => h.elim (fun h => (Or.inr (Or.inl ⟨h.1, h.2.1, h.2.2⟩))) (fun h => h.elim (fun h => (Or.inr (Or.inr (Or.inl ⟨h.1, h.2⟩)))) (fun h => h.elim)))))
    have kf42_ : (M36_.1 (12, 0, 0) 27).toInt = z1_.toInt := by rw [(hF40_ (12, 0, 0) 27 (by simp [S_voD]))]; exact kf34_
    refine w_iconst (v := 2) dX12_body_167 (by decide) ?_
    refine w_imul dX12_body_168 (fun z43_ _ => ?_)
    exact w_iret rfl dX12_body_169 ⟨hI39_, hF41_, trivial⟩
  · refine w_tsIn (tgt := 170) (off := 148) dX12_body_22 e19_ (by decide) (by decide) rfl (by decide) ?_
    refine w_aload_n dX12_body_170 rfl 1 rfl ?_
    refine w_bipush (v := 12) dX12_body_171 (by decide) ?_
    refine w_callVv (as := [vI 12]) (rest := []) (c_X12_began l G cy ad ((N + d) + 2) 12 Mz hIz) kV_X12_began (by decide +kernel) (Nat.le_of_ble_eq_true rfl) m_1818 rfl rfl rfl ic_12 rfl rfl (by decide) (Nat.le_of_ble_eq_true rfl) dX12_body_173 (fun M44_ q45_ => ?_)
    obtain ⟨hI47_, hF48_, h46_⟩ := q45_
    have hF49_ := hFz.tr hF48_ (fun c k => (fun h => h.elim (fun h => (Or.inr (Or.inr (Or.inl ⟨h.1, h.2⟩)))) (fun h => h.elim (fun h => (Or.inl ⟨h.1, h.2.1, h.2.2⟩)) (fun h => h.elim))))
    have kf50_ : (M44_.1 (12, 0, 0) 27).toInt = z1_.toInt := by rw [(hF48_ (12, 0, 0) 27 (by simp [S_c_X12_began]))]; exact kf4_
    refine w_aload_n dX12_body_176 rfl 1 rfl ?_
    refine w_iconst (v := 1) dX12_body_177 (by decide) ?_
    refine w_iload_n dX12_body_178 rfl 4 rfl ?_
    refine w_callV (as := [vI 1, vI t]) (rest := []) (c_X12_voiced l G cy ad d N (m - 1) 1 t M44_ hI47_ (hB (m - 1) (lf_c_X12_body_8 m v u z15_ z17_ hk ha hr ho h16_ h18_ e19_)) (by first | decide | (unfold vF; omega) | (unfold vRw; omega)) (lf_c_X12_body_7 m v u z15_ z17_ hk ha hr ho h16_ h18_ e19_)) kV_X12_voiced (by decide +kernel) (Nat.le_of_ble_eq_true rfl) m_1803 rfl rfl rfl ic_12 rfl rfl (by decide) (Nat.le_of_ble_eq_true rfl) dX12_body_179 (fun r51_ M52_ q53_ => ?_)
    obtain ⟨hI55_, hF56_, h54_⟩ := q53_
    have hF57_ := hF49_.tr hF56_ (fun c k => (fun h => h.elim (fun h => (Or.inl ⟨h.1, h.2.1, h.2.2⟩)) (fun h => h.elim (fun h => (Or.inr (Or.inl ⟨h.1, h.2.1, h.2.2⟩))) (fun h => h.elim (fun h => (Or.inr (Or.inr (Or.inl ⟨h.1, h.2⟩)))) (fun h => h.elim)))))
    have kf58_ : (M52_.1 (12, 0, 0) 27).toInt = z1_.toInt := by rw [(hF56_ (12, 0, 0) 27 (by simp [S_voD]))]; exact kf50_
    refine w_aload_n dX12_body_182 rfl 1 rfl ?_
    refine w_getI fl_RX12_327 rfl rfl ic_12 dX12_body_183 (fun z59_ e60_ => ?_)
    have h61_ : 0 ≤ z59_.toInt ∧ z59_.toInt ≤ 7 := ofEq (P := fun v => 0 ≤ v.toInt ∧ v.toInt ≤ 7) e60_ (hI55_.1 (12, 0, 0) 27)
    have h62_ : z59_.toInt = z1_.toInt := by rw [e60_]; exact kf58_
    refine w_isub dX12_body_186 (fun z63_ _ => ?_)
    exact w_iret rfl dX12_body_187 ⟨hI55_, hF57_, trivial⟩
  · refine w_tsIn (tgt := 188) (off := 166) dX12_body_22 e19_ (by decide) (by decide) rfl (by decide) ?_
    refine w_aload_n dX12_body_188 rfl 1 rfl ?_
    refine w_bipush (v := 13) dX12_body_189 (by decide) ?_
    refine w_callVv (as := [vI 13]) (rest := []) (c_X12_began l G cy ad ((N + d) + 2) 13 Mz hIz) kV_X12_began (by decide +kernel) (Nat.le_of_ble_eq_true rfl) m_1818 rfl rfl rfl ic_12 rfl rfl (by decide) (Nat.le_of_ble_eq_true rfl) dX12_body_191 (fun M64_ q65_ => ?_)
    obtain ⟨hI67_, hF68_, h66_⟩ := q65_
    have hF69_ := hFz.tr hF68_ (fun c k => (fun h => h.elim (fun h => (Or.inr (Or.inr (Or.inl ⟨h.1, h.2⟩)))) (fun h => h.elim (fun h => (Or.inl ⟨h.1, h.2.1, h.2.2⟩)) (fun h => h.elim))))
    have kf70_ : (M64_.1 (12, 0, 0) 27).toInt = z1_.toInt := by rw [(hF68_ (12, 0, 0) 27 (by simp [S_c_X12_began]))]; exact kf4_
    refine w_aload_n dX12_body_194 rfl 1 rfl ?_
    refine w_aload_n dX12_body_195 rfl 1 rfl ?_
    refine w_getI fl_RX12_327 rfl rfl ic_12 dX12_body_196 (fun z71_ e72_ => ?_)
    have h73_ : 0 ≤ z71_.toInt ∧ z71_.toInt ≤ 7 := ofEq (P := fun v => 0 ≤ v.toInt ∧ v.toInt ≤ 7) e72_ (hI67_.1 (12, 0, 0) 27)
    have h74_ : z71_.toInt = z1_.toInt := by rw [e72_]; exact kf70_
    refine w_iconst (v := 3) dX12_body_199 (by decide) ?_
    refine w_icmp_ne (tgt := 207) dX12_body_200 (by decide) (rfl : z71_.toInt = z71_.toInt) li_3 (fun h75_ => ?_) (fun h75_ => ?_)
    · refine w_iconst (v := 0) dX12_body_207 (by decide) ?_
      refine w_putZ DD_nd fl_RX12_336 rfl rfl ic_12 ⟨by decide, by decide⟩ dX12_body_208 (fun M76_ hM77_ => ?_)
      have hI78_ := hI67_.put hM77_ ⟨⟨by decide, by decide⟩, Or.inl (by decide)⟩
      have hF79_ := hF69_.put hM77_ (Or.inr (Or.inl ⟨rfl, rfl, rfl⟩))
      have kf80_ : (M76_.1 (12, 0, 0) 27).toInt = z1_.toInt := by rw [(show M76_.1 (12, 0, 0) 27 = M64_.1 (12, 0, 0) 27 by rw [hM77_, up_ne (by simp)])]; exact kf70_
      have kf81_ : (M76_.1 (12, 0, 0) 28).toInt = 0 := by rw [hM77_, up_same]; decide
      refine w_aload_n dX12_body_211 rfl 1 rfl ?_
      refine w_getI fl_RX12_336 rfl rfl ic_12 dX12_body_212 (fun z82_ e83_ => ?_)
      have h84_ : 0 ≤ z82_.toInt ∧ z82_.toInt ≤ 1 := ofEq (P := fun v => 0 ≤ v.toInt ∧ v.toInt ≤ 1) e83_ (hI78_.1 (12, 0, 0) 28)
      have h85_ : z82_.toInt = 0 := by rw [e83_]; exact kf81_
      refine w_if_eq (tgt := 222) dX12_body_215 (by decide) (rfl : z82_.toInt = z82_.toInt) (fun h86_ => ?_) (fun h9 => (lf_c_X12_body_9 M76_ z82_ e83_ h84_ h85_ h9).elim)
      refine w_iload_n dX12_body_222 rfl 4 rfl ?_
      refine w_aload_n dX12_body_223 rfl 1 rfl ?_
      refine w_getI fl_RX12_327 rfl rfl ic_12 dX12_body_224 (fun z87_ e88_ => ?_)
      have h89_ : 0 ≤ z87_.toInt ∧ z87_.toInt ≤ 7 := ofEq (P := fun v => 0 ≤ v.toInt ∧ v.toInt ≤ 7) e88_ (hI78_.1 (12, 0, 0) 27)
      have h90_ : z87_.toInt = z1_.toInt := by rw [e88_]; exact kf80_
      refine w_iconst (v := 3) dX12_body_227 (by decide) ?_
      refine w_isubB dX12_body_228 (rfl : z87_.toInt = z87_.toInt) li_3 (lf_c_X12_body_10 M64_ M76_ Mz z1_ r5_ z9_ j13_ z11_ z71_ z87_ e2_ h3_ kf4_ h8_ h10_ h14_ e12_ kf70_ e72_ h73_ h74_ h75_ kf80_ e88_ h89_ h90_) (fun z91_ h92_ => ?_)
      refine w_idiv dX12_body_229 (ne0I (lf_c_X12_body_11 M64_ M76_ Mz z1_ r5_ z9_ j13_ z11_ z71_ z87_ z91_ e2_ h3_ kf4_ h8_ h10_ h14_ e12_ kf70_ e72_ h73_ h74_ h75_ kf80_ e88_ h89_ h90_ h92_)) (fun z93_ _ => ?_)
      exact w_iret rfl dX12_body_230 ⟨hI78_, hF79_, trivial⟩
    · refine w_iconst (v := 1) dX12_body_203 (by decide) ?_
      refine w_goto (tgt := 208) dX12_body_204 (by decide) ?_
      refine w_putZ DD_nd fl_RX12_336 rfl rfl ic_12 ⟨by decide, by decide⟩ dX12_body_208 (fun M94_ hM95_ => ?_)
      have hI96_ := hI67_.put hM95_ ⟨⟨by decide, by decide⟩, Or.inl (by decide)⟩
      have hF97_ := hF69_.put hM95_ (Or.inr (Or.inl ⟨rfl, rfl, rfl⟩))
      have kf98_ : (M94_.1 (12, 0, 0) 27).toInt = z1_.toInt := by rw [(show M94_.1 (12, 0, 0) 27 = M64_.1 (12, 0, 0) 27 by rw [hM95_, up_ne (by simp)])]; exact kf70_
      have kf99_ : (M94_.1 (12, 0, 0) 28).toInt = 1 := by rw [hM95_, up_same]; decide
      refine w_aload_n dX12_body_211 rfl 1 rfl ?_
      refine w_getI fl_RX12_336 rfl rfl ic_12 dX12_body_212 (fun z100_ e101_ => ?_)
      have h102_ : 0 ≤ z100_.toInt ∧ z100_.toInt ≤ 1 := ofEq (P := fun v => 0 ≤ v.toInt ∧ v.toInt ≤ 1) e101_ (hI96_.1 (12, 0, 0) 28)
      have h103_ : z100_.toInt = 1 := by rw [e101_]; exact kf99_
      refine w_if_eq (tgt := 222) dX12_body_215 (by decide) (rfl : z100_.toInt = z100_.toInt) (fun h9 => (lf_c_X12_body_12 M94_ z100_ e101_ h102_ h103_ h9).elim) (fun h104_ => ?_)
      refine w_iconst (v := 0) dX12_body_218 (by decide) ?_
      refine w_goto (tgt := 230) dX12_body_219 (by decide) ?_
      exact w_iret rfl dX12_body_230 ⟨hI96_, hF97_, trivial⟩
  · refine w_tsIn (tgt := 231) (off := 209) dX12_body_22 e19_ (by decide) (by decide) rfl (by decide) ?_
    refine w_aload_n dX12_body_231 rfl 1 rfl ?_
    refine w_bipush (v := 20) dX12_body_232 (by decide) ?_
    refine w_callVv (as := [vI 20]) (rest := []) (c_X12_began l G cy ad ((N + d) + 2) 20 Mz hIz) kV_X12_began (by decide +kernel) (Nat.le_of_ble_eq_true rfl) m_1818 rfl rfl rfl ic_12 rfl rfl (by decide) (Nat.le_of_ble_eq_true rfl) dX12_body_234 (fun M105_ q106_ => ?_)
    obtain ⟨hI108_, hF109_, h107_⟩ := q106_
    have hF110_ := hFz.tr hF109_ (fun c k => (fun h => h.elim (fun h => (Or.inr (Or.inr (Or.inl ⟨h.1, h.2⟩)))) (fun h => h.elim (fun h => (Or.inl ⟨h.1, h.2.1, h.2.2⟩)) (fun h => h.elim))))
    have kf111_ : (M105_.1 (12, 0, 0) 27).toInt = z1_.toInt := by rw [(hF109_ (12, 0, 0) 27 (by simp [S_c_X12_began]))]; exact kf4_
    refine w_aload_n dX12_body_237 rfl 1 rfl ?_
    refine w_iconst (v := 0) dX12_body_238 (by decide) ?_
    refine w_iconst (v := 0) dX12_body_239 (by decide) ?_
    refine w_iload_n dX12_body_240 rfl 4 rfl ?_
    refine w_callV (as := [vI 0, vI 0, vI t]) (rest := []) (hB (m - 1) (lf_c_X12_body_14 m v u z15_ z17_ hk ha hr ho h16_ h18_ e19_) (d + 2) 0 0 t M105_ hI108_ (by first | decide | (unfold vF; omega) | (unfold vRw; omega)) (by first | decide | (unfold vF; omega) | (unfold vRw; omega)) (lf_c_X12_body_13 m v u z15_ z17_ hk ha hr ho h16_ h18_ e19_)) kV_X12_bodyFrom (by decide +kernel) (Nat.le_of_ble_eq_true rfl) m_1807 rfl rfl rfl ic_12 rfl rfl (by decide) (Nat.le_of_ble_eq_true rfl) dX12_body_241 (fun r112_ M113_ q114_ => ?_)
    obtain ⟨hI116_, hF117_, h115_⟩ := q114_
    have hF118_ := hF110_.tr hF117_ (fun c k => (fun h => h.elim (fun h => (Or.inl ⟨h.1, h.2.1, h.2.2⟩)) (fun h => h.elim (fun h => (Or.inr (Or.inl ⟨h.1, h.2.1, h.2.2⟩))) (fun h => h.elim (fun h => (Or.inr (Or.inr (Or.inl ⟨h.1, h.2⟩)))) (fun h => h.elim)))))
    have kf119_ : (M113_.1 (12, 0, 0) 27).toInt = z1_.toInt := by rw [(hF117_ (12, 0, 0) 27 (by simp [S_voD]))]; exact kf111_
    refine w_iconst (v := 3) dX12_body_244 (by decide) ?_
    refine w_imul dX12_body_245 (fun z120_ _ => ?_)
    exact w_iret rfl dX12_body_246 ⟨hI116_, hF118_, trivial⟩
  · refine w_tsIn (tgt := 247) (off := 225) dX12_body_22 e19_ (by decide) (by decide) rfl (by decide) ?_
    refine w_aload_n dX12_body_247 rfl 1 rfl ?_
    refine w_bipush (v := 21) dX12_body_248 (by decide) ?_
    refine w_callVv (as := [vI 21]) (rest := []) (c_X12_began l G cy ad ((N + d) + 2) 21 Mz hIz) kV_X12_began (by decide +kernel) (Nat.le_of_ble_eq_true rfl) m_1818 rfl rfl rfl ic_12 rfl rfl (by decide) (Nat.le_of_ble_eq_true rfl) dX12_body_250 (fun M121_ q122_ => ?_)
    obtain ⟨hI124_, hF125_, h123_⟩ := q122_
    have hF126_ := hFz.tr hF125_ (fun c k => (fun h => h.elim (fun h => (Or.inr (Or.inr (Or.inl ⟨h.1, h.2⟩)))) (fun h => h.elim (fun h => (Or.inl ⟨h.1, h.2.1, h.2.2⟩)) (fun h => h.elim))))
    have kf127_ : (M121_.1 (12, 0, 0) 27).toInt = z1_.toInt := by rw [(hF125_ (12, 0, 0) 27 (by simp [S_c_X12_began]))]; exact kf4_
    refine w_aload_n dX12_body_253 rfl 1 rfl ?_
    refine w_iconst (v := 0) dX12_body_254 (by decide) ?_
    refine w_iconst (v := 3) dX12_body_255 (by decide) ?_
    refine w_iload_n dX12_body_256 rfl 4 rfl ?_
    refine w_callV (as := [vI 0, vI 3, vI t]) (rest := []) (hB (m - 1) (lf_c_X12_body_16 m v u z15_ z17_ hk ha hr ho h16_ h18_ e19_) (d + 2) 0 3 t M121_ hI124_ (by first | decide | (unfold vF; omega) | (unfold vRw; omega)) (by first | decide | (unfold vF; omega) | (unfold vRw; omega)) (lf_c_X12_body_15 m v u z15_ z17_ hk ha hr ho h16_ h18_ e19_)) kV_X12_bodyFrom (by decide +kernel) (Nat.le_of_ble_eq_true rfl) m_1807 rfl rfl rfl ic_12 rfl rfl (by decide) (Nat.le_of_ble_eq_true rfl) dX12_body_257 (fun r128_ M129_ q130_ => ?_)
    obtain ⟨hI132_, hF133_, h131_⟩ := q130_
    have hF134_ := hF126_.tr hF133_ (fun c k => (fun h => h.elim (fun h => (Or.inl ⟨h.1, h.2.1, h.2.2⟩)) (fun h => h.elim (fun h => (Or.inr (Or.inl ⟨h.1, h.2.1, h.2.2⟩))) (fun h => h.elim (fun h => (Or.inr (Or.inr (Or.inl ⟨h.1, h.2⟩)))) (fun h => h.elim)))))
    have kf135_ : (M129_.1 (12, 0, 0) 27).toInt = z1_.toInt := by rw [(hF133_ (12, 0, 0) 27 (by simp [S_voD]))]; exact kf127_
    refine w_istore (ls' := [(5, vI r128_), (4, vI z11_), (0, vR (12, 0, 0)), (1, vI v), (2, vI u), (3, vI t)]) dX12_body_260 (by decide) rfl ?_
    refine w_iload dX12_body_262 0 rfl ?_
    refine w_aload_n dX12_body_264 rfl 2 rfl ?_
    refine w_iconst (v := 2) dX12_body_265 (by decide) ?_
    refine w_iconst (v := 1) dX12_body_266 (by decide) ?_
    refine w_callV (as := [vI 2, vI 1]) (rest := [vI r128_]) (c_X12_voiced l G cy ad d N (m - 1) 2 1 M129_ hI132_ (hB (m - 1) (lf_c_X12_body_18 m v u z15_ z17_ hk ha hr ho h16_ h18_ e19_)) (by first | decide | (unfold vF; omega) | (unfold vRw; omega)) (lf_c_X12_body_17 m v u z15_ z17_ hk ha hr ho h16_ h18_ e19_)) kV_X12_voiced (by decide +kernel) (Nat.le_of_ble_eq_true rfl) m_1803 rfl rfl rfl ic_12 rfl rfl (by decide) (Nat.le_of_ble_eq_true rfl) dX12_body_267 (fun r136_ M137_ q138_ => ?_)
    obtain ⟨hI140_, hF141_, h139_⟩ := q138_
    have hF142_ := hF134_.tr hF141_ (fun c k => (fun h => h.elim (fun h => (Or.inl ⟨h.1, h.2.1, h.2.2⟩)) (fun h => h.elim (fun h => (Or.inr (Or.inl ⟨h.1, h.2.1, h.2.2⟩))) (fun h => h.elim (fun h => (Or.inr (Or.inr (Or.inl ⟨h.1, h.2⟩)))) (fun h => h.elim)))))
    have kf143_ : (M137_.1 (12, 0, 0) 27).toInt = z1_.toInt := by rw [(hF141_ (12, 0, 0) 27 (by simp [S_voD]))]; exact kf135_
    refine w_iadd dX12_body_270 (fun z144_ _ => ?_)
    exact w_iret rfl dX12_body_271 ⟨hI140_, hF142_, trivial⟩
  · refine w_tsIn (tgt := 272) (off := 250) dX12_body_22 e19_ (by decide) (by decide) rfl (by decide) ?_
    refine w_aload_n dX12_body_272 rfl 1 rfl ?_
    refine w_bipush (v := 30) dX12_body_273 (by decide) ?_
    refine w_callVv (as := [vI 30]) (rest := []) (c_X12_began l G cy ad ((N + d) + 2) 30 Mz hIz) kV_X12_began (by decide +kernel) (Nat.le_of_ble_eq_true rfl) m_1818 rfl rfl rfl ic_12 rfl rfl (by decide) (Nat.le_of_ble_eq_true rfl) dX12_body_275 (fun M145_ q146_ => ?_)
    obtain ⟨hI148_, hF149_, h147_⟩ := q146_
    have hF150_ := hFz.tr hF149_ (fun c k => (fun h => h.elim (fun h => (Or.inr (Or.inr (Or.inl ⟨h.1, h.2⟩)))) (fun h => h.elim (fun h => (Or.inl ⟨h.1, h.2.1, h.2.2⟩)) (fun h => h.elim))))
    have kf151_ : (M145_.1 (12, 0, 0) 27).toInt = z1_.toInt := by rw [(hF149_ (12, 0, 0) 27 (by simp [S_c_X12_began]))]; exact kf4_
    refine w_aload_n dX12_body_278 rfl 1 rfl ?_
    refine w_iconst (v := 0) dX12_body_279 (by decide) ?_
    refine w_iconst (v := 1) dX12_body_280 (by decide) ?_
    refine w_iload_n dX12_body_281 rfl 4 rfl ?_
    refine w_callV (as := [vI 0, vI 1, vI t]) (rest := []) (hB (m - 1) (lf_c_X12_body_20 m v u z15_ z17_ hk ha hr ho h16_ h18_ e19_) (d + 2) 0 1 t M145_ hI148_ (by first | decide | (unfold vF; omega) | (unfold vRw; omega)) (by first | decide | (unfold vF; omega) | (unfold vRw; omega)) (lf_c_X12_body_19 m v u z15_ z17_ hk ha hr ho h16_ h18_ e19_)) kV_X12_bodyFrom (by decide +kernel) (Nat.le_of_ble_eq_true rfl) m_1807 rfl rfl rfl ic_12 rfl rfl (by decide) (Nat.le_of_ble_eq_true rfl) dX12_body_282 (fun r152_ M153_ q154_ => ?_)
    obtain ⟨hI156_, hF157_, h155_⟩ := q154_
    have hF158_ := hF150_.tr hF157_ (fun c k => (fun h => h.elim (fun h => (Or.inl ⟨h.1, h.2.1, h.2.2⟩)) (fun h => h.elim (fun h => (Or.inr (Or.inl ⟨h.1, h.2.1, h.2.2⟩))) (fun h => h.elim (fun h => (Or.inr (Or.inr (Or.inl ⟨h.1, h.2⟩)))) (fun h => h.elim)))))
    have kf159_ : (M153_.1 (12, 0, 0) 27).toInt = z1_.toInt := by rw [(hF157_ (12, 0, 0) 27 (by simp [S_voD]))]; exact kf151_
    refine w_iload dX12_body_285 0 rfl ?_
    refine w_ixor dX12_body_287 (fun z160_ _ => ?_)
    exact w_iret rfl dX12_body_288 ⟨hI156_, hF158_, trivial⟩
  · refine w_tsIn (tgt := 289) (off := 267) dX12_body_22 e19_ (by decide) (by decide) rfl (by decide) ?_
    refine w_aload_n dX12_body_289 rfl 1 rfl ?_
    refine w_bipush (v := 40) dX12_body_290 (by decide) ?_
    refine w_callVv (as := [vI 40]) (rest := []) (c_X12_began l G cy ad ((N + d) + 2) 40 Mz hIz) kV_X12_began (by decide +kernel) (Nat.le_of_ble_eq_true rfl) m_1818 rfl rfl rfl ic_12 rfl rfl (by decide) (Nat.le_of_ble_eq_true rfl) dX12_body_292 (fun M161_ q162_ => ?_)
    obtain ⟨hI164_, hF165_, h163_⟩ := q162_
    have hF166_ := hFz.tr hF165_ (fun c k => (fun h => h.elim (fun h => (Or.inr (Or.inr (Or.inl ⟨h.1, h.2⟩)))) (fun h => h.elim (fun h => (Or.inl ⟨h.1, h.2.1, h.2.2⟩)) (fun h => h.elim))))
    have kf167_ : (M161_.1 (12, 0, 0) 27).toInt = z1_.toInt := by rw [(hF165_ (12, 0, 0) 27 (by simp [S_c_X12_began]))]; exact kf4_
    refine w_aload_n dX12_body_295 rfl 1 rfl ?_
    refine w_iconst (v := 0) dX12_body_296 (by decide) ?_
    refine w_iconst (v := 0) dX12_body_297 (by decide) ?_
    refine w_iload_n dX12_body_298 rfl 4 rfl ?_
    refine w_callV (as := [vI 0, vI 0, vI t]) (rest := []) (hB (m - 1) (lf_c_X12_body_22 m v u z15_ z17_ hk ha hr ho h16_ h18_ e19_) (d + 2) 0 0 t M161_ hI164_ (by first | decide | (unfold vF; omega) | (unfold vRw; omega)) (by first | decide | (unfold vF; omega) | (unfold vRw; omega)) (lf_c_X12_body_21 m v u z15_ z17_ hk ha hr ho h16_ h18_ e19_)) kV_X12_bodyFrom (by decide +kernel) (Nat.le_of_ble_eq_true rfl) m_1807 rfl rfl rfl ic_12 rfl rfl (by decide) (Nat.le_of_ble_eq_true rfl) dX12_body_299 (fun r168_ M169_ q170_ => ?_)
    obtain ⟨hI172_, hF173_, h171_⟩ := q170_
    have hF174_ := hF166_.tr hF173_ (fun c k => (fun h => h.elim (fun h => (Or.inl ⟨h.1, h.2.1, h.2.2⟩)) (fun h => h.elim (fun h => (Or.inr (Or.inl ⟨h.1, h.2.1, h.2.2⟩))) (fun h => h.elim (fun h => (Or.inr (Or.inr (Or.inl ⟨h.1, h.2⟩)))) (fun h => h.elim)))))
    have kf175_ : (M169_.1 (12, 0, 0) 27).toInt = z1_.toInt := by rw [(hF173_ (12, 0, 0) 27 (by simp [S_voD]))]; exact kf167_
    refine w_ineg dX12_body_302 (fun z176_ _ => ?_)
    exact w_iret rfl dX12_body_303 ⟨hI172_, hF174_, trivial⟩
  · refine w_tsIn (tgt := 304) (off := 282) dX12_body_22 e19_ (by decide) (by decide) rfl (by decide) ?_
    refine w_aload_n dX12_body_304 rfl 1 rfl ?_
    refine w_bipush (v := 41) dX12_body_305 (by decide) ?_
    refine w_callVv (as := [vI 41]) (rest := []) (c_X12_began l G cy ad ((N + d) + 2) 41 Mz hIz) kV_X12_began (by decide +kernel) (Nat.le_of_ble_eq_true rfl) m_1818 rfl rfl rfl ic_12 rfl rfl (by decide) (Nat.le_of_ble_eq_true rfl) dX12_body_307 (fun M177_ q178_ => ?_)
    obtain ⟨hI180_, hF181_, h179_⟩ := q178_
    have hF182_ := hFz.tr hF181_ (fun c k => (fun h => h.elim (fun h => (Or.inr (Or.inr (Or.inl ⟨h.1, h.2⟩)))) (fun h => h.elim (fun h => (Or.inl ⟨h.1, h.2.1, h.2.2⟩)) (fun h => h.elim))))
    have kf183_ : (M177_.1 (12, 0, 0) 27).toInt = z1_.toInt := by rw [(hF181_ (12, 0, 0) 27 (by simp [S_c_X12_began]))]; exact kf4_
    refine w_aload_n dX12_body_310 rfl 1 rfl ?_
    refine w_iconst (v := 0) dX12_body_311 (by decide) ?_
    refine w_iconst (v := 2) dX12_body_312 (by decide) ?_
    refine w_iload_n dX12_body_313 rfl 4 rfl ?_
    refine w_callV (as := [vI 0, vI 2, vI t]) (rest := []) (hB (m - 1) (lf_c_X12_body_24 m v u z15_ z17_ hk ha hr ho h16_ h18_ e19_) (d + 2) 0 2 t M177_ hI180_ (by first | decide | (unfold vF; omega) | (unfold vRw; omega)) (by first | decide | (unfold vF; omega) | (unfold vRw; omega)) (lf_c_X12_body_23 m v u z15_ z17_ hk ha hr ho h16_ h18_ e19_)) kV_X12_bodyFrom (by decide +kernel) (Nat.le_of_ble_eq_true rfl) m_1807 rfl rfl rfl ic_12 rfl rfl (by decide) (Nat.le_of_ble_eq_true rfl) dX12_body_314 (fun r184_ M185_ q186_ => ?_)
    obtain ⟨hI188_, hF189_, h187_⟩ := q186_
    have hF190_ := hF182_.tr hF189_ (fun c k => (fun h => h.elim (fun h => (Or.inl ⟨h.1, h.2.1, h.2.2⟩)) (fun h => h.elim (fun h => (Or.inr (Or.inl ⟨h.1, h.2.1, h.2.2⟩))) (fun h => h.elim (fun h => (Or.inr (Or.inr (Or.inl ⟨h.1, h.2⟩)))) (fun h => h.elim)))))
    have kf191_ : (M185_.1 (12, 0, 0) 27).toInt = z1_.toInt := by rw [(hF189_ (12, 0, 0) 27 (by simp [S_voD]))]; exact kf183_
    refine w_iconst (v := 5) dX12_body_317 (by decide) ?_
    refine w_iadd dX12_body_318 (fun z192_ _ => ?_)
    exact w_iret rfl dX12_body_319 ⟨hI188_, hF190_, trivial⟩
  · refine w_tsIn (tgt := 320) (off := 298) dX12_body_22 e19_ (by decide) (by decide) rfl (by decide) ?_
    refine w_aload_n dX12_body_320 rfl 1 rfl ?_
    refine w_bipush (v := 50) dX12_body_321 (by decide) ?_
    refine w_callVv (as := [vI 50]) (rest := []) (c_X12_began l G cy ad ((N + d) + 2) 50 Mz hIz) kV_X12_began (by decide +kernel) (Nat.le_of_ble_eq_true rfl) m_1818 rfl rfl rfl ic_12 rfl rfl (by decide) (Nat.le_of_ble_eq_true rfl) dX12_body_323 (fun M193_ q194_ => ?_)
    obtain ⟨hI196_, hF197_, h195_⟩ := q194_
    have hF198_ := hFz.tr hF197_ (fun c k => (fun h => h.elim (fun h => (Or.inr (Or.inr (Or.inl ⟨h.1, h.2⟩)))) (fun h => h.elim (fun h => (Or.inl ⟨h.1, h.2.1, h.2.2⟩)) (fun h => h.elim))))
    have kf199_ : (M193_.1 (12, 0, 0) 27).toInt = z1_.toInt := by rw [(hF197_ (12, 0, 0) 27 (by simp [S_c_X12_began]))]; exact kf4_
    refine w_aload_n dX12_body_326 rfl 1 rfl ?_
    refine w_iconst (v := 0) dX12_body_327 (by decide) ?_
    refine w_iconst (v := 2) dX12_body_328 (by decide) ?_
    refine w_iload_n dX12_body_329 rfl 4 rfl ?_
    refine w_iconst (v := 1) dX12_body_330 (by decide) ?_
    refine w_isub dX12_body_331 (fun z200_ _ => ?_)
    refine w_callV (as := [vI 0, vI 2, vI z200_]) (rest := []) (hB (m - 1) (lf_c_X12_body_26 m v u z15_ z17_ hk ha hr ho h16_ h18_ e19_) (d + 2) 0 2 z200_ M193_ hI196_ (by first | decide | (unfold vF; omega) | (unfold vRw; omega)) (by first | decide | (unfold vF; omega) | (unfold vRw; omega)) (lf_c_X12_body_25 m v u z15_ z17_ hk ha hr ho h16_ h18_ e19_)) kV_X12_bodyFrom (by decide +kernel) (Nat.le_of_ble_eq_true rfl) m_1807 rfl rfl rfl ic_12 rfl rfl (by decide) (Nat.le_of_ble_eq_true rfl) dX12_body_332 (fun r201_ M202_ q203_ => ?_)
    obtain ⟨hI205_, hF206_, h204_⟩ := q203_
    have hF207_ := hF198_.tr hF206_ (fun c k => (fun h => h.elim (fun h => (Or.inl ⟨h.1, h.2.1, h.2.2⟩)) (fun h => h.elim (fun h => (Or.inr (Or.inl ⟨h.1, h.2.1, h.2.2⟩))) (fun h => h.elim (fun h => (Or.inr (Or.inr (Or.inl ⟨h.1, h.2⟩)))) (fun h => h.elim)))))
    have kf208_ : (M202_.1 (12, 0, 0) 27).toInt = z1_.toInt := by rw [(hF206_ (12, 0, 0) 27 (by simp [S_voD]))]; exact kf199_
    exact w_iret rfl dX12_body_335 ⟨hI205_, hF207_, trivial⟩
  · refine w_tsIn (tgt := 336) (off := 314) dX12_body_22 e19_ (by decide) (by decide) rfl (by decide) ?_
    refine w_aload_n dX12_body_336 rfl 1 rfl ?_
    refine w_bipush (v := 60) dX12_body_337 (by decide) ?_
    refine w_callVv (as := [vI 60]) (rest := []) (c_X12_began l G cy ad ((N + d) + 2) 60 Mz hIz) kV_X12_began (by decide +kernel) (Nat.le_of_ble_eq_true rfl) m_1818 rfl rfl rfl ic_12 rfl rfl (by decide) (Nat.le_of_ble_eq_true rfl) dX12_body_339 (fun M209_ q210_ => ?_)
    obtain ⟨hI212_, hF213_, h211_⟩ := q210_
    have hF214_ := hFz.tr hF213_ (fun c k => (fun h => h.elim (fun h => (Or.inr (Or.inr (Or.inl ⟨h.1, h.2⟩)))) (fun h => h.elim (fun h => (Or.inl ⟨h.1, h.2.1, h.2.2⟩)) (fun h => h.elim))))
    have kf215_ : (M209_.1 (12, 0, 0) 27).toInt = z1_.toInt := by rw [(hF213_ (12, 0, 0) 27 (by simp [S_c_X12_began]))]; exact kf4_
    refine w_aload_n dX12_body_342 rfl 1 rfl ?_
    refine w_iconst (v := 1) dX12_body_343 (by decide) ?_
    refine w_iconst (v := 1) dX12_body_344 (by decide) ?_
    refine w_iload_n dX12_body_345 rfl 4 rfl ?_
    refine w_iconst (v := 2) dX12_body_346 (by decide) ?_
    refine w_iadd dX12_body_347 (fun z216_ _ => ?_)
    refine w_callV (as := [vI 1, vI 1, vI z216_]) (rest := []) (hB (m - 1) (lf_c_X12_body_28 m v u z15_ z17_ hk ha hr ho h16_ h18_ e19_) (d + 2) 1 1 z216_ M209_ hI212_ (by first | decide | (unfold vF; omega) | (unfold vRw; omega)) (by first | decide | (unfold vF; omega) | (unfold vRw; omega)) (lf_c_X12_body_27 m v u z15_ z17_ hk ha hr ho h16_ h18_ e19_)) kV_X12_bodyFrom (by decide +kernel) (Nat.le_of_ble_eq_true rfl) m_1807 rfl rfl rfl ic_12 rfl rfl (by decide) (Nat.le_of_ble_eq_true rfl) dX12_body_348 (fun r217_ M218_ q219_ => ?_)
    obtain ⟨hI221_, hF222_, h220_⟩ := q219_
    have hF223_ := hF214_.tr hF222_ (fun c k => (fun h => h.elim (fun h => (Or.inl ⟨h.1, h.2.1, h.2.2⟩)) (fun h => h.elim (fun h => (Or.inr (Or.inl ⟨h.1, h.2.1, h.2.2⟩))) (fun h => h.elim (fun h => (Or.inr (Or.inr (Or.inl ⟨h.1, h.2⟩)))) (fun h => h.elim)))))
    have kf224_ : (M218_.1 (12, 0, 0) 27).toInt = z1_.toInt := by rw [(hF222_ (12, 0, 0) 27 (by simp [S_voD]))]; exact kf215_
    exact w_iret rfl dX12_body_351 ⟨hI221_, hF223_, trivial⟩
  · refine w_tsIn (tgt := 352) (off := 330) dX12_body_22 e19_ (by decide) (by decide) rfl (by decide) ?_
    refine w_aload_n dX12_body_352 rfl 1 rfl ?_
    refine w_bipush (v := 70) dX12_body_353 (by decide) ?_
    refine w_callVv (as := [vI 70]) (rest := []) (c_X12_began l G cy ad ((N + d) + 2) 70 Mz hIz) kV_X12_began (by decide +kernel) (Nat.le_of_ble_eq_true rfl) m_1818 rfl rfl rfl ic_12 rfl rfl (by decide) (Nat.le_of_ble_eq_true rfl) dX12_body_355 (fun M225_ q226_ => ?_)
    obtain ⟨hI228_, hF229_, h227_⟩ := q226_
    have hF230_ := hFz.tr hF229_ (fun c k => (fun h => h.elim (fun h => (Or.inr (Or.inr (Or.inl ⟨h.1, h.2⟩)))) (fun h => h.elim (fun h => (Or.inl ⟨h.1, h.2.1, h.2.2⟩)) (fun h => h.elim))))
    have kf231_ : (M225_.1 (12, 0, 0) 27).toInt = z1_.toInt := by rw [(hF229_ (12, 0, 0) 27 (by simp [S_c_X12_began]))]; exact kf4_
    refine w_aload_n dX12_body_358 rfl 1 rfl ?_
    refine w_iconst (v := 3) dX12_body_359 (by decide) ?_
    refine w_iconst (v := 1) dX12_body_360 (by decide) ?_
    refine w_iload_n dX12_body_361 rfl 4 rfl ?_
    refine w_callV (as := [vI 3, vI 1, vI t]) (rest := []) (hB (m - 1) (lf_c_X12_body_30 m v u z15_ z17_ hk ha hr ho h16_ h18_ e19_) (d + 2) 3 1 t M225_ hI228_ (by first | decide | (unfold vF; omega) | (unfold vRw; omega)) (by first | decide | (unfold vF; omega) | (unfold vRw; omega)) (lf_c_X12_body_29 m v u z15_ z17_ hk ha hr ho h16_ h18_ e19_)) kV_X12_bodyFrom (by decide +kernel) (Nat.le_of_ble_eq_true rfl) m_1807 rfl rfl rfl ic_12 rfl rfl (by decide) (Nat.le_of_ble_eq_true rfl) dX12_body_362 (fun r232_ M233_ q234_ => ?_)
    obtain ⟨hI236_, hF237_, h235_⟩ := q234_
    have hF238_ := hF230_.tr hF237_ (fun c k => (fun h => h.elim (fun h => (Or.inl ⟨h.1, h.2.1, h.2.2⟩)) (fun h => h.elim (fun h => (Or.inr (Or.inl ⟨h.1, h.2.1, h.2.2⟩))) (fun h => h.elim (fun h => (Or.inr (Or.inr (Or.inl ⟨h.1, h.2⟩)))) (fun h => h.elim)))))
    have kf239_ : (M233_.1 (12, 0, 0) 27).toInt = z1_.toInt := by rw [(hF237_ (12, 0, 0) 27 (by simp [S_voD]))]; exact kf231_
    refine w_iconst (v := 2) dX12_body_365 (by decide) ?_
    refine w_idiv dX12_body_366 (by decide) (fun z240_ _ => ?_)
    exact w_iret rfl dX12_body_367 ⟨hI236_, hF238_, trivial⟩
  · refine w_tsIn (tgt := 368) (off := 346) dX12_body_22 e19_ (by decide) (by decide) rfl (by decide) ?_
    refine w_aload_n dX12_body_368 rfl 1 rfl ?_
    refine w_bipush (v := 71) dX12_body_369 (by decide) ?_
    refine w_callVv (as := [vI 71]) (rest := []) (c_X12_began l G cy ad ((N + d) + 2) 71 Mz hIz) kV_X12_began (by decide +kernel) (Nat.le_of_ble_eq_true rfl) m_1818 rfl rfl rfl ic_12 rfl rfl (by decide) (Nat.le_of_ble_eq_true rfl) dX12_body_371 (fun M241_ q242_ => ?_)
    obtain ⟨hI244_, hF245_, h243_⟩ := q242_
    have hF246_ := hFz.tr hF245_ (fun c k => (fun h => h.elim (fun h => (Or.inr (Or.inr (Or.inl ⟨h.1, h.2⟩)))) (fun h => h.elim (fun h => (Or.inl ⟨h.1, h.2.1, h.2.2⟩)) (fun h => h.elim))))
    have kf247_ : (M241_.1 (12, 0, 0) 27).toInt = z1_.toInt := by rw [(hF245_ (12, 0, 0) 27 (by simp [S_c_X12_began]))]; exact kf4_
    refine w_aload_n dX12_body_374 rfl 1 rfl ?_
    refine w_iconst (v := 3) dX12_body_375 (by decide) ?_
    refine w_iconst (v := 2) dX12_body_376 (by decide) ?_
    refine w_iload_n dX12_body_377 rfl 4 rfl ?_
    refine w_callV (as := [vI 3, vI 2, vI t]) (rest := []) (hB (m - 1) (lf_c_X12_body_32 m v u z15_ z17_ hk ha hr ho h16_ h18_ e19_) (d + 2) 3 2 t M241_ hI244_ (by first | decide | (unfold vF; omega) | (unfold vRw; omega)) (by first | decide | (unfold vF; omega) | (unfold vRw; omega)) (lf_c_X12_body_31 m v u z15_ z17_ hk ha hr ho h16_ h18_ e19_)) kV_X12_bodyFrom (by decide +kernel) (Nat.le_of_ble_eq_true rfl) m_1807 rfl rfl rfl ic_12 rfl rfl (by decide) (Nat.le_of_ble_eq_true rfl) dX12_body_378 (fun r248_ M249_ q250_ => ?_)
    obtain ⟨hI252_, hF253_, h251_⟩ := q250_
    have hF254_ := hF246_.tr hF253_ (fun c k => (fun h => h.elim (fun h => (Or.inl ⟨h.1, h.2.1, h.2.2⟩)) (fun h => h.elim (fun h => (Or.inr (Or.inl ⟨h.1, h.2.1, h.2.2⟩))) (fun h => h.elim (fun h => (Or.inr (Or.inr (Or.inl ⟨h.1, h.2⟩)))) (fun h => h.elim)))))
    have kf255_ : (M249_.1 (12, 0, 0) 27).toInt = z1_.toInt := by rw [(hF253_ (12, 0, 0) 27 (by simp [S_voD]))]; exact kf247_
    refine w_istore (ls' := [(5, vI r248_), (4, vI z11_), (0, vR (12, 0, 0)), (1, vI v), (2, vI u), (3, vI t)]) dX12_body_381 (by decide) rfl ?_
    refine w_iload dX12_body_383 0 rfl ?_
    refine w_aload_n dX12_body_385 rfl 2 rfl ?_
    refine w_iconst (v := 0) dX12_body_386 (by decide) ?_
    refine w_iconst (v := 2) dX12_body_387 (by decide) ?_
    refine w_callV (as := [vI 0, vI 2]) (rest := [vI r248_]) (c_X12_voiced l G cy ad d N (m - 1) 0 2 M249_ hI252_ (hB (m - 1) (lf_c_X12_body_34 m v u z15_ z17_ hk ha hr ho h16_ h18_ e19_)) (by first | decide | (unfold vF; omega) | (unfold vRw; omega)) (lf_c_X12_body_33 m v u z15_ z17_ hk ha hr ho h16_ h18_ e19_)) kV_X12_voiced (by decide +kernel) (Nat.le_of_ble_eq_true rfl) m_1803 rfl rfl rfl ic_12 rfl rfl (by decide) (Nat.le_of_ble_eq_true rfl) dX12_body_388 (fun r256_ M257_ q258_ => ?_)
    obtain ⟨hI260_, hF261_, h259_⟩ := q258_
    have hF262_ := hF254_.tr hF261_ (fun c k => (fun h => h.elim (fun h => (Or.inl ⟨h.1, h.2.1, h.2.2⟩)) (fun h => h.elim (fun h => (Or.inr (Or.inl ⟨h.1, h.2.1, h.2.2⟩))) (fun h => h.elim (fun h => (Or.inr (Or.inr (Or.inl ⟨h.1, h.2⟩)))) (fun h => h.elim)))))
    have kf263_ : (M257_.1 (12, 0, 0) 27).toInt = z1_.toInt := by rw [(hF261_ (12, 0, 0) 27 (by simp [S_voD]))]; exact kf255_
    refine w_isub dX12_body_391 (fun z264_ _ => ?_)
    exact w_iret rfl dX12_body_392 ⟨hI260_, hF262_, trivial⟩
  · refine w_tsOut (tgt := 393) dX12_body_22 e19_ (by decide) (by decide) ?_
    refine w_aload_n dX12_body_393 rfl 1 rfl ?_
    refine w_bipush (v := 80) dX12_body_394 (by decide) ?_
    refine w_callVv (as := [vI 80]) (rest := []) (c_X12_began l G cy ad ((N + d) + 2) 80 Mz hIz) kV_X12_began (by decide +kernel) (Nat.le_of_ble_eq_true rfl) m_1818 rfl rfl rfl ic_12 rfl rfl (by decide) (Nat.le_of_ble_eq_true rfl) dX12_body_396 (fun M265_ q266_ => ?_)
    obtain ⟨hI268_, hF269_, h267_⟩ := q266_
    have hF270_ := hFz.tr hF269_ (fun c k => (fun h => h.elim (fun h => (Or.inr (Or.inr (Or.inl ⟨h.1, h.2⟩)))) (fun h => h.elim (fun h => (Or.inl ⟨h.1, h.2.1, h.2.2⟩)) (fun h => h.elim))))
    have kf271_ : (M265_.1 (12, 0, 0) 27).toInt = z1_.toInt := by rw [(hF269_ (12, 0, 0) 27 (by simp [S_c_X12_began]))]; exact kf4_
    refine w_aload_n dX12_body_399 rfl 1 rfl ?_
    refine w_iconst (v := 1) dX12_body_400 (by decide) ?_
    refine w_iconst (v := 3) dX12_body_401 (by decide) ?_
    refine w_iload_n dX12_body_402 rfl 4 rfl ?_
    refine w_callV (as := [vI 1, vI 3, vI t]) (rest := []) (hB (m - 1) (lf_c_X12_body_36 m v u z15_ z17_ hk ha hr ho h16_ h18_ e19_) (d + 2) 1 3 t M265_ hI268_ (by first | decide | (unfold vF; omega) | (unfold vRw; omega)) (by first | decide | (unfold vF; omega) | (unfold vRw; omega)) (lf_c_X12_body_35 m v u z15_ z17_ hk ha hr ho h16_ h18_ e19_)) kV_X12_bodyFrom (by decide +kernel) (Nat.le_of_ble_eq_true rfl) m_1807 rfl rfl rfl ic_12 rfl rfl (by decide) (Nat.le_of_ble_eq_true rfl) dX12_body_403 (fun r272_ M273_ q274_ => ?_)
    obtain ⟨hI276_, hF277_, h275_⟩ := q274_
    have hF278_ := hF270_.tr hF277_ (fun c k => (fun h => h.elim (fun h => (Or.inl ⟨h.1, h.2.1, h.2.2⟩)) (fun h => h.elim (fun h => (Or.inr (Or.inl ⟨h.1, h.2.1, h.2.2⟩))) (fun h => h.elim (fun h => (Or.inr (Or.inr (Or.inl ⟨h.1, h.2⟩)))) (fun h => h.elim)))))
    have kf279_ : (M273_.1 (12, 0, 0) 27).toInt = z1_.toInt := by rw [(hF277_ (12, 0, 0) 27 (by simp [S_voD]))]; exact kf271_
    refine w_istore (ls' := [(5, vI r272_), (4, vI z11_), (0, vR (12, 0, 0)), (1, vI v), (2, vI u), (3, vI t)]) dX12_body_406 (by decide) rfl ?_
    refine w_iload dX12_body_408 0 rfl ?_
    refine w_aload_n dX12_body_410 rfl 2 rfl ?_
    refine w_iconst (v := 1) dX12_body_411 (by decide) ?_
    refine w_iload_n dX12_body_412 rfl 5 rfl ?_
    refine w_callV (as := [vI 1, vI t]) (rest := [vI r272_]) (c_X12_voiced l G cy ad d N (m - 1) 1 t M273_ hI276_ (hB (m - 1) (lf_c_X12_body_38 m v u z15_ z17_ hk ha hr ho h16_ h18_ e19_)) (by first | decide | (unfold vF; omega) | (unfold vRw; omega)) (lf_c_X12_body_37 m v u z15_ z17_ hk ha hr ho h16_ h18_ e19_)) kV_X12_voiced (by decide +kernel) (Nat.le_of_ble_eq_true rfl) m_1803 rfl rfl rfl ic_12 rfl rfl (by decide) (Nat.le_of_ble_eq_true rfl) dX12_body_413 (fun r280_ M281_ q282_ => ?_)
    obtain ⟨hI284_, hF285_, h283_⟩ := q282_
    have hF286_ := hF278_.tr hF285_ (fun c k => (fun h => h.elim (fun h => (Or.inl ⟨h.1, h.2.1, h.2.2⟩)) (fun h => h.elim (fun h => (Or.inr (Or.inl ⟨h.1, h.2.1, h.2.2⟩))) (fun h => h.elim (fun h => (Or.inr (Or.inr (Or.inl ⟨h.1, h.2⟩)))) (fun h => h.elim)))))
    have kf287_ : (M281_.1 (12, 0, 0) 27).toInt = z1_.toInt := by rw [(hF285_ (12, 0, 0) 27 (by simp [S_voD]))]; exact kf279_
    refine w_isub dX12_body_416 (fun z288_ _ => ?_)
    exact w_iret rfl dX12_body_417 ⟨hI284_, hF286_, trivial⟩
theorem vo_rec (l : Launch) (G : va_G) (cy : Nat → ClassId) (ad : rf → Nat) : ∀ m, BFC l G cy ad (4 * m + 4) m := by
  have bf : ∀ N m, BODC l G cy ad N m → BFC l G cy ad (N + 1) m := fun N m hO d v u t Mz hIz hk ha hr => w_dep (by omega) (c_X12_bodyFrom l G cy ad d N m v u t Mz hIz hO hk ha hr)
  have bo : ∀ N m, (∀ k : Nat, k + 1 = m → BFC l G cy ad N k) → BODC l G cy ad (N + 3) m := fun N m hB d v u t Mz hIz hk ha hr ho => w_dep (by omega) (c_X12_body l G cy ad d N m v u t Mz hIz hB hk ha hr ho)
  intro m
  induction m with
  | zero => exact (show 3 + 1 = 4 * 0 + 4 by omega) ▸ bf _ _ ((show 0 + 3 = 3 by omega) ▸ bo 0 0 (fun k hk => absurd hk (by omega)))
  | succ m ih => exact (show 4 * m + 4 + 3 + 1 = 4 * (m + 1) + 4 by omega) ▸ bf _ _ (bo _ (m + 1) (fun k hk => by
      obtain rfl : k = m := by omega
      exact ih))
theorem c_X12_voicedA (l : Launch) (G : va_G) (cy : Nat → ClassId) (ad : rf → Nat) (d : Nat) (v u : Int32) (Mz : mM) (hIz : InvD Mz) (ha : 0 ≤ v.toInt ∧ v.toInt ≤ 3) : WP DD l G cy ad yX12_voiced cX12_voiced 3 (some .int) (d + 50) 0 [(0, vR (12, 0, 0)), (1, vI v), (2, vI u)] [] Mz (fun r M' => InvD M' ∧ FR (S_voD) Mz M' ∧ True) := w_dep (by omega) (c_X12_voiced l G cy ad d (48) 11 v u Mz hIz ((show 4 * 11 + 4 = 48 by omega) ▸ vo_rec l G cy ad 11) ha (by omega))
