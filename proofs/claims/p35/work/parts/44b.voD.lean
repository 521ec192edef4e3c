def RK (k a : Int) (m : Nat) : Prop := (k = 0 ∧ 3 * a ≤ (m : Int)) ∨ ((1 ≤ k ∧ k ≤ 4) ∧ 3 * a + 1 ≤ (m : Int)) ∨ ((5 ≤ k ∧ k ≤ 7) ∧ 3 * a + 2 ≤ (m : Int))
def S_voD : rf → Nat → Prop := fun c k => (c.1 = 12 ∧ c.2.1 = 0 ∧ k = 26) ∨ (c.1 = 12 ∧ c.2.1 = 0 ∧ k = 28) ∨ (c.1 = 65 ∧ c.2.1 = 0) ∨ False
def BFC (l : Launch) (G : va_G) (cy : Nat → ClassId) (ad : rf → Nat) (N m : Nat) : Prop := ∀ (d : Nat) (v u t : Int32) (Mz : mM) (hIz : InvD Mz) (hk : 0 ≤ v.toInt ∧ v.toInt ≤ 7) (ha : 0 ≤ u.toInt ∧ u.toInt ≤ 3) (hr : RK v.toInt u.toInt m), WP DD l G cy ad yX12_bodyFrom cX12_bodyFrom 5 (some .int) (N + d) 0 [(0, vR (12, 0, 0)), (1, vI v), (2, vI u), (3, vI t)] [] Mz (fun r M' => InvD M' ∧ FR (S_voD) Mz M' ∧ True)
def BODC (l : Launch) (G : va_G) (cy : Nat → ClassId) (ad : rf → Nat) (N m : Nat) : Prop := ∀ (d : Nat) (v u t : Int32) (Mz : mM) (hIz : InvD Mz) (hk : 0 ≤ v.toInt ∧ v.toInt ≤ 7) (ha : 0 ≤ u.toInt ∧ u.toInt ≤ 3) (hr : RK v.toInt u.toInt m) (ho : ((v.toInt = 0 ∧ (u.toInt = 0 ∨ u.toInt = 1 ∨ u.toInt = 2 ∨ u.toInt = 3)) ∨ (v.toInt = 1 ∧ (u.toInt = 0 ∨ u.toInt = 3)) ∨ (v.toInt = 2 ∧ (u.toInt = 1)) ∨ (v.toInt = 3 ∧ (u.toInt = 0 ∨ u.toInt = 2)) ∨ (v.toInt = 4 ∧ (u.toInt = 2)) ∨ (v.toInt = 5 ∧ (u.toInt = 1)) ∨ (v.toInt = 6 ∧ (u.toInt = 1 ∨ u.toInt = 2)) ∨ (v.toInt = 7 ∧ (u.toInt = 3)))), WP DD l G cy ad yX12_body cX12_body 6 (some .int) (N + d) 0 [(0, vR (12, 0, 0)), (1, vI v), (2, vI u), (3, vI t)] [] Mz (fun r M' => InvD M' ∧ FR (S_voD) Mz M' ∧ True)
theorem lf_c_X12_bodyFrom_0  (m : Nat) (v : Int32) (u : Int32) (v4_3 : Int32) (r2_ : Int32) (hk : 0 ≤ v.toInt ∧ v.toInt ≤ 7) (ha : 0 ≤ u.toInt ∧ u.toInt ≤ 3) (hr : RK v.toInt u.toInt m) (hv0_3 : 0 ≤ v4_3.toInt ∧ v4_3.toInt ≤ 7) (hv1_3 : RK v4_3.toInt u.toInt m) (h5_ : 0 ≤ r2_.toInt ∧ r2_.toInt ≤ 1 ∧ (r2_.toInt = 0 ∨ ((v4_3.toInt = 0 ∧ (u.toInt = 0 ∨ u.toInt = 1 ∨ u.toInt = 2 ∨ u.toInt = 3)) ∨ (v4_3.toInt = 1 ∧ (u.toInt = 0 ∨ u.toInt = 3)) ∨ (v4_3.toInt = 2 ∧ (u.toInt = 1)) ∨ (v4_3.toInt = 3 ∧ (u.toInt = 0 ∨ u.toInt = 2)) ∨ (v4_3.toInt = 4 ∧ (u.toInt = 2)) ∨ (v4_3.toInt = 5 ∧ (u.toInt = 1)) ∨ (v4_3.toInt = 6 ∧ (u.toInt = 1 ∨ u.toInt = 2)) ∨ (v4_3.toInt = 7 ∧ (u.toInt = 3)))) ∧ (r2_.toInt = 0 → ¬ v4_3.toInt = 0)) (h7_ : ¬ r2_.toInt = 0) : ((v4_3.toInt = 0 ∧ (u.toInt = 0 ∨ u.toInt = 1 ∨ u.toInt = 2 ∨ u.toInt = 3)) ∨ (v4_3.toInt = 1 ∧ (u.toInt = 0 ∨ u.toInt = 3)) ∨ (v4_3.toInt = 2 ∧ (u.toInt = 1)) ∨ (v4_3.toInt = 3 ∧ (u.toInt = 0 ∨ u.toInt = 2)) ∨ (v4_3.toInt = 4 ∧ (u.toInt = 2)) ∨ (v4_3.toInt = 5 ∧ (u.toInt = 1)) ∨ (v4_3.toInt = 6 ∧ (u.toInt = 1 ∨ u.toInt = 2)) ∨ (v4_3.toInt = 7 ∧ (u.toInt = 3))) := by have r_v := rngI v; have r_u := rngI u; have r_v4_3 := rngI v4_3; have r_r2_ := rngI r2_; unfold RK at *; omega
theorem lf_c_X12_bodyFrom_1  (m : Nat) (v : Int32) (u : Int32) (v4_3 : Int32) (r2_ : Int32) (r20_ : Int32) (hk : 0 ≤ v.toInt ∧ v.toInt ≤ 7) (ha : 0 ≤ u.toInt ∧ u.toInt ≤ 3) (hr : RK v.toInt u.toInt m) (hv0_3 : 0 ≤ v4_3.toInt ∧ v4_3.toInt ≤ 7) (hv1_3 : RK v4_3.toInt u.toInt m) (h5_ : 0 ≤ r2_.toInt ∧ r2_.toInt ≤ 1 ∧ (r2_.toInt = 0 ∨ ((v4_3.toInt = 0 ∧ (u.toInt = 0 ∨ u.toInt = 1 ∨ u.toInt = 2 ∨ u.toInt = 3)) ∨ (v4_3.toInt = 1 ∧ (u.toInt = 0 ∨ u.toInt = 3)) ∨ (v4_3.toInt = 2 ∧ (u.toInt = 1)) ∨ (v4_3.toInt = 3 ∧ (u.toInt = 0 ∨ u.toInt = 2)) ∨ (v4_3.toInt = 4 ∧ (u.toInt = 2)) ∨ (v4_3.toInt = 5 ∧ (u.toInt = 1)) ∨ (v4_3.toInt = 6 ∧ (u.toInt = 1 ∨ u.toInt = 2)) ∨ (v4_3.toInt = 7 ∧ (u.toInt = 3)))) ∧ (r2_.toInt = 0 → ¬ v4_3.toInt = 0)) (h7_ : r2_.toInt = 0) (h23_ : -1 ≤ r20_.toInt ∧ r20_.toInt ≤ 3 ∧ (0 ≤ v4_3.toInt → r20_.toInt < v4_3.toInt) ∧ (0 < v4_3.toInt → 0 ≤ r20_.toInt)) : 0 ≤ r20_.toInt ∧ r20_.toInt ≤ 7 := by have r_v := rngI v; have r_u := rngI u; have r_v4_3 := rngI v4_3; have r_r2_ := rngI r2_; have r_r20_ := rngI r20_; unfold RK at *; omega
theorem lf_c_X12_bodyFrom_2  (m : Nat) (v : Int32) (u : Int32) (v4_3 : Int32) (r2_ : Int32) (r20_ : Int32) (hk : 0 ≤ v.toInt ∧ v.toInt ≤ 7) (ha : 0 ≤ u.toInt ∧ u.toInt ≤ 3) (hr : RK v.toInt u.toInt m) (hv0_3 : 0 ≤ v4_3.toInt ∧ v4_3.toInt ≤ 7) (hv1_3 : RK v4_3.toInt u.toInt m) (h5_ : 0 ≤ r2_.toInt ∧ r2_.toInt ≤ 1 ∧ (r2_.toInt = 0 ∨ ((v4_3.toInt = 0 ∧ (u.toInt = 0 ∨ u.toInt = 1 ∨ u.toInt = 2 ∨ u.toInt = 3)) ∨ (v4_3.toInt = 1 ∧ (u.toInt = 0 ∨ u.toInt = 3)) ∨ (v4_3.toInt = 2 ∧ (u.toInt = 1)) ∨ (v4_3.toInt = 3 ∧ (u.toInt = 0 ∨ u.toInt = 2)) ∨ (v4_3.toInt = 4 ∧ (u.toInt = 2)) ∨ (v4_3.toInt = 5 ∧ (u.toInt = 1)) ∨ (v4_3.toInt = 6 ∧ (u.toInt = 1 ∨ u.toInt = 2)) ∨ (v4_3.toInt = 7 ∧ (u.toInt = 3)))) ∧ (r2_.toInt = 0 → ¬ v4_3.toInt = 0)) (h7_ : r2_.toInt = 0) (h23_ : -1 ≤ r20_.toInt ∧ r20_.toInt ≤ 3 ∧ (0 ≤ v4_3.toInt → r20_.toInt < v4_3.toInt) ∧ (0 < v4_3.toInt → 0 ≤ r20_.toInt)) : RK r20_.toInt u.toInt m := by have r_v := rngI v; have r_u := rngI u; have r_v4_3 := rngI v4_3; have r_r2_ := rngI r2_; have r_r20_ := rngI r20_; unfold RK at *; omega
theorem lf_c_X12_bodyFrom_3  (m : Nat) (v : Int32) (u : Int32) (v4_3 : Int32) (r2_ : Int32) (r20_ : Int32) (hk : 0 ≤ v.toInt ∧ v.toInt ≤ 7) (ha : 0 ≤ u.toInt ∧ u.toInt ≤ 3) (hr : RK v.toInt u.toInt m) (hv0_3 : 0 ≤ v4_3.toInt ∧ v4_3.toInt ≤ 7) (hv1_3 : RK v4_3.toInt u.toInt m) (h5_ : 0 ≤ r2_.toInt ∧ r2_.toInt ≤ 1 ∧ (r2_.toInt = 0 ∨ ((v4_3.toInt = 0 ∧ (u.toInt = 0 ∨ u.toInt = 1 ∨ u.toInt = 2 ∨ u.toInt = 3)) ∨ (v4_3.toInt = 1 ∧ (u.toInt = 0 ∨ u.toInt = 3)) ∨ (v4_3.toInt = 2 ∧ (u.toInt = 1)) ∨ (v4_3.toInt = 3 ∧ (u.toInt = 0 ∨ u.toInt = 2)) ∨ (v4_3.toInt = 4 ∧ (u.toInt = 2)) ∨ (v4_3.toInt = 5 ∧ (u.toInt = 1)) ∨ (v4_3.toInt = 6 ∧ (u.toInt = 1 ∨ u.toInt = 2)) ∨ (v4_3.toInt = 7 ∧ (u.toInt = 3)))) ∧ (r2_.toInt = 0 → ¬ v4_3.toInt = 0)) (h7_ : r2_.toInt = 0) (h23_ : -1 ≤ r20_.toInt ∧ r20_.toInt ≤ 3 ∧ (0 ≤ v4_3.toInt → r20_.toInt < v4_3.toInt) ∧ (0 < v4_3.toInt → 0 ≤ r20_.toInt)) : (r20_.toInt).toNat < (v4_3.toInt).toNat := by have r_v := rngI v; have r_u := rngI u; have r_v4_3 := rngI v4_3; have r_r2_ := rngI r2_; have r_r20_ := rngI r20_; unfold RK at *; omega
set_option maxHeartbeats 4000000 in
set_option maxRecDepth 100000 in
theorem c_X12_bodyFrom (l : Launch) (G : va_G) (cy : Nat → ClassId) (ad : rf → Nat) (d : Nat) (N : Nat) (m : Nat) (v : Int32) (u : Int32) (t : Int32) (Mz : mM) (hIz : InvD Mz) (hO : BODC l G cy ad N m) (hk : 0 ≤ v.toInt ∧ v.toInt ≤ 7) (ha : 0 ≤ u.toInt ∧ u.toInt ≤ 3) (hr : RK v.toInt u.toInt m) : WP DD l G cy ad yX12_bodyFrom cX12_bodyFrom 5 (some .int) ((N + d) + 1) 0 [(0, vR (12, 0, 0)), (1, vI v), (2, vI u), (3, vI t)] [] Mz (fun r M' => InvD M' ∧ FR (S_voD) Mz M' ∧ True) := by
  have hFz : FR (S_voD) Mz Mz := FR.self
  refine w_iload_n dX12_bodyFrom_0 rfl 1 rfl ?_
  refine w_istore (ls' := [(4, vI v), (0, vR (12, 0, 0)), (1, vI v), (2, vI u), (3, vI t)]) dX12_bodyFrom_1 (by decide) rfl ?_
  have lp1_ : ∀ (nn_3 : Nat) (v4_3 : Int32) (hv0_3 : 0 ≤ v4_3.toInt ∧ v4_3.toInt ≤ 7) (hv1_3 : RK v4_3.toInt u.toInt m), (v4_3.toInt).toNat < nn_3 → WP DD l G cy ad yX12_bodyFrom cX12_bodyFrom 5 (some .int) ((N + d) + 1) 3 [(4, vI v4_3), (0, vR (12, 0, 0)), (1, vI v), (2, vI u), (3, vI t)] [] Mz (fun r M' => InvD M' ∧ FR (S_voD) Mz M' ∧ True) := by
    intro nn_3
    induction nn_3 with
    | zero => intro v4_3 hv0_3 hv1_3 hm_3; exact absurd hm_3 (Nat.not_lt_zero _)
    | succ nn_3 ih_3 =>
      intro v4_3 hv0_3 hv1_3 hm_3
      refine w_iload dX12_bodyFrom_3 0 rfl ?_
      refine w_iload_n dX12_bodyFrom_5 rfl 3 rfl ?_
      refine w_callS (as := [vI v4_3, vI u]) (rest := []) (c_X12_hasOwn l G cy ad (N + d) v4_3 u Mz hIz hv0_3 ha) kS_X12_hasOwn (by decide +kernel) (Nat.le_of_ble_eq_true rfl) m_1811 rfl rfl (by decide) (Nat.le_of_ble_eq_true rfl) dX12_bodyFrom_6 (fun r2_ M3_ q4_ => ?_)
      obtain ⟨rfl, h5_, hs6_⟩ := q4_
      refine w_if_ne (tgt := 22) dX12_bodyFrom_9 (by decide) (rfl : r2_.toInt = r2_.toInt) (fun h7_ => ?_) (fun h7_ => ?_)
      · refine w_aload_n dX12_bodyFrom_22 rfl 1 rfl ?_
        refine w_getI fl_RX12_336 rfl rfl ic_12 dX12_bodyFrom_23 (fun z8_ e9_ => ?_)
        have h10_ : 0 ≤ z8_.toInt ∧ z8_.toInt ≤ 1 := ofEq (P := fun v => 0 ≤ v.toInt ∧ v.toInt ≤ 1) e9_ (hIz.1 (12, 0, 0) 28)
        refine w_if_eq (tgt := 33) dX12_bodyFrom_26 (by decide) (rfl : z8_.toInt = z8_.toInt) (fun h11_ => ?_) (fun h11_ => ?_)
        · refine w_aload_n dX12_bodyFrom_33 rfl 1 rfl ?_
          refine w_iload dX12_bodyFrom_34 0 rfl ?_
          refine w_iload_n dX12_bodyFrom_36 rfl 3 rfl ?_
          refine w_iload_n dX12_bodyFrom_37 rfl 4 rfl ?_
          refine w_callV (as := [vI v4_3, vI u, vI t]) (rest := []) (hO d v4_3 u t Mz hIz hv0_3 ha hv1_3 (lf_c_X12_bodyFrom_0 m v u v4_3 r2_ hk ha hr hv0_3 hv1_3 h5_ h7_)) kV_X12_body (by decide +kernel) (Nat.le_of_ble_eq_true rfl) m_1814 rfl rfl rfl ic_12 rfl rfl (by decide) (Nat.le_of_ble_eq_true rfl) dX12_bodyFrom_38 (fun r12_ M13_ q14_ => ?_)
          obtain ⟨hI16_, hF17_, h15_⟩ := q14_
          have hF18_ := hFz.tr hF17_ (fun c k => (fun h => h.elim (fun h => (Or.inl ⟨h.1, h.2.1, h.2.2⟩)) (fun h => h.elim (fun h => (Or.inr (Or.inl ⟨h.1, h.2.1, h.2.2⟩))) (fun h => h.elim (fun h => (Or.inr (Or.inr (Or.inl ⟨h.1, h.2⟩)))) (fun h => h.elim)))))
          exact w_iret rfl dX12_bodyFrom_41 ⟨hI16_, hF18_, trivial⟩
        · refine w_iconst (v := 0) dX12_bodyFrom_29 (by decide) ?_
          refine w_goto (tgt := 41) dX12_bodyFrom_30 (by decide) ?_
          exact w_iret rfl dX12_bodyFrom_41 ⟨hIz, hFz, trivial⟩
      · refine w_iload dX12_bodyFrom_12 0 rfl ?_
        refine w_callS (as := [vI v4_3]) (rest := []) (c_above2 l G cy ad (N + d) v4_3 Mz hIz) kS_X12_above (by decide +kernel) (Nat.le_of_ble_eq_true rfl) m_1535 rfl rfl (by decide) (Nat.le_of_ble_eq_true rfl) dX12_bodyFrom_14 (fun r20_ M21_ q22_ => ?_)
        obtain ⟨rfl, h23_, hs24_⟩ := q22_
        refine w_istore (ls' := [(4, vI r20_), (0, vR (12, 0, 0)), (1, vI v), (2, vI u), (3, vI t)]) dX12_bodyFrom_17 (by decide) rfl ?_
        refine w_goto (tgt := 3) dX12_bodyFrom_19 (by decide) ?_
        refine w_loc (ls' := [(4, vI r20_), (0, vR (12, 0, 0)), (1, vI v), (2, vI u), (3, vI t)]) [0, 1, 2, 3, 4] rfl ?_
        exact ih_3 r20_ (lf_c_X12_bodyFrom_1 m v u v4_3 r2_ r20_ hk ha hr hv0_3 hv1_3 h5_ h7_ h23_) (lf_c_X12_bodyFrom_2 m v u v4_3 r2_ r20_ hk ha hr hv0_3 hv1_3 h5_ h7_ h23_) (Nat.lt_of_lt_of_le (lf_c_X12_bodyFrom_3 m v u v4_3 r2_ r20_ hk ha hr hv0_3 hv1_3 h5_ h7_ h23_) (Nat.le_of_lt_succ hm_3))
  exact lp1_ _ v hk hr (Nat.lt_succ_self _)
theorem lf_c_X12_voiced_0  (m : Nat) (v : Int32) (r4_ : Int32) (ha : 0 ≤ v.toInt ∧ v.toInt ≤ 3) (hr : 3 * v.toInt + 2 ≤ ((m : Nat) : Int)) (h7_ : 0 ≤ r4_.toInt ∧ r4_.toInt ≤ 7) : RK r4_.toInt v.toInt m := by have r_v := rngI v; have r_r4_ := rngI r4_; unfold RK at *; omega
set_option maxHeartbeats 4000000 in
set_option maxRecDepth 100000 in
theorem c_X12_voiced (l : Launch) (G : va_G) (cy : Nat → ClassId) (ad : rf → Nat) (d : Nat) (N : Nat) (m : Nat) (v : Int32) (u : Int32) (Mz : mM) (hIz : InvD Mz) (hB : BFC l G cy ad N m) (ha : 0 ≤ v.toInt ∧ v.toInt ≤ 3) (hr : 3 * v.toInt + 2 ≤ ((m : Nat) : Int)) : WP DD l G cy ad yX12_voiced cX12_voiced 3 (some .int) ((N + d) + 2) 0 [(0, vR (12, 0, 0)), (1, vI v), (2, vI u)] [] Mz (fun r M' => InvD M' ∧ FR (S_voD) Mz M' ∧ True) := by
  have hFz : FR (S_voD) Mz Mz := FR.self
  refine w_aload_n dX12_voiced_0 rfl 0 rfl ?_
  refine w_aload_n dX12_voiced_1 rfl 0 rfl ?_
  refine w_aload_n dX12_voiced_2 rfl 0 rfl ?_
  refine w_getI fl_RX12_327 rfl rfl ic_12 dX12_voiced_3 (fun z1_ e2_ => ?_)
  have h3_ : 0 ≤ z1_.toInt ∧ z1_.toInt ≤ 7 := ofEq (P := fun v => 0 ≤ v.toInt ∧ v.toInt ≤ 7) e2_ (hIz.1 (12, 0, 0) 27)
  refine w_callV (as := [vI z1_]) (rest := [vR (12, 0, 0)]) (c_X12_kindOf l G cy ad (N + d) z1_ Mz hIz h3_) kV_X12_kindOf (by decide +kernel) (Nat.le_of_ble_eq_true rfl) m_1517 rfl rfl rfl ic_12 rfl rfl (by decide) (Nat.le_of_ble_eq_true rfl) dX12_voiced_6 (fun r4_ M5_ q6_ => ?_)
  obtain ⟨rfl, h7_, hs8_⟩ := q6_
  refine w_iload_n dX12_voiced_9 rfl 1 rfl ?_
  refine w_iload_n dX12_voiced_10 rfl 2 rfl ?_
  refine w_callV (as := [vI r4_, vI v, vI u]) (rest := []) (hB (d + 1) r4_ v u Mz hIz h7_ ha (lf_c_X12_voiced_0 m v r4_ ha hr h7_)) kV_X12_bodyFrom (by decide +kernel) (Nat.le_of_ble_eq_true rfl) m_1807 rfl rfl rfl ic_12 rfl rfl (by decide) (Nat.le_of_ble_eq_true rfl) dX12_voiced_11 (fun r9_ M10_ q11_ => ?_)
  obtain ⟨hI13_, hF14_, h12_⟩ := q11_
  have hF15_ := hFz.tr hF14_ (fun c k => (fun h => h.elim (fun h => (Or.inl ⟨h.1, h.2.1, h.2.2⟩)) (fun h => h.elim (fun h => (Or.inr (Or.inl ⟨h.1, h.2.1, h.2.2⟩))) (fun h => h.elim (fun h => (Or.inr (Or.inr (Or.inl ⟨h.1, h.2⟩)))) (fun h => h.elim)))))
  exact w_iret rfl dX12_voiced_14 ⟨hI13_, hF15_, trivial⟩
theorem lf_c_X12_body_0 (Mz : mM) (z1_ : Int32) (r5_ : Int32) (e2_ : z1_ = Mz.1 (12, 0, 0) 27) (h3_ : 0 ≤ z1_.toInt ∧ z1_.toInt ≤ 7) (kf4_ : (Mz.1 (12, 0, 0) 27).toInt = z1_.toInt) (h8_ : r5_.toInt = 180 + 9 * z1_.toInt) : -2147483648 ≤ r5_.toInt + 3 ∧ r5_.toInt + 3 < 2147483648 := by have r_z1_ := rngI z1_; have r_r5_ := rngI r5_; subst e2_; omega
theorem lf_c_X12_body_1 (Mz : mM) (z1_ : Int32) (r5_ : Int32) (z10_ : Int32) (e2_ : z1_ = Mz.1 (12, 0, 0) 27) (h3_ : 0 ≤ z1_.toInt ∧ z1_.toInt ≤ 7) (kf4_ : (Mz.1 (12, 0, 0) 27).toInt = z1_.toInt) (h8_ : r5_.toInt = 180 + 9 * z1_.toInt) (h11_ : z10_.toInt = r5_.toInt + 3) : 0 ≤ z10_.toInt ∧ z10_.toInt < ((3567 : Nat) : Int) := by have r_z1_ := rngI z1_; have r_r5_ := rngI r5_; have r_z10_ := rngI z10_; subst e2_; omega
theorem lf_c_X12_body_2  (m : Nat) (v : Int32) (u : Int32) (hk : 0 ≤ v.toInt ∧ v.toInt ≤ 7) (ha : 0 ≤ u.toInt ∧ u.toInt ≤ 3) (hr : RK v.toInt u.toInt m) (ho : ((v.toInt = 0 ∧ (u.toInt = 0 ∨ u.toInt = 1 ∨ u.toInt = 2 ∨ u.toInt = 3)) ∨ (v.toInt = 1 ∧ (u.toInt = 0 ∨ u.toInt = 3)) ∨ (v.toInt = 2 ∧ (u.toInt = 1)) ∨ (v.toInt = 3 ∧ (u.toInt = 0 ∨ u.toInt = 2)) ∨ (v.toInt = 4 ∧ (u.toInt = 2)) ∨ (v.toInt = 5 ∧ (u.toInt = 1)) ∨ (v.toInt = 6 ∧ (u.toInt = 1 ∨ u.toInt = 2)) ∨ (v.toInt = 7 ∧ (u.toInt = 3)))) : -2147483648 ≤ 4 * v.toInt ∧ 4 * v.toInt < 2147483648 := by have r_v := rngI v; have r_u := rngI u; unfold RK at *; omega
theorem lf_c_X12_body_3  (m : Nat) (v : Int32) (u : Int32) (z16_ : Int32) (hk : 0 ≤ v.toInt ∧ v.toInt ≤ 7) (ha : 0 ≤ u.toInt ∧ u.toInt ≤ 3) (hr : RK v.toInt u.toInt m) (ho : ((v.toInt = 0 ∧ (u.toInt = 0 ∨ u.toInt = 1 ∨ u.toInt = 2 ∨ u.toInt = 3)) ∨ (v.toInt = 1 ∧ (u.toInt = 0 ∨ u.toInt = 3)) ∨ (v.toInt = 2 ∧ (u.toInt = 1)) ∨ (v.toInt = 3 ∧ (u.toInt = 0 ∨ u.toInt = 2)) ∨ (v.toInt = 4 ∧ (u.toInt = 2)) ∨ (v.toInt = 5 ∧ (u.toInt = 1)) ∨ (v.toInt = 6 ∧ (u.toInt = 1 ∨ u.toInt = 2)) ∨ (v.toInt = 7 ∧ (u.toInt = 3)))) (h17_ : z16_.toInt = 4 * v.toInt) : -2147483648 ≤ z16_.toInt + u.toInt ∧ z16_.toInt + u.toInt < 2147483648 := by have r_v := rngI v; have r_u := rngI u; have r_z16_ := rngI z16_; unfold RK at *; omega
theorem lf_c_X12_body_4  (m : Nat) (v : Int32) (u : Int32) (z16_ : Int32) (z18_ : Int32) (hk : 0 ≤ v.toInt ∧ v.toInt ≤ 7) (ha : 0 ≤ u.toInt ∧ u.toInt ≤ 3) (hr : RK v.toInt u.toInt m) (ho : ((v.toInt = 0 ∧ (u.toInt = 0 ∨ u.toInt = 1 ∨ u.toInt = 2 ∨ u.toInt = 3)) ∨ (v.toInt = 1 ∧ (u.toInt = 0 ∨ u.toInt = 3)) ∨ (v.toInt = 2 ∧ (u.toInt = 1)) ∨ (v.toInt = 3 ∧ (u.toInt = 0 ∨ u.toInt = 2)) ∨ (v.toInt = 4 ∧ (u.toInt = 2)) ∨ (v.toInt = 5 ∧ (u.toInt = 1)) ∨ (v.toInt = 6 ∧ (u.toInt = 1 ∨ u.toInt = 2)) ∨ (v.toInt = 7 ∧ (u.toInt = 3)))) (h17_ : z16_.toInt = 4 * v.toInt) (h19_ : z18_.toInt = z16_.toInt + u.toInt) : z18_.toInt = 0 ∨ z18_.toInt = 1 ∨ z18_.toInt = 2 ∨ z18_.toInt = 3 ∨ z18_.toInt = 4 ∨ z18_.toInt = 7 ∨ z18_.toInt = 9 ∨ z18_.toInt = 12 ∨ z18_.toInt = 14 ∨ z18_.toInt = 18 ∨ z18_.toInt = 21 ∨ z18_.toInt = 25 ∨ z18_.toInt = 26 ∨ z18_.toInt = 31 := by have r_v := rngI v; have r_u := rngI u; have r_z16_ := rngI z16_; have r_z18_ := rngI z18_; unfold RK at *; omega
theorem lf_c_X12_body_5  (m : Nat) (v : Int32) (u : Int32) (z16_ : Int32) (z18_ : Int32) (hk : 0 ≤ v.toInt ∧ v.toInt ≤ 7) (ha : 0 ≤ u.toInt ∧ u.toInt ≤ 3) (hr : RK v.toInt u.toInt m) (ho : ((v.toInt = 0 ∧ (u.toInt = 0 ∨ u.toInt = 1 ∨ u.toInt = 2 ∨ u.toInt = 3)) ∨ (v.toInt = 1 ∧ (u.toInt = 0 ∨ u.toInt = 3)) ∨ (v.toInt = 2 ∧ (u.toInt = 1)) ∨ (v.toInt = 3 ∧ (u.toInt = 0 ∨ u.toInt = 2)) ∨ (v.toInt = 4 ∧ (u.toInt = 2)) ∨ (v.toInt = 5 ∧ (u.toInt = 1)) ∨ (v.toInt = 6 ∧ (u.toInt = 1 ∨ u.toInt = 2)) ∨ (v.toInt = 7 ∧ (u.toInt = 3)))) (h17_ : z16_.toInt = 4 * v.toInt) (h19_ : z18_.toInt = z16_.toInt + u.toInt) (e20_ : z18_.toInt = 1) : 3 * 0 + 2 ≤ (((m - 1) : Nat) : Int) := by have r_v := rngI v; have r_u := rngI u; have r_z16_ := rngI z16_; have r_z18_ := rngI z18_; unfold RK at *; omega
theorem lf_c_X12_body_6  (m : Nat) (v : Int32) (u : Int32) (z16_ : Int32) (z18_ : Int32) (hk : 0 ≤ v.toInt ∧ v.toInt ≤ 7) (ha : 0 ≤ u.toInt ∧ u.toInt ≤ 3) (hr : RK v.toInt u.toInt m) (ho : ((v.toInt = 0 ∧ (u.toInt = 0 ∨ u.toInt = 1 ∨ u.toInt = 2 ∨ u.toInt = 3)) ∨ (v.toInt = 1 ∧ (u.toInt = 0 ∨ u.toInt = 3)) ∨ (v.toInt = 2 ∧ (u.toInt = 1)) ∨ (v.toInt = 3 ∧ (u.toInt = 0 ∨ u.toInt = 2)) ∨ (v.toInt = 4 ∧ (u.toInt = 2)) ∨ (v.toInt = 5 ∧ (u.toInt = 1)) ∨ (v.toInt = 6 ∧ (u.toInt = 1 ∨ u.toInt = 2)) ∨ (v.toInt = 7 ∧ (u.toInt = 3)))) (h17_ : z16_.toInt = 4 * v.toInt) (h19_ : z18_.toInt = z16_.toInt + u.toInt) (e20_ : z18_.toInt = 1) : m - 1 + 1 = m := by have r_v := rngI v; have r_u := rngI u; have r_z16_ := rngI z16_; have r_z18_ := rngI z18_; unfold RK at *; omega
theorem lf_c_X12_body_7  (m : Nat) (v : Int32) (u : Int32) (z16_ : Int32) (z18_ : Int32) (hk : 0 ≤ v.toInt ∧ v.toInt ≤ 7) (ha : 0 ≤ u.toInt ∧ u.toInt ≤ 3) (hr : RK v.toInt u.toInt m) (ho : ((v.toInt = 0 ∧ (u.toInt = 0 ∨ u.toInt = 1 ∨ u.toInt = 2 ∨ u.toInt = 3)) ∨ (v.toInt = 1 ∧ (u.toInt = 0 ∨ u.toInt = 3)) ∨ (v.toInt = 2 ∧ (u.toInt = 1)) ∨ (v.toInt = 3 ∧ (u.toInt = 0 ∨ u.toInt = 2)) ∨ (v.toInt = 4 ∧ (u.toInt = 2)) ∨ (v.toInt = 5 ∧ (u.toInt = 1)) ∨ (v.toInt = 6 ∧ (u.toInt = 1 ∨ u.toInt = 2)) ∨ (v.toInt = 7 ∧ (u.toInt = 3)))) (h17_ : z16_.toInt = 4 * v.toInt) (h19_ : z18_.toInt = z16_.toInt + u.toInt) (e20_ : z18_.toInt = 2) : 3 * 1 + 2 ≤ (((m - 1) : Nat) : Int) := by have r_v := rngI v; have r_u := rngI u; have r_z16_ := rngI z16_; have r_z18_ := rngI z18_; unfold RK at *; omega
theorem lf_c_X12_body_8  (m : Nat) (v : Int32) (u : Int32) (z16_ : Int32) (z18_ : Int32) (hk : 0 ≤ v.toInt ∧ v.toInt ≤ 7) (ha : 0 ≤ u.toInt ∧ u.toInt ≤ 3) (hr : RK v.toInt u.toInt m) (ho : ((v.toInt = 0 ∧ (u.toInt = 0 ∨ u.toInt = 1 ∨ u.toInt = 2 ∨ u.toInt = 3)) ∨ (v.toInt = 1 ∧ (u.toInt = 0 ∨ u.toInt = 3)) ∨ (v.toInt = 2 ∧ (u.toInt = 1)) ∨ (v.toInt = 3 ∧ (u.toInt = 0 ∨ u.toInt = 2)) ∨ (v.toInt = 4 ∧ (u.toInt = 2)) ∨ (v.toInt = 5 ∧ (u.toInt = 1)) ∨ (v.toInt = 6 ∧ (u.toInt = 1 ∨ u.toInt = 2)) ∨ (v.toInt = 7 ∧ (u.toInt = 3)))) (h17_ : z16_.toInt = 4 * v.toInt) (h19_ : z18_.toInt = z16_.toInt + u.toInt) (e20_ : z18_.toInt = 2) : m - 1 + 1 = m := by have r_v := rngI v; have r_u := rngI u; have r_z16_ := rngI z16_; have r_z18_ := rngI z18_; unfold RK at *; omega
theorem lf_c_X12_body_9 (M86_ : mM) (z92_ : Int32) (e93_ : z92_ = M86_.1 (12, 0, 0) 28) (h94_ : 0 ≤ z92_.toInt ∧ z92_.toInt ≤ 1) (h95_ : z92_.toInt = 0) (h9 : ¬ z92_.toInt = 0) : False := by have r_z92_ := rngI z92_; subst e93_; omega
theorem lf_c_X12_body_10 (M73_ : mM) (M86_ : mM) (Mz : mM) (z1_ : Int32) (r5_ : Int32) (z10_ : Int32) (j14_ : Nat) (z12_ : Int32) (z81_ : Int32) (z97_ : Int32) (e2_ : z1_ = Mz.1 (12, 0, 0) 27) (h3_ : 0 ≤ z1_.toInt ∧ z1_.toInt ≤ 7) (kf4_ : (Mz.1 (12, 0, 0) 27).toInt = z1_.toInt) (h8_ : r5_.toInt = 180 + 9 * z1_.toInt) (h11_ : z10_.toInt = r5_.toInt + 3) (h15_ : (j14_ : Int) = z10_.toInt) (e13_ : z12_ = Mz.1 (50, 0, 0) j14_) (kf80_ : (M73_.1 (12, 0, 0) 27).toInt = z1_.toInt) (e82_ : z81_ = M73_.1 (12, 0, 0) 27) (h83_ : 0 ≤ z81_.toInt ∧ z81_.toInt ≤ 7) (h84_ : z81_.toInt = z1_.toInt) (h85_ : ¬ z81_.toInt = 3) (kf90_ : (M86_.1 (12, 0, 0) 27).toInt = z1_.toInt) (e98_ : z97_ = M86_.1 (12, 0, 0) 27) (h99_ : 0 ≤ z97_.toInt ∧ z97_.toInt ≤ 7) (h100_ : z97_.toInt = z1_.toInt) : -2147483648 ≤ z97_.toInt - 3 ∧ z97_.toInt - 3 < 2147483648 := by have r_z1_ := rngI z1_; have r_r5_ := rngI r5_; have r_z10_ := rngI z10_; have r_z12_ := rngI z12_; have r_z81_ := rngI z81_; have r_z97_ := rngI z97_; subst e2_; subst e13_; subst e82_; subst e98_; omega
theorem lf_c_X12_body_11 (M73_ : mM) (M86_ : mM) (Mz : mM) (z1_ : Int32) (r5_ : Int32) (z10_ : Int32) (j14_ : Nat) (z12_ : Int32) (z81_ : Int32) (z97_ : Int32) (z101_ : Int32) (e2_ : z1_ = Mz.1 (12, 0, 0) 27) (h3_ : 0 ≤ z1_.toInt ∧ z1_.toInt ≤ 7) (kf4_ : (Mz.1 (12, 0, 0) 27).toInt = z1_.toInt) (h8_ : r5_.toInt = 180 + 9 * z1_.toInt) (h11_ : z10_.toInt = r5_.toInt + 3) (h15_ : (j14_ : Int) = z10_.toInt) (e13_ : z12_ = Mz.1 (50, 0, 0) j14_) (kf80_ : (M73_.1 (12, 0, 0) 27).toInt = z1_.toInt) (e82_ : z81_ = M73_.1 (12, 0, 0) 27) (h83_ : 0 ≤ z81_.toInt ∧ z81_.toInt ≤ 7) (h84_ : z81_.toInt = z1_.toInt) (h85_ : ¬ z81_.toInt = 3) (kf90_ : (M86_.1 (12, 0, 0) 27).toInt = z1_.toInt) (e98_ : z97_ = M86_.1 (12, 0, 0) 27) (h99_ : 0 ≤ z97_.toInt ∧ z97_.toInt ≤ 7) (h100_ : z97_.toInt = z1_.toInt) (h102_ : z101_.toInt = z97_.toInt - 3) : ¬ z101_.toInt = 0 := by have r_z1_ := rngI z1_; have r_r5_ := rngI r5_; have r_z10_ := rngI z10_; have r_z12_ := rngI z12_; have r_z81_ := rngI z81_; have r_z97_ := rngI z97_; have r_z101_ := rngI z101_; subst e2_; subst e13_; subst e82_; subst e98_; omega
theorem lf_c_X12_body_12 (M105_ : mM) (z111_ : Int32) (e112_ : z111_ = M105_.1 (12, 0, 0) 28) (h113_ : 0 ≤ z111_.toInt ∧ z111_.toInt ≤ 1) (h114_ : z111_.toInt = 1) (h9 : z111_.toInt = 0) : False := by have r_z111_ := rngI z111_; subst e112_; omega
theorem lf_c_X12_body_13  (m : Nat) (v : Int32) (u : Int32) (z16_ : Int32) (z18_ : Int32) (hk : 0 ≤ v.toInt ∧ v.toInt ≤ 7) (ha : 0 ≤ u.toInt ∧ u.toInt ≤ 3) (hr : RK v.toInt u.toInt m) (ho : ((v.toInt = 0 ∧ (u.toInt = 0 ∨ u.toInt = 1 ∨ u.toInt = 2 ∨ u.toInt = 3)) ∨ (v.toInt = 1 ∧ (u.toInt = 0 ∨ u.toInt = 3)) ∨ (v.toInt = 2 ∧ (u.toInt = 1)) ∨ (v.toInt = 3 ∧ (u.toInt = 0 ∨ u.toInt = 2)) ∨ (v.toInt = 4 ∧ (u.toInt = 2)) ∨ (v.toInt = 5 ∧ (u.toInt = 1)) ∨ (v.toInt = 6 ∧ (u.toInt = 1 ∨ u.toInt = 2)) ∨ (v.toInt = 7 ∧ (u.toInt = 3)))) (h17_ : z16_.toInt = 4 * v.toInt) (h19_ : z18_.toInt = z16_.toInt + u.toInt) (e20_ : z18_.toInt = 4) : RK 0 0 (m - 1) := by have r_v := rngI v; have r_u := rngI u; have r_z16_ := rngI z16_; have r_z18_ := rngI z18_; unfold RK at *; omega
theorem lf_c_X12_body_14  (m : Nat) (v : Int32) (u : Int32) (z16_ : Int32) (z18_ : Int32) (hk : 0 ≤ v.toInt ∧ v.toInt ≤ 7) (ha : 0 ≤ u.toInt ∧ u.toInt ≤ 3) (hr : RK v.toInt u.toInt m) (ho : ((v.toInt = 0 ∧ (u.toInt = 0 ∨ u.toInt = 1 ∨ u.toInt = 2 ∨ u.toInt = 3)) ∨ (v.toInt = 1 ∧ (u.toInt = 0 ∨ u.toInt = 3)) ∨ (v.toInt = 2 ∧ (u.toInt = 1)) ∨ (v.toInt = 3 ∧ (u.toInt = 0 ∨ u.toInt = 2)) ∨ (v.toInt = 4 ∧ (u.toInt = 2)) ∨ (v.toInt = 5 ∧ (u.toInt = 1)) ∨ (v.toInt = 6 ∧ (u.toInt = 1 ∨ u.toInt = 2)) ∨ (v.toInt = 7 ∧ (u.toInt = 3)))) (h17_ : z16_.toInt = 4 * v.toInt) (h19_ : z18_.toInt = z16_.toInt + u.toInt) (e20_ : z18_.toInt = 4) : m - 1 + 1 = m := by have r_v := rngI v; have r_u := rngI u; have r_z16_ := rngI z16_; have r_z18_ := rngI z18_; unfold RK at *; omega
theorem lf_c_X12_body_15  (m : Nat) (v : Int32) (u : Int32) (z16_ : Int32) (z18_ : Int32) (hk : 0 ≤ v.toInt ∧ v.toInt ≤ 7) (ha : 0 ≤ u.toInt ∧ u.toInt ≤ 3) (hr : RK v.toInt u.toInt m) (ho : ((v.toInt = 0 ∧ (u.toInt = 0 ∨ u.toInt = 1 ∨ u.toInt = 2 ∨ u.toInt = 3)) ∨ (v.toInt = 1 ∧ (u.toInt = 0 ∨ u.toInt = 3)) ∨ (v.toInt = 2 ∧ (u.toInt = 1)) ∨ (v.toInt = 3 ∧ (u.toInt = 0 ∨ u.toInt = 2)) ∨ (v.toInt = 4 ∧ (u.toInt = 2)) ∨ (v.toInt = 5 ∧ (u.toInt = 1)) ∨ (v.toInt = 6 ∧ (u.toInt = 1 ∨ u.toInt = 2)) ∨ (v.toInt = 7 ∧ (u.toInt = 3)))) (h17_ : z16_.toInt = 4 * v.toInt) (h19_ : z18_.toInt = z16_.toInt + u.toInt) (e20_ : z18_.toInt = 7) : RK 0 3 (m - 1) := by have r_v := rngI v; have r_u := rngI u; have r_z16_ := rngI z16_; have r_z18_ := rngI z18_; unfold RK at *; omega
theorem lf_c_X12_body_16  (m : Nat) (v : Int32) (u : Int32) (z16_ : Int32) (z18_ : Int32) (hk : 0 ≤ v.toInt ∧ v.toInt ≤ 7) (ha : 0 ≤ u.toInt ∧ u.toInt ≤ 3) (hr : RK v.toInt u.toInt m) (ho : ((v.toInt = 0 ∧ (u.toInt = 0 ∨ u.toInt = 1 ∨ u.toInt = 2 ∨ u.toInt = 3)) ∨ (v.toInt = 1 ∧ (u.toInt = 0 ∨ u.toInt = 3)) ∨ (v.toInt = 2 ∧ (u.toInt = 1)) ∨ (v.toInt = 3 ∧ (u.toInt = 0 ∨ u.toInt = 2)) ∨ (v.toInt = 4 ∧ (u.toInt = 2)) ∨ (v.toInt = 5 ∧ (u.toInt = 1)) ∨ (v.toInt = 6 ∧ (u.toInt = 1 ∨ u.toInt = 2)) ∨ (v.toInt = 7 ∧ (u.toInt = 3)))) (h17_ : z16_.toInt = 4 * v.toInt) (h19_ : z18_.toInt = z16_.toInt + u.toInt) (e20_ : z18_.toInt = 7) : m - 1 + 1 = m := by have r_v := rngI v; have r_u := rngI u; have r_z16_ := rngI z16_; have r_z18_ := rngI z18_; unfold RK at *; omega
theorem lf_c_X12_body_17  (m : Nat) (v : Int32) (u : Int32) (z16_ : Int32) (z18_ : Int32) (hk : 0 ≤ v.toInt ∧ v.toInt ≤ 7) (ha : 0 ≤ u.toInt ∧ u.toInt ≤ 3) (hr : RK v.toInt u.toInt m) (ho : ((v.toInt = 0 ∧ (u.toInt = 0 ∨ u.toInt = 1 ∨ u.toInt = 2 ∨ u.toInt = 3)) ∨ (v.toInt = 1 ∧ (u.toInt = 0 ∨ u.toInt = 3)) ∨ (v.toInt = 2 ∧ (u.toInt = 1)) ∨ (v.toInt = 3 ∧ (u.toInt = 0 ∨ u.toInt = 2)) ∨ (v.toInt = 4 ∧ (u.toInt = 2)) ∨ (v.toInt = 5 ∧ (u.toInt = 1)) ∨ (v.toInt = 6 ∧ (u.toInt = 1 ∨ u.toInt = 2)) ∨ (v.toInt = 7 ∧ (u.toInt = 3)))) (h17_ : z16_.toInt = 4 * v.toInt) (h19_ : z18_.toInt = z16_.toInt + u.toInt) (e20_ : z18_.toInt = 7) : 3 * 2 + 2 ≤ (((m - 1) : Nat) : Int) := by have r_v := rngI v; have r_u := rngI u; have r_z16_ := rngI z16_; have r_z18_ := rngI z18_; unfold RK at *; omega
theorem lf_c_X12_body_18  (m : Nat) (v : Int32) (u : Int32) (z16_ : Int32) (z18_ : Int32) (hk : 0 ≤ v.toInt ∧ v.toInt ≤ 7) (ha : 0 ≤ u.toInt ∧ u.toInt ≤ 3) (hr : RK v.toInt u.toInt m) (ho : ((v.toInt = 0 ∧ (u.toInt = 0 ∨ u.toInt = 1 ∨ u.toInt = 2 ∨ u.toInt = 3)) ∨ (v.toInt = 1 ∧ (u.toInt = 0 ∨ u.toInt = 3)) ∨ (v.toInt = 2 ∧ (u.toInt = 1)) ∨ (v.toInt = 3 ∧ (u.toInt = 0 ∨ u.toInt = 2)) ∨ (v.toInt = 4 ∧ (u.toInt = 2)) ∨ (v.toInt = 5 ∧ (u.toInt = 1)) ∨ (v.toInt = 6 ∧ (u.toInt = 1 ∨ u.toInt = 2)) ∨ (v.toInt = 7 ∧ (u.toInt = 3)))) (h17_ : z16_.toInt = 4 * v.toInt) (h19_ : z18_.toInt = z16_.toInt + u.toInt) (e20_ : z18_.toInt = 7) : m - 1 + 1 = m := by have r_v := rngI v; have r_u := rngI u; have r_z16_ := rngI z16_; have r_z18_ := rngI z18_; unfold RK at *; omega
theorem lf_c_X12_body_19  (m : Nat) (v : Int32) (u : Int32) (z16_ : Int32) (z18_ : Int32) (hk : 0 ≤ v.toInt ∧ v.toInt ≤ 7) (ha : 0 ≤ u.toInt ∧ u.toInt ≤ 3) (hr : RK v.toInt u.toInt m) (ho : ((v.toInt = 0 ∧ (u.toInt = 0 ∨ u.toInt = 1 ∨ u.toInt = 2 ∨ u.toInt = 3)) ∨ (v.toInt = 1 ∧ (u.toInt = 0 ∨ u.toInt = 3)) ∨ (v.toInt = 2 ∧ (u.toInt = 1)) ∨ (v.toInt = 3 ∧ (u.toInt = 0 ∨ u.toInt = 2)) ∨ (v.toInt = 4 ∧ (u.toInt = 2)) ∨ (v.toInt = 5 ∧ (u.toInt = 1)) ∨ (v.toInt = 6 ∧ (u.toInt = 1 ∨ u.toInt = 2)) ∨ (v.toInt = 7 ∧ (u.toInt = 3)))) (h17_ : z16_.toInt = 4 * v.toInt) (h19_ : z18_.toInt = z16_.toInt + u.toInt) (e20_ : z18_.toInt = 9) : RK 0 1 (m - 1) := by have r_v := rngI v; have r_u := rngI u; have r_z16_ := rngI z16_; have r_z18_ := rngI z18_; unfold RK at *; omega
theorem lf_c_X12_body_20  (m : Nat) (v : Int32) (u : Int32) (z16_ : Int32) (z18_ : Int32) (hk : 0 ≤ v.toInt ∧ v.toInt ≤ 7) (ha : 0 ≤ u.toInt ∧ u.toInt ≤ 3) (hr : RK v.toInt u.toInt m) (ho : ((v.toInt = 0 ∧ (u.toInt = 0 ∨ u.toInt = 1 ∨ u.toInt = 2 ∨ u.toInt = 3)) ∨ (v.toInt = 1 ∧ (u.toInt = 0 ∨ u.toInt = 3)) ∨ (v.toInt = 2 ∧ (u.toInt = 1)) ∨ (v.toInt = 3 ∧ (u.toInt = 0 ∨ u.toInt = 2)) ∨ (v.toInt = 4 ∧ (u.toInt = 2)) ∨ (v.toInt = 5 ∧ (u.toInt = 1)) ∨ (v.toInt = 6 ∧ (u.toInt = 1 ∨ u.toInt = 2)) ∨ (v.toInt = 7 ∧ (u.toInt = 3)))) (h17_ : z16_.toInt = 4 * v.toInt) (h19_ : z18_.toInt = z16_.toInt + u.toInt) (e20_ : z18_.toInt = 9) : m - 1 + 1 = m := by have r_v := rngI v; have r_u := rngI u; have r_z16_ := rngI z16_; have r_z18_ := rngI z18_; unfold RK at *; omega
theorem lf_c_X12_body_21  (m : Nat) (v : Int32) (u : Int32) (z16_ : Int32) (z18_ : Int32) (hk : 0 ≤ v.toInt ∧ v.toInt ≤ 7) (ha : 0 ≤ u.toInt ∧ u.toInt ≤ 3) (hr : RK v.toInt u.toInt m) (ho : ((v.toInt = 0 ∧ (u.toInt = 0 ∨ u.toInt = 1 ∨ u.toInt = 2 ∨ u.toInt = 3)) ∨ (v.toInt = 1 ∧ (u.toInt = 0 ∨ u.toInt = 3)) ∨ (v.toInt = 2 ∧ (u.toInt = 1)) ∨ (v.toInt = 3 ∧ (u.toInt = 0 ∨ u.toInt = 2)) ∨ (v.toInt = 4 ∧ (u.toInt = 2)) ∨ (v.toInt = 5 ∧ (u.toInt = 1)) ∨ (v.toInt = 6 ∧ (u.toInt = 1 ∨ u.toInt = 2)) ∨ (v.toInt = 7 ∧ (u.toInt = 3)))) (h17_ : z16_.toInt = 4 * v.toInt) (h19_ : z18_.toInt = z16_.toInt + u.toInt) (e20_ : z18_.toInt = 12) : RK 0 0 (m - 1) := by have r_v := rngI v; have r_u := rngI u; have r_z16_ := rngI z16_; have r_z18_ := rngI z18_; unfold RK at *; omega
theorem lf_c_X12_body_22  (m : Nat) (v : Int32) (u : Int32) (z16_ : Int32) (z18_ : Int32) (hk : 0 ≤ v.toInt ∧ v.toInt ≤ 7) (ha : 0 ≤ u.toInt ∧ u.toInt ≤ 3) (hr : RK v.toInt u.toInt m) (ho : ((v.toInt = 0 ∧ (u.toInt = 0 ∨ u.toInt = 1 ∨ u.toInt = 2 ∨ u.toInt = 3)) ∨ (v.toInt = 1 ∧ (u.toInt = 0 ∨ u.toInt = 3)) ∨ (v.toInt = 2 ∧ (u.toInt = 1)) ∨ (v.toInt = 3 ∧ (u.toInt = 0 ∨ u.toInt = 2)) ∨ (v.toInt = 4 ∧ (u.toInt = 2)) ∨ (v.toInt = 5 ∧ (u.toInt = 1)) ∨ (v.toInt = 6 ∧ (u.toInt = 1 ∨ u.toInt = 2)) ∨ (v.toInt = 7 ∧ (u.toInt = 3)))) (h17_ : z16_.toInt = 4 * v.toInt) (h19_ : z18_.toInt = z16_.toInt + u.toInt) (e20_ : z18_.toInt = 12) : m - 1 + 1 = m := by have r_v := rngI v; have r_u := rngI u; have r_z16_ := rngI z16_; have r_z18_ := rngI z18_; unfold RK at *; omega
theorem lf_c_X12_body_23  (m : Nat) (v : Int32) (u : Int32) (z16_ : Int32) (z18_ : Int32) (hk : 0 ≤ v.toInt ∧ v.toInt ≤ 7) (ha : 0 ≤ u.toInt ∧ u.toInt ≤ 3) (hr : RK v.toInt u.toInt m) (ho : ((v.toInt = 0 ∧ (u.toInt = 0 ∨ u.toInt = 1 ∨ u.toInt = 2 ∨ u.toInt = 3)) ∨ (v.toInt = 1 ∧ (u.toInt = 0 ∨ u.toInt = 3)) ∨ (v.toInt = 2 ∧ (u.toInt = 1)) ∨ (v.toInt = 3 ∧ (u.toInt = 0 ∨ u.toInt = 2)) ∨ (v.toInt = 4 ∧ (u.toInt = 2)) ∨ (v.toInt = 5 ∧ (u.toInt = 1)) ∨ (v.toInt = 6 ∧ (u.toInt = 1 ∨ u.toInt = 2)) ∨ (v.toInt = 7 ∧ (u.toInt = 3)))) (h17_ : z16_.toInt = 4 * v.toInt) (h19_ : z18_.toInt = z16_.toInt + u.toInt) (e20_ : z18_.toInt = 14) : RK 0 2 (m - 1) := by have r_v := rngI v; have r_u := rngI u; have r_z16_ := rngI z16_; have r_z18_ := rngI z18_; unfold RK at *; omega
theorem lf_c_X12_body_24  (m : Nat) (v : Int32) (u : Int32) (z16_ : Int32) (z18_ : Int32) (hk : 0 ≤ v.toInt ∧ v.toInt ≤ 7) (ha : 0 ≤ u.toInt ∧ u.toInt ≤ 3) (hr : RK v.toInt u.toInt m) (ho : ((v.toInt = 0 ∧ (u.toInt = 0 ∨ u.toInt = 1 ∨ u.toInt = 2 ∨ u.toInt = 3)) ∨ (v.toInt = 1 ∧ (u.toInt = 0 ∨ u.toInt = 3)) ∨ (v.toInt = 2 ∧ (u.toInt = 1)) ∨ (v.toInt = 3 ∧ (u.toInt = 0 ∨ u.toInt = 2)) ∨ (v.toInt = 4 ∧ (u.toInt = 2)) ∨ (v.toInt = 5 ∧ (u.toInt = 1)) ∨ (v.toInt = 6 ∧ (u.toInt = 1 ∨ u.toInt = 2)) ∨ (v.toInt = 7 ∧ (u.toInt = 3)))) (h17_ : z16_.toInt = 4 * v.toInt) (h19_ : z18_.toInt = z16_.toInt + u.toInt) (e20_ : z18_.toInt = 14) : m - 1 + 1 = m := by have r_v := rngI v; have r_u := rngI u; have r_z16_ := rngI z16_; have r_z18_ := rngI z18_; unfold RK at *; omega
theorem lf_c_X12_body_25  (m : Nat) (v : Int32) (u : Int32) (z16_ : Int32) (z18_ : Int32) (hk : 0 ≤ v.toInt ∧ v.toInt ≤ 7) (ha : 0 ≤ u.toInt ∧ u.toInt ≤ 3) (hr : RK v.toInt u.toInt m) (ho : ((v.toInt = 0 ∧ (u.toInt = 0 ∨ u.toInt = 1 ∨ u.toInt = 2 ∨ u.toInt = 3)) ∨ (v.toInt = 1 ∧ (u.toInt = 0 ∨ u.toInt = 3)) ∨ (v.toInt = 2 ∧ (u.toInt = 1)) ∨ (v.toInt = 3 ∧ (u.toInt = 0 ∨ u.toInt = 2)) ∨ (v.toInt = 4 ∧ (u.toInt = 2)) ∨ (v.toInt = 5 ∧ (u.toInt = 1)) ∨ (v.toInt = 6 ∧ (u.toInt = 1 ∨ u.toInt = 2)) ∨ (v.toInt = 7 ∧ (u.toInt = 3)))) (h17_ : z16_.toInt = 4 * v.toInt) (h19_ : z18_.toInt = z16_.toInt + u.toInt) (e20_ : z18_.toInt = 18) : RK 0 2 (m - 1) := by have r_v := rngI v; have r_u := rngI u; have r_z16_ := rngI z16_; have r_z18_ := rngI z18_; unfold RK at *; omega
theorem lf_c_X12_body_26  (m : Nat) (v : Int32) (u : Int32) (z16_ : Int32) (z18_ : Int32) (hk : 0 ≤ v.toInt ∧ v.toInt ≤ 7) (ha : 0 ≤ u.toInt ∧ u.toInt ≤ 3) (hr : RK v.toInt u.toInt m) (ho : ((v.toInt = 0 ∧ (u.toInt = 0 ∨ u.toInt = 1 ∨ u.toInt = 2 ∨ u.toInt = 3)) ∨ (v.toInt = 1 ∧ (u.toInt = 0 ∨ u.toInt = 3)) ∨ (v.toInt = 2 ∧ (u.toInt = 1)) ∨ (v.toInt = 3 ∧ (u.toInt = 0 ∨ u.toInt = 2)) ∨ (v.toInt = 4 ∧ (u.toInt = 2)) ∨ (v.toInt = 5 ∧ (u.toInt = 1)) ∨ (v.toInt = 6 ∧ (u.toInt = 1 ∨ u.toInt = 2)) ∨ (v.toInt = 7 ∧ (u.toInt = 3)))) (h17_ : z16_.toInt = 4 * v.toInt) (h19_ : z18_.toInt = z16_.toInt + u.toInt) (e20_ : z18_.toInt = 18) : m - 1 + 1 = m := by have r_v := rngI v; have r_u := rngI u; have r_z16_ := rngI z16_; have r_z18_ := rngI z18_; unfold RK at *; omega
theorem lf_c_X12_body_27  (m : Nat) (v : Int32) (u : Int32) (z16_ : Int32) (z18_ : Int32) (hk : 0 ≤ v.toInt ∧ v.toInt ≤ 7) (ha : 0 ≤ u.toInt ∧ u.toInt ≤ 3) (hr : RK v.toInt u.toInt m) (ho : ((v.toInt = 0 ∧ (u.toInt = 0 ∨ u.toInt = 1 ∨ u.toInt = 2 ∨ u.toInt = 3)) ∨ (v.toInt = 1 ∧ (u.toInt = 0 ∨ u.toInt = 3)) ∨ (v.toInt = 2 ∧ (u.toInt = 1)) ∨ (v.toInt = 3 ∧ (u.toInt = 0 ∨ u.toInt = 2)) ∨ (v.toInt = 4 ∧ (u.toInt = 2)) ∨ (v.toInt = 5 ∧ (u.toInt = 1)) ∨ (v.toInt = 6 ∧ (u.toInt = 1 ∨ u.toInt = 2)) ∨ (v.toInt = 7 ∧ (u.toInt = 3)))) (h17_ : z16_.toInt = 4 * v.toInt) (h19_ : z18_.toInt = z16_.toInt + u.toInt) (e20_ : z18_.toInt = 21) : RK 1 1 (m - 1) := by have r_v := rngI v; have r_u := rngI u; have r_z16_ := rngI z16_; have r_z18_ := rngI z18_; unfold RK at *; omega
theorem lf_c_X12_body_28  (m : Nat) (v : Int32) (u : Int32) (z16_ : Int32) (z18_ : Int32) (hk : 0 ≤ v.toInt ∧ v.toInt ≤ 7) (ha : 0 ≤ u.toInt ∧ u.toInt ≤ 3) (hr : RK v.toInt u.toInt m) (ho : ((v.toInt = 0 ∧ (u.toInt = 0 ∨ u.toInt = 1 ∨ u.toInt = 2 ∨ u.toInt = 3)) ∨ (v.toInt = 1 ∧ (u.toInt = 0 ∨ u.toInt = 3)) ∨ (v.toInt = 2 ∧ (u.toInt = 1)) ∨ (v.toInt = 3 ∧ (u.toInt = 0 ∨ u.toInt = 2)) ∨ (v.toInt = 4 ∧ (u.toInt = 2)) ∨ (v.toInt = 5 ∧ (u.toInt = 1)) ∨ (v.toInt = 6 ∧ (u.toInt = 1 ∨ u.toInt = 2)) ∨ (v.toInt = 7 ∧ (u.toInt = 3)))) (h17_ : z16_.toInt = 4 * v.toInt) (h19_ : z18_.toInt = z16_.toInt + u.toInt) (e20_ : z18_.toInt = 21) : m - 1 + 1 = m := by have r_v := rngI v; have r_u := rngI u; have r_z16_ := rngI z16_; have r_z18_ := rngI z18_; unfold RK at *; omega
theorem lf_c_X12_body_29  (m : Nat) (v : Int32) (u : Int32) (z16_ : Int32) (z18_ : Int32) (hk : 0 ≤ v.toInt ∧ v.toInt ≤ 7) (ha : 0 ≤ u.toInt ∧ u.toInt ≤ 3) (hr : RK v.toInt u.toInt m) (ho : ((v.toInt = 0 ∧ (u.toInt = 0 ∨ u.toInt = 1 ∨ u.toInt = 2 ∨ u.toInt = 3)) ∨ (v.toInt = 1 ∧ (u.toInt = 0 ∨ u.toInt = 3)) ∨ (v.toInt = 2 ∧ (u.toInt = 1)) ∨ (v.toInt = 3 ∧ (u.toInt = 0 ∨ u.toInt = 2)) ∨ (v.toInt = 4 ∧ (u.toInt = 2)) ∨ (v.toInt = 5 ∧ (u.toInt = 1)) ∨ (v.toInt = 6 ∧ (u.toInt = 1 ∨ u.toInt = 2)) ∨ (v.toInt = 7 ∧ (u.toInt = 3)))) (h17_ : z16_.toInt = 4 * v.toInt) (h19_ : z18_.toInt = z16_.toInt + u.toInt) (e20_ : z18_.toInt = 25) : RK 3 1 (m - 1) := by have r_v := rngI v; have r_u := rngI u; have r_z16_ := rngI z16_; have r_z18_ := rngI z18_; unfold RK at *; omega
theorem lf_c_X12_body_30  (m : Nat) (v : Int32) (u : Int32) (z16_ : Int32) (z18_ : Int32) (hk : 0 ≤ v.toInt ∧ v.toInt ≤ 7) (ha : 0 ≤ u.toInt ∧ u.toInt ≤ 3) (hr : RK v.toInt u.toInt m) (ho : ((v.toInt = 0 ∧ (u.toInt = 0 ∨ u.toInt = 1 ∨ u.toInt = 2 ∨ u.toInt = 3)) ∨ (v.toInt = 1 ∧ (u.toInt = 0 ∨ u.toInt = 3)) ∨ (v.toInt = 2 ∧ (u.toInt = 1)) ∨ (v.toInt = 3 ∧ (u.toInt = 0 ∨ u.toInt = 2)) ∨ (v.toInt = 4 ∧ (u.toInt = 2)) ∨ (v.toInt = 5 ∧ (u.toInt = 1)) ∨ (v.toInt = 6 ∧ (u.toInt = 1 ∨ u.toInt = 2)) ∨ (v.toInt = 7 ∧ (u.toInt = 3)))) (h17_ : z16_.toInt = 4 * v.toInt) (h19_ : z18_.toInt = z16_.toInt + u.toInt) (e20_ : z18_.toInt = 25) : m - 1 + 1 = m := by have r_v := rngI v; have r_u := rngI u; have r_z16_ := rngI z16_; have r_z18_ := rngI z18_; unfold RK at *; omega
theorem lf_c_X12_body_31  (m : Nat) (v : Int32) (u : Int32) (z16_ : Int32) (z18_ : Int32) (hk : 0 ≤ v.toInt ∧ v.toInt ≤ 7) (ha : 0 ≤ u.toInt ∧ u.toInt ≤ 3) (hr : RK v.toInt u.toInt m) (ho : ((v.toInt = 0 ∧ (u.toInt = 0 ∨ u.toInt = 1 ∨ u.toInt = 2 ∨ u.toInt = 3)) ∨ (v.toInt = 1 ∧ (u.toInt = 0 ∨ u.toInt = 3)) ∨ (v.toInt = 2 ∧ (u.toInt = 1)) ∨ (v.toInt = 3 ∧ (u.toInt = 0 ∨ u.toInt = 2)) ∨ (v.toInt = 4 ∧ (u.toInt = 2)) ∨ (v.toInt = 5 ∧ (u.toInt = 1)) ∨ (v.toInt = 6 ∧ (u.toInt = 1 ∨ u.toInt = 2)) ∨ (v.toInt = 7 ∧ (u.toInt = 3)))) (h17_ : z16_.toInt = 4 * v.toInt) (h19_ : z18_.toInt = z16_.toInt + u.toInt) (e20_ : z18_.toInt = 26) : RK 3 2 (m - 1) := by have r_v := rngI v; have r_u := rngI u; have r_z16_ := rngI z16_; have r_z18_ := rngI z18_; unfold RK at *; omega
theorem lf_c_X12_body_32  (m : Nat) (v : Int32) (u : Int32) (z16_ : Int32) (z18_ : Int32) (hk : 0 ≤ v.toInt ∧ v.toInt ≤ 7) (ha : 0 ≤ u.toInt ∧ u.toInt ≤ 3) (hr : RK v.toInt u.toInt m) (ho : ((v.toInt = 0 ∧ (u.toInt = 0 ∨ u.toInt = 1 ∨ u.toInt = 2 ∨ u.toInt = 3)) ∨ (v.toInt = 1 ∧ (u.toInt = 0 ∨ u.toInt = 3)) ∨ (v.toInt = 2 ∧ (u.toInt = 1)) ∨ (v.toInt = 3 ∧ (u.toInt = 0 ∨ u.toInt = 2)) ∨ (v.toInt = 4 ∧ (u.toInt = 2)) ∨ (v.toInt = 5 ∧ (u.toInt = 1)) ∨ (v.toInt = 6 ∧ (u.toInt = 1 ∨ u.toInt = 2)) ∨ (v.toInt = 7 ∧ (u.toInt = 3)))) (h17_ : z16_.toInt = 4 * v.toInt) (h19_ : z18_.toInt = z16_.toInt + u.toInt) (e20_ : z18_.toInt = 26) : m - 1 + 1 = m := by have r_v := rngI v; have r_u := rngI u; have r_z16_ := rngI z16_; have r_z18_ := rngI z18_; unfold RK at *; omega
theorem lf_c_X12_body_33  (m : Nat) (v : Int32) (u : Int32) (z16_ : Int32) (z18_ : Int32) (hk : 0 ≤ v.toInt ∧ v.toInt ≤ 7) (ha : 0 ≤ u.toInt ∧ u.toInt ≤ 3) (hr : RK v.toInt u.toInt m) (ho : ((v.toInt = 0 ∧ (u.toInt = 0 ∨ u.toInt = 1 ∨ u.toInt = 2 ∨ u.toInt = 3)) ∨ (v.toInt = 1 ∧ (u.toInt = 0 ∨ u.toInt = 3)) ∨ (v.toInt = 2 ∧ (u.toInt = 1)) ∨ (v.toInt = 3 ∧ (u.toInt = 0 ∨ u.toInt = 2)) ∨ (v.toInt = 4 ∧ (u.toInt = 2)) ∨ (v.toInt = 5 ∧ (u.toInt = 1)) ∨ (v.toInt = 6 ∧ (u.toInt = 1 ∨ u.toInt = 2)) ∨ (v.toInt = 7 ∧ (u.toInt = 3)))) (h17_ : z16_.toInt = 4 * v.toInt) (h19_ : z18_.toInt = z16_.toInt + u.toInt) (e20_ : z18_.toInt = 26) : 3 * 0 + 2 ≤ (((m - 1) : Nat) : Int) := by have r_v := rngI v; have r_u := rngI u; have r_z16_ := rngI z16_; have r_z18_ := rngI z18_; unfold RK at *; omega
theorem lf_c_X12_body_34  (m : Nat) (v : Int32) (u : Int32) (z16_ : Int32) (z18_ : Int32) (hk : 0 ≤ v.toInt ∧ v.toInt ≤ 7) (ha : 0 ≤ u.toInt ∧ u.toInt ≤ 3) (hr : RK v.toInt u.toInt m) (ho : ((v.toInt = 0 ∧ (u.toInt = 0 ∨ u.toInt = 1 ∨ u.toInt = 2 ∨ u.toInt = 3)) ∨ (v.toInt = 1 ∧ (u.toInt = 0 ∨ u.toInt = 3)) ∨ (v.toInt = 2 ∧ (u.toInt = 1)) ∨ (v.toInt = 3 ∧ (u.toInt = 0 ∨ u.toInt = 2)) ∨ (v.toInt = 4 ∧ (u.toInt = 2)) ∨ (v.toInt = 5 ∧ (u.toInt = 1)) ∨ (v.toInt = 6 ∧ (u.toInt = 1 ∨ u.toInt = 2)) ∨ (v.toInt = 7 ∧ (u.toInt = 3)))) (h17_ : z16_.toInt = 4 * v.toInt) (h19_ : z18_.toInt = z16_.toInt + u.toInt) (e20_ : z18_.toInt = 26) : m - 1 + 1 = m := by have r_v := rngI v; have r_u := rngI u; have r_z16_ := rngI z16_; have r_z18_ := rngI z18_; unfold RK at *; omega
theorem lf_c_X12_body_35  (m : Nat) (v : Int32) (u : Int32) (z16_ : Int32) (z18_ : Int32) (hk : 0 ≤ v.toInt ∧ v.toInt ≤ 7) (ha : 0 ≤ u.toInt ∧ u.toInt ≤ 3) (hr : RK v.toInt u.toInt m) (ho : ((v.toInt = 0 ∧ (u.toInt = 0 ∨ u.toInt = 1 ∨ u.toInt = 2 ∨ u.toInt = 3)) ∨ (v.toInt = 1 ∧ (u.toInt = 0 ∨ u.toInt = 3)) ∨ (v.toInt = 2 ∧ (u.toInt = 1)) ∨ (v.toInt = 3 ∧ (u.toInt = 0 ∨ u.toInt = 2)) ∨ (v.toInt = 4 ∧ (u.toInt = 2)) ∨ (v.toInt = 5 ∧ (u.toInt = 1)) ∨ (v.toInt = 6 ∧ (u.toInt = 1 ∨ u.toInt = 2)) ∨ (v.toInt = 7 ∧ (u.toInt = 3)))) (h17_ : z16_.toInt = 4 * v.toInt) (h19_ : z18_.toInt = z16_.toInt + u.toInt) (e20_ : z18_.toInt = 31) : RK 1 3 (m - 1) := by have r_v := rngI v; have r_u := rngI u; have r_z16_ := rngI z16_; have r_z18_ := rngI z18_; unfold RK at *; omega
theorem lf_c_X12_body_36  (m : Nat) (v : Int32) (u : Int32) (z16_ : Int32) (z18_ : Int32) (hk : 0 ≤ v.toInt ∧ v.toInt ≤ 7) (ha : 0 ≤ u.toInt ∧ u.toInt ≤ 3) (hr : RK v.toInt u.toInt m) (ho : ((v.toInt = 0 ∧ (u.toInt = 0 ∨ u.toInt = 1 ∨ u.toInt = 2 ∨ u.toInt = 3)) ∨ (v.toInt = 1 ∧ (u.toInt = 0 ∨ u.toInt = 3)) ∨ (v.toInt = 2 ∧ (u.toInt = 1)) ∨ (v.toInt = 3 ∧ (u.toInt = 0 ∨ u.toInt = 2)) ∨ (v.toInt = 4 ∧ (u.toInt = 2)) ∨ (v.toInt = 5 ∧ (u.toInt = 1)) ∨ (v.toInt = 6 ∧ (u.toInt = 1 ∨ u.toInt = 2)) ∨ (v.toInt = 7 ∧ (u.toInt = 3)))) (h17_ : z16_.toInt = 4 * v.toInt) (h19_ : z18_.toInt = z16_.toInt + u.toInt) (e20_ : z18_.toInt = 31) : m - 1 + 1 = m := by have r_v := rngI v; have r_u := rngI u; have r_z16_ := rngI z16_; have r_z18_ := rngI z18_; unfold RK at *; omega
theorem lf_c_X12_body_37  (m : Nat) (v : Int32) (u : Int32) (z16_ : Int32) (z18_ : Int32) (hk : 0 ≤ v.toInt ∧ v.toInt ≤ 7) (ha : 0 ≤ u.toInt ∧ u.toInt ≤ 3) (hr : RK v.toInt u.toInt m) (ho : ((v.toInt = 0 ∧ (u.toInt = 0 ∨ u.toInt = 1 ∨ u.toInt = 2 ∨ u.toInt = 3)) ∨ (v.toInt = 1 ∧ (u.toInt = 0 ∨ u.toInt = 3)) ∨ (v.toInt = 2 ∧ (u.toInt = 1)) ∨ (v.toInt = 3 ∧ (u.toInt = 0 ∨ u.toInt = 2)) ∨ (v.toInt = 4 ∧ (u.toInt = 2)) ∨ (v.toInt = 5 ∧ (u.toInt = 1)) ∨ (v.toInt = 6 ∧ (u.toInt = 1 ∨ u.toInt = 2)) ∨ (v.toInt = 7 ∧ (u.toInt = 3)))) (h17_ : z16_.toInt = 4 * v.toInt) (h19_ : z18_.toInt = z16_.toInt + u.toInt) (e20_ : z18_.toInt = 31) : 3 * 1 + 2 ≤ (((m - 1) : Nat) : Int) := by have r_v := rngI v; have r_u := rngI u; have r_z16_ := rngI z16_; have r_z18_ := rngI z18_; unfold RK at *; omega
theorem lf_c_X12_body_38  (m : Nat) (v : Int32) (u : Int32) (z16_ : Int32) (z18_ : Int32) (hk : 0 ≤ v.toInt ∧ v.toInt ≤ 7) (ha : 0 ≤ u.toInt ∧ u.toInt ≤ 3) (hr : RK v.toInt u.toInt m) (ho : ((v.toInt = 0 ∧ (u.toInt = 0 ∨ u.toInt = 1 ∨ u.toInt = 2 ∨ u.toInt = 3)) ∨ (v.toInt = 1 ∧ (u.toInt = 0 ∨ u.toInt = 3)) ∨ (v.toInt = 2 ∧ (u.toInt = 1)) ∨ (v.toInt = 3 ∧ (u.toInt = 0 ∨ u.toInt = 2)) ∨ (v.toInt = 4 ∧ (u.toInt = 2)) ∨ (v.toInt = 5 ∧ (u.toInt = 1)) ∨ (v.toInt = 6 ∧ (u.toInt = 1 ∨ u.toInt = 2)) ∨ (v.toInt = 7 ∧ (u.toInt = 3)))) (h17_ : z16_.toInt = 4 * v.toInt) (h19_ : z18_.toInt = z16_.toInt + u.toInt) (e20_ : z18_.toInt = 31) : m - 1 + 1 = m := by have r_v := rngI v; have r_u := rngI u; have r_z16_ := rngI z16_; have r_z18_ := rngI z18_; unfold RK at *; omega
set_option maxHeartbeats 4000000 in
set_option maxRecDepth 100000 in
theorem c_X12_body (l : Launch) (G : va_G) (cy : Nat → ClassId) (ad : rf → Nat) (d : Nat) (N : Nat) (m : Nat) (v : Int32) (u : Int32) (t : Int32) (Mz : mM) (hIz : InvD Mz) (hB : ∀ k : Nat, k + 1 = m → BFC l G cy ad N k) (hk : 0 ≤ v.toInt ∧ v.toInt ≤ 7) (ha : 0 ≤ u.toInt ∧ u.toInt ≤ 3) (hr : RK v.toInt u.toInt m) (ho : ((v.toInt = 0 ∧ (u.toInt = 0 ∨ u.toInt = 1 ∨ u.toInt = 2 ∨ u.toInt = 3)) ∨ (v.toInt = 1 ∧ (u.toInt = 0 ∨ u.toInt = 3)) ∨ (v.toInt = 2 ∧ (u.toInt = 1)) ∨ (v.toInt = 3 ∧ (u.toInt = 0 ∨ u.toInt = 2)) ∨ (v.toInt = 4 ∧ (u.toInt = 2)) ∨ (v.toInt = 5 ∧ (u.toInt = 1)) ∨ (v.toInt = 6 ∧ (u.toInt = 1 ∨ u.toInt = 2)) ∨ (v.toInt = 7 ∧ (u.toInt = 3)))) : WP DD l G cy ad yX12_body cX12_body 6 (some .int) ((N + d) + 3) 0 [(0, vR (12, 0, 0)), (1, vI v), (2, vI u), (3, vI t)] [] Mz (fun r M' => InvD M' ∧ FR (S_voD) Mz M' ∧ True) := by
  have hFz : FR (S_voD) Mz Mz := FR.self
  refine w_aload_n dX12_body_0 rfl 0 rfl ?_
  refine w_getR (c' := (50, 0, 0)) fl_RX12_9 rfl rfl ic_12 dX12_body_1 rfl ?_
  refine w_aload_n dX12_body_4 rfl 0 rfl ?_
  refine w_aload_n dX12_body_5 rfl 0 rfl ?_
  refine w_getI fl_RX12_327 rfl rfl ic_12 dX12_body_6 (fun z1_ e2_ => ?_)
  have h3_ : 0 ≤ z1_.toInt ∧ z1_.toInt ≤ 7 := ofEq (P := fun v => 0 ≤ v.toInt ∧ v.toInt ≤ 7) e2_ (hIz.1 (12, 0, 0) 27)
  have kf4_ : (Mz.1 (12, 0, 0) 27).toInt = z1_.toInt := by rw [e2_]
  refine w_callV (as := [vI z1_]) (rest := [vR (50, 0, 0)]) (c_X12_goer l G cy ad ((N + d) + 2) z1_ Mz hIz h3_) kV_X12_goer (by decide +kernel) (Nat.le_of_ble_eq_true rfl) m_1451 rfl rfl rfl ic_12 rfl rfl (by decide) (Nat.le_of_ble_eq_true rfl) dX12_body_9 (fun r5_ M6_ q7_ => ?_)
  obtain ⟨rfl, h8_, hs9_⟩ := q7_
  refine w_iconst (v := 3) dX12_body_12 (by decide) ?_
  refine w_iaddB dX12_body_13 (rfl : r5_.toInt = r5_.toInt) li_3 (lf_c_X12_body_0 Mz z1_ r5_ e2_ h3_ kf4_ h8_) (fun z10_ h11_ => ?_)
  refine w_iald rfl rfl ic_50 (rfl : z10_.toInt = z10_.toInt) (lf_c_X12_body_1 Mz z1_ r5_ z10_ e2_ h3_ kf4_ h8_ h11_) dX12_body_14 (fun j14_ h15_ z12_ e13_ => ?_)
  refine w_istore (ls' := [(4, vI z12_), (0, vR (12, 0, 0)), (1, vI v), (2, vI u), (3, vI t)]) dX12_body_15 (by decide) rfl ?_
  refine w_iconst (v := 4) dX12_body_17 (by decide) ?_
  refine w_iload_n dX12_body_18 rfl 2 rfl ?_
  refine w_imulB dX12_body_19 li_4 (rfl : v.toInt = v.toInt) (lf_c_X12_body_2 m v u hk ha hr ho) (fun z16_ h17_ => ?_)
  refine w_iload_n dX12_body_20 rfl 3 rfl ?_
  refine w_iaddB dX12_body_21 (rfl : z16_.toInt = z16_.toInt) (rfl : u.toInt = u.toInt) (lf_c_X12_body_3 m v u z16_ hk ha hr ho h17_) (fun z18_ h19_ => ?_)
  rcases (lf_c_X12_body_4 m v u z16_ z18_ hk ha hr ho h17_ h19_) with e20_ | e20_ | e20_ | e20_ | e20_ | e20_ | e20_ | e20_ | e20_ | e20_ | e20_ | e20_ | e20_ | e20_
  · refine w_tsIn (tgt := 144) (off := 122) dX12_body_22 e20_ (by decide) (by decide) rfl (by decide) ?_
    refine w_aload_n dX12_body_144 rfl 1 rfl ?_
    refine w_bipush (v := 10) dX12_body_145 (by decide) ?_
    refine w_callVv (as := [vI 10]) (rest := []) (c_X12_began l G cy ad ((N + d) + 2) 10 Mz hIz) kV_X12_began (by decide +kernel) (Nat.le_of_ble_eq_true rfl) m_1818 rfl rfl rfl ic_12 rfl rfl (by decide) (Nat.le_of_ble_eq_true rfl) dX12_body_147 (fun M21_ q22_ => ?_)
    obtain ⟨hI24_, hF25_, h23_, hs27_⟩ := q22_
    have hF26_ := hFz.tr hF25_ (fun c k => (fun h => h.elim (fun h => (Or.inr (Or.inr (Or.inl ⟨h.1, h.2⟩)))) (fun h => h.elim (fun h => (Or.inl ⟨h.1, h.2.1, h.2.2⟩)) (fun h => h.elim))))
    have kf28_ : (M21_.1 (12, 0, 0) 27).toInt = z1_.toInt := by rw [(hF25_ (12, 0, 0) 27 (by simp [S_c_X12_began]))]; exact kf4_
    refine w_iload_n dX12_body_150 rfl 4 rfl ?_
    refine w_iload dX12_body_151 0 rfl ?_
    refine w_iadd dX12_body_153 (fun z29_ h30_ => ?_)
    exact w_iret rfl dX12_body_154 ⟨hI24_, hF26_, trivial⟩
  · refine w_tsIn (tgt := 155) (off := 133) dX12_body_22 e20_ (by decide) (by decide) rfl (by decide) ?_
    refine w_aload_n dX12_body_155 rfl 1 rfl ?_
    refine w_bipush (v := 11) dX12_body_156 (by decide) ?_
    refine w_callVv (as := [vI 11]) (rest := []) (c_X12_began l G cy ad ((N + d) + 2) 11 Mz hIz) kV_X12_began (by decide +kernel) (Nat.le_of_ble_eq_true rfl) m_1818 rfl rfl rfl ic_12 rfl rfl (by decide) (Nat.le_of_ble_eq_true rfl) dX12_body_158 (fun M31_ q32_ => ?_)
    obtain ⟨hI34_, hF35_, h33_, hs37_⟩ := q32_
    have hF36_ := hFz.tr hF35_ (fun c k => (fun h => h.elim (fun h => (Or.inr (Or.inr (Or.inl ⟨h.1, h.2⟩)))) (fun h => h.elim (fun h => (Or.inl ⟨h.1, h.2.1, h.2.2⟩)) (fun h => h.elim))))
    have kf38_ : (M31_.1 (12, 0, 0) 27).toInt = z1_.toInt := by rw [(hF35_ (12, 0, 0) 27 (by simp [S_c_X12_began]))]; exact kf4_
    refine w_aload_n dX12_body_161 rfl 1 rfl ?_
    refine w_iconst (v := 0) dX12_body_162 (by decide) ?_
    refine w_iload_n dX12_body_163 rfl 4 rfl ?_
    refine w_callV (as := [vI 0, vI t]) (rest := []) (c_X12_voiced l G cy ad d N (m - 1) 0 t M31_ hI34_ (hB (m - 1) (lf_c_X12_body_6 m v u z16_ z18_ hk ha hr ho h17_ h19_ e20_)) (by first | decide | (unfold vF; omega) | (unfold vRw; omega)) (lf_c_X12_body_5 m v u z16_ z18_ hk ha hr ho h17_ h19_ e20_)) kV_X12_voiced (by decide +kernel) (Nat.le_of_ble_eq_true rfl) m_1803 rfl rfl rfl ic_12 rfl rfl (by decide) (Nat.le_of_ble_eq_true rfl) dX12_body_164 (fun r39_ M40_ q41_ => ?_)
    obtain ⟨hI43_, hF44_, h42_⟩ := q41_
    have hF45_ := hF36_.tr hF44_ (fun c k => (fun h => h.elim (fun h => (Or.inl ⟨h.1, h.2.1, h.2.2⟩)) (fun h => h.elim (fun h => (Or.inr (Or.inl ⟨h.1, h.2.1, h.2.2⟩))) (fun h => h.elim (fun h => (Or.inr (Or.inr (Or.inl ⟨h.1, h.2⟩)))) (fun h => h.elim)))))
    have kf47_ : (M40_.1 (12, 0, 0) 27).toInt = z1_.toInt := by rw [(hF44_ (12, 0, 0) 27 (by simp [S_voD]))]; exact kf38_
    refine w_iconst (v := 2) dX12_body_167 (by decide) ?_
    refine w_imul dX12_body_168 (fun z48_ h49_ => ?_)
    exact w_iret rfl dX12_body_169 ⟨hI43_, hF45_, trivial⟩
  · refine w_tsIn (tgt := 170) (off := 148) dX12_body_22 e20_ (by decide) (by decide) rfl (by decide) ?_
    refine w_aload_n dX12_body_170 rfl 1 rfl ?_
    refine w_bipush (v := 12) dX12_body_171 (by decide) ?_
    refine w_callVv (as := [vI 12]) (rest := []) (c_X12_began l G cy ad ((N + d) + 2) 12 Mz hIz) kV_X12_began (by decide +kernel) (Nat.le_of_ble_eq_true rfl) m_1818 rfl rfl rfl ic_12 rfl rfl (by decide) (Nat.le_of_ble_eq_true rfl) dX12_body_173 (fun M50_ q51_ => ?_)
    obtain ⟨hI53_, hF54_, h52_, hs56_⟩ := q51_
    have hF55_ := hFz.tr hF54_ (fun c k => (fun h => h.elim (fun h => (Or.inr (Or.inr (Or.inl ⟨h.1, h.2⟩)))) (fun h => h.elim (fun h => (Or.inl ⟨h.1, h.2.1, h.2.2⟩)) (fun h => h.elim))))
    have kf57_ : (M50_.1 (12, 0, 0) 27).toInt = z1_.toInt := by rw [(hF54_ (12, 0, 0) 27 (by simp [S_c_X12_began]))]; exact kf4_
    refine w_aload_n dX12_body_176 rfl 1 rfl ?_
    refine w_iconst (v := 1) dX12_body_177 (by decide) ?_
    refine w_iload_n dX12_body_178 rfl 4 rfl ?_
    refine w_callV (as := [vI 1, vI t]) (rest := []) (c_X12_voiced l G cy ad d N (m - 1) 1 t M50_ hI53_ (hB (m - 1) (lf_c_X12_body_8 m v u z16_ z18_ hk ha hr ho h17_ h19_ e20_)) (by first | decide | (unfold vF; omega) | (unfold vRw; omega)) (lf_c_X12_body_7 m v u z16_ z18_ hk ha hr ho h17_ h19_ e20_)) kV_X12_voiced (by decide +kernel) (Nat.le_of_ble_eq_true rfl) m_1803 rfl rfl rfl ic_12 rfl rfl (by decide) (Nat.le_of_ble_eq_true rfl) dX12_body_179 (fun r58_ M59_ q60_ => ?_)
    obtain ⟨hI62_, hF63_, h61_⟩ := q60_
    have hF64_ := hF55_.tr hF63_ (fun c k => (fun h => h.elim (fun h => (Or.inl ⟨h.1, h.2.1, h.2.2⟩)) (fun h => h.elim (fun h => (Or.inr (Or.inl ⟨h.1, h.2.1, h.2.2⟩))) (fun h => h.elim (fun h => (Or.inr (Or.inr (Or.inl ⟨h.1, h.2⟩)))) (fun h => h.elim)))))
    have kf66_ : (M59_.1 (12, 0, 0) 27).toInt = z1_.toInt := by rw [(hF63_ (12, 0, 0) 27 (by simp [S_voD]))]; exact kf57_
    refine w_aload_n dX12_body_182 rfl 1 rfl ?_
    refine w_getI fl_RX12_327 rfl rfl ic_12 dX12_body_183 (fun z67_ e68_ => ?_)
    have h69_ : 0 ≤ z67_.toInt ∧ z67_.toInt ≤ 7 := ofEq (P := fun v => 0 ≤ v.toInt ∧ v.toInt ≤ 7) e68_ (hI62_.1 (12, 0, 0) 27)
    have h70_ : z67_.toInt = z1_.toInt := by rw [e68_]; exact kf66_
    refine w_isub dX12_body_186 (fun z71_ h72_ => ?_)
    exact w_iret rfl dX12_body_187 ⟨hI62_, hF64_, trivial⟩
  · refine w_tsIn (tgt := 188) (off := 166) dX12_body_22 e20_ (by decide) (by decide) rfl (by decide) ?_
    refine w_aload_n dX12_body_188 rfl 1 rfl ?_
    refine w_bipush (v := 13) dX12_body_189 (by decide) ?_
    refine w_callVv (as := [vI 13]) (rest := []) (c_X12_began l G cy ad ((N + d) + 2) 13 Mz hIz) kV_X12_began (by decide +kernel) (Nat.le_of_ble_eq_true rfl) m_1818 rfl rfl rfl ic_12 rfl rfl (by decide) (Nat.le_of_ble_eq_true rfl) dX12_body_191 (fun M73_ q74_ => ?_)
    obtain ⟨hI76_, hF77_, h75_, hs79_⟩ := q74_
    have hF78_ := hFz.tr hF77_ (fun c k => (fun h => h.elim (fun h => (Or.inr (Or.inr (Or.inl ⟨h.1, h.2⟩)))) (fun h => h.elim (fun h => (Or.inl ⟨h.1, h.2.1, h.2.2⟩)) (fun h => h.elim))))
    have kf80_ : (M73_.1 (12, 0, 0) 27).toInt = z1_.toInt := by rw [(hF77_ (12, 0, 0) 27 (by simp [S_c_X12_began]))]; exact kf4_
    refine w_aload_n dX12_body_194 rfl 1 rfl ?_
    refine w_aload_n dX12_body_195 rfl 1 rfl ?_
    refine w_getI fl_RX12_327 rfl rfl ic_12 dX12_body_196 (fun z81_ e82_ => ?_)
    have h83_ : 0 ≤ z81_.toInt ∧ z81_.toInt ≤ 7 := ofEq (P := fun v => 0 ≤ v.toInt ∧ v.toInt ≤ 7) e82_ (hI76_.1 (12, 0, 0) 27)
    have h84_ : z81_.toInt = z1_.toInt := by rw [e82_]; exact kf80_
    refine w_iconst (v := 3) dX12_body_199 (by decide) ?_
    refine w_icmp_ne (tgt := 207) dX12_body_200 (by decide) (rfl : z81_.toInt = z81_.toInt) li_3 (fun h85_ => ?_) (fun h85_ => ?_)
    · refine w_iconst (v := 0) dX12_body_207 (by decide) ?_
      refine w_putZ DD_nd fl_RX12_336 rfl rfl ic_12 ⟨by decide, by decide⟩ dX12_body_208 (fun M86_ hM87_ => ?_)
      have hI88_ := hI76_.put hM87_ ⟨⟨by decide, by decide⟩, Or.inl (by decide)⟩
      have hF89_ := hF78_.put hM87_ (Or.inr (Or.inl ⟨rfl, rfl, rfl⟩))
      have kf90_ : (M86_.1 (12, 0, 0) 27).toInt = z1_.toInt := by rw [(show M86_.1 (12, 0, 0) 27 = M73_.1 (12, 0, 0) 27 by rw [hM87_, up_ne (by simp)])]; exact kf80_
      have kf91_ : (M86_.1 (12, 0, 0) 28).toInt = 0 := by rw [hM87_, up_same]; decide
      refine w_aload_n dX12_body_211 rfl 1 rfl ?_
      refine w_getI fl_RX12_336 rfl rfl ic_12 dX12_body_212 (fun z92_ e93_ => ?_)
      have h94_ : 0 ≤ z92_.toInt ∧ z92_.toInt ≤ 1 := ofEq (P := fun v => 0 ≤ v.toInt ∧ v.toInt ≤ 1) e93_ (hI88_.1 (12, 0, 0) 28)
      have h95_ : z92_.toInt = 0 := by rw [e93_]; exact kf91_
      refine w_if_eq (tgt := 222) dX12_body_215 (by decide) (rfl : z92_.toInt = z92_.toInt) (fun h96_ => ?_) (fun h9 => (lf_c_X12_body_9 M86_ z92_ e93_ h94_ h95_ h9).elim)
      refine w_iload_n dX12_body_222 rfl 4 rfl ?_
      refine w_aload_n dX12_body_223 rfl 1 rfl ?_
      refine w_getI fl_RX12_327 rfl rfl ic_12 dX12_body_224 (fun z97_ e98_ => ?_)
      have h99_ : 0 ≤ z97_.toInt ∧ z97_.toInt ≤ 7 := ofEq (P := fun v => 0 ≤ v.toInt ∧ v.toInt ≤ 7) e98_ (hI88_.1 (12, 0, 0) 27)
      have h100_ : z97_.toInt = z1_.toInt := by rw [e98_]; exact kf90_
      refine w_iconst (v := 3) dX12_body_227 (by decide) ?_
      refine w_isubB dX12_body_228 (rfl : z97_.toInt = z97_.toInt) li_3 (lf_c_X12_body_10 M73_ M86_ Mz z1_ r5_ z10_ j14_ z12_ z81_ z97_ e2_ h3_ kf4_ h8_ h11_ h15_ e13_ kf80_ e82_ h83_ h84_ h85_ kf90_ e98_ h99_ h100_) (fun z101_ h102_ => ?_)
      refine w_idiv dX12_body_229 (ne0I (lf_c_X12_body_11 M73_ M86_ Mz z1_ r5_ z10_ j14_ z12_ z81_ z97_ z101_ e2_ h3_ kf4_ h8_ h11_ h15_ e13_ kf80_ e82_ h83_ h84_ h85_ kf90_ e98_ h99_ h100_ h102_)) (fun z103_ h104_ => ?_)
      exact w_iret rfl dX12_body_230 ⟨hI88_, hF89_, trivial⟩
    · refine w_iconst (v := 1) dX12_body_203 (by decide) ?_
      refine w_goto (tgt := 208) dX12_body_204 (by decide) ?_
      refine w_putZ DD_nd fl_RX12_336 rfl rfl ic_12 ⟨by decide, by decide⟩ dX12_body_208 (fun M105_ hM106_ => ?_)
      have hI107_ := hI76_.put hM106_ ⟨⟨by decide, by decide⟩, Or.inl (by decide)⟩
      have hF108_ := hF78_.put hM106_ (Or.inr (Or.inl ⟨rfl, rfl, rfl⟩))
      have kf109_ : (M105_.1 (12, 0, 0) 27).toInt = z1_.toInt := by rw [(show M105_.1 (12, 0, 0) 27 = M73_.1 (12, 0, 0) 27 by rw [hM106_, up_ne (by simp)])]; exact kf80_
      have kf110_ : (M105_.1 (12, 0, 0) 28).toInt = 1 := by rw [hM106_, up_same]; decide
      refine w_aload_n dX12_body_211 rfl 1 rfl ?_
      refine w_getI fl_RX12_336 rfl rfl ic_12 dX12_body_212 (fun z111_ e112_ => ?_)
      have h113_ : 0 ≤ z111_.toInt ∧ z111_.toInt ≤ 1 := ofEq (P := fun v => 0 ≤ v.toInt ∧ v.toInt ≤ 1) e112_ (hI107_.1 (12, 0, 0) 28)
      have h114_ : z111_.toInt = 1 := by rw [e112_]; exact kf110_
      refine w_if_eq (tgt := 222) dX12_body_215 (by decide) (rfl : z111_.toInt = z111_.toInt) (fun h9 => (lf_c_X12_body_12 M105_ z111_ e112_ h113_ h114_ h9).elim) (fun h115_ => ?_)
      refine w_iconst (v := 0) dX12_body_218 (by decide) ?_
      refine w_goto (tgt := 230) dX12_body_219 (by decide) ?_
      exact w_iret rfl dX12_body_230 ⟨hI107_, hF108_, trivial⟩
  · refine w_tsIn (tgt := 231) (off := 209) dX12_body_22 e20_ (by decide) (by decide) rfl (by decide) ?_
    refine w_aload_n dX12_body_231 rfl 1 rfl ?_
    refine w_bipush (v := 20) dX12_body_232 (by decide) ?_
    refine w_callVv (as := [vI 20]) (rest := []) (c_X12_began l G cy ad ((N + d) + 2) 20 Mz hIz) kV_X12_began (by decide +kernel) (Nat.le_of_ble_eq_true rfl) m_1818 rfl rfl rfl ic_12 rfl rfl (by decide) (Nat.le_of_ble_eq_true rfl) dX12_body_234 (fun M116_ q117_ => ?_)
    obtain ⟨hI119_, hF120_, h118_, hs122_⟩ := q117_
    have hF121_ := hFz.tr hF120_ (fun c k => (fun h => h.elim (fun h => (Or.inr (Or.inr (Or.inl ⟨h.1, h.2⟩)))) (fun h => h.elim (fun h => (Or.inl ⟨h.1, h.2.1, h.2.2⟩)) (fun h => h.elim))))
    have kf123_ : (M116_.1 (12, 0, 0) 27).toInt = z1_.toInt := by rw [(hF120_ (12, 0, 0) 27 (by simp [S_c_X12_began]))]; exact kf4_
    refine w_aload_n dX12_body_237 rfl 1 rfl ?_
    refine w_iconst (v := 0) dX12_body_238 (by decide) ?_
    refine w_iconst (v := 0) dX12_body_239 (by decide) ?_
    refine w_iload_n dX12_body_240 rfl 4 rfl ?_
    refine w_callV (as := [vI 0, vI 0, vI t]) (rest := []) (hB (m - 1) (lf_c_X12_body_14 m v u z16_ z18_ hk ha hr ho h17_ h19_ e20_) (d + 2) 0 0 t M116_ hI119_ (by first | decide | (unfold vF; omega) | (unfold vRw; omega)) (by first | decide | (unfold vF; omega) | (unfold vRw; omega)) (lf_c_X12_body_13 m v u z16_ z18_ hk ha hr ho h17_ h19_ e20_)) kV_X12_bodyFrom (by decide +kernel) (Nat.le_of_ble_eq_true rfl) m_1807 rfl rfl rfl ic_12 rfl rfl (by decide) (Nat.le_of_ble_eq_true rfl) dX12_body_241 (fun r124_ M125_ q126_ => ?_)
    obtain ⟨hI128_, hF129_, h127_⟩ := q126_
    have hF130_ := hF121_.tr hF129_ (fun c k => (fun h => h.elim (fun h => (Or.inl ⟨h.1, h.2.1, h.2.2⟩)) (fun h => h.elim (fun h => (Or.inr (Or.inl ⟨h.1, h.2.1, h.2.2⟩))) (fun h => h.elim (fun h => (Or.inr (Or.inr (Or.inl ⟨h.1, h.2⟩)))) (fun h => h.elim)))))
    have kf132_ : (M125_.1 (12, 0, 0) 27).toInt = z1_.toInt := by rw [(hF129_ (12, 0, 0) 27 (by simp [S_voD]))]; exact kf123_
    refine w_iconst (v := 3) dX12_body_244 (by decide) ?_
    refine w_imul dX12_body_245 (fun z133_ h134_ => ?_)
    exact w_iret rfl dX12_body_246 ⟨hI128_, hF130_, trivial⟩
  · refine w_tsIn (tgt := 247) (off := 225) dX12_body_22 e20_ (by decide) (by decide) rfl (by decide) ?_
    refine w_aload_n dX12_body_247 rfl 1 rfl ?_
    refine w_bipush (v := 21) dX12_body_248 (by decide) ?_
    refine w_callVv (as := [vI 21]) (rest := []) (c_X12_began l G cy ad ((N + d) + 2) 21 Mz hIz) kV_X12_began (by decide +kernel) (Nat.le_of_ble_eq_true rfl) m_1818 rfl rfl rfl ic_12 rfl rfl (by decide) (Nat.le_of_ble_eq_true rfl) dX12_body_250 (fun M135_ q136_ => ?_)
    obtain ⟨hI138_, hF139_, h137_, hs141_⟩ := q136_
    have hF140_ := hFz.tr hF139_ (fun c k => (fun h => h.elim (fun h => (Or.inr (Or.inr (Or.inl ⟨h.1, h.2⟩)))) (fun h => h.elim (fun h => (Or.inl ⟨h.1, h.2.1, h.2.2⟩)) (fun h => h.elim))))
    have kf142_ : (M135_.1 (12, 0, 0) 27).toInt = z1_.toInt := by rw [(hF139_ (12, 0, 0) 27 (by simp [S_c_X12_began]))]; exact kf4_
    refine w_aload_n dX12_body_253 rfl 1 rfl ?_
    refine w_iconst (v := 0) dX12_body_254 (by decide) ?_
    refine w_iconst (v := 3) dX12_body_255 (by decide) ?_
    refine w_iload_n dX12_body_256 rfl 4 rfl ?_
    refine w_callV (as := [vI 0, vI 3, vI t]) (rest := []) (hB (m - 1) (lf_c_X12_body_16 m v u z16_ z18_ hk ha hr ho h17_ h19_ e20_) (d + 2) 0 3 t M135_ hI138_ (by first | decide | (unfold vF; omega) | (unfold vRw; omega)) (by first | decide | (unfold vF; omega) | (unfold vRw; omega)) (lf_c_X12_body_15 m v u z16_ z18_ hk ha hr ho h17_ h19_ e20_)) kV_X12_bodyFrom (by decide +kernel) (Nat.le_of_ble_eq_true rfl) m_1807 rfl rfl rfl ic_12 rfl rfl (by decide) (Nat.le_of_ble_eq_true rfl) dX12_body_257 (fun r143_ M144_ q145_ => ?_)
    obtain ⟨hI147_, hF148_, h146_⟩ := q145_
    have hF149_ := hF140_.tr hF148_ (fun c k => (fun h => h.elim (fun h => (Or.inl ⟨h.1, h.2.1, h.2.2⟩)) (fun h => h.elim (fun h => (Or.inr (Or.inl ⟨h.1, h.2.1, h.2.2⟩))) (fun h => h.elim (fun h => (Or.inr (Or.inr (Or.inl ⟨h.1, h.2⟩)))) (fun h => h.elim)))))
    have kf151_ : (M144_.1 (12, 0, 0) 27).toInt = z1_.toInt := by rw [(hF148_ (12, 0, 0) 27 (by simp [S_voD]))]; exact kf142_
    refine w_istore (ls' := [(5, vI r143_), (4, vI z12_), (0, vR (12, 0, 0)), (1, vI v), (2, vI u), (3, vI t)]) dX12_body_260 (by decide) rfl ?_
    refine w_iload dX12_body_262 0 rfl ?_
    refine w_aload_n dX12_body_264 rfl 2 rfl ?_
    refine w_iconst (v := 2) dX12_body_265 (by decide) ?_
    refine w_iconst (v := 1) dX12_body_266 (by decide) ?_
    refine w_callV (as := [vI 2, vI 1]) (rest := [vI r143_]) (c_X12_voiced l G cy ad d N (m - 1) 2 1 M144_ hI147_ (hB (m - 1) (lf_c_X12_body_18 m v u z16_ z18_ hk ha hr ho h17_ h19_ e20_)) (by first | decide | (unfold vF; omega) | (unfold vRw; omega)) (lf_c_X12_body_17 m v u z16_ z18_ hk ha hr ho h17_ h19_ e20_)) kV_X12_voiced (by decide +kernel) (Nat.le_of_ble_eq_true rfl) m_1803 rfl rfl rfl ic_12 rfl rfl (by decide) (Nat.le_of_ble_eq_true rfl) dX12_body_267 (fun r152_ M153_ q154_ => ?_)
    obtain ⟨hI156_, hF157_, h155_⟩ := q154_
    have hF158_ := hF149_.tr hF157_ (fun c k => (fun h => h.elim (fun h => (Or.inl ⟨h.1, h.2.1, h.2.2⟩)) (fun h => h.elim (fun h => (Or.inr (Or.inl ⟨h.1, h.2.1, h.2.2⟩))) (fun h => h.elim (fun h => (Or.inr (Or.inr (Or.inl ⟨h.1, h.2⟩)))) (fun h => h.elim)))))
    have kf160_ : (M153_.1 (12, 0, 0) 27).toInt = z1_.toInt := by rw [(hF157_ (12, 0, 0) 27 (by simp [S_voD]))]; exact kf151_
    refine w_iadd dX12_body_270 (fun z161_ h162_ => ?_)
    exact w_iret rfl dX12_body_271 ⟨hI156_, hF158_, trivial⟩
  · refine w_tsIn (tgt := 272) (off := 250) dX12_body_22 e20_ (by decide) (by decide) rfl (by decide) ?_
    refine w_aload_n dX12_body_272 rfl 1 rfl ?_
    refine w_bipush (v := 30) dX12_body_273 (by decide) ?_
    refine w_callVv (as := [vI 30]) (rest := []) (c_X12_began l G cy ad ((N + d) + 2) 30 Mz hIz) kV_X12_began (by decide +kernel) (Nat.le_of_ble_eq_true rfl) m_1818 rfl rfl rfl ic_12 rfl rfl (by decide) (Nat.le_of_ble_eq_true rfl) dX12_body_275 (fun M163_ q164_ => ?_)
    obtain ⟨hI166_, hF167_, h165_, hs169_⟩ := q164_
    have hF168_ := hFz.tr hF167_ (fun c k => (fun h => h.elim (fun h => (Or.inr (Or.inr (Or.inl ⟨h.1, h.2⟩)))) (fun h => h.elim (fun h => (Or.inl ⟨h.1, h.2.1, h.2.2⟩)) (fun h => h.elim))))
    have kf170_ : (M163_.1 (12, 0, 0) 27).toInt = z1_.toInt := by rw [(hF167_ (12, 0, 0) 27 (by simp [S_c_X12_began]))]; exact kf4_
    refine w_aload_n dX12_body_278 rfl 1 rfl ?_
    refine w_iconst (v := 0) dX12_body_279 (by decide) ?_
    refine w_iconst (v := 1) dX12_body_280 (by decide) ?_
    refine w_iload_n dX12_body_281 rfl 4 rfl ?_
    refine w_callV (as := [vI 0, vI 1, vI t]) (rest := []) (hB (m - 1) (lf_c_X12_body_20 m v u z16_ z18_ hk ha hr ho h17_ h19_ e20_) (d + 2) 0 1 t M163_ hI166_ (by first | decide | (unfold vF; omega) | (unfold vRw; omega)) (by first | decide | (unfold vF; omega) | (unfold vRw; omega)) (lf_c_X12_body_19 m v u z16_ z18_ hk ha hr ho h17_ h19_ e20_)) kV_X12_bodyFrom (by decide +kernel) (Nat.le_of_ble_eq_true rfl) m_1807 rfl rfl rfl ic_12 rfl rfl (by decide) (Nat.le_of_ble_eq_true rfl) dX12_body_282 (fun r171_ M172_ q173_ => ?_)
    obtain ⟨hI175_, hF176_, h174_⟩ := q173_
    have hF177_ := hF168_.tr hF176_ (fun c k => (fun h => h.elim (fun h => (Or.inl ⟨h.1, h.2.1, h.2.2⟩)) (fun h => h.elim (fun h => (Or.inr (Or.inl ⟨h.1, h.2.1, h.2.2⟩))) (fun h => h.elim (fun h => (Or.inr (Or.inr (Or.inl ⟨h.1, h.2⟩)))) (fun h => h.elim)))))
    have kf179_ : (M172_.1 (12, 0, 0) 27).toInt = z1_.toInt := by rw [(hF176_ (12, 0, 0) 27 (by simp [S_voD]))]; exact kf170_
    refine w_iload dX12_body_285 0 rfl ?_
    refine w_ixor dX12_body_287 (fun z180_ h181_ => ?_)
    exact w_iret rfl dX12_body_288 ⟨hI175_, hF177_, trivial⟩
  · refine w_tsIn (tgt := 289) (off := 267) dX12_body_22 e20_ (by decide) (by decide) rfl (by decide) ?_
    refine w_aload_n dX12_body_289 rfl 1 rfl ?_
    refine w_bipush (v := 40) dX12_body_290 (by decide) ?_
    refine w_callVv (as := [vI 40]) (rest := []) (c_X12_began l G cy ad ((N + d) + 2) 40 Mz hIz) kV_X12_began (by decide +kernel) (Nat.le_of_ble_eq_true rfl) m_1818 rfl rfl rfl ic_12 rfl rfl (by decide) (Nat.le_of_ble_eq_true rfl) dX12_body_292 (fun M182_ q183_ => ?_)
    obtain ⟨hI185_, hF186_, h184_, hs188_⟩ := q183_
    have hF187_ := hFz.tr hF186_ (fun c k => (fun h => h.elim (fun h => (Or.inr (Or.inr (Or.inl ⟨h.1, h.2⟩)))) (fun h => h.elim (fun h => (Or.inl ⟨h.1, h.2.1, h.2.2⟩)) (fun h => h.elim))))
    have kf189_ : (M182_.1 (12, 0, 0) 27).toInt = z1_.toInt := by rw [(hF186_ (12, 0, 0) 27 (by simp [S_c_X12_began]))]; exact kf4_
    refine w_aload_n dX12_body_295 rfl 1 rfl ?_
    refine w_iconst (v := 0) dX12_body_296 (by decide) ?_
    refine w_iconst (v := 0) dX12_body_297 (by decide) ?_
    refine w_iload_n dX12_body_298 rfl 4 rfl ?_
    refine w_callV (as := [vI 0, vI 0, vI t]) (rest := []) (hB (m - 1) (lf_c_X12_body_22 m v u z16_ z18_ hk ha hr ho h17_ h19_ e20_) (d + 2) 0 0 t M182_ hI185_ (by first | decide | (unfold vF; omega) | (unfold vRw; omega)) (by first | decide | (unfold vF; omega) | (unfold vRw; omega)) (lf_c_X12_body_21 m v u z16_ z18_ hk ha hr ho h17_ h19_ e20_)) kV_X12_bodyFrom (by decide +kernel) (Nat.le_of_ble_eq_true rfl) m_1807 rfl rfl rfl ic_12 rfl rfl (by decide) (Nat.le_of_ble_eq_true rfl) dX12_body_299 (fun r190_ M191_ q192_ => ?_)
    obtain ⟨hI194_, hF195_, h193_⟩ := q192_
    have hF196_ := hF187_.tr hF195_ (fun c k => (fun h => h.elim (fun h => (Or.inl ⟨h.1, h.2.1, h.2.2⟩)) (fun h => h.elim (fun h => (Or.inr (Or.inl ⟨h.1, h.2.1, h.2.2⟩))) (fun h => h.elim (fun h => (Or.inr (Or.inr (Or.inl ⟨h.1, h.2⟩)))) (fun h => h.elim)))))
    have kf198_ : (M191_.1 (12, 0, 0) 27).toInt = z1_.toInt := by rw [(hF195_ (12, 0, 0) 27 (by simp [S_voD]))]; exact kf189_
    refine w_ineg dX12_body_302 (fun z199_ h200_ => ?_)
    exact w_iret rfl dX12_body_303 ⟨hI194_, hF196_, trivial⟩
  · refine w_tsIn (tgt := 304) (off := 282) dX12_body_22 e20_ (by decide) (by decide) rfl (by decide) ?_
    refine w_aload_n dX12_body_304 rfl 1 rfl ?_
    refine w_bipush (v := 41) dX12_body_305 (by decide) ?_
    refine w_callVv (as := [vI 41]) (rest := []) (c_X12_began l G cy ad ((N + d) + 2) 41 Mz hIz) kV_X12_began (by decide +kernel) (Nat.le_of_ble_eq_true rfl) m_1818 rfl rfl rfl ic_12 rfl rfl (by decide) (Nat.le_of_ble_eq_true rfl) dX12_body_307 (fun M201_ q202_ => ?_)
    obtain ⟨hI204_, hF205_, h203_, hs207_⟩ := q202_
    have hF206_ := hFz.tr hF205_ (fun c k => (fun h => h.elim (fun h => (Or.inr (Or.inr (Or.inl ⟨h.1, h.2⟩)))) (fun h => h.elim (fun h => (Or.inl ⟨h.1, h.2.1, h.2.2⟩)) (fun h => h.elim))))
    have kf208_ : (M201_.1 (12, 0, 0) 27).toInt = z1_.toInt := by rw [(hF205_ (12, 0, 0) 27 (by simp [S_c_X12_began]))]; exact kf4_
    refine w_aload_n dX12_body_310 rfl 1 rfl ?_
    refine w_iconst (v := 0) dX12_body_311 (by decide) ?_
    refine w_iconst (v := 2) dX12_body_312 (by decide) ?_
    refine w_iload_n dX12_body_313 rfl 4 rfl ?_
    refine w_callV (as := [vI 0, vI 2, vI t]) (rest := []) (hB (m - 1) (lf_c_X12_body_24 m v u z16_ z18_ hk ha hr ho h17_ h19_ e20_) (d + 2) 0 2 t M201_ hI204_ (by first | decide | (unfold vF; omega) | (unfold vRw; omega)) (by first | decide | (unfold vF; omega) | (unfold vRw; omega)) (lf_c_X12_body_23 m v u z16_ z18_ hk ha hr ho h17_ h19_ e20_)) kV_X12_bodyFrom (by decide +kernel) (Nat.le_of_ble_eq_true rfl) m_1807 rfl rfl rfl ic_12 rfl rfl (by decide) (Nat.le_of_ble_eq_true rfl) dX12_body_314 (fun r209_ M210_ q211_ => ?_)
    obtain ⟨hI213_, hF214_, h212_⟩ := q211_
    have hF215_ := hF206_.tr hF214_ (fun c k => (fun h => h.elim (fun h => (Or.inl ⟨h.1, h.2.1, h.2.2⟩)) (fun h => h.elim (fun h => (Or.inr (Or.inl ⟨h.1, h.2.1, h.2.2⟩))) (fun h => h.elim (fun h => (Or.inr (Or.inr (Or.inl ⟨h.1, h.2⟩)))) (fun h => h.elim)))))
    have kf217_ : (M210_.1 (12, 0, 0) 27).toInt = z1_.toInt := by rw [(hF214_ (12, 0, 0) 27 (by simp [S_voD]))]; exact kf208_
    refine w_iconst (v := 5) dX12_body_317 (by decide) ?_
    refine w_iadd dX12_body_318 (fun z218_ h219_ => ?_)
    exact w_iret rfl dX12_body_319 ⟨hI213_, hF215_, trivial⟩
  · refine w_tsIn (tgt := 320) (off := 298) dX12_body_22 e20_ (by decide) (by decide) rfl (by decide) ?_
    refine w_aload_n dX12_body_320 rfl 1 rfl ?_
    refine w_bipush (v := 50) dX12_body_321 (by decide) ?_
    refine w_callVv (as := [vI 50]) (rest := []) (c_X12_began l G cy ad ((N + d) + 2) 50 Mz hIz) kV_X12_began (by decide +kernel) (Nat.le_of_ble_eq_true rfl) m_1818 rfl rfl rfl ic_12 rfl rfl (by decide) (Nat.le_of_ble_eq_true rfl) dX12_body_323 (fun M220_ q221_ => ?_)
    obtain ⟨hI223_, hF224_, h222_, hs226_⟩ := q221_
    have hF225_ := hFz.tr hF224_ (fun c k => (fun h => h.elim (fun h => (Or.inr (Or.inr (Or.inl ⟨h.1, h.2⟩)))) (fun h => h.elim (fun h => (Or.inl ⟨h.1, h.2.1, h.2.2⟩)) (fun h => h.elim))))
    have kf227_ : (M220_.1 (12, 0, 0) 27).toInt = z1_.toInt := by rw [(hF224_ (12, 0, 0) 27 (by simp [S_c_X12_began]))]; exact kf4_
    refine w_aload_n dX12_body_326 rfl 1 rfl ?_
    refine w_iconst (v := 0) dX12_body_327 (by decide) ?_
    refine w_iconst (v := 2) dX12_body_328 (by decide) ?_
    refine w_iload_n dX12_body_329 rfl 4 rfl ?_
    refine w_iconst (v := 1) dX12_body_330 (by decide) ?_
    refine w_isub dX12_body_331 (fun z228_ h229_ => ?_)
    refine w_callV (as := [vI 0, vI 2, vI z228_]) (rest := []) (hB (m - 1) (lf_c_X12_body_26 m v u z16_ z18_ hk ha hr ho h17_ h19_ e20_) (d + 2) 0 2 z228_ M220_ hI223_ (by first | decide | (unfold vF; omega) | (unfold vRw; omega)) (by first | decide | (unfold vF; omega) | (unfold vRw; omega)) (lf_c_X12_body_25 m v u z16_ z18_ hk ha hr ho h17_ h19_ e20_)) kV_X12_bodyFrom (by decide +kernel) (Nat.le_of_ble_eq_true rfl) m_1807 rfl rfl rfl ic_12 rfl rfl (by decide) (Nat.le_of_ble_eq_true rfl) dX12_body_332 (fun r230_ M231_ q232_ => ?_)
    obtain ⟨hI234_, hF235_, h233_⟩ := q232_
    have hF236_ := hF225_.tr hF235_ (fun c k => (fun h => h.elim (fun h => (Or.inl ⟨h.1, h.2.1, h.2.2⟩)) (fun h => h.elim (fun h => (Or.inr (Or.inl ⟨h.1, h.2.1, h.2.2⟩))) (fun h => h.elim (fun h => (Or.inr (Or.inr (Or.inl ⟨h.1, h.2⟩)))) (fun h => h.elim)))))
    have kf238_ : (M231_.1 (12, 0, 0) 27).toInt = z1_.toInt := by rw [(hF235_ (12, 0, 0) 27 (by simp [S_voD]))]; exact kf227_
    exact w_iret rfl dX12_body_335 ⟨hI234_, hF236_, trivial⟩
  · refine w_tsIn (tgt := 336) (off := 314) dX12_body_22 e20_ (by decide) (by decide) rfl (by decide) ?_
    refine w_aload_n dX12_body_336 rfl 1 rfl ?_
    refine w_bipush (v := 60) dX12_body_337 (by decide) ?_
    refine w_callVv (as := [vI 60]) (rest := []) (c_X12_began l G cy ad ((N + d) + 2) 60 Mz hIz) kV_X12_began (by decide +kernel) (Nat.le_of_ble_eq_true rfl) m_1818 rfl rfl rfl ic_12 rfl rfl (by decide) (Nat.le_of_ble_eq_true rfl) dX12_body_339 (fun M239_ q240_ => ?_)
    obtain ⟨hI242_, hF243_, h241_, hs245_⟩ := q240_
    have hF244_ := hFz.tr hF243_ (fun c k => (fun h => h.elim (fun h => (Or.inr (Or.inr (Or.inl ⟨h.1, h.2⟩)))) (fun h => h.elim (fun h => (Or.inl ⟨h.1, h.2.1, h.2.2⟩)) (fun h => h.elim))))
    have kf246_ : (M239_.1 (12, 0, 0) 27).toInt = z1_.toInt := by rw [(hF243_ (12, 0, 0) 27 (by simp [S_c_X12_began]))]; exact kf4_
    refine w_aload_n dX12_body_342 rfl 1 rfl ?_
    refine w_iconst (v := 1) dX12_body_343 (by decide) ?_
    refine w_iconst (v := 1) dX12_body_344 (by decide) ?_
    refine w_iload_n dX12_body_345 rfl 4 rfl ?_
    refine w_iconst (v := 2) dX12_body_346 (by decide) ?_
    refine w_iadd dX12_body_347 (fun z247_ h248_ => ?_)
    refine w_callV (as := [vI 1, vI 1, vI z247_]) (rest := []) (hB (m - 1) (lf_c_X12_body_28 m v u z16_ z18_ hk ha hr ho h17_ h19_ e20_) (d + 2) 1 1 z247_ M239_ hI242_ (by first | decide | (unfold vF; omega) | (unfold vRw; omega)) (by first | decide | (unfold vF; omega) | (unfold vRw; omega)) (lf_c_X12_body_27 m v u z16_ z18_ hk ha hr ho h17_ h19_ e20_)) kV_X12_bodyFrom (by decide +kernel) (Nat.le_of_ble_eq_true rfl) m_1807 rfl rfl rfl ic_12 rfl rfl (by decide) (Nat.le_of_ble_eq_true rfl) dX12_body_348 (fun r249_ M250_ q251_ => ?_)
    obtain ⟨hI253_, hF254_, h252_⟩ := q251_
    have hF255_ := hF244_.tr hF254_ (fun c k => (fun h => h.elim (fun h => (Or.inl ⟨h.1, h.2.1, h.2.2⟩)) (fun h => h.elim (fun h => (Or.inr (Or.inl ⟨h.1, h.2.1, h.2.2⟩))) (fun h => h.elim (fun h => (Or.inr (Or.inr (Or.inl ⟨h.1, h.2⟩)))) (fun h => h.elim)))))
    have kf257_ : (M250_.1 (12, 0, 0) 27).toInt = z1_.toInt := by rw [(hF254_ (12, 0, 0) 27 (by simp [S_voD]))]; exact kf246_
    exact w_iret rfl dX12_body_351 ⟨hI253_, hF255_, trivial⟩
  · refine w_tsIn (tgt := 352) (off := 330) dX12_body_22 e20_ (by decide) (by decide) rfl (by decide) ?_
    refine w_aload_n dX12_body_352 rfl 1 rfl ?_
    refine w_bipush (v := 70) dX12_body_353 (by decide) ?_
    refine w_callVv (as := [vI 70]) (rest := []) (c_X12_began l G cy ad ((N + d) + 2) 70 Mz hIz) kV_X12_began (by decide +kernel) (Nat.le_of_ble_eq_true rfl) m_1818 rfl rfl rfl ic_12 rfl rfl (by decide) (Nat.le_of_ble_eq_true rfl) dX12_body_355 (fun M258_ q259_ => ?_)
    obtain ⟨hI261_, hF262_, h260_, hs264_⟩ := q259_
    have hF263_ := hFz.tr hF262_ (fun c k => (fun h => h.elim (fun h => (Or.inr (Or.inr (Or.inl ⟨h.1, h.2⟩)))) (fun h => h.elim (fun h => (Or.inl ⟨h.1, h.2.1, h.2.2⟩)) (fun h => h.elim))))
    have kf265_ : (M258_.1 (12, 0, 0) 27).toInt = z1_.toInt := by rw [(hF262_ (12, 0, 0) 27 (by simp [S_c_X12_began]))]; exact kf4_
    refine w_aload_n dX12_body_358 rfl 1 rfl ?_
    refine w_iconst (v := 3) dX12_body_359 (by decide) ?_
    refine w_iconst (v := 1) dX12_body_360 (by decide) ?_
    refine w_iload_n dX12_body_361 rfl 4 rfl ?_
    refine w_callV (as := [vI 3, vI 1, vI t]) (rest := []) (hB (m - 1) (lf_c_X12_body_30 m v u z16_ z18_ hk ha hr ho h17_ h19_ e20_) (d + 2) 3 1 t M258_ hI261_ (by first | decide | (unfold vF; omega) | (unfold vRw; omega)) (by first | decide | (unfold vF; omega) | (unfold vRw; omega)) (lf_c_X12_body_29 m v u z16_ z18_ hk ha hr ho h17_ h19_ e20_)) kV_X12_bodyFrom (by decide +kernel) (Nat.le_of_ble_eq_true rfl) m_1807 rfl rfl rfl ic_12 rfl rfl (by decide) (Nat.le_of_ble_eq_true rfl) dX12_body_362 (fun r266_ M267_ q268_ => ?_)
    obtain ⟨hI270_, hF271_, h269_⟩ := q268_
    have hF272_ := hF263_.tr hF271_ (fun c k => (fun h => h.elim (fun h => (Or.inl ⟨h.1, h.2.1, h.2.2⟩)) (fun h => h.elim (fun h => (Or.inr (Or.inl ⟨h.1, h.2.1, h.2.2⟩))) (fun h => h.elim (fun h => (Or.inr (Or.inr (Or.inl ⟨h.1, h.2⟩)))) (fun h => h.elim)))))
    have kf274_ : (M267_.1 (12, 0, 0) 27).toInt = z1_.toInt := by rw [(hF271_ (12, 0, 0) 27 (by simp [S_voD]))]; exact kf265_
    refine w_iconst (v := 2) dX12_body_365 (by decide) ?_
    refine w_idiv dX12_body_366 (by decide) (fun z275_ h276_ => ?_)
    exact w_iret rfl dX12_body_367 ⟨hI270_, hF272_, trivial⟩
  · refine w_tsIn (tgt := 368) (off := 346) dX12_body_22 e20_ (by decide) (by decide) rfl (by decide) ?_
    refine w_aload_n dX12_body_368 rfl 1 rfl ?_
    refine w_bipush (v := 71) dX12_body_369 (by decide) ?_
    refine w_callVv (as := [vI 71]) (rest := []) (c_X12_began l G cy ad ((N + d) + 2) 71 Mz hIz) kV_X12_began (by decide +kernel) (Nat.le_of_ble_eq_true rfl) m_1818 rfl rfl rfl ic_12 rfl rfl (by decide) (Nat.le_of_ble_eq_true rfl) dX12_body_371 (fun M277_ q278_ => ?_)
    obtain ⟨hI280_, hF281_, h279_, hs283_⟩ := q278_
    have hF282_ := hFz.tr hF281_ (fun c k => (fun h => h.elim (fun h => (Or.inr (Or.inr (Or.inl ⟨h.1, h.2⟩)))) (fun h => h.elim (fun h => (Or.inl ⟨h.1, h.2.1, h.2.2⟩)) (fun h => h.elim))))
    have kf284_ : (M277_.1 (12, 0, 0) 27).toInt = z1_.toInt := by rw [(hF281_ (12, 0, 0) 27 (by simp [S_c_X12_began]))]; exact kf4_
    refine w_aload_n dX12_body_374 rfl 1 rfl ?_
    refine w_iconst (v := 3) dX12_body_375 (by decide) ?_
    refine w_iconst (v := 2) dX12_body_376 (by decide) ?_
    refine w_iload_n dX12_body_377 rfl 4 rfl ?_
    refine w_callV (as := [vI 3, vI 2, vI t]) (rest := []) (hB (m - 1) (lf_c_X12_body_32 m v u z16_ z18_ hk ha hr ho h17_ h19_ e20_) (d + 2) 3 2 t M277_ hI280_ (by first | decide | (unfold vF; omega) | (unfold vRw; omega)) (by first | decide | (unfold vF; omega) | (unfold vRw; omega)) (lf_c_X12_body_31 m v u z16_ z18_ hk ha hr ho h17_ h19_ e20_)) kV_X12_bodyFrom (by decide +kernel) (Nat.le_of_ble_eq_true rfl) m_1807 rfl rfl rfl ic_12 rfl rfl (by decide) (Nat.le_of_ble_eq_true rfl) dX12_body_378 (fun r285_ M286_ q287_ => ?_)
    obtain ⟨hI289_, hF290_, h288_⟩ := q287_
    have hF291_ := hF282_.tr hF290_ (fun c k => (fun h => h.elim (fun h => (Or.inl ⟨h.1, h.2.1, h.2.2⟩)) (fun h => h.elim (fun h => (Or.inr (Or.inl ⟨h.1, h.2.1, h.2.2⟩))) (fun h => h.elim (fun h => (Or.inr (Or.inr (Or.inl ⟨h.1, h.2⟩)))) (fun h => h.elim)))))
    have kf293_ : (M286_.1 (12, 0, 0) 27).toInt = z1_.toInt := by rw [(hF290_ (12, 0, 0) 27 (by simp [S_voD]))]; exact kf284_
    refine w_istore (ls' := [(5, vI r285_), (4, vI z12_), (0, vR (12, 0, 0)), (1, vI v), (2, vI u), (3, vI t)]) dX12_body_381 (by decide) rfl ?_
    refine w_iload dX12_body_383 0 rfl ?_
    refine w_aload_n dX12_body_385 rfl 2 rfl ?_
    refine w_iconst (v := 0) dX12_body_386 (by decide) ?_
    refine w_iconst (v := 2) dX12_body_387 (by decide) ?_
    refine w_callV (as := [vI 0, vI 2]) (rest := [vI r285_]) (c_X12_voiced l G cy ad d N (m - 1) 0 2 M286_ hI289_ (hB (m - 1) (lf_c_X12_body_34 m v u z16_ z18_ hk ha hr ho h17_ h19_ e20_)) (by first | decide | (unfold vF; omega) | (unfold vRw; omega)) (lf_c_X12_body_33 m v u z16_ z18_ hk ha hr ho h17_ h19_ e20_)) kV_X12_voiced (by decide +kernel) (Nat.le_of_ble_eq_true rfl) m_1803 rfl rfl rfl ic_12 rfl rfl (by decide) (Nat.le_of_ble_eq_true rfl) dX12_body_388 (fun r294_ M295_ q296_ => ?_)
    obtain ⟨hI298_, hF299_, h297_⟩ := q296_
    have hF300_ := hF291_.tr hF299_ (fun c k => (fun h => h.elim (fun h => (Or.inl ⟨h.1, h.2.1, h.2.2⟩)) (fun h => h.elim (fun h => (Or.inr (Or.inl ⟨h.1, h.2.1, h.2.2⟩))) (fun h => h.elim (fun h => (Or.inr (Or.inr (Or.inl ⟨h.1, h.2⟩)))) (fun h => h.elim)))))
    have kf302_ : (M295_.1 (12, 0, 0) 27).toInt = z1_.toInt := by rw [(hF299_ (12, 0, 0) 27 (by simp [S_voD]))]; exact kf293_
    refine w_isub dX12_body_391 (fun z303_ h304_ => ?_)
    exact w_iret rfl dX12_body_392 ⟨hI298_, hF300_, trivial⟩
  · refine w_tsOut (tgt := 393) dX12_body_22 e20_ (by decide) (by decide) ?_
    refine w_aload_n dX12_body_393 rfl 1 rfl ?_
    refine w_bipush (v := 80) dX12_body_394 (by decide) ?_
    refine w_callVv (as := [vI 80]) (rest := []) (c_X12_began l G cy ad ((N + d) + 2) 80 Mz hIz) kV_X12_began (by decide +kernel) (Nat.le_of_ble_eq_true rfl) m_1818 rfl rfl rfl ic_12 rfl rfl (by decide) (Nat.le_of_ble_eq_true rfl) dX12_body_396 (fun M305_ q306_ => ?_)
    obtain ⟨hI308_, hF309_, h307_, hs311_⟩ := q306_
    have hF310_ := hFz.tr hF309_ (fun c k => (fun h => h.elim (fun h => (Or.inr (Or.inr (Or.inl ⟨h.1, h.2⟩)))) (fun h => h.elim (fun h => (Or.inl ⟨h.1, h.2.1, h.2.2⟩)) (fun h => h.elim))))
    have kf312_ : (M305_.1 (12, 0, 0) 27).toInt = z1_.toInt := by rw [(hF309_ (12, 0, 0) 27 (by simp [S_c_X12_began]))]; exact kf4_
    refine w_aload_n dX12_body_399 rfl 1 rfl ?_
    refine w_iconst (v := 1) dX12_body_400 (by decide) ?_
    refine w_iconst (v := 3) dX12_body_401 (by decide) ?_
    refine w_iload_n dX12_body_402 rfl 4 rfl ?_
    refine w_callV (as := [vI 1, vI 3, vI t]) (rest := []) (hB (m - 1) (lf_c_X12_body_36 m v u z16_ z18_ hk ha hr ho h17_ h19_ e20_) (d + 2) 1 3 t M305_ hI308_ (by first | decide | (unfold vF; omega) | (unfold vRw; omega)) (by first | decide | (unfold vF; omega) | (unfold vRw; omega)) (lf_c_X12_body_35 m v u z16_ z18_ hk ha hr ho h17_ h19_ e20_)) kV_X12_bodyFrom (by decide +kernel) (Nat.le_of_ble_eq_true rfl) m_1807 rfl rfl rfl ic_12 rfl rfl (by decide) (Nat.le_of_ble_eq_true rfl) dX12_body_403 (fun r313_ M314_ q315_ => ?_)
    obtain ⟨hI317_, hF318_, h316_⟩ := q315_
    have hF319_ := hF310_.tr hF318_ (fun c k => (fun h => h.elim (fun h => (Or.inl ⟨h.1, h.2.1, h.2.2⟩)) (fun h => h.elim (fun h => (Or.inr (Or.inl ⟨h.1, h.2.1, h.2.2⟩))) (fun h => h.elim (fun h => (Or.inr (Or.inr (Or.inl ⟨h.1, h.2⟩)))) (fun h => h.elim)))))
    have kf321_ : (M314_.1 (12, 0, 0) 27).toInt = z1_.toInt := by rw [(hF318_ (12, 0, 0) 27 (by simp [S_voD]))]; exact kf312_
    refine w_istore (ls' := [(5, vI r313_), (4, vI z12_), (0, vR (12, 0, 0)), (1, vI v), (2, vI u), (3, vI t)]) dX12_body_406 (by decide) rfl ?_
    refine w_iload dX12_body_408 0 rfl ?_
    refine w_aload_n dX12_body_410 rfl 2 rfl ?_
    refine w_iconst (v := 1) dX12_body_411 (by decide) ?_
    refine w_iload_n dX12_body_412 rfl 5 rfl ?_
    refine w_callV (as := [vI 1, vI t]) (rest := [vI r313_]) (c_X12_voiced l G cy ad d N (m - 1) 1 t M314_ hI317_ (hB (m - 1) (lf_c_X12_body_38 m v u z16_ z18_ hk ha hr ho h17_ h19_ e20_)) (by first | decide | (unfold vF; omega) | (unfold vRw; omega)) (lf_c_X12_body_37 m v u z16_ z18_ hk ha hr ho h17_ h19_ e20_)) kV_X12_voiced (by decide +kernel) (Nat.le_of_ble_eq_true rfl) m_1803 rfl rfl rfl ic_12 rfl rfl (by decide) (Nat.le_of_ble_eq_true rfl) dX12_body_413 (fun r322_ M323_ q324_ => ?_)
    obtain ⟨hI326_, hF327_, h325_⟩ := q324_
    have hF328_ := hF319_.tr hF327_ (fun c k => (fun h => h.elim (fun h => (Or.inl ⟨h.1, h.2.1, h.2.2⟩)) (fun h => h.elim (fun h => (Or.inr (Or.inl ⟨h.1, h.2.1, h.2.2⟩))) (fun h => h.elim (fun h => (Or.inr (Or.inr (Or.inl ⟨h.1, h.2⟩)))) (fun h => h.elim)))))
    have kf330_ : (M323_.1 (12, 0, 0) 27).toInt = z1_.toInt := by rw [(hF327_ (12, 0, 0) 27 (by simp [S_voD]))]; exact kf321_
    refine w_isub dX12_body_416 (fun z331_ h332_ => ?_)
    exact w_iret rfl dX12_body_417 ⟨hI326_, hF328_, trivial⟩
theorem vo_rec (l : Launch) (G : va_G) (cy : Nat → ClassId) (ad : rf → Nat) : ∀ m, BFC l G cy ad (4 * m + 4) m := by
  have bf : ∀ N m, BODC l G cy ad N m → BFC l G cy ad (N + 1) m := fun N m hO d v u t Mz hIz hk ha hr => w_dep (by omega) (c_X12_bodyFrom l G cy ad d N m v u t Mz hIz hO hk ha hr)
  have bo : ∀ N m, (∀ k : Nat, k + 1 = m → BFC l G cy ad N k) → BODC l G cy ad (N + 3) m := fun N m hB d v u t Mz hIz hk ha hr ho => w_dep (by omega) (c_X12_body l G cy ad d N m v u t Mz hIz hB hk ha hr ho)
  intro m
  induction m with
  | zero => exact (show 3 + 1 = 4 * 0 + 4 by omega) ▸ bf _ _ ((show 0 + 3 = 3 by omega) ▸ bo 0 0 (fun k hk => absurd hk (by omega)))
  | succ m ih => exact (show 4 * m + 4 + 3 + 1 = 4 * (m + 1) + 4 by omega) ▸ bf _ _ (bo _ (m + 1) (fun k hk => by
      obtain rfl : k = m := by omega
      exact ih))
theorem c_X12_voicedA (l : Launch) (G : va_G) (cy : Nat → ClassId) (ad : rf → Nat) (d : Nat) (v u : Int32) (Mz : mM) (hIz : InvD Mz) (ha : 0 ≤ v.toInt ∧ v.toInt ≤ 3) : WP DD l G cy ad yX12_voiced cX12_voiced 3 (some .int) (d + 50) 0 [(0, vR (12, 0, 0)), (1, vI v), (2, vI u)] [] Mz (fun r M' => InvD M' ∧ FR (S_voD) Mz M' ∧ True) := w_dep (by omega) (c_X12_voiced l G cy ad d (48) 11 v u Mz hIz ((show 4 * 11 + 4 = 48 by omega) ▸ vo_rec l G cy ad 11) ha (by omega))
