section
def RK (k a : Int) (m : Nat) : Prop := (k = 0 ∧ 3 * a ≤ (m : Int)) ∨ ((1 ≤ k ∧ k ≤ 4) ∧ 3 * a + 1 ≤ (m : Int)) ∨ ((5 ≤ k ∧ k ≤ 7) ∧ 3 * a + 2 ≤ (m : Int))
def S_voD : rf → Nat → Prop := fun c k => (c.1 = 12 ∧ c.2.1 = 0 ∧ k = 26) ∨ (c.1 = 12 ∧ c.2.1 = 0 ∧ k = 28) ∨ (c.1 = 65 ∧ c.2.1 = 0) ∨ False
def BFC (l : Launch) (G : va_G) (cy : Nat → ClassId) (ad : rf → Nat) (N m : Nat) (Q : Int32 → Int32 → Int32 → mM → Int32 → mM → Prop) : Prop := ∀ (d : Nat) (v u t : Int32) (Mz : mM) (hIz : InvD Mz) (hk : 0 ≤ v.toInt ∧ v.toInt ≤ 7) (ha : 0 ≤ u.toInt ∧ u.toInt ≤ 3) (hr : RK v.toInt u.toInt m), WP DD l G cy ad yX12_bodyFrom cX12_bodyFrom 5 (some .int) (N + d) 0 [(0, vR (12, 0, 0)), (1, vI v), (2, vI u), (3, vI t)] [] Mz (fun r M' => InvD M' ∧ FR (S_voD) Mz M' ∧ (True) ∧ Q v u t Mz r M')
def BODC (l : Launch) (G : va_G) (cy : Nat → ClassId) (ad : rf → Nat) (N m : Nat) (Q : Int32 → Int32 → Int32 → mM → Int32 → mM → Prop) : Prop := ∀ (d : Nat) (v u t : Int32) (Mz : mM) (hIz : InvD Mz) (hk : 0 ≤ v.toInt ∧ v.toInt ≤ 7) (ha : 0 ≤ u.toInt ∧ u.toInt ≤ 3) (hr : RK v.toInt u.toInt m) (ho : ((v.toInt = 0 ∧ (u.toInt = 0 ∨ u.toInt = 1 ∨ u.toInt = 2 ∨ u.toInt = 3)) ∨ (v.toInt = 1 ∧ (u.toInt = 0 ∨ u.toInt = 3)) ∨ (v.toInt = 2 ∧ (u.toInt = 1)) ∨ (v.toInt = 3 ∧ (u.toInt = 0 ∨ u.toInt = 2)) ∨ (v.toInt = 4 ∧ (u.toInt = 2)) ∨ (v.toInt = 5 ∧ (u.toInt = 1)) ∨ (v.toInt = 6 ∧ (u.toInt = 1 ∨ u.toInt = 2)) ∨ (v.toInt = 7 ∧ (u.toInt = 3)))), WP DD l G cy ad yX12_body cX12_body 6 (some .int) (N + d) 0 [(0, vR (12, 0, 0)), (1, vI v), (2, vI u), (3, vI t)] [] Mz (fun r M' => InvD M' ∧ FR (S_voD) Mz M' ∧ (True) ∧ Q v u t Mz r M')
def ST_X12_bodyFrom_3 (m : Nat) (u : Int32) (Mz : mM) (v4_3 : Int32) (v4_3y : Int32) : Prop := (0 ≤ v4_3.toInt ∧ v4_3.toInt ≤ 7) ∧ (RK v4_3.toInt u.toInt m) ∧ ∃ r2_ : Int32, (SP_X12_hasOwn v4_3 u Mz r2_) ∧ (0 ≤ r2_.toInt ∧ r2_.toInt ≤ 1 ∧ (r2_.toInt = 0 ∨ ((v4_3.toInt = 0 ∧ (u.toInt = 0 ∨ u.toInt = 1 ∨ u.toInt = 2 ∨ u.toInt = 3)) ∨ (v4_3.toInt = 1 ∧ (u.toInt = 0 ∨ u.toInt = 3)) ∨ (v4_3.toInt = 2 ∧ (u.toInt = 1)) ∨ (v4_3.toInt = 3 ∧ (u.toInt = 0 ∨ u.toInt = 2)) ∨ (v4_3.toInt = 4 ∧ (u.toInt = 2)) ∨ (v4_3.toInt = 5 ∧ (u.toInt = 1)) ∨ (v4_3.toInt = 6 ∧ (u.toInt = 1 ∨ u.toInt = 2)) ∨ (v4_3.toInt = 7 ∧ (u.toInt = 3)))) ∧ (r2_.toInt = 0 → ¬ v4_3.toInt = 0)) ∧ (r2_.toInt = 0) ∧ ∃ r20_ : Int32, (SP_above2 v4_3 Mz r20_) ∧ (-1 ≤ r20_.toInt ∧ r20_.toInt ≤ 3 ∧ (0 ≤ v4_3.toInt → r20_.toInt < v4_3.toInt) ∧ (0 < v4_3.toInt → 0 ≤ r20_.toInt)) ∧ v4_3y = r20_
def SP_X12_bodyFrom (N : Nat) (m : Nat) (QO : Int32 → Int32 → Int32 → mM → Int32 → mM → Prop) (v : Int32) (u : Int32) (t : Int32) (Mz : mM) (r_ : Int32) (M_ : mM) : Prop := ∃ v4_3 : Int32, (0 ≤ v4_3.toInt ∧ v4_3.toInt ≤ 7) ∧ (RK v4_3.toInt u.toInt m) ∧ (RCH (fun x_ y_ => ST_X12_bodyFrom_3 m u Mz x_ y_) v v4_3) ∧ ∃ r2_ : Int32, (SP_X12_hasOwn v4_3 u Mz r2_) ∧ (0 ≤ r2_.toInt ∧ r2_.toInt ≤ 1 ∧ (r2_.toInt = 0 ∨ ((v4_3.toInt = 0 ∧ (u.toInt = 0 ∨ u.toInt = 1 ∨ u.toInt = 2 ∨ u.toInt = 3)) ∨ (v4_3.toInt = 1 ∧ (u.toInt = 0 ∨ u.toInt = 3)) ∨ (v4_3.toInt = 2 ∧ (u.toInt = 1)) ∨ (v4_3.toInt = 3 ∧ (u.toInt = 0 ∨ u.toInt = 2)) ∨ (v4_3.toInt = 4 ∧ (u.toInt = 2)) ∨ (v4_3.toInt = 5 ∧ (u.toInt = 1)) ∨ (v4_3.toInt = 6 ∧ (u.toInt = 1 ∨ u.toInt = 2)) ∨ (v4_3.toInt = 7 ∧ (u.toInt = 3)))) ∧ (r2_.toInt = 0 → ¬ v4_3.toInt = 0)) ∧ (¬ r2_.toInt = 0) ∧ ∃ z8_ : Int32, (z8_ = Mz.1 (12, 0, 0) 28) ∧ (0 ≤ z8_.toInt ∧ z8_.toInt ≤ 1) ∧ (((z8_.toInt = 0) ∧ ∃ M13_ : mM, (InvD M13_) ∧ (FR (S_voD) Mz M13_) ∧ ∃ r12_ : Int32, (QO v4_3 u t Mz r12_ M13_) ∧ r_ = r12_ ∧ M_ = M13_) ∨ ((¬ z8_.toInt = 0) ∧ r_ = 0 ∧ M_ = Mz))
theorem lf_c_X12_bodyFrom_0 (m : Nat) (v : Int32) (u : Int32) (v4_3 : Int32) (r2_ : Int32) (hk : 0 ≤ v.toInt ∧ v.toInt ≤ 7) (ha : 0 ≤ u.toInt ∧ u.toInt ≤ 3) (hr : RK v.toInt u.toInt m) (hv0_3 : 0 ≤ v4_3.toInt ∧ v4_3.toInt ≤ 7) (hv1_3 : RK v4_3.toInt u.toInt m) (h5_ : 0 ≤ r2_.toInt ∧ r2_.toInt ≤ 1 ∧ (r2_.toInt = 0 ∨ ((v4_3.toInt = 0 ∧ (u.toInt = 0 ∨ u.toInt = 1 ∨ u.toInt = 2 ∨ u.toInt = 3)) ∨ (v4_3.toInt = 1 ∧ (u.toInt = 0 ∨ u.toInt = 3)) ∨ (v4_3.toInt = 2 ∧ (u.toInt = 1)) ∨ (v4_3.toInt = 3 ∧ (u.toInt = 0 ∨ u.toInt = 2)) ∨ (v4_3.toInt = 4 ∧ (u.toInt = 2)) ∨ (v4_3.toInt = 5 ∧ (u.toInt = 1)) ∨ (v4_3.toInt = 6 ∧ (u.toInt = 1 ∨ u.toInt = 2)) ∨ (v4_3.toInt = 7 ∧ (u.toInt = 3)))) ∧ (r2_.toInt = 0 → ¬ v4_3.toInt = 0)) (h7_ : ¬ r2_.toInt = 0) : ((v4_3.toInt = 0 ∧ (u.toInt = 0 ∨ u.toInt = 1 ∨ u.toInt = 2 ∨ u.toInt = 3)) ∨ (v4_3.toInt = 1 ∧ (u.toInt = 0 ∨ u.toInt = 3)) ∨ (v4_3.toInt = 2 ∧ (u.toInt = 1)) ∨ (v4_3.toInt = 3 ∧ (u.toInt = 0 ∨ u.toInt = 2)) ∨ (v4_3.toInt = 4 ∧ (u.toInt = 2)) ∨ (v4_3.toInt = 5 ∧ (u.toInt = 1)) ∨ (v4_3.toInt = 6 ∧ (u.toInt = 1 ∨ u.toInt = 2)) ∨ (v4_3.toInt = 7 ∧ (u.toInt = 3))) := by have r_v := rngI v; have r_u := rngI u; have r_v4_3 := rngI v4_3; have r_r2_ := rngI r2_; unfold RK at *; omega
theorem lf_c_X12_bodyFrom_1 (m : Nat) (v : Int32) (u : Int32) (v4_3 : Int32) (r2_ : Int32) (r20_ : Int32) (hk : 0 ≤ v.toInt ∧ v.toInt ≤ 7) (ha : 0 ≤ u.toInt ∧ u.toInt ≤ 3) (hr : RK v.toInt u.toInt m) (hv0_3 : 0 ≤ v4_3.toInt ∧ v4_3.toInt ≤ 7) (hv1_3 : RK v4_3.toInt u.toInt m) (h5_ : 0 ≤ r2_.toInt ∧ r2_.toInt ≤ 1 ∧ (r2_.toInt = 0 ∨ ((v4_3.toInt = 0 ∧ (u.toInt = 0 ∨ u.toInt = 1 ∨ u.toInt = 2 ∨ u.toInt = 3)) ∨ (v4_3.toInt = 1 ∧ (u.toInt = 0 ∨ u.toInt = 3)) ∨ (v4_3.toInt = 2 ∧ (u.toInt = 1)) ∨ (v4_3.toInt = 3 ∧ (u.toInt = 0 ∨ u.toInt = 2)) ∨ (v4_3.toInt = 4 ∧ (u.toInt = 2)) ∨ (v4_3.toInt = 5 ∧ (u.toInt = 1)) ∨ (v4_3.toInt = 6 ∧ (u.toInt = 1 ∨ u.toInt = 2)) ∨ (v4_3.toInt = 7 ∧ (u.toInt = 3)))) ∧ (r2_.toInt = 0 → ¬ v4_3.toInt = 0)) (h7_ : r2_.toInt = 0) (h23_ : -1 ≤ r20_.toInt ∧ r20_.toInt ≤ 3 ∧ (0 ≤ v4_3.toInt → r20_.toInt < v4_3.toInt) ∧ (0 < v4_3.toInt → 0 ≤ r20_.toInt)) : 0 ≤ r20_.toInt ∧ r20_.toInt ≤ 7 := by have r_v := rngI v; have r_u := rngI u; have r_v4_3 := rngI v4_3; have r_r2_ := rngI r2_; have r_r20_ := rngI r20_; unfold RK at *; omega
theorem lf_c_X12_bodyFrom_2 (m : Nat) (v : Int32) (u : Int32) (v4_3 : Int32) (r2_ : Int32) (r20_ : Int32) (hk : 0 ≤ v.toInt ∧ v.toInt ≤ 7) (ha : 0 ≤ u.toInt ∧ u.toInt ≤ 3) (hr : RK v.toInt u.toInt m) (hv0_3 : 0 ≤ v4_3.toInt ∧ v4_3.toInt ≤ 7) (hv1_3 : RK v4_3.toInt u.toInt m) (h5_ : 0 ≤ r2_.toInt ∧ r2_.toInt ≤ 1 ∧ (r2_.toInt = 0 ∨ ((v4_3.toInt = 0 ∧ (u.toInt = 0 ∨ u.toInt = 1 ∨ u.toInt = 2 ∨ u.toInt = 3)) ∨ (v4_3.toInt = 1 ∧ (u.toInt = 0 ∨ u.toInt = 3)) ∨ (v4_3.toInt = 2 ∧ (u.toInt = 1)) ∨ (v4_3.toInt = 3 ∧ (u.toInt = 0 ∨ u.toInt = 2)) ∨ (v4_3.toInt = 4 ∧ (u.toInt = 2)) ∨ (v4_3.toInt = 5 ∧ (u.toInt = 1)) ∨ (v4_3.toInt = 6 ∧ (u.toInt = 1 ∨ u.toInt = 2)) ∨ (v4_3.toInt = 7 ∧ (u.toInt = 3)))) ∧ (r2_.toInt = 0 → ¬ v4_3.toInt = 0)) (h7_ : r2_.toInt = 0) (h23_ : -1 ≤ r20_.toInt ∧ r20_.toInt ≤ 3 ∧ (0 ≤ v4_3.toInt → r20_.toInt < v4_3.toInt) ∧ (0 < v4_3.toInt → 0 ≤ r20_.toInt)) : RK r20_.toInt u.toInt m := by have r_v := rngI v; have r_u := rngI u; have r_v4_3 := rngI v4_3; have r_r2_ := rngI r2_; have r_r20_ := rngI r20_; unfold RK at *; omega
theorem lf_c_X12_bodyFrom_3 (m : Nat) (v : Int32) (u : Int32) (v4_3 : Int32) (r2_ : Int32) (r20_ : Int32) (hk : 0 ≤ v.toInt ∧ v.toInt ≤ 7) (ha : 0 ≤ u.toInt ∧ u.toInt ≤ 3) (hr : RK v.toInt u.toInt m) (hv0_3 : 0 ≤ v4_3.toInt ∧ v4_3.toInt ≤ 7) (hv1_3 : RK v4_3.toInt u.toInt m) (h5_ : 0 ≤ r2_.toInt ∧ r2_.toInt ≤ 1 ∧ (r2_.toInt = 0 ∨ ((v4_3.toInt = 0 ∧ (u.toInt = 0 ∨ u.toInt = 1 ∨ u.toInt = 2 ∨ u.toInt = 3)) ∨ (v4_3.toInt = 1 ∧ (u.toInt = 0 ∨ u.toInt = 3)) ∨ (v4_3.toInt = 2 ∧ (u.toInt = 1)) ∨ (v4_3.toInt = 3 ∧ (u.toInt = 0 ∨ u.toInt = 2)) ∨ (v4_3.toInt = 4 ∧ (u.toInt = 2)) ∨ (v4_3.toInt = 5 ∧ (u.toInt = 1)) ∨ (v4_3.toInt = 6 ∧ (u.toInt = 1 ∨ u.toInt = 2)) ∨ (v4_3.toInt = 7 ∧ (u.toInt = 3)))) ∧ (r2_.toInt = 0 → ¬ v4_3.toInt = 0)) (h7_ : r2_.toInt = 0) (h23_ : -1 ≤ r20_.toInt ∧ r20_.toInt ≤ 3 ∧ (0 ≤ v4_3.toInt → r20_.toInt < v4_3.toInt) ∧ (0 < v4_3.toInt → 0 ≤ r20_.toInt)) : (r20_.toInt).toNat < (v4_3.toInt).toNat := by have r_v := rngI v; have r_u := rngI u; have r_v4_3 := rngI v4_3; have r_r2_ := rngI r2_; have r_r20_ := rngI r20_; unfold RK at *; omega
set_option maxHeartbeats 4000000 in
set_option maxRecDepth 100000 in
theorem c_X12_bodyFrom (l : Launch) (G : va_G) (cy : Nat → ClassId) (ad : rf → Nat) (d : Nat) (N : Nat) (m : Nat) (QO : Int32 → Int32 → Int32 → mM → Int32 → mM → Prop) (v : Int32) (u : Int32) (t : Int32) (Mz : mM) (hIz : InvD Mz) (hO : BODC l G cy ad N m QO) (hk : 0 ≤ v.toInt ∧ v.toInt ≤ 7) (ha : 0 ≤ u.toInt ∧ u.toInt ≤ 3) (hr : RK v.toInt u.toInt m) : WP DD l G cy ad yX12_bodyFrom cX12_bodyFrom 5 (some .int) ((N + d) + 1) 0 [(0, vR (12, 0, 0)), (1, vI v), (2, vI u), (3, vI t)] [] Mz (fun r M' => InvD M' ∧ FR (S_voD) Mz M' ∧ (True) ∧ SP_X12_bodyFrom N m QO v u t Mz r M') := by
  have hFz : FR (S_voD) Mz Mz := FR.self
  refine w_iload_n dX12_bodyFrom_0 rfl 1 rfl ?_
  refine w_istore (ls' := [(4, vI v), (0, vR (12, 0, 0)), (1, vI v), (2, vI u), (3, vI t)]) dX12_bodyFrom_1 (by decide) rfl ?_
  have lp1_ : ∀ (nn_3 : Nat) (v4_3 : Int32) (hv0_3 : 0 ≤ v4_3.toInt ∧ v4_3.toInt ≤ 7) (hv1_3 : RK v4_3.toInt u.toInt m) (hL_3 : RCH (fun x_ y_ => ST_X12_bodyFrom_3 m u Mz x_ y_) v v4_3), (v4_3.toInt).toNat < nn_3 → WP DD l G cy ad yX12_bodyFrom cX12_bodyFrom 5 (some .int) ((N + d) + 1) 3 [(4, vI v4_3), (0, vR (12, 0, 0)), (1, vI v), (2, vI u), (3, vI t)] [] Mz (fun r M' => InvD M' ∧ FR (S_voD) Mz M' ∧ (True) ∧ SP_X12_bodyFrom N m QO v u t Mz r M') := by
    intro nn_3
    induction nn_3 with
    | zero => intro v4_3 hv0_3 hv1_3 hL_3 hm_3; exact absurd hm_3 (Nat.not_lt_zero _)
    | succ nn_3 ih_3 =>
      intro v4_3 hv0_3 hv1_3 hL_3 hm_3
      refine w_iload dX12_bodyFrom_3 0 rfl ?_
      refine w_iload_n dX12_bodyFrom_5 rfl 3 rfl ?_
      refine w_callS (as := [vI v4_3, vI u]) (rest := []) (c_X12_hasOwn l G cy ad (N + d) v4_3 u Mz hIz hv0_3 ha) kS_X12_hasOwn pnn_17 (Nat.le_of_ble_eq_true rfl) m_1811 rfl rfl (by decide) (Nat.le_of_ble_eq_true rfl) dX12_bodyFrom_6 (fun r2_ M3_ q4_ => ?_)
      obtain ⟨rfl, h5_, hs6_⟩ := q4_
      refine w_if_ne (tgt := 22) dX12_bodyFrom_9 (by decide) (rfl : r2_.toInt = r2_.toInt) (fun h7_ => ?_) (fun h7_ => ?_)
      · refine w_aload_n dX12_bodyFrom_22 rfl 1 rfl ?_
        refine w_getI fl_RX12_336 rfl rfl ic_12 dX12_bodyFrom_23 (fun z8_ e9_ => ?_)
        have h10_ : 0 ≤ z8_.toInt ∧ z8_.toInt ≤ 1 := ofEq (P := fun v => 0 ≤ v.toInt ∧ v.toInt ≤ 1) e9_ (hIz.1 (12, 0, 0) 28)
        refine w_if_eq (tgt := 33) dX12_bodyFrom_26 (by decide) (rfl : z8_.toInt = z8_.toInt) (fun h11_ => ?_) (fun h11_ => ?_)
        · refine w_aload_n dX12_bodyFrom_33 rfl 1 rfl ?_
          refine w_iload dX12_bodyFrom_34 0 rfl ?_
          refine w_iload_n dX12_bodyFrom_36 rfl 3 rfl ?_
          refine w_iload_n dX12_bodyFrom_37 rfl 4 rfl ?_
          refine w_callV (as := [vI v4_3, vI u, vI t]) (rest := []) (hO d v4_3 u t Mz hIz hv0_3 ha hv1_3 (lf_c_X12_bodyFrom_0 m v u v4_3 r2_ hk ha hr hv0_3 hv1_3 h5_ h7_ )) kV_X12_body pnn_17 (Nat.le_of_ble_eq_true rfl) m_1814 rfl rfl rfl ic_12 rfl rfl (by decide) (Nat.le_of_ble_eq_true rfl) dX12_bodyFrom_38 (fun r12_ M13_ q14_ => ?_)
          obtain ⟨hI16_, hF17_, h15_, hs19_⟩ := q14_
          have hF18_ := hFz.tr hF17_ (fun c k => (fun h => h.elim (fun h => (Or.inl ⟨h.1, h.2.1, h.2.2⟩)) (fun h => h.elim (fun h => (Or.inr (Or.inl ⟨h.1, h.2.1, h.2.2⟩))) (fun h => h.elim (fun h => (Or.inr (Or.inr (Or.inl ⟨h.1, h.2⟩)))) (fun h => h.elim)))))
          exact w_iret rfl dX12_bodyFrom_41 ⟨hI16_, hF18_, trivial, ⟨v4_3, hv0_3, hv1_3, hL_3, r2_, hs6_, h5_, h7_, z8_, e9_, h10_, (Or.inl ⟨h11_, M13_, hI16_, hF17_, r12_, hs19_, rfl, rfl⟩)⟩⟩
        · refine w_iconst (v := 0) dX12_bodyFrom_29 (by decide) ?_
          refine w_goto (tgt := 41) dX12_bodyFrom_30 (by decide) ?_
          exact w_iret rfl dX12_bodyFrom_41 ⟨hIz, hFz, trivial, ⟨v4_3, hv0_3, hv1_3, hL_3, r2_, hs6_, h5_, h7_, z8_, e9_, h10_, (Or.inr ⟨h11_, rfl, rfl⟩)⟩⟩
      · refine w_iload dX12_bodyFrom_12 0 rfl ?_
        refine w_callS (as := [vI v4_3]) (rest := []) (c_above2 l G cy ad (N + d) v4_3 Mz hIz) kS_X12_above pnn_17 (Nat.le_of_ble_eq_true rfl) m_1535 rfl rfl (by decide) (Nat.le_of_ble_eq_true rfl) dX12_bodyFrom_14 (fun r20_ M21_ q22_ => ?_)
        obtain ⟨rfl, h23_, hs24_⟩ := q22_
        refine w_istore (ls' := [(4, vI r20_), (0, vR (12, 0, 0)), (1, vI v), (2, vI u), (3, vI t)]) dX12_bodyFrom_17 (by decide) rfl ?_
        refine w_goto (tgt := 3) dX12_bodyFrom_19 (by decide) ?_
        refine w_loc (ls' := [(4, vI r20_), (0, vR (12, 0, 0)), (1, vI v), (2, vI u), (3, vI t)]) [0, 1, 2, 3, 4] rfl ?_
        exact ih_3 r20_ (lf_c_X12_bodyFrom_1 m v u v4_3 r2_ r20_ hk ha hr hv0_3 hv1_3 h5_ h7_ h23_ ) (lf_c_X12_bodyFrom_2 m v u v4_3 r2_ r20_ hk ha hr hv0_3 hv1_3 h5_ h7_ h23_ ) (RCH.tail hL_3 ⟨hv0_3, hv1_3, r2_, hs6_, h5_, h7_, r20_, hs24_, h23_, rfl⟩) (Nat.lt_of_lt_of_le (lf_c_X12_bodyFrom_3 m v u v4_3 r2_ r20_ hk ha hr hv0_3 hv1_3 h5_ h7_ h23_ ) (Nat.le_of_lt_succ hm_3))
  exact lp1_ _ v hk hr RCH.refl (Nat.lt_succ_self _)
def SP_X12_voiced (N : Nat) (m : Nat) (QB : Int32 → Int32 → Int32 → mM → Int32 → mM → Prop) (v : Int32) (u : Int32) (Mz : mM) (r_ : Int32) (M_ : mM) : Prop := ∃ z1_ : Int32, (z1_ = Mz.1 (12, 0, 0) 27) ∧ (0 ≤ z1_.toInt ∧ z1_.toInt ≤ 7) ∧ ∃ r4_ : Int32, (SP_X12_kindOf z1_ Mz r4_) ∧ (0 ≤ r4_.toInt ∧ r4_.toInt ≤ 7) ∧ ∃ M10_ : mM, (InvD M10_) ∧ (FR (S_voD) Mz M10_) ∧ ∃ r9_ : Int32, (QB r4_ v u Mz r9_ M10_) ∧ r_ = r9_ ∧ M_ = M10_
theorem lf_c_X12_voiced_0 (m : Nat) (v : Int32) (r4_ : Int32) (ha : 0 ≤ v.toInt ∧ v.toInt ≤ 3) (hr : 3 * v.toInt + 2 ≤ ((m : Nat) : Int)) (h7_ : 0 ≤ r4_.toInt ∧ r4_.toInt ≤ 7) : RK r4_.toInt v.toInt m := by have r_v := rngI v; have r_r4_ := rngI r4_; unfold RK at *; omega
set_option maxHeartbeats 4000000 in
set_option maxRecDepth 100000 in
theorem c_X12_voiced (l : Launch) (G : va_G) (cy : Nat → ClassId) (ad : rf → Nat) (d : Nat) (N : Nat) (m : Nat) (QB : Int32 → Int32 → Int32 → mM → Int32 → mM → Prop) (v : Int32) (u : Int32) (Mz : mM) (hIz : InvD Mz) (hB : BFC l G cy ad N m QB) (ha : 0 ≤ v.toInt ∧ v.toInt ≤ 3) (hr : 3 * v.toInt + 2 ≤ ((m : Nat) : Int)) : WP DD l G cy ad yX12_voiced cX12_voiced 3 (some .int) ((N + d) + 2) 0 [(0, vR (12, 0, 0)), (1, vI v), (2, vI u)] [] Mz (fun r M' => InvD M' ∧ FR (S_voD) Mz M' ∧ (True) ∧ SP_X12_voiced N m QB v u Mz r M') := by
  have hFz : FR (S_voD) Mz Mz := FR.self
  refine w_aload_n dX12_voiced_0 rfl 0 rfl ?_
  refine w_aload_n dX12_voiced_1 rfl 0 rfl ?_
  refine w_aload_n dX12_voiced_2 rfl 0 rfl ?_
  refine w_getI fl_RX12_327 rfl rfl ic_12 dX12_voiced_3 (fun z1_ e2_ => ?_)
  have h3_ : 0 ≤ z1_.toInt ∧ z1_.toInt ≤ 7 := ofEq (P := fun v => 0 ≤ v.toInt ∧ v.toInt ≤ 7) e2_ (hIz.1 (12, 0, 0) 27)
  refine w_callV (as := [vI z1_]) (rest := [vR (12, 0, 0)]) (c_X12_kindOf l G cy ad (N + d) z1_ Mz hIz h3_) kV_X12_kindOf pnn_17 (Nat.le_of_ble_eq_true rfl) m_1517 rfl rfl rfl ic_12 rfl rfl (by decide) (Nat.le_of_ble_eq_true rfl) dX12_voiced_6 (fun r4_ M5_ q6_ => ?_)
  obtain ⟨rfl, h7_, hs8_⟩ := q6_
  refine w_iload_n dX12_voiced_9 rfl 1 rfl ?_
  refine w_iload_n dX12_voiced_10 rfl 2 rfl ?_
  refine w_callV (as := [vI r4_, vI v, vI u]) (rest := []) (hB (d + 1) r4_ v u Mz hIz h7_ ha (lf_c_X12_voiced_0 m v r4_ ha hr h7_ )) kV_X12_bodyFrom pnn_17 (Nat.le_of_ble_eq_true rfl) m_1807 rfl rfl rfl ic_12 rfl rfl (by decide) (Nat.le_of_ble_eq_true rfl) dX12_voiced_11 (fun r9_ M10_ q11_ => ?_)
  obtain ⟨hI13_, hF14_, h12_, hs16_⟩ := q11_
  have hF15_ := hFz.tr hF14_ (fun c k => (fun h => h.elim (fun h => (Or.inl ⟨h.1, h.2.1, h.2.2⟩)) (fun h => h.elim (fun h => (Or.inr (Or.inl ⟨h.1, h.2.1, h.2.2⟩))) (fun h => h.elim (fun h => (Or.inr (Or.inr (Or.inl ⟨h.1, h.2⟩)))) (fun h => h.elim)))))
  exact w_iret rfl dX12_voiced_14 ⟨hI13_, hF15_, trivial, ⟨z1_, e2_, h3_, r4_, hs8_, h7_, M10_, hI13_, hF14_, r9_, hs16_, rfl, rfl⟩⟩
def SP_X12_body (N : Nat) (m : Nat) (QB : Int32 → Int32 → Int32 → mM → Int32 → mM → Prop) (v : Int32) (u : Int32) (t : Int32) (Mz : mM) (r_ : Int32) (M_ : mM) : Prop := ∃ z1_ : Int32, (z1_ = Mz.1 (12, 0, 0) 27) ∧ (0 ≤ z1_.toInt ∧ z1_.toInt ≤ 7) ∧ ∃ r5_ : Int32, (SP_X12_goer z1_ Mz r5_) ∧ (r5_.toInt = 180 + 9 * z1_.toInt) ∧ ∃ z10_ : Int32, (z10_.toInt = r5_.toInt + 3) ∧ ∃ j14_ : Nat, ((j14_ : Int) = z10_.toInt) ∧ ∃ z12_ : Int32, (z12_ = Mz.1 (50, 0, 0) j14_) ∧ ∃ z16_ : Int32, (z16_.toInt = 4 * v.toInt) ∧ ∃ z18_ : Int32, (z18_.toInt = z16_.toInt + u.toInt) ∧ (((z18_.toInt = 0) ∧ ∃ M21_ : mM, (InvD M21_) ∧ (FR (S_c_X12_began) Mz M21_) ∧ (SP_X12_began 10 Mz M21_) ∧ ∃ z29_ : Int32, (z29_ = t + z12_) ∧ r_ = z29_ ∧ M_ = M21_) ∨ ((z18_.toInt = 1) ∧ ∃ M31_ : mM, (InvD M31_) ∧ (FR (S_c_X12_began) Mz M31_) ∧ (SP_X12_began 11 Mz M31_) ∧ ∃ M40_ : mM, (InvD M40_) ∧ (FR (S_voD) M31_ M40_) ∧ ∃ r39_ : Int32, (SP_X12_voiced N (m - 1) QB 0 t M31_ r39_ M40_) ∧ ∃ z48_ : Int32, (z48_ = r39_ * (2 : Int32)) ∧ r_ = z48_ ∧ M_ = M40_) ∨ ((z18_.toInt = 2) ∧ ∃ M50_ : mM, (InvD M50_) ∧ (FR (S_c_X12_began) Mz M50_) ∧ (SP_X12_began 12 Mz M50_) ∧ ∃ M59_ : mM, (InvD M59_) ∧ (FR (S_voD) M50_ M59_) ∧ ∃ r58_ : Int32, (SP_X12_voiced N (m - 1) QB 1 t M50_ r58_ M59_) ∧ ∃ z67_ : Int32, (z67_ = M59_.1 (12, 0, 0) 27) ∧ (0 ≤ z67_.toInt ∧ z67_.toInt ≤ 7) ∧ (z67_.toInt = z1_.toInt) ∧ ∃ z71_ : Int32, (z71_ = r58_ - z67_) ∧ r_ = z71_ ∧ M_ = M59_) ∨ ((z18_.toInt = 3) ∧ ∃ M73_ : mM, (InvD M73_) ∧ (FR (S_c_X12_began) Mz M73_) ∧ (SP_X12_began 13 Mz M73_) ∧ ∃ z81_ : Int32, (z81_ = M73_.1 (12, 0, 0) 27) ∧ (0 ≤ z81_.toInt ∧ z81_.toInt ≤ 7) ∧ (z81_.toInt = z1_.toInt) ∧ (((¬ z81_.toInt = 3) ∧ ∃ M86_ : mM, (M86_ = up M73_ (12, 0, 0) 28 0) ∧ ∃ z92_ : Int32, (z92_ = M86_.1 (12, 0, 0) 28) ∧ (0 ≤ z92_.toInt ∧ z92_.toInt ≤ 1) ∧ (z92_.toInt = 0) ∧ (z92_.toInt = 0) ∧ ∃ z97_ : Int32, (z97_ = M86_.1 (12, 0, 0) 27) ∧ (0 ≤ z97_.toInt ∧ z97_.toInt ≤ 7) ∧ (z97_.toInt = z1_.toInt) ∧ ∃ z101_ : Int32, (z101_.toInt = z97_.toInt - 3) ∧ ∃ z103_ : Int32, (z103_ = t / z101_) ∧ r_ = z103_ ∧ M_ = M86_) ∨ ((z81_.toInt = 3) ∧ ∃ M105_ : mM, (M105_ = up M73_ (12, 0, 0) 28 1) ∧ ∃ z111_ : Int32, (z111_ = M105_.1 (12, 0, 0) 28) ∧ (0 ≤ z111_.toInt ∧ z111_.toInt ≤ 1) ∧ (z111_.toInt = 1) ∧ (¬ z111_.toInt = 0) ∧ r_ = 0 ∧ M_ = M105_))) ∨ ((z18_.toInt = 4) ∧ ∃ M116_ : mM, (InvD M116_) ∧ (FR (S_c_X12_began) Mz M116_) ∧ (SP_X12_began 20 Mz M116_) ∧ ∃ M125_ : mM, (InvD M125_) ∧ (FR (S_voD) M116_ M125_) ∧ ∃ r124_ : Int32, (QB 0 0 t M116_ r124_ M125_) ∧ ∃ z133_ : Int32, (z133_ = r124_ * (3 : Int32)) ∧ r_ = z133_ ∧ M_ = M125_) ∨ ((z18_.toInt = 7) ∧ ∃ M135_ : mM, (InvD M135_) ∧ (FR (S_c_X12_began) Mz M135_) ∧ (SP_X12_began 21 Mz M135_) ∧ ∃ M144_ : mM, (InvD M144_) ∧ (FR (S_voD) M135_ M144_) ∧ ∃ r143_ : Int32, (QB 0 3 t M135_ r143_ M144_) ∧ ∃ M153_ : mM, (InvD M153_) ∧ (FR (S_voD) M144_ M153_) ∧ ∃ r152_ : Int32, (SP_X12_voiced N (m - 1) QB 2 1 M144_ r152_ M153_) ∧ ∃ z161_ : Int32, (z161_ = r143_ + r152_) ∧ r_ = z161_ ∧ M_ = M153_) ∨ ((z18_.toInt = 9) ∧ ∃ M163_ : mM, (InvD M163_) ∧ (FR (S_c_X12_began) Mz M163_) ∧ (SP_X12_began 30 Mz M163_) ∧ ∃ M172_ : mM, (InvD M172_) ∧ (FR (S_voD) M163_ M172_) ∧ ∃ r171_ : Int32, (QB 0 1 t M163_ r171_ M172_) ∧ ∃ z180_ : Int32, (z180_ = r171_ ^^^ z12_) ∧ r_ = z180_ ∧ M_ = M172_) ∨ ((z18_.toInt = 12) ∧ ∃ M182_ : mM, (InvD M182_) ∧ (FR (S_c_X12_began) Mz M182_) ∧ (SP_X12_began 40 Mz M182_) ∧ ∃ M191_ : mM, (InvD M191_) ∧ (FR (S_voD) M182_ M191_) ∧ ∃ r190_ : Int32, (QB 0 0 t M182_ r190_ M191_) ∧ ∃ z199_ : Int32, (z199_ = -r190_) ∧ r_ = z199_ ∧ M_ = M191_) ∨ ((z18_.toInt = 14) ∧ ∃ M201_ : mM, (InvD M201_) ∧ (FR (S_c_X12_began) Mz M201_) ∧ (SP_X12_began 41 Mz M201_) ∧ ∃ M210_ : mM, (InvD M210_) ∧ (FR (S_voD) M201_ M210_) ∧ ∃ r209_ : Int32, (QB 0 2 t M201_ r209_ M210_) ∧ ∃ z218_ : Int32, (z218_ = r209_ + (5 : Int32)) ∧ r_ = z218_ ∧ M_ = M210_) ∨ ((z18_.toInt = 18) ∧ ∃ M220_ : mM, (InvD M220_) ∧ (FR (S_c_X12_began) Mz M220_) ∧ (SP_X12_began 50 Mz M220_) ∧ ∃ z228_ : Int32, (z228_ = t - (1 : Int32)) ∧ ∃ M231_ : mM, (InvD M231_) ∧ (FR (S_voD) M220_ M231_) ∧ ∃ r230_ : Int32, (QB 0 2 z228_ M220_ r230_ M231_) ∧ r_ = r230_ ∧ M_ = M231_) ∨ ((z18_.toInt = 21) ∧ ∃ M239_ : mM, (InvD M239_) ∧ (FR (S_c_X12_began) Mz M239_) ∧ (SP_X12_began 60 Mz M239_) ∧ ∃ z247_ : Int32, (z247_ = t + (2 : Int32)) ∧ ∃ M250_ : mM, (InvD M250_) ∧ (FR (S_voD) M239_ M250_) ∧ ∃ r249_ : Int32, (QB 1 1 z247_ M239_ r249_ M250_) ∧ r_ = r249_ ∧ M_ = M250_) ∨ ((z18_.toInt = 25) ∧ ∃ M258_ : mM, (InvD M258_) ∧ (FR (S_c_X12_began) Mz M258_) ∧ (SP_X12_began 70 Mz M258_) ∧ ∃ M267_ : mM, (InvD M267_) ∧ (FR (S_voD) M258_ M267_) ∧ ∃ r266_ : Int32, (QB 3 1 t M258_ r266_ M267_) ∧ ∃ z275_ : Int32, (z275_ = r266_ / (2 : Int32)) ∧ r_ = z275_ ∧ M_ = M267_) ∨ ((z18_.toInt = 26) ∧ ∃ M277_ : mM, (InvD M277_) ∧ (FR (S_c_X12_began) Mz M277_) ∧ (SP_X12_began 71 Mz M277_) ∧ ∃ M286_ : mM, (InvD M286_) ∧ (FR (S_voD) M277_ M286_) ∧ ∃ r285_ : Int32, (QB 3 2 t M277_ r285_ M286_) ∧ ∃ M295_ : mM, (InvD M295_) ∧ (FR (S_voD) M286_ M295_) ∧ ∃ r294_ : Int32, (SP_X12_voiced N (m - 1) QB 0 2 M286_ r294_ M295_) ∧ ∃ z303_ : Int32, (z303_ = r285_ - r294_) ∧ r_ = z303_ ∧ M_ = M295_) ∨ ((z18_.toInt = 31) ∧ ∃ M305_ : mM, (InvD M305_) ∧ (FR (S_c_X12_began) Mz M305_) ∧ (SP_X12_began 80 Mz M305_) ∧ ∃ M314_ : mM, (InvD M314_) ∧ (FR (S_voD) M305_ M314_) ∧ ∃ r313_ : Int32, (QB 1 3 t M305_ r313_ M314_) ∧ ∃ M323_ : mM, (InvD M323_) ∧ (FR (S_voD) M314_ M323_) ∧ ∃ r322_ : Int32, (SP_X12_voiced N (m - 1) QB 1 t M314_ r322_ M323_) ∧ ∃ z331_ : Int32, (z331_ = r313_ - r322_) ∧ r_ = z331_ ∧ M_ = M323_))
theorem lf_c_X12_body_2 (m : Nat) (v : Int32) (u : Int32) (hk : 0 ≤ v.toInt ∧ v.toInt ≤ 7) (ha : 0 ≤ u.toInt ∧ u.toInt ≤ 3) (hr : RK v.toInt u.toInt m) (ho : ((v.toInt = 0 ∧ (u.toInt = 0 ∨ u.toInt = 1 ∨ u.toInt = 2 ∨ u.toInt = 3)) ∨ (v.toInt = 1 ∧ (u.toInt = 0 ∨ u.toInt = 3)) ∨ (v.toInt = 2 ∧ (u.toInt = 1)) ∨ (v.toInt = 3 ∧ (u.toInt = 0 ∨ u.toInt = 2)) ∨ (v.toInt = 4 ∧ (u.toInt = 2)) ∨ (v.toInt = 5 ∧ (u.toInt = 1)) ∨ (v.toInt = 6 ∧ (u.toInt = 1 ∨ u.toInt = 2)) ∨ (v.toInt = 7 ∧ (u.toInt = 3)))) : -2147483648 ≤ 4 * v.toInt ∧ 4 * v.toInt < 2147483648 := by have r_v := rngI v; have r_u := rngI u; unfold RK at *; omega
theorem lf_c_X12_body_3 (m : Nat) (v : Int32) (u : Int32) (z16_ : Int32) (hk : 0 ≤ v.toInt ∧ v.toInt ≤ 7) (ha : 0 ≤ u.toInt ∧ u.toInt ≤ 3) (hr : RK v.toInt u.toInt m) (ho : ((v.toInt = 0 ∧ (u.toInt = 0 ∨ u.toInt = 1 ∨ u.toInt = 2 ∨ u.toInt = 3)) ∨ (v.toInt = 1 ∧ (u.toInt = 0 ∨ u.toInt = 3)) ∨ (v.toInt = 2 ∧ (u.toInt = 1)) ∨ (v.toInt = 3 ∧ (u.toInt = 0 ∨ u.toInt = 2)) ∨ (v.toInt = 4 ∧ (u.toInt = 2)) ∨ (v.toInt = 5 ∧ (u.toInt = 1)) ∨ (v.toInt = 6 ∧ (u.toInt = 1 ∨ u.toInt = 2)) ∨ (v.toInt = 7 ∧ (u.toInt = 3)))) (h17_ : z16_.toInt = 4 * v.toInt) : -2147483648 ≤ z16_.toInt + u.toInt ∧ z16_.toInt + u.toInt < 2147483648 := by have r_v := rngI v; have r_u := rngI u; have r_z16_ := rngI z16_; unfold RK at *; omega
theorem lf_c_X12_body_4 (m : Nat) (v : Int32) (u : Int32) (z16_ : Int32) (z18_ : Int32) (hk : 0 ≤ v.toInt ∧ v.toInt ≤ 7) (ha : 0 ≤ u.toInt ∧ u.toInt ≤ 3) (hr : RK v.toInt u.toInt m) (ho : ((v.toInt = 0 ∧ (u.toInt = 0 ∨ u.toInt = 1 ∨ u.toInt = 2 ∨ u.toInt = 3)) ∨ (v.toInt = 1 ∧ (u.toInt = 0 ∨ u.toInt = 3)) ∨ (v.toInt = 2 ∧ (u.toInt = 1)) ∨ (v.toInt = 3 ∧ (u.toInt = 0 ∨ u.toInt = 2)) ∨ (v.toInt = 4 ∧ (u.toInt = 2)) ∨ (v.toInt = 5 ∧ (u.toInt = 1)) ∨ (v.toInt = 6 ∧ (u.toInt = 1 ∨ u.toInt = 2)) ∨ (v.toInt = 7 ∧ (u.toInt = 3)))) (h17_ : z16_.toInt = 4 * v.toInt) (h19_ : z18_.toInt = z16_.toInt + u.toInt) : z18_.toInt = 0 ∨ z18_.toInt = 1 ∨ z18_.toInt = 2 ∨ z18_.toInt = 3 ∨ z18_.toInt = 4 ∨ z18_.toInt = 7 ∨ z18_.toInt = 9 ∨ z18_.toInt = 12 ∨ z18_.toInt = 14 ∨ z18_.toInt = 18 ∨ z18_.toInt = 21 ∨ z18_.toInt = 25 ∨ z18_.toInt = 26 ∨ z18_.toInt = 31 := by have r_v := rngI v; have r_u := rngI u; have r_z16_ := rngI z16_; have r_z18_ := rngI z18_; unfold RK at *; omega
theorem lf_c_X12_body_5 (m : Nat) (v : Int32) (u : Int32) (z16_ : Int32) (z18_ : Int32) (hk : 0 ≤ v.toInt ∧ v.toInt ≤ 7) (ha : 0 ≤ u.toInt ∧ u.toInt ≤ 3) (hr : RK v.toInt u.toInt m) (ho : ((v.toInt = 0 ∧ (u.toInt = 0 ∨ u.toInt = 1 ∨ u.toInt = 2 ∨ u.toInt = 3)) ∨ (v.toInt = 1 ∧ (u.toInt = 0 ∨ u.toInt = 3)) ∨ (v.toInt = 2 ∧ (u.toInt = 1)) ∨ (v.toInt = 3 ∧ (u.toInt = 0 ∨ u.toInt = 2)) ∨ (v.toInt = 4 ∧ (u.toInt = 2)) ∨ (v.toInt = 5 ∧ (u.toInt = 1)) ∨ (v.toInt = 6 ∧ (u.toInt = 1 ∨ u.toInt = 2)) ∨ (v.toInt = 7 ∧ (u.toInt = 3)))) (h17_ : z16_.toInt = 4 * v.toInt) (h19_ : z18_.toInt = z16_.toInt + u.toInt) (e20_ : z18_.toInt = 1) : 3 * 0 + 2 ≤ (((m - 1) : Nat) : Int) := by have r_v := rngI v; have r_u := rngI u; have r_z16_ := rngI z16_; have r_z18_ := rngI z18_; unfold RK at *; omega
theorem lf_c_X12_body_6 (m : Nat) (v : Int32) (u : Int32) (z16_ : Int32) (z18_ : Int32) (hk : 0 ≤ v.toInt ∧ v.toInt ≤ 7) (ha : 0 ≤ u.toInt ∧ u.toInt ≤ 3) (hr : RK v.toInt u.toInt m) (ho : ((v.toInt = 0 ∧ (u.toInt = 0 ∨ u.toInt = 1 ∨ u.toInt = 2 ∨ u.toInt = 3)) ∨ (v.toInt = 1 ∧ (u.toInt = 0 ∨ u.toInt = 3)) ∨ (v.toInt = 2 ∧ (u.toInt = 1)) ∨ (v.toInt = 3 ∧ (u.toInt = 0 ∨ u.toInt = 2)) ∨ (v.toInt = 4 ∧ (u.toInt = 2)) ∨ (v.toInt = 5 ∧ (u.toInt = 1)) ∨ (v.toInt = 6 ∧ (u.toInt = 1 ∨ u.toInt = 2)) ∨ (v.toInt = 7 ∧ (u.toInt = 3)))) (h17_ : z16_.toInt = 4 * v.toInt) (h19_ : z18_.toInt = z16_.toInt + u.toInt) (e20_ : z18_.toInt = 1) : m - 1 + 1 = m := by have r_v := rngI v; have r_u := rngI u; have r_z16_ := rngI z16_; have r_z18_ := rngI z18_; unfold RK at *; omega
theorem lf_c_X12_body_7 (m : Nat) (v : Int32) (u : Int32) (z16_ : Int32) (z18_ : Int32) (hk : 0 ≤ v.toInt ∧ v.toInt ≤ 7) (ha : 0 ≤ u.toInt ∧ u.toInt ≤ 3) (hr : RK v.toInt u.toInt m) (ho : ((v.toInt = 0 ∧ (u.toInt = 0 ∨ u.toInt = 1 ∨ u.toInt = 2 ∨ u.toInt = 3)) ∨ (v.toInt = 1 ∧ (u.toInt = 0 ∨ u.toInt = 3)) ∨ (v.toInt = 2 ∧ (u.toInt = 1)) ∨ (v.toInt = 3 ∧ (u.toInt = 0 ∨ u.toInt = 2)) ∨ (v.toInt = 4 ∧ (u.toInt = 2)) ∨ (v.toInt = 5 ∧ (u.toInt = 1)) ∨ (v.toInt = 6 ∧ (u.toInt = 1 ∨ u.toInt = 2)) ∨ (v.toInt = 7 ∧ (u.toInt = 3)))) (h17_ : z16_.toInt = 4 * v.toInt) (h19_ : z18_.toInt = z16_.toInt + u.toInt) (e20_ : z18_.toInt = 2) : 3 * 1 + 2 ≤ (((m - 1) : Nat) : Int) := by have r_v := rngI v; have r_u := rngI u; have r_z16_ := rngI z16_; have r_z18_ := rngI z18_; unfold RK at *; omega
theorem lf_c_X12_body_8 (m : Nat) (v : Int32) (u : Int32) (z16_ : Int32) (z18_ : Int32) (hk : 0 ≤ v.toInt ∧ v.toInt ≤ 7) (ha : 0 ≤ u.toInt ∧ u.toInt ≤ 3) (hr : RK v.toInt u.toInt m) (ho : ((v.toInt = 0 ∧ (u.toInt = 0 ∨ u.toInt = 1 ∨ u.toInt = 2 ∨ u.toInt = 3)) ∨ (v.toInt = 1 ∧ (u.toInt = 0 ∨ u.toInt = 3)) ∨ (v.toInt = 2 ∧ (u.toInt = 1)) ∨ (v.toInt = 3 ∧ (u.toInt = 0 ∨ u.toInt = 2)) ∨ (v.toInt = 4 ∧ (u.toInt = 2)) ∨ (v.toInt = 5 ∧ (u.toInt = 1)) ∨ (v.toInt = 6 ∧ (u.toInt = 1 ∨ u.toInt = 2)) ∨ (v.toInt = 7 ∧ (u.toInt = 3)))) (h17_ : z16_.toInt = 4 * v.toInt) (h19_ : z18_.toInt = z16_.toInt + u.toInt) (e20_ : z18_.toInt = 2) : m - 1 + 1 = m := by have r_v := rngI v; have r_u := rngI u; have r_z16_ := rngI z16_; have r_z18_ := rngI z18_; unfold RK at *; omega
theorem lf_c_X12_body_10 (z97_ : Int32) (h99_ : 0 ≤ z97_.toInt ∧ z97_.toInt ≤ 7) : -2147483648 ≤ z97_.toInt - 3 ∧ z97_.toInt - 3 < 2147483648 := by omega
theorem lf_c_X12_body_11 (z1_ : Int32) (z81_ : Int32) (z97_ : Int32) (z101_ : Int32) (h84_ : z81_.toInt = z1_.toInt) (h85_ : ¬ z81_.toInt = 3) (h100_ : z97_.toInt = z1_.toInt) (h102_ : z101_.toInt = z97_.toInt - 3) : ¬ z101_.toInt = 0 := by omega
theorem lf_c_X12_body_13 (m : Nat) (v : Int32) (u : Int32) (z16_ : Int32) (z18_ : Int32) (hk : 0 ≤ v.toInt ∧ v.toInt ≤ 7) (ha : 0 ≤ u.toInt ∧ u.toInt ≤ 3) (hr : RK v.toInt u.toInt m) (ho : ((v.toInt = 0 ∧ (u.toInt = 0 ∨ u.toInt = 1 ∨ u.toInt = 2 ∨ u.toInt = 3)) ∨ (v.toInt = 1 ∧ (u.toInt = 0 ∨ u.toInt = 3)) ∨ (v.toInt = 2 ∧ (u.toInt = 1)) ∨ (v.toInt = 3 ∧ (u.toInt = 0 ∨ u.toInt = 2)) ∨ (v.toInt = 4 ∧ (u.toInt = 2)) ∨ (v.toInt = 5 ∧ (u.toInt = 1)) ∨ (v.toInt = 6 ∧ (u.toInt = 1 ∨ u.toInt = 2)) ∨ (v.toInt = 7 ∧ (u.toInt = 3)))) (h17_ : z16_.toInt = 4 * v.toInt) (h19_ : z18_.toInt = z16_.toInt + u.toInt) (e20_ : z18_.toInt = 4) : RK 0 0 (m - 1) := by have r_v := rngI v; have r_u := rngI u; have r_z16_ := rngI z16_; have r_z18_ := rngI z18_; unfold RK at *; omega
theorem lf_c_X12_body_14 (m : Nat) (v : Int32) (u : Int32) (z16_ : Int32) (z18_ : Int32) (hk : 0 ≤ v.toInt ∧ v.toInt ≤ 7) (ha : 0 ≤ u.toInt ∧ u.toInt ≤ 3) (hr : RK v.toInt u.toInt m) (ho : ((v.toInt = 0 ∧ (u.toInt = 0 ∨ u.toInt = 1 ∨ u.toInt = 2 ∨ u.toInt = 3)) ∨ (v.toInt = 1 ∧ (u.toInt = 0 ∨ u.toInt = 3)) ∨ (v.toInt = 2 ∧ (u.toInt = 1)) ∨ (v.toInt = 3 ∧ (u.toInt = 0 ∨ u.toInt = 2)) ∨ (v.toInt = 4 ∧ (u.toInt = 2)) ∨ (v.toInt = 5 ∧ (u.toInt = 1)) ∨ (v.toInt = 6 ∧ (u.toInt = 1 ∨ u.toInt = 2)) ∨ (v.toInt = 7 ∧ (u.toInt = 3)))) (h17_ : z16_.toInt = 4 * v.toInt) (h19_ : z18_.toInt = z16_.toInt + u.toInt) (e20_ : z18_.toInt = 4) : m - 1 + 1 = m := by have r_v := rngI v; have r_u := rngI u; have r_z16_ := rngI z16_; have r_z18_ := rngI z18_; unfold RK at *; omega
theorem lf_c_X12_body_15 (m : Nat) (v : Int32) (u : Int32) (z16_ : Int32) (z18_ : Int32) (hk : 0 ≤ v.toInt ∧ v.toInt ≤ 7) (ha : 0 ≤ u.toInt ∧ u.toInt ≤ 3) (hr : RK v.toInt u.toInt m) (ho : ((v.toInt = 0 ∧ (u.toInt = 0 ∨ u.toInt = 1 ∨ u.toInt = 2 ∨ u.toInt = 3)) ∨ (v.toInt = 1 ∧ (u.toInt = 0 ∨ u.toInt = 3)) ∨ (v.toInt = 2 ∧ (u.toInt = 1)) ∨ (v.toInt = 3 ∧ (u.toInt = 0 ∨ u.toInt = 2)) ∨ (v.toInt = 4 ∧ (u.toInt = 2)) ∨ (v.toInt = 5 ∧ (u.toInt = 1)) ∨ (v.toInt = 6 ∧ (u.toInt = 1 ∨ u.toInt = 2)) ∨ (v.toInt = 7 ∧ (u.toInt = 3)))) (h17_ : z16_.toInt = 4 * v.toInt) (h19_ : z18_.toInt = z16_.toInt + u.toInt) (e20_ : z18_.toInt = 7) : RK 0 3 (m - 1) := by have r_v := rngI v; have r_u := rngI u; have r_z16_ := rngI z16_; have r_z18_ := rngI z18_; unfold RK at *; omega
theorem lf_c_X12_body_16 (m : Nat) (v : Int32) (u : Int32) (z16_ : Int32) (z18_ : Int32) (hk : 0 ≤ v.toInt ∧ v.toInt ≤ 7) (ha : 0 ≤ u.toInt ∧ u.toInt ≤ 3) (hr : RK v.toInt u.toInt m) (ho : ((v.toInt = 0 ∧ (u.toInt = 0 ∨ u.toInt = 1 ∨ u.toInt = 2 ∨ u.toInt = 3)) ∨ (v.toInt = 1 ∧ (u.toInt = 0 ∨ u.toInt = 3)) ∨ (v.toInt = 2 ∧ (u.toInt = 1)) ∨ (v.toInt = 3 ∧ (u.toInt = 0 ∨ u.toInt = 2)) ∨ (v.toInt = 4 ∧ (u.toInt = 2)) ∨ (v.toInt = 5 ∧ (u.toInt = 1)) ∨ (v.toInt = 6 ∧ (u.toInt = 1 ∨ u.toInt = 2)) ∨ (v.toInt = 7 ∧ (u.toInt = 3)))) (h17_ : z16_.toInt = 4 * v.toInt) (h19_ : z18_.toInt = z16_.toInt + u.toInt) (e20_ : z18_.toInt = 7) : m - 1 + 1 = m := by have r_v := rngI v; have r_u := rngI u; have r_z16_ := rngI z16_; have r_z18_ := rngI z18_; unfold RK at *; omega
theorem lf_c_X12_body_17 (m : Nat) (v : Int32) (u : Int32) (z16_ : Int32) (z18_ : Int32) (hk : 0 ≤ v.toInt ∧ v.toInt ≤ 7) (ha : 0 ≤ u.toInt ∧ u.toInt ≤ 3) (hr : RK v.toInt u.toInt m) (ho : ((v.toInt = 0 ∧ (u.toInt = 0 ∨ u.toInt = 1 ∨ u.toInt = 2 ∨ u.toInt = 3)) ∨ (v.toInt = 1 ∧ (u.toInt = 0 ∨ u.toInt = 3)) ∨ (v.toInt = 2 ∧ (u.toInt = 1)) ∨ (v.toInt = 3 ∧ (u.toInt = 0 ∨ u.toInt = 2)) ∨ (v.toInt = 4 ∧ (u.toInt = 2)) ∨ (v.toInt = 5 ∧ (u.toInt = 1)) ∨ (v.toInt = 6 ∧ (u.toInt = 1 ∨ u.toInt = 2)) ∨ (v.toInt = 7 ∧ (u.toInt = 3)))) (h17_ : z16_.toInt = 4 * v.toInt) (h19_ : z18_.toInt = z16_.toInt + u.toInt) (e20_ : z18_.toInt = 7) : 3 * 2 + 2 ≤ (((m - 1) : Nat) : Int) := by have r_v := rngI v; have r_u := rngI u; have r_z16_ := rngI z16_; have r_z18_ := rngI z18_; unfold RK at *; omega
theorem lf_c_X12_body_19 (m : Nat) (v : Int32) (u : Int32) (z16_ : Int32) (z18_ : Int32) (hk : 0 ≤ v.toInt ∧ v.toInt ≤ 7) (ha : 0 ≤ u.toInt ∧ u.toInt ≤ 3) (hr : RK v.toInt u.toInt m) (ho : ((v.toInt = 0 ∧ (u.toInt = 0 ∨ u.toInt = 1 ∨ u.toInt = 2 ∨ u.toInt = 3)) ∨ (v.toInt = 1 ∧ (u.toInt = 0 ∨ u.toInt = 3)) ∨ (v.toInt = 2 ∧ (u.toInt = 1)) ∨ (v.toInt = 3 ∧ (u.toInt = 0 ∨ u.toInt = 2)) ∨ (v.toInt = 4 ∧ (u.toInt = 2)) ∨ (v.toInt = 5 ∧ (u.toInt = 1)) ∨ (v.toInt = 6 ∧ (u.toInt = 1 ∨ u.toInt = 2)) ∨ (v.toInt = 7 ∧ (u.toInt = 3)))) (h17_ : z16_.toInt = 4 * v.toInt) (h19_ : z18_.toInt = z16_.toInt + u.toInt) (e20_ : z18_.toInt = 9) : RK 0 1 (m - 1) := by have r_v := rngI v; have r_u := rngI u; have r_z16_ := rngI z16_; have r_z18_ := rngI z18_; unfold RK at *; omega
theorem lf_c_X12_body_20 (m : Nat) (v : Int32) (u : Int32) (z16_ : Int32) (z18_ : Int32) (hk : 0 ≤ v.toInt ∧ v.toInt ≤ 7) (ha : 0 ≤ u.toInt ∧ u.toInt ≤ 3) (hr : RK v.toInt u.toInt m) (ho : ((v.toInt = 0 ∧ (u.toInt = 0 ∨ u.toInt = 1 ∨ u.toInt = 2 ∨ u.toInt = 3)) ∨ (v.toInt = 1 ∧ (u.toInt = 0 ∨ u.toInt = 3)) ∨ (v.toInt = 2 ∧ (u.toInt = 1)) ∨ (v.toInt = 3 ∧ (u.toInt = 0 ∨ u.toInt = 2)) ∨ (v.toInt = 4 ∧ (u.toInt = 2)) ∨ (v.toInt = 5 ∧ (u.toInt = 1)) ∨ (v.toInt = 6 ∧ (u.toInt = 1 ∨ u.toInt = 2)) ∨ (v.toInt = 7 ∧ (u.toInt = 3)))) (h17_ : z16_.toInt = 4 * v.toInt) (h19_ : z18_.toInt = z16_.toInt + u.toInt) (e20_ : z18_.toInt = 9) : m - 1 + 1 = m := by have r_v := rngI v; have r_u := rngI u; have r_z16_ := rngI z16_; have r_z18_ := rngI z18_; unfold RK at *; omega
theorem lf_c_X12_body_21 (m : Nat) (v : Int32) (u : Int32) (z16_ : Int32) (z18_ : Int32) (hk : 0 ≤ v.toInt ∧ v.toInt ≤ 7) (ha : 0 ≤ u.toInt ∧ u.toInt ≤ 3) (hr : RK v.toInt u.toInt m) (ho : ((v.toInt = 0 ∧ (u.toInt = 0 ∨ u.toInt = 1 ∨ u.toInt = 2 ∨ u.toInt = 3)) ∨ (v.toInt = 1 ∧ (u.toInt = 0 ∨ u.toInt = 3)) ∨ (v.toInt = 2 ∧ (u.toInt = 1)) ∨ (v.toInt = 3 ∧ (u.toInt = 0 ∨ u.toInt = 2)) ∨ (v.toInt = 4 ∧ (u.toInt = 2)) ∨ (v.toInt = 5 ∧ (u.toInt = 1)) ∨ (v.toInt = 6 ∧ (u.toInt = 1 ∨ u.toInt = 2)) ∨ (v.toInt = 7 ∧ (u.toInt = 3)))) (h17_ : z16_.toInt = 4 * v.toInt) (h19_ : z18_.toInt = z16_.toInt + u.toInt) (e20_ : z18_.toInt = 12) : RK 0 0 (m - 1) := by have r_v := rngI v; have r_u := rngI u; have r_z16_ := rngI z16_; have r_z18_ := rngI z18_; unfold RK at *; omega
theorem lf_c_X12_body_22 (m : Nat) (v : Int32) (u : Int32) (z16_ : Int32) (z18_ : Int32) (hk : 0 ≤ v.toInt ∧ v.toInt ≤ 7) (ha : 0 ≤ u.toInt ∧ u.toInt ≤ 3) (hr : RK v.toInt u.toInt m) (ho : ((v.toInt = 0 ∧ (u.toInt = 0 ∨ u.toInt = 1 ∨ u.toInt = 2 ∨ u.toInt = 3)) ∨ (v.toInt = 1 ∧ (u.toInt = 0 ∨ u.toInt = 3)) ∨ (v.toInt = 2 ∧ (u.toInt = 1)) ∨ (v.toInt = 3 ∧ (u.toInt = 0 ∨ u.toInt = 2)) ∨ (v.toInt = 4 ∧ (u.toInt = 2)) ∨ (v.toInt = 5 ∧ (u.toInt = 1)) ∨ (v.toInt = 6 ∧ (u.toInt = 1 ∨ u.toInt = 2)) ∨ (v.toInt = 7 ∧ (u.toInt = 3)))) (h17_ : z16_.toInt = 4 * v.toInt) (h19_ : z18_.toInt = z16_.toInt + u.toInt) (e20_ : z18_.toInt = 12) : m - 1 + 1 = m := by have r_v := rngI v; have r_u := rngI u; have r_z16_ := rngI z16_; have r_z18_ := rngI z18_; unfold RK at *; omega
theorem lf_c_X12_body_23 (m : Nat) (v : Int32) (u : Int32) (z16_ : Int32) (z18_ : Int32) (hk : 0 ≤ v.toInt ∧ v.toInt ≤ 7) (ha : 0 ≤ u.toInt ∧ u.toInt ≤ 3) (hr : RK v.toInt u.toInt m) (ho : ((v.toInt = 0 ∧ (u.toInt = 0 ∨ u.toInt = 1 ∨ u.toInt = 2 ∨ u.toInt = 3)) ∨ (v.toInt = 1 ∧ (u.toInt = 0 ∨ u.toInt = 3)) ∨ (v.toInt = 2 ∧ (u.toInt = 1)) ∨ (v.toInt = 3 ∧ (u.toInt = 0 ∨ u.toInt = 2)) ∨ (v.toInt = 4 ∧ (u.toInt = 2)) ∨ (v.toInt = 5 ∧ (u.toInt = 1)) ∨ (v.toInt = 6 ∧ (u.toInt = 1 ∨ u.toInt = 2)) ∨ (v.toInt = 7 ∧ (u.toInt = 3)))) (h17_ : z16_.toInt = 4 * v.toInt) (h19_ : z18_.toInt = z16_.toInt + u.toInt) (e20_ : z18_.toInt = 14) : RK 0 2 (m - 1) := by have r_v := rngI v; have r_u := rngI u; have r_z16_ := rngI z16_; have r_z18_ := rngI z18_; unfold RK at *; omega
theorem lf_c_X12_body_24 (m : Nat) (v : Int32) (u : Int32) (z16_ : Int32) (z18_ : Int32) (hk : 0 ≤ v.toInt ∧ v.toInt ≤ 7) (ha : 0 ≤ u.toInt ∧ u.toInt ≤ 3) (hr : RK v.toInt u.toInt m) (ho : ((v.toInt = 0 ∧ (u.toInt = 0 ∨ u.toInt = 1 ∨ u.toInt = 2 ∨ u.toInt = 3)) ∨ (v.toInt = 1 ∧ (u.toInt = 0 ∨ u.toInt = 3)) ∨ (v.toInt = 2 ∧ (u.toInt = 1)) ∨ (v.toInt = 3 ∧ (u.toInt = 0 ∨ u.toInt = 2)) ∨ (v.toInt = 4 ∧ (u.toInt = 2)) ∨ (v.toInt = 5 ∧ (u.toInt = 1)) ∨ (v.toInt = 6 ∧ (u.toInt = 1 ∨ u.toInt = 2)) ∨ (v.toInt = 7 ∧ (u.toInt = 3)))) (h17_ : z16_.toInt = 4 * v.toInt) (h19_ : z18_.toInt = z16_.toInt + u.toInt) (e20_ : z18_.toInt = 14) : m - 1 + 1 = m := by have r_v := rngI v; have r_u := rngI u; have r_z16_ := rngI z16_; have r_z18_ := rngI z18_; unfold RK at *; omega
theorem lf_c_X12_body_25 (m : Nat) (v : Int32) (u : Int32) (z16_ : Int32) (z18_ : Int32) (hk : 0 ≤ v.toInt ∧ v.toInt ≤ 7) (ha : 0 ≤ u.toInt ∧ u.toInt ≤ 3) (hr : RK v.toInt u.toInt m) (ho : ((v.toInt = 0 ∧ (u.toInt = 0 ∨ u.toInt = 1 ∨ u.toInt = 2 ∨ u.toInt = 3)) ∨ (v.toInt = 1 ∧ (u.toInt = 0 ∨ u.toInt = 3)) ∨ (v.toInt = 2 ∧ (u.toInt = 1)) ∨ (v.toInt = 3 ∧ (u.toInt = 0 ∨ u.toInt = 2)) ∨ (v.toInt = 4 ∧ (u.toInt = 2)) ∨ (v.toInt = 5 ∧ (u.toInt = 1)) ∨ (v.toInt = 6 ∧ (u.toInt = 1 ∨ u.toInt = 2)) ∨ (v.toInt = 7 ∧ (u.toInt = 3)))) (h17_ : z16_.toInt = 4 * v.toInt) (h19_ : z18_.toInt = z16_.toInt + u.toInt) (e20_ : z18_.toInt = 18) : RK 0 2 (m - 1) := by have r_v := rngI v; have r_u := rngI u; have r_z16_ := rngI z16_; have r_z18_ := rngI z18_; unfold RK at *; omega
theorem lf_c_X12_body_26 (m : Nat) (v : Int32) (u : Int32) (z16_ : Int32) (z18_ : Int32) (hk : 0 ≤ v.toInt ∧ v.toInt ≤ 7) (ha : 0 ≤ u.toInt ∧ u.toInt ≤ 3) (hr : RK v.toInt u.toInt m) (ho : ((v.toInt = 0 ∧ (u.toInt = 0 ∨ u.toInt = 1 ∨ u.toInt = 2 ∨ u.toInt = 3)) ∨ (v.toInt = 1 ∧ (u.toInt = 0 ∨ u.toInt = 3)) ∨ (v.toInt = 2 ∧ (u.toInt = 1)) ∨ (v.toInt = 3 ∧ (u.toInt = 0 ∨ u.toInt = 2)) ∨ (v.toInt = 4 ∧ (u.toInt = 2)) ∨ (v.toInt = 5 ∧ (u.toInt = 1)) ∨ (v.toInt = 6 ∧ (u.toInt = 1 ∨ u.toInt = 2)) ∨ (v.toInt = 7 ∧ (u.toInt = 3)))) (h17_ : z16_.toInt = 4 * v.toInt) (h19_ : z18_.toInt = z16_.toInt + u.toInt) (e20_ : z18_.toInt = 18) : m - 1 + 1 = m := by have r_v := rngI v; have r_u := rngI u; have r_z16_ := rngI z16_; have r_z18_ := rngI z18_; unfold RK at *; omega
theorem lf_c_X12_body_27 (m : Nat) (v : Int32) (u : Int32) (z16_ : Int32) (z18_ : Int32) (hk : 0 ≤ v.toInt ∧ v.toInt ≤ 7) (ha : 0 ≤ u.toInt ∧ u.toInt ≤ 3) (hr : RK v.toInt u.toInt m) (ho : ((v.toInt = 0 ∧ (u.toInt = 0 ∨ u.toInt = 1 ∨ u.toInt = 2 ∨ u.toInt = 3)) ∨ (v.toInt = 1 ∧ (u.toInt = 0 ∨ u.toInt = 3)) ∨ (v.toInt = 2 ∧ (u.toInt = 1)) ∨ (v.toInt = 3 ∧ (u.toInt = 0 ∨ u.toInt = 2)) ∨ (v.toInt = 4 ∧ (u.toInt = 2)) ∨ (v.toInt = 5 ∧ (u.toInt = 1)) ∨ (v.toInt = 6 ∧ (u.toInt = 1 ∨ u.toInt = 2)) ∨ (v.toInt = 7 ∧ (u.toInt = 3)))) (h17_ : z16_.toInt = 4 * v.toInt) (h19_ : z18_.toInt = z16_.toInt + u.toInt) (e20_ : z18_.toInt = 21) : RK 1 1 (m - 1) := by have r_v := rngI v; have r_u := rngI u; have r_z16_ := rngI z16_; have r_z18_ := rngI z18_; unfold RK at *; omega
theorem lf_c_X12_body_28 (m : Nat) (v : Int32) (u : Int32) (z16_ : Int32) (z18_ : Int32) (hk : 0 ≤ v.toInt ∧ v.toInt ≤ 7) (ha : 0 ≤ u.toInt ∧ u.toInt ≤ 3) (hr : RK v.toInt u.toInt m) (ho : ((v.toInt = 0 ∧ (u.toInt = 0 ∨ u.toInt = 1 ∨ u.toInt = 2 ∨ u.toInt = 3)) ∨ (v.toInt = 1 ∧ (u.toInt = 0 ∨ u.toInt = 3)) ∨ (v.toInt = 2 ∧ (u.toInt = 1)) ∨ (v.toInt = 3 ∧ (u.toInt = 0 ∨ u.toInt = 2)) ∨ (v.toInt = 4 ∧ (u.toInt = 2)) ∨ (v.toInt = 5 ∧ (u.toInt = 1)) ∨ (v.toInt = 6 ∧ (u.toInt = 1 ∨ u.toInt = 2)) ∨ (v.toInt = 7 ∧ (u.toInt = 3)))) (h17_ : z16_.toInt = 4 * v.toInt) (h19_ : z18_.toInt = z16_.toInt + u.toInt) (e20_ : z18_.toInt = 21) : m - 1 + 1 = m := by have r_v := rngI v; have r_u := rngI u; have r_z16_ := rngI z16_; have r_z18_ := rngI z18_; unfold RK at *; omega
theorem lf_c_X12_body_29 (m : Nat) (v : Int32) (u : Int32) (z16_ : Int32) (z18_ : Int32) (hk : 0 ≤ v.toInt ∧ v.toInt ≤ 7) (ha : 0 ≤ u.toInt ∧ u.toInt ≤ 3) (hr : RK v.toInt u.toInt m) (ho : ((v.toInt = 0 ∧ (u.toInt = 0 ∨ u.toInt = 1 ∨ u.toInt = 2 ∨ u.toInt = 3)) ∨ (v.toInt = 1 ∧ (u.toInt = 0 ∨ u.toInt = 3)) ∨ (v.toInt = 2 ∧ (u.toInt = 1)) ∨ (v.toInt = 3 ∧ (u.toInt = 0 ∨ u.toInt = 2)) ∨ (v.toInt = 4 ∧ (u.toInt = 2)) ∨ (v.toInt = 5 ∧ (u.toInt = 1)) ∨ (v.toInt = 6 ∧ (u.toInt = 1 ∨ u.toInt = 2)) ∨ (v.toInt = 7 ∧ (u.toInt = 3)))) (h17_ : z16_.toInt = 4 * v.toInt) (h19_ : z18_.toInt = z16_.toInt + u.toInt) (e20_ : z18_.toInt = 25) : RK 3 1 (m - 1) := by have r_v := rngI v; have r_u := rngI u; have r_z16_ := rngI z16_; have r_z18_ := rngI z18_; unfold RK at *; omega
theorem lf_c_X12_body_30 (m : Nat) (v : Int32) (u : Int32) (z16_ : Int32) (z18_ : Int32) (hk : 0 ≤ v.toInt ∧ v.toInt ≤ 7) (ha : 0 ≤ u.toInt ∧ u.toInt ≤ 3) (hr : RK v.toInt u.toInt m) (ho : ((v.toInt = 0 ∧ (u.toInt = 0 ∨ u.toInt = 1 ∨ u.toInt = 2 ∨ u.toInt = 3)) ∨ (v.toInt = 1 ∧ (u.toInt = 0 ∨ u.toInt = 3)) ∨ (v.toInt = 2 ∧ (u.toInt = 1)) ∨ (v.toInt = 3 ∧ (u.toInt = 0 ∨ u.toInt = 2)) ∨ (v.toInt = 4 ∧ (u.toInt = 2)) ∨ (v.toInt = 5 ∧ (u.toInt = 1)) ∨ (v.toInt = 6 ∧ (u.toInt = 1 ∨ u.toInt = 2)) ∨ (v.toInt = 7 ∧ (u.toInt = 3)))) (h17_ : z16_.toInt = 4 * v.toInt) (h19_ : z18_.toInt = z16_.toInt + u.toInt) (e20_ : z18_.toInt = 25) : m - 1 + 1 = m := by have r_v := rngI v; have r_u := rngI u; have r_z16_ := rngI z16_; have r_z18_ := rngI z18_; unfold RK at *; omega
theorem lf_c_X12_body_31 (m : Nat) (v : Int32) (u : Int32) (z16_ : Int32) (z18_ : Int32) (hk : 0 ≤ v.toInt ∧ v.toInt ≤ 7) (ha : 0 ≤ u.toInt ∧ u.toInt ≤ 3) (hr : RK v.toInt u.toInt m) (ho : ((v.toInt = 0 ∧ (u.toInt = 0 ∨ u.toInt = 1 ∨ u.toInt = 2 ∨ u.toInt = 3)) ∨ (v.toInt = 1 ∧ (u.toInt = 0 ∨ u.toInt = 3)) ∨ (v.toInt = 2 ∧ (u.toInt = 1)) ∨ (v.toInt = 3 ∧ (u.toInt = 0 ∨ u.toInt = 2)) ∨ (v.toInt = 4 ∧ (u.toInt = 2)) ∨ (v.toInt = 5 ∧ (u.toInt = 1)) ∨ (v.toInt = 6 ∧ (u.toInt = 1 ∨ u.toInt = 2)) ∨ (v.toInt = 7 ∧ (u.toInt = 3)))) (h17_ : z16_.toInt = 4 * v.toInt) (h19_ : z18_.toInt = z16_.toInt + u.toInt) (e20_ : z18_.toInt = 26) : RK 3 2 (m - 1) := by have r_v := rngI v; have r_u := rngI u; have r_z16_ := rngI z16_; have r_z18_ := rngI z18_; unfold RK at *; omega
theorem lf_c_X12_body_32 (m : Nat) (v : Int32) (u : Int32) (z16_ : Int32) (z18_ : Int32) (hk : 0 ≤ v.toInt ∧ v.toInt ≤ 7) (ha : 0 ≤ u.toInt ∧ u.toInt ≤ 3) (hr : RK v.toInt u.toInt m) (ho : ((v.toInt = 0 ∧ (u.toInt = 0 ∨ u.toInt = 1 ∨ u.toInt = 2 ∨ u.toInt = 3)) ∨ (v.toInt = 1 ∧ (u.toInt = 0 ∨ u.toInt = 3)) ∨ (v.toInt = 2 ∧ (u.toInt = 1)) ∨ (v.toInt = 3 ∧ (u.toInt = 0 ∨ u.toInt = 2)) ∨ (v.toInt = 4 ∧ (u.toInt = 2)) ∨ (v.toInt = 5 ∧ (u.toInt = 1)) ∨ (v.toInt = 6 ∧ (u.toInt = 1 ∨ u.toInt = 2)) ∨ (v.toInt = 7 ∧ (u.toInt = 3)))) (h17_ : z16_.toInt = 4 * v.toInt) (h19_ : z18_.toInt = z16_.toInt + u.toInt) (e20_ : z18_.toInt = 26) : m - 1 + 1 = m := by have r_v := rngI v; have r_u := rngI u; have r_z16_ := rngI z16_; have r_z18_ := rngI z18_; unfold RK at *; omega
theorem lf_c_X12_body_33 (m : Nat) (v : Int32) (u : Int32) (z16_ : Int32) (z18_ : Int32) (hk : 0 ≤ v.toInt ∧ v.toInt ≤ 7) (ha : 0 ≤ u.toInt ∧ u.toInt ≤ 3) (hr : RK v.toInt u.toInt m) (ho : ((v.toInt = 0 ∧ (u.toInt = 0 ∨ u.toInt = 1 ∨ u.toInt = 2 ∨ u.toInt = 3)) ∨ (v.toInt = 1 ∧ (u.toInt = 0 ∨ u.toInt = 3)) ∨ (v.toInt = 2 ∧ (u.toInt = 1)) ∨ (v.toInt = 3 ∧ (u.toInt = 0 ∨ u.toInt = 2)) ∨ (v.toInt = 4 ∧ (u.toInt = 2)) ∨ (v.toInt = 5 ∧ (u.toInt = 1)) ∨ (v.toInt = 6 ∧ (u.toInt = 1 ∨ u.toInt = 2)) ∨ (v.toInt = 7 ∧ (u.toInt = 3)))) (h17_ : z16_.toInt = 4 * v.toInt) (h19_ : z18_.toInt = z16_.toInt + u.toInt) (e20_ : z18_.toInt = 26) : 3 * 0 + 2 ≤ (((m - 1) : Nat) : Int) := by have r_v := rngI v; have r_u := rngI u; have r_z16_ := rngI z16_; have r_z18_ := rngI z18_; unfold RK at *; omega
theorem lf_c_X12_body_35 (m : Nat) (v : Int32) (u : Int32) (z16_ : Int32) (z18_ : Int32) (hk : 0 ≤ v.toInt ∧ v.toInt ≤ 7) (ha : 0 ≤ u.toInt ∧ u.toInt ≤ 3) (hr : RK v.toInt u.toInt m) (ho : ((v.toInt = 0 ∧ (u.toInt = 0 ∨ u.toInt = 1 ∨ u.toInt = 2 ∨ u.toInt = 3)) ∨ (v.toInt = 1 ∧ (u.toInt = 0 ∨ u.toInt = 3)) ∨ (v.toInt = 2 ∧ (u.toInt = 1)) ∨ (v.toInt = 3 ∧ (u.toInt = 0 ∨ u.toInt = 2)) ∨ (v.toInt = 4 ∧ (u.toInt = 2)) ∨ (v.toInt = 5 ∧ (u.toInt = 1)) ∨ (v.toInt = 6 ∧ (u.toInt = 1 ∨ u.toInt = 2)) ∨ (v.toInt = 7 ∧ (u.toInt = 3)))) (h17_ : z16_.toInt = 4 * v.toInt) (h19_ : z18_.toInt = z16_.toInt + u.toInt) (e20_ : z18_.toInt = 31) : RK 1 3 (m - 1) := by have r_v := rngI v; have r_u := rngI u; have r_z16_ := rngI z16_; have r_z18_ := rngI z18_; unfold RK at *; omega
theorem lf_c_X12_body_36 (m : Nat) (v : Int32) (u : Int32) (z16_ : Int32) (z18_ : Int32) (hk : 0 ≤ v.toInt ∧ v.toInt ≤ 7) (ha : 0 ≤ u.toInt ∧ u.toInt ≤ 3) (hr : RK v.toInt u.toInt m) (ho : ((v.toInt = 0 ∧ (u.toInt = 0 ∨ u.toInt = 1 ∨ u.toInt = 2 ∨ u.toInt = 3)) ∨ (v.toInt = 1 ∧ (u.toInt = 0 ∨ u.toInt = 3)) ∨ (v.toInt = 2 ∧ (u.toInt = 1)) ∨ (v.toInt = 3 ∧ (u.toInt = 0 ∨ u.toInt = 2)) ∨ (v.toInt = 4 ∧ (u.toInt = 2)) ∨ (v.toInt = 5 ∧ (u.toInt = 1)) ∨ (v.toInt = 6 ∧ (u.toInt = 1 ∨ u.toInt = 2)) ∨ (v.toInt = 7 ∧ (u.toInt = 3)))) (h17_ : z16_.toInt = 4 * v.toInt) (h19_ : z18_.toInt = z16_.toInt + u.toInt) (e20_ : z18_.toInt = 31) : m - 1 + 1 = m := by have r_v := rngI v; have r_u := rngI u; have r_z16_ := rngI z16_; have r_z18_ := rngI z18_; unfold RK at *; omega
theorem lf_c_X12_body_37 (m : Nat) (v : Int32) (u : Int32) (z16_ : Int32) (z18_ : Int32) (hk : 0 ≤ v.toInt ∧ v.toInt ≤ 7) (ha : 0 ≤ u.toInt ∧ u.toInt ≤ 3) (hr : RK v.toInt u.toInt m) (ho : ((v.toInt = 0 ∧ (u.toInt = 0 ∨ u.toInt = 1 ∨ u.toInt = 2 ∨ u.toInt = 3)) ∨ (v.toInt = 1 ∧ (u.toInt = 0 ∨ u.toInt = 3)) ∨ (v.toInt = 2 ∧ (u.toInt = 1)) ∨ (v.toInt = 3 ∧ (u.toInt = 0 ∨ u.toInt = 2)) ∨ (v.toInt = 4 ∧ (u.toInt = 2)) ∨ (v.toInt = 5 ∧ (u.toInt = 1)) ∨ (v.toInt = 6 ∧ (u.toInt = 1 ∨ u.toInt = 2)) ∨ (v.toInt = 7 ∧ (u.toInt = 3)))) (h17_ : z16_.toInt = 4 * v.toInt) (h19_ : z18_.toInt = z16_.toInt + u.toInt) (e20_ : z18_.toInt = 31) : 3 * 1 + 2 ≤ (((m - 1) : Nat) : Int) := by have r_v := rngI v; have r_u := rngI u; have r_z16_ := rngI z16_; have r_z18_ := rngI z18_; unfold RK at *; omega
set_option maxHeartbeats 4000000 in
set_option maxRecDepth 100000 in
theorem c_X12_body (l : Launch) (G : va_G) (cy : Nat → ClassId) (ad : rf → Nat) (d : Nat) (N : Nat) (m : Nat) (QB : Int32 → Int32 → Int32 → mM → Int32 → mM → Prop) (v : Int32) (u : Int32) (t : Int32) (Mz : mM) (hIz : InvD Mz) (hB : ∀ k : Nat, k + 1 = m → BFC l G cy ad N k QB) (hk : 0 ≤ v.toInt ∧ v.toInt ≤ 7) (ha : 0 ≤ u.toInt ∧ u.toInt ≤ 3) (hr : RK v.toInt u.toInt m) (ho : ((v.toInt = 0 ∧ (u.toInt = 0 ∨ u.toInt = 1 ∨ u.toInt = 2 ∨ u.toInt = 3)) ∨ (v.toInt = 1 ∧ (u.toInt = 0 ∨ u.toInt = 3)) ∨ (v.toInt = 2 ∧ (u.toInt = 1)) ∨ (v.toInt = 3 ∧ (u.toInt = 0 ∨ u.toInt = 2)) ∨ (v.toInt = 4 ∧ (u.toInt = 2)) ∨ (v.toInt = 5 ∧ (u.toInt = 1)) ∨ (v.toInt = 6 ∧ (u.toInt = 1 ∨ u.toInt = 2)) ∨ (v.toInt = 7 ∧ (u.toInt = 3)))) : WP DD l G cy ad yX12_body cX12_body 6 (some .int) ((N + d) + 3) 0 [(0, vR (12, 0, 0)), (1, vI v), (2, vI u), (3, vI t)] [] Mz (fun r M' => InvD M' ∧ FR (S_voD) Mz M' ∧ (True) ∧ SP_X12_body N m QB v u t Mz r M') := by
  have hFz : FR (S_voD) Mz Mz := FR.self
  refine w_aload_n dX12_body_0 rfl 0 rfl ?_
  refine w_getR (c' := (50, 0, 0)) fl_RX12_9 rfl rfl ic_12 dX12_body_1 rfl ?_
  refine w_aload_n dX12_body_4 rfl 0 rfl ?_
  refine w_aload_n dX12_body_5 rfl 0 rfl ?_
  refine w_getI fl_RX12_327 rfl rfl ic_12 dX12_body_6 (fun z1_ e2_ => ?_)
  have h3_ : 0 ≤ z1_.toInt ∧ z1_.toInt ≤ 7 := ofEq (P := fun v => 0 ≤ v.toInt ∧ v.toInt ≤ 7) e2_ (hIz.1 (12, 0, 0) 27)
  have kf4_ : (Mz.1 (12, 0, 0) 27).toInt = z1_.toInt := by rw [e2_]
  refine w_callV (as := [vI z1_]) (rest := [vR (50, 0, 0)]) (c_X12_goer l G cy ad ((N + d) + 2) z1_ Mz hIz h3_) kV_X12_goer pnn_17 (Nat.le_of_ble_eq_true rfl) m_1451 rfl rfl rfl ic_12 rfl rfl (by decide) (Nat.le_of_ble_eq_true rfl) dX12_body_9 (fun r5_ M6_ q7_ => ?_)
  obtain ⟨rfl, h8_, hs9_⟩ := q7_
  refine w_iconst (v := 3) dX12_body_12 (by decide) ?_
  refine w_iaddB dX12_body_13 (rfl : r5_.toInt = r5_.toInt) li_3 (lf_c_X12_habit_0 z1_ r5_ h3_ h8_ ) (fun z10_ h11_ => ?_)
  refine w_iald rfl rfl ic_50 (rfl : z10_.toInt = z10_.toInt) (lf_c_X12_habit_1 z1_ r5_ z10_ h3_ h8_ h11_ ) dX12_body_14 (fun j14_ h15_ z12_ e13_ => ?_)
  refine w_istore (ls' := [(4, vI z12_), (0, vR (12, 0, 0)), (1, vI v), (2, vI u), (3, vI t)]) dX12_body_15 (by decide) rfl ?_
  refine w_iconst (v := 4) dX12_body_17 (by decide) ?_
  refine w_iload_n dX12_body_18 rfl 2 rfl ?_
  refine w_imulB dX12_body_19 li_4 (rfl : v.toInt = v.toInt) (lf_c_X12_body_2 m v u hk ha hr ho ) (fun z16_ h17_ => ?_)
  refine w_iload_n dX12_body_20 rfl 3 rfl ?_
  refine w_iaddB dX12_body_21 (rfl : z16_.toInt = z16_.toInt) (rfl : u.toInt = u.toInt) (lf_c_X12_body_3 m v u z16_ hk ha hr ho h17_ ) (fun z18_ h19_ => ?_)
  rcases (lf_c_X12_body_4 m v u z16_ z18_ hk ha hr ho h17_ h19_ ) with e20_ | e20_ | e20_ | e20_ | e20_ | e20_ | e20_ | e20_ | e20_ | e20_ | e20_ | e20_ | e20_ | e20_
  · refine w_tsIn (tgt := 144) (off := 122) dX12_body_22 e20_ (by decide) (by decide) rfl (by decide) ?_
    refine w_aload_n dX12_body_144 rfl 1 rfl ?_
    refine w_bipush (v := 10) dX12_body_145 (by decide) ?_
    refine w_callVv (as := [vI 10]) (rest := []) (c_X12_began l G cy ad ((N + d) + 2) 10 Mz hIz) kV_X12_began pnn_17 (Nat.le_of_ble_eq_true rfl) m_1818 rfl rfl rfl ic_12 rfl rfl (by decide) (Nat.le_of_ble_eq_true rfl) dX12_body_147 (fun M21_ q22_ => ?_)
    obtain ⟨hI24_, hF25_, h23_, hs27_⟩ := q22_
    have hF26_ := hFz.tr hF25_ (fun c k => (fun h => h.elim (fun h => (Or.inr (Or.inr (Or.inl ⟨h.1, h.2⟩)))) (fun h => h.elim (fun h => (Or.inl ⟨h.1, h.2.1, h.2.2⟩)) (fun h => h.elim))))
    have kf28_ : (M21_.1 (12, 0, 0) 27).toInt = z1_.toInt := by rw [(hF25_ (12, 0, 0) 27 (by simp [S_c_X12_began]))]; exact kf4_
    refine w_iload_n dX12_body_150 rfl 4 rfl ?_
    refine w_iload dX12_body_151 0 rfl ?_
    refine w_iadd dX12_body_153 (fun z29_ h30_ => ?_)
    exact w_iret rfl dX12_body_154 ⟨hI24_, hF26_, trivial, ⟨z1_, e2_, h3_, r5_, hs9_, h8_, z10_, h11_, j14_, h15_, z12_, e13_, z16_, h17_, z18_, h19_, (Or.inl ⟨e20_, M21_, hI24_, hF25_, hs27_, z29_, h30_, rfl, rfl⟩)⟩⟩
  · refine w_tsIn (tgt := 155) (off := 133) dX12_body_22 e20_ (by decide) (by decide) rfl (by decide) ?_
    refine w_aload_n dX12_body_155 rfl 1 rfl ?_
    refine w_bipush (v := 11) dX12_body_156 (by decide) ?_
    refine w_callVv (as := [vI 11]) (rest := []) (c_X12_began l G cy ad ((N + d) + 2) 11 Mz hIz) kV_X12_began pnn_17 (Nat.le_of_ble_eq_true rfl) m_1818 rfl rfl rfl ic_12 rfl rfl (by decide) (Nat.le_of_ble_eq_true rfl) dX12_body_158 (fun M31_ q32_ => ?_)
    obtain ⟨hI34_, hF35_, h33_, hs37_⟩ := q32_
    have hF36_ := hFz.tr hF35_ (fun c k => (fun h => h.elim (fun h => (Or.inr (Or.inr (Or.inl ⟨h.1, h.2⟩)))) (fun h => h.elim (fun h => (Or.inl ⟨h.1, h.2.1, h.2.2⟩)) (fun h => h.elim))))
    have kf38_ : (M31_.1 (12, 0, 0) 27).toInt = z1_.toInt := by rw [(hF35_ (12, 0, 0) 27 (by simp [S_c_X12_began]))]; exact kf4_
    refine w_aload_n dX12_body_161 rfl 1 rfl ?_
    refine w_iconst (v := 0) dX12_body_162 (by decide) ?_
    refine w_iload_n dX12_body_163 rfl 4 rfl ?_
    refine w_callV (as := [vI 0, vI t]) (rest := []) (c_X12_voiced l G cy ad d N (m - 1) QB 0 t M31_ hI34_ (hB (m - 1) (lf_c_X12_body_6 m v u z16_ z18_ hk ha hr ho h17_ h19_ e20_ )) (by first | decide | (unfold vF; omega) | (unfold vRw; omega)) (lf_c_X12_body_5 m v u z16_ z18_ hk ha hr ho h17_ h19_ e20_ )) kV_X12_voiced pnn_17 (Nat.le_of_ble_eq_true rfl) m_1803 rfl rfl rfl ic_12 rfl rfl (by decide) (Nat.le_of_ble_eq_true rfl) dX12_body_164 (fun r39_ M40_ q41_ => ?_)
    obtain ⟨hI43_, hF44_, h42_, hs46_⟩ := q41_
    have hF45_ := hF36_.tr hF44_ (fun c k => (fun h => h.elim (fun h => (Or.inl ⟨h.1, h.2.1, h.2.2⟩)) (fun h => h.elim (fun h => (Or.inr (Or.inl ⟨h.1, h.2.1, h.2.2⟩))) (fun h => h.elim (fun h => (Or.inr (Or.inr (Or.inl ⟨h.1, h.2⟩)))) (fun h => h.elim)))))
    have kf47_ : (M40_.1 (12, 0, 0) 27).toInt = z1_.toInt := by rw [(hF44_ (12, 0, 0) 27 (by simp [S_voD]))]; exact kf38_
    refine w_iconst (v := 2) dX12_body_167 (by decide) ?_
    refine w_imul dX12_body_168 (fun z48_ h49_ => ?_)
    exact w_iret rfl dX12_body_169 ⟨hI43_, hF45_, trivial, ⟨z1_, e2_, h3_, r5_, hs9_, h8_, z10_, h11_, j14_, h15_, z12_, e13_, z16_, h17_, z18_, h19_, (Or.inr (Or.inl ⟨e20_, M31_, hI34_, hF35_, hs37_, M40_, hI43_, hF44_, r39_, hs46_, z48_, h49_, rfl, rfl⟩))⟩⟩
  · refine w_tsIn (tgt := 170) (off := 148) dX12_body_22 e20_ (by decide) (by decide) rfl (by decide) ?_
    refine w_aload_n dX12_body_170 rfl 1 rfl ?_
    refine w_bipush (v := 12) dX12_body_171 (by decide) ?_
    refine w_callVv (as := [vI 12]) (rest := []) (c_X12_began l G cy ad ((N + d) + 2) 12 Mz hIz) kV_X12_began pnn_17 (Nat.le_of_ble_eq_true rfl) m_1818 rfl rfl rfl ic_12 rfl rfl (by decide) (Nat.le_of_ble_eq_true rfl) dX12_body_173 (fun M50_ q51_ => ?_)
    obtain ⟨hI53_, hF54_, h52_, hs56_⟩ := q51_
    have hF55_ := hFz.tr hF54_ (fun c k => (fun h => h.elim (fun h => (Or.inr (Or.inr (Or.inl ⟨h.1, h.2⟩)))) (fun h => h.elim (fun h => (Or.inl ⟨h.1, h.2.1, h.2.2⟩)) (fun h => h.elim))))
    have kf57_ : (M50_.1 (12, 0, 0) 27).toInt = z1_.toInt := by rw [(hF54_ (12, 0, 0) 27 (by simp [S_c_X12_began]))]; exact kf4_
    refine w_aload_n dX12_body_176 rfl 1 rfl ?_
    refine w_iconst (v := 1) dX12_body_177 (by decide) ?_
    refine w_iload_n dX12_body_178 rfl 4 rfl ?_
    refine w_callV (as := [vI 1, vI t]) (rest := []) (c_X12_voiced l G cy ad d N (m - 1) QB 1 t M50_ hI53_ (hB (m - 1) (lf_c_X12_body_8 m v u z16_ z18_ hk ha hr ho h17_ h19_ e20_ )) (by first | decide | (unfold vF; omega) | (unfold vRw; omega)) (lf_c_X12_body_7 m v u z16_ z18_ hk ha hr ho h17_ h19_ e20_ )) kV_X12_voiced pnn_17 (Nat.le_of_ble_eq_true rfl) m_1803 rfl rfl rfl ic_12 rfl rfl (by decide) (Nat.le_of_ble_eq_true rfl) dX12_body_179 (fun r58_ M59_ q60_ => ?_)
    obtain ⟨hI62_, hF63_, h61_, hs65_⟩ := q60_
    have hF64_ := hF55_.tr hF63_ (fun c k => (fun h => h.elim (fun h => (Or.inl ⟨h.1, h.2.1, h.2.2⟩)) (fun h => h.elim (fun h => (Or.inr (Or.inl ⟨h.1, h.2.1, h.2.2⟩))) (fun h => h.elim (fun h => (Or.inr (Or.inr (Or.inl ⟨h.1, h.2⟩)))) (fun h => h.elim)))))
    have kf66_ : (M59_.1 (12, 0, 0) 27).toInt = z1_.toInt := by rw [(hF63_ (12, 0, 0) 27 (by simp [S_voD]))]; exact kf57_
    refine w_aload_n dX12_body_182 rfl 1 rfl ?_
    refine w_getI fl_RX12_327 rfl rfl ic_12 dX12_body_183 (fun z67_ e68_ => ?_)
    have h69_ : 0 ≤ z67_.toInt ∧ z67_.toInt ≤ 7 := ofEq (P := fun v => 0 ≤ v.toInt ∧ v.toInt ≤ 7) e68_ (hI62_.1 (12, 0, 0) 27)
    have h70_ : z67_.toInt = z1_.toInt := by rw [e68_]; exact kf66_
    refine w_isub dX12_body_186 (fun z71_ h72_ => ?_)
    exact w_iret rfl dX12_body_187 ⟨hI62_, hF64_, trivial, ⟨z1_, e2_, h3_, r5_, hs9_, h8_, z10_, h11_, j14_, h15_, z12_, e13_, z16_, h17_, z18_, h19_, (Or.inr (Or.inr (Or.inl ⟨e20_, M50_, hI53_, hF54_, hs56_, M59_, hI62_, hF63_, r58_, hs65_, z67_, e68_, h69_, h70_, z71_, h72_, rfl, rfl⟩)))⟩⟩
  · refine w_tsIn (tgt := 188) (off := 166) dX12_body_22 e20_ (by decide) (by decide) rfl (by decide) ?_
    refine w_aload_n dX12_body_188 rfl 1 rfl ?_
    refine w_bipush (v := 13) dX12_body_189 (by decide) ?_
    refine w_callVv (as := [vI 13]) (rest := []) (c_X12_began l G cy ad ((N + d) + 2) 13 Mz hIz) kV_X12_began pnn_17 (Nat.le_of_ble_eq_true rfl) m_1818 rfl rfl rfl ic_12 rfl rfl (by decide) (Nat.le_of_ble_eq_true rfl) dX12_body_191 (fun M73_ q74_ => ?_)
    obtain ⟨hI76_, hF77_, h75_, hs79_⟩ := q74_
    have hF78_ := hFz.tr hF77_ (fun c k => (fun h => h.elim (fun h => (Or.inr (Or.inr (Or.inl ⟨h.1, h.2⟩)))) (fun h => h.elim (fun h => (Or.inl ⟨h.1, h.2.1, h.2.2⟩)) (fun h => h.elim))))
    have kf80_ : (M73_.1 (12, 0, 0) 27).toInt = z1_.toInt := by rw [(hF77_ (12, 0, 0) 27 (by simp [S_c_X12_began]))]; exact kf4_
    refine w_aload_n dX12_body_194 rfl 1 rfl ?_
    refine w_aload_n dX12_body_195 rfl 1 rfl ?_
    refine w_getI fl_RX12_327 rfl rfl ic_12 dX12_body_196 (fun z81_ e82_ => ?_)
    have h83_ : 0 ≤ z81_.toInt ∧ z81_.toInt ≤ 7 := ofEq (P := fun v => 0 ≤ v.toInt ∧ v.toInt ≤ 7) e82_ (hI76_.1 (12, 0, 0) 27)
    have h84_ : z81_.toInt = z1_.toInt := by rw [e82_]; exact kf80_
    refine w_iconst (v := 3) dX12_body_199 (by decide) ?_
    refine w_icmp_ne (tgt := 207) dX12_body_200 (by decide) (rfl : z81_.toInt = z81_.toInt) li_3 (fun h85_ => ?_) (fun h85_ => ?_)
    · refine w_iconst (v := 0) dX12_body_207 (by decide) ?_
      refine w_putZ DD_nd fl_RX12_336 rfl rfl ic_12 ⟨by decide, by decide⟩ dX12_body_208 (fun M86_ hM87_ => ?_)
      have hI88_ := hI76_.put hM87_ ⟨⟨by decide, by decide⟩, Or.inl (by decide)⟩
      have hF89_ := hF78_.put hM87_ (Or.inr (Or.inl ⟨rfl, rfl, rfl⟩))
      have kf90_ : (M86_.1 (12, 0, 0) 27).toInt = z1_.toInt := by rw [(show M86_.1 (12, 0, 0) 27 = M73_.1 (12, 0, 0) 27 by rw [hM87_, up_ne (by simp)])]; exact kf80_
      have kf91_ : (M86_.1 (12, 0, 0) 28).toInt = 0 := by rw [hM87_, up_same]; decide
      refine w_aload_n dX12_body_211 rfl 1 rfl ?_
      refine w_getI fl_RX12_336 rfl rfl ic_12 dX12_body_212 (fun z92_ e93_ => ?_)
      have h94_ : 0 ≤ z92_.toInt ∧ z92_.toInt ≤ 1 := ofEq (P := fun v => 0 ≤ v.toInt ∧ v.toInt ≤ 1) e93_ (hI88_.1 (12, 0, 0) 28)
      have h95_ : z92_.toInt = 0 := by rw [e93_]; exact kf91_
      refine w_if_eq (tgt := 222) dX12_body_215 (by decide) (rfl : z92_.toInt = z92_.toInt) (fun h96_ => ?_) (fun h9 => (lf_c_X12_kind_4 z92_ h94_ h95_ h9 ).elim)
      refine w_iload_n dX12_body_222 rfl 4 rfl ?_
      refine w_aload_n dX12_body_223 rfl 1 rfl ?_
      refine w_getI fl_RX12_327 rfl rfl ic_12 dX12_body_224 (fun z97_ e98_ => ?_)
      have h99_ : 0 ≤ z97_.toInt ∧ z97_.toInt ≤ 7 := ofEq (P := fun v => 0 ≤ v.toInt ∧ v.toInt ≤ 7) e98_ (hI88_.1 (12, 0, 0) 27)
      have h100_ : z97_.toInt = z1_.toInt := by rw [e98_]; exact kf90_
      refine w_iconst (v := 3) dX12_body_227 (by decide) ?_
      refine w_isubB dX12_body_228 (rfl : z97_.toInt = z97_.toInt) li_3 (lf_c_X12_body_10 z97_ h99_ ) (fun z101_ h102_ => ?_)
      refine w_idiv dX12_body_229 (ne0I (lf_c_X12_body_11 z1_ z81_ z97_ z101_ h84_ h85_ h100_ h102_ )) (fun z103_ h104_ => ?_)
      exact w_iret rfl dX12_body_230 ⟨hI88_, hF89_, trivial, ⟨z1_, e2_, h3_, r5_, hs9_, h8_, z10_, h11_, j14_, h15_, z12_, e13_, z16_, h17_, z18_, h19_, (Or.inr (Or.inr (Or.inr (Or.inl ⟨e20_, M73_, hI76_, hF77_, hs79_, z81_, e82_, h83_, h84_, (Or.inl ⟨h85_, M86_, hM87_, z92_, e93_, h94_, h95_, h96_, z97_, e98_, h99_, h100_, z101_, h102_, z103_, h104_, rfl, rfl⟩)⟩))))⟩⟩
    · refine w_iconst (v := 1) dX12_body_203 (by decide) ?_
      refine w_goto (tgt := 208) dX12_body_204 (by decide) ?_
      refine w_putZ DD_nd fl_RX12_336 rfl rfl ic_12 ⟨by decide, by decide⟩ dX12_body_208 (fun M105_ hM106_ => ?_)
      have hI107_ := hI76_.put hM106_ ⟨⟨by decide, by decide⟩, Or.inl (by decide)⟩
      have hF108_ := hF78_.put hM106_ (Or.inr (Or.inl ⟨rfl, rfl, rfl⟩))
      have kf109_ : (M105_.1 (12, 0, 0) 27).toInt = z1_.toInt := by rw [(show M105_.1 (12, 0, 0) 27 = M73_.1 (12, 0, 0) 27 by rw [hM106_, up_ne (by simp)])]; exact kf80_
      have kf110_ : (M105_.1 (12, 0, 0) 28).toInt = 1 := by rw [hM106_, up_same]; decide
      refine w_aload_n dX12_body_211 rfl 1 rfl ?_
      refine w_getI fl_RX12_336 rfl rfl ic_12 dX12_body_212 (fun z111_ e112_ => ?_)
      have h113_ : 0 ≤ z111_.toInt ∧ z111_.toInt ≤ 1 := ofEq (P := fun v => 0 ≤ v.toInt ∧ v.toInt ≤ 1) e112_ (hI107_.1 (12, 0, 0) 28)
      have h114_ : z111_.toInt = 1 := by rw [e112_]; exact kf110_
      refine w_if_eq (tgt := 222) dX12_body_215 (by decide) (rfl : z111_.toInt = z111_.toInt) (fun h9 => (lf_c_X2_changeAir_0 z111_ h114_ h9 ).elim) (fun h115_ => ?_)
      refine w_iconst (v := 0) dX12_body_218 (by decide) ?_
      refine w_goto (tgt := 230) dX12_body_219 (by decide) ?_
      exact w_iret rfl dX12_body_230 ⟨hI107_, hF108_, trivial, ⟨z1_, e2_, h3_, r5_, hs9_, h8_, z10_, h11_, j14_, h15_, z12_, e13_, z16_, h17_, z18_, h19_, (Or.inr (Or.inr (Or.inr (Or.inl ⟨e20_, M73_, hI76_, hF77_, hs79_, z81_, e82_, h83_, h84_, (Or.inr ⟨h85_, M105_, hM106_, z111_, e112_, h113_, h114_, h115_, rfl, rfl⟩)⟩))))⟩⟩
  · refine w_tsIn (tgt := 231) (off := 209) dX12_body_22 e20_ (by decide) (by decide) rfl (by decide) ?_
    refine w_aload_n dX12_body_231 rfl 1 rfl ?_
    refine w_bipush (v := 20) dX12_body_232 (by decide) ?_
    refine w_callVv (as := [vI 20]) (rest := []) (c_X12_began l G cy ad ((N + d) + 2) 20 Mz hIz) kV_X12_began pnn_17 (Nat.le_of_ble_eq_true rfl) m_1818 rfl rfl rfl ic_12 rfl rfl (by decide) (Nat.le_of_ble_eq_true rfl) dX12_body_234 (fun M116_ q117_ => ?_)
    obtain ⟨hI119_, hF120_, h118_, hs122_⟩ := q117_
    have hF121_ := hFz.tr hF120_ (fun c k => (fun h => h.elim (fun h => (Or.inr (Or.inr (Or.inl ⟨h.1, h.2⟩)))) (fun h => h.elim (fun h => (Or.inl ⟨h.1, h.2.1, h.2.2⟩)) (fun h => h.elim))))
    have kf123_ : (M116_.1 (12, 0, 0) 27).toInt = z1_.toInt := by rw [(hF120_ (12, 0, 0) 27 (by simp [S_c_X12_began]))]; exact kf4_
    refine w_aload_n dX12_body_237 rfl 1 rfl ?_
    refine w_iconst (v := 0) dX12_body_238 (by decide) ?_
    refine w_iconst (v := 0) dX12_body_239 (by decide) ?_
    refine w_iload_n dX12_body_240 rfl 4 rfl ?_
    refine w_callV (as := [vI 0, vI 0, vI t]) (rest := []) (hB (m - 1) (lf_c_X12_body_14 m v u z16_ z18_ hk ha hr ho h17_ h19_ e20_ ) (d + 2) 0 0 t M116_ hI119_ (by first | decide | (unfold vF; omega) | (unfold vRw; omega)) (by first | decide | (unfold vF; omega) | (unfold vRw; omega)) (lf_c_X12_body_13 m v u z16_ z18_ hk ha hr ho h17_ h19_ e20_ )) kV_X12_bodyFrom pnn_17 (Nat.le_of_ble_eq_true rfl) m_1807 rfl rfl rfl ic_12 rfl rfl (by decide) (Nat.le_of_ble_eq_true rfl) dX12_body_241 (fun r124_ M125_ q126_ => ?_)
    obtain ⟨hI128_, hF129_, h127_, hs131_⟩ := q126_
    have hF130_ := hF121_.tr hF129_ (fun c k => (fun h => h.elim (fun h => (Or.inl ⟨h.1, h.2.1, h.2.2⟩)) (fun h => h.elim (fun h => (Or.inr (Or.inl ⟨h.1, h.2.1, h.2.2⟩))) (fun h => h.elim (fun h => (Or.inr (Or.inr (Or.inl ⟨h.1, h.2⟩)))) (fun h => h.elim)))))
    have kf132_ : (M125_.1 (12, 0, 0) 27).toInt = z1_.toInt := by rw [(hF129_ (12, 0, 0) 27 (by simp [S_voD]))]; exact kf123_
    refine w_iconst (v := 3) dX12_body_244 (by decide) ?_
    refine w_imul dX12_body_245 (fun z133_ h134_ => ?_)
    exact w_iret rfl dX12_body_246 ⟨hI128_, hF130_, trivial, ⟨z1_, e2_, h3_, r5_, hs9_, h8_, z10_, h11_, j14_, h15_, z12_, e13_, z16_, h17_, z18_, h19_, (Or.inr (Or.inr (Or.inr (Or.inr (Or.inl ⟨e20_, M116_, hI119_, hF120_, hs122_, M125_, hI128_, hF129_, r124_, hs131_, z133_, h134_, rfl, rfl⟩)))))⟩⟩
  · refine w_tsIn (tgt := 247) (off := 225) dX12_body_22 e20_ (by decide) (by decide) rfl (by decide) ?_
    refine w_aload_n dX12_body_247 rfl 1 rfl ?_
    refine w_bipush (v := 21) dX12_body_248 (by decide) ?_
    refine w_callVv (as := [vI 21]) (rest := []) (c_X12_began l G cy ad ((N + d) + 2) 21 Mz hIz) kV_X12_began pnn_17 (Nat.le_of_ble_eq_true rfl) m_1818 rfl rfl rfl ic_12 rfl rfl (by decide) (Nat.le_of_ble_eq_true rfl) dX12_body_250 (fun M135_ q136_ => ?_)
    obtain ⟨hI138_, hF139_, h137_, hs141_⟩ := q136_
    have hF140_ := hFz.tr hF139_ (fun c k => (fun h => h.elim (fun h => (Or.inr (Or.inr (Or.inl ⟨h.1, h.2⟩)))) (fun h => h.elim (fun h => (Or.inl ⟨h.1, h.2.1, h.2.2⟩)) (fun h => h.elim))))
    have kf142_ : (M135_.1 (12, 0, 0) 27).toInt = z1_.toInt := by rw [(hF139_ (12, 0, 0) 27 (by simp [S_c_X12_began]))]; exact kf4_
    refine w_aload_n dX12_body_253 rfl 1 rfl ?_
    refine w_iconst (v := 0) dX12_body_254 (by decide) ?_
    refine w_iconst (v := 3) dX12_body_255 (by decide) ?_
    refine w_iload_n dX12_body_256 rfl 4 rfl ?_
    refine w_callV (as := [vI 0, vI 3, vI t]) (rest := []) (hB (m - 1) (lf_c_X12_body_16 m v u z16_ z18_ hk ha hr ho h17_ h19_ e20_ ) (d + 2) 0 3 t M135_ hI138_ (by first | decide | (unfold vF; omega) | (unfold vRw; omega)) (by first | decide | (unfold vF; omega) | (unfold vRw; omega)) (lf_c_X12_body_15 m v u z16_ z18_ hk ha hr ho h17_ h19_ e20_ )) kV_X12_bodyFrom pnn_17 (Nat.le_of_ble_eq_true rfl) m_1807 rfl rfl rfl ic_12 rfl rfl (by decide) (Nat.le_of_ble_eq_true rfl) dX12_body_257 (fun r143_ M144_ q145_ => ?_)
    obtain ⟨hI147_, hF148_, h146_, hs150_⟩ := q145_
    have hF149_ := hF140_.tr hF148_ (fun c k => (fun h => h.elim (fun h => (Or.inl ⟨h.1, h.2.1, h.2.2⟩)) (fun h => h.elim (fun h => (Or.inr (Or.inl ⟨h.1, h.2.1, h.2.2⟩))) (fun h => h.elim (fun h => (Or.inr (Or.inr (Or.inl ⟨h.1, h.2⟩)))) (fun h => h.elim)))))
    have kf151_ : (M144_.1 (12, 0, 0) 27).toInt = z1_.toInt := by rw [(hF148_ (12, 0, 0) 27 (by simp [S_voD]))]; exact kf142_
    refine w_istore (ls' := [(5, vI r143_), (4, vI z12_), (0, vR (12, 0, 0)), (1, vI v), (2, vI u), (3, vI t)]) dX12_body_260 (by decide) rfl ?_
    refine w_iload dX12_body_262 0 rfl ?_
    refine w_aload_n dX12_body_264 rfl 2 rfl ?_
    refine w_iconst (v := 2) dX12_body_265 (by decide) ?_
    refine w_iconst (v := 1) dX12_body_266 (by decide) ?_
    refine w_callV (as := [vI 2, vI 1]) (rest := [vI r143_]) (c_X12_voiced l G cy ad d N (m - 1) QB 2 1 M144_ hI147_ (hB (m - 1) (lf_c_X12_body_16 m v u z16_ z18_ hk ha hr ho h17_ h19_ e20_ )) (by first | decide | (unfold vF; omega) | (unfold vRw; omega)) (lf_c_X12_body_17 m v u z16_ z18_ hk ha hr ho h17_ h19_ e20_ )) kV_X12_voiced pnn_17 (Nat.le_of_ble_eq_true rfl) m_1803 rfl rfl rfl ic_12 rfl rfl (by decide) (Nat.le_of_ble_eq_true rfl) dX12_body_267 (fun r152_ M153_ q154_ => ?_)
    obtain ⟨hI156_, hF157_, h155_, hs159_⟩ := q154_
    have hF158_ := hF149_.tr hF157_ (fun c k => (fun h => h.elim (fun h => (Or.inl ⟨h.1, h.2.1, h.2.2⟩)) (fun h => h.elim (fun h => (Or.inr (Or.inl ⟨h.1, h.2.1, h.2.2⟩))) (fun h => h.elim (fun h => (Or.inr (Or.inr (Or.inl ⟨h.1, h.2⟩)))) (fun h => h.elim)))))
    have kf160_ : (M153_.1 (12, 0, 0) 27).toInt = z1_.toInt := by rw [(hF157_ (12, 0, 0) 27 (by simp [S_voD]))]; exact kf151_
    refine w_iadd dX12_body_270 (fun z161_ h162_ => ?_)
    exact w_iret rfl dX12_body_271 ⟨hI156_, hF158_, trivial, ⟨z1_, e2_, h3_, r5_, hs9_, h8_, z10_, h11_, j14_, h15_, z12_, e13_, z16_, h17_, z18_, h19_, (Or.inr (Or.inr (Or.inr (Or.inr (Or.inr (Or.inl ⟨e20_, M135_, hI138_, hF139_, hs141_, M144_, hI147_, hF148_, r143_, hs150_, M153_, hI156_, hF157_, r152_, hs159_, z161_, h162_, rfl, rfl⟩))))))⟩⟩
  · refine w_tsIn (tgt := 272) (off := 250) dX12_body_22 e20_ (by decide) (by decide) rfl (by decide) ?_
    refine w_aload_n dX12_body_272 rfl 1 rfl ?_
    refine w_bipush (v := 30) dX12_body_273 (by decide) ?_
    refine w_callVv (as := [vI 30]) (rest := []) (c_X12_began l G cy ad ((N + d) + 2) 30 Mz hIz) kV_X12_began pnn_17 (Nat.le_of_ble_eq_true rfl) m_1818 rfl rfl rfl ic_12 rfl rfl (by decide) (Nat.le_of_ble_eq_true rfl) dX12_body_275 (fun M163_ q164_ => ?_)
    obtain ⟨hI166_, hF167_, h165_, hs169_⟩ := q164_
    have hF168_ := hFz.tr hF167_ (fun c k => (fun h => h.elim (fun h => (Or.inr (Or.inr (Or.inl ⟨h.1, h.2⟩)))) (fun h => h.elim (fun h => (Or.inl ⟨h.1, h.2.1, h.2.2⟩)) (fun h => h.elim))))
    have kf170_ : (M163_.1 (12, 0, 0) 27).toInt = z1_.toInt := by rw [(hF167_ (12, 0, 0) 27 (by simp [S_c_X12_began]))]; exact kf4_
    refine w_aload_n dX12_body_278 rfl 1 rfl ?_
    refine w_iconst (v := 0) dX12_body_279 (by decide) ?_
    refine w_iconst (v := 1) dX12_body_280 (by decide) ?_
    refine w_iload_n dX12_body_281 rfl 4 rfl ?_
    refine w_callV (as := [vI 0, vI 1, vI t]) (rest := []) (hB (m - 1) (lf_c_X12_body_20 m v u z16_ z18_ hk ha hr ho h17_ h19_ e20_ ) (d + 2) 0 1 t M163_ hI166_ (by first | decide | (unfold vF; omega) | (unfold vRw; omega)) (by first | decide | (unfold vF; omega) | (unfold vRw; omega)) (lf_c_X12_body_19 m v u z16_ z18_ hk ha hr ho h17_ h19_ e20_ )) kV_X12_bodyFrom pnn_17 (Nat.le_of_ble_eq_true rfl) m_1807 rfl rfl rfl ic_12 rfl rfl (by decide) (Nat.le_of_ble_eq_true rfl) dX12_body_282 (fun r171_ M172_ q173_ => ?_)
    obtain ⟨hI175_, hF176_, h174_, hs178_⟩ := q173_
    have hF177_ := hF168_.tr hF176_ (fun c k => (fun h => h.elim (fun h => (Or.inl ⟨h.1, h.2.1, h.2.2⟩)) (fun h => h.elim (fun h => (Or.inr (Or.inl ⟨h.1, h.2.1, h.2.2⟩))) (fun h => h.elim (fun h => (Or.inr (Or.inr (Or.inl ⟨h.1, h.2⟩)))) (fun h => h.elim)))))
    have kf179_ : (M172_.1 (12, 0, 0) 27).toInt = z1_.toInt := by rw [(hF176_ (12, 0, 0) 27 (by simp [S_voD]))]; exact kf170_
    refine w_iload dX12_body_285 0 rfl ?_
    refine w_ixor dX12_body_287 (fun z180_ h181_ => ?_)
    exact w_iret rfl dX12_body_288 ⟨hI175_, hF177_, trivial, ⟨z1_, e2_, h3_, r5_, hs9_, h8_, z10_, h11_, j14_, h15_, z12_, e13_, z16_, h17_, z18_, h19_, (Or.inr (Or.inr (Or.inr (Or.inr (Or.inr (Or.inr (Or.inl ⟨e20_, M163_, hI166_, hF167_, hs169_, M172_, hI175_, hF176_, r171_, hs178_, z180_, h181_, rfl, rfl⟩)))))))⟩⟩
  · refine w_tsIn (tgt := 289) (off := 267) dX12_body_22 e20_ (by decide) (by decide) rfl (by decide) ?_
    refine w_aload_n dX12_body_289 rfl 1 rfl ?_
    refine w_bipush (v := 40) dX12_body_290 (by decide) ?_
    refine w_callVv (as := [vI 40]) (rest := []) (c_X12_began l G cy ad ((N + d) + 2) 40 Mz hIz) kV_X12_began pnn_17 (Nat.le_of_ble_eq_true rfl) m_1818 rfl rfl rfl ic_12 rfl rfl (by decide) (Nat.le_of_ble_eq_true rfl) dX12_body_292 (fun M182_ q183_ => ?_)
    obtain ⟨hI185_, hF186_, h184_, hs188_⟩ := q183_
    have hF187_ := hFz.tr hF186_ (fun c k => (fun h => h.elim (fun h => (Or.inr (Or.inr (Or.inl ⟨h.1, h.2⟩)))) (fun h => h.elim (fun h => (Or.inl ⟨h.1, h.2.1, h.2.2⟩)) (fun h => h.elim))))
    have kf189_ : (M182_.1 (12, 0, 0) 27).toInt = z1_.toInt := by rw [(hF186_ (12, 0, 0) 27 (by simp [S_c_X12_began]))]; exact kf4_
    refine w_aload_n dX12_body_295 rfl 1 rfl ?_
    refine w_iconst (v := 0) dX12_body_296 (by decide) ?_
    refine w_iconst (v := 0) dX12_body_297 (by decide) ?_
    refine w_iload_n dX12_body_298 rfl 4 rfl ?_
    refine w_callV (as := [vI 0, vI 0, vI t]) (rest := []) (hB (m - 1) (lf_c_X12_body_22 m v u z16_ z18_ hk ha hr ho h17_ h19_ e20_ ) (d + 2) 0 0 t M182_ hI185_ (by first | decide | (unfold vF; omega) | (unfold vRw; omega)) (by first | decide | (unfold vF; omega) | (unfold vRw; omega)) (lf_c_X12_body_21 m v u z16_ z18_ hk ha hr ho h17_ h19_ e20_ )) kV_X12_bodyFrom pnn_17 (Nat.le_of_ble_eq_true rfl) m_1807 rfl rfl rfl ic_12 rfl rfl (by decide) (Nat.le_of_ble_eq_true rfl) dX12_body_299 (fun r190_ M191_ q192_ => ?_)
    obtain ⟨hI194_, hF195_, h193_, hs197_⟩ := q192_
    have hF196_ := hF187_.tr hF195_ (fun c k => (fun h => h.elim (fun h => (Or.inl ⟨h.1, h.2.1, h.2.2⟩)) (fun h => h.elim (fun h => (Or.inr (Or.inl ⟨h.1, h.2.1, h.2.2⟩))) (fun h => h.elim (fun h => (Or.inr (Or.inr (Or.inl ⟨h.1, h.2⟩)))) (fun h => h.elim)))))
    have kf198_ : (M191_.1 (12, 0, 0) 27).toInt = z1_.toInt := by rw [(hF195_ (12, 0, 0) 27 (by simp [S_voD]))]; exact kf189_
    refine w_ineg dX12_body_302 (fun z199_ h200_ => ?_)
    exact w_iret rfl dX12_body_303 ⟨hI194_, hF196_, trivial, ⟨z1_, e2_, h3_, r5_, hs9_, h8_, z10_, h11_, j14_, h15_, z12_, e13_, z16_, h17_, z18_, h19_, (Or.inr (Or.inr (Or.inr (Or.inr (Or.inr (Or.inr (Or.inr (Or.inl ⟨e20_, M182_, hI185_, hF186_, hs188_, M191_, hI194_, hF195_, r190_, hs197_, z199_, h200_, rfl, rfl⟩))))))))⟩⟩
  · refine w_tsIn (tgt := 304) (off := 282) dX12_body_22 e20_ (by decide) (by decide) rfl (by decide) ?_
    refine w_aload_n dX12_body_304 rfl 1 rfl ?_
    refine w_bipush (v := 41) dX12_body_305 (by decide) ?_
    refine w_callVv (as := [vI 41]) (rest := []) (c_X12_began l G cy ad ((N + d) + 2) 41 Mz hIz) kV_X12_began pnn_17 (Nat.le_of_ble_eq_true rfl) m_1818 rfl rfl rfl ic_12 rfl rfl (by decide) (Nat.le_of_ble_eq_true rfl) dX12_body_307 (fun M201_ q202_ => ?_)
    obtain ⟨hI204_, hF205_, h203_, hs207_⟩ := q202_
    have hF206_ := hFz.tr hF205_ (fun c k => (fun h => h.elim (fun h => (Or.inr (Or.inr (Or.inl ⟨h.1, h.2⟩)))) (fun h => h.elim (fun h => (Or.inl ⟨h.1, h.2.1, h.2.2⟩)) (fun h => h.elim))))
    have kf208_ : (M201_.1 (12, 0, 0) 27).toInt = z1_.toInt := by rw [(hF205_ (12, 0, 0) 27 (by simp [S_c_X12_began]))]; exact kf4_
    refine w_aload_n dX12_body_310 rfl 1 rfl ?_
    refine w_iconst (v := 0) dX12_body_311 (by decide) ?_
    refine w_iconst (v := 2) dX12_body_312 (by decide) ?_
    refine w_iload_n dX12_body_313 rfl 4 rfl ?_
    refine w_callV (as := [vI 0, vI 2, vI t]) (rest := []) (hB (m - 1) (lf_c_X12_body_24 m v u z16_ z18_ hk ha hr ho h17_ h19_ e20_ ) (d + 2) 0 2 t M201_ hI204_ (by first | decide | (unfold vF; omega) | (unfold vRw; omega)) (by first | decide | (unfold vF; omega) | (unfold vRw; omega)) (lf_c_X12_body_23 m v u z16_ z18_ hk ha hr ho h17_ h19_ e20_ )) kV_X12_bodyFrom pnn_17 (Nat.le_of_ble_eq_true rfl) m_1807 rfl rfl rfl ic_12 rfl rfl (by decide) (Nat.le_of_ble_eq_true rfl) dX12_body_314 (fun r209_ M210_ q211_ => ?_)
    obtain ⟨hI213_, hF214_, h212_, hs216_⟩ := q211_
    have hF215_ := hF206_.tr hF214_ (fun c k => (fun h => h.elim (fun h => (Or.inl ⟨h.1, h.2.1, h.2.2⟩)) (fun h => h.elim (fun h => (Or.inr (Or.inl ⟨h.1, h.2.1, h.2.2⟩))) (fun h => h.elim (fun h => (Or.inr (Or.inr (Or.inl ⟨h.1, h.2⟩)))) (fun h => h.elim)))))
    have kf217_ : (M210_.1 (12, 0, 0) 27).toInt = z1_.toInt := by rw [(hF214_ (12, 0, 0) 27 (by simp [S_voD]))]; exact kf208_
    refine w_iconst (v := 5) dX12_body_317 (by decide) ?_
    refine w_iadd dX12_body_318 (fun z218_ h219_ => ?_)
    exact w_iret rfl dX12_body_319 ⟨hI213_, hF215_, trivial, ⟨z1_, e2_, h3_, r5_, hs9_, h8_, z10_, h11_, j14_, h15_, z12_, e13_, z16_, h17_, z18_, h19_, (Or.inr (Or.inr (Or.inr (Or.inr (Or.inr (Or.inr (Or.inr (Or.inr (Or.inl ⟨e20_, M201_, hI204_, hF205_, hs207_, M210_, hI213_, hF214_, r209_, hs216_, z218_, h219_, rfl, rfl⟩)))))))))⟩⟩
  · refine w_tsIn (tgt := 320) (off := 298) dX12_body_22 e20_ (by decide) (by decide) rfl (by decide) ?_
    refine w_aload_n dX12_body_320 rfl 1 rfl ?_
    refine w_bipush (v := 50) dX12_body_321 (by decide) ?_
    refine w_callVv (as := [vI 50]) (rest := []) (c_X12_began l G cy ad ((N + d) + 2) 50 Mz hIz) kV_X12_began pnn_17 (Nat.le_of_ble_eq_true rfl) m_1818 rfl rfl rfl ic_12 rfl rfl (by decide) (Nat.le_of_ble_eq_true rfl) dX12_body_323 (fun M220_ q221_ => ?_)
    obtain ⟨hI223_, hF224_, h222_, hs226_⟩ := q221_
    have hF225_ := hFz.tr hF224_ (fun c k => (fun h => h.elim (fun h => (Or.inr (Or.inr (Or.inl ⟨h.1, h.2⟩)))) (fun h => h.elim (fun h => (Or.inl ⟨h.1, h.2.1, h.2.2⟩)) (fun h => h.elim))))
    have kf227_ : (M220_.1 (12, 0, 0) 27).toInt = z1_.toInt := by rw [(hF224_ (12, 0, 0) 27 (by simp [S_c_X12_began]))]; exact kf4_
    refine w_aload_n dX12_body_326 rfl 1 rfl ?_
    refine w_iconst (v := 0) dX12_body_327 (by decide) ?_
    refine w_iconst (v := 2) dX12_body_328 (by decide) ?_
    refine w_iload_n dX12_body_329 rfl 4 rfl ?_
    refine w_iconst (v := 1) dX12_body_330 (by decide) ?_
    refine w_isub dX12_body_331 (fun z228_ h229_ => ?_)
    refine w_callV (as := [vI 0, vI 2, vI z228_]) (rest := []) (hB (m - 1) (lf_c_X12_body_26 m v u z16_ z18_ hk ha hr ho h17_ h19_ e20_ ) (d + 2) 0 2 z228_ M220_ hI223_ (by first | decide | (unfold vF; omega) | (unfold vRw; omega)) (by first | decide | (unfold vF; omega) | (unfold vRw; omega)) (lf_c_X12_body_25 m v u z16_ z18_ hk ha hr ho h17_ h19_ e20_ )) kV_X12_bodyFrom pnn_17 (Nat.le_of_ble_eq_true rfl) m_1807 rfl rfl rfl ic_12 rfl rfl (by decide) (Nat.le_of_ble_eq_true rfl) dX12_body_332 (fun r230_ M231_ q232_ => ?_)
    obtain ⟨hI234_, hF235_, h233_, hs237_⟩ := q232_
    have hF236_ := hF225_.tr hF235_ (fun c k => (fun h => h.elim (fun h => (Or.inl ⟨h.1, h.2.1, h.2.2⟩)) (fun h => h.elim (fun h => (Or.inr (Or.inl ⟨h.1, h.2.1, h.2.2⟩))) (fun h => h.elim (fun h => (Or.inr (Or.inr (Or.inl ⟨h.1, h.2⟩)))) (fun h => h.elim)))))
    have kf238_ : (M231_.1 (12, 0, 0) 27).toInt = z1_.toInt := by rw [(hF235_ (12, 0, 0) 27 (by simp [S_voD]))]; exact kf227_
    exact w_iret rfl dX12_body_335 ⟨hI234_, hF236_, trivial, ⟨z1_, e2_, h3_, r5_, hs9_, h8_, z10_, h11_, j14_, h15_, z12_, e13_, z16_, h17_, z18_, h19_, (Or.inr (Or.inr (Or.inr (Or.inr (Or.inr (Or.inr (Or.inr (Or.inr (Or.inr (Or.inl ⟨e20_, M220_, hI223_, hF224_, hs226_, z228_, h229_, M231_, hI234_, hF235_, r230_, hs237_, rfl, rfl⟩))))))))))⟩⟩
  · refine w_tsIn (tgt := 336) (off := 314) dX12_body_22 e20_ (by decide) (by decide) rfl (by decide) ?_
    refine w_aload_n dX12_body_336 rfl 1 rfl ?_
    refine w_bipush (v := 60) dX12_body_337 (by decide) ?_
    refine w_callVv (as := [vI 60]) (rest := []) (c_X12_began l G cy ad ((N + d) + 2) 60 Mz hIz) kV_X12_began pnn_17 (Nat.le_of_ble_eq_true rfl) m_1818 rfl rfl rfl ic_12 rfl rfl (by decide) (Nat.le_of_ble_eq_true rfl) dX12_body_339 (fun M239_ q240_ => ?_)
    obtain ⟨hI242_, hF243_, h241_, hs245_⟩ := q240_
    have hF244_ := hFz.tr hF243_ (fun c k => (fun h => h.elim (fun h => (Or.inr (Or.inr (Or.inl ⟨h.1, h.2⟩)))) (fun h => h.elim (fun h => (Or.inl ⟨h.1, h.2.1, h.2.2⟩)) (fun h => h.elim))))
    have kf246_ : (M239_.1 (12, 0, 0) 27).toInt = z1_.toInt := by rw [(hF243_ (12, 0, 0) 27 (by simp [S_c_X12_began]))]; exact kf4_
    refine w_aload_n dX12_body_342 rfl 1 rfl ?_
    refine w_iconst (v := 1) dX12_body_343 (by decide) ?_
    refine w_iconst (v := 1) dX12_body_344 (by decide) ?_
    refine w_iload_n dX12_body_345 rfl 4 rfl ?_
    refine w_iconst (v := 2) dX12_body_346 (by decide) ?_
    refine w_iadd dX12_body_347 (fun z247_ h248_ => ?_)
    refine w_callV (as := [vI 1, vI 1, vI z247_]) (rest := []) (hB (m - 1) (lf_c_X12_body_28 m v u z16_ z18_ hk ha hr ho h17_ h19_ e20_ ) (d + 2) 1 1 z247_ M239_ hI242_ (by first | decide | (unfold vF; omega) | (unfold vRw; omega)) (by first | decide | (unfold vF; omega) | (unfold vRw; omega)) (lf_c_X12_body_27 m v u z16_ z18_ hk ha hr ho h17_ h19_ e20_ )) kV_X12_bodyFrom pnn_17 (Nat.le_of_ble_eq_true rfl) m_1807 rfl rfl rfl ic_12 rfl rfl (by decide) (Nat.le_of_ble_eq_true rfl) dX12_body_348 (fun r249_ M250_ q251_ => ?_)
    obtain ⟨hI253_, hF254_, h252_, hs256_⟩ := q251_
    have hF255_ := hF244_.tr hF254_ (fun c k => (fun h => h.elim (fun h => (Or.inl ⟨h.1, h.2.1, h.2.2⟩)) (fun h => h.elim (fun h => (Or.inr (Or.inl ⟨h.1, h.2.1, h.2.2⟩))) (fun h => h.elim (fun h => (Or.inr (Or.inr (Or.inl ⟨h.1, h.2⟩)))) (fun h => h.elim)))))
    have kf257_ : (M250_.1 (12, 0, 0) 27).toInt = z1_.toInt := by rw [(hF254_ (12, 0, 0) 27 (by simp [S_voD]))]; exact kf246_
    exact w_iret rfl dX12_body_351 ⟨hI253_, hF255_, trivial, ⟨z1_, e2_, h3_, r5_, hs9_, h8_, z10_, h11_, j14_, h15_, z12_, e13_, z16_, h17_, z18_, h19_, (Or.inr (Or.inr (Or.inr (Or.inr (Or.inr (Or.inr (Or.inr (Or.inr (Or.inr (Or.inr (Or.inl ⟨e20_, M239_, hI242_, hF243_, hs245_, z247_, h248_, M250_, hI253_, hF254_, r249_, hs256_, rfl, rfl⟩)))))))))))⟩⟩
  · refine w_tsIn (tgt := 352) (off := 330) dX12_body_22 e20_ (by decide) (by decide) rfl (by decide) ?_
    refine w_aload_n dX12_body_352 rfl 1 rfl ?_
    refine w_bipush (v := 70) dX12_body_353 (by decide) ?_
    refine w_callVv (as := [vI 70]) (rest := []) (c_X12_began l G cy ad ((N + d) + 2) 70 Mz hIz) kV_X12_began pnn_17 (Nat.le_of_ble_eq_true rfl) m_1818 rfl rfl rfl ic_12 rfl rfl (by decide) (Nat.le_of_ble_eq_true rfl) dX12_body_355 (fun M258_ q259_ => ?_)
    obtain ⟨hI261_, hF262_, h260_, hs264_⟩ := q259_
    have hF263_ := hFz.tr hF262_ (fun c k => (fun h => h.elim (fun h => (Or.inr (Or.inr (Or.inl ⟨h.1, h.2⟩)))) (fun h => h.elim (fun h => (Or.inl ⟨h.1, h.2.1, h.2.2⟩)) (fun h => h.elim))))
    have kf265_ : (M258_.1 (12, 0, 0) 27).toInt = z1_.toInt := by rw [(hF262_ (12, 0, 0) 27 (by simp [S_c_X12_began]))]; exact kf4_
    refine w_aload_n dX12_body_358 rfl 1 rfl ?_
    refine w_iconst (v := 3) dX12_body_359 (by decide) ?_
    refine w_iconst (v := 1) dX12_body_360 (by decide) ?_
    refine w_iload_n dX12_body_361 rfl 4 rfl ?_
    refine w_callV (as := [vI 3, vI 1, vI t]) (rest := []) (hB (m - 1) (lf_c_X12_body_30 m v u z16_ z18_ hk ha hr ho h17_ h19_ e20_ ) (d + 2) 3 1 t M258_ hI261_ (by first | decide | (unfold vF; omega) | (unfold vRw; omega)) (by first | decide | (unfold vF; omega) | (unfold vRw; omega)) (lf_c_X12_body_29 m v u z16_ z18_ hk ha hr ho h17_ h19_ e20_ )) kV_X12_bodyFrom pnn_17 (Nat.le_of_ble_eq_true rfl) m_1807 rfl rfl rfl ic_12 rfl rfl (by decide) (Nat.le_of_ble_eq_true rfl) dX12_body_362 (fun r266_ M267_ q268_ => ?_)
    obtain ⟨hI270_, hF271_, h269_, hs273_⟩ := q268_
    have hF272_ := hF263_.tr hF271_ (fun c k => (fun h => h.elim (fun h => (Or.inl ⟨h.1, h.2.1, h.2.2⟩)) (fun h => h.elim (fun h => (Or.inr (Or.inl ⟨h.1, h.2.1, h.2.2⟩))) (fun h => h.elim (fun h => (Or.inr (Or.inr (Or.inl ⟨h.1, h.2⟩)))) (fun h => h.elim)))))
    have kf274_ : (M267_.1 (12, 0, 0) 27).toInt = z1_.toInt := by rw [(hF271_ (12, 0, 0) 27 (by simp [S_voD]))]; exact kf265_
    refine w_iconst (v := 2) dX12_body_365 (by decide) ?_
    refine w_idiv dX12_body_366 (by decide) (fun z275_ h276_ => ?_)
    exact w_iret rfl dX12_body_367 ⟨hI270_, hF272_, trivial, ⟨z1_, e2_, h3_, r5_, hs9_, h8_, z10_, h11_, j14_, h15_, z12_, e13_, z16_, h17_, z18_, h19_, (Or.inr (Or.inr (Or.inr (Or.inr (Or.inr (Or.inr (Or.inr (Or.inr (Or.inr (Or.inr (Or.inr (Or.inl ⟨e20_, M258_, hI261_, hF262_, hs264_, M267_, hI270_, hF271_, r266_, hs273_, z275_, h276_, rfl, rfl⟩))))))))))))⟩⟩
  · refine w_tsIn (tgt := 368) (off := 346) dX12_body_22 e20_ (by decide) (by decide) rfl (by decide) ?_
    refine w_aload_n dX12_body_368 rfl 1 rfl ?_
    refine w_bipush (v := 71) dX12_body_369 (by decide) ?_
    refine w_callVv (as := [vI 71]) (rest := []) (c_X12_began l G cy ad ((N + d) + 2) 71 Mz hIz) kV_X12_began pnn_17 (Nat.le_of_ble_eq_true rfl) m_1818 rfl rfl rfl ic_12 rfl rfl (by decide) (Nat.le_of_ble_eq_true rfl) dX12_body_371 (fun M277_ q278_ => ?_)
    obtain ⟨hI280_, hF281_, h279_, hs283_⟩ := q278_
    have hF282_ := hFz.tr hF281_ (fun c k => (fun h => h.elim (fun h => (Or.inr (Or.inr (Or.inl ⟨h.1, h.2⟩)))) (fun h => h.elim (fun h => (Or.inl ⟨h.1, h.2.1, h.2.2⟩)) (fun h => h.elim))))
    have kf284_ : (M277_.1 (12, 0, 0) 27).toInt = z1_.toInt := by rw [(hF281_ (12, 0, 0) 27 (by simp [S_c_X12_began]))]; exact kf4_
    refine w_aload_n dX12_body_374 rfl 1 rfl ?_
    refine w_iconst (v := 3) dX12_body_375 (by decide) ?_
    refine w_iconst (v := 2) dX12_body_376 (by decide) ?_
    refine w_iload_n dX12_body_377 rfl 4 rfl ?_
    refine w_callV (as := [vI 3, vI 2, vI t]) (rest := []) (hB (m - 1) (lf_c_X12_body_32 m v u z16_ z18_ hk ha hr ho h17_ h19_ e20_ ) (d + 2) 3 2 t M277_ hI280_ (by first | decide | (unfold vF; omega) | (unfold vRw; omega)) (by first | decide | (unfold vF; omega) | (unfold vRw; omega)) (lf_c_X12_body_31 m v u z16_ z18_ hk ha hr ho h17_ h19_ e20_ )) kV_X12_bodyFrom pnn_17 (Nat.le_of_ble_eq_true rfl) m_1807 rfl rfl rfl ic_12 rfl rfl (by decide) (Nat.le_of_ble_eq_true rfl) dX12_body_378 (fun r285_ M286_ q287_ => ?_)
    obtain ⟨hI289_, hF290_, h288_, hs292_⟩ := q287_
    have hF291_ := hF282_.tr hF290_ (fun c k => (fun h => h.elim (fun h => (Or.inl ⟨h.1, h.2.1, h.2.2⟩)) (fun h => h.elim (fun h => (Or.inr (Or.inl ⟨h.1, h.2.1, h.2.2⟩))) (fun h => h.elim (fun h => (Or.inr (Or.inr (Or.inl ⟨h.1, h.2⟩)))) (fun h => h.elim)))))
    have kf293_ : (M286_.1 (12, 0, 0) 27).toInt = z1_.toInt := by rw [(hF290_ (12, 0, 0) 27 (by simp [S_voD]))]; exact kf284_
    refine w_istore (ls' := [(5, vI r285_), (4, vI z12_), (0, vR (12, 0, 0)), (1, vI v), (2, vI u), (3, vI t)]) dX12_body_381 (by decide) rfl ?_
    refine w_iload dX12_body_383 0 rfl ?_
    refine w_aload_n dX12_body_385 rfl 2 rfl ?_
    refine w_iconst (v := 0) dX12_body_386 (by decide) ?_
    refine w_iconst (v := 2) dX12_body_387 (by decide) ?_
    refine w_callV (as := [vI 0, vI 2]) (rest := [vI r285_]) (c_X12_voiced l G cy ad d N (m - 1) QB 0 2 M286_ hI289_ (hB (m - 1) (lf_c_X12_body_32 m v u z16_ z18_ hk ha hr ho h17_ h19_ e20_ )) (by first | decide | (unfold vF; omega) | (unfold vRw; omega)) (lf_c_X12_body_33 m v u z16_ z18_ hk ha hr ho h17_ h19_ e20_ )) kV_X12_voiced pnn_17 (Nat.le_of_ble_eq_true rfl) m_1803 rfl rfl rfl ic_12 rfl rfl (by decide) (Nat.le_of_ble_eq_true rfl) dX12_body_388 (fun r294_ M295_ q296_ => ?_)
    obtain ⟨hI298_, hF299_, h297_, hs301_⟩ := q296_
    have hF300_ := hF291_.tr hF299_ (fun c k => (fun h => h.elim (fun h => (Or.inl ⟨h.1, h.2.1, h.2.2⟩)) (fun h => h.elim (fun h => (Or.inr (Or.inl ⟨h.1, h.2.1, h.2.2⟩))) (fun h => h.elim (fun h => (Or.inr (Or.inr (Or.inl ⟨h.1, h.2⟩)))) (fun h => h.elim)))))
    have kf302_ : (M295_.1 (12, 0, 0) 27).toInt = z1_.toInt := by rw [(hF299_ (12, 0, 0) 27 (by simp [S_voD]))]; exact kf293_
    refine w_isub dX12_body_391 (fun z303_ h304_ => ?_)
    exact w_iret rfl dX12_body_392 ⟨hI298_, hF300_, trivial, ⟨z1_, e2_, h3_, r5_, hs9_, h8_, z10_, h11_, j14_, h15_, z12_, e13_, z16_, h17_, z18_, h19_, (Or.inr (Or.inr (Or.inr (Or.inr (Or.inr (Or.inr (Or.inr (Or.inr (Or.inr (Or.inr (Or.inr (Or.inr (Or.inl ⟨e20_, M277_, hI280_, hF281_, hs283_, M286_, hI289_, hF290_, r285_, hs292_, M295_, hI298_, hF299_, r294_, hs301_, z303_, h304_, rfl, rfl⟩)))))))))))))⟩⟩
  · refine w_tsOut (tgt := 393) dX12_body_22 e20_ (by decide) (by decide) ?_
    refine w_aload_n dX12_body_393 rfl 1 rfl ?_
    refine w_bipush (v := 80) dX12_body_394 (by decide) ?_
    refine w_callVv (as := [vI 80]) (rest := []) (c_X12_began l G cy ad ((N + d) + 2) 80 Mz hIz) kV_X12_began pnn_17 (Nat.le_of_ble_eq_true rfl) m_1818 rfl rfl rfl ic_12 rfl rfl (by decide) (Nat.le_of_ble_eq_true rfl) dX12_body_396 (fun M305_ q306_ => ?_)
    obtain ⟨hI308_, hF309_, h307_, hs311_⟩ := q306_
    have hF310_ := hFz.tr hF309_ (fun c k => (fun h => h.elim (fun h => (Or.inr (Or.inr (Or.inl ⟨h.1, h.2⟩)))) (fun h => h.elim (fun h => (Or.inl ⟨h.1, h.2.1, h.2.2⟩)) (fun h => h.elim))))
    have kf312_ : (M305_.1 (12, 0, 0) 27).toInt = z1_.toInt := by rw [(hF309_ (12, 0, 0) 27 (by simp [S_c_X12_began]))]; exact kf4_
    refine w_aload_n dX12_body_399 rfl 1 rfl ?_
    refine w_iconst (v := 1) dX12_body_400 (by decide) ?_
    refine w_iconst (v := 3) dX12_body_401 (by decide) ?_
    refine w_iload_n dX12_body_402 rfl 4 rfl ?_
    refine w_callV (as := [vI 1, vI 3, vI t]) (rest := []) (hB (m - 1) (lf_c_X12_body_36 m v u z16_ z18_ hk ha hr ho h17_ h19_ e20_ ) (d + 2) 1 3 t M305_ hI308_ (by first | decide | (unfold vF; omega) | (unfold vRw; omega)) (by first | decide | (unfold vF; omega) | (unfold vRw; omega)) (lf_c_X12_body_35 m v u z16_ z18_ hk ha hr ho h17_ h19_ e20_ )) kV_X12_bodyFrom pnn_17 (Nat.le_of_ble_eq_true rfl) m_1807 rfl rfl rfl ic_12 rfl rfl (by decide) (Nat.le_of_ble_eq_true rfl) dX12_body_403 (fun r313_ M314_ q315_ => ?_)
    obtain ⟨hI317_, hF318_, h316_, hs320_⟩ := q315_
    have hF319_ := hF310_.tr hF318_ (fun c k => (fun h => h.elim (fun h => (Or.inl ⟨h.1, h.2.1, h.2.2⟩)) (fun h => h.elim (fun h => (Or.inr (Or.inl ⟨h.1, h.2.1, h.2.2⟩))) (fun h => h.elim (fun h => (Or.inr (Or.inr (Or.inl ⟨h.1, h.2⟩)))) (fun h => h.elim)))))
    have kf321_ : (M314_.1 (12, 0, 0) 27).toInt = z1_.toInt := by rw [(hF318_ (12, 0, 0) 27 (by simp [S_voD]))]; exact kf312_
    refine w_istore (ls' := [(5, vI r313_), (4, vI z12_), (0, vR (12, 0, 0)), (1, vI v), (2, vI u), (3, vI t)]) dX12_body_406 (by decide) rfl ?_
    refine w_iload dX12_body_408 0 rfl ?_
    refine w_aload_n dX12_body_410 rfl 2 rfl ?_
    refine w_iconst (v := 1) dX12_body_411 (by decide) ?_
    refine w_iload_n dX12_body_412 rfl 5 rfl ?_
    refine w_callV (as := [vI 1, vI t]) (rest := [vI r313_]) (c_X12_voiced l G cy ad d N (m - 1) QB 1 t M314_ hI317_ (hB (m - 1) (lf_c_X12_body_36 m v u z16_ z18_ hk ha hr ho h17_ h19_ e20_ )) (by first | decide | (unfold vF; omega) | (unfold vRw; omega)) (lf_c_X12_body_37 m v u z16_ z18_ hk ha hr ho h17_ h19_ e20_ )) kV_X12_voiced pnn_17 (Nat.le_of_ble_eq_true rfl) m_1803 rfl rfl rfl ic_12 rfl rfl (by decide) (Nat.le_of_ble_eq_true rfl) dX12_body_413 (fun r322_ M323_ q324_ => ?_)
    obtain ⟨hI326_, hF327_, h325_, hs329_⟩ := q324_
    have hF328_ := hF319_.tr hF327_ (fun c k => (fun h => h.elim (fun h => (Or.inl ⟨h.1, h.2.1, h.2.2⟩)) (fun h => h.elim (fun h => (Or.inr (Or.inl ⟨h.1, h.2.1, h.2.2⟩))) (fun h => h.elim (fun h => (Or.inr (Or.inr (Or.inl ⟨h.1, h.2⟩)))) (fun h => h.elim)))))
    have kf330_ : (M323_.1 (12, 0, 0) 27).toInt = z1_.toInt := by rw [(hF327_ (12, 0, 0) 27 (by simp [S_voD]))]; exact kf321_
    refine w_isub dX12_body_416 (fun z331_ h332_ => ?_)
    exact w_iret rfl dX12_body_417 ⟨hI326_, hF328_, trivial, ⟨z1_, e2_, h3_, r5_, hs9_, h8_, z10_, h11_, j14_, h15_, z12_, e13_, z16_, h17_, z18_, h19_, (Or.inr (Or.inr (Or.inr (Or.inr (Or.inr (Or.inr (Or.inr (Or.inr (Or.inr (Or.inr (Or.inr (Or.inr (Or.inr ⟨e20_, M305_, hI308_, hF309_, hs311_, M314_, hI317_, hF318_, r313_, hs320_, M323_, hI326_, hF327_, r322_, hs329_, z331_, h332_, rfl, rfl⟩)))))))))))))⟩⟩
def SPVd : Nat → (Int32 → Int32 → Int32 → mM → Int32 → mM → Prop)
  | 0 => SP_X12_bodyFrom (0 + 3) 0 (SP_X12_body 0 0 (fun _ _ _ _ _ _ => False))
  | m + 1 => SP_X12_bodyFrom (4 * m + 4 + 3) (m + 1) (SP_X12_body (4 * m + 4) (m + 1) (SPVd m))
theorem vo_rec (l : Launch) (G : va_G) (cy : Nat → ClassId) (ad : rf → Nat) : ∀ m, BFC l G cy ad (4 * m + 4) m (SPVd m) := by
  have bf : ∀ N m QO, BODC l G cy ad N m QO → BFC l G cy ad (N + 1) m (SP_X12_bodyFrom N m QO) := fun N m QO hO d v u t Mz hIz hk ha hr => w_dep (by omega) (c_X12_bodyFrom l G cy ad d N m QO v u t Mz hIz hO hk ha hr)
  have bo : ∀ N m QB, (∀ k : Nat, k + 1 = m → BFC l G cy ad N k QB) → BODC l G cy ad (N + 3) m (SP_X12_body N m QB) := fun N m QB hB d v u t Mz hIz hk ha hr ho => w_dep (by omega) (c_X12_body l G cy ad d N m QB v u t Mz hIz hB hk ha hr ho)
  intro m
  induction m with
  | zero =>
    have h := bf _ _ _ (bo 0 0 (fun _ _ _ _ _ _ => False) (fun k hk => absurd hk (by omega)))
    exact (show 0 + 3 + 1 = 4 * 0 + 4 by omega) ▸ h
  | succ m ih =>
    have h := bf _ _ _ (bo (4 * m + 4) (m + 1) (SPVd m) (fun k hk => by
      obtain rfl : k = m := by omega
      exact ih))
    exact (show 4 * m + 4 + 3 + 1 = 4 * (m + 1) + 4 by omega) ▸ h
def SP_X12_voicedA (v u : Int32) (Mz : mM) (r_ : Int32) (M_ : mM) : Prop := SP_X12_voiced 48 11 (SPVd 11) v u Mz r_ M_
theorem c_X12_voicedA (l : Launch) (G : va_G) (cy : Nat → ClassId) (ad : rf → Nat) (d : Nat) (v u : Int32) (Mz : mM) (hIz : InvD Mz) (ha : 0 ≤ v.toInt ∧ v.toInt ≤ 3) : WP DD l G cy ad yX12_voiced cX12_voiced 3 (some .int) (d + 50) 0 [(0, vR (12, 0, 0)), (1, vI v), (2, vI u)] [] Mz (fun r M' => InvD M' ∧ FR (S_voD) Mz M' ∧ (True) ∧ SP_X12_voicedA v u Mz r M') := w_dep (by omega) (c_X12_voiced l G cy ad d (48) 11 (SPVd 11) v u Mz hIz ((show 4 * 11 + 4 = 48 by omega) ▸ vo_rec l G cy ad 11) ha (by omega))
end
section
/-! words of the tables that are used, by their places; decode rows; fields -/
theorem li_m1000006 : ((-1000006) : Int32).toInt = -1000006 := by decide
set_option maxRecDepth 20000 in
theorem m_1822 : Cond.constant RX12 348 (-1000006) ∈ BASE := bmT8 64 rfl rfl
theorem ch_cX12_voice_0 : (cX12_voice.data.toList.drop 0).take 36 = [42, 27, 5, 182, 0, 116, 153, 0, 12, 28, 3, 6, 184, 0, 85, 154, 0, 10, 42, 18, 103, 182, 0, 104, 172, 42, 3, 181, 1, 68, 42, 27, 181, 1, 71, 42] := by decide +kernel
theorem dX12_voice_0 : decode cX12_voice 0 = .ok (.aload_n 0, 1) := do_42 (rdb (p := 0) (i := 0) ch_cX12_voice_0 rfl)
theorem dX12_voice_1 : decode cX12_voice 1 = .ok (.iload_n 1, 1) := do_27 (rdb (p := 0) (i := 1) ch_cX12_voice_0 rfl)
theorem dX12_voice_2 : decode cX12_voice 2 = .ok (.iconst 2, 1) := do_5 (rdb (p := 0) (i := 2) ch_cX12_voice_0 rfl)
theorem dX12_voice_3 : decode cX12_voice 3 = .ok (.invokevirtual 116, 3) := do_182 (rdb (p := 0) (i := 3) ch_cX12_voice_0 rfl) (rdb (p := 0) (i := 4) ch_cX12_voice_0 rfl) (rdb (p := 0) (i := 5) ch_cX12_voice_0 rfl) rfl
theorem dX12_voice_6 : decode cX12_voice 6 = .ok (.ifCond .eq 12, 3) := do_153 (rdb (p := 0) (i := 6) ch_cX12_voice_0 rfl) (rdb (p := 0) (i := 7) ch_cX12_voice_0 rfl) (rdb (p := 0) (i := 8) ch_cX12_voice_0 rfl) (by decide +kernel)
theorem dX12_voice_9 : decode cX12_voice 9 = .ok (.iload_n 2, 1) := do_28 (rdb (p := 0) (i := 9) ch_cX12_voice_0 rfl)
theorem dX12_voice_10 : decode cX12_voice 10 = .ok (.iconst 0, 1) := do_3 (rdb (p := 0) (i := 10) ch_cX12_voice_0 rfl)
theorem dX12_voice_11 : decode cX12_voice 11 = .ok (.iconst 3, 1) := do_6 (rdb (p := 0) (i := 11) ch_cX12_voice_0 rfl)
theorem dX12_voice_12 : decode cX12_voice 12 = .ok (.invokestatic 85, 3) := do_184 (rdb (p := 0) (i := 12) ch_cX12_voice_0 rfl) (rdb (p := 0) (i := 13) ch_cX12_voice_0 rfl) (rdb (p := 0) (i := 14) ch_cX12_voice_0 rfl) rfl
theorem dX12_voice_15 : decode cX12_voice 15 = .ok (.ifCond .ne 10, 3) := do_154 (rdb (p := 0) (i := 15) ch_cX12_voice_0 rfl) (rdb (p := 0) (i := 16) ch_cX12_voice_0 rfl) (rdb (p := 0) (i := 17) ch_cX12_voice_0 rfl) (by decide +kernel)
theorem dX12_voice_18 : decode cX12_voice 18 = .ok (.aload_n 0, 1) := do_42 (rdb (p := 0) (i := 18) ch_cX12_voice_0 rfl)
theorem dX12_voice_19 : decode cX12_voice 19 = .ok (.ldc 103, 2) := do_18 (rdb (p := 0) (i := 19) ch_cX12_voice_0 rfl) (rdb (p := 0) (i := 20) ch_cX12_voice_0 rfl)
theorem dX12_voice_21 : decode cX12_voice 21 = .ok (.invokevirtual 104, 3) := do_182 (rdb (p := 0) (i := 21) ch_cX12_voice_0 rfl) (rdb (p := 0) (i := 22) ch_cX12_voice_0 rfl) (rdb (p := 0) (i := 23) ch_cX12_voice_0 rfl) rfl
theorem dX12_voice_24 : decode cX12_voice 24 = .ok (.ireturn, 1) := do_172 (rdb (p := 0) (i := 24) ch_cX12_voice_0 rfl)
theorem dX12_voice_25 : decode cX12_voice 25 = .ok (.aload_n 0, 1) := do_42 (rdb (p := 0) (i := 25) ch_cX12_voice_0 rfl)
theorem dX12_voice_26 : decode cX12_voice 26 = .ok (.iconst 0, 1) := do_3 (rdb (p := 0) (i := 26) ch_cX12_voice_0 rfl)
theorem dX12_voice_27 : decode cX12_voice 27 = .ok (.putfield 324, 3) := do_181 (rdb (p := 0) (i := 27) ch_cX12_voice_0 rfl) (rdb (p := 0) (i := 28) ch_cX12_voice_0 rfl) (rdb (p := 0) (i := 29) ch_cX12_voice_0 rfl) rfl
theorem dX12_voice_30 : decode cX12_voice 30 = .ok (.aload_n 0, 1) := do_42 (rdb (p := 0) (i := 30) ch_cX12_voice_0 rfl)
theorem dX12_voice_31 : decode cX12_voice 31 = .ok (.iload_n 1, 1) := do_27 (rdb (p := 0) (i := 31) ch_cX12_voice_0 rfl)
theorem ch_cX12_voice_32 : (cX12_voice.data.toList.drop 32).take 36 = [181, 1, 71, 42, 3, 181, 1, 80, 42, 28, 29, 182, 1, 89, 54, 4, 42, 180, 1, 80, 153, 0, 13, 42, 19, 1, 92, 182, 0, 104, 167, 0, 5, 21, 4, 172] := by decide +kernel
theorem dX12_voice_32 : decode cX12_voice 32 = .ok (.putfield 327, 3) := do_181 (rdb (p := 32) (i := 0) ch_cX12_voice_32 rfl) (rdb (p := 32) (i := 1) ch_cX12_voice_32 rfl) (rdb (p := 32) (i := 2) ch_cX12_voice_32 rfl) rfl
theorem dX12_voice_35 : decode cX12_voice 35 = .ok (.aload_n 0, 1) := do_42 (rdb (p := 32) (i := 3) ch_cX12_voice_32 rfl)
theorem dX12_voice_36 : decode cX12_voice 36 = .ok (.iconst 0, 1) := do_3 (rdb (p := 32) (i := 4) ch_cX12_voice_32 rfl)
theorem dX12_voice_37 : decode cX12_voice 37 = .ok (.putfield 336, 3) := do_181 (rdb (p := 32) (i := 5) ch_cX12_voice_32 rfl) (rdb (p := 32) (i := 6) ch_cX12_voice_32 rfl) (rdb (p := 32) (i := 7) ch_cX12_voice_32 rfl) rfl
theorem dX12_voice_40 : decode cX12_voice 40 = .ok (.aload_n 0, 1) := do_42 (rdb (p := 32) (i := 8) ch_cX12_voice_32 rfl)
theorem dX12_voice_41 : decode cX12_voice 41 = .ok (.iload_n 2, 1) := do_28 (rdb (p := 32) (i := 9) ch_cX12_voice_32 rfl)
theorem dX12_voice_42 : decode cX12_voice 42 = .ok (.iload_n 3, 1) := do_29 (rdb (p := 32) (i := 10) ch_cX12_voice_32 rfl)
theorem dX12_voice_43 : decode cX12_voice 43 = .ok (.invokevirtual 345, 3) := do_182 (rdb (p := 32) (i := 11) ch_cX12_voice_32 rfl) (rdb (p := 32) (i := 12) ch_cX12_voice_32 rfl) (rdb (p := 32) (i := 13) ch_cX12_voice_32 rfl) rfl
theorem dX12_voice_46 : decode cX12_voice 46 = .ok (.istore 4, 2) := do_54 (rdb (p := 32) (i := 14) ch_cX12_voice_32 rfl) (rdb (p := 32) (i := 15) ch_cX12_voice_32 rfl)
theorem dX12_voice_48 : decode cX12_voice 48 = .ok (.aload_n 0, 1) := do_42 (rdb (p := 32) (i := 16) ch_cX12_voice_32 rfl)
theorem dX12_voice_49 : decode cX12_voice 49 = .ok (.getfield 336, 3) := do_180 (rdb (p := 32) (i := 17) ch_cX12_voice_32 rfl) (rdb (p := 32) (i := 18) ch_cX12_voice_32 rfl) (rdb (p := 32) (i := 19) ch_cX12_voice_32 rfl) rfl
theorem dX12_voice_52 : decode cX12_voice 52 = .ok (.ifCond .eq 13, 3) := do_153 (rdb (p := 32) (i := 20) ch_cX12_voice_32 rfl) (rdb (p := 32) (i := 21) ch_cX12_voice_32 rfl) (rdb (p := 32) (i := 22) ch_cX12_voice_32 rfl) (by decide +kernel)
theorem dX12_voice_55 : decode cX12_voice 55 = .ok (.aload_n 0, 1) := do_42 (rdb (p := 32) (i := 23) ch_cX12_voice_32 rfl)
theorem dX12_voice_56 : decode cX12_voice 56 = .ok (.ldc_w 348, 3) := do_19 (rdb (p := 32) (i := 24) ch_cX12_voice_32 rfl) (rdb (p := 32) (i := 25) ch_cX12_voice_32 rfl) (rdb (p := 32) (i := 26) ch_cX12_voice_32 rfl) rfl
theorem dX12_voice_59 : decode cX12_voice 59 = .ok (.invokevirtual 104, 3) := do_182 (rdb (p := 32) (i := 27) ch_cX12_voice_32 rfl) (rdb (p := 32) (i := 28) ch_cX12_voice_32 rfl) (rdb (p := 32) (i := 29) ch_cX12_voice_32 rfl) rfl
theorem dX12_voice_62 : decode cX12_voice 62 = .ok (.goto 5, 3) := do_167 (rdb (p := 32) (i := 30) ch_cX12_voice_32 rfl) (rdb (p := 32) (i := 31) ch_cX12_voice_32 rfl) (rdb (p := 32) (i := 32) ch_cX12_voice_32 rfl) (by decide +kernel)
theorem ch_cX12_voice_64 : (cX12_voice.data.toList.drop 64).take 36 = [5, 21, 4, 172] := by decide +kernel
theorem dX12_voice_65 : decode cX12_voice 65 = .ok (.iload 4, 2) := do_21 (rdb (p := 64) (i := 1) ch_cX12_voice_64 rfl) (rdb (p := 64) (i := 2) ch_cX12_voice_64 rfl)
theorem dX12_voice_67 : decode cX12_voice 67 = .ok (.ireturn, 1) := do_172 (rdb (p := 64) (i := 3) ch_cX12_voice_64 rfl)
end
section
def S_c_X12_voice : rf → Nat → Prop := fun c k => (c.1 = 12 ∧ c.2.1 = 0 ∧ k = 26) ∨ (c.1 = 12 ∧ c.2.1 = 0 ∧ k = 27) ∨ (c.1 = 12 ∧ c.2.1 = 0 ∧ k = 28) ∨ (c.1 = 65 ∧ c.2.1 = 0) ∨ (c.1 = 53 ∧ c.2.1 = 0) ∨ False
def SP_X12_voice (v : Int32) (u : Int32) (t : Int32) (Mz : mM) (r_ : Int32) (M_ : mM) : Prop := (((SP_is2 v Mz (1 : Int32)) ∧ (0 ≤ v.toInt ∧ v.toInt ≤ 7) ∧ (((SP_X12_within u 0 3 Mz (1 : Int32)) ∧ (0 ≤ u.toInt ∧ u.toInt ≤ 3) ∧ ∃ M13_ : mM, (M13_ = up Mz (12, 0, 0) 26 0) ∧ ∃ M17_ : mM, (M17_ = up M13_ (12, 0, 0) 27 v) ∧ ∃ M21_ : mM, (M21_ = up M17_ (12, 0, 0) 28 0) ∧ (InvD M21_) ∧ ∃ M26_ : mM, (InvD M26_) ∧ (FR (S_voD) M21_ M26_) ∧ ∃ r25_ : Int32, (SP_X12_voicedA u t M21_ r25_ M26_) ∧ ∃ z33_ : Int32, (z33_ = M26_.1 (12, 0, 0) 28) ∧ (0 ≤ z33_.toInt ∧ z33_.toInt ≤ 1) ∧ (((z33_.toInt = 0) ∧ r_ = r25_ ∧ M_ = M26_) ∨ ((¬ z33_.toInt = 0) ∧ ∃ M38_ : mM, (InvD M38_) ∧ (FR (S_c_X12_finding) M26_ M38_) ∧ ∃ r37_ : Int32, (SP_X12_finding (-1000006) M26_ r37_ M38_) ∧ (r37_.toInt = (-1000006)) ∧ r_ = r37_ ∧ M_ = M38_))) ∨ ((SP_X12_within u 0 3 Mz (0 : Int32)) ∧ (¬ (0 ≤ u.toInt ∧ u.toInt ≤ 3)) ∧ ∃ M47_ : mM, (InvD M47_) ∧ (FR (S_c_X12_finding) Mz M47_) ∧ ∃ r46_ : Int32, (SP_X12_finding (-1000001) Mz r46_ M47_) ∧ (r46_.toInt = (-1000001)) ∧ r_ = r46_ ∧ M_ = M47_))) ∨ ((SP_is2 v Mz (0 : Int32)) ∧ ∃ M56_ : mM, (InvD M56_) ∧ (FR (S_c_X12_finding) Mz M56_) ∧ ∃ r55_ : Int32, (SP_X12_finding (-1000001) Mz r55_ M56_) ∧ (r55_.toInt = (-1000001)) ∧ r_ = r55_ ∧ M_ = M56_))
set_option maxHeartbeats 4000000 in
set_option maxRecDepth 100000 in
theorem c_X12_voice (l : Launch) (G : va_G) (cy : Nat → ClassId) (ad : rf → Nat) (d : Nat) (v : Int32) (u : Int32) (t : Int32) (Mz : mM) (hIz : InvD Mz) : WP DD l G cy ad yX12_voice cX12_voice 5 (some .int) (d + 51) 0 [(0, vR (12, 0, 0)), (1, vI v), (2, vI u), (3, vI t)] [] Mz (fun r M' => InvD M' ∧ FR (S_c_X12_voice) Mz M' ∧ (True) ∧ SP_X12_voice v u t Mz r M') := by
  have hFz : FR (S_c_X12_voice) Mz Mz := FR.self
  refine w_aload_n dX12_voice_0 rfl 0 rfl ?_
  refine w_iload_n dX12_voice_1 rfl 1 rfl ?_
  refine w_iconst (v := 2) dX12_voice_2 (by decide) ?_
  refine w_callV (as := [vI v, vI 2]) (rest := []) (c_is2 l G cy ad (d + 49) v Mz hIz) kV_X12_is pnn_17 (Nat.le_of_ble_eq_true rfl) m_1465 rfl rfl rfl ic_12 rfl rfl (by decide) (Nat.le_of_ble_eq_true rfl) dX12_voice_3 (fun r1_ M2_ q3_ => ?_)
  obtain ⟨rfl, h4_, hs5_⟩ := q3_
  rcases h4_ with ⟨rfl, h4_⟩ | rfl
  · refine w_if_eq (tgt := 18) dX12_voice_6 (by decide) li_1 (fun h9 => (absurd h9 (by decide))) (fun h6_ => ?_)
    refine w_iload_n dX12_voice_9 rfl 2 rfl ?_
    refine w_iconst (v := 0) dX12_voice_10 (by decide) ?_
    refine w_iconst (v := 3) dX12_voice_11 (by decide) ?_
    refine w_callS (as := [vI u, vI 0, vI 3]) (rest := []) (c_X12_within l G cy ad (d + 50) u 0 3 Mz hIz) kS_X12_within pnn_17 (Nat.le_of_ble_eq_true rfl) m_1427 rfl rfl (by decide) (Nat.le_of_ble_eq_true rfl) dX12_voice_12 (fun r7_ M8_ q9_ => ?_)
    obtain ⟨rfl, h10_, hs11_⟩ := q9_
    rcases h10_ with ⟨rfl, h10_⟩ | ⟨rfl, h10_⟩
    · simp only [li_0, li_3] at h10_
      refine w_if_ne (tgt := 25) dX12_voice_15 (by decide) li_1 (fun h12_ => ?_) (fun h9 => (absurd h9 (by decide)))
      refine w_aload_n dX12_voice_25 rfl 0 rfl ?_
      refine w_iconst (v := 0) dX12_voice_26 (by decide) ?_
      refine w_putI DD_nd fl_RX12_324 rfl rfl ic_12 dX12_voice_27 (fun M13_ hM14_ => ?_)
      have hI15_ := hIz.put hM14_ ⟨⟨by decide, by decide⟩, Or.inl (by decide)⟩
      have hF16_ := hFz.put hM14_ (Or.inl ⟨rfl, rfl, rfl⟩)
      refine w_aload_n dX12_voice_30 rfl 0 rfl ?_
      refine w_iload_n dX12_voice_31 rfl 1 rfl ?_
      refine w_putI DD_nd fl_RX12_327 rfl rfl ic_12 dX12_voice_32 (fun M17_ hM18_ => ?_)
      have hI19_ := hI15_.put hM18_ ⟨h4_, Or.inl (by decide)⟩
      have hF20_ := hF16_.put hM18_ (Or.inr (Or.inl ⟨rfl, rfl, rfl⟩))
      refine w_aload_n dX12_voice_35 rfl 0 rfl ?_
      refine w_iconst (v := 0) dX12_voice_36 (by decide) ?_
      refine w_putZ DD_nd fl_RX12_336 rfl rfl ic_12 ⟨by decide, by decide⟩ dX12_voice_37 (fun M21_ hM22_ => ?_)
      have hI23_ := hI19_.put hM22_ ⟨⟨by decide, by decide⟩, Or.inl (by decide)⟩
      have hF24_ := hF20_.put hM22_ (Or.inr (Or.inr (Or.inl ⟨rfl, rfl, rfl⟩)))
      refine w_aload_n dX12_voice_40 rfl 0 rfl ?_
      refine w_iload_n dX12_voice_41 rfl 2 rfl ?_
      refine w_iload_n dX12_voice_42 rfl 3 rfl ?_
      refine w_callV (as := [vI u, vI t]) (rest := []) (c_X12_voicedA l G cy ad d u t M21_ hI23_ h10_) kV_X12_voiced pnn_17 (Nat.le_of_ble_eq_true rfl) m_1803 rfl rfl rfl ic_12 rfl rfl (by decide) (Nat.le_of_ble_eq_true rfl) dX12_voice_43 (fun r25_ M26_ q27_ => ?_)
      obtain ⟨hI29_, hF30_, h28_, hs32_⟩ := q27_
      have hF31_ := hF24_.tr hF30_ (fun c k => (fun h => h.elim (fun h => (Or.inl ⟨h.1, h.2.1, h.2.2⟩)) (fun h => h.elim (fun h => (Or.inr (Or.inr (Or.inl ⟨h.1, h.2.1, h.2.2⟩)))) (fun h => h.elim (fun h => (Or.inr (Or.inr (Or.inr (Or.inl ⟨h.1, h.2⟩))))) (fun h => h.elim)))))
      refine w_istore (ls' := [(4, vI r25_), (0, vR (12, 0, 0)), (1, vI v), (2, vI u), (3, vI t)]) dX12_voice_46 (by decide) rfl ?_
      refine w_aload_n dX12_voice_48 rfl 1 rfl ?_
      refine w_getI fl_RX12_336 rfl rfl ic_12 dX12_voice_49 (fun z33_ e34_ => ?_)
      have h35_ : 0 ≤ z33_.toInt ∧ z33_.toInt ≤ 1 := ofEq (P := fun v => 0 ≤ v.toInt ∧ v.toInt ≤ 1) e34_ (hI29_.1 (12, 0, 0) 28)
      refine w_if_eq (tgt := 65) dX12_voice_52 (by decide) (rfl : z33_.toInt = z33_.toInt) (fun h36_ => ?_) (fun h36_ => ?_)
      · refine w_iload dX12_voice_65 0 rfl ?_
        exact w_iret rfl dX12_voice_67 ⟨hI29_, hF31_, trivial, (Or.inl ⟨hs5_, h4_, (Or.inl ⟨hs11_, h10_, M13_, hM14_, M17_, hM18_, M21_, hM22_, hI23_, M26_, hI29_, hF30_, r25_, hs32_, z33_, e34_, h35_, (Or.inl ⟨h36_, rfl, rfl⟩)⟩)⟩)⟩
      · refine w_aload_n dX12_voice_55 rfl 1 rfl ?_
        refine w_ldc_w (v := (-1000006)) m_1822 dX12_voice_56 ?_
        refine w_callV (as := [vI (-1000006)]) (rest := []) (c_X12_finding l G cy ad (d + 50) (-1000006) M26_ hI29_ (by first | decide | (unfold vF; omega) | (unfold vRw; omega))) kV_X12_finding pnn_17 (Nat.le_of_ble_eq_true rfl) m_1434 rfl rfl rfl ic_12 rfl rfl (by decide) (Nat.le_of_ble_eq_true rfl) dX12_voice_59 (fun r37_ M38_ q39_ => ?_)
        obtain ⟨hI41_, hF42_, h40_, hs44_⟩ := q39_
        have hF43_ := hF31_.tr hF42_ (fun c k => (fun h => h.elim (fun h => (Or.inr (Or.inr (Or.inr (Or.inr (Or.inl ⟨h.1, h.2⟩)))))) (fun h => h.elim)))
        simp only [li_m1000006] at h40_
        refine w_goto (tgt := 67) dX12_voice_62 (by decide) ?_
        exact w_iret rfl dX12_voice_67 ⟨hI41_, hF43_, trivial, (Or.inl ⟨hs5_, h4_, (Or.inl ⟨hs11_, h10_, M13_, hM14_, M17_, hM18_, M21_, hM22_, hI23_, M26_, hI29_, hF30_, r25_, hs32_, z33_, e34_, h35_, (Or.inr ⟨h36_, M38_, hI41_, hF42_, r37_, hs44_, h40_, rfl, rfl⟩)⟩)⟩)⟩
    · simp only [li_0, li_3] at h10_
      refine w_if_ne (tgt := 25) dX12_voice_15 (by decide) li_0 (fun h9 => (absurd h9 (by decide))) (fun h45_ => ?_)
      refine w_aload_n dX12_voice_18 rfl 0 rfl ?_
      refine w_ldc (v := (-1000001)) m_1433 dX12_voice_19 ?_
      refine w_callV (as := [vI (-1000001)]) (rest := []) (c_X12_finding l G cy ad (d + 50) (-1000001) Mz hIz (by first | decide | (unfold vF; omega) | (unfold vRw; omega))) kV_X12_finding pnn_17 (Nat.le_of_ble_eq_true rfl) m_1434 rfl rfl rfl ic_12 rfl rfl (by decide) (Nat.le_of_ble_eq_true rfl) dX12_voice_21 (fun r46_ M47_ q48_ => ?_)
      obtain ⟨hI50_, hF51_, h49_, hs53_⟩ := q48_
      have hF52_ := hFz.tr hF51_ (fun c k => (fun h => h.elim (fun h => (Or.inr (Or.inr (Or.inr (Or.inr (Or.inl ⟨h.1, h.2⟩)))))) (fun h => h.elim)))
      simp only [li_m1000001] at h49_
      exact w_iret rfl dX12_voice_24 ⟨hI50_, hF52_, trivial, (Or.inl ⟨hs5_, h4_, (Or.inr ⟨hs11_, h10_, M47_, hI50_, hF51_, r46_, hs53_, h49_, rfl, rfl⟩)⟩)⟩
  · refine w_if_eq (tgt := 18) dX12_voice_6 (by decide) li_0 (fun h54_ => ?_) (fun h9 => (absurd h9 (by decide)))
    refine w_aload_n dX12_voice_18 rfl 0 rfl ?_
    refine w_ldc (v := (-1000001)) m_1433 dX12_voice_19 ?_
    refine w_callV (as := [vI (-1000001)]) (rest := []) (c_X12_finding l G cy ad (d + 50) (-1000001) Mz hIz (by first | decide | (unfold vF; omega) | (unfold vRw; omega))) kV_X12_finding pnn_17 (Nat.le_of_ble_eq_true rfl) m_1434 rfl rfl rfl ic_12 rfl rfl (by decide) (Nat.le_of_ble_eq_true rfl) dX12_voice_21 (fun r55_ M56_ q57_ => ?_)
    obtain ⟨hI59_, hF60_, h58_, hs62_⟩ := q57_
    have hF61_ := hFz.tr hF60_ (fun c k => (fun h => h.elim (fun h => (Or.inr (Or.inr (Or.inr (Or.inr (Or.inl ⟨h.1, h.2⟩)))))) (fun h => h.elim)))
    simp only [li_m1000001] at h58_
    exact w_iret rfl dX12_voice_24 ⟨hI59_, hF61_, trivial, (Or.inr ⟨hs5_, M56_, hI59_, hF60_, r55_, hs62_, h58_, rfl, rfl⟩)⟩
end
section
/-! the parse of a text: what is coded lies behind what is read; the pile -/
def PP (M : mM) (s : Int) (D : Nat) (a T : Int) : Prop :=
  (M.1 (12, 0, 0) 14).toInt + s ≤ (M.1 (12, 0, 0) 9).toInt ∧ a ≤ (M.1 (12, 0, 0) 9).toInt ∧ (M.1 (12, 0, 0) 9).toInt ≤ T ∧ (M.1 (50, 0, 0) 4).toInt = T ∧ (M.1 (12, 0, 0) 13 = 1 ∨ dpt (M.1 (57, 0, 0)) 0 (M.1 (12, 0, 0) 14).toInt.toNat = some D)
theorem PP_cong {M M' : mM} {s : Int} {D : Nat} {a T : Int} (h : PP M s D a T) (h1 : M'.1 (12, 0, 0) 14 = M.1 (12, 0, 0) 14) (h2 : M'.1 (12, 0, 0) 9 = M.1 (12, 0, 0) 9) (h3 : M'.1 (50, 0, 0) 4 = M.1 (50, 0, 0) 4) (h4 : M'.1 (12, 0, 0) 13 = M.1 (12, 0, 0) 13) (h5 : M'.1 (57, 0, 0) = M.1 (57, 0, 0)) : PP M' s D a T := by
  unfold PP
  rw [h1, h2, h3, h4, h5]; exact h
theorem PP_mono {M : mM} {s s' : Int} {D : Nat} {a a' T : Int} (h : PP M s D a T) (hs : s' ≤ s) (ha : a' ≤ a) : PP M s' D a' T := ⟨by have := h.1; omega, by have := h.2.1; omega, h.2.2⟩
theorem PP_self {M : mM} {s : Int} {D : Nat} {a T : Int} (h : PP M s D a T) : PP M s D (M.1 (12, 0, 0) 9).toInt T := ⟨h.1, Int.le_refl _, h.2.2⟩
theorem PP_wr {M : mM} {s : Int} {D E : Nat} {a T : Int} (h : PP M s D a T) (hw : M.1 (12, 0, 0) 13 = 1) : PP M s E a T := ⟨h.1, h.2.1, h.2.2.1, h.2.2.2.1, Or.inl hw⟩
theorem up_o {M M' : mM} {c c' : rf} {k k' : Nat} {v : Int32} (he : M' = up M c k v) (h : ¬ (c' = c ∧ k' = k)) : M'.1 c' k' = M.1 c' k' := by rw [he]; exact up_ne h
theorem up_s {M M' : mM} {c : rf} {k : Nat} {v : Int32} (he : M' = up M c k v) : M'.1 c k = v := by rw [he]; exact up_same _ _ _ _
theorem up_r {M M' : mM} {c c' : rf} {k : Nat} {v : Int32} (he : M' = up M c k v) (h : c' ≠ c) : M'.1 c' = M.1 c' := by rw [he]; exact up_other _ _ h
/-- at goes on by one -/
theorem PP_at {M M' : mM} {s : Int} {D : Nat} {a T : Int} {z : Int32} (h : PP M s D a T) (he : M' = up M (12, 0, 0) 9 z) (hz : z.toInt = (M.1 (12, 0, 0) 9).toInt + 1) (ht : (M.1 (12, 0, 0) 9).toInt < T) : PP M' (s + 1) D (a + 1) T := by
  unfold PP
  rw [up_o he (by simp), up_s he, up_o he (by simp), up_o he (by simp), up_r he (by simp)]
  obtain ⟨h1, h2, h3, h4, h5⟩ := h
  exact ⟨by omega, by omega, by omega, h4, h5⟩
theorem PP_put0 {M M' : mM} {s : Int} {D : Nat} {a T : Int} (h : PP M s D a T) (he : M' = up M (12, 0, 0) 13 0) (hw : M.1 (12, 0, 0) 13 = 0) : PP M' s D a T := PP_cong h (up_o he (by simp)) (up_o he (by simp)) (up_o he (by simp)) (by rw [up_s he, hw]) (up_r he (by simp))
theorem PP_put1 {M M' : mM} {s : Int} {D E : Nat} {a T : Int} (h : PP M s D a T) (he : M' = up M (12, 0, 0) 13 1) : PP M' s E a T := by
  obtain ⟨h1, h2, h3, h4, h5⟩ := h
  unfold PP
  rw [up_o he (by simp), up_o he (by simp), up_o he (by simp), up_s he]
  exact ⟨h1, h2, h3, h4, Or.inl rfl⟩
theorem zW {z : Int32} (h : 0 ≤ z.toInt ∧ z.toInt ≤ 1) (h2 : ¬ z.toInt = 0) : z = 1 := Int32.toInt_inj.mp (show z.toInt = 1 by omega)
theorem z0 {z : Int32} (h : z.toInt = 0) : z = 0 := Int32.toInt_inj.mp h
theorem dpt_upd {f : Nat → Int32} {n j : Nat} {v : Int32} (hj : n ≤ j) : dpt (upd f j v) 0 n = dpt f 0 n := dpt_cong n (fun i hi => if_neg (by omega))
/-- a code is laid -/
theorem codes_fin {M M1 M2 : mM} {j : Nat} {v c c' : Int32} {s : Int} {D E : Nat} {a T : Int} (h : PP M s D a T) (h1 : M1 = up M (57, 0, 0) j v) (h2 : M2 = up M1 (12, 0, 0) 14 c') (hj : (j : Int) = c.toInt) (hc : c = M.1 (12, 0, 0) 14) (hc' : c'.toInt = c.toInt + 1) (hw : M.1 (12, 0, 0) 13 = 0) (hv : stp v.toInt (some D) = some E) : PP M2 (s - 1) E a T := by
  obtain ⟨g1, g2, g3, g4, g5⟩ := h
  have e1 : M2.1 (57, 0, 0) = upd (M.1 (57, 0, 0)) j v := by rw [up_r h2 (by simp), h1, up_row]
  have e2 : M2.1 (12, 0, 0) 14 = c' := up_s h2
  have e3 : M2.1 (12, 0, 0) 9 = M.1 (12, 0, 0) 9 := by rw [up_o h2 (by simp), up_o h1 (by simp)]
  have e4 : M2.1 (50, 0, 0) 4 = M.1 (50, 0, 0) 4 := by rw [up_o h2 (by simp), up_o h1 (by simp)]
  unfold PP
  rw [e1, e2, e3, e4]
  refine ⟨by rw [← hc] at g1; omega, g2, g3, g4, Or.inr ?_⟩
  have g6 : dpt (M.1 (57, 0, 0)) 0 c.toInt.toNat = some D := by
    rcases g5 with g | g
    · rw [hw] at g; exact absurd g (by decide)
    · rw [hc]; exact g
  rw [show c'.toInt.toNat = j + 1 by omega, dpt, dpt_upd (Nat.le_refl j), Nat.zero_add, show upd (M.1 (57, 0, 0)) j v j = v from if_pos rfl, show j = c.toInt.toNat by omega, g6]
  exact hv
theorem codes_wr {M : mM} {s : Int} {D E : Nat} {a T : Int} (h : PP M s D a T) (hw : M.1 (12, 0, 0) 13 = 1) : PP M (s - 1) E a T := PP_wr (PP_mono h (by omega) (Int.le_refl _)) hw
theorem stp_n {v : Int32} {D : Nat} (h : 0 ≤ v.toInt ∧ v.toInt < 1005) : stp v.toInt (some D) = some (D + 1) := by
  unfold stp
  dsimp only
  rw [if_pos h]
theorem stp_op {v : Int32} {D : Nat} (h : 2000 ≤ v.toInt ∧ v.toInt < 2008) : stp v.toInt (some (D + 1 + 1)) = some (D + 1) := by
  unfold stp
  dsimp only
  rw [if_neg (by omega), if_neg (by omega), if_neg (by omega), if_pos h, if_pos (by omega)]; rfl
theorem stp_t {D : Nat} : stp (2008 : Int32).toInt (some (D + 1)) = some (D + 1) := by
  unfold stp
  dsimp only
  rw [if_neg (by decide), if_pos (by decide), if_pos (by omega)]
theorem stp_c {D : Nat} : stp (2009 : Int32).toInt (some (D + 1 + 1 + 1)) = some (D + 1) := by
  unfold stp
  dsimp only
  rw [if_neg (by decide), if_neg (by decide), if_pos (by decide), if_pos (by omega)]; rfl
def isX (v : Int32) : Int := if 0 < v.toInt then 1 else 0
theorem isX_p {v : Int32} (h : 0 < v.toInt) : isX v = 1 := if_pos h
theorem isX_0 {v : Int32} (h : v.toInt ≤ 0) : isX v = 0 := if_neg (by omega)
theorem isX_b (v : Int32) : 0 ≤ isX v ∧ isX v ≤ 1 := by unfold isX; split <;> omega
theorem PP_meas {M M' : mM} {s' : Int} {E : Nat} {T A : Int} {x x' : Int32} (h : PP M' s' E (A + isX x') T) (hA : A = (M.1 (12, 0, 0) 9).toInt) (hx : 0 < x.toInt) : (2 * (T - (M'.1 (12, 0, 0) 9).toInt) + isX x').toNat < (2 * (T - (M.1 (12, 0, 0) 9).toInt) + isX x).toNat := by
  have h1 := h.2.1
  have h2 := h.2.2.1
  have h3 := isX_b x'
  rw [isX_p hx]
  omega
/-- the byte at hand is a digit -/
def DG (M : mM) : Prop := (M.1 (12, 0, 0) 9).toInt < (M.1 (50, 0, 0) 4).toInt ∧ ∀ j : Nat, (j : Int) = 273 + (M.1 (12, 0, 0) 9).toInt → 48 ≤ (M.1 (50, 0, 0) j).toInt ∧ (M.1 (50, 0, 0) j).toInt ≤ 57
theorem dg_1 {M : mM} {k z1 z2 : Int32} (hd : k.toInt = 0 → DG M) (h1 : z1 = M.1 (12, 0, 0) 9) (h2 : z2 = M.1 (50, 0, 0) 4) (h : z2.toInt ≤ z1.toInt) : ¬ k.toInt = 0 := fun q => by
  have := (hd q).1
  rw [← h1, ← h2] at this
  omega
theorem dg_2 {M : mM} {k z1 z : Int32} {j : Nat} (hd : k.toInt = 0 → DG M) (h1 : z1 = M.1 (12, 0, 0) 9) (hz : z = M.1 (50, 0, 0) j) (hj : (j : Int) = 273 + z1.toInt) (h : ¬ (48 ≤ z.toInt ∧ z.toInt ≤ 57)) : ¬ k.toInt = 0 := fun q => by
  refine h ?_
  rw [hz]
  exact (hd q).2 j (by rw [← h1]; exact hj)
/-- what here() says of a byte -/
def HB (M : mM) (r : Int32) : Prop := r.toInt = -1 ∨ (M.1 (12, 0, 0) 13 = 0 ∧ (M.1 (12, 0, 0) 9).toInt < (M.1 (50, 0, 0) 4).toInt ∧ ∀ j : Nat, (j : Int) = 273 + (M.1 (12, 0, 0) 9).toInt → r = M.1 (50, 0, 0) j)
theorem HB_in {M : mM} {r z1 z2 w : Int32} {j : Nat} (hw : w = M.1 (12, 0, 0) 13) (hw0 : w.toInt = 0) (h1 : z1 = M.1 (12, 0, 0) 9) (h2 : z2 = M.1 (50, 0, 0) 4) (h : z1.toInt < z2.toInt) (hz : r = M.1 (50, 0, 0) j) (hj : (j : Int) = 273 + z1.toInt) : HB M r := Or.inr ⟨by rw [← hw]; exact z0 hw0, by rw [← h1, ← h2]; exact h, fun i hi => by
  rw [hz]
  rw [← h1] at hi
  rw [show i = j by omega]⟩
theorem HB_ok {M : mM} {r : Int32} {s : Int} {D : Nat} {a T : Int} (h : HB M r) (hp : PP M s D a T) (h0 : ¬ r.toInt = -1) : M.1 (12, 0, 0) 13 = 0 ∧ (M.1 (12, 0, 0) 9).toInt < T := by
  rcases h with h | h
  · exact absurd h h0
  · exact ⟨h.1, by have := hp.2.2.2.1; omega⟩
theorem HB_dg {M : mM} {r : Int32} (h : HB M r) (h0 : 48 ≤ r.toInt ∧ r.toInt ≤ 57) : DG M := by
  rcases h with h | h
  · omega
  · exact ⟨h.2.1, fun j hj => by rw [← h.2.2 j hj]; exact h0⟩
/-- the texts while one of them is written -/
def WT1 (f : Nat → Int32) (u : Nat) : Prop := ∃ n D : Nat, n ≤ 48 ∧ (f (345 + 50 * u)).toInt = (n : Int) ∧ dpt f (345 + 50 * u + 1) n = some D
def InvT (u : Nat) (M : mM) : Prop := (∀ (c : rf) (k : Nat), IND c.1 k (M.1 c k)) ∧ (∀ k, PN k (M.1 (50, 0, 0) k)) ∧ (∀ u', u' < 3 → ¬ u' = u → WT1 (M.1 (50, 0, 0)) u') ∧ NW5 (M.1 (51, 0, 0)) ∧ NW5 (M.1 (52, 0, 0))
theorem InvT.of {u : Nat} {M : mM} (h : InvD M) : InvT u M := ⟨h.1, h.2.1.1, fun u' h1 _ => h.2.1.2 u' h1, h.2.2⟩
theorem InvT.putT {u : Nat} {M M' : mM} {j : Nat} {v : Int32} (h : InvT u M) (he : M' = up M (50, 0, 0) j v) (hj : 345 + 50 * u ≤ j ∧ j < 395 + 50 * u) : InvT u M' := by
  subst he
  refine ⟨fun c' k' => ?_, fun k => ?_, fun u' h1 h2 => ?_, ?_, ?_⟩
  · by_cases e : c' = (50, 0, 0) ∧ k' = j
    · rw [e.1, e.2, up_same]; trivial
    · rw [up_ne e]; exact h.1 c' k'
  · rw [up_row]; exact PN_upd h.2.1 (PN_out (by omega)) k
  · rw [up_row]
    obtain ⟨n, D, g1, g2, g3⟩ := h.2.2.1 u' h1 h2
    have hx : ∀ i, 345 + 50 * u' ≤ i → i ≤ 393 + 50 * u' → upd (M.1 (50, 0, 0)) j v i = M.1 (50, 0, 0) i := fun i a b => if_neg (by omega)
    exact ⟨n, D, g1, by rw [hx _ (by omega) (by omega)]; exact g2, by rw [dpt_cong (g := M.1 (50, 0, 0)) (b := 345 + 50 * u' + 1) n (fun i hi => hx _ (by omega) (by omega))]; exact g3⟩
  · rw [up_other j v (by decide)]; exact h.2.2.2.1
  · rw [up_other j v (by decide)]; exact h.2.2.2.2
def TX (M : mM) (u : Nat) (k : Int) : Prop := ∃ n D : Nat, n ≤ 48 ∧ (M.1 (12, 0, 0) 14).toInt = (n : Int) ∧ M.1 (50, 0, 0) (345 + 50 * u) = M.1 (12, 0, 0) 14 ∧ dpt (M.1 (57, 0, 0)) 0 n = some D ∧ ∀ i : Nat, (i : Int) < k → i < n → M.1 (50, 0, 0) (345 + 50 * u + 1 + i) = M.1 (57, 0, 0) i
theorem TX_0 {M M' : mM} {u j : Nat} {z : Int32} (h48 : (M.1 (12, 0, 0) 14).toInt ≤ 48) (h0 : 0 ≤ (M.1 (12, 0, 0) 14).toInt) (hd : dpt (M.1 (57, 0, 0)) 0 (M.1 (12, 0, 0) 14).toInt.toNat = some 1) (he : M' = up M (50, 0, 0) j z) (hz : z = M.1 (12, 0, 0) 14) (hj : j = 345 + 50 * u) : TX M' u 0 := by
  refine ⟨(M.1 (12, 0, 0) 14).toInt.toNat, 1, by omega, ?_, ?_, ?_, fun i hi _ => absurd hi (by omega)⟩
  · rw [up_o he (by simp)]; omega
  · rw [← hj, up_s he, up_o he (by simp)]; exact hz
  · rw [up_r he (by simp)]; exact hd
theorem TX_s {M M' : mM} {u j j2 : Nat} {z : Int32} {k k' : Int} (h : TX M u k) (he : M' = up M (50, 0, 0) j z) (hz : z = M.1 (57, 0, 0) j2) (hj : (j : Int) = 346 + 50 * u + k) (hj2 : (j2 : Int) = k) (h0 : 0 ≤ k) (hk : k' = k + 1) : TX M' u k' := by
  obtain ⟨n, D, h1, h2, h3, h4, h5⟩ := h
  refine ⟨n, D, h1, by rw [up_o he (by simp)]; exact h2, ?_, by rw [up_r he (by simp)]; exact h4, fun i hi hn => ?_⟩
  · rw [up_o he (by simp; omega), up_o he (by simp)]; exact h3
  · rw [up_r (c' := (57, 0, 0)) he (by simp)]
    by_cases e : 345 + 50 * u + 1 + i = j
    · rw [e, up_s he, hz]
      rw [show j2 = i by omega]
    · rw [up_o he (fun q => e q.2)]
      exact h5 i (by omega) hn
theorem TX_end {M : mM} {u : Nat} {k c : Int32} (h : TX M u k.toInt) (hI : InvT u M) (hu : u < 3) (hc : c = M.1 (12, 0, 0) 14) (hk : c.toInt ≤ k.toInt) : InvD M := by
  obtain ⟨n, D, h1, h2, h3, h4, h5⟩ := h
  have hw : WT1 (M.1 (50, 0, 0)) u := ⟨n, D, h1, by rw [h3]; exact h2, by
    rw [dpt_cong (g := M.1 (57, 0, 0)) (b := 0) n (fun i hi => by rw [Nat.zero_add]; exact h5 i (by rw [← hc] at h2; omega) hi)]; exact h4⟩
  refine ⟨hI.1, ⟨hI.2.1, fun u' hu' => ?_⟩, hI.2.2.2⟩
  by_cases e : u' = u
  · rw [e]; exact hw
  · exact hI.2.2.1 u' hu' e
theorem PP_start {M : mM} {z : Int32} (ha : (M.1 (12, 0, 0) 9).toInt = 0) (hc : (M.1 (12, 0, 0) 14).toInt = 0) (h : InvD M) : PP M 0 0 0 (M.1 (50, 0, 0) 4).toInt := by
  have h4 := (h.2.1.1 4).2.2.2.1 rfl
  refine ⟨by omega, by omega, by omega, rfl, Or.inr ?_⟩
  rw [hc]; rfl
theorem at_lt {M : mM} {s : Int} {D : Nat} {a T : Int} {z1 z2 : Int32} (h : PP M s D a T) (e1 : z1 = M.1 (12, 0, 0) 9) (e2 : z2 = M.1 (50, 0, 0) 4) (hlt : z1.toInt < z2.toInt) : (M.1 (12, 0, 0) 9).toInt < T := by
  have := h.2.2.2.1
  rw [← e2] at this
  rw [← e1]; omega
theorem PP_atS {M M' : mM} {s : Int} {D : Nat} {a T : Int} {z : Int32} (h : PP M s D a T) (he : M' = up M (12, 0, 0) 9 z) (hz : z.toInt = (M.1 (12, 0, 0) 9).toInt) : PP M' s D a T := by
  unfold PP
  rw [up_o he (by simp), up_s he, up_o he (by simp), up_o he (by simp), up_r he (by simp), hz]
  exact h
theorem PP_m0 {M M' : mM} {T : Int} {z : Int32} (he : M' = up M (12, 0, 0) 9 z) (hz : z.toInt = (M.1 (12, 0, 0) 9).toInt + 1) (ht : (M.1 (12, 0, 0) 9).toInt < T) : (T - (M'.1 (12, 0, 0) 9).toInt).toNat < (T - (M.1 (12, 0, 0) 9).toInt).toNat := by
  rw [up_s he]; omega
theorem PP_c48 {M : mM} {s : Int} {D : Nat} {a T : Int} (hI : InvD M) (h : PP M s D a T) (hs : 0 ≤ s) : (M.1 (12, 0, 0) 14).toInt ≤ 48 := by
  have h4 := (hI.2.1.1 4).2.2.2.1 rfl
  obtain ⟨h1, h2, h3, h5, h6⟩ := h
  omega
theorem PP_a48 {M : mM} {s : Int} {D : Nat} {a T : Int} (hI : InvD M) (h : PP M s D a T) (ht : (M.1 (12, 0, 0) 9).toInt < T) : (M.1 (12, 0, 0) 9).toInt ≤ 47 := by
  have h4 := (hI.2.1.1 4).2.2.2.1 rfl
  have := h.2.2.2.1
  omega
theorem PP_D {M : mM} {s : Int} {D : Nat} {a T : Int} (h : PP M s D a T) (hw : M.1 (12, 0, 0) 13 = 0) : dpt (M.1 (57, 0, 0)) 0 (M.1 (12, 0, 0) 14).toInt.toNat = some D := by
  rcases h.2.2.2.2 with g | g
  · rw [hw] at g; exact absurd g (by decide)
  · exact g
theorem use3 {M : mM} (h : InvD M) : (M.1 (12, 0, 0) 10).toInt = 0 ∨ (M.1 (12, 0, 0) 10).toInt = 1 ∨ (M.1 (12, 0, 0) 10).toInt = 2 := by
  have h1 : 0 ≤ (M.1 (12, 0, 0) 10).toInt ∧ (M.1 (12, 0, 0) 10).toInt ≤ 2 := h.1 (12, 0, 0) 10
  omega
end
section
/-! words of the tables that are used, by their places; decode rows; fields -/
theorem m_40 : Cond.selects yX12_here.cls yX12_here yX12_here ∈ BASE := bmem 40 (by decide +kernel) rfl
theorem m_44 : Cond.selects yX12_takes.cls yX12_takes yX12_takes ∈ BASE := bmem 44 (by decide +kernel) rfl
set_option maxRecDepth 20000 in
theorem m_1332 : Cond.fieldLink RX12 155 "ClickStreetModel" "at" "I" ∈ BASE := bmT6 54 rfl rfl
set_option maxRecDepth 20000 in
theorem m_1336 : Cond.fieldLink RX12 151 "ClickStreetModel" "isWrong" "Z" ∈ BASE := bmT6 58 rfl rfl
set_option maxRecDepth 20000 in
theorem m_1337 : Cond.fieldLink RX12 162 "ClickStreetModel" "coded" "I" ∈ BASE := bmT6 59 rfl rfl
set_option maxRecDepth 20000 in
theorem m_1338 : Cond.fieldLink RX12 44 "ClickStreetModel" "code" "[I" ∈ BASE := bmT6 60 rfl rfl
set_option maxRecDepth 20000 in
theorem m_1575 : Cond.methodLink RX12 158 yX12_here ∈ BASE := bmT7 57 rfl rfl
set_option maxRecDepth 20000 in
theorem m_1577 : Cond.instanceMethod yX12_here ∈ BASE := bmT7 59 rfl rfl
set_option maxRecDepth 20000 in
theorem m_1578 : Cond.code yX12_here cX12_here 1 (some .int) ∈ BASE := bmT7 60 rfl rfl
set_option maxRecDepth 20000 in
theorem m_1591 : Cond.methodLink RX12 165 yX12_takes ∈ BASE := bmT7 73 rfl rfl
set_option maxRecDepth 20000 in
theorem m_1593 : Cond.instanceMethod yX12_takes ∈ BASE := bmT7 75 rfl rfl
set_option maxRecDepth 20000 in
theorem m_1594 : Cond.code yX12_takes cX12_takes 3 (some .boolean) ∈ BASE := bmT7 76 rfl rfl
theorem kV_X12_here : KV yX12_here cX12_here 1 (some .int) 0 := ⟨m_1577, m_40, m_92, m_1578, nhM_17, nhV_17, pdn_6⟩
theorem kV_X12_takes : KV yX12_takes cX12_takes 3 (some .boolean) 1 := ⟨m_1593, m_44, m_92, m_1594, nhM_17, nhV_17, pdn_1⟩
theorem fl_RX12_151 : FLK RX12 151 12 13 .boolean false := ⟨RX12, TX12, 33, tyX12, rfl, inB12, tyX12_ok, nmX12, by decide, rfl, rfl, Or.inl m_1336⟩
theorem fl_RX12_155 : FLK RX12 155 12 9 .int false := ⟨RX12, TX12, 33, tyX12, rfl, inB12, tyX12_ok, nmX12, by decide, rfl, rfl, Or.inl m_1332⟩
theorem fl_RX12_162 : FLK RX12 162 12 14 .int false := ⟨RX12, TX12, 33, tyX12, rfl, inB12, tyX12_ok, nmX12, by decide, rfl, rfl, Or.inl m_1337⟩
theorem fl_RX12_44 : FLK RX12 44 12 15 (.array .int) true := ⟨RX12, TX12, 33, tyX12, rfl, inB12, tyX12_ok, nmX12, by decide, rfl, rfl, Or.inl m_1338⟩
theorem dX12_codes_0 : decode cX12_codes 0 = .ok (.aload_n 0, 1) := by decide +kernel
theorem dX12_codes_1 : decode cX12_codes 1 = .ok (.getfield 151, 3) := by decide +kernel
theorem dX12_codes_4 : decode cX12_codes 4 = .ok (.ifCond .ne 23, 3) := by decide +kernel
theorem dX12_codes_7 : decode cX12_codes 7 = .ok (.aload_n 0, 1) := by decide +kernel
theorem dX12_codes_8 : decode cX12_codes 8 = .ok (.getfield 44, 3) := by decide +kernel
theorem dX12_codes_11 : decode cX12_codes 11 = .ok (.aload_n 0, 1) := by decide +kernel
theorem dX12_codes_12 : decode cX12_codes 12 = .ok (.getfield 162, 3) := by decide +kernel
theorem dX12_codes_15 : decode cX12_codes 15 = .ok (.iload_n 1, 1) := by decide +kernel
theorem dX12_codes_16 : decode cX12_codes 16 = .ok (.iastore, 1) := by decide +kernel
theorem dX12_codes_17 : decode cX12_codes 17 = .ok (.aload_n 0, 1) := by decide +kernel
theorem dX12_codes_18 : decode cX12_codes 18 = .ok (.dup, 1) := by decide +kernel
theorem dX12_codes_19 : decode cX12_codes 19 = .ok (.getfield 162, 3) := by decide +kernel
theorem dX12_codes_22 : decode cX12_codes 22 = .ok (.iconst 1, 1) := by decide +kernel
theorem dX12_codes_23 : decode cX12_codes 23 = .ok (.iadd, 1) := by decide +kernel
theorem dX12_codes_24 : decode cX12_codes 24 = .ok (.putfield 162, 3) := by decide +kernel
theorem dX12_codes_27 : decode cX12_codes 27 = .ok (.return_, 1) := by decide +kernel
theorem ch_cX12_here_0 : (cX12_here.data.toList.drop 0).take 36 = [42, 180, 0, 151, 154, 0, 47, 42, 180, 0, 155, 42, 180, 0, 9, 7, 46, 162, 0, 34, 42, 180, 0, 9, 17, 1, 17, 42, 180, 0, 155, 96, 46, 16, 32, 160] := by decide +kernel
theorem dX12_here_0 : decode cX12_here 0 = .ok (.aload_n 0, 1) := do_42 (rdb (p := 0) (i := 0) ch_cX12_here_0 rfl)
theorem dX12_here_1 : decode cX12_here 1 = .ok (.getfield 151, 3) := do_180 (rdb (p := 0) (i := 1) ch_cX12_here_0 rfl) (rdb (p := 0) (i := 2) ch_cX12_here_0 rfl) (rdb (p := 0) (i := 3) ch_cX12_here_0 rfl) rfl
theorem dX12_here_4 : decode cX12_here 4 = .ok (.ifCond .ne 47, 3) := do_154 (rdb (p := 0) (i := 4) ch_cX12_here_0 rfl) (rdb (p := 0) (i := 5) ch_cX12_here_0 rfl) (rdb (p := 0) (i := 6) ch_cX12_here_0 rfl) (by decide +kernel)
theorem dX12_here_7 : decode cX12_here 7 = .ok (.aload_n 0, 1) := do_42 (rdb (p := 0) (i := 7) ch_cX12_here_0 rfl)
theorem dX12_here_8 : decode cX12_here 8 = .ok (.getfield 155, 3) := do_180 (rdb (p := 0) (i := 8) ch_cX12_here_0 rfl) (rdb (p := 0) (i := 9) ch_cX12_here_0 rfl) (rdb (p := 0) (i := 10) ch_cX12_here_0 rfl) rfl
theorem dX12_here_11 : decode cX12_here 11 = .ok (.aload_n 0, 1) := do_42 (rdb (p := 0) (i := 11) ch_cX12_here_0 rfl)
theorem dX12_here_12 : decode cX12_here 12 = .ok (.getfield 9, 3) := do_180 (rdb (p := 0) (i := 12) ch_cX12_here_0 rfl) (rdb (p := 0) (i := 13) ch_cX12_here_0 rfl) (rdb (p := 0) (i := 14) ch_cX12_here_0 rfl) rfl
theorem dX12_here_15 : decode cX12_here 15 = .ok (.iconst 4, 1) := do_7 (rdb (p := 0) (i := 15) ch_cX12_here_0 rfl)
theorem dX12_here_16 : decode cX12_here 16 = .ok (.iaload, 1) := do_46 (rdb (p := 0) (i := 16) ch_cX12_here_0 rfl)
theorem dX12_here_17 : decode cX12_here 17 = .ok (.if_icmp .ge 34, 3) := do_162 (rdb (p := 0) (i := 17) ch_cX12_here_0 rfl) (rdb (p := 0) (i := 18) ch_cX12_here_0 rfl) (rdb (p := 0) (i := 19) ch_cX12_here_0 rfl) (by decide +kernel)
theorem dX12_here_20 : decode cX12_here 20 = .ok (.aload_n 0, 1) := do_42 (rdb (p := 0) (i := 20) ch_cX12_here_0 rfl)
theorem dX12_here_21 : decode cX12_here 21 = .ok (.getfield 9, 3) := do_180 (rdb (p := 0) (i := 21) ch_cX12_here_0 rfl) (rdb (p := 0) (i := 22) ch_cX12_here_0 rfl) (rdb (p := 0) (i := 23) ch_cX12_here_0 rfl) rfl
theorem dX12_here_24 : decode cX12_here 24 = .ok (.sipush 273, 3) := do_17 (rdb (p := 0) (i := 24) ch_cX12_here_0 rfl) (rdb (p := 0) (i := 25) ch_cX12_here_0 rfl) (rdb (p := 0) (i := 26) ch_cX12_here_0 rfl) (by decide +kernel)
theorem dX12_here_27 : decode cX12_here 27 = .ok (.aload_n 0, 1) := do_42 (rdb (p := 0) (i := 27) ch_cX12_here_0 rfl)
theorem dX12_here_28 : decode cX12_here 28 = .ok (.getfield 155, 3) := do_180 (rdb (p := 0) (i := 28) ch_cX12_here_0 rfl) (rdb (p := 0) (i := 29) ch_cX12_here_0 rfl) (rdb (p := 0) (i := 30) ch_cX12_here_0 rfl) rfl
theorem dX12_here_31 : decode cX12_here 31 = .ok (.iadd, 1) := do_96 (rdb (p := 0) (i := 31) ch_cX12_here_0 rfl)
theorem ch_cX12_here_32 : (cX12_here.data.toList.drop 32).take 36 = [46, 16, 32, 160, 0, 16, 42, 89, 180, 0, 155, 4, 96, 181, 0, 155, 167, 255, 208, 42, 180, 0, 151, 154, 0, 32, 42, 180, 0, 155, 42, 180, 0, 9, 7, 46] := by decide +kernel
theorem dX12_here_32 : decode cX12_here 32 = .ok (.iaload, 1) := do_46 (rdb (p := 32) (i := 0) ch_cX12_here_32 rfl)
theorem dX12_here_33 : decode cX12_here 33 = .ok (.bipush 32, 2) := do_16 (rdb (p := 32) (i := 1) ch_cX12_here_32 rfl) (rdb (p := 32) (i := 2) ch_cX12_here_32 rfl) (by decide +kernel)
theorem dX12_here_35 : decode cX12_here 35 = .ok (.if_icmp .ne 16, 3) := do_160 (rdb (p := 32) (i := 3) ch_cX12_here_32 rfl) (rdb (p := 32) (i := 4) ch_cX12_here_32 rfl) (rdb (p := 32) (i := 5) ch_cX12_here_32 rfl) (by decide +kernel)
theorem dX12_here_38 : decode cX12_here 38 = .ok (.aload_n 0, 1) := do_42 (rdb (p := 32) (i := 6) ch_cX12_here_32 rfl)
theorem dX12_here_39 : decode cX12_here 39 = .ok (.dup, 1) := do_89 (rdb (p := 32) (i := 7) ch_cX12_here_32 rfl)
theorem dX12_here_40 : decode cX12_here 40 = .ok (.getfield 155, 3) := do_180 (rdb (p := 32) (i := 8) ch_cX12_here_32 rfl) (rdb (p := 32) (i := 9) ch_cX12_here_32 rfl) (rdb (p := 32) (i := 10) ch_cX12_here_32 rfl) rfl
theorem dX12_here_43 : decode cX12_here 43 = .ok (.iconst 1, 1) := do_4 (rdb (p := 32) (i := 11) ch_cX12_here_32 rfl)
theorem dX12_here_44 : decode cX12_here 44 = .ok (.iadd, 1) := do_96 (rdb (p := 32) (i := 12) ch_cX12_here_32 rfl)
theorem dX12_here_45 : decode cX12_here 45 = .ok (.putfield 155, 3) := do_181 (rdb (p := 32) (i := 13) ch_cX12_here_32 rfl) (rdb (p := 32) (i := 14) ch_cX12_here_32 rfl) (rdb (p := 32) (i := 15) ch_cX12_here_32 rfl) rfl
theorem dX12_here_48 : decode cX12_here 48 = .ok (.goto (-48), 3) := do_167 (rdb (p := 32) (i := 16) ch_cX12_here_32 rfl) (rdb (p := 32) (i := 17) ch_cX12_here_32 rfl) (rdb (p := 32) (i := 18) ch_cX12_here_32 rfl) (by decide +kernel)
theorem dX12_here_51 : decode cX12_here 51 = .ok (.aload_n 0, 1) := do_42 (rdb (p := 32) (i := 19) ch_cX12_here_32 rfl)
theorem dX12_here_52 : decode cX12_here 52 = .ok (.getfield 151, 3) := do_180 (rdb (p := 32) (i := 20) ch_cX12_here_32 rfl) (rdb (p := 32) (i := 21) ch_cX12_here_32 rfl) (rdb (p := 32) (i := 22) ch_cX12_here_32 rfl) rfl
theorem dX12_here_55 : decode cX12_here 55 = .ok (.ifCond .ne 32, 3) := do_154 (rdb (p := 32) (i := 23) ch_cX12_here_32 rfl) (rdb (p := 32) (i := 24) ch_cX12_here_32 rfl) (rdb (p := 32) (i := 25) ch_cX12_here_32 rfl) (by decide +kernel)
theorem dX12_here_58 : decode cX12_here 58 = .ok (.aload_n 0, 1) := do_42 (rdb (p := 32) (i := 26) ch_cX12_here_32 rfl)
theorem dX12_here_59 : decode cX12_here 59 = .ok (.getfield 155, 3) := do_180 (rdb (p := 32) (i := 27) ch_cX12_here_32 rfl) (rdb (p := 32) (i := 28) ch_cX12_here_32 rfl) (rdb (p := 32) (i := 29) ch_cX12_here_32 rfl) rfl
theorem dX12_here_62 : decode cX12_here 62 = .ok (.aload_n 0, 1) := do_42 (rdb (p := 32) (i := 30) ch_cX12_here_32 rfl)
theorem dX12_here_63 : decode cX12_here 63 = .ok (.getfield 9, 3) := do_180 (rdb (p := 32) (i := 31) ch_cX12_here_32 rfl) (rdb (p := 32) (i := 32) ch_cX12_here_32 rfl) (rdb (p := 32) (i := 33) ch_cX12_here_32 rfl) rfl
theorem ch_cX12_here_64 : (cX12_here.data.toList.drop 64).take 36 = [0, 9, 7, 46, 162, 0, 19, 42, 180, 0, 9, 17, 1, 17, 42, 180, 0, 155, 96, 46, 167, 0, 4, 2, 172] := by decide +kernel
theorem dX12_here_66 : decode cX12_here 66 = .ok (.iconst 4, 1) := do_7 (rdb (p := 64) (i := 2) ch_cX12_here_64 rfl)
theorem dX12_here_67 : decode cX12_here 67 = .ok (.iaload, 1) := do_46 (rdb (p := 64) (i := 3) ch_cX12_here_64 rfl)
theorem dX12_here_68 : decode cX12_here 68 = .ok (.if_icmp .ge 19, 3) := do_162 (rdb (p := 64) (i := 4) ch_cX12_here_64 rfl) (rdb (p := 64) (i := 5) ch_cX12_here_64 rfl) (rdb (p := 64) (i := 6) ch_cX12_here_64 rfl) (by decide +kernel)
theorem dX12_here_71 : decode cX12_here 71 = .ok (.aload_n 0, 1) := do_42 (rdb (p := 64) (i := 7) ch_cX12_here_64 rfl)
theorem dX12_here_72 : decode cX12_here 72 = .ok (.getfield 9, 3) := do_180 (rdb (p := 64) (i := 8) ch_cX12_here_64 rfl) (rdb (p := 64) (i := 9) ch_cX12_here_64 rfl) (rdb (p := 64) (i := 10) ch_cX12_here_64 rfl) rfl
theorem dX12_here_75 : decode cX12_here 75 = .ok (.sipush 273, 3) := do_17 (rdb (p := 64) (i := 11) ch_cX12_here_64 rfl) (rdb (p := 64) (i := 12) ch_cX12_here_64 rfl) (rdb (p := 64) (i := 13) ch_cX12_here_64 rfl) (by decide +kernel)
theorem dX12_here_78 : decode cX12_here 78 = .ok (.aload_n 0, 1) := do_42 (rdb (p := 64) (i := 14) ch_cX12_here_64 rfl)
theorem dX12_here_79 : decode cX12_here 79 = .ok (.getfield 155, 3) := do_180 (rdb (p := 64) (i := 15) ch_cX12_here_64 rfl) (rdb (p := 64) (i := 16) ch_cX12_here_64 rfl) (rdb (p := 64) (i := 17) ch_cX12_here_64 rfl) rfl
theorem dX12_here_82 : decode cX12_here 82 = .ok (.iadd, 1) := do_96 (rdb (p := 64) (i := 18) ch_cX12_here_64 rfl)
theorem dX12_here_83 : decode cX12_here 83 = .ok (.iaload, 1) := do_46 (rdb (p := 64) (i := 19) ch_cX12_here_64 rfl)
theorem dX12_here_84 : decode cX12_here 84 = .ok (.goto 4, 3) := do_167 (rdb (p := 64) (i := 20) ch_cX12_here_64 rfl) (rdb (p := 64) (i := 21) ch_cX12_here_64 rfl) (rdb (p := 64) (i := 22) ch_cX12_here_64 rfl) (by decide +kernel)
theorem dX12_here_87 : decode cX12_here 87 = .ok (.iconst (-1), 1) := do_2 (rdb (p := 64) (i := 23) ch_cX12_here_64 rfl)
theorem dX12_here_88 : decode cX12_here 88 = .ok (.ireturn, 1) := do_172 (rdb (p := 64) (i := 24) ch_cX12_here_64 rfl)
theorem dX12_must_0 : decode cX12_must 0 = .ok (.aload_n 0, 1) := by decide +kernel
theorem dX12_must_1 : decode cX12_must 1 = .ok (.aload_n 0, 1) := by decide +kernel
theorem dX12_must_2 : decode cX12_must 2 = .ok (.iload_n 1, 1) := by decide +kernel
theorem dX12_must_3 : decode cX12_must 3 = .ok (.invokevirtual 165, 3) := by decide +kernel
theorem dX12_must_6 : decode cX12_must 6 = .ok (.ifCond .ne 7, 3) := by decide +kernel
theorem dX12_must_9 : decode cX12_must 9 = .ok (.iconst 1, 1) := by decide +kernel
theorem dX12_must_10 : decode cX12_must 10 = .ok (.goto 4, 3) := by decide +kernel
theorem dX12_must_13 : decode cX12_must 13 = .ok (.iconst 0, 1) := by decide +kernel
theorem dX12_must_14 : decode cX12_must 14 = .ok (.putfield 151, 3) := by decide +kernel
theorem dX12_must_17 : decode cX12_must 17 = .ok (.return_, 1) := by decide +kernel
theorem dX12_takes_0 : decode cX12_takes 0 = .ok (.aload_n 0, 1) := by decide +kernel
theorem dX12_takes_1 : decode cX12_takes 1 = .ok (.invokevirtual 158, 3) := by decide +kernel
theorem dX12_takes_4 : decode cX12_takes 4 = .ok (.iload_n 1, 1) := by decide +kernel
theorem dX12_takes_5 : decode cX12_takes 5 = .ok (.if_icmp .ne 7, 3) := by decide +kernel
theorem dX12_takes_8 : decode cX12_takes 8 = .ok (.iconst 1, 1) := by decide +kernel
theorem dX12_takes_9 : decode cX12_takes 9 = .ok (.goto 4, 3) := by decide +kernel
theorem dX12_takes_12 : decode cX12_takes 12 = .ok (.iconst 0, 1) := by decide +kernel
theorem dX12_takes_13 : decode cX12_takes 13 = .ok (.istore_n 2, 1) := by decide +kernel
theorem dX12_takes_14 : decode cX12_takes 14 = .ok (.aload_n 0, 1) := by decide +kernel
theorem dX12_takes_15 : decode cX12_takes 15 = .ok (.dup, 1) := by decide +kernel
theorem dX12_takes_16 : decode cX12_takes 16 = .ok (.getfield 155, 3) := by decide +kernel
theorem dX12_takes_19 : decode cX12_takes 19 = .ok (.iload_n 2, 1) := by decide +kernel
theorem dX12_takes_20 : decode cX12_takes 20 = .ok (.ifCond .eq 7, 3) := by decide +kernel
theorem dX12_takes_23 : decode cX12_takes 23 = .ok (.iconst 1, 1) := by decide +kernel
theorem dX12_takes_24 : decode cX12_takes 24 = .ok (.goto 4, 3) := by decide +kernel
theorem dX12_takes_27 : decode cX12_takes 27 = .ok (.iconst 0, 1) := by decide +kernel
theorem dX12_takes_28 : decode cX12_takes 28 = .ok (.iadd, 1) := by decide +kernel
theorem dX12_takes_29 : decode cX12_takes 29 = .ok (.putfield 155, 3) := by decide +kernel
theorem dX12_takes_32 : decode cX12_takes 32 = .ok (.iload_n 2, 1) := by decide +kernel
theorem dX12_takes_33 : decode cX12_takes 33 = .ok (.ireturn, 1) := by decide +kernel
end
