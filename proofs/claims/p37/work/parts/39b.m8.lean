def S_c_copy_50_51 : rf → Nat → Prop := fun c k => (c.1 = 51 ∧ c.2.1 = 0) ∨ False
theorem lf_c_copy_50_51_0 (M_2 : mM) (v2_2 : Int32) (hv0_2 : 0 ≤ v2_2.toInt) (hv1_2 : v2_2.toInt ≤ 3567) (hv2_2 : ∀ i : Nat, (i : Int) < v2_2.toInt → M_2.1 (51, 0, 0) i = M_2.1 (50, 0, 0) i) (h2_ : 3567 ≤ v2_2.toInt) : 3567 ≤ v2_2.toInt := by have r_v2_2 := rngI v2_2; omega
theorem lf_c_copy_50_51_1 (M_2 : mM) (v2_2 : Int32) (hv0_2 : 0 ≤ v2_2.toInt) (hv1_2 : v2_2.toInt ≤ 3567) (hv2_2 : ∀ i : Nat, (i : Int) < v2_2.toInt → M_2.1 (51, 0, 0) i = M_2.1 (50, 0, 0) i) (h2_ : v2_2.toInt < 3567) : 0 ≤ v2_2.toInt ∧ v2_2.toInt < ((3567 : Nat) : Int) := by have r_v2_2 := rngI v2_2; omega
theorem lf_c_copy_50_51_2 (M_2 : mM) (v2_2 : Int32) (j5_ : Nat) (z3_ : Int32) (hv0_2 : 0 ≤ v2_2.toInt) (hv1_2 : v2_2.toInt ≤ 3567) (hv2_2 : ∀ i : Nat, (i : Int) < v2_2.toInt → M_2.1 (51, 0, 0) i = M_2.1 (50, 0, 0) i) (h2_ : v2_2.toInt < 3567) (h6_ : (j5_ : Int) = v2_2.toInt) (e4_ : z3_ = M_2.1 (50, 0, 0) j5_) : 0 ≤ v2_2.toInt ∧ v2_2.toInt < ((3567 : Nat) : Int) := by have r_v2_2 := rngI v2_2; have r_z3_ := rngI z3_; subst e4_; omega
theorem lf_c_copy_50_51_3 (M7_ : mM) (M_2 : mM) (v2_2 : Int32) (j5_ : Nat) (z3_ : Int32) (j9_ : Nat) (hv0_2 : 0 ≤ v2_2.toInt) (hv1_2 : v2_2.toInt ≤ 3567) (hv2_2 : ∀ i : Nat, (i : Int) < v2_2.toInt → M_2.1 (51, 0, 0) i = M_2.1 (50, 0, 0) i) (h2_ : v2_2.toInt < 3567) (h6_ : (j5_ : Int) = v2_2.toInt) (e4_ : z3_ = M_2.1 (50, 0, 0) j5_) (h10_ : (j9_ : Int) = v2_2.toInt) (hM8_ : M7_ = up M_2 (51, 0, 0) j9_ z3_) : -2147483648 ≤ v2_2.toInt + 1 ∧ v2_2.toInt + 1 < 2147483648 := by have r_v2_2 := rngI v2_2; have r_z3_ := rngI z3_; subst e4_; omega
theorem lf_c_copy_50_51_4 (M7_ : mM) (M_2 : mM) (v2_2 : Int32) (j5_ : Nat) (z3_ : Int32) (j9_ : Nat) (z13_ : Int32) (hv0_2 : 0 ≤ v2_2.toInt) (hv1_2 : v2_2.toInt ≤ 3567) (hv2_2 : ∀ i : Nat, (i : Int) < v2_2.toInt → M_2.1 (51, 0, 0) i = M_2.1 (50, 0, 0) i) (h2_ : v2_2.toInt < 3567) (h6_ : (j5_ : Int) = v2_2.toInt) (e4_ : z3_ = M_2.1 (50, 0, 0) j5_) (h10_ : (j9_ : Int) = v2_2.toInt) (hM8_ : M7_ = up M_2 (51, 0, 0) j9_ z3_) (h14_ : z13_.toInt = v2_2.toInt + 1) : 0 ≤ z13_.toInt := by have r_v2_2 := rngI v2_2; have r_z3_ := rngI z3_; have r_z13_ := rngI z13_; subst e4_; omega
theorem lf_c_copy_50_51_5 (M7_ : mM) (M_2 : mM) (v2_2 : Int32) (j5_ : Nat) (z3_ : Int32) (j9_ : Nat) (z13_ : Int32) (hv0_2 : 0 ≤ v2_2.toInt) (hv1_2 : v2_2.toInt ≤ 3567) (hv2_2 : ∀ i : Nat, (i : Int) < v2_2.toInt → M_2.1 (51, 0, 0) i = M_2.1 (50, 0, 0) i) (h2_ : v2_2.toInt < 3567) (h6_ : (j5_ : Int) = v2_2.toInt) (e4_ : z3_ = M_2.1 (50, 0, 0) j5_) (h10_ : (j9_ : Int) = v2_2.toInt) (hM8_ : M7_ = up M_2 (51, 0, 0) j9_ z3_) (h14_ : z13_.toInt = v2_2.toInt + 1) : z13_.toInt ≤ 3567 := by have r_v2_2 := rngI v2_2; have r_z3_ := rngI z3_; have r_z13_ := rngI z13_; subst e4_; omega
theorem lf_c_copy_50_51_6 (M7_ : mM) (M_2 : mM) (v2_2 : Int32) (j5_ : Nat) (z3_ : Int32) (j9_ : Nat) (z13_ : Int32) (hv0_2 : 0 ≤ v2_2.toInt) (hv1_2 : v2_2.toInt ≤ 3567) (hv2_2 : ∀ i : Nat, (i : Int) < v2_2.toInt → M_2.1 (51, 0, 0) i = M_2.1 (50, 0, 0) i) (h2_ : v2_2.toInt < 3567) (h6_ : (j5_ : Int) = v2_2.toInt) (e4_ : z3_ = M_2.1 (50, 0, 0) j5_) (h10_ : (j9_ : Int) = v2_2.toInt) (hM8_ : M7_ = up M_2 (51, 0, 0) j9_ z3_) (h14_ : z13_.toInt = v2_2.toInt + 1) : (j9_ : Int) = v2_2.toInt := by have r_v2_2 := rngI v2_2; have r_z3_ := rngI z3_; have r_z13_ := rngI z13_; subst e4_; omega
theorem lf_c_copy_50_51_7 (M7_ : mM) (M_2 : mM) (v2_2 : Int32) (j5_ : Nat) (z3_ : Int32) (j9_ : Nat) (z13_ : Int32) (hv0_2 : 0 ≤ v2_2.toInt) (hv1_2 : v2_2.toInt ≤ 3567) (hv2_2 : ∀ i : Nat, (i : Int) < v2_2.toInt → M_2.1 (51, 0, 0) i = M_2.1 (50, 0, 0) i) (h2_ : v2_2.toInt < 3567) (h6_ : (j5_ : Int) = v2_2.toInt) (e4_ : z3_ = M_2.1 (50, 0, 0) j5_) (h10_ : (j9_ : Int) = v2_2.toInt) (hM8_ : M7_ = up M_2 (51, 0, 0) j9_ z3_) (h14_ : z13_.toInt = v2_2.toInt + 1) : (j5_ : Int) = v2_2.toInt := by have r_v2_2 := rngI v2_2; have r_z3_ := rngI z3_; have r_z13_ := rngI z13_; subst e4_; omega
theorem lf_c_copy_50_51_8 (M7_ : mM) (M_2 : mM) (v2_2 : Int32) (j5_ : Nat) (z3_ : Int32) (j9_ : Nat) (z13_ : Int32) (hv0_2 : 0 ≤ v2_2.toInt) (hv1_2 : v2_2.toInt ≤ 3567) (hv2_2 : ∀ i : Nat, (i : Int) < v2_2.toInt → M_2.1 (51, 0, 0) i = M_2.1 (50, 0, 0) i) (h2_ : v2_2.toInt < 3567) (h6_ : (j5_ : Int) = v2_2.toInt) (e4_ : z3_ = M_2.1 (50, 0, 0) j5_) (h10_ : (j9_ : Int) = v2_2.toInt) (hM8_ : M7_ = up M_2 (51, 0, 0) j9_ z3_) (h14_ : z13_.toInt = v2_2.toInt + 1) : z13_.toInt = v2_2.toInt + 1 := by have r_v2_2 := rngI v2_2; have r_z3_ := rngI z3_; have r_z13_ := rngI z13_; subst e4_; omega
theorem lf_c_copy_50_51_9 (M7_ : mM) (M_2 : mM) (v2_2 : Int32) (j5_ : Nat) (z3_ : Int32) (j9_ : Nat) (z13_ : Int32) (hv0_2 : 0 ≤ v2_2.toInt) (hv1_2 : v2_2.toInt ≤ 3567) (hv2_2 : ∀ i : Nat, (i : Int) < v2_2.toInt → M_2.1 (51, 0, 0) i = M_2.1 (50, 0, 0) i) (h2_ : v2_2.toInt < 3567) (h6_ : (j5_ : Int) = v2_2.toInt) (e4_ : z3_ = M_2.1 (50, 0, 0) j5_) (h10_ : (j9_ : Int) = v2_2.toInt) (hM8_ : M7_ = up M_2 (51, 0, 0) j9_ z3_) (h14_ : z13_.toInt = v2_2.toInt + 1) : (3567 - z13_.toInt).toNat < (3567 - v2_2.toInt).toNat := by have r_v2_2 := rngI v2_2; have r_z3_ := rngI z3_; have r_z13_ := rngI z13_; subst e4_; omega
theorem lf_c_copy_50_51_10    : 0 ≤ (0 : Int32).toInt := by have q0 := li_0; omega
theorem lf_c_copy_50_51_11    : (0 : Int32).toInt ≤ 3567 := by have q0 := li_0; omega
set_option maxHeartbeats 4000000 in
set_option maxRecDepth 100000 in
theorem c_copy_50_51 (l : Launch) (G : va_G) (cy : Nat → ClassId) (ad : rf → Nat) (d : Nat) (Mz : mM) (hIz : InvX51 Mz) : WP DD l G cy ad yX12_copy cX12_copy 3 none d 0 [(0, vR (50, 0, 0)), (1, vR (51, 0, 0))] [] Mz (fun r M' => InvX51 M' ∧ FR (S_c_copy_50_51) Mz M' ∧ ∀ i : Nat, (i : Int) < 3567 → M'.1 (51, 0, 0) i = M'.1 (50, 0, 0) i) := by
  have hFz : FR (S_c_copy_50_51) Mz Mz := FR.self
  refine w_iconst (v := 0) dX12_copy_0 (by decide) ?_
  refine w_istore_n (ls' := [(2, vI 0), (0, vR (50, 0, 0)), (1, vR (51, 0, 0))]) dX12_copy_1 rfl (by decide) rfl ?_
  have lp1_ : ∀ (nn_2 : Nat) (M_2 : mM) (hI_2 : InvX51 M_2) (hF_2 : FR (S_c_copy_50_51) Mz M_2) (v2_2 : Int32) (hv0_2 : 0 ≤ v2_2.toInt) (hv1_2 : v2_2.toInt ≤ 3567) (hv2_2 : ∀ i : Nat, (i : Int) < v2_2.toInt → M_2.1 (51, 0, 0) i = M_2.1 (50, 0, 0) i), (3567 - v2_2.toInt).toNat < nn_2 → WP DD l G cy ad yX12_copy cX12_copy 3 none d 2 [(2, vI v2_2), (0, vR (50, 0, 0)), (1, vR (51, 0, 0))] [] M_2 (fun r M' => InvX51 M' ∧ FR (S_c_copy_50_51) Mz M' ∧ ∀ i : Nat, (i : Int) < 3567 → M'.1 (51, 0, 0) i = M'.1 (50, 0, 0) i) := by
    intro nn_2
    induction nn_2 with
    | zero => intro M_2 hI_2 hF_2 v2_2 hv0_2 hv1_2 hv2_2 hm_2; exact absurd hm_2 (Nat.not_lt_zero _)
    | succ nn_2 ih_2 =>
      intro M_2 hI_2 hF_2 v2_2 hv0_2 hv1_2 hv2_2 hm_2
      refine w_iload_n dX12_copy_2 rfl 0 rfl ?_
      refine w_sipush (v := 3567) dX12_copy_3 (by decide) ?_
      refine w_icmp_ge (tgt := 21) dX12_copy_6 (by decide) (rfl : v2_2.toInt = v2_2.toInt) li_3567 (fun h2_ => ?_) (fun h2_ => ?_)
      · exact w_vret rfl dX12_copy_21 ⟨hI_2, hF_2, (fun i9 h9 => hv2_2 i9 (Int.lt_of_lt_of_le h9 (lf_c_copy_50_51_0 M_2 v2_2 hv0_2 hv1_2 hv2_2 h2_)))⟩
      · refine w_aload_n dX12_copy_9 rfl 2 rfl ?_
        refine w_iload_n dX12_copy_10 rfl 0 rfl ?_
        refine w_aload_n dX12_copy_11 rfl 1 rfl ?_
        refine w_iload_n dX12_copy_12 rfl 0 rfl ?_
        refine w_iald rfl rfl ic_50 (rfl : v2_2.toInt = v2_2.toInt) (lf_c_copy_50_51_1 M_2 v2_2 hv0_2 hv1_2 hv2_2 h2_) dX12_copy_13 (fun j5_ h6_ z3_ e4_ => ?_)
        refine w_iast DD_nd rfl rfl ic_51 (rfl : v2_2.toInt = v2_2.toInt) (lf_c_copy_50_51_2 M_2 v2_2 j5_ z3_ hv0_2 hv1_2 hv2_2 h2_ h6_ e4_) dX12_copy_14 (fun j9_ h10_ M7_ hM8_ => ?_)
        have hI11_ := hI_2.put hM8_ trivial
        have hF12_ := hF_2.put hM8_ (Or.inl ⟨rfl, rfl⟩)
        refine w_iincB (j := 0) (f := fun z13_ => [(2, vI z13_), (0, vR (50, 0, 0)), (1, vR (51, 0, 0))]) dX12_copy_15 rfl (by decide) (fun _ => rfl) (rfl : v2_2.toInt = v2_2.toInt) li_1 (lf_c_copy_50_51_3 M7_ M_2 v2_2 j5_ z3_ j9_ hv0_2 hv1_2 hv2_2 h2_ h6_ e4_ h10_ hM8_) (fun z13_ h14_ => ?_)
        refine w_goto (tgt := 2) dX12_copy_18 (by decide) ?_
        refine w_loc (ls' := [(2, vI z13_), (0, vR (50, 0, 0)), (1, vR (51, 0, 0))]) [0, 1, 2] rfl ?_
        exact ih_2 M7_ hI11_ hF12_ z13_ (lf_c_copy_50_51_4 M7_ M_2 v2_2 j5_ z3_ j9_ z13_ hv0_2 hv1_2 hv2_2 h2_ h6_ e4_ h10_ hM8_ h14_) (lf_c_copy_50_51_5 M7_ M_2 v2_2 j5_ z3_ j9_ z13_ hv0_2 hv1_2 hv2_2 h2_ h6_ e4_ h10_ hM8_ h14_) (cp_step (by decide) hv2_2 hM8_ e4_ (lf_c_copy_50_51_6 M7_ M_2 v2_2 j5_ z3_ j9_ z13_ hv0_2 hv1_2 hv2_2 h2_ h6_ e4_ h10_ hM8_ h14_) (lf_c_copy_50_51_7 M7_ M_2 v2_2 j5_ z3_ j9_ z13_ hv0_2 hv1_2 hv2_2 h2_ h6_ e4_ h10_ hM8_ h14_) (lf_c_copy_50_51_8 M7_ M_2 v2_2 j5_ z3_ j9_ z13_ hv0_2 hv1_2 hv2_2 h2_ h6_ e4_ h10_ hM8_ h14_)) (Nat.lt_of_lt_of_le (lf_c_copy_50_51_9 M7_ M_2 v2_2 j5_ z3_ j9_ z13_ hv0_2 hv1_2 hv2_2 h2_ h6_ e4_ h10_ hM8_ h14_) (Nat.le_of_lt_succ hm_2))
  exact lp1_ _ Mz hIz hFz 0 (lf_c_copy_50_51_10 ) (lf_c_copy_50_51_11 ) (fun i9 h9 => absurd h9 (by have := li_0; omega)) (Nat.lt_succ_self _)
def S_c_copy_51_50 : rf → Nat → Prop := fun c k => (c.1 = 50 ∧ c.2.1 = 0) ∨ False
theorem lf_c_copy_51_50_0 (M_2 : mM) (v2_2 : Int32) (hv0_2 : 0 ≤ v2_2.toInt) (hv1_2 : v2_2.toInt ≤ 3567) (hv2_2 : ∀ i : Nat, (i : Int) < v2_2.toInt → M_2.1 (50, 0, 0) i = M_2.1 (51, 0, 0) i) (h2_ : 3567 ≤ v2_2.toInt) : 3567 ≤ v2_2.toInt := by have r_v2_2 := rngI v2_2; omega
theorem lf_c_copy_51_50_1 (M_2 : mM) (v2_2 : Int32) (hv0_2 : 0 ≤ v2_2.toInt) (hv1_2 : v2_2.toInt ≤ 3567) (hv2_2 : ∀ i : Nat, (i : Int) < v2_2.toInt → M_2.1 (50, 0, 0) i = M_2.1 (51, 0, 0) i) (h2_ : v2_2.toInt < 3567) : 0 ≤ v2_2.toInt ∧ v2_2.toInt < ((3567 : Nat) : Int) := by have r_v2_2 := rngI v2_2; omega
theorem lf_c_copy_51_50_2 (M_2 : mM) (v2_2 : Int32) (j5_ : Nat) (z3_ : Int32) (hv0_2 : 0 ≤ v2_2.toInt) (hv1_2 : v2_2.toInt ≤ 3567) (hv2_2 : ∀ i : Nat, (i : Int) < v2_2.toInt → M_2.1 (50, 0, 0) i = M_2.1 (51, 0, 0) i) (h2_ : v2_2.toInt < 3567) (h6_ : (j5_ : Int) = v2_2.toInt) (e4_ : z3_ = M_2.1 (51, 0, 0) j5_) : 0 ≤ v2_2.toInt ∧ v2_2.toInt < ((3567 : Nat) : Int) := by have r_v2_2 := rngI v2_2; have r_z3_ := rngI z3_; subst e4_; omega
theorem lf_c_copy_51_50_3 (M7_ : mM) (M_2 : mM) (v2_2 : Int32) (j5_ : Nat) (z3_ : Int32) (j9_ : Nat) (hv0_2 : 0 ≤ v2_2.toInt) (hv1_2 : v2_2.toInt ≤ 3567) (hv2_2 : ∀ i : Nat, (i : Int) < v2_2.toInt → M_2.1 (50, 0, 0) i = M_2.1 (51, 0, 0) i) (h2_ : v2_2.toInt < 3567) (h6_ : (j5_ : Int) = v2_2.toInt) (e4_ : z3_ = M_2.1 (51, 0, 0) j5_) (h10_ : (j9_ : Int) = v2_2.toInt) (hM8_ : M7_ = up M_2 (50, 0, 0) j9_ z3_) : -2147483648 ≤ v2_2.toInt + 1 ∧ v2_2.toInt + 1 < 2147483648 := by have r_v2_2 := rngI v2_2; have r_z3_ := rngI z3_; subst e4_; omega
theorem lf_c_copy_51_50_4 (M7_ : mM) (M_2 : mM) (v2_2 : Int32) (j5_ : Nat) (z3_ : Int32) (j9_ : Nat) (z13_ : Int32) (hv0_2 : 0 ≤ v2_2.toInt) (hv1_2 : v2_2.toInt ≤ 3567) (hv2_2 : ∀ i : Nat, (i : Int) < v2_2.toInt → M_2.1 (50, 0, 0) i = M_2.1 (51, 0, 0) i) (h2_ : v2_2.toInt < 3567) (h6_ : (j5_ : Int) = v2_2.toInt) (e4_ : z3_ = M_2.1 (51, 0, 0) j5_) (h10_ : (j9_ : Int) = v2_2.toInt) (hM8_ : M7_ = up M_2 (50, 0, 0) j9_ z3_) (h14_ : z13_.toInt = v2_2.toInt + 1) : 0 ≤ z13_.toInt := by have r_v2_2 := rngI v2_2; have r_z3_ := rngI z3_; have r_z13_ := rngI z13_; subst e4_; omega
theorem lf_c_copy_51_50_5 (M7_ : mM) (M_2 : mM) (v2_2 : Int32) (j5_ : Nat) (z3_ : Int32) (j9_ : Nat) (z13_ : Int32) (hv0_2 : 0 ≤ v2_2.toInt) (hv1_2 : v2_2.toInt ≤ 3567) (hv2_2 : ∀ i : Nat, (i : Int) < v2_2.toInt → M_2.1 (50, 0, 0) i = M_2.1 (51, 0, 0) i) (h2_ : v2_2.toInt < 3567) (h6_ : (j5_ : Int) = v2_2.toInt) (e4_ : z3_ = M_2.1 (51, 0, 0) j5_) (h10_ : (j9_ : Int) = v2_2.toInt) (hM8_ : M7_ = up M_2 (50, 0, 0) j9_ z3_) (h14_ : z13_.toInt = v2_2.toInt + 1) : z13_.toInt ≤ 3567 := by have r_v2_2 := rngI v2_2; have r_z3_ := rngI z3_; have r_z13_ := rngI z13_; subst e4_; omega
theorem lf_c_copy_51_50_6 (M7_ : mM) (M_2 : mM) (v2_2 : Int32) (j5_ : Nat) (z3_ : Int32) (j9_ : Nat) (z13_ : Int32) (hv0_2 : 0 ≤ v2_2.toInt) (hv1_2 : v2_2.toInt ≤ 3567) (hv2_2 : ∀ i : Nat, (i : Int) < v2_2.toInt → M_2.1 (50, 0, 0) i = M_2.1 (51, 0, 0) i) (h2_ : v2_2.toInt < 3567) (h6_ : (j5_ : Int) = v2_2.toInt) (e4_ : z3_ = M_2.1 (51, 0, 0) j5_) (h10_ : (j9_ : Int) = v2_2.toInt) (hM8_ : M7_ = up M_2 (50, 0, 0) j9_ z3_) (h14_ : z13_.toInt = v2_2.toInt + 1) : (j9_ : Int) = v2_2.toInt := by have r_v2_2 := rngI v2_2; have r_z3_ := rngI z3_; have r_z13_ := rngI z13_; subst e4_; omega
theorem lf_c_copy_51_50_7 (M7_ : mM) (M_2 : mM) (v2_2 : Int32) (j5_ : Nat) (z3_ : Int32) (j9_ : Nat) (z13_ : Int32) (hv0_2 : 0 ≤ v2_2.toInt) (hv1_2 : v2_2.toInt ≤ 3567) (hv2_2 : ∀ i : Nat, (i : Int) < v2_2.toInt → M_2.1 (50, 0, 0) i = M_2.1 (51, 0, 0) i) (h2_ : v2_2.toInt < 3567) (h6_ : (j5_ : Int) = v2_2.toInt) (e4_ : z3_ = M_2.1 (51, 0, 0) j5_) (h10_ : (j9_ : Int) = v2_2.toInt) (hM8_ : M7_ = up M_2 (50, 0, 0) j9_ z3_) (h14_ : z13_.toInt = v2_2.toInt + 1) : (j5_ : Int) = v2_2.toInt := by have r_v2_2 := rngI v2_2; have r_z3_ := rngI z3_; have r_z13_ := rngI z13_; subst e4_; omega
theorem lf_c_copy_51_50_8 (M7_ : mM) (M_2 : mM) (v2_2 : Int32) (j5_ : Nat) (z3_ : Int32) (j9_ : Nat) (z13_ : Int32) (hv0_2 : 0 ≤ v2_2.toInt) (hv1_2 : v2_2.toInt ≤ 3567) (hv2_2 : ∀ i : Nat, (i : Int) < v2_2.toInt → M_2.1 (50, 0, 0) i = M_2.1 (51, 0, 0) i) (h2_ : v2_2.toInt < 3567) (h6_ : (j5_ : Int) = v2_2.toInt) (e4_ : z3_ = M_2.1 (51, 0, 0) j5_) (h10_ : (j9_ : Int) = v2_2.toInt) (hM8_ : M7_ = up M_2 (50, 0, 0) j9_ z3_) (h14_ : z13_.toInt = v2_2.toInt + 1) : z13_.toInt = v2_2.toInt + 1 := by have r_v2_2 := rngI v2_2; have r_z3_ := rngI z3_; have r_z13_ := rngI z13_; subst e4_; omega
theorem lf_c_copy_51_50_9 (M7_ : mM) (M_2 : mM) (v2_2 : Int32) (j5_ : Nat) (z3_ : Int32) (j9_ : Nat) (z13_ : Int32) (hv0_2 : 0 ≤ v2_2.toInt) (hv1_2 : v2_2.toInt ≤ 3567) (hv2_2 : ∀ i : Nat, (i : Int) < v2_2.toInt → M_2.1 (50, 0, 0) i = M_2.1 (51, 0, 0) i) (h2_ : v2_2.toInt < 3567) (h6_ : (j5_ : Int) = v2_2.toInt) (e4_ : z3_ = M_2.1 (51, 0, 0) j5_) (h10_ : (j9_ : Int) = v2_2.toInt) (hM8_ : M7_ = up M_2 (50, 0, 0) j9_ z3_) (h14_ : z13_.toInt = v2_2.toInt + 1) : (3567 - z13_.toInt).toNat < (3567 - v2_2.toInt).toNat := by have r_v2_2 := rngI v2_2; have r_z3_ := rngI z3_; have r_z13_ := rngI z13_; subst e4_; omega
theorem lf_c_copy_51_50_10    : 0 ≤ (0 : Int32).toInt := by have q0 := li_0; omega
theorem lf_c_copy_51_50_11    : (0 : Int32).toInt ≤ 3567 := by have q0 := li_0; omega
set_option maxHeartbeats 4000000 in
set_option maxRecDepth 100000 in
theorem c_copy_51_50 (l : Launch) (G : va_G) (cy : Nat → ClassId) (ad : rf → Nat) (d : Nat) (Mz : mM) (hIz : InvX50 Mz) : WP DD l G cy ad yX12_copy cX12_copy 3 none d 0 [(0, vR (51, 0, 0)), (1, vR (50, 0, 0))] [] Mz (fun r M' => InvX50 M' ∧ FR (S_c_copy_51_50) Mz M' ∧ ∀ i : Nat, (i : Int) < 3567 → M'.1 (50, 0, 0) i = M'.1 (51, 0, 0) i) := by
  have hFz : FR (S_c_copy_51_50) Mz Mz := FR.self
  refine w_iconst (v := 0) dX12_copy_0 (by decide) ?_
  refine w_istore_n (ls' := [(2, vI 0), (0, vR (51, 0, 0)), (1, vR (50, 0, 0))]) dX12_copy_1 rfl (by decide) rfl ?_
  have lp1_ : ∀ (nn_2 : Nat) (M_2 : mM) (hI_2 : InvX50 M_2) (hF_2 : FR (S_c_copy_51_50) Mz M_2) (v2_2 : Int32) (hv0_2 : 0 ≤ v2_2.toInt) (hv1_2 : v2_2.toInt ≤ 3567) (hv2_2 : ∀ i : Nat, (i : Int) < v2_2.toInt → M_2.1 (50, 0, 0) i = M_2.1 (51, 0, 0) i), (3567 - v2_2.toInt).toNat < nn_2 → WP DD l G cy ad yX12_copy cX12_copy 3 none d 2 [(2, vI v2_2), (0, vR (51, 0, 0)), (1, vR (50, 0, 0))] [] M_2 (fun r M' => InvX50 M' ∧ FR (S_c_copy_51_50) Mz M' ∧ ∀ i : Nat, (i : Int) < 3567 → M'.1 (50, 0, 0) i = M'.1 (51, 0, 0) i) := by
    intro nn_2
    induction nn_2 with
    | zero => intro M_2 hI_2 hF_2 v2_2 hv0_2 hv1_2 hv2_2 hm_2; exact absurd hm_2 (Nat.not_lt_zero _)
    | succ nn_2 ih_2 =>
      intro M_2 hI_2 hF_2 v2_2 hv0_2 hv1_2 hv2_2 hm_2
      refine w_iload_n dX12_copy_2 rfl 0 rfl ?_
      refine w_sipush (v := 3567) dX12_copy_3 (by decide) ?_
      refine w_icmp_ge (tgt := 21) dX12_copy_6 (by decide) (rfl : v2_2.toInt = v2_2.toInt) li_3567 (fun h2_ => ?_) (fun h2_ => ?_)
      · exact w_vret rfl dX12_copy_21 ⟨hI_2, hF_2, (fun i9 h9 => hv2_2 i9 (Int.lt_of_lt_of_le h9 (lf_c_copy_51_50_0 M_2 v2_2 hv0_2 hv1_2 hv2_2 h2_)))⟩
      · refine w_aload_n dX12_copy_9 rfl 2 rfl ?_
        refine w_iload_n dX12_copy_10 rfl 0 rfl ?_
        refine w_aload_n dX12_copy_11 rfl 1 rfl ?_
        refine w_iload_n dX12_copy_12 rfl 0 rfl ?_
        refine w_iald rfl rfl ic_51 (rfl : v2_2.toInt = v2_2.toInt) (lf_c_copy_51_50_1 M_2 v2_2 hv0_2 hv1_2 hv2_2 h2_) dX12_copy_13 (fun j5_ h6_ z3_ e4_ => ?_)
        refine w_iast DD_nd rfl rfl ic_50 (rfl : v2_2.toInt = v2_2.toInt) (lf_c_copy_51_50_2 M_2 v2_2 j5_ z3_ hv0_2 hv1_2 hv2_2 h2_ h6_ e4_) dX12_copy_14 (fun j9_ h10_ M7_ hM8_ => ?_)
        have hI11_ := hI_2.put hM8_ trivial
        have hF12_ := hF_2.put hM8_ (Or.inl ⟨rfl, rfl⟩)
        refine w_iincB (j := 0) (f := fun z13_ => [(2, vI z13_), (0, vR (51, 0, 0)), (1, vR (50, 0, 0))]) dX12_copy_15 rfl (by decide) (fun _ => rfl) (rfl : v2_2.toInt = v2_2.toInt) li_1 (lf_c_copy_51_50_3 M7_ M_2 v2_2 j5_ z3_ j9_ hv0_2 hv1_2 hv2_2 h2_ h6_ e4_ h10_ hM8_) (fun z13_ h14_ => ?_)
        refine w_goto (tgt := 2) dX12_copy_18 (by decide) ?_
        refine w_loc (ls' := [(2, vI z13_), (0, vR (51, 0, 0)), (1, vR (50, 0, 0))]) [0, 1, 2] rfl ?_
        exact ih_2 M7_ hI11_ hF12_ z13_ (lf_c_copy_51_50_4 M7_ M_2 v2_2 j5_ z3_ j9_ z13_ hv0_2 hv1_2 hv2_2 h2_ h6_ e4_ h10_ hM8_ h14_) (lf_c_copy_51_50_5 M7_ M_2 v2_2 j5_ z3_ j9_ z13_ hv0_2 hv1_2 hv2_2 h2_ h6_ e4_ h10_ hM8_ h14_) (cp_step (by decide) hv2_2 hM8_ e4_ (lf_c_copy_51_50_6 M7_ M_2 v2_2 j5_ z3_ j9_ z13_ hv0_2 hv1_2 hv2_2 h2_ h6_ e4_ h10_ hM8_ h14_) (lf_c_copy_51_50_7 M7_ M_2 v2_2 j5_ z3_ j9_ z13_ hv0_2 hv1_2 hv2_2 h2_ h6_ e4_ h10_ hM8_ h14_) (lf_c_copy_51_50_8 M7_ M_2 v2_2 j5_ z3_ j9_ z13_ hv0_2 hv1_2 hv2_2 h2_ h6_ e4_ h10_ hM8_ h14_)) (Nat.lt_of_lt_of_le (lf_c_copy_51_50_9 M7_ M_2 v2_2 j5_ z3_ j9_ z13_ hv0_2 hv1_2 hv2_2 h2_ h6_ e4_ h10_ hM8_ h14_) (Nat.le_of_lt_succ hm_2))
  exact lp1_ _ Mz hIz hFz 0 (lf_c_copy_51_50_10 ) (lf_c_copy_51_50_11 ) (fun i9 h9 => absurd h9 (by have := li_0; omega)) (Nat.lt_succ_self _)
def S_c_copy_50_52 : rf → Nat → Prop := fun c k => (c.1 = 52 ∧ c.2.1 = 0) ∨ False
theorem lf_c_copy_50_52_0 (M_2 : mM) (v2_2 : Int32) (hv0_2 : 0 ≤ v2_2.toInt) (hv1_2 : v2_2.toInt ≤ 3567) (hv2_2 : ∀ i : Nat, (i : Int) < v2_2.toInt → M_2.1 (52, 0, 0) i = M_2.1 (50, 0, 0) i) (h2_ : 3567 ≤ v2_2.toInt) : 3567 ≤ v2_2.toInt := by have r_v2_2 := rngI v2_2; omega
theorem lf_c_copy_50_52_1 (M_2 : mM) (v2_2 : Int32) (hv0_2 : 0 ≤ v2_2.toInt) (hv1_2 : v2_2.toInt ≤ 3567) (hv2_2 : ∀ i : Nat, (i : Int) < v2_2.toInt → M_2.1 (52, 0, 0) i = M_2.1 (50, 0, 0) i) (h2_ : v2_2.toInt < 3567) : 0 ≤ v2_2.toInt ∧ v2_2.toInt < ((3567 : Nat) : Int) := by have r_v2_2 := rngI v2_2; omega
theorem lf_c_copy_50_52_2 (M_2 : mM) (v2_2 : Int32) (j5_ : Nat) (z3_ : Int32) (hv0_2 : 0 ≤ v2_2.toInt) (hv1_2 : v2_2.toInt ≤ 3567) (hv2_2 : ∀ i : Nat, (i : Int) < v2_2.toInt → M_2.1 (52, 0, 0) i = M_2.1 (50, 0, 0) i) (h2_ : v2_2.toInt < 3567) (h6_ : (j5_ : Int) = v2_2.toInt) (e4_ : z3_ = M_2.1 (50, 0, 0) j5_) : 0 ≤ v2_2.toInt ∧ v2_2.toInt < ((3567 : Nat) : Int) := by have r_v2_2 := rngI v2_2; have r_z3_ := rngI z3_; subst e4_; omega
theorem lf_c_copy_50_52_3 (M7_ : mM) (M_2 : mM) (v2_2 : Int32) (j5_ : Nat) (z3_ : Int32) (j9_ : Nat) (hv0_2 : 0 ≤ v2_2.toInt) (hv1_2 : v2_2.toInt ≤ 3567) (hv2_2 : ∀ i : Nat, (i : Int) < v2_2.toInt → M_2.1 (52, 0, 0) i = M_2.1 (50, 0, 0) i) (h2_ : v2_2.toInt < 3567) (h6_ : (j5_ : Int) = v2_2.toInt) (e4_ : z3_ = M_2.1 (50, 0, 0) j5_) (h10_ : (j9_ : Int) = v2_2.toInt) (hM8_ : M7_ = up M_2 (52, 0, 0) j9_ z3_) : -2147483648 ≤ v2_2.toInt + 1 ∧ v2_2.toInt + 1 < 2147483648 := by have r_v2_2 := rngI v2_2; have r_z3_ := rngI z3_; subst e4_; omega
theorem lf_c_copy_50_52_4 (M7_ : mM) (M_2 : mM) (v2_2 : Int32) (j5_ : Nat) (z3_ : Int32) (j9_ : Nat) (z13_ : Int32) (hv0_2 : 0 ≤ v2_2.toInt) (hv1_2 : v2_2.toInt ≤ 3567) (hv2_2 : ∀ i : Nat, (i : Int) < v2_2.toInt → M_2.1 (52, 0, 0) i = M_2.1 (50, 0, 0) i) (h2_ : v2_2.toInt < 3567) (h6_ : (j5_ : Int) = v2_2.toInt) (e4_ : z3_ = M_2.1 (50, 0, 0) j5_) (h10_ : (j9_ : Int) = v2_2.toInt) (hM8_ : M7_ = up M_2 (52, 0, 0) j9_ z3_) (h14_ : z13_.toInt = v2_2.toInt + 1) : 0 ≤ z13_.toInt := by have r_v2_2 := rngI v2_2; have r_z3_ := rngI z3_; have r_z13_ := rngI z13_; subst e4_; omega
theorem lf_c_copy_50_52_5 (M7_ : mM) (M_2 : mM) (v2_2 : Int32) (j5_ : Nat) (z3_ : Int32) (j9_ : Nat) (z13_ : Int32) (hv0_2 : 0 ≤ v2_2.toInt) (hv1_2 : v2_2.toInt ≤ 3567) (hv2_2 : ∀ i : Nat, (i : Int) < v2_2.toInt → M_2.1 (52, 0, 0) i = M_2.1 (50, 0, 0) i) (h2_ : v2_2.toInt < 3567) (h6_ : (j5_ : Int) = v2_2.toInt) (e4_ : z3_ = M_2.1 (50, 0, 0) j5_) (h10_ : (j9_ : Int) = v2_2.toInt) (hM8_ : M7_ = up M_2 (52, 0, 0) j9_ z3_) (h14_ : z13_.toInt = v2_2.toInt + 1) : z13_.toInt ≤ 3567 := by have r_v2_2 := rngI v2_2; have r_z3_ := rngI z3_; have r_z13_ := rngI z13_; subst e4_; omega
theorem lf_c_copy_50_52_6 (M7_ : mM) (M_2 : mM) (v2_2 : Int32) (j5_ : Nat) (z3_ : Int32) (j9_ : Nat) (z13_ : Int32) (hv0_2 : 0 ≤ v2_2.toInt) (hv1_2 : v2_2.toInt ≤ 3567) (hv2_2 : ∀ i : Nat, (i : Int) < v2_2.toInt → M_2.1 (52, 0, 0) i = M_2.1 (50, 0, 0) i) (h2_ : v2_2.toInt < 3567) (h6_ : (j5_ : Int) = v2_2.toInt) (e4_ : z3_ = M_2.1 (50, 0, 0) j5_) (h10_ : (j9_ : Int) = v2_2.toInt) (hM8_ : M7_ = up M_2 (52, 0, 0) j9_ z3_) (h14_ : z13_.toInt = v2_2.toInt + 1) : (j9_ : Int) = v2_2.toInt := by have r_v2_2 := rngI v2_2; have r_z3_ := rngI z3_; have r_z13_ := rngI z13_; subst e4_; omega
theorem lf_c_copy_50_52_7 (M7_ : mM) (M_2 : mM) (v2_2 : Int32) (j5_ : Nat) (z3_ : Int32) (j9_ : Nat) (z13_ : Int32) (hv0_2 : 0 ≤ v2_2.toInt) (hv1_2 : v2_2.toInt ≤ 3567) (hv2_2 : ∀ i : Nat, (i : Int) < v2_2.toInt → M_2.1 (52, 0, 0) i = M_2.1 (50, 0, 0) i) (h2_ : v2_2.toInt < 3567) (h6_ : (j5_ : Int) = v2_2.toInt) (e4_ : z3_ = M_2.1 (50, 0, 0) j5_) (h10_ : (j9_ : Int) = v2_2.toInt) (hM8_ : M7_ = up M_2 (52, 0, 0) j9_ z3_) (h14_ : z13_.toInt = v2_2.toInt + 1) : (j5_ : Int) = v2_2.toInt := by have r_v2_2 := rngI v2_2; have r_z3_ := rngI z3_; have r_z13_ := rngI z13_; subst e4_; omega
theorem lf_c_copy_50_52_8 (M7_ : mM) (M_2 : mM) (v2_2 : Int32) (j5_ : Nat) (z3_ : Int32) (j9_ : Nat) (z13_ : Int32) (hv0_2 : 0 ≤ v2_2.toInt) (hv1_2 : v2_2.toInt ≤ 3567) (hv2_2 : ∀ i : Nat, (i : Int) < v2_2.toInt → M_2.1 (52, 0, 0) i = M_2.1 (50, 0, 0) i) (h2_ : v2_2.toInt < 3567) (h6_ : (j5_ : Int) = v2_2.toInt) (e4_ : z3_ = M_2.1 (50, 0, 0) j5_) (h10_ : (j9_ : Int) = v2_2.toInt) (hM8_ : M7_ = up M_2 (52, 0, 0) j9_ z3_) (h14_ : z13_.toInt = v2_2.toInt + 1) : z13_.toInt = v2_2.toInt + 1 := by have r_v2_2 := rngI v2_2; have r_z3_ := rngI z3_; have r_z13_ := rngI z13_; subst e4_; omega
theorem lf_c_copy_50_52_9 (M7_ : mM) (M_2 : mM) (v2_2 : Int32) (j5_ : Nat) (z3_ : Int32) (j9_ : Nat) (z13_ : Int32) (hv0_2 : 0 ≤ v2_2.toInt) (hv1_2 : v2_2.toInt ≤ 3567) (hv2_2 : ∀ i : Nat, (i : Int) < v2_2.toInt → M_2.1 (52, 0, 0) i = M_2.1 (50, 0, 0) i) (h2_ : v2_2.toInt < 3567) (h6_ : (j5_ : Int) = v2_2.toInt) (e4_ : z3_ = M_2.1 (50, 0, 0) j5_) (h10_ : (j9_ : Int) = v2_2.toInt) (hM8_ : M7_ = up M_2 (52, 0, 0) j9_ z3_) (h14_ : z13_.toInt = v2_2.toInt + 1) : (3567 - z13_.toInt).toNat < (3567 - v2_2.toInt).toNat := by have r_v2_2 := rngI v2_2; have r_z3_ := rngI z3_; have r_z13_ := rngI z13_; subst e4_; omega
theorem lf_c_copy_50_52_10    : 0 ≤ (0 : Int32).toInt := by have q0 := li_0; omega
theorem lf_c_copy_50_52_11    : (0 : Int32).toInt ≤ 3567 := by have q0 := li_0; omega
set_option maxHeartbeats 4000000 in
set_option maxRecDepth 100000 in
theorem c_copy_50_52 (l : Launch) (G : va_G) (cy : Nat → ClassId) (ad : rf → Nat) (d : Nat) (Mz : mM) (hIz : InvX52 Mz) : WP DD l G cy ad yX12_copy cX12_copy 3 none d 0 [(0, vR (50, 0, 0)), (1, vR (52, 0, 0))] [] Mz (fun r M' => InvX52 M' ∧ FR (S_c_copy_50_52) Mz M' ∧ ∀ i : Nat, (i : Int) < 3567 → M'.1 (52, 0, 0) i = M'.1 (50, 0, 0) i) := by
  have hFz : FR (S_c_copy_50_52) Mz Mz := FR.self
  refine w_iconst (v := 0) dX12_copy_0 (by decide) ?_
  refine w_istore_n (ls' := [(2, vI 0), (0, vR (50, 0, 0)), (1, vR (52, 0, 0))]) dX12_copy_1 rfl (by decide) rfl ?_
  have lp1_ : ∀ (nn_2 : Nat) (M_2 : mM) (hI_2 : InvX52 M_2) (hF_2 : FR (S_c_copy_50_52) Mz M_2) (v2_2 : Int32) (hv0_2 : 0 ≤ v2_2.toInt) (hv1_2 : v2_2.toInt ≤ 3567) (hv2_2 : ∀ i : Nat, (i : Int) < v2_2.toInt → M_2.1 (52, 0, 0) i = M_2.1 (50, 0, 0) i), (3567 - v2_2.toInt).toNat < nn_2 → WP DD l G cy ad yX12_copy cX12_copy 3 none d 2 [(2, vI v2_2), (0, vR (50, 0, 0)), (1, vR (52, 0, 0))] [] M_2 (fun r M' => InvX52 M' ∧ FR (S_c_copy_50_52) Mz M' ∧ ∀ i : Nat, (i : Int) < 3567 → M'.1 (52, 0, 0) i = M'.1 (50, 0, 0) i) := by
    intro nn_2
    induction nn_2 with
    | zero => intro M_2 hI_2 hF_2 v2_2 hv0_2 hv1_2 hv2_2 hm_2; exact absurd hm_2 (Nat.not_lt_zero _)
    | succ nn_2 ih_2 =>
      intro M_2 hI_2 hF_2 v2_2 hv0_2 hv1_2 hv2_2 hm_2
      refine w_iload_n dX12_copy_2 rfl 0 rfl ?_
      refine w_sipush (v := 3567) dX12_copy_3 (by decide) ?_
      refine w_icmp_ge (tgt := 21) dX12_copy_6 (by decide) (rfl : v2_2.toInt = v2_2.toInt) li_3567 (fun h2_ => ?_) (fun h2_ => ?_)
      · exact w_vret rfl dX12_copy_21 ⟨hI_2, hF_2, (fun i9 h9 => hv2_2 i9 (Int.lt_of_lt_of_le h9 (lf_c_copy_50_52_0 M_2 v2_2 hv0_2 hv1_2 hv2_2 h2_)))⟩
      · refine w_aload_n dX12_copy_9 rfl 2 rfl ?_
        refine w_iload_n dX12_copy_10 rfl 0 rfl ?_
        refine w_aload_n dX12_copy_11 rfl 1 rfl ?_
        refine w_iload_n dX12_copy_12 rfl 0 rfl ?_
        refine w_iald rfl rfl ic_50 (rfl : v2_2.toInt = v2_2.toInt) (lf_c_copy_50_52_1 M_2 v2_2 hv0_2 hv1_2 hv2_2 h2_) dX12_copy_13 (fun j5_ h6_ z3_ e4_ => ?_)
        refine w_iast DD_nd rfl rfl ic_52 (rfl : v2_2.toInt = v2_2.toInt) (lf_c_copy_50_52_2 M_2 v2_2 j5_ z3_ hv0_2 hv1_2 hv2_2 h2_ h6_ e4_) dX12_copy_14 (fun j9_ h10_ M7_ hM8_ => ?_)
        have hI11_ := hI_2.put hM8_ trivial
        have hF12_ := hF_2.put hM8_ (Or.inl ⟨rfl, rfl⟩)
        refine w_iincB (j := 0) (f := fun z13_ => [(2, vI z13_), (0, vR (50, 0, 0)), (1, vR (52, 0, 0))]) dX12_copy_15 rfl (by decide) (fun _ => rfl) (rfl : v2_2.toInt = v2_2.toInt) li_1 (lf_c_copy_50_52_3 M7_ M_2 v2_2 j5_ z3_ j9_ hv0_2 hv1_2 hv2_2 h2_ h6_ e4_ h10_ hM8_) (fun z13_ h14_ => ?_)
        refine w_goto (tgt := 2) dX12_copy_18 (by decide) ?_
        refine w_loc (ls' := [(2, vI z13_), (0, vR (50, 0, 0)), (1, vR (52, 0, 0))]) [0, 1, 2] rfl ?_
        exact ih_2 M7_ hI11_ hF12_ z13_ (lf_c_copy_50_52_4 M7_ M_2 v2_2 j5_ z3_ j9_ z13_ hv0_2 hv1_2 hv2_2 h2_ h6_ e4_ h10_ hM8_ h14_) (lf_c_copy_50_52_5 M7_ M_2 v2_2 j5_ z3_ j9_ z13_ hv0_2 hv1_2 hv2_2 h2_ h6_ e4_ h10_ hM8_ h14_) (cp_step (by decide) hv2_2 hM8_ e4_ (lf_c_copy_50_52_6 M7_ M_2 v2_2 j5_ z3_ j9_ z13_ hv0_2 hv1_2 hv2_2 h2_ h6_ e4_ h10_ hM8_ h14_) (lf_c_copy_50_52_7 M7_ M_2 v2_2 j5_ z3_ j9_ z13_ hv0_2 hv1_2 hv2_2 h2_ h6_ e4_ h10_ hM8_ h14_) (lf_c_copy_50_52_8 M7_ M_2 v2_2 j5_ z3_ j9_ z13_ hv0_2 hv1_2 hv2_2 h2_ h6_ e4_ h10_ hM8_ h14_)) (Nat.lt_of_lt_of_le (lf_c_copy_50_52_9 M7_ M_2 v2_2 j5_ z3_ j9_ z13_ hv0_2 hv1_2 hv2_2 h2_ h6_ e4_ h10_ hM8_ h14_) (Nat.le_of_lt_succ hm_2))
  exact lp1_ _ Mz hIz hFz 0 (lf_c_copy_50_52_10 ) (lf_c_copy_50_52_11 ) (fun i9 h9 => absurd h9 (by have := li_0; omega)) (Nat.lt_succ_self _)
def S_c_copy_52_50 : rf → Nat → Prop := fun c k => (c.1 = 50 ∧ c.2.1 = 0) ∨ False
theorem lf_c_copy_52_50_0 (M_2 : mM) (v2_2 : Int32) (hv0_2 : 0 ≤ v2_2.toInt) (hv1_2 : v2_2.toInt ≤ 3567) (hv2_2 : ∀ i : Nat, (i : Int) < v2_2.toInt → M_2.1 (50, 0, 0) i = M_2.1 (52, 0, 0) i) (h2_ : 3567 ≤ v2_2.toInt) : 3567 ≤ v2_2.toInt := by have r_v2_2 := rngI v2_2; omega
theorem lf_c_copy_52_50_1 (M_2 : mM) (v2_2 : Int32) (hv0_2 : 0 ≤ v2_2.toInt) (hv1_2 : v2_2.toInt ≤ 3567) (hv2_2 : ∀ i : Nat, (i : Int) < v2_2.toInt → M_2.1 (50, 0, 0) i = M_2.1 (52, 0, 0) i) (h2_ : v2_2.toInt < 3567) : 0 ≤ v2_2.toInt ∧ v2_2.toInt < ((3567 : Nat) : Int) := by have r_v2_2 := rngI v2_2; omega
theorem lf_c_copy_52_50_2 (M_2 : mM) (v2_2 : Int32) (j5_ : Nat) (z3_ : Int32) (hv0_2 : 0 ≤ v2_2.toInt) (hv1_2 : v2_2.toInt ≤ 3567) (hv2_2 : ∀ i : Nat, (i : Int) < v2_2.toInt → M_2.1 (50, 0, 0) i = M_2.1 (52, 0, 0) i) (h2_ : v2_2.toInt < 3567) (h6_ : (j5_ : Int) = v2_2.toInt) (e4_ : z3_ = M_2.1 (52, 0, 0) j5_) : 0 ≤ v2_2.toInt ∧ v2_2.toInt < ((3567 : Nat) : Int) := by have r_v2_2 := rngI v2_2; have r_z3_ := rngI z3_; subst e4_; omega
theorem lf_c_copy_52_50_3 (M7_ : mM) (M_2 : mM) (v2_2 : Int32) (j5_ : Nat) (z3_ : Int32) (j9_ : Nat) (hv0_2 : 0 ≤ v2_2.toInt) (hv1_2 : v2_2.toInt ≤ 3567) (hv2_2 : ∀ i : Nat, (i : Int) < v2_2.toInt → M_2.1 (50, 0, 0) i = M_2.1 (52, 0, 0) i) (h2_ : v2_2.toInt < 3567) (h6_ : (j5_ : Int) = v2_2.toInt) (e4_ : z3_ = M_2.1 (52, 0, 0) j5_) (h10_ : (j9_ : Int) = v2_2.toInt) (hM8_ : M7_ = up M_2 (50, 0, 0) j9_ z3_) : -2147483648 ≤ v2_2.toInt + 1 ∧ v2_2.toInt + 1 < 2147483648 := by have r_v2_2 := rngI v2_2; have r_z3_ := rngI z3_; subst e4_; omega
theorem lf_c_copy_52_50_4 (M7_ : mM) (M_2 : mM) (v2_2 : Int32) (j5_ : Nat) (z3_ : Int32) (j9_ : Nat) (z13_ : Int32) (hv0_2 : 0 ≤ v2_2.toInt) (hv1_2 : v2_2.toInt ≤ 3567) (hv2_2 : ∀ i : Nat, (i : Int) < v2_2.toInt → M_2.1 (50, 0, 0) i = M_2.1 (52, 0, 0) i) (h2_ : v2_2.toInt < 3567) (h6_ : (j5_ : Int) = v2_2.toInt) (e4_ : z3_ = M_2.1 (52, 0, 0) j5_) (h10_ : (j9_ : Int) = v2_2.toInt) (hM8_ : M7_ = up M_2 (50, 0, 0) j9_ z3_) (h14_ : z13_.toInt = v2_2.toInt + 1) : 0 ≤ z13_.toInt := by have r_v2_2 := rngI v2_2; have r_z3_ := rngI z3_; have r_z13_ := rngI z13_; subst e4_; omega
theorem lf_c_copy_52_50_5 (M7_ : mM) (M_2 : mM) (v2_2 : Int32) (j5_ : Nat) (z3_ : Int32) (j9_ : Nat) (z13_ : Int32) (hv0_2 : 0 ≤ v2_2.toInt) (hv1_2 : v2_2.toInt ≤ 3567) (hv2_2 : ∀ i : Nat, (i : Int) < v2_2.toInt → M_2.1 (50, 0, 0) i = M_2.1 (52, 0, 0) i) (h2_ : v2_2.toInt < 3567) (h6_ : (j5_ : Int) = v2_2.toInt) (e4_ : z3_ = M_2.1 (52, 0, 0) j5_) (h10_ : (j9_ : Int) = v2_2.toInt) (hM8_ : M7_ = up M_2 (50, 0, 0) j9_ z3_) (h14_ : z13_.toInt = v2_2.toInt + 1) : z13_.toInt ≤ 3567 := by have r_v2_2 := rngI v2_2; have r_z3_ := rngI z3_; have r_z13_ := rngI z13_; subst e4_; omega
theorem lf_c_copy_52_50_6 (M7_ : mM) (M_2 : mM) (v2_2 : Int32) (j5_ : Nat) (z3_ : Int32) (j9_ : Nat) (z13_ : Int32) (hv0_2 : 0 ≤ v2_2.toInt) (hv1_2 : v2_2.toInt ≤ 3567) (hv2_2 : ∀ i : Nat, (i : Int) < v2_2.toInt → M_2.1 (50, 0, 0) i = M_2.1 (52, 0, 0) i) (h2_ : v2_2.toInt < 3567) (h6_ : (j5_ : Int) = v2_2.toInt) (e4_ : z3_ = M_2.1 (52, 0, 0) j5_) (h10_ : (j9_ : Int) = v2_2.toInt) (hM8_ : M7_ = up M_2 (50, 0, 0) j9_ z3_) (h14_ : z13_.toInt = v2_2.toInt + 1) : (j9_ : Int) = v2_2.toInt := by have r_v2_2 := rngI v2_2; have r_z3_ := rngI z3_; have r_z13_ := rngI z13_; subst e4_; omega
theorem lf_c_copy_52_50_7 (M7_ : mM) (M_2 : mM) (v2_2 : Int32) (j5_ : Nat) (z3_ : Int32) (j9_ : Nat) (z13_ : Int32) (hv0_2 : 0 ≤ v2_2.toInt) (hv1_2 : v2_2.toInt ≤ 3567) (hv2_2 : ∀ i : Nat, (i : Int) < v2_2.toInt → M_2.1 (50, 0, 0) i = M_2.1 (52, 0, 0) i) (h2_ : v2_2.toInt < 3567) (h6_ : (j5_ : Int) = v2_2.toInt) (e4_ : z3_ = M_2.1 (52, 0, 0) j5_) (h10_ : (j9_ : Int) = v2_2.toInt) (hM8_ : M7_ = up M_2 (50, 0, 0) j9_ z3_) (h14_ : z13_.toInt = v2_2.toInt + 1) : (j5_ : Int) = v2_2.toInt := by have r_v2_2 := rngI v2_2; have r_z3_ := rngI z3_; have r_z13_ := rngI z13_; subst e4_; omega
theorem lf_c_copy_52_50_8 (M7_ : mM) (M_2 : mM) (v2_2 : Int32) (j5_ : Nat) (z3_ : Int32) (j9_ : Nat) (z13_ : Int32) (hv0_2 : 0 ≤ v2_2.toInt) (hv1_2 : v2_2.toInt ≤ 3567) (hv2_2 : ∀ i : Nat, (i : Int) < v2_2.toInt → M_2.1 (50, 0, 0) i = M_2.1 (52, 0, 0) i) (h2_ : v2_2.toInt < 3567) (h6_ : (j5_ : Int) = v2_2.toInt) (e4_ : z3_ = M_2.1 (52, 0, 0) j5_) (h10_ : (j9_ : Int) = v2_2.toInt) (hM8_ : M7_ = up M_2 (50, 0, 0) j9_ z3_) (h14_ : z13_.toInt = v2_2.toInt + 1) : z13_.toInt = v2_2.toInt + 1 := by have r_v2_2 := rngI v2_2; have r_z3_ := rngI z3_; have r_z13_ := rngI z13_; subst e4_; omega
theorem lf_c_copy_52_50_9 (M7_ : mM) (M_2 : mM) (v2_2 : Int32) (j5_ : Nat) (z3_ : Int32) (j9_ : Nat) (z13_ : Int32) (hv0_2 : 0 ≤ v2_2.toInt) (hv1_2 : v2_2.toInt ≤ 3567) (hv2_2 : ∀ i : Nat, (i : Int) < v2_2.toInt → M_2.1 (50, 0, 0) i = M_2.1 (52, 0, 0) i) (h2_ : v2_2.toInt < 3567) (h6_ : (j5_ : Int) = v2_2.toInt) (e4_ : z3_ = M_2.1 (52, 0, 0) j5_) (h10_ : (j9_ : Int) = v2_2.toInt) (hM8_ : M7_ = up M_2 (50, 0, 0) j9_ z3_) (h14_ : z13_.toInt = v2_2.toInt + 1) : (3567 - z13_.toInt).toNat < (3567 - v2_2.toInt).toNat := by have r_v2_2 := rngI v2_2; have r_z3_ := rngI z3_; have r_z13_ := rngI z13_; subst e4_; omega
theorem lf_c_copy_52_50_10    : 0 ≤ (0 : Int32).toInt := by have q0 := li_0; omega
theorem lf_c_copy_52_50_11    : (0 : Int32).toInt ≤ 3567 := by have q0 := li_0; omega
set_option maxHeartbeats 4000000 in
set_option maxRecDepth 100000 in
theorem c_copy_52_50 (l : Launch) (G : va_G) (cy : Nat → ClassId) (ad : rf → Nat) (d : Nat) (Mz : mM) (hIz : InvX50 Mz) : WP DD l G cy ad yX12_copy cX12_copy 3 none d 0 [(0, vR (52, 0, 0)), (1, vR (50, 0, 0))] [] Mz (fun r M' => InvX50 M' ∧ FR (S_c_copy_52_50) Mz M' ∧ ∀ i : Nat, (i : Int) < 3567 → M'.1 (50, 0, 0) i = M'.1 (52, 0, 0) i) := by
  have hFz : FR (S_c_copy_52_50) Mz Mz := FR.self
  refine w_iconst (v := 0) dX12_copy_0 (by decide) ?_
  refine w_istore_n (ls' := [(2, vI 0), (0, vR (52, 0, 0)), (1, vR (50, 0, 0))]) dX12_copy_1 rfl (by decide) rfl ?_
  have lp1_ : ∀ (nn_2 : Nat) (M_2 : mM) (hI_2 : InvX50 M_2) (hF_2 : FR (S_c_copy_52_50) Mz M_2) (v2_2 : Int32) (hv0_2 : 0 ≤ v2_2.toInt) (hv1_2 : v2_2.toInt ≤ 3567) (hv2_2 : ∀ i : Nat, (i : Int) < v2_2.toInt → M_2.1 (50, 0, 0) i = M_2.1 (52, 0, 0) i), (3567 - v2_2.toInt).toNat < nn_2 → WP DD l G cy ad yX12_copy cX12_copy 3 none d 2 [(2, vI v2_2), (0, vR (52, 0, 0)), (1, vR (50, 0, 0))] [] M_2 (fun r M' => InvX50 M' ∧ FR (S_c_copy_52_50) Mz M' ∧ ∀ i : Nat, (i : Int) < 3567 → M'.1 (50, 0, 0) i = M'.1 (52, 0, 0) i) := by
    intro nn_2
    induction nn_2 with
    | zero => intro M_2 hI_2 hF_2 v2_2 hv0_2 hv1_2 hv2_2 hm_2; exact absurd hm_2 (Nat.not_lt_zero _)
    | succ nn_2 ih_2 =>
      intro M_2 hI_2 hF_2 v2_2 hv0_2 hv1_2 hv2_2 hm_2
      refine w_iload_n dX12_copy_2 rfl 0 rfl ?_
      refine w_sipush (v := 3567) dX12_copy_3 (by decide) ?_
      refine w_icmp_ge (tgt := 21) dX12_copy_6 (by decide) (rfl : v2_2.toInt = v2_2.toInt) li_3567 (fun h2_ => ?_) (fun h2_ => ?_)
      · exact w_vret rfl dX12_copy_21 ⟨hI_2, hF_2, (fun i9 h9 => hv2_2 i9 (Int.lt_of_lt_of_le h9 (lf_c_copy_52_50_0 M_2 v2_2 hv0_2 hv1_2 hv2_2 h2_)))⟩
      · refine w_aload_n dX12_copy_9 rfl 2 rfl ?_
        refine w_iload_n dX12_copy_10 rfl 0 rfl ?_
        refine w_aload_n dX12_copy_11 rfl 1 rfl ?_
        refine w_iload_n dX12_copy_12 rfl 0 rfl ?_
        refine w_iald rfl rfl ic_52 (rfl : v2_2.toInt = v2_2.toInt) (lf_c_copy_52_50_1 M_2 v2_2 hv0_2 hv1_2 hv2_2 h2_) dX12_copy_13 (fun j5_ h6_ z3_ e4_ => ?_)
        refine w_iast DD_nd rfl rfl ic_50 (rfl : v2_2.toInt = v2_2.toInt) (lf_c_copy_52_50_2 M_2 v2_2 j5_ z3_ hv0_2 hv1_2 hv2_2 h2_ h6_ e4_) dX12_copy_14 (fun j9_ h10_ M7_ hM8_ => ?_)
        have hI11_ := hI_2.put hM8_ trivial
        have hF12_ := hF_2.put hM8_ (Or.inl ⟨rfl, rfl⟩)
        refine w_iincB (j := 0) (f := fun z13_ => [(2, vI z13_), (0, vR (52, 0, 0)), (1, vR (50, 0, 0))]) dX12_copy_15 rfl (by decide) (fun _ => rfl) (rfl : v2_2.toInt = v2_2.toInt) li_1 (lf_c_copy_52_50_3 M7_ M_2 v2_2 j5_ z3_ j9_ hv0_2 hv1_2 hv2_2 h2_ h6_ e4_ h10_ hM8_) (fun z13_ h14_ => ?_)
        refine w_goto (tgt := 2) dX12_copy_18 (by decide) ?_
        refine w_loc (ls' := [(2, vI z13_), (0, vR (52, 0, 0)), (1, vR (50, 0, 0))]) [0, 1, 2] rfl ?_
        exact ih_2 M7_ hI11_ hF12_ z13_ (lf_c_copy_52_50_4 M7_ M_2 v2_2 j5_ z3_ j9_ z13_ hv0_2 hv1_2 hv2_2 h2_ h6_ e4_ h10_ hM8_ h14_) (lf_c_copy_52_50_5 M7_ M_2 v2_2 j5_ z3_ j9_ z13_ hv0_2 hv1_2 hv2_2 h2_ h6_ e4_ h10_ hM8_ h14_) (cp_step (by decide) hv2_2 hM8_ e4_ (lf_c_copy_52_50_6 M7_ M_2 v2_2 j5_ z3_ j9_ z13_ hv0_2 hv1_2 hv2_2 h2_ h6_ e4_ h10_ hM8_ h14_) (lf_c_copy_52_50_7 M7_ M_2 v2_2 j5_ z3_ j9_ z13_ hv0_2 hv1_2 hv2_2 h2_ h6_ e4_ h10_ hM8_ h14_) (lf_c_copy_52_50_8 M7_ M_2 v2_2 j5_ z3_ j9_ z13_ hv0_2 hv1_2 hv2_2 h2_ h6_ e4_ h10_ hM8_ h14_)) (Nat.lt_of_lt_of_le (lf_c_copy_52_50_9 M7_ M_2 v2_2 j5_ z3_ j9_ z13_ hv0_2 hv1_2 hv2_2 h2_ h6_ e4_ h10_ hM8_ h14_) (Nat.le_of_lt_succ hm_2))
  exact lp1_ _ Mz hIz hFz 0 (lf_c_copy_52_50_10 ) (lf_c_copy_52_50_11 ) (fun i9 h9 => absurd h9 (by have := li_0; omega)) (Nat.lt_succ_self _)
def S_c_X12_image : rf → Nat → Prop := fun c k => (c.1 = 51 ∧ c.2.1 = 0) ∨ (c.1 = 12 ∧ c.2.1 = 0 ∧ k = 3) ∨ False
set_option maxHeartbeats 4000000 in
set_option maxRecDepth 100000 in
theorem c_X12_image (l : Launch) (G : va_G) (cy : Nat → ClassId) (ad : rf → Nat) (d : Nat) (Mz : mM) (hIz : InvD Mz) : WP DD l G cy ad yX12_image cX12_image 1 (some .int) (d + 1) 0 [(0, vR (12, 0, 0))] [] Mz (fun r M' => InvD M' ∧ FR (S_c_X12_image) Mz M' ∧ True) := by
  have hFz : FR (S_c_X12_image) Mz Mz := FR.self
  refine w_aload_n dX12_image_0 rfl 0 rfl ?_
  refine w_getR (c' := (50, 0, 0)) fl_RX12_9 rfl rfl ic_12 dX12_image_1 rfl ?_
  refine w_aload_n dX12_image_4 rfl 0 rfl ?_
  refine w_getR (c' := (51, 0, 0)) fl_RX12_13 rfl rfl ic_12 dX12_image_5 rfl ?_
  refine w_callSv (as := [vR (50, 0, 0), vR (51, 0, 0)]) (rest := []) (c_copy_50_51 l G cy ad d Mz (InvX51.of hIz)) kS_X12_copy (by decide +kernel) (Nat.le_of_ble_eq_true rfl) m_1843 rfl rfl (by decide) (Nat.le_of_ble_eq_true rfl) dX12_image_8 (fun M1_ q2_ => ?_)
  obtain ⟨hI4_, hF5_, h3_⟩ := q2_
  have hF6_ := hFz.tr hF5_ (fun c k => (fun h => h.elim (fun h => (Or.inl ⟨h.1, h.2⟩)) (fun h => h.elim)))
  have hI7_ : InvD M1_ := InvX51.toD50 hI4_ h3_
  refine w_aload_n dX12_image_11 rfl 0 rfl ?_
  refine w_dup dX12_image_12 rfl ?_
  refine w_getI fl_RX12_353 rfl rfl ic_12 dX12_image_13 (fun z8_ e9_ => ?_)
  refine w_iconst (v := 1) dX12_image_16 (by decide) ?_
  refine w_iadd dX12_image_17 (fun z10_ _ => ?_)
  refine w_putI DD_nd fl_RX12_353 rfl rfl ic_12 dX12_image_18 (fun M11_ hM12_ => ?_)
  have hI13_ := hI7_.put hM12_ ⟨trivial, Or.inl (by decide)⟩
  have hF14_ := hF6_.put hM12_ (Or.inr (Or.inl ⟨rfl, rfl, rfl⟩))
  refine w_aload_n dX12_image_21 rfl 0 rfl ?_
  refine w_getI fl_RX12_353 rfl rfl ic_12 dX12_image_22 (fun z15_ e16_ => ?_)
  exact w_iret rfl dX12_image_25 ⟨hI13_, hF14_, trivial⟩
def S_c_X12_restore : rf → Nat → Prop := fun c k => (c.1 = 50 ∧ c.2.1 = 0) ∨ (c.1 = 53 ∧ c.2.1 = 0) ∨ False
set_option maxHeartbeats 4000000 in
set_option maxRecDepth 100000 in
theorem c_X12_restore (l : Launch) (G : va_G) (cy : Nat → ClassId) (ad : rf → Nat) (d : Nat) (Mz : mM) (hIz : InvD Mz) : WP DD l G cy ad yX12_restore cX12_restore 1 (some .int) (d + 1) 0 [(0, vR (12, 0, 0))] [] Mz (fun r M' => InvD M' ∧ FR (S_c_X12_restore) Mz M' ∧ True) := by
  have hFz : FR (S_c_X12_restore) Mz Mz := FR.self
  refine w_aload_n dX12_restore_0 rfl 0 rfl ?_
  refine w_getI fl_RX12_353 rfl rfl ic_12 dX12_restore_1 (fun z1_ e2_ => ?_)
  refine w_if_ne (tgt := 14) dX12_restore_4 (by decide) (rfl : z1_.toInt = z1_.toInt) (fun h3_ => ?_) (fun h3_ => ?_)
  · refine w_aload_n dX12_restore_14 rfl 0 rfl ?_
    refine w_getR (c' := (51, 0, 0)) fl_RX12_13 rfl rfl ic_12 dX12_restore_15 rfl ?_
    refine w_aload_n dX12_restore_18 rfl 0 rfl ?_
    refine w_getR (c' := (50, 0, 0)) fl_RX12_9 rfl rfl ic_12 dX12_restore_19 rfl ?_
    refine w_callSv (as := [vR (51, 0, 0), vR (50, 0, 0)]) (rest := []) (c_copy_51_50 l G cy ad d Mz (InvX50.of hIz)) kS_X12_copy (by decide +kernel) (Nat.le_of_ble_eq_true rfl) m_1843 rfl rfl (by decide) (Nat.le_of_ble_eq_true rfl) dX12_restore_22 (fun M4_ q5_ => ?_)
    obtain ⟨hI7_, hF8_, h6_⟩ := q5_
    have hF9_ := hFz.tr hF8_ (fun c k => (fun h => h.elim (fun h => (Or.inl ⟨h.1, h.2⟩)) (fun h => h.elim)))
    have hI10_ : InvD M4_ := InvX50.toD51 hI7_ h6_
    refine w_aload_n dX12_restore_25 rfl 0 rfl ?_
    refine w_getR (c' := (50, 0, 0)) fl_RX12_9 rfl rfl ic_12 dX12_restore_26 rfl ?_
    refine w_iconst (v := 0) dX12_restore_29 (by decide) ?_
    refine w_ialdL 0 rfl rfl ic_50 li_0 (by decide) dX12_restore_30 (fun z11_ e12_ => ?_)
    exact w_iret rfl dX12_restore_31 ⟨hI10_, hF9_, trivial⟩
  · refine w_aload_n dX12_restore_7 rfl 0 rfl ?_
    refine w_ldc (v := (-1000002)) m_1500 dX12_restore_8 ?_
    refine w_callV (as := [vI (-1000002)]) (rest := []) (c_X12_finding l G cy ad d (-1000002) Mz hIz (by first | decide | (unfold vF; omega) | (unfold vRw; omega))) kV_X12_finding (by decide +kernel) (Nat.le_of_ble_eq_true rfl) m_1434 rfl rfl rfl ic_12 rfl rfl (by decide) (Nat.le_of_ble_eq_true rfl) dX12_restore_10 (fun r13_ M14_ q15_ => ?_)
    obtain ⟨hI17_, hF18_, h16_⟩ := q15_
    have hF19_ := hFz.tr hF18_ (fun c k => (fun h => h.elim (fun h => (Or.inr (Or.inl ⟨h.1, h.2⟩))) (fun h => h.elim)))
    simp only [li_m1000002] at h16_
    exact w_iret rfl dX12_restore_13 ⟨hI17_, hF19_, trivial⟩
def S_c_X12_check : rf → Nat → Prop := fun c k => (c.1 = 50 ∧ c.2.1 = 0 ∧ k = 5) ∨ (c.1 = 52 ∧ c.2.1 = 0) ∨ (c.1 = 50 ∧ c.2.1 = 0) ∨ (c.1 = 58 ∧ c.2.1 = 0 ∧ k = 0) ∨ (c.1 = 58 ∧ c.2.1 = 0 ∧ k = 1) ∨ (c.1 = 58 ∧ c.2.1 = 0 ∧ k = 2) ∨ (c.1 = 58 ∧ c.2.1 = 0 ∧ k = 3) ∨ (c.1 = 58 ∧ c.2.1 = 0 ∧ k = 4) ∨ (c.1 = 59 ∧ c.2.1 = 0) ∨ (c.1 = 53 ∧ c.2.1 = 0) ∨ False
theorem lf_c_X12_check_0    : PN 5 (0 : Int32) ∧ (5 < 345 ∨ 493 < 5) := by have q9 := li_0; unfold PN; omega
theorem lf_c_X12_check_1  (v : Int32) (r43_ : Int32) (h11_ : 0 ≤ v.toInt ∧ v.toInt ≤ 7) (h46_ : r43_.toInt = 180 + 9 * v.toInt) : -2147483648 ≤ r43_.toInt + 1 ∧ r43_.toInt + 1 < 2147483648 := by have r_v := rngI v; have r_r43_ := rngI r43_; omega
theorem lf_c_X12_check_2  (v : Int32) (r43_ : Int32) (z47_ : Int32) (h11_ : 0 ≤ v.toInt ∧ v.toInt ≤ 7) (h46_ : r43_.toInt = 180 + 9 * v.toInt) (h48_ : z47_.toInt = r43_.toInt + 1) : 0 ≤ z47_.toInt ∧ z47_.toInt < ((3567 : Nat) : Int) := by have r_v := rngI v; have r_r43_ := rngI r43_; have r_z47_ := rngI z47_; omega
theorem lf_c_X12_check_3 (M37_ : mM) (v : Int32) (r43_ : Int32) (z47_ : Int32) (j51_ : Nat) (z49_ : Int32) (h11_ : 0 ≤ v.toInt ∧ v.toInt ≤ 7) (h46_ : r43_.toInt = 180 + 9 * v.toInt) (h48_ : z47_.toInt = r43_.toInt + 1) (h52_ : (j51_ : Int) = z47_.toInt) (e50_ : z49_ = M37_.1 (50, 0, 0) j51_) : 180 ≤ j51_ ∧ j51_ < 252 ∧ j51_ % 9 = 1 := by have r_v := rngI v; have r_r43_ := rngI r43_; have r_z47_ := rngI z47_; have r_z49_ := rngI z49_; subst e50_; omega
theorem lf_c_X12_check_4 (Mz : mM) (z1_ : Int32) (v4_46 : Int32) (e2_ : z1_ = Mz.1 (50, 0, 0) 5) (h3_ : 0 ≤ z1_.toInt ∧ z1_.toInt ≤ 24) (hv0_46 : 0 ≤ v4_46.toInt) (hv1_46 : v4_46.toInt ≤ 24) (h21_ : v4_46.toInt < z1_.toInt) : -2147483648 ≤ 321 + v4_46.toInt ∧ 321 + v4_46.toInt < 2147483648 := by have r_z1_ := rngI z1_; have r_v4_46 := rngI v4_46; subst e2_; omega
theorem lf_c_X12_check_5 (Mz : mM) (z1_ : Int32) (v4_46 : Int32) (z54_ : Int32) (e2_ : z1_ = Mz.1 (50, 0, 0) 5) (h3_ : 0 ≤ z1_.toInt ∧ z1_.toInt ≤ 24) (hv0_46 : 0 ≤ v4_46.toInt) (hv1_46 : v4_46.toInt ≤ 24) (h21_ : v4_46.toInt < z1_.toInt) (h55_ : z54_.toInt = 321 + v4_46.toInt) : 0 ≤ z54_.toInt ∧ z54_.toInt < ((3567 : Nat) : Int) := by have r_z1_ := rngI z1_; have r_v4_46 := rngI v4_46; have r_z54_ := rngI z54_; subst e2_; omega
theorem lf_c_X12_check_6 (M37_ : mM) (Mz : mM) (v : Int32) (z1_ : Int32) (v4_46 : Int32) (r43_ : Int32) (z47_ : Int32) (j51_ : Nat) (z49_ : Int32) (z54_ : Int32) (j58_ : Nat) (z56_ : Int32) (e2_ : z1_ = Mz.1 (50, 0, 0) 5) (h3_ : 0 ≤ z1_.toInt ∧ z1_.toInt ≤ 24) (h11_ : 0 ≤ v.toInt ∧ v.toInt ≤ 7) (hv0_46 : 0 ≤ v4_46.toInt) (hv1_46 : v4_46.toInt ≤ 24) (h21_ : v4_46.toInt < z1_.toInt) (h46_ : r43_.toInt = 180 + 9 * v.toInt) (h48_ : z47_.toInt = r43_.toInt + 1) (h52_ : (j51_ : Int) = z47_.toInt) (e50_ : z49_ = M37_.1 (50, 0, 0) j51_) (h53_ : 0 ≤ z49_.toInt ∧ z49_.toInt ≤ 191) (h55_ : z54_.toInt = 321 + v4_46.toInt) (h59_ : (j58_ : Int) = z54_.toInt) (e57_ : z56_ = M37_.1 (50, 0, 0) j58_) (h60_ : ¬ z49_.toInt = z56_.toInt) : -2147483648 ≤ 1 + v4_46.toInt ∧ 1 + v4_46.toInt < 2147483648 := by have r_v := rngI v; have r_z1_ := rngI z1_; have r_v4_46 := rngI v4_46; have r_r43_ := rngI r43_; have r_z47_ := rngI z47_; have r_z49_ := rngI z49_; have r_z54_ := rngI z54_; have r_z56_ := rngI z56_; subst e2_; subst e50_; subst e57_; omega
theorem lf_c_X12_check_7 (M37_ : mM) (Mz : mM) (v : Int32) (z1_ : Int32) (v4_46 : Int32) (r43_ : Int32) (z47_ : Int32) (j51_ : Nat) (z49_ : Int32) (z54_ : Int32) (j58_ : Nat) (z56_ : Int32) (z61_ : Int32) (e2_ : z1_ = Mz.1 (50, 0, 0) 5) (h3_ : 0 ≤ z1_.toInt ∧ z1_.toInt ≤ 24) (h11_ : 0 ≤ v.toInt ∧ v.toInt ≤ 7) (hv0_46 : 0 ≤ v4_46.toInt) (hv1_46 : v4_46.toInt ≤ 24) (h21_ : v4_46.toInt < z1_.toInt) (h46_ : r43_.toInt = 180 + 9 * v.toInt) (h48_ : z47_.toInt = r43_.toInt + 1) (h52_ : (j51_ : Int) = z47_.toInt) (e50_ : z49_ = M37_.1 (50, 0, 0) j51_) (h53_ : 0 ≤ z49_.toInt ∧ z49_.toInt ≤ 191) (h55_ : z54_.toInt = 321 + v4_46.toInt) (h59_ : (j58_ : Int) = z54_.toInt) (e57_ : z56_ = M37_.1 (50, 0, 0) j58_) (h60_ : ¬ z49_.toInt = z56_.toInt) (h62_ : z61_.toInt = 1 + v4_46.toInt) : -2147483648 ≤ v4_46.toInt + 1 ∧ v4_46.toInt + 1 < 2147483648 := by have r_v := rngI v; have r_z1_ := rngI z1_; have r_v4_46 := rngI v4_46; have r_r43_ := rngI r43_; have r_z47_ := rngI z47_; have r_z49_ := rngI z49_; have r_z54_ := rngI z54_; have r_z56_ := rngI z56_; have r_z61_ := rngI z61_; subst e2_; subst e50_; subst e57_; omega
theorem lf_c_X12_check_8 (M37_ : mM) (Mz : mM) (v : Int32) (z1_ : Int32) (v4_46 : Int32) (r43_ : Int32) (z47_ : Int32) (j51_ : Nat) (z49_ : Int32) (z54_ : Int32) (j58_ : Nat) (z56_ : Int32) (z61_ : Int32) (z63_ : Int32) (e2_ : z1_ = Mz.1 (50, 0, 0) 5) (h3_ : 0 ≤ z1_.toInt ∧ z1_.toInt ≤ 24) (h11_ : 0 ≤ v.toInt ∧ v.toInt ≤ 7) (hv0_46 : 0 ≤ v4_46.toInt) (hv1_46 : v4_46.toInt ≤ 24) (h21_ : v4_46.toInt < z1_.toInt) (h46_ : r43_.toInt = 180 + 9 * v.toInt) (h48_ : z47_.toInt = r43_.toInt + 1) (h52_ : (j51_ : Int) = z47_.toInt) (e50_ : z49_ = M37_.1 (50, 0, 0) j51_) (h53_ : 0 ≤ z49_.toInt ∧ z49_.toInt ≤ 191) (h55_ : z54_.toInt = 321 + v4_46.toInt) (h59_ : (j58_ : Int) = z54_.toInt) (e57_ : z56_ = M37_.1 (50, 0, 0) j58_) (h60_ : ¬ z49_.toInt = z56_.toInt) (h62_ : z61_.toInt = 1 + v4_46.toInt) (h64_ : z63_.toInt = v4_46.toInt + 1) : 0 ≤ z63_.toInt := by have r_v := rngI v; have r_z1_ := rngI z1_; have r_v4_46 := rngI v4_46; have r_r43_ := rngI r43_; have r_z47_ := rngI z47_; have r_z49_ := rngI z49_; have r_z54_ := rngI z54_; have r_z56_ := rngI z56_; have r_z61_ := rngI z61_; have r_z63_ := rngI z63_; subst e2_; subst e50_; subst e57_; omega
theorem lf_c_X12_check_9 (M37_ : mM) (Mz : mM) (v : Int32) (z1_ : Int32) (v4_46 : Int32) (r43_ : Int32) (z47_ : Int32) (j51_ : Nat) (z49_ : Int32) (z54_ : Int32) (j58_ : Nat) (z56_ : Int32) (z61_ : Int32) (z63_ : Int32) (e2_ : z1_ = Mz.1 (50, 0, 0) 5) (h3_ : 0 ≤ z1_.toInt ∧ z1_.toInt ≤ 24) (h11_ : 0 ≤ v.toInt ∧ v.toInt ≤ 7) (hv0_46 : 0 ≤ v4_46.toInt) (hv1_46 : v4_46.toInt ≤ 24) (h21_ : v4_46.toInt < z1_.toInt) (h46_ : r43_.toInt = 180 + 9 * v.toInt) (h48_ : z47_.toInt = r43_.toInt + 1) (h52_ : (j51_ : Int) = z47_.toInt) (e50_ : z49_ = M37_.1 (50, 0, 0) j51_) (h53_ : 0 ≤ z49_.toInt ∧ z49_.toInt ≤ 191) (h55_ : z54_.toInt = 321 + v4_46.toInt) (h59_ : (j58_ : Int) = z54_.toInt) (e57_ : z56_ = M37_.1 (50, 0, 0) j58_) (h60_ : ¬ z49_.toInt = z56_.toInt) (h62_ : z61_.toInt = 1 + v4_46.toInt) (h64_ : z63_.toInt = v4_46.toInt + 1) : z63_.toInt ≤ 24 := by have r_v := rngI v; have r_z1_ := rngI z1_; have r_v4_46 := rngI v4_46; have r_r43_ := rngI r43_; have r_z47_ := rngI z47_; have r_z49_ := rngI z49_; have r_z54_ := rngI z54_; have r_z56_ := rngI z56_; have r_z61_ := rngI z61_; have r_z63_ := rngI z63_; subst e2_; subst e50_; subst e57_; omega
theorem lf_c_X12_check_10 (M37_ : mM) (Mz : mM) (v : Int32) (z1_ : Int32) (v4_46 : Int32) (r43_ : Int32) (z47_ : Int32) (j51_ : Nat) (z49_ : Int32) (z54_ : Int32) (j58_ : Nat) (z56_ : Int32) (z61_ : Int32) (z63_ : Int32) (e2_ : z1_ = Mz.1 (50, 0, 0) 5) (h3_ : 0 ≤ z1_.toInt ∧ z1_.toInt ≤ 24) (h11_ : 0 ≤ v.toInt ∧ v.toInt ≤ 7) (hv0_46 : 0 ≤ v4_46.toInt) (hv1_46 : v4_46.toInt ≤ 24) (h21_ : v4_46.toInt < z1_.toInt) (h46_ : r43_.toInt = 180 + 9 * v.toInt) (h48_ : z47_.toInt = r43_.toInt + 1) (h52_ : (j51_ : Int) = z47_.toInt) (e50_ : z49_ = M37_.1 (50, 0, 0) j51_) (h53_ : 0 ≤ z49_.toInt ∧ z49_.toInt ≤ 191) (h55_ : z54_.toInt = 321 + v4_46.toInt) (h59_ : (j58_ : Int) = z54_.toInt) (e57_ : z56_ = M37_.1 (50, 0, 0) j58_) (h60_ : ¬ z49_.toInt = z56_.toInt) (h62_ : z61_.toInt = 1 + v4_46.toInt) (h64_ : z63_.toInt = v4_46.toInt + 1) : (2147483648 - z63_.toInt).toNat < (2147483648 - v4_46.toInt).toNat := by have r_v := rngI v; have r_z1_ := rngI z1_; have r_v4_46 := rngI v4_46; have r_r43_ := rngI r43_; have r_z47_ := rngI z47_; have r_z49_ := rngI z49_; have r_z54_ := rngI z54_; have r_z56_ := rngI z56_; have r_z61_ := rngI z61_; have r_z63_ := rngI z63_; subst e2_; subst e50_; subst e57_; omega
theorem lf_c_X12_check_11 (M37_ : mM) (Mz : mM) (v : Int32) (z1_ : Int32) (v4_46 : Int32) (r43_ : Int32) (z47_ : Int32) (j51_ : Nat) (z49_ : Int32) (z54_ : Int32) (j58_ : Nat) (z56_ : Int32) (e2_ : z1_ = Mz.1 (50, 0, 0) 5) (h3_ : 0 ≤ z1_.toInt ∧ z1_.toInt ≤ 24) (h11_ : 0 ≤ v.toInt ∧ v.toInt ≤ 7) (hv0_46 : 0 ≤ v4_46.toInt) (hv1_46 : v4_46.toInt ≤ 24) (h21_ : v4_46.toInt < z1_.toInt) (h46_ : r43_.toInt = 180 + 9 * v.toInt) (h48_ : z47_.toInt = r43_.toInt + 1) (h52_ : (j51_ : Int) = z47_.toInt) (e50_ : z49_ = M37_.1 (50, 0, 0) j51_) (h53_ : 0 ≤ z49_.toInt ∧ z49_.toInt ≤ 191) (h55_ : z54_.toInt = 321 + v4_46.toInt) (h59_ : (j58_ : Int) = z54_.toInt) (e57_ : z56_ = M37_.1 (50, 0, 0) j58_) (h60_ : z49_.toInt = z56_.toInt) : -2147483648 ≤ v4_46.toInt + 1 ∧ v4_46.toInt + 1 < 2147483648 := by have r_v := rngI v; have r_z1_ := rngI z1_; have r_v4_46 := rngI v4_46; have r_r43_ := rngI r43_; have r_z47_ := rngI z47_; have r_z49_ := rngI z49_; have r_z54_ := rngI z54_; have r_z56_ := rngI z56_; subst e2_; subst e50_; subst e57_; omega
theorem lf_c_X12_check_12 (M37_ : mM) (Mz : mM) (v : Int32) (z1_ : Int32) (v4_46 : Int32) (r43_ : Int32) (z47_ : Int32) (j51_ : Nat) (z49_ : Int32) (z54_ : Int32) (j58_ : Nat) (z56_ : Int32) (z65_ : Int32) (e2_ : z1_ = Mz.1 (50, 0, 0) 5) (h3_ : 0 ≤ z1_.toInt ∧ z1_.toInt ≤ 24) (h11_ : 0 ≤ v.toInt ∧ v.toInt ≤ 7) (hv0_46 : 0 ≤ v4_46.toInt) (hv1_46 : v4_46.toInt ≤ 24) (h21_ : v4_46.toInt < z1_.toInt) (h46_ : r43_.toInt = 180 + 9 * v.toInt) (h48_ : z47_.toInt = r43_.toInt + 1) (h52_ : (j51_ : Int) = z47_.toInt) (e50_ : z49_ = M37_.1 (50, 0, 0) j51_) (h53_ : 0 ≤ z49_.toInt ∧ z49_.toInt ≤ 191) (h55_ : z54_.toInt = 321 + v4_46.toInt) (h59_ : (j58_ : Int) = z54_.toInt) (e57_ : z56_ = M37_.1 (50, 0, 0) j58_) (h60_ : z49_.toInt = z56_.toInt) (h66_ : z65_.toInt = v4_46.toInt + 1) : 0 ≤ z65_.toInt := by have r_v := rngI v; have r_z1_ := rngI z1_; have r_v4_46 := rngI v4_46; have r_r43_ := rngI r43_; have r_z47_ := rngI z47_; have r_z49_ := rngI z49_; have r_z54_ := rngI z54_; have r_z56_ := rngI z56_; have r_z65_ := rngI z65_; have q0 := li_0; subst e2_; subst e50_; subst e57_; omega
theorem lf_c_X12_check_13 (M37_ : mM) (Mz : mM) (v : Int32) (z1_ : Int32) (v4_46 : Int32) (r43_ : Int32) (z47_ : Int32) (j51_ : Nat) (z49_ : Int32) (z54_ : Int32) (j58_ : Nat) (z56_ : Int32) (z65_ : Int32) (e2_ : z1_ = Mz.1 (50, 0, 0) 5) (h3_ : 0 ≤ z1_.toInt ∧ z1_.toInt ≤ 24) (h11_ : 0 ≤ v.toInt ∧ v.toInt ≤ 7) (hv0_46 : 0 ≤ v4_46.toInt) (hv1_46 : v4_46.toInt ≤ 24) (h21_ : v4_46.toInt < z1_.toInt) (h46_ : r43_.toInt = 180 + 9 * v.toInt) (h48_ : z47_.toInt = r43_.toInt + 1) (h52_ : (j51_ : Int) = z47_.toInt) (e50_ : z49_ = M37_.1 (50, 0, 0) j51_) (h53_ : 0 ≤ z49_.toInt ∧ z49_.toInt ≤ 191) (h55_ : z54_.toInt = 321 + v4_46.toInt) (h59_ : (j58_ : Int) = z54_.toInt) (e57_ : z56_ = M37_.1 (50, 0, 0) j58_) (h60_ : z49_.toInt = z56_.toInt) (h66_ : z65_.toInt = v4_46.toInt + 1) : z65_.toInt ≤ 24 := by have r_v := rngI v; have r_z1_ := rngI z1_; have r_v4_46 := rngI v4_46; have r_r43_ := rngI r43_; have r_z47_ := rngI z47_; have r_z49_ := rngI z49_; have r_z54_ := rngI z54_; have r_z56_ := rngI z56_; have r_z65_ := rngI z65_; have q0 := li_0; subst e2_; subst e50_; subst e57_; omega
theorem lf_c_X12_check_14 (M37_ : mM) (Mz : mM) (v : Int32) (z1_ : Int32) (v4_46 : Int32) (r43_ : Int32) (z47_ : Int32) (j51_ : Nat) (z49_ : Int32) (z54_ : Int32) (j58_ : Nat) (z56_ : Int32) (z65_ : Int32) (e2_ : z1_ = Mz.1 (50, 0, 0) 5) (h3_ : 0 ≤ z1_.toInt ∧ z1_.toInt ≤ 24) (h11_ : 0 ≤ v.toInt ∧ v.toInt ≤ 7) (hv0_46 : 0 ≤ v4_46.toInt) (hv1_46 : v4_46.toInt ≤ 24) (h21_ : v4_46.toInt < z1_.toInt) (h46_ : r43_.toInt = 180 + 9 * v.toInt) (h48_ : z47_.toInt = r43_.toInt + 1) (h52_ : (j51_ : Int) = z47_.toInt) (e50_ : z49_ = M37_.1 (50, 0, 0) j51_) (h53_ : 0 ≤ z49_.toInt ∧ z49_.toInt ≤ 191) (h55_ : z54_.toInt = 321 + v4_46.toInt) (h59_ : (j58_ : Int) = z54_.toInt) (e57_ : z56_ = M37_.1 (50, 0, 0) j58_) (h60_ : z49_.toInt = z56_.toInt) (h66_ : z65_.toInt = v4_46.toInt + 1) : (2147483648 - z65_.toInt).toNat < (2147483648 - v4_46.toInt).toNat := by have r_v := rngI v; have r_z1_ := rngI z1_; have r_v4_46 := rngI v4_46; have r_r43_ := rngI r43_; have r_z47_ := rngI z47_; have r_z49_ := rngI z49_; have r_z54_ := rngI z54_; have r_z56_ := rngI z56_; have r_z65_ := rngI z65_; have q0 := li_0; subst e2_; subst e50_; subst e57_; omega
theorem lf_c_X12_check_15    : 0 ≤ (0 : Int32).toInt := by have q0 := li_0; omega
theorem lf_c_X12_check_16    : (0 : Int32).toInt ≤ 24 := by have q0 := li_0; omega
set_option maxHeartbeats 4000000 in
set_option maxRecDepth 100000 in
theorem c_X12_check (l : Launch) (G : va_G) (cy : Nat → ClassId) (ad : rf → Nat) (d : Nat) (v : Int32) (Mz : mM) (hIz : InvD Mz) : WP DD l G cy ad yX12_check cX12_check 5 (some .int) (d + 8) 0 [(0, vR (12, 0, 0)), (1, vI v)] [] Mz (fun r M' => InvD M' ∧ FR (S_c_X12_check) Mz M' ∧ True) := by
  have hFz : FR (S_c_X12_check) Mz Mz := FR.self
  refine w_aload_n dX12_check_0 rfl 0 rfl ?_
  refine w_getR (c' := (50, 0, 0)) fl_RX12_9 rfl rfl ic_12 dX12_check_1 rfl ?_
  refine w_iconst (v := 5) dX12_check_4 (by decide) ?_
  refine w_ialdL 5 rfl rfl ic_50 li_5 (by decide) dX12_check_5 (fun z1_ e2_ => ?_)
  have h3_ : 0 ≤ z1_.toInt ∧ z1_.toInt ≤ 24 := pn_5 hIz e2_
  refine w_istore_n (ls' := [(2, vI z1_), (0, vR (12, 0, 0)), (1, vI v)]) dX12_check_6 rfl (by decide) rfl ?_
  refine w_aload_n dX12_check_7 rfl 1 rfl ?_
  refine w_getR (c' := (50, 0, 0)) fl_RX12_9 rfl rfl ic_12 dX12_check_8 rfl ?_
  refine w_iconst (v := 5) dX12_check_11 (by decide) ?_
  refine w_iconst (v := 0) dX12_check_12 (by decide) ?_
  refine w_iastL 5 DD_nd rfl rfl ic_50 li_5 (by decide) dX12_check_13 (fun M4_ hM5_ => ?_)
  have hI6_ := hIz.put50 hM5_ (lf_c_X12_check_0 )
  have hF7_ := hFz.put hM5_ (Or.inl ⟨rfl, rfl, rfl⟩)
  refine w_aload_n dX12_check_14 rfl 1 rfl ?_
  refine w_iload_n dX12_check_15 rfl 2 rfl ?_
  refine w_iconst (v := 2) dX12_check_16 (by decide) ?_
  refine w_callV (as := [vI v, vI 2]) (rest := []) (c_is2 l G cy ad (d + 6) v M4_ hI6_) kV_X12_is (by decide +kernel) (Nat.le_of_ble_eq_true rfl) m_1465 rfl rfl rfl ic_12 rfl rfl (by decide) (Nat.le_of_ble_eq_true rfl) dX12_check_17 (fun r8_ M9_ q10_ => ?_)
  obtain ⟨rfl, h11_⟩ := q10_
  rcases h11_ with ⟨rfl, h11_⟩ | rfl
  · refine w_if_ne (tgt := 30) dX12_check_20 (by decide) li_1 (fun h12_ => ?_) (fun h9 => (absurd h9 (by decide)))
    refine w_aload_n dX12_check_30 rfl 1 rfl ?_
    refine w_getR (c' := (50, 0, 0)) fl_RX12_9 rfl rfl ic_12 dX12_check_31 rfl ?_
    refine w_aload_n dX12_check_34 rfl 1 rfl ?_
    refine w_getR (c' := (52, 0, 0)) fl_RX12_16 rfl rfl ic_12 dX12_check_35 rfl ?_
    refine w_callSv (as := [vR (50, 0, 0), vR (52, 0, 0)]) (rest := []) (c_copy_50_52 l G cy ad (d + 7) M4_ (InvX52.of hI6_)) kS_X12_copy (by decide +kernel) (Nat.le_of_ble_eq_true rfl) m_1843 rfl rfl (by decide) (Nat.le_of_ble_eq_true rfl) dX12_check_38 (fun M13_ q14_ => ?_)
    obtain ⟨hI16_, hF17_, h15_⟩ := q14_
    have hF18_ := hF7_.tr hF17_ (fun c k => (fun h => h.elim (fun h => (Or.inr (Or.inl ⟨h.1, h.2⟩))) (fun h => h.elim)))
    have hI19_ : InvD M13_ := InvX52.toD50 hI16_ h15_
    refine w_iconst (v := 0) dX12_check_41 (by decide) ?_
    refine w_istore_n (ls' := [(3, vI 0), (2, vI z1_), (0, vR (12, 0, 0)), (1, vI v)]) dX12_check_42 rfl (by decide) rfl ?_
    refine w_iconst (v := 0) dX12_check_43 (by decide) ?_
    refine w_istore (ls' := [(4, vI 0), (3, vI 0), (2, vI z1_), (0, vR (12, 0, 0)), (1, vI v)]) dX12_check_44 (by decide) rfl ?_
    have lp20_ : ∀ (nn_46 : Nat) (M_46 : mM) (hI_46 : InvD M_46) (hF_46 : FR (S_c_X12_check) Mz M_46) (v4_46 : Int32) (v3_46 : Int32) (hv0_46 : 0 ≤ v4_46.toInt) (hv1_46 : v4_46.toInt ≤ 24), (2147483648 - v4_46.toInt).toNat < nn_46 → WP DD l G cy ad yX12_check cX12_check 5 (some .int) (d + 8) 46 [(4, vI v4_46), (3, vI v3_46), (2, vI z1_), (0, vR (12, 0, 0)), (1, vI v)] [] M_46 (fun r M' => InvD M' ∧ FR (S_c_X12_check) Mz M' ∧ True) := by
      intro nn_46
      induction nn_46 with
      | zero => intro M_46 hI_46 hF_46 v4_46 v3_46 hv0_46 hv1_46 hm_46; exact absurd hm_46 (Nat.not_lt_zero _)
      | succ nn_46 ih_46 =>
        intro M_46 hI_46 hF_46 v4_46 v3_46 hv0_46 hv1_46 hm_46
        refine w_iload dX12_check_46 0 rfl ?_
        refine w_iload_n dX12_check_48 rfl 2 rfl ?_
        refine w_icmp_ge (tgt := 101) dX12_check_49 (by decide) (rfl : v4_46.toInt = v4_46.toInt) (rfl : z1_.toInt = z1_.toInt) (fun h21_ => ?_) (fun h21_ => ?_)
        · refine w_aload_n dX12_check_101 rfl 3 rfl ?_
          refine w_getR (c' := (52, 0, 0)) fl_RX12_16 rfl rfl ic_12 dX12_check_102 rfl ?_
          refine w_aload_n dX12_check_105 rfl 3 rfl ?_
          refine w_getR (c' := (50, 0, 0)) fl_RX12_9 rfl rfl ic_12 dX12_check_106 rfl ?_
          refine w_callSv (as := [vR (52, 0, 0), vR (50, 0, 0)]) (rest := []) (c_copy_52_50 l G cy ad (d + 7) M_46 (InvX50.of hI_46)) kS_X12_copy (by decide +kernel) (Nat.le_of_ble_eq_true rfl) m_1843 rfl rfl (by decide) (Nat.le_of_ble_eq_true rfl) dX12_check_109 (fun M22_ q23_ => ?_)
          obtain ⟨hI25_, hF26_, h24_⟩ := q23_
          have hF27_ := hF_46.tr hF26_ (fun c k => (fun h => h.elim (fun h => (Or.inr (Or.inr (Or.inl ⟨h.1, h.2⟩)))) (fun h => h.elim)))
          have hI28_ : InvD M22_ := InvX50.toD52 hI25_ h24_
          refine w_iload_n dX12_check_112 rfl 1 rfl ?_
          exact w_iret rfl dX12_check_113 ⟨hI28_, hF27_, trivial⟩
        · refine w_iload_n dX12_check_52 rfl 1 rfl ?_
          refine w_if_ne (tgt := 101) dX12_check_53 (by decide) (rfl : v3_46.toInt = v3_46.toInt) (fun h29_ => ?_) (fun h29_ => ?_)
          · refine w_aload_n dX12_check_101 rfl 3 rfl ?_
            refine w_getR (c' := (52, 0, 0)) fl_RX12_16 rfl rfl ic_12 dX12_check_102 rfl ?_
            refine w_aload_n dX12_check_105 rfl 3 rfl ?_
            refine w_getR (c' := (50, 0, 0)) fl_RX12_9 rfl rfl ic_12 dX12_check_106 rfl ?_
            refine w_callSv (as := [vR (52, 0, 0), vR (50, 0, 0)]) (rest := []) (c_copy_52_50 l G cy ad (d + 7) M_46 (InvX50.of hI_46)) kS_X12_copy (by decide +kernel) (Nat.le_of_ble_eq_true rfl) m_1843 rfl rfl (by decide) (Nat.le_of_ble_eq_true rfl) dX12_check_109 (fun M30_ q31_ => ?_)
            obtain ⟨hI33_, hF34_, h32_⟩ := q31_
            have hF35_ := hF_46.tr hF34_ (fun c k => (fun h => h.elim (fun h => (Or.inr (Or.inr (Or.inl ⟨h.1, h.2⟩)))) (fun h => h.elim)))
            have hI36_ : InvD M30_ := InvX50.toD52 hI33_ h32_
            refine w_iload_n dX12_check_112 rfl 1 rfl ?_
            exact w_iret rfl dX12_check_113 ⟨hI36_, hF35_, trivial⟩
          · refine w_aload_n dX12_check_56 rfl 3 rfl ?_
            refine w_callVv (as := []) (rest := []) (c_X12_tenth l G cy ad d M_46 hI_46) kV_X12_tenth (by decide +kernel) (Nat.le_of_ble_eq_true rfl) m_1738 rfl rfl rfl ic_12 rfl rfl (by decide) (Nat.le_of_ble_eq_true rfl) dX12_check_57 (fun M37_ q38_ => ?_)
            obtain ⟨hI40_, hF41_, h39_⟩ := q38_
            have hF42_ := hF_46.tr hF41_ (fun c k => (fun h => h.elim (fun h => (Or.inr (Or.inr (Or.inl ⟨h.1, h.2.1⟩)))) (fun h => h.elim (fun h => (Or.inr (Or.inr (Or.inr (Or.inl ⟨h.1, h.2.1, h.2.2⟩))))) (fun h => h.elim (fun h => (Or.inr (Or.inr (Or.inr (Or.inr (Or.inl ⟨h.1, h.2.1, h.2.2⟩)))))) (fun h => h.elim (fun h => (Or.inr (Or.inr (Or.inr (Or.inr (Or.inr (Or.inl ⟨h.1, h.2.1, h.2.2⟩))))))) (fun h => h.elim (fun h => (Or.inr (Or.inr (Or.inr (Or.inr (Or.inr (Or.inr (Or.inl ⟨h.1, h.2.1, h.2.2⟩)))))))) (fun h => h.elim (fun h => (Or.inr (Or.inr (Or.inr (Or.inr (Or.inr (Or.inr (Or.inr (Or.inl ⟨h.1, h.2.1, h.2.2⟩))))))))) (fun h => h.elim (fun h => (Or.inr (Or.inr (Or.inr (Or.inr (Or.inr (Or.inr (Or.inr (Or.inr (Or.inl ⟨h.1, h.2⟩)))))))))) (fun h => h.elim (fun h => (Or.inr (Or.inr (Or.inl ⟨h.1, h.2⟩)))) (fun h => h.elim))))))))))
            refine w_aload_n dX12_check_60 rfl 3 rfl ?_
            refine w_getR (c' := (50, 0, 0)) fl_RX12_9 rfl rfl ic_12 dX12_check_61 rfl ?_
            refine w_aload_n dX12_check_64 rfl 3 rfl ?_
            refine w_iload_n dX12_check_65 rfl 4 rfl ?_
            refine w_callV (as := [vI v]) (rest := [vR (50, 0, 0)]) (c_X12_goer l G cy ad (d + 7) v M37_ hI40_ h11_) kV_X12_goer (by decide +kernel) (Nat.le_of_ble_eq_true rfl) m_1451 rfl rfl rfl ic_12 rfl rfl (by decide) (Nat.le_of_ble_eq_true rfl) dX12_check_66 (fun r43_ M44_ q45_ => ?_)
            obtain ⟨rfl, h46_⟩ := q45_
            refine w_iconst (v := 1) dX12_check_69 (by decide) ?_
            refine w_iaddB dX12_check_70 (rfl : r43_.toInt = r43_.toInt) li_1 (lf_c_X12_check_1 v r43_ h11_ h46_) (fun z47_ h48_ => ?_)
            refine w_iald rfl rfl ic_50 (rfl : z47_.toInt = z47_.toInt) (lf_c_X12_check_2 v r43_ z47_ h11_ h46_ h48_) dX12_check_71 (fun j51_ h52_ z49_ e50_ => ?_)
            have h53_ : 0 ≤ z49_.toInt ∧ z49_.toInt ≤ 191 := pn_wc hI40_ e50_ (lf_c_X12_check_3 M37_ v r43_ z47_ j51_ z49_ h11_ h46_ h48_ h52_ e50_)
            refine w_aload_n dX12_check_72 rfl 3 rfl ?_
            refine w_getR (c' := (50, 0, 0)) fl_RX12_9 rfl rfl ic_12 dX12_check_73 rfl ?_
            refine w_sipush (v := 321) dX12_check_76 (by decide) ?_
            refine w_iload dX12_check_79 0 rfl ?_
            refine w_iaddB dX12_check_81 li_321 (rfl : v4_46.toInt = v4_46.toInt) (lf_c_X12_check_4 Mz z1_ v4_46 e2_ h3_ hv0_46 hv1_46 h21_) (fun z54_ h55_ => ?_)
            refine w_iald rfl rfl ic_50 (rfl : z54_.toInt = z54_.toInt) (lf_c_X12_check_5 Mz z1_ v4_46 z54_ e2_ h3_ hv0_46 hv1_46 h21_ h55_) dX12_check_82 (fun j58_ h59_ z56_ e57_ => ?_)
            refine w_icmp_ne (tgt := 90) dX12_check_83 (by decide) (rfl : z49_.toInt = z49_.toInt) (rfl : z56_.toInt = z56_.toInt) (fun h60_ => ?_) (fun h60_ => ?_)
            · refine w_iconst (v := 1) dX12_check_90 (by decide) ?_
              refine w_iload dX12_check_91 0 rfl ?_
              refine w_iaddB dX12_check_93 li_1 (rfl : v4_46.toInt = v4_46.toInt) (lf_c_X12_check_6 M37_ Mz v z1_ v4_46 r43_ z47_ j51_ z49_ z54_ j58_ z56_ e2_ h3_ h11_ hv0_46 hv1_46 h21_ h46_ h48_ h52_ e50_ h53_ h55_ h59_ e57_ h60_) (fun z61_ h62_ => ?_)
              refine w_istore_n (ls' := [(3, vI z61_), (4, vI v4_46), (2, vI z1_), (0, vR (12, 0, 0)), (1, vI v)]) dX12_check_94 rfl (by decide) rfl ?_
              refine w_iincB (j := 1) (f := fun z63_ => [(4, vI z63_), (3, vI z61_), (2, vI z1_), (0, vR (12, 0, 0)), (1, vI v)]) dX12_check_95 rfl (by decide) (fun _ => rfl) (rfl : v4_46.toInt = v4_46.toInt) li_1 (lf_c_X12_check_7 M37_ Mz v z1_ v4_46 r43_ z47_ j51_ z49_ z54_ j58_ z56_ z61_ e2_ h3_ h11_ hv0_46 hv1_46 h21_ h46_ h48_ h52_ e50_ h53_ h55_ h59_ e57_ h60_ h62_) (fun z63_ h64_ => ?_)
              refine w_goto (tgt := 46) dX12_check_98 (by decide) ?_
              refine w_loc (ls' := [(4, vI z63_), (3, vI z61_), (2, vI z1_), (0, vR (12, 0, 0)), (1, vI v)]) [0, 1, 2, 3, 4] rfl ?_
              exact ih_46 M37_ hI40_ hF42_ z63_ z61_ (lf_c_X12_check_8 M37_ Mz v z1_ v4_46 r43_ z47_ j51_ z49_ z54_ j58_ z56_ z61_ z63_ e2_ h3_ h11_ hv0_46 hv1_46 h21_ h46_ h48_ h52_ e50_ h53_ h55_ h59_ e57_ h60_ h62_ h64_) (lf_c_X12_check_9 M37_ Mz v z1_ v4_46 r43_ z47_ j51_ z49_ z54_ j58_ z56_ z61_ z63_ e2_ h3_ h11_ hv0_46 hv1_46 h21_ h46_ h48_ h52_ e50_ h53_ h55_ h59_ e57_ h60_ h62_ h64_) (Nat.lt_of_lt_of_le (lf_c_X12_check_10 M37_ Mz v z1_ v4_46 r43_ z47_ j51_ z49_ z54_ j58_ z56_ z61_ z63_ e2_ h3_ h11_ hv0_46 hv1_46 h21_ h46_ h48_ h52_ e50_ h53_ h55_ h59_ e57_ h60_ h62_ h64_) (Nat.le_of_lt_succ hm_46))
            · refine w_iconst (v := 0) dX12_check_86 (by decide) ?_
              refine w_goto (tgt := 94) dX12_check_87 (by decide) ?_
              refine w_istore_n (ls' := [(3, vI 0), (4, vI v4_46), (2, vI z1_), (0, vR (12, 0, 0)), (1, vI v)]) dX12_check_94 rfl (by decide) rfl ?_
              refine w_iincB (j := 1) (f := fun z65_ => [(4, vI z65_), (3, vI 0), (2, vI z1_), (0, vR (12, 0, 0)), (1, vI v)]) dX12_check_95 rfl (by decide) (fun _ => rfl) (rfl : v4_46.toInt = v4_46.toInt) li_1 (lf_c_X12_check_11 M37_ Mz v z1_ v4_46 r43_ z47_ j51_ z49_ z54_ j58_ z56_ e2_ h3_ h11_ hv0_46 hv1_46 h21_ h46_ h48_ h52_ e50_ h53_ h55_ h59_ e57_ h60_) (fun z65_ h66_ => ?_)
              refine w_goto (tgt := 46) dX12_check_98 (by decide) ?_
              refine w_loc (ls' := [(4, vI z65_), (3, vI 0), (2, vI z1_), (0, vR (12, 0, 0)), (1, vI v)]) [0, 1, 2, 3, 4] rfl ?_
              exact ih_46 M37_ hI40_ hF42_ z65_ 0 (lf_c_X12_check_12 M37_ Mz v z1_ v4_46 r43_ z47_ j51_ z49_ z54_ j58_ z56_ z65_ e2_ h3_ h11_ hv0_46 hv1_46 h21_ h46_ h48_ h52_ e50_ h53_ h55_ h59_ e57_ h60_ h66_) (lf_c_X12_check_13 M37_ Mz v z1_ v4_46 r43_ z47_ j51_ z49_ z54_ j58_ z56_ z65_ e2_ h3_ h11_ hv0_46 hv1_46 h21_ h46_ h48_ h52_ e50_ h53_ h55_ h59_ e57_ h60_ h66_) (Nat.lt_of_lt_of_le (lf_c_X12_check_14 M37_ Mz v z1_ v4_46 r43_ z47_ j51_ z49_ z54_ j58_ z56_ z65_ e2_ h3_ h11_ hv0_46 hv1_46 h21_ h46_ h48_ h52_ e50_ h53_ h55_ h59_ e57_ h60_ h66_) (Nat.le_of_lt_succ hm_46))
    exact lp20_ _ M13_ hI19_ hF18_ 0 0 (lf_c_X12_check_15 ) (lf_c_X12_check_16 ) (Nat.lt_succ_self _)
  · refine w_if_ne (tgt := 30) dX12_check_20 (by decide) li_0 (fun h9 => (absurd h9 (by decide))) (fun h67_ => ?_)
    refine w_aload_n dX12_check_23 rfl 1 rfl ?_
    refine w_ldc (v := (-1000001)) m_1433 dX12_check_24 ?_
    refine w_callV (as := [vI (-1000001)]) (rest := []) (c_X12_finding l G cy ad (d + 7) (-1000001) M4_ hI6_ (by first | decide | (unfold vF; omega) | (unfold vRw; omega))) kV_X12_finding (by decide +kernel) (Nat.le_of_ble_eq_true rfl) m_1434 rfl rfl rfl ic_12 rfl rfl (by decide) (Nat.le_of_ble_eq_true rfl) dX12_check_26 (fun r68_ M69_ q70_ => ?_)
    obtain ⟨hI72_, hF73_, h71_⟩ := q70_
    have hF74_ := hF7_.tr hF73_ (fun c k => (fun h => h.elim (fun h => (Or.inr (Or.inr (Or.inr (Or.inr (Or.inr (Or.inr (Or.inr (Or.inr (Or.inr (Or.inl ⟨h.1, h.2⟩))))))))))) (fun h => h.elim)))
    simp only [li_m1000001] at h71_
    exact w_iret rfl dX12_check_29 ⟨hI72_, hF74_, trivial⟩
