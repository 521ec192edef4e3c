def S_c_X11_errorX : rf → Nat → Prop := fun c k => (c.1 = 44 ∧ c.2.1 = 0) ∨ False
theorem lf_c_X11_errorX_0  (v : Int32) (hv : 0 ≤ v.toInt ∧ v.toInt ≤ 6) (h9 : v.toInt < 0) : False := by have r_v := rngI v; omega
theorem lf_c_X11_errorX_1  (v : Int32) (hv : 0 ≤ v.toInt ∧ v.toInt ≤ 6) (h1_ : 0 ≤ v.toInt) (h9 : 7 ≤ v.toInt) : False := by have r_v := rngI v; omega
theorem lf_c_X11_errorX_2  (v : Int32) (hv : 0 ≤ v.toInt ∧ v.toInt ≤ 6) (h1_ : 0 ≤ v.toInt) (h2_ : v.toInt < 7) : 0 ≤ v.toInt ∧ v.toInt < ((7 : Nat) : Int) := by have r_v := rngI v; omega
theorem lf_c_X11_errorX_3 (Mz : mM) (v : Int32) (j5_ : Nat) (z3_ : Int32) (hv : 0 ≤ v.toInt ∧ v.toInt ≤ 6) (h1_ : 0 ≤ v.toInt) (h2_ : v.toInt < 7) (h6_ : (j5_ : Int) = v.toInt) (e4_ : z3_ = Mz.1 (44, 0, 0) j5_) : 0 ≤ v.toInt ∧ v.toInt < ((7 : Nat) : Int) := by have r_v := rngI v; have r_z3_ := rngI z3_; subst e4_; omega
theorem lf_c_X11_errorX_4 (M8_ : mM) (Mz : mM) (v : Int32) (j5_ : Nat) (z3_ : Int32) (z7_ : Int32) (j10_ : Nat) (hv : 0 ≤ v.toInt ∧ v.toInt ≤ 6) (h1_ : 0 ≤ v.toInt) (h2_ : v.toInt < 7) (h6_ : (j5_ : Int) = v.toInt) (e4_ : z3_ = Mz.1 (44, 0, 0) j5_) (h11_ : (j10_ : Int) = v.toInt) (hM9_ : M8_ = up Mz (44, 0, 0) j10_ z7_) : -2147483648 ≤ -1000000 - v.toInt ∧ -1000000 - v.toInt < 2147483648 := by have r_v := rngI v; have r_z3_ := rngI z3_; have r_z7_ := rngI z7_; subst e4_; omega
set_option maxHeartbeats 4000000 in
set_option maxRecDepth 100000 in
theorem c_X11_errorX (l : Launch) (G : va_G) (cy : Nat → ClassId) (ad : rf → Nat) (d : Nat) (v : Int32) (Mz : mM) (hIz : Inv Mz) (hv : 0 ≤ v.toInt ∧ v.toInt ≤ 6) : WP CC l G cy ad yX11_error cX11_error 2 (some .int) d 0 [(0, vR (11, 0, 0)), (1, vI v)] [] Mz (fun r M' => Inv M' ∧ FR (S_c_X11_errorX) Mz M' ∧ r.toInt = -1000000 - v.toInt) := by
  have hFz : FR (S_c_X11_errorX) Mz Mz := FR.self
  refine w_iload_n dX11_error_0 rfl 1 rfl ?_
  refine w_if_lt (tgt := 23) dX11_error_1 (by decide) (rfl : v.toInt = v.toInt) (fun h9 => (lf_c_X11_errorX_0 v hv h9).elim) (fun h1_ => ?_)
  refine w_iload_n dX11_error_4 rfl 1 rfl ?_
  refine w_aload_n dX11_error_5 rfl 0 rfl ?_
  refine w_getR (c' := (44, 0, 0)) fl_RX11_28 rfl rfl ic_11 dX11_error_6 rfl ?_
  refine w_alen (v := 7) (by decide) rfl rfl ic_44 dX11_error_9 rfl ?_
  refine w_icmp_ge (tgt := 23) dX11_error_10 (by decide) (rfl : v.toInt = v.toInt) li_7 (fun h9 => (lf_c_X11_errorX_1 v hv h1_ h9).elim) (fun h2_ => ?_)
  refine w_aload_n dX11_error_13 rfl 0 rfl ?_
  refine w_getR (c' := (44, 0, 0)) fl_RX11_28 rfl rfl ic_11 dX11_error_14 rfl ?_
  refine w_iload_n dX11_error_17 rfl 1 rfl ?_
  refine w_dup2 dX11_error_18 rfl rfl ?_
  refine w_iald rfl rfl ic_44 (rfl : v.toInt = v.toInt) (lf_c_X11_errorX_2 v hv h1_ h2_) dX11_error_19 (fun j5_ h6_ z3_ e4_ => ?_)
  refine w_iconst (v := 1) dX11_error_20 (by decide) ?_
  refine w_iadd dX11_error_21 (fun z7_ _ => ?_)
  refine w_iast CC_nd rfl rfl ic_44 (rfl : v.toInt = v.toInt) (lf_c_X11_errorX_3 Mz v j5_ z3_ hv h1_ h2_ h6_ e4_) dX11_error_22 (fun j10_ h11_ M8_ hM9_ => ?_)
  have hI12_ := hIz.put hM9_ trivial
  have hF13_ := hFz.put hM9_ (Or.inl ⟨rfl, rfl⟩)
  refine w_ldc_w (v := (-1000000)) m_504 dX11_error_23 ?_
  refine w_iload_n dX11_error_26 rfl 1 rfl ?_
  refine w_isubB dX11_error_27 li_m1000000 (rfl : v.toInt = v.toInt) (lf_c_X11_errorX_4 M8_ Mz v j5_ z3_ z7_ j10_ hv h1_ h2_ h6_ e4_ h11_ hM9_) (fun z14_ h15_ => ?_)
  exact w_iret rfl dX11_error_28 ⟨hI12_, hF13_, h15_⟩
def S_c_X11_sheetX : rf → Nat → Prop := fun c k => (c.1 = 6 ∧ c.2.1 = 0 ∧ k = 0) ∨ (c.1 = 6 ∧ c.2.1 = 0 ∧ k = 1) ∨ (c.1 = 34 ∧ c.2.1 = 0) ∨ (c.1 = 44 ∧ c.2.1 = 0) ∨ False
theorem lf_c_X11_sheetX_0  (u : Int32) (h6_ : u.toInt = 0) (h9 : ¬ u.toInt = 0) : False := by have r_u := rngI u; omega
theorem lf_c_X11_sheetX_1  (v : Int32) (h4_ : 0 ≤ v.toInt ∧ v.toInt ≤ 3) : 0 ≤ v.toInt ∧ v.toInt < ((4 : Nat) : Int) := by have r_v := rngI v; omega
theorem lf_c_X11_sheetX_2  (v : Int32) (u : Int32) (t : Int32) (j8_ : Nat) (h4_ : 0 ≤ v.toInt ∧ v.toInt ≤ 3) (h6_ : u.toInt = 0) (h7_ : u.toInt = 0) (h9_ : (j8_ : Int) = v.toInt) (h10_ : j8_ < 4) : (((¬ (0 ≤ v.toInt ∧ v.toInt ≤ 3) ∨ (¬ u.toInt = 0 ∧ ¬ u.toInt = 8 ∧ ¬ u.toInt = 16 ∧ ¬ u.toInt = 32)) ∧ (1 : Int32).toInt = -1000001) ∨ ((0 ≤ v.toInt ∧ v.toInt ≤ 3) ∧ (u.toInt = 0 ∨ u.toInt = 8 ∨ u.toInt = 16 ∨ u.toInt = 32) ∧ ((¬ u.toInt = 0 ∧ t.toInt < 0 ∧ (1 : Int32).toInt = -1000003) ∨ (¬ u.toInt = 0 ∧ 24 < t.toInt ∧ (1 : Int32).toInt = -1000001) ∨ ((u.toInt = 0 ∨ (0 ≤ t.toInt ∧ t.toInt ≤ 24)) ∧ (1 : Int32).toInt = 1)))) := by have r_v := rngI v; have r_u := rngI u; have r_t := rngI t; have r9 := li_1; omega
theorem lf_c_X11_sheetX_3  (u : Int32) (h6_ : ¬ u.toInt = 0) (h17_ : u.toInt = 8) (h9 : u.toInt = 0) : False := by have r_u := rngI u; omega
theorem lf_c_X11_sheetX_4  (v : Int32) (h4_ : 0 ≤ v.toInt ∧ v.toInt ≤ 3) : 0 ≤ v.toInt ∧ v.toInt < ((4 : Nat) : Int) := by have r_v := rngI v; omega
theorem lf_c_X11_sheetX_5  (v : Int32) (u : Int32) (t : Int32) (j21_ : Nat) (h4_ : 0 ≤ v.toInt ∧ v.toInt ≤ 3) (h6_ : ¬ u.toInt = 0) (h17_ : u.toInt = 8) (h18_ : ¬ u.toInt = 0) (h19_ : 0 ≤ t.toInt) (h20_ : t.toInt ≤ 24) (h22_ : (j21_ : Int) = v.toInt) (h23_ : j21_ < 4) : (((¬ (0 ≤ v.toInt ∧ v.toInt ≤ 3) ∨ (¬ u.toInt = 0 ∧ ¬ u.toInt = 8 ∧ ¬ u.toInt = 16 ∧ ¬ u.toInt = 32)) ∧ (1 : Int32).toInt = -1000001) ∨ ((0 ≤ v.toInt ∧ v.toInt ≤ 3) ∧ (u.toInt = 0 ∨ u.toInt = 8 ∨ u.toInt = 16 ∨ u.toInt = 32) ∧ ((¬ u.toInt = 0 ∧ t.toInt < 0 ∧ (1 : Int32).toInt = -1000003) ∨ (¬ u.toInt = 0 ∧ 24 < t.toInt ∧ (1 : Int32).toInt = -1000001) ∨ ((u.toInt = 0 ∨ (0 ≤ t.toInt ∧ t.toInt ≤ 24)) ∧ (1 : Int32).toInt = 1)))) := by have r_v := rngI v; have r_u := rngI u; have r_t := rngI t; have r9 := li_1; omega
theorem lf_c_X11_sheetX_6  (v : Int32) (u : Int32) (t : Int32) (r30_ : Int32) (h4_ : 0 ≤ v.toInt ∧ v.toInt ≤ 3) (h6_ : ¬ u.toInt = 0) (h17_ : u.toInt = 8) (h18_ : ¬ u.toInt = 0) (h19_ : 0 ≤ t.toInt) (h20_ : 24 < t.toInt) (h33_ : r30_.toInt = -1000000 - 1) : (((¬ (0 ≤ v.toInt ∧ v.toInt ≤ 3) ∨ (¬ u.toInt = 0 ∧ ¬ u.toInt = 8 ∧ ¬ u.toInt = 16 ∧ ¬ u.toInt = 32)) ∧ r30_.toInt = -1000001) ∨ ((0 ≤ v.toInt ∧ v.toInt ≤ 3) ∧ (u.toInt = 0 ∨ u.toInt = 8 ∨ u.toInt = 16 ∨ u.toInt = 32) ∧ ((¬ u.toInt = 0 ∧ t.toInt < 0 ∧ r30_.toInt = -1000003) ∨ (¬ u.toInt = 0 ∧ 24 < t.toInt ∧ r30_.toInt = -1000001) ∨ ((u.toInt = 0 ∨ (0 ≤ t.toInt ∧ t.toInt ≤ 24)) ∧ r30_.toInt = 1)))) := by have r_v := rngI v; have r_u := rngI u; have r_t := rngI t; have r_r30_ := rngI r30_; omega
theorem lf_c_X11_sheetX_7  (v : Int32) (u : Int32) (t : Int32) (r37_ : Int32) (h4_ : 0 ≤ v.toInt ∧ v.toInt ≤ 3) (h6_ : ¬ u.toInt = 0) (h17_ : u.toInt = 8) (h18_ : ¬ u.toInt = 0) (h19_ : t.toInt < 0) (h40_ : r37_.toInt = -1000000 - 3) : (((¬ (0 ≤ v.toInt ∧ v.toInt ≤ 3) ∨ (¬ u.toInt = 0 ∧ ¬ u.toInt = 8 ∧ ¬ u.toInt = 16 ∧ ¬ u.toInt = 32)) ∧ r37_.toInt = -1000001) ∨ ((0 ≤ v.toInt ∧ v.toInt ≤ 3) ∧ (u.toInt = 0 ∨ u.toInt = 8 ∨ u.toInt = 16 ∨ u.toInt = 32) ∧ ((¬ u.toInt = 0 ∧ t.toInt < 0 ∧ r37_.toInt = -1000003) ∨ (¬ u.toInt = 0 ∧ 24 < t.toInt ∧ r37_.toInt = -1000001) ∨ ((u.toInt = 0 ∨ (0 ≤ t.toInt ∧ t.toInt ≤ 24)) ∧ r37_.toInt = 1)))) := by have r_v := rngI v; have r_u := rngI u; have r_t := rngI t; have r_r37_ := rngI r37_; omega
theorem lf_c_X11_sheetX_8  (u : Int32) (h6_ : ¬ u.toInt = 0) (h17_ : ¬ u.toInt = 8) (h44_ : u.toInt = 16) (h9 : u.toInt = 0) : False := by have r_u := rngI u; omega
theorem lf_c_X11_sheetX_9  (v : Int32) (h4_ : 0 ≤ v.toInt ∧ v.toInt ≤ 3) : 0 ≤ v.toInt ∧ v.toInt < ((4 : Nat) : Int) := by have r_v := rngI v; omega
theorem lf_c_X11_sheetX_10  (v : Int32) (u : Int32) (t : Int32) (j48_ : Nat) (h4_ : 0 ≤ v.toInt ∧ v.toInt ≤ 3) (h6_ : ¬ u.toInt = 0) (h17_ : ¬ u.toInt = 8) (h44_ : u.toInt = 16) (h45_ : ¬ u.toInt = 0) (h46_ : 0 ≤ t.toInt) (h47_ : t.toInt ≤ 24) (h49_ : (j48_ : Int) = v.toInt) (h50_ : j48_ < 4) : (((¬ (0 ≤ v.toInt ∧ v.toInt ≤ 3) ∨ (¬ u.toInt = 0 ∧ ¬ u.toInt = 8 ∧ ¬ u.toInt = 16 ∧ ¬ u.toInt = 32)) ∧ (1 : Int32).toInt = -1000001) ∨ ((0 ≤ v.toInt ∧ v.toInt ≤ 3) ∧ (u.toInt = 0 ∨ u.toInt = 8 ∨ u.toInt = 16 ∨ u.toInt = 32) ∧ ((¬ u.toInt = 0 ∧ t.toInt < 0 ∧ (1 : Int32).toInt = -1000003) ∨ (¬ u.toInt = 0 ∧ 24 < t.toInt ∧ (1 : Int32).toInt = -1000001) ∨ ((u.toInt = 0 ∨ (0 ≤ t.toInt ∧ t.toInt ≤ 24)) ∧ (1 : Int32).toInt = 1)))) := by have r_v := rngI v; have r_u := rngI u; have r_t := rngI t; have r9 := li_1; omega
theorem lf_c_X11_sheetX_11  (v : Int32) (u : Int32) (t : Int32) (r57_ : Int32) (h4_ : 0 ≤ v.toInt ∧ v.toInt ≤ 3) (h6_ : ¬ u.toInt = 0) (h17_ : ¬ u.toInt = 8) (h44_ : u.toInt = 16) (h45_ : ¬ u.toInt = 0) (h46_ : 0 ≤ t.toInt) (h47_ : 24 < t.toInt) (h60_ : r57_.toInt = -1000000 - 1) : (((¬ (0 ≤ v.toInt ∧ v.toInt ≤ 3) ∨ (¬ u.toInt = 0 ∧ ¬ u.toInt = 8 ∧ ¬ u.toInt = 16 ∧ ¬ u.toInt = 32)) ∧ r57_.toInt = -1000001) ∨ ((0 ≤ v.toInt ∧ v.toInt ≤ 3) ∧ (u.toInt = 0 ∨ u.toInt = 8 ∨ u.toInt = 16 ∨ u.toInt = 32) ∧ ((¬ u.toInt = 0 ∧ t.toInt < 0 ∧ r57_.toInt = -1000003) ∨ (¬ u.toInt = 0 ∧ 24 < t.toInt ∧ r57_.toInt = -1000001) ∨ ((u.toInt = 0 ∨ (0 ≤ t.toInt ∧ t.toInt ≤ 24)) ∧ r57_.toInt = 1)))) := by have r_v := rngI v; have r_u := rngI u; have r_t := rngI t; have r_r57_ := rngI r57_; omega
theorem lf_c_X11_sheetX_12  (v : Int32) (u : Int32) (t : Int32) (r64_ : Int32) (h4_ : 0 ≤ v.toInt ∧ v.toInt ≤ 3) (h6_ : ¬ u.toInt = 0) (h17_ : ¬ u.toInt = 8) (h44_ : u.toInt = 16) (h45_ : ¬ u.toInt = 0) (h46_ : t.toInt < 0) (h67_ : r64_.toInt = -1000000 - 3) : (((¬ (0 ≤ v.toInt ∧ v.toInt ≤ 3) ∨ (¬ u.toInt = 0 ∧ ¬ u.toInt = 8 ∧ ¬ u.toInt = 16 ∧ ¬ u.toInt = 32)) ∧ r64_.toInt = -1000001) ∨ ((0 ≤ v.toInt ∧ v.toInt ≤ 3) ∧ (u.toInt = 0 ∨ u.toInt = 8 ∨ u.toInt = 16 ∨ u.toInt = 32) ∧ ((¬ u.toInt = 0 ∧ t.toInt < 0 ∧ r64_.toInt = -1000003) ∨ (¬ u.toInt = 0 ∧ 24 < t.toInt ∧ r64_.toInt = -1000001) ∨ ((u.toInt = 0 ∨ (0 ≤ t.toInt ∧ t.toInt ≤ 24)) ∧ r64_.toInt = 1)))) := by have r_v := rngI v; have r_u := rngI u; have r_t := rngI t; have r_r64_ := rngI r64_; omega
theorem lf_c_X11_sheetX_13  (u : Int32) (h6_ : ¬ u.toInt = 0) (h17_ : ¬ u.toInt = 8) (h44_ : ¬ u.toInt = 16) (h71_ : u.toInt = 32) (h9 : u.toInt = 0) : False := by have r_u := rngI u; omega
theorem lf_c_X11_sheetX_14  (v : Int32) (h4_ : 0 ≤ v.toInt ∧ v.toInt ≤ 3) : 0 ≤ v.toInt ∧ v.toInt < ((4 : Nat) : Int) := by have r_v := rngI v; omega
theorem lf_c_X11_sheetX_15  (v : Int32) (u : Int32) (t : Int32) (j75_ : Nat) (h4_ : 0 ≤ v.toInt ∧ v.toInt ≤ 3) (h6_ : ¬ u.toInt = 0) (h17_ : ¬ u.toInt = 8) (h44_ : ¬ u.toInt = 16) (h71_ : u.toInt = 32) (h72_ : ¬ u.toInt = 0) (h73_ : 0 ≤ t.toInt) (h74_ : t.toInt ≤ 24) (h76_ : (j75_ : Int) = v.toInt) (h77_ : j75_ < 4) : (((¬ (0 ≤ v.toInt ∧ v.toInt ≤ 3) ∨ (¬ u.toInt = 0 ∧ ¬ u.toInt = 8 ∧ ¬ u.toInt = 16 ∧ ¬ u.toInt = 32)) ∧ (1 : Int32).toInt = -1000001) ∨ ((0 ≤ v.toInt ∧ v.toInt ≤ 3) ∧ (u.toInt = 0 ∨ u.toInt = 8 ∨ u.toInt = 16 ∨ u.toInt = 32) ∧ ((¬ u.toInt = 0 ∧ t.toInt < 0 ∧ (1 : Int32).toInt = -1000003) ∨ (¬ u.toInt = 0 ∧ 24 < t.toInt ∧ (1 : Int32).toInt = -1000001) ∨ ((u.toInt = 0 ∨ (0 ≤ t.toInt ∧ t.toInt ≤ 24)) ∧ (1 : Int32).toInt = 1)))) := by have r_v := rngI v; have r_u := rngI u; have r_t := rngI t; have r9 := li_1; omega
theorem lf_c_X11_sheetX_16  (v : Int32) (u : Int32) (t : Int32) (r84_ : Int32) (h4_ : 0 ≤ v.toInt ∧ v.toInt ≤ 3) (h6_ : ¬ u.toInt = 0) (h17_ : ¬ u.toInt = 8) (h44_ : ¬ u.toInt = 16) (h71_ : u.toInt = 32) (h72_ : ¬ u.toInt = 0) (h73_ : 0 ≤ t.toInt) (h74_ : 24 < t.toInt) (h87_ : r84_.toInt = -1000000 - 1) : (((¬ (0 ≤ v.toInt ∧ v.toInt ≤ 3) ∨ (¬ u.toInt = 0 ∧ ¬ u.toInt = 8 ∧ ¬ u.toInt = 16 ∧ ¬ u.toInt = 32)) ∧ r84_.toInt = -1000001) ∨ ((0 ≤ v.toInt ∧ v.toInt ≤ 3) ∧ (u.toInt = 0 ∨ u.toInt = 8 ∨ u.toInt = 16 ∨ u.toInt = 32) ∧ ((¬ u.toInt = 0 ∧ t.toInt < 0 ∧ r84_.toInt = -1000003) ∨ (¬ u.toInt = 0 ∧ 24 < t.toInt ∧ r84_.toInt = -1000001) ∨ ((u.toInt = 0 ∨ (0 ≤ t.toInt ∧ t.toInt ≤ 24)) ∧ r84_.toInt = 1)))) := by have r_v := rngI v; have r_u := rngI u; have r_t := rngI t; have r_r84_ := rngI r84_; omega
theorem lf_c_X11_sheetX_17  (v : Int32) (u : Int32) (t : Int32) (r91_ : Int32) (h4_ : 0 ≤ v.toInt ∧ v.toInt ≤ 3) (h6_ : ¬ u.toInt = 0) (h17_ : ¬ u.toInt = 8) (h44_ : ¬ u.toInt = 16) (h71_ : u.toInt = 32) (h72_ : ¬ u.toInt = 0) (h73_ : t.toInt < 0) (h94_ : r91_.toInt = -1000000 - 3) : (((¬ (0 ≤ v.toInt ∧ v.toInt ≤ 3) ∨ (¬ u.toInt = 0 ∧ ¬ u.toInt = 8 ∧ ¬ u.toInt = 16 ∧ ¬ u.toInt = 32)) ∧ r91_.toInt = -1000001) ∨ ((0 ≤ v.toInt ∧ v.toInt ≤ 3) ∧ (u.toInt = 0 ∨ u.toInt = 8 ∨ u.toInt = 16 ∨ u.toInt = 32) ∧ ((¬ u.toInt = 0 ∧ t.toInt < 0 ∧ r91_.toInt = -1000003) ∨ (¬ u.toInt = 0 ∧ 24 < t.toInt ∧ r91_.toInt = -1000001) ∨ ((u.toInt = 0 ∨ (0 ≤ t.toInt ∧ t.toInt ≤ 24)) ∧ r91_.toInt = 1)))) := by have r_v := rngI v; have r_u := rngI u; have r_t := rngI t; have r_r91_ := rngI r91_; omega
theorem lf_c_X11_sheetX_18  (v : Int32) (u : Int32) (t : Int32) (r98_ : Int32) (h4_ : 0 ≤ v.toInt ∧ v.toInt ≤ 3) (h6_ : ¬ u.toInt = 0) (h17_ : ¬ u.toInt = 8) (h44_ : ¬ u.toInt = 16) (h71_ : ¬ u.toInt = 32) (h101_ : r98_.toInt = -1000000 - 1) : (((¬ (0 ≤ v.toInt ∧ v.toInt ≤ 3) ∨ (¬ u.toInt = 0 ∧ ¬ u.toInt = 8 ∧ ¬ u.toInt = 16 ∧ ¬ u.toInt = 32)) ∧ r98_.toInt = -1000001) ∨ ((0 ≤ v.toInt ∧ v.toInt ≤ 3) ∧ (u.toInt = 0 ∨ u.toInt = 8 ∨ u.toInt = 16 ∨ u.toInt = 32) ∧ ((¬ u.toInt = 0 ∧ t.toInt < 0 ∧ r98_.toInt = -1000003) ∨ (¬ u.toInt = 0 ∧ 24 < t.toInt ∧ r98_.toInt = -1000001) ∨ ((u.toInt = 0 ∨ (0 ≤ t.toInt ∧ t.toInt ≤ 24)) ∧ r98_.toInt = 1)))) := by have r_v := rngI v; have r_u := rngI u; have r_t := rngI t; have r_r98_ := rngI r98_; omega
theorem lf_c_X11_sheetX_19  (v : Int32) (u : Int32) (t : Int32) (r106_ : Int32) (h4_ : ¬ (0 ≤ v.toInt ∧ v.toInt ≤ 3)) (h109_ : r106_.toInt = -1000000 - 1) : (((¬ (0 ≤ v.toInt ∧ v.toInt ≤ 3) ∨ (¬ u.toInt = 0 ∧ ¬ u.toInt = 8 ∧ ¬ u.toInt = 16 ∧ ¬ u.toInt = 32)) ∧ r106_.toInt = -1000001) ∨ ((0 ≤ v.toInt ∧ v.toInt ≤ 3) ∧ (u.toInt = 0 ∨ u.toInt = 8 ∨ u.toInt = 16 ∨ u.toInt = 32) ∧ ((¬ u.toInt = 0 ∧ t.toInt < 0 ∧ r106_.toInt = -1000003) ∨ (¬ u.toInt = 0 ∧ 24 < t.toInt ∧ r106_.toInt = -1000001) ∨ ((u.toInt = 0 ∨ (0 ≤ t.toInt ∧ t.toInt ≤ 24)) ∧ r106_.toInt = 1)))) := by have r_v := rngI v; have r_u := rngI u; have r_t := rngI t; have r_r106_ := rngI r106_; omega
set_option maxHeartbeats 4000000 in
set_option maxRecDepth 100000 in
theorem c_X11_sheetX (l : Launch) (G : va_G) (cy : Nat → ClassId) (ad : rf → Nat) (d : Nat) (v : Int32) (u : Int32) (t : Int32) (Mz : mM) (hIz : Inv Mz) : WP CC l G cy ad yX11_sheet cX11_sheet 4 (some .int) (d + 2) 0 [(0, vR (11, 0, 0)), (1, vI v), (2, vI u), (3, vI t)] [] Mz (fun r M' => Inv M' ∧ FR (S_c_X11_sheetX) Mz M' ∧ (((¬ (0 ≤ v.toInt ∧ v.toInt ≤ 3) ∨ (¬ u.toInt = 0 ∧ ¬ u.toInt = 8 ∧ ¬ u.toInt = 16 ∧ ¬ u.toInt = 32)) ∧ r.toInt = -1000001) ∨ ((0 ≤ v.toInt ∧ v.toInt ≤ 3) ∧ (u.toInt = 0 ∨ u.toInt = 8 ∨ u.toInt = 16 ∨ u.toInt = 32) ∧ ((¬ u.toInt = 0 ∧ t.toInt < 0 ∧ r.toInt = -1000003) ∨ (¬ u.toInt = 0 ∧ 24 < t.toInt ∧ r.toInt = -1000001) ∨ ((u.toInt = 0 ∨ (0 ≤ t.toInt ∧ t.toInt ≤ 24)) ∧ r.toInt = 1))))) := by
  have hFz : FR (S_c_X11_sheetX) Mz Mz := FR.self
  refine w_iload_n dX11_sheet_0 rfl 1 rfl ?_
  refine w_callS (as := [vI v]) (rest := []) (c_X11_isSheet l G cy ad d v Mz hIz) kS_X11_isSheet (by decide +kernel) (Nat.le_of_ble_eq_true rfl) m_566 rfl rfl (by decide) (Nat.le_of_ble_eq_true rfl) dX11_sheet_1 (fun r1_ M2_ q3_ => ?_)
  obtain ⟨rfl, h4_⟩ := q3_
  rcases h4_ with ⟨rfl, h4_⟩ | ⟨rfl, h4_⟩
  · refine w_if_eq (tgt := 29) dX11_sheet_4 (by decide) li_1 (fun h9 => (absurd h9 (by decide))) (fun h5_ => ?_)
    refine w_iload_n dX11_sheet_7 rfl 2 rfl ?_
    refine w_if_eq (tgt := 35) dX11_sheet_8 (by decide) (rfl : u.toInt = u.toInt) (fun h6_ => ?_) (fun h6_ => ?_)
    · refine w_iload_n dX11_sheet_35 rfl 2 rfl ?_
      refine w_if_ne (tgt := 50) dX11_sheet_36 (by decide) (rfl : u.toInt = u.toInt) (fun h9 => (lf_c_X11_sheetX_0 u h6_ h9).elim) (fun h7_ => ?_)
      refine w_aload_n dX11_sheet_39 rfl 0 rfl ?_
      refine w_getR (c' := (43, 0, 0)) fl_RX11_24 rfl rfl ic_11 dX11_sheet_40 rfl ?_
      refine w_iload_n dX11_sheet_43 rfl 1 rfl ?_
      refine w_aald rfl rfl rfl (fun _ => rfl) ic_43 (rfl : v.toInt = v.toInt) (lf_c_X11_sheetX_1 v h4_) dX11_sheet_44 (fun j8_ h9_ h10_ => ?_)
      refine w_callVv (as := []) (rest := []) (c_X6_drop l G cy ad (d + 1) j8_ Mz hIz h10_) kV_X6_drop (by decide +kernel) (Nat.le_of_ble_eq_true rfl) m_1222 rfl rfl rfl (ic_6 h10_) rfl rfl (by decide) (Nat.le_of_ble_eq_true rfl) dX11_sheet_45 (fun M11_ q12_ => ?_)
      obtain ⟨hI14_, hF15_, h13_⟩ := q12_
      have hF16_ := hFz.tr hF15_ (fun c k => (fun h => h.elim (fun h => (Or.inl ⟨h.1, h.2.1, h.2.2.2⟩)) (fun h => h.elim (fun h => (Or.inr (Or.inl ⟨h.1, h.2.1, h.2.2.2⟩))) (fun h => h.elim))))
      refine w_iconst (v := 1) dX11_sheet_48 (by decide) ?_
      exact w_iret rfl dX11_sheet_49 ⟨hI14_, hF16_, (lf_c_X11_sheetX_2 v u t j8_ h4_ h6_ h7_ h9_ h10_)⟩
    · refine w_iload_n dX11_sheet_11 rfl 2 rfl ?_
      refine w_bipush (v := 8) dX11_sheet_12 (by decide) ?_
      refine w_icmp_eq (tgt := 35) dX11_sheet_14 (by decide) (rfl : u.toInt = u.toInt) li_8 (fun h17_ => ?_) (fun h17_ => ?_)
      · refine w_iload_n dX11_sheet_35 rfl 2 rfl ?_
        refine w_if_ne (tgt := 50) dX11_sheet_36 (by decide) (rfl : u.toInt = u.toInt) (fun h18_ => ?_) (fun h9 => (lf_c_X11_sheetX_3 u h6_ h17_ h9).elim)
        refine w_iload_n dX11_sheet_50 rfl 3 rfl ?_
        refine w_if_ge (tgt := 60) dX11_sheet_51 (by decide) (rfl : t.toInt = t.toInt) (fun h19_ => ?_) (fun h19_ => ?_)
        · refine w_iload_n dX11_sheet_60 rfl 3 rfl ?_
          refine w_bipush (v := 24) dX11_sheet_61 (by decide) ?_
          refine w_icmp_le (tgt := 72) dX11_sheet_63 (by decide) (rfl : t.toInt = t.toInt) li_24 (fun h20_ => ?_) (fun h20_ => ?_)
          · refine w_aload_n dX11_sheet_72 rfl 0 rfl ?_
            refine w_getR (c' := (43, 0, 0)) fl_RX11_24 rfl rfl ic_11 dX11_sheet_73 rfl ?_
            refine w_iload_n dX11_sheet_76 rfl 1 rfl ?_
            refine w_aald rfl rfl rfl (fun _ => rfl) ic_43 (rfl : v.toInt = v.toInt) (lf_c_X11_sheetX_4 v h4_) dX11_sheet_77 (fun j21_ h22_ h23_ => ?_)
            refine w_iload_n dX11_sheet_78 rfl 2 rfl ?_
            refine w_iload_n dX11_sheet_79 rfl 3 rfl ?_
            refine w_callVv (as := [vI u, vI t]) (rest := []) (c_X6_begin l G cy ad d j21_ u t Mz hIz h23_) kV_X6_begin (by decide +kernel) (Nat.le_of_ble_eq_true rfl) m_1226 rfl rfl rfl (ic_6 h23_) rfl rfl (by decide) (Nat.le_of_ble_eq_true rfl) dX11_sheet_80 (fun M24_ q25_ => ?_)
            obtain ⟨hI27_, hF28_, h26_⟩ := q25_
            have hF29_ := hFz.tr hF28_ (fun c k => (fun h => h.elim (fun h => (Or.inl ⟨h.1, h.2.1, h.2.2.2⟩)) (fun h => h.elim (fun h => (Or.inr (Or.inl ⟨h.1, h.2.1, h.2.2.2⟩))) (fun h => h.elim (fun h => (Or.inr (Or.inr (Or.inl ⟨h.1, h.2.1⟩)))) (fun h => h.elim)))))
            refine w_iconst (v := 1) dX11_sheet_83 (by decide) ?_
            exact w_iret rfl dX11_sheet_84 ⟨hI27_, hF29_, (lf_c_X11_sheetX_5 v u t j21_ h4_ h6_ h17_ h18_ h19_ h20_ h22_ h23_)⟩
          · refine w_aload_n dX11_sheet_66 rfl 0 rfl ?_
            refine w_iconst (v := 1) dX11_sheet_67 (by decide) ?_
            refine w_callV (as := [vI 1]) (rest := []) (c_X11_errorX l G cy ad (d + 1) 1 Mz hIz (by first | decide | (unfold vF; omega) | (unfold vRw; omega))) kV_X11_error (by decide +kernel) (Nat.le_of_ble_eq_true rfl) m_500 rfl rfl rfl ic_11 rfl rfl (by decide) (Nat.le_of_ble_eq_true rfl) dX11_sheet_68 (fun r30_ M31_ q32_ => ?_)
            obtain ⟨hI34_, hF35_, h33_⟩ := q32_
            have hF36_ := hFz.tr hF35_ (fun c k => (fun h => h.elim (fun h => (Or.inr (Or.inr (Or.inr (Or.inl ⟨h.1, h.2⟩))))) (fun h => h.elim)))
            simp only [li_1] at h33_
            exact w_iret rfl dX11_sheet_71 ⟨hI34_, hF36_, (lf_c_X11_sheetX_6 v u t r30_ h4_ h6_ h17_ h18_ h19_ h20_ h33_)⟩
        · refine w_aload_n dX11_sheet_54 rfl 0 rfl ?_
          refine w_iconst (v := 3) dX11_sheet_55 (by decide) ?_
          refine w_callV (as := [vI 3]) (rest := []) (c_X11_errorX l G cy ad (d + 1) 3 Mz hIz (by first | decide | (unfold vF; omega) | (unfold vRw; omega))) kV_X11_error (by decide +kernel) (Nat.le_of_ble_eq_true rfl) m_500 rfl rfl rfl ic_11 rfl rfl (by decide) (Nat.le_of_ble_eq_true rfl) dX11_sheet_56 (fun r37_ M38_ q39_ => ?_)
          obtain ⟨hI41_, hF42_, h40_⟩ := q39_
          have hF43_ := hFz.tr hF42_ (fun c k => (fun h => h.elim (fun h => (Or.inr (Or.inr (Or.inr (Or.inl ⟨h.1, h.2⟩))))) (fun h => h.elim)))
          simp only [li_3] at h40_
          exact w_iret rfl dX11_sheet_59 ⟨hI41_, hF43_, (lf_c_X11_sheetX_7 v u t r37_ h4_ h6_ h17_ h18_ h19_ h40_)⟩
      · refine w_iload_n dX11_sheet_17 rfl 2 rfl ?_
        refine w_bipush (v := 16) dX11_sheet_18 (by decide) ?_
        refine w_icmp_eq (tgt := 35) dX11_sheet_20 (by decide) (rfl : u.toInt = u.toInt) li_16 (fun h44_ => ?_) (fun h44_ => ?_)
        · refine w_iload_n dX11_sheet_35 rfl 2 rfl ?_
          refine w_if_ne (tgt := 50) dX11_sheet_36 (by decide) (rfl : u.toInt = u.toInt) (fun h45_ => ?_) (fun h9 => (lf_c_X11_sheetX_8 u h6_ h17_ h44_ h9).elim)
          refine w_iload_n dX11_sheet_50 rfl 3 rfl ?_
          refine w_if_ge (tgt := 60) dX11_sheet_51 (by decide) (rfl : t.toInt = t.toInt) (fun h46_ => ?_) (fun h46_ => ?_)
          · refine w_iload_n dX11_sheet_60 rfl 3 rfl ?_
            refine w_bipush (v := 24) dX11_sheet_61 (by decide) ?_
            refine w_icmp_le (tgt := 72) dX11_sheet_63 (by decide) (rfl : t.toInt = t.toInt) li_24 (fun h47_ => ?_) (fun h47_ => ?_)
            · refine w_aload_n dX11_sheet_72 rfl 0 rfl ?_
              refine w_getR (c' := (43, 0, 0)) fl_RX11_24 rfl rfl ic_11 dX11_sheet_73 rfl ?_
              refine w_iload_n dX11_sheet_76 rfl 1 rfl ?_
              refine w_aald rfl rfl rfl (fun _ => rfl) ic_43 (rfl : v.toInt = v.toInt) (lf_c_X11_sheetX_9 v h4_) dX11_sheet_77 (fun j48_ h49_ h50_ => ?_)
              refine w_iload_n dX11_sheet_78 rfl 2 rfl ?_
              refine w_iload_n dX11_sheet_79 rfl 3 rfl ?_
              refine w_callVv (as := [vI u, vI t]) (rest := []) (c_X6_begin l G cy ad d j48_ u t Mz hIz h50_) kV_X6_begin (by decide +kernel) (Nat.le_of_ble_eq_true rfl) m_1226 rfl rfl rfl (ic_6 h50_) rfl rfl (by decide) (Nat.le_of_ble_eq_true rfl) dX11_sheet_80 (fun M51_ q52_ => ?_)
              obtain ⟨hI54_, hF55_, h53_⟩ := q52_
              have hF56_ := hFz.tr hF55_ (fun c k => (fun h => h.elim (fun h => (Or.inl ⟨h.1, h.2.1, h.2.2.2⟩)) (fun h => h.elim (fun h => (Or.inr (Or.inl ⟨h.1, h.2.1, h.2.2.2⟩))) (fun h => h.elim (fun h => (Or.inr (Or.inr (Or.inl ⟨h.1, h.2.1⟩)))) (fun h => h.elim)))))
              refine w_iconst (v := 1) dX11_sheet_83 (by decide) ?_
              exact w_iret rfl dX11_sheet_84 ⟨hI54_, hF56_, (lf_c_X11_sheetX_10 v u t j48_ h4_ h6_ h17_ h44_ h45_ h46_ h47_ h49_ h50_)⟩
            · refine w_aload_n dX11_sheet_66 rfl 0 rfl ?_
              refine w_iconst (v := 1) dX11_sheet_67 (by decide) ?_
              refine w_callV (as := [vI 1]) (rest := []) (c_X11_errorX l G cy ad (d + 1) 1 Mz hIz (by first | decide | (unfold vF; omega) | (unfold vRw; omega))) kV_X11_error (by decide +kernel) (Nat.le_of_ble_eq_true rfl) m_500 rfl rfl rfl ic_11 rfl rfl (by decide) (Nat.le_of_ble_eq_true rfl) dX11_sheet_68 (fun r57_ M58_ q59_ => ?_)
              obtain ⟨hI61_, hF62_, h60_⟩ := q59_
              have hF63_ := hFz.tr hF62_ (fun c k => (fun h => h.elim (fun h => (Or.inr (Or.inr (Or.inr (Or.inl ⟨h.1, h.2⟩))))) (fun h => h.elim)))
              simp only [li_1] at h60_
              exact w_iret rfl dX11_sheet_71 ⟨hI61_, hF63_, (lf_c_X11_sheetX_11 v u t r57_ h4_ h6_ h17_ h44_ h45_ h46_ h47_ h60_)⟩
          · refine w_aload_n dX11_sheet_54 rfl 0 rfl ?_
            refine w_iconst (v := 3) dX11_sheet_55 (by decide) ?_
            refine w_callV (as := [vI 3]) (rest := []) (c_X11_errorX l G cy ad (d + 1) 3 Mz hIz (by first | decide | (unfold vF; omega) | (unfold vRw; omega))) kV_X11_error (by decide +kernel) (Nat.le_of_ble_eq_true rfl) m_500 rfl rfl rfl ic_11 rfl rfl (by decide) (Nat.le_of_ble_eq_true rfl) dX11_sheet_56 (fun r64_ M65_ q66_ => ?_)
            obtain ⟨hI68_, hF69_, h67_⟩ := q66_
            have hF70_ := hFz.tr hF69_ (fun c k => (fun h => h.elim (fun h => (Or.inr (Or.inr (Or.inr (Or.inl ⟨h.1, h.2⟩))))) (fun h => h.elim)))
            simp only [li_3] at h67_
            exact w_iret rfl dX11_sheet_59 ⟨hI68_, hF70_, (lf_c_X11_sheetX_12 v u t r64_ h4_ h6_ h17_ h44_ h45_ h46_ h67_)⟩
        · refine w_iload_n dX11_sheet_23 rfl 2 rfl ?_
          refine w_bipush (v := 32) dX11_sheet_24 (by decide) ?_
          refine w_icmp_eq (tgt := 35) dX11_sheet_26 (by decide) (rfl : u.toInt = u.toInt) li_32 (fun h71_ => ?_) (fun h71_ => ?_)
          · refine w_iload_n dX11_sheet_35 rfl 2 rfl ?_
            refine w_if_ne (tgt := 50) dX11_sheet_36 (by decide) (rfl : u.toInt = u.toInt) (fun h72_ => ?_) (fun h9 => (lf_c_X11_sheetX_13 u h6_ h17_ h44_ h71_ h9).elim)
            refine w_iload_n dX11_sheet_50 rfl 3 rfl ?_
            refine w_if_ge (tgt := 60) dX11_sheet_51 (by decide) (rfl : t.toInt = t.toInt) (fun h73_ => ?_) (fun h73_ => ?_)
            · refine w_iload_n dX11_sheet_60 rfl 3 rfl ?_
              refine w_bipush (v := 24) dX11_sheet_61 (by decide) ?_
              refine w_icmp_le (tgt := 72) dX11_sheet_63 (by decide) (rfl : t.toInt = t.toInt) li_24 (fun h74_ => ?_) (fun h74_ => ?_)
              · refine w_aload_n dX11_sheet_72 rfl 0 rfl ?_
                refine w_getR (c' := (43, 0, 0)) fl_RX11_24 rfl rfl ic_11 dX11_sheet_73 rfl ?_
                refine w_iload_n dX11_sheet_76 rfl 1 rfl ?_
                refine w_aald rfl rfl rfl (fun _ => rfl) ic_43 (rfl : v.toInt = v.toInt) (lf_c_X11_sheetX_14 v h4_) dX11_sheet_77 (fun j75_ h76_ h77_ => ?_)
                refine w_iload_n dX11_sheet_78 rfl 2 rfl ?_
                refine w_iload_n dX11_sheet_79 rfl 3 rfl ?_
                refine w_callVv (as := [vI u, vI t]) (rest := []) (c_X6_begin l G cy ad d j75_ u t Mz hIz h77_) kV_X6_begin (by decide +kernel) (Nat.le_of_ble_eq_true rfl) m_1226 rfl rfl rfl (ic_6 h77_) rfl rfl (by decide) (Nat.le_of_ble_eq_true rfl) dX11_sheet_80 (fun M78_ q79_ => ?_)
                obtain ⟨hI81_, hF82_, h80_⟩ := q79_
                have hF83_ := hFz.tr hF82_ (fun c k => (fun h => h.elim (fun h => (Or.inl ⟨h.1, h.2.1, h.2.2.2⟩)) (fun h => h.elim (fun h => (Or.inr (Or.inl ⟨h.1, h.2.1, h.2.2.2⟩))) (fun h => h.elim (fun h => (Or.inr (Or.inr (Or.inl ⟨h.1, h.2.1⟩)))) (fun h => h.elim)))))
                refine w_iconst (v := 1) dX11_sheet_83 (by decide) ?_
                exact w_iret rfl dX11_sheet_84 ⟨hI81_, hF83_, (lf_c_X11_sheetX_15 v u t j75_ h4_ h6_ h17_ h44_ h71_ h72_ h73_ h74_ h76_ h77_)⟩
              · refine w_aload_n dX11_sheet_66 rfl 0 rfl ?_
                refine w_iconst (v := 1) dX11_sheet_67 (by decide) ?_
                refine w_callV (as := [vI 1]) (rest := []) (c_X11_errorX l G cy ad (d + 1) 1 Mz hIz (by first | decide | (unfold vF; omega) | (unfold vRw; omega))) kV_X11_error (by decide +kernel) (Nat.le_of_ble_eq_true rfl) m_500 rfl rfl rfl ic_11 rfl rfl (by decide) (Nat.le_of_ble_eq_true rfl) dX11_sheet_68 (fun r84_ M85_ q86_ => ?_)
                obtain ⟨hI88_, hF89_, h87_⟩ := q86_
                have hF90_ := hFz.tr hF89_ (fun c k => (fun h => h.elim (fun h => (Or.inr (Or.inr (Or.inr (Or.inl ⟨h.1, h.2⟩))))) (fun h => h.elim)))
                simp only [li_1] at h87_
                exact w_iret rfl dX11_sheet_71 ⟨hI88_, hF90_, (lf_c_X11_sheetX_16 v u t r84_ h4_ h6_ h17_ h44_ h71_ h72_ h73_ h74_ h87_)⟩
            · refine w_aload_n dX11_sheet_54 rfl 0 rfl ?_
              refine w_iconst (v := 3) dX11_sheet_55 (by decide) ?_
              refine w_callV (as := [vI 3]) (rest := []) (c_X11_errorX l G cy ad (d + 1) 3 Mz hIz (by first | decide | (unfold vF; omega) | (unfold vRw; omega))) kV_X11_error (by decide +kernel) (Nat.le_of_ble_eq_true rfl) m_500 rfl rfl rfl ic_11 rfl rfl (by decide) (Nat.le_of_ble_eq_true rfl) dX11_sheet_56 (fun r91_ M92_ q93_ => ?_)
              obtain ⟨hI95_, hF96_, h94_⟩ := q93_
              have hF97_ := hFz.tr hF96_ (fun c k => (fun h => h.elim (fun h => (Or.inr (Or.inr (Or.inr (Or.inl ⟨h.1, h.2⟩))))) (fun h => h.elim)))
              simp only [li_3] at h94_
              exact w_iret rfl dX11_sheet_59 ⟨hI95_, hF97_, (lf_c_X11_sheetX_17 v u t r91_ h4_ h6_ h17_ h44_ h71_ h72_ h73_ h94_)⟩
          · refine w_aload_n dX11_sheet_29 rfl 0 rfl ?_
            refine w_iconst (v := 1) dX11_sheet_30 (by decide) ?_
            refine w_callV (as := [vI 1]) (rest := []) (c_X11_errorX l G cy ad (d + 1) 1 Mz hIz (by first | decide | (unfold vF; omega) | (unfold vRw; omega))) kV_X11_error (by decide +kernel) (Nat.le_of_ble_eq_true rfl) m_500 rfl rfl rfl ic_11 rfl rfl (by decide) (Nat.le_of_ble_eq_true rfl) dX11_sheet_31 (fun r98_ M99_ q100_ => ?_)
            obtain ⟨hI102_, hF103_, h101_⟩ := q100_
            have hF104_ := hFz.tr hF103_ (fun c k => (fun h => h.elim (fun h => (Or.inr (Or.inr (Or.inr (Or.inl ⟨h.1, h.2⟩))))) (fun h => h.elim)))
            simp only [li_1] at h101_
            exact w_iret rfl dX11_sheet_34 ⟨hI102_, hF104_, (lf_c_X11_sheetX_18 v u t r98_ h4_ h6_ h17_ h44_ h71_ h101_)⟩
  · refine w_if_eq (tgt := 29) dX11_sheet_4 (by decide) li_0 (fun h105_ => ?_) (fun h9 => (absurd h9 (by decide)))
    refine w_aload_n dX11_sheet_29 rfl 0 rfl ?_
    refine w_iconst (v := 1) dX11_sheet_30 (by decide) ?_
    refine w_callV (as := [vI 1]) (rest := []) (c_X11_errorX l G cy ad (d + 1) 1 Mz hIz (by first | decide | (unfold vF; omega) | (unfold vRw; omega))) kV_X11_error (by decide +kernel) (Nat.le_of_ble_eq_true rfl) m_500 rfl rfl rfl ic_11 rfl rfl (by decide) (Nat.le_of_ble_eq_true rfl) dX11_sheet_31 (fun r106_ M107_ q108_ => ?_)
    obtain ⟨hI110_, hF111_, h109_⟩ := q108_
    have hF112_ := hFz.tr hF111_ (fun c k => (fun h => h.elim (fun h => (Or.inr (Or.inr (Or.inr (Or.inl ⟨h.1, h.2⟩))))) (fun h => h.elim)))
    simp only [li_1] at h109_
    exact w_iret rfl dX11_sheet_34 ⟨hI110_, hF112_, (lf_c_X11_sheetX_19 v u t r106_ h4_ h109_)⟩
