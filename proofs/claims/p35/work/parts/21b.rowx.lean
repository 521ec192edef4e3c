def SP_X5_room2 (b : Nat) (k : Int) (Mz : mM) (r_ : Int32) : Prop := ∃ z1_ : Int32, (z1_ = Mz.1 (5, b, 2) 1) ∧ (z1_.toInt = k) ∧ ∃ z4_ : Int32, (z4_.toInt = 7 - z1_.toInt) ∧ r_ = z4_
theorem lf_c_X5_room2_0 (Mz : mM) (b : Nat) (k : Int) (hb : b < 3) (hk : (Mz.1 (5, b, 2) 1).toInt = k) (hk0 : 0 ≤ k ∧ k ≤ 7) : vRw b 2 := by unfold vRw; omega
theorem lf_c_X5_room2_1 (Mz : mM) (b : Nat) (k : Int) (hb : b < 3) (hk : (Mz.1 (5, b, 2) 1).toInt = k) (hk0 : 0 ≤ k ∧ k ≤ 7) : vRw b 2 := by unfold vRw; omega
theorem lf_c_X5_room2_2 (Mz : mM) (b : Nat) (k : Int) (hb : b < 3) (hk : (Mz.1 (5, b, 2) 1).toInt = k) (hk0 : 0 ≤ k ∧ k ≤ 7) : vRw b 2 := by unfold vRw; omega
theorem lf_c_X5_room2_3 (Mz : mM) (b : Nat) (k : Int) (z1_ : Int32) (hb : b < 3) (hk : (Mz.1 (5, b, 2) 1).toInt = k) (hk0 : 0 ≤ k ∧ k ≤ 7) (e2_ : z1_ = Mz.1 (5, b, 2) 1) (h3_ : z1_.toInt = k) : -2147483648 ≤ 7 - z1_.toInt ∧ 7 - z1_.toInt < 2147483648 := by have r_z1_ := rngI z1_; subst e2_; omega
theorem lf_c_X5_room2_4 (Mz : mM) (b : Nat) (k : Int) (z1_ : Int32) (z4_ : Int32) (hb : b < 3) (hk : (Mz.1 (5, b, 2) 1).toInt = k) (hk0 : 0 ≤ k ∧ k ≤ 7) (e2_ : z1_ = Mz.1 (5, b, 2) 1) (h3_ : z1_.toInt = k) (h5_ : z4_.toInt = 7 - z1_.toInt) : z4_.toInt = 7 - k := by have r_z1_ := rngI z1_; have r_z4_ := rngI z4_; subst e2_; omega
set_option maxHeartbeats 4000000 in
set_option maxRecDepth 100000 in
theorem c_X5_room2 (l : Launch) (G : va_G) (cy : Nat → ClassId) (ad : rf → Nat) (d : Nat) (b : Nat) (k : Int) (Mz : mM) (hIz : Inv Mz) (hb : b < 3) (hk : (Mz.1 (5, b, 2) 1).toInt = k) (hk0 : 0 ≤ k ∧ k ≤ 7) : WP CC l G cy ad yX5_room cX5_room 1 (some .int) d 0 [(0, vR (5, b, 2))] [] Mz (fun r M' => Mz = M' ∧ (r.toInt = 7 - k) ∧ SP_X5_room2 b k Mz r) := by
  refine w_aload_n dX5_room_0 rfl 0 rfl ?_
  refine w_getR (c' := (33, b, 2)) fl_RX5_19 rfl rfl (ic_5 (lf_c_X5_room2_0 Mz b k hb hk hk0)) dX5_room_1 rfl ?_
  refine w_alen (v := 7) (by decide) rfl rfl (ic_33 (lf_c_X5_room2_1 Mz b k hb hk hk0)) dX5_room_4 rfl ?_
  refine w_aload_n dX5_room_5 rfl 0 rfl ?_
  refine w_getI fl_RX5_7 rfl rfl (ic_5 (lf_c_X5_room2_2 Mz b k hb hk hk0)) dX5_room_6 (fun z1_ e2_ => ?_)
  have h3_ : z1_.toInt = k := by rw [e2_]; exact hk
  refine w_isubB dX5_room_9 li_7 (rfl : z1_.toInt = z1_.toInt) (lf_c_X5_room2_3 Mz b k z1_ hb hk hk0 e2_ h3_) (fun z4_ h5_ => ?_)
  exact w_iret rfl dX5_room_10 ⟨rfl, (lf_c_X5_room2_4 Mz b k z1_ z4_ hb hk hk0 e2_ h3_ h5_), ⟨z1_, e2_, h3_, z4_, h5_, rfl⟩⟩
def S_c_X5_add2 (b : Nat) : rf → Nat → Prop := fun c k => (c.1 = 33 ∧ c.2.1 = b ∧ c.2.2 = 2) ∨ (c.1 = 5 ∧ c.2.1 = b ∧ c.2.2 = 2 ∧ k = 1) ∨ False
def SP_X5_add2 (b : Nat) (k : Int) (v : Int32) (Mz : mM) (M_ : mM) : Prop := ∃ z1_ : Int32, (z1_ = Mz.1 (5, b, 2) 1) ∧ (z1_.toInt = k) ∧ (0 ≤ z1_.toInt) ∧ (z1_.toInt < 7) ∧ ∃ j12_ : Nat, ((j12_ : Int) = z1_.toInt) ∧ ∃ M10_ : mM, (M10_ = up Mz (33, b, 2) j12_ v) ∧ ∃ z17_ : Int32, (z17_ = M10_.1 (5, b, 2) 1) ∧ (z17_.toInt = k) ∧ ∃ z20_ : Int32, (z20_.toInt = z17_.toInt + 1) ∧ ∃ M22_ : mM, (M22_ = up M10_ (5, b, 2) 1 z20_) ∧ M_ = M22_
theorem lf_c_X5_add2_0 (Mz : mM) (b : Nat) (k : Int) (hb : b < 3) (hk : (Mz.1 (5, b, 2) 1).toInt = k) (hk0 : 0 ≤ k ∧ k ≤ 6) : vRw b 2 := by unfold vRw; omega
theorem lf_c_X5_add2_1 (Mz : mM) (b : Nat) (k : Int) (z1_ : Int32) (hb : b < 3) (hk : (Mz.1 (5, b, 2) 1).toInt = k) (hk0 : 0 ≤ k ∧ k ≤ 6) (e2_ : z1_ = Mz.1 (5, b, 2) 1) (h3_ : z1_.toInt = k) (h9 : z1_.toInt < 0) : False := by have r_z1_ := rngI z1_; subst e2_; omega
theorem lf_c_X5_add2_2 (Mz : mM) (b : Nat) (k : Int) (z1_ : Int32) (hb : b < 3) (hk : (Mz.1 (5, b, 2) 1).toInt = k) (hk0 : 0 ≤ k ∧ k ≤ 6) (e2_ : z1_ = Mz.1 (5, b, 2) 1) (h3_ : z1_.toInt = k) (h4_ : 0 ≤ z1_.toInt) : vRw b 2 := by have r_z1_ := rngI z1_; unfold vRw; omega
theorem lf_c_X5_add2_3 (Mz : mM) (b : Nat) (k : Int) (z1_ : Int32) (hb : b < 3) (hk : (Mz.1 (5, b, 2) 1).toInt = k) (hk0 : 0 ≤ k ∧ k ≤ 6) (e2_ : z1_ = Mz.1 (5, b, 2) 1) (h3_ : z1_.toInt = k) (h4_ : 0 ≤ z1_.toInt) : vRw b 2 := by have r_z1_ := rngI z1_; unfold vRw; omega
theorem lf_c_X5_add2_4 (Mz : mM) (b : Nat) (k : Int) (z1_ : Int32) (hb : b < 3) (hk : (Mz.1 (5, b, 2) 1).toInt = k) (hk0 : 0 ≤ k ∧ k ≤ 6) (e2_ : z1_ = Mz.1 (5, b, 2) 1) (h3_ : z1_.toInt = k) (h4_ : 0 ≤ z1_.toInt) : vRw b 2 := by have r_z1_ := rngI z1_; unfold vRw; omega
theorem lf_c_X5_add2_5 (Mz : mM) (b : Nat) (k : Int) (z1_ : Int32) (hb : b < 3) (hk : (Mz.1 (5, b, 2) 1).toInt = k) (hk0 : 0 ≤ k ∧ k ≤ 6) (e2_ : z1_ = Mz.1 (5, b, 2) 1) (h3_ : z1_.toInt = k) (h4_ : 0 ≤ z1_.toInt) (h9 : 7 ≤ z1_.toInt) : False := by have r_z1_ := rngI z1_; subst e2_; omega
theorem lf_c_X5_add2_6 (Mz : mM) (b : Nat) (k : Int) (z1_ : Int32) (hb : b < 3) (hk : (Mz.1 (5, b, 2) 1).toInt = k) (hk0 : 0 ≤ k ∧ k ≤ 6) (e2_ : z1_ = Mz.1 (5, b, 2) 1) (h3_ : z1_.toInt = k) (h4_ : 0 ≤ z1_.toInt) (h7_ : z1_.toInt < 7) : vRw b 2 := by have r_z1_ := rngI z1_; unfold vRw; omega
theorem lf_c_X5_add2_7 (Mz : mM) (b : Nat) (k : Int) (z1_ : Int32) (hb : b < 3) (hk : (Mz.1 (5, b, 2) 1).toInt = k) (hk0 : 0 ≤ k ∧ k ≤ 6) (e2_ : z1_ = Mz.1 (5, b, 2) 1) (h3_ : z1_.toInt = k) (h4_ : 0 ≤ z1_.toInt) (h7_ : z1_.toInt < 7) : vRw b 2 := by have r_z1_ := rngI z1_; unfold vRw; omega
theorem lf_c_X5_add2_8 (Mz : mM) (b : Nat) (k : Int) (z1_ : Int32) (hb : b < 3) (hk : (Mz.1 (5, b, 2) 1).toInt = k) (hk0 : 0 ≤ k ∧ k ≤ 6) (e2_ : z1_ = Mz.1 (5, b, 2) 1) (h3_ : z1_.toInt = k) (h4_ : 0 ≤ z1_.toInt) (h7_ : z1_.toInt < 7) : vRw b 2 := by have r_z1_ := rngI z1_; unfold vRw; omega
theorem lf_c_X5_add2_9 (Mz : mM) (b : Nat) (k : Int) (z1_ : Int32) (hb : b < 3) (hk : (Mz.1 (5, b, 2) 1).toInt = k) (hk0 : 0 ≤ k ∧ k ≤ 6) (e2_ : z1_ = Mz.1 (5, b, 2) 1) (h3_ : z1_.toInt = k) (h4_ : 0 ≤ z1_.toInt) (h7_ : z1_.toInt < 7) : 0 ≤ z1_.toInt ∧ z1_.toInt < ((7 : Nat) : Int) := by have r_z1_ := rngI z1_; subst e2_; omega
theorem lf_c_X5_add2_10 (M10_ : mM) (Mz : mM) (b : Nat) (k : Int) (v : Int32) (z1_ : Int32) (j12_ : Nat) (hb : b < 3) (hk : (Mz.1 (5, b, 2) 1).toInt = k) (hk0 : 0 ≤ k ∧ k ≤ 6) (e2_ : z1_ = Mz.1 (5, b, 2) 1) (h3_ : z1_.toInt = k) (h4_ : 0 ≤ z1_.toInt) (h7_ : z1_.toInt < 7) (h13_ : (j12_ : Int) = z1_.toInt) (hM11_ : M10_ = up Mz (33, b, 2) j12_ v) (kf16_ : (M10_.1 (5, b, 2) 1).toInt = k) : vRw b 2 := by have r_v := rngI v; have r_z1_ := rngI z1_; unfold vRw; omega
theorem lf_c_X5_add2_11 (M10_ : mM) (Mz : mM) (b : Nat) (k : Int) (v : Int32) (z1_ : Int32) (j12_ : Nat) (z17_ : Int32) (hb : b < 3) (hk : (Mz.1 (5, b, 2) 1).toInt = k) (hk0 : 0 ≤ k ∧ k ≤ 6) (e2_ : z1_ = Mz.1 (5, b, 2) 1) (h3_ : z1_.toInt = k) (h4_ : 0 ≤ z1_.toInt) (h7_ : z1_.toInt < 7) (h13_ : (j12_ : Int) = z1_.toInt) (hM11_ : M10_ = up Mz (33, b, 2) j12_ v) (kf16_ : (M10_.1 (5, b, 2) 1).toInt = k) (e18_ : z17_ = M10_.1 (5, b, 2) 1) (h19_ : z17_.toInt = k) : -2147483648 ≤ z17_.toInt + 1 ∧ z17_.toInt + 1 < 2147483648 := by have r_v := rngI v; have r_z1_ := rngI z1_; have r_z17_ := rngI z17_; subst e2_; subst e18_; omega
theorem lf_c_X5_add2_12 (M10_ : mM) (Mz : mM) (b : Nat) (k : Int) (v : Int32) (z1_ : Int32) (j12_ : Nat) (z17_ : Int32) (z20_ : Int32) (hb : b < 3) (hk : (Mz.1 (5, b, 2) 1).toInt = k) (hk0 : 0 ≤ k ∧ k ≤ 6) (e2_ : z1_ = Mz.1 (5, b, 2) 1) (h3_ : z1_.toInt = k) (h4_ : 0 ≤ z1_.toInt) (h7_ : z1_.toInt < 7) (h13_ : (j12_ : Int) = z1_.toInt) (hM11_ : M10_ = up Mz (33, b, 2) j12_ v) (kf16_ : (M10_.1 (5, b, 2) 1).toInt = k) (e18_ : z17_ = M10_.1 (5, b, 2) 1) (h19_ : z17_.toInt = k) (h21_ : z20_.toInt = z17_.toInt + 1) : vRw b 2 := by have r_v := rngI v; have r_z1_ := rngI z1_; have r_z17_ := rngI z17_; have r_z20_ := rngI z20_; unfold vRw; omega
theorem lf_c_X5_add2_13 (M10_ : mM) (M22_ : mM) (Mz : mM) (b : Nat) (k : Int) (v : Int32) (z1_ : Int32) (j12_ : Nat) (z17_ : Int32) (z20_ : Int32) (hb : b < 3) (hk : (Mz.1 (5, b, 2) 1).toInt = k) (hk0 : 0 ≤ k ∧ k ≤ 6) (e2_ : z1_ = Mz.1 (5, b, 2) 1) (h3_ : z1_.toInt = k) (h4_ : 0 ≤ z1_.toInt) (h7_ : z1_.toInt < 7) (h13_ : (j12_ : Int) = z1_.toInt) (hM11_ : M10_ = up Mz (33, b, 2) j12_ v) (kf16_ : (M10_.1 (5, b, 2) 1).toInt = k) (e18_ : z17_ = M10_.1 (5, b, 2) 1) (h19_ : z17_.toInt = k) (h21_ : z20_.toInt = z17_.toInt + 1) (hM23_ : M22_ = up M10_ (5, b, 2) 1 z20_) : z20_.toInt = k + 1 := by have r_v := rngI v; have r_z1_ := rngI z1_; have r_z17_ := rngI z17_; have r_z20_ := rngI z20_; omega
set_option maxHeartbeats 4000000 in
set_option maxRecDepth 100000 in
theorem c_X5_add2 (l : Launch) (G : va_G) (cy : Nat → ClassId) (ad : rf → Nat) (d : Nat) (b : Nat) (k : Int) (v : Int32) (Mz : mM) (hIz : Inv Mz) (hb : b < 3) (hk : (Mz.1 (5, b, 2) 1).toInt = k) (hk0 : 0 ≤ k ∧ k ≤ 6) : WP CC l G cy ad yX5_add cX5_add 2 none d 0 [(0, vR (5, b, 2)), (1, vI v)] [] Mz (fun r M' => Inv M' ∧ FR (S_c_X5_add2 b) Mz M' ∧ ((M'.1 (5, b, 2) 1).toInt = k + 1) ∧ SP_X5_add2 b k v Mz M') := by
  have hFz : FR (S_c_X5_add2 b) Mz Mz := FR.self
  refine w_aload_n dX5_add_0 rfl 0 rfl ?_
  refine w_getI fl_RX5_7 rfl rfl (ic_5 (lf_c_X5_add2_0 Mz b k hb hk hk0)) dX5_add_1 (fun z1_ e2_ => ?_)
  have h3_ : z1_.toInt = k := by rw [e2_]; exact hk
  refine w_if_lt (tgt := 39) dX5_add_4 (by decide) (rfl : z1_.toInt = z1_.toInt) (fun h9 => (lf_c_X5_add2_1 Mz b k z1_ hb hk hk0 e2_ h3_ h9).elim) (fun h4_ => ?_)
  refine w_aload_n dX5_add_7 rfl 0 rfl ?_
  refine w_getI fl_RX5_7 rfl rfl (ic_5 (lf_c_X5_add2_2 Mz b k z1_ hb hk hk0 e2_ h3_ h4_)) dX5_add_8 (fun z5_ e6_ => ?_)
  obtain rfl : z1_ = z5_ := e2_.trans e6_.symm
  refine w_aload_n dX5_add_11 rfl 0 rfl ?_
  refine w_getR (c' := (33, b, 2)) fl_RX5_19 rfl rfl (ic_5 (lf_c_X5_add2_3 Mz b k z1_ hb hk hk0 e2_ h3_ h4_)) dX5_add_12 rfl ?_
  refine w_alen (v := 7) (by decide) rfl rfl (ic_33 (lf_c_X5_add2_4 Mz b k z1_ hb hk hk0 e2_ h3_ h4_)) dX5_add_15 rfl ?_
  refine w_icmp_ge (tgt := 39) dX5_add_16 (by decide) (rfl : z1_.toInt = z1_.toInt) li_7 (fun h9 => (lf_c_X5_add2_5 Mz b k z1_ hb hk hk0 e2_ h3_ h4_ h9).elim) (fun h7_ => ?_)
  refine w_aload_n dX5_add_19 rfl 0 rfl ?_
  refine w_getR (c' := (33, b, 2)) fl_RX5_19 rfl rfl (ic_5 (lf_c_X5_add2_6 Mz b k z1_ hb hk hk0 e2_ h3_ h4_ h7_)) dX5_add_20 rfl ?_
  refine w_aload_n dX5_add_23 rfl 0 rfl ?_
  refine w_getI fl_RX5_7 rfl rfl (ic_5 (lf_c_X5_add2_7 Mz b k z1_ hb hk hk0 e2_ h3_ h4_ h7_)) dX5_add_24 (fun z8_ e9_ => ?_)
  obtain rfl : z1_ = z8_ := e2_.trans e9_.symm
  refine w_iload_n dX5_add_27 rfl 1 rfl ?_
  refine w_iast CC_nd rfl rfl (ic_33 (lf_c_X5_add2_8 Mz b k z1_ hb hk hk0 e2_ h3_ h4_ h7_)) (rfl : z1_.toInt = z1_.toInt) (lf_c_X5_add2_9 Mz b k z1_ hb hk hk0 e2_ h3_ h4_ h7_) dX5_add_28 (fun j12_ h13_ M10_ hM11_ => ?_)
  have hI14_ := hIz.put hM11_ trivial
  have hF15_ := hFz.put hM11_ (Or.inl ⟨rfl, rfl, rfl⟩)
  have kf16_ : (M10_.1 (5, b, 2) 1).toInt = k := by rw [(show M10_.1 (5, b, 2) 1 = Mz.1 (5, b, 2) 1 by rw [hM11_, up_ne (by simp)])]; exact hk
  refine w_aload_n dX5_add_29 rfl 0 rfl ?_
  refine w_dup dX5_add_30 rfl ?_
  refine w_getI fl_RX5_7 rfl rfl (ic_5 (lf_c_X5_add2_10 M10_ Mz b k v z1_ j12_ hb hk hk0 e2_ h3_ h4_ h7_ h13_ hM11_ kf16_)) dX5_add_31 (fun z17_ e18_ => ?_)
  have h19_ : z17_.toInt = k := by rw [e18_]; exact kf16_
  refine w_iconst (v := 1) dX5_add_34 (by decide) ?_
  refine w_iaddB dX5_add_35 (rfl : z17_.toInt = z17_.toInt) li_1 (lf_c_X5_add2_11 M10_ Mz b k v z1_ j12_ z17_ hb hk hk0 e2_ h3_ h4_ h7_ h13_ hM11_ kf16_ e18_ h19_) (fun z20_ h21_ => ?_)
  refine w_putI CC_nd fl_RX5_7 rfl rfl (ic_5 (lf_c_X5_add2_12 M10_ Mz b k v z1_ j12_ z17_ z20_ hb hk hk0 e2_ h3_ h4_ h7_ h13_ hM11_ kf16_ e18_ h19_ h21_)) dX5_add_36 (fun M22_ hM23_ => ?_)
  have hI24_ := hI14_.put hM23_ trivial
  have hF25_ := hF15_.put hM23_ (Or.inr (Or.inl ⟨rfl, rfl, rfl, rfl⟩))
  have kf26_ : (M22_.1 (5, b, 2) 1).toInt = k + 1 := by rw [hM23_, up_same]; exact (lf_c_X5_add2_13 M10_ M22_ Mz b k v z1_ j12_ z17_ z20_ hb hk hk0 e2_ h3_ h4_ h7_ h13_ hM11_ kf16_ e18_ h19_ h21_ hM23_)
  exact w_vret rfl dX5_add_39 ⟨hI24_, hF25_, kf26_, ⟨z1_, e2_, h3_, h4_, h7_, j12_, h13_, M10_, hM11_, z17_, e18_, h19_, z20_, h21_, M22_, hM23_, rfl⟩⟩
def S_c_X5_drop2 (b : Nat) : rf → Nat → Prop := fun c k => (c.1 = 5 ∧ c.2.1 = b ∧ c.2.2 = 2 ∧ k = 1) ∨ False
def SP_X5_drop2 (b : Nat) (k : Int) (Mz : mM) (M_ : mM) : Prop := ∃ z1_ : Int32, (z1_ = Mz.1 (5, b, 2) 1) ∧ (z1_.toInt = k) ∧ (0 < z1_.toInt) ∧ ∃ z7_ : Int32, (z7_.toInt = z1_.toInt - 1) ∧ ∃ M9_ : mM, (M9_ = up Mz (5, b, 2) 1 z7_) ∧ M_ = M9_
theorem lf_c_X5_drop2_0 (Mz : mM) (b : Nat) (k : Int) (hb : b < 3) (hk : (Mz.1 (5, b, 2) 1).toInt = k) (hk0 : 1 ≤ k ∧ k ≤ 7) : vRw b 2 := by unfold vRw; omega
theorem lf_c_X5_drop2_1 (Mz : mM) (b : Nat) (k : Int) (z1_ : Int32) (hb : b < 3) (hk : (Mz.1 (5, b, 2) 1).toInt = k) (hk0 : 1 ≤ k ∧ k ≤ 7) (e2_ : z1_ = Mz.1 (5, b, 2) 1) (h3_ : z1_.toInt = k) (h9 : z1_.toInt ≤ 0) : False := by have r_z1_ := rngI z1_; subst e2_; omega
theorem lf_c_X5_drop2_2 (Mz : mM) (b : Nat) (k : Int) (z1_ : Int32) (hb : b < 3) (hk : (Mz.1 (5, b, 2) 1).toInt = k) (hk0 : 1 ≤ k ∧ k ≤ 7) (e2_ : z1_ = Mz.1 (5, b, 2) 1) (h3_ : z1_.toInt = k) (h4_ : 0 < z1_.toInt) : vRw b 2 := by have r_z1_ := rngI z1_; unfold vRw; omega
theorem lf_c_X5_drop2_3 (Mz : mM) (b : Nat) (k : Int) (z1_ : Int32) (hb : b < 3) (hk : (Mz.1 (5, b, 2) 1).toInt = k) (hk0 : 1 ≤ k ∧ k ≤ 7) (e2_ : z1_ = Mz.1 (5, b, 2) 1) (h3_ : z1_.toInt = k) (h4_ : 0 < z1_.toInt) : -2147483648 ≤ z1_.toInt - 1 ∧ z1_.toInt - 1 < 2147483648 := by have r_z1_ := rngI z1_; subst e2_; omega
theorem lf_c_X5_drop2_4 (Mz : mM) (b : Nat) (k : Int) (z1_ : Int32) (z7_ : Int32) (hb : b < 3) (hk : (Mz.1 (5, b, 2) 1).toInt = k) (hk0 : 1 ≤ k ∧ k ≤ 7) (e2_ : z1_ = Mz.1 (5, b, 2) 1) (h3_ : z1_.toInt = k) (h4_ : 0 < z1_.toInt) (h8_ : z7_.toInt = z1_.toInt - 1) : vRw b 2 := by have r_z1_ := rngI z1_; have r_z7_ := rngI z7_; unfold vRw; omega
theorem lf_c_X5_drop2_5 (M9_ : mM) (Mz : mM) (b : Nat) (k : Int) (z1_ : Int32) (z7_ : Int32) (hb : b < 3) (hk : (Mz.1 (5, b, 2) 1).toInt = k) (hk0 : 1 ≤ k ∧ k ≤ 7) (e2_ : z1_ = Mz.1 (5, b, 2) 1) (h3_ : z1_.toInt = k) (h4_ : 0 < z1_.toInt) (h8_ : z7_.toInt = z1_.toInt - 1) (hM10_ : M9_ = up Mz (5, b, 2) 1 z7_) : z7_.toInt = k - 1 := by have r_z1_ := rngI z1_; have r_z7_ := rngI z7_; omega
set_option maxHeartbeats 4000000 in
set_option maxRecDepth 100000 in
theorem c_X5_drop2 (l : Launch) (G : va_G) (cy : Nat → ClassId) (ad : rf → Nat) (d : Nat) (b : Nat) (k : Int) (Mz : mM) (hIz : Inv Mz) (hb : b < 3) (hk : (Mz.1 (5, b, 2) 1).toInt = k) (hk0 : 1 ≤ k ∧ k ≤ 7) : WP CC l G cy ad yX5_dropLast cX5_dropLast 1 none d 0 [(0, vR (5, b, 2))] [] Mz (fun r M' => Inv M' ∧ FR (S_c_X5_drop2 b) Mz M' ∧ ((M'.1 (5, b, 2) 1).toInt = k - 1) ∧ SP_X5_drop2 b k Mz M') := by
  have hFz : FR (S_c_X5_drop2 b) Mz Mz := FR.self
  refine w_aload_n dX5_dropLast_0 rfl 0 rfl ?_
  refine w_getI fl_RX5_7 rfl rfl (ic_5 (lf_c_X5_drop2_0 Mz b k hb hk hk0)) dX5_dropLast_1 (fun z1_ e2_ => ?_)
  have h3_ : z1_.toInt = k := by rw [e2_]; exact hk
  refine w_if_le (tgt := 17) dX5_dropLast_4 (by decide) (rfl : z1_.toInt = z1_.toInt) (fun h9 => (lf_c_X5_drop2_1 Mz b k z1_ hb hk hk0 e2_ h3_ h9).elim) (fun h4_ => ?_)
  refine w_aload_n dX5_dropLast_7 rfl 0 rfl ?_
  refine w_dup dX5_dropLast_8 rfl ?_
  refine w_getI fl_RX5_7 rfl rfl (ic_5 (lf_c_X5_drop2_2 Mz b k z1_ hb hk hk0 e2_ h3_ h4_)) dX5_dropLast_9 (fun z5_ e6_ => ?_)
  obtain rfl : z1_ = z5_ := e2_.trans e6_.symm
  refine w_iconst (v := 1) dX5_dropLast_12 (by decide) ?_
  refine w_isubB dX5_dropLast_13 (rfl : z1_.toInt = z1_.toInt) li_1 (lf_c_X5_drop2_3 Mz b k z1_ hb hk hk0 e2_ h3_ h4_) (fun z7_ h8_ => ?_)
  refine w_putI CC_nd fl_RX5_7 rfl rfl (ic_5 (lf_c_X5_drop2_4 Mz b k z1_ z7_ hb hk hk0 e2_ h3_ h4_ h8_)) dX5_dropLast_14 (fun M9_ hM10_ => ?_)
  have hI11_ := hIz.put hM10_ trivial
  have hF12_ := hFz.put hM10_ (Or.inl ⟨rfl, rfl, rfl, rfl⟩)
  have kf13_ : (M9_.1 (5, b, 2) 1).toInt = k - 1 := by rw [hM10_, up_same]; exact (lf_c_X5_drop2_5 M9_ Mz b k z1_ z7_ hb hk hk0 e2_ h3_ h4_ h8_ hM10_)
  exact w_vret rfl dX5_dropLast_17 ⟨hI11_, hF12_, kf13_, ⟨z1_, e2_, h3_, h4_, z7_, h8_, M9_, hM10_, rfl⟩⟩
def S_c_X5_clear2 (b : Nat) : rf → Nat → Prop := fun c k => (c.1 = 5 ∧ c.2.1 = b ∧ c.2.2 = 2 ∧ k = 1) ∨ False
def SP_X5_clear2 (b : Nat) (Mz : mM) (M_ : mM) : Prop := ∃ M1_ : mM, (M1_ = up Mz (5, b, 2) 1 0) ∧ M_ = M1_
theorem lf_c_X5_clear2_0  (b : Nat) (hb : b < 3) : vRw b 2 := by unfold vRw; omega
theorem lf_c_X5_clear2_1    : (0 : Int32).toInt = 0 := by have q0 := li_0; omega
set_option maxHeartbeats 4000000 in
set_option maxRecDepth 100000 in
theorem c_X5_clear2 (l : Launch) (G : va_G) (cy : Nat → ClassId) (ad : rf → Nat) (d : Nat) (b : Nat) (Mz : mM) (hIz : Inv Mz) (hb : b < 3) : WP CC l G cy ad yX5_clear cX5_clear 1 none d 0 [(0, vR (5, b, 2))] [] Mz (fun r M' => Inv M' ∧ FR (S_c_X5_clear2 b) Mz M' ∧ ((M'.1 (5, b, 2) 1).toInt = 0) ∧ SP_X5_clear2 b Mz M') := by
  have hFz : FR (S_c_X5_clear2 b) Mz Mz := FR.self
  refine w_aload_n dX5_clear_0 rfl 0 rfl ?_
  refine w_iconst (v := 0) dX5_clear_1 (by decide) ?_
  refine w_putI CC_nd fl_RX5_7 rfl rfl (ic_5 (lf_c_X5_clear2_0 b hb)) dX5_clear_2 (fun M1_ hM2_ => ?_)
  have hI3_ := hIz.put hM2_ trivial
  have hF4_ := hFz.put hM2_ (Or.inl ⟨rfl, rfl, rfl, rfl⟩)
  have kf5_ : (M1_.1 (5, b, 2) 1).toInt = 0 := by rw [hM2_, up_same]; exact (lf_c_X5_clear2_1 )
  exact w_vret rfl dX5_clear_5 ⟨hI3_, hF4_, kf5_, ⟨M1_, hM2_, rfl⟩⟩
