theorem lf_c_X7_isFree_0  (v : Int32) (h4_ : 0 ≤ v.toInt ∧ v.toInt ≤ 191) : 0 ≤ v.toInt ∧ v.toInt < ((192 : Nat) : Int) := by have r_v := rngI v; omega
set_option maxHeartbeats 4000000 in
set_option maxRecDepth 100000 in
theorem c_X7_isFree (l : Launch) (G : va_G) (cy : Nat → ClassId) (ad : rf → Nat) (d : Nat) (b : Nat) (v : Int32) (Mz : mM) (hIz : Inv Mz) (hb : b < 3) : WP CC l G cy ad yX7_isFree cX7_isFree 2 (some .boolean) (d + 1) 0 [(0, vR (7, b, 0)), (1, vI v)] [] Mz (fun r M' => Mz = M' ∧ ((r = 1 ∧ 0 ≤ v.toInt ∧ v.toInt ≤ 191) ∨ r = 0)) := by
  refine w_iload_n dX7_isFree_0 rfl 1 rfl ?_
  refine w_callS (as := [vI v]) (rest := []) (c_X7_isCell l G cy ad d v Mz hIz) kS_X7_isCell (by decide +kernel) (Nat.le_of_ble_eq_true rfl) m_509 rfl rfl (by decide) (Nat.le_of_ble_eq_true rfl) dX7_isFree_1 (fun r1_ M2_ q3_ => ?_)
  obtain ⟨rfl, h4_⟩ := q3_
  rcases h4_ with ⟨rfl, h4_⟩ | ⟨rfl, h4_⟩
  · refine w_if_eq (tgt := 21) dX7_isFree_4 (by decide) li_1 (fun h9 => (absurd h9 (by decide))) (fun h5_ => ?_)
    refine w_aload_n dX7_isFree_7 rfl 0 rfl ?_
    refine w_getR (c' := (35, b, 0)) fl_RX7_9 rfl rfl (ic_7 hb) dX7_isFree_8 rfl ?_
    refine w_iload_n dX7_isFree_11 rfl 1 rfl ?_
    refine w_iald rfl rfl (ic_35 hb) (rfl : v.toInt = v.toInt) (lf_c_X7_isFree_0 v h4_) dX7_isFree_12 (fun j8_ h9_ z6_ e7_ => ?_)
    refine w_iconst (v := (-1)) dX7_isFree_13 (by decide) ?_
    refine w_icmp_ne (tgt := 21) dX7_isFree_14 (by decide) (rfl : z6_.toInt = z6_.toInt) li_m1 (fun h10_ => ?_) (fun h10_ => ?_)
    · refine w_iconst (v := 0) dX7_isFree_21 (by decide) ?_
      exact w_zret rfl dX7_isFree_22 ⟨by decide, by decide⟩ ⟨rfl, (Or.inr rfl)⟩
    · refine w_iconst (v := 1) dX7_isFree_17 (by decide) ?_
      refine w_goto (tgt := 22) dX7_isFree_18 (by decide) ?_
      exact w_zret rfl dX7_isFree_22 ⟨by decide, by decide⟩ ⟨rfl, (Or.inl ⟨rfl, h4_⟩)⟩
  · refine w_if_eq (tgt := 21) dX7_isFree_4 (by decide) li_0 (fun h11_ => ?_) (fun h9 => (absurd h9 (by decide)))
    refine w_iconst (v := 0) dX7_isFree_21 (by decide) ?_
    exact w_zret rfl dX7_isFree_22 ⟨by decide, by decide⟩ ⟨rfl, (Or.inr rfl)⟩
def S_c_X7_settle (b : Nat) : rf → Nat → Prop := fun c k => (c.1 = 35 ∧ c.2.1 = b) ∨ False
theorem lf_c_X7_settle_0  (v : Int32) (h4_ : 0 ≤ v.toInt ∧ v.toInt ≤ 191) : 0 ≤ v.toInt ∧ v.toInt < ((192 : Nat) : Int) := by have r_v := rngI v; omega
set_option maxHeartbeats 4000000 in
set_option maxRecDepth 100000 in
theorem c_X7_settle (l : Launch) (G : va_G) (cy : Nat → ClassId) (ad : rf → Nat) (d : Nat) (b : Nat) (v : Int32) (u : Int32) (Mz : mM) (hIz : Inv Mz) (hb : b < 3) : WP CC l G cy ad yX7_settle cX7_settle 3 none (d + 1) 0 [(0, vR (7, b, 0)), (1, vI v), (2, vI u)] [] Mz (fun r M' => Inv M' ∧ FR (S_c_X7_settle b) Mz M' ∧ True) := by
  have hFz : FR (S_c_X7_settle b) Mz Mz := FR.self
  refine w_iload_n dX7_settle_0 rfl 1 rfl ?_
  refine w_callS (as := [vI v]) (rest := []) (c_X7_isCell l G cy ad d v Mz hIz) kS_X7_isCell (by decide +kernel) (Nat.le_of_ble_eq_true rfl) m_509 rfl rfl (by decide) (Nat.le_of_ble_eq_true rfl) dX7_settle_1 (fun r1_ M2_ q3_ => ?_)
  obtain ⟨rfl, h4_⟩ := q3_
  rcases h4_ with ⟨rfl, h4_⟩ | ⟨rfl, h4_⟩
  · refine w_if_eq (tgt := 14) dX7_settle_4 (by decide) li_1 (fun h9 => (absurd h9 (by decide))) (fun h5_ => ?_)
    refine w_aload_n dX7_settle_7 rfl 0 rfl ?_
    refine w_getR (c' := (35, b, 0)) fl_RX7_9 rfl rfl (ic_7 hb) dX7_settle_8 rfl ?_
    refine w_iload_n dX7_settle_11 rfl 1 rfl ?_
    refine w_iload_n dX7_settle_12 rfl 2 rfl ?_
    refine w_iast CC_nd rfl rfl (ic_35 hb) (rfl : v.toInt = v.toInt) (lf_c_X7_settle_0 v h4_) dX7_settle_13 (fun j8_ h9_ M6_ hM7_ => ?_)
    have hI10_ := hIz.put hM7_ trivial
    have hF11_ := hFz.put hM7_ (Or.inl ⟨rfl, rfl⟩)
    exact w_vret rfl dX7_settle_14 ⟨hI10_, hF11_, trivial⟩
  · refine w_if_eq (tgt := 14) dX7_settle_4 (by decide) li_0 (fun h12_ => ?_) (fun h9 => (absurd h9 (by decide)))
    exact w_vret rfl dX7_settle_14 ⟨hIz, hFz, trivial⟩
set_option maxHeartbeats 4000000 in
set_option maxRecDepth 100000 in
theorem c_X7_hasRoom (l : Launch) (G : va_G) (cy : Nat → ClassId) (ad : rf → Nat) (d : Nat) (b : Nat) (Mz : mM) (hIz : Inv Mz) (hb : b < 3) : WP CC l G cy ad yX7_hasRoom cX7_hasRoom 1 (some .boolean) d 0 [(0, vR (7, b, 0))] [] Mz (fun r M' => Mz = M' ∧ (0 ≤ r.toInt ∧ r.toInt ≤ 1)) := by
  refine w_aload_n dX7_hasRoom_0 rfl 0 rfl ?_
  refine w_getI fl_RX7_25 rfl rfl (ic_7 hb) dX7_hasRoom_1 (fun z1_ e2_ => ?_)
  refine w_bipush (v := 40) dX7_hasRoom_4 (by decide) ?_
  refine w_icmp_ge (tgt := 13) dX7_hasRoom_6 (by decide) (rfl : z1_.toInt = z1_.toInt) li_40 (fun h3_ => ?_) (fun h3_ => ?_)
  · refine w_iconst (v := 0) dX7_hasRoom_13 (by decide) ?_
    exact w_zret rfl dX7_hasRoom_14 ⟨by decide, by decide⟩ ⟨rfl, ⟨by decide, by decide⟩⟩
  · refine w_iconst (v := 1) dX7_hasRoom_9 (by decide) ?_
    refine w_goto (tgt := 14) dX7_hasRoom_10 (by decide) ?_
    exact w_zret rfl dX7_hasRoom_14 ⟨by decide, by decide⟩ ⟨rfl, ⟨by decide, by decide⟩⟩
theorem lf_c_X7_hasThing_0 (Mz : mM) (b : Nat) (v : Int32) (z2_ : Int32) (hb : b < 3) (h1_ : 0 ≤ v.toInt) (e3_ : z2_ = Mz.1 (7, b, 0) 5) (h4_ : v.toInt < z2_.toInt) (h5_ : v.toInt < 40) : 0 ≤ v.toInt ∧ v.toInt ≤ 39 := by have r_v := rngI v; have r_z2_ := rngI z2_; subst e3_; omega
set_option maxHeartbeats 4000000 in
set_option maxRecDepth 100000 in
theorem c_X7_hasThing (l : Launch) (G : va_G) (cy : Nat → ClassId) (ad : rf → Nat) (d : Nat) (b : Nat) (v : Int32) (Mz : mM) (hIz : Inv Mz) (hb : b < 3) : WP CC l G cy ad yX7_hasThing cX7_hasThing 2 (some .boolean) d 0 [(0, vR (7, b, 0)), (1, vI v)] [] Mz (fun r M' => Mz = M' ∧ ((r = 1 ∧ 0 ≤ v.toInt ∧ v.toInt ≤ 39) ∨ r = 0)) := by
  refine w_iload_n dX7_hasThing_0 rfl 1 rfl ?_
  refine w_if_lt (tgt := 22) dX7_hasThing_1 (by decide) (rfl : v.toInt = v.toInt) (fun h1_ => ?_) (fun h1_ => ?_)
  · refine w_iconst (v := 0) dX7_hasThing_22 (by decide) ?_
    exact w_zret rfl dX7_hasThing_23 ⟨by decide, by decide⟩ ⟨rfl, (Or.inr rfl)⟩
  · refine w_iload_n dX7_hasThing_4 rfl 1 rfl ?_
    refine w_aload_n dX7_hasThing_5 rfl 0 rfl ?_
    refine w_getI fl_RX7_25 rfl rfl (ic_7 hb) dX7_hasThing_6 (fun z2_ e3_ => ?_)
    refine w_icmp_ge (tgt := 22) dX7_hasThing_9 (by decide) (rfl : v.toInt = v.toInt) (rfl : z2_.toInt = z2_.toInt) (fun h4_ => ?_) (fun h4_ => ?_)
    · refine w_iconst (v := 0) dX7_hasThing_22 (by decide) ?_
      exact w_zret rfl dX7_hasThing_23 ⟨by decide, by decide⟩ ⟨rfl, (Or.inr rfl)⟩
    · refine w_iload_n dX7_hasThing_12 rfl 1 rfl ?_
      refine w_bipush (v := 40) dX7_hasThing_13 (by decide) ?_
      refine w_icmp_ge (tgt := 22) dX7_hasThing_15 (by decide) (rfl : v.toInt = v.toInt) li_40 (fun h5_ => ?_) (fun h5_ => ?_)
      · refine w_iconst (v := 0) dX7_hasThing_22 (by decide) ?_
        exact w_zret rfl dX7_hasThing_23 ⟨by decide, by decide⟩ ⟨rfl, (Or.inr rfl)⟩
      · refine w_iconst (v := 1) dX7_hasThing_18 (by decide) ?_
        refine w_goto (tgt := 23) dX7_hasThing_19 (by decide) ?_
        exact w_zret rfl dX7_hasThing_23 ⟨by decide, by decide⟩ ⟨rfl, (Or.inl ⟨rfl, (lf_c_X7_hasThing_0 Mz b v z2_ hb h1_ e3_ h4_ h5_)⟩)⟩
def S_c_X7_addThing (b : Nat) : rf → Nat → Prop := fun c k => (c.1 = 36 ∧ c.2.1 = b) ∨ (c.1 = 37 ∧ c.2.1 = b) ∨ (c.1 = 38 ∧ c.2.1 = b) ∨ (c.1 = 39 ∧ c.2.1 = b) ∨ (c.1 = 35 ∧ c.2.1 = b) ∨ (c.1 = 7 ∧ c.2.1 = b ∧ k = 5) ∨ False
theorem lf_c_X7_addThing_0 (Mz : mM) (b : Nat) (z1_ : Int32) (hb : b < 3) (e2_ : z1_ = Mz.1 (7, b, 0) 5) (h3_ : 0 ≤ z1_.toInt) (h4_ : z1_.toInt < 40) : 0 ≤ z1_.toInt ∧ z1_.toInt < ((40 : Nat) : Int) := by have r_z1_ := rngI z1_; subst e2_; omega
theorem lf_c_X7_addThing_1 (M5_ : mM) (Mz : mM) (b : Nat) (v : Int32) (z1_ : Int32) (j7_ : Nat) (hb : b < 3) (e2_ : z1_ = Mz.1 (7, b, 0) 5) (h3_ : 0 ≤ z1_.toInt) (h4_ : z1_.toInt < 40) (h8_ : (j7_ : Int) = z1_.toInt) (hM6_ : M5_ = up Mz (36, b, 0) j7_ v) : 0 ≤ z1_.toInt ∧ z1_.toInt < ((40 : Nat) : Int) := by have r_v := rngI v; have r_z1_ := rngI z1_; subst e2_; omega
theorem lf_c_X7_addThing_2 (M11_ : mM) (M5_ : mM) (Mz : mM) (b : Nat) (v : Int32) (u : Int32) (z1_ : Int32) (j7_ : Nat) (j13_ : Nat) (hb : b < 3) (e2_ : z1_ = Mz.1 (7, b, 0) 5) (h3_ : 0 ≤ z1_.toInt) (h4_ : z1_.toInt < 40) (h8_ : (j7_ : Int) = z1_.toInt) (hM6_ : M5_ = up Mz (36, b, 0) j7_ v) (h14_ : (j13_ : Int) = z1_.toInt) (hM12_ : M11_ = up M5_ (37, b, 0) j13_ u) : 0 ≤ z1_.toInt ∧ z1_.toInt < ((40 : Nat) : Int) := by have r_v := rngI v; have r_u := rngI u; have r_z1_ := rngI z1_; subst e2_; omega
theorem lf_c_X7_addThing_3 (M11_ : mM) (M17_ : mM) (M5_ : mM) (Mz : mM) (b : Nat) (v : Int32) (u : Int32) (z1_ : Int32) (j7_ : Nat) (j13_ : Nat) (j19_ : Nat) (hb : b < 3) (e2_ : z1_ = Mz.1 (7, b, 0) 5) (h3_ : 0 ≤ z1_.toInt) (h4_ : z1_.toInt < 40) (h8_ : (j7_ : Int) = z1_.toInt) (hM6_ : M5_ = up Mz (36, b, 0) j7_ v) (h14_ : (j13_ : Int) = z1_.toInt) (hM12_ : M11_ = up M5_ (37, b, 0) j13_ u) (h20_ : (j19_ : Int) = z1_.toInt) (hM18_ : M17_ = up M11_ (38, b, 0) j19_ 0) : 0 ≤ z1_.toInt ∧ z1_.toInt < ((40 : Nat) : Int) := by have r_v := rngI v; have r_u := rngI u; have r_z1_ := rngI z1_; subst e2_; omega
set_option maxHeartbeats 4000000 in
set_option maxRecDepth 100000 in
theorem c_X7_addThing (l : Launch) (G : va_G) (cy : Nat → ClassId) (ad : rf → Nat) (d : Nat) (b : Nat) (v : Int32) (u : Int32) (Mz : mM) (hIz : Inv Mz) (hb : b < 3) : WP CC l G cy ad yX7_addThing cX7_addThing 4 (some .int) (d + 2) 0 [(0, vR (7, b, 0)), (1, vI v), (2, vI u)] [] Mz (fun r M' => Inv M' ∧ FR (S_c_X7_addThing b) Mz M' ∧ True) := by
  have hFz : FR (S_c_X7_addThing b) Mz Mz := FR.self
  refine w_aload_n dX7_addThing_0 rfl 0 rfl ?_
  refine w_getI fl_RX7_25 rfl rfl (ic_7 hb) dX7_addThing_1 (fun z1_ e2_ => ?_)
  refine w_istore_n (ls' := [(3, vI z1_), (0, vR (7, b, 0)), (1, vI v), (2, vI u)]) dX7_addThing_4 rfl (by decide) rfl ?_
  refine w_iload_n dX7_addThing_5 rfl 0 rfl ?_
  refine w_if_lt (tgt := 15) dX7_addThing_6 (by decide) (rfl : z1_.toInt = z1_.toInt) (fun h3_ => ?_) (fun h3_ => ?_)
  · refine w_iconst (v := (-1)) dX7_addThing_15 (by decide) ?_
    exact w_iret rfl dX7_addThing_16 ⟨hIz, hFz, trivial⟩
  · refine w_iload_n dX7_addThing_9 rfl 0 rfl ?_
    refine w_bipush (v := 40) dX7_addThing_10 (by decide) ?_
    refine w_icmp_lt (tgt := 17) dX7_addThing_12 (by decide) (rfl : z1_.toInt = z1_.toInt) li_40 (fun h4_ => ?_) (fun h4_ => ?_)
    · refine w_aload_n dX7_addThing_17 rfl 1 rfl ?_
      refine w_getR (c' := (36, b, 0)) fl_RX7_13 rfl rfl (ic_7 hb) dX7_addThing_18 rfl ?_
      refine w_iload_n dX7_addThing_21 rfl 0 rfl ?_
      refine w_iload_n dX7_addThing_22 rfl 2 rfl ?_
      refine w_iast CC_nd rfl rfl (ic_36 hb) (rfl : z1_.toInt = z1_.toInt) (lf_c_X7_addThing_0 Mz b z1_ hb e2_ h3_ h4_) dX7_addThing_23 (fun j7_ h8_ M5_ hM6_ => ?_)
      have hI9_ := hIz.put hM6_ trivial
      have hF10_ := hFz.put hM6_ (Or.inl ⟨rfl, rfl⟩)
      refine w_aload_n dX7_addThing_24 rfl 1 rfl ?_
      refine w_getR (c' := (37, b, 0)) fl_RX7_16 rfl rfl (ic_7 hb) dX7_addThing_25 rfl ?_
      refine w_iload_n dX7_addThing_28 rfl 0 rfl ?_
      refine w_iload_n dX7_addThing_29 rfl 3 rfl ?_
      refine w_iast CC_nd rfl rfl (ic_37 hb) (rfl : z1_.toInt = z1_.toInt) (lf_c_X7_addThing_1 M5_ Mz b v z1_ j7_ hb e2_ h3_ h4_ h8_ hM6_) dX7_addThing_30 (fun j13_ h14_ M11_ hM12_ => ?_)
      have hI15_ := hI9_.put hM12_ trivial
      have hF16_ := hF10_.put hM12_ (Or.inr (Or.inl ⟨rfl, rfl⟩))
      refine w_aload_n dX7_addThing_31 rfl 1 rfl ?_
      refine w_getR (c' := (38, b, 0)) fl_RX7_19 rfl rfl (ic_7 hb) dX7_addThing_32 rfl ?_
      refine w_iload_n dX7_addThing_35 rfl 0 rfl ?_
      refine w_iconst (v := 0) dX7_addThing_36 (by decide) ?_
      refine w_iast CC_nd rfl rfl (ic_38 hb) (rfl : z1_.toInt = z1_.toInt) (lf_c_X7_addThing_2 M11_ M5_ Mz b v u z1_ j7_ j13_ hb e2_ h3_ h4_ h8_ hM6_ h14_ hM12_) dX7_addThing_37 (fun j19_ h20_ M17_ hM18_ => ?_)
      have hI21_ := hI15_.put hM18_ trivial
      have hF22_ := hF16_.put hM18_ (Or.inr (Or.inr (Or.inl ⟨rfl, rfl⟩)))
      refine w_aload_n dX7_addThing_38 rfl 1 rfl ?_
      refine w_getR (c' := (39, b, 0)) fl_RX7_22 rfl rfl (ic_7 hb) dX7_addThing_39 rfl ?_
      refine w_iload_n dX7_addThing_42 rfl 0 rfl ?_
      refine w_iconst (v := 0) dX7_addThing_43 (by decide) ?_
      refine w_iast CC_nd rfl rfl (ic_39 hb) (rfl : z1_.toInt = z1_.toInt) (lf_c_X7_addThing_3 M11_ M17_ M5_ Mz b v u z1_ j7_ j13_ j19_ hb e2_ h3_ h4_ h8_ hM6_ h14_ hM12_ h20_ hM18_) dX7_addThing_44 (fun j25_ h26_ M23_ hM24_ => ?_)
      have hI27_ := hI21_.put hM24_ trivial
      have hF28_ := hF22_.put hM24_ (Or.inr (Or.inr (Or.inr (Or.inl ⟨rfl, rfl⟩))))
      refine w_aload_n dX7_addThing_45 rfl 1 rfl ?_
      refine w_iload_n dX7_addThing_46 rfl 3 rfl ?_
      refine w_iload_n dX7_addThing_47 rfl 0 rfl ?_
      refine w_callVv (as := [vI u, vI z1_]) (rest := []) (c_X7_settle l G cy ad d b u z1_ M23_ hI27_ hb) kV_X7_settle (by decide +kernel) (Nat.le_of_ble_eq_true rfl) m_518 rfl rfl rfl (ic_7 hb) rfl rfl (by decide) (Nat.le_of_ble_eq_true rfl) dX7_addThing_48 (fun M29_ q30_ => ?_)
      obtain ⟨hI32_, hF33_, h31_⟩ := q30_
      have hF34_ := hF28_.tr hF33_ (fun c k => (fun h => h.elim (fun h => (Or.inr (Or.inr (Or.inr (Or.inr (Or.inl ⟨h.1, h.2⟩)))))) (fun h => h.elim)))
      refine w_aload_n dX7_addThing_51 rfl 1 rfl ?_
      refine w_dup dX7_addThing_52 rfl ?_
      refine w_getI fl_RX7_25 rfl rfl (ic_7 hb) dX7_addThing_53 (fun z35_ e36_ => ?_)
      refine w_iconst (v := 1) dX7_addThing_56 (by decide) ?_
      refine w_iadd dX7_addThing_57 (fun z37_ _ => ?_)
      refine w_putI CC_nd fl_RX7_25 rfl rfl (ic_7 hb) dX7_addThing_58 (fun M38_ hM39_ => ?_)
      have hI40_ := hI32_.put hM39_ trivial
      have hF41_ := hF34_.put hM39_ (Or.inr (Or.inr (Or.inr (Or.inr (Or.inr (Or.inl ⟨rfl, rfl, rfl⟩))))))
      refine w_iload_n dX7_addThing_61 rfl 0 rfl ?_
      exact w_iret rfl dX7_addThing_62 ⟨hI40_, hF41_, trivial⟩
    · refine w_iconst (v := (-1)) dX7_addThing_15 (by decide) ?_
      exact w_iret rfl dX7_addThing_16 ⟨hIz, hFz, trivial⟩
theorem lf_c_X7_factOf_0  (u : Int32)  : u.toInt = 0 ∨ u.toInt = 1 ∨ u.toInt = 2 ∨ (¬ u.toInt = 0 ∧ ¬ u.toInt = 1 ∧ ¬ u.toInt = 2) := by have r_u := rngI u; omega
theorem lf_c_X7_factOf_1  (v : Int32) (h4_ : 0 ≤ v.toInt ∧ v.toInt ≤ 39) : 0 ≤ v.toInt ∧ v.toInt < ((40 : Nat) : Int) := by have r_v := rngI v; omega
theorem lf_c_X7_factOf_2  (v : Int32) (h4_ : 0 ≤ v.toInt ∧ v.toInt ≤ 39) : 0 ≤ v.toInt ∧ v.toInt < ((40 : Nat) : Int) := by have r_v := rngI v; omega
theorem lf_c_X7_factOf_3  (v : Int32) (h4_ : 0 ≤ v.toInt ∧ v.toInt ≤ 39) : 0 ≤ v.toInt ∧ v.toInt < ((40 : Nat) : Int) := by have r_v := rngI v; omega
theorem lf_c_X7_factOf_4  (u : Int32) (e6_ : (¬ u.toInt = 0 ∧ ¬ u.toInt = 1 ∧ ¬ u.toInt = 2)) : u.toInt < 0 ∨ 2 < u.toInt := by have r_u := rngI u; omega
theorem lf_c_X7_factOf_5  (v : Int32) (h4_ : 0 ≤ v.toInt ∧ v.toInt ≤ 39) : 0 ≤ v.toInt ∧ v.toInt < ((40 : Nat) : Int) := by have r_v := rngI v; omega
set_option maxHeartbeats 4000000 in
set_option maxRecDepth 100000 in
theorem c_X7_factOf (l : Launch) (G : va_G) (cy : Nat → ClassId) (ad : rf → Nat) (d : Nat) (b : Nat) (v : Int32) (u : Int32) (Mz : mM) (hIz : Inv Mz) (hb : b < 3) : WP CC l G cy ad yX7_factOf cX7_factOf 3 (some .int) (d + 1) 0 [(0, vR (7, b, 0)), (1, vI v), (2, vI u)] [] Mz (fun r M' => Mz = M' ∧ True) := by
  refine w_aload_n dX7_factOf_0 rfl 0 rfl ?_
  refine w_iload_n dX7_factOf_1 rfl 1 rfl ?_
  refine w_callV (as := [vI v]) (rest := []) (c_X7_hasThing l G cy ad d b v Mz hIz hb) kV_X7_hasThing (by decide +kernel) (Nat.le_of_ble_eq_true rfl) m_534 rfl rfl rfl (ic_7 hb) rfl rfl (by decide) (Nat.le_of_ble_eq_true rfl) dX7_factOf_2 (fun r1_ M2_ q3_ => ?_)
  obtain ⟨rfl, h4_⟩ := q3_
  rcases h4_ with ⟨rfl, h4_⟩ | rfl
  · refine w_if_ne (tgt := 10) dX7_factOf_5 (by decide) li_1 (fun h5_ => ?_) (fun h9 => (absurd h9 (by decide)))
    refine w_iload_n dX7_factOf_10 rfl 2 rfl ?_
    rcases (lf_c_X7_factOf_0 u) with e6_ | e6_ | e6_ | e6_
    · refine w_tsIn (tgt := 36) (off := 25) dX7_factOf_11 e6_ (by decide) (by decide) rfl (by decide) ?_
      refine w_aload_n dX7_factOf_36 rfl 0 rfl ?_
      refine w_getR (c' := (36, b, 0)) fl_RX7_13 rfl rfl (ic_7 hb) dX7_factOf_37 rfl ?_
      refine w_iload_n dX7_factOf_40 rfl 1 rfl ?_
      refine w_iald rfl rfl (ic_36 hb) (rfl : v.toInt = v.toInt) (lf_c_X7_factOf_1 v h4_) dX7_factOf_41 (fun j9_ h10_ z7_ e8_ => ?_)
      exact w_iret rfl dX7_factOf_42 ⟨rfl, trivial⟩
    · refine w_tsIn (tgt := 43) (off := 32) dX7_factOf_11 e6_ (by decide) (by decide) rfl (by decide) ?_
      refine w_aload_n dX7_factOf_43 rfl 0 rfl ?_
      refine w_getR (c' := (37, b, 0)) fl_RX7_16 rfl rfl (ic_7 hb) dX7_factOf_44 rfl ?_
      refine w_iload_n dX7_factOf_47 rfl 1 rfl ?_
      refine w_iald rfl rfl (ic_37 hb) (rfl : v.toInt = v.toInt) (lf_c_X7_factOf_2 v h4_) dX7_factOf_48 (fun j13_ h14_ z11_ e12_ => ?_)
      exact w_iret rfl dX7_factOf_49 ⟨rfl, trivial⟩
    · refine w_tsIn (tgt := 50) (off := 39) dX7_factOf_11 e6_ (by decide) (by decide) rfl (by decide) ?_
      refine w_aload_n dX7_factOf_50 rfl 0 rfl ?_
      refine w_getR (c' := (38, b, 0)) fl_RX7_19 rfl rfl (ic_7 hb) dX7_factOf_51 rfl ?_
      refine w_iload_n dX7_factOf_54 rfl 1 rfl ?_
      refine w_iald rfl rfl (ic_38 hb) (rfl : v.toInt = v.toInt) (lf_c_X7_factOf_3 v h4_) dX7_factOf_55 (fun j17_ h18_ z15_ e16_ => ?_)
      exact w_iret rfl dX7_factOf_56 ⟨rfl, trivial⟩
    · refine w_tsOut (tgt := 57) dX7_factOf_11 rfl (lf_c_X7_factOf_4 u e6_) (by decide) ?_
      refine w_aload_n dX7_factOf_57 rfl 0 rfl ?_
      refine w_getR (c' := (39, b, 0)) fl_RX7_22 rfl rfl (ic_7 hb) dX7_factOf_58 rfl ?_
      refine w_iload_n dX7_factOf_61 rfl 1 rfl ?_
      refine w_iald rfl rfl (ic_39 hb) (rfl : v.toInt = v.toInt) (lf_c_X7_factOf_5 v h4_) dX7_factOf_62 (fun j21_ h22_ z19_ e20_ => ?_)
      exact w_iret rfl dX7_factOf_63 ⟨rfl, trivial⟩
  · refine w_if_ne (tgt := 10) dX7_factOf_5 (by decide) li_0 (fun h9 => (absurd h9 (by decide))) (fun h23_ => ?_)
    refine w_iconst (v := 0) dX7_factOf_8 (by decide) ?_
    exact w_iret rfl dX7_factOf_9 ⟨rfl, trivial⟩
def S_c_X7_takeAway (b : Nat) : rf → Nat → Prop := fun c k => (c.1 = 35 ∧ c.2.1 = b) ∨ (c.1 = 37 ∧ c.2.1 = b) ∨ False
theorem lf_c_X7_takeAway_0  (v : Int32) (h4_ : 0 ≤ v.toInt ∧ v.toInt ≤ 39) : 0 ≤ v.toInt ∧ v.toInt < ((40 : Nat) : Int) := by have r_v := rngI v; omega
theorem lf_c_X7_takeAway_1 (Mz : mM) (b : Nat) (v : Int32) (j8_ : Nat) (z6_ : Int32) (hb : b < 3) (h4_ : 0 ≤ v.toInt ∧ v.toInt ≤ 39) (h9_ : (j8_ : Int) = v.toInt) (e7_ : z6_ = Mz.1 (37, b, 0) j8_) : 0 ≤ v.toInt ∧ v.toInt < ((40 : Nat) : Int) := by have r_v := rngI v; have r_z6_ := rngI z6_; subst e7_; omega
set_option maxHeartbeats 4000000 in
set_option maxRecDepth 100000 in
theorem c_X7_takeAway (l : Launch) (G : va_G) (cy : Nat → ClassId) (ad : rf → Nat) (d : Nat) (b : Nat) (v : Int32) (Mz : mM) (hIz : Inv Mz) (hb : b < 3) : WP CC l G cy ad yX7_takeAway cX7_takeAway 3 (some .int) (d + 2) 0 [(0, vR (7, b, 0)), (1, vI v)] [] Mz (fun r M' => Inv M' ∧ FR (S_c_X7_takeAway b) Mz M' ∧ True) := by
  have hFz : FR (S_c_X7_takeAway b) Mz Mz := FR.self
  refine w_aload_n dX7_takeAway_0 rfl 0 rfl ?_
  refine w_iload_n dX7_takeAway_1 rfl 1 rfl ?_
  refine w_callV (as := [vI v]) (rest := []) (c_X7_hasThing l G cy ad (d + 1) b v Mz hIz hb) kV_X7_hasThing (by decide +kernel) (Nat.le_of_ble_eq_true rfl) m_534 rfl rfl rfl (ic_7 hb) rfl rfl (by decide) (Nat.le_of_ble_eq_true rfl) dX7_takeAway_2 (fun r1_ M2_ q3_ => ?_)
  obtain ⟨rfl, h4_⟩ := q3_
  rcases h4_ with ⟨rfl, h4_⟩ | rfl
  · refine w_if_ne (tgt := 10) dX7_takeAway_5 (by decide) li_1 (fun h5_ => ?_) (fun h9 => (absurd h9 (by decide)))
    refine w_aload_n dX7_takeAway_10 rfl 0 rfl ?_
    refine w_getR (c' := (37, b, 0)) fl_RX7_16 rfl rfl (ic_7 hb) dX7_takeAway_11 rfl ?_
    refine w_iload_n dX7_takeAway_14 rfl 1 rfl ?_
    refine w_iald rfl rfl (ic_37 hb) (rfl : v.toInt = v.toInt) (lf_c_X7_takeAway_0 v h4_) dX7_takeAway_15 (fun j8_ h9_ z6_ e7_ => ?_)
    refine w_istore_n (ls' := [(2, vI z6_), (0, vR (7, b, 0)), (1, vI v)]) dX7_takeAway_16 rfl (by decide) rfl ?_
    refine w_aload_n dX7_takeAway_17 rfl 1 rfl ?_
    refine w_iload_n dX7_takeAway_18 rfl 0 rfl ?_
    refine w_iconst (v := (-1)) dX7_takeAway_19 (by decide) ?_
    refine w_callVv (as := [vI z6_, vI (-1)]) (rest := []) (c_X7_settle l G cy ad d b z6_ (-1) Mz hIz hb) kV_X7_settle (by decide +kernel) (Nat.le_of_ble_eq_true rfl) m_518 rfl rfl rfl (ic_7 hb) rfl rfl (by decide) (Nat.le_of_ble_eq_true rfl) dX7_takeAway_20 (fun M10_ q11_ => ?_)
    obtain ⟨hI13_, hF14_, h12_⟩ := q11_
    have hF15_ := hFz.tr hF14_ (fun c k => (fun h => h.elim (fun h => (Or.inl ⟨h.1, h.2⟩)) (fun h => h.elim)))
    refine w_aload_n dX7_takeAway_23 rfl 1 rfl ?_
    refine w_getR (c' := (37, b, 0)) fl_RX7_16 rfl rfl (ic_7 hb) dX7_takeAway_24 rfl ?_
    refine w_iload_n dX7_takeAway_27 rfl 2 rfl ?_
    refine w_iconst (v := (-1)) dX7_takeAway_28 (by decide) ?_
    refine w_iast CC_nd rfl rfl (ic_37 hb) (rfl : v.toInt = v.toInt) (lf_c_X7_takeAway_1 Mz b v j8_ z6_ hb h4_ h9_ e7_) dX7_takeAway_29 (fun j18_ h19_ M16_ hM17_ => ?_)
    have hI20_ := hI13_.put hM17_ trivial
    have hF21_ := hF15_.put hM17_ (Or.inr (Or.inl ⟨rfl, rfl⟩))
    refine w_iload_n dX7_takeAway_30 rfl 0 rfl ?_
    exact w_iret rfl dX7_takeAway_31 ⟨hI20_, hF21_, trivial⟩
  · refine w_if_ne (tgt := 10) dX7_takeAway_5 (by decide) li_0 (fun h9 => (absurd h9 (by decide))) (fun h22_ => ?_)
    refine w_iconst (v := (-1)) dX7_takeAway_8 (by decide) ?_
    exact w_iret rfl dX7_takeAway_9 ⟨hIz, hFz, trivial⟩
theorem lf_c_X7_countThings_0 (Mz : mM) (b : Nat) (v2_4 : Int32) (z2_ : Int32) (hb : b < 3) (hv0_4 : 0 ≤ v2_4.toInt) (e3_ : z2_ = Mz.1 (7, b, 0) 5) (h4_ : v2_4.toInt < z2_.toInt) (h5_ : v2_4.toInt < 40) : 0 ≤ v2_4.toInt ∧ v2_4.toInt < ((40 : Nat) : Int) := by have r_v2_4 := rngI v2_4; have r_z2_ := rngI z2_; subst e3_; omega
theorem lf_c_X7_countThings_1 (Mz : mM) (b : Nat) (v2_4 : Int32) (z2_ : Int32) (j8_ : Nat) (z6_ : Int32) (hb : b < 3) (hv0_4 : 0 ≤ v2_4.toInt) (e3_ : z2_ = Mz.1 (7, b, 0) 5) (h4_ : v2_4.toInt < z2_.toInt) (h5_ : v2_4.toInt < 40) (h9_ : (j8_ : Int) = v2_4.toInt) (e7_ : z6_ = Mz.1 (37, b, 0) j8_) (h10_ : z6_.toInt < 0) : -2147483648 ≤ v2_4.toInt + 1 ∧ v2_4.toInt + 1 < 2147483648 := by have r_v2_4 := rngI v2_4; have r_z2_ := rngI z2_; have r_z6_ := rngI z6_; subst e3_; subst e7_; omega
theorem lf_c_X7_countThings_2 (Mz : mM) (b : Nat) (v2_4 : Int32) (z2_ : Int32) (j8_ : Nat) (z6_ : Int32) (z11_ : Int32) (hb : b < 3) (hv0_4 : 0 ≤ v2_4.toInt) (e3_ : z2_ = Mz.1 (7, b, 0) 5) (h4_ : v2_4.toInt < z2_.toInt) (h5_ : v2_4.toInt < 40) (h9_ : (j8_ : Int) = v2_4.toInt) (e7_ : z6_ = Mz.1 (37, b, 0) j8_) (h10_ : z6_.toInt < 0) (h12_ : z11_.toInt = v2_4.toInt + 1) : 0 ≤ z11_.toInt := by have r_v2_4 := rngI v2_4; have r_z2_ := rngI z2_; have r_z6_ := rngI z6_; have r_z11_ := rngI z11_; omega
theorem lf_c_X7_countThings_3 (Mz : mM) (b : Nat) (v2_4 : Int32) (z2_ : Int32) (j8_ : Nat) (z6_ : Int32) (z11_ : Int32) (hb : b < 3) (hv0_4 : 0 ≤ v2_4.toInt) (e3_ : z2_ = Mz.1 (7, b, 0) 5) (h4_ : v2_4.toInt < z2_.toInt) (h5_ : v2_4.toInt < 40) (h9_ : (j8_ : Int) = v2_4.toInt) (e7_ : z6_ = Mz.1 (37, b, 0) j8_) (h10_ : z6_.toInt < 0) (h12_ : z11_.toInt = v2_4.toInt + 1) : (2147483648 - z11_.toInt).toNat < (2147483648 - v2_4.toInt).toNat := by have r_v2_4 := rngI v2_4; have r_z2_ := rngI z2_; have r_z6_ := rngI z6_; have r_z11_ := rngI z11_; omega
theorem lf_c_X7_countThings_4 (Mz : mM) (b : Nat) (v2_4 : Int32) (z2_ : Int32) (j8_ : Nat) (z6_ : Int32) (hb : b < 3) (hv0_4 : 0 ≤ v2_4.toInt) (e3_ : z2_ = Mz.1 (7, b, 0) 5) (h4_ : v2_4.toInt < z2_.toInt) (h5_ : v2_4.toInt < 40) (h9_ : (j8_ : Int) = v2_4.toInt) (e7_ : z6_ = Mz.1 (37, b, 0) j8_) (h10_ : 0 ≤ z6_.toInt) : -2147483648 ≤ v2_4.toInt + 1 ∧ v2_4.toInt + 1 < 2147483648 := by have r_v2_4 := rngI v2_4; have r_z2_ := rngI z2_; have r_z6_ := rngI z6_; subst e3_; subst e7_; omega
theorem lf_c_X7_countThings_5 (Mz : mM) (b : Nat) (v2_4 : Int32) (z2_ : Int32) (j8_ : Nat) (z6_ : Int32) (z14_ : Int32) (hb : b < 3) (hv0_4 : 0 ≤ v2_4.toInt) (e3_ : z2_ = Mz.1 (7, b, 0) 5) (h4_ : v2_4.toInt < z2_.toInt) (h5_ : v2_4.toInt < 40) (h9_ : (j8_ : Int) = v2_4.toInt) (e7_ : z6_ = Mz.1 (37, b, 0) j8_) (h10_ : 0 ≤ z6_.toInt) (h15_ : z14_.toInt = v2_4.toInt + 1) : 0 ≤ z14_.toInt := by have r_v2_4 := rngI v2_4; have r_z2_ := rngI z2_; have r_z6_ := rngI z6_; have r_z14_ := rngI z14_; omega
theorem lf_c_X7_countThings_6 (Mz : mM) (b : Nat) (v2_4 : Int32) (z2_ : Int32) (j8_ : Nat) (z6_ : Int32) (z14_ : Int32) (hb : b < 3) (hv0_4 : 0 ≤ v2_4.toInt) (e3_ : z2_ = Mz.1 (7, b, 0) 5) (h4_ : v2_4.toInt < z2_.toInt) (h5_ : v2_4.toInt < 40) (h9_ : (j8_ : Int) = v2_4.toInt) (e7_ : z6_ = Mz.1 (37, b, 0) j8_) (h10_ : 0 ≤ z6_.toInt) (h15_ : z14_.toInt = v2_4.toInt + 1) : (2147483648 - z14_.toInt).toNat < (2147483648 - v2_4.toInt).toNat := by have r_v2_4 := rngI v2_4; have r_z2_ := rngI z2_; have r_z6_ := rngI z6_; have r_z14_ := rngI z14_; omega
theorem lf_c_X7_countThings_7    : 0 ≤ (0 : Int32).toInt := by have q0 := li_0; omega
set_option maxHeartbeats 4000000 in
set_option maxRecDepth 100000 in
theorem c_X7_countThings (l : Launch) (G : va_G) (cy : Nat → ClassId) (ad : rf → Nat) (d : Nat) (b : Nat) (Mz : mM) (hIz : Inv Mz) (hb : b < 3) : WP CC l G cy ad yX7_countThings cX7_countThings 3 (some .int) d 0 [(0, vR (7, b, 0))] [] Mz (fun r M' => Mz = M' ∧ True) := by
  refine w_iconst (v := 0) dX7_countThings_0 (by decide) ?_
  refine w_istore_n (ls' := [(1, vI 0), (0, vR (7, b, 0))]) dX7_countThings_1 rfl (by decide) rfl ?_
  refine w_iconst (v := 0) dX7_countThings_2 (by decide) ?_
  refine w_istore_n (ls' := [(2, vI 0), (1, vI 0), (0, vR (7, b, 0))]) dX7_countThings_3 rfl (by decide) rfl ?_
  have lp1_ : ∀ (nn_4 : Nat) (v2_4 : Int32) (v1_4 : Int32) (hv0_4 : 0 ≤ v2_4.toInt), (2147483648 - v2_4.toInt).toNat < nn_4 → WP CC l G cy ad yX7_countThings cX7_countThings 3 (some .int) d 4 [(2, vI v2_4), (1, vI v1_4), (0, vR (7, b, 0))] [] Mz (fun r M' => Mz = M' ∧ True) := by
    intro nn_4
    induction nn_4 with
    | zero => intro v2_4 v1_4 hv0_4 hm_4; exact absurd hm_4 (Nat.not_lt_zero _)
    | succ nn_4 ih_4 =>
      intro v2_4 v1_4 hv0_4 hm_4
      refine w_iload_n dX7_countThings_4 rfl 0 rfl ?_
      refine w_aload_n dX7_countThings_5 rfl 2 rfl ?_
      refine w_getI fl_RX7_25 rfl rfl (ic_7 hb) dX7_countThings_6 (fun z2_ e3_ => ?_)
      refine w_icmp_ge (tgt := 36) dX7_countThings_9 (by decide) (rfl : v2_4.toInt = v2_4.toInt) (rfl : z2_.toInt = z2_.toInt) (fun h4_ => ?_) (fun h4_ => ?_)
      · refine w_iload_n dX7_countThings_36 rfl 1 rfl ?_
        exact w_iret rfl dX7_countThings_37 ⟨rfl, trivial⟩
      · refine w_iload_n dX7_countThings_12 rfl 0 rfl ?_
        refine w_bipush (v := 40) dX7_countThings_13 (by decide) ?_
        refine w_icmp_ge (tgt := 36) dX7_countThings_15 (by decide) (rfl : v2_4.toInt = v2_4.toInt) li_40 (fun h5_ => ?_) (fun h5_ => ?_)
        · refine w_iload_n dX7_countThings_36 rfl 1 rfl ?_
          exact w_iret rfl dX7_countThings_37 ⟨rfl, trivial⟩
        · refine w_aload_n dX7_countThings_18 rfl 2 rfl ?_
          refine w_getR (c' := (37, b, 0)) fl_RX7_16 rfl rfl (ic_7 hb) dX7_countThings_19 rfl ?_
          refine w_iload_n dX7_countThings_22 rfl 0 rfl ?_
          refine w_iald rfl rfl (ic_37 hb) (rfl : v2_4.toInt = v2_4.toInt) (lf_c_X7_countThings_0 Mz b v2_4 z2_ hb hv0_4 e3_ h4_ h5_) dX7_countThings_23 (fun j8_ h9_ z6_ e7_ => ?_)
          refine w_if_lt (tgt := 30) dX7_countThings_24 (by decide) (rfl : z6_.toInt = z6_.toInt) (fun h10_ => ?_) (fun h10_ => ?_)
          · refine w_iincB (j := 0) (f := fun z11_ => [(2, vI z11_), (1, vI v1_4), (0, vR (7, b, 0))]) dX7_countThings_30 rfl (by decide) (fun _ => rfl) (rfl : v2_4.toInt = v2_4.toInt) li_1 (lf_c_X7_countThings_1 Mz b v2_4 z2_ j8_ z6_ hb hv0_4 e3_ h4_ h5_ h9_ e7_ h10_) (fun z11_ h12_ => ?_)
            refine w_goto (tgt := 4) dX7_countThings_33 (by decide) ?_
            refine w_loc (ls' := [(2, vI z11_), (1, vI v1_4), (0, vR (7, b, 0))]) [0, 1, 2] rfl ?_
            exact ih_4 z11_ v1_4 (lf_c_X7_countThings_2 Mz b v2_4 z2_ j8_ z6_ z11_ hb hv0_4 e3_ h4_ h5_ h9_ e7_ h10_ h12_) (Nat.lt_of_lt_of_le (lf_c_X7_countThings_3 Mz b v2_4 z2_ j8_ z6_ z11_ hb hv0_4 e3_ h4_ h5_ h9_ e7_ h10_ h12_) (Nat.le_of_lt_succ hm_4))
          · refine w_iincU (j := 1) (f := fun z13_ => [(1, vI z13_), (2, vI v2_4), (0, vR (7, b, 0))]) dX7_countThings_27 rfl (by decide) (fun _ => rfl) (fun z13_ => ?_)
            refine w_iincB (j := 1) (f := fun z14_ => [(2, vI z14_), (1, vI z13_), (0, vR (7, b, 0))]) dX7_countThings_30 rfl (by decide) (fun _ => rfl) (rfl : v2_4.toInt = v2_4.toInt) li_1 (lf_c_X7_countThings_4 Mz b v2_4 z2_ j8_ z6_ hb hv0_4 e3_ h4_ h5_ h9_ e7_ h10_) (fun z14_ h15_ => ?_)
            refine w_goto (tgt := 4) dX7_countThings_33 (by decide) ?_
            refine w_loc (ls' := [(2, vI z14_), (1, vI z13_), (0, vR (7, b, 0))]) [0, 1, 2] rfl ?_
            exact ih_4 z14_ z13_ (lf_c_X7_countThings_5 Mz b v2_4 z2_ j8_ z6_ z14_ hb hv0_4 e3_ h4_ h5_ h9_ e7_ h10_ h15_) (Nat.lt_of_lt_of_le (lf_c_X7_countThings_6 Mz b v2_4 z2_ j8_ z6_ z14_ hb hv0_4 e3_ h4_ h5_ h9_ e7_ h10_ h15_) (Nat.le_of_lt_succ hm_4))
  exact lp1_ _ 0 0 (lf_c_X7_countThings_7 ) (Nat.lt_succ_self _)
theorem lf_c_X7_kindIn_0  (v : Int32) (h4_ : 0 ≤ v.toInt ∧ v.toInt ≤ 191) : 0 ≤ v.toInt ∧ v.toInt < ((192 : Nat) : Int) := by have r_v := rngI v; omega
theorem lf_c_X7_kindIn_1 (Mz : mM) (b : Nat) (v : Int32) (j8_ : Nat) (z6_ : Int32) (hb : b < 3) (h4_ : 0 ≤ v.toInt ∧ v.toInt ≤ 191) (h9_ : (j8_ : Int) = v.toInt) (e7_ : z6_ = Mz.1 (35, b, 0) j8_) (h13_ : 0 ≤ z6_.toInt ∧ z6_.toInt ≤ 39) : 0 ≤ z6_.toInt ∧ z6_.toInt < ((40 : Nat) : Int) := by have r_v := rngI v; have r_z6_ := rngI z6_; subst e7_; omega
set_option maxHeartbeats 4000000 in
set_option maxRecDepth 100000 in
theorem c_X7_kindIn (l : Launch) (G : va_G) (cy : Nat → ClassId) (ad : rf → Nat) (d : Nat) (b : Nat) (v : Int32) (Mz : mM) (hIz : Inv Mz) (hb : b < 3) : WP CC l G cy ad yX7_kindIn cX7_kindIn 3 (some .int) (d + 1) 0 [(0, vR (7, b, 0)), (1, vI v)] [] Mz (fun r M' => Mz = M' ∧ True) := by
  refine w_iload_n dX7_kindIn_0 rfl 1 rfl ?_
  refine w_callS (as := [vI v]) (rest := []) (c_X7_isCell l G cy ad d v Mz hIz) kS_X7_isCell (by decide +kernel) (Nat.le_of_ble_eq_true rfl) m_509 rfl rfl (by decide) (Nat.le_of_ble_eq_true rfl) dX7_kindIn_1 (fun r1_ M2_ q3_ => ?_)
  obtain ⟨rfl, h4_⟩ := q3_
  rcases h4_ with ⟨rfl, h4_⟩ | ⟨rfl, h4_⟩
  · refine w_if_eq (tgt := 16) dX7_kindIn_4 (by decide) li_1 (fun h9 => (absurd h9 (by decide))) (fun h5_ => ?_)
    refine w_aload_n dX7_kindIn_7 rfl 0 rfl ?_
    refine w_getR (c' := (35, b, 0)) fl_RX7_9 rfl rfl (ic_7 hb) dX7_kindIn_8 rfl ?_
    refine w_iload_n dX7_kindIn_11 rfl 1 rfl ?_
    refine w_iald rfl rfl (ic_35 hb) (rfl : v.toInt = v.toInt) (lf_c_X7_kindIn_0 v h4_) dX7_kindIn_12 (fun j8_ h9_ z6_ e7_ => ?_)
    refine w_goto (tgt := 17) dX7_kindIn_13 (by decide) ?_
    refine w_istore_n (ls' := [(2, vI z6_), (0, vR (7, b, 0)), (1, vI v)]) dX7_kindIn_17 rfl (by decide) rfl ?_
    refine w_aload_n dX7_kindIn_18 rfl 1 rfl ?_
    refine w_iload_n dX7_kindIn_19 rfl 0 rfl ?_
    refine w_callV (as := [vI z6_]) (rest := []) (c_X7_hasThing l G cy ad d b z6_ Mz hIz hb) kV_X7_hasThing (by decide +kernel) (Nat.le_of_ble_eq_true rfl) m_534 rfl rfl rfl (ic_7 hb) rfl rfl (by decide) (Nat.le_of_ble_eq_true rfl) dX7_kindIn_20 (fun r10_ M11_ q12_ => ?_)
    obtain ⟨rfl, h13_⟩ := q12_
    rcases h13_ with ⟨rfl, h13_⟩ | rfl
    · refine w_if_eq (tgt := 35) dX7_kindIn_23 (by decide) li_1 (fun h9 => (absurd h9 (by decide))) (fun h14_ => ?_)
      refine w_aload_n dX7_kindIn_26 rfl 1 rfl ?_
      refine w_getR (c' := (36, b, 0)) fl_RX7_13 rfl rfl (ic_7 hb) dX7_kindIn_27 rfl ?_
      refine w_iload_n dX7_kindIn_30 rfl 0 rfl ?_
      refine w_iald rfl rfl (ic_36 hb) (rfl : z6_.toInt = z6_.toInt) (lf_c_X7_kindIn_1 Mz b v j8_ z6_ hb h4_ h9_ e7_ h13_) dX7_kindIn_31 (fun j17_ h18_ z15_ e16_ => ?_)
      refine w_goto (tgt := 36) dX7_kindIn_32 (by decide) ?_
      exact w_iret rfl dX7_kindIn_36 ⟨rfl, trivial⟩
    · refine w_if_eq (tgt := 35) dX7_kindIn_23 (by decide) li_0 (fun h19_ => ?_) (fun h9 => (absurd h9 (by decide)))
      refine w_iconst (v := 3) dX7_kindIn_35 (by decide) ?_
      exact w_iret rfl dX7_kindIn_36 ⟨rfl, trivial⟩
  · refine w_if_eq (tgt := 16) dX7_kindIn_4 (by decide) li_0 (fun h20_ => ?_) (fun h9 => (absurd h9 (by decide)))
    refine w_iconst (v := (-1)) dX7_kindIn_16 (by decide) ?_
    refine w_istore_n (ls' := [(2, vI (-1)), (0, vR (7, b, 0)), (1, vI v)]) dX7_kindIn_17 rfl (by decide) rfl ?_
    refine w_aload_n dX7_kindIn_18 rfl 1 rfl ?_
    refine w_iload_n dX7_kindIn_19 rfl 0 rfl ?_
    refine w_callV (as := [vI (-1)]) (rest := []) (c_X7_hasThing l G cy ad d b (-1) Mz hIz hb) kV_X7_hasThing (by decide +kernel) (Nat.le_of_ble_eq_true rfl) m_534 rfl rfl rfl (ic_7 hb) rfl rfl (by decide) (Nat.le_of_ble_eq_true rfl) dX7_kindIn_20 (fun r21_ M22_ q23_ => ?_)
    obtain ⟨rfl, h24_⟩ := q23_
    rcases h24_ with ⟨rfl, h24_⟩ | rfl
    · simp only [li_m1] at h24_
      exact absurd h24_ (by decide)
    · refine w_if_eq (tgt := 35) dX7_kindIn_23 (by decide) li_0 (fun h25_ => ?_) (fun h9 => (absurd h9 (by decide)))
      refine w_iconst (v := 3) dX7_kindIn_35 (by decide) ?_
      exact w_iret rfl dX7_kindIn_36 ⟨rfl, trivial⟩
def S_c_X7_letThingGo (b : Nat) : rf → Nat → Prop := fun c k => (c.1 = 35 ∧ c.2.1 = b) ∨ (c.1 = 37 ∧ c.2.1 = b) ∨ (c.1 = 38 ∧ c.2.1 = b) ∨ False
theorem lf_c_X7_letThingGo_0  (v : Int32) (h4_ : 0 ≤ v.toInt ∧ v.toInt ≤ 39) : 0 ≤ v.toInt ∧ v.toInt < ((40 : Nat) : Int) := by have r_v := rngI v; omega
theorem lf_c_X7_letThingGo_1 (Mz : mM) (b : Nat) (v : Int32) (j8_ : Nat) (z6_ : Int32) (hb : b < 3) (h4_ : 0 ≤ v.toInt ∧ v.toInt ≤ 39) (h9_ : (j8_ : Int) = v.toInt) (e7_ : z6_ = Mz.1 (37, b, 0) j8_) : 0 ≤ v.toInt ∧ v.toInt < ((40 : Nat) : Int) := by have r_v := rngI v; have r_z6_ := rngI z6_; subst e7_; omega
theorem lf_c_X7_letThingGo_2 (Mz : mM) (b : Nat) (v : Int32) (j8_ : Nat) (z6_ : Int32) (j12_ : Nat) (z10_ : Int32) (hb : b < 3) (h4_ : 0 ≤ v.toInt ∧ v.toInt ≤ 39) (h9_ : (j8_ : Int) = v.toInt) (e7_ : z6_ = Mz.1 (37, b, 0) j8_) (h13_ : (j12_ : Int) = v.toInt) (e11_ : z10_ = Mz.1 (38, b, 0) j12_) : 0 ≤ v.toInt ∧ v.toInt < ((40 : Nat) : Int) := by have r_v := rngI v; have r_z6_ := rngI z6_; have r_z10_ := rngI z10_; subst e7_; subst e11_; omega
theorem lf_c_X7_letThingGo_3 (Mz : mM) (b : Nat) (v : Int32) (j8_ : Nat) (z6_ : Int32) (j12_ : Nat) (z10_ : Int32) (j25_ : Nat) (z23_ : Int32) (hb : b < 3) (h4_ : 0 ≤ v.toInt ∧ v.toInt ≤ 39) (h9_ : (j8_ : Int) = v.toInt) (e7_ : z6_ = Mz.1 (37, b, 0) j8_) (h13_ : (j12_ : Int) = v.toInt) (e11_ : z10_ = Mz.1 (38, b, 0) j12_) (h26_ : (j25_ : Int) = v.toInt) (e24_ : z23_ = Mz.1 (37, b, 0) j25_) : 0 ≤ v.toInt ∧ v.toInt < ((40 : Nat) : Int) := by have r_v := rngI v; have r_z6_ := rngI z6_; have r_z10_ := rngI z10_; have r_z23_ := rngI z23_; subst e7_; subst e11_; subst e24_; omega
theorem lf_c_X7_letThingGo_4 (Mz : mM) (b : Nat) (v : Int32) (j8_ : Nat) (z6_ : Int32) (j12_ : Nat) (z10_ : Int32) (hb : b < 3) (h4_ : 0 ≤ v.toInt ∧ v.toInt ≤ 39) (h9_ : (j8_ : Int) = v.toInt) (e7_ : z6_ = Mz.1 (37, b, 0) j8_) (h13_ : (j12_ : Int) = v.toInt) (e11_ : z10_ = Mz.1 (38, b, 0) j12_) : 0 ≤ v.toInt ∧ v.toInt < ((40 : Nat) : Int) := by have r_v := rngI v; have r_z6_ := rngI z6_; have r_z10_ := rngI z10_; subst e7_; subst e11_; omega
theorem lf_c_X7_letThingGo_5 (Mz : mM) (b : Nat) (v : Int32) (j8_ : Nat) (z6_ : Int32) (j12_ : Nat) (z10_ : Int32) (j48_ : Nat) (z46_ : Int32) (hb : b < 3) (h4_ : 0 ≤ v.toInt ∧ v.toInt ≤ 39) (h9_ : (j8_ : Int) = v.toInt) (e7_ : z6_ = Mz.1 (37, b, 0) j8_) (h13_ : (j12_ : Int) = v.toInt) (e11_ : z10_ = Mz.1 (38, b, 0) j12_) (h49_ : (j48_ : Int) = v.toInt) (e47_ : z46_ = Mz.1 (38, b, 0) j48_) : 0 ≤ v.toInt ∧ v.toInt < ((40 : Nat) : Int) := by have r_v := rngI v; have r_z6_ := rngI z6_; have r_z10_ := rngI z10_; have r_z46_ := rngI z46_; subst e7_; subst e11_; subst e47_; omega
set_option maxHeartbeats 4000000 in
set_option maxRecDepth 100000 in
theorem c_X7_letThingGo (l : Launch) (G : va_G) (cy : Nat → ClassId) (ad : rf → Nat) (d : Nat) (b : Nat) (v : Int32) (Mz : mM) (hIz : Inv Mz) (hb : b < 3) : WP CC l G cy ad yX7_letThingGo cX7_letThingGo 3 none (d + 2) 0 [(0, vR (7, b, 0)), (1, vI v)] [] Mz (fun r M' => Inv M' ∧ FR (S_c_X7_letThingGo b) Mz M' ∧ True) := by
  have hFz : FR (S_c_X7_letThingGo b) Mz Mz := FR.self
  refine w_aload_n dX7_letThingGo_0 rfl 0 rfl ?_
  refine w_iload_n dX7_letThingGo_1 rfl 1 rfl ?_
  refine w_callV (as := [vI v]) (rest := []) (c_X7_hasThing l G cy ad (d + 1) b v Mz hIz hb) kV_X7_hasThing (by decide +kernel) (Nat.le_of_ble_eq_true rfl) m_534 rfl rfl rfl (ic_7 hb) rfl rfl (by decide) (Nat.le_of_ble_eq_true rfl) dX7_letThingGo_2 (fun r1_ M2_ q3_ => ?_)
  obtain ⟨rfl, h4_⟩ := q3_
  rcases h4_ with ⟨rfl, h4_⟩ | rfl
  · refine w_if_ne (tgt := 9) dX7_letThingGo_5 (by decide) li_1 (fun h5_ => ?_) (fun h9 => (absurd h9 (by decide)))
    refine w_aload_n dX7_letThingGo_9 rfl 0 rfl ?_
    refine w_getR (c' := (37, b, 0)) fl_RX7_16 rfl rfl (ic_7 hb) dX7_letThingGo_10 rfl ?_
    refine w_iload_n dX7_letThingGo_13 rfl 1 rfl ?_
    refine w_iald rfl rfl (ic_37 hb) (rfl : v.toInt = v.toInt) (lf_c_X7_letThingGo_0 v h4_) dX7_letThingGo_14 (fun j8_ h9_ z6_ e7_ => ?_)
    refine w_aload_n dX7_letThingGo_15 rfl 0 rfl ?_
    refine w_getR (c' := (38, b, 0)) fl_RX7_19 rfl rfl (ic_7 hb) dX7_letThingGo_16 rfl ?_
    refine w_iload_n dX7_letThingGo_19 rfl 1 rfl ?_
    refine w_iald rfl rfl (ic_38 hb) (rfl : v.toInt = v.toInt) (lf_c_X7_letThingGo_1 Mz b v j8_ z6_ hb h4_ h9_ e7_) dX7_letThingGo_20 (fun j12_ h13_ z10_ e11_ => ?_)
    refine w_iconst (v := 1) dX7_letThingGo_21 (by decide) ?_
    refine w_callS (as := [vI z6_, vI z10_, vI 1]) (rest := []) (c_X7_cellFrom l G cy ad d z6_ z10_ 1 Mz hIz) kS_X7_cellFrom (by decide +kernel) (Nat.le_of_ble_eq_true rfl) m_1037 rfl rfl (by decide) (Nat.le_of_ble_eq_true rfl) dX7_letThingGo_22 (fun r14_ M15_ q16_ => ?_)
    obtain ⟨rfl, h17_⟩ := q16_
    refine w_istore_n (ls' := [(2, vI r14_), (0, vR (7, b, 0)), (1, vI v)]) dX7_letThingGo_25 rfl (by decide) rfl ?_
    refine w_aload_n dX7_letThingGo_26 rfl 1 rfl ?_
    refine w_iload_n dX7_letThingGo_27 rfl 0 rfl ?_
    refine w_callV (as := [vI r14_]) (rest := []) (c_X7_isFree l G cy ad d b r14_ Mz hIz hb) kV_X7_isFree (by decide +kernel) (Nat.le_of_ble_eq_true rfl) m_1038 rfl rfl rfl (ic_7 hb) rfl rfl (by decide) (Nat.le_of_ble_eq_true rfl) dX7_letThingGo_28 (fun r18_ M19_ q20_ => ?_)
    obtain ⟨rfl, h21_⟩ := q20_
    rcases h21_ with ⟨rfl, h21_⟩ | rfl
    · refine w_if_eq (tgt := 61) dX7_letThingGo_31 (by decide) li_1 (fun h9 => (absurd h9 (by decide))) (fun h22_ => ?_)
      refine w_aload_n dX7_letThingGo_34 rfl 1 rfl ?_
      refine w_aload_n dX7_letThingGo_35 rfl 1 rfl ?_
      refine w_getR (c' := (37, b, 0)) fl_RX7_16 rfl rfl (ic_7 hb) dX7_letThingGo_36 rfl ?_
      refine w_iload_n dX7_letThingGo_39 rfl 2 rfl ?_
      refine w_iald rfl rfl (ic_37 hb) (rfl : v.toInt = v.toInt) (lf_c_X7_letThingGo_2 Mz b v j8_ z6_ j12_ z10_ hb h4_ h9_ e7_ h13_ e11_) dX7_letThingGo_40 (fun j25_ h26_ z23_ e24_ => ?_)
      refine w_iconst (v := (-1)) dX7_letThingGo_41 (by decide) ?_
      refine w_callVv (as := [vI z23_, vI (-1)]) (rest := []) (c_X7_settle l G cy ad d b z23_ (-1) Mz hIz hb) kV_X7_settle (by decide +kernel) (Nat.le_of_ble_eq_true rfl) m_518 rfl rfl rfl (ic_7 hb) rfl rfl (by decide) (Nat.le_of_ble_eq_true rfl) dX7_letThingGo_42 (fun M27_ q28_ => ?_)
      obtain ⟨hI30_, hF31_, h29_⟩ := q28_
      have hF32_ := hFz.tr hF31_ (fun c k => (fun h => h.elim (fun h => (Or.inl ⟨h.1, h.2⟩)) (fun h => h.elim)))
      refine w_aload_n dX7_letThingGo_45 rfl 1 rfl ?_
      refine w_iload_n dX7_letThingGo_46 rfl 0 rfl ?_
      refine w_iload_n dX7_letThingGo_47 rfl 2 rfl ?_
      refine w_callVv (as := [vI r14_, vI v]) (rest := []) (c_X7_settle l G cy ad d b r14_ v M27_ hI30_ hb) kV_X7_settle (by decide +kernel) (Nat.le_of_ble_eq_true rfl) m_518 rfl rfl rfl (ic_7 hb) rfl rfl (by decide) (Nat.le_of_ble_eq_true rfl) dX7_letThingGo_48 (fun M33_ q34_ => ?_)
      obtain ⟨hI36_, hF37_, h35_⟩ := q34_
      have hF38_ := hF32_.tr hF37_ (fun c k => (fun h => h.elim (fun h => (Or.inl ⟨h.1, h.2⟩)) (fun h => h.elim)))
      refine w_aload_n dX7_letThingGo_51 rfl 1 rfl ?_
      refine w_getR (c' := (37, b, 0)) fl_RX7_16 rfl rfl (ic_7 hb) dX7_letThingGo_52 rfl ?_
      refine w_iload_n dX7_letThingGo_55 rfl 2 rfl ?_
      refine w_iload_n dX7_letThingGo_56 rfl 0 rfl ?_
      refine w_iast CC_nd rfl rfl (ic_37 hb) (rfl : v.toInt = v.toInt) (lf_c_X7_letThingGo_3 Mz b v j8_ z6_ j12_ z10_ j25_ z23_ hb h4_ h9_ e7_ h13_ e11_ h26_ e24_) dX7_letThingGo_57 (fun j41_ h42_ M39_ hM40_ => ?_)
      have hI43_ := hI36_.put hM40_ trivial
      have hF44_ := hF38_.put hM40_ (Or.inr (Or.inl ⟨rfl, rfl⟩))
      refine w_goto (tgt := 78) dX7_letThingGo_58 (by decide) ?_
      exact w_vret rfl dX7_letThingGo_78 ⟨hI43_, hF44_, trivial⟩
    · refine w_if_eq (tgt := 61) dX7_letThingGo_31 (by decide) li_0 (fun h45_ => ?_) (fun h9 => (absurd h9 (by decide)))
      refine w_aload_n dX7_letThingGo_61 rfl 1 rfl ?_
      refine w_getR (c' := (38, b, 0)) fl_RX7_19 rfl rfl (ic_7 hb) dX7_letThingGo_62 rfl ?_
      refine w_iload_n dX7_letThingGo_65 rfl 2 rfl ?_
      refine w_aload_n dX7_letThingGo_66 rfl 1 rfl ?_
      refine w_getR (c' := (38, b, 0)) fl_RX7_19 rfl rfl (ic_7 hb) dX7_letThingGo_67 rfl ?_
      refine w_iload_n dX7_letThingGo_70 rfl 2 rfl ?_
      refine w_iald rfl rfl (ic_38 hb) (rfl : v.toInt = v.toInt) (lf_c_X7_letThingGo_4 Mz b v j8_ z6_ j12_ z10_ hb h4_ h9_ e7_ h13_ e11_) dX7_letThingGo_71 (fun j48_ h49_ z46_ e47_ => ?_)
      refine w_iconst (v := 4) dX7_letThingGo_72 (by decide) ?_
      refine w_iadd dX7_letThingGo_73 (fun z50_ _ => ?_)
      refine w_bipush (v := 7) dX7_letThingGo_74 (by decide) ?_
      refine w_iandB 3 dX7_letThingGo_76 (by decide) (by decide) (fun z51_ h52_ => ?_)
      refine w_iast CC_nd rfl rfl (ic_38 hb) (rfl : v.toInt = v.toInt) (lf_c_X7_letThingGo_5 Mz b v j8_ z6_ j12_ z10_ j48_ z46_ hb h4_ h9_ e7_ h13_ e11_ h49_ e47_) dX7_letThingGo_77 (fun j55_ h56_ M53_ hM54_ => ?_)
      have hI57_ := hIz.put hM54_ trivial
      have hF58_ := hFz.put hM54_ (Or.inr (Or.inr (Or.inl ⟨rfl, rfl⟩)))
      exact w_vret rfl dX7_letThingGo_78 ⟨hI57_, hF58_, trivial⟩
  · refine w_if_ne (tgt := 9) dX7_letThingGo_5 (by decide) li_0 (fun h9 => (absurd h9 (by decide))) (fun h59_ => ?_)
    exact w_vret rfl dX7_letThingGo_8 ⟨hIz, hFz, trivial⟩
def S_c_X7_letThingsGo (b : Nat) : rf → Nat → Prop := fun c k => (c.1 = 35 ∧ c.2.1 = b) ∨ (c.1 = 37 ∧ c.2.1 = b) ∨ (c.1 = 38 ∧ c.2.1 = b) ∨ False
theorem lf_c_X7_letThingsGo_0 (M_2 : mM) (b : Nat) (v2_2 : Int32) (z2_ : Int32) (hb : b < 3) (hv0_2 : 0 ≤ v2_2.toInt) (e3_ : z2_ = M_2.1 (7, b, 0) 5) (h4_ : v2_2.toInt < z2_.toInt) (h5_ : v2_2.toInt < 40) : 0 ≤ v2_2.toInt ∧ v2_2.toInt < ((40 : Nat) : Int) := by have r_v2_2 := rngI v2_2; have r_z2_ := rngI z2_; subst e3_; omega
theorem lf_c_X7_letThingsGo_1 (M_2 : mM) (b : Nat) (v2_2 : Int32) (z2_ : Int32) (j8_ : Nat) (z6_ : Int32) (hb : b < 3) (hv0_2 : 0 ≤ v2_2.toInt) (e3_ : z2_ = M_2.1 (7, b, 0) 5) (h4_ : v2_2.toInt < z2_.toInt) (h5_ : v2_2.toInt < 40) (h9_ : (j8_ : Int) = v2_2.toInt) (e7_ : z6_ = M_2.1 (39, b, 0) j8_) : 0 ≤ v2_2.toInt ∧ v2_2.toInt < ((40 : Nat) : Int) := by have r_v2_2 := rngI v2_2; have r_z2_ := rngI z2_; have r_z6_ := rngI z6_; subst e3_; subst e7_; omega
theorem lf_c_X7_letThingsGo_2 (M_2 : mM) (b : Nat) (v2_2 : Int32) (z2_ : Int32) (j8_ : Nat) (z6_ : Int32) (j12_ : Nat) (z10_ : Int32) (hb : b < 3) (hv0_2 : 0 ≤ v2_2.toInt) (e3_ : z2_ = M_2.1 (7, b, 0) 5) (h4_ : v2_2.toInt < z2_.toInt) (h5_ : v2_2.toInt < 40) (h9_ : (j8_ : Int) = v2_2.toInt) (e7_ : z6_ = M_2.1 (39, b, 0) j8_) (h13_ : (j12_ : Int) = v2_2.toInt) (e11_ : z10_ = M_2.1 (37, b, 0) j12_) (h14_ : z10_.toInt < 0) : -2147483648 ≤ v2_2.toInt + 1 ∧ v2_2.toInt + 1 < 2147483648 := by have r_v2_2 := rngI v2_2; have r_z2_ := rngI z2_; have r_z6_ := rngI z6_; have r_z10_ := rngI z10_; subst e3_; subst e7_; subst e11_; omega
theorem lf_c_X7_letThingsGo_3 (M_2 : mM) (b : Nat) (v2_2 : Int32) (z2_ : Int32) (j8_ : Nat) (z6_ : Int32) (j12_ : Nat) (z10_ : Int32) (z15_ : Int32) (hb : b < 3) (hv0_2 : 0 ≤ v2_2.toInt) (e3_ : z2_ = M_2.1 (7, b, 0) 5) (h4_ : v2_2.toInt < z2_.toInt) (h5_ : v2_2.toInt < 40) (h9_ : (j8_ : Int) = v2_2.toInt) (e7_ : z6_ = M_2.1 (39, b, 0) j8_) (h13_ : (j12_ : Int) = v2_2.toInt) (e11_ : z10_ = M_2.1 (37, b, 0) j12_) (h14_ : z10_.toInt < 0) (h16_ : z15_.toInt = v2_2.toInt + 1) : 0 ≤ z15_.toInt := by have r_v2_2 := rngI v2_2; have r_z2_ := rngI z2_; have r_z6_ := rngI z6_; have r_z10_ := rngI z10_; have r_z15_ := rngI z15_; omega
theorem lf_c_X7_letThingsGo_4 (M_2 : mM) (b : Nat) (v2_2 : Int32) (z2_ : Int32) (j8_ : Nat) (z6_ : Int32) (j12_ : Nat) (z10_ : Int32) (z15_ : Int32) (hb : b < 3) (hv0_2 : 0 ≤ v2_2.toInt) (e3_ : z2_ = M_2.1 (7, b, 0) 5) (h4_ : v2_2.toInt < z2_.toInt) (h5_ : v2_2.toInt < 40) (h9_ : (j8_ : Int) = v2_2.toInt) (e7_ : z6_ = M_2.1 (39, b, 0) j8_) (h13_ : (j12_ : Int) = v2_2.toInt) (e11_ : z10_ = M_2.1 (37, b, 0) j12_) (h14_ : z10_.toInt < 0) (h16_ : z15_.toInt = v2_2.toInt + 1) : (2147483648 - z15_.toInt).toNat < (2147483648 - v2_2.toInt).toNat := by have r_v2_2 := rngI v2_2; have r_z2_ := rngI z2_; have r_z6_ := rngI z6_; have r_z10_ := rngI z10_; have r_z15_ := rngI z15_; omega
theorem lf_c_X7_letThingsGo_5 (M_2 : mM) (b : Nat) (v2_2 : Int32) (z2_ : Int32) (j8_ : Nat) (z6_ : Int32) (j12_ : Nat) (z10_ : Int32) (hb : b < 3) (hv0_2 : 0 ≤ v2_2.toInt) (e3_ : z2_ = M_2.1 (7, b, 0) 5) (h4_ : v2_2.toInt < z2_.toInt) (h5_ : v2_2.toInt < 40) (h9_ : (j8_ : Int) = v2_2.toInt) (e7_ : z6_ = M_2.1 (39, b, 0) j8_) (h13_ : (j12_ : Int) = v2_2.toInt) (e11_ : z10_ = M_2.1 (37, b, 0) j12_) (h14_ : 0 ≤ z10_.toInt) (h17_ : z6_.toInt ≤ 0) : -2147483648 ≤ v2_2.toInt + 1 ∧ v2_2.toInt + 1 < 2147483648 := by have r_v2_2 := rngI v2_2; have r_z2_ := rngI z2_; have r_z6_ := rngI z6_; have r_z10_ := rngI z10_; subst e3_; subst e7_; subst e11_; omega
theorem lf_c_X7_letThingsGo_6 (M_2 : mM) (b : Nat) (v2_2 : Int32) (z2_ : Int32) (j8_ : Nat) (z6_ : Int32) (j12_ : Nat) (z10_ : Int32) (z18_ : Int32) (hb : b < 3) (hv0_2 : 0 ≤ v2_2.toInt) (e3_ : z2_ = M_2.1 (7, b, 0) 5) (h4_ : v2_2.toInt < z2_.toInt) (h5_ : v2_2.toInt < 40) (h9_ : (j8_ : Int) = v2_2.toInt) (e7_ : z6_ = M_2.1 (39, b, 0) j8_) (h13_ : (j12_ : Int) = v2_2.toInt) (e11_ : z10_ = M_2.1 (37, b, 0) j12_) (h14_ : 0 ≤ z10_.toInt) (h17_ : z6_.toInt ≤ 0) (h19_ : z18_.toInt = v2_2.toInt + 1) : 0 ≤ z18_.toInt := by have r_v2_2 := rngI v2_2; have r_z2_ := rngI z2_; have r_z6_ := rngI z6_; have r_z10_ := rngI z10_; have r_z18_ := rngI z18_; omega
theorem lf_c_X7_letThingsGo_7 (M_2 : mM) (b : Nat) (v2_2 : Int32) (z2_ : Int32) (j8_ : Nat) (z6_ : Int32) (j12_ : Nat) (z10_ : Int32) (z18_ : Int32) (hb : b < 3) (hv0_2 : 0 ≤ v2_2.toInt) (e3_ : z2_ = M_2.1 (7, b, 0) 5) (h4_ : v2_2.toInt < z2_.toInt) (h5_ : v2_2.toInt < 40) (h9_ : (j8_ : Int) = v2_2.toInt) (e7_ : z6_ = M_2.1 (39, b, 0) j8_) (h13_ : (j12_ : Int) = v2_2.toInt) (e11_ : z10_ = M_2.1 (37, b, 0) j12_) (h14_ : 0 ≤ z10_.toInt) (h17_ : z6_.toInt ≤ 0) (h19_ : z18_.toInt = v2_2.toInt + 1) : (2147483648 - z18_.toInt).toNat < (2147483648 - v2_2.toInt).toNat := by have r_v2_2 := rngI v2_2; have r_z2_ := rngI z2_; have r_z6_ := rngI z6_; have r_z10_ := rngI z10_; have r_z18_ := rngI z18_; omega
theorem lf_c_X7_letThingsGo_8 (M_2 : mM) (b : Nat) (v2_2 : Int32) (z2_ : Int32) (j8_ : Nat) (z6_ : Int32) (j12_ : Nat) (z10_ : Int32) (hb : b < 3) (hv0_2 : 0 ≤ v2_2.toInt) (e3_ : z2_ = M_2.1 (7, b, 0) 5) (h4_ : v2_2.toInt < z2_.toInt) (h5_ : v2_2.toInt < 40) (h9_ : (j8_ : Int) = v2_2.toInt) (e7_ : z6_ = M_2.1 (39, b, 0) j8_) (h13_ : (j12_ : Int) = v2_2.toInt) (e11_ : z10_ = M_2.1 (37, b, 0) j12_) (h14_ : 0 ≤ z10_.toInt) (h17_ : 0 < z6_.toInt) : ¬ z6_ = 0 := by have r_v2_2 := rngI v2_2; have r_z2_ := rngI z2_; have r_z6_ := rngI z6_; have r_z10_ := rngI z10_; intro h9; subst h9; simp at *; try omega
theorem lf_c_X7_letThingsGo_9 (M_2 : mM) (b : Nat) (v2_2 : Int32) (z2_ : Int32) (j8_ : Nat) (z6_ : Int32) (j12_ : Nat) (z10_ : Int32) (hb : b < 3) (hv0_2 : 0 ≤ v2_2.toInt) (e3_ : z2_ = M_2.1 (7, b, 0) 5) (h4_ : v2_2.toInt < z2_.toInt) (h5_ : v2_2.toInt < 40) (h9_ : (j8_ : Int) = v2_2.toInt) (e7_ : z6_ = M_2.1 (39, b, 0) j8_) (h13_ : (j12_ : Int) = v2_2.toInt) (e11_ : z10_ = M_2.1 (37, b, 0) j12_) (h14_ : 0 ≤ z10_.toInt) (h17_ : 0 < z6_.toInt) : -2147483648 ≤ v2_2.toInt + 1 ∧ v2_2.toInt + 1 < 2147483648 := by have r_v2_2 := rngI v2_2; have r_z2_ := rngI z2_; have r_z6_ := rngI z6_; have r_z10_ := rngI z10_; subst e3_; subst e7_; subst e11_; omega
theorem lf_c_X7_letThingsGo_10 (M_2 : mM) (b : Nat) (v2_2 : Int32) (z2_ : Int32) (j8_ : Nat) (z6_ : Int32) (j12_ : Nat) (z10_ : Int32) (z22_ : Int32) (hb : b < 3) (hv0_2 : 0 ≤ v2_2.toInt) (e3_ : z2_ = M_2.1 (7, b, 0) 5) (h4_ : v2_2.toInt < z2_.toInt) (h5_ : v2_2.toInt < 40) (h9_ : (j8_ : Int) = v2_2.toInt) (e7_ : z6_ = M_2.1 (39, b, 0) j8_) (h13_ : (j12_ : Int) = v2_2.toInt) (e11_ : z10_ = M_2.1 (37, b, 0) j12_) (h14_ : 0 ≤ z10_.toInt) (h17_ : 0 < z6_.toInt) (h23_ : z22_.toInt = v2_2.toInt + 1) : 0 ≤ z22_.toInt := by have r_v2_2 := rngI v2_2; have r_z2_ := rngI z2_; have r_z6_ := rngI z6_; have r_z10_ := rngI z10_; have r_z22_ := rngI z22_; omega
theorem lf_c_X7_letThingsGo_11 (M_2 : mM) (b : Nat) (v2_2 : Int32) (z2_ : Int32) (j8_ : Nat) (z6_ : Int32) (j12_ : Nat) (z10_ : Int32) (z22_ : Int32) (hb : b < 3) (hv0_2 : 0 ≤ v2_2.toInt) (e3_ : z2_ = M_2.1 (7, b, 0) 5) (h4_ : v2_2.toInt < z2_.toInt) (h5_ : v2_2.toInt < 40) (h9_ : (j8_ : Int) = v2_2.toInt) (e7_ : z6_ = M_2.1 (39, b, 0) j8_) (h13_ : (j12_ : Int) = v2_2.toInt) (e11_ : z10_ = M_2.1 (37, b, 0) j12_) (h14_ : 0 ≤ z10_.toInt) (h17_ : 0 < z6_.toInt) (h23_ : z22_.toInt = v2_2.toInt + 1) : (2147483648 - z22_.toInt).toNat < (2147483648 - v2_2.toInt).toNat := by have r_v2_2 := rngI v2_2; have r_z2_ := rngI z2_; have r_z6_ := rngI z6_; have r_z10_ := rngI z10_; have r_z22_ := rngI z22_; omega
theorem lf_c_X7_letThingsGo_12 (M_2 : mM) (b : Nat) (v2_2 : Int32) (z2_ : Int32) (j8_ : Nat) (z6_ : Int32) (j12_ : Nat) (z10_ : Int32) (hb : b < 3) (hv0_2 : 0 ≤ v2_2.toInt) (e3_ : z2_ = M_2.1 (7, b, 0) 5) (h4_ : v2_2.toInt < z2_.toInt) (h5_ : v2_2.toInt < 40) (h9_ : (j8_ : Int) = v2_2.toInt) (e7_ : z6_ = M_2.1 (39, b, 0) j8_) (h13_ : (j12_ : Int) = v2_2.toInt) (e11_ : z10_ = M_2.1 (37, b, 0) j12_) (h14_ : 0 ≤ z10_.toInt) (h17_ : 0 < z6_.toInt) : -2147483648 ≤ v2_2.toInt + 1 ∧ v2_2.toInt + 1 < 2147483648 := by have r_v2_2 := rngI v2_2; have r_z2_ := rngI z2_; have r_z6_ := rngI z6_; have r_z10_ := rngI z10_; subst e3_; subst e7_; subst e11_; omega
theorem lf_c_X7_letThingsGo_13 (M_2 : mM) (b : Nat) (v2_2 : Int32) (z2_ : Int32) (j8_ : Nat) (z6_ : Int32) (j12_ : Nat) (z10_ : Int32) (z30_ : Int32) (hb : b < 3) (hv0_2 : 0 ≤ v2_2.toInt) (e3_ : z2_ = M_2.1 (7, b, 0) 5) (h4_ : v2_2.toInt < z2_.toInt) (h5_ : v2_2.toInt < 40) (h9_ : (j8_ : Int) = v2_2.toInt) (e7_ : z6_ = M_2.1 (39, b, 0) j8_) (h13_ : (j12_ : Int) = v2_2.toInt) (e11_ : z10_ = M_2.1 (37, b, 0) j12_) (h14_ : 0 ≤ z10_.toInt) (h17_ : 0 < z6_.toInt) (h31_ : z30_.toInt = v2_2.toInt + 1) : 0 ≤ z30_.toInt := by have r_v2_2 := rngI v2_2; have r_z2_ := rngI z2_; have r_z6_ := rngI z6_; have r_z10_ := rngI z10_; have r_z30_ := rngI z30_; omega
theorem lf_c_X7_letThingsGo_14 (M_2 : mM) (b : Nat) (v2_2 : Int32) (z2_ : Int32) (j8_ : Nat) (z6_ : Int32) (j12_ : Nat) (z10_ : Int32) (z30_ : Int32) (hb : b < 3) (hv0_2 : 0 ≤ v2_2.toInt) (e3_ : z2_ = M_2.1 (7, b, 0) 5) (h4_ : v2_2.toInt < z2_.toInt) (h5_ : v2_2.toInt < 40) (h9_ : (j8_ : Int) = v2_2.toInt) (e7_ : z6_ = M_2.1 (39, b, 0) j8_) (h13_ : (j12_ : Int) = v2_2.toInt) (e11_ : z10_ = M_2.1 (37, b, 0) j12_) (h14_ : 0 ≤ z10_.toInt) (h17_ : 0 < z6_.toInt) (h31_ : z30_.toInt = v2_2.toInt + 1) : (2147483648 - z30_.toInt).toNat < (2147483648 - v2_2.toInt).toNat := by have r_v2_2 := rngI v2_2; have r_z2_ := rngI z2_; have r_z6_ := rngI z6_; have r_z10_ := rngI z10_; have r_z30_ := rngI z30_; omega
theorem lf_c_X7_letThingsGo_15    : 0 ≤ (0 : Int32).toInt := by have q0 := li_0; omega
set_option maxHeartbeats 4000000 in
set_option maxRecDepth 100000 in
theorem c_X7_letThingsGo (l : Launch) (G : va_G) (cy : Nat → ClassId) (ad : rf → Nat) (d : Nat) (b : Nat) (v : Int32) (Mz : mM) (hIz : Inv Mz) (hb : b < 3) : WP CC l G cy ad yX7_letThingsGo cX7_letThingsGo 4 none (d + 3) 0 [(0, vR (7, b, 0)), (1, vI v)] [] Mz (fun r M' => Inv M' ∧ FR (S_c_X7_letThingsGo b) Mz M' ∧ True) := by
  have hFz : FR (S_c_X7_letThingsGo b) Mz Mz := FR.self
  refine w_iconst (v := 0) dX7_letThingsGo_0 (by decide) ?_
  refine w_istore_n (ls' := [(2, vI 0), (0, vR (7, b, 0)), (1, vI v)]) dX7_letThingsGo_1 rfl (by decide) rfl ?_
  have lp1_ : ∀ (nn_2 : Nat) (M_2 : mM) (hI_2 : Inv M_2) (hF_2 : FR (S_c_X7_letThingsGo b) Mz M_2) (v2_2 : Int32) (hv0_2 : 0 ≤ v2_2.toInt), (2147483648 - v2_2.toInt).toNat < nn_2 → WP CC l G cy ad yX7_letThingsGo cX7_letThingsGo 4 none (d + 3) 2 [(2, vI v2_2), (0, vR (7, b, 0)), (1, vI v)] [] M_2 (fun r M' => Inv M' ∧ FR (S_c_X7_letThingsGo b) Mz M' ∧ True) := by
    intro nn_2
    induction nn_2 with
    | zero => intro M_2 hI_2 hF_2 v2_2 hv0_2 hm_2; exact absurd hm_2 (Nat.not_lt_zero _)
    | succ nn_2 ih_2 =>
      intro M_2 hI_2 hF_2 v2_2 hv0_2 hm_2
      refine w_iload_n dX7_letThingsGo_2 rfl 0 rfl ?_
      refine w_aload_n dX7_letThingsGo_3 rfl 1 rfl ?_
      refine w_getI fl_RX7_25 rfl rfl (ic_7 hb) dX7_letThingsGo_4 (fun z2_ e3_ => ?_)
      refine w_icmp_ge (tgt := 53) dX7_letThingsGo_7 (by decide) (rfl : v2_2.toInt = v2_2.toInt) (rfl : z2_.toInt = z2_.toInt) (fun h4_ => ?_) (fun h4_ => ?_)
      · exact w_vret rfl dX7_letThingsGo_53 ⟨hI_2, hF_2, trivial⟩
      · refine w_iload_n dX7_letThingsGo_10 rfl 0 rfl ?_
        refine w_bipush (v := 40) dX7_letThingsGo_11 (by decide) ?_
        refine w_icmp_ge (tgt := 53) dX7_letThingsGo_13 (by decide) (rfl : v2_2.toInt = v2_2.toInt) li_40 (fun h5_ => ?_) (fun h5_ => ?_)
        · exact w_vret rfl dX7_letThingsGo_53 ⟨hI_2, hF_2, trivial⟩
        · refine w_aload_n dX7_letThingsGo_16 rfl 1 rfl ?_
          refine w_getR (c' := (39, b, 0)) fl_RX7_22 rfl rfl (ic_7 hb) dX7_letThingsGo_17 rfl ?_
          refine w_iload_n dX7_letThingsGo_20 rfl 0 rfl ?_
          refine w_iald rfl rfl (ic_39 hb) (rfl : v2_2.toInt = v2_2.toInt) (lf_c_X7_letThingsGo_0 M_2 b v2_2 z2_ hb hv0_2 e3_ h4_ h5_) dX7_letThingsGo_21 (fun j8_ h9_ z6_ e7_ => ?_)
          refine w_istore_n (ls' := [(3, vI z6_), (2, vI v2_2), (0, vR (7, b, 0)), (1, vI v)]) dX7_letThingsGo_22 rfl (by decide) rfl ?_
          refine w_aload_n dX7_letThingsGo_23 rfl 2 rfl ?_
          refine w_getR (c' := (37, b, 0)) fl_RX7_16 rfl rfl (ic_7 hb) dX7_letThingsGo_24 rfl ?_
          refine w_iload_n dX7_letThingsGo_27 rfl 1 rfl ?_
          refine w_iald rfl rfl (ic_37 hb) (rfl : v2_2.toInt = v2_2.toInt) (lf_c_X7_letThingsGo_1 M_2 b v2_2 z2_ j8_ z6_ hb hv0_2 e3_ h4_ h5_ h9_ e7_) dX7_letThingsGo_28 (fun j12_ h13_ z10_ e11_ => ?_)
          refine w_if_lt (tgt := 47) dX7_letThingsGo_29 (by decide) (rfl : z10_.toInt = z10_.toInt) (fun h14_ => ?_) (fun h14_ => ?_)
          · refine w_iincB (j := 1) (f := fun z15_ => [(2, vI z15_), (3, vI z6_), (0, vR (7, b, 0)), (1, vI v)]) dX7_letThingsGo_47 rfl (by decide) (fun _ => rfl) (rfl : v2_2.toInt = v2_2.toInt) li_1 (lf_c_X7_letThingsGo_2 M_2 b v2_2 z2_ j8_ z6_ j12_ z10_ hb hv0_2 e3_ h4_ h5_ h9_ e7_ h13_ e11_ h14_) (fun z15_ h16_ => ?_)
            refine w_goto (tgt := 2) dX7_letThingsGo_50 (by decide) ?_
            refine w_loc (ls' := [(2, vI z15_), (0, vR (7, b, 0)), (1, vI v)]) [0, 2, 3] rfl ?_
            exact ih_2 M_2 hI_2 hF_2 z15_ (lf_c_X7_letThingsGo_3 M_2 b v2_2 z2_ j8_ z6_ j12_ z10_ z15_ hb hv0_2 e3_ h4_ h5_ h9_ e7_ h13_ e11_ h14_ h16_) (Nat.lt_of_lt_of_le (lf_c_X7_letThingsGo_4 M_2 b v2_2 z2_ j8_ z6_ j12_ z10_ z15_ hb hv0_2 e3_ h4_ h5_ h9_ e7_ h13_ e11_ h14_ h16_) (Nat.le_of_lt_succ hm_2))
          · refine w_iload_n dX7_letThingsGo_32 rfl 0 rfl ?_
            refine w_if_le (tgt := 47) dX7_letThingsGo_33 (by decide) (rfl : z6_.toInt = z6_.toInt) (fun h17_ => ?_) (fun h17_ => ?_)
            · refine w_iincB (j := 1) (f := fun z18_ => [(2, vI z18_), (3, vI z6_), (0, vR (7, b, 0)), (1, vI v)]) dX7_letThingsGo_47 rfl (by decide) (fun _ => rfl) (rfl : v2_2.toInt = v2_2.toInt) li_1 (lf_c_X7_letThingsGo_5 M_2 b v2_2 z2_ j8_ z6_ j12_ z10_ hb hv0_2 e3_ h4_ h5_ h9_ e7_ h13_ e11_ h14_ h17_) (fun z18_ h19_ => ?_)
              refine w_goto (tgt := 2) dX7_letThingsGo_50 (by decide) ?_
              refine w_loc (ls' := [(2, vI z18_), (0, vR (7, b, 0)), (1, vI v)]) [0, 2, 3] rfl ?_
              exact ih_2 M_2 hI_2 hF_2 z18_ (lf_c_X7_letThingsGo_6 M_2 b v2_2 z2_ j8_ z6_ j12_ z10_ z18_ hb hv0_2 e3_ h4_ h5_ h9_ e7_ h13_ e11_ h14_ h17_ h19_) (Nat.lt_of_lt_of_le (lf_c_X7_letThingsGo_7 M_2 b v2_2 z2_ j8_ z6_ j12_ z10_ z18_ hb hv0_2 e3_ h4_ h5_ h9_ e7_ h13_ e11_ h14_ h17_ h19_) (Nat.le_of_lt_succ hm_2))
            · refine w_iload_n dX7_letThingsGo_36 rfl 3 rfl ?_
              refine w_iload_n dX7_letThingsGo_37 rfl 0 rfl ?_
              refine w_irem dX7_letThingsGo_38 (lf_c_X7_letThingsGo_8 M_2 b v2_2 z2_ j8_ z6_ j12_ z10_ hb hv0_2 e3_ h4_ h5_ h9_ e7_ h13_ e11_ h14_ h17_) (fun z20_ _ => ?_)
              refine w_if_ne (tgt := 47) dX7_letThingsGo_39 (by decide) (rfl : z20_.toInt = z20_.toInt) (fun h21_ => ?_) (fun h21_ => ?_)
              · refine w_iincB (j := 1) (f := fun z22_ => [(2, vI z22_), (3, vI z6_), (0, vR (7, b, 0)), (1, vI v)]) dX7_letThingsGo_47 rfl (by decide) (fun _ => rfl) (rfl : v2_2.toInt = v2_2.toInt) li_1 (lf_c_X7_letThingsGo_9 M_2 b v2_2 z2_ j8_ z6_ j12_ z10_ hb hv0_2 e3_ h4_ h5_ h9_ e7_ h13_ e11_ h14_ h17_) (fun z22_ h23_ => ?_)
                refine w_goto (tgt := 2) dX7_letThingsGo_50 (by decide) ?_
                refine w_loc (ls' := [(2, vI z22_), (0, vR (7, b, 0)), (1, vI v)]) [0, 2, 3] rfl ?_
                exact ih_2 M_2 hI_2 hF_2 z22_ (lf_c_X7_letThingsGo_10 M_2 b v2_2 z2_ j8_ z6_ j12_ z10_ z22_ hb hv0_2 e3_ h4_ h5_ h9_ e7_ h13_ e11_ h14_ h17_ h23_) (Nat.lt_of_lt_of_le (lf_c_X7_letThingsGo_11 M_2 b v2_2 z2_ j8_ z6_ j12_ z10_ z22_ hb hv0_2 e3_ h4_ h5_ h9_ e7_ h13_ e11_ h14_ h17_ h23_) (Nat.le_of_lt_succ hm_2))
              · refine w_aload_n dX7_letThingsGo_42 rfl 2 rfl ?_
                refine w_iload_n dX7_letThingsGo_43 rfl 1 rfl ?_
                refine w_callVv (as := [vI v2_2]) (rest := []) (c_X7_letThingGo l G cy ad d b v2_2 M_2 hI_2 hb) kV_X7_letThingGo (by decide +kernel) (Nat.le_of_ble_eq_true rfl) m_1033 rfl rfl rfl (ic_7 hb) rfl rfl (by decide) (Nat.le_of_ble_eq_true rfl) dX7_letThingsGo_44 (fun M24_ q25_ => ?_)
                obtain ⟨hI27_, hF28_, h26_⟩ := q25_
                have hF29_ := hF_2.tr hF28_ (fun c k => (fun h => h.elim (fun h => (Or.inl ⟨h.1, h.2⟩)) (fun h => h.elim (fun h => (Or.inr (Or.inl ⟨h.1, h.2⟩))) (fun h => h.elim (fun h => (Or.inr (Or.inr (Or.inl ⟨h.1, h.2⟩)))) (fun h => h.elim)))))
                refine w_iincB (j := 1) (f := fun z30_ => [(2, vI z30_), (3, vI z6_), (0, vR (7, b, 0)), (1, vI v)]) dX7_letThingsGo_47 rfl (by decide) (fun _ => rfl) (rfl : v2_2.toInt = v2_2.toInt) li_1 (lf_c_X7_letThingsGo_12 M_2 b v2_2 z2_ j8_ z6_ j12_ z10_ hb hv0_2 e3_ h4_ h5_ h9_ e7_ h13_ e11_ h14_ h17_) (fun z30_ h31_ => ?_)
                refine w_goto (tgt := 2) dX7_letThingsGo_50 (by decide) ?_
                refine w_loc (ls' := [(2, vI z30_), (0, vR (7, b, 0)), (1, vI v)]) [0, 2, 3] rfl ?_
                exact ih_2 M24_ hI27_ hF29_ z30_ (lf_c_X7_letThingsGo_13 M_2 b v2_2 z2_ j8_ z6_ j12_ z10_ z30_ hb hv0_2 e3_ h4_ h5_ h9_ e7_ h13_ e11_ h14_ h17_ h31_) (Nat.lt_of_lt_of_le (lf_c_X7_letThingsGo_14 M_2 b v2_2 z2_ j8_ z6_ j12_ z10_ z30_ hb hv0_2 e3_ h4_ h5_ h9_ e7_ h13_ e11_ h14_ h17_ h31_) (Nat.le_of_lt_succ hm_2))
  exact lp1_ _ Mz hIz hFz 0 (lf_c_X7_letThingsGo_15 ) (Nat.lt_succ_self _)
def S_c_X7_takeFrom (b : Nat) (b2 : Nat) : rf → Nat → Prop := fun c k => (c.1 = 35 ∧ c.2.1 = b) ∨ (c.1 = 36 ∧ c.2.1 = b) ∨ (c.1 = 37 ∧ c.2.1 = b) ∨ (c.1 = 38 ∧ c.2.1 = b) ∨ (c.1 = 39 ∧ c.2.1 = b) ∨ (c.1 = 7 ∧ c.2.1 = b ∧ k = 5) ∨ False
set_option maxHeartbeats 4000000 in
set_option maxRecDepth 100000 in
theorem c_X7_takeFrom (l : Launch) (G : va_G) (cy : Nat → ClassId) (ad : rf → Nat) (d : Nat) (b : Nat) (b2 : Nat) (Mz : mM) (hIz : Inv Mz) (hb : b < 3) (hb2 : b2 < 3) : WP CC l G cy ad yX7_takeFrom cX7_takeFrom 2 none (d + 1) 0 [(0, vR (7, b, 0)), (1, vR (7, b2, 0))] [] Mz (fun r M' => Inv M' ∧ FR (S_c_X7_takeFrom b b2) Mz M' ∧ True) := by
  have hFz : FR (S_c_X7_takeFrom b b2) Mz Mz := FR.self
  refine w_aload_n dX7_takeFrom_0 rfl 1 rfl ?_
  refine w_getR (c' := (35, b2, 0)) fl_RX7_9 rfl rfl (ic_7 hb2) dX7_takeFrom_1 rfl ?_
  refine w_iconst (v := 0) dX7_takeFrom_4 (by decide) ?_
  refine w_aload_n dX7_takeFrom_5 rfl 0 rfl ?_
  refine w_getR (c' := (35, b, 0)) fl_RX7_9 rfl rfl (ic_7 hb) dX7_takeFrom_6 rfl ?_
  refine w_iconst (v := 0) dX7_takeFrom_9 (by decide) ?_
  refine w_sipush (v := 192) dX7_takeFrom_10 (by decide) ?_
  refine w_copy CC_nd rfl rfl (ic_35 hb2) rfl rfl (ic_35 hb) m_1262 m_830 m_829 m_98 li_0 li_0 li_192 (by decide) rfl (by omega) dX7_takeFrom_13 (fun M1_ hM2_ => ?_)
  have hI3_ := hIz.cpy hM2_ (fun _ _ => trivial)
  have hF4_ := hFz.cpy hM2_ (fun _ => (Or.inl ⟨rfl, rfl⟩))
  refine w_aload_n dX7_takeFrom_16 rfl 1 rfl ?_
  refine w_getR (c' := (36, b2, 0)) fl_RX7_13 rfl rfl (ic_7 hb2) dX7_takeFrom_17 rfl ?_
  refine w_iconst (v := 0) dX7_takeFrom_20 (by decide) ?_
  refine w_aload_n dX7_takeFrom_21 rfl 0 rfl ?_
  refine w_getR (c' := (36, b, 0)) fl_RX7_13 rfl rfl (ic_7 hb) dX7_takeFrom_22 rfl ?_
  refine w_iconst (v := 0) dX7_takeFrom_25 (by decide) ?_
  refine w_bipush (v := 40) dX7_takeFrom_26 (by decide) ?_
  refine w_copy CC_nd rfl rfl (ic_36 hb2) rfl rfl (ic_36 hb) m_1262 m_830 m_829 m_98 li_0 li_0 li_40 (by decide) rfl (by omega) dX7_takeFrom_28 (fun M5_ hM6_ => ?_)
  have hI7_ := hI3_.cpy hM6_ (fun _ _ => trivial)
  have hF8_ := hF4_.cpy hM6_ (fun _ => (Or.inr (Or.inl ⟨rfl, rfl⟩)))
  refine w_aload_n dX7_takeFrom_31 rfl 1 rfl ?_
  refine w_getR (c' := (37, b2, 0)) fl_RX7_16 rfl rfl (ic_7 hb2) dX7_takeFrom_32 rfl ?_
  refine w_iconst (v := 0) dX7_takeFrom_35 (by decide) ?_
  refine w_aload_n dX7_takeFrom_36 rfl 0 rfl ?_
  refine w_getR (c' := (37, b, 0)) fl_RX7_16 rfl rfl (ic_7 hb) dX7_takeFrom_37 rfl ?_
  refine w_iconst (v := 0) dX7_takeFrom_40 (by decide) ?_
  refine w_bipush (v := 40) dX7_takeFrom_41 (by decide) ?_
  refine w_copy CC_nd rfl rfl (ic_37 hb2) rfl rfl (ic_37 hb) m_1262 m_830 m_829 m_98 li_0 li_0 li_40 (by decide) rfl (by omega) dX7_takeFrom_43 (fun M9_ hM10_ => ?_)
  have hI11_ := hI7_.cpy hM10_ (fun _ _ => trivial)
  have hF12_ := hF8_.cpy hM10_ (fun _ => (Or.inr (Or.inr (Or.inl ⟨rfl, rfl⟩))))
  refine w_aload_n dX7_takeFrom_46 rfl 1 rfl ?_
  refine w_getR (c' := (38, b2, 0)) fl_RX7_19 rfl rfl (ic_7 hb2) dX7_takeFrom_47 rfl ?_
  refine w_iconst (v := 0) dX7_takeFrom_50 (by decide) ?_
  refine w_aload_n dX7_takeFrom_51 rfl 0 rfl ?_
  refine w_getR (c' := (38, b, 0)) fl_RX7_19 rfl rfl (ic_7 hb) dX7_takeFrom_52 rfl ?_
  refine w_iconst (v := 0) dX7_takeFrom_55 (by decide) ?_
  refine w_bipush (v := 40) dX7_takeFrom_56 (by decide) ?_
  refine w_copy CC_nd rfl rfl (ic_38 hb2) rfl rfl (ic_38 hb) m_1262 m_830 m_829 m_98 li_0 li_0 li_40 (by decide) rfl (by omega) dX7_takeFrom_58 (fun M13_ hM14_ => ?_)
  have hI15_ := hI11_.cpy hM14_ (fun _ _ => trivial)
  have hF16_ := hF12_.cpy hM14_ (fun _ => (Or.inr (Or.inr (Or.inr (Or.inl ⟨rfl, rfl⟩)))))
  refine w_aload_n dX7_takeFrom_61 rfl 1 rfl ?_
  refine w_getR (c' := (39, b2, 0)) fl_RX7_22 rfl rfl (ic_7 hb2) dX7_takeFrom_62 rfl ?_
  refine w_iconst (v := 0) dX7_takeFrom_65 (by decide) ?_
  refine w_aload_n dX7_takeFrom_66 rfl 0 rfl ?_
  refine w_getR (c' := (39, b, 0)) fl_RX7_22 rfl rfl (ic_7 hb) dX7_takeFrom_67 rfl ?_
  refine w_iconst (v := 0) dX7_takeFrom_70 (by decide) ?_
  refine w_bipush (v := 40) dX7_takeFrom_71 (by decide) ?_
  refine w_copy CC_nd rfl rfl (ic_39 hb2) rfl rfl (ic_39 hb) m_1262 m_830 m_829 m_98 li_0 li_0 li_40 (by decide) rfl (by omega) dX7_takeFrom_73 (fun M17_ hM18_ => ?_)
  have hI19_ := hI15_.cpy hM18_ (fun _ _ => trivial)
  have hF20_ := hF16_.cpy hM18_ (fun _ => (Or.inr (Or.inr (Or.inr (Or.inr (Or.inl ⟨rfl, rfl⟩))))))
  refine w_aload_n dX7_takeFrom_76 rfl 0 rfl ?_
  refine w_aload_n dX7_takeFrom_77 rfl 1 rfl ?_
  refine w_getI fl_RX7_25 rfl rfl (ic_7 hb2) dX7_takeFrom_78 (fun z21_ e22_ => ?_)
  refine w_putI CC_nd fl_RX7_25 rfl rfl (ic_7 hb) dX7_takeFrom_81 (fun M23_ hM24_ => ?_)
  have hI25_ := hI19_.put hM24_ trivial
  have hF26_ := hF20_.put hM24_ (Or.inr (Or.inr (Or.inr (Or.inr (Or.inr (Or.inl ⟨rfl, rfl, rfl⟩))))))
  exact w_vret rfl dX7_takeFrom_84 ⟨hI25_, hF26_, trivial⟩
