def SP_X7_isFree (b : Nat) (v : Int32) (Mz : mM) (r_ : Int32) : Prop := (((SP_X7_isCell v Mz (1 : Int32)) ∧ (0 ≤ v.toInt ∧ v.toInt ≤ 191) ∧ ∃ j9_ : Nat, ((j9_ : Int) = v.toInt) ∧ ∃ z7_ : Int32, (z7_ = Mz.1 (35, b, 0) j9_) ∧ (((¬ z7_.toInt = -1) ∧ r_ = 0) ∨ ((z7_.toInt = -1) ∧ r_ = 1))) ∨ ((SP_X7_isCell v Mz (0 : Int32)) ∧ (¬ (0 ≤ v.toInt ∧ v.toInt ≤ 191)) ∧ r_ = 0))
theorem lf_c_X7_isFree_0  (v : Int32) (h4_ : 0 ≤ v.toInt ∧ v.toInt ≤ 191) : 0 ≤ v.toInt ∧ v.toInt < ((192 : Nat) : Int) := by have r_v := rngI v; omega
set_option maxHeartbeats 4000000 in
set_option maxRecDepth 100000 in
theorem c_X7_isFree (l : Launch) (G : va_G) (cy : Nat → ClassId) (ad : rf → Nat) (d : Nat) (b : Nat) (v : Int32) (Mz : mM) (hIz : Inv Mz) (hb : b < 3) : WP CC l G cy ad yX7_isFree cX7_isFree 2 (some .boolean) (d + 1) 0 [(0, vR (7, b, 0)), (1, vI v)] [] Mz (fun r M' => Mz = M' ∧ (((r = 1 ∧ 0 ≤ v.toInt ∧ v.toInt ≤ 191) ∨ r = 0)) ∧ SP_X7_isFree b v Mz r) := by
  refine w_iload_n dX7_isFree_0 rfl 1 rfl ?_
  refine w_callS (as := [vI v]) (rest := []) (c_X7_isCell l G cy ad d v Mz hIz) kS_X7_isCell (by decide +kernel) (Nat.le_of_ble_eq_true rfl) m_509 rfl rfl (by decide) (Nat.le_of_ble_eq_true rfl) dX7_isFree_1 (fun r1_ M2_ q3_ => ?_)
  obtain ⟨rfl, h4_, hs5_⟩ := q3_
  rcases h4_ with ⟨rfl, h4_⟩ | ⟨rfl, h4_⟩
  · refine w_if_eq (tgt := 21) dX7_isFree_4 (by decide) li_1 (fun h9 => (absurd h9 (by decide))) (fun h6_ => ?_)
    refine w_aload_n dX7_isFree_7 rfl 0 rfl ?_
    refine w_getR (c' := (35, b, 0)) fl_RX7_9 rfl rfl (ic_7 hb) dX7_isFree_8 rfl ?_
    refine w_iload_n dX7_isFree_11 rfl 1 rfl ?_
    refine w_iald rfl rfl (ic_35 hb) (rfl : v.toInt = v.toInt) (lf_c_X7_isFree_0 v h4_) dX7_isFree_12 (fun j9_ h10_ z7_ e8_ => ?_)
    refine w_iconst (v := (-1)) dX7_isFree_13 (by decide) ?_
    refine w_icmp_ne (tgt := 21) dX7_isFree_14 (by decide) (rfl : z7_.toInt = z7_.toInt) li_m1 (fun h11_ => ?_) (fun h11_ => ?_)
    · refine w_iconst (v := 0) dX7_isFree_21 (by decide) ?_
      exact w_zret rfl dX7_isFree_22 ⟨by decide, by decide⟩ ⟨rfl, (Or.inr rfl), (Or.inl ⟨hs5_, h4_, j9_, h10_, z7_, e8_, (Or.inl ⟨h11_, rfl⟩)⟩)⟩
    · refine w_iconst (v := 1) dX7_isFree_17 (by decide) ?_
      refine w_goto (tgt := 22) dX7_isFree_18 (by decide) ?_
      exact w_zret rfl dX7_isFree_22 ⟨by decide, by decide⟩ ⟨rfl, (Or.inl ⟨rfl, h4_⟩), (Or.inl ⟨hs5_, h4_, j9_, h10_, z7_, e8_, (Or.inr ⟨h11_, rfl⟩)⟩)⟩
  · refine w_if_eq (tgt := 21) dX7_isFree_4 (by decide) li_0 (fun h12_ => ?_) (fun h9 => (absurd h9 (by decide)))
    refine w_iconst (v := 0) dX7_isFree_21 (by decide) ?_
    exact w_zret rfl dX7_isFree_22 ⟨by decide, by decide⟩ ⟨rfl, (Or.inr rfl), (Or.inr ⟨hs5_, h4_, rfl⟩)⟩
def S_c_X7_settle (b : Nat) : rf → Nat → Prop := fun c k => (c.1 = 35 ∧ c.2.1 = b) ∨ False
def SP_X7_settle (b : Nat) (v : Int32) (u : Int32) (Mz : mM) (M_ : mM) : Prop := (((SP_X7_isCell v Mz (1 : Int32)) ∧ (0 ≤ v.toInt ∧ v.toInt ≤ 191) ∧ ∃ j9_ : Nat, ((j9_ : Int) = v.toInt) ∧ ∃ M7_ : mM, (M7_ = up Mz (35, b, 0) j9_ u) ∧ M_ = M7_) ∨ ((SP_X7_isCell v Mz (0 : Int32)) ∧ (¬ (0 ≤ v.toInt ∧ v.toInt ≤ 191)) ∧ M_ = Mz))
theorem lf_c_X7_settle_0  (v : Int32) (h4_ : 0 ≤ v.toInt ∧ v.toInt ≤ 191) : 0 ≤ v.toInt ∧ v.toInt < ((192 : Nat) : Int) := by have r_v := rngI v; omega
set_option maxHeartbeats 4000000 in
set_option maxRecDepth 100000 in
theorem c_X7_settle (l : Launch) (G : va_G) (cy : Nat → ClassId) (ad : rf → Nat) (d : Nat) (b : Nat) (v : Int32) (u : Int32) (Mz : mM) (hIz : Inv Mz) (hb : b < 3) : WP CC l G cy ad yX7_settle cX7_settle 3 none (d + 1) 0 [(0, vR (7, b, 0)), (1, vI v), (2, vI u)] [] Mz (fun r M' => Inv M' ∧ FR (S_c_X7_settle b) Mz M' ∧ (True) ∧ SP_X7_settle b v u Mz M') := by
  have hFz : FR (S_c_X7_settle b) Mz Mz := FR.self
  refine w_iload_n dX7_settle_0 rfl 1 rfl ?_
  refine w_callS (as := [vI v]) (rest := []) (c_X7_isCell l G cy ad d v Mz hIz) kS_X7_isCell (by decide +kernel) (Nat.le_of_ble_eq_true rfl) m_509 rfl rfl (by decide) (Nat.le_of_ble_eq_true rfl) dX7_settle_1 (fun r1_ M2_ q3_ => ?_)
  obtain ⟨rfl, h4_, hs5_⟩ := q3_
  rcases h4_ with ⟨rfl, h4_⟩ | ⟨rfl, h4_⟩
  · refine w_if_eq (tgt := 14) dX7_settle_4 (by decide) li_1 (fun h9 => (absurd h9 (by decide))) (fun h6_ => ?_)
    refine w_aload_n dX7_settle_7 rfl 0 rfl ?_
    refine w_getR (c' := (35, b, 0)) fl_RX7_9 rfl rfl (ic_7 hb) dX7_settle_8 rfl ?_
    refine w_iload_n dX7_settle_11 rfl 1 rfl ?_
    refine w_iload_n dX7_settle_12 rfl 2 rfl ?_
    refine w_iast CC_nd rfl rfl (ic_35 hb) (rfl : v.toInt = v.toInt) (lf_c_X7_settle_0 v h4_) dX7_settle_13 (fun j9_ h10_ M7_ hM8_ => ?_)
    have hI11_ := hIz.put hM8_ trivial
    have hF12_ := hFz.put hM8_ (Or.inl ⟨rfl, rfl⟩)
    exact w_vret rfl dX7_settle_14 ⟨hI11_, hF12_, trivial, (Or.inl ⟨hs5_, h4_, j9_, h10_, M7_, hM8_, rfl⟩)⟩
  · refine w_if_eq (tgt := 14) dX7_settle_4 (by decide) li_0 (fun h13_ => ?_) (fun h9 => (absurd h9 (by decide)))
    exact w_vret rfl dX7_settle_14 ⟨hIz, hFz, trivial, (Or.inr ⟨hs5_, h4_, rfl⟩)⟩
def SP_X7_hasRoom (b : Nat) (Mz : mM) (r_ : Int32) : Prop := ∃ z1_ : Int32, (z1_ = Mz.1 (7, b, 0) 5) ∧ (((40 ≤ z1_.toInt) ∧ r_ = 0) ∨ ((z1_.toInt < 40) ∧ r_ = 1))
set_option maxHeartbeats 4000000 in
set_option maxRecDepth 100000 in
theorem c_X7_hasRoom (l : Launch) (G : va_G) (cy : Nat → ClassId) (ad : rf → Nat) (d : Nat) (b : Nat) (Mz : mM) (hIz : Inv Mz) (hb : b < 3) : WP CC l G cy ad yX7_hasRoom cX7_hasRoom 1 (some .boolean) d 0 [(0, vR (7, b, 0))] [] Mz (fun r M' => Mz = M' ∧ ((0 ≤ r.toInt ∧ r.toInt ≤ 1)) ∧ SP_X7_hasRoom b Mz r) := by
  refine w_aload_n dX7_hasRoom_0 rfl 0 rfl ?_
  refine w_getI fl_RX7_25 rfl rfl (ic_7 hb) dX7_hasRoom_1 (fun z1_ e2_ => ?_)
  refine w_bipush (v := 40) dX7_hasRoom_4 (by decide) ?_
  refine w_icmp_ge (tgt := 13) dX7_hasRoom_6 (by decide) (rfl : z1_.toInt = z1_.toInt) li_40 (fun h3_ => ?_) (fun h3_ => ?_)
  · refine w_iconst (v := 0) dX7_hasRoom_13 (by decide) ?_
    exact w_zret rfl dX7_hasRoom_14 ⟨by decide, by decide⟩ ⟨rfl, ⟨by decide, by decide⟩, ⟨z1_, e2_, (Or.inl ⟨h3_, rfl⟩)⟩⟩
  · refine w_iconst (v := 1) dX7_hasRoom_9 (by decide) ?_
    refine w_goto (tgt := 14) dX7_hasRoom_10 (by decide) ?_
    exact w_zret rfl dX7_hasRoom_14 ⟨by decide, by decide⟩ ⟨rfl, ⟨by decide, by decide⟩, ⟨z1_, e2_, (Or.inr ⟨h3_, rfl⟩)⟩⟩
def SP_X7_hasThing (b : Nat) (v : Int32) (Mz : mM) (r_ : Int32) : Prop := (((v.toInt < 0) ∧ r_ = 0) ∨ ((0 ≤ v.toInt) ∧ ∃ z2_ : Int32, (z2_ = Mz.1 (7, b, 0) 5) ∧ (((z2_.toInt ≤ v.toInt) ∧ r_ = 0) ∨ ((v.toInt < z2_.toInt) ∧ (((40 ≤ v.toInt) ∧ r_ = 0) ∨ ((v.toInt < 40) ∧ r_ = 1))))))
theorem lf_c_X7_hasThing_0 (Mz : mM) (b : Nat) (v : Int32) (z2_ : Int32) (hb : b < 3) (h1_ : 0 ≤ v.toInt) (e3_ : z2_ = Mz.1 (7, b, 0) 5) (h4_ : v.toInt < z2_.toInt) (h5_ : v.toInt < 40) : 0 ≤ v.toInt ∧ v.toInt ≤ 39 := by have r_v := rngI v; have r_z2_ := rngI z2_; subst e3_; omega
set_option maxHeartbeats 4000000 in
set_option maxRecDepth 100000 in
theorem c_X7_hasThing (l : Launch) (G : va_G) (cy : Nat → ClassId) (ad : rf → Nat) (d : Nat) (b : Nat) (v : Int32) (Mz : mM) (hIz : Inv Mz) (hb : b < 3) : WP CC l G cy ad yX7_hasThing cX7_hasThing 2 (some .boolean) d 0 [(0, vR (7, b, 0)), (1, vI v)] [] Mz (fun r M' => Mz = M' ∧ (((r = 1 ∧ 0 ≤ v.toInt ∧ v.toInt ≤ 39) ∨ r = 0)) ∧ SP_X7_hasThing b v Mz r) := by
  refine w_iload_n dX7_hasThing_0 rfl 1 rfl ?_
  refine w_if_lt (tgt := 22) dX7_hasThing_1 (by decide) (rfl : v.toInt = v.toInt) (fun h1_ => ?_) (fun h1_ => ?_)
  · refine w_iconst (v := 0) dX7_hasThing_22 (by decide) ?_
    exact w_zret rfl dX7_hasThing_23 ⟨by decide, by decide⟩ ⟨rfl, (Or.inr rfl), (Or.inl ⟨h1_, rfl⟩)⟩
  · refine w_iload_n dX7_hasThing_4 rfl 1 rfl ?_
    refine w_aload_n dX7_hasThing_5 rfl 0 rfl ?_
    refine w_getI fl_RX7_25 rfl rfl (ic_7 hb) dX7_hasThing_6 (fun z2_ e3_ => ?_)
    refine w_icmp_ge (tgt := 22) dX7_hasThing_9 (by decide) (rfl : v.toInt = v.toInt) (rfl : z2_.toInt = z2_.toInt) (fun h4_ => ?_) (fun h4_ => ?_)
    · refine w_iconst (v := 0) dX7_hasThing_22 (by decide) ?_
      exact w_zret rfl dX7_hasThing_23 ⟨by decide, by decide⟩ ⟨rfl, (Or.inr rfl), (Or.inr ⟨h1_, z2_, e3_, (Or.inl ⟨h4_, rfl⟩)⟩)⟩
    · refine w_iload_n dX7_hasThing_12 rfl 1 rfl ?_
      refine w_bipush (v := 40) dX7_hasThing_13 (by decide) ?_
      refine w_icmp_ge (tgt := 22) dX7_hasThing_15 (by decide) (rfl : v.toInt = v.toInt) li_40 (fun h5_ => ?_) (fun h5_ => ?_)
      · refine w_iconst (v := 0) dX7_hasThing_22 (by decide) ?_
        exact w_zret rfl dX7_hasThing_23 ⟨by decide, by decide⟩ ⟨rfl, (Or.inr rfl), (Or.inr ⟨h1_, z2_, e3_, (Or.inr ⟨h4_, (Or.inl ⟨h5_, rfl⟩)⟩)⟩)⟩
      · refine w_iconst (v := 1) dX7_hasThing_18 (by decide) ?_
        refine w_goto (tgt := 23) dX7_hasThing_19 (by decide) ?_
        exact w_zret rfl dX7_hasThing_23 ⟨by decide, by decide⟩ ⟨rfl, (Or.inl ⟨rfl, (lf_c_X7_hasThing_0 Mz b v z2_ hb h1_ e3_ h4_ h5_)⟩), (Or.inr ⟨h1_, z2_, e3_, (Or.inr ⟨h4_, (Or.inr ⟨h5_, rfl⟩)⟩)⟩)⟩
def S_c_X7_addThing (b : Nat) : rf → Nat → Prop := fun c k => (c.1 = 36 ∧ c.2.1 = b) ∨ (c.1 = 37 ∧ c.2.1 = b) ∨ (c.1 = 38 ∧ c.2.1 = b) ∨ (c.1 = 39 ∧ c.2.1 = b) ∨ (c.1 = 35 ∧ c.2.1 = b) ∨ (c.1 = 7 ∧ c.2.1 = b ∧ k = 5) ∨ False
def SP_X7_addThing (b : Nat) (v : Int32) (u : Int32) (Mz : mM) (r_ : Int32) (M_ : mM) : Prop := ∃ z1_ : Int32, (z1_ = Mz.1 (7, b, 0) 5) ∧ (((z1_.toInt < 0) ∧ r_ = (-1) ∧ M_ = Mz) ∨ ((0 ≤ z1_.toInt) ∧ (((z1_.toInt < 40) ∧ ∃ j7_ : Nat, ((j7_ : Int) = z1_.toInt) ∧ ∃ M5_ : mM, (M5_ = up Mz (36, b, 0) j7_ v) ∧ ∃ j13_ : Nat, ((j13_ : Int) = z1_.toInt) ∧ ∃ M11_ : mM, (M11_ = up M5_ (37, b, 0) j13_ u) ∧ ∃ j19_ : Nat, ((j19_ : Int) = z1_.toInt) ∧ ∃ M17_ : mM, (M17_ = up M11_ (38, b, 0) j19_ 0) ∧ ∃ j25_ : Nat, ((j25_ : Int) = z1_.toInt) ∧ ∃ M23_ : mM, (M23_ = up M17_ (39, b, 0) j25_ 0) ∧ (Inv M23_) ∧ ∃ M29_ : mM, (Inv M29_) ∧ (FR (S_c_X7_settle b) M23_ M29_) ∧ (SP_X7_settle b u z1_ M23_ M29_) ∧ ∃ z36_ : Int32, (z36_ = M29_.1 (7, b, 0) 5) ∧ ∃ z38_ : Int32, (z38_ = z36_ + (1 : Int32)) ∧ ∃ M40_ : mM, (M40_ = up M29_ (7, b, 0) 5 z38_) ∧ r_ = z1_ ∧ M_ = M40_) ∨ ((40 ≤ z1_.toInt) ∧ r_ = (-1) ∧ M_ = Mz))))
theorem lf_c_X7_addThing_0 (Mz : mM) (b : Nat) (z1_ : Int32) (hb : b < 3) (e2_ : z1_ = Mz.1 (7, b, 0) 5) (h3_ : 0 ≤ z1_.toInt) (h4_ : z1_.toInt < 40) : 0 ≤ z1_.toInt ∧ z1_.toInt < ((40 : Nat) : Int) := by have r_z1_ := rngI z1_; subst e2_; omega
theorem lf_c_X7_addThing_1 (M5_ : mM) (Mz : mM) (b : Nat) (v : Int32) (z1_ : Int32) (j7_ : Nat) (hb : b < 3) (e2_ : z1_ = Mz.1 (7, b, 0) 5) (h3_ : 0 ≤ z1_.toInt) (h4_ : z1_.toInt < 40) (h8_ : (j7_ : Int) = z1_.toInt) (hM6_ : M5_ = up Mz (36, b, 0) j7_ v) : 0 ≤ z1_.toInt ∧ z1_.toInt < ((40 : Nat) : Int) := by have r_v := rngI v; have r_z1_ := rngI z1_; subst e2_; omega
theorem lf_c_X7_addThing_2 (M11_ : mM) (M5_ : mM) (Mz : mM) (b : Nat) (v : Int32) (u : Int32) (z1_ : Int32) (j7_ : Nat) (j13_ : Nat) (hb : b < 3) (e2_ : z1_ = Mz.1 (7, b, 0) 5) (h3_ : 0 ≤ z1_.toInt) (h4_ : z1_.toInt < 40) (h8_ : (j7_ : Int) = z1_.toInt) (hM6_ : M5_ = up Mz (36, b, 0) j7_ v) (h14_ : (j13_ : Int) = z1_.toInt) (hM12_ : M11_ = up M5_ (37, b, 0) j13_ u) : 0 ≤ z1_.toInt ∧ z1_.toInt < ((40 : Nat) : Int) := by have r_v := rngI v; have r_u := rngI u; have r_z1_ := rngI z1_; subst e2_; omega
theorem lf_c_X7_addThing_3 (M11_ : mM) (M17_ : mM) (M5_ : mM) (Mz : mM) (b : Nat) (v : Int32) (u : Int32) (z1_ : Int32) (j7_ : Nat) (j13_ : Nat) (j19_ : Nat) (hb : b < 3) (e2_ : z1_ = Mz.1 (7, b, 0) 5) (h3_ : 0 ≤ z1_.toInt) (h4_ : z1_.toInt < 40) (h8_ : (j7_ : Int) = z1_.toInt) (hM6_ : M5_ = up Mz (36, b, 0) j7_ v) (h14_ : (j13_ : Int) = z1_.toInt) (hM12_ : M11_ = up M5_ (37, b, 0) j13_ u) (h20_ : (j19_ : Int) = z1_.toInt) (hM18_ : M17_ = up M11_ (38, b, 0) j19_ 0) : 0 ≤ z1_.toInt ∧ z1_.toInt < ((40 : Nat) : Int) := by have r_v := rngI v; have r_u := rngI u; have r_z1_ := rngI z1_; subst e2_; omega
set_option maxHeartbeats 4000000 in
set_option maxRecDepth 100000 in
theorem c_X7_addThing (l : Launch) (G : va_G) (cy : Nat → ClassId) (ad : rf → Nat) (d : Nat) (b : Nat) (v : Int32) (u : Int32) (Mz : mM) (hIz : Inv Mz) (hb : b < 3) : WP CC l G cy ad yX7_addThing cX7_addThing 4 (some .int) (d + 2) 0 [(0, vR (7, b, 0)), (1, vI v), (2, vI u)] [] Mz (fun r M' => Inv M' ∧ FR (S_c_X7_addThing b) Mz M' ∧ (True) ∧ SP_X7_addThing b v u Mz r M') := by
  have hFz : FR (S_c_X7_addThing b) Mz Mz := FR.self
  refine w_aload_n dX7_addThing_0 rfl 0 rfl ?_
  refine w_getI fl_RX7_25 rfl rfl (ic_7 hb) dX7_addThing_1 (fun z1_ e2_ => ?_)
  refine w_istore_n (ls' := [(3, vI z1_), (0, vR (7, b, 0)), (1, vI v), (2, vI u)]) dX7_addThing_4 rfl (by decide) rfl ?_
  refine w_iload_n dX7_addThing_5 rfl 0 rfl ?_
  refine w_if_lt (tgt := 15) dX7_addThing_6 (by decide) (rfl : z1_.toInt = z1_.toInt) (fun h3_ => ?_) (fun h3_ => ?_)
  · refine w_iconst (v := (-1)) dX7_addThing_15 (by decide) ?_
    exact w_iret rfl dX7_addThing_16 ⟨hIz, hFz, trivial, ⟨z1_, e2_, (Or.inl ⟨h3_, rfl, rfl⟩)⟩⟩
  · refine w_iload_n dX7_addThing_9 rfl 0 rfl ?_
    refine w_bipush (v := 40) dX7_addThing_10 (by decide) ?_
    refine w_icmp_lt (tgt := 17) dX7_addThing_12 (by decide) (rfl : z1_.toInt = z1_.toInt) li_40 (fun h4_ => ?_) (fun h4_ => ?_)
    · refine w_aload_n dX7_addThing_17 rfl 1 rfl ?_
      refine w_getR (c' := (36, b, 0)) fl_RX7_13 rfl rfl (ic_7 hb) dX7_addThing_18 rfl ?_
      refine w_iload_n dX7_addThing_21 rfl 0 rfl ?_
      refine w_iload_n dX7_addThing_22 rfl 2 rfl ?_
      refine w_iast CC_nd rfl rfl (ic_36 hb) (rfl : z1_.toInt = z1_.toInt) (lf_c_X7_addThing_0 Mz b z1_ hb e2_ h3_ h4_) dX7_addThing_23 (fun j7_ h8_ M5_ hM6_ => ?_)
      have hI9_ := hIz.put hM6_ trivial
      have hF10_ := hFz.put hM6_ (Or.inl ⟨rfl, rfl⟩)
      refine w_aload_n dX7_addThing_24 rfl 1 rfl ?_
      refine w_getR (c' := (37, b, 0)) fl_RX7_16 rfl rfl (ic_7 hb) dX7_addThing_25 rfl ?_
      refine w_iload_n dX7_addThing_28 rfl 0 rfl ?_
      refine w_iload_n dX7_addThing_29 rfl 3 rfl ?_
      refine w_iast CC_nd rfl rfl (ic_37 hb) (rfl : z1_.toInt = z1_.toInt) (lf_c_X7_addThing_1 M5_ Mz b v z1_ j7_ hb e2_ h3_ h4_ h8_ hM6_) dX7_addThing_30 (fun j13_ h14_ M11_ hM12_ => ?_)
      have hI15_ := hI9_.put hM12_ trivial
      have hF16_ := hF10_.put hM12_ (Or.inr (Or.inl ⟨rfl, rfl⟩))
      refine w_aload_n dX7_addThing_31 rfl 1 rfl ?_
      refine w_getR (c' := (38, b, 0)) fl_RX7_19 rfl rfl (ic_7 hb) dX7_addThing_32 rfl ?_
      refine w_iload_n dX7_addThing_35 rfl 0 rfl ?_
      refine w_iconst (v := 0) dX7_addThing_36 (by decide) ?_
      refine w_iast CC_nd rfl rfl (ic_38 hb) (rfl : z1_.toInt = z1_.toInt) (lf_c_X7_addThing_2 M11_ M5_ Mz b v u z1_ j7_ j13_ hb e2_ h3_ h4_ h8_ hM6_ h14_ hM12_) dX7_addThing_37 (fun j19_ h20_ M17_ hM18_ => ?_)
      have hI21_ := hI15_.put hM18_ trivial
      have hF22_ := hF16_.put hM18_ (Or.inr (Or.inr (Or.inl ⟨rfl, rfl⟩)))
      refine w_aload_n dX7_addThing_38 rfl 1 rfl ?_
      refine w_getR (c' := (39, b, 0)) fl_RX7_22 rfl rfl (ic_7 hb) dX7_addThing_39 rfl ?_
      refine w_iload_n dX7_addThing_42 rfl 0 rfl ?_
      refine w_iconst (v := 0) dX7_addThing_43 (by decide) ?_
      refine w_iast CC_nd rfl rfl (ic_39 hb) (rfl : z1_.toInt = z1_.toInt) (lf_c_X7_addThing_3 M11_ M17_ M5_ Mz b v u z1_ j7_ j13_ j19_ hb e2_ h3_ h4_ h8_ hM6_ h14_ hM12_ h20_ hM18_) dX7_addThing_44 (fun j25_ h26_ M23_ hM24_ => ?_)
      have hI27_ := hI21_.put hM24_ trivial
      have hF28_ := hF22_.put hM24_ (Or.inr (Or.inr (Or.inr (Or.inl ⟨rfl, rfl⟩))))
      refine w_aload_n dX7_addThing_45 rfl 1 rfl ?_
      refine w_iload_n dX7_addThing_46 rfl 3 rfl ?_
      refine w_iload_n dX7_addThing_47 rfl 0 rfl ?_
      refine w_callVv (as := [vI u, vI z1_]) (rest := []) (c_X7_settle l G cy ad d b u z1_ M23_ hI27_ hb) kV_X7_settle (by decide +kernel) (Nat.le_of_ble_eq_true rfl) m_518 rfl rfl rfl (ic_7 hb) rfl rfl (by decide) (Nat.le_of_ble_eq_true rfl) dX7_addThing_48 (fun M29_ q30_ => ?_)
      obtain ⟨hI32_, hF33_, h31_, hs35_⟩ := q30_
      have hF34_ := hF28_.tr hF33_ (fun c k => (fun h => h.elim (fun h => (Or.inr (Or.inr (Or.inr (Or.inr (Or.inl ⟨h.1, h.2⟩)))))) (fun h => h.elim)))
      refine w_aload_n dX7_addThing_51 rfl 1 rfl ?_
      refine w_dup dX7_addThing_52 rfl ?_
      refine w_getI fl_RX7_25 rfl rfl (ic_7 hb) dX7_addThing_53 (fun z36_ e37_ => ?_)
      refine w_iconst (v := 1) dX7_addThing_56 (by decide) ?_
      refine w_iadd dX7_addThing_57 (fun z38_ h39_ => ?_)
      refine w_putI CC_nd fl_RX7_25 rfl rfl (ic_7 hb) dX7_addThing_58 (fun M40_ hM41_ => ?_)
      have hI42_ := hI32_.put hM41_ trivial
      have hF43_ := hF34_.put hM41_ (Or.inr (Or.inr (Or.inr (Or.inr (Or.inr (Or.inl ⟨rfl, rfl, rfl⟩))))))
      refine w_iload_n dX7_addThing_61 rfl 0 rfl ?_
      exact w_iret rfl dX7_addThing_62 ⟨hI42_, hF43_, trivial, ⟨z1_, e2_, (Or.inr ⟨h3_, (Or.inl ⟨h4_, j7_, h8_, M5_, hM6_, j13_, h14_, M11_, hM12_, j19_, h20_, M17_, hM18_, j25_, h26_, M23_, hM24_, hI27_, M29_, hI32_, hF33_, hs35_, z36_, e37_, z38_, h39_, M40_, hM41_, rfl, rfl⟩)⟩)⟩⟩
    · refine w_iconst (v := (-1)) dX7_addThing_15 (by decide) ?_
      exact w_iret rfl dX7_addThing_16 ⟨hIz, hFz, trivial, ⟨z1_, e2_, (Or.inr ⟨h3_, (Or.inr ⟨h4_, rfl, rfl⟩)⟩)⟩⟩
def SP_X7_factOf (b : Nat) (v : Int32) (u : Int32) (Mz : mM) (r_ : Int32) : Prop := (((SP_X7_hasThing b v Mz (1 : Int32)) ∧ (0 ≤ v.toInt ∧ v.toInt ≤ 39) ∧ (((u.toInt = 0) ∧ ∃ j10_ : Nat, ((j10_ : Int) = v.toInt) ∧ ∃ z8_ : Int32, (z8_ = Mz.1 (36, b, 0) j10_) ∧ r_ = z8_) ∨ ((u.toInt = 1) ∧ ∃ j14_ : Nat, ((j14_ : Int) = v.toInt) ∧ ∃ z12_ : Int32, (z12_ = Mz.1 (37, b, 0) j14_) ∧ r_ = z12_) ∨ ((u.toInt = 2) ∧ ∃ j18_ : Nat, ((j18_ : Int) = v.toInt) ∧ ∃ z16_ : Int32, (z16_ = Mz.1 (38, b, 0) j18_) ∧ r_ = z16_) ∨ (((¬ u.toInt = 0 ∧ ¬ u.toInt = 1 ∧ ¬ u.toInt = 2)) ∧ ∃ j22_ : Nat, ((j22_ : Int) = v.toInt) ∧ ∃ z20_ : Int32, (z20_ = Mz.1 (39, b, 0) j22_) ∧ r_ = z20_))) ∨ ((SP_X7_hasThing b v Mz (0 : Int32)) ∧ r_ = 0))
theorem lf_c_X7_factOf_0  (u : Int32)  : u.toInt = 0 ∨ u.toInt = 1 ∨ u.toInt = 2 ∨ (¬ u.toInt = 0 ∧ ¬ u.toInt = 1 ∧ ¬ u.toInt = 2) := by have r_u := rngI u; omega
theorem lf_c_X7_factOf_1  (v : Int32) (h4_ : 0 ≤ v.toInt ∧ v.toInt ≤ 39) : 0 ≤ v.toInt ∧ v.toInt < ((40 : Nat) : Int) := by have r_v := rngI v; omega
theorem lf_c_X7_factOf_2  (v : Int32) (h4_ : 0 ≤ v.toInt ∧ v.toInt ≤ 39) : 0 ≤ v.toInt ∧ v.toInt < ((40 : Nat) : Int) := by have r_v := rngI v; omega
theorem lf_c_X7_factOf_3  (v : Int32) (h4_ : 0 ≤ v.toInt ∧ v.toInt ≤ 39) : 0 ≤ v.toInt ∧ v.toInt < ((40 : Nat) : Int) := by have r_v := rngI v; omega
theorem lf_c_X7_factOf_4  (u : Int32) (e7_ : (¬ u.toInt = 0 ∧ ¬ u.toInt = 1 ∧ ¬ u.toInt = 2)) : u.toInt < 0 ∨ 2 < u.toInt := by have r_u := rngI u; omega
theorem lf_c_X7_factOf_5  (v : Int32) (h4_ : 0 ≤ v.toInt ∧ v.toInt ≤ 39) : 0 ≤ v.toInt ∧ v.toInt < ((40 : Nat) : Int) := by have r_v := rngI v; omega
set_option maxHeartbeats 4000000 in
set_option maxRecDepth 100000 in
theorem c_X7_factOf (l : Launch) (G : va_G) (cy : Nat → ClassId) (ad : rf → Nat) (d : Nat) (b : Nat) (v : Int32) (u : Int32) (Mz : mM) (hIz : Inv Mz) (hb : b < 3) : WP CC l G cy ad yX7_factOf cX7_factOf 3 (some .int) (d + 1) 0 [(0, vR (7, b, 0)), (1, vI v), (2, vI u)] [] Mz (fun r M' => Mz = M' ∧ (True) ∧ SP_X7_factOf b v u Mz r) := by
  refine w_aload_n dX7_factOf_0 rfl 0 rfl ?_
  refine w_iload_n dX7_factOf_1 rfl 1 rfl ?_
  refine w_callV (as := [vI v]) (rest := []) (c_X7_hasThing l G cy ad d b v Mz hIz hb) kV_X7_hasThing (by decide +kernel) (Nat.le_of_ble_eq_true rfl) m_534 rfl rfl rfl (ic_7 hb) rfl rfl (by decide) (Nat.le_of_ble_eq_true rfl) dX7_factOf_2 (fun r1_ M2_ q3_ => ?_)
  obtain ⟨rfl, h4_, hs5_⟩ := q3_
  rcases h4_ with ⟨rfl, h4_⟩ | rfl
  · refine w_if_ne (tgt := 10) dX7_factOf_5 (by decide) li_1 (fun h6_ => ?_) (fun h9 => (absurd h9 (by decide)))
    refine w_iload_n dX7_factOf_10 rfl 2 rfl ?_
    rcases (lf_c_X7_factOf_0 u) with e7_ | e7_ | e7_ | e7_
    · refine w_tsIn (tgt := 36) (off := 25) dX7_factOf_11 e7_ (by decide) (by decide) rfl (by decide) ?_
      refine w_aload_n dX7_factOf_36 rfl 0 rfl ?_
      refine w_getR (c' := (36, b, 0)) fl_RX7_13 rfl rfl (ic_7 hb) dX7_factOf_37 rfl ?_
      refine w_iload_n dX7_factOf_40 rfl 1 rfl ?_
      refine w_iald rfl rfl (ic_36 hb) (rfl : v.toInt = v.toInt) (lf_c_X7_factOf_1 v h4_) dX7_factOf_41 (fun j10_ h11_ z8_ e9_ => ?_)
      exact w_iret rfl dX7_factOf_42 ⟨rfl, trivial, (Or.inl ⟨hs5_, h4_, (Or.inl ⟨e7_, j10_, h11_, z8_, e9_, rfl⟩)⟩)⟩
    · refine w_tsIn (tgt := 43) (off := 32) dX7_factOf_11 e7_ (by decide) (by decide) rfl (by decide) ?_
      refine w_aload_n dX7_factOf_43 rfl 0 rfl ?_
      refine w_getR (c' := (37, b, 0)) fl_RX7_16 rfl rfl (ic_7 hb) dX7_factOf_44 rfl ?_
      refine w_iload_n dX7_factOf_47 rfl 1 rfl ?_
      refine w_iald rfl rfl (ic_37 hb) (rfl : v.toInt = v.toInt) (lf_c_X7_factOf_2 v h4_) dX7_factOf_48 (fun j14_ h15_ z12_ e13_ => ?_)
      exact w_iret rfl dX7_factOf_49 ⟨rfl, trivial, (Or.inl ⟨hs5_, h4_, (Or.inr (Or.inl ⟨e7_, j14_, h15_, z12_, e13_, rfl⟩))⟩)⟩
    · refine w_tsIn (tgt := 50) (off := 39) dX7_factOf_11 e7_ (by decide) (by decide) rfl (by decide) ?_
      refine w_aload_n dX7_factOf_50 rfl 0 rfl ?_
      refine w_getR (c' := (38, b, 0)) fl_RX7_19 rfl rfl (ic_7 hb) dX7_factOf_51 rfl ?_
      refine w_iload_n dX7_factOf_54 rfl 1 rfl ?_
      refine w_iald rfl rfl (ic_38 hb) (rfl : v.toInt = v.toInt) (lf_c_X7_factOf_3 v h4_) dX7_factOf_55 (fun j18_ h19_ z16_ e17_ => ?_)
      exact w_iret rfl dX7_factOf_56 ⟨rfl, trivial, (Or.inl ⟨hs5_, h4_, (Or.inr (Or.inr (Or.inl ⟨e7_, j18_, h19_, z16_, e17_, rfl⟩)))⟩)⟩
    · refine w_tsOut (tgt := 57) dX7_factOf_11 rfl (lf_c_X7_factOf_4 u e7_) (by decide) ?_
      refine w_aload_n dX7_factOf_57 rfl 0 rfl ?_
      refine w_getR (c' := (39, b, 0)) fl_RX7_22 rfl rfl (ic_7 hb) dX7_factOf_58 rfl ?_
      refine w_iload_n dX7_factOf_61 rfl 1 rfl ?_
      refine w_iald rfl rfl (ic_39 hb) (rfl : v.toInt = v.toInt) (lf_c_X7_factOf_5 v h4_) dX7_factOf_62 (fun j22_ h23_ z20_ e21_ => ?_)
      exact w_iret rfl dX7_factOf_63 ⟨rfl, trivial, (Or.inl ⟨hs5_, h4_, (Or.inr (Or.inr (Or.inr ⟨e7_, j22_, h23_, z20_, e21_, rfl⟩)))⟩)⟩
  · refine w_if_ne (tgt := 10) dX7_factOf_5 (by decide) li_0 (fun h9 => (absurd h9 (by decide))) (fun h24_ => ?_)
    refine w_iconst (v := 0) dX7_factOf_8 (by decide) ?_
    exact w_iret rfl dX7_factOf_9 ⟨rfl, trivial, (Or.inr ⟨hs5_, rfl⟩)⟩
def S_c_X7_takeAway (b : Nat) : rf → Nat → Prop := fun c k => (c.1 = 35 ∧ c.2.1 = b) ∨ (c.1 = 37 ∧ c.2.1 = b) ∨ False
def SP_X7_takeAway (b : Nat) (v : Int32) (Mz : mM) (r_ : Int32) (M_ : mM) : Prop := (((SP_X7_hasThing b v Mz (1 : Int32)) ∧ (0 ≤ v.toInt ∧ v.toInt ≤ 39) ∧ ∃ j9_ : Nat, ((j9_ : Int) = v.toInt) ∧ ∃ z7_ : Int32, (z7_ = Mz.1 (37, b, 0) j9_) ∧ ∃ M11_ : mM, (Inv M11_) ∧ (FR (S_c_X7_settle b) Mz M11_) ∧ (SP_X7_settle b z7_ (-1) Mz M11_) ∧ ∃ j20_ : Nat, ((j20_ : Int) = v.toInt) ∧ ∃ M18_ : mM, (M18_ = up M11_ (37, b, 0) j20_ (-1)) ∧ r_ = z7_ ∧ M_ = M18_) ∨ ((SP_X7_hasThing b v Mz (0 : Int32)) ∧ r_ = (-1) ∧ M_ = Mz))
theorem lf_c_X7_takeAway_0  (v : Int32) (h4_ : 0 ≤ v.toInt ∧ v.toInt ≤ 39) : 0 ≤ v.toInt ∧ v.toInt < ((40 : Nat) : Int) := by have r_v := rngI v; omega
theorem lf_c_X7_takeAway_1 (Mz : mM) (b : Nat) (v : Int32) (j9_ : Nat) (z7_ : Int32) (hb : b < 3) (h4_ : 0 ≤ v.toInt ∧ v.toInt ≤ 39) (h10_ : (j9_ : Int) = v.toInt) (e8_ : z7_ = Mz.1 (37, b, 0) j9_) : 0 ≤ v.toInt ∧ v.toInt < ((40 : Nat) : Int) := by have r_v := rngI v; have r_z7_ := rngI z7_; subst e8_; omega
set_option maxHeartbeats 4000000 in
set_option maxRecDepth 100000 in
theorem c_X7_takeAway (l : Launch) (G : va_G) (cy : Nat → ClassId) (ad : rf → Nat) (d : Nat) (b : Nat) (v : Int32) (Mz : mM) (hIz : Inv Mz) (hb : b < 3) : WP CC l G cy ad yX7_takeAway cX7_takeAway 3 (some .int) (d + 2) 0 [(0, vR (7, b, 0)), (1, vI v)] [] Mz (fun r M' => Inv M' ∧ FR (S_c_X7_takeAway b) Mz M' ∧ (True) ∧ SP_X7_takeAway b v Mz r M') := by
  have hFz : FR (S_c_X7_takeAway b) Mz Mz := FR.self
  refine w_aload_n dX7_takeAway_0 rfl 0 rfl ?_
  refine w_iload_n dX7_takeAway_1 rfl 1 rfl ?_
  refine w_callV (as := [vI v]) (rest := []) (c_X7_hasThing l G cy ad (d + 1) b v Mz hIz hb) kV_X7_hasThing (by decide +kernel) (Nat.le_of_ble_eq_true rfl) m_534 rfl rfl rfl (ic_7 hb) rfl rfl (by decide) (Nat.le_of_ble_eq_true rfl) dX7_takeAway_2 (fun r1_ M2_ q3_ => ?_)
  obtain ⟨rfl, h4_, hs5_⟩ := q3_
  rcases h4_ with ⟨rfl, h4_⟩ | rfl
  · refine w_if_ne (tgt := 10) dX7_takeAway_5 (by decide) li_1 (fun h6_ => ?_) (fun h9 => (absurd h9 (by decide)))
    refine w_aload_n dX7_takeAway_10 rfl 0 rfl ?_
    refine w_getR (c' := (37, b, 0)) fl_RX7_16 rfl rfl (ic_7 hb) dX7_takeAway_11 rfl ?_
    refine w_iload_n dX7_takeAway_14 rfl 1 rfl ?_
    refine w_iald rfl rfl (ic_37 hb) (rfl : v.toInt = v.toInt) (lf_c_X7_takeAway_0 v h4_) dX7_takeAway_15 (fun j9_ h10_ z7_ e8_ => ?_)
    refine w_istore_n (ls' := [(2, vI z7_), (0, vR (7, b, 0)), (1, vI v)]) dX7_takeAway_16 rfl (by decide) rfl ?_
    refine w_aload_n dX7_takeAway_17 rfl 1 rfl ?_
    refine w_iload_n dX7_takeAway_18 rfl 0 rfl ?_
    refine w_iconst (v := (-1)) dX7_takeAway_19 (by decide) ?_
    refine w_callVv (as := [vI z7_, vI (-1)]) (rest := []) (c_X7_settle l G cy ad d b z7_ (-1) Mz hIz hb) kV_X7_settle (by decide +kernel) (Nat.le_of_ble_eq_true rfl) m_518 rfl rfl rfl (ic_7 hb) rfl rfl (by decide) (Nat.le_of_ble_eq_true rfl) dX7_takeAway_20 (fun M11_ q12_ => ?_)
    obtain ⟨hI14_, hF15_, h13_, hs17_⟩ := q12_
    have hF16_ := hFz.tr hF15_ (fun c k => (fun h => h.elim (fun h => (Or.inl ⟨h.1, h.2⟩)) (fun h => h.elim)))
    refine w_aload_n dX7_takeAway_23 rfl 1 rfl ?_
    refine w_getR (c' := (37, b, 0)) fl_RX7_16 rfl rfl (ic_7 hb) dX7_takeAway_24 rfl ?_
    refine w_iload_n dX7_takeAway_27 rfl 2 rfl ?_
    refine w_iconst (v := (-1)) dX7_takeAway_28 (by decide) ?_
    refine w_iast CC_nd rfl rfl (ic_37 hb) (rfl : v.toInt = v.toInt) (lf_c_X7_takeAway_1 Mz b v j9_ z7_ hb h4_ h10_ e8_) dX7_takeAway_29 (fun j20_ h21_ M18_ hM19_ => ?_)
    have hI22_ := hI14_.put hM19_ trivial
    have hF23_ := hF16_.put hM19_ (Or.inr (Or.inl ⟨rfl, rfl⟩))
    refine w_iload_n dX7_takeAway_30 rfl 0 rfl ?_
    exact w_iret rfl dX7_takeAway_31 ⟨hI22_, hF23_, trivial, (Or.inl ⟨hs5_, h4_, j9_, h10_, z7_, e8_, M11_, hI14_, hF15_, hs17_, j20_, h21_, M18_, hM19_, rfl, rfl⟩)⟩
  · refine w_if_ne (tgt := 10) dX7_takeAway_5 (by decide) li_0 (fun h9 => (absurd h9 (by decide))) (fun h24_ => ?_)
    refine w_iconst (v := (-1)) dX7_takeAway_8 (by decide) ?_
    exact w_iret rfl dX7_takeAway_9 ⟨hIz, hFz, trivial, (Or.inr ⟨hs5_, rfl, rfl⟩)⟩
def ST_X7_countThings_4 (b : Nat) (Mz : mM) (v2_4 : Int32) (v1_4 : Int32) (v2_4y : Int32) (v1_4y : Int32) : Prop := (0 ≤ v2_4.toInt) ∧ ∃ z2_ : Int32, (z2_ = Mz.1 (7, b, 0) 5) ∧ (v2_4.toInt < z2_.toInt) ∧ (v2_4.toInt < 40) ∧ ∃ j8_ : Nat, ((j8_ : Int) = v2_4.toInt) ∧ ∃ z6_ : Int32, (z6_ = Mz.1 (37, b, 0) j8_) ∧ (((z6_.toInt < 0) ∧ ∃ z11_ : Int32, (z11_.toInt = v2_4.toInt + 1) ∧ v2_4y = z11_ ∧ v1_4y = v1_4) ∨ ((0 ≤ z6_.toInt) ∧ ∃ z13_ : Int32, (z13_ = v1_4 + Int32.ofInt 1) ∧ ∃ z15_ : Int32, (z15_.toInt = v2_4.toInt + 1) ∧ v2_4y = z15_ ∧ v1_4y = z13_))
def SP_X7_countThings (b : Nat) (Mz : mM) (r_ : Int32) : Prop := ∃ v2_4 : Int32, (0 ≤ v2_4.toInt) ∧ ∃ v1_4 : Int32, (RCH (fun x_ y_ => ST_X7_countThings_4 b Mz x_.1 x_.2 y_.1 y_.2) ((0 : Int32), (0 : Int32)) (v2_4, v1_4)) ∧ ∃ z2_ : Int32, (z2_ = Mz.1 (7, b, 0) 5) ∧ (((z2_.toInt ≤ v2_4.toInt) ∧ r_ = v1_4) ∨ ((v2_4.toInt < z2_.toInt) ∧ (40 ≤ v2_4.toInt) ∧ r_ = v1_4))
theorem lf_c_X7_countThings_0 (Mz : mM) (b : Nat) (v2_4 : Int32) (z2_ : Int32) (hb : b < 3) (hv0_4 : 0 ≤ v2_4.toInt) (e3_ : z2_ = Mz.1 (7, b, 0) 5) (h4_ : v2_4.toInt < z2_.toInt) (h5_ : v2_4.toInt < 40) : 0 ≤ v2_4.toInt ∧ v2_4.toInt < ((40 : Nat) : Int) := by have r_v2_4 := rngI v2_4; have r_z2_ := rngI z2_; subst e3_; omega
theorem lf_c_X7_countThings_1 (Mz : mM) (b : Nat) (v2_4 : Int32) (z2_ : Int32) (j8_ : Nat) (z6_ : Int32) (hb : b < 3) (hv0_4 : 0 ≤ v2_4.toInt) (e3_ : z2_ = Mz.1 (7, b, 0) 5) (h4_ : v2_4.toInt < z2_.toInt) (h5_ : v2_4.toInt < 40) (h9_ : (j8_ : Int) = v2_4.toInt) (e7_ : z6_ = Mz.1 (37, b, 0) j8_) (h10_ : z6_.toInt < 0) : -2147483648 ≤ v2_4.toInt + 1 ∧ v2_4.toInt + 1 < 2147483648 := by have r_v2_4 := rngI v2_4; have r_z2_ := rngI z2_; have r_z6_ := rngI z6_; subst e3_; subst e7_; omega
theorem lf_c_X7_countThings_2 (Mz : mM) (b : Nat) (v2_4 : Int32) (z2_ : Int32) (j8_ : Nat) (z6_ : Int32) (z11_ : Int32) (hb : b < 3) (hv0_4 : 0 ≤ v2_4.toInt) (e3_ : z2_ = Mz.1 (7, b, 0) 5) (h4_ : v2_4.toInt < z2_.toInt) (h5_ : v2_4.toInt < 40) (h9_ : (j8_ : Int) = v2_4.toInt) (e7_ : z6_ = Mz.1 (37, b, 0) j8_) (h10_ : z6_.toInt < 0) (h12_ : z11_.toInt = v2_4.toInt + 1) : 0 ≤ z11_.toInt := by have r_v2_4 := rngI v2_4; have r_z2_ := rngI z2_; have r_z6_ := rngI z6_; have r_z11_ := rngI z11_; omega
theorem lf_c_X7_countThings_3 (Mz : mM) (b : Nat) (v2_4 : Int32) (z2_ : Int32) (j8_ : Nat) (z6_ : Int32) (z11_ : Int32) (hb : b < 3) (hv0_4 : 0 ≤ v2_4.toInt) (e3_ : z2_ = Mz.1 (7, b, 0) 5) (h4_ : v2_4.toInt < z2_.toInt) (h5_ : v2_4.toInt < 40) (h9_ : (j8_ : Int) = v2_4.toInt) (e7_ : z6_ = Mz.1 (37, b, 0) j8_) (h10_ : z6_.toInt < 0) (h12_ : z11_.toInt = v2_4.toInt + 1) : (2147483648 - z11_.toInt).toNat < (2147483648 - v2_4.toInt).toNat := by have r_v2_4 := rngI v2_4; have r_z2_ := rngI z2_; have r_z6_ := rngI z6_; have r_z11_ := rngI z11_; omega
theorem lf_c_X7_countThings_4 (Mz : mM) (b : Nat) (v2_4 : Int32) (z2_ : Int32) (j8_ : Nat) (z6_ : Int32) (hb : b < 3) (hv0_4 : 0 ≤ v2_4.toInt) (e3_ : z2_ = Mz.1 (7, b, 0) 5) (h4_ : v2_4.toInt < z2_.toInt) (h5_ : v2_4.toInt < 40) (h9_ : (j8_ : Int) = v2_4.toInt) (e7_ : z6_ = Mz.1 (37, b, 0) j8_) (h10_ : 0 ≤ z6_.toInt) : -2147483648 ≤ v2_4.toInt + 1 ∧ v2_4.toInt + 1 < 2147483648 := by have r_v2_4 := rngI v2_4; have r_z2_ := rngI z2_; have r_z6_ := rngI z6_; subst e3_; subst e7_; omega
theorem lf_c_X7_countThings_5 (Mz : mM) (b : Nat) (v2_4 : Int32) (z2_ : Int32) (j8_ : Nat) (z6_ : Int32) (z15_ : Int32) (hb : b < 3) (hv0_4 : 0 ≤ v2_4.toInt) (e3_ : z2_ = Mz.1 (7, b, 0) 5) (h4_ : v2_4.toInt < z2_.toInt) (h5_ : v2_4.toInt < 40) (h9_ : (j8_ : Int) = v2_4.toInt) (e7_ : z6_ = Mz.1 (37, b, 0) j8_) (h10_ : 0 ≤ z6_.toInt) (h16_ : z15_.toInt = v2_4.toInt + 1) : 0 ≤ z15_.toInt := by have r_v2_4 := rngI v2_4; have r_z2_ := rngI z2_; have r_z6_ := rngI z6_; have r_z15_ := rngI z15_; omega
theorem lf_c_X7_countThings_6 (Mz : mM) (b : Nat) (v2_4 : Int32) (z2_ : Int32) (j8_ : Nat) (z6_ : Int32) (z15_ : Int32) (hb : b < 3) (hv0_4 : 0 ≤ v2_4.toInt) (e3_ : z2_ = Mz.1 (7, b, 0) 5) (h4_ : v2_4.toInt < z2_.toInt) (h5_ : v2_4.toInt < 40) (h9_ : (j8_ : Int) = v2_4.toInt) (e7_ : z6_ = Mz.1 (37, b, 0) j8_) (h10_ : 0 ≤ z6_.toInt) (h16_ : z15_.toInt = v2_4.toInt + 1) : (2147483648 - z15_.toInt).toNat < (2147483648 - v2_4.toInt).toNat := by have r_v2_4 := rngI v2_4; have r_z2_ := rngI z2_; have r_z6_ := rngI z6_; have r_z15_ := rngI z15_; omega
theorem lf_c_X7_countThings_7    : 0 ≤ (0 : Int32).toInt := by have q0 := li_0; omega
set_option maxHeartbeats 4000000 in
set_option maxRecDepth 100000 in
theorem c_X7_countThings (l : Launch) (G : va_G) (cy : Nat → ClassId) (ad : rf → Nat) (d : Nat) (b : Nat) (Mz : mM) (hIz : Inv Mz) (hb : b < 3) : WP CC l G cy ad yX7_countThings cX7_countThings 3 (some .int) d 0 [(0, vR (7, b, 0))] [] Mz (fun r M' => Mz = M' ∧ (True) ∧ SP_X7_countThings b Mz r) := by
  refine w_iconst (v := 0) dX7_countThings_0 (by decide) ?_
  refine w_istore_n (ls' := [(1, vI 0), (0, vR (7, b, 0))]) dX7_countThings_1 rfl (by decide) rfl ?_
  refine w_iconst (v := 0) dX7_countThings_2 (by decide) ?_
  refine w_istore_n (ls' := [(2, vI 0), (1, vI 0), (0, vR (7, b, 0))]) dX7_countThings_3 rfl (by decide) rfl ?_
  have lp1_ : ∀ (nn_4 : Nat) (v2_4 : Int32) (v1_4 : Int32) (hv0_4 : 0 ≤ v2_4.toInt) (hL_4 : RCH (fun x_ y_ => ST_X7_countThings_4 b Mz x_.1 x_.2 y_.1 y_.2) ((0 : Int32), (0 : Int32)) (v2_4, v1_4)), (2147483648 - v2_4.toInt).toNat < nn_4 → WP CC l G cy ad yX7_countThings cX7_countThings 3 (some .int) d 4 [(2, vI v2_4), (1, vI v1_4), (0, vR (7, b, 0))] [] Mz (fun r M' => Mz = M' ∧ (True) ∧ SP_X7_countThings b Mz r) := by
    intro nn_4
    induction nn_4 with
    | zero => intro v2_4 v1_4 hv0_4 hL_4 hm_4; exact absurd hm_4 (Nat.not_lt_zero _)
    | succ nn_4 ih_4 =>
      intro v2_4 v1_4 hv0_4 hL_4 hm_4
      refine w_iload_n dX7_countThings_4 rfl 0 rfl ?_
      refine w_aload_n dX7_countThings_5 rfl 2 rfl ?_
      refine w_getI fl_RX7_25 rfl rfl (ic_7 hb) dX7_countThings_6 (fun z2_ e3_ => ?_)
      refine w_icmp_ge (tgt := 36) dX7_countThings_9 (by decide) (rfl : v2_4.toInt = v2_4.toInt) (rfl : z2_.toInt = z2_.toInt) (fun h4_ => ?_) (fun h4_ => ?_)
      · refine w_iload_n dX7_countThings_36 rfl 1 rfl ?_
        exact w_iret rfl dX7_countThings_37 ⟨rfl, trivial, ⟨v2_4, hv0_4, v1_4, hL_4, z2_, e3_, (Or.inl ⟨h4_, rfl⟩)⟩⟩
      · refine w_iload_n dX7_countThings_12 rfl 0 rfl ?_
        refine w_bipush (v := 40) dX7_countThings_13 (by decide) ?_
        refine w_icmp_ge (tgt := 36) dX7_countThings_15 (by decide) (rfl : v2_4.toInt = v2_4.toInt) li_40 (fun h5_ => ?_) (fun h5_ => ?_)
        · refine w_iload_n dX7_countThings_36 rfl 1 rfl ?_
          exact w_iret rfl dX7_countThings_37 ⟨rfl, trivial, ⟨v2_4, hv0_4, v1_4, hL_4, z2_, e3_, (Or.inr ⟨h4_, h5_, rfl⟩)⟩⟩
        · refine w_aload_n dX7_countThings_18 rfl 2 rfl ?_
          refine w_getR (c' := (37, b, 0)) fl_RX7_16 rfl rfl (ic_7 hb) dX7_countThings_19 rfl ?_
          refine w_iload_n dX7_countThings_22 rfl 0 rfl ?_
          refine w_iald rfl rfl (ic_37 hb) (rfl : v2_4.toInt = v2_4.toInt) (lf_c_X7_countThings_0 Mz b v2_4 z2_ hb hv0_4 e3_ h4_ h5_) dX7_countThings_23 (fun j8_ h9_ z6_ e7_ => ?_)
          refine w_if_lt (tgt := 30) dX7_countThings_24 (by decide) (rfl : z6_.toInt = z6_.toInt) (fun h10_ => ?_) (fun h10_ => ?_)
          · refine w_iincB (j := 0) (f := fun z11_ => [(2, vI z11_), (1, vI v1_4), (0, vR (7, b, 0))]) dX7_countThings_30 rfl (by decide) (fun _ => rfl) (rfl : v2_4.toInt = v2_4.toInt) li_1 (lf_c_X7_countThings_1 Mz b v2_4 z2_ j8_ z6_ hb hv0_4 e3_ h4_ h5_ h9_ e7_ h10_) (fun z11_ h12_ => ?_)
            refine w_goto (tgt := 4) dX7_countThings_33 (by decide) ?_
            refine w_loc (ls' := [(2, vI z11_), (1, vI v1_4), (0, vR (7, b, 0))]) [0, 1, 2] rfl ?_
            exact ih_4 z11_ v1_4 (lf_c_X7_countThings_2 Mz b v2_4 z2_ j8_ z6_ z11_ hb hv0_4 e3_ h4_ h5_ h9_ e7_ h10_ h12_) (RCH.tail hL_4 ⟨hv0_4, z2_, e3_, h4_, h5_, j8_, h9_, z6_, e7_, (Or.inl ⟨h10_, z11_, h12_, rfl, rfl⟩)⟩) (Nat.lt_of_lt_of_le (lf_c_X7_countThings_3 Mz b v2_4 z2_ j8_ z6_ z11_ hb hv0_4 e3_ h4_ h5_ h9_ e7_ h10_ h12_) (Nat.le_of_lt_succ hm_4))
          · refine w_iincX (j := 1) (f := fun z13_ => [(1, vI z13_), (2, vI v2_4), (0, vR (7, b, 0))]) dX7_countThings_27 rfl (by decide) (fun _ => rfl) (fun z13_ h14_ => ?_)
            refine w_iincB (j := 1) (f := fun z15_ => [(2, vI z15_), (1, vI z13_), (0, vR (7, b, 0))]) dX7_countThings_30 rfl (by decide) (fun _ => rfl) (rfl : v2_4.toInt = v2_4.toInt) li_1 (lf_c_X7_countThings_4 Mz b v2_4 z2_ j8_ z6_ hb hv0_4 e3_ h4_ h5_ h9_ e7_ h10_) (fun z15_ h16_ => ?_)
            refine w_goto (tgt := 4) dX7_countThings_33 (by decide) ?_
            refine w_loc (ls' := [(2, vI z15_), (1, vI z13_), (0, vR (7, b, 0))]) [0, 1, 2] rfl ?_
            exact ih_4 z15_ z13_ (lf_c_X7_countThings_5 Mz b v2_4 z2_ j8_ z6_ z15_ hb hv0_4 e3_ h4_ h5_ h9_ e7_ h10_ h16_) (RCH.tail hL_4 ⟨hv0_4, z2_, e3_, h4_, h5_, j8_, h9_, z6_, e7_, (Or.inr ⟨h10_, z13_, h14_, z15_, h16_, rfl, rfl⟩)⟩) (Nat.lt_of_lt_of_le (lf_c_X7_countThings_6 Mz b v2_4 z2_ j8_ z6_ z15_ hb hv0_4 e3_ h4_ h5_ h9_ e7_ h10_ h16_) (Nat.le_of_lt_succ hm_4))
  exact lp1_ _ 0 0 (lf_c_X7_countThings_7 ) RCH.refl (Nat.lt_succ_self _)
def SP_X7_kindIn (b : Nat) (v : Int32) (Mz : mM) (r_ : Int32) : Prop := (((SP_X7_isCell v Mz (1 : Int32)) ∧ (0 ≤ v.toInt ∧ v.toInt ≤ 191) ∧ ∃ j9_ : Nat, ((j9_ : Int) = v.toInt) ∧ ∃ z7_ : Int32, (z7_ = Mz.1 (35, b, 0) j9_) ∧ (((SP_X7_hasThing b z7_ Mz (1 : Int32)) ∧ (0 ≤ z7_.toInt ∧ z7_.toInt ≤ 39) ∧ ∃ j19_ : Nat, ((j19_ : Int) = z7_.toInt) ∧ ∃ z17_ : Int32, (z17_ = Mz.1 (36, b, 0) j19_) ∧ r_ = z17_) ∨ ((SP_X7_hasThing b z7_ Mz (0 : Int32)) ∧ r_ = 3))) ∨ ((SP_X7_isCell v Mz (0 : Int32)) ∧ (¬ (0 ≤ v.toInt ∧ v.toInt ≤ 191)) ∧ (SP_X7_hasThing b (-1) Mz (0 : Int32)) ∧ r_ = 3))
theorem lf_c_X7_kindIn_0  (v : Int32) (h4_ : 0 ≤ v.toInt ∧ v.toInt ≤ 191) : 0 ≤ v.toInt ∧ v.toInt < ((192 : Nat) : Int) := by have r_v := rngI v; omega
theorem lf_c_X7_kindIn_1 (Mz : mM) (b : Nat) (v : Int32) (j9_ : Nat) (z7_ : Int32) (hb : b < 3) (h4_ : 0 ≤ v.toInt ∧ v.toInt ≤ 191) (h10_ : (j9_ : Int) = v.toInt) (e8_ : z7_ = Mz.1 (35, b, 0) j9_) (h14_ : 0 ≤ z7_.toInt ∧ z7_.toInt ≤ 39) : 0 ≤ z7_.toInt ∧ z7_.toInt < ((40 : Nat) : Int) := by have r_v := rngI v; have r_z7_ := rngI z7_; subst e8_; omega
set_option maxHeartbeats 4000000 in
set_option maxRecDepth 100000 in
theorem c_X7_kindIn (l : Launch) (G : va_G) (cy : Nat → ClassId) (ad : rf → Nat) (d : Nat) (b : Nat) (v : Int32) (Mz : mM) (hIz : Inv Mz) (hb : b < 3) : WP CC l G cy ad yX7_kindIn cX7_kindIn 3 (some .int) (d + 1) 0 [(0, vR (7, b, 0)), (1, vI v)] [] Mz (fun r M' => Mz = M' ∧ (True) ∧ SP_X7_kindIn b v Mz r) := by
  refine w_iload_n dX7_kindIn_0 rfl 1 rfl ?_
  refine w_callS (as := [vI v]) (rest := []) (c_X7_isCell l G cy ad d v Mz hIz) kS_X7_isCell (by decide +kernel) (Nat.le_of_ble_eq_true rfl) m_509 rfl rfl (by decide) (Nat.le_of_ble_eq_true rfl) dX7_kindIn_1 (fun r1_ M2_ q3_ => ?_)
  obtain ⟨rfl, h4_, hs5_⟩ := q3_
  rcases h4_ with ⟨rfl, h4_⟩ | ⟨rfl, h4_⟩
  · refine w_if_eq (tgt := 16) dX7_kindIn_4 (by decide) li_1 (fun h9 => (absurd h9 (by decide))) (fun h6_ => ?_)
    refine w_aload_n dX7_kindIn_7 rfl 0 rfl ?_
    refine w_getR (c' := (35, b, 0)) fl_RX7_9 rfl rfl (ic_7 hb) dX7_kindIn_8 rfl ?_
    refine w_iload_n dX7_kindIn_11 rfl 1 rfl ?_
    refine w_iald rfl rfl (ic_35 hb) (rfl : v.toInt = v.toInt) (lf_c_X7_kindIn_0 v h4_) dX7_kindIn_12 (fun j9_ h10_ z7_ e8_ => ?_)
    refine w_goto (tgt := 17) dX7_kindIn_13 (by decide) ?_
    refine w_istore_n (ls' := [(2, vI z7_), (0, vR (7, b, 0)), (1, vI v)]) dX7_kindIn_17 rfl (by decide) rfl ?_
    refine w_aload_n dX7_kindIn_18 rfl 1 rfl ?_
    refine w_iload_n dX7_kindIn_19 rfl 0 rfl ?_
    refine w_callV (as := [vI z7_]) (rest := []) (c_X7_hasThing l G cy ad d b z7_ Mz hIz hb) kV_X7_hasThing (by decide +kernel) (Nat.le_of_ble_eq_true rfl) m_534 rfl rfl rfl (ic_7 hb) rfl rfl (by decide) (Nat.le_of_ble_eq_true rfl) dX7_kindIn_20 (fun r11_ M12_ q13_ => ?_)
    obtain ⟨rfl, h14_, hs15_⟩ := q13_
    rcases h14_ with ⟨rfl, h14_⟩ | rfl
    · refine w_if_eq (tgt := 35) dX7_kindIn_23 (by decide) li_1 (fun h9 => (absurd h9 (by decide))) (fun h16_ => ?_)
      refine w_aload_n dX7_kindIn_26 rfl 1 rfl ?_
      refine w_getR (c' := (36, b, 0)) fl_RX7_13 rfl rfl (ic_7 hb) dX7_kindIn_27 rfl ?_
      refine w_iload_n dX7_kindIn_30 rfl 0 rfl ?_
      refine w_iald rfl rfl (ic_36 hb) (rfl : z7_.toInt = z7_.toInt) (lf_c_X7_kindIn_1 Mz b v j9_ z7_ hb h4_ h10_ e8_ h14_) dX7_kindIn_31 (fun j19_ h20_ z17_ e18_ => ?_)
      refine w_goto (tgt := 36) dX7_kindIn_32 (by decide) ?_
      exact w_iret rfl dX7_kindIn_36 ⟨rfl, trivial, (Or.inl ⟨hs5_, h4_, j9_, h10_, z7_, e8_, (Or.inl ⟨hs15_, h14_, j19_, h20_, z17_, e18_, rfl⟩)⟩)⟩
    · refine w_if_eq (tgt := 35) dX7_kindIn_23 (by decide) li_0 (fun h21_ => ?_) (fun h9 => (absurd h9 (by decide)))
      refine w_iconst (v := 3) dX7_kindIn_35 (by decide) ?_
      exact w_iret rfl dX7_kindIn_36 ⟨rfl, trivial, (Or.inl ⟨hs5_, h4_, j9_, h10_, z7_, e8_, (Or.inr ⟨hs15_, rfl⟩)⟩)⟩
  · refine w_if_eq (tgt := 16) dX7_kindIn_4 (by decide) li_0 (fun h22_ => ?_) (fun h9 => (absurd h9 (by decide)))
    refine w_iconst (v := (-1)) dX7_kindIn_16 (by decide) ?_
    refine w_istore_n (ls' := [(2, vI (-1)), (0, vR (7, b, 0)), (1, vI v)]) dX7_kindIn_17 rfl (by decide) rfl ?_
    refine w_aload_n dX7_kindIn_18 rfl 1 rfl ?_
    refine w_iload_n dX7_kindIn_19 rfl 0 rfl ?_
    refine w_callV (as := [vI (-1)]) (rest := []) (c_X7_hasThing l G cy ad d b (-1) Mz hIz hb) kV_X7_hasThing (by decide +kernel) (Nat.le_of_ble_eq_true rfl) m_534 rfl rfl rfl (ic_7 hb) rfl rfl (by decide) (Nat.le_of_ble_eq_true rfl) dX7_kindIn_20 (fun r23_ M24_ q25_ => ?_)
    obtain ⟨rfl, h26_, hs27_⟩ := q25_
    rcases h26_ with ⟨rfl, h26_⟩ | rfl
    · simp only [li_m1] at h26_
      exact absurd h26_ (by decide)
    · refine w_if_eq (tgt := 35) dX7_kindIn_23 (by decide) li_0 (fun h28_ => ?_) (fun h9 => (absurd h9 (by decide)))
      refine w_iconst (v := 3) dX7_kindIn_35 (by decide) ?_
      exact w_iret rfl dX7_kindIn_36 ⟨rfl, trivial, (Or.inr ⟨hs5_, h4_, hs27_, rfl⟩)⟩
def S_c_X7_letThingGo (b : Nat) : rf → Nat → Prop := fun c k => (c.1 = 35 ∧ c.2.1 = b) ∨ (c.1 = 37 ∧ c.2.1 = b) ∨ (c.1 = 38 ∧ c.2.1 = b) ∨ False
def SP_X7_letThingGo (b : Nat) (v : Int32) (Mz : mM) (M_ : mM) : Prop := (((SP_X7_hasThing b v Mz (1 : Int32)) ∧ (0 ≤ v.toInt ∧ v.toInt ≤ 39) ∧ ∃ j9_ : Nat, ((j9_ : Int) = v.toInt) ∧ ∃ z7_ : Int32, (z7_ = Mz.1 (37, b, 0) j9_) ∧ ∃ j13_ : Nat, ((j13_ : Int) = v.toInt) ∧ ∃ z11_ : Int32, (z11_ = Mz.1 (38, b, 0) j13_) ∧ ∃ r15_ : Int32, (SP_X7_cellFrom z7_ z11_ 1 Mz r15_) ∧ (-1 ≤ r15_.toInt ∧ r15_.toInt ≤ 191) ∧ (((SP_X7_isFree b r15_ Mz (1 : Int32)) ∧ (0 ≤ r15_.toInt ∧ r15_.toInt ≤ 191) ∧ ∃ j28_ : Nat, ((j28_ : Int) = v.toInt) ∧ ∃ z26_ : Int32, (z26_ = Mz.1 (37, b, 0) j28_) ∧ ∃ M30_ : mM, (Inv M30_) ∧ (FR (S_c_X7_settle b) Mz M30_) ∧ (SP_X7_settle b z26_ (-1) Mz M30_) ∧ ∃ M37_ : mM, (Inv M37_) ∧ (FR (S_c_X7_settle b) M30_ M37_) ∧ (SP_X7_settle b r15_ v M30_ M37_) ∧ ∃ j46_ : Nat, ((j46_ : Int) = v.toInt) ∧ ∃ M44_ : mM, (M44_ = up M37_ (37, b, 0) j46_ r15_) ∧ M_ = M44_) ∨ ((SP_X7_isFree b r15_ Mz (0 : Int32)) ∧ ∃ j53_ : Nat, ((j53_ : Int) = v.toInt) ∧ ∃ z51_ : Int32, (z51_ = Mz.1 (38, b, 0) j53_) ∧ ∃ z55_ : Int32, (z55_ = z51_ + (4 : Int32)) ∧ ∃ z57_ : Int32, (z57_ = z55_ &&& (7 : Int32)) ∧ (0 ≤ z57_.toInt ∧ z57_.toInt < ((2 ^ 3 : Nat) : Int)) ∧ ∃ j62_ : Nat, ((j62_ : Int) = v.toInt) ∧ ∃ M60_ : mM, (M60_ = up Mz (38, b, 0) j62_ z57_) ∧ M_ = M60_))) ∨ ((SP_X7_hasThing b v Mz (0 : Int32)) ∧ M_ = Mz))
theorem lf_c_X7_letThingGo_0  (v : Int32) (h4_ : 0 ≤ v.toInt ∧ v.toInt ≤ 39) : 0 ≤ v.toInt ∧ v.toInt < ((40 : Nat) : Int) := by have r_v := rngI v; omega
theorem lf_c_X7_letThingGo_1 (Mz : mM) (b : Nat) (v : Int32) (j9_ : Nat) (z7_ : Int32) (hb : b < 3) (h4_ : 0 ≤ v.toInt ∧ v.toInt ≤ 39) (h10_ : (j9_ : Int) = v.toInt) (e8_ : z7_ = Mz.1 (37, b, 0) j9_) : 0 ≤ v.toInt ∧ v.toInt < ((40 : Nat) : Int) := by have r_v := rngI v; have r_z7_ := rngI z7_; subst e8_; omega
theorem lf_c_X7_letThingGo_2 (Mz : mM) (b : Nat) (v : Int32) (j9_ : Nat) (z7_ : Int32) (j13_ : Nat) (z11_ : Int32) (hb : b < 3) (h4_ : 0 ≤ v.toInt ∧ v.toInt ≤ 39) (h10_ : (j9_ : Int) = v.toInt) (e8_ : z7_ = Mz.1 (37, b, 0) j9_) (h14_ : (j13_ : Int) = v.toInt) (e12_ : z11_ = Mz.1 (38, b, 0) j13_) : 0 ≤ v.toInt ∧ v.toInt < ((40 : Nat) : Int) := by have r_v := rngI v; have r_z7_ := rngI z7_; have r_z11_ := rngI z11_; subst e8_; subst e12_; omega
theorem lf_c_X7_letThingGo_3 (Mz : mM) (b : Nat) (v : Int32) (j9_ : Nat) (z7_ : Int32) (j13_ : Nat) (z11_ : Int32) (j28_ : Nat) (z26_ : Int32) (hb : b < 3) (h4_ : 0 ≤ v.toInt ∧ v.toInt ≤ 39) (h10_ : (j9_ : Int) = v.toInt) (e8_ : z7_ = Mz.1 (37, b, 0) j9_) (h14_ : (j13_ : Int) = v.toInt) (e12_ : z11_ = Mz.1 (38, b, 0) j13_) (h29_ : (j28_ : Int) = v.toInt) (e27_ : z26_ = Mz.1 (37, b, 0) j28_) : 0 ≤ v.toInt ∧ v.toInt < ((40 : Nat) : Int) := by have r_v := rngI v; have r_z7_ := rngI z7_; have r_z11_ := rngI z11_; have r_z26_ := rngI z26_; subst e8_; subst e12_; subst e27_; omega
theorem lf_c_X7_letThingGo_4 (Mz : mM) (b : Nat) (v : Int32) (j9_ : Nat) (z7_ : Int32) (j13_ : Nat) (z11_ : Int32) (hb : b < 3) (h4_ : 0 ≤ v.toInt ∧ v.toInt ≤ 39) (h10_ : (j9_ : Int) = v.toInt) (e8_ : z7_ = Mz.1 (37, b, 0) j9_) (h14_ : (j13_ : Int) = v.toInt) (e12_ : z11_ = Mz.1 (38, b, 0) j13_) : 0 ≤ v.toInt ∧ v.toInt < ((40 : Nat) : Int) := by have r_v := rngI v; have r_z7_ := rngI z7_; have r_z11_ := rngI z11_; subst e8_; subst e12_; omega
theorem lf_c_X7_letThingGo_5 (Mz : mM) (b : Nat) (v : Int32) (j9_ : Nat) (z7_ : Int32) (j13_ : Nat) (z11_ : Int32) (j53_ : Nat) (z51_ : Int32) (hb : b < 3) (h4_ : 0 ≤ v.toInt ∧ v.toInt ≤ 39) (h10_ : (j9_ : Int) = v.toInt) (e8_ : z7_ = Mz.1 (37, b, 0) j9_) (h14_ : (j13_ : Int) = v.toInt) (e12_ : z11_ = Mz.1 (38, b, 0) j13_) (h54_ : (j53_ : Int) = v.toInt) (e52_ : z51_ = Mz.1 (38, b, 0) j53_) : 0 ≤ v.toInt ∧ v.toInt < ((40 : Nat) : Int) := by have r_v := rngI v; have r_z7_ := rngI z7_; have r_z11_ := rngI z11_; have r_z51_ := rngI z51_; subst e8_; subst e12_; subst e52_; omega
set_option maxHeartbeats 4000000 in
set_option maxRecDepth 100000 in
theorem c_X7_letThingGo (l : Launch) (G : va_G) (cy : Nat → ClassId) (ad : rf → Nat) (d : Nat) (b : Nat) (v : Int32) (Mz : mM) (hIz : Inv Mz) (hb : b < 3) : WP CC l G cy ad yX7_letThingGo cX7_letThingGo 3 none (d + 2) 0 [(0, vR (7, b, 0)), (1, vI v)] [] Mz (fun r M' => Inv M' ∧ FR (S_c_X7_letThingGo b) Mz M' ∧ (True) ∧ SP_X7_letThingGo b v Mz M') := by
  have hFz : FR (S_c_X7_letThingGo b) Mz Mz := FR.self
  refine w_aload_n dX7_letThingGo_0 rfl 0 rfl ?_
  refine w_iload_n dX7_letThingGo_1 rfl 1 rfl ?_
  refine w_callV (as := [vI v]) (rest := []) (c_X7_hasThing l G cy ad (d + 1) b v Mz hIz hb) kV_X7_hasThing (by decide +kernel) (Nat.le_of_ble_eq_true rfl) m_534 rfl rfl rfl (ic_7 hb) rfl rfl (by decide) (Nat.le_of_ble_eq_true rfl) dX7_letThingGo_2 (fun r1_ M2_ q3_ => ?_)
  obtain ⟨rfl, h4_, hs5_⟩ := q3_
  rcases h4_ with ⟨rfl, h4_⟩ | rfl
  · refine w_if_ne (tgt := 9) dX7_letThingGo_5 (by decide) li_1 (fun h6_ => ?_) (fun h9 => (absurd h9 (by decide)))
    refine w_aload_n dX7_letThingGo_9 rfl 0 rfl ?_
    refine w_getR (c' := (37, b, 0)) fl_RX7_16 rfl rfl (ic_7 hb) dX7_letThingGo_10 rfl ?_
    refine w_iload_n dX7_letThingGo_13 rfl 1 rfl ?_
    refine w_iald rfl rfl (ic_37 hb) (rfl : v.toInt = v.toInt) (lf_c_X7_letThingGo_0 v h4_) dX7_letThingGo_14 (fun j9_ h10_ z7_ e8_ => ?_)
    refine w_aload_n dX7_letThingGo_15 rfl 0 rfl ?_
    refine w_getR (c' := (38, b, 0)) fl_RX7_19 rfl rfl (ic_7 hb) dX7_letThingGo_16 rfl ?_
    refine w_iload_n dX7_letThingGo_19 rfl 1 rfl ?_
    refine w_iald rfl rfl (ic_38 hb) (rfl : v.toInt = v.toInt) (lf_c_X7_letThingGo_1 Mz b v j9_ z7_ hb h4_ h10_ e8_) dX7_letThingGo_20 (fun j13_ h14_ z11_ e12_ => ?_)
    refine w_iconst (v := 1) dX7_letThingGo_21 (by decide) ?_
    refine w_callS (as := [vI z7_, vI z11_, vI 1]) (rest := []) (c_X7_cellFrom l G cy ad d z7_ z11_ 1 Mz hIz) kS_X7_cellFrom (by decide +kernel) (Nat.le_of_ble_eq_true rfl) m_1037 rfl rfl (by decide) (Nat.le_of_ble_eq_true rfl) dX7_letThingGo_22 (fun r15_ M16_ q17_ => ?_)
    obtain ⟨rfl, h18_, hs19_⟩ := q17_
    refine w_istore_n (ls' := [(2, vI r15_), (0, vR (7, b, 0)), (1, vI v)]) dX7_letThingGo_25 rfl (by decide) rfl ?_
    refine w_aload_n dX7_letThingGo_26 rfl 1 rfl ?_
    refine w_iload_n dX7_letThingGo_27 rfl 0 rfl ?_
    refine w_callV (as := [vI r15_]) (rest := []) (c_X7_isFree l G cy ad d b r15_ Mz hIz hb) kV_X7_isFree (by decide +kernel) (Nat.le_of_ble_eq_true rfl) m_1038 rfl rfl rfl (ic_7 hb) rfl rfl (by decide) (Nat.le_of_ble_eq_true rfl) dX7_letThingGo_28 (fun r20_ M21_ q22_ => ?_)
    obtain ⟨rfl, h23_, hs24_⟩ := q22_
    rcases h23_ with ⟨rfl, h23_⟩ | rfl
    · refine w_if_eq (tgt := 61) dX7_letThingGo_31 (by decide) li_1 (fun h9 => (absurd h9 (by decide))) (fun h25_ => ?_)
      refine w_aload_n dX7_letThingGo_34 rfl 1 rfl ?_
      refine w_aload_n dX7_letThingGo_35 rfl 1 rfl ?_
      refine w_getR (c' := (37, b, 0)) fl_RX7_16 rfl rfl (ic_7 hb) dX7_letThingGo_36 rfl ?_
      refine w_iload_n dX7_letThingGo_39 rfl 2 rfl ?_
      refine w_iald rfl rfl (ic_37 hb) (rfl : v.toInt = v.toInt) (lf_c_X7_letThingGo_2 Mz b v j9_ z7_ j13_ z11_ hb h4_ h10_ e8_ h14_ e12_) dX7_letThingGo_40 (fun j28_ h29_ z26_ e27_ => ?_)
      refine w_iconst (v := (-1)) dX7_letThingGo_41 (by decide) ?_
      refine w_callVv (as := [vI z26_, vI (-1)]) (rest := []) (c_X7_settle l G cy ad d b z26_ (-1) Mz hIz hb) kV_X7_settle (by decide +kernel) (Nat.le_of_ble_eq_true rfl) m_518 rfl rfl rfl (ic_7 hb) rfl rfl (by decide) (Nat.le_of_ble_eq_true rfl) dX7_letThingGo_42 (fun M30_ q31_ => ?_)
      obtain ⟨hI33_, hF34_, h32_, hs36_⟩ := q31_
      have hF35_ := hFz.tr hF34_ (fun c k => (fun h => h.elim (fun h => (Or.inl ⟨h.1, h.2⟩)) (fun h => h.elim)))
      refine w_aload_n dX7_letThingGo_45 rfl 1 rfl ?_
      refine w_iload_n dX7_letThingGo_46 rfl 0 rfl ?_
      refine w_iload_n dX7_letThingGo_47 rfl 2 rfl ?_
      refine w_callVv (as := [vI r15_, vI v]) (rest := []) (c_X7_settle l G cy ad d b r15_ v M30_ hI33_ hb) kV_X7_settle (by decide +kernel) (Nat.le_of_ble_eq_true rfl) m_518 rfl rfl rfl (ic_7 hb) rfl rfl (by decide) (Nat.le_of_ble_eq_true rfl) dX7_letThingGo_48 (fun M37_ q38_ => ?_)
      obtain ⟨hI40_, hF41_, h39_, hs43_⟩ := q38_
      have hF42_ := hF35_.tr hF41_ (fun c k => (fun h => h.elim (fun h => (Or.inl ⟨h.1, h.2⟩)) (fun h => h.elim)))
      refine w_aload_n dX7_letThingGo_51 rfl 1 rfl ?_
      refine w_getR (c' := (37, b, 0)) fl_RX7_16 rfl rfl (ic_7 hb) dX7_letThingGo_52 rfl ?_
      refine w_iload_n dX7_letThingGo_55 rfl 2 rfl ?_
      refine w_iload_n dX7_letThingGo_56 rfl 0 rfl ?_
      refine w_iast CC_nd rfl rfl (ic_37 hb) (rfl : v.toInt = v.toInt) (lf_c_X7_letThingGo_3 Mz b v j9_ z7_ j13_ z11_ j28_ z26_ hb h4_ h10_ e8_ h14_ e12_ h29_ e27_) dX7_letThingGo_57 (fun j46_ h47_ M44_ hM45_ => ?_)
      have hI48_ := hI40_.put hM45_ trivial
      have hF49_ := hF42_.put hM45_ (Or.inr (Or.inl ⟨rfl, rfl⟩))
      refine w_goto (tgt := 78) dX7_letThingGo_58 (by decide) ?_
      exact w_vret rfl dX7_letThingGo_78 ⟨hI48_, hF49_, trivial, (Or.inl ⟨hs5_, h4_, j9_, h10_, z7_, e8_, j13_, h14_, z11_, e12_, r15_, hs19_, h18_, (Or.inl ⟨hs24_, h23_, j28_, h29_, z26_, e27_, M30_, hI33_, hF34_, hs36_, M37_, hI40_, hF41_, hs43_, j46_, h47_, M44_, hM45_, rfl⟩)⟩)⟩
    · refine w_if_eq (tgt := 61) dX7_letThingGo_31 (by decide) li_0 (fun h50_ => ?_) (fun h9 => (absurd h9 (by decide)))
      refine w_aload_n dX7_letThingGo_61 rfl 1 rfl ?_
      refine w_getR (c' := (38, b, 0)) fl_RX7_19 rfl rfl (ic_7 hb) dX7_letThingGo_62 rfl ?_
      refine w_iload_n dX7_letThingGo_65 rfl 2 rfl ?_
      refine w_aload_n dX7_letThingGo_66 rfl 1 rfl ?_
      refine w_getR (c' := (38, b, 0)) fl_RX7_19 rfl rfl (ic_7 hb) dX7_letThingGo_67 rfl ?_
      refine w_iload_n dX7_letThingGo_70 rfl 2 rfl ?_
      refine w_iald rfl rfl (ic_38 hb) (rfl : v.toInt = v.toInt) (lf_c_X7_letThingGo_4 Mz b v j9_ z7_ j13_ z11_ hb h4_ h10_ e8_ h14_ e12_) dX7_letThingGo_71 (fun j53_ h54_ z51_ e52_ => ?_)
      refine w_iconst (v := 4) dX7_letThingGo_72 (by decide) ?_
      refine w_iadd dX7_letThingGo_73 (fun z55_ h56_ => ?_)
      refine w_bipush (v := 7) dX7_letThingGo_74 (by decide) ?_
      refine w_iand dX7_letThingGo_76 (fun z57_ h59_ => ?_)
      have h58_ : 0 ≤ z57_.toInt ∧ z57_.toInt < ((2 ^ 3 : Nat) : Int) := by rw [h59_]; exact andI _ 3 (by decide) (by decide)
      refine w_iast CC_nd rfl rfl (ic_38 hb) (rfl : v.toInt = v.toInt) (lf_c_X7_letThingGo_5 Mz b v j9_ z7_ j13_ z11_ j53_ z51_ hb h4_ h10_ e8_ h14_ e12_ h54_ e52_) dX7_letThingGo_77 (fun j62_ h63_ M60_ hM61_ => ?_)
      have hI64_ := hIz.put hM61_ trivial
      have hF65_ := hFz.put hM61_ (Or.inr (Or.inr (Or.inl ⟨rfl, rfl⟩)))
      exact w_vret rfl dX7_letThingGo_78 ⟨hI64_, hF65_, trivial, (Or.inl ⟨hs5_, h4_, j9_, h10_, z7_, e8_, j13_, h14_, z11_, e12_, r15_, hs19_, h18_, (Or.inr ⟨hs24_, j53_, h54_, z51_, e52_, z55_, h56_, z57_, h59_, h58_, j62_, h63_, M60_, hM61_, rfl⟩)⟩)⟩
  · refine w_if_ne (tgt := 9) dX7_letThingGo_5 (by decide) li_0 (fun h9 => (absurd h9 (by decide))) (fun h66_ => ?_)
    exact w_vret rfl dX7_letThingGo_8 ⟨hIz, hFz, trivial, (Or.inr ⟨hs5_, rfl⟩)⟩
def S_c_X7_letThingsGo (b : Nat) : rf → Nat → Prop := fun c k => (c.1 = 35 ∧ c.2.1 = b) ∨ (c.1 = 37 ∧ c.2.1 = b) ∨ (c.1 = 38 ∧ c.2.1 = b) ∨ False
def ST_X7_letThingsGo_2 (b : Nat) (v : Int32) (Mz : mM) (v2_2 : Int32) (M_2 : mM) (v2_2y : Int32) (M_2y : mM) : Prop := (0 ≤ v2_2.toInt) ∧ (Inv M_2) ∧ (FR (S_c_X7_letThingsGo b) Mz M_2) ∧ ∃ z2_ : Int32, (z2_ = M_2.1 (7, b, 0) 5) ∧ (v2_2.toInt < z2_.toInt) ∧ (v2_2.toInt < 40) ∧ ∃ j8_ : Nat, ((j8_ : Int) = v2_2.toInt) ∧ ∃ z6_ : Int32, (z6_ = M_2.1 (39, b, 0) j8_) ∧ ∃ j12_ : Nat, ((j12_ : Int) = v2_2.toInt) ∧ ∃ z10_ : Int32, (z10_ = M_2.1 (37, b, 0) j12_) ∧ (((z10_.toInt < 0) ∧ ∃ z15_ : Int32, (z15_.toInt = v2_2.toInt + 1) ∧ v2_2y = z15_ ∧ M_2y = M_2) ∨ ((0 ≤ z10_.toInt) ∧ (((z6_.toInt ≤ 0) ∧ ∃ z18_ : Int32, (z18_.toInt = v2_2.toInt + 1) ∧ v2_2y = z18_ ∧ M_2y = M_2) ∨ ((0 < z6_.toInt) ∧ ∃ z20_ : Int32, (z20_ = v - v / z6_ * z6_) ∧ (((¬ z20_.toInt = 0) ∧ ∃ z23_ : Int32, (z23_.toInt = v2_2.toInt + 1) ∧ v2_2y = z23_ ∧ M_2y = M_2) ∨ ((z20_.toInt = 0) ∧ ∃ M25_ : mM, (Inv M25_) ∧ (FR (S_c_X7_letThingGo b) M_2 M25_) ∧ (SP_X7_letThingGo b v2_2 M_2 M25_) ∧ ∃ z32_ : Int32, (z32_.toInt = v2_2.toInt + 1) ∧ v2_2y = z32_ ∧ M_2y = M25_))))))
def SP_X7_letThingsGo (b : Nat) (v : Int32) (Mz : mM) (M_ : mM) : Prop := ∃ v2_2 : Int32, (0 ≤ v2_2.toInt) ∧ ∃ M_2 : mM, (RCH (fun x_ y_ => ST_X7_letThingsGo_2 b v Mz x_.1 x_.2 y_.1 y_.2) ((0 : Int32), Mz) (v2_2, M_2)) ∧ (Inv M_2) ∧ (FR (S_c_X7_letThingsGo b) Mz M_2) ∧ ∃ z2_ : Int32, (z2_ = M_2.1 (7, b, 0) 5) ∧ (((z2_.toInt ≤ v2_2.toInt) ∧ M_ = M_2) ∨ ((v2_2.toInt < z2_.toInt) ∧ (40 ≤ v2_2.toInt) ∧ M_ = M_2))
theorem lf_c_X7_letThingsGo_0 (M_2 : mM) (b : Nat) (v2_2 : Int32) (z2_ : Int32) (hb : b < 3) (hv0_2 : 0 ≤ v2_2.toInt) (e3_ : z2_ = M_2.1 (7, b, 0) 5) (h4_ : v2_2.toInt < z2_.toInt) (h5_ : v2_2.toInt < 40) : 0 ≤ v2_2.toInt ∧ v2_2.toInt < ((40 : Nat) : Int) := by have r_v2_2 := rngI v2_2; have r_z2_ := rngI z2_; subst e3_; omega
theorem lf_c_X7_letThingsGo_1 (M_2 : mM) (b : Nat) (v2_2 : Int32) (z2_ : Int32) (j8_ : Nat) (z6_ : Int32) (hb : b < 3) (hv0_2 : 0 ≤ v2_2.toInt) (e3_ : z2_ = M_2.1 (7, b, 0) 5) (h4_ : v2_2.toInt < z2_.toInt) (h5_ : v2_2.toInt < 40) (h9_ : (j8_ : Int) = v2_2.toInt) (e7_ : z6_ = M_2.1 (39, b, 0) j8_) : 0 ≤ v2_2.toInt ∧ v2_2.toInt < ((40 : Nat) : Int) := by have r_v2_2 := rngI v2_2; have r_z2_ := rngI z2_; have r_z6_ := rngI z6_; subst e3_; subst e7_; omega
theorem lf_c_X7_letThingsGo_2 (M_2 : mM) (b : Nat) (v2_2 : Int32) (z2_ : Int32) (j8_ : Nat) (z6_ : Int32) (j12_ : Nat) (z10_ : Int32) (hb : b < 3) (hv0_2 : 0 ≤ v2_2.toInt) (e3_ : z2_ = M_2.1 (7, b, 0) 5) (h4_ : v2_2.toInt < z2_.toInt) (h5_ : v2_2.toInt < 40) (h9_ : (j8_ : Int) = v2_2.toInt) (e7_ : z6_ = M_2.1 (39, b, 0) j8_) (h13_ : (j12_ : Int) = v2_2.toInt) (e11_ : z10_ = M_2.1 (37, b, 0) j12_) (h14_ : z10_.toInt < 0) : -2147483648 ≤ v2_2.toInt + 1 ∧ v2_2.toInt + 1 < 2147483648 := by have r_v2_2 := rngI v2_2; have r_z2_ := rngI z2_; have r_z6_ := rngI z6_; have r_z10_ := rngI z10_; subst e3_; subst e7_; subst e11_; omega
theorem lf_c_X7_letThingsGo_3 (M_2 : mM) (b : Nat) (v2_2 : Int32) (z2_ : Int32) (j8_ : Nat) (z6_ : Int32) (j12_ : Nat) (z10_ : Int32) (z15_ : Int32) (hb : b < 3) (hv0_2 : 0 ≤ v2_2.toInt) (e3_ : z2_ = M_2.1 (7, b, 0) 5) (h4_ : v2_2.toInt < z2_.toInt) (h5_ : v2_2.toInt < 40) (h9_ : (j8_ : Int) = v2_2.toInt) (e7_ : z6_ = M_2.1 (39, b, 0) j8_) (h13_ : (j12_ : Int) = v2_2.toInt) (e11_ : z10_ = M_2.1 (37, b, 0) j12_) (h14_ : z10_.toInt < 0) (h16_ : z15_.toInt = v2_2.toInt + 1) : 0 ≤ z15_.toInt := by have r_v2_2 := rngI v2_2; have r_z2_ := rngI z2_; have r_z6_ := rngI z6_; have r_z10_ := rngI z10_; have r_z15_ := rngI z15_; omega
theorem lf_c_X7_letThingsGo_4 (M_2 : mM) (b : Nat) (v2_2 : Int32) (z2_ : Int32) (j8_ : Nat) (z6_ : Int32) (j12_ : Nat) (z10_ : Int32) (z15_ : Int32) (hb : b < 3) (hv0_2 : 0 ≤ v2_2.toInt) (e3_ : z2_ = M_2.1 (7, b, 0) 5) (h4_ : v2_2.toInt < z2_.toInt) (h5_ : v2_2.toInt < 40) (h9_ : (j8_ : Int) = v2_2.toInt) (e7_ : z6_ = M_2.1 (39, b, 0) j8_) (h13_ : (j12_ : Int) = v2_2.toInt) (e11_ : z10_ = M_2.1 (37, b, 0) j12_) (h14_ : z10_.toInt < 0) (h16_ : z15_.toInt = v2_2.toInt + 1) : (2147483648 - z15_.toInt).toNat < (2147483648 - v2_2.toInt).toNat := by have r_v2_2 := rngI v2_2; have r_z2_ := rngI z2_; have r_z6_ := rngI z6_; have r_z10_ := rngI z10_; have r_z15_ := rngI z15_; omega
theorem lf_c_X7_letThingsGo_5 (M_2 : mM) (b : Nat) (v2_2 : Int32) (z2_ : Int32) (j8_ : Nat) (z6_ : Int32) (j12_ : Nat) (z10_ : Int32) (hb : b < 3) (hv0_2 : 0 ≤ v2_2.toInt) (e3_ : z2_ = M_2.1 (7, b, 0) 5) (h4_ : v2_2.toInt < z2_.toInt) (h5_ : v2_2.toInt < 40) (h9_ : (j8_ : Int) = v2_2.toInt) (e7_ : z6_ = M_2.1 (39, b, 0) j8_) (h13_ : (j12_ : Int) = v2_2.toInt) (e11_ : z10_ = M_2.1 (37, b, 0) j12_) (h14_ : 0 ≤ z10_.toInt) (h17_ : z6_.toInt ≤ 0) : -2147483648 ≤ v2_2.toInt + 1 ∧ v2_2.toInt + 1 < 2147483648 := by have r_v2_2 := rngI v2_2; have r_z2_ := rngI z2_; have r_z6_ := rngI z6_; have r_z10_ := rngI z10_; subst e3_; subst e7_; subst e11_; omega
theorem lf_c_X7_letThingsGo_6 (M_2 : mM) (b : Nat) (v2_2 : Int32) (z2_ : Int32) (j8_ : Nat) (z6_ : Int32) (j12_ : Nat) (z10_ : Int32) (z18_ : Int32) (hb : b < 3) (hv0_2 : 0 ≤ v2_2.toInt) (e3_ : z2_ = M_2.1 (7, b, 0) 5) (h4_ : v2_2.toInt < z2_.toInt) (h5_ : v2_2.toInt < 40) (h9_ : (j8_ : Int) = v2_2.toInt) (e7_ : z6_ = M_2.1 (39, b, 0) j8_) (h13_ : (j12_ : Int) = v2_2.toInt) (e11_ : z10_ = M_2.1 (37, b, 0) j12_) (h14_ : 0 ≤ z10_.toInt) (h17_ : z6_.toInt ≤ 0) (h19_ : z18_.toInt = v2_2.toInt + 1) : 0 ≤ z18_.toInt := by have r_v2_2 := rngI v2_2; have r_z2_ := rngI z2_; have r_z6_ := rngI z6_; have r_z10_ := rngI z10_; have r_z18_ := rngI z18_; omega
theorem lf_c_X7_letThingsGo_7 (M_2 : mM) (b : Nat) (v2_2 : Int32) (z2_ : Int32) (j8_ : Nat) (z6_ : Int32) (j12_ : Nat) (z10_ : Int32) (z18_ : Int32) (hb : b < 3) (hv0_2 : 0 ≤ v2_2.toInt) (e3_ : z2_ = M_2.1 (7, b, 0) 5) (h4_ : v2_2.toInt < z2_.toInt) (h5_ : v2_2.toInt < 40) (h9_ : (j8_ : Int) = v2_2.toInt) (e7_ : z6_ = M_2.1 (39, b, 0) j8_) (h13_ : (j12_ : Int) = v2_2.toInt) (e11_ : z10_ = M_2.1 (37, b, 0) j12_) (h14_ : 0 ≤ z10_.toInt) (h17_ : z6_.toInt ≤ 0) (h19_ : z18_.toInt = v2_2.toInt + 1) : (2147483648 - z18_.toInt).toNat < (2147483648 - v2_2.toInt).toNat := by have r_v2_2 := rngI v2_2; have r_z2_ := rngI z2_; have r_z6_ := rngI z6_; have r_z10_ := rngI z10_; have r_z18_ := rngI z18_; omega
theorem lf_c_X7_letThingsGo_8 (M_2 : mM) (b : Nat) (v2_2 : Int32) (z2_ : Int32) (j8_ : Nat) (z6_ : Int32) (j12_ : Nat) (z10_ : Int32) (hb : b < 3) (hv0_2 : 0 ≤ v2_2.toInt) (e3_ : z2_ = M_2.1 (7, b, 0) 5) (h4_ : v2_2.toInt < z2_.toInt) (h5_ : v2_2.toInt < 40) (h9_ : (j8_ : Int) = v2_2.toInt) (e7_ : z6_ = M_2.1 (39, b, 0) j8_) (h13_ : (j12_ : Int) = v2_2.toInt) (e11_ : z10_ = M_2.1 (37, b, 0) j12_) (h14_ : 0 ≤ z10_.toInt) (h17_ : 0 < z6_.toInt) : ¬ z6_ = 0 := by have r_v2_2 := rngI v2_2; have r_z2_ := rngI z2_; have r_z6_ := rngI z6_; have r_z10_ := rngI z10_; intro h9; subst h9; simp at *; try omega
theorem lf_c_X7_letThingsGo_9 (M_2 : mM) (b : Nat) (v2_2 : Int32) (z2_ : Int32) (j8_ : Nat) (z6_ : Int32) (j12_ : Nat) (z10_ : Int32) (hb : b < 3) (hv0_2 : 0 ≤ v2_2.toInt) (e3_ : z2_ = M_2.1 (7, b, 0) 5) (h4_ : v2_2.toInt < z2_.toInt) (h5_ : v2_2.toInt < 40) (h9_ : (j8_ : Int) = v2_2.toInt) (e7_ : z6_ = M_2.1 (39, b, 0) j8_) (h13_ : (j12_ : Int) = v2_2.toInt) (e11_ : z10_ = M_2.1 (37, b, 0) j12_) (h14_ : 0 ≤ z10_.toInt) (h17_ : 0 < z6_.toInt) : -2147483648 ≤ v2_2.toInt + 1 ∧ v2_2.toInt + 1 < 2147483648 := by have r_v2_2 := rngI v2_2; have r_z2_ := rngI z2_; have r_z6_ := rngI z6_; have r_z10_ := rngI z10_; subst e3_; subst e7_; subst e11_; omega
theorem lf_c_X7_letThingsGo_10 (M_2 : mM) (b : Nat) (v2_2 : Int32) (z2_ : Int32) (j8_ : Nat) (z6_ : Int32) (j12_ : Nat) (z10_ : Int32) (z23_ : Int32) (hb : b < 3) (hv0_2 : 0 ≤ v2_2.toInt) (e3_ : z2_ = M_2.1 (7, b, 0) 5) (h4_ : v2_2.toInt < z2_.toInt) (h5_ : v2_2.toInt < 40) (h9_ : (j8_ : Int) = v2_2.toInt) (e7_ : z6_ = M_2.1 (39, b, 0) j8_) (h13_ : (j12_ : Int) = v2_2.toInt) (e11_ : z10_ = M_2.1 (37, b, 0) j12_) (h14_ : 0 ≤ z10_.toInt) (h17_ : 0 < z6_.toInt) (h24_ : z23_.toInt = v2_2.toInt + 1) : 0 ≤ z23_.toInt := by have r_v2_2 := rngI v2_2; have r_z2_ := rngI z2_; have r_z6_ := rngI z6_; have r_z10_ := rngI z10_; have r_z23_ := rngI z23_; omega
theorem lf_c_X7_letThingsGo_11 (M_2 : mM) (b : Nat) (v2_2 : Int32) (z2_ : Int32) (j8_ : Nat) (z6_ : Int32) (j12_ : Nat) (z10_ : Int32) (z23_ : Int32) (hb : b < 3) (hv0_2 : 0 ≤ v2_2.toInt) (e3_ : z2_ = M_2.1 (7, b, 0) 5) (h4_ : v2_2.toInt < z2_.toInt) (h5_ : v2_2.toInt < 40) (h9_ : (j8_ : Int) = v2_2.toInt) (e7_ : z6_ = M_2.1 (39, b, 0) j8_) (h13_ : (j12_ : Int) = v2_2.toInt) (e11_ : z10_ = M_2.1 (37, b, 0) j12_) (h14_ : 0 ≤ z10_.toInt) (h17_ : 0 < z6_.toInt) (h24_ : z23_.toInt = v2_2.toInt + 1) : (2147483648 - z23_.toInt).toNat < (2147483648 - v2_2.toInt).toNat := by have r_v2_2 := rngI v2_2; have r_z2_ := rngI z2_; have r_z6_ := rngI z6_; have r_z10_ := rngI z10_; have r_z23_ := rngI z23_; omega
theorem lf_c_X7_letThingsGo_12 (M_2 : mM) (b : Nat) (v2_2 : Int32) (z2_ : Int32) (j8_ : Nat) (z6_ : Int32) (j12_ : Nat) (z10_ : Int32) (hb : b < 3) (hv0_2 : 0 ≤ v2_2.toInt) (e3_ : z2_ = M_2.1 (7, b, 0) 5) (h4_ : v2_2.toInt < z2_.toInt) (h5_ : v2_2.toInt < 40) (h9_ : (j8_ : Int) = v2_2.toInt) (e7_ : z6_ = M_2.1 (39, b, 0) j8_) (h13_ : (j12_ : Int) = v2_2.toInt) (e11_ : z10_ = M_2.1 (37, b, 0) j12_) (h14_ : 0 ≤ z10_.toInt) (h17_ : 0 < z6_.toInt) : -2147483648 ≤ v2_2.toInt + 1 ∧ v2_2.toInt + 1 < 2147483648 := by have r_v2_2 := rngI v2_2; have r_z2_ := rngI z2_; have r_z6_ := rngI z6_; have r_z10_ := rngI z10_; subst e3_; subst e7_; subst e11_; omega
theorem lf_c_X7_letThingsGo_13 (M_2 : mM) (b : Nat) (v2_2 : Int32) (z2_ : Int32) (j8_ : Nat) (z6_ : Int32) (j12_ : Nat) (z10_ : Int32) (z32_ : Int32) (hb : b < 3) (hv0_2 : 0 ≤ v2_2.toInt) (e3_ : z2_ = M_2.1 (7, b, 0) 5) (h4_ : v2_2.toInt < z2_.toInt) (h5_ : v2_2.toInt < 40) (h9_ : (j8_ : Int) = v2_2.toInt) (e7_ : z6_ = M_2.1 (39, b, 0) j8_) (h13_ : (j12_ : Int) = v2_2.toInt) (e11_ : z10_ = M_2.1 (37, b, 0) j12_) (h14_ : 0 ≤ z10_.toInt) (h17_ : 0 < z6_.toInt) (h33_ : z32_.toInt = v2_2.toInt + 1) : 0 ≤ z32_.toInt := by have r_v2_2 := rngI v2_2; have r_z2_ := rngI z2_; have r_z6_ := rngI z6_; have r_z10_ := rngI z10_; have r_z32_ := rngI z32_; omega
theorem lf_c_X7_letThingsGo_14 (M_2 : mM) (b : Nat) (v2_2 : Int32) (z2_ : Int32) (j8_ : Nat) (z6_ : Int32) (j12_ : Nat) (z10_ : Int32) (z32_ : Int32) (hb : b < 3) (hv0_2 : 0 ≤ v2_2.toInt) (e3_ : z2_ = M_2.1 (7, b, 0) 5) (h4_ : v2_2.toInt < z2_.toInt) (h5_ : v2_2.toInt < 40) (h9_ : (j8_ : Int) = v2_2.toInt) (e7_ : z6_ = M_2.1 (39, b, 0) j8_) (h13_ : (j12_ : Int) = v2_2.toInt) (e11_ : z10_ = M_2.1 (37, b, 0) j12_) (h14_ : 0 ≤ z10_.toInt) (h17_ : 0 < z6_.toInt) (h33_ : z32_.toInt = v2_2.toInt + 1) : (2147483648 - z32_.toInt).toNat < (2147483648 - v2_2.toInt).toNat := by have r_v2_2 := rngI v2_2; have r_z2_ := rngI z2_; have r_z6_ := rngI z6_; have r_z10_ := rngI z10_; have r_z32_ := rngI z32_; omega
theorem lf_c_X7_letThingsGo_15    : 0 ≤ (0 : Int32).toInt := by have q0 := li_0; omega
set_option maxHeartbeats 4000000 in
set_option maxRecDepth 100000 in
theorem c_X7_letThingsGo (l : Launch) (G : va_G) (cy : Nat → ClassId) (ad : rf → Nat) (d : Nat) (b : Nat) (v : Int32) (Mz : mM) (hIz : Inv Mz) (hb : b < 3) : WP CC l G cy ad yX7_letThingsGo cX7_letThingsGo 4 none (d + 3) 0 [(0, vR (7, b, 0)), (1, vI v)] [] Mz (fun r M' => Inv M' ∧ FR (S_c_X7_letThingsGo b) Mz M' ∧ (True) ∧ SP_X7_letThingsGo b v Mz M') := by
  have hFz : FR (S_c_X7_letThingsGo b) Mz Mz := FR.self
  refine w_iconst (v := 0) dX7_letThingsGo_0 (by decide) ?_
  refine w_istore_n (ls' := [(2, vI 0), (0, vR (7, b, 0)), (1, vI v)]) dX7_letThingsGo_1 rfl (by decide) rfl ?_
  have lp1_ : ∀ (nn_2 : Nat) (M_2 : mM) (hI_2 : Inv M_2) (hF_2 : FR (S_c_X7_letThingsGo b) Mz M_2) (v2_2 : Int32) (hv0_2 : 0 ≤ v2_2.toInt) (hL_2 : RCH (fun x_ y_ => ST_X7_letThingsGo_2 b v Mz x_.1 x_.2 y_.1 y_.2) ((0 : Int32), Mz) (v2_2, M_2)), (2147483648 - v2_2.toInt).toNat < nn_2 → WP CC l G cy ad yX7_letThingsGo cX7_letThingsGo 4 none (d + 3) 2 [(2, vI v2_2), (0, vR (7, b, 0)), (1, vI v)] [] M_2 (fun r M' => Inv M' ∧ FR (S_c_X7_letThingsGo b) Mz M' ∧ (True) ∧ SP_X7_letThingsGo b v Mz M') := by
    intro nn_2
    induction nn_2 with
    | zero => intro M_2 hI_2 hF_2 v2_2 hv0_2 hL_2 hm_2; exact absurd hm_2 (Nat.not_lt_zero _)
    | succ nn_2 ih_2 =>
      intro M_2 hI_2 hF_2 v2_2 hv0_2 hL_2 hm_2
      refine w_iload_n dX7_letThingsGo_2 rfl 0 rfl ?_
      refine w_aload_n dX7_letThingsGo_3 rfl 1 rfl ?_
      refine w_getI fl_RX7_25 rfl rfl (ic_7 hb) dX7_letThingsGo_4 (fun z2_ e3_ => ?_)
      refine w_icmp_ge (tgt := 53) dX7_letThingsGo_7 (by decide) (rfl : v2_2.toInt = v2_2.toInt) (rfl : z2_.toInt = z2_.toInt) (fun h4_ => ?_) (fun h4_ => ?_)
      · exact w_vret rfl dX7_letThingsGo_53 ⟨hI_2, hF_2, trivial, ⟨v2_2, hv0_2, M_2, hL_2, hI_2, hF_2, z2_, e3_, (Or.inl ⟨h4_, rfl⟩)⟩⟩
      · refine w_iload_n dX7_letThingsGo_10 rfl 0 rfl ?_
        refine w_bipush (v := 40) dX7_letThingsGo_11 (by decide) ?_
        refine w_icmp_ge (tgt := 53) dX7_letThingsGo_13 (by decide) (rfl : v2_2.toInt = v2_2.toInt) li_40 (fun h5_ => ?_) (fun h5_ => ?_)
        · exact w_vret rfl dX7_letThingsGo_53 ⟨hI_2, hF_2, trivial, ⟨v2_2, hv0_2, M_2, hL_2, hI_2, hF_2, z2_, e3_, (Or.inr ⟨h4_, h5_, rfl⟩)⟩⟩
        · refine w_aload_n dX7_letThingsGo_16 rfl 1 rfl ?_
          refine w_getR (c' := (39, b, 0)) fl_RX7_22 rfl rfl (ic_7 hb) dX7_letThingsGo_17 rfl ?_
          refine w_iload_n dX7_letThingsGo_20 rfl 0 rfl ?_
          refine w_iald rfl rfl (ic_39 hb) (rfl : v2_2.toInt = v2_2.toInt) (lf_c_X7_letThingsGo_0 M_2 b v2_2 z2_ hb hv0_2 e3_ h4_ h5_) dX7_letThingsGo_21 (fun j8_ h9_ z6_ e7_ => ?_)
          refine w_istore_n (ls' := [(3, vI z6_), (2, vI v2_2), (0, vR (7, b, 0)), (1, vI v)]) dX7_letThingsGo_22 rfl (by decide) rfl ?_
          refine w_aload_n dX7_letThingsGo_23 rfl 2 rfl ?_
          refine w_getR (c' := (37, b, 0)) fl_RX7_16 rfl rfl (ic_7 hb) dX7_letThingsGo_24 rfl ?_
          refine w_iload_n dX7_letThingsGo_27 rfl 1 rfl ?_
          refine w_iald rfl rfl (ic_37 hb) (rfl : v2_2.toInt = v2_2.toInt) (lf_c_X7_letThingsGo_1 M_2 b v2_2 z2_ j8_ z6_ hb hv0_2 e3_ h4_ h5_ h9_ e7_) dX7_letThingsGo_28 (fun j12_ h13_ z10_ e11_ => ?_)
          refine w_if_lt (tgt := 47) dX7_letThingsGo_29 (by decide) (rfl : z10_.toInt = z10_.toInt) (fun h14_ => ?_) (fun h14_ => ?_)
          · refine w_iincB (j := 1) (f := fun z15_ => [(2, vI z15_), (3, vI z6_), (0, vR (7, b, 0)), (1, vI v)]) dX7_letThingsGo_47 rfl (by decide) (fun _ => rfl) (rfl : v2_2.toInt = v2_2.toInt) li_1 (lf_c_X7_letThingsGo_2 M_2 b v2_2 z2_ j8_ z6_ j12_ z10_ hb hv0_2 e3_ h4_ h5_ h9_ e7_ h13_ e11_ h14_) (fun z15_ h16_ => ?_)
            refine w_goto (tgt := 2) dX7_letThingsGo_50 (by decide) ?_
            refine w_loc (ls' := [(2, vI z15_), (0, vR (7, b, 0)), (1, vI v)]) [0, 2, 3] rfl ?_
            exact ih_2 M_2 hI_2 hF_2 z15_ (lf_c_X7_letThingsGo_3 M_2 b v2_2 z2_ j8_ z6_ j12_ z10_ z15_ hb hv0_2 e3_ h4_ h5_ h9_ e7_ h13_ e11_ h14_ h16_) (RCH.tail hL_2 ⟨hv0_2, hI_2, hF_2, z2_, e3_, h4_, h5_, j8_, h9_, z6_, e7_, j12_, h13_, z10_, e11_, (Or.inl ⟨h14_, z15_, h16_, rfl, rfl⟩)⟩) (Nat.lt_of_lt_of_le (lf_c_X7_letThingsGo_4 M_2 b v2_2 z2_ j8_ z6_ j12_ z10_ z15_ hb hv0_2 e3_ h4_ h5_ h9_ e7_ h13_ e11_ h14_ h16_) (Nat.le_of_lt_succ hm_2))
          · refine w_iload_n dX7_letThingsGo_32 rfl 0 rfl ?_
            refine w_if_le (tgt := 47) dX7_letThingsGo_33 (by decide) (rfl : z6_.toInt = z6_.toInt) (fun h17_ => ?_) (fun h17_ => ?_)
            · refine w_iincB (j := 1) (f := fun z18_ => [(2, vI z18_), (3, vI z6_), (0, vR (7, b, 0)), (1, vI v)]) dX7_letThingsGo_47 rfl (by decide) (fun _ => rfl) (rfl : v2_2.toInt = v2_2.toInt) li_1 (lf_c_X7_letThingsGo_5 M_2 b v2_2 z2_ j8_ z6_ j12_ z10_ hb hv0_2 e3_ h4_ h5_ h9_ e7_ h13_ e11_ h14_ h17_) (fun z18_ h19_ => ?_)
              refine w_goto (tgt := 2) dX7_letThingsGo_50 (by decide) ?_
              refine w_loc (ls' := [(2, vI z18_), (0, vR (7, b, 0)), (1, vI v)]) [0, 2, 3] rfl ?_
              exact ih_2 M_2 hI_2 hF_2 z18_ (lf_c_X7_letThingsGo_6 M_2 b v2_2 z2_ j8_ z6_ j12_ z10_ z18_ hb hv0_2 e3_ h4_ h5_ h9_ e7_ h13_ e11_ h14_ h17_ h19_) (RCH.tail hL_2 ⟨hv0_2, hI_2, hF_2, z2_, e3_, h4_, h5_, j8_, h9_, z6_, e7_, j12_, h13_, z10_, e11_, (Or.inr ⟨h14_, (Or.inl ⟨h17_, z18_, h19_, rfl, rfl⟩)⟩)⟩) (Nat.lt_of_lt_of_le (lf_c_X7_letThingsGo_7 M_2 b v2_2 z2_ j8_ z6_ j12_ z10_ z18_ hb hv0_2 e3_ h4_ h5_ h9_ e7_ h13_ e11_ h14_ h17_ h19_) (Nat.le_of_lt_succ hm_2))
            · refine w_iload_n dX7_letThingsGo_36 rfl 3 rfl ?_
              refine w_iload_n dX7_letThingsGo_37 rfl 0 rfl ?_
              refine w_irem dX7_letThingsGo_38 (lf_c_X7_letThingsGo_8 M_2 b v2_2 z2_ j8_ z6_ j12_ z10_ hb hv0_2 e3_ h4_ h5_ h9_ e7_ h13_ e11_ h14_ h17_) (fun z20_ h21_ => ?_)
              refine w_if_ne (tgt := 47) dX7_letThingsGo_39 (by decide) (rfl : z20_.toInt = z20_.toInt) (fun h22_ => ?_) (fun h22_ => ?_)
              · refine w_iincB (j := 1) (f := fun z23_ => [(2, vI z23_), (3, vI z6_), (0, vR (7, b, 0)), (1, vI v)]) dX7_letThingsGo_47 rfl (by decide) (fun _ => rfl) (rfl : v2_2.toInt = v2_2.toInt) li_1 (lf_c_X7_letThingsGo_9 M_2 b v2_2 z2_ j8_ z6_ j12_ z10_ hb hv0_2 e3_ h4_ h5_ h9_ e7_ h13_ e11_ h14_ h17_) (fun z23_ h24_ => ?_)
                refine w_goto (tgt := 2) dX7_letThingsGo_50 (by decide) ?_
                refine w_loc (ls' := [(2, vI z23_), (0, vR (7, b, 0)), (1, vI v)]) [0, 2, 3] rfl ?_
                exact ih_2 M_2 hI_2 hF_2 z23_ (lf_c_X7_letThingsGo_10 M_2 b v2_2 z2_ j8_ z6_ j12_ z10_ z23_ hb hv0_2 e3_ h4_ h5_ h9_ e7_ h13_ e11_ h14_ h17_ h24_) (RCH.tail hL_2 ⟨hv0_2, hI_2, hF_2, z2_, e3_, h4_, h5_, j8_, h9_, z6_, e7_, j12_, h13_, z10_, e11_, (Or.inr ⟨h14_, (Or.inr ⟨h17_, z20_, h21_, (Or.inl ⟨h22_, z23_, h24_, rfl, rfl⟩)⟩)⟩)⟩) (Nat.lt_of_lt_of_le (lf_c_X7_letThingsGo_11 M_2 b v2_2 z2_ j8_ z6_ j12_ z10_ z23_ hb hv0_2 e3_ h4_ h5_ h9_ e7_ h13_ e11_ h14_ h17_ h24_) (Nat.le_of_lt_succ hm_2))
              · refine w_aload_n dX7_letThingsGo_42 rfl 2 rfl ?_
                refine w_iload_n dX7_letThingsGo_43 rfl 1 rfl ?_
                refine w_callVv (as := [vI v2_2]) (rest := []) (c_X7_letThingGo l G cy ad d b v2_2 M_2 hI_2 hb) kV_X7_letThingGo (by decide +kernel) (Nat.le_of_ble_eq_true rfl) m_1033 rfl rfl rfl (ic_7 hb) rfl rfl (by decide) (Nat.le_of_ble_eq_true rfl) dX7_letThingsGo_44 (fun M25_ q26_ => ?_)
                obtain ⟨hI28_, hF29_, h27_, hs31_⟩ := q26_
                have hF30_ := hF_2.tr hF29_ (fun c k => (fun h => h.elim (fun h => (Or.inl ⟨h.1, h.2⟩)) (fun h => h.elim (fun h => (Or.inr (Or.inl ⟨h.1, h.2⟩))) (fun h => h.elim (fun h => (Or.inr (Or.inr (Or.inl ⟨h.1, h.2⟩)))) (fun h => h.elim)))))
                refine w_iincB (j := 1) (f := fun z32_ => [(2, vI z32_), (3, vI z6_), (0, vR (7, b, 0)), (1, vI v)]) dX7_letThingsGo_47 rfl (by decide) (fun _ => rfl) (rfl : v2_2.toInt = v2_2.toInt) li_1 (lf_c_X7_letThingsGo_12 M_2 b v2_2 z2_ j8_ z6_ j12_ z10_ hb hv0_2 e3_ h4_ h5_ h9_ e7_ h13_ e11_ h14_ h17_) (fun z32_ h33_ => ?_)
                refine w_goto (tgt := 2) dX7_letThingsGo_50 (by decide) ?_
                refine w_loc (ls' := [(2, vI z32_), (0, vR (7, b, 0)), (1, vI v)]) [0, 2, 3] rfl ?_
                exact ih_2 M25_ hI28_ hF30_ z32_ (lf_c_X7_letThingsGo_13 M_2 b v2_2 z2_ j8_ z6_ j12_ z10_ z32_ hb hv0_2 e3_ h4_ h5_ h9_ e7_ h13_ e11_ h14_ h17_ h33_) (RCH.tail hL_2 ⟨hv0_2, hI_2, hF_2, z2_, e3_, h4_, h5_, j8_, h9_, z6_, e7_, j12_, h13_, z10_, e11_, (Or.inr ⟨h14_, (Or.inr ⟨h17_, z20_, h21_, (Or.inr ⟨h22_, M25_, hI28_, hF29_, hs31_, z32_, h33_, rfl, rfl⟩)⟩)⟩)⟩) (Nat.lt_of_lt_of_le (lf_c_X7_letThingsGo_14 M_2 b v2_2 z2_ j8_ z6_ j12_ z10_ z32_ hb hv0_2 e3_ h4_ h5_ h9_ e7_ h13_ e11_ h14_ h17_ h33_) (Nat.le_of_lt_succ hm_2))
  exact lp1_ _ Mz hIz hFz 0 (lf_c_X7_letThingsGo_15 ) RCH.refl (Nat.lt_succ_self _)
def S_c_X7_takeFrom (b : Nat) (b2 : Nat) : rf → Nat → Prop := fun c k => (c.1 = 35 ∧ c.2.1 = b) ∨ (c.1 = 36 ∧ c.2.1 = b) ∨ (c.1 = 37 ∧ c.2.1 = b) ∨ (c.1 = 38 ∧ c.2.1 = b) ∨ (c.1 = 39 ∧ c.2.1 = b) ∨ (c.1 = 7 ∧ c.2.1 = b ∧ k = 5) ∨ False
def SP_X7_takeFrom (b : Nat) (b2 : Nat) (Mz : mM) (M_ : mM) : Prop := ∃ M1_ : mM, (M1_ = cp Mz (35, b2, 0) (35, b, 0) (0 : Int32).toNatClampNeg (0 : Int32).toNatClampNeg (192 : Int32).toNatClampNeg) ∧ ∃ M5_ : mM, (M5_ = cp M1_ (36, b2, 0) (36, b, 0) (0 : Int32).toNatClampNeg (0 : Int32).toNatClampNeg (40 : Int32).toNatClampNeg) ∧ ∃ M9_ : mM, (M9_ = cp M5_ (37, b2, 0) (37, b, 0) (0 : Int32).toNatClampNeg (0 : Int32).toNatClampNeg (40 : Int32).toNatClampNeg) ∧ ∃ M13_ : mM, (M13_ = cp M9_ (38, b2, 0) (38, b, 0) (0 : Int32).toNatClampNeg (0 : Int32).toNatClampNeg (40 : Int32).toNatClampNeg) ∧ ∃ M17_ : mM, (M17_ = cp M13_ (39, b2, 0) (39, b, 0) (0 : Int32).toNatClampNeg (0 : Int32).toNatClampNeg (40 : Int32).toNatClampNeg) ∧ ∃ z21_ : Int32, (z21_ = M17_.1 (7, b2, 0) 5) ∧ ∃ M23_ : mM, (M23_ = up M17_ (7, b, 0) 5 z21_) ∧ M_ = M23_
set_option maxHeartbeats 4000000 in
set_option maxRecDepth 100000 in
theorem c_X7_takeFrom (l : Launch) (G : va_G) (cy : Nat → ClassId) (ad : rf → Nat) (d : Nat) (b : Nat) (b2 : Nat) (Mz : mM) (hIz : Inv Mz) (hb : b < 3) (hb2 : b2 < 3) : WP CC l G cy ad yX7_takeFrom cX7_takeFrom 2 none (d + 1) 0 [(0, vR (7, b, 0)), (1, vR (7, b2, 0))] [] Mz (fun r M' => Inv M' ∧ FR (S_c_X7_takeFrom b b2) Mz M' ∧ (True) ∧ SP_X7_takeFrom b b2 Mz M') := by
  have hFz : FR (S_c_X7_takeFrom b b2) Mz Mz := FR.self
  refine w_aload_n dX7_takeFrom_0 rfl 1 rfl ?_
  refine w_getR (c' := (35, b2, 0)) fl_RX7_9 rfl rfl (ic_7 hb2) dX7_takeFrom_1 rfl ?_
  refine w_iconst (v := 0) dX7_takeFrom_4 (by decide) ?_
  refine w_aload_n dX7_takeFrom_5 rfl 0 rfl ?_
  refine w_getR (c' := (35, b, 0)) fl_RX7_9 rfl rfl (ic_7 hb) dX7_takeFrom_6 rfl ?_
  refine w_iconst (v := 0) dX7_takeFrom_9 (by decide) ?_
  refine w_sipush (v := 192) dX7_takeFrom_10 (by decide) ?_
  refine w_copy CC_nd rfl rfl (ic_35 hb2) rfl rfl (ic_35 hb) m_1262 m_830 m_829 m_98 li_0 li_0 li_192 (by decide) rfl (by omega) dX7_takeFrom_13 (fun M1_ hM2_ => ?_)
  have hI3_ := hIz.cpy hM2_ (fun _ _ => trivial)
  have hF4_ := hFz.cpy hM2_ (fun _ => (Or.inl ⟨rfl, rfl⟩))
  refine w_aload_n dX7_takeFrom_16 rfl 1 rfl ?_
  refine w_getR (c' := (36, b2, 0)) fl_RX7_13 rfl rfl (ic_7 hb2) dX7_takeFrom_17 rfl ?_
  refine w_iconst (v := 0) dX7_takeFrom_20 (by decide) ?_
  refine w_aload_n dX7_takeFrom_21 rfl 0 rfl ?_
  refine w_getR (c' := (36, b, 0)) fl_RX7_13 rfl rfl (ic_7 hb) dX7_takeFrom_22 rfl ?_
  refine w_iconst (v := 0) dX7_takeFrom_25 (by decide) ?_
  refine w_bipush (v := 40) dX7_takeFrom_26 (by decide) ?_
  refine w_copy CC_nd rfl rfl (ic_36 hb2) rfl rfl (ic_36 hb) m_1262 m_830 m_829 m_98 li_0 li_0 li_40 (by decide) rfl (by omega) dX7_takeFrom_28 (fun M5_ hM6_ => ?_)
  have hI7_ := hI3_.cpy hM6_ (fun _ _ => trivial)
  have hF8_ := hF4_.cpy hM6_ (fun _ => (Or.inr (Or.inl ⟨rfl, rfl⟩)))
  refine w_aload_n dX7_takeFrom_31 rfl 1 rfl ?_
  refine w_getR (c' := (37, b2, 0)) fl_RX7_16 rfl rfl (ic_7 hb2) dX7_takeFrom_32 rfl ?_
  refine w_iconst (v := 0) dX7_takeFrom_35 (by decide) ?_
  refine w_aload_n dX7_takeFrom_36 rfl 0 rfl ?_
  refine w_getR (c' := (37, b, 0)) fl_RX7_16 rfl rfl (ic_7 hb) dX7_takeFrom_37 rfl ?_
  refine w_iconst (v := 0) dX7_takeFrom_40 (by decide) ?_
  refine w_bipush (v := 40) dX7_takeFrom_41 (by decide) ?_
  refine w_copy CC_nd rfl rfl (ic_37 hb2) rfl rfl (ic_37 hb) m_1262 m_830 m_829 m_98 li_0 li_0 li_40 (by decide) rfl (by omega) dX7_takeFrom_43 (fun M9_ hM10_ => ?_)
  have hI11_ := hI7_.cpy hM10_ (fun _ _ => trivial)
  have hF12_ := hF8_.cpy hM10_ (fun _ => (Or.inr (Or.inr (Or.inl ⟨rfl, rfl⟩))))
  refine w_aload_n dX7_takeFrom_46 rfl 1 rfl ?_
  refine w_getR (c' := (38, b2, 0)) fl_RX7_19 rfl rfl (ic_7 hb2) dX7_takeFrom_47 rfl ?_
  refine w_iconst (v := 0) dX7_takeFrom_50 (by decide) ?_
  refine w_aload_n dX7_takeFrom_51 rfl 0 rfl ?_
  refine w_getR (c' := (38, b, 0)) fl_RX7_19 rfl rfl (ic_7 hb) dX7_takeFrom_52 rfl ?_
  refine w_iconst (v := 0) dX7_takeFrom_55 (by decide) ?_
  refine w_bipush (v := 40) dX7_takeFrom_56 (by decide) ?_
  refine w_copy CC_nd rfl rfl (ic_38 hb2) rfl rfl (ic_38 hb) m_1262 m_830 m_829 m_98 li_0 li_0 li_40 (by decide) rfl (by omega) dX7_takeFrom_58 (fun M13_ hM14_ => ?_)
  have hI15_ := hI11_.cpy hM14_ (fun _ _ => trivial)
  have hF16_ := hF12_.cpy hM14_ (fun _ => (Or.inr (Or.inr (Or.inr (Or.inl ⟨rfl, rfl⟩)))))
  refine w_aload_n dX7_takeFrom_61 rfl 1 rfl ?_
  refine w_getR (c' := (39, b2, 0)) fl_RX7_22 rfl rfl (ic_7 hb2) dX7_takeFrom_62 rfl ?_
  refine w_iconst (v := 0) dX7_takeFrom_65 (by decide) ?_
  refine w_aload_n dX7_takeFrom_66 rfl 0 rfl ?_
  refine w_getR (c' := (39, b, 0)) fl_RX7_22 rfl rfl (ic_7 hb) dX7_takeFrom_67 rfl ?_
  refine w_iconst (v := 0) dX7_takeFrom_70 (by decide) ?_
  refine w_bipush (v := 40) dX7_takeFrom_71 (by decide) ?_
  refine w_copy CC_nd rfl rfl (ic_39 hb2) rfl rfl (ic_39 hb) m_1262 m_830 m_829 m_98 li_0 li_0 li_40 (by decide) rfl (by omega) dX7_takeFrom_73 (fun M17_ hM18_ => ?_)
  have hI19_ := hI15_.cpy hM18_ (fun _ _ => trivial)
  have hF20_ := hF16_.cpy hM18_ (fun _ => (Or.inr (Or.inr (Or.inr (Or.inr (Or.inl ⟨rfl, rfl⟩))))))
  refine w_aload_n dX7_takeFrom_76 rfl 0 rfl ?_
  refine w_aload_n dX7_takeFrom_77 rfl 1 rfl ?_
  refine w_getI fl_RX7_25 rfl rfl (ic_7 hb2) dX7_takeFrom_78 (fun z21_ e22_ => ?_)
  refine w_putI CC_nd fl_RX7_25 rfl rfl (ic_7 hb) dX7_takeFrom_81 (fun M23_ hM24_ => ?_)
  have hI25_ := hI19_.put hM24_ trivial
  have hF26_ := hF20_.put hM24_ (Or.inr (Or.inr (Or.inr (Or.inr (Or.inr (Or.inl ⟨rfl, rfl, rfl⟩))))))
  exact w_vret rfl dX7_takeFrom_84 ⟨hI25_, hF26_, trivial, ⟨M1_, hM2_, M5_, hM6_, M9_, hM10_, M13_, hM14_, M17_, hM18_, z21_, e22_, M23_, hM24_, rfl⟩⟩
