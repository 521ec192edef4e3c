section
def S_here : rf → Nat → Prop := fun c k => (c.1 = 12 ∧ c.2.1 = 0 ∧ k = 9) ∨ False
def S_codes : rf → Nat → Prop := fun c k => (c.1 = 12 ∧ c.2.1 = 0 ∧ k = 14) ∨ (c.1 = 57 ∧ c.2.1 = 0) ∨ False
def S_must : rf → Nat → Prop := fun c k => (c.1 = 12 ∧ c.2.1 = 0 ∧ k = 9) ∨ (c.1 = 12 ∧ c.2.1 = 0 ∧ k = 13) ∨ False
def ST_X12_here_0 (s : Int) (D : Nat) (a : Int) (T : Int) (Mz : mM) (M_0 : mM) (M_0y : mM) : Prop := (InvD M_0) ∧ (FR (S_here) Mz M_0) ∧ ∃ z2_ : Int32, (z2_ = M_0.1 (12, 0, 0) 13) ∧ (0 ≤ z2_.toInt ∧ z2_.toInt ≤ 1) ∧ (z2_.toInt = 0) ∧ ∃ z9_ : Int32, (z9_ = M_0.1 (12, 0, 0) 9) ∧ (0 ≤ z9_.toInt ∧ z9_.toInt ≤ 48) ∧ ∃ z12_ : Int32, (z12_ = M_0.1 (50, 0, 0) 4) ∧ (0 ≤ z12_.toInt ∧ z12_.toInt ≤ 48) ∧ (z9_.toInt < z12_.toInt) ∧ ∃ z35_ : Int32, (z35_.toInt = 273 + z9_.toInt) ∧ ∃ j39_ : Nat, ((j39_ : Int) = z35_.toInt) ∧ ∃ z37_ : Int32, (z37_ = M_0.1 (50, 0, 0) j39_) ∧ (z37_.toInt = 32) ∧ ∃ z61_ : Int32, (z61_.toInt = z9_.toInt + 1) ∧ ∃ M63_ : mM, (M63_ = up M_0 (12, 0, 0) 9 z61_) ∧ (PP M63_ s D a T) ∧ M_0y = M63_
def SP_X12_here (s : Int) (D : Nat) (a : Int) (T : Int) (Mz : mM) (r_ : Int32) (M_ : mM) : Prop := ∃ M_0 : mM, (RCH (fun x_ y_ => ST_X12_here_0 s D a T Mz x_ y_) Mz M_0) ∧ (InvD M_0) ∧ (FR (S_here) Mz M_0) ∧ ∃ z2_ : Int32, (z2_ = M_0.1 (12, 0, 0) 13) ∧ (0 ≤ z2_.toInt ∧ z2_.toInt ≤ 1) ∧ (((¬ z2_.toInt = 0) ∧ (¬ z2_.toInt = 0) ∧ r_ = (-1) ∧ M_ = M_0) ∨ ((z2_.toInt = 0) ∧ ∃ z9_ : Int32, (z9_ = M_0.1 (12, 0, 0) 9) ∧ (0 ≤ z9_.toInt ∧ z9_.toInt ≤ 48) ∧ ∃ z12_ : Int32, (z12_ = M_0.1 (50, 0, 0) 4) ∧ (0 ≤ z12_.toInt ∧ z12_.toInt ≤ 48) ∧ (((z12_.toInt ≤ z9_.toInt) ∧ (z2_.toInt = 0) ∧ ∃ z21_ : Int32, (z21_ = M_0.1 (50, 0, 0) 4) ∧ (0 ≤ z21_.toInt ∧ z21_.toInt ≤ 48) ∧ (((z21_.toInt ≤ z9_.toInt) ∧ r_ = (-1) ∧ M_ = M_0) ∨ ((z9_.toInt < z21_.toInt) ∧ ∃ z27_ : Int32, (z27_.toInt = 273 + z9_.toInt) ∧ ∃ j31_ : Nat, ((j31_ : Int) = z27_.toInt) ∧ ∃ z29_ : Int32, (z29_ = M_0.1 (50, 0, 0) j31_) ∧ r_ = z29_ ∧ M_ = M_0))) ∨ ((z9_.toInt < z12_.toInt) ∧ ∃ z35_ : Int32, (z35_.toInt = 273 + z9_.toInt) ∧ ∃ j39_ : Nat, ((j39_ : Int) = z35_.toInt) ∧ ∃ z37_ : Int32, (z37_ = M_0.1 (50, 0, 0) j39_) ∧ (¬ z37_.toInt = 32) ∧ (z2_.toInt = 0) ∧ ∃ z47_ : Int32, (z47_ = M_0.1 (50, 0, 0) 4) ∧ (0 ≤ z47_.toInt ∧ z47_.toInt ≤ 48) ∧ (((z47_.toInt ≤ z9_.toInt) ∧ r_ = (-1) ∧ M_ = M_0) ∨ ((z9_.toInt < z47_.toInt) ∧ ∃ z53_ : Int32, (z53_.toInt = 273 + z9_.toInt) ∧ ∃ j57_ : Nat, ((j57_ : Int) = z53_.toInt) ∧ ∃ z55_ : Int32, (z55_ = M_0.1 (50, 0, 0) j57_) ∧ r_ = z55_ ∧ M_ = M_0))))))
theorem lf_c_X12_here_2 (M_0 : mM) (z9_ : Int32) (z12_ : Int32) (z21_ : Int32) (e13_ : z12_ = M_0.1 (50, 0, 0) 4) (h15_ : z12_.toInt ≤ z9_.toInt) (e22_ : z21_ = M_0.1 (50, 0, 0) 4) (h24_ : z9_.toInt < z21_.toInt) : -2147483648 ≤ 273 + z9_.toInt ∧ 273 + z9_.toInt < 2147483648 := by subst e13_; subst e22_; omega
theorem lf_c_X12_here_3 (M_0 : mM) (z9_ : Int32) (z12_ : Int32) (z21_ : Int32) (z27_ : Int32) (e13_ : z12_ = M_0.1 (50, 0, 0) 4) (h15_ : z12_.toInt ≤ z9_.toInt) (e22_ : z21_ = M_0.1 (50, 0, 0) 4) (h24_ : z9_.toInt < z21_.toInt) : 0 ≤ z27_.toInt ∧ z27_.toInt < ((3567 : Nat) : Int) := by subst e13_; subst e22_; omega
theorem lf_c_X12_here_4 (z2_ : Int32) (h4_ : 0 ≤ z2_.toInt ∧ z2_.toInt ≤ 1) (h5_ : z2_.toInt = 0) : z2_.toInt = 0 := by omega
theorem lf_c_X12_here_5 (z9_ : Int32) (z21_ : Int32) (h24_ : z9_.toInt < z21_.toInt) : z9_.toInt < z21_.toInt := by omega
theorem lf_c_X12_here_6 (M_0 : mM) (z9_ : Int32) (z12_ : Int32) (z21_ : Int32) (j31_ : Nat) (e13_ : z12_ = M_0.1 (50, 0, 0) 4) (h15_ : z12_.toInt ≤ z9_.toInt) (e22_ : z21_ = M_0.1 (50, 0, 0) 4) (h24_ : z9_.toInt < z21_.toInt) : (j31_ : Int) = 273 + z9_.toInt := by subst e13_; subst e22_; omega
theorem lf_c_X12_here_14 (z9_ : Int32) (z53_ : Int32) (j57_ : Nat) (h54_ : z53_.toInt = 273 + z9_.toInt) (h58_ : (j57_ : Int) = z53_.toInt) : (j57_ : Int) = 273 + z9_.toInt := by omega
theorem lf_c_X12_here_16 (z9_ : Int32) (z12_ : Int32) (z61_ : Int32) (h11_ : 0 ≤ z9_.toInt ∧ z9_.toInt ≤ 48) (h14_ : 0 ≤ z12_.toInt ∧ z12_.toInt ≤ 48) (h15_ : z9_.toInt < z12_.toInt) (h62_ : z61_.toInt = z9_.toInt + 1) : 0 ≤ z61_.toInt ∧ z61_.toInt ≤ 48 := by omega
theorem lf_c_X12_here_19 (s : Int) : s ≤ (s + 1) := by omega
set_option maxHeartbeats 4000000 in
set_option maxRecDepth 100000 in
theorem c_X12_here (l : Launch) (G : va_G) (cy : Nat → ClassId) (ad : rf → Nat) (d : Nat) (s : Int) (D : Nat) (a : Int) (T : Int) (Mz : mM) (hIz : InvD Mz) (hp : PP Mz s D a T) : WP DD l G cy ad yX12_here cX12_here 1 (some .int) d 0 [(0, vR (12, 0, 0))] [] Mz (fun r M' => InvD M' ∧ FR (S_here) Mz M' ∧ (PP M' s D a T ∧ HB M' r) ∧ SP_X12_here s D a T Mz r M') := by
  have hFz : FR (S_here) Mz Mz := FR.self
  have lp1_ : ∀ (nn_0 : Nat) (M_0 : mM) (hI_0 : InvD M_0) (hF_0 : FR (S_here) Mz M_0) (kv0_0 : PP M_0 s D a T) (hL_0 : RCH (fun x_ y_ => ST_X12_here_0 s D a T Mz x_ y_) Mz M_0), (T - (M_0.1 (12, 0, 0) 9).toInt).toNat < nn_0 → WP DD l G cy ad yX12_here cX12_here 1 (some .int) d 0 [(0, vR (12, 0, 0))] [] M_0 (fun r M' => InvD M' ∧ FR (S_here) Mz M' ∧ (PP M' s D a T ∧ HB M' r) ∧ SP_X12_here s D a T Mz r M') := by
    intro nn_0
    induction nn_0 with
    | zero => intro M_0 hI_0 hF_0 kv0_0 hL_0 hm_0; exact absurd hm_0 (Nat.not_lt_zero _)
    | succ nn_0 ih_0 =>
      intro M_0 hI_0 hF_0 kv0_0 hL_0 hm_0
      refine w_aload_n dX12_here_0 rfl 0 rfl ?_
      refine w_getI fl_RX12_151 rfl rfl ic_12 dX12_here_1 (fun z2_ e3_ => ?_)
      have h4_ : 0 ≤ z2_.toInt ∧ z2_.toInt ≤ 1 := ofEq (P := fun v => 0 ≤ v.toInt ∧ v.toInt ≤ 1) e3_ (hI_0.1 (12, 0, 0) 13)
      refine w_if_ne (tgt := 51) dX12_here_4 (by decide) (rfl : z2_.toInt = z2_.toInt) (fun h5_ => ?_) (fun h5_ => ?_)
      · refine w_aload_n dX12_here_51 rfl 0 rfl ?_
        refine w_getI fl_RX12_151 rfl rfl ic_12 dX12_here_52 (fun z6_ e7_ => ?_)
        obtain rfl : z2_ = z6_ := e3_.trans e7_.symm
        refine w_if_ne (tgt := 87) dX12_here_55 (by decide) (rfl : z2_.toInt = z2_.toInt) (fun h8_ => ?_) (fun h9 => (lf_c_X12_kind_0 z2_ h4_ h5_ h9 ).elim)
        refine w_iconst (v := (-1)) dX12_here_87 (by decide) ?_
        exact w_iret rfl dX12_here_88 ⟨hI_0, hF_0, ⟨kv0_0, Or.inl (by decide)⟩, ⟨M_0, hL_0, hI_0, hF_0, z2_, e3_, h4_, (Or.inl ⟨h5_, h8_, rfl, rfl⟩)⟩⟩
      · refine w_aload_n dX12_here_7 rfl 0 rfl ?_
        refine w_getI fl_RX12_155 rfl rfl ic_12 dX12_here_8 (fun z9_ e10_ => ?_)
        have h11_ : 0 ≤ z9_.toInt ∧ z9_.toInt ≤ 48 := ofEq (P := fun v => 0 ≤ v.toInt ∧ v.toInt ≤ 48) e10_ (hI_0.1 (12, 0, 0) 9)
        refine w_aload_n dX12_here_11 rfl 0 rfl ?_
        refine w_getR (c' := (50, 0, 0)) fl_RX12_9 rfl rfl ic_12 dX12_here_12 rfl ?_
        refine w_iconst (v := 4) dX12_here_15 (by decide) ?_
        refine w_ialdL 4 rfl rfl ic_50 li_4 (by decide) dX12_here_16 (fun z12_ e13_ => ?_)
        have h14_ : 0 ≤ z12_.toInt ∧ z12_.toInt ≤ 48 := pn_4 hI_0 e13_
        refine w_icmp_ge (tgt := 51) dX12_here_17 (by decide) (rfl : z9_.toInt = z9_.toInt) (rfl : z12_.toInt = z12_.toInt) (fun h15_ => ?_) (fun h15_ => ?_)
        · refine w_aload_n dX12_here_51 rfl 0 rfl ?_
          refine w_getI fl_RX12_151 rfl rfl ic_12 dX12_here_52 (fun z16_ e17_ => ?_)
          obtain rfl : z2_ = z16_ := e3_.trans e17_.symm
          refine w_if_ne (tgt := 87) dX12_here_55 (by decide) (rfl : z2_.toInt = z2_.toInt) (fun h9 => (lf_c_X12_kind_4 z2_ h4_ h5_ h9 ).elim) (fun h18_ => ?_)
          refine w_aload_n dX12_here_58 rfl 0 rfl ?_
          refine w_getI fl_RX12_155 rfl rfl ic_12 dX12_here_59 (fun z19_ e20_ => ?_)
          obtain rfl : z9_ = z19_ := e10_.trans e20_.symm
          refine w_aload_n dX12_here_62 rfl 0 rfl ?_
          refine w_getR (c' := (50, 0, 0)) fl_RX12_9 rfl rfl ic_12 dX12_here_63 rfl ?_
          refine w_iconst (v := 4) dX12_here_66 (by decide) ?_
          refine w_ialdL 4 rfl rfl ic_50 li_4 (by decide) dX12_here_67 (fun z21_ e22_ => ?_)
          have h23_ : 0 ≤ z21_.toInt ∧ z21_.toInt ≤ 48 := pn_4 hI_0 e22_
          refine w_icmp_ge (tgt := 87) dX12_here_68 (by decide) (rfl : z9_.toInt = z9_.toInt) (rfl : z21_.toInt = z21_.toInt) (fun h24_ => ?_) (fun h24_ => ?_)
          · refine w_iconst (v := (-1)) dX12_here_87 (by decide) ?_
            exact w_iret rfl dX12_here_88 ⟨hI_0, hF_0, ⟨kv0_0, Or.inl (by decide)⟩, ⟨M_0, hL_0, hI_0, hF_0, z2_, e3_, h4_, (Or.inr ⟨h5_, z9_, e10_, h11_, z12_, e13_, h14_, (Or.inl ⟨h15_, h18_, z21_, e22_, h23_, (Or.inl ⟨h24_, rfl, rfl⟩)⟩)⟩)⟩⟩
          · refine w_aload_n dX12_here_71 rfl 0 rfl ?_
            refine w_getR (c' := (50, 0, 0)) fl_RX12_9 rfl rfl ic_12 dX12_here_72 rfl ?_
            refine w_sipush (v := 273) dX12_here_75 (by decide) ?_
            refine w_aload_n dX12_here_78 rfl 0 rfl ?_
            refine w_getI fl_RX12_155 rfl rfl ic_12 dX12_here_79 (fun z25_ e26_ => ?_)
            obtain rfl : z9_ = z25_ := e10_.trans e26_.symm
            refine w_iaddB dX12_here_82 li_273 (rfl : z9_.toInt = z9_.toInt) (lf_c_X12_here_2 M_0 z9_ z12_ z21_ e13_ h15_ e22_ h24_ ) (fun z27_ h28_ => ?_)
            refine w_iald rfl rfl ic_50 (rfl : z27_.toInt = z27_.toInt) (lf_c_X12_here_3 M_0 z9_ z12_ z21_ z27_ e13_ h15_ e22_ h24_ ) dX12_here_83 (fun j31_ h32_ z29_ e30_ => ?_)
            refine w_goto (tgt := 88) dX12_here_84 (by decide) ?_
            exact w_iret rfl dX12_here_88 ⟨hI_0, hF_0, ⟨kv0_0, HB_in e3_ (lf_c_X12_here_4 z2_ h4_ h5_ ) e10_ e22_ (lf_c_X12_here_5 z9_ z21_ h24_ ) e30_ (lf_c_X12_here_6 M_0 z9_ z12_ z21_ j31_ e13_ h15_ e22_ h24_ )⟩, ⟨M_0, hL_0, hI_0, hF_0, z2_, e3_, h4_, (Or.inr ⟨h5_, z9_, e10_, h11_, z12_, e13_, h14_, (Or.inl ⟨h15_, h18_, z21_, e22_, h23_, (Or.inr ⟨h24_, z27_, h28_, j31_, h32_, z29_, e30_, rfl, rfl⟩)⟩)⟩)⟩⟩
        · refine w_aload_n dX12_here_20 rfl 0 rfl ?_
          refine w_getR (c' := (50, 0, 0)) fl_RX12_9 rfl rfl ic_12 dX12_here_21 rfl ?_
          refine w_sipush (v := 273) dX12_here_24 (by decide) ?_
          refine w_aload_n dX12_here_27 rfl 0 rfl ?_
          refine w_getI fl_RX12_155 rfl rfl ic_12 dX12_here_28 (fun z33_ e34_ => ?_)
          obtain rfl : z9_ = z33_ := e10_.trans e34_.symm
          refine w_iaddB dX12_here_31 li_273 (rfl : z9_.toInt = z9_.toInt) (lf_c_X12_feed_1 z9_ h11_ ) (fun z35_ h36_ => ?_)
          refine w_iald rfl rfl ic_50 (rfl : z35_.toInt = z35_.toInt) (lf_c_X12_feed_3 z9_ z35_ h11_ h36_ ) dX12_here_32 (fun j39_ h40_ z37_ e38_ => ?_)
          refine w_bipush (v := 32) dX12_here_33 (by decide) ?_
          refine w_icmp_ne (tgt := 51) dX12_here_35 (by decide) (rfl : z37_.toInt = z37_.toInt) li_32 (fun h41_ => ?_) (fun h41_ => ?_)
          · refine w_aload_n dX12_here_51 rfl 0 rfl ?_
            refine w_getI fl_RX12_151 rfl rfl ic_12 dX12_here_52 (fun z42_ e43_ => ?_)
            obtain rfl : z2_ = z42_ := e3_.trans e43_.symm
            refine w_if_ne (tgt := 87) dX12_here_55 (by decide) (rfl : z2_.toInt = z2_.toInt) (fun h9 => (lf_c_X12_kind_4 z2_ h4_ h5_ h9 ).elim) (fun h44_ => ?_)
            refine w_aload_n dX12_here_58 rfl 0 rfl ?_
            refine w_getI fl_RX12_155 rfl rfl ic_12 dX12_here_59 (fun z45_ e46_ => ?_)
            obtain rfl : z9_ = z45_ := e10_.trans e46_.symm
            refine w_aload_n dX12_here_62 rfl 0 rfl ?_
            refine w_getR (c' := (50, 0, 0)) fl_RX12_9 rfl rfl ic_12 dX12_here_63 rfl ?_
            refine w_iconst (v := 4) dX12_here_66 (by decide) ?_
            refine w_ialdL 4 rfl rfl ic_50 li_4 (by decide) dX12_here_67 (fun z47_ e48_ => ?_)
            have h49_ : 0 ≤ z47_.toInt ∧ z47_.toInt ≤ 48 := pn_4 hI_0 e48_
            refine w_icmp_ge (tgt := 87) dX12_here_68 (by decide) (rfl : z9_.toInt = z9_.toInt) (rfl : z47_.toInt = z47_.toInt) (fun h50_ => ?_) (fun h50_ => ?_)
            · refine w_iconst (v := (-1)) dX12_here_87 (by decide) ?_
              exact w_iret rfl dX12_here_88 ⟨hI_0, hF_0, ⟨kv0_0, Or.inl (by decide)⟩, ⟨M_0, hL_0, hI_0, hF_0, z2_, e3_, h4_, (Or.inr ⟨h5_, z9_, e10_, h11_, z12_, e13_, h14_, (Or.inr ⟨h15_, z35_, h36_, j39_, h40_, z37_, e38_, h41_, h44_, z47_, e48_, h49_, (Or.inl ⟨h50_, rfl, rfl⟩)⟩)⟩)⟩⟩
            · refine w_aload_n dX12_here_71 rfl 0 rfl ?_
              refine w_getR (c' := (50, 0, 0)) fl_RX12_9 rfl rfl ic_12 dX12_here_72 rfl ?_
              refine w_sipush (v := 273) dX12_here_75 (by decide) ?_
              refine w_aload_n dX12_here_78 rfl 0 rfl ?_
              refine w_getI fl_RX12_155 rfl rfl ic_12 dX12_here_79 (fun z51_ e52_ => ?_)
              obtain rfl : z9_ = z51_ := e10_.trans e52_.symm
              refine w_iaddB dX12_here_82 li_273 (rfl : z9_.toInt = z9_.toInt) (lf_c_X12_feed_1 z9_ h11_ ) (fun z53_ h54_ => ?_)
              refine w_iald rfl rfl ic_50 (rfl : z53_.toInt = z53_.toInt) (lf_c_X12_feed_3 z9_ z53_ h11_ h54_ ) dX12_here_83 (fun j57_ h58_ z55_ e56_ => ?_)
              refine w_goto (tgt := 88) dX12_here_84 (by decide) ?_
              exact w_iret rfl dX12_here_88 ⟨hI_0, hF_0, ⟨kv0_0, HB_in e3_ (lf_c_X12_here_4 z2_ h4_ h5_ ) e10_ e48_ (lf_c_X12_here_5 z9_ z47_ h50_ ) e56_ (lf_c_X12_here_14 z9_ z53_ j57_ h54_ h58_ )⟩, ⟨M_0, hL_0, hI_0, hF_0, z2_, e3_, h4_, (Or.inr ⟨h5_, z9_, e10_, h11_, z12_, e13_, h14_, (Or.inr ⟨h15_, z35_, h36_, j39_, h40_, z37_, e38_, h41_, h44_, z47_, e48_, h49_, (Or.inr ⟨h50_, z53_, h54_, j57_, h58_, z55_, e56_, rfl, rfl⟩)⟩)⟩)⟩⟩
          · refine w_aload_n dX12_here_38 rfl 0 rfl ?_
            refine w_dup dX12_here_39 rfl ?_
            refine w_getI fl_RX12_155 rfl rfl ic_12 dX12_here_40 (fun z59_ e60_ => ?_)
            obtain rfl : z9_ = z59_ := e10_.trans e60_.symm
            refine w_iconst (v := 1) dX12_here_43 (by decide) ?_
            refine w_iaddB dX12_here_44 (rfl : z9_.toInt = z9_.toInt) li_1 (lf_c_X12_feed_6 z9_ h11_ ) (fun z61_ h62_ => ?_)
            refine w_putI DD_nd fl_RX12_155 rfl rfl ic_12 dX12_here_45 (fun M63_ hM64_ => ?_)
            have hI65_ := hI_0.put hM64_ ⟨(lf_c_X12_here_16 z9_ z12_ z61_ h11_ h14_ h15_ h62_ ), Or.inl (by decide)⟩
            have hF66_ := hF_0.put hM64_ (Or.inl ⟨rfl, rfl, rfl⟩)
            have h67_ : PP M63_ (s + 1) D (a + 1) T := PP_at kv0_0 hM64_ (by rw [← e10_]; exact (lf_c_X12_given_25 z9_ z61_ h62_ )) (at_lt kv0_0 e10_ e13_ (lf_c_X12_here_5 z9_ z12_ h15_ ))
            have h68_ : PP M63_ s D a T := PP_mono h67_ (lf_c_X12_here_19 s ) (lf_c_X12_here_19 a )
            refine w_goto (tgt := 0) dX12_here_48 (by decide) ?_
            refine w_loc (ls' := [(0, vR (12, 0, 0))]) [0] rfl ?_
            exact ih_0 M63_ hI65_ hF66_ h68_ (RCH.tail hL_0 ⟨hI_0, hF_0, z2_, e3_, h4_, h5_, z9_, e10_, h11_, z12_, e13_, h14_, h15_, z35_, h36_, j39_, h40_, z37_, e38_, h41_, z61_, h62_, M63_, hM64_, h68_, rfl⟩) (Nat.lt_of_lt_of_le (PP_m0 hM64_ (by rw [← e10_]; exact (lf_c_X12_given_25 z9_ z61_ h62_ )) (at_lt kv0_0 e10_ e13_ (lf_c_X12_here_5 z9_ z12_ h15_ ))) (Nat.le_of_lt_succ hm_0))
  exact lp1_ _ Mz hIz hFz hp RCH.refl (Nat.lt_succ_self _)
def SP_X12_takes (v : Int32) (s : Int) (D : Nat) (a : Int) (T : Int) (Mz : mM) (r_ : Int32) (M_ : mM) : Prop := ∃ M2_ : mM, (InvD M2_) ∧ (FR (S_here) Mz M2_) ∧ ∃ r1_ : Int32, (SP_X12_here s D a T Mz r1_ M2_) ∧ (HB M2_ r1_) ∧ (((¬ r1_.toInt = v.toInt) ∧ ∃ z12_ : Int32, (z12_ = M2_.1 (12, 0, 0) 9) ∧ (0 ≤ z12_.toInt ∧ z12_.toInt ≤ 48) ∧ ∃ z16_ : Int32, (z16_.toInt = z12_.toInt + 0) ∧ ∃ M18_ : mM, (M18_ = up M2_ (12, 0, 0) 9 z16_) ∧ (PP M18_ s D a T) ∧ r_ = 0 ∧ M_ = M18_) ∨ ((r1_.toInt = v.toInt) ∧ ∃ z27_ : Int32, (z27_ = M2_.1 (12, 0, 0) 9) ∧ (0 ≤ z27_.toInt ∧ z27_.toInt ≤ 48) ∧ (z27_.toInt < T) ∧ (z27_.toInt ≤ 47) ∧ ∃ z33_ : Int32, (z33_.toInt = z27_.toInt + 1) ∧ ∃ M35_ : mM, (M35_ = up M2_ (12, 0, 0) 9 z33_) ∧ (PP M35_ (s + 1) D (a + 1) T) ∧ r_ = 1 ∧ M_ = M35_))
theorem lf_c_X12_takes_0 (z12_ : Int32) (h14_ : 0 ≤ z12_.toInt ∧ z12_.toInt ≤ 48) : -2147483648 ≤ z12_.toInt + 0 ∧ z12_.toInt + 0 < 2147483648 := by omega
theorem lf_c_X12_takes_1 (z12_ : Int32) (z16_ : Int32) (h14_ : 0 ≤ z12_.toInt ∧ z12_.toInt ≤ 48) (h17_ : z16_.toInt = z12_.toInt + 0) : 0 ≤ z16_.toInt ∧ z16_.toInt ≤ 48 := by omega
theorem lf_c_X12_takes_2 (z12_ : Int32) (z16_ : Int32) (h17_ : z16_.toInt = z12_.toInt + 0) : z16_.toInt = z12_.toInt := by omega
theorem lf_c_X12_takes_3 (v : Int32) (r1_ : Int32) (hv : 0 ≤ v.toInt) (h11_ : r1_.toInt = v.toInt) : ¬ r1_.toInt = -1 := by omega
theorem lf_c_X12_takes_4 (z27_ : Int32) (h29_ : 0 ≤ z27_.toInt ∧ z27_.toInt ≤ 48) (h31_ : z27_.toInt ≤ 47) : -2147483648 ≤ z27_.toInt + 1 ∧ z27_.toInt + 1 < 2147483648 := by omega
theorem lf_c_X12_takes_5 (z27_ : Int32) (z33_ : Int32) (h29_ : 0 ≤ z27_.toInt ∧ z27_.toInt ≤ 48) (h31_ : z27_.toInt ≤ 47) (h34_ : z33_.toInt = z27_.toInt + 1) : 0 ≤ z33_.toInt ∧ z33_.toInt ≤ 48 := by omega
set_option maxHeartbeats 4000000 in
set_option maxRecDepth 100000 in
theorem c_X12_takes (l : Launch) (G : va_G) (cy : Nat → ClassId) (ad : rf → Nat) (d : Nat) (v : Int32) (s : Int) (D : Nat) (a : Int) (T : Int) (Mz : mM) (hIz : InvD Mz) (hp : PP Mz s D a T) (hv : 0 ≤ v.toInt) : WP DD l G cy ad yX12_takes cX12_takes 3 (some .boolean) (d + 1) 0 [(0, vR (12, 0, 0)), (1, vI v)] [] Mz (fun r M' => InvD M' ∧ FR (S_here) Mz M' ∧ (((r = 1 ∧ PP M' (s + 1) D (a + 1) T ∧ M'.1 (12, 0, 0) 13 = 0) ∨ (r = 0 ∧ PP M' s D a T))) ∧ SP_X12_takes v s D a T Mz r M') := by
  have hFz : FR (S_here) Mz Mz := FR.self
  refine w_aload_n dX12_takes_0 rfl 0 rfl ?_
  refine w_callV (as := []) (rest := []) (c_X12_here l G cy ad d s D a T Mz hIz hp) kV_X12_here pnn_17 (Nat.le_of_ble_eq_true rfl) m_1575 rfl rfl rfl ic_12 rfl rfl (by decide) (Nat.le_of_ble_eq_true rfl) dX12_takes_1 (fun r1_ M2_ q3_ => ?_)
  obtain ⟨hI5_, hF6_, h4_, hs8_⟩ := q3_
  have hF7_ := hFz.tr hF6_ (fun c k => (fun h => h.elim (fun h => (Or.inl ⟨h.1, h.2.1, h.2.2⟩)) (fun h => h.elim)))
  have h9_ : PP M2_ s D a T := h4_.1
  have h10_ : HB M2_ r1_ := h4_.2
  refine w_iload_n dX12_takes_4 rfl 1 rfl ?_
  refine w_icmp_ne (tgt := 12) dX12_takes_5 (by decide) (rfl : r1_.toInt = r1_.toInt) (rfl : v.toInt = v.toInt) (fun h11_ => ?_) (fun h11_ => ?_)
  · refine w_iconst (v := 0) dX12_takes_12 (by decide) ?_
    refine w_istore_n (ls' := [(2, vI 0), (0, vR (12, 0, 0)), (1, vI v)]) dX12_takes_13 rfl (by decide) rfl ?_
    refine w_aload_n dX12_takes_14 rfl 1 rfl ?_
    refine w_dup dX12_takes_15 rfl ?_
    refine w_getI fl_RX12_155 rfl rfl ic_12 dX12_takes_16 (fun z12_ e13_ => ?_)
    have h14_ : 0 ≤ z12_.toInt ∧ z12_.toInt ≤ 48 := ofEq (P := fun v => 0 ≤ v.toInt ∧ v.toInt ≤ 48) e13_ (hI5_.1 (12, 0, 0) 9)
    refine w_iload_n dX12_takes_19 rfl 0 rfl ?_
    refine w_if_eq (tgt := 27) dX12_takes_20 (by decide) li_0 (fun h15_ => ?_) (fun h9 => (absurd h9 (by decide)))
    refine w_iconst (v := 0) dX12_takes_27 (by decide) ?_
    refine w_iaddB dX12_takes_28 (rfl : z12_.toInt = z12_.toInt) li_0 (lf_c_X12_takes_0 z12_ h14_ ) (fun z16_ h17_ => ?_)
    refine w_putI DD_nd fl_RX12_155 rfl rfl ic_12 dX12_takes_29 (fun M18_ hM19_ => ?_)
    have hI20_ := hI5_.put hM19_ ⟨(lf_c_X12_takes_1 z12_ z16_ h14_ h17_ ), Or.inl (by decide)⟩
    have hF21_ := hF7_.put hM19_ (Or.inl ⟨rfl, rfl, rfl⟩)
    have h22_ : PP M18_ s D a T := PP_atS h9_ hM19_ (by rw [← e13_]; exact (lf_c_X12_takes_2 z12_ z16_ h17_ ))
    refine w_iload_n dX12_takes_32 rfl 0 rfl ?_
    exact w_zret rfl dX12_takes_33 ⟨by decide, by decide⟩ ⟨hI20_, hF21_, (Or.inr ⟨rfl, h22_⟩), ⟨M2_, hI5_, hF6_, r1_, hs8_, h10_, (Or.inl ⟨h11_, z12_, e13_, h14_, z16_, h17_, M18_, hM19_, h22_, rfl, rfl⟩)⟩⟩
  · refine w_iconst (v := 1) dX12_takes_8 (by decide) ?_
    refine w_goto (tgt := 13) dX12_takes_9 (by decide) ?_
    refine w_istore_n (ls' := [(2, vI 1), (0, vR (12, 0, 0)), (1, vI v)]) dX12_takes_13 rfl (by decide) rfl ?_
    have h23_ : M2_.1 (12, 0, 0) 13 = 0 ∧ (M2_.1 (12, 0, 0) 9).toInt < T := HB_ok h10_ h9_ (lf_c_X12_takes_3 v r1_ hv h11_ )
    have kf24_ : M2_.1 (12, 0, 0) 13 = 0 := h23_.1
    have kf25_ : (M2_.1 (12, 0, 0) 9).toInt < T := h23_.2
    have kf26_ : (M2_.1 (12, 0, 0) 9).toInt ≤ 47 := PP_a48 hI5_ h9_ h23_.2
    refine w_aload_n dX12_takes_14 rfl 1 rfl ?_
    refine w_dup dX12_takes_15 rfl ?_
    refine w_getI fl_RX12_155 rfl rfl ic_12 dX12_takes_16 (fun z27_ e28_ => ?_)
    have h29_ : 0 ≤ z27_.toInt ∧ z27_.toInt ≤ 48 := ofEq (P := fun v => 0 ≤ v.toInt ∧ v.toInt ≤ 48) e28_ (hI5_.1 (12, 0, 0) 9)
    have h30_ : z27_.toInt < T := by rw [e28_]; exact kf25_
    have h31_ : z27_.toInt ≤ 47 := by rw [e28_]; exact kf26_
    refine w_iload_n dX12_takes_19 rfl 0 rfl ?_
    refine w_if_eq (tgt := 27) dX12_takes_20 (by decide) li_1 (fun h9 => (absurd h9 (by decide))) (fun h32_ => ?_)
    refine w_iconst (v := 1) dX12_takes_23 (by decide) ?_
    refine w_goto (tgt := 28) dX12_takes_24 (by decide) ?_
    refine w_iaddB dX12_takes_28 (rfl : z27_.toInt = z27_.toInt) li_1 (lf_c_X12_takes_4 z27_ h29_ h31_ ) (fun z33_ h34_ => ?_)
    refine w_putI DD_nd fl_RX12_155 rfl rfl ic_12 dX12_takes_29 (fun M35_ hM36_ => ?_)
    have hI37_ := hI5_.put hM36_ ⟨(lf_c_X12_takes_5 z27_ z33_ h29_ h31_ h34_ ), Or.inl (by decide)⟩
    have hF38_ := hF7_.put hM36_ (Or.inl ⟨rfl, rfl, rfl⟩)
    have kf39_ : M35_.1 (12, 0, 0) 13 = 0 := by rw [(show M35_.1 (12, 0, 0) 13 = M2_.1 (12, 0, 0) 13 by rw [hM36_, up_ne (by simp)])]; exact kf24_
    have h40_ : PP M35_ (s + 1) D (a + 1) T := PP_at h9_ hM36_ (by rw [← e28_]; exact (lf_c_X12_given_25 z27_ z33_ h34_ )) kf25_
    refine w_iload_n dX12_takes_32 rfl 0 rfl ?_
    exact w_zret rfl dX12_takes_33 ⟨by decide, by decide⟩ ⟨hI37_, hF38_, (Or.inl ⟨rfl, h40_, kf39_⟩), ⟨M2_, hI5_, hF6_, r1_, hs8_, h10_, (Or.inr ⟨h11_, z27_, e28_, h29_, h30_, h31_, z33_, h34_, M35_, hM36_, h40_, rfl, rfl⟩)⟩⟩
def SP_X12_codes (v : Int32) (s : Int) (D : Nat) (a : Int) (T : Int) (E : Nat) (Mz : mM) (M_ : mM) : Prop := ∃ z2_ : Int32, (z2_ = Mz.1 (12, 0, 0) 13) ∧ (0 ≤ z2_.toInt ∧ z2_.toInt ≤ 1) ∧ (((¬ z2_.toInt = 0) ∧ M_ = Mz) ∨ ((z2_.toInt = 0) ∧ ∃ z6_ : Int32, (z6_ = Mz.1 (12, 0, 0) 14) ∧ (0 ≤ z6_.toInt ∧ z6_.toInt ≤ 49) ∧ (z6_.toInt ≤ 48) ∧ ∃ j13_ : Nat, ((j13_ : Int) = z6_.toInt) ∧ ∃ M11_ : mM, (M11_ = up Mz (57, 0, 0) j13_ v) ∧ ∃ z19_ : Int32, (z19_ = M11_.1 (12, 0, 0) 14) ∧ (0 ≤ z19_.toInt ∧ z19_.toInt ≤ 49) ∧ (z19_.toInt ≤ 48) ∧ (z19_.toInt = z6_.toInt) ∧ ∃ z24_ : Int32, (z24_.toInt = z19_.toInt + 1) ∧ ∃ M26_ : mM, (M26_ = up M11_ (12, 0, 0) 14 z24_) ∧ (PP M26_ (s - 1) E a T) ∧ M_ = M26_))
theorem lf_c_X12_codes_1 (z2_ : Int32) (h4_ : 0 ≤ z2_.toInt ∧ z2_.toInt ≤ 1) (h5_ : ¬ z2_.toInt = 0) : ¬ z2_.toInt = 0 := by omega
theorem lf_c_X12_codes_2 (z6_ : Int32) (h8_ : 0 ≤ z6_.toInt ∧ z6_.toInt ≤ 49) (h9_ : z6_.toInt ≤ 48) : 0 ≤ z6_.toInt ∧ z6_.toInt < ((49 : Nat) : Int) := by omega
theorem lf_c_X12_codes_3 (z19_ : Int32) (h21_ : 0 ≤ z19_.toInt ∧ z19_.toInt ≤ 49) (h22_ : z19_.toInt ≤ 48) : -2147483648 ≤ z19_.toInt + 1 ∧ z19_.toInt + 1 < 2147483648 := by omega
theorem lf_c_X12_codes_4 (z19_ : Int32) (z24_ : Int32) (h21_ : 0 ≤ z19_.toInt ∧ z19_.toInt ≤ 49) (h22_ : z19_.toInt ≤ 48) (h25_ : z24_.toInt = z19_.toInt + 1) : 0 ≤ z24_.toInt ∧ z24_.toInt ≤ 49 := by omega
theorem lf_c_X12_codes_6 (z6_ : Int32) (z19_ : Int32) (z24_ : Int32) (h23_ : z19_.toInt = z6_.toInt) (h25_ : z24_.toInt = z19_.toInt + 1) : z24_.toInt = z6_.toInt + 1 := by omega
set_option maxHeartbeats 4000000 in
set_option maxRecDepth 100000 in
theorem c_X12_codes (l : Launch) (G : va_G) (cy : Nat → ClassId) (ad : rf → Nat) (d : Nat) (v : Int32) (s : Int) (D : Nat) (a : Int) (T : Int) (E : Nat) (Mz : mM) (hIz : InvD Mz) (hp : PP Mz s D a T) (hs : 0 ≤ s) (hv : stp v.toInt (some D) = some E) : WP DD l G cy ad yX12_codes cX12_codes 2 none d 0 [(0, vR (12, 0, 0)), (1, vI v)] [] Mz (fun r M' => InvD M' ∧ FR (S_codes) Mz M' ∧ (PP M' (s - 1) E a T) ∧ SP_X12_codes v s D a T E Mz M') := by
  have hFz : FR (S_codes) Mz Mz := FR.self
  have kf1_ : (Mz.1 (12, 0, 0) 14).toInt ≤ 48 := PP_c48 hIz hp hs
  refine w_aload_n dX12_codes_0 rfl 0 rfl ?_
  refine w_getI fl_RX12_151 rfl rfl ic_12 dX12_codes_1 (fun z2_ e3_ => ?_)
  have h4_ : 0 ≤ z2_.toInt ∧ z2_.toInt ≤ 1 := ofEq (P := fun v => 0 ≤ v.toInt ∧ v.toInt ≤ 1) e3_ (hIz.1 (12, 0, 0) 13)
  refine w_if_ne (tgt := 27) dX12_codes_4 (by decide) (rfl : z2_.toInt = z2_.toInt) (fun h5_ => ?_) (fun h5_ => ?_)
  · exact w_vret rfl dX12_codes_27 ⟨hIz, hFz, (codes_wr hp (by rw [← e3_]; exact zW (lf_c_X12_areCells_2 z2_ h4_ ) (lf_c_X12_codes_1 z2_ h4_ h5_ ))), ⟨z2_, e3_, h4_, (Or.inl ⟨h5_, rfl⟩)⟩⟩
  · refine w_aload_n dX12_codes_7 rfl 0 rfl ?_
    refine w_getR (c' := (57, 0, 0)) fl_RX12_44 rfl rfl ic_12 dX12_codes_8 rfl ?_
    refine w_aload_n dX12_codes_11 rfl 0 rfl ?_
    refine w_getI fl_RX12_162 rfl rfl ic_12 dX12_codes_12 (fun z6_ e7_ => ?_)
    have h8_ : 0 ≤ z6_.toInt ∧ z6_.toInt ≤ 49 := ofEq (P := fun v => 0 ≤ v.toInt ∧ v.toInt ≤ 49) e7_ (hIz.1 (12, 0, 0) 14)
    have h9_ : z6_.toInt ≤ 48 := by rw [e7_]; exact kf1_
    have kf10_ : (Mz.1 (12, 0, 0) 14).toInt = z6_.toInt := by rw [e7_]
    refine w_iload_n dX12_codes_15 rfl 1 rfl ?_
    refine w_iast DD_nd rfl rfl ic_57 (rfl : z6_.toInt = z6_.toInt) (lf_c_X12_codes_2 z6_ h8_ h9_ ) dX12_codes_16 (fun j13_ h14_ M11_ hM12_ => ?_)
    have hI15_ := hIz.put hM12_ ⟨trivial, Or.inr (by decide)⟩
    have hF16_ := hFz.put hM12_ (Or.inr (Or.inl ⟨rfl, rfl⟩))
    have kf17_ : (M11_.1 (12, 0, 0) 14).toInt ≤ 48 := by rw [(show M11_.1 (12, 0, 0) 14 = Mz.1 (12, 0, 0) 14 by rw [hM12_, up_ne (by simp)])]; exact kf1_
    have kf18_ : (M11_.1 (12, 0, 0) 14).toInt = z6_.toInt := by rw [(show M11_.1 (12, 0, 0) 14 = Mz.1 (12, 0, 0) 14 by rw [hM12_, up_ne (by simp)])]; exact kf10_
    refine w_aload_n dX12_codes_17 rfl 0 rfl ?_
    refine w_dup dX12_codes_18 rfl ?_
    refine w_getI fl_RX12_162 rfl rfl ic_12 dX12_codes_19 (fun z19_ e20_ => ?_)
    have h21_ : 0 ≤ z19_.toInt ∧ z19_.toInt ≤ 49 := ofEq (P := fun v => 0 ≤ v.toInt ∧ v.toInt ≤ 49) e20_ (hI15_.1 (12, 0, 0) 14)
    have h22_ : z19_.toInt ≤ 48 := by rw [e20_]; exact kf17_
    have h23_ : z19_.toInt = z6_.toInt := by rw [e20_]; exact kf18_
    refine w_iconst (v := 1) dX12_codes_22 (by decide) ?_
    refine w_iaddB dX12_codes_23 (rfl : z19_.toInt = z19_.toInt) li_1 (lf_c_X12_codes_3 z19_ h21_ h22_ ) (fun z24_ h25_ => ?_)
    refine w_putI DD_nd fl_RX12_162 rfl rfl ic_12 dX12_codes_24 (fun M26_ hM27_ => ?_)
    have hI28_ := hI15_.put hM27_ ⟨(lf_c_X12_codes_4 z19_ z24_ h21_ h22_ h25_ ), Or.inl (by decide)⟩
    have hF29_ := hF16_.put hM27_ (Or.inl ⟨rfl, rfl, rfl⟩)
    have h30_ : PP M26_ (s - 1) E a T := codes_fin hp hM12_ hM27_ (lf_c_X12_lays_6 z6_ j13_ h14_ ) e7_ (lf_c_X12_codes_6 z6_ z19_ z24_ h23_ h25_ ) (by rw [← e3_]; exact z0 (lf_c_X12_here_4 z2_ h4_ h5_ )) hv
    exact w_vret rfl dX12_codes_27 ⟨hI28_, hF29_, h30_, ⟨z2_, e3_, h4_, (Or.inr ⟨h5_, z6_, e7_, h8_, h9_, j13_, h14_, M11_, hM12_, z19_, e20_, h21_, h22_, h23_, z24_, h25_, M26_, hM27_, h30_, rfl⟩)⟩⟩
def SP_X12_must (v : Int32) (s : Int) (D : Nat) (a : Int) (T : Int) (Mz : mM) (M_ : mM) : Prop := ∃ M2_ : mM, (InvD M2_) ∧ (FR (S_here) Mz M2_) ∧ (((SP_X12_takes v s D a T Mz (1 : Int32) M2_) ∧ ∃ M12_ : mM, (M12_ = up M2_ (12, 0, 0) 13 0) ∧ (PP M12_ (s + 1) D (a + 1) T) ∧ M_ = M12_) ∨ ((SP_X12_takes v s D a T Mz (0 : Int32) M2_) ∧ ∃ M20_ : mM, (M20_ = up M2_ (12, 0, 0) 13 1) ∧ (PP M20_ s D a T) ∧ M_ = M20_))
set_option maxHeartbeats 4000000 in
set_option maxRecDepth 100000 in
theorem c_X12_must (l : Launch) (G : va_G) (cy : Nat → ClassId) (ad : rf → Nat) (d : Nat) (v : Int32) (s : Int) (D : Nat) (a : Int) (T : Int) (Mz : mM) (hIz : InvD Mz) (hp : PP Mz s D a T) (hv : 0 ≤ v.toInt) : WP DD l G cy ad yX12_must cX12_must 2 none (d + 2) 0 [(0, vR (12, 0, 0)), (1, vI v)] [] Mz (fun r M' => InvD M' ∧ FR (S_must) Mz M' ∧ (PP M' s D a T) ∧ SP_X12_must v s D a T Mz M') := by
  have hFz : FR (S_must) Mz Mz := FR.self
  refine w_aload_n dX12_must_0 rfl 0 rfl ?_
  refine w_aload_n dX12_must_1 rfl 0 rfl ?_
  refine w_iload_n dX12_must_2 rfl 1 rfl ?_
  refine w_callV (as := [vI v]) (rest := [vR (12, 0, 0)]) (c_X12_takes l G cy ad d v s D a T Mz hIz hp hv) kV_X12_takes pnn_17 (Nat.le_of_ble_eq_true rfl) m_1591 rfl rfl rfl ic_12 rfl rfl (by decide) (Nat.le_of_ble_eq_true rfl) dX12_must_3 (fun r1_ M2_ q3_ => ?_)
  obtain ⟨hI5_, hF6_, h4_, hs8_⟩ := q3_
  have hF7_ := hFz.tr hF6_ (fun c k => (fun h => h.elim (fun h => (Or.inl ⟨h.1, h.2.1, h.2.2⟩)) (fun h => h.elim)))
  rcases h4_ with ⟨rfl, h4_⟩ | ⟨rfl, h4_⟩
  · have h9_ : PP M2_ (s + 1) D (a + 1) T := h4_.1
    have kf10_ : M2_.1 (12, 0, 0) 13 = 0 := h4_.2
    refine w_if_ne (tgt := 13) dX12_must_6 (by decide) li_1 (fun h11_ => ?_) (fun h9 => (absurd h9 (by decide)))
    refine w_iconst (v := 0) dX12_must_13 (by decide) ?_
    refine w_putZ DD_nd fl_RX12_151 rfl rfl ic_12 ⟨by decide, by decide⟩ dX12_must_14 (fun M12_ hM13_ => ?_)
    have hI14_ := hI5_.put hM13_ ⟨⟨by decide, by decide⟩, Or.inl (by decide)⟩
    have hF15_ := hF7_.put hM13_ (Or.inr (Or.inl ⟨rfl, rfl, rfl⟩))
    have h16_ : PP M12_ (s + 1) D (a + 1) T := PP_put0 h9_ hM13_ kf10_
    have kf17_ : M12_.1 (12, 0, 0) 13 = 0 := up_s hM13_
    have kf18_ : (M12_.1 (12, 0, 0) 13).toInt = 0 := by rw [kf17_]; decide
    exact w_vret rfl dX12_must_17 ⟨hI14_, hF15_, (PP_mono h16_ (lf_c_X12_here_19 s ) (lf_c_X12_here_19 a )), ⟨M2_, hI5_, hF6_, (Or.inl ⟨hs8_, M12_, hM13_, h16_, rfl⟩)⟩⟩
  · refine w_if_ne (tgt := 13) dX12_must_6 (by decide) li_0 (fun h9 => (absurd h9 (by decide))) (fun h19_ => ?_)
    refine w_iconst (v := 1) dX12_must_9 (by decide) ?_
    refine w_goto (tgt := 14) dX12_must_10 (by decide) ?_
    refine w_putZ DD_nd fl_RX12_151 rfl rfl ic_12 ⟨by decide, by decide⟩ dX12_must_14 (fun M20_ hM21_ => ?_)
    have hI22_ := hI5_.put hM21_ ⟨⟨by decide, by decide⟩, Or.inl (by decide)⟩
    have hF23_ := hF7_.put hM21_ (Or.inr (Or.inl ⟨rfl, rfl, rfl⟩))
    have h24_ : PP M20_ s D a T := PP_put1 h4_ hM21_
    have kf25_ : M20_.1 (12, 0, 0) 13 = 1 := up_s hM21_
    have kf26_ : (M20_.1 (12, 0, 0) 13).toInt = 1 := by rw [kf25_]; decide
    exact w_vret rfl dX12_must_17 ⟨hI22_, hF23_, h24_, ⟨M2_, hI5_, hF6_, (Or.inr ⟨hs8_, M20_, hM21_, h24_, rfl⟩)⟩⟩
end
section
/-! words of the tables that are used, by their places; decode rows; fields -/
set_option maxRecDepth 20000 in
theorem m_1601 : Cond.instanceMethod yS_charAt ∈ BASE := bmT7 83 rfl rfl
set_option maxRecDepth 20000 in
theorem m_1602 : Cond.selects yS_charAt.cls yS_charAt yS_charAt ∈ BASE := bmT7 84 rfl rfl
set_option maxRecDepth 20000 in
theorem m_1603 : Cond.code yS_charAt cS_charAt 2 (some .char) ∈ BASE := bmT7 85 rfl rfl
theorem kV_S_charAt : KV yS_charAt cS_charAt 2 (some .char) 1 := ⟨m_1601, m_1602, m_93, m_1603, nhM_15, nhV_15, pdn_42⟩
end
section
/-! constant Strings: length, charAt -/
def CHX (k : Nat) (x z : Int32) (M : mM) : Prop := match k with
  | 0 => SP_S_charAt_0 x M z
  | 1 => SP_S_charAt_1 x M z
  | 2 => SP_S_charAt_2 x M z
  | 3 => SP_S_charAt_3 x M z
  | 4 => SP_S_charAt_4 x M z
  | 5 => SP_S_charAt_5 x M z
  | 6 => SP_S_charAt_6 x M z
  | _ => False
section WPST
variable {cls : List rf} {l : Launch} {G : va_G} {cy : Nat → ClassId} {ad : rf → Nat} {y : MethodName} {b : ByteArray} {n : Nat} {r : Option FieldType} {d : Nat} {pc : Nat} {ls : List (Nat × mV)} {st : List mV} {M : mM} {Q : Int32 → mM → Prop}
theorem w_strlen {k : Nat} {bs : List Int32} {v : Int32} {idx : Nat} (hk : SBs[k]? = some bs) (hl1 : Cond.methodLink y.cls idx yS_length ∈ BASE) (hs : st.length ≤ 4) (hd1 : 8 ≤ d) (hd : decode b pc = .ok (.invokevirtual idx, 3)) (hv : Int32.ofNat bs.length = v) (kk : WP cls l G cy ad y b n r d (pc + 3) ls (vI v :: st) M Q) : WP cls l G cy ad y b n r d pc ls (vR (91, k, 0) :: st) M Q := by
  obtain ⟨e, rfl⟩ : ∃ e : Nat, d = e + 1 + 1 := ⟨d - 2, by omega⟩
  subst hv
  match k, hk with
  | 0, hk => cases hk; exact w_callStr (k := 0) rfl (as := []) (rest := st) (c_S_length_0 l G cy ad e M) kV_S_length pnn_15 rfl (Nat.le_of_ble_eq_true rfl) hl1 rfl rfl (by decide) hs hd (fun v M9 q => by obtain ⟨rfl, rfl, -⟩ := q; exact kk)
  | 1, hk => cases hk; exact w_callStr (k := 1) rfl (as := []) (rest := st) (c_S_length_1 l G cy ad e M) kV_S_length pnn_15 rfl (Nat.le_of_ble_eq_true rfl) hl1 rfl rfl (by decide) hs hd (fun v M9 q => by obtain ⟨rfl, rfl, -⟩ := q; exact kk)
  | 2, hk => cases hk; exact w_callStr (k := 2) rfl (as := []) (rest := st) (c_S_length_2 l G cy ad e M) kV_S_length pnn_15 rfl (Nat.le_of_ble_eq_true rfl) hl1 rfl rfl (by decide) hs hd (fun v M9 q => by obtain ⟨rfl, rfl, -⟩ := q; exact kk)
  | 3, hk => cases hk; exact w_callStr (k := 3) rfl (as := []) (rest := st) (c_S_length_3 l G cy ad e M) kV_S_length pnn_15 rfl (Nat.le_of_ble_eq_true rfl) hl1 rfl rfl (by decide) hs hd (fun v M9 q => by obtain ⟨rfl, rfl, -⟩ := q; exact kk)
  | 4, hk => cases hk; exact w_callStr (k := 4) rfl (as := []) (rest := st) (c_S_length_4 l G cy ad e M) kV_S_length pnn_15 rfl (Nat.le_of_ble_eq_true rfl) hl1 rfl rfl (by decide) hs hd (fun v M9 q => by obtain ⟨rfl, rfl, -⟩ := q; exact kk)
  | 5, hk => cases hk; exact w_callStr (k := 5) rfl (as := []) (rest := st) (c_S_length_5 l G cy ad e M) kV_S_length pnn_15 rfl (Nat.le_of_ble_eq_true rfl) hl1 rfl rfl (by decide) hs hd (fun v M9 q => by obtain ⟨rfl, rfl, -⟩ := q; exact kk)
  | 6, hk => cases hk; exact w_callStr (k := 6) rfl (as := []) (rest := st) (c_S_length_6 l G cy ad e M) kV_S_length pnn_15 rfl (Nat.le_of_ble_eq_true rfl) hl1 rfl rfl (by decide) hs hd (fun v M9 q => by obtain ⟨rfl, rfl, -⟩ := q; exact kk)
  | k + 7, hk => exact absurd hk (by simp [SBs])
theorem w_charAt {k : Nat} {bs : List Int32} {x : Int32} {idx : Nat} (hk : SBs[k]? = some bs) (hl1 : Cond.methodLink y.cls idx yS_charAt ∈ BASE) (hs : st.length ≤ 4) (hd1 : 8 ≤ d) (hx : 0 ≤ x.toInt ∧ x.toInt < (bs.length : Int)) (hd : decode b pc = .ok (.invokevirtual idx, 3)) (kk : ∀ z : Int32, CHX k x z M → WP cls l G cy ad y b n r d (pc + 3) ls (vI z :: st) M Q) : WP cls l G cy ad y b n r d pc ls (vI x :: vR (91, k, 0) :: st) M Q := by
  obtain ⟨e, rfl⟩ : ∃ e : Nat, d = e + 4 + 1 := ⟨d - 5, by omega⟩
  match k, hk with
  | 0, hk => cases hk; exact w_callStr (k := 0) rfl (as := [vI x]) (rest := st) (c_S_charAt_0 l G cy ad e x M hx) kV_S_charAt pnn_15 rfl (Nat.le_of_ble_eq_true rfl) hl1 rfl rfl (by decide) hs hd (fun v M9 q => by obtain ⟨rfl, -, hs_⟩ := q; exact kk v hs_)
  | 1, hk => cases hk; exact w_callStr (k := 1) rfl (as := [vI x]) (rest := st) (c_S_charAt_1 l G cy ad e x M hx) kV_S_charAt pnn_15 rfl (Nat.le_of_ble_eq_true rfl) hl1 rfl rfl (by decide) hs hd (fun v M9 q => by obtain ⟨rfl, -, hs_⟩ := q; exact kk v hs_)
  | 2, hk => cases hk; exact w_callStr (k := 2) rfl (as := [vI x]) (rest := st) (c_S_charAt_2 l G cy ad e x M hx) kV_S_charAt pnn_15 rfl (Nat.le_of_ble_eq_true rfl) hl1 rfl rfl (by decide) hs hd (fun v M9 q => by obtain ⟨rfl, -, hs_⟩ := q; exact kk v hs_)
  | 3, hk => cases hk; exact w_callStr (k := 3) rfl (as := [vI x]) (rest := st) (c_S_charAt_3 l G cy ad e x M hx) kV_S_charAt pnn_15 rfl (Nat.le_of_ble_eq_true rfl) hl1 rfl rfl (by decide) hs hd (fun v M9 q => by obtain ⟨rfl, -, hs_⟩ := q; exact kk v hs_)
  | 4, hk => cases hk; exact w_callStr (k := 4) rfl (as := [vI x]) (rest := st) (c_S_charAt_4 l G cy ad e x M hx) kV_S_charAt pnn_15 rfl (Nat.le_of_ble_eq_true rfl) hl1 rfl rfl (by decide) hs hd (fun v M9 q => by obtain ⟨rfl, -, hs_⟩ := q; exact kk v hs_)
  | 5, hk => cases hk; exact w_callStr (k := 5) rfl (as := [vI x]) (rest := st) (c_S_charAt_5 l G cy ad e x M hx) kV_S_charAt pnn_15 rfl (Nat.le_of_ble_eq_true rfl) hl1 rfl rfl (by decide) hs hd (fun v M9 q => by obtain ⟨rfl, -, hs_⟩ := q; exact kk v hs_)
  | 6, hk => cases hk; exact w_callStr (k := 6) rfl (as := [vI x]) (rest := st) (c_S_charAt_6 l G cy ad e x M hx) kV_S_charAt pnn_15 rfl (Nat.le_of_ble_eq_true rfl) hl1 rfl rfl (by decide) hs hd (fun v M9 q => by obtain ⟨rfl, -, hs_⟩ := q; exact kk v hs_)
  | k + 7, hk => exact absurd hk (by simp [SBs])
end WPST
end
section
/-! words of the tables that are used, by their places; decode rows; fields -/
set_option maxRecDepth 20000 in
theorem m_1331 : Cond.fieldLink RX12 40 "ClickStreetModel" "NAMED" "[Ljava/lang/String;" ∈ BASE := bmT6 53 rfl rfl
set_option maxRecDepth 20000 in
theorem m_1333 : Cond.fieldLink RX12 181 "ClickStreetModel" "use" "I" ∈ BASE := bmT6 55 rfl rfl
set_option maxRecDepth 20000 in
theorem m_1599 : Cond.methodLink RX12 184 yS_length ∈ BASE := bmT7 81 rfl rfl
set_option maxRecDepth 20000 in
theorem m_1600 : Cond.methodLink RX12 187 yS_charAt ∈ BASE := bmT7 82 rfl rfl
theorem fl_RX12_181 : FLK RX12 181 12 10 .int false := ⟨RX12, TX12, 33, tyX12, rfl, inB12, tyX12_ok, nmX12, by decide, rfl, rfl, Or.inl m_1333⟩
theorem fl_RX12_40 : FLK RX12 40 12 8 (.array (.object "java/lang/String")) true := ⟨RX12, TX12, 33, tyX12, rfl, inB12, tyX12_ok, nmX12, by decide, rfl, rfl, Or.inl m_1331⟩
theorem ch_cX12_nameOf_0 : (cX12_nameOf.data.toList.drop 0).take 36 = [2, 61, 3, 62, 29, 42, 180, 0, 40, 42, 180, 0, 181, 50, 182, 0, 184, 162, 0, 32, 42, 180, 0, 40, 42, 180, 0, 181, 50, 29, 182, 0, 187, 27, 160, 0] := by decide +kernel
theorem dX12_nameOf_0 : decode cX12_nameOf 0 = .ok (.iconst (-1), 1) := do_2 (rdb (p := 0) (i := 0) ch_cX12_nameOf_0 rfl)
theorem dX12_nameOf_1 : decode cX12_nameOf 1 = .ok (.istore_n 2, 1) := do_61 (rdb (p := 0) (i := 1) ch_cX12_nameOf_0 rfl)
theorem dX12_nameOf_2 : decode cX12_nameOf 2 = .ok (.iconst 0, 1) := do_3 (rdb (p := 0) (i := 2) ch_cX12_nameOf_0 rfl)
theorem dX12_nameOf_3 : decode cX12_nameOf 3 = .ok (.istore_n 3, 1) := do_62 (rdb (p := 0) (i := 3) ch_cX12_nameOf_0 rfl)
theorem dX12_nameOf_4 : decode cX12_nameOf 4 = .ok (.iload_n 3, 1) := do_29 (rdb (p := 0) (i := 4) ch_cX12_nameOf_0 rfl)
theorem dX12_nameOf_5 : decode cX12_nameOf 5 = .ok (.aload_n 0, 1) := do_42 (rdb (p := 0) (i := 5) ch_cX12_nameOf_0 rfl)
theorem dX12_nameOf_6 : decode cX12_nameOf 6 = .ok (.getfield 40, 3) := do_180 (rdb (p := 0) (i := 6) ch_cX12_nameOf_0 rfl) (rdb (p := 0) (i := 7) ch_cX12_nameOf_0 rfl) (rdb (p := 0) (i := 8) ch_cX12_nameOf_0 rfl) rfl
theorem dX12_nameOf_9 : decode cX12_nameOf 9 = .ok (.aload_n 0, 1) := do_42 (rdb (p := 0) (i := 9) ch_cX12_nameOf_0 rfl)
theorem dX12_nameOf_10 : decode cX12_nameOf 10 = .ok (.getfield 181, 3) := do_180 (rdb (p := 0) (i := 10) ch_cX12_nameOf_0 rfl) (rdb (p := 0) (i := 11) ch_cX12_nameOf_0 rfl) (rdb (p := 0) (i := 12) ch_cX12_nameOf_0 rfl) rfl
theorem dX12_nameOf_13 : decode cX12_nameOf 13 = .ok (.aaload, 1) := do_50 (rdb (p := 0) (i := 13) ch_cX12_nameOf_0 rfl)
theorem dX12_nameOf_14 : decode cX12_nameOf 14 = .ok (.invokevirtual 184, 3) := do_182 (rdb (p := 0) (i := 14) ch_cX12_nameOf_0 rfl) (rdb (p := 0) (i := 15) ch_cX12_nameOf_0 rfl) (rdb (p := 0) (i := 16) ch_cX12_nameOf_0 rfl) rfl
theorem dX12_nameOf_17 : decode cX12_nameOf 17 = .ok (.if_icmp .ge 32, 3) := do_162 (rdb (p := 0) (i := 17) ch_cX12_nameOf_0 rfl) (rdb (p := 0) (i := 18) ch_cX12_nameOf_0 rfl) (rdb (p := 0) (i := 19) ch_cX12_nameOf_0 rfl) (by decide +kernel)
theorem dX12_nameOf_20 : decode cX12_nameOf 20 = .ok (.aload_n 0, 1) := do_42 (rdb (p := 0) (i := 20) ch_cX12_nameOf_0 rfl)
theorem dX12_nameOf_21 : decode cX12_nameOf 21 = .ok (.getfield 40, 3) := do_180 (rdb (p := 0) (i := 21) ch_cX12_nameOf_0 rfl) (rdb (p := 0) (i := 22) ch_cX12_nameOf_0 rfl) (rdb (p := 0) (i := 23) ch_cX12_nameOf_0 rfl) rfl
theorem dX12_nameOf_24 : decode cX12_nameOf 24 = .ok (.aload_n 0, 1) := do_42 (rdb (p := 0) (i := 24) ch_cX12_nameOf_0 rfl)
theorem dX12_nameOf_25 : decode cX12_nameOf 25 = .ok (.getfield 181, 3) := do_180 (rdb (p := 0) (i := 25) ch_cX12_nameOf_0 rfl) (rdb (p := 0) (i := 26) ch_cX12_nameOf_0 rfl) (rdb (p := 0) (i := 27) ch_cX12_nameOf_0 rfl) rfl
theorem dX12_nameOf_28 : decode cX12_nameOf 28 = .ok (.aaload, 1) := do_50 (rdb (p := 0) (i := 28) ch_cX12_nameOf_0 rfl)
theorem dX12_nameOf_29 : decode cX12_nameOf 29 = .ok (.iload_n 3, 1) := do_29 (rdb (p := 0) (i := 29) ch_cX12_nameOf_0 rfl)
theorem dX12_nameOf_30 : decode cX12_nameOf 30 = .ok (.invokevirtual 187, 3) := do_182 (rdb (p := 0) (i := 30) ch_cX12_nameOf_0 rfl) (rdb (p := 0) (i := 31) ch_cX12_nameOf_0 rfl) (rdb (p := 0) (i := 32) ch_cX12_nameOf_0 rfl) rfl
theorem ch_cX12_nameOf_32 : (cX12_nameOf.data.toList.drop 32).take 36 = [187, 27, 160, 0, 7, 29, 167, 0, 4, 28, 61, 132, 3, 1, 167, 255, 214, 28, 172] := by decide +kernel
theorem dX12_nameOf_33 : decode cX12_nameOf 33 = .ok (.iload_n 1, 1) := do_27 (rdb (p := 32) (i := 1) ch_cX12_nameOf_32 rfl)
theorem dX12_nameOf_34 : decode cX12_nameOf 34 = .ok (.if_icmp .ne 7, 3) := do_160 (rdb (p := 32) (i := 2) ch_cX12_nameOf_32 rfl) (rdb (p := 32) (i := 3) ch_cX12_nameOf_32 rfl) (rdb (p := 32) (i := 4) ch_cX12_nameOf_32 rfl) (by decide +kernel)
theorem dX12_nameOf_37 : decode cX12_nameOf 37 = .ok (.iload_n 3, 1) := do_29 (rdb (p := 32) (i := 5) ch_cX12_nameOf_32 rfl)
theorem dX12_nameOf_38 : decode cX12_nameOf 38 = .ok (.goto 4, 3) := do_167 (rdb (p := 32) (i := 6) ch_cX12_nameOf_32 rfl) (rdb (p := 32) (i := 7) ch_cX12_nameOf_32 rfl) (rdb (p := 32) (i := 8) ch_cX12_nameOf_32 rfl) (by decide +kernel)
theorem dX12_nameOf_41 : decode cX12_nameOf 41 = .ok (.iload_n 2, 1) := do_28 (rdb (p := 32) (i := 9) ch_cX12_nameOf_32 rfl)
theorem dX12_nameOf_42 : decode cX12_nameOf 42 = .ok (.istore_n 2, 1) := do_61 (rdb (p := 32) (i := 10) ch_cX12_nameOf_32 rfl)
theorem dX12_nameOf_43 : decode cX12_nameOf 43 = .ok (.iinc 3 1, 3) := do_132 (rdb (p := 32) (i := 11) ch_cX12_nameOf_32 rfl) (rdb (p := 32) (i := 12) ch_cX12_nameOf_32 rfl) (rdb (p := 32) (i := 13) ch_cX12_nameOf_32 rfl) (by decide +kernel)
theorem dX12_nameOf_46 : decode cX12_nameOf 46 = .ok (.goto (-42), 3) := do_167 (rdb (p := 32) (i := 14) ch_cX12_nameOf_32 rfl) (rdb (p := 32) (i := 15) ch_cX12_nameOf_32 rfl) (rdb (p := 32) (i := 16) ch_cX12_nameOf_32 rfl) (by decide +kernel)
theorem dX12_nameOf_49 : decode cX12_nameOf 49 = .ok (.iload_n 2, 1) := do_28 (rdb (p := 32) (i := 17) ch_cX12_nameOf_32 rfl)
theorem dX12_nameOf_50 : decode cX12_nameOf 50 = .ok (.ireturn, 1) := do_172 (rdb (p := 32) (i := 18) ch_cX12_nameOf_32 rfl)
end
section
def ST_X12_nameOf_4 (v : Int32) (Mz : mM) (v3_4 : Int32) (v2_4 : Int32) (v3_4y : Int32) (v2_4y : Int32) : Prop := (0 ≤ v3_4.toInt) ∧ (-1 ≤ v2_4.toInt ∧ v2_4.toInt ≤ 4) ∧ (v3_4.toInt ≤ 5) ∧ ∃ z3_ : Int32, (z3_ = Mz.1 (12, 0, 0) 10) ∧ (0 ≤ z3_.toInt ∧ z3_.toInt ≤ 2) ∧ (z3_.toInt = 0) ∧ (v3_4.toInt < 4) ∧ ∃ z10_ : Int32, (CHX 4 v3_4 z10_ Mz) ∧ (((¬ z10_.toInt = v.toInt) ∧ ∃ z12_ : Int32, (z12_.toInt = v3_4.toInt + 1) ∧ v3_4y = z12_ ∧ v2_4y = v2_4) ∨ ((z10_.toInt = v.toInt) ∧ ∃ z14_ : Int32, (z14_.toInt = v3_4.toInt + 1) ∧ v3_4y = z14_ ∧ v2_4y = v3_4))
def ST_X12_nameOf_4b (v : Int32) (Mz : mM) (v3_4 : Int32) (v2_4 : Int32) (v3_4y : Int32) (v2_4y : Int32) : Prop := (0 ≤ v3_4.toInt) ∧ (-1 ≤ v2_4.toInt ∧ v2_4.toInt ≤ 4) ∧ (v3_4.toInt ≤ 5) ∧ ∃ z17_ : Int32, (z17_ = Mz.1 (12, 0, 0) 10) ∧ (0 ≤ z17_.toInt ∧ z17_.toInt ≤ 2) ∧ (z17_.toInt = 1) ∧ (v3_4.toInt < 3) ∧ ∃ z24_ : Int32, (CHX 5 v3_4 z24_ Mz) ∧ (((¬ z24_.toInt = v.toInt) ∧ ∃ z26_ : Int32, (z26_.toInt = v3_4.toInt + 1) ∧ v3_4y = z26_ ∧ v2_4y = v2_4) ∨ ((z24_.toInt = v.toInt) ∧ ∃ z28_ : Int32, (z28_.toInt = v3_4.toInt + 1) ∧ v3_4y = z28_ ∧ v2_4y = v3_4))
def ST_X12_nameOf_4c (v : Int32) (Mz : mM) (v3_4 : Int32) (v2_4 : Int32) (v3_4y : Int32) (v2_4y : Int32) : Prop := (0 ≤ v3_4.toInt) ∧ (-1 ≤ v2_4.toInt ∧ v2_4.toInt ≤ 4) ∧ (v3_4.toInt ≤ 5) ∧ ∃ z31_ : Int32, (z31_ = Mz.1 (12, 0, 0) 10) ∧ (0 ≤ z31_.toInt ∧ z31_.toInt ≤ 2) ∧ (z31_.toInt = 2) ∧ (v3_4.toInt < 5) ∧ ∃ z38_ : Int32, (CHX 6 v3_4 z38_ Mz) ∧ (((¬ z38_.toInt = v.toInt) ∧ ∃ z40_ : Int32, (z40_.toInt = v3_4.toInt + 1) ∧ v3_4y = z40_ ∧ v2_4y = v2_4) ∨ ((z38_.toInt = v.toInt) ∧ ∃ z42_ : Int32, (z42_.toInt = v3_4.toInt + 1) ∧ v3_4y = z42_ ∧ v2_4y = v3_4))
def SP_X12_nameOf (v : Int32) (Mz : mM) (r_ : Int32) : Prop := ((((Mz.1 (12, 0, 0) 10).toInt = 0) ∧ ∃ v3_4 : Int32, (0 ≤ v3_4.toInt) ∧ ∃ v2_4 : Int32, (-1 ≤ v2_4.toInt ∧ v2_4.toInt ≤ 4) ∧ (v3_4.toInt ≤ 5) ∧ (RCH (fun x_ y_ => ST_X12_nameOf_4 v Mz x_.1 x_.2 y_.1 y_.2) ((0 : Int32), ((-1) : Int32)) (v3_4, v2_4)) ∧ ∃ z3_ : Int32, (z3_ = Mz.1 (12, 0, 0) 10) ∧ (0 ≤ z3_.toInt ∧ z3_.toInt ≤ 2) ∧ (z3_.toInt = 0) ∧ (4 ≤ v3_4.toInt) ∧ r_ = v2_4) ∨ (((Mz.1 (12, 0, 0) 10).toInt = 1) ∧ ∃ v3_4 : Int32, (0 ≤ v3_4.toInt) ∧ ∃ v2_4 : Int32, (-1 ≤ v2_4.toInt ∧ v2_4.toInt ≤ 4) ∧ (v3_4.toInt ≤ 5) ∧ (RCH (fun x_ y_ => ST_X12_nameOf_4b v Mz x_.1 x_.2 y_.1 y_.2) ((0 : Int32), ((-1) : Int32)) (v3_4, v2_4)) ∧ ∃ z17_ : Int32, (z17_ = Mz.1 (12, 0, 0) 10) ∧ (0 ≤ z17_.toInt ∧ z17_.toInt ≤ 2) ∧ (z17_.toInt = 1) ∧ (3 ≤ v3_4.toInt) ∧ r_ = v2_4) ∨ (((Mz.1 (12, 0, 0) 10).toInt = 2) ∧ ∃ v3_4 : Int32, (0 ≤ v3_4.toInt) ∧ ∃ v2_4 : Int32, (-1 ≤ v2_4.toInt ∧ v2_4.toInt ≤ 4) ∧ (v3_4.toInt ≤ 5) ∧ (RCH (fun x_ y_ => ST_X12_nameOf_4c v Mz x_.1 x_.2 y_.1 y_.2) ((0 : Int32), ((-1) : Int32)) (v3_4, v2_4)) ∧ ∃ z31_ : Int32, (z31_ = Mz.1 (12, 0, 0) 10) ∧ (0 ≤ z31_.toInt ∧ z31_.toInt ≤ 2) ∧ (z31_.toInt = 2) ∧ (5 ≤ v3_4.toInt) ∧ r_ = v2_4))
theorem lf_c_X12_nameOf_0 (v3_4 : Int32) (hv0_4 : 0 ≤ v3_4.toInt) (h7_ : v3_4.toInt < 4) : 0 ≤ v3_4.toInt ∧ v3_4.toInt < 4 := by omega
theorem lf_c_X12_nameOf_1 (v3_4 : Int32) (hv0_4 : 0 ≤ v3_4.toInt) (h7_ : v3_4.toInt < 4) : -2147483648 ≤ v3_4.toInt + 1 ∧ v3_4.toInt + 1 < 2147483648 := by omega
theorem lf_c_X12_nameOf_3 (v3_4 : Int32) (z12_ : Int32) (h7_ : v3_4.toInt < 4) (h13_ : z12_.toInt = v3_4.toInt + 1) : z12_.toInt ≤ 5 := by omega
theorem lf_c_X12_nameOf_4 (v3_4 : Int32) (z12_ : Int32) (h7_ : v3_4.toInt < 4) (h13_ : z12_.toInt = v3_4.toInt + 1) : (2147483648 - z12_.toInt).toNat < (2147483648 - v3_4.toInt).toNat := by omega
theorem lf_c_X12_nameOf_7 (v3_4 : Int32) (hv0_4 : 0 ≤ v3_4.toInt) (h7_ : v3_4.toInt < 4) : -1 ≤ v3_4.toInt ∧ v3_4.toInt ≤ 4 := by omega
theorem lf_c_X12_nameOf_11 : -1 ≤ ((-1) : Int32).toInt ∧ ((-1) : Int32).toInt ≤ 4 := by have q0 := li_m1; have q1 := li_0; omega
theorem lf_c_X12_nameOf_12 : (0 : Int32).toInt ≤ 5 := by have q0 := li_m1; have q1 := li_0; omega
theorem lf_c_X12_nameOf_13 (v3_4 : Int32) (hv0_4 : 0 ≤ v3_4.toInt) (h21_ : v3_4.toInt < 3) : 0 ≤ v3_4.toInt ∧ v3_4.toInt < 3 := by omega
theorem lf_c_X12_nameOf_16 (v3_4 : Int32) (z26_ : Int32) (h21_ : v3_4.toInt < 3) (h27_ : z26_.toInt = v3_4.toInt + 1) : z26_.toInt ≤ 5 := by omega
theorem lf_c_X12_nameOf_20 (v3_4 : Int32) (hv0_4 : 0 ≤ v3_4.toInt) (h21_ : v3_4.toInt < 3) : -1 ≤ v3_4.toInt ∧ v3_4.toInt ≤ 4 := by omega
theorem lf_c_X12_nameOf_26 (v3_4 : Int32) (hv0_4 : 0 ≤ v3_4.toInt) (h35_ : v3_4.toInt < 5) : 0 ≤ v3_4.toInt ∧ v3_4.toInt < 5 := by omega
theorem lf_c_X12_nameOf_33 (v3_4 : Int32) (hv0_4 : 0 ≤ v3_4.toInt) (h35_ : v3_4.toInt < 5) : -1 ≤ v3_4.toInt ∧ v3_4.toInt ≤ 4 := by omega
set_option maxHeartbeats 4000000 in
set_option maxRecDepth 100000 in
theorem c_X12_nameOf (l : Launch) (G : va_G) (cy : Nat → ClassId) (ad : rf → Nat) (d : Nat) (v : Int32) (Mz : mM) (hIz : InvD Mz) : WP DD l G cy ad yX12_nameOf cX12_nameOf 4 (some .int) (d + 8) 0 [(0, vR (12, 0, 0)), (1, vI v)] [] Mz (fun r M' => Mz = M' ∧ (-1 ≤ r.toInt ∧ r.toInt ≤ 4) ∧ SP_X12_nameOf v Mz r) := by
  rcases use3 hIz with h1_ | h1_ | h1_
  · refine w_iconst (v := (-1)) dX12_nameOf_0 (by decide) ?_
    refine w_istore_n (ls' := [(2, vI (-1)), (0, vR (12, 0, 0)), (1, vI v)]) dX12_nameOf_1 rfl (by decide) rfl ?_
    refine w_iconst (v := 0) dX12_nameOf_2 (by decide) ?_
    refine w_istore_n (ls' := [(3, vI 0), (2, vI (-1)), (0, vR (12, 0, 0)), (1, vI v)]) dX12_nameOf_3 rfl (by decide) rfl ?_
    have lp2_ : ∀ (nn_4 : Nat) (v3_4 : Int32) (v2_4 : Int32) (hv0_4 : 0 ≤ v3_4.toInt) (hv1_4 : -1 ≤ v2_4.toInt ∧ v2_4.toInt ≤ 4) (hv2_4 : v3_4.toInt ≤ 5) (hL_4 : RCH (fun x_ y_ => ST_X12_nameOf_4 v Mz x_.1 x_.2 y_.1 y_.2) ((0 : Int32), ((-1) : Int32)) (v3_4, v2_4)), (2147483648 - v3_4.toInt).toNat < nn_4 → WP DD l G cy ad yX12_nameOf cX12_nameOf 4 (some .int) (d + 8) 4 [(3, vI v3_4), (2, vI v2_4), (0, vR (12, 0, 0)), (1, vI v)] [] Mz (fun r M' => Mz = M' ∧ (-1 ≤ r.toInt ∧ r.toInt ≤ 4) ∧ SP_X12_nameOf v Mz r) := by
      intro nn_4
      induction nn_4 with
      | zero => intro v3_4 v2_4 hv0_4 hv1_4 hv2_4 hL_4 hm_4; exact absurd hm_4 (Nat.not_lt_zero _)
      | succ nn_4 ih_4 =>
        intro v3_4 v2_4 hv0_4 hv1_4 hv2_4 hL_4 hm_4
        refine w_iload_n dX12_nameOf_4 rfl 0 rfl ?_
        refine w_aload_n dX12_nameOf_5 rfl 2 rfl ?_
        refine w_getR (c' := (56, 0, 0)) fl_RX12_40 rfl rfl ic_12 dX12_nameOf_6 rfl ?_
        refine w_aload_n dX12_nameOf_9 rfl 2 rfl ?_
        refine w_getI fl_RX12_181 rfl rfl ic_12 dX12_nameOf_10 (fun z3_ e4_ => ?_)
        have h5_ : 0 ≤ z3_.toInt ∧ z3_.toInt ≤ 2 := ofEq (P := fun v => 0 ≤ v.toInt ∧ v.toInt ≤ 2) e4_ (hIz.1 (12, 0, 0) 10)
        have h6_ : z3_.toInt = 0 := by rw [e4_]; exact h1_
        refine w_aaldL 0 rfl rfl rfl (fun _ => rfl) ic_56 h6_ (by decide) dX12_nameOf_13 ?_
        refine w_strlen (k := 4) (v := 4) rfl m_1599 (Nat.le_of_ble_eq_true rfl) (by omega) dX12_nameOf_14 rfl ?_
        refine w_icmp_ge (tgt := 49) dX12_nameOf_17 (by decide) (rfl : v3_4.toInt = v3_4.toInt) li_4 (fun h7_ => ?_) (fun h7_ => ?_)
        · refine w_iload_n dX12_nameOf_49 rfl 1 rfl ?_
          exact w_iret rfl dX12_nameOf_50 ⟨rfl, hv1_4, (Or.inl ⟨h1_, v3_4, hv0_4, v2_4, hv1_4, hv2_4, hL_4, z3_, e4_, h5_, h6_, h7_, rfl⟩)⟩
        · refine w_aload_n dX12_nameOf_20 rfl 2 rfl ?_
          refine w_getR (c' := (56, 0, 0)) fl_RX12_40 rfl rfl ic_12 dX12_nameOf_21 rfl ?_
          refine w_aload_n dX12_nameOf_24 rfl 2 rfl ?_
          refine w_getI fl_RX12_181 rfl rfl ic_12 dX12_nameOf_25 (fun z8_ e9_ => ?_)
          obtain rfl : z3_ = z8_ := e4_.trans e9_.symm
          refine w_aaldL 0 rfl rfl rfl (fun _ => rfl) ic_56 h6_ (by decide) dX12_nameOf_28 ?_
          refine w_iload_n dX12_nameOf_29 rfl 0 rfl ?_
          refine w_charAt (k := 4) rfl m_1600 (Nat.le_of_ble_eq_true rfl) (by omega) (lf_c_X12_nameOf_0 v3_4 hv0_4 h7_ ) dX12_nameOf_30 (fun z10_ z10_h => ?_)
          refine w_iload_n dX12_nameOf_33 rfl 3 rfl ?_
          refine w_icmp_ne (tgt := 41) dX12_nameOf_34 (by decide) (rfl : z10_.toInt = z10_.toInt) (rfl : v.toInt = v.toInt) (fun h11_ => ?_) (fun h11_ => ?_)
          · refine w_iload_n dX12_nameOf_41 rfl 1 rfl ?_
            refine w_istore_n (ls' := [(2, vI v2_4), (3, vI v3_4), (0, vR (12, 0, 0)), (1, vI v)]) dX12_nameOf_42 rfl (by decide) rfl ?_
            refine w_iincB (j := 1) (f := fun z12_ => [(3, vI z12_), (2, vI v2_4), (0, vR (12, 0, 0)), (1, vI v)]) dX12_nameOf_43 rfl (by decide) (fun _ => rfl) (rfl : v3_4.toInt = v3_4.toInt) li_1 (lf_c_X12_nameOf_1 v3_4 hv0_4 h7_ ) (fun z12_ h13_ => ?_)
            refine w_goto (tgt := 4) dX12_nameOf_46 (by decide) ?_
            refine w_loc (ls' := [(3, vI z12_), (2, vI v2_4), (0, vR (12, 0, 0)), (1, vI v)]) [0, 1, 2, 3] rfl ?_
            exact ih_4 z12_ v2_4 (lf_c_X5_takeFrom_3 v3_4 z12_ hv0_4 h13_ ) hv1_4 (lf_c_X12_nameOf_3 v3_4 z12_ h7_ h13_ ) (RCH.tail hL_4 ⟨hv0_4, hv1_4, hv2_4, z3_, e4_, h5_, h6_, h7_, z10_, z10_h, (Or.inl ⟨h11_, z12_, h13_, rfl, rfl⟩)⟩) (Nat.lt_of_lt_of_le (lf_c_X12_nameOf_4 v3_4 z12_ h7_ h13_ ) (Nat.le_of_lt_succ hm_4))
          · refine w_iload_n dX12_nameOf_37 rfl 0 rfl ?_
            refine w_goto (tgt := 42) dX12_nameOf_38 (by decide) ?_
            refine w_istore_n (ls' := [(2, vI v3_4), (3, vI v3_4), (0, vR (12, 0, 0)), (1, vI v)]) dX12_nameOf_42 rfl (by decide) rfl ?_
            refine w_iincB (j := 1) (f := fun z14_ => [(3, vI z14_), (2, vI v3_4), (0, vR (12, 0, 0)), (1, vI v)]) dX12_nameOf_43 rfl (by decide) (fun _ => rfl) (rfl : v3_4.toInt = v3_4.toInt) li_1 (lf_c_X12_nameOf_1 v3_4 hv0_4 h7_ ) (fun z14_ h15_ => ?_)
            refine w_goto (tgt := 4) dX12_nameOf_46 (by decide) ?_
            refine w_loc (ls' := [(3, vI z14_), (2, vI v3_4), (0, vR (12, 0, 0)), (1, vI v)]) [0, 1, 2, 3] rfl ?_
            exact ih_4 z14_ v3_4 (lf_c_X5_takeFrom_3 v3_4 z14_ hv0_4 h15_ ) (lf_c_X12_nameOf_7 v3_4 hv0_4 h7_ ) (lf_c_X12_nameOf_3 v3_4 z14_ h7_ h15_ ) (RCH.tail hL_4 ⟨hv0_4, hv1_4, hv2_4, z3_, e4_, h5_, h6_, h7_, z10_, z10_h, (Or.inr ⟨h11_, z14_, h15_, rfl, rfl⟩)⟩) (Nat.lt_of_lt_of_le (lf_c_X12_nameOf_4 v3_4 z14_ h7_ h15_ ) (Nat.le_of_lt_succ hm_4))
    exact lp2_ _ 0 (-1) (lf_c_X0_nearestOpen_29 ) (lf_c_X12_nameOf_11 ) (lf_c_X12_nameOf_12 ) RCH.refl (Nat.lt_succ_self _)
  · refine w_iconst (v := (-1)) dX12_nameOf_0 (by decide) ?_
    refine w_istore_n (ls' := [(2, vI (-1)), (0, vR (12, 0, 0)), (1, vI v)]) dX12_nameOf_1 rfl (by decide) rfl ?_
    refine w_iconst (v := 0) dX12_nameOf_2 (by decide) ?_
    refine w_istore_n (ls' := [(3, vI 0), (2, vI (-1)), (0, vR (12, 0, 0)), (1, vI v)]) dX12_nameOf_3 rfl (by decide) rfl ?_
    have lp16_ : ∀ (nn_4 : Nat) (v3_4 : Int32) (v2_4 : Int32) (hv0_4 : 0 ≤ v3_4.toInt) (hv1_4 : -1 ≤ v2_4.toInt ∧ v2_4.toInt ≤ 4) (hv2_4 : v3_4.toInt ≤ 5) (hL_4 : RCH (fun x_ y_ => ST_X12_nameOf_4b v Mz x_.1 x_.2 y_.1 y_.2) ((0 : Int32), ((-1) : Int32)) (v3_4, v2_4)), (2147483648 - v3_4.toInt).toNat < nn_4 → WP DD l G cy ad yX12_nameOf cX12_nameOf 4 (some .int) (d + 8) 4 [(3, vI v3_4), (2, vI v2_4), (0, vR (12, 0, 0)), (1, vI v)] [] Mz (fun r M' => Mz = M' ∧ (-1 ≤ r.toInt ∧ r.toInt ≤ 4) ∧ SP_X12_nameOf v Mz r) := by
      intro nn_4
      induction nn_4 with
      | zero => intro v3_4 v2_4 hv0_4 hv1_4 hv2_4 hL_4 hm_4; exact absurd hm_4 (Nat.not_lt_zero _)
      | succ nn_4 ih_4 =>
        intro v3_4 v2_4 hv0_4 hv1_4 hv2_4 hL_4 hm_4
        refine w_iload_n dX12_nameOf_4 rfl 0 rfl ?_
        refine w_aload_n dX12_nameOf_5 rfl 2 rfl ?_
        refine w_getR (c' := (56, 0, 0)) fl_RX12_40 rfl rfl ic_12 dX12_nameOf_6 rfl ?_
        refine w_aload_n dX12_nameOf_9 rfl 2 rfl ?_
        refine w_getI fl_RX12_181 rfl rfl ic_12 dX12_nameOf_10 (fun z17_ e18_ => ?_)
        have h19_ : 0 ≤ z17_.toInt ∧ z17_.toInt ≤ 2 := ofEq (P := fun v => 0 ≤ v.toInt ∧ v.toInt ≤ 2) e18_ (hIz.1 (12, 0, 0) 10)
        have h20_ : z17_.toInt = 1 := by rw [e18_]; exact h1_
        refine w_aaldL 1 rfl rfl rfl (fun _ => rfl) ic_56 h20_ (by decide) dX12_nameOf_13 ?_
        refine w_strlen (k := 5) (v := 3) rfl m_1599 (Nat.le_of_ble_eq_true rfl) (by omega) dX12_nameOf_14 rfl ?_
        refine w_icmp_ge (tgt := 49) dX12_nameOf_17 (by decide) (rfl : v3_4.toInt = v3_4.toInt) li_3 (fun h21_ => ?_) (fun h21_ => ?_)
        · refine w_iload_n dX12_nameOf_49 rfl 1 rfl ?_
          exact w_iret rfl dX12_nameOf_50 ⟨rfl, hv1_4, (Or.inr (Or.inl ⟨h1_, v3_4, hv0_4, v2_4, hv1_4, hv2_4, hL_4, z17_, e18_, h19_, h20_, h21_, rfl⟩))⟩
        · refine w_aload_n dX12_nameOf_20 rfl 2 rfl ?_
          refine w_getR (c' := (56, 0, 0)) fl_RX12_40 rfl rfl ic_12 dX12_nameOf_21 rfl ?_
          refine w_aload_n dX12_nameOf_24 rfl 2 rfl ?_
          refine w_getI fl_RX12_181 rfl rfl ic_12 dX12_nameOf_25 (fun z22_ e23_ => ?_)
          obtain rfl : z17_ = z22_ := e18_.trans e23_.symm
          refine w_aaldL 1 rfl rfl rfl (fun _ => rfl) ic_56 h20_ (by decide) dX12_nameOf_28 ?_
          refine w_iload_n dX12_nameOf_29 rfl 0 rfl ?_
          refine w_charAt (k := 5) rfl m_1600 (Nat.le_of_ble_eq_true rfl) (by omega) (lf_c_X12_nameOf_13 v3_4 hv0_4 h21_ ) dX12_nameOf_30 (fun z24_ z24_h => ?_)
          refine w_iload_n dX12_nameOf_33 rfl 3 rfl ?_
          refine w_icmp_ne (tgt := 41) dX12_nameOf_34 (by decide) (rfl : z24_.toInt = z24_.toInt) (rfl : v.toInt = v.toInt) (fun h25_ => ?_) (fun h25_ => ?_)
          · refine w_iload_n dX12_nameOf_41 rfl 1 rfl ?_
            refine w_istore_n (ls' := [(2, vI v2_4), (3, vI v3_4), (0, vR (12, 0, 0)), (1, vI v)]) dX12_nameOf_42 rfl (by decide) rfl ?_
            refine w_iincB (j := 1) (f := fun z26_ => [(3, vI z26_), (2, vI v2_4), (0, vR (12, 0, 0)), (1, vI v)]) dX12_nameOf_43 rfl (by decide) (fun _ => rfl) (rfl : v3_4.toInt = v3_4.toInt) li_1 (lf_c_X2_takeFrom_2 v3_4 hv0_4 h21_ ) (fun z26_ h27_ => ?_)
            refine w_goto (tgt := 4) dX12_nameOf_46 (by decide) ?_
            refine w_loc (ls' := [(3, vI z26_), (2, vI v2_4), (0, vR (12, 0, 0)), (1, vI v)]) [0, 1, 2, 3] rfl ?_
            exact ih_4 z26_ v2_4 (lf_c_X5_takeFrom_3 v3_4 z26_ hv0_4 h27_ ) hv1_4 (lf_c_X12_nameOf_16 v3_4 z26_ h21_ h27_ ) (RCH.tail hL_4 ⟨hv0_4, hv1_4, hv2_4, z17_, e18_, h19_, h20_, h21_, z24_, z24_h, (Or.inl ⟨h25_, z26_, h27_, rfl, rfl⟩)⟩) (Nat.lt_of_lt_of_le (lf_c_X2_takeFrom_5 v3_4 z26_ h21_ h27_ ) (Nat.le_of_lt_succ hm_4))
          · refine w_iload_n dX12_nameOf_37 rfl 0 rfl ?_
            refine w_goto (tgt := 42) dX12_nameOf_38 (by decide) ?_
            refine w_istore_n (ls' := [(2, vI v3_4), (3, vI v3_4), (0, vR (12, 0, 0)), (1, vI v)]) dX12_nameOf_42 rfl (by decide) rfl ?_
            refine w_iincB (j := 1) (f := fun z28_ => [(3, vI z28_), (2, vI v3_4), (0, vR (12, 0, 0)), (1, vI v)]) dX12_nameOf_43 rfl (by decide) (fun _ => rfl) (rfl : v3_4.toInt = v3_4.toInt) li_1 (lf_c_X2_takeFrom_2 v3_4 hv0_4 h21_ ) (fun z28_ h29_ => ?_)
            refine w_goto (tgt := 4) dX12_nameOf_46 (by decide) ?_
            refine w_loc (ls' := [(3, vI z28_), (2, vI v3_4), (0, vR (12, 0, 0)), (1, vI v)]) [0, 1, 2, 3] rfl ?_
            exact ih_4 z28_ v3_4 (lf_c_X5_takeFrom_3 v3_4 z28_ hv0_4 h29_ ) (lf_c_X12_nameOf_20 v3_4 hv0_4 h21_ ) (lf_c_X12_nameOf_16 v3_4 z28_ h21_ h29_ ) (RCH.tail hL_4 ⟨hv0_4, hv1_4, hv2_4, z17_, e18_, h19_, h20_, h21_, z24_, z24_h, (Or.inr ⟨h25_, z28_, h29_, rfl, rfl⟩)⟩) (Nat.lt_of_lt_of_le (lf_c_X2_takeFrom_5 v3_4 z28_ h21_ h29_ ) (Nat.le_of_lt_succ hm_4))
    exact lp16_ _ 0 (-1) (lf_c_X0_nearestOpen_29 ) (lf_c_X12_nameOf_11 ) (lf_c_X12_nameOf_12 ) RCH.refl (Nat.lt_succ_self _)
  · refine w_iconst (v := (-1)) dX12_nameOf_0 (by decide) ?_
    refine w_istore_n (ls' := [(2, vI (-1)), (0, vR (12, 0, 0)), (1, vI v)]) dX12_nameOf_1 rfl (by decide) rfl ?_
    refine w_iconst (v := 0) dX12_nameOf_2 (by decide) ?_
    refine w_istore_n (ls' := [(3, vI 0), (2, vI (-1)), (0, vR (12, 0, 0)), (1, vI v)]) dX12_nameOf_3 rfl (by decide) rfl ?_
    have lp30_ : ∀ (nn_4 : Nat) (v3_4 : Int32) (v2_4 : Int32) (hv0_4 : 0 ≤ v3_4.toInt) (hv1_4 : -1 ≤ v2_4.toInt ∧ v2_4.toInt ≤ 4) (hv2_4 : v3_4.toInt ≤ 5) (hL_4 : RCH (fun x_ y_ => ST_X12_nameOf_4c v Mz x_.1 x_.2 y_.1 y_.2) ((0 : Int32), ((-1) : Int32)) (v3_4, v2_4)), (2147483648 - v3_4.toInt).toNat < nn_4 → WP DD l G cy ad yX12_nameOf cX12_nameOf 4 (some .int) (d + 8) 4 [(3, vI v3_4), (2, vI v2_4), (0, vR (12, 0, 0)), (1, vI v)] [] Mz (fun r M' => Mz = M' ∧ (-1 ≤ r.toInt ∧ r.toInt ≤ 4) ∧ SP_X12_nameOf v Mz r) := by
      intro nn_4
      induction nn_4 with
      | zero => intro v3_4 v2_4 hv0_4 hv1_4 hv2_4 hL_4 hm_4; exact absurd hm_4 (Nat.not_lt_zero _)
      | succ nn_4 ih_4 =>
        intro v3_4 v2_4 hv0_4 hv1_4 hv2_4 hL_4 hm_4
        refine w_iload_n dX12_nameOf_4 rfl 0 rfl ?_
        refine w_aload_n dX12_nameOf_5 rfl 2 rfl ?_
        refine w_getR (c' := (56, 0, 0)) fl_RX12_40 rfl rfl ic_12 dX12_nameOf_6 rfl ?_
        refine w_aload_n dX12_nameOf_9 rfl 2 rfl ?_
        refine w_getI fl_RX12_181 rfl rfl ic_12 dX12_nameOf_10 (fun z31_ e32_ => ?_)
        have h33_ : 0 ≤ z31_.toInt ∧ z31_.toInt ≤ 2 := ofEq (P := fun v => 0 ≤ v.toInt ∧ v.toInt ≤ 2) e32_ (hIz.1 (12, 0, 0) 10)
        have h34_ : z31_.toInt = 2 := by rw [e32_]; exact h1_
        refine w_aaldL 2 rfl rfl rfl (fun _ => rfl) ic_56 h34_ (by decide) dX12_nameOf_13 ?_
        refine w_strlen (k := 6) (v := 5) rfl m_1599 (Nat.le_of_ble_eq_true rfl) (by omega) dX12_nameOf_14 rfl ?_
        refine w_icmp_ge (tgt := 49) dX12_nameOf_17 (by decide) (rfl : v3_4.toInt = v3_4.toInt) li_5 (fun h35_ => ?_) (fun h35_ => ?_)
        · refine w_iload_n dX12_nameOf_49 rfl 1 rfl ?_
          exact w_iret rfl dX12_nameOf_50 ⟨rfl, hv1_4, (Or.inr (Or.inr ⟨h1_, v3_4, hv0_4, v2_4, hv1_4, hv2_4, hL_4, z31_, e32_, h33_, h34_, h35_, rfl⟩))⟩
        · refine w_aload_n dX12_nameOf_20 rfl 2 rfl ?_
          refine w_getR (c' := (56, 0, 0)) fl_RX12_40 rfl rfl ic_12 dX12_nameOf_21 rfl ?_
          refine w_aload_n dX12_nameOf_24 rfl 2 rfl ?_
          refine w_getI fl_RX12_181 rfl rfl ic_12 dX12_nameOf_25 (fun z36_ e37_ => ?_)
          obtain rfl : z31_ = z36_ := e32_.trans e37_.symm
          refine w_aaldL 2 rfl rfl rfl (fun _ => rfl) ic_56 h34_ (by decide) dX12_nameOf_28 ?_
          refine w_iload_n dX12_nameOf_29 rfl 0 rfl ?_
          refine w_charAt (k := 6) rfl m_1600 (Nat.le_of_ble_eq_true rfl) (by omega) (lf_c_X12_nameOf_26 v3_4 hv0_4 h35_ ) dX12_nameOf_30 (fun z38_ z38_h => ?_)
          refine w_iload_n dX12_nameOf_33 rfl 3 rfl ?_
          refine w_icmp_ne (tgt := 41) dX12_nameOf_34 (by decide) (rfl : z38_.toInt = z38_.toInt) (rfl : v.toInt = v.toInt) (fun h39_ => ?_) (fun h39_ => ?_)
          · refine w_iload_n dX12_nameOf_41 rfl 1 rfl ?_
            refine w_istore_n (ls' := [(2, vI v2_4), (3, vI v3_4), (0, vR (12, 0, 0)), (1, vI v)]) dX12_nameOf_42 rfl (by decide) rfl ?_
            refine w_iincB (j := 1) (f := fun z40_ => [(3, vI z40_), (2, vI v2_4), (0, vR (12, 0, 0)), (1, vI v)]) dX12_nameOf_43 rfl (by decide) (fun _ => rfl) (rfl : v3_4.toInt = v3_4.toInt) li_1 (lf_c_X2_kindsAlike_0 v3_4 hv0_4 h35_ ) (fun z40_ h41_ => ?_)
            refine w_goto (tgt := 4) dX12_nameOf_46 (by decide) ?_
            refine w_loc (ls' := [(3, vI z40_), (2, vI v2_4), (0, vR (12, 0, 0)), (1, vI v)]) [0, 1, 2, 3] rfl ?_
            exact ih_4 z40_ v2_4 (lf_c_X5_takeFrom_3 v3_4 z40_ hv0_4 h41_ ) hv1_4 (lf_c_X2_kindsAlike_2 v3_4 z40_ h35_ h41_ ) (RCH.tail hL_4 ⟨hv0_4, hv1_4, hv2_4, z31_, e32_, h33_, h34_, h35_, z38_, z38_h, (Or.inl ⟨h39_, z40_, h41_, rfl, rfl⟩)⟩) (Nat.lt_of_lt_of_le (lf_c_X2_kindsAlike_3 v3_4 z40_ h35_ h41_ ) (Nat.le_of_lt_succ hm_4))
          · refine w_iload_n dX12_nameOf_37 rfl 0 rfl ?_
            refine w_goto (tgt := 42) dX12_nameOf_38 (by decide) ?_
            refine w_istore_n (ls' := [(2, vI v3_4), (3, vI v3_4), (0, vR (12, 0, 0)), (1, vI v)]) dX12_nameOf_42 rfl (by decide) rfl ?_
            refine w_iincB (j := 1) (f := fun z42_ => [(3, vI z42_), (2, vI v3_4), (0, vR (12, 0, 0)), (1, vI v)]) dX12_nameOf_43 rfl (by decide) (fun _ => rfl) (rfl : v3_4.toInt = v3_4.toInt) li_1 (lf_c_X2_kindsAlike_0 v3_4 hv0_4 h35_ ) (fun z42_ h43_ => ?_)
            refine w_goto (tgt := 4) dX12_nameOf_46 (by decide) ?_
            refine w_loc (ls' := [(3, vI z42_), (2, vI v3_4), (0, vR (12, 0, 0)), (1, vI v)]) [0, 1, 2, 3] rfl ?_
            exact ih_4 z42_ v3_4 (lf_c_X5_takeFrom_3 v3_4 z42_ hv0_4 h43_ ) (lf_c_X12_nameOf_33 v3_4 hv0_4 h35_ ) (lf_c_X2_kindsAlike_2 v3_4 z42_ h35_ h43_ ) (RCH.tail hL_4 ⟨hv0_4, hv1_4, hv2_4, z31_, e32_, h33_, h34_, h35_, z38_, z38_h, (Or.inr ⟨h39_, z42_, h43_, rfl, rfl⟩)⟩) (Nat.lt_of_lt_of_le (lf_c_X2_kindsAlike_3 v3_4 z42_ h35_ h43_ ) (Nat.le_of_lt_succ hm_4))
    exact lp30_ _ 0 (-1) (lf_c_X0_nearestOpen_29 ) (lf_c_X12_nameOf_11 ) (lf_c_X12_nameOf_12 ) RCH.refl (Nat.lt_succ_self _)
end
section
/-! words of the tables that are used, by their places; decode rows; fields -/
theorem li_2001 : (2001 : Int32).toInt = 2001 := by decide
theorem li_2002 : (2002 : Int32).toInt = 2002 := by decide
theorem li_2003 : (2003 : Int32).toInt = 2003 := by decide
theorem li_2004 : (2004 : Int32).toInt = 2004 := by decide
theorem li_2005 : (2005 : Int32).toInt = 2005 := by decide
theorem li_2006 : (2006 : Int32).toInt = 2006 := by decide
theorem li_2007 : (2007 : Int32).toInt = 2007 := by decide
theorem m_36 : Cond.selects yX12_text.cls yX12_text yX12_text ∈ BASE := bmem 36 (by decide +kernel) rfl
theorem m_37 : Cond.selects yX12_sum.cls yX12_sum yX12_sum ∈ BASE := bmem 37 (by decide +kernel) rfl
theorem m_38 : Cond.selects yX12_term.cls yX12_term yX12_term ∈ BASE := bmem 38 (by decide +kernel) rfl
theorem m_39 : Cond.selects yX12_one.cls yX12_one yX12_one ∈ BASE := bmem 39 (by decide +kernel) rfl
theorem m_41 : Cond.selects yX12_opens.cls yX12_opens yX12_opens ∈ BASE := bmem 41 (by decide +kernel) rfl
theorem m_42 : Cond.selects yX12_codes.cls yX12_codes yX12_codes ∈ BASE := bmem 42 (by decide +kernel) rfl
theorem m_43 : Cond.selects yX12_must.cls yX12_must yX12_must ∈ BASE := bmem 43 (by decide +kernel) rfl
theorem m_45 : Cond.selects yX12_nameOf.cls yX12_nameOf yX12_nameOf ∈ BASE := bmem 45 (by decide +kernel) rfl
set_option maxRecDepth 20000 in
theorem m_1334 : Cond.fieldLink RX12 191 "ClickStreetModel" "open" "I" ∈ BASE := bmT6 56 rfl rfl
set_option maxRecDepth 20000 in
theorem m_1335 : Cond.fieldLink RX12 203 "ClickStreetModel" "told" "I" ∈ BASE := bmT6 57 rfl rfl
set_option maxRecDepth 20000 in
theorem m_1559 : Cond.methodLink RX12 194 yX12_text ∈ BASE := bmT7 41 rfl rfl
set_option maxRecDepth 20000 in
theorem m_1561 : Cond.instanceMethod yX12_text ∈ BASE := bmT7 43 rfl rfl
set_option maxRecDepth 20000 in
theorem m_1562 : Cond.code yX12_text cX12_text 2 none ∈ BASE := bmT7 44 rfl rfl
set_option maxRecDepth 20000 in
theorem m_1563 : Cond.methodLink RX12 168 yX12_sum ∈ BASE := bmT7 45 rfl rfl
set_option maxRecDepth 20000 in
theorem m_1565 : Cond.instanceMethod yX12_sum ∈ BASE := bmT7 47 rfl rfl
set_option maxRecDepth 20000 in
theorem m_1566 : Cond.code yX12_sum cX12_sum 2 none ∈ BASE := bmT7 48 rfl rfl
set_option maxRecDepth 20000 in
theorem m_1567 : Cond.methodLink RX12 175 yX12_term ∈ BASE := bmT7 49 rfl rfl
set_option maxRecDepth 20000 in
theorem m_1569 : Cond.instanceMethod yX12_term ∈ BASE := bmT7 51 rfl rfl
set_option maxRecDepth 20000 in
theorem m_1570 : Cond.code yX12_term cX12_term 2 none ∈ BASE := bmT7 52 rfl rfl
set_option maxRecDepth 20000 in
theorem m_1571 : Cond.methodLink RX12 178 yX12_one ∈ BASE := bmT7 53 rfl rfl
set_option maxRecDepth 20000 in
theorem m_1573 : Cond.instanceMethod yX12_one ∈ BASE := bmT7 55 rfl rfl
set_option maxRecDepth 20000 in
theorem m_1574 : Cond.code yX12_one cX12_one 4 none ∈ BASE := bmT7 56 rfl rfl
set_option maxRecDepth 20000 in
theorem m_1579 : Cond.methodLink RX12 200 yX12_opens ∈ BASE := bmT7 61 rfl rfl
set_option maxRecDepth 20000 in
theorem m_1581 : Cond.instanceMethod yX12_opens ∈ BASE := bmT7 63 rfl rfl
set_option maxRecDepth 20000 in
theorem m_1582 : Cond.code yX12_opens cX12_opens 2 none ∈ BASE := bmT7 64 rfl rfl
set_option maxRecDepth 20000 in
theorem m_1583 : Cond.methodLink RX12 171 yX12_codes ∈ BASE := bmT7 65 rfl rfl
set_option maxRecDepth 20000 in
theorem m_1585 : Cond.instanceMethod yX12_codes ∈ BASE := bmT7 67 rfl rfl
set_option maxRecDepth 20000 in
theorem m_1586 : Cond.code yX12_codes cX12_codes 2 none ∈ BASE := bmT7 68 rfl rfl
set_option maxRecDepth 20000 in
theorem m_1587 : Cond.methodLink RX12 197 yX12_must ∈ BASE := bmT7 69 rfl rfl
set_option maxRecDepth 20000 in
theorem m_1589 : Cond.instanceMethod yX12_must ∈ BASE := bmT7 71 rfl rfl
set_option maxRecDepth 20000 in
theorem m_1590 : Cond.code yX12_must cX12_must 2 none ∈ BASE := bmT7 72 rfl rfl
set_option maxRecDepth 20000 in
theorem m_1595 : Cond.methodLink RX12 206 yX12_nameOf ∈ BASE := bmT7 77 rfl rfl
set_option maxRecDepth 20000 in
theorem m_1597 : Cond.instanceMethod yX12_nameOf ∈ BASE := bmT7 79 rfl rfl
set_option maxRecDepth 20000 in
theorem m_1598 : Cond.code yX12_nameOf cX12_nameOf 4 (some .int) ∈ BASE := bmT7 80 rfl rfl
theorem kV_X12_codes : KV yX12_codes cX12_codes 2 none 1 := ⟨m_1585, m_42, m_92, m_1586, nhM_17, nhV_17, pdn_4⟩
theorem kV_X12_must : KV yX12_must cX12_must 2 none 1 := ⟨m_1589, m_43, m_92, m_1590, nhM_17, nhV_17, pdn_4⟩
theorem kV_X12_nameOf : KV yX12_nameOf cX12_nameOf 4 (some .int) 1 := ⟨m_1597, m_45, m_92, m_1598, nhM_17, nhV_17, pdn_2⟩
theorem kV_X12_one : KV yX12_one cX12_one 4 none 0 := ⟨m_1573, m_39, m_92, m_1574, nhM_17, nhV_17, pdn_30⟩
theorem kV_X12_opens : KV yX12_opens cX12_opens 2 none 1 := ⟨m_1581, m_41, m_92, m_1582, nhM_17, nhV_17, pdn_4⟩
theorem kV_X12_sum : KV yX12_sum cX12_sum 2 none 0 := ⟨m_1565, m_37, m_92, m_1566, nhM_17, nhV_17, pdn_30⟩
theorem kV_X12_term : KV yX12_term cX12_term 2 none 0 := ⟨m_1569, m_38, m_92, m_1570, nhM_17, nhV_17, pdn_30⟩
theorem kV_X12_text : KV yX12_text cX12_text 2 none 0 := ⟨m_1561, m_36, m_92, m_1562, nhM_17, nhV_17, pdn_30⟩
theorem fl_RX12_191 : FLK RX12 191 12 11 .int false := ⟨RX12, TX12, 33, tyX12, rfl, inB12, tyX12_ok, nmX12, by decide, rfl, rfl, Or.inl m_1334⟩
theorem fl_RX12_203 : FLK RX12 203 12 12 .int false := ⟨RX12, TX12, 33, tyX12, rfl, inB12, tyX12_ok, nmX12, by decide, rfl, rfl, Or.inl m_1335⟩
theorem ch_cX12_one_0 : (cX12_one.data.toList.drop 0).take 36 = [42, 182, 0, 158, 60, 27, 16, 45, 159, 0, 15, 27, 16, 40, 159, 0, 9, 27, 16, 91, 160, 0, 11, 42, 27, 182, 0, 200, 167, 0, 185, 27, 16, 48, 16, 57] := by decide +kernel
theorem dX12_one_0 : decode cX12_one 0 = .ok (.aload_n 0, 1) := do_42 (rdb (p := 0) (i := 0) ch_cX12_one_0 rfl)
theorem dX12_one_1 : decode cX12_one 1 = .ok (.invokevirtual 158, 3) := do_182 (rdb (p := 0) (i := 1) ch_cX12_one_0 rfl) (rdb (p := 0) (i := 2) ch_cX12_one_0 rfl) (rdb (p := 0) (i := 3) ch_cX12_one_0 rfl) rfl
theorem dX12_one_4 : decode cX12_one 4 = .ok (.istore_n 1, 1) := do_60 (rdb (p := 0) (i := 4) ch_cX12_one_0 rfl)
theorem dX12_one_5 : decode cX12_one 5 = .ok (.iload_n 1, 1) := do_27 (rdb (p := 0) (i := 5) ch_cX12_one_0 rfl)
theorem dX12_one_6 : decode cX12_one 6 = .ok (.bipush 45, 2) := do_16 (rdb (p := 0) (i := 6) ch_cX12_one_0 rfl) (rdb (p := 0) (i := 7) ch_cX12_one_0 rfl) (by decide +kernel)
theorem dX12_one_8 : decode cX12_one 8 = .ok (.if_icmp .eq 15, 3) := do_159 (rdb (p := 0) (i := 8) ch_cX12_one_0 rfl) (rdb (p := 0) (i := 9) ch_cX12_one_0 rfl) (rdb (p := 0) (i := 10) ch_cX12_one_0 rfl) (by decide +kernel)
theorem dX12_one_11 : decode cX12_one 11 = .ok (.iload_n 1, 1) := do_27 (rdb (p := 0) (i := 11) ch_cX12_one_0 rfl)
theorem dX12_one_12 : decode cX12_one 12 = .ok (.bipush 40, 2) := do_16 (rdb (p := 0) (i := 12) ch_cX12_one_0 rfl) (rdb (p := 0) (i := 13) ch_cX12_one_0 rfl) (by decide +kernel)
theorem dX12_one_14 : decode cX12_one 14 = .ok (.if_icmp .eq 9, 3) := do_159 (rdb (p := 0) (i := 14) ch_cX12_one_0 rfl) (rdb (p := 0) (i := 15) ch_cX12_one_0 rfl) (rdb (p := 0) (i := 16) ch_cX12_one_0 rfl) (by decide +kernel)
theorem dX12_one_17 : decode cX12_one 17 = .ok (.iload_n 1, 1) := do_27 (rdb (p := 0) (i := 17) ch_cX12_one_0 rfl)
theorem dX12_one_18 : decode cX12_one 18 = .ok (.bipush 91, 2) := do_16 (rdb (p := 0) (i := 18) ch_cX12_one_0 rfl) (rdb (p := 0) (i := 19) ch_cX12_one_0 rfl) (by decide +kernel)
theorem dX12_one_20 : decode cX12_one 20 = .ok (.if_icmp .ne 11, 3) := do_160 (rdb (p := 0) (i := 20) ch_cX12_one_0 rfl) (rdb (p := 0) (i := 21) ch_cX12_one_0 rfl) (rdb (p := 0) (i := 22) ch_cX12_one_0 rfl) (by decide +kernel)
theorem dX12_one_23 : decode cX12_one 23 = .ok (.aload_n 0, 1) := do_42 (rdb (p := 0) (i := 23) ch_cX12_one_0 rfl)
theorem dX12_one_24 : decode cX12_one 24 = .ok (.iload_n 1, 1) := do_27 (rdb (p := 0) (i := 24) ch_cX12_one_0 rfl)
theorem dX12_one_25 : decode cX12_one 25 = .ok (.invokevirtual 200, 3) := do_182 (rdb (p := 0) (i := 25) ch_cX12_one_0 rfl) (rdb (p := 0) (i := 26) ch_cX12_one_0 rfl) (rdb (p := 0) (i := 27) ch_cX12_one_0 rfl) rfl
theorem dX12_one_28 : decode cX12_one 28 = .ok (.goto 185, 3) := do_167 (rdb (p := 0) (i := 28) ch_cX12_one_0 rfl) (rdb (p := 0) (i := 29) ch_cX12_one_0 rfl) (rdb (p := 0) (i := 30) ch_cX12_one_0 rfl) (by decide +kernel)
theorem dX12_one_31 : decode cX12_one 31 = .ok (.iload_n 1, 1) := do_27 (rdb (p := 0) (i := 31) ch_cX12_one_0 rfl)
theorem ch_cX12_one_32 : (cX12_one.data.toList.drop 32).take 36 = [16, 48, 16, 57, 184, 0, 85, 153, 0, 104, 3, 61, 3, 62, 29, 6, 162, 0, 77, 42, 180, 0, 155, 42, 180, 0, 9, 7, 46, 162, 0, 64, 42, 180, 0, 9] := by decide +kernel
theorem dX12_one_32 : decode cX12_one 32 = .ok (.bipush 48, 2) := do_16 (rdb (p := 32) (i := 0) ch_cX12_one_32 rfl) (rdb (p := 32) (i := 1) ch_cX12_one_32 rfl) (by decide +kernel)
theorem dX12_one_34 : decode cX12_one 34 = .ok (.bipush 57, 2) := do_16 (rdb (p := 32) (i := 2) ch_cX12_one_32 rfl) (rdb (p := 32) (i := 3) ch_cX12_one_32 rfl) (by decide +kernel)
theorem dX12_one_36 : decode cX12_one 36 = .ok (.invokestatic 85, 3) := do_184 (rdb (p := 32) (i := 4) ch_cX12_one_32 rfl) (rdb (p := 32) (i := 5) ch_cX12_one_32 rfl) (rdb (p := 32) (i := 6) ch_cX12_one_32 rfl) rfl
theorem dX12_one_39 : decode cX12_one 39 = .ok (.ifCond .eq 104, 3) := do_153 (rdb (p := 32) (i := 7) ch_cX12_one_32 rfl) (rdb (p := 32) (i := 8) ch_cX12_one_32 rfl) (rdb (p := 32) (i := 9) ch_cX12_one_32 rfl) (by decide +kernel)
theorem dX12_one_42 : decode cX12_one 42 = .ok (.iconst 0, 1) := do_3 (rdb (p := 32) (i := 10) ch_cX12_one_32 rfl)
theorem dX12_one_43 : decode cX12_one 43 = .ok (.istore_n 2, 1) := do_61 (rdb (p := 32) (i := 11) ch_cX12_one_32 rfl)
theorem dX12_one_44 : decode cX12_one 44 = .ok (.iconst 0, 1) := do_3 (rdb (p := 32) (i := 12) ch_cX12_one_32 rfl)
theorem dX12_one_45 : decode cX12_one 45 = .ok (.istore_n 3, 1) := do_62 (rdb (p := 32) (i := 13) ch_cX12_one_32 rfl)
theorem dX12_one_46 : decode cX12_one 46 = .ok (.iload_n 3, 1) := do_29 (rdb (p := 32) (i := 14) ch_cX12_one_32 rfl)
theorem dX12_one_47 : decode cX12_one 47 = .ok (.iconst 3, 1) := do_6 (rdb (p := 32) (i := 15) ch_cX12_one_32 rfl)
theorem dX12_one_48 : decode cX12_one 48 = .ok (.if_icmp .ge 77, 3) := do_162 (rdb (p := 32) (i := 16) ch_cX12_one_32 rfl) (rdb (p := 32) (i := 17) ch_cX12_one_32 rfl) (rdb (p := 32) (i := 18) ch_cX12_one_32 rfl) (by decide +kernel)
theorem dX12_one_51 : decode cX12_one 51 = .ok (.aload_n 0, 1) := do_42 (rdb (p := 32) (i := 19) ch_cX12_one_32 rfl)
theorem dX12_one_52 : decode cX12_one 52 = .ok (.getfield 155, 3) := do_180 (rdb (p := 32) (i := 20) ch_cX12_one_32 rfl) (rdb (p := 32) (i := 21) ch_cX12_one_32 rfl) (rdb (p := 32) (i := 22) ch_cX12_one_32 rfl) rfl
theorem dX12_one_55 : decode cX12_one 55 = .ok (.aload_n 0, 1) := do_42 (rdb (p := 32) (i := 23) ch_cX12_one_32 rfl)
theorem dX12_one_56 : decode cX12_one 56 = .ok (.getfield 9, 3) := do_180 (rdb (p := 32) (i := 24) ch_cX12_one_32 rfl) (rdb (p := 32) (i := 25) ch_cX12_one_32 rfl) (rdb (p := 32) (i := 26) ch_cX12_one_32 rfl) rfl
theorem dX12_one_59 : decode cX12_one 59 = .ok (.iconst 4, 1) := do_7 (rdb (p := 32) (i := 27) ch_cX12_one_32 rfl)
theorem dX12_one_60 : decode cX12_one 60 = .ok (.iaload, 1) := do_46 (rdb (p := 32) (i := 28) ch_cX12_one_32 rfl)
theorem dX12_one_61 : decode cX12_one 61 = .ok (.if_icmp .ge 64, 3) := do_162 (rdb (p := 32) (i := 29) ch_cX12_one_32 rfl) (rdb (p := 32) (i := 30) ch_cX12_one_32 rfl) (rdb (p := 32) (i := 31) ch_cX12_one_32 rfl) (by decide +kernel)
theorem ch_cX12_one_64 : (cX12_one.data.toList.drop 64).take 36 = [42, 180, 0, 9, 17, 1, 17, 42, 180, 0, 155, 96, 46, 16, 48, 16, 57, 184, 0, 85, 153, 0, 41, 16, 10, 28, 104, 42, 180, 0, 9, 17, 1, 17, 42, 180] := by decide +kernel
theorem dX12_one_64 : decode cX12_one 64 = .ok (.aload_n 0, 1) := do_42 (rdb (p := 64) (i := 0) ch_cX12_one_64 rfl)
theorem dX12_one_65 : decode cX12_one 65 = .ok (.getfield 9, 3) := do_180 (rdb (p := 64) (i := 1) ch_cX12_one_64 rfl) (rdb (p := 64) (i := 2) ch_cX12_one_64 rfl) (rdb (p := 64) (i := 3) ch_cX12_one_64 rfl) rfl
theorem dX12_one_68 : decode cX12_one 68 = .ok (.sipush 273, 3) := do_17 (rdb (p := 64) (i := 4) ch_cX12_one_64 rfl) (rdb (p := 64) (i := 5) ch_cX12_one_64 rfl) (rdb (p := 64) (i := 6) ch_cX12_one_64 rfl) (by decide +kernel)
theorem dX12_one_71 : decode cX12_one 71 = .ok (.aload_n 0, 1) := do_42 (rdb (p := 64) (i := 7) ch_cX12_one_64 rfl)
theorem dX12_one_72 : decode cX12_one 72 = .ok (.getfield 155, 3) := do_180 (rdb (p := 64) (i := 8) ch_cX12_one_64 rfl) (rdb (p := 64) (i := 9) ch_cX12_one_64 rfl) (rdb (p := 64) (i := 10) ch_cX12_one_64 rfl) rfl
theorem dX12_one_75 : decode cX12_one 75 = .ok (.iadd, 1) := do_96 (rdb (p := 64) (i := 11) ch_cX12_one_64 rfl)
theorem dX12_one_76 : decode cX12_one 76 = .ok (.iaload, 1) := do_46 (rdb (p := 64) (i := 12) ch_cX12_one_64 rfl)
theorem dX12_one_77 : decode cX12_one 77 = .ok (.bipush 48, 2) := do_16 (rdb (p := 64) (i := 13) ch_cX12_one_64 rfl) (rdb (p := 64) (i := 14) ch_cX12_one_64 rfl) (by decide +kernel)
theorem dX12_one_79 : decode cX12_one 79 = .ok (.bipush 57, 2) := do_16 (rdb (p := 64) (i := 15) ch_cX12_one_64 rfl) (rdb (p := 64) (i := 16) ch_cX12_one_64 rfl) (by decide +kernel)
theorem dX12_one_81 : decode cX12_one 81 = .ok (.invokestatic 85, 3) := do_184 (rdb (p := 64) (i := 17) ch_cX12_one_64 rfl) (rdb (p := 64) (i := 18) ch_cX12_one_64 rfl) (rdb (p := 64) (i := 19) ch_cX12_one_64 rfl) rfl
theorem dX12_one_84 : decode cX12_one 84 = .ok (.ifCond .eq 41, 3) := do_153 (rdb (p := 64) (i := 20) ch_cX12_one_64 rfl) (rdb (p := 64) (i := 21) ch_cX12_one_64 rfl) (rdb (p := 64) (i := 22) ch_cX12_one_64 rfl) (by decide +kernel)
theorem dX12_one_87 : decode cX12_one 87 = .ok (.bipush 10, 2) := do_16 (rdb (p := 64) (i := 23) ch_cX12_one_64 rfl) (rdb (p := 64) (i := 24) ch_cX12_one_64 rfl) (by decide +kernel)
theorem dX12_one_89 : decode cX12_one 89 = .ok (.iload_n 2, 1) := do_28 (rdb (p := 64) (i := 25) ch_cX12_one_64 rfl)
theorem dX12_one_90 : decode cX12_one 90 = .ok (.imul, 1) := do_104 (rdb (p := 64) (i := 26) ch_cX12_one_64 rfl)
theorem dX12_one_91 : decode cX12_one 91 = .ok (.aload_n 0, 1) := do_42 (rdb (p := 64) (i := 27) ch_cX12_one_64 rfl)
theorem dX12_one_92 : decode cX12_one 92 = .ok (.getfield 9, 3) := do_180 (rdb (p := 64) (i := 28) ch_cX12_one_64 rfl) (rdb (p := 64) (i := 29) ch_cX12_one_64 rfl) (rdb (p := 64) (i := 30) ch_cX12_one_64 rfl) rfl
theorem dX12_one_95 : decode cX12_one 95 = .ok (.sipush 273, 3) := do_17 (rdb (p := 64) (i := 31) ch_cX12_one_64 rfl) (rdb (p := 64) (i := 32) ch_cX12_one_64 rfl) (rdb (p := 64) (i := 33) ch_cX12_one_64 rfl) (by decide +kernel)
theorem ch_cX12_one_96 : (cX12_one.data.toList.drop 96).take 36 = [1, 17, 42, 180, 0, 155, 96, 46, 96, 16, 48, 100, 61, 42, 89, 180, 0, 155, 4, 96, 181, 0, 155, 132, 3, 1, 167, 255, 180, 42, 28, 182, 0, 171, 42, 89] := by decide +kernel
theorem dX12_one_98 : decode cX12_one 98 = .ok (.aload_n 0, 1) := do_42 (rdb (p := 96) (i := 2) ch_cX12_one_96 rfl)
theorem dX12_one_99 : decode cX12_one 99 = .ok (.getfield 155, 3) := do_180 (rdb (p := 96) (i := 3) ch_cX12_one_96 rfl) (rdb (p := 96) (i := 4) ch_cX12_one_96 rfl) (rdb (p := 96) (i := 5) ch_cX12_one_96 rfl) rfl
theorem dX12_one_102 : decode cX12_one 102 = .ok (.iadd, 1) := do_96 (rdb (p := 96) (i := 6) ch_cX12_one_96 rfl)
theorem dX12_one_103 : decode cX12_one 103 = .ok (.iaload, 1) := do_46 (rdb (p := 96) (i := 7) ch_cX12_one_96 rfl)
theorem dX12_one_104 : decode cX12_one 104 = .ok (.iadd, 1) := do_96 (rdb (p := 96) (i := 8) ch_cX12_one_96 rfl)
theorem dX12_one_105 : decode cX12_one 105 = .ok (.bipush 48, 2) := do_16 (rdb (p := 96) (i := 9) ch_cX12_one_96 rfl) (rdb (p := 96) (i := 10) ch_cX12_one_96 rfl) (by decide +kernel)
theorem dX12_one_107 : decode cX12_one 107 = .ok (.isub, 1) := do_100 (rdb (p := 96) (i := 11) ch_cX12_one_96 rfl)
theorem dX12_one_108 : decode cX12_one 108 = .ok (.istore_n 2, 1) := do_61 (rdb (p := 96) (i := 12) ch_cX12_one_96 rfl)
theorem dX12_one_109 : decode cX12_one 109 = .ok (.aload_n 0, 1) := do_42 (rdb (p := 96) (i := 13) ch_cX12_one_96 rfl)
theorem dX12_one_110 : decode cX12_one 110 = .ok (.dup, 1) := do_89 (rdb (p := 96) (i := 14) ch_cX12_one_96 rfl)
theorem dX12_one_111 : decode cX12_one 111 = .ok (.getfield 155, 3) := do_180 (rdb (p := 96) (i := 15) ch_cX12_one_96 rfl) (rdb (p := 96) (i := 16) ch_cX12_one_96 rfl) (rdb (p := 96) (i := 17) ch_cX12_one_96 rfl) rfl
theorem dX12_one_114 : decode cX12_one 114 = .ok (.iconst 1, 1) := do_4 (rdb (p := 96) (i := 18) ch_cX12_one_96 rfl)
theorem dX12_one_115 : decode cX12_one 115 = .ok (.iadd, 1) := do_96 (rdb (p := 96) (i := 19) ch_cX12_one_96 rfl)
theorem dX12_one_116 : decode cX12_one 116 = .ok (.putfield 155, 3) := do_181 (rdb (p := 96) (i := 20) ch_cX12_one_96 rfl) (rdb (p := 96) (i := 21) ch_cX12_one_96 rfl) (rdb (p := 96) (i := 22) ch_cX12_one_96 rfl) rfl
theorem dX12_one_119 : decode cX12_one 119 = .ok (.iinc 3 1, 3) := do_132 (rdb (p := 96) (i := 23) ch_cX12_one_96 rfl) (rdb (p := 96) (i := 24) ch_cX12_one_96 rfl) (rdb (p := 96) (i := 25) ch_cX12_one_96 rfl) (by decide +kernel)
theorem dX12_one_122 : decode cX12_one 122 = .ok (.goto (-76), 3) := do_167 (rdb (p := 96) (i := 26) ch_cX12_one_96 rfl) (rdb (p := 96) (i := 27) ch_cX12_one_96 rfl) (rdb (p := 96) (i := 28) ch_cX12_one_96 rfl) (by decide +kernel)
theorem dX12_one_125 : decode cX12_one 125 = .ok (.aload_n 0, 1) := do_42 (rdb (p := 96) (i := 29) ch_cX12_one_96 rfl)
theorem dX12_one_126 : decode cX12_one 126 = .ok (.iload_n 2, 1) := do_28 (rdb (p := 96) (i := 30) ch_cX12_one_96 rfl)
theorem dX12_one_127 : decode cX12_one 127 = .ok (.invokevirtual 171, 3) := do_182 (rdb (p := 96) (i := 31) ch_cX12_one_96 rfl) (rdb (p := 96) (i := 32) ch_cX12_one_96 rfl) (rdb (p := 96) (i := 33) ch_cX12_one_96 rfl) rfl
theorem ch_cX12_one_128 : (cX12_one.data.toList.drop 128).take 36 = [0, 171, 42, 89, 180, 0, 203, 4, 96, 181, 0, 203, 167, 0, 73, 27, 156, 0, 7, 2, 167, 0, 8, 42, 27, 182, 0, 206, 61, 42, 42, 180, 0, 151, 154, 0] := by decide +kernel
theorem dX12_one_130 : decode cX12_one 130 = .ok (.aload_n 0, 1) := do_42 (rdb (p := 128) (i := 2) ch_cX12_one_128 rfl)
theorem dX12_one_131 : decode cX12_one 131 = .ok (.dup, 1) := do_89 (rdb (p := 128) (i := 3) ch_cX12_one_128 rfl)
theorem dX12_one_132 : decode cX12_one 132 = .ok (.getfield 203, 3) := do_180 (rdb (p := 128) (i := 4) ch_cX12_one_128 rfl) (rdb (p := 128) (i := 5) ch_cX12_one_128 rfl) (rdb (p := 128) (i := 6) ch_cX12_one_128 rfl) rfl
theorem dX12_one_135 : decode cX12_one 135 = .ok (.iconst 1, 1) := do_4 (rdb (p := 128) (i := 7) ch_cX12_one_128 rfl)
theorem dX12_one_136 : decode cX12_one 136 = .ok (.iadd, 1) := do_96 (rdb (p := 128) (i := 8) ch_cX12_one_128 rfl)
theorem dX12_one_137 : decode cX12_one 137 = .ok (.putfield 203, 3) := do_181 (rdb (p := 128) (i := 9) ch_cX12_one_128 rfl) (rdb (p := 128) (i := 10) ch_cX12_one_128 rfl) (rdb (p := 128) (i := 11) ch_cX12_one_128 rfl) rfl
theorem dX12_one_140 : decode cX12_one 140 = .ok (.goto 73, 3) := do_167 (rdb (p := 128) (i := 12) ch_cX12_one_128 rfl) (rdb (p := 128) (i := 13) ch_cX12_one_128 rfl) (rdb (p := 128) (i := 14) ch_cX12_one_128 rfl) (by decide +kernel)
theorem dX12_one_143 : decode cX12_one 143 = .ok (.iload_n 1, 1) := do_27 (rdb (p := 128) (i := 15) ch_cX12_one_128 rfl)
theorem dX12_one_144 : decode cX12_one 144 = .ok (.ifCond .ge 7, 3) := do_156 (rdb (p := 128) (i := 16) ch_cX12_one_128 rfl) (rdb (p := 128) (i := 17) ch_cX12_one_128 rfl) (rdb (p := 128) (i := 18) ch_cX12_one_128 rfl) (by decide +kernel)
theorem dX12_one_147 : decode cX12_one 147 = .ok (.iconst (-1), 1) := do_2 (rdb (p := 128) (i := 19) ch_cX12_one_128 rfl)
theorem dX12_one_148 : decode cX12_one 148 = .ok (.goto 8, 3) := do_167 (rdb (p := 128) (i := 20) ch_cX12_one_128 rfl) (rdb (p := 128) (i := 21) ch_cX12_one_128 rfl) (rdb (p := 128) (i := 22) ch_cX12_one_128 rfl) (by decide +kernel)
theorem dX12_one_151 : decode cX12_one 151 = .ok (.aload_n 0, 1) := do_42 (rdb (p := 128) (i := 23) ch_cX12_one_128 rfl)
theorem dX12_one_152 : decode cX12_one 152 = .ok (.iload_n 1, 1) := do_27 (rdb (p := 128) (i := 24) ch_cX12_one_128 rfl)
theorem dX12_one_153 : decode cX12_one 153 = .ok (.invokevirtual 206, 3) := do_182 (rdb (p := 128) (i := 25) ch_cX12_one_128 rfl) (rdb (p := 128) (i := 26) ch_cX12_one_128 rfl) (rdb (p := 128) (i := 27) ch_cX12_one_128 rfl) rfl
theorem dX12_one_156 : decode cX12_one 156 = .ok (.istore_n 2, 1) := do_61 (rdb (p := 128) (i := 28) ch_cX12_one_128 rfl)
theorem dX12_one_157 : decode cX12_one 157 = .ok (.aload_n 0, 1) := do_42 (rdb (p := 128) (i := 29) ch_cX12_one_128 rfl)
theorem dX12_one_158 : decode cX12_one 158 = .ok (.aload_n 0, 1) := do_42 (rdb (p := 128) (i := 30) ch_cX12_one_128 rfl)
theorem dX12_one_159 : decode cX12_one 159 = .ok (.getfield 151, 3) := do_180 (rdb (p := 128) (i := 31) ch_cX12_one_128 rfl) (rdb (p := 128) (i := 32) ch_cX12_one_128 rfl) (rdb (p := 128) (i := 33) ch_cX12_one_128 rfl) rfl
theorem ch_cX12_one_160 : (cX12_one.data.toList.drop 160).take 36 = [0, 151, 154, 0, 7, 28, 156, 0, 7, 4, 167, 0, 4, 3, 181, 0, 151, 42, 180, 0, 151, 154, 0, 32, 42, 17, 3, 232, 28, 96, 182, 0, 171, 42, 89, 180] := by decide +kernel
theorem dX12_one_162 : decode cX12_one 162 = .ok (.ifCond .ne 7, 3) := do_154 (rdb (p := 160) (i := 2) ch_cX12_one_160 rfl) (rdb (p := 160) (i := 3) ch_cX12_one_160 rfl) (rdb (p := 160) (i := 4) ch_cX12_one_160 rfl) (by decide +kernel)
theorem dX12_one_165 : decode cX12_one 165 = .ok (.iload_n 2, 1) := do_28 (rdb (p := 160) (i := 5) ch_cX12_one_160 rfl)
theorem dX12_one_166 : decode cX12_one 166 = .ok (.ifCond .ge 7, 3) := do_156 (rdb (p := 160) (i := 6) ch_cX12_one_160 rfl) (rdb (p := 160) (i := 7) ch_cX12_one_160 rfl) (rdb (p := 160) (i := 8) ch_cX12_one_160 rfl) (by decide +kernel)
theorem dX12_one_169 : decode cX12_one 169 = .ok (.iconst 1, 1) := do_4 (rdb (p := 160) (i := 9) ch_cX12_one_160 rfl)
theorem dX12_one_170 : decode cX12_one 170 = .ok (.goto 4, 3) := do_167 (rdb (p := 160) (i := 10) ch_cX12_one_160 rfl) (rdb (p := 160) (i := 11) ch_cX12_one_160 rfl) (rdb (p := 160) (i := 12) ch_cX12_one_160 rfl) (by decide +kernel)
theorem dX12_one_173 : decode cX12_one 173 = .ok (.iconst 0, 1) := do_3 (rdb (p := 160) (i := 13) ch_cX12_one_160 rfl)
theorem dX12_one_174 : decode cX12_one 174 = .ok (.putfield 151, 3) := do_181 (rdb (p := 160) (i := 14) ch_cX12_one_160 rfl) (rdb (p := 160) (i := 15) ch_cX12_one_160 rfl) (rdb (p := 160) (i := 16) ch_cX12_one_160 rfl) rfl
theorem dX12_one_177 : decode cX12_one 177 = .ok (.aload_n 0, 1) := do_42 (rdb (p := 160) (i := 17) ch_cX12_one_160 rfl)
theorem dX12_one_178 : decode cX12_one 178 = .ok (.getfield 151, 3) := do_180 (rdb (p := 160) (i := 18) ch_cX12_one_160 rfl) (rdb (p := 160) (i := 19) ch_cX12_one_160 rfl) (rdb (p := 160) (i := 20) ch_cX12_one_160 rfl) rfl
theorem dX12_one_181 : decode cX12_one 181 = .ok (.ifCond .ne 32, 3) := do_154 (rdb (p := 160) (i := 21) ch_cX12_one_160 rfl) (rdb (p := 160) (i := 22) ch_cX12_one_160 rfl) (rdb (p := 160) (i := 23) ch_cX12_one_160 rfl) (by decide +kernel)
theorem dX12_one_184 : decode cX12_one 184 = .ok (.aload_n 0, 1) := do_42 (rdb (p := 160) (i := 24) ch_cX12_one_160 rfl)
theorem dX12_one_185 : decode cX12_one 185 = .ok (.sipush 1000, 3) := do_17 (rdb (p := 160) (i := 25) ch_cX12_one_160 rfl) (rdb (p := 160) (i := 26) ch_cX12_one_160 rfl) (rdb (p := 160) (i := 27) ch_cX12_one_160 rfl) (by decide +kernel)
theorem dX12_one_188 : decode cX12_one 188 = .ok (.iload_n 2, 1) := do_28 (rdb (p := 160) (i := 28) ch_cX12_one_160 rfl)
theorem dX12_one_189 : decode cX12_one 189 = .ok (.iadd, 1) := do_96 (rdb (p := 160) (i := 29) ch_cX12_one_160 rfl)
theorem dX12_one_190 : decode cX12_one 190 = .ok (.invokevirtual 171, 3) := do_182 (rdb (p := 160) (i := 30) ch_cX12_one_160 rfl) (rdb (p := 160) (i := 31) ch_cX12_one_160 rfl) (rdb (p := 160) (i := 32) ch_cX12_one_160 rfl) rfl
theorem ch_cX12_one_192 : (cX12_one.data.toList.drop 192).take 36 = [171, 42, 89, 180, 0, 203, 4, 96, 181, 0, 203, 42, 89, 180, 0, 155, 4, 96, 181, 0, 155, 177] := by decide +kernel
theorem dX12_one_193 : decode cX12_one 193 = .ok (.aload_n 0, 1) := do_42 (rdb (p := 192) (i := 1) ch_cX12_one_192 rfl)
theorem dX12_one_194 : decode cX12_one 194 = .ok (.dup, 1) := do_89 (rdb (p := 192) (i := 2) ch_cX12_one_192 rfl)
theorem dX12_one_195 : decode cX12_one 195 = .ok (.getfield 203, 3) := do_180 (rdb (p := 192) (i := 3) ch_cX12_one_192 rfl) (rdb (p := 192) (i := 4) ch_cX12_one_192 rfl) (rdb (p := 192) (i := 5) ch_cX12_one_192 rfl) rfl
theorem dX12_one_198 : decode cX12_one 198 = .ok (.iconst 1, 1) := do_4 (rdb (p := 192) (i := 6) ch_cX12_one_192 rfl)
theorem dX12_one_199 : decode cX12_one 199 = .ok (.iadd, 1) := do_96 (rdb (p := 192) (i := 7) ch_cX12_one_192 rfl)
theorem dX12_one_200 : decode cX12_one 200 = .ok (.putfield 203, 3) := do_181 (rdb (p := 192) (i := 8) ch_cX12_one_192 rfl) (rdb (p := 192) (i := 9) ch_cX12_one_192 rfl) (rdb (p := 192) (i := 10) ch_cX12_one_192 rfl) rfl
theorem dX12_one_203 : decode cX12_one 203 = .ok (.aload_n 0, 1) := do_42 (rdb (p := 192) (i := 11) ch_cX12_one_192 rfl)
theorem dX12_one_204 : decode cX12_one 204 = .ok (.dup, 1) := do_89 (rdb (p := 192) (i := 12) ch_cX12_one_192 rfl)
theorem dX12_one_205 : decode cX12_one 205 = .ok (.getfield 155, 3) := do_180 (rdb (p := 192) (i := 13) ch_cX12_one_192 rfl) (rdb (p := 192) (i := 14) ch_cX12_one_192 rfl) (rdb (p := 192) (i := 15) ch_cX12_one_192 rfl) rfl
theorem dX12_one_208 : decode cX12_one 208 = .ok (.iconst 1, 1) := do_4 (rdb (p := 192) (i := 16) ch_cX12_one_192 rfl)
theorem dX12_one_209 : decode cX12_one 209 = .ok (.iadd, 1) := do_96 (rdb (p := 192) (i := 17) ch_cX12_one_192 rfl)
theorem dX12_one_210 : decode cX12_one 210 = .ok (.putfield 155, 3) := do_181 (rdb (p := 192) (i := 18) ch_cX12_one_192 rfl) (rdb (p := 192) (i := 19) ch_cX12_one_192 rfl) (rdb (p := 192) (i := 20) ch_cX12_one_192 rfl) rfl
theorem dX12_one_213 : decode cX12_one 213 = .ok (.return_, 1) := do_177 (rdb (p := 192) (i := 21) ch_cX12_one_192 rfl)
theorem ch_cX12_opens_0 : (cX12_opens.data.toList.drop 0).take 36 = [42, 42, 180, 0, 191, 8, 160, 0, 7, 4, 167, 0, 4, 3, 181, 0, 151, 42, 180, 0, 151, 153, 0, 4, 177, 42, 89, 180, 0, 191, 4, 96, 181, 0, 191, 42] := by decide +kernel
theorem dX12_opens_0 : decode cX12_opens 0 = .ok (.aload_n 0, 1) := do_42 (rdb (p := 0) (i := 0) ch_cX12_opens_0 rfl)
theorem dX12_opens_1 : decode cX12_opens 1 = .ok (.aload_n 0, 1) := do_42 (rdb (p := 0) (i := 1) ch_cX12_opens_0 rfl)
theorem dX12_opens_2 : decode cX12_opens 2 = .ok (.getfield 191, 3) := do_180 (rdb (p := 0) (i := 2) ch_cX12_opens_0 rfl) (rdb (p := 0) (i := 3) ch_cX12_opens_0 rfl) (rdb (p := 0) (i := 4) ch_cX12_opens_0 rfl) rfl
theorem dX12_opens_5 : decode cX12_opens 5 = .ok (.iconst 5, 1) := do_8 (rdb (p := 0) (i := 5) ch_cX12_opens_0 rfl)
theorem dX12_opens_6 : decode cX12_opens 6 = .ok (.if_icmp .ne 7, 3) := do_160 (rdb (p := 0) (i := 6) ch_cX12_opens_0 rfl) (rdb (p := 0) (i := 7) ch_cX12_opens_0 rfl) (rdb (p := 0) (i := 8) ch_cX12_opens_0 rfl) (by decide +kernel)
theorem dX12_opens_9 : decode cX12_opens 9 = .ok (.iconst 1, 1) := do_4 (rdb (p := 0) (i := 9) ch_cX12_opens_0 rfl)
theorem dX12_opens_10 : decode cX12_opens 10 = .ok (.goto 4, 3) := do_167 (rdb (p := 0) (i := 10) ch_cX12_opens_0 rfl) (rdb (p := 0) (i := 11) ch_cX12_opens_0 rfl) (rdb (p := 0) (i := 12) ch_cX12_opens_0 rfl) (by decide +kernel)
theorem dX12_opens_13 : decode cX12_opens 13 = .ok (.iconst 0, 1) := do_3 (rdb (p := 0) (i := 13) ch_cX12_opens_0 rfl)
theorem dX12_opens_14 : decode cX12_opens 14 = .ok (.putfield 151, 3) := do_181 (rdb (p := 0) (i := 14) ch_cX12_opens_0 rfl) (rdb (p := 0) (i := 15) ch_cX12_opens_0 rfl) (rdb (p := 0) (i := 16) ch_cX12_opens_0 rfl) rfl
theorem dX12_opens_17 : decode cX12_opens 17 = .ok (.aload_n 0, 1) := do_42 (rdb (p := 0) (i := 17) ch_cX12_opens_0 rfl)
theorem dX12_opens_18 : decode cX12_opens 18 = .ok (.getfield 151, 3) := do_180 (rdb (p := 0) (i := 18) ch_cX12_opens_0 rfl) (rdb (p := 0) (i := 19) ch_cX12_opens_0 rfl) (rdb (p := 0) (i := 20) ch_cX12_opens_0 rfl) rfl
theorem dX12_opens_21 : decode cX12_opens 21 = .ok (.ifCond .eq 4, 3) := do_153 (rdb (p := 0) (i := 21) ch_cX12_opens_0 rfl) (rdb (p := 0) (i := 22) ch_cX12_opens_0 rfl) (rdb (p := 0) (i := 23) ch_cX12_opens_0 rfl) (by decide +kernel)
theorem dX12_opens_24 : decode cX12_opens 24 = .ok (.return_, 1) := do_177 (rdb (p := 0) (i := 24) ch_cX12_opens_0 rfl)
theorem dX12_opens_25 : decode cX12_opens 25 = .ok (.aload_n 0, 1) := do_42 (rdb (p := 0) (i := 25) ch_cX12_opens_0 rfl)
theorem dX12_opens_26 : decode cX12_opens 26 = .ok (.dup, 1) := do_89 (rdb (p := 0) (i := 26) ch_cX12_opens_0 rfl)
theorem dX12_opens_27 : decode cX12_opens 27 = .ok (.getfield 191, 3) := do_180 (rdb (p := 0) (i := 27) ch_cX12_opens_0 rfl) (rdb (p := 0) (i := 28) ch_cX12_opens_0 rfl) (rdb (p := 0) (i := 29) ch_cX12_opens_0 rfl) rfl
theorem dX12_opens_30 : decode cX12_opens 30 = .ok (.iconst 1, 1) := do_4 (rdb (p := 0) (i := 30) ch_cX12_opens_0 rfl)
theorem dX12_opens_31 : decode cX12_opens 31 = .ok (.iadd, 1) := do_96 (rdb (p := 0) (i := 31) ch_cX12_opens_0 rfl)
theorem ch_cX12_opens_32 : (cX12_opens.data.toList.drop 32).take 36 = [181, 0, 191, 42, 89, 180, 0, 155, 4, 96, 181, 0, 155, 27, 16, 45, 160, 0, 17, 42, 182, 0, 178, 42, 17, 7, 216, 182, 0, 171, 167, 0, 59, 27, 16, 40] := by decide +kernel
theorem dX12_opens_32 : decode cX12_opens 32 = .ok (.putfield 191, 3) := do_181 (rdb (p := 32) (i := 0) ch_cX12_opens_32 rfl) (rdb (p := 32) (i := 1) ch_cX12_opens_32 rfl) (rdb (p := 32) (i := 2) ch_cX12_opens_32 rfl) rfl
theorem dX12_opens_35 : decode cX12_opens 35 = .ok (.aload_n 0, 1) := do_42 (rdb (p := 32) (i := 3) ch_cX12_opens_32 rfl)
theorem dX12_opens_36 : decode cX12_opens 36 = .ok (.dup, 1) := do_89 (rdb (p := 32) (i := 4) ch_cX12_opens_32 rfl)
theorem dX12_opens_37 : decode cX12_opens 37 = .ok (.getfield 155, 3) := do_180 (rdb (p := 32) (i := 5) ch_cX12_opens_32 rfl) (rdb (p := 32) (i := 6) ch_cX12_opens_32 rfl) (rdb (p := 32) (i := 7) ch_cX12_opens_32 rfl) rfl
theorem dX12_opens_40 : decode cX12_opens 40 = .ok (.iconst 1, 1) := do_4 (rdb (p := 32) (i := 8) ch_cX12_opens_32 rfl)
theorem dX12_opens_41 : decode cX12_opens 41 = .ok (.iadd, 1) := do_96 (rdb (p := 32) (i := 9) ch_cX12_opens_32 rfl)
theorem dX12_opens_42 : decode cX12_opens 42 = .ok (.putfield 155, 3) := do_181 (rdb (p := 32) (i := 10) ch_cX12_opens_32 rfl) (rdb (p := 32) (i := 11) ch_cX12_opens_32 rfl) (rdb (p := 32) (i := 12) ch_cX12_opens_32 rfl) rfl
theorem dX12_opens_45 : decode cX12_opens 45 = .ok (.iload_n 1, 1) := do_27 (rdb (p := 32) (i := 13) ch_cX12_opens_32 rfl)
theorem dX12_opens_46 : decode cX12_opens 46 = .ok (.bipush 45, 2) := do_16 (rdb (p := 32) (i := 14) ch_cX12_opens_32 rfl) (rdb (p := 32) (i := 15) ch_cX12_opens_32 rfl) (by decide +kernel)
theorem dX12_opens_48 : decode cX12_opens 48 = .ok (.if_icmp .ne 17, 3) := do_160 (rdb (p := 32) (i := 16) ch_cX12_opens_32 rfl) (rdb (p := 32) (i := 17) ch_cX12_opens_32 rfl) (rdb (p := 32) (i := 18) ch_cX12_opens_32 rfl) (by decide +kernel)
theorem dX12_opens_51 : decode cX12_opens 51 = .ok (.aload_n 0, 1) := do_42 (rdb (p := 32) (i := 19) ch_cX12_opens_32 rfl)
theorem dX12_opens_52 : decode cX12_opens 52 = .ok (.invokevirtual 178, 3) := do_182 (rdb (p := 32) (i := 20) ch_cX12_opens_32 rfl) (rdb (p := 32) (i := 21) ch_cX12_opens_32 rfl) (rdb (p := 32) (i := 22) ch_cX12_opens_32 rfl) rfl
theorem dX12_opens_55 : decode cX12_opens 55 = .ok (.aload_n 0, 1) := do_42 (rdb (p := 32) (i := 23) ch_cX12_opens_32 rfl)
theorem dX12_opens_56 : decode cX12_opens 56 = .ok (.sipush 2008, 3) := do_17 (rdb (p := 32) (i := 24) ch_cX12_opens_32 rfl) (rdb (p := 32) (i := 25) ch_cX12_opens_32 rfl) (rdb (p := 32) (i := 26) ch_cX12_opens_32 rfl) (by decide +kernel)
theorem dX12_opens_59 : decode cX12_opens 59 = .ok (.invokevirtual 171, 3) := do_182 (rdb (p := 32) (i := 27) ch_cX12_opens_32 rfl) (rdb (p := 32) (i := 28) ch_cX12_opens_32 rfl) (rdb (p := 32) (i := 29) ch_cX12_opens_32 rfl) rfl
theorem dX12_opens_62 : decode cX12_opens 62 = .ok (.goto 59, 3) := do_167 (rdb (p := 32) (i := 30) ch_cX12_opens_32 rfl) (rdb (p := 32) (i := 31) ch_cX12_opens_32 rfl) (rdb (p := 32) (i := 32) ch_cX12_opens_32 rfl) (by decide +kernel)
theorem ch_cX12_opens_64 : (cX12_opens.data.toList.drop 64).take 36 = [59, 27, 16, 40, 160, 0, 16, 42, 182, 0, 194, 42, 16, 41, 182, 0, 197, 167, 0, 40, 42, 182, 0, 194, 42, 16, 63, 182, 0, 197, 42, 182, 0, 194, 42, 16] := by decide +kernel
theorem dX12_opens_65 : decode cX12_opens 65 = .ok (.iload_n 1, 1) := do_27 (rdb (p := 64) (i := 1) ch_cX12_opens_64 rfl)
theorem dX12_opens_66 : decode cX12_opens 66 = .ok (.bipush 40, 2) := do_16 (rdb (p := 64) (i := 2) ch_cX12_opens_64 rfl) (rdb (p := 64) (i := 3) ch_cX12_opens_64 rfl) (by decide +kernel)
theorem dX12_opens_68 : decode cX12_opens 68 = .ok (.if_icmp .ne 16, 3) := do_160 (rdb (p := 64) (i := 4) ch_cX12_opens_64 rfl) (rdb (p := 64) (i := 5) ch_cX12_opens_64 rfl) (rdb (p := 64) (i := 6) ch_cX12_opens_64 rfl) (by decide +kernel)
theorem dX12_opens_71 : decode cX12_opens 71 = .ok (.aload_n 0, 1) := do_42 (rdb (p := 64) (i := 7) ch_cX12_opens_64 rfl)
theorem dX12_opens_72 : decode cX12_opens 72 = .ok (.invokevirtual 194, 3) := do_182 (rdb (p := 64) (i := 8) ch_cX12_opens_64 rfl) (rdb (p := 64) (i := 9) ch_cX12_opens_64 rfl) (rdb (p := 64) (i := 10) ch_cX12_opens_64 rfl) rfl
theorem dX12_opens_75 : decode cX12_opens 75 = .ok (.aload_n 0, 1) := do_42 (rdb (p := 64) (i := 11) ch_cX12_opens_64 rfl)
theorem dX12_opens_76 : decode cX12_opens 76 = .ok (.bipush 41, 2) := do_16 (rdb (p := 64) (i := 12) ch_cX12_opens_64 rfl) (rdb (p := 64) (i := 13) ch_cX12_opens_64 rfl) (by decide +kernel)
theorem dX12_opens_78 : decode cX12_opens 78 = .ok (.invokevirtual 197, 3) := do_182 (rdb (p := 64) (i := 14) ch_cX12_opens_64 rfl) (rdb (p := 64) (i := 15) ch_cX12_opens_64 rfl) (rdb (p := 64) (i := 16) ch_cX12_opens_64 rfl) rfl
theorem dX12_opens_81 : decode cX12_opens 81 = .ok (.goto 40, 3) := do_167 (rdb (p := 64) (i := 17) ch_cX12_opens_64 rfl) (rdb (p := 64) (i := 18) ch_cX12_opens_64 rfl) (rdb (p := 64) (i := 19) ch_cX12_opens_64 rfl) (by decide +kernel)
theorem dX12_opens_84 : decode cX12_opens 84 = .ok (.aload_n 0, 1) := do_42 (rdb (p := 64) (i := 20) ch_cX12_opens_64 rfl)
theorem dX12_opens_85 : decode cX12_opens 85 = .ok (.invokevirtual 194, 3) := do_182 (rdb (p := 64) (i := 21) ch_cX12_opens_64 rfl) (rdb (p := 64) (i := 22) ch_cX12_opens_64 rfl) (rdb (p := 64) (i := 23) ch_cX12_opens_64 rfl) rfl
theorem dX12_opens_88 : decode cX12_opens 88 = .ok (.aload_n 0, 1) := do_42 (rdb (p := 64) (i := 24) ch_cX12_opens_64 rfl)
theorem dX12_opens_89 : decode cX12_opens 89 = .ok (.bipush 63, 2) := do_16 (rdb (p := 64) (i := 25) ch_cX12_opens_64 rfl) (rdb (p := 64) (i := 26) ch_cX12_opens_64 rfl) (by decide +kernel)
theorem dX12_opens_91 : decode cX12_opens 91 = .ok (.invokevirtual 197, 3) := do_182 (rdb (p := 64) (i := 27) ch_cX12_opens_64 rfl) (rdb (p := 64) (i := 28) ch_cX12_opens_64 rfl) (rdb (p := 64) (i := 29) ch_cX12_opens_64 rfl) rfl
theorem dX12_opens_94 : decode cX12_opens 94 = .ok (.aload_n 0, 1) := do_42 (rdb (p := 64) (i := 30) ch_cX12_opens_64 rfl)
theorem dX12_opens_95 : decode cX12_opens 95 = .ok (.invokevirtual 194, 3) := do_182 (rdb (p := 64) (i := 31) ch_cX12_opens_64 rfl) (rdb (p := 64) (i := 32) ch_cX12_opens_64 rfl) (rdb (p := 64) (i := 33) ch_cX12_opens_64 rfl) rfl
theorem ch_cX12_opens_96 : (cX12_opens.data.toList.drop 96).take 36 = [0, 194, 42, 16, 58, 182, 0, 197, 42, 182, 0, 194, 42, 16, 93, 182, 0, 197, 42, 17, 7, 217, 182, 0, 171, 42, 89, 180, 0, 191, 4, 100, 181, 0, 191, 177] := by decide +kernel
theorem dX12_opens_98 : decode cX12_opens 98 = .ok (.aload_n 0, 1) := do_42 (rdb (p := 96) (i := 2) ch_cX12_opens_96 rfl)
theorem dX12_opens_99 : decode cX12_opens 99 = .ok (.bipush 58, 2) := do_16 (rdb (p := 96) (i := 3) ch_cX12_opens_96 rfl) (rdb (p := 96) (i := 4) ch_cX12_opens_96 rfl) (by decide +kernel)
theorem dX12_opens_101 : decode cX12_opens 101 = .ok (.invokevirtual 197, 3) := do_182 (rdb (p := 96) (i := 5) ch_cX12_opens_96 rfl) (rdb (p := 96) (i := 6) ch_cX12_opens_96 rfl) (rdb (p := 96) (i := 7) ch_cX12_opens_96 rfl) rfl
theorem dX12_opens_104 : decode cX12_opens 104 = .ok (.aload_n 0, 1) := do_42 (rdb (p := 96) (i := 8) ch_cX12_opens_96 rfl)
theorem dX12_opens_105 : decode cX12_opens 105 = .ok (.invokevirtual 194, 3) := do_182 (rdb (p := 96) (i := 9) ch_cX12_opens_96 rfl) (rdb (p := 96) (i := 10) ch_cX12_opens_96 rfl) (rdb (p := 96) (i := 11) ch_cX12_opens_96 rfl) rfl
theorem dX12_opens_108 : decode cX12_opens 108 = .ok (.aload_n 0, 1) := do_42 (rdb (p := 96) (i := 12) ch_cX12_opens_96 rfl)
theorem dX12_opens_109 : decode cX12_opens 109 = .ok (.bipush 93, 2) := do_16 (rdb (p := 96) (i := 13) ch_cX12_opens_96 rfl) (rdb (p := 96) (i := 14) ch_cX12_opens_96 rfl) (by decide +kernel)
theorem dX12_opens_111 : decode cX12_opens 111 = .ok (.invokevirtual 197, 3) := do_182 (rdb (p := 96) (i := 15) ch_cX12_opens_96 rfl) (rdb (p := 96) (i := 16) ch_cX12_opens_96 rfl) (rdb (p := 96) (i := 17) ch_cX12_opens_96 rfl) rfl
theorem dX12_opens_114 : decode cX12_opens 114 = .ok (.aload_n 0, 1) := do_42 (rdb (p := 96) (i := 18) ch_cX12_opens_96 rfl)
theorem dX12_opens_115 : decode cX12_opens 115 = .ok (.sipush 2009, 3) := do_17 (rdb (p := 96) (i := 19) ch_cX12_opens_96 rfl) (rdb (p := 96) (i := 20) ch_cX12_opens_96 rfl) (rdb (p := 96) (i := 21) ch_cX12_opens_96 rfl) (by decide +kernel)
theorem dX12_opens_118 : decode cX12_opens 118 = .ok (.invokevirtual 171, 3) := do_182 (rdb (p := 96) (i := 22) ch_cX12_opens_96 rfl) (rdb (p := 96) (i := 23) ch_cX12_opens_96 rfl) (rdb (p := 96) (i := 24) ch_cX12_opens_96 rfl) rfl
theorem dX12_opens_121 : decode cX12_opens 121 = .ok (.aload_n 0, 1) := do_42 (rdb (p := 96) (i := 25) ch_cX12_opens_96 rfl)
theorem dX12_opens_122 : decode cX12_opens 122 = .ok (.dup, 1) := do_89 (rdb (p := 96) (i := 26) ch_cX12_opens_96 rfl)
theorem dX12_opens_123 : decode cX12_opens 123 = .ok (.getfield 191, 3) := do_180 (rdb (p := 96) (i := 27) ch_cX12_opens_96 rfl) (rdb (p := 96) (i := 28) ch_cX12_opens_96 rfl) (rdb (p := 96) (i := 29) ch_cX12_opens_96 rfl) rfl
theorem dX12_opens_126 : decode cX12_opens 126 = .ok (.iconst 1, 1) := do_4 (rdb (p := 96) (i := 30) ch_cX12_opens_96 rfl)
theorem dX12_opens_127 : decode cX12_opens 127 = .ok (.isub, 1) := do_100 (rdb (p := 96) (i := 31) ch_cX12_opens_96 rfl)
theorem ch_cX12_opens_128 : (cX12_opens.data.toList.drop 128).take 36 = [181, 0, 191, 177] := by decide +kernel
theorem dX12_opens_128 : decode cX12_opens 128 = .ok (.putfield 191, 3) := do_181 (rdb (p := 128) (i := 0) ch_cX12_opens_128 rfl) (rdb (p := 128) (i := 1) ch_cX12_opens_128 rfl) (rdb (p := 128) (i := 2) ch_cX12_opens_128 rfl) rfl
theorem dX12_opens_131 : decode cX12_opens 131 = .ok (.return_, 1) := do_177 (rdb (p := 128) (i := 3) ch_cX12_opens_128 rfl)
theorem ch_cX12_sum_0 : (cX12_sum.data.toList.drop 0).take 36 = [42, 182, 0, 175, 42, 16, 43, 182, 0, 165, 153, 0, 9, 17, 7, 211, 167, 0, 19, 42, 16, 45, 182, 0, 165, 153, 0, 9, 17, 7, 212, 167, 0, 4, 3, 60] := by decide +kernel
theorem dX12_sum_0 : decode cX12_sum 0 = .ok (.aload_n 0, 1) := do_42 (rdb (p := 0) (i := 0) ch_cX12_sum_0 rfl)
theorem dX12_sum_1 : decode cX12_sum 1 = .ok (.invokevirtual 175, 3) := do_182 (rdb (p := 0) (i := 1) ch_cX12_sum_0 rfl) (rdb (p := 0) (i := 2) ch_cX12_sum_0 rfl) (rdb (p := 0) (i := 3) ch_cX12_sum_0 rfl) rfl
theorem dX12_sum_4 : decode cX12_sum 4 = .ok (.aload_n 0, 1) := do_42 (rdb (p := 0) (i := 4) ch_cX12_sum_0 rfl)
theorem dX12_sum_5 : decode cX12_sum 5 = .ok (.bipush 43, 2) := do_16 (rdb (p := 0) (i := 5) ch_cX12_sum_0 rfl) (rdb (p := 0) (i := 6) ch_cX12_sum_0 rfl) (by decide +kernel)
theorem dX12_sum_7 : decode cX12_sum 7 = .ok (.invokevirtual 165, 3) := do_182 (rdb (p := 0) (i := 7) ch_cX12_sum_0 rfl) (rdb (p := 0) (i := 8) ch_cX12_sum_0 rfl) (rdb (p := 0) (i := 9) ch_cX12_sum_0 rfl) rfl
theorem dX12_sum_10 : decode cX12_sum 10 = .ok (.ifCond .eq 9, 3) := do_153 (rdb (p := 0) (i := 10) ch_cX12_sum_0 rfl) (rdb (p := 0) (i := 11) ch_cX12_sum_0 rfl) (rdb (p := 0) (i := 12) ch_cX12_sum_0 rfl) (by decide +kernel)
theorem dX12_sum_13 : decode cX12_sum 13 = .ok (.sipush 2003, 3) := do_17 (rdb (p := 0) (i := 13) ch_cX12_sum_0 rfl) (rdb (p := 0) (i := 14) ch_cX12_sum_0 rfl) (rdb (p := 0) (i := 15) ch_cX12_sum_0 rfl) (by decide +kernel)
theorem dX12_sum_16 : decode cX12_sum 16 = .ok (.goto 19, 3) := do_167 (rdb (p := 0) (i := 16) ch_cX12_sum_0 rfl) (rdb (p := 0) (i := 17) ch_cX12_sum_0 rfl) (rdb (p := 0) (i := 18) ch_cX12_sum_0 rfl) (by decide +kernel)
theorem dX12_sum_19 : decode cX12_sum 19 = .ok (.aload_n 0, 1) := do_42 (rdb (p := 0) (i := 19) ch_cX12_sum_0 rfl)
theorem dX12_sum_20 : decode cX12_sum 20 = .ok (.bipush 45, 2) := do_16 (rdb (p := 0) (i := 20) ch_cX12_sum_0 rfl) (rdb (p := 0) (i := 21) ch_cX12_sum_0 rfl) (by decide +kernel)
theorem dX12_sum_22 : decode cX12_sum 22 = .ok (.invokevirtual 165, 3) := do_182 (rdb (p := 0) (i := 22) ch_cX12_sum_0 rfl) (rdb (p := 0) (i := 23) ch_cX12_sum_0 rfl) (rdb (p := 0) (i := 24) ch_cX12_sum_0 rfl) rfl
theorem dX12_sum_25 : decode cX12_sum 25 = .ok (.ifCond .eq 9, 3) := do_153 (rdb (p := 0) (i := 25) ch_cX12_sum_0 rfl) (rdb (p := 0) (i := 26) ch_cX12_sum_0 rfl) (rdb (p := 0) (i := 27) ch_cX12_sum_0 rfl) (by decide +kernel)
theorem dX12_sum_28 : decode cX12_sum 28 = .ok (.sipush 2004, 3) := do_17 (rdb (p := 0) (i := 28) ch_cX12_sum_0 rfl) (rdb (p := 0) (i := 29) ch_cX12_sum_0 rfl) (rdb (p := 0) (i := 30) ch_cX12_sum_0 rfl) (by decide +kernel)
theorem dX12_sum_31 : decode cX12_sum 31 = .ok (.goto 4, 3) := do_167 (rdb (p := 0) (i := 31) ch_cX12_sum_0 rfl) (rdb (p := 0) (i := 32) ch_cX12_sum_0 rfl) (rdb (p := 0) (i := 33) ch_cX12_sum_0 rfl) (by decide +kernel)
theorem ch_cX12_sum_32 : (cX12_sum.data.toList.drop 32).take 36 = [0, 4, 3, 60, 27, 158, 0, 47, 42, 182, 0, 175, 42, 27, 182, 0, 171, 42, 16, 43, 182, 0, 165, 153, 0, 9, 17, 7, 211, 167, 0, 19, 42, 16, 45, 182] := by decide +kernel
theorem dX12_sum_34 : decode cX12_sum 34 = .ok (.iconst 0, 1) := do_3 (rdb (p := 32) (i := 2) ch_cX12_sum_32 rfl)
theorem dX12_sum_35 : decode cX12_sum 35 = .ok (.istore_n 1, 1) := do_60 (rdb (p := 32) (i := 3) ch_cX12_sum_32 rfl)
theorem dX12_sum_36 : decode cX12_sum 36 = .ok (.iload_n 1, 1) := do_27 (rdb (p := 32) (i := 4) ch_cX12_sum_32 rfl)
theorem dX12_sum_37 : decode cX12_sum 37 = .ok (.ifCond .le 47, 3) := do_158 (rdb (p := 32) (i := 5) ch_cX12_sum_32 rfl) (rdb (p := 32) (i := 6) ch_cX12_sum_32 rfl) (rdb (p := 32) (i := 7) ch_cX12_sum_32 rfl) (by decide +kernel)
theorem dX12_sum_40 : decode cX12_sum 40 = .ok (.aload_n 0, 1) := do_42 (rdb (p := 32) (i := 8) ch_cX12_sum_32 rfl)
theorem dX12_sum_41 : decode cX12_sum 41 = .ok (.invokevirtual 175, 3) := do_182 (rdb (p := 32) (i := 9) ch_cX12_sum_32 rfl) (rdb (p := 32) (i := 10) ch_cX12_sum_32 rfl) (rdb (p := 32) (i := 11) ch_cX12_sum_32 rfl) rfl
theorem dX12_sum_44 : decode cX12_sum 44 = .ok (.aload_n 0, 1) := do_42 (rdb (p := 32) (i := 12) ch_cX12_sum_32 rfl)
theorem dX12_sum_45 : decode cX12_sum 45 = .ok (.iload_n 1, 1) := do_27 (rdb (p := 32) (i := 13) ch_cX12_sum_32 rfl)
theorem dX12_sum_46 : decode cX12_sum 46 = .ok (.invokevirtual 171, 3) := do_182 (rdb (p := 32) (i := 14) ch_cX12_sum_32 rfl) (rdb (p := 32) (i := 15) ch_cX12_sum_32 rfl) (rdb (p := 32) (i := 16) ch_cX12_sum_32 rfl) rfl
theorem dX12_sum_49 : decode cX12_sum 49 = .ok (.aload_n 0, 1) := do_42 (rdb (p := 32) (i := 17) ch_cX12_sum_32 rfl)
theorem dX12_sum_50 : decode cX12_sum 50 = .ok (.bipush 43, 2) := do_16 (rdb (p := 32) (i := 18) ch_cX12_sum_32 rfl) (rdb (p := 32) (i := 19) ch_cX12_sum_32 rfl) (by decide +kernel)
theorem dX12_sum_52 : decode cX12_sum 52 = .ok (.invokevirtual 165, 3) := do_182 (rdb (p := 32) (i := 20) ch_cX12_sum_32 rfl) (rdb (p := 32) (i := 21) ch_cX12_sum_32 rfl) (rdb (p := 32) (i := 22) ch_cX12_sum_32 rfl) rfl
theorem dX12_sum_55 : decode cX12_sum 55 = .ok (.ifCond .eq 9, 3) := do_153 (rdb (p := 32) (i := 23) ch_cX12_sum_32 rfl) (rdb (p := 32) (i := 24) ch_cX12_sum_32 rfl) (rdb (p := 32) (i := 25) ch_cX12_sum_32 rfl) (by decide +kernel)
theorem dX12_sum_58 : decode cX12_sum 58 = .ok (.sipush 2003, 3) := do_17 (rdb (p := 32) (i := 26) ch_cX12_sum_32 rfl) (rdb (p := 32) (i := 27) ch_cX12_sum_32 rfl) (rdb (p := 32) (i := 28) ch_cX12_sum_32 rfl) (by decide +kernel)
theorem dX12_sum_61 : decode cX12_sum 61 = .ok (.goto 19, 3) := do_167 (rdb (p := 32) (i := 29) ch_cX12_sum_32 rfl) (rdb (p := 32) (i := 30) ch_cX12_sum_32 rfl) (rdb (p := 32) (i := 31) ch_cX12_sum_32 rfl) (by decide +kernel)
theorem ch_cX12_sum_64 : (cX12_sum.data.toList.drop 64).take 36 = [42, 16, 45, 182, 0, 165, 153, 0, 9, 17, 7, 212, 167, 0, 4, 3, 60, 167, 255, 211, 177] := by decide +kernel
theorem dX12_sum_64 : decode cX12_sum 64 = .ok (.aload_n 0, 1) := do_42 (rdb (p := 64) (i := 0) ch_cX12_sum_64 rfl)
theorem dX12_sum_65 : decode cX12_sum 65 = .ok (.bipush 45, 2) := do_16 (rdb (p := 64) (i := 1) ch_cX12_sum_64 rfl) (rdb (p := 64) (i := 2) ch_cX12_sum_64 rfl) (by decide +kernel)
theorem dX12_sum_67 : decode cX12_sum 67 = .ok (.invokevirtual 165, 3) := do_182 (rdb (p := 64) (i := 3) ch_cX12_sum_64 rfl) (rdb (p := 64) (i := 4) ch_cX12_sum_64 rfl) (rdb (p := 64) (i := 5) ch_cX12_sum_64 rfl) rfl
theorem dX12_sum_70 : decode cX12_sum 70 = .ok (.ifCond .eq 9, 3) := do_153 (rdb (p := 64) (i := 6) ch_cX12_sum_64 rfl) (rdb (p := 64) (i := 7) ch_cX12_sum_64 rfl) (rdb (p := 64) (i := 8) ch_cX12_sum_64 rfl) (by decide +kernel)
theorem dX12_sum_73 : decode cX12_sum 73 = .ok (.sipush 2004, 3) := do_17 (rdb (p := 64) (i := 9) ch_cX12_sum_64 rfl) (rdb (p := 64) (i := 10) ch_cX12_sum_64 rfl) (rdb (p := 64) (i := 11) ch_cX12_sum_64 rfl) (by decide +kernel)
theorem dX12_sum_76 : decode cX12_sum 76 = .ok (.goto 4, 3) := do_167 (rdb (p := 64) (i := 12) ch_cX12_sum_64 rfl) (rdb (p := 64) (i := 13) ch_cX12_sum_64 rfl) (rdb (p := 64) (i := 14) ch_cX12_sum_64 rfl) (by decide +kernel)
theorem dX12_sum_79 : decode cX12_sum 79 = .ok (.iconst 0, 1) := do_3 (rdb (p := 64) (i := 15) ch_cX12_sum_64 rfl)
theorem dX12_sum_80 : decode cX12_sum 80 = .ok (.istore_n 1, 1) := do_60 (rdb (p := 64) (i := 16) ch_cX12_sum_64 rfl)
theorem dX12_sum_81 : decode cX12_sum 81 = .ok (.goto (-45), 3) := do_167 (rdb (p := 64) (i := 17) ch_cX12_sum_64 rfl) (rdb (p := 64) (i := 18) ch_cX12_sum_64 rfl) (rdb (p := 64) (i := 19) ch_cX12_sum_64 rfl) (by decide +kernel)
theorem dX12_sum_84 : decode cX12_sum 84 = .ok (.return_, 1) := do_177 (rdb (p := 64) (i := 20) ch_cX12_sum_64 rfl)
theorem ch_cX12_term_0 : (cX12_term.data.toList.drop 0).take 36 = [42, 182, 0, 178, 42, 16, 42, 182, 0, 165, 153, 0, 9, 17, 7, 213, 167, 0, 34, 42, 16, 47, 182, 0, 165, 153, 0, 9, 17, 7, 214, 167, 0, 19, 42, 16] := by decide +kernel
theorem dX12_term_0 : decode cX12_term 0 = .ok (.aload_n 0, 1) := do_42 (rdb (p := 0) (i := 0) ch_cX12_term_0 rfl)
theorem dX12_term_1 : decode cX12_term 1 = .ok (.invokevirtual 178, 3) := do_182 (rdb (p := 0) (i := 1) ch_cX12_term_0 rfl) (rdb (p := 0) (i := 2) ch_cX12_term_0 rfl) (rdb (p := 0) (i := 3) ch_cX12_term_0 rfl) rfl
theorem dX12_term_4 : decode cX12_term 4 = .ok (.aload_n 0, 1) := do_42 (rdb (p := 0) (i := 4) ch_cX12_term_0 rfl)
theorem dX12_term_5 : decode cX12_term 5 = .ok (.bipush 42, 2) := do_16 (rdb (p := 0) (i := 5) ch_cX12_term_0 rfl) (rdb (p := 0) (i := 6) ch_cX12_term_0 rfl) (by decide +kernel)
theorem dX12_term_7 : decode cX12_term 7 = .ok (.invokevirtual 165, 3) := do_182 (rdb (p := 0) (i := 7) ch_cX12_term_0 rfl) (rdb (p := 0) (i := 8) ch_cX12_term_0 rfl) (rdb (p := 0) (i := 9) ch_cX12_term_0 rfl) rfl
theorem dX12_term_10 : decode cX12_term 10 = .ok (.ifCond .eq 9, 3) := do_153 (rdb (p := 0) (i := 10) ch_cX12_term_0 rfl) (rdb (p := 0) (i := 11) ch_cX12_term_0 rfl) (rdb (p := 0) (i := 12) ch_cX12_term_0 rfl) (by decide +kernel)
theorem dX12_term_13 : decode cX12_term 13 = .ok (.sipush 2005, 3) := do_17 (rdb (p := 0) (i := 13) ch_cX12_term_0 rfl) (rdb (p := 0) (i := 14) ch_cX12_term_0 rfl) (rdb (p := 0) (i := 15) ch_cX12_term_0 rfl) (by decide +kernel)
theorem dX12_term_16 : decode cX12_term 16 = .ok (.goto 34, 3) := do_167 (rdb (p := 0) (i := 16) ch_cX12_term_0 rfl) (rdb (p := 0) (i := 17) ch_cX12_term_0 rfl) (rdb (p := 0) (i := 18) ch_cX12_term_0 rfl) (by decide +kernel)
theorem dX12_term_19 : decode cX12_term 19 = .ok (.aload_n 0, 1) := do_42 (rdb (p := 0) (i := 19) ch_cX12_term_0 rfl)
theorem dX12_term_20 : decode cX12_term 20 = .ok (.bipush 47, 2) := do_16 (rdb (p := 0) (i := 20) ch_cX12_term_0 rfl) (rdb (p := 0) (i := 21) ch_cX12_term_0 rfl) (by decide +kernel)
theorem dX12_term_22 : decode cX12_term 22 = .ok (.invokevirtual 165, 3) := do_182 (rdb (p := 0) (i := 22) ch_cX12_term_0 rfl) (rdb (p := 0) (i := 23) ch_cX12_term_0 rfl) (rdb (p := 0) (i := 24) ch_cX12_term_0 rfl) rfl
theorem dX12_term_25 : decode cX12_term 25 = .ok (.ifCond .eq 9, 3) := do_153 (rdb (p := 0) (i := 25) ch_cX12_term_0 rfl) (rdb (p := 0) (i := 26) ch_cX12_term_0 rfl) (rdb (p := 0) (i := 27) ch_cX12_term_0 rfl) (by decide +kernel)
theorem dX12_term_28 : decode cX12_term 28 = .ok (.sipush 2006, 3) := do_17 (rdb (p := 0) (i := 28) ch_cX12_term_0 rfl) (rdb (p := 0) (i := 29) ch_cX12_term_0 rfl) (rdb (p := 0) (i := 30) ch_cX12_term_0 rfl) (by decide +kernel)
theorem dX12_term_31 : decode cX12_term 31 = .ok (.goto 19, 3) := do_167 (rdb (p := 0) (i := 31) ch_cX12_term_0 rfl) (rdb (p := 0) (i := 32) ch_cX12_term_0 rfl) (rdb (p := 0) (i := 33) ch_cX12_term_0 rfl) (by decide +kernel)
theorem ch_cX12_term_32 : (cX12_term.data.toList.drop 32).take 36 = [0, 19, 42, 16, 37, 182, 0, 165, 153, 0, 9, 17, 7, 215, 167, 0, 4, 3, 60, 27, 158, 0, 62, 42, 182, 0, 178, 42, 27, 182, 0, 171, 42, 16, 42, 182] := by decide +kernel
theorem dX12_term_34 : decode cX12_term 34 = .ok (.aload_n 0, 1) := do_42 (rdb (p := 32) (i := 2) ch_cX12_term_32 rfl)
theorem dX12_term_35 : decode cX12_term 35 = .ok (.bipush 37, 2) := do_16 (rdb (p := 32) (i := 3) ch_cX12_term_32 rfl) (rdb (p := 32) (i := 4) ch_cX12_term_32 rfl) (by decide +kernel)
theorem dX12_term_37 : decode cX12_term 37 = .ok (.invokevirtual 165, 3) := do_182 (rdb (p := 32) (i := 5) ch_cX12_term_32 rfl) (rdb (p := 32) (i := 6) ch_cX12_term_32 rfl) (rdb (p := 32) (i := 7) ch_cX12_term_32 rfl) rfl
theorem dX12_term_40 : decode cX12_term 40 = .ok (.ifCond .eq 9, 3) := do_153 (rdb (p := 32) (i := 8) ch_cX12_term_32 rfl) (rdb (p := 32) (i := 9) ch_cX12_term_32 rfl) (rdb (p := 32) (i := 10) ch_cX12_term_32 rfl) (by decide +kernel)
theorem dX12_term_43 : decode cX12_term 43 = .ok (.sipush 2007, 3) := do_17 (rdb (p := 32) (i := 11) ch_cX12_term_32 rfl) (rdb (p := 32) (i := 12) ch_cX12_term_32 rfl) (rdb (p := 32) (i := 13) ch_cX12_term_32 rfl) (by decide +kernel)
theorem dX12_term_46 : decode cX12_term 46 = .ok (.goto 4, 3) := do_167 (rdb (p := 32) (i := 14) ch_cX12_term_32 rfl) (rdb (p := 32) (i := 15) ch_cX12_term_32 rfl) (rdb (p := 32) (i := 16) ch_cX12_term_32 rfl) (by decide +kernel)
theorem dX12_term_49 : decode cX12_term 49 = .ok (.iconst 0, 1) := do_3 (rdb (p := 32) (i := 17) ch_cX12_term_32 rfl)
theorem dX12_term_50 : decode cX12_term 50 = .ok (.istore_n 1, 1) := do_60 (rdb (p := 32) (i := 18) ch_cX12_term_32 rfl)
theorem dX12_term_51 : decode cX12_term 51 = .ok (.iload_n 1, 1) := do_27 (rdb (p := 32) (i := 19) ch_cX12_term_32 rfl)
theorem dX12_term_52 : decode cX12_term 52 = .ok (.ifCond .le 62, 3) := do_158 (rdb (p := 32) (i := 20) ch_cX12_term_32 rfl) (rdb (p := 32) (i := 21) ch_cX12_term_32 rfl) (rdb (p := 32) (i := 22) ch_cX12_term_32 rfl) (by decide +kernel)
theorem dX12_term_55 : decode cX12_term 55 = .ok (.aload_n 0, 1) := do_42 (rdb (p := 32) (i := 23) ch_cX12_term_32 rfl)
theorem dX12_term_56 : decode cX12_term 56 = .ok (.invokevirtual 178, 3) := do_182 (rdb (p := 32) (i := 24) ch_cX12_term_32 rfl) (rdb (p := 32) (i := 25) ch_cX12_term_32 rfl) (rdb (p := 32) (i := 26) ch_cX12_term_32 rfl) rfl
theorem dX12_term_59 : decode cX12_term 59 = .ok (.aload_n 0, 1) := do_42 (rdb (p := 32) (i := 27) ch_cX12_term_32 rfl)
theorem dX12_term_60 : decode cX12_term 60 = .ok (.iload_n 1, 1) := do_27 (rdb (p := 32) (i := 28) ch_cX12_term_32 rfl)
theorem dX12_term_61 : decode cX12_term 61 = .ok (.invokevirtual 171, 3) := do_182 (rdb (p := 32) (i := 29) ch_cX12_term_32 rfl) (rdb (p := 32) (i := 30) ch_cX12_term_32 rfl) (rdb (p := 32) (i := 31) ch_cX12_term_32 rfl) rfl
theorem ch_cX12_term_64 : (cX12_term.data.toList.drop 64).take 36 = [42, 16, 42, 182, 0, 165, 153, 0, 9, 17, 7, 213, 167, 0, 34, 42, 16, 47, 182, 0, 165, 153, 0, 9, 17, 7, 214, 167, 0, 19, 42, 16, 37, 182, 0, 165] := by decide +kernel
theorem dX12_term_64 : decode cX12_term 64 = .ok (.aload_n 0, 1) := do_42 (rdb (p := 64) (i := 0) ch_cX12_term_64 rfl)
theorem dX12_term_65 : decode cX12_term 65 = .ok (.bipush 42, 2) := do_16 (rdb (p := 64) (i := 1) ch_cX12_term_64 rfl) (rdb (p := 64) (i := 2) ch_cX12_term_64 rfl) (by decide +kernel)
theorem dX12_term_67 : decode cX12_term 67 = .ok (.invokevirtual 165, 3) := do_182 (rdb (p := 64) (i := 3) ch_cX12_term_64 rfl) (rdb (p := 64) (i := 4) ch_cX12_term_64 rfl) (rdb (p := 64) (i := 5) ch_cX12_term_64 rfl) rfl
theorem dX12_term_70 : decode cX12_term 70 = .ok (.ifCond .eq 9, 3) := do_153 (rdb (p := 64) (i := 6) ch_cX12_term_64 rfl) (rdb (p := 64) (i := 7) ch_cX12_term_64 rfl) (rdb (p := 64) (i := 8) ch_cX12_term_64 rfl) (by decide +kernel)
theorem dX12_term_73 : decode cX12_term 73 = .ok (.sipush 2005, 3) := do_17 (rdb (p := 64) (i := 9) ch_cX12_term_64 rfl) (rdb (p := 64) (i := 10) ch_cX12_term_64 rfl) (rdb (p := 64) (i := 11) ch_cX12_term_64 rfl) (by decide +kernel)
theorem dX12_term_76 : decode cX12_term 76 = .ok (.goto 34, 3) := do_167 (rdb (p := 64) (i := 12) ch_cX12_term_64 rfl) (rdb (p := 64) (i := 13) ch_cX12_term_64 rfl) (rdb (p := 64) (i := 14) ch_cX12_term_64 rfl) (by decide +kernel)
theorem dX12_term_79 : decode cX12_term 79 = .ok (.aload_n 0, 1) := do_42 (rdb (p := 64) (i := 15) ch_cX12_term_64 rfl)
theorem dX12_term_80 : decode cX12_term 80 = .ok (.bipush 47, 2) := do_16 (rdb (p := 64) (i := 16) ch_cX12_term_64 rfl) (rdb (p := 64) (i := 17) ch_cX12_term_64 rfl) (by decide +kernel)
theorem dX12_term_82 : decode cX12_term 82 = .ok (.invokevirtual 165, 3) := do_182 (rdb (p := 64) (i := 18) ch_cX12_term_64 rfl) (rdb (p := 64) (i := 19) ch_cX12_term_64 rfl) (rdb (p := 64) (i := 20) ch_cX12_term_64 rfl) rfl
theorem dX12_term_85 : decode cX12_term 85 = .ok (.ifCond .eq 9, 3) := do_153 (rdb (p := 64) (i := 21) ch_cX12_term_64 rfl) (rdb (p := 64) (i := 22) ch_cX12_term_64 rfl) (rdb (p := 64) (i := 23) ch_cX12_term_64 rfl) (by decide +kernel)
theorem dX12_term_88 : decode cX12_term 88 = .ok (.sipush 2006, 3) := do_17 (rdb (p := 64) (i := 24) ch_cX12_term_64 rfl) (rdb (p := 64) (i := 25) ch_cX12_term_64 rfl) (rdb (p := 64) (i := 26) ch_cX12_term_64 rfl) (by decide +kernel)
theorem dX12_term_91 : decode cX12_term 91 = .ok (.goto 19, 3) := do_167 (rdb (p := 64) (i := 27) ch_cX12_term_64 rfl) (rdb (p := 64) (i := 28) ch_cX12_term_64 rfl) (rdb (p := 64) (i := 29) ch_cX12_term_64 rfl) (by decide +kernel)
theorem dX12_term_94 : decode cX12_term 94 = .ok (.aload_n 0, 1) := do_42 (rdb (p := 64) (i := 30) ch_cX12_term_64 rfl)
theorem dX12_term_95 : decode cX12_term 95 = .ok (.bipush 37, 2) := do_16 (rdb (p := 64) (i := 31) ch_cX12_term_64 rfl) (rdb (p := 64) (i := 32) ch_cX12_term_64 rfl) (by decide +kernel)
theorem ch_cX12_term_96 : (cX12_term.data.toList.drop 96).take 36 = [37, 182, 0, 165, 153, 0, 9, 17, 7, 215, 167, 0, 4, 3, 60, 167, 255, 196, 177] := by decide +kernel
theorem dX12_term_97 : decode cX12_term 97 = .ok (.invokevirtual 165, 3) := do_182 (rdb (p := 96) (i := 1) ch_cX12_term_96 rfl) (rdb (p := 96) (i := 2) ch_cX12_term_96 rfl) (rdb (p := 96) (i := 3) ch_cX12_term_96 rfl) rfl
theorem dX12_term_100 : decode cX12_term 100 = .ok (.ifCond .eq 9, 3) := do_153 (rdb (p := 96) (i := 4) ch_cX12_term_96 rfl) (rdb (p := 96) (i := 5) ch_cX12_term_96 rfl) (rdb (p := 96) (i := 6) ch_cX12_term_96 rfl) (by decide +kernel)
theorem dX12_term_103 : decode cX12_term 103 = .ok (.sipush 2007, 3) := do_17 (rdb (p := 96) (i := 7) ch_cX12_term_96 rfl) (rdb (p := 96) (i := 8) ch_cX12_term_96 rfl) (rdb (p := 96) (i := 9) ch_cX12_term_96 rfl) (by decide +kernel)
theorem dX12_term_106 : decode cX12_term 106 = .ok (.goto 4, 3) := do_167 (rdb (p := 96) (i := 10) ch_cX12_term_96 rfl) (rdb (p := 96) (i := 11) ch_cX12_term_96 rfl) (rdb (p := 96) (i := 12) ch_cX12_term_96 rfl) (by decide +kernel)
theorem dX12_term_109 : decode cX12_term 109 = .ok (.iconst 0, 1) := do_3 (rdb (p := 96) (i := 13) ch_cX12_term_96 rfl)
theorem dX12_term_110 : decode cX12_term 110 = .ok (.istore_n 1, 1) := do_60 (rdb (p := 96) (i := 14) ch_cX12_term_96 rfl)
theorem dX12_term_111 : decode cX12_term 111 = .ok (.goto (-60), 3) := do_167 (rdb (p := 96) (i := 15) ch_cX12_term_96 rfl) (rdb (p := 96) (i := 16) ch_cX12_term_96 rfl) (rdb (p := 96) (i := 17) ch_cX12_term_96 rfl) (by decide +kernel)
theorem dX12_term_114 : decode cX12_term 114 = .ok (.return_, 1) := do_177 (rdb (p := 96) (i := 18) ch_cX12_term_96 rfl)
theorem ch_cX12_text_0 : (cX12_text.data.toList.drop 0).take 36 = [42, 182, 0, 168, 42, 16, 60, 182, 0, 165, 153, 0, 9, 17, 7, 208, 167, 0, 34, 42, 16, 61, 182, 0, 165, 153, 0, 9, 17, 7, 209, 167, 0, 19, 42, 16] := by decide +kernel
theorem dX12_text_0 : decode cX12_text 0 = .ok (.aload_n 0, 1) := do_42 (rdb (p := 0) (i := 0) ch_cX12_text_0 rfl)
theorem dX12_text_1 : decode cX12_text 1 = .ok (.invokevirtual 168, 3) := do_182 (rdb (p := 0) (i := 1) ch_cX12_text_0 rfl) (rdb (p := 0) (i := 2) ch_cX12_text_0 rfl) (rdb (p := 0) (i := 3) ch_cX12_text_0 rfl) rfl
theorem dX12_text_4 : decode cX12_text 4 = .ok (.aload_n 0, 1) := do_42 (rdb (p := 0) (i := 4) ch_cX12_text_0 rfl)
theorem dX12_text_5 : decode cX12_text 5 = .ok (.bipush 60, 2) := do_16 (rdb (p := 0) (i := 5) ch_cX12_text_0 rfl) (rdb (p := 0) (i := 6) ch_cX12_text_0 rfl) (by decide +kernel)
theorem dX12_text_7 : decode cX12_text 7 = .ok (.invokevirtual 165, 3) := do_182 (rdb (p := 0) (i := 7) ch_cX12_text_0 rfl) (rdb (p := 0) (i := 8) ch_cX12_text_0 rfl) (rdb (p := 0) (i := 9) ch_cX12_text_0 rfl) rfl
theorem dX12_text_10 : decode cX12_text 10 = .ok (.ifCond .eq 9, 3) := do_153 (rdb (p := 0) (i := 10) ch_cX12_text_0 rfl) (rdb (p := 0) (i := 11) ch_cX12_text_0 rfl) (rdb (p := 0) (i := 12) ch_cX12_text_0 rfl) (by decide +kernel)
theorem dX12_text_13 : decode cX12_text 13 = .ok (.sipush 2000, 3) := do_17 (rdb (p := 0) (i := 13) ch_cX12_text_0 rfl) (rdb (p := 0) (i := 14) ch_cX12_text_0 rfl) (rdb (p := 0) (i := 15) ch_cX12_text_0 rfl) (by decide +kernel)
theorem dX12_text_16 : decode cX12_text 16 = .ok (.goto 34, 3) := do_167 (rdb (p := 0) (i := 16) ch_cX12_text_0 rfl) (rdb (p := 0) (i := 17) ch_cX12_text_0 rfl) (rdb (p := 0) (i := 18) ch_cX12_text_0 rfl) (by decide +kernel)
theorem dX12_text_19 : decode cX12_text 19 = .ok (.aload_n 0, 1) := do_42 (rdb (p := 0) (i := 19) ch_cX12_text_0 rfl)
theorem dX12_text_20 : decode cX12_text 20 = .ok (.bipush 61, 2) := do_16 (rdb (p := 0) (i := 20) ch_cX12_text_0 rfl) (rdb (p := 0) (i := 21) ch_cX12_text_0 rfl) (by decide +kernel)
theorem dX12_text_22 : decode cX12_text 22 = .ok (.invokevirtual 165, 3) := do_182 (rdb (p := 0) (i := 22) ch_cX12_text_0 rfl) (rdb (p := 0) (i := 23) ch_cX12_text_0 rfl) (rdb (p := 0) (i := 24) ch_cX12_text_0 rfl) rfl
theorem dX12_text_25 : decode cX12_text 25 = .ok (.ifCond .eq 9, 3) := do_153 (rdb (p := 0) (i := 25) ch_cX12_text_0 rfl) (rdb (p := 0) (i := 26) ch_cX12_text_0 rfl) (rdb (p := 0) (i := 27) ch_cX12_text_0 rfl) (by decide +kernel)
theorem dX12_text_28 : decode cX12_text 28 = .ok (.sipush 2001, 3) := do_17 (rdb (p := 0) (i := 28) ch_cX12_text_0 rfl) (rdb (p := 0) (i := 29) ch_cX12_text_0 rfl) (rdb (p := 0) (i := 30) ch_cX12_text_0 rfl) (by decide +kernel)
theorem dX12_text_31 : decode cX12_text 31 = .ok (.goto 19, 3) := do_167 (rdb (p := 0) (i := 31) ch_cX12_text_0 rfl) (rdb (p := 0) (i := 32) ch_cX12_text_0 rfl) (rdb (p := 0) (i := 33) ch_cX12_text_0 rfl) (by decide +kernel)
theorem ch_cX12_text_32 : (cX12_text.data.toList.drop 32).take 36 = [0, 19, 42, 16, 62, 182, 0, 165, 153, 0, 9, 17, 7, 210, 167, 0, 4, 3, 60, 27, 158, 0, 62, 42, 182, 0, 168, 42, 27, 182, 0, 171, 42, 16, 60, 182] := by decide +kernel
theorem dX12_text_34 : decode cX12_text 34 = .ok (.aload_n 0, 1) := do_42 (rdb (p := 32) (i := 2) ch_cX12_text_32 rfl)
theorem dX12_text_35 : decode cX12_text 35 = .ok (.bipush 62, 2) := do_16 (rdb (p := 32) (i := 3) ch_cX12_text_32 rfl) (rdb (p := 32) (i := 4) ch_cX12_text_32 rfl) (by decide +kernel)
theorem dX12_text_37 : decode cX12_text 37 = .ok (.invokevirtual 165, 3) := do_182 (rdb (p := 32) (i := 5) ch_cX12_text_32 rfl) (rdb (p := 32) (i := 6) ch_cX12_text_32 rfl) (rdb (p := 32) (i := 7) ch_cX12_text_32 rfl) rfl
theorem dX12_text_40 : decode cX12_text 40 = .ok (.ifCond .eq 9, 3) := do_153 (rdb (p := 32) (i := 8) ch_cX12_text_32 rfl) (rdb (p := 32) (i := 9) ch_cX12_text_32 rfl) (rdb (p := 32) (i := 10) ch_cX12_text_32 rfl) (by decide +kernel)
theorem dX12_text_43 : decode cX12_text 43 = .ok (.sipush 2002, 3) := do_17 (rdb (p := 32) (i := 11) ch_cX12_text_32 rfl) (rdb (p := 32) (i := 12) ch_cX12_text_32 rfl) (rdb (p := 32) (i := 13) ch_cX12_text_32 rfl) (by decide +kernel)
theorem dX12_text_46 : decode cX12_text 46 = .ok (.goto 4, 3) := do_167 (rdb (p := 32) (i := 14) ch_cX12_text_32 rfl) (rdb (p := 32) (i := 15) ch_cX12_text_32 rfl) (rdb (p := 32) (i := 16) ch_cX12_text_32 rfl) (by decide +kernel)
theorem dX12_text_49 : decode cX12_text 49 = .ok (.iconst 0, 1) := do_3 (rdb (p := 32) (i := 17) ch_cX12_text_32 rfl)
theorem dX12_text_50 : decode cX12_text 50 = .ok (.istore_n 1, 1) := do_60 (rdb (p := 32) (i := 18) ch_cX12_text_32 rfl)
theorem dX12_text_51 : decode cX12_text 51 = .ok (.iload_n 1, 1) := do_27 (rdb (p := 32) (i := 19) ch_cX12_text_32 rfl)
theorem dX12_text_52 : decode cX12_text 52 = .ok (.ifCond .le 62, 3) := do_158 (rdb (p := 32) (i := 20) ch_cX12_text_32 rfl) (rdb (p := 32) (i := 21) ch_cX12_text_32 rfl) (rdb (p := 32) (i := 22) ch_cX12_text_32 rfl) (by decide +kernel)
theorem dX12_text_55 : decode cX12_text 55 = .ok (.aload_n 0, 1) := do_42 (rdb (p := 32) (i := 23) ch_cX12_text_32 rfl)
theorem dX12_text_56 : decode cX12_text 56 = .ok (.invokevirtual 168, 3) := do_182 (rdb (p := 32) (i := 24) ch_cX12_text_32 rfl) (rdb (p := 32) (i := 25) ch_cX12_text_32 rfl) (rdb (p := 32) (i := 26) ch_cX12_text_32 rfl) rfl
theorem dX12_text_59 : decode cX12_text 59 = .ok (.aload_n 0, 1) := do_42 (rdb (p := 32) (i := 27) ch_cX12_text_32 rfl)
theorem dX12_text_60 : decode cX12_text 60 = .ok (.iload_n 1, 1) := do_27 (rdb (p := 32) (i := 28) ch_cX12_text_32 rfl)
theorem dX12_text_61 : decode cX12_text 61 = .ok (.invokevirtual 171, 3) := do_182 (rdb (p := 32) (i := 29) ch_cX12_text_32 rfl) (rdb (p := 32) (i := 30) ch_cX12_text_32 rfl) (rdb (p := 32) (i := 31) ch_cX12_text_32 rfl) rfl
theorem ch_cX12_text_64 : (cX12_text.data.toList.drop 64).take 36 = [42, 16, 60, 182, 0, 165, 153, 0, 9, 17, 7, 208, 167, 0, 34, 42, 16, 61, 182, 0, 165, 153, 0, 9, 17, 7, 209, 167, 0, 19, 42, 16, 62, 182, 0, 165] := by decide +kernel
theorem dX12_text_64 : decode cX12_text 64 = .ok (.aload_n 0, 1) := do_42 (rdb (p := 64) (i := 0) ch_cX12_text_64 rfl)
theorem dX12_text_65 : decode cX12_text 65 = .ok (.bipush 60, 2) := do_16 (rdb (p := 64) (i := 1) ch_cX12_text_64 rfl) (rdb (p := 64) (i := 2) ch_cX12_text_64 rfl) (by decide +kernel)
theorem dX12_text_67 : decode cX12_text 67 = .ok (.invokevirtual 165, 3) := do_182 (rdb (p := 64) (i := 3) ch_cX12_text_64 rfl) (rdb (p := 64) (i := 4) ch_cX12_text_64 rfl) (rdb (p := 64) (i := 5) ch_cX12_text_64 rfl) rfl
theorem dX12_text_70 : decode cX12_text 70 = .ok (.ifCond .eq 9, 3) := do_153 (rdb (p := 64) (i := 6) ch_cX12_text_64 rfl) (rdb (p := 64) (i := 7) ch_cX12_text_64 rfl) (rdb (p := 64) (i := 8) ch_cX12_text_64 rfl) (by decide +kernel)
theorem dX12_text_73 : decode cX12_text 73 = .ok (.sipush 2000, 3) := do_17 (rdb (p := 64) (i := 9) ch_cX12_text_64 rfl) (rdb (p := 64) (i := 10) ch_cX12_text_64 rfl) (rdb (p := 64) (i := 11) ch_cX12_text_64 rfl) (by decide +kernel)
theorem dX12_text_76 : decode cX12_text 76 = .ok (.goto 34, 3) := do_167 (rdb (p := 64) (i := 12) ch_cX12_text_64 rfl) (rdb (p := 64) (i := 13) ch_cX12_text_64 rfl) (rdb (p := 64) (i := 14) ch_cX12_text_64 rfl) (by decide +kernel)
theorem dX12_text_79 : decode cX12_text 79 = .ok (.aload_n 0, 1) := do_42 (rdb (p := 64) (i := 15) ch_cX12_text_64 rfl)
theorem dX12_text_80 : decode cX12_text 80 = .ok (.bipush 61, 2) := do_16 (rdb (p := 64) (i := 16) ch_cX12_text_64 rfl) (rdb (p := 64) (i := 17) ch_cX12_text_64 rfl) (by decide +kernel)
theorem dX12_text_82 : decode cX12_text 82 = .ok (.invokevirtual 165, 3) := do_182 (rdb (p := 64) (i := 18) ch_cX12_text_64 rfl) (rdb (p := 64) (i := 19) ch_cX12_text_64 rfl) (rdb (p := 64) (i := 20) ch_cX12_text_64 rfl) rfl
theorem dX12_text_85 : decode cX12_text 85 = .ok (.ifCond .eq 9, 3) := do_153 (rdb (p := 64) (i := 21) ch_cX12_text_64 rfl) (rdb (p := 64) (i := 22) ch_cX12_text_64 rfl) (rdb (p := 64) (i := 23) ch_cX12_text_64 rfl) (by decide +kernel)
theorem dX12_text_88 : decode cX12_text 88 = .ok (.sipush 2001, 3) := do_17 (rdb (p := 64) (i := 24) ch_cX12_text_64 rfl) (rdb (p := 64) (i := 25) ch_cX12_text_64 rfl) (rdb (p := 64) (i := 26) ch_cX12_text_64 rfl) (by decide +kernel)
theorem dX12_text_91 : decode cX12_text 91 = .ok (.goto 19, 3) := do_167 (rdb (p := 64) (i := 27) ch_cX12_text_64 rfl) (rdb (p := 64) (i := 28) ch_cX12_text_64 rfl) (rdb (p := 64) (i := 29) ch_cX12_text_64 rfl) (by decide +kernel)
theorem dX12_text_94 : decode cX12_text 94 = .ok (.aload_n 0, 1) := do_42 (rdb (p := 64) (i := 30) ch_cX12_text_64 rfl)
theorem dX12_text_95 : decode cX12_text 95 = .ok (.bipush 62, 2) := do_16 (rdb (p := 64) (i := 31) ch_cX12_text_64 rfl) (rdb (p := 64) (i := 32) ch_cX12_text_64 rfl) (by decide +kernel)
theorem ch_cX12_text_96 : (cX12_text.data.toList.drop 96).take 36 = [62, 182, 0, 165, 153, 0, 9, 17, 7, 210, 167, 0, 4, 3, 60, 167, 255, 196, 177] := by decide +kernel
theorem dX12_text_97 : decode cX12_text 97 = .ok (.invokevirtual 165, 3) := do_182 (rdb (p := 96) (i := 1) ch_cX12_text_96 rfl) (rdb (p := 96) (i := 2) ch_cX12_text_96 rfl) (rdb (p := 96) (i := 3) ch_cX12_text_96 rfl) rfl
theorem dX12_text_100 : decode cX12_text 100 = .ok (.ifCond .eq 9, 3) := do_153 (rdb (p := 96) (i := 4) ch_cX12_text_96 rfl) (rdb (p := 96) (i := 5) ch_cX12_text_96 rfl) (rdb (p := 96) (i := 6) ch_cX12_text_96 rfl) (by decide +kernel)
theorem dX12_text_103 : decode cX12_text 103 = .ok (.sipush 2002, 3) := do_17 (rdb (p := 96) (i := 7) ch_cX12_text_96 rfl) (rdb (p := 96) (i := 8) ch_cX12_text_96 rfl) (rdb (p := 96) (i := 9) ch_cX12_text_96 rfl) (by decide +kernel)
theorem dX12_text_106 : decode cX12_text 106 = .ok (.goto 4, 3) := do_167 (rdb (p := 96) (i := 10) ch_cX12_text_96 rfl) (rdb (p := 96) (i := 11) ch_cX12_text_96 rfl) (rdb (p := 96) (i := 12) ch_cX12_text_96 rfl) (by decide +kernel)
theorem dX12_text_109 : decode cX12_text 109 = .ok (.iconst 0, 1) := do_3 (rdb (p := 96) (i := 13) ch_cX12_text_96 rfl)
theorem dX12_text_110 : decode cX12_text 110 = .ok (.istore_n 1, 1) := do_60 (rdb (p := 96) (i := 14) ch_cX12_text_96 rfl)
theorem dX12_text_111 : decode cX12_text 111 = .ok (.goto (-60), 3) := do_167 (rdb (p := 96) (i := 15) ch_cX12_text_96 rfl) (rdb (p := 96) (i := 16) ch_cX12_text_96 rfl) (rdb (p := 96) (i := 17) ch_cX12_text_96 rfl) (by decide +kernel)
theorem dX12_text_114 : decode cX12_text 114 = .ok (.return_, 1) := do_177 (rdb (p := 96) (i := 18) ch_cX12_text_96 rfl)
end
