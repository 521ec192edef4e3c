section
def S_par : rf → Nat → Prop := fun c k => (c.1 = 12 ∧ c.2.1 = 0 ∧ k = 9) ∨ (c.1 = 12 ∧ c.2.1 = 0 ∧ k = 11) ∨ (c.1 = 12 ∧ c.2.1 = 0 ∧ k = 12) ∨ (c.1 = 12 ∧ c.2.1 = 0 ∧ k = 13) ∨ (c.1 = 12 ∧ c.2.1 = 0 ∧ k = 14) ∨ (c.1 = 57 ∧ c.2.1 = 0) ∨ False
def ONED (l : Launch) (G : va_G) (cy : Nat → ClassId) (ad : rf → Nat) (N m : Nat) (Q : mM → mM → Prop) : Prop := ∀ (d : Nat) (s : Int) (D : Nat) (a T : Int) (Mz : mM) (hIz : InvD Mz) (hp : PP Mz s D a T) (hs : 0 ≤ s) (hk : (Mz.1 (12, 0, 0) 11).toInt + ((m : Nat) : Int) = 5) (hm : m ≤ 5), WP DD l G cy ad yX12_one cX12_one 4 none (N + d) 0 [(0, vR (12, 0, 0))] [] Mz (fun r M' => InvD M' ∧ FR (S_par) Mz M' ∧ (PP M' s (D + 1) a T ∧ (M'.1 (12, 0, 0) 11).toInt + ((m : Nat) : Int) = 5) ∧ Q Mz M')
def TXTD (l : Launch) (G : va_G) (cy : Nat → ClassId) (ad : rf → Nat) (N m : Nat) (Q : mM → mM → Prop) : Prop := ∀ (d : Nat) (s : Int) (D : Nat) (a T : Int) (Mz : mM) (hIz : InvD Mz) (hp : PP Mz s D a T) (hs : 0 ≤ s) (hk : (Mz.1 (12, 0, 0) 11).toInt + ((m : Nat) : Int) = 5) (hm : m ≤ 5), WP DD l G cy ad yX12_text cX12_text 2 none (N + d) 0 [(0, vR (12, 0, 0))] [] Mz (fun r M' => InvD M' ∧ FR (S_par) Mz M' ∧ (PP M' s (D + 1) a T ∧ (M'.1 (12, 0, 0) 11).toInt + ((m : Nat) : Int) = 5) ∧ Q Mz M')
def SP_X12_opens (N : Nat) (m : Nat) (QA : mM → mM → Prop) (QB : mM → mM → Prop) (v : Int32) (s : Int) (D : Nat) (a : Int) (T : Int) (Mz : mM) (M_ : mM) : Prop := ∃ z2_ : Int32, (z2_ = Mz.1 (12, 0, 0) 11) ∧ (0 ≤ z2_.toInt ∧ z2_.toInt ≤ 5) ∧ (z2_.toInt + ((m : Nat) : Int) = 5) ∧ (((¬ z2_.toInt = 5) ∧ ∃ M7_ : mM, (M7_ = up Mz (12, 0, 0) 13 0) ∧ ∃ z17_ : Int32, (z17_ = M7_.1 (12, 0, 0) 13) ∧ (0 ≤ z17_.toInt ∧ z17_.toInt ≤ 1) ∧ (z17_ = 0) ∧ (z17_.toInt = 0) ∧ (z17_.toInt = 0) ∧ (1 ≤ m) ∧ ∃ z24_ : Int32, (z24_ = M7_.1 (12, 0, 0) 11) ∧ (0 ≤ z24_.toInt ∧ z24_.toInt ≤ 5) ∧ (z24_.toInt + ((m : Nat) : Int) = 5) ∧ ∃ z28_ : Int32, (z28_.toInt = z24_.toInt + 1) ∧ ∃ M30_ : mM, (M30_ = up M7_ (12, 0, 0) 11 z28_) ∧ ∃ z40_ : Int32, (z40_ = M30_.1 (12, 0, 0) 9) ∧ (0 ≤ z40_.toInt ∧ z40_.toInt ≤ 48) ∧ (z40_.toInt < T) ∧ (z40_.toInt ≤ 47) ∧ ∃ z45_ : Int32, (z45_.toInt = z40_.toInt + 1) ∧ ∃ M47_ : mM, (M47_ = up M30_ (12, 0, 0) 9 z45_) ∧ (((¬ v.toInt = 45) ∧ (((¬ v.toInt = 40) ∧ (InvD M47_) ∧ ∃ M57_ : mM, (InvD M57_) ∧ (FR (S_par) M47_ M57_) ∧ (QB M47_ M57_) ∧ ∃ M66_ : mM, (InvD M66_) ∧ (FR (S_must) M57_ M66_) ∧ (SP_X12_must 63 (s + 1) (D + 1) (a + 1) T M57_ M66_) ∧ ∃ M74_ : mM, (InvD M74_) ∧ (FR (S_par) M66_ M74_) ∧ (QB M66_ M74_) ∧ ∃ M83_ : mM, (InvD M83_) ∧ (FR (S_must) M74_ M83_) ∧ (SP_X12_must 58 (s + 1) ((D + 1) + 1) (a + 1) T M74_ M83_) ∧ ∃ M91_ : mM, (InvD M91_) ∧ (FR (S_par) M83_ M91_) ∧ (QB M83_ M91_) ∧ ∃ M100_ : mM, (InvD M100_) ∧ (FR (S_must) M91_ M100_) ∧ (SP_X12_must 93 (s + 1) (((D + 1) + 1) + 1) (a + 1) T M91_ M100_) ∧ ∃ M108_ : mM, (InvD M108_) ∧ (FR (S_codes) M100_ M108_) ∧ (SP_X12_codes 2009 (s + 1) (((D + 1) + 1) + 1) (a + 1) T (D + 1) M100_ M108_) ∧ (PP M108_ ((s + 1) - 1) (D + 1) (a + 1) T) ∧ ∃ z116_ : Int32, (z116_ = M108_.1 (12, 0, 0) 11) ∧ (0 ≤ z116_.toInt ∧ z116_.toInt ≤ 5) ∧ (z116_.toInt + (((m - 1) : Nat) : Int) = 5) ∧ ∃ z120_ : Int32, (z120_.toInt = z116_.toInt - 1) ∧ ∃ M122_ : mM, (M122_ = up M108_ (12, 0, 0) 11 z120_) ∧ M_ = M122_) ∨ ((v.toInt = 40) ∧ (InvD M47_) ∧ ∃ M128_ : mM, (InvD M128_) ∧ (FR (S_par) M47_ M128_) ∧ (QB M47_ M128_) ∧ ∃ M137_ : mM, (InvD M137_) ∧ (FR (S_must) M128_ M137_) ∧ (SP_X12_must 41 (s + 1) (D + 1) (a + 1) T M128_ M137_) ∧ (PP M137_ (s + 1) (D + 1) (a + 1) T) ∧ ∃ z145_ : Int32, (z145_ = M137_.1 (12, 0, 0) 11) ∧ (0 ≤ z145_.toInt ∧ z145_.toInt ≤ 5) ∧ (z145_.toInt + (((m - 1) : Nat) : Int) = 5) ∧ ∃ z149_ : Int32, (z149_.toInt = z145_.toInt - 1) ∧ ∃ M151_ : mM, (M151_ = up M137_ (12, 0, 0) 11 z149_) ∧ M_ = M151_))) ∨ ((v.toInt = 45) ∧ (InvD M47_) ∧ ∃ M157_ : mM, (InvD M157_) ∧ (FR (S_par) M47_ M157_) ∧ (QA M47_ M157_) ∧ ∃ M166_ : mM, (InvD M166_) ∧ (FR (S_codes) M157_ M166_) ∧ (SP_X12_codes 2008 (s + 1) (D + 1) (a + 1) T (D + 1) M157_ M166_) ∧ (PP M166_ ((s + 1) - 1) (D + 1) (a + 1) T) ∧ ∃ z174_ : Int32, (z174_ = M166_.1 (12, 0, 0) 11) ∧ (0 ≤ z174_.toInt ∧ z174_.toInt ≤ 5) ∧ (z174_.toInt + (((m - 1) : Nat) : Int) = 5) ∧ ∃ z178_ : Int32, (z178_.toInt = z174_.toInt - 1) ∧ ∃ M180_ : mM, (M180_ = up M166_ (12, 0, 0) 11 z178_) ∧ M_ = M180_))) ∨ ((z2_.toInt = 5) ∧ ∃ M186_ : mM, (M186_ = up Mz (12, 0, 0) 13 1) ∧ (PP M186_ s D a T) ∧ ∃ z196_ : Int32, (z196_ = M186_.1 (12, 0, 0) 13) ∧ (0 ≤ z196_.toInt ∧ z196_.toInt ≤ 1) ∧ (z196_ = 1) ∧ (z196_.toInt = 1) ∧ (¬ z196_.toInt = 0) ∧ M_ = M186_))
theorem lf_c_X12_opens_1 (m : Nat) (z2_ : Int32) (h4_ : 0 ≤ z2_.toInt ∧ z2_.toInt ≤ 5) (h5_ : z2_.toInt + ((m : Nat) : Int) = 5) (h6_ : ¬ z2_.toInt = 5) : 1 ≤ m := by omega
theorem lf_c_X12_opens_2 (z24_ : Int32) (h26_ : 0 ≤ z24_.toInt ∧ z24_.toInt ≤ 5) : -2147483648 ≤ z24_.toInt + 1 ∧ z24_.toInt + 1 < 2147483648 := by omega
theorem lf_c_X12_opens_3 (m : Nat) (z24_ : Int32) (z28_ : Int32) (h23_ : 1 ≤ m) (h26_ : 0 ≤ z24_.toInt ∧ z24_.toInt ≤ 5) (h27_ : z24_.toInt + ((m : Nat) : Int) = 5) (h29_ : z28_.toInt = z24_.toInt + 1) : 0 ≤ z28_.toInt ∧ z28_.toInt ≤ 5 := by omega
theorem lf_c_X12_opens_4 (m : Nat) (z24_ : Int32) (z28_ : Int32) (h23_ : 1 ≤ m) (h27_ : z24_.toInt + ((m : Nat) : Int) = 5) (h29_ : z28_.toInt = z24_.toInt + 1) : z28_.toInt + (((m - 1) : Nat) : Int) = 5 := by omega
theorem lf_c_X12_opens_8 (s : Int) (hs : 0 ≤ s) : 0 ≤ (s + 1) := by omega
theorem lf_c_X12_opens_18 (z116_ : Int32) (h118_ : 0 ≤ z116_.toInt ∧ z116_.toInt ≤ 5) : -2147483648 ≤ z116_.toInt - 1 ∧ z116_.toInt - 1 < 2147483648 := by omega
theorem lf_c_X12_opens_19 (m : Nat) (z116_ : Int32) (z120_ : Int32) (hm : m ≤ 5) (h118_ : 0 ≤ z116_.toInt ∧ z116_.toInt ≤ 5) (h119_ : z116_.toInt + (((m - 1) : Nat) : Int) = 5) (h121_ : z120_.toInt = z116_.toInt - 1) : 0 ≤ z120_.toInt ∧ z120_.toInt ≤ 5 := by omega
theorem lf_c_X12_opens_20 (m : Nat) (z116_ : Int32) (z120_ : Int32) (h23_ : 1 ≤ m) (h119_ : z116_.toInt + (((m - 1) : Nat) : Int) = 5) (h121_ : z120_.toInt = z116_.toInt - 1) : z120_.toInt + ((m : Nat) : Int) = 5 := by omega
theorem lf_c_X12_opens_21 (s : Int) : s ≤ ((s + 1) - 1) := by omega
theorem lf_c_X12_opens_41 (s : Int) : s ≤ s := by omega
set_option maxHeartbeats 4000000 in
set_option maxRecDepth 100000 in
theorem c_X12_opens (l : Launch) (G : va_G) (cy : Nat → ClassId) (ad : rf → Nat) (d : Nat) (N : Nat) (m : Nat) (QA : mM → mM → Prop) (QB : mM → mM → Prop) (v : Int32) (s : Int) (D : Nat) (a : Int) (T : Int) (Mz : mM) (hIz : InvD Mz) (hA : ∀ k : Nat, k + 1 = m → ONED l G cy ad N k QA) (hB : ∀ k : Nat, k + 1 = m → TXTD l G cy ad N k QB) (hp : PP Mz s D a T) (hs : 0 ≤ s) (hk : (Mz.1 (12, 0, 0) 11).toInt + ((m : Nat) : Int) = 5) (hm : m ≤ 5) (ht : (Mz.1 (12, 0, 0) 9).toInt < T) (hw : Mz.1 (12, 0, 0) 13 = 0) : WP DD l G cy ad yX12_opens cX12_opens 2 none ((N + d) + 3) 0 [(0, vR (12, 0, 0)), (1, vI v)] [] Mz (fun r M' => InvD M' ∧ FR (S_par) Mz M' ∧ (PP M' s (D + 1) a T ∧ (M'.1 (12, 0, 0) 11).toInt + ((m : Nat) : Int) = 5) ∧ SP_X12_opens N m QA QB v s D a T Mz M') := by
  have hFz : FR (S_par) Mz Mz := FR.self
  have kf1_ : (Mz.1 (12, 0, 0) 9).toInt ≤ 47 := PP_a48 hIz hp ht
  refine w_aload_n dX12_opens_0 rfl 0 rfl ?_
  refine w_aload_n dX12_opens_1 rfl 0 rfl ?_
  refine w_getI fl_RX12_191 rfl rfl ic_12 dX12_opens_2 (fun z2_ e3_ => ?_)
  have h4_ : 0 ≤ z2_.toInt ∧ z2_.toInt ≤ 5 := ofEq (P := fun v => 0 ≤ v.toInt ∧ v.toInt ≤ 5) e3_ (hIz.1 (12, 0, 0) 11)
  have h5_ : z2_.toInt + ((m : Nat) : Int) = 5 := by rw [e3_]; exact hk
  refine w_iconst (v := 5) dX12_opens_5 (by decide) ?_
  refine w_icmp_ne (tgt := 13) dX12_opens_6 (by decide) (rfl : z2_.toInt = z2_.toInt) li_5 (fun h6_ => ?_) (fun h6_ => ?_)
  · refine w_iconst (v := 0) dX12_opens_13 (by decide) ?_
    refine w_putZ DD_nd fl_RX12_151 rfl rfl ic_12 ⟨by decide, by decide⟩ dX12_opens_14 (fun M7_ hM8_ => ?_)
    have hI9_ := hIz.put hM8_ ⟨⟨by decide, by decide⟩, Or.inl (by decide)⟩
    have hF10_ := hFz.put hM8_ (Or.inr (Or.inr (Or.inr (Or.inl ⟨rfl, rfl, rfl⟩))))
    have kf11_ : (M7_.1 (12, 0, 0) 11).toInt + ((m : Nat) : Int) = 5 := by rw [(show M7_.1 (12, 0, 0) 11 = Mz.1 (12, 0, 0) 11 by rw [hM8_, up_ne (by simp)])]; exact hk
    have kf12_ : (M7_.1 (12, 0, 0) 9).toInt < T := by rw [(show M7_.1 (12, 0, 0) 9 = Mz.1 (12, 0, 0) 9 by rw [hM8_, up_ne (by simp)])]; exact ht
    have kf13_ : (M7_.1 (12, 0, 0) 9).toInt ≤ 47 := by rw [(show M7_.1 (12, 0, 0) 9 = Mz.1 (12, 0, 0) 9 by rw [hM8_, up_ne (by simp)])]; exact kf1_
    have h14_ : PP M7_ s D a T := PP_put0 hp hM8_ hw
    have kf15_ : M7_.1 (12, 0, 0) 13 = 0 := up_s hM8_
    have kf16_ : (M7_.1 (12, 0, 0) 13).toInt = 0 := by rw [kf15_]; decide
    refine w_aload_n dX12_opens_17 rfl 0 rfl ?_
    refine w_getI fl_RX12_151 rfl rfl ic_12 dX12_opens_18 (fun z17_ e18_ => ?_)
    have h19_ : 0 ≤ z17_.toInt ∧ z17_.toInt ≤ 1 := ofEq (P := fun v => 0 ≤ v.toInt ∧ v.toInt ≤ 1) e18_ (hI9_.1 (12, 0, 0) 13)
    have h20_ : z17_ = 0 := by rw [e18_]; exact kf15_
    have h21_ : z17_.toInt = 0 := by rw [e18_]; exact kf16_
    refine w_if_eq (tgt := 25) dX12_opens_21 (by decide) (rfl : z17_.toInt = z17_.toInt) (fun h22_ => ?_) (fun h9 => (lf_c_X12_kind_4 z17_ h19_ h21_ h9 ).elim)
    have h23_ : 1 ≤ m := (lf_c_X12_opens_1 m z2_ h4_ h5_ h6_ )
    refine w_aload_n dX12_opens_25 rfl 0 rfl ?_
    refine w_dup dX12_opens_26 rfl ?_
    refine w_getI fl_RX12_191 rfl rfl ic_12 dX12_opens_27 (fun z24_ e25_ => ?_)
    have h26_ : 0 ≤ z24_.toInt ∧ z24_.toInt ≤ 5 := ofEq (P := fun v => 0 ≤ v.toInt ∧ v.toInt ≤ 5) e25_ (hI9_.1 (12, 0, 0) 11)
    have h27_ : z24_.toInt + ((m : Nat) : Int) = 5 := by rw [e25_]; exact kf11_
    refine w_iconst (v := 1) dX12_opens_30 (by decide) ?_
    refine w_iaddB dX12_opens_31 (rfl : z24_.toInt = z24_.toInt) li_1 (lf_c_X12_opens_2 z24_ h26_ ) (fun z28_ h29_ => ?_)
    refine w_putI DD_nd fl_RX12_191 rfl rfl ic_12 dX12_opens_32 (fun M30_ hM31_ => ?_)
    have hI32_ := hI9_.put hM31_ ⟨(lf_c_X12_opens_3 m z24_ z28_ h23_ h26_ h27_ h29_ ), Or.inl (by decide)⟩
    have hF33_ := hF10_.put hM31_ (Or.inr (Or.inl ⟨rfl, rfl, rfl⟩))
    have kf34_ : (M30_.1 (12, 0, 0) 9).toInt < T := by rw [(show M30_.1 (12, 0, 0) 9 = M7_.1 (12, 0, 0) 9 by rw [hM31_, up_ne (by simp)])]; exact kf12_
    have kf35_ : (M30_.1 (12, 0, 0) 9).toInt ≤ 47 := by rw [(show M30_.1 (12, 0, 0) 9 = M7_.1 (12, 0, 0) 9 by rw [hM31_, up_ne (by simp)])]; exact kf13_
    have kf36_ : PP M30_ s D a T := PP_cong h14_ (show M30_.1 (12, 0, 0) 14 = M7_.1 (12, 0, 0) 14 by rw [hM31_, up_ne (by simp)]) (show M30_.1 (12, 0, 0) 9 = M7_.1 (12, 0, 0) 9 by rw [hM31_, up_ne (by simp)]) (show M30_.1 (50, 0, 0) 4 = M7_.1 (50, 0, 0) 4 by rw [hM31_, up_ne (by simp)]) (show M30_.1 (12, 0, 0) 13 = M7_.1 (12, 0, 0) 13 by rw [hM31_, up_ne (by simp)]) (show M30_.1 (57, 0, 0) = M7_.1 (57, 0, 0) by rw [hM31_]; exact up_other _ _ (by simp))
    have kf37_ : M30_.1 (12, 0, 0) 13 = 0 := by rw [(show M30_.1 (12, 0, 0) 13 = M7_.1 (12, 0, 0) 13 by rw [hM31_, up_ne (by simp)])]; exact kf15_
    have kf38_ : (M30_.1 (12, 0, 0) 13).toInt = 0 := by rw [(show M30_.1 (12, 0, 0) 13 = M7_.1 (12, 0, 0) 13 by rw [hM31_, up_ne (by simp)])]; exact kf16_
    have kf39_ : (M30_.1 (12, 0, 0) 11).toInt + (((m - 1) : Nat) : Int) = 5 := by rw [hM31_, up_same]; exact (lf_c_X12_opens_4 m z24_ z28_ h23_ h27_ h29_ )
    refine w_aload_n dX12_opens_35 rfl 0 rfl ?_
    refine w_dup dX12_opens_36 rfl ?_
    refine w_getI fl_RX12_155 rfl rfl ic_12 dX12_opens_37 (fun z40_ e41_ => ?_)
    have h42_ : 0 ≤ z40_.toInt ∧ z40_.toInt ≤ 48 := ofEq (P := fun v => 0 ≤ v.toInt ∧ v.toInt ≤ 48) e41_ (hI32_.1 (12, 0, 0) 9)
    have h43_ : z40_.toInt < T := by rw [e41_]; exact kf34_
    have h44_ : z40_.toInt ≤ 47 := by rw [e41_]; exact kf35_
    refine w_iconst (v := 1) dX12_opens_40 (by decide) ?_
    refine w_iaddB dX12_opens_41 (rfl : z40_.toInt = z40_.toInt) li_1 (lf_c_X12_takes_4 z40_ h42_ h44_ ) (fun z45_ h46_ => ?_)
    refine w_putI DD_nd fl_RX12_155 rfl rfl ic_12 dX12_opens_42 (fun M47_ hM48_ => ?_)
    have hI49_ := hI32_.put hM48_ ⟨(lf_c_X12_takes_5 z40_ z45_ h42_ h44_ h46_ ), Or.inl (by decide)⟩
    have hF50_ := hF33_.put hM48_ (Or.inl ⟨rfl, rfl, rfl⟩)
    have kf51_ : M47_.1 (12, 0, 0) 13 = 0 := by rw [(show M47_.1 (12, 0, 0) 13 = M30_.1 (12, 0, 0) 13 by rw [hM48_, up_ne (by simp)])]; exact kf37_
    have kf52_ : (M47_.1 (12, 0, 0) 13).toInt = 0 := by rw [(show M47_.1 (12, 0, 0) 13 = M30_.1 (12, 0, 0) 13 by rw [hM48_, up_ne (by simp)])]; exact kf38_
    have kf53_ : (M47_.1 (12, 0, 0) 11).toInt + (((m - 1) : Nat) : Int) = 5 := by rw [(show M47_.1 (12, 0, 0) 11 = M30_.1 (12, 0, 0) 11 by rw [hM48_, up_ne (by simp)])]; exact kf39_
    have h54_ : PP M47_ (s + 1) D (a + 1) T := PP_at kf36_ hM48_ (by rw [← e41_]; exact (lf_c_X12_given_25 z40_ z45_ h46_ )) kf34_
    refine w_iload_n dX12_opens_45 rfl 1 rfl ?_
    refine w_bipush (v := 45) dX12_opens_46 (by decide) ?_
    refine w_icmp_ne (tgt := 65) dX12_opens_48 (by decide) (rfl : v.toInt = v.toInt) li_45 (fun h55_ => ?_) (fun h55_ => ?_)
    · refine w_iload_n dX12_opens_65 rfl 1 rfl ?_
      refine w_bipush (v := 40) dX12_opens_66 (by decide) ?_
      refine w_icmp_ne (tgt := 84) dX12_opens_68 (by decide) (rfl : v.toInt = v.toInt) li_40 (fun h56_ => ?_) (fun h56_ => ?_)
      · refine w_aload_n dX12_opens_84 rfl 0 rfl ?_
        refine w_callVv (as := []) (rest := []) (hB (m - 1) (lf_c_X12_tryRows_23 m h23_ ) (d + 2) (s + 1) D (a + 1) T M47_ hI49_ h54_ (lf_c_X12_opens_8 s hs ) kf53_ (lf_c_X4_readOpened_2 m hm )) kV_X12_text pnn_17 (Nat.le_of_ble_eq_true rfl) m_1559 rfl rfl rfl ic_12 rfl rfl (by decide) (Nat.le_of_ble_eq_true rfl) dX12_opens_85 (fun M57_ q58_ => ?_)
        obtain ⟨hI60_, hF61_, h59_, hs63_⟩ := q58_
        have hF62_ := hF50_.tr hF61_ (fun c k => (fun h => h.elim (fun h => (Or.inl ⟨h.1, h.2.1, h.2.2⟩)) (fun h => h.elim (fun h => (Or.inr (Or.inl ⟨h.1, h.2.1, h.2.2⟩))) (fun h => h.elim (fun h => (Or.inr (Or.inr (Or.inl ⟨h.1, h.2.1, h.2.2⟩)))) (fun h => h.elim (fun h => (Or.inr (Or.inr (Or.inr (Or.inl ⟨h.1, h.2.1, h.2.2⟩))))) (fun h => h.elim (fun h => (Or.inr (Or.inr (Or.inr (Or.inr (Or.inl ⟨h.1, h.2.1, h.2.2⟩)))))) (fun h => h.elim (fun h => (Or.inr (Or.inr (Or.inr (Or.inr (Or.inr (Or.inl ⟨h.1, h.2⟩))))))) (fun h => h.elim))))))))
        have h64_ : PP M57_ (s + 1) (D + 1) (a + 1) T := h59_.1
        have kf65_ : (M57_.1 (12, 0, 0) 11).toInt + (((m - 1) : Nat) : Int) = 5 := h59_.2
        refine w_aload_n dX12_opens_88 rfl 0 rfl ?_
        refine w_bipush (v := 63) dX12_opens_89 (by decide) ?_
        refine w_callVv (as := [vI 63]) (rest := []) (c_X12_must l G cy ad (N + d) 63 (s + 1) (D + 1) (a + 1) T M57_ hI60_ h64_ (by first | decide | (unfold vF; omega) | (unfold vRw; omega))) kV_X12_must pnn_17 (Nat.le_of_ble_eq_true rfl) m_1587 rfl rfl rfl ic_12 rfl rfl (by decide) (Nat.le_of_ble_eq_true rfl) dX12_opens_91 (fun M66_ q67_ => ?_)
        obtain ⟨hI69_, hF70_, h68_, hs72_⟩ := q67_
        have hF71_ := hF62_.tr hF70_ (fun c k => (fun h => h.elim (fun h => (Or.inl ⟨h.1, h.2.1, h.2.2⟩)) (fun h => h.elim (fun h => (Or.inr (Or.inr (Or.inr (Or.inl ⟨h.1, h.2.1, h.2.2⟩))))) (fun h => h.elim))))
        have kf73_ : (M66_.1 (12, 0, 0) 11).toInt + (((m - 1) : Nat) : Int) = 5 := by rw [(hF70_ (12, 0, 0) 11 (by simp [S_must]))]; exact kf65_
        refine w_aload_n dX12_opens_94 rfl 0 rfl ?_
        refine w_callVv (as := []) (rest := []) (hB (m - 1) (lf_c_X12_tryRows_23 m h23_ ) (d + 2) (s + 1) (D + 1) (a + 1) T M66_ hI69_ h68_ (lf_c_X12_opens_8 s hs ) kf73_ (lf_c_X4_readOpened_2 m hm )) kV_X12_text pnn_17 (Nat.le_of_ble_eq_true rfl) m_1559 rfl rfl rfl ic_12 rfl rfl (by decide) (Nat.le_of_ble_eq_true rfl) dX12_opens_95 (fun M74_ q75_ => ?_)
        obtain ⟨hI77_, hF78_, h76_, hs80_⟩ := q75_
        have hF79_ := hF71_.tr hF78_ (fun c k => (fun h => h.elim (fun h => (Or.inl ⟨h.1, h.2.1, h.2.2⟩)) (fun h => h.elim (fun h => (Or.inr (Or.inl ⟨h.1, h.2.1, h.2.2⟩))) (fun h => h.elim (fun h => (Or.inr (Or.inr (Or.inl ⟨h.1, h.2.1, h.2.2⟩)))) (fun h => h.elim (fun h => (Or.inr (Or.inr (Or.inr (Or.inl ⟨h.1, h.2.1, h.2.2⟩))))) (fun h => h.elim (fun h => (Or.inr (Or.inr (Or.inr (Or.inr (Or.inl ⟨h.1, h.2.1, h.2.2⟩)))))) (fun h => h.elim (fun h => (Or.inr (Or.inr (Or.inr (Or.inr (Or.inr (Or.inl ⟨h.1, h.2⟩))))))) (fun h => h.elim))))))))
        have h81_ : PP M74_ (s + 1) ((D + 1) + 1) (a + 1) T := h76_.1
        have kf82_ : (M74_.1 (12, 0, 0) 11).toInt + (((m - 1) : Nat) : Int) = 5 := h76_.2
        refine w_aload_n dX12_opens_98 rfl 0 rfl ?_
        refine w_bipush (v := 58) dX12_opens_99 (by decide) ?_
        refine w_callVv (as := [vI 58]) (rest := []) (c_X12_must l G cy ad (N + d) 58 (s + 1) ((D + 1) + 1) (a + 1) T M74_ hI77_ h81_ (by first | decide | (unfold vF; omega) | (unfold vRw; omega))) kV_X12_must pnn_17 (Nat.le_of_ble_eq_true rfl) m_1587 rfl rfl rfl ic_12 rfl rfl (by decide) (Nat.le_of_ble_eq_true rfl) dX12_opens_101 (fun M83_ q84_ => ?_)
        obtain ⟨hI86_, hF87_, h85_, hs89_⟩ := q84_
        have hF88_ := hF79_.tr hF87_ (fun c k => (fun h => h.elim (fun h => (Or.inl ⟨h.1, h.2.1, h.2.2⟩)) (fun h => h.elim (fun h => (Or.inr (Or.inr (Or.inr (Or.inl ⟨h.1, h.2.1, h.2.2⟩))))) (fun h => h.elim))))
        have kf90_ : (M83_.1 (12, 0, 0) 11).toInt + (((m - 1) : Nat) : Int) = 5 := by rw [(hF87_ (12, 0, 0) 11 (by simp [S_must]))]; exact kf82_
        refine w_aload_n dX12_opens_104 rfl 0 rfl ?_
        refine w_callVv (as := []) (rest := []) (hB (m - 1) (lf_c_X12_tryRows_23 m h23_ ) (d + 2) (s + 1) ((D + 1) + 1) (a + 1) T M83_ hI86_ h85_ (lf_c_X12_opens_8 s hs ) kf90_ (lf_c_X4_readOpened_2 m hm )) kV_X12_text pnn_17 (Nat.le_of_ble_eq_true rfl) m_1559 rfl rfl rfl ic_12 rfl rfl (by decide) (Nat.le_of_ble_eq_true rfl) dX12_opens_105 (fun M91_ q92_ => ?_)
        obtain ⟨hI94_, hF95_, h93_, hs97_⟩ := q92_
        have hF96_ := hF88_.tr hF95_ (fun c k => (fun h => h.elim (fun h => (Or.inl ⟨h.1, h.2.1, h.2.2⟩)) (fun h => h.elim (fun h => (Or.inr (Or.inl ⟨h.1, h.2.1, h.2.2⟩))) (fun h => h.elim (fun h => (Or.inr (Or.inr (Or.inl ⟨h.1, h.2.1, h.2.2⟩)))) (fun h => h.elim (fun h => (Or.inr (Or.inr (Or.inr (Or.inl ⟨h.1, h.2.1, h.2.2⟩))))) (fun h => h.elim (fun h => (Or.inr (Or.inr (Or.inr (Or.inr (Or.inl ⟨h.1, h.2.1, h.2.2⟩)))))) (fun h => h.elim (fun h => (Or.inr (Or.inr (Or.inr (Or.inr (Or.inr (Or.inl ⟨h.1, h.2⟩))))))) (fun h => h.elim))))))))
        have h98_ : PP M91_ (s + 1) (((D + 1) + 1) + 1) (a + 1) T := h93_.1
        have kf99_ : (M91_.1 (12, 0, 0) 11).toInt + (((m - 1) : Nat) : Int) = 5 := h93_.2
        refine w_aload_n dX12_opens_108 rfl 0 rfl ?_
        refine w_bipush (v := 93) dX12_opens_109 (by decide) ?_
        refine w_callVv (as := [vI 93]) (rest := []) (c_X12_must l G cy ad (N + d) 93 (s + 1) (((D + 1) + 1) + 1) (a + 1) T M91_ hI94_ h98_ (by first | decide | (unfold vF; omega) | (unfold vRw; omega))) kV_X12_must pnn_17 (Nat.le_of_ble_eq_true rfl) m_1587 rfl rfl rfl ic_12 rfl rfl (by decide) (Nat.le_of_ble_eq_true rfl) dX12_opens_111 (fun M100_ q101_ => ?_)
        obtain ⟨hI103_, hF104_, h102_, hs106_⟩ := q101_
        have hF105_ := hF96_.tr hF104_ (fun c k => (fun h => h.elim (fun h => (Or.inl ⟨h.1, h.2.1, h.2.2⟩)) (fun h => h.elim (fun h => (Or.inr (Or.inr (Or.inr (Or.inl ⟨h.1, h.2.1, h.2.2⟩))))) (fun h => h.elim))))
        have kf107_ : (M100_.1 (12, 0, 0) 11).toInt + (((m - 1) : Nat) : Int) = 5 := by rw [(hF104_ (12, 0, 0) 11 (by simp [S_must]))]; exact kf99_
        refine w_aload_n dX12_opens_114 rfl 0 rfl ?_
        refine w_sipush (v := 2009) dX12_opens_115 (by decide) ?_
        refine w_callVv (as := [vI 2009]) (rest := []) (c_X12_codes l G cy ad ((N + d) + 2) 2009 (s + 1) (((D + 1) + 1) + 1) (a + 1) T (D + 1) M100_ hI103_ h102_ (lf_c_X12_opens_8 s hs ) stp_c) kV_X12_codes pnn_17 (Nat.le_of_ble_eq_true rfl) m_1583 rfl rfl rfl ic_12 rfl rfl (by decide) (Nat.le_of_ble_eq_true rfl) dX12_opens_118 (fun M108_ q109_ => ?_)
        obtain ⟨hI111_, hF112_, h110_, hs114_⟩ := q109_
        have hF113_ := hF105_.tr hF112_ (fun c k => (fun h => h.elim (fun h => (Or.inr (Or.inr (Or.inr (Or.inr (Or.inl ⟨h.1, h.2.1, h.2.2⟩)))))) (fun h => h.elim (fun h => (Or.inr (Or.inr (Or.inr (Or.inr (Or.inr (Or.inl ⟨h.1, h.2⟩))))))) (fun h => h.elim))))
        have kf115_ : (M108_.1 (12, 0, 0) 11).toInt + (((m - 1) : Nat) : Int) = 5 := by rw [(hF112_ (12, 0, 0) 11 (by simp [S_codes]))]; exact kf107_
        refine w_aload_n dX12_opens_121 rfl 0 rfl ?_
        refine w_dup dX12_opens_122 rfl ?_
        refine w_getI fl_RX12_191 rfl rfl ic_12 dX12_opens_123 (fun z116_ e117_ => ?_)
        have h118_ : 0 ≤ z116_.toInt ∧ z116_.toInt ≤ 5 := ofEq (P := fun v => 0 ≤ v.toInt ∧ v.toInt ≤ 5) e117_ (hI111_.1 (12, 0, 0) 11)
        have h119_ : z116_.toInt + (((m - 1) : Nat) : Int) = 5 := by rw [e117_]; exact kf115_
        refine w_iconst (v := 1) dX12_opens_126 (by decide) ?_
        refine w_isubB dX12_opens_127 (rfl : z116_.toInt = z116_.toInt) li_1 (lf_c_X12_opens_18 z116_ h118_ ) (fun z120_ h121_ => ?_)
        refine w_putI DD_nd fl_RX12_191 rfl rfl ic_12 dX12_opens_128 (fun M122_ hM123_ => ?_)
        have hI124_ := hI111_.put hM123_ ⟨(lf_c_X12_opens_19 m z116_ z120_ hm h118_ h119_ h121_ ), Or.inl (by decide)⟩
        have hF125_ := hF113_.put hM123_ (Or.inr (Or.inl ⟨rfl, rfl, rfl⟩))
        have kf126_ : PP M122_ ((s + 1) - 1) (D + 1) (a + 1) T := PP_cong h110_ (show M122_.1 (12, 0, 0) 14 = M108_.1 (12, 0, 0) 14 by rw [hM123_, up_ne (by simp)]) (show M122_.1 (12, 0, 0) 9 = M108_.1 (12, 0, 0) 9 by rw [hM123_, up_ne (by simp)]) (show M122_.1 (50, 0, 0) 4 = M108_.1 (50, 0, 0) 4 by rw [hM123_, up_ne (by simp)]) (show M122_.1 (12, 0, 0) 13 = M108_.1 (12, 0, 0) 13 by rw [hM123_, up_ne (by simp)]) (show M122_.1 (57, 0, 0) = M108_.1 (57, 0, 0) by rw [hM123_]; exact up_other _ _ (by simp))
        have kf127_ : (M122_.1 (12, 0, 0) 11).toInt + ((m : Nat) : Int) = 5 := by rw [hM123_, up_same]; exact (lf_c_X12_opens_20 m z116_ z120_ h23_ h119_ h121_ )
        exact w_vret rfl dX12_opens_131 ⟨hI124_, hF125_, ⟨PP_mono kf126_ (lf_c_X12_opens_21 s ) (lf_c_X12_here_19 a ), kf127_⟩, ⟨z2_, e3_, h4_, h5_, (Or.inl ⟨h6_, M7_, hM8_, z17_, e18_, h19_, h20_, h21_, h22_, h23_, z24_, e25_, h26_, h27_, z28_, h29_, M30_, hM31_, z40_, e41_, h42_, h43_, h44_, z45_, h46_, M47_, hM48_, (Or.inl ⟨h55_, (Or.inl ⟨h56_, hI49_, M57_, hI60_, hF61_, hs63_, M66_, hI69_, hF70_, hs72_, M74_, hI77_, hF78_, hs80_, M83_, hI86_, hF87_, hs89_, M91_, hI94_, hF95_, hs97_, M100_, hI103_, hF104_, hs106_, M108_, hI111_, hF112_, hs114_, h110_, z116_, e117_, h118_, h119_, z120_, h121_, M122_, hM123_, rfl⟩)⟩)⟩)⟩⟩
      · refine w_aload_n dX12_opens_71 rfl 0 rfl ?_
        refine w_callVv (as := []) (rest := []) (hB (m - 1) (lf_c_X12_tryRows_23 m h23_ ) (d + 2) (s + 1) D (a + 1) T M47_ hI49_ h54_ (lf_c_X12_opens_8 s hs ) kf53_ (lf_c_X4_readOpened_2 m hm )) kV_X12_text pnn_17 (Nat.le_of_ble_eq_true rfl) m_1559 rfl rfl rfl ic_12 rfl rfl (by decide) (Nat.le_of_ble_eq_true rfl) dX12_opens_72 (fun M128_ q129_ => ?_)
        obtain ⟨hI131_, hF132_, h130_, hs134_⟩ := q129_
        have hF133_ := hF50_.tr hF132_ (fun c k => (fun h => h.elim (fun h => (Or.inl ⟨h.1, h.2.1, h.2.2⟩)) (fun h => h.elim (fun h => (Or.inr (Or.inl ⟨h.1, h.2.1, h.2.2⟩))) (fun h => h.elim (fun h => (Or.inr (Or.inr (Or.inl ⟨h.1, h.2.1, h.2.2⟩)))) (fun h => h.elim (fun h => (Or.inr (Or.inr (Or.inr (Or.inl ⟨h.1, h.2.1, h.2.2⟩))))) (fun h => h.elim (fun h => (Or.inr (Or.inr (Or.inr (Or.inr (Or.inl ⟨h.1, h.2.1, h.2.2⟩)))))) (fun h => h.elim (fun h => (Or.inr (Or.inr (Or.inr (Or.inr (Or.inr (Or.inl ⟨h.1, h.2⟩))))))) (fun h => h.elim))))))))
        have h135_ : PP M128_ (s + 1) (D + 1) (a + 1) T := h130_.1
        have kf136_ : (M128_.1 (12, 0, 0) 11).toInt + (((m - 1) : Nat) : Int) = 5 := h130_.2
        refine w_aload_n dX12_opens_75 rfl 0 rfl ?_
        refine w_bipush (v := 41) dX12_opens_76 (by decide) ?_
        refine w_callVv (as := [vI 41]) (rest := []) (c_X12_must l G cy ad (N + d) 41 (s + 1) (D + 1) (a + 1) T M128_ hI131_ h135_ (by first | decide | (unfold vF; omega) | (unfold vRw; omega))) kV_X12_must pnn_17 (Nat.le_of_ble_eq_true rfl) m_1587 rfl rfl rfl ic_12 rfl rfl (by decide) (Nat.le_of_ble_eq_true rfl) dX12_opens_78 (fun M137_ q138_ => ?_)
        obtain ⟨hI140_, hF141_, h139_, hs143_⟩ := q138_
        have hF142_ := hF133_.tr hF141_ (fun c k => (fun h => h.elim (fun h => (Or.inl ⟨h.1, h.2.1, h.2.2⟩)) (fun h => h.elim (fun h => (Or.inr (Or.inr (Or.inr (Or.inl ⟨h.1, h.2.1, h.2.2⟩))))) (fun h => h.elim))))
        have kf144_ : (M137_.1 (12, 0, 0) 11).toInt + (((m - 1) : Nat) : Int) = 5 := by rw [(hF141_ (12, 0, 0) 11 (by simp [S_must]))]; exact kf136_
        refine w_goto (tgt := 121) dX12_opens_81 (by decide) ?_
        refine w_aload_n dX12_opens_121 rfl 0 rfl ?_
        refine w_dup dX12_opens_122 rfl ?_
        refine w_getI fl_RX12_191 rfl rfl ic_12 dX12_opens_123 (fun z145_ e146_ => ?_)
        have h147_ : 0 ≤ z145_.toInt ∧ z145_.toInt ≤ 5 := ofEq (P := fun v => 0 ≤ v.toInt ∧ v.toInt ≤ 5) e146_ (hI140_.1 (12, 0, 0) 11)
        have h148_ : z145_.toInt + (((m - 1) : Nat) : Int) = 5 := by rw [e146_]; exact kf144_
        refine w_iconst (v := 1) dX12_opens_126 (by decide) ?_
        refine w_isubB dX12_opens_127 (rfl : z145_.toInt = z145_.toInt) li_1 (lf_c_X12_opens_18 z145_ h147_ ) (fun z149_ h150_ => ?_)
        refine w_putI DD_nd fl_RX12_191 rfl rfl ic_12 dX12_opens_128 (fun M151_ hM152_ => ?_)
        have hI153_ := hI140_.put hM152_ ⟨(lf_c_X12_opens_19 m z145_ z149_ hm h147_ h148_ h150_ ), Or.inl (by decide)⟩
        have hF154_ := hF142_.put hM152_ (Or.inr (Or.inl ⟨rfl, rfl, rfl⟩))
        have kf155_ : PP M151_ (s + 1) (D + 1) (a + 1) T := PP_cong h139_ (show M151_.1 (12, 0, 0) 14 = M137_.1 (12, 0, 0) 14 by rw [hM152_, up_ne (by simp)]) (show M151_.1 (12, 0, 0) 9 = M137_.1 (12, 0, 0) 9 by rw [hM152_, up_ne (by simp)]) (show M151_.1 (50, 0, 0) 4 = M137_.1 (50, 0, 0) 4 by rw [hM152_, up_ne (by simp)]) (show M151_.1 (12, 0, 0) 13 = M137_.1 (12, 0, 0) 13 by rw [hM152_, up_ne (by simp)]) (show M151_.1 (57, 0, 0) = M137_.1 (57, 0, 0) by rw [hM152_]; exact up_other _ _ (by simp))
        have kf156_ : (M151_.1 (12, 0, 0) 11).toInt + ((m : Nat) : Int) = 5 := by rw [hM152_, up_same]; exact (lf_c_X12_opens_20 m z145_ z149_ h23_ h148_ h150_ )
        exact w_vret rfl dX12_opens_131 ⟨hI153_, hF154_, ⟨PP_mono kf155_ (lf_c_X12_here_19 s ) (lf_c_X12_here_19 a ), kf156_⟩, ⟨z2_, e3_, h4_, h5_, (Or.inl ⟨h6_, M7_, hM8_, z17_, e18_, h19_, h20_, h21_, h22_, h23_, z24_, e25_, h26_, h27_, z28_, h29_, M30_, hM31_, z40_, e41_, h42_, h43_, h44_, z45_, h46_, M47_, hM48_, (Or.inl ⟨h55_, (Or.inr ⟨h56_, hI49_, M128_, hI131_, hF132_, hs134_, M137_, hI140_, hF141_, hs143_, h139_, z145_, e146_, h147_, h148_, z149_, h150_, M151_, hM152_, rfl⟩)⟩)⟩)⟩⟩
    · refine w_aload_n dX12_opens_51 rfl 0 rfl ?_
      refine w_callVv (as := []) (rest := []) (hA (m - 1) (lf_c_X12_tryRows_23 m h23_ ) (d + 2) (s + 1) D (a + 1) T M47_ hI49_ h54_ (lf_c_X12_opens_8 s hs ) kf53_ (lf_c_X4_readOpened_2 m hm )) kV_X12_one pnn_17 (Nat.le_of_ble_eq_true rfl) m_1571 rfl rfl rfl ic_12 rfl rfl (by decide) (Nat.le_of_ble_eq_true rfl) dX12_opens_52 (fun M157_ q158_ => ?_)
      obtain ⟨hI160_, hF161_, h159_, hs163_⟩ := q158_
      have hF162_ := hF50_.tr hF161_ (fun c k => (fun h => h.elim (fun h => (Or.inl ⟨h.1, h.2.1, h.2.2⟩)) (fun h => h.elim (fun h => (Or.inr (Or.inl ⟨h.1, h.2.1, h.2.2⟩))) (fun h => h.elim (fun h => (Or.inr (Or.inr (Or.inl ⟨h.1, h.2.1, h.2.2⟩)))) (fun h => h.elim (fun h => (Or.inr (Or.inr (Or.inr (Or.inl ⟨h.1, h.2.1, h.2.2⟩))))) (fun h => h.elim (fun h => (Or.inr (Or.inr (Or.inr (Or.inr (Or.inl ⟨h.1, h.2.1, h.2.2⟩)))))) (fun h => h.elim (fun h => (Or.inr (Or.inr (Or.inr (Or.inr (Or.inr (Or.inl ⟨h.1, h.2⟩))))))) (fun h => h.elim))))))))
      have h164_ : PP M157_ (s + 1) (D + 1) (a + 1) T := h159_.1
      have kf165_ : (M157_.1 (12, 0, 0) 11).toInt + (((m - 1) : Nat) : Int) = 5 := h159_.2
      refine w_aload_n dX12_opens_55 rfl 0 rfl ?_
      refine w_sipush (v := 2008) dX12_opens_56 (by decide) ?_
      refine w_callVv (as := [vI 2008]) (rest := []) (c_X12_codes l G cy ad ((N + d) + 2) 2008 (s + 1) (D + 1) (a + 1) T (D + 1) M157_ hI160_ h164_ (lf_c_X12_opens_8 s hs ) stp_t) kV_X12_codes pnn_17 (Nat.le_of_ble_eq_true rfl) m_1583 rfl rfl rfl ic_12 rfl rfl (by decide) (Nat.le_of_ble_eq_true rfl) dX12_opens_59 (fun M166_ q167_ => ?_)
      obtain ⟨hI169_, hF170_, h168_, hs172_⟩ := q167_
      have hF171_ := hF162_.tr hF170_ (fun c k => (fun h => h.elim (fun h => (Or.inr (Or.inr (Or.inr (Or.inr (Or.inl ⟨h.1, h.2.1, h.2.2⟩)))))) (fun h => h.elim (fun h => (Or.inr (Or.inr (Or.inr (Or.inr (Or.inr (Or.inl ⟨h.1, h.2⟩))))))) (fun h => h.elim))))
      have kf173_ : (M166_.1 (12, 0, 0) 11).toInt + (((m - 1) : Nat) : Int) = 5 := by rw [(hF170_ (12, 0, 0) 11 (by simp [S_codes]))]; exact kf165_
      refine w_goto (tgt := 121) dX12_opens_62 (by decide) ?_
      refine w_aload_n dX12_opens_121 rfl 0 rfl ?_
      refine w_dup dX12_opens_122 rfl ?_
      refine w_getI fl_RX12_191 rfl rfl ic_12 dX12_opens_123 (fun z174_ e175_ => ?_)
      have h176_ : 0 ≤ z174_.toInt ∧ z174_.toInt ≤ 5 := ofEq (P := fun v => 0 ≤ v.toInt ∧ v.toInt ≤ 5) e175_ (hI169_.1 (12, 0, 0) 11)
      have h177_ : z174_.toInt + (((m - 1) : Nat) : Int) = 5 := by rw [e175_]; exact kf173_
      refine w_iconst (v := 1) dX12_opens_126 (by decide) ?_
      refine w_isubB dX12_opens_127 (rfl : z174_.toInt = z174_.toInt) li_1 (lf_c_X12_opens_18 z174_ h176_ ) (fun z178_ h179_ => ?_)
      refine w_putI DD_nd fl_RX12_191 rfl rfl ic_12 dX12_opens_128 (fun M180_ hM181_ => ?_)
      have hI182_ := hI169_.put hM181_ ⟨(lf_c_X12_opens_19 m z174_ z178_ hm h176_ h177_ h179_ ), Or.inl (by decide)⟩
      have hF183_ := hF171_.put hM181_ (Or.inr (Or.inl ⟨rfl, rfl, rfl⟩))
      have kf184_ : PP M180_ ((s + 1) - 1) (D + 1) (a + 1) T := PP_cong h168_ (show M180_.1 (12, 0, 0) 14 = M166_.1 (12, 0, 0) 14 by rw [hM181_, up_ne (by simp)]) (show M180_.1 (12, 0, 0) 9 = M166_.1 (12, 0, 0) 9 by rw [hM181_, up_ne (by simp)]) (show M180_.1 (50, 0, 0) 4 = M166_.1 (50, 0, 0) 4 by rw [hM181_, up_ne (by simp)]) (show M180_.1 (12, 0, 0) 13 = M166_.1 (12, 0, 0) 13 by rw [hM181_, up_ne (by simp)]) (show M180_.1 (57, 0, 0) = M166_.1 (57, 0, 0) by rw [hM181_]; exact up_other _ _ (by simp))
      have kf185_ : (M180_.1 (12, 0, 0) 11).toInt + ((m : Nat) : Int) = 5 := by rw [hM181_, up_same]; exact (lf_c_X12_opens_20 m z174_ z178_ h23_ h177_ h179_ )
      exact w_vret rfl dX12_opens_131 ⟨hI182_, hF183_, ⟨PP_mono kf184_ (lf_c_X12_opens_21 s ) (lf_c_X12_here_19 a ), kf185_⟩, ⟨z2_, e3_, h4_, h5_, (Or.inl ⟨h6_, M7_, hM8_, z17_, e18_, h19_, h20_, h21_, h22_, h23_, z24_, e25_, h26_, h27_, z28_, h29_, M30_, hM31_, z40_, e41_, h42_, h43_, h44_, z45_, h46_, M47_, hM48_, (Or.inr ⟨h55_, hI49_, M157_, hI160_, hF161_, hs163_, M166_, hI169_, hF170_, hs172_, h168_, z174_, e175_, h176_, h177_, z178_, h179_, M180_, hM181_, rfl⟩)⟩)⟩⟩
  · refine w_iconst (v := 1) dX12_opens_9 (by decide) ?_
    refine w_goto (tgt := 14) dX12_opens_10 (by decide) ?_
    refine w_putZ DD_nd fl_RX12_151 rfl rfl ic_12 ⟨by decide, by decide⟩ dX12_opens_14 (fun M186_ hM187_ => ?_)
    have hI188_ := hIz.put hM187_ ⟨⟨by decide, by decide⟩, Or.inl (by decide)⟩
    have hF189_ := hFz.put hM187_ (Or.inr (Or.inr (Or.inr (Or.inl ⟨rfl, rfl, rfl⟩))))
    have kf190_ : (M186_.1 (12, 0, 0) 11).toInt + ((m : Nat) : Int) = 5 := by rw [(show M186_.1 (12, 0, 0) 11 = Mz.1 (12, 0, 0) 11 by rw [hM187_, up_ne (by simp)])]; exact hk
    have kf191_ : (M186_.1 (12, 0, 0) 9).toInt < T := by rw [(show M186_.1 (12, 0, 0) 9 = Mz.1 (12, 0, 0) 9 by rw [hM187_, up_ne (by simp)])]; exact ht
    have kf192_ : (M186_.1 (12, 0, 0) 9).toInt ≤ 47 := by rw [(show M186_.1 (12, 0, 0) 9 = Mz.1 (12, 0, 0) 9 by rw [hM187_, up_ne (by simp)])]; exact kf1_
    have h193_ : PP M186_ s D a T := PP_put1 hp hM187_
    have kf194_ : M186_.1 (12, 0, 0) 13 = 1 := up_s hM187_
    have kf195_ : (M186_.1 (12, 0, 0) 13).toInt = 1 := by rw [kf194_]; decide
    refine w_aload_n dX12_opens_17 rfl 0 rfl ?_
    refine w_getI fl_RX12_151 rfl rfl ic_12 dX12_opens_18 (fun z196_ e197_ => ?_)
    have h198_ : 0 ≤ z196_.toInt ∧ z196_.toInt ≤ 1 := ofEq (P := fun v => 0 ≤ v.toInt ∧ v.toInt ≤ 1) e197_ (hI188_.1 (12, 0, 0) 13)
    have h199_ : z196_ = 1 := by rw [e197_]; exact kf194_
    have h200_ : z196_.toInt = 1 := by rw [e197_]; exact kf195_
    refine w_if_eq (tgt := 25) dX12_opens_21 (by decide) (rfl : z196_.toInt = z196_.toInt) (fun h9 => (lf_c_X2_changeAir_0 z196_ h200_ h9 ).elim) (fun h201_ => ?_)
    exact w_vret rfl dX12_opens_24 ⟨hI188_, hF189_, ⟨PP_wr (PP_mono h193_ (lf_c_X12_opens_41 s ) (lf_c_X12_opens_41 a )) kf194_, kf190_⟩, ⟨z2_, e3_, h4_, h5_, (Or.inr ⟨h6_, M186_, hM187_, h193_, z196_, e197_, h198_, h199_, h200_, h201_, rfl⟩)⟩⟩
def ST_X12_one_46 (s : Int) (D : Nat) (a : Int) (T : Int) (Mz : mM) (v3_46 : Int32) (v2_46 : Int32) (M_46 : mM) (v3_46y : Int32) (v2_46y : Int32) (M_46y : mM) : Prop := (0 ≤ v3_46.toInt ∧ v3_46.toInt ≤ 3) ∧ ((v3_46.toInt = 0 ∧ v2_46.toInt = 0) ∨ (v3_46.toInt = 1 ∧ 0 ≤ v2_46.toInt ∧ v2_46.toInt ≤ 9) ∨ (v3_46.toInt = 2 ∧ 0 ≤ v2_46.toInt ∧ v2_46.toInt ≤ 99) ∨ (v3_46.toInt = 3 ∧ 0 ≤ v2_46.toInt ∧ v2_46.toInt ≤ 999)) ∧ (v3_46.toInt = 0 → DG M_46) ∧ (InvD M_46) ∧ (FR (S_par) Mz M_46) ∧ (v3_46.toInt < 3) ∧ ∃ z70_ : Int32, (z70_ = M_46.1 (12, 0, 0) 9) ∧ (0 ≤ z70_.toInt ∧ z70_.toInt ≤ 48) ∧ ∃ z73_ : Int32, (z73_ = M_46.1 (50, 0, 0) 4) ∧ (0 ≤ z73_.toInt ∧ z73_.toInt ≤ 48) ∧ (z70_.toInt < z73_.toInt) ∧ ∃ z99_ : Int32, (z99_.toInt = 273 + z70_.toInt) ∧ ∃ j103_ : Nat, ((j103_ : Int) = z99_.toInt) ∧ ∃ z101_ : Int32, (z101_ = M_46.1 (50, 0, 0) j103_) ∧ (SP_X12_within z101_ 48 57 M_46 (1 : Int32)) ∧ (48 ≤ z101_.toInt ∧ z101_.toInt ≤ 57) ∧ ∃ z111_ : Int32, (z111_.toInt = 10 * v2_46.toInt) ∧ ∃ z115_ : Int32, (z115_.toInt = 273 + z70_.toInt) ∧ ∃ j119_ : Nat, ((j119_ : Int) = z115_.toInt) ∧ ∃ z117_ : Int32, (z117_ = M_46.1 (50, 0, 0) j119_) ∧ (z117_.toInt = z101_.toInt) ∧ ∃ z122_ : Int32, (z122_.toInt = z111_.toInt + z117_.toInt) ∧ ∃ z124_ : Int32, (z124_.toInt = z122_.toInt - 48) ∧ ∃ z128_ : Int32, (z128_.toInt = z70_.toInt + 1) ∧ ∃ M130_ : mM, (M130_ = up M_46 (12, 0, 0) 9 z128_) ∧ (PP M130_ ((s + v3_46.toInt) + 1) D (a + 1) T) ∧ ∃ z136_ : Int32, (z136_.toInt = v3_46.toInt + 1) ∧ v3_46y = z136_ ∧ v2_46y = z124_ ∧ M_46y = M130_
def SP_X12_one (N : Nat) (m : Nat) (QA : mM → mM → Prop) (QB : mM → mM → Prop) (s : Int) (D : Nat) (a : Int) (T : Int) (Mz : mM) (M_ : mM) : Prop := ∃ M2_ : mM, (InvD M2_) ∧ (FR (S_here) Mz M2_) ∧ ∃ r1_ : Int32, (SP_X12_here s D a T Mz r1_ M2_) ∧ (HB M2_ r1_) ∧ (((r1_.toInt = 45) ∧ ∃ M17_ : mM, (InvD M17_) ∧ (FR (S_par) M2_ M17_) ∧ (SP_X12_opens N m QA QB r1_ s D a T M2_ M17_) ∧ (PP M17_ s (D + 1) a T) ∧ M_ = M17_) ∨ ((¬ r1_.toInt = 45) ∧ (((r1_.toInt = 40) ∧ ∃ M31_ : mM, (InvD M31_) ∧ (FR (S_par) M2_ M31_) ∧ (SP_X12_opens N m QA QB r1_ s D a T M2_ M31_) ∧ (PP M31_ s (D + 1) a T) ∧ M_ = M31_) ∨ ((¬ r1_.toInt = 40) ∧ (((¬ r1_.toInt = 91) ∧ (((SP_X12_within r1_ 48 57 M2_ (1 : Int32)) ∧ (48 ≤ r1_.toInt ∧ r1_.toInt ≤ 57) ∧ ∃ v3_46 : Int32, (0 ≤ v3_46.toInt ∧ v3_46.toInt ≤ 3) ∧ ∃ v2_46 : Int32, ((v3_46.toInt = 0 ∧ v2_46.toInt = 0) ∨ (v3_46.toInt = 1 ∧ 0 ≤ v2_46.toInt ∧ v2_46.toInt ≤ 9) ∨ (v3_46.toInt = 2 ∧ 0 ≤ v2_46.toInt ∧ v2_46.toInt ≤ 99) ∨ (v3_46.toInt = 3 ∧ 0 ≤ v2_46.toInt ∧ v2_46.toInt ≤ 999)) ∧ ∃ M_46 : mM, (v3_46.toInt = 0 → DG M_46) ∧ (RCH (fun x_ y_ => ST_X12_one_46 s D a T Mz x_.1 x_.2.1 x_.2.2 y_.1 y_.2.1 y_.2.2) ((0 : Int32), (0 : Int32), M2_) (v3_46, v2_46, M_46)) ∧ (InvD M_46) ∧ (FR (S_par) Mz M_46) ∧ (((3 ≤ v3_46.toInt) ∧ (¬ v3_46.toInt = 0) ∧ ∃ M52_ : mM, (InvD M52_) ∧ (FR (S_codes) M_46 M52_) ∧ (SP_X12_codes v2_46 (s + 1) D a T (D + 1) M_46 M52_) ∧ (PP M52_ ((s + 1) - 1) (D + 1) a T) ∧ ∃ z60_ : Int32, (z60_ = M52_.1 (12, 0, 0) 12) ∧ ∃ z62_ : Int32, (z62_ = z60_ + (1 : Int32)) ∧ ∃ M64_ : mM, (M64_ = up M52_ (12, 0, 0) 12 z62_) ∧ M_ = M64_) ∨ ((v3_46.toInt < 3) ∧ ∃ z70_ : Int32, (z70_ = M_46.1 (12, 0, 0) 9) ∧ (0 ≤ z70_.toInt ∧ z70_.toInt ≤ 48) ∧ ∃ z73_ : Int32, (z73_ = M_46.1 (50, 0, 0) 4) ∧ (0 ≤ z73_.toInt ∧ z73_.toInt ≤ 48) ∧ (((z73_.toInt ≤ z70_.toInt) ∧ (¬ v3_46.toInt = 0) ∧ ∃ M79_ : mM, (InvD M79_) ∧ (FR (S_codes) M_46 M79_) ∧ (SP_X12_codes v2_46 (s + 1) D a T (D + 1) M_46 M79_) ∧ (PP M79_ ((s + 1) - 1) (D + 1) a T) ∧ ∃ z87_ : Int32, (z87_ = M79_.1 (12, 0, 0) 12) ∧ ∃ z89_ : Int32, (z89_ = z87_ + (1 : Int32)) ∧ ∃ M91_ : mM, (M91_ = up M79_ (12, 0, 0) 12 z89_) ∧ M_ = M91_) ∨ ((z70_.toInt < z73_.toInt) ∧ ∃ z99_ : Int32, (z99_.toInt = 273 + z70_.toInt) ∧ ∃ j103_ : Nat, ((j103_ : Int) = z99_.toInt) ∧ ∃ z101_ : Int32, (z101_ = M_46.1 (50, 0, 0) j103_) ∧ (SP_X12_within z101_ 48 57 M_46 (0 : Int32)) ∧ (¬ (48 ≤ z101_.toInt ∧ z101_.toInt ≤ 57)) ∧ (¬ v3_46.toInt = 0) ∧ ∃ M141_ : mM, (InvD M141_) ∧ (FR (S_codes) M_46 M141_) ∧ (SP_X12_codes v2_46 (s + 1) D a T (D + 1) M_46 M141_) ∧ (PP M141_ ((s + 1) - 1) (D + 1) a T) ∧ ∃ z149_ : Int32, (z149_ = M141_.1 (12, 0, 0) 12) ∧ ∃ z151_ : Int32, (z151_ = z149_ + (1 : Int32)) ∧ ∃ M153_ : mM, (M153_ = up M141_ (12, 0, 0) 12 z151_) ∧ M_ = M153_))))) ∨ ((SP_X12_within r1_ 48 57 M2_ (0 : Int32)) ∧ (¬ (48 ≤ r1_.toInt ∧ r1_.toInt ≤ 57)) ∧ (((0 ≤ r1_.toInt) ∧ ∃ r165_ : Int32, (SP_X12_nameOf r1_ M2_ r165_) ∧ (-1 ≤ r165_.toInt ∧ r165_.toInt ≤ 4) ∧ ∃ z170_ : Int32, (z170_ = M2_.1 (12, 0, 0) 13) ∧ (0 ≤ z170_.toInt ∧ z170_.toInt ≤ 1) ∧ (z170_ = 0) ∧ (((¬ z170_.toInt = 0) ∧ ∃ M175_ : mM, (M175_ = up M2_ (12, 0, 0) 13 1) ∧ (PP M175_ s D a T) ∧ ∃ z185_ : Int32, (z185_ = M175_.1 (12, 0, 0) 13) ∧ (0 ≤ z185_.toInt ∧ z185_.toInt ≤ 1) ∧ (z185_ = 1) ∧ (z185_.toInt = 1) ∧ (¬ z185_.toInt = 0) ∧ M_ = M175_) ∨ ((z170_.toInt = 0) ∧ (((0 ≤ r165_.toInt) ∧ ∃ M192_ : mM, (M192_ = up M2_ (12, 0, 0) 13 0) ∧ ∃ z202_ : Int32, (z202_ = M192_.1 (12, 0, 0) 13) ∧ (0 ≤ z202_.toInt ∧ z202_.toInt ≤ 1) ∧ (z202_ = 0) ∧ (z202_.toInt = 0) ∧ (z202_.toInt = 0) ∧ ∃ z208_ : Int32, (z208_.toInt = 1000 + r165_.toInt) ∧ (InvD M192_) ∧ ∃ M210_ : mM, (InvD M210_) ∧ (FR (S_codes) M192_ M210_) ∧ (SP_X12_codes z208_ s D a T (D + 1) M192_ M210_) ∧ ∃ z222_ : Int32, (z222_ = M210_.1 (12, 0, 0) 12) ∧ ∃ z224_ : Int32, (z224_ = z222_ + (1 : Int32)) ∧ ∃ M226_ : mM, (M226_ = up M210_ (12, 0, 0) 12 z224_) ∧ ∃ z236_ : Int32, (z236_ = M226_.1 (12, 0, 0) 9) ∧ (0 ≤ z236_.toInt ∧ z236_.toInt ≤ 48) ∧ (z236_.toInt < T) ∧ (z236_.toInt ≤ 47) ∧ ∃ z241_ : Int32, (z241_.toInt = z236_.toInt + 1) ∧ ∃ M243_ : mM, (M243_ = up M226_ (12, 0, 0) 9 z241_) ∧ (PP M243_ ((s - 1) + 1) (D + 1) (a + 1) T) ∧ M_ = M243_) ∨ ((r165_.toInt < 0) ∧ ∃ M251_ : mM, (M251_ = up M2_ (12, 0, 0) 13 1) ∧ (PP M251_ s D a T) ∧ ∃ z261_ : Int32, (z261_ = M251_.1 (12, 0, 0) 13) ∧ (0 ≤ z261_.toInt ∧ z261_.toInt ≤ 1) ∧ (z261_ = 1) ∧ (z261_.toInt = 1) ∧ (¬ z261_.toInt = 0) ∧ M_ = M251_))))) ∨ ((r1_.toInt < 0) ∧ ∃ z267_ : Int32, (z267_ = M2_.1 (12, 0, 0) 13) ∧ (0 ≤ z267_.toInt ∧ z267_.toInt ≤ 1) ∧ (((¬ z267_.toInt = 0) ∧ ∃ M271_ : mM, (M271_ = up M2_ (12, 0, 0) 13 1) ∧ (PP M271_ s D a T) ∧ ∃ z279_ : Int32, (z279_ = M271_.1 (12, 0, 0) 13) ∧ (0 ≤ z279_.toInt ∧ z279_.toInt ≤ 1) ∧ (z279_ = 1) ∧ (z279_.toInt = 1) ∧ (¬ z279_.toInt = 0) ∧ M_ = M271_) ∨ ((z267_.toInt = 0) ∧ ∃ M286_ : mM, (M286_ = up M2_ (12, 0, 0) 13 1) ∧ (PP M286_ s D a T) ∧ ∃ z294_ : Int32, (z294_ = M286_.1 (12, 0, 0) 13) ∧ (0 ≤ z294_.toInt ∧ z294_.toInt ≤ 1) ∧ (z294_ = 1) ∧ (z294_.toInt = 1) ∧ (¬ z294_.toInt = 0) ∧ M_ = M286_))))))) ∨ ((r1_.toInt = 91) ∧ ∃ M304_ : mM, (InvD M304_) ∧ (FR (S_par) M2_ M304_) ∧ (SP_X12_opens N m QA QB r1_ s D a T M2_ M304_) ∧ (PP M304_ s (D + 1) a T) ∧ M_ = M304_))))))
theorem lf_c_X12_one_0 (r1_ : Int32) (h12_ : r1_.toInt = 45) : ¬ r1_.toInt = -1 := by omega
theorem lf_c_X12_one_1 (r1_ : Int32) (h26_ : r1_.toInt = 40) : ¬ r1_.toInt = -1 := by omega
theorem lf_c_X12_one_2 (r1_ : Int32) (h44_ : 48 ≤ r1_.toInt ∧ r1_.toInt ≤ 57) : 48 ≤ r1_.toInt ∧ r1_.toInt ≤ 57 := by omega
theorem lf_c_X12_one_3 (v3_46 : Int32) (h49_ : 3 ≤ v3_46.toInt) : ¬ v3_46.toInt = 0 := by omega
theorem lf_c_X12_one_4 (s : Int) (v3_46 : Int32) (h49_ : 3 ≤ v3_46.toInt) : s + 1 ≤ (s + v3_46.toInt) := by omega
theorem lf_c_X12_one_6 (v3_46 : Int32) (v2_46 : Int32) (hv1_46 : (v3_46.toInt = 0 ∧ v2_46.toInt = 0) ∨ (v3_46.toInt = 1 ∧ 0 ≤ v2_46.toInt ∧ v2_46.toInt ≤ 9) ∨ (v3_46.toInt = 2 ∧ 0 ≤ v2_46.toInt ∧ v2_46.toInt ≤ 99) ∨ (v3_46.toInt = 3 ∧ 0 ≤ v2_46.toInt ∧ v2_46.toInt ≤ 999)) (h49_ : 3 ≤ v3_46.toInt) : 0 ≤ v2_46.toInt ∧ v2_46.toInt < 1005 := by omega
theorem lf_c_X12_one_9 (s : Int) (v3_46 : Int32) (hv0_46 : 0 ≤ v3_46.toInt ∧ v3_46.toInt ≤ 3) (h77_ : ¬ v3_46.toInt = 0) : s + 1 ≤ (s + v3_46.toInt) := by omega
theorem lf_c_X12_one_11 (v3_46 : Int32) (v2_46 : Int32) (hv1_46 : (v3_46.toInt = 0 ∧ v2_46.toInt = 0) ∨ (v3_46.toInt = 1 ∧ 0 ≤ v2_46.toInt ∧ v2_46.toInt ≤ 9) ∨ (v3_46.toInt = 2 ∧ 0 ≤ v2_46.toInt ∧ v2_46.toInt ≤ 99) ∨ (v3_46.toInt = 3 ∧ 0 ≤ v2_46.toInt ∧ v2_46.toInt ≤ 999)) : 0 ≤ v2_46.toInt ∧ v2_46.toInt < 1005 := by omega
theorem lf_c_X12_one_16 (v3_46 : Int32) (v2_46 : Int32) (hv1_46 : (v3_46.toInt = 0 ∧ v2_46.toInt = 0) ∨ (v3_46.toInt = 1 ∧ 0 ≤ v2_46.toInt ∧ v2_46.toInt ≤ 9) ∨ (v3_46.toInt = 2 ∧ 0 ≤ v2_46.toInt ∧ v2_46.toInt ≤ 99) ∨ (v3_46.toInt = 3 ∧ 0 ≤ v2_46.toInt ∧ v2_46.toInt ≤ 999)) : -2147483648 ≤ 10 * v2_46.toInt ∧ 10 * v2_46.toInt < 2147483648 := by omega
theorem lf_c_X12_one_19 (z70_ : Int32) (z99_ : Int32) (j103_ : Nat) (z115_ : Int32) (j119_ : Nat) (h100_ : z99_.toInt = 273 + z70_.toInt) (h104_ : (j103_ : Int) = z99_.toInt) (h116_ : z115_.toInt = 273 + z70_.toInt) (h120_ : (j119_ : Int) = z115_.toInt) : j119_ = j103_ := by omega
theorem lf_c_X12_one_20 (v3_46 : Int32) (v2_46 : Int32) (z101_ : Int32) (z111_ : Int32) (z117_ : Int32) (hv1_46 : (v3_46.toInt = 0 ∧ v2_46.toInt = 0) ∨ (v3_46.toInt = 1 ∧ 0 ≤ v2_46.toInt ∧ v2_46.toInt ≤ 9) ∨ (v3_46.toInt = 2 ∧ 0 ≤ v2_46.toInt ∧ v2_46.toInt ≤ 99) ∨ (v3_46.toInt = 3 ∧ 0 ≤ v2_46.toInt ∧ v2_46.toInt ≤ 999)) (h108_ : 48 ≤ z101_.toInt ∧ z101_.toInt ≤ 57) (h112_ : z111_.toInt = 10 * v2_46.toInt) (h121_ : z117_.toInt = z101_.toInt) : -2147483648 ≤ z111_.toInt + z117_.toInt ∧ z111_.toInt + z117_.toInt < 2147483648 := by have r_z111_ := rngI z111_; omega
theorem lf_c_X12_one_21 (z101_ : Int32) (z111_ : Int32) (z117_ : Int32) (z122_ : Int32) (h108_ : 48 ≤ z101_.toInt ∧ z101_.toInt ≤ 57) (h121_ : z117_.toInt = z101_.toInt) (h123_ : z122_.toInt = z111_.toInt + z117_.toInt) : -2147483648 ≤ z122_.toInt - 48 ∧ z122_.toInt - 48 < 2147483648 := by have r_z111_ := rngI z111_; have r_z122_ := rngI z122_; omega
theorem lf_c_X12_one_26 (v3_46 : Int32) (hv0_46 : 0 ≤ v3_46.toInt ∧ v3_46.toInt ≤ 3) (h49_ : v3_46.toInt < 3) : -2147483648 ≤ v3_46.toInt + 1 ∧ v3_46.toInt + 1 < 2147483648 := by omega
theorem lf_c_X12_one_27 (v3_46 : Int32) (z136_ : Int32) (hv0_46 : 0 ≤ v3_46.toInt ∧ v3_46.toInt ≤ 3) (h49_ : v3_46.toInt < 3) (h137_ : z136_.toInt = v3_46.toInt + 1) : 0 ≤ z136_.toInt ∧ z136_.toInt ≤ 3 := by omega
theorem lf_c_X12_one_28 (M130_ : mM) (M_46 : mM) (s : Int) (D : Nat) (a : Int) (T : Int) (v3_46 : Int32) (v2_46 : Int32) (z70_ : Int32) (z73_ : Int32) (z99_ : Int32) (j103_ : Nat) (z101_ : Int32) (z111_ : Int32) (z115_ : Int32) (j119_ : Nat) (z117_ : Int32) (z122_ : Int32) (z124_ : Int32) (z128_ : Int32) (z136_ : Int32) (hs : 0 ≤ s) (hv0_46 : 0 ≤ v3_46.toInt ∧ v3_46.toInt ≤ 3) (hv1_46 : (v3_46.toInt = 0 ∧ v2_46.toInt = 0) ∨ (v3_46.toInt = 1 ∧ 0 ≤ v2_46.toInt ∧ v2_46.toInt ≤ 9) ∨ (v3_46.toInt = 2 ∧ 0 ≤ v2_46.toInt ∧ v2_46.toInt ≤ 99) ∨ (v3_46.toInt = 3 ∧ 0 ≤ v2_46.toInt ∧ v2_46.toInt ≤ 999)) (hv2_46 : v3_46.toInt = 0 → DG M_46) (h49_ : v3_46.toInt < 3) (e71_ : z70_ = M_46.1 (12, 0, 0) 9) (h72_ : 0 ≤ z70_.toInt ∧ z70_.toInt ≤ 48) (e74_ : z73_ = M_46.1 (50, 0, 0) 4) (h75_ : 0 ≤ z73_.toInt ∧ z73_.toInt ≤ 48) (h76_ : z70_.toInt < z73_.toInt) (h100_ : z99_.toInt = 273 + z70_.toInt) (h104_ : (j103_ : Int) = z99_.toInt) (e102_ : z101_ = M_46.1 (50, 0, 0) j103_) (h108_ : 48 ≤ z101_.toInt ∧ z101_.toInt ≤ 57) (h112_ : z111_.toInt = 10 * v2_46.toInt) (h116_ : z115_.toInt = 273 + z70_.toInt) (h120_ : (j119_ : Int) = z115_.toInt) (e118_ : z117_ = M_46.1 (50, 0, 0) j119_) (h121_ : z117_.toInt = z101_.toInt) (h123_ : z122_.toInt = z111_.toInt + z117_.toInt) (h125_ : z124_.toInt = z122_.toInt - 48) (h129_ : z128_.toInt = z70_.toInt + 1) (hM131_ : M130_ = up M_46 (12, 0, 0) 9 z128_) (h135_ : PP M130_ ((s + v3_46.toInt) + 1) D (a + 1) T) (h137_ : z136_.toInt = v3_46.toInt + 1) : (z136_.toInt = 0 ∧ z124_.toInt = 0) ∨ (z136_.toInt = 1 ∧ 0 ≤ z124_.toInt ∧ z124_.toInt ≤ 9) ∨ (z136_.toInt = 2 ∧ 0 ≤ z124_.toInt ∧ z124_.toInt ≤ 99) ∨ (z136_.toInt = 3 ∧ 0 ≤ z124_.toInt ∧ z124_.toInt ≤ 999) := by have r_v3_46 := rngI v3_46; have r_v2_46 := rngI v2_46; have r_z70_ := rngI z70_; have r_z73_ := rngI z73_; have r_z99_ := rngI z99_; have r_z101_ := rngI z101_; have r_z111_ := rngI z111_; have r_z115_ := rngI z115_; have r_z117_ := rngI z117_; have r_z122_ := rngI z122_; have r_z124_ := rngI z124_; have r_z128_ := rngI z128_; have r_z136_ := rngI z136_; subst e71_; subst e74_; subst e102_; subst e118_; omega
theorem lf_c_X12_one_29 (v3_46 : Int32) (z136_ : Int32) (hv0_46 : 0 ≤ v3_46.toInt ∧ v3_46.toInt ≤ 3) (h137_ : z136_.toInt = v3_46.toInt + 1) : ¬ z136_.toInt = 0 := by omega
theorem lf_c_X12_one_30 (s : Int) (v3_46 : Int32) (z136_ : Int32) (h137_ : z136_.toInt = v3_46.toInt + 1) : (s + z136_.toInt) ≤ ((s + v3_46.toInt) + 1) := by omega
theorem lf_c_X12_one_32 (v3_46 : Int32) (z136_ : Int32) (h49_ : v3_46.toInt < 3) (h137_ : z136_.toInt = v3_46.toInt + 1) : (3 - z136_.toInt).toNat < (3 - v3_46.toInt).toNat := by omega
theorem lf_c_X12_one_39 : 0 ≤ (0 : Int32).toInt ∧ (0 : Int32).toInt ≤ 3 := by have q0 := li_0; omega
theorem lf_c_X12_one_40 : ((0 : Int32).toInt = 0 ∧ (0 : Int32).toInt = 0) ∨ ((0 : Int32).toInt = 1 ∧ 0 ≤ (0 : Int32).toInt ∧ (0 : Int32).toInt ≤ 9) ∨ ((0 : Int32).toInt = 2 ∧ 0 ≤ (0 : Int32).toInt ∧ (0 : Int32).toInt ≤ 99) ∨ ((0 : Int32).toInt = 3 ∧ 0 ≤ (0 : Int32).toInt ∧ (0 : Int32).toInt ≤ 999) := by have q0 := li_0; omega
theorem lf_c_X12_one_41 (s : Int) : (s + (0 : Int32).toInt) ≤ s := by have q9 := li_0; omega
theorem lf_c_X12_one_42 (r1_ : Int32) (h160_ : 0 ≤ r1_.toInt) : ¬ r1_.toInt = -1 := by omega
theorem lf_c_X12_one_47 (r165_ : Int32) (h168_ : -1 ≤ r165_.toInt ∧ r165_.toInt ≤ 4) (h191_ : 0 ≤ r165_.toInt) : -2147483648 ≤ 1000 + r165_.toInt ∧ 1000 + r165_.toInt < 2147483648 := by omega
theorem lf_c_X12_one_48 (r165_ : Int32) (z208_ : Int32) (h168_ : -1 ≤ r165_.toInt ∧ r165_.toInt ≤ 4) (h191_ : 0 ≤ r165_.toInt) (h209_ : z208_.toInt = 1000 + r165_.toInt) : 0 ≤ z208_.toInt ∧ z208_.toInt < 1005 := by omega
theorem lf_c_X12_one_52 (s : Int) : s ≤ ((s - 1) + 1) := by omega
theorem lf_c_X12_one_63 (r1_ : Int32) (h40_ : r1_.toInt = 91) : ¬ r1_.toInt = -1 := by omega
set_option maxHeartbeats 4000000 in
set_option maxRecDepth 100000 in
theorem c_X12_one (l : Launch) (G : va_G) (cy : Nat → ClassId) (ad : rf → Nat) (d : Nat) (N : Nat) (m : Nat) (QA : mM → mM → Prop) (QB : mM → mM → Prop) (s : Int) (D : Nat) (a : Int) (T : Int) (Mz : mM) (hIz : InvD Mz) (hA : ∀ k : Nat, k + 1 = m → ONED l G cy ad N k QA) (hB : ∀ k : Nat, k + 1 = m → TXTD l G cy ad N k QB) (hp : PP Mz s D a T) (hs : 0 ≤ s) (hk : (Mz.1 (12, 0, 0) 11).toInt + ((m : Nat) : Int) = 5) (hm : m ≤ 5) : WP DD l G cy ad yX12_one cX12_one 4 none ((N + d) + 9) 0 [(0, vR (12, 0, 0))] [] Mz (fun r M' => InvD M' ∧ FR (S_par) Mz M' ∧ (PP M' s (D + 1) a T ∧ (M'.1 (12, 0, 0) 11).toInt + ((m : Nat) : Int) = 5) ∧ SP_X12_one N m QA QB s D a T Mz M') := by
  have hFz : FR (S_par) Mz Mz := FR.self
  refine w_aload_n dX12_one_0 rfl 0 rfl ?_
  refine w_callV (as := []) (rest := []) (c_X12_here l G cy ad ((N + d) + 8) s D a T Mz hIz hp) kV_X12_here pnn_17 (Nat.le_of_ble_eq_true rfl) m_1575 rfl rfl rfl ic_12 rfl rfl (by decide) (Nat.le_of_ble_eq_true rfl) dX12_one_1 (fun r1_ M2_ q3_ => ?_)
  obtain ⟨hI5_, hF6_, h4_, hs8_⟩ := q3_
  have hF7_ := hFz.tr hF6_ (fun c k => (fun h => h.elim (fun h => (Or.inl ⟨h.1, h.2.1, h.2.2⟩)) (fun h => h.elim)))
  have kf9_ : (M2_.1 (12, 0, 0) 11).toInt + ((m : Nat) : Int) = 5 := by rw [(hF6_ (12, 0, 0) 11 (by simp [S_here]))]; exact hk
  have h10_ : PP M2_ s D a T := h4_.1
  have h11_ : HB M2_ r1_ := h4_.2
  refine w_istore_n (ls' := [(1, vI r1_), (0, vR (12, 0, 0))]) dX12_one_4 rfl (by decide) rfl ?_
  refine w_iload_n dX12_one_5 rfl 0 rfl ?_
  refine w_bipush (v := 45) dX12_one_6 (by decide) ?_
  refine w_icmp_eq (tgt := 23) dX12_one_8 (by decide) (rfl : r1_.toInt = r1_.toInt) li_45 (fun h12_ => ?_) (fun h12_ => ?_)
  · have h13_ : M2_.1 (12, 0, 0) 13 = 0 ∧ (M2_.1 (12, 0, 0) 9).toInt < T := HB_ok h11_ h10_ (lf_c_X12_one_0 r1_ h12_ )
    have kf14_ : M2_.1 (12, 0, 0) 13 = 0 := h13_.1
    have kf15_ : (M2_.1 (12, 0, 0) 9).toInt < T := h13_.2
    have kf16_ : (M2_.1 (12, 0, 0) 9).toInt ≤ 47 := PP_a48 hI5_ h10_ h13_.2
    refine w_aload_n dX12_one_23 rfl 1 rfl ?_
    refine w_iload_n dX12_one_24 rfl 0 rfl ?_
    refine w_callVv (as := [vI r1_]) (rest := []) (c_X12_opens l G cy ad (d + 5) N m QA QB r1_ s D a T M2_ hI5_ hA hB h10_ hs kf9_ hm kf15_ kf14_) kV_X12_opens pnn_17 (Nat.le_of_ble_eq_true rfl) m_1579 rfl rfl rfl ic_12 rfl rfl (by decide) (Nat.le_of_ble_eq_true rfl) dX12_one_25 (fun M17_ q18_ => ?_)
    obtain ⟨hI20_, hF21_, h19_, hs23_⟩ := q18_
    have hF22_ := hF7_.tr hF21_ (fun c k => (fun h => h.elim (fun h => (Or.inl ⟨h.1, h.2.1, h.2.2⟩)) (fun h => h.elim (fun h => (Or.inr (Or.inl ⟨h.1, h.2.1, h.2.2⟩))) (fun h => h.elim (fun h => (Or.inr (Or.inr (Or.inl ⟨h.1, h.2.1, h.2.2⟩)))) (fun h => h.elim (fun h => (Or.inr (Or.inr (Or.inr (Or.inl ⟨h.1, h.2.1, h.2.2⟩))))) (fun h => h.elim (fun h => (Or.inr (Or.inr (Or.inr (Or.inr (Or.inl ⟨h.1, h.2.1, h.2.2⟩)))))) (fun h => h.elim (fun h => (Or.inr (Or.inr (Or.inr (Or.inr (Or.inr (Or.inl ⟨h.1, h.2⟩))))))) (fun h => h.elim))))))))
    have h24_ : PP M17_ s (D + 1) a T := h19_.1
    have kf25_ : (M17_.1 (12, 0, 0) 11).toInt + ((m : Nat) : Int) = 5 := h19_.2
    refine w_goto (tgt := 213) dX12_one_28 (by decide) ?_
    exact w_vret rfl dX12_one_213 ⟨hI20_, hF22_, ⟨h24_, kf25_⟩, ⟨M2_, hI5_, hF6_, r1_, hs8_, h11_, (Or.inl ⟨h12_, M17_, hI20_, hF21_, hs23_, h24_, rfl⟩)⟩⟩
  · refine w_iload_n dX12_one_11 rfl 0 rfl ?_
    refine w_bipush (v := 40) dX12_one_12 (by decide) ?_
    refine w_icmp_eq (tgt := 23) dX12_one_14 (by decide) (rfl : r1_.toInt = r1_.toInt) li_40 (fun h26_ => ?_) (fun h26_ => ?_)
    · have h27_ : M2_.1 (12, 0, 0) 13 = 0 ∧ (M2_.1 (12, 0, 0) 9).toInt < T := HB_ok h11_ h10_ (lf_c_X12_one_1 r1_ h26_ )
      have kf28_ : M2_.1 (12, 0, 0) 13 = 0 := h27_.1
      have kf29_ : (M2_.1 (12, 0, 0) 9).toInt < T := h27_.2
      have kf30_ : (M2_.1 (12, 0, 0) 9).toInt ≤ 47 := PP_a48 hI5_ h10_ h27_.2
      refine w_aload_n dX12_one_23 rfl 1 rfl ?_
      refine w_iload_n dX12_one_24 rfl 0 rfl ?_
      refine w_callVv (as := [vI r1_]) (rest := []) (c_X12_opens l G cy ad (d + 5) N m QA QB r1_ s D a T M2_ hI5_ hA hB h10_ hs kf9_ hm kf29_ kf28_) kV_X12_opens pnn_17 (Nat.le_of_ble_eq_true rfl) m_1579 rfl rfl rfl ic_12 rfl rfl (by decide) (Nat.le_of_ble_eq_true rfl) dX12_one_25 (fun M31_ q32_ => ?_)
      obtain ⟨hI34_, hF35_, h33_, hs37_⟩ := q32_
      have hF36_ := hF7_.tr hF35_ (fun c k => (fun h => h.elim (fun h => (Or.inl ⟨h.1, h.2.1, h.2.2⟩)) (fun h => h.elim (fun h => (Or.inr (Or.inl ⟨h.1, h.2.1, h.2.2⟩))) (fun h => h.elim (fun h => (Or.inr (Or.inr (Or.inl ⟨h.1, h.2.1, h.2.2⟩)))) (fun h => h.elim (fun h => (Or.inr (Or.inr (Or.inr (Or.inl ⟨h.1, h.2.1, h.2.2⟩))))) (fun h => h.elim (fun h => (Or.inr (Or.inr (Or.inr (Or.inr (Or.inl ⟨h.1, h.2.1, h.2.2⟩)))))) (fun h => h.elim (fun h => (Or.inr (Or.inr (Or.inr (Or.inr (Or.inr (Or.inl ⟨h.1, h.2⟩))))))) (fun h => h.elim))))))))
      have h38_ : PP M31_ s (D + 1) a T := h33_.1
      have kf39_ : (M31_.1 (12, 0, 0) 11).toInt + ((m : Nat) : Int) = 5 := h33_.2
      refine w_goto (tgt := 213) dX12_one_28 (by decide) ?_
      exact w_vret rfl dX12_one_213 ⟨hI34_, hF36_, ⟨h38_, kf39_⟩, ⟨M2_, hI5_, hF6_, r1_, hs8_, h11_, (Or.inr ⟨h12_, (Or.inl ⟨h26_, M31_, hI34_, hF35_, hs37_, h38_, rfl⟩)⟩)⟩⟩
    · refine w_iload_n dX12_one_17 rfl 0 rfl ?_
      refine w_bipush (v := 91) dX12_one_18 (by decide) ?_
      refine w_icmp_ne (tgt := 31) dX12_one_20 (by decide) (rfl : r1_.toInt = r1_.toInt) li_91 (fun h40_ => ?_) (fun h40_ => ?_)
      · refine w_iload_n dX12_one_31 rfl 0 rfl ?_
        refine w_bipush (v := 48) dX12_one_32 (by decide) ?_
        refine w_bipush (v := 57) dX12_one_34 (by decide) ?_
        refine w_callS (as := [vI r1_, vI 48, vI 57]) (rest := []) (c_X12_within l G cy ad ((N + d) + 8) r1_ 48 57 M2_ hI5_) kS_X12_within pnn_17 (Nat.le_of_ble_eq_true rfl) m_1427 rfl rfl (by decide) (Nat.le_of_ble_eq_true rfl) dX12_one_36 (fun r41_ M42_ q43_ => ?_)
        obtain ⟨rfl, h44_, hs45_⟩ := q43_
        rcases h44_ with ⟨rfl, h44_⟩ | ⟨rfl, h44_⟩
        · simp only [li_48, li_57] at h44_
          refine w_if_eq (tgt := 143) dX12_one_39 (by decide) li_1 (fun h9 => (absurd h9 (by decide))) (fun h46_ => ?_)
          have h47_ : DG M2_ := HB_dg h11_ (lf_c_X12_one_2 r1_ h44_ )
          refine w_iconst (v := 0) dX12_one_42 (by decide) ?_
          refine w_istore_n (ls' := [(2, vI 0), (1, vI r1_), (0, vR (12, 0, 0))]) dX12_one_43 rfl (by decide) rfl ?_
          refine w_iconst (v := 0) dX12_one_44 (by decide) ?_
          refine w_istore_n (ls' := [(3, vI 0), (2, vI 0), (1, vI r1_), (0, vR (12, 0, 0))]) dX12_one_45 rfl (by decide) rfl ?_
          have lp48_ : ∀ (nn_46 : Nat) (M_46 : mM) (hI_46 : InvD M_46) (hF_46 : FR (S_par) Mz M_46) (v3_46 : Int32) (v2_46 : Int32) (hv0_46 : 0 ≤ v3_46.toInt ∧ v3_46.toInt ≤ 3) (hv1_46 : (v3_46.toInt = 0 ∧ v2_46.toInt = 0) ∨ (v3_46.toInt = 1 ∧ 0 ≤ v2_46.toInt ∧ v2_46.toInt ≤ 9) ∨ (v3_46.toInt = 2 ∧ 0 ≤ v2_46.toInt ∧ v2_46.toInt ≤ 99) ∨ (v3_46.toInt = 3 ∧ 0 ≤ v2_46.toInt ∧ v2_46.toInt ≤ 999)) (hv2_46 : v3_46.toInt = 0 → DG M_46) (hv3_46 : PP M_46 (s + v3_46.toInt) D a T) (kv0_46 : (M_46.1 (12, 0, 0) 11).toInt + ((m : Nat) : Int) = 5) (hL_46 : RCH (fun x_ y_ => ST_X12_one_46 s D a T Mz x_.1 x_.2.1 x_.2.2 y_.1 y_.2.1 y_.2.2) ((0 : Int32), (0 : Int32), M2_) (v3_46, v2_46, M_46)), (3 - v3_46.toInt).toNat < nn_46 → WP DD l G cy ad yX12_one cX12_one 4 none ((N + d) + 9) 46 [(3, vI v3_46), (2, vI v2_46), (1, vI r1_), (0, vR (12, 0, 0))] [] M_46 (fun r M' => InvD M' ∧ FR (S_par) Mz M' ∧ (PP M' s (D + 1) a T ∧ (M'.1 (12, 0, 0) 11).toInt + ((m : Nat) : Int) = 5) ∧ SP_X12_one N m QA QB s D a T Mz M') := by
            intro nn_46
            induction nn_46 with
            | zero => intro M_46 hI_46 hF_46 v3_46 v2_46 hv0_46 hv1_46 hv2_46 hv3_46 kv0_46 hL_46 hm_46; exact absurd hm_46 (Nat.not_lt_zero _)
            | succ nn_46 ih_46 =>
              intro M_46 hI_46 hF_46 v3_46 v2_46 hv0_46 hv1_46 hv2_46 hv3_46 kv0_46 hL_46 hm_46
              refine w_iload_n dX12_one_46 rfl 0 rfl ?_
              refine w_iconst (v := 3) dX12_one_47 (by decide) ?_
              refine w_icmp_ge (tgt := 125) dX12_one_48 (by decide) (rfl : v3_46.toInt = v3_46.toInt) li_3 (fun h49_ => ?_) (fun h49_ => ?_)
              · have h50_ : ¬ v3_46.toInt = 0 := (lf_c_X12_one_3 v3_46 h49_ )
                have h51_ : PP M_46 (s + 1) D a T := PP_mono hv3_46 (lf_c_X12_one_4 s v3_46 h49_ ) (Int.le_refl _)
                refine w_aload_n dX12_one_125 rfl 3 rfl ?_
                refine w_iload_n dX12_one_126 rfl 1 rfl ?_
                refine w_callVv (as := [vI v2_46]) (rest := []) (c_X12_codes l G cy ad ((N + d) + 8) v2_46 (s + 1) D a T (D + 1) M_46 hI_46 h51_ (lf_c_X12_opens_8 s hs ) (stp_n (lf_c_X12_one_6 v3_46 v2_46 hv1_46 h49_ ))) kV_X12_codes pnn_17 (Nat.le_of_ble_eq_true rfl) m_1583 rfl rfl rfl ic_12 rfl rfl (by decide) (Nat.le_of_ble_eq_true rfl) dX12_one_127 (fun M52_ q53_ => ?_)
                obtain ⟨hI55_, hF56_, h54_, hs58_⟩ := q53_
                have hF57_ := hF_46.tr hF56_ (fun c k => (fun h => h.elim (fun h => (Or.inr (Or.inr (Or.inr (Or.inr (Or.inl ⟨h.1, h.2.1, h.2.2⟩)))))) (fun h => h.elim (fun h => (Or.inr (Or.inr (Or.inr (Or.inr (Or.inr (Or.inl ⟨h.1, h.2⟩))))))) (fun h => h.elim))))
                have kf59_ : (M52_.1 (12, 0, 0) 11).toInt + ((m : Nat) : Int) = 5 := by rw [(hF56_ (12, 0, 0) 11 (by simp [S_codes]))]; exact kv0_46
                refine w_aload_n dX12_one_130 rfl 3 rfl ?_
                refine w_dup dX12_one_131 rfl ?_
                refine w_getI fl_RX12_203 rfl rfl ic_12 dX12_one_132 (fun z60_ e61_ => ?_)
                refine w_iconst (v := 1) dX12_one_135 (by decide) ?_
                refine w_iadd dX12_one_136 (fun z62_ h63_ => ?_)
                refine w_putI DD_nd fl_RX12_203 rfl rfl ic_12 dX12_one_137 (fun M64_ hM65_ => ?_)
                have hI66_ := hI55_.put hM65_ ⟨trivial, Or.inl (by decide)⟩
                have hF67_ := hF57_.put hM65_ (Or.inr (Or.inr (Or.inl ⟨rfl, rfl, rfl⟩)))
                have kf68_ : (M64_.1 (12, 0, 0) 11).toInt + ((m : Nat) : Int) = 5 := by rw [(show M64_.1 (12, 0, 0) 11 = M52_.1 (12, 0, 0) 11 by rw [hM65_, up_ne (by simp)])]; exact kf59_
                have kf69_ : PP M64_ ((s + 1) - 1) (D + 1) a T := PP_cong h54_ (show M64_.1 (12, 0, 0) 14 = M52_.1 (12, 0, 0) 14 by rw [hM65_, up_ne (by simp)]) (show M64_.1 (12, 0, 0) 9 = M52_.1 (12, 0, 0) 9 by rw [hM65_, up_ne (by simp)]) (show M64_.1 (50, 0, 0) 4 = M52_.1 (50, 0, 0) 4 by rw [hM65_, up_ne (by simp)]) (show M64_.1 (12, 0, 0) 13 = M52_.1 (12, 0, 0) 13 by rw [hM65_, up_ne (by simp)]) (show M64_.1 (57, 0, 0) = M52_.1 (57, 0, 0) by rw [hM65_]; exact up_other _ _ (by simp))
                refine w_goto (tgt := 213) dX12_one_140 (by decide) ?_
                exact w_vret rfl dX12_one_213 ⟨hI66_, hF67_, ⟨PP_mono kf69_ (lf_c_X12_opens_21 s ) (lf_c_X12_opens_41 a ), kf68_⟩, ⟨M2_, hI5_, hF6_, r1_, hs8_, h11_, (Or.inr ⟨h12_, (Or.inr ⟨h26_, (Or.inl ⟨h40_, (Or.inl ⟨hs45_, h44_, v3_46, hv0_46, v2_46, hv1_46, M_46, hv2_46, hL_46, hI_46, hF_46, (Or.inl ⟨h49_, h50_, M52_, hI55_, hF56_, hs58_, h54_, z60_, e61_, z62_, h63_, M64_, hM65_, rfl⟩)⟩)⟩)⟩)⟩)⟩⟩
              · refine w_aload_n dX12_one_51 rfl 3 rfl ?_
                refine w_getI fl_RX12_155 rfl rfl ic_12 dX12_one_52 (fun z70_ e71_ => ?_)
                have h72_ : 0 ≤ z70_.toInt ∧ z70_.toInt ≤ 48 := ofEq (P := fun v => 0 ≤ v.toInt ∧ v.toInt ≤ 48) e71_ (hI_46.1 (12, 0, 0) 9)
                refine w_aload_n dX12_one_55 rfl 3 rfl ?_
                refine w_getR (c' := (50, 0, 0)) fl_RX12_9 rfl rfl ic_12 dX12_one_56 rfl ?_
                refine w_iconst (v := 4) dX12_one_59 (by decide) ?_
                refine w_ialdL 4 rfl rfl ic_50 li_4 (by decide) dX12_one_60 (fun z73_ e74_ => ?_)
                have h75_ : 0 ≤ z73_.toInt ∧ z73_.toInt ≤ 48 := pn_4 hI_46 e74_
                refine w_icmp_ge (tgt := 125) dX12_one_61 (by decide) (rfl : z70_.toInt = z70_.toInt) (rfl : z73_.toInt = z73_.toInt) (fun h76_ => ?_) (fun h76_ => ?_)
                · have h77_ : ¬ v3_46.toInt = 0 := (dg_1 hv2_46 e71_ e74_ h76_)
                  have h78_ : PP M_46 (s + 1) D a T := PP_mono hv3_46 (lf_c_X12_one_9 s v3_46 hv0_46 h77_ ) (Int.le_refl _)
                  refine w_aload_n dX12_one_125 rfl 3 rfl ?_
                  refine w_iload_n dX12_one_126 rfl 1 rfl ?_
                  refine w_callVv (as := [vI v2_46]) (rest := []) (c_X12_codes l G cy ad ((N + d) + 8) v2_46 (s + 1) D a T (D + 1) M_46 hI_46 h78_ (lf_c_X12_opens_8 s hs ) (stp_n (lf_c_X12_one_11 v3_46 v2_46 hv1_46 ))) kV_X12_codes pnn_17 (Nat.le_of_ble_eq_true rfl) m_1583 rfl rfl rfl ic_12 rfl rfl (by decide) (Nat.le_of_ble_eq_true rfl) dX12_one_127 (fun M79_ q80_ => ?_)
                  obtain ⟨hI82_, hF83_, h81_, hs85_⟩ := q80_
                  have hF84_ := hF_46.tr hF83_ (fun c k => (fun h => h.elim (fun h => (Or.inr (Or.inr (Or.inr (Or.inr (Or.inl ⟨h.1, h.2.1, h.2.2⟩)))))) (fun h => h.elim (fun h => (Or.inr (Or.inr (Or.inr (Or.inr (Or.inr (Or.inl ⟨h.1, h.2⟩))))))) (fun h => h.elim))))
                  have kf86_ : (M79_.1 (12, 0, 0) 11).toInt + ((m : Nat) : Int) = 5 := by rw [(hF83_ (12, 0, 0) 11 (by simp [S_codes]))]; exact kv0_46
                  refine w_aload_n dX12_one_130 rfl 3 rfl ?_
                  refine w_dup dX12_one_131 rfl ?_
                  refine w_getI fl_RX12_203 rfl rfl ic_12 dX12_one_132 (fun z87_ e88_ => ?_)
                  refine w_iconst (v := 1) dX12_one_135 (by decide) ?_
                  refine w_iadd dX12_one_136 (fun z89_ h90_ => ?_)
                  refine w_putI DD_nd fl_RX12_203 rfl rfl ic_12 dX12_one_137 (fun M91_ hM92_ => ?_)
                  have hI93_ := hI82_.put hM92_ ⟨trivial, Or.inl (by decide)⟩
                  have hF94_ := hF84_.put hM92_ (Or.inr (Or.inr (Or.inl ⟨rfl, rfl, rfl⟩)))
                  have kf95_ : (M91_.1 (12, 0, 0) 11).toInt + ((m : Nat) : Int) = 5 := by rw [(show M91_.1 (12, 0, 0) 11 = M79_.1 (12, 0, 0) 11 by rw [hM92_, up_ne (by simp)])]; exact kf86_
                  have kf96_ : PP M91_ ((s + 1) - 1) (D + 1) a T := PP_cong h81_ (show M91_.1 (12, 0, 0) 14 = M79_.1 (12, 0, 0) 14 by rw [hM92_, up_ne (by simp)]) (show M91_.1 (12, 0, 0) 9 = M79_.1 (12, 0, 0) 9 by rw [hM92_, up_ne (by simp)]) (show M91_.1 (50, 0, 0) 4 = M79_.1 (50, 0, 0) 4 by rw [hM92_, up_ne (by simp)]) (show M91_.1 (12, 0, 0) 13 = M79_.1 (12, 0, 0) 13 by rw [hM92_, up_ne (by simp)]) (show M91_.1 (57, 0, 0) = M79_.1 (57, 0, 0) by rw [hM92_]; exact up_other _ _ (by simp))
                  refine w_goto (tgt := 213) dX12_one_140 (by decide) ?_
                  exact w_vret rfl dX12_one_213 ⟨hI93_, hF94_, ⟨PP_mono kf96_ (lf_c_X12_opens_21 s ) (lf_c_X12_opens_41 a ), kf95_⟩, ⟨M2_, hI5_, hF6_, r1_, hs8_, h11_, (Or.inr ⟨h12_, (Or.inr ⟨h26_, (Or.inl ⟨h40_, (Or.inl ⟨hs45_, h44_, v3_46, hv0_46, v2_46, hv1_46, M_46, hv2_46, hL_46, hI_46, hF_46, (Or.inr ⟨h49_, z70_, e71_, h72_, z73_, e74_, h75_, (Or.inl ⟨h76_, h77_, M79_, hI82_, hF83_, hs85_, h81_, z87_, e88_, z89_, h90_, M91_, hM92_, rfl⟩)⟩)⟩)⟩)⟩)⟩)⟩⟩
                · refine w_aload_n dX12_one_64 rfl 3 rfl ?_
                  refine w_getR (c' := (50, 0, 0)) fl_RX12_9 rfl rfl ic_12 dX12_one_65 rfl ?_
                  refine w_sipush (v := 273) dX12_one_68 (by decide) ?_
                  refine w_aload_n dX12_one_71 rfl 3 rfl ?_
                  refine w_getI fl_RX12_155 rfl rfl ic_12 dX12_one_72 (fun z97_ e98_ => ?_)
                  obtain rfl : z70_ = z97_ := e71_.trans e98_.symm
                  refine w_iaddB dX12_one_75 li_273 (rfl : z70_.toInt = z70_.toInt) (lf_c_X12_feed_1 z70_ h72_ ) (fun z99_ h100_ => ?_)
                  refine w_iald rfl rfl ic_50 (rfl : z99_.toInt = z99_.toInt) (lf_c_X12_feed_3 z70_ z99_ h72_ h100_ ) dX12_one_76 (fun j103_ h104_ z101_ e102_ => ?_)
                  refine w_bipush (v := 48) dX12_one_77 (by decide) ?_
                  refine w_bipush (v := 57) dX12_one_79 (by decide) ?_
                  refine w_callS (as := [vI z101_, vI 48, vI 57]) (rest := []) (c_X12_within l G cy ad ((N + d) + 8) z101_ 48 57 M_46 hI_46) kS_X12_within pnn_17 (Nat.le_of_ble_eq_true rfl) m_1427 rfl rfl (by decide) (Nat.le_of_ble_eq_true rfl) dX12_one_81 (fun r105_ M106_ q107_ => ?_)
                  obtain ⟨rfl, h108_, hs109_⟩ := q107_
                  rcases h108_ with ⟨rfl, h108_⟩ | ⟨rfl, h108_⟩
                  · simp only [li_48, li_57] at h108_
                    refine w_if_eq (tgt := 125) dX12_one_84 (by decide) li_1 (fun h9 => (absurd h9 (by decide))) (fun h110_ => ?_)
                    refine w_bipush (v := 10) dX12_one_87 (by decide) ?_
                    refine w_iload_n dX12_one_89 rfl 1 rfl ?_
                    refine w_imulB dX12_one_90 li_10 (rfl : v2_46.toInt = v2_46.toInt) (lf_c_X12_one_16 v3_46 v2_46 hv1_46 ) (fun z111_ h112_ => ?_)
                    refine w_aload_n dX12_one_91 rfl 3 rfl ?_
                    refine w_getR (c' := (50, 0, 0)) fl_RX12_9 rfl rfl ic_12 dX12_one_92 rfl ?_
                    refine w_sipush (v := 273) dX12_one_95 (by decide) ?_
                    refine w_aload_n dX12_one_98 rfl 3 rfl ?_
                    refine w_getI fl_RX12_155 rfl rfl ic_12 dX12_one_99 (fun z113_ e114_ => ?_)
                    obtain rfl : z70_ = z113_ := e71_.trans e114_.symm
                    refine w_iaddB dX12_one_102 li_273 (rfl : z70_.toInt = z70_.toInt) (lf_c_X12_feed_1 z70_ h72_ ) (fun z115_ h116_ => ?_)
                    refine w_iald rfl rfl ic_50 (rfl : z115_.toInt = z115_.toInt) (lf_c_X12_feed_3 z70_ z115_ h72_ h116_ ) dX12_one_103 (fun j119_ h120_ z117_ e118_ => ?_)
                    have h121_ : z117_.toInt = z101_.toInt := by rw [e118_, e102_, show j119_ = j103_ from (lf_c_X12_one_19 z70_ z99_ j103_ z115_ j119_ h100_ h104_ h116_ h120_ )]
                    refine w_iaddB dX12_one_104 (rfl : z111_.toInt = z111_.toInt) (rfl : z117_.toInt = z117_.toInt) (lf_c_X12_one_20 v3_46 v2_46 z101_ z111_ z117_ hv1_46 h108_ h112_ h121_ ) (fun z122_ h123_ => ?_)
                    refine w_bipush (v := 48) dX12_one_105 (by decide) ?_
                    refine w_isubB dX12_one_107 (rfl : z122_.toInt = z122_.toInt) li_48 (lf_c_X12_one_21 z101_ z111_ z117_ z122_ h108_ h121_ h123_ ) (fun z124_ h125_ => ?_)
                    refine w_istore_n (ls' := [(2, vI z124_), (3, vI v3_46), (1, vI r1_), (0, vR (12, 0, 0))]) dX12_one_108 rfl (by decide) rfl ?_
                    refine w_aload_n dX12_one_109 rfl 3 rfl ?_
                    refine w_dup dX12_one_110 rfl ?_
                    refine w_getI fl_RX12_155 rfl rfl ic_12 dX12_one_111 (fun z126_ e127_ => ?_)
                    obtain rfl : z70_ = z126_ := e71_.trans e127_.symm
                    refine w_iconst (v := 1) dX12_one_114 (by decide) ?_
                    refine w_iaddB dX12_one_115 (rfl : z70_.toInt = z70_.toInt) li_1 (lf_c_X12_feed_6 z70_ h72_ ) (fun z128_ h129_ => ?_)
                    refine w_putI DD_nd fl_RX12_155 rfl rfl ic_12 dX12_one_116 (fun M130_ hM131_ => ?_)
                    have hI132_ := hI_46.put hM131_ ⟨(lf_c_X12_here_16 z70_ z73_ z128_ h72_ h75_ h76_ h129_ ), Or.inl (by decide)⟩
                    have hF133_ := hF_46.put hM131_ (Or.inl ⟨rfl, rfl, rfl⟩)
                    have kf134_ : (M130_.1 (12, 0, 0) 11).toInt + ((m : Nat) : Int) = 5 := by rw [(show M130_.1 (12, 0, 0) 11 = M_46.1 (12, 0, 0) 11 by rw [hM131_, up_ne (by simp)])]; exact kv0_46
                    have h135_ : PP M130_ ((s + v3_46.toInt) + 1) D (a + 1) T := PP_at hv3_46 hM131_ (by rw [← e71_]; exact (lf_c_X12_given_25 z70_ z128_ h129_ )) (at_lt hv3_46 e71_ e74_ (lf_c_X12_here_5 z70_ z73_ h76_ ))
                    refine w_iincB (j := 1) (f := fun z136_ => [(3, vI z136_), (2, vI z124_), (1, vI r1_), (0, vR (12, 0, 0))]) dX12_one_119 rfl (by decide) (fun _ => rfl) (rfl : v3_46.toInt = v3_46.toInt) li_1 (lf_c_X12_one_26 v3_46 hv0_46 h49_ ) (fun z136_ h137_ => ?_)
                    refine w_goto (tgt := 46) dX12_one_122 (by decide) ?_
                    refine w_loc (ls' := [(3, vI z136_), (2, vI z124_), (1, vI r1_), (0, vR (12, 0, 0))]) [0, 1, 2, 3] rfl ?_
                    exact ih_46 M130_ hI132_ hF133_ z136_ z124_ (lf_c_X12_one_27 v3_46 z136_ hv0_46 h49_ h137_ ) (lf_c_X12_one_28 M130_ M_46 s D a T v3_46 v2_46 z70_ z73_ z99_ j103_ z101_ z111_ z115_ j119_ z117_ z122_ z124_ z128_ z136_ hs hv0_46 hv1_46 hv2_46 h49_ e71_ h72_ e74_ h75_ h76_ h100_ h104_ e102_ h108_ h112_ h116_ h120_ e118_ h121_ h123_ h125_ h129_ hM131_ h135_ h137_ ) (fun q9 => absurd q9 (lf_c_X12_one_29 v3_46 z136_ hv0_46 h137_ )) (PP_mono h135_ (lf_c_X12_one_30 s v3_46 z136_ h137_ ) (lf_c_X12_here_19 a )) kf134_ (RCH.tail hL_46 ⟨hv0_46, hv1_46, hv2_46, hI_46, hF_46, h49_, z70_, e71_, h72_, z73_, e74_, h75_, h76_, z99_, h100_, j103_, h104_, z101_, e102_, hs109_, h108_, z111_, h112_, z115_, h116_, j119_, h120_, z117_, e118_, h121_, z122_, h123_, z124_, h125_, z128_, h129_, M130_, hM131_, h135_, z136_, h137_, rfl, rfl, rfl⟩) (Nat.lt_of_lt_of_le (lf_c_X12_one_32 v3_46 z136_ h49_ h137_ ) (Nat.le_of_lt_succ hm_46))
                  · simp only [li_48, li_57] at h108_
                    refine w_if_eq (tgt := 125) dX12_one_84 (by decide) li_0 (fun h138_ => ?_) (fun h9 => (absurd h9 (by decide)))
                    have h139_ : ¬ v3_46.toInt = 0 := (dg_2 hv2_46 e71_ e102_ (lf_c_X12_here_14 z70_ z99_ j103_ h100_ h104_ ) h108_)
                    have h140_ : PP M_46 (s + 1) D a T := PP_mono hv3_46 (lf_c_X12_one_9 s v3_46 hv0_46 h139_ ) (Int.le_refl _)
                    refine w_aload_n dX12_one_125 rfl 3 rfl ?_
                    refine w_iload_n dX12_one_126 rfl 1 rfl ?_
                    refine w_callVv (as := [vI v2_46]) (rest := []) (c_X12_codes l G cy ad ((N + d) + 8) v2_46 (s + 1) D a T (D + 1) M_46 hI_46 h140_ (lf_c_X12_opens_8 s hs ) (stp_n (lf_c_X12_one_11 v3_46 v2_46 hv1_46 ))) kV_X12_codes pnn_17 (Nat.le_of_ble_eq_true rfl) m_1583 rfl rfl rfl ic_12 rfl rfl (by decide) (Nat.le_of_ble_eq_true rfl) dX12_one_127 (fun M141_ q142_ => ?_)
                    obtain ⟨hI144_, hF145_, h143_, hs147_⟩ := q142_
                    have hF146_ := hF_46.tr hF145_ (fun c k => (fun h => h.elim (fun h => (Or.inr (Or.inr (Or.inr (Or.inr (Or.inl ⟨h.1, h.2.1, h.2.2⟩)))))) (fun h => h.elim (fun h => (Or.inr (Or.inr (Or.inr (Or.inr (Or.inr (Or.inl ⟨h.1, h.2⟩))))))) (fun h => h.elim))))
                    have kf148_ : (M141_.1 (12, 0, 0) 11).toInt + ((m : Nat) : Int) = 5 := by rw [(hF145_ (12, 0, 0) 11 (by simp [S_codes]))]; exact kv0_46
                    refine w_aload_n dX12_one_130 rfl 3 rfl ?_
                    refine w_dup dX12_one_131 rfl ?_
                    refine w_getI fl_RX12_203 rfl rfl ic_12 dX12_one_132 (fun z149_ e150_ => ?_)
                    refine w_iconst (v := 1) dX12_one_135 (by decide) ?_
                    refine w_iadd dX12_one_136 (fun z151_ h152_ => ?_)
                    refine w_putI DD_nd fl_RX12_203 rfl rfl ic_12 dX12_one_137 (fun M153_ hM154_ => ?_)
                    have hI155_ := hI144_.put hM154_ ⟨trivial, Or.inl (by decide)⟩
                    have hF156_ := hF146_.put hM154_ (Or.inr (Or.inr (Or.inl ⟨rfl, rfl, rfl⟩)))
                    have kf157_ : (M153_.1 (12, 0, 0) 11).toInt + ((m : Nat) : Int) = 5 := by rw [(show M153_.1 (12, 0, 0) 11 = M141_.1 (12, 0, 0) 11 by rw [hM154_, up_ne (by simp)])]; exact kf148_
                    have kf158_ : PP M153_ ((s + 1) - 1) (D + 1) a T := PP_cong h143_ (show M153_.1 (12, 0, 0) 14 = M141_.1 (12, 0, 0) 14 by rw [hM154_, up_ne (by simp)]) (show M153_.1 (12, 0, 0) 9 = M141_.1 (12, 0, 0) 9 by rw [hM154_, up_ne (by simp)]) (show M153_.1 (50, 0, 0) 4 = M141_.1 (50, 0, 0) 4 by rw [hM154_, up_ne (by simp)]) (show M153_.1 (12, 0, 0) 13 = M141_.1 (12, 0, 0) 13 by rw [hM154_, up_ne (by simp)]) (show M153_.1 (57, 0, 0) = M141_.1 (57, 0, 0) by rw [hM154_]; exact up_other _ _ (by simp))
                    refine w_goto (tgt := 213) dX12_one_140 (by decide) ?_
                    exact w_vret rfl dX12_one_213 ⟨hI155_, hF156_, ⟨PP_mono kf158_ (lf_c_X12_opens_21 s ) (lf_c_X12_opens_41 a ), kf157_⟩, ⟨M2_, hI5_, hF6_, r1_, hs8_, h11_, (Or.inr ⟨h12_, (Or.inr ⟨h26_, (Or.inl ⟨h40_, (Or.inl ⟨hs45_, h44_, v3_46, hv0_46, v2_46, hv1_46, M_46, hv2_46, hL_46, hI_46, hF_46, (Or.inr ⟨h49_, z70_, e71_, h72_, z73_, e74_, h75_, (Or.inr ⟨h76_, z99_, h100_, j103_, h104_, z101_, e102_, hs109_, h108_, h139_, M141_, hI144_, hF145_, hs147_, h143_, z149_, e150_, z151_, h152_, M153_, hM154_, rfl⟩)⟩)⟩)⟩)⟩)⟩)⟩⟩
          exact lp48_ _ M2_ hI5_ hF7_ 0 0 (lf_c_X12_one_39 ) (lf_c_X12_one_40 ) (fun _ => h47_) (PP_mono h10_ (lf_c_X12_one_41 s ) (Int.le_refl _)) kf9_ RCH.refl (Nat.lt_succ_self _)
        · simp only [li_48, li_57] at h44_
          refine w_if_eq (tgt := 143) dX12_one_39 (by decide) li_0 (fun h159_ => ?_) (fun h9 => (absurd h9 (by decide)))
          refine w_iload_n dX12_one_143 rfl 0 rfl ?_
          refine w_if_ge (tgt := 151) dX12_one_144 (by decide) (rfl : r1_.toInt = r1_.toInt) (fun h160_ => ?_) (fun h160_ => ?_)
          · have h161_ : M2_.1 (12, 0, 0) 13 = 0 ∧ (M2_.1 (12, 0, 0) 9).toInt < T := HB_ok h11_ h10_ (lf_c_X12_one_42 r1_ h160_ )
            have kf162_ : M2_.1 (12, 0, 0) 13 = 0 := h161_.1
            have kf163_ : (M2_.1 (12, 0, 0) 9).toInt < T := h161_.2
            have kf164_ : (M2_.1 (12, 0, 0) 9).toInt ≤ 47 := PP_a48 hI5_ h10_ h161_.2
            refine w_aload_n dX12_one_151 rfl 1 rfl ?_
            refine w_iload_n dX12_one_152 rfl 0 rfl ?_
            refine w_callV (as := [vI r1_]) (rest := []) (c_X12_nameOf l G cy ad (N + d) r1_ M2_ hI5_) kV_X12_nameOf pnn_17 (Nat.le_of_ble_eq_true rfl) m_1595 rfl rfl rfl ic_12 rfl rfl (by decide) (Nat.le_of_ble_eq_true rfl) dX12_one_153 (fun r165_ M166_ q167_ => ?_)
            obtain ⟨rfl, h168_, hs169_⟩ := q167_
            refine w_istore_n (ls' := [(2, vI r165_), (1, vI r1_), (0, vR (12, 0, 0))]) dX12_one_156 rfl (by decide) rfl ?_
            refine w_aload_n dX12_one_157 rfl 2 rfl ?_
            refine w_aload_n dX12_one_158 rfl 2 rfl ?_
            refine w_getI fl_RX12_151 rfl rfl ic_12 dX12_one_159 (fun z170_ e171_ => ?_)
            have h172_ : 0 ≤ z170_.toInt ∧ z170_.toInt ≤ 1 := ofEq (P := fun v => 0 ≤ v.toInt ∧ v.toInt ≤ 1) e171_ (hI5_.1 (12, 0, 0) 13)
            have h173_ : z170_ = 0 := by rw [e171_]; exact kf162_
            refine w_if_ne (tgt := 169) dX12_one_162 (by decide) (rfl : z170_.toInt = z170_.toInt) (fun h174_ => ?_) (fun h174_ => ?_)
            · refine w_iconst (v := 1) dX12_one_169 (by decide) ?_
              refine w_goto (tgt := 174) dX12_one_170 (by decide) ?_
              refine w_putZ DD_nd fl_RX12_151 rfl rfl ic_12 ⟨by decide, by decide⟩ dX12_one_174 (fun M175_ hM176_ => ?_)
              have hI177_ := hI5_.put hM176_ ⟨⟨by decide, by decide⟩, Or.inl (by decide)⟩
              have hF178_ := hF7_.put hM176_ (Or.inr (Or.inr (Or.inr (Or.inl ⟨rfl, rfl, rfl⟩))))
              have kf179_ : (M175_.1 (12, 0, 0) 11).toInt + ((m : Nat) : Int) = 5 := by rw [(show M175_.1 (12, 0, 0) 11 = M2_.1 (12, 0, 0) 11 by rw [hM176_, up_ne (by simp)])]; exact kf9_
              have kf180_ : (M175_.1 (12, 0, 0) 9).toInt < T := by rw [(show M175_.1 (12, 0, 0) 9 = M2_.1 (12, 0, 0) 9 by rw [hM176_, up_ne (by simp)])]; exact kf163_
              have kf181_ : (M175_.1 (12, 0, 0) 9).toInt ≤ 47 := by rw [(show M175_.1 (12, 0, 0) 9 = M2_.1 (12, 0, 0) 9 by rw [hM176_, up_ne (by simp)])]; exact kf164_
              have h182_ : PP M175_ s D a T := PP_put1 h10_ hM176_
              have kf183_ : M175_.1 (12, 0, 0) 13 = 1 := up_s hM176_
              have kf184_ : (M175_.1 (12, 0, 0) 13).toInt = 1 := by rw [kf183_]; decide
              refine w_aload_n dX12_one_177 rfl 2 rfl ?_
              refine w_getI fl_RX12_151 rfl rfl ic_12 dX12_one_178 (fun z185_ e186_ => ?_)
              have h187_ : 0 ≤ z185_.toInt ∧ z185_.toInt ≤ 1 := ofEq (P := fun v => 0 ≤ v.toInt ∧ v.toInt ≤ 1) e186_ (hI177_.1 (12, 0, 0) 13)
              have h188_ : z185_ = 1 := by rw [e186_]; exact kf183_
              have h189_ : z185_.toInt = 1 := by rw [e186_]; exact kf184_
              refine w_if_ne (tgt := 213) dX12_one_181 (by decide) (rfl : z185_.toInt = z185_.toInt) (fun h190_ => ?_) (fun h9 => (lf_c_X2_changeAir_0 z185_ h189_ h9 ).elim)
              exact w_vret rfl dX12_one_213 ⟨hI177_, hF178_, ⟨PP_wr (PP_mono h182_ (lf_c_X12_opens_41 s ) (lf_c_X12_opens_41 a )) kf183_, kf179_⟩, ⟨M2_, hI5_, hF6_, r1_, hs8_, h11_, (Or.inr ⟨h12_, (Or.inr ⟨h26_, (Or.inl ⟨h40_, (Or.inr ⟨hs45_, h44_, (Or.inl ⟨h160_, r165_, hs169_, h168_, z170_, e171_, h172_, h173_, (Or.inl ⟨h174_, M175_, hM176_, h182_, z185_, e186_, h187_, h188_, h189_, h190_, rfl⟩)⟩)⟩)⟩)⟩)⟩)⟩⟩
            · refine w_iload_n dX12_one_165 rfl 0 rfl ?_
              refine w_if_ge (tgt := 173) dX12_one_166 (by decide) (rfl : r165_.toInt = r165_.toInt) (fun h191_ => ?_) (fun h191_ => ?_)
              · refine w_iconst (v := 0) dX12_one_173 (by decide) ?_
                refine w_putZ DD_nd fl_RX12_151 rfl rfl ic_12 ⟨by decide, by decide⟩ dX12_one_174 (fun M192_ hM193_ => ?_)
                have hI194_ := hI5_.put hM193_ ⟨⟨by decide, by decide⟩, Or.inl (by decide)⟩
                have hF195_ := hF7_.put hM193_ (Or.inr (Or.inr (Or.inr (Or.inl ⟨rfl, rfl, rfl⟩))))
                have kf196_ : (M192_.1 (12, 0, 0) 11).toInt + ((m : Nat) : Int) = 5 := by rw [(show M192_.1 (12, 0, 0) 11 = M2_.1 (12, 0, 0) 11 by rw [hM193_, up_ne (by simp)])]; exact kf9_
                have kf197_ : (M192_.1 (12, 0, 0) 9).toInt < T := by rw [(show M192_.1 (12, 0, 0) 9 = M2_.1 (12, 0, 0) 9 by rw [hM193_, up_ne (by simp)])]; exact kf163_
                have kf198_ : (M192_.1 (12, 0, 0) 9).toInt ≤ 47 := by rw [(show M192_.1 (12, 0, 0) 9 = M2_.1 (12, 0, 0) 9 by rw [hM193_, up_ne (by simp)])]; exact kf164_
                have h199_ : PP M192_ s D a T := PP_put0 h10_ hM193_ kf162_
                have kf200_ : M192_.1 (12, 0, 0) 13 = 0 := up_s hM193_
                have kf201_ : (M192_.1 (12, 0, 0) 13).toInt = 0 := by rw [kf200_]; decide
                refine w_aload_n dX12_one_177 rfl 2 rfl ?_
                refine w_getI fl_RX12_151 rfl rfl ic_12 dX12_one_178 (fun z202_ e203_ => ?_)
                have h204_ : 0 ≤ z202_.toInt ∧ z202_.toInt ≤ 1 := ofEq (P := fun v => 0 ≤ v.toInt ∧ v.toInt ≤ 1) e203_ (hI194_.1 (12, 0, 0) 13)
                have h205_ : z202_ = 0 := by rw [e203_]; exact kf200_
                have h206_ : z202_.toInt = 0 := by rw [e203_]; exact kf201_
                refine w_if_ne (tgt := 213) dX12_one_181 (by decide) (rfl : z202_.toInt = z202_.toInt) (fun h9 => (lf_c_X12_kind_4 z202_ h204_ h206_ h9 ).elim) (fun h207_ => ?_)
                refine w_aload_n dX12_one_184 rfl 2 rfl ?_
                refine w_sipush (v := 1000) dX12_one_185 (by decide) ?_
                refine w_iload_n dX12_one_188 rfl 0 rfl ?_
                refine w_iaddB dX12_one_189 li_1000 (rfl : r165_.toInt = r165_.toInt) (lf_c_X12_one_47 r165_ h168_ h191_ ) (fun z208_ h209_ => ?_)
                refine w_callVv (as := [vI z208_]) (rest := []) (c_X12_codes l G cy ad ((N + d) + 8) z208_ s D a T (D + 1) M192_ hI194_ h199_ hs (stp_n (lf_c_X12_one_48 r165_ z208_ h168_ h191_ h209_ ))) kV_X12_codes pnn_17 (Nat.le_of_ble_eq_true rfl) m_1583 rfl rfl rfl ic_12 rfl rfl (by decide) (Nat.le_of_ble_eq_true rfl) dX12_one_190 (fun M210_ q211_ => ?_)
                obtain ⟨hI213_, hF214_, h212_, hs216_⟩ := q211_
                have hF215_ := hF195_.tr hF214_ (fun c k => (fun h => h.elim (fun h => (Or.inr (Or.inr (Or.inr (Or.inr (Or.inl ⟨h.1, h.2.1, h.2.2⟩)))))) (fun h => h.elim (fun h => (Or.inr (Or.inr (Or.inr (Or.inr (Or.inr (Or.inl ⟨h.1, h.2⟩))))))) (fun h => h.elim))))
                have kf217_ : (M210_.1 (12, 0, 0) 11).toInt + ((m : Nat) : Int) = 5 := by rw [(hF214_ (12, 0, 0) 11 (by simp [S_codes]))]; exact kf196_
                have kf218_ : (M210_.1 (12, 0, 0) 9).toInt < T := by rw [(hF214_ (12, 0, 0) 9 (by simp [S_codes]))]; exact kf197_
                have kf219_ : (M210_.1 (12, 0, 0) 9).toInt ≤ 47 := by rw [(hF214_ (12, 0, 0) 9 (by simp [S_codes]))]; exact kf198_
                have kf220_ : M210_.1 (12, 0, 0) 13 = 0 := by rw [(hF214_ (12, 0, 0) 13 (by simp [S_codes]))]; exact kf200_
                have kf221_ : (M210_.1 (12, 0, 0) 13).toInt = 0 := by rw [(hF214_ (12, 0, 0) 13 (by simp [S_codes]))]; exact kf201_
                refine w_aload_n dX12_one_193 rfl 2 rfl ?_
                refine w_dup dX12_one_194 rfl ?_
                refine w_getI fl_RX12_203 rfl rfl ic_12 dX12_one_195 (fun z222_ e223_ => ?_)
                refine w_iconst (v := 1) dX12_one_198 (by decide) ?_
                refine w_iadd dX12_one_199 (fun z224_ h225_ => ?_)
                refine w_putI DD_nd fl_RX12_203 rfl rfl ic_12 dX12_one_200 (fun M226_ hM227_ => ?_)
                have hI228_ := hI213_.put hM227_ ⟨trivial, Or.inl (by decide)⟩
                have hF229_ := hF215_.put hM227_ (Or.inr (Or.inr (Or.inl ⟨rfl, rfl, rfl⟩)))
                have kf230_ : (M226_.1 (12, 0, 0) 11).toInt + ((m : Nat) : Int) = 5 := by rw [(show M226_.1 (12, 0, 0) 11 = M210_.1 (12, 0, 0) 11 by rw [hM227_, up_ne (by simp)])]; exact kf217_
                have kf231_ : (M226_.1 (12, 0, 0) 9).toInt < T := by rw [(show M226_.1 (12, 0, 0) 9 = M210_.1 (12, 0, 0) 9 by rw [hM227_, up_ne (by simp)])]; exact kf218_
                have kf232_ : (M226_.1 (12, 0, 0) 9).toInt ≤ 47 := by rw [(show M226_.1 (12, 0, 0) 9 = M210_.1 (12, 0, 0) 9 by rw [hM227_, up_ne (by simp)])]; exact kf219_
                have kf233_ : M226_.1 (12, 0, 0) 13 = 0 := by rw [(show M226_.1 (12, 0, 0) 13 = M210_.1 (12, 0, 0) 13 by rw [hM227_, up_ne (by simp)])]; exact kf220_
                have kf234_ : (M226_.1 (12, 0, 0) 13).toInt = 0 := by rw [(show M226_.1 (12, 0, 0) 13 = M210_.1 (12, 0, 0) 13 by rw [hM227_, up_ne (by simp)])]; exact kf221_
                have kf235_ : PP M226_ (s - 1) (D + 1) a T := PP_cong h212_ (show M226_.1 (12, 0, 0) 14 = M210_.1 (12, 0, 0) 14 by rw [hM227_, up_ne (by simp)]) (show M226_.1 (12, 0, 0) 9 = M210_.1 (12, 0, 0) 9 by rw [hM227_, up_ne (by simp)]) (show M226_.1 (50, 0, 0) 4 = M210_.1 (50, 0, 0) 4 by rw [hM227_, up_ne (by simp)]) (show M226_.1 (12, 0, 0) 13 = M210_.1 (12, 0, 0) 13 by rw [hM227_, up_ne (by simp)]) (show M226_.1 (57, 0, 0) = M210_.1 (57, 0, 0) by rw [hM227_]; exact up_other _ _ (by simp))
                refine w_aload_n dX12_one_203 rfl 2 rfl ?_
                refine w_dup dX12_one_204 rfl ?_
                refine w_getI fl_RX12_155 rfl rfl ic_12 dX12_one_205 (fun z236_ e237_ => ?_)
                have h238_ : 0 ≤ z236_.toInt ∧ z236_.toInt ≤ 48 := ofEq (P := fun v => 0 ≤ v.toInt ∧ v.toInt ≤ 48) e237_ (hI228_.1 (12, 0, 0) 9)
                have h239_ : z236_.toInt < T := by rw [e237_]; exact kf231_
                have h240_ : z236_.toInt ≤ 47 := by rw [e237_]; exact kf232_
                refine w_iconst (v := 1) dX12_one_208 (by decide) ?_
                refine w_iaddB dX12_one_209 (rfl : z236_.toInt = z236_.toInt) li_1 (lf_c_X12_takes_4 z236_ h238_ h240_ ) (fun z241_ h242_ => ?_)
                refine w_putI DD_nd fl_RX12_155 rfl rfl ic_12 dX12_one_210 (fun M243_ hM244_ => ?_)
                have hI245_ := hI228_.put hM244_ ⟨(lf_c_X12_takes_5 z236_ z241_ h238_ h240_ h242_ ), Or.inl (by decide)⟩
                have hF246_ := hF229_.put hM244_ (Or.inl ⟨rfl, rfl, rfl⟩)
                have kf247_ : (M243_.1 (12, 0, 0) 11).toInt + ((m : Nat) : Int) = 5 := by rw [(show M243_.1 (12, 0, 0) 11 = M226_.1 (12, 0, 0) 11 by rw [hM244_, up_ne (by simp)])]; exact kf230_
                have kf248_ : M243_.1 (12, 0, 0) 13 = 0 := by rw [(show M243_.1 (12, 0, 0) 13 = M226_.1 (12, 0, 0) 13 by rw [hM244_, up_ne (by simp)])]; exact kf233_
                have kf249_ : (M243_.1 (12, 0, 0) 13).toInt = 0 := by rw [(show M243_.1 (12, 0, 0) 13 = M226_.1 (12, 0, 0) 13 by rw [hM244_, up_ne (by simp)])]; exact kf234_
                have h250_ : PP M243_ ((s - 1) + 1) (D + 1) (a + 1) T := PP_at kf235_ hM244_ (by rw [← e237_]; exact (lf_c_X12_given_25 z236_ z241_ h242_ )) kf231_
                exact w_vret rfl dX12_one_213 ⟨hI245_, hF246_, ⟨PP_mono h250_ (lf_c_X12_one_52 s ) (lf_c_X12_here_19 a ), kf247_⟩, ⟨M2_, hI5_, hF6_, r1_, hs8_, h11_, (Or.inr ⟨h12_, (Or.inr ⟨h26_, (Or.inl ⟨h40_, (Or.inr ⟨hs45_, h44_, (Or.inl ⟨h160_, r165_, hs169_, h168_, z170_, e171_, h172_, h173_, (Or.inr ⟨h174_, (Or.inl ⟨h191_, M192_, hM193_, z202_, e203_, h204_, h205_, h206_, h207_, z208_, h209_, hI194_, M210_, hI213_, hF214_, hs216_, z222_, e223_, z224_, h225_, M226_, hM227_, z236_, e237_, h238_, h239_, h240_, z241_, h242_, M243_, hM244_, h250_, rfl⟩)⟩)⟩)⟩)⟩)⟩)⟩)⟩⟩
              · refine w_iconst (v := 1) dX12_one_169 (by decide) ?_
                refine w_goto (tgt := 174) dX12_one_170 (by decide) ?_
                refine w_putZ DD_nd fl_RX12_151 rfl rfl ic_12 ⟨by decide, by decide⟩ dX12_one_174 (fun M251_ hM252_ => ?_)
                have hI253_ := hI5_.put hM252_ ⟨⟨by decide, by decide⟩, Or.inl (by decide)⟩
                have hF254_ := hF7_.put hM252_ (Or.inr (Or.inr (Or.inr (Or.inl ⟨rfl, rfl, rfl⟩))))
                have kf255_ : (M251_.1 (12, 0, 0) 11).toInt + ((m : Nat) : Int) = 5 := by rw [(show M251_.1 (12, 0, 0) 11 = M2_.1 (12, 0, 0) 11 by rw [hM252_, up_ne (by simp)])]; exact kf9_
                have kf256_ : (M251_.1 (12, 0, 0) 9).toInt < T := by rw [(show M251_.1 (12, 0, 0) 9 = M2_.1 (12, 0, 0) 9 by rw [hM252_, up_ne (by simp)])]; exact kf163_
                have kf257_ : (M251_.1 (12, 0, 0) 9).toInt ≤ 47 := by rw [(show M251_.1 (12, 0, 0) 9 = M2_.1 (12, 0, 0) 9 by rw [hM252_, up_ne (by simp)])]; exact kf164_
                have h258_ : PP M251_ s D a T := PP_put1 h10_ hM252_
                have kf259_ : M251_.1 (12, 0, 0) 13 = 1 := up_s hM252_
                have kf260_ : (M251_.1 (12, 0, 0) 13).toInt = 1 := by rw [kf259_]; decide
                refine w_aload_n dX12_one_177 rfl 2 rfl ?_
                refine w_getI fl_RX12_151 rfl rfl ic_12 dX12_one_178 (fun z261_ e262_ => ?_)
                have h263_ : 0 ≤ z261_.toInt ∧ z261_.toInt ≤ 1 := ofEq (P := fun v => 0 ≤ v.toInt ∧ v.toInt ≤ 1) e262_ (hI253_.1 (12, 0, 0) 13)
                have h264_ : z261_ = 1 := by rw [e262_]; exact kf259_
                have h265_ : z261_.toInt = 1 := by rw [e262_]; exact kf260_
                refine w_if_ne (tgt := 213) dX12_one_181 (by decide) (rfl : z261_.toInt = z261_.toInt) (fun h266_ => ?_) (fun h9 => (lf_c_X2_changeAir_0 z261_ h265_ h9 ).elim)
                exact w_vret rfl dX12_one_213 ⟨hI253_, hF254_, ⟨PP_wr (PP_mono h258_ (lf_c_X12_opens_41 s ) (lf_c_X12_opens_41 a )) kf259_, kf255_⟩, ⟨M2_, hI5_, hF6_, r1_, hs8_, h11_, (Or.inr ⟨h12_, (Or.inr ⟨h26_, (Or.inl ⟨h40_, (Or.inr ⟨hs45_, h44_, (Or.inl ⟨h160_, r165_, hs169_, h168_, z170_, e171_, h172_, h173_, (Or.inr ⟨h174_, (Or.inr ⟨h191_, M251_, hM252_, h258_, z261_, e262_, h263_, h264_, h265_, h266_, rfl⟩)⟩)⟩)⟩)⟩)⟩)⟩)⟩⟩
          · refine w_iconst (v := (-1)) dX12_one_147 (by decide) ?_
            refine w_goto (tgt := 156) dX12_one_148 (by decide) ?_
            refine w_istore_n (ls' := [(2, vI (-1)), (1, vI r1_), (0, vR (12, 0, 0))]) dX12_one_156 rfl (by decide) rfl ?_
            refine w_aload_n dX12_one_157 rfl 2 rfl ?_
            refine w_aload_n dX12_one_158 rfl 2 rfl ?_
            refine w_getI fl_RX12_151 rfl rfl ic_12 dX12_one_159 (fun z267_ e268_ => ?_)
            have h269_ : 0 ≤ z267_.toInt ∧ z267_.toInt ≤ 1 := ofEq (P := fun v => 0 ≤ v.toInt ∧ v.toInt ≤ 1) e268_ (hI5_.1 (12, 0, 0) 13)
            refine w_if_ne (tgt := 169) dX12_one_162 (by decide) (rfl : z267_.toInt = z267_.toInt) (fun h270_ => ?_) (fun h270_ => ?_)
            · refine w_iconst (v := 1) dX12_one_169 (by decide) ?_
              refine w_goto (tgt := 174) dX12_one_170 (by decide) ?_
              refine w_putZ DD_nd fl_RX12_151 rfl rfl ic_12 ⟨by decide, by decide⟩ dX12_one_174 (fun M271_ hM272_ => ?_)
              have hI273_ := hI5_.put hM272_ ⟨⟨by decide, by decide⟩, Or.inl (by decide)⟩
              have hF274_ := hF7_.put hM272_ (Or.inr (Or.inr (Or.inr (Or.inl ⟨rfl, rfl, rfl⟩))))
              have kf275_ : (M271_.1 (12, 0, 0) 11).toInt + ((m : Nat) : Int) = 5 := by rw [(show M271_.1 (12, 0, 0) 11 = M2_.1 (12, 0, 0) 11 by rw [hM272_, up_ne (by simp)])]; exact kf9_
              have h276_ : PP M271_ s D a T := PP_put1 h10_ hM272_
              have kf277_ : M271_.1 (12, 0, 0) 13 = 1 := up_s hM272_
              have kf278_ : (M271_.1 (12, 0, 0) 13).toInt = 1 := by rw [kf277_]; decide
              refine w_aload_n dX12_one_177 rfl 2 rfl ?_
              refine w_getI fl_RX12_151 rfl rfl ic_12 dX12_one_178 (fun z279_ e280_ => ?_)
              have h281_ : 0 ≤ z279_.toInt ∧ z279_.toInt ≤ 1 := ofEq (P := fun v => 0 ≤ v.toInt ∧ v.toInt ≤ 1) e280_ (hI273_.1 (12, 0, 0) 13)
              have h282_ : z279_ = 1 := by rw [e280_]; exact kf277_
              have h283_ : z279_.toInt = 1 := by rw [e280_]; exact kf278_
              refine w_if_ne (tgt := 213) dX12_one_181 (by decide) (rfl : z279_.toInt = z279_.toInt) (fun h284_ => ?_) (fun h9 => (lf_c_X2_changeAir_0 z279_ h283_ h9 ).elim)
              exact w_vret rfl dX12_one_213 ⟨hI273_, hF274_, ⟨PP_wr (PP_mono h276_ (lf_c_X12_opens_41 s ) (lf_c_X12_opens_41 a )) kf277_, kf275_⟩, ⟨M2_, hI5_, hF6_, r1_, hs8_, h11_, (Or.inr ⟨h12_, (Or.inr ⟨h26_, (Or.inl ⟨h40_, (Or.inr ⟨hs45_, h44_, (Or.inr ⟨h160_, z267_, e268_, h269_, (Or.inl ⟨h270_, M271_, hM272_, h276_, z279_, e280_, h281_, h282_, h283_, h284_, rfl⟩)⟩)⟩)⟩)⟩)⟩)⟩⟩
            · refine w_iload_n dX12_one_165 rfl 0 rfl ?_
              refine w_if_ge (tgt := 173) dX12_one_166 (by decide) li_m1 (fun h9 => (absurd h9 (by decide))) (fun h285_ => ?_)
              refine w_iconst (v := 1) dX12_one_169 (by decide) ?_
              refine w_goto (tgt := 174) dX12_one_170 (by decide) ?_
              refine w_putZ DD_nd fl_RX12_151 rfl rfl ic_12 ⟨by decide, by decide⟩ dX12_one_174 (fun M286_ hM287_ => ?_)
              have hI288_ := hI5_.put hM287_ ⟨⟨by decide, by decide⟩, Or.inl (by decide)⟩
              have hF289_ := hF7_.put hM287_ (Or.inr (Or.inr (Or.inr (Or.inl ⟨rfl, rfl, rfl⟩))))
              have kf290_ : (M286_.1 (12, 0, 0) 11).toInt + ((m : Nat) : Int) = 5 := by rw [(show M286_.1 (12, 0, 0) 11 = M2_.1 (12, 0, 0) 11 by rw [hM287_, up_ne (by simp)])]; exact kf9_
              have h291_ : PP M286_ s D a T := PP_put1 h10_ hM287_
              have kf292_ : M286_.1 (12, 0, 0) 13 = 1 := up_s hM287_
              have kf293_ : (M286_.1 (12, 0, 0) 13).toInt = 1 := by rw [kf292_]; decide
              refine w_aload_n dX12_one_177 rfl 2 rfl ?_
              refine w_getI fl_RX12_151 rfl rfl ic_12 dX12_one_178 (fun z294_ e295_ => ?_)
              have h296_ : 0 ≤ z294_.toInt ∧ z294_.toInt ≤ 1 := ofEq (P := fun v => 0 ≤ v.toInt ∧ v.toInt ≤ 1) e295_ (hI288_.1 (12, 0, 0) 13)
              have h297_ : z294_ = 1 := by rw [e295_]; exact kf292_
              have h298_ : z294_.toInt = 1 := by rw [e295_]; exact kf293_
              refine w_if_ne (tgt := 213) dX12_one_181 (by decide) (rfl : z294_.toInt = z294_.toInt) (fun h299_ => ?_) (fun h9 => (lf_c_X2_changeAir_0 z294_ h298_ h9 ).elim)
              exact w_vret rfl dX12_one_213 ⟨hI288_, hF289_, ⟨PP_wr (PP_mono h291_ (lf_c_X12_opens_41 s ) (lf_c_X12_opens_41 a )) kf292_, kf290_⟩, ⟨M2_, hI5_, hF6_, r1_, hs8_, h11_, (Or.inr ⟨h12_, (Or.inr ⟨h26_, (Or.inl ⟨h40_, (Or.inr ⟨hs45_, h44_, (Or.inr ⟨h160_, z267_, e268_, h269_, (Or.inr ⟨h270_, M286_, hM287_, h291_, z294_, e295_, h296_, h297_, h298_, h299_, rfl⟩)⟩)⟩)⟩)⟩)⟩)⟩⟩
      · have h300_ : M2_.1 (12, 0, 0) 13 = 0 ∧ (M2_.1 (12, 0, 0) 9).toInt < T := HB_ok h11_ h10_ (lf_c_X12_one_63 r1_ h40_ )
        have kf301_ : M2_.1 (12, 0, 0) 13 = 0 := h300_.1
        have kf302_ : (M2_.1 (12, 0, 0) 9).toInt < T := h300_.2
        have kf303_ : (M2_.1 (12, 0, 0) 9).toInt ≤ 47 := PP_a48 hI5_ h10_ h300_.2
        refine w_aload_n dX12_one_23 rfl 1 rfl ?_
        refine w_iload_n dX12_one_24 rfl 0 rfl ?_
        refine w_callVv (as := [vI r1_]) (rest := []) (c_X12_opens l G cy ad (d + 5) N m QA QB r1_ s D a T M2_ hI5_ hA hB h10_ hs kf9_ hm kf302_ kf301_) kV_X12_opens pnn_17 (Nat.le_of_ble_eq_true rfl) m_1579 rfl rfl rfl ic_12 rfl rfl (by decide) (Nat.le_of_ble_eq_true rfl) dX12_one_25 (fun M304_ q305_ => ?_)
        obtain ⟨hI307_, hF308_, h306_, hs310_⟩ := q305_
        have hF309_ := hF7_.tr hF308_ (fun c k => (fun h => h.elim (fun h => (Or.inl ⟨h.1, h.2.1, h.2.2⟩)) (fun h => h.elim (fun h => (Or.inr (Or.inl ⟨h.1, h.2.1, h.2.2⟩))) (fun h => h.elim (fun h => (Or.inr (Or.inr (Or.inl ⟨h.1, h.2.1, h.2.2⟩)))) (fun h => h.elim (fun h => (Or.inr (Or.inr (Or.inr (Or.inl ⟨h.1, h.2.1, h.2.2⟩))))) (fun h => h.elim (fun h => (Or.inr (Or.inr (Or.inr (Or.inr (Or.inl ⟨h.1, h.2.1, h.2.2⟩)))))) (fun h => h.elim (fun h => (Or.inr (Or.inr (Or.inr (Or.inr (Or.inr (Or.inl ⟨h.1, h.2⟩))))))) (fun h => h.elim))))))))
        have h311_ : PP M304_ s (D + 1) a T := h306_.1
        have kf312_ : (M304_.1 (12, 0, 0) 11).toInt + ((m : Nat) : Int) = 5 := h306_.2
        refine w_goto (tgt := 213) dX12_one_28 (by decide) ?_
        exact w_vret rfl dX12_one_213 ⟨hI307_, hF309_, ⟨h311_, kf312_⟩, ⟨M2_, hI5_, hF6_, r1_, hs8_, h11_, (Or.inr ⟨h12_, (Or.inr ⟨h26_, (Or.inr ⟨h40_, M304_, hI307_, hF308_, hs310_, h311_, rfl⟩)⟩)⟩)⟩⟩
def ST_X12_term_51 (N : Nat) (m : Nat) (QA : mM → mM → Prop) (QB : mM → mM → Prop) (s : Int) (D : Nat) (T : Int) (Mz : mM) (v1_51 : Int32) (M_51 : mM) (v1_51y : Int32) (M_51y : mM) : Prop := (v1_51.toInt = 0 ∨ (2005 ≤ v1_51.toInt ∧ v1_51.toInt ≤ 2007)) ∧ (InvD M_51) ∧ (FR (S_par) Mz M_51) ∧ (0 ≤ isX v1_51 ∧ isX v1_51 ≤ 1) ∧ (0 < v1_51.toInt) ∧ ∃ M27_ : mM, (InvD M27_) ∧ (FR (S_par) M_51 M27_) ∧ (SP_X12_one N m QA QB (s + 1) (D + 1) ((M_51.1 (12, 0, 0) 9).toInt) T M_51 M27_) ∧ ∃ M36_ : mM, (InvD M36_) ∧ (FR (S_codes) M27_ M36_) ∧ (SP_X12_codes v1_51 (s + 1) ((D + 1) + 1) ((M_51.1 (12, 0, 0) 9).toInt) T (D + 1) M27_ M36_) ∧ ∃ M45_ : mM, (InvD M45_) ∧ (FR (S_here) M36_ M45_) ∧ (((SP_X12_takes 42 ((s + 1) - 1) (D + 1) ((M_51.1 (12, 0, 0) 9).toInt) T M36_ (1 : Int32) M45_) ∧ (PP M45_ (((s + 1) - 1) + 1) (D + 1) ((M_51.1 (12, 0, 0) 9).toInt + 1) T) ∧ v1_51y = 2005 ∧ M_51y = M45_) ∨ ((SP_X12_takes 42 ((s + 1) - 1) (D + 1) ((M_51.1 (12, 0, 0) 9).toInt) T M36_ (0 : Int32) M45_) ∧ ∃ M58_ : mM, (InvD M58_) ∧ (FR (S_here) M45_ M58_) ∧ (((SP_X12_takes 47 ((s + 1) - 1) (D + 1) ((M_51.1 (12, 0, 0) 9).toInt) T M45_ (1 : Int32) M58_) ∧ (PP M58_ (((s + 1) - 1) + 1) (D + 1) ((M_51.1 (12, 0, 0) 9).toInt + 1) T) ∧ v1_51y = 2006 ∧ M_51y = M58_) ∨ ((SP_X12_takes 47 ((s + 1) - 1) (D + 1) ((M_51.1 (12, 0, 0) 9).toInt) T M45_ (0 : Int32) M58_) ∧ ∃ M71_ : mM, (InvD M71_) ∧ (FR (S_here) M58_ M71_) ∧ (((SP_X12_takes 37 ((s + 1) - 1) (D + 1) ((M_51.1 (12, 0, 0) 9).toInt) T M58_ (1 : Int32) M71_) ∧ (PP M71_ (((s + 1) - 1) + 1) (D + 1) ((M_51.1 (12, 0, 0) 9).toInt + 1) T) ∧ v1_51y = 2007 ∧ M_51y = M71_) ∨ ((SP_X12_takes 37 ((s + 1) - 1) (D + 1) ((M_51.1 (12, 0, 0) 9).toInt) T M58_ (0 : Int32) M71_) ∧ (PP M71_ ((s + 1) - 1) (D + 1) (M_51.1 (12, 0, 0) 9).toInt T) ∧ v1_51y = 0 ∧ M_51y = M71_))))))
def ST_X12_term_51b (N : Nat) (m : Nat) (QA : mM → mM → Prop) (QB : mM → mM → Prop) (s : Int) (D : Nat) (T : Int) (Mz : mM) (v1_51 : Int32) (M_51 : mM) (v1_51y : Int32) (M_51y : mM) : Prop := (v1_51.toInt = 0 ∨ (2005 ≤ v1_51.toInt ∧ v1_51.toInt ≤ 2007)) ∧ (InvD M_51) ∧ (FR (S_par) Mz M_51) ∧ (0 ≤ isX v1_51 ∧ isX v1_51 ≤ 1) ∧ (0 < v1_51.toInt) ∧ ∃ M101_ : mM, (InvD M101_) ∧ (FR (S_par) M_51 M101_) ∧ (SP_X12_one N m QA QB (s + 1) (D + 1) ((M_51.1 (12, 0, 0) 9).toInt) T M_51 M101_) ∧ ∃ M110_ : mM, (InvD M110_) ∧ (FR (S_codes) M101_ M110_) ∧ (SP_X12_codes v1_51 (s + 1) ((D + 1) + 1) ((M_51.1 (12, 0, 0) 9).toInt) T (D + 1) M101_ M110_) ∧ ∃ M119_ : mM, (InvD M119_) ∧ (FR (S_here) M110_ M119_) ∧ (((SP_X12_takes 42 ((s + 1) - 1) (D + 1) ((M_51.1 (12, 0, 0) 9).toInt) T M110_ (1 : Int32) M119_) ∧ (PP M119_ (((s + 1) - 1) + 1) (D + 1) ((M_51.1 (12, 0, 0) 9).toInt + 1) T) ∧ v1_51y = 2005 ∧ M_51y = M119_) ∨ ((SP_X12_takes 42 ((s + 1) - 1) (D + 1) ((M_51.1 (12, 0, 0) 9).toInt) T M110_ (0 : Int32) M119_) ∧ ∃ M132_ : mM, (InvD M132_) ∧ (FR (S_here) M119_ M132_) ∧ (((SP_X12_takes 47 ((s + 1) - 1) (D + 1) ((M_51.1 (12, 0, 0) 9).toInt) T M119_ (1 : Int32) M132_) ∧ (PP M132_ (((s + 1) - 1) + 1) (D + 1) ((M_51.1 (12, 0, 0) 9).toInt + 1) T) ∧ v1_51y = 2006 ∧ M_51y = M132_) ∨ ((SP_X12_takes 47 ((s + 1) - 1) (D + 1) ((M_51.1 (12, 0, 0) 9).toInt) T M119_ (0 : Int32) M132_) ∧ ∃ M145_ : mM, (InvD M145_) ∧ (FR (S_here) M132_ M145_) ∧ (((SP_X12_takes 37 ((s + 1) - 1) (D + 1) ((M_51.1 (12, 0, 0) 9).toInt) T M132_ (1 : Int32) M145_) ∧ (PP M145_ (((s + 1) - 1) + 1) (D + 1) ((M_51.1 (12, 0, 0) 9).toInt + 1) T) ∧ v1_51y = 2007 ∧ M_51y = M145_) ∨ ((SP_X12_takes 37 ((s + 1) - 1) (D + 1) ((M_51.1 (12, 0, 0) 9).toInt) T M132_ (0 : Int32) M145_) ∧ (PP M145_ ((s + 1) - 1) (D + 1) (M_51.1 (12, 0, 0) 9).toInt T) ∧ v1_51y = 0 ∧ M_51y = M145_))))))
def ST_X12_term_51c (N : Nat) (m : Nat) (QA : mM → mM → Prop) (QB : mM → mM → Prop) (s : Int) (D : Nat) (T : Int) (Mz : mM) (v1_51 : Int32) (M_51 : mM) (v1_51y : Int32) (M_51y : mM) : Prop := (v1_51.toInt = 0 ∨ (2005 ≤ v1_51.toInt ∧ v1_51.toInt ≤ 2007)) ∧ (InvD M_51) ∧ (FR (S_par) Mz M_51) ∧ (0 ≤ isX v1_51 ∧ isX v1_51 ≤ 1) ∧ (0 < v1_51.toInt) ∧ ∃ M175_ : mM, (InvD M175_) ∧ (FR (S_par) M_51 M175_) ∧ (SP_X12_one N m QA QB (s + 1) (D + 1) ((M_51.1 (12, 0, 0) 9).toInt) T M_51 M175_) ∧ ∃ M184_ : mM, (InvD M184_) ∧ (FR (S_codes) M175_ M184_) ∧ (SP_X12_codes v1_51 (s + 1) ((D + 1) + 1) ((M_51.1 (12, 0, 0) 9).toInt) T (D + 1) M175_ M184_) ∧ ∃ M193_ : mM, (InvD M193_) ∧ (FR (S_here) M184_ M193_) ∧ (((SP_X12_takes 42 ((s + 1) - 1) (D + 1) ((M_51.1 (12, 0, 0) 9).toInt) T M184_ (1 : Int32) M193_) ∧ (PP M193_ (((s + 1) - 1) + 1) (D + 1) ((M_51.1 (12, 0, 0) 9).toInt + 1) T) ∧ v1_51y = 2005 ∧ M_51y = M193_) ∨ ((SP_X12_takes 42 ((s + 1) - 1) (D + 1) ((M_51.1 (12, 0, 0) 9).toInt) T M184_ (0 : Int32) M193_) ∧ ∃ M206_ : mM, (InvD M206_) ∧ (FR (S_here) M193_ M206_) ∧ (((SP_X12_takes 47 ((s + 1) - 1) (D + 1) ((M_51.1 (12, 0, 0) 9).toInt) T M193_ (1 : Int32) M206_) ∧ (PP M206_ (((s + 1) - 1) + 1) (D + 1) ((M_51.1 (12, 0, 0) 9).toInt + 1) T) ∧ v1_51y = 2006 ∧ M_51y = M206_) ∨ ((SP_X12_takes 47 ((s + 1) - 1) (D + 1) ((M_51.1 (12, 0, 0) 9).toInt) T M193_ (0 : Int32) M206_) ∧ ∃ M219_ : mM, (InvD M219_) ∧ (FR (S_here) M206_ M219_) ∧ (((SP_X12_takes 37 ((s + 1) - 1) (D + 1) ((M_51.1 (12, 0, 0) 9).toInt) T M206_ (1 : Int32) M219_) ∧ (PP M219_ (((s + 1) - 1) + 1) (D + 1) ((M_51.1 (12, 0, 0) 9).toInt + 1) T) ∧ v1_51y = 2007 ∧ M_51y = M219_) ∨ ((SP_X12_takes 37 ((s + 1) - 1) (D + 1) ((M_51.1 (12, 0, 0) 9).toInt) T M206_ (0 : Int32) M219_) ∧ (PP M219_ ((s + 1) - 1) (D + 1) (M_51.1 (12, 0, 0) 9).toInt T) ∧ v1_51y = 0 ∧ M_51y = M219_))))))
def ST_X12_term_51d (N : Nat) (m : Nat) (QA : mM → mM → Prop) (QB : mM → mM → Prop) (s : Int) (D : Nat) (T : Int) (Mz : mM) (v1_51 : Int32) (M_51 : mM) (v1_51y : Int32) (M_51y : mM) : Prop := (v1_51.toInt = 0 ∨ (2005 ≤ v1_51.toInt ∧ v1_51.toInt ≤ 2007)) ∧ (InvD M_51) ∧ (FR (S_par) Mz M_51) ∧ (0 ≤ isX v1_51 ∧ isX v1_51 ≤ 1) ∧ (0 < v1_51.toInt) ∧ ∃ M237_ : mM, (InvD M237_) ∧ (FR (S_par) M_51 M237_) ∧ (SP_X12_one N m QA QB (s + 1) (D + 1) ((M_51.1 (12, 0, 0) 9).toInt) T M_51 M237_) ∧ ∃ M246_ : mM, (InvD M246_) ∧ (FR (S_codes) M237_ M246_) ∧ (SP_X12_codes v1_51 (s + 1) ((D + 1) + 1) ((M_51.1 (12, 0, 0) 9).toInt) T (D + 1) M237_ M246_) ∧ ∃ M255_ : mM, (InvD M255_) ∧ (FR (S_here) M246_ M255_) ∧ (((SP_X12_takes 42 ((s + 1) - 1) (D + 1) ((M_51.1 (12, 0, 0) 9).toInt) T M246_ (1 : Int32) M255_) ∧ (PP M255_ (((s + 1) - 1) + 1) (D + 1) ((M_51.1 (12, 0, 0) 9).toInt + 1) T) ∧ v1_51y = 2005 ∧ M_51y = M255_) ∨ ((SP_X12_takes 42 ((s + 1) - 1) (D + 1) ((M_51.1 (12, 0, 0) 9).toInt) T M246_ (0 : Int32) M255_) ∧ ∃ M268_ : mM, (InvD M268_) ∧ (FR (S_here) M255_ M268_) ∧ (((SP_X12_takes 47 ((s + 1) - 1) (D + 1) ((M_51.1 (12, 0, 0) 9).toInt) T M255_ (1 : Int32) M268_) ∧ (PP M268_ (((s + 1) - 1) + 1) (D + 1) ((M_51.1 (12, 0, 0) 9).toInt + 1) T) ∧ v1_51y = 2006 ∧ M_51y = M268_) ∨ ((SP_X12_takes 47 ((s + 1) - 1) (D + 1) ((M_51.1 (12, 0, 0) 9).toInt) T M255_ (0 : Int32) M268_) ∧ ∃ M281_ : mM, (InvD M281_) ∧ (FR (S_here) M268_ M281_) ∧ (((SP_X12_takes 37 ((s + 1) - 1) (D + 1) ((M_51.1 (12, 0, 0) 9).toInt) T M268_ (1 : Int32) M281_) ∧ (PP M281_ (((s + 1) - 1) + 1) (D + 1) ((M_51.1 (12, 0, 0) 9).toInt + 1) T) ∧ v1_51y = 2007 ∧ M_51y = M281_) ∨ ((SP_X12_takes 37 ((s + 1) - 1) (D + 1) ((M_51.1 (12, 0, 0) 9).toInt) T M268_ (0 : Int32) M281_) ∧ (PP M281_ ((s + 1) - 1) (D + 1) (M_51.1 (12, 0, 0) 9).toInt T) ∧ v1_51y = 0 ∧ M_51y = M281_))))))
def SP_X12_term (N : Nat) (m : Nat) (QA : mM → mM → Prop) (QB : mM → mM → Prop) (s : Int) (D : Nat) (a : Int) (T : Int) (Mz : mM) (M_ : mM) : Prop := ∃ M1_ : mM, (InvD M1_) ∧ (FR (S_par) Mz M1_) ∧ (SP_X12_one N m QA QB s D a T Mz M1_) ∧ ∃ M11_ : mM, (InvD M11_) ∧ (FR (S_here) M1_ M11_) ∧ (((SP_X12_takes 42 s (D + 1) a T M1_ (1 : Int32) M11_) ∧ ∃ v1_51 : Int32, (v1_51.toInt = 0 ∨ (2005 ≤ v1_51.toInt ∧ v1_51.toInt ≤ 2007)) ∧ ∃ M_51 : mM, (RCH (fun x_ y_ => ST_X12_term_51 N m QA QB s D T Mz x_.1 x_.2 y_.1 y_.2) ((2005 : Int32), M11_) (v1_51, M_51)) ∧ (InvD M_51) ∧ (FR (S_par) Mz M_51) ∧ (PP M_51 (s + isX v1_51) (D + 1) a T) ∧ (0 ≤ isX v1_51 ∧ isX v1_51 ≤ 1) ∧ (v1_51.toInt ≤ 0) ∧ M_ = M_51) ∨ ((SP_X12_takes 42 s (D + 1) a T M1_ (0 : Int32) M11_) ∧ ∃ M85_ : mM, (InvD M85_) ∧ (FR (S_here) M11_ M85_) ∧ (((SP_X12_takes 47 s (D + 1) a T M11_ (1 : Int32) M85_) ∧ ∃ v1_51 : Int32, (v1_51.toInt = 0 ∨ (2005 ≤ v1_51.toInt ∧ v1_51.toInt ≤ 2007)) ∧ ∃ M_51 : mM, (RCH (fun x_ y_ => ST_X12_term_51b N m QA QB s D T Mz x_.1 x_.2 y_.1 y_.2) ((2006 : Int32), M85_) (v1_51, M_51)) ∧ (InvD M_51) ∧ (FR (S_par) Mz M_51) ∧ (PP M_51 (s + isX v1_51) (D + 1) a T) ∧ (0 ≤ isX v1_51 ∧ isX v1_51 ≤ 1) ∧ (v1_51.toInt ≤ 0) ∧ M_ = M_51) ∨ ((SP_X12_takes 47 s (D + 1) a T M11_ (0 : Int32) M85_) ∧ ∃ M159_ : mM, (InvD M159_) ∧ (FR (S_here) M85_ M159_) ∧ (((SP_X12_takes 37 s (D + 1) a T M85_ (1 : Int32) M159_) ∧ ∃ v1_51 : Int32, (v1_51.toInt = 0 ∨ (2005 ≤ v1_51.toInt ∧ v1_51.toInt ≤ 2007)) ∧ ∃ M_51 : mM, (RCH (fun x_ y_ => ST_X12_term_51c N m QA QB s D T Mz x_.1 x_.2 y_.1 y_.2) ((2007 : Int32), M159_) (v1_51, M_51)) ∧ (InvD M_51) ∧ (FR (S_par) Mz M_51) ∧ (PP M_51 (s + isX v1_51) (D + 1) a T) ∧ (0 ≤ isX v1_51 ∧ isX v1_51 ≤ 1) ∧ (v1_51.toInt ≤ 0) ∧ M_ = M_51) ∨ ((SP_X12_takes 37 s (D + 1) a T M85_ (0 : Int32) M159_) ∧ ∃ v1_51 : Int32, (v1_51.toInt = 0 ∨ (2005 ≤ v1_51.toInt ∧ v1_51.toInt ≤ 2007)) ∧ ∃ M_51 : mM, (RCH (fun x_ y_ => ST_X12_term_51d N m QA QB s D T Mz x_.1 x_.2 y_.1 y_.2) ((0 : Int32), M159_) (v1_51, M_51)) ∧ (InvD M_51) ∧ (FR (S_par) Mz M_51) ∧ (PP M_51 (s + isX v1_51) (D + 1) a T) ∧ (0 ≤ isX v1_51 ∧ isX v1_51 ≤ 1) ∧ (v1_51.toInt ≤ 0) ∧ M_ = M_51))))))
theorem lf_c_X12_term_0 (M_51 : mM) (s : Int) (D : Nat) (a : Int) (T : Int) (v1_51 : Int32) (hs : 0 ≤ s) (hv0_51 : v1_51.toInt = 0 ∨ (2005 ≤ v1_51.toInt ∧ v1_51.toInt ≤ 2007)) (hv1_51 : PP M_51 (s + isX v1_51) (D + 1) a T) (h23_ : 0 ≤ isX v1_51 ∧ isX v1_51 ≤ 1) (h24_ : v1_51.toInt ≤ 0) : s ≤ (s + isX v1_51) := by have r_v1_51 := rngI v1_51; omega
theorem lf_c_X12_term_2 (v1_51 : Int32) (h24_ : 0 < v1_51.toInt) : 0 < v1_51.toInt := by omega
theorem lf_c_X12_term_5 (v1_51 : Int32) (hv0_51 : v1_51.toInt = 0 ∨ (2005 ≤ v1_51.toInt ∧ v1_51.toInt ≤ 2007)) (h24_ : 0 < v1_51.toInt) : 2000 ≤ v1_51.toInt ∧ v1_51.toInt < 2008 := by omega
theorem lf_c_X12_term_6 : (2005 : Int32).toInt = 0 ∨ (2005 ≤ (2005 : Int32).toInt ∧ (2005 : Int32).toInt ≤ 2007) := by have q0 := li_2005; omega
theorem lf_c_X12_term_7 (M45_ : mM) (M_51 : mM) (s : Int) (D : Nat) (T : Int) (hs : 0 ≤ s) (h53_ : PP M45_ (((s + 1) - 1) + 1) (D + 1) ((M_51.1 (12, 0, 0) 9).toInt + 1) T) : (s + isX (2005 : Int32)) ≤ (((s + 1) - 1) + 1) := by have h9 := isX_p (v := (2005 : Int32)) (by decide); omega
theorem lf_c_X12_term_8 (M_51 : mM) (a : Int) (kf25_ : a ≤ (M_51.1 (12, 0, 0) 9).toInt) (kf25_ : a ≤ (M_51.1 (12, 0, 0) 9).toInt) : a ≤ ((M_51.1 (12, 0, 0) 9).toInt + 1) := by omega
theorem lf_c_X12_term_9 (M11_ : mM) (M1_ : mM) (M27_ : mM) (M36_ : mM) (M45_ : mM) (M_51 : mM) (Mz : mM) (m : Nat) (s : Int) (D : Nat) (a : Int) (T : Int) (hs : 0 ≤ s) (hk : (Mz.1 (12, 0, 0) 11).toInt + ((m : Nat) : Int) = 5) (hm : m ≤ 5) (kf9_ : (M1_.1 (12, 0, 0) 11).toInt + ((m : Nat) : Int) = 5) (kf18_ : (M11_.1 (12, 0, 0) 11).toInt + ((m : Nat) : Int) = 5) (kf20_ : M11_.1 (12, 0, 0) 13 = 0) (kv0_51 : (M_51.1 (12, 0, 0) 11).toInt + ((m : Nat) : Int) = 5) (kf25_ : a ≤ (M_51.1 (12, 0, 0) 9).toInt) (kf25_ : a ≤ (M_51.1 (12, 0, 0) 9).toInt) (kf35_ : (M27_.1 (12, 0, 0) 11).toInt + ((m : Nat) : Int) = 5) (kf43_ : (M36_.1 (12, 0, 0) 11).toInt + ((m : Nat) : Int) = 5) (kf52_ : (M45_.1 (12, 0, 0) 11).toInt + ((m : Nat) : Int) = 5) (h53_ : PP M45_ (((s + 1) - 1) + 1) (D + 1) ((M_51.1 (12, 0, 0) 9).toInt + 1) T) (kf54_ : M45_.1 (12, 0, 0) 13 = 0) : (M_51.1 (12, 0, 0) 9).toInt + isX (2005 : Int32) ≤ ((M_51.1 (12, 0, 0) 9).toInt + 1) := by have h9 := isX_p (v := (2005 : Int32)) (by decide); omega
theorem lf_c_X12_term_11 : (2006 : Int32).toInt = 0 ∨ (2005 ≤ (2006 : Int32).toInt ∧ (2006 : Int32).toInt ≤ 2007) := by have q0 := li_2006; omega
theorem lf_c_X12_term_12 (M58_ : mM) (M_51 : mM) (s : Int) (D : Nat) (T : Int) (hs : 0 ≤ s) (h66_ : PP M58_ (((s + 1) - 1) + 1) (D + 1) ((M_51.1 (12, 0, 0) 9).toInt + 1) T) : (s + isX (2006 : Int32)) ≤ (((s + 1) - 1) + 1) := by have h9 := isX_p (v := (2006 : Int32)) (by decide); omega
theorem lf_c_X12_term_14 (M11_ : mM) (M1_ : mM) (M27_ : mM) (M36_ : mM) (M45_ : mM) (M58_ : mM) (M_51 : mM) (Mz : mM) (m : Nat) (s : Int) (D : Nat) (a : Int) (T : Int) (hs : 0 ≤ s) (hk : (Mz.1 (12, 0, 0) 11).toInt + ((m : Nat) : Int) = 5) (hm : m ≤ 5) (kf9_ : (M1_.1 (12, 0, 0) 11).toInt + ((m : Nat) : Int) = 5) (kf18_ : (M11_.1 (12, 0, 0) 11).toInt + ((m : Nat) : Int) = 5) (kf20_ : M11_.1 (12, 0, 0) 13 = 0) (kv0_51 : (M_51.1 (12, 0, 0) 11).toInt + ((m : Nat) : Int) = 5) (kf25_ : a ≤ (M_51.1 (12, 0, 0) 9).toInt) (kf25_ : a ≤ (M_51.1 (12, 0, 0) 9).toInt) (kf35_ : (M27_.1 (12, 0, 0) 11).toInt + ((m : Nat) : Int) = 5) (kf43_ : (M36_.1 (12, 0, 0) 11).toInt + ((m : Nat) : Int) = 5) (kf52_ : (M45_.1 (12, 0, 0) 11).toInt + ((m : Nat) : Int) = 5) (kf65_ : (M58_.1 (12, 0, 0) 11).toInt + ((m : Nat) : Int) = 5) (h66_ : PP M58_ (((s + 1) - 1) + 1) (D + 1) ((M_51.1 (12, 0, 0) 9).toInt + 1) T) (kf67_ : M58_.1 (12, 0, 0) 13 = 0) : (M_51.1 (12, 0, 0) 9).toInt + isX (2006 : Int32) ≤ ((M_51.1 (12, 0, 0) 9).toInt + 1) := by have h9 := isX_p (v := (2006 : Int32)) (by decide); omega
theorem lf_c_X12_term_16 : (2007 : Int32).toInt = 0 ∨ (2005 ≤ (2007 : Int32).toInt ∧ (2007 : Int32).toInt ≤ 2007) := by have q0 := li_2007; omega
theorem lf_c_X12_term_17 (M71_ : mM) (M_51 : mM) (s : Int) (D : Nat) (T : Int) (hs : 0 ≤ s) (h79_ : PP M71_ (((s + 1) - 1) + 1) (D + 1) ((M_51.1 (12, 0, 0) 9).toInt + 1) T) : (s + isX (2007 : Int32)) ≤ (((s + 1) - 1) + 1) := by have h9 := isX_p (v := (2007 : Int32)) (by decide); omega
theorem lf_c_X12_term_19 (M11_ : mM) (M1_ : mM) (M27_ : mM) (M36_ : mM) (M45_ : mM) (M58_ : mM) (M71_ : mM) (M_51 : mM) (Mz : mM) (m : Nat) (s : Int) (D : Nat) (a : Int) (T : Int) (hs : 0 ≤ s) (hk : (Mz.1 (12, 0, 0) 11).toInt + ((m : Nat) : Int) = 5) (hm : m ≤ 5) (kf9_ : (M1_.1 (12, 0, 0) 11).toInt + ((m : Nat) : Int) = 5) (kf18_ : (M11_.1 (12, 0, 0) 11).toInt + ((m : Nat) : Int) = 5) (kf20_ : M11_.1 (12, 0, 0) 13 = 0) (kv0_51 : (M_51.1 (12, 0, 0) 11).toInt + ((m : Nat) : Int) = 5) (kf25_ : a ≤ (M_51.1 (12, 0, 0) 9).toInt) (kf25_ : a ≤ (M_51.1 (12, 0, 0) 9).toInt) (kf35_ : (M27_.1 (12, 0, 0) 11).toInt + ((m : Nat) : Int) = 5) (kf43_ : (M36_.1 (12, 0, 0) 11).toInt + ((m : Nat) : Int) = 5) (kf52_ : (M45_.1 (12, 0, 0) 11).toInt + ((m : Nat) : Int) = 5) (kf65_ : (M58_.1 (12, 0, 0) 11).toInt + ((m : Nat) : Int) = 5) (kf78_ : (M71_.1 (12, 0, 0) 11).toInt + ((m : Nat) : Int) = 5) (h79_ : PP M71_ (((s + 1) - 1) + 1) (D + 1) ((M_51.1 (12, 0, 0) 9).toInt + 1) T) (kf80_ : M71_.1 (12, 0, 0) 13 = 0) : (M_51.1 (12, 0, 0) 9).toInt + isX (2007 : Int32) ≤ ((M_51.1 (12, 0, 0) 9).toInt + 1) := by have h9 := isX_p (v := (2007 : Int32)) (by decide); omega
theorem lf_c_X12_term_21 : (0 : Int32).toInt = 0 ∨ (2005 ≤ (0 : Int32).toInt ∧ (0 : Int32).toInt ≤ 2007) := by have q0 := li_0; omega
theorem lf_c_X12_term_22 (M71_ : mM) (M_51 : mM) (s : Int) (D : Nat) (T : Int) (hs : 0 ≤ s) (h73_ : PP M71_ ((s + 1) - 1) (D + 1) (M_51.1 (12, 0, 0) 9).toInt T) : (s + isX (0 : Int32)) ≤ ((s + 1) - 1) := by have h9 := isX_0 (v := (0 : Int32)) (by decide); omega
theorem lf_c_X12_term_23 (M_51 : mM) (a : Int) (kf25_ : a ≤ (M_51.1 (12, 0, 0) 9).toInt) (kf25_ : a ≤ (M_51.1 (12, 0, 0) 9).toInt) : a ≤ (M_51.1 (12, 0, 0) 9).toInt := by omega
theorem lf_c_X12_term_24 (M11_ : mM) (M1_ : mM) (M27_ : mM) (M36_ : mM) (M45_ : mM) (M58_ : mM) (M71_ : mM) (M_51 : mM) (Mz : mM) (m : Nat) (s : Int) (D : Nat) (a : Int) (T : Int) (hs : 0 ≤ s) (hk : (Mz.1 (12, 0, 0) 11).toInt + ((m : Nat) : Int) = 5) (hm : m ≤ 5) (kf9_ : (M1_.1 (12, 0, 0) 11).toInt + ((m : Nat) : Int) = 5) (kf18_ : (M11_.1 (12, 0, 0) 11).toInt + ((m : Nat) : Int) = 5) (kf20_ : M11_.1 (12, 0, 0) 13 = 0) (kv0_51 : (M_51.1 (12, 0, 0) 11).toInt + ((m : Nat) : Int) = 5) (kf25_ : a ≤ (M_51.1 (12, 0, 0) 9).toInt) (kf25_ : a ≤ (M_51.1 (12, 0, 0) 9).toInt) (kf35_ : (M27_.1 (12, 0, 0) 11).toInt + ((m : Nat) : Int) = 5) (kf43_ : (M36_.1 (12, 0, 0) 11).toInt + ((m : Nat) : Int) = 5) (kf52_ : (M45_.1 (12, 0, 0) 11).toInt + ((m : Nat) : Int) = 5) (kf65_ : (M58_.1 (12, 0, 0) 11).toInt + ((m : Nat) : Int) = 5) (kf78_ : (M71_.1 (12, 0, 0) 11).toInt + ((m : Nat) : Int) = 5) (h73_ : PP M71_ ((s + 1) - 1) (D + 1) (M_51.1 (12, 0, 0) 9).toInt T) : (M_51.1 (12, 0, 0) 9).toInt + isX (0 : Int32) ≤ (M_51.1 (12, 0, 0) 9).toInt := by have h9 := isX_0 (v := (0 : Int32)) (by decide); omega
theorem lf_c_X12_term_27 (M11_ : mM) (s : Int) (D : Nat) (a : Int) (T : Int) (hs : 0 ≤ s) (h19_ : PP M11_ (s + 1) (D + 1) (a + 1) T) : (s + isX (2005 : Int32)) ≤ (s + 1) := by have h9 := isX_p (v := (2005 : Int32)) (by decide); omega
theorem lf_c_X12_term_38 (M101_ : mM) (M110_ : mM) (M119_ : mM) (M11_ : mM) (M1_ : mM) (M85_ : mM) (M_51 : mM) (Mz : mM) (m : Nat) (s : Int) (D : Nat) (a : Int) (T : Int) (hs : 0 ≤ s) (hk : (Mz.1 (12, 0, 0) 11).toInt + ((m : Nat) : Int) = 5) (hm : m ≤ 5) (kf9_ : (M1_.1 (12, 0, 0) 11).toInt + ((m : Nat) : Int) = 5) (kf18_ : (M11_.1 (12, 0, 0) 11).toInt + ((m : Nat) : Int) = 5) (kf92_ : (M85_.1 (12, 0, 0) 11).toInt + ((m : Nat) : Int) = 5) (kf94_ : M85_.1 (12, 0, 0) 13 = 0) (kv0_51 : (M_51.1 (12, 0, 0) 11).toInt + ((m : Nat) : Int) = 5) (kf99_ : a ≤ (M_51.1 (12, 0, 0) 9).toInt) (kf99_ : a ≤ (M_51.1 (12, 0, 0) 9).toInt) (kf109_ : (M101_.1 (12, 0, 0) 11).toInt + ((m : Nat) : Int) = 5) (kf117_ : (M110_.1 (12, 0, 0) 11).toInt + ((m : Nat) : Int) = 5) (kf126_ : (M119_.1 (12, 0, 0) 11).toInt + ((m : Nat) : Int) = 5) (h127_ : PP M119_ (((s + 1) - 1) + 1) (D + 1) ((M_51.1 (12, 0, 0) 9).toInt + 1) T) (kf128_ : M119_.1 (12, 0, 0) 13 = 0) : (M_51.1 (12, 0, 0) 9).toInt + isX (2005 : Int32) ≤ ((M_51.1 (12, 0, 0) 9).toInt + 1) := by have h9 := isX_p (v := (2005 : Int32)) (by decide); omega
theorem lf_c_X12_term_43 (M101_ : mM) (M110_ : mM) (M119_ : mM) (M11_ : mM) (M132_ : mM) (M1_ : mM) (M85_ : mM) (M_51 : mM) (Mz : mM) (m : Nat) (s : Int) (D : Nat) (a : Int) (T : Int) (hs : 0 ≤ s) (hk : (Mz.1 (12, 0, 0) 11).toInt + ((m : Nat) : Int) = 5) (hm : m ≤ 5) (kf9_ : (M1_.1 (12, 0, 0) 11).toInt + ((m : Nat) : Int) = 5) (kf18_ : (M11_.1 (12, 0, 0) 11).toInt + ((m : Nat) : Int) = 5) (kf92_ : (M85_.1 (12, 0, 0) 11).toInt + ((m : Nat) : Int) = 5) (kf94_ : M85_.1 (12, 0, 0) 13 = 0) (kv0_51 : (M_51.1 (12, 0, 0) 11).toInt + ((m : Nat) : Int) = 5) (kf99_ : a ≤ (M_51.1 (12, 0, 0) 9).toInt) (kf99_ : a ≤ (M_51.1 (12, 0, 0) 9).toInt) (kf109_ : (M101_.1 (12, 0, 0) 11).toInt + ((m : Nat) : Int) = 5) (kf117_ : (M110_.1 (12, 0, 0) 11).toInt + ((m : Nat) : Int) = 5) (kf126_ : (M119_.1 (12, 0, 0) 11).toInt + ((m : Nat) : Int) = 5) (kf139_ : (M132_.1 (12, 0, 0) 11).toInt + ((m : Nat) : Int) = 5) (h140_ : PP M132_ (((s + 1) - 1) + 1) (D + 1) ((M_51.1 (12, 0, 0) 9).toInt + 1) T) (kf141_ : M132_.1 (12, 0, 0) 13 = 0) : (M_51.1 (12, 0, 0) 9).toInt + isX (2006 : Int32) ≤ ((M_51.1 (12, 0, 0) 9).toInt + 1) := by have h9 := isX_p (v := (2006 : Int32)) (by decide); omega
theorem lf_c_X12_term_48 (M101_ : mM) (M110_ : mM) (M119_ : mM) (M11_ : mM) (M132_ : mM) (M145_ : mM) (M1_ : mM) (M85_ : mM) (M_51 : mM) (Mz : mM) (m : Nat) (s : Int) (D : Nat) (a : Int) (T : Int) (hs : 0 ≤ s) (hk : (Mz.1 (12, 0, 0) 11).toInt + ((m : Nat) : Int) = 5) (hm : m ≤ 5) (kf9_ : (M1_.1 (12, 0, 0) 11).toInt + ((m : Nat) : Int) = 5) (kf18_ : (M11_.1 (12, 0, 0) 11).toInt + ((m : Nat) : Int) = 5) (kf92_ : (M85_.1 (12, 0, 0) 11).toInt + ((m : Nat) : Int) = 5) (kf94_ : M85_.1 (12, 0, 0) 13 = 0) (kv0_51 : (M_51.1 (12, 0, 0) 11).toInt + ((m : Nat) : Int) = 5) (kf99_ : a ≤ (M_51.1 (12, 0, 0) 9).toInt) (kf99_ : a ≤ (M_51.1 (12, 0, 0) 9).toInt) (kf109_ : (M101_.1 (12, 0, 0) 11).toInt + ((m : Nat) : Int) = 5) (kf117_ : (M110_.1 (12, 0, 0) 11).toInt + ((m : Nat) : Int) = 5) (kf126_ : (M119_.1 (12, 0, 0) 11).toInt + ((m : Nat) : Int) = 5) (kf139_ : (M132_.1 (12, 0, 0) 11).toInt + ((m : Nat) : Int) = 5) (kf152_ : (M145_.1 (12, 0, 0) 11).toInt + ((m : Nat) : Int) = 5) (h153_ : PP M145_ (((s + 1) - 1) + 1) (D + 1) ((M_51.1 (12, 0, 0) 9).toInt + 1) T) (kf154_ : M145_.1 (12, 0, 0) 13 = 0) : (M_51.1 (12, 0, 0) 9).toInt + isX (2007 : Int32) ≤ ((M_51.1 (12, 0, 0) 9).toInt + 1) := by have h9 := isX_p (v := (2007 : Int32)) (by decide); omega
theorem lf_c_X12_term_53 (M101_ : mM) (M110_ : mM) (M119_ : mM) (M11_ : mM) (M132_ : mM) (M145_ : mM) (M1_ : mM) (M85_ : mM) (M_51 : mM) (Mz : mM) (m : Nat) (s : Int) (D : Nat) (a : Int) (T : Int) (hs : 0 ≤ s) (hk : (Mz.1 (12, 0, 0) 11).toInt + ((m : Nat) : Int) = 5) (hm : m ≤ 5) (kf9_ : (M1_.1 (12, 0, 0) 11).toInt + ((m : Nat) : Int) = 5) (kf18_ : (M11_.1 (12, 0, 0) 11).toInt + ((m : Nat) : Int) = 5) (kf92_ : (M85_.1 (12, 0, 0) 11).toInt + ((m : Nat) : Int) = 5) (kf94_ : M85_.1 (12, 0, 0) 13 = 0) (kv0_51 : (M_51.1 (12, 0, 0) 11).toInt + ((m : Nat) : Int) = 5) (kf99_ : a ≤ (M_51.1 (12, 0, 0) 9).toInt) (kf99_ : a ≤ (M_51.1 (12, 0, 0) 9).toInt) (kf109_ : (M101_.1 (12, 0, 0) 11).toInt + ((m : Nat) : Int) = 5) (kf117_ : (M110_.1 (12, 0, 0) 11).toInt + ((m : Nat) : Int) = 5) (kf126_ : (M119_.1 (12, 0, 0) 11).toInt + ((m : Nat) : Int) = 5) (kf139_ : (M132_.1 (12, 0, 0) 11).toInt + ((m : Nat) : Int) = 5) (kf152_ : (M145_.1 (12, 0, 0) 11).toInt + ((m : Nat) : Int) = 5) (h147_ : PP M145_ ((s + 1) - 1) (D + 1) (M_51.1 (12, 0, 0) 9).toInt T) : (M_51.1 (12, 0, 0) 9).toInt + isX (0 : Int32) ≤ (M_51.1 (12, 0, 0) 9).toInt := by have h9 := isX_0 (v := (0 : Int32)) (by decide); omega
theorem lf_c_X12_term_56 (M85_ : mM) (s : Int) (D : Nat) (a : Int) (T : Int) (hs : 0 ≤ s) (h93_ : PP M85_ (s + 1) (D + 1) (a + 1) T) : (s + isX (2006 : Int32)) ≤ (s + 1) := by have h9 := isX_p (v := (2006 : Int32)) (by decide); omega
theorem lf_c_X12_term_67 (M11_ : mM) (M159_ : mM) (M175_ : mM) (M184_ : mM) (M193_ : mM) (M1_ : mM) (M85_ : mM) (M_51 : mM) (Mz : mM) (m : Nat) (s : Int) (D : Nat) (a : Int) (T : Int) (hs : 0 ≤ s) (hk : (Mz.1 (12, 0, 0) 11).toInt + ((m : Nat) : Int) = 5) (hm : m ≤ 5) (kf9_ : (M1_.1 (12, 0, 0) 11).toInt + ((m : Nat) : Int) = 5) (kf18_ : (M11_.1 (12, 0, 0) 11).toInt + ((m : Nat) : Int) = 5) (kf92_ : (M85_.1 (12, 0, 0) 11).toInt + ((m : Nat) : Int) = 5) (kf166_ : (M159_.1 (12, 0, 0) 11).toInt + ((m : Nat) : Int) = 5) (kf168_ : M159_.1 (12, 0, 0) 13 = 0) (kv0_51 : (M_51.1 (12, 0, 0) 11).toInt + ((m : Nat) : Int) = 5) (kf173_ : a ≤ (M_51.1 (12, 0, 0) 9).toInt) (kf173_ : a ≤ (M_51.1 (12, 0, 0) 9).toInt) (kf183_ : (M175_.1 (12, 0, 0) 11).toInt + ((m : Nat) : Int) = 5) (kf191_ : (M184_.1 (12, 0, 0) 11).toInt + ((m : Nat) : Int) = 5) (kf200_ : (M193_.1 (12, 0, 0) 11).toInt + ((m : Nat) : Int) = 5) (h201_ : PP M193_ (((s + 1) - 1) + 1) (D + 1) ((M_51.1 (12, 0, 0) 9).toInt + 1) T) (kf202_ : M193_.1 (12, 0, 0) 13 = 0) : (M_51.1 (12, 0, 0) 9).toInt + isX (2005 : Int32) ≤ ((M_51.1 (12, 0, 0) 9).toInt + 1) := by have h9 := isX_p (v := (2005 : Int32)) (by decide); omega
theorem lf_c_X12_term_72 (M11_ : mM) (M159_ : mM) (M175_ : mM) (M184_ : mM) (M193_ : mM) (M1_ : mM) (M206_ : mM) (M85_ : mM) (M_51 : mM) (Mz : mM) (m : Nat) (s : Int) (D : Nat) (a : Int) (T : Int) (hs : 0 ≤ s) (hk : (Mz.1 (12, 0, 0) 11).toInt + ((m : Nat) : Int) = 5) (hm : m ≤ 5) (kf9_ : (M1_.1 (12, 0, 0) 11).toInt + ((m : Nat) : Int) = 5) (kf18_ : (M11_.1 (12, 0, 0) 11).toInt + ((m : Nat) : Int) = 5) (kf92_ : (M85_.1 (12, 0, 0) 11).toInt + ((m : Nat) : Int) = 5) (kf166_ : (M159_.1 (12, 0, 0) 11).toInt + ((m : Nat) : Int) = 5) (kf168_ : M159_.1 (12, 0, 0) 13 = 0) (kv0_51 : (M_51.1 (12, 0, 0) 11).toInt + ((m : Nat) : Int) = 5) (kf173_ : a ≤ (M_51.1 (12, 0, 0) 9).toInt) (kf173_ : a ≤ (M_51.1 (12, 0, 0) 9).toInt) (kf183_ : (M175_.1 (12, 0, 0) 11).toInt + ((m : Nat) : Int) = 5) (kf191_ : (M184_.1 (12, 0, 0) 11).toInt + ((m : Nat) : Int) = 5) (kf200_ : (M193_.1 (12, 0, 0) 11).toInt + ((m : Nat) : Int) = 5) (kf213_ : (M206_.1 (12, 0, 0) 11).toInt + ((m : Nat) : Int) = 5) (h214_ : PP M206_ (((s + 1) - 1) + 1) (D + 1) ((M_51.1 (12, 0, 0) 9).toInt + 1) T) (kf215_ : M206_.1 (12, 0, 0) 13 = 0) : (M_51.1 (12, 0, 0) 9).toInt + isX (2006 : Int32) ≤ ((M_51.1 (12, 0, 0) 9).toInt + 1) := by have h9 := isX_p (v := (2006 : Int32)) (by decide); omega
theorem lf_c_X12_term_77 (M11_ : mM) (M159_ : mM) (M175_ : mM) (M184_ : mM) (M193_ : mM) (M1_ : mM) (M206_ : mM) (M219_ : mM) (M85_ : mM) (M_51 : mM) (Mz : mM) (m : Nat) (s : Int) (D : Nat) (a : Int) (T : Int) (hs : 0 ≤ s) (hk : (Mz.1 (12, 0, 0) 11).toInt + ((m : Nat) : Int) = 5) (hm : m ≤ 5) (kf9_ : (M1_.1 (12, 0, 0) 11).toInt + ((m : Nat) : Int) = 5) (kf18_ : (M11_.1 (12, 0, 0) 11).toInt + ((m : Nat) : Int) = 5) (kf92_ : (M85_.1 (12, 0, 0) 11).toInt + ((m : Nat) : Int) = 5) (kf166_ : (M159_.1 (12, 0, 0) 11).toInt + ((m : Nat) : Int) = 5) (kf168_ : M159_.1 (12, 0, 0) 13 = 0) (kv0_51 : (M_51.1 (12, 0, 0) 11).toInt + ((m : Nat) : Int) = 5) (kf173_ : a ≤ (M_51.1 (12, 0, 0) 9).toInt) (kf173_ : a ≤ (M_51.1 (12, 0, 0) 9).toInt) (kf183_ : (M175_.1 (12, 0, 0) 11).toInt + ((m : Nat) : Int) = 5) (kf191_ : (M184_.1 (12, 0, 0) 11).toInt + ((m : Nat) : Int) = 5) (kf200_ : (M193_.1 (12, 0, 0) 11).toInt + ((m : Nat) : Int) = 5) (kf213_ : (M206_.1 (12, 0, 0) 11).toInt + ((m : Nat) : Int) = 5) (kf226_ : (M219_.1 (12, 0, 0) 11).toInt + ((m : Nat) : Int) = 5) (h227_ : PP M219_ (((s + 1) - 1) + 1) (D + 1) ((M_51.1 (12, 0, 0) 9).toInt + 1) T) (kf228_ : M219_.1 (12, 0, 0) 13 = 0) : (M_51.1 (12, 0, 0) 9).toInt + isX (2007 : Int32) ≤ ((M_51.1 (12, 0, 0) 9).toInt + 1) := by have h9 := isX_p (v := (2007 : Int32)) (by decide); omega
theorem lf_c_X12_term_82 (M11_ : mM) (M159_ : mM) (M175_ : mM) (M184_ : mM) (M193_ : mM) (M1_ : mM) (M206_ : mM) (M219_ : mM) (M85_ : mM) (M_51 : mM) (Mz : mM) (m : Nat) (s : Int) (D : Nat) (a : Int) (T : Int) (hs : 0 ≤ s) (hk : (Mz.1 (12, 0, 0) 11).toInt + ((m : Nat) : Int) = 5) (hm : m ≤ 5) (kf9_ : (M1_.1 (12, 0, 0) 11).toInt + ((m : Nat) : Int) = 5) (kf18_ : (M11_.1 (12, 0, 0) 11).toInt + ((m : Nat) : Int) = 5) (kf92_ : (M85_.1 (12, 0, 0) 11).toInt + ((m : Nat) : Int) = 5) (kf166_ : (M159_.1 (12, 0, 0) 11).toInt + ((m : Nat) : Int) = 5) (kf168_ : M159_.1 (12, 0, 0) 13 = 0) (kv0_51 : (M_51.1 (12, 0, 0) 11).toInt + ((m : Nat) : Int) = 5) (kf173_ : a ≤ (M_51.1 (12, 0, 0) 9).toInt) (kf173_ : a ≤ (M_51.1 (12, 0, 0) 9).toInt) (kf183_ : (M175_.1 (12, 0, 0) 11).toInt + ((m : Nat) : Int) = 5) (kf191_ : (M184_.1 (12, 0, 0) 11).toInt + ((m : Nat) : Int) = 5) (kf200_ : (M193_.1 (12, 0, 0) 11).toInt + ((m : Nat) : Int) = 5) (kf213_ : (M206_.1 (12, 0, 0) 11).toInt + ((m : Nat) : Int) = 5) (kf226_ : (M219_.1 (12, 0, 0) 11).toInt + ((m : Nat) : Int) = 5) (h221_ : PP M219_ ((s + 1) - 1) (D + 1) (M_51.1 (12, 0, 0) 9).toInt T) : (M_51.1 (12, 0, 0) 9).toInt + isX (0 : Int32) ≤ (M_51.1 (12, 0, 0) 9).toInt := by have h9 := isX_0 (v := (0 : Int32)) (by decide); omega
theorem lf_c_X12_term_85 (M159_ : mM) (s : Int) (D : Nat) (a : Int) (T : Int) (hs : 0 ≤ s) (h167_ : PP M159_ (s + 1) (D + 1) (a + 1) T) : (s + isX (2007 : Int32)) ≤ (s + 1) := by have h9 := isX_p (v := (2007 : Int32)) (by decide); omega
theorem lf_c_X12_term_96 (M11_ : mM) (M159_ : mM) (M1_ : mM) (M237_ : mM) (M246_ : mM) (M255_ : mM) (M85_ : mM) (M_51 : mM) (Mz : mM) (m : Nat) (s : Int) (D : Nat) (a : Int) (T : Int) (hs : 0 ≤ s) (hk : (Mz.1 (12, 0, 0) 11).toInt + ((m : Nat) : Int) = 5) (hm : m ≤ 5) (kf9_ : (M1_.1 (12, 0, 0) 11).toInt + ((m : Nat) : Int) = 5) (kf18_ : (M11_.1 (12, 0, 0) 11).toInt + ((m : Nat) : Int) = 5) (kf92_ : (M85_.1 (12, 0, 0) 11).toInt + ((m : Nat) : Int) = 5) (kf166_ : (M159_.1 (12, 0, 0) 11).toInt + ((m : Nat) : Int) = 5) (kv0_51 : (M_51.1 (12, 0, 0) 11).toInt + ((m : Nat) : Int) = 5) (kf235_ : a ≤ (M_51.1 (12, 0, 0) 9).toInt) (kf235_ : a ≤ (M_51.1 (12, 0, 0) 9).toInt) (kf245_ : (M237_.1 (12, 0, 0) 11).toInt + ((m : Nat) : Int) = 5) (kf253_ : (M246_.1 (12, 0, 0) 11).toInt + ((m : Nat) : Int) = 5) (kf262_ : (M255_.1 (12, 0, 0) 11).toInt + ((m : Nat) : Int) = 5) (h263_ : PP M255_ (((s + 1) - 1) + 1) (D + 1) ((M_51.1 (12, 0, 0) 9).toInt + 1) T) (kf264_ : M255_.1 (12, 0, 0) 13 = 0) : (M_51.1 (12, 0, 0) 9).toInt + isX (2005 : Int32) ≤ ((M_51.1 (12, 0, 0) 9).toInt + 1) := by have h9 := isX_p (v := (2005 : Int32)) (by decide); omega
theorem lf_c_X12_term_101 (M11_ : mM) (M159_ : mM) (M1_ : mM) (M237_ : mM) (M246_ : mM) (M255_ : mM) (M268_ : mM) (M85_ : mM) (M_51 : mM) (Mz : mM) (m : Nat) (s : Int) (D : Nat) (a : Int) (T : Int) (hs : 0 ≤ s) (hk : (Mz.1 (12, 0, 0) 11).toInt + ((m : Nat) : Int) = 5) (hm : m ≤ 5) (kf9_ : (M1_.1 (12, 0, 0) 11).toInt + ((m : Nat) : Int) = 5) (kf18_ : (M11_.1 (12, 0, 0) 11).toInt + ((m : Nat) : Int) = 5) (kf92_ : (M85_.1 (12, 0, 0) 11).toInt + ((m : Nat) : Int) = 5) (kf166_ : (M159_.1 (12, 0, 0) 11).toInt + ((m : Nat) : Int) = 5) (kv0_51 : (M_51.1 (12, 0, 0) 11).toInt + ((m : Nat) : Int) = 5) (kf235_ : a ≤ (M_51.1 (12, 0, 0) 9).toInt) (kf235_ : a ≤ (M_51.1 (12, 0, 0) 9).toInt) (kf245_ : (M237_.1 (12, 0, 0) 11).toInt + ((m : Nat) : Int) = 5) (kf253_ : (M246_.1 (12, 0, 0) 11).toInt + ((m : Nat) : Int) = 5) (kf262_ : (M255_.1 (12, 0, 0) 11).toInt + ((m : Nat) : Int) = 5) (kf275_ : (M268_.1 (12, 0, 0) 11).toInt + ((m : Nat) : Int) = 5) (h276_ : PP M268_ (((s + 1) - 1) + 1) (D + 1) ((M_51.1 (12, 0, 0) 9).toInt + 1) T) (kf277_ : M268_.1 (12, 0, 0) 13 = 0) : (M_51.1 (12, 0, 0) 9).toInt + isX (2006 : Int32) ≤ ((M_51.1 (12, 0, 0) 9).toInt + 1) := by have h9 := isX_p (v := (2006 : Int32)) (by decide); omega
theorem lf_c_X12_term_106 (M11_ : mM) (M159_ : mM) (M1_ : mM) (M237_ : mM) (M246_ : mM) (M255_ : mM) (M268_ : mM) (M281_ : mM) (M85_ : mM) (M_51 : mM) (Mz : mM) (m : Nat) (s : Int) (D : Nat) (a : Int) (T : Int) (hs : 0 ≤ s) (hk : (Mz.1 (12, 0, 0) 11).toInt + ((m : Nat) : Int) = 5) (hm : m ≤ 5) (kf9_ : (M1_.1 (12, 0, 0) 11).toInt + ((m : Nat) : Int) = 5) (kf18_ : (M11_.1 (12, 0, 0) 11).toInt + ((m : Nat) : Int) = 5) (kf92_ : (M85_.1 (12, 0, 0) 11).toInt + ((m : Nat) : Int) = 5) (kf166_ : (M159_.1 (12, 0, 0) 11).toInt + ((m : Nat) : Int) = 5) (kv0_51 : (M_51.1 (12, 0, 0) 11).toInt + ((m : Nat) : Int) = 5) (kf235_ : a ≤ (M_51.1 (12, 0, 0) 9).toInt) (kf235_ : a ≤ (M_51.1 (12, 0, 0) 9).toInt) (kf245_ : (M237_.1 (12, 0, 0) 11).toInt + ((m : Nat) : Int) = 5) (kf253_ : (M246_.1 (12, 0, 0) 11).toInt + ((m : Nat) : Int) = 5) (kf262_ : (M255_.1 (12, 0, 0) 11).toInt + ((m : Nat) : Int) = 5) (kf275_ : (M268_.1 (12, 0, 0) 11).toInt + ((m : Nat) : Int) = 5) (kf288_ : (M281_.1 (12, 0, 0) 11).toInt + ((m : Nat) : Int) = 5) (h289_ : PP M281_ (((s + 1) - 1) + 1) (D + 1) ((M_51.1 (12, 0, 0) 9).toInt + 1) T) (kf290_ : M281_.1 (12, 0, 0) 13 = 0) : (M_51.1 (12, 0, 0) 9).toInt + isX (2007 : Int32) ≤ ((M_51.1 (12, 0, 0) 9).toInt + 1) := by have h9 := isX_p (v := (2007 : Int32)) (by decide); omega
theorem lf_c_X12_term_111 (M11_ : mM) (M159_ : mM) (M1_ : mM) (M237_ : mM) (M246_ : mM) (M255_ : mM) (M268_ : mM) (M281_ : mM) (M85_ : mM) (M_51 : mM) (Mz : mM) (m : Nat) (s : Int) (D : Nat) (a : Int) (T : Int) (hs : 0 ≤ s) (hk : (Mz.1 (12, 0, 0) 11).toInt + ((m : Nat) : Int) = 5) (hm : m ≤ 5) (kf9_ : (M1_.1 (12, 0, 0) 11).toInt + ((m : Nat) : Int) = 5) (kf18_ : (M11_.1 (12, 0, 0) 11).toInt + ((m : Nat) : Int) = 5) (kf92_ : (M85_.1 (12, 0, 0) 11).toInt + ((m : Nat) : Int) = 5) (kf166_ : (M159_.1 (12, 0, 0) 11).toInt + ((m : Nat) : Int) = 5) (kv0_51 : (M_51.1 (12, 0, 0) 11).toInt + ((m : Nat) : Int) = 5) (kf235_ : a ≤ (M_51.1 (12, 0, 0) 9).toInt) (kf235_ : a ≤ (M_51.1 (12, 0, 0) 9).toInt) (kf245_ : (M237_.1 (12, 0, 0) 11).toInt + ((m : Nat) : Int) = 5) (kf253_ : (M246_.1 (12, 0, 0) 11).toInt + ((m : Nat) : Int) = 5) (kf262_ : (M255_.1 (12, 0, 0) 11).toInt + ((m : Nat) : Int) = 5) (kf275_ : (M268_.1 (12, 0, 0) 11).toInt + ((m : Nat) : Int) = 5) (kf288_ : (M281_.1 (12, 0, 0) 11).toInt + ((m : Nat) : Int) = 5) (h283_ : PP M281_ ((s + 1) - 1) (D + 1) (M_51.1 (12, 0, 0) 9).toInt T) : (M_51.1 (12, 0, 0) 9).toInt + isX (0 : Int32) ≤ (M_51.1 (12, 0, 0) 9).toInt := by have h9 := isX_0 (v := (0 : Int32)) (by decide); omega
theorem lf_c_X12_term_114 (M159_ : mM) (s : Int) (D : Nat) (a : Int) (T : Int) (hs : 0 ≤ s) (h161_ : PP M159_ s (D + 1) a T) : (s + isX (0 : Int32)) ≤ s := by have h9 := isX_0 (v := (0 : Int32)) (by decide); omega
set_option maxHeartbeats 4000000 in
set_option maxRecDepth 100000 in
theorem c_X12_term (l : Launch) (G : va_G) (cy : Nat → ClassId) (ad : rf → Nat) (d : Nat) (N : Nat) (m : Nat) (QA : mM → mM → Prop) (QB : mM → mM → Prop) (s : Int) (D : Nat) (a : Int) (T : Int) (Mz : mM) (hIz : InvD Mz) (hA : ∀ k : Nat, k + 1 = m → ONED l G cy ad N k QA) (hB : ∀ k : Nat, k + 1 = m → TXTD l G cy ad N k QB) (hp : PP Mz s D a T) (hs : 0 ≤ s) (hk : (Mz.1 (12, 0, 0) 11).toInt + ((m : Nat) : Int) = 5) (hm : m ≤ 5) : WP DD l G cy ad yX12_term cX12_term 2 none ((N + d) + 10) 0 [(0, vR (12, 0, 0))] [] Mz (fun r M' => InvD M' ∧ FR (S_par) Mz M' ∧ (PP M' s (D + 1) a T ∧ (M'.1 (12, 0, 0) 11).toInt + ((m : Nat) : Int) = 5) ∧ SP_X12_term N m QA QB s D a T Mz M') := by
  have hFz : FR (S_par) Mz Mz := FR.self
  refine w_aload_n dX12_term_0 rfl 0 rfl ?_
  refine w_callVv (as := []) (rest := []) (c_X12_one l G cy ad d N m QA QB s D a T Mz hIz hA hB hp hs hk hm) kV_X12_one pnn_17 (Nat.le_of_ble_eq_true rfl) m_1571 rfl rfl rfl ic_12 rfl rfl (by decide) (Nat.le_of_ble_eq_true rfl) dX12_term_1 (fun M1_ q2_ => ?_)
  obtain ⟨hI4_, hF5_, h3_, hs7_⟩ := q2_
  have hF6_ := hFz.tr hF5_ (fun c k => (fun h => h.elim (fun h => (Or.inl ⟨h.1, h.2.1, h.2.2⟩)) (fun h => h.elim (fun h => (Or.inr (Or.inl ⟨h.1, h.2.1, h.2.2⟩))) (fun h => h.elim (fun h => (Or.inr (Or.inr (Or.inl ⟨h.1, h.2.1, h.2.2⟩)))) (fun h => h.elim (fun h => (Or.inr (Or.inr (Or.inr (Or.inl ⟨h.1, h.2.1, h.2.2⟩))))) (fun h => h.elim (fun h => (Or.inr (Or.inr (Or.inr (Or.inr (Or.inl ⟨h.1, h.2.1, h.2.2⟩)))))) (fun h => h.elim (fun h => (Or.inr (Or.inr (Or.inr (Or.inr (Or.inr (Or.inl ⟨h.1, h.2⟩))))))) (fun h => h.elim))))))))
  have h8_ : PP M1_ s (D + 1) a T := h3_.1
  have kf9_ : (M1_.1 (12, 0, 0) 11).toInt + ((m : Nat) : Int) = 5 := h3_.2
  refine w_aload_n dX12_term_4 rfl 0 rfl ?_
  refine w_bipush (v := 42) dX12_term_5 (by decide) ?_
  refine w_callV (as := [vI 42]) (rest := []) (c_X12_takes l G cy ad ((N + d) + 8) 42 s (D + 1) a T M1_ hI4_ h8_ (by first | decide | (unfold vF; omega) | (unfold vRw; omega))) kV_X12_takes pnn_17 (Nat.le_of_ble_eq_true rfl) m_1591 rfl rfl rfl ic_12 rfl rfl (by decide) (Nat.le_of_ble_eq_true rfl) dX12_term_7 (fun r10_ M11_ q12_ => ?_)
  obtain ⟨hI14_, hF15_, h13_, hs17_⟩ := q12_
  have hF16_ := hF6_.tr hF15_ (fun c k => (fun h => h.elim (fun h => (Or.inl ⟨h.1, h.2.1, h.2.2⟩)) (fun h => h.elim)))
  have kf18_ : (M11_.1 (12, 0, 0) 11).toInt + ((m : Nat) : Int) = 5 := by rw [(hF15_ (12, 0, 0) 11 (by simp [S_here]))]; exact kf9_
  rcases h13_ with ⟨rfl, h13_⟩ | ⟨rfl, h13_⟩
  · have h19_ : PP M11_ (s + 1) (D + 1) (a + 1) T := h13_.1
    have kf20_ : M11_.1 (12, 0, 0) 13 = 0 := h13_.2
    refine w_if_eq (tgt := 19) dX12_term_10 (by decide) li_1 (fun h9 => (absurd h9 (by decide))) (fun h21_ => ?_)
    refine w_sipush (v := 2005) dX12_term_13 (by decide) ?_
    refine w_goto (tgt := 50) dX12_term_16 (by decide) ?_
    refine w_istore_n (ls' := [(1, vI 2005), (0, vR (12, 0, 0))]) dX12_term_50 rfl (by decide) rfl ?_
    have lp22_ : ∀ (nn_51 : Nat) (M_51 : mM) (hI_51 : InvD M_51) (hF_51 : FR (S_par) Mz M_51) (v1_51 : Int32) (hv0_51 : v1_51.toInt = 0 ∨ (2005 ≤ v1_51.toInt ∧ v1_51.toInt ≤ 2007)) (hv1_51 : PP M_51 (s + isX v1_51) (D + 1) a T) (kv0_51 : (M_51.1 (12, 0, 0) 11).toInt + ((m : Nat) : Int) = 5) (hL_51 : RCH (fun x_ y_ => ST_X12_term_51 N m QA QB s D T Mz x_.1 x_.2 y_.1 y_.2) ((2005 : Int32), M11_) (v1_51, M_51)), (2 * (T - (M_51.1 (12, 0, 0) 9).toInt) + isX v1_51).toNat < nn_51 → WP DD l G cy ad yX12_term cX12_term 2 none ((N + d) + 10) 51 [(1, vI v1_51), (0, vR (12, 0, 0))] [] M_51 (fun r M' => InvD M' ∧ FR (S_par) Mz M' ∧ (PP M' s (D + 1) a T ∧ (M'.1 (12, 0, 0) 11).toInt + ((m : Nat) : Int) = 5) ∧ SP_X12_term N m QA QB s D a T Mz M') := by
      intro nn_51
      induction nn_51 with
      | zero => intro M_51 hI_51 hF_51 v1_51 hv0_51 hv1_51 kv0_51 hL_51 hm_51; exact absurd hm_51 (Nat.not_lt_zero _)
      | succ nn_51 ih_51 =>
        intro M_51 hI_51 hF_51 v1_51 hv0_51 hv1_51 kv0_51 hL_51 hm_51
        have h23_ : 0 ≤ isX v1_51 ∧ isX v1_51 ≤ 1 := isX_b v1_51
        refine w_iload_n dX12_term_51 rfl 0 rfl ?_
        refine w_if_le (tgt := 114) dX12_term_52 (by decide) (rfl : v1_51.toInt = v1_51.toInt) (fun h24_ => ?_) (fun h24_ => ?_)
        · exact w_vret rfl dX12_term_114 ⟨hI_51, hF_51, ⟨PP_mono hv1_51 (lf_c_X12_term_0 M_51 s D a T v1_51 hs hv0_51 hv1_51 h23_ h24_ ) (lf_c_X12_opens_41 a ), kv0_51⟩, ⟨M1_, hI4_, hF5_, hs7_, M11_, hI14_, hF15_, (Or.inl ⟨hs17_, v1_51, hv0_51, M_51, hL_51, hI_51, hF_51, hv1_51, h23_, h24_, rfl⟩)⟩⟩
        · have kf25_ : a ≤ (M_51.1 (12, 0, 0) 9).toInt := hv1_51.2.1
          have h26_ : PP M_51 (s + 1) (D + 1) (M_51.1 (12, 0, 0) 9).toInt T := PP_self (PP_mono hv1_51 (by rw [isX_p (lf_c_X12_term_2 v1_51 h24_ )]; exact Int.le_refl _) (Int.le_refl _))
          refine w_aload_n dX12_term_55 rfl 1 rfl ?_
          refine w_callVv (as := []) (rest := []) (c_X12_one l G cy ad d N m QA QB (s + 1) (D + 1) ((M_51.1 (12, 0, 0) 9).toInt) T M_51 hI_51 hA hB h26_ (lf_c_X12_opens_8 s hs ) kv0_51 hm) kV_X12_one pnn_17 (Nat.le_of_ble_eq_true rfl) m_1571 rfl rfl rfl ic_12 rfl rfl (by decide) (Nat.le_of_ble_eq_true rfl) dX12_term_56 (fun M27_ q28_ => ?_)
          obtain ⟨hI30_, hF31_, h29_, hs33_⟩ := q28_
          have hF32_ := hF_51.tr hF31_ (fun c k => (fun h => h.elim (fun h => (Or.inl ⟨h.1, h.2.1, h.2.2⟩)) (fun h => h.elim (fun h => (Or.inr (Or.inl ⟨h.1, h.2.1, h.2.2⟩))) (fun h => h.elim (fun h => (Or.inr (Or.inr (Or.inl ⟨h.1, h.2.1, h.2.2⟩)))) (fun h => h.elim (fun h => (Or.inr (Or.inr (Or.inr (Or.inl ⟨h.1, h.2.1, h.2.2⟩))))) (fun h => h.elim (fun h => (Or.inr (Or.inr (Or.inr (Or.inr (Or.inl ⟨h.1, h.2.1, h.2.2⟩)))))) (fun h => h.elim (fun h => (Or.inr (Or.inr (Or.inr (Or.inr (Or.inr (Or.inl ⟨h.1, h.2⟩))))))) (fun h => h.elim))))))))
          have h34_ : PP M27_ (s + 1) ((D + 1) + 1) (M_51.1 (12, 0, 0) 9).toInt T := h29_.1
          have kf35_ : (M27_.1 (12, 0, 0) 11).toInt + ((m : Nat) : Int) = 5 := h29_.2
          refine w_aload_n dX12_term_59 rfl 1 rfl ?_
          refine w_iload_n dX12_term_60 rfl 0 rfl ?_
          refine w_callVv (as := [vI v1_51]) (rest := []) (c_X12_codes l G cy ad ((N + d) + 9) v1_51 (s + 1) ((D + 1) + 1) ((M_51.1 (12, 0, 0) 9).toInt) T (D + 1) M27_ hI30_ h34_ (lf_c_X12_opens_8 s hs ) (stp_op (lf_c_X12_term_5 v1_51 hv0_51 h24_ ))) kV_X12_codes pnn_17 (Nat.le_of_ble_eq_true rfl) m_1583 rfl rfl rfl ic_12 rfl rfl (by decide) (Nat.le_of_ble_eq_true rfl) dX12_term_61 (fun M36_ q37_ => ?_)
          obtain ⟨hI39_, hF40_, h38_, hs42_⟩ := q37_
          have hF41_ := hF32_.tr hF40_ (fun c k => (fun h => h.elim (fun h => (Or.inr (Or.inr (Or.inr (Or.inr (Or.inl ⟨h.1, h.2.1, h.2.2⟩)))))) (fun h => h.elim (fun h => (Or.inr (Or.inr (Or.inr (Or.inr (Or.inr (Or.inl ⟨h.1, h.2⟩))))))) (fun h => h.elim))))
          have kf43_ : (M36_.1 (12, 0, 0) 11).toInt + ((m : Nat) : Int) = 5 := by rw [(hF40_ (12, 0, 0) 11 (by simp [S_codes]))]; exact kf35_
          refine w_aload_n dX12_term_64 rfl 1 rfl ?_
          refine w_bipush (v := 42) dX12_term_65 (by decide) ?_
          refine w_callV (as := [vI 42]) (rest := []) (c_X12_takes l G cy ad ((N + d) + 8) 42 ((s + 1) - 1) (D + 1) ((M_51.1 (12, 0, 0) 9).toInt) T M36_ hI39_ h38_ (by first | decide | (unfold vF; omega) | (unfold vRw; omega))) kV_X12_takes pnn_17 (Nat.le_of_ble_eq_true rfl) m_1591 rfl rfl rfl ic_12 rfl rfl (by decide) (Nat.le_of_ble_eq_true rfl) dX12_term_67 (fun r44_ M45_ q46_ => ?_)
          obtain ⟨hI48_, hF49_, h47_, hs51_⟩ := q46_
          have hF50_ := hF41_.tr hF49_ (fun c k => (fun h => h.elim (fun h => (Or.inl ⟨h.1, h.2.1, h.2.2⟩)) (fun h => h.elim)))
          have kf52_ : (M45_.1 (12, 0, 0) 11).toInt + ((m : Nat) : Int) = 5 := by rw [(hF49_ (12, 0, 0) 11 (by simp [S_here]))]; exact kf43_
          rcases h47_ with ⟨rfl, h47_⟩ | ⟨rfl, h47_⟩
          · have h53_ : PP M45_ (((s + 1) - 1) + 1) (D + 1) ((M_51.1 (12, 0, 0) 9).toInt + 1) T := h47_.1
            have kf54_ : M45_.1 (12, 0, 0) 13 = 0 := h47_.2
            refine w_if_eq (tgt := 79) dX12_term_70 (by decide) li_1 (fun h9 => (absurd h9 (by decide))) (fun h55_ => ?_)
            refine w_sipush (v := 2005) dX12_term_73 (by decide) ?_
            refine w_goto (tgt := 110) dX12_term_76 (by decide) ?_
            refine w_istore_n (ls' := [(1, vI 2005), (0, vR (12, 0, 0))]) dX12_term_110 rfl (by decide) rfl ?_
            refine w_goto (tgt := 51) dX12_term_111 (by decide) ?_
            refine w_loc (ls' := [(1, vI 2005), (0, vR (12, 0, 0))]) [0, 1] rfl ?_
            exact ih_51 M45_ hI48_ hF50_ 2005 (lf_c_X12_term_6 ) (PP_mono h53_ (lf_c_X12_term_7 M45_ M_51 s D T hs h53_ ) (lf_c_X12_term_8 M_51 a kf25_ kf25_ )) kf52_ (RCH.tail hL_51 ⟨hv0_51, hI_51, hF_51, h23_, h24_, M27_, hI30_, hF31_, hs33_, M36_, hI39_, hF40_, hs42_, M45_, hI48_, hF49_, (Or.inl ⟨hs51_, h53_, rfl, rfl⟩)⟩) (Nat.lt_of_lt_of_le (PP_meas (A := (M_51.1 (12, 0, 0) 9).toInt) (x := v1_51) (x' := (2005 : Int32)) (PP_mono h53_ (Int.le_refl _) (lf_c_X12_term_9 M11_ M1_ M27_ M36_ M45_ M_51 Mz m s D a T hs hk hm kf9_ kf18_ kf20_ kv0_51 kf25_ kf25_ kf35_ kf43_ kf52_ h53_ kf54_ )) rfl (lf_c_X12_term_2 v1_51 h24_ )) (Nat.le_of_lt_succ hm_51))
          · refine w_if_eq (tgt := 79) dX12_term_70 (by decide) li_0 (fun h56_ => ?_) (fun h9 => (absurd h9 (by decide)))
            refine w_aload_n dX12_term_79 rfl 1 rfl ?_
            refine w_bipush (v := 47) dX12_term_80 (by decide) ?_
            refine w_callV (as := [vI 47]) (rest := []) (c_X12_takes l G cy ad ((N + d) + 8) 47 ((s + 1) - 1) (D + 1) ((M_51.1 (12, 0, 0) 9).toInt) T M45_ hI48_ h47_ (by first | decide | (unfold vF; omega) | (unfold vRw; omega))) kV_X12_takes pnn_17 (Nat.le_of_ble_eq_true rfl) m_1591 rfl rfl rfl ic_12 rfl rfl (by decide) (Nat.le_of_ble_eq_true rfl) dX12_term_82 (fun r57_ M58_ q59_ => ?_)
            obtain ⟨hI61_, hF62_, h60_, hs64_⟩ := q59_
            have hF63_ := hF50_.tr hF62_ (fun c k => (fun h => h.elim (fun h => (Or.inl ⟨h.1, h.2.1, h.2.2⟩)) (fun h => h.elim)))
            have kf65_ : (M58_.1 (12, 0, 0) 11).toInt + ((m : Nat) : Int) = 5 := by rw [(hF62_ (12, 0, 0) 11 (by simp [S_here]))]; exact kf52_
            rcases h60_ with ⟨rfl, h60_⟩ | ⟨rfl, h60_⟩
            · have h66_ : PP M58_ (((s + 1) - 1) + 1) (D + 1) ((M_51.1 (12, 0, 0) 9).toInt + 1) T := h60_.1
              have kf67_ : M58_.1 (12, 0, 0) 13 = 0 := h60_.2
              refine w_if_eq (tgt := 94) dX12_term_85 (by decide) li_1 (fun h9 => (absurd h9 (by decide))) (fun h68_ => ?_)
              refine w_sipush (v := 2006) dX12_term_88 (by decide) ?_
              refine w_goto (tgt := 110) dX12_term_91 (by decide) ?_
              refine w_istore_n (ls' := [(1, vI 2006), (0, vR (12, 0, 0))]) dX12_term_110 rfl (by decide) rfl ?_
              refine w_goto (tgt := 51) dX12_term_111 (by decide) ?_
              refine w_loc (ls' := [(1, vI 2006), (0, vR (12, 0, 0))]) [0, 1] rfl ?_
              exact ih_51 M58_ hI61_ hF63_ 2006 (lf_c_X12_term_11 ) (PP_mono h66_ (lf_c_X12_term_12 M58_ M_51 s D T hs h66_ ) (lf_c_X12_term_8 M_51 a kf25_ kf25_ )) kf65_ (RCH.tail hL_51 ⟨hv0_51, hI_51, hF_51, h23_, h24_, M27_, hI30_, hF31_, hs33_, M36_, hI39_, hF40_, hs42_, M45_, hI48_, hF49_, (Or.inr ⟨hs51_, M58_, hI61_, hF62_, (Or.inl ⟨hs64_, h66_, rfl, rfl⟩)⟩)⟩) (Nat.lt_of_lt_of_le (PP_meas (A := (M_51.1 (12, 0, 0) 9).toInt) (x := v1_51) (x' := (2006 : Int32)) (PP_mono h66_ (Int.le_refl _) (lf_c_X12_term_14 M11_ M1_ M27_ M36_ M45_ M58_ M_51 Mz m s D a T hs hk hm kf9_ kf18_ kf20_ kv0_51 kf25_ kf25_ kf35_ kf43_ kf52_ kf65_ h66_ kf67_ )) rfl (lf_c_X12_term_2 v1_51 h24_ )) (Nat.le_of_lt_succ hm_51))
            · refine w_if_eq (tgt := 94) dX12_term_85 (by decide) li_0 (fun h69_ => ?_) (fun h9 => (absurd h9 (by decide)))
              refine w_aload_n dX12_term_94 rfl 1 rfl ?_
              refine w_bipush (v := 37) dX12_term_95 (by decide) ?_
              refine w_callV (as := [vI 37]) (rest := []) (c_X12_takes l G cy ad ((N + d) + 8) 37 ((s + 1) - 1) (D + 1) ((M_51.1 (12, 0, 0) 9).toInt) T M58_ hI61_ h60_ (by first | decide | (unfold vF; omega) | (unfold vRw; omega))) kV_X12_takes pnn_17 (Nat.le_of_ble_eq_true rfl) m_1591 rfl rfl rfl ic_12 rfl rfl (by decide) (Nat.le_of_ble_eq_true rfl) dX12_term_97 (fun r70_ M71_ q72_ => ?_)
              obtain ⟨hI74_, hF75_, h73_, hs77_⟩ := q72_
              have hF76_ := hF63_.tr hF75_ (fun c k => (fun h => h.elim (fun h => (Or.inl ⟨h.1, h.2.1, h.2.2⟩)) (fun h => h.elim)))
              have kf78_ : (M71_.1 (12, 0, 0) 11).toInt + ((m : Nat) : Int) = 5 := by rw [(hF75_ (12, 0, 0) 11 (by simp [S_here]))]; exact kf65_
              rcases h73_ with ⟨rfl, h73_⟩ | ⟨rfl, h73_⟩
              · have h79_ : PP M71_ (((s + 1) - 1) + 1) (D + 1) ((M_51.1 (12, 0, 0) 9).toInt + 1) T := h73_.1
                have kf80_ : M71_.1 (12, 0, 0) 13 = 0 := h73_.2
                refine w_if_eq (tgt := 109) dX12_term_100 (by decide) li_1 (fun h9 => (absurd h9 (by decide))) (fun h81_ => ?_)
                refine w_sipush (v := 2007) dX12_term_103 (by decide) ?_
                refine w_goto (tgt := 110) dX12_term_106 (by decide) ?_
                refine w_istore_n (ls' := [(1, vI 2007), (0, vR (12, 0, 0))]) dX12_term_110 rfl (by decide) rfl ?_
                refine w_goto (tgt := 51) dX12_term_111 (by decide) ?_
                refine w_loc (ls' := [(1, vI 2007), (0, vR (12, 0, 0))]) [0, 1] rfl ?_
                exact ih_51 M71_ hI74_ hF76_ 2007 (lf_c_X12_term_16 ) (PP_mono h79_ (lf_c_X12_term_17 M71_ M_51 s D T hs h79_ ) (lf_c_X12_term_8 M_51 a kf25_ kf25_ )) kf78_ (RCH.tail hL_51 ⟨hv0_51, hI_51, hF_51, h23_, h24_, M27_, hI30_, hF31_, hs33_, M36_, hI39_, hF40_, hs42_, M45_, hI48_, hF49_, (Or.inr ⟨hs51_, M58_, hI61_, hF62_, (Or.inr ⟨hs64_, M71_, hI74_, hF75_, (Or.inl ⟨hs77_, h79_, rfl, rfl⟩)⟩)⟩)⟩) (Nat.lt_of_lt_of_le (PP_meas (A := (M_51.1 (12, 0, 0) 9).toInt) (x := v1_51) (x' := (2007 : Int32)) (PP_mono h79_ (Int.le_refl _) (lf_c_X12_term_19 M11_ M1_ M27_ M36_ M45_ M58_ M71_ M_51 Mz m s D a T hs hk hm kf9_ kf18_ kf20_ kv0_51 kf25_ kf25_ kf35_ kf43_ kf52_ kf65_ kf78_ h79_ kf80_ )) rfl (lf_c_X12_term_2 v1_51 h24_ )) (Nat.le_of_lt_succ hm_51))
              · refine w_if_eq (tgt := 109) dX12_term_100 (by decide) li_0 (fun h82_ => ?_) (fun h9 => (absurd h9 (by decide)))
                refine w_iconst (v := 0) dX12_term_109 (by decide) ?_
                refine w_istore_n (ls' := [(1, vI 0), (0, vR (12, 0, 0))]) dX12_term_110 rfl (by decide) rfl ?_
                refine w_goto (tgt := 51) dX12_term_111 (by decide) ?_
                refine w_loc (ls' := [(1, vI 0), (0, vR (12, 0, 0))]) [0, 1] rfl ?_
                exact ih_51 M71_ hI74_ hF76_ 0 (lf_c_X12_term_21 ) (PP_mono h73_ (lf_c_X12_term_22 M71_ M_51 s D T hs h73_ ) (lf_c_X12_term_23 M_51 a kf25_ kf25_ )) kf78_ (RCH.tail hL_51 ⟨hv0_51, hI_51, hF_51, h23_, h24_, M27_, hI30_, hF31_, hs33_, M36_, hI39_, hF40_, hs42_, M45_, hI48_, hF49_, (Or.inr ⟨hs51_, M58_, hI61_, hF62_, (Or.inr ⟨hs64_, M71_, hI74_, hF75_, (Or.inr ⟨hs77_, h73_, rfl, rfl⟩)⟩)⟩)⟩) (Nat.lt_of_lt_of_le (PP_meas (A := (M_51.1 (12, 0, 0) 9).toInt) (x := v1_51) (x' := (0 : Int32)) (PP_mono h73_ (Int.le_refl _) (lf_c_X12_term_24 M11_ M1_ M27_ M36_ M45_ M58_ M71_ M_51 Mz m s D a T hs hk hm kf9_ kf18_ kf20_ kv0_51 kf25_ kf25_ kf35_ kf43_ kf52_ kf65_ kf78_ h73_ )) rfl (lf_c_X12_term_2 v1_51 h24_ )) (Nat.le_of_lt_succ hm_51))
    exact lp22_ _ M11_ hI14_ hF16_ 2005 (lf_c_X12_term_6 ) (PP_mono h19_ (lf_c_X12_term_27 M11_ s D a T hs h19_ ) (lf_c_X12_here_19 a )) kf18_ RCH.refl (Nat.lt_succ_self _)
  · refine w_if_eq (tgt := 19) dX12_term_10 (by decide) li_0 (fun h83_ => ?_) (fun h9 => (absurd h9 (by decide)))
    refine w_aload_n dX12_term_19 rfl 0 rfl ?_
    refine w_bipush (v := 47) dX12_term_20 (by decide) ?_
    refine w_callV (as := [vI 47]) (rest := []) (c_X12_takes l G cy ad ((N + d) + 8) 47 s (D + 1) a T M11_ hI14_ h13_ (by first | decide | (unfold vF; omega) | (unfold vRw; omega))) kV_X12_takes pnn_17 (Nat.le_of_ble_eq_true rfl) m_1591 rfl rfl rfl ic_12 rfl rfl (by decide) (Nat.le_of_ble_eq_true rfl) dX12_term_22 (fun r84_ M85_ q86_ => ?_)
    obtain ⟨hI88_, hF89_, h87_, hs91_⟩ := q86_
    have hF90_ := hF16_.tr hF89_ (fun c k => (fun h => h.elim (fun h => (Or.inl ⟨h.1, h.2.1, h.2.2⟩)) (fun h => h.elim)))
    have kf92_ : (M85_.1 (12, 0, 0) 11).toInt + ((m : Nat) : Int) = 5 := by rw [(hF89_ (12, 0, 0) 11 (by simp [S_here]))]; exact kf18_
    rcases h87_ with ⟨rfl, h87_⟩ | ⟨rfl, h87_⟩
    · have h93_ : PP M85_ (s + 1) (D + 1) (a + 1) T := h87_.1
      have kf94_ : M85_.1 (12, 0, 0) 13 = 0 := h87_.2
      refine w_if_eq (tgt := 34) dX12_term_25 (by decide) li_1 (fun h9 => (absurd h9 (by decide))) (fun h95_ => ?_)
      refine w_sipush (v := 2006) dX12_term_28 (by decide) ?_
      refine w_goto (tgt := 50) dX12_term_31 (by decide) ?_
      refine w_istore_n (ls' := [(1, vI 2006), (0, vR (12, 0, 0))]) dX12_term_50 rfl (by decide) rfl ?_
      have lp96_ : ∀ (nn_51 : Nat) (M_51 : mM) (hI_51 : InvD M_51) (hF_51 : FR (S_par) Mz M_51) (v1_51 : Int32) (hv0_51 : v1_51.toInt = 0 ∨ (2005 ≤ v1_51.toInt ∧ v1_51.toInt ≤ 2007)) (hv1_51 : PP M_51 (s + isX v1_51) (D + 1) a T) (kv0_51 : (M_51.1 (12, 0, 0) 11).toInt + ((m : Nat) : Int) = 5) (hL_51 : RCH (fun x_ y_ => ST_X12_term_51b N m QA QB s D T Mz x_.1 x_.2 y_.1 y_.2) ((2006 : Int32), M85_) (v1_51, M_51)), (2 * (T - (M_51.1 (12, 0, 0) 9).toInt) + isX v1_51).toNat < nn_51 → WP DD l G cy ad yX12_term cX12_term 2 none ((N + d) + 10) 51 [(1, vI v1_51), (0, vR (12, 0, 0))] [] M_51 (fun r M' => InvD M' ∧ FR (S_par) Mz M' ∧ (PP M' s (D + 1) a T ∧ (M'.1 (12, 0, 0) 11).toInt + ((m : Nat) : Int) = 5) ∧ SP_X12_term N m QA QB s D a T Mz M') := by
        intro nn_51
        induction nn_51 with
        | zero => intro M_51 hI_51 hF_51 v1_51 hv0_51 hv1_51 kv0_51 hL_51 hm_51; exact absurd hm_51 (Nat.not_lt_zero _)
        | succ nn_51 ih_51 =>
          intro M_51 hI_51 hF_51 v1_51 hv0_51 hv1_51 kv0_51 hL_51 hm_51
          have h97_ : 0 ≤ isX v1_51 ∧ isX v1_51 ≤ 1 := isX_b v1_51
          refine w_iload_n dX12_term_51 rfl 0 rfl ?_
          refine w_if_le (tgt := 114) dX12_term_52 (by decide) (rfl : v1_51.toInt = v1_51.toInt) (fun h98_ => ?_) (fun h98_ => ?_)
          · exact w_vret rfl dX12_term_114 ⟨hI_51, hF_51, ⟨PP_mono hv1_51 (lf_c_X12_term_0 M_51 s D a T v1_51 hs hv0_51 hv1_51 h97_ h98_ ) (lf_c_X12_opens_41 a ), kv0_51⟩, ⟨M1_, hI4_, hF5_, hs7_, M11_, hI14_, hF15_, (Or.inr ⟨hs17_, M85_, hI88_, hF89_, (Or.inl ⟨hs91_, v1_51, hv0_51, M_51, hL_51, hI_51, hF_51, hv1_51, h97_, h98_, rfl⟩)⟩)⟩⟩
          · have kf99_ : a ≤ (M_51.1 (12, 0, 0) 9).toInt := hv1_51.2.1
            have h100_ : PP M_51 (s + 1) (D + 1) (M_51.1 (12, 0, 0) 9).toInt T := PP_self (PP_mono hv1_51 (by rw [isX_p (lf_c_X12_term_2 v1_51 h98_ )]; exact Int.le_refl _) (Int.le_refl _))
            refine w_aload_n dX12_term_55 rfl 1 rfl ?_
            refine w_callVv (as := []) (rest := []) (c_X12_one l G cy ad d N m QA QB (s + 1) (D + 1) ((M_51.1 (12, 0, 0) 9).toInt) T M_51 hI_51 hA hB h100_ (lf_c_X12_opens_8 s hs ) kv0_51 hm) kV_X12_one pnn_17 (Nat.le_of_ble_eq_true rfl) m_1571 rfl rfl rfl ic_12 rfl rfl (by decide) (Nat.le_of_ble_eq_true rfl) dX12_term_56 (fun M101_ q102_ => ?_)
            obtain ⟨hI104_, hF105_, h103_, hs107_⟩ := q102_
            have hF106_ := hF_51.tr hF105_ (fun c k => (fun h => h.elim (fun h => (Or.inl ⟨h.1, h.2.1, h.2.2⟩)) (fun h => h.elim (fun h => (Or.inr (Or.inl ⟨h.1, h.2.1, h.2.2⟩))) (fun h => h.elim (fun h => (Or.inr (Or.inr (Or.inl ⟨h.1, h.2.1, h.2.2⟩)))) (fun h => h.elim (fun h => (Or.inr (Or.inr (Or.inr (Or.inl ⟨h.1, h.2.1, h.2.2⟩))))) (fun h => h.elim (fun h => (Or.inr (Or.inr (Or.inr (Or.inr (Or.inl ⟨h.1, h.2.1, h.2.2⟩)))))) (fun h => h.elim (fun h => (Or.inr (Or.inr (Or.inr (Or.inr (Or.inr (Or.inl ⟨h.1, h.2⟩))))))) (fun h => h.elim))))))))
            have h108_ : PP M101_ (s + 1) ((D + 1) + 1) (M_51.1 (12, 0, 0) 9).toInt T := h103_.1
            have kf109_ : (M101_.1 (12, 0, 0) 11).toInt + ((m : Nat) : Int) = 5 := h103_.2
            refine w_aload_n dX12_term_59 rfl 1 rfl ?_
            refine w_iload_n dX12_term_60 rfl 0 rfl ?_
            refine w_callVv (as := [vI v1_51]) (rest := []) (c_X12_codes l G cy ad ((N + d) + 9) v1_51 (s + 1) ((D + 1) + 1) ((M_51.1 (12, 0, 0) 9).toInt) T (D + 1) M101_ hI104_ h108_ (lf_c_X12_opens_8 s hs ) (stp_op (lf_c_X12_term_5 v1_51 hv0_51 h98_ ))) kV_X12_codes pnn_17 (Nat.le_of_ble_eq_true rfl) m_1583 rfl rfl rfl ic_12 rfl rfl (by decide) (Nat.le_of_ble_eq_true rfl) dX12_term_61 (fun M110_ q111_ => ?_)
            obtain ⟨hI113_, hF114_, h112_, hs116_⟩ := q111_
            have hF115_ := hF106_.tr hF114_ (fun c k => (fun h => h.elim (fun h => (Or.inr (Or.inr (Or.inr (Or.inr (Or.inl ⟨h.1, h.2.1, h.2.2⟩)))))) (fun h => h.elim (fun h => (Or.inr (Or.inr (Or.inr (Or.inr (Or.inr (Or.inl ⟨h.1, h.2⟩))))))) (fun h => h.elim))))
            have kf117_ : (M110_.1 (12, 0, 0) 11).toInt + ((m : Nat) : Int) = 5 := by rw [(hF114_ (12, 0, 0) 11 (by simp [S_codes]))]; exact kf109_
            refine w_aload_n dX12_term_64 rfl 1 rfl ?_
            refine w_bipush (v := 42) dX12_term_65 (by decide) ?_
            refine w_callV (as := [vI 42]) (rest := []) (c_X12_takes l G cy ad ((N + d) + 8) 42 ((s + 1) - 1) (D + 1) ((M_51.1 (12, 0, 0) 9).toInt) T M110_ hI113_ h112_ (by first | decide | (unfold vF; omega) | (unfold vRw; omega))) kV_X12_takes pnn_17 (Nat.le_of_ble_eq_true rfl) m_1591 rfl rfl rfl ic_12 rfl rfl (by decide) (Nat.le_of_ble_eq_true rfl) dX12_term_67 (fun r118_ M119_ q120_ => ?_)
            obtain ⟨hI122_, hF123_, h121_, hs125_⟩ := q120_
            have hF124_ := hF115_.tr hF123_ (fun c k => (fun h => h.elim (fun h => (Or.inl ⟨h.1, h.2.1, h.2.2⟩)) (fun h => h.elim)))
            have kf126_ : (M119_.1 (12, 0, 0) 11).toInt + ((m : Nat) : Int) = 5 := by rw [(hF123_ (12, 0, 0) 11 (by simp [S_here]))]; exact kf117_
            rcases h121_ with ⟨rfl, h121_⟩ | ⟨rfl, h121_⟩
            · have h127_ : PP M119_ (((s + 1) - 1) + 1) (D + 1) ((M_51.1 (12, 0, 0) 9).toInt + 1) T := h121_.1
              have kf128_ : M119_.1 (12, 0, 0) 13 = 0 := h121_.2
              refine w_if_eq (tgt := 79) dX12_term_70 (by decide) li_1 (fun h9 => (absurd h9 (by decide))) (fun h129_ => ?_)
              refine w_sipush (v := 2005) dX12_term_73 (by decide) ?_
              refine w_goto (tgt := 110) dX12_term_76 (by decide) ?_
              refine w_istore_n (ls' := [(1, vI 2005), (0, vR (12, 0, 0))]) dX12_term_110 rfl (by decide) rfl ?_
              refine w_goto (tgt := 51) dX12_term_111 (by decide) ?_
              refine w_loc (ls' := [(1, vI 2005), (0, vR (12, 0, 0))]) [0, 1] rfl ?_
              exact ih_51 M119_ hI122_ hF124_ 2005 (lf_c_X12_term_6 ) (PP_mono h127_ (lf_c_X12_term_7 M119_ M_51 s D T hs h127_ ) (lf_c_X12_term_8 M_51 a kf99_ kf99_ )) kf126_ (RCH.tail hL_51 ⟨hv0_51, hI_51, hF_51, h97_, h98_, M101_, hI104_, hF105_, hs107_, M110_, hI113_, hF114_, hs116_, M119_, hI122_, hF123_, (Or.inl ⟨hs125_, h127_, rfl, rfl⟩)⟩) (Nat.lt_of_lt_of_le (PP_meas (A := (M_51.1 (12, 0, 0) 9).toInt) (x := v1_51) (x' := (2005 : Int32)) (PP_mono h127_ (Int.le_refl _) (lf_c_X12_term_38 M101_ M110_ M119_ M11_ M1_ M85_ M_51 Mz m s D a T hs hk hm kf9_ kf18_ kf92_ kf94_ kv0_51 kf99_ kf99_ kf109_ kf117_ kf126_ h127_ kf128_ )) rfl (lf_c_X12_term_2 v1_51 h98_ )) (Nat.le_of_lt_succ hm_51))
            · refine w_if_eq (tgt := 79) dX12_term_70 (by decide) li_0 (fun h130_ => ?_) (fun h9 => (absurd h9 (by decide)))
              refine w_aload_n dX12_term_79 rfl 1 rfl ?_
              refine w_bipush (v := 47) dX12_term_80 (by decide) ?_
              refine w_callV (as := [vI 47]) (rest := []) (c_X12_takes l G cy ad ((N + d) + 8) 47 ((s + 1) - 1) (D + 1) ((M_51.1 (12, 0, 0) 9).toInt) T M119_ hI122_ h121_ (by first | decide | (unfold vF; omega) | (unfold vRw; omega))) kV_X12_takes pnn_17 (Nat.le_of_ble_eq_true rfl) m_1591 rfl rfl rfl ic_12 rfl rfl (by decide) (Nat.le_of_ble_eq_true rfl) dX12_term_82 (fun r131_ M132_ q133_ => ?_)
              obtain ⟨hI135_, hF136_, h134_, hs138_⟩ := q133_
              have hF137_ := hF124_.tr hF136_ (fun c k => (fun h => h.elim (fun h => (Or.inl ⟨h.1, h.2.1, h.2.2⟩)) (fun h => h.elim)))
              have kf139_ : (M132_.1 (12, 0, 0) 11).toInt + ((m : Nat) : Int) = 5 := by rw [(hF136_ (12, 0, 0) 11 (by simp [S_here]))]; exact kf126_
              rcases h134_ with ⟨rfl, h134_⟩ | ⟨rfl, h134_⟩
              · have h140_ : PP M132_ (((s + 1) - 1) + 1) (D + 1) ((M_51.1 (12, 0, 0) 9).toInt + 1) T := h134_.1
                have kf141_ : M132_.1 (12, 0, 0) 13 = 0 := h134_.2
                refine w_if_eq (tgt := 94) dX12_term_85 (by decide) li_1 (fun h9 => (absurd h9 (by decide))) (fun h142_ => ?_)
                refine w_sipush (v := 2006) dX12_term_88 (by decide) ?_
                refine w_goto (tgt := 110) dX12_term_91 (by decide) ?_
                refine w_istore_n (ls' := [(1, vI 2006), (0, vR (12, 0, 0))]) dX12_term_110 rfl (by decide) rfl ?_
                refine w_goto (tgt := 51) dX12_term_111 (by decide) ?_
                refine w_loc (ls' := [(1, vI 2006), (0, vR (12, 0, 0))]) [0, 1] rfl ?_
                exact ih_51 M132_ hI135_ hF137_ 2006 (lf_c_X12_term_11 ) (PP_mono h140_ (lf_c_X12_term_12 M132_ M_51 s D T hs h140_ ) (lf_c_X12_term_8 M_51 a kf99_ kf99_ )) kf139_ (RCH.tail hL_51 ⟨hv0_51, hI_51, hF_51, h97_, h98_, M101_, hI104_, hF105_, hs107_, M110_, hI113_, hF114_, hs116_, M119_, hI122_, hF123_, (Or.inr ⟨hs125_, M132_, hI135_, hF136_, (Or.inl ⟨hs138_, h140_, rfl, rfl⟩)⟩)⟩) (Nat.lt_of_lt_of_le (PP_meas (A := (M_51.1 (12, 0, 0) 9).toInt) (x := v1_51) (x' := (2006 : Int32)) (PP_mono h140_ (Int.le_refl _) (lf_c_X12_term_43 M101_ M110_ M119_ M11_ M132_ M1_ M85_ M_51 Mz m s D a T hs hk hm kf9_ kf18_ kf92_ kf94_ kv0_51 kf99_ kf99_ kf109_ kf117_ kf126_ kf139_ h140_ kf141_ )) rfl (lf_c_X12_term_2 v1_51 h98_ )) (Nat.le_of_lt_succ hm_51))
              · refine w_if_eq (tgt := 94) dX12_term_85 (by decide) li_0 (fun h143_ => ?_) (fun h9 => (absurd h9 (by decide)))
                refine w_aload_n dX12_term_94 rfl 1 rfl ?_
                refine w_bipush (v := 37) dX12_term_95 (by decide) ?_
                refine w_callV (as := [vI 37]) (rest := []) (c_X12_takes l G cy ad ((N + d) + 8) 37 ((s + 1) - 1) (D + 1) ((M_51.1 (12, 0, 0) 9).toInt) T M132_ hI135_ h134_ (by first | decide | (unfold vF; omega) | (unfold vRw; omega))) kV_X12_takes pnn_17 (Nat.le_of_ble_eq_true rfl) m_1591 rfl rfl rfl ic_12 rfl rfl (by decide) (Nat.le_of_ble_eq_true rfl) dX12_term_97 (fun r144_ M145_ q146_ => ?_)
                obtain ⟨hI148_, hF149_, h147_, hs151_⟩ := q146_
                have hF150_ := hF137_.tr hF149_ (fun c k => (fun h => h.elim (fun h => (Or.inl ⟨h.1, h.2.1, h.2.2⟩)) (fun h => h.elim)))
                have kf152_ : (M145_.1 (12, 0, 0) 11).toInt + ((m : Nat) : Int) = 5 := by rw [(hF149_ (12, 0, 0) 11 (by simp [S_here]))]; exact kf139_
                rcases h147_ with ⟨rfl, h147_⟩ | ⟨rfl, h147_⟩
                · have h153_ : PP M145_ (((s + 1) - 1) + 1) (D + 1) ((M_51.1 (12, 0, 0) 9).toInt + 1) T := h147_.1
                  have kf154_ : M145_.1 (12, 0, 0) 13 = 0 := h147_.2
                  refine w_if_eq (tgt := 109) dX12_term_100 (by decide) li_1 (fun h9 => (absurd h9 (by decide))) (fun h155_ => ?_)
                  refine w_sipush (v := 2007) dX12_term_103 (by decide) ?_
                  refine w_goto (tgt := 110) dX12_term_106 (by decide) ?_
                  refine w_istore_n (ls' := [(1, vI 2007), (0, vR (12, 0, 0))]) dX12_term_110 rfl (by decide) rfl ?_
                  refine w_goto (tgt := 51) dX12_term_111 (by decide) ?_
                  refine w_loc (ls' := [(1, vI 2007), (0, vR (12, 0, 0))]) [0, 1] rfl ?_
                  exact ih_51 M145_ hI148_ hF150_ 2007 (lf_c_X12_term_16 ) (PP_mono h153_ (lf_c_X12_term_17 M145_ M_51 s D T hs h153_ ) (lf_c_X12_term_8 M_51 a kf99_ kf99_ )) kf152_ (RCH.tail hL_51 ⟨hv0_51, hI_51, hF_51, h97_, h98_, M101_, hI104_, hF105_, hs107_, M110_, hI113_, hF114_, hs116_, M119_, hI122_, hF123_, (Or.inr ⟨hs125_, M132_, hI135_, hF136_, (Or.inr ⟨hs138_, M145_, hI148_, hF149_, (Or.inl ⟨hs151_, h153_, rfl, rfl⟩)⟩)⟩)⟩) (Nat.lt_of_lt_of_le (PP_meas (A := (M_51.1 (12, 0, 0) 9).toInt) (x := v1_51) (x' := (2007 : Int32)) (PP_mono h153_ (Int.le_refl _) (lf_c_X12_term_48 M101_ M110_ M119_ M11_ M132_ M145_ M1_ M85_ M_51 Mz m s D a T hs hk hm kf9_ kf18_ kf92_ kf94_ kv0_51 kf99_ kf99_ kf109_ kf117_ kf126_ kf139_ kf152_ h153_ kf154_ )) rfl (lf_c_X12_term_2 v1_51 h98_ )) (Nat.le_of_lt_succ hm_51))
                · refine w_if_eq (tgt := 109) dX12_term_100 (by decide) li_0 (fun h156_ => ?_) (fun h9 => (absurd h9 (by decide)))
                  refine w_iconst (v := 0) dX12_term_109 (by decide) ?_
                  refine w_istore_n (ls' := [(1, vI 0), (0, vR (12, 0, 0))]) dX12_term_110 rfl (by decide) rfl ?_
                  refine w_goto (tgt := 51) dX12_term_111 (by decide) ?_
                  refine w_loc (ls' := [(1, vI 0), (0, vR (12, 0, 0))]) [0, 1] rfl ?_
                  exact ih_51 M145_ hI148_ hF150_ 0 (lf_c_X12_term_21 ) (PP_mono h147_ (lf_c_X12_term_22 M145_ M_51 s D T hs h147_ ) (lf_c_X12_term_23 M_51 a kf99_ kf99_ )) kf152_ (RCH.tail hL_51 ⟨hv0_51, hI_51, hF_51, h97_, h98_, M101_, hI104_, hF105_, hs107_, M110_, hI113_, hF114_, hs116_, M119_, hI122_, hF123_, (Or.inr ⟨hs125_, M132_, hI135_, hF136_, (Or.inr ⟨hs138_, M145_, hI148_, hF149_, (Or.inr ⟨hs151_, h147_, rfl, rfl⟩)⟩)⟩)⟩) (Nat.lt_of_lt_of_le (PP_meas (A := (M_51.1 (12, 0, 0) 9).toInt) (x := v1_51) (x' := (0 : Int32)) (PP_mono h147_ (Int.le_refl _) (lf_c_X12_term_53 M101_ M110_ M119_ M11_ M132_ M145_ M1_ M85_ M_51 Mz m s D a T hs hk hm kf9_ kf18_ kf92_ kf94_ kv0_51 kf99_ kf99_ kf109_ kf117_ kf126_ kf139_ kf152_ h147_ )) rfl (lf_c_X12_term_2 v1_51 h98_ )) (Nat.le_of_lt_succ hm_51))
      exact lp96_ _ M85_ hI88_ hF90_ 2006 (lf_c_X12_term_11 ) (PP_mono h93_ (lf_c_X12_term_56 M85_ s D a T hs h93_ ) (lf_c_X12_here_19 a )) kf92_ RCH.refl (Nat.lt_succ_self _)
    · refine w_if_eq (tgt := 34) dX12_term_25 (by decide) li_0 (fun h157_ => ?_) (fun h9 => (absurd h9 (by decide)))
      refine w_aload_n dX12_term_34 rfl 0 rfl ?_
      refine w_bipush (v := 37) dX12_term_35 (by decide) ?_
      refine w_callV (as := [vI 37]) (rest := []) (c_X12_takes l G cy ad ((N + d) + 8) 37 s (D + 1) a T M85_ hI88_ h87_ (by first | decide | (unfold vF; omega) | (unfold vRw; omega))) kV_X12_takes pnn_17 (Nat.le_of_ble_eq_true rfl) m_1591 rfl rfl rfl ic_12 rfl rfl (by decide) (Nat.le_of_ble_eq_true rfl) dX12_term_37 (fun r158_ M159_ q160_ => ?_)
      obtain ⟨hI162_, hF163_, h161_, hs165_⟩ := q160_
      have hF164_ := hF90_.tr hF163_ (fun c k => (fun h => h.elim (fun h => (Or.inl ⟨h.1, h.2.1, h.2.2⟩)) (fun h => h.elim)))
      have kf166_ : (M159_.1 (12, 0, 0) 11).toInt + ((m : Nat) : Int) = 5 := by rw [(hF163_ (12, 0, 0) 11 (by simp [S_here]))]; exact kf92_
      rcases h161_ with ⟨rfl, h161_⟩ | ⟨rfl, h161_⟩
      · have h167_ : PP M159_ (s + 1) (D + 1) (a + 1) T := h161_.1
        have kf168_ : M159_.1 (12, 0, 0) 13 = 0 := h161_.2
        refine w_if_eq (tgt := 49) dX12_term_40 (by decide) li_1 (fun h9 => (absurd h9 (by decide))) (fun h169_ => ?_)
        refine w_sipush (v := 2007) dX12_term_43 (by decide) ?_
        refine w_goto (tgt := 50) dX12_term_46 (by decide) ?_
        refine w_istore_n (ls' := [(1, vI 2007), (0, vR (12, 0, 0))]) dX12_term_50 rfl (by decide) rfl ?_
        have lp170_ : ∀ (nn_51 : Nat) (M_51 : mM) (hI_51 : InvD M_51) (hF_51 : FR (S_par) Mz M_51) (v1_51 : Int32) (hv0_51 : v1_51.toInt = 0 ∨ (2005 ≤ v1_51.toInt ∧ v1_51.toInt ≤ 2007)) (hv1_51 : PP M_51 (s + isX v1_51) (D + 1) a T) (kv0_51 : (M_51.1 (12, 0, 0) 11).toInt + ((m : Nat) : Int) = 5) (hL_51 : RCH (fun x_ y_ => ST_X12_term_51c N m QA QB s D T Mz x_.1 x_.2 y_.1 y_.2) ((2007 : Int32), M159_) (v1_51, M_51)), (2 * (T - (M_51.1 (12, 0, 0) 9).toInt) + isX v1_51).toNat < nn_51 → WP DD l G cy ad yX12_term cX12_term 2 none ((N + d) + 10) 51 [(1, vI v1_51), (0, vR (12, 0, 0))] [] M_51 (fun r M' => InvD M' ∧ FR (S_par) Mz M' ∧ (PP M' s (D + 1) a T ∧ (M'.1 (12, 0, 0) 11).toInt + ((m : Nat) : Int) = 5) ∧ SP_X12_term N m QA QB s D a T Mz M') := by
          intro nn_51
          induction nn_51 with
          | zero => intro M_51 hI_51 hF_51 v1_51 hv0_51 hv1_51 kv0_51 hL_51 hm_51; exact absurd hm_51 (Nat.not_lt_zero _)
          | succ nn_51 ih_51 =>
            intro M_51 hI_51 hF_51 v1_51 hv0_51 hv1_51 kv0_51 hL_51 hm_51
            have h171_ : 0 ≤ isX v1_51 ∧ isX v1_51 ≤ 1 := isX_b v1_51
            refine w_iload_n dX12_term_51 rfl 0 rfl ?_
            refine w_if_le (tgt := 114) dX12_term_52 (by decide) (rfl : v1_51.toInt = v1_51.toInt) (fun h172_ => ?_) (fun h172_ => ?_)
            · exact w_vret rfl dX12_term_114 ⟨hI_51, hF_51, ⟨PP_mono hv1_51 (lf_c_X12_term_0 M_51 s D a T v1_51 hs hv0_51 hv1_51 h171_ h172_ ) (lf_c_X12_opens_41 a ), kv0_51⟩, ⟨M1_, hI4_, hF5_, hs7_, M11_, hI14_, hF15_, (Or.inr ⟨hs17_, M85_, hI88_, hF89_, (Or.inr ⟨hs91_, M159_, hI162_, hF163_, (Or.inl ⟨hs165_, v1_51, hv0_51, M_51, hL_51, hI_51, hF_51, hv1_51, h171_, h172_, rfl⟩)⟩)⟩)⟩⟩
            · have kf173_ : a ≤ (M_51.1 (12, 0, 0) 9).toInt := hv1_51.2.1
              have h174_ : PP M_51 (s + 1) (D + 1) (M_51.1 (12, 0, 0) 9).toInt T := PP_self (PP_mono hv1_51 (by rw [isX_p (lf_c_X12_term_2 v1_51 h172_ )]; exact Int.le_refl _) (Int.le_refl _))
              refine w_aload_n dX12_term_55 rfl 1 rfl ?_
              refine w_callVv (as := []) (rest := []) (c_X12_one l G cy ad d N m QA QB (s + 1) (D + 1) ((M_51.1 (12, 0, 0) 9).toInt) T M_51 hI_51 hA hB h174_ (lf_c_X12_opens_8 s hs ) kv0_51 hm) kV_X12_one pnn_17 (Nat.le_of_ble_eq_true rfl) m_1571 rfl rfl rfl ic_12 rfl rfl (by decide) (Nat.le_of_ble_eq_true rfl) dX12_term_56 (fun M175_ q176_ => ?_)
              obtain ⟨hI178_, hF179_, h177_, hs181_⟩ := q176_
              have hF180_ := hF_51.tr hF179_ (fun c k => (fun h => h.elim (fun h => (Or.inl ⟨h.1, h.2.1, h.2.2⟩)) (fun h => h.elim (fun h => (Or.inr (Or.inl ⟨h.1, h.2.1, h.2.2⟩))) (fun h => h.elim (fun h => (Or.inr (Or.inr (Or.inl ⟨h.1, h.2.1, h.2.2⟩)))) (fun h => h.elim (fun h => (Or.inr (Or.inr (Or.inr (Or.inl ⟨h.1, h.2.1, h.2.2⟩))))) (fun h => h.elim (fun h => (Or.inr (Or.inr (Or.inr (Or.inr (Or.inl ⟨h.1, h.2.1, h.2.2⟩)))))) (fun h => h.elim (fun h => (Or.inr (Or.inr (Or.inr (Or.inr (Or.inr (Or.inl ⟨h.1, h.2⟩))))))) (fun h => h.elim))))))))
              have h182_ : PP M175_ (s + 1) ((D + 1) + 1) (M_51.1 (12, 0, 0) 9).toInt T := h177_.1
              have kf183_ : (M175_.1 (12, 0, 0) 11).toInt + ((m : Nat) : Int) = 5 := h177_.2
              refine w_aload_n dX12_term_59 rfl 1 rfl ?_
              refine w_iload_n dX12_term_60 rfl 0 rfl ?_
              refine w_callVv (as := [vI v1_51]) (rest := []) (c_X12_codes l G cy ad ((N + d) + 9) v1_51 (s + 1) ((D + 1) + 1) ((M_51.1 (12, 0, 0) 9).toInt) T (D + 1) M175_ hI178_ h182_ (lf_c_X12_opens_8 s hs ) (stp_op (lf_c_X12_term_5 v1_51 hv0_51 h172_ ))) kV_X12_codes pnn_17 (Nat.le_of_ble_eq_true rfl) m_1583 rfl rfl rfl ic_12 rfl rfl (by decide) (Nat.le_of_ble_eq_true rfl) dX12_term_61 (fun M184_ q185_ => ?_)
              obtain ⟨hI187_, hF188_, h186_, hs190_⟩ := q185_
              have hF189_ := hF180_.tr hF188_ (fun c k => (fun h => h.elim (fun h => (Or.inr (Or.inr (Or.inr (Or.inr (Or.inl ⟨h.1, h.2.1, h.2.2⟩)))))) (fun h => h.elim (fun h => (Or.inr (Or.inr (Or.inr (Or.inr (Or.inr (Or.inl ⟨h.1, h.2⟩))))))) (fun h => h.elim))))
              have kf191_ : (M184_.1 (12, 0, 0) 11).toInt + ((m : Nat) : Int) = 5 := by rw [(hF188_ (12, 0, 0) 11 (by simp [S_codes]))]; exact kf183_
              refine w_aload_n dX12_term_64 rfl 1 rfl ?_
              refine w_bipush (v := 42) dX12_term_65 (by decide) ?_
              refine w_callV (as := [vI 42]) (rest := []) (c_X12_takes l G cy ad ((N + d) + 8) 42 ((s + 1) - 1) (D + 1) ((M_51.1 (12, 0, 0) 9).toInt) T M184_ hI187_ h186_ (by first | decide | (unfold vF; omega) | (unfold vRw; omega))) kV_X12_takes pnn_17 (Nat.le_of_ble_eq_true rfl) m_1591 rfl rfl rfl ic_12 rfl rfl (by decide) (Nat.le_of_ble_eq_true rfl) dX12_term_67 (fun r192_ M193_ q194_ => ?_)
              obtain ⟨hI196_, hF197_, h195_, hs199_⟩ := q194_
              have hF198_ := hF189_.tr hF197_ (fun c k => (fun h => h.elim (fun h => (Or.inl ⟨h.1, h.2.1, h.2.2⟩)) (fun h => h.elim)))
              have kf200_ : (M193_.1 (12, 0, 0) 11).toInt + ((m : Nat) : Int) = 5 := by rw [(hF197_ (12, 0, 0) 11 (by simp [S_here]))]; exact kf191_
              rcases h195_ with ⟨rfl, h195_⟩ | ⟨rfl, h195_⟩
              · have h201_ : PP M193_ (((s + 1) - 1) + 1) (D + 1) ((M_51.1 (12, 0, 0) 9).toInt + 1) T := h195_.1
                have kf202_ : M193_.1 (12, 0, 0) 13 = 0 := h195_.2
                refine w_if_eq (tgt := 79) dX12_term_70 (by decide) li_1 (fun h9 => (absurd h9 (by decide))) (fun h203_ => ?_)
                refine w_sipush (v := 2005) dX12_term_73 (by decide) ?_
                refine w_goto (tgt := 110) dX12_term_76 (by decide) ?_
                refine w_istore_n (ls' := [(1, vI 2005), (0, vR (12, 0, 0))]) dX12_term_110 rfl (by decide) rfl ?_
                refine w_goto (tgt := 51) dX12_term_111 (by decide) ?_
                refine w_loc (ls' := [(1, vI 2005), (0, vR (12, 0, 0))]) [0, 1] rfl ?_
                exact ih_51 M193_ hI196_ hF198_ 2005 (lf_c_X12_term_6 ) (PP_mono h201_ (lf_c_X12_term_7 M193_ M_51 s D T hs h201_ ) (lf_c_X12_term_8 M_51 a kf173_ kf173_ )) kf200_ (RCH.tail hL_51 ⟨hv0_51, hI_51, hF_51, h171_, h172_, M175_, hI178_, hF179_, hs181_, M184_, hI187_, hF188_, hs190_, M193_, hI196_, hF197_, (Or.inl ⟨hs199_, h201_, rfl, rfl⟩)⟩) (Nat.lt_of_lt_of_le (PP_meas (A := (M_51.1 (12, 0, 0) 9).toInt) (x := v1_51) (x' := (2005 : Int32)) (PP_mono h201_ (Int.le_refl _) (lf_c_X12_term_67 M11_ M159_ M175_ M184_ M193_ M1_ M85_ M_51 Mz m s D a T hs hk hm kf9_ kf18_ kf92_ kf166_ kf168_ kv0_51 kf173_ kf173_ kf183_ kf191_ kf200_ h201_ kf202_ )) rfl (lf_c_X12_term_2 v1_51 h172_ )) (Nat.le_of_lt_succ hm_51))
              · refine w_if_eq (tgt := 79) dX12_term_70 (by decide) li_0 (fun h204_ => ?_) (fun h9 => (absurd h9 (by decide)))
                refine w_aload_n dX12_term_79 rfl 1 rfl ?_
                refine w_bipush (v := 47) dX12_term_80 (by decide) ?_
                refine w_callV (as := [vI 47]) (rest := []) (c_X12_takes l G cy ad ((N + d) + 8) 47 ((s + 1) - 1) (D + 1) ((M_51.1 (12, 0, 0) 9).toInt) T M193_ hI196_ h195_ (by first | decide | (unfold vF; omega) | (unfold vRw; omega))) kV_X12_takes pnn_17 (Nat.le_of_ble_eq_true rfl) m_1591 rfl rfl rfl ic_12 rfl rfl (by decide) (Nat.le_of_ble_eq_true rfl) dX12_term_82 (fun r205_ M206_ q207_ => ?_)
                obtain ⟨hI209_, hF210_, h208_, hs212_⟩ := q207_
                have hF211_ := hF198_.tr hF210_ (fun c k => (fun h => h.elim (fun h => (Or.inl ⟨h.1, h.2.1, h.2.2⟩)) (fun h => h.elim)))
                have kf213_ : (M206_.1 (12, 0, 0) 11).toInt + ((m : Nat) : Int) = 5 := by rw [(hF210_ (12, 0, 0) 11 (by simp [S_here]))]; exact kf200_
                rcases h208_ with ⟨rfl, h208_⟩ | ⟨rfl, h208_⟩
                · have h214_ : PP M206_ (((s + 1) - 1) + 1) (D + 1) ((M_51.1 (12, 0, 0) 9).toInt + 1) T := h208_.1
                  have kf215_ : M206_.1 (12, 0, 0) 13 = 0 := h208_.2
                  refine w_if_eq (tgt := 94) dX12_term_85 (by decide) li_1 (fun h9 => (absurd h9 (by decide))) (fun h216_ => ?_)
                  refine w_sipush (v := 2006) dX12_term_88 (by decide) ?_
                  refine w_goto (tgt := 110) dX12_term_91 (by decide) ?_
                  refine w_istore_n (ls' := [(1, vI 2006), (0, vR (12, 0, 0))]) dX12_term_110 rfl (by decide) rfl ?_
                  refine w_goto (tgt := 51) dX12_term_111 (by decide) ?_
                  refine w_loc (ls' := [(1, vI 2006), (0, vR (12, 0, 0))]) [0, 1] rfl ?_
                  exact ih_51 M206_ hI209_ hF211_ 2006 (lf_c_X12_term_11 ) (PP_mono h214_ (lf_c_X12_term_12 M206_ M_51 s D T hs h214_ ) (lf_c_X12_term_8 M_51 a kf173_ kf173_ )) kf213_ (RCH.tail hL_51 ⟨hv0_51, hI_51, hF_51, h171_, h172_, M175_, hI178_, hF179_, hs181_, M184_, hI187_, hF188_, hs190_, M193_, hI196_, hF197_, (Or.inr ⟨hs199_, M206_, hI209_, hF210_, (Or.inl ⟨hs212_, h214_, rfl, rfl⟩)⟩)⟩) (Nat.lt_of_lt_of_le (PP_meas (A := (M_51.1 (12, 0, 0) 9).toInt) (x := v1_51) (x' := (2006 : Int32)) (PP_mono h214_ (Int.le_refl _) (lf_c_X12_term_72 M11_ M159_ M175_ M184_ M193_ M1_ M206_ M85_ M_51 Mz m s D a T hs hk hm kf9_ kf18_ kf92_ kf166_ kf168_ kv0_51 kf173_ kf173_ kf183_ kf191_ kf200_ kf213_ h214_ kf215_ )) rfl (lf_c_X12_term_2 v1_51 h172_ )) (Nat.le_of_lt_succ hm_51))
                · refine w_if_eq (tgt := 94) dX12_term_85 (by decide) li_0 (fun h217_ => ?_) (fun h9 => (absurd h9 (by decide)))
                  refine w_aload_n dX12_term_94 rfl 1 rfl ?_
                  refine w_bipush (v := 37) dX12_term_95 (by decide) ?_
                  refine w_callV (as := [vI 37]) (rest := []) (c_X12_takes l G cy ad ((N + d) + 8) 37 ((s + 1) - 1) (D + 1) ((M_51.1 (12, 0, 0) 9).toInt) T M206_ hI209_ h208_ (by first | decide | (unfold vF; omega) | (unfold vRw; omega))) kV_X12_takes pnn_17 (Nat.le_of_ble_eq_true rfl) m_1591 rfl rfl rfl ic_12 rfl rfl (by decide) (Nat.le_of_ble_eq_true rfl) dX12_term_97 (fun r218_ M219_ q220_ => ?_)
                  obtain ⟨hI222_, hF223_, h221_, hs225_⟩ := q220_
                  have hF224_ := hF211_.tr hF223_ (fun c k => (fun h => h.elim (fun h => (Or.inl ⟨h.1, h.2.1, h.2.2⟩)) (fun h => h.elim)))
                  have kf226_ : (M219_.1 (12, 0, 0) 11).toInt + ((m : Nat) : Int) = 5 := by rw [(hF223_ (12, 0, 0) 11 (by simp [S_here]))]; exact kf213_
                  rcases h221_ with ⟨rfl, h221_⟩ | ⟨rfl, h221_⟩
                  · have h227_ : PP M219_ (((s + 1) - 1) + 1) (D + 1) ((M_51.1 (12, 0, 0) 9).toInt + 1) T := h221_.1
                    have kf228_ : M219_.1 (12, 0, 0) 13 = 0 := h221_.2
                    refine w_if_eq (tgt := 109) dX12_term_100 (by decide) li_1 (fun h9 => (absurd h9 (by decide))) (fun h229_ => ?_)
                    refine w_sipush (v := 2007) dX12_term_103 (by decide) ?_
                    refine w_goto (tgt := 110) dX12_term_106 (by decide) ?_
                    refine w_istore_n (ls' := [(1, vI 2007), (0, vR (12, 0, 0))]) dX12_term_110 rfl (by decide) rfl ?_
                    refine w_goto (tgt := 51) dX12_term_111 (by decide) ?_
                    refine w_loc (ls' := [(1, vI 2007), (0, vR (12, 0, 0))]) [0, 1] rfl ?_
                    exact ih_51 M219_ hI222_ hF224_ 2007 (lf_c_X12_term_16 ) (PP_mono h227_ (lf_c_X12_term_17 M219_ M_51 s D T hs h227_ ) (lf_c_X12_term_8 M_51 a kf173_ kf173_ )) kf226_ (RCH.tail hL_51 ⟨hv0_51, hI_51, hF_51, h171_, h172_, M175_, hI178_, hF179_, hs181_, M184_, hI187_, hF188_, hs190_, M193_, hI196_, hF197_, (Or.inr ⟨hs199_, M206_, hI209_, hF210_, (Or.inr ⟨hs212_, M219_, hI222_, hF223_, (Or.inl ⟨hs225_, h227_, rfl, rfl⟩)⟩)⟩)⟩) (Nat.lt_of_lt_of_le (PP_meas (A := (M_51.1 (12, 0, 0) 9).toInt) (x := v1_51) (x' := (2007 : Int32)) (PP_mono h227_ (Int.le_refl _) (lf_c_X12_term_77 M11_ M159_ M175_ M184_ M193_ M1_ M206_ M219_ M85_ M_51 Mz m s D a T hs hk hm kf9_ kf18_ kf92_ kf166_ kf168_ kv0_51 kf173_ kf173_ kf183_ kf191_ kf200_ kf213_ kf226_ h227_ kf228_ )) rfl (lf_c_X12_term_2 v1_51 h172_ )) (Nat.le_of_lt_succ hm_51))
                  · refine w_if_eq (tgt := 109) dX12_term_100 (by decide) li_0 (fun h230_ => ?_) (fun h9 => (absurd h9 (by decide)))
                    refine w_iconst (v := 0) dX12_term_109 (by decide) ?_
                    refine w_istore_n (ls' := [(1, vI 0), (0, vR (12, 0, 0))]) dX12_term_110 rfl (by decide) rfl ?_
                    refine w_goto (tgt := 51) dX12_term_111 (by decide) ?_
                    refine w_loc (ls' := [(1, vI 0), (0, vR (12, 0, 0))]) [0, 1] rfl ?_
                    exact ih_51 M219_ hI222_ hF224_ 0 (lf_c_X12_term_21 ) (PP_mono h221_ (lf_c_X12_term_22 M219_ M_51 s D T hs h221_ ) (lf_c_X12_term_23 M_51 a kf173_ kf173_ )) kf226_ (RCH.tail hL_51 ⟨hv0_51, hI_51, hF_51, h171_, h172_, M175_, hI178_, hF179_, hs181_, M184_, hI187_, hF188_, hs190_, M193_, hI196_, hF197_, (Or.inr ⟨hs199_, M206_, hI209_, hF210_, (Or.inr ⟨hs212_, M219_, hI222_, hF223_, (Or.inr ⟨hs225_, h221_, rfl, rfl⟩)⟩)⟩)⟩) (Nat.lt_of_lt_of_le (PP_meas (A := (M_51.1 (12, 0, 0) 9).toInt) (x := v1_51) (x' := (0 : Int32)) (PP_mono h221_ (Int.le_refl _) (lf_c_X12_term_82 M11_ M159_ M175_ M184_ M193_ M1_ M206_ M219_ M85_ M_51 Mz m s D a T hs hk hm kf9_ kf18_ kf92_ kf166_ kf168_ kv0_51 kf173_ kf173_ kf183_ kf191_ kf200_ kf213_ kf226_ h221_ )) rfl (lf_c_X12_term_2 v1_51 h172_ )) (Nat.le_of_lt_succ hm_51))
        exact lp170_ _ M159_ hI162_ hF164_ 2007 (lf_c_X12_term_16 ) (PP_mono h167_ (lf_c_X12_term_85 M159_ s D a T hs h167_ ) (lf_c_X12_here_19 a )) kf166_ RCH.refl (Nat.lt_succ_self _)
      · refine w_if_eq (tgt := 49) dX12_term_40 (by decide) li_0 (fun h231_ => ?_) (fun h9 => (absurd h9 (by decide)))
        refine w_iconst (v := 0) dX12_term_49 (by decide) ?_
        refine w_istore_n (ls' := [(1, vI 0), (0, vR (12, 0, 0))]) dX12_term_50 rfl (by decide) rfl ?_
        have lp232_ : ∀ (nn_51 : Nat) (M_51 : mM) (hI_51 : InvD M_51) (hF_51 : FR (S_par) Mz M_51) (v1_51 : Int32) (hv0_51 : v1_51.toInt = 0 ∨ (2005 ≤ v1_51.toInt ∧ v1_51.toInt ≤ 2007)) (hv1_51 : PP M_51 (s + isX v1_51) (D + 1) a T) (kv0_51 : (M_51.1 (12, 0, 0) 11).toInt + ((m : Nat) : Int) = 5) (hL_51 : RCH (fun x_ y_ => ST_X12_term_51d N m QA QB s D T Mz x_.1 x_.2 y_.1 y_.2) ((0 : Int32), M159_) (v1_51, M_51)), (2 * (T - (M_51.1 (12, 0, 0) 9).toInt) + isX v1_51).toNat < nn_51 → WP DD l G cy ad yX12_term cX12_term 2 none ((N + d) + 10) 51 [(1, vI v1_51), (0, vR (12, 0, 0))] [] M_51 (fun r M' => InvD M' ∧ FR (S_par) Mz M' ∧ (PP M' s (D + 1) a T ∧ (M'.1 (12, 0, 0) 11).toInt + ((m : Nat) : Int) = 5) ∧ SP_X12_term N m QA QB s D a T Mz M') := by
          intro nn_51
          induction nn_51 with
          | zero => intro M_51 hI_51 hF_51 v1_51 hv0_51 hv1_51 kv0_51 hL_51 hm_51; exact absurd hm_51 (Nat.not_lt_zero _)
          | succ nn_51 ih_51 =>
            intro M_51 hI_51 hF_51 v1_51 hv0_51 hv1_51 kv0_51 hL_51 hm_51
            have h233_ : 0 ≤ isX v1_51 ∧ isX v1_51 ≤ 1 := isX_b v1_51
            refine w_iload_n dX12_term_51 rfl 0 rfl ?_
            refine w_if_le (tgt := 114) dX12_term_52 (by decide) (rfl : v1_51.toInt = v1_51.toInt) (fun h234_ => ?_) (fun h234_ => ?_)
            · exact w_vret rfl dX12_term_114 ⟨hI_51, hF_51, ⟨PP_mono hv1_51 (lf_c_X12_term_0 M_51 s D a T v1_51 hs hv0_51 hv1_51 h233_ h234_ ) (lf_c_X12_opens_41 a ), kv0_51⟩, ⟨M1_, hI4_, hF5_, hs7_, M11_, hI14_, hF15_, (Or.inr ⟨hs17_, M85_, hI88_, hF89_, (Or.inr ⟨hs91_, M159_, hI162_, hF163_, (Or.inr ⟨hs165_, v1_51, hv0_51, M_51, hL_51, hI_51, hF_51, hv1_51, h233_, h234_, rfl⟩)⟩)⟩)⟩⟩
            · have kf235_ : a ≤ (M_51.1 (12, 0, 0) 9).toInt := hv1_51.2.1
              have h236_ : PP M_51 (s + 1) (D + 1) (M_51.1 (12, 0, 0) 9).toInt T := PP_self (PP_mono hv1_51 (by rw [isX_p (lf_c_X12_term_2 v1_51 h234_ )]; exact Int.le_refl _) (Int.le_refl _))
              refine w_aload_n dX12_term_55 rfl 1 rfl ?_
              refine w_callVv (as := []) (rest := []) (c_X12_one l G cy ad d N m QA QB (s + 1) (D + 1) ((M_51.1 (12, 0, 0) 9).toInt) T M_51 hI_51 hA hB h236_ (lf_c_X12_opens_8 s hs ) kv0_51 hm) kV_X12_one pnn_17 (Nat.le_of_ble_eq_true rfl) m_1571 rfl rfl rfl ic_12 rfl rfl (by decide) (Nat.le_of_ble_eq_true rfl) dX12_term_56 (fun M237_ q238_ => ?_)
              obtain ⟨hI240_, hF241_, h239_, hs243_⟩ := q238_
              have hF242_ := hF_51.tr hF241_ (fun c k => (fun h => h.elim (fun h => (Or.inl ⟨h.1, h.2.1, h.2.2⟩)) (fun h => h.elim (fun h => (Or.inr (Or.inl ⟨h.1, h.2.1, h.2.2⟩))) (fun h => h.elim (fun h => (Or.inr (Or.inr (Or.inl ⟨h.1, h.2.1, h.2.2⟩)))) (fun h => h.elim (fun h => (Or.inr (Or.inr (Or.inr (Or.inl ⟨h.1, h.2.1, h.2.2⟩))))) (fun h => h.elim (fun h => (Or.inr (Or.inr (Or.inr (Or.inr (Or.inl ⟨h.1, h.2.1, h.2.2⟩)))))) (fun h => h.elim (fun h => (Or.inr (Or.inr (Or.inr (Or.inr (Or.inr (Or.inl ⟨h.1, h.2⟩))))))) (fun h => h.elim))))))))
              have h244_ : PP M237_ (s + 1) ((D + 1) + 1) (M_51.1 (12, 0, 0) 9).toInt T := h239_.1
              have kf245_ : (M237_.1 (12, 0, 0) 11).toInt + ((m : Nat) : Int) = 5 := h239_.2
              refine w_aload_n dX12_term_59 rfl 1 rfl ?_
              refine w_iload_n dX12_term_60 rfl 0 rfl ?_
              refine w_callVv (as := [vI v1_51]) (rest := []) (c_X12_codes l G cy ad ((N + d) + 9) v1_51 (s + 1) ((D + 1) + 1) ((M_51.1 (12, 0, 0) 9).toInt) T (D + 1) M237_ hI240_ h244_ (lf_c_X12_opens_8 s hs ) (stp_op (lf_c_X12_term_5 v1_51 hv0_51 h234_ ))) kV_X12_codes pnn_17 (Nat.le_of_ble_eq_true rfl) m_1583 rfl rfl rfl ic_12 rfl rfl (by decide) (Nat.le_of_ble_eq_true rfl) dX12_term_61 (fun M246_ q247_ => ?_)
              obtain ⟨hI249_, hF250_, h248_, hs252_⟩ := q247_
              have hF251_ := hF242_.tr hF250_ (fun c k => (fun h => h.elim (fun h => (Or.inr (Or.inr (Or.inr (Or.inr (Or.inl ⟨h.1, h.2.1, h.2.2⟩)))))) (fun h => h.elim (fun h => (Or.inr (Or.inr (Or.inr (Or.inr (Or.inr (Or.inl ⟨h.1, h.2⟩))))))) (fun h => h.elim))))
              have kf253_ : (M246_.1 (12, 0, 0) 11).toInt + ((m : Nat) : Int) = 5 := by rw [(hF250_ (12, 0, 0) 11 (by simp [S_codes]))]; exact kf245_
              refine w_aload_n dX12_term_64 rfl 1 rfl ?_
              refine w_bipush (v := 42) dX12_term_65 (by decide) ?_
              refine w_callV (as := [vI 42]) (rest := []) (c_X12_takes l G cy ad ((N + d) + 8) 42 ((s + 1) - 1) (D + 1) ((M_51.1 (12, 0, 0) 9).toInt) T M246_ hI249_ h248_ (by first | decide | (unfold vF; omega) | (unfold vRw; omega))) kV_X12_takes pnn_17 (Nat.le_of_ble_eq_true rfl) m_1591 rfl rfl rfl ic_12 rfl rfl (by decide) (Nat.le_of_ble_eq_true rfl) dX12_term_67 (fun r254_ M255_ q256_ => ?_)
              obtain ⟨hI258_, hF259_, h257_, hs261_⟩ := q256_
              have hF260_ := hF251_.tr hF259_ (fun c k => (fun h => h.elim (fun h => (Or.inl ⟨h.1, h.2.1, h.2.2⟩)) (fun h => h.elim)))
              have kf262_ : (M255_.1 (12, 0, 0) 11).toInt + ((m : Nat) : Int) = 5 := by rw [(hF259_ (12, 0, 0) 11 (by simp [S_here]))]; exact kf253_
              rcases h257_ with ⟨rfl, h257_⟩ | ⟨rfl, h257_⟩
              · have h263_ : PP M255_ (((s + 1) - 1) + 1) (D + 1) ((M_51.1 (12, 0, 0) 9).toInt + 1) T := h257_.1
                have kf264_ : M255_.1 (12, 0, 0) 13 = 0 := h257_.2
                refine w_if_eq (tgt := 79) dX12_term_70 (by decide) li_1 (fun h9 => (absurd h9 (by decide))) (fun h265_ => ?_)
                refine w_sipush (v := 2005) dX12_term_73 (by decide) ?_
                refine w_goto (tgt := 110) dX12_term_76 (by decide) ?_
                refine w_istore_n (ls' := [(1, vI 2005), (0, vR (12, 0, 0))]) dX12_term_110 rfl (by decide) rfl ?_
                refine w_goto (tgt := 51) dX12_term_111 (by decide) ?_
                refine w_loc (ls' := [(1, vI 2005), (0, vR (12, 0, 0))]) [0, 1] rfl ?_
                exact ih_51 M255_ hI258_ hF260_ 2005 (lf_c_X12_term_6 ) (PP_mono h263_ (lf_c_X12_term_7 M255_ M_51 s D T hs h263_ ) (lf_c_X12_term_8 M_51 a kf235_ kf235_ )) kf262_ (RCH.tail hL_51 ⟨hv0_51, hI_51, hF_51, h233_, h234_, M237_, hI240_, hF241_, hs243_, M246_, hI249_, hF250_, hs252_, M255_, hI258_, hF259_, (Or.inl ⟨hs261_, h263_, rfl, rfl⟩)⟩) (Nat.lt_of_lt_of_le (PP_meas (A := (M_51.1 (12, 0, 0) 9).toInt) (x := v1_51) (x' := (2005 : Int32)) (PP_mono h263_ (Int.le_refl _) (lf_c_X12_term_96 M11_ M159_ M1_ M237_ M246_ M255_ M85_ M_51 Mz m s D a T hs hk hm kf9_ kf18_ kf92_ kf166_ kv0_51 kf235_ kf235_ kf245_ kf253_ kf262_ h263_ kf264_ )) rfl (lf_c_X12_term_2 v1_51 h234_ )) (Nat.le_of_lt_succ hm_51))
              · refine w_if_eq (tgt := 79) dX12_term_70 (by decide) li_0 (fun h266_ => ?_) (fun h9 => (absurd h9 (by decide)))
                refine w_aload_n dX12_term_79 rfl 1 rfl ?_
                refine w_bipush (v := 47) dX12_term_80 (by decide) ?_
                refine w_callV (as := [vI 47]) (rest := []) (c_X12_takes l G cy ad ((N + d) + 8) 47 ((s + 1) - 1) (D + 1) ((M_51.1 (12, 0, 0) 9).toInt) T M255_ hI258_ h257_ (by first | decide | (unfold vF; omega) | (unfold vRw; omega))) kV_X12_takes pnn_17 (Nat.le_of_ble_eq_true rfl) m_1591 rfl rfl rfl ic_12 rfl rfl (by decide) (Nat.le_of_ble_eq_true rfl) dX12_term_82 (fun r267_ M268_ q269_ => ?_)
                obtain ⟨hI271_, hF272_, h270_, hs274_⟩ := q269_
                have hF273_ := hF260_.tr hF272_ (fun c k => (fun h => h.elim (fun h => (Or.inl ⟨h.1, h.2.1, h.2.2⟩)) (fun h => h.elim)))
                have kf275_ : (M268_.1 (12, 0, 0) 11).toInt + ((m : Nat) : Int) = 5 := by rw [(hF272_ (12, 0, 0) 11 (by simp [S_here]))]; exact kf262_
                rcases h270_ with ⟨rfl, h270_⟩ | ⟨rfl, h270_⟩
                · have h276_ : PP M268_ (((s + 1) - 1) + 1) (D + 1) ((M_51.1 (12, 0, 0) 9).toInt + 1) T := h270_.1
                  have kf277_ : M268_.1 (12, 0, 0) 13 = 0 := h270_.2
                  refine w_if_eq (tgt := 94) dX12_term_85 (by decide) li_1 (fun h9 => (absurd h9 (by decide))) (fun h278_ => ?_)
                  refine w_sipush (v := 2006) dX12_term_88 (by decide) ?_
                  refine w_goto (tgt := 110) dX12_term_91 (by decide) ?_
                  refine w_istore_n (ls' := [(1, vI 2006), (0, vR (12, 0, 0))]) dX12_term_110 rfl (by decide) rfl ?_
                  refine w_goto (tgt := 51) dX12_term_111 (by decide) ?_
                  refine w_loc (ls' := [(1, vI 2006), (0, vR (12, 0, 0))]) [0, 1] rfl ?_
                  exact ih_51 M268_ hI271_ hF273_ 2006 (lf_c_X12_term_11 ) (PP_mono h276_ (lf_c_X12_term_12 M268_ M_51 s D T hs h276_ ) (lf_c_X12_term_8 M_51 a kf235_ kf235_ )) kf275_ (RCH.tail hL_51 ⟨hv0_51, hI_51, hF_51, h233_, h234_, M237_, hI240_, hF241_, hs243_, M246_, hI249_, hF250_, hs252_, M255_, hI258_, hF259_, (Or.inr ⟨hs261_, M268_, hI271_, hF272_, (Or.inl ⟨hs274_, h276_, rfl, rfl⟩)⟩)⟩) (Nat.lt_of_lt_of_le (PP_meas (A := (M_51.1 (12, 0, 0) 9).toInt) (x := v1_51) (x' := (2006 : Int32)) (PP_mono h276_ (Int.le_refl _) (lf_c_X12_term_101 M11_ M159_ M1_ M237_ M246_ M255_ M268_ M85_ M_51 Mz m s D a T hs hk hm kf9_ kf18_ kf92_ kf166_ kv0_51 kf235_ kf235_ kf245_ kf253_ kf262_ kf275_ h276_ kf277_ )) rfl (lf_c_X12_term_2 v1_51 h234_ )) (Nat.le_of_lt_succ hm_51))
                · refine w_if_eq (tgt := 94) dX12_term_85 (by decide) li_0 (fun h279_ => ?_) (fun h9 => (absurd h9 (by decide)))
                  refine w_aload_n dX12_term_94 rfl 1 rfl ?_
                  refine w_bipush (v := 37) dX12_term_95 (by decide) ?_
                  refine w_callV (as := [vI 37]) (rest := []) (c_X12_takes l G cy ad ((N + d) + 8) 37 ((s + 1) - 1) (D + 1) ((M_51.1 (12, 0, 0) 9).toInt) T M268_ hI271_ h270_ (by first | decide | (unfold vF; omega) | (unfold vRw; omega))) kV_X12_takes pnn_17 (Nat.le_of_ble_eq_true rfl) m_1591 rfl rfl rfl ic_12 rfl rfl (by decide) (Nat.le_of_ble_eq_true rfl) dX12_term_97 (fun r280_ M281_ q282_ => ?_)
                  obtain ⟨hI284_, hF285_, h283_, hs287_⟩ := q282_
                  have hF286_ := hF273_.tr hF285_ (fun c k => (fun h => h.elim (fun h => (Or.inl ⟨h.1, h.2.1, h.2.2⟩)) (fun h => h.elim)))
                  have kf288_ : (M281_.1 (12, 0, 0) 11).toInt + ((m : Nat) : Int) = 5 := by rw [(hF285_ (12, 0, 0) 11 (by simp [S_here]))]; exact kf275_
                  rcases h283_ with ⟨rfl, h283_⟩ | ⟨rfl, h283_⟩
                  · have h289_ : PP M281_ (((s + 1) - 1) + 1) (D + 1) ((M_51.1 (12, 0, 0) 9).toInt + 1) T := h283_.1
                    have kf290_ : M281_.1 (12, 0, 0) 13 = 0 := h283_.2
                    refine w_if_eq (tgt := 109) dX12_term_100 (by decide) li_1 (fun h9 => (absurd h9 (by decide))) (fun h291_ => ?_)
                    refine w_sipush (v := 2007) dX12_term_103 (by decide) ?_
                    refine w_goto (tgt := 110) dX12_term_106 (by decide) ?_
                    refine w_istore_n (ls' := [(1, vI 2007), (0, vR (12, 0, 0))]) dX12_term_110 rfl (by decide) rfl ?_
                    refine w_goto (tgt := 51) dX12_term_111 (by decide) ?_
                    refine w_loc (ls' := [(1, vI 2007), (0, vR (12, 0, 0))]) [0, 1] rfl ?_
                    exact ih_51 M281_ hI284_ hF286_ 2007 (lf_c_X12_term_16 ) (PP_mono h289_ (lf_c_X12_term_17 M281_ M_51 s D T hs h289_ ) (lf_c_X12_term_8 M_51 a kf235_ kf235_ )) kf288_ (RCH.tail hL_51 ⟨hv0_51, hI_51, hF_51, h233_, h234_, M237_, hI240_, hF241_, hs243_, M246_, hI249_, hF250_, hs252_, M255_, hI258_, hF259_, (Or.inr ⟨hs261_, M268_, hI271_, hF272_, (Or.inr ⟨hs274_, M281_, hI284_, hF285_, (Or.inl ⟨hs287_, h289_, rfl, rfl⟩)⟩)⟩)⟩) (Nat.lt_of_lt_of_le (PP_meas (A := (M_51.1 (12, 0, 0) 9).toInt) (x := v1_51) (x' := (2007 : Int32)) (PP_mono h289_ (Int.le_refl _) (lf_c_X12_term_106 M11_ M159_ M1_ M237_ M246_ M255_ M268_ M281_ M85_ M_51 Mz m s D a T hs hk hm kf9_ kf18_ kf92_ kf166_ kv0_51 kf235_ kf235_ kf245_ kf253_ kf262_ kf275_ kf288_ h289_ kf290_ )) rfl (lf_c_X12_term_2 v1_51 h234_ )) (Nat.le_of_lt_succ hm_51))
                  · refine w_if_eq (tgt := 109) dX12_term_100 (by decide) li_0 (fun h292_ => ?_) (fun h9 => (absurd h9 (by decide)))
                    refine w_iconst (v := 0) dX12_term_109 (by decide) ?_
                    refine w_istore_n (ls' := [(1, vI 0), (0, vR (12, 0, 0))]) dX12_term_110 rfl (by decide) rfl ?_
                    refine w_goto (tgt := 51) dX12_term_111 (by decide) ?_
                    refine w_loc (ls' := [(1, vI 0), (0, vR (12, 0, 0))]) [0, 1] rfl ?_
                    exact ih_51 M281_ hI284_ hF286_ 0 (lf_c_X12_term_21 ) (PP_mono h283_ (lf_c_X12_term_22 M281_ M_51 s D T hs h283_ ) (lf_c_X12_term_23 M_51 a kf235_ kf235_ )) kf288_ (RCH.tail hL_51 ⟨hv0_51, hI_51, hF_51, h233_, h234_, M237_, hI240_, hF241_, hs243_, M246_, hI249_, hF250_, hs252_, M255_, hI258_, hF259_, (Or.inr ⟨hs261_, M268_, hI271_, hF272_, (Or.inr ⟨hs274_, M281_, hI284_, hF285_, (Or.inr ⟨hs287_, h283_, rfl, rfl⟩)⟩)⟩)⟩) (Nat.lt_of_lt_of_le (PP_meas (A := (M_51.1 (12, 0, 0) 9).toInt) (x := v1_51) (x' := (0 : Int32)) (PP_mono h283_ (Int.le_refl _) (lf_c_X12_term_111 M11_ M159_ M1_ M237_ M246_ M255_ M268_ M281_ M85_ M_51 Mz m s D a T hs hk hm kf9_ kf18_ kf92_ kf166_ kv0_51 kf235_ kf235_ kf245_ kf253_ kf262_ kf275_ kf288_ h283_ )) rfl (lf_c_X12_term_2 v1_51 h234_ )) (Nat.le_of_lt_succ hm_51))
        exact lp232_ _ M159_ hI162_ hF164_ 0 (lf_c_X12_term_21 ) (PP_mono h161_ (lf_c_X12_term_114 M159_ s D a T hs h161_ ) (Int.le_refl _)) kf166_ RCH.refl (Nat.lt_succ_self _)
def ST_X12_sum_36 (N : Nat) (m : Nat) (QA : mM → mM → Prop) (QB : mM → mM → Prop) (s : Int) (D : Nat) (T : Int) (Mz : mM) (v1_36 : Int32) (M_36 : mM) (v1_36y : Int32) (M_36y : mM) : Prop := (v1_36.toInt = 0 ∨ (2003 ≤ v1_36.toInt ∧ v1_36.toInt ≤ 2004)) ∧ (InvD M_36) ∧ (FR (S_par) Mz M_36) ∧ (0 ≤ isX v1_36 ∧ isX v1_36 ≤ 1) ∧ (0 < v1_36.toInt) ∧ ∃ M27_ : mM, (InvD M27_) ∧ (FR (S_par) M_36 M27_) ∧ (SP_X12_term N m QA QB (s + 1) (D + 1) ((M_36.1 (12, 0, 0) 9).toInt) T M_36 M27_) ∧ ∃ M36_ : mM, (InvD M36_) ∧ (FR (S_codes) M27_ M36_) ∧ (SP_X12_codes v1_36 (s + 1) ((D + 1) + 1) ((M_36.1 (12, 0, 0) 9).toInt) T (D + 1) M27_ M36_) ∧ ∃ M45_ : mM, (InvD M45_) ∧ (FR (S_here) M36_ M45_) ∧ (((SP_X12_takes 43 ((s + 1) - 1) (D + 1) ((M_36.1 (12, 0, 0) 9).toInt) T M36_ (1 : Int32) M45_) ∧ (PP M45_ (((s + 1) - 1) + 1) (D + 1) ((M_36.1 (12, 0, 0) 9).toInt + 1) T) ∧ v1_36y = 2003 ∧ M_36y = M45_) ∨ ((SP_X12_takes 43 ((s + 1) - 1) (D + 1) ((M_36.1 (12, 0, 0) 9).toInt) T M36_ (0 : Int32) M45_) ∧ ∃ M58_ : mM, (InvD M58_) ∧ (FR (S_here) M45_ M58_) ∧ (((SP_X12_takes 45 ((s + 1) - 1) (D + 1) ((M_36.1 (12, 0, 0) 9).toInt) T M45_ (1 : Int32) M58_) ∧ (PP M58_ (((s + 1) - 1) + 1) (D + 1) ((M_36.1 (12, 0, 0) 9).toInt + 1) T) ∧ v1_36y = 2004 ∧ M_36y = M58_) ∨ ((SP_X12_takes 45 ((s + 1) - 1) (D + 1) ((M_36.1 (12, 0, 0) 9).toInt) T M45_ (0 : Int32) M58_) ∧ (PP M58_ ((s + 1) - 1) (D + 1) (M_36.1 (12, 0, 0) 9).toInt T) ∧ v1_36y = 0 ∧ M_36y = M58_))))
def ST_X12_sum_36b (N : Nat) (m : Nat) (QA : mM → mM → Prop) (QB : mM → mM → Prop) (s : Int) (D : Nat) (T : Int) (Mz : mM) (v1_36 : Int32) (M_36 : mM) (v1_36y : Int32) (M_36y : mM) : Prop := (v1_36.toInt = 0 ∨ (2003 ≤ v1_36.toInt ∧ v1_36.toInt ≤ 2004)) ∧ (InvD M_36) ∧ (FR (S_par) Mz M_36) ∧ (0 ≤ isX v1_36 ∧ isX v1_36 ≤ 1) ∧ (0 < v1_36.toInt) ∧ ∃ M88_ : mM, (InvD M88_) ∧ (FR (S_par) M_36 M88_) ∧ (SP_X12_term N m QA QB (s + 1) (D + 1) ((M_36.1 (12, 0, 0) 9).toInt) T M_36 M88_) ∧ ∃ M97_ : mM, (InvD M97_) ∧ (FR (S_codes) M88_ M97_) ∧ (SP_X12_codes v1_36 (s + 1) ((D + 1) + 1) ((M_36.1 (12, 0, 0) 9).toInt) T (D + 1) M88_ M97_) ∧ ∃ M106_ : mM, (InvD M106_) ∧ (FR (S_here) M97_ M106_) ∧ (((SP_X12_takes 43 ((s + 1) - 1) (D + 1) ((M_36.1 (12, 0, 0) 9).toInt) T M97_ (1 : Int32) M106_) ∧ (PP M106_ (((s + 1) - 1) + 1) (D + 1) ((M_36.1 (12, 0, 0) 9).toInt + 1) T) ∧ v1_36y = 2003 ∧ M_36y = M106_) ∨ ((SP_X12_takes 43 ((s + 1) - 1) (D + 1) ((M_36.1 (12, 0, 0) 9).toInt) T M97_ (0 : Int32) M106_) ∧ ∃ M119_ : mM, (InvD M119_) ∧ (FR (S_here) M106_ M119_) ∧ (((SP_X12_takes 45 ((s + 1) - 1) (D + 1) ((M_36.1 (12, 0, 0) 9).toInt) T M106_ (1 : Int32) M119_) ∧ (PP M119_ (((s + 1) - 1) + 1) (D + 1) ((M_36.1 (12, 0, 0) 9).toInt + 1) T) ∧ v1_36y = 2004 ∧ M_36y = M119_) ∨ ((SP_X12_takes 45 ((s + 1) - 1) (D + 1) ((M_36.1 (12, 0, 0) 9).toInt) T M106_ (0 : Int32) M119_) ∧ (PP M119_ ((s + 1) - 1) (D + 1) (M_36.1 (12, 0, 0) 9).toInt T) ∧ v1_36y = 0 ∧ M_36y = M119_))))
def ST_X12_sum_36c (N : Nat) (m : Nat) (QA : mM → mM → Prop) (QB : mM → mM → Prop) (s : Int) (D : Nat) (T : Int) (Mz : mM) (v1_36 : Int32) (M_36 : mM) (v1_36y : Int32) (M_36y : mM) : Prop := (v1_36.toInt = 0 ∨ (2003 ≤ v1_36.toInt ∧ v1_36.toInt ≤ 2004)) ∧ (InvD M_36) ∧ (FR (S_par) Mz M_36) ∧ (0 ≤ isX v1_36 ∧ isX v1_36 ≤ 1) ∧ (0 < v1_36.toInt) ∧ ∃ M137_ : mM, (InvD M137_) ∧ (FR (S_par) M_36 M137_) ∧ (SP_X12_term N m QA QB (s + 1) (D + 1) ((M_36.1 (12, 0, 0) 9).toInt) T M_36 M137_) ∧ ∃ M146_ : mM, (InvD M146_) ∧ (FR (S_codes) M137_ M146_) ∧ (SP_X12_codes v1_36 (s + 1) ((D + 1) + 1) ((M_36.1 (12, 0, 0) 9).toInt) T (D + 1) M137_ M146_) ∧ ∃ M155_ : mM, (InvD M155_) ∧ (FR (S_here) M146_ M155_) ∧ (((SP_X12_takes 43 ((s + 1) - 1) (D + 1) ((M_36.1 (12, 0, 0) 9).toInt) T M146_ (1 : Int32) M155_) ∧ (PP M155_ (((s + 1) - 1) + 1) (D + 1) ((M_36.1 (12, 0, 0) 9).toInt + 1) T) ∧ v1_36y = 2003 ∧ M_36y = M155_) ∨ ((SP_X12_takes 43 ((s + 1) - 1) (D + 1) ((M_36.1 (12, 0, 0) 9).toInt) T M146_ (0 : Int32) M155_) ∧ ∃ M168_ : mM, (InvD M168_) ∧ (FR (S_here) M155_ M168_) ∧ (((SP_X12_takes 45 ((s + 1) - 1) (D + 1) ((M_36.1 (12, 0, 0) 9).toInt) T M155_ (1 : Int32) M168_) ∧ (PP M168_ (((s + 1) - 1) + 1) (D + 1) ((M_36.1 (12, 0, 0) 9).toInt + 1) T) ∧ v1_36y = 2004 ∧ M_36y = M168_) ∨ ((SP_X12_takes 45 ((s + 1) - 1) (D + 1) ((M_36.1 (12, 0, 0) 9).toInt) T M155_ (0 : Int32) M168_) ∧ (PP M168_ ((s + 1) - 1) (D + 1) (M_36.1 (12, 0, 0) 9).toInt T) ∧ v1_36y = 0 ∧ M_36y = M168_))))
def SP_X12_sum (N : Nat) (m : Nat) (QA : mM → mM → Prop) (QB : mM → mM → Prop) (s : Int) (D : Nat) (a : Int) (T : Int) (Mz : mM) (M_ : mM) : Prop := ∃ M1_ : mM, (InvD M1_) ∧ (FR (S_par) Mz M1_) ∧ (SP_X12_term N m QA QB s D a T Mz M1_) ∧ ∃ M11_ : mM, (InvD M11_) ∧ (FR (S_here) M1_ M11_) ∧ (((SP_X12_takes 43 s (D + 1) a T M1_ (1 : Int32) M11_) ∧ ∃ v1_36 : Int32, (v1_36.toInt = 0 ∨ (2003 ≤ v1_36.toInt ∧ v1_36.toInt ≤ 2004)) ∧ ∃ M_36 : mM, (RCH (fun x_ y_ => ST_X12_sum_36 N m QA QB s D T Mz x_.1 x_.2 y_.1 y_.2) ((2003 : Int32), M11_) (v1_36, M_36)) ∧ (InvD M_36) ∧ (FR (S_par) Mz M_36) ∧ (PP M_36 (s + isX v1_36) (D + 1) a T) ∧ (0 ≤ isX v1_36 ∧ isX v1_36 ≤ 1) ∧ (v1_36.toInt ≤ 0) ∧ M_ = M_36) ∨ ((SP_X12_takes 43 s (D + 1) a T M1_ (0 : Int32) M11_) ∧ ∃ M72_ : mM, (InvD M72_) ∧ (FR (S_here) M11_ M72_) ∧ (((SP_X12_takes 45 s (D + 1) a T M11_ (1 : Int32) M72_) ∧ ∃ v1_36 : Int32, (v1_36.toInt = 0 ∨ (2003 ≤ v1_36.toInt ∧ v1_36.toInt ≤ 2004)) ∧ ∃ M_36 : mM, (RCH (fun x_ y_ => ST_X12_sum_36b N m QA QB s D T Mz x_.1 x_.2 y_.1 y_.2) ((2004 : Int32), M72_) (v1_36, M_36)) ∧ (InvD M_36) ∧ (FR (S_par) Mz M_36) ∧ (PP M_36 (s + isX v1_36) (D + 1) a T) ∧ (0 ≤ isX v1_36 ∧ isX v1_36 ≤ 1) ∧ (v1_36.toInt ≤ 0) ∧ M_ = M_36) ∨ ((SP_X12_takes 45 s (D + 1) a T M11_ (0 : Int32) M72_) ∧ ∃ v1_36 : Int32, (v1_36.toInt = 0 ∨ (2003 ≤ v1_36.toInt ∧ v1_36.toInt ≤ 2004)) ∧ ∃ M_36 : mM, (RCH (fun x_ y_ => ST_X12_sum_36c N m QA QB s D T Mz x_.1 x_.2 y_.1 y_.2) ((0 : Int32), M72_) (v1_36, M_36)) ∧ (InvD M_36) ∧ (FR (S_par) Mz M_36) ∧ (PP M_36 (s + isX v1_36) (D + 1) a T) ∧ (0 ≤ isX v1_36 ∧ isX v1_36 ≤ 1) ∧ (v1_36.toInt ≤ 0) ∧ M_ = M_36))))
theorem lf_c_X12_sum_0 (M_36 : mM) (s : Int) (D : Nat) (a : Int) (T : Int) (v1_36 : Int32) (hs : 0 ≤ s) (hv0_36 : v1_36.toInt = 0 ∨ (2003 ≤ v1_36.toInt ∧ v1_36.toInt ≤ 2004)) (hv1_36 : PP M_36 (s + isX v1_36) (D + 1) a T) (h23_ : 0 ≤ isX v1_36 ∧ isX v1_36 ≤ 1) (h24_ : v1_36.toInt ≤ 0) : s ≤ (s + isX v1_36) := by have r_v1_36 := rngI v1_36; omega
theorem lf_c_X12_sum_5 (v1_36 : Int32) (hv0_36 : v1_36.toInt = 0 ∨ (2003 ≤ v1_36.toInt ∧ v1_36.toInt ≤ 2004)) (h24_ : 0 < v1_36.toInt) : 2000 ≤ v1_36.toInt ∧ v1_36.toInt < 2008 := by omega
theorem lf_c_X12_sum_6 : (2003 : Int32).toInt = 0 ∨ (2003 ≤ (2003 : Int32).toInt ∧ (2003 : Int32).toInt ≤ 2004) := by have q0 := li_2003; omega
theorem lf_c_X12_sum_7 (M45_ : mM) (M_36 : mM) (s : Int) (D : Nat) (T : Int) (hs : 0 ≤ s) (h53_ : PP M45_ (((s + 1) - 1) + 1) (D + 1) ((M_36.1 (12, 0, 0) 9).toInt + 1) T) : (s + isX (2003 : Int32)) ≤ (((s + 1) - 1) + 1) := by have h9 := isX_p (v := (2003 : Int32)) (by decide); omega
theorem lf_c_X12_sum_9 (M11_ : mM) (M1_ : mM) (M27_ : mM) (M36_ : mM) (M45_ : mM) (M_36 : mM) (Mz : mM) (m : Nat) (s : Int) (D : Nat) (a : Int) (T : Int) (hs : 0 ≤ s) (hk : (Mz.1 (12, 0, 0) 11).toInt + ((m : Nat) : Int) = 5) (hm : m ≤ 5) (kf9_ : (M1_.1 (12, 0, 0) 11).toInt + ((m : Nat) : Int) = 5) (kf18_ : (M11_.1 (12, 0, 0) 11).toInt + ((m : Nat) : Int) = 5) (kf20_ : M11_.1 (12, 0, 0) 13 = 0) (kv0_36 : (M_36.1 (12, 0, 0) 11).toInt + ((m : Nat) : Int) = 5) (kf25_ : a ≤ (M_36.1 (12, 0, 0) 9).toInt) (kf25_ : a ≤ (M_36.1 (12, 0, 0) 9).toInt) (kf35_ : (M27_.1 (12, 0, 0) 11).toInt + ((m : Nat) : Int) = 5) (kf43_ : (M36_.1 (12, 0, 0) 11).toInt + ((m : Nat) : Int) = 5) (kf52_ : (M45_.1 (12, 0, 0) 11).toInt + ((m : Nat) : Int) = 5) (h53_ : PP M45_ (((s + 1) - 1) + 1) (D + 1) ((M_36.1 (12, 0, 0) 9).toInt + 1) T) (kf54_ : M45_.1 (12, 0, 0) 13 = 0) : (M_36.1 (12, 0, 0) 9).toInt + isX (2003 : Int32) ≤ ((M_36.1 (12, 0, 0) 9).toInt + 1) := by have h9 := isX_p (v := (2003 : Int32)) (by decide); omega
theorem lf_c_X12_sum_11 : (2004 : Int32).toInt = 0 ∨ (2003 ≤ (2004 : Int32).toInt ∧ (2004 : Int32).toInt ≤ 2004) := by have q0 := li_2004; omega
theorem lf_c_X12_sum_12 (M58_ : mM) (M_36 : mM) (s : Int) (D : Nat) (T : Int) (hs : 0 ≤ s) (h66_ : PP M58_ (((s + 1) - 1) + 1) (D + 1) ((M_36.1 (12, 0, 0) 9).toInt + 1) T) : (s + isX (2004 : Int32)) ≤ (((s + 1) - 1) + 1) := by have h9 := isX_p (v := (2004 : Int32)) (by decide); omega
theorem lf_c_X12_sum_14 (M11_ : mM) (M1_ : mM) (M27_ : mM) (M36_ : mM) (M45_ : mM) (M58_ : mM) (M_36 : mM) (Mz : mM) (m : Nat) (s : Int) (D : Nat) (a : Int) (T : Int) (hs : 0 ≤ s) (hk : (Mz.1 (12, 0, 0) 11).toInt + ((m : Nat) : Int) = 5) (hm : m ≤ 5) (kf9_ : (M1_.1 (12, 0, 0) 11).toInt + ((m : Nat) : Int) = 5) (kf18_ : (M11_.1 (12, 0, 0) 11).toInt + ((m : Nat) : Int) = 5) (kf20_ : M11_.1 (12, 0, 0) 13 = 0) (kv0_36 : (M_36.1 (12, 0, 0) 11).toInt + ((m : Nat) : Int) = 5) (kf25_ : a ≤ (M_36.1 (12, 0, 0) 9).toInt) (kf25_ : a ≤ (M_36.1 (12, 0, 0) 9).toInt) (kf35_ : (M27_.1 (12, 0, 0) 11).toInt + ((m : Nat) : Int) = 5) (kf43_ : (M36_.1 (12, 0, 0) 11).toInt + ((m : Nat) : Int) = 5) (kf52_ : (M45_.1 (12, 0, 0) 11).toInt + ((m : Nat) : Int) = 5) (kf65_ : (M58_.1 (12, 0, 0) 11).toInt + ((m : Nat) : Int) = 5) (h66_ : PP M58_ (((s + 1) - 1) + 1) (D + 1) ((M_36.1 (12, 0, 0) 9).toInt + 1) T) (kf67_ : M58_.1 (12, 0, 0) 13 = 0) : (M_36.1 (12, 0, 0) 9).toInt + isX (2004 : Int32) ≤ ((M_36.1 (12, 0, 0) 9).toInt + 1) := by have h9 := isX_p (v := (2004 : Int32)) (by decide); omega
theorem lf_c_X12_sum_16 : (0 : Int32).toInt = 0 ∨ (2003 ≤ (0 : Int32).toInt ∧ (0 : Int32).toInt ≤ 2004) := by have q0 := li_0; omega
theorem lf_c_X12_sum_19 (M11_ : mM) (M1_ : mM) (M27_ : mM) (M36_ : mM) (M45_ : mM) (M58_ : mM) (M_36 : mM) (Mz : mM) (m : Nat) (s : Int) (D : Nat) (a : Int) (T : Int) (hs : 0 ≤ s) (hk : (Mz.1 (12, 0, 0) 11).toInt + ((m : Nat) : Int) = 5) (hm : m ≤ 5) (kf9_ : (M1_.1 (12, 0, 0) 11).toInt + ((m : Nat) : Int) = 5) (kf18_ : (M11_.1 (12, 0, 0) 11).toInt + ((m : Nat) : Int) = 5) (kf20_ : M11_.1 (12, 0, 0) 13 = 0) (kv0_36 : (M_36.1 (12, 0, 0) 11).toInt + ((m : Nat) : Int) = 5) (kf25_ : a ≤ (M_36.1 (12, 0, 0) 9).toInt) (kf25_ : a ≤ (M_36.1 (12, 0, 0) 9).toInt) (kf35_ : (M27_.1 (12, 0, 0) 11).toInt + ((m : Nat) : Int) = 5) (kf43_ : (M36_.1 (12, 0, 0) 11).toInt + ((m : Nat) : Int) = 5) (kf52_ : (M45_.1 (12, 0, 0) 11).toInt + ((m : Nat) : Int) = 5) (kf65_ : (M58_.1 (12, 0, 0) 11).toInt + ((m : Nat) : Int) = 5) (h60_ : PP M58_ ((s + 1) - 1) (D + 1) (M_36.1 (12, 0, 0) 9).toInt T) : (M_36.1 (12, 0, 0) 9).toInt + isX (0 : Int32) ≤ (M_36.1 (12, 0, 0) 9).toInt := by have h9 := isX_0 (v := (0 : Int32)) (by decide); omega
theorem lf_c_X12_sum_22 (M11_ : mM) (s : Int) (D : Nat) (a : Int) (T : Int) (hs : 0 ≤ s) (h19_ : PP M11_ (s + 1) (D + 1) (a + 1) T) : (s + isX (2003 : Int32)) ≤ (s + 1) := by have h9 := isX_p (v := (2003 : Int32)) (by decide); omega
theorem lf_c_X12_sum_33 (M106_ : mM) (M11_ : mM) (M1_ : mM) (M72_ : mM) (M88_ : mM) (M97_ : mM) (M_36 : mM) (Mz : mM) (m : Nat) (s : Int) (D : Nat) (a : Int) (T : Int) (hs : 0 ≤ s) (hk : (Mz.1 (12, 0, 0) 11).toInt + ((m : Nat) : Int) = 5) (hm : m ≤ 5) (kf9_ : (M1_.1 (12, 0, 0) 11).toInt + ((m : Nat) : Int) = 5) (kf18_ : (M11_.1 (12, 0, 0) 11).toInt + ((m : Nat) : Int) = 5) (kf79_ : (M72_.1 (12, 0, 0) 11).toInt + ((m : Nat) : Int) = 5) (kf81_ : M72_.1 (12, 0, 0) 13 = 0) (kv0_36 : (M_36.1 (12, 0, 0) 11).toInt + ((m : Nat) : Int) = 5) (kf86_ : a ≤ (M_36.1 (12, 0, 0) 9).toInt) (kf86_ : a ≤ (M_36.1 (12, 0, 0) 9).toInt) (kf96_ : (M88_.1 (12, 0, 0) 11).toInt + ((m : Nat) : Int) = 5) (kf104_ : (M97_.1 (12, 0, 0) 11).toInt + ((m : Nat) : Int) = 5) (kf113_ : (M106_.1 (12, 0, 0) 11).toInt + ((m : Nat) : Int) = 5) (h114_ : PP M106_ (((s + 1) - 1) + 1) (D + 1) ((M_36.1 (12, 0, 0) 9).toInt + 1) T) (kf115_ : M106_.1 (12, 0, 0) 13 = 0) : (M_36.1 (12, 0, 0) 9).toInt + isX (2003 : Int32) ≤ ((M_36.1 (12, 0, 0) 9).toInt + 1) := by have h9 := isX_p (v := (2003 : Int32)) (by decide); omega
theorem lf_c_X12_sum_38 (M106_ : mM) (M119_ : mM) (M11_ : mM) (M1_ : mM) (M72_ : mM) (M88_ : mM) (M97_ : mM) (M_36 : mM) (Mz : mM) (m : Nat) (s : Int) (D : Nat) (a : Int) (T : Int) (hs : 0 ≤ s) (hk : (Mz.1 (12, 0, 0) 11).toInt + ((m : Nat) : Int) = 5) (hm : m ≤ 5) (kf9_ : (M1_.1 (12, 0, 0) 11).toInt + ((m : Nat) : Int) = 5) (kf18_ : (M11_.1 (12, 0, 0) 11).toInt + ((m : Nat) : Int) = 5) (kf79_ : (M72_.1 (12, 0, 0) 11).toInt + ((m : Nat) : Int) = 5) (kf81_ : M72_.1 (12, 0, 0) 13 = 0) (kv0_36 : (M_36.1 (12, 0, 0) 11).toInt + ((m : Nat) : Int) = 5) (kf86_ : a ≤ (M_36.1 (12, 0, 0) 9).toInt) (kf86_ : a ≤ (M_36.1 (12, 0, 0) 9).toInt) (kf96_ : (M88_.1 (12, 0, 0) 11).toInt + ((m : Nat) : Int) = 5) (kf104_ : (M97_.1 (12, 0, 0) 11).toInt + ((m : Nat) : Int) = 5) (kf113_ : (M106_.1 (12, 0, 0) 11).toInt + ((m : Nat) : Int) = 5) (kf126_ : (M119_.1 (12, 0, 0) 11).toInt + ((m : Nat) : Int) = 5) (h127_ : PP M119_ (((s + 1) - 1) + 1) (D + 1) ((M_36.1 (12, 0, 0) 9).toInt + 1) T) (kf128_ : M119_.1 (12, 0, 0) 13 = 0) : (M_36.1 (12, 0, 0) 9).toInt + isX (2004 : Int32) ≤ ((M_36.1 (12, 0, 0) 9).toInt + 1) := by have h9 := isX_p (v := (2004 : Int32)) (by decide); omega
theorem lf_c_X12_sum_43 (M106_ : mM) (M119_ : mM) (M11_ : mM) (M1_ : mM) (M72_ : mM) (M88_ : mM) (M97_ : mM) (M_36 : mM) (Mz : mM) (m : Nat) (s : Int) (D : Nat) (a : Int) (T : Int) (hs : 0 ≤ s) (hk : (Mz.1 (12, 0, 0) 11).toInt + ((m : Nat) : Int) = 5) (hm : m ≤ 5) (kf9_ : (M1_.1 (12, 0, 0) 11).toInt + ((m : Nat) : Int) = 5) (kf18_ : (M11_.1 (12, 0, 0) 11).toInt + ((m : Nat) : Int) = 5) (kf79_ : (M72_.1 (12, 0, 0) 11).toInt + ((m : Nat) : Int) = 5) (kf81_ : M72_.1 (12, 0, 0) 13 = 0) (kv0_36 : (M_36.1 (12, 0, 0) 11).toInt + ((m : Nat) : Int) = 5) (kf86_ : a ≤ (M_36.1 (12, 0, 0) 9).toInt) (kf86_ : a ≤ (M_36.1 (12, 0, 0) 9).toInt) (kf96_ : (M88_.1 (12, 0, 0) 11).toInt + ((m : Nat) : Int) = 5) (kf104_ : (M97_.1 (12, 0, 0) 11).toInt + ((m : Nat) : Int) = 5) (kf113_ : (M106_.1 (12, 0, 0) 11).toInt + ((m : Nat) : Int) = 5) (kf126_ : (M119_.1 (12, 0, 0) 11).toInt + ((m : Nat) : Int) = 5) (h121_ : PP M119_ ((s + 1) - 1) (D + 1) (M_36.1 (12, 0, 0) 9).toInt T) : (M_36.1 (12, 0, 0) 9).toInt + isX (0 : Int32) ≤ (M_36.1 (12, 0, 0) 9).toInt := by have h9 := isX_0 (v := (0 : Int32)) (by decide); omega
theorem lf_c_X12_sum_46 (M72_ : mM) (s : Int) (D : Nat) (a : Int) (T : Int) (hs : 0 ≤ s) (h80_ : PP M72_ (s + 1) (D + 1) (a + 1) T) : (s + isX (2004 : Int32)) ≤ (s + 1) := by have h9 := isX_p (v := (2004 : Int32)) (by decide); omega
theorem lf_c_X12_sum_57 (M11_ : mM) (M137_ : mM) (M146_ : mM) (M155_ : mM) (M1_ : mM) (M72_ : mM) (M_36 : mM) (Mz : mM) (m : Nat) (s : Int) (D : Nat) (a : Int) (T : Int) (hs : 0 ≤ s) (hk : (Mz.1 (12, 0, 0) 11).toInt + ((m : Nat) : Int) = 5) (hm : m ≤ 5) (kf9_ : (M1_.1 (12, 0, 0) 11).toInt + ((m : Nat) : Int) = 5) (kf18_ : (M11_.1 (12, 0, 0) 11).toInt + ((m : Nat) : Int) = 5) (kf79_ : (M72_.1 (12, 0, 0) 11).toInt + ((m : Nat) : Int) = 5) (kv0_36 : (M_36.1 (12, 0, 0) 11).toInt + ((m : Nat) : Int) = 5) (kf135_ : a ≤ (M_36.1 (12, 0, 0) 9).toInt) (kf135_ : a ≤ (M_36.1 (12, 0, 0) 9).toInt) (kf145_ : (M137_.1 (12, 0, 0) 11).toInt + ((m : Nat) : Int) = 5) (kf153_ : (M146_.1 (12, 0, 0) 11).toInt + ((m : Nat) : Int) = 5) (kf162_ : (M155_.1 (12, 0, 0) 11).toInt + ((m : Nat) : Int) = 5) (h163_ : PP M155_ (((s + 1) - 1) + 1) (D + 1) ((M_36.1 (12, 0, 0) 9).toInt + 1) T) (kf164_ : M155_.1 (12, 0, 0) 13 = 0) : (M_36.1 (12, 0, 0) 9).toInt + isX (2003 : Int32) ≤ ((M_36.1 (12, 0, 0) 9).toInt + 1) := by have h9 := isX_p (v := (2003 : Int32)) (by decide); omega
theorem lf_c_X12_sum_62 (M11_ : mM) (M137_ : mM) (M146_ : mM) (M155_ : mM) (M168_ : mM) (M1_ : mM) (M72_ : mM) (M_36 : mM) (Mz : mM) (m : Nat) (s : Int) (D : Nat) (a : Int) (T : Int) (hs : 0 ≤ s) (hk : (Mz.1 (12, 0, 0) 11).toInt + ((m : Nat) : Int) = 5) (hm : m ≤ 5) (kf9_ : (M1_.1 (12, 0, 0) 11).toInt + ((m : Nat) : Int) = 5) (kf18_ : (M11_.1 (12, 0, 0) 11).toInt + ((m : Nat) : Int) = 5) (kf79_ : (M72_.1 (12, 0, 0) 11).toInt + ((m : Nat) : Int) = 5) (kv0_36 : (M_36.1 (12, 0, 0) 11).toInt + ((m : Nat) : Int) = 5) (kf135_ : a ≤ (M_36.1 (12, 0, 0) 9).toInt) (kf135_ : a ≤ (M_36.1 (12, 0, 0) 9).toInt) (kf145_ : (M137_.1 (12, 0, 0) 11).toInt + ((m : Nat) : Int) = 5) (kf153_ : (M146_.1 (12, 0, 0) 11).toInt + ((m : Nat) : Int) = 5) (kf162_ : (M155_.1 (12, 0, 0) 11).toInt + ((m : Nat) : Int) = 5) (kf175_ : (M168_.1 (12, 0, 0) 11).toInt + ((m : Nat) : Int) = 5) (h176_ : PP M168_ (((s + 1) - 1) + 1) (D + 1) ((M_36.1 (12, 0, 0) 9).toInt + 1) T) (kf177_ : M168_.1 (12, 0, 0) 13 = 0) : (M_36.1 (12, 0, 0) 9).toInt + isX (2004 : Int32) ≤ ((M_36.1 (12, 0, 0) 9).toInt + 1) := by have h9 := isX_p (v := (2004 : Int32)) (by decide); omega
theorem lf_c_X12_sum_67 (M11_ : mM) (M137_ : mM) (M146_ : mM) (M155_ : mM) (M168_ : mM) (M1_ : mM) (M72_ : mM) (M_36 : mM) (Mz : mM) (m : Nat) (s : Int) (D : Nat) (a : Int) (T : Int) (hs : 0 ≤ s) (hk : (Mz.1 (12, 0, 0) 11).toInt + ((m : Nat) : Int) = 5) (hm : m ≤ 5) (kf9_ : (M1_.1 (12, 0, 0) 11).toInt + ((m : Nat) : Int) = 5) (kf18_ : (M11_.1 (12, 0, 0) 11).toInt + ((m : Nat) : Int) = 5) (kf79_ : (M72_.1 (12, 0, 0) 11).toInt + ((m : Nat) : Int) = 5) (kv0_36 : (M_36.1 (12, 0, 0) 11).toInt + ((m : Nat) : Int) = 5) (kf135_ : a ≤ (M_36.1 (12, 0, 0) 9).toInt) (kf135_ : a ≤ (M_36.1 (12, 0, 0) 9).toInt) (kf145_ : (M137_.1 (12, 0, 0) 11).toInt + ((m : Nat) : Int) = 5) (kf153_ : (M146_.1 (12, 0, 0) 11).toInt + ((m : Nat) : Int) = 5) (kf162_ : (M155_.1 (12, 0, 0) 11).toInt + ((m : Nat) : Int) = 5) (kf175_ : (M168_.1 (12, 0, 0) 11).toInt + ((m : Nat) : Int) = 5) (h170_ : PP M168_ ((s + 1) - 1) (D + 1) (M_36.1 (12, 0, 0) 9).toInt T) : (M_36.1 (12, 0, 0) 9).toInt + isX (0 : Int32) ≤ (M_36.1 (12, 0, 0) 9).toInt := by have h9 := isX_0 (v := (0 : Int32)) (by decide); omega
set_option maxHeartbeats 4000000 in
set_option maxRecDepth 100000 in
theorem c_X12_sum (l : Launch) (G : va_G) (cy : Nat → ClassId) (ad : rf → Nat) (d : Nat) (N : Nat) (m : Nat) (QA : mM → mM → Prop) (QB : mM → mM → Prop) (s : Int) (D : Nat) (a : Int) (T : Int) (Mz : mM) (hIz : InvD Mz) (hA : ∀ k : Nat, k + 1 = m → ONED l G cy ad N k QA) (hB : ∀ k : Nat, k + 1 = m → TXTD l G cy ad N k QB) (hp : PP Mz s D a T) (hs : 0 ≤ s) (hk : (Mz.1 (12, 0, 0) 11).toInt + ((m : Nat) : Int) = 5) (hm : m ≤ 5) : WP DD l G cy ad yX12_sum cX12_sum 2 none ((N + d) + 11) 0 [(0, vR (12, 0, 0))] [] Mz (fun r M' => InvD M' ∧ FR (S_par) Mz M' ∧ (PP M' s (D + 1) a T ∧ (M'.1 (12, 0, 0) 11).toInt + ((m : Nat) : Int) = 5) ∧ SP_X12_sum N m QA QB s D a T Mz M') := by
  have hFz : FR (S_par) Mz Mz := FR.self
  refine w_aload_n dX12_sum_0 rfl 0 rfl ?_
  refine w_callVv (as := []) (rest := []) (c_X12_term l G cy ad d N m QA QB s D a T Mz hIz hA hB hp hs hk hm) kV_X12_term pnn_17 (Nat.le_of_ble_eq_true rfl) m_1567 rfl rfl rfl ic_12 rfl rfl (by decide) (Nat.le_of_ble_eq_true rfl) dX12_sum_1 (fun M1_ q2_ => ?_)
  obtain ⟨hI4_, hF5_, h3_, hs7_⟩ := q2_
  have hF6_ := hFz.tr hF5_ (fun c k => (fun h => h.elim (fun h => (Or.inl ⟨h.1, h.2.1, h.2.2⟩)) (fun h => h.elim (fun h => (Or.inr (Or.inl ⟨h.1, h.2.1, h.2.2⟩))) (fun h => h.elim (fun h => (Or.inr (Or.inr (Or.inl ⟨h.1, h.2.1, h.2.2⟩)))) (fun h => h.elim (fun h => (Or.inr (Or.inr (Or.inr (Or.inl ⟨h.1, h.2.1, h.2.2⟩))))) (fun h => h.elim (fun h => (Or.inr (Or.inr (Or.inr (Or.inr (Or.inl ⟨h.1, h.2.1, h.2.2⟩)))))) (fun h => h.elim (fun h => (Or.inr (Or.inr (Or.inr (Or.inr (Or.inr (Or.inl ⟨h.1, h.2⟩))))))) (fun h => h.elim))))))))
  have h8_ : PP M1_ s (D + 1) a T := h3_.1
  have kf9_ : (M1_.1 (12, 0, 0) 11).toInt + ((m : Nat) : Int) = 5 := h3_.2
  refine w_aload_n dX12_sum_4 rfl 0 rfl ?_
  refine w_bipush (v := 43) dX12_sum_5 (by decide) ?_
  refine w_callV (as := [vI 43]) (rest := []) (c_X12_takes l G cy ad ((N + d) + 9) 43 s (D + 1) a T M1_ hI4_ h8_ (by first | decide | (unfold vF; omega) | (unfold vRw; omega))) kV_X12_takes pnn_17 (Nat.le_of_ble_eq_true rfl) m_1591 rfl rfl rfl ic_12 rfl rfl (by decide) (Nat.le_of_ble_eq_true rfl) dX12_sum_7 (fun r10_ M11_ q12_ => ?_)
  obtain ⟨hI14_, hF15_, h13_, hs17_⟩ := q12_
  have hF16_ := hF6_.tr hF15_ (fun c k => (fun h => h.elim (fun h => (Or.inl ⟨h.1, h.2.1, h.2.2⟩)) (fun h => h.elim)))
  have kf18_ : (M11_.1 (12, 0, 0) 11).toInt + ((m : Nat) : Int) = 5 := by rw [(hF15_ (12, 0, 0) 11 (by simp [S_here]))]; exact kf9_
  rcases h13_ with ⟨rfl, h13_⟩ | ⟨rfl, h13_⟩
  · have h19_ : PP M11_ (s + 1) (D + 1) (a + 1) T := h13_.1
    have kf20_ : M11_.1 (12, 0, 0) 13 = 0 := h13_.2
    refine w_if_eq (tgt := 19) dX12_sum_10 (by decide) li_1 (fun h9 => (absurd h9 (by decide))) (fun h21_ => ?_)
    refine w_sipush (v := 2003) dX12_sum_13 (by decide) ?_
    refine w_goto (tgt := 35) dX12_sum_16 (by decide) ?_
    refine w_istore_n (ls' := [(1, vI 2003), (0, vR (12, 0, 0))]) dX12_sum_35 rfl (by decide) rfl ?_
    have lp22_ : ∀ (nn_36 : Nat) (M_36 : mM) (hI_36 : InvD M_36) (hF_36 : FR (S_par) Mz M_36) (v1_36 : Int32) (hv0_36 : v1_36.toInt = 0 ∨ (2003 ≤ v1_36.toInt ∧ v1_36.toInt ≤ 2004)) (hv1_36 : PP M_36 (s + isX v1_36) (D + 1) a T) (kv0_36 : (M_36.1 (12, 0, 0) 11).toInt + ((m : Nat) : Int) = 5) (hL_36 : RCH (fun x_ y_ => ST_X12_sum_36 N m QA QB s D T Mz x_.1 x_.2 y_.1 y_.2) ((2003 : Int32), M11_) (v1_36, M_36)), (2 * (T - (M_36.1 (12, 0, 0) 9).toInt) + isX v1_36).toNat < nn_36 → WP DD l G cy ad yX12_sum cX12_sum 2 none ((N + d) + 11) 36 [(1, vI v1_36), (0, vR (12, 0, 0))] [] M_36 (fun r M' => InvD M' ∧ FR (S_par) Mz M' ∧ (PP M' s (D + 1) a T ∧ (M'.1 (12, 0, 0) 11).toInt + ((m : Nat) : Int) = 5) ∧ SP_X12_sum N m QA QB s D a T Mz M') := by
      intro nn_36
      induction nn_36 with
      | zero => intro M_36 hI_36 hF_36 v1_36 hv0_36 hv1_36 kv0_36 hL_36 hm_36; exact absurd hm_36 (Nat.not_lt_zero _)
      | succ nn_36 ih_36 =>
        intro M_36 hI_36 hF_36 v1_36 hv0_36 hv1_36 kv0_36 hL_36 hm_36
        have h23_ : 0 ≤ isX v1_36 ∧ isX v1_36 ≤ 1 := isX_b v1_36
        refine w_iload_n dX12_sum_36 rfl 0 rfl ?_
        refine w_if_le (tgt := 84) dX12_sum_37 (by decide) (rfl : v1_36.toInt = v1_36.toInt) (fun h24_ => ?_) (fun h24_ => ?_)
        · exact w_vret rfl dX12_sum_84 ⟨hI_36, hF_36, ⟨PP_mono hv1_36 (lf_c_X12_sum_0 M_36 s D a T v1_36 hs hv0_36 hv1_36 h23_ h24_ ) (lf_c_X12_opens_41 a ), kv0_36⟩, ⟨M1_, hI4_, hF5_, hs7_, M11_, hI14_, hF15_, (Or.inl ⟨hs17_, v1_36, hv0_36, M_36, hL_36, hI_36, hF_36, hv1_36, h23_, h24_, rfl⟩)⟩⟩
        · have kf25_ : a ≤ (M_36.1 (12, 0, 0) 9).toInt := hv1_36.2.1
          have h26_ : PP M_36 (s + 1) (D + 1) (M_36.1 (12, 0, 0) 9).toInt T := PP_self (PP_mono hv1_36 (by rw [isX_p (lf_c_X12_term_2 v1_36 h24_ )]; exact Int.le_refl _) (Int.le_refl _))
          refine w_aload_n dX12_sum_40 rfl 1 rfl ?_
          refine w_callVv (as := []) (rest := []) (c_X12_term l G cy ad d N m QA QB (s + 1) (D + 1) ((M_36.1 (12, 0, 0) 9).toInt) T M_36 hI_36 hA hB h26_ (lf_c_X12_opens_8 s hs ) kv0_36 hm) kV_X12_term pnn_17 (Nat.le_of_ble_eq_true rfl) m_1567 rfl rfl rfl ic_12 rfl rfl (by decide) (Nat.le_of_ble_eq_true rfl) dX12_sum_41 (fun M27_ q28_ => ?_)
          obtain ⟨hI30_, hF31_, h29_, hs33_⟩ := q28_
          have hF32_ := hF_36.tr hF31_ (fun c k => (fun h => h.elim (fun h => (Or.inl ⟨h.1, h.2.1, h.2.2⟩)) (fun h => h.elim (fun h => (Or.inr (Or.inl ⟨h.1, h.2.1, h.2.2⟩))) (fun h => h.elim (fun h => (Or.inr (Or.inr (Or.inl ⟨h.1, h.2.1, h.2.2⟩)))) (fun h => h.elim (fun h => (Or.inr (Or.inr (Or.inr (Or.inl ⟨h.1, h.2.1, h.2.2⟩))))) (fun h => h.elim (fun h => (Or.inr (Or.inr (Or.inr (Or.inr (Or.inl ⟨h.1, h.2.1, h.2.2⟩)))))) (fun h => h.elim (fun h => (Or.inr (Or.inr (Or.inr (Or.inr (Or.inr (Or.inl ⟨h.1, h.2⟩))))))) (fun h => h.elim))))))))
          have h34_ : PP M27_ (s + 1) ((D + 1) + 1) (M_36.1 (12, 0, 0) 9).toInt T := h29_.1
          have kf35_ : (M27_.1 (12, 0, 0) 11).toInt + ((m : Nat) : Int) = 5 := h29_.2
          refine w_aload_n dX12_sum_44 rfl 1 rfl ?_
          refine w_iload_n dX12_sum_45 rfl 0 rfl ?_
          refine w_callVv (as := [vI v1_36]) (rest := []) (c_X12_codes l G cy ad ((N + d) + 10) v1_36 (s + 1) ((D + 1) + 1) ((M_36.1 (12, 0, 0) 9).toInt) T (D + 1) M27_ hI30_ h34_ (lf_c_X12_opens_8 s hs ) (stp_op (lf_c_X12_sum_5 v1_36 hv0_36 h24_ ))) kV_X12_codes pnn_17 (Nat.le_of_ble_eq_true rfl) m_1583 rfl rfl rfl ic_12 rfl rfl (by decide) (Nat.le_of_ble_eq_true rfl) dX12_sum_46 (fun M36_ q37_ => ?_)
          obtain ⟨hI39_, hF40_, h38_, hs42_⟩ := q37_
          have hF41_ := hF32_.tr hF40_ (fun c k => (fun h => h.elim (fun h => (Or.inr (Or.inr (Or.inr (Or.inr (Or.inl ⟨h.1, h.2.1, h.2.2⟩)))))) (fun h => h.elim (fun h => (Or.inr (Or.inr (Or.inr (Or.inr (Or.inr (Or.inl ⟨h.1, h.2⟩))))))) (fun h => h.elim))))
          have kf43_ : (M36_.1 (12, 0, 0) 11).toInt + ((m : Nat) : Int) = 5 := by rw [(hF40_ (12, 0, 0) 11 (by simp [S_codes]))]; exact kf35_
          refine w_aload_n dX12_sum_49 rfl 1 rfl ?_
          refine w_bipush (v := 43) dX12_sum_50 (by decide) ?_
          refine w_callV (as := [vI 43]) (rest := []) (c_X12_takes l G cy ad ((N + d) + 9) 43 ((s + 1) - 1) (D + 1) ((M_36.1 (12, 0, 0) 9).toInt) T M36_ hI39_ h38_ (by first | decide | (unfold vF; omega) | (unfold vRw; omega))) kV_X12_takes pnn_17 (Nat.le_of_ble_eq_true rfl) m_1591 rfl rfl rfl ic_12 rfl rfl (by decide) (Nat.le_of_ble_eq_true rfl) dX12_sum_52 (fun r44_ M45_ q46_ => ?_)
          obtain ⟨hI48_, hF49_, h47_, hs51_⟩ := q46_
          have hF50_ := hF41_.tr hF49_ (fun c k => (fun h => h.elim (fun h => (Or.inl ⟨h.1, h.2.1, h.2.2⟩)) (fun h => h.elim)))
          have kf52_ : (M45_.1 (12, 0, 0) 11).toInt + ((m : Nat) : Int) = 5 := by rw [(hF49_ (12, 0, 0) 11 (by simp [S_here]))]; exact kf43_
          rcases h47_ with ⟨rfl, h47_⟩ | ⟨rfl, h47_⟩
          · have h53_ : PP M45_ (((s + 1) - 1) + 1) (D + 1) ((M_36.1 (12, 0, 0) 9).toInt + 1) T := h47_.1
            have kf54_ : M45_.1 (12, 0, 0) 13 = 0 := h47_.2
            refine w_if_eq (tgt := 64) dX12_sum_55 (by decide) li_1 (fun h9 => (absurd h9 (by decide))) (fun h55_ => ?_)
            refine w_sipush (v := 2003) dX12_sum_58 (by decide) ?_
            refine w_goto (tgt := 80) dX12_sum_61 (by decide) ?_
            refine w_istore_n (ls' := [(1, vI 2003), (0, vR (12, 0, 0))]) dX12_sum_80 rfl (by decide) rfl ?_
            refine w_goto (tgt := 36) dX12_sum_81 (by decide) ?_
            refine w_loc (ls' := [(1, vI 2003), (0, vR (12, 0, 0))]) [0, 1] rfl ?_
            exact ih_36 M45_ hI48_ hF50_ 2003 (lf_c_X12_sum_6 ) (PP_mono h53_ (lf_c_X12_sum_7 M45_ M_36 s D T hs h53_ ) (lf_c_X12_term_8 M_36 a kf25_ kf25_ )) kf52_ (RCH.tail hL_36 ⟨hv0_36, hI_36, hF_36, h23_, h24_, M27_, hI30_, hF31_, hs33_, M36_, hI39_, hF40_, hs42_, M45_, hI48_, hF49_, (Or.inl ⟨hs51_, h53_, rfl, rfl⟩)⟩) (Nat.lt_of_lt_of_le (PP_meas (A := (M_36.1 (12, 0, 0) 9).toInt) (x := v1_36) (x' := (2003 : Int32)) (PP_mono h53_ (Int.le_refl _) (lf_c_X12_sum_9 M11_ M1_ M27_ M36_ M45_ M_36 Mz m s D a T hs hk hm kf9_ kf18_ kf20_ kv0_36 kf25_ kf25_ kf35_ kf43_ kf52_ h53_ kf54_ )) rfl (lf_c_X12_term_2 v1_36 h24_ )) (Nat.le_of_lt_succ hm_36))
          · refine w_if_eq (tgt := 64) dX12_sum_55 (by decide) li_0 (fun h56_ => ?_) (fun h9 => (absurd h9 (by decide)))
            refine w_aload_n dX12_sum_64 rfl 1 rfl ?_
            refine w_bipush (v := 45) dX12_sum_65 (by decide) ?_
            refine w_callV (as := [vI 45]) (rest := []) (c_X12_takes l G cy ad ((N + d) + 9) 45 ((s + 1) - 1) (D + 1) ((M_36.1 (12, 0, 0) 9).toInt) T M45_ hI48_ h47_ (by first | decide | (unfold vF; omega) | (unfold vRw; omega))) kV_X12_takes pnn_17 (Nat.le_of_ble_eq_true rfl) m_1591 rfl rfl rfl ic_12 rfl rfl (by decide) (Nat.le_of_ble_eq_true rfl) dX12_sum_67 (fun r57_ M58_ q59_ => ?_)
            obtain ⟨hI61_, hF62_, h60_, hs64_⟩ := q59_
            have hF63_ := hF50_.tr hF62_ (fun c k => (fun h => h.elim (fun h => (Or.inl ⟨h.1, h.2.1, h.2.2⟩)) (fun h => h.elim)))
            have kf65_ : (M58_.1 (12, 0, 0) 11).toInt + ((m : Nat) : Int) = 5 := by rw [(hF62_ (12, 0, 0) 11 (by simp [S_here]))]; exact kf52_
            rcases h60_ with ⟨rfl, h60_⟩ | ⟨rfl, h60_⟩
            · have h66_ : PP M58_ (((s + 1) - 1) + 1) (D + 1) ((M_36.1 (12, 0, 0) 9).toInt + 1) T := h60_.1
              have kf67_ : M58_.1 (12, 0, 0) 13 = 0 := h60_.2
              refine w_if_eq (tgt := 79) dX12_sum_70 (by decide) li_1 (fun h9 => (absurd h9 (by decide))) (fun h68_ => ?_)
              refine w_sipush (v := 2004) dX12_sum_73 (by decide) ?_
              refine w_goto (tgt := 80) dX12_sum_76 (by decide) ?_
              refine w_istore_n (ls' := [(1, vI 2004), (0, vR (12, 0, 0))]) dX12_sum_80 rfl (by decide) rfl ?_
              refine w_goto (tgt := 36) dX12_sum_81 (by decide) ?_
              refine w_loc (ls' := [(1, vI 2004), (0, vR (12, 0, 0))]) [0, 1] rfl ?_
              exact ih_36 M58_ hI61_ hF63_ 2004 (lf_c_X12_sum_11 ) (PP_mono h66_ (lf_c_X12_sum_12 M58_ M_36 s D T hs h66_ ) (lf_c_X12_term_8 M_36 a kf25_ kf25_ )) kf65_ (RCH.tail hL_36 ⟨hv0_36, hI_36, hF_36, h23_, h24_, M27_, hI30_, hF31_, hs33_, M36_, hI39_, hF40_, hs42_, M45_, hI48_, hF49_, (Or.inr ⟨hs51_, M58_, hI61_, hF62_, (Or.inl ⟨hs64_, h66_, rfl, rfl⟩)⟩)⟩) (Nat.lt_of_lt_of_le (PP_meas (A := (M_36.1 (12, 0, 0) 9).toInt) (x := v1_36) (x' := (2004 : Int32)) (PP_mono h66_ (Int.le_refl _) (lf_c_X12_sum_14 M11_ M1_ M27_ M36_ M45_ M58_ M_36 Mz m s D a T hs hk hm kf9_ kf18_ kf20_ kv0_36 kf25_ kf25_ kf35_ kf43_ kf52_ kf65_ h66_ kf67_ )) rfl (lf_c_X12_term_2 v1_36 h24_ )) (Nat.le_of_lt_succ hm_36))
            · refine w_if_eq (tgt := 79) dX12_sum_70 (by decide) li_0 (fun h69_ => ?_) (fun h9 => (absurd h9 (by decide)))
              refine w_iconst (v := 0) dX12_sum_79 (by decide) ?_
              refine w_istore_n (ls' := [(1, vI 0), (0, vR (12, 0, 0))]) dX12_sum_80 rfl (by decide) rfl ?_
              refine w_goto (tgt := 36) dX12_sum_81 (by decide) ?_
              refine w_loc (ls' := [(1, vI 0), (0, vR (12, 0, 0))]) [0, 1] rfl ?_
              exact ih_36 M58_ hI61_ hF63_ 0 (lf_c_X12_sum_16 ) (PP_mono h60_ (lf_c_X12_term_22 M58_ M_36 s D T hs h60_ ) (lf_c_X12_term_23 M_36 a kf25_ kf25_ )) kf65_ (RCH.tail hL_36 ⟨hv0_36, hI_36, hF_36, h23_, h24_, M27_, hI30_, hF31_, hs33_, M36_, hI39_, hF40_, hs42_, M45_, hI48_, hF49_, (Or.inr ⟨hs51_, M58_, hI61_, hF62_, (Or.inr ⟨hs64_, h60_, rfl, rfl⟩)⟩)⟩) (Nat.lt_of_lt_of_le (PP_meas (A := (M_36.1 (12, 0, 0) 9).toInt) (x := v1_36) (x' := (0 : Int32)) (PP_mono h60_ (Int.le_refl _) (lf_c_X12_sum_19 M11_ M1_ M27_ M36_ M45_ M58_ M_36 Mz m s D a T hs hk hm kf9_ kf18_ kf20_ kv0_36 kf25_ kf25_ kf35_ kf43_ kf52_ kf65_ h60_ )) rfl (lf_c_X12_term_2 v1_36 h24_ )) (Nat.le_of_lt_succ hm_36))
    exact lp22_ _ M11_ hI14_ hF16_ 2003 (lf_c_X12_sum_6 ) (PP_mono h19_ (lf_c_X12_sum_22 M11_ s D a T hs h19_ ) (lf_c_X12_here_19 a )) kf18_ RCH.refl (Nat.lt_succ_self _)
  · refine w_if_eq (tgt := 19) dX12_sum_10 (by decide) li_0 (fun h70_ => ?_) (fun h9 => (absurd h9 (by decide)))
    refine w_aload_n dX12_sum_19 rfl 0 rfl ?_
    refine w_bipush (v := 45) dX12_sum_20 (by decide) ?_
    refine w_callV (as := [vI 45]) (rest := []) (c_X12_takes l G cy ad ((N + d) + 9) 45 s (D + 1) a T M11_ hI14_ h13_ (by first | decide | (unfold vF; omega) | (unfold vRw; omega))) kV_X12_takes pnn_17 (Nat.le_of_ble_eq_true rfl) m_1591 rfl rfl rfl ic_12 rfl rfl (by decide) (Nat.le_of_ble_eq_true rfl) dX12_sum_22 (fun r71_ M72_ q73_ => ?_)
    obtain ⟨hI75_, hF76_, h74_, hs78_⟩ := q73_
    have hF77_ := hF16_.tr hF76_ (fun c k => (fun h => h.elim (fun h => (Or.inl ⟨h.1, h.2.1, h.2.2⟩)) (fun h => h.elim)))
    have kf79_ : (M72_.1 (12, 0, 0) 11).toInt + ((m : Nat) : Int) = 5 := by rw [(hF76_ (12, 0, 0) 11 (by simp [S_here]))]; exact kf18_
    rcases h74_ with ⟨rfl, h74_⟩ | ⟨rfl, h74_⟩
    · have h80_ : PP M72_ (s + 1) (D + 1) (a + 1) T := h74_.1
      have kf81_ : M72_.1 (12, 0, 0) 13 = 0 := h74_.2
      refine w_if_eq (tgt := 34) dX12_sum_25 (by decide) li_1 (fun h9 => (absurd h9 (by decide))) (fun h82_ => ?_)
      refine w_sipush (v := 2004) dX12_sum_28 (by decide) ?_
      refine w_goto (tgt := 35) dX12_sum_31 (by decide) ?_
      refine w_istore_n (ls' := [(1, vI 2004), (0, vR (12, 0, 0))]) dX12_sum_35 rfl (by decide) rfl ?_
      have lp83_ : ∀ (nn_36 : Nat) (M_36 : mM) (hI_36 : InvD M_36) (hF_36 : FR (S_par) Mz M_36) (v1_36 : Int32) (hv0_36 : v1_36.toInt = 0 ∨ (2003 ≤ v1_36.toInt ∧ v1_36.toInt ≤ 2004)) (hv1_36 : PP M_36 (s + isX v1_36) (D + 1) a T) (kv0_36 : (M_36.1 (12, 0, 0) 11).toInt + ((m : Nat) : Int) = 5) (hL_36 : RCH (fun x_ y_ => ST_X12_sum_36b N m QA QB s D T Mz x_.1 x_.2 y_.1 y_.2) ((2004 : Int32), M72_) (v1_36, M_36)), (2 * (T - (M_36.1 (12, 0, 0) 9).toInt) + isX v1_36).toNat < nn_36 → WP DD l G cy ad yX12_sum cX12_sum 2 none ((N + d) + 11) 36 [(1, vI v1_36), (0, vR (12, 0, 0))] [] M_36 (fun r M' => InvD M' ∧ FR (S_par) Mz M' ∧ (PP M' s (D + 1) a T ∧ (M'.1 (12, 0, 0) 11).toInt + ((m : Nat) : Int) = 5) ∧ SP_X12_sum N m QA QB s D a T Mz M') := by
        intro nn_36
        induction nn_36 with
        | zero => intro M_36 hI_36 hF_36 v1_36 hv0_36 hv1_36 kv0_36 hL_36 hm_36; exact absurd hm_36 (Nat.not_lt_zero _)
        | succ nn_36 ih_36 =>
          intro M_36 hI_36 hF_36 v1_36 hv0_36 hv1_36 kv0_36 hL_36 hm_36
          have h84_ : 0 ≤ isX v1_36 ∧ isX v1_36 ≤ 1 := isX_b v1_36
          refine w_iload_n dX12_sum_36 rfl 0 rfl ?_
          refine w_if_le (tgt := 84) dX12_sum_37 (by decide) (rfl : v1_36.toInt = v1_36.toInt) (fun h85_ => ?_) (fun h85_ => ?_)
          · exact w_vret rfl dX12_sum_84 ⟨hI_36, hF_36, ⟨PP_mono hv1_36 (lf_c_X12_sum_0 M_36 s D a T v1_36 hs hv0_36 hv1_36 h84_ h85_ ) (lf_c_X12_opens_41 a ), kv0_36⟩, ⟨M1_, hI4_, hF5_, hs7_, M11_, hI14_, hF15_, (Or.inr ⟨hs17_, M72_, hI75_, hF76_, (Or.inl ⟨hs78_, v1_36, hv0_36, M_36, hL_36, hI_36, hF_36, hv1_36, h84_, h85_, rfl⟩)⟩)⟩⟩
          · have kf86_ : a ≤ (M_36.1 (12, 0, 0) 9).toInt := hv1_36.2.1
            have h87_ : PP M_36 (s + 1) (D + 1) (M_36.1 (12, 0, 0) 9).toInt T := PP_self (PP_mono hv1_36 (by rw [isX_p (lf_c_X12_term_2 v1_36 h85_ )]; exact Int.le_refl _) (Int.le_refl _))
            refine w_aload_n dX12_sum_40 rfl 1 rfl ?_
            refine w_callVv (as := []) (rest := []) (c_X12_term l G cy ad d N m QA QB (s + 1) (D + 1) ((M_36.1 (12, 0, 0) 9).toInt) T M_36 hI_36 hA hB h87_ (lf_c_X12_opens_8 s hs ) kv0_36 hm) kV_X12_term pnn_17 (Nat.le_of_ble_eq_true rfl) m_1567 rfl rfl rfl ic_12 rfl rfl (by decide) (Nat.le_of_ble_eq_true rfl) dX12_sum_41 (fun M88_ q89_ => ?_)
            obtain ⟨hI91_, hF92_, h90_, hs94_⟩ := q89_
            have hF93_ := hF_36.tr hF92_ (fun c k => (fun h => h.elim (fun h => (Or.inl ⟨h.1, h.2.1, h.2.2⟩)) (fun h => h.elim (fun h => (Or.inr (Or.inl ⟨h.1, h.2.1, h.2.2⟩))) (fun h => h.elim (fun h => (Or.inr (Or.inr (Or.inl ⟨h.1, h.2.1, h.2.2⟩)))) (fun h => h.elim (fun h => (Or.inr (Or.inr (Or.inr (Or.inl ⟨h.1, h.2.1, h.2.2⟩))))) (fun h => h.elim (fun h => (Or.inr (Or.inr (Or.inr (Or.inr (Or.inl ⟨h.1, h.2.1, h.2.2⟩)))))) (fun h => h.elim (fun h => (Or.inr (Or.inr (Or.inr (Or.inr (Or.inr (Or.inl ⟨h.1, h.2⟩))))))) (fun h => h.elim))))))))
            have h95_ : PP M88_ (s + 1) ((D + 1) + 1) (M_36.1 (12, 0, 0) 9).toInt T := h90_.1
            have kf96_ : (M88_.1 (12, 0, 0) 11).toInt + ((m : Nat) : Int) = 5 := h90_.2
            refine w_aload_n dX12_sum_44 rfl 1 rfl ?_
            refine w_iload_n dX12_sum_45 rfl 0 rfl ?_
            refine w_callVv (as := [vI v1_36]) (rest := []) (c_X12_codes l G cy ad ((N + d) + 10) v1_36 (s + 1) ((D + 1) + 1) ((M_36.1 (12, 0, 0) 9).toInt) T (D + 1) M88_ hI91_ h95_ (lf_c_X12_opens_8 s hs ) (stp_op (lf_c_X12_sum_5 v1_36 hv0_36 h85_ ))) kV_X12_codes pnn_17 (Nat.le_of_ble_eq_true rfl) m_1583 rfl rfl rfl ic_12 rfl rfl (by decide) (Nat.le_of_ble_eq_true rfl) dX12_sum_46 (fun M97_ q98_ => ?_)
            obtain ⟨hI100_, hF101_, h99_, hs103_⟩ := q98_
            have hF102_ := hF93_.tr hF101_ (fun c k => (fun h => h.elim (fun h => (Or.inr (Or.inr (Or.inr (Or.inr (Or.inl ⟨h.1, h.2.1, h.2.2⟩)))))) (fun h => h.elim (fun h => (Or.inr (Or.inr (Or.inr (Or.inr (Or.inr (Or.inl ⟨h.1, h.2⟩))))))) (fun h => h.elim))))
            have kf104_ : (M97_.1 (12, 0, 0) 11).toInt + ((m : Nat) : Int) = 5 := by rw [(hF101_ (12, 0, 0) 11 (by simp [S_codes]))]; exact kf96_
            refine w_aload_n dX12_sum_49 rfl 1 rfl ?_
            refine w_bipush (v := 43) dX12_sum_50 (by decide) ?_
            refine w_callV (as := [vI 43]) (rest := []) (c_X12_takes l G cy ad ((N + d) + 9) 43 ((s + 1) - 1) (D + 1) ((M_36.1 (12, 0, 0) 9).toInt) T M97_ hI100_ h99_ (by first | decide | (unfold vF; omega) | (unfold vRw; omega))) kV_X12_takes pnn_17 (Nat.le_of_ble_eq_true rfl) m_1591 rfl rfl rfl ic_12 rfl rfl (by decide) (Nat.le_of_ble_eq_true rfl) dX12_sum_52 (fun r105_ M106_ q107_ => ?_)
            obtain ⟨hI109_, hF110_, h108_, hs112_⟩ := q107_
            have hF111_ := hF102_.tr hF110_ (fun c k => (fun h => h.elim (fun h => (Or.inl ⟨h.1, h.2.1, h.2.2⟩)) (fun h => h.elim)))
            have kf113_ : (M106_.1 (12, 0, 0) 11).toInt + ((m : Nat) : Int) = 5 := by rw [(hF110_ (12, 0, 0) 11 (by simp [S_here]))]; exact kf104_
            rcases h108_ with ⟨rfl, h108_⟩ | ⟨rfl, h108_⟩
            · have h114_ : PP M106_ (((s + 1) - 1) + 1) (D + 1) ((M_36.1 (12, 0, 0) 9).toInt + 1) T := h108_.1
              have kf115_ : M106_.1 (12, 0, 0) 13 = 0 := h108_.2
              refine w_if_eq (tgt := 64) dX12_sum_55 (by decide) li_1 (fun h9 => (absurd h9 (by decide))) (fun h116_ => ?_)
              refine w_sipush (v := 2003) dX12_sum_58 (by decide) ?_
              refine w_goto (tgt := 80) dX12_sum_61 (by decide) ?_
              refine w_istore_n (ls' := [(1, vI 2003), (0, vR (12, 0, 0))]) dX12_sum_80 rfl (by decide) rfl ?_
              refine w_goto (tgt := 36) dX12_sum_81 (by decide) ?_
              refine w_loc (ls' := [(1, vI 2003), (0, vR (12, 0, 0))]) [0, 1] rfl ?_
              exact ih_36 M106_ hI109_ hF111_ 2003 (lf_c_X12_sum_6 ) (PP_mono h114_ (lf_c_X12_sum_7 M106_ M_36 s D T hs h114_ ) (lf_c_X12_term_8 M_36 a kf86_ kf86_ )) kf113_ (RCH.tail hL_36 ⟨hv0_36, hI_36, hF_36, h84_, h85_, M88_, hI91_, hF92_, hs94_, M97_, hI100_, hF101_, hs103_, M106_, hI109_, hF110_, (Or.inl ⟨hs112_, h114_, rfl, rfl⟩)⟩) (Nat.lt_of_lt_of_le (PP_meas (A := (M_36.1 (12, 0, 0) 9).toInt) (x := v1_36) (x' := (2003 : Int32)) (PP_mono h114_ (Int.le_refl _) (lf_c_X12_sum_33 M106_ M11_ M1_ M72_ M88_ M97_ M_36 Mz m s D a T hs hk hm kf9_ kf18_ kf79_ kf81_ kv0_36 kf86_ kf86_ kf96_ kf104_ kf113_ h114_ kf115_ )) rfl (lf_c_X12_term_2 v1_36 h85_ )) (Nat.le_of_lt_succ hm_36))
            · refine w_if_eq (tgt := 64) dX12_sum_55 (by decide) li_0 (fun h117_ => ?_) (fun h9 => (absurd h9 (by decide)))
              refine w_aload_n dX12_sum_64 rfl 1 rfl ?_
              refine w_bipush (v := 45) dX12_sum_65 (by decide) ?_
              refine w_callV (as := [vI 45]) (rest := []) (c_X12_takes l G cy ad ((N + d) + 9) 45 ((s + 1) - 1) (D + 1) ((M_36.1 (12, 0, 0) 9).toInt) T M106_ hI109_ h108_ (by first | decide | (unfold vF; omega) | (unfold vRw; omega))) kV_X12_takes pnn_17 (Nat.le_of_ble_eq_true rfl) m_1591 rfl rfl rfl ic_12 rfl rfl (by decide) (Nat.le_of_ble_eq_true rfl) dX12_sum_67 (fun r118_ M119_ q120_ => ?_)
              obtain ⟨hI122_, hF123_, h121_, hs125_⟩ := q120_
              have hF124_ := hF111_.tr hF123_ (fun c k => (fun h => h.elim (fun h => (Or.inl ⟨h.1, h.2.1, h.2.2⟩)) (fun h => h.elim)))
              have kf126_ : (M119_.1 (12, 0, 0) 11).toInt + ((m : Nat) : Int) = 5 := by rw [(hF123_ (12, 0, 0) 11 (by simp [S_here]))]; exact kf113_
              rcases h121_ with ⟨rfl, h121_⟩ | ⟨rfl, h121_⟩
              · have h127_ : PP M119_ (((s + 1) - 1) + 1) (D + 1) ((M_36.1 (12, 0, 0) 9).toInt + 1) T := h121_.1
                have kf128_ : M119_.1 (12, 0, 0) 13 = 0 := h121_.2
                refine w_if_eq (tgt := 79) dX12_sum_70 (by decide) li_1 (fun h9 => (absurd h9 (by decide))) (fun h129_ => ?_)
                refine w_sipush (v := 2004) dX12_sum_73 (by decide) ?_
                refine w_goto (tgt := 80) dX12_sum_76 (by decide) ?_
                refine w_istore_n (ls' := [(1, vI 2004), (0, vR (12, 0, 0))]) dX12_sum_80 rfl (by decide) rfl ?_
                refine w_goto (tgt := 36) dX12_sum_81 (by decide) ?_
                refine w_loc (ls' := [(1, vI 2004), (0, vR (12, 0, 0))]) [0, 1] rfl ?_
                exact ih_36 M119_ hI122_ hF124_ 2004 (lf_c_X12_sum_11 ) (PP_mono h127_ (lf_c_X12_sum_12 M119_ M_36 s D T hs h127_ ) (lf_c_X12_term_8 M_36 a kf86_ kf86_ )) kf126_ (RCH.tail hL_36 ⟨hv0_36, hI_36, hF_36, h84_, h85_, M88_, hI91_, hF92_, hs94_, M97_, hI100_, hF101_, hs103_, M106_, hI109_, hF110_, (Or.inr ⟨hs112_, M119_, hI122_, hF123_, (Or.inl ⟨hs125_, h127_, rfl, rfl⟩)⟩)⟩) (Nat.lt_of_lt_of_le (PP_meas (A := (M_36.1 (12, 0, 0) 9).toInt) (x := v1_36) (x' := (2004 : Int32)) (PP_mono h127_ (Int.le_refl _) (lf_c_X12_sum_38 M106_ M119_ M11_ M1_ M72_ M88_ M97_ M_36 Mz m s D a T hs hk hm kf9_ kf18_ kf79_ kf81_ kv0_36 kf86_ kf86_ kf96_ kf104_ kf113_ kf126_ h127_ kf128_ )) rfl (lf_c_X12_term_2 v1_36 h85_ )) (Nat.le_of_lt_succ hm_36))
              · refine w_if_eq (tgt := 79) dX12_sum_70 (by decide) li_0 (fun h130_ => ?_) (fun h9 => (absurd h9 (by decide)))
                refine w_iconst (v := 0) dX12_sum_79 (by decide) ?_
                refine w_istore_n (ls' := [(1, vI 0), (0, vR (12, 0, 0))]) dX12_sum_80 rfl (by decide) rfl ?_
                refine w_goto (tgt := 36) dX12_sum_81 (by decide) ?_
                refine w_loc (ls' := [(1, vI 0), (0, vR (12, 0, 0))]) [0, 1] rfl ?_
                exact ih_36 M119_ hI122_ hF124_ 0 (lf_c_X12_sum_16 ) (PP_mono h121_ (lf_c_X12_term_22 M119_ M_36 s D T hs h121_ ) (lf_c_X12_term_23 M_36 a kf86_ kf86_ )) kf126_ (RCH.tail hL_36 ⟨hv0_36, hI_36, hF_36, h84_, h85_, M88_, hI91_, hF92_, hs94_, M97_, hI100_, hF101_, hs103_, M106_, hI109_, hF110_, (Or.inr ⟨hs112_, M119_, hI122_, hF123_, (Or.inr ⟨hs125_, h121_, rfl, rfl⟩)⟩)⟩) (Nat.lt_of_lt_of_le (PP_meas (A := (M_36.1 (12, 0, 0) 9).toInt) (x := v1_36) (x' := (0 : Int32)) (PP_mono h121_ (Int.le_refl _) (lf_c_X12_sum_43 M106_ M119_ M11_ M1_ M72_ M88_ M97_ M_36 Mz m s D a T hs hk hm kf9_ kf18_ kf79_ kf81_ kv0_36 kf86_ kf86_ kf96_ kf104_ kf113_ kf126_ h121_ )) rfl (lf_c_X12_term_2 v1_36 h85_ )) (Nat.le_of_lt_succ hm_36))
      exact lp83_ _ M72_ hI75_ hF77_ 2004 (lf_c_X12_sum_11 ) (PP_mono h80_ (lf_c_X12_sum_46 M72_ s D a T hs h80_ ) (lf_c_X12_here_19 a )) kf79_ RCH.refl (Nat.lt_succ_self _)
    · refine w_if_eq (tgt := 34) dX12_sum_25 (by decide) li_0 (fun h131_ => ?_) (fun h9 => (absurd h9 (by decide)))
      refine w_iconst (v := 0) dX12_sum_34 (by decide) ?_
      refine w_istore_n (ls' := [(1, vI 0), (0, vR (12, 0, 0))]) dX12_sum_35 rfl (by decide) rfl ?_
      have lp132_ : ∀ (nn_36 : Nat) (M_36 : mM) (hI_36 : InvD M_36) (hF_36 : FR (S_par) Mz M_36) (v1_36 : Int32) (hv0_36 : v1_36.toInt = 0 ∨ (2003 ≤ v1_36.toInt ∧ v1_36.toInt ≤ 2004)) (hv1_36 : PP M_36 (s + isX v1_36) (D + 1) a T) (kv0_36 : (M_36.1 (12, 0, 0) 11).toInt + ((m : Nat) : Int) = 5) (hL_36 : RCH (fun x_ y_ => ST_X12_sum_36c N m QA QB s D T Mz x_.1 x_.2 y_.1 y_.2) ((0 : Int32), M72_) (v1_36, M_36)), (2 * (T - (M_36.1 (12, 0, 0) 9).toInt) + isX v1_36).toNat < nn_36 → WP DD l G cy ad yX12_sum cX12_sum 2 none ((N + d) + 11) 36 [(1, vI v1_36), (0, vR (12, 0, 0))] [] M_36 (fun r M' => InvD M' ∧ FR (S_par) Mz M' ∧ (PP M' s (D + 1) a T ∧ (M'.1 (12, 0, 0) 11).toInt + ((m : Nat) : Int) = 5) ∧ SP_X12_sum N m QA QB s D a T Mz M') := by
        intro nn_36
        induction nn_36 with
        | zero => intro M_36 hI_36 hF_36 v1_36 hv0_36 hv1_36 kv0_36 hL_36 hm_36; exact absurd hm_36 (Nat.not_lt_zero _)
        | succ nn_36 ih_36 =>
          intro M_36 hI_36 hF_36 v1_36 hv0_36 hv1_36 kv0_36 hL_36 hm_36
          have h133_ : 0 ≤ isX v1_36 ∧ isX v1_36 ≤ 1 := isX_b v1_36
          refine w_iload_n dX12_sum_36 rfl 0 rfl ?_
          refine w_if_le (tgt := 84) dX12_sum_37 (by decide) (rfl : v1_36.toInt = v1_36.toInt) (fun h134_ => ?_) (fun h134_ => ?_)
          · exact w_vret rfl dX12_sum_84 ⟨hI_36, hF_36, ⟨PP_mono hv1_36 (lf_c_X12_sum_0 M_36 s D a T v1_36 hs hv0_36 hv1_36 h133_ h134_ ) (lf_c_X12_opens_41 a ), kv0_36⟩, ⟨M1_, hI4_, hF5_, hs7_, M11_, hI14_, hF15_, (Or.inr ⟨hs17_, M72_, hI75_, hF76_, (Or.inr ⟨hs78_, v1_36, hv0_36, M_36, hL_36, hI_36, hF_36, hv1_36, h133_, h134_, rfl⟩)⟩)⟩⟩
          · have kf135_ : a ≤ (M_36.1 (12, 0, 0) 9).toInt := hv1_36.2.1
            have h136_ : PP M_36 (s + 1) (D + 1) (M_36.1 (12, 0, 0) 9).toInt T := PP_self (PP_mono hv1_36 (by rw [isX_p (lf_c_X12_term_2 v1_36 h134_ )]; exact Int.le_refl _) (Int.le_refl _))
            refine w_aload_n dX12_sum_40 rfl 1 rfl ?_
            refine w_callVv (as := []) (rest := []) (c_X12_term l G cy ad d N m QA QB (s + 1) (D + 1) ((M_36.1 (12, 0, 0) 9).toInt) T M_36 hI_36 hA hB h136_ (lf_c_X12_opens_8 s hs ) kv0_36 hm) kV_X12_term pnn_17 (Nat.le_of_ble_eq_true rfl) m_1567 rfl rfl rfl ic_12 rfl rfl (by decide) (Nat.le_of_ble_eq_true rfl) dX12_sum_41 (fun M137_ q138_ => ?_)
            obtain ⟨hI140_, hF141_, h139_, hs143_⟩ := q138_
            have hF142_ := hF_36.tr hF141_ (fun c k => (fun h => h.elim (fun h => (Or.inl ⟨h.1, h.2.1, h.2.2⟩)) (fun h => h.elim (fun h => (Or.inr (Or.inl ⟨h.1, h.2.1, h.2.2⟩))) (fun h => h.elim (fun h => (Or.inr (Or.inr (Or.inl ⟨h.1, h.2.1, h.2.2⟩)))) (fun h => h.elim (fun h => (Or.inr (Or.inr (Or.inr (Or.inl ⟨h.1, h.2.1, h.2.2⟩))))) (fun h => h.elim (fun h => (Or.inr (Or.inr (Or.inr (Or.inr (Or.inl ⟨h.1, h.2.1, h.2.2⟩)))))) (fun h => h.elim (fun h => (Or.inr (Or.inr (Or.inr (Or.inr (Or.inr (Or.inl ⟨h.1, h.2⟩))))))) (fun h => h.elim))))))))
            have h144_ : PP M137_ (s + 1) ((D + 1) + 1) (M_36.1 (12, 0, 0) 9).toInt T := h139_.1
            have kf145_ : (M137_.1 (12, 0, 0) 11).toInt + ((m : Nat) : Int) = 5 := h139_.2
            refine w_aload_n dX12_sum_44 rfl 1 rfl ?_
            refine w_iload_n dX12_sum_45 rfl 0 rfl ?_
            refine w_callVv (as := [vI v1_36]) (rest := []) (c_X12_codes l G cy ad ((N + d) + 10) v1_36 (s + 1) ((D + 1) + 1) ((M_36.1 (12, 0, 0) 9).toInt) T (D + 1) M137_ hI140_ h144_ (lf_c_X12_opens_8 s hs ) (stp_op (lf_c_X12_sum_5 v1_36 hv0_36 h134_ ))) kV_X12_codes pnn_17 (Nat.le_of_ble_eq_true rfl) m_1583 rfl rfl rfl ic_12 rfl rfl (by decide) (Nat.le_of_ble_eq_true rfl) dX12_sum_46 (fun M146_ q147_ => ?_)
            obtain ⟨hI149_, hF150_, h148_, hs152_⟩ := q147_
            have hF151_ := hF142_.tr hF150_ (fun c k => (fun h => h.elim (fun h => (Or.inr (Or.inr (Or.inr (Or.inr (Or.inl ⟨h.1, h.2.1, h.2.2⟩)))))) (fun h => h.elim (fun h => (Or.inr (Or.inr (Or.inr (Or.inr (Or.inr (Or.inl ⟨h.1, h.2⟩))))))) (fun h => h.elim))))
            have kf153_ : (M146_.1 (12, 0, 0) 11).toInt + ((m : Nat) : Int) = 5 := by rw [(hF150_ (12, 0, 0) 11 (by simp [S_codes]))]; exact kf145_
            refine w_aload_n dX12_sum_49 rfl 1 rfl ?_
            refine w_bipush (v := 43) dX12_sum_50 (by decide) ?_
            refine w_callV (as := [vI 43]) (rest := []) (c_X12_takes l G cy ad ((N + d) + 9) 43 ((s + 1) - 1) (D + 1) ((M_36.1 (12, 0, 0) 9).toInt) T M146_ hI149_ h148_ (by first | decide | (unfold vF; omega) | (unfold vRw; omega))) kV_X12_takes pnn_17 (Nat.le_of_ble_eq_true rfl) m_1591 rfl rfl rfl ic_12 rfl rfl (by decide) (Nat.le_of_ble_eq_true rfl) dX12_sum_52 (fun r154_ M155_ q156_ => ?_)
            obtain ⟨hI158_, hF159_, h157_, hs161_⟩ := q156_
            have hF160_ := hF151_.tr hF159_ (fun c k => (fun h => h.elim (fun h => (Or.inl ⟨h.1, h.2.1, h.2.2⟩)) (fun h => h.elim)))
            have kf162_ : (M155_.1 (12, 0, 0) 11).toInt + ((m : Nat) : Int) = 5 := by rw [(hF159_ (12, 0, 0) 11 (by simp [S_here]))]; exact kf153_
            rcases h157_ with ⟨rfl, h157_⟩ | ⟨rfl, h157_⟩
            · have h163_ : PP M155_ (((s + 1) - 1) + 1) (D + 1) ((M_36.1 (12, 0, 0) 9).toInt + 1) T := h157_.1
              have kf164_ : M155_.1 (12, 0, 0) 13 = 0 := h157_.2
              refine w_if_eq (tgt := 64) dX12_sum_55 (by decide) li_1 (fun h9 => (absurd h9 (by decide))) (fun h165_ => ?_)
              refine w_sipush (v := 2003) dX12_sum_58 (by decide) ?_
              refine w_goto (tgt := 80) dX12_sum_61 (by decide) ?_
              refine w_istore_n (ls' := [(1, vI 2003), (0, vR (12, 0, 0))]) dX12_sum_80 rfl (by decide) rfl ?_
              refine w_goto (tgt := 36) dX12_sum_81 (by decide) ?_
              refine w_loc (ls' := [(1, vI 2003), (0, vR (12, 0, 0))]) [0, 1] rfl ?_
              exact ih_36 M155_ hI158_ hF160_ 2003 (lf_c_X12_sum_6 ) (PP_mono h163_ (lf_c_X12_sum_7 M155_ M_36 s D T hs h163_ ) (lf_c_X12_term_8 M_36 a kf135_ kf135_ )) kf162_ (RCH.tail hL_36 ⟨hv0_36, hI_36, hF_36, h133_, h134_, M137_, hI140_, hF141_, hs143_, M146_, hI149_, hF150_, hs152_, M155_, hI158_, hF159_, (Or.inl ⟨hs161_, h163_, rfl, rfl⟩)⟩) (Nat.lt_of_lt_of_le (PP_meas (A := (M_36.1 (12, 0, 0) 9).toInt) (x := v1_36) (x' := (2003 : Int32)) (PP_mono h163_ (Int.le_refl _) (lf_c_X12_sum_57 M11_ M137_ M146_ M155_ M1_ M72_ M_36 Mz m s D a T hs hk hm kf9_ kf18_ kf79_ kv0_36 kf135_ kf135_ kf145_ kf153_ kf162_ h163_ kf164_ )) rfl (lf_c_X12_term_2 v1_36 h134_ )) (Nat.le_of_lt_succ hm_36))
            · refine w_if_eq (tgt := 64) dX12_sum_55 (by decide) li_0 (fun h166_ => ?_) (fun h9 => (absurd h9 (by decide)))
              refine w_aload_n dX12_sum_64 rfl 1 rfl ?_
              refine w_bipush (v := 45) dX12_sum_65 (by decide) ?_
              refine w_callV (as := [vI 45]) (rest := []) (c_X12_takes l G cy ad ((N + d) + 9) 45 ((s + 1) - 1) (D + 1) ((M_36.1 (12, 0, 0) 9).toInt) T M155_ hI158_ h157_ (by first | decide | (unfold vF; omega) | (unfold vRw; omega))) kV_X12_takes pnn_17 (Nat.le_of_ble_eq_true rfl) m_1591 rfl rfl rfl ic_12 rfl rfl (by decide) (Nat.le_of_ble_eq_true rfl) dX12_sum_67 (fun r167_ M168_ q169_ => ?_)
              obtain ⟨hI171_, hF172_, h170_, hs174_⟩ := q169_
              have hF173_ := hF160_.tr hF172_ (fun c k => (fun h => h.elim (fun h => (Or.inl ⟨h.1, h.2.1, h.2.2⟩)) (fun h => h.elim)))
              have kf175_ : (M168_.1 (12, 0, 0) 11).toInt + ((m : Nat) : Int) = 5 := by rw [(hF172_ (12, 0, 0) 11 (by simp [S_here]))]; exact kf162_
              rcases h170_ with ⟨rfl, h170_⟩ | ⟨rfl, h170_⟩
              · have h176_ : PP M168_ (((s + 1) - 1) + 1) (D + 1) ((M_36.1 (12, 0, 0) 9).toInt + 1) T := h170_.1
                have kf177_ : M168_.1 (12, 0, 0) 13 = 0 := h170_.2
                refine w_if_eq (tgt := 79) dX12_sum_70 (by decide) li_1 (fun h9 => (absurd h9 (by decide))) (fun h178_ => ?_)
                refine w_sipush (v := 2004) dX12_sum_73 (by decide) ?_
                refine w_goto (tgt := 80) dX12_sum_76 (by decide) ?_
                refine w_istore_n (ls' := [(1, vI 2004), (0, vR (12, 0, 0))]) dX12_sum_80 rfl (by decide) rfl ?_
                refine w_goto (tgt := 36) dX12_sum_81 (by decide) ?_
                refine w_loc (ls' := [(1, vI 2004), (0, vR (12, 0, 0))]) [0, 1] rfl ?_
                exact ih_36 M168_ hI171_ hF173_ 2004 (lf_c_X12_sum_11 ) (PP_mono h176_ (lf_c_X12_sum_12 M168_ M_36 s D T hs h176_ ) (lf_c_X12_term_8 M_36 a kf135_ kf135_ )) kf175_ (RCH.tail hL_36 ⟨hv0_36, hI_36, hF_36, h133_, h134_, M137_, hI140_, hF141_, hs143_, M146_, hI149_, hF150_, hs152_, M155_, hI158_, hF159_, (Or.inr ⟨hs161_, M168_, hI171_, hF172_, (Or.inl ⟨hs174_, h176_, rfl, rfl⟩)⟩)⟩) (Nat.lt_of_lt_of_le (PP_meas (A := (M_36.1 (12, 0, 0) 9).toInt) (x := v1_36) (x' := (2004 : Int32)) (PP_mono h176_ (Int.le_refl _) (lf_c_X12_sum_62 M11_ M137_ M146_ M155_ M168_ M1_ M72_ M_36 Mz m s D a T hs hk hm kf9_ kf18_ kf79_ kv0_36 kf135_ kf135_ kf145_ kf153_ kf162_ kf175_ h176_ kf177_ )) rfl (lf_c_X12_term_2 v1_36 h134_ )) (Nat.le_of_lt_succ hm_36))
              · refine w_if_eq (tgt := 79) dX12_sum_70 (by decide) li_0 (fun h179_ => ?_) (fun h9 => (absurd h9 (by decide)))
                refine w_iconst (v := 0) dX12_sum_79 (by decide) ?_
                refine w_istore_n (ls' := [(1, vI 0), (0, vR (12, 0, 0))]) dX12_sum_80 rfl (by decide) rfl ?_
                refine w_goto (tgt := 36) dX12_sum_81 (by decide) ?_
                refine w_loc (ls' := [(1, vI 0), (0, vR (12, 0, 0))]) [0, 1] rfl ?_
                exact ih_36 M168_ hI171_ hF173_ 0 (lf_c_X12_sum_16 ) (PP_mono h170_ (lf_c_X12_term_22 M168_ M_36 s D T hs h170_ ) (lf_c_X12_term_23 M_36 a kf135_ kf135_ )) kf175_ (RCH.tail hL_36 ⟨hv0_36, hI_36, hF_36, h133_, h134_, M137_, hI140_, hF141_, hs143_, M146_, hI149_, hF150_, hs152_, M155_, hI158_, hF159_, (Or.inr ⟨hs161_, M168_, hI171_, hF172_, (Or.inr ⟨hs174_, h170_, rfl, rfl⟩)⟩)⟩) (Nat.lt_of_lt_of_le (PP_meas (A := (M_36.1 (12, 0, 0) 9).toInt) (x := v1_36) (x' := (0 : Int32)) (PP_mono h170_ (Int.le_refl _) (lf_c_X12_sum_67 M11_ M137_ M146_ M155_ M168_ M1_ M72_ M_36 Mz m s D a T hs hk hm kf9_ kf18_ kf79_ kv0_36 kf135_ kf135_ kf145_ kf153_ kf162_ kf175_ h170_ )) rfl (lf_c_X12_term_2 v1_36 h134_ )) (Nat.le_of_lt_succ hm_36))
      exact lp132_ _ M72_ hI75_ hF77_ 0 (lf_c_X12_sum_16 ) (PP_mono h74_ (lf_c_X12_term_114 M72_ s D a T hs h74_ ) (Int.le_refl _)) kf79_ RCH.refl (Nat.lt_succ_self _)
def ST_X12_text_51 (N : Nat) (m : Nat) (QA : mM → mM → Prop) (QB : mM → mM → Prop) (s : Int) (D : Nat) (T : Int) (Mz : mM) (v1_51 : Int32) (M_51 : mM) (v1_51y : Int32) (M_51y : mM) : Prop := (v1_51.toInt = 0 ∨ (2000 ≤ v1_51.toInt ∧ v1_51.toInt ≤ 2002)) ∧ (InvD M_51) ∧ (FR (S_par) Mz M_51) ∧ (0 ≤ isX v1_51 ∧ isX v1_51 ≤ 1) ∧ (0 < v1_51.toInt) ∧ ∃ M27_ : mM, (InvD M27_) ∧ (FR (S_par) M_51 M27_) ∧ (SP_X12_sum N m QA QB (s + 1) (D + 1) ((M_51.1 (12, 0, 0) 9).toInt) T M_51 M27_) ∧ ∃ M36_ : mM, (InvD M36_) ∧ (FR (S_codes) M27_ M36_) ∧ (SP_X12_codes v1_51 (s + 1) ((D + 1) + 1) ((M_51.1 (12, 0, 0) 9).toInt) T (D + 1) M27_ M36_) ∧ ∃ M45_ : mM, (InvD M45_) ∧ (FR (S_here) M36_ M45_) ∧ (((SP_X12_takes 60 ((s + 1) - 1) (D + 1) ((M_51.1 (12, 0, 0) 9).toInt) T M36_ (1 : Int32) M45_) ∧ (PP M45_ (((s + 1) - 1) + 1) (D + 1) ((M_51.1 (12, 0, 0) 9).toInt + 1) T) ∧ v1_51y = 2000 ∧ M_51y = M45_) ∨ ((SP_X12_takes 60 ((s + 1) - 1) (D + 1) ((M_51.1 (12, 0, 0) 9).toInt) T M36_ (0 : Int32) M45_) ∧ ∃ M58_ : mM, (InvD M58_) ∧ (FR (S_here) M45_ M58_) ∧ (((SP_X12_takes 61 ((s + 1) - 1) (D + 1) ((M_51.1 (12, 0, 0) 9).toInt) T M45_ (1 : Int32) M58_) ∧ (PP M58_ (((s + 1) - 1) + 1) (D + 1) ((M_51.1 (12, 0, 0) 9).toInt + 1) T) ∧ v1_51y = 2001 ∧ M_51y = M58_) ∨ ((SP_X12_takes 61 ((s + 1) - 1) (D + 1) ((M_51.1 (12, 0, 0) 9).toInt) T M45_ (0 : Int32) M58_) ∧ ∃ M71_ : mM, (InvD M71_) ∧ (FR (S_here) M58_ M71_) ∧ (((SP_X12_takes 62 ((s + 1) - 1) (D + 1) ((M_51.1 (12, 0, 0) 9).toInt) T M58_ (1 : Int32) M71_) ∧ (PP M71_ (((s + 1) - 1) + 1) (D + 1) ((M_51.1 (12, 0, 0) 9).toInt + 1) T) ∧ v1_51y = 2002 ∧ M_51y = M71_) ∨ ((SP_X12_takes 62 ((s + 1) - 1) (D + 1) ((M_51.1 (12, 0, 0) 9).toInt) T M58_ (0 : Int32) M71_) ∧ (PP M71_ ((s + 1) - 1) (D + 1) (M_51.1 (12, 0, 0) 9).toInt T) ∧ v1_51y = 0 ∧ M_51y = M71_))))))
def ST_X12_text_51b (N : Nat) (m : Nat) (QA : mM → mM → Prop) (QB : mM → mM → Prop) (s : Int) (D : Nat) (T : Int) (Mz : mM) (v1_51 : Int32) (M_51 : mM) (v1_51y : Int32) (M_51y : mM) : Prop := (v1_51.toInt = 0 ∨ (2000 ≤ v1_51.toInt ∧ v1_51.toInt ≤ 2002)) ∧ (InvD M_51) ∧ (FR (S_par) Mz M_51) ∧ (0 ≤ isX v1_51 ∧ isX v1_51 ≤ 1) ∧ (0 < v1_51.toInt) ∧ ∃ M101_ : mM, (InvD M101_) ∧ (FR (S_par) M_51 M101_) ∧ (SP_X12_sum N m QA QB (s + 1) (D + 1) ((M_51.1 (12, 0, 0) 9).toInt) T M_51 M101_) ∧ ∃ M110_ : mM, (InvD M110_) ∧ (FR (S_codes) M101_ M110_) ∧ (SP_X12_codes v1_51 (s + 1) ((D + 1) + 1) ((M_51.1 (12, 0, 0) 9).toInt) T (D + 1) M101_ M110_) ∧ ∃ M119_ : mM, (InvD M119_) ∧ (FR (S_here) M110_ M119_) ∧ (((SP_X12_takes 60 ((s + 1) - 1) (D + 1) ((M_51.1 (12, 0, 0) 9).toInt) T M110_ (1 : Int32) M119_) ∧ (PP M119_ (((s + 1) - 1) + 1) (D + 1) ((M_51.1 (12, 0, 0) 9).toInt + 1) T) ∧ v1_51y = 2000 ∧ M_51y = M119_) ∨ ((SP_X12_takes 60 ((s + 1) - 1) (D + 1) ((M_51.1 (12, 0, 0) 9).toInt) T M110_ (0 : Int32) M119_) ∧ ∃ M132_ : mM, (InvD M132_) ∧ (FR (S_here) M119_ M132_) ∧ (((SP_X12_takes 61 ((s + 1) - 1) (D + 1) ((M_51.1 (12, 0, 0) 9).toInt) T M119_ (1 : Int32) M132_) ∧ (PP M132_ (((s + 1) - 1) + 1) (D + 1) ((M_51.1 (12, 0, 0) 9).toInt + 1) T) ∧ v1_51y = 2001 ∧ M_51y = M132_) ∨ ((SP_X12_takes 61 ((s + 1) - 1) (D + 1) ((M_51.1 (12, 0, 0) 9).toInt) T M119_ (0 : Int32) M132_) ∧ ∃ M145_ : mM, (InvD M145_) ∧ (FR (S_here) M132_ M145_) ∧ (((SP_X12_takes 62 ((s + 1) - 1) (D + 1) ((M_51.1 (12, 0, 0) 9).toInt) T M132_ (1 : Int32) M145_) ∧ (PP M145_ (((s + 1) - 1) + 1) (D + 1) ((M_51.1 (12, 0, 0) 9).toInt + 1) T) ∧ v1_51y = 2002 ∧ M_51y = M145_) ∨ ((SP_X12_takes 62 ((s + 1) - 1) (D + 1) ((M_51.1 (12, 0, 0) 9).toInt) T M132_ (0 : Int32) M145_) ∧ (PP M145_ ((s + 1) - 1) (D + 1) (M_51.1 (12, 0, 0) 9).toInt T) ∧ v1_51y = 0 ∧ M_51y = M145_))))))
def ST_X12_text_51c (N : Nat) (m : Nat) (QA : mM → mM → Prop) (QB : mM → mM → Prop) (s : Int) (D : Nat) (T : Int) (Mz : mM) (v1_51 : Int32) (M_51 : mM) (v1_51y : Int32) (M_51y : mM) : Prop := (v1_51.toInt = 0 ∨ (2000 ≤ v1_51.toInt ∧ v1_51.toInt ≤ 2002)) ∧ (InvD M_51) ∧ (FR (S_par) Mz M_51) ∧ (0 ≤ isX v1_51 ∧ isX v1_51 ≤ 1) ∧ (0 < v1_51.toInt) ∧ ∃ M175_ : mM, (InvD M175_) ∧ (FR (S_par) M_51 M175_) ∧ (SP_X12_sum N m QA QB (s + 1) (D + 1) ((M_51.1 (12, 0, 0) 9).toInt) T M_51 M175_) ∧ ∃ M184_ : mM, (InvD M184_) ∧ (FR (S_codes) M175_ M184_) ∧ (SP_X12_codes v1_51 (s + 1) ((D + 1) + 1) ((M_51.1 (12, 0, 0) 9).toInt) T (D + 1) M175_ M184_) ∧ ∃ M193_ : mM, (InvD M193_) ∧ (FR (S_here) M184_ M193_) ∧ (((SP_X12_takes 60 ((s + 1) - 1) (D + 1) ((M_51.1 (12, 0, 0) 9).toInt) T M184_ (1 : Int32) M193_) ∧ (PP M193_ (((s + 1) - 1) + 1) (D + 1) ((M_51.1 (12, 0, 0) 9).toInt + 1) T) ∧ v1_51y = 2000 ∧ M_51y = M193_) ∨ ((SP_X12_takes 60 ((s + 1) - 1) (D + 1) ((M_51.1 (12, 0, 0) 9).toInt) T M184_ (0 : Int32) M193_) ∧ ∃ M206_ : mM, (InvD M206_) ∧ (FR (S_here) M193_ M206_) ∧ (((SP_X12_takes 61 ((s + 1) - 1) (D + 1) ((M_51.1 (12, 0, 0) 9).toInt) T M193_ (1 : Int32) M206_) ∧ (PP M206_ (((s + 1) - 1) + 1) (D + 1) ((M_51.1 (12, 0, 0) 9).toInt + 1) T) ∧ v1_51y = 2001 ∧ M_51y = M206_) ∨ ((SP_X12_takes 61 ((s + 1) - 1) (D + 1) ((M_51.1 (12, 0, 0) 9).toInt) T M193_ (0 : Int32) M206_) ∧ ∃ M219_ : mM, (InvD M219_) ∧ (FR (S_here) M206_ M219_) ∧ (((SP_X12_takes 62 ((s + 1) - 1) (D + 1) ((M_51.1 (12, 0, 0) 9).toInt) T M206_ (1 : Int32) M219_) ∧ (PP M219_ (((s + 1) - 1) + 1) (D + 1) ((M_51.1 (12, 0, 0) 9).toInt + 1) T) ∧ v1_51y = 2002 ∧ M_51y = M219_) ∨ ((SP_X12_takes 62 ((s + 1) - 1) (D + 1) ((M_51.1 (12, 0, 0) 9).toInt) T M206_ (0 : Int32) M219_) ∧ (PP M219_ ((s + 1) - 1) (D + 1) (M_51.1 (12, 0, 0) 9).toInt T) ∧ v1_51y = 0 ∧ M_51y = M219_))))))
def ST_X12_text_51d (N : Nat) (m : Nat) (QA : mM → mM → Prop) (QB : mM → mM → Prop) (s : Int) (D : Nat) (T : Int) (Mz : mM) (v1_51 : Int32) (M_51 : mM) (v1_51y : Int32) (M_51y : mM) : Prop := (v1_51.toInt = 0 ∨ (2000 ≤ v1_51.toInt ∧ v1_51.toInt ≤ 2002)) ∧ (InvD M_51) ∧ (FR (S_par) Mz M_51) ∧ (0 ≤ isX v1_51 ∧ isX v1_51 ≤ 1) ∧ (0 < v1_51.toInt) ∧ ∃ M237_ : mM, (InvD M237_) ∧ (FR (S_par) M_51 M237_) ∧ (SP_X12_sum N m QA QB (s + 1) (D + 1) ((M_51.1 (12, 0, 0) 9).toInt) T M_51 M237_) ∧ ∃ M246_ : mM, (InvD M246_) ∧ (FR (S_codes) M237_ M246_) ∧ (SP_X12_codes v1_51 (s + 1) ((D + 1) + 1) ((M_51.1 (12, 0, 0) 9).toInt) T (D + 1) M237_ M246_) ∧ ∃ M255_ : mM, (InvD M255_) ∧ (FR (S_here) M246_ M255_) ∧ (((SP_X12_takes 60 ((s + 1) - 1) (D + 1) ((M_51.1 (12, 0, 0) 9).toInt) T M246_ (1 : Int32) M255_) ∧ (PP M255_ (((s + 1) - 1) + 1) (D + 1) ((M_51.1 (12, 0, 0) 9).toInt + 1) T) ∧ v1_51y = 2000 ∧ M_51y = M255_) ∨ ((SP_X12_takes 60 ((s + 1) - 1) (D + 1) ((M_51.1 (12, 0, 0) 9).toInt) T M246_ (0 : Int32) M255_) ∧ ∃ M268_ : mM, (InvD M268_) ∧ (FR (S_here) M255_ M268_) ∧ (((SP_X12_takes 61 ((s + 1) - 1) (D + 1) ((M_51.1 (12, 0, 0) 9).toInt) T M255_ (1 : Int32) M268_) ∧ (PP M268_ (((s + 1) - 1) + 1) (D + 1) ((M_51.1 (12, 0, 0) 9).toInt + 1) T) ∧ v1_51y = 2001 ∧ M_51y = M268_) ∨ ((SP_X12_takes 61 ((s + 1) - 1) (D + 1) ((M_51.1 (12, 0, 0) 9).toInt) T M255_ (0 : Int32) M268_) ∧ ∃ M281_ : mM, (InvD M281_) ∧ (FR (S_here) M268_ M281_) ∧ (((SP_X12_takes 62 ((s + 1) - 1) (D + 1) ((M_51.1 (12, 0, 0) 9).toInt) T M268_ (1 : Int32) M281_) ∧ (PP M281_ (((s + 1) - 1) + 1) (D + 1) ((M_51.1 (12, 0, 0) 9).toInt + 1) T) ∧ v1_51y = 2002 ∧ M_51y = M281_) ∨ ((SP_X12_takes 62 ((s + 1) - 1) (D + 1) ((M_51.1 (12, 0, 0) 9).toInt) T M268_ (0 : Int32) M281_) ∧ (PP M281_ ((s + 1) - 1) (D + 1) (M_51.1 (12, 0, 0) 9).toInt T) ∧ v1_51y = 0 ∧ M_51y = M281_))))))
def SP_X12_text (N : Nat) (m : Nat) (QA : mM → mM → Prop) (QB : mM → mM → Prop) (s : Int) (D : Nat) (a : Int) (T : Int) (Mz : mM) (M_ : mM) : Prop := ∃ M1_ : mM, (InvD M1_) ∧ (FR (S_par) Mz M1_) ∧ (SP_X12_sum N m QA QB s D a T Mz M1_) ∧ ∃ M11_ : mM, (InvD M11_) ∧ (FR (S_here) M1_ M11_) ∧ (((SP_X12_takes 60 s (D + 1) a T M1_ (1 : Int32) M11_) ∧ ∃ v1_51 : Int32, (v1_51.toInt = 0 ∨ (2000 ≤ v1_51.toInt ∧ v1_51.toInt ≤ 2002)) ∧ ∃ M_51 : mM, (RCH (fun x_ y_ => ST_X12_text_51 N m QA QB s D T Mz x_.1 x_.2 y_.1 y_.2) ((2000 : Int32), M11_) (v1_51, M_51)) ∧ (InvD M_51) ∧ (FR (S_par) Mz M_51) ∧ (PP M_51 (s + isX v1_51) (D + 1) a T) ∧ (0 ≤ isX v1_51 ∧ isX v1_51 ≤ 1) ∧ (v1_51.toInt ≤ 0) ∧ M_ = M_51) ∨ ((SP_X12_takes 60 s (D + 1) a T M1_ (0 : Int32) M11_) ∧ ∃ M85_ : mM, (InvD M85_) ∧ (FR (S_here) M11_ M85_) ∧ (((SP_X12_takes 61 s (D + 1) a T M11_ (1 : Int32) M85_) ∧ ∃ v1_51 : Int32, (v1_51.toInt = 0 ∨ (2000 ≤ v1_51.toInt ∧ v1_51.toInt ≤ 2002)) ∧ ∃ M_51 : mM, (RCH (fun x_ y_ => ST_X12_text_51b N m QA QB s D T Mz x_.1 x_.2 y_.1 y_.2) ((2001 : Int32), M85_) (v1_51, M_51)) ∧ (InvD M_51) ∧ (FR (S_par) Mz M_51) ∧ (PP M_51 (s + isX v1_51) (D + 1) a T) ∧ (0 ≤ isX v1_51 ∧ isX v1_51 ≤ 1) ∧ (v1_51.toInt ≤ 0) ∧ M_ = M_51) ∨ ((SP_X12_takes 61 s (D + 1) a T M11_ (0 : Int32) M85_) ∧ ∃ M159_ : mM, (InvD M159_) ∧ (FR (S_here) M85_ M159_) ∧ (((SP_X12_takes 62 s (D + 1) a T M85_ (1 : Int32) M159_) ∧ ∃ v1_51 : Int32, (v1_51.toInt = 0 ∨ (2000 ≤ v1_51.toInt ∧ v1_51.toInt ≤ 2002)) ∧ ∃ M_51 : mM, (RCH (fun x_ y_ => ST_X12_text_51c N m QA QB s D T Mz x_.1 x_.2 y_.1 y_.2) ((2002 : Int32), M159_) (v1_51, M_51)) ∧ (InvD M_51) ∧ (FR (S_par) Mz M_51) ∧ (PP M_51 (s + isX v1_51) (D + 1) a T) ∧ (0 ≤ isX v1_51 ∧ isX v1_51 ≤ 1) ∧ (v1_51.toInt ≤ 0) ∧ M_ = M_51) ∨ ((SP_X12_takes 62 s (D + 1) a T M85_ (0 : Int32) M159_) ∧ ∃ v1_51 : Int32, (v1_51.toInt = 0 ∨ (2000 ≤ v1_51.toInt ∧ v1_51.toInt ≤ 2002)) ∧ ∃ M_51 : mM, (RCH (fun x_ y_ => ST_X12_text_51d N m QA QB s D T Mz x_.1 x_.2 y_.1 y_.2) ((0 : Int32), M159_) (v1_51, M_51)) ∧ (InvD M_51) ∧ (FR (S_par) Mz M_51) ∧ (PP M_51 (s + isX v1_51) (D + 1) a T) ∧ (0 ≤ isX v1_51 ∧ isX v1_51 ≤ 1) ∧ (v1_51.toInt ≤ 0) ∧ M_ = M_51))))))
theorem lf_c_X12_text_0 (M_51 : mM) (s : Int) (D : Nat) (a : Int) (T : Int) (v1_51 : Int32) (hs : 0 ≤ s) (hv0_51 : v1_51.toInt = 0 ∨ (2000 ≤ v1_51.toInt ∧ v1_51.toInt ≤ 2002)) (hv1_51 : PP M_51 (s + isX v1_51) (D + 1) a T) (h23_ : 0 ≤ isX v1_51 ∧ isX v1_51 ≤ 1) (h24_ : v1_51.toInt ≤ 0) : s ≤ (s + isX v1_51) := by have r_v1_51 := rngI v1_51; omega
theorem lf_c_X12_text_5 (v1_51 : Int32) (hv0_51 : v1_51.toInt = 0 ∨ (2000 ≤ v1_51.toInt ∧ v1_51.toInt ≤ 2002)) (h24_ : 0 < v1_51.toInt) : 2000 ≤ v1_51.toInt ∧ v1_51.toInt < 2008 := by omega
theorem lf_c_X12_text_6 : (2000 : Int32).toInt = 0 ∨ (2000 ≤ (2000 : Int32).toInt ∧ (2000 : Int32).toInt ≤ 2002) := by have q0 := li_2000; omega
theorem lf_c_X12_text_7 (M45_ : mM) (M_51 : mM) (s : Int) (D : Nat) (T : Int) (hs : 0 ≤ s) (h53_ : PP M45_ (((s + 1) - 1) + 1) (D + 1) ((M_51.1 (12, 0, 0) 9).toInt + 1) T) : (s + isX (2000 : Int32)) ≤ (((s + 1) - 1) + 1) := by have h9 := isX_p (v := (2000 : Int32)) (by decide); omega
theorem lf_c_X12_text_9 (M11_ : mM) (M1_ : mM) (M27_ : mM) (M36_ : mM) (M45_ : mM) (M_51 : mM) (Mz : mM) (m : Nat) (s : Int) (D : Nat) (a : Int) (T : Int) (hs : 0 ≤ s) (hk : (Mz.1 (12, 0, 0) 11).toInt + ((m : Nat) : Int) = 5) (hm : m ≤ 5) (kf9_ : (M1_.1 (12, 0, 0) 11).toInt + ((m : Nat) : Int) = 5) (kf18_ : (M11_.1 (12, 0, 0) 11).toInt + ((m : Nat) : Int) = 5) (kf20_ : M11_.1 (12, 0, 0) 13 = 0) (kv0_51 : (M_51.1 (12, 0, 0) 11).toInt + ((m : Nat) : Int) = 5) (kf25_ : a ≤ (M_51.1 (12, 0, 0) 9).toInt) (kf25_ : a ≤ (M_51.1 (12, 0, 0) 9).toInt) (kf35_ : (M27_.1 (12, 0, 0) 11).toInt + ((m : Nat) : Int) = 5) (kf43_ : (M36_.1 (12, 0, 0) 11).toInt + ((m : Nat) : Int) = 5) (kf52_ : (M45_.1 (12, 0, 0) 11).toInt + ((m : Nat) : Int) = 5) (h53_ : PP M45_ (((s + 1) - 1) + 1) (D + 1) ((M_51.1 (12, 0, 0) 9).toInt + 1) T) (kf54_ : M45_.1 (12, 0, 0) 13 = 0) : (M_51.1 (12, 0, 0) 9).toInt + isX (2000 : Int32) ≤ ((M_51.1 (12, 0, 0) 9).toInt + 1) := by have h9 := isX_p (v := (2000 : Int32)) (by decide); omega
theorem lf_c_X12_text_11 : (2001 : Int32).toInt = 0 ∨ (2000 ≤ (2001 : Int32).toInt ∧ (2001 : Int32).toInt ≤ 2002) := by have q0 := li_2001; omega
theorem lf_c_X12_text_12 (M58_ : mM) (M_51 : mM) (s : Int) (D : Nat) (T : Int) (hs : 0 ≤ s) (h66_ : PP M58_ (((s + 1) - 1) + 1) (D + 1) ((M_51.1 (12, 0, 0) 9).toInt + 1) T) : (s + isX (2001 : Int32)) ≤ (((s + 1) - 1) + 1) := by have h9 := isX_p (v := (2001 : Int32)) (by decide); omega
theorem lf_c_X12_text_14 (M11_ : mM) (M1_ : mM) (M27_ : mM) (M36_ : mM) (M45_ : mM) (M58_ : mM) (M_51 : mM) (Mz : mM) (m : Nat) (s : Int) (D : Nat) (a : Int) (T : Int) (hs : 0 ≤ s) (hk : (Mz.1 (12, 0, 0) 11).toInt + ((m : Nat) : Int) = 5) (hm : m ≤ 5) (kf9_ : (M1_.1 (12, 0, 0) 11).toInt + ((m : Nat) : Int) = 5) (kf18_ : (M11_.1 (12, 0, 0) 11).toInt + ((m : Nat) : Int) = 5) (kf20_ : M11_.1 (12, 0, 0) 13 = 0) (kv0_51 : (M_51.1 (12, 0, 0) 11).toInt + ((m : Nat) : Int) = 5) (kf25_ : a ≤ (M_51.1 (12, 0, 0) 9).toInt) (kf25_ : a ≤ (M_51.1 (12, 0, 0) 9).toInt) (kf35_ : (M27_.1 (12, 0, 0) 11).toInt + ((m : Nat) : Int) = 5) (kf43_ : (M36_.1 (12, 0, 0) 11).toInt + ((m : Nat) : Int) = 5) (kf52_ : (M45_.1 (12, 0, 0) 11).toInt + ((m : Nat) : Int) = 5) (kf65_ : (M58_.1 (12, 0, 0) 11).toInt + ((m : Nat) : Int) = 5) (h66_ : PP M58_ (((s + 1) - 1) + 1) (D + 1) ((M_51.1 (12, 0, 0) 9).toInt + 1) T) (kf67_ : M58_.1 (12, 0, 0) 13 = 0) : (M_51.1 (12, 0, 0) 9).toInt + isX (2001 : Int32) ≤ ((M_51.1 (12, 0, 0) 9).toInt + 1) := by have h9 := isX_p (v := (2001 : Int32)) (by decide); omega
theorem lf_c_X12_text_16 : (2002 : Int32).toInt = 0 ∨ (2000 ≤ (2002 : Int32).toInt ∧ (2002 : Int32).toInt ≤ 2002) := by have q0 := li_2002; omega
theorem lf_c_X12_text_17 (M71_ : mM) (M_51 : mM) (s : Int) (D : Nat) (T : Int) (hs : 0 ≤ s) (h79_ : PP M71_ (((s + 1) - 1) + 1) (D + 1) ((M_51.1 (12, 0, 0) 9).toInt + 1) T) : (s + isX (2002 : Int32)) ≤ (((s + 1) - 1) + 1) := by have h9 := isX_p (v := (2002 : Int32)) (by decide); omega
theorem lf_c_X12_text_19 (M11_ : mM) (M1_ : mM) (M27_ : mM) (M36_ : mM) (M45_ : mM) (M58_ : mM) (M71_ : mM) (M_51 : mM) (Mz : mM) (m : Nat) (s : Int) (D : Nat) (a : Int) (T : Int) (hs : 0 ≤ s) (hk : (Mz.1 (12, 0, 0) 11).toInt + ((m : Nat) : Int) = 5) (hm : m ≤ 5) (kf9_ : (M1_.1 (12, 0, 0) 11).toInt + ((m : Nat) : Int) = 5) (kf18_ : (M11_.1 (12, 0, 0) 11).toInt + ((m : Nat) : Int) = 5) (kf20_ : M11_.1 (12, 0, 0) 13 = 0) (kv0_51 : (M_51.1 (12, 0, 0) 11).toInt + ((m : Nat) : Int) = 5) (kf25_ : a ≤ (M_51.1 (12, 0, 0) 9).toInt) (kf25_ : a ≤ (M_51.1 (12, 0, 0) 9).toInt) (kf35_ : (M27_.1 (12, 0, 0) 11).toInt + ((m : Nat) : Int) = 5) (kf43_ : (M36_.1 (12, 0, 0) 11).toInt + ((m : Nat) : Int) = 5) (kf52_ : (M45_.1 (12, 0, 0) 11).toInt + ((m : Nat) : Int) = 5) (kf65_ : (M58_.1 (12, 0, 0) 11).toInt + ((m : Nat) : Int) = 5) (kf78_ : (M71_.1 (12, 0, 0) 11).toInt + ((m : Nat) : Int) = 5) (h79_ : PP M71_ (((s + 1) - 1) + 1) (D + 1) ((M_51.1 (12, 0, 0) 9).toInt + 1) T) (kf80_ : M71_.1 (12, 0, 0) 13 = 0) : (M_51.1 (12, 0, 0) 9).toInt + isX (2002 : Int32) ≤ ((M_51.1 (12, 0, 0) 9).toInt + 1) := by have h9 := isX_p (v := (2002 : Int32)) (by decide); omega
theorem lf_c_X12_text_21 : (0 : Int32).toInt = 0 ∨ (2000 ≤ (0 : Int32).toInt ∧ (0 : Int32).toInt ≤ 2002) := by have q0 := li_0; omega
theorem lf_c_X12_text_27 (M11_ : mM) (s : Int) (D : Nat) (a : Int) (T : Int) (hs : 0 ≤ s) (h19_ : PP M11_ (s + 1) (D + 1) (a + 1) T) : (s + isX (2000 : Int32)) ≤ (s + 1) := by have h9 := isX_p (v := (2000 : Int32)) (by decide); omega
theorem lf_c_X12_text_38 (M101_ : mM) (M110_ : mM) (M119_ : mM) (M11_ : mM) (M1_ : mM) (M85_ : mM) (M_51 : mM) (Mz : mM) (m : Nat) (s : Int) (D : Nat) (a : Int) (T : Int) (hs : 0 ≤ s) (hk : (Mz.1 (12, 0, 0) 11).toInt + ((m : Nat) : Int) = 5) (hm : m ≤ 5) (kf9_ : (M1_.1 (12, 0, 0) 11).toInt + ((m : Nat) : Int) = 5) (kf18_ : (M11_.1 (12, 0, 0) 11).toInt + ((m : Nat) : Int) = 5) (kf92_ : (M85_.1 (12, 0, 0) 11).toInt + ((m : Nat) : Int) = 5) (kf94_ : M85_.1 (12, 0, 0) 13 = 0) (kv0_51 : (M_51.1 (12, 0, 0) 11).toInt + ((m : Nat) : Int) = 5) (kf99_ : a ≤ (M_51.1 (12, 0, 0) 9).toInt) (kf99_ : a ≤ (M_51.1 (12, 0, 0) 9).toInt) (kf109_ : (M101_.1 (12, 0, 0) 11).toInt + ((m : Nat) : Int) = 5) (kf117_ : (M110_.1 (12, 0, 0) 11).toInt + ((m : Nat) : Int) = 5) (kf126_ : (M119_.1 (12, 0, 0) 11).toInt + ((m : Nat) : Int) = 5) (h127_ : PP M119_ (((s + 1) - 1) + 1) (D + 1) ((M_51.1 (12, 0, 0) 9).toInt + 1) T) (kf128_ : M119_.1 (12, 0, 0) 13 = 0) : (M_51.1 (12, 0, 0) 9).toInt + isX (2000 : Int32) ≤ ((M_51.1 (12, 0, 0) 9).toInt + 1) := by have h9 := isX_p (v := (2000 : Int32)) (by decide); omega
theorem lf_c_X12_text_43 (M101_ : mM) (M110_ : mM) (M119_ : mM) (M11_ : mM) (M132_ : mM) (M1_ : mM) (M85_ : mM) (M_51 : mM) (Mz : mM) (m : Nat) (s : Int) (D : Nat) (a : Int) (T : Int) (hs : 0 ≤ s) (hk : (Mz.1 (12, 0, 0) 11).toInt + ((m : Nat) : Int) = 5) (hm : m ≤ 5) (kf9_ : (M1_.1 (12, 0, 0) 11).toInt + ((m : Nat) : Int) = 5) (kf18_ : (M11_.1 (12, 0, 0) 11).toInt + ((m : Nat) : Int) = 5) (kf92_ : (M85_.1 (12, 0, 0) 11).toInt + ((m : Nat) : Int) = 5) (kf94_ : M85_.1 (12, 0, 0) 13 = 0) (kv0_51 : (M_51.1 (12, 0, 0) 11).toInt + ((m : Nat) : Int) = 5) (kf99_ : a ≤ (M_51.1 (12, 0, 0) 9).toInt) (kf99_ : a ≤ (M_51.1 (12, 0, 0) 9).toInt) (kf109_ : (M101_.1 (12, 0, 0) 11).toInt + ((m : Nat) : Int) = 5) (kf117_ : (M110_.1 (12, 0, 0) 11).toInt + ((m : Nat) : Int) = 5) (kf126_ : (M119_.1 (12, 0, 0) 11).toInt + ((m : Nat) : Int) = 5) (kf139_ : (M132_.1 (12, 0, 0) 11).toInt + ((m : Nat) : Int) = 5) (h140_ : PP M132_ (((s + 1) - 1) + 1) (D + 1) ((M_51.1 (12, 0, 0) 9).toInt + 1) T) (kf141_ : M132_.1 (12, 0, 0) 13 = 0) : (M_51.1 (12, 0, 0) 9).toInt + isX (2001 : Int32) ≤ ((M_51.1 (12, 0, 0) 9).toInt + 1) := by have h9 := isX_p (v := (2001 : Int32)) (by decide); omega
theorem lf_c_X12_text_48 (M101_ : mM) (M110_ : mM) (M119_ : mM) (M11_ : mM) (M132_ : mM) (M145_ : mM) (M1_ : mM) (M85_ : mM) (M_51 : mM) (Mz : mM) (m : Nat) (s : Int) (D : Nat) (a : Int) (T : Int) (hs : 0 ≤ s) (hk : (Mz.1 (12, 0, 0) 11).toInt + ((m : Nat) : Int) = 5) (hm : m ≤ 5) (kf9_ : (M1_.1 (12, 0, 0) 11).toInt + ((m : Nat) : Int) = 5) (kf18_ : (M11_.1 (12, 0, 0) 11).toInt + ((m : Nat) : Int) = 5) (kf92_ : (M85_.1 (12, 0, 0) 11).toInt + ((m : Nat) : Int) = 5) (kf94_ : M85_.1 (12, 0, 0) 13 = 0) (kv0_51 : (M_51.1 (12, 0, 0) 11).toInt + ((m : Nat) : Int) = 5) (kf99_ : a ≤ (M_51.1 (12, 0, 0) 9).toInt) (kf99_ : a ≤ (M_51.1 (12, 0, 0) 9).toInt) (kf109_ : (M101_.1 (12, 0, 0) 11).toInt + ((m : Nat) : Int) = 5) (kf117_ : (M110_.1 (12, 0, 0) 11).toInt + ((m : Nat) : Int) = 5) (kf126_ : (M119_.1 (12, 0, 0) 11).toInt + ((m : Nat) : Int) = 5) (kf139_ : (M132_.1 (12, 0, 0) 11).toInt + ((m : Nat) : Int) = 5) (kf152_ : (M145_.1 (12, 0, 0) 11).toInt + ((m : Nat) : Int) = 5) (h153_ : PP M145_ (((s + 1) - 1) + 1) (D + 1) ((M_51.1 (12, 0, 0) 9).toInt + 1) T) (kf154_ : M145_.1 (12, 0, 0) 13 = 0) : (M_51.1 (12, 0, 0) 9).toInt + isX (2002 : Int32) ≤ ((M_51.1 (12, 0, 0) 9).toInt + 1) := by have h9 := isX_p (v := (2002 : Int32)) (by decide); omega
theorem lf_c_X12_text_56 (M85_ : mM) (s : Int) (D : Nat) (a : Int) (T : Int) (hs : 0 ≤ s) (h93_ : PP M85_ (s + 1) (D + 1) (a + 1) T) : (s + isX (2001 : Int32)) ≤ (s + 1) := by have h9 := isX_p (v := (2001 : Int32)) (by decide); omega
theorem lf_c_X12_text_67 (M11_ : mM) (M159_ : mM) (M175_ : mM) (M184_ : mM) (M193_ : mM) (M1_ : mM) (M85_ : mM) (M_51 : mM) (Mz : mM) (m : Nat) (s : Int) (D : Nat) (a : Int) (T : Int) (hs : 0 ≤ s) (hk : (Mz.1 (12, 0, 0) 11).toInt + ((m : Nat) : Int) = 5) (hm : m ≤ 5) (kf9_ : (M1_.1 (12, 0, 0) 11).toInt + ((m : Nat) : Int) = 5) (kf18_ : (M11_.1 (12, 0, 0) 11).toInt + ((m : Nat) : Int) = 5) (kf92_ : (M85_.1 (12, 0, 0) 11).toInt + ((m : Nat) : Int) = 5) (kf166_ : (M159_.1 (12, 0, 0) 11).toInt + ((m : Nat) : Int) = 5) (kf168_ : M159_.1 (12, 0, 0) 13 = 0) (kv0_51 : (M_51.1 (12, 0, 0) 11).toInt + ((m : Nat) : Int) = 5) (kf173_ : a ≤ (M_51.1 (12, 0, 0) 9).toInt) (kf173_ : a ≤ (M_51.1 (12, 0, 0) 9).toInt) (kf183_ : (M175_.1 (12, 0, 0) 11).toInt + ((m : Nat) : Int) = 5) (kf191_ : (M184_.1 (12, 0, 0) 11).toInt + ((m : Nat) : Int) = 5) (kf200_ : (M193_.1 (12, 0, 0) 11).toInt + ((m : Nat) : Int) = 5) (h201_ : PP M193_ (((s + 1) - 1) + 1) (D + 1) ((M_51.1 (12, 0, 0) 9).toInt + 1) T) (kf202_ : M193_.1 (12, 0, 0) 13 = 0) : (M_51.1 (12, 0, 0) 9).toInt + isX (2000 : Int32) ≤ ((M_51.1 (12, 0, 0) 9).toInt + 1) := by have h9 := isX_p (v := (2000 : Int32)) (by decide); omega
theorem lf_c_X12_text_72 (M11_ : mM) (M159_ : mM) (M175_ : mM) (M184_ : mM) (M193_ : mM) (M1_ : mM) (M206_ : mM) (M85_ : mM) (M_51 : mM) (Mz : mM) (m : Nat) (s : Int) (D : Nat) (a : Int) (T : Int) (hs : 0 ≤ s) (hk : (Mz.1 (12, 0, 0) 11).toInt + ((m : Nat) : Int) = 5) (hm : m ≤ 5) (kf9_ : (M1_.1 (12, 0, 0) 11).toInt + ((m : Nat) : Int) = 5) (kf18_ : (M11_.1 (12, 0, 0) 11).toInt + ((m : Nat) : Int) = 5) (kf92_ : (M85_.1 (12, 0, 0) 11).toInt + ((m : Nat) : Int) = 5) (kf166_ : (M159_.1 (12, 0, 0) 11).toInt + ((m : Nat) : Int) = 5) (kf168_ : M159_.1 (12, 0, 0) 13 = 0) (kv0_51 : (M_51.1 (12, 0, 0) 11).toInt + ((m : Nat) : Int) = 5) (kf173_ : a ≤ (M_51.1 (12, 0, 0) 9).toInt) (kf173_ : a ≤ (M_51.1 (12, 0, 0) 9).toInt) (kf183_ : (M175_.1 (12, 0, 0) 11).toInt + ((m : Nat) : Int) = 5) (kf191_ : (M184_.1 (12, 0, 0) 11).toInt + ((m : Nat) : Int) = 5) (kf200_ : (M193_.1 (12, 0, 0) 11).toInt + ((m : Nat) : Int) = 5) (kf213_ : (M206_.1 (12, 0, 0) 11).toInt + ((m : Nat) : Int) = 5) (h214_ : PP M206_ (((s + 1) - 1) + 1) (D + 1) ((M_51.1 (12, 0, 0) 9).toInt + 1) T) (kf215_ : M206_.1 (12, 0, 0) 13 = 0) : (M_51.1 (12, 0, 0) 9).toInt + isX (2001 : Int32) ≤ ((M_51.1 (12, 0, 0) 9).toInt + 1) := by have h9 := isX_p (v := (2001 : Int32)) (by decide); omega
theorem lf_c_X12_text_77 (M11_ : mM) (M159_ : mM) (M175_ : mM) (M184_ : mM) (M193_ : mM) (M1_ : mM) (M206_ : mM) (M219_ : mM) (M85_ : mM) (M_51 : mM) (Mz : mM) (m : Nat) (s : Int) (D : Nat) (a : Int) (T : Int) (hs : 0 ≤ s) (hk : (Mz.1 (12, 0, 0) 11).toInt + ((m : Nat) : Int) = 5) (hm : m ≤ 5) (kf9_ : (M1_.1 (12, 0, 0) 11).toInt + ((m : Nat) : Int) = 5) (kf18_ : (M11_.1 (12, 0, 0) 11).toInt + ((m : Nat) : Int) = 5) (kf92_ : (M85_.1 (12, 0, 0) 11).toInt + ((m : Nat) : Int) = 5) (kf166_ : (M159_.1 (12, 0, 0) 11).toInt + ((m : Nat) : Int) = 5) (kf168_ : M159_.1 (12, 0, 0) 13 = 0) (kv0_51 : (M_51.1 (12, 0, 0) 11).toInt + ((m : Nat) : Int) = 5) (kf173_ : a ≤ (M_51.1 (12, 0, 0) 9).toInt) (kf173_ : a ≤ (M_51.1 (12, 0, 0) 9).toInt) (kf183_ : (M175_.1 (12, 0, 0) 11).toInt + ((m : Nat) : Int) = 5) (kf191_ : (M184_.1 (12, 0, 0) 11).toInt + ((m : Nat) : Int) = 5) (kf200_ : (M193_.1 (12, 0, 0) 11).toInt + ((m : Nat) : Int) = 5) (kf213_ : (M206_.1 (12, 0, 0) 11).toInt + ((m : Nat) : Int) = 5) (kf226_ : (M219_.1 (12, 0, 0) 11).toInt + ((m : Nat) : Int) = 5) (h227_ : PP M219_ (((s + 1) - 1) + 1) (D + 1) ((M_51.1 (12, 0, 0) 9).toInt + 1) T) (kf228_ : M219_.1 (12, 0, 0) 13 = 0) : (M_51.1 (12, 0, 0) 9).toInt + isX (2002 : Int32) ≤ ((M_51.1 (12, 0, 0) 9).toInt + 1) := by have h9 := isX_p (v := (2002 : Int32)) (by decide); omega
theorem lf_c_X12_text_85 (M159_ : mM) (s : Int) (D : Nat) (a : Int) (T : Int) (hs : 0 ≤ s) (h167_ : PP M159_ (s + 1) (D + 1) (a + 1) T) : (s + isX (2002 : Int32)) ≤ (s + 1) := by have h9 := isX_p (v := (2002 : Int32)) (by decide); omega
theorem lf_c_X12_text_96 (M11_ : mM) (M159_ : mM) (M1_ : mM) (M237_ : mM) (M246_ : mM) (M255_ : mM) (M85_ : mM) (M_51 : mM) (Mz : mM) (m : Nat) (s : Int) (D : Nat) (a : Int) (T : Int) (hs : 0 ≤ s) (hk : (Mz.1 (12, 0, 0) 11).toInt + ((m : Nat) : Int) = 5) (hm : m ≤ 5) (kf9_ : (M1_.1 (12, 0, 0) 11).toInt + ((m : Nat) : Int) = 5) (kf18_ : (M11_.1 (12, 0, 0) 11).toInt + ((m : Nat) : Int) = 5) (kf92_ : (M85_.1 (12, 0, 0) 11).toInt + ((m : Nat) : Int) = 5) (kf166_ : (M159_.1 (12, 0, 0) 11).toInt + ((m : Nat) : Int) = 5) (kv0_51 : (M_51.1 (12, 0, 0) 11).toInt + ((m : Nat) : Int) = 5) (kf235_ : a ≤ (M_51.1 (12, 0, 0) 9).toInt) (kf235_ : a ≤ (M_51.1 (12, 0, 0) 9).toInt) (kf245_ : (M237_.1 (12, 0, 0) 11).toInt + ((m : Nat) : Int) = 5) (kf253_ : (M246_.1 (12, 0, 0) 11).toInt + ((m : Nat) : Int) = 5) (kf262_ : (M255_.1 (12, 0, 0) 11).toInt + ((m : Nat) : Int) = 5) (h263_ : PP M255_ (((s + 1) - 1) + 1) (D + 1) ((M_51.1 (12, 0, 0) 9).toInt + 1) T) (kf264_ : M255_.1 (12, 0, 0) 13 = 0) : (M_51.1 (12, 0, 0) 9).toInt + isX (2000 : Int32) ≤ ((M_51.1 (12, 0, 0) 9).toInt + 1) := by have h9 := isX_p (v := (2000 : Int32)) (by decide); omega
theorem lf_c_X12_text_101 (M11_ : mM) (M159_ : mM) (M1_ : mM) (M237_ : mM) (M246_ : mM) (M255_ : mM) (M268_ : mM) (M85_ : mM) (M_51 : mM) (Mz : mM) (m : Nat) (s : Int) (D : Nat) (a : Int) (T : Int) (hs : 0 ≤ s) (hk : (Mz.1 (12, 0, 0) 11).toInt + ((m : Nat) : Int) = 5) (hm : m ≤ 5) (kf9_ : (M1_.1 (12, 0, 0) 11).toInt + ((m : Nat) : Int) = 5) (kf18_ : (M11_.1 (12, 0, 0) 11).toInt + ((m : Nat) : Int) = 5) (kf92_ : (M85_.1 (12, 0, 0) 11).toInt + ((m : Nat) : Int) = 5) (kf166_ : (M159_.1 (12, 0, 0) 11).toInt + ((m : Nat) : Int) = 5) (kv0_51 : (M_51.1 (12, 0, 0) 11).toInt + ((m : Nat) : Int) = 5) (kf235_ : a ≤ (M_51.1 (12, 0, 0) 9).toInt) (kf235_ : a ≤ (M_51.1 (12, 0, 0) 9).toInt) (kf245_ : (M237_.1 (12, 0, 0) 11).toInt + ((m : Nat) : Int) = 5) (kf253_ : (M246_.1 (12, 0, 0) 11).toInt + ((m : Nat) : Int) = 5) (kf262_ : (M255_.1 (12, 0, 0) 11).toInt + ((m : Nat) : Int) = 5) (kf275_ : (M268_.1 (12, 0, 0) 11).toInt + ((m : Nat) : Int) = 5) (h276_ : PP M268_ (((s + 1) - 1) + 1) (D + 1) ((M_51.1 (12, 0, 0) 9).toInt + 1) T) (kf277_ : M268_.1 (12, 0, 0) 13 = 0) : (M_51.1 (12, 0, 0) 9).toInt + isX (2001 : Int32) ≤ ((M_51.1 (12, 0, 0) 9).toInt + 1) := by have h9 := isX_p (v := (2001 : Int32)) (by decide); omega
theorem lf_c_X12_text_106 (M11_ : mM) (M159_ : mM) (M1_ : mM) (M237_ : mM) (M246_ : mM) (M255_ : mM) (M268_ : mM) (M281_ : mM) (M85_ : mM) (M_51 : mM) (Mz : mM) (m : Nat) (s : Int) (D : Nat) (a : Int) (T : Int) (hs : 0 ≤ s) (hk : (Mz.1 (12, 0, 0) 11).toInt + ((m : Nat) : Int) = 5) (hm : m ≤ 5) (kf9_ : (M1_.1 (12, 0, 0) 11).toInt + ((m : Nat) : Int) = 5) (kf18_ : (M11_.1 (12, 0, 0) 11).toInt + ((m : Nat) : Int) = 5) (kf92_ : (M85_.1 (12, 0, 0) 11).toInt + ((m : Nat) : Int) = 5) (kf166_ : (M159_.1 (12, 0, 0) 11).toInt + ((m : Nat) : Int) = 5) (kv0_51 : (M_51.1 (12, 0, 0) 11).toInt + ((m : Nat) : Int) = 5) (kf235_ : a ≤ (M_51.1 (12, 0, 0) 9).toInt) (kf235_ : a ≤ (M_51.1 (12, 0, 0) 9).toInt) (kf245_ : (M237_.1 (12, 0, 0) 11).toInt + ((m : Nat) : Int) = 5) (kf253_ : (M246_.1 (12, 0, 0) 11).toInt + ((m : Nat) : Int) = 5) (kf262_ : (M255_.1 (12, 0, 0) 11).toInt + ((m : Nat) : Int) = 5) (kf275_ : (M268_.1 (12, 0, 0) 11).toInt + ((m : Nat) : Int) = 5) (kf288_ : (M281_.1 (12, 0, 0) 11).toInt + ((m : Nat) : Int) = 5) (h289_ : PP M281_ (((s + 1) - 1) + 1) (D + 1) ((M_51.1 (12, 0, 0) 9).toInt + 1) T) (kf290_ : M281_.1 (12, 0, 0) 13 = 0) : (M_51.1 (12, 0, 0) 9).toInt + isX (2002 : Int32) ≤ ((M_51.1 (12, 0, 0) 9).toInt + 1) := by have h9 := isX_p (v := (2002 : Int32)) (by decide); omega
set_option maxHeartbeats 4000000 in
set_option maxRecDepth 100000 in
theorem c_X12_text (l : Launch) (G : va_G) (cy : Nat → ClassId) (ad : rf → Nat) (d : Nat) (N : Nat) (m : Nat) (QA : mM → mM → Prop) (QB : mM → mM → Prop) (s : Int) (D : Nat) (a : Int) (T : Int) (Mz : mM) (hIz : InvD Mz) (hA : ∀ k : Nat, k + 1 = m → ONED l G cy ad N k QA) (hB : ∀ k : Nat, k + 1 = m → TXTD l G cy ad N k QB) (hp : PP Mz s D a T) (hs : 0 ≤ s) (hk : (Mz.1 (12, 0, 0) 11).toInt + ((m : Nat) : Int) = 5) (hm : m ≤ 5) : WP DD l G cy ad yX12_text cX12_text 2 none ((N + d) + 12) 0 [(0, vR (12, 0, 0))] [] Mz (fun r M' => InvD M' ∧ FR (S_par) Mz M' ∧ (PP M' s (D + 1) a T ∧ (M'.1 (12, 0, 0) 11).toInt + ((m : Nat) : Int) = 5) ∧ SP_X12_text N m QA QB s D a T Mz M') := by
  have hFz : FR (S_par) Mz Mz := FR.self
  refine w_aload_n dX12_text_0 rfl 0 rfl ?_
  refine w_callVv (as := []) (rest := []) (c_X12_sum l G cy ad d N m QA QB s D a T Mz hIz hA hB hp hs hk hm) kV_X12_sum pnn_17 (Nat.le_of_ble_eq_true rfl) m_1563 rfl rfl rfl ic_12 rfl rfl (by decide) (Nat.le_of_ble_eq_true rfl) dX12_text_1 (fun M1_ q2_ => ?_)
  obtain ⟨hI4_, hF5_, h3_, hs7_⟩ := q2_
  have hF6_ := hFz.tr hF5_ (fun c k => (fun h => h.elim (fun h => (Or.inl ⟨h.1, h.2.1, h.2.2⟩)) (fun h => h.elim (fun h => (Or.inr (Or.inl ⟨h.1, h.2.1, h.2.2⟩))) (fun h => h.elim (fun h => (Or.inr (Or.inr (Or.inl ⟨h.1, h.2.1, h.2.2⟩)))) (fun h => h.elim (fun h => (Or.inr (Or.inr (Or.inr (Or.inl ⟨h.1, h.2.1, h.2.2⟩))))) (fun h => h.elim (fun h => (Or.inr (Or.inr (Or.inr (Or.inr (Or.inl ⟨h.1, h.2.1, h.2.2⟩)))))) (fun h => h.elim (fun h => (Or.inr (Or.inr (Or.inr (Or.inr (Or.inr (Or.inl ⟨h.1, h.2⟩))))))) (fun h => h.elim))))))))
  have h8_ : PP M1_ s (D + 1) a T := h3_.1
  have kf9_ : (M1_.1 (12, 0, 0) 11).toInt + ((m : Nat) : Int) = 5 := h3_.2
  refine w_aload_n dX12_text_4 rfl 0 rfl ?_
  refine w_bipush (v := 60) dX12_text_5 (by decide) ?_
  refine w_callV (as := [vI 60]) (rest := []) (c_X12_takes l G cy ad ((N + d) + 10) 60 s (D + 1) a T M1_ hI4_ h8_ (by first | decide | (unfold vF; omega) | (unfold vRw; omega))) kV_X12_takes pnn_17 (Nat.le_of_ble_eq_true rfl) m_1591 rfl rfl rfl ic_12 rfl rfl (by decide) (Nat.le_of_ble_eq_true rfl) dX12_text_7 (fun r10_ M11_ q12_ => ?_)
  obtain ⟨hI14_, hF15_, h13_, hs17_⟩ := q12_
  have hF16_ := hF6_.tr hF15_ (fun c k => (fun h => h.elim (fun h => (Or.inl ⟨h.1, h.2.1, h.2.2⟩)) (fun h => h.elim)))
  have kf18_ : (M11_.1 (12, 0, 0) 11).toInt + ((m : Nat) : Int) = 5 := by rw [(hF15_ (12, 0, 0) 11 (by simp [S_here]))]; exact kf9_
  rcases h13_ with ⟨rfl, h13_⟩ | ⟨rfl, h13_⟩
  · have h19_ : PP M11_ (s + 1) (D + 1) (a + 1) T := h13_.1
    have kf20_ : M11_.1 (12, 0, 0) 13 = 0 := h13_.2
    refine w_if_eq (tgt := 19) dX12_text_10 (by decide) li_1 (fun h9 => (absurd h9 (by decide))) (fun h21_ => ?_)
    refine w_sipush (v := 2000) dX12_text_13 (by decide) ?_
    refine w_goto (tgt := 50) dX12_text_16 (by decide) ?_
    refine w_istore_n (ls' := [(1, vI 2000), (0, vR (12, 0, 0))]) dX12_text_50 rfl (by decide) rfl ?_
    have lp22_ : ∀ (nn_51 : Nat) (M_51 : mM) (hI_51 : InvD M_51) (hF_51 : FR (S_par) Mz M_51) (v1_51 : Int32) (hv0_51 : v1_51.toInt = 0 ∨ (2000 ≤ v1_51.toInt ∧ v1_51.toInt ≤ 2002)) (hv1_51 : PP M_51 (s + isX v1_51) (D + 1) a T) (kv0_51 : (M_51.1 (12, 0, 0) 11).toInt + ((m : Nat) : Int) = 5) (hL_51 : RCH (fun x_ y_ => ST_X12_text_51 N m QA QB s D T Mz x_.1 x_.2 y_.1 y_.2) ((2000 : Int32), M11_) (v1_51, M_51)), (2 * (T - (M_51.1 (12, 0, 0) 9).toInt) + isX v1_51).toNat < nn_51 → WP DD l G cy ad yX12_text cX12_text 2 none ((N + d) + 12) 51 [(1, vI v1_51), (0, vR (12, 0, 0))] [] M_51 (fun r M' => InvD M' ∧ FR (S_par) Mz M' ∧ (PP M' s (D + 1) a T ∧ (M'.1 (12, 0, 0) 11).toInt + ((m : Nat) : Int) = 5) ∧ SP_X12_text N m QA QB s D a T Mz M') := by
      intro nn_51
      induction nn_51 with
      | zero => intro M_51 hI_51 hF_51 v1_51 hv0_51 hv1_51 kv0_51 hL_51 hm_51; exact absurd hm_51 (Nat.not_lt_zero _)
      | succ nn_51 ih_51 =>
        intro M_51 hI_51 hF_51 v1_51 hv0_51 hv1_51 kv0_51 hL_51 hm_51
        have h23_ : 0 ≤ isX v1_51 ∧ isX v1_51 ≤ 1 := isX_b v1_51
        refine w_iload_n dX12_text_51 rfl 0 rfl ?_
        refine w_if_le (tgt := 114) dX12_text_52 (by decide) (rfl : v1_51.toInt = v1_51.toInt) (fun h24_ => ?_) (fun h24_ => ?_)
        · exact w_vret rfl dX12_text_114 ⟨hI_51, hF_51, ⟨PP_mono hv1_51 (lf_c_X12_text_0 M_51 s D a T v1_51 hs hv0_51 hv1_51 h23_ h24_ ) (lf_c_X12_opens_41 a ), kv0_51⟩, ⟨M1_, hI4_, hF5_, hs7_, M11_, hI14_, hF15_, (Or.inl ⟨hs17_, v1_51, hv0_51, M_51, hL_51, hI_51, hF_51, hv1_51, h23_, h24_, rfl⟩)⟩⟩
        · have kf25_ : a ≤ (M_51.1 (12, 0, 0) 9).toInt := hv1_51.2.1
          have h26_ : PP M_51 (s + 1) (D + 1) (M_51.1 (12, 0, 0) 9).toInt T := PP_self (PP_mono hv1_51 (by rw [isX_p (lf_c_X12_term_2 v1_51 h24_ )]; exact Int.le_refl _) (Int.le_refl _))
          refine w_aload_n dX12_text_55 rfl 1 rfl ?_
          refine w_callVv (as := []) (rest := []) (c_X12_sum l G cy ad d N m QA QB (s + 1) (D + 1) ((M_51.1 (12, 0, 0) 9).toInt) T M_51 hI_51 hA hB h26_ (lf_c_X12_opens_8 s hs ) kv0_51 hm) kV_X12_sum pnn_17 (Nat.le_of_ble_eq_true rfl) m_1563 rfl rfl rfl ic_12 rfl rfl (by decide) (Nat.le_of_ble_eq_true rfl) dX12_text_56 (fun M27_ q28_ => ?_)
          obtain ⟨hI30_, hF31_, h29_, hs33_⟩ := q28_
          have hF32_ := hF_51.tr hF31_ (fun c k => (fun h => h.elim (fun h => (Or.inl ⟨h.1, h.2.1, h.2.2⟩)) (fun h => h.elim (fun h => (Or.inr (Or.inl ⟨h.1, h.2.1, h.2.2⟩))) (fun h => h.elim (fun h => (Or.inr (Or.inr (Or.inl ⟨h.1, h.2.1, h.2.2⟩)))) (fun h => h.elim (fun h => (Or.inr (Or.inr (Or.inr (Or.inl ⟨h.1, h.2.1, h.2.2⟩))))) (fun h => h.elim (fun h => (Or.inr (Or.inr (Or.inr (Or.inr (Or.inl ⟨h.1, h.2.1, h.2.2⟩)))))) (fun h => h.elim (fun h => (Or.inr (Or.inr (Or.inr (Or.inr (Or.inr (Or.inl ⟨h.1, h.2⟩))))))) (fun h => h.elim))))))))
          have h34_ : PP M27_ (s + 1) ((D + 1) + 1) (M_51.1 (12, 0, 0) 9).toInt T := h29_.1
          have kf35_ : (M27_.1 (12, 0, 0) 11).toInt + ((m : Nat) : Int) = 5 := h29_.2
          refine w_aload_n dX12_text_59 rfl 1 rfl ?_
          refine w_iload_n dX12_text_60 rfl 0 rfl ?_
          refine w_callVv (as := [vI v1_51]) (rest := []) (c_X12_codes l G cy ad ((N + d) + 11) v1_51 (s + 1) ((D + 1) + 1) ((M_51.1 (12, 0, 0) 9).toInt) T (D + 1) M27_ hI30_ h34_ (lf_c_X12_opens_8 s hs ) (stp_op (lf_c_X12_text_5 v1_51 hv0_51 h24_ ))) kV_X12_codes pnn_17 (Nat.le_of_ble_eq_true rfl) m_1583 rfl rfl rfl ic_12 rfl rfl (by decide) (Nat.le_of_ble_eq_true rfl) dX12_text_61 (fun M36_ q37_ => ?_)
          obtain ⟨hI39_, hF40_, h38_, hs42_⟩ := q37_
          have hF41_ := hF32_.tr hF40_ (fun c k => (fun h => h.elim (fun h => (Or.inr (Or.inr (Or.inr (Or.inr (Or.inl ⟨h.1, h.2.1, h.2.2⟩)))))) (fun h => h.elim (fun h => (Or.inr (Or.inr (Or.inr (Or.inr (Or.inr (Or.inl ⟨h.1, h.2⟩))))))) (fun h => h.elim))))
          have kf43_ : (M36_.1 (12, 0, 0) 11).toInt + ((m : Nat) : Int) = 5 := by rw [(hF40_ (12, 0, 0) 11 (by simp [S_codes]))]; exact kf35_
          refine w_aload_n dX12_text_64 rfl 1 rfl ?_
          refine w_bipush (v := 60) dX12_text_65 (by decide) ?_
          refine w_callV (as := [vI 60]) (rest := []) (c_X12_takes l G cy ad ((N + d) + 10) 60 ((s + 1) - 1) (D + 1) ((M_51.1 (12, 0, 0) 9).toInt) T M36_ hI39_ h38_ (by first | decide | (unfold vF; omega) | (unfold vRw; omega))) kV_X12_takes pnn_17 (Nat.le_of_ble_eq_true rfl) m_1591 rfl rfl rfl ic_12 rfl rfl (by decide) (Nat.le_of_ble_eq_true rfl) dX12_text_67 (fun r44_ M45_ q46_ => ?_)
          obtain ⟨hI48_, hF49_, h47_, hs51_⟩ := q46_
          have hF50_ := hF41_.tr hF49_ (fun c k => (fun h => h.elim (fun h => (Or.inl ⟨h.1, h.2.1, h.2.2⟩)) (fun h => h.elim)))
          have kf52_ : (M45_.1 (12, 0, 0) 11).toInt + ((m : Nat) : Int) = 5 := by rw [(hF49_ (12, 0, 0) 11 (by simp [S_here]))]; exact kf43_
          rcases h47_ with ⟨rfl, h47_⟩ | ⟨rfl, h47_⟩
          · have h53_ : PP M45_ (((s + 1) - 1) + 1) (D + 1) ((M_51.1 (12, 0, 0) 9).toInt + 1) T := h47_.1
            have kf54_ : M45_.1 (12, 0, 0) 13 = 0 := h47_.2
            refine w_if_eq (tgt := 79) dX12_text_70 (by decide) li_1 (fun h9 => (absurd h9 (by decide))) (fun h55_ => ?_)
            refine w_sipush (v := 2000) dX12_text_73 (by decide) ?_
            refine w_goto (tgt := 110) dX12_text_76 (by decide) ?_
            refine w_istore_n (ls' := [(1, vI 2000), (0, vR (12, 0, 0))]) dX12_text_110 rfl (by decide) rfl ?_
            refine w_goto (tgt := 51) dX12_text_111 (by decide) ?_
            refine w_loc (ls' := [(1, vI 2000), (0, vR (12, 0, 0))]) [0, 1] rfl ?_
            exact ih_51 M45_ hI48_ hF50_ 2000 (lf_c_X12_text_6 ) (PP_mono h53_ (lf_c_X12_text_7 M45_ M_51 s D T hs h53_ ) (lf_c_X12_term_8 M_51 a kf25_ kf25_ )) kf52_ (RCH.tail hL_51 ⟨hv0_51, hI_51, hF_51, h23_, h24_, M27_, hI30_, hF31_, hs33_, M36_, hI39_, hF40_, hs42_, M45_, hI48_, hF49_, (Or.inl ⟨hs51_, h53_, rfl, rfl⟩)⟩) (Nat.lt_of_lt_of_le (PP_meas (A := (M_51.1 (12, 0, 0) 9).toInt) (x := v1_51) (x' := (2000 : Int32)) (PP_mono h53_ (Int.le_refl _) (lf_c_X12_text_9 M11_ M1_ M27_ M36_ M45_ M_51 Mz m s D a T hs hk hm kf9_ kf18_ kf20_ kv0_51 kf25_ kf25_ kf35_ kf43_ kf52_ h53_ kf54_ )) rfl (lf_c_X12_term_2 v1_51 h24_ )) (Nat.le_of_lt_succ hm_51))
          · refine w_if_eq (tgt := 79) dX12_text_70 (by decide) li_0 (fun h56_ => ?_) (fun h9 => (absurd h9 (by decide)))
            refine w_aload_n dX12_text_79 rfl 1 rfl ?_
            refine w_bipush (v := 61) dX12_text_80 (by decide) ?_
            refine w_callV (as := [vI 61]) (rest := []) (c_X12_takes l G cy ad ((N + d) + 10) 61 ((s + 1) - 1) (D + 1) ((M_51.1 (12, 0, 0) 9).toInt) T M45_ hI48_ h47_ (by first | decide | (unfold vF; omega) | (unfold vRw; omega))) kV_X12_takes pnn_17 (Nat.le_of_ble_eq_true rfl) m_1591 rfl rfl rfl ic_12 rfl rfl (by decide) (Nat.le_of_ble_eq_true rfl) dX12_text_82 (fun r57_ M58_ q59_ => ?_)
            obtain ⟨hI61_, hF62_, h60_, hs64_⟩ := q59_
            have hF63_ := hF50_.tr hF62_ (fun c k => (fun h => h.elim (fun h => (Or.inl ⟨h.1, h.2.1, h.2.2⟩)) (fun h => h.elim)))
            have kf65_ : (M58_.1 (12, 0, 0) 11).toInt + ((m : Nat) : Int) = 5 := by rw [(hF62_ (12, 0, 0) 11 (by simp [S_here]))]; exact kf52_
            rcases h60_ with ⟨rfl, h60_⟩ | ⟨rfl, h60_⟩
            · have h66_ : PP M58_ (((s + 1) - 1) + 1) (D + 1) ((M_51.1 (12, 0, 0) 9).toInt + 1) T := h60_.1
              have kf67_ : M58_.1 (12, 0, 0) 13 = 0 := h60_.2
              refine w_if_eq (tgt := 94) dX12_text_85 (by decide) li_1 (fun h9 => (absurd h9 (by decide))) (fun h68_ => ?_)
              refine w_sipush (v := 2001) dX12_text_88 (by decide) ?_
              refine w_goto (tgt := 110) dX12_text_91 (by decide) ?_
              refine w_istore_n (ls' := [(1, vI 2001), (0, vR (12, 0, 0))]) dX12_text_110 rfl (by decide) rfl ?_
              refine w_goto (tgt := 51) dX12_text_111 (by decide) ?_
              refine w_loc (ls' := [(1, vI 2001), (0, vR (12, 0, 0))]) [0, 1] rfl ?_
              exact ih_51 M58_ hI61_ hF63_ 2001 (lf_c_X12_text_11 ) (PP_mono h66_ (lf_c_X12_text_12 M58_ M_51 s D T hs h66_ ) (lf_c_X12_term_8 M_51 a kf25_ kf25_ )) kf65_ (RCH.tail hL_51 ⟨hv0_51, hI_51, hF_51, h23_, h24_, M27_, hI30_, hF31_, hs33_, M36_, hI39_, hF40_, hs42_, M45_, hI48_, hF49_, (Or.inr ⟨hs51_, M58_, hI61_, hF62_, (Or.inl ⟨hs64_, h66_, rfl, rfl⟩)⟩)⟩) (Nat.lt_of_lt_of_le (PP_meas (A := (M_51.1 (12, 0, 0) 9).toInt) (x := v1_51) (x' := (2001 : Int32)) (PP_mono h66_ (Int.le_refl _) (lf_c_X12_text_14 M11_ M1_ M27_ M36_ M45_ M58_ M_51 Mz m s D a T hs hk hm kf9_ kf18_ kf20_ kv0_51 kf25_ kf25_ kf35_ kf43_ kf52_ kf65_ h66_ kf67_ )) rfl (lf_c_X12_term_2 v1_51 h24_ )) (Nat.le_of_lt_succ hm_51))
            · refine w_if_eq (tgt := 94) dX12_text_85 (by decide) li_0 (fun h69_ => ?_) (fun h9 => (absurd h9 (by decide)))
              refine w_aload_n dX12_text_94 rfl 1 rfl ?_
              refine w_bipush (v := 62) dX12_text_95 (by decide) ?_
              refine w_callV (as := [vI 62]) (rest := []) (c_X12_takes l G cy ad ((N + d) + 10) 62 ((s + 1) - 1) (D + 1) ((M_51.1 (12, 0, 0) 9).toInt) T M58_ hI61_ h60_ (by first | decide | (unfold vF; omega) | (unfold vRw; omega))) kV_X12_takes pnn_17 (Nat.le_of_ble_eq_true rfl) m_1591 rfl rfl rfl ic_12 rfl rfl (by decide) (Nat.le_of_ble_eq_true rfl) dX12_text_97 (fun r70_ M71_ q72_ => ?_)
              obtain ⟨hI74_, hF75_, h73_, hs77_⟩ := q72_
              have hF76_ := hF63_.tr hF75_ (fun c k => (fun h => h.elim (fun h => (Or.inl ⟨h.1, h.2.1, h.2.2⟩)) (fun h => h.elim)))
              have kf78_ : (M71_.1 (12, 0, 0) 11).toInt + ((m : Nat) : Int) = 5 := by rw [(hF75_ (12, 0, 0) 11 (by simp [S_here]))]; exact kf65_
              rcases h73_ with ⟨rfl, h73_⟩ | ⟨rfl, h73_⟩
              · have h79_ : PP M71_ (((s + 1) - 1) + 1) (D + 1) ((M_51.1 (12, 0, 0) 9).toInt + 1) T := h73_.1
                have kf80_ : M71_.1 (12, 0, 0) 13 = 0 := h73_.2
                refine w_if_eq (tgt := 109) dX12_text_100 (by decide) li_1 (fun h9 => (absurd h9 (by decide))) (fun h81_ => ?_)
                refine w_sipush (v := 2002) dX12_text_103 (by decide) ?_
                refine w_goto (tgt := 110) dX12_text_106 (by decide) ?_
                refine w_istore_n (ls' := [(1, vI 2002), (0, vR (12, 0, 0))]) dX12_text_110 rfl (by decide) rfl ?_
                refine w_goto (tgt := 51) dX12_text_111 (by decide) ?_
                refine w_loc (ls' := [(1, vI 2002), (0, vR (12, 0, 0))]) [0, 1] rfl ?_
                exact ih_51 M71_ hI74_ hF76_ 2002 (lf_c_X12_text_16 ) (PP_mono h79_ (lf_c_X12_text_17 M71_ M_51 s D T hs h79_ ) (lf_c_X12_term_8 M_51 a kf25_ kf25_ )) kf78_ (RCH.tail hL_51 ⟨hv0_51, hI_51, hF_51, h23_, h24_, M27_, hI30_, hF31_, hs33_, M36_, hI39_, hF40_, hs42_, M45_, hI48_, hF49_, (Or.inr ⟨hs51_, M58_, hI61_, hF62_, (Or.inr ⟨hs64_, M71_, hI74_, hF75_, (Or.inl ⟨hs77_, h79_, rfl, rfl⟩)⟩)⟩)⟩) (Nat.lt_of_lt_of_le (PP_meas (A := (M_51.1 (12, 0, 0) 9).toInt) (x := v1_51) (x' := (2002 : Int32)) (PP_mono h79_ (Int.le_refl _) (lf_c_X12_text_19 M11_ M1_ M27_ M36_ M45_ M58_ M71_ M_51 Mz m s D a T hs hk hm kf9_ kf18_ kf20_ kv0_51 kf25_ kf25_ kf35_ kf43_ kf52_ kf65_ kf78_ h79_ kf80_ )) rfl (lf_c_X12_term_2 v1_51 h24_ )) (Nat.le_of_lt_succ hm_51))
              · refine w_if_eq (tgt := 109) dX12_text_100 (by decide) li_0 (fun h82_ => ?_) (fun h9 => (absurd h9 (by decide)))
                refine w_iconst (v := 0) dX12_text_109 (by decide) ?_
                refine w_istore_n (ls' := [(1, vI 0), (0, vR (12, 0, 0))]) dX12_text_110 rfl (by decide) rfl ?_
                refine w_goto (tgt := 51) dX12_text_111 (by decide) ?_
                refine w_loc (ls' := [(1, vI 0), (0, vR (12, 0, 0))]) [0, 1] rfl ?_
                exact ih_51 M71_ hI74_ hF76_ 0 (lf_c_X12_text_21 ) (PP_mono h73_ (lf_c_X12_term_22 M71_ M_51 s D T hs h73_ ) (lf_c_X12_term_23 M_51 a kf25_ kf25_ )) kf78_ (RCH.tail hL_51 ⟨hv0_51, hI_51, hF_51, h23_, h24_, M27_, hI30_, hF31_, hs33_, M36_, hI39_, hF40_, hs42_, M45_, hI48_, hF49_, (Or.inr ⟨hs51_, M58_, hI61_, hF62_, (Or.inr ⟨hs64_, M71_, hI74_, hF75_, (Or.inr ⟨hs77_, h73_, rfl, rfl⟩)⟩)⟩)⟩) (Nat.lt_of_lt_of_le (PP_meas (A := (M_51.1 (12, 0, 0) 9).toInt) (x := v1_51) (x' := (0 : Int32)) (PP_mono h73_ (Int.le_refl _) (lf_c_X12_term_24 M11_ M1_ M27_ M36_ M45_ M58_ M71_ M_51 Mz m s D a T hs hk hm kf9_ kf18_ kf20_ kv0_51 kf25_ kf25_ kf35_ kf43_ kf52_ kf65_ kf78_ h73_ )) rfl (lf_c_X12_term_2 v1_51 h24_ )) (Nat.le_of_lt_succ hm_51))
    exact lp22_ _ M11_ hI14_ hF16_ 2000 (lf_c_X12_text_6 ) (PP_mono h19_ (lf_c_X12_text_27 M11_ s D a T hs h19_ ) (lf_c_X12_here_19 a )) kf18_ RCH.refl (Nat.lt_succ_self _)
  · refine w_if_eq (tgt := 19) dX12_text_10 (by decide) li_0 (fun h83_ => ?_) (fun h9 => (absurd h9 (by decide)))
    refine w_aload_n dX12_text_19 rfl 0 rfl ?_
    refine w_bipush (v := 61) dX12_text_20 (by decide) ?_
    refine w_callV (as := [vI 61]) (rest := []) (c_X12_takes l G cy ad ((N + d) + 10) 61 s (D + 1) a T M11_ hI14_ h13_ (by first | decide | (unfold vF; omega) | (unfold vRw; omega))) kV_X12_takes pnn_17 (Nat.le_of_ble_eq_true rfl) m_1591 rfl rfl rfl ic_12 rfl rfl (by decide) (Nat.le_of_ble_eq_true rfl) dX12_text_22 (fun r84_ M85_ q86_ => ?_)
    obtain ⟨hI88_, hF89_, h87_, hs91_⟩ := q86_
    have hF90_ := hF16_.tr hF89_ (fun c k => (fun h => h.elim (fun h => (Or.inl ⟨h.1, h.2.1, h.2.2⟩)) (fun h => h.elim)))
    have kf92_ : (M85_.1 (12, 0, 0) 11).toInt + ((m : Nat) : Int) = 5 := by rw [(hF89_ (12, 0, 0) 11 (by simp [S_here]))]; exact kf18_
    rcases h87_ with ⟨rfl, h87_⟩ | ⟨rfl, h87_⟩
    · have h93_ : PP M85_ (s + 1) (D + 1) (a + 1) T := h87_.1
      have kf94_ : M85_.1 (12, 0, 0) 13 = 0 := h87_.2
      refine w_if_eq (tgt := 34) dX12_text_25 (by decide) li_1 (fun h9 => (absurd h9 (by decide))) (fun h95_ => ?_)
      refine w_sipush (v := 2001) dX12_text_28 (by decide) ?_
      refine w_goto (tgt := 50) dX12_text_31 (by decide) ?_
      refine w_istore_n (ls' := [(1, vI 2001), (0, vR (12, 0, 0))]) dX12_text_50 rfl (by decide) rfl ?_
      have lp96_ : ∀ (nn_51 : Nat) (M_51 : mM) (hI_51 : InvD M_51) (hF_51 : FR (S_par) Mz M_51) (v1_51 : Int32) (hv0_51 : v1_51.toInt = 0 ∨ (2000 ≤ v1_51.toInt ∧ v1_51.toInt ≤ 2002)) (hv1_51 : PP M_51 (s + isX v1_51) (D + 1) a T) (kv0_51 : (M_51.1 (12, 0, 0) 11).toInt + ((m : Nat) : Int) = 5) (hL_51 : RCH (fun x_ y_ => ST_X12_text_51b N m QA QB s D T Mz x_.1 x_.2 y_.1 y_.2) ((2001 : Int32), M85_) (v1_51, M_51)), (2 * (T - (M_51.1 (12, 0, 0) 9).toInt) + isX v1_51).toNat < nn_51 → WP DD l G cy ad yX12_text cX12_text 2 none ((N + d) + 12) 51 [(1, vI v1_51), (0, vR (12, 0, 0))] [] M_51 (fun r M' => InvD M' ∧ FR (S_par) Mz M' ∧ (PP M' s (D + 1) a T ∧ (M'.1 (12, 0, 0) 11).toInt + ((m : Nat) : Int) = 5) ∧ SP_X12_text N m QA QB s D a T Mz M') := by
        intro nn_51
        induction nn_51 with
        | zero => intro M_51 hI_51 hF_51 v1_51 hv0_51 hv1_51 kv0_51 hL_51 hm_51; exact absurd hm_51 (Nat.not_lt_zero _)
        | succ nn_51 ih_51 =>
          intro M_51 hI_51 hF_51 v1_51 hv0_51 hv1_51 kv0_51 hL_51 hm_51
          have h97_ : 0 ≤ isX v1_51 ∧ isX v1_51 ≤ 1 := isX_b v1_51
          refine w_iload_n dX12_text_51 rfl 0 rfl ?_
          refine w_if_le (tgt := 114) dX12_text_52 (by decide) (rfl : v1_51.toInt = v1_51.toInt) (fun h98_ => ?_) (fun h98_ => ?_)
          · exact w_vret rfl dX12_text_114 ⟨hI_51, hF_51, ⟨PP_mono hv1_51 (lf_c_X12_text_0 M_51 s D a T v1_51 hs hv0_51 hv1_51 h97_ h98_ ) (lf_c_X12_opens_41 a ), kv0_51⟩, ⟨M1_, hI4_, hF5_, hs7_, M11_, hI14_, hF15_, (Or.inr ⟨hs17_, M85_, hI88_, hF89_, (Or.inl ⟨hs91_, v1_51, hv0_51, M_51, hL_51, hI_51, hF_51, hv1_51, h97_, h98_, rfl⟩)⟩)⟩⟩
          · have kf99_ : a ≤ (M_51.1 (12, 0, 0) 9).toInt := hv1_51.2.1
            have h100_ : PP M_51 (s + 1) (D + 1) (M_51.1 (12, 0, 0) 9).toInt T := PP_self (PP_mono hv1_51 (by rw [isX_p (lf_c_X12_term_2 v1_51 h98_ )]; exact Int.le_refl _) (Int.le_refl _))
            refine w_aload_n dX12_text_55 rfl 1 rfl ?_
            refine w_callVv (as := []) (rest := []) (c_X12_sum l G cy ad d N m QA QB (s + 1) (D + 1) ((M_51.1 (12, 0, 0) 9).toInt) T M_51 hI_51 hA hB h100_ (lf_c_X12_opens_8 s hs ) kv0_51 hm) kV_X12_sum pnn_17 (Nat.le_of_ble_eq_true rfl) m_1563 rfl rfl rfl ic_12 rfl rfl (by decide) (Nat.le_of_ble_eq_true rfl) dX12_text_56 (fun M101_ q102_ => ?_)
            obtain ⟨hI104_, hF105_, h103_, hs107_⟩ := q102_
            have hF106_ := hF_51.tr hF105_ (fun c k => (fun h => h.elim (fun h => (Or.inl ⟨h.1, h.2.1, h.2.2⟩)) (fun h => h.elim (fun h => (Or.inr (Or.inl ⟨h.1, h.2.1, h.2.2⟩))) (fun h => h.elim (fun h => (Or.inr (Or.inr (Or.inl ⟨h.1, h.2.1, h.2.2⟩)))) (fun h => h.elim (fun h => (Or.inr (Or.inr (Or.inr (Or.inl ⟨h.1, h.2.1, h.2.2⟩))))) (fun h => h.elim (fun h => (Or.inr (Or.inr (Or.inr (Or.inr (Or.inl ⟨h.1, h.2.1, h.2.2⟩)))))) (fun h => h.elim (fun h => (Or.inr (Or.inr (Or.inr (Or.inr (Or.inr (Or.inl ⟨h.1, h.2⟩))))))) (fun h => h.elim))))))))
            have h108_ : PP M101_ (s + 1) ((D + 1) + 1) (M_51.1 (12, 0, 0) 9).toInt T := h103_.1
            have kf109_ : (M101_.1 (12, 0, 0) 11).toInt + ((m : Nat) : Int) = 5 := h103_.2
            refine w_aload_n dX12_text_59 rfl 1 rfl ?_
            refine w_iload_n dX12_text_60 rfl 0 rfl ?_
            refine w_callVv (as := [vI v1_51]) (rest := []) (c_X12_codes l G cy ad ((N + d) + 11) v1_51 (s + 1) ((D + 1) + 1) ((M_51.1 (12, 0, 0) 9).toInt) T (D + 1) M101_ hI104_ h108_ (lf_c_X12_opens_8 s hs ) (stp_op (lf_c_X12_text_5 v1_51 hv0_51 h98_ ))) kV_X12_codes pnn_17 (Nat.le_of_ble_eq_true rfl) m_1583 rfl rfl rfl ic_12 rfl rfl (by decide) (Nat.le_of_ble_eq_true rfl) dX12_text_61 (fun M110_ q111_ => ?_)
            obtain ⟨hI113_, hF114_, h112_, hs116_⟩ := q111_
            have hF115_ := hF106_.tr hF114_ (fun c k => (fun h => h.elim (fun h => (Or.inr (Or.inr (Or.inr (Or.inr (Or.inl ⟨h.1, h.2.1, h.2.2⟩)))))) (fun h => h.elim (fun h => (Or.inr (Or.inr (Or.inr (Or.inr (Or.inr (Or.inl ⟨h.1, h.2⟩))))))) (fun h => h.elim))))
            have kf117_ : (M110_.1 (12, 0, 0) 11).toInt + ((m : Nat) : Int) = 5 := by rw [(hF114_ (12, 0, 0) 11 (by simp [S_codes]))]; exact kf109_
            refine w_aload_n dX12_text_64 rfl 1 rfl ?_
            refine w_bipush (v := 60) dX12_text_65 (by decide) ?_
            refine w_callV (as := [vI 60]) (rest := []) (c_X12_takes l G cy ad ((N + d) + 10) 60 ((s + 1) - 1) (D + 1) ((M_51.1 (12, 0, 0) 9).toInt) T M110_ hI113_ h112_ (by first | decide | (unfold vF; omega) | (unfold vRw; omega))) kV_X12_takes pnn_17 (Nat.le_of_ble_eq_true rfl) m_1591 rfl rfl rfl ic_12 rfl rfl (by decide) (Nat.le_of_ble_eq_true rfl) dX12_text_67 (fun r118_ M119_ q120_ => ?_)
            obtain ⟨hI122_, hF123_, h121_, hs125_⟩ := q120_
            have hF124_ := hF115_.tr hF123_ (fun c k => (fun h => h.elim (fun h => (Or.inl ⟨h.1, h.2.1, h.2.2⟩)) (fun h => h.elim)))
            have kf126_ : (M119_.1 (12, 0, 0) 11).toInt + ((m : Nat) : Int) = 5 := by rw [(hF123_ (12, 0, 0) 11 (by simp [S_here]))]; exact kf117_
            rcases h121_ with ⟨rfl, h121_⟩ | ⟨rfl, h121_⟩
            · have h127_ : PP M119_ (((s + 1) - 1) + 1) (D + 1) ((M_51.1 (12, 0, 0) 9).toInt + 1) T := h121_.1
              have kf128_ : M119_.1 (12, 0, 0) 13 = 0 := h121_.2
              refine w_if_eq (tgt := 79) dX12_text_70 (by decide) li_1 (fun h9 => (absurd h9 (by decide))) (fun h129_ => ?_)
              refine w_sipush (v := 2000) dX12_text_73 (by decide) ?_
              refine w_goto (tgt := 110) dX12_text_76 (by decide) ?_
              refine w_istore_n (ls' := [(1, vI 2000), (0, vR (12, 0, 0))]) dX12_text_110 rfl (by decide) rfl ?_
              refine w_goto (tgt := 51) dX12_text_111 (by decide) ?_
              refine w_loc (ls' := [(1, vI 2000), (0, vR (12, 0, 0))]) [0, 1] rfl ?_
              exact ih_51 M119_ hI122_ hF124_ 2000 (lf_c_X12_text_6 ) (PP_mono h127_ (lf_c_X12_text_7 M119_ M_51 s D T hs h127_ ) (lf_c_X12_term_8 M_51 a kf99_ kf99_ )) kf126_ (RCH.tail hL_51 ⟨hv0_51, hI_51, hF_51, h97_, h98_, M101_, hI104_, hF105_, hs107_, M110_, hI113_, hF114_, hs116_, M119_, hI122_, hF123_, (Or.inl ⟨hs125_, h127_, rfl, rfl⟩)⟩) (Nat.lt_of_lt_of_le (PP_meas (A := (M_51.1 (12, 0, 0) 9).toInt) (x := v1_51) (x' := (2000 : Int32)) (PP_mono h127_ (Int.le_refl _) (lf_c_X12_text_38 M101_ M110_ M119_ M11_ M1_ M85_ M_51 Mz m s D a T hs hk hm kf9_ kf18_ kf92_ kf94_ kv0_51 kf99_ kf99_ kf109_ kf117_ kf126_ h127_ kf128_ )) rfl (lf_c_X12_term_2 v1_51 h98_ )) (Nat.le_of_lt_succ hm_51))
            · refine w_if_eq (tgt := 79) dX12_text_70 (by decide) li_0 (fun h130_ => ?_) (fun h9 => (absurd h9 (by decide)))
              refine w_aload_n dX12_text_79 rfl 1 rfl ?_
              refine w_bipush (v := 61) dX12_text_80 (by decide) ?_
              refine w_callV (as := [vI 61]) (rest := []) (c_X12_takes l G cy ad ((N + d) + 10) 61 ((s + 1) - 1) (D + 1) ((M_51.1 (12, 0, 0) 9).toInt) T M119_ hI122_ h121_ (by first | decide | (unfold vF; omega) | (unfold vRw; omega))) kV_X12_takes pnn_17 (Nat.le_of_ble_eq_true rfl) m_1591 rfl rfl rfl ic_12 rfl rfl (by decide) (Nat.le_of_ble_eq_true rfl) dX12_text_82 (fun r131_ M132_ q133_ => ?_)
              obtain ⟨hI135_, hF136_, h134_, hs138_⟩ := q133_
              have hF137_ := hF124_.tr hF136_ (fun c k => (fun h => h.elim (fun h => (Or.inl ⟨h.1, h.2.1, h.2.2⟩)) (fun h => h.elim)))
              have kf139_ : (M132_.1 (12, 0, 0) 11).toInt + ((m : Nat) : Int) = 5 := by rw [(hF136_ (12, 0, 0) 11 (by simp [S_here]))]; exact kf126_
              rcases h134_ with ⟨rfl, h134_⟩ | ⟨rfl, h134_⟩
              · have h140_ : PP M132_ (((s + 1) - 1) + 1) (D + 1) ((M_51.1 (12, 0, 0) 9).toInt + 1) T := h134_.1
                have kf141_ : M132_.1 (12, 0, 0) 13 = 0 := h134_.2
                refine w_if_eq (tgt := 94) dX12_text_85 (by decide) li_1 (fun h9 => (absurd h9 (by decide))) (fun h142_ => ?_)
                refine w_sipush (v := 2001) dX12_text_88 (by decide) ?_
                refine w_goto (tgt := 110) dX12_text_91 (by decide) ?_
                refine w_istore_n (ls' := [(1, vI 2001), (0, vR (12, 0, 0))]) dX12_text_110 rfl (by decide) rfl ?_
                refine w_goto (tgt := 51) dX12_text_111 (by decide) ?_
                refine w_loc (ls' := [(1, vI 2001), (0, vR (12, 0, 0))]) [0, 1] rfl ?_
                exact ih_51 M132_ hI135_ hF137_ 2001 (lf_c_X12_text_11 ) (PP_mono h140_ (lf_c_X12_text_12 M132_ M_51 s D T hs h140_ ) (lf_c_X12_term_8 M_51 a kf99_ kf99_ )) kf139_ (RCH.tail hL_51 ⟨hv0_51, hI_51, hF_51, h97_, h98_, M101_, hI104_, hF105_, hs107_, M110_, hI113_, hF114_, hs116_, M119_, hI122_, hF123_, (Or.inr ⟨hs125_, M132_, hI135_, hF136_, (Or.inl ⟨hs138_, h140_, rfl, rfl⟩)⟩)⟩) (Nat.lt_of_lt_of_le (PP_meas (A := (M_51.1 (12, 0, 0) 9).toInt) (x := v1_51) (x' := (2001 : Int32)) (PP_mono h140_ (Int.le_refl _) (lf_c_X12_text_43 M101_ M110_ M119_ M11_ M132_ M1_ M85_ M_51 Mz m s D a T hs hk hm kf9_ kf18_ kf92_ kf94_ kv0_51 kf99_ kf99_ kf109_ kf117_ kf126_ kf139_ h140_ kf141_ )) rfl (lf_c_X12_term_2 v1_51 h98_ )) (Nat.le_of_lt_succ hm_51))
              · refine w_if_eq (tgt := 94) dX12_text_85 (by decide) li_0 (fun h143_ => ?_) (fun h9 => (absurd h9 (by decide)))
                refine w_aload_n dX12_text_94 rfl 1 rfl ?_
                refine w_bipush (v := 62) dX12_text_95 (by decide) ?_
                refine w_callV (as := [vI 62]) (rest := []) (c_X12_takes l G cy ad ((N + d) + 10) 62 ((s + 1) - 1) (D + 1) ((M_51.1 (12, 0, 0) 9).toInt) T M132_ hI135_ h134_ (by first | decide | (unfold vF; omega) | (unfold vRw; omega))) kV_X12_takes pnn_17 (Nat.le_of_ble_eq_true rfl) m_1591 rfl rfl rfl ic_12 rfl rfl (by decide) (Nat.le_of_ble_eq_true rfl) dX12_text_97 (fun r144_ M145_ q146_ => ?_)
                obtain ⟨hI148_, hF149_, h147_, hs151_⟩ := q146_
                have hF150_ := hF137_.tr hF149_ (fun c k => (fun h => h.elim (fun h => (Or.inl ⟨h.1, h.2.1, h.2.2⟩)) (fun h => h.elim)))
                have kf152_ : (M145_.1 (12, 0, 0) 11).toInt + ((m : Nat) : Int) = 5 := by rw [(hF149_ (12, 0, 0) 11 (by simp [S_here]))]; exact kf139_
                rcases h147_ with ⟨rfl, h147_⟩ | ⟨rfl, h147_⟩
                · have h153_ : PP M145_ (((s + 1) - 1) + 1) (D + 1) ((M_51.1 (12, 0, 0) 9).toInt + 1) T := h147_.1
                  have kf154_ : M145_.1 (12, 0, 0) 13 = 0 := h147_.2
                  refine w_if_eq (tgt := 109) dX12_text_100 (by decide) li_1 (fun h9 => (absurd h9 (by decide))) (fun h155_ => ?_)
                  refine w_sipush (v := 2002) dX12_text_103 (by decide) ?_
                  refine w_goto (tgt := 110) dX12_text_106 (by decide) ?_
                  refine w_istore_n (ls' := [(1, vI 2002), (0, vR (12, 0, 0))]) dX12_text_110 rfl (by decide) rfl ?_
                  refine w_goto (tgt := 51) dX12_text_111 (by decide) ?_
                  refine w_loc (ls' := [(1, vI 2002), (0, vR (12, 0, 0))]) [0, 1] rfl ?_
                  exact ih_51 M145_ hI148_ hF150_ 2002 (lf_c_X12_text_16 ) (PP_mono h153_ (lf_c_X12_text_17 M145_ M_51 s D T hs h153_ ) (lf_c_X12_term_8 M_51 a kf99_ kf99_ )) kf152_ (RCH.tail hL_51 ⟨hv0_51, hI_51, hF_51, h97_, h98_, M101_, hI104_, hF105_, hs107_, M110_, hI113_, hF114_, hs116_, M119_, hI122_, hF123_, (Or.inr ⟨hs125_, M132_, hI135_, hF136_, (Or.inr ⟨hs138_, M145_, hI148_, hF149_, (Or.inl ⟨hs151_, h153_, rfl, rfl⟩)⟩)⟩)⟩) (Nat.lt_of_lt_of_le (PP_meas (A := (M_51.1 (12, 0, 0) 9).toInt) (x := v1_51) (x' := (2002 : Int32)) (PP_mono h153_ (Int.le_refl _) (lf_c_X12_text_48 M101_ M110_ M119_ M11_ M132_ M145_ M1_ M85_ M_51 Mz m s D a T hs hk hm kf9_ kf18_ kf92_ kf94_ kv0_51 kf99_ kf99_ kf109_ kf117_ kf126_ kf139_ kf152_ h153_ kf154_ )) rfl (lf_c_X12_term_2 v1_51 h98_ )) (Nat.le_of_lt_succ hm_51))
                · refine w_if_eq (tgt := 109) dX12_text_100 (by decide) li_0 (fun h156_ => ?_) (fun h9 => (absurd h9 (by decide)))
                  refine w_iconst (v := 0) dX12_text_109 (by decide) ?_
                  refine w_istore_n (ls' := [(1, vI 0), (0, vR (12, 0, 0))]) dX12_text_110 rfl (by decide) rfl ?_
                  refine w_goto (tgt := 51) dX12_text_111 (by decide) ?_
                  refine w_loc (ls' := [(1, vI 0), (0, vR (12, 0, 0))]) [0, 1] rfl ?_
                  exact ih_51 M145_ hI148_ hF150_ 0 (lf_c_X12_text_21 ) (PP_mono h147_ (lf_c_X12_term_22 M145_ M_51 s D T hs h147_ ) (lf_c_X12_term_23 M_51 a kf99_ kf99_ )) kf152_ (RCH.tail hL_51 ⟨hv0_51, hI_51, hF_51, h97_, h98_, M101_, hI104_, hF105_, hs107_, M110_, hI113_, hF114_, hs116_, M119_, hI122_, hF123_, (Or.inr ⟨hs125_, M132_, hI135_, hF136_, (Or.inr ⟨hs138_, M145_, hI148_, hF149_, (Or.inr ⟨hs151_, h147_, rfl, rfl⟩)⟩)⟩)⟩) (Nat.lt_of_lt_of_le (PP_meas (A := (M_51.1 (12, 0, 0) 9).toInt) (x := v1_51) (x' := (0 : Int32)) (PP_mono h147_ (Int.le_refl _) (lf_c_X12_term_53 M101_ M110_ M119_ M11_ M132_ M145_ M1_ M85_ M_51 Mz m s D a T hs hk hm kf9_ kf18_ kf92_ kf94_ kv0_51 kf99_ kf99_ kf109_ kf117_ kf126_ kf139_ kf152_ h147_ )) rfl (lf_c_X12_term_2 v1_51 h98_ )) (Nat.le_of_lt_succ hm_51))
      exact lp96_ _ M85_ hI88_ hF90_ 2001 (lf_c_X12_text_11 ) (PP_mono h93_ (lf_c_X12_text_56 M85_ s D a T hs h93_ ) (lf_c_X12_here_19 a )) kf92_ RCH.refl (Nat.lt_succ_self _)
    · refine w_if_eq (tgt := 34) dX12_text_25 (by decide) li_0 (fun h157_ => ?_) (fun h9 => (absurd h9 (by decide)))
      refine w_aload_n dX12_text_34 rfl 0 rfl ?_
      refine w_bipush (v := 62) dX12_text_35 (by decide) ?_
      refine w_callV (as := [vI 62]) (rest := []) (c_X12_takes l G cy ad ((N + d) + 10) 62 s (D + 1) a T M85_ hI88_ h87_ (by first | decide | (unfold vF; omega) | (unfold vRw; omega))) kV_X12_takes pnn_17 (Nat.le_of_ble_eq_true rfl) m_1591 rfl rfl rfl ic_12 rfl rfl (by decide) (Nat.le_of_ble_eq_true rfl) dX12_text_37 (fun r158_ M159_ q160_ => ?_)
      obtain ⟨hI162_, hF163_, h161_, hs165_⟩ := q160_
      have hF164_ := hF90_.tr hF163_ (fun c k => (fun h => h.elim (fun h => (Or.inl ⟨h.1, h.2.1, h.2.2⟩)) (fun h => h.elim)))
      have kf166_ : (M159_.1 (12, 0, 0) 11).toInt + ((m : Nat) : Int) = 5 := by rw [(hF163_ (12, 0, 0) 11 (by simp [S_here]))]; exact kf92_
      rcases h161_ with ⟨rfl, h161_⟩ | ⟨rfl, h161_⟩
      · have h167_ : PP M159_ (s + 1) (D + 1) (a + 1) T := h161_.1
        have kf168_ : M159_.1 (12, 0, 0) 13 = 0 := h161_.2
        refine w_if_eq (tgt := 49) dX12_text_40 (by decide) li_1 (fun h9 => (absurd h9 (by decide))) (fun h169_ => ?_)
        refine w_sipush (v := 2002) dX12_text_43 (by decide) ?_
        refine w_goto (tgt := 50) dX12_text_46 (by decide) ?_
        refine w_istore_n (ls' := [(1, vI 2002), (0, vR (12, 0, 0))]) dX12_text_50 rfl (by decide) rfl ?_
        have lp170_ : ∀ (nn_51 : Nat) (M_51 : mM) (hI_51 : InvD M_51) (hF_51 : FR (S_par) Mz M_51) (v1_51 : Int32) (hv0_51 : v1_51.toInt = 0 ∨ (2000 ≤ v1_51.toInt ∧ v1_51.toInt ≤ 2002)) (hv1_51 : PP M_51 (s + isX v1_51) (D + 1) a T) (kv0_51 : (M_51.1 (12, 0, 0) 11).toInt + ((m : Nat) : Int) = 5) (hL_51 : RCH (fun x_ y_ => ST_X12_text_51c N m QA QB s D T Mz x_.1 x_.2 y_.1 y_.2) ((2002 : Int32), M159_) (v1_51, M_51)), (2 * (T - (M_51.1 (12, 0, 0) 9).toInt) + isX v1_51).toNat < nn_51 → WP DD l G cy ad yX12_text cX12_text 2 none ((N + d) + 12) 51 [(1, vI v1_51), (0, vR (12, 0, 0))] [] M_51 (fun r M' => InvD M' ∧ FR (S_par) Mz M' ∧ (PP M' s (D + 1) a T ∧ (M'.1 (12, 0, 0) 11).toInt + ((m : Nat) : Int) = 5) ∧ SP_X12_text N m QA QB s D a T Mz M') := by
          intro nn_51
          induction nn_51 with
          | zero => intro M_51 hI_51 hF_51 v1_51 hv0_51 hv1_51 kv0_51 hL_51 hm_51; exact absurd hm_51 (Nat.not_lt_zero _)
          | succ nn_51 ih_51 =>
            intro M_51 hI_51 hF_51 v1_51 hv0_51 hv1_51 kv0_51 hL_51 hm_51
            have h171_ : 0 ≤ isX v1_51 ∧ isX v1_51 ≤ 1 := isX_b v1_51
            refine w_iload_n dX12_text_51 rfl 0 rfl ?_
            refine w_if_le (tgt := 114) dX12_text_52 (by decide) (rfl : v1_51.toInt = v1_51.toInt) (fun h172_ => ?_) (fun h172_ => ?_)
            · exact w_vret rfl dX12_text_114 ⟨hI_51, hF_51, ⟨PP_mono hv1_51 (lf_c_X12_text_0 M_51 s D a T v1_51 hs hv0_51 hv1_51 h171_ h172_ ) (lf_c_X12_opens_41 a ), kv0_51⟩, ⟨M1_, hI4_, hF5_, hs7_, M11_, hI14_, hF15_, (Or.inr ⟨hs17_, M85_, hI88_, hF89_, (Or.inr ⟨hs91_, M159_, hI162_, hF163_, (Or.inl ⟨hs165_, v1_51, hv0_51, M_51, hL_51, hI_51, hF_51, hv1_51, h171_, h172_, rfl⟩)⟩)⟩)⟩⟩
            · have kf173_ : a ≤ (M_51.1 (12, 0, 0) 9).toInt := hv1_51.2.1
              have h174_ : PP M_51 (s + 1) (D + 1) (M_51.1 (12, 0, 0) 9).toInt T := PP_self (PP_mono hv1_51 (by rw [isX_p (lf_c_X12_term_2 v1_51 h172_ )]; exact Int.le_refl _) (Int.le_refl _))
              refine w_aload_n dX12_text_55 rfl 1 rfl ?_
              refine w_callVv (as := []) (rest := []) (c_X12_sum l G cy ad d N m QA QB (s + 1) (D + 1) ((M_51.1 (12, 0, 0) 9).toInt) T M_51 hI_51 hA hB h174_ (lf_c_X12_opens_8 s hs ) kv0_51 hm) kV_X12_sum pnn_17 (Nat.le_of_ble_eq_true rfl) m_1563 rfl rfl rfl ic_12 rfl rfl (by decide) (Nat.le_of_ble_eq_true rfl) dX12_text_56 (fun M175_ q176_ => ?_)
              obtain ⟨hI178_, hF179_, h177_, hs181_⟩ := q176_
              have hF180_ := hF_51.tr hF179_ (fun c k => (fun h => h.elim (fun h => (Or.inl ⟨h.1, h.2.1, h.2.2⟩)) (fun h => h.elim (fun h => (Or.inr (Or.inl ⟨h.1, h.2.1, h.2.2⟩))) (fun h => h.elim (fun h => (Or.inr (Or.inr (Or.inl ⟨h.1, h.2.1, h.2.2⟩)))) (fun h => h.elim (fun h => (Or.inr (Or.inr (Or.inr (Or.inl ⟨h.1, h.2.1, h.2.2⟩))))) (fun h => h.elim (fun h => (Or.inr (Or.inr (Or.inr (Or.inr (Or.inl ⟨h.1, h.2.1, h.2.2⟩)))))) (fun h => h.elim (fun h => (Or.inr (Or.inr (Or.inr (Or.inr (Or.inr (Or.inl ⟨h.1, h.2⟩))))))) (fun h => h.elim))))))))
              have h182_ : PP M175_ (s + 1) ((D + 1) + 1) (M_51.1 (12, 0, 0) 9).toInt T := h177_.1
              have kf183_ : (M175_.1 (12, 0, 0) 11).toInt + ((m : Nat) : Int) = 5 := h177_.2
              refine w_aload_n dX12_text_59 rfl 1 rfl ?_
              refine w_iload_n dX12_text_60 rfl 0 rfl ?_
              refine w_callVv (as := [vI v1_51]) (rest := []) (c_X12_codes l G cy ad ((N + d) + 11) v1_51 (s + 1) ((D + 1) + 1) ((M_51.1 (12, 0, 0) 9).toInt) T (D + 1) M175_ hI178_ h182_ (lf_c_X12_opens_8 s hs ) (stp_op (lf_c_X12_text_5 v1_51 hv0_51 h172_ ))) kV_X12_codes pnn_17 (Nat.le_of_ble_eq_true rfl) m_1583 rfl rfl rfl ic_12 rfl rfl (by decide) (Nat.le_of_ble_eq_true rfl) dX12_text_61 (fun M184_ q185_ => ?_)
              obtain ⟨hI187_, hF188_, h186_, hs190_⟩ := q185_
              have hF189_ := hF180_.tr hF188_ (fun c k => (fun h => h.elim (fun h => (Or.inr (Or.inr (Or.inr (Or.inr (Or.inl ⟨h.1, h.2.1, h.2.2⟩)))))) (fun h => h.elim (fun h => (Or.inr (Or.inr (Or.inr (Or.inr (Or.inr (Or.inl ⟨h.1, h.2⟩))))))) (fun h => h.elim))))
              have kf191_ : (M184_.1 (12, 0, 0) 11).toInt + ((m : Nat) : Int) = 5 := by rw [(hF188_ (12, 0, 0) 11 (by simp [S_codes]))]; exact kf183_
              refine w_aload_n dX12_text_64 rfl 1 rfl ?_
              refine w_bipush (v := 60) dX12_text_65 (by decide) ?_
              refine w_callV (as := [vI 60]) (rest := []) (c_X12_takes l G cy ad ((N + d) + 10) 60 ((s + 1) - 1) (D + 1) ((M_51.1 (12, 0, 0) 9).toInt) T M184_ hI187_ h186_ (by first | decide | (unfold vF; omega) | (unfold vRw; omega))) kV_X12_takes pnn_17 (Nat.le_of_ble_eq_true rfl) m_1591 rfl rfl rfl ic_12 rfl rfl (by decide) (Nat.le_of_ble_eq_true rfl) dX12_text_67 (fun r192_ M193_ q194_ => ?_)
              obtain ⟨hI196_, hF197_, h195_, hs199_⟩ := q194_
              have hF198_ := hF189_.tr hF197_ (fun c k => (fun h => h.elim (fun h => (Or.inl ⟨h.1, h.2.1, h.2.2⟩)) (fun h => h.elim)))
              have kf200_ : (M193_.1 (12, 0, 0) 11).toInt + ((m : Nat) : Int) = 5 := by rw [(hF197_ (12, 0, 0) 11 (by simp [S_here]))]; exact kf191_
              rcases h195_ with ⟨rfl, h195_⟩ | ⟨rfl, h195_⟩
              · have h201_ : PP M193_ (((s + 1) - 1) + 1) (D + 1) ((M_51.1 (12, 0, 0) 9).toInt + 1) T := h195_.1
                have kf202_ : M193_.1 (12, 0, 0) 13 = 0 := h195_.2
                refine w_if_eq (tgt := 79) dX12_text_70 (by decide) li_1 (fun h9 => (absurd h9 (by decide))) (fun h203_ => ?_)
                refine w_sipush (v := 2000) dX12_text_73 (by decide) ?_
                refine w_goto (tgt := 110) dX12_text_76 (by decide) ?_
                refine w_istore_n (ls' := [(1, vI 2000), (0, vR (12, 0, 0))]) dX12_text_110 rfl (by decide) rfl ?_
                refine w_goto (tgt := 51) dX12_text_111 (by decide) ?_
                refine w_loc (ls' := [(1, vI 2000), (0, vR (12, 0, 0))]) [0, 1] rfl ?_
                exact ih_51 M193_ hI196_ hF198_ 2000 (lf_c_X12_text_6 ) (PP_mono h201_ (lf_c_X12_text_7 M193_ M_51 s D T hs h201_ ) (lf_c_X12_term_8 M_51 a kf173_ kf173_ )) kf200_ (RCH.tail hL_51 ⟨hv0_51, hI_51, hF_51, h171_, h172_, M175_, hI178_, hF179_, hs181_, M184_, hI187_, hF188_, hs190_, M193_, hI196_, hF197_, (Or.inl ⟨hs199_, h201_, rfl, rfl⟩)⟩) (Nat.lt_of_lt_of_le (PP_meas (A := (M_51.1 (12, 0, 0) 9).toInt) (x := v1_51) (x' := (2000 : Int32)) (PP_mono h201_ (Int.le_refl _) (lf_c_X12_text_67 M11_ M159_ M175_ M184_ M193_ M1_ M85_ M_51 Mz m s D a T hs hk hm kf9_ kf18_ kf92_ kf166_ kf168_ kv0_51 kf173_ kf173_ kf183_ kf191_ kf200_ h201_ kf202_ )) rfl (lf_c_X12_term_2 v1_51 h172_ )) (Nat.le_of_lt_succ hm_51))
              · refine w_if_eq (tgt := 79) dX12_text_70 (by decide) li_0 (fun h204_ => ?_) (fun h9 => (absurd h9 (by decide)))
                refine w_aload_n dX12_text_79 rfl 1 rfl ?_
                refine w_bipush (v := 61) dX12_text_80 (by decide) ?_
                refine w_callV (as := [vI 61]) (rest := []) (c_X12_takes l G cy ad ((N + d) + 10) 61 ((s + 1) - 1) (D + 1) ((M_51.1 (12, 0, 0) 9).toInt) T M193_ hI196_ h195_ (by first | decide | (unfold vF; omega) | (unfold vRw; omega))) kV_X12_takes pnn_17 (Nat.le_of_ble_eq_true rfl) m_1591 rfl rfl rfl ic_12 rfl rfl (by decide) (Nat.le_of_ble_eq_true rfl) dX12_text_82 (fun r205_ M206_ q207_ => ?_)
                obtain ⟨hI209_, hF210_, h208_, hs212_⟩ := q207_
                have hF211_ := hF198_.tr hF210_ (fun c k => (fun h => h.elim (fun h => (Or.inl ⟨h.1, h.2.1, h.2.2⟩)) (fun h => h.elim)))
                have kf213_ : (M206_.1 (12, 0, 0) 11).toInt + ((m : Nat) : Int) = 5 := by rw [(hF210_ (12, 0, 0) 11 (by simp [S_here]))]; exact kf200_
                rcases h208_ with ⟨rfl, h208_⟩ | ⟨rfl, h208_⟩
                · have h214_ : PP M206_ (((s + 1) - 1) + 1) (D + 1) ((M_51.1 (12, 0, 0) 9).toInt + 1) T := h208_.1
                  have kf215_ : M206_.1 (12, 0, 0) 13 = 0 := h208_.2
                  refine w_if_eq (tgt := 94) dX12_text_85 (by decide) li_1 (fun h9 => (absurd h9 (by decide))) (fun h216_ => ?_)
                  refine w_sipush (v := 2001) dX12_text_88 (by decide) ?_
                  refine w_goto (tgt := 110) dX12_text_91 (by decide) ?_
                  refine w_istore_n (ls' := [(1, vI 2001), (0, vR (12, 0, 0))]) dX12_text_110 rfl (by decide) rfl ?_
                  refine w_goto (tgt := 51) dX12_text_111 (by decide) ?_
                  refine w_loc (ls' := [(1, vI 2001), (0, vR (12, 0, 0))]) [0, 1] rfl ?_
                  exact ih_51 M206_ hI209_ hF211_ 2001 (lf_c_X12_text_11 ) (PP_mono h214_ (lf_c_X12_text_12 M206_ M_51 s D T hs h214_ ) (lf_c_X12_term_8 M_51 a kf173_ kf173_ )) kf213_ (RCH.tail hL_51 ⟨hv0_51, hI_51, hF_51, h171_, h172_, M175_, hI178_, hF179_, hs181_, M184_, hI187_, hF188_, hs190_, M193_, hI196_, hF197_, (Or.inr ⟨hs199_, M206_, hI209_, hF210_, (Or.inl ⟨hs212_, h214_, rfl, rfl⟩)⟩)⟩) (Nat.lt_of_lt_of_le (PP_meas (A := (M_51.1 (12, 0, 0) 9).toInt) (x := v1_51) (x' := (2001 : Int32)) (PP_mono h214_ (Int.le_refl _) (lf_c_X12_text_72 M11_ M159_ M175_ M184_ M193_ M1_ M206_ M85_ M_51 Mz m s D a T hs hk hm kf9_ kf18_ kf92_ kf166_ kf168_ kv0_51 kf173_ kf173_ kf183_ kf191_ kf200_ kf213_ h214_ kf215_ )) rfl (lf_c_X12_term_2 v1_51 h172_ )) (Nat.le_of_lt_succ hm_51))
                · refine w_if_eq (tgt := 94) dX12_text_85 (by decide) li_0 (fun h217_ => ?_) (fun h9 => (absurd h9 (by decide)))
                  refine w_aload_n dX12_text_94 rfl 1 rfl ?_
                  refine w_bipush (v := 62) dX12_text_95 (by decide) ?_
                  refine w_callV (as := [vI 62]) (rest := []) (c_X12_takes l G cy ad ((N + d) + 10) 62 ((s + 1) - 1) (D + 1) ((M_51.1 (12, 0, 0) 9).toInt) T M206_ hI209_ h208_ (by first | decide | (unfold vF; omega) | (unfold vRw; omega))) kV_X12_takes pnn_17 (Nat.le_of_ble_eq_true rfl) m_1591 rfl rfl rfl ic_12 rfl rfl (by decide) (Nat.le_of_ble_eq_true rfl) dX12_text_97 (fun r218_ M219_ q220_ => ?_)
                  obtain ⟨hI222_, hF223_, h221_, hs225_⟩ := q220_
                  have hF224_ := hF211_.tr hF223_ (fun c k => (fun h => h.elim (fun h => (Or.inl ⟨h.1, h.2.1, h.2.2⟩)) (fun h => h.elim)))
                  have kf226_ : (M219_.1 (12, 0, 0) 11).toInt + ((m : Nat) : Int) = 5 := by rw [(hF223_ (12, 0, 0) 11 (by simp [S_here]))]; exact kf213_
                  rcases h221_ with ⟨rfl, h221_⟩ | ⟨rfl, h221_⟩
                  · have h227_ : PP M219_ (((s + 1) - 1) + 1) (D + 1) ((M_51.1 (12, 0, 0) 9).toInt + 1) T := h221_.1
                    have kf228_ : M219_.1 (12, 0, 0) 13 = 0 := h221_.2
                    refine w_if_eq (tgt := 109) dX12_text_100 (by decide) li_1 (fun h9 => (absurd h9 (by decide))) (fun h229_ => ?_)
                    refine w_sipush (v := 2002) dX12_text_103 (by decide) ?_
                    refine w_goto (tgt := 110) dX12_text_106 (by decide) ?_
                    refine w_istore_n (ls' := [(1, vI 2002), (0, vR (12, 0, 0))]) dX12_text_110 rfl (by decide) rfl ?_
                    refine w_goto (tgt := 51) dX12_text_111 (by decide) ?_
                    refine w_loc (ls' := [(1, vI 2002), (0, vR (12, 0, 0))]) [0, 1] rfl ?_
                    exact ih_51 M219_ hI222_ hF224_ 2002 (lf_c_X12_text_16 ) (PP_mono h227_ (lf_c_X12_text_17 M219_ M_51 s D T hs h227_ ) (lf_c_X12_term_8 M_51 a kf173_ kf173_ )) kf226_ (RCH.tail hL_51 ⟨hv0_51, hI_51, hF_51, h171_, h172_, M175_, hI178_, hF179_, hs181_, M184_, hI187_, hF188_, hs190_, M193_, hI196_, hF197_, (Or.inr ⟨hs199_, M206_, hI209_, hF210_, (Or.inr ⟨hs212_, M219_, hI222_, hF223_, (Or.inl ⟨hs225_, h227_, rfl, rfl⟩)⟩)⟩)⟩) (Nat.lt_of_lt_of_le (PP_meas (A := (M_51.1 (12, 0, 0) 9).toInt) (x := v1_51) (x' := (2002 : Int32)) (PP_mono h227_ (Int.le_refl _) (lf_c_X12_text_77 M11_ M159_ M175_ M184_ M193_ M1_ M206_ M219_ M85_ M_51 Mz m s D a T hs hk hm kf9_ kf18_ kf92_ kf166_ kf168_ kv0_51 kf173_ kf173_ kf183_ kf191_ kf200_ kf213_ kf226_ h227_ kf228_ )) rfl (lf_c_X12_term_2 v1_51 h172_ )) (Nat.le_of_lt_succ hm_51))
                  · refine w_if_eq (tgt := 109) dX12_text_100 (by decide) li_0 (fun h230_ => ?_) (fun h9 => (absurd h9 (by decide)))
                    refine w_iconst (v := 0) dX12_text_109 (by decide) ?_
                    refine w_istore_n (ls' := [(1, vI 0), (0, vR (12, 0, 0))]) dX12_text_110 rfl (by decide) rfl ?_
                    refine w_goto (tgt := 51) dX12_text_111 (by decide) ?_
                    refine w_loc (ls' := [(1, vI 0), (0, vR (12, 0, 0))]) [0, 1] rfl ?_
                    exact ih_51 M219_ hI222_ hF224_ 0 (lf_c_X12_text_21 ) (PP_mono h221_ (lf_c_X12_term_22 M219_ M_51 s D T hs h221_ ) (lf_c_X12_term_23 M_51 a kf173_ kf173_ )) kf226_ (RCH.tail hL_51 ⟨hv0_51, hI_51, hF_51, h171_, h172_, M175_, hI178_, hF179_, hs181_, M184_, hI187_, hF188_, hs190_, M193_, hI196_, hF197_, (Or.inr ⟨hs199_, M206_, hI209_, hF210_, (Or.inr ⟨hs212_, M219_, hI222_, hF223_, (Or.inr ⟨hs225_, h221_, rfl, rfl⟩)⟩)⟩)⟩) (Nat.lt_of_lt_of_le (PP_meas (A := (M_51.1 (12, 0, 0) 9).toInt) (x := v1_51) (x' := (0 : Int32)) (PP_mono h221_ (Int.le_refl _) (lf_c_X12_term_82 M11_ M159_ M175_ M184_ M193_ M1_ M206_ M219_ M85_ M_51 Mz m s D a T hs hk hm kf9_ kf18_ kf92_ kf166_ kf168_ kv0_51 kf173_ kf173_ kf183_ kf191_ kf200_ kf213_ kf226_ h221_ )) rfl (lf_c_X12_term_2 v1_51 h172_ )) (Nat.le_of_lt_succ hm_51))
        exact lp170_ _ M159_ hI162_ hF164_ 2002 (lf_c_X12_text_16 ) (PP_mono h167_ (lf_c_X12_text_85 M159_ s D a T hs h167_ ) (lf_c_X12_here_19 a )) kf166_ RCH.refl (Nat.lt_succ_self _)
      · refine w_if_eq (tgt := 49) dX12_text_40 (by decide) li_0 (fun h231_ => ?_) (fun h9 => (absurd h9 (by decide)))
        refine w_iconst (v := 0) dX12_text_49 (by decide) ?_
        refine w_istore_n (ls' := [(1, vI 0), (0, vR (12, 0, 0))]) dX12_text_50 rfl (by decide) rfl ?_
        have lp232_ : ∀ (nn_51 : Nat) (M_51 : mM) (hI_51 : InvD M_51) (hF_51 : FR (S_par) Mz M_51) (v1_51 : Int32) (hv0_51 : v1_51.toInt = 0 ∨ (2000 ≤ v1_51.toInt ∧ v1_51.toInt ≤ 2002)) (hv1_51 : PP M_51 (s + isX v1_51) (D + 1) a T) (kv0_51 : (M_51.1 (12, 0, 0) 11).toInt + ((m : Nat) : Int) = 5) (hL_51 : RCH (fun x_ y_ => ST_X12_text_51d N m QA QB s D T Mz x_.1 x_.2 y_.1 y_.2) ((0 : Int32), M159_) (v1_51, M_51)), (2 * (T - (M_51.1 (12, 0, 0) 9).toInt) + isX v1_51).toNat < nn_51 → WP DD l G cy ad yX12_text cX12_text 2 none ((N + d) + 12) 51 [(1, vI v1_51), (0, vR (12, 0, 0))] [] M_51 (fun r M' => InvD M' ∧ FR (S_par) Mz M' ∧ (PP M' s (D + 1) a T ∧ (M'.1 (12, 0, 0) 11).toInt + ((m : Nat) : Int) = 5) ∧ SP_X12_text N m QA QB s D a T Mz M') := by
          intro nn_51
          induction nn_51 with
          | zero => intro M_51 hI_51 hF_51 v1_51 hv0_51 hv1_51 kv0_51 hL_51 hm_51; exact absurd hm_51 (Nat.not_lt_zero _)
          | succ nn_51 ih_51 =>
            intro M_51 hI_51 hF_51 v1_51 hv0_51 hv1_51 kv0_51 hL_51 hm_51
            have h233_ : 0 ≤ isX v1_51 ∧ isX v1_51 ≤ 1 := isX_b v1_51
            refine w_iload_n dX12_text_51 rfl 0 rfl ?_
            refine w_if_le (tgt := 114) dX12_text_52 (by decide) (rfl : v1_51.toInt = v1_51.toInt) (fun h234_ => ?_) (fun h234_ => ?_)
            · exact w_vret rfl dX12_text_114 ⟨hI_51, hF_51, ⟨PP_mono hv1_51 (lf_c_X12_text_0 M_51 s D a T v1_51 hs hv0_51 hv1_51 h233_ h234_ ) (lf_c_X12_opens_41 a ), kv0_51⟩, ⟨M1_, hI4_, hF5_, hs7_, M11_, hI14_, hF15_, (Or.inr ⟨hs17_, M85_, hI88_, hF89_, (Or.inr ⟨hs91_, M159_, hI162_, hF163_, (Or.inr ⟨hs165_, v1_51, hv0_51, M_51, hL_51, hI_51, hF_51, hv1_51, h233_, h234_, rfl⟩)⟩)⟩)⟩⟩
            · have kf235_ : a ≤ (M_51.1 (12, 0, 0) 9).toInt := hv1_51.2.1
              have h236_ : PP M_51 (s + 1) (D + 1) (M_51.1 (12, 0, 0) 9).toInt T := PP_self (PP_mono hv1_51 (by rw [isX_p (lf_c_X12_term_2 v1_51 h234_ )]; exact Int.le_refl _) (Int.le_refl _))
              refine w_aload_n dX12_text_55 rfl 1 rfl ?_
              refine w_callVv (as := []) (rest := []) (c_X12_sum l G cy ad d N m QA QB (s + 1) (D + 1) ((M_51.1 (12, 0, 0) 9).toInt) T M_51 hI_51 hA hB h236_ (lf_c_X12_opens_8 s hs ) kv0_51 hm) kV_X12_sum pnn_17 (Nat.le_of_ble_eq_true rfl) m_1563 rfl rfl rfl ic_12 rfl rfl (by decide) (Nat.le_of_ble_eq_true rfl) dX12_text_56 (fun M237_ q238_ => ?_)
              obtain ⟨hI240_, hF241_, h239_, hs243_⟩ := q238_
              have hF242_ := hF_51.tr hF241_ (fun c k => (fun h => h.elim (fun h => (Or.inl ⟨h.1, h.2.1, h.2.2⟩)) (fun h => h.elim (fun h => (Or.inr (Or.inl ⟨h.1, h.2.1, h.2.2⟩))) (fun h => h.elim (fun h => (Or.inr (Or.inr (Or.inl ⟨h.1, h.2.1, h.2.2⟩)))) (fun h => h.elim (fun h => (Or.inr (Or.inr (Or.inr (Or.inl ⟨h.1, h.2.1, h.2.2⟩))))) (fun h => h.elim (fun h => (Or.inr (Or.inr (Or.inr (Or.inr (Or.inl ⟨h.1, h.2.1, h.2.2⟩)))))) (fun h => h.elim (fun h => (Or.inr (Or.inr (Or.inr (Or.inr (Or.inr (Or.inl ⟨h.1, h.2⟩))))))) (fun h => h.elim))))))))
              have h244_ : PP M237_ (s + 1) ((D + 1) + 1) (M_51.1 (12, 0, 0) 9).toInt T := h239_.1
              have kf245_ : (M237_.1 (12, 0, 0) 11).toInt + ((m : Nat) : Int) = 5 := h239_.2
              refine w_aload_n dX12_text_59 rfl 1 rfl ?_
              refine w_iload_n dX12_text_60 rfl 0 rfl ?_
              refine w_callVv (as := [vI v1_51]) (rest := []) (c_X12_codes l G cy ad ((N + d) + 11) v1_51 (s + 1) ((D + 1) + 1) ((M_51.1 (12, 0, 0) 9).toInt) T (D + 1) M237_ hI240_ h244_ (lf_c_X12_opens_8 s hs ) (stp_op (lf_c_X12_text_5 v1_51 hv0_51 h234_ ))) kV_X12_codes pnn_17 (Nat.le_of_ble_eq_true rfl) m_1583 rfl rfl rfl ic_12 rfl rfl (by decide) (Nat.le_of_ble_eq_true rfl) dX12_text_61 (fun M246_ q247_ => ?_)
              obtain ⟨hI249_, hF250_, h248_, hs252_⟩ := q247_
              have hF251_ := hF242_.tr hF250_ (fun c k => (fun h => h.elim (fun h => (Or.inr (Or.inr (Or.inr (Or.inr (Or.inl ⟨h.1, h.2.1, h.2.2⟩)))))) (fun h => h.elim (fun h => (Or.inr (Or.inr (Or.inr (Or.inr (Or.inr (Or.inl ⟨h.1, h.2⟩))))))) (fun h => h.elim))))
              have kf253_ : (M246_.1 (12, 0, 0) 11).toInt + ((m : Nat) : Int) = 5 := by rw [(hF250_ (12, 0, 0) 11 (by simp [S_codes]))]; exact kf245_
              refine w_aload_n dX12_text_64 rfl 1 rfl ?_
              refine w_bipush (v := 60) dX12_text_65 (by decide) ?_
              refine w_callV (as := [vI 60]) (rest := []) (c_X12_takes l G cy ad ((N + d) + 10) 60 ((s + 1) - 1) (D + 1) ((M_51.1 (12, 0, 0) 9).toInt) T M246_ hI249_ h248_ (by first | decide | (unfold vF; omega) | (unfold vRw; omega))) kV_X12_takes pnn_17 (Nat.le_of_ble_eq_true rfl) m_1591 rfl rfl rfl ic_12 rfl rfl (by decide) (Nat.le_of_ble_eq_true rfl) dX12_text_67 (fun r254_ M255_ q256_ => ?_)
              obtain ⟨hI258_, hF259_, h257_, hs261_⟩ := q256_
              have hF260_ := hF251_.tr hF259_ (fun c k => (fun h => h.elim (fun h => (Or.inl ⟨h.1, h.2.1, h.2.2⟩)) (fun h => h.elim)))
              have kf262_ : (M255_.1 (12, 0, 0) 11).toInt + ((m : Nat) : Int) = 5 := by rw [(hF259_ (12, 0, 0) 11 (by simp [S_here]))]; exact kf253_
              rcases h257_ with ⟨rfl, h257_⟩ | ⟨rfl, h257_⟩
              · have h263_ : PP M255_ (((s + 1) - 1) + 1) (D + 1) ((M_51.1 (12, 0, 0) 9).toInt + 1) T := h257_.1
                have kf264_ : M255_.1 (12, 0, 0) 13 = 0 := h257_.2
                refine w_if_eq (tgt := 79) dX12_text_70 (by decide) li_1 (fun h9 => (absurd h9 (by decide))) (fun h265_ => ?_)
                refine w_sipush (v := 2000) dX12_text_73 (by decide) ?_
                refine w_goto (tgt := 110) dX12_text_76 (by decide) ?_
                refine w_istore_n (ls' := [(1, vI 2000), (0, vR (12, 0, 0))]) dX12_text_110 rfl (by decide) rfl ?_
                refine w_goto (tgt := 51) dX12_text_111 (by decide) ?_
                refine w_loc (ls' := [(1, vI 2000), (0, vR (12, 0, 0))]) [0, 1] rfl ?_
                exact ih_51 M255_ hI258_ hF260_ 2000 (lf_c_X12_text_6 ) (PP_mono h263_ (lf_c_X12_text_7 M255_ M_51 s D T hs h263_ ) (lf_c_X12_term_8 M_51 a kf235_ kf235_ )) kf262_ (RCH.tail hL_51 ⟨hv0_51, hI_51, hF_51, h233_, h234_, M237_, hI240_, hF241_, hs243_, M246_, hI249_, hF250_, hs252_, M255_, hI258_, hF259_, (Or.inl ⟨hs261_, h263_, rfl, rfl⟩)⟩) (Nat.lt_of_lt_of_le (PP_meas (A := (M_51.1 (12, 0, 0) 9).toInt) (x := v1_51) (x' := (2000 : Int32)) (PP_mono h263_ (Int.le_refl _) (lf_c_X12_text_96 M11_ M159_ M1_ M237_ M246_ M255_ M85_ M_51 Mz m s D a T hs hk hm kf9_ kf18_ kf92_ kf166_ kv0_51 kf235_ kf235_ kf245_ kf253_ kf262_ h263_ kf264_ )) rfl (lf_c_X12_term_2 v1_51 h234_ )) (Nat.le_of_lt_succ hm_51))
              · refine w_if_eq (tgt := 79) dX12_text_70 (by decide) li_0 (fun h266_ => ?_) (fun h9 => (absurd h9 (by decide)))
                refine w_aload_n dX12_text_79 rfl 1 rfl ?_
                refine w_bipush (v := 61) dX12_text_80 (by decide) ?_
                refine w_callV (as := [vI 61]) (rest := []) (c_X12_takes l G cy ad ((N + d) + 10) 61 ((s + 1) - 1) (D + 1) ((M_51.1 (12, 0, 0) 9).toInt) T M255_ hI258_ h257_ (by first | decide | (unfold vF; omega) | (unfold vRw; omega))) kV_X12_takes pnn_17 (Nat.le_of_ble_eq_true rfl) m_1591 rfl rfl rfl ic_12 rfl rfl (by decide) (Nat.le_of_ble_eq_true rfl) dX12_text_82 (fun r267_ M268_ q269_ => ?_)
                obtain ⟨hI271_, hF272_, h270_, hs274_⟩ := q269_
                have hF273_ := hF260_.tr hF272_ (fun c k => (fun h => h.elim (fun h => (Or.inl ⟨h.1, h.2.1, h.2.2⟩)) (fun h => h.elim)))
                have kf275_ : (M268_.1 (12, 0, 0) 11).toInt + ((m : Nat) : Int) = 5 := by rw [(hF272_ (12, 0, 0) 11 (by simp [S_here]))]; exact kf262_
                rcases h270_ with ⟨rfl, h270_⟩ | ⟨rfl, h270_⟩
                · have h276_ : PP M268_ (((s + 1) - 1) + 1) (D + 1) ((M_51.1 (12, 0, 0) 9).toInt + 1) T := h270_.1
                  have kf277_ : M268_.1 (12, 0, 0) 13 = 0 := h270_.2
                  refine w_if_eq (tgt := 94) dX12_text_85 (by decide) li_1 (fun h9 => (absurd h9 (by decide))) (fun h278_ => ?_)
                  refine w_sipush (v := 2001) dX12_text_88 (by decide) ?_
                  refine w_goto (tgt := 110) dX12_text_91 (by decide) ?_
                  refine w_istore_n (ls' := [(1, vI 2001), (0, vR (12, 0, 0))]) dX12_text_110 rfl (by decide) rfl ?_
                  refine w_goto (tgt := 51) dX12_text_111 (by decide) ?_
                  refine w_loc (ls' := [(1, vI 2001), (0, vR (12, 0, 0))]) [0, 1] rfl ?_
                  exact ih_51 M268_ hI271_ hF273_ 2001 (lf_c_X12_text_11 ) (PP_mono h276_ (lf_c_X12_text_12 M268_ M_51 s D T hs h276_ ) (lf_c_X12_term_8 M_51 a kf235_ kf235_ )) kf275_ (RCH.tail hL_51 ⟨hv0_51, hI_51, hF_51, h233_, h234_, M237_, hI240_, hF241_, hs243_, M246_, hI249_, hF250_, hs252_, M255_, hI258_, hF259_, (Or.inr ⟨hs261_, M268_, hI271_, hF272_, (Or.inl ⟨hs274_, h276_, rfl, rfl⟩)⟩)⟩) (Nat.lt_of_lt_of_le (PP_meas (A := (M_51.1 (12, 0, 0) 9).toInt) (x := v1_51) (x' := (2001 : Int32)) (PP_mono h276_ (Int.le_refl _) (lf_c_X12_text_101 M11_ M159_ M1_ M237_ M246_ M255_ M268_ M85_ M_51 Mz m s D a T hs hk hm kf9_ kf18_ kf92_ kf166_ kv0_51 kf235_ kf235_ kf245_ kf253_ kf262_ kf275_ h276_ kf277_ )) rfl (lf_c_X12_term_2 v1_51 h234_ )) (Nat.le_of_lt_succ hm_51))
                · refine w_if_eq (tgt := 94) dX12_text_85 (by decide) li_0 (fun h279_ => ?_) (fun h9 => (absurd h9 (by decide)))
                  refine w_aload_n dX12_text_94 rfl 1 rfl ?_
                  refine w_bipush (v := 62) dX12_text_95 (by decide) ?_
                  refine w_callV (as := [vI 62]) (rest := []) (c_X12_takes l G cy ad ((N + d) + 10) 62 ((s + 1) - 1) (D + 1) ((M_51.1 (12, 0, 0) 9).toInt) T M268_ hI271_ h270_ (by first | decide | (unfold vF; omega) | (unfold vRw; omega))) kV_X12_takes pnn_17 (Nat.le_of_ble_eq_true rfl) m_1591 rfl rfl rfl ic_12 rfl rfl (by decide) (Nat.le_of_ble_eq_true rfl) dX12_text_97 (fun r280_ M281_ q282_ => ?_)
                  obtain ⟨hI284_, hF285_, h283_, hs287_⟩ := q282_
                  have hF286_ := hF273_.tr hF285_ (fun c k => (fun h => h.elim (fun h => (Or.inl ⟨h.1, h.2.1, h.2.2⟩)) (fun h => h.elim)))
                  have kf288_ : (M281_.1 (12, 0, 0) 11).toInt + ((m : Nat) : Int) = 5 := by rw [(hF285_ (12, 0, 0) 11 (by simp [S_here]))]; exact kf275_
                  rcases h283_ with ⟨rfl, h283_⟩ | ⟨rfl, h283_⟩
                  · have h289_ : PP M281_ (((s + 1) - 1) + 1) (D + 1) ((M_51.1 (12, 0, 0) 9).toInt + 1) T := h283_.1
                    have kf290_ : M281_.1 (12, 0, 0) 13 = 0 := h283_.2
                    refine w_if_eq (tgt := 109) dX12_text_100 (by decide) li_1 (fun h9 => (absurd h9 (by decide))) (fun h291_ => ?_)
                    refine w_sipush (v := 2002) dX12_text_103 (by decide) ?_
                    refine w_goto (tgt := 110) dX12_text_106 (by decide) ?_
                    refine w_istore_n (ls' := [(1, vI 2002), (0, vR (12, 0, 0))]) dX12_text_110 rfl (by decide) rfl ?_
                    refine w_goto (tgt := 51) dX12_text_111 (by decide) ?_
                    refine w_loc (ls' := [(1, vI 2002), (0, vR (12, 0, 0))]) [0, 1] rfl ?_
                    exact ih_51 M281_ hI284_ hF286_ 2002 (lf_c_X12_text_16 ) (PP_mono h289_ (lf_c_X12_text_17 M281_ M_51 s D T hs h289_ ) (lf_c_X12_term_8 M_51 a kf235_ kf235_ )) kf288_ (RCH.tail hL_51 ⟨hv0_51, hI_51, hF_51, h233_, h234_, M237_, hI240_, hF241_, hs243_, M246_, hI249_, hF250_, hs252_, M255_, hI258_, hF259_, (Or.inr ⟨hs261_, M268_, hI271_, hF272_, (Or.inr ⟨hs274_, M281_, hI284_, hF285_, (Or.inl ⟨hs287_, h289_, rfl, rfl⟩)⟩)⟩)⟩) (Nat.lt_of_lt_of_le (PP_meas (A := (M_51.1 (12, 0, 0) 9).toInt) (x := v1_51) (x' := (2002 : Int32)) (PP_mono h289_ (Int.le_refl _) (lf_c_X12_text_106 M11_ M159_ M1_ M237_ M246_ M255_ M268_ M281_ M85_ M_51 Mz m s D a T hs hk hm kf9_ kf18_ kf92_ kf166_ kv0_51 kf235_ kf235_ kf245_ kf253_ kf262_ kf275_ kf288_ h289_ kf290_ )) rfl (lf_c_X12_term_2 v1_51 h234_ )) (Nat.le_of_lt_succ hm_51))
                  · refine w_if_eq (tgt := 109) dX12_text_100 (by decide) li_0 (fun h292_ => ?_) (fun h9 => (absurd h9 (by decide)))
                    refine w_iconst (v := 0) dX12_text_109 (by decide) ?_
                    refine w_istore_n (ls' := [(1, vI 0), (0, vR (12, 0, 0))]) dX12_text_110 rfl (by decide) rfl ?_
                    refine w_goto (tgt := 51) dX12_text_111 (by decide) ?_
                    refine w_loc (ls' := [(1, vI 0), (0, vR (12, 0, 0))]) [0, 1] rfl ?_
                    exact ih_51 M281_ hI284_ hF286_ 0 (lf_c_X12_text_21 ) (PP_mono h283_ (lf_c_X12_term_22 M281_ M_51 s D T hs h283_ ) (lf_c_X12_term_23 M_51 a kf235_ kf235_ )) kf288_ (RCH.tail hL_51 ⟨hv0_51, hI_51, hF_51, h233_, h234_, M237_, hI240_, hF241_, hs243_, M246_, hI249_, hF250_, hs252_, M255_, hI258_, hF259_, (Or.inr ⟨hs261_, M268_, hI271_, hF272_, (Or.inr ⟨hs274_, M281_, hI284_, hF285_, (Or.inr ⟨hs287_, h283_, rfl, rfl⟩)⟩)⟩)⟩) (Nat.lt_of_lt_of_le (PP_meas (A := (M_51.1 (12, 0, 0) 9).toInt) (x := v1_51) (x' := (0 : Int32)) (PP_mono h283_ (Int.le_refl _) (lf_c_X12_term_111 M11_ M159_ M1_ M237_ M246_ M255_ M268_ M281_ M85_ M_51 Mz m s D a T hs hk hm kf9_ kf18_ kf92_ kf166_ kv0_51 kf235_ kf235_ kf245_ kf253_ kf262_ kf275_ kf288_ h283_ )) rfl (lf_c_X12_term_2 v1_51 h234_ )) (Nat.le_of_lt_succ hm_51))
        exact lp232_ _ M159_ hI162_ hF164_ 0 (lf_c_X12_text_21 ) (PP_mono h161_ (lf_c_X12_term_114 M159_ s D a T hs h161_ ) (Int.le_refl _)) kf166_ RCH.refl (Nat.lt_succ_self _)
def SPRd : Nat → (mM → mM → Prop) × (mM → mM → Prop)
  | 0 => (fun M M' => ∃ (s : Int) (D : Nat) (a T : Int), SP_X12_one 0 0 (fun _ _ => False) (fun _ _ => False) s D a T M M', fun M M' => ∃ (s : Int) (D : Nat) (a T : Int), SP_X12_text 0 0 (fun _ _ => False) (fun _ _ => False) s D a T M M')
  | m + 1 => (fun M M' => ∃ (s : Int) (D : Nat) (a T : Int), SP_X12_one (12 * m + 12) (m + 1) (SPRd m).1 (SPRd m).2 s D a T M M', fun M M' => ∃ (s : Int) (D : Nat) (a T : Int), SP_X12_text (12 * m + 12) (m + 1) (SPRd m).1 (SPRd m).2 s D a T M M')
theorem par_rec (l : Launch) (G : va_G) (cy : Nat → ClassId) (ad : rf → Nat) : ∀ m, ONED l G cy ad (12 * m + 12) m (SPRd m).1 ∧ TXTD l G cy ad (12 * m + 12) m (SPRd m).2 := by
  intro m
  induction m with
  | zero => exact ⟨fun d s D a T Mz hIz hp hs hk hm => w_dep (by omega) (w_Q (c_X12_one l G cy ad (d + 3) 0 0 (fun _ _ => False) (fun _ _ => False) s D a T Mz hIz (fun k q => absurd q (by omega)) (fun k q => absurd q (by omega)) hp hs hk hm) (fun _ _ h => ⟨h.1, h.2.1, h.2.2.1, s, D, a, T, h.2.2.2⟩)), fun d s D a T Mz hIz hp hs hk hm => w_dep (by omega) (w_Q (c_X12_text l G cy ad d 0 0 (fun _ _ => False) (fun _ _ => False) s D a T Mz hIz (fun k q => absurd q (by omega)) (fun k q => absurd q (by omega)) hp hs hk hm) (fun _ _ h => ⟨h.1, h.2.1, h.2.2.1, s, D, a, T, h.2.2.2⟩))⟩
  | succ m ih =>
    have h1 : ∀ k : Nat, k + 1 = m + 1 → ONED l G cy ad (12 * m + 12) k (SPRd m).1 := fun k q => by
      obtain rfl : k = m := by omega
      exact ih.1
    have h2 : ∀ k : Nat, k + 1 = m + 1 → TXTD l G cy ad (12 * m + 12) k (SPRd m).2 := fun k q => by
      obtain rfl : k = m := by omega
      exact ih.2
    exact ⟨fun d s D a T Mz hIz hp hs hk hm => w_dep (by omega) (w_Q (c_X12_one l G cy ad (d + 3) (12 * m + 12) (m + 1) (SPRd m).1 (SPRd m).2 s D a T Mz hIz h1 h2 hp hs hk hm) (fun _ _ h => ⟨h.1, h.2.1, h.2.2.1, s, D, a, T, h.2.2.2⟩)), fun d s D a T Mz hIz hp hs hk hm => w_dep (by omega) (w_Q (c_X12_text l G cy ad d (12 * m + 12) (m + 1) (SPRd m).1 (SPRd m).2 s D a T Mz hIz h1 h2 hp hs hk hm) (fun _ _ h => ⟨h.1, h.2.1, h.2.2.1, s, D, a, T, h.2.2.2⟩))⟩
def SP_X12_text5 (T : Int) (Mz : mM) (M_ : mM) : Prop := (SPRd 5).2 Mz M_
theorem c_X12_text5 (l : Launch) (G : va_G) (cy : Nat → ClassId) (ad : rf → Nat) (d : Nat) (T : Int) (Mz : mM) (hIz : InvD Mz) (hp : PP Mz 0 0 0 T) (h0 : (Mz.1 (12, 0, 0) 11).toInt = 0) : WP DD l G cy ad yX12_text cX12_text 2 none (d + 72) 0 [(0, vR (12, 0, 0))] [] Mz (fun r M' => InvD M' ∧ FR (S_par) Mz M' ∧ (PP M' 0 1 0 T) ∧ SP_X12_text5 T Mz M') := w_dep (by omega) (w_Q ((par_rec l G cy ad 5).2 d 0 0 0 T Mz hIz hp (Int.le_refl _) (by omega) (by omega)) (fun _ _ h => ⟨h.1, h.2.1, h.2.2.1.1, h.2.2.2⟩))
end
section
/-! words of the tables that are used, by their places; decode rows; fields -/
theorem li_m10 : ((-10) : Int32).toInt = -10 := by decide
theorem ch_cX12_text__0 : (cX12_text_.data.toList.drop 0).take 36 = [27, 3, 5, 184, 0, 85, 154, 0, 10, 42, 18, 103, 182, 0, 104, 172, 42, 27, 181, 0, 181, 42, 3, 181, 0, 155, 42, 3, 181, 0, 191, 42, 3, 181, 0, 203] := by decide +kernel
theorem dX12_text__0 : decode cX12_text_ 0 = .ok (.iload_n 1, 1) := do_27 (rdb (p := 0) (i := 0) ch_cX12_text__0 rfl)
theorem dX12_text__1 : decode cX12_text_ 1 = .ok (.iconst 0, 1) := do_3 (rdb (p := 0) (i := 1) ch_cX12_text__0 rfl)
theorem dX12_text__2 : decode cX12_text_ 2 = .ok (.iconst 2, 1) := do_5 (rdb (p := 0) (i := 2) ch_cX12_text__0 rfl)
theorem dX12_text__3 : decode cX12_text_ 3 = .ok (.invokestatic 85, 3) := do_184 (rdb (p := 0) (i := 3) ch_cX12_text__0 rfl) (rdb (p := 0) (i := 4) ch_cX12_text__0 rfl) (rdb (p := 0) (i := 5) ch_cX12_text__0 rfl) rfl
theorem dX12_text__6 : decode cX12_text_ 6 = .ok (.ifCond .ne 10, 3) := do_154 (rdb (p := 0) (i := 6) ch_cX12_text__0 rfl) (rdb (p := 0) (i := 7) ch_cX12_text__0 rfl) (rdb (p := 0) (i := 8) ch_cX12_text__0 rfl) (by decide +kernel)
theorem dX12_text__9 : decode cX12_text_ 9 = .ok (.aload_n 0, 1) := do_42 (rdb (p := 0) (i := 9) ch_cX12_text__0 rfl)
theorem dX12_text__10 : decode cX12_text_ 10 = .ok (.ldc 103, 2) := do_18 (rdb (p := 0) (i := 10) ch_cX12_text__0 rfl) (rdb (p := 0) (i := 11) ch_cX12_text__0 rfl)
theorem dX12_text__12 : decode cX12_text_ 12 = .ok (.invokevirtual 104, 3) := do_182 (rdb (p := 0) (i := 12) ch_cX12_text__0 rfl) (rdb (p := 0) (i := 13) ch_cX12_text__0 rfl) (rdb (p := 0) (i := 14) ch_cX12_text__0 rfl) rfl
theorem dX12_text__15 : decode cX12_text_ 15 = .ok (.ireturn, 1) := do_172 (rdb (p := 0) (i := 15) ch_cX12_text__0 rfl)
theorem dX12_text__16 : decode cX12_text_ 16 = .ok (.aload_n 0, 1) := do_42 (rdb (p := 0) (i := 16) ch_cX12_text__0 rfl)
theorem dX12_text__17 : decode cX12_text_ 17 = .ok (.iload_n 1, 1) := do_27 (rdb (p := 0) (i := 17) ch_cX12_text__0 rfl)
theorem dX12_text__18 : decode cX12_text_ 18 = .ok (.putfield 181, 3) := do_181 (rdb (p := 0) (i := 18) ch_cX12_text__0 rfl) (rdb (p := 0) (i := 19) ch_cX12_text__0 rfl) (rdb (p := 0) (i := 20) ch_cX12_text__0 rfl) rfl
theorem dX12_text__21 : decode cX12_text_ 21 = .ok (.aload_n 0, 1) := do_42 (rdb (p := 0) (i := 21) ch_cX12_text__0 rfl)
theorem dX12_text__22 : decode cX12_text_ 22 = .ok (.iconst 0, 1) := do_3 (rdb (p := 0) (i := 22) ch_cX12_text__0 rfl)
theorem dX12_text__23 : decode cX12_text_ 23 = .ok (.putfield 155, 3) := do_181 (rdb (p := 0) (i := 23) ch_cX12_text__0 rfl) (rdb (p := 0) (i := 24) ch_cX12_text__0 rfl) (rdb (p := 0) (i := 25) ch_cX12_text__0 rfl) rfl
theorem dX12_text__26 : decode cX12_text_ 26 = .ok (.aload_n 0, 1) := do_42 (rdb (p := 0) (i := 26) ch_cX12_text__0 rfl)
theorem dX12_text__27 : decode cX12_text_ 27 = .ok (.iconst 0, 1) := do_3 (rdb (p := 0) (i := 27) ch_cX12_text__0 rfl)
theorem dX12_text__28 : decode cX12_text_ 28 = .ok (.putfield 191, 3) := do_181 (rdb (p := 0) (i := 28) ch_cX12_text__0 rfl) (rdb (p := 0) (i := 29) ch_cX12_text__0 rfl) (rdb (p := 0) (i := 30) ch_cX12_text__0 rfl) rfl
theorem dX12_text__31 : decode cX12_text_ 31 = .ok (.aload_n 0, 1) := do_42 (rdb (p := 0) (i := 31) ch_cX12_text__0 rfl)
theorem ch_cX12_text__32 : (cX12_text_.data.toList.drop 32).take 36 = [3, 181, 0, 203, 42, 3, 181, 0, 151, 42, 3, 181, 0, 162, 42, 182, 0, 194, 42, 42, 180, 0, 151, 154, 0, 10, 42, 182, 0, 158, 155, 0, 7, 4, 167, 0] := by decide +kernel
theorem dX12_text__32 : decode cX12_text_ 32 = .ok (.iconst 0, 1) := do_3 (rdb (p := 32) (i := 0) ch_cX12_text__32 rfl)
theorem dX12_text__33 : decode cX12_text_ 33 = .ok (.putfield 203, 3) := do_181 (rdb (p := 32) (i := 1) ch_cX12_text__32 rfl) (rdb (p := 32) (i := 2) ch_cX12_text__32 rfl) (rdb (p := 32) (i := 3) ch_cX12_text__32 rfl) rfl
theorem dX12_text__36 : decode cX12_text_ 36 = .ok (.aload_n 0, 1) := do_42 (rdb (p := 32) (i := 4) ch_cX12_text__32 rfl)
theorem dX12_text__37 : decode cX12_text_ 37 = .ok (.iconst 0, 1) := do_3 (rdb (p := 32) (i := 5) ch_cX12_text__32 rfl)
theorem dX12_text__38 : decode cX12_text_ 38 = .ok (.putfield 151, 3) := do_181 (rdb (p := 32) (i := 6) ch_cX12_text__32 rfl) (rdb (p := 32) (i := 7) ch_cX12_text__32 rfl) (rdb (p := 32) (i := 8) ch_cX12_text__32 rfl) rfl
theorem dX12_text__41 : decode cX12_text_ 41 = .ok (.aload_n 0, 1) := do_42 (rdb (p := 32) (i := 9) ch_cX12_text__32 rfl)
theorem dX12_text__42 : decode cX12_text_ 42 = .ok (.iconst 0, 1) := do_3 (rdb (p := 32) (i := 10) ch_cX12_text__32 rfl)
theorem dX12_text__43 : decode cX12_text_ 43 = .ok (.putfield 162, 3) := do_181 (rdb (p := 32) (i := 11) ch_cX12_text__32 rfl) (rdb (p := 32) (i := 12) ch_cX12_text__32 rfl) (rdb (p := 32) (i := 13) ch_cX12_text__32 rfl) rfl
theorem dX12_text__46 : decode cX12_text_ 46 = .ok (.aload_n 0, 1) := do_42 (rdb (p := 32) (i := 14) ch_cX12_text__32 rfl)
theorem dX12_text__47 : decode cX12_text_ 47 = .ok (.invokevirtual 194, 3) := do_182 (rdb (p := 32) (i := 15) ch_cX12_text__32 rfl) (rdb (p := 32) (i := 16) ch_cX12_text__32 rfl) (rdb (p := 32) (i := 17) ch_cX12_text__32 rfl) rfl
theorem dX12_text__50 : decode cX12_text_ 50 = .ok (.aload_n 0, 1) := do_42 (rdb (p := 32) (i := 18) ch_cX12_text__32 rfl)
theorem dX12_text__51 : decode cX12_text_ 51 = .ok (.aload_n 0, 1) := do_42 (rdb (p := 32) (i := 19) ch_cX12_text__32 rfl)
theorem dX12_text__52 : decode cX12_text_ 52 = .ok (.getfield 151, 3) := do_180 (rdb (p := 32) (i := 20) ch_cX12_text__32 rfl) (rdb (p := 32) (i := 21) ch_cX12_text__32 rfl) (rdb (p := 32) (i := 22) ch_cX12_text__32 rfl) rfl
theorem dX12_text__55 : decode cX12_text_ 55 = .ok (.ifCond .ne 10, 3) := do_154 (rdb (p := 32) (i := 23) ch_cX12_text__32 rfl) (rdb (p := 32) (i := 24) ch_cX12_text__32 rfl) (rdb (p := 32) (i := 25) ch_cX12_text__32 rfl) (by decide +kernel)
theorem dX12_text__58 : decode cX12_text_ 58 = .ok (.aload_n 0, 1) := do_42 (rdb (p := 32) (i := 26) ch_cX12_text__32 rfl)
theorem dX12_text__59 : decode cX12_text_ 59 = .ok (.invokevirtual 158, 3) := do_182 (rdb (p := 32) (i := 27) ch_cX12_text__32 rfl) (rdb (p := 32) (i := 28) ch_cX12_text__32 rfl) (rdb (p := 32) (i := 29) ch_cX12_text__32 rfl) rfl
theorem dX12_text__62 : decode cX12_text_ 62 = .ok (.ifCond .lt 7, 3) := do_155 (rdb (p := 32) (i := 30) ch_cX12_text__32 rfl) (rdb (p := 32) (i := 31) ch_cX12_text__32 rfl) (rdb (p := 32) (i := 32) ch_cX12_text__32 rfl) (by decide +kernel)
theorem ch_cX12_text__64 : (cX12_text_.data.toList.drop 64).take 36 = [7, 4, 167, 0, 4, 3, 181, 0, 151, 42, 180, 0, 9, 7, 3, 79, 42, 180, 0, 151, 153, 0, 11, 16, 246, 42, 180, 0, 155, 100, 172, 42, 180, 0, 9, 17] := by decide +kernel
theorem dX12_text__65 : decode cX12_text_ 65 = .ok (.iconst 1, 1) := do_4 (rdb (p := 64) (i := 1) ch_cX12_text__64 rfl)
theorem dX12_text__66 : decode cX12_text_ 66 = .ok (.goto 4, 3) := do_167 (rdb (p := 64) (i := 2) ch_cX12_text__64 rfl) (rdb (p := 64) (i := 3) ch_cX12_text__64 rfl) (rdb (p := 64) (i := 4) ch_cX12_text__64 rfl) (by decide +kernel)
theorem dX12_text__69 : decode cX12_text_ 69 = .ok (.iconst 0, 1) := do_3 (rdb (p := 64) (i := 5) ch_cX12_text__64 rfl)
theorem dX12_text__70 : decode cX12_text_ 70 = .ok (.putfield 151, 3) := do_181 (rdb (p := 64) (i := 6) ch_cX12_text__64 rfl) (rdb (p := 64) (i := 7) ch_cX12_text__64 rfl) (rdb (p := 64) (i := 8) ch_cX12_text__64 rfl) rfl
theorem dX12_text__73 : decode cX12_text_ 73 = .ok (.aload_n 0, 1) := do_42 (rdb (p := 64) (i := 9) ch_cX12_text__64 rfl)
theorem dX12_text__74 : decode cX12_text_ 74 = .ok (.getfield 9, 3) := do_180 (rdb (p := 64) (i := 10) ch_cX12_text__64 rfl) (rdb (p := 64) (i := 11) ch_cX12_text__64 rfl) (rdb (p := 64) (i := 12) ch_cX12_text__64 rfl) rfl
theorem dX12_text__77 : decode cX12_text_ 77 = .ok (.iconst 4, 1) := do_7 (rdb (p := 64) (i := 13) ch_cX12_text__64 rfl)
theorem dX12_text__78 : decode cX12_text_ 78 = .ok (.iconst 0, 1) := do_3 (rdb (p := 64) (i := 14) ch_cX12_text__64 rfl)
theorem dX12_text__79 : decode cX12_text_ 79 = .ok (.iastore, 1) := do_79 (rdb (p := 64) (i := 15) ch_cX12_text__64 rfl)
theorem dX12_text__80 : decode cX12_text_ 80 = .ok (.aload_n 0, 1) := do_42 (rdb (p := 64) (i := 16) ch_cX12_text__64 rfl)
theorem dX12_text__81 : decode cX12_text_ 81 = .ok (.getfield 151, 3) := do_180 (rdb (p := 64) (i := 17) ch_cX12_text__64 rfl) (rdb (p := 64) (i := 18) ch_cX12_text__64 rfl) (rdb (p := 64) (i := 19) ch_cX12_text__64 rfl) rfl
theorem dX12_text__84 : decode cX12_text_ 84 = .ok (.ifCond .eq 11, 3) := do_153 (rdb (p := 64) (i := 20) ch_cX12_text__64 rfl) (rdb (p := 64) (i := 21) ch_cX12_text__64 rfl) (rdb (p := 64) (i := 22) ch_cX12_text__64 rfl) (by decide +kernel)
theorem dX12_text__87 : decode cX12_text_ 87 = .ok (.bipush (-10), 2) := do_16 (rdb (p := 64) (i := 23) ch_cX12_text__64 rfl) (rdb (p := 64) (i := 24) ch_cX12_text__64 rfl) (by decide +kernel)
theorem dX12_text__89 : decode cX12_text_ 89 = .ok (.aload_n 0, 1) := do_42 (rdb (p := 64) (i := 25) ch_cX12_text__64 rfl)
theorem dX12_text__90 : decode cX12_text_ 90 = .ok (.getfield 155, 3) := do_180 (rdb (p := 64) (i := 26) ch_cX12_text__64 rfl) (rdb (p := 64) (i := 27) ch_cX12_text__64 rfl) (rdb (p := 64) (i := 28) ch_cX12_text__64 rfl) rfl
theorem dX12_text__93 : decode cX12_text_ 93 = .ok (.isub, 1) := do_100 (rdb (p := 64) (i := 29) ch_cX12_text__64 rfl)
theorem dX12_text__94 : decode cX12_text_ 94 = .ok (.ireturn, 1) := do_172 (rdb (p := 64) (i := 30) ch_cX12_text__64 rfl)
theorem dX12_text__95 : decode cX12_text_ 95 = .ok (.aload_n 0, 1) := do_42 (rdb (p := 64) (i := 31) ch_cX12_text__64 rfl)
theorem ch_cX12_text__96 : (cX12_text_.data.toList.drop 96).take 36 = [180, 0, 9, 17, 1, 89, 16, 50, 42, 180, 0, 181, 104, 96, 42, 180, 0, 162, 79, 3, 61, 28, 42, 180, 0, 162, 162, 0, 35, 42, 180, 0, 9, 17, 1, 89] := by decide +kernel
theorem dX12_text__96 : decode cX12_text_ 96 = .ok (.getfield 9, 3) := do_180 (rdb (p := 96) (i := 0) ch_cX12_text__96 rfl) (rdb (p := 96) (i := 1) ch_cX12_text__96 rfl) (rdb (p := 96) (i := 2) ch_cX12_text__96 rfl) rfl
theorem dX12_text__99 : decode cX12_text_ 99 = .ok (.sipush 345, 3) := do_17 (rdb (p := 96) (i := 3) ch_cX12_text__96 rfl) (rdb (p := 96) (i := 4) ch_cX12_text__96 rfl) (rdb (p := 96) (i := 5) ch_cX12_text__96 rfl) (by decide +kernel)
theorem dX12_text__102 : decode cX12_text_ 102 = .ok (.bipush 50, 2) := do_16 (rdb (p := 96) (i := 6) ch_cX12_text__96 rfl) (rdb (p := 96) (i := 7) ch_cX12_text__96 rfl) (by decide +kernel)
theorem dX12_text__104 : decode cX12_text_ 104 = .ok (.aload_n 0, 1) := do_42 (rdb (p := 96) (i := 8) ch_cX12_text__96 rfl)
theorem dX12_text__105 : decode cX12_text_ 105 = .ok (.getfield 181, 3) := do_180 (rdb (p := 96) (i := 9) ch_cX12_text__96 rfl) (rdb (p := 96) (i := 10) ch_cX12_text__96 rfl) (rdb (p := 96) (i := 11) ch_cX12_text__96 rfl) rfl
theorem dX12_text__108 : decode cX12_text_ 108 = .ok (.imul, 1) := do_104 (rdb (p := 96) (i := 12) ch_cX12_text__96 rfl)
theorem dX12_text__109 : decode cX12_text_ 109 = .ok (.iadd, 1) := do_96 (rdb (p := 96) (i := 13) ch_cX12_text__96 rfl)
theorem dX12_text__110 : decode cX12_text_ 110 = .ok (.aload_n 0, 1) := do_42 (rdb (p := 96) (i := 14) ch_cX12_text__96 rfl)
theorem dX12_text__111 : decode cX12_text_ 111 = .ok (.getfield 162, 3) := do_180 (rdb (p := 96) (i := 15) ch_cX12_text__96 rfl) (rdb (p := 96) (i := 16) ch_cX12_text__96 rfl) (rdb (p := 96) (i := 17) ch_cX12_text__96 rfl) rfl
theorem dX12_text__114 : decode cX12_text_ 114 = .ok (.iastore, 1) := do_79 (rdb (p := 96) (i := 18) ch_cX12_text__96 rfl)
theorem dX12_text__115 : decode cX12_text_ 115 = .ok (.iconst 0, 1) := do_3 (rdb (p := 96) (i := 19) ch_cX12_text__96 rfl)
theorem dX12_text__116 : decode cX12_text_ 116 = .ok (.istore_n 2, 1) := do_61 (rdb (p := 96) (i := 20) ch_cX12_text__96 rfl)
theorem dX12_text__117 : decode cX12_text_ 117 = .ok (.iload_n 2, 1) := do_28 (rdb (p := 96) (i := 21) ch_cX12_text__96 rfl)
theorem dX12_text__118 : decode cX12_text_ 118 = .ok (.aload_n 0, 1) := do_42 (rdb (p := 96) (i := 22) ch_cX12_text__96 rfl)
theorem dX12_text__119 : decode cX12_text_ 119 = .ok (.getfield 162, 3) := do_180 (rdb (p := 96) (i := 23) ch_cX12_text__96 rfl) (rdb (p := 96) (i := 24) ch_cX12_text__96 rfl) (rdb (p := 96) (i := 25) ch_cX12_text__96 rfl) rfl
theorem dX12_text__122 : decode cX12_text_ 122 = .ok (.if_icmp .ge 35, 3) := do_162 (rdb (p := 96) (i := 26) ch_cX12_text__96 rfl) (rdb (p := 96) (i := 27) ch_cX12_text__96 rfl) (rdb (p := 96) (i := 28) ch_cX12_text__96 rfl) (by decide +kernel)
theorem dX12_text__125 : decode cX12_text_ 125 = .ok (.aload_n 0, 1) := do_42 (rdb (p := 96) (i := 29) ch_cX12_text__96 rfl)
theorem dX12_text__126 : decode cX12_text_ 126 = .ok (.getfield 9, 3) := do_180 (rdb (p := 96) (i := 30) ch_cX12_text__96 rfl) (rdb (p := 96) (i := 31) ch_cX12_text__96 rfl) (rdb (p := 96) (i := 32) ch_cX12_text__96 rfl) rfl
theorem ch_cX12_text__128 : (cX12_text_.data.toList.drop 128).take 36 = [9, 17, 1, 89, 16, 50, 42, 180, 0, 181, 104, 96, 4, 96, 28, 96, 42, 180, 0, 44, 28, 46, 79, 132, 2, 1, 167, 255, 219, 42, 180, 0, 203, 172] := by decide +kernel
theorem dX12_text__129 : decode cX12_text_ 129 = .ok (.sipush 345, 3) := do_17 (rdb (p := 128) (i := 1) ch_cX12_text__128 rfl) (rdb (p := 128) (i := 2) ch_cX12_text__128 rfl) (rdb (p := 128) (i := 3) ch_cX12_text__128 rfl) (by decide +kernel)
theorem dX12_text__132 : decode cX12_text_ 132 = .ok (.bipush 50, 2) := do_16 (rdb (p := 128) (i := 4) ch_cX12_text__128 rfl) (rdb (p := 128) (i := 5) ch_cX12_text__128 rfl) (by decide +kernel)
theorem dX12_text__134 : decode cX12_text_ 134 = .ok (.aload_n 0, 1) := do_42 (rdb (p := 128) (i := 6) ch_cX12_text__128 rfl)
theorem dX12_text__135 : decode cX12_text_ 135 = .ok (.getfield 181, 3) := do_180 (rdb (p := 128) (i := 7) ch_cX12_text__128 rfl) (rdb (p := 128) (i := 8) ch_cX12_text__128 rfl) (rdb (p := 128) (i := 9) ch_cX12_text__128 rfl) rfl
theorem dX12_text__138 : decode cX12_text_ 138 = .ok (.imul, 1) := do_104 (rdb (p := 128) (i := 10) ch_cX12_text__128 rfl)
theorem dX12_text__139 : decode cX12_text_ 139 = .ok (.iadd, 1) := do_96 (rdb (p := 128) (i := 11) ch_cX12_text__128 rfl)
theorem dX12_text__140 : decode cX12_text_ 140 = .ok (.iconst 1, 1) := do_4 (rdb (p := 128) (i := 12) ch_cX12_text__128 rfl)
theorem dX12_text__141 : decode cX12_text_ 141 = .ok (.iadd, 1) := do_96 (rdb (p := 128) (i := 13) ch_cX12_text__128 rfl)
theorem dX12_text__142 : decode cX12_text_ 142 = .ok (.iload_n 2, 1) := do_28 (rdb (p := 128) (i := 14) ch_cX12_text__128 rfl)
theorem dX12_text__143 : decode cX12_text_ 143 = .ok (.iadd, 1) := do_96 (rdb (p := 128) (i := 15) ch_cX12_text__128 rfl)
theorem dX12_text__144 : decode cX12_text_ 144 = .ok (.aload_n 0, 1) := do_42 (rdb (p := 128) (i := 16) ch_cX12_text__128 rfl)
theorem dX12_text__145 : decode cX12_text_ 145 = .ok (.getfield 44, 3) := do_180 (rdb (p := 128) (i := 17) ch_cX12_text__128 rfl) (rdb (p := 128) (i := 18) ch_cX12_text__128 rfl) (rdb (p := 128) (i := 19) ch_cX12_text__128 rfl) rfl
theorem dX12_text__148 : decode cX12_text_ 148 = .ok (.iload_n 2, 1) := do_28 (rdb (p := 128) (i := 20) ch_cX12_text__128 rfl)
theorem dX12_text__149 : decode cX12_text_ 149 = .ok (.iaload, 1) := do_46 (rdb (p := 128) (i := 21) ch_cX12_text__128 rfl)
theorem dX12_text__150 : decode cX12_text_ 150 = .ok (.iastore, 1) := do_79 (rdb (p := 128) (i := 22) ch_cX12_text__128 rfl)
theorem dX12_text__151 : decode cX12_text_ 151 = .ok (.iinc 2 1, 3) := do_132 (rdb (p := 128) (i := 23) ch_cX12_text__128 rfl) (rdb (p := 128) (i := 24) ch_cX12_text__128 rfl) (rdb (p := 128) (i := 25) ch_cX12_text__128 rfl) (by decide +kernel)
theorem dX12_text__154 : decode cX12_text_ 154 = .ok (.goto (-37), 3) := do_167 (rdb (p := 128) (i := 26) ch_cX12_text__128 rfl) (rdb (p := 128) (i := 27) ch_cX12_text__128 rfl) (rdb (p := 128) (i := 28) ch_cX12_text__128 rfl) (by decide +kernel)
theorem dX12_text__157 : decode cX12_text_ 157 = .ok (.aload_n 0, 1) := do_42 (rdb (p := 128) (i := 29) ch_cX12_text__128 rfl)
theorem dX12_text__158 : decode cX12_text_ 158 = .ok (.getfield 203, 3) := do_180 (rdb (p := 128) (i := 30) ch_cX12_text__128 rfl) (rdb (p := 128) (i := 31) ch_cX12_text__128 rfl) (rdb (p := 128) (i := 32) ch_cX12_text__128 rfl) rfl
theorem ch_cX12_text__160 : (cX12_text_.data.toList.drop 160).take 36 = [203, 172] := by decide +kernel
theorem dX12_text__161 : decode cX12_text_ 161 = .ok (.ireturn, 1) := do_172 (rdb (p := 160) (i := 1) ch_cX12_text__160 rfl)
end
section
def S_c_X12_text_ : rf → Nat → Prop := fun c k => (c.1 = 12 ∧ c.2.1 = 0 ∧ k = 10) ∨ (c.1 = 12 ∧ c.2.1 = 0 ∧ k = 9) ∨ (c.1 = 12 ∧ c.2.1 = 0 ∧ k = 11) ∨ (c.1 = 12 ∧ c.2.1 = 0 ∧ k = 12) ∨ (c.1 = 12 ∧ c.2.1 = 0 ∧ k = 13) ∨ (c.1 = 12 ∧ c.2.1 = 0 ∧ k = 14) ∨ (c.1 = 57 ∧ c.2.1 = 0) ∨ (c.1 = 50 ∧ c.2.1 = 0 ∧ k = 4) ∨ (c.1 = 50 ∧ c.2.1 = 0) ∨ (c.1 = 53 ∧ c.2.1 = 0) ∨ False
def ST_X12_text__117 (v : Int32) (Mz : mM) (v2_117 : Int32) (M_117 : mM) (v2_117y : Int32) (M_117y : mM) : Prop := (0 ≤ v2_117.toInt) ∧ (v2_117.toInt ≤ 49) ∧ (TX M_117 v.toInt.toNat v2_117.toInt) ∧ (InvT v.toInt.toNat M_117) ∧ (FR (S_c_X12_text_) Mz M_117) ∧ ∃ z151_ : Int32, (z151_ = M_117.1 (12, 0, 0) 14) ∧ (0 ≤ z151_.toInt ∧ z151_.toInt ≤ 49) ∧ (z151_.toInt ≤ 48) ∧ (v2_117.toInt < z151_.toInt) ∧ ∃ z159_ : Int32, (z159_ = M_117.1 (12, 0, 0) 10) ∧ (0 ≤ z159_.toInt ∧ z159_.toInt ≤ 2) ∧ (z159_.toInt = v.toInt) ∧ ∃ z163_ : Int32, (z163_.toInt = 50 * z159_.toInt) ∧ ∃ z165_ : Int32, (z165_.toInt = 345 + z163_.toInt) ∧ ∃ z167_ : Int32, (z167_.toInt = z165_.toInt + 1) ∧ ∃ z169_ : Int32, (z169_.toInt = z167_.toInt + v2_117.toInt) ∧ ∃ j173_ : Nat, ((j173_ : Int) = v2_117.toInt) ∧ ∃ z171_ : Int32, (z171_ = M_117.1 (57, 0, 0) j173_) ∧ ∃ j177_ : Nat, ((j177_ : Int) = z169_.toInt) ∧ ∃ M175_ : mM, (M175_ = up M_117 (50, 0, 0) j177_ z171_) ∧ ∃ z186_ : Int32, (z186_.toInt = v2_117.toInt + 1) ∧ v2_117y = z186_ ∧ M_117y = M175_
def SP_X12_text_ (v : Int32) (Mz : mM) (r_ : Int32) (M_ : mM) : Prop := (((SP_X12_within v 0 2 Mz (1 : Int32)) ∧ (0 ≤ v.toInt ∧ v.toInt ≤ 2) ∧ ∃ M7_ : mM, (M7_ = up Mz (12, 0, 0) 10 v) ∧ ∃ M12_ : mM, (M12_ = up M7_ (12, 0, 0) 9 0) ∧ ∃ M18_ : mM, (M18_ = up M12_ (12, 0, 0) 11 0) ∧ ∃ M25_ : mM, (M25_ = up M18_ (12, 0, 0) 12 0) ∧ ∃ M32_ : mM, (M32_ = up M25_ (12, 0, 0) 13 0) ∧ ∃ M39_ : mM, (M39_ = up M32_ (12, 0, 0) 14 0) ∧ (InvD M39_) ∧ ∃ M48_ : mM, (InvD M48_) ∧ (FR (S_par) M39_ M48_) ∧ (SP_X12_text5 ((M39_.1 (50, 0, 0) 4).toInt) M39_ M48_) ∧ ∃ z56_ : Int32, (z56_ = M48_.1 (12, 0, 0) 13) ∧ (0 ≤ z56_.toInt ∧ z56_.toInt ≤ 1) ∧ (((¬ z56_.toInt = 0) ∧ ∃ M61_ : mM, (M61_ = up M48_ (12, 0, 0) 13 1) ∧ (PP M61_ 0 1 0 (M39_.1 (50, 0, 0) 4).toInt) ∧ ∃ M69_ : mM, (M69_ = up M61_ (50, 0, 0) 4 0) ∧ ∃ z76_ : Int32, (z76_ = M69_.1 (12, 0, 0) 13) ∧ (0 ≤ z76_.toInt ∧ z76_.toInt ≤ 1) ∧ (z76_ = 1) ∧ (z76_.toInt = 1) ∧ (¬ z76_.toInt = 0) ∧ ∃ z82_ : Int32, (z82_ = M69_.1 (12, 0, 0) 9) ∧ (0 ≤ z82_.toInt ∧ z82_.toInt ≤ 48) ∧ ∃ z85_ : Int32, (z85_.toInt = -10 - z82_.toInt) ∧ r_ = z85_ ∧ M_ = M69_) ∨ ((z56_.toInt = 0) ∧ ∃ M88_ : mM, (InvD M88_) ∧ (FR (S_here) M48_ M88_) ∧ ∃ r87_ : Int32, (SP_X12_here 0 1 0 ((M39_.1 (50, 0, 0) 4).toInt) M48_ r87_ M88_) ∧ (HB M88_ r87_) ∧ (((r87_.toInt < 0) ∧ ∃ M100_ : mM, (M100_ = up M88_ (12, 0, 0) 13 0) ∧ (PP M100_ 0 1 0 (M39_.1 (50, 0, 0) 4).toInt) ∧ (dpt (M100_.1 (57, 0, 0)) 0 (M100_.1 (12, 0, 0) 14).toInt.toNat = some 1) ∧ ∃ M110_ : mM, (M110_ = up M100_ (50, 0, 0) 4 0) ∧ ∃ z119_ : Int32, (z119_ = M110_.1 (12, 0, 0) 13) ∧ (0 ≤ z119_.toInt ∧ z119_.toInt ≤ 1) ∧ (z119_ = 0) ∧ (z119_.toInt = 0) ∧ (z119_.toInt = 0) ∧ ∃ z126_ : Int32, (z126_ = M110_.1 (12, 0, 0) 10) ∧ (0 ≤ z126_.toInt ∧ z126_.toInt ≤ 2) ∧ (z126_.toInt = v.toInt) ∧ ∃ z130_ : Int32, (z130_.toInt = 50 * z126_.toInt) ∧ ∃ z132_ : Int32, (z132_.toInt = 345 + z130_.toInt) ∧ ∃ z134_ : Int32, (z134_ = M110_.1 (12, 0, 0) 14) ∧ (0 ≤ z134_.toInt ∧ z134_.toInt ≤ 49) ∧ (z134_.toInt ≤ 48) ∧ ∃ j140_ : Nat, ((j140_ : Int) = z132_.toInt) ∧ ∃ M138_ : mM, (M138_ = up M110_ (50, 0, 0) j140_ z134_) ∧ ∃ v2_117 : Int32, (0 ≤ v2_117.toInt) ∧ (v2_117.toInt ≤ 49) ∧ ∃ M_117 : mM, (TX M_117 v.toInt.toNat v2_117.toInt) ∧ (RCH (fun x_ y_ => ST_X12_text__117 v Mz x_.1 x_.2 y_.1 y_.2) ((0 : Int32), M138_) (v2_117, M_117)) ∧ (InvT v.toInt.toNat M_117) ∧ (FR (S_c_X12_text_) Mz M_117) ∧ ∃ z151_ : Int32, (z151_ = M_117.1 (12, 0, 0) 14) ∧ (0 ≤ z151_.toInt ∧ z151_.toInt ≤ 49) ∧ (z151_.toInt ≤ 48) ∧ (z151_.toInt ≤ v2_117.toInt) ∧ ∃ z157_ : Int32, (z157_ = M_117.1 (12, 0, 0) 12) ∧ r_ = z157_ ∧ M_ = M_117) ∨ ((0 ≤ r87_.toInt) ∧ ∃ M188_ : mM, (M188_ = up M88_ (12, 0, 0) 13 1) ∧ (PP M188_ 0 1 0 (M39_.1 (50, 0, 0) 4).toInt) ∧ ∃ M196_ : mM, (M196_ = up M188_ (50, 0, 0) 4 0) ∧ ∃ z203_ : Int32, (z203_ = M196_.1 (12, 0, 0) 13) ∧ (0 ≤ z203_.toInt ∧ z203_.toInt ≤ 1) ∧ (z203_ = 1) ∧ (z203_.toInt = 1) ∧ (¬ z203_.toInt = 0) ∧ ∃ z209_ : Int32, (z209_ = M196_.1 (12, 0, 0) 9) ∧ (0 ≤ z209_.toInt ∧ z209_.toInt ≤ 48) ∧ ∃ z212_ : Int32, (z212_.toInt = -10 - z209_.toInt) ∧ r_ = z212_ ∧ M_ = M196_))))) ∨ ((SP_X12_within v 0 2 Mz (0 : Int32)) ∧ (¬ (0 ≤ v.toInt ∧ v.toInt ≤ 2)) ∧ ∃ M216_ : mM, (InvD M216_) ∧ (FR (S_c_X12_finding) Mz M216_) ∧ ∃ r215_ : Int32, (SP_X12_finding (-1000001) Mz r215_ M216_) ∧ (r215_.toInt = (-1000001)) ∧ r_ = r215_ ∧ M_ = M216_))
theorem lf_c_X12_text__3 : PN 4 (0 : Int32) ∧ (4 < 345 ∨ 493 < 4) := by have q9 := li_0; unfold PN; omega
theorem lf_c_X12_text__5 (z82_ : Int32) (h84_ : 0 ≤ z82_.toInt ∧ z82_.toInt ≤ 48) : -2147483648 ≤ -10 - z82_.toInt ∧ -10 - z82_.toInt < 2147483648 := by omega
theorem lf_c_X12_text__12 (v : Int32) (z126_ : Int32) (z130_ : Int32) (z132_ : Int32) (j140_ : Nat) (h4_ : 0 ≤ v.toInt ∧ v.toInt ≤ 2) (h129_ : z126_.toInt = v.toInt) (h131_ : z130_.toInt = 50 * z126_.toInt) (h133_ : z132_.toInt = 345 + z130_.toInt) (h141_ : (j140_ : Int) = z132_.toInt) : 345 + 50 * v.toInt.toNat ≤ j140_ ∧ j140_ < 395 + 50 * v.toInt.toNat := by omega
theorem lf_c_X12_text__13 (z134_ : Int32) (h136_ : 0 ≤ z134_.toInt ∧ z134_.toInt ≤ 49) : 0 ≤ z134_.toInt := by omega
theorem lf_c_X12_text__14 (v : Int32) (z126_ : Int32) (z130_ : Int32) (z132_ : Int32) (j140_ : Nat) (h4_ : 0 ≤ v.toInt ∧ v.toInt ≤ 2) (h129_ : z126_.toInt = v.toInt) (h131_ : z130_.toInt = 50 * z126_.toInt) (h133_ : z132_.toInt = 345 + z130_.toInt) (h141_ : (j140_ : Int) = z132_.toInt) : j140_ = 345 + 50 * v.toInt.toNat := by omega
theorem lf_c_X12_text__15 (v : Int32) (h4_ : 0 ≤ v.toInt ∧ v.toInt ≤ 2) : v.toInt.toNat < 3 := by omega
theorem lf_c_X12_text__20 (v2_117 : Int32) (z159_ : Int32) (z163_ : Int32) (z165_ : Int32) (z167_ : Int32) (hv0_117 : 0 ≤ v2_117.toInt) (hv1_117 : v2_117.toInt ≤ 49) (h161_ : 0 ≤ z159_.toInt ∧ z159_.toInt ≤ 2) (h164_ : z163_.toInt = 50 * z159_.toInt) (h166_ : z165_.toInt = 345 + z163_.toInt) (h168_ : z167_.toInt = z165_.toInt + 1) : -2147483648 ≤ z167_.toInt + v2_117.toInt ∧ z167_.toInt + v2_117.toInt < 2147483648 := by omega
theorem lf_c_X12_text__21 (v2_117 : Int32) (z151_ : Int32) (hv0_117 : 0 ≤ v2_117.toInt) (h154_ : z151_.toInt ≤ 48) (h155_ : v2_117.toInt < z151_.toInt) : 0 ≤ v2_117.toInt ∧ v2_117.toInt < ((49 : Nat) : Int) := by omega
theorem lf_c_X12_text__22 (v2_117 : Int32) (z159_ : Int32) (z163_ : Int32) (z165_ : Int32) (z167_ : Int32) (z169_ : Int32) (hv0_117 : 0 ≤ v2_117.toInt) (hv1_117 : v2_117.toInt ≤ 49) (h161_ : 0 ≤ z159_.toInt ∧ z159_.toInt ≤ 2) (h164_ : z163_.toInt = 50 * z159_.toInt) (h166_ : z165_.toInt = 345 + z163_.toInt) (h168_ : z167_.toInt = z165_.toInt + 1) (h170_ : z169_.toInt = z167_.toInt + v2_117.toInt) : 0 ≤ z169_.toInt ∧ z169_.toInt < ((3567 : Nat) : Int) := by omega
theorem lf_c_X12_text__23 (v : Int32) (v2_117 : Int32) (z151_ : Int32) (z159_ : Int32) (z163_ : Int32) (z165_ : Int32) (z167_ : Int32) (z169_ : Int32) (j177_ : Nat) (h4_ : 0 ≤ v.toInt ∧ v.toInt ≤ 2) (hv0_117 : 0 ≤ v2_117.toInt) (h154_ : z151_.toInt ≤ 48) (h155_ : v2_117.toInt < z151_.toInt) (h162_ : z159_.toInt = v.toInt) (h164_ : z163_.toInt = 50 * z159_.toInt) (h166_ : z165_.toInt = 345 + z163_.toInt) (h168_ : z167_.toInt = z165_.toInt + 1) (h170_ : z169_.toInt = z167_.toInt + v2_117.toInt) (h178_ : (j177_ : Int) = z169_.toInt) : 345 + 50 * v.toInt.toNat ≤ j177_ ∧ j177_ < 395 + 50 * v.toInt.toNat := by omega
theorem lf_c_X12_text__24 (v2_117 : Int32) (hv0_117 : 0 ≤ v2_117.toInt) (hv1_117 : v2_117.toInt ≤ 49) : -2147483648 ≤ v2_117.toInt + 1 ∧ v2_117.toInt + 1 < 2147483648 := by omega
theorem lf_c_X12_text__26 (v2_117 : Int32) (z151_ : Int32) (z186_ : Int32) (h154_ : z151_.toInt ≤ 48) (h155_ : v2_117.toInt < z151_.toInt) (h187_ : z186_.toInt = v2_117.toInt + 1) : z186_.toInt ≤ 49 := by omega
theorem lf_c_X12_text__27 (v : Int32) (v2_117 : Int32) (z159_ : Int32) (z163_ : Int32) (z165_ : Int32) (z167_ : Int32) (z169_ : Int32) (j177_ : Nat) (h4_ : 0 ≤ v.toInt ∧ v.toInt ≤ 2) (h162_ : z159_.toInt = v.toInt) (h164_ : z163_.toInt = 50 * z159_.toInt) (h166_ : z165_.toInt = 345 + z163_.toInt) (h168_ : z167_.toInt = z165_.toInt + 1) (h170_ : z169_.toInt = z167_.toInt + v2_117.toInt) (h178_ : (j177_ : Int) = z169_.toInt) : (j177_ : Int) = 346 + 50 * v.toInt.toNat + v2_117.toInt := by omega
theorem lf_c_X12_text__31 (v2_117 : Int32) (z151_ : Int32) (z186_ : Int32) (h154_ : z151_.toInt ≤ 48) (h155_ : v2_117.toInt < z151_.toInt) (h187_ : z186_.toInt = v2_117.toInt + 1) : (49 - z186_.toInt).toNat < (49 - v2_117.toInt).toNat := by omega
theorem lf_c_X12_text__33 : (0 : Int32).toInt ≤ 49 := by have q0 := li_0; omega
set_option maxHeartbeats 4000000 in
set_option maxRecDepth 100000 in
theorem c_X12_text_ (l : Launch) (G : va_G) (cy : Nat → ClassId) (ad : rf → Nat) (d : Nat) (v : Int32) (Mz : mM) (hIz : InvD Mz) : WP DD l G cy ad yX12_text_ cX12_text_ 3 (some .int) (d + 73) 0 [(0, vR (12, 0, 0)), (1, vI v)] [] Mz (fun r M' => InvD M' ∧ FR (S_c_X12_text_) Mz M' ∧ (True) ∧ SP_X12_text_ v Mz r M') := by
  have hFz : FR (S_c_X12_text_) Mz Mz := FR.self
  refine w_iload_n dX12_text__0 rfl 1 rfl ?_
  refine w_iconst (v := 0) dX12_text__1 (by decide) ?_
  refine w_iconst (v := 2) dX12_text__2 (by decide) ?_
  refine w_callS (as := [vI v, vI 0, vI 2]) (rest := []) (c_X12_within l G cy ad (d + 72) v 0 2 Mz hIz) kS_X12_within pnn_17 (Nat.le_of_ble_eq_true rfl) m_1427 rfl rfl (by decide) (Nat.le_of_ble_eq_true rfl) dX12_text__3 (fun r1_ M2_ q3_ => ?_)
  obtain ⟨rfl, h4_, hs5_⟩ := q3_
  rcases h4_ with ⟨rfl, h4_⟩ | ⟨rfl, h4_⟩
  · simp only [li_0, li_2] at h4_
    refine w_if_ne (tgt := 16) dX12_text__6 (by decide) li_1 (fun h6_ => ?_) (fun h9 => (absurd h9 (by decide)))
    refine w_aload_n dX12_text__16 rfl 0 rfl ?_
    refine w_iload_n dX12_text__17 rfl 1 rfl ?_
    refine w_putI DD_nd fl_RX12_181 rfl rfl ic_12 dX12_text__18 (fun M7_ hM8_ => ?_)
    have hI9_ := hIz.put hM8_ ⟨h4_, Or.inl (by decide)⟩
    have hF10_ := hFz.put hM8_ (Or.inl ⟨rfl, rfl, rfl⟩)
    have kf11_ : (M7_.1 (12, 0, 0) 10).toInt = v.toInt := by rw [hM8_, up_same]
    refine w_aload_n dX12_text__21 rfl 0 rfl ?_
    refine w_iconst (v := 0) dX12_text__22 (by decide) ?_
    refine w_putI DD_nd fl_RX12_155 rfl rfl ic_12 dX12_text__23 (fun M12_ hM13_ => ?_)
    have hI14_ := hI9_.put hM13_ ⟨⟨by decide, by decide⟩, Or.inl (by decide)⟩
    have hF15_ := hF10_.put hM13_ (Or.inr (Or.inl ⟨rfl, rfl, rfl⟩))
    have kf16_ : (M12_.1 (12, 0, 0) 10).toInt = v.toInt := by rw [(show M12_.1 (12, 0, 0) 10 = M7_.1 (12, 0, 0) 10 by rw [hM13_, up_ne (by simp)])]; exact kf11_
    have kf17_ : (M12_.1 (12, 0, 0) 9).toInt = 0 := by rw [hM13_, up_same]; exact (lf_c_X5_clear2_1 )
    refine w_aload_n dX12_text__26 rfl 0 rfl ?_
    refine w_iconst (v := 0) dX12_text__27 (by decide) ?_
    refine w_putI DD_nd fl_RX12_191 rfl rfl ic_12 dX12_text__28 (fun M18_ hM19_ => ?_)
    have hI20_ := hI14_.put hM19_ ⟨⟨by decide, by decide⟩, Or.inl (by decide)⟩
    have hF21_ := hF15_.put hM19_ (Or.inr (Or.inr (Or.inl ⟨rfl, rfl, rfl⟩)))
    have kf22_ : (M18_.1 (12, 0, 0) 10).toInt = v.toInt := by rw [(show M18_.1 (12, 0, 0) 10 = M12_.1 (12, 0, 0) 10 by rw [hM19_, up_ne (by simp)])]; exact kf16_
    have kf23_ : (M18_.1 (12, 0, 0) 9).toInt = 0 := by rw [(show M18_.1 (12, 0, 0) 9 = M12_.1 (12, 0, 0) 9 by rw [hM19_, up_ne (by simp)])]; exact kf17_
    have kf24_ : (M18_.1 (12, 0, 0) 11).toInt = 0 := by rw [hM19_, up_same]; exact (lf_c_X5_clear2_1 )
    refine w_aload_n dX12_text__31 rfl 0 rfl ?_
    refine w_iconst (v := 0) dX12_text__32 (by decide) ?_
    refine w_putI DD_nd fl_RX12_203 rfl rfl ic_12 dX12_text__33 (fun M25_ hM26_ => ?_)
    have hI27_ := hI20_.put hM26_ ⟨trivial, Or.inl (by decide)⟩
    have hF28_ := hF21_.put hM26_ (Or.inr (Or.inr (Or.inr (Or.inl ⟨rfl, rfl, rfl⟩))))
    have kf29_ : (M25_.1 (12, 0, 0) 10).toInt = v.toInt := by rw [(show M25_.1 (12, 0, 0) 10 = M18_.1 (12, 0, 0) 10 by rw [hM26_, up_ne (by simp)])]; exact kf22_
    have kf30_ : (M25_.1 (12, 0, 0) 9).toInt = 0 := by rw [(show M25_.1 (12, 0, 0) 9 = M18_.1 (12, 0, 0) 9 by rw [hM26_, up_ne (by simp)])]; exact kf23_
    have kf31_ : (M25_.1 (12, 0, 0) 11).toInt = 0 := by rw [(show M25_.1 (12, 0, 0) 11 = M18_.1 (12, 0, 0) 11 by rw [hM26_, up_ne (by simp)])]; exact kf24_
    refine w_aload_n dX12_text__36 rfl 0 rfl ?_
    refine w_iconst (v := 0) dX12_text__37 (by decide) ?_
    refine w_putZ DD_nd fl_RX12_151 rfl rfl ic_12 ⟨by decide, by decide⟩ dX12_text__38 (fun M32_ hM33_ => ?_)
    have hI34_ := hI27_.put hM33_ ⟨⟨by decide, by decide⟩, Or.inl (by decide)⟩
    have hF35_ := hF28_.put hM33_ (Or.inr (Or.inr (Or.inr (Or.inr (Or.inl ⟨rfl, rfl, rfl⟩)))))
    have kf36_ : (M32_.1 (12, 0, 0) 10).toInt = v.toInt := by rw [(show M32_.1 (12, 0, 0) 10 = M25_.1 (12, 0, 0) 10 by rw [hM33_, up_ne (by simp)])]; exact kf29_
    have kf37_ : (M32_.1 (12, 0, 0) 9).toInt = 0 := by rw [(show M32_.1 (12, 0, 0) 9 = M25_.1 (12, 0, 0) 9 by rw [hM33_, up_ne (by simp)])]; exact kf30_
    have kf38_ : (M32_.1 (12, 0, 0) 11).toInt = 0 := by rw [(show M32_.1 (12, 0, 0) 11 = M25_.1 (12, 0, 0) 11 by rw [hM33_, up_ne (by simp)])]; exact kf31_
    refine w_aload_n dX12_text__41 rfl 0 rfl ?_
    refine w_iconst (v := 0) dX12_text__42 (by decide) ?_
    refine w_putI DD_nd fl_RX12_162 rfl rfl ic_12 dX12_text__43 (fun M39_ hM40_ => ?_)
    have hI41_ := hI34_.put hM40_ ⟨⟨by decide, by decide⟩, Or.inl (by decide)⟩
    have hF42_ := hF35_.put hM40_ (Or.inr (Or.inr (Or.inr (Or.inr (Or.inr (Or.inl ⟨rfl, rfl, rfl⟩))))))
    have kf43_ : (M39_.1 (12, 0, 0) 10).toInt = v.toInt := by rw [(show M39_.1 (12, 0, 0) 10 = M32_.1 (12, 0, 0) 10 by rw [hM40_, up_ne (by simp)])]; exact kf36_
    have kf44_ : (M39_.1 (12, 0, 0) 9).toInt = 0 := by rw [(show M39_.1 (12, 0, 0) 9 = M32_.1 (12, 0, 0) 9 by rw [hM40_, up_ne (by simp)])]; exact kf37_
    have kf45_ : (M39_.1 (12, 0, 0) 11).toInt = 0 := by rw [(show M39_.1 (12, 0, 0) 11 = M32_.1 (12, 0, 0) 11 by rw [hM40_, up_ne (by simp)])]; exact kf38_
    have kf46_ : (M39_.1 (12, 0, 0) 14).toInt = 0 := by rw [hM40_, up_same]; exact (lf_c_X5_clear2_1 )
    have h47_ : PP M39_ 0 0 0 (M39_.1 (50, 0, 0) 4).toInt := PP_start (z := 0) kf44_ kf46_ hI41_
    refine w_aload_n dX12_text__46 rfl 0 rfl ?_
    refine w_callVv (as := []) (rest := []) (c_X12_text5 l G cy ad d ((M39_.1 (50, 0, 0) 4).toInt) M39_ hI41_ h47_ kf45_) kV_X12_text pnn_17 (Nat.le_of_ble_eq_true rfl) m_1559 rfl rfl rfl ic_12 rfl rfl (by decide) (Nat.le_of_ble_eq_true rfl) dX12_text__47 (fun M48_ q49_ => ?_)
    obtain ⟨hI51_, hF52_, h50_, hs54_⟩ := q49_
    have hF53_ := hF42_.tr hF52_ (fun c k => (fun h => h.elim (fun h => (Or.inr (Or.inl ⟨h.1, h.2.1, h.2.2⟩))) (fun h => h.elim (fun h => (Or.inr (Or.inr (Or.inl ⟨h.1, h.2.1, h.2.2⟩)))) (fun h => h.elim (fun h => (Or.inr (Or.inr (Or.inr (Or.inl ⟨h.1, h.2.1, h.2.2⟩))))) (fun h => h.elim (fun h => (Or.inr (Or.inr (Or.inr (Or.inr (Or.inl ⟨h.1, h.2.1, h.2.2⟩)))))) (fun h => h.elim (fun h => (Or.inr (Or.inr (Or.inr (Or.inr (Or.inr (Or.inl ⟨h.1, h.2.1, h.2.2⟩))))))) (fun h => h.elim (fun h => (Or.inr (Or.inr (Or.inr (Or.inr (Or.inr (Or.inr (Or.inl ⟨h.1, h.2⟩)))))))) (fun h => h.elim))))))))
    have kf55_ : (M48_.1 (12, 0, 0) 10).toInt = v.toInt := by rw [(hF52_ (12, 0, 0) 10 (by simp [S_par]))]; exact kf43_
    refine w_aload_n dX12_text__50 rfl 0 rfl ?_
    refine w_aload_n dX12_text__51 rfl 0 rfl ?_
    refine w_getI fl_RX12_151 rfl rfl ic_12 dX12_text__52 (fun z56_ e57_ => ?_)
    have h58_ : 0 ≤ z56_.toInt ∧ z56_.toInt ≤ 1 := ofEq (P := fun v => 0 ≤ v.toInt ∧ v.toInt ≤ 1) e57_ (hI51_.1 (12, 0, 0) 13)
    have kf59_ : (M48_.1 (12, 0, 0) 13).toInt = z56_.toInt := by rw [e57_]
    refine w_if_ne (tgt := 65) dX12_text__55 (by decide) (rfl : z56_.toInt = z56_.toInt) (fun h60_ => ?_) (fun h60_ => ?_)
    · refine w_iconst (v := 1) dX12_text__65 (by decide) ?_
      refine w_goto (tgt := 70) dX12_text__66 (by decide) ?_
      refine w_putZ DD_nd fl_RX12_151 rfl rfl ic_12 ⟨by decide, by decide⟩ dX12_text__70 (fun M61_ hM62_ => ?_)
      have hI63_ := hI51_.put hM62_ ⟨⟨by decide, by decide⟩, Or.inl (by decide)⟩
      have hF64_ := hF53_.put hM62_ (Or.inr (Or.inr (Or.inr (Or.inr (Or.inl ⟨rfl, rfl, rfl⟩)))))
      have kf65_ : (M61_.1 (12, 0, 0) 10).toInt = v.toInt := by rw [(show M61_.1 (12, 0, 0) 10 = M48_.1 (12, 0, 0) 10 by rw [hM62_, up_ne (by simp)])]; exact kf55_
      have h66_ : PP M61_ 0 1 0 (M39_.1 (50, 0, 0) 4).toInt := PP_put1 h50_ hM62_
      have kf67_ : M61_.1 (12, 0, 0) 13 = 1 := up_s hM62_
      have kf68_ : (M61_.1 (12, 0, 0) 13).toInt = 1 := by rw [kf67_]; decide
      refine w_aload_n dX12_text__73 rfl 0 rfl ?_
      refine w_getR (c' := (50, 0, 0)) fl_RX12_9 rfl rfl ic_12 dX12_text__74 rfl ?_
      refine w_iconst (v := 4) dX12_text__77 (by decide) ?_
      refine w_iconst (v := 0) dX12_text__78 (by decide) ?_
      refine w_iastL 4 DD_nd rfl rfl ic_50 li_4 (by decide) dX12_text__79 (fun M69_ hM70_ => ?_)
      have hI71_ := hI63_.put50 hM70_ (lf_c_X12_text__3 )
      have hF72_ := hF64_.put hM70_ (Or.inr (Or.inr (Or.inr (Or.inr (Or.inr (Or.inr (Or.inr (Or.inl ⟨rfl, rfl, rfl⟩))))))))
      have kf73_ : (M69_.1 (12, 0, 0) 10).toInt = v.toInt := by rw [(show M69_.1 (12, 0, 0) 10 = M61_.1 (12, 0, 0) 10 by rw [hM70_, up_ne (by simp)])]; exact kf65_
      have kf74_ : M69_.1 (12, 0, 0) 13 = 1 := by rw [(show M69_.1 (12, 0, 0) 13 = M61_.1 (12, 0, 0) 13 by rw [hM70_, up_ne (by simp)])]; exact kf67_
      have kf75_ : (M69_.1 (12, 0, 0) 13).toInt = 1 := by rw [(show M69_.1 (12, 0, 0) 13 = M61_.1 (12, 0, 0) 13 by rw [hM70_, up_ne (by simp)])]; exact kf68_
      refine w_aload_n dX12_text__80 rfl 0 rfl ?_
      refine w_getI fl_RX12_151 rfl rfl ic_12 dX12_text__81 (fun z76_ e77_ => ?_)
      have h78_ : 0 ≤ z76_.toInt ∧ z76_.toInt ≤ 1 := ofEq (P := fun v => 0 ≤ v.toInt ∧ v.toInt ≤ 1) e77_ (hI71_.1 (12, 0, 0) 13)
      have h79_ : z76_ = 1 := by rw [e77_]; exact kf74_
      have h80_ : z76_.toInt = 1 := by rw [e77_]; exact kf75_
      refine w_if_eq (tgt := 95) dX12_text__84 (by decide) (rfl : z76_.toInt = z76_.toInt) (fun h9 => (lf_c_X2_changeAir_0 z76_ h80_ h9 ).elim) (fun h81_ => ?_)
      refine w_bipush (v := (-10)) dX12_text__87 (by decide) ?_
      refine w_aload_n dX12_text__89 rfl 0 rfl ?_
      refine w_getI fl_RX12_155 rfl rfl ic_12 dX12_text__90 (fun z82_ e83_ => ?_)
      have h84_ : 0 ≤ z82_.toInt ∧ z82_.toInt ≤ 48 := ofEq (P := fun v => 0 ≤ v.toInt ∧ v.toInt ≤ 48) e83_ (hI71_.1 (12, 0, 0) 9)
      refine w_isubB dX12_text__93 li_m10 (rfl : z82_.toInt = z82_.toInt) (lf_c_X12_text__5 z82_ h84_ ) (fun z85_ h86_ => ?_)
      exact w_iret rfl dX12_text__94 ⟨hI71_, hF72_, trivial, (Or.inl ⟨hs5_, h4_, M7_, hM8_, M12_, hM13_, M18_, hM19_, M25_, hM26_, M32_, hM33_, M39_, hM40_, hI41_, M48_, hI51_, hF52_, hs54_, z56_, e57_, h58_, (Or.inl ⟨h60_, M61_, hM62_, h66_, M69_, hM70_, z76_, e77_, h78_, h79_, h80_, h81_, z82_, e83_, h84_, z85_, h86_, rfl, rfl⟩)⟩)⟩
    · refine w_aload_n dX12_text__58 rfl 0 rfl ?_
      refine w_callV (as := []) (rest := [vR (12, 0, 0)]) (c_X12_here l G cy ad (d + 72) 0 1 0 ((M39_.1 (50, 0, 0) 4).toInt) M48_ hI51_ h50_) kV_X12_here pnn_17 (Nat.le_of_ble_eq_true rfl) m_1575 rfl rfl rfl ic_12 rfl rfl (by decide) (Nat.le_of_ble_eq_true rfl) dX12_text__59 (fun r87_ M88_ q89_ => ?_)
      obtain ⟨hI91_, hF92_, h90_, hs94_⟩ := q89_
      have hF93_ := hF53_.tr hF92_ (fun c k => (fun h => h.elim (fun h => (Or.inr (Or.inl ⟨h.1, h.2.1, h.2.2⟩))) (fun h => h.elim)))
      have kf95_ : (M88_.1 (12, 0, 0) 10).toInt = v.toInt := by rw [(hF92_ (12, 0, 0) 10 (by simp [S_here]))]; exact kf55_
      have kf96_ : (M88_.1 (12, 0, 0) 13).toInt = z56_.toInt := by rw [(hF92_ (12, 0, 0) 13 (by simp [S_here]))]; exact kf59_
      have h97_ : PP M88_ 0 1 0 (M39_.1 (50, 0, 0) 4).toInt := h90_.1
      have h98_ : HB M88_ r87_ := h90_.2
      refine w_if_lt (tgt := 69) dX12_text__62 (by decide) (rfl : r87_.toInt = r87_.toInt) (fun h99_ => ?_) (fun h99_ => ?_)
      · refine w_iconst (v := 0) dX12_text__69 (by decide) ?_
        refine w_putZ DD_nd fl_RX12_151 rfl rfl ic_12 ⟨by decide, by decide⟩ dX12_text__70 (fun M100_ hM101_ => ?_)
        have hI102_ := hI91_.put hM101_ ⟨⟨by decide, by decide⟩, Or.inl (by decide)⟩
        have hF103_ := hF93_.put hM101_ (Or.inr (Or.inr (Or.inr (Or.inr (Or.inl ⟨rfl, rfl, rfl⟩)))))
        have kf104_ : (M100_.1 (12, 0, 0) 10).toInt = v.toInt := by rw [(show M100_.1 (12, 0, 0) 10 = M88_.1 (12, 0, 0) 10 by rw [hM101_, up_ne (by simp)])]; exact kf95_
        have h105_ : PP M100_ 0 1 0 (M39_.1 (50, 0, 0) 4).toInt := PP_put0 h97_ hM101_ (z0 (kf96_.trans (lf_c_X12_here_4 z56_ h58_ h60_ )))
        have kf106_ : M100_.1 (12, 0, 0) 13 = 0 := up_s hM101_
        have kf107_ : (M100_.1 (12, 0, 0) 13).toInt = 0 := by rw [kf106_]; decide
        have h108_ : dpt (M100_.1 (57, 0, 0)) 0 (M100_.1 (12, 0, 0) 14).toInt.toNat = some 1 := PP_D h105_ kf106_
        have kf109_ : (M100_.1 (12, 0, 0) 14).toInt ≤ 48 := PP_c48 hI102_ h105_ (Int.le_refl _)
        refine w_aload_n dX12_text__73 rfl 0 rfl ?_
        refine w_getR (c' := (50, 0, 0)) fl_RX12_9 rfl rfl ic_12 dX12_text__74 rfl ?_
        refine w_iconst (v := 4) dX12_text__77 (by decide) ?_
        refine w_iconst (v := 0) dX12_text__78 (by decide) ?_
        refine w_iastL 4 DD_nd rfl rfl ic_50 li_4 (by decide) dX12_text__79 (fun M110_ hM111_ => ?_)
        have hI112_ := hI102_.put50 hM111_ (lf_c_X12_text__3 )
        have hF113_ := hF103_.put hM111_ (Or.inr (Or.inr (Or.inr (Or.inr (Or.inr (Or.inr (Or.inr (Or.inl ⟨rfl, rfl, rfl⟩))))))))
        have kf114_ : (M110_.1 (12, 0, 0) 10).toInt = v.toInt := by rw [(show M110_.1 (12, 0, 0) 10 = M100_.1 (12, 0, 0) 10 by rw [hM111_, up_ne (by simp)])]; exact kf104_
        have kf115_ : M110_.1 (12, 0, 0) 13 = 0 := by rw [(show M110_.1 (12, 0, 0) 13 = M100_.1 (12, 0, 0) 13 by rw [hM111_, up_ne (by simp)])]; exact kf106_
        have kf116_ : (M110_.1 (12, 0, 0) 13).toInt = 0 := by rw [(show M110_.1 (12, 0, 0) 13 = M100_.1 (12, 0, 0) 13 by rw [hM111_, up_ne (by simp)])]; exact kf107_
        have kf117_ : dpt (M110_.1 (57, 0, 0)) 0 (M110_.1 (12, 0, 0) 14).toInt.toNat = some 1 := by rw [(show M110_.1 (57, 0, 0) = M100_.1 (57, 0, 0) by rw [hM111_]; exact up_other _ _ (by simp)), (show M110_.1 (12, 0, 0) 14 = M100_.1 (12, 0, 0) 14 by rw [hM111_, up_ne (by simp)])]; exact h108_
        have kf118_ : (M110_.1 (12, 0, 0) 14).toInt ≤ 48 := by rw [(show M110_.1 (12, 0, 0) 14 = M100_.1 (12, 0, 0) 14 by rw [hM111_, up_ne (by simp)])]; exact kf109_
        refine w_aload_n dX12_text__80 rfl 0 rfl ?_
        refine w_getI fl_RX12_151 rfl rfl ic_12 dX12_text__81 (fun z119_ e120_ => ?_)
        have h121_ : 0 ≤ z119_.toInt ∧ z119_.toInt ≤ 1 := ofEq (P := fun v => 0 ≤ v.toInt ∧ v.toInt ≤ 1) e120_ (hI112_.1 (12, 0, 0) 13)
        have h122_ : z119_ = 0 := by rw [e120_]; exact kf115_
        have h123_ : z119_.toInt = 0 := by rw [e120_]; exact kf116_
        refine w_if_eq (tgt := 95) dX12_text__84 (by decide) (rfl : z119_.toInt = z119_.toInt) (fun h124_ => ?_) (fun h9 => (lf_c_X12_kind_4 z119_ h121_ h123_ h9 ).elim)
        have hI125_ : InvT v.toInt.toNat M110_ := InvT.of hI112_
        refine w_aload_n dX12_text__95 rfl 0 rfl ?_
        refine w_getR (c' := (50, 0, 0)) fl_RX12_9 rfl rfl ic_12 dX12_text__96 rfl ?_
        refine w_sipush (v := 345) dX12_text__99 (by decide) ?_
        refine w_bipush (v := 50) dX12_text__102 (by decide) ?_
        refine w_aload_n dX12_text__104 rfl 0 rfl ?_
        refine w_getI fl_RX12_181 rfl rfl ic_12 dX12_text__105 (fun z126_ e127_ => ?_)
        have h128_ : 0 ≤ z126_.toInt ∧ z126_.toInt ≤ 2 := ofEq (P := fun v => 0 ≤ v.toInt ∧ v.toInt ≤ 2) e127_ (hI125_.1 (12, 0, 0) 10)
        have h129_ : z126_.toInt = v.toInt := by rw [e127_]; exact kf114_
        refine w_imulB dX12_text__108 li_50 (rfl : z126_.toInt = z126_.toInt) (lf_c_X12_hasText_0 z126_ h128_ ) (fun z130_ h131_ => ?_)
        refine w_iaddB dX12_text__109 li_345 (rfl : z130_.toInt = z130_.toInt) (lf_c_X12_hasText_1 z126_ z130_ h128_ h131_ ) (fun z132_ h133_ => ?_)
        refine w_aload_n dX12_text__110 rfl 0 rfl ?_
        refine w_getI fl_RX12_162 rfl rfl ic_12 dX12_text__111 (fun z134_ e135_ => ?_)
        have h136_ : 0 ≤ z134_.toInt ∧ z134_.toInt ≤ 49 := ofEq (P := fun v => 0 ≤ v.toInt ∧ v.toInt ≤ 49) e135_ (hI125_.1 (12, 0, 0) 14)
        have h137_ : z134_.toInt ≤ 48 := by rw [e135_]; exact kf118_
        refine w_iast DD_nd rfl rfl ic_50 (rfl : z132_.toInt = z132_.toInt) (lf_c_X12_hasText_2 z126_ z130_ z132_ h128_ h131_ h133_ ) dX12_text__114 (fun j140_ h141_ M138_ hM139_ => ?_)
        have hI142_ := hI125_.putT hM139_ (lf_c_X12_text__12 v z126_ z130_ z132_ j140_ h4_ h129_ h131_ h133_ h141_ )
        have hF143_ := hF113_.put hM139_ (Or.inr (Or.inr (Or.inr (Or.inr (Or.inr (Or.inr (Or.inr (Or.inr (Or.inl ⟨rfl, rfl⟩)))))))))
        have kf144_ : (M138_.1 (12, 0, 0) 10).toInt = v.toInt := by rw [(show M138_.1 (12, 0, 0) 10 = M110_.1 (12, 0, 0) 10 by rw [hM139_, up_ne (by simp)])]; exact kf114_
        have kf145_ : M138_.1 (12, 0, 0) 13 = 0 := by rw [(show M138_.1 (12, 0, 0) 13 = M110_.1 (12, 0, 0) 13 by rw [hM139_, up_ne (by simp)])]; exact kf115_
        have kf146_ : (M138_.1 (12, 0, 0) 13).toInt = 0 := by rw [(show M138_.1 (12, 0, 0) 13 = M110_.1 (12, 0, 0) 13 by rw [hM139_, up_ne (by simp)])]; exact kf116_
        have kf147_ : dpt (M138_.1 (57, 0, 0)) 0 (M138_.1 (12, 0, 0) 14).toInt.toNat = some 1 := by rw [(show M138_.1 (57, 0, 0) = M110_.1 (57, 0, 0) by rw [hM139_]; exact up_other _ _ (by simp)), (show M138_.1 (12, 0, 0) 14 = M110_.1 (12, 0, 0) 14 by rw [hM139_, up_ne (by simp)])]; exact kf117_
        have kf148_ : (M138_.1 (12, 0, 0) 14).toInt ≤ 48 := by rw [(show M138_.1 (12, 0, 0) 14 = M110_.1 (12, 0, 0) 14 by rw [hM139_, up_ne (by simp)])]; exact kf118_
        have h149_ : TX M138_ v.toInt.toNat 0 := TX_0 kf118_ (by rw [← e135_]; exact (lf_c_X12_text__13 z134_ h136_ )) kf117_ hM139_ e135_ (lf_c_X12_text__14 v z126_ z130_ z132_ j140_ h4_ h129_ h131_ h133_ h141_ )
        refine w_iconst (v := 0) dX12_text__115 (by decide) ?_
        refine w_istore_n (ls' := [(2, vI 0), (0, vR (12, 0, 0)), (1, vI v)]) dX12_text__116 rfl (by decide) rfl ?_
        have lp150_ : ∀ (nn_117 : Nat) (M_117 : mM) (hI_117 : InvT v.toInt.toNat M_117) (hF_117 : FR (S_c_X12_text_) Mz M_117) (v2_117 : Int32) (hv0_117 : 0 ≤ v2_117.toInt) (hv1_117 : v2_117.toInt ≤ 49) (hv2_117 : TX M_117 v.toInt.toNat v2_117.toInt) (kv0_117 : (M_117.1 (12, 0, 0) 10).toInt = v.toInt) (kv1_117 : M_117.1 (12, 0, 0) 13 = 0) (kv2_117 : (M_117.1 (12, 0, 0) 13).toInt = 0) (kv3_117 : dpt (M_117.1 (57, 0, 0)) 0 (M_117.1 (12, 0, 0) 14).toInt.toNat = some 1) (kv4_117 : (M_117.1 (12, 0, 0) 14).toInt ≤ 48) (hL_117 : RCH (fun x_ y_ => ST_X12_text__117 v Mz x_.1 x_.2 y_.1 y_.2) ((0 : Int32), M138_) (v2_117, M_117)), (49 - v2_117.toInt).toNat < nn_117 → WP DD l G cy ad yX12_text_ cX12_text_ 3 (some .int) (d + 73) 117 [(2, vI v2_117), (0, vR (12, 0, 0)), (1, vI v)] [] M_117 (fun r M' => InvD M' ∧ FR (S_c_X12_text_) Mz M' ∧ (True) ∧ SP_X12_text_ v Mz r M') := by
          intro nn_117
          induction nn_117 with
          | zero => intro M_117 hI_117 hF_117 v2_117 hv0_117 hv1_117 hv2_117 kv0_117 kv1_117 kv2_117 kv3_117 kv4_117 hL_117 hm_117; exact absurd hm_117 (Nat.not_lt_zero _)
          | succ nn_117 ih_117 =>
            intro M_117 hI_117 hF_117 v2_117 hv0_117 hv1_117 hv2_117 kv0_117 kv1_117 kv2_117 kv3_117 kv4_117 hL_117 hm_117
            refine w_iload_n dX12_text__117 rfl 0 rfl ?_
            refine w_aload_n dX12_text__118 rfl 1 rfl ?_
            refine w_getI fl_RX12_162 rfl rfl ic_12 dX12_text__119 (fun z151_ e152_ => ?_)
            have h153_ : 0 ≤ z151_.toInt ∧ z151_.toInt ≤ 49 := ofEq (P := fun v => 0 ≤ v.toInt ∧ v.toInt ≤ 49) e152_ (hI_117.1 (12, 0, 0) 14)
            have h154_ : z151_.toInt ≤ 48 := by rw [e152_]; exact kv4_117
            refine w_icmp_ge (tgt := 157) dX12_text__122 (by decide) (rfl : v2_117.toInt = v2_117.toInt) (rfl : z151_.toInt = z151_.toInt) (fun h155_ => ?_) (fun h155_ => ?_)
            · have hI156_ : InvD M_117 := TX_end hv2_117 hI_117 (lf_c_X12_text__15 v h4_ ) e152_ (lf_c_X12_findTold_7 v2_117 z151_ h155_ )
              refine w_aload_n dX12_text__157 rfl 1 rfl ?_
              refine w_getI fl_RX12_203 rfl rfl ic_12 dX12_text__158 (fun z157_ e158_ => ?_)
              exact w_iret rfl dX12_text__161 ⟨hI156_, hF_117, trivial, (Or.inl ⟨hs5_, h4_, M7_, hM8_, M12_, hM13_, M18_, hM19_, M25_, hM26_, M32_, hM33_, M39_, hM40_, hI41_, M48_, hI51_, hF52_, hs54_, z56_, e57_, h58_, (Or.inr ⟨h60_, M88_, hI91_, hF92_, r87_, hs94_, h98_, (Or.inl ⟨h99_, M100_, hM101_, h105_, h108_, M110_, hM111_, z119_, e120_, h121_, h122_, h123_, h124_, z126_, e127_, h128_, h129_, z130_, h131_, z132_, h133_, z134_, e135_, h136_, h137_, j140_, h141_, M138_, hM139_, v2_117, hv0_117, hv1_117, M_117, hv2_117, hL_117, hI_117, hF_117, z151_, e152_, h153_, h154_, h155_, z157_, e158_, rfl, rfl⟩)⟩)⟩)⟩
            · refine w_aload_n dX12_text__125 rfl 1 rfl ?_
              refine w_getR (c' := (50, 0, 0)) fl_RX12_9 rfl rfl ic_12 dX12_text__126 rfl ?_
              refine w_sipush (v := 345) dX12_text__129 (by decide) ?_
              refine w_bipush (v := 50) dX12_text__132 (by decide) ?_
              refine w_aload_n dX12_text__134 rfl 1 rfl ?_
              refine w_getI fl_RX12_181 rfl rfl ic_12 dX12_text__135 (fun z159_ e160_ => ?_)
              have h161_ : 0 ≤ z159_.toInt ∧ z159_.toInt ≤ 2 := ofEq (P := fun v => 0 ≤ v.toInt ∧ v.toInt ≤ 2) e160_ (hI_117.1 (12, 0, 0) 10)
              have h162_ : z159_.toInt = v.toInt := by rw [e160_]; exact kv0_117
              refine w_imulB dX12_text__138 li_50 (rfl : z159_.toInt = z159_.toInt) (lf_c_X12_hasText_0 z159_ h161_ ) (fun z163_ h164_ => ?_)
              refine w_iaddB dX12_text__139 li_345 (rfl : z163_.toInt = z163_.toInt) (lf_c_X12_hasText_1 z159_ z163_ h161_ h164_ ) (fun z165_ h166_ => ?_)
              refine w_iconst (v := 1) dX12_text__140 (by decide) ?_
              refine w_iaddB dX12_text__141 (rfl : z165_.toInt = z165_.toInt) li_1 (lf_c_X12_given_2 z159_ z163_ z165_ h161_ h164_ h166_ ) (fun z167_ h168_ => ?_)
              refine w_iload_n dX12_text__142 rfl 0 rfl ?_
              refine w_iaddB dX12_text__143 (rfl : z167_.toInt = z167_.toInt) (rfl : v2_117.toInt = v2_117.toInt) (lf_c_X12_text__20 v2_117 z159_ z163_ z165_ z167_ hv0_117 hv1_117 h161_ h164_ h166_ h168_ ) (fun z169_ h170_ => ?_)
              refine w_aload_n dX12_text__144 rfl 1 rfl ?_
              refine w_getR (c' := (57, 0, 0)) fl_RX12_44 rfl rfl ic_12 dX12_text__145 rfl ?_
              refine w_iload_n dX12_text__148 rfl 0 rfl ?_
              refine w_iald rfl rfl ic_57 (rfl : v2_117.toInt = v2_117.toInt) (lf_c_X12_text__21 v2_117 z151_ hv0_117 h154_ h155_ ) dX12_text__149 (fun j173_ h174_ z171_ e172_ => ?_)
              refine w_iast DD_nd rfl rfl ic_50 (rfl : z169_.toInt = z169_.toInt) (lf_c_X12_text__22 v2_117 z159_ z163_ z165_ z167_ z169_ hv0_117 hv1_117 h161_ h164_ h166_ h168_ h170_ ) dX12_text__150 (fun j177_ h178_ M175_ hM176_ => ?_)
              have hI179_ := hI_117.putT hM176_ (lf_c_X12_text__23 v v2_117 z151_ z159_ z163_ z165_ z167_ z169_ j177_ h4_ hv0_117 h154_ h155_ h162_ h164_ h166_ h168_ h170_ h178_ )
              have hF180_ := hF_117.put hM176_ (Or.inr (Or.inr (Or.inr (Or.inr (Or.inr (Or.inr (Or.inr (Or.inr (Or.inl ⟨rfl, rfl⟩)))))))))
              have kf181_ : (M175_.1 (12, 0, 0) 10).toInt = v.toInt := by rw [(show M175_.1 (12, 0, 0) 10 = M_117.1 (12, 0, 0) 10 by rw [hM176_, up_ne (by simp)])]; exact kv0_117
              have kf182_ : M175_.1 (12, 0, 0) 13 = 0 := by rw [(show M175_.1 (12, 0, 0) 13 = M_117.1 (12, 0, 0) 13 by rw [hM176_, up_ne (by simp)])]; exact kv1_117
              have kf183_ : (M175_.1 (12, 0, 0) 13).toInt = 0 := by rw [(show M175_.1 (12, 0, 0) 13 = M_117.1 (12, 0, 0) 13 by rw [hM176_, up_ne (by simp)])]; exact kv2_117
              have kf184_ : dpt (M175_.1 (57, 0, 0)) 0 (M175_.1 (12, 0, 0) 14).toInt.toNat = some 1 := by rw [(show M175_.1 (57, 0, 0) = M_117.1 (57, 0, 0) by rw [hM176_]; exact up_other _ _ (by simp)), (show M175_.1 (12, 0, 0) 14 = M_117.1 (12, 0, 0) 14 by rw [hM176_, up_ne (by simp)])]; exact kv3_117
              have kf185_ : (M175_.1 (12, 0, 0) 14).toInt ≤ 48 := by rw [(show M175_.1 (12, 0, 0) 14 = M_117.1 (12, 0, 0) 14 by rw [hM176_, up_ne (by simp)])]; exact kv4_117
              refine w_iincB (j := 0) (f := fun z186_ => [(2, vI z186_), (0, vR (12, 0, 0)), (1, vI v)]) dX12_text__151 rfl (by decide) (fun _ => rfl) (rfl : v2_117.toInt = v2_117.toInt) li_1 (lf_c_X12_text__24 v2_117 hv0_117 hv1_117 ) (fun z186_ h187_ => ?_)
              refine w_goto (tgt := 117) dX12_text__154 (by decide) ?_
              refine w_loc (ls' := [(2, vI z186_), (0, vR (12, 0, 0)), (1, vI v)]) [0, 1, 2] rfl ?_
              exact ih_117 M175_ hI179_ hF180_ z186_ (lf_c_X5_takeFrom_3 v2_117 z186_ hv0_117 h187_ ) (lf_c_X12_text__26 v2_117 z151_ z186_ h154_ h155_ h187_ ) (TX_s hv2_117 hM176_ e172_ (lf_c_X12_text__27 v v2_117 z159_ z163_ z165_ z167_ z169_ j177_ h4_ h162_ h164_ h166_ h168_ h170_ h178_ ) (lf_c_X12_lays_6 v2_117 j173_ h174_ ) (lf_c_X12_given_13 v2_117 hv0_117 ) (lf_c_X12_given_25 v2_117 z186_ h187_ )) kf181_ kf182_ kf183_ kf184_ kf185_ (RCH.tail hL_117 ⟨hv0_117, hv1_117, hv2_117, hI_117, hF_117, z151_, e152_, h153_, h154_, h155_, z159_, e160_, h161_, h162_, z163_, h164_, z165_, h166_, z167_, h168_, z169_, h170_, j173_, h174_, z171_, e172_, j177_, h178_, M175_, hM176_, z186_, h187_, rfl, rfl⟩) (Nat.lt_of_lt_of_le (lf_c_X12_text__31 v2_117 z151_ z186_ h154_ h155_ h187_ ) (Nat.le_of_lt_succ hm_117))
        exact lp150_ _ M138_ hI142_ hF143_ 0 (lf_c_X5_takeFrom_5 ) (lf_c_X12_text__33 ) (by rw [li_0]; exact h149_) kf144_ kf145_ kf146_ kf147_ kf148_ RCH.refl (Nat.lt_succ_self _)
      · refine w_iconst (v := 1) dX12_text__65 (by decide) ?_
        refine w_goto (tgt := 70) dX12_text__66 (by decide) ?_
        refine w_putZ DD_nd fl_RX12_151 rfl rfl ic_12 ⟨by decide, by decide⟩ dX12_text__70 (fun M188_ hM189_ => ?_)
        have hI190_ := hI91_.put hM189_ ⟨⟨by decide, by decide⟩, Or.inl (by decide)⟩
        have hF191_ := hF93_.put hM189_ (Or.inr (Or.inr (Or.inr (Or.inr (Or.inl ⟨rfl, rfl, rfl⟩)))))
        have kf192_ : (M188_.1 (12, 0, 0) 10).toInt = v.toInt := by rw [(show M188_.1 (12, 0, 0) 10 = M88_.1 (12, 0, 0) 10 by rw [hM189_, up_ne (by simp)])]; exact kf95_
        have h193_ : PP M188_ 0 1 0 (M39_.1 (50, 0, 0) 4).toInt := PP_put1 h97_ hM189_
        have kf194_ : M188_.1 (12, 0, 0) 13 = 1 := up_s hM189_
        have kf195_ : (M188_.1 (12, 0, 0) 13).toInt = 1 := by rw [kf194_]; decide
        refine w_aload_n dX12_text__73 rfl 0 rfl ?_
        refine w_getR (c' := (50, 0, 0)) fl_RX12_9 rfl rfl ic_12 dX12_text__74 rfl ?_
        refine w_iconst (v := 4) dX12_text__77 (by decide) ?_
        refine w_iconst (v := 0) dX12_text__78 (by decide) ?_
        refine w_iastL 4 DD_nd rfl rfl ic_50 li_4 (by decide) dX12_text__79 (fun M196_ hM197_ => ?_)
        have hI198_ := hI190_.put50 hM197_ (lf_c_X12_text__3 )
        have hF199_ := hF191_.put hM197_ (Or.inr (Or.inr (Or.inr (Or.inr (Or.inr (Or.inr (Or.inr (Or.inl ⟨rfl, rfl, rfl⟩))))))))
        have kf200_ : (M196_.1 (12, 0, 0) 10).toInt = v.toInt := by rw [(show M196_.1 (12, 0, 0) 10 = M188_.1 (12, 0, 0) 10 by rw [hM197_, up_ne (by simp)])]; exact kf192_
        have kf201_ : M196_.1 (12, 0, 0) 13 = 1 := by rw [(show M196_.1 (12, 0, 0) 13 = M188_.1 (12, 0, 0) 13 by rw [hM197_, up_ne (by simp)])]; exact kf194_
        have kf202_ : (M196_.1 (12, 0, 0) 13).toInt = 1 := by rw [(show M196_.1 (12, 0, 0) 13 = M188_.1 (12, 0, 0) 13 by rw [hM197_, up_ne (by simp)])]; exact kf195_
        refine w_aload_n dX12_text__80 rfl 0 rfl ?_
        refine w_getI fl_RX12_151 rfl rfl ic_12 dX12_text__81 (fun z203_ e204_ => ?_)
        have h205_ : 0 ≤ z203_.toInt ∧ z203_.toInt ≤ 1 := ofEq (P := fun v => 0 ≤ v.toInt ∧ v.toInt ≤ 1) e204_ (hI198_.1 (12, 0, 0) 13)
        have h206_ : z203_ = 1 := by rw [e204_]; exact kf201_
        have h207_ : z203_.toInt = 1 := by rw [e204_]; exact kf202_
        refine w_if_eq (tgt := 95) dX12_text__84 (by decide) (rfl : z203_.toInt = z203_.toInt) (fun h9 => (lf_c_X2_changeAir_0 z203_ h207_ h9 ).elim) (fun h208_ => ?_)
        refine w_bipush (v := (-10)) dX12_text__87 (by decide) ?_
        refine w_aload_n dX12_text__89 rfl 0 rfl ?_
        refine w_getI fl_RX12_155 rfl rfl ic_12 dX12_text__90 (fun z209_ e210_ => ?_)
        have h211_ : 0 ≤ z209_.toInt ∧ z209_.toInt ≤ 48 := ofEq (P := fun v => 0 ≤ v.toInt ∧ v.toInt ≤ 48) e210_ (hI198_.1 (12, 0, 0) 9)
        refine w_isubB dX12_text__93 li_m10 (rfl : z209_.toInt = z209_.toInt) (lf_c_X12_text__5 z209_ h211_ ) (fun z212_ h213_ => ?_)
        exact w_iret rfl dX12_text__94 ⟨hI198_, hF199_, trivial, (Or.inl ⟨hs5_, h4_, M7_, hM8_, M12_, hM13_, M18_, hM19_, M25_, hM26_, M32_, hM33_, M39_, hM40_, hI41_, M48_, hI51_, hF52_, hs54_, z56_, e57_, h58_, (Or.inr ⟨h60_, M88_, hI91_, hF92_, r87_, hs94_, h98_, (Or.inr ⟨h99_, M188_, hM189_, h193_, M196_, hM197_, z203_, e204_, h205_, h206_, h207_, h208_, z209_, e210_, h211_, z212_, h213_, rfl, rfl⟩)⟩)⟩)⟩
  · simp only [li_0, li_2] at h4_
    refine w_if_ne (tgt := 16) dX12_text__6 (by decide) li_0 (fun h9 => (absurd h9 (by decide))) (fun h214_ => ?_)
    refine w_aload_n dX12_text__9 rfl 0 rfl ?_
    refine w_ldc (v := (-1000001)) m_1433 dX12_text__10 ?_
    refine w_callV (as := [vI (-1000001)]) (rest := []) (c_X12_finding l G cy ad (d + 72) (-1000001) Mz hIz (by first | decide | (unfold vF; omega) | (unfold vRw; omega))) kV_X12_finding pnn_17 (Nat.le_of_ble_eq_true rfl) m_1434 rfl rfl rfl ic_12 rfl rfl (by decide) (Nat.le_of_ble_eq_true rfl) dX12_text__12 (fun r215_ M216_ q217_ => ?_)
    obtain ⟨hI219_, hF220_, h218_, hs222_⟩ := q217_
    have hF221_ := hFz.tr hF220_ (fun c k => (fun h => h.elim (fun h => (Or.inr (Or.inr (Or.inr (Or.inr (Or.inr (Or.inr (Or.inr (Or.inr (Or.inr (Or.inl ⟨h.1, h.2⟩))))))))))) (fun h => h.elim)))
    simp only [li_m1000001] at h218_
    exact w_iret rfl dX12_text__15 ⟨hI219_, hF221_, trivial, (Or.inr ⟨hs5_, h4_, M216_, hI219_, hF220_, r215_, hs222_, h218_, rfl, rfl⟩)⟩
end
